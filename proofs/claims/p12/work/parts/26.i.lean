/-! the reference's free cells and which are near -/
theorem mn_bs {W a b : Nat} (hW : 0 < W) (h : mv_bs W a b) : a + W = b ∨ b + W = a ∨ a + 1 = b ∨ b + 1 = a := by
  have ea := Nat.div_add_mod a W
  have eb := Nat.div_add_mod b W
  rcases h with ⟨h1, h2 | h2⟩ | ⟨h1, h2 | h2⟩
  · rw [h2, Nat.mul_succ] at ea; omega
  · rw [h2, Nat.mul_succ] at eb; omega
  · rw [h1] at ea; omega
  · rw [h1] at ea; omega
def mn_G (W c y : Nat) : Nat := (if c < y + W then 1 else 0) + (if c < y + 1 then 1 else 0) + (if c < y then 1 else 0) + (if c + 1 < y then 1 else 0) + (if c + W < y then 1 else 0)
theorem mn_G5 (W c y : Nat) : mn_G W c y ≤ 5 := by unfold mn_G; split <;> split <;> split <;> split <;> split <;> omega
theorem mn_Gm {W c y y' : Nat} (h : y ≤ y') : mn_G W c y ≤ mn_G W c y' := by
  have e : ∀ (a b : Nat), a ≤ b → ∀ k, (if k < a then 1 else 0) ≤ (if k < b then 1 else 0) := by
    intro a b hab k
    by_cases g : k < a
    · rw [if_pos g, if_pos (by omega)]; exact Nat.le_refl _
    · rw [if_neg g]; exact Nat.zero_le _
  unfold mn_G
  have e1 := e (y + W) (y' + W) (by omega) c
  have e2 := e (y + 1) (y' + 1) (by omega) c
  have e3 := e y y' h c
  have e4 := e y y' h (c + 1)
  have e5 := e y y' h (c + W)
  omega
theorem mn_Gh {W c b : Nat} (h : b = c ∨ b + W = c ∨ c + W = b ∨ b + 1 = c ∨ c + 1 = b) : mn_G W c b + 1 ≤ mn_G W c (b + 1) := by
  have e : ∀ (a b : Nat), a ≤ b → ∀ k, (if k < a then 1 else 0) ≤ (if k < b then 1 else 0) := by
    intro a b hab k
    by_cases g : k < a
    · rw [if_pos g, if_pos (by omega)]; exact Nat.le_refl _
    · rw [if_neg g]; exact Nat.zero_le _
  unfold mn_G
  have e1 := e (b + W) (b + 1 + W) (by omega) c
  have e2 := e (b + 1) (b + 1 + 1) (by omega) c
  have e3 := e b (b + 1) (by omega) c
  have e4 := e b (b + 1) (by omega) (c + 1)
  have e5 := e b (b + 1) (by omega) (c + W)
  rcases h with h | h | h | h | h
  · rw [if_neg (show ¬ c < b by omega), if_pos (show c < b + 1 by omega)] at *; omega
  · rw [if_neg (show ¬ c < b + W by omega), if_pos (show c < b + 1 + W by omega)] at *; omega
  · rw [if_neg (show ¬ c + W < b by omega), if_pos (show c + W < b + 1 by omega)] at *; omega
  · rw [if_neg (show ¬ c < b + 1 by omega), if_pos (show c < b + 1 + 1 by omega)] at *; omega
  · rw [if_neg (show ¬ c + 1 < b by omega), if_pos (show c + 1 < b + 1 by omega)] at *; omega
/-- the free cells, counted up -/
def mn_C (N : Nat) (wf : Nat → Int32) (z : Nat) (cf xf : Nat → Int32) (ce : Nat → Nat) : Prop :=
  (∀ k, k < fx_cnt wf z → cf k = nI (ce k) ∧ ce k < z ∧ wf (ce k) = 0 ∧ fx_cnt wf (ce k) = k) ∧ ∀ c, c < z → wf c = 0 → xf c = nI (fx_cnt wf c)
theorem mn_Cs {N z : Nat} {wf cf xf : Nat → Int32} {ce : Nat → Nat} (h : mn_C N wf z cf xf ce) (h0 : wf z = 0) : mn_C N wf (z + 1) (upd cf (fx_cnt wf z) (nI z)) (upd xf z (nI (fx_cnt wf z))) (sx_up ce (fx_cnt wf z) z) := by
  have e : fx_cnt wf (z + 1) = fx_cnt wf z + 1 := by show _ + _ = _; rw [if_pos h0]
  refine ⟨?_, ?_⟩
  · intro k hk
    by_cases g : k = fx_cnt wf z
    · rw [g, pk_us, sx_up_s]; exact ⟨rfl, by omega, h0, rfl⟩
    · rw [pk_un g, sx_up_n g]
      have := h.1 k (by omega)
      exact ⟨this.1, by omega, this.2.2.1, this.2.2.2⟩
  · intro c hc hw
    by_cases g : c = z
    · rw [g, pk_us]
    · rw [pk_un g]; exact h.2 c (by omega) hw
theorem mn_Cn {N z : Nat} {wf cf xf : Nat → Int32} {ce : Nat → Nat} (h : mn_C N wf z cf xf ce) (h0 : ¬ wf z = 0) : mn_C N wf (z + 1) cf xf ce := by
  have e : fx_cnt wf (z + 1) = fx_cnt wf z := by show _ + _ = _; rw [if_neg h0]; rfl
  refine ⟨fun k hk => ?_, fun c hc hw => ?_⟩
  · rw [e] at hk; have := h.1 k hk; exact ⟨this.1, by omega, this.2.2.1, this.2.2.2⟩
  · have : c ≠ z := fun q => h0 (by rw [← q]; exact hw)
    exact h.2 c (by omega) hw
theorem mn_Ci {N z : Nat} {wf cf xf : Nat → Int32} {ce : Nat → Nat} (h : mn_C N wf z cf xf ce) {j k : Nat} (hjk : j < k) (hk : k < fx_cnt wf z) : ce j < ce k := by
  rcases Nat.lt_or_ge (ce j) (ce k) with g | g
  · exact g
  · exfalso
    have h1 := (h.1 j (by omega)).2.2.2
    have h2 := (h.1 k hk).2.2.2
    have := fx_cnt_mono (wf := wf) g
    omega
def mn_R (W : Nat) (ce : Nat → Nat) (k j : Nat) : Prop := j = k ∨ mv_bs W (ce j) (ce k)
/-- one row of near ones, those below jz tried -/
def mn_K (W F : Nat) (ce : Nat → Nat) (k jz cnt : Nat) (nf : Nat → Int32) : Prop := (∀ i, i < cnt → ∃ j, j < F ∧ nf (5 * k + i) = nI j ∧ mn_R W ce k j) ∧ ∀ j, j < jz → mn_R W ce k j → ∃ i, i < cnt ∧ nf (5 * k + i) = nI j
theorem mn_Ks {W F k jz cnt : Nat} {ce : Nat → Nat} {nf : Nat → Int32} (h : mn_K W F ce k jz cnt nf) (hj : jz < F) (hR : mn_R W ce k jz) : mn_K W F ce k (jz + 1) (cnt + 1) (upd nf (5 * k + cnt) (nI jz)) := by
  refine ⟨fun i hi => ?_, fun j hj2 hR2 => ?_⟩
  · by_cases e : i = cnt
    · subst e; exact ⟨jz, hj, pk_us, hR⟩
    · obtain ⟨j, q1, q2, q3⟩ := h.1 i (by omega)
      exact ⟨j, q1, (pk_un (by omega)).trans q2, q3⟩
  · by_cases e : j = jz
    · subst e; exact ⟨cnt, by omega, pk_us⟩
    · obtain ⟨i, q1, q2⟩ := h.2 j (by omega) hR2
      exact ⟨i, by omega, (pk_un (by omega)).trans q2⟩
theorem mn_Kn {W F k jz cnt : Nat} {ce : Nat → Nat} {nf : Nat → Int32} (h : mn_K W F ce k jz cnt nf) (hR : ¬ mn_R W ce k jz) : mn_K W F ce k (jz + 1) cnt nf := ⟨h.1, fun j hj hR2 => h.2 j (by rcases Nat.lt_or_ge j jz with g | g; exact g; exact absurd (by rw [← show j = jz by omega]; exact hR2) hR) hR2⟩
/-- all rows below kz -/
def mn_A (W F : Nat) (ce : Nat → Nat) (kz : Nat) (nf kf : Nat → Int32) : Prop := ∀ k, k < kz → ∃ cnt, 1 ≤ cnt ∧ cnt ≤ 5 ∧ kf k = nI cnt ∧ mn_K W F ce k F cnt nf
theorem mn_A_c {W F kz : Nat} {ce : Nat → Nat} {nf nf' kf kf' : Nat → Int32} (h : mn_A W F ce kz nf kf) (h1 : ∀ i, i < 5 * kz → nf' i = nf i) (h2 : ∀ i, i < kz → kf' i = kf i) : mn_A W F ce kz nf' kf' := by
  intro k hk
  obtain ⟨cnt, q1, q2, q3, q4⟩ := h k hk
  refine ⟨cnt, q1, q2, (h2 k hk).trans q3, fun i hi => ?_, fun j hj hR => ?_⟩
  · obtain ⟨j, r1, r2, r3⟩ := q4.1 i hi
    exact ⟨j, r1, (h1 _ (by omega)).trans r2, r3⟩
  · obtain ⟨i, r1, r2⟩ := q4.2 j hj hR
    exact ⟨i, r1, (h1 _ (by omega)).trans r2⟩
