/-! what the class keeps between the calls -/
theorem mt_dim {x y : Int32} (h1 : ¬ x < 1) (h2 : ¬ 6 < x) (h3 : ¬ y < 1) (h4 : ¬ 6 < y) (h5 : x * y ≤ 25) : ∃ W0 H0 : Nat, x = nI W0 ∧ y = nI H0 ∧ 1 ≤ W0 ∧ W0 ≤ 6 ∧ H0 ≤ 6 ∧ W0 * H0 ≤ 25 := by
  have a1 : ¬ x < 0 := fun q => h1 (Int32.lt_trans q (by decide))
  have a2 : ¬ y < 0 := fun q => h3 (Int32.lt_trans q (by decide))
  obtain ⟨j, hj, rfl⟩ := nI_of a1
  obtain ⟨k, hk, rfl⟩ := nI_of a2
  have b0 : 1 ≤ j := by
    rcases Nat.lt_or_ge j 1 with g | g
    · exact absurd (nI_lt (b := 1) g (by decide)) h1
    · exact g
  have b1 : j ≤ 6 := by
    rcases Nat.lt_or_ge 6 j with g | g
    · exact absurd (nI_lt (a := 6) g hj) h2
    · exact g
  have b2 : k ≤ 6 := by
    rcases Nat.lt_or_ge 6 k with g | g
    · exact absurd (nI_lt (a := 6) g hk) h4
    · exact g
  refine ⟨j, k, rfl, rfl, b0, b1, b2, ?_⟩
  rw [pk_mul] at h5
  have b3 : j * k ≤ 6 * 6 := Nat.mul_le_mul b1 b2
  rcases Nat.lt_or_ge 25 (j * k) with g | g
  · exact absurd h5 (nI_ge (a := 25) g (by omega))
  · exact g
def xv_F (W0 H0 : Nat) (wf rk sc : Nat → Int32) (Ms : Nat → Nat → Int32) : Prop := (1 ≤ W0 ∧ W0 ≤ 6 ∧ H0 ≤ 6 ∧ W0 * H0 ≤ 25) ∧ fx_Ok W0 (W0 * H0) wf rk sc Ms (W0 * H0) ∧ fx_sc sc
def xv_C (W0 H0 n : Nat) (wf rk sc s5 g5 : Nat → Int32) (Ms Mg : Nat → Nat → Int32) (sp gl : Nat → Nat) : Prop := px_C (fx_cnt wf (W0 * H0)) n (W0 * H0) W0 wf rk sc g5 Ms Mg gl ∧ ∀ i, i < n → s5 i = nI (sp i) ∧ fx_fr (W0 * H0) wf (sp i)
def xv_I (W0 H0 n : Nat) (wf rk sc : Nat → Int32) (Ms : Nat → Nat → Int32) (s5 g5 : Nat → Int32) (Mg : Nat → Nat → Int32) (wo : Nat → Int64) (Mp : Nat → Nat → Int32) (pen psu pnm pkn pfo : Int32) (lf : Nat → Int32) : Prop :=
  xv_F W0 H0 wf rk sc Ms ∧ (∀ k, k < 6 → ∃ L, L ≤ 30 ∧ lf k = nI L) ∧ ∃ sp gl, xv_C W0 H0 n wf rk sc s5 g5 Ms Mg sp gl ∧ px_I (fx_cnt wf (W0 * H0)) n (W0 * H0) wf rk sc Ms Mg gl sp wo Mp pen psu pnm pkn pfo
theorem xv_C0 {W0 H0 : Nat} {wf rk sc s5 g5 : Nat → Int32} {Ms Mg : Nat → Nat → Int32} (h : xv_F W0 H0 wf rk sc Ms) : xv_C W0 H0 0 wf rk sc s5 g5 Ms Mg (fun _ => 0) (fun _ => 0) := ⟨⟨by omega, h.1.2.2.2, by rw [Nat.pow_zero]; decide, rfl, h.2.1, fun m hm => absurd hm (Nat.not_lt_zero _)⟩, fun i hi => absurd hi (Nat.not_lt_zero _)⟩
theorem xv_I0 {W0 H0 : Nat} {wf rk sc s5 g5 lf : Nat → Int32} {Ms Mg Mp : Nat → Nat → Int32} {wo : Nat → Int64} {pen psu : Int32} (h : xv_F W0 H0 wf rk sc Ms) (hl : ∀ k, k < 6 → ∃ L, L ≤ 30 ∧ lf k = nI L) : xv_I W0 H0 0 wf rk sc Ms s5 g5 Mg wo Mp pen psu 0 0 0 lf := ⟨h, hl, fun _ => 0, fun _ => 0, xv_C0 h, Or.inl ⟨rfl, rfl, rfl⟩⟩
theorem xv_In {W0 H0 n : Nat} {wf rk sc s5 g5 lf : Nat → Int32} {Ms Mg Mp : Nat → Nat → Int32} {wo : Nat → Int64} {pen psu pnm pkn pfo : Int32} (h : xv_I W0 H0 n wf rk sc Ms s5 g5 Mg wo Mp pen psu pnm pkn pfo lf) : n ≤ 5 := by obtain ⟨_, _, _, _, h, _⟩ := h; exact h.1.1
theorem xv_fr {W0 H0 : Nat} {wf : Nat → Int32} {x : Int32} (hN : W0 * H0 ≤ 25) (h : ¬ x < 0 ∧ ¬ nI W0 * nI H0 ≤ x ∧ wf x.toNatClampNeg = 0) : ∃ k, x = nI k ∧ fx_fr (W0 * H0) wf k := by
  obtain ⟨j, hj, rfl⟩ := nI_of h.1
  refine ⟨j, rfl, ?_, by have := h.2.2; rw [nI_clamp hj] at this; exact this⟩
  have h1 := h.2.1
  rw [pk_mul] at h1
  rcases Nat.lt_or_ge j (W0 * H0) with g | g
  · exact g
  · exact absurd (nI_le g hj) h1
theorem xv_hs {n : Nat} {x : Int32} (hn : n ≤ 5) (h : ¬ x < 0 ∧ ¬ nI n ≤ x) : ∃ k, x = nI k ∧ k < n := by
  obtain ⟨j, hj, rfl⟩ := nI_of h.1
  refine ⟨j, rfl, ?_⟩
  rcases Nat.lt_or_ge j n with g | g
  · exact g
  · exact absurd (nI_le g hj) h.2
theorem xv_take {W0 H0 n sp0 gl0 : Nat} {wf rk sc s5 g5 : Nat → Int32} {Ms Mg Mg1 : Nat → Nat → Int32} {sp gl : Nat → Nat} (h : xv_C W0 H0 n wf rk sc s5 g5 Ms Mg sp gl) (hn : n < 5) (hF : fx_cnt wf (W0 * H0) ^ (n + 1) ≤ 16000) (hs : fx_fr (W0 * H0) wf sp0) (hg : fx_fr (W0 * H0) wf gl0) (hM : ∀ a, a ≠ n → Mg1 a = Mg a) (hw : wy_Ok (fx_fr (W0 * H0) wf) (fx_nb sc Ms) gl0 (Mg1 n)) :
    xv_C W0 H0 (n + 1) wf rk sc (upd s5 n (nI sp0)) (upd g5 n (nI gl0)) Ms Mg1 (sx_up sp n sp0) (sx_up gl n gl0) := by
  obtain ⟨⟨h1, h2, h3, h4, h5, h6⟩, h7⟩ := h
  refine ⟨⟨by omega, h2, hF, h4, h5, ?_⟩, ?_⟩
  · intro m hm
    by_cases e : m = n
    · subst e; rw [sx_up_s, pk_us]; exact ⟨rfl, hg, hw⟩
    · rw [sx_up_n e, pk_un e, hM m e]; exact h6 m (by omega)
  · intro i hi
    by_cases e : i = n
    · subst e; rw [sx_up_s, pk_us]; exact ⟨rfl, hs⟩
    · rw [sx_up_n e, pk_un e]; exact h7 i (by omega)
