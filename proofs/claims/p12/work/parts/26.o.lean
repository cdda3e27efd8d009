/-! the reference's pays found: level by level -/
theorem bt_one : ∀ n, n < 6 → (1 : Int32) <<< (nI n &&& 31) = nI (2 ^ n) := by decide +kernel
def fp_I (N : Nat) (Ed : Nat → Nat → Nat → Prop) (ok : Nat → Prop) (g0 d : Nat) (dn : Nat → Prop) (pay : Nat → Nat) : Prop :=
  dj_Inv N Ed ok g0 d pay dn ∧ (∀ y, y < N → pay y ≤ 200) ∧ ∀ x9 y9 c9, x9 < N → y9 < N → dn x9 → Ed x9 y9 c9 → pay y9 ≤ pay x9 + c9
theorem fp_next {N : Nat} {Ed : Nat → Nat → Nat → Prop} {ok : Nat → Prop} {g0 d : Nat} {dn : Nat → Prop} {pay : Nat → Nat} (h : fp_I N Ed ok g0 d dn pay) (hs : ∀ y, y < N → pay y ≤ d → ¬ dn y → N ≤ y) : fp_I N Ed ok g0 (d + 1) dn pay := by
  obtain ⟨⟨h1, h2, h3⟩, h4, h5⟩ := h
  refine ⟨⟨h1, fun x hx hd => by have := h2 x hx hd; omega, fun y hy hd => ?_⟩, h4, h5⟩
  rcases Nat.lt_or_ge d (pay y) with g | g
  · omega
  · have := hs y hy g hd; omega
theorem fp_start {N : Nat} {Ed : Nat → Nat → Nat → Prop} {ok : Nat → Prop} {g0 d : Nat} {dn : Nat → Prop} {pay : Nat → Nat} {s tp : Nat} (h : fp_I N Ed ok g0 d dn pay) (hs : ∀ y, y < N → pay y ≤ d → ¬ dn y → s ≤ y) (hsN : s < N) (ht : (tp = 0 ∧ ¬ (pay s = d ∧ ¬ dn s)) ∨ (tp = 1 ∧ pay s = d)) :
    rl_I N Ed ok g0 d dn (s + 1) (tp + dj_cnt pay d N) pay (fun _ => s) tp ∧ tp + dj_cnt pay d N ≤ N := by
  obtain ⟨h1, h2, h3⟩ := h
  refine ⟨⟨h1, h2, rfl, fun i hi => ?_, fun y hy hp hd => ?_⟩, ?_⟩
  · rcases ht with ht | ht
    · omega
    · exact ⟨hsN, ht.2⟩
  · have g := hs y hy hp hd
    by_cases e : y = s
    · subst e
      rcases ht with ht | ht
      · have := h1.2.2 y hy hd
        exact absurd ⟨by omega, hd⟩ ht.2
      · exact Or.inr ⟨0, by omega, rfl⟩
    · exact Or.inl (by omega)
  · rcases ht with ht | ht
    · have := dj_cnt_le pay d N; omega
    · have := dj_cnt_at (pay := pay) (d := d) N hsN (by omega); omega
theorem fp_pop1 {N : Nat} {Ed : Nat → Nat → Nat → Prop} {ok : Nat → Prop} {g0 d : Nat} {dn : Nat → Prop} {s C : Nat} {pay pl : Nat → Nat} {t1 : Nat} (h : rl_I N Ed ok g0 d dn s C pay pl (t1 + 1)) (hd : dn (pl t1)) : rl_I N Ed ok g0 d dn s (C - 1) pay pl t1 := by
  obtain ⟨h1, h2, h3, h4, h5⟩ := h
  refine ⟨h1, h2, by omega, fun i hi => h4 i (by omega), fun y hy hp hdy => ?_⟩
  rcases h5 y hy hp hdy with q | ⟨i, q1, q2⟩
  · exact Or.inl q
  · by_cases e : i = t1
    · subst e; exact absurd (by rw [← q2]; exact hd) hdy
    · exact Or.inr ⟨i, by omega, q2⟩
theorem fp_pop2 {N : Nat} {Ed : Nat → Nat → Nat → Prop} {ok : Nat → Prop} {g0 d : Nat} {dn dn' : Nat → Prop} {s C : Nat} {pay pl : Nat → Nat} {t1 : Nat} (h : rl_I N Ed ok g0 d dn s C pay pl (t1 + 1)) (hd : ∀ i, dn' i ↔ (dn i ∨ i = pl t1)) : rl_I N Ed ok g0 d dn' s (C - 1) pay pl t1 := by
  obtain ⟨⟨a1, a2, a3⟩, h2, h3, h4, h5⟩ := h
  refine ⟨⟨fun y hy hp => ⟨(a1 y hy hp).1, (a1 y hy hp).2.elim Or.inl (fun ⟨x, c, q1, q2, q3, q4⟩ => Or.inr ⟨x, c, q1, (hd x).mpr (Or.inl q2), q3, q4⟩)⟩, fun x hx hx2 => ?_, fun y hy hy2 => a3 y hy (fun q => hy2 ((hd y).mpr (Or.inl q)))⟩, h2, by omega, fun i hi => h4 i (by omega), fun y hy hp hdy => ?_⟩
  · rcases (hd x).mp hx2 with q | q
    · exact a2 x hx q
    · rw [q, (h4 t1 (by omega)).2]; exact Nat.le_refl _
  · rcases h5 y hy hp (fun q => hdy ((hd y).mpr (Or.inl q))) with q | ⟨i, q1, q2⟩
    · exact Or.inl q
    · by_cases e : i = t1
      · subst e; exact absurd ((hd y).mpr (Or.inr q2.symm)) hdy
      · exact Or.inr ⟨i, by omega, q2⟩
theorem fp_df {df : Nat → Int32} (i : Nat) : df i = 0 ↔ ¬ ¬ df i = 0 := (Decidable.not_not).symm
theorem fp_up {df : Nat → Int32} {x : Nat} (i : Nat) : (¬ upd df x 1 i = 0) ↔ (¬ df i = 0 ∨ i = x) := by
  by_cases e : i = x
  · subst e; rw [pk_us]; exact ⟨fun _ => Or.inr rfl, fun _ => by decide⟩
  · rw [pk_un e]; exact ⟨Or.inl, fun h => h.elim id (fun q => absurd q e)⟩
/-- what the walk needs of the pays -/
theorem fp_J {n F lim : Nat} {nr : Nat → Nat → Prop} {g : Nat → Nat} {dn : Nat → Prop} {pay : Nat → Nat} (hF : 0 < F) (hg : dj_V n F g) (h : fp_I (2 ^ n * F ^ n) (rl_E n F nr) (rl_ok n F g) (dj_enc n F g (2 ^ n - 1)) lim dn pay) : dj_J n F nr g (fun q who => pay (dj_enc n F q who)) := by
  intro q who hq hw hp
  have hp : pay (dj_enc n F q who) < 200 := hp
  have hN := dj_enc_lt hq hw
  obtain ⟨⟨q1, w1, a1, a2, a3, a4, a5⟩, hj⟩ := h.1.1 _ hN hp
  obtain ⟨rfl, rfl⟩ := dj_enc_inj hq a1 hw a2 a3
  refine ⟨a5, a4, ?_⟩
  rcases hj with ⟨e, h0⟩ | ⟨x, c, hx, hdx, hE, hle⟩
  · obtain ⟨_, e2⟩ := dj_enc_inj hq hg hw (by have := Nat.two_pow_pos n; omega) e
    exact Or.inl ⟨e2, h0⟩
  · rcases hE with ⟨q', w', m, h1, h2, h3, h4, h5, h6, h7⟩ | ⟨p', q', w', h1, h2, h3, h4, h5, h6, h7, h8, h9⟩
    · have hw3 := dj_xlt h2 h3
      obtain ⟨rfl, rfl⟩ := dj_enc_inj hq h1 hw hw3 h6
      obtain ⟨⟨q2, w2, b1, b2, b3, b4, b5⟩, -⟩ := h.1.1 x hx (by omega)
      obtain ⟨e1, e2⟩ := dj_enc_inj h1 b1 h2 b2 (h5.symm.trans b3)
      refine Or.inr (Or.inl ⟨m, h3, by rw [dj_xs, h4]; rfl, ?_, ?_⟩)
      · rw [e1]; exact b5 m h3 (by rw [← e2]; exact h4)
      · show pay (dj_enc n F q (w' ^^^ 2 ^ m ^^^ 2 ^ m)) ≤ pay (dj_enc n F q (w' ^^^ 2 ^ m))
        rw [Nat.xor_assoc, Nat.xor_self, Nat.xor_zero, ← h5]; omega
    · obtain ⟨rfl, rfl⟩ := dj_enc_inj hq h2 hw h3 h6
      obtain ⟨⟨q2, w2, b1, b2, b3, b4, b5⟩, -⟩ := h.1.1 x hx (by omega)
      obtain ⟨e1, e2⟩ := dj_enc_inj h1 b1 h3 b2 (h5.symm.trans b3)
      refine Or.inr (Or.inr ⟨h4, p', h1, by rw [e1]; exact b4, h8, ?_⟩)
      show pay (dj_enc n F p' who) + _ ≤ pay (dj_enc n F q who)
      rw [← h5, ← h9]; exact hle
theorem fp_L {n F lim : Nat} {nr : Nat → Nat → Prop} {g : Nat → Nat} {dn : Nat → Prop} {pay : Nat → Nat} (h : fp_I (2 ^ n * F ^ n) (rl_E n F nr) (rl_ok n F g) (dj_enc n F g (2 ^ n - 1)) (lim + 1) dn pay) : dj_L n F nr lim (fun q who => pay (dj_enc n F q who)) := by
  intro q who hq hw hp
  have hN := dj_enc_lt hq hw
  have hd : dn (dj_enc n F q who) := Classical.byContradiction fun e => by
    have := h.1.2.2 _ hN e
    have hp : pay (dj_enc n F q who) ≤ lim := hp
    omega
  refine ⟨fun m hm hb => ?_, fun hall q' hq' hdq hst => ?_⟩
  · have := h.2.2 _ (dj_enc n F q (who ^^^ 2 ^ m)) 0 hN (dj_enc_lt hq (dj_xlt hw hm)) hd (Or.inl ⟨q, who, m, hq, hw, hm, hb, rfl, rfl, rfl⟩)
    exact this
  · exact h.2.2 _ (dj_enc n F q' who) _ hN (dj_enc_lt hq' hw) hd (Or.inr ⟨q, q', who, hq, hq', hw, hall, rfl, rfl, hdq, hst, rfl⟩)
