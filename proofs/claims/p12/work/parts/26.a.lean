/-! what the reference keeps between the calls -/
def mv_I (W0 H0 n : Nat) (wf sf gf : Nat → Int32) (fo le : Int32) : Prop :=
  (1 ≤ W0 ∧ W0 ≤ 6 ∧ H0 ≤ 6 ∧ W0 * H0 ≤ 25) ∧ n ≤ 5 ∧ fx_cnt wf (W0 * H0) ^ n ≤ 16000 ∧ (fo = 0 ∨ ∃ L, L ≤ 209 ∧ le = nI L) ∧
  ∃ sp gl : Nat → Nat, (∀ i, i < n → sf i = nI (sp i) ∧ fx_fr (W0 * H0) wf (sp i) ∧ gf i = nI (gl i) ∧ fx_fr (W0 * H0) wf (gl i)) ∧ ∀ i j, i < j → j < n → sp i ≠ sp j ∧ gl i ≠ gl j
theorem mv_I0 {W0 H0 : Nat} {wf sf gf : Nat → Int32} {le : Int32} (h : 1 ≤ W0 ∧ W0 ≤ 6 ∧ H0 ≤ 6 ∧ W0 * H0 ≤ 25) : mv_I W0 H0 0 wf sf gf 0 le := ⟨h, by omega, by rw [Nat.pow_zero]; decide, Or.inl rfl, fun _ => 0, fun _ => 0, fun i hi => absurd hi (Nat.not_lt_zero _), fun i j _ hj => absurd hj (Nat.not_lt_zero _)⟩
theorem mv_n5 {F m : Nat} (h1 : m ≤ F) (h2 : F ^ m ≤ 16000) : m ≤ 5 := by
  rcases Nat.lt_or_ge 5 m with g | g
  · exfalso
    have a : 6 ^ 6 ≤ F ^ m := Nat.le_trans (Nat.pow_le_pow_left (show 6 ≤ F by omega) 6) (Nat.pow_le_pow_right (by omega) (by omega))
    have b : (6 : Nat) ^ 6 = 46656 := by decide
    omega
  · exact g
theorem mv_pig {N n : Nat} {wf : Nat → Int32} {sp : Nat → Nat} (h1 : ∀ i, i < n → fx_fr N wf (sp i)) (h2 : ∀ i j, i < j → j < n → sp i ≠ sp j) : n ≤ fx_cnt wf N := by
  refine fx_pig (fx_cnt wf N) n (fun i => fx_cnt wf (sp i)) (fun i hi => fx_cnt_lt (h1 i hi).1 (h1 i hi).2) ?_
  intro i j hij hj e
  have e : fx_cnt wf (sp i) = fx_cnt wf (sp j) := e
  rcases Nat.lt_trichotomy (sp i) (sp j) with q | q | q
  · exact absurd e (Nat.ne_of_lt (fx_cnt_lt q (h1 i (by omega)).2))
  · exact h2 i j hij hj q
  · exact absurd e (Nat.ne_of_gt (fx_cnt_lt q (h1 j hj).2))
theorem mv_take {W0 H0 n a b : Nat} {wf sf gf : Nat → Int32} {fo le : Int32} (h : mv_I W0 H0 n wf sf gf fo le) (ha : fx_fr (W0 * H0) wf a) (hb : fx_fr (W0 * H0) wf b) (hne : ∀ i, i < n → ¬ sf i = nI a ∧ ¬ gf i = nI b) (hp : fx_cnt wf (W0 * H0) ^ (n + 1) ≤ 16000) : mv_I W0 H0 (n + 1) wf (upd sf n (nI a)) (upd gf n (nI b)) 0 le := by
  obtain ⟨h1, h2, h3, h4, sp, gl, h5, h6⟩ := h
  have k1 : ∀ i, i < n + 1 → upd sf n (nI a) i = nI (sx_up sp n a i) ∧ fx_fr (W0 * H0) wf (sx_up sp n a i) ∧ upd gf n (nI b) i = nI (sx_up gl n b i) ∧ fx_fr (W0 * H0) wf (sx_up gl n b i) := by
    intro i hi
    by_cases e : i = n
    · subst e; rw [sx_up_s, sx_up_s, pk_us, pk_us]; exact ⟨rfl, ha, rfl, hb⟩
    · rw [sx_up_n e, sx_up_n e, pk_un e, pk_un e]; exact h5 i (by omega)
  have k2 : ∀ i j, i < j → j < n + 1 → sx_up sp n a i ≠ sx_up sp n a j ∧ sx_up gl n b i ≠ sx_up gl n b j := by
    intro i j hij hj
    by_cases e : j = n
    · subst e
      rw [sx_up_s, sx_up_s, sx_up_n (show i ≠ j by omega), sx_up_n (show i ≠ j by omega)]
      exact ⟨fun q => (hne i hij).1 (by rw [(h5 i hij).1, q]), fun q => (hne i hij).2 (by rw [(h5 i hij).2.2.1, q])⟩
    · rw [sx_up_n e, sx_up_n e, sx_up_n (show i ≠ n by omega), sx_up_n (show i ≠ n by omega)]
      exact h6 i j hij (by omega)
  refine ⟨h1, mv_n5 (mv_pig (fun i hi => (k1 i hi).2.1) (fun i j a b => (k2 i j a b).1)) hp, hp, Or.inl rfl, sx_up sp n a, sx_up gl n b, k1, k2⟩
/-- one beside another in a room -/
def mv_bs (W a b : Nat) : Prop := (a % W = b % W ∧ (a / W = b / W + 1 ∨ b / W = a / W + 1)) ∨ (a / W = b / W ∧ (a % W = b % W + 1 ∨ b % W = a % W + 1))
theorem mv_bs_s {W a b : Nat} (h : mv_bs W a b) : mv_bs W b a := h.elim (fun q => Or.inl ⟨q.1.symm, q.2.symm⟩) (fun q => Or.inr ⟨q.1.symm, q.2.symm⟩)
theorem mv_sq {p q : Nat} : ∃ d, (nI p - nI q) * (nI p - nI q) = nI (d * d) ∧ (p = q + d ∨ q = p + d) := by
  rcases Nat.lt_or_ge p q with h | h
  · refine ⟨q - p, ?_, Or.inr (by omega)⟩
    have e : nI p - nI q = -(nI q - nI p) := (Int32.neg_sub).symm
    rw [e, Int32.neg_mul_neg, pk_sub (by omega), pk_mul]
  · refine ⟨p - q, ?_, Or.inl (by omega)⟩
    rw [pk_sub h, pk_mul]
theorem mv_sq1 {d e : Nat} : d * d + e * e = 1 ↔ (d = 1 ∧ e = 0) ∨ (d = 0 ∧ e = 1) := by
  constructor
  · intro h
    have h1 : d ≤ 1 := by rcases Nat.lt_or_ge 1 d with g | g; · exfalso; have : 2 * 2 ≤ d * d := Nat.mul_le_mul g g; omega
                          · exact g
    have h2 : e ≤ 1 := by rcases Nat.lt_or_ge 1 e with g | g; · exfalso; have : 2 * 2 ≤ e * e := Nat.mul_le_mul g g; omega
                          · exact g
    rcases (show d = 0 ∨ d = 1 by omega) with rfl | rfl <;> rcases (show e = 0 ∨ e = 1 by omega) with rfl | rfl <;> simp at h ⊢
  · rintro (⟨rfl, rfl⟩ | ⟨rfl, rfl⟩) <;> rfl
theorem mv_bsP {p q r t : Nat} (hp : p < 25) (hq : q < 25) (hr : r < 25) (ht : t < 25) : ((nI p - nI q) * (nI p - nI q) + (nI r - nI t) * (nI r - nI t) = 1 ↔ (p = q ∧ (r = t + 1 ∨ t = r + 1)) ∨ (r = t ∧ (p = q + 1 ∨ q = p + 1))) := by
  obtain ⟨d, e1, h1⟩ := mv_sq (p := p) (q := q)
  obtain ⟨e, e2, h2⟩ := mv_sq (p := r) (q := t)
  have hd : d * d ≤ 25 * 25 := Nat.mul_le_mul (by omega) (by omega)
  have he : e * e ≤ 25 * 25 := Nat.mul_le_mul (by omega) (by omega)
  rw [e1, e2, nI_add]
  have : nI (d * d + e * e) = 1 ↔ d * d + e * e = 1 := nI_eq (b := 1) (by omega) (by decide)
  rw [this, mv_sq1]
  constructor
  · rintro (⟨rfl, rfl⟩ | ⟨rfl, rfl⟩)
    · right; omega
    · left; omega
  · rintro (⟨q1, q2⟩ | ⟨q1, q2⟩)
    · right; omega
    · left; omega
theorem mv_bsE {W a b : Nat} (ha : a < 25) (hb : b < 25) : ((nI (a % W) - nI (b % W)) * (nI (a % W) - nI (b % W)) + (nI (a / W) - nI (b / W)) * (nI (a / W) - nI (b / W)) = 1 ↔ mv_bs W a b) :=
  mv_bsP (Nat.lt_of_le_of_lt (Nat.mod_le a W) ha) (Nat.lt_of_le_of_lt (Nat.mod_le b W) hb) (Nat.lt_of_le_of_lt (Nat.div_le_self a W) ha) (Nat.lt_of_le_of_lt (Nat.div_le_self b W) hb)
