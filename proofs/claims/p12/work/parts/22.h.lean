/-! more of both sides' conditions -/
def mo_C (N n : Nat) (wf s g : Nat → Int32) (x y : Int32) : Prop := ∃ a b, x = nI a ∧ y = nI b ∧ fx_fr N wf a ∧ fx_fr N wf b ∧ fx_cnt wf N ^ (n + 1) ≤ 16000 ∧ ∀ i, i < n → ¬ s i = x ∧ ¬ g i = y
def mo_P (N n : Nat) (wf s g : Nat → Int32) (x y r : Int32) (n1 : Nat) (s1 g1 : Nat → Int32) : Prop := (r = -1 ∧ (¬ mo_C N n wf s g x y ∨ 5 ≤ n) ∧ n1 = n ∧ s1 = s ∧ g1 = g) ∨ (r = nI n ∧ mo_C N n wf s g x y ∧ n1 = n + 1 ∧ s1 = upd s n x ∧ g1 = upd g n y)
theorem mo_no {N n : Nat} {wf s g : Nat → Int32} {x y : Int32} (h : 5 ≤ n ∨ 16000 < fx_cnt wf N ^ (n + 1) ∨ ∃ a, a < n ∧ (s a = x ∨ g a = y)) : ¬ mo_C N n wf s g x y ∨ 5 ≤ n := by
  rcases h with h | h | ⟨a, ha, h⟩
  · exact Or.inr h
  · left; rintro ⟨_, _, _, _, _, _, h2, _⟩; omega
  · left; rintro ⟨_, _, _, _, _, _, _, h2⟩; exact h.elim (h2 a ha).1 (h2 a ha).2
theorem mo_pw {F k : Nat} (h : 16000 < F ^ k) : 16000 < F ^ (k + 1) := by
  rcases Nat.eq_zero_or_pos F with e | e
  · subst e
    cases k with
    | zero => rw [Nat.pow_zero] at h; omega
    | succ k => rw [Nat.zero_pow (by omega)] at h; omega
  · exact Nat.lt_of_lt_of_le h (Nat.pow_le_pow_right e (by omega))
theorem xv_nf {W0 H0 : Nat} {wf : Nat → Int32} {x : Int32} (hN : W0 * H0 ≤ 25) (h : x < 0 ∨ nI W0 * nI H0 ≤ x ∨ ¬ wf x.toNatClampNeg = 0) : ¬ ∃ a, x = nI a ∧ fx_fr (W0 * H0) wf a := by
  rintro ⟨a, rfl, ha, hw⟩
  rcases h with h | h | h
  · exact absurd h (Int32.not_lt.mpr (nI_pos' (by omega)))
  · rw [pk_mul] at h; exact absurd h (nI_ge ha (by omega))
  · rw [nI_clamp (by omega)] at h; exact h hw
theorem xv_nh {W0 H0 : Nat} {x : Int32} (hN : W0 * H0 ≤ 25) (h : x < 0 ∨ nI W0 * nI H0 ≤ x) : ¬ ∃ k, k < W0 * H0 ∧ x = nI k := by
  rintro ⟨a, ha, rfl⟩
  rcases h with h | h
  · exact absurd h (Int32.not_lt.mpr (nI_pos' (by omega)))
  · rw [pk_mul] at h; exact absurd h (nI_ge ha (by omega))
theorem xv_kN {W0 H0 k : Nat} (hN : W0 * H0 ≤ 25) (hk : k < 25) (h : ¬ nI W0 * nI H0 ≤ nI k) : k < W0 * H0 := by
  rcases Nat.lt_or_ge k (W0 * H0) with g | g
  · exact g
  · exact absurd (by rw [pk_mul]; exact nI_le g (by omega)) h
theorem mo_Ca {N n : Nat} {wf s g : Nat → Int32} {x y : Int32} (h : mo_C N n wf s g x y) : ∃ a, x = nI a ∧ fx_fr N wf a := by obtain ⟨a, b, h1, h2, h3, h4, _⟩ := h; exact ⟨a, h1, h3⟩
theorem mo_Cb {N n : Nat} {wf s g : Nat → Int32} {x y : Int32} (h : mo_C N n wf s g x y) : ∃ a, y = nI a ∧ fx_fr N wf a := by obtain ⟨a, b, h1, h2, h3, h4, _⟩ := h; exact ⟨b, h2, h4⟩
