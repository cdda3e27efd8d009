/-! what was told: bits of a word -/
def tb (x : Int32) (t : Nat) : Prop := x >>> (nI t &&& 31) &&& 1 = 1
theorem tb_sm : ∀ t, t < 30 → (nI t &&& 31).toBitVec.smod 32 = BitVec.ofNat 32 t := by decide +kernel
theorem tb_one : ∀ t, t < 30 → ∀ s, s < 30 → ((1 : Int32) <<< (nI t &&& 31)).toBitVec.getLsbD s = decide (s = t) := by decide +kernel
theorem tb_zero : ∀ t, t < 30 → ¬ ((0 : Int32) >>> (nI t &&& 31) &&& 1 = 1) := by decide +kernel
theorem tb_0 {t : Nat} (h : t < 30) : ¬ tb 0 t := tb_zero t h
theorem tb_and1 {w : BitVec 32} : w &&& 1#32 = 1#32 ↔ w.getLsbD 0 = true := by
  constructor
  · intro h
    have h1 := congrArg (fun v => v.getLsbD 0) h
    simpa using h1
  · intro h
    apply BitVec.eq_of_getLsbD_eq
    intro i hi
    rw [BitVec.getLsbD_and]
    cases i with
    | zero => rw [h]; rfl
    | succ i =>
      have e : (1#32).getLsbD (i + 1) = false := by simp
      rw [e, Bool.and_false]
theorem tb_bit {x : Int32} {t : Nat} (ht : t < 30) : tb x t ↔ x.toBitVec.getLsbD t = true := by
  unfold tb
  rw [← Int32.toBitVec_inj, Int32.toBitVec_and, Int32.toBitVec_shiftRight, tb_sm t ht, BitVec.sshiftRight_eq', BitVec.toNat_ofNat, Nat.mod_eq_of_lt (show t < 2 ^ 32 by omega), show Int32.toBitVec 1 = 1#32 from rfl, tb_and1, BitVec.getLsbD_sshiftRight]
  simp [show t < 32 by omega]
theorem tb_or {x : Int32} {t s : Nat} (ht : t < 30) (hs : s < 30) : tb (x ||| ((1 : Int32) <<< (nI t &&& 31))) s ↔ s = t ∨ tb x s := by
  rw [tb_bit hs, tb_bit hs, Int32.toBitVec_or, BitVec.getLsbD_or, tb_one t ht s hs, Bool.or_eq_true, decide_eq_true_eq]
  exact Or.comm
/-- the lengths are those of what was told -/
def ld_I (of lf : Nat → Int32) : Prop := ∀ k, k < 6 → ∃ L, L ≤ 30 ∧ lf k = nI L ∧ (∀ t, t < L → tb (of k) t) ∧ (L < 30 → ¬ tb (of k) L)
theorem ld_I0 {of lf : Nat → Int32} (h1 : ∀ k, k < 6 → of k = 0) (h2 : ∀ k, k < 6 → lf k = 0) : ld_I of lf := fun k hk => ⟨0, by omega, (h2 k hk).trans nI_0.symm, fun t h => absurd h (Nat.not_lt_zero _), fun _ => by rw [h1 k hk]; exact tb_0 (by omega)⟩
theorem ld_It {of lf lf1 : Nat → Int32} {k tt j1 j0 : Nat} (hk : k < 6) (htt : tt < 30) (h0 : lf k = nI j0) (hj0 : j0 ≤ 30) (hlf : ∀ a, a ≠ k → lf1 a = lf a) (hj1 : j1 ≤ 30) (hl1 : lf1 k = nI j1) (h2 : ∀ t, j0 ≤ t → t < j1 → tb (of k ||| ((1 : Int32) <<< (nI tt &&& 31))) t) (h3 : j1 < 30 → ¬ tb (of k ||| ((1 : Int32) <<< (nI tt &&& 31))) j1)
    (h : ld_I of lf) : ld_I (upd of k (of k ||| ((1 : Int32) <<< (nI tt &&& 31)))) lf1 := by
  intro a ha
  by_cases e : a = k
  · subst e
    rw [pk_us]
    obtain ⟨L, hL, hLe, h4, h5⟩ := h a ha
    have e0 : L = j0 := (nI_eq (by omega) (by omega)).mp (hLe.symm.trans h0)
    subst e0
    refine ⟨j1, hj1, hl1, fun t ht => ?_, h3⟩
    rcases Nat.lt_or_ge t L with g | g
    · exact (tb_or htt (by omega)).mpr (Or.inr (h4 t g))
    · exact h2 t g ht
  · rw [pk_un e, hlf a e]
    exact h a ha
/-! the conditions of room, wall, mover, lay -/
def rm_B (x y : Int32) : Prop := x < 1 ∨ 6 < x ∨ y < 1 ∨ 6 < y ∨ ¬ x * y ≤ 25
def ly_B (x y : Int32) : Prop := x < 0 ∨ 6 ≤ x ∨ y < 0 ∨ ¬ y < 30
def wl_P (N n : Nat) (wf : Nat → Int32) (x r : Int32) (n1 : Nat) (wf1 : Nat → Int32) : Prop := (r = -1 ∧ (¬ ∃ k, k < N ∧ x = nI k) ∧ n1 = n ∧ wf1 = wf) ∨ ∃ k, k < N ∧ x = nI k ∧ n1 = 0 ∧ ((wf k = 0 ∧ r = 1 ∧ wf1 = upd wf k 1) ∨ (¬ wf k = 0 ∧ r = 0 ∧ wf1 = upd wf k 0))
theorem ld_hl {lf lf1 : Nat → Int32} {k : Nat} (h : ∀ a, a < 6 → ∃ L, L ≤ 30 ∧ lf a = nI L) (h1 : ∀ a, a ≠ k → lf1 a = lf a) (h2 : ∃ j1, j1 ≤ 30 ∧ lf1 k = nI j1) : ∀ a, a < 6 → ∃ L, L ≤ 30 ∧ lf1 a = nI L := by
  intro a ha
  by_cases e : a = k
  · subst e; exact h2
  · rw [h1 a e]; exact h a ha
