/-! rows inside a longer world; bits of small sets; the levels, sixteen to a long -/
theorem mt_at_l {A B : va_W} {j : Nat} {v : Nat × va_E} (h : A[j]? = some v) : (A ++ B)[j]? = some v := by
  rw [List.getElem?_append_left (List.getElem?_eq_some_iff.mp h).1]; exact h
theorem mt_set_l {A B : va_W} {j : Nat} {v w : Nat × va_E} (h : A[j]? = some w) : (A ++ B).set j v = A.set j v ++ B := List.set_append_left _ _ (List.getElem?_eq_some_iff.mp h).1
theorem bt_in : ∀ S, S < 32 → ∀ m, m < 5 → ((nI S >>> (nI m &&& 31)) &&& 1 = 1 ↔ S.testBit m = true) := by decide +kernel
theorem bt_or : ∀ S, S < 32 → ∀ m, m < 5 → nI S ||| ((1 : Int32) <<< (nI m &&& 31)) = nI (S ||| 2 ^ m) := by decide +kernel
theorem bt_all : ∀ n, n < 6 → (1 : Int32) <<< (nI n &&& 31) - 1 = nI (2 ^ n - 1) := by decide +kernel
theorem bt_sub : ∀ S, S < 32 → ∀ T, T < 32 → (nI S &&& (nI T ^^^ (-1)) = 0 ↔ S &&& T = S) := by decide +kernel
theorem bt_sh : ∀ j, j < 16 → ((nI (4 * j)).toInt64 &&& 63).toBitVec.smod 64 = BitVec.ofNat 64 (4 * j) ∧ ((nI (4 * j)).toInt64.toUInt64 &&& Int64.toUInt64 63).toBitVec % 64 = BitVec.ofNat 64 (4 * j) := by decide +kernel
def lw_at (w : Int64) (j : Nat) : Nat := w.toBitVec.toNat / 2 ^ (4 * j) % 16
theorem lw_at_get {w : Int64} {j : Nat} (hj : j < 16) : (w.toUInt64 >>> ((nI (4 * j)).toInt64.toUInt64 &&& Int64.toUInt64 63)).toInt64.toInt32 &&& 15 = nI (lw_at w j) := by
  rw [pk_and _ 4 (by decide)]
  congr 1
  unfold lw_at
  have e : (w.toUInt64 >>> ((nI (4 * j)).toInt64.toUInt64 &&& Int64.toUInt64 63)).toInt64.toInt32.toBitVec.toNat = w.toBitVec.toNat / 2 ^ (4 * j) % 2 ^ 32 := by
    show ((w.toUInt64 >>> ((nI (4 * j)).toInt64.toUInt64 &&& Int64.toUInt64 63)).toBitVec.signExtend 32).toNat = _
    rw [UInt64.toBitVec_shiftRight, (bt_sh j hj).2]
    rw [BitVec.signExtend_eq_setWidth_of_le _ (by decide), BitVec.toNat_setWidth, BitVec.ushiftRight_eq', BitVec.toNat_ushiftRight, BitVec.toNat_ofNat, Nat.mod_eq_of_lt (show 4 * j < 2 ^ 64 by omega), Nat.shiftRight_eq_div_pow]
    rfl
  rw [e]
  exact Nat.mod_mod_of_dvd _ (by decide)
theorem lw_shl {x : Int64} {j : Nat} (hj : j < 16) : (x <<< ((nI (4 * j)).toInt64 &&& 63)).toBitVec = x.toBitVec <<< (4 * j) := by
  rw [Int64.toBitVec_shiftLeft, (bt_sh j hj).1, BitVec.shiftLeft_eq', BitVec.toNat_ofNat, Nat.mod_eq_of_lt (show 4 * j < 2 ^ 64 by omega)]
theorem lw_at_put {w : Int64} {j v i : Nat} (hj : j < 16) (hv : v < 16) (hi : i < 16) : lw_at ((w &&& ((15 : Int64) <<< ((nI (4 * j)).toInt64 &&& 63) ^^^ (-1))) ||| ((nI v).toInt64 <<< ((nI (4 * j)).toInt64 &&& 63))) i = if i = j then v else lw_at w i := by
  have key : ∀ b, b < 4 → ((w &&& ((15 : Int64) <<< ((nI (4 * j)).toInt64 &&& 63) ^^^ (-1))) ||| ((nI v).toInt64 <<< ((nI (4 * j)).toInt64 &&& 63))).toBitVec.getLsbD (4 * i + b) = if i = j then v.testBit b else w.toBitVec.getLsbD (4 * i + b) := by
    intro b hb
    have e15 : ∀ q, (15#64).getLsbD q = decide (q < 4) := by
      intro q
      rw [BitVec.getLsbD_ofNat, show (15 : Nat) = 2 ^ 4 - 1 by decide, Nat.testBit_two_pow_sub_one]
      by_cases h : q < 4
      · rw [decide_eq_true h, decide_eq_true (show q < 64 by omega)]; rfl
      · rw [decide_eq_false h, Bool.and_false]
    have ev : ∀ q, (nI v).toInt64.toBitVec.getLsbD q = v.testBit q := by
      intro q
      rw [nI_l (by omega)]
      show (BitVec.ofNat 64 v).getLsbD q = _
      rw [BitVec.getLsbD_ofNat]
      by_cases h : q < 64
      · rw [decide_eq_true h, Bool.true_and]
      · rw [decide_eq_false h, Bool.false_and, Nat.testBit_lt_two_pow (Nat.lt_of_lt_of_le hv (Nat.le_trans (show 16 ≤ 2 ^ 4 by decide) (Nat.pow_le_pow_right (by decide) (by omega))))]
    rw [Int64.toBitVec_or, Int64.toBitVec_and, Int64.toBitVec_xor, lw_shl hj, lw_shl hj, BitVec.getLsbD_or, BitVec.getLsbD_and, BitVec.getLsbD_xor, BitVec.getLsbD_shiftLeft, BitVec.getLsbD_shiftLeft]
    have em : (-1 : Int64).toBitVec.getLsbD (4 * i + b) = true := by
      show (BitVec.allOnes 64).getLsbD _ = true
      rw [BitVec.getLsbD_allOnes]; exact decide_eq_true (by omega)
    show (w.toBitVec.getLsbD _ && ((decide (4 * i + b < 64) && !decide (4 * i + b < 4 * j) && (15#64).getLsbD _) ^^ _) || _) = _
    rw [em, e15, ev, decide_eq_true (show 4 * i + b < 64 by omega)]
    by_cases h : i = j
    · subst h
      rw [if_pos rfl, decide_eq_false (show ¬ 4 * i + b < 4 * i by omega), show 4 * i + b - 4 * i = b by omega, decide_eq_true hb]
      simp
    · rw [if_neg h]
      rcases Nat.lt_or_ge i j with g | g
      · rw [decide_eq_true (show 4 * i + b < 4 * j by omega)]; simp
      · rw [decide_eq_false (show ¬ 4 * i + b < 4 * j by omega), decide_eq_false (show ¬ 4 * i + b - 4 * j < 4 by omega), Nat.testBit_lt_two_pow (Nat.lt_of_lt_of_le hv (Nat.le_trans (show 16 ≤ 2 ^ 4 by decide) (Nat.pow_le_pow_right (by decide) (by omega))))]
        simp
  unfold lw_at
  apply Nat.eq_of_testBit_eq
  intro b
  rw [show (16 : Nat) = 2 ^ 4 by decide, Nat.testBit_mod_two_pow, Nat.testBit_div_two_pow, ← BitVec.getLsbD]
  by_cases hb : b < 4
  · rw [decide_eq_true hb, Bool.true_and, Nat.add_comm b, key b hb]
    by_cases h : i = j
    · rw [if_pos h, if_pos h]
    · rw [if_neg h, if_neg h, Nat.testBit_mod_two_pow, Nat.testBit_div_two_pow, ← BitVec.getLsbD, decide_eq_true hb, Bool.true_and, Nat.add_comm b]
  · rw [decide_eq_false hb, Bool.false_and]
    by_cases h : i = j
    · rw [if_pos h, Nat.testBit_lt_two_pow (Nat.lt_of_lt_of_le hv (Nat.le_trans (show 16 ≤ 2 ^ 4 by decide) (Nat.pow_le_pow_right (by decide) (by omega))))]
    · rw [if_neg h, Nat.testBit_mod_two_pow, decide_eq_false hb, Bool.false_and]
