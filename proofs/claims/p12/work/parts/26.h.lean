set_option maxHeartbeats 4000000 in
set_option maxRecDepth 100000 in
theorem c_md_rests (l : Launch) (D : va_G) (cZ cI cJ cII : ClassId) (S : Nat) (mo : Nat) (sz : Nat) (hS32 : S < 32) (hmo : mo < 5) : Met l y_md_rests w_md_rests ({ frames := 0, cells := 0, slots := 0, locals := 0 }) (va_Pc [.int (nI S), .int (nI mo)] (mt_B D [(cZ, .boolean), (cI, .int), (cJ, .long), (cII, .array .int)] [] sz)) (vp_Si (fun r : Int32 => (r = 1 ∧ S.testBit mo = true) ∨ (r = 0 ∧ S.testBit mo = false))) 0 0 (fun _ => False) := by
  refine mt_ofR (by decide) (Nat.le_of_ble_eq_true rfl) ?_
  intro p e s m below meth c ls hx hb hr hlk hml hown hg hl hX hP hK hD
  have hown : s.vm.findClass R_md = some m.cls := hown
  obtain ⟨H, hH⟩ : ∃ H : Heap, H = s.heap := ⟨_, rfl⟩
  rw [← hH] at hP ⊢
  have hl : lv_has ls 2 [(0, .int (nI S)), (1, .int (nI mo))] := hl
  refine lv_iload_n hx hb d_md_rests_0 rfl (lv_at hl 0 rfl) ?_
  refine lv_iload_n hx hb d_md_rests_1 rfl (lv_at hl 1 rfl) ?_
  refine lv_ishr hx hb d_md_rests_2 ?_
  refine lv_iconst (v := 1) hx hb d_md_rests_3 (by decide) ?_
  refine lv_iand hx hb d_md_rests_4 ?_
  refine lv_iconst (v := 1) hx hb d_md_rests_5 (by decide) ?_
  refine lv_icmp_ne hx hb d_md_rests_6 rfl (fun g1 => ?_) (fun g1 => ?_)
  ·
    refine lv_iconst (v := 0) hx hb d_md_rests_13 (by decide) ?_
    exact W.zret hx hb hr rfl (fun t ht _ => ⟨0, rfl, Or.inr ⟨rfl, by cases hb9 : S.testBit mo with | false => rfl | true => exact absurd ((bt_in S hS32 mo hmo).mpr hb9) g1⟩, ht.trans hH⟩) (fun _ h => absurd h List.not_mem_nil) d_md_rests_14
  ·
    refine lv_iconst (v := 1) hx hb d_md_rests_9 (by decide) ?_
    refine lv_goto hx hb d_md_rests_10 rfl ?_
    exact W.zret hx hb hr rfl (fun t ht _ => ⟨1, rfl, Or.inl ⟨rfl, (bt_in S hS32 mo hmo).mp g1⟩, ht.trans hH⟩) (fun _ h => absurd h List.not_mem_nil) d_md_rests_14

theorem md_bitsE : ∀ S, S < 32 → (fun x1 : Int32 => (fun x2 : Int32 => (fun x3 : Int32 => (x3 + (x3 >>> (8 &&& 31))) &&& (31 : Int32)) ((x2 + (x2 >>> (4 &&& 31))) &&& (3855 : Int32))) ((x1 &&& (13107 : Int32)) + ((x1 >>> (2 &&& 31)) &&& (13107 : Int32)))) (nI S - ((nI S >>> (1 &&& 31)) &&& (21845 : Int32))) = nI (dj_pc S 5) := by decide +kernel
theorem dj_pc5 {S n : Nat} (hn : n ≤ 5) (h : S < 2 ^ n) : dj_pc S 5 = dj_pc S n := by
  have key : ∀ k, dj_pc S (n + k) = dj_pc S n := by
    intro k
    induction k with
    | zero => rfl
    | succ k ih =>
      show dj_pc S (n + k) + (if S.testBit (n + k) = true then 1 else 0) = _
      rw [ih, Nat.testBit_lt_two_pow (Nat.lt_of_lt_of_le h (Nat.pow_le_pow_right (by decide) (by omega))), if_neg (by decide)]
      rfl
  have := key (5 - n)
  rw [show n + (5 - n) = 5 by omega] at this
  exact this

set_option maxHeartbeats 4000000 in
set_option maxRecDepth 100000 in
theorem c_md_bits (l : Launch) (D : va_G) (cZ cI cJ cII : ClassId) (S : Nat) (n : Nat) (sz : Nat) (hn : n ≤ 5) (hSn : S < 2 ^ n) : Met l y_md_bits w_md_bits ({ frames := 0, cells := 0, slots := 0, locals := 0 }) (va_Pc [.int (nI S)] (mt_B D [(cZ, .boolean), (cI, .int), (cJ, .long), (cII, .array .int)] [] sz)) (vp_Si (fun r : Int32 => r = nI (dj_pc S n))) 0 0 (fun _ => False) := by
  refine mt_ofR (by decide) (Nat.le_of_ble_eq_true rfl) ?_
  intro p e s m below meth c ls hx hb hr hlk hml hown hg hl hX hP hK hD
  have hown : s.vm.findClass R_md = some m.cls := hown
  obtain ⟨H, hH⟩ : ∃ H : Heap, H = s.heap := ⟨_, rfl⟩
  rw [← hH] at hP ⊢
  have hl : lv_has ls 2 [(0, .int (nI S))] := hl
  refine lv_iload_n hx hb d_md_bits_0 rfl (lv_at hl 0 rfl) ?_
  refine lv_iload_n hx hb d_md_bits_1 rfl (lv_at hl 0 rfl) ?_
  refine lv_iconst (v := 1) hx hb d_md_bits_2 (by decide) ?_
  refine lv_ishr hx hb d_md_bits_3 ?_
  refine lv_sipush (v := 21845) hx hb d_md_bits_4 (by decide) ?_
  refine lv_iand hx hb d_md_bits_7 ?_
  refine lv_isub hx hb d_md_bits_8 ?_
  refine lv_topi (fun x1 ex1 => ?_)
  refine lv_istore_n hx hb d_md_bits_9 rfl hl (by decide) rfl (fun ls hl => ?_)
  have hl : lv_has ls 2 [(1, .int x1), (0, .int (nI S))] := hl
  refine lv_iload_n hx hb d_md_bits_10 rfl (lv_at hl 0 rfl) ?_
  refine lv_sipush (v := 13107) hx hb d_md_bits_11 (by decide) ?_
  refine lv_iand hx hb d_md_bits_14 ?_
  refine lv_iload_n hx hb d_md_bits_15 rfl (lv_at hl 0 rfl) ?_
  refine lv_iconst (v := 2) hx hb d_md_bits_16 (by decide) ?_
  refine lv_ishr hx hb d_md_bits_17 ?_
  refine lv_sipush (v := 13107) hx hb d_md_bits_18 (by decide) ?_
  refine lv_iand hx hb d_md_bits_21 ?_
  refine lv_iadd hx hb d_md_bits_22 ?_
  refine lv_topi (fun x2 ex2 => ?_)
  refine lv_istore_n hx hb d_md_bits_23 rfl hl (by decide) rfl (fun ls hl => ?_)
  have hl : lv_has ls 2 [(1, .int x2), (0, .int (nI S))] := hl
  refine lv_iload_n hx hb d_md_bits_24 rfl (lv_at hl 0 rfl) ?_
  refine lv_iload_n hx hb d_md_bits_25 rfl (lv_at hl 0 rfl) ?_
  refine lv_iconst (v := 4) hx hb d_md_bits_26 (by decide) ?_
  refine lv_ishr hx hb d_md_bits_27 ?_
  refine lv_iadd hx hb d_md_bits_28 ?_
  refine lv_sipush (v := 3855) hx hb d_md_bits_29 (by decide) ?_
  refine lv_iand hx hb d_md_bits_32 ?_
  refine lv_topi (fun x3 ex3 => ?_)
  refine lv_istore_n hx hb d_md_bits_33 rfl hl (by decide) rfl (fun ls hl => ?_)
  have hl : lv_has ls 2 [(1, .int x3), (0, .int (nI S))] := hl
  refine lv_iload_n hx hb d_md_bits_34 rfl (lv_at hl 0 rfl) ?_
  refine lv_iload_n hx hb d_md_bits_35 rfl (lv_at hl 0 rfl) ?_
  refine lv_bipush (v := 8) hx hb d_md_bits_36 (by decide) ?_
  refine lv_ishr hx hb d_md_bits_38 ?_
  refine lv_iadd hx hb d_md_bits_39 ?_
  refine lv_bipush (v := 31) hx hb d_md_bits_40 (by decide) ?_
  refine lv_iand hx hb d_md_bits_42 ?_
  exact W.iret hx hb hr (fun t ht _ => ⟨(x3 + (x3 >>> (8 &&& 31))) &&& 31, rfl, by rw [← dj_pc5 hn hSn, ← md_bitsE S (px_p32 hn hSn)]; subst_vars; rfl, ht.trans hH⟩) (fun _ h => absurd h List.not_mem_nil) d_md_bits_43

set_option maxHeartbeats 4000000 in
set_option maxRecDepth 100000 in
theorem c_md_placesOf (l : Launch) (D : va_G) (cZ cI cJ cII : ClassId) (na : Nat) (nwalls : Nat) (nstarts : Nat) (ngoals : Nat) (nlaid : Nat) (nisTold : Nat) (ncells : Nat) (nindex : Nat) (nnear : Nat) (nnearCount : Nat) (npay : Nat) (ndone : Nat) (npile : Nat) (nnow : Nat) (nthen : Nat) (nchoice : Nat) (nplan : Nat) (ncosts : Nat) (npaid : Nat) (nafter : Nat) (nfar : Nat) (nmany : Nat) (nnext : Nat) (vtop : Int32) (vfound : Int32) (vlength : Int32) (vsort : Int32) (vwhen : Int32) (vone : Int32) (vtwo : Int32) (W0 : Nat) (H0 : Nat) (n : Nat) (F0 : Nat) (ro : Nat) (qf : Nat → Int32) (q0 : Nat → Nat) (sz : Nat) (hn : n ≤ 5) (hq : ∀ i, i < n → qf i = nI (q0 i)) : Met l y_md_placesOf w_md_placesOf ({ frames := 0, cells := 0, slots := 0, locals := 0 }) (va_Pc [.ref na, .ref ro] (mt_B D [(cZ, .boolean), (cI, .int), (cJ, .long), (cII, .array .int)] [(na, .inr (7, [.int (nI W0), .int (nI H0), .ref nwalls, .int (nI n), .ref nstarts, .ref ngoals, .ref nlaid, .ref nisTold, .int (nI F0), .ref ncells, .ref nindex, .ref nnear, .ref nnearCount, .ref npay, .ref ndone, .ref npile, .int vtop, .ref nnow, .ref nthen, .ref nchoice, .int vfound, .int vlength, .ref nplan, .ref ncosts, .ref npaid, .ref nafter, .ref nfar, .ref nmany, .ref nnext, .int vsort, .int vwhen, .int vone, .int vtwo])), (ro, .inl (cI, 6, .inl qf))] sz)) (vp_Si (fun r : Int32 => r = nI (sx_st F0 (fun i => q0 (n - 1 - i)) n))) 0 0 (fun _ => False) := by
  refine mt_ofR (by decide) (Nat.le_of_ble_eq_true rfl) ?_
  intro p e s m below meth c ls hx hb hr hlk hml hown hg hl hX hP hK hD
  have hown : s.vm.findClass R_md = some m.cls := hown
  obtain ⟨H, hH⟩ : ∃ H : Heap, H = s.heap := ⟨_, rfl⟩
  rw [← hH] at hP ⊢
  have hl : lv_has ls 4 [(0, .ref na), (1, .ref ro)] := hl
  refine lv_iconst (v := 0) hx hb d_md_placesOf_0 (by decide) ?_
  refine lv_istore_n hx hb d_md_placesOf_1 rfl hl (by decide) rfl (fun ls hl => ?_)
  have hl : lv_has ls 4 [(2, .int 0), (0, .ref na), (1, .ref ro)] := hl
  refine lv_aload_n hx hb d_md_placesOf_2 rfl (lv_at hl 1 rfl) ?_
  refine gf_md_86 hx hb hg hown hK hP 0 rfl rfl d_md_placesOf_3 ?_
  refine lv_iconst (v := 1) hx hb d_md_placesOf_6 (by decide) ?_
  refine lv_isub hx hb d_md_placesOf_7 ?_
  refine lv_topi (fun y1 ey1 => ?_)
  have ey1 : y1 = nI n - 1 := ey1.trans rfl
  subst ey1
  refine lv_topi (fun x2 ex2 => ?_)
  refine lv_istore_n hx hb d_md_placesOf_8 rfl hl (by decide) rfl (fun ls hl => ?_)
  have hl : lv_has ls 4 [(3, .int x2), (2, .int 0), (0, .ref na), (1, .ref ro)] := hl
  have hl := lv_sub hl [0, 1, 2, 3] (l' := [(3, .int x2), (2, .int (nI 0)), (0, .ref na), (1, .ref ro)]) rfl
  refine mt_loop (ι := Int32 × Nat × Nat) (I := fun ix ls H locs => ((ix.1) = nI (ix.2.1) - 1) ∧ ((ix.2.1) ≤ n) ∧ ((ix.2.2) = sx_st F0 (fun i => q0 (n - 1 - i)) (n - (ix.2.1))) ∧ lv_has ls 4 [(3, .int (ix.1)), (2, .int (nI (ix.2.2))), (0, .ref na), (1, .ref ro)] ∧ va_P D kls [(na, .inr (7, [.int (nI W0), .int (nI H0), .ref nwalls, .int (nI n), .ref nstarts, .ref ngoals, .ref nlaid, .ref nisTold, .int (nI F0), .ref ncells, .ref nindex, .ref nnear, .ref nnearCount, .ref npay, .ref ndone, .ref npile, .int vtop, .ref nnow, .ref nthen, .ref nchoice, .int vfound, .int vlength, .ref nplan, .ref ncosts, .ref npaid, .ref nafter, .ref nfar, .ref nmany, .ref nnext, .int vsort, .int vwhen, .int vone, .int vtwo])), (ro, .inl (cI, 6, .inl qf))] H ∧ H = s.heap ∧ locs = []) (μ := fun ix => (ix.2.1)) ?_ (x2, n, 0) ls H _ ⟨by dsimp only; assumption, Nat.le_refl _, by rw [Nat.sub_self]; rfl, hl, hP, hH, rfl⟩
  clear hl hP
  intro i_a ls H locs ⟨hx1, hmz, hpv, hl, hP, hH, hlc⟩ ih_a
  obtain ⟨x, mz, pv⟩ := i_a
  subst hlc
  have hx1 : x = nI mz - 1 := hx1
  have hmz : mz ≤ n := hmz
  have hpv : pv = sx_st F0 (fun i => q0 (n - 1 - i)) (n - mz) := hpv
  have hl : lv_has ls 4 [(3, .int x), (2, .int (nI pv)), (0, .ref na), (1, .ref ro)] := hl
  have hP : va_P D kls [(na, .inr (7, [.int (nI W0), .int (nI H0), .ref nwalls, .int (nI n), .ref nstarts, .ref ngoals, .ref nlaid, .ref nisTold, .int (nI F0), .ref ncells, .ref nindex, .ref nnear, .ref nnearCount, .ref npay, .ref ndone, .ref npile, .int vtop, .ref nnow, .ref nthen, .ref nchoice, .int vfound, .int vlength, .ref nplan, .ref ncosts, .ref npaid, .ref nafter, .ref nfar, .ref nmany, .ref nnext, .int vsort, .int vwhen, .int vone, .int vtwo])), (ro, .inl (cI, 6, .inl qf))] H := hP
  refine lv_iload_n hx hb d_md_placesOf_9 rfl (lv_at hl 0 rfl) ?_
  refine lv_if_lt hx hb d_md_placesOf_10 rfl (fun g1 => ?_) (fun g1 => ?_)
  ·
    have gm0 : mz = 0 := by
      cases mz with
      | zero => rfl
      | succ m1 => rw [hx1, nI_pred] at g1; exact absurd g1 (nI_pos (by omega))
    refine lv_iload_n hx hb d_md_placesOf_30 rfl (lv_at hl 1 rfl) ?_
    exact W.iret hx hb hr (fun t ht _ => ⟨nI pv, rfl, by rw [hpv, gm0, Nat.sub_zero], ht.trans hH⟩) (fun _ h => absurd h List.not_mem_nil) d_md_placesOf_31
  ·
    obtain ⟨m1, hm1, hx9⟩ : ∃ m1, mz = m1 + 1 ∧ x = nI m1 := by
      cases mz with
      | zero => exact absurd (by rw [hx1]; decide) g1
      | succ m1 => exact ⟨m1, rfl, by rw [hx1, nI_pred]⟩
    rw [hx9] at hl
    have hl : lv_has ls 4 [(3, .int (nI m1)), (2, .int (nI pv)), (0, .ref na), (1, .ref ro)] := hl
    have hpv9 : pv * F0 + q0 m1 = sx_st F0 (fun i => q0 (n - 1 - i)) (n - m1) := by rw [show n - m1 = (n - mz) + 1 by omega, hpv]; show _ = _ * _ + q0 (n - 1 - (n - mz)); rw [show n - 1 - (n - mz) = m1 by omega]
    refine lv_iload_n hx hb d_md_placesOf_13 rfl (lv_at hl 1 rfl) ?_
    refine lv_aload_n hx hb d_md_placesOf_14 rfl (lv_at hl 2 rfl) ?_
    refine gf_md_120 hx hb hg hown hK hP 0 rfl rfl d_md_placesOf_15 ?_
    refine lv_imul hx hb d_md_placesOf_18 ?_
    refine lv_topi (fun y3 ey3 => ?_)
    have ey3 : y3 = nI (pv * F0) := ey3.trans (pk_mul _ _)
    subst ey3
    refine lv_aload_n hx hb d_md_placesOf_19 rfl (lv_at hl 3 rfl) ?_
    refine lv_iload_n hx hb d_md_placesOf_20 rfl (lv_at hl 0 rfl) ?_
    refine va_iald hx hb hK hP 1 1 rfl rfl (vp_in_nI (show m1 < 6 by omega) (by decide)) d_md_placesOf_21 ?_
    refine lv_topi (fun y4 ey4 => ?_)
    have ey4 : y4 = nI (q0 m1) := ey4.trans (by rw [nI_clamp (show m1 < 2 ^ 31 by omega)]; exact (hq m1 (by omega)))
    subst ey4
    refine lv_iadd hx hb d_md_placesOf_22 ?_
    refine lv_topi (fun y5 ey5 => ?_)
    have ey5 : y5 = nI (pv * F0 + q0 m1) := ey5.trans (nI_add _ _)
    subst ey5
    refine lv_istore_n hx hb d_md_placesOf_23 rfl hl (by decide) rfl (fun ls hl => ?_)
    have hl : lv_has ls 4 [(2, .int (nI (pv * F0 + q0 m1))), (3, .int (nI m1)), (0, .ref na), (1, .ref ro)] := hl
    refine lv_iinc (k := 1) (v := nI m1 + (-1)) hx hb d_md_placesOf_24 hl rfl rfl (by decide) rfl (fun ls hl => ?_)
    have hl : lv_has ls 4 [(3, .int (nI m1 + (-1))), (2, .int (nI (pv * F0 + q0 m1))), (0, .ref na), (1, .ref ro)] := hl
    refine lv_goto hx hb d_md_placesOf_27 rfl ?_
    have hl := lv_sub hl [0, 1, 2, 3] (l' := [(3, .int (nI m1 + (-1))), (2, .int (nI (pv * F0 + q0 m1))), (0, .ref na), (1, .ref ro)]) rfl
    exact ih_a (nI m1 + (-1), m1, pv * F0 + q0 m1) ls H _ (by show m1 < mz; omega) ⟨Int32.add_neg_eq_sub, by show m1 ≤ n; omega, hpv9, hl, hP, hH, rfl⟩

theorem bt_shr {x n : Nat} (hn : n ≤ 5) (hx : x < 2 ^ 30) : nI x >>> (nI n &&& 31) = nI (x / 2 ^ n) := by
  have h : ∀ n, n < 6 → ((nI n &&& 31).toBitVec.smod 32).toNat = n := by decide +kernel
  exact pk_shrN (by omega) _ n (h n (by omega))
theorem bt_shl {x n : Nat} (hn : n ≤ 5) (hx : x < 2 ^ 20) : nI x <<< (nI n &&& 31) = nI (2 ^ n * x) := by
  have h : ∀ n, n < 6 → ((nI n &&& 31).toBitVec.smod 32).toNat = n := by decide +kernel
  have h2 : 2 ^ n ≤ 2 ^ 5 := Nat.pow_le_pow_right (by decide) hn
  rw [Nat.mul_comm]
  refine pk_shlN _ n (h n (by omega)) ?_
  have : x * 2 ^ n ≤ 2 ^ 20 * 2 ^ 5 := Nat.mul_le_mul (by omega) h2
  omega

set_option maxHeartbeats 4000000 in
set_option maxRecDepth 100000 in
theorem c_md_open (l : Launch) (D : va_G) (cZ cI cJ cII : ClassId) (na : Nat) (nwalls : Nat) (nstarts : Nat) (ngoals : Nat) (nlaid : Nat) (nisTold : Nat) (ncells : Nat) (nindex : Nat) (nnear : Nat) (nnearCount : Nat) (npay : Nat) (ndone : Nat) (npile : Nat) (nnow : Nat) (nthen : Nat) (nchoice : Nat) (nplan : Nat) (ncosts : Nat) (npaid : Nat) (nafter : Nat) (nfar : Nat) (nmany : Nat) (nnext : Nat) (vtop : Int32) (vfound : Int32) (vlength : Int32) (vsort : Int32) (vwhen : Int32) (vone : Int32) (vtwo : Int32) (W0 : Nat) (H0 : Nat) (n : Nat) (F0 : Nat) (qf : Nat → Int32) (x : Nat) (sz : Nat) (hn : n ≤ 5) (hF : 0 < F0 ∧ F0 ≤ 25) (hx1 : x < 2 ^ 30) : Met l y_md_open w_md_open ({ frames := 0, cells := 0, slots := 0, locals := 0 }) (va_Pc [.ref na, .int (nI x)] (mt_B D [(cZ, .boolean), (cI, .int), (cJ, .long), (cII, .array .int)] [(na, .inr (7, [.int (nI W0), .int (nI H0), .ref nwalls, .int (nI n), .ref nstarts, .ref ngoals, .ref nlaid, .ref nisTold, .int (nI F0), .ref ncells, .ref nindex, .ref nnear, .ref nnearCount, .ref npay, .ref ndone, .ref npile, .int vtop, .ref nnow, .ref nthen, .ref nchoice, .int vfound, .int vlength, .ref nplan, .ref ncosts, .ref npaid, .ref nafter, .ref nfar, .ref nmany, .ref nnext, .int vsort, .int vwhen, .int vone, .int vtwo])), (nnow, .inl (cI, 6, .inl qf))] sz)) ((fun A => va_Qv (fun (u : (Nat → Int32)) => ∀ i, i < n → u i = nI (dj_dec n F0 x i)) (fun (u : (Nat → Int32)) (t : State) => mt_O D A [(na, .inr (7, [.int (nI W0), .int (nI H0), .ref nwalls, .int (nI n), .ref nstarts, .ref ngoals, .ref nlaid, .ref nisTold, .int (nI F0), .ref ncells, .ref nindex, .ref nnear, .ref nnearCount, .ref npay, .ref ndone, .ref npile, .int vtop, .ref nnow, .ref nthen, .ref nchoice, .int vfound, .int vlength, .ref nplan, .ref ncosts, .ref npaid, .ref nafter, .ref nfar, .ref nmany, .ref nnext, .int vsort, .int vwhen, .int vone, .int vtwo])), (nnow, .inl (cI, 6, .inl u))] t) A) (va_A [(na, .inr (7, [.int (nI W0), .int (nI H0), .ref nwalls, .int (nI n), .ref nstarts, .ref ngoals, .ref nlaid, .ref nisTold, .int (nI F0), .ref ncells, .ref nindex, .ref nnear, .ref nnearCount, .ref npay, .ref ndone, .ref npile, .int vtop, .ref nnow, .ref nthen, .ref nchoice, .int vfound, .int vlength, .ref nplan, .ref ncosts, .ref npaid, .ref nafter, .ref nfar, .ref nmany, .ref nnext, .int vsort, .int vwhen, .int vone, .int vtwo])), (nnow, .inl (cI, 6, .inl qf))] sz)) 0 0 (va_A [(na, .inr (7, [.int (nI W0), .int (nI H0), .ref nwalls, .int (nI n), .ref nstarts, .ref ngoals, .ref nlaid, .ref nisTold, .int (nI F0), .ref ncells, .ref nindex, .ref nnear, .ref nnearCount, .ref npay, .ref ndone, .ref npile, .int vtop, .ref nnow, .ref nthen, .ref nchoice, .int vfound, .int vlength, .ref nplan, .ref ncosts, .ref npaid, .ref nafter, .ref nfar, .ref nmany, .ref nnext, .int vsort, .int vwhen, .int vone, .int vtwo])), (nnow, .inl (cI, 6, .inl qf))] sz) := by
  refine mt_of (y := y_md_open) (n := 4) (av := [.ref na, .int (nI x)]) (QF := (fun A => va_Qv (fun (u : (Nat → Int32)) => ∀ i, i < n → u i = nI (dj_dec n F0 x i)) (fun (u : (Nat → Int32)) (t : State) => mt_O D A [(na, .inr (7, [.int (nI W0), .int (nI H0), .ref nwalls, .int (nI n), .ref nstarts, .ref ngoals, .ref nlaid, .ref nisTold, .int (nI F0), .ref ncells, .ref nindex, .ref nnear, .ref nnearCount, .ref npay, .ref ndone, .ref npile, .int vtop, .ref nnow, .ref nthen, .ref nchoice, .int vfound, .int vlength, .ref nplan, .ref ncosts, .ref npaid, .ref nafter, .ref nfar, .ref nmany, .ref nnext, .int vsort, .int vwhen, .int vone, .int vtwo])), (nnow, .inl (cI, 6, .inl u))] t) A)) (by decide) (Nat.le_of_ble_eq_true rfl) ?_
  intro p e s m below meth c ls A hx hb hr hlk hml hown hnm hg hl hX hP hK hD hA hS
  obtain ⟨H, hH⟩ : ∃ H : Heap, H = s.heap := ⟨_, rfl⟩
  have hS : va_S A s.heap H [] := by rw [hH]; exact va_S.rf
  rw [← hH] at hP ⊢
  have hown : s.vm.findClass R_md = some m.cls := hown
  have hl : lv_has ls 4 [(0, .ref na), (1, .int (nI x))] := hl
  refine lv_iload_n hx hb d_md_open_0 rfl (lv_at hl 1 rfl) ?_
  refine lv_aload_n hx hb d_md_open_1 rfl (lv_at hl 0 rfl) ?_
  refine gf_md_86 hx hb hg hown hK hP 0 rfl rfl d_md_open_2 ?_
  refine lv_ishr hx hb d_md_open_5 ?_
  refine lv_topi (fun y1 ey1 => ?_)
  have ey1 : y1 = nI (x / 2 ^ n) := ey1.trans (bt_shr hn hx1)
  subst ey1
  refine lv_istore_n hx hb d_md_open_6 rfl hl (by decide) rfl (fun ls hl => ?_)
  have hl : lv_has ls 4 [(2, .int (nI (x / 2 ^ n))), (0, .ref na), (1, .int (nI x))] := hl
  refine lv_iconst (v := 0) hx hb d_md_open_7 (by decide) ?_
  refine lv_istore_n hx hb d_md_open_8 rfl hl (by decide) rfl (fun ls hl => ?_)
  have hl : lv_has ls 4 [(3, .int 0), (2, .int (nI (x / 2 ^ n))), (0, .ref na), (1, .int (nI x))] := hl
  have hl := lv_sub hl [0, 1, 2, 3] (l' := [(3, .int (nI 0)), (2, .int (nI (x / 2 ^ n))), (0, .ref na), (1, .int (nI x))]) rfl
  refine mt_loop (ι := Nat × Nat × (Nat → Int32)) (I := fun ix ls H locs => ((ix.1) ≤ n) ∧ ((ix.2.1) = x / 2 ^ n / F0 ^ (ix.1)) ∧ (∀ i, i < (ix.1) → (ix.2.2) i = nI (dj_dec n F0 x i)) ∧ lv_has ls 4 [(3, .int (nI (ix.1))), (2, .int (nI (ix.2.1))), (0, .ref na), (1, .int (nI x))] ∧ va_P D kls [(na, .inr (7, [.int (nI W0), .int (nI H0), .ref nwalls, .int (nI n), .ref nstarts, .ref ngoals, .ref nlaid, .ref nisTold, .int (nI F0), .ref ncells, .ref nindex, .ref nnear, .ref nnearCount, .ref npay, .ref ndone, .ref npile, .int vtop, .ref nnow, .ref nthen, .ref nchoice, .int vfound, .int vlength, .ref nplan, .ref ncosts, .ref npaid, .ref nafter, .ref nfar, .ref nmany, .ref nnext, .int vsort, .int vwhen, .int vone, .int vtwo])), (nnow, .inl (cI, 6, .inl (ix.2.2)))] H ∧ va_D A [(na, .inr (7, [.int (nI W0), .int (nI H0), .ref nwalls, .int (nI n), .ref nstarts, .ref ngoals, .ref nlaid, .ref nisTold, .int (nI F0), .ref ncells, .ref nindex, .ref nnear, .ref nnearCount, .ref npay, .ref ndone, .ref npile, .int vtop, .ref nnow, .ref nthen, .ref nchoice, .int vfound, .int vlength, .ref nplan, .ref ncosts, .ref npaid, .ref nafter, .ref nfar, .ref nmany, .ref nnext, .int vsort, .int vwhen, .int vone, .int vtwo])), (nnow, .inl (cI, 6, .inl (ix.2.2)))] ∧ va_S A s.heap H locs) (μ := fun ix => n - (ix.1)) ?_ (0, x / 2 ^ n, qf) ls H _ ⟨Nat.zero_le _, by rw [Nat.pow_zero, Nat.div_one], fun i h => absurd h (Nat.not_lt_zero _), hl, hP, hD, hS⟩
  clear hl hP hD hS
  intro i_a ls H locs ⟨hmm, hpv, hg9, hl, hP, hD, hS⟩ ih_a
  obtain ⟨mm, pv, g⟩ := i_a
  have hmm : mm ≤ n := hmm
  have hpv : pv = x / 2 ^ n / F0 ^ mm := hpv
  have hg9 : ∀ i, i < mm → g i = nI (dj_dec n F0 x i) := hg9
  have hl : lv_has ls 4 [(3, .int (nI mm)), (2, .int (nI pv)), (0, .ref na), (1, .int (nI x))] := hl
  have hP : va_P D kls [(na, .inr (7, [.int (nI W0), .int (nI H0), .ref nwalls, .int (nI n), .ref nstarts, .ref ngoals, .ref nlaid, .ref nisTold, .int (nI F0), .ref ncells, .ref nindex, .ref nnear, .ref nnearCount, .ref npay, .ref ndone, .ref npile, .int vtop, .ref nnow, .ref nthen, .ref nchoice, .int vfound, .int vlength, .ref nplan, .ref ncosts, .ref npaid, .ref nafter, .ref nfar, .ref nmany, .ref nnext, .int vsort, .int vwhen, .int vone, .int vtwo])), (nnow, .inl (cI, 6, .inl g))] H := hP
  have hD : va_D A [(na, .inr (7, [.int (nI W0), .int (nI H0), .ref nwalls, .int (nI n), .ref nstarts, .ref ngoals, .ref nlaid, .ref nisTold, .int (nI F0), .ref ncells, .ref nindex, .ref nnear, .ref nnearCount, .ref npay, .ref ndone, .ref npile, .int vtop, .ref nnow, .ref nthen, .ref nchoice, .int vfound, .int vlength, .ref nplan, .ref ncosts, .ref npaid, .ref nafter, .ref nfar, .ref nmany, .ref nnext, .int vsort, .int vwhen, .int vone, .int vtwo])), (nnow, .inl (cI, 6, .inl g))] := hD
  refine lv_iload_n hx hb d_md_open_9 rfl (lv_at hl 0 rfl) ?_
  refine lv_aload_n hx hb d_md_open_10 rfl (lv_at hl 2 rfl) ?_
  refine gf_md_86 hx hb hg hown hK hP 0 rfl rfl d_md_open_11 ?_
  refine lv_icmp_ge hx hb d_md_open_14 rfl (fun g1 => ?_) (fun g1 => ?_)
  ·
    have g2 : n ≤ mm := by rcases Nat.lt_or_ge mm n with h | h; exact absurd g1 (nI_ge (b := n) h (by omega)); exact h
    have hP9 := hP
    have hD9 := hD
    exact W.vret hx hb hr (fun t ht hW => ⟨⟨g, rfl, fun i hi => hg9 i (by have : i < n := hi; omega), by rw [ht]; exact hP9, hD9⟩, hS.F ht⟩) hS.2.2 d_md_open_42
  ·
    have g2 : mm < n := by rcases Nat.lt_or_ge mm n with h | h; exact h; exact absurd (nI_le (a := n) h (by omega)) g1
    have hpb : pv < 2 ^ 30 := by rw [hpv]; exact Nat.lt_of_le_of_lt (Nat.le_trans (Nat.div_le_self _ _) (Nat.div_le_self _ _)) hx1
    have hg8 : ∀ i, i < mm + 1 → upd g mm (nI (pv % F0)) i = nI (dj_dec n F0 x i) := fun i hi => by by_cases e9 : i = mm; rw [e9, pk_us]; unfold dj_dec; rw [if_pos g2, hpv]; rw [pk_un e9]; exact hg9 i (by omega)
    refine lv_aload_n hx hb d_md_open_17 rfl (lv_at hl 2 rfl) ?_
    refine gf_md_55 hx hb hg hown hK hP 0 rfl rfl d_md_open_18 ?_
    refine lv_iload_n hx hb d_md_open_21 rfl (lv_at hl 0 rfl) ?_
    refine lv_iload_n hx hb d_md_open_22 rfl (lv_at hl 1 rfl) ?_
    refine lv_aload_n hx hb d_md_open_23 rfl (lv_at hl 2 rfl) ?_
    refine gf_md_120 hx hb hg hown hK hP 0 rfl rfl d_md_open_24 ?_
    refine lv_irem hx hb d_md_open_27 (show ¬ nI F0 = 0 from nI_ne0 hF.1 (by omega)) ?_
    refine lv_topi (fun y2 ey2 => ?_)
    have ey2 : y2 = nI (pv % F0) := ey2.trans (pk_rem (by omega) hF.1 (by omega))
    subst ey2
    refine va_iast hx hb hK hP hD hS 1 1 rfl rfl (vp_in_nI (show mm < 6 by omega) (by decide)) d_md_open_28 (fun H locs hP hD hS => ?_)
    rw [nI_clamp (show mm < 2 ^ 31 by omega)] at hP hD
    have hP : va_P D kls [(na, .inr (7, [.int (nI W0), .int (nI H0), .ref nwalls, .int (nI n), .ref nstarts, .ref ngoals, .ref nlaid, .ref nisTold, .int (nI F0), .ref ncells, .ref nindex, .ref nnear, .ref nnearCount, .ref npay, .ref ndone, .ref npile, .int vtop, .ref nnow, .ref nthen, .ref nchoice, .int vfound, .int vlength, .ref nplan, .ref ncosts, .ref npaid, .ref nafter, .ref nfar, .ref nmany, .ref nnext, .int vsort, .int vwhen, .int vone, .int vtwo])), (nnow, .inl (cI, 6, .inl (upd g mm (nI (pv % F0)))))] H := hP
    have hD : va_D A [(na, .inr (7, [.int (nI W0), .int (nI H0), .ref nwalls, .int (nI n), .ref nstarts, .ref ngoals, .ref nlaid, .ref nisTold, .int (nI F0), .ref ncells, .ref nindex, .ref nnear, .ref nnearCount, .ref npay, .ref ndone, .ref npile, .int vtop, .ref nnow, .ref nthen, .ref nchoice, .int vfound, .int vlength, .ref nplan, .ref ncosts, .ref npaid, .ref nafter, .ref nfar, .ref nmany, .ref nnext, .int vsort, .int vwhen, .int vone, .int vtwo])), (nnow, .inl (cI, 6, .inl (upd g mm (nI (pv % F0)))))] := hD
    refine lv_iload_n hx hb d_md_open_29 rfl (lv_at hl 1 rfl) ?_
    refine lv_aload_n hx hb d_md_open_30 rfl (lv_at hl 2 rfl) ?_
    refine gf_md_120 hx hb hg hown hK hP 0 rfl rfl d_md_open_31 ?_
    refine lv_idiv hx hb d_md_open_34 (show ¬ nI F0 = 0 from nI_ne0 hF.1 (by omega)) ?_
    refine lv_topi (fun y3 ey3 => ?_)
    have ey3 : y3 = nI (pv / F0) := ey3.trans (pk_div (by omega) hF.1 (by omega))
    subst ey3
    refine lv_istore_n hx hb d_md_open_35 rfl hl (by decide) rfl (fun ls hl => ?_)
    have hl : lv_has ls 4 [(2, .int (nI (pv / F0))), (3, .int (nI mm)), (0, .ref na), (1, .int (nI x))] := hl
    refine lv_iinc (k := 1) (v := nI (mm + 1)) hx hb d_md_open_36 hl rfl ((nI_succ mm).symm) (by decide) rfl (fun ls hl => ?_)
    have hl : lv_has ls 4 [(3, .int (nI (mm + 1))), (2, .int (nI (pv / F0))), (0, .ref na), (1, .int (nI x))] := hl
    refine lv_goto hx hb d_md_open_39 rfl ?_
    have hl := lv_sub hl [0, 1, 2, 3] (l' := [(3, .int (nI (mm + 1))), (2, .int (nI (pv / F0))), (0, .ref na), (1, .int (nI x))]) rfl
    exact ih_a (mm + 1, pv / F0, upd g mm (nI (pv % F0))) ls H _ (by show n - (mm + 1) < n - mm; omega) ⟨by show mm + 1 ≤ n; omega, by show pv / F0 = _; rw [hpv, Nat.div_div_eq_div_mul, ← Nat.pow_succ], hg8, hl, hP, hD, hS⟩
