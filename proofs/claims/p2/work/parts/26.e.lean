set_option maxHeartbeats 4000000 in
set_option maxRecDepth 100000 in
theorem c_md_place (l : Launch) (D : va_G) (cZ cI cJ cII : ClassId) (na : Nat) (nwalls : Nat) (nstarts : Nat) (ngoals : Nat) (nlaid : Nat) (nisTold : Nat) (ncells : Nat) (nindex : Nat) (nnear : Nat) (nnearCount : Nat) (npay : Nat) (ndone : Nat) (npile : Nat) (nnow : Nat) (nthen : Nat) (nchoice : Nat) (nplan : Nat) (ncosts : Nat) (npaid : Nat) (nafter : Nat) (nfar : Nat) (nmany : Nat) (nnext : Nat) (vfree : Int32) (vtop : Int32) (vfound : Int32) (vlength : Int32) (vsort : Int32) (vwhen : Int32) (vone : Int32) (vtwo : Int32) (W0 : Nat) (H0 : Nat) (n : Nat) (lf : Nat → Int32) (of : Nat → Int32) (k : Nat) (tt : Nat) (sz : Nat) (hk : k < 6) (htt : tt < 30) : Met l y_md_place w_md_place ({ frames := 0, cells := 0, slots := 0, locals := 0 }) (va_Pc [.ref na, .int (nI k), .int (nI tt)] (mt_B D [(cZ, .boolean), (cI, .int), (cJ, .long), (cII, .array .int)] [(na, .inr (7, [.int (nI W0), .int (nI H0), .ref nwalls, .int (nI n), .ref nstarts, .ref ngoals, .ref nlaid, .ref nisTold, .int vfree, .ref ncells, .ref nindex, .ref nnear, .ref nnearCount, .ref npay, .ref ndone, .ref npile, .int vtop, .ref nnow, .ref nthen, .ref nchoice, .int vfound, .int vlength, .ref nplan, .ref ncosts, .ref npaid, .ref nafter, .ref nfar, .ref nmany, .ref nnext, .int vsort, .int vwhen, .int vone, .int vtwo])), (nlaid, .inl (cI, 180, .inl lf)), (nisTold, .inl (cZ, 180, .inl of))] sz)) (vp_Si (fun r : Int32 => True)) 0 0 (fun _ => False) := by
  refine mt_ofR (by decide) (Nat.le_of_ble_eq_true rfl) ?_
  intro p e s m below meth c ls hx hb hr hlk hml hown hg hl hX hP hK hD
  have hown : s.vm.findClass R_md = some m.cls := hown
  obtain ⟨H, hH⟩ : ∃ H : Heap, H = s.heap := ⟨_, rfl⟩
  rw [← hH] at hP ⊢
  have hl : lv_has ls 5 [(0, .ref na), (1, .int (nI k)), (2, .int (nI tt))] := hl
  refine lv_iconst (v := (-1)) hx hb d_md_place_0 (by decide) ?_
  refine lv_istore_n hx hb d_md_place_1 rfl hl (by decide) rfl (fun ls hl => ?_)
  have hl : lv_has ls 5 [(3, .int (-1)), (0, .ref na), (1, .int (nI k)), (2, .int (nI tt))] := hl
  refine lv_iconst (v := 0) hx hb d_md_place_2 (by decide) ?_
  refine lv_istore hx hb d_md_place_3 hl (by decide) rfl (fun ls hl => ?_)
  have hl : lv_has ls 5 [(4, .int 0), (3, .int (-1)), (0, .ref na), (1, .int (nI k)), (2, .int (nI tt))] := hl
  have hl := lv_sub hl [0, 1, 2, 3, 4] (l' := [(4, .int (nI 0)), (3, .int (-1)), (0, .ref na), (1, .int (nI k)), (2, .int (nI tt))]) rfl
  refine mt_loop (ι := Nat × Int32) (I := fun ix ls H locs => ((ix.1) ≤ tt + 1) ∧ lv_has ls 5 [(4, .int (nI (ix.1))), (3, .int (ix.2)), (0, .ref na), (1, .int (nI k)), (2, .int (nI tt))] ∧ va_P D kls [(na, .inr (7, [.int (nI W0), .int (nI H0), .ref nwalls, .int (nI n), .ref nstarts, .ref ngoals, .ref nlaid, .ref nisTold, .int vfree, .ref ncells, .ref nindex, .ref nnear, .ref nnearCount, .ref npay, .ref ndone, .ref npile, .int vtop, .ref nnow, .ref nthen, .ref nchoice, .int vfound, .int vlength, .ref nplan, .ref ncosts, .ref npaid, .ref nafter, .ref nfar, .ref nmany, .ref nnext, .int vsort, .int vwhen, .int vone, .int vtwo])), (nlaid, .inl (cI, 180, .inl lf)), (nisTold, .inl (cZ, 180, .inl of))] H ∧ H = s.heap ∧ locs = []) (μ := fun ix => tt + 1 - (ix.1)) ?_ (0, (-1)) ls H _ ⟨Nat.zero_le _, hl, hP, hH, rfl⟩
  clear hl hP
  intro i_a ls H locs ⟨hz, hl, hP, hH, hlc⟩ ih_a
  obtain ⟨z, la⟩ := i_a
  subst hlc
  have hz : z ≤ tt + 1 := hz
  have hl : lv_has ls 5 [(4, .int (nI z)), (3, .int la), (0, .ref na), (1, .int (nI k)), (2, .int (nI tt))] := hl
  have hP : va_P D kls [(na, .inr (7, [.int (nI W0), .int (nI H0), .ref nwalls, .int (nI n), .ref nstarts, .ref ngoals, .ref nlaid, .ref nisTold, .int vfree, .ref ncells, .ref nindex, .ref nnear, .ref nnearCount, .ref npay, .ref ndone, .ref npile, .int vtop, .ref nnow, .ref nthen, .ref nchoice, .int vfound, .int vlength, .ref nplan, .ref ncosts, .ref npaid, .ref nafter, .ref nfar, .ref nmany, .ref nnext, .int vsort, .int vwhen, .int vone, .int vtwo])), (nlaid, .inl (cI, 180, .inl lf)), (nisTold, .inl (cZ, 180, .inl of))] H := hP
  refine lv_iload hx hb d_md_place_5 (lv_at hl 0 rfl) ?_
  refine lv_iload_n hx hb d_md_place_7 rfl (lv_at hl 4 rfl) ?_
  refine lv_icmp_gt hx hb d_md_place_8 rfl (fun g1 => ?_) (fun g1 => ?_)
  ·
    refine lv_iload_n hx hb d_md_place_47 rfl (lv_at hl 1 rfl) ?_
    exact W.iret hx hb hr (fun t ht _ => ⟨la, rfl, trivial, ht.trans hH⟩) (fun _ h => absurd h List.not_mem_nil) d_md_place_48
  ·
    have g2 : z ≤ tt := by rcases Nat.lt_or_ge tt z with h | h; exact absurd (nI_lt h (by omega)) g1; exact h
    refine lv_aload_n hx hb d_md_place_11 rfl (lv_at hl 2 rfl) ?_
    refine gf_md_30 hx hb hg hown hK hP 0 rfl rfl d_md_place_12 ?_
    refine lv_bipush (v := 30) hx hb d_md_place_15 (by decide) ?_
    refine lv_iload_n hx hb d_md_place_17 rfl (lv_at hl 3 rfl) ?_
    refine lv_imul hx hb d_md_place_18 ?_
    refine lv_iload hx hb d_md_place_19 (lv_at hl 0 rfl) ?_
    refine lv_iadd hx hb d_md_place_21 ?_
    refine lv_topi (fun y1 ey1 => ?_)
    have ey1 : y1 = nI (30 * k + z) := ey1.trans (by rw [show (30 : Int32) = nI 30 from rfl, pk_mul, nI_add])
    subst ey1
    refine va_zald hx hb hK hP 2 0 rfl rfl (vp_in_nI (show 30 * k + z < 180 by omega) (by decide)) d_md_place_22 ?_
    refine lv_if_ne hx hb d_md_place_23 rfl (fun g3 => ?_) (fun g3 => ?_)
    ·
      refine lv_aload_n hx hb d_md_place_28 rfl (lv_at hl 2 rfl) ?_
      refine gf_md_27 hx hb hg hown hK hP 0 rfl rfl d_md_place_29 ?_
      refine lv_bipush (v := 30) hx hb d_md_place_32 (by decide) ?_
      refine lv_iload_n hx hb d_md_place_34 rfl (lv_at hl 3 rfl) ?_
      refine lv_imul hx hb d_md_place_35 ?_
      refine lv_iload hx hb d_md_place_36 (lv_at hl 0 rfl) ?_
      refine lv_iadd hx hb d_md_place_38 ?_
      refine lv_topi (fun y2 ey2 => ?_)
      have ey2 : y2 = nI (30 * k + z) := ey2.trans (by rw [show (30 : Int32) = nI 30 from rfl, pk_mul, nI_add])
      subst ey2
      refine va_iald hx hb hK hP 1 1 rfl rfl (vp_in_nI (show 30 * k + z < 180 by omega) (by decide)) d_md_place_39 ?_
      refine lv_topi (fun x3 ex3 => ?_)
      refine lv_istore_n hx hb d_md_place_40 rfl hl (by decide) rfl (fun ls hl => ?_)
      have hl : lv_has ls 5 [(3, .int x3), (4, .int (nI z)), (0, .ref na), (1, .int (nI k)), (2, .int (nI tt))] := hl
      refine lv_iinc (k := 1) (v := nI (z + 1)) hx hb d_md_place_41 hl rfl ((nI_succ z).symm) (by decide) rfl (fun ls hl => ?_)
      have hl : lv_has ls 5 [(4, .int (nI (z + 1))), (3, .int x3), (0, .ref na), (1, .int (nI k)), (2, .int (nI tt))] := hl
      refine lv_goto hx hb d_md_place_44 rfl ?_
      have hl := lv_sub hl [0, 1, 2, 3, 4] (l' := [(4, .int (nI (z + 1))), (3, .int x3), (0, .ref na), (1, .int (nI k)), (2, .int (nI tt))]) rfl
      exact ih_a (z + 1, x3) ls H _ (by show tt + 1 - (z + 1) < tt + 1 - z; omega) ⟨by show z + 1 ≤ tt + 1; omega, hl, hP, hH, rfl⟩
    ·
      refine lv_iload_n hx hb d_md_place_26 rfl (lv_at hl 1 rfl) ?_
      exact W.iret hx hb hr (fun t ht _ => ⟨la, rfl, trivial, ht.trans hH⟩) (fun _ h => absurd h List.not_mem_nil) d_md_place_27

set_option maxHeartbeats 4000000 in
set_option maxRecDepth 100000 in
theorem c_md_isWrong (l : Launch) (D : va_G) (cZ cI cJ cII : ClassId) (na : Nat) (nwalls : Nat) (nstarts : Nat) (ngoals : Nat) (nlaid : Nat) (nisTold : Nat) (ncells : Nat) (nindex : Nat) (nnear : Nat) (nnearCount : Nat) (npay : Nat) (ndone : Nat) (npile : Nat) (nnow : Nat) (nthen : Nat) (nchoice : Nat) (nplan : Nat) (ncosts : Nat) (npaid : Nat) (nafter : Nat) (nfar : Nat) (nmany : Nat) (nnext : Nat) (vfree : Int32) (vtop : Int32) (vfound : Int32) (vlength : Int32) (vsort : Int32) (vwhen : Int32) (vone : Int32) (vtwo : Int32) (W0 : Nat) (H0 : Nat) (n : Nat) (wf : Nat → Int32) (sf : Nat → Int32) (gf : Nat → Int32) (lf : Nat → Int32) (of : Nat → Int32) (k : Nat) (tt : Nat) (sz : Nat) (hWH : 1 ≤ W0 ∧ W0 ≤ 6 ∧ H0 ≤ 6 ∧ W0 * H0 ≤ 25) (hk : k < 6) (htt : tt < 30) : Met l y_md_isWrong w_md_isWrong ({ frames := 3, cells := 0, slots := 0, locals := 120 }) (va_Pc [.ref na, .int (nI k), .int (nI tt)] (mt_B D [(cZ, .boolean), (cI, .int), (cJ, .long), (cII, .array .int)] [(na, .inr (7, [.int (nI W0), .int (nI H0), .ref nwalls, .int (nI n), .ref nstarts, .ref ngoals, .ref nlaid, .ref nisTold, .int vfree, .ref ncells, .ref nindex, .ref nnear, .ref nnearCount, .ref npay, .ref ndone, .ref npile, .int vtop, .ref nnow, .ref nthen, .ref nchoice, .int vfound, .int vlength, .ref nplan, .ref ncosts, .ref npaid, .ref nafter, .ref nfar, .ref nmany, .ref nnext, .int vsort, .int vwhen, .int vone, .int vtwo])), (nwalls, .inl (cZ, 25, .inl wf)), (nstarts, .inl (cI, 25, .inl sf)), (ngoals, .inl (cI, 25, .inl gf)), (nlaid, .inl (cI, 180, .inl lf)), (nisTold, .inl (cZ, 180, .inl of))] sz)) (vp_Si (fun r : Int32 => r = 1 ∨ r = 0)) 0 0 (fun _ => False) := by
  refine mt_ofR (by decide) (Nat.le_of_ble_eq_true rfl) ?_
  intro p e s m below meth c ls hx hb hr hlk hml hown hg hl hX hP hK hD
  have hown : s.vm.findClass R_md = some m.cls := hown
  obtain ⟨H, hH⟩ : ∃ H : Heap, H = s.heap := ⟨_, rfl⟩
  rw [← hH] at hP ⊢
  have hl : lv_has ls 5 [(0, .ref na), (1, .int (nI k)), (2, .int (nI tt))] := hl
  refine lv_aload_n hx hb d_md_isWrong_0 rfl (lv_at hl 0 rfl) ?_
  refine lv_iload_n hx hb d_md_isWrong_1 rfl (lv_at hl 1 rfl) ?_
  refine lv_iload_n hx hb d_md_isWrong_2 rfl (lv_at hl 2 rfl) ?_
  have hPc := hP.sub (ws' := [(na, .inr (7, [.int (nI W0), .int (nI H0), .ref nwalls, .int (nI n), .ref nstarts, .ref ngoals, .ref nlaid, .ref nisTold, .int vfree, .ref ncells, .ref nindex, .ref nnear, .ref nnearCount, .ref npay, .ref ndone, .ref npile, .int vtop, .ref nnow, .ref nthen, .ref nchoice, .int vfound, .int vlength, .ref nplan, .ref ncosts, .ref npaid, .ref nafter, .ref nfar, .ref nmany, .ref nnext, .int vsort, .int vwhen, .int vone, .int vtwo])), (nlaid, .inl (cI, 180, .inl lf)), (nisTold, .inl (cZ, 180, .inl of))]) [0, 4, 5] rfl
  have hDc := hD.sub (ws' := [(na, .inr (7, [.int (nI W0), .int (nI H0), .ref nwalls, .int (nI n), .ref nstarts, .ref ngoals, .ref nlaid, .ref nisTold, .int vfree, .ref ncells, .ref nindex, .ref nnear, .ref nnearCount, .ref npay, .ref ndone, .ref npile, .int vtop, .ref nnow, .ref nthen, .ref nchoice, .int vfound, .int vlength, .ref nplan, .ref ncosts, .ref npaid, .ref nafter, .ref nfar, .ref nmany, .ref nnext, .int vsort, .int vwhen, .int vone, .int vtwo])), (nlaid, .inl (cI, 180, .inl lf)), (nisTold, .inl (cZ, 180, .inl of))]) [0, 4, 5] (by decide) rfl
  refine vp_callSi (W.runV (As := [.int (nI k), .int (nI tt)]) (rest := []) ⟨hx, hb, hml, hown, hg⟩ (c_md_place l D cZ cI cJ cII na nwalls nstarts ngoals nlaid nisTold ncells nindex nnear nnearCount npay ndone npile nnow nthen nchoice nplan ncosts npaid nafter nfar nmany nnext vfree vtop vfound vlength vsort vwhen vone vtwo _ _ _ lf of k tt H.size hk (by omega)) (cwV 2 hg gv_md_193 rfl rfl rfl (by decide +kernel) ⟨Nat.le_of_ble_eq_true rfl, Nat.le_of_ble_eq_true rfl⟩) ⟨mt_bl, va_recv (q0 := 0) (ci := 7) hK hP rfl rfl, mt_pr hX hPc hK hDc⟩ rfl rfl hl.1 rfl (lv_room (Nat.le_of_ble_eq_true rfl)) d_md_isWrong_3 ⟨Nat.le_of_ble_eq_true rfl, Nat.le_of_ble_eq_true rfl⟩) (fun r1 hr1 => ?_)
  have hr1 : True := hr1
  refine lv_istore_n hx hb d_md_isWrong_6 rfl hl (by decide) rfl (fun ls hl => ?_)
  have hl : lv_has ls 5 [(3, .int r1), (0, .ref na), (1, .int (nI k)), (2, .int (nI tt))] := hl
  refine lv_aload_n hx hb d_md_isWrong_7 rfl (lv_at hl 1 rfl) ?_
  refine gf_md_30 hx hb hg hown hK hP 0 rfl rfl d_md_isWrong_8 ?_
  refine lv_bipush (v := 30) hx hb d_md_isWrong_11 (by decide) ?_
  refine lv_iload_n hx hb d_md_isWrong_13 rfl (lv_at hl 2 rfl) ?_
  refine lv_imul hx hb d_md_isWrong_14 ?_
  refine lv_topi (fun y2 ey2 => ?_)
  have ey2 : y2 = nI (30 * k) := ey2.trans (by rw [show (30 : Int32) = nI 30 from rfl, pk_mul])
  subst ey2
  refine va_zald hx hb hK hP 5 0 rfl rfl (vp_in_nI (show 30 * k < 180 by omega) (by decide)) d_md_isWrong_15 ?_
  refine lv_if_eq hx hb d_md_isWrong_16 rfl (fun g1 => ?_) (fun g1 => ?_)
  ·
    refine lv_iconst (v := 1) hx hb d_md_isWrong_27 (by decide) ?_
    exact W.zret hx hb hr rfl (fun t ht _ => ⟨1, rfl, Or.inl rfl, ht.trans hH⟩) (fun _ h => absurd h List.not_mem_nil) d_md_isWrong_28
  ·
    refine lv_aload_n hx hb d_md_isWrong_19 rfl (lv_at hl 1 rfl) ?_
    refine lv_iload_n hx hb d_md_isWrong_20 rfl (lv_at hl 0 rfl) ?_
    have hPc := hP.sub (ws' := [(na, .inr (7, [.int (nI W0), .int (nI H0), .ref nwalls, .int (nI n), .ref nstarts, .ref ngoals, .ref nlaid, .ref nisTold, .int vfree, .ref ncells, .ref nindex, .ref nnear, .ref nnearCount, .ref npay, .ref ndone, .ref npile, .int vtop, .ref nnow, .ref nthen, .ref nchoice, .int vfound, .int vlength, .ref nplan, .ref ncosts, .ref npaid, .ref nafter, .ref nfar, .ref nmany, .ref nnext, .int vsort, .int vwhen, .int vone, .int vtwo])), (nwalls, .inl (cZ, 25, .inl wf))]) [0, 1] rfl
    have hDc := hD.sub (ws' := [(na, .inr (7, [.int (nI W0), .int (nI H0), .ref nwalls, .int (nI n), .ref nstarts, .ref ngoals, .ref nlaid, .ref nisTold, .int vfree, .ref ncells, .ref nindex, .ref nnear, .ref nnearCount, .ref npay, .ref ndone, .ref npile, .int vtop, .ref nnow, .ref nthen, .ref nchoice, .int vfound, .int vlength, .ref nplan, .ref ncosts, .ref npaid, .ref nafter, .ref nfar, .ref nmany, .ref nnext, .int vsort, .int vwhen, .int vone, .int vtwo])), (nwalls, .inl (cZ, 25, .inl wf))]) [0, 1] (by decide) rfl
    refine vp_callSi (W.runV (As := [.int r1]) (rest := []) ⟨hx, hb, hml, hown, hg⟩ (c_md_isFree l D cZ cI cJ cII na nwalls nstarts ngoals nlaid nisTold ncells nindex nnear nnearCount npay ndone npile nnow nthen nchoice nplan ncosts npaid nafter nfar nmany nnext (nI W0) (nI H0) (nI n) vfree vtop vfound vlength vsort vwhen vone vtwo wf r1 H.size (mt_b25 hWH.2.2.2)) (cwV 1 hg gv_md_101 rfl rfl rfl (by decide +kernel) ⟨Nat.le_of_ble_eq_true rfl, Nat.le_of_ble_eq_true rfl⟩) ⟨mt_bl, va_recv (q0 := 0) (ci := 7) hK hP rfl rfl, mt_pr hX hPc hK hDc⟩ rfl rfl hl.1 rfl (lv_room (Nat.le_of_ble_eq_true rfl)) d_md_isWrong_21 ⟨Nat.le_of_ble_eq_true rfl, Nat.le_of_ble_eq_true rfl⟩) (fun r3 hr3 => ?_)
    have hr3 : (r3 = 1 ∧ ¬ r1 < 0 ∧ ¬ (nI W0) * (nI H0) ≤ r1 ∧ wf r1.toNatClampNeg = 0) ∨ (r3 = 0 ∧ (r1 < 0 ∨ (nI W0) * (nI H0) ≤ r1 ∨ ¬ wf r1.toNatClampNeg = 0)) := hr3
    refine lv_if_ne hx hb d_md_isWrong_24 rfl (fun g3 => ?_) (fun g3 => ?_)
    ·
      refine lv_iload_n hx hb d_md_isWrong_29 rfl (lv_at hl 3 rfl) ?_
      refine lv_if_ne hx hb d_md_isWrong_30 rfl (fun g4 => ?_) (fun g4 => ?_)
      ·
        obtain ⟨t1, rfl⟩ : ∃ t1, tt = t1 + 1 := by
          cases tt with
          | zero => exact absurd nI_0 g4
          | succ t1 => exact ⟨t1, rfl⟩
        have hl : lv_has ls 5 [(3, .int r1), (0, .ref na), (1, .int (nI k)), (2, .int (nI (t1 + 1)))] := hl
        refine lv_aload_n hx hb d_md_isWrong_49 rfl (lv_at hl 1 rfl) ?_
        refine lv_iload_n hx hb d_md_isWrong_50 rfl (lv_at hl 2 rfl) ?_
        refine lv_iload_n hx hb d_md_isWrong_51 rfl (lv_at hl 3 rfl) ?_
        refine lv_iconst (v := 1) hx hb d_md_isWrong_52 (by decide) ?_
        refine lv_isub hx hb d_md_isWrong_53 ?_
        refine lv_topi (fun y4 ey4 => ?_)
        have ey4 : y4 = nI t1 := ey4.trans (nI_pred t1)
        subst ey4
        have hPc := hP.sub (ws' := [(na, .inr (7, [.int (nI W0), .int (nI H0), .ref nwalls, .int (nI n), .ref nstarts, .ref ngoals, .ref nlaid, .ref nisTold, .int vfree, .ref ncells, .ref nindex, .ref nnear, .ref nnearCount, .ref npay, .ref ndone, .ref npile, .int vtop, .ref nnow, .ref nthen, .ref nchoice, .int vfound, .int vlength, .ref nplan, .ref ncosts, .ref npaid, .ref nafter, .ref nfar, .ref nmany, .ref nnext, .int vsort, .int vwhen, .int vone, .int vtwo])), (nlaid, .inl (cI, 180, .inl lf)), (nisTold, .inl (cZ, 180, .inl of))]) [0, 4, 5] rfl
        have hDc := hD.sub (ws' := [(na, .inr (7, [.int (nI W0), .int (nI H0), .ref nwalls, .int (nI n), .ref nstarts, .ref ngoals, .ref nlaid, .ref nisTold, .int vfree, .ref ncells, .ref nindex, .ref nnear, .ref nnearCount, .ref npay, .ref ndone, .ref npile, .int vtop, .ref nnow, .ref nthen, .ref nchoice, .int vfound, .int vlength, .ref nplan, .ref ncosts, .ref npaid, .ref nafter, .ref nfar, .ref nmany, .ref nnext, .int vsort, .int vwhen, .int vone, .int vtwo])), (nlaid, .inl (cI, 180, .inl lf)), (nisTold, .inl (cZ, 180, .inl of))]) [0, 4, 5] (by decide) rfl
        refine vp_callSi (W.runV (As := [.int (nI k), .int (nI t1)]) (rest := []) ⟨hx, hb, hml, hown, hg⟩ (c_md_place l D cZ cI cJ cII na nwalls nstarts ngoals nlaid nisTold ncells nindex nnear nnearCount npay ndone npile nnow nthen nchoice nplan ncosts npaid nafter nfar nmany nnext vfree vtop vfound vlength vsort vwhen vone vtwo _ _ _ lf of k t1 H.size hk (by omega)) (cwV 2 hg gv_md_193 rfl rfl rfl (by decide +kernel) ⟨Nat.le_of_ble_eq_true rfl, Nat.le_of_ble_eq_true rfl⟩) ⟨mt_bl, va_recv (q0 := 0) (ci := 7) hK hP rfl rfl, mt_pr hX hPc hK hDc⟩ rfl rfl hl.1 rfl (lv_room (Nat.le_of_ble_eq_true rfl)) d_md_isWrong_54 ⟨Nat.le_of_ble_eq_true rfl, Nat.le_of_ble_eq_true rfl⟩) (fun r5 hr5 => ?_)
        have hr5 : True := hr5
        refine lv_istore hx hb d_md_isWrong_57 hl (by decide) rfl (fun ls hl => ?_)
        have hl : lv_has ls 5 [(4, .int r5), (3, .int r1), (0, .ref na), (1, .int (nI k)), (2, .int (nI (t1 + 1)))] := hl
        refine lv_iload_n hx hb d_md_isWrong_59 rfl (lv_at hl 1 rfl) ?_
        refine lv_iload hx hb d_md_isWrong_60 (lv_at hl 0 rfl) ?_
        refine lv_icmp_eq hx hb d_md_isWrong_62 rfl (fun g6 => ?_) (fun g6 => ?_)
        ·
          refine lv_iload_n hx hb d_md_isWrong_75 rfl (lv_at hl 4 rfl) ?_
          refine lv_bipush (v := 29) hx hb d_md_isWrong_76 (by decide) ?_
          refine lv_icmp_ne hx hb d_md_isWrong_78 rfl (fun g8 => ?_) (fun g8 => ?_)
          ·
            refine lv_iconst (v := 0) hx hb d_md_isWrong_95 (by decide) ?_
            exact W.zret hx hb hr rfl (fun t ht _ => ⟨0, rfl, Or.inr rfl, ht.trans hH⟩) (fun _ h => absurd h List.not_mem_nil) d_md_isWrong_96
          ·
            refine lv_iload_n hx hb d_md_isWrong_81 rfl (lv_at hl 1 rfl) ?_
            refine lv_aload_n hx hb d_md_isWrong_82 rfl (lv_at hl 2 rfl) ?_
            refine gf_md_24 hx hb hg hown hK hP 0 rfl rfl d_md_isWrong_83 ?_
            refine lv_iload_n hx hb d_md_isWrong_86 rfl (lv_at hl 3 rfl) ?_
            refine va_iald hx hb hK hP 3 1 rfl rfl (vp_in_nI (show k < 25 by omega) (by decide)) d_md_isWrong_87 ?_
            refine lv_icmp_eq hx hb d_md_isWrong_88 rfl (fun g9 => ?_) (fun g9 => ?_)
            ·
              refine lv_iconst (v := 0) hx hb d_md_isWrong_95 (by decide) ?_
              exact W.zret hx hb hr rfl (fun t ht _ => ⟨0, rfl, Or.inr rfl, ht.trans hH⟩) (fun _ h => absurd h List.not_mem_nil) d_md_isWrong_96
            ·
              refine lv_iconst (v := 1) hx hb d_md_isWrong_91 (by decide) ?_
              refine lv_goto hx hb d_md_isWrong_92 rfl ?_
              exact W.zret hx hb hr rfl (fun t ht _ => ⟨1, rfl, Or.inl rfl, ht.trans hH⟩) (fun _ h => absurd h List.not_mem_nil) d_md_isWrong_96
        ·
          refine lv_aload_n hx hb d_md_isWrong_65 rfl (lv_at hl 2 rfl) ?_
          refine lv_iload_n hx hb d_md_isWrong_66 rfl (lv_at hl 1 rfl) ?_
          refine lv_iload hx hb d_md_isWrong_67 (lv_at hl 0 rfl) ?_
          have hPc := hP.sub (ws' := [(na, .inr (7, [.int (nI W0), .int (nI H0), .ref nwalls, .int (nI n), .ref nstarts, .ref ngoals, .ref nlaid, .ref nisTold, .int vfree, .ref ncells, .ref nindex, .ref nnear, .ref nnearCount, .ref npay, .ref ndone, .ref npile, .int vtop, .ref nnow, .ref nthen, .ref nchoice, .int vfound, .int vlength, .ref nplan, .ref ncosts, .ref npaid, .ref nafter, .ref nfar, .ref nmany, .ref nnext, .int vsort, .int vwhen, .int vone, .int vtwo]))]) [0] rfl
          have hDc := hD.sub (ws' := [(na, .inr (7, [.int (nI W0), .int (nI H0), .ref nwalls, .int (nI n), .ref nstarts, .ref ngoals, .ref nlaid, .ref nisTold, .int vfree, .ref ncells, .ref nindex, .ref nnear, .ref nnearCount, .ref npay, .ref ndone, .ref npile, .int vtop, .ref nnow, .ref nthen, .ref nchoice, .int vfound, .int vlength, .ref nplan, .ref ncosts, .ref npaid, .ref nafter, .ref nfar, .ref nmany, .ref nnext, .int vsort, .int vwhen, .int vone, .int vtwo]))]) [0] (by decide) rfl
          refine vp_callSi (W.runV (As := [.int r1, .int r5]) (rest := []) ⟨hx, hb, hml, hown, hg⟩ (c_md_isBesideA l D cZ cI cJ cII na nwalls nstarts ngoals nlaid nisTold ncells nindex nnear nnearCount npay ndone npile nnow nthen nchoice nplan ncosts npaid nafter nfar nmany nnext vfree vtop vfound vlength vsort vwhen vone vtwo _ _ _ r1 r5 H.size hWH) (cwV 2 hg gv_md_107 rfl rfl rfl (by decide +kernel) ⟨Nat.le_of_ble_eq_true rfl, Nat.le_of_ble_eq_true rfl⟩) ⟨mt_bl, va_recv (q0 := 0) (ci := 7) hK hP rfl rfl, mt_pr hX hPc hK hDc⟩ rfl rfl hl.1 rfl (lv_room (Nat.le_of_ble_eq_true rfl)) d_md_isWrong_69 ⟨Nat.le_of_ble_eq_true rfl, Nat.le_of_ble_eq_true rfl⟩) (fun r6 hr6 => ?_)
          have hr6 : r6 = 1 ∨ r6 = 0 := hr6
          refine lv_if_eq hx hb d_md_isWrong_72 rfl (fun g7 => ?_) (fun g7 => ?_)
          ·
            refine lv_iconst (v := 1) hx hb d_md_isWrong_91 (by decide) ?_
            refine lv_goto hx hb d_md_isWrong_92 rfl ?_
            exact W.zret hx hb hr rfl (fun t ht _ => ⟨1, rfl, Or.inl rfl, ht.trans hH⟩) (fun _ h => absurd h List.not_mem_nil) d_md_isWrong_96
          ·
            refine lv_iload_n hx hb d_md_isWrong_75 rfl (lv_at hl 4 rfl) ?_
            refine lv_bipush (v := 29) hx hb d_md_isWrong_76 (by decide) ?_
            refine lv_icmp_ne hx hb d_md_isWrong_78 rfl (fun g8 => ?_) (fun g8 => ?_)
            ·
              refine lv_iconst (v := 0) hx hb d_md_isWrong_95 (by decide) ?_
              exact W.zret hx hb hr rfl (fun t ht _ => ⟨0, rfl, Or.inr rfl, ht.trans hH⟩) (fun _ h => absurd h List.not_mem_nil) d_md_isWrong_96
            ·
              refine lv_iload_n hx hb d_md_isWrong_81 rfl (lv_at hl 1 rfl) ?_
              refine lv_aload_n hx hb d_md_isWrong_82 rfl (lv_at hl 2 rfl) ?_
              refine gf_md_24 hx hb hg hown hK hP 0 rfl rfl d_md_isWrong_83 ?_
              refine lv_iload_n hx hb d_md_isWrong_86 rfl (lv_at hl 3 rfl) ?_
              refine va_iald hx hb hK hP 3 1 rfl rfl (vp_in_nI (show k < 25 by omega) (by decide)) d_md_isWrong_87 ?_
              refine lv_icmp_eq hx hb d_md_isWrong_88 rfl (fun g9 => ?_) (fun g9 => ?_)
              ·
                refine lv_iconst (v := 0) hx hb d_md_isWrong_95 (by decide) ?_
                exact W.zret hx hb hr rfl (fun t ht _ => ⟨0, rfl, Or.inr rfl, ht.trans hH⟩) (fun _ h => absurd h List.not_mem_nil) d_md_isWrong_96
              ·
                refine lv_iconst (v := 1) hx hb d_md_isWrong_91 (by decide) ?_
                refine lv_goto hx hb d_md_isWrong_92 rfl ?_
                exact W.zret hx hb hr rfl (fun t ht _ => ⟨1, rfl, Or.inl rfl, ht.trans hH⟩) (fun _ h => absurd h List.not_mem_nil) d_md_isWrong_96
      ·
        refine lv_iload_n hx hb d_md_isWrong_33 rfl (lv_at hl 0 rfl) ?_
        refine lv_aload_n hx hb d_md_isWrong_34 rfl (lv_at hl 1 rfl) ?_
        refine gf_md_20 hx hb hg hown hK hP 0 rfl rfl d_md_isWrong_35 ?_
        refine lv_iload_n hx hb d_md_isWrong_38 rfl (lv_at hl 2 rfl) ?_
        refine va_iald hx hb hK hP 2 1 rfl rfl (vp_in_nI (show k < 25 by omega) (by decide)) d_md_isWrong_39 ?_
        refine lv_icmp_eq hx hb d_md_isWrong_40 rfl (fun g5 => ?_) (fun g5 => ?_)
        ·
          refine lv_iconst (v := 0) hx hb d_md_isWrong_47 (by decide) ?_
          exact W.zret hx hb hr rfl (fun t ht _ => ⟨0, rfl, Or.inr rfl, ht.trans hH⟩) (fun _ h => absurd h List.not_mem_nil) d_md_isWrong_48
        ·
          refine lv_iconst (v := 1) hx hb d_md_isWrong_43 (by decide) ?_
          refine lv_goto hx hb d_md_isWrong_44 rfl ?_
          exact W.zret hx hb hr rfl (fun t ht _ => ⟨1, rfl, Or.inl rfl, ht.trans hH⟩) (fun _ h => absurd h List.not_mem_nil) d_md_isWrong_48
    ·
      refine lv_iconst (v := 1) hx hb d_md_isWrong_27 (by decide) ?_
      exact W.zret hx hb hr rfl (fun t ht _ => ⟨1, rfl, Or.inl rfl, ht.trans hH⟩) (fun _ h => absurd h List.not_mem_nil) d_md_isWrong_28

set_option maxHeartbeats 4000000 in
set_option maxRecDepth 100000 in
theorem c_md_wrong (l : Launch) (D : va_G) (cZ cI cJ cII : ClassId) (na : Nat) (nwalls : Nat) (nstarts : Nat) (ngoals : Nat) (nlaid : Nat) (nisTold : Nat) (ncells : Nat) (nindex : Nat) (nnear : Nat) (nnearCount : Nat) (npay : Nat) (ndone : Nat) (npile : Nat) (nnow : Nat) (nthen : Nat) (nchoice : Nat) (nplan : Nat) (ncosts : Nat) (npaid : Nat) (nafter : Nat) (nfar : Nat) (nmany : Nat) (nnext : Nat) (vfree : Int32) (vtop : Int32) (vfound : Int32) (vlength : Int32) (vsort : Int32) (vwhen : Int32) (vone : Int32) (vtwo : Int32) (W0 : Nat) (H0 : Nat) (n : Nat) (b1 : Int32) (b2 : Int32) (b3 : Int32) (b4 : Int32) (sz : Nat)  : Met l y_md_wrong w_md_wrong ({ frames := 0, cells := 0, slots := 0, locals := 0 }) (va_Pc [.ref na, .int b1, .int b2, .int b3, .int b4] (mt_B D [(cZ, .boolean), (cI, .int), (cJ, .long), (cII, .array .int)] [(na, .inr (7, [.int (nI W0), .int (nI H0), .ref nwalls, .int (nI n), .ref nstarts, .ref ngoals, .ref nlaid, .ref nisTold, .int vfree, .ref ncells, .ref nindex, .ref nnear, .ref nnearCount, .ref npay, .ref ndone, .ref npile, .int vtop, .ref nnow, .ref nthen, .ref nchoice, .int vfound, .int vlength, .ref nplan, .ref ncosts, .ref npaid, .ref nafter, .ref nfar, .ref nmany, .ref nnext, .int vsort, .int vwhen, .int vone, .int vtwo]))] sz)) ((fun A => va_Qv (fun (u : Int32 × Int32 × Int32 × Int32) => True) (fun (u : Int32 × Int32 × Int32 × Int32) (t : State) => mt_O D A [(na, .inr (7, [.int (nI W0), .int (nI H0), .ref nwalls, .int (nI n), .ref nstarts, .ref ngoals, .ref nlaid, .ref nisTold, .int vfree, .ref ncells, .ref nindex, .ref nnear, .ref nnearCount, .ref npay, .ref ndone, .ref npile, .int vtop, .ref nnow, .ref nthen, .ref nchoice, .int vfound, .int vlength, .ref nplan, .ref ncosts, .ref npaid, .ref nafter, .ref nfar, .ref nmany, .ref nnext, .int (u.1), .int (u.2.1), .int (u.2.2.1), .int (u.2.2.2)]))] t) A) (va_A [(na, .inr (7, [.int (nI W0), .int (nI H0), .ref nwalls, .int (nI n), .ref nstarts, .ref ngoals, .ref nlaid, .ref nisTold, .int vfree, .ref ncells, .ref nindex, .ref nnear, .ref nnearCount, .ref npay, .ref ndone, .ref npile, .int vtop, .ref nnow, .ref nthen, .ref nchoice, .int vfound, .int vlength, .ref nplan, .ref ncosts, .ref npaid, .ref nafter, .ref nfar, .ref nmany, .ref nnext, .int vsort, .int vwhen, .int vone, .int vtwo]))] sz)) 0 0 (va_A [(na, .inr (7, [.int (nI W0), .int (nI H0), .ref nwalls, .int (nI n), .ref nstarts, .ref ngoals, .ref nlaid, .ref nisTold, .int vfree, .ref ncells, .ref nindex, .ref nnear, .ref nnearCount, .ref npay, .ref ndone, .ref npile, .int vtop, .ref nnow, .ref nthen, .ref nchoice, .int vfound, .int vlength, .ref nplan, .ref ncosts, .ref npaid, .ref nafter, .ref nfar, .ref nmany, .ref nnext, .int vsort, .int vwhen, .int vone, .int vtwo]))] sz) := by
  refine mt_of (y := y_md_wrong) (n := 5) (av := [.ref na, .int b1, .int b2, .int b3, .int b4]) (QF := (fun A => va_Qv (fun (u : Int32 × Int32 × Int32 × Int32) => True) (fun (u : Int32 × Int32 × Int32 × Int32) (t : State) => mt_O D A [(na, .inr (7, [.int (nI W0), .int (nI H0), .ref nwalls, .int (nI n), .ref nstarts, .ref ngoals, .ref nlaid, .ref nisTold, .int vfree, .ref ncells, .ref nindex, .ref nnear, .ref nnearCount, .ref npay, .ref ndone, .ref npile, .int vtop, .ref nnow, .ref nthen, .ref nchoice, .int vfound, .int vlength, .ref nplan, .ref ncosts, .ref npaid, .ref nafter, .ref nfar, .ref nmany, .ref nnext, .int (u.1), .int (u.2.1), .int (u.2.2.1), .int (u.2.2.2)]))] t) A)) (by decide) (Nat.le_of_ble_eq_true rfl) ?_
  intro p e s m below meth c ls A hx hb hr hlk hml hown hnm hg hl hX hP hK hD hA hS
  obtain ⟨H, hH⟩ : ∃ H : Heap, H = s.heap := ⟨_, rfl⟩
  have hS : va_S A s.heap H [] := by rw [hH]; exact va_S.rf
  rw [← hH] at hP ⊢
  have hown : s.vm.findClass R_md = some m.cls := hown
  have hl : lv_has ls 5 [(0, .ref na), (1, .int b1), (2, .int b2), (3, .int b3), (4, .int b4)] := hl
  refine lv_aload_n hx hb d_md_wrong_0 rfl (lv_at hl 0 rfl) ?_
  refine gf_md_196 hx hb hg hown hK hP 0 rfl rfl d_md_wrong_1 ?_
  refine lv_if_ne hx hb d_md_wrong_4 rfl (fun g1 => ?_) (fun g1 => ?_)
  ·
    have hP9 := hP
    have hD9 := hD
    exact W.vret hx hb hr (fun t ht hW => ⟨⟨(vsort, vwhen, vone, vtwo), rfl, trivial, by rw [ht]; exact hP9, hD9⟩, hS.F ht⟩) hS.2.2 d_md_wrong_28
  ·
    refine lv_aload_n hx hb d_md_wrong_7 rfl (lv_at hl 0 rfl) ?_
    refine lv_iload_n hx hb d_md_wrong_8 rfl (lv_at hl 1 rfl) ?_
    refine pf_md_196 hx hb hg hown hK hP hD hS 0 rfl rfl rfl (Nat.le_of_ble_eq_true rfl) d_md_wrong_9 (fun H locs hP hD hS => ?_)
    have hP : va_P D kls [(na, .inr (7, [.int (nI W0), .int (nI H0), .ref nwalls, .int (nI n), .ref nstarts, .ref ngoals, .ref nlaid, .ref nisTold, .int vfree, .ref ncells, .ref nindex, .ref nnear, .ref nnearCount, .ref npay, .ref ndone, .ref npile, .int vtop, .ref nnow, .ref nthen, .ref nchoice, .int vfound, .int vlength, .ref nplan, .ref ncosts, .ref npaid, .ref nafter, .ref nfar, .ref nmany, .ref nnext, .int b1, .int vwhen, .int vone, .int vtwo]))] H := hP
    have hD : va_D A [(na, .inr (7, [.int (nI W0), .int (nI H0), .ref nwalls, .int (nI n), .ref nstarts, .ref ngoals, .ref nlaid, .ref nisTold, .int vfree, .ref ncells, .ref nindex, .ref nnear, .ref nnearCount, .ref npay, .ref ndone, .ref npile, .int vtop, .ref nnow, .ref nthen, .ref nchoice, .int vfound, .int vlength, .ref nplan, .ref ncosts, .ref npaid, .ref nafter, .ref nfar, .ref nmany, .ref nnext, .int b1, .int vwhen, .int vone, .int vtwo]))] := hD
    refine lv_aload_n hx hb d_md_wrong_12 rfl (lv_at hl 0 rfl) ?_
    refine lv_iload_n hx hb d_md_wrong_13 rfl (lv_at hl 2 rfl) ?_
    refine pf_md_199 hx hb hg hown hK hP hD hS 0 rfl rfl rfl (Nat.le_of_ble_eq_true rfl) d_md_wrong_14 (fun H locs hP hD hS => ?_)
    have hP : va_P D kls [(na, .inr (7, [.int (nI W0), .int (nI H0), .ref nwalls, .int (nI n), .ref nstarts, .ref ngoals, .ref nlaid, .ref nisTold, .int vfree, .ref ncells, .ref nindex, .ref nnear, .ref nnearCount, .ref npay, .ref ndone, .ref npile, .int vtop, .ref nnow, .ref nthen, .ref nchoice, .int vfound, .int vlength, .ref nplan, .ref ncosts, .ref npaid, .ref nafter, .ref nfar, .ref nmany, .ref nnext, .int b1, .int b2, .int vone, .int vtwo]))] H := hP
    have hD : va_D A [(na, .inr (7, [.int (nI W0), .int (nI H0), .ref nwalls, .int (nI n), .ref nstarts, .ref ngoals, .ref nlaid, .ref nisTold, .int vfree, .ref ncells, .ref nindex, .ref nnear, .ref nnearCount, .ref npay, .ref ndone, .ref npile, .int vtop, .ref nnow, .ref nthen, .ref nchoice, .int vfound, .int vlength, .ref nplan, .ref ncosts, .ref npaid, .ref nafter, .ref nfar, .ref nmany, .ref nnext, .int b1, .int b2, .int vone, .int vtwo]))] := hD
    refine lv_aload_n hx hb d_md_wrong_17 rfl (lv_at hl 0 rfl) ?_
    refine lv_iload_n hx hb d_md_wrong_18 rfl (lv_at hl 3 rfl) ?_
    refine pf_md_202 hx hb hg hown hK hP hD hS 0 rfl rfl rfl (Nat.le_of_ble_eq_true rfl) d_md_wrong_19 (fun H locs hP hD hS => ?_)
    have hP : va_P D kls [(na, .inr (7, [.int (nI W0), .int (nI H0), .ref nwalls, .int (nI n), .ref nstarts, .ref ngoals, .ref nlaid, .ref nisTold, .int vfree, .ref ncells, .ref nindex, .ref nnear, .ref nnearCount, .ref npay, .ref ndone, .ref npile, .int vtop, .ref nnow, .ref nthen, .ref nchoice, .int vfound, .int vlength, .ref nplan, .ref ncosts, .ref npaid, .ref nafter, .ref nfar, .ref nmany, .ref nnext, .int b1, .int b2, .int b3, .int vtwo]))] H := hP
    have hD : va_D A [(na, .inr (7, [.int (nI W0), .int (nI H0), .ref nwalls, .int (nI n), .ref nstarts, .ref ngoals, .ref nlaid, .ref nisTold, .int vfree, .ref ncells, .ref nindex, .ref nnear, .ref nnearCount, .ref npay, .ref ndone, .ref npile, .int vtop, .ref nnow, .ref nthen, .ref nchoice, .int vfound, .int vlength, .ref nplan, .ref ncosts, .ref npaid, .ref nafter, .ref nfar, .ref nmany, .ref nnext, .int b1, .int b2, .int b3, .int vtwo]))] := hD
    refine lv_aload_n hx hb d_md_wrong_22 rfl (lv_at hl 0 rfl) ?_
    refine lv_iload hx hb d_md_wrong_23 (lv_at hl 4 rfl) ?_
    refine pf_md_205 hx hb hg hown hK hP hD hS 0 rfl rfl rfl (Nat.le_of_ble_eq_true rfl) d_md_wrong_25 (fun H locs hP hD hS => ?_)
    have hP : va_P D kls [(na, .inr (7, [.int (nI W0), .int (nI H0), .ref nwalls, .int (nI n), .ref nstarts, .ref ngoals, .ref nlaid, .ref nisTold, .int vfree, .ref ncells, .ref nindex, .ref nnear, .ref nnearCount, .ref npay, .ref ndone, .ref npile, .int vtop, .ref nnow, .ref nthen, .ref nchoice, .int vfound, .int vlength, .ref nplan, .ref ncosts, .ref npaid, .ref nafter, .ref nfar, .ref nmany, .ref nnext, .int b1, .int b2, .int b3, .int b4]))] H := hP
    have hD : va_D A [(na, .inr (7, [.int (nI W0), .int (nI H0), .ref nwalls, .int (nI n), .ref nstarts, .ref ngoals, .ref nlaid, .ref nisTold, .int vfree, .ref ncells, .ref nindex, .ref nnear, .ref nnearCount, .ref npay, .ref ndone, .ref npile, .int vtop, .ref nnow, .ref nthen, .ref nchoice, .int vfound, .int vlength, .ref nplan, .ref ncosts, .ref npaid, .ref nafter, .ref nfar, .ref nmany, .ref nnext, .int b1, .int b2, .int b3, .int b4]))] := hD
    have hP9 := hP
    have hD9 := hD
    exact W.vret hx hb hr (fun t ht hW => ⟨⟨(b1, b2, b3, b4), rfl, trivial, by rw [ht]; exact hP9, hD9⟩, hS.F ht⟩) hS.2.2 d_md_wrong_28
