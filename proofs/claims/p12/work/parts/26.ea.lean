set_option maxHeartbeats 4000000 in
set_option maxRecDepth 100000 in
theorem c_md_isWrong (l : Launch) (D : va_G) (cZ cI cJ cII : ClassId) (na : Nat) (nwalls : Nat) (nstarts : Nat) (ngoals : Nat) (nlaid : Nat) (nisTold : Nat) (ncells : Nat) (nindex : Nat) (nnear : Nat) (nnearCount : Nat) (npay : Nat) (ndone : Nat) (npile : Nat) (nnow : Nat) (nthen : Nat) (nchoice : Nat) (nplan : Nat) (ncosts : Nat) (npaid : Nat) (nafter : Nat) (nfar : Nat) (nmany : Nat) (nnext : Nat) (vfree : Int32) (vtop : Int32) (vfound : Int32) (vlength : Int32) (vsort : Int32) (vwhen : Int32) (vone : Int32) (vtwo : Int32) (W0 : Nat) (H0 : Nat) (n : Nat) (wf : Nat → Int32) (sf : Nat → Int32) (gf : Nat → Int32) (lf : Nat → Int32) (of : Nat → Int32) (k : Nat) (tt : Nat) (sz : Nat) (hWH : 1 ≤ W0 ∧ W0 ≤ 6 ∧ H0 ≤ 6 ∧ W0 * H0 ≤ 25) (hk : k < 6) (htt : tt < 30) (hpv : tt = 0 ∨ jf_P W0 H0 wf (rp_ of lf k (tt - 1))) : Met l y_md_isWrong w_md_isWrong ({ frames := 3, cells := 0, slots := 0, locals := 120 }) (va_Pc [.ref na, .int (nI k), .int (nI tt)] (mt_B D [(cZ, .boolean), (cI, .int), (cJ, .long), (cII, .array .int)] [(na, .inr (7, [.int (nI W0), .int (nI H0), .ref nwalls, .int (nI n), .ref nstarts, .ref ngoals, .ref nlaid, .ref nisTold, .int vfree, .ref ncells, .ref nindex, .ref nnear, .ref nnearCount, .ref npay, .ref ndone, .ref npile, .int vtop, .ref nnow, .ref nthen, .ref nchoice, .int vfound, .int vlength, .ref nplan, .ref ncosts, .ref npaid, .ref nafter, .ref nfar, .ref nmany, .ref nnext, .int vsort, .int vwhen, .int vone, .int vtwo])), (nwalls, .inl (cZ, 25, .inl wf)), (nstarts, .inl (cI, 25, .inl sf)), (ngoals, .inl (cI, 25, .inl gf)), (nlaid, .inl (cI, 180, .inl lf)), (nisTold, .inl (cZ, 180, .inl of))] sz)) (vp_Si (fun r : Int32 => (r = 1 ∧ jw_P W0 H0 wf sf gf lf of k tt) ∨ (r = 0 ∧ ¬ jw_P W0 H0 wf sf gf lf of k tt))) 0 0 (fun _ => False) := by
  refine mt_ofR (by decide) (Nat.le_of_ble_eq_true rfl) ?_
  intro p e s m below meth c ls hx hb hr hlk hml hown hg hl hX hP hK hD
  have hown : s.vm.findClass R_md = some m.cls := hown
  obtain ⟨H, hH⟩ : ∃ H : Heap, H = s.heap := ⟨_, rfl⟩
  rw [← hH] at hP ⊢
  have hl : lv_has ls 5 [(0, .ref na), (1, .int (nI k)), (2, .int (nI tt))] := hl
  refine lv_aload_n hx hb d_md_isWrong_0 rfl (lv_at hl 0 rfl) ?_
  refine lv_iload_n hx hb d_md_isWrong_1 rfl (lv_at hl 1 rfl) ?_
  refine lv_iload_n hx hb d_md_isWrong_2 rfl (lv_at hl 2 rfl) ?_
  have hPc := hP.sub (ws' := [(na, .inr (7, [.int (nI W0), .int (nI H0), .ref nwalls, .int (nI n), .ref nstarts, .ref ngoals, .ref nlaid, .ref nisTold, .int vfree, .ref ncells, .ref nindex, .ref nnear, .ref nnearCount, .ref npay, .ref ndone, .ref npile, .int vtop, .ref nnow, .ref nthen, .ref nchoice, .int vfound, .int vlength, .ref nplan, .ref ncosts, .ref npaid, .ref nafter, .ref nfar, .ref nmany, .ref nnext, .int vsort, .int vwhen, .int vone, .int vtwo])), (nlaid, .inl (cI, 180, .inl lf)), (nisTold, .inl (cZ, 180, .inl of))]) [0, 4, 5] rfl
  have hDc := hD.sub (ws' := [(na, .inr (7, [.int (nI W0), .int (nI H0), .ref nwalls, .int (nI n), .ref nstarts, .ref ngoals, .ref nlaid, .ref nisTold, .int vfree, .ref ncells, .ref nindex, .ref nnear, .ref nnearCount, .ref npay, .ref ndone, .ref npile, .int vtop, .ref nnow, .ref nthen, .ref nchoice, .int vfound, .int vlength, .ref nplan, .ref ncosts, .ref npaid, .ref nafter, .ref nfar, .ref nmany, .ref nnext, .int vsort, .int vwhen, .int vone, .int vtwo])), (nlaid, .inl (cI, 180, .inl lf)), (nisTold, .inl (cZ, 180, .inl of))]) [0, 4, 5] (by decide) rfl
  refine vp_callSi (W.runV (As := [.int (nI k), .int (nI tt)]) (rest := []) ⟨hx, hb, hml, hown, hg⟩ (c_md_place l D cZ cI cJ cII na nwalls nstarts ngoals nlaid nisTold ncells nindex nnear nnearCount npay ndone npile nnow nthen nchoice nplan ncosts npaid nafter nfar nmany nnext vfree vtop vfound vlength vsort vwhen vone vtwo _ _ _ lf of k tt H.size hk (by omega)) (cwV 2 hg gv_md_193 rfl rfl rfl (by decide +kernel) ⟨Nat.le_of_ble_eq_true rfl, Nat.le_of_ble_eq_true rfl⟩) ⟨mt_bl, va_recv (q0 := 0) (ci := 7) hK hP rfl rfl, mt_pr hX hPc hK hDc⟩ rfl rfl hl.1 rfl (lv_room (Nat.le_of_ble_eq_true rfl)) d_md_isWrong_3 ⟨Nat.le_of_ble_eq_true rfl, Nat.le_of_ble_eq_true rfl⟩) (fun r1 hr1 => ?_)
  have hr1 : r1 = rp_ of lf k tt := hr1
  have hpl := hr1
  refine lv_istore_n hx hb d_md_isWrong_6 rfl hl (by decide) rfl (fun ls hl => ?_)
  have hl : lv_has ls 5 [(3, .int r1), (0, .ref na), (1, .int (nI k)), (2, .int (nI tt))] := hl
  refine lv_aload_n hx hb d_md_isWrong_7 rfl (lv_at hl 1 rfl) ?_
  refine gf_md_30 hx hb hg hown hK hP 0 rfl rfl d_md_isWrong_8 ?_
  refine lv_bipush (v := 30) hx hb d_md_isWrong_11 (by decide) ?_
  refine lv_iload_n hx hb d_md_isWrong_13 rfl (lv_at hl 2 rfl) ?_
  refine lv_imul hx hb d_md_isWrong_14 ?_
  refine lv_topi (fun y2 ey2 => ?_)
  have ey2 : y2 = nI (30 * k) := ey2.trans (by rw [show (30 : Int32) = nI 30 from rfl, pk_mul])
  subst ey2
  refine va_zald hx hb hK hP 5 0 rfl rfl (vp_in_nI (show 30 * k < 180 by omega) (by decide)) d_md_isWrong_15 ?_
  refine lv_topi (fun y3 ey3 => ?_)
  have ey3 : y3 = of (30 * k) := ey3.trans (by rw [nI_clamp (show 30 * k < 2 ^ 31 by omega)])
  subst ey3
  refine lv_if_eq hx hb d_md_isWrong_16 rfl (fun g1 => ?_) (fun g1 => ?_)
  ·
    refine lv_iconst (v := 1) hx hb d_md_isWrong_27 (by decide) ?_
    exact W.zret hx hb hr rfl (fun t ht _ => ⟨1, rfl, Or.inl ⟨rfl, Or.inl g1⟩, ht.trans hH⟩) (fun _ h => absurd h List.not_mem_nil) d_md_isWrong_28
  ·
    refine lv_aload_n hx hb d_md_isWrong_19 rfl (lv_at hl 1 rfl) ?_
    refine lv_iload_n hx hb d_md_isWrong_20 rfl (lv_at hl 0 rfl) ?_
    have hPc := hP.sub (ws' := [(na, .inr (7, [.int (nI W0), .int (nI H0), .ref nwalls, .int (nI n), .ref nstarts, .ref ngoals, .ref nlaid, .ref nisTold, .int vfree, .ref ncells, .ref nindex, .ref nnear, .ref nnearCount, .ref npay, .ref ndone, .ref npile, .int vtop, .ref nnow, .ref nthen, .ref nchoice, .int vfound, .int vlength, .ref nplan, .ref ncosts, .ref npaid, .ref nafter, .ref nfar, .ref nmany, .ref nnext, .int vsort, .int vwhen, .int vone, .int vtwo])), (nwalls, .inl (cZ, 25, .inl wf))]) [0, 1] rfl
    have hDc := hD.sub (ws' := [(na, .inr (7, [.int (nI W0), .int (nI H0), .ref nwalls, .int (nI n), .ref nstarts, .ref ngoals, .ref nlaid, .ref nisTold, .int vfree, .ref ncells, .ref nindex, .ref nnear, .ref nnearCount, .ref npay, .ref ndone, .ref npile, .int vtop, .ref nnow, .ref nthen, .ref nchoice, .int vfound, .int vlength, .ref nplan, .ref ncosts, .ref npaid, .ref nafter, .ref nfar, .ref nmany, .ref nnext, .int vsort, .int vwhen, .int vone, .int vtwo])), (nwalls, .inl (cZ, 25, .inl wf))]) [0, 1] (by decide) rfl
    refine vp_callSi (W.runV (As := [.int r1]) (rest := []) ⟨hx, hb, hml, hown, hg⟩ (c_md_isFree l D cZ cI cJ cII na nwalls nstarts ngoals nlaid nisTold ncells nindex nnear nnearCount npay ndone npile nnow nthen nchoice nplan ncosts npaid nafter nfar nmany nnext (nI W0) (nI H0) (nI n) vfree vtop vfound vlength vsort vwhen vone vtwo wf r1 H.size (mt_b25 hWH.2.2.2)) (cwV 1 hg gv_md_101 rfl rfl rfl (by decide +kernel) ⟨Nat.le_of_ble_eq_true rfl, Nat.le_of_ble_eq_true rfl⟩) ⟨mt_bl, va_recv (q0 := 0) (ci := 7) hK hP rfl rfl, mt_pr hX hPc hK hDc⟩ rfl rfl hl.1 rfl (lv_room (Nat.le_of_ble_eq_true rfl)) d_md_isWrong_21 ⟨Nat.le_of_ble_eq_true rfl, Nat.le_of_ble_eq_true rfl⟩) (fun r4 hr4 => ?_)
    have hr4 : (r4 = 1 ∧ ¬ r1 < 0 ∧ ¬ (nI W0) * (nI H0) ≤ r1 ∧ wf r1.toNatClampNeg = 0) ∨ (r4 = 0 ∧ (r1 < 0 ∨ (nI W0) * (nI H0) ≤ r1 ∨ ¬ wf r1.toNatClampNeg = 0)) := hr4
    have hfr := hr4
    refine lv_if_ne hx hb d_md_isWrong_24 rfl (fun g3 => ?_) (fun g3 => ?_)
    ·
      obtain ⟨a, hxa, haf⟩ := xv_fr hWH.2.2.2 (hfr.elim (fun q => q.2) (fun q => absurd q.1 g3))
      have hpa : rp_ of lf k tt = nI a := hpl.symm.trans hxa
      rw [hxa] at hl
      have hl : lv_has ls 5 [(3, .int (nI a)), (0, .ref na), (1, .int (nI k)), (2, .int (nI tt))] := hl
      refine lv_iload_n hx hb d_md_isWrong_29 rfl (lv_at hl 3 rfl) ?_
      refine lv_if_ne hx hb d_md_isWrong_30 rfl (fun g4 => ?_) (fun g4 => ?_)
      ·
        obtain ⟨t1, rfl⟩ : ∃ t1, tt = t1 + 1 := by
          cases tt with
          | zero => exact absurd nI_0 g4
          | succ t1 => exact ⟨t1, rfl⟩
        obtain ⟨b, hxb, hbf⟩ : jf_P W0 H0 wf (rp_ of lf k t1) := hpv.resolve_left (by omega)
        have ha25 : a < 25 := by have := haf.1; omega
        have hb25 : b < 25 := by have := hbf.1; omega
        have hl : lv_has ls 5 [(3, .int (nI a)), (0, .ref na), (1, .int (nI k)), (2, .int (nI (t1 + 1)))] := hl
        refine lv_aload_n hx hb d_md_isWrong_49 rfl (lv_at hl 1 rfl) ?_
        refine lv_iload_n hx hb d_md_isWrong_50 rfl (lv_at hl 2 rfl) ?_
        refine lv_iload_n hx hb d_md_isWrong_51 rfl (lv_at hl 3 rfl) ?_
        refine lv_iconst (v := 1) hx hb d_md_isWrong_52 (by decide) ?_
        refine lv_isub hx hb d_md_isWrong_53 ?_
        refine lv_topi (fun y5 ey5 => ?_)
        have ey5 : y5 = nI t1 := ey5.trans (nI_pred t1)
        subst ey5
        have hPc := hP.sub (ws' := [(na, .inr (7, [.int (nI W0), .int (nI H0), .ref nwalls, .int (nI n), .ref nstarts, .ref ngoals, .ref nlaid, .ref nisTold, .int vfree, .ref ncells, .ref nindex, .ref nnear, .ref nnearCount, .ref npay, .ref ndone, .ref npile, .int vtop, .ref nnow, .ref nthen, .ref nchoice, .int vfound, .int vlength, .ref nplan, .ref ncosts, .ref npaid, .ref nafter, .ref nfar, .ref nmany, .ref nnext, .int vsort, .int vwhen, .int vone, .int vtwo])), (nlaid, .inl (cI, 180, .inl lf)), (nisTold, .inl (cZ, 180, .inl of))]) [0, 4, 5] rfl
        have hDc := hD.sub (ws' := [(na, .inr (7, [.int (nI W0), .int (nI H0), .ref nwalls, .int (nI n), .ref nstarts, .ref ngoals, .ref nlaid, .ref nisTold, .int vfree, .ref ncells, .ref nindex, .ref nnear, .ref nnearCount, .ref npay, .ref ndone, .ref npile, .int vtop, .ref nnow, .ref nthen, .ref nchoice, .int vfound, .int vlength, .ref nplan, .ref ncosts, .ref npaid, .ref nafter, .ref nfar, .ref nmany, .ref nnext, .int vsort, .int vwhen, .int vone, .int vtwo])), (nlaid, .inl (cI, 180, .inl lf)), (nisTold, .inl (cZ, 180, .inl of))]) [0, 4, 5] (by decide) rfl
        refine vp_callSi (W.runV (As := [.int (nI k), .int (nI t1)]) (rest := []) ⟨hx, hb, hml, hown, hg⟩ (c_md_place l D cZ cI cJ cII na nwalls nstarts ngoals nlaid nisTold ncells nindex nnear nnearCount npay ndone npile nnow nthen nchoice nplan ncosts npaid nafter nfar nmany nnext vfree vtop vfound vlength vsort vwhen vone vtwo _ _ _ lf of k t1 H.size hk (by omega)) (cwV 2 hg gv_md_193 rfl rfl rfl (by decide +kernel) ⟨Nat.le_of_ble_eq_true rfl, Nat.le_of_ble_eq_true rfl⟩) ⟨mt_bl, va_recv (q0 := 0) (ci := 7) hK hP rfl rfl, mt_pr hX hPc hK hDc⟩ rfl rfl hl.1 rfl (lv_room (Nat.le_of_ble_eq_true rfl)) d_md_isWrong_54 ⟨Nat.le_of_ble_eq_true rfl, Nat.le_of_ble_eq_true rfl⟩) (fun r6 hr6 => ?_)
        have hr6 : r6 = rp_ of lf k t1 := hr6
        have hpq := hr6
        refine lv_istore hx hb d_md_isWrong_57 hl (by decide) rfl (fun ls hl => ?_)
        have hl : lv_has ls 5 [(4, .int r6), (3, .int (nI a)), (0, .ref na), (1, .int (nI k)), (2, .int (nI (t1 + 1)))] := hl
        rw [hpq.trans hxb] at hl
        have hl : lv_has ls 5 [(4, .int (nI b)), (3, .int (nI a)), (0, .ref na), (1, .int (nI k)), (2, .int (nI (t1 + 1)))] := hl
        refine lv_iload_n hx hb d_md_isWrong_59 rfl (lv_at hl 1 rfl) ?_
        refine lv_iload hx hb d_md_isWrong_60 (lv_at hl 0 rfl) ?_
        refine lv_icmp_eq hx hb d_md_isWrong_62 rfl (fun g6 => ?_) (fun g6 => ?_)
        ·
          refine lv_iload_n hx hb d_md_isWrong_75 rfl (lv_at hl 4 rfl) ?_
          refine lv_bipush (v := 29) hx hb d_md_isWrong_76 (by decide) ?_
          refine lv_icmp_ne hx hb d_md_isWrong_78 rfl (fun g8 => ?_) (fun g8 => ?_)
          ·
            refine lv_iconst (v := 0) hx hb d_md_isWrong_95 (by decide) ?_
            exact W.zret hx hb hr rfl (fun t ht _ => ⟨0, rfl, Or.inr ⟨rfl, fun y => ((jw_s g1 hpa haf hxb hWH.2.2.2 hbf).mp y).elim (fun z => z.1 g6) (fun z => g8 (by rw [z.1]; rfl))⟩, ht.trans hH⟩) (fun _ h => absurd h List.not_mem_nil) d_md_isWrong_96
          ·
            refine lv_iload_n hx hb d_md_isWrong_81 rfl (lv_at hl 1 rfl) ?_
            refine lv_aload_n hx hb d_md_isWrong_82 rfl (lv_at hl 2 rfl) ?_
            refine gf_md_24 hx hb hg hown hK hP 0 rfl rfl d_md_isWrong_83 ?_
            refine lv_iload_n hx hb d_md_isWrong_86 rfl (lv_at hl 3 rfl) ?_
            refine va_iald hx hb hK hP 3 1 rfl rfl (vp_in_nI (show k < 25 by omega) (by decide)) d_md_isWrong_87 ?_
            refine lv_topi (fun y7 ey7 => ?_)
            have ey7 : y7 = gf k := ey7.trans (by rw [nI_clamp (show k < 2 ^ 31 by omega)])
            subst ey7
            refine lv_icmp_eq hx hb d_md_isWrong_88 rfl (fun g9 => ?_) (fun g9 => ?_)
            ·
              refine lv_iconst (v := 0) hx hb d_md_isWrong_95 (by decide) ?_
              exact W.zret hx hb hr rfl (fun t ht _ => ⟨0, rfl, Or.inr ⟨rfl, fun y => ((jw_s g1 hpa haf hxb hWH.2.2.2 hbf).mp y).elim (fun z => z.1 g6) (fun z => z.2 g9)⟩, ht.trans hH⟩) (fun _ h => absurd h List.not_mem_nil) d_md_isWrong_96
            ·
              refine lv_iconst (v := 1) hx hb d_md_isWrong_91 (by decide) ?_
              refine lv_goto hx hb d_md_isWrong_92 rfl ?_
              exact W.zret hx hb hr rfl (fun t ht _ => ⟨1, rfl, Or.inl ⟨rfl, (jw_s g1 hpa haf hxb hWH.2.2.2 hbf).mpr (Or.inr ⟨(nI_eq (b := 29) (by omega) (by decide)).mp g8, g9⟩)⟩, ht.trans hH⟩) (fun _ h => absurd h List.not_mem_nil) d_md_isWrong_96
        ·
          refine lv_aload_n hx hb d_md_isWrong_65 rfl (lv_at hl 2 rfl) ?_
          refine lv_iload_n hx hb d_md_isWrong_66 rfl (lv_at hl 1 rfl) ?_
          refine lv_iload hx hb d_md_isWrong_67 (lv_at hl 0 rfl) ?_
          have hPc := hP.sub (ws' := [(na, .inr (7, [.int (nI W0), .int (nI H0), .ref nwalls, .int (nI n), .ref nstarts, .ref ngoals, .ref nlaid, .ref nisTold, .int vfree, .ref ncells, .ref nindex, .ref nnear, .ref nnearCount, .ref npay, .ref ndone, .ref npile, .int vtop, .ref nnow, .ref nthen, .ref nchoice, .int vfound, .int vlength, .ref nplan, .ref ncosts, .ref npaid, .ref nafter, .ref nfar, .ref nmany, .ref nnext, .int vsort, .int vwhen, .int vone, .int vtwo]))]) [0] rfl
          have hDc := hD.sub (ws' := [(na, .inr (7, [.int (nI W0), .int (nI H0), .ref nwalls, .int (nI n), .ref nstarts, .ref ngoals, .ref nlaid, .ref nisTold, .int vfree, .ref ncells, .ref nindex, .ref nnear, .ref nnearCount, .ref npay, .ref ndone, .ref npile, .int vtop, .ref nnow, .ref nthen, .ref nchoice, .int vfound, .int vlength, .ref nplan, .ref ncosts, .ref npaid, .ref nafter, .ref nfar, .ref nmany, .ref nnext, .int vsort, .int vwhen, .int vone, .int vtwo]))]) [0] (by decide) rfl
          refine vp_callSi (W.runV (As := [.int (nI a), .int (nI b)]) (rest := []) ⟨hx, hb, hml, hown, hg⟩ (c_md_isBeside l D cZ cI cJ cII na nwalls nstarts ngoals nlaid nisTold ncells nindex nnear nnearCount npay ndone npile nnow nthen nchoice nplan ncosts npaid nafter nfar nmany nnext vfree vtop vfound vlength vsort vwhen vone vtwo _ _ _ a b H.size hWH ha25 hb25) (cwV 2 hg gv_md_107 rfl rfl rfl (by decide +kernel) ⟨Nat.le_of_ble_eq_true rfl, Nat.le_of_ble_eq_true rfl⟩) ⟨mt_bl, va_recv (q0 := 0) (ci := 7) hK hP rfl rfl, mt_pr hX hPc hK hDc⟩ rfl rfl hl.1 rfl (lv_room (Nat.le_of_ble_eq_true rfl)) d_md_isWrong_69 ⟨Nat.le_of_ble_eq_true rfl, Nat.le_of_ble_eq_true rfl⟩) (fun r8 hr8 => ?_)
          have hr8 : (r8 = 1 ∧ mv_bs W0 a b) ∨ (r8 = 0 ∧ ¬ mv_bs W0 a b) := hr8
          have hbs := hr8
          refine lv_if_eq hx hb d_md_isWrong_72 rfl (fun g7 => ?_) (fun g7 => ?_)
          ·
            have gnb := hbs.elim (fun q => absurd (q.1.symm.trans g7) (by decide)) (fun q => q.2)
            refine lv_iconst (v := 1) hx hb d_md_isWrong_91 (by decide) ?_
            refine lv_goto hx hb d_md_isWrong_92 rfl ?_
            exact W.zret hx hb hr rfl (fun t ht _ => ⟨1, rfl, Or.inl ⟨rfl, (jw_s g1 hpa haf hxb hWH.2.2.2 hbf).mpr (Or.inl ⟨g6, gnb⟩)⟩, ht.trans hH⟩) (fun _ h => absurd h List.not_mem_nil) d_md_isWrong_96
          ·
            have gyb := hbs.elim (fun q => q.2) (fun q => absurd q.1 g7)
            refine lv_iload_n hx hb d_md_isWrong_75 rfl (lv_at hl 4 rfl) ?_
            refine lv_bipush (v := 29) hx hb d_md_isWrong_76 (by decide) ?_
            refine lv_icmp_ne hx hb d_md_isWrong_78 rfl (fun g8 => ?_) (fun g8 => ?_)
            ·
              refine lv_iconst (v := 0) hx hb d_md_isWrong_95 (by decide) ?_
              exact W.zret hx hb hr rfl (fun t ht _ => ⟨0, rfl, Or.inr ⟨rfl, fun y => ((jw_s g1 hpa haf hxb hWH.2.2.2 hbf).mp y).elim (fun z => z.2 gyb) (fun z => g8 (by rw [z.1]; rfl))⟩, ht.trans hH⟩) (fun _ h => absurd h List.not_mem_nil) d_md_isWrong_96
            ·
              refine lv_iload_n hx hb d_md_isWrong_81 rfl (lv_at hl 1 rfl) ?_
              refine lv_aload_n hx hb d_md_isWrong_82 rfl (lv_at hl 2 rfl) ?_
              refine gf_md_24 hx hb hg hown hK hP 0 rfl rfl d_md_isWrong_83 ?_
              refine lv_iload_n hx hb d_md_isWrong_86 rfl (lv_at hl 3 rfl) ?_
              refine va_iald hx hb hK hP 3 1 rfl rfl (vp_in_nI (show k < 25 by omega) (by decide)) d_md_isWrong_87 ?_
              refine lv_topi (fun y9 ey9 => ?_)
              have ey9 : y9 = gf k := ey9.trans (by rw [nI_clamp (show k < 2 ^ 31 by omega)])
              subst ey9
              refine lv_icmp_eq hx hb d_md_isWrong_88 rfl (fun g9 => ?_) (fun g9 => ?_)
              ·
                refine lv_iconst (v := 0) hx hb d_md_isWrong_95 (by decide) ?_
                exact W.zret hx hb hr rfl (fun t ht _ => ⟨0, rfl, Or.inr ⟨rfl, fun y => ((jw_s g1 hpa haf hxb hWH.2.2.2 hbf).mp y).elim (fun z => z.2 gyb) (fun z => z.2 g9)⟩, ht.trans hH⟩) (fun _ h => absurd h List.not_mem_nil) d_md_isWrong_96
              ·
                refine lv_iconst (v := 1) hx hb d_md_isWrong_91 (by decide) ?_
                refine lv_goto hx hb d_md_isWrong_92 rfl ?_
                exact W.zret hx hb hr rfl (fun t ht _ => ⟨1, rfl, Or.inl ⟨rfl, (jw_s g1 hpa haf hxb hWH.2.2.2 hbf).mpr (Or.inr ⟨(nI_eq (b := 29) (by omega) (by decide)).mp g8, g9⟩)⟩, ht.trans hH⟩) (fun _ h => absurd h List.not_mem_nil) d_md_isWrong_96
      ·
        have e0 : tt = 0 := (nI_eq (b := 0) (by omega) (by decide)).mp g4
        refine lv_iload_n hx hb d_md_isWrong_33 rfl (lv_at hl 0 rfl) ?_
        refine lv_aload_n hx hb d_md_isWrong_34 rfl (lv_at hl 1 rfl) ?_
        refine gf_md_20 hx hb hg hown hK hP 0 rfl rfl d_md_isWrong_35 ?_
        refine lv_iload_n hx hb d_md_isWrong_38 rfl (lv_at hl 2 rfl) ?_
        refine va_iald hx hb hK hP 2 1 rfl rfl (vp_in_nI (show k < 25 by omega) (by decide)) d_md_isWrong_39 ?_
        refine lv_topi (fun y10 ey10 => ?_)
        have ey10 : y10 = sf k := ey10.trans (by rw [nI_clamp (show k < 2 ^ 31 by omega)])
        subst ey10
        refine lv_icmp_eq hx hb d_md_isWrong_40 rfl (fun g5 => ?_) (fun g5 => ?_)
        ·
          refine lv_iconst (v := 0) hx hb d_md_isWrong_47 (by decide) ?_
          exact W.zret hx hb hr rfl (fun t ht _ => ⟨0, rfl, Or.inr ⟨rfl, fun y => ((jw_k g1 hpa haf).mp y).elim (fun z => z.2 g5) (fun z => absurd z.1 (by omega))⟩, ht.trans hH⟩) (fun _ h => absurd h List.not_mem_nil) d_md_isWrong_48
        ·
          refine lv_iconst (v := 1) hx hb d_md_isWrong_43 (by decide) ?_
          refine lv_goto hx hb d_md_isWrong_44 rfl ?_
          exact W.zret hx hb hr rfl (fun t ht _ => ⟨1, rfl, Or.inl ⟨rfl, (jw_k g1 hpa haf).mpr (Or.inl ⟨e0, g5⟩)⟩, ht.trans hH⟩) (fun _ h => absurd h List.not_mem_nil) d_md_isWrong_48
    ·
      refine lv_iconst (v := 1) hx hb d_md_isWrong_27 (by decide) ?_
      exact W.zret hx hb hr rfl (fun t ht _ => ⟨1, rfl, Or.inl ⟨rfl, Or.inr (Or.inl (fun q => xv_nf hWH.2.2.2 (hfr.elim (fun z => absurd (z.1.symm.trans g3) (by decide)) (fun z => z.2)) (by rw [hpl]; exact q)))⟩, ht.trans hH⟩) (fun _ h => absurd h List.not_mem_nil) d_md_isWrong_28

set_option maxHeartbeats 4000000 in
set_option maxRecDepth 100000 in
theorem c_md_wrong (l : Launch) (D : va_G) (cZ cI cJ cII : ClassId) (na : Nat) (nwalls : Nat) (nstarts : Nat) (ngoals : Nat) (nlaid : Nat) (nisTold : Nat) (ncells : Nat) (nindex : Nat) (nnear : Nat) (nnearCount : Nat) (npay : Nat) (ndone : Nat) (npile : Nat) (nnow : Nat) (nthen : Nat) (nchoice : Nat) (nplan : Nat) (ncosts : Nat) (npaid : Nat) (nafter : Nat) (nfar : Nat) (nmany : Nat) (nnext : Nat) (vfree : Int32) (vtop : Int32) (vfound : Int32) (vlength : Int32) (vsort : Int32) (vwhen : Int32) (vone : Int32) (vtwo : Int32) (W0 : Nat) (H0 : Nat) (n : Nat) (b1 : Int32) (b2 : Int32) (b3 : Int32) (b4 : Int32) (sz : Nat)  : Met l y_md_wrong w_md_wrong ({ frames := 0, cells := 0, slots := 0, locals := 0 }) (va_Pc [.ref na, .int b1, .int b2, .int b3, .int b4] (mt_B D [(cZ, .boolean), (cI, .int), (cJ, .long), (cII, .array .int)] [(na, .inr (7, [.int (nI W0), .int (nI H0), .ref nwalls, .int (nI n), .ref nstarts, .ref ngoals, .ref nlaid, .ref nisTold, .int vfree, .ref ncells, .ref nindex, .ref nnear, .ref nnearCount, .ref npay, .ref ndone, .ref npile, .int vtop, .ref nnow, .ref nthen, .ref nchoice, .int vfound, .int vlength, .ref nplan, .ref ncosts, .ref npaid, .ref nafter, .ref nfar, .ref nmany, .ref nnext, .int vsort, .int vwhen, .int vone, .int vtwo]))] sz)) ((fun A => va_Qv (fun (u : Int32 × Int32 × Int32 × Int32) => (¬ vsort = 0 ∧ (u.1) = vsort ∧ (u.2.1) = vwhen ∧ (u.2.2.1) = vone ∧ (u.2.2.2) = vtwo) ∨ (vsort = 0 ∧ (u.1) = b1 ∧ (u.2.1) = b2 ∧ (u.2.2.1) = b3 ∧ (u.2.2.2) = b4)) (fun (u : Int32 × Int32 × Int32 × Int32) (t : State) => mt_O D A [(na, .inr (7, [.int (nI W0), .int (nI H0), .ref nwalls, .int (nI n), .ref nstarts, .ref ngoals, .ref nlaid, .ref nisTold, .int vfree, .ref ncells, .ref nindex, .ref nnear, .ref nnearCount, .ref npay, .ref ndone, .ref npile, .int vtop, .ref nnow, .ref nthen, .ref nchoice, .int vfound, .int vlength, .ref nplan, .ref ncosts, .ref npaid, .ref nafter, .ref nfar, .ref nmany, .ref nnext, .int (u.1), .int (u.2.1), .int (u.2.2.1), .int (u.2.2.2)]))] t) A) (va_A [(na, .inr (7, [.int (nI W0), .int (nI H0), .ref nwalls, .int (nI n), .ref nstarts, .ref ngoals, .ref nlaid, .ref nisTold, .int vfree, .ref ncells, .ref nindex, .ref nnear, .ref nnearCount, .ref npay, .ref ndone, .ref npile, .int vtop, .ref nnow, .ref nthen, .ref nchoice, .int vfound, .int vlength, .ref nplan, .ref ncosts, .ref npaid, .ref nafter, .ref nfar, .ref nmany, .ref nnext, .int vsort, .int vwhen, .int vone, .int vtwo]))] sz)) 0 0 (va_A [(na, .inr (7, [.int (nI W0), .int (nI H0), .ref nwalls, .int (nI n), .ref nstarts, .ref ngoals, .ref nlaid, .ref nisTold, .int vfree, .ref ncells, .ref nindex, .ref nnear, .ref nnearCount, .ref npay, .ref ndone, .ref npile, .int vtop, .ref nnow, .ref nthen, .ref nchoice, .int vfound, .int vlength, .ref nplan, .ref ncosts, .ref npaid, .ref nafter, .ref nfar, .ref nmany, .ref nnext, .int vsort, .int vwhen, .int vone, .int vtwo]))] sz) := by
  refine mt_of (y := y_md_wrong) (n := 5) (av := [.ref na, .int b1, .int b2, .int b3, .int b4]) (QF := (fun A => va_Qv (fun (u : Int32 × Int32 × Int32 × Int32) => (¬ vsort = 0 ∧ (u.1) = vsort ∧ (u.2.1) = vwhen ∧ (u.2.2.1) = vone ∧ (u.2.2.2) = vtwo) ∨ (vsort = 0 ∧ (u.1) = b1 ∧ (u.2.1) = b2 ∧ (u.2.2.1) = b3 ∧ (u.2.2.2) = b4)) (fun (u : Int32 × Int32 × Int32 × Int32) (t : State) => mt_O D A [(na, .inr (7, [.int (nI W0), .int (nI H0), .ref nwalls, .int (nI n), .ref nstarts, .ref ngoals, .ref nlaid, .ref nisTold, .int vfree, .ref ncells, .ref nindex, .ref nnear, .ref nnearCount, .ref npay, .ref ndone, .ref npile, .int vtop, .ref nnow, .ref nthen, .ref nchoice, .int vfound, .int vlength, .ref nplan, .ref ncosts, .ref npaid, .ref nafter, .ref nfar, .ref nmany, .ref nnext, .int (u.1), .int (u.2.1), .int (u.2.2.1), .int (u.2.2.2)]))] t) A)) (by decide) (Nat.le_of_ble_eq_true rfl) ?_
  intro p e s m below meth c ls A hx hb hr hlk hml hown hnm hg hl hX hP hK hD hA hS
  obtain ⟨H, hH⟩ : ∃ H : Heap, H = s.heap := ⟨_, rfl⟩
  have hS : va_S A s.heap H [] := by rw [hH]; exact va_S.rf
  rw [← hH] at hP ⊢
  have hown : s.vm.findClass R_md = some m.cls := hown
  have hl : lv_has ls 5 [(0, .ref na), (1, .int b1), (2, .int b2), (3, .int b3), (4, .int b4)] := hl
  refine lv_aload_n hx hb d_md_wrong_0 rfl (lv_at hl 0 rfl) ?_
  refine gf_md_196 hx hb hg hown hK hP 0 rfl rfl d_md_wrong_1 ?_
  refine lv_if_ne hx hb d_md_wrong_4 rfl (fun g1 => ?_) (fun g1 => ?_)
  ·
    have hP9 := hP
    have hD9 := hD
    exact W.vret hx hb hr (fun t ht hW => ⟨⟨(vsort, vwhen, vone, vtwo), rfl, Or.inl ⟨g1, rfl, rfl, rfl, rfl⟩, by rw [ht]; exact hP9, hD9⟩, hS.F ht⟩) hS.2.2 d_md_wrong_28
  ·
    refine lv_aload_n hx hb d_md_wrong_7 rfl (lv_at hl 0 rfl) ?_
    refine lv_iload_n hx hb d_md_wrong_8 rfl (lv_at hl 1 rfl) ?_
    refine pf_md_196 hx hb hg hown hK hP hD hS 0 rfl rfl rfl (Nat.le_of_ble_eq_true rfl) d_md_wrong_9 (fun H locs hP hD hS => ?_)
    have hP : va_P D kls [(na, .inr (7, [.int (nI W0), .int (nI H0), .ref nwalls, .int (nI n), .ref nstarts, .ref ngoals, .ref nlaid, .ref nisTold, .int vfree, .ref ncells, .ref nindex, .ref nnear, .ref nnearCount, .ref npay, .ref ndone, .ref npile, .int vtop, .ref nnow, .ref nthen, .ref nchoice, .int vfound, .int vlength, .ref nplan, .ref ncosts, .ref npaid, .ref nafter, .ref nfar, .ref nmany, .ref nnext, .int b1, .int vwhen, .int vone, .int vtwo]))] H := hP
    have hD : va_D A [(na, .inr (7, [.int (nI W0), .int (nI H0), .ref nwalls, .int (nI n), .ref nstarts, .ref ngoals, .ref nlaid, .ref nisTold, .int vfree, .ref ncells, .ref nindex, .ref nnear, .ref nnearCount, .ref npay, .ref ndone, .ref npile, .int vtop, .ref nnow, .ref nthen, .ref nchoice, .int vfound, .int vlength, .ref nplan, .ref ncosts, .ref npaid, .ref nafter, .ref nfar, .ref nmany, .ref nnext, .int b1, .int vwhen, .int vone, .int vtwo]))] := hD
    refine lv_aload_n hx hb d_md_wrong_12 rfl (lv_at hl 0 rfl) ?_
    refine lv_iload_n hx hb d_md_wrong_13 rfl (lv_at hl 2 rfl) ?_
    refine pf_md_199 hx hb hg hown hK hP hD hS 0 rfl rfl rfl (Nat.le_of_ble_eq_true rfl) d_md_wrong_14 (fun H locs hP hD hS => ?_)
    have hP : va_P D kls [(na, .inr (7, [.int (nI W0), .int (nI H0), .ref nwalls, .int (nI n), .ref nstarts, .ref ngoals, .ref nlaid, .ref nisTold, .int vfree, .ref ncells, .ref nindex, .ref nnear, .ref nnearCount, .ref npay, .ref ndone, .ref npile, .int vtop, .ref nnow, .ref nthen, .ref nchoice, .int vfound, .int vlength, .ref nplan, .ref ncosts, .ref npaid, .ref nafter, .ref nfar, .ref nmany, .ref nnext, .int b1, .int b2, .int vone, .int vtwo]))] H := hP
    have hD : va_D A [(na, .inr (7, [.int (nI W0), .int (nI H0), .ref nwalls, .int (nI n), .ref nstarts, .ref ngoals, .ref nlaid, .ref nisTold, .int vfree, .ref ncells, .ref nindex, .ref nnear, .ref nnearCount, .ref npay, .ref ndone, .ref npile, .int vtop, .ref nnow, .ref nthen, .ref nchoice, .int vfound, .int vlength, .ref nplan, .ref ncosts, .ref npaid, .ref nafter, .ref nfar, .ref nmany, .ref nnext, .int b1, .int b2, .int vone, .int vtwo]))] := hD
    refine lv_aload_n hx hb d_md_wrong_17 rfl (lv_at hl 0 rfl) ?_
    refine lv_iload_n hx hb d_md_wrong_18 rfl (lv_at hl 3 rfl) ?_
    refine pf_md_202 hx hb hg hown hK hP hD hS 0 rfl rfl rfl (Nat.le_of_ble_eq_true rfl) d_md_wrong_19 (fun H locs hP hD hS => ?_)
    have hP : va_P D kls [(na, .inr (7, [.int (nI W0), .int (nI H0), .ref nwalls, .int (nI n), .ref nstarts, .ref ngoals, .ref nlaid, .ref nisTold, .int vfree, .ref ncells, .ref nindex, .ref nnear, .ref nnearCount, .ref npay, .ref ndone, .ref npile, .int vtop, .ref nnow, .ref nthen, .ref nchoice, .int vfound, .int vlength, .ref nplan, .ref ncosts, .ref npaid, .ref nafter, .ref nfar, .ref nmany, .ref nnext, .int b1, .int b2, .int b3, .int vtwo]))] H := hP
    have hD : va_D A [(na, .inr (7, [.int (nI W0), .int (nI H0), .ref nwalls, .int (nI n), .ref nstarts, .ref ngoals, .ref nlaid, .ref nisTold, .int vfree, .ref ncells, .ref nindex, .ref nnear, .ref nnearCount, .ref npay, .ref ndone, .ref npile, .int vtop, .ref nnow, .ref nthen, .ref nchoice, .int vfound, .int vlength, .ref nplan, .ref ncosts, .ref npaid, .ref nafter, .ref nfar, .ref nmany, .ref nnext, .int b1, .int b2, .int b3, .int vtwo]))] := hD
    refine lv_aload_n hx hb d_md_wrong_22 rfl (lv_at hl 0 rfl) ?_
    refine lv_iload hx hb d_md_wrong_23 (lv_at hl 4 rfl) ?_
    refine pf_md_205 hx hb hg hown hK hP hD hS 0 rfl rfl rfl (Nat.le_of_ble_eq_true rfl) d_md_wrong_25 (fun H locs hP hD hS => ?_)
    have hP : va_P D kls [(na, .inr (7, [.int (nI W0), .int (nI H0), .ref nwalls, .int (nI n), .ref nstarts, .ref ngoals, .ref nlaid, .ref nisTold, .int vfree, .ref ncells, .ref nindex, .ref nnear, .ref nnearCount, .ref npay, .ref ndone, .ref npile, .int vtop, .ref nnow, .ref nthen, .ref nchoice, .int vfound, .int vlength, .ref nplan, .ref ncosts, .ref npaid, .ref nafter, .ref nfar, .ref nmany, .ref nnext, .int b1, .int b2, .int b3, .int b4]))] H := hP
    have hD : va_D A [(na, .inr (7, [.int (nI W0), .int (nI H0), .ref nwalls, .int (nI n), .ref nstarts, .ref ngoals, .ref nlaid, .ref nisTold, .int vfree, .ref ncells, .ref nindex, .ref nnear, .ref nnearCount, .ref npay, .ref ndone, .ref npile, .int vtop, .ref nnow, .ref nthen, .ref nchoice, .int vfound, .int vlength, .ref nplan, .ref ncosts, .ref npaid, .ref nafter, .ref nfar, .ref nmany, .ref nnext, .int b1, .int b2, .int b3, .int b4]))] := hD
    have hP9 := hP
    have hD9 := hD
    exact W.vret hx hb hr (fun t ht hW => ⟨⟨(b1, b2, b3, b4), rfl, Or.inr ⟨g1, rfl, rfl, rfl, rfl⟩, by rw [ht]; exact hP9, hD9⟩, hS.F ht⟩) hS.2.2 d_md_wrong_28
