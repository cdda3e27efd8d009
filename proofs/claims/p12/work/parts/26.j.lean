set_option maxHeartbeats 4000000 in
set_option maxRecDepth 100000 in
theorem c_md_number (l : Launch) (D : va_G) (cZ cI cJ cII : ClassId) (na : Nat) (nwalls : Nat) (nstarts : Nat) (ngoals : Nat) (nlaid : Nat) (nisTold : Nat) (ncells : Nat) (nindex : Nat) (nnear : Nat) (nnearCount : Nat) (npay : Nat) (ndone : Nat) (npile : Nat) (nnow : Nat) (nthen : Nat) (nchoice : Nat) (nplan : Nat) (ncosts : Nat) (npaid : Nat) (nafter : Nat) (nfar : Nat) (nmany : Nat) (nnext : Nat) (vfree : Int32) (vtop : Int32) (vfound : Int32) (vlength : Int32) (vsort : Int32) (vwhen : Int32) (vone : Int32) (vtwo : Int32) (W0 : Nat) (H0 : Nat) (n : Nat) (wf : Nat → Int32) (cf : Nat → Int32) (xf : Nat → Int32) (nf : Nat → Int32) (kf : Nat → Int32) (sz : Nat) (hWH : 1 ≤ W0 ∧ W0 ≤ 6 ∧ H0 ≤ 6 ∧ W0 * H0 ≤ 25) : Met l y_md_number w_md_number ({ frames := 1, cells := 0, slots := 0, locals := 40 }) (va_Pc [.ref na] (mt_B D [(cZ, .boolean), (cI, .int), (cJ, .long), (cII, .array .int)] [(na, .inr (7, [.int (nI W0), .int (nI H0), .ref nwalls, .int (nI n), .ref nstarts, .ref ngoals, .ref nlaid, .ref nisTold, .int vfree, .ref ncells, .ref nindex, .ref nnear, .ref nnearCount, .ref npay, .ref ndone, .ref npile, .int vtop, .ref nnow, .ref nthen, .ref nchoice, .int vfound, .int vlength, .ref nplan, .ref ncosts, .ref npaid, .ref nafter, .ref nfar, .ref nmany, .ref nnext, .int vsort, .int vwhen, .int vone, .int vtwo])), (nwalls, .inl (cZ, 25, .inl wf)), (ncells, .inl (cI, 25, .inl cf)), (nindex, .inl (cI, 25, .inl xf)), (nnear, .inl (cI, 125, .inl nf)), (nnearCount, .inl (cI, 25, .inl kf))] sz)) ((fun A => va_Qv (fun (u : (Nat → Int32) × (Nat → Int32) × (Nat → Int32) × (Nat → Int32) × (Nat → Nat)) => mn_C (W0 * H0) wf (W0 * H0) (u.1) (u.2.1) (u.2.2.2.2) ∧ mn_A W0 (fx_cnt wf (W0 * H0)) (u.2.2.2.2) (fx_cnt wf (W0 * H0)) (u.2.2.1) (u.2.2.2.1)) (fun (u : (Nat → Int32) × (Nat → Int32) × (Nat → Int32) × (Nat → Int32) × (Nat → Nat)) (t : State) => mt_O D A [(na, .inr (7, [.int (nI W0), .int (nI H0), .ref nwalls, .int (nI n), .ref nstarts, .ref ngoals, .ref nlaid, .ref nisTold, .int (nI (fx_cnt wf (W0 * H0))), .ref ncells, .ref nindex, .ref nnear, .ref nnearCount, .ref npay, .ref ndone, .ref npile, .int vtop, .ref nnow, .ref nthen, .ref nchoice, .int vfound, .int vlength, .ref nplan, .ref ncosts, .ref npaid, .ref nafter, .ref nfar, .ref nmany, .ref nnext, .int vsort, .int vwhen, .int vone, .int vtwo])), (nwalls, .inl (cZ, 25, .inl wf)), (ncells, .inl (cI, 25, .inl (u.1))), (nindex, .inl (cI, 25, .inl (u.2.1))), (nnear, .inl (cI, 125, .inl (u.2.2.1))), (nnearCount, .inl (cI, 25, .inl (u.2.2.2.1)))] t) A) (va_A [(na, .inr (7, [.int (nI W0), .int (nI H0), .ref nwalls, .int (nI n), .ref nstarts, .ref ngoals, .ref nlaid, .ref nisTold, .int vfree, .ref ncells, .ref nindex, .ref nnear, .ref nnearCount, .ref npay, .ref ndone, .ref npile, .int vtop, .ref nnow, .ref nthen, .ref nchoice, .int vfound, .int vlength, .ref nplan, .ref ncosts, .ref npaid, .ref nafter, .ref nfar, .ref nmany, .ref nnext, .int vsort, .int vwhen, .int vone, .int vtwo])), (nwalls, .inl (cZ, 25, .inl wf)), (ncells, .inl (cI, 25, .inl cf)), (nindex, .inl (cI, 25, .inl xf)), (nnear, .inl (cI, 125, .inl nf)), (nnearCount, .inl (cI, 25, .inl kf))] sz)) 0 0 (va_A [(na, .inr (7, [.int (nI W0), .int (nI H0), .ref nwalls, .int (nI n), .ref nstarts, .ref ngoals, .ref nlaid, .ref nisTold, .int vfree, .ref ncells, .ref nindex, .ref nnear, .ref nnearCount, .ref npay, .ref ndone, .ref npile, .int vtop, .ref nnow, .ref nthen, .ref nchoice, .int vfound, .int vlength, .ref nplan, .ref ncosts, .ref npaid, .ref nafter, .ref nfar, .ref nmany, .ref nnext, .int vsort, .int vwhen, .int vone, .int vtwo])), (nwalls, .inl (cZ, 25, .inl wf)), (ncells, .inl (cI, 25, .inl cf)), (nindex, .inl (cI, 25, .inl xf)), (nnear, .inl (cI, 125, .inl nf)), (nnearCount, .inl (cI, 25, .inl kf))] sz) := by
  refine mt_of (y := y_md_number) (n := 3) (av := [.ref na]) (QF := (fun A => va_Qv (fun (u : (Nat → Int32) × (Nat → Int32) × (Nat → Int32) × (Nat → Int32) × (Nat → Nat)) => mn_C (W0 * H0) wf (W0 * H0) (u.1) (u.2.1) (u.2.2.2.2) ∧ mn_A W0 (fx_cnt wf (W0 * H0)) (u.2.2.2.2) (fx_cnt wf (W0 * H0)) (u.2.2.1) (u.2.2.2.1)) (fun (u : (Nat → Int32) × (Nat → Int32) × (Nat → Int32) × (Nat → Int32) × (Nat → Nat)) (t : State) => mt_O D A [(na, .inr (7, [.int (nI W0), .int (nI H0), .ref nwalls, .int (nI n), .ref nstarts, .ref ngoals, .ref nlaid, .ref nisTold, .int (nI (fx_cnt wf (W0 * H0))), .ref ncells, .ref nindex, .ref nnear, .ref nnearCount, .ref npay, .ref ndone, .ref npile, .int vtop, .ref nnow, .ref nthen, .ref nchoice, .int vfound, .int vlength, .ref nplan, .ref ncosts, .ref npaid, .ref nafter, .ref nfar, .ref nmany, .ref nnext, .int vsort, .int vwhen, .int vone, .int vtwo])), (nwalls, .inl (cZ, 25, .inl wf)), (ncells, .inl (cI, 25, .inl (u.1))), (nindex, .inl (cI, 25, .inl (u.2.1))), (nnear, .inl (cI, 125, .inl (u.2.2.1))), (nnearCount, .inl (cI, 25, .inl (u.2.2.2.1)))] t) A)) (by decide) (Nat.le_of_ble_eq_true rfl) ?_
  intro p e s m below meth c ls A hx hb hr hlk hml hown hnm hg hl hX hP hK hD hA hS
  obtain ⟨H, hH⟩ : ∃ H : Heap, H = s.heap := ⟨_, rfl⟩
  have hS : va_S A s.heap H [] := by rw [hH]; exact va_S.rf
  rw [← hH] at hP ⊢
  have hown : s.vm.findClass R_md = some m.cls := hown
  have hl : lv_has ls 3 [(0, .ref na)] := hl
  refine lv_aload_n hx hb d_md_number_0 rfl (lv_at hl 0 rfl) ?_
  refine lv_iconst (v := 0) hx hb d_md_number_1 (by decide) ?_
  refine pf_md_120 hx hb hg hown hK hP hD hS 0 rfl rfl rfl (Nat.le_of_ble_eq_true rfl) d_md_number_2 (fun H locs hP hD hS => ?_)
  have hP : va_P D kls [(na, .inr (7, [.int (nI W0), .int (nI H0), .ref nwalls, .int (nI n), .ref nstarts, .ref ngoals, .ref nlaid, .ref nisTold, .int 0, .ref ncells, .ref nindex, .ref nnear, .ref nnearCount, .ref npay, .ref ndone, .ref npile, .int vtop, .ref nnow, .ref nthen, .ref nchoice, .int vfound, .int vlength, .ref nplan, .ref ncosts, .ref npaid, .ref nafter, .ref nfar, .ref nmany, .ref nnext, .int vsort, .int vwhen, .int vone, .int vtwo])), (nwalls, .inl (cZ, 25, .inl wf)), (ncells, .inl (cI, 25, .inl cf)), (nindex, .inl (cI, 25, .inl xf)), (nnear, .inl (cI, 125, .inl nf)), (nnearCount, .inl (cI, 25, .inl kf))] H := hP
  have hD : va_D A [(na, .inr (7, [.int (nI W0), .int (nI H0), .ref nwalls, .int (nI n), .ref nstarts, .ref ngoals, .ref nlaid, .ref nisTold, .int 0, .ref ncells, .ref nindex, .ref nnear, .ref nnearCount, .ref npay, .ref ndone, .ref npile, .int vtop, .ref nnow, .ref nthen, .ref nchoice, .int vfound, .int vlength, .ref nplan, .ref ncosts, .ref npaid, .ref nafter, .ref nfar, .ref nmany, .ref nnext, .int vsort, .int vwhen, .int vone, .int vtwo])), (nwalls, .inl (cZ, 25, .inl wf)), (ncells, .inl (cI, 25, .inl cf)), (nindex, .inl (cI, 25, .inl xf)), (nnear, .inl (cI, 125, .inl nf)), (nnearCount, .inl (cI, 25, .inl kf))] := hD
  refine lv_iconst (v := 0) hx hb d_md_number_5 (by decide) ?_
  refine lv_istore_n hx hb d_md_number_6 rfl hl (by decide) rfl (fun ls hl => ?_)
  have hl : lv_has ls 3 [(1, .int 0), (0, .ref na)] := hl
  have hl := lv_sub hl [0, 1] (l' := [(1, .int (nI 0)), (0, .ref na)]) rfl
  refine mt_loop (ι := Nat × Nat × (Nat → Int32) × (Nat → Int32) × (Nat → Nat)) (I := fun ix ls H locs => ((ix.1) ≤ W0 * H0) ∧ ((ix.2.1) = fx_cnt wf (ix.1)) ∧ (mn_C (W0 * H0) wf (ix.1) (ix.2.2.1) (ix.2.2.2.1) (ix.2.2.2.2)) ∧ lv_has ls 3 [(1, .int (nI (ix.1))), (0, .ref na)] ∧ va_P D kls [(na, .inr (7, [.int (nI W0), .int (nI H0), .ref nwalls, .int (nI n), .ref nstarts, .ref ngoals, .ref nlaid, .ref nisTold, .int (nI (ix.2.1)), .ref ncells, .ref nindex, .ref nnear, .ref nnearCount, .ref npay, .ref ndone, .ref npile, .int vtop, .ref nnow, .ref nthen, .ref nchoice, .int vfound, .int vlength, .ref nplan, .ref ncosts, .ref npaid, .ref nafter, .ref nfar, .ref nmany, .ref nnext, .int vsort, .int vwhen, .int vone, .int vtwo])), (nwalls, .inl (cZ, 25, .inl wf)), (ncells, .inl (cI, 25, .inl (ix.2.2.1))), (nindex, .inl (cI, 25, .inl (ix.2.2.2.1))), (nnear, .inl (cI, 125, .inl nf)), (nnearCount, .inl (cI, 25, .inl kf))] H ∧ va_D A [(na, .inr (7, [.int (nI W0), .int (nI H0), .ref nwalls, .int (nI n), .ref nstarts, .ref ngoals, .ref nlaid, .ref nisTold, .int (nI (ix.2.1)), .ref ncells, .ref nindex, .ref nnear, .ref nnearCount, .ref npay, .ref ndone, .ref npile, .int vtop, .ref nnow, .ref nthen, .ref nchoice, .int vfound, .int vlength, .ref nplan, .ref ncosts, .ref npaid, .ref nafter, .ref nfar, .ref nmany, .ref nnext, .int vsort, .int vwhen, .int vone, .int vtwo])), (nwalls, .inl (cZ, 25, .inl wf)), (ncells, .inl (cI, 25, .inl (ix.2.2.1))), (nindex, .inl (cI, 25, .inl (ix.2.2.2.1))), (nnear, .inl (cI, 125, .inl nf)), (nnearCount, .inl (cI, 25, .inl kf))] ∧ va_S A s.heap H locs) (μ := fun ix => W0 * H0 - (ix.1)) ?_ (0, 0, cf, xf, fun _ => 0) ls H _ ⟨Nat.zero_le _, rfl, ⟨fun k h => absurd h (Nat.not_lt_zero _), fun c9 h => absurd h (Nat.not_lt_zero _)⟩, hl, hP, hD, hS⟩
  clear hl hP hD hS
  intro i_a ls H locs ⟨hz, hfz, hcc, hl, hP, hD, hS⟩ ih_a
  obtain ⟨z, fz, c1, x1, ce⟩ := i_a
  have hz : z ≤ W0 * H0 := hz
  have hfz : fz = fx_cnt wf z := hfz
  have hcc : mn_C (W0 * H0) wf z c1 x1 ce := hcc
  have hl : lv_has ls 3 [(1, .int (nI z)), (0, .ref na)] := hl
  have hP : va_P D kls [(na, .inr (7, [.int (nI W0), .int (nI H0), .ref nwalls, .int (nI n), .ref nstarts, .ref ngoals, .ref nlaid, .ref nisTold, .int (nI fz), .ref ncells, .ref nindex, .ref nnear, .ref nnearCount, .ref npay, .ref ndone, .ref npile, .int vtop, .ref nnow, .ref nthen, .ref nchoice, .int vfound, .int vlength, .ref nplan, .ref ncosts, .ref npaid, .ref nafter, .ref nfar, .ref nmany, .ref nnext, .int vsort, .int vwhen, .int vone, .int vtwo])), (nwalls, .inl (cZ, 25, .inl wf)), (ncells, .inl (cI, 25, .inl c1)), (nindex, .inl (cI, 25, .inl x1)), (nnear, .inl (cI, 125, .inl nf)), (nnearCount, .inl (cI, 25, .inl kf))] H := hP
  have hD : va_D A [(na, .inr (7, [.int (nI W0), .int (nI H0), .ref nwalls, .int (nI n), .ref nstarts, .ref ngoals, .ref nlaid, .ref nisTold, .int (nI fz), .ref ncells, .ref nindex, .ref nnear, .ref nnearCount, .ref npay, .ref ndone, .ref npile, .int vtop, .ref nnow, .ref nthen, .ref nchoice, .int vfound, .int vlength, .ref nplan, .ref ncosts, .ref npaid, .ref nafter, .ref nfar, .ref nmany, .ref nnext, .int vsort, .int vwhen, .int vone, .int vtwo])), (nwalls, .inl (cZ, 25, .inl wf)), (ncells, .inl (cI, 25, .inl c1)), (nindex, .inl (cI, 25, .inl x1)), (nnear, .inl (cI, 125, .inl nf)), (nnearCount, .inl (cI, 25, .inl kf))] := hD
  refine lv_iload_n hx hb d_md_number_7 rfl (lv_at hl 0 rfl) ?_
  refine lv_aload_n hx hb d_md_number_8 rfl (lv_at hl 1 rfl) ?_
  have hPc := hP.sub (ws' := [(na, .inr (7, [.int (nI W0), .int (nI H0), .ref nwalls, .int (nI n), .ref nstarts, .ref ngoals, .ref nlaid, .ref nisTold, .int (nI fz), .ref ncells, .ref nindex, .ref nnear, .ref nnearCount, .ref npay, .ref ndone, .ref npile, .int vtop, .ref nnow, .ref nthen, .ref nchoice, .int vfound, .int vlength, .ref nplan, .ref ncosts, .ref npaid, .ref nafter, .ref nfar, .ref nmany, .ref nnext, .int vsort, .int vwhen, .int vone, .int vtwo]))]) [0] rfl
  have hDc := hD.sub (ws' := [(na, .inr (7, [.int (nI W0), .int (nI H0), .ref nwalls, .int (nI n), .ref nstarts, .ref ngoals, .ref nlaid, .ref nisTold, .int (nI fz), .ref ncells, .ref nindex, .ref nnear, .ref nnearCount, .ref npay, .ref ndone, .ref npile, .int vtop, .ref nnow, .ref nthen, .ref nchoice, .int vfound, .int vlength, .ref nplan, .ref ncosts, .ref npaid, .ref nafter, .ref nfar, .ref nmany, .ref nnext, .int vsort, .int vwhen, .int vone, .int vtwo]))]) [0] (by decide) rfl
  refine vp_callSi (W.runV (As := []) (rest := [.int (nI z)]) ⟨hx, hb, hml, hown, hg⟩ (c_md_size l D cZ cI cJ cII na nwalls nstarts ngoals nlaid nisTold ncells nindex nnear nnearCount npay ndone npile nnow nthen nchoice nplan ncosts npaid nafter nfar nmany nnext (nI W0) (nI H0) (nI n) (nI fz) vtop vfound vlength vsort vwhen vone vtwo H.size ) (cwV 0 hg gv_md_93 rfl rfl rfl (by decide +kernel) ⟨Nat.le_of_ble_eq_true rfl, Nat.le_of_ble_eq_true rfl⟩) ⟨mt_bl, va_recv (q0 := 0) (ci := 7) hK hP rfl rfl, mt_pr hX hPc hK hDc⟩ rfl rfl hl.1 rfl (lv_room (Nat.le_of_ble_eq_true rfl)) d_md_number_9 ⟨Nat.le_of_ble_eq_true rfl, Nat.le_of_ble_eq_true rfl⟩) (fun r1 hr1 => ?_)
  have hr1 : r1 = (nI W0) * (nI H0) := hr1
  have hr1 : r1 = nI (W0 * H0) := hr1.trans (pk_mul W0 H0)
  subst hr1
  refine lv_icmp_ge hx hb d_md_number_12 rfl (fun g1 => ?_) (fun g1 => ?_)
  ·
    have g2 : W0 * H0 ≤ z := by rcases Nat.lt_or_ge z (W0 * H0) with h | h; exact absurd g1 (nI_ge (b := (W0 * H0)) h (by omega)); exact h
    have gz : z = W0 * H0 := by omega
    rw [gz] at hcc hfz
    obtain ⟨F0, hF0⟩ : ∃ F0, F0 = fx_cnt wf (W0 * H0) := ⟨_, rfl⟩
    have hfF : fz = F0 := hfz.trans hF0.symm
    rw [hfF] at hP hD
    have hF25 : F0 ≤ 25 := by rw [hF0]; exact Nat.le_trans (fx_cnt_le _ _) hWH.2.2.2
    have hc9 : ∀ k, k < F0 → c1 k = nI (ce k) ∧ ce k < 25 := fun k hk => by have h9 := hcc.1 k (by rw [← hF0]; exact hk); exact ⟨h9.1, by have := hWH.2.2.2; omega⟩
    have hP : va_P D kls [(na, .inr (7, [.int (nI W0), .int (nI H0), .ref nwalls, .int (nI n), .ref nstarts, .ref ngoals, .ref nlaid, .ref nisTold, .int (nI F0), .ref ncells, .ref nindex, .ref nnear, .ref nnearCount, .ref npay, .ref ndone, .ref npile, .int vtop, .ref nnow, .ref nthen, .ref nchoice, .int vfound, .int vlength, .ref nplan, .ref ncosts, .ref npaid, .ref nafter, .ref nfar, .ref nmany, .ref nnext, .int vsort, .int vwhen, .int vone, .int vtwo])), (nwalls, .inl (cZ, 25, .inl wf)), (ncells, .inl (cI, 25, .inl c1)), (nindex, .inl (cI, 25, .inl x1)), (nnear, .inl (cI, 125, .inl nf)), (nnearCount, .inl (cI, 25, .inl kf))] H := hP
    have hD : va_D A [(na, .inr (7, [.int (nI W0), .int (nI H0), .ref nwalls, .int (nI n), .ref nstarts, .ref ngoals, .ref nlaid, .ref nisTold, .int (nI F0), .ref ncells, .ref nindex, .ref nnear, .ref nnearCount, .ref npay, .ref ndone, .ref npile, .int vtop, .ref nnow, .ref nthen, .ref nchoice, .int vfound, .int vlength, .ref nplan, .ref ncosts, .ref npaid, .ref nafter, .ref nfar, .ref nmany, .ref nnext, .int vsort, .int vwhen, .int vone, .int vtwo])), (nwalls, .inl (cZ, 25, .inl wf)), (ncells, .inl (cI, 25, .inl c1)), (nindex, .inl (cI, 25, .inl x1)), (nnear, .inl (cI, 125, .inl nf)), (nnearCount, .inl (cI, 25, .inl kf))] := hD
    refine lv_iconst (v := 0) hx hb d_md_number_60 (by decide) ?_
    refine lv_istore_n hx hb d_md_number_61 rfl hl (by decide) rfl (fun ls hl => ?_)
    have hl : lv_has ls 3 [(1, .int 0), (0, .ref na)] := hl
    have hl := lv_sub hl [0, 1] (l' := [(1, .int (nI 0)), (0, .ref na)]) rfl
    refine mt_loop (ι := Nat × (Nat → Int32) × (Nat → Int32)) (I := fun ix ls H locs => ((ix.1) ≤ F0) ∧ (mn_A W0 F0 ce (ix.1) (ix.2.1) (ix.2.2)) ∧ lv_has ls 3 [(1, .int (nI (ix.1))), (0, .ref na)] ∧ va_P D kls [(na, .inr (7, [.int (nI W0), .int (nI H0), .ref nwalls, .int (nI n), .ref nstarts, .ref ngoals, .ref nlaid, .ref nisTold, .int (nI F0), .ref ncells, .ref nindex, .ref nnear, .ref nnearCount, .ref npay, .ref ndone, .ref npile, .int vtop, .ref nnow, .ref nthen, .ref nchoice, .int vfound, .int vlength, .ref nplan, .ref ncosts, .ref npaid, .ref nafter, .ref nfar, .ref nmany, .ref nnext, .int vsort, .int vwhen, .int vone, .int vtwo])), (nwalls, .inl (cZ, 25, .inl wf)), (ncells, .inl (cI, 25, .inl c1)), (nindex, .inl (cI, 25, .inl x1)), (nnear, .inl (cI, 125, .inl (ix.2.1))), (nnearCount, .inl (cI, 25, .inl (ix.2.2)))] H ∧ va_D A [(na, .inr (7, [.int (nI W0), .int (nI H0), .ref nwalls, .int (nI n), .ref nstarts, .ref ngoals, .ref nlaid, .ref nisTold, .int (nI F0), .ref ncells, .ref nindex, .ref nnear, .ref nnearCount, .ref npay, .ref ndone, .ref npile, .int vtop, .ref nnow, .ref nthen, .ref nchoice, .int vfound, .int vlength, .ref nplan, .ref ncosts, .ref npaid, .ref nafter, .ref nfar, .ref nmany, .ref nnext, .int vsort, .int vwhen, .int vone, .int vtwo])), (nwalls, .inl (cZ, 25, .inl wf)), (ncells, .inl (cI, 25, .inl c1)), (nindex, .inl (cI, 25, .inl x1)), (nnear, .inl (cI, 125, .inl (ix.2.1))), (nnearCount, .inl (cI, 25, .inl (ix.2.2)))] ∧ va_S A s.heap H locs) (μ := fun ix => F0 - (ix.1)) ?_ (0, nf, kf) ls H _ ⟨Nat.zero_le _, fun k h => absurd h (Nat.not_lt_zero _), hl, hP, hD, hS⟩
    clear hl hP hD hS
    intro i_b ls H locs ⟨hkz, hA9, hl, hP, hD, hS⟩ ih_b
    obtain ⟨kz, n1, q1⟩ := i_b
    have hkz : kz ≤ F0 := hkz
    have hA9 : mn_A W0 F0 ce kz n1 q1 := hA9
    have hl : lv_has ls 3 [(1, .int (nI kz)), (0, .ref na)] := hl
    have hP : va_P D kls [(na, .inr (7, [.int (nI W0), .int (nI H0), .ref nwalls, .int (nI n), .ref nstarts, .ref ngoals, .ref nlaid, .ref nisTold, .int (nI F0), .ref ncells, .ref nindex, .ref nnear, .ref nnearCount, .ref npay, .ref ndone, .ref npile, .int vtop, .ref nnow, .ref nthen, .ref nchoice, .int vfound, .int vlength, .ref nplan, .ref ncosts, .ref npaid, .ref nafter, .ref nfar, .ref nmany, .ref nnext, .int vsort, .int vwhen, .int vone, .int vtwo])), (nwalls, .inl (cZ, 25, .inl wf)), (ncells, .inl (cI, 25, .inl c1)), (nindex, .inl (cI, 25, .inl x1)), (nnear, .inl (cI, 125, .inl n1)), (nnearCount, .inl (cI, 25, .inl q1))] H := hP
    have hD : va_D A [(na, .inr (7, [.int (nI W0), .int (nI H0), .ref nwalls, .int (nI n), .ref nstarts, .ref ngoals, .ref nlaid, .ref nisTold, .int (nI F0), .ref ncells, .ref nindex, .ref nnear, .ref nnearCount, .ref npay, .ref ndone, .ref npile, .int vtop, .ref nnow, .ref nthen, .ref nchoice, .int vfound, .int vlength, .ref nplan, .ref ncosts, .ref npaid, .ref nafter, .ref nfar, .ref nmany, .ref nnext, .int vsort, .int vwhen, .int vone, .int vtwo])), (nwalls, .inl (cZ, 25, .inl wf)), (ncells, .inl (cI, 25, .inl c1)), (nindex, .inl (cI, 25, .inl x1)), (nnear, .inl (cI, 125, .inl n1)), (nnearCount, .inl (cI, 25, .inl q1))] := hD
    refine lv_iload_n hx hb d_md_number_62 rfl (lv_at hl 0 rfl) ?_
    refine lv_aload_n hx hb d_md_number_63 rfl (lv_at hl 1 rfl) ?_
    refine gf_md_120 hx hb hg hown hK hP 0 rfl rfl d_md_number_64 ?_
    refine lv_icmp_ge hx hb d_md_number_67 rfl (fun g4 => ?_) (fun g4 => ?_)
    ·
      have g5 : F0 ≤ kz := by rcases Nat.lt_or_ge kz F0 with h | h; exact absurd g4 (nI_ge (b := F0) h (by omega)); exact h
      have gk : kz = F0 := by omega
      rw [hF0] at hP hD hA9 gk
      rw [gk] at hA9
      have hP : va_P D kls [(na, .inr (7, [.int (nI W0), .int (nI H0), .ref nwalls, .int (nI n), .ref nstarts, .ref ngoals, .ref nlaid, .ref nisTold, .int (nI (fx_cnt wf (W0 * H0))), .ref ncells, .ref nindex, .ref nnear, .ref nnearCount, .ref npay, .ref ndone, .ref npile, .int vtop, .ref nnow, .ref nthen, .ref nchoice, .int vfound, .int vlength, .ref nplan, .ref ncosts, .ref npaid, .ref nafter, .ref nfar, .ref nmany, .ref nnext, .int vsort, .int vwhen, .int vone, .int vtwo])), (nwalls, .inl (cZ, 25, .inl wf)), (ncells, .inl (cI, 25, .inl c1)), (nindex, .inl (cI, 25, .inl x1)), (nnear, .inl (cI, 125, .inl n1)), (nnearCount, .inl (cI, 25, .inl q1))] H := hP
      have hD : va_D A [(na, .inr (7, [.int (nI W0), .int (nI H0), .ref nwalls, .int (nI n), .ref nstarts, .ref ngoals, .ref nlaid, .ref nisTold, .int (nI (fx_cnt wf (W0 * H0))), .ref ncells, .ref nindex, .ref nnear, .ref nnearCount, .ref npay, .ref ndone, .ref npile, .int vtop, .ref nnow, .ref nthen, .ref nchoice, .int vfound, .int vlength, .ref nplan, .ref ncosts, .ref npaid, .ref nafter, .ref nfar, .ref nmany, .ref nnext, .int vsort, .int vwhen, .int vone, .int vtwo])), (nwalls, .inl (cZ, 25, .inl wf)), (ncells, .inl (cI, 25, .inl c1)), (nindex, .inl (cI, 25, .inl x1)), (nnear, .inl (cI, 125, .inl n1)), (nnearCount, .inl (cI, 25, .inl q1))] := hD
      have hP9 := hP
      have hD9 := hD
      exact W.vret hx hb hr (fun t ht hW => ⟨⟨(c1, x1, n1, q1, ce), rfl, ⟨hcc, hA9⟩, by rw [ht]; exact hP9, hD9⟩, hS.F ht⟩) hS.2.2 d_md_number_149
    ·
      have g5 : kz < F0 := by rcases Nat.lt_or_ge kz F0 with h | h; exact h; exact absurd (nI_le (a := F0) h (by omega)) g4
      have hA6 : mn_A W0 F0 ce kz n1 (upd q1 kz 0) := mn_A_c hA9 (fun _ _ => rfl) (fun i hi => pk_un (by omega))
      refine lv_aload_n hx hb d_md_number_70 rfl (lv_at hl 1 rfl) ?_
      refine gf_md_42 hx hb hg hown hK hP 0 rfl rfl d_md_number_71 ?_
      refine lv_iload_n hx hb d_md_number_74 rfl (lv_at hl 0 rfl) ?_
      refine lv_iconst (v := 0) hx hb d_md_number_75 (by decide) ?_
      refine va_iast hx hb hK hP hD hS 5 1 rfl rfl (vp_in_nI (show kz < 25 by omega) (by decide)) d_md_number_76 (fun H locs hP hD hS => ?_)
      rw [nI_clamp (show kz < 2 ^ 31 by omega)] at hP hD
      have hP : va_P D kls [(na, .inr (7, [.int (nI W0), .int (nI H0), .ref nwalls, .int (nI n), .ref nstarts, .ref ngoals, .ref nlaid, .ref nisTold, .int (nI F0), .ref ncells, .ref nindex, .ref nnear, .ref nnearCount, .ref npay, .ref ndone, .ref npile, .int vtop, .ref nnow, .ref nthen, .ref nchoice, .int vfound, .int vlength, .ref nplan, .ref ncosts, .ref npaid, .ref nafter, .ref nfar, .ref nmany, .ref nnext, .int vsort, .int vwhen, .int vone, .int vtwo])), (nwalls, .inl (cZ, 25, .inl wf)), (ncells, .inl (cI, 25, .inl c1)), (nindex, .inl (cI, 25, .inl x1)), (nnear, .inl (cI, 125, .inl n1)), (nnearCount, .inl (cI, 25, .inl (upd q1 kz 0)))] H := hP
      have hD : va_D A [(na, .inr (7, [.int (nI W0), .int (nI H0), .ref nwalls, .int (nI n), .ref nstarts, .ref ngoals, .ref nlaid, .ref nisTold, .int (nI F0), .ref ncells, .ref nindex, .ref nnear, .ref nnearCount, .ref npay, .ref ndone, .ref npile, .int vtop, .ref nnow, .ref nthen, .ref nchoice, .int vfound, .int vlength, .ref nplan, .ref ncosts, .ref npaid, .ref nafter, .ref nfar, .ref nmany, .ref nnext, .int vsort, .int vwhen, .int vone, .int vtwo])), (nwalls, .inl (cZ, 25, .inl wf)), (ncells, .inl (cI, 25, .inl c1)), (nindex, .inl (cI, 25, .inl x1)), (nnear, .inl (cI, 125, .inl n1)), (nnearCount, .inl (cI, 25, .inl (upd q1 kz 0)))] := hD
      refine lv_iconst (v := 0) hx hb d_md_number_77 (by decide) ?_
      refine lv_istore_n hx hb d_md_number_78 rfl hl (by decide) rfl (fun ls hl => ?_)
      have hl : lv_has ls 3 [(2, .int 0), (1, .int (nI kz)), (0, .ref na)] := hl
      have hl := lv_sub hl [0, 1, 2] (l' := [(2, .int (nI 0)), (1, .int (nI kz)), (0, .ref na)]) rfl
      refine mt_loop (ι := Nat × Nat × Nat × (Nat → Int32) × (Nat → Int32)) (I := fun ix ls H locs => ((ix.1) ≤ F0) ∧ (mn_A W0 F0 ce kz (ix.2.2.2.1) (ix.2.2.2.2)) ∧ ((ix.2.2.2.2) kz = nI (ix.2.1)) ∧ (mn_K W0 F0 ce kz (ix.1) (ix.2.1) (ix.2.2.2.1)) ∧ ((ix.2.1) ≤ mn_G W0 (ce kz) (ix.2.2.1)) ∧ (∀ j, (ix.1) ≤ j → j < F0 → (ix.2.2.1) ≤ ce j) ∧ lv_has ls 3 [(2, .int (nI (ix.1))), (1, .int (nI kz)), (0, .ref na)] ∧ va_P D kls [(na, .inr (7, [.int (nI W0), .int (nI H0), .ref nwalls, .int (nI n), .ref nstarts, .ref ngoals, .ref nlaid, .ref nisTold, .int (nI F0), .ref ncells, .ref nindex, .ref nnear, .ref nnearCount, .ref npay, .ref ndone, .ref npile, .int vtop, .ref nnow, .ref nthen, .ref nchoice, .int vfound, .int vlength, .ref nplan, .ref ncosts, .ref npaid, .ref nafter, .ref nfar, .ref nmany, .ref nnext, .int vsort, .int vwhen, .int vone, .int vtwo])), (nwalls, .inl (cZ, 25, .inl wf)), (ncells, .inl (cI, 25, .inl c1)), (nindex, .inl (cI, 25, .inl x1)), (nnear, .inl (cI, 125, .inl (ix.2.2.2.1))), (nnearCount, .inl (cI, 25, .inl (ix.2.2.2.2)))] H ∧ va_D A [(na, .inr (7, [.int (nI W0), .int (nI H0), .ref nwalls, .int (nI n), .ref nstarts, .ref ngoals, .ref nlaid, .ref nisTold, .int (nI F0), .ref ncells, .ref nindex, .ref nnear, .ref nnearCount, .ref npay, .ref ndone, .ref npile, .int vtop, .ref nnow, .ref nthen, .ref nchoice, .int vfound, .int vlength, .ref nplan, .ref ncosts, .ref npaid, .ref nafter, .ref nfar, .ref nmany, .ref nnext, .int vsort, .int vwhen, .int vone, .int vtwo])), (nwalls, .inl (cZ, 25, .inl wf)), (ncells, .inl (cI, 25, .inl c1)), (nindex, .inl (cI, 25, .inl x1)), (nnear, .inl (cI, 125, .inl (ix.2.2.2.1))), (nnearCount, .inl (cI, 25, .inl (ix.2.2.2.2)))] ∧ va_S A s.heap H locs) (μ := fun ix => F0 - (ix.1)) ?_ (0, 0, 0, n1, upd q1 kz 0) ls H _ ⟨Nat.zero_le _, hA6, by show upd q1 kz 0 kz = nI 0; rw [pk_us]; exact nI_0.symm, ⟨fun i h => absurd h (Nat.not_lt_zero _), fun j h => absurd h (Nat.not_lt_zero _)⟩, Nat.zero_le _, fun _ _ _ => Nat.zero_le _, hl, hP, hD, hS⟩
      clear hl hP hD hS
      intro i_c ls H locs ⟨hjz, hA7, hq7, hK7, hG7, hy7, hl, hP, hD, hS⟩ ih_c
      obtain ⟨jz, cnt, y9, n2, q2⟩ := i_c
      have hjz : jz ≤ F0 := hjz
      have hA7 : mn_A W0 F0 ce kz n2 q2 := hA7
      have hq7 : q2 kz = nI cnt := hq7
      have hK7 : mn_K W0 F0 ce kz jz cnt n2 := hK7
      have hG7 : cnt ≤ mn_G W0 (ce kz) y9 := hG7
      have hy7 : ∀ j, jz ≤ j → j < F0 → y9 ≤ ce j := hy7
      have hl : lv_has ls 3 [(2, .int (nI jz)), (1, .int (nI kz)), (0, .ref na)] := hl
      have hP : va_P D kls [(na, .inr (7, [.int (nI W0), .int (nI H0), .ref nwalls, .int (nI n), .ref nstarts, .ref ngoals, .ref nlaid, .ref nisTold, .int (nI F0), .ref ncells, .ref nindex, .ref nnear, .ref nnearCount, .ref npay, .ref ndone, .ref npile, .int vtop, .ref nnow, .ref nthen, .ref nchoice, .int vfound, .int vlength, .ref nplan, .ref ncosts, .ref npaid, .ref nafter, .ref nfar, .ref nmany, .ref nnext, .int vsort, .int vwhen, .int vone, .int vtwo])), (nwalls, .inl (cZ, 25, .inl wf)), (ncells, .inl (cI, 25, .inl c1)), (nindex, .inl (cI, 25, .inl x1)), (nnear, .inl (cI, 125, .inl n2)), (nnearCount, .inl (cI, 25, .inl q2))] H := hP
      have hD : va_D A [(na, .inr (7, [.int (nI W0), .int (nI H0), .ref nwalls, .int (nI n), .ref nstarts, .ref ngoals, .ref nlaid, .ref nisTold, .int (nI F0), .ref ncells, .ref nindex, .ref nnear, .ref nnearCount, .ref npay, .ref ndone, .ref npile, .int vtop, .ref nnow, .ref nthen, .ref nchoice, .int vfound, .int vlength, .ref nplan, .ref ncosts, .ref npaid, .ref nafter, .ref nfar, .ref nmany, .ref nnext, .int vsort, .int vwhen, .int vone, .int vtwo])), (nwalls, .inl (cZ, 25, .inl wf)), (ncells, .inl (cI, 25, .inl c1)), (nindex, .inl (cI, 25, .inl x1)), (nnear, .inl (cI, 125, .inl n2)), (nnearCount, .inl (cI, 25, .inl q2))] := hD
      refine lv_iload_n hx hb d_md_number_79 rfl (lv_at hl 0 rfl) ?_
      refine lv_aload_n hx hb d_md_number_80 rfl (lv_at hl 2 rfl) ?_
      refine gf_md_120 hx hb hg hown hK hP 0 rfl rfl d_md_number_81 ?_
      refine lv_icmp_ge hx hb d_md_number_84 rfl (fun g6a => ?_) (fun g6a => ?_)
      ·
        have g6 : F0 ≤ jz := by rcases Nat.lt_or_ge jz F0 with h | h; exact absurd g6a (nI_ge (b := F0) h (by omega)); exact h
        have hA8 : mn_A W0 F0 ce (kz + 1) n2 q2 := by
          intro k hk
          by_cases e9 : k = kz
          · subst e9
            have hK8 : mn_K W0 F0 ce k F0 cnt n2 := ⟨hK7.1, fun j hj hR9 => hK7.2 j (by omega) hR9⟩
            obtain ⟨i9, hi9, -⟩ := hK8.2 k (by omega) (Or.inl rfl)
            exact ⟨cnt, by omega, Nat.le_trans hG7 (mn_G5 _ _ _), hq7, hK8⟩
          · exact hA7 k (by omega)
        refine lv_iinc (k := 1) (v := nI (kz + 1)) hx hb d_md_number_143 hl rfl ((nI_succ kz).symm) (by decide) rfl (fun ls hl => ?_)
        have hl : lv_has ls 3 [(1, .int (nI (kz + 1))), (2, .int (nI jz)), (0, .ref na)] := hl
        refine lv_goto hx hb d_md_number_146 rfl ?_
        have hl := lv_sub hl [0, 2] (l' := [(1, .int (nI (kz + 1))), (0, .ref na)]) rfl
        exact ih_b (kz + 1, n2, q2) ls H _ (by show F0 - (kz + 1) < F0 - kz; omega) ⟨by show kz + 1 ≤ F0; omega, hA8, hl, hP, hD, hS⟩
      ·
        have g6 : jz < F0 := by rcases Nat.lt_or_ge jz F0 with h | h; exact h; exact absurd (nI_le (a := F0) h (by omega)) g6a
        refine lv_iload_n hx hb d_md_number_87 rfl (lv_at hl 0 rfl) ?_
        refine lv_iload_n hx hb d_md_number_88 rfl (lv_at hl 1 rfl) ?_
        refine lv_icmp_eq hx hb d_md_number_89 rfl (fun g7a => ?_) (fun g7a => ?_)
        ·
          have g7 : jz = kz := (nI_eq (by omega) (by omega)).mp g7a
          have hR : mn_R W0 ce kz jz := Or.inl g7
          have hG6 : cnt + 1 ≤ mn_G W0 (ce kz) (ce jz + 1) := by have h9 := mn_Gh (W := W0) (c := ce kz) (b := ce jz) (hR.elim (fun q => Or.inl (by rw [q])) (fun q => by have := mn_bs (by omega) q; omega)); have h8 := mn_Gm (W := W0) (c := ce kz) (hy7 jz (Nat.le_refl _) g6); omega
          have hc5 : cnt < 5 := by have := mn_G5 W0 (ce kz) (ce jz + 1); omega
          have hy6 : ∀ j, jz + 1 ≤ j → j < F0 → ce jz + 1 ≤ ce j := fun j h1 h2 => mn_Ci hcc (show jz < j by omega) (by rw [← hF0]; exact h2)
          refine lv_aload_n hx hb d_md_number_111 rfl (lv_at hl 2 rfl) ?_
          refine gf_md_39 hx hb hg hown hK hP 0 rfl rfl d_md_number_112 ?_
          refine lv_iconst (v := 5) hx hb d_md_number_115 (by decide) ?_
          refine lv_iload_n hx hb d_md_number_116 rfl (lv_at hl 1 rfl) ?_
          refine lv_imul hx hb d_md_number_117 ?_
          refine lv_topi (fun y2 ey2 => ?_)
          have ey2 : y2 = nI (5 * kz) := ey2.trans (by rw [show (5 : Int32) = nI 5 from rfl, pk_mul])
          subst ey2
          refine lv_aload_n hx hb d_md_number_118 rfl (lv_at hl 2 rfl) ?_
          refine gf_md_42 hx hb hg hown hK hP 0 rfl rfl d_md_number_119 ?_
          refine lv_iload_n hx hb d_md_number_122 rfl (lv_at hl 1 rfl) ?_
          refine va_iald hx hb hK hP 5 1 rfl rfl (vp_in_nI (show kz < 25 by omega) (by decide)) d_md_number_123 ?_
          refine lv_topi (fun y3 ey3 => ?_)
          have ey3 : y3 = nI cnt := ey3.trans (by rw [nI_clamp (show kz < 2 ^ 31 by omega)]; exact hq7)
          subst ey3
          refine lv_iadd hx hb d_md_number_124 ?_
          refine lv_topi (fun y4 ey4 => ?_)
          have ey4 : y4 = nI (5 * kz + cnt) := ey4.trans (nI_add _ _)
          subst ey4
          refine lv_iload_n hx hb d_md_number_125 rfl (lv_at hl 0 rfl) ?_
          refine va_iast hx hb hK hP hD hS 4 1 rfl rfl (vp_in_nI (show 5 * kz + cnt < 125 by omega) (by decide)) d_md_number_126 (fun H locs hP hD hS => ?_)
          rw [nI_clamp (show 5 * kz + cnt < 2 ^ 31 by omega)] at hP hD
          have hP : va_P D kls [(na, .inr (7, [.int (nI W0), .int (nI H0), .ref nwalls, .int (nI n), .ref nstarts, .ref ngoals, .ref nlaid, .ref nisTold, .int (nI F0), .ref ncells, .ref nindex, .ref nnear, .ref nnearCount, .ref npay, .ref ndone, .ref npile, .int vtop, .ref nnow, .ref nthen, .ref nchoice, .int vfound, .int vlength, .ref nplan, .ref ncosts, .ref npaid, .ref nafter, .ref nfar, .ref nmany, .ref nnext, .int vsort, .int vwhen, .int vone, .int vtwo])), (nwalls, .inl (cZ, 25, .inl wf)), (ncells, .inl (cI, 25, .inl c1)), (nindex, .inl (cI, 25, .inl x1)), (nnear, .inl (cI, 125, .inl (upd n2 (5 * kz + cnt) (nI jz)))), (nnearCount, .inl (cI, 25, .inl q2))] H := hP
          have hD : va_D A [(na, .inr (7, [.int (nI W0), .int (nI H0), .ref nwalls, .int (nI n), .ref nstarts, .ref ngoals, .ref nlaid, .ref nisTold, .int (nI F0), .ref ncells, .ref nindex, .ref nnear, .ref nnearCount, .ref npay, .ref ndone, .ref npile, .int vtop, .ref nnow, .ref nthen, .ref nchoice, .int vfound, .int vlength, .ref nplan, .ref ncosts, .ref npaid, .ref nafter, .ref nfar, .ref nmany, .ref nnext, .int vsort, .int vwhen, .int vone, .int vtwo])), (nwalls, .inl (cZ, 25, .inl wf)), (ncells, .inl (cI, 25, .inl c1)), (nindex, .inl (cI, 25, .inl x1)), (nnear, .inl (cI, 125, .inl (upd n2 (5 * kz + cnt) (nI jz)))), (nnearCount, .inl (cI, 25, .inl q2))] := hD
          refine lv_aload_n hx hb d_md_number_127 rfl (lv_at hl 2 rfl) ?_
          refine gf_md_42 hx hb hg hown hK hP 0 rfl rfl d_md_number_128 ?_
          refine lv_iload_n hx hb d_md_number_131 rfl (lv_at hl 1 rfl) ?_
          refine lv_dup2_11 hx hb d_md_number_132 rfl rfl ?_
          refine va_iald hx hb hK hP 5 1 rfl rfl (vp_in_nI (show kz < 25 by omega) (by decide)) d_md_number_133 ?_
          refine lv_topi (fun y5 ey5 => ?_)
          have ey5 : y5 = nI cnt := ey5.trans (by rw [nI_clamp (show kz < 2 ^ 31 by omega)]; exact hq7)
          subst ey5
          refine lv_iconst (v := 1) hx hb d_md_number_134 (by decide) ?_
          refine lv_iadd hx hb d_md_number_135 ?_
          refine lv_topi (fun y6 ey6 => ?_)
          have ey6 : y6 = nI (cnt + 1) := ey6.trans (nI_1 _)
          subst ey6
          refine va_iast hx hb hK hP hD hS 5 1 rfl rfl (vp_in_nI (show kz < 25 by omega) (by decide)) d_md_number_136 (fun H locs hP hD hS => ?_)
          rw [nI_clamp (show kz < 2 ^ 31 by omega)] at hP hD
          have hP : va_P D kls [(na, .inr (7, [.int (nI W0), .int (nI H0), .ref nwalls, .int (nI n), .ref nstarts, .ref ngoals, .ref nlaid, .ref nisTold, .int (nI F0), .ref ncells, .ref nindex, .ref nnear, .ref nnearCount, .ref npay, .ref ndone, .ref npile, .int vtop, .ref nnow, .ref nthen, .ref nchoice, .int vfound, .int vlength, .ref nplan, .ref ncosts, .ref npaid, .ref nafter, .ref nfar, .ref nmany, .ref nnext, .int vsort, .int vwhen, .int vone, .int vtwo])), (nwalls, .inl (cZ, 25, .inl wf)), (ncells, .inl (cI, 25, .inl c1)), (nindex, .inl (cI, 25, .inl x1)), (nnear, .inl (cI, 125, .inl (upd n2 (5 * kz + cnt) (nI jz)))), (nnearCount, .inl (cI, 25, .inl (upd q2 kz (nI (cnt + 1)))))] H := hP
          have hD : va_D A [(na, .inr (7, [.int (nI W0), .int (nI H0), .ref nwalls, .int (nI n), .ref nstarts, .ref ngoals, .ref nlaid, .ref nisTold, .int (nI F0), .ref ncells, .ref nindex, .ref nnear, .ref nnearCount, .ref npay, .ref ndone, .ref npile, .int vtop, .ref nnow, .ref nthen, .ref nchoice, .int vfound, .int vlength, .ref nplan, .ref ncosts, .ref npaid, .ref nafter, .ref nfar, .ref nmany, .ref nnext, .int vsort, .int vwhen, .int vone, .int vtwo])), (nwalls, .inl (cZ, 25, .inl wf)), (ncells, .inl (cI, 25, .inl c1)), (nindex, .inl (cI, 25, .inl x1)), (nnear, .inl (cI, 125, .inl (upd n2 (5 * kz + cnt) (nI jz)))), (nnearCount, .inl (cI, 25, .inl (upd q2 kz (nI (cnt + 1)))))] := hD
          refine lv_iinc (k := 0) (v := nI (jz + 1)) hx hb d_md_number_137 hl rfl ((nI_succ jz).symm) (by decide) rfl (fun ls hl => ?_)
          have hl : lv_has ls 3 [(2, .int (nI (jz + 1))), (1, .int (nI kz)), (0, .ref na)] := hl
          refine lv_goto hx hb d_md_number_140 rfl ?_
          have hl := lv_sub hl [0, 1, 2] (l' := [(2, .int (nI (jz + 1))), (1, .int (nI kz)), (0, .ref na)]) rfl
          exact ih_c (jz + 1, cnt + 1, ce jz + 1, upd n2 (5 * kz + cnt) (nI jz), upd q2 kz (nI (cnt + 1))) ls H _ (by show F0 - (jz + 1) < F0 - jz; omega) ⟨by show jz + 1 ≤ F0; omega, mn_A_c hA7 (fun i hi => pk_un (by omega)) (fun i hi => pk_un (by omega)), pk_us, mn_Ks hK7 g6 hR, hG6, hy6, hl, hP, hD, hS⟩
        ·
          have g7 : ¬ jz = kz := fun h => g7a (by rw [h])
          refine lv_aload_n hx hb d_md_number_92 rfl (lv_at hl 2 rfl) ?_
          refine lv_aload_n hx hb d_md_number_93 rfl (lv_at hl 2 rfl) ?_
          refine gf_md_33 hx hb hg hown hK hP 0 rfl rfl d_md_number_94 ?_
          refine lv_iload_n hx hb d_md_number_97 rfl (lv_at hl 0 rfl) ?_
          refine va_iald hx hb hK hP 2 1 rfl rfl (vp_in_nI (show jz < 25 by omega) (by decide)) d_md_number_98 ?_
          refine lv_topi (fun y7 ey7 => ?_)
          have ey7 : y7 = nI (ce jz) := ey7.trans (by rw [nI_clamp (show jz < 2 ^ 31 by omega)]; exact (hc9 jz g6).1)
          subst ey7
          refine lv_aload_n hx hb d_md_number_99 rfl (lv_at hl 2 rfl) ?_
          refine gf_md_33 hx hb hg hown hK hP 0 rfl rfl d_md_number_100 ?_
          refine lv_iload_n hx hb d_md_number_103 rfl (lv_at hl 1 rfl) ?_
          refine va_iald hx hb hK hP 2 1 rfl rfl (vp_in_nI (show kz < 25 by omega) (by decide)) d_md_number_104 ?_
          refine lv_topi (fun y8 ey8 => ?_)
          have ey8 : y8 = nI (ce kz) := ey8.trans (by rw [nI_clamp (show kz < 2 ^ 31 by omega)]; exact (hc9 kz (by omega)).1)
          subst ey8
          have hPc := hP.sub (ws' := [(na, .inr (7, [.int (nI W0), .int (nI H0), .ref nwalls, .int (nI n), .ref nstarts, .ref ngoals, .ref nlaid, .ref nisTold, .int (nI F0), .ref ncells, .ref nindex, .ref nnear, .ref nnearCount, .ref npay, .ref ndone, .ref npile, .int vtop, .ref nnow, .ref nthen, .ref nchoice, .int vfound, .int vlength, .ref nplan, .ref ncosts, .ref npaid, .ref nafter, .ref nfar, .ref nmany, .ref nnext, .int vsort, .int vwhen, .int vone, .int vtwo]))]) [0] rfl
          have hDc := hD.sub (ws' := [(na, .inr (7, [.int (nI W0), .int (nI H0), .ref nwalls, .int (nI n), .ref nstarts, .ref ngoals, .ref nlaid, .ref nisTold, .int (nI F0), .ref ncells, .ref nindex, .ref nnear, .ref nnearCount, .ref npay, .ref ndone, .ref npile, .int vtop, .ref nnow, .ref nthen, .ref nchoice, .int vfound, .int vlength, .ref nplan, .ref ncosts, .ref npaid, .ref nafter, .ref nfar, .ref nmany, .ref nnext, .int vsort, .int vwhen, .int vone, .int vtwo]))]) [0] (by decide) rfl
          refine vp_callSi (W.runV (As := [.int (nI (ce jz)), .int (nI (ce kz))]) (rest := []) ⟨hx, hb, hml, hown, hg⟩ (c_md_isBeside l D cZ cI cJ cII na nwalls nstarts ngoals nlaid nisTold ncells nindex nnear nnearCount npay ndone npile nnow nthen nchoice nplan ncosts npaid nafter nfar nmany nnext (nI F0) vtop vfound vlength vsort vwhen vone vtwo _ _ _ (ce jz) (ce kz) H.size hWH ((hc9 jz g6).2) ((hc9 kz (by omega)).2)) (cwV 2 hg gv_md_107 rfl rfl rfl (by decide +kernel) ⟨Nat.le_of_ble_eq_true rfl, Nat.le_of_ble_eq_true rfl⟩) ⟨mt_bl, va_recv (q0 := 0) (ci := 7) hK hP rfl rfl, mt_pr hX hPc hK hDc⟩ rfl rfl hl.1 rfl (lv_room (Nat.le_of_ble_eq_true rfl)) d_md_number_105 ⟨Nat.le_of_ble_eq_true rfl, Nat.le_of_ble_eq_true rfl⟩) (fun r9 hr9 => ?_)
          have hr9 : (r9 = 1 ∧ mv_bs W0 (ce jz) (ce kz)) ∨ (r9 = 0 ∧ ¬ mv_bs W0 (ce jz) (ce kz)) := hr9
          have hib9 := hr9
          refine lv_if_eq hx hb d_md_number_108 rfl (fun g8 => ?_) (fun g8 => ?_)
          ·
            have hR : ¬ mn_R W0 ce kz jz := hib9.elim (fun q => absurd (q.1.symm.trans g8) (by decide)) (fun q h => h.elim g7 q.2)
            have hy6 : ∀ j, jz + 1 ≤ j → j < F0 → ce jz ≤ ce j := fun j h1 h2 => Nat.le_of_lt (mn_Ci hcc (show jz < j by omega) (by rw [← hF0]; exact h2))
            refine lv_iinc (k := 0) (v := nI (jz + 1)) hx hb d_md_number_137 hl rfl ((nI_succ jz).symm) (by decide) rfl (fun ls hl => ?_)
            have hl : lv_has ls 3 [(2, .int (nI (jz + 1))), (1, .int (nI kz)), (0, .ref na)] := hl
            refine lv_goto hx hb d_md_number_140 rfl ?_
            have hl := lv_sub hl [0, 1, 2] (l' := [(2, .int (nI (jz + 1))), (1, .int (nI kz)), (0, .ref na)]) rfl
            exact ih_c (jz + 1, cnt, ce jz, n2, q2) ls H _ (by show F0 - (jz + 1) < F0 - jz; omega) ⟨by show jz + 1 ≤ F0; omega, hA7, hq7, mn_Kn hK7 hR, Nat.le_trans hG7 (mn_Gm (hy7 jz (Nat.le_refl _) g6)), hy6, hl, hP, hD, hS⟩
          ·
            have hR : mn_R W0 ce kz jz := Or.inr (hib9.elim (fun q => q.2) (fun q => absurd q.1 g8))
            have hG6 : cnt + 1 ≤ mn_G W0 (ce kz) (ce jz + 1) := by have h9 := mn_Gh (W := W0) (c := ce kz) (b := ce jz) (hR.elim (fun q => Or.inl (by rw [q])) (fun q => by have := mn_bs (by omega) q; omega)); have h8 := mn_Gm (W := W0) (c := ce kz) (hy7 jz (Nat.le_refl _) g6); omega
            have hc5 : cnt < 5 := by have := mn_G5 W0 (ce kz) (ce jz + 1); omega
            have hy6 : ∀ j, jz + 1 ≤ j → j < F0 → ce jz + 1 ≤ ce j := fun j h1 h2 => mn_Ci hcc (show jz < j by omega) (by rw [← hF0]; exact h2)
            refine lv_aload_n hx hb d_md_number_111 rfl (lv_at hl 2 rfl) ?_
            refine gf_md_39 hx hb hg hown hK hP 0 rfl rfl d_md_number_112 ?_
            refine lv_iconst (v := 5) hx hb d_md_number_115 (by decide) ?_
            refine lv_iload_n hx hb d_md_number_116 rfl (lv_at hl 1 rfl) ?_
            refine lv_imul hx hb d_md_number_117 ?_
            refine lv_topi (fun y10 ey10 => ?_)
            have ey10 : y10 = nI (5 * kz) := ey10.trans (by rw [show (5 : Int32) = nI 5 from rfl, pk_mul])
            subst ey10
            refine lv_aload_n hx hb d_md_number_118 rfl (lv_at hl 2 rfl) ?_
            refine gf_md_42 hx hb hg hown hK hP 0 rfl rfl d_md_number_119 ?_
            refine lv_iload_n hx hb d_md_number_122 rfl (lv_at hl 1 rfl) ?_
            refine va_iald hx hb hK hP 5 1 rfl rfl (vp_in_nI (show kz < 25 by omega) (by decide)) d_md_number_123 ?_
            refine lv_topi (fun y11 ey11 => ?_)
            have ey11 : y11 = nI cnt := ey11.trans (by rw [nI_clamp (show kz < 2 ^ 31 by omega)]; exact hq7)
            subst ey11
            refine lv_iadd hx hb d_md_number_124 ?_
            refine lv_topi (fun y12 ey12 => ?_)
            have ey12 : y12 = nI (5 * kz + cnt) := ey12.trans (nI_add _ _)
            subst ey12
            refine lv_iload_n hx hb d_md_number_125 rfl (lv_at hl 0 rfl) ?_
            refine va_iast hx hb hK hP hD hS 4 1 rfl rfl (vp_in_nI (show 5 * kz + cnt < 125 by omega) (by decide)) d_md_number_126 (fun H locs hP hD hS => ?_)
            rw [nI_clamp (show 5 * kz + cnt < 2 ^ 31 by omega)] at hP hD
            have hP : va_P D kls [(na, .inr (7, [.int (nI W0), .int (nI H0), .ref nwalls, .int (nI n), .ref nstarts, .ref ngoals, .ref nlaid, .ref nisTold, .int (nI F0), .ref ncells, .ref nindex, .ref nnear, .ref nnearCount, .ref npay, .ref ndone, .ref npile, .int vtop, .ref nnow, .ref nthen, .ref nchoice, .int vfound, .int vlength, .ref nplan, .ref ncosts, .ref npaid, .ref nafter, .ref nfar, .ref nmany, .ref nnext, .int vsort, .int vwhen, .int vone, .int vtwo])), (nwalls, .inl (cZ, 25, .inl wf)), (ncells, .inl (cI, 25, .inl c1)), (nindex, .inl (cI, 25, .inl x1)), (nnear, .inl (cI, 125, .inl (upd n2 (5 * kz + cnt) (nI jz)))), (nnearCount, .inl (cI, 25, .inl q2))] H := hP
            have hD : va_D A [(na, .inr (7, [.int (nI W0), .int (nI H0), .ref nwalls, .int (nI n), .ref nstarts, .ref ngoals, .ref nlaid, .ref nisTold, .int (nI F0), .ref ncells, .ref nindex, .ref nnear, .ref nnearCount, .ref npay, .ref ndone, .ref npile, .int vtop, .ref nnow, .ref nthen, .ref nchoice, .int vfound, .int vlength, .ref nplan, .ref ncosts, .ref npaid, .ref nafter, .ref nfar, .ref nmany, .ref nnext, .int vsort, .int vwhen, .int vone, .int vtwo])), (nwalls, .inl (cZ, 25, .inl wf)), (ncells, .inl (cI, 25, .inl c1)), (nindex, .inl (cI, 25, .inl x1)), (nnear, .inl (cI, 125, .inl (upd n2 (5 * kz + cnt) (nI jz)))), (nnearCount, .inl (cI, 25, .inl q2))] := hD
            refine lv_aload_n hx hb d_md_number_127 rfl (lv_at hl 2 rfl) ?_
            refine gf_md_42 hx hb hg hown hK hP 0 rfl rfl d_md_number_128 ?_
            refine lv_iload_n hx hb d_md_number_131 rfl (lv_at hl 1 rfl) ?_
            refine lv_dup2_11 hx hb d_md_number_132 rfl rfl ?_
            refine va_iald hx hb hK hP 5 1 rfl rfl (vp_in_nI (show kz < 25 by omega) (by decide)) d_md_number_133 ?_
            refine lv_topi (fun y13 ey13 => ?_)
            have ey13 : y13 = nI cnt := ey13.trans (by rw [nI_clamp (show kz < 2 ^ 31 by omega)]; exact hq7)
            subst ey13
            refine lv_iconst (v := 1) hx hb d_md_number_134 (by decide) ?_
            refine lv_iadd hx hb d_md_number_135 ?_
            refine lv_topi (fun y14 ey14 => ?_)
            have ey14 : y14 = nI (cnt + 1) := ey14.trans (nI_1 _)
            subst ey14
            refine va_iast hx hb hK hP hD hS 5 1 rfl rfl (vp_in_nI (show kz < 25 by omega) (by decide)) d_md_number_136 (fun H locs hP hD hS => ?_)
            rw [nI_clamp (show kz < 2 ^ 31 by omega)] at hP hD
            have hP : va_P D kls [(na, .inr (7, [.int (nI W0), .int (nI H0), .ref nwalls, .int (nI n), .ref nstarts, .ref ngoals, .ref nlaid, .ref nisTold, .int (nI F0), .ref ncells, .ref nindex, .ref nnear, .ref nnearCount, .ref npay, .ref ndone, .ref npile, .int vtop, .ref nnow, .ref nthen, .ref nchoice, .int vfound, .int vlength, .ref nplan, .ref ncosts, .ref npaid, .ref nafter, .ref nfar, .ref nmany, .ref nnext, .int vsort, .int vwhen, .int vone, .int vtwo])), (nwalls, .inl (cZ, 25, .inl wf)), (ncells, .inl (cI, 25, .inl c1)), (nindex, .inl (cI, 25, .inl x1)), (nnear, .inl (cI, 125, .inl (upd n2 (5 * kz + cnt) (nI jz)))), (nnearCount, .inl (cI, 25, .inl (upd q2 kz (nI (cnt + 1)))))] H := hP
            have hD : va_D A [(na, .inr (7, [.int (nI W0), .int (nI H0), .ref nwalls, .int (nI n), .ref nstarts, .ref ngoals, .ref nlaid, .ref nisTold, .int (nI F0), .ref ncells, .ref nindex, .ref nnear, .ref nnearCount, .ref npay, .ref ndone, .ref npile, .int vtop, .ref nnow, .ref nthen, .ref nchoice, .int vfound, .int vlength, .ref nplan, .ref ncosts, .ref npaid, .ref nafter, .ref nfar, .ref nmany, .ref nnext, .int vsort, .int vwhen, .int vone, .int vtwo])), (nwalls, .inl (cZ, 25, .inl wf)), (ncells, .inl (cI, 25, .inl c1)), (nindex, .inl (cI, 25, .inl x1)), (nnear, .inl (cI, 125, .inl (upd n2 (5 * kz + cnt) (nI jz)))), (nnearCount, .inl (cI, 25, .inl (upd q2 kz (nI (cnt + 1)))))] := hD
            refine lv_iinc (k := 0) (v := nI (jz + 1)) hx hb d_md_number_137 hl rfl ((nI_succ jz).symm) (by decide) rfl (fun ls hl => ?_)
            have hl : lv_has ls 3 [(2, .int (nI (jz + 1))), (1, .int (nI kz)), (0, .ref na)] := hl
            refine lv_goto hx hb d_md_number_140 rfl ?_
            have hl := lv_sub hl [0, 1, 2] (l' := [(2, .int (nI (jz + 1))), (1, .int (nI kz)), (0, .ref na)]) rfl
            exact ih_c (jz + 1, cnt + 1, ce jz + 1, upd n2 (5 * kz + cnt) (nI jz), upd q2 kz (nI (cnt + 1))) ls H _ (by show F0 - (jz + 1) < F0 - jz; omega) ⟨by show jz + 1 ≤ F0; omega, mn_A_c hA7 (fun i hi => pk_un (by omega)) (fun i hi => pk_un (by omega)), pk_us, mn_Ks hK7 g6 hR, hG6, hy6, hl, hP, hD, hS⟩
  ·
    have g2 : z < W0 * H0 := by rcases Nat.lt_or_ge z (W0 * H0) with h | h; exact h; exact absurd (nI_le (a := (W0 * H0)) h (by omega)) g1
    have hf25 : fz ≤ z := by rw [hfz]; exact fx_cnt_le _ _
    refine lv_aload_n hx hb d_md_number_15 rfl (lv_at hl 1 rfl) ?_
    refine gf_md_16 hx hb hg hown hK hP 0 rfl rfl d_md_number_16 ?_
    refine lv_iload_n hx hb d_md_number_19 rfl (lv_at hl 0 rfl) ?_
    refine va_zald hx hb hK hP 1 0 rfl rfl (vp_in_nI (show z < 25 by omega) (by decide)) d_md_number_20 ?_
    refine lv_topi (fun y15 ey15 => ?_)
    have ey15 : y15 = wf z := ey15.trans (by rw [nI_clamp (show z < 2 ^ 31 by omega)])
    subst ey15
    refine lv_if_ne hx hb d_md_number_21 rfl (fun g3 => ?_) (fun g3 => ?_)
    ·
      refine lv_iinc (k := 0) (v := nI (z + 1)) hx hb d_md_number_54 hl rfl ((nI_succ z).symm) (by decide) rfl (fun ls hl => ?_)
      have hl : lv_has ls 3 [(1, .int (nI (z + 1))), (0, .ref na)] := hl
      refine lv_goto hx hb d_md_number_57 rfl ?_
      have hl := lv_sub hl [0, 1] (l' := [(1, .int (nI (z + 1))), (0, .ref na)]) rfl
      exact ih_a (z + 1, fz, c1, x1, ce) ls H _ (by show W0 * H0 - (z + 1) < W0 * H0 - z; omega) ⟨by show z + 1 ≤ W0 * H0; omega, by rw [hfz]; show _ = _ + _; rw [if_neg g3]; rfl, mn_Cn hcc g3, hl, hP, hD, hS⟩
    ·
      refine lv_aload_n hx hb d_md_number_24 rfl (lv_at hl 1 rfl) ?_
      refine gf_md_33 hx hb hg hown hK hP 0 rfl rfl d_md_number_25 ?_
      refine lv_aload_n hx hb d_md_number_28 rfl (lv_at hl 1 rfl) ?_
      refine gf_md_120 hx hb hg hown hK hP 0 rfl rfl d_md_number_29 ?_
      refine lv_iload_n hx hb d_md_number_32 rfl (lv_at hl 0 rfl) ?_
      refine va_iast hx hb hK hP hD hS 2 1 rfl rfl (vp_in_nI (show fz < 25 by omega) (by decide)) d_md_number_33 (fun H locs hP hD hS => ?_)
      rw [nI_clamp (show fz < 2 ^ 31 by omega)] at hP hD
      have hP : va_P D kls [(na, .inr (7, [.int (nI W0), .int (nI H0), .ref nwalls, .int (nI n), .ref nstarts, .ref ngoals, .ref nlaid, .ref nisTold, .int (nI fz), .ref ncells, .ref nindex, .ref nnear, .ref nnearCount, .ref npay, .ref ndone, .ref npile, .int vtop, .ref nnow, .ref nthen, .ref nchoice, .int vfound, .int vlength, .ref nplan, .ref ncosts, .ref npaid, .ref nafter, .ref nfar, .ref nmany, .ref nnext, .int vsort, .int vwhen, .int vone, .int vtwo])), (nwalls, .inl (cZ, 25, .inl wf)), (ncells, .inl (cI, 25, .inl (upd c1 fz (nI z)))), (nindex, .inl (cI, 25, .inl x1)), (nnear, .inl (cI, 125, .inl nf)), (nnearCount, .inl (cI, 25, .inl kf))] H := hP
      have hD : va_D A [(na, .inr (7, [.int (nI W0), .int (nI H0), .ref nwalls, .int (nI n), .ref nstarts, .ref ngoals, .ref nlaid, .ref nisTold, .int (nI fz), .ref ncells, .ref nindex, .ref nnear, .ref nnearCount, .ref npay, .ref ndone, .ref npile, .int vtop, .ref nnow, .ref nthen, .ref nchoice, .int vfound, .int vlength, .ref nplan, .ref ncosts, .ref npaid, .ref nafter, .ref nfar, .ref nmany, .ref nnext, .int vsort, .int vwhen, .int vone, .int vtwo])), (nwalls, .inl (cZ, 25, .inl wf)), (ncells, .inl (cI, 25, .inl (upd c1 fz (nI z)))), (nindex, .inl (cI, 25, .inl x1)), (nnear, .inl (cI, 125, .inl nf)), (nnearCount, .inl (cI, 25, .inl kf))] := hD
      refine lv_aload_n hx hb d_md_number_34 rfl (lv_at hl 1 rfl) ?_
      refine gf_md_36 hx hb hg hown hK hP 0 rfl rfl d_md_number_35 ?_
      refine lv_iload_n hx hb d_md_number_38 rfl (lv_at hl 0 rfl) ?_
      refine lv_aload_n hx hb d_md_number_39 rfl (lv_at hl 1 rfl) ?_
      refine gf_md_120 hx hb hg hown hK hP 0 rfl rfl d_md_number_40 ?_
      refine va_iast hx hb hK hP hD hS 3 1 rfl rfl (vp_in_nI (show z < 25 by omega) (by decide)) d_md_number_43 (fun H locs hP hD hS => ?_)
      rw [nI_clamp (show z < 2 ^ 31 by omega)] at hP hD
      have hP : va_P D kls [(na, .inr (7, [.int (nI W0), .int (nI H0), .ref nwalls, .int (nI n), .ref nstarts, .ref ngoals, .ref nlaid, .ref nisTold, .int (nI fz), .ref ncells, .ref nindex, .ref nnear, .ref nnearCount, .ref npay, .ref ndone, .ref npile, .int vtop, .ref nnow, .ref nthen, .ref nchoice, .int vfound, .int vlength, .ref nplan, .ref ncosts, .ref npaid, .ref nafter, .ref nfar, .ref nmany, .ref nnext, .int vsort, .int vwhen, .int vone, .int vtwo])), (nwalls, .inl (cZ, 25, .inl wf)), (ncells, .inl (cI, 25, .inl (upd c1 fz (nI z)))), (nindex, .inl (cI, 25, .inl (upd x1 z (nI fz)))), (nnear, .inl (cI, 125, .inl nf)), (nnearCount, .inl (cI, 25, .inl kf))] H := hP
      have hD : va_D A [(na, .inr (7, [.int (nI W0), .int (nI H0), .ref nwalls, .int (nI n), .ref nstarts, .ref ngoals, .ref nlaid, .ref nisTold, .int (nI fz), .ref ncells, .ref nindex, .ref nnear, .ref nnearCount, .ref npay, .ref ndone, .ref npile, .int vtop, .ref nnow, .ref nthen, .ref nchoice, .int vfound, .int vlength, .ref nplan, .ref ncosts, .ref npaid, .ref nafter, .ref nfar, .ref nmany, .ref nnext, .int vsort, .int vwhen, .int vone, .int vtwo])), (nwalls, .inl (cZ, 25, .inl wf)), (ncells, .inl (cI, 25, .inl (upd c1 fz (nI z)))), (nindex, .inl (cI, 25, .inl (upd x1 z (nI fz)))), (nnear, .inl (cI, 125, .inl nf)), (nnearCount, .inl (cI, 25, .inl kf))] := hD
      refine lv_aload_n hx hb d_md_number_44 rfl (lv_at hl 1 rfl) ?_
      refine lv_dup hx hb d_md_number_45 rfl ?_
      refine gf_md_120 hx hb hg hown hK hP 0 rfl rfl d_md_number_46 ?_
      refine lv_iconst (v := 1) hx hb d_md_number_49 (by decide) ?_
      refine lv_iadd hx hb d_md_number_50 ?_
      refine lv_topi (fun y16 ey16 => ?_)
      have ey16 : y16 = nI (fz + 1) := ey16.trans (nI_1 _)
      subst ey16
      refine pf_md_120 hx hb hg hown hK hP hD hS 0 rfl rfl rfl (Nat.le_of_ble_eq_true rfl) d_md_number_51 (fun H locs hP hD hS => ?_)
      have hP : va_P D kls [(na, .inr (7, [.int (nI W0), .int (nI H0), .ref nwalls, .int (nI n), .ref nstarts, .ref ngoals, .ref nlaid, .ref nisTold, .int (nI (fz + 1)), .ref ncells, .ref nindex, .ref nnear, .ref nnearCount, .ref npay, .ref ndone, .ref npile, .int vtop, .ref nnow, .ref nthen, .ref nchoice, .int vfound, .int vlength, .ref nplan, .ref ncosts, .ref npaid, .ref nafter, .ref nfar, .ref nmany, .ref nnext, .int vsort, .int vwhen, .int vone, .int vtwo])), (nwalls, .inl (cZ, 25, .inl wf)), (ncells, .inl (cI, 25, .inl (upd c1 fz (nI z)))), (nindex, .inl (cI, 25, .inl (upd x1 z (nI fz)))), (nnear, .inl (cI, 125, .inl nf)), (nnearCount, .inl (cI, 25, .inl kf))] H := hP
      have hD : va_D A [(na, .inr (7, [.int (nI W0), .int (nI H0), .ref nwalls, .int (nI n), .ref nstarts, .ref ngoals, .ref nlaid, .ref nisTold, .int (nI (fz + 1)), .ref ncells, .ref nindex, .ref nnear, .ref nnearCount, .ref npay, .ref ndone, .ref npile, .int vtop, .ref nnow, .ref nthen, .ref nchoice, .int vfound, .int vlength, .ref nplan, .ref ncosts, .ref npaid, .ref nafter, .ref nfar, .ref nmany, .ref nnext, .int vsort, .int vwhen, .int vone, .int vtwo])), (nwalls, .inl (cZ, 25, .inl wf)), (ncells, .inl (cI, 25, .inl (upd c1 fz (nI z)))), (nindex, .inl (cI, 25, .inl (upd x1 z (nI fz)))), (nnear, .inl (cI, 125, .inl nf)), (nnearCount, .inl (cI, 25, .inl kf))] := hD
      refine lv_iinc (k := 0) (v := nI (z + 1)) hx hb d_md_number_54 hl rfl ((nI_succ z).symm) (by decide) rfl (fun ls hl => ?_)
      have hl : lv_has ls 3 [(1, .int (nI (z + 1))), (0, .ref na)] := hl
      refine lv_goto hx hb d_md_number_57 rfl ?_
      have hl := lv_sub hl [0, 1] (l' := [(1, .int (nI (z + 1))), (0, .ref na)]) rfl
      exact ih_a (z + 1, fz + 1, upd c1 fz (nI z), upd x1 z (nI fz), sx_up ce fz z) ls H _ (by show W0 * H0 - (z + 1) < W0 * H0 - z; omega) ⟨by show z + 1 ≤ W0 * H0; omega, by show fz + 1 = fx_cnt wf z + (if wf z = 0 then 1 else 0); rw [if_pos g3, hfz], by have h9 := mn_Cs hcc g3; rw [← hfz] at h9; exact h9, hl, hP, hD, hS⟩
