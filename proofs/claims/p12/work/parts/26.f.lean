set_option maxHeartbeats 4000000 in
set_option maxRecDepth 100000 in
theorem c_md_look (l : Launch) (D : va_G) (cZ cI cJ cII : ClassId) (na : Nat) (nwalls : Nat) (nstarts : Nat) (ngoals : Nat) (nlaid : Nat) (nisTold : Nat) (ncells : Nat) (nindex : Nat) (nnear : Nat) (nnearCount : Nat) (npay : Nat) (ndone : Nat) (npile : Nat) (nnow : Nat) (nthen : Nat) (nchoice : Nat) (nplan : Nat) (ncosts : Nat) (npaid : Nat) (nafter : Nat) (nfar : Nat) (nmany : Nat) (nnext : Nat) (vfree : Int32) (vtop : Int32) (vfound : Int32) (vlength : Int32) (vsort : Int32) (vwhen : Int32) (vone : Int32) (vtwo : Int32) (W0 : Nat) (H0 : Nat) (n : Nat) (wf : Nat → Int32) (sf : Nat → Int32) (gf : Nat → Int32) (lf : Nat → Int32) (of : Nat → Int32) (sz : Nat) (hWH : 1 ≤ W0 ∧ W0 ≤ 6 ∧ H0 ≤ 6 ∧ W0 * H0 ≤ 25) (hn : n ≤ 5) : Met l y_md_look w_md_look ({ frames := 4, cells := 0, slots := 0, locals := 160 }) (va_Pc [.ref na] (mt_B D [(cZ, .boolean), (cI, .int), (cJ, .long), (cII, .array .int)] [(na, .inr (7, [.int (nI W0), .int (nI H0), .ref nwalls, .int (nI n), .ref nstarts, .ref ngoals, .ref nlaid, .ref nisTold, .int vfree, .ref ncells, .ref nindex, .ref nnear, .ref nnearCount, .ref npay, .ref ndone, .ref npile, .int vtop, .ref nnow, .ref nthen, .ref nchoice, .int vfound, .int vlength, .ref nplan, .ref ncosts, .ref npaid, .ref nafter, .ref nfar, .ref nmany, .ref nnext, .int vsort, .int vwhen, .int vone, .int vtwo])), (nwalls, .inl (cZ, 25, .inl wf)), (nstarts, .inl (cI, 25, .inl sf)), (ngoals, .inl (cI, 25, .inl gf)), (nlaid, .inl (cI, 180, .inl lf)), (nisTold, .inl (cZ, 180, .inl of))] sz)) ((fun A => va_Qv (fun (u : Int32 × Int32 × Int32 × Int32) => jd_V n (fun t m => jw_P W0 H0 wf sf gf lf of m t) (rS of lf) (rE of lf) (u.1) (u.2.1) (u.2.2.1) (u.2.2.2)) (fun (u : Int32 × Int32 × Int32 × Int32) (t : State) => mt_O D A [(na, .inr (7, [.int (nI W0), .int (nI H0), .ref nwalls, .int (nI n), .ref nstarts, .ref ngoals, .ref nlaid, .ref nisTold, .int vfree, .ref ncells, .ref nindex, .ref nnear, .ref nnearCount, .ref npay, .ref ndone, .ref npile, .int vtop, .ref nnow, .ref nthen, .ref nchoice, .int vfound, .int vlength, .ref nplan, .ref ncosts, .ref npaid, .ref nafter, .ref nfar, .ref nmany, .ref nnext, .int (u.1), .int (u.2.1), .int (u.2.2.1), .int (u.2.2.2)])), (nwalls, .inl (cZ, 25, .inl wf)), (nstarts, .inl (cI, 25, .inl sf)), (ngoals, .inl (cI, 25, .inl gf)), (nlaid, .inl (cI, 180, .inl lf)), (nisTold, .inl (cZ, 180, .inl of))] t) A) (va_A [(na, .inr (7, [.int (nI W0), .int (nI H0), .ref nwalls, .int (nI n), .ref nstarts, .ref ngoals, .ref nlaid, .ref nisTold, .int vfree, .ref ncells, .ref nindex, .ref nnear, .ref nnearCount, .ref npay, .ref ndone, .ref npile, .int vtop, .ref nnow, .ref nthen, .ref nchoice, .int vfound, .int vlength, .ref nplan, .ref ncosts, .ref npaid, .ref nafter, .ref nfar, .ref nmany, .ref nnext, .int vsort, .int vwhen, .int vone, .int vtwo])), (nwalls, .inl (cZ, 25, .inl wf)), (nstarts, .inl (cI, 25, .inl sf)), (ngoals, .inl (cI, 25, .inl gf)), (nlaid, .inl (cI, 180, .inl lf)), (nisTold, .inl (cZ, 180, .inl of))] sz)) 0 0 (va_A [(na, .inr (7, [.int (nI W0), .int (nI H0), .ref nwalls, .int (nI n), .ref nstarts, .ref ngoals, .ref nlaid, .ref nisTold, .int vfree, .ref ncells, .ref nindex, .ref nnear, .ref nnearCount, .ref npay, .ref ndone, .ref npile, .int vtop, .ref nnow, .ref nthen, .ref nchoice, .int vfound, .int vlength, .ref nplan, .ref ncosts, .ref npaid, .ref nafter, .ref nfar, .ref nmany, .ref nnext, .int vsort, .int vwhen, .int vone, .int vtwo])), (nwalls, .inl (cZ, 25, .inl wf)), (nstarts, .inl (cI, 25, .inl sf)), (ngoals, .inl (cI, 25, .inl gf)), (nlaid, .inl (cI, 180, .inl lf)), (nisTold, .inl (cZ, 180, .inl of))] sz) := by
  refine mt_of (y := y_md_look) (n := 4) (av := [.ref na]) (QF := (fun A => va_Qv (fun (u : Int32 × Int32 × Int32 × Int32) => jd_V n (fun t m => jw_P W0 H0 wf sf gf lf of m t) (rS of lf) (rE of lf) (u.1) (u.2.1) (u.2.2.1) (u.2.2.2)) (fun (u : Int32 × Int32 × Int32 × Int32) (t : State) => mt_O D A [(na, .inr (7, [.int (nI W0), .int (nI H0), .ref nwalls, .int (nI n), .ref nstarts, .ref ngoals, .ref nlaid, .ref nisTold, .int vfree, .ref ncells, .ref nindex, .ref nnear, .ref nnearCount, .ref npay, .ref ndone, .ref npile, .int vtop, .ref nnow, .ref nthen, .ref nchoice, .int vfound, .int vlength, .ref nplan, .ref ncosts, .ref npaid, .ref nafter, .ref nfar, .ref nmany, .ref nnext, .int (u.1), .int (u.2.1), .int (u.2.2.1), .int (u.2.2.2)])), (nwalls, .inl (cZ, 25, .inl wf)), (nstarts, .inl (cI, 25, .inl sf)), (ngoals, .inl (cI, 25, .inl gf)), (nlaid, .inl (cI, 180, .inl lf)), (nisTold, .inl (cZ, 180, .inl of))] t) A)) (by decide) (Nat.le_of_ble_eq_true rfl) ?_
  intro p e s m below meth c ls A hx hb hr hlk hml hown hnm hg hl hX hP hK hD hA hS
  obtain ⟨H, hH⟩ : ∃ H : Heap, H = s.heap := ⟨_, rfl⟩
  have hS : va_S A s.heap H [] := by rw [hH]; exact va_S.rf
  rw [← hH] at hP ⊢
  have hown : s.vm.findClass R_md = some m.cls := hown
  have hl : lv_has ls 4 [(0, .ref na)] := hl
  refine lv_aload_n hx hb d_md_look_0 rfl (lv_at hl 0 rfl) ?_
  refine lv_iconst (v := 0) hx hb d_md_look_1 (by decide) ?_
  refine pf_md_196 hx hb hg hown hK hP hD hS 0 rfl rfl rfl (Nat.le_of_ble_eq_true rfl) d_md_look_2 (fun H locs hP hD hS => ?_)
  have hP : va_P D kls [(na, .inr (7, [.int (nI W0), .int (nI H0), .ref nwalls, .int (nI n), .ref nstarts, .ref ngoals, .ref nlaid, .ref nisTold, .int vfree, .ref ncells, .ref nindex, .ref nnear, .ref nnearCount, .ref npay, .ref ndone, .ref npile, .int vtop, .ref nnow, .ref nthen, .ref nchoice, .int vfound, .int vlength, .ref nplan, .ref ncosts, .ref npaid, .ref nafter, .ref nfar, .ref nmany, .ref nnext, .int 0, .int vwhen, .int vone, .int vtwo])), (nwalls, .inl (cZ, 25, .inl wf)), (nstarts, .inl (cI, 25, .inl sf)), (ngoals, .inl (cI, 25, .inl gf)), (nlaid, .inl (cI, 180, .inl lf)), (nisTold, .inl (cZ, 180, .inl of))] H := hP
  have hD : va_D A [(na, .inr (7, [.int (nI W0), .int (nI H0), .ref nwalls, .int (nI n), .ref nstarts, .ref ngoals, .ref nlaid, .ref nisTold, .int vfree, .ref ncells, .ref nindex, .ref nnear, .ref nnearCount, .ref npay, .ref ndone, .ref npile, .int vtop, .ref nnow, .ref nthen, .ref nchoice, .int vfound, .int vlength, .ref nplan, .ref ncosts, .ref npaid, .ref nafter, .ref nfar, .ref nmany, .ref nnext, .int 0, .int vwhen, .int vone, .int vtwo])), (nwalls, .inl (cZ, 25, .inl wf)), (nstarts, .inl (cI, 25, .inl sf)), (ngoals, .inl (cI, 25, .inl gf)), (nlaid, .inl (cI, 180, .inl lf)), (nisTold, .inl (cZ, 180, .inl of))] := hD
  refine lv_aload_n hx hb d_md_look_5 rfl (lv_at hl 0 rfl) ?_
  refine lv_iconst (v := (-1)) hx hb d_md_look_6 (by decide) ?_
  refine pf_md_199 hx hb hg hown hK hP hD hS 0 rfl rfl rfl (Nat.le_of_ble_eq_true rfl) d_md_look_7 (fun H locs hP hD hS => ?_)
  have hP : va_P D kls [(na, .inr (7, [.int (nI W0), .int (nI H0), .ref nwalls, .int (nI n), .ref nstarts, .ref ngoals, .ref nlaid, .ref nisTold, .int vfree, .ref ncells, .ref nindex, .ref nnear, .ref nnearCount, .ref npay, .ref ndone, .ref npile, .int vtop, .ref nnow, .ref nthen, .ref nchoice, .int vfound, .int vlength, .ref nplan, .ref ncosts, .ref npaid, .ref nafter, .ref nfar, .ref nmany, .ref nnext, .int 0, .int (-1), .int vone, .int vtwo])), (nwalls, .inl (cZ, 25, .inl wf)), (nstarts, .inl (cI, 25, .inl sf)), (ngoals, .inl (cI, 25, .inl gf)), (nlaid, .inl (cI, 180, .inl lf)), (nisTold, .inl (cZ, 180, .inl of))] H := hP
  have hD : va_D A [(na, .inr (7, [.int (nI W0), .int (nI H0), .ref nwalls, .int (nI n), .ref nstarts, .ref ngoals, .ref nlaid, .ref nisTold, .int vfree, .ref ncells, .ref nindex, .ref nnear, .ref nnearCount, .ref npay, .ref ndone, .ref npile, .int vtop, .ref nnow, .ref nthen, .ref nchoice, .int vfound, .int vlength, .ref nplan, .ref ncosts, .ref npaid, .ref nafter, .ref nfar, .ref nmany, .ref nnext, .int 0, .int (-1), .int vone, .int vtwo])), (nwalls, .inl (cZ, 25, .inl wf)), (nstarts, .inl (cI, 25, .inl sf)), (ngoals, .inl (cI, 25, .inl gf)), (nlaid, .inl (cI, 180, .inl lf)), (nisTold, .inl (cZ, 180, .inl of))] := hD
  refine lv_aload_n hx hb d_md_look_10 rfl (lv_at hl 0 rfl) ?_
  refine lv_iconst (v := (-1)) hx hb d_md_look_11 (by decide) ?_
  refine pf_md_202 hx hb hg hown hK hP hD hS 0 rfl rfl rfl (Nat.le_of_ble_eq_true rfl) d_md_look_12 (fun H locs hP hD hS => ?_)
  have hP : va_P D kls [(na, .inr (7, [.int (nI W0), .int (nI H0), .ref nwalls, .int (nI n), .ref nstarts, .ref ngoals, .ref nlaid, .ref nisTold, .int vfree, .ref ncells, .ref nindex, .ref nnear, .ref nnearCount, .ref npay, .ref ndone, .ref npile, .int vtop, .ref nnow, .ref nthen, .ref nchoice, .int vfound, .int vlength, .ref nplan, .ref ncosts, .ref npaid, .ref nafter, .ref nfar, .ref nmany, .ref nnext, .int 0, .int (-1), .int (-1), .int vtwo])), (nwalls, .inl (cZ, 25, .inl wf)), (nstarts, .inl (cI, 25, .inl sf)), (ngoals, .inl (cI, 25, .inl gf)), (nlaid, .inl (cI, 180, .inl lf)), (nisTold, .inl (cZ, 180, .inl of))] H := hP
  have hD : va_D A [(na, .inr (7, [.int (nI W0), .int (nI H0), .ref nwalls, .int (nI n), .ref nstarts, .ref ngoals, .ref nlaid, .ref nisTold, .int vfree, .ref ncells, .ref nindex, .ref nnear, .ref nnearCount, .ref npay, .ref ndone, .ref npile, .int vtop, .ref nnow, .ref nthen, .ref nchoice, .int vfound, .int vlength, .ref nplan, .ref ncosts, .ref npaid, .ref nafter, .ref nfar, .ref nmany, .ref nnext, .int 0, .int (-1), .int (-1), .int vtwo])), (nwalls, .inl (cZ, 25, .inl wf)), (nstarts, .inl (cI, 25, .inl sf)), (ngoals, .inl (cI, 25, .inl gf)), (nlaid, .inl (cI, 180, .inl lf)), (nisTold, .inl (cZ, 180, .inl of))] := hD
  refine lv_aload_n hx hb d_md_look_15 rfl (lv_at hl 0 rfl) ?_
  refine lv_iconst (v := (-1)) hx hb d_md_look_16 (by decide) ?_
  refine pf_md_205 hx hb hg hown hK hP hD hS 0 rfl rfl rfl (Nat.le_of_ble_eq_true rfl) d_md_look_17 (fun H locs hP hD hS => ?_)
  have hP : va_P D kls [(na, .inr (7, [.int (nI W0), .int (nI H0), .ref nwalls, .int (nI n), .ref nstarts, .ref ngoals, .ref nlaid, .ref nisTold, .int vfree, .ref ncells, .ref nindex, .ref nnear, .ref nnearCount, .ref npay, .ref ndone, .ref npile, .int vtop, .ref nnow, .ref nthen, .ref nchoice, .int vfound, .int vlength, .ref nplan, .ref ncosts, .ref npaid, .ref nafter, .ref nfar, .ref nmany, .ref nnext, .int 0, .int (-1), .int (-1), .int (-1)])), (nwalls, .inl (cZ, 25, .inl wf)), (nstarts, .inl (cI, 25, .inl sf)), (ngoals, .inl (cI, 25, .inl gf)), (nlaid, .inl (cI, 180, .inl lf)), (nisTold, .inl (cZ, 180, .inl of))] H := hP
  have hD : va_D A [(na, .inr (7, [.int (nI W0), .int (nI H0), .ref nwalls, .int (nI n), .ref nstarts, .ref ngoals, .ref nlaid, .ref nisTold, .int vfree, .ref ncells, .ref nindex, .ref nnear, .ref nnearCount, .ref npay, .ref ndone, .ref npile, .int vtop, .ref nnow, .ref nthen, .ref nchoice, .int vfound, .int vlength, .ref nplan, .ref ncosts, .ref npaid, .ref nafter, .ref nfar, .ref nmany, .ref nnext, .int 0, .int (-1), .int (-1), .int (-1)])), (nwalls, .inl (cZ, 25, .inl wf)), (nstarts, .inl (cI, 25, .inl sf)), (ngoals, .inl (cI, 25, .inl gf)), (nlaid, .inl (cI, 180, .inl lf)), (nisTold, .inl (cZ, 180, .inl of))] := hD
  refine lv_iconst (v := 0) hx hb d_md_look_20 (by decide) ?_
  refine lv_istore_n hx hb d_md_look_21 rfl hl (by decide) rfl (fun ls hl => ?_)
  have hl : lv_has ls 4 [(1, .int 0), (0, .ref na)] := hl
  have hl := lv_sub hl [0, 1] (l' := [(1, .int (nI 0)), (0, .ref na)]) rfl
  refine mt_loop (ι := Nat × Int32 × Int32 × Int32 × Int32) (I := fun ix ls H locs => ((ix.1) ≤ 30) ∧ ((((ix.2.1) = 0 ∧ (ix.2.2.1) = -1 ∧ (ix.2.2.2.1) = -1 ∧ (ix.2.2.2.2) = -1) ∧ ∀ u, u < (ix.1) → jd_cl n (fun t m => jw_P W0 H0 wf sf gf lf of m t) (rS of lf) (rE of lf) u) ∨ (¬ (ix.2.1) = 0 ∧ ∃ t9, t9 < 30 ∧ (∀ u, u < t9 → jd_cl n (fun t m => jw_P W0 H0 wf sf gf lf of m t) (rS of lf) (rE of lf) u) ∧ jd_T n (fun t m => jw_P W0 H0 wf sf gf lf of m t) (rS of lf) (rE of lf) t9 (ix.2.1) (ix.2.2.1) (ix.2.2.2.1) (ix.2.2.2.2))) ∧ lv_has ls 4 [(1, .int (nI (ix.1))), (0, .ref na)] ∧ va_P D kls [(na, .inr (7, [.int (nI W0), .int (nI H0), .ref nwalls, .int (nI n), .ref nstarts, .ref ngoals, .ref nlaid, .ref nisTold, .int vfree, .ref ncells, .ref nindex, .ref nnear, .ref nnearCount, .ref npay, .ref ndone, .ref npile, .int vtop, .ref nnow, .ref nthen, .ref nchoice, .int vfound, .int vlength, .ref nplan, .ref ncosts, .ref npaid, .ref nafter, .ref nfar, .ref nmany, .ref nnext, .int (ix.2.1), .int (ix.2.2.1), .int (ix.2.2.2.1), .int (ix.2.2.2.2)])), (nwalls, .inl (cZ, 25, .inl wf)), (nstarts, .inl (cI, 25, .inl sf)), (ngoals, .inl (cI, 25, .inl gf)), (nlaid, .inl (cI, 180, .inl lf)), (nisTold, .inl (cZ, 180, .inl of))] H ∧ va_D A [(na, .inr (7, [.int (nI W0), .int (nI H0), .ref nwalls, .int (nI n), .ref nstarts, .ref ngoals, .ref nlaid, .ref nisTold, .int vfree, .ref ncells, .ref nindex, .ref nnear, .ref nnearCount, .ref npay, .ref ndone, .ref npile, .int vtop, .ref nnow, .ref nthen, .ref nchoice, .int vfound, .int vlength, .ref nplan, .ref ncosts, .ref npaid, .ref nafter, .ref nfar, .ref nmany, .ref nnext, .int (ix.2.1), .int (ix.2.2.1), .int (ix.2.2.2.1), .int (ix.2.2.2.2)])), (nwalls, .inl (cZ, 25, .inl wf)), (nstarts, .inl (cI, 25, .inl sf)), (ngoals, .inl (cI, 25, .inl gf)), (nlaid, .inl (cI, 180, .inl lf)), (nisTold, .inl (cZ, 180, .inl of))] ∧ va_S A s.heap H locs) (μ := fun ix => 30 - (ix.1)) ?_ (0, 0, (-1), (-1), (-1)) ls H _ ⟨Nat.zero_le _, Or.inl ⟨⟨rfl, rfl, rfl, rfl⟩, fun u h => absurd h (Nat.not_lt_zero _)⟩, hl, hP, hD, hS⟩
  clear hl hP hD hS
  intro i_a ls H locs ⟨htt, hva, hl, hP, hD, hS⟩ ih_a
  obtain ⟨tt, va1, va2, va3, va4⟩ := i_a
  have htt : tt ≤ 30 := htt
  have hva : ((va1 = 0 ∧ va2 = -1 ∧ va3 = -1 ∧ va4 = -1) ∧ ∀ u, u < tt → jd_cl n (fun t m => jw_P W0 H0 wf sf gf lf of m t) (rS of lf) (rE of lf) u) ∨ (¬ va1 = 0 ∧ ∃ t9, t9 < 30 ∧ (∀ u, u < t9 → jd_cl n (fun t m => jw_P W0 H0 wf sf gf lf of m t) (rS of lf) (rE of lf) u) ∧ jd_T n (fun t m => jw_P W0 H0 wf sf gf lf of m t) (rS of lf) (rE of lf) t9 va1 va2 va3 va4) := hva
  have hl : lv_has ls 4 [(1, .int (nI tt)), (0, .ref na)] := hl
  have hP : va_P D kls [(na, .inr (7, [.int (nI W0), .int (nI H0), .ref nwalls, .int (nI n), .ref nstarts, .ref ngoals, .ref nlaid, .ref nisTold, .int vfree, .ref ncells, .ref nindex, .ref nnear, .ref nnearCount, .ref npay, .ref ndone, .ref npile, .int vtop, .ref nnow, .ref nthen, .ref nchoice, .int vfound, .int vlength, .ref nplan, .ref ncosts, .ref npaid, .ref nafter, .ref nfar, .ref nmany, .ref nnext, .int va1, .int va2, .int va3, .int va4])), (nwalls, .inl (cZ, 25, .inl wf)), (nstarts, .inl (cI, 25, .inl sf)), (ngoals, .inl (cI, 25, .inl gf)), (nlaid, .inl (cI, 180, .inl lf)), (nisTold, .inl (cZ, 180, .inl of))] H := hP
  have hD : va_D A [(na, .inr (7, [.int (nI W0), .int (nI H0), .ref nwalls, .int (nI n), .ref nstarts, .ref ngoals, .ref nlaid, .ref nisTold, .int vfree, .ref ncells, .ref nindex, .ref nnear, .ref nnearCount, .ref npay, .ref ndone, .ref npile, .int vtop, .ref nnow, .ref nthen, .ref nchoice, .int vfound, .int vlength, .ref nplan, .ref ncosts, .ref npaid, .ref nafter, .ref nfar, .ref nmany, .ref nnext, .int va1, .int va2, .int va3, .int va4])), (nwalls, .inl (cZ, 25, .inl wf)), (nstarts, .inl (cI, 25, .inl sf)), (ngoals, .inl (cI, 25, .inl gf)), (nlaid, .inl (cI, 180, .inl lf)), (nisTold, .inl (cZ, 180, .inl of))] := hD
  refine lv_iload_n hx hb d_md_look_22 rfl (lv_at hl 0 rfl) ?_
  refine lv_bipush (v := 30) hx hb d_md_look_23 (by decide) ?_
  refine lv_icmp_ge hx hb d_md_look_25 rfl (fun g1 => ?_) (fun g1 => ?_)
  ·
    have g2 : 30 ≤ tt := by rcases Nat.lt_or_ge tt 30 with h | h; exact absurd g1 (nI_ge (b := 30) h (by omega)); exact h
    have hP9 := hP
    have hD9 := hD
    exact W.vret hx hb hr (fun t ht hW => ⟨⟨(va1, va2, va3, va4), rfl, hva.elim (fun q => Or.inl ⟨q.1.1, q.1.2.1, q.1.2.2.1, q.1.2.2.2, fun t ht => q.2 t (by omega)⟩) (fun q => Or.inr q.2), by rw [ht]; exact hP9, hD9⟩, hS.F ht⟩) hS.2.2 d_md_look_225
  ·
    have g2 : tt < 30 := by rcases Nat.lt_or_ge tt 30 with h | h; exact h; exact absurd (nI_le (a := 30) h (by omega)) g1
    refine lv_aload_n hx hb d_md_look_28 rfl (lv_at hl 1 rfl) ?_
    refine gf_md_196 hx hb hg hown hK hP 0 rfl rfl d_md_look_29 ?_
    refine lv_if_ne hx hb d_md_look_32 rfl (fun g3 => ?_) (fun g3 => ?_)
    ·
      have hP9 := hP
      have hD9 := hD
      exact W.vret hx hb hr (fun t ht hW => ⟨⟨(va1, va2, va3, va4), rfl, hva.elim (fun q => absurd q.1.1 g3) (fun q => Or.inr q.2), by rw [ht]; exact hP9, hD9⟩, hS.F ht⟩) hS.2.2 d_md_look_225
    ·
      have hv0 := hva.resolve_right (fun q => q.1 g3)
      refine mt_jp (pc := 219) (rest := []) (ι := Int32 × Int32 × Int32 × Int32) (I := fun ix ls H locs => ((((ix.1) = 0 ∧ (ix.2.1) = -1 ∧ (ix.2.2.1) = -1 ∧ (ix.2.2.2) = -1) ∧ ∀ u, u < tt + 1 → jd_cl n (fun t m => jw_P W0 H0 wf sf gf lf of m t) (rS of lf) (rE of lf) u) ∨ (¬ (ix.1) = 0 ∧ ∃ t9, t9 < 30 ∧ (∀ u, u < t9 → jd_cl n (fun t m => jw_P W0 H0 wf sf gf lf of m t) (rS of lf) (rE of lf) u) ∧ jd_T n (fun t m => jw_P W0 H0 wf sf gf lf of m t) (rS of lf) (rE of lf) t9 (ix.1) (ix.2.1) (ix.2.2.1) (ix.2.2.2))) ∧ lv_has ls 4 [(1, .int (nI tt)), (0, .ref na)] ∧ va_P D kls [(na, .inr (7, [.int (nI W0), .int (nI H0), .ref nwalls, .int (nI n), .ref nstarts, .ref ngoals, .ref nlaid, .ref nisTold, .int vfree, .ref ncells, .ref nindex, .ref nnear, .ref nnearCount, .ref npay, .ref ndone, .ref npile, .int vtop, .ref nnow, .ref nthen, .ref nchoice, .int vfound, .int vlength, .ref nplan, .ref ncosts, .ref npaid, .ref nafter, .ref nfar, .ref nmany, .ref nnext, .int (ix.1), .int (ix.2.1), .int (ix.2.2.1), .int (ix.2.2.2)])), (nwalls, .inl (cZ, 25, .inl wf)), (nstarts, .inl (cI, 25, .inl sf)), (ngoals, .inl (cI, 25, .inl gf)), (nlaid, .inl (cI, 180, .inl lf)), (nisTold, .inl (cZ, 180, .inl of))] H ∧ va_D A [(na, .inr (7, [.int (nI W0), .int (nI H0), .ref nwalls, .int (nI n), .ref nstarts, .ref ngoals, .ref nlaid, .ref nisTold, .int vfree, .ref ncells, .ref nindex, .ref nnear, .ref nnearCount, .ref npay, .ref ndone, .ref npile, .int vtop, .ref nnow, .ref nthen, .ref nchoice, .int vfound, .int vlength, .ref nplan, .ref ncosts, .ref npaid, .ref nafter, .ref nfar, .ref nmany, .ref nnext, .int (ix.1), .int (ix.2.1), .int (ix.2.2.1), .int (ix.2.2.2)])), (nwalls, .inl (cZ, 25, .inl wf)), (nstarts, .inl (cI, 25, .inl sf)), (ngoals, .inl (cI, 25, .inl gf)), (nlaid, .inl (cI, 180, .inl lf)), (nisTold, .inl (cZ, 180, .inl of))] ∧ va_S A s.heap H locs) ?_ (fun jp_k => ?_)
      ·
        clear hl hP hD hS
        intro i_k ls H locs ⟨huj, hl, hP, hD, hS⟩
        obtain ⟨u1, u2, u3, u4⟩ := i_k
        have huj : ((u1 = 0 ∧ u2 = -1 ∧ u3 = -1 ∧ u4 = -1) ∧ ∀ u, u < tt + 1 → jd_cl n (fun t m => jw_P W0 H0 wf sf gf lf of m t) (rS of lf) (rE of lf) u) ∨ (¬ u1 = 0 ∧ ∃ t9, t9 < 30 ∧ (∀ u, u < t9 → jd_cl n (fun t m => jw_P W0 H0 wf sf gf lf of m t) (rS of lf) (rE of lf) u) ∧ jd_T n (fun t m => jw_P W0 H0 wf sf gf lf of m t) (rS of lf) (rE of lf) t9 u1 u2 u3 u4) := huj
        have hl : lv_has ls 4 [(1, .int (nI tt)), (0, .ref na)] := hl
        have hP : va_P D kls [(na, .inr (7, [.int (nI W0), .int (nI H0), .ref nwalls, .int (nI n), .ref nstarts, .ref ngoals, .ref nlaid, .ref nisTold, .int vfree, .ref ncells, .ref nindex, .ref nnear, .ref nnearCount, .ref npay, .ref ndone, .ref npile, .int vtop, .ref nnow, .ref nthen, .ref nchoice, .int vfound, .int vlength, .ref nplan, .ref ncosts, .ref npaid, .ref nafter, .ref nfar, .ref nmany, .ref nnext, .int u1, .int u2, .int u3, .int u4])), (nwalls, .inl (cZ, 25, .inl wf)), (nstarts, .inl (cI, 25, .inl sf)), (ngoals, .inl (cI, 25, .inl gf)), (nlaid, .inl (cI, 180, .inl lf)), (nisTold, .inl (cZ, 180, .inl of))] H := hP
        have hD : va_D A [(na, .inr (7, [.int (nI W0), .int (nI H0), .ref nwalls, .int (nI n), .ref nstarts, .ref ngoals, .ref nlaid, .ref nisTold, .int vfree, .ref ncells, .ref nindex, .ref nnear, .ref nnearCount, .ref npay, .ref ndone, .ref npile, .int vtop, .ref nnow, .ref nthen, .ref nchoice, .int vfound, .int vlength, .ref nplan, .ref ncosts, .ref npaid, .ref nafter, .ref nfar, .ref nmany, .ref nnext, .int u1, .int u2, .int u3, .int u4])), (nwalls, .inl (cZ, 25, .inl wf)), (nstarts, .inl (cI, 25, .inl sf)), (ngoals, .inl (cI, 25, .inl gf)), (nlaid, .inl (cI, 180, .inl lf)), (nisTold, .inl (cZ, 180, .inl of))] := hD
        refine lv_iinc (k := 0) (v := nI (tt + 1)) hx hb d_md_look_219 hl rfl ((nI_succ tt).symm) (by decide) rfl (fun ls hl => ?_)
        have hl : lv_has ls 4 [(1, .int (nI (tt + 1))), (0, .ref na)] := hl
        refine lv_goto hx hb d_md_look_222 rfl ?_
        have hl := lv_sub hl [0, 1] (l' := [(1, .int (nI (tt + 1))), (0, .ref na)]) rfl
        exact ih_a (tt + 1, u1, u2, u3, u4) ls H _ (by show 30 - (tt + 1) < 30 - tt; omega) ⟨by show tt + 1 ≤ 30; omega, huj, hl, hP, hD, hS⟩
      ·
        refine mt_jp (pc := 132) (rest := []) (ι := Int32 × Int32 × Int32 × Int32) (I := fun ix ls H locs => ((((ix.1) = 0 ∧ (ix.2.1) = -1 ∧ (ix.2.2.1) = -1 ∧ (ix.2.2.2) = -1) ∧ ((∀ m, m < n → ¬ jw_P W0 H0 wf sf gf lf of m tt) ∧ jd_no n (rS of lf tt)) ∧ jq_P n (rE of lf tt) 0 (0 + 1)) ∨ (¬ (ix.1) = 0 ∧ jd_T n (fun t m => jw_P W0 H0 wf sf gf lf of m t) (rS of lf) (rE of lf) tt (ix.1) (ix.2.1) (ix.2.2.1) (ix.2.2.2))) ∧ lv_has ls 4 [(1, .int (nI tt)), (0, .ref na)] ∧ va_P D kls [(na, .inr (7, [.int (nI W0), .int (nI H0), .ref nwalls, .int (nI n), .ref nstarts, .ref ngoals, .ref nlaid, .ref nisTold, .int vfree, .ref ncells, .ref nindex, .ref nnear, .ref nnearCount, .ref npay, .ref ndone, .ref npile, .int vtop, .ref nnow, .ref nthen, .ref nchoice, .int vfound, .int vlength, .ref nplan, .ref ncosts, .ref npaid, .ref nafter, .ref nfar, .ref nmany, .ref nnext, .int (ix.1), .int (ix.2.1), .int (ix.2.2.1), .int (ix.2.2.2)])), (nwalls, .inl (cZ, 25, .inl wf)), (nstarts, .inl (cI, 25, .inl sf)), (ngoals, .inl (cI, 25, .inl gf)), (nlaid, .inl (cI, 180, .inl lf)), (nisTold, .inl (cZ, 180, .inl of))] H ∧ va_D A [(na, .inr (7, [.int (nI W0), .int (nI H0), .ref nwalls, .int (nI n), .ref nstarts, .ref ngoals, .ref nlaid, .ref nisTold, .int vfree, .ref ncells, .ref nindex, .ref nnear, .ref nnearCount, .ref npay, .ref ndone, .ref npile, .int vtop, .ref nnow, .ref nthen, .ref nchoice, .int vfound, .int vlength, .ref nplan, .ref ncosts, .ref npaid, .ref nafter, .ref nfar, .ref nmany, .ref nnext, .int (ix.1), .int (ix.2.1), .int (ix.2.2.1), .int (ix.2.2.2)])), (nwalls, .inl (cZ, 25, .inl wf)), (nstarts, .inl (cI, 25, .inl sf)), (ngoals, .inl (cI, 25, .inl gf)), (nlaid, .inl (cI, 180, .inl lf)), (nisTold, .inl (cZ, 180, .inl of))] ∧ va_S A s.heap H locs) ?_ (fun jp_j => ?_)
        ·
          clear hl hP hD hS
          intro i_j ls H locs ⟨hwj, hl, hP, hD, hS⟩
          obtain ⟨w1, w2, w3, w4⟩ := i_j
          have hwj : ((w1 = 0 ∧ w2 = -1 ∧ w3 = -1 ∧ w4 = -1) ∧ ((∀ m, m < n → ¬ jw_P W0 H0 wf sf gf lf of m tt) ∧ jd_no n (rS of lf tt)) ∧ jq_P n (rE of lf tt) 0 (0 + 1)) ∨ (¬ w1 = 0 ∧ jd_T n (fun t m => jw_P W0 H0 wf sf gf lf of m t) (rS of lf) (rE of lf) tt w1 w2 w3 w4) := hwj
          have hl : lv_has ls 4 [(1, .int (nI tt)), (0, .ref na)] := hl
          have hP : va_P D kls [(na, .inr (7, [.int (nI W0), .int (nI H0), .ref nwalls, .int (nI n), .ref nstarts, .ref ngoals, .ref nlaid, .ref nisTold, .int vfree, .ref ncells, .ref nindex, .ref nnear, .ref nnearCount, .ref npay, .ref ndone, .ref npile, .int vtop, .ref nnow, .ref nthen, .ref nchoice, .int vfound, .int vlength, .ref nplan, .ref ncosts, .ref npaid, .ref nafter, .ref nfar, .ref nmany, .ref nnext, .int w1, .int w2, .int w3, .int w4])), (nwalls, .inl (cZ, 25, .inl wf)), (nstarts, .inl (cI, 25, .inl sf)), (ngoals, .inl (cI, 25, .inl gf)), (nlaid, .inl (cI, 180, .inl lf)), (nisTold, .inl (cZ, 180, .inl of))] H := hP
          have hD : va_D A [(na, .inr (7, [.int (nI W0), .int (nI H0), .ref nwalls, .int (nI n), .ref nstarts, .ref ngoals, .ref nlaid, .ref nisTold, .int vfree, .ref ncells, .ref nindex, .ref nnear, .ref nnearCount, .ref npay, .ref ndone, .ref npile, .int vtop, .ref nnow, .ref nthen, .ref nchoice, .int vfound, .int vlength, .ref nplan, .ref ncosts, .ref npaid, .ref nafter, .ref nfar, .ref nmany, .ref nnext, .int w1, .int w2, .int w3, .int w4])), (nwalls, .inl (cZ, 25, .inl wf)), (nstarts, .inl (cI, 25, .inl sf)), (ngoals, .inl (cI, 25, .inl gf)), (nlaid, .inl (cI, 180, .inl lf)), (nisTold, .inl (cZ, 180, .inl of))] := hD
          refine lv_iconst (v := 0) hx hb d_md_look_132 (by decide) ?_
          refine lv_istore_n hx hb d_md_look_133 rfl hl (by decide) rfl (fun ls hl => ?_)
          have hl : lv_has ls 4 [(2, .int 0), (1, .int (nI tt)), (0, .ref na)] := hl
          have hl := lv_sub hl [0, 1, 2] (l' := [(2, .int (nI 0)), (1, .int (nI tt)), (0, .ref na)]) rfl
          refine mt_loop (ι := Nat × Int32 × Int32 × Int32 × Int32) (I := fun ix ls H locs => ((ix.1) ≤ n) ∧ ((((ix.2.1) = 0 ∧ (ix.2.2.1) = -1 ∧ (ix.2.2.2.1) = -1 ∧ (ix.2.2.2.2) = -1) ∧ ((∀ m, m < n → ¬ jw_P W0 H0 wf sf gf lf of m tt) ∧ jd_no n (rS of lf tt)) ∧ jq_P n (rE of lf tt) (ix.1) ((ix.1) + 1)) ∨ (¬ (ix.2.1) = 0 ∧ jd_T n (fun t m => jw_P W0 H0 wf sf gf lf of m t) (rS of lf) (rE of lf) tt (ix.2.1) (ix.2.2.1) (ix.2.2.2.1) (ix.2.2.2.2))) ∧ lv_has ls 4 [(2, .int (nI (ix.1))), (1, .int (nI tt)), (0, .ref na)] ∧ va_P D kls [(na, .inr (7, [.int (nI W0), .int (nI H0), .ref nwalls, .int (nI n), .ref nstarts, .ref ngoals, .ref nlaid, .ref nisTold, .int vfree, .ref ncells, .ref nindex, .ref nnear, .ref nnearCount, .ref npay, .ref ndone, .ref npile, .int vtop, .ref nnow, .ref nthen, .ref nchoice, .int vfound, .int vlength, .ref nplan, .ref ncosts, .ref npaid, .ref nafter, .ref nfar, .ref nmany, .ref nnext, .int (ix.2.1), .int (ix.2.2.1), .int (ix.2.2.2.1), .int (ix.2.2.2.2)])), (nwalls, .inl (cZ, 25, .inl wf)), (nstarts, .inl (cI, 25, .inl sf)), (ngoals, .inl (cI, 25, .inl gf)), (nlaid, .inl (cI, 180, .inl lf)), (nisTold, .inl (cZ, 180, .inl of))] H ∧ va_D A [(na, .inr (7, [.int (nI W0), .int (nI H0), .ref nwalls, .int (nI n), .ref nstarts, .ref ngoals, .ref nlaid, .ref nisTold, .int vfree, .ref ncells, .ref nindex, .ref nnear, .ref nnearCount, .ref npay, .ref ndone, .ref npile, .int vtop, .ref nnow, .ref nthen, .ref nchoice, .int vfound, .int vlength, .ref nplan, .ref ncosts, .ref npaid, .ref nafter, .ref nfar, .ref nmany, .ref nnext, .int (ix.2.1), .int (ix.2.2.1), .int (ix.2.2.2.1), .int (ix.2.2.2.2)])), (nwalls, .inl (cZ, 25, .inl wf)), (nstarts, .inl (cI, 25, .inl sf)), (ngoals, .inl (cI, 25, .inl gf)), (nlaid, .inl (cI, 180, .inl lf)), (nisTold, .inl (cZ, 180, .inl of))] ∧ va_S A s.heap H locs) (μ := fun ix => n - (ix.1)) ?_ (0, w1, w2, w3, w4) ls H _ ⟨Nat.zero_le _, hwj, hl, hP, hD, hS⟩
          clear hl hP hD hS
          intro i_e ls H locs ⟨hmc, hve, hl, hP, hD, hS⟩ ih_e
          obtain ⟨mc, ve1, ve2, ve3, ve4⟩ := i_e
          have hmc : mc ≤ n := hmc
          have hve : ((ve1 = 0 ∧ ve2 = -1 ∧ ve3 = -1 ∧ ve4 = -1) ∧ ((∀ m, m < n → ¬ jw_P W0 H0 wf sf gf lf of m tt) ∧ jd_no n (rS of lf tt)) ∧ jq_P n (rE of lf tt) mc (mc + 1)) ∨ (¬ ve1 = 0 ∧ jd_T n (fun t m => jw_P W0 H0 wf sf gf lf of m t) (rS of lf) (rE of lf) tt ve1 ve2 ve3 ve4) := hve
          have hl : lv_has ls 4 [(2, .int (nI mc)), (1, .int (nI tt)), (0, .ref na)] := hl
          have hP : va_P D kls [(na, .inr (7, [.int (nI W0), .int (nI H0), .ref nwalls, .int (nI n), .ref nstarts, .ref ngoals, .ref nlaid, .ref nisTold, .int vfree, .ref ncells, .ref nindex, .ref nnear, .ref nnearCount, .ref npay, .ref ndone, .ref npile, .int vtop, .ref nnow, .ref nthen, .ref nchoice, .int vfound, .int vlength, .ref nplan, .ref ncosts, .ref npaid, .ref nafter, .ref nfar, .ref nmany, .ref nnext, .int ve1, .int ve2, .int ve3, .int ve4])), (nwalls, .inl (cZ, 25, .inl wf)), (nstarts, .inl (cI, 25, .inl sf)), (ngoals, .inl (cI, 25, .inl gf)), (nlaid, .inl (cI, 180, .inl lf)), (nisTold, .inl (cZ, 180, .inl of))] H := hP
          have hD : va_D A [(na, .inr (7, [.int (nI W0), .int (nI H0), .ref nwalls, .int (nI n), .ref nstarts, .ref ngoals, .ref nlaid, .ref nisTold, .int vfree, .ref ncells, .ref nindex, .ref nnear, .ref nnearCount, .ref npay, .ref ndone, .ref npile, .int vtop, .ref nnow, .ref nthen, .ref nchoice, .int vfound, .int vlength, .ref nplan, .ref ncosts, .ref npaid, .ref nafter, .ref nfar, .ref nmany, .ref nnext, .int ve1, .int ve2, .int ve3, .int ve4])), (nwalls, .inl (cZ, 25, .inl wf)), (nstarts, .inl (cI, 25, .inl sf)), (ngoals, .inl (cI, 25, .inl gf)), (nlaid, .inl (cI, 180, .inl lf)), (nisTold, .inl (cZ, 180, .inl of))] := hD
          refine lv_iload_n hx hb d_md_look_134 rfl (lv_at hl 0 rfl) ?_
          refine lv_aload_n hx hb d_md_look_135 rfl (lv_at hl 2 rfl) ?_
          refine gf_md_86 hx hb hg hown hK hP 0 rfl rfl d_md_look_136 ?_
          refine lv_icmp_ge hx hb d_md_look_139 rfl (fun ge => ?_) (fun ge => ?_)
          ·
            have gea : n ≤ mc := by rcases Nat.lt_or_ge mc n with h | h; exact absurd ge (nI_ge (b := n) h (by omega)); exact h
            have hl := lv_sub hl [1, 2] (l' := [(1, .int (nI tt)), (0, .ref na)]) rfl
            exact jp_k (ve1, ve2, ve3, ve4) ls H _ ⟨hve.elim (fun q => Or.inl ⟨q.1, jd_n hv0.2 ⟨q.2.1.1, q.2.1.2, fun _ => jq_n q.2.2 gea⟩⟩) (fun q => Or.inr ⟨q.1, tt, g2, hv0.2, q.2⟩), hl, hP, hD, hS⟩
          ·
            have gfx : mc < n := by rcases Nat.lt_or_ge mc n with h | h; exact h; exact absurd (nI_le (a := n) h (by omega)) ge
            refine lv_aload_n hx hb d_md_look_142 rfl (lv_at hl 2 rfl) ?_
            refine gf_md_196 hx hb hg hown hK hP 0 rfl rfl d_md_look_143 ?_
            refine lv_if_ne hx hb d_md_look_146 rfl (fun gg9 => ?_) (fun gg9 => ?_)
            ·
              have hl := lv_sub hl [1, 2] (l' := [(1, .int (nI tt)), (0, .ref na)]) rfl
              exact jp_k (ve1, ve2, ve3, ve4) ls H _ ⟨hve.elim (fun q => absurd q.1.1 gg9) (fun q => Or.inr ⟨q.1, tt, g2, hv0.2, q.2⟩), hl, hP, hD, hS⟩
            ·
              refine lv_iload_n hx hb d_md_look_149 rfl (lv_at hl 1 rfl) ?_
              refine lv_if_le hx hb d_md_look_150 rfl (fun gp => ?_) (fun gp => ?_)
              ·
                have gp0 : ¬ 0 < tt := fun h => absurd gp (nI_ge (a := 0) h (by omega))
                have hl := lv_sub hl [1, 2] (l' := [(1, .int (nI tt)), (0, .ref na)]) rfl
                exact jp_k (ve1, ve2, ve3, ve4) ls H _ ⟨hve.elim (fun q => Or.inl ⟨q.1, jd_n hv0.2 ⟨q.2.1.1, q.2.1.2, fun z => absurd z gp0⟩⟩) (fun q => Or.inr ⟨q.1, tt, g2, hv0.2, q.2⟩), hl, hP, hD, hS⟩
              ·
                have ht0 : 0 < tt := Nat.pos_of_ne_zero (fun h => gp (by rw [h]; decide))
                obtain ⟨t1, ht1⟩ : ∃ t1, tt - 1 = t1 := ⟨_, rfl⟩
                refine lv_iload_n hx hb d_md_look_153 rfl (lv_at hl 0 rfl) ?_
                refine lv_iconst (v := 1) hx hb d_md_look_154 (by decide) ?_
                refine lv_iadd hx hb d_md_look_155 ?_
                refine lv_topi (fun y1 ey1 => ?_)
                have ey1 : y1 = nI (mc + 1) := ey1.trans (nI_1 _)
                subst ey1
                refine lv_istore_n hx hb d_md_look_156 rfl hl (by decide) rfl (fun ls hl => ?_)
                have hl : lv_has ls 4 [(3, .int (nI (mc + 1))), (2, .int (nI mc)), (1, .int (nI tt)), (0, .ref na)] := hl
                have hl := lv_sub hl [0, 1, 2, 3] (l' := [(3, .int (nI (mc + 1))), (2, .int (nI mc)), (1, .int (nI tt)), (0, .ref na)]) rfl
                refine mt_loop (ι := Nat × Int32 × Int32 × Int32 × Int32) (I := fun ix ls H locs => ((ix.1) ≤ n) ∧ (mc < (ix.1)) ∧ ((((ix.2.1) = 0 ∧ (ix.2.2.1) = -1 ∧ (ix.2.2.2.1) = -1 ∧ (ix.2.2.2.2) = -1) ∧ ((∀ m, m < n → ¬ jw_P W0 H0 wf sf gf lf of m tt) ∧ jd_no n (rS of lf tt)) ∧ jq_P n (rE of lf tt) mc (ix.1)) ∨ (¬ (ix.2.1) = 0 ∧ jd_T n (fun t m => jw_P W0 H0 wf sf gf lf of m t) (rS of lf) (rE of lf) tt (ix.2.1) (ix.2.2.1) (ix.2.2.2.1) (ix.2.2.2.2))) ∧ lv_has ls 4 [(3, .int (nI (ix.1))), (2, .int (nI mc)), (1, .int (nI tt)), (0, .ref na)] ∧ va_P D kls [(na, .inr (7, [.int (nI W0), .int (nI H0), .ref nwalls, .int (nI n), .ref nstarts, .ref ngoals, .ref nlaid, .ref nisTold, .int vfree, .ref ncells, .ref nindex, .ref nnear, .ref nnearCount, .ref npay, .ref ndone, .ref npile, .int vtop, .ref nnow, .ref nthen, .ref nchoice, .int vfound, .int vlength, .ref nplan, .ref ncosts, .ref npaid, .ref nafter, .ref nfar, .ref nmany, .ref nnext, .int (ix.2.1), .int (ix.2.2.1), .int (ix.2.2.2.1), .int (ix.2.2.2.2)])), (nwalls, .inl (cZ, 25, .inl wf)), (nstarts, .inl (cI, 25, .inl sf)), (ngoals, .inl (cI, 25, .inl gf)), (nlaid, .inl (cI, 180, .inl lf)), (nisTold, .inl (cZ, 180, .inl of))] H ∧ va_D A [(na, .inr (7, [.int (nI W0), .int (nI H0), .ref nwalls, .int (nI n), .ref nstarts, .ref ngoals, .ref nlaid, .ref nisTold, .int vfree, .ref ncells, .ref nindex, .ref nnear, .ref nnearCount, .ref npay, .ref ndone, .ref npile, .int vtop, .ref nnow, .ref nthen, .ref nchoice, .int vfound, .int vlength, .ref nplan, .ref ncosts, .ref npaid, .ref nafter, .ref nfar, .ref nmany, .ref nnext, .int (ix.2.1), .int (ix.2.2.1), .int (ix.2.2.2.1), .int (ix.2.2.2.2)])), (nwalls, .inl (cZ, 25, .inl wf)), (nstarts, .inl (cI, 25, .inl sf)), (ngoals, .inl (cI, 25, .inl gf)), (nlaid, .inl (cI, 180, .inl lf)), (nisTold, .inl (cZ, 180, .inl of))] ∧ va_S A s.heap H locs) (μ := fun ix => n - (ix.1)) ?_ (mc + 1, ve1, ve2, ve3, ve4) ls H _ ⟨by show mc + 1 ≤ n; omega, Nat.lt_succ_self mc, hve, hl, hP, hD, hS⟩
                clear hl hP hD hS
                intro i_f ls H locs ⟨hkc, hmk, hvf, hl, hP, hD, hS⟩ ih_f
                obtain ⟨kc, vf1, vf2, vf3, vf4⟩ := i_f
                have hkc : kc ≤ n := hkc
                have hmk : mc < kc := hmk
                have hvf : ((vf1 = 0 ∧ vf2 = -1 ∧ vf3 = -1 ∧ vf4 = -1) ∧ ((∀ m, m < n → ¬ jw_P W0 H0 wf sf gf lf of m tt) ∧ jd_no n (rS of lf tt)) ∧ jq_P n (rE of lf tt) mc kc) ∨ (¬ vf1 = 0 ∧ jd_T n (fun t m => jw_P W0 H0 wf sf gf lf of m t) (rS of lf) (rE of lf) tt vf1 vf2 vf3 vf4) := hvf
                have hl : lv_has ls 4 [(3, .int (nI kc)), (2, .int (nI mc)), (1, .int (nI tt)), (0, .ref na)] := hl
                have hP : va_P D kls [(na, .inr (7, [.int (nI W0), .int (nI H0), .ref nwalls, .int (nI n), .ref nstarts, .ref ngoals, .ref nlaid, .ref nisTold, .int vfree, .ref ncells, .ref nindex, .ref nnear, .ref nnearCount, .ref npay, .ref ndone, .ref npile, .int vtop, .ref nnow, .ref nthen, .ref nchoice, .int vfound, .int vlength, .ref nplan, .ref ncosts, .ref npaid, .ref nafter, .ref nfar, .ref nmany, .ref nnext, .int vf1, .int vf2, .int vf3, .int vf4])), (nwalls, .inl (cZ, 25, .inl wf)), (nstarts, .inl (cI, 25, .inl sf)), (ngoals, .inl (cI, 25, .inl gf)), (nlaid, .inl (cI, 180, .inl lf)), (nisTold, .inl (cZ, 180, .inl of))] H := hP
                have hD : va_D A [(na, .inr (7, [.int (nI W0), .int (nI H0), .ref nwalls, .int (nI n), .ref nstarts, .ref ngoals, .ref nlaid, .ref nisTold, .int vfree, .ref ncells, .ref nindex, .ref nnear, .ref nnearCount, .ref npay, .ref ndone, .ref npile, .int vtop, .ref nnow, .ref nthen, .ref nchoice, .int vfound, .int vlength, .ref nplan, .ref ncosts, .ref npaid, .ref nafter, .ref nfar, .ref nmany, .ref nnext, .int vf1, .int vf2, .int vf3, .int vf4])), (nwalls, .inl (cZ, 25, .inl wf)), (nstarts, .inl (cI, 25, .inl sf)), (ngoals, .inl (cI, 25, .inl gf)), (nlaid, .inl (cI, 180, .inl lf)), (nisTold, .inl (cZ, 180, .inl of))] := hD
                refine lv_iload_n hx hb d_md_look_157 rfl (lv_at hl 0 rfl) ?_
                refine lv_aload_n hx hb d_md_look_158 rfl (lv_at hl 3 rfl) ?_
                refine gf_md_86 hx hb hg hown hK hP 0 rfl rfl d_md_look_159 ?_
                refine lv_icmp_ge hx hb d_md_look_162 rfl (fun gh => ?_) (fun gh => ?_)
                ·
                  have giz : n ≤ kc := by rcases Nat.lt_or_ge kc n with h | h; exact absurd gh (nI_ge (b := n) h (by omega)); exact h
                  refine lv_iinc (k := 1) (v := nI (mc + 1)) hx hb d_md_look_213 hl rfl ((nI_succ mc).symm) (by decide) rfl (fun ls hl => ?_)
                  have hl : lv_has ls 4 [(2, .int (nI (mc + 1))), (3, .int (nI kc)), (1, .int (nI tt)), (0, .ref na)] := hl
                  refine lv_goto hx hb d_md_look_216 rfl ?_
                  have hl := lv_sub hl [0, 2, 3] (l' := [(2, .int (nI (mc + 1))), (1, .int (nI tt)), (0, .ref na)]) rfl
                  exact ih_e (mc + 1, vf1, vf2, vf3, vf4) ls H _ (by show n - (mc + 1) < n - mc; omega) ⟨by show mc + 1 ≤ n; omega, jg_a hvf giz, hl, hP, hD, hS⟩
                ·
                  have gix : kc < n := by rcases Nat.lt_or_ge kc n with h | h; exact h; exact absurd (nI_le (a := n) h (by omega)) gh
                  refine lv_aload_n hx hb d_md_look_165 rfl (lv_at hl 3 rfl) ?_
                  refine lv_iload_n hx hb d_md_look_166 rfl (lv_at hl 1 rfl) ?_
                  refine lv_iload_n hx hb d_md_look_167 rfl (lv_at hl 2 rfl) ?_
                  have hPc := hP.sub (ws' := [(na, .inr (7, [.int (nI W0), .int (nI H0), .ref nwalls, .int (nI n), .ref nstarts, .ref ngoals, .ref nlaid, .ref nisTold, .int vfree, .ref ncells, .ref nindex, .ref nnear, .ref nnearCount, .ref npay, .ref ndone, .ref npile, .int vtop, .ref nnow, .ref nthen, .ref nchoice, .int vfound, .int vlength, .ref nplan, .ref ncosts, .ref npaid, .ref nafter, .ref nfar, .ref nmany, .ref nnext, .int vf1, .int vf2, .int vf3, .int vf4])), (nlaid, .inl (cI, 180, .inl lf)), (nisTold, .inl (cZ, 180, .inl of))]) [0, 4, 5] rfl
                  have hDc := hD.sub (ws' := [(na, .inr (7, [.int (nI W0), .int (nI H0), .ref nwalls, .int (nI n), .ref nstarts, .ref ngoals, .ref nlaid, .ref nisTold, .int vfree, .ref ncells, .ref nindex, .ref nnear, .ref nnearCount, .ref npay, .ref ndone, .ref npile, .int vtop, .ref nnow, .ref nthen, .ref nchoice, .int vfound, .int vlength, .ref nplan, .ref ncosts, .ref npaid, .ref nafter, .ref nfar, .ref nmany, .ref nnext, .int vf1, .int vf2, .int vf3, .int vf4])), (nlaid, .inl (cI, 180, .inl lf)), (nisTold, .inl (cZ, 180, .inl of))]) [0, 4, 5] (by decide) rfl
                  refine vp_callSi (W.runV (As := [.int (nI mc), .int (nI tt)]) (rest := []) ⟨hx, hb, hml, hown, hg⟩ (c_md_place l D cZ cI cJ cII na nwalls nstarts ngoals nlaid nisTold ncells nindex nnear nnearCount npay ndone npile nnow nthen nchoice nplan ncosts npaid nafter nfar nmany nnext vfree vtop vfound vlength vf1 vf2 vf3 vf4 _ _ _ lf of mc tt H.size (by omega) (by omega)) (cwV 2 hg gv_md_193 rfl rfl rfl (by decide +kernel) ⟨Nat.le_of_ble_eq_true rfl, Nat.le_of_ble_eq_true rfl⟩) ⟨mt_bl, va_recv (q0 := 0) (ci := 7) hK hP rfl rfl, mt_pr hX hPc hK hDc⟩ rfl rfl hl.1 rfl (lv_room (Nat.le_of_ble_eq_true rfl)) d_md_look_168 ⟨Nat.le_of_ble_eq_true rfl, Nat.le_of_ble_eq_true rfl⟩) (fun r2 hr2 => ?_)
                  have hr2 : r2 = rp_ of lf mc tt := hr2
                  have hr2 : r2 = rp_ of lf mc tt := hr2
                  subst hr2
                  refine lv_aload_n hx hb d_md_look_171 rfl (lv_at hl 3 rfl) ?_
                  refine lv_iload_n hx hb d_md_look_172 rfl (lv_at hl 0 rfl) ?_
                  refine lv_iload_n hx hb d_md_look_173 rfl (lv_at hl 2 rfl) ?_
                  refine lv_iconst (v := 1) hx hb d_md_look_174 (by decide) ?_
                  refine lv_isub hx hb d_md_look_175 ?_
                  refine lv_topi (fun y3 ey3 => ?_)
                  have ey3 : y3 = nI (tt - 1) := ey3.trans (by rw [show nI tt = nI (tt - 1 + 1) by congr 1; omega]; exact nI_pred (tt - 1))
                  subst ey3
                  have hPc := hP.sub (ws' := [(na, .inr (7, [.int (nI W0), .int (nI H0), .ref nwalls, .int (nI n), .ref nstarts, .ref ngoals, .ref nlaid, .ref nisTold, .int vfree, .ref ncells, .ref nindex, .ref nnear, .ref nnearCount, .ref npay, .ref ndone, .ref npile, .int vtop, .ref nnow, .ref nthen, .ref nchoice, .int vfound, .int vlength, .ref nplan, .ref ncosts, .ref npaid, .ref nafter, .ref nfar, .ref nmany, .ref nnext, .int vf1, .int vf2, .int vf3, .int vf4])), (nlaid, .inl (cI, 180, .inl lf)), (nisTold, .inl (cZ, 180, .inl of))]) [0, 4, 5] rfl
                  have hDc := hD.sub (ws' := [(na, .inr (7, [.int (nI W0), .int (nI H0), .ref nwalls, .int (nI n), .ref nstarts, .ref ngoals, .ref nlaid, .ref nisTold, .int vfree, .ref ncells, .ref nindex, .ref nnear, .ref nnearCount, .ref npay, .ref ndone, .ref npile, .int vtop, .ref nnow, .ref nthen, .ref nchoice, .int vfound, .int vlength, .ref nplan, .ref ncosts, .ref npaid, .ref nafter, .ref nfar, .ref nmany, .ref nnext, .int vf1, .int vf2, .int vf3, .int vf4])), (nlaid, .inl (cI, 180, .inl lf)), (nisTold, .inl (cZ, 180, .inl of))]) [0, 4, 5] (by decide) rfl
                  refine vp_callSi (W.runV (As := [.int (nI kc), .int (nI (tt - 1))]) (rest := [.int (rp_ of lf mc tt)]) ⟨hx, hb, hml, hown, hg⟩ (c_md_place l D cZ cI cJ cII na nwalls nstarts ngoals nlaid nisTold ncells nindex nnear nnearCount npay ndone npile nnow nthen nchoice nplan ncosts npaid nafter nfar nmany nnext vfree vtop vfound vlength vf1 vf2 vf3 vf4 _ _ _ lf of kc (tt - 1) H.size (by omega) (by omega)) (cwV 2 hg gv_md_193 rfl rfl rfl (by decide +kernel) ⟨Nat.le_of_ble_eq_true rfl, Nat.le_of_ble_eq_true rfl⟩) ⟨mt_bl, va_recv (q0 := 0) (ci := 7) hK hP rfl rfl, mt_pr hX hPc hK hDc⟩ rfl rfl hl.1 rfl (lv_room (Nat.le_of_ble_eq_true rfl)) d_md_look_176 ⟨Nat.le_of_ble_eq_true rfl, Nat.le_of_ble_eq_true rfl⟩) (fun r4 hr4 => ?_)
                  have hr4 : r4 = rp_ of lf kc (tt - 1) := hr4
                  have hr4 : r4 = rp_ of lf kc (tt - 1) := hr4
                  subst hr4
                  refine lv_icmp_ne hx hb d_md_look_179 rfl (fun gj => ?_) (fun gj => ?_)
                  ·
                    refine lv_iinc (k := 0) (v := nI (kc + 1)) hx hb d_md_look_207 hl rfl ((nI_succ kc).symm) (by decide) rfl (fun ls hl => ?_)
                    have hl : lv_has ls 4 [(3, .int (nI (kc + 1))), (2, .int (nI mc)), (1, .int (nI tt)), (0, .ref na)] := hl
                    refine lv_goto hx hb d_md_look_210 rfl ?_
                    have hl := lv_sub hl [0, 1, 2, 3] (l' := [(3, .int (nI (kc + 1))), (2, .int (nI mc)), (1, .int (nI tt)), (0, .ref na)]) rfl
                    exact ih_f (kc + 1, vf1, vf2, vf3, vf4) ls H _ (by show n - (kc + 1) < n - kc; omega) ⟨by show kc + 1 ≤ n; omega, by show mc < kc + 1; omega, jg_s hvf (fun q => gj q.1), hl, hP, hD, hS⟩
                  ·
                    refine lv_aload_n hx hb d_md_look_182 rfl (lv_at hl 3 rfl) ?_
                    refine lv_iload_n hx hb d_md_look_183 rfl (lv_at hl 0 rfl) ?_
                    refine lv_iload_n hx hb d_md_look_184 rfl (lv_at hl 2 rfl) ?_
                    have hPc := hP.sub (ws' := [(na, .inr (7, [.int (nI W0), .int (nI H0), .ref nwalls, .int (nI n), .ref nstarts, .ref ngoals, .ref nlaid, .ref nisTold, .int vfree, .ref ncells, .ref nindex, .ref nnear, .ref nnearCount, .ref npay, .ref ndone, .ref npile, .int vtop, .ref nnow, .ref nthen, .ref nchoice, .int vfound, .int vlength, .ref nplan, .ref ncosts, .ref npaid, .ref nafter, .ref nfar, .ref nmany, .ref nnext, .int vf1, .int vf2, .int vf3, .int vf4])), (nlaid, .inl (cI, 180, .inl lf)), (nisTold, .inl (cZ, 180, .inl of))]) [0, 4, 5] rfl
                    have hDc := hD.sub (ws' := [(na, .inr (7, [.int (nI W0), .int (nI H0), .ref nwalls, .int (nI n), .ref nstarts, .ref ngoals, .ref nlaid, .ref nisTold, .int vfree, .ref ncells, .ref nindex, .ref nnear, .ref nnearCount, .ref npay, .ref ndone, .ref npile, .int vtop, .ref nnow, .ref nthen, .ref nchoice, .int vfound, .int vlength, .ref nplan, .ref ncosts, .ref npaid, .ref nafter, .ref nfar, .ref nmany, .ref nnext, .int vf1, .int vf2, .int vf3, .int vf4])), (nlaid, .inl (cI, 180, .inl lf)), (nisTold, .inl (cZ, 180, .inl of))]) [0, 4, 5] (by decide) rfl
                    refine vp_callSi (W.runV (As := [.int (nI kc), .int (nI tt)]) (rest := []) ⟨hx, hb, hml, hown, hg⟩ (c_md_place l D cZ cI cJ cII na nwalls nstarts ngoals nlaid nisTold ncells nindex nnear nnearCount npay ndone npile nnow nthen nchoice nplan ncosts npaid nafter nfar nmany nnext vfree vtop vfound vlength vf1 vf2 vf3 vf4 _ _ _ lf of kc tt H.size (by omega) (by omega)) (cwV 2 hg gv_md_193 rfl rfl rfl (by decide +kernel) ⟨Nat.le_of_ble_eq_true rfl, Nat.le_of_ble_eq_true rfl⟩) ⟨mt_bl, va_recv (q0 := 0) (ci := 7) hK hP rfl rfl, mt_pr hX hPc hK hDc⟩ rfl rfl hl.1 rfl (lv_room (Nat.le_of_ble_eq_true rfl)) d_md_look_185 ⟨Nat.le_of_ble_eq_true rfl, Nat.le_of_ble_eq_true rfl⟩) (fun r5 hr5 => ?_)
                    have hr5 : r5 = rp_ of lf kc tt := hr5
                    have hr5 : r5 = rp_ of lf kc tt := hr5
                    subst hr5
                    refine lv_aload_n hx hb d_md_look_188 rfl (lv_at hl 3 rfl) ?_
                    refine lv_iload_n hx hb d_md_look_189 rfl (lv_at hl 1 rfl) ?_
                    refine lv_iload_n hx hb d_md_look_190 rfl (lv_at hl 2 rfl) ?_
                    refine lv_iconst (v := 1) hx hb d_md_look_191 (by decide) ?_
                    refine lv_isub hx hb d_md_look_192 ?_
                    refine lv_topi (fun y6 ey6 => ?_)
                    have ey6 : y6 = nI (tt - 1) := ey6.trans (by rw [show nI tt = nI (tt - 1 + 1) by congr 1; omega]; exact nI_pred (tt - 1))
                    subst ey6
                    have hPc := hP.sub (ws' := [(na, .inr (7, [.int (nI W0), .int (nI H0), .ref nwalls, .int (nI n), .ref nstarts, .ref ngoals, .ref nlaid, .ref nisTold, .int vfree, .ref ncells, .ref nindex, .ref nnear, .ref nnearCount, .ref npay, .ref ndone, .ref npile, .int vtop, .ref nnow, .ref nthen, .ref nchoice, .int vfound, .int vlength, .ref nplan, .ref ncosts, .ref npaid, .ref nafter, .ref nfar, .ref nmany, .ref nnext, .int vf1, .int vf2, .int vf3, .int vf4])), (nlaid, .inl (cI, 180, .inl lf)), (nisTold, .inl (cZ, 180, .inl of))]) [0, 4, 5] rfl
                    have hDc := hD.sub (ws' := [(na, .inr (7, [.int (nI W0), .int (nI H0), .ref nwalls, .int (nI n), .ref nstarts, .ref ngoals, .ref nlaid, .ref nisTold, .int vfree, .ref ncells, .ref nindex, .ref nnear, .ref nnearCount, .ref npay, .ref ndone, .ref npile, .int vtop, .ref nnow, .ref nthen, .ref nchoice, .int vfound, .int vlength, .ref nplan, .ref ncosts, .ref npaid, .ref nafter, .ref nfar, .ref nmany, .ref nnext, .int vf1, .int vf2, .int vf3, .int vf4])), (nlaid, .inl (cI, 180, .inl lf)), (nisTold, .inl (cZ, 180, .inl of))]) [0, 4, 5] (by decide) rfl
                    refine vp_callSi (W.runV (As := [.int (nI mc), .int (nI (tt - 1))]) (rest := [.int (rp_ of lf kc tt)]) ⟨hx, hb, hml, hown, hg⟩ (c_md_place l D cZ cI cJ cII na nwalls nstarts ngoals nlaid nisTold ncells nindex nnear nnearCount npay ndone npile nnow nthen nchoice nplan ncosts npaid nafter nfar nmany nnext vfree vtop vfound vlength vf1 vf2 vf3 vf4 _ _ _ lf of mc (tt - 1) H.size (by omega) (by omega)) (cwV 2 hg gv_md_193 rfl rfl rfl (by decide +kernel) ⟨Nat.le_of_ble_eq_true rfl, Nat.le_of_ble_eq_true rfl⟩) ⟨mt_bl, va_recv (q0 := 0) (ci := 7) hK hP rfl rfl, mt_pr hX hPc hK hDc⟩ rfl rfl hl.1 rfl (lv_room (Nat.le_of_ble_eq_true rfl)) d_md_look_193 ⟨Nat.le_of_ble_eq_true rfl, Nat.le_of_ble_eq_true rfl⟩) (fun r7 hr7 => ?_)
                    have hr7 : r7 = rp_ of lf mc (tt - 1) := hr7
                    have hr7 : r7 = rp_ of lf mc (tt - 1) := hr7
                    subst hr7
                    refine lv_icmp_ne hx hb d_md_look_196 rfl (fun gk => ?_) (fun gk => ?_)
                    ·
                      refine lv_iinc (k := 0) (v := nI (kc + 1)) hx hb d_md_look_207 hl rfl ((nI_succ kc).symm) (by decide) rfl (fun ls hl => ?_)
                      have hl : lv_has ls 4 [(3, .int (nI (kc + 1))), (2, .int (nI mc)), (1, .int (nI tt)), (0, .ref na)] := hl
                      refine lv_goto hx hb d_md_look_210 rfl ?_
                      have hl := lv_sub hl [0, 1, 2, 3] (l' := [(3, .int (nI (kc + 1))), (2, .int (nI mc)), (1, .int (nI tt)), (0, .ref na)]) rfl
                      exact ih_f (kc + 1, vf1, vf2, vf3, vf4) ls H _ (by show n - (kc + 1) < n - kc; omega) ⟨by show kc + 1 ≤ n; omega, by show mc < kc + 1; omega, jg_s hvf (fun q => gk q.2), hl, hP, hD, hS⟩
                    ·
                      refine lv_aload_n hx hb d_md_look_199 rfl (lv_at hl 3 rfl) ?_
                      refine lv_iconst (v := 3) hx hb d_md_look_200 (by decide) ?_
                      refine lv_iload_n hx hb d_md_look_201 rfl (lv_at hl 2 rfl) ?_
                      refine lv_iload_n hx hb d_md_look_202 rfl (lv_at hl 1 rfl) ?_
                      refine lv_iload_n hx hb d_md_look_203 rfl (lv_at hl 0 rfl) ?_
                      have hPc := hP.sub (ws' := [(na, .inr (7, [.int (nI W0), .int (nI H0), .ref nwalls, .int (nI n), .ref nstarts, .ref ngoals, .ref nlaid, .ref nisTold, .int vfree, .ref ncells, .ref nindex, .ref nnear, .ref nnearCount, .ref npay, .ref ndone, .ref npile, .int vtop, .ref nnow, .ref nthen, .ref nchoice, .int vfound, .int vlength, .ref nplan, .ref ncosts, .ref npaid, .ref nafter, .ref nfar, .ref nmany, .ref nnext, .int vf1, .int vf2, .int vf3, .int vf4]))]) [0] rfl
                      have hDc := hD.sub (ws' := [(na, .inr (7, [.int (nI W0), .int (nI H0), .ref nwalls, .int (nI n), .ref nstarts, .ref ngoals, .ref nlaid, .ref nisTold, .int vfree, .ref ncells, .ref nindex, .ref nnear, .ref nnearCount, .ref npay, .ref ndone, .ref npile, .int vtop, .ref nnow, .ref nthen, .ref nchoice, .int vfound, .int vlength, .ref nplan, .ref ncosts, .ref npaid, .ref nafter, .ref nfar, .ref nmany, .ref nnext, .int vf1, .int vf2, .int vf3, .int vf4]))]) [0] (by decide) rfl
                      have hFc := va_free (wc := [(na, .inr (7, [.int (nI W0), .int (nI H0), .ref nwalls, .int (nI n), .ref nstarts, .ref ngoals, .ref nlaid, .ref nisTold, .int vfree, .ref ncells, .ref nindex, .ref nnear, .ref nnearCount, .ref npay, .ref ndone, .ref npile, .int vtop, .ref nnow, .ref nthen, .ref nchoice, .int vfound, .int vlength, .ref nplan, .ref ncosts, .ref npaid, .ref nafter, .ref nfar, .ref nmany, .ref nnext, .int vf1, .int vf2, .int vf3, .int vf4]))]) hD hS hA [0] rfl
                      refine va_callv (va_runV (As := [.int 3, .int (nI tt), .int (nI mc), .int (nI kc)]) (rest := []) ⟨hx, hb, hml, hown, hg⟩ (c_md_wrong l D cZ cI cJ cII na nwalls nstarts ngoals nlaid nisTold ncells nindex nnear nnearCount npay ndone npile nnow nthen nchoice nplan ncosts npaid nafter nfar nmany nnext vfree vtop vfound vlength vf1 vf2 vf3 vf4 _ _ _ 3 (nI tt) (nI mc) (nI kc) H.size ) (cwV 4 hg gv_md_211 rfl rfl rfl (by decide +kernel) ⟨Nat.le_of_ble_eq_true rfl, Nat.le_of_ble_eq_true rfl⟩) ⟨mt_bl, va_recv (q0 := 0) (ci := 7) hK hP rfl rfl, mt_pr hX hPc hK hDc⟩ rfl rfl hl.1 rfl (lv_room (Nat.le_of_ble_eq_true rfl)) d_md_look_204 ⟨Nat.le_of_ble_eq_true rfl, Nat.le_of_ble_eq_true rfl⟩) hS (fun q _ h => hFc q h) hFc (fun u t H1 locs ht hvm hw hB hz1 hk1 hS => ?_)
                      obtain ⟨so9, wh10, on11, tw12⟩ := u
                      have hr8 : (¬ vf1 = 0 ∧ so9 = vf1 ∧ wh10 = vf2 ∧ on11 = vf3 ∧ tw12 = vf4) ∨ (vf1 = 0 ∧ so9 = (3 : Int32) ∧ wh10 = (nI tt) ∧ on11 = (nI mc) ∧ tw12 = (nI kc)) := hw
                      obtain ⟨hP1, hD1⟩ := hB
                      rw [ht] at hP1
                      obtain ⟨hP, hD⟩ := va_join (wr := [(nwalls, .inl (cZ, 25, .inl wf)), (nstarts, .inl (cI, 25, .inl sf)), (ngoals, .inl (cI, 25, .inl gf)), (nlaid, .inl (cI, 180, .inl lf)), (nisTold, .inl (cZ, 180, .inl of))]) (w1 := [(na, .inr (7, [.int (nI W0), .int (nI H0), .ref nwalls, .int (nI n), .ref nstarts, .ref ngoals, .ref nlaid, .ref nisTold, .int vfree, .ref ncells, .ref nindex, .ref nnear, .ref nnearCount, .ref npay, .ref ndone, .ref npile, .int vtop, .ref nnow, .ref nthen, .ref nchoice, .int vfound, .int vlength, .ref nplan, .ref ncosts, .ref npaid, .ref nafter, .ref nfar, .ref nmany, .ref nnext, .int so9, .int wh10, .int on11, .int tw12]))]) hP hD [0] [1, 2, 3, 4, 5] rfl rfl (by decide) (by decide) hk1 hFc hP1 hD1
                      generalize H1 = H at hP hS ⊢
                      have hP : va_P D kls [(nwalls, .inl (cZ, 25, .inl wf)), (nstarts, .inl (cI, 25, .inl sf)), (ngoals, .inl (cI, 25, .inl gf)), (nlaid, .inl (cI, 180, .inl lf)), (nisTold, .inl (cZ, 180, .inl of)), (na, .inr (7, [.int (nI W0), .int (nI H0), .ref nwalls, .int (nI n), .ref nstarts, .ref ngoals, .ref nlaid, .ref nisTold, .int vfree, .ref ncells, .ref nindex, .ref nnear, .ref nnearCount, .ref npay, .ref ndone, .ref npile, .int vtop, .ref nnow, .ref nthen, .ref nchoice, .int vfound, .int vlength, .ref nplan, .ref ncosts, .ref npaid, .ref nafter, .ref nfar, .ref nmany, .ref nnext, .int so9, .int wh10, .int on11, .int tw12]))] H := hP
                      have hD : va_D A [(nwalls, .inl (cZ, 25, .inl wf)), (nstarts, .inl (cI, 25, .inl sf)), (ngoals, .inl (cI, 25, .inl gf)), (nlaid, .inl (cI, 180, .inl lf)), (nisTold, .inl (cZ, 180, .inl of)), (na, .inr (7, [.int (nI W0), .int (nI H0), .ref nwalls, .int (nI n), .ref nstarts, .ref ngoals, .ref nlaid, .ref nisTold, .int vfree, .ref ncells, .ref nindex, .ref nnear, .ref nnearCount, .ref npay, .ref ndone, .ref npile, .int vtop, .ref nnow, .ref nthen, .ref nchoice, .int vfound, .int vlength, .ref nplan, .ref ncosts, .ref npaid, .ref nafter, .ref nfar, .ref nmany, .ref nnext, .int so9, .int wh10, .int on11, .int tw12]))] := hD
                      have hwr := hr8
                      refine lv_iinc (k := 0) (v := nI (kc + 1)) hx hb d_md_look_207 hl rfl ((nI_succ kc).symm) (by decide) rfl (fun ls hl => ?_)
                      have hl : lv_has ls 4 [(3, .int (nI (kc + 1))), (2, .int (nI mc)), (1, .int (nI tt)), (0, .ref na)] := hl
                      refine lv_goto hx hb d_md_look_210 rfl ?_
                      have hl := lv_sub hl [0, 1, 2, 3] (l' := [(3, .int (nI (kc + 1))), (2, .int (nI mc)), (1, .int (nI tt)), (0, .ref na)]) rfl
                      have hP := hP.sub (ws' := [(na, .inr (7, [.int (nI W0), .int (nI H0), .ref nwalls, .int (nI n), .ref nstarts, .ref ngoals, .ref nlaid, .ref nisTold, .int vfree, .ref ncells, .ref nindex, .ref nnear, .ref nnearCount, .ref npay, .ref ndone, .ref npile, .int vtop, .ref nnow, .ref nthen, .ref nchoice, .int vfound, .int vlength, .ref nplan, .ref ncosts, .ref npaid, .ref nafter, .ref nfar, .ref nmany, .ref nnext, .int so9, .int wh10, .int on11, .int tw12])), (nwalls, .inl (cZ, 25, .inl wf)), (nstarts, .inl (cI, 25, .inl sf)), (ngoals, .inl (cI, 25, .inl gf)), (nlaid, .inl (cI, 180, .inl lf)), (nisTold, .inl (cZ, 180, .inl of))]) [5, 0, 1, 2, 3, 4] rfl
                      have hD := hD.sub (ws' := [(na, .inr (7, [.int (nI W0), .int (nI H0), .ref nwalls, .int (nI n), .ref nstarts, .ref ngoals, .ref nlaid, .ref nisTold, .int vfree, .ref ncells, .ref nindex, .ref nnear, .ref nnearCount, .ref npay, .ref ndone, .ref npile, .int vtop, .ref nnow, .ref nthen, .ref nchoice, .int vfound, .int vlength, .ref nplan, .ref ncosts, .ref npaid, .ref nafter, .ref nfar, .ref nmany, .ref nnext, .int so9, .int wh10, .int on11, .int tw12])), (nwalls, .inl (cZ, 25, .inl wf)), (nstarts, .inl (cI, 25, .inl sf)), (ngoals, .inl (cI, 25, .inl gf)), (nlaid, .inl (cI, 180, .inl lf)), (nisTold, .inl (cZ, 180, .inl of))]) [5, 0, 1, 2, 3, 4] (by decide) rfl
                      exact ih_f (kc + 1, so9, wh10, on11, tw12) ls H _ (by show n - (kc + 1) < n - kc; omega) ⟨by show kc + 1 ≤ n; omega, by show mc < kc + 1; omega, jg_w (T := jd_T n (fun t m => jw_P W0 H0 wf sf gf lf of m t) (rS of lf) (rE of lf) tt) hvf hwr (by decide) (fun p q => Or.inr ⟨p.1, Or.inr ⟨p.2, ht0, mc, kc, hmk, gix, rfl, rfl, rfl, rfl, ⟨gj, gk⟩, q.2, q.1⟩⟩), hl, hP, hD, hS⟩
        ·
          refine lv_iconst (v := 0) hx hb d_md_look_35 (by decide) ?_
          refine lv_istore_n hx hb d_md_look_36 rfl hl (by decide) rfl (fun ls hl => ?_)
          have hl : lv_has ls 4 [(2, .int 0), (1, .int (nI tt)), (0, .ref na)] := hl
          have hl := lv_sub hl [0, 1, 2] (l' := [(2, .int (nI 0)), (1, .int (nI tt)), (0, .ref na)]) rfl
          refine mt_loop (ι := Nat × Int32 × Int32 × Int32 × Int32) (I := fun ix ls H locs => ((ix.1) ≤ n) ∧ ((((ix.2.1) = 0 ∧ (ix.2.2.1) = -1 ∧ (ix.2.2.2.1) = -1 ∧ (ix.2.2.2.2) = -1) ∧ ∀ a, a < (ix.1) → ¬ jw_P W0 H0 wf sf gf lf of a tt) ∨ (¬ (ix.2.1) = 0 ∧ jd_1 (ix.1) (fun m => jw_P W0 H0 wf sf gf lf of m tt) tt (ix.2.1) (ix.2.2.1) (ix.2.2.2.1) (ix.2.2.2.2))) ∧ lv_has ls 4 [(2, .int (nI (ix.1))), (1, .int (nI tt)), (0, .ref na)] ∧ va_P D kls [(na, .inr (7, [.int (nI W0), .int (nI H0), .ref nwalls, .int (nI n), .ref nstarts, .ref ngoals, .ref nlaid, .ref nisTold, .int vfree, .ref ncells, .ref nindex, .ref nnear, .ref nnearCount, .ref npay, .ref ndone, .ref npile, .int vtop, .ref nnow, .ref nthen, .ref nchoice, .int vfound, .int vlength, .ref nplan, .ref ncosts, .ref npaid, .ref nafter, .ref nfar, .ref nmany, .ref nnext, .int (ix.2.1), .int (ix.2.2.1), .int (ix.2.2.2.1), .int (ix.2.2.2.2)])), (nwalls, .inl (cZ, 25, .inl wf)), (nstarts, .inl (cI, 25, .inl sf)), (ngoals, .inl (cI, 25, .inl gf)), (nlaid, .inl (cI, 180, .inl lf)), (nisTold, .inl (cZ, 180, .inl of))] H ∧ va_D A [(na, .inr (7, [.int (nI W0), .int (nI H0), .ref nwalls, .int (nI n), .ref nstarts, .ref ngoals, .ref nlaid, .ref nisTold, .int vfree, .ref ncells, .ref nindex, .ref nnear, .ref nnearCount, .ref npay, .ref ndone, .ref npile, .int vtop, .ref nnow, .ref nthen, .ref nchoice, .int vfound, .int vlength, .ref nplan, .ref ncosts, .ref npaid, .ref nafter, .ref nfar, .ref nmany, .ref nnext, .int (ix.2.1), .int (ix.2.2.1), .int (ix.2.2.2.1), .int (ix.2.2.2.2)])), (nwalls, .inl (cZ, 25, .inl wf)), (nstarts, .inl (cI, 25, .inl sf)), (ngoals, .inl (cI, 25, .inl gf)), (nlaid, .inl (cI, 180, .inl lf)), (nisTold, .inl (cZ, 180, .inl of))] ∧ va_S A s.heap H locs) (μ := fun ix => n - (ix.1)) ?_ (0, va1, va2, va3, va4) ls H _ ⟨Nat.zero_le _, Or.inl ⟨hv0.1, fun a h => absurd h (Nat.not_lt_zero _)⟩, hl, hP, hD, hS⟩
          clear hl hP hD hS
          intro i_b ls H locs ⟨hma, hvb, hl, hP, hD, hS⟩ ih_b
          obtain ⟨ma, vb1, vb2, vb3, vb4⟩ := i_b
          have hma : ma ≤ n := hma
          have hvb : ((vb1 = 0 ∧ vb2 = -1 ∧ vb3 = -1 ∧ vb4 = -1) ∧ ∀ a, a < ma → ¬ jw_P W0 H0 wf sf gf lf of a tt) ∨ (¬ vb1 = 0 ∧ jd_1 ma (fun m => jw_P W0 H0 wf sf gf lf of m tt) tt vb1 vb2 vb3 vb4) := hvb
          have hl : lv_has ls 4 [(2, .int (nI ma)), (1, .int (nI tt)), (0, .ref na)] := hl
          have hP : va_P D kls [(na, .inr (7, [.int (nI W0), .int (nI H0), .ref nwalls, .int (nI n), .ref nstarts, .ref ngoals, .ref nlaid, .ref nisTold, .int vfree, .ref ncells, .ref nindex, .ref nnear, .ref nnearCount, .ref npay, .ref ndone, .ref npile, .int vtop, .ref nnow, .ref nthen, .ref nchoice, .int vfound, .int vlength, .ref nplan, .ref ncosts, .ref npaid, .ref nafter, .ref nfar, .ref nmany, .ref nnext, .int vb1, .int vb2, .int vb3, .int vb4])), (nwalls, .inl (cZ, 25, .inl wf)), (nstarts, .inl (cI, 25, .inl sf)), (ngoals, .inl (cI, 25, .inl gf)), (nlaid, .inl (cI, 180, .inl lf)), (nisTold, .inl (cZ, 180, .inl of))] H := hP
          have hD : va_D A [(na, .inr (7, [.int (nI W0), .int (nI H0), .ref nwalls, .int (nI n), .ref nstarts, .ref ngoals, .ref nlaid, .ref nisTold, .int vfree, .ref ncells, .ref nindex, .ref nnear, .ref nnearCount, .ref npay, .ref ndone, .ref npile, .int vtop, .ref nnow, .ref nthen, .ref nchoice, .int vfound, .int vlength, .ref nplan, .ref ncosts, .ref npaid, .ref nafter, .ref nfar, .ref nmany, .ref nnext, .int vb1, .int vb2, .int vb3, .int vb4])), (nwalls, .inl (cZ, 25, .inl wf)), (nstarts, .inl (cI, 25, .inl sf)), (ngoals, .inl (cI, 25, .inl gf)), (nlaid, .inl (cI, 180, .inl lf)), (nisTold, .inl (cZ, 180, .inl of))] := hD
          refine lv_iload_n hx hb d_md_look_37 rfl (lv_at hl 0 rfl) ?_
          refine lv_aload_n hx hb d_md_look_38 rfl (lv_at hl 2 rfl) ?_
          refine gf_md_86 hx hb hg hown hK hP 0 rfl rfl d_md_look_39 ?_
          refine lv_icmp_ge hx hb d_md_look_42 rfl (fun g4 => ?_) (fun g4 => ?_)
          ·
            have g5x : n ≤ ma := by rcases Nat.lt_or_ge ma n with h | h; exact absurd g4 (nI_ge (b := n) h (by omega)); exact h
            have gma : ma = n := by omega
            rw [gma] at hvb
            refine lv_iconst (v := 0) hx hb d_md_look_68 (by decide) ?_
            refine lv_istore_n hx hb d_md_look_69 rfl hl (by decide) rfl (fun ls hl => ?_)
            have hl : lv_has ls 4 [(2, .int 0), (1, .int (nI tt)), (0, .ref na)] := hl
            have hl := lv_sub hl [0, 1, 2] (l' := [(2, .int (nI 0)), (1, .int (nI tt)), (0, .ref na)]) rfl
            refine mt_loop (ι := Nat × Int32 × Int32 × Int32 × Int32) (I := fun ix ls H locs => ((ix.1) ≤ n) ∧ ((((ix.2.1) = 0 ∧ (ix.2.2.1) = -1 ∧ (ix.2.2.2.1) = -1 ∧ (ix.2.2.2.2) = -1) ∧ ((∀ m, m < n → ¬ jw_P W0 H0 wf sf gf lf of m tt)) ∧ jq_P n (rS of lf tt) (ix.1) ((ix.1) + 1)) ∨ (¬ (ix.2.1) = 0 ∧ jd_T n (fun t m => jw_P W0 H0 wf sf gf lf of m t) (rS of lf) (rE of lf) tt (ix.2.1) (ix.2.2.1) (ix.2.2.2.1) (ix.2.2.2.2))) ∧ lv_has ls 4 [(2, .int (nI (ix.1))), (1, .int (nI tt)), (0, .ref na)] ∧ va_P D kls [(na, .inr (7, [.int (nI W0), .int (nI H0), .ref nwalls, .int (nI n), .ref nstarts, .ref ngoals, .ref nlaid, .ref nisTold, .int vfree, .ref ncells, .ref nindex, .ref nnear, .ref nnearCount, .ref npay, .ref ndone, .ref npile, .int vtop, .ref nnow, .ref nthen, .ref nchoice, .int vfound, .int vlength, .ref nplan, .ref ncosts, .ref npaid, .ref nafter, .ref nfar, .ref nmany, .ref nnext, .int (ix.2.1), .int (ix.2.2.1), .int (ix.2.2.2.1), .int (ix.2.2.2.2)])), (nwalls, .inl (cZ, 25, .inl wf)), (nstarts, .inl (cI, 25, .inl sf)), (ngoals, .inl (cI, 25, .inl gf)), (nlaid, .inl (cI, 180, .inl lf)), (nisTold, .inl (cZ, 180, .inl of))] H ∧ va_D A [(na, .inr (7, [.int (nI W0), .int (nI H0), .ref nwalls, .int (nI n), .ref nstarts, .ref ngoals, .ref nlaid, .ref nisTold, .int vfree, .ref ncells, .ref nindex, .ref nnear, .ref nnearCount, .ref npay, .ref ndone, .ref npile, .int vtop, .ref nnow, .ref nthen, .ref nchoice, .int vfound, .int vlength, .ref nplan, .ref ncosts, .ref npaid, .ref nafter, .ref nfar, .ref nmany, .ref nnext, .int (ix.2.1), .int (ix.2.2.1), .int (ix.2.2.2.1), .int (ix.2.2.2.2)])), (nwalls, .inl (cZ, 25, .inl wf)), (nstarts, .inl (cI, 25, .inl sf)), (ngoals, .inl (cI, 25, .inl gf)), (nlaid, .inl (cI, 180, .inl lf)), (nisTold, .inl (cZ, 180, .inl of))] ∧ va_S A s.heap H locs) (μ := fun ix => n - (ix.1)) ?_ (0, vb1, vb2, vb3, vb4) ls H _ ⟨Nat.zero_le _, jg_0 hvb Or.inl, hl, hP, hD, hS⟩
            clear hl hP hD hS
            intro i_c ls H locs ⟨hmb, hvc, hl, hP, hD, hS⟩ ih_c
            obtain ⟨mb, vc1, vc2, vc3, vc4⟩ := i_c
            have hmb : mb ≤ n := hmb
            have hvc : ((vc1 = 0 ∧ vc2 = -1 ∧ vc3 = -1 ∧ vc4 = -1) ∧ ((∀ m, m < n → ¬ jw_P W0 H0 wf sf gf lf of m tt)) ∧ jq_P n (rS of lf tt) mb (mb + 1)) ∨ (¬ vc1 = 0 ∧ jd_T n (fun t m => jw_P W0 H0 wf sf gf lf of m t) (rS of lf) (rE of lf) tt vc1 vc2 vc3 vc4) := hvc
            have hl : lv_has ls 4 [(2, .int (nI mb)), (1, .int (nI tt)), (0, .ref na)] := hl
            have hP : va_P D kls [(na, .inr (7, [.int (nI W0), .int (nI H0), .ref nwalls, .int (nI n), .ref nstarts, .ref ngoals, .ref nlaid, .ref nisTold, .int vfree, .ref ncells, .ref nindex, .ref nnear, .ref nnearCount, .ref npay, .ref ndone, .ref npile, .int vtop, .ref nnow, .ref nthen, .ref nchoice, .int vfound, .int vlength, .ref nplan, .ref ncosts, .ref npaid, .ref nafter, .ref nfar, .ref nmany, .ref nnext, .int vc1, .int vc2, .int vc3, .int vc4])), (nwalls, .inl (cZ, 25, .inl wf)), (nstarts, .inl (cI, 25, .inl sf)), (ngoals, .inl (cI, 25, .inl gf)), (nlaid, .inl (cI, 180, .inl lf)), (nisTold, .inl (cZ, 180, .inl of))] H := hP
            have hD : va_D A [(na, .inr (7, [.int (nI W0), .int (nI H0), .ref nwalls, .int (nI n), .ref nstarts, .ref ngoals, .ref nlaid, .ref nisTold, .int vfree, .ref ncells, .ref nindex, .ref nnear, .ref nnearCount, .ref npay, .ref ndone, .ref npile, .int vtop, .ref nnow, .ref nthen, .ref nchoice, .int vfound, .int vlength, .ref nplan, .ref ncosts, .ref npaid, .ref nafter, .ref nfar, .ref nmany, .ref nnext, .int vc1, .int vc2, .int vc3, .int vc4])), (nwalls, .inl (cZ, 25, .inl wf)), (nstarts, .inl (cI, 25, .inl sf)), (ngoals, .inl (cI, 25, .inl gf)), (nlaid, .inl (cI, 180, .inl lf)), (nisTold, .inl (cZ, 180, .inl of))] := hD
            refine lv_iload_n hx hb d_md_look_70 rfl (lv_at hl 0 rfl) ?_
            refine lv_aload_n hx hb d_md_look_71 rfl (lv_at hl 2 rfl) ?_
            refine gf_md_86 hx hb hg hown hK hP 0 rfl rfl d_md_look_72 ?_
            refine lv_icmp_ge hx hb d_md_look_75 rfl (fun g7 => ?_) (fun g7 => ?_)
            ·
              have g7a : n ≤ mb := by rcases Nat.lt_or_ge mb n with h | h; exact absurd g7 (nI_ge (b := n) h (by omega)); exact h
              have hl := lv_sub hl [1, 2] (l' := [(1, .int (nI tt)), (0, .ref na)]) rfl
              exact jp_j (vc1, vc2, vc3, vc4) ls H _ ⟨jg_1 hvc g7a, hl, hP, hD, hS⟩
            ·
              have g8x : mb < n := by rcases Nat.lt_or_ge mb n with h | h; exact h; exact absurd (nI_le (a := n) h (by omega)) g7
              refine lv_aload_n hx hb d_md_look_78 rfl (lv_at hl 2 rfl) ?_
              refine gf_md_196 hx hb hg hown hK hP 0 rfl rfl d_md_look_79 ?_
              refine lv_if_ne hx hb d_md_look_82 rfl (fun g9 => ?_) (fun g9 => ?_)
              ·
                have hl := lv_sub hl [1, 2] (l' := [(1, .int (nI tt)), (0, .ref na)]) rfl
                exact jp_j (vc1, vc2, vc3, vc4) ls H _ ⟨hvc.elim (fun q => absurd q.1.1 g9) Or.inr, hl, hP, hD, hS⟩
              ·
                refine lv_iload_n hx hb d_md_look_85 rfl (lv_at hl 0 rfl) ?_
                refine lv_iconst (v := 1) hx hb d_md_look_86 (by decide) ?_
                refine lv_iadd hx hb d_md_look_87 ?_
                refine lv_topi (fun y13 ey13 => ?_)
                have ey13 : y13 = nI (mb + 1) := ey13.trans (nI_1 _)
                subst ey13
                refine lv_istore_n hx hb d_md_look_88 rfl hl (by decide) rfl (fun ls hl => ?_)
                have hl : lv_has ls 4 [(3, .int (nI (mb + 1))), (2, .int (nI mb)), (1, .int (nI tt)), (0, .ref na)] := hl
                have hl := lv_sub hl [0, 1, 2, 3] (l' := [(3, .int (nI (mb + 1))), (2, .int (nI mb)), (1, .int (nI tt)), (0, .ref na)]) rfl
                refine mt_loop (ι := Nat × Int32 × Int32 × Int32 × Int32) (I := fun ix ls H locs => ((ix.1) ≤ n) ∧ (mb < (ix.1)) ∧ ((((ix.2.1) = 0 ∧ (ix.2.2.1) = -1 ∧ (ix.2.2.2.1) = -1 ∧ (ix.2.2.2.2) = -1) ∧ ((∀ m, m < n → ¬ jw_P W0 H0 wf sf gf lf of m tt)) ∧ jq_P n (rS of lf tt) mb (ix.1)) ∨ (¬ (ix.2.1) = 0 ∧ jd_T n (fun t m => jw_P W0 H0 wf sf gf lf of m t) (rS of lf) (rE of lf) tt (ix.2.1) (ix.2.2.1) (ix.2.2.2.1) (ix.2.2.2.2))) ∧ lv_has ls 4 [(3, .int (nI (ix.1))), (2, .int (nI mb)), (1, .int (nI tt)), (0, .ref na)] ∧ va_P D kls [(na, .inr (7, [.int (nI W0), .int (nI H0), .ref nwalls, .int (nI n), .ref nstarts, .ref ngoals, .ref nlaid, .ref nisTold, .int vfree, .ref ncells, .ref nindex, .ref nnear, .ref nnearCount, .ref npay, .ref ndone, .ref npile, .int vtop, .ref nnow, .ref nthen, .ref nchoice, .int vfound, .int vlength, .ref nplan, .ref ncosts, .ref npaid, .ref nafter, .ref nfar, .ref nmany, .ref nnext, .int (ix.2.1), .int (ix.2.2.1), .int (ix.2.2.2.1), .int (ix.2.2.2.2)])), (nwalls, .inl (cZ, 25, .inl wf)), (nstarts, .inl (cI, 25, .inl sf)), (ngoals, .inl (cI, 25, .inl gf)), (nlaid, .inl (cI, 180, .inl lf)), (nisTold, .inl (cZ, 180, .inl of))] H ∧ va_D A [(na, .inr (7, [.int (nI W0), .int (nI H0), .ref nwalls, .int (nI n), .ref nstarts, .ref ngoals, .ref nlaid, .ref nisTold, .int vfree, .ref ncells, .ref nindex, .ref nnear, .ref nnearCount, .ref npay, .ref ndone, .ref npile, .int vtop, .ref nnow, .ref nthen, .ref nchoice, .int vfound, .int vlength, .ref nplan, .ref ncosts, .ref npaid, .ref nafter, .ref nfar, .ref nmany, .ref nnext, .int (ix.2.1), .int (ix.2.2.1), .int (ix.2.2.2.1), .int (ix.2.2.2.2)])), (nwalls, .inl (cZ, 25, .inl wf)), (nstarts, .inl (cI, 25, .inl sf)), (ngoals, .inl (cI, 25, .inl gf)), (nlaid, .inl (cI, 180, .inl lf)), (nisTold, .inl (cZ, 180, .inl of))] ∧ va_S A s.heap H locs) (μ := fun ix => n - (ix.1)) ?_ (mb + 1, vc1, vc2, vc3, vc4) ls H _ ⟨by show mb + 1 ≤ n; omega, Nat.lt_succ_self mb, hvc, hl, hP, hD, hS⟩
                clear hl hP hD hS
                intro i_d ls H locs ⟨hkb, hmk, hvd, hl, hP, hD, hS⟩ ih_d
                obtain ⟨kb, vd1, vd2, vd3, vd4⟩ := i_d
                have hkb : kb ≤ n := hkb
                have hmk : mb < kb := hmk
                have hvd : ((vd1 = 0 ∧ vd2 = -1 ∧ vd3 = -1 ∧ vd4 = -1) ∧ ((∀ m, m < n → ¬ jw_P W0 H0 wf sf gf lf of m tt)) ∧ jq_P n (rS of lf tt) mb kb) ∨ (¬ vd1 = 0 ∧ jd_T n (fun t m => jw_P W0 H0 wf sf gf lf of m t) (rS of lf) (rE of lf) tt vd1 vd2 vd3 vd4) := hvd
                have hl : lv_has ls 4 [(3, .int (nI kb)), (2, .int (nI mb)), (1, .int (nI tt)), (0, .ref na)] := hl
                have hP : va_P D kls [(na, .inr (7, [.int (nI W0), .int (nI H0), .ref nwalls, .int (nI n), .ref nstarts, .ref ngoals, .ref nlaid, .ref nisTold, .int vfree, .ref ncells, .ref nindex, .ref nnear, .ref nnearCount, .ref npay, .ref ndone, .ref npile, .int vtop, .ref nnow, .ref nthen, .ref nchoice, .int vfound, .int vlength, .ref nplan, .ref ncosts, .ref npaid, .ref nafter, .ref nfar, .ref nmany, .ref nnext, .int vd1, .int vd2, .int vd3, .int vd4])), (nwalls, .inl (cZ, 25, .inl wf)), (nstarts, .inl (cI, 25, .inl sf)), (ngoals, .inl (cI, 25, .inl gf)), (nlaid, .inl (cI, 180, .inl lf)), (nisTold, .inl (cZ, 180, .inl of))] H := hP
                have hD : va_D A [(na, .inr (7, [.int (nI W0), .int (nI H0), .ref nwalls, .int (nI n), .ref nstarts, .ref ngoals, .ref nlaid, .ref nisTold, .int vfree, .ref ncells, .ref nindex, .ref nnear, .ref nnearCount, .ref npay, .ref ndone, .ref npile, .int vtop, .ref nnow, .ref nthen, .ref nchoice, .int vfound, .int vlength, .ref nplan, .ref ncosts, .ref npaid, .ref nafter, .ref nfar, .ref nmany, .ref nnext, .int vd1, .int vd2, .int vd3, .int vd4])), (nwalls, .inl (cZ, 25, .inl wf)), (nstarts, .inl (cI, 25, .inl sf)), (ngoals, .inl (cI, 25, .inl gf)), (nlaid, .inl (cI, 180, .inl lf)), (nisTold, .inl (cZ, 180, .inl of))] := hD
                refine lv_iload_n hx hb d_md_look_89 rfl (lv_at hl 0 rfl) ?_
                refine lv_aload_n hx hb d_md_look_90 rfl (lv_at hl 3 rfl) ?_
                refine gf_md_86 hx hb hg hown hK hP 0 rfl rfl d_md_look_91 ?_
                refine lv_icmp_ge hx hb d_md_look_94 rfl (fun ga => ?_) (fun ga => ?_)
                ·
                  have gbz : n ≤ kb := by rcases Nat.lt_or_ge kb n with h | h; exact absurd ga (nI_ge (b := n) h (by omega)); exact h
                  refine lv_iinc (k := 1) (v := nI (mb + 1)) hx hb d_md_look_126 hl rfl ((nI_succ mb).symm) (by decide) rfl (fun ls hl => ?_)
                  have hl : lv_has ls 4 [(2, .int (nI (mb + 1))), (3, .int (nI kb)), (1, .int (nI tt)), (0, .ref na)] := hl
                  refine lv_goto hx hb d_md_look_129 rfl ?_
                  have hl := lv_sub hl [0, 2, 3] (l' := [(2, .int (nI (mb + 1))), (1, .int (nI tt)), (0, .ref na)]) rfl
                  exact ih_c (mb + 1, vd1, vd2, vd3, vd4) ls H _ (by show n - (mb + 1) < n - mb; omega) ⟨by show mb + 1 ≤ n; omega, jg_a hvd gbz, hl, hP, hD, hS⟩
                ·
                  have gbx : kb < n := by rcases Nat.lt_or_ge kb n with h | h; exact h; exact absurd (nI_le (a := n) h (by omega)) ga
                  refine lv_aload_n hx hb d_md_look_97 rfl (lv_at hl 3 rfl) ?_
                  refine lv_iload_n hx hb d_md_look_98 rfl (lv_at hl 1 rfl) ?_
                  refine lv_iload_n hx hb d_md_look_99 rfl (lv_at hl 2 rfl) ?_
                  have hPc := hP.sub (ws' := [(na, .inr (7, [.int (nI W0), .int (nI H0), .ref nwalls, .int (nI n), .ref nstarts, .ref ngoals, .ref nlaid, .ref nisTold, .int vfree, .ref ncells, .ref nindex, .ref nnear, .ref nnearCount, .ref npay, .ref ndone, .ref npile, .int vtop, .ref nnow, .ref nthen, .ref nchoice, .int vfound, .int vlength, .ref nplan, .ref ncosts, .ref npaid, .ref nafter, .ref nfar, .ref nmany, .ref nnext, .int vd1, .int vd2, .int vd3, .int vd4])), (nlaid, .inl (cI, 180, .inl lf)), (nisTold, .inl (cZ, 180, .inl of))]) [0, 4, 5] rfl
                  have hDc := hD.sub (ws' := [(na, .inr (7, [.int (nI W0), .int (nI H0), .ref nwalls, .int (nI n), .ref nstarts, .ref ngoals, .ref nlaid, .ref nisTold, .int vfree, .ref ncells, .ref nindex, .ref nnear, .ref nnearCount, .ref npay, .ref ndone, .ref npile, .int vtop, .ref nnow, .ref nthen, .ref nchoice, .int vfound, .int vlength, .ref nplan, .ref ncosts, .ref npaid, .ref nafter, .ref nfar, .ref nmany, .ref nnext, .int vd1, .int vd2, .int vd3, .int vd4])), (nlaid, .inl (cI, 180, .inl lf)), (nisTold, .inl (cZ, 180, .inl of))]) [0, 4, 5] (by decide) rfl
                  refine vp_callSi (W.runV (As := [.int (nI mb), .int (nI tt)]) (rest := []) ⟨hx, hb, hml, hown, hg⟩ (c_md_place l D cZ cI cJ cII na nwalls nstarts ngoals nlaid nisTold ncells nindex nnear nnearCount npay ndone npile nnow nthen nchoice nplan ncosts npaid nafter nfar nmany nnext vfree vtop vfound vlength vd1 vd2 vd3 vd4 _ _ _ lf of mb tt H.size (by omega) (by omega)) (cwV 2 hg gv_md_193 rfl rfl rfl (by decide +kernel) ⟨Nat.le_of_ble_eq_true rfl, Nat.le_of_ble_eq_true rfl⟩) ⟨mt_bl, va_recv (q0 := 0) (ci := 7) hK hP rfl rfl, mt_pr hX hPc hK hDc⟩ rfl rfl hl.1 rfl (lv_room (Nat.le_of_ble_eq_true rfl)) d_md_look_100 ⟨Nat.le_of_ble_eq_true rfl, Nat.le_of_ble_eq_true rfl⟩) (fun r14 hr14 => ?_)
                  have hr14 : r14 = rp_ of lf mb tt := hr14
                  have hr14 : r14 = rp_ of lf mb tt := hr14
                  subst hr14
                  refine lv_aload_n hx hb d_md_look_103 rfl (lv_at hl 3 rfl) ?_
                  refine lv_iload_n hx hb d_md_look_104 rfl (lv_at hl 0 rfl) ?_
                  refine lv_iload_n hx hb d_md_look_105 rfl (lv_at hl 2 rfl) ?_
                  have hPc := hP.sub (ws' := [(na, .inr (7, [.int (nI W0), .int (nI H0), .ref nwalls, .int (nI n), .ref nstarts, .ref ngoals, .ref nlaid, .ref nisTold, .int vfree, .ref ncells, .ref nindex, .ref nnear, .ref nnearCount, .ref npay, .ref ndone, .ref npile, .int vtop, .ref nnow, .ref nthen, .ref nchoice, .int vfound, .int vlength, .ref nplan, .ref ncosts, .ref npaid, .ref nafter, .ref nfar, .ref nmany, .ref nnext, .int vd1, .int vd2, .int vd3, .int vd4])), (nlaid, .inl (cI, 180, .inl lf)), (nisTold, .inl (cZ, 180, .inl of))]) [0, 4, 5] rfl
                  have hDc := hD.sub (ws' := [(na, .inr (7, [.int (nI W0), .int (nI H0), .ref nwalls, .int (nI n), .ref nstarts, .ref ngoals, .ref nlaid, .ref nisTold, .int vfree, .ref ncells, .ref nindex, .ref nnear, .ref nnearCount, .ref npay, .ref ndone, .ref npile, .int vtop, .ref nnow, .ref nthen, .ref nchoice, .int vfound, .int vlength, .ref nplan, .ref ncosts, .ref npaid, .ref nafter, .ref nfar, .ref nmany, .ref nnext, .int vd1, .int vd2, .int vd3, .int vd4])), (nlaid, .inl (cI, 180, .inl lf)), (nisTold, .inl (cZ, 180, .inl of))]) [0, 4, 5] (by decide) rfl
                  refine vp_callSi (W.runV (As := [.int (nI kb), .int (nI tt)]) (rest := [.int (rp_ of lf mb tt)]) ⟨hx, hb, hml, hown, hg⟩ (c_md_place l D cZ cI cJ cII na nwalls nstarts ngoals nlaid nisTold ncells nindex nnear nnearCount npay ndone npile nnow nthen nchoice nplan ncosts npaid nafter nfar nmany nnext vfree vtop vfound vlength vd1 vd2 vd3 vd4 _ _ _ lf of kb tt H.size (by omega) (by omega)) (cwV 2 hg gv_md_193 rfl rfl rfl (by decide +kernel) ⟨Nat.le_of_ble_eq_true rfl, Nat.le_of_ble_eq_true rfl⟩) ⟨mt_bl, va_recv (q0 := 0) (ci := 7) hK hP rfl rfl, mt_pr hX hPc hK hDc⟩ rfl rfl hl.1 rfl (lv_room (Nat.le_of_ble_eq_true rfl)) d_md_look_106 ⟨Nat.le_of_ble_eq_true rfl, Nat.le_of_ble_eq_true rfl⟩) (fun r15 hr15 => ?_)
                  have hr15 : r15 = rp_ of lf kb tt := hr15
                  have hr15 : r15 = rp_ of lf kb tt := hr15
                  subst hr15
                  refine lv_icmp_ne hx hb d_md_look_109 rfl (fun gd => ?_) (fun gd => ?_)
                  ·
                    refine lv_iinc (k := 0) (v := nI (kb + 1)) hx hb d_md_look_120 hl rfl ((nI_succ kb).symm) (by decide) rfl (fun ls hl => ?_)
                    have hl : lv_has ls 4 [(3, .int (nI (kb + 1))), (2, .int (nI mb)), (1, .int (nI tt)), (0, .ref na)] := hl
                    refine lv_goto hx hb d_md_look_123 rfl ?_
                    have hl := lv_sub hl [0, 1, 2, 3] (l' := [(3, .int (nI (kb + 1))), (2, .int (nI mb)), (1, .int (nI tt)), (0, .ref na)]) rfl
                    exact ih_d (kb + 1, vd1, vd2, vd3, vd4) ls H _ (by show n - (kb + 1) < n - kb; omega) ⟨by show kb + 1 ≤ n; omega, by show mb < kb + 1; omega, jg_s hvd gd, hl, hP, hD, hS⟩
                  ·
                    refine lv_aload_n hx hb d_md_look_112 rfl (lv_at hl 3 rfl) ?_
                    refine lv_iconst (v := 2) hx hb d_md_look_113 (by decide) ?_
                    refine lv_iload_n hx hb d_md_look_114 rfl (lv_at hl 2 rfl) ?_
                    refine lv_iload_n hx hb d_md_look_115 rfl (lv_at hl 1 rfl) ?_
                    refine lv_iload_n hx hb d_md_look_116 rfl (lv_at hl 0 rfl) ?_
                    have hPc := hP.sub (ws' := [(na, .inr (7, [.int (nI W0), .int (nI H0), .ref nwalls, .int (nI n), .ref nstarts, .ref ngoals, .ref nlaid, .ref nisTold, .int vfree, .ref ncells, .ref nindex, .ref nnear, .ref nnearCount, .ref npay, .ref ndone, .ref npile, .int vtop, .ref nnow, .ref nthen, .ref nchoice, .int vfound, .int vlength, .ref nplan, .ref ncosts, .ref npaid, .ref nafter, .ref nfar, .ref nmany, .ref nnext, .int vd1, .int vd2, .int vd3, .int vd4]))]) [0] rfl
                    have hDc := hD.sub (ws' := [(na, .inr (7, [.int (nI W0), .int (nI H0), .ref nwalls, .int (nI n), .ref nstarts, .ref ngoals, .ref nlaid, .ref nisTold, .int vfree, .ref ncells, .ref nindex, .ref nnear, .ref nnearCount, .ref npay, .ref ndone, .ref npile, .int vtop, .ref nnow, .ref nthen, .ref nchoice, .int vfound, .int vlength, .ref nplan, .ref ncosts, .ref npaid, .ref nafter, .ref nfar, .ref nmany, .ref nnext, .int vd1, .int vd2, .int vd3, .int vd4]))]) [0] (by decide) rfl
                    have hFc := va_free (wc := [(na, .inr (7, [.int (nI W0), .int (nI H0), .ref nwalls, .int (nI n), .ref nstarts, .ref ngoals, .ref nlaid, .ref nisTold, .int vfree, .ref ncells, .ref nindex, .ref nnear, .ref nnearCount, .ref npay, .ref ndone, .ref npile, .int vtop, .ref nnow, .ref nthen, .ref nchoice, .int vfound, .int vlength, .ref nplan, .ref ncosts, .ref npaid, .ref nafter, .ref nfar, .ref nmany, .ref nnext, .int vd1, .int vd2, .int vd3, .int vd4]))]) hD hS hA [0] rfl
                    refine va_callv (va_runV (As := [.int 2, .int (nI tt), .int (nI mb), .int (nI kb)]) (rest := []) ⟨hx, hb, hml, hown, hg⟩ (c_md_wrong l D cZ cI cJ cII na nwalls nstarts ngoals nlaid nisTold ncells nindex nnear nnearCount npay ndone npile nnow nthen nchoice nplan ncosts npaid nafter nfar nmany nnext vfree vtop vfound vlength vd1 vd2 vd3 vd4 _ _ _ 2 (nI tt) (nI mb) (nI kb) H.size ) (cwV 4 hg gv_md_211 rfl rfl rfl (by decide +kernel) ⟨Nat.le_of_ble_eq_true rfl, Nat.le_of_ble_eq_true rfl⟩) ⟨mt_bl, va_recv (q0 := 0) (ci := 7) hK hP rfl rfl, mt_pr hX hPc hK hDc⟩ rfl rfl hl.1 rfl (lv_room (Nat.le_of_ble_eq_true rfl)) d_md_look_117 ⟨Nat.le_of_ble_eq_true rfl, Nat.le_of_ble_eq_true rfl⟩) hS (fun q _ h => hFc q h) hFc (fun u t H1 locs ht hvm hw hB hz1 hk1 hS => ?_)
                    obtain ⟨so17, wh18, on19, tw20⟩ := u
                    have hr16 : (¬ vd1 = 0 ∧ so17 = vd1 ∧ wh18 = vd2 ∧ on19 = vd3 ∧ tw20 = vd4) ∨ (vd1 = 0 ∧ so17 = (2 : Int32) ∧ wh18 = (nI tt) ∧ on19 = (nI mb) ∧ tw20 = (nI kb)) := hw
                    obtain ⟨hP1, hD1⟩ := hB
                    rw [ht] at hP1
                    obtain ⟨hP, hD⟩ := va_join (wr := [(nwalls, .inl (cZ, 25, .inl wf)), (nstarts, .inl (cI, 25, .inl sf)), (ngoals, .inl (cI, 25, .inl gf)), (nlaid, .inl (cI, 180, .inl lf)), (nisTold, .inl (cZ, 180, .inl of))]) (w1 := [(na, .inr (7, [.int (nI W0), .int (nI H0), .ref nwalls, .int (nI n), .ref nstarts, .ref ngoals, .ref nlaid, .ref nisTold, .int vfree, .ref ncells, .ref nindex, .ref nnear, .ref nnearCount, .ref npay, .ref ndone, .ref npile, .int vtop, .ref nnow, .ref nthen, .ref nchoice, .int vfound, .int vlength, .ref nplan, .ref ncosts, .ref npaid, .ref nafter, .ref nfar, .ref nmany, .ref nnext, .int so17, .int wh18, .int on19, .int tw20]))]) hP hD [0] [1, 2, 3, 4, 5] rfl rfl (by decide) (by decide) hk1 hFc hP1 hD1
                    generalize H1 = H at hP hS ⊢
                    have hP : va_P D kls [(nwalls, .inl (cZ, 25, .inl wf)), (nstarts, .inl (cI, 25, .inl sf)), (ngoals, .inl (cI, 25, .inl gf)), (nlaid, .inl (cI, 180, .inl lf)), (nisTold, .inl (cZ, 180, .inl of)), (na, .inr (7, [.int (nI W0), .int (nI H0), .ref nwalls, .int (nI n), .ref nstarts, .ref ngoals, .ref nlaid, .ref nisTold, .int vfree, .ref ncells, .ref nindex, .ref nnear, .ref nnearCount, .ref npay, .ref ndone, .ref npile, .int vtop, .ref nnow, .ref nthen, .ref nchoice, .int vfound, .int vlength, .ref nplan, .ref ncosts, .ref npaid, .ref nafter, .ref nfar, .ref nmany, .ref nnext, .int so17, .int wh18, .int on19, .int tw20]))] H := hP
                    have hD : va_D A [(nwalls, .inl (cZ, 25, .inl wf)), (nstarts, .inl (cI, 25, .inl sf)), (ngoals, .inl (cI, 25, .inl gf)), (nlaid, .inl (cI, 180, .inl lf)), (nisTold, .inl (cZ, 180, .inl of)), (na, .inr (7, [.int (nI W0), .int (nI H0), .ref nwalls, .int (nI n), .ref nstarts, .ref ngoals, .ref nlaid, .ref nisTold, .int vfree, .ref ncells, .ref nindex, .ref nnear, .ref nnearCount, .ref npay, .ref ndone, .ref npile, .int vtop, .ref nnow, .ref nthen, .ref nchoice, .int vfound, .int vlength, .ref nplan, .ref ncosts, .ref npaid, .ref nafter, .ref nfar, .ref nmany, .ref nnext, .int so17, .int wh18, .int on19, .int tw20]))] := hD
                    have hwr := hr16
                    refine lv_iinc (k := 0) (v := nI (kb + 1)) hx hb d_md_look_120 hl rfl ((nI_succ kb).symm) (by decide) rfl (fun ls hl => ?_)
                    have hl : lv_has ls 4 [(3, .int (nI (kb + 1))), (2, .int (nI mb)), (1, .int (nI tt)), (0, .ref na)] := hl
                    refine lv_goto hx hb d_md_look_123 rfl ?_
                    have hl := lv_sub hl [0, 1, 2, 3] (l' := [(3, .int (nI (kb + 1))), (2, .int (nI mb)), (1, .int (nI tt)), (0, .ref na)]) rfl
                    have hP := hP.sub (ws' := [(na, .inr (7, [.int (nI W0), .int (nI H0), .ref nwalls, .int (nI n), .ref nstarts, .ref ngoals, .ref nlaid, .ref nisTold, .int vfree, .ref ncells, .ref nindex, .ref nnear, .ref nnearCount, .ref npay, .ref ndone, .ref npile, .int vtop, .ref nnow, .ref nthen, .ref nchoice, .int vfound, .int vlength, .ref nplan, .ref ncosts, .ref npaid, .ref nafter, .ref nfar, .ref nmany, .ref nnext, .int so17, .int wh18, .int on19, .int tw20])), (nwalls, .inl (cZ, 25, .inl wf)), (nstarts, .inl (cI, 25, .inl sf)), (ngoals, .inl (cI, 25, .inl gf)), (nlaid, .inl (cI, 180, .inl lf)), (nisTold, .inl (cZ, 180, .inl of))]) [5, 0, 1, 2, 3, 4] rfl
                    have hD := hD.sub (ws' := [(na, .inr (7, [.int (nI W0), .int (nI H0), .ref nwalls, .int (nI n), .ref nstarts, .ref ngoals, .ref nlaid, .ref nisTold, .int vfree, .ref ncells, .ref nindex, .ref nnear, .ref nnearCount, .ref npay, .ref ndone, .ref npile, .int vtop, .ref nnow, .ref nthen, .ref nchoice, .int vfound, .int vlength, .ref nplan, .ref ncosts, .ref npaid, .ref nafter, .ref nfar, .ref nmany, .ref nnext, .int so17, .int wh18, .int on19, .int tw20])), (nwalls, .inl (cZ, 25, .inl wf)), (nstarts, .inl (cI, 25, .inl sf)), (ngoals, .inl (cI, 25, .inl gf)), (nlaid, .inl (cI, 180, .inl lf)), (nisTold, .inl (cZ, 180, .inl of))]) [5, 0, 1, 2, 3, 4] (by decide) rfl
                    exact ih_d (kb + 1, so17, wh18, on19, tw20) ls H _ (by show n - (kb + 1) < n - kb; omega) ⟨by show kb + 1 ≤ n; omega, by show mb < kb + 1; omega, jg_w (T := jd_T n (fun t m => jw_P W0 H0 wf sf gf lf of m t) (rS of lf) (rE of lf) tt) hvd hwr (by decide) (fun p q => Or.inr ⟨p, Or.inl ⟨mb, kb, hmk, gbx, rfl, rfl, rfl, rfl, gd, q.2, q.1⟩⟩), hl, hP, hD, hS⟩
          ·
            have g5x : ma < n := by rcases Nat.lt_or_ge ma n with h | h; exact h; exact absurd (nI_le (a := n) h (by omega)) g4
            refine lv_aload_n hx hb d_md_look_45 rfl (lv_at hl 2 rfl) ?_
            refine lv_iload_n hx hb d_md_look_46 rfl (lv_at hl 0 rfl) ?_
            refine lv_iload_n hx hb d_md_look_47 rfl (lv_at hl 1 rfl) ?_
            have hPc := hP
            have hDc := hD
            refine vp_callSi (W.runV (As := [.int (nI ma), .int (nI tt)]) (rest := []) ⟨hx, hb, hml, hown, hg⟩ (c_md_isWrong l D cZ cI cJ cII na nwalls nstarts ngoals nlaid nisTold ncells nindex nnear nnearCount npay ndone npile nnow nthen nchoice nplan ncosts npaid nafter nfar nmany nnext vfree vtop vfound vlength vb1 vb2 vb3 vb4 _ _ _ wf sf gf lf of ma tt H.size hWH (by omega) (by omega) (by rcases Nat.eq_zero_or_pos tt with h | h; exact Or.inl h; exact Or.inr (jw_fr ((hv0.2 (tt - 1) (by omega)).1 ma g5x)))) (cwV 2 hg gv_md_208 rfl rfl rfl (by decide +kernel) ⟨Nat.le_of_ble_eq_true rfl, Nat.le_of_ble_eq_true rfl⟩) ⟨mt_bl, va_recv (q0 := 0) (ci := 7) hK hP rfl rfl, mt_pr hX hPc hK hDc⟩ rfl rfl hl.1 rfl (lv_room (Nat.le_of_ble_eq_true rfl)) d_md_look_48 ⟨Nat.le_of_ble_eq_true rfl, Nat.le_of_ble_eq_true rfl⟩) (fun r21 hr21 => ?_)
            have hr21 : (r21 = 1 ∧ jw_P W0 H0 wf sf gf lf of ma tt) ∨ (r21 = 0 ∧ ¬ jw_P W0 H0 wf sf gf lf of ma tt) := hr21
            have hiw := hr21
            refine lv_if_eq hx hb d_md_look_51 rfl (fun g6 => ?_) (fun g6 => ?_)
            ·
              have gjn := hiw.elim (fun q => absurd (q.1.symm.trans g6) (by decide)) (fun q => q.2)
              refine lv_iinc (k := 0) (v := nI (ma + 1)) hx hb d_md_look_62 hl rfl ((nI_succ ma).symm) (by decide) rfl (fun ls hl => ?_)
              have hl : lv_has ls 4 [(2, .int (nI (ma + 1))), (1, .int (nI tt)), (0, .ref na)] := hl
              refine lv_goto hx hb d_md_look_65 rfl ?_
              have hl := lv_sub hl [0, 1, 2] (l' := [(2, .int (nI (ma + 1))), (1, .int (nI tt)), (0, .ref na)]) rfl
              exact ih_b (ma + 1, vb1, vb2, vb3, vb4) ls H _ (by show n - (ma + 1) < n - ma; omega) ⟨by show ma + 1 ≤ n; omega, jn_1 hvb gjn, hl, hP, hD, hS⟩
            ·
              have gjy := hiw.elim (fun q => q.2) (fun q => absurd q.1 g6)
              refine lv_aload_n hx hb d_md_look_54 rfl (lv_at hl 2 rfl) ?_
              refine lv_iconst (v := 1) hx hb d_md_look_55 (by decide) ?_
              refine lv_iload_n hx hb d_md_look_56 rfl (lv_at hl 1 rfl) ?_
              refine lv_iload_n hx hb d_md_look_57 rfl (lv_at hl 0 rfl) ?_
              refine lv_iconst (v := (-1)) hx hb d_md_look_58 (by decide) ?_
              have hPc := hP.sub (ws' := [(na, .inr (7, [.int (nI W0), .int (nI H0), .ref nwalls, .int (nI n), .ref nstarts, .ref ngoals, .ref nlaid, .ref nisTold, .int vfree, .ref ncells, .ref nindex, .ref nnear, .ref nnearCount, .ref npay, .ref ndone, .ref npile, .int vtop, .ref nnow, .ref nthen, .ref nchoice, .int vfound, .int vlength, .ref nplan, .ref ncosts, .ref npaid, .ref nafter, .ref nfar, .ref nmany, .ref nnext, .int vb1, .int vb2, .int vb3, .int vb4]))]) [0] rfl
              have hDc := hD.sub (ws' := [(na, .inr (7, [.int (nI W0), .int (nI H0), .ref nwalls, .int (nI n), .ref nstarts, .ref ngoals, .ref nlaid, .ref nisTold, .int vfree, .ref ncells, .ref nindex, .ref nnear, .ref nnearCount, .ref npay, .ref ndone, .ref npile, .int vtop, .ref nnow, .ref nthen, .ref nchoice, .int vfound, .int vlength, .ref nplan, .ref ncosts, .ref npaid, .ref nafter, .ref nfar, .ref nmany, .ref nnext, .int vb1, .int vb2, .int vb3, .int vb4]))]) [0] (by decide) rfl
              have hFc := va_free (wc := [(na, .inr (7, [.int (nI W0), .int (nI H0), .ref nwalls, .int (nI n), .ref nstarts, .ref ngoals, .ref nlaid, .ref nisTold, .int vfree, .ref ncells, .ref nindex, .ref nnear, .ref nnearCount, .ref npay, .ref ndone, .ref npile, .int vtop, .ref nnow, .ref nthen, .ref nchoice, .int vfound, .int vlength, .ref nplan, .ref ncosts, .ref npaid, .ref nafter, .ref nfar, .ref nmany, .ref nnext, .int vb1, .int vb2, .int vb3, .int vb4]))]) hD hS hA [0] rfl
              refine va_callv (va_runV (As := [.int 1, .int (nI tt), .int (nI ma), .int (-1)]) (rest := []) ⟨hx, hb, hml, hown, hg⟩ (c_md_wrong l D cZ cI cJ cII na nwalls nstarts ngoals nlaid nisTold ncells nindex nnear nnearCount npay ndone npile nnow nthen nchoice nplan ncosts npaid nafter nfar nmany nnext vfree vtop vfound vlength vb1 vb2 vb3 vb4 _ _ _ 1 (nI tt) (nI ma) (-1) H.size ) (cwV 4 hg gv_md_211 rfl rfl rfl (by decide +kernel) ⟨Nat.le_of_ble_eq_true rfl, Nat.le_of_ble_eq_true rfl⟩) ⟨mt_bl, va_recv (q0 := 0) (ci := 7) hK hP rfl rfl, mt_pr hX hPc hK hDc⟩ rfl rfl hl.1 rfl (lv_room (Nat.le_of_ble_eq_true rfl)) d_md_look_59 ⟨Nat.le_of_ble_eq_true rfl, Nat.le_of_ble_eq_true rfl⟩) hS (fun q _ h => hFc q h) hFc (fun u t H1 locs ht hvm hw hB hz1 hk1 hS => ?_)
              obtain ⟨so23, wh24, on25, tw26⟩ := u
              have hr22 : (¬ vb1 = 0 ∧ so23 = vb1 ∧ wh24 = vb2 ∧ on25 = vb3 ∧ tw26 = vb4) ∨ (vb1 = 0 ∧ so23 = (1 : Int32) ∧ wh24 = (nI tt) ∧ on25 = (nI ma) ∧ tw26 = ((-1) : Int32)) := hw
              obtain ⟨hP1, hD1⟩ := hB
              rw [ht] at hP1
              obtain ⟨hP, hD⟩ := va_join (wr := [(nwalls, .inl (cZ, 25, .inl wf)), (nstarts, .inl (cI, 25, .inl sf)), (ngoals, .inl (cI, 25, .inl gf)), (nlaid, .inl (cI, 180, .inl lf)), (nisTold, .inl (cZ, 180, .inl of))]) (w1 := [(na, .inr (7, [.int (nI W0), .int (nI H0), .ref nwalls, .int (nI n), .ref nstarts, .ref ngoals, .ref nlaid, .ref nisTold, .int vfree, .ref ncells, .ref nindex, .ref nnear, .ref nnearCount, .ref npay, .ref ndone, .ref npile, .int vtop, .ref nnow, .ref nthen, .ref nchoice, .int vfound, .int vlength, .ref nplan, .ref ncosts, .ref npaid, .ref nafter, .ref nfar, .ref nmany, .ref nnext, .int so23, .int wh24, .int on25, .int tw26]))]) hP hD [0] [1, 2, 3, 4, 5] rfl rfl (by decide) (by decide) hk1 hFc hP1 hD1
              generalize H1 = H at hP hS ⊢
              have hP : va_P D kls [(nwalls, .inl (cZ, 25, .inl wf)), (nstarts, .inl (cI, 25, .inl sf)), (ngoals, .inl (cI, 25, .inl gf)), (nlaid, .inl (cI, 180, .inl lf)), (nisTold, .inl (cZ, 180, .inl of)), (na, .inr (7, [.int (nI W0), .int (nI H0), .ref nwalls, .int (nI n), .ref nstarts, .ref ngoals, .ref nlaid, .ref nisTold, .int vfree, .ref ncells, .ref nindex, .ref nnear, .ref nnearCount, .ref npay, .ref ndone, .ref npile, .int vtop, .ref nnow, .ref nthen, .ref nchoice, .int vfound, .int vlength, .ref nplan, .ref ncosts, .ref npaid, .ref nafter, .ref nfar, .ref nmany, .ref nnext, .int so23, .int wh24, .int on25, .int tw26]))] H := hP
              have hD : va_D A [(nwalls, .inl (cZ, 25, .inl wf)), (nstarts, .inl (cI, 25, .inl sf)), (ngoals, .inl (cI, 25, .inl gf)), (nlaid, .inl (cI, 180, .inl lf)), (nisTold, .inl (cZ, 180, .inl of)), (na, .inr (7, [.int (nI W0), .int (nI H0), .ref nwalls, .int (nI n), .ref nstarts, .ref ngoals, .ref nlaid, .ref nisTold, .int vfree, .ref ncells, .ref nindex, .ref nnear, .ref nnearCount, .ref npay, .ref ndone, .ref npile, .int vtop, .ref nnow, .ref nthen, .ref nchoice, .int vfound, .int vlength, .ref nplan, .ref ncosts, .ref npaid, .ref nafter, .ref nfar, .ref nmany, .ref nnext, .int so23, .int wh24, .int on25, .int tw26]))] := hD
              have hwr := hr22
              refine lv_iinc (k := 0) (v := nI (ma + 1)) hx hb d_md_look_62 hl rfl ((nI_succ ma).symm) (by decide) rfl (fun ls hl => ?_)
              have hl : lv_has ls 4 [(2, .int (nI (ma + 1))), (1, .int (nI tt)), (0, .ref na)] := hl
              refine lv_goto hx hb d_md_look_65 rfl ?_
              have hl := lv_sub hl [0, 1, 2] (l' := [(2, .int (nI (ma + 1))), (1, .int (nI tt)), (0, .ref na)]) rfl
              have hP := hP.sub (ws' := [(na, .inr (7, [.int (nI W0), .int (nI H0), .ref nwalls, .int (nI n), .ref nstarts, .ref ngoals, .ref nlaid, .ref nisTold, .int vfree, .ref ncells, .ref nindex, .ref nnear, .ref nnearCount, .ref npay, .ref ndone, .ref npile, .int vtop, .ref nnow, .ref nthen, .ref nchoice, .int vfound, .int vlength, .ref nplan, .ref ncosts, .ref npaid, .ref nafter, .ref nfar, .ref nmany, .ref nnext, .int so23, .int wh24, .int on25, .int tw26])), (nwalls, .inl (cZ, 25, .inl wf)), (nstarts, .inl (cI, 25, .inl sf)), (ngoals, .inl (cI, 25, .inl gf)), (nlaid, .inl (cI, 180, .inl lf)), (nisTold, .inl (cZ, 180, .inl of))]) [5, 0, 1, 2, 3, 4] rfl
              have hD := hD.sub (ws' := [(na, .inr (7, [.int (nI W0), .int (nI H0), .ref nwalls, .int (nI n), .ref nstarts, .ref ngoals, .ref nlaid, .ref nisTold, .int vfree, .ref ncells, .ref nindex, .ref nnear, .ref nnearCount, .ref npay, .ref ndone, .ref npile, .int vtop, .ref nnow, .ref nthen, .ref nchoice, .int vfound, .int vlength, .ref nplan, .ref ncosts, .ref npaid, .ref nafter, .ref nfar, .ref nmany, .ref nnext, .int so23, .int wh24, .int on25, .int tw26])), (nwalls, .inl (cZ, 25, .inl wf)), (nstarts, .inl (cI, 25, .inl sf)), (ngoals, .inl (cI, 25, .inl gf)), (nlaid, .inl (cI, 180, .inl lf)), (nisTold, .inl (cZ, 180, .inl of))]) [5, 0, 1, 2, 3, 4] (by decide) rfl
              exact ih_b (ma + 1, so23, wh24, on25, tw26) ls H _ (by show n - (ma + 1) < n - ma; omega) ⟨by show ma + 1 ≤ n; omega, jn_2 hvb gjy hwr, hl, hP, hD, hS⟩

set_option maxHeartbeats 4000000 in
set_option maxRecDepth 100000 in
theorem c_md_judge (l : Launch) (D : va_G) (cZ cI cJ cII : ClassId) (na : Nat) (nwalls : Nat) (nstarts : Nat) (ngoals : Nat) (nlaid : Nat) (nisTold : Nat) (ncells : Nat) (nindex : Nat) (nnear : Nat) (nnearCount : Nat) (npay : Nat) (ndone : Nat) (npile : Nat) (nnow : Nat) (nthen : Nat) (nchoice : Nat) (nplan : Nat) (ncosts : Nat) (npaid : Nat) (nafter : Nat) (nfar : Nat) (nmany : Nat) (nnext : Nat) (vfree : Int32) (vtop : Int32) (vfound : Int32) (vlength : Int32) (vsort : Int32) (vwhen : Int32) (vone : Int32) (vtwo : Int32) (W0 : Nat) (H0 : Nat) (n : Nat) (wf : Nat → Int32) (sf : Nat → Int32) (gf : Nat → Int32) (lf : Nat → Int32) (of : Nat → Int32) (x : Int32) (sz : Nat) (hWH : 1 ≤ W0 ∧ W0 ≤ 6 ∧ H0 ≤ 6 ∧ W0 * H0 ≤ 25) (hn : n ≤ 5) : Met l y_md_judge w_md_judge ({ frames := 5, cells := 0, slots := 0, locals := 200 }) (va_Pc [.ref na, .int x] (mt_B D [(cZ, .boolean), (cI, .int), (cJ, .long), (cII, .array .int)] [(na, .inr (7, [.int (nI W0), .int (nI H0), .ref nwalls, .int (nI n), .ref nstarts, .ref ngoals, .ref nlaid, .ref nisTold, .int vfree, .ref ncells, .ref nindex, .ref nnear, .ref nnearCount, .ref npay, .ref ndone, .ref npile, .int vtop, .ref nnow, .ref nthen, .ref nchoice, .int vfound, .int vlength, .ref nplan, .ref ncosts, .ref npaid, .ref nafter, .ref nfar, .ref nmany, .ref nnext, .int vsort, .int vwhen, .int vone, .int vtwo])), (nwalls, .inl (cZ, 25, .inl wf)), (nstarts, .inl (cI, 25, .inl sf)), (ngoals, .inl (cI, 25, .inl gf)), (nlaid, .inl (cI, 180, .inl lf)), (nisTold, .inl (cZ, 180, .inl of))] sz)) ((fun A => va_Qi (fun (r : Int32) (u : Int32 × Int32 × Int32 × Int32) => (∃ s9 t9 l9 g9, jd_V n (fun t m => jw_P W0 H0 wf sf gf lf of m t) (rS of lf) (rE of lf) s9 t9 l9 g9 ∧ ((x = 0 ∧ r = s9) ∨ (x = 1 ∧ r = t9) ∨ (x = 2 ∧ r = l9) ∨ (x = 3 ∧ r = g9) ∨ ((¬ x = 0 ∧ ¬ x = 1 ∧ ¬ x = 2 ∧ ¬ x = 3) ∧ r = -1))) ∧ (True)) (fun (u : Int32 × Int32 × Int32 × Int32) (t : State) => mt_O D A [(na, .inr (7, [.int (nI W0), .int (nI H0), .ref nwalls, .int (nI n), .ref nstarts, .ref ngoals, .ref nlaid, .ref nisTold, .int vfree, .ref ncells, .ref nindex, .ref nnear, .ref nnearCount, .ref npay, .ref ndone, .ref npile, .int vtop, .ref nnow, .ref nthen, .ref nchoice, .int vfound, .int vlength, .ref nplan, .ref ncosts, .ref npaid, .ref nafter, .ref nfar, .ref nmany, .ref nnext, .int (u.1), .int (u.2.1), .int (u.2.2.1), .int (u.2.2.2)])), (nwalls, .inl (cZ, 25, .inl wf)), (nstarts, .inl (cI, 25, .inl sf)), (ngoals, .inl (cI, 25, .inl gf)), (nlaid, .inl (cI, 180, .inl lf)), (nisTold, .inl (cZ, 180, .inl of))] t) A) (va_A [(na, .inr (7, [.int (nI W0), .int (nI H0), .ref nwalls, .int (nI n), .ref nstarts, .ref ngoals, .ref nlaid, .ref nisTold, .int vfree, .ref ncells, .ref nindex, .ref nnear, .ref nnearCount, .ref npay, .ref ndone, .ref npile, .int vtop, .ref nnow, .ref nthen, .ref nchoice, .int vfound, .int vlength, .ref nplan, .ref ncosts, .ref npaid, .ref nafter, .ref nfar, .ref nmany, .ref nnext, .int vsort, .int vwhen, .int vone, .int vtwo])), (nwalls, .inl (cZ, 25, .inl wf)), (nstarts, .inl (cI, 25, .inl sf)), (ngoals, .inl (cI, 25, .inl gf)), (nlaid, .inl (cI, 180, .inl lf)), (nisTold, .inl (cZ, 180, .inl of))] sz)) 0 0 (va_A [(na, .inr (7, [.int (nI W0), .int (nI H0), .ref nwalls, .int (nI n), .ref nstarts, .ref ngoals, .ref nlaid, .ref nisTold, .int vfree, .ref ncells, .ref nindex, .ref nnear, .ref nnearCount, .ref npay, .ref ndone, .ref npile, .int vtop, .ref nnow, .ref nthen, .ref nchoice, .int vfound, .int vlength, .ref nplan, .ref ncosts, .ref npaid, .ref nafter, .ref nfar, .ref nmany, .ref nnext, .int vsort, .int vwhen, .int vone, .int vtwo])), (nwalls, .inl (cZ, 25, .inl wf)), (nstarts, .inl (cI, 25, .inl sf)), (ngoals, .inl (cI, 25, .inl gf)), (nlaid, .inl (cI, 180, .inl lf)), (nisTold, .inl (cZ, 180, .inl of))] sz) := by
  refine mt_of (y := y_md_judge) (n := 2) (av := [.ref na, .int x]) (QF := (fun A => va_Qi (fun (r : Int32) (u : Int32 × Int32 × Int32 × Int32) => (∃ s9 t9 l9 g9, jd_V n (fun t m => jw_P W0 H0 wf sf gf lf of m t) (rS of lf) (rE of lf) s9 t9 l9 g9 ∧ ((x = 0 ∧ r = s9) ∨ (x = 1 ∧ r = t9) ∨ (x = 2 ∧ r = l9) ∨ (x = 3 ∧ r = g9) ∨ ((¬ x = 0 ∧ ¬ x = 1 ∧ ¬ x = 2 ∧ ¬ x = 3) ∧ r = -1))) ∧ (True)) (fun (u : Int32 × Int32 × Int32 × Int32) (t : State) => mt_O D A [(na, .inr (7, [.int (nI W0), .int (nI H0), .ref nwalls, .int (nI n), .ref nstarts, .ref ngoals, .ref nlaid, .ref nisTold, .int vfree, .ref ncells, .ref nindex, .ref nnear, .ref nnearCount, .ref npay, .ref ndone, .ref npile, .int vtop, .ref nnow, .ref nthen, .ref nchoice, .int vfound, .int vlength, .ref nplan, .ref ncosts, .ref npaid, .ref nafter, .ref nfar, .ref nmany, .ref nnext, .int (u.1), .int (u.2.1), .int (u.2.2.1), .int (u.2.2.2)])), (nwalls, .inl (cZ, 25, .inl wf)), (nstarts, .inl (cI, 25, .inl sf)), (ngoals, .inl (cI, 25, .inl gf)), (nlaid, .inl (cI, 180, .inl lf)), (nisTold, .inl (cZ, 180, .inl of))] t) A)) (by decide) (Nat.le_of_ble_eq_true rfl) ?_
  intro p e s m below meth c ls A hx hb hr hlk hml hown hnm hg hl hX hP hK hD hA hS
  obtain ⟨H, hH⟩ : ∃ H : Heap, H = s.heap := ⟨_, rfl⟩
  have hS : va_S A s.heap H [] := by rw [hH]; exact va_S.rf
  rw [← hH] at hP ⊢
  have hown : s.vm.findClass R_md = some m.cls := hown
  have hl : lv_has ls 2 [(0, .ref na), (1, .int x)] := hl
  refine lv_aload_n hx hb d_md_judge_0 rfl (lv_at hl 0 rfl) ?_
  have hPc := hP
  have hDc := hD
  have hFc := mt_whole hD hS hA
  refine va_callv (va_runV (As := []) (rest := []) ⟨hx, hb, hml, hown, hg⟩ (c_md_look l D cZ cI cJ cII na nwalls nstarts ngoals nlaid nisTold ncells nindex nnear nnearCount npay ndone npile nnow nthen nchoice nplan ncosts npaid nafter nfar nmany nnext vfree vtop vfound vlength vsort vwhen vone vtwo _ _ _ wf sf gf lf of H.size hWH hn) (cwV 0 hg gv_md_215 rfl rfl rfl (by decide +kernel) ⟨Nat.le_of_ble_eq_true rfl, Nat.le_of_ble_eq_true rfl⟩) ⟨mt_bl, va_recv (q0 := 0) (ci := 7) hK hP rfl rfl, mt_pr hX hPc hK hDc⟩ rfl rfl hl.1 rfl (lv_room (Nat.le_of_ble_eq_true rfl)) d_md_judge_1 ⟨Nat.le_of_ble_eq_true rfl, Nat.le_of_ble_eq_true rfl⟩) hS (fun q _ h => hFc q h) hFc (fun u t H1 locs ht hvm hw hB hz1 hk1 hS => ?_)
  obtain ⟨so2, wh3, on4, tw5⟩ := u
  have hr1 : jd_V n (fun t m => jw_P W0 H0 wf sf gf lf of m t) (rS of lf) (rE of lf) so2 wh3 on4 tw5 := hw
  obtain ⟨hP1, hD1⟩ := hB
  rw [ht] at hP1
  have hP := hP1
  have hD := hD1.weaken (fun _ _ _ h => hFc _ h)
  generalize H1 = H at hP hS ⊢
  have hP : va_P D kls [(na, .inr (7, [.int (nI W0), .int (nI H0), .ref nwalls, .int (nI n), .ref nstarts, .ref ngoals, .ref nlaid, .ref nisTold, .int vfree, .ref ncells, .ref nindex, .ref nnear, .ref nnearCount, .ref npay, .ref ndone, .ref npile, .int vtop, .ref nnow, .ref nthen, .ref nchoice, .int vfound, .int vlength, .ref nplan, .ref ncosts, .ref npaid, .ref nafter, .ref nfar, .ref nmany, .ref nnext, .int so2, .int wh3, .int on4, .int tw5])), (nwalls, .inl (cZ, 25, .inl wf)), (nstarts, .inl (cI, 25, .inl sf)), (ngoals, .inl (cI, 25, .inl gf)), (nlaid, .inl (cI, 180, .inl lf)), (nisTold, .inl (cZ, 180, .inl of))] H := hP
  have hD : va_D A [(na, .inr (7, [.int (nI W0), .int (nI H0), .ref nwalls, .int (nI n), .ref nstarts, .ref ngoals, .ref nlaid, .ref nisTold, .int vfree, .ref ncells, .ref nindex, .ref nnear, .ref nnearCount, .ref npay, .ref ndone, .ref npile, .int vtop, .ref nnow, .ref nthen, .ref nchoice, .int vfound, .int vlength, .ref nplan, .ref ncosts, .ref npaid, .ref nafter, .ref nfar, .ref nmany, .ref nnext, .int so2, .int wh3, .int on4, .int tw5])), (nwalls, .inl (cZ, 25, .inl wf)), (nstarts, .inl (cI, 25, .inl sf)), (ngoals, .inl (cI, 25, .inl gf)), (nlaid, .inl (cI, 180, .inl lf)), (nisTold, .inl (cZ, 180, .inl of))] := hD
  have a9 := hr1
  refine lv_iload_n hx hb d_md_judge_4 rfl (lv_at hl 1 rfl) ?_
  refine lv_if_ne hx hb d_md_judge_5 rfl (fun g1 => ?_) (fun g1 => ?_)
  ·
    refine lv_iload_n hx hb d_md_judge_15 rfl (lv_at hl 1 rfl) ?_
    refine lv_iconst (v := 1) hx hb d_md_judge_16 (by decide) ?_
    refine lv_icmp_ne hx hb d_md_judge_17 rfl (fun g2 => ?_) (fun g2 => ?_)
    ·
      refine lv_iload_n hx hb d_md_judge_27 rfl (lv_at hl 1 rfl) ?_
      refine lv_iconst (v := 2) hx hb d_md_judge_28 (by decide) ?_
      refine lv_icmp_ne hx hb d_md_judge_29 rfl (fun g3 => ?_) (fun g3 => ?_)
      ·
        refine lv_iload_n hx hb d_md_judge_39 rfl (lv_at hl 1 rfl) ?_
        refine lv_iconst (v := 3) hx hb d_md_judge_40 (by decide) ?_
        refine lv_icmp_ne hx hb d_md_judge_41 rfl (fun g4 => ?_) (fun g4 => ?_)
        ·
          refine lv_iconst (v := (-1)) hx hb d_md_judge_51 (by decide) ?_
          have hP9 := hP
          have hD9 := hD
          exact W.iret hx hb hr (fun t ht hW => ⟨⟨(-1), (so2, wh3, on4, tw5), rfl, ⟨⟨_, _, _, _, a9, Or.inr (Or.inr (Or.inr (Or.inr ⟨⟨g1, g2, g3, g4⟩, rfl⟩)))⟩, trivial⟩, by rw [ht]; exact hP9, hD9⟩, hS.F ht⟩) hS.2.2 d_md_judge_52
        ·
          refine lv_aload_n hx hb d_md_judge_44 rfl (lv_at hl 0 rfl) ?_
          refine gf_md_205 hx hb hg hown hK hP 0 rfl rfl d_md_judge_45 ?_
          refine lv_goto hx hb d_md_judge_48 rfl ?_
          have hP9 := hP
          have hD9 := hD
          exact W.iret hx hb hr (fun t ht hW => ⟨⟨tw5, (so2, wh3, on4, tw5), rfl, ⟨⟨_, _, _, _, a9, Or.inr (Or.inr (Or.inr (Or.inl ⟨g4, rfl⟩)))⟩, trivial⟩, by rw [ht]; exact hP9, hD9⟩, hS.F ht⟩) hS.2.2 d_md_judge_52
      ·
        refine lv_aload_n hx hb d_md_judge_32 rfl (lv_at hl 0 rfl) ?_
        refine gf_md_202 hx hb hg hown hK hP 0 rfl rfl d_md_judge_33 ?_
        refine lv_goto hx hb d_md_judge_36 rfl ?_
        have hP9 := hP
        have hD9 := hD
        exact W.iret hx hb hr (fun t ht hW => ⟨⟨on4, (so2, wh3, on4, tw5), rfl, ⟨⟨_, _, _, _, a9, Or.inr (Or.inr (Or.inl ⟨g3, rfl⟩))⟩, trivial⟩, by rw [ht]; exact hP9, hD9⟩, hS.F ht⟩) hS.2.2 d_md_judge_52
    ·
      refine lv_aload_n hx hb d_md_judge_20 rfl (lv_at hl 0 rfl) ?_
      refine gf_md_199 hx hb hg hown hK hP 0 rfl rfl d_md_judge_21 ?_
      refine lv_goto hx hb d_md_judge_24 rfl ?_
      have hP9 := hP
      have hD9 := hD
      exact W.iret hx hb hr (fun t ht hW => ⟨⟨wh3, (so2, wh3, on4, tw5), rfl, ⟨⟨_, _, _, _, a9, Or.inr (Or.inl ⟨g2, rfl⟩)⟩, trivial⟩, by rw [ht]; exact hP9, hD9⟩, hS.F ht⟩) hS.2.2 d_md_judge_52
  ·
    refine lv_aload_n hx hb d_md_judge_8 rfl (lv_at hl 0 rfl) ?_
    refine gf_md_196 hx hb hg hown hK hP 0 rfl rfl d_md_judge_9 ?_
    refine lv_goto hx hb d_md_judge_12 rfl ?_
    have hP9 := hP
    have hD9 := hD
    exact W.iret hx hb hr (fun t ht hW => ⟨⟨so2, (so2, wh3, on4, tw5), rfl, ⟨⟨_, _, _, _, a9, Or.inl ⟨g1, rfl⟩⟩, trivial⟩, by rw [ht]; exact hP9, hD9⟩, hS.F ht⟩) hS.2.2 d_md_judge_52

set_option maxHeartbeats 4000000 in
set_option maxRecDepth 100000 in
theorem c_md_cost (l : Launch) (D : va_G) (cZ cI cJ cII : ClassId) (na : Nat) (nwalls : Nat) (nstarts : Nat) (ngoals : Nat) (nlaid : Nat) (nisTold : Nat) (ncells : Nat) (nindex : Nat) (nnear : Nat) (nnearCount : Nat) (npay : Nat) (ndone : Nat) (npile : Nat) (nnow : Nat) (nthen : Nat) (nchoice : Nat) (nplan : Nat) (ncosts : Nat) (npaid : Nat) (nafter : Nat) (nfar : Nat) (nmany : Nat) (nnext : Nat) (vfree : Int32) (vtop : Int32) (vfound : Int32) (vlength : Int32) (vsort : Int32) (vwhen : Int32) (vone : Int32) (vtwo : Int32) (W0 : Nat) (H0 : Nat) (n : Nat) (wf : Nat → Int32) (sf : Nat → Int32) (gf : Nat → Int32) (cf : Nat → Int32) (x : Int32) (sz : Nat) (hI : mv_I W0 H0 n wf sf gf vfound vlength) : Met l y_md_cost w_md_cost ({ frames := 1, cells := 0, slots := 0, locals := 40 }) (va_Pc [.ref na, .int x] (mt_B D [(cZ, .boolean), (cI, .int), (cJ, .long), (cII, .array .int)] [(na, .inr (7, [.int (nI W0), .int (nI H0), .ref nwalls, .int (nI n), .ref nstarts, .ref ngoals, .ref nlaid, .ref nisTold, .int vfree, .ref ncells, .ref nindex, .ref nnear, .ref nnearCount, .ref npay, .ref ndone, .ref npile, .int vtop, .ref nnow, .ref nthen, .ref nchoice, .int vfound, .int vlength, .ref nplan, .ref ncosts, .ref npaid, .ref nafter, .ref nfar, .ref nmany, .ref nnext, .int vsort, .int vwhen, .int vone, .int vtwo])), (ncosts, .inl (cI, 6, .inl cf))] sz)) (vp_Si (fun r : Int32 => True)) 0 0 (fun _ => False) := by
  refine mt_ofR (by decide) (Nat.le_of_ble_eq_true rfl) ?_
  intro p e s m below meth c ls hx hb hr hlk hml hown hg hl hX hP hK hD
  have hown : s.vm.findClass R_md = some m.cls := hown
  obtain ⟨H, hH⟩ : ∃ H : Heap, H = s.heap := ⟨_, rfl⟩
  rw [← hH] at hP ⊢
  have hl : lv_has ls 2 [(0, .ref na), (1, .int x)] := hl
  refine lv_aload_n hx hb d_md_cost_0 rfl (lv_at hl 0 rfl) ?_
  refine gf_md_89 hx hb hg hown hK hP 0 rfl rfl d_md_cost_1 ?_
  refine lv_if_eq hx hb d_md_cost_4 rfl (fun g0 => ?_) (fun g0 => ?_)
  ·
    refine lv_iconst (v := (-1)) hx hb d_md_cost_15 (by decide) ?_
    refine lv_goto hx hb d_md_cost_16 rfl ?_
    exact W.iret hx hb hr (fun t ht _ => ⟨(-1), rfl, trivial, ht.trans hH⟩) (fun _ h => absurd h List.not_mem_nil) d_md_cost_25
  ·
    refine lv_aload_n hx hb d_md_cost_7 rfl (lv_at hl 0 rfl) ?_
    refine lv_iload_n hx hb d_md_cost_8 rfl (lv_at hl 1 rfl) ?_
    have hPc := hP.sub (ws' := [(na, .inr (7, [.int (nI W0), .int (nI H0), .ref nwalls, .int (nI n), .ref nstarts, .ref ngoals, .ref nlaid, .ref nisTold, .int vfree, .ref ncells, .ref nindex, .ref nnear, .ref nnearCount, .ref npay, .ref ndone, .ref npile, .int vtop, .ref nnow, .ref nthen, .ref nchoice, .int vfound, .int vlength, .ref nplan, .ref ncosts, .ref npaid, .ref nafter, .ref nfar, .ref nmany, .ref nnext, .int vsort, .int vwhen, .int vone, .int vtwo]))]) [0] rfl
    have hDc := hD.sub (ws' := [(na, .inr (7, [.int (nI W0), .int (nI H0), .ref nwalls, .int (nI n), .ref nstarts, .ref ngoals, .ref nlaid, .ref nisTold, .int vfree, .ref ncells, .ref nindex, .ref nnear, .ref nnearCount, .ref npay, .ref ndone, .ref npile, .int vtop, .ref nnow, .ref nthen, .ref nchoice, .int vfound, .int vlength, .ref nplan, .ref ncosts, .ref npaid, .ref nafter, .ref nfar, .ref nmany, .ref nnext, .int vsort, .int vwhen, .int vone, .int vtwo]))]) [0] (by decide) rfl
    refine vp_callSi (W.runV (As := [.int x]) (rest := []) ⟨hx, hb, hml, hown, hg⟩ (c_md_isMover l D cZ cI cJ cII na nwalls nstarts ngoals nlaid nisTold ncells nindex nnear nnearCount npay ndone npile nnow nthen nchoice nplan ncosts npaid nafter nfar nmany nnext vfree vtop vfound vlength vsort vwhen vone vtwo _ _ _ x H.size ) (cwV 1 hg gv_md_111 rfl rfl rfl (by decide +kernel) ⟨Nat.le_of_ble_eq_true rfl, Nat.le_of_ble_eq_true rfl⟩) ⟨mt_bl, va_recv (q0 := 0) (ci := 7) hK hP rfl rfl, mt_pr hX hPc hK hDc⟩ rfl rfl hl.1 rfl (lv_room (Nat.le_of_ble_eq_true rfl)) d_md_cost_9 ⟨Nat.le_of_ble_eq_true rfl, Nat.le_of_ble_eq_true rfl⟩) (fun r1 hr1 => ?_)
    have hr1 : (r1 = 1 ∧ ¬ x < 0 ∧ ¬ nI n ≤ x) ∨ (r1 = 0 ∧ (x < 0 ∨ nI n ≤ x)) := hr1
    have hhas := hr1
    refine lv_if_ne hx hb d_md_cost_12 rfl (fun g1 => ?_) (fun g1 => ?_)
    ·
      obtain ⟨k, hkx, hk⟩ := xv_hs hI.2.1 (hhas.elim (fun q => q.2) (fun q => absurd q.1 g1))
      subst hkx
      have hn5 := hI.2.1
      have hl : lv_has ls 2 [(0, .ref na), (1, .int (nI k))] := hl
      refine lv_aload_n hx hb d_md_cost_19 rfl (lv_at hl 0 rfl) ?_
      refine gf_md_67 hx hb hg hown hK hP 0 rfl rfl d_md_cost_20 ?_
      refine lv_iload_n hx hb d_md_cost_23 rfl (lv_at hl 1 rfl) ?_
      refine va_iald hx hb hK hP 1 1 rfl rfl (vp_in_nI (show k < 6 by omega) (by decide)) d_md_cost_24 ?_
      exact W.iret hx hb hr (fun t ht _ => ⟨cf (nI k : Int32).toNatClampNeg, rfl, trivial, ht.trans hH⟩) (fun _ h => absurd h List.not_mem_nil) d_md_cost_25
    ·
      refine lv_iconst (v := (-1)) hx hb d_md_cost_15 (by decide) ?_
      refine lv_goto hx hb d_md_cost_16 rfl ?_
      exact W.iret hx hb hr (fun t ht _ => ⟨(-1), rfl, trivial, ht.trans hH⟩) (fun _ h => absurd h List.not_mem_nil) d_md_cost_25

theorem mt_nl {x : Int32} (h : 0 ≤ x) : ¬ x < 0 := Int32.not_lt.mpr h

set_option maxHeartbeats 4000000 in
set_option maxRecDepth 100000 in
theorem c_md_at (l : Launch) (D : va_G) (cZ cI cJ cII : ClassId) (na : Nat) (nwalls : Nat) (nstarts : Nat) (ngoals : Nat) (nlaid : Nat) (nisTold : Nat) (ncells : Nat) (nindex : Nat) (nnear : Nat) (nnearCount : Nat) (npay : Nat) (ndone : Nat) (npile : Nat) (nnow : Nat) (nthen : Nat) (nchoice : Nat) (nplan : Nat) (ncosts : Nat) (npaid : Nat) (nafter : Nat) (nfar : Nat) (nmany : Nat) (nnext : Nat) (vfree : Int32) (vtop : Int32) (vfound : Int32) (vlength : Int32) (vsort : Int32) (vwhen : Int32) (vone : Int32) (vtwo : Int32) (W0 : Nat) (H0 : Nat) (n : Nat) (wf : Nat → Int32) (sf : Nat → Int32) (gf : Nat → Int32) (pf : Nat → Int32) (x : Int32) (y : Int32) (sz : Nat) (hI : mv_I W0 H0 n wf sf gf vfound vlength) : Met l y_md_at w_md_at ({ frames := 1, cells := 0, slots := 0, locals := 40 }) (va_Pc [.ref na, .int x, .int y] (mt_B D [(cZ, .boolean), (cI, .int), (cJ, .long), (cII, .array .int)] [(na, .inr (7, [.int (nI W0), .int (nI H0), .ref nwalls, .int (nI n), .ref nstarts, .ref ngoals, .ref nlaid, .ref nisTold, .int vfree, .ref ncells, .ref nindex, .ref nnear, .ref nnearCount, .ref npay, .ref ndone, .ref npile, .int vtop, .ref nnow, .ref nthen, .ref nchoice, .int vfound, .int vlength, .ref nplan, .ref ncosts, .ref npaid, .ref nafter, .ref nfar, .ref nmany, .ref nnext, .int vsort, .int vwhen, .int vone, .int vtwo])), (nplan, .inl (cI, 1260, .inl pf))] sz)) (vp_Si (fun r : Int32 => True)) 0 0 (fun _ => False) := by
  refine mt_ofR (by decide) (Nat.le_of_ble_eq_true rfl) ?_
  intro p e s m below meth c ls hx hb hr hlk hml hown hg hl hX hP hK hD
  have hown : s.vm.findClass R_md = some m.cls := hown
  obtain ⟨H, hH⟩ : ∃ H : Heap, H = s.heap := ⟨_, rfl⟩
  rw [← hH] at hP ⊢
  have hl : lv_has ls 3 [(0, .ref na), (1, .int x), (2, .int y)] := hl
  refine lv_aload_n hx hb d_md_at_0 rfl (lv_at hl 0 rfl) ?_
  refine gf_md_89 hx hb hg hown hK hP 0 rfl rfl d_md_at_1 ?_
  refine lv_if_eq hx hb d_md_at_4 rfl (fun g0 => ?_) (fun g0 => ?_)
  ·
    refine lv_iconst (v := (-1)) hx hb d_md_at_19 (by decide) ?_
    exact W.iret hx hb hr (fun t ht _ => ⟨(-1), rfl, trivial, ht.trans hH⟩) (fun _ h => absurd h List.not_mem_nil) d_md_at_20
  ·
    refine lv_aload_n hx hb d_md_at_7 rfl (lv_at hl 0 rfl) ?_
    refine lv_iload_n hx hb d_md_at_8 rfl (lv_at hl 1 rfl) ?_
    have hPc := hP.sub (ws' := [(na, .inr (7, [.int (nI W0), .int (nI H0), .ref nwalls, .int (nI n), .ref nstarts, .ref ngoals, .ref nlaid, .ref nisTold, .int vfree, .ref ncells, .ref nindex, .ref nnear, .ref nnearCount, .ref npay, .ref ndone, .ref npile, .int vtop, .ref nnow, .ref nthen, .ref nchoice, .int vfound, .int vlength, .ref nplan, .ref ncosts, .ref npaid, .ref nafter, .ref nfar, .ref nmany, .ref nnext, .int vsort, .int vwhen, .int vone, .int vtwo]))]) [0] rfl
    have hDc := hD.sub (ws' := [(na, .inr (7, [.int (nI W0), .int (nI H0), .ref nwalls, .int (nI n), .ref nstarts, .ref ngoals, .ref nlaid, .ref nisTold, .int vfree, .ref ncells, .ref nindex, .ref nnear, .ref nnearCount, .ref npay, .ref ndone, .ref npile, .int vtop, .ref nnow, .ref nthen, .ref nchoice, .int vfound, .int vlength, .ref nplan, .ref ncosts, .ref npaid, .ref nafter, .ref nfar, .ref nmany, .ref nnext, .int vsort, .int vwhen, .int vone, .int vtwo]))]) [0] (by decide) rfl
    refine vp_callSi (W.runV (As := [.int x]) (rest := []) ⟨hx, hb, hml, hown, hg⟩ (c_md_isMover l D cZ cI cJ cII na nwalls nstarts ngoals nlaid nisTold ncells nindex nnear nnearCount npay ndone npile nnow nthen nchoice nplan ncosts npaid nafter nfar nmany nnext vfree vtop vfound vlength vsort vwhen vone vtwo _ _ _ x H.size ) (cwV 1 hg gv_md_111 rfl rfl rfl (by decide +kernel) ⟨Nat.le_of_ble_eq_true rfl, Nat.le_of_ble_eq_true rfl⟩) ⟨mt_bl, va_recv (q0 := 0) (ci := 7) hK hP rfl rfl, mt_pr hX hPc hK hDc⟩ rfl rfl hl.1 rfl (lv_room (Nat.le_of_ble_eq_true rfl)) d_md_at_9 ⟨Nat.le_of_ble_eq_true rfl, Nat.le_of_ble_eq_true rfl⟩) (fun r1 hr1 => ?_)
    have hr1 : (r1 = 1 ∧ ¬ x < 0 ∧ ¬ nI n ≤ x) ∨ (r1 = 0 ∧ (x < 0 ∨ nI n ≤ x)) := hr1
    have hhas := hr1
    refine lv_if_eq hx hb d_md_at_12 rfl (fun g1 => ?_) (fun g1 => ?_)
    ·
      refine lv_iconst (v := (-1)) hx hb d_md_at_19 (by decide) ?_
      exact W.iret hx hb hr (fun t ht _ => ⟨(-1), rfl, trivial, ht.trans hH⟩) (fun _ h => absurd h List.not_mem_nil) d_md_at_20
    ·
      refine lv_iload_n hx hb d_md_at_15 rfl (lv_at hl 2 rfl) ?_
      refine lv_if_ge hx hb d_md_at_16 rfl (fun g2 => ?_) (fun g2 => ?_)
      ·
        obtain ⟨k, hkx, hk⟩ := xv_hs hI.2.1 (hhas.elim (fun q => q.2) (fun q => absurd q.1 g1))
        subst hkx
        have hn5 := hI.2.1
        have hl : lv_has ls 3 [(0, .ref na), (1, .int (nI k)), (2, .int y)] := hl
        obtain ⟨tt, htt, rfl⟩ := nI_of (mt_nl g2)
        obtain ⟨Ln, hLn, hle⟩ := hI.2.2.2.1.resolve_left g0
        rw [hle] at hP hD
        have hl : lv_has ls 3 [(0, .ref na), (1, .int (nI k)), (2, .int (nI tt))] := hl
        have hP : va_P D kls [(na, .inr (7, [.int (nI W0), .int (nI H0), .ref nwalls, .int (nI n), .ref nstarts, .ref ngoals, .ref nlaid, .ref nisTold, .int vfree, .ref ncells, .ref nindex, .ref nnear, .ref nnearCount, .ref npay, .ref ndone, .ref npile, .int vtop, .ref nnow, .ref nthen, .ref nchoice, .int vfound, .int (nI Ln), .ref nplan, .ref ncosts, .ref npaid, .ref nafter, .ref nfar, .ref nmany, .ref nnext, .int vsort, .int vwhen, .int vone, .int vtwo])), (nplan, .inl (cI, 1260, .inl pf))] H := hP
        refine lv_aload_n hx hb d_md_at_21 rfl (lv_at hl 0 rfl) ?_
        refine gf_md_64 hx hb hg hown hK hP 0 rfl rfl d_md_at_22 ?_
        refine lv_bipush (v := 6) hx hb d_md_at_25 (by decide) ?_
        refine lv_iload_n hx hb d_md_at_27 rfl (lv_at hl 2 rfl) ?_
        refine lv_aload_n hx hb d_md_at_28 rfl (lv_at hl 0 rfl) ?_
        refine gf_md_167 hx hb hg hown hK hP 0 rfl rfl d_md_at_29 ?_
        refine lv_icmp_ge hx hb d_md_at_32 rfl (fun g3 => ?_) (fun g3 => ?_)
        ·
          have g4 : Ln ≤ tt := by rcases Nat.lt_or_ge tt Ln with h | h; exact absurd g3 (nI_ge (b := Ln) h (by omega)); exact h
          refine lv_aload_n hx hb d_md_at_39 rfl (lv_at hl 0 rfl) ?_
          refine gf_md_167 hx hb hg hown hK hP 0 rfl rfl d_md_at_40 ?_
          refine lv_imul hx hb d_md_at_43 ?_
          refine lv_topi (fun y2 ey2 => ?_)
          have ey2 : y2 = nI (6 * Ln) := ey2.trans (by rw [show (6 : Int32) = nI 6 from rfl, pk_mul])
          subst ey2
          refine lv_iload_n hx hb d_md_at_44 rfl (lv_at hl 1 rfl) ?_
          refine lv_iadd hx hb d_md_at_45 ?_
          refine lv_topi (fun y3 ey3 => ?_)
          have ey3 : y3 = nI (6 * Ln + k) := ey3.trans (nI_add _ _)
          subst ey3
          refine va_iald hx hb hK hP 1 1 rfl rfl (vp_in_nI (show 6 * Ln + k < 1260 by omega) (by decide)) d_md_at_46 ?_
          exact W.iret hx hb hr (fun t ht _ => ⟨pf (nI (6 * Ln + k) : Int32).toNatClampNeg, rfl, trivial, ht.trans hH⟩) (fun _ h => absurd h List.not_mem_nil) d_md_at_47
        ·
          have g4 : tt < Ln := by rcases Nat.lt_or_ge tt Ln with h | h; exact h; exact absurd (nI_le h htt) g3
          refine lv_iload_n hx hb d_md_at_35 rfl (lv_at hl 2 rfl) ?_
          refine lv_goto hx hb d_md_at_36 rfl ?_
          refine lv_imul hx hb d_md_at_43 ?_
          refine lv_topi (fun y4 ey4 => ?_)
          have ey4 : y4 = nI (6 * tt) := ey4.trans (by rw [show (6 : Int32) = nI 6 from rfl, pk_mul])
          subst ey4
          refine lv_iload_n hx hb d_md_at_44 rfl (lv_at hl 1 rfl) ?_
          refine lv_iadd hx hb d_md_at_45 ?_
          refine lv_topi (fun y5 ey5 => ?_)
          have ey5 : y5 = nI (6 * tt + k) := ey5.trans (nI_add _ _)
          subst ey5
          refine va_iald hx hb hK hP 1 1 rfl rfl (vp_in_nI (show 6 * tt + k < 1260 by omega) (by decide)) d_md_at_46 ?_
          exact W.iret hx hb hr (fun t ht _ => ⟨pf (nI (6 * tt + k) : Int32).toNatClampNeg, rfl, trivial, ht.trans hH⟩) (fun _ h => absurd h List.not_mem_nil) d_md_at_47
      ·
        refine lv_iconst (v := (-1)) hx hb d_md_at_19 (by decide) ?_
        exact W.iret hx hb hr (fun t ht _ => ⟨(-1), rfl, trivial, ht.trans hH⟩) (fun _ h => absurd h List.not_mem_nil) d_md_at_20
