set_option maxHeartbeats 4000000 in
set_option maxRecDepth 100000 in
theorem c_md_size (l : Launch) (D : va_G) (cZ cI cJ cII : ClassId) (na : Nat) (nwalls : Nat) (nstarts : Nat) (ngoals : Nat) (nlaid : Nat) (nisTold : Nat) (ncells : Nat) (nindex : Nat) (nnear : Nat) (nnearCount : Nat) (npay : Nat) (ndone : Nat) (npile : Nat) (nnow : Nat) (nthen : Nat) (nchoice : Nat) (nplan : Nat) (ncosts : Nat) (npaid : Nat) (nafter : Nat) (nfar : Nat) (nmany : Nat) (nnext : Nat) (vwide : Int32) (vhigh : Int32) (vmovers : Int32) (vfree : Int32) (vtop : Int32) (vfound : Int32) (vlength : Int32) (vsort : Int32) (vwhen : Int32) (vone : Int32) (vtwo : Int32) (sz : Nat)  : Met l y_md_size w_md_size ({ frames := 0, cells := 0, slots := 0, locals := 0 }) (va_Pc [.ref na] (mt_B D [(cZ, .boolean), (cI, .int), (cJ, .long), (cII, .array .int)] [(na, .inr (7, [.int vwide, .int vhigh, .ref nwalls, .int vmovers, .ref nstarts, .ref ngoals, .ref nlaid, .ref nisTold, .int vfree, .ref ncells, .ref nindex, .ref nnear, .ref nnearCount, .ref npay, .ref ndone, .ref npile, .int vtop, .ref nnow, .ref nthen, .ref nchoice, .int vfound, .int vlength, .ref nplan, .ref ncosts, .ref npaid, .ref nafter, .ref nfar, .ref nmany, .ref nnext, .int vsort, .int vwhen, .int vone, .int vtwo]))] sz)) (vp_Si (fun r : Int32 => r = vwide * vhigh)) 0 0 (fun _ => False) := by
  refine mt_ofR (by decide) (Nat.le_of_ble_eq_true rfl) ?_
  intro p e s m below meth c ls hx hb hr hlk hml hown hg hl hX hP hK hD
  have hown : s.vm.findClass R_md = some m.cls := hown
  obtain ⟨H, hH⟩ : ∃ H : Heap, H = s.heap := ⟨_, rfl⟩
  rw [← hH] at hP ⊢
  have hl : lv_has ls 1 [(0, .ref na)] := hl
  refine lv_aload_n hx hb d_md_size_0 rfl (lv_at hl 0 rfl) ?_
  refine gf_md_7 hx hb hg hown hK hP 0 rfl rfl d_md_size_1 ?_
  refine lv_aload_n hx hb d_md_size_4 rfl (lv_at hl 0 rfl) ?_
  refine gf_md_13 hx hb hg hown hK hP 0 rfl rfl d_md_size_5 ?_
  refine lv_imul hx hb d_md_size_8 ?_
  exact W.iret hx hb hr (fun t ht _ => ⟨vwide * vhigh, rfl, rfl, ht.trans hH⟩) (fun _ h => absurd h List.not_mem_nil) d_md_size_9

set_option maxHeartbeats 4000000 in
set_option maxRecDepth 100000 in
theorem c_md_isCell (l : Launch) (D : va_G) (cZ cI cJ cII : ClassId) (na : Nat) (nwalls : Nat) (nstarts : Nat) (ngoals : Nat) (nlaid : Nat) (nisTold : Nat) (ncells : Nat) (nindex : Nat) (nnear : Nat) (nnearCount : Nat) (npay : Nat) (ndone : Nat) (npile : Nat) (nnow : Nat) (nthen : Nat) (nchoice : Nat) (nplan : Nat) (ncosts : Nat) (npaid : Nat) (nafter : Nat) (nfar : Nat) (nmany : Nat) (nnext : Nat) (vwide : Int32) (vhigh : Int32) (vmovers : Int32) (vfree : Int32) (vtop : Int32) (vfound : Int32) (vlength : Int32) (vsort : Int32) (vwhen : Int32) (vone : Int32) (vtwo : Int32) (x : Int32) (sz : Nat)  : Met l y_md_isCell w_md_isCell ({ frames := 1, cells := 0, slots := 0, locals := 40 }) (va_Pc [.ref na, .int x] (mt_B D [(cZ, .boolean), (cI, .int), (cJ, .long), (cII, .array .int)] [(na, .inr (7, [.int vwide, .int vhigh, .ref nwalls, .int vmovers, .ref nstarts, .ref ngoals, .ref nlaid, .ref nisTold, .int vfree, .ref ncells, .ref nindex, .ref nnear, .ref nnearCount, .ref npay, .ref ndone, .ref npile, .int vtop, .ref nnow, .ref nthen, .ref nchoice, .int vfound, .int vlength, .ref nplan, .ref ncosts, .ref npaid, .ref nafter, .ref nfar, .ref nmany, .ref nnext, .int vsort, .int vwhen, .int vone, .int vtwo]))] sz)) (vp_Si (fun r : Int32 => (r = 1 ∧ ¬ x < 0 ∧ ¬ vwide * vhigh ≤ x) ∨ (r = 0 ∧ (x < 0 ∨ vwide * vhigh ≤ x)))) 0 0 (fun _ => False) := by
  refine mt_ofR (by decide) (Nat.le_of_ble_eq_true rfl) ?_
  intro p e s m below meth c ls hx hb hr hlk hml hown hg hl hX hP hK hD
  have hown : s.vm.findClass R_md = some m.cls := hown
  obtain ⟨H, hH⟩ : ∃ H : Heap, H = s.heap := ⟨_, rfl⟩
  rw [← hH] at hP ⊢
  have hl : lv_has ls 2 [(0, .ref na), (1, .int x)] := hl
  refine lv_iload_n hx hb d_md_isCell_0 rfl (lv_at hl 1 rfl) ?_
  refine lv_if_lt hx hb d_md_isCell_1 rfl (fun g1 => ?_) (fun g1 => ?_)
  ·
    refine lv_iconst (v := 0) hx hb d_md_isCell_16 (by decide) ?_
    exact W.zret hx hb hr rfl (fun t ht _ => ⟨0, rfl, Or.inr ⟨rfl, Or.inl g1⟩, ht.trans hH⟩) (fun _ h => absurd h List.not_mem_nil) d_md_isCell_17
  ·
    refine lv_iload_n hx hb d_md_isCell_4 rfl (lv_at hl 1 rfl) ?_
    refine lv_aload_n hx hb d_md_isCell_5 rfl (lv_at hl 0 rfl) ?_
    have hPc := hP
    have hDc := hD
    refine vp_callSi (W.runV (As := []) (rest := [.int x]) ⟨hx, hb, hml, hown, hg⟩ (c_md_size l D cZ cI cJ cII na nwalls nstarts ngoals nlaid nisTold ncells nindex nnear nnearCount npay ndone npile nnow nthen nchoice nplan ncosts npaid nafter nfar nmany nnext vwide vhigh vmovers vfree vtop vfound vlength vsort vwhen vone vtwo H.size ) (cwV 0 hg gv_md_93 rfl rfl rfl (by decide +kernel) ⟨Nat.le_of_ble_eq_true rfl, Nat.le_of_ble_eq_true rfl⟩) ⟨mt_bl, va_recv (q0 := 0) (ci := 7) hK hP rfl rfl, mt_pr hX hPc hK hDc⟩ rfl rfl hl.1 rfl (lv_room (Nat.le_of_ble_eq_true rfl)) d_md_isCell_6 ⟨Nat.le_of_ble_eq_true rfl, Nat.le_of_ble_eq_true rfl⟩) (fun r1 hr1 => ?_)
    have hr1 : r1 = vwide * vhigh := hr1
    have hr1 : r1 = vwide * vhigh := hr1
    subst hr1
    refine lv_icmp_ge hx hb d_md_isCell_9 rfl (fun g2 => ?_) (fun g2 => ?_)
    ·
      refine lv_iconst (v := 0) hx hb d_md_isCell_16 (by decide) ?_
      exact W.zret hx hb hr rfl (fun t ht _ => ⟨0, rfl, Or.inr ⟨rfl, Or.inr g2⟩, ht.trans hH⟩) (fun _ h => absurd h List.not_mem_nil) d_md_isCell_17
    ·
      refine lv_iconst (v := 1) hx hb d_md_isCell_12 (by decide) ?_
      refine lv_goto hx hb d_md_isCell_13 rfl ?_
      exact W.zret hx hb hr rfl (fun t ht _ => ⟨1, rfl, Or.inl ⟨rfl, g1, g2⟩, ht.trans hH⟩) (fun _ h => absurd h List.not_mem_nil) d_md_isCell_17

set_option maxHeartbeats 4000000 in
set_option maxRecDepth 100000 in
theorem c_md_isFree (l : Launch) (D : va_G) (cZ cI cJ cII : ClassId) (na : Nat) (nwalls : Nat) (nstarts : Nat) (ngoals : Nat) (nlaid : Nat) (nisTold : Nat) (ncells : Nat) (nindex : Nat) (nnear : Nat) (nnearCount : Nat) (npay : Nat) (ndone : Nat) (npile : Nat) (nnow : Nat) (nthen : Nat) (nchoice : Nat) (nplan : Nat) (ncosts : Nat) (npaid : Nat) (nafter : Nat) (nfar : Nat) (nmany : Nat) (nnext : Nat) (vwide : Int32) (vhigh : Int32) (vmovers : Int32) (vfree : Int32) (vtop : Int32) (vfound : Int32) (vlength : Int32) (vsort : Int32) (vwhen : Int32) (vone : Int32) (vtwo : Int32) (wf : Nat → Int32) (x : Int32) (sz : Nat) (hb25 : ∀ x : Int32, ¬ x < 0 → ¬ vwide * vhigh ≤ x → vp_in x 25) : Met l y_md_isFree w_md_isFree ({ frames := 2, cells := 0, slots := 0, locals := 80 }) (va_Pc [.ref na, .int x] (mt_B D [(cZ, .boolean), (cI, .int), (cJ, .long), (cII, .array .int)] [(na, .inr (7, [.int vwide, .int vhigh, .ref nwalls, .int vmovers, .ref nstarts, .ref ngoals, .ref nlaid, .ref nisTold, .int vfree, .ref ncells, .ref nindex, .ref nnear, .ref nnearCount, .ref npay, .ref ndone, .ref npile, .int vtop, .ref nnow, .ref nthen, .ref nchoice, .int vfound, .int vlength, .ref nplan, .ref ncosts, .ref npaid, .ref nafter, .ref nfar, .ref nmany, .ref nnext, .int vsort, .int vwhen, .int vone, .int vtwo])), (nwalls, .inl (cZ, 25, .inl wf))] sz)) (vp_Si (fun r : Int32 => (r = 1 ∧ ¬ x < 0 ∧ ¬ vwide * vhigh ≤ x ∧ wf x.toNatClampNeg = 0) ∨ (r = 0 ∧ (x < 0 ∨ vwide * vhigh ≤ x ∨ ¬ wf x.toNatClampNeg = 0)))) 0 0 (fun _ => False) := by
  refine mt_ofR (by decide) (Nat.le_of_ble_eq_true rfl) ?_
  intro p e s m below meth c ls hx hb hr hlk hml hown hg hl hX hP hK hD
  have hown : s.vm.findClass R_md = some m.cls := hown
  obtain ⟨H, hH⟩ : ∃ H : Heap, H = s.heap := ⟨_, rfl⟩
  rw [← hH] at hP ⊢
  have hl : lv_has ls 2 [(0, .ref na), (1, .int x)] := hl
  refine lv_aload_n hx hb d_md_isFree_0 rfl (lv_at hl 0 rfl) ?_
  refine lv_iload_n hx hb d_md_isFree_1 rfl (lv_at hl 1 rfl) ?_
  have hPc := hP.sub (ws' := [(na, .inr (7, [.int vwide, .int vhigh, .ref nwalls, .int vmovers, .ref nstarts, .ref ngoals, .ref nlaid, .ref nisTold, .int vfree, .ref ncells, .ref nindex, .ref nnear, .ref nnearCount, .ref npay, .ref ndone, .ref npile, .int vtop, .ref nnow, .ref nthen, .ref nchoice, .int vfound, .int vlength, .ref nplan, .ref ncosts, .ref npaid, .ref nafter, .ref nfar, .ref nmany, .ref nnext, .int vsort, .int vwhen, .int vone, .int vtwo]))]) [0] rfl
  have hDc := hD.sub (ws' := [(na, .inr (7, [.int vwide, .int vhigh, .ref nwalls, .int vmovers, .ref nstarts, .ref ngoals, .ref nlaid, .ref nisTold, .int vfree, .ref ncells, .ref nindex, .ref nnear, .ref nnearCount, .ref npay, .ref ndone, .ref npile, .int vtop, .ref nnow, .ref nthen, .ref nchoice, .int vfound, .int vlength, .ref nplan, .ref ncosts, .ref npaid, .ref nafter, .ref nfar, .ref nmany, .ref nnext, .int vsort, .int vwhen, .int vone, .int vtwo]))]) [0] (by decide) rfl
  refine vp_callSi (W.runV (As := [.int x]) (rest := []) ⟨hx, hb, hml, hown, hg⟩ (c_md_isCell l D cZ cI cJ cII na nwalls nstarts ngoals nlaid nisTold ncells nindex nnear nnearCount npay ndone npile nnow nthen nchoice nplan ncosts npaid nafter nfar nmany nnext vwide vhigh vmovers vfree vtop vfound vlength vsort vwhen vone vtwo x H.size ) (cwV 1 hg gv_md_97 rfl rfl rfl (by decide +kernel) ⟨Nat.le_of_ble_eq_true rfl, Nat.le_of_ble_eq_true rfl⟩) ⟨mt_bl, va_recv (q0 := 0) (ci := 7) hK hP rfl rfl, mt_pr hX hPc hK hDc⟩ rfl rfl hl.1 rfl (lv_room (Nat.le_of_ble_eq_true rfl)) d_md_isFree_2 ⟨Nat.le_of_ble_eq_true rfl, Nat.le_of_ble_eq_true rfl⟩) (fun r1 hr1 => ?_)
  have hr1 : (r1 = 1 ∧ ¬ x < 0 ∧ ¬ vwide * vhigh ≤ x) ∨ (r1 = 0 ∧ (x < 0 ∨ vwide * vhigh ≤ x)) := hr1
  refine lv_if_eq hx hb d_md_isFree_5 rfl (fun g1 => ?_) (fun g1 => ?_)
  ·
    refine lv_iconst (v := 0) hx hb d_md_isFree_21 (by decide) ?_
    exact W.zret hx hb hr rfl (fun t ht _ => ⟨0, rfl, Or.inr ⟨rfl, hr1.elim (fun q => absurd (q.1.symm.trans g1) (by decide)) (fun q => q.2.elim Or.inl (fun z => Or.inr (Or.inl z)))⟩, ht.trans hH⟩) (fun _ h => absurd h List.not_mem_nil) d_md_isFree_22
  ·
    have g3 : ¬ x < 0 ∧ ¬ vwide * vhigh ≤ x := hr1.elim (fun q => q.2) (fun q => absurd q.1 g1)
    refine lv_aload_n hx hb d_md_isFree_8 rfl (lv_at hl 0 rfl) ?_
    refine gf_md_16 hx hb hg hown hK hP 0 rfl rfl d_md_isFree_9 ?_
    refine lv_iload_n hx hb d_md_isFree_12 rfl (lv_at hl 1 rfl) ?_
    refine va_zald hx hb hK hP 1 0 rfl rfl (hb25 x g3.1 g3.2) d_md_isFree_13 ?_
    refine lv_if_ne hx hb d_md_isFree_14 rfl (fun g2 => ?_) (fun g2 => ?_)
    ·
      refine lv_iconst (v := 0) hx hb d_md_isFree_21 (by decide) ?_
      exact W.zret hx hb hr rfl (fun t ht _ => ⟨0, rfl, Or.inr ⟨rfl, Or.inr (Or.inr g2)⟩, ht.trans hH⟩) (fun _ h => absurd h List.not_mem_nil) d_md_isFree_22
    ·
      refine lv_iconst (v := 1) hx hb d_md_isFree_17 (by decide) ?_
      refine lv_goto hx hb d_md_isFree_18 rfl ?_
      exact W.zret hx hb hr rfl (fun t ht _ => ⟨1, rfl, Or.inl ⟨rfl, g3.1, g3.2, g2⟩, ht.trans hH⟩) (fun _ h => absurd h List.not_mem_nil) d_md_isFree_22

set_option maxHeartbeats 4000000 in
set_option maxRecDepth 100000 in
theorem c_md_isMover (l : Launch) (D : va_G) (cZ cI cJ cII : ClassId) (na : Nat) (nwalls : Nat) (nstarts : Nat) (ngoals : Nat) (nlaid : Nat) (nisTold : Nat) (ncells : Nat) (nindex : Nat) (nnear : Nat) (nnearCount : Nat) (npay : Nat) (ndone : Nat) (npile : Nat) (nnow : Nat) (nthen : Nat) (nchoice : Nat) (nplan : Nat) (ncosts : Nat) (npaid : Nat) (nafter : Nat) (nfar : Nat) (nmany : Nat) (nnext : Nat) (vwide : Int32) (vhigh : Int32) (vfree : Int32) (vtop : Int32) (vfound : Int32) (vlength : Int32) (vsort : Int32) (vwhen : Int32) (vone : Int32) (vtwo : Int32) (x : Int32) (sz : Nat)  : Met l y_md_isMover w_md_isMover ({ frames := 0, cells := 0, slots := 0, locals := 0 }) (va_Pc [.ref na, .int x] (mt_B D [(cZ, .boolean), (cI, .int), (cJ, .long), (cII, .array .int)] [(na, .inr (7, [.int vwide, .int vhigh, .ref nwalls, .int 0, .ref nstarts, .ref ngoals, .ref nlaid, .ref nisTold, .int vfree, .ref ncells, .ref nindex, .ref nnear, .ref nnearCount, .ref npay, .ref ndone, .ref npile, .int vtop, .ref nnow, .ref nthen, .ref nchoice, .int vfound, .int vlength, .ref nplan, .ref ncosts, .ref npaid, .ref nafter, .ref nfar, .ref nmany, .ref nnext, .int vsort, .int vwhen, .int vone, .int vtwo]))] sz)) (vp_Si (fun r : Int32 => r = 0)) 0 0 (fun _ => False) := by
  refine mt_ofR (by decide) (Nat.le_of_ble_eq_true rfl) ?_
  intro p e s m below meth c ls hx hb hr hlk hml hown hg hl hX hP hK hD
  have hown : s.vm.findClass R_md = some m.cls := hown
  obtain ⟨H, hH⟩ : ∃ H : Heap, H = s.heap := ⟨_, rfl⟩
  rw [← hH] at hP ⊢
  have hl : lv_has ls 2 [(0, .ref na), (1, .int x)] := hl
  refine lv_iload_n hx hb d_md_isMover_0 rfl (lv_at hl 1 rfl) ?_
  refine lv_if_lt hx hb d_md_isMover_1 rfl (fun g1 => ?_) (fun g1 => ?_)
  ·
    refine lv_iconst (v := 0) hx hb d_md_isMover_16 (by decide) ?_
    exact W.zret hx hb hr rfl (fun t ht _ => ⟨0, rfl, rfl, ht.trans hH⟩) (fun _ h => absurd h List.not_mem_nil) d_md_isMover_17
  ·
    refine lv_iload_n hx hb d_md_isMover_4 rfl (lv_at hl 1 rfl) ?_
    refine lv_aload_n hx hb d_md_isMover_5 rfl (lv_at hl 0 rfl) ?_
    refine gf_md_86 hx hb hg hown hK hP 0 rfl rfl d_md_isMover_6 ?_
    refine lv_icmp_ge hx hb d_md_isMover_9 rfl (fun _ => ?_) (fun h => absurd (mt_nn g1) h)
    refine lv_iconst (v := 0) hx hb d_md_isMover_16 (by decide) ?_
    exact W.zret hx hb hr rfl (fun t ht _ => ⟨0, rfl, rfl, ht.trans hH⟩) (fun _ h => absurd h List.not_mem_nil) d_md_isMover_17

set_option maxHeartbeats 4000000 in
set_option maxRecDepth 100000 in
theorem c_md_freeCells (l : Launch) (D : va_G) (cZ cI cJ cII : ClassId) (na : Nat) (nwalls : Nat) (nstarts : Nat) (ngoals : Nat) (nlaid : Nat) (nisTold : Nat) (ncells : Nat) (nindex : Nat) (nnear : Nat) (nnearCount : Nat) (npay : Nat) (ndone : Nat) (npile : Nat) (nnow : Nat) (nthen : Nat) (nchoice : Nat) (nplan : Nat) (ncosts : Nat) (npaid : Nat) (nafter : Nat) (nfar : Nat) (nmany : Nat) (nnext : Nat) (vmovers : Int32) (vfree : Int32) (vtop : Int32) (vfound : Int32) (vlength : Int32) (vsort : Int32) (vwhen : Int32) (vone : Int32) (vtwo : Int32) (wf : Nat → Int32) (sz : Nat) (hw0 : wf 0 = 0) : Met l y_md_freeCells w_md_freeCells ({ frames := 1, cells := 0, slots := 0, locals := 40 }) (va_Pc [.ref na] (mt_B D [(cZ, .boolean), (cI, .int), (cJ, .long), (cII, .array .int)] [(na, .inr (7, [.int 1, .int 1, .ref nwalls, .int vmovers, .ref nstarts, .ref ngoals, .ref nlaid, .ref nisTold, .int vfree, .ref ncells, .ref nindex, .ref nnear, .ref nnearCount, .ref npay, .ref ndone, .ref npile, .int vtop, .ref nnow, .ref nthen, .ref nchoice, .int vfound, .int vlength, .ref nplan, .ref ncosts, .ref npaid, .ref nafter, .ref nfar, .ref nmany, .ref nnext, .int vsort, .int vwhen, .int vone, .int vtwo])), (nwalls, .inl (cZ, 25, .inl wf))] sz)) (vp_Si (fun r : Int32 => r = 1)) 0 0 (fun _ => False) := by
  refine mt_ofR (by decide) (Nat.le_of_ble_eq_true rfl) ?_
  intro p e s m below meth c ls hx hb hr hlk hml hown hg hl hX hP hK hD
  have hown : s.vm.findClass R_md = some m.cls := hown
  obtain ⟨H, hH⟩ : ∃ H : Heap, H = s.heap := ⟨_, rfl⟩
  rw [← hH] at hP ⊢
  have hl : lv_has ls 3 [(0, .ref na)] := hl
  refine lv_iconst (v := 0) hx hb d_md_freeCells_0 (by decide) ?_
  refine lv_istore_n hx hb d_md_freeCells_1 rfl hl (by decide) rfl (fun ls hl => ?_)
  have hl : lv_has ls 3 [(1, .int 0), (0, .ref na)] := hl
  refine lv_iconst (v := 0) hx hb d_md_freeCells_2 (by decide) ?_
  refine lv_istore_n hx hb d_md_freeCells_3 rfl hl (by decide) rfl (fun ls hl => ?_)
  have hl : lv_has ls 3 [(2, .int 0), (1, .int 0), (0, .ref na)] := hl
  refine lv_iload_n hx hb d_md_freeCells_4 rfl (lv_at hl 0 rfl) ?_
  refine lv_aload_n hx hb d_md_freeCells_5 rfl (lv_at hl 2 rfl) ?_
  have hPc := hP.sub (ws' := [(na, .inr (7, [.int 1, .int 1, .ref nwalls, .int vmovers, .ref nstarts, .ref ngoals, .ref nlaid, .ref nisTold, .int vfree, .ref ncells, .ref nindex, .ref nnear, .ref nnearCount, .ref npay, .ref ndone, .ref npile, .int vtop, .ref nnow, .ref nthen, .ref nchoice, .int vfound, .int vlength, .ref nplan, .ref ncosts, .ref npaid, .ref nafter, .ref nfar, .ref nmany, .ref nnext, .int vsort, .int vwhen, .int vone, .int vtwo]))]) [0] rfl
  have hDc := hD.sub (ws' := [(na, .inr (7, [.int 1, .int 1, .ref nwalls, .int vmovers, .ref nstarts, .ref ngoals, .ref nlaid, .ref nisTold, .int vfree, .ref ncells, .ref nindex, .ref nnear, .ref nnearCount, .ref npay, .ref ndone, .ref npile, .int vtop, .ref nnow, .ref nthen, .ref nchoice, .int vfound, .int vlength, .ref nplan, .ref ncosts, .ref npaid, .ref nafter, .ref nfar, .ref nmany, .ref nnext, .int vsort, .int vwhen, .int vone, .int vtwo]))]) [0] (by decide) rfl
  refine vp_callSi (W.runV (As := []) (rest := [.int 0]) ⟨hx, hb, hml, hown, hg⟩ (c_md_size l D cZ cI cJ cII na nwalls nstarts ngoals nlaid nisTold ncells nindex nnear nnearCount npay ndone npile nnow nthen nchoice nplan ncosts npaid nafter nfar nmany nnext 1 1 vmovers vfree vtop vfound vlength vsort vwhen vone vtwo H.size ) (cwV 0 hg gv_md_93 rfl rfl rfl (by decide +kernel) ⟨Nat.le_of_ble_eq_true rfl, Nat.le_of_ble_eq_true rfl⟩) ⟨mt_bl, va_recv (q0 := 0) (ci := 7) hK hP rfl rfl, mt_pr hX hPc hK hDc⟩ rfl rfl hl.1 rfl (lv_room (Nat.le_of_ble_eq_true rfl)) d_md_freeCells_6 ⟨Nat.le_of_ble_eq_true rfl, Nat.le_of_ble_eq_true rfl⟩) (fun r1 hr1 => ?_)
  have hr1 : r1 = (1 : Int32) * (1 : Int32) := hr1
  have hr1 : r1 = 1 := hr1
  subst hr1
  refine lv_icmp_ge hx hb d_md_freeCells_9 rfl (fun h => absurd h (by decide)) (fun _ => ?_)
  refine lv_iload_n hx hb d_md_freeCells_12 rfl (lv_at hl 1 rfl) ?_
  refine lv_aload_n hx hb d_md_freeCells_13 rfl (lv_at hl 2 rfl) ?_
  refine gf_md_16 hx hb hg hown hK hP 0 rfl rfl d_md_freeCells_14 ?_
  refine lv_iload_n hx hb d_md_freeCells_17 rfl (lv_at hl 0 rfl) ?_
  refine va_zald hx hb hK hP 1 0 rfl rfl (by unfold vp_in; decide) d_md_freeCells_18 ?_
  refine lv_topi (fun y2 ey2 => ?_)
  have ey2 : y2 = 0 := ey2.trans hw0
  subst ey2
  refine lv_if_eq hx hb d_md_freeCells_19 rfl (fun _ => ?_) (fun h => absurd (by decide) h)
  refine lv_iconst (v := 1) hx hb d_md_freeCells_26 (by decide) ?_
  refine lv_iadd hx hb d_md_freeCells_27 ?_
  refine lv_topi (fun y3 ey3 => ?_)
  have ey3 : y3 = 1 := ey3.trans (by decide)
  subst ey3
  refine lv_istore_n hx hb d_md_freeCells_28 rfl hl (by decide) rfl (fun ls hl => ?_)
  have hl : lv_has ls 3 [(1, .int 1), (2, .int 0), (0, .ref na)] := hl
  refine lv_iinc (k := 1) (v := 1) hx hb d_md_freeCells_29 hl rfl (by decide) (by decide) rfl (fun ls hl => ?_)
  have hl : lv_has ls 3 [(2, .int 1), (1, .int 1), (0, .ref na)] := hl
  refine lv_goto hx hb d_md_freeCells_32 rfl ?_
  refine lv_iload_n hx hb d_md_freeCells_4 rfl (lv_at hl 0 rfl) ?_
  refine lv_aload_n hx hb d_md_freeCells_5 rfl (lv_at hl 2 rfl) ?_
  have hPc := hP.sub (ws' := [(na, .inr (7, [.int 1, .int 1, .ref nwalls, .int vmovers, .ref nstarts, .ref ngoals, .ref nlaid, .ref nisTold, .int vfree, .ref ncells, .ref nindex, .ref nnear, .ref nnearCount, .ref npay, .ref ndone, .ref npile, .int vtop, .ref nnow, .ref nthen, .ref nchoice, .int vfound, .int vlength, .ref nplan, .ref ncosts, .ref npaid, .ref nafter, .ref nfar, .ref nmany, .ref nnext, .int vsort, .int vwhen, .int vone, .int vtwo]))]) [0] rfl
  have hDc := hD.sub (ws' := [(na, .inr (7, [.int 1, .int 1, .ref nwalls, .int vmovers, .ref nstarts, .ref ngoals, .ref nlaid, .ref nisTold, .int vfree, .ref ncells, .ref nindex, .ref nnear, .ref nnearCount, .ref npay, .ref ndone, .ref npile, .int vtop, .ref nnow, .ref nthen, .ref nchoice, .int vfound, .int vlength, .ref nplan, .ref ncosts, .ref npaid, .ref nafter, .ref nfar, .ref nmany, .ref nnext, .int vsort, .int vwhen, .int vone, .int vtwo]))]) [0] (by decide) rfl
  refine vp_callSi (W.runV (As := []) (rest := [.int 1]) ⟨hx, hb, hml, hown, hg⟩ (c_md_size l D cZ cI cJ cII na nwalls nstarts ngoals nlaid nisTold ncells nindex nnear nnearCount npay ndone npile nnow nthen nchoice nplan ncosts npaid nafter nfar nmany nnext 1 1 vmovers vfree vtop vfound vlength vsort vwhen vone vtwo H.size ) (cwV 0 hg gv_md_93 rfl rfl rfl (by decide +kernel) ⟨Nat.le_of_ble_eq_true rfl, Nat.le_of_ble_eq_true rfl⟩) ⟨mt_bl, va_recv (q0 := 0) (ci := 7) hK hP rfl rfl, mt_pr hX hPc hK hDc⟩ rfl rfl hl.1 rfl (lv_room (Nat.le_of_ble_eq_true rfl)) d_md_freeCells_6 ⟨Nat.le_of_ble_eq_true rfl, Nat.le_of_ble_eq_true rfl⟩) (fun r4 hr4 => ?_)
  have hr4 : r4 = (1 : Int32) * (1 : Int32) := hr4
  have hr4 : r4 = 1 := hr4
  subst hr4
  refine lv_icmp_ge hx hb d_md_freeCells_9 rfl (fun _ => ?_) (fun h => absurd (by decide) h)
  refine lv_iload_n hx hb d_md_freeCells_35 rfl (lv_at hl 1 rfl) ?_
  exact W.iret hx hb hr (fun t ht _ => ⟨1, rfl, rfl, ht.trans hH⟩) (fun _ h => absurd h List.not_mem_nil) d_md_freeCells_36

set_option maxHeartbeats 4000000 in
set_option maxRecDepth 100000 in
theorem c_md_distance (l : Launch) (D : va_G) (cZ cI cJ cII : ClassId) (na : Nat) (nwalls : Nat) (nstarts : Nat) (ngoals : Nat) (nlaid : Nat) (nisTold : Nat) (ncells : Nat) (nindex : Nat) (nnear : Nat) (nnearCount : Nat) (npay : Nat) (ndone : Nat) (npile : Nat) (nnow : Nat) (nthen : Nat) (nchoice : Nat) (nplan : Nat) (ncosts : Nat) (npaid : Nat) (nafter : Nat) (nfar : Nat) (nmany : Nat) (nnext : Nat) (vwide : Int32) (vhigh : Int32) (vfree : Int32) (vtop : Int32) (vfound : Int32) (vlength : Int32) (vsort : Int32) (vwhen : Int32) (vone : Int32) (vtwo : Int32) (x : Int32) (sz : Nat)  : Met l y_md_distance w_md_distance ({ frames := 1, cells := 0, slots := 0, locals := 40 }) (va_Pc [.ref na, .int x] (mt_B D [(cZ, .boolean), (cI, .int), (cJ, .long), (cII, .array .int)] [(na, .inr (7, [.int vwide, .int vhigh, .ref nwalls, .int 0, .ref nstarts, .ref ngoals, .ref nlaid, .ref nisTold, .int vfree, .ref ncells, .ref nindex, .ref nnear, .ref nnearCount, .ref npay, .ref ndone, .ref npile, .int vtop, .ref nnow, .ref nthen, .ref nchoice, .int vfound, .int vlength, .ref nplan, .ref ncosts, .ref npaid, .ref nafter, .ref nfar, .ref nmany, .ref nnext, .int vsort, .int vwhen, .int vone, .int vtwo]))] sz)) (vp_Si (fun r : Int32 => r = -1)) 0 0 (fun _ => False) := by
  refine mt_ofR (by decide) (Nat.le_of_ble_eq_true rfl) ?_
  intro p e s m below meth c ls hx hb hr hlk hml hown hg hl hX hP hK hD
  have hown : s.vm.findClass R_md = some m.cls := hown
  obtain ⟨H, hH⟩ : ∃ H : Heap, H = s.heap := ⟨_, rfl⟩
  rw [← hH] at hP ⊢
  have hl : lv_has ls 2 [(0, .ref na), (1, .int x)] := hl
  refine lv_aload_n hx hb d_md_distance_0 rfl (lv_at hl 0 rfl) ?_
  refine lv_iload_n hx hb d_md_distance_1 rfl (lv_at hl 1 rfl) ?_
  have hPc := hP
  have hDc := hD
  refine vp_callSi (W.runV (As := [.int x]) (rest := []) ⟨hx, hb, hml, hown, hg⟩ (c_md_isMover l D cZ cI cJ cII na nwalls nstarts ngoals nlaid nisTold ncells nindex nnear nnearCount npay ndone npile nnow nthen nchoice nplan ncosts npaid nafter nfar nmany nnext vwide vhigh vfree vtop vfound vlength vsort vwhen vone vtwo x H.size ) (cwV 1 hg gv_md_111 rfl rfl rfl (by decide +kernel) ⟨Nat.le_of_ble_eq_true rfl, Nat.le_of_ble_eq_true rfl⟩) ⟨mt_bl, va_recv (q0 := 0) (ci := 7) hK hP rfl rfl, mt_pr hX hPc hK hDc⟩ rfl rfl hl.1 rfl (lv_room (Nat.le_of_ble_eq_true rfl)) d_md_distance_2 ⟨Nat.le_of_ble_eq_true rfl, Nat.le_of_ble_eq_true rfl⟩) (fun r1 hr1 => ?_)
  have hr1 : r1 = 0 := hr1
  have hr1 : r1 = 0 := hr1
  subst hr1
  refine lv_if_ne hx hb d_md_distance_5 rfl (fun h => absurd (by decide) h) (fun _ => ?_)
  refine lv_iconst (v := (-1)) hx hb d_md_distance_8 (by decide) ?_
  exact W.iret hx hb hr (fun t ht _ => ⟨(-1), rfl, rfl, ht.trans hH⟩) (fun _ h => absurd h List.not_mem_nil) d_md_distance_9

set_option maxHeartbeats 4000000 in
set_option maxRecDepth 100000 in
theorem c_md_ways (l : Launch) (D : va_G) (cZ cI cJ cII : ClassId) (na : Nat) (nwalls : Nat) (nstarts : Nat) (ngoals : Nat) (nlaid : Nat) (nisTold : Nat) (ncells : Nat) (nindex : Nat) (nnear : Nat) (nnearCount : Nat) (npay : Nat) (ndone : Nat) (npile : Nat) (nnow : Nat) (nthen : Nat) (nchoice : Nat) (nplan : Nat) (ncosts : Nat) (npaid : Nat) (nafter : Nat) (nfar : Nat) (nmany : Nat) (nnext : Nat) (vwide : Int32) (vhigh : Int32) (vfree : Int32) (vtop : Int32) (vfound : Int32) (vlength : Int32) (vsort : Int32) (vwhen : Int32) (vone : Int32) (vtwo : Int32) (x : Int32) (y : Int32) (sz : Nat)  : Met l y_md_ways w_md_ways ({ frames := 1, cells := 0, slots := 0, locals := 40 }) (va_Pc [.ref na, .int x, .int y] (mt_B D [(cZ, .boolean), (cI, .int), (cJ, .long), (cII, .array .int)] [(na, .inr (7, [.int vwide, .int vhigh, .ref nwalls, .int 0, .ref nstarts, .ref ngoals, .ref nlaid, .ref nisTold, .int vfree, .ref ncells, .ref nindex, .ref nnear, .ref nnearCount, .ref npay, .ref ndone, .ref npile, .int vtop, .ref nnow, .ref nthen, .ref nchoice, .int vfound, .int vlength, .ref nplan, .ref ncosts, .ref npaid, .ref nafter, .ref nfar, .ref nmany, .ref nnext, .int vsort, .int vwhen, .int vone, .int vtwo]))] sz)) (vp_Sl (fun r : Int64 => r = -1)) 0 0 (fun _ => False) := by
  refine mt_ofR (by decide) (Nat.le_of_ble_eq_true rfl) ?_
  intro p e s m below meth c ls hx hb hr hlk hml hown hg hl hX hP hK hD
  have hown : s.vm.findClass R_md = some m.cls := hown
  obtain ⟨H, hH⟩ : ∃ H : Heap, H = s.heap := ⟨_, rfl⟩
  rw [← hH] at hP ⊢
  have hl : lv_has ls 6 [(0, .ref na), (1, .int x), (2, .int y)] := hl
  refine lv_aload_n hx hb d_md_ways_0 rfl (lv_at hl 0 rfl) ?_
  refine lv_iload_n hx hb d_md_ways_1 rfl (lv_at hl 1 rfl) ?_
  have hPc := hP
  have hDc := hD
  refine vp_callSi (W.runV (As := [.int x]) (rest := []) ⟨hx, hb, hml, hown, hg⟩ (c_md_isMover l D cZ cI cJ cII na nwalls nstarts ngoals nlaid nisTold ncells nindex nnear nnearCount npay ndone npile nnow nthen nchoice nplan ncosts npaid nafter nfar nmany nnext vwide vhigh vfree vtop vfound vlength vsort vwhen vone vtwo x H.size ) (cwV 1 hg gv_md_111 rfl rfl rfl (by decide +kernel) ⟨Nat.le_of_ble_eq_true rfl, Nat.le_of_ble_eq_true rfl⟩) ⟨mt_bl, va_recv (q0 := 0) (ci := 7) hK hP rfl rfl, mt_pr hX hPc hK hDc⟩ rfl rfl hl.1 rfl (lv_room (Nat.le_of_ble_eq_true rfl)) d_md_ways_2 ⟨Nat.le_of_ble_eq_true rfl, Nat.le_of_ble_eq_true rfl⟩) (fun r1 hr1 => ?_)
  have hr1 : r1 = 0 := hr1
  have hr1 : r1 = 0 := hr1
  subst hr1
  refine lv_if_eq hx hb d_md_ways_5 rfl (fun _ => ?_) (fun h => absurd (by decide) h)
  refine lv_ldc2 hx hb hown (hg _ gx_md_118) d_md_ways_18 ?_
  exact W.lret hx hb hr (fun t ht _ => ⟨(-1), rfl, rfl, ht.trans hH⟩) (fun _ h => absurd h List.not_mem_nil) d_md_ways_21

set_option maxHeartbeats 4000000 in
set_option maxRecDepth 100000 in
theorem c_md_cost (l : Launch) (D : va_G) (cZ cI cJ cII : ClassId) (na : Nat) (nwalls : Nat) (nstarts : Nat) (ngoals : Nat) (nlaid : Nat) (nisTold : Nat) (ncells : Nat) (nindex : Nat) (nnear : Nat) (nnearCount : Nat) (npay : Nat) (ndone : Nat) (npile : Nat) (nnow : Nat) (nthen : Nat) (nchoice : Nat) (nplan : Nat) (ncosts : Nat) (npaid : Nat) (nafter : Nat) (nfar : Nat) (nmany : Nat) (nnext : Nat) (vwide : Int32) (vhigh : Int32) (vmovers : Int32) (vfree : Int32) (vtop : Int32) (vlength : Int32) (vsort : Int32) (vwhen : Int32) (vone : Int32) (vtwo : Int32) (x : Int32) (sz : Nat)  : Met l y_md_cost w_md_cost ({ frames := 0, cells := 0, slots := 0, locals := 0 }) (va_Pc [.ref na, .int x] (mt_B D [(cZ, .boolean), (cI, .int), (cJ, .long), (cII, .array .int)] [(na, .inr (7, [.int vwide, .int vhigh, .ref nwalls, .int vmovers, .ref nstarts, .ref ngoals, .ref nlaid, .ref nisTold, .int vfree, .ref ncells, .ref nindex, .ref nnear, .ref nnearCount, .ref npay, .ref ndone, .ref npile, .int vtop, .ref nnow, .ref nthen, .ref nchoice, .int 0, .int vlength, .ref nplan, .ref ncosts, .ref npaid, .ref nafter, .ref nfar, .ref nmany, .ref nnext, .int vsort, .int vwhen, .int vone, .int vtwo]))] sz)) (vp_Si (fun r : Int32 => r = -1)) 0 0 (fun _ => False) := by
  refine mt_ofR (by decide) (Nat.le_of_ble_eq_true rfl) ?_
  intro p e s m below meth c ls hx hb hr hlk hml hown hg hl hX hP hK hD
  have hown : s.vm.findClass R_md = some m.cls := hown
  obtain ⟨H, hH⟩ : ∃ H : Heap, H = s.heap := ⟨_, rfl⟩
  rw [← hH] at hP ⊢
  have hl : lv_has ls 2 [(0, .ref na), (1, .int x)] := hl
  refine lv_aload_n hx hb d_md_cost_0 rfl (lv_at hl 0 rfl) ?_
  refine gf_md_89 hx hb hg hown hK hP 0 rfl rfl d_md_cost_1 ?_
  refine lv_if_eq hx hb d_md_cost_4 rfl (fun _ => ?_) (fun h => absurd (by decide) h)
  refine lv_iconst (v := (-1)) hx hb d_md_cost_15 (by decide) ?_
  refine lv_goto hx hb d_md_cost_16 rfl ?_
  exact W.iret hx hb hr (fun t ht _ => ⟨(-1), rfl, rfl, ht.trans hH⟩) (fun _ h => absurd h List.not_mem_nil) d_md_cost_25

set_option maxHeartbeats 4000000 in
set_option maxRecDepth 100000 in
theorem c_md_at (l : Launch) (D : va_G) (cZ cI cJ cII : ClassId) (na : Nat) (nwalls : Nat) (nstarts : Nat) (ngoals : Nat) (nlaid : Nat) (nisTold : Nat) (ncells : Nat) (nindex : Nat) (nnear : Nat) (nnearCount : Nat) (npay : Nat) (ndone : Nat) (npile : Nat) (nnow : Nat) (nthen : Nat) (nchoice : Nat) (nplan : Nat) (ncosts : Nat) (npaid : Nat) (nafter : Nat) (nfar : Nat) (nmany : Nat) (nnext : Nat) (vwide : Int32) (vhigh : Int32) (vmovers : Int32) (vfree : Int32) (vtop : Int32) (vlength : Int32) (vsort : Int32) (vwhen : Int32) (vone : Int32) (vtwo : Int32) (x : Int32) (y : Int32) (sz : Nat)  : Met l y_md_at w_md_at ({ frames := 0, cells := 0, slots := 0, locals := 0 }) (va_Pc [.ref na, .int x, .int y] (mt_B D [(cZ, .boolean), (cI, .int), (cJ, .long), (cII, .array .int)] [(na, .inr (7, [.int vwide, .int vhigh, .ref nwalls, .int vmovers, .ref nstarts, .ref ngoals, .ref nlaid, .ref nisTold, .int vfree, .ref ncells, .ref nindex, .ref nnear, .ref nnearCount, .ref npay, .ref ndone, .ref npile, .int vtop, .ref nnow, .ref nthen, .ref nchoice, .int 0, .int vlength, .ref nplan, .ref ncosts, .ref npaid, .ref nafter, .ref nfar, .ref nmany, .ref nnext, .int vsort, .int vwhen, .int vone, .int vtwo]))] sz)) (vp_Si (fun r : Int32 => r = -1)) 0 0 (fun _ => False) := by
  refine mt_ofR (by decide) (Nat.le_of_ble_eq_true rfl) ?_
  intro p e s m below meth c ls hx hb hr hlk hml hown hg hl hX hP hK hD
  have hown : s.vm.findClass R_md = some m.cls := hown
  obtain ⟨H, hH⟩ : ∃ H : Heap, H = s.heap := ⟨_, rfl⟩
  rw [← hH] at hP ⊢
  have hl : lv_has ls 3 [(0, .ref na), (1, .int x), (2, .int y)] := hl
  refine lv_aload_n hx hb d_md_at_0 rfl (lv_at hl 0 rfl) ?_
  refine gf_md_89 hx hb hg hown hK hP 0 rfl rfl d_md_at_1 ?_
  refine lv_if_eq hx hb d_md_at_4 rfl (fun _ => ?_) (fun h => absurd (by decide) h)
  refine lv_iconst (v := (-1)) hx hb d_md_at_19 (by decide) ?_
  exact W.iret hx hb hr (fun t ht _ => ⟨(-1), rfl, rfl, ht.trans hH⟩) (fun _ h => absurd h List.not_mem_nil) d_md_at_20

set_option maxHeartbeats 4000000 in
set_option maxRecDepth 100000 in
theorem c_md_clear (l : Launch) (D : va_G) (cZ cI cJ cII : ClassId) (na : Nat) (nwalls : Nat) (nstarts : Nat) (ngoals : Nat) (nlaid : Nat) (nisTold : Nat) (ncells : Nat) (nindex : Nat) (nnear : Nat) (nnearCount : Nat) (npay : Nat) (ndone : Nat) (npile : Nat) (nnow : Nat) (nthen : Nat) (nchoice : Nat) (nplan : Nat) (ncosts : Nat) (npaid : Nat) (nafter : Nat) (nfar : Nat) (nmany : Nat) (nnext : Nat) (vwide : Int32) (vhigh : Int32) (vfree : Int32) (vtop : Int32) (vfound : Int32) (vlength : Int32) (vsort : Int32) (vwhen : Int32) (vone : Int32) (vtwo : Int32) (sz : Nat)  : Met l y_md_clear w_md_clear ({ frames := 0, cells := 0, slots := 0, locals := 0 }) (va_Pc [.ref na] (mt_B D [(cZ, .boolean), (cI, .int), (cJ, .long), (cII, .array .int)] [(na, .inr (7, [.int vwide, .int vhigh, .ref nwalls, .int 0, .ref nstarts, .ref ngoals, .ref nlaid, .ref nisTold, .int vfree, .ref ncells, .ref nindex, .ref nnear, .ref nnearCount, .ref npay, .ref ndone, .ref npile, .int vtop, .ref nnow, .ref nthen, .ref nchoice, .int vfound, .int vlength, .ref nplan, .ref ncosts, .ref npaid, .ref nafter, .ref nfar, .ref nmany, .ref nnext, .int vsort, .int vwhen, .int vone, .int vtwo]))] sz)) ((fun A => va_Qi (fun (r : Int32) (u : Unit) => (r = 0) ∧ (True)) (fun (u : Unit) (t : State) => True) A) (va_A [(na, .inr (7, [.int vwide, .int vhigh, .ref nwalls, .int 0, .ref nstarts, .ref ngoals, .ref nlaid, .ref nisTold, .int vfree, .ref ncells, .ref nindex, .ref nnear, .ref nnearCount, .ref npay, .ref ndone, .ref npile, .int vtop, .ref nnow, .ref nthen, .ref nchoice, .int vfound, .int vlength, .ref nplan, .ref ncosts, .ref npaid, .ref nafter, .ref nfar, .ref nmany, .ref nnext, .int vsort, .int vwhen, .int vone, .int vtwo]))] sz)) 0 0 (va_A [(na, .inr (7, [.int vwide, .int vhigh, .ref nwalls, .int 0, .ref nstarts, .ref ngoals, .ref nlaid, .ref nisTold, .int vfree, .ref ncells, .ref nindex, .ref nnear, .ref nnearCount, .ref npay, .ref ndone, .ref npile, .int vtop, .ref nnow, .ref nthen, .ref nchoice, .int vfound, .int vlength, .ref nplan, .ref ncosts, .ref npaid, .ref nafter, .ref nfar, .ref nmany, .ref nnext, .int vsort, .int vwhen, .int vone, .int vtwo]))] sz) := by
  refine mt_of (y := y_md_clear) (n := 2) (av := [.ref na]) (QF := (fun A => va_Qi (fun (r : Int32) (u : Unit) => (r = 0) ∧ (True)) (fun (u : Unit) (t : State) => True) A)) (by decide) (Nat.le_of_ble_eq_true rfl) ?_
  intro p e s m below meth c ls A hx hb hr hlk hml hown hnm hg hl hX hP hK hD hA hS
  obtain ⟨H, hH⟩ : ∃ H : Heap, H = s.heap := ⟨_, rfl⟩
  have hS : va_S A s.heap H [] := by rw [hH]; exact va_S.rf
  rw [← hH] at hP ⊢
  have hown : s.vm.findClass R_md = some m.cls := hown
  have hl : lv_has ls 2 [(0, .ref na)] := hl
  refine lv_aload_n hx hb d_md_clear_0 rfl (lv_at hl 0 rfl) ?_
  refine gf_md_86 hx hb hg hown hK hP 0 rfl rfl d_md_clear_1 ?_
  refine lv_istore_n hx hb d_md_clear_4 rfl hl (by decide) rfl (fun ls hl => ?_)
  have hl : lv_has ls 2 [(1, .int 0), (0, .ref na)] := hl
  refine lv_aload_n hx hb d_md_clear_5 rfl (lv_at hl 1 rfl) ?_
  refine lv_iconst (v := 0) hx hb d_md_clear_6 (by decide) ?_
  refine pf_md_86 hx hb hg hown hK hP hD hS 0 rfl rfl rfl (Nat.le_of_ble_eq_true rfl) d_md_clear_7 (fun H locs hP hD hS => ?_)
  have hP : va_P D kls [(na, .inr (7, [.int vwide, .int vhigh, .ref nwalls, .int 0, .ref nstarts, .ref ngoals, .ref nlaid, .ref nisTold, .int vfree, .ref ncells, .ref nindex, .ref nnear, .ref nnearCount, .ref npay, .ref ndone, .ref npile, .int vtop, .ref nnow, .ref nthen, .ref nchoice, .int vfound, .int vlength, .ref nplan, .ref ncosts, .ref npaid, .ref nafter, .ref nfar, .ref nmany, .ref nnext, .int vsort, .int vwhen, .int vone, .int vtwo]))] H := hP
  have hD : va_D A [(na, .inr (7, [.int vwide, .int vhigh, .ref nwalls, .int 0, .ref nstarts, .ref ngoals, .ref nlaid, .ref nisTold, .int vfree, .ref ncells, .ref nindex, .ref nnear, .ref nnearCount, .ref npay, .ref ndone, .ref npile, .int vtop, .ref nnow, .ref nthen, .ref nchoice, .int vfound, .int vlength, .ref nplan, .ref ncosts, .ref npaid, .ref nafter, .ref nfar, .ref nmany, .ref nnext, .int vsort, .int vwhen, .int vone, .int vtwo]))] := hD
  refine lv_aload_n hx hb d_md_clear_10 rfl (lv_at hl 1 rfl) ?_
  refine lv_iconst (v := 0) hx hb d_md_clear_11 (by decide) ?_
  refine pf_md_89 hx hb hg hown hK hP hD hS 0 rfl rfl rfl (Nat.le_of_ble_eq_true rfl) d_md_clear_12 (fun H locs hP hD hS => ?_)
  have hP : va_P D kls [(na, .inr (7, [.int vwide, .int vhigh, .ref nwalls, .int 0, .ref nstarts, .ref ngoals, .ref nlaid, .ref nisTold, .int vfree, .ref ncells, .ref nindex, .ref nnear, .ref nnearCount, .ref npay, .ref ndone, .ref npile, .int vtop, .ref nnow, .ref nthen, .ref nchoice, .int 0, .int vlength, .ref nplan, .ref ncosts, .ref npaid, .ref nafter, .ref nfar, .ref nmany, .ref nnext, .int vsort, .int vwhen, .int vone, .int vtwo]))] H := hP
  have hD : va_D A [(na, .inr (7, [.int vwide, .int vhigh, .ref nwalls, .int 0, .ref nstarts, .ref ngoals, .ref nlaid, .ref nisTold, .int vfree, .ref ncells, .ref nindex, .ref nnear, .ref nnearCount, .ref npay, .ref ndone, .ref npile, .int vtop, .ref nnow, .ref nthen, .ref nchoice, .int 0, .int vlength, .ref nplan, .ref ncosts, .ref npaid, .ref nafter, .ref nfar, .ref nmany, .ref nnext, .int vsort, .int vwhen, .int vone, .int vtwo]))] := hD
  refine lv_iload_n hx hb d_md_clear_15 rfl (lv_at hl 0 rfl) ?_
  exact W.iret hx hb hr (fun t ht hW => ⟨⟨0, (), rfl, ⟨rfl, trivial⟩, trivial⟩, hS.F ht⟩) hS.2.2 d_md_clear_16

set_option maxHeartbeats 4000000 in
set_option maxRecDepth 100000 in
theorem c_md_solve (l : Launch) (D : va_G) (cZ cI cJ cII : ClassId) (na : Nat) (nwalls : Nat) (nstarts : Nat) (ngoals : Nat) (nlaid : Nat) (nisTold : Nat) (ncells : Nat) (nindex : Nat) (nnear : Nat) (nnearCount : Nat) (npay : Nat) (ndone : Nat) (npile : Nat) (nnow : Nat) (nthen : Nat) (nchoice : Nat) (nplan : Nat) (ncosts : Nat) (npaid : Nat) (nafter : Nat) (nfar : Nat) (nmany : Nat) (nnext : Nat) (vwide : Int32) (vhigh : Int32) (vfree : Int32) (vtop : Int32) (vfound : Int32) (vlength : Int32) (vsort : Int32) (vwhen : Int32) (vone : Int32) (vtwo : Int32) (x : Int32) (sz : Nat)  : Met l y_md_solve w_md_solve ({ frames := 0, cells := 0, slots := 0, locals := 0 }) (va_Pc [.ref na, .int x] (mt_B D [(cZ, .boolean), (cI, .int), (cJ, .long), (cII, .array .int)] [(na, .inr (7, [.int vwide, .int vhigh, .ref nwalls, .int 0, .ref nstarts, .ref ngoals, .ref nlaid, .ref nisTold, .int vfree, .ref ncells, .ref nindex, .ref nnear, .ref nnearCount, .ref npay, .ref ndone, .ref npile, .int vtop, .ref nnow, .ref nthen, .ref nchoice, .int vfound, .int vlength, .ref nplan, .ref ncosts, .ref npaid, .ref nafter, .ref nfar, .ref nmany, .ref nnext, .int vsort, .int vwhen, .int vone, .int vtwo]))] sz)) ((fun A => va_Qi (fun (r : Int32) (u : Unit) => ((r = -1 ∧ (x < 0 ∨ ¬ x ≤ 6)) ∨ (r = 0 ∧ ¬ x < 0 ∧ x ≤ 6)) ∧ (True)) (fun (u : Unit) (t : State) => True) A) (va_A [(na, .inr (7, [.int vwide, .int vhigh, .ref nwalls, .int 0, .ref nstarts, .ref ngoals, .ref nlaid, .ref nisTold, .int vfree, .ref ncells, .ref nindex, .ref nnear, .ref nnearCount, .ref npay, .ref ndone, .ref npile, .int vtop, .ref nnow, .ref nthen, .ref nchoice, .int vfound, .int vlength, .ref nplan, .ref ncosts, .ref npaid, .ref nafter, .ref nfar, .ref nmany, .ref nnext, .int vsort, .int vwhen, .int vone, .int vtwo]))] sz)) 0 0 (va_A [(na, .inr (7, [.int vwide, .int vhigh, .ref nwalls, .int 0, .ref nstarts, .ref ngoals, .ref nlaid, .ref nisTold, .int vfree, .ref ncells, .ref nindex, .ref nnear, .ref nnearCount, .ref npay, .ref ndone, .ref npile, .int vtop, .ref nnow, .ref nthen, .ref nchoice, .int vfound, .int vlength, .ref nplan, .ref ncosts, .ref npaid, .ref nafter, .ref nfar, .ref nmany, .ref nnext, .int vsort, .int vwhen, .int vone, .int vtwo]))] sz) := by
  refine mt_of (y := y_md_solve) (n := 5) (av := [.ref na, .int x]) (QF := (fun A => va_Qi (fun (r : Int32) (u : Unit) => ((r = -1 ∧ (x < 0 ∨ ¬ x ≤ 6)) ∨ (r = 0 ∧ ¬ x < 0 ∧ x ≤ 6)) ∧ (True)) (fun (u : Unit) (t : State) => True) A)) (by decide) (Nat.le_of_ble_eq_true rfl) ?_
  intro p e s m below meth c ls A hx hb hr hlk hml hown hnm hg hl hX hP hK hD hA hS
  obtain ⟨H, hH⟩ : ∃ H : Heap, H = s.heap := ⟨_, rfl⟩
  have hS : va_S A s.heap H [] := by rw [hH]; exact va_S.rf
  rw [← hH] at hP ⊢
  have hown : s.vm.findClass R_md = some m.cls := hown
  have hl : lv_has ls 5 [(0, .ref na), (1, .int x)] := hl
  refine lv_aload_n hx hb d_md_solve_0 rfl (lv_at hl 0 rfl) ?_
  refine lv_iconst (v := 0) hx hb d_md_solve_1 (by decide) ?_
  refine pf_md_89 hx hb hg hown hK hP hD hS 0 rfl rfl rfl (Nat.le_of_ble_eq_true rfl) d_md_solve_2 (fun H locs hP hD hS => ?_)
  have hP : va_P D kls [(na, .inr (7, [.int vwide, .int vhigh, .ref nwalls, .int 0, .ref nstarts, .ref ngoals, .ref nlaid, .ref nisTold, .int vfree, .ref ncells, .ref nindex, .ref nnear, .ref nnearCount, .ref npay, .ref ndone, .ref npile, .int vtop, .ref nnow, .ref nthen, .ref nchoice, .int 0, .int vlength, .ref nplan, .ref ncosts, .ref npaid, .ref nafter, .ref nfar, .ref nmany, .ref nnext, .int vsort, .int vwhen, .int vone, .int vtwo]))] H := hP
  have hD : va_D A [(na, .inr (7, [.int vwide, .int vhigh, .ref nwalls, .int 0, .ref nstarts, .ref ngoals, .ref nlaid, .ref nisTold, .int vfree, .ref ncells, .ref nindex, .ref nnear, .ref nnearCount, .ref npay, .ref ndone, .ref npile, .int vtop, .ref nnow, .ref nthen, .ref nchoice, .int 0, .int vlength, .ref nplan, .ref ncosts, .ref npaid, .ref nafter, .ref nfar, .ref nmany, .ref nnext, .int vsort, .int vwhen, .int vone, .int vtwo]))] := hD
  refine lv_iload_n hx hb d_md_solve_5 rfl (lv_at hl 1 rfl) ?_
  refine lv_if_lt hx hb d_md_solve_6 rfl (fun g1 => ?_) (fun g1 => ?_)
  ·
    refine lv_iconst (v := (-1)) hx hb d_md_solve_15 (by decide) ?_
    exact W.iret hx hb hr (fun t ht hW => ⟨⟨(-1), (), rfl, ⟨Or.inl ⟨rfl, Or.inl g1⟩, trivial⟩, trivial⟩, hS.F ht⟩) hS.2.2 d_md_solve_16
  ·
    refine lv_iload_n hx hb d_md_solve_9 rfl (lv_at hl 1 rfl) ?_
    refine lv_bipush (v := 6) hx hb d_md_solve_10 (by decide) ?_
    refine lv_icmp_le hx hb d_md_solve_12 rfl (fun g2 => ?_) (fun g2 => ?_)
    ·
      refine lv_iload_n hx hb d_md_solve_17 rfl (lv_at hl 1 rfl) ?_
      refine lv_istore_n hx hb d_md_solve_18 rfl hl (by decide) rfl (fun ls hl => ?_)
      have hl : lv_has ls 5 [(2, .int x), (0, .ref na), (1, .int x)] := hl
      refine lv_iconst (v := 0) hx hb d_md_solve_19 (by decide) ?_
      refine lv_istore_n hx hb d_md_solve_20 rfl hl (by decide) rfl (fun ls hl => ?_)
      have hl : lv_has ls 5 [(3, .int 0), (2, .int x), (0, .ref na), (1, .int x)] := hl
      refine lv_iload_n hx hb d_md_solve_21 rfl (lv_at hl 0 rfl) ?_
      refine lv_aload_n hx hb d_md_solve_22 rfl (lv_at hl 2 rfl) ?_
      refine gf_md_86 hx hb hg hown hK hP 0 rfl rfl d_md_solve_23 ?_
      refine lv_icmp_ge hx hb d_md_solve_26 rfl (fun _ => ?_) (fun h => absurd (by decide) h)
      refine lv_aload_n hx hb d_md_solve_55 rfl (lv_at hl 2 rfl) ?_
      refine gf_md_86 hx hb hg hown hK hP 0 rfl rfl d_md_solve_56 ?_
      refine lv_if_ne hx hb d_md_solve_59 rfl (fun h => absurd (by decide) h) (fun _ => ?_)
      refine lv_aload_n hx hb d_md_solve_62 rfl (lv_at hl 2 rfl) ?_
      refine lv_iconst (v := 1) hx hb d_md_solve_63 (by decide) ?_
      refine pf_md_89 hx hb hg hown hK hP hD hS 0 rfl rfl rfl (Nat.le_of_ble_eq_true rfl) d_md_solve_64 (fun H locs hP hD hS => ?_)
      have hP : va_P D kls [(na, .inr (7, [.int vwide, .int vhigh, .ref nwalls, .int 0, .ref nstarts, .ref ngoals, .ref nlaid, .ref nisTold, .int vfree, .ref ncells, .ref nindex, .ref nnear, .ref nnearCount, .ref npay, .ref ndone, .ref npile, .int vtop, .ref nnow, .ref nthen, .ref nchoice, .int 1, .int vlength, .ref nplan, .ref ncosts, .ref npaid, .ref nafter, .ref nfar, .ref nmany, .ref nnext, .int vsort, .int vwhen, .int vone, .int vtwo]))] H := hP
      have hD : va_D A [(na, .inr (7, [.int vwide, .int vhigh, .ref nwalls, .int 0, .ref nstarts, .ref ngoals, .ref nlaid, .ref nisTold, .int vfree, .ref ncells, .ref nindex, .ref nnear, .ref nnearCount, .ref npay, .ref ndone, .ref npile, .int vtop, .ref nnow, .ref nthen, .ref nchoice, .int 1, .int vlength, .ref nplan, .ref ncosts, .ref npaid, .ref nafter, .ref nfar, .ref nmany, .ref nnext, .int vsort, .int vwhen, .int vone, .int vtwo]))] := hD
      refine lv_aload_n hx hb d_md_solve_67 rfl (lv_at hl 2 rfl) ?_
      refine lv_iconst (v := 0) hx hb d_md_solve_68 (by decide) ?_
      refine pf_md_167 hx hb hg hown hK hP hD hS 0 rfl rfl rfl (Nat.le_of_ble_eq_true rfl) d_md_solve_69 (fun H locs hP hD hS => ?_)
      have hP : va_P D kls [(na, .inr (7, [.int vwide, .int vhigh, .ref nwalls, .int 0, .ref nstarts, .ref ngoals, .ref nlaid, .ref nisTold, .int vfree, .ref ncells, .ref nindex, .ref nnear, .ref nnearCount, .ref npay, .ref ndone, .ref npile, .int vtop, .ref nnow, .ref nthen, .ref nchoice, .int 1, .int 0, .ref nplan, .ref ncosts, .ref npaid, .ref nafter, .ref nfar, .ref nmany, .ref nnext, .int vsort, .int vwhen, .int vone, .int vtwo]))] H := hP
      have hD : va_D A [(na, .inr (7, [.int vwide, .int vhigh, .ref nwalls, .int 0, .ref nstarts, .ref ngoals, .ref nlaid, .ref nisTold, .int vfree, .ref ncells, .ref nindex, .ref nnear, .ref nnearCount, .ref npay, .ref ndone, .ref npile, .int vtop, .ref nnow, .ref nthen, .ref nchoice, .int 1, .int 0, .ref nplan, .ref ncosts, .ref npaid, .ref nafter, .ref nfar, .ref nmany, .ref nnext, .int vsort, .int vwhen, .int vone, .int vtwo]))] := hD
      refine lv_iconst (v := 0) hx hb d_md_solve_72 (by decide) ?_
      exact W.iret hx hb hr (fun t ht hW => ⟨⟨0, (), rfl, ⟨Or.inr ⟨rfl, g1, g2⟩, trivial⟩, trivial⟩, hS.F ht⟩) hS.2.2 d_md_solve_73
    ·
      refine lv_iconst (v := (-1)) hx hb d_md_solve_15 (by decide) ?_
      exact W.iret hx hb hr (fun t ht hW => ⟨⟨(-1), (), rfl, ⟨Or.inl ⟨rfl, Or.inr g2⟩, trivial⟩, trivial⟩, hS.F ht⟩) hS.2.2 d_md_solve_16

set_option maxHeartbeats 4000000 in
set_option maxRecDepth 100000 in
theorem c_md_wall (l : Launch) (D : va_G) (cZ cI cJ cII : ClassId) (na : Nat) (nwalls : Nat) (nstarts : Nat) (ngoals : Nat) (nlaid : Nat) (nisTold : Nat) (ncells : Nat) (nindex : Nat) (nnear : Nat) (nnearCount : Nat) (npay : Nat) (ndone : Nat) (npile : Nat) (nnow : Nat) (nthen : Nat) (nchoice : Nat) (nplan : Nat) (ncosts : Nat) (npaid : Nat) (nafter : Nat) (nfar : Nat) (nmany : Nat) (nnext : Nat) (vmovers : Int32) (vfree : Int32) (vtop : Int32) (vfound : Int32) (vlength : Int32) (vsort : Int32) (vwhen : Int32) (vone : Int32) (vtwo : Int32) (wf : Nat → Int32) (x : Int32) (sz : Nat) (hw0 : wf 0 = 0) : Met l y_md_wall w_md_wall ({ frames := 2, cells := 0, slots := 0, locals := 80 }) (va_Pc [.ref na, .int x] (mt_B D [(cZ, .boolean), (cI, .int), (cJ, .long), (cII, .array .int)] [(na, .inr (7, [.int 1, .int 1, .ref nwalls, .int vmovers, .ref nstarts, .ref ngoals, .ref nlaid, .ref nisTold, .int vfree, .ref ncells, .ref nindex, .ref nnear, .ref nnearCount, .ref npay, .ref ndone, .ref npile, .int vtop, .ref nnow, .ref nthen, .ref nchoice, .int vfound, .int vlength, .ref nplan, .ref ncosts, .ref npaid, .ref nafter, .ref nfar, .ref nmany, .ref nnext, .int vsort, .int vwhen, .int vone, .int vtwo])), (nwalls, .inl (cZ, 25, .inl wf))] sz)) ((fun A => va_Qi (fun (r : Int32) (u : Unit) => ((r = -1 ∧ (x < 0 ∨ (1 : Int32) * 1 ≤ x)) ∨ (r = 1 ∧ ¬ x < 0 ∧ ¬ (1 : Int32) * 1 ≤ x)) ∧ (True)) (fun (u : Unit) (t : State) => True) A) (va_A [(na, .inr (7, [.int 1, .int 1, .ref nwalls, .int vmovers, .ref nstarts, .ref ngoals, .ref nlaid, .ref nisTold, .int vfree, .ref ncells, .ref nindex, .ref nnear, .ref nnearCount, .ref npay, .ref ndone, .ref npile, .int vtop, .ref nnow, .ref nthen, .ref nchoice, .int vfound, .int vlength, .ref nplan, .ref ncosts, .ref npaid, .ref nafter, .ref nfar, .ref nmany, .ref nnext, .int vsort, .int vwhen, .int vone, .int vtwo])), (nwalls, .inl (cZ, 25, .inl wf))] sz)) 0 0 (va_A [(na, .inr (7, [.int 1, .int 1, .ref nwalls, .int vmovers, .ref nstarts, .ref ngoals, .ref nlaid, .ref nisTold, .int vfree, .ref ncells, .ref nindex, .ref nnear, .ref nnearCount, .ref npay, .ref ndone, .ref npile, .int vtop, .ref nnow, .ref nthen, .ref nchoice, .int vfound, .int vlength, .ref nplan, .ref ncosts, .ref npaid, .ref nafter, .ref nfar, .ref nmany, .ref nnext, .int vsort, .int vwhen, .int vone, .int vtwo])), (nwalls, .inl (cZ, 25, .inl wf))] sz) := by
  refine mt_of (y := y_md_wall) (n := 2) (av := [.ref na, .int x]) (QF := (fun A => va_Qi (fun (r : Int32) (u : Unit) => ((r = -1 ∧ (x < 0 ∨ (1 : Int32) * 1 ≤ x)) ∨ (r = 1 ∧ ¬ x < 0 ∧ ¬ (1 : Int32) * 1 ≤ x)) ∧ (True)) (fun (u : Unit) (t : State) => True) A)) (by decide) (Nat.le_of_ble_eq_true rfl) ?_
  intro p e s m below meth c ls A hx hb hr hlk hml hown hnm hg hl hX hP hK hD hA hS
  obtain ⟨H, hH⟩ : ∃ H : Heap, H = s.heap := ⟨_, rfl⟩
  have hS : va_S A s.heap H [] := by rw [hH]; exact va_S.rf
  rw [← hH] at hP ⊢
  have hown : s.vm.findClass R_md = some m.cls := hown
  have hl : lv_has ls 2 [(0, .ref na), (1, .int x)] := hl
  refine lv_aload_n hx hb d_md_wall_0 rfl (lv_at hl 0 rfl) ?_
  refine lv_iload_n hx hb d_md_wall_1 rfl (lv_at hl 1 rfl) ?_
  have hPc := hP.sub (ws' := [(na, .inr (7, [.int 1, .int 1, .ref nwalls, .int vmovers, .ref nstarts, .ref ngoals, .ref nlaid, .ref nisTold, .int vfree, .ref ncells, .ref nindex, .ref nnear, .ref nnearCount, .ref npay, .ref ndone, .ref npile, .int vtop, .ref nnow, .ref nthen, .ref nchoice, .int vfound, .int vlength, .ref nplan, .ref ncosts, .ref npaid, .ref nafter, .ref nfar, .ref nmany, .ref nnext, .int vsort, .int vwhen, .int vone, .int vtwo]))]) [0] rfl
  have hDc := hD.sub (ws' := [(na, .inr (7, [.int 1, .int 1, .ref nwalls, .int vmovers, .ref nstarts, .ref ngoals, .ref nlaid, .ref nisTold, .int vfree, .ref ncells, .ref nindex, .ref nnear, .ref nnearCount, .ref npay, .ref ndone, .ref npile, .int vtop, .ref nnow, .ref nthen, .ref nchoice, .int vfound, .int vlength, .ref nplan, .ref ncosts, .ref npaid, .ref nafter, .ref nfar, .ref nmany, .ref nnext, .int vsort, .int vwhen, .int vone, .int vtwo]))]) [0] (by decide) rfl
  refine vp_callSi (W.runV (As := [.int x]) (rest := []) ⟨hx, hb, hml, hown, hg⟩ (c_md_isCell l D cZ cI cJ cII na nwalls nstarts ngoals nlaid nisTold ncells nindex nnear nnearCount npay ndone npile nnow nthen nchoice nplan ncosts npaid nafter nfar nmany nnext 1 1 vmovers vfree vtop vfound vlength vsort vwhen vone vtwo x H.size ) (cwV 1 hg gv_md_97 rfl rfl rfl (by decide +kernel) ⟨Nat.le_of_ble_eq_true rfl, Nat.le_of_ble_eq_true rfl⟩) ⟨mt_bl, va_recv (q0 := 0) (ci := 7) hK hP rfl rfl, mt_pr hX hPc hK hDc⟩ rfl rfl hl.1 rfl (lv_room (Nat.le_of_ble_eq_true rfl)) d_md_wall_2 ⟨Nat.le_of_ble_eq_true rfl, Nat.le_of_ble_eq_true rfl⟩) (fun r1 hr1 => ?_)
  have hr1 : (r1 = 1 ∧ ¬ x < 0 ∧ ¬ (1 : Int32) * (1 : Int32) ≤ x) ∨ (r1 = 0 ∧ (x < 0 ∨ (1 : Int32) * (1 : Int32) ≤ x)) := hr1
  refine lv_if_ne hx hb d_md_wall_5 rfl (fun g1 => ?_) (fun g1 => ?_)
  ·
    have g3 : ¬ x < 0 ∧ ¬ (1 : Int32) * 1 ≤ x := hr1.elim (fun q => q.2) (fun q => absurd q.1 g1)
    obtain rfl : x = 0 := mt_one g3.1 g3.2
    have hl : lv_has ls 2 [(0, .ref na), (1, .int 0)] := hl
    refine lv_aload_n hx hb d_md_wall_10 rfl (lv_at hl 0 rfl) ?_
    refine gf_md_16 hx hb hg hown hK hP 0 rfl rfl d_md_wall_11 ?_
    refine lv_iload_n hx hb d_md_wall_14 rfl (lv_at hl 1 rfl) ?_
    refine lv_aload_n hx hb d_md_wall_15 rfl (lv_at hl 0 rfl) ?_
    refine gf_md_16 hx hb hg hown hK hP 0 rfl rfl d_md_wall_16 ?_
    refine lv_iload_n hx hb d_md_wall_19 rfl (lv_at hl 1 rfl) ?_
    refine va_zald hx hb hK hP 1 0 rfl rfl (by unfold vp_in; decide) d_md_wall_20 ?_
    refine lv_topi (fun y2 ey2 => ?_)
    have ey2 : y2 = 0 := ey2.trans hw0
    subst ey2
    refine lv_if_ne hx hb d_md_wall_21 rfl (fun h => absurd (by decide) h) (fun _ => ?_)
    refine lv_iconst (v := 1) hx hb d_md_wall_24 (by decide) ?_
    refine lv_goto hx hb d_md_wall_25 rfl ?_
    refine va_zast hx hb hK hP hD hS 1 0 rfl rfl (by unfold vp_in; decide) d_md_wall_29 (fun H locs hP hD hS => ?_)
    have hP : va_P D kls [(na, .inr (7, [.int 1, .int 1, .ref nwalls, .int vmovers, .ref nstarts, .ref ngoals, .ref nlaid, .ref nisTold, .int vfree, .ref ncells, .ref nindex, .ref nnear, .ref nnearCount, .ref npay, .ref ndone, .ref npile, .int vtop, .ref nnow, .ref nthen, .ref nchoice, .int vfound, .int vlength, .ref nplan, .ref ncosts, .ref npaid, .ref nafter, .ref nfar, .ref nmany, .ref nnext, .int vsort, .int vwhen, .int vone, .int vtwo])), (nwalls, .inl (cZ, 25, .inl (upd wf 0 1)))] H := hP
    have hD : va_D A [(na, .inr (7, [.int 1, .int 1, .ref nwalls, .int vmovers, .ref nstarts, .ref ngoals, .ref nlaid, .ref nisTold, .int vfree, .ref ncells, .ref nindex, .ref nnear, .ref nnearCount, .ref npay, .ref ndone, .ref npile, .int vtop, .ref nnow, .ref nthen, .ref nchoice, .int vfound, .int vlength, .ref nplan, .ref ncosts, .ref npaid, .ref nafter, .ref nfar, .ref nmany, .ref nnext, .int vsort, .int vwhen, .int vone, .int vtwo])), (nwalls, .inl (cZ, 25, .inl (upd wf 0 1)))] := hD
    refine lv_aload_n hx hb d_md_wall_30 rfl (lv_at hl 0 rfl) ?_
    refine lv_iconst (v := 0) hx hb d_md_wall_31 (by decide) ?_
    refine pf_md_86 hx hb hg hown hK hP hD hS 0 rfl rfl rfl (Nat.le_of_ble_eq_true rfl) d_md_wall_32 (fun H locs hP hD hS => ?_)
    have hP : va_P D kls [(na, .inr (7, [.int 1, .int 1, .ref nwalls, .int 0, .ref nstarts, .ref ngoals, .ref nlaid, .ref nisTold, .int vfree, .ref ncells, .ref nindex, .ref nnear, .ref nnearCount, .ref npay, .ref ndone, .ref npile, .int vtop, .ref nnow, .ref nthen, .ref nchoice, .int vfound, .int vlength, .ref nplan, .ref ncosts, .ref npaid, .ref nafter, .ref nfar, .ref nmany, .ref nnext, .int vsort, .int vwhen, .int vone, .int vtwo])), (nwalls, .inl (cZ, 25, .inl (upd wf 0 1)))] H := hP
    have hD : va_D A [(na, .inr (7, [.int 1, .int 1, .ref nwalls, .int 0, .ref nstarts, .ref ngoals, .ref nlaid, .ref nisTold, .int vfree, .ref ncells, .ref nindex, .ref nnear, .ref nnearCount, .ref npay, .ref ndone, .ref npile, .int vtop, .ref nnow, .ref nthen, .ref nchoice, .int vfound, .int vlength, .ref nplan, .ref ncosts, .ref npaid, .ref nafter, .ref nfar, .ref nmany, .ref nnext, .int vsort, .int vwhen, .int vone, .int vtwo])), (nwalls, .inl (cZ, 25, .inl (upd wf 0 1)))] := hD
    refine lv_aload_n hx hb d_md_wall_35 rfl (lv_at hl 0 rfl) ?_
    refine lv_iconst (v := 0) hx hb d_md_wall_36 (by decide) ?_
    refine pf_md_89 hx hb hg hown hK hP hD hS 0 rfl rfl rfl (Nat.le_of_ble_eq_true rfl) d_md_wall_37 (fun H locs hP hD hS => ?_)
    have hP : va_P D kls [(na, .inr (7, [.int 1, .int 1, .ref nwalls, .int 0, .ref nstarts, .ref ngoals, .ref nlaid, .ref nisTold, .int vfree, .ref ncells, .ref nindex, .ref nnear, .ref nnearCount, .ref npay, .ref ndone, .ref npile, .int vtop, .ref nnow, .ref nthen, .ref nchoice, .int 0, .int vlength, .ref nplan, .ref ncosts, .ref npaid, .ref nafter, .ref nfar, .ref nmany, .ref nnext, .int vsort, .int vwhen, .int vone, .int vtwo])), (nwalls, .inl (cZ, 25, .inl (upd wf 0 1)))] H := hP
    have hD : va_D A [(na, .inr (7, [.int 1, .int 1, .ref nwalls, .int 0, .ref nstarts, .ref ngoals, .ref nlaid, .ref nisTold, .int vfree, .ref ncells, .ref nindex, .ref nnear, .ref nnearCount, .ref npay, .ref ndone, .ref npile, .int vtop, .ref nnow, .ref nthen, .ref nchoice, .int 0, .int vlength, .ref nplan, .ref ncosts, .ref npaid, .ref nafter, .ref nfar, .ref nmany, .ref nnext, .int vsort, .int vwhen, .int vone, .int vtwo])), (nwalls, .inl (cZ, 25, .inl (upd wf 0 1)))] := hD
    refine lv_aload_n hx hb d_md_wall_40 rfl (lv_at hl 0 rfl) ?_
    refine gf_md_16 hx hb hg hown hK hP 0 rfl rfl d_md_wall_41 ?_
    refine lv_iload_n hx hb d_md_wall_44 rfl (lv_at hl 1 rfl) ?_
    refine va_zald hx hb hK hP 1 0 rfl rfl (by unfold vp_in; decide) d_md_wall_45 ?_
    refine lv_topi (fun y3 ey3 => ?_)
    have ey3 : y3 = 1 := ey3.trans pk_us
    subst ey3
    refine lv_if_eq hx hb d_md_wall_46 rfl (fun h => absurd h (by decide)) (fun _ => ?_)
    refine lv_iconst (v := 1) hx hb d_md_wall_49 (by decide) ?_
    refine lv_goto hx hb d_md_wall_50 rfl ?_
    exact W.iret hx hb hr (fun t ht hW => ⟨⟨1, (), rfl, ⟨Or.inr ⟨rfl, g3.1, g3.2⟩, trivial⟩, trivial⟩, hS.F ht⟩) hS.2.2 d_md_wall_54
  ·
    refine lv_iconst (v := (-1)) hx hb d_md_wall_8 (by decide) ?_
    exact W.iret hx hb hr (fun t ht hW => ⟨⟨(-1), (), rfl, ⟨Or.inl ⟨rfl, hr1.elim (fun q => absurd (q.1.symm.trans g1) (by decide)) (fun q => q.2)⟩, trivial⟩, trivial⟩, hS.F ht⟩) hS.2.2 d_md_wall_9

set_option maxHeartbeats 4000000 in
set_option maxRecDepth 100000 in
theorem c_md_mover (l : Launch) (D : va_G) (cZ cI cJ cII : ClassId) (na : Nat) (nwalls : Nat) (nstarts : Nat) (ngoals : Nat) (nlaid : Nat) (nisTold : Nat) (ncells : Nat) (nindex : Nat) (nnear : Nat) (nnearCount : Nat) (npay : Nat) (ndone : Nat) (npile : Nat) (nnow : Nat) (nthen : Nat) (nchoice : Nat) (nplan : Nat) (ncosts : Nat) (npaid : Nat) (nafter : Nat) (nfar : Nat) (nmany : Nat) (nnext : Nat) (vfree : Int32) (vtop : Int32) (vfound : Int32) (vlength : Int32) (vsort : Int32) (vwhen : Int32) (vone : Int32) (vtwo : Int32) (wf : Nat → Int32) (sf : Nat → Int32) (gf : Nat → Int32) (x : Int32) (y : Int32) (sz : Nat) (hw0 : wf 0 = 0) : Met l y_md_mover w_md_mover ({ frames := 3, cells := 0, slots := 0, locals := 120 }) (va_Pc [.ref na, .int x, .int y] (mt_B D [(cZ, .boolean), (cI, .int), (cJ, .long), (cII, .array .int)] [(na, .inr (7, [.int 1, .int 1, .ref nwalls, .int 0, .ref nstarts, .ref ngoals, .ref nlaid, .ref nisTold, .int vfree, .ref ncells, .ref nindex, .ref nnear, .ref nnearCount, .ref npay, .ref ndone, .ref npile, .int vtop, .ref nnow, .ref nthen, .ref nchoice, .int vfound, .int vlength, .ref nplan, .ref ncosts, .ref npaid, .ref nafter, .ref nfar, .ref nmany, .ref nnext, .int vsort, .int vwhen, .int vone, .int vtwo])), (nwalls, .inl (cZ, 25, .inl wf)), (nstarts, .inl (cI, 25, .inl sf)), (ngoals, .inl (cI, 25, .inl gf))] sz)) ((fun A => va_Qi (fun (r : Int32) (u : Unit) => ((r = -1 ∧ ¬ (x = 0 ∧ y = 0)) ∨ (r = 0 ∧ x = 0 ∧ y = 0)) ∧ (True)) (fun (u : Unit) (t : State) => True) A) (va_A [(na, .inr (7, [.int 1, .int 1, .ref nwalls, .int 0, .ref nstarts, .ref ngoals, .ref nlaid, .ref nisTold, .int vfree, .ref ncells, .ref nindex, .ref nnear, .ref nnearCount, .ref npay, .ref ndone, .ref npile, .int vtop, .ref nnow, .ref nthen, .ref nchoice, .int vfound, .int vlength, .ref nplan, .ref ncosts, .ref npaid, .ref nafter, .ref nfar, .ref nmany, .ref nnext, .int vsort, .int vwhen, .int vone, .int vtwo])), (nwalls, .inl (cZ, 25, .inl wf)), (nstarts, .inl (cI, 25, .inl sf)), (ngoals, .inl (cI, 25, .inl gf))] sz)) 0 0 (va_A [(na, .inr (7, [.int 1, .int 1, .ref nwalls, .int 0, .ref nstarts, .ref ngoals, .ref nlaid, .ref nisTold, .int vfree, .ref ncells, .ref nindex, .ref nnear, .ref nnearCount, .ref npay, .ref ndone, .ref npile, .int vtop, .ref nnow, .ref nthen, .ref nchoice, .int vfound, .int vlength, .ref nplan, .ref ncosts, .ref npaid, .ref nafter, .ref nfar, .ref nmany, .ref nnext, .int vsort, .int vwhen, .int vone, .int vtwo])), (nwalls, .inl (cZ, 25, .inl wf)), (nstarts, .inl (cI, 25, .inl sf)), (ngoals, .inl (cI, 25, .inl gf))] sz) := by
  refine mt_of (y := y_md_mover) (n := 6) (av := [.ref na, .int x, .int y]) (QF := (fun A => va_Qi (fun (r : Int32) (u : Unit) => ((r = -1 ∧ ¬ (x = 0 ∧ y = 0)) ∨ (r = 0 ∧ x = 0 ∧ y = 0)) ∧ (True)) (fun (u : Unit) (t : State) => True) A)) (by decide) (Nat.le_of_ble_eq_true rfl) ?_
  intro p e s m below meth c ls A hx hb hr hlk hml hown hnm hg hl hX hP hK hD hA hS
  obtain ⟨H, hH⟩ : ∃ H : Heap, H = s.heap := ⟨_, rfl⟩
  have hS : va_S A s.heap H [] := by rw [hH]; exact va_S.rf
  rw [← hH] at hP ⊢
  have hown : s.vm.findClass R_md = some m.cls := hown
  have hl : lv_has ls 6 [(0, .ref na), (1, .int x), (2, .int y)] := hl
  refine lv_aload_n hx hb d_md_mover_0 rfl (lv_at hl 0 rfl) ?_
  refine lv_iload_n hx hb d_md_mover_1 rfl (lv_at hl 1 rfl) ?_
  have hPc := hP.sub (ws' := [(na, .inr (7, [.int 1, .int 1, .ref nwalls, .int 0, .ref nstarts, .ref ngoals, .ref nlaid, .ref nisTold, .int vfree, .ref ncells, .ref nindex, .ref nnear, .ref nnearCount, .ref npay, .ref ndone, .ref npile, .int vtop, .ref nnow, .ref nthen, .ref nchoice, .int vfound, .int vlength, .ref nplan, .ref ncosts, .ref npaid, .ref nafter, .ref nfar, .ref nmany, .ref nnext, .int vsort, .int vwhen, .int vone, .int vtwo])), (nwalls, .inl (cZ, 25, .inl wf))]) [0, 1] rfl
  have hDc := hD.sub (ws' := [(na, .inr (7, [.int 1, .int 1, .ref nwalls, .int 0, .ref nstarts, .ref ngoals, .ref nlaid, .ref nisTold, .int vfree, .ref ncells, .ref nindex, .ref nnear, .ref nnearCount, .ref npay, .ref ndone, .ref npile, .int vtop, .ref nnow, .ref nthen, .ref nchoice, .int vfound, .int vlength, .ref nplan, .ref ncosts, .ref npaid, .ref nafter, .ref nfar, .ref nmany, .ref nnext, .int vsort, .int vwhen, .int vone, .int vtwo])), (nwalls, .inl (cZ, 25, .inl wf))]) [0, 1] (by decide) rfl
  refine vp_callSi (W.runV (As := [.int x]) (rest := []) ⟨hx, hb, hml, hown, hg⟩ (c_md_isFree l D cZ cI cJ cII na nwalls nstarts ngoals nlaid nisTold ncells nindex nnear nnearCount npay ndone npile nnow nthen nchoice nplan ncosts npaid nafter nfar nmany nnext 1 1 0 vfree vtop vfound vlength vsort vwhen vone vtwo wf x H.size (mt_b25 (w := 1) (h := 1) (by decide))) (cwV 1 hg gv_md_101 rfl rfl rfl (by decide +kernel) ⟨Nat.le_of_ble_eq_true rfl, Nat.le_of_ble_eq_true rfl⟩) ⟨mt_bl, va_recv (q0 := 0) (ci := 7) hK hP rfl rfl, mt_pr hX hPc hK hDc⟩ rfl rfl hl.1 rfl (lv_room (Nat.le_of_ble_eq_true rfl)) d_md_mover_2 ⟨Nat.le_of_ble_eq_true rfl, Nat.le_of_ble_eq_true rfl⟩) (fun r1 hr1 => ?_)
  have hr1 : (r1 = 1 ∧ ¬ x < 0 ∧ ¬ (1 : Int32) * (1 : Int32) ≤ x ∧ wf x.toNatClampNeg = 0) ∨ (r1 = 0 ∧ (x < 0 ∨ (1 : Int32) * (1 : Int32) ≤ x ∨ ¬ wf x.toNatClampNeg = 0)) := hr1
  refine lv_if_eq hx hb d_md_mover_5 rfl (fun g1 => ?_) (fun g1 => ?_)
  ·
    refine lv_iconst (v := (-1)) hx hb d_md_mover_16 (by decide) ?_
    exact W.iret hx hb hr (fun t ht hW => ⟨⟨(-1), (), rfl, ⟨Or.inl ⟨rfl, fun e9 => (fun e9 => hr1.elim (fun q => absurd (q.1.symm.trans g1) (by decide)) (fun q => q.2.elim (fun z => absurd z (by rw [e9]; decide)) (fun z => z.elim (fun z => absurd z (by rw [e9]; decide)) (fun z => z (by rw [e9]; exact hw0))))) e9.1⟩, trivial⟩, trivial⟩, hS.F ht⟩) hS.2.2 d_md_mover_17
  ·
    refine lv_aload_n hx hb d_md_mover_8 rfl (lv_at hl 0 rfl) ?_
    refine lv_iload_n hx hb d_md_mover_9 rfl (lv_at hl 2 rfl) ?_
    have hPc := hP.sub (ws' := [(na, .inr (7, [.int 1, .int 1, .ref nwalls, .int 0, .ref nstarts, .ref ngoals, .ref nlaid, .ref nisTold, .int vfree, .ref ncells, .ref nindex, .ref nnear, .ref nnearCount, .ref npay, .ref ndone, .ref npile, .int vtop, .ref nnow, .ref nthen, .ref nchoice, .int vfound, .int vlength, .ref nplan, .ref ncosts, .ref npaid, .ref nafter, .ref nfar, .ref nmany, .ref nnext, .int vsort, .int vwhen, .int vone, .int vtwo])), (nwalls, .inl (cZ, 25, .inl wf))]) [0, 1] rfl
    have hDc := hD.sub (ws' := [(na, .inr (7, [.int 1, .int 1, .ref nwalls, .int 0, .ref nstarts, .ref ngoals, .ref nlaid, .ref nisTold, .int vfree, .ref ncells, .ref nindex, .ref nnear, .ref nnearCount, .ref npay, .ref ndone, .ref npile, .int vtop, .ref nnow, .ref nthen, .ref nchoice, .int vfound, .int vlength, .ref nplan, .ref ncosts, .ref npaid, .ref nafter, .ref nfar, .ref nmany, .ref nnext, .int vsort, .int vwhen, .int vone, .int vtwo])), (nwalls, .inl (cZ, 25, .inl wf))]) [0, 1] (by decide) rfl
    refine vp_callSi (W.runV (As := [.int y]) (rest := []) ⟨hx, hb, hml, hown, hg⟩ (c_md_isFree l D cZ cI cJ cII na nwalls nstarts ngoals nlaid nisTold ncells nindex nnear nnearCount npay ndone npile nnow nthen nchoice nplan ncosts npaid nafter nfar nmany nnext 1 1 0 vfree vtop vfound vlength vsort vwhen vone vtwo wf y H.size (mt_b25 (w := 1) (h := 1) (by decide))) (cwV 1 hg gv_md_101 rfl rfl rfl (by decide +kernel) ⟨Nat.le_of_ble_eq_true rfl, Nat.le_of_ble_eq_true rfl⟩) ⟨mt_bl, va_recv (q0 := 0) (ci := 7) hK hP rfl rfl, mt_pr hX hPc hK hDc⟩ rfl rfl hl.1 rfl (lv_room (Nat.le_of_ble_eq_true rfl)) d_md_mover_10 ⟨Nat.le_of_ble_eq_true rfl, Nat.le_of_ble_eq_true rfl⟩) (fun r2 hr2 => ?_)
    have hr2 : (r2 = 1 ∧ ¬ y < 0 ∧ ¬ (1 : Int32) * (1 : Int32) ≤ y ∧ wf y.toNatClampNeg = 0) ∨ (r2 = 0 ∧ (y < 0 ∨ (1 : Int32) * (1 : Int32) ≤ y ∨ ¬ wf y.toNatClampNeg = 0)) := hr2
    refine lv_if_ne hx hb d_md_mover_13 rfl (fun g2 => ?_) (fun g2 => ?_)
    ·
      have g3 : x = 0 := hr1.elim (fun q => mt_one q.2.1 q.2.2.1) (fun q => absurd q.1 g1)
      have g4 : y = 0 := hr2.elim (fun q => mt_one q.2.1 q.2.2.1) (fun q => absurd q.1 g2)
      subst g3
      subst g4
      have hl : lv_has ls 6 [(0, .ref na), (1, .int 0), (2, .int 0)] := hl
      refine lv_aload_n hx hb d_md_mover_18 rfl (lv_at hl 0 rfl) ?_
      have hPc := hP.sub (ws' := [(na, .inr (7, [.int 1, .int 1, .ref nwalls, .int 0, .ref nstarts, .ref ngoals, .ref nlaid, .ref nisTold, .int vfree, .ref ncells, .ref nindex, .ref nnear, .ref nnearCount, .ref npay, .ref ndone, .ref npile, .int vtop, .ref nnow, .ref nthen, .ref nchoice, .int vfound, .int vlength, .ref nplan, .ref ncosts, .ref npaid, .ref nafter, .ref nfar, .ref nmany, .ref nnext, .int vsort, .int vwhen, .int vone, .int vtwo])), (nwalls, .inl (cZ, 25, .inl wf))]) [0, 1] rfl
      have hDc := hD.sub (ws' := [(na, .inr (7, [.int 1, .int 1, .ref nwalls, .int 0, .ref nstarts, .ref ngoals, .ref nlaid, .ref nisTold, .int vfree, .ref ncells, .ref nindex, .ref nnear, .ref nnearCount, .ref npay, .ref ndone, .ref npile, .int vtop, .ref nnow, .ref nthen, .ref nchoice, .int vfound, .int vlength, .ref nplan, .ref ncosts, .ref npaid, .ref nafter, .ref nfar, .ref nmany, .ref nnext, .int vsort, .int vwhen, .int vone, .int vtwo])), (nwalls, .inl (cZ, 25, .inl wf))]) [0, 1] (by decide) rfl
      refine vp_callSi (W.runV (As := []) (rest := []) ⟨hx, hb, hml, hown, hg⟩ (c_md_freeCells l D cZ cI cJ cII na nwalls nstarts ngoals nlaid nisTold ncells nindex nnear nnearCount npay ndone npile nnow nthen nchoice nplan ncosts npaid nafter nfar nmany nnext 0 vfree vtop vfound vlength vsort vwhen vone vtwo wf H.size hw0) (cwV 0 hg gv_md_104 rfl rfl rfl (by decide +kernel) ⟨Nat.le_of_ble_eq_true rfl, Nat.le_of_ble_eq_true rfl⟩) ⟨mt_bl, va_recv (q0 := 0) (ci := 7) hK hP rfl rfl, mt_pr hX hPc hK hDc⟩ rfl rfl hl.1 rfl (lv_room (Nat.le_of_ble_eq_true rfl)) d_md_mover_19 ⟨Nat.le_of_ble_eq_true rfl, Nat.le_of_ble_eq_true rfl⟩) (fun r3 hr3 => ?_)
      have hr3 : r3 = 1 := hr3
      have hr3 : r3 = 1 := hr3
      subst hr3
      refine lv_istore_n hx hb d_md_mover_22 rfl hl (by decide) rfl (fun ls hl => ?_)
      have hl : lv_has ls 6 [(3, .int 1), (0, .ref na), (1, .int 0), (2, .int 0)] := hl
      refine lv_iload_n hx hb d_md_mover_23 rfl (lv_at hl 0 rfl) ?_
      refine lv_istore hx hb d_md_mover_24 hl (by decide) rfl (fun ls hl => ?_)
      have hl : lv_has ls 6 [(4, .int 1), (3, .int 1), (0, .ref na), (1, .int 0), (2, .int 0)] := hl
      refine lv_iconst (v := 0) hx hb d_md_mover_26 (by decide) ?_
      refine lv_istore hx hb d_md_mover_27 hl (by decide) rfl (fun ls hl => ?_)
      have hl : lv_has ls 6 [(5, .int 0), (4, .int 1), (3, .int 1), (0, .ref na), (1, .int 0), (2, .int 0)] := hl
      refine lv_iload hx hb d_md_mover_29 (lv_at hl 0 rfl) ?_
      refine lv_aload_n hx hb d_md_mover_31 rfl (lv_at hl 3 rfl) ?_
      refine gf_md_86 hx hb hg hown hK hP 0 rfl rfl d_md_mover_32 ?_
      refine lv_icmp_ge hx hb d_md_mover_35 rfl (fun _ => ?_) (fun h => absurd (by decide) h)
      refine lv_iload hx hb d_md_mover_87 (lv_at hl 1 rfl) ?_
      refine lv_sipush (v := 16000) hx hb d_md_mover_89 (by decide) ?_
      refine lv_icmp_le hx hb d_md_mover_92 rfl (fun _ => ?_) (fun h => absurd (by decide) h)
      refine lv_aload_n hx hb d_md_mover_97 rfl (lv_at hl 3 rfl) ?_
      refine gf_md_20 hx hb hg hown hK hP 0 rfl rfl d_md_mover_98 ?_
      refine lv_aload_n hx hb d_md_mover_101 rfl (lv_at hl 3 rfl) ?_
      refine gf_md_86 hx hb hg hown hK hP 0 rfl rfl d_md_mover_102 ?_
      refine lv_iload_n hx hb d_md_mover_105 rfl (lv_at hl 4 rfl) ?_
      refine va_iast hx hb hK hP hD hS 2 1 rfl rfl (by unfold vp_in; decide) d_md_mover_106 (fun H locs hP hD hS => ?_)
      have hP : va_P D kls [(na, .inr (7, [.int 1, .int 1, .ref nwalls, .int 0, .ref nstarts, .ref ngoals, .ref nlaid, .ref nisTold, .int vfree, .ref ncells, .ref nindex, .ref nnear, .ref nnearCount, .ref npay, .ref ndone, .ref npile, .int vtop, .ref nnow, .ref nthen, .ref nchoice, .int vfound, .int vlength, .ref nplan, .ref ncosts, .ref npaid, .ref nafter, .ref nfar, .ref nmany, .ref nnext, .int vsort, .int vwhen, .int vone, .int vtwo])), (nwalls, .inl (cZ, 25, .inl wf)), (nstarts, .inl (cI, 25, .inl (upd sf (0 : Int32).toNatClampNeg 0))), (ngoals, .inl (cI, 25, .inl gf))] H := hP
      have hD : va_D A [(na, .inr (7, [.int 1, .int 1, .ref nwalls, .int 0, .ref nstarts, .ref ngoals, .ref nlaid, .ref nisTold, .int vfree, .ref ncells, .ref nindex, .ref nnear, .ref nnearCount, .ref npay, .ref ndone, .ref npile, .int vtop, .ref nnow, .ref nthen, .ref nchoice, .int vfound, .int vlength, .ref nplan, .ref ncosts, .ref npaid, .ref nafter, .ref nfar, .ref nmany, .ref nnext, .int vsort, .int vwhen, .int vone, .int vtwo])), (nwalls, .inl (cZ, 25, .inl wf)), (nstarts, .inl (cI, 25, .inl (upd sf (0 : Int32).toNatClampNeg 0))), (ngoals, .inl (cI, 25, .inl gf))] := hD
      refine lv_aload_n hx hb d_md_mover_107 rfl (lv_at hl 3 rfl) ?_
      refine gf_md_24 hx hb hg hown hK hP 0 rfl rfl d_md_mover_108 ?_
      refine lv_aload_n hx hb d_md_mover_111 rfl (lv_at hl 3 rfl) ?_
      refine gf_md_86 hx hb hg hown hK hP 0 rfl rfl d_md_mover_112 ?_
      refine lv_iload_n hx hb d_md_mover_115 rfl (lv_at hl 5 rfl) ?_
      refine va_iast hx hb hK hP hD hS 3 1 rfl rfl (by unfold vp_in; decide) d_md_mover_116 (fun H locs hP hD hS => ?_)
      have hP : va_P D kls [(na, .inr (7, [.int 1, .int 1, .ref nwalls, .int 0, .ref nstarts, .ref ngoals, .ref nlaid, .ref nisTold, .int vfree, .ref ncells, .ref nindex, .ref nnear, .ref nnearCount, .ref npay, .ref ndone, .ref npile, .int vtop, .ref nnow, .ref nthen, .ref nchoice, .int vfound, .int vlength, .ref nplan, .ref ncosts, .ref npaid, .ref nafter, .ref nfar, .ref nmany, .ref nnext, .int vsort, .int vwhen, .int vone, .int vtwo])), (nwalls, .inl (cZ, 25, .inl wf)), (nstarts, .inl (cI, 25, .inl (upd sf (0 : Int32).toNatClampNeg 0))), (ngoals, .inl (cI, 25, .inl (upd gf (0 : Int32).toNatClampNeg 0)))] H := hP
      have hD : va_D A [(na, .inr (7, [.int 1, .int 1, .ref nwalls, .int 0, .ref nstarts, .ref ngoals, .ref nlaid, .ref nisTold, .int vfree, .ref ncells, .ref nindex, .ref nnear, .ref nnearCount, .ref npay, .ref ndone, .ref npile, .int vtop, .ref nnow, .ref nthen, .ref nchoice, .int vfound, .int vlength, .ref nplan, .ref ncosts, .ref npaid, .ref nafter, .ref nfar, .ref nmany, .ref nnext, .int vsort, .int vwhen, .int vone, .int vtwo])), (nwalls, .inl (cZ, 25, .inl wf)), (nstarts, .inl (cI, 25, .inl (upd sf (0 : Int32).toNatClampNeg 0))), (ngoals, .inl (cI, 25, .inl (upd gf (0 : Int32).toNatClampNeg 0)))] := hD
      refine lv_aload_n hx hb d_md_mover_117 rfl (lv_at hl 3 rfl) ?_
      refine lv_dup hx hb d_md_mover_118 rfl ?_
      refine gf_md_86 hx hb hg hown hK hP 0 rfl rfl d_md_mover_119 ?_
      refine lv_iconst (v := 1) hx hb d_md_mover_122 (by decide) ?_
      refine lv_iadd hx hb d_md_mover_123 ?_
      refine lv_topi (fun y4 ey4 => ?_)
      have ey4 : y4 = 1 := ey4.trans (by decide)
      subst ey4
      refine pf_md_86 hx hb hg hown hK hP hD hS 0 rfl rfl rfl (Nat.le_of_ble_eq_true rfl) d_md_mover_124 (fun H locs hP hD hS => ?_)
      have hP : va_P D kls [(na, .inr (7, [.int 1, .int 1, .ref nwalls, .int 1, .ref nstarts, .ref ngoals, .ref nlaid, .ref nisTold, .int vfree, .ref ncells, .ref nindex, .ref nnear, .ref nnearCount, .ref npay, .ref ndone, .ref npile, .int vtop, .ref nnow, .ref nthen, .ref nchoice, .int vfound, .int vlength, .ref nplan, .ref ncosts, .ref npaid, .ref nafter, .ref nfar, .ref nmany, .ref nnext, .int vsort, .int vwhen, .int vone, .int vtwo])), (nwalls, .inl (cZ, 25, .inl wf)), (nstarts, .inl (cI, 25, .inl (upd sf (0 : Int32).toNatClampNeg 0))), (ngoals, .inl (cI, 25, .inl (upd gf (0 : Int32).toNatClampNeg 0)))] H := hP
      have hD : va_D A [(na, .inr (7, [.int 1, .int 1, .ref nwalls, .int 1, .ref nstarts, .ref ngoals, .ref nlaid, .ref nisTold, .int vfree, .ref ncells, .ref nindex, .ref nnear, .ref nnearCount, .ref npay, .ref ndone, .ref npile, .int vtop, .ref nnow, .ref nthen, .ref nchoice, .int vfound, .int vlength, .ref nplan, .ref ncosts, .ref npaid, .ref nafter, .ref nfar, .ref nmany, .ref nnext, .int vsort, .int vwhen, .int vone, .int vtwo])), (nwalls, .inl (cZ, 25, .inl wf)), (nstarts, .inl (cI, 25, .inl (upd sf (0 : Int32).toNatClampNeg 0))), (ngoals, .inl (cI, 25, .inl (upd gf (0 : Int32).toNatClampNeg 0)))] := hD
      refine lv_aload_n hx hb d_md_mover_127 rfl (lv_at hl 3 rfl) ?_
      refine lv_iconst (v := 0) hx hb d_md_mover_128 (by decide) ?_
      refine pf_md_89 hx hb hg hown hK hP hD hS 0 rfl rfl rfl (Nat.le_of_ble_eq_true rfl) d_md_mover_129 (fun H locs hP hD hS => ?_)
      have hP : va_P D kls [(na, .inr (7, [.int 1, .int 1, .ref nwalls, .int 1, .ref nstarts, .ref ngoals, .ref nlaid, .ref nisTold, .int vfree, .ref ncells, .ref nindex, .ref nnear, .ref nnearCount, .ref npay, .ref ndone, .ref npile, .int vtop, .ref nnow, .ref nthen, .ref nchoice, .int 0, .int vlength, .ref nplan, .ref ncosts, .ref npaid, .ref nafter, .ref nfar, .ref nmany, .ref nnext, .int vsort, .int vwhen, .int vone, .int vtwo])), (nwalls, .inl (cZ, 25, .inl wf)), (nstarts, .inl (cI, 25, .inl (upd sf (0 : Int32).toNatClampNeg 0))), (ngoals, .inl (cI, 25, .inl (upd gf (0 : Int32).toNatClampNeg 0)))] H := hP
      have hD : va_D A [(na, .inr (7, [.int 1, .int 1, .ref nwalls, .int 1, .ref nstarts, .ref ngoals, .ref nlaid, .ref nisTold, .int vfree, .ref ncells, .ref nindex, .ref nnear, .ref nnearCount, .ref npay, .ref ndone, .ref npile, .int vtop, .ref nnow, .ref nthen, .ref nchoice, .int 0, .int vlength, .ref nplan, .ref ncosts, .ref npaid, .ref nafter, .ref nfar, .ref nmany, .ref nnext, .int vsort, .int vwhen, .int vone, .int vtwo])), (nwalls, .inl (cZ, 25, .inl wf)), (nstarts, .inl (cI, 25, .inl (upd sf (0 : Int32).toNatClampNeg 0))), (ngoals, .inl (cI, 25, .inl (upd gf (0 : Int32).toNatClampNeg 0)))] := hD
      refine lv_aload_n hx hb d_md_mover_132 rfl (lv_at hl 3 rfl) ?_
      refine gf_md_86 hx hb hg hown hK hP 0 rfl rfl d_md_mover_133 ?_
      refine lv_iconst (v := 1) hx hb d_md_mover_136 (by decide) ?_
      refine lv_isub hx hb d_md_mover_137 ?_
      refine lv_topi (fun y5 ey5 => ?_)
      have ey5 : y5 = 0 := ey5.trans (by decide)
      subst ey5
      exact W.iret hx hb hr (fun t ht hW => ⟨⟨0, (), rfl, ⟨Or.inr ⟨rfl, rfl, rfl⟩, trivial⟩, trivial⟩, hS.F ht⟩) hS.2.2 d_md_mover_138
    ·
      refine lv_iconst (v := (-1)) hx hb d_md_mover_16 (by decide) ?_
      exact W.iret hx hb hr (fun t ht hW => ⟨⟨(-1), (), rfl, ⟨Or.inl ⟨rfl, fun e9 => (fun e9 => hr2.elim (fun q => absurd (q.1.symm.trans g2) (by decide)) (fun q => q.2.elim (fun z => absurd z (by rw [e9]; decide)) (fun z => z.elim (fun z => absurd z (by rw [e9]; decide)) (fun z => z (by rw [e9]; exact hw0))))) e9.2⟩, trivial⟩, trivial⟩, hS.F ht⟩) hS.2.2 d_md_mover_17

set_option maxHeartbeats 4000000 in
set_option maxRecDepth 100000 in
theorem c_md_room (l : Launch) (D : va_G) (cZ cI cJ cII : ClassId) (na : Nat) (nwalls : Nat) (nstarts : Nat) (ngoals : Nat) (nlaid : Nat) (nisTold : Nat) (ncells : Nat) (nindex : Nat) (nnear : Nat) (nnearCount : Nat) (npay : Nat) (ndone : Nat) (npile : Nat) (nnow : Nat) (nthen : Nat) (nchoice : Nat) (nplan : Nat) (ncosts : Nat) (npaid : Nat) (nafter : Nat) (nfar : Nat) (nmany : Nat) (nnext : Nat) (vwide : Int32) (vhigh : Int32) (vmovers : Int32) (vfree : Int32) (vtop : Int32) (vfound : Int32) (vlength : Int32) (vsort : Int32) (vwhen : Int32) (vone : Int32) (vtwo : Int32) (wf : Nat → Int32) (of : Nat → Int32) (x : Int32) (y : Int32) (sz : Nat)  : Met l y_md_room w_md_room ({ frames := 1, cells := 0, slots := 0, locals := 40 }) (va_Pc [.ref na, .int x, .int y] (mt_B D [(cZ, .boolean), (cI, .int), (cJ, .long), (cII, .array .int)] [(na, .inr (7, [.int vwide, .int vhigh, .ref nwalls, .int vmovers, .ref nstarts, .ref ngoals, .ref nlaid, .ref nisTold, .int vfree, .ref ncells, .ref nindex, .ref nnear, .ref nnearCount, .ref npay, .ref ndone, .ref npile, .int vtop, .ref nnow, .ref nthen, .ref nchoice, .int vfound, .int vlength, .ref nplan, .ref ncosts, .ref npaid, .ref nafter, .ref nfar, .ref nmany, .ref nnext, .int vsort, .int vwhen, .int vone, .int vtwo])), (nwalls, .inl (cZ, 25, .inl wf)), (nisTold, .inl (cZ, 180, .inl of))] sz)) ((fun A => va_Qi (fun (r : Int32) (u : Unit) => ((r = -1 ∧ (x < 1 ∨ 6 < x ∨ y < 1 ∨ 6 < y ∨ ¬ x * y ≤ 25)) ∨ (r = x * y ∧ ¬ x < 1 ∧ ¬ 6 < x ∧ ¬ y < 1 ∧ ¬ 6 < y ∧ x * y ≤ 25)) ∧ (True)) (fun (u : Unit) (t : State) => True) A) (va_A [(na, .inr (7, [.int vwide, .int vhigh, .ref nwalls, .int vmovers, .ref nstarts, .ref ngoals, .ref nlaid, .ref nisTold, .int vfree, .ref ncells, .ref nindex, .ref nnear, .ref nnearCount, .ref npay, .ref ndone, .ref npile, .int vtop, .ref nnow, .ref nthen, .ref nchoice, .int vfound, .int vlength, .ref nplan, .ref ncosts, .ref npaid, .ref nafter, .ref nfar, .ref nmany, .ref nnext, .int vsort, .int vwhen, .int vone, .int vtwo])), (nwalls, .inl (cZ, 25, .inl wf)), (nisTold, .inl (cZ, 180, .inl of))] sz)) 0 0 (va_A [(na, .inr (7, [.int vwide, .int vhigh, .ref nwalls, .int vmovers, .ref nstarts, .ref ngoals, .ref nlaid, .ref nisTold, .int vfree, .ref ncells, .ref nindex, .ref nnear, .ref nnearCount, .ref npay, .ref ndone, .ref npile, .int vtop, .ref nnow, .ref nthen, .ref nchoice, .int vfound, .int vlength, .ref nplan, .ref ncosts, .ref npaid, .ref nafter, .ref nfar, .ref nmany, .ref nnext, .int vsort, .int vwhen, .int vone, .int vtwo])), (nwalls, .inl (cZ, 25, .inl wf)), (nisTold, .inl (cZ, 180, .inl of))] sz) := by
  refine mt_of (y := y_md_room) (n := 4) (av := [.ref na, .int x, .int y]) (QF := (fun A => va_Qi (fun (r : Int32) (u : Unit) => ((r = -1 ∧ (x < 1 ∨ 6 < x ∨ y < 1 ∨ 6 < y ∨ ¬ x * y ≤ 25)) ∨ (r = x * y ∧ ¬ x < 1 ∧ ¬ 6 < x ∧ ¬ y < 1 ∧ ¬ 6 < y ∧ x * y ≤ 25)) ∧ (True)) (fun (u : Unit) (t : State) => True) A)) (by decide) (Nat.le_of_ble_eq_true rfl) ?_
  intro p e s m below meth c ls A hx hb hr hlk hml hown hnm hg hl hX hP hK hD hA hS
  obtain ⟨H, hH⟩ : ∃ H : Heap, H = s.heap := ⟨_, rfl⟩
  have hS : va_S A s.heap H [] := by rw [hH]; exact va_S.rf
  rw [← hH] at hP ⊢
  have hown : s.vm.findClass R_md = some m.cls := hown
  have hl : lv_has ls 4 [(0, .ref na), (1, .int x), (2, .int y)] := hl
  refine lv_iload_n hx hb d_md_room_0 rfl (lv_at hl 1 rfl) ?_
  refine lv_iconst (v := 1) hx hb d_md_room_1 (by decide) ?_
  refine lv_icmp_lt hx hb d_md_room_2 rfl (fun g1 => ?_) (fun g1 => ?_)
  ·
    refine lv_iconst (v := (-1)) hx hb d_md_room_30 (by decide) ?_
    exact W.iret hx hb hr (fun t ht hW => ⟨⟨(-1), (), rfl, ⟨Or.inl ⟨rfl, Or.inl g1⟩, trivial⟩, trivial⟩, hS.F ht⟩) hS.2.2 d_md_room_31
  ·
    refine lv_iload_n hx hb d_md_room_5 rfl (lv_at hl 1 rfl) ?_
    refine lv_bipush (v := 6) hx hb d_md_room_6 (by decide) ?_
    refine lv_icmp_gt hx hb d_md_room_8 rfl (fun g2 => ?_) (fun g2 => ?_)
    ·
      refine lv_iconst (v := (-1)) hx hb d_md_room_30 (by decide) ?_
      exact W.iret hx hb hr (fun t ht hW => ⟨⟨(-1), (), rfl, ⟨Or.inl ⟨rfl, Or.inr (Or.inl g2)⟩, trivial⟩, trivial⟩, hS.F ht⟩) hS.2.2 d_md_room_31
    ·
      refine lv_iload_n hx hb d_md_room_11 rfl (lv_at hl 2 rfl) ?_
      refine lv_iconst (v := 1) hx hb d_md_room_12 (by decide) ?_
      refine lv_icmp_lt hx hb d_md_room_13 rfl (fun g3 => ?_) (fun g3 => ?_)
      ·
        refine lv_iconst (v := (-1)) hx hb d_md_room_30 (by decide) ?_
        exact W.iret hx hb hr (fun t ht hW => ⟨⟨(-1), (), rfl, ⟨Or.inl ⟨rfl, Or.inr (Or.inr (Or.inl g3))⟩, trivial⟩, trivial⟩, hS.F ht⟩) hS.2.2 d_md_room_31
      ·
        refine lv_iload_n hx hb d_md_room_16 rfl (lv_at hl 2 rfl) ?_
        refine lv_bipush (v := 6) hx hb d_md_room_17 (by decide) ?_
        refine lv_icmp_gt hx hb d_md_room_19 rfl (fun g4 => ?_) (fun g4 => ?_)
        ·
          refine lv_iconst (v := (-1)) hx hb d_md_room_30 (by decide) ?_
          exact W.iret hx hb hr (fun t ht hW => ⟨⟨(-1), (), rfl, ⟨Or.inl ⟨rfl, Or.inr (Or.inr (Or.inr (Or.inl g4)))⟩, trivial⟩, trivial⟩, hS.F ht⟩) hS.2.2 d_md_room_31
        ·
          refine lv_iload_n hx hb d_md_room_22 rfl (lv_at hl 1 rfl) ?_
          refine lv_iload_n hx hb d_md_room_23 rfl (lv_at hl 2 rfl) ?_
          refine lv_imul hx hb d_md_room_24 ?_
          refine lv_bipush (v := 25) hx hb d_md_room_25 (by decide) ?_
          refine lv_icmp_le hx hb d_md_room_27 rfl (fun g5 => ?_) (fun g5 => ?_)
          ·
            refine lv_aload_n hx hb d_md_room_32 rfl (lv_at hl 0 rfl) ?_
            refine lv_iload_n hx hb d_md_room_33 rfl (lv_at hl 1 rfl) ?_
            refine pf_md_7 hx hb hg hown hK hP hD hS 0 rfl rfl rfl (Nat.le_of_ble_eq_true rfl) d_md_room_34 (fun H locs hP hD hS => ?_)
            have hP : va_P D kls [(na, .inr (7, [.int x, .int vhigh, .ref nwalls, .int vmovers, .ref nstarts, .ref ngoals, .ref nlaid, .ref nisTold, .int vfree, .ref ncells, .ref nindex, .ref nnear, .ref nnearCount, .ref npay, .ref ndone, .ref npile, .int vtop, .ref nnow, .ref nthen, .ref nchoice, .int vfound, .int vlength, .ref nplan, .ref ncosts, .ref npaid, .ref nafter, .ref nfar, .ref nmany, .ref nnext, .int vsort, .int vwhen, .int vone, .int vtwo])), (nwalls, .inl (cZ, 25, .inl wf)), (nisTold, .inl (cZ, 180, .inl of))] H := hP
            have hD : va_D A [(na, .inr (7, [.int x, .int vhigh, .ref nwalls, .int vmovers, .ref nstarts, .ref ngoals, .ref nlaid, .ref nisTold, .int vfree, .ref ncells, .ref nindex, .ref nnear, .ref nnearCount, .ref npay, .ref ndone, .ref npile, .int vtop, .ref nnow, .ref nthen, .ref nchoice, .int vfound, .int vlength, .ref nplan, .ref ncosts, .ref npaid, .ref nafter, .ref nfar, .ref nmany, .ref nnext, .int vsort, .int vwhen, .int vone, .int vtwo])), (nwalls, .inl (cZ, 25, .inl wf)), (nisTold, .inl (cZ, 180, .inl of))] := hD
            refine lv_aload_n hx hb d_md_room_37 rfl (lv_at hl 0 rfl) ?_
            refine lv_iload_n hx hb d_md_room_38 rfl (lv_at hl 2 rfl) ?_
            refine pf_md_13 hx hb hg hown hK hP hD hS 0 rfl rfl rfl (Nat.le_of_ble_eq_true rfl) d_md_room_39 (fun H locs hP hD hS => ?_)
            have hP : va_P D kls [(na, .inr (7, [.int x, .int y, .ref nwalls, .int vmovers, .ref nstarts, .ref ngoals, .ref nlaid, .ref nisTold, .int vfree, .ref ncells, .ref nindex, .ref nnear, .ref nnearCount, .ref npay, .ref ndone, .ref npile, .int vtop, .ref nnow, .ref nthen, .ref nchoice, .int vfound, .int vlength, .ref nplan, .ref ncosts, .ref npaid, .ref nafter, .ref nfar, .ref nmany, .ref nnext, .int vsort, .int vwhen, .int vone, .int vtwo])), (nwalls, .inl (cZ, 25, .inl wf)), (nisTold, .inl (cZ, 180, .inl of))] H := hP
            have hD : va_D A [(na, .inr (7, [.int x, .int y, .ref nwalls, .int vmovers, .ref nstarts, .ref ngoals, .ref nlaid, .ref nisTold, .int vfree, .ref ncells, .ref nindex, .ref nnear, .ref nnearCount, .ref npay, .ref ndone, .ref npile, .int vtop, .ref nnow, .ref nthen, .ref nchoice, .int vfound, .int vlength, .ref nplan, .ref ncosts, .ref npaid, .ref nafter, .ref nfar, .ref nmany, .ref nnext, .int vsort, .int vwhen, .int vone, .int vtwo])), (nwalls, .inl (cZ, 25, .inl wf)), (nisTold, .inl (cZ, 180, .inl of))] := hD
            refine lv_aload_n hx hb d_md_room_42 rfl (lv_at hl 0 rfl) ?_
            refine lv_iconst (v := 0) hx hb d_md_room_43 (by decide) ?_
            refine pf_md_86 hx hb hg hown hK hP hD hS 0 rfl rfl rfl (Nat.le_of_ble_eq_true rfl) d_md_room_44 (fun H locs hP hD hS => ?_)
            have hP : va_P D kls [(na, .inr (7, [.int x, .int y, .ref nwalls, .int 0, .ref nstarts, .ref ngoals, .ref nlaid, .ref nisTold, .int vfree, .ref ncells, .ref nindex, .ref nnear, .ref nnearCount, .ref npay, .ref ndone, .ref npile, .int vtop, .ref nnow, .ref nthen, .ref nchoice, .int vfound, .int vlength, .ref nplan, .ref ncosts, .ref npaid, .ref nafter, .ref nfar, .ref nmany, .ref nnext, .int vsort, .int vwhen, .int vone, .int vtwo])), (nwalls, .inl (cZ, 25, .inl wf)), (nisTold, .inl (cZ, 180, .inl of))] H := hP
            have hD : va_D A [(na, .inr (7, [.int x, .int y, .ref nwalls, .int 0, .ref nstarts, .ref ngoals, .ref nlaid, .ref nisTold, .int vfree, .ref ncells, .ref nindex, .ref nnear, .ref nnearCount, .ref npay, .ref ndone, .ref npile, .int vtop, .ref nnow, .ref nthen, .ref nchoice, .int vfound, .int vlength, .ref nplan, .ref ncosts, .ref npaid, .ref nafter, .ref nfar, .ref nmany, .ref nnext, .int vsort, .int vwhen, .int vone, .int vtwo])), (nwalls, .inl (cZ, 25, .inl wf)), (nisTold, .inl (cZ, 180, .inl of))] := hD
            refine lv_aload_n hx hb d_md_room_47 rfl (lv_at hl 0 rfl) ?_
            refine lv_iconst (v := 0) hx hb d_md_room_48 (by decide) ?_
            refine pf_md_89 hx hb hg hown hK hP hD hS 0 rfl rfl rfl (Nat.le_of_ble_eq_true rfl) d_md_room_49 (fun H locs hP hD hS => ?_)
            have hP : va_P D kls [(na, .inr (7, [.int x, .int y, .ref nwalls, .int 0, .ref nstarts, .ref ngoals, .ref nlaid, .ref nisTold, .int vfree, .ref ncells, .ref nindex, .ref nnear, .ref nnearCount, .ref npay, .ref ndone, .ref npile, .int vtop, .ref nnow, .ref nthen, .ref nchoice, .int 0, .int vlength, .ref nplan, .ref ncosts, .ref npaid, .ref nafter, .ref nfar, .ref nmany, .ref nnext, .int vsort, .int vwhen, .int vone, .int vtwo])), (nwalls, .inl (cZ, 25, .inl wf)), (nisTold, .inl (cZ, 180, .inl of))] H := hP
            have hD : va_D A [(na, .inr (7, [.int x, .int y, .ref nwalls, .int 0, .ref nstarts, .ref ngoals, .ref nlaid, .ref nisTold, .int vfree, .ref ncells, .ref nindex, .ref nnear, .ref nnearCount, .ref npay, .ref ndone, .ref npile, .int vtop, .ref nnow, .ref nthen, .ref nchoice, .int 0, .int vlength, .ref nplan, .ref ncosts, .ref npaid, .ref nafter, .ref nfar, .ref nmany, .ref nnext, .int vsort, .int vwhen, .int vone, .int vtwo])), (nwalls, .inl (cZ, 25, .inl wf)), (nisTold, .inl (cZ, 180, .inl of))] := hD
            refine lv_iconst (v := 0) hx hb d_md_room_52 (by decide) ?_
            refine lv_istore_n hx hb d_md_room_53 rfl hl (by decide) rfl (fun ls hl => ?_)
            have hl : lv_has ls 4 [(3, .int 0), (0, .ref na), (1, .int x), (2, .int y)] := hl
            have hl := lv_sub hl [0, 1, 2, 3] (l' := [(3, .int (nI 0)), (0, .ref na), (1, .int x), (2, .int y)]) rfl
            refine mt_loop (ι := Nat × (Nat → Int32)) (I := fun i ls H locs => ((i.1) ≤ 25) ∧ lv_has ls 4 [(3, .int (nI (i.1))), (0, .ref na), (1, .int x), (2, .int y)] ∧ va_P D kls [(na, .inr (7, [.int x, .int y, .ref nwalls, .int 0, .ref nstarts, .ref ngoals, .ref nlaid, .ref nisTold, .int vfree, .ref ncells, .ref nindex, .ref nnear, .ref nnearCount, .ref npay, .ref ndone, .ref npile, .int vtop, .ref nnow, .ref nthen, .ref nchoice, .int 0, .int vlength, .ref nplan, .ref ncosts, .ref npaid, .ref nafter, .ref nfar, .ref nmany, .ref nnext, .int vsort, .int vwhen, .int vone, .int vtwo])), (nwalls, .inl (cZ, 25, .inl (i.2))), (nisTold, .inl (cZ, 180, .inl of))] H ∧ va_D A [(na, .inr (7, [.int x, .int y, .ref nwalls, .int 0, .ref nstarts, .ref ngoals, .ref nlaid, .ref nisTold, .int vfree, .ref ncells, .ref nindex, .ref nnear, .ref nnearCount, .ref npay, .ref ndone, .ref npile, .int vtop, .ref nnow, .ref nthen, .ref nchoice, .int 0, .int vlength, .ref nplan, .ref ncosts, .ref npaid, .ref nafter, .ref nfar, .ref nmany, .ref nnext, .int vsort, .int vwhen, .int vone, .int vtwo])), (nwalls, .inl (cZ, 25, .inl (i.2))), (nisTold, .inl (cZ, 180, .inl of))] ∧ va_S A s.heap H locs) (μ := fun i => 25 - (i.1)) ?_ (0, wf) ls H _ ⟨Nat.zero_le _, hl, hP, hD, hS⟩
            clear hl hP hD hS
            intro i_a ls H locs ⟨hi, hl, hP, hD, hS⟩ ih_a
            obtain ⟨iw, g⟩ := i_a
            have hi : iw ≤ 25 := hi
            have hl : lv_has ls 4 [(3, .int (nI iw)), (0, .ref na), (1, .int x), (2, .int y)] := hl
            have hP : va_P D kls [(na, .inr (7, [.int x, .int y, .ref nwalls, .int 0, .ref nstarts, .ref ngoals, .ref nlaid, .ref nisTold, .int vfree, .ref ncells, .ref nindex, .ref nnear, .ref nnearCount, .ref npay, .ref ndone, .ref npile, .int vtop, .ref nnow, .ref nthen, .ref nchoice, .int 0, .int vlength, .ref nplan, .ref ncosts, .ref npaid, .ref nafter, .ref nfar, .ref nmany, .ref nnext, .int vsort, .int vwhen, .int vone, .int vtwo])), (nwalls, .inl (cZ, 25, .inl g)), (nisTold, .inl (cZ, 180, .inl of))] H := hP
            have hD : va_D A [(na, .inr (7, [.int x, .int y, .ref nwalls, .int 0, .ref nstarts, .ref ngoals, .ref nlaid, .ref nisTold, .int vfree, .ref ncells, .ref nindex, .ref nnear, .ref nnearCount, .ref npay, .ref ndone, .ref npile, .int vtop, .ref nnow, .ref nthen, .ref nchoice, .int 0, .int vlength, .ref nplan, .ref ncosts, .ref npaid, .ref nafter, .ref nfar, .ref nmany, .ref nnext, .int vsort, .int vwhen, .int vone, .int vtwo])), (nwalls, .inl (cZ, 25, .inl g)), (nisTold, .inl (cZ, 180, .inl of))] := hD
            refine lv_iload_n hx hb d_md_room_54 rfl (lv_at hl 0 rfl) ?_
            refine lv_bipush (v := 25) hx hb d_md_room_55 (by decide) ?_
            refine lv_icmp_ge hx hb d_md_room_57 rfl (fun g8 => ?_) (fun g8 => ?_)
            ·
              obtain ⟨gA, hgA⟩ : ∃ z, z = g := ⟨_, rfl⟩
              rw [← hgA] at hP hD
              have hP : va_P D kls [(na, .inr (7, [.int x, .int y, .ref nwalls, .int 0, .ref nstarts, .ref ngoals, .ref nlaid, .ref nisTold, .int vfree, .ref ncells, .ref nindex, .ref nnear, .ref nnearCount, .ref npay, .ref ndone, .ref npile, .int vtop, .ref nnow, .ref nthen, .ref nchoice, .int 0, .int vlength, .ref nplan, .ref ncosts, .ref npaid, .ref nafter, .ref nfar, .ref nmany, .ref nnext, .int vsort, .int vwhen, .int vone, .int vtwo])), (nwalls, .inl (cZ, 25, .inl gA)), (nisTold, .inl (cZ, 180, .inl of))] H := hP
              have hD : va_D A [(na, .inr (7, [.int x, .int y, .ref nwalls, .int 0, .ref nstarts, .ref ngoals, .ref nlaid, .ref nisTold, .int vfree, .ref ncells, .ref nindex, .ref nnear, .ref nnearCount, .ref npay, .ref ndone, .ref npile, .int vtop, .ref nnow, .ref nthen, .ref nchoice, .int 0, .int vlength, .ref nplan, .ref ncosts, .ref npaid, .ref nafter, .ref nfar, .ref nmany, .ref nnext, .int vsort, .int vwhen, .int vone, .int vtwo])), (nwalls, .inl (cZ, 25, .inl gA)), (nisTold, .inl (cZ, 180, .inl of))] := hD
              refine lv_iconst (v := 0) hx hb d_md_room_73 (by decide) ?_
              refine lv_istore_n hx hb d_md_room_74 rfl hl (by decide) rfl (fun ls hl => ?_)
              have hl : lv_has ls 4 [(3, .int 0), (0, .ref na), (1, .int x), (2, .int y)] := hl
              have hl := lv_sub hl [0, 1, 2, 3] (l' := [(3, .int (nI 0)), (0, .ref na), (1, .int x), (2, .int y)]) rfl
              refine mt_loop (ι := Nat × (Nat → Int32)) (I := fun i ls H locs => ((i.1) ≤ 180) ∧ lv_has ls 4 [(3, .int (nI (i.1))), (0, .ref na), (1, .int x), (2, .int y)] ∧ va_P D kls [(na, .inr (7, [.int x, .int y, .ref nwalls, .int 0, .ref nstarts, .ref ngoals, .ref nlaid, .ref nisTold, .int vfree, .ref ncells, .ref nindex, .ref nnear, .ref nnearCount, .ref npay, .ref ndone, .ref npile, .int vtop, .ref nnow, .ref nthen, .ref nchoice, .int 0, .int vlength, .ref nplan, .ref ncosts, .ref npaid, .ref nafter, .ref nfar, .ref nmany, .ref nnext, .int vsort, .int vwhen, .int vone, .int vtwo])), (nwalls, .inl (cZ, 25, .inl gA)), (nisTold, .inl (cZ, 180, .inl (i.2)))] H ∧ va_D A [(na, .inr (7, [.int x, .int y, .ref nwalls, .int 0, .ref nstarts, .ref ngoals, .ref nlaid, .ref nisTold, .int vfree, .ref ncells, .ref nindex, .ref nnear, .ref nnearCount, .ref npay, .ref ndone, .ref npile, .int vtop, .ref nnow, .ref nthen, .ref nchoice, .int 0, .int vlength, .ref nplan, .ref ncosts, .ref npaid, .ref nafter, .ref nfar, .ref nmany, .ref nnext, .int vsort, .int vwhen, .int vone, .int vtwo])), (nwalls, .inl (cZ, 25, .inl gA)), (nisTold, .inl (cZ, 180, .inl (i.2)))] ∧ va_S A s.heap H locs) (μ := fun i => 180 - (i.1)) ?_ (0, of) ls H _ ⟨Nat.zero_le _, hl, hP, hD, hS⟩
              clear hl hP hD hS
              intro i_b ls H locs ⟨hi, hl, hP, hD, hS⟩ ih_b
              obtain ⟨iw, g⟩ := i_b
              have hi : iw ≤ 180 := hi
              have hl : lv_has ls 4 [(3, .int (nI iw)), (0, .ref na), (1, .int x), (2, .int y)] := hl
              have hP : va_P D kls [(na, .inr (7, [.int x, .int y, .ref nwalls, .int 0, .ref nstarts, .ref ngoals, .ref nlaid, .ref nisTold, .int vfree, .ref ncells, .ref nindex, .ref nnear, .ref nnearCount, .ref npay, .ref ndone, .ref npile, .int vtop, .ref nnow, .ref nthen, .ref nchoice, .int 0, .int vlength, .ref nplan, .ref ncosts, .ref npaid, .ref nafter, .ref nfar, .ref nmany, .ref nnext, .int vsort, .int vwhen, .int vone, .int vtwo])), (nwalls, .inl (cZ, 25, .inl gA)), (nisTold, .inl (cZ, 180, .inl g))] H := hP
              have hD : va_D A [(na, .inr (7, [.int x, .int y, .ref nwalls, .int 0, .ref nstarts, .ref ngoals, .ref nlaid, .ref nisTold, .int vfree, .ref ncells, .ref nindex, .ref nnear, .ref nnearCount, .ref npay, .ref ndone, .ref npile, .int vtop, .ref nnow, .ref nthen, .ref nchoice, .int 0, .int vlength, .ref nplan, .ref ncosts, .ref npaid, .ref nafter, .ref nfar, .ref nmany, .ref nnext, .int vsort, .int vwhen, .int vone, .int vtwo])), (nwalls, .inl (cZ, 25, .inl gA)), (nisTold, .inl (cZ, 180, .inl g))] := hD
              refine lv_iload_n hx hb d_md_room_75 rfl (lv_at hl 0 rfl) ?_
              refine lv_sipush (v := 180) hx hb d_md_room_76 (by decide) ?_
              refine lv_icmp_ge hx hb d_md_room_79 rfl (fun g8 => ?_) (fun g8 => ?_)
              ·
                refine lv_aload_n hx hb d_md_room_95 rfl (lv_at hl 1 rfl) ?_
                have hPc := hP.sub (ws' := [(na, .inr (7, [.int x, .int y, .ref nwalls, .int 0, .ref nstarts, .ref ngoals, .ref nlaid, .ref nisTold, .int vfree, .ref ncells, .ref nindex, .ref nnear, .ref nnearCount, .ref npay, .ref ndone, .ref npile, .int vtop, .ref nnow, .ref nthen, .ref nchoice, .int 0, .int vlength, .ref nplan, .ref ncosts, .ref npaid, .ref nafter, .ref nfar, .ref nmany, .ref nnext, .int vsort, .int vwhen, .int vone, .int vtwo]))]) [0] rfl
                have hDc := hD.sub (ws' := [(na, .inr (7, [.int x, .int y, .ref nwalls, .int 0, .ref nstarts, .ref ngoals, .ref nlaid, .ref nisTold, .int vfree, .ref ncells, .ref nindex, .ref nnear, .ref nnearCount, .ref npay, .ref ndone, .ref npile, .int vtop, .ref nnow, .ref nthen, .ref nchoice, .int 0, .int vlength, .ref nplan, .ref ncosts, .ref npaid, .ref nafter, .ref nfar, .ref nmany, .ref nnext, .int vsort, .int vwhen, .int vone, .int vtwo]))]) [0] (by decide) rfl
                refine vp_callSi (W.runV (As := []) (rest := []) ⟨hx, hb, hml, hown, hg⟩ (c_md_size l D cZ cI cJ cII na nwalls nstarts ngoals nlaid nisTold ncells nindex nnear nnearCount npay ndone npile nnow nthen nchoice nplan ncosts npaid nafter nfar nmany nnext x y 0 vfree vtop 0 vlength vsort vwhen vone vtwo H.size ) (cwV 0 hg gv_md_93 rfl rfl rfl (by decide +kernel) ⟨Nat.le_of_ble_eq_true rfl, Nat.le_of_ble_eq_true rfl⟩) ⟨mt_bl, va_recv (q0 := 0) (ci := 7) hK hP rfl rfl, mt_pr hX hPc hK hDc⟩ rfl rfl hl.1 rfl (lv_room (Nat.le_of_ble_eq_true rfl)) d_md_room_96 ⟨Nat.le_of_ble_eq_true rfl, Nat.le_of_ble_eq_true rfl⟩) (fun r1 hr1 => ?_)
                have hr1 : r1 = x * y := hr1
                have hr1 : r1 = x * y := hr1
                subst hr1
                exact W.iret hx hb hr (fun t ht hW => ⟨⟨x * y, (), rfl, ⟨Or.inr ⟨rfl, g1, g2, g3, g4, g5⟩, trivial⟩, trivial⟩, hS.F ht⟩) hS.2.2 d_md_room_99
              ·
                have g9 : iw < 180 := by rcases Nat.lt_or_ge iw 180 with h | h; exact h; exact absurd (nI_le (a := 180) h (by omega)) g8
                refine lv_aload_n hx hb d_md_room_82 rfl (lv_at hl 1 rfl) ?_
                refine gf_md_30 hx hb hg hown hK hP 0 rfl rfl d_md_room_83 ?_
                refine lv_iload_n hx hb d_md_room_86 rfl (lv_at hl 0 rfl) ?_
                refine lv_iconst (v := 0) hx hb d_md_room_87 (by decide) ?_
                refine va_zast hx hb hK hP hD hS 2 0 rfl rfl (vp_in_nI g9 (by decide)) d_md_room_88 (fun H locs hP hD hS => ?_)
                have hP : va_P D kls [(na, .inr (7, [.int x, .int y, .ref nwalls, .int 0, .ref nstarts, .ref ngoals, .ref nlaid, .ref nisTold, .int vfree, .ref ncells, .ref nindex, .ref nnear, .ref nnearCount, .ref npay, .ref ndone, .ref npile, .int vtop, .ref nnow, .ref nthen, .ref nchoice, .int 0, .int vlength, .ref nplan, .ref ncosts, .ref npaid, .ref nafter, .ref nfar, .ref nmany, .ref nnext, .int vsort, .int vwhen, .int vone, .int vtwo])), (nwalls, .inl (cZ, 25, .inl gA)), (nisTold, .inl (cZ, 180, .inl (upd g (nI iw : Int32).toNatClampNeg (vp_nar .boolean 0))))] H := hP
                have hD : va_D A [(na, .inr (7, [.int x, .int y, .ref nwalls, .int 0, .ref nstarts, .ref ngoals, .ref nlaid, .ref nisTold, .int vfree, .ref ncells, .ref nindex, .ref nnear, .ref nnearCount, .ref npay, .ref ndone, .ref npile, .int vtop, .ref nnow, .ref nthen, .ref nchoice, .int 0, .int vlength, .ref nplan, .ref ncosts, .ref npaid, .ref nafter, .ref nfar, .ref nmany, .ref nnext, .int vsort, .int vwhen, .int vone, .int vtwo])), (nwalls, .inl (cZ, 25, .inl gA)), (nisTold, .inl (cZ, 180, .inl (upd g (nI iw : Int32).toNatClampNeg (vp_nar .boolean 0))))] := hD
                refine lv_iinc (k := 0) (v := nI (iw + 1)) hx hb d_md_room_89 hl rfl ((nI_succ iw).symm) (by decide) rfl (fun ls hl => ?_)
                have hl : lv_has ls 4 [(3, .int (nI (iw + 1))), (0, .ref na), (1, .int x), (2, .int y)] := hl
                refine lv_goto hx hb d_md_room_92 rfl ?_
                have hl := lv_sub hl [0, 1, 2, 3] (l' := [(3, .int (nI (iw + 1))), (0, .ref na), (1, .int x), (2, .int y)]) rfl
                exact ih_b (iw + 1, upd g (nI iw : Int32).toNatClampNeg (vp_nar .boolean 0)) ls H _ (by show 180 - (iw + 1) < 180 - iw; omega) ⟨by show iw + 1 ≤ 180; omega, hl, hP, hD, hS⟩
            ·
              have g9 : iw < 25 := by rcases Nat.lt_or_ge iw 25 with h | h; exact h; exact absurd (nI_le (a := 25) h (by omega)) g8
              refine lv_aload_n hx hb d_md_room_60 rfl (lv_at hl 1 rfl) ?_
              refine gf_md_16 hx hb hg hown hK hP 0 rfl rfl d_md_room_61 ?_
              refine lv_iload_n hx hb d_md_room_64 rfl (lv_at hl 0 rfl) ?_
              refine lv_iconst (v := 0) hx hb d_md_room_65 (by decide) ?_
              refine va_zast hx hb hK hP hD hS 1 0 rfl rfl (vp_in_nI g9 (by decide)) d_md_room_66 (fun H locs hP hD hS => ?_)
              have hP : va_P D kls [(na, .inr (7, [.int x, .int y, .ref nwalls, .int 0, .ref nstarts, .ref ngoals, .ref nlaid, .ref nisTold, .int vfree, .ref ncells, .ref nindex, .ref nnear, .ref nnearCount, .ref npay, .ref ndone, .ref npile, .int vtop, .ref nnow, .ref nthen, .ref nchoice, .int 0, .int vlength, .ref nplan, .ref ncosts, .ref npaid, .ref nafter, .ref nfar, .ref nmany, .ref nnext, .int vsort, .int vwhen, .int vone, .int vtwo])), (nwalls, .inl (cZ, 25, .inl (upd g (nI iw : Int32).toNatClampNeg (vp_nar .boolean 0)))), (nisTold, .inl (cZ, 180, .inl of))] H := hP
              have hD : va_D A [(na, .inr (7, [.int x, .int y, .ref nwalls, .int 0, .ref nstarts, .ref ngoals, .ref nlaid, .ref nisTold, .int vfree, .ref ncells, .ref nindex, .ref nnear, .ref nnearCount, .ref npay, .ref ndone, .ref npile, .int vtop, .ref nnow, .ref nthen, .ref nchoice, .int 0, .int vlength, .ref nplan, .ref ncosts, .ref npaid, .ref nafter, .ref nfar, .ref nmany, .ref nnext, .int vsort, .int vwhen, .int vone, .int vtwo])), (nwalls, .inl (cZ, 25, .inl (upd g (nI iw : Int32).toNatClampNeg (vp_nar .boolean 0)))), (nisTold, .inl (cZ, 180, .inl of))] := hD
              refine lv_iinc (k := 0) (v := nI (iw + 1)) hx hb d_md_room_67 hl rfl ((nI_succ iw).symm) (by decide) rfl (fun ls hl => ?_)
              have hl : lv_has ls 4 [(3, .int (nI (iw + 1))), (0, .ref na), (1, .int x), (2, .int y)] := hl
              refine lv_goto hx hb d_md_room_70 rfl ?_
              have hl := lv_sub hl [0, 1, 2, 3] (l' := [(3, .int (nI (iw + 1))), (0, .ref na), (1, .int x), (2, .int y)]) rfl
              exact ih_a (iw + 1, upd g (nI iw : Int32).toNatClampNeg (vp_nar .boolean 0)) ls H _ (by show 25 - (iw + 1) < 25 - iw; omega) ⟨by show iw + 1 ≤ 25; omega, hl, hP, hD, hS⟩
          ·
            refine lv_iconst (v := (-1)) hx hb d_md_room_30 (by decide) ?_
            exact W.iret hx hb hr (fun t ht hW => ⟨⟨(-1), (), rfl, ⟨Or.inl ⟨rfl, Or.inr (Or.inr (Or.inr (Or.inr g5)))⟩, trivial⟩, trivial⟩, hS.F ht⟩) hS.2.2 d_md_room_31

set_option maxHeartbeats 4000000 in
set_option maxRecDepth 100000 in
theorem c_md_lay (l : Launch) (D : va_G) (cZ cI cJ cII : ClassId) (na : Nat) (nwalls : Nat) (nstarts : Nat) (ngoals : Nat) (nlaid : Nat) (nisTold : Nat) (ncells : Nat) (nindex : Nat) (nnear : Nat) (nnearCount : Nat) (npay : Nat) (ndone : Nat) (npile : Nat) (nnow : Nat) (nthen : Nat) (nchoice : Nat) (nplan : Nat) (ncosts : Nat) (npaid : Nat) (nafter : Nat) (nfar : Nat) (nmany : Nat) (nnext : Nat) (vwide : Int32) (vhigh : Int32) (vmovers : Int32) (vfree : Int32) (vtop : Int32) (vfound : Int32) (vlength : Int32) (vsort : Int32) (vwhen : Int32) (vone : Int32) (vtwo : Int32) (lf : Nat → Int32) (of : Nat → Int32) (x : Int32) (y : Int32) (ce : Int32) (sz : Nat) (hof : ∀ i, of i = 0) : Met l y_md_lay w_md_lay ({ frames := 0, cells := 0, slots := 0, locals := 0 }) (va_Pc [.ref na, .int x, .int y, .int ce] (mt_B D [(cZ, .boolean), (cI, .int), (cJ, .long), (cII, .array .int)] [(na, .inr (7, [.int vwide, .int vhigh, .ref nwalls, .int vmovers, .ref nstarts, .ref ngoals, .ref nlaid, .ref nisTold, .int vfree, .ref ncells, .ref nindex, .ref nnear, .ref nnearCount, .ref npay, .ref ndone, .ref npile, .int vtop, .ref nnow, .ref nthen, .ref nchoice, .int vfound, .int vlength, .ref nplan, .ref ncosts, .ref npaid, .ref nafter, .ref nfar, .ref nmany, .ref nnext, .int vsort, .int vwhen, .int vone, .int vtwo])), (nlaid, .inl (cI, 180, .inl lf)), (nisTold, .inl (cZ, 180, .inl of))] sz)) ((fun A => va_Qi (fun (r : Int32) (u : Unit) => (r = -1) ∧ (True)) (fun (u : Unit) (t : State) => True) A) (va_A [(na, .inr (7, [.int vwide, .int vhigh, .ref nwalls, .int vmovers, .ref nstarts, .ref ngoals, .ref nlaid, .ref nisTold, .int vfree, .ref ncells, .ref nindex, .ref nnear, .ref nnearCount, .ref npay, .ref ndone, .ref npile, .int vtop, .ref nnow, .ref nthen, .ref nchoice, .int vfound, .int vlength, .ref nplan, .ref ncosts, .ref npaid, .ref nafter, .ref nfar, .ref nmany, .ref nnext, .int vsort, .int vwhen, .int vone, .int vtwo])), (nlaid, .inl (cI, 180, .inl lf)), (nisTold, .inl (cZ, 180, .inl of))] sz)) 0 0 (va_A [(na, .inr (7, [.int vwide, .int vhigh, .ref nwalls, .int vmovers, .ref nstarts, .ref ngoals, .ref nlaid, .ref nisTold, .int vfree, .ref ncells, .ref nindex, .ref nnear, .ref nnearCount, .ref npay, .ref ndone, .ref npile, .int vtop, .ref nnow, .ref nthen, .ref nchoice, .int vfound, .int vlength, .ref nplan, .ref ncosts, .ref npaid, .ref nafter, .ref nfar, .ref nmany, .ref nnext, .int vsort, .int vwhen, .int vone, .int vtwo])), (nlaid, .inl (cI, 180, .inl lf)), (nisTold, .inl (cZ, 180, .inl of))] sz) := by
  refine mt_of (y := y_md_lay) (n := 5) (av := [.ref na, .int x, .int y, .int ce]) (QF := (fun A => va_Qi (fun (r : Int32) (u : Unit) => (r = -1) ∧ (True)) (fun (u : Unit) (t : State) => True) A)) (by decide) (Nat.le_of_ble_eq_true rfl) ?_
  intro p e s m below meth c ls A hx hb hr hlk hml hown hnm hg hl hX hP hK hD hA hS
  obtain ⟨H, hH⟩ : ∃ H : Heap, H = s.heap := ⟨_, rfl⟩
  have hS : va_S A s.heap H [] := by rw [hH]; exact va_S.rf
  rw [← hH] at hP ⊢
  have hown : s.vm.findClass R_md = some m.cls := hown
  have hl : lv_has ls 5 [(0, .ref na), (1, .int x), (2, .int y), (3, .int ce)] := hl
  refine lv_iload_n hx hb d_md_lay_0 rfl (lv_at hl 1 rfl) ?_
  refine lv_if_lt hx hb d_md_lay_1 rfl (fun g1 => ?_) (fun g1 => ?_)
  ·
    refine lv_iconst (v := (-1)) hx hb d_md_lay_20 (by decide) ?_
    exact W.iret hx hb hr (fun t ht hW => ⟨⟨(-1), (), rfl, ⟨rfl, trivial⟩, trivial⟩, hS.F ht⟩) hS.2.2 d_md_lay_21
  ·
    refine lv_iload_n hx hb d_md_lay_4 rfl (lv_at hl 1 rfl) ?_
    refine lv_bipush (v := 6) hx hb d_md_lay_5 (by decide) ?_
    refine lv_icmp_ge hx hb d_md_lay_7 rfl (fun g2 => ?_) (fun g2 => ?_)
    ·
      refine lv_iconst (v := (-1)) hx hb d_md_lay_20 (by decide) ?_
      exact W.iret hx hb hr (fun t ht hW => ⟨⟨(-1), (), rfl, ⟨rfl, trivial⟩, trivial⟩, hS.F ht⟩) hS.2.2 d_md_lay_21
    ·
      refine lv_iload_n hx hb d_md_lay_10 rfl (lv_at hl 2 rfl) ?_
      refine lv_if_lt hx hb d_md_lay_11 rfl (fun g3 => ?_) (fun g3 => ?_)
      ·
        refine lv_iconst (v := (-1)) hx hb d_md_lay_20 (by decide) ?_
        exact W.iret hx hb hr (fun t ht hW => ⟨⟨(-1), (), rfl, ⟨rfl, trivial⟩, trivial⟩, hS.F ht⟩) hS.2.2 d_md_lay_21
      ·
        refine lv_iload_n hx hb d_md_lay_14 rfl (lv_at hl 2 rfl) ?_
        refine lv_bipush (v := 30) hx hb d_md_lay_15 (by decide) ?_
        refine lv_icmp_lt hx hb d_md_lay_17 rfl (fun g4 => ?_) (fun g4 => ?_)
        ·
          obtain ⟨k, hk, rfl⟩ := mt_rng (n := 6) (by decide) g1 (Int32.not_le.mp g2)
          obtain ⟨tt, htt, rfl⟩ := mt_rng (n := 30) (by decide) g3 g4
          have hkt : 30 * k + tt < 180 := by omega
          have hl : lv_has ls 5 [(0, .ref na), (1, .int (nI k)), (2, .int (nI tt)), (3, .int ce)] := hl
          refine lv_aload_n hx hb d_md_lay_22 rfl (lv_at hl 0 rfl) ?_
          refine gf_md_30 hx hb hg hown hK hP 0 rfl rfl d_md_lay_23 ?_
          refine lv_bipush (v := 30) hx hb d_md_lay_26 (by decide) ?_
          refine lv_iload_n hx hb d_md_lay_28 rfl (lv_at hl 1 rfl) ?_
          refine lv_imul hx hb d_md_lay_29 ?_
          refine lv_iload_n hx hb d_md_lay_30 rfl (lv_at hl 2 rfl) ?_
          refine lv_iadd hx hb d_md_lay_31 ?_
          refine lv_topi (fun y1 ey1 => ?_)
          have ey1 : y1 = nI (30 * k + tt) := ey1.trans (by rw [show (30 : Int32) = nI 30 from rfl, pk_mul, nI_add])
          subst ey1
          refine va_zald hx hb hK hP 2 0 rfl rfl (vp_in_nI hkt (by decide)) d_md_lay_32 ?_
          refine lv_topi (fun y2 ey2 => ?_)
          have ey2 : y2 = 0 := ey2.trans (hof _)
          subst ey2
          refine lv_if_eq hx hb d_md_lay_33 rfl (fun _ => ?_) (fun h => absurd (by decide) h)
          refine lv_iconst (v := (-1)) hx hb d_md_lay_50 (by decide) ?_
          refine lv_istore hx hb d_md_lay_51 hl (by decide) rfl (fun ls hl => ?_)
          have hl : lv_has ls 5 [(4, .int (-1)), (0, .ref na), (1, .int (nI k)), (2, .int (nI tt)), (3, .int ce)] := hl
          refine lv_aload_n hx hb d_md_lay_53 rfl (lv_at hl 1 rfl) ?_
          refine gf_md_27 hx hb hg hown hK hP 0 rfl rfl d_md_lay_54 ?_
          refine lv_bipush (v := 30) hx hb d_md_lay_57 (by decide) ?_
          refine lv_iload_n hx hb d_md_lay_59 rfl (lv_at hl 2 rfl) ?_
          refine lv_imul hx hb d_md_lay_60 ?_
          refine lv_iload_n hx hb d_md_lay_61 rfl (lv_at hl 3 rfl) ?_
          refine lv_iadd hx hb d_md_lay_62 ?_
          refine lv_topi (fun y3 ey3 => ?_)
          have ey3 : y3 = nI (30 * k + tt) := ey3.trans (by rw [show (30 : Int32) = nI 30 from rfl, pk_mul, nI_add])
          subst ey3
          refine lv_iload_n hx hb d_md_lay_63 rfl (lv_at hl 4 rfl) ?_
          refine va_iast hx hb hK hP hD hS 1 1 rfl rfl (vp_in_nI hkt (by decide)) d_md_lay_64 (fun H locs hP hD hS => ?_)
          have hP : va_P D kls [(na, .inr (7, [.int vwide, .int vhigh, .ref nwalls, .int vmovers, .ref nstarts, .ref ngoals, .ref nlaid, .ref nisTold, .int vfree, .ref ncells, .ref nindex, .ref nnear, .ref nnearCount, .ref npay, .ref ndone, .ref npile, .int vtop, .ref nnow, .ref nthen, .ref nchoice, .int vfound, .int vlength, .ref nplan, .ref ncosts, .ref npaid, .ref nafter, .ref nfar, .ref nmany, .ref nnext, .int vsort, .int vwhen, .int vone, .int vtwo])), (nlaid, .inl (cI, 180, .inl (upd lf (nI (30 * k + tt) : Int32).toNatClampNeg ce))), (nisTold, .inl (cZ, 180, .inl of))] H := hP
          have hD : va_D A [(na, .inr (7, [.int vwide, .int vhigh, .ref nwalls, .int vmovers, .ref nstarts, .ref ngoals, .ref nlaid, .ref nisTold, .int vfree, .ref ncells, .ref nindex, .ref nnear, .ref nnearCount, .ref npay, .ref ndone, .ref npile, .int vtop, .ref nnow, .ref nthen, .ref nchoice, .int vfound, .int vlength, .ref nplan, .ref ncosts, .ref npaid, .ref nafter, .ref nfar, .ref nmany, .ref nnext, .int vsort, .int vwhen, .int vone, .int vtwo])), (nlaid, .inl (cI, 180, .inl (upd lf (nI (30 * k + tt) : Int32).toNatClampNeg ce))), (nisTold, .inl (cZ, 180, .inl of))] := hD
          refine lv_aload_n hx hb d_md_lay_65 rfl (lv_at hl 1 rfl) ?_
          refine gf_md_30 hx hb hg hown hK hP 0 rfl rfl d_md_lay_66 ?_
          refine lv_bipush (v := 30) hx hb d_md_lay_69 (by decide) ?_
          refine lv_iload_n hx hb d_md_lay_71 rfl (lv_at hl 2 rfl) ?_
          refine lv_imul hx hb d_md_lay_72 ?_
          refine lv_iload_n hx hb d_md_lay_73 rfl (lv_at hl 3 rfl) ?_
          refine lv_iadd hx hb d_md_lay_74 ?_
          refine lv_topi (fun y4 ey4 => ?_)
          have ey4 : y4 = nI (30 * k + tt) := ey4.trans (by rw [show (30 : Int32) = nI 30 from rfl, pk_mul, nI_add])
          subst ey4
          refine lv_iconst (v := 1) hx hb d_md_lay_75 (by decide) ?_
          refine va_zast hx hb hK hP hD hS 2 0 rfl rfl (vp_in_nI hkt (by decide)) d_md_lay_76 (fun H locs hP hD hS => ?_)
          have hP : va_P D kls [(na, .inr (7, [.int vwide, .int vhigh, .ref nwalls, .int vmovers, .ref nstarts, .ref ngoals, .ref nlaid, .ref nisTold, .int vfree, .ref ncells, .ref nindex, .ref nnear, .ref nnearCount, .ref npay, .ref ndone, .ref npile, .int vtop, .ref nnow, .ref nthen, .ref nchoice, .int vfound, .int vlength, .ref nplan, .ref ncosts, .ref npaid, .ref nafter, .ref nfar, .ref nmany, .ref nnext, .int vsort, .int vwhen, .int vone, .int vtwo])), (nlaid, .inl (cI, 180, .inl (upd lf (nI (30 * k + tt) : Int32).toNatClampNeg ce))), (nisTold, .inl (cZ, 180, .inl (upd of (nI (30 * k + tt) : Int32).toNatClampNeg (vp_nar .boolean 1))))] H := hP
          have hD : va_D A [(na, .inr (7, [.int vwide, .int vhigh, .ref nwalls, .int vmovers, .ref nstarts, .ref ngoals, .ref nlaid, .ref nisTold, .int vfree, .ref ncells, .ref nindex, .ref nnear, .ref nnearCount, .ref npay, .ref ndone, .ref npile, .int vtop, .ref nnow, .ref nthen, .ref nchoice, .int vfound, .int vlength, .ref nplan, .ref ncosts, .ref npaid, .ref nafter, .ref nfar, .ref nmany, .ref nnext, .int vsort, .int vwhen, .int vone, .int vtwo])), (nlaid, .inl (cI, 180, .inl (upd lf (nI (30 * k + tt) : Int32).toNatClampNeg ce))), (nisTold, .inl (cZ, 180, .inl (upd of (nI (30 * k + tt) : Int32).toNatClampNeg (vp_nar .boolean 1))))] := hD
          refine lv_iload hx hb d_md_lay_77 (lv_at hl 0 rfl) ?_
          exact W.iret hx hb hr (fun t ht hW => ⟨⟨(-1), (), rfl, ⟨rfl, trivial⟩, trivial⟩, hS.F ht⟩) hS.2.2 d_md_lay_79
        ·
          refine lv_iconst (v := (-1)) hx hb d_md_lay_20 (by decide) ?_
          exact W.iret hx hb hr (fun t ht hW => ⟨⟨(-1), (), rfl, ⟨rfl, trivial⟩, trivial⟩, hS.F ht⟩) hS.2.2 d_md_lay_21

set_option maxHeartbeats 4000000 in
set_option maxRecDepth 100000 in
theorem c_md_look (l : Launch) (D : va_G) (cZ cI cJ cII : ClassId) (na : Nat) (nwalls : Nat) (nstarts : Nat) (ngoals : Nat) (nlaid : Nat) (nisTold : Nat) (ncells : Nat) (nindex : Nat) (nnear : Nat) (nnearCount : Nat) (npay : Nat) (ndone : Nat) (npile : Nat) (nnow : Nat) (nthen : Nat) (nchoice : Nat) (nplan : Nat) (ncosts : Nat) (npaid : Nat) (nafter : Nat) (nfar : Nat) (nmany : Nat) (nnext : Nat) (vwide : Int32) (vhigh : Int32) (vfree : Int32) (vtop : Int32) (vfound : Int32) (vlength : Int32) (vsort : Int32) (vwhen : Int32) (vone : Int32) (vtwo : Int32) (sz : Nat)  : Met l y_md_look w_md_look ({ frames := 0, cells := 0, slots := 0, locals := 0 }) (va_Pc [.ref na] (mt_B D [(cZ, .boolean), (cI, .int), (cJ, .long), (cII, .array .int)] [(na, .inr (7, [.int vwide, .int vhigh, .ref nwalls, .int 0, .ref nstarts, .ref ngoals, .ref nlaid, .ref nisTold, .int vfree, .ref ncells, .ref nindex, .ref nnear, .ref nnearCount, .ref npay, .ref ndone, .ref npile, .int vtop, .ref nnow, .ref nthen, .ref nchoice, .int vfound, .int vlength, .ref nplan, .ref ncosts, .ref npaid, .ref nafter, .ref nfar, .ref nmany, .ref nnext, .int vsort, .int vwhen, .int vone, .int vtwo]))] sz)) ((fun A => va_Qv (fun (u : Unit) => True) (fun (u : Unit) (t : State) => mt_O D A [(na, .inr (7, [.int vwide, .int vhigh, .ref nwalls, .int 0, .ref nstarts, .ref ngoals, .ref nlaid, .ref nisTold, .int vfree, .ref ncells, .ref nindex, .ref nnear, .ref nnearCount, .ref npay, .ref ndone, .ref npile, .int vtop, .ref nnow, .ref nthen, .ref nchoice, .int vfound, .int vlength, .ref nplan, .ref ncosts, .ref npaid, .ref nafter, .ref nfar, .ref nmany, .ref nnext, .int 0, .int (-1), .int (-1), .int (-1)]))] t) A) (va_A [(na, .inr (7, [.int vwide, .int vhigh, .ref nwalls, .int 0, .ref nstarts, .ref ngoals, .ref nlaid, .ref nisTold, .int vfree, .ref ncells, .ref nindex, .ref nnear, .ref nnearCount, .ref npay, .ref ndone, .ref npile, .int vtop, .ref nnow, .ref nthen, .ref nchoice, .int vfound, .int vlength, .ref nplan, .ref ncosts, .ref npaid, .ref nafter, .ref nfar, .ref nmany, .ref nnext, .int vsort, .int vwhen, .int vone, .int vtwo]))] sz)) 0 0 (va_A [(na, .inr (7, [.int vwide, .int vhigh, .ref nwalls, .int 0, .ref nstarts, .ref ngoals, .ref nlaid, .ref nisTold, .int vfree, .ref ncells, .ref nindex, .ref nnear, .ref nnearCount, .ref npay, .ref ndone, .ref npile, .int vtop, .ref nnow, .ref nthen, .ref nchoice, .int vfound, .int vlength, .ref nplan, .ref ncosts, .ref npaid, .ref nafter, .ref nfar, .ref nmany, .ref nnext, .int vsort, .int vwhen, .int vone, .int vtwo]))] sz) := by
  refine mt_of (y := y_md_look) (n := 4) (av := [.ref na]) (QF := (fun A => va_Qv (fun (u : Unit) => True) (fun (u : Unit) (t : State) => mt_O D A [(na, .inr (7, [.int vwide, .int vhigh, .ref nwalls, .int 0, .ref nstarts, .ref ngoals, .ref nlaid, .ref nisTold, .int vfree, .ref ncells, .ref nindex, .ref nnear, .ref nnearCount, .ref npay, .ref ndone, .ref npile, .int vtop, .ref nnow, .ref nthen, .ref nchoice, .int vfound, .int vlength, .ref nplan, .ref ncosts, .ref npaid, .ref nafter, .ref nfar, .ref nmany, .ref nnext, .int 0, .int (-1), .int (-1), .int (-1)]))] t) A)) (by decide) (Nat.le_of_ble_eq_true rfl) ?_
  intro p e s m below meth c ls A hx hb hr hlk hml hown hnm hg hl hX hP hK hD hA hS
  obtain ⟨H, hH⟩ : ∃ H : Heap, H = s.heap := ⟨_, rfl⟩
  have hS : va_S A s.heap H [] := by rw [hH]; exact va_S.rf
  rw [← hH] at hP ⊢
  have hown : s.vm.findClass R_md = some m.cls := hown
  have hl : lv_has ls 4 [(0, .ref na)] := hl
  refine lv_aload_n hx hb d_md_look_0 rfl (lv_at hl 0 rfl) ?_
  refine lv_iconst (v := 0) hx hb d_md_look_1 (by decide) ?_
  refine pf_md_196 hx hb hg hown hK hP hD hS 0 rfl rfl rfl (Nat.le_of_ble_eq_true rfl) d_md_look_2 (fun H locs hP hD hS => ?_)
  have hP : va_P D kls [(na, .inr (7, [.int vwide, .int vhigh, .ref nwalls, .int 0, .ref nstarts, .ref ngoals, .ref nlaid, .ref nisTold, .int vfree, .ref ncells, .ref nindex, .ref nnear, .ref nnearCount, .ref npay, .ref ndone, .ref npile, .int vtop, .ref nnow, .ref nthen, .ref nchoice, .int vfound, .int vlength, .ref nplan, .ref ncosts, .ref npaid, .ref nafter, .ref nfar, .ref nmany, .ref nnext, .int 0, .int vwhen, .int vone, .int vtwo]))] H := hP
  have hD : va_D A [(na, .inr (7, [.int vwide, .int vhigh, .ref nwalls, .int 0, .ref nstarts, .ref ngoals, .ref nlaid, .ref nisTold, .int vfree, .ref ncells, .ref nindex, .ref nnear, .ref nnearCount, .ref npay, .ref ndone, .ref npile, .int vtop, .ref nnow, .ref nthen, .ref nchoice, .int vfound, .int vlength, .ref nplan, .ref ncosts, .ref npaid, .ref nafter, .ref nfar, .ref nmany, .ref nnext, .int 0, .int vwhen, .int vone, .int vtwo]))] := hD
  refine lv_aload_n hx hb d_md_look_5 rfl (lv_at hl 0 rfl) ?_
  refine lv_iconst (v := (-1)) hx hb d_md_look_6 (by decide) ?_
  refine pf_md_199 hx hb hg hown hK hP hD hS 0 rfl rfl rfl (Nat.le_of_ble_eq_true rfl) d_md_look_7 (fun H locs hP hD hS => ?_)
  have hP : va_P D kls [(na, .inr (7, [.int vwide, .int vhigh, .ref nwalls, .int 0, .ref nstarts, .ref ngoals, .ref nlaid, .ref nisTold, .int vfree, .ref ncells, .ref nindex, .ref nnear, .ref nnearCount, .ref npay, .ref ndone, .ref npile, .int vtop, .ref nnow, .ref nthen, .ref nchoice, .int vfound, .int vlength, .ref nplan, .ref ncosts, .ref npaid, .ref nafter, .ref nfar, .ref nmany, .ref nnext, .int 0, .int (-1), .int vone, .int vtwo]))] H := hP
  have hD : va_D A [(na, .inr (7, [.int vwide, .int vhigh, .ref nwalls, .int 0, .ref nstarts, .ref ngoals, .ref nlaid, .ref nisTold, .int vfree, .ref ncells, .ref nindex, .ref nnear, .ref nnearCount, .ref npay, .ref ndone, .ref npile, .int vtop, .ref nnow, .ref nthen, .ref nchoice, .int vfound, .int vlength, .ref nplan, .ref ncosts, .ref npaid, .ref nafter, .ref nfar, .ref nmany, .ref nnext, .int 0, .int (-1), .int vone, .int vtwo]))] := hD
  refine lv_aload_n hx hb d_md_look_10 rfl (lv_at hl 0 rfl) ?_
  refine lv_iconst (v := (-1)) hx hb d_md_look_11 (by decide) ?_
  refine pf_md_202 hx hb hg hown hK hP hD hS 0 rfl rfl rfl (Nat.le_of_ble_eq_true rfl) d_md_look_12 (fun H locs hP hD hS => ?_)
  have hP : va_P D kls [(na, .inr (7, [.int vwide, .int vhigh, .ref nwalls, .int 0, .ref nstarts, .ref ngoals, .ref nlaid, .ref nisTold, .int vfree, .ref ncells, .ref nindex, .ref nnear, .ref nnearCount, .ref npay, .ref ndone, .ref npile, .int vtop, .ref nnow, .ref nthen, .ref nchoice, .int vfound, .int vlength, .ref nplan, .ref ncosts, .ref npaid, .ref nafter, .ref nfar, .ref nmany, .ref nnext, .int 0, .int (-1), .int (-1), .int vtwo]))] H := hP
  have hD : va_D A [(na, .inr (7, [.int vwide, .int vhigh, .ref nwalls, .int 0, .ref nstarts, .ref ngoals, .ref nlaid, .ref nisTold, .int vfree, .ref ncells, .ref nindex, .ref nnear, .ref nnearCount, .ref npay, .ref ndone, .ref npile, .int vtop, .ref nnow, .ref nthen, .ref nchoice, .int vfound, .int vlength, .ref nplan, .ref ncosts, .ref npaid, .ref nafter, .ref nfar, .ref nmany, .ref nnext, .int 0, .int (-1), .int (-1), .int vtwo]))] := hD
  refine lv_aload_n hx hb d_md_look_15 rfl (lv_at hl 0 rfl) ?_
  refine lv_iconst (v := (-1)) hx hb d_md_look_16 (by decide) ?_
  refine pf_md_205 hx hb hg hown hK hP hD hS 0 rfl rfl rfl (Nat.le_of_ble_eq_true rfl) d_md_look_17 (fun H locs hP hD hS => ?_)
  have hP : va_P D kls [(na, .inr (7, [.int vwide, .int vhigh, .ref nwalls, .int 0, .ref nstarts, .ref ngoals, .ref nlaid, .ref nisTold, .int vfree, .ref ncells, .ref nindex, .ref nnear, .ref nnearCount, .ref npay, .ref ndone, .ref npile, .int vtop, .ref nnow, .ref nthen, .ref nchoice, .int vfound, .int vlength, .ref nplan, .ref ncosts, .ref npaid, .ref nafter, .ref nfar, .ref nmany, .ref nnext, .int 0, .int (-1), .int (-1), .int (-1)]))] H := hP
  have hD : va_D A [(na, .inr (7, [.int vwide, .int vhigh, .ref nwalls, .int 0, .ref nstarts, .ref ngoals, .ref nlaid, .ref nisTold, .int vfree, .ref ncells, .ref nindex, .ref nnear, .ref nnearCount, .ref npay, .ref ndone, .ref npile, .int vtop, .ref nnow, .ref nthen, .ref nchoice, .int vfound, .int vlength, .ref nplan, .ref ncosts, .ref npaid, .ref nafter, .ref nfar, .ref nmany, .ref nnext, .int 0, .int (-1), .int (-1), .int (-1)]))] := hD
  refine lv_iconst (v := 0) hx hb d_md_look_20 (by decide) ?_
  refine lv_istore_n hx hb d_md_look_21 rfl hl (by decide) rfl (fun ls hl => ?_)
  have hl : lv_has ls 4 [(1, .int 0), (0, .ref na)] := hl
  have hl := lv_sub hl [0, 1] (l' := [(1, .int (nI 0)), (0, .ref na)]) rfl
  refine mt_loop (ι := Nat) (I := fun i ls H locs => (i ≤ 30) ∧ lv_has ls 4 [(1, .int (nI i)), (0, .ref na)] ∧ va_P D kls [(na, .inr (7, [.int vwide, .int vhigh, .ref nwalls, .int 0, .ref nstarts, .ref ngoals, .ref nlaid, .ref nisTold, .int vfree, .ref ncells, .ref nindex, .ref nnear, .ref nnearCount, .ref npay, .ref ndone, .ref npile, .int vtop, .ref nnow, .ref nthen, .ref nchoice, .int vfound, .int vlength, .ref nplan, .ref ncosts, .ref npaid, .ref nafter, .ref nfar, .ref nmany, .ref nnext, .int 0, .int (-1), .int (-1), .int (-1)]))] H ∧ va_D A [(na, .inr (7, [.int vwide, .int vhigh, .ref nwalls, .int 0, .ref nstarts, .ref ngoals, .ref nlaid, .ref nisTold, .int vfree, .ref ncells, .ref nindex, .ref nnear, .ref nnearCount, .ref npay, .ref ndone, .ref npile, .int vtop, .ref nnow, .ref nthen, .ref nchoice, .int vfound, .int vlength, .ref nplan, .ref ncosts, .ref npaid, .ref nafter, .ref nfar, .ref nmany, .ref nnext, .int 0, .int (-1), .int (-1), .int (-1)]))] ∧ va_S A s.heap H locs) (μ := fun i => 30 - i) ?_ 0 ls H _ ⟨Nat.zero_le _, hl, hP, hD, hS⟩
  clear hl hP hD hS
  intro tt ls H locs ⟨htt, hl, hP, hD, hS⟩ ih_a
  have htt : tt ≤ 30 := htt
  have hl : lv_has ls 4 [(1, .int (nI tt)), (0, .ref na)] := hl
  have hP : va_P D kls [(na, .inr (7, [.int vwide, .int vhigh, .ref nwalls, .int 0, .ref nstarts, .ref ngoals, .ref nlaid, .ref nisTold, .int vfree, .ref ncells, .ref nindex, .ref nnear, .ref nnearCount, .ref npay, .ref ndone, .ref npile, .int vtop, .ref nnow, .ref nthen, .ref nchoice, .int vfound, .int vlength, .ref nplan, .ref ncosts, .ref npaid, .ref nafter, .ref nfar, .ref nmany, .ref nnext, .int 0, .int (-1), .int (-1), .int (-1)]))] H := hP
  have hD : va_D A [(na, .inr (7, [.int vwide, .int vhigh, .ref nwalls, .int 0, .ref nstarts, .ref ngoals, .ref nlaid, .ref nisTold, .int vfree, .ref ncells, .ref nindex, .ref nnear, .ref nnearCount, .ref npay, .ref ndone, .ref npile, .int vtop, .ref nnow, .ref nthen, .ref nchoice, .int vfound, .int vlength, .ref nplan, .ref ncosts, .ref npaid, .ref nafter, .ref nfar, .ref nmany, .ref nnext, .int 0, .int (-1), .int (-1), .int (-1)]))] := hD
  refine lv_iload_n hx hb d_md_look_22 rfl (lv_at hl 0 rfl) ?_
  refine lv_bipush (v := 30) hx hb d_md_look_23 (by decide) ?_
  refine lv_icmp_ge hx hb d_md_look_25 rfl (fun g1 => ?_) (fun g1 => ?_)
  ·
    have hP9 := hP
    have hD9 := hD
    exact W.vret hx hb hr (fun t ht hW => ⟨⟨(), rfl, trivial, by rw [ht]; exact hP9, hD9⟩, hS.F ht⟩) hS.2.2 d_md_look_225
  ·
    have g2 : tt < 30 := by rcases Nat.lt_or_ge tt 30 with h | h; exact h; exact absurd (nI_le (a := 30) h (by omega)) g1
    refine lv_aload_n hx hb d_md_look_28 rfl (lv_at hl 1 rfl) ?_
    refine gf_md_196 hx hb hg hown hK hP 0 rfl rfl d_md_look_29 ?_
    refine lv_if_ne hx hb d_md_look_32 rfl (fun h => absurd (by decide) h) (fun _ => ?_)
    refine lv_iconst (v := 0) hx hb d_md_look_35 (by decide) ?_
    refine lv_istore_n hx hb d_md_look_36 rfl hl (by decide) rfl (fun ls hl => ?_)
    have hl : lv_has ls 4 [(2, .int 0), (1, .int (nI tt)), (0, .ref na)] := hl
    refine lv_iload_n hx hb d_md_look_37 rfl (lv_at hl 0 rfl) ?_
    refine lv_aload_n hx hb d_md_look_38 rfl (lv_at hl 2 rfl) ?_
    refine gf_md_86 hx hb hg hown hK hP 0 rfl rfl d_md_look_39 ?_
    refine lv_icmp_ge hx hb d_md_look_42 rfl (fun _ => ?_) (fun h => absurd (by decide) h)
    refine lv_iconst (v := 0) hx hb d_md_look_68 (by decide) ?_
    refine lv_istore_n hx hb d_md_look_69 rfl hl (by decide) rfl (fun ls hl => ?_)
    have hl : lv_has ls 4 [(2, .int 0), (1, .int (nI tt)), (0, .ref na)] := hl
    refine lv_iload_n hx hb d_md_look_70 rfl (lv_at hl 0 rfl) ?_
    refine lv_aload_n hx hb d_md_look_71 rfl (lv_at hl 2 rfl) ?_
    refine gf_md_86 hx hb hg hown hK hP 0 rfl rfl d_md_look_72 ?_
    refine lv_icmp_ge hx hb d_md_look_75 rfl (fun _ => ?_) (fun h => absurd (by decide) h)
    refine lv_iconst (v := 0) hx hb d_md_look_132 (by decide) ?_
    refine lv_istore_n hx hb d_md_look_133 rfl hl (by decide) rfl (fun ls hl => ?_)
    have hl : lv_has ls 4 [(2, .int 0), (1, .int (nI tt)), (0, .ref na)] := hl
    refine lv_iload_n hx hb d_md_look_134 rfl (lv_at hl 0 rfl) ?_
    refine lv_aload_n hx hb d_md_look_135 rfl (lv_at hl 2 rfl) ?_
    refine gf_md_86 hx hb hg hown hK hP 0 rfl rfl d_md_look_136 ?_
    refine lv_icmp_ge hx hb d_md_look_139 rfl (fun _ => ?_) (fun h => absurd (by decide) h)
    refine lv_iinc (k := 1) (v := nI (tt + 1)) hx hb d_md_look_219 hl rfl ((nI_succ tt).symm) (by decide) rfl (fun ls hl => ?_)
    have hl : lv_has ls 4 [(1, .int (nI (tt + 1))), (2, .int 0), (0, .ref na)] := hl
    refine lv_goto hx hb d_md_look_222 rfl ?_
    have hl := lv_sub hl [0, 2] (l' := [(1, .int (nI (tt + 1))), (0, .ref na)]) rfl
    exact ih_a (tt + 1) ls H _ (by show 30 - (tt + 1) < 30 - tt; omega) ⟨by show tt + 1 ≤ 30; omega, hl, hP, hD, hS⟩

set_option maxHeartbeats 4000000 in
set_option maxRecDepth 100000 in
theorem c_md_judge (l : Launch) (D : va_G) (cZ cI cJ cII : ClassId) (na : Nat) (nwalls : Nat) (nstarts : Nat) (ngoals : Nat) (nlaid : Nat) (nisTold : Nat) (ncells : Nat) (nindex : Nat) (nnear : Nat) (nnearCount : Nat) (npay : Nat) (ndone : Nat) (npile : Nat) (nnow : Nat) (nthen : Nat) (nchoice : Nat) (nplan : Nat) (ncosts : Nat) (npaid : Nat) (nafter : Nat) (nfar : Nat) (nmany : Nat) (nnext : Nat) (vwide : Int32) (vhigh : Int32) (vfree : Int32) (vtop : Int32) (vfound : Int32) (vlength : Int32) (vsort : Int32) (vwhen : Int32) (vone : Int32) (vtwo : Int32) (x : Int32) (sz : Nat)  : Met l y_md_judge w_md_judge ({ frames := 1, cells := 0, slots := 0, locals := 40 }) (va_Pc [.ref na, .int x] (mt_B D [(cZ, .boolean), (cI, .int), (cJ, .long), (cII, .array .int)] [(na, .inr (7, [.int vwide, .int vhigh, .ref nwalls, .int 0, .ref nstarts, .ref ngoals, .ref nlaid, .ref nisTold, .int vfree, .ref ncells, .ref nindex, .ref nnear, .ref nnearCount, .ref npay, .ref ndone, .ref npile, .int vtop, .ref nnow, .ref nthen, .ref nchoice, .int vfound, .int vlength, .ref nplan, .ref ncosts, .ref npaid, .ref nafter, .ref nfar, .ref nmany, .ref nnext, .int vsort, .int vwhen, .int vone, .int vtwo]))] sz)) ((fun A => va_Qi (fun (r : Int32) (u : Unit) => ((r = 0 ∧ x = 0) ∨ (r = -1 ∧ ¬ x = 0)) ∧ (True)) (fun (u : Unit) (t : State) => True) A) (va_A [(na, .inr (7, [.int vwide, .int vhigh, .ref nwalls, .int 0, .ref nstarts, .ref ngoals, .ref nlaid, .ref nisTold, .int vfree, .ref ncells, .ref nindex, .ref nnear, .ref nnearCount, .ref npay, .ref ndone, .ref npile, .int vtop, .ref nnow, .ref nthen, .ref nchoice, .int vfound, .int vlength, .ref nplan, .ref ncosts, .ref npaid, .ref nafter, .ref nfar, .ref nmany, .ref nnext, .int vsort, .int vwhen, .int vone, .int vtwo]))] sz)) 0 0 (va_A [(na, .inr (7, [.int vwide, .int vhigh, .ref nwalls, .int 0, .ref nstarts, .ref ngoals, .ref nlaid, .ref nisTold, .int vfree, .ref ncells, .ref nindex, .ref nnear, .ref nnearCount, .ref npay, .ref ndone, .ref npile, .int vtop, .ref nnow, .ref nthen, .ref nchoice, .int vfound, .int vlength, .ref nplan, .ref ncosts, .ref npaid, .ref nafter, .ref nfar, .ref nmany, .ref nnext, .int vsort, .int vwhen, .int vone, .int vtwo]))] sz) := by
  refine mt_of (y := y_md_judge) (n := 2) (av := [.ref na, .int x]) (QF := (fun A => va_Qi (fun (r : Int32) (u : Unit) => ((r = 0 ∧ x = 0) ∨ (r = -1 ∧ ¬ x = 0)) ∧ (True)) (fun (u : Unit) (t : State) => True) A)) (by decide) (Nat.le_of_ble_eq_true rfl) ?_
  intro p e s m below meth c ls A hx hb hr hlk hml hown hnm hg hl hX hP hK hD hA hS
  obtain ⟨H, hH⟩ : ∃ H : Heap, H = s.heap := ⟨_, rfl⟩
  have hS : va_S A s.heap H [] := by rw [hH]; exact va_S.rf
  rw [← hH] at hP ⊢
  have hown : s.vm.findClass R_md = some m.cls := hown
  have hl : lv_has ls 2 [(0, .ref na), (1, .int x)] := hl
  refine lv_aload_n hx hb d_md_judge_0 rfl (lv_at hl 0 rfl) ?_
  have hPc := hP
  have hDc := hD
  have hFc := mt_whole hD hS hA
  refine va_callv (va_runV (As := []) (rest := []) ⟨hx, hb, hml, hown, hg⟩ (c_md_look l D cZ cI cJ cII na nwalls nstarts ngoals nlaid nisTold ncells nindex nnear nnearCount npay ndone npile nnow nthen nchoice nplan ncosts npaid nafter nfar nmany nnext vwide vhigh vfree vtop vfound vlength vsort vwhen vone vtwo H.size ) (cwV 0 hg gv_md_215 rfl rfl rfl (by decide +kernel) ⟨Nat.le_of_ble_eq_true rfl, Nat.le_of_ble_eq_true rfl⟩) ⟨mt_bl, va_recv (q0 := 0) (ci := 7) hK hP rfl rfl, mt_pr hX hPc hK hDc⟩ rfl rfl hl.1 rfl (lv_room (Nat.le_of_ble_eq_true rfl)) d_md_judge_1 ⟨Nat.le_of_ble_eq_true rfl, Nat.le_of_ble_eq_true rfl⟩) hS (fun q _ h => hFc q h) hFc (fun u t H1 locs ht hvm hw hB hz1 hk1 hS => ?_)
  obtain ⟨hP1, hD1⟩ := hB
  rw [ht] at hP1
  have hP := hP1
  have hD := hD1.weaken (fun _ _ _ h => hFc _ h)
  generalize H1 = H at hP hS ⊢
  have hP : va_P D kls [(na, .inr (7, [.int vwide, .int vhigh, .ref nwalls, .int 0, .ref nstarts, .ref ngoals, .ref nlaid, .ref nisTold, .int vfree, .ref ncells, .ref nindex, .ref nnear, .ref nnearCount, .ref npay, .ref ndone, .ref npile, .int vtop, .ref nnow, .ref nthen, .ref nchoice, .int vfound, .int vlength, .ref nplan, .ref ncosts, .ref npaid, .ref nafter, .ref nfar, .ref nmany, .ref nnext, .int 0, .int (-1), .int (-1), .int (-1)]))] H := hP
  have hD : va_D A [(na, .inr (7, [.int vwide, .int vhigh, .ref nwalls, .int 0, .ref nstarts, .ref ngoals, .ref nlaid, .ref nisTold, .int vfree, .ref ncells, .ref nindex, .ref nnear, .ref nnearCount, .ref npay, .ref ndone, .ref npile, .int vtop, .ref nnow, .ref nthen, .ref nchoice, .int vfound, .int vlength, .ref nplan, .ref ncosts, .ref npaid, .ref nafter, .ref nfar, .ref nmany, .ref nnext, .int 0, .int (-1), .int (-1), .int (-1)]))] := hD
  refine lv_iload_n hx hb d_md_judge_4 rfl (lv_at hl 1 rfl) ?_
  refine lv_if_ne hx hb d_md_judge_5 rfl (fun g1 => ?_) (fun g1 => ?_)
  ·
    refine lv_iload_n hx hb d_md_judge_15 rfl (lv_at hl 1 rfl) ?_
    refine lv_iconst (v := 1) hx hb d_md_judge_16 (by decide) ?_
    refine lv_icmp_ne hx hb d_md_judge_17 rfl (fun g2 => ?_) (fun g2 => ?_)
    ·
      refine lv_iload_n hx hb d_md_judge_27 rfl (lv_at hl 1 rfl) ?_
      refine lv_iconst (v := 2) hx hb d_md_judge_28 (by decide) ?_
      refine lv_icmp_ne hx hb d_md_judge_29 rfl (fun g3 => ?_) (fun g3 => ?_)
      ·
        refine lv_iload_n hx hb d_md_judge_39 rfl (lv_at hl 1 rfl) ?_
        refine lv_iconst (v := 3) hx hb d_md_judge_40 (by decide) ?_
        refine lv_icmp_ne hx hb d_md_judge_41 rfl (fun g4 => ?_) (fun g4 => ?_)
        ·
          refine lv_iconst (v := (-1)) hx hb d_md_judge_51 (by decide) ?_
          exact W.iret hx hb hr (fun t ht hW => ⟨⟨(-1), (), rfl, ⟨Or.inr ⟨rfl, g1⟩, trivial⟩, trivial⟩, hS.F ht⟩) hS.2.2 d_md_judge_52
        ·
          refine lv_aload_n hx hb d_md_judge_44 rfl (lv_at hl 0 rfl) ?_
          refine gf_md_205 hx hb hg hown hK hP 0 rfl rfl d_md_judge_45 ?_
          refine lv_goto hx hb d_md_judge_48 rfl ?_
          exact W.iret hx hb hr (fun t ht hW => ⟨⟨(-1), (), rfl, ⟨Or.inr ⟨rfl, g1⟩, trivial⟩, trivial⟩, hS.F ht⟩) hS.2.2 d_md_judge_52
      ·
        refine lv_aload_n hx hb d_md_judge_32 rfl (lv_at hl 0 rfl) ?_
        refine gf_md_202 hx hb hg hown hK hP 0 rfl rfl d_md_judge_33 ?_
        refine lv_goto hx hb d_md_judge_36 rfl ?_
        exact W.iret hx hb hr (fun t ht hW => ⟨⟨(-1), (), rfl, ⟨Or.inr ⟨rfl, g1⟩, trivial⟩, trivial⟩, hS.F ht⟩) hS.2.2 d_md_judge_52
    ·
      refine lv_aload_n hx hb d_md_judge_20 rfl (lv_at hl 0 rfl) ?_
      refine gf_md_199 hx hb hg hown hK hP 0 rfl rfl d_md_judge_21 ?_
      refine lv_goto hx hb d_md_judge_24 rfl ?_
      exact W.iret hx hb hr (fun t ht hW => ⟨⟨(-1), (), rfl, ⟨Or.inr ⟨rfl, g1⟩, trivial⟩, trivial⟩, hS.F ht⟩) hS.2.2 d_md_judge_52
  ·
    refine lv_aload_n hx hb d_md_judge_8 rfl (lv_at hl 0 rfl) ?_
    refine gf_md_196 hx hb hg hown hK hP 0 rfl rfl d_md_judge_9 ?_
    refine lv_goto hx hb d_md_judge_12 rfl ?_
    exact W.iret hx hb hr (fun t ht hW => ⟨⟨0, (), rfl, ⟨Or.inl ⟨rfl, g1⟩, trivial⟩, trivial⟩, hS.F ht⟩) hS.2.2 d_md_judge_52
