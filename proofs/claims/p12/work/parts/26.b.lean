set_option maxHeartbeats 4000000 in
set_option maxRecDepth 100000 in
theorem c_md_size (l : Launch) (D : va_G) (cZ cI cJ cII : ClassId) (na : Nat) (nwalls : Nat) (nstarts : Nat) (ngoals : Nat) (nlaid : Nat) (nisTold : Nat) (ncells : Nat) (nindex : Nat) (nnear : Nat) (nnearCount : Nat) (npay : Nat) (ndone : Nat) (npile : Nat) (nnow : Nat) (nthen : Nat) (nchoice : Nat) (nplan : Nat) (ncosts : Nat) (npaid : Nat) (nafter : Nat) (nfar : Nat) (nmany : Nat) (nnext : Nat) (vwide : Int32) (vhigh : Int32) (vmovers : Int32) (vfree : Int32) (vtop : Int32) (vfound : Int32) (vlength : Int32) (vsort : Int32) (vwhen : Int32) (vone : Int32) (vtwo : Int32) (sz : Nat)  : Met l y_md_size w_md_size ({ frames := 0, cells := 0, slots := 0, locals := 0 }) (va_Pc [.ref na] (mt_B D [(cZ, .boolean), (cI, .int), (cJ, .long), (cII, .array .int)] [(na, .inr (7, [.int vwide, .int vhigh, .ref nwalls, .int vmovers, .ref nstarts, .ref ngoals, .ref nlaid, .ref nisTold, .int vfree, .ref ncells, .ref nindex, .ref nnear, .ref nnearCount, .ref npay, .ref ndone, .ref npile, .int vtop, .ref nnow, .ref nthen, .ref nchoice, .int vfound, .int vlength, .ref nplan, .ref ncosts, .ref npaid, .ref nafter, .ref nfar, .ref nmany, .ref nnext, .int vsort, .int vwhen, .int vone, .int vtwo]))] sz)) (vp_Si (fun r : Int32 => r = vwide * vhigh)) 0 0 (fun _ => False) := by
  refine mt_ofR (by decide) (Nat.le_of_ble_eq_true rfl) ?_
  intro p e s m below meth c ls hx hb hr hlk hml hown hg hl hX hP hK hD
  have hown : s.vm.findClass R_md = some m.cls := hown
  obtain ⟨H, hH⟩ : ∃ H : Heap, H = s.heap := ⟨_, rfl⟩
  rw [← hH] at hP ⊢
  have hl : lv_has ls 1 [(0, .ref na)] := hl
  refine lv_aload_n hx hb d_md_size_0 rfl (lv_at hl 0 rfl) ?_
  refine gf_md_7 hx hb hg hown hK hP 0 rfl rfl d_md_size_1 ?_
  refine lv_aload_n hx hb d_md_size_4 rfl (lv_at hl 0 rfl) ?_
  refine gf_md_13 hx hb hg hown hK hP 0 rfl rfl d_md_size_5 ?_
  refine lv_imul hx hb d_md_size_8 ?_
  exact W.iret hx hb hr (fun t ht _ => ⟨vwide * vhigh, rfl, rfl, ht.trans hH⟩) (fun _ h => absurd h List.not_mem_nil) d_md_size_9

set_option maxHeartbeats 4000000 in
set_option maxRecDepth 100000 in
theorem c_md_isCell (l : Launch) (D : va_G) (cZ cI cJ cII : ClassId) (na : Nat) (nwalls : Nat) (nstarts : Nat) (ngoals : Nat) (nlaid : Nat) (nisTold : Nat) (ncells : Nat) (nindex : Nat) (nnear : Nat) (nnearCount : Nat) (npay : Nat) (ndone : Nat) (npile : Nat) (nnow : Nat) (nthen : Nat) (nchoice : Nat) (nplan : Nat) (ncosts : Nat) (npaid : Nat) (nafter : Nat) (nfar : Nat) (nmany : Nat) (nnext : Nat) (vwide : Int32) (vhigh : Int32) (vmovers : Int32) (vfree : Int32) (vtop : Int32) (vfound : Int32) (vlength : Int32) (vsort : Int32) (vwhen : Int32) (vone : Int32) (vtwo : Int32) (x : Int32) (sz : Nat)  : Met l y_md_isCell w_md_isCell ({ frames := 1, cells := 0, slots := 0, locals := 40 }) (va_Pc [.ref na, .int x] (mt_B D [(cZ, .boolean), (cI, .int), (cJ, .long), (cII, .array .int)] [(na, .inr (7, [.int vwide, .int vhigh, .ref nwalls, .int vmovers, .ref nstarts, .ref ngoals, .ref nlaid, .ref nisTold, .int vfree, .ref ncells, .ref nindex, .ref nnear, .ref nnearCount, .ref npay, .ref ndone, .ref npile, .int vtop, .ref nnow, .ref nthen, .ref nchoice, .int vfound, .int vlength, .ref nplan, .ref ncosts, .ref npaid, .ref nafter, .ref nfar, .ref nmany, .ref nnext, .int vsort, .int vwhen, .int vone, .int vtwo]))] sz)) (vp_Si (fun r : Int32 => (r = 1 ∧ ¬ x < 0 ∧ ¬ vwide * vhigh ≤ x) ∨ (r = 0 ∧ (x < 0 ∨ vwide * vhigh ≤ x)))) 0 0 (fun _ => False) := by
  refine mt_ofR (by decide) (Nat.le_of_ble_eq_true rfl) ?_
  intro p e s m below meth c ls hx hb hr hlk hml hown hg hl hX hP hK hD
  have hown : s.vm.findClass R_md = some m.cls := hown
  obtain ⟨H, hH⟩ : ∃ H : Heap, H = s.heap := ⟨_, rfl⟩
  rw [← hH] at hP ⊢
  have hl : lv_has ls 2 [(0, .ref na), (1, .int x)] := hl
  refine lv_iload_n hx hb d_md_isCell_0 rfl (lv_at hl 1 rfl) ?_
  refine lv_if_lt hx hb d_md_isCell_1 rfl (fun g1 => ?_) (fun g1 => ?_)
  ·
    refine lv_iconst (v := 0) hx hb d_md_isCell_16 (by decide) ?_
    exact W.zret hx hb hr rfl (fun t ht _ => ⟨0, rfl, Or.inr ⟨rfl, Or.inl g1⟩, ht.trans hH⟩) (fun _ h => absurd h List.not_mem_nil) d_md_isCell_17
  ·
    refine lv_iload_n hx hb d_md_isCell_4 rfl (lv_at hl 1 rfl) ?_
    refine lv_aload_n hx hb d_md_isCell_5 rfl (lv_at hl 0 rfl) ?_
    have hPc := hP
    have hDc := hD
    refine vp_callSi (W.runV (As := []) (rest := [.int x]) ⟨hx, hb, hml, hown, hg⟩ (c_md_size l D cZ cI cJ cII na nwalls nstarts ngoals nlaid nisTold ncells nindex nnear nnearCount npay ndone npile nnow nthen nchoice nplan ncosts npaid nafter nfar nmany nnext vwide vhigh vmovers vfree vtop vfound vlength vsort vwhen vone vtwo H.size ) (cwV 0 hg gv_md_93 rfl rfl rfl (by decide +kernel) ⟨Nat.le_of_ble_eq_true rfl, Nat.le_of_ble_eq_true rfl⟩) ⟨mt_bl, va_recv (q0 := 0) (ci := 7) hK hP rfl rfl, mt_pr hX hPc hK hDc⟩ rfl rfl hl.1 rfl (lv_room (Nat.le_of_ble_eq_true rfl)) d_md_isCell_6 ⟨Nat.le_of_ble_eq_true rfl, Nat.le_of_ble_eq_true rfl⟩) (fun r1 hr1 => ?_)
    have hr1 : r1 = vwide * vhigh := hr1
    have hr1 : r1 = vwide * vhigh := hr1
    subst hr1
    refine lv_icmp_ge hx hb d_md_isCell_9 rfl (fun g2 => ?_) (fun g2 => ?_)
    ·
      refine lv_iconst (v := 0) hx hb d_md_isCell_16 (by decide) ?_
      exact W.zret hx hb hr rfl (fun t ht _ => ⟨0, rfl, Or.inr ⟨rfl, Or.inr g2⟩, ht.trans hH⟩) (fun _ h => absurd h List.not_mem_nil) d_md_isCell_17
    ·
      refine lv_iconst (v := 1) hx hb d_md_isCell_12 (by decide) ?_
      refine lv_goto hx hb d_md_isCell_13 rfl ?_
      exact W.zret hx hb hr rfl (fun t ht _ => ⟨1, rfl, Or.inl ⟨rfl, g1, g2⟩, ht.trans hH⟩) (fun _ h => absurd h List.not_mem_nil) d_md_isCell_17

set_option maxHeartbeats 4000000 in
set_option maxRecDepth 100000 in
theorem c_md_isFree (l : Launch) (D : va_G) (cZ cI cJ cII : ClassId) (na : Nat) (nwalls : Nat) (nstarts : Nat) (ngoals : Nat) (nlaid : Nat) (nisTold : Nat) (ncells : Nat) (nindex : Nat) (nnear : Nat) (nnearCount : Nat) (npay : Nat) (ndone : Nat) (npile : Nat) (nnow : Nat) (nthen : Nat) (nchoice : Nat) (nplan : Nat) (ncosts : Nat) (npaid : Nat) (nafter : Nat) (nfar : Nat) (nmany : Nat) (nnext : Nat) (vwide : Int32) (vhigh : Int32) (vmovers : Int32) (vfree : Int32) (vtop : Int32) (vfound : Int32) (vlength : Int32) (vsort : Int32) (vwhen : Int32) (vone : Int32) (vtwo : Int32) (wf : Nat → Int32) (x : Int32) (sz : Nat) (hb25 : ∀ x : Int32, ¬ x < 0 → ¬ vwide * vhigh ≤ x → vp_in x 25) : Met l y_md_isFree w_md_isFree ({ frames := 2, cells := 0, slots := 0, locals := 80 }) (va_Pc [.ref na, .int x] (mt_B D [(cZ, .boolean), (cI, .int), (cJ, .long), (cII, .array .int)] [(na, .inr (7, [.int vwide, .int vhigh, .ref nwalls, .int vmovers, .ref nstarts, .ref ngoals, .ref nlaid, .ref nisTold, .int vfree, .ref ncells, .ref nindex, .ref nnear, .ref nnearCount, .ref npay, .ref ndone, .ref npile, .int vtop, .ref nnow, .ref nthen, .ref nchoice, .int vfound, .int vlength, .ref nplan, .ref ncosts, .ref npaid, .ref nafter, .ref nfar, .ref nmany, .ref nnext, .int vsort, .int vwhen, .int vone, .int vtwo])), (nwalls, .inl (cZ, 25, .inl wf))] sz)) (vp_Si (fun r : Int32 => (r = 1 ∧ ¬ x < 0 ∧ ¬ vwide * vhigh ≤ x ∧ wf x.toNatClampNeg = 0) ∨ (r = 0 ∧ (x < 0 ∨ vwide * vhigh ≤ x ∨ ¬ wf x.toNatClampNeg = 0)))) 0 0 (fun _ => False) := by
  refine mt_ofR (by decide) (Nat.le_of_ble_eq_true rfl) ?_
  intro p e s m below meth c ls hx hb hr hlk hml hown hg hl hX hP hK hD
  have hown : s.vm.findClass R_md = some m.cls := hown
  obtain ⟨H, hH⟩ : ∃ H : Heap, H = s.heap := ⟨_, rfl⟩
  rw [← hH] at hP ⊢
  have hl : lv_has ls 2 [(0, .ref na), (1, .int x)] := hl
  refine lv_aload_n hx hb d_md_isFree_0 rfl (lv_at hl 0 rfl) ?_
  refine lv_iload_n hx hb d_md_isFree_1 rfl (lv_at hl 1 rfl) ?_
  have hPc := hP.sub (ws' := [(na, .inr (7, [.int vwide, .int vhigh, .ref nwalls, .int vmovers, .ref nstarts, .ref ngoals, .ref nlaid, .ref nisTold, .int vfree, .ref ncells, .ref nindex, .ref nnear, .ref nnearCount, .ref npay, .ref ndone, .ref npile, .int vtop, .ref nnow, .ref nthen, .ref nchoice, .int vfound, .int vlength, .ref nplan, .ref ncosts, .ref npaid, .ref nafter, .ref nfar, .ref nmany, .ref nnext, .int vsort, .int vwhen, .int vone, .int vtwo]))]) [0] rfl
  have hDc := hD.sub (ws' := [(na, .inr (7, [.int vwide, .int vhigh, .ref nwalls, .int vmovers, .ref nstarts, .ref ngoals, .ref nlaid, .ref nisTold, .int vfree, .ref ncells, .ref nindex, .ref nnear, .ref nnearCount, .ref npay, .ref ndone, .ref npile, .int vtop, .ref nnow, .ref nthen, .ref nchoice, .int vfound, .int vlength, .ref nplan, .ref ncosts, .ref npaid, .ref nafter, .ref nfar, .ref nmany, .ref nnext, .int vsort, .int vwhen, .int vone, .int vtwo]))]) [0] (by decide) rfl
  refine vp_callSi (W.runV (As := [.int x]) (rest := []) ⟨hx, hb, hml, hown, hg⟩ (c_md_isCell l D cZ cI cJ cII na nwalls nstarts ngoals nlaid nisTold ncells nindex nnear nnearCount npay ndone npile nnow nthen nchoice nplan ncosts npaid nafter nfar nmany nnext vwide vhigh vmovers vfree vtop vfound vlength vsort vwhen vone vtwo x H.size ) (cwV 1 hg gv_md_97 rfl rfl rfl (by decide +kernel) ⟨Nat.le_of_ble_eq_true rfl, Nat.le_of_ble_eq_true rfl⟩) ⟨mt_bl, va_recv (q0 := 0) (ci := 7) hK hP rfl rfl, mt_pr hX hPc hK hDc⟩ rfl rfl hl.1 rfl (lv_room (Nat.le_of_ble_eq_true rfl)) d_md_isFree_2 ⟨Nat.le_of_ble_eq_true rfl, Nat.le_of_ble_eq_true rfl⟩) (fun r1 hr1 => ?_)
  have hr1 : (r1 = 1 ∧ ¬ x < 0 ∧ ¬ vwide * vhigh ≤ x) ∨ (r1 = 0 ∧ (x < 0 ∨ vwide * vhigh ≤ x)) := hr1
  refine lv_if_eq hx hb d_md_isFree_5 rfl (fun g1 => ?_) (fun g1 => ?_)
  ·
    refine lv_iconst (v := 0) hx hb d_md_isFree_21 (by decide) ?_
    exact W.zret hx hb hr rfl (fun t ht _ => ⟨0, rfl, Or.inr ⟨rfl, hr1.elim (fun q => absurd (q.1.symm.trans g1) (by decide)) (fun q => q.2.elim Or.inl (fun z => Or.inr (Or.inl z)))⟩, ht.trans hH⟩) (fun _ h => absurd h List.not_mem_nil) d_md_isFree_22
  ·
    have g3 : ¬ x < 0 ∧ ¬ vwide * vhigh ≤ x := hr1.elim (fun q => q.2) (fun q => absurd q.1 g1)
    refine lv_aload_n hx hb d_md_isFree_8 rfl (lv_at hl 0 rfl) ?_
    refine gf_md_16 hx hb hg hown hK hP 0 rfl rfl d_md_isFree_9 ?_
    refine lv_iload_n hx hb d_md_isFree_12 rfl (lv_at hl 1 rfl) ?_
    refine va_zald hx hb hK hP 1 0 rfl rfl (hb25 x g3.1 g3.2) d_md_isFree_13 ?_
    refine lv_if_ne hx hb d_md_isFree_14 rfl (fun g2 => ?_) (fun g2 => ?_)
    ·
      refine lv_iconst (v := 0) hx hb d_md_isFree_21 (by decide) ?_
      exact W.zret hx hb hr rfl (fun t ht _ => ⟨0, rfl, Or.inr ⟨rfl, Or.inr (Or.inr g2)⟩, ht.trans hH⟩) (fun _ h => absurd h List.not_mem_nil) d_md_isFree_22
    ·
      refine lv_iconst (v := 1) hx hb d_md_isFree_17 (by decide) ?_
      refine lv_goto hx hb d_md_isFree_18 rfl ?_
      exact W.zret hx hb hr rfl (fun t ht _ => ⟨1, rfl, Or.inl ⟨rfl, g3.1, g3.2, g2⟩, ht.trans hH⟩) (fun _ h => absurd h List.not_mem_nil) d_md_isFree_22

set_option maxHeartbeats 4000000 in
set_option maxRecDepth 100000 in
theorem c_md_isMover (l : Launch) (D : va_G) (cZ cI cJ cII : ClassId) (na : Nat) (nwalls : Nat) (nstarts : Nat) (ngoals : Nat) (nlaid : Nat) (nisTold : Nat) (ncells : Nat) (nindex : Nat) (nnear : Nat) (nnearCount : Nat) (npay : Nat) (ndone : Nat) (npile : Nat) (nnow : Nat) (nthen : Nat) (nchoice : Nat) (nplan : Nat) (ncosts : Nat) (npaid : Nat) (nafter : Nat) (nfar : Nat) (nmany : Nat) (nnext : Nat) (vfree : Int32) (vtop : Int32) (vfound : Int32) (vlength : Int32) (vsort : Int32) (vwhen : Int32) (vone : Int32) (vtwo : Int32) (W0 : Nat) (H0 : Nat) (n : Nat) (x : Int32) (sz : Nat)  : Met l y_md_isMover w_md_isMover ({ frames := 0, cells := 0, slots := 0, locals := 0 }) (va_Pc [.ref na, .int x] (mt_B D [(cZ, .boolean), (cI, .int), (cJ, .long), (cII, .array .int)] [(na, .inr (7, [.int (nI W0), .int (nI H0), .ref nwalls, .int (nI n), .ref nstarts, .ref ngoals, .ref nlaid, .ref nisTold, .int vfree, .ref ncells, .ref nindex, .ref nnear, .ref nnearCount, .ref npay, .ref ndone, .ref npile, .int vtop, .ref nnow, .ref nthen, .ref nchoice, .int vfound, .int vlength, .ref nplan, .ref ncosts, .ref npaid, .ref nafter, .ref nfar, .ref nmany, .ref nnext, .int vsort, .int vwhen, .int vone, .int vtwo]))] sz)) (vp_Si (fun r : Int32 => (r = 1 ∧ ¬ x < 0 ∧ ¬ nI n ≤ x) ∨ (r = 0 ∧ (x < 0 ∨ nI n ≤ x)))) 0 0 (fun _ => False) := by
  refine mt_ofR (by decide) (Nat.le_of_ble_eq_true rfl) ?_
  intro p e s m below meth c ls hx hb hr hlk hml hown hg hl hX hP hK hD
  have hown : s.vm.findClass R_md = some m.cls := hown
  obtain ⟨H, hH⟩ : ∃ H : Heap, H = s.heap := ⟨_, rfl⟩
  rw [← hH] at hP ⊢
  have hl : lv_has ls 2 [(0, .ref na), (1, .int x)] := hl
  refine lv_iload_n hx hb d_md_isMover_0 rfl (lv_at hl 1 rfl) ?_
  refine lv_if_lt hx hb d_md_isMover_1 rfl (fun g1 => ?_) (fun g1 => ?_)
  ·
    refine lv_iconst (v := 0) hx hb d_md_isMover_16 (by decide) ?_
    exact W.zret hx hb hr rfl (fun t ht _ => ⟨0, rfl, Or.inr ⟨rfl, Or.inl g1⟩, ht.trans hH⟩) (fun _ h => absurd h List.not_mem_nil) d_md_isMover_17
  ·
    refine lv_iload_n hx hb d_md_isMover_4 rfl (lv_at hl 1 rfl) ?_
    refine lv_aload_n hx hb d_md_isMover_5 rfl (lv_at hl 0 rfl) ?_
    refine gf_md_86 hx hb hg hown hK hP 0 rfl rfl d_md_isMover_6 ?_
    refine lv_icmp_ge hx hb d_md_isMover_9 rfl (fun g2 => ?_) (fun g2 => ?_)
    ·
      refine lv_iconst (v := 0) hx hb d_md_isMover_16 (by decide) ?_
      exact W.zret hx hb hr rfl (fun t ht _ => ⟨0, rfl, Or.inr ⟨rfl, Or.inr g2⟩, ht.trans hH⟩) (fun _ h => absurd h List.not_mem_nil) d_md_isMover_17
    ·
      refine lv_iconst (v := 1) hx hb d_md_isMover_12 (by decide) ?_
      refine lv_goto hx hb d_md_isMover_13 rfl ?_
      exact W.zret hx hb hr rfl (fun t ht _ => ⟨1, rfl, Or.inl ⟨rfl, g1, g2⟩, ht.trans hH⟩) (fun _ h => absurd h List.not_mem_nil) d_md_isMover_17

set_option maxHeartbeats 4000000 in
set_option maxRecDepth 100000 in
theorem c_md_freeCells (l : Launch) (D : va_G) (cZ cI cJ cII : ClassId) (na : Nat) (nwalls : Nat) (nstarts : Nat) (ngoals : Nat) (nlaid : Nat) (nisTold : Nat) (ncells : Nat) (nindex : Nat) (nnear : Nat) (nnearCount : Nat) (npay : Nat) (ndone : Nat) (npile : Nat) (nnow : Nat) (nthen : Nat) (nchoice : Nat) (nplan : Nat) (ncosts : Nat) (npaid : Nat) (nafter : Nat) (nfar : Nat) (nmany : Nat) (nnext : Nat) (vfree : Int32) (vtop : Int32) (vfound : Int32) (vlength : Int32) (vsort : Int32) (vwhen : Int32) (vone : Int32) (vtwo : Int32) (W0 : Nat) (H0 : Nat) (n : Nat) (wf : Nat → Int32) (sz : Nat) (hWH : 1 ≤ W0 ∧ W0 ≤ 6 ∧ H0 ≤ 6 ∧ W0 * H0 ≤ 25) : Met l y_md_freeCells w_md_freeCells ({ frames := 1, cells := 0, slots := 0, locals := 40 }) (va_Pc [.ref na] (mt_B D [(cZ, .boolean), (cI, .int), (cJ, .long), (cII, .array .int)] [(na, .inr (7, [.int (nI W0), .int (nI H0), .ref nwalls, .int (nI n), .ref nstarts, .ref ngoals, .ref nlaid, .ref nisTold, .int vfree, .ref ncells, .ref nindex, .ref nnear, .ref nnearCount, .ref npay, .ref ndone, .ref npile, .int vtop, .ref nnow, .ref nthen, .ref nchoice, .int vfound, .int vlength, .ref nplan, .ref ncosts, .ref npaid, .ref nafter, .ref nfar, .ref nmany, .ref nnext, .int vsort, .int vwhen, .int vone, .int vtwo])), (nwalls, .inl (cZ, 25, .inl wf))] sz)) (vp_Si (fun r : Int32 => r = nI (fx_cnt wf (W0 * H0)))) 0 0 (fun _ => False) := by
  refine mt_ofR (by decide) (Nat.le_of_ble_eq_true rfl) ?_
  intro p e s m below meth c ls hx hb hr hlk hml hown hg hl hX hP hK hD
  have hown : s.vm.findClass R_md = some m.cls := hown
  obtain ⟨H, hH⟩ : ∃ H : Heap, H = s.heap := ⟨_, rfl⟩
  rw [← hH] at hP ⊢
  have hl : lv_has ls 3 [(0, .ref na)] := hl
  refine lv_iconst (v := 0) hx hb d_md_freeCells_0 (by decide) ?_
  refine lv_istore_n hx hb d_md_freeCells_1 rfl hl (by decide) rfl (fun ls hl => ?_)
  have hl : lv_has ls 3 [(1, .int 0), (0, .ref na)] := hl
  refine lv_iconst (v := 0) hx hb d_md_freeCells_2 (by decide) ?_
  refine lv_istore_n hx hb d_md_freeCells_3 rfl hl (by decide) rfl (fun ls hl => ?_)
  have hl : lv_has ls 3 [(2, .int 0), (1, .int 0), (0, .ref na)] := hl
  have hl := lv_sub hl [0, 1, 2] (l' := [(2, .int (nI 0)), (1, .int (nI 0)), (0, .ref na)]) rfl
  refine mt_loop (ι := Nat × Nat) (I := fun ix ls H locs => ((ix.1) ≤ W0 * H0) ∧ ((ix.2) = fx_cnt wf (ix.1)) ∧ lv_has ls 3 [(2, .int (nI (ix.1))), (1, .int (nI (ix.2))), (0, .ref na)] ∧ va_P D kls [(na, .inr (7, [.int (nI W0), .int (nI H0), .ref nwalls, .int (nI n), .ref nstarts, .ref ngoals, .ref nlaid, .ref nisTold, .int vfree, .ref ncells, .ref nindex, .ref nnear, .ref nnearCount, .ref npay, .ref ndone, .ref npile, .int vtop, .ref nnow, .ref nthen, .ref nchoice, .int vfound, .int vlength, .ref nplan, .ref ncosts, .ref npaid, .ref nafter, .ref nfar, .ref nmany, .ref nnext, .int vsort, .int vwhen, .int vone, .int vtwo])), (nwalls, .inl (cZ, 25, .inl wf))] H ∧ H = s.heap ∧ locs = []) (μ := fun ix => W0 * H0 - (ix.1)) ?_ (0, 0) ls H _ ⟨Nat.zero_le _, rfl, hl, hP, hH, rfl⟩
  clear hl hP
  intro i_a ls H locs ⟨hz, hsu, hl, hP, hH, hlc⟩ ih_a
  obtain ⟨z, su⟩ := i_a
  subst hlc
  have hz : z ≤ W0 * H0 := hz
  have hsu : su = fx_cnt wf z := hsu
  have hl : lv_has ls 3 [(2, .int (nI z)), (1, .int (nI su)), (0, .ref na)] := hl
  have hP : va_P D kls [(na, .inr (7, [.int (nI W0), .int (nI H0), .ref nwalls, .int (nI n), .ref nstarts, .ref ngoals, .ref nlaid, .ref nisTold, .int vfree, .ref ncells, .ref nindex, .ref nnear, .ref nnearCount, .ref npay, .ref ndone, .ref npile, .int vtop, .ref nnow, .ref nthen, .ref nchoice, .int vfound, .int vlength, .ref nplan, .ref ncosts, .ref npaid, .ref nafter, .ref nfar, .ref nmany, .ref nnext, .int vsort, .int vwhen, .int vone, .int vtwo])), (nwalls, .inl (cZ, 25, .inl wf))] H := hP
  refine lv_iload_n hx hb d_md_freeCells_4 rfl (lv_at hl 0 rfl) ?_
  refine lv_aload_n hx hb d_md_freeCells_5 rfl (lv_at hl 2 rfl) ?_
  have hPc := hP.sub (ws' := [(na, .inr (7, [.int (nI W0), .int (nI H0), .ref nwalls, .int (nI n), .ref nstarts, .ref ngoals, .ref nlaid, .ref nisTold, .int vfree, .ref ncells, .ref nindex, .ref nnear, .ref nnearCount, .ref npay, .ref ndone, .ref npile, .int vtop, .ref nnow, .ref nthen, .ref nchoice, .int vfound, .int vlength, .ref nplan, .ref ncosts, .ref npaid, .ref nafter, .ref nfar, .ref nmany, .ref nnext, .int vsort, .int vwhen, .int vone, .int vtwo]))]) [0] rfl
  have hDc := hD.sub (ws' := [(na, .inr (7, [.int (nI W0), .int (nI H0), .ref nwalls, .int (nI n), .ref nstarts, .ref ngoals, .ref nlaid, .ref nisTold, .int vfree, .ref ncells, .ref nindex, .ref nnear, .ref nnearCount, .ref npay, .ref ndone, .ref npile, .int vtop, .ref nnow, .ref nthen, .ref nchoice, .int vfound, .int vlength, .ref nplan, .ref ncosts, .ref npaid, .ref nafter, .ref nfar, .ref nmany, .ref nnext, .int vsort, .int vwhen, .int vone, .int vtwo]))]) [0] (by decide) rfl
  refine vp_callSi (W.runV (As := []) (rest := [.int (nI z)]) ⟨hx, hb, hml, hown, hg⟩ (c_md_size l D cZ cI cJ cII na nwalls nstarts ngoals nlaid nisTold ncells nindex nnear nnearCount npay ndone npile nnow nthen nchoice nplan ncosts npaid nafter nfar nmany nnext (nI W0) (nI H0) (nI n) vfree vtop vfound vlength vsort vwhen vone vtwo H.size ) (cwV 0 hg gv_md_93 rfl rfl rfl (by decide +kernel) ⟨Nat.le_of_ble_eq_true rfl, Nat.le_of_ble_eq_true rfl⟩) ⟨mt_bl, va_recv (q0 := 0) (ci := 7) hK hP rfl rfl, mt_pr hX hPc hK hDc⟩ rfl rfl hl.1 rfl (lv_room (Nat.le_of_ble_eq_true rfl)) d_md_freeCells_6 ⟨Nat.le_of_ble_eq_true rfl, Nat.le_of_ble_eq_true rfl⟩) (fun r1 hr1 => ?_)
  have hr1 : r1 = (nI W0) * (nI H0) := hr1
  have hr1 : r1 = nI (W0 * H0) := hr1.trans (pk_mul W0 H0)
  subst hr1
  refine lv_icmp_ge hx hb d_md_freeCells_9 rfl (fun g1 => ?_) (fun g1 => ?_)
  ·
    have g2 : W0 * H0 ≤ z := by rcases Nat.lt_or_ge z (W0 * H0) with h | h; exact absurd g1 (nI_ge (b := (W0 * H0)) h (by omega)); exact h
    have g2e : z = W0 * H0 := by omega
    refine lv_iload_n hx hb d_md_freeCells_35 rfl (lv_at hl 1 rfl) ?_
    exact W.iret hx hb hr (fun t ht _ => ⟨nI su, rfl, by rw [hsu, g2e], ht.trans hH⟩) (fun _ h => absurd h List.not_mem_nil) d_md_freeCells_36
  ·
    have g2 : z < W0 * H0 := by rcases Nat.lt_or_ge z (W0 * H0) with h | h; exact h; exact absurd (nI_le (a := (W0 * H0)) h (by omega)) g1
    refine lv_iload_n hx hb d_md_freeCells_12 rfl (lv_at hl 1 rfl) ?_
    refine lv_aload_n hx hb d_md_freeCells_13 rfl (lv_at hl 2 rfl) ?_
    refine gf_md_16 hx hb hg hown hK hP 0 rfl rfl d_md_freeCells_14 ?_
    refine lv_iload_n hx hb d_md_freeCells_17 rfl (lv_at hl 0 rfl) ?_
    refine va_zald hx hb hK hP 1 0 rfl rfl (vp_in_nI (show z < 25 by omega) (by decide)) d_md_freeCells_18 ?_
    refine lv_topi (fun y2 ey2 => ?_)
    have ey2 : y2 = wf z := ey2.trans (by rw [nI_clamp (show z < 2 ^ 31 by omega)])
    subst ey2
    refine lv_if_eq hx hb d_md_freeCells_19 rfl (fun g3 => ?_) (fun g3 => ?_)
    ·
      refine lv_iconst (v := 1) hx hb d_md_freeCells_26 (by decide) ?_
      refine lv_iadd hx hb d_md_freeCells_27 ?_
      refine lv_topi (fun y3 ey3 => ?_)
      have ey3 : y3 = nI (su + 1) := ey3.trans (nI_1 su)
      subst ey3
      refine lv_istore_n hx hb d_md_freeCells_28 rfl hl (by decide) rfl (fun ls hl => ?_)
      have hl : lv_has ls 3 [(1, .int (nI (su + 1))), (2, .int (nI z)), (0, .ref na)] := hl
      refine lv_iinc (k := 1) (v := nI (z + 1)) hx hb d_md_freeCells_29 hl rfl ((nI_succ z).symm) (by decide) rfl (fun ls hl => ?_)
      have hl : lv_has ls 3 [(2, .int (nI (z + 1))), (1, .int (nI (su + 1))), (0, .ref na)] := hl
      refine lv_goto hx hb d_md_freeCells_32 rfl ?_
      have hl := lv_sub hl [0, 1, 2] (l' := [(2, .int (nI (z + 1))), (1, .int (nI (su + 1))), (0, .ref na)]) rfl
      exact ih_a (z + 1, su + 1) ls H _ (by show W0 * H0 - (z + 1) < W0 * H0 - z; omega) ⟨by show z + 1 ≤ W0 * H0; omega, by show su + 1 = fx_cnt wf z + (if wf z = 0 then 1 else 0); rw [if_pos g3, hsu], hl, hP, hH, rfl⟩
    ·
      refine lv_iconst (v := 0) hx hb d_md_freeCells_22 (by decide) ?_
      refine lv_goto hx hb d_md_freeCells_23 rfl ?_
      refine lv_iadd hx hb d_md_freeCells_27 ?_
      refine lv_topi (fun y4 ey4 => ?_)
      have ey4 : y4 = nI su := ey4.trans (Int32.add_zero _)
      subst ey4
      refine lv_istore_n hx hb d_md_freeCells_28 rfl hl (by decide) rfl (fun ls hl => ?_)
      have hl : lv_has ls 3 [(1, .int (nI su)), (2, .int (nI z)), (0, .ref na)] := hl
      refine lv_iinc (k := 1) (v := nI (z + 1)) hx hb d_md_freeCells_29 hl rfl ((nI_succ z).symm) (by decide) rfl (fun ls hl => ?_)
      have hl : lv_has ls 3 [(2, .int (nI (z + 1))), (1, .int (nI su)), (0, .ref na)] := hl
      refine lv_goto hx hb d_md_freeCells_32 rfl ?_
      have hl := lv_sub hl [0, 1, 2] (l' := [(2, .int (nI (z + 1))), (1, .int (nI su)), (0, .ref na)]) rfl
      exact ih_a (z + 1, su) ls H _ (by show W0 * H0 - (z + 1) < W0 * H0 - z; omega) ⟨by show z + 1 ≤ W0 * H0; omega, by show su = fx_cnt wf z + (if wf z = 0 then 1 else 0); rw [if_neg g3, hsu]; rfl, hl, hP, hH, rfl⟩


set_option maxHeartbeats 4000000 in
set_option maxRecDepth 100000 in
theorem c_md_isBeside (l : Launch) (D : va_G) (cZ cI cJ cII : ClassId) (na : Nat) (nwalls : Nat) (nstarts : Nat) (ngoals : Nat) (nlaid : Nat) (nisTold : Nat) (ncells : Nat) (nindex : Nat) (nnear : Nat) (nnearCount : Nat) (npay : Nat) (ndone : Nat) (npile : Nat) (nnow : Nat) (nthen : Nat) (nchoice : Nat) (nplan : Nat) (ncosts : Nat) (npaid : Nat) (nafter : Nat) (nfar : Nat) (nmany : Nat) (nnext : Nat) (vfree : Int32) (vtop : Int32) (vfound : Int32) (vlength : Int32) (vsort : Int32) (vwhen : Int32) (vone : Int32) (vtwo : Int32) (W0 : Nat) (H0 : Nat) (n : Nat) (a : Nat) (b : Nat) (sz : Nat) (hWH : 1 ≤ W0 ∧ W0 ≤ 6 ∧ H0 ≤ 6 ∧ W0 * H0 ≤ 25) (ha : a < 25) (hb9 : b < 25) : Met l y_md_isBeside w_md_isBeside ({ frames := 0, cells := 0, slots := 0, locals := 0 }) (va_Pc [.ref na, .int (nI a), .int (nI b)] (mt_B D [(cZ, .boolean), (cI, .int), (cJ, .long), (cII, .array .int)] [(na, .inr (7, [.int (nI W0), .int (nI H0), .ref nwalls, .int (nI n), .ref nstarts, .ref ngoals, .ref nlaid, .ref nisTold, .int vfree, .ref ncells, .ref nindex, .ref nnear, .ref nnearCount, .ref npay, .ref ndone, .ref npile, .int vtop, .ref nnow, .ref nthen, .ref nchoice, .int vfound, .int vlength, .ref nplan, .ref ncosts, .ref npaid, .ref nafter, .ref nfar, .ref nmany, .ref nnext, .int vsort, .int vwhen, .int vone, .int vtwo]))] sz)) (vp_Si (fun r : Int32 => (r = 1 ∧ mv_bs W0 a b) ∨ (r = 0 ∧ ¬ mv_bs W0 a b))) 0 0 (fun _ => False) := by
  refine mt_ofR (by decide) (Nat.le_of_ble_eq_true rfl) ?_
  intro p e s m below meth c ls hx hb hr hlk hml hown hg hl hX hP hK hD
  have hown : s.vm.findClass R_md = some m.cls := hown
  obtain ⟨H, hH⟩ : ∃ H : Heap, H = s.heap := ⟨_, rfl⟩
  rw [← hH] at hP ⊢
  have hl : lv_has ls 5 [(0, .ref na), (1, .int (nI a)), (2, .int (nI b))] := hl
  refine lv_iload_n hx hb d_md_isBeside_0 rfl (lv_at hl 1 rfl) ?_
  refine lv_aload_n hx hb d_md_isBeside_1 rfl (lv_at hl 0 rfl) ?_
  refine gf_md_7 hx hb hg hown hK hP 0 rfl rfl d_md_isBeside_2 ?_
  refine lv_irem hx hb d_md_isBeside_5 (show ¬ nI W0 = 0 from nI_ne0 (by omega) (by omega)) ?_
  refine lv_topi (fun y1 ey1 => ?_)
  have ey1 : y1 = nI (a % W0) := ey1.trans (pk_rem (by omega) (by omega) (by omega))
  subst ey1
  refine lv_iload_n hx hb d_md_isBeside_6 rfl (lv_at hl 2 rfl) ?_
  refine lv_aload_n hx hb d_md_isBeside_7 rfl (lv_at hl 0 rfl) ?_
  refine gf_md_7 hx hb hg hown hK hP 0 rfl rfl d_md_isBeside_8 ?_
  refine lv_irem hx hb d_md_isBeside_11 (show ¬ nI W0 = 0 from nI_ne0 (by omega) (by omega)) ?_
  refine lv_topi (fun y2 ey2 => ?_)
  have ey2 : y2 = nI (b % W0) := ey2.trans (pk_rem (by omega) (by omega) (by omega))
  subst ey2
  refine lv_isub hx hb d_md_isBeside_12 ?_
  refine lv_topi (fun x3 ex3 => ?_)
  refine lv_istore_n hx hb d_md_isBeside_13 rfl hl (by decide) rfl (fun ls hl => ?_)
  have hl : lv_has ls 5 [(3, .int x3), (0, .ref na), (1, .int (nI a)), (2, .int (nI b))] := hl
  refine lv_iload_n hx hb d_md_isBeside_14 rfl (lv_at hl 2 rfl) ?_
  refine lv_aload_n hx hb d_md_isBeside_15 rfl (lv_at hl 1 rfl) ?_
  refine gf_md_7 hx hb hg hown hK hP 0 rfl rfl d_md_isBeside_16 ?_
  refine lv_idiv hx hb d_md_isBeside_19 (show ¬ nI W0 = 0 from nI_ne0 (by omega) (by omega)) ?_
  refine lv_topi (fun y4 ey4 => ?_)
  have ey4 : y4 = nI (a / W0) := ey4.trans (pk_div (by omega) (by omega) (by omega))
  subst ey4
  refine lv_iload_n hx hb d_md_isBeside_20 rfl (lv_at hl 3 rfl) ?_
  refine lv_aload_n hx hb d_md_isBeside_21 rfl (lv_at hl 1 rfl) ?_
  refine gf_md_7 hx hb hg hown hK hP 0 rfl rfl d_md_isBeside_22 ?_
  refine lv_idiv hx hb d_md_isBeside_25 (show ¬ nI W0 = 0 from nI_ne0 (by omega) (by omega)) ?_
  refine lv_topi (fun y5 ey5 => ?_)
  have ey5 : y5 = nI (b / W0) := ey5.trans (pk_div (by omega) (by omega) (by omega))
  subst ey5
  refine lv_isub hx hb d_md_isBeside_26 ?_
  refine lv_topi (fun x6 ex6 => ?_)
  refine lv_istore hx hb d_md_isBeside_27 hl (by decide) rfl (fun ls hl => ?_)
  have hl : lv_has ls 5 [(4, .int x6), (3, .int x3), (0, .ref na), (1, .int (nI a)), (2, .int (nI b))] := hl
  refine lv_iload_n hx hb d_md_isBeside_29 rfl (lv_at hl 1 rfl) ?_
  refine lv_iload_n hx hb d_md_isBeside_30 rfl (lv_at hl 1 rfl) ?_
  refine lv_imul hx hb d_md_isBeside_31 ?_
  refine lv_iload hx hb d_md_isBeside_32 (lv_at hl 0 rfl) ?_
  refine lv_iload hx hb d_md_isBeside_34 (lv_at hl 0 rfl) ?_
  refine lv_imul hx hb d_md_isBeside_36 ?_
  refine lv_iadd hx hb d_md_isBeside_37 ?_
  refine lv_iconst (v := 1) hx hb d_md_isBeside_38 (by decide) ?_
  refine lv_icmp_ne hx hb d_md_isBeside_39 rfl (fun g1 => ?_) (fun g1 => ?_)
  ·
    have g2 : ¬ mv_bs W0 a b := fun h => g1 (by subst_vars; exact (mv_bsE ha hb9).mpr h)
    refine lv_iconst (v := 0) hx hb d_md_isBeside_46 (by decide) ?_
    exact W.zret hx hb hr rfl (fun t ht _ => ⟨0, rfl, Or.inr ⟨rfl, g2⟩, ht.trans hH⟩) (fun _ h => absurd h List.not_mem_nil) d_md_isBeside_47
  ·
    have g2 : mv_bs W0 a b := (mv_bsE ha hb9).mp (by subst_vars; exact g1)
    refine lv_iconst (v := 1) hx hb d_md_isBeside_42 (by decide) ?_
    refine lv_goto hx hb d_md_isBeside_43 rfl ?_
    exact W.zret hx hb hr rfl (fun t ht _ => ⟨1, rfl, Or.inl ⟨rfl, g2⟩, ht.trans hH⟩) (fun _ h => absurd h List.not_mem_nil) d_md_isBeside_47

set_option maxHeartbeats 4000000 in
set_option maxRecDepth 100000 in
theorem c_md_clear (l : Launch) (D : va_G) (cZ cI cJ cII : ClassId) (na : Nat) (nwalls : Nat) (nstarts : Nat) (ngoals : Nat) (nlaid : Nat) (nisTold : Nat) (ncells : Nat) (nindex : Nat) (nnear : Nat) (nnearCount : Nat) (npay : Nat) (ndone : Nat) (npile : Nat) (nnow : Nat) (nthen : Nat) (nchoice : Nat) (nplan : Nat) (ncosts : Nat) (npaid : Nat) (nafter : Nat) (nfar : Nat) (nmany : Nat) (nnext : Nat) (vfree : Int32) (vtop : Int32) (vfound : Int32) (vlength : Int32) (vsort : Int32) (vwhen : Int32) (vone : Int32) (vtwo : Int32) (W0 : Nat) (H0 : Nat) (n : Nat) (wf : Nat → Int32) (sf : Nat → Int32) (gf : Nat → Int32) (sz : Nat) (hI : mv_I W0 H0 n wf sf gf vfound vlength) : Met l y_md_clear w_md_clear ({ frames := 0, cells := 0, slots := 0, locals := 0 }) (va_Pc [.ref na] (mt_B D [(cZ, .boolean), (cI, .int), (cJ, .long), (cII, .array .int)] [(na, .inr (7, [.int (nI W0), .int (nI H0), .ref nwalls, .int (nI n), .ref nstarts, .ref ngoals, .ref nlaid, .ref nisTold, .int vfree, .ref ncells, .ref nindex, .ref nnear, .ref nnearCount, .ref npay, .ref ndone, .ref npile, .int vtop, .ref nnow, .ref nthen, .ref nchoice, .int vfound, .int vlength, .ref nplan, .ref ncosts, .ref npaid, .ref nafter, .ref nfar, .ref nmany, .ref nnext, .int vsort, .int vwhen, .int vone, .int vtwo]))] sz)) ((fun A => va_Qi (fun (r : Int32) (u : Unit) => (r = nI n) ∧ (mv_I W0 H0 0 wf sf gf 0 vlength)) (fun (u : Unit) (t : State) => mt_O D A [(na, .inr (7, [.int (nI W0), .int (nI H0), .ref nwalls, .int 0, .ref nstarts, .ref ngoals, .ref nlaid, .ref nisTold, .int vfree, .ref ncells, .ref nindex, .ref nnear, .ref nnearCount, .ref npay, .ref ndone, .ref npile, .int vtop, .ref nnow, .ref nthen, .ref nchoice, .int 0, .int vlength, .ref nplan, .ref ncosts, .ref npaid, .ref nafter, .ref nfar, .ref nmany, .ref nnext, .int vsort, .int vwhen, .int vone, .int vtwo]))] t) A) (va_A [(na, .inr (7, [.int (nI W0), .int (nI H0), .ref nwalls, .int (nI n), .ref nstarts, .ref ngoals, .ref nlaid, .ref nisTold, .int vfree, .ref ncells, .ref nindex, .ref nnear, .ref nnearCount, .ref npay, .ref ndone, .ref npile, .int vtop, .ref nnow, .ref nthen, .ref nchoice, .int vfound, .int vlength, .ref nplan, .ref ncosts, .ref npaid, .ref nafter, .ref nfar, .ref nmany, .ref nnext, .int vsort, .int vwhen, .int vone, .int vtwo]))] sz)) 0 0 (va_A [(na, .inr (7, [.int (nI W0), .int (nI H0), .ref nwalls, .int (nI n), .ref nstarts, .ref ngoals, .ref nlaid, .ref nisTold, .int vfree, .ref ncells, .ref nindex, .ref nnear, .ref nnearCount, .ref npay, .ref ndone, .ref npile, .int vtop, .ref nnow, .ref nthen, .ref nchoice, .int vfound, .int vlength, .ref nplan, .ref ncosts, .ref npaid, .ref nafter, .ref nfar, .ref nmany, .ref nnext, .int vsort, .int vwhen, .int vone, .int vtwo]))] sz) := by
  refine mt_of (y := y_md_clear) (n := 2) (av := [.ref na]) (QF := (fun A => va_Qi (fun (r : Int32) (u : Unit) => (r = nI n) ∧ (mv_I W0 H0 0 wf sf gf 0 vlength)) (fun (u : Unit) (t : State) => mt_O D A [(na, .inr (7, [.int (nI W0), .int (nI H0), .ref nwalls, .int 0, .ref nstarts, .ref ngoals, .ref nlaid, .ref nisTold, .int vfree, .ref ncells, .ref nindex, .ref nnear, .ref nnearCount, .ref npay, .ref ndone, .ref npile, .int vtop, .ref nnow, .ref nthen, .ref nchoice, .int 0, .int vlength, .ref nplan, .ref ncosts, .ref npaid, .ref nafter, .ref nfar, .ref nmany, .ref nnext, .int vsort, .int vwhen, .int vone, .int vtwo]))] t) A)) (by decide) (Nat.le_of_ble_eq_true rfl) ?_
  intro p e s m below meth c ls A hx hb hr hlk hml hown hnm hg hl hX hP hK hD hA hS
  obtain ⟨H, hH⟩ : ∃ H : Heap, H = s.heap := ⟨_, rfl⟩
  have hS : va_S A s.heap H [] := by rw [hH]; exact va_S.rf
  rw [← hH] at hP ⊢
  have hown : s.vm.findClass R_md = some m.cls := hown
  have hl : lv_has ls 2 [(0, .ref na)] := hl
  refine lv_aload_n hx hb d_md_clear_0 rfl (lv_at hl 0 rfl) ?_
  refine gf_md_86 hx hb hg hown hK hP 0 rfl rfl d_md_clear_1 ?_
  refine lv_istore_n hx hb d_md_clear_4 rfl hl (by decide) rfl (fun ls hl => ?_)
  have hl : lv_has ls 2 [(1, .int (nI n)), (0, .ref na)] := hl
  refine lv_aload_n hx hb d_md_clear_5 rfl (lv_at hl 1 rfl) ?_
  refine lv_iconst (v := 0) hx hb d_md_clear_6 (by decide) ?_
  refine pf_md_86 hx hb hg hown hK hP hD hS 0 rfl rfl rfl (Nat.le_of_ble_eq_true rfl) d_md_clear_7 (fun H locs hP hD hS => ?_)
  have hP : va_P D kls [(na, .inr (7, [.int (nI W0), .int (nI H0), .ref nwalls, .int 0, .ref nstarts, .ref ngoals, .ref nlaid, .ref nisTold, .int vfree, .ref ncells, .ref nindex, .ref nnear, .ref nnearCount, .ref npay, .ref ndone, .ref npile, .int vtop, .ref nnow, .ref nthen, .ref nchoice, .int vfound, .int vlength, .ref nplan, .ref ncosts, .ref npaid, .ref nafter, .ref nfar, .ref nmany, .ref nnext, .int vsort, .int vwhen, .int vone, .int vtwo]))] H := hP
  have hD : va_D A [(na, .inr (7, [.int (nI W0), .int (nI H0), .ref nwalls, .int 0, .ref nstarts, .ref ngoals, .ref nlaid, .ref nisTold, .int vfree, .ref ncells, .ref nindex, .ref nnear, .ref nnearCount, .ref npay, .ref ndone, .ref npile, .int vtop, .ref nnow, .ref nthen, .ref nchoice, .int vfound, .int vlength, .ref nplan, .ref ncosts, .ref npaid, .ref nafter, .ref nfar, .ref nmany, .ref nnext, .int vsort, .int vwhen, .int vone, .int vtwo]))] := hD
  refine lv_aload_n hx hb d_md_clear_10 rfl (lv_at hl 1 rfl) ?_
  refine lv_iconst (v := 0) hx hb d_md_clear_11 (by decide) ?_
  refine pf_md_89 hx hb hg hown hK hP hD hS 0 rfl rfl rfl (Nat.le_of_ble_eq_true rfl) d_md_clear_12 (fun H locs hP hD hS => ?_)
  have hP : va_P D kls [(na, .inr (7, [.int (nI W0), .int (nI H0), .ref nwalls, .int 0, .ref nstarts, .ref ngoals, .ref nlaid, .ref nisTold, .int vfree, .ref ncells, .ref nindex, .ref nnear, .ref nnearCount, .ref npay, .ref ndone, .ref npile, .int vtop, .ref nnow, .ref nthen, .ref nchoice, .int 0, .int vlength, .ref nplan, .ref ncosts, .ref npaid, .ref nafter, .ref nfar, .ref nmany, .ref nnext, .int vsort, .int vwhen, .int vone, .int vtwo]))] H := hP
  have hD : va_D A [(na, .inr (7, [.int (nI W0), .int (nI H0), .ref nwalls, .int 0, .ref nstarts, .ref ngoals, .ref nlaid, .ref nisTold, .int vfree, .ref ncells, .ref nindex, .ref nnear, .ref nnearCount, .ref npay, .ref ndone, .ref npile, .int vtop, .ref nnow, .ref nthen, .ref nchoice, .int 0, .int vlength, .ref nplan, .ref ncosts, .ref npaid, .ref nafter, .ref nfar, .ref nmany, .ref nnext, .int vsort, .int vwhen, .int vone, .int vtwo]))] := hD
  refine lv_iload_n hx hb d_md_clear_15 rfl (lv_at hl 0 rfl) ?_
  have hP9 := hP
  have hD9 := hD
  exact W.iret hx hb hr (fun t ht hW => ⟨⟨nI n, (), rfl, ⟨rfl, mv_I0 hI.1⟩, by rw [ht]; exact hP9, hD9⟩, hS.F ht⟩) hS.2.2 d_md_clear_16
