set_option maxHeartbeats 4000000 in
set_option maxRecDepth 100000 in
theorem c_fl_addStep (l : Launch) (D : va_G) (cZ cI cJ cII : ClassId) (fa : Nat) (fw : Int32) (fh : Int32) (wa : Nat) (fc : Int32) (ra : Nat) (sa : Nat) (ta : Nat) (wf : Nat → Int32) (rf : Nat → Int32) (sf : Nat → Int32) (rr : Nat → Nat) (re : Nat → va_E) (k : Nat) (j : Nat) (y : Int32) (sz : Nat) (hb25 : ∀ x : Int32, ¬ x < 0 → ¬ fw * fh ≤ x → vp_in x 25) (hk : k < 25) (hsj : sf k = nI j) (hj : j < 5) (hre : mt_r5 cI re) : Met l y_fl_addStep w_fl_addStep ({ frames := 2, cells := 0, slots := 0, locals := 80 }) (va_Pc [.ref fa, .int (nI k), .int y] (mt_B D [(cZ, .boolean), (cI, .int), (cJ, .long), (cII, .array .int)] ([(fa, .inr (1, [.int fw, .int fh, .ref wa, .int fc, .ref ra, .ref sa, .ref ta])), (wa, .inl (cZ, 25, .inl wf)), (ra, .inl (cI, 25, .inl rf)), (sa, .inl (cI, 25, .inl sf)), (ta, .inl (cII, 25, .inr (.inr (.inr (.inr (fun i => if i < 25 then some (rr i) else none))))))] ++ mt_rw 25 rr re) sz)) ((fun A => va_Qv (fun (u : (Nat → Int32) × (Nat → va_E)) => ((¬ y < 0 ∧ ¬ fw * fh ≤ y ∧ wf y.toNatClampNeg = 0) ∧ (u.1) = upd sf k (nI (j + 1)) ∧ ∃ f : Nat → Int32, re k = .inl (cI, 5, .inl f) ∧ (u.2) = va_up re k (.inl (cI, 5, .inl (upd f j y)))) ∨ ((y < 0 ∨ fw * fh ≤ y ∨ ¬ wf y.toNatClampNeg = 0) ∧ (u.1) = sf ∧ (u.2) = re)) (fun (u : (Nat → Int32) × (Nat → va_E)) (t : State) => mt_O D A ([(fa, .inr (1, [.int fw, .int fh, .ref wa, .int fc, .ref ra, .ref sa, .ref ta])), (wa, .inl (cZ, 25, .inl wf)), (ra, .inl (cI, 25, .inl rf)), (sa, .inl (cI, 25, .inl (u.1))), (ta, .inl (cII, 25, .inr (.inr (.inr (.inr (fun i => if i < 25 then some (rr i) else none))))))] ++ mt_rw 25 rr (u.2)) t) A) (va_A ([(fa, .inr (1, [.int fw, .int fh, .ref wa, .int fc, .ref ra, .ref sa, .ref ta])), (wa, .inl (cZ, 25, .inl wf)), (ra, .inl (cI, 25, .inl rf)), (sa, .inl (cI, 25, .inl sf)), (ta, .inl (cII, 25, .inr (.inr (.inr (.inr (fun i => if i < 25 then some (rr i) else none))))))] ++ mt_rw 25 rr re) sz)) 0 0 (va_A ([(fa, .inr (1, [.int fw, .int fh, .ref wa, .int fc, .ref ra, .ref sa, .ref ta])), (wa, .inl (cZ, 25, .inl wf)), (ra, .inl (cI, 25, .inl rf)), (sa, .inl (cI, 25, .inl sf)), (ta, .inl (cII, 25, .inr (.inr (.inr (.inr (fun i => if i < 25 then some (rr i) else none))))))] ++ mt_rw 25 rr re) sz) := by
  refine mt_of (y := y_fl_addStep) (n := 3) (av := [.ref fa, .int (nI k), .int y]) (QF := (fun A => va_Qv (fun (u : (Nat → Int32) × (Nat → va_E)) => ((¬ y < 0 ∧ ¬ fw * fh ≤ y ∧ wf y.toNatClampNeg = 0) ∧ (u.1) = upd sf k (nI (j + 1)) ∧ ∃ f : Nat → Int32, re k = .inl (cI, 5, .inl f) ∧ (u.2) = va_up re k (.inl (cI, 5, .inl (upd f j y)))) ∨ ((y < 0 ∨ fw * fh ≤ y ∨ ¬ wf y.toNatClampNeg = 0) ∧ (u.1) = sf ∧ (u.2) = re)) (fun (u : (Nat → Int32) × (Nat → va_E)) (t : State) => mt_O D A ([(fa, .inr (1, [.int fw, .int fh, .ref wa, .int fc, .ref ra, .ref sa, .ref ta])), (wa, .inl (cZ, 25, .inl wf)), (ra, .inl (cI, 25, .inl rf)), (sa, .inl (cI, 25, .inl (u.1))), (ta, .inl (cII, 25, .inr (.inr (.inr (.inr (fun i => if i < 25 then some (rr i) else none))))))] ++ mt_rw 25 rr (u.2)) t) A)) (by decide) (Nat.le_of_ble_eq_true rfl) ?_
  intro p e s m below meth c ls A hx hb hr hlk hml hown hnm hg hl hX hP hK hD hA hS
  obtain ⟨H, hH⟩ : ∃ H : Heap, H = s.heap := ⟨_, rfl⟩
  have hS : va_S A s.heap H [] := by rw [hH]; exact va_S.rf
  rw [← hH] at hP ⊢
  have hown : s.vm.findClass R_fl = some m.cls := hown
  have hl : lv_has ls 3 [(0, .ref fa), (1, .int (nI k)), (2, .int y)] := hl
  refine lv_aload_n hx hb d_fl_addStep_0 rfl (lv_at hl 0 rfl) ?_
  refine lv_iload_n hx hb d_fl_addStep_1 rfl (lv_at hl 2 rfl) ?_
  have hPc := hP.sub (ws' := [(fa, .inr (1, [.int fw, .int fh, .ref wa, .int fc, .ref ra, .ref sa, .ref ta])), (wa, .inl (cZ, 25, .inl wf))]) [0, 1] rfl
  have hDc := hD.sub (ws' := [(fa, .inr (1, [.int fw, .int fh, .ref wa, .int fc, .ref ra, .ref sa, .ref ta])), (wa, .inl (cZ, 25, .inl wf))]) [0, 1] (by decide) rfl
  refine vp_callSi (W.runV (As := [.int y]) (rest := []) ⟨hx, hb, hml, hown, hg⟩ (c_fl_isFree l D cZ cI cJ cII fa fw fh wa fc ra sa ta wf y H.size hb25) (cwV 1 hg gv_fl_45 rfl rfl rfl (by decide +kernel) ⟨Nat.le_of_ble_eq_true rfl, Nat.le_of_ble_eq_true rfl⟩) ⟨mt_bl, va_recv (q0 := 0) (ci := 1) hK hP rfl rfl, mt_pr hX hPc hK hDc⟩ rfl rfl hl.1 rfl (lv_room (Nat.le_of_ble_eq_true rfl)) d_fl_addStep_2 ⟨Nat.le_of_ble_eq_true rfl, Nat.le_of_ble_eq_true rfl⟩) (fun r1 hr1 => ?_)
  have hr1 : (r1 = 1 ∧ ¬ y < 0 ∧ ¬ fw * fh ≤ y ∧ wf y.toNatClampNeg = 0) ∨ (r1 = 0 ∧ (y < 0 ∨ fw * fh ≤ y ∨ ¬ wf y.toNatClampNeg = 0)) := hr1
  refine lv_if_eq hx hb d_fl_addStep_5 rfl (fun g1 => ?_) (fun g1 => ?_)
  ·
    have hP9 := hP
    have hD9 := hD
    exact W.vret hx hb hr (fun t ht hW => ⟨⟨(sf, re), rfl, Or.inr ⟨hr1.elim (fun q => absurd (q.1.symm.trans g1) (by decide)) (fun q => q.2), rfl, rfl⟩, by rw [ht]; exact hP9, hD9⟩, hS.F ht⟩) hS.2.2 d_fl_addStep_32
  ·
    refine lv_aload_n hx hb d_fl_addStep_8 rfl (lv_at hl 0 rfl) ?_
    refine gf_fl_24 hx hb hg hown hK hP 0 rfl rfl d_fl_addStep_9 ?_
    refine lv_iload_n hx hb d_fl_addStep_12 rfl (lv_at hl 1 rfl) ?_
    refine mt_aald hx hb hK hP 4 3 rfl rfl (vp_in_nI hk (by decide)) (by show (if (nI k).toNatClampNeg < 25 then some (rr (nI k).toNatClampNeg) else none) = some (rr k); rw [nI_clamp (show k < 2 ^ 31 by omega), if_pos hk]) d_fl_addStep_13 ?_
    refine lv_aload_n hx hb d_fl_addStep_14 rfl (lv_at hl 0 rfl) ?_
    refine gf_fl_19 hx hb hg hown hK hP 0 rfl rfl d_fl_addStep_15 ?_
    refine lv_iload_n hx hb d_fl_addStep_18 rfl (lv_at hl 1 rfl) ?_
    refine va_iald hx hb hK hP 3 1 rfl rfl (vp_in_nI hk (by decide)) d_fl_addStep_19 ?_
    refine lv_topi (fun y2 ey2 => ?_)
    have ey2 : y2 = nI j := ey2.trans (by rw [nI_clamp (show k < 2 ^ 31 by omega)]; exact hsj)
    subst ey2
    refine lv_iload_n hx hb d_fl_addStep_20 rfl (lv_at hl 2 rfl) ?_
    obtain ⟨f9, hf9⟩ := hre k hk
    refine va_iast hx hb hK hP hD hS (5 + k) 1 ((mt_rw_at rfl hk).trans (by rw [hf9])) rfl (vp_in_nI hj (by decide)) d_fl_addStep_21 (fun H locs hP hD hS => ?_)
    rw [mt_rw_set (x := 5) rfl, nI_clamp (show j < 2 ^ 31 by omega)] at hP hD
    have hP : va_P D kls ([(fa, .inr (1, [.int fw, .int fh, .ref wa, .int fc, .ref ra, .ref sa, .ref ta])), (wa, .inl (cZ, 25, .inl wf)), (ra, .inl (cI, 25, .inl rf)), (sa, .inl (cI, 25, .inl sf)), (ta, .inl (cII, 25, .inr (.inr (.inr (.inr (fun i => if i < 25 then some (rr i) else none))))))] ++ mt_rw 25 rr (va_up re k (.inl (cI, 5, .inl (upd f9 j y))))) H := hP
    have hD : va_D A ([(fa, .inr (1, [.int fw, .int fh, .ref wa, .int fc, .ref ra, .ref sa, .ref ta])), (wa, .inl (cZ, 25, .inl wf)), (ra, .inl (cI, 25, .inl rf)), (sa, .inl (cI, 25, .inl sf)), (ta, .inl (cII, 25, .inr (.inr (.inr (.inr (fun i => if i < 25 then some (rr i) else none))))))] ++ mt_rw 25 rr (va_up re k (.inl (cI, 5, .inl (upd f9 j y))))) := hD
    refine lv_aload_n hx hb d_fl_addStep_22 rfl (lv_at hl 0 rfl) ?_
    refine gf_fl_19 hx hb hg hown hK hP 0 rfl rfl d_fl_addStep_23 ?_
    refine lv_iload_n hx hb d_fl_addStep_26 rfl (lv_at hl 1 rfl) ?_
    refine lv_dup2_11 hx hb d_fl_addStep_27 rfl rfl ?_
    refine va_iald hx hb hK hP 3 1 rfl rfl (vp_in_nI hk (by decide)) d_fl_addStep_28 ?_
    refine lv_topi (fun y3 ey3 => ?_)
    have ey3 : y3 = nI j := ey3.trans (by rw [nI_clamp (show k < 2 ^ 31 by omega)]; exact hsj)
    subst ey3
    refine lv_iconst (v := 1) hx hb d_fl_addStep_29 (by decide) ?_
    refine lv_iadd hx hb d_fl_addStep_30 ?_
    refine lv_topi (fun y4 ey4 => ?_)
    have ey4 : y4 = nI (j + 1) := ey4.trans ((nI_succ j).symm)
    subst ey4
    refine va_iast hx hb hK hP hD hS 3 1 rfl rfl (vp_in_nI hk (by decide)) d_fl_addStep_31 (fun H locs hP hD hS => ?_)
    rw [nI_clamp (show k < 2 ^ 31 by omega)] at hP hD
    have hP : va_P D kls ([(fa, .inr (1, [.int fw, .int fh, .ref wa, .int fc, .ref ra, .ref sa, .ref ta])), (wa, .inl (cZ, 25, .inl wf)), (ra, .inl (cI, 25, .inl rf)), (sa, .inl (cI, 25, .inl (upd sf k (nI (j + 1))))), (ta, .inl (cII, 25, .inr (.inr (.inr (.inr (fun i => if i < 25 then some (rr i) else none))))))] ++ mt_rw 25 rr (va_up re k (.inl (cI, 5, .inl (upd f9 j y))))) H := hP
    have hD : va_D A ([(fa, .inr (1, [.int fw, .int fh, .ref wa, .int fc, .ref ra, .ref sa, .ref ta])), (wa, .inl (cZ, 25, .inl wf)), (ra, .inl (cI, 25, .inl rf)), (sa, .inl (cI, 25, .inl (upd sf k (nI (j + 1))))), (ta, .inl (cII, 25, .inr (.inr (.inr (.inr (fun i => if i < 25 then some (rr i) else none))))))] ++ mt_rw 25 rr (va_up re k (.inl (cI, 5, .inl (upd f9 j y))))) := hD
    have hP9 := hP
    have hD9 := hD
    exact W.vret hx hb hr (fun t ht hW => ⟨⟨(upd sf k (nI (j + 1)), va_up re k (.inl (cI, 5, .inl (upd f9 j y)))), rfl, Or.inl ⟨hr1.elim (fun q => q.2) (fun q => absurd q.1 g1), rfl, f9, hf9, rfl⟩, by rw [ht]; exact hP9, hD9⟩, hS.F ht⟩) hS.2.2 d_fl_addStep_32

set_option maxHeartbeats 4000000 in
set_option maxRecDepth 100000 in
theorem c_fl_chartCell (l : Launch) (D : va_G) (cZ cI cJ cII : ClassId) (fa : Nat) (fw : Int32) (fh : Int32) (wa : Nat) (fc : Int32) (ra : Nat) (sa : Nat) (ta : Nat) (wf : Nat → Int32) (rf : Nat → Int32) (sf : Nat → Int32) (rr : Nat → Nat) (re : Nat → va_E) (x : Int32) (k : Nat) (sz : Nat) (hb25 : ∀ x : Int32, ¬ x < 0 → ¬ fw * fh ≤ x → vp_in x 25) (hk : k < 25) (hre : mt_r5 cI re) : Met l y_fl_chartCell w_fl_chartCell ({ frames := 3, cells := 0, slots := 0, locals := 120 }) (va_Pc [.ref fa, .int x, .int (nI k)] (mt_B D [(cZ, .boolean), (cI, .int), (cJ, .long), (cII, .array .int)] ([(fa, .inr (1, [.int fw, .int fh, .ref wa, .int fc, .ref ra, .ref sa, .ref ta])), (wa, .inl (cZ, 25, .inl wf)), (ra, .inl (cI, 25, .inl rf)), (sa, .inl (cI, 25, .inl sf)), (ta, .inl (cII, 25, .inr (.inr (.inr (.inr (fun i => if i < 25 then some (rr i) else none))))))] ++ mt_rw 25 rr re) sz)) ((fun A => va_Qv (fun (u : Int32 × (Nat → Int32) × (Nat → Int32) × (Nat → va_E)) => mt_r5 cI (u.2.2.2)) (fun (u : Int32 × (Nat → Int32) × (Nat → Int32) × (Nat → va_E)) (t : State) => mt_O D A ([(fa, .inr (1, [.int fw, .int fh, .ref wa, .int (u.1), .ref ra, .ref sa, .ref ta])), (wa, .inl (cZ, 25, .inl wf)), (ra, .inl (cI, 25, .inl (u.2.1))), (sa, .inl (cI, 25, .inl (u.2.2.1))), (ta, .inl (cII, 25, .inr (.inr (.inr (.inr (fun i => if i < 25 then some (rr i) else none))))))] ++ mt_rw 25 rr (u.2.2.2)) t) A) (va_A ([(fa, .inr (1, [.int fw, .int fh, .ref wa, .int fc, .ref ra, .ref sa, .ref ta])), (wa, .inl (cZ, 25, .inl wf)), (ra, .inl (cI, 25, .inl rf)), (sa, .inl (cI, 25, .inl sf)), (ta, .inl (cII, 25, .inr (.inr (.inr (.inr (fun i => if i < 25 then some (rr i) else none))))))] ++ mt_rw 25 rr re) sz)) 0 0 (va_A ([(fa, .inr (1, [.int fw, .int fh, .ref wa, .int fc, .ref ra, .ref sa, .ref ta])), (wa, .inl (cZ, 25, .inl wf)), (ra, .inl (cI, 25, .inl rf)), (sa, .inl (cI, 25, .inl sf)), (ta, .inl (cII, 25, .inr (.inr (.inr (.inr (fun i => if i < 25 then some (rr i) else none))))))] ++ mt_rw 25 rr re) sz) := by
  refine mt_of (y := y_fl_chartCell) (n := 3) (av := [.ref fa, .int x, .int (nI k)]) (QF := (fun A => va_Qv (fun (u : Int32 × (Nat → Int32) × (Nat → Int32) × (Nat → va_E)) => mt_r5 cI (u.2.2.2)) (fun (u : Int32 × (Nat → Int32) × (Nat → Int32) × (Nat → va_E)) (t : State) => mt_O D A ([(fa, .inr (1, [.int fw, .int fh, .ref wa, .int (u.1), .ref ra, .ref sa, .ref ta])), (wa, .inl (cZ, 25, .inl wf)), (ra, .inl (cI, 25, .inl (u.2.1))), (sa, .inl (cI, 25, .inl (u.2.2.1))), (ta, .inl (cII, 25, .inr (.inr (.inr (.inr (fun i => if i < 25 then some (rr i) else none))))))] ++ mt_rw 25 rr (u.2.2.2)) t) A)) (by decide) (Nat.le_of_ble_eq_true rfl) ?_
  intro p e s m below meth c ls A hx hb hr hlk hml hown hnm hg hl hX hP hK hD hA hS
  obtain ⟨H, hH⟩ : ∃ H : Heap, H = s.heap := ⟨_, rfl⟩
  have hS : va_S A s.heap H [] := by rw [hH]; exact va_S.rf
  rw [← hH] at hP ⊢
  have hown : s.vm.findClass R_fl = some m.cls := hown
  have hl : lv_has ls 3 [(0, .ref fa), (1, .int x), (2, .int (nI k))] := hl
  refine lv_aload_n hx hb d_fl_chartCell_0 rfl (lv_at hl 0 rfl) ?_
  refine gf_fl_15 hx hb hg hown hK hP 0 rfl rfl d_fl_chartCell_1 ?_
  refine lv_iload_n hx hb d_fl_chartCell_4 rfl (lv_at hl 2 rfl) ?_
  refine lv_aload_n hx hb d_fl_chartCell_5 rfl (lv_at hl 0 rfl) ?_
  refine gf_fl_48 hx hb hg hown hK hP 0 rfl rfl d_fl_chartCell_6 ?_
  refine va_iast hx hb hK hP hD hS 2 1 rfl rfl (vp_in_nI hk (by decide)) d_fl_chartCell_9 (fun H locs hP hD hS => ?_)
  rw [nI_clamp (show k < 2 ^ 31 by omega)] at hP hD
  have hP : va_P D kls ([(fa, .inr (1, [.int fw, .int fh, .ref wa, .int fc, .ref ra, .ref sa, .ref ta])), (wa, .inl (cZ, 25, .inl wf)), (ra, .inl (cI, 25, .inl (upd rf k fc))), (sa, .inl (cI, 25, .inl sf)), (ta, .inl (cII, 25, .inr (.inr (.inr (.inr (fun i => if i < 25 then some (rr i) else none))))))] ++ mt_rw 25 rr re) H := hP
  have hD : va_D A ([(fa, .inr (1, [.int fw, .int fh, .ref wa, .int fc, .ref ra, .ref sa, .ref ta])), (wa, .inl (cZ, 25, .inl wf)), (ra, .inl (cI, 25, .inl (upd rf k fc))), (sa, .inl (cI, 25, .inl sf)), (ta, .inl (cII, 25, .inr (.inr (.inr (.inr (fun i => if i < 25 then some (rr i) else none))))))] ++ mt_rw 25 rr re) := hD
  refine lv_aload_n hx hb d_fl_chartCell_10 rfl (lv_at hl 0 rfl) ?_
  refine gf_fl_19 hx hb hg hown hK hP 0 rfl rfl d_fl_chartCell_11 ?_
  refine lv_iload_n hx hb d_fl_chartCell_14 rfl (lv_at hl 2 rfl) ?_
  refine lv_iconst (v := 0) hx hb d_fl_chartCell_15 (by decide) ?_
  refine va_iast hx hb hK hP hD hS 3 1 rfl rfl (vp_in_nI hk (by decide)) d_fl_chartCell_16 (fun H locs hP hD hS => ?_)
  rw [nI_clamp (show k < 2 ^ 31 by omega)] at hP hD
  have hP : va_P D kls ([(fa, .inr (1, [.int fw, .int fh, .ref wa, .int fc, .ref ra, .ref sa, .ref ta])), (wa, .inl (cZ, 25, .inl wf)), (ra, .inl (cI, 25, .inl (upd rf k fc))), (sa, .inl (cI, 25, .inl (upd sf k 0))), (ta, .inl (cII, 25, .inr (.inr (.inr (.inr (fun i => if i < 25 then some (rr i) else none))))))] ++ mt_rw 25 rr re) H := hP
  have hD : va_D A ([(fa, .inr (1, [.int fw, .int fh, .ref wa, .int fc, .ref ra, .ref sa, .ref ta])), (wa, .inl (cZ, 25, .inl wf)), (ra, .inl (cI, 25, .inl (upd rf k fc))), (sa, .inl (cI, 25, .inl (upd sf k 0))), (ta, .inl (cII, 25, .inr (.inr (.inr (.inr (fun i => if i < 25 then some (rr i) else none))))))] ++ mt_rw 25 rr re) := hD
  refine lv_aload_n hx hb d_fl_chartCell_17 rfl (lv_at hl 0 rfl) ?_
  refine gf_fl_9 hx hb hg hown hK hP 0 rfl rfl d_fl_chartCell_18 ?_
  refine lv_iload_n hx hb d_fl_chartCell_21 rfl (lv_at hl 2 rfl) ?_
  refine va_zald hx hb hK hP 1 0 rfl rfl (vp_in_nI hk (by decide)) d_fl_chartCell_22 ?_
  refine lv_if_eq hx hb d_fl_chartCell_23 rfl (fun g1 => ?_) (fun g1 => ?_)
  ·
    refine lv_aload_n hx hb d_fl_chartCell_27 rfl (lv_at hl 0 rfl) ?_
    refine lv_dup hx hb d_fl_chartCell_28 rfl ?_
    refine gf_fl_48 hx hb hg hown hK hP 0 rfl rfl d_fl_chartCell_29 ?_
    refine lv_iconst (v := 1) hx hb d_fl_chartCell_32 (by decide) ?_
    refine lv_iadd hx hb d_fl_chartCell_33 ?_
    refine lv_topi (fun x1 ex1 => ?_)
    refine pf_fl_48 hx hb hg hown hK hP hD hS 0 rfl rfl rfl (Nat.le_of_ble_eq_true rfl) d_fl_chartCell_34 (fun H locs hP hD hS => ?_)
    have hP : va_P D kls ([(fa, .inr (1, [.int fw, .int fh, .ref wa, .int x1, .ref ra, .ref sa, .ref ta])), (wa, .inl (cZ, 25, .inl wf)), (ra, .inl (cI, 25, .inl (upd rf k fc))), (sa, .inl (cI, 25, .inl (upd sf k 0))), (ta, .inl (cII, 25, .inr (.inr (.inr (.inr (fun i => if i < 25 then some (rr i) else none))))))] ++ mt_rw 25 rr re) H := hP
    have hD : va_D A ([(fa, .inr (1, [.int fw, .int fh, .ref wa, .int x1, .ref ra, .ref sa, .ref ta])), (wa, .inl (cZ, 25, .inl wf)), (ra, .inl (cI, 25, .inl (upd rf k fc))), (sa, .inl (cI, 25, .inl (upd sf k 0))), (ta, .inl (cII, 25, .inr (.inr (.inr (.inr (fun i => if i < 25 then some (rr i) else none))))))] ++ mt_rw 25 rr re) := hD
    refine lv_aload_n hx hb d_fl_chartCell_37 rfl (lv_at hl 0 rfl) ?_
    refine lv_iload_n hx hb d_fl_chartCell_38 rfl (lv_at hl 2 rfl) ?_
    refine lv_iload_n hx hb d_fl_chartCell_39 rfl (lv_at hl 2 rfl) ?_
    refine lv_aload_n hx hb d_fl_chartCell_40 rfl (lv_at hl 0 rfl) ?_
    refine gf_fl_31 hx hb hg hown hK hP 0 rfl rfl d_fl_chartCell_41 ?_
    refine lv_isub hx hb d_fl_chartCell_44 ?_
    have hPc := hP
    have hDc := hD
    have hFc := mt_whole hD hS hA
    refine va_callv (va_runV (As := [.int (nI k), .int ((nI k) - fw)]) (rest := []) ⟨hx, hb, hml, hown, hg⟩ (c_fl_addStep l D cZ cI cJ cII fa fw fh wa x1 ra sa ta wf (upd rf k fc) (upd sf k 0) rr re k 0 ((nI k) - fw) H.size hb25 hk (by rw [pk_us, nI_0]) (by omega) hre) (cwV 2 hg gv_fl_54 rfl rfl rfl (by decide +kernel) ⟨Nat.le_of_ble_eq_true rfl, Nat.le_of_ble_eq_true rfl⟩) ⟨mt_bl, va_recv (q0 := 0) (ci := 1) hK hP rfl rfl, mt_pr hX hPc hK hDc⟩ rfl rfl hl.1 rfl (lv_room (Nat.le_of_ble_eq_true rfl)) d_fl_chartCell_45 ⟨Nat.le_of_ble_eq_true rfl, Nat.le_of_ble_eq_true rfl⟩) hS (fun q _ h => hFc q h) hFc (fun u t H1 locs ht hvm hw hB hz1 hk1 hS => ?_)
    obtain ⟨sf13, re14⟩ := u
    have hr2 : ((¬ ((nI k) - fw) < 0 ∧ ¬ fw * fh ≤ ((nI k) - fw) ∧ wf ((nI k) - fw).toNatClampNeg = 0) ∧ sf13 = upd (upd sf k 0) k (nI ((0 : Nat) + 1)) ∧ ∃ f : Nat → Int32, re k = .inl (cI, 5, .inl f) ∧ re14 = va_up re k (.inl (cI, 5, .inl (upd f (0 : Nat) ((nI k) - fw))))) ∨ ((((nI k) - fw) < 0 ∨ fw * fh ≤ ((nI k) - fw) ∨ ¬ wf ((nI k) - fw).toNatClampNeg = 0) ∧ sf13 = (upd sf k 0) ∧ re14 = re) := hw
    obtain ⟨hP1, hD1⟩ := hB
    rw [ht] at hP1
    have hP := hP1
    have hD := hD1.weaken (fun _ _ _ h => hFc _ h)
    generalize H1 = H at hP hS ⊢
    have hP : va_P D kls ([(fa, .inr (1, [.int fw, .int fh, .ref wa, .int x1, .ref ra, .ref sa, .ref ta])), (wa, .inl (cZ, 25, .inl wf)), (ra, .inl (cI, 25, .inl (upd rf k fc))), (sa, .inl (cI, 25, .inl sf13)), (ta, .inl (cII, 25, .inr (.inr (.inr (.inr (fun i => if i < 25 then some (rr i) else none))))))] ++ mt_rw 25 rr re14) H := hP
    have hD : va_D A ([(fa, .inr (1, [.int fw, .int fh, .ref wa, .int x1, .ref ra, .ref sa, .ref ta])), (wa, .inl (cZ, 25, .inl wf)), (ra, .inl (cI, 25, .inl (upd rf k fc))), (sa, .inl (cI, 25, .inl sf13)), (ta, .inl (cII, 25, .inr (.inr (.inr (.inr (fun i => if i < 25 then some (rr i) else none))))))] ++ mt_rw 25 rr re14) := hD
    obtain ⟨⟨jj, hjj, hss⟩, hrr⟩ := mt_st hr2 (by rw [pk_us, nI_0]) hre
    refine lv_iload_n hx hb d_fl_chartCell_48 rfl (lv_at hl 1 rfl) ?_
    refine lv_if_le hx hb d_fl_chartCell_49 rfl (fun g2 => ?_) (fun g2 => ?_)
    ·
      refine lv_aload_n hx hb d_fl_chartCell_60 rfl (lv_at hl 0 rfl) ?_
      refine lv_iload_n hx hb d_fl_chartCell_61 rfl (lv_at hl 2 rfl) ?_
      refine lv_iload_n hx hb d_fl_chartCell_62 rfl (lv_at hl 2 rfl) ?_
      have hPc := hP
      have hDc := hD
      have hFc := mt_whole hD hS hA
      refine va_callv (va_runV (As := [.int (nI k), .int (nI k)]) (rest := []) ⟨hx, hb, hml, hown, hg⟩ (c_fl_addStep l D cZ cI cJ cII fa fw fh wa x1 ra sa ta wf (upd rf k fc) sf13 rr re14 k jj (nI k) H.size hb25 hk hss (by omega) hrr) (cwV 2 hg gv_fl_54 rfl rfl rfl (by decide +kernel) ⟨Nat.le_of_ble_eq_true rfl, Nat.le_of_ble_eq_true rfl⟩) ⟨mt_bl, va_recv (q0 := 0) (ci := 1) hK hP rfl rfl, mt_pr hX hPc hK hDc⟩ rfl rfl hl.1 rfl (lv_room (Nat.le_of_ble_eq_true rfl)) d_fl_chartCell_63 ⟨Nat.le_of_ble_eq_true rfl, Nat.le_of_ble_eq_true rfl⟩) hS (fun q _ h => hFc q h) hFc (fun u t H1 locs ht hvm hw hB hz1 hk1 hS => ?_)
      obtain ⟨sf16, re17⟩ := u
      have hr5 : ((¬ (nI k) < 0 ∧ ¬ fw * fh ≤ (nI k) ∧ wf (nI k).toNatClampNeg = 0) ∧ sf16 = upd sf13 k (nI (jj + 1)) ∧ ∃ f : Nat → Int32, re14 k = .inl (cI, 5, .inl f) ∧ re17 = va_up re14 k (.inl (cI, 5, .inl (upd f jj (nI k))))) ∨ (((nI k) < 0 ∨ fw * fh ≤ (nI k) ∨ ¬ wf (nI k).toNatClampNeg = 0) ∧ sf16 = sf13 ∧ re17 = re14) := hw
      obtain ⟨hP1, hD1⟩ := hB
      rw [ht] at hP1
      have hP := hP1
      have hD := hD1.weaken (fun _ _ _ h => hFc _ h)
      generalize H1 = H at hP hS ⊢
      have hP : va_P D kls ([(fa, .inr (1, [.int fw, .int fh, .ref wa, .int x1, .ref ra, .ref sa, .ref ta])), (wa, .inl (cZ, 25, .inl wf)), (ra, .inl (cI, 25, .inl (upd rf k fc))), (sa, .inl (cI, 25, .inl sf16)), (ta, .inl (cII, 25, .inr (.inr (.inr (.inr (fun i => if i < 25 then some (rr i) else none))))))] ++ mt_rw 25 rr re17) H := hP
      have hD : va_D A ([(fa, .inr (1, [.int fw, .int fh, .ref wa, .int x1, .ref ra, .ref sa, .ref ta])), (wa, .inl (cZ, 25, .inl wf)), (ra, .inl (cI, 25, .inl (upd rf k fc))), (sa, .inl (cI, 25, .inl sf16)), (ta, .inl (cII, 25, .inr (.inr (.inr (.inr (fun i => if i < 25 then some (rr i) else none))))))] ++ mt_rw 25 rr re17) := hD
      obtain ⟨⟨jj, hjj, hss⟩, hrr⟩ := mt_st hr5 hss hrr
      refine lv_iload_n hx hb d_fl_chartCell_66 rfl (lv_at hl 1 rfl) ?_
      refine lv_aload_n hx hb d_fl_chartCell_67 rfl (lv_at hl 0 rfl) ?_
      refine gf_fl_31 hx hb hg hown hK hP 0 rfl rfl d_fl_chartCell_68 ?_
      refine lv_iconst (v := 1) hx hb d_fl_chartCell_71 (by decide) ?_
      refine lv_isub hx hb d_fl_chartCell_72 ?_
      refine lv_icmp_ge hx hb d_fl_chartCell_73 rfl (fun g3 => ?_) (fun g3 => ?_)
      ·
        refine lv_aload_n hx hb d_fl_chartCell_84 rfl (lv_at hl 0 rfl) ?_
        refine lv_iload_n hx hb d_fl_chartCell_85 rfl (lv_at hl 2 rfl) ?_
        refine lv_iload_n hx hb d_fl_chartCell_86 rfl (lv_at hl 2 rfl) ?_
        refine lv_aload_n hx hb d_fl_chartCell_87 rfl (lv_at hl 0 rfl) ?_
        refine gf_fl_31 hx hb hg hown hK hP 0 rfl rfl d_fl_chartCell_88 ?_
        refine lv_iadd hx hb d_fl_chartCell_91 ?_
        have hPc := hP
        have hDc := hD
        have hFc := mt_whole hD hS hA
        refine va_callv (va_runV (As := [.int (nI k), .int ((nI k) + fw)]) (rest := []) ⟨hx, hb, hml, hown, hg⟩ (c_fl_addStep l D cZ cI cJ cII fa fw fh wa x1 ra sa ta wf (upd rf k fc) sf16 rr re17 k jj ((nI k) + fw) H.size hb25 hk hss (by omega) hrr) (cwV 2 hg gv_fl_54 rfl rfl rfl (by decide +kernel) ⟨Nat.le_of_ble_eq_true rfl, Nat.le_of_ble_eq_true rfl⟩) ⟨mt_bl, va_recv (q0 := 0) (ci := 1) hK hP rfl rfl, mt_pr hX hPc hK hDc⟩ rfl rfl hl.1 rfl (lv_room (Nat.le_of_ble_eq_true rfl)) d_fl_chartCell_92 ⟨Nat.le_of_ble_eq_true rfl, Nat.le_of_ble_eq_true rfl⟩) hS (fun q _ h => hFc q h) hFc (fun u t H1 locs ht hvm hw hB hz1 hk1 hS => ?_)
        obtain ⟨sf19, re110⟩ := u
        have hr8 : ((¬ ((nI k) + fw) < 0 ∧ ¬ fw * fh ≤ ((nI k) + fw) ∧ wf ((nI k) + fw).toNatClampNeg = 0) ∧ sf19 = upd sf16 k (nI (jj + 1)) ∧ ∃ f : Nat → Int32, re17 k = .inl (cI, 5, .inl f) ∧ re110 = va_up re17 k (.inl (cI, 5, .inl (upd f jj ((nI k) + fw))))) ∨ ((((nI k) + fw) < 0 ∨ fw * fh ≤ ((nI k) + fw) ∨ ¬ wf ((nI k) + fw).toNatClampNeg = 0) ∧ sf19 = sf16 ∧ re110 = re17) := hw
        obtain ⟨hP1, hD1⟩ := hB
        rw [ht] at hP1
        have hP := hP1
        have hD := hD1.weaken (fun _ _ _ h => hFc _ h)
        generalize H1 = H at hP hS ⊢
        have hP : va_P D kls ([(fa, .inr (1, [.int fw, .int fh, .ref wa, .int x1, .ref ra, .ref sa, .ref ta])), (wa, .inl (cZ, 25, .inl wf)), (ra, .inl (cI, 25, .inl (upd rf k fc))), (sa, .inl (cI, 25, .inl sf19)), (ta, .inl (cII, 25, .inr (.inr (.inr (.inr (fun i => if i < 25 then some (rr i) else none))))))] ++ mt_rw 25 rr re110) H := hP
        have hD : va_D A ([(fa, .inr (1, [.int fw, .int fh, .ref wa, .int x1, .ref ra, .ref sa, .ref ta])), (wa, .inl (cZ, 25, .inl wf)), (ra, .inl (cI, 25, .inl (upd rf k fc))), (sa, .inl (cI, 25, .inl sf19)), (ta, .inl (cII, 25, .inr (.inr (.inr (.inr (fun i => if i < 25 then some (rr i) else none))))))] ++ mt_rw 25 rr re110) := hD
        obtain ⟨⟨jj, hjj, hss⟩, hrr⟩ := mt_st hr8 hss hrr
        have hP9 := hP
        have hD9 := hD
        exact W.vret hx hb hr (fun t ht hW => ⟨⟨(x1, upd rf k fc, sf19, re110), rfl, hrr, by rw [ht]; exact hP9, hD9⟩, hS.F ht⟩) hS.2.2 d_fl_chartCell_95
      ·
        refine lv_aload_n hx hb d_fl_chartCell_76 rfl (lv_at hl 0 rfl) ?_
        refine lv_iload_n hx hb d_fl_chartCell_77 rfl (lv_at hl 2 rfl) ?_
        refine lv_iload_n hx hb d_fl_chartCell_78 rfl (lv_at hl 2 rfl) ?_
        refine lv_iconst (v := 1) hx hb d_fl_chartCell_79 (by decide) ?_
        refine lv_iadd hx hb d_fl_chartCell_80 ?_
        have hPc := hP
        have hDc := hD
        have hFc := mt_whole hD hS hA
        refine va_callv (va_runV (As := [.int (nI k), .int ((nI k) + 1)]) (rest := []) ⟨hx, hb, hml, hown, hg⟩ (c_fl_addStep l D cZ cI cJ cII fa fw fh wa x1 ra sa ta wf (upd rf k fc) sf16 rr re17 k jj ((nI k) + 1) H.size hb25 hk hss (by omega) hrr) (cwV 2 hg gv_fl_54 rfl rfl rfl (by decide +kernel) ⟨Nat.le_of_ble_eq_true rfl, Nat.le_of_ble_eq_true rfl⟩) ⟨mt_bl, va_recv (q0 := 0) (ci := 1) hK hP rfl rfl, mt_pr hX hPc hK hDc⟩ rfl rfl hl.1 rfl (lv_room (Nat.le_of_ble_eq_true rfl)) d_fl_chartCell_81 ⟨Nat.le_of_ble_eq_true rfl, Nat.le_of_ble_eq_true rfl⟩) hS (fun q _ h => hFc q h) hFc (fun u t H1 locs ht hvm hw hB hz1 hk1 hS => ?_)
        obtain ⟨sf112, re113⟩ := u
        have hr11 : ((¬ ((nI k) + 1) < 0 ∧ ¬ fw * fh ≤ ((nI k) + 1) ∧ wf ((nI k) + 1).toNatClampNeg = 0) ∧ sf112 = upd sf16 k (nI (jj + 1)) ∧ ∃ f : Nat → Int32, re17 k = .inl (cI, 5, .inl f) ∧ re113 = va_up re17 k (.inl (cI, 5, .inl (upd f jj ((nI k) + 1))))) ∨ ((((nI k) + 1) < 0 ∨ fw * fh ≤ ((nI k) + 1) ∨ ¬ wf ((nI k) + 1).toNatClampNeg = 0) ∧ sf112 = sf16 ∧ re113 = re17) := hw
        obtain ⟨hP1, hD1⟩ := hB
        rw [ht] at hP1
        have hP := hP1
        have hD := hD1.weaken (fun _ _ _ h => hFc _ h)
        generalize H1 = H at hP hS ⊢
        have hP : va_P D kls ([(fa, .inr (1, [.int fw, .int fh, .ref wa, .int x1, .ref ra, .ref sa, .ref ta])), (wa, .inl (cZ, 25, .inl wf)), (ra, .inl (cI, 25, .inl (upd rf k fc))), (sa, .inl (cI, 25, .inl sf112)), (ta, .inl (cII, 25, .inr (.inr (.inr (.inr (fun i => if i < 25 then some (rr i) else none))))))] ++ mt_rw 25 rr re113) H := hP
        have hD : va_D A ([(fa, .inr (1, [.int fw, .int fh, .ref wa, .int x1, .ref ra, .ref sa, .ref ta])), (wa, .inl (cZ, 25, .inl wf)), (ra, .inl (cI, 25, .inl (upd rf k fc))), (sa, .inl (cI, 25, .inl sf112)), (ta, .inl (cII, 25, .inr (.inr (.inr (.inr (fun i => if i < 25 then some (rr i) else none))))))] ++ mt_rw 25 rr re113) := hD
        obtain ⟨⟨jj, hjj, hss⟩, hrr⟩ := mt_st hr11 hss hrr
        refine lv_aload_n hx hb d_fl_chartCell_84 rfl (lv_at hl 0 rfl) ?_
        refine lv_iload_n hx hb d_fl_chartCell_85 rfl (lv_at hl 2 rfl) ?_
        refine lv_iload_n hx hb d_fl_chartCell_86 rfl (lv_at hl 2 rfl) ?_
        refine lv_aload_n hx hb d_fl_chartCell_87 rfl (lv_at hl 0 rfl) ?_
        refine gf_fl_31 hx hb hg hown hK hP 0 rfl rfl d_fl_chartCell_88 ?_
        refine lv_iadd hx hb d_fl_chartCell_91 ?_
        have hPc := hP
        have hDc := hD
        have hFc := mt_whole hD hS hA
        refine va_callv (va_runV (As := [.int (nI k), .int ((nI k) + fw)]) (rest := []) ⟨hx, hb, hml, hown, hg⟩ (c_fl_addStep l D cZ cI cJ cII fa fw fh wa x1 ra sa ta wf (upd rf k fc) sf112 rr re113 k jj ((nI k) + fw) H.size hb25 hk hss (by omega) hrr) (cwV 2 hg gv_fl_54 rfl rfl rfl (by decide +kernel) ⟨Nat.le_of_ble_eq_true rfl, Nat.le_of_ble_eq_true rfl⟩) ⟨mt_bl, va_recv (q0 := 0) (ci := 1) hK hP rfl rfl, mt_pr hX hPc hK hDc⟩ rfl rfl hl.1 rfl (lv_room (Nat.le_of_ble_eq_true rfl)) d_fl_chartCell_92 ⟨Nat.le_of_ble_eq_true rfl, Nat.le_of_ble_eq_true rfl⟩) hS (fun q _ h => hFc q h) hFc (fun u t H1 locs ht hvm hw hB hz1 hk1 hS => ?_)
        obtain ⟨sf115, re116⟩ := u
        have hr14 : ((¬ ((nI k) + fw) < 0 ∧ ¬ fw * fh ≤ ((nI k) + fw) ∧ wf ((nI k) + fw).toNatClampNeg = 0) ∧ sf115 = upd sf112 k (nI (jj + 1)) ∧ ∃ f : Nat → Int32, re113 k = .inl (cI, 5, .inl f) ∧ re116 = va_up re113 k (.inl (cI, 5, .inl (upd f jj ((nI k) + fw))))) ∨ ((((nI k) + fw) < 0 ∨ fw * fh ≤ ((nI k) + fw) ∨ ¬ wf ((nI k) + fw).toNatClampNeg = 0) ∧ sf115 = sf112 ∧ re116 = re113) := hw
        obtain ⟨hP1, hD1⟩ := hB
        rw [ht] at hP1
        have hP := hP1
        have hD := hD1.weaken (fun _ _ _ h => hFc _ h)
        generalize H1 = H at hP hS ⊢
        have hP : va_P D kls ([(fa, .inr (1, [.int fw, .int fh, .ref wa, .int x1, .ref ra, .ref sa, .ref ta])), (wa, .inl (cZ, 25, .inl wf)), (ra, .inl (cI, 25, .inl (upd rf k fc))), (sa, .inl (cI, 25, .inl sf115)), (ta, .inl (cII, 25, .inr (.inr (.inr (.inr (fun i => if i < 25 then some (rr i) else none))))))] ++ mt_rw 25 rr re116) H := hP
        have hD : va_D A ([(fa, .inr (1, [.int fw, .int fh, .ref wa, .int x1, .ref ra, .ref sa, .ref ta])), (wa, .inl (cZ, 25, .inl wf)), (ra, .inl (cI, 25, .inl (upd rf k fc))), (sa, .inl (cI, 25, .inl sf115)), (ta, .inl (cII, 25, .inr (.inr (.inr (.inr (fun i => if i < 25 then some (rr i) else none))))))] ++ mt_rw 25 rr re116) := hD
        obtain ⟨⟨jj, hjj, hss⟩, hrr⟩ := mt_st hr14 hss hrr
        have hP9 := hP
        have hD9 := hD
        exact W.vret hx hb hr (fun t ht hW => ⟨⟨(x1, upd rf k fc, sf115, re116), rfl, hrr, by rw [ht]; exact hP9, hD9⟩, hS.F ht⟩) hS.2.2 d_fl_chartCell_95
    ·
      refine lv_aload_n hx hb d_fl_chartCell_52 rfl (lv_at hl 0 rfl) ?_
      refine lv_iload_n hx hb d_fl_chartCell_53 rfl (lv_at hl 2 rfl) ?_
      refine lv_iload_n hx hb d_fl_chartCell_54 rfl (lv_at hl 2 rfl) ?_
      refine lv_iconst (v := 1) hx hb d_fl_chartCell_55 (by decide) ?_
      refine lv_isub hx hb d_fl_chartCell_56 ?_
      have hPc := hP
      have hDc := hD
      have hFc := mt_whole hD hS hA
      refine va_callv (va_runV (As := [.int (nI k), .int ((nI k) - 1)]) (rest := []) ⟨hx, hb, hml, hown, hg⟩ (c_fl_addStep l D cZ cI cJ cII fa fw fh wa x1 ra sa ta wf (upd rf k fc) sf13 rr re14 k jj ((nI k) - 1) H.size hb25 hk hss (by omega) hrr) (cwV 2 hg gv_fl_54 rfl rfl rfl (by decide +kernel) ⟨Nat.le_of_ble_eq_true rfl, Nat.le_of_ble_eq_true rfl⟩) ⟨mt_bl, va_recv (q0 := 0) (ci := 1) hK hP rfl rfl, mt_pr hX hPc hK hDc⟩ rfl rfl hl.1 rfl (lv_room (Nat.le_of_ble_eq_true rfl)) d_fl_chartCell_57 ⟨Nat.le_of_ble_eq_true rfl, Nat.le_of_ble_eq_true rfl⟩) hS (fun q _ h => hFc q h) hFc (fun u t H1 locs ht hvm hw hB hz1 hk1 hS => ?_)
      obtain ⟨sf118, re119⟩ := u
      have hr17 : ((¬ ((nI k) - 1) < 0 ∧ ¬ fw * fh ≤ ((nI k) - 1) ∧ wf ((nI k) - 1).toNatClampNeg = 0) ∧ sf118 = upd sf13 k (nI (jj + 1)) ∧ ∃ f : Nat → Int32, re14 k = .inl (cI, 5, .inl f) ∧ re119 = va_up re14 k (.inl (cI, 5, .inl (upd f jj ((nI k) - 1))))) ∨ ((((nI k) - 1) < 0 ∨ fw * fh ≤ ((nI k) - 1) ∨ ¬ wf ((nI k) - 1).toNatClampNeg = 0) ∧ sf118 = sf13 ∧ re119 = re14) := hw
      obtain ⟨hP1, hD1⟩ := hB
      rw [ht] at hP1
      have hP := hP1
      have hD := hD1.weaken (fun _ _ _ h => hFc _ h)
      generalize H1 = H at hP hS ⊢
      have hP : va_P D kls ([(fa, .inr (1, [.int fw, .int fh, .ref wa, .int x1, .ref ra, .ref sa, .ref ta])), (wa, .inl (cZ, 25, .inl wf)), (ra, .inl (cI, 25, .inl (upd rf k fc))), (sa, .inl (cI, 25, .inl sf118)), (ta, .inl (cII, 25, .inr (.inr (.inr (.inr (fun i => if i < 25 then some (rr i) else none))))))] ++ mt_rw 25 rr re119) H := hP
      have hD : va_D A ([(fa, .inr (1, [.int fw, .int fh, .ref wa, .int x1, .ref ra, .ref sa, .ref ta])), (wa, .inl (cZ, 25, .inl wf)), (ra, .inl (cI, 25, .inl (upd rf k fc))), (sa, .inl (cI, 25, .inl sf118)), (ta, .inl (cII, 25, .inr (.inr (.inr (.inr (fun i => if i < 25 then some (rr i) else none))))))] ++ mt_rw 25 rr re119) := hD
      obtain ⟨⟨jj, hjj, hss⟩, hrr⟩ := mt_st hr17 hss hrr
      refine lv_aload_n hx hb d_fl_chartCell_60 rfl (lv_at hl 0 rfl) ?_
      refine lv_iload_n hx hb d_fl_chartCell_61 rfl (lv_at hl 2 rfl) ?_
      refine lv_iload_n hx hb d_fl_chartCell_62 rfl (lv_at hl 2 rfl) ?_
      have hPc := hP
      have hDc := hD
      have hFc := mt_whole hD hS hA
      refine va_callv (va_runV (As := [.int (nI k), .int (nI k)]) (rest := []) ⟨hx, hb, hml, hown, hg⟩ (c_fl_addStep l D cZ cI cJ cII fa fw fh wa x1 ra sa ta wf (upd rf k fc) sf118 rr re119 k jj (nI k) H.size hb25 hk hss (by omega) hrr) (cwV 2 hg gv_fl_54 rfl rfl rfl (by decide +kernel) ⟨Nat.le_of_ble_eq_true rfl, Nat.le_of_ble_eq_true rfl⟩) ⟨mt_bl, va_recv (q0 := 0) (ci := 1) hK hP rfl rfl, mt_pr hX hPc hK hDc⟩ rfl rfl hl.1 rfl (lv_room (Nat.le_of_ble_eq_true rfl)) d_fl_chartCell_63 ⟨Nat.le_of_ble_eq_true rfl, Nat.le_of_ble_eq_true rfl⟩) hS (fun q _ h => hFc q h) hFc (fun u t H1 locs ht hvm hw hB hz1 hk1 hS => ?_)
      obtain ⟨sf121, re122⟩ := u
      have hr20 : ((¬ (nI k) < 0 ∧ ¬ fw * fh ≤ (nI k) ∧ wf (nI k).toNatClampNeg = 0) ∧ sf121 = upd sf118 k (nI (jj + 1)) ∧ ∃ f : Nat → Int32, re119 k = .inl (cI, 5, .inl f) ∧ re122 = va_up re119 k (.inl (cI, 5, .inl (upd f jj (nI k))))) ∨ (((nI k) < 0 ∨ fw * fh ≤ (nI k) ∨ ¬ wf (nI k).toNatClampNeg = 0) ∧ sf121 = sf118 ∧ re122 = re119) := hw
      obtain ⟨hP1, hD1⟩ := hB
      rw [ht] at hP1
      have hP := hP1
      have hD := hD1.weaken (fun _ _ _ h => hFc _ h)
      generalize H1 = H at hP hS ⊢
      have hP : va_P D kls ([(fa, .inr (1, [.int fw, .int fh, .ref wa, .int x1, .ref ra, .ref sa, .ref ta])), (wa, .inl (cZ, 25, .inl wf)), (ra, .inl (cI, 25, .inl (upd rf k fc))), (sa, .inl (cI, 25, .inl sf121)), (ta, .inl (cII, 25, .inr (.inr (.inr (.inr (fun i => if i < 25 then some (rr i) else none))))))] ++ mt_rw 25 rr re122) H := hP
      have hD : va_D A ([(fa, .inr (1, [.int fw, .int fh, .ref wa, .int x1, .ref ra, .ref sa, .ref ta])), (wa, .inl (cZ, 25, .inl wf)), (ra, .inl (cI, 25, .inl (upd rf k fc))), (sa, .inl (cI, 25, .inl sf121)), (ta, .inl (cII, 25, .inr (.inr (.inr (.inr (fun i => if i < 25 then some (rr i) else none))))))] ++ mt_rw 25 rr re122) := hD
      obtain ⟨⟨jj, hjj, hss⟩, hrr⟩ := mt_st hr20 hss hrr
      refine lv_iload_n hx hb d_fl_chartCell_66 rfl (lv_at hl 1 rfl) ?_
      refine lv_aload_n hx hb d_fl_chartCell_67 rfl (lv_at hl 0 rfl) ?_
      refine gf_fl_31 hx hb hg hown hK hP 0 rfl rfl d_fl_chartCell_68 ?_
      refine lv_iconst (v := 1) hx hb d_fl_chartCell_71 (by decide) ?_
      refine lv_isub hx hb d_fl_chartCell_72 ?_
      refine lv_icmp_ge hx hb d_fl_chartCell_73 rfl (fun g3 => ?_) (fun g3 => ?_)
      ·
        refine lv_aload_n hx hb d_fl_chartCell_84 rfl (lv_at hl 0 rfl) ?_
        refine lv_iload_n hx hb d_fl_chartCell_85 rfl (lv_at hl 2 rfl) ?_
        refine lv_iload_n hx hb d_fl_chartCell_86 rfl (lv_at hl 2 rfl) ?_
        refine lv_aload_n hx hb d_fl_chartCell_87 rfl (lv_at hl 0 rfl) ?_
        refine gf_fl_31 hx hb hg hown hK hP 0 rfl rfl d_fl_chartCell_88 ?_
        refine lv_iadd hx hb d_fl_chartCell_91 ?_
        have hPc := hP
        have hDc := hD
        have hFc := mt_whole hD hS hA
        refine va_callv (va_runV (As := [.int (nI k), .int ((nI k) + fw)]) (rest := []) ⟨hx, hb, hml, hown, hg⟩ (c_fl_addStep l D cZ cI cJ cII fa fw fh wa x1 ra sa ta wf (upd rf k fc) sf121 rr re122 k jj ((nI k) + fw) H.size hb25 hk hss (by omega) hrr) (cwV 2 hg gv_fl_54 rfl rfl rfl (by decide +kernel) ⟨Nat.le_of_ble_eq_true rfl, Nat.le_of_ble_eq_true rfl⟩) ⟨mt_bl, va_recv (q0 := 0) (ci := 1) hK hP rfl rfl, mt_pr hX hPc hK hDc⟩ rfl rfl hl.1 rfl (lv_room (Nat.le_of_ble_eq_true rfl)) d_fl_chartCell_92 ⟨Nat.le_of_ble_eq_true rfl, Nat.le_of_ble_eq_true rfl⟩) hS (fun q _ h => hFc q h) hFc (fun u t H1 locs ht hvm hw hB hz1 hk1 hS => ?_)
        obtain ⟨sf124, re125⟩ := u
        have hr23 : ((¬ ((nI k) + fw) < 0 ∧ ¬ fw * fh ≤ ((nI k) + fw) ∧ wf ((nI k) + fw).toNatClampNeg = 0) ∧ sf124 = upd sf121 k (nI (jj + 1)) ∧ ∃ f : Nat → Int32, re122 k = .inl (cI, 5, .inl f) ∧ re125 = va_up re122 k (.inl (cI, 5, .inl (upd f jj ((nI k) + fw))))) ∨ ((((nI k) + fw) < 0 ∨ fw * fh ≤ ((nI k) + fw) ∨ ¬ wf ((nI k) + fw).toNatClampNeg = 0) ∧ sf124 = sf121 ∧ re125 = re122) := hw
        obtain ⟨hP1, hD1⟩ := hB
        rw [ht] at hP1
        have hP := hP1
        have hD := hD1.weaken (fun _ _ _ h => hFc _ h)
        generalize H1 = H at hP hS ⊢
        have hP : va_P D kls ([(fa, .inr (1, [.int fw, .int fh, .ref wa, .int x1, .ref ra, .ref sa, .ref ta])), (wa, .inl (cZ, 25, .inl wf)), (ra, .inl (cI, 25, .inl (upd rf k fc))), (sa, .inl (cI, 25, .inl sf124)), (ta, .inl (cII, 25, .inr (.inr (.inr (.inr (fun i => if i < 25 then some (rr i) else none))))))] ++ mt_rw 25 rr re125) H := hP
        have hD : va_D A ([(fa, .inr (1, [.int fw, .int fh, .ref wa, .int x1, .ref ra, .ref sa, .ref ta])), (wa, .inl (cZ, 25, .inl wf)), (ra, .inl (cI, 25, .inl (upd rf k fc))), (sa, .inl (cI, 25, .inl sf124)), (ta, .inl (cII, 25, .inr (.inr (.inr (.inr (fun i => if i < 25 then some (rr i) else none))))))] ++ mt_rw 25 rr re125) := hD
        obtain ⟨⟨jj, hjj, hss⟩, hrr⟩ := mt_st hr23 hss hrr
        have hP9 := hP
        have hD9 := hD
        exact W.vret hx hb hr (fun t ht hW => ⟨⟨(x1, upd rf k fc, sf124, re125), rfl, hrr, by rw [ht]; exact hP9, hD9⟩, hS.F ht⟩) hS.2.2 d_fl_chartCell_95
      ·
        refine lv_aload_n hx hb d_fl_chartCell_76 rfl (lv_at hl 0 rfl) ?_
        refine lv_iload_n hx hb d_fl_chartCell_77 rfl (lv_at hl 2 rfl) ?_
        refine lv_iload_n hx hb d_fl_chartCell_78 rfl (lv_at hl 2 rfl) ?_
        refine lv_iconst (v := 1) hx hb d_fl_chartCell_79 (by decide) ?_
        refine lv_iadd hx hb d_fl_chartCell_80 ?_
        have hPc := hP
        have hDc := hD
        have hFc := mt_whole hD hS hA
        refine va_callv (va_runV (As := [.int (nI k), .int ((nI k) + 1)]) (rest := []) ⟨hx, hb, hml, hown, hg⟩ (c_fl_addStep l D cZ cI cJ cII fa fw fh wa x1 ra sa ta wf (upd rf k fc) sf121 rr re122 k jj ((nI k) + 1) H.size hb25 hk hss (by omega) hrr) (cwV 2 hg gv_fl_54 rfl rfl rfl (by decide +kernel) ⟨Nat.le_of_ble_eq_true rfl, Nat.le_of_ble_eq_true rfl⟩) ⟨mt_bl, va_recv (q0 := 0) (ci := 1) hK hP rfl rfl, mt_pr hX hPc hK hDc⟩ rfl rfl hl.1 rfl (lv_room (Nat.le_of_ble_eq_true rfl)) d_fl_chartCell_81 ⟨Nat.le_of_ble_eq_true rfl, Nat.le_of_ble_eq_true rfl⟩) hS (fun q _ h => hFc q h) hFc (fun u t H1 locs ht hvm hw hB hz1 hk1 hS => ?_)
        obtain ⟨sf127, re128⟩ := u
        have hr26 : ((¬ ((nI k) + 1) < 0 ∧ ¬ fw * fh ≤ ((nI k) + 1) ∧ wf ((nI k) + 1).toNatClampNeg = 0) ∧ sf127 = upd sf121 k (nI (jj + 1)) ∧ ∃ f : Nat → Int32, re122 k = .inl (cI, 5, .inl f) ∧ re128 = va_up re122 k (.inl (cI, 5, .inl (upd f jj ((nI k) + 1))))) ∨ ((((nI k) + 1) < 0 ∨ fw * fh ≤ ((nI k) + 1) ∨ ¬ wf ((nI k) + 1).toNatClampNeg = 0) ∧ sf127 = sf121 ∧ re128 = re122) := hw
        obtain ⟨hP1, hD1⟩ := hB
        rw [ht] at hP1
        have hP := hP1
        have hD := hD1.weaken (fun _ _ _ h => hFc _ h)
        generalize H1 = H at hP hS ⊢
        have hP : va_P D kls ([(fa, .inr (1, [.int fw, .int fh, .ref wa, .int x1, .ref ra, .ref sa, .ref ta])), (wa, .inl (cZ, 25, .inl wf)), (ra, .inl (cI, 25, .inl (upd rf k fc))), (sa, .inl (cI, 25, .inl sf127)), (ta, .inl (cII, 25, .inr (.inr (.inr (.inr (fun i => if i < 25 then some (rr i) else none))))))] ++ mt_rw 25 rr re128) H := hP
        have hD : va_D A ([(fa, .inr (1, [.int fw, .int fh, .ref wa, .int x1, .ref ra, .ref sa, .ref ta])), (wa, .inl (cZ, 25, .inl wf)), (ra, .inl (cI, 25, .inl (upd rf k fc))), (sa, .inl (cI, 25, .inl sf127)), (ta, .inl (cII, 25, .inr (.inr (.inr (.inr (fun i => if i < 25 then some (rr i) else none))))))] ++ mt_rw 25 rr re128) := hD
        obtain ⟨⟨jj, hjj, hss⟩, hrr⟩ := mt_st hr26 hss hrr
        refine lv_aload_n hx hb d_fl_chartCell_84 rfl (lv_at hl 0 rfl) ?_
        refine lv_iload_n hx hb d_fl_chartCell_85 rfl (lv_at hl 2 rfl) ?_
        refine lv_iload_n hx hb d_fl_chartCell_86 rfl (lv_at hl 2 rfl) ?_
        refine lv_aload_n hx hb d_fl_chartCell_87 rfl (lv_at hl 0 rfl) ?_
        refine gf_fl_31 hx hb hg hown hK hP 0 rfl rfl d_fl_chartCell_88 ?_
        refine lv_iadd hx hb d_fl_chartCell_91 ?_
        have hPc := hP
        have hDc := hD
        have hFc := mt_whole hD hS hA
        refine va_callv (va_runV (As := [.int (nI k), .int ((nI k) + fw)]) (rest := []) ⟨hx, hb, hml, hown, hg⟩ (c_fl_addStep l D cZ cI cJ cII fa fw fh wa x1 ra sa ta wf (upd rf k fc) sf127 rr re128 k jj ((nI k) + fw) H.size hb25 hk hss (by omega) hrr) (cwV 2 hg gv_fl_54 rfl rfl rfl (by decide +kernel) ⟨Nat.le_of_ble_eq_true rfl, Nat.le_of_ble_eq_true rfl⟩) ⟨mt_bl, va_recv (q0 := 0) (ci := 1) hK hP rfl rfl, mt_pr hX hPc hK hDc⟩ rfl rfl hl.1 rfl (lv_room (Nat.le_of_ble_eq_true rfl)) d_fl_chartCell_92 ⟨Nat.le_of_ble_eq_true rfl, Nat.le_of_ble_eq_true rfl⟩) hS (fun q _ h => hFc q h) hFc (fun u t H1 locs ht hvm hw hB hz1 hk1 hS => ?_)
        obtain ⟨sf130, re131⟩ := u
        have hr29 : ((¬ ((nI k) + fw) < 0 ∧ ¬ fw * fh ≤ ((nI k) + fw) ∧ wf ((nI k) + fw).toNatClampNeg = 0) ∧ sf130 = upd sf127 k (nI (jj + 1)) ∧ ∃ f : Nat → Int32, re128 k = .inl (cI, 5, .inl f) ∧ re131 = va_up re128 k (.inl (cI, 5, .inl (upd f jj ((nI k) + fw))))) ∨ ((((nI k) + fw) < 0 ∨ fw * fh ≤ ((nI k) + fw) ∨ ¬ wf ((nI k) + fw).toNatClampNeg = 0) ∧ sf130 = sf127 ∧ re131 = re128) := hw
        obtain ⟨hP1, hD1⟩ := hB
        rw [ht] at hP1
        have hP := hP1
        have hD := hD1.weaken (fun _ _ _ h => hFc _ h)
        generalize H1 = H at hP hS ⊢
        have hP : va_P D kls ([(fa, .inr (1, [.int fw, .int fh, .ref wa, .int x1, .ref ra, .ref sa, .ref ta])), (wa, .inl (cZ, 25, .inl wf)), (ra, .inl (cI, 25, .inl (upd rf k fc))), (sa, .inl (cI, 25, .inl sf130)), (ta, .inl (cII, 25, .inr (.inr (.inr (.inr (fun i => if i < 25 then some (rr i) else none))))))] ++ mt_rw 25 rr re131) H := hP
        have hD : va_D A ([(fa, .inr (1, [.int fw, .int fh, .ref wa, .int x1, .ref ra, .ref sa, .ref ta])), (wa, .inl (cZ, 25, .inl wf)), (ra, .inl (cI, 25, .inl (upd rf k fc))), (sa, .inl (cI, 25, .inl sf130)), (ta, .inl (cII, 25, .inr (.inr (.inr (.inr (fun i => if i < 25 then some (rr i) else none))))))] ++ mt_rw 25 rr re131) := hD
        obtain ⟨⟨jj, hjj, hss⟩, hrr⟩ := mt_st hr29 hss hrr
        have hP9 := hP
        have hD9 := hD
        exact W.vret hx hb hr (fun t ht hW => ⟨⟨(x1, upd rf k fc, sf130, re131), rfl, hrr, by rw [ht]; exact hP9, hD9⟩, hS.F ht⟩) hS.2.2 d_fl_chartCell_95
  ·
    have hP9 := hP
    have hD9 := hD
    exact W.vret hx hb hr (fun t ht hW => ⟨⟨(fc, upd rf k fc, upd sf k 0, re), rfl, hre, by rw [ht]; exact hP9, hD9⟩, hS.F ht⟩) hS.2.2 d_fl_chartCell_26
