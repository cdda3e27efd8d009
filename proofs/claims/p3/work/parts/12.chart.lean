set_option maxHeartbeats 4000000 in
set_option maxRecDepth 100000 in
theorem c_fl_chartCell1 (l : Launch) (D : va_G) (cZ cI cJ cII : ClassId) (fa : Nat) (wa : Nat) (ra : Nat) (sa : Nat) (ta : Nat) (wf : Nat → Int32) (rf : Nat → Int32) (sf : Nat → Int32) (rr : Nat → Nat) (re : Nat → va_E) (sz : Nat) (hw0 : wf 0 = 0) (hre : mt_r5 cI re) : Met l y_fl_chartCell w_fl_chartCell ({ frames := 3, cells := 0, slots := 0, locals := 120 }) (va_Pc [.ref fa, .int 0, .int 0] (mt_B D [(cZ, .boolean), (cI, .int), (cJ, .long), (cII, .array .int)] ([(fa, .inr (1, [.int 1, .int 1, .ref wa, .int 0, .ref ra, .ref sa, .ref ta])), (wa, .inl (cZ, 25, .inl wf)), (ra, .inl (cI, 25, .inl rf)), (sa, .inl (cI, 25, .inl sf)), (ta, .inl (cII, 25, .inr (.inr (.inr (.inr (fun i => if i < 25 then some (rr i) else none))))))] ++ mt_rw 25 rr re) sz)) ((fun A => va_Qv (fun (u : Int32 × (Nat → Int32) × (Nat → Int32) × (Nat → va_E)) => (u.2.2.1) 0 = 1 ∧ (∃ f : Nat → Int32, (u.2.2.2) 0 = .inl (cI, 5, .inl f) ∧ f 0 = 0) ∧ (u.1) = 1 ∧ mt_r5 cI (u.2.2.2)) (fun (u : Int32 × (Nat → Int32) × (Nat → Int32) × (Nat → va_E)) (t : State) => mt_O D A ([(fa, .inr (1, [.int 1, .int 1, .ref wa, .int (u.1), .ref ra, .ref sa, .ref ta])), (wa, .inl (cZ, 25, .inl wf)), (ra, .inl (cI, 25, .inl (u.2.1))), (sa, .inl (cI, 25, .inl (u.2.2.1))), (ta, .inl (cII, 25, .inr (.inr (.inr (.inr (fun i => if i < 25 then some (rr i) else none))))))] ++ mt_rw 25 rr (u.2.2.2)) t) A) (va_A ([(fa, .inr (1, [.int 1, .int 1, .ref wa, .int 0, .ref ra, .ref sa, .ref ta])), (wa, .inl (cZ, 25, .inl wf)), (ra, .inl (cI, 25, .inl rf)), (sa, .inl (cI, 25, .inl sf)), (ta, .inl (cII, 25, .inr (.inr (.inr (.inr (fun i => if i < 25 then some (rr i) else none))))))] ++ mt_rw 25 rr re) sz)) 0 0 (va_A ([(fa, .inr (1, [.int 1, .int 1, .ref wa, .int 0, .ref ra, .ref sa, .ref ta])), (wa, .inl (cZ, 25, .inl wf)), (ra, .inl (cI, 25, .inl rf)), (sa, .inl (cI, 25, .inl sf)), (ta, .inl (cII, 25, .inr (.inr (.inr (.inr (fun i => if i < 25 then some (rr i) else none))))))] ++ mt_rw 25 rr re) sz) := by
  refine mt_of (y := y_fl_chartCell) (n := 3) (av := [.ref fa, .int 0, .int 0]) (QF := (fun A => va_Qv (fun (u : Int32 × (Nat → Int32) × (Nat → Int32) × (Nat → va_E)) => (u.2.2.1) 0 = 1 ∧ (∃ f : Nat → Int32, (u.2.2.2) 0 = .inl (cI, 5, .inl f) ∧ f 0 = 0) ∧ (u.1) = 1 ∧ mt_r5 cI (u.2.2.2)) (fun (u : Int32 × (Nat → Int32) × (Nat → Int32) × (Nat → va_E)) (t : State) => mt_O D A ([(fa, .inr (1, [.int 1, .int 1, .ref wa, .int (u.1), .ref ra, .ref sa, .ref ta])), (wa, .inl (cZ, 25, .inl wf)), (ra, .inl (cI, 25, .inl (u.2.1))), (sa, .inl (cI, 25, .inl (u.2.2.1))), (ta, .inl (cII, 25, .inr (.inr (.inr (.inr (fun i => if i < 25 then some (rr i) else none))))))] ++ mt_rw 25 rr (u.2.2.2)) t) A)) (by decide) (Nat.le_of_ble_eq_true rfl) ?_
  intro p e s m below meth c ls A hx hb hr hlk hml hown hnm hg hl hX hP hK hD hA hS
  obtain ⟨H, hH⟩ : ∃ H : Heap, H = s.heap := ⟨_, rfl⟩
  have hS : va_S A s.heap H [] := by rw [hH]; exact va_S.rf
  rw [← hH] at hP ⊢
  have hown : s.vm.findClass R_fl = some m.cls := hown
  have hl : lv_has ls 3 [(0, .ref fa), (1, .int 0), (2, .int 0)] := hl
  refine lv_aload_n hx hb d_fl_chartCell_0 rfl (lv_at hl 0 rfl) ?_
  refine gf_fl_15 hx hb hg hown hK hP 0 rfl rfl d_fl_chartCell_1 ?_
  refine lv_iload_n hx hb d_fl_chartCell_4 rfl (lv_at hl 2 rfl) ?_
  refine lv_aload_n hx hb d_fl_chartCell_5 rfl (lv_at hl 0 rfl) ?_
  refine gf_fl_48 hx hb hg hown hK hP 0 rfl rfl d_fl_chartCell_6 ?_
  refine va_iast hx hb hK hP hD hS 2 1 rfl rfl (by unfold vp_in; decide) d_fl_chartCell_9 (fun H locs hP hD hS => ?_)
  have hP : va_P D kls ([(fa, .inr (1, [.int 1, .int 1, .ref wa, .int 0, .ref ra, .ref sa, .ref ta])), (wa, .inl (cZ, 25, .inl wf)), (ra, .inl (cI, 25, .inl (upd rf 0 0))), (sa, .inl (cI, 25, .inl sf)), (ta, .inl (cII, 25, .inr (.inr (.inr (.inr (fun i => if i < 25 then some (rr i) else none))))))] ++ mt_rw 25 rr re) H := hP
  have hD : va_D A ([(fa, .inr (1, [.int 1, .int 1, .ref wa, .int 0, .ref ra, .ref sa, .ref ta])), (wa, .inl (cZ, 25, .inl wf)), (ra, .inl (cI, 25, .inl (upd rf 0 0))), (sa, .inl (cI, 25, .inl sf)), (ta, .inl (cII, 25, .inr (.inr (.inr (.inr (fun i => if i < 25 then some (rr i) else none))))))] ++ mt_rw 25 rr re) := hD
  refine lv_aload_n hx hb d_fl_chartCell_10 rfl (lv_at hl 0 rfl) ?_
  refine gf_fl_19 hx hb hg hown hK hP 0 rfl rfl d_fl_chartCell_11 ?_
  refine lv_iload_n hx hb d_fl_chartCell_14 rfl (lv_at hl 2 rfl) ?_
  refine lv_iconst (v := 0) hx hb d_fl_chartCell_15 (by decide) ?_
  refine va_iast hx hb hK hP hD hS 3 1 rfl rfl (by unfold vp_in; decide) d_fl_chartCell_16 (fun H locs hP hD hS => ?_)
  have hP : va_P D kls ([(fa, .inr (1, [.int 1, .int 1, .ref wa, .int 0, .ref ra, .ref sa, .ref ta])), (wa, .inl (cZ, 25, .inl wf)), (ra, .inl (cI, 25, .inl (upd rf 0 0))), (sa, .inl (cI, 25, .inl (upd sf 0 0))), (ta, .inl (cII, 25, .inr (.inr (.inr (.inr (fun i => if i < 25 then some (rr i) else none))))))] ++ mt_rw 25 rr re) H := hP
  have hD : va_D A ([(fa, .inr (1, [.int 1, .int 1, .ref wa, .int 0, .ref ra, .ref sa, .ref ta])), (wa, .inl (cZ, 25, .inl wf)), (ra, .inl (cI, 25, .inl (upd rf 0 0))), (sa, .inl (cI, 25, .inl (upd sf 0 0))), (ta, .inl (cII, 25, .inr (.inr (.inr (.inr (fun i => if i < 25 then some (rr i) else none))))))] ++ mt_rw 25 rr re) := hD
  refine lv_aload_n hx hb d_fl_chartCell_17 rfl (lv_at hl 0 rfl) ?_
  refine gf_fl_9 hx hb hg hown hK hP 0 rfl rfl d_fl_chartCell_18 ?_
  refine lv_iload_n hx hb d_fl_chartCell_21 rfl (lv_at hl 2 rfl) ?_
  refine va_zald hx hb hK hP 1 0 rfl rfl (by unfold vp_in; decide) d_fl_chartCell_22 ?_
  refine lv_topi (fun y1 ey1 => ?_)
  have ey1 : y1 = 0 := ey1.trans hw0
  subst ey1
  refine lv_if_eq hx hb d_fl_chartCell_23 rfl (fun _ => ?_) (fun h => absurd (by decide) h)
  refine lv_aload_n hx hb d_fl_chartCell_27 rfl (lv_at hl 0 rfl) ?_
  refine lv_dup hx hb d_fl_chartCell_28 rfl ?_
  refine gf_fl_48 hx hb hg hown hK hP 0 rfl rfl d_fl_chartCell_29 ?_
  refine lv_iconst (v := 1) hx hb d_fl_chartCell_32 (by decide) ?_
  refine lv_iadd hx hb d_fl_chartCell_33 ?_
  refine lv_topi (fun x2 ex2 => ?_)
  refine pf_fl_48 hx hb hg hown hK hP hD hS 0 rfl rfl rfl (Nat.le_of_ble_eq_true rfl) d_fl_chartCell_34 (fun H locs hP hD hS => ?_)
  have hP : va_P D kls ([(fa, .inr (1, [.int 1, .int 1, .ref wa, .int x2, .ref ra, .ref sa, .ref ta])), (wa, .inl (cZ, 25, .inl wf)), (ra, .inl (cI, 25, .inl (upd rf 0 0))), (sa, .inl (cI, 25, .inl (upd sf 0 0))), (ta, .inl (cII, 25, .inr (.inr (.inr (.inr (fun i => if i < 25 then some (rr i) else none))))))] ++ mt_rw 25 rr re) H := hP
  have hD : va_D A ([(fa, .inr (1, [.int 1, .int 1, .ref wa, .int x2, .ref ra, .ref sa, .ref ta])), (wa, .inl (cZ, 25, .inl wf)), (ra, .inl (cI, 25, .inl (upd rf 0 0))), (sa, .inl (cI, 25, .inl (upd sf 0 0))), (ta, .inl (cII, 25, .inr (.inr (.inr (.inr (fun i => if i < 25 then some (rr i) else none))))))] ++ mt_rw 25 rr re) := hD
  refine lv_aload_n hx hb d_fl_chartCell_37 rfl (lv_at hl 0 rfl) ?_
  refine lv_iload_n hx hb d_fl_chartCell_38 rfl (lv_at hl 2 rfl) ?_
  refine lv_iload_n hx hb d_fl_chartCell_39 rfl (lv_at hl 2 rfl) ?_
  refine lv_aload_n hx hb d_fl_chartCell_40 rfl (lv_at hl 0 rfl) ?_
  refine gf_fl_31 hx hb hg hown hK hP 0 rfl rfl d_fl_chartCell_41 ?_
  refine lv_isub hx hb d_fl_chartCell_44 ?_
  have hPc := hP
  have hDc := hD
  have hFc := mt_whole hD hS hA
  refine va_callv (va_runV (As := [.int 0, .int (0 - 1)]) (rest := []) ⟨hx, hb, hml, hown, hg⟩ (c_fl_addStep l D cZ cI cJ cII fa 1 1 wa x2 ra sa ta wf (upd rf 0 0) (upd sf 0 0) rr re 0 0 (0 - 1) H.size (mt_b25 (w := 1) (h := 1) (by decide)) (by decide) (by rw [pk_us]; rfl) (by decide) hre) (cwV 2 hg gv_fl_54 rfl rfl rfl (by decide +kernel) ⟨Nat.le_of_ble_eq_true rfl, Nat.le_of_ble_eq_true rfl⟩) ⟨mt_bl, va_recv (q0 := 0) (ci := 1) hK hP rfl rfl, mt_pr hX hPc hK hDc⟩ rfl rfl hl.1 rfl (lv_room (Nat.le_of_ble_eq_true rfl)) d_fl_chartCell_45 ⟨Nat.le_of_ble_eq_true rfl, Nat.le_of_ble_eq_true rfl⟩) hS (fun q _ h => hFc q h) hFc (fun u t H1 locs ht hvm hw hB hz1 hk1 hS => ?_)
  obtain ⟨sf14, re15⟩ := u
  have hr3 : ((¬ (0 - 1 : Int32) < 0 ∧ ¬ (1 : Int32) * (1 : Int32) ≤ (0 - 1 : Int32) ∧ wf (0 - 1 : Int32).toNatClampNeg = 0) ∧ sf14 = upd (upd sf 0 0) (0 : Nat) (nI ((0 : Nat) + 1)) ∧ ∃ f : Nat → Int32, re (0 : Nat) = .inl (cI, 5, .inl f) ∧ re15 = va_up re (0 : Nat) (.inl (cI, 5, .inl (upd f (0 : Nat) (0 - 1 : Int32))))) ∨ (((0 - 1 : Int32) < 0 ∨ (1 : Int32) * (1 : Int32) ≤ (0 - 1 : Int32) ∨ ¬ wf (0 - 1 : Int32).toNatClampNeg = 0) ∧ sf14 = (upd sf 0 0) ∧ re15 = re) := hw
  obtain ⟨hP1, hD1⟩ := hB
  rw [ht] at hP1
  have hP := hP1
  have hD := hD1.weaken (fun _ _ _ h => hFc _ h)
  generalize H1 = H at hP hS ⊢
  have hP : va_P D kls ([(fa, .inr (1, [.int 1, .int 1, .ref wa, .int x2, .ref ra, .ref sa, .ref ta])), (wa, .inl (cZ, 25, .inl wf)), (ra, .inl (cI, 25, .inl (upd rf 0 0))), (sa, .inl (cI, 25, .inl sf14)), (ta, .inl (cII, 25, .inr (.inr (.inr (.inr (fun i => if i < 25 then some (rr i) else none))))))] ++ mt_rw 25 rr re15) H := hP
  have hD : va_D A ([(fa, .inr (1, [.int 1, .int 1, .ref wa, .int x2, .ref ra, .ref sa, .ref ta])), (wa, .inl (cZ, 25, .inl wf)), (ra, .inl (cI, 25, .inl (upd rf 0 0))), (sa, .inl (cI, 25, .inl sf14)), (ta, .inl (cII, 25, .inr (.inr (.inr (.inr (fun i => if i < 25 then some (rr i) else none))))))] ++ mt_rw 25 rr re15) := hD
  have a1 : sf14 = upd sf 0 0 ∧ re15 = re := by
    rcases hr3 with ⟨⟨q, -⟩, -⟩ | ⟨-, q⟩
    · exact absurd (by decide) q
    · exact q
  refine lv_iload_n hx hb d_fl_chartCell_48 rfl (lv_at hl 1 rfl) ?_
  refine lv_if_le hx hb d_fl_chartCell_49 rfl (fun _ => ?_) (fun h => absurd (by decide) h)
  refine lv_aload_n hx hb d_fl_chartCell_60 rfl (lv_at hl 0 rfl) ?_
  refine lv_iload_n hx hb d_fl_chartCell_61 rfl (lv_at hl 2 rfl) ?_
  refine lv_iload_n hx hb d_fl_chartCell_62 rfl (lv_at hl 2 rfl) ?_
  have hPc := hP
  have hDc := hD
  have hFc := mt_whole hD hS hA
  refine va_callv (va_runV (As := [.int 0, .int 0]) (rest := []) ⟨hx, hb, hml, hown, hg⟩ (c_fl_addStep l D cZ cI cJ cII fa 1 1 wa x2 ra sa ta wf (upd rf 0 0) sf14 rr re15 0 0 0 H.size (mt_b25 (w := 1) (h := 1) (by decide)) (by decide) (by rw [a1.1, pk_us]; rfl) (by decide) (by rw [a1.2]; exact hre)) (cwV 2 hg gv_fl_54 rfl rfl rfl (by decide +kernel) ⟨Nat.le_of_ble_eq_true rfl, Nat.le_of_ble_eq_true rfl⟩) ⟨mt_bl, va_recv (q0 := 0) (ci := 1) hK hP rfl rfl, mt_pr hX hPc hK hDc⟩ rfl rfl hl.1 rfl (lv_room (Nat.le_of_ble_eq_true rfl)) d_fl_chartCell_63 ⟨Nat.le_of_ble_eq_true rfl, Nat.le_of_ble_eq_true rfl⟩) hS (fun q _ h => hFc q h) hFc (fun u t H1 locs ht hvm hw hB hz1 hk1 hS => ?_)
  obtain ⟨sf17, re18⟩ := u
  have hr6 : ((¬ (0 : Int32) < 0 ∧ ¬ (1 : Int32) * (1 : Int32) ≤ (0 : Int32) ∧ wf (0 : Int32).toNatClampNeg = 0) ∧ sf17 = upd sf14 (0 : Nat) (nI ((0 : Nat) + 1)) ∧ ∃ f : Nat → Int32, re15 (0 : Nat) = .inl (cI, 5, .inl f) ∧ re18 = va_up re15 (0 : Nat) (.inl (cI, 5, .inl (upd f (0 : Nat) (0 : Int32))))) ∨ (((0 : Int32) < 0 ∨ (1 : Int32) * (1 : Int32) ≤ (0 : Int32) ∨ ¬ wf (0 : Int32).toNatClampNeg = 0) ∧ sf17 = sf14 ∧ re18 = re15) := hw
  obtain ⟨hP1, hD1⟩ := hB
  rw [ht] at hP1
  have hP := hP1
  have hD := hD1.weaken (fun _ _ _ h => hFc _ h)
  generalize H1 = H at hP hS ⊢
  have hP : va_P D kls ([(fa, .inr (1, [.int 1, .int 1, .ref wa, .int x2, .ref ra, .ref sa, .ref ta])), (wa, .inl (cZ, 25, .inl wf)), (ra, .inl (cI, 25, .inl (upd rf 0 0))), (sa, .inl (cI, 25, .inl sf17)), (ta, .inl (cII, 25, .inr (.inr (.inr (.inr (fun i => if i < 25 then some (rr i) else none))))))] ++ mt_rw 25 rr re18) H := hP
  have hD : va_D A ([(fa, .inr (1, [.int 1, .int 1, .ref wa, .int x2, .ref ra, .ref sa, .ref ta])), (wa, .inl (cZ, 25, .inl wf)), (ra, .inl (cI, 25, .inl (upd rf 0 0))), (sa, .inl (cI, 25, .inl sf17)), (ta, .inl (cII, 25, .inr (.inr (.inr (.inr (fun i => if i < 25 then some (rr i) else none))))))] ++ mt_rw 25 rr re18) := hD
  have a2 := hr6.elim (fun q => q.2) (fun q => q.1.elim (fun q => absurd q (by decide)) (fun q => q.elim (fun q => absurd q (by decide)) (fun q => absurd hw0 q)))
  refine lv_iload_n hx hb d_fl_chartCell_66 rfl (lv_at hl 1 rfl) ?_
  refine lv_aload_n hx hb d_fl_chartCell_67 rfl (lv_at hl 0 rfl) ?_
  refine gf_fl_31 hx hb hg hown hK hP 0 rfl rfl d_fl_chartCell_68 ?_
  refine lv_iconst (v := 1) hx hb d_fl_chartCell_71 (by decide) ?_
  refine lv_isub hx hb d_fl_chartCell_72 ?_
  refine lv_icmp_ge hx hb d_fl_chartCell_73 rfl (fun _ => ?_) (fun h => absurd (by decide) h)
  refine lv_aload_n hx hb d_fl_chartCell_84 rfl (lv_at hl 0 rfl) ?_
  refine lv_iload_n hx hb d_fl_chartCell_85 rfl (lv_at hl 2 rfl) ?_
  refine lv_iload_n hx hb d_fl_chartCell_86 rfl (lv_at hl 2 rfl) ?_
  refine lv_aload_n hx hb d_fl_chartCell_87 rfl (lv_at hl 0 rfl) ?_
  refine gf_fl_31 hx hb hg hown hK hP 0 rfl rfl d_fl_chartCell_88 ?_
  refine lv_iadd hx hb d_fl_chartCell_91 ?_
  have hPc := hP
  have hDc := hD
  have hFc := mt_whole hD hS hA
  refine va_callv (va_runV (As := [.int 0, .int (0 + 1)]) (rest := []) ⟨hx, hb, hml, hown, hg⟩ (c_fl_addStep l D cZ cI cJ cII fa 1 1 wa x2 ra sa ta wf (upd rf 0 0) sf17 rr re18 0 1 (0 + 1) H.size (mt_b25 (w := 1) (h := 1) (by decide)) (by decide) (by rw [a2.1]; exact pk_us) (by decide) (by obtain ⟨-, f9, -, q⟩ := a2; rw [q, a1.2]; exact mt_r5_up hre)) (cwV 2 hg gv_fl_54 rfl rfl rfl (by decide +kernel) ⟨Nat.le_of_ble_eq_true rfl, Nat.le_of_ble_eq_true rfl⟩) ⟨mt_bl, va_recv (q0 := 0) (ci := 1) hK hP rfl rfl, mt_pr hX hPc hK hDc⟩ rfl rfl hl.1 rfl (lv_room (Nat.le_of_ble_eq_true rfl)) d_fl_chartCell_92 ⟨Nat.le_of_ble_eq_true rfl, Nat.le_of_ble_eq_true rfl⟩) hS (fun q _ h => hFc q h) hFc (fun u t H1 locs ht hvm hw hB hz1 hk1 hS => ?_)
  obtain ⟨sf110, re111⟩ := u
  have hr9 : ((¬ (0 + 1 : Int32) < 0 ∧ ¬ (1 : Int32) * (1 : Int32) ≤ (0 + 1 : Int32) ∧ wf (0 + 1 : Int32).toNatClampNeg = 0) ∧ sf110 = upd sf17 (0 : Nat) (nI ((1 : Nat) + 1)) ∧ ∃ f : Nat → Int32, re18 (0 : Nat) = .inl (cI, 5, .inl f) ∧ re111 = va_up re18 (0 : Nat) (.inl (cI, 5, .inl (upd f (1 : Nat) (0 + 1 : Int32))))) ∨ (((0 + 1 : Int32) < 0 ∨ (1 : Int32) * (1 : Int32) ≤ (0 + 1 : Int32) ∨ ¬ wf (0 + 1 : Int32).toNatClampNeg = 0) ∧ sf110 = sf17 ∧ re111 = re18) := hw
  obtain ⟨hP1, hD1⟩ := hB
  rw [ht] at hP1
  have hP := hP1
  have hD := hD1.weaken (fun _ _ _ h => hFc _ h)
  generalize H1 = H at hP hS ⊢
  have hP : va_P D kls ([(fa, .inr (1, [.int 1, .int 1, .ref wa, .int x2, .ref ra, .ref sa, .ref ta])), (wa, .inl (cZ, 25, .inl wf)), (ra, .inl (cI, 25, .inl (upd rf 0 0))), (sa, .inl (cI, 25, .inl sf110)), (ta, .inl (cII, 25, .inr (.inr (.inr (.inr (fun i => if i < 25 then some (rr i) else none))))))] ++ mt_rw 25 rr re111) H := hP
  have hD : va_D A ([(fa, .inr (1, [.int 1, .int 1, .ref wa, .int x2, .ref ra, .ref sa, .ref ta])), (wa, .inl (cZ, 25, .inl wf)), (ra, .inl (cI, 25, .inl (upd rf 0 0))), (sa, .inl (cI, 25, .inl sf110)), (ta, .inl (cII, 25, .inr (.inr (.inr (.inr (fun i => if i < 25 then some (rr i) else none))))))] ++ mt_rw 25 rr re111) := hD
  have a3 := hr9.elim (fun q => absurd (show (1 : Int32) * 1 ≤ 0 + 1 by decide) q.1.2.1) (fun q => q.2)
  have post9 : sf110 0 = 1 ∧ (∃ f : Nat → Int32, re111 0 = .inl (cI, 5, .inl f) ∧ f 0 = 0) ∧ x2 = 1 ∧ mt_r5 cI re111 := by
    obtain ⟨a31, a32⟩ := a3; obtain ⟨a21, f9, a22, a23⟩ := a2; obtain ⟨a11, a12⟩ := a1
    rw [a31, a32, a21, a23]
    refine ⟨?_, ⟨upd f9 0 0, by simp [va_up], pk_us⟩, by assumption, ?_⟩
    · exact pk_us
    · rw [a12] at a22 ⊢; exact mt_r5_up hre
  have hP9 := hP
  have hD9 := hD
  exact W.vret hx hb hr (fun t ht hW => ⟨⟨(x2, upd rf 0 0, sf110, re111), rfl, post9, by rw [ht]; exact hP9, hD9⟩, hS.F ht⟩) hS.2.2 d_fl_chartCell_95

set_option maxHeartbeats 4000000 in
set_option maxRecDepth 100000 in
theorem c_fl_chart (l : Launch) (D : va_G) (cZ cI cJ cII : ClassId) (fa : Nat) (wa : Nat) (fc : Int32) (ra : Nat) (sa : Nat) (ta : Nat) (wf : Nat → Int32) (rf : Nat → Int32) (sf : Nat → Int32) (rr : Nat → Nat) (re : Nat → va_E) (W0 : Nat) (H0 : Nat) (sz : Nat) (hWH : W0 ≤ 6 ∧ H0 ≤ 6 ∧ W0 * H0 ≤ 25) (hre : mt_r5 cI re) : Met l y_fl_chart w_fl_chart ({ frames := 4, cells := 0, slots := 0, locals := 160 }) (va_Pc [.ref fa] (mt_B D [(cZ, .boolean), (cI, .int), (cJ, .long), (cII, .array .int)] ([(fa, .inr (1, [.int (nI W0), .int (nI H0), .ref wa, .int fc, .ref ra, .ref sa, .ref ta])), (wa, .inl (cZ, 25, .inl wf)), (ra, .inl (cI, 25, .inl rf)), (sa, .inl (cI, 25, .inl sf)), (ta, .inl (cII, 25, .inr (.inr (.inr (.inr (fun i => if i < 25 then some (rr i) else none))))))] ++ mt_rw 25 rr re) sz)) ((fun A => va_Qv (fun (u : Int32 × (Nat → Int32) × (Nat → Int32) × (Nat → va_E)) => mt_r5 cI (u.2.2.2)) (fun (u : Int32 × (Nat → Int32) × (Nat → Int32) × (Nat → va_E)) (t : State) => mt_O D A ([(fa, .inr (1, [.int (nI W0), .int (nI H0), .ref wa, .int (u.1), .ref ra, .ref sa, .ref ta])), (wa, .inl (cZ, 25, .inl wf)), (ra, .inl (cI, 25, .inl (u.2.1))), (sa, .inl (cI, 25, .inl (u.2.2.1))), (ta, .inl (cII, 25, .inr (.inr (.inr (.inr (fun i => if i < 25 then some (rr i) else none))))))] ++ mt_rw 25 rr (u.2.2.2)) t) A) (va_A ([(fa, .inr (1, [.int (nI W0), .int (nI H0), .ref wa, .int fc, .ref ra, .ref sa, .ref ta])), (wa, .inl (cZ, 25, .inl wf)), (ra, .inl (cI, 25, .inl rf)), (sa, .inl (cI, 25, .inl sf)), (ta, .inl (cII, 25, .inr (.inr (.inr (.inr (fun i => if i < 25 then some (rr i) else none))))))] ++ mt_rw 25 rr re) sz)) 0 0 (va_A ([(fa, .inr (1, [.int (nI W0), .int (nI H0), .ref wa, .int fc, .ref ra, .ref sa, .ref ta])), (wa, .inl (cZ, 25, .inl wf)), (ra, .inl (cI, 25, .inl rf)), (sa, .inl (cI, 25, .inl sf)), (ta, .inl (cII, 25, .inr (.inr (.inr (.inr (fun i => if i < 25 then some (rr i) else none))))))] ++ mt_rw 25 rr re) sz) := by
  refine mt_of (y := y_fl_chart) (n := 3) (av := [.ref fa]) (QF := (fun A => va_Qv (fun (u : Int32 × (Nat → Int32) × (Nat → Int32) × (Nat → va_E)) => mt_r5 cI (u.2.2.2)) (fun (u : Int32 × (Nat → Int32) × (Nat → Int32) × (Nat → va_E)) (t : State) => mt_O D A ([(fa, .inr (1, [.int (nI W0), .int (nI H0), .ref wa, .int (u.1), .ref ra, .ref sa, .ref ta])), (wa, .inl (cZ, 25, .inl wf)), (ra, .inl (cI, 25, .inl (u.2.1))), (sa, .inl (cI, 25, .inl (u.2.2.1))), (ta, .inl (cII, 25, .inr (.inr (.inr (.inr (fun i => if i < 25 then some (rr i) else none))))))] ++ mt_rw 25 rr (u.2.2.2)) t) A)) (by decide) (Nat.le_of_ble_eq_true rfl) ?_
  intro p e s m below meth c ls A hx hb hr hlk hml hown hnm hg hl hX hP hK hD hA hS
  obtain ⟨H, hH⟩ : ∃ H : Heap, H = s.heap := ⟨_, rfl⟩
  have hS : va_S A s.heap H [] := by rw [hH]; exact va_S.rf
  rw [← hH] at hP ⊢
  have hown : s.vm.findClass R_fl = some m.cls := hown
  have hl : lv_has ls 3 [(0, .ref fa)] := hl
  refine lv_aload_n hx hb d_fl_chart_0 rfl (lv_at hl 0 rfl) ?_
  refine lv_iconst (v := 0) hx hb d_fl_chart_1 (by decide) ?_
  refine pf_fl_48 hx hb hg hown hK hP hD hS 0 rfl rfl rfl (Nat.le_of_ble_eq_true rfl) d_fl_chart_2 (fun H locs hP hD hS => ?_)
  have hP : va_P D kls ([(fa, .inr (1, [.int (nI W0), .int (nI H0), .ref wa, .int 0, .ref ra, .ref sa, .ref ta])), (wa, .inl (cZ, 25, .inl wf)), (ra, .inl (cI, 25, .inl rf)), (sa, .inl (cI, 25, .inl sf)), (ta, .inl (cII, 25, .inr (.inr (.inr (.inr (fun i => if i < 25 then some (rr i) else none))))))] ++ mt_rw 25 rr re) H := hP
  have hD : va_D A ([(fa, .inr (1, [.int (nI W0), .int (nI H0), .ref wa, .int 0, .ref ra, .ref sa, .ref ta])), (wa, .inl (cZ, 25, .inl wf)), (ra, .inl (cI, 25, .inl rf)), (sa, .inl (cI, 25, .inl sf)), (ta, .inl (cII, 25, .inr (.inr (.inr (.inr (fun i => if i < 25 then some (rr i) else none))))))] ++ mt_rw 25 rr re) := hD
  refine lv_iconst (v := 0) hx hb d_fl_chart_5 (by decide) ?_
  refine lv_istore_n hx hb d_fl_chart_6 rfl hl (by decide) rfl (fun ls hl => ?_)
  have hl : lv_has ls 3 [(1, .int 0), (0, .ref fa)] := hl
  have hl := lv_sub hl [0, 1] (l' := [(1, .int (nI 0)), (0, .ref fa)]) rfl
  refine mt_loop (ι := Nat × Int32 × (Nat → Int32) × (Nat → Int32) × (Nat → va_E)) (I := fun i ls H locs => ((i.1) ≤ H0) ∧ (mt_r5 cI (i.2.2.2.2)) ∧ lv_has ls 3 [(1, .int (nI (i.1))), (0, .ref fa)] ∧ va_P D kls ([(fa, .inr (1, [.int (nI W0), .int (nI H0), .ref wa, .int (i.2.1), .ref ra, .ref sa, .ref ta])), (wa, .inl (cZ, 25, .inl wf)), (ra, .inl (cI, 25, .inl (i.2.2.1))), (sa, .inl (cI, 25, .inl (i.2.2.2.1))), (ta, .inl (cII, 25, .inr (.inr (.inr (.inr (fun i => if i < 25 then some (rr i) else none))))))] ++ mt_rw 25 rr (i.2.2.2.2)) H ∧ va_D A ([(fa, .inr (1, [.int (nI W0), .int (nI H0), .ref wa, .int (i.2.1), .ref ra, .ref sa, .ref ta])), (wa, .inl (cZ, 25, .inl wf)), (ra, .inl (cI, 25, .inl (i.2.2.1))), (sa, .inl (cI, 25, .inl (i.2.2.2.1))), (ta, .inl (cII, 25, .inr (.inr (.inr (.inr (fun i => if i < 25 then some (rr i) else none))))))] ++ mt_rw 25 rr (i.2.2.2.2)) ∧ va_S A s.heap H locs) (μ := fun i => H0 - (i.1)) ?_ (0, 0, rf, sf, re) ls H _ ⟨Nat.zero_le _, hre, hl, hP, hD, hS⟩
  clear hl hP hD hS
  intro i_a ls H locs ⟨hy, hv, hl, hP, hD, hS⟩ ih_a
  obtain ⟨y, vc, vr, vs, ve⟩ := i_a
  have hy : y ≤ H0 := hy
  have hv : mt_r5 cI ve := hv
  have hl : lv_has ls 3 [(1, .int (nI y)), (0, .ref fa)] := hl
  have hP : va_P D kls ([(fa, .inr (1, [.int (nI W0), .int (nI H0), .ref wa, .int vc, .ref ra, .ref sa, .ref ta])), (wa, .inl (cZ, 25, .inl wf)), (ra, .inl (cI, 25, .inl vr)), (sa, .inl (cI, 25, .inl vs)), (ta, .inl (cII, 25, .inr (.inr (.inr (.inr (fun i => if i < 25 then some (rr i) else none))))))] ++ mt_rw 25 rr ve) H := hP
  have hD : va_D A ([(fa, .inr (1, [.int (nI W0), .int (nI H0), .ref wa, .int vc, .ref ra, .ref sa, .ref ta])), (wa, .inl (cZ, 25, .inl wf)), (ra, .inl (cI, 25, .inl vr)), (sa, .inl (cI, 25, .inl vs)), (ta, .inl (cII, 25, .inr (.inr (.inr (.inr (fun i => if i < 25 then some (rr i) else none))))))] ++ mt_rw 25 rr ve) := hD
  refine lv_iload_n hx hb d_fl_chart_7 rfl (lv_at hl 0 rfl) ?_
  refine lv_aload_n hx hb d_fl_chart_8 rfl (lv_at hl 1 rfl) ?_
  refine gf_fl_35 hx hb hg hown hK hP 0 rfl rfl d_fl_chart_9 ?_
  refine lv_icmp_ge hx hb d_fl_chart_12 rfl (fun g1 => ?_) (fun g1 => ?_)
  ·
    have hP9 := hP
    have hD9 := hD
    exact W.vret hx hb hr (fun t ht hW => ⟨⟨(vc, vr, vs, ve), rfl, hv, by rw [ht]; exact hP9, hD9⟩, hS.F ht⟩) hS.2.2 d_fl_chart_50
  ·
    have g2 : y < H0 := by rcases Nat.lt_or_ge y H0 with h | h; exact h; exact absurd (nI_le h (by omega)) g1
    refine lv_iconst (v := 0) hx hb d_fl_chart_15 (by decide) ?_
    refine lv_istore_n hx hb d_fl_chart_16 rfl hl (by decide) rfl (fun ls hl => ?_)
    have hl : lv_has ls 3 [(2, .int 0), (1, .int (nI y)), (0, .ref fa)] := hl
    have hl := lv_sub hl [0, 1, 2] (l' := [(2, .int (nI 0)), (1, .int (nI y)), (0, .ref fa)]) rfl
    refine mt_loop (ι := Nat × Int32 × (Nat → Int32) × (Nat → Int32) × (Nat → va_E)) (I := fun i ls H locs => ((i.1) ≤ W0) ∧ (mt_r5 cI (i.2.2.2.2)) ∧ lv_has ls 3 [(2, .int (nI (i.1))), (1, .int (nI y)), (0, .ref fa)] ∧ va_P D kls ([(fa, .inr (1, [.int (nI W0), .int (nI H0), .ref wa, .int (i.2.1), .ref ra, .ref sa, .ref ta])), (wa, .inl (cZ, 25, .inl wf)), (ra, .inl (cI, 25, .inl (i.2.2.1))), (sa, .inl (cI, 25, .inl (i.2.2.2.1))), (ta, .inl (cII, 25, .inr (.inr (.inr (.inr (fun i => if i < 25 then some (rr i) else none))))))] ++ mt_rw 25 rr (i.2.2.2.2)) H ∧ va_D A ([(fa, .inr (1, [.int (nI W0), .int (nI H0), .ref wa, .int (i.2.1), .ref ra, .ref sa, .ref ta])), (wa, .inl (cZ, 25, .inl wf)), (ra, .inl (cI, 25, .inl (i.2.2.1))), (sa, .inl (cI, 25, .inl (i.2.2.2.1))), (ta, .inl (cII, 25, .inr (.inr (.inr (.inr (fun i => if i < 25 then some (rr i) else none))))))] ++ mt_rw 25 rr (i.2.2.2.2)) ∧ va_S A s.heap H locs) (μ := fun i => W0 - (i.1)) ?_ (0, vc, vr, vs, ve) ls H _ ⟨Nat.zero_le _, hv, hl, hP, hD, hS⟩
    clear hl hP hD hS
    intro i_b ls H locs ⟨hxx, hv2, hl, hP, hD, hS⟩ ih_b
    obtain ⟨x, uc, ur, us, ue⟩ := i_b
    have hxx : x ≤ W0 := hxx
    have hv2 : mt_r5 cI ue := hv2
    have hl : lv_has ls 3 [(2, .int (nI x)), (1, .int (nI y)), (0, .ref fa)] := hl
    have hP : va_P D kls ([(fa, .inr (1, [.int (nI W0), .int (nI H0), .ref wa, .int uc, .ref ra, .ref sa, .ref ta])), (wa, .inl (cZ, 25, .inl wf)), (ra, .inl (cI, 25, .inl ur)), (sa, .inl (cI, 25, .inl us)), (ta, .inl (cII, 25, .inr (.inr (.inr (.inr (fun i => if i < 25 then some (rr i) else none))))))] ++ mt_rw 25 rr ue) H := hP
    have hD : va_D A ([(fa, .inr (1, [.int (nI W0), .int (nI H0), .ref wa, .int uc, .ref ra, .ref sa, .ref ta])), (wa, .inl (cZ, 25, .inl wf)), (ra, .inl (cI, 25, .inl ur)), (sa, .inl (cI, 25, .inl us)), (ta, .inl (cII, 25, .inr (.inr (.inr (.inr (fun i => if i < 25 then some (rr i) else none))))))] ++ mt_rw 25 rr ue) := hD
    refine lv_iload_n hx hb d_fl_chart_17 rfl (lv_at hl 0 rfl) ?_
    refine lv_aload_n hx hb d_fl_chart_18 rfl (lv_at hl 2 rfl) ?_
    refine gf_fl_31 hx hb hg hown hK hP 0 rfl rfl d_fl_chart_19 ?_
    refine lv_icmp_ge hx hb d_fl_chart_22 rfl (fun g3 => ?_) (fun g3 => ?_)
    ·
      refine lv_iinc (k := 1) (v := nI (y + 1)) hx hb d_fl_chart_44 hl rfl ((nI_succ y).symm) (by decide) rfl (fun ls hl => ?_)
      have hl : lv_has ls 3 [(1, .int (nI (y + 1))), (2, .int (nI x)), (0, .ref fa)] := hl
      refine lv_goto hx hb d_fl_chart_47 rfl ?_
      have hl := lv_sub hl [0, 2] (l' := [(1, .int (nI (y + 1))), (0, .ref fa)]) rfl
      exact ih_a (y + 1, uc, ur, us, ue) ls H _ (by show H0 - (y + 1) < H0 - y; omega) ⟨by show y + 1 ≤ H0; omega, hv2, hl, hP, hD, hS⟩
    ·
      have g4 : x < W0 := by rcases Nat.lt_or_ge x W0 with h | h; exact h; exact absurd (nI_le h (by omega)) g3
      have g5 : W0 * y + x < 25 := by
        have q : W0 * (y + 1) ≤ W0 * H0 := Nat.mul_le_mul_left _ g2
        have q2 : W0 * (y + 1) = W0 * y + W0 := Nat.mul_succ _ _
        omega
      refine lv_aload_n hx hb d_fl_chart_25 rfl (lv_at hl 2 rfl) ?_
      refine lv_iload_n hx hb d_fl_chart_26 rfl (lv_at hl 0 rfl) ?_
      refine lv_aload_n hx hb d_fl_chart_27 rfl (lv_at hl 2 rfl) ?_
      refine gf_fl_31 hx hb hg hown hK hP 0 rfl rfl d_fl_chart_28 ?_
      refine lv_iload_n hx hb d_fl_chart_31 rfl (lv_at hl 1 rfl) ?_
      refine lv_imul hx hb d_fl_chart_32 ?_
      refine lv_iload_n hx hb d_fl_chart_33 rfl (lv_at hl 0 rfl) ?_
      refine lv_iadd hx hb d_fl_chart_34 ?_
      refine lv_topi (fun y1 ey1 => ?_)
      have ey1 : y1 = nI (W0 * y + x) := ey1.trans (by rw [pk_mul, nI_add])
      subst ey1
      have hPc := hP
      have hDc := hD
      have hFc := mt_whole hD hS hA
      refine va_callv (va_runV (As := [.int (nI x), .int (nI (W0 * y + x))]) (rest := []) ⟨hx, hb, hml, hown, hg⟩ (c_fl_chartCell l D cZ cI cJ cII fa (nI W0) (nI H0) wa uc ra sa ta wf ur us rr ue (nI x) (W0 * y + x) H.size (mt_b25 hWH.2.2) g5 hv2) (cwV 2 hg gv_fl_51 rfl rfl rfl (by decide +kernel) ⟨Nat.le_of_ble_eq_true rfl, Nat.le_of_ble_eq_true rfl⟩) ⟨mt_bl, va_recv (q0 := 0) (ci := 1) hK hP rfl rfl, mt_pr hX hPc hK hDc⟩ rfl rfl hl.1 rfl (lv_room (Nat.le_of_ble_eq_true rfl)) d_fl_chart_35 ⟨Nat.le_of_ble_eq_true rfl, Nat.le_of_ble_eq_true rfl⟩) hS (fun q _ h => hFc q h) hFc (fun u t H1 locs ht hvm hw hB hz1 hk1 hS => ?_)
      obtain ⟨fc13, rf14, sf15, re16⟩ := u
      have hr2 : mt_r5 cI re16 := hw
      obtain ⟨hP1, hD1⟩ := hB
      rw [ht] at hP1
      have hP := hP1
      have hD := hD1.weaken (fun _ _ _ h => hFc _ h)
      generalize H1 = H at hP hS ⊢
      have hP : va_P D kls ([(fa, .inr (1, [.int (nI W0), .int (nI H0), .ref wa, .int fc13, .ref ra, .ref sa, .ref ta])), (wa, .inl (cZ, 25, .inl wf)), (ra, .inl (cI, 25, .inl rf14)), (sa, .inl (cI, 25, .inl sf15)), (ta, .inl (cII, 25, .inr (.inr (.inr (.inr (fun i => if i < 25 then some (rr i) else none))))))] ++ mt_rw 25 rr re16) H := hP
      have hD : va_D A ([(fa, .inr (1, [.int (nI W0), .int (nI H0), .ref wa, .int fc13, .ref ra, .ref sa, .ref ta])), (wa, .inl (cZ, 25, .inl wf)), (ra, .inl (cI, 25, .inl rf14)), (sa, .inl (cI, 25, .inl sf15)), (ta, .inl (cII, 25, .inr (.inr (.inr (.inr (fun i => if i < 25 then some (rr i) else none))))))] ++ mt_rw 25 rr re16) := hD
      have hv3 := hr2
      refine lv_iinc (k := 0) (v := nI (x + 1)) hx hb d_fl_chart_38 hl rfl ((nI_succ x).symm) (by decide) rfl (fun ls hl => ?_)
      have hl : lv_has ls 3 [(2, .int (nI (x + 1))), (1, .int (nI y)), (0, .ref fa)] := hl
      refine lv_goto hx hb d_fl_chart_41 rfl ?_
      have hl := lv_sub hl [0, 1, 2] (l' := [(2, .int (nI (x + 1))), (1, .int (nI y)), (0, .ref fa)]) rfl
      exact ih_b (x + 1, fc13, rf14, sf15, re16) ls H _ (by show W0 - (x + 1) < W0 - x; omega) ⟨by show x + 1 ≤ W0; omega, hv3, hl, hP, hD, hS⟩

set_option maxHeartbeats 4000000 in
set_option maxRecDepth 100000 in
theorem c_fl_chart1 (l : Launch) (D : va_G) (cZ cI cJ cII : ClassId) (fa : Nat) (wa : Nat) (fc : Int32) (ra : Nat) (sa : Nat) (ta : Nat) (wf : Nat → Int32) (rf : Nat → Int32) (sf : Nat → Int32) (rr : Nat → Nat) (re : Nat → va_E) (sz : Nat) (hw0 : wf 0 = 0) (hre : mt_r5 cI re) : Met l y_fl_chart w_fl_chart ({ frames := 4, cells := 0, slots := 0, locals := 160 }) (va_Pc [.ref fa] (mt_B D [(cZ, .boolean), (cI, .int), (cJ, .long), (cII, .array .int)] ([(fa, .inr (1, [.int 1, .int 1, .ref wa, .int fc, .ref ra, .ref sa, .ref ta])), (wa, .inl (cZ, 25, .inl wf)), (ra, .inl (cI, 25, .inl rf)), (sa, .inl (cI, 25, .inl sf)), (ta, .inl (cII, 25, .inr (.inr (.inr (.inr (fun i => if i < 25 then some (rr i) else none))))))] ++ mt_rw 25 rr re) sz)) ((fun A => va_Qv (fun (u : Int32 × (Nat → Int32) × (Nat → Int32) × (Nat → va_E)) => (u.2.2.1) 0 = 1 ∧ (∃ f : Nat → Int32, (u.2.2.2) 0 = .inl (cI, 5, .inl f) ∧ f 0 = 0) ∧ (u.1) = 1 ∧ mt_r5 cI (u.2.2.2)) (fun (u : Int32 × (Nat → Int32) × (Nat → Int32) × (Nat → va_E)) (t : State) => mt_O D A ([(fa, .inr (1, [.int 1, .int 1, .ref wa, .int (u.1), .ref ra, .ref sa, .ref ta])), (wa, .inl (cZ, 25, .inl wf)), (ra, .inl (cI, 25, .inl (u.2.1))), (sa, .inl (cI, 25, .inl (u.2.2.1))), (ta, .inl (cII, 25, .inr (.inr (.inr (.inr (fun i => if i < 25 then some (rr i) else none))))))] ++ mt_rw 25 rr (u.2.2.2)) t) A) (va_A ([(fa, .inr (1, [.int 1, .int 1, .ref wa, .int fc, .ref ra, .ref sa, .ref ta])), (wa, .inl (cZ, 25, .inl wf)), (ra, .inl (cI, 25, .inl rf)), (sa, .inl (cI, 25, .inl sf)), (ta, .inl (cII, 25, .inr (.inr (.inr (.inr (fun i => if i < 25 then some (rr i) else none))))))] ++ mt_rw 25 rr re) sz)) 0 0 (va_A ([(fa, .inr (1, [.int 1, .int 1, .ref wa, .int fc, .ref ra, .ref sa, .ref ta])), (wa, .inl (cZ, 25, .inl wf)), (ra, .inl (cI, 25, .inl rf)), (sa, .inl (cI, 25, .inl sf)), (ta, .inl (cII, 25, .inr (.inr (.inr (.inr (fun i => if i < 25 then some (rr i) else none))))))] ++ mt_rw 25 rr re) sz) := by
  refine mt_of (y := y_fl_chart) (n := 3) (av := [.ref fa]) (QF := (fun A => va_Qv (fun (u : Int32 × (Nat → Int32) × (Nat → Int32) × (Nat → va_E)) => (u.2.2.1) 0 = 1 ∧ (∃ f : Nat → Int32, (u.2.2.2) 0 = .inl (cI, 5, .inl f) ∧ f 0 = 0) ∧ (u.1) = 1 ∧ mt_r5 cI (u.2.2.2)) (fun (u : Int32 × (Nat → Int32) × (Nat → Int32) × (Nat → va_E)) (t : State) => mt_O D A ([(fa, .inr (1, [.int 1, .int 1, .ref wa, .int (u.1), .ref ra, .ref sa, .ref ta])), (wa, .inl (cZ, 25, .inl wf)), (ra, .inl (cI, 25, .inl (u.2.1))), (sa, .inl (cI, 25, .inl (u.2.2.1))), (ta, .inl (cII, 25, .inr (.inr (.inr (.inr (fun i => if i < 25 then some (rr i) else none))))))] ++ mt_rw 25 rr (u.2.2.2)) t) A)) (by decide) (Nat.le_of_ble_eq_true rfl) ?_
  intro p e s m below meth c ls A hx hb hr hlk hml hown hnm hg hl hX hP hK hD hA hS
  obtain ⟨H, hH⟩ : ∃ H : Heap, H = s.heap := ⟨_, rfl⟩
  have hS : va_S A s.heap H [] := by rw [hH]; exact va_S.rf
  rw [← hH] at hP ⊢
  have hown : s.vm.findClass R_fl = some m.cls := hown
  have hl : lv_has ls 3 [(0, .ref fa)] := hl
  refine lv_aload_n hx hb d_fl_chart_0 rfl (lv_at hl 0 rfl) ?_
  refine lv_iconst (v := 0) hx hb d_fl_chart_1 (by decide) ?_
  refine pf_fl_48 hx hb hg hown hK hP hD hS 0 rfl rfl rfl (Nat.le_of_ble_eq_true rfl) d_fl_chart_2 (fun H locs hP hD hS => ?_)
  have hP : va_P D kls ([(fa, .inr (1, [.int 1, .int 1, .ref wa, .int 0, .ref ra, .ref sa, .ref ta])), (wa, .inl (cZ, 25, .inl wf)), (ra, .inl (cI, 25, .inl rf)), (sa, .inl (cI, 25, .inl sf)), (ta, .inl (cII, 25, .inr (.inr (.inr (.inr (fun i => if i < 25 then some (rr i) else none))))))] ++ mt_rw 25 rr re) H := hP
  have hD : va_D A ([(fa, .inr (1, [.int 1, .int 1, .ref wa, .int 0, .ref ra, .ref sa, .ref ta])), (wa, .inl (cZ, 25, .inl wf)), (ra, .inl (cI, 25, .inl rf)), (sa, .inl (cI, 25, .inl sf)), (ta, .inl (cII, 25, .inr (.inr (.inr (.inr (fun i => if i < 25 then some (rr i) else none))))))] ++ mt_rw 25 rr re) := hD
  refine lv_iconst (v := 0) hx hb d_fl_chart_5 (by decide) ?_
  refine lv_istore_n hx hb d_fl_chart_6 rfl hl (by decide) rfl (fun ls hl => ?_)
  have hl : lv_has ls 3 [(1, .int 0), (0, .ref fa)] := hl
  refine lv_iload_n hx hb d_fl_chart_7 rfl (lv_at hl 0 rfl) ?_
  refine lv_aload_n hx hb d_fl_chart_8 rfl (lv_at hl 1 rfl) ?_
  refine gf_fl_35 hx hb hg hown hK hP 0 rfl rfl d_fl_chart_9 ?_
  refine lv_icmp_ge hx hb d_fl_chart_12 rfl (fun h => absurd h (by decide)) (fun _ => ?_)
  refine lv_iconst (v := 0) hx hb d_fl_chart_15 (by decide) ?_
  refine lv_istore_n hx hb d_fl_chart_16 rfl hl (by decide) rfl (fun ls hl => ?_)
  have hl : lv_has ls 3 [(2, .int 0), (1, .int 0), (0, .ref fa)] := hl
  refine lv_iload_n hx hb d_fl_chart_17 rfl (lv_at hl 0 rfl) ?_
  refine lv_aload_n hx hb d_fl_chart_18 rfl (lv_at hl 2 rfl) ?_
  refine gf_fl_31 hx hb hg hown hK hP 0 rfl rfl d_fl_chart_19 ?_
  refine lv_icmp_ge hx hb d_fl_chart_22 rfl (fun h => absurd h (by decide)) (fun _ => ?_)
  refine lv_aload_n hx hb d_fl_chart_25 rfl (lv_at hl 2 rfl) ?_
  refine lv_iload_n hx hb d_fl_chart_26 rfl (lv_at hl 0 rfl) ?_
  refine lv_aload_n hx hb d_fl_chart_27 rfl (lv_at hl 2 rfl) ?_
  refine gf_fl_31 hx hb hg hown hK hP 0 rfl rfl d_fl_chart_28 ?_
  refine lv_iload_n hx hb d_fl_chart_31 rfl (lv_at hl 1 rfl) ?_
  refine lv_imul hx hb d_fl_chart_32 ?_
  refine lv_iload_n hx hb d_fl_chart_33 rfl (lv_at hl 0 rfl) ?_
  refine lv_iadd hx hb d_fl_chart_34 ?_
  refine lv_topi (fun y1 ey1 => ?_)
  have ey1 : y1 = 0 := ey1.trans (by decide)
  subst ey1
  have hPc := hP
  have hDc := hD
  have hFc := mt_whole hD hS hA
  refine va_callv (va_runV (As := [.int 0, .int 0]) (rest := []) ⟨hx, hb, hml, hown, hg⟩ (c_fl_chartCell1 l D cZ cI cJ cII fa wa ra sa ta wf rf sf rr re H.size hw0 hre) (cwV 2 hg gv_fl_51 rfl rfl rfl (by decide +kernel) ⟨Nat.le_of_ble_eq_true rfl, Nat.le_of_ble_eq_true rfl⟩) ⟨mt_bl, va_recv (q0 := 0) (ci := 1) hK hP rfl rfl, mt_pr hX hPc hK hDc⟩ rfl rfl hl.1 rfl (lv_room (Nat.le_of_ble_eq_true rfl)) d_fl_chart_35 ⟨Nat.le_of_ble_eq_true rfl, Nat.le_of_ble_eq_true rfl⟩) hS (fun q _ h => hFc q h) hFc (fun u t H1 locs ht hvm hw hB hz1 hk1 hS => ?_)
  obtain ⟨fc13, rf14, sf15, re16⟩ := u
  have hr2 : sf15 0 = 1 ∧ (∃ f : Nat → Int32, re16 0 = .inl (cI, 5, .inl f) ∧ f 0 = 0) ∧ fc13 = 1 ∧ mt_r5 cI re16 := hw
  obtain ⟨hP1, hD1⟩ := hB
  rw [ht] at hP1
  have hP := hP1
  have hD := hD1.weaken (fun _ _ _ h => hFc _ h)
  generalize H1 = H at hP hS ⊢
  have hP : va_P D kls ([(fa, .inr (1, [.int 1, .int 1, .ref wa, .int fc13, .ref ra, .ref sa, .ref ta])), (wa, .inl (cZ, 25, .inl wf)), (ra, .inl (cI, 25, .inl rf14)), (sa, .inl (cI, 25, .inl sf15)), (ta, .inl (cII, 25, .inr (.inr (.inr (.inr (fun i => if i < 25 then some (rr i) else none))))))] ++ mt_rw 25 rr re16) H := hP
  have hD : va_D A ([(fa, .inr (1, [.int 1, .int 1, .ref wa, .int fc13, .ref ra, .ref sa, .ref ta])), (wa, .inl (cZ, 25, .inl wf)), (ra, .inl (cI, 25, .inl rf14)), (sa, .inl (cI, 25, .inl sf15)), (ta, .inl (cII, 25, .inr (.inr (.inr (.inr (fun i => if i < 25 then some (rr i) else none))))))] ++ mt_rw 25 rr re16) := hD
  have a9 := hr2
  refine lv_iinc (k := 0) (v := 1) hx hb d_fl_chart_38 hl rfl (by decide) (by decide) rfl (fun ls hl => ?_)
  have hl : lv_has ls 3 [(2, .int 1), (1, .int 0), (0, .ref fa)] := hl
  refine lv_goto hx hb d_fl_chart_41 rfl ?_
  refine lv_iload_n hx hb d_fl_chart_17 rfl (lv_at hl 0 rfl) ?_
  refine lv_aload_n hx hb d_fl_chart_18 rfl (lv_at hl 2 rfl) ?_
  refine gf_fl_31 hx hb hg hown hK hP 0 rfl rfl d_fl_chart_19 ?_
  refine lv_icmp_ge hx hb d_fl_chart_22 rfl (fun _ => ?_) (fun h => absurd (by decide) h)
  refine lv_iinc (k := 1) (v := 1) hx hb d_fl_chart_44 hl rfl (by decide) (by decide) rfl (fun ls hl => ?_)
  have hl : lv_has ls 3 [(1, .int 1), (2, .int 1), (0, .ref fa)] := hl
  refine lv_goto hx hb d_fl_chart_47 rfl ?_
  refine lv_iload_n hx hb d_fl_chart_7 rfl (lv_at hl 0 rfl) ?_
  refine lv_aload_n hx hb d_fl_chart_8 rfl (lv_at hl 2 rfl) ?_
  refine gf_fl_35 hx hb hg hown hK hP 0 rfl rfl d_fl_chart_9 ?_
  refine lv_icmp_ge hx hb d_fl_chart_12 rfl (fun _ => ?_) (fun h => absurd (by decide) h)
  have hP9 := hP
  have hD9 := hD
  exact W.vret hx hb hr (fun t ht hW => ⟨⟨(fc13, rf14, sf15, re16), rfl, a9, by rw [ht]; exact hP9, hD9⟩, hS.F ht⟩) hS.2.2 d_fl_chart_50

set_option maxHeartbeats 4000000 in
set_option maxRecDepth 100000 in
theorem c_fl_build (l : Launch) (D : va_G) (cZ cI cJ cII : ClassId) (fa : Nat) (wa : Nat) (fc : Int32) (ra : Nat) (sa : Nat) (ta : Nat) (fw : Int32) (fh : Int32) (wf : Nat → Int32) (rf : Nat → Int32) (sf : Nat → Int32) (rr : Nat → Nat) (re : Nat → va_E) (W0 : Nat) (H0 : Nat) (sz : Nat) (hWH : W0 ≤ 6 ∧ H0 ≤ 6 ∧ W0 * H0 ≤ 25) (hre : mt_r5 cI re) : Met l y_fl_build w_fl_build ({ frames := 5, cells := 0, slots := 0, locals := 200 }) (va_Pc [.ref fa, .int (nI W0), .int (nI H0)] (mt_B D [(cZ, .boolean), (cI, .int), (cJ, .long), (cII, .array .int)] ([(fa, .inr (1, [.int fw, .int fh, .ref wa, .int fc, .ref ra, .ref sa, .ref ta])), (wa, .inl (cZ, 25, .inl wf)), (ra, .inl (cI, 25, .inl rf)), (sa, .inl (cI, 25, .inl sf)), (ta, .inl (cII, 25, .inr (.inr (.inr (.inr (fun i => if i < 25 then some (rr i) else none))))))] ++ mt_rw 25 rr re) sz)) ((fun A => va_Qv (fun (u : (Nat → Int32) × Int32 × (Nat → Int32) × (Nat → Int32) × (Nat → va_E)) => (∀ j, j < 25 → (u.1) j = 0) ∧ mt_r5 cI (u.2.2.2.2)) (fun (u : (Nat → Int32) × Int32 × (Nat → Int32) × (Nat → Int32) × (Nat → va_E)) (t : State) => mt_O D A ([(fa, .inr (1, [.int (nI W0), .int (nI H0), .ref wa, .int (u.2.1), .ref ra, .ref sa, .ref ta])), (wa, .inl (cZ, 25, .inl (u.1))), (ra, .inl (cI, 25, .inl (u.2.2.1))), (sa, .inl (cI, 25, .inl (u.2.2.2.1))), (ta, .inl (cII, 25, .inr (.inr (.inr (.inr (fun i => if i < 25 then some (rr i) else none))))))] ++ mt_rw 25 rr (u.2.2.2.2)) t) A) (va_A ([(fa, .inr (1, [.int fw, .int fh, .ref wa, .int fc, .ref ra, .ref sa, .ref ta])), (wa, .inl (cZ, 25, .inl wf)), (ra, .inl (cI, 25, .inl rf)), (sa, .inl (cI, 25, .inl sf)), (ta, .inl (cII, 25, .inr (.inr (.inr (.inr (fun i => if i < 25 then some (rr i) else none))))))] ++ mt_rw 25 rr re) sz)) 0 0 (va_A ([(fa, .inr (1, [.int fw, .int fh, .ref wa, .int fc, .ref ra, .ref sa, .ref ta])), (wa, .inl (cZ, 25, .inl wf)), (ra, .inl (cI, 25, .inl rf)), (sa, .inl (cI, 25, .inl sf)), (ta, .inl (cII, 25, .inr (.inr (.inr (.inr (fun i => if i < 25 then some (rr i) else none))))))] ++ mt_rw 25 rr re) sz) := by
  refine mt_of (y := y_fl_build) (n := 4) (av := [.ref fa, .int (nI W0), .int (nI H0)]) (QF := (fun A => va_Qv (fun (u : (Nat → Int32) × Int32 × (Nat → Int32) × (Nat → Int32) × (Nat → va_E)) => (∀ j, j < 25 → (u.1) j = 0) ∧ mt_r5 cI (u.2.2.2.2)) (fun (u : (Nat → Int32) × Int32 × (Nat → Int32) × (Nat → Int32) × (Nat → va_E)) (t : State) => mt_O D A ([(fa, .inr (1, [.int (nI W0), .int (nI H0), .ref wa, .int (u.2.1), .ref ra, .ref sa, .ref ta])), (wa, .inl (cZ, 25, .inl (u.1))), (ra, .inl (cI, 25, .inl (u.2.2.1))), (sa, .inl (cI, 25, .inl (u.2.2.2.1))), (ta, .inl (cII, 25, .inr (.inr (.inr (.inr (fun i => if i < 25 then some (rr i) else none))))))] ++ mt_rw 25 rr (u.2.2.2.2)) t) A)) (by decide) (Nat.le_of_ble_eq_true rfl) ?_
  intro p e s m below meth c ls A hx hb hr hlk hml hown hnm hg hl hX hP hK hD hA hS
  obtain ⟨H, hH⟩ : ∃ H : Heap, H = s.heap := ⟨_, rfl⟩
  have hS : va_S A s.heap H [] := by rw [hH]; exact va_S.rf
  rw [← hH] at hP ⊢
  have hown : s.vm.findClass R_fl = some m.cls := hown
  have hl : lv_has ls 4 [(0, .ref fa), (1, .int (nI W0)), (2, .int (nI H0))] := hl
  refine lv_aload_n hx hb d_fl_build_0 rfl (lv_at hl 0 rfl) ?_
  refine lv_iload_n hx hb d_fl_build_1 rfl (lv_at hl 1 rfl) ?_
  refine pf_fl_31 hx hb hg hown hK hP hD hS 0 rfl rfl rfl (Nat.le_of_ble_eq_true rfl) d_fl_build_2 (fun H locs hP hD hS => ?_)
  have hP : va_P D kls ([(fa, .inr (1, [.int (nI W0), .int fh, .ref wa, .int fc, .ref ra, .ref sa, .ref ta])), (wa, .inl (cZ, 25, .inl wf)), (ra, .inl (cI, 25, .inl rf)), (sa, .inl (cI, 25, .inl sf)), (ta, .inl (cII, 25, .inr (.inr (.inr (.inr (fun i => if i < 25 then some (rr i) else none))))))] ++ mt_rw 25 rr re) H := hP
  have hD : va_D A ([(fa, .inr (1, [.int (nI W0), .int fh, .ref wa, .int fc, .ref ra, .ref sa, .ref ta])), (wa, .inl (cZ, 25, .inl wf)), (ra, .inl (cI, 25, .inl rf)), (sa, .inl (cI, 25, .inl sf)), (ta, .inl (cII, 25, .inr (.inr (.inr (.inr (fun i => if i < 25 then some (rr i) else none))))))] ++ mt_rw 25 rr re) := hD
  refine lv_aload_n hx hb d_fl_build_5 rfl (lv_at hl 0 rfl) ?_
  refine lv_iload_n hx hb d_fl_build_6 rfl (lv_at hl 2 rfl) ?_
  refine pf_fl_35 hx hb hg hown hK hP hD hS 0 rfl rfl rfl (Nat.le_of_ble_eq_true rfl) d_fl_build_7 (fun H locs hP hD hS => ?_)
  have hP : va_P D kls ([(fa, .inr (1, [.int (nI W0), .int (nI H0), .ref wa, .int fc, .ref ra, .ref sa, .ref ta])), (wa, .inl (cZ, 25, .inl wf)), (ra, .inl (cI, 25, .inl rf)), (sa, .inl (cI, 25, .inl sf)), (ta, .inl (cII, 25, .inr (.inr (.inr (.inr (fun i => if i < 25 then some (rr i) else none))))))] ++ mt_rw 25 rr re) H := hP
  have hD : va_D A ([(fa, .inr (1, [.int (nI W0), .int (nI H0), .ref wa, .int fc, .ref ra, .ref sa, .ref ta])), (wa, .inl (cZ, 25, .inl wf)), (ra, .inl (cI, 25, .inl rf)), (sa, .inl (cI, 25, .inl sf)), (ta, .inl (cII, 25, .inr (.inr (.inr (.inr (fun i => if i < 25 then some (rr i) else none))))))] ++ mt_rw 25 rr re) := hD
  refine lv_iconst (v := 0) hx hb d_fl_build_10 (by decide) ?_
  refine lv_istore_n hx hb d_fl_build_11 rfl hl (by decide) rfl (fun ls hl => ?_)
  have hl : lv_has ls 4 [(3, .int 0), (0, .ref fa), (1, .int (nI W0)), (2, .int (nI H0))] := hl
  have hl := lv_sub hl [0, 1, 2, 3] (l' := [(3, .int (nI 0)), (0, .ref fa), (1, .int (nI W0)), (2, .int (nI H0))]) rfl
  refine mt_loop (ι := Nat × (Nat → Int32)) (I := fun i ls H locs => ((i.1) ≤ 25) ∧ (∀ j, j < (i.1) → (i.2) j = 0) ∧ lv_has ls 4 [(3, .int (nI (i.1))), (0, .ref fa), (1, .int (nI W0)), (2, .int (nI H0))] ∧ va_P D kls ([(fa, .inr (1, [.int (nI W0), .int (nI H0), .ref wa, .int fc, .ref ra, .ref sa, .ref ta])), (wa, .inl (cZ, 25, .inl (i.2))), (ra, .inl (cI, 25, .inl rf)), (sa, .inl (cI, 25, .inl sf)), (ta, .inl (cII, 25, .inr (.inr (.inr (.inr (fun i => if i < 25 then some (rr i) else none))))))] ++ mt_rw 25 rr re) H ∧ va_D A ([(fa, .inr (1, [.int (nI W0), .int (nI H0), .ref wa, .int fc, .ref ra, .ref sa, .ref ta])), (wa, .inl (cZ, 25, .inl (i.2))), (ra, .inl (cI, 25, .inl rf)), (sa, .inl (cI, 25, .inl sf)), (ta, .inl (cII, 25, .inr (.inr (.inr (.inr (fun i => if i < 25 then some (rr i) else none))))))] ++ mt_rw 25 rr re) ∧ va_S A s.heap H locs) (μ := fun i => 25 - (i.1)) ?_ (0, wf) ls H _ ⟨Nat.zero_le _, fun j h => absurd h (Nat.not_lt_zero _), hl, hP, hD, hS⟩
  clear hl hP hD hS
  intro i_a ls H locs ⟨hi, hz, hl, hP, hD, hS⟩ ih_a
  obtain ⟨iw, g⟩ := i_a
  have hi : iw ≤ 25 := hi
  have hz : ∀ j, j < iw → g j = 0 := hz
  have hl : lv_has ls 4 [(3, .int (nI iw)), (0, .ref fa), (1, .int (nI W0)), (2, .int (nI H0))] := hl
  have hP : va_P D kls ([(fa, .inr (1, [.int (nI W0), .int (nI H0), .ref wa, .int fc, .ref ra, .ref sa, .ref ta])), (wa, .inl (cZ, 25, .inl g)), (ra, .inl (cI, 25, .inl rf)), (sa, .inl (cI, 25, .inl sf)), (ta, .inl (cII, 25, .inr (.inr (.inr (.inr (fun i => if i < 25 then some (rr i) else none))))))] ++ mt_rw 25 rr re) H := hP
  have hD : va_D A ([(fa, .inr (1, [.int (nI W0), .int (nI H0), .ref wa, .int fc, .ref ra, .ref sa, .ref ta])), (wa, .inl (cZ, 25, .inl g)), (ra, .inl (cI, 25, .inl rf)), (sa, .inl (cI, 25, .inl sf)), (ta, .inl (cII, 25, .inr (.inr (.inr (.inr (fun i => if i < 25 then some (rr i) else none))))))] ++ mt_rw 25 rr re) := hD
  refine lv_iload_n hx hb d_fl_build_12 rfl (lv_at hl 0 rfl) ?_
  refine lv_bipush (v := 25) hx hb d_fl_build_13 (by decide) ?_
  refine lv_icmp_ge hx hb d_fl_build_15 rfl (fun g1 => ?_) (fun g1 => ?_)
  ·
    have g2 : iw = 25 := by rcases Nat.lt_or_ge iw 25 with h | h; exact absurd g1 (nI_ge (b := 25) h (by decide)); omega
    refine lv_aload_n hx hb d_fl_build_31 rfl (lv_at hl 1 rfl) ?_
    have hPc := hP
    have hDc := hD
    have hFc := mt_whole hD hS hA
    refine va_callv (va_runV (As := []) (rest := []) ⟨hx, hb, hml, hown, hg⟩ (c_fl_chart l D cZ cI cJ cII fa wa fc ra sa ta g rf sf rr re W0 H0 H.size hWH hre) (cwV 0 hg gv_fl_38 rfl rfl rfl (by decide +kernel) ⟨Nat.le_of_ble_eq_true rfl, Nat.le_of_ble_eq_true rfl⟩) ⟨mt_bl, va_recv (q0 := 0) (ci := 1) hK hP rfl rfl, mt_pr hX hPc hK hDc⟩ rfl rfl hl.1 rfl (lv_room (Nat.le_of_ble_eq_true rfl)) d_fl_build_32 ⟨Nat.le_of_ble_eq_true rfl, Nat.le_of_ble_eq_true rfl⟩) hS (fun q _ h => hFc q h) hFc (fun u t H1 locs ht hvm hw hB hz1 hk1 hS => ?_)
    obtain ⟨fc12, rf13, sf14, re15⟩ := u
    have hr1 : mt_r5 cI re15 := hw
    obtain ⟨hP1, hD1⟩ := hB
    rw [ht] at hP1
    have hP := hP1
    have hD := hD1.weaken (fun _ _ _ h => hFc _ h)
    generalize H1 = H at hP hS ⊢
    have hP : va_P D kls ([(fa, .inr (1, [.int (nI W0), .int (nI H0), .ref wa, .int fc12, .ref ra, .ref sa, .ref ta])), (wa, .inl (cZ, 25, .inl g)), (ra, .inl (cI, 25, .inl rf13)), (sa, .inl (cI, 25, .inl sf14)), (ta, .inl (cII, 25, .inr (.inr (.inr (.inr (fun i => if i < 25 then some (rr i) else none))))))] ++ mt_rw 25 rr re15) H := hP
    have hD : va_D A ([(fa, .inr (1, [.int (nI W0), .int (nI H0), .ref wa, .int fc12, .ref ra, .ref sa, .ref ta])), (wa, .inl (cZ, 25, .inl g)), (ra, .inl (cI, 25, .inl rf13)), (sa, .inl (cI, 25, .inl sf14)), (ta, .inl (cII, 25, .inr (.inr (.inr (.inr (fun i => if i < 25 then some (rr i) else none))))))] ++ mt_rw 25 rr re15) := hD
    have a9 := hr1
    have hP9 := hP
    have hD9 := hD
    exact W.vret hx hb hr (fun t ht hW => ⟨⟨(g, fc12, rf13, sf14, re15), rfl, ⟨fun j hj => hz j (by have : j < 25 := hj; omega), a9⟩, by rw [ht]; exact hP9, hD9⟩, hS.F ht⟩) hS.2.2 d_fl_build_35
  ·
    have g2 : iw < 25 := by rcases Nat.lt_or_ge iw 25 with h | h; exact h; exact absurd (nI_le (a := 25) h (by omega)) g1
    refine lv_aload_n hx hb d_fl_build_18 rfl (lv_at hl 1 rfl) ?_
    refine gf_fl_9 hx hb hg hown hK hP 0 rfl rfl d_fl_build_19 ?_
    refine lv_iload_n hx hb d_fl_build_22 rfl (lv_at hl 0 rfl) ?_
    refine lv_iconst (v := 0) hx hb d_fl_build_23 (by decide) ?_
    refine va_zast hx hb hK hP hD hS 1 0 rfl rfl (vp_in_nI g2 (by decide)) d_fl_build_24 (fun H locs hP hD hS => ?_)
    rw [nI_clamp (show iw < 2 ^ 31 by omega), show vp_nar .boolean 0 = 0 from rfl] at hP hD
    have hP : va_P D kls ([(fa, .inr (1, [.int (nI W0), .int (nI H0), .ref wa, .int fc, .ref ra, .ref sa, .ref ta])), (wa, .inl (cZ, 25, .inl (upd g iw 0))), (ra, .inl (cI, 25, .inl rf)), (sa, .inl (cI, 25, .inl sf)), (ta, .inl (cII, 25, .inr (.inr (.inr (.inr (fun i => if i < 25 then some (rr i) else none))))))] ++ mt_rw 25 rr re) H := hP
    have hD : va_D A ([(fa, .inr (1, [.int (nI W0), .int (nI H0), .ref wa, .int fc, .ref ra, .ref sa, .ref ta])), (wa, .inl (cZ, 25, .inl (upd g iw 0))), (ra, .inl (cI, 25, .inl rf)), (sa, .inl (cI, 25, .inl sf)), (ta, .inl (cII, 25, .inr (.inr (.inr (.inr (fun i => if i < 25 then some (rr i) else none))))))] ++ mt_rw 25 rr re) := hD
    refine lv_iinc (k := 0) (v := nI (iw + 1)) hx hb d_fl_build_25 hl rfl ((nI_succ iw).symm) (by decide) rfl (fun ls hl => ?_)
    have hl : lv_has ls 4 [(3, .int (nI (iw + 1))), (0, .ref fa), (1, .int (nI W0)), (2, .int (nI H0))] := hl
    refine lv_goto hx hb d_fl_build_28 rfl ?_
    have hl := lv_sub hl [0, 1, 2, 3] (l' := [(3, .int (nI (iw + 1))), (0, .ref fa), (1, .int (nI W0)), (2, .int (nI H0))]) rfl
    exact ih_a (iw + 1, upd g iw 0) ls H _ (by show 25 - (iw + 1) < 25 - iw; omega) ⟨by show iw + 1 ≤ 25; omega, fun j hj => mt_up0 hz j hj, hl, hP, hD, hS⟩

set_option maxHeartbeats 4000000 in
set_option maxRecDepth 100000 in
theorem c_fl_build1 (l : Launch) (D : va_G) (cZ cI cJ cII : ClassId) (fa : Nat) (wa : Nat) (fc : Int32) (ra : Nat) (sa : Nat) (ta : Nat) (fw : Int32) (fh : Int32) (wf : Nat → Int32) (rf : Nat → Int32) (sf : Nat → Int32) (rr : Nat → Nat) (re : Nat → va_E) (sz : Nat) (hre : mt_r5 cI re) : Met l y_fl_build w_fl_build ({ frames := 5, cells := 0, slots := 0, locals := 200 }) (va_Pc [.ref fa, .int 1, .int 1] (mt_B D [(cZ, .boolean), (cI, .int), (cJ, .long), (cII, .array .int)] ([(fa, .inr (1, [.int fw, .int fh, .ref wa, .int fc, .ref ra, .ref sa, .ref ta])), (wa, .inl (cZ, 25, .inl wf)), (ra, .inl (cI, 25, .inl rf)), (sa, .inl (cI, 25, .inl sf)), (ta, .inl (cII, 25, .inr (.inr (.inr (.inr (fun i => if i < 25 then some (rr i) else none))))))] ++ mt_rw 25 rr re) sz)) ((fun A => va_Qv (fun (u : (Nat → Int32) × Int32 × (Nat → Int32) × (Nat → Int32) × (Nat → va_E)) => (∀ j, j < 25 → (u.1) j = 0) ∧ (u.2.2.2.1) 0 = 1 ∧ (∃ f : Nat → Int32, (u.2.2.2.2) 0 = .inl (cI, 5, .inl f) ∧ f 0 = 0) ∧ (u.2.1) = 1 ∧ mt_r5 cI (u.2.2.2.2)) (fun (u : (Nat → Int32) × Int32 × (Nat → Int32) × (Nat → Int32) × (Nat → va_E)) (t : State) => mt_O D A ([(fa, .inr (1, [.int 1, .int 1, .ref wa, .int (u.2.1), .ref ra, .ref sa, .ref ta])), (wa, .inl (cZ, 25, .inl (u.1))), (ra, .inl (cI, 25, .inl (u.2.2.1))), (sa, .inl (cI, 25, .inl (u.2.2.2.1))), (ta, .inl (cII, 25, .inr (.inr (.inr (.inr (fun i => if i < 25 then some (rr i) else none))))))] ++ mt_rw 25 rr (u.2.2.2.2)) t) A) (va_A ([(fa, .inr (1, [.int fw, .int fh, .ref wa, .int fc, .ref ra, .ref sa, .ref ta])), (wa, .inl (cZ, 25, .inl wf)), (ra, .inl (cI, 25, .inl rf)), (sa, .inl (cI, 25, .inl sf)), (ta, .inl (cII, 25, .inr (.inr (.inr (.inr (fun i => if i < 25 then some (rr i) else none))))))] ++ mt_rw 25 rr re) sz)) 0 0 (va_A ([(fa, .inr (1, [.int fw, .int fh, .ref wa, .int fc, .ref ra, .ref sa, .ref ta])), (wa, .inl (cZ, 25, .inl wf)), (ra, .inl (cI, 25, .inl rf)), (sa, .inl (cI, 25, .inl sf)), (ta, .inl (cII, 25, .inr (.inr (.inr (.inr (fun i => if i < 25 then some (rr i) else none))))))] ++ mt_rw 25 rr re) sz) := by
  refine mt_of (y := y_fl_build) (n := 4) (av := [.ref fa, .int 1, .int 1]) (QF := (fun A => va_Qv (fun (u : (Nat → Int32) × Int32 × (Nat → Int32) × (Nat → Int32) × (Nat → va_E)) => (∀ j, j < 25 → (u.1) j = 0) ∧ (u.2.2.2.1) 0 = 1 ∧ (∃ f : Nat → Int32, (u.2.2.2.2) 0 = .inl (cI, 5, .inl f) ∧ f 0 = 0) ∧ (u.2.1) = 1 ∧ mt_r5 cI (u.2.2.2.2)) (fun (u : (Nat → Int32) × Int32 × (Nat → Int32) × (Nat → Int32) × (Nat → va_E)) (t : State) => mt_O D A ([(fa, .inr (1, [.int 1, .int 1, .ref wa, .int (u.2.1), .ref ra, .ref sa, .ref ta])), (wa, .inl (cZ, 25, .inl (u.1))), (ra, .inl (cI, 25, .inl (u.2.2.1))), (sa, .inl (cI, 25, .inl (u.2.2.2.1))), (ta, .inl (cII, 25, .inr (.inr (.inr (.inr (fun i => if i < 25 then some (rr i) else none))))))] ++ mt_rw 25 rr (u.2.2.2.2)) t) A)) (by decide) (Nat.le_of_ble_eq_true rfl) ?_
  intro p e s m below meth c ls A hx hb hr hlk hml hown hnm hg hl hX hP hK hD hA hS
  obtain ⟨H, hH⟩ : ∃ H : Heap, H = s.heap := ⟨_, rfl⟩
  have hS : va_S A s.heap H [] := by rw [hH]; exact va_S.rf
  rw [← hH] at hP ⊢
  have hown : s.vm.findClass R_fl = some m.cls := hown
  have hl : lv_has ls 4 [(0, .ref fa), (1, .int 1), (2, .int 1)] := hl
  refine lv_aload_n hx hb d_fl_build_0 rfl (lv_at hl 0 rfl) ?_
  refine lv_iload_n hx hb d_fl_build_1 rfl (lv_at hl 1 rfl) ?_
  refine pf_fl_31 hx hb hg hown hK hP hD hS 0 rfl rfl rfl (Nat.le_of_ble_eq_true rfl) d_fl_build_2 (fun H locs hP hD hS => ?_)
  have hP : va_P D kls ([(fa, .inr (1, [.int 1, .int fh, .ref wa, .int fc, .ref ra, .ref sa, .ref ta])), (wa, .inl (cZ, 25, .inl wf)), (ra, .inl (cI, 25, .inl rf)), (sa, .inl (cI, 25, .inl sf)), (ta, .inl (cII, 25, .inr (.inr (.inr (.inr (fun i => if i < 25 then some (rr i) else none))))))] ++ mt_rw 25 rr re) H := hP
  have hD : va_D A ([(fa, .inr (1, [.int 1, .int fh, .ref wa, .int fc, .ref ra, .ref sa, .ref ta])), (wa, .inl (cZ, 25, .inl wf)), (ra, .inl (cI, 25, .inl rf)), (sa, .inl (cI, 25, .inl sf)), (ta, .inl (cII, 25, .inr (.inr (.inr (.inr (fun i => if i < 25 then some (rr i) else none))))))] ++ mt_rw 25 rr re) := hD
  refine lv_aload_n hx hb d_fl_build_5 rfl (lv_at hl 0 rfl) ?_
  refine lv_iload_n hx hb d_fl_build_6 rfl (lv_at hl 2 rfl) ?_
  refine pf_fl_35 hx hb hg hown hK hP hD hS 0 rfl rfl rfl (Nat.le_of_ble_eq_true rfl) d_fl_build_7 (fun H locs hP hD hS => ?_)
  have hP : va_P D kls ([(fa, .inr (1, [.int 1, .int 1, .ref wa, .int fc, .ref ra, .ref sa, .ref ta])), (wa, .inl (cZ, 25, .inl wf)), (ra, .inl (cI, 25, .inl rf)), (sa, .inl (cI, 25, .inl sf)), (ta, .inl (cII, 25, .inr (.inr (.inr (.inr (fun i => if i < 25 then some (rr i) else none))))))] ++ mt_rw 25 rr re) H := hP
  have hD : va_D A ([(fa, .inr (1, [.int 1, .int 1, .ref wa, .int fc, .ref ra, .ref sa, .ref ta])), (wa, .inl (cZ, 25, .inl wf)), (ra, .inl (cI, 25, .inl rf)), (sa, .inl (cI, 25, .inl sf)), (ta, .inl (cII, 25, .inr (.inr (.inr (.inr (fun i => if i < 25 then some (rr i) else none))))))] ++ mt_rw 25 rr re) := hD
  refine lv_iconst (v := 0) hx hb d_fl_build_10 (by decide) ?_
  refine lv_istore_n hx hb d_fl_build_11 rfl hl (by decide) rfl (fun ls hl => ?_)
  have hl : lv_has ls 4 [(3, .int 0), (0, .ref fa), (1, .int 1), (2, .int 1)] := hl
  have hl := lv_sub hl [0, 1, 2, 3] (l' := [(3, .int (nI 0)), (0, .ref fa), (1, .int 1), (2, .int 1)]) rfl
  refine mt_loop (ι := Nat × (Nat → Int32)) (I := fun i ls H locs => ((i.1) ≤ 25) ∧ (∀ j, j < (i.1) → (i.2) j = 0) ∧ lv_has ls 4 [(3, .int (nI (i.1))), (0, .ref fa), (1, .int 1), (2, .int 1)] ∧ va_P D kls ([(fa, .inr (1, [.int 1, .int 1, .ref wa, .int fc, .ref ra, .ref sa, .ref ta])), (wa, .inl (cZ, 25, .inl (i.2))), (ra, .inl (cI, 25, .inl rf)), (sa, .inl (cI, 25, .inl sf)), (ta, .inl (cII, 25, .inr (.inr (.inr (.inr (fun i => if i < 25 then some (rr i) else none))))))] ++ mt_rw 25 rr re) H ∧ va_D A ([(fa, .inr (1, [.int 1, .int 1, .ref wa, .int fc, .ref ra, .ref sa, .ref ta])), (wa, .inl (cZ, 25, .inl (i.2))), (ra, .inl (cI, 25, .inl rf)), (sa, .inl (cI, 25, .inl sf)), (ta, .inl (cII, 25, .inr (.inr (.inr (.inr (fun i => if i < 25 then some (rr i) else none))))))] ++ mt_rw 25 rr re) ∧ va_S A s.heap H locs) (μ := fun i => 25 - (i.1)) ?_ (0, wf) ls H _ ⟨Nat.zero_le _, fun j h => absurd h (Nat.not_lt_zero _), hl, hP, hD, hS⟩
  clear hl hP hD hS
  intro i_a ls H locs ⟨hi, hz, hl, hP, hD, hS⟩ ih_a
  obtain ⟨iw, g⟩ := i_a
  have hi : iw ≤ 25 := hi
  have hz : ∀ j, j < iw → g j = 0 := hz
  have hl : lv_has ls 4 [(3, .int (nI iw)), (0, .ref fa), (1, .int 1), (2, .int 1)] := hl
  have hP : va_P D kls ([(fa, .inr (1, [.int 1, .int 1, .ref wa, .int fc, .ref ra, .ref sa, .ref ta])), (wa, .inl (cZ, 25, .inl g)), (ra, .inl (cI, 25, .inl rf)), (sa, .inl (cI, 25, .inl sf)), (ta, .inl (cII, 25, .inr (.inr (.inr (.inr (fun i => if i < 25 then some (rr i) else none))))))] ++ mt_rw 25 rr re) H := hP
  have hD : va_D A ([(fa, .inr (1, [.int 1, .int 1, .ref wa, .int fc, .ref ra, .ref sa, .ref ta])), (wa, .inl (cZ, 25, .inl g)), (ra, .inl (cI, 25, .inl rf)), (sa, .inl (cI, 25, .inl sf)), (ta, .inl (cII, 25, .inr (.inr (.inr (.inr (fun i => if i < 25 then some (rr i) else none))))))] ++ mt_rw 25 rr re) := hD
  refine lv_iload_n hx hb d_fl_build_12 rfl (lv_at hl 0 rfl) ?_
  refine lv_bipush (v := 25) hx hb d_fl_build_13 (by decide) ?_
  refine lv_icmp_ge hx hb d_fl_build_15 rfl (fun g1 => ?_) (fun g1 => ?_)
  ·
    have g2 : iw = 25 := by rcases Nat.lt_or_ge iw 25 with h | h; exact absurd g1 (nI_ge (b := 25) h (by decide)); omega
    refine lv_aload_n hx hb d_fl_build_31 rfl (lv_at hl 1 rfl) ?_
    have hPc := hP
    have hDc := hD
    have hFc := mt_whole hD hS hA
    refine va_callv (va_runV (As := []) (rest := []) ⟨hx, hb, hml, hown, hg⟩ (c_fl_chart1 l D cZ cI cJ cII fa wa fc ra sa ta g rf sf rr re H.size (hz 0 (by omega)) hre) (cwV 0 hg gv_fl_38 rfl rfl rfl (by decide +kernel) ⟨Nat.le_of_ble_eq_true rfl, Nat.le_of_ble_eq_true rfl⟩) ⟨mt_bl, va_recv (q0 := 0) (ci := 1) hK hP rfl rfl, mt_pr hX hPc hK hDc⟩ rfl rfl hl.1 rfl (lv_room (Nat.le_of_ble_eq_true rfl)) d_fl_build_32 ⟨Nat.le_of_ble_eq_true rfl, Nat.le_of_ble_eq_true rfl⟩) hS (fun q _ h => hFc q h) hFc (fun u t H1 locs ht hvm hw hB hz1 hk1 hS => ?_)
    obtain ⟨fc12, rf13, sf14, re15⟩ := u
    have hr1 : sf14 0 = 1 ∧ (∃ f : Nat → Int32, re15 0 = .inl (cI, 5, .inl f) ∧ f 0 = 0) ∧ fc12 = 1 ∧ mt_r5 cI re15 := hw
    obtain ⟨hP1, hD1⟩ := hB
    rw [ht] at hP1
    have hP := hP1
    have hD := hD1.weaken (fun _ _ _ h => hFc _ h)
    generalize H1 = H at hP hS ⊢
    have hP : va_P D kls ([(fa, .inr (1, [.int 1, .int 1, .ref wa, .int fc12, .ref ra, .ref sa, .ref ta])), (wa, .inl (cZ, 25, .inl g)), (ra, .inl (cI, 25, .inl rf13)), (sa, .inl (cI, 25, .inl sf14)), (ta, .inl (cII, 25, .inr (.inr (.inr (.inr (fun i => if i < 25 then some (rr i) else none))))))] ++ mt_rw 25 rr re15) H := hP
    have hD : va_D A ([(fa, .inr (1, [.int 1, .int 1, .ref wa, .int fc12, .ref ra, .ref sa, .ref ta])), (wa, .inl (cZ, 25, .inl g)), (ra, .inl (cI, 25, .inl rf13)), (sa, .inl (cI, 25, .inl sf14)), (ta, .inl (cII, 25, .inr (.inr (.inr (.inr (fun i => if i < 25 then some (rr i) else none))))))] ++ mt_rw 25 rr re15) := hD
    have a9 := hr1
    have hP9 := hP
    have hD9 := hD
    exact W.vret hx hb hr (fun t ht hW => ⟨⟨(g, fc12, rf13, sf14, re15), rfl, ⟨fun j hj => hz j (by have : j < 25 := hj; omega), a9⟩, by rw [ht]; exact hP9, hD9⟩, hS.F ht⟩) hS.2.2 d_fl_build_35
  ·
    have g2 : iw < 25 := by rcases Nat.lt_or_ge iw 25 with h | h; exact h; exact absurd (nI_le (a := 25) h (by omega)) g1
    refine lv_aload_n hx hb d_fl_build_18 rfl (lv_at hl 1 rfl) ?_
    refine gf_fl_9 hx hb hg hown hK hP 0 rfl rfl d_fl_build_19 ?_
    refine lv_iload_n hx hb d_fl_build_22 rfl (lv_at hl 0 rfl) ?_
    refine lv_iconst (v := 0) hx hb d_fl_build_23 (by decide) ?_
    refine va_zast hx hb hK hP hD hS 1 0 rfl rfl (vp_in_nI g2 (by decide)) d_fl_build_24 (fun H locs hP hD hS => ?_)
    rw [nI_clamp (show iw < 2 ^ 31 by omega), show vp_nar .boolean 0 = 0 from rfl] at hP hD
    have hP : va_P D kls ([(fa, .inr (1, [.int 1, .int 1, .ref wa, .int fc, .ref ra, .ref sa, .ref ta])), (wa, .inl (cZ, 25, .inl (upd g iw 0))), (ra, .inl (cI, 25, .inl rf)), (sa, .inl (cI, 25, .inl sf)), (ta, .inl (cII, 25, .inr (.inr (.inr (.inr (fun i => if i < 25 then some (rr i) else none))))))] ++ mt_rw 25 rr re) H := hP
    have hD : va_D A ([(fa, .inr (1, [.int 1, .int 1, .ref wa, .int fc, .ref ra, .ref sa, .ref ta])), (wa, .inl (cZ, 25, .inl (upd g iw 0))), (ra, .inl (cI, 25, .inl rf)), (sa, .inl (cI, 25, .inl sf)), (ta, .inl (cII, 25, .inr (.inr (.inr (.inr (fun i => if i < 25 then some (rr i) else none))))))] ++ mt_rw 25 rr re) := hD
    refine lv_iinc (k := 0) (v := nI (iw + 1)) hx hb d_fl_build_25 hl rfl ((nI_succ iw).symm) (by decide) rfl (fun ls hl => ?_)
    have hl : lv_has ls 4 [(3, .int (nI (iw + 1))), (0, .ref fa), (1, .int 1), (2, .int 1)] := hl
    refine lv_goto hx hb d_fl_build_28 rfl ?_
    have hl := lv_sub hl [0, 1, 2, 3] (l' := [(3, .int (nI (iw + 1))), (0, .ref fa), (1, .int 1), (2, .int 1)]) rfl
    exact ih_a (iw + 1, upd g iw 0) ls H _ (by show 25 - (iw + 1) < 25 - iw; omega) ⟨by show iw + 1 ≤ 25; omega, fun j hj => mt_up0 hz j hj, hl, hP, hD, hS⟩

set_option maxHeartbeats 4000000 in
set_option maxRecDepth 100000 in
theorem c_fl_turn (l : Launch) (D : va_G) (cZ cI cJ cII : ClassId) (fa : Nat) (wa : Nat) (fc : Int32) (ra : Nat) (sa : Nat) (ta : Nat) (wf : Nat → Int32) (rf : Nat → Int32) (sf : Nat → Int32) (rr : Nat → Nat) (re : Nat → va_E) (sz : Nat) (hw0 : wf 0 = 0) (hre : mt_r5 cI re) : Met l y_fl_turn w_fl_turn ({ frames := 5, cells := 0, slots := 0, locals := 200 }) (va_Pc [.ref fa, .int 0] (mt_B D [(cZ, .boolean), (cI, .int), (cJ, .long), (cII, .array .int)] ([(fa, .inr (1, [.int 1, .int 1, .ref wa, .int fc, .ref ra, .ref sa, .ref ta])), (wa, .inl (cZ, 25, .inl wf)), (ra, .inl (cI, 25, .inl rf)), (sa, .inl (cI, 25, .inl sf)), (ta, .inl (cII, 25, .inr (.inr (.inr (.inr (fun i => if i < 25 then some (rr i) else none))))))] ++ mt_rw 25 rr re) sz)) ((fun A => va_Qv (fun (u : Int32 × (Nat → Int32) × (Nat → Int32) × (Nat → va_E)) => True) (fun (u : Int32 × (Nat → Int32) × (Nat → Int32) × (Nat → va_E)) (t : State) => mt_O D A ([(fa, .inr (1, [.int 1, .int 1, .ref wa, .int (u.1), .ref ra, .ref sa, .ref ta])), (wa, .inl (cZ, 25, .inl (upd wf 0 1))), (ra, .inl (cI, 25, .inl (u.2.1))), (sa, .inl (cI, 25, .inl (u.2.2.1))), (ta, .inl (cII, 25, .inr (.inr (.inr (.inr (fun i => if i < 25 then some (rr i) else none))))))] ++ mt_rw 25 rr (u.2.2.2)) t) A) (va_A ([(fa, .inr (1, [.int 1, .int 1, .ref wa, .int fc, .ref ra, .ref sa, .ref ta])), (wa, .inl (cZ, 25, .inl wf)), (ra, .inl (cI, 25, .inl rf)), (sa, .inl (cI, 25, .inl sf)), (ta, .inl (cII, 25, .inr (.inr (.inr (.inr (fun i => if i < 25 then some (rr i) else none))))))] ++ mt_rw 25 rr re) sz)) 0 0 (va_A ([(fa, .inr (1, [.int 1, .int 1, .ref wa, .int fc, .ref ra, .ref sa, .ref ta])), (wa, .inl (cZ, 25, .inl wf)), (ra, .inl (cI, 25, .inl rf)), (sa, .inl (cI, 25, .inl sf)), (ta, .inl (cII, 25, .inr (.inr (.inr (.inr (fun i => if i < 25 then some (rr i) else none))))))] ++ mt_rw 25 rr re) sz) := by
  refine mt_of (y := y_fl_turn) (n := 2) (av := [.ref fa, .int 0]) (QF := (fun A => va_Qv (fun (u : Int32 × (Nat → Int32) × (Nat → Int32) × (Nat → va_E)) => True) (fun (u : Int32 × (Nat → Int32) × (Nat → Int32) × (Nat → va_E)) (t : State) => mt_O D A ([(fa, .inr (1, [.int 1, .int 1, .ref wa, .int (u.1), .ref ra, .ref sa, .ref ta])), (wa, .inl (cZ, 25, .inl (upd wf 0 1))), (ra, .inl (cI, 25, .inl (u.2.1))), (sa, .inl (cI, 25, .inl (u.2.2.1))), (ta, .inl (cII, 25, .inr (.inr (.inr (.inr (fun i => if i < 25 then some (rr i) else none))))))] ++ mt_rw 25 rr (u.2.2.2)) t) A)) (by decide) (Nat.le_of_ble_eq_true rfl) ?_
  intro p e s m below meth c ls A hx hb hr hlk hml hown hnm hg hl hX hP hK hD hA hS
  obtain ⟨H, hH⟩ : ∃ H : Heap, H = s.heap := ⟨_, rfl⟩
  have hS : va_S A s.heap H [] := by rw [hH]; exact va_S.rf
  rw [← hH] at hP ⊢
  have hown : s.vm.findClass R_fl = some m.cls := hown
  have hl : lv_has ls 2 [(0, .ref fa), (1, .int 0)] := hl
  refine lv_aload_n hx hb d_fl_turn_0 rfl (lv_at hl 0 rfl) ?_
  refine gf_fl_9 hx hb hg hown hK hP 0 rfl rfl d_fl_turn_1 ?_
  refine lv_iload_n hx hb d_fl_turn_4 rfl (lv_at hl 1 rfl) ?_
  refine lv_aload_n hx hb d_fl_turn_5 rfl (lv_at hl 0 rfl) ?_
  refine gf_fl_9 hx hb hg hown hK hP 0 rfl rfl d_fl_turn_6 ?_
  refine lv_iload_n hx hb d_fl_turn_9 rfl (lv_at hl 1 rfl) ?_
  refine va_zald hx hb hK hP 1 0 rfl rfl (by unfold vp_in; decide) d_fl_turn_10 ?_
  refine lv_topi (fun y1 ey1 => ?_)
  have ey1 : y1 = 0 := ey1.trans hw0
  subst ey1
  refine lv_if_ne hx hb d_fl_turn_11 rfl (fun h => absurd (by decide) h) (fun _ => ?_)
  refine lv_iconst (v := 1) hx hb d_fl_turn_14 (by decide) ?_
  refine lv_goto hx hb d_fl_turn_15 rfl ?_
  refine va_zast hx hb hK hP hD hS 1 0 rfl rfl (by unfold vp_in; decide) d_fl_turn_19 (fun H locs hP hD hS => ?_)
  have hP : va_P D kls ([(fa, .inr (1, [.int 1, .int 1, .ref wa, .int fc, .ref ra, .ref sa, .ref ta])), (wa, .inl (cZ, 25, .inl (upd wf 0 1))), (ra, .inl (cI, 25, .inl rf)), (sa, .inl (cI, 25, .inl sf)), (ta, .inl (cII, 25, .inr (.inr (.inr (.inr (fun i => if i < 25 then some (rr i) else none))))))] ++ mt_rw 25 rr re) H := hP
  have hD : va_D A ([(fa, .inr (1, [.int 1, .int 1, .ref wa, .int fc, .ref ra, .ref sa, .ref ta])), (wa, .inl (cZ, 25, .inl (upd wf 0 1))), (ra, .inl (cI, 25, .inl rf)), (sa, .inl (cI, 25, .inl sf)), (ta, .inl (cII, 25, .inr (.inr (.inr (.inr (fun i => if i < 25 then some (rr i) else none))))))] ++ mt_rw 25 rr re) := hD
  refine lv_aload_n hx hb d_fl_turn_20 rfl (lv_at hl 0 rfl) ?_
  have hPc := hP
  have hDc := hD
  have hFc := mt_whole hD hS hA
  refine va_callv (va_runV (As := []) (rest := []) ⟨hx, hb, hml, hown, hg⟩ (c_fl_chart l D cZ cI cJ cII fa wa fc ra sa ta (upd wf 0 1) rf sf rr re 1 1 H.size (by decide) hre) (cwV 0 hg gv_fl_38 rfl rfl rfl (by decide +kernel) ⟨Nat.le_of_ble_eq_true rfl, Nat.le_of_ble_eq_true rfl⟩) ⟨mt_bl, va_recv (q0 := 0) (ci := 1) hK hP rfl rfl, mt_pr hX hPc hK hDc⟩ rfl rfl hl.1 rfl (lv_room (Nat.le_of_ble_eq_true rfl)) d_fl_turn_21 ⟨Nat.le_of_ble_eq_true rfl, Nat.le_of_ble_eq_true rfl⟩) hS (fun q _ h => hFc q h) hFc (fun u t H1 locs ht hvm hw hB hz1 hk1 hS => ?_)
  obtain ⟨fc13, rf14, sf15, re16⟩ := u
  have hr2 : mt_r5 cI re16 := hw
  obtain ⟨hP1, hD1⟩ := hB
  rw [ht] at hP1
  have hP := hP1
  have hD := hD1.weaken (fun _ _ _ h => hFc _ h)
  generalize H1 = H at hP hS ⊢
  have hP : va_P D kls ([(fa, .inr (1, [.int (nI 1), .int (nI 1), .ref wa, .int fc13, .ref ra, .ref sa, .ref ta])), (wa, .inl (cZ, 25, .inl (upd wf 0 1))), (ra, .inl (cI, 25, .inl rf14)), (sa, .inl (cI, 25, .inl sf15)), (ta, .inl (cII, 25, .inr (.inr (.inr (.inr (fun i => if i < 25 then some (rr i) else none))))))] ++ mt_rw 25 rr re16) H := hP
  have hD : va_D A ([(fa, .inr (1, [.int (nI 1), .int (nI 1), .ref wa, .int fc13, .ref ra, .ref sa, .ref ta])), (wa, .inl (cZ, 25, .inl (upd wf 0 1))), (ra, .inl (cI, 25, .inl rf14)), (sa, .inl (cI, 25, .inl sf15)), (ta, .inl (cII, 25, .inr (.inr (.inr (.inr (fun i => if i < 25 then some (rr i) else none))))))] ++ mt_rw 25 rr re16) := hD
  have hP9 := hP
  have hD9 := hD
  exact W.vret hx hb hr (fun t ht hW => ⟨⟨(fc13, rf14, sf15, re16), rfl, trivial, by rw [ht]; exact hP9, hD9⟩, hS.F ht⟩) hS.2.2 d_fl_turn_24
