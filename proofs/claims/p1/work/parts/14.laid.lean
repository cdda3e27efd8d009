set_option maxHeartbeats 4000000 in
set_option maxRecDepth 100000 in
theorem c_ld_forget (l : Launch) (D : va_G) (cZ cI cJ cII : ClassId) (da : Nat) (dce : Nat) (dto : Nat) (dle : Nat) (of : Nat → Int32) (lf : Nat → Int32) (sz : Nat)  : Met l y_ld_forget w_ld_forget ({ frames := 1, cells := 0, slots := 0, locals := 40 }) (va_Pc [.ref da] (mt_B D [(cZ, .boolean), (cI, .int), (cJ, .long), (cII, .array .int)] [(da, .inr (2, [.ref dce, .ref dto, .ref dle])), (dto, .inl (cI, 6, .inl of)), (dle, .inl (cI, 6, .inl lf))] sz)) ((fun A => va_Qv (fun (u : (Nat → Int32) × (Nat → Int32)) => True) (fun (u : (Nat → Int32) × (Nat → Int32)) (t : State) => mt_O D A [(da, .inr (2, [.ref dce, .ref dto, .ref dle])), (dto, .inl (cI, 6, .inl (u.1))), (dle, .inl (cI, 6, .inl (u.2)))] t) A) (va_A [(da, .inr (2, [.ref dce, .ref dto, .ref dle])), (dto, .inl (cI, 6, .inl of)), (dle, .inl (cI, 6, .inl lf))] sz)) 0 0 (va_A [(da, .inr (2, [.ref dce, .ref dto, .ref dle])), (dto, .inl (cI, 6, .inl of)), (dle, .inl (cI, 6, .inl lf))] sz) := by
  refine mt_of (y := y_ld_forget) (n := 1) (av := [.ref da]) (QF := (fun A => va_Qv (fun (u : (Nat → Int32) × (Nat → Int32)) => True) (fun (u : (Nat → Int32) × (Nat → Int32)) (t : State) => mt_O D A [(da, .inr (2, [.ref dce, .ref dto, .ref dle])), (dto, .inl (cI, 6, .inl (u.1))), (dle, .inl (cI, 6, .inl (u.2)))] t) A)) (by decide) (Nat.le_of_ble_eq_true rfl) ?_
  intro p e s m below meth c ls A hx hb hr hlk hml hown hnm hg hl hX hP hK hD hA hS
  obtain ⟨H, hH⟩ : ∃ H : Heap, H = s.heap := ⟨_, rfl⟩
  have hS : va_S A s.heap H [] := by rw [hH]; exact va_S.rf
  rw [← hH] at hP ⊢
  have hown : s.vm.findClass R_ld = some m.cls := hown
  have hl : lv_has ls 1 [(0, .ref da)] := hl
  refine lv_aload_n hx hb d_ld_forget_0 rfl (lv_at hl 0 rfl) ?_
  refine gf_ld_16 hx hb hg hown hK hP 0 rfl rfl d_ld_forget_1 ?_
  refine lv_iconst (v := 0) hx hb d_ld_forget_4 (by decide) ?_
  have hPc := hP.sub (ws' := [(dto, .inl (cI, 6, .inl of))]) [1] rfl
  have hDc := hD.sub (ws' := [(dto, .inl (cI, 6, .inl of))]) [1] (by decide) rfl
  have hFc := va_free (wc := [(dto, .inl (cI, 6, .inl of))]) hD hS hA [1] rfl
  refine va_callv (va_runS (As := [.ref dto, .int 0]) (rest := []) ⟨hx, hb, hml, hown, hg⟩ (c_ar_fillI l D cZ cI cJ cII dto 6 of 0 H.size (by decide)) ⟨callB_of 2 hg gg_ld_23 rfl rfl rfl (hg _ gi_ld_23) (hg _ gl_ld_23) (by decide +kernel) ⟨Nat.le_of_ble_eq_true rfl, Nat.le_of_ble_eq_true rfl⟩, hg _ gt_ld_23⟩ ⟨mt_bl, mt_pr hX hPc hK hDc⟩ rfl rfl hl.1 rfl (lv_room (Nat.le_of_ble_eq_true rfl)) d_ld_forget_5 ⟨Nat.le_of_ble_eq_true rfl, Nat.le_of_ble_eq_true rfl⟩) hS (fun q _ h => hFc q h) hFc (fun u t H1 locs ht hvm hw hB hz1 hk1 hS => ?_)
  obtain ⟨f12, rfl⟩ : ∃ z, z = u := ⟨_, rfl⟩
  have hr1 : ∀ j, j < (6 : Nat) → f12 j = (0 : Int32) := hw
  obtain ⟨hP1, hD1⟩ := hB
  rw [ht] at hP1
  obtain ⟨hP, hD⟩ := va_join (wr := [(da, .inr (2, [.ref dce, .ref dto, .ref dle])), (dle, .inl (cI, 6, .inl lf))]) (w1 := [(dto, .inl (cI, 6, .inl f12))]) hP hD [1] [0, 2] rfl rfl (by decide) (by decide) hk1 hFc hP1 hD1
  generalize H1 = H at hP hS ⊢
  have hP : va_P D kls [(da, .inr (2, [.ref dce, .ref dto, .ref dle])), (dle, .inl (cI, 6, .inl lf)), (dto, .inl (cI, 6, .inl f12))] H := hP
  have hD : va_D A [(da, .inr (2, [.ref dce, .ref dto, .ref dle])), (dle, .inl (cI, 6, .inl lf)), (dto, .inl (cI, 6, .inl f12))] := hD
  refine lv_aload_n hx hb d_ld_forget_8 rfl (lv_at hl 0 rfl) ?_
  refine gf_ld_20 hx hb hg hown hK hP 0 rfl rfl d_ld_forget_9 ?_
  refine lv_iconst (v := 0) hx hb d_ld_forget_12 (by decide) ?_
  have hPc := hP.sub (ws' := [(dle, .inl (cI, 6, .inl lf))]) [1] rfl
  have hDc := hD.sub (ws' := [(dle, .inl (cI, 6, .inl lf))]) [1] (by decide) rfl
  have hFc := va_free (wc := [(dle, .inl (cI, 6, .inl lf))]) hD hS hA [1] rfl
  refine va_callv (va_runS (As := [.ref dle, .int 0]) (rest := []) ⟨hx, hb, hml, hown, hg⟩ (c_ar_fillI l D cZ cI cJ cII dle 6 lf 0 H.size (by decide)) ⟨callB_of 2 hg gg_ld_23 rfl rfl rfl (hg _ gi_ld_23) (hg _ gl_ld_23) (by decide +kernel) ⟨Nat.le_of_ble_eq_true rfl, Nat.le_of_ble_eq_true rfl⟩, hg _ gt_ld_23⟩ ⟨mt_bl, mt_pr hX hPc hK hDc⟩ rfl rfl hl.1 rfl (lv_room (Nat.le_of_ble_eq_true rfl)) d_ld_forget_13 ⟨Nat.le_of_ble_eq_true rfl, Nat.le_of_ble_eq_true rfl⟩) hS (fun q _ h => hFc q h) hFc (fun u t H1 locs ht hvm hw hB hz1 hk1 hS => ?_)
  obtain ⟨f14, rfl⟩ : ∃ z, z = u := ⟨_, rfl⟩
  have hr3 : ∀ j, j < (6 : Nat) → f14 j = (0 : Int32) := hw
  obtain ⟨hP1, hD1⟩ := hB
  rw [ht] at hP1
  obtain ⟨hP, hD⟩ := va_join (wr := [(da, .inr (2, [.ref dce, .ref dto, .ref dle])), (dto, .inl (cI, 6, .inl f12))]) (w1 := [(dle, .inl (cI, 6, .inl f14))]) hP hD [1] [0, 2] rfl rfl (by decide) (by decide) hk1 hFc hP1 hD1
  generalize H1 = H at hP hS ⊢
  have hP : va_P D kls [(da, .inr (2, [.ref dce, .ref dto, .ref dle])), (dto, .inl (cI, 6, .inl f12)), (dle, .inl (cI, 6, .inl f14))] H := hP
  have hD : va_D A [(da, .inr (2, [.ref dce, .ref dto, .ref dle])), (dto, .inl (cI, 6, .inl f12)), (dle, .inl (cI, 6, .inl f14))] := hD
  have hP9 := hP
  have hD9 := hD
  exact W.vret hx hb hr (fun t ht hW => ⟨⟨(f12, f14), rfl, trivial, by rw [ht]; exact hP9, hD9⟩, hS.F ht⟩) hS.2.2 d_ld_forget_16

set_option maxHeartbeats 4000000 in
set_option maxRecDepth 100000 in
theorem c_ld_isTold (l : Launch) (D : va_G) (cZ cI cJ cII : ClassId) (da : Nat) (dce : Nat) (dto : Nat) (dle : Nat) (of : Nat → Int32) (k : Nat) (y : Int32) (sz : Nat) (hk : k < 6) : Met l y_ld_isTold w_ld_isTold ({ frames := 0, cells := 0, slots := 0, locals := 0 }) (va_Pc [.ref da, .int (nI k), .int y] (mt_B D [(cZ, .boolean), (cI, .int), (cJ, .long), (cII, .array .int)] [(da, .inr (2, [.ref dce, .ref dto, .ref dle])), (dto, .inl (cI, 6, .inl of))] sz)) (vp_Si (fun r : Int32 => (r = 1 ∧ of k >>> (y &&& 31) &&& 1 = 1) ∨ (r = 0 ∧ ¬ of k >>> (y &&& 31) &&& 1 = 1))) 0 0 (fun _ => False) := by
  refine mt_ofR (by decide) (Nat.le_of_ble_eq_true rfl) ?_
  intro p e s m below meth c ls hx hb hr hlk hml hown hg hl hX hP hK hD
  have hown : s.vm.findClass R_ld = some m.cls := hown
  obtain ⟨H, hH⟩ : ∃ H : Heap, H = s.heap := ⟨_, rfl⟩
  rw [← hH] at hP ⊢
  have hl : lv_has ls 3 [(0, .ref da), (1, .int (nI k)), (2, .int y)] := hl
  refine lv_aload_n hx hb d_ld_isTold_0 rfl (lv_at hl 0 rfl) ?_
  refine gf_ld_16 hx hb hg hown hK hP 0 rfl rfl d_ld_isTold_1 ?_
  refine lv_iload_n hx hb d_ld_isTold_4 rfl (lv_at hl 1 rfl) ?_
  refine va_iald hx hb hK hP 1 1 rfl rfl (vp_in_nI hk (by decide)) d_ld_isTold_5 ?_
  refine lv_topi (fun y1 ey1 => ?_)
  have ey1 : y1 = of k := ey1.trans (by rw [nI_clamp (show k < 2 ^ 31 by omega)])
  subst ey1
  refine lv_iload_n hx hb d_ld_isTold_6 rfl (lv_at hl 2 rfl) ?_
  refine lv_ishr hx hb d_ld_isTold_7 ?_
  refine lv_iconst (v := 1) hx hb d_ld_isTold_8 (by decide) ?_
  refine lv_iand hx hb d_ld_isTold_9 ?_
  refine lv_iconst (v := 1) hx hb d_ld_isTold_10 (by decide) ?_
  refine lv_icmp_ne hx hb d_ld_isTold_11 rfl (fun g1 => ?_) (fun g1 => ?_)
  ·
    refine lv_iconst (v := 0) hx hb d_ld_isTold_18 (by decide) ?_
    exact W.zret hx hb hr rfl (fun t ht _ => ⟨0, rfl, Or.inr ⟨rfl, g1⟩, ht.trans hH⟩) (fun _ h => absurd h List.not_mem_nil) d_ld_isTold_19
  ·
    refine lv_iconst (v := 1) hx hb d_ld_isTold_14 (by decide) ?_
    refine lv_goto hx hb d_ld_isTold_15 rfl ?_
    exact W.zret hx hb hr rfl (fun t ht _ => ⟨1, rfl, Or.inl ⟨rfl, g1⟩, ht.trans hH⟩) (fun _ h => absurd h List.not_mem_nil) d_ld_isTold_19

set_option maxHeartbeats 4000000 in
set_option maxRecDepth 100000 in
theorem c_ld_tell (l : Launch) (D : va_G) (cZ cI cJ cII : ClassId) (da : Nat) (dce : Nat) (dto : Nat) (dle : Nat) (rl : Nat → Nat) (of : Nat → Int32) (lf : Nat → Int32) (re : Nat → va_E) (k : Nat) (tt : Nat) (ce : Int32) (sz : Nat) (hk : k < 6) (htt : tt < 30) (hof : of k = 0) (hlf : lf k = nI 0) (hre : ∃ f : Nat → Int32, re k = .inl (cI, 30, .inl f)) : Met l y_ld_tell w_ld_tell ({ frames := 1, cells := 0, slots := 0, locals := 40 }) (va_Pc [.ref da, .int (nI k), .int (nI tt), .int ce] (mt_B D [(cZ, .boolean), (cI, .int), (cJ, .long), (cII, .array .int)] ([(da, .inr (2, [.ref dce, .ref dto, .ref dle])), (dce, .inl (cII, 6, .inr (.inr (.inr (.inr (fun i => if i < 6 then some (rl i) else none)))))), (dto, .inl (cI, 6, .inl of)), (dle, .inl (cI, 6, .inl lf))] ++ mt_rw 6 rl re) sz)) ((fun A => va_Qi (fun (r : Int32) (u : Unit) => (r = -1) ∧ (True)) (fun (u : Unit) (t : State) => True) A) (va_A ([(da, .inr (2, [.ref dce, .ref dto, .ref dle])), (dce, .inl (cII, 6, .inr (.inr (.inr (.inr (fun i => if i < 6 then some (rl i) else none)))))), (dto, .inl (cI, 6, .inl of)), (dle, .inl (cI, 6, .inl lf))] ++ mt_rw 6 rl re) sz)) 0 0 (va_A ([(da, .inr (2, [.ref dce, .ref dto, .ref dle])), (dce, .inl (cII, 6, .inr (.inr (.inr (.inr (fun i => if i < 6 then some (rl i) else none)))))), (dto, .inl (cI, 6, .inl of)), (dle, .inl (cI, 6, .inl lf))] ++ mt_rw 6 rl re) sz) := by
  refine mt_of (y := y_ld_tell) (n := 5) (av := [.ref da, .int (nI k), .int (nI tt), .int ce]) (QF := (fun A => va_Qi (fun (r : Int32) (u : Unit) => (r = -1) ∧ (True)) (fun (u : Unit) (t : State) => True) A)) (by decide) (Nat.le_of_ble_eq_true rfl) ?_
  intro p e s m below meth c ls A hx hb hr hlk hml hown hnm hg hl hX hP hK hD hA hS
  obtain ⟨H, hH⟩ : ∃ H : Heap, H = s.heap := ⟨_, rfl⟩
  have hS : va_S A s.heap H [] := by rw [hH]; exact va_S.rf
  rw [← hH] at hP ⊢
  have hown : s.vm.findClass R_ld = some m.cls := hown
  have hl : lv_has ls 5 [(0, .ref da), (1, .int (nI k)), (2, .int (nI tt)), (3, .int ce)] := hl
  refine lv_aload_n hx hb d_ld_tell_0 rfl (lv_at hl 0 rfl) ?_
  refine lv_iload_n hx hb d_ld_tell_1 rfl (lv_at hl 1 rfl) ?_
  refine lv_iload_n hx hb d_ld_tell_2 rfl (lv_at hl 2 rfl) ?_
  have hz : ¬ of k >>> (nI tt &&& 31) &&& 1 = 1 := by rw [hof, Int32.zero_shiftRight]; decide
  have hPc := hP.sub (ws' := [(da, .inr (2, [.ref dce, .ref dto, .ref dle])), (dto, .inl (cI, 6, .inl of))]) [0, 2] rfl
  have hDc := hD.sub (ws' := [(da, .inr (2, [.ref dce, .ref dto, .ref dle])), (dto, .inl (cI, 6, .inl of))]) [0, 2] (by decide) rfl
  refine vp_callSi (W.runV (As := [.int (nI k), .int (nI tt)]) (rest := []) ⟨hx, hb, hml, hown, hg⟩ (c_ld_isTold l D cZ cI cJ cII da dce dto dle of k (nI tt) H.size hk) (cwV 2 hg gv_ld_29 rfl rfl rfl (by decide +kernel) ⟨Nat.le_of_ble_eq_true rfl, Nat.le_of_ble_eq_true rfl⟩) ⟨mt_bl, va_recv (q0 := 0) (ci := 2) hK hP rfl rfl, mt_pr hX hPc hK hDc⟩ rfl rfl hl.1 rfl (lv_room (Nat.le_of_ble_eq_true rfl)) d_ld_tell_3 ⟨Nat.le_of_ble_eq_true rfl, Nat.le_of_ble_eq_true rfl⟩) (fun r1 hr1 => ?_)
  have hr1 : (r1 = 1 ∧ of k >>> ((nI tt) &&& 31) &&& 1 = 1) ∨ (r1 = 0 ∧ ¬ of k >>> ((nI tt) &&& 31) &&& 1 = 1) := hr1
  have hr1 : r1 = 0 := hr1.elim (fun q => absurd q.2 hz) (fun q => q.1)
  subst hr1
  refine lv_if_eq hx hb d_ld_tell_6 rfl (fun _ => ?_) (fun h => absurd (by decide) h)
  refine lv_iconst (v := (-1)) hx hb d_ld_tell_20 (by decide) ?_
  refine lv_istore hx hb d_ld_tell_21 hl (by decide) rfl (fun ls hl => ?_)
  have hl : lv_has ls 5 [(4, .int (-1)), (0, .ref da), (1, .int (nI k)), (2, .int (nI tt)), (3, .int ce)] := hl
  refine lv_aload_n hx hb d_ld_tell_23 rfl (lv_at hl 1 rfl) ?_
  refine gf_ld_11 hx hb hg hown hK hP 0 rfl rfl d_ld_tell_24 ?_
  refine lv_iload_n hx hb d_ld_tell_27 rfl (lv_at hl 2 rfl) ?_
  refine mt_aald hx hb hK hP 1 3 rfl rfl (vp_in_nI hk (by decide)) (by show (if (nI k).toNatClampNeg < 6 then some (rl (nI k).toNatClampNeg) else none) = some (rl k); rw [nI_clamp (show k < 2 ^ 31 by omega), if_pos hk]) d_ld_tell_28 ?_
  refine lv_iload_n hx hb d_ld_tell_29 rfl (lv_at hl 3 rfl) ?_
  refine lv_iload_n hx hb d_ld_tell_30 rfl (lv_at hl 4 rfl) ?_
  obtain ⟨f9, hf9⟩ := hre
  refine va_iast hx hb hK hP hD hS (4 + k) 1 ((mt_rw_at rfl hk).trans (by rw [hf9])) rfl (vp_in_nI htt (by decide)) d_ld_tell_31 (fun H locs hP hD hS => ?_)
  rw [mt_rw_set (x := 4) rfl, nI_clamp (show tt < 2 ^ 31 by omega)] at hP hD
  have hP : va_P D kls ([(da, .inr (2, [.ref dce, .ref dto, .ref dle])), (dce, .inl (cII, 6, .inr (.inr (.inr (.inr (fun i => if i < 6 then some (rl i) else none)))))), (dto, .inl (cI, 6, .inl of)), (dle, .inl (cI, 6, .inl lf))] ++ mt_rw 6 rl (va_up re k (.inl (cI, 30, .inl (upd f9 tt ce))))) H := hP
  have hD : va_D A ([(da, .inr (2, [.ref dce, .ref dto, .ref dle])), (dce, .inl (cII, 6, .inr (.inr (.inr (.inr (fun i => if i < 6 then some (rl i) else none)))))), (dto, .inl (cI, 6, .inl of)), (dle, .inl (cI, 6, .inl lf))] ++ mt_rw 6 rl (va_up re k (.inl (cI, 30, .inl (upd f9 tt ce))))) := hD
  refine lv_aload_n hx hb d_ld_tell_32 rfl (lv_at hl 1 rfl) ?_
  refine gf_ld_16 hx hb hg hown hK hP 0 rfl rfl d_ld_tell_33 ?_
  refine lv_iload_n hx hb d_ld_tell_36 rfl (lv_at hl 2 rfl) ?_
  refine lv_dup2_11 hx hb d_ld_tell_37 rfl rfl ?_
  refine va_iald hx hb hK hP 2 1 rfl rfl (vp_in_nI hk (by decide)) d_ld_tell_38 ?_
  refine lv_topi (fun y2 ey2 => ?_)
  have ey2 : y2 = 0 := ey2.trans (by rw [nI_clamp (show k < 2 ^ 31 by omega)]; exact hof)
  subst ey2
  refine lv_iconst (v := 1) hx hb d_ld_tell_39 (by decide) ?_
  refine lv_iload_n hx hb d_ld_tell_40 rfl (lv_at hl 3 rfl) ?_
  refine lv_ishl hx hb d_ld_tell_41 ?_
  refine lv_ior hx hb d_ld_tell_42 ?_
  refine lv_topi (fun x3 ex3 => ?_)
  refine va_iast hx hb hK hP hD hS 2 1 rfl rfl (vp_in_nI hk (by decide)) d_ld_tell_43 (fun H locs hP hD hS => ?_)
  rw [nI_clamp (show k < 2 ^ 31 by omega)] at hP hD
  have hP : va_P D kls ([(da, .inr (2, [.ref dce, .ref dto, .ref dle])), (dce, .inl (cII, 6, .inr (.inr (.inr (.inr (fun i => if i < 6 then some (rl i) else none)))))), (dto, .inl (cI, 6, .inl (upd of k x3))), (dle, .inl (cI, 6, .inl lf))] ++ mt_rw 6 rl (va_up re k (.inl (cI, 30, .inl (upd f9 tt ce))))) H := hP
  have hD : va_D A ([(da, .inr (2, [.ref dce, .ref dto, .ref dle])), (dce, .inl (cII, 6, .inr (.inr (.inr (.inr (fun i => if i < 6 then some (rl i) else none)))))), (dto, .inl (cI, 6, .inl (upd of k x3))), (dle, .inl (cI, 6, .inl lf))] ++ mt_rw 6 rl (va_up re k (.inl (cI, 30, .inl (upd f9 tt ce))))) := hD
  have hl := lv_sub hl [0, 1, 2] (l' := [(4, .int (-1)), (0, .ref da), (1, .int (nI k))]) rfl
  refine mt_loop (ι := Nat × (Nat → Int32)) (I := fun i ls H locs => ((i.1) ≤ 30) ∧ ((i.2) k = nI (i.1)) ∧ lv_has ls 5 [(4, .int (-1)), (0, .ref da), (1, .int (nI k))] ∧ va_P D kls ([(da, .inr (2, [.ref dce, .ref dto, .ref dle])), (dce, .inl (cII, 6, .inr (.inr (.inr (.inr (fun i => if i < 6 then some (rl i) else none)))))), (dto, .inl (cI, 6, .inl (upd of k x3))), (dle, .inl (cI, 6, .inl (i.2)))] ++ mt_rw 6 rl (va_up re k (.inl (cI, 30, .inl (upd f9 tt ce))))) H ∧ va_D A ([(da, .inr (2, [.ref dce, .ref dto, .ref dle])), (dce, .inl (cII, 6, .inr (.inr (.inr (.inr (fun i => if i < 6 then some (rl i) else none)))))), (dto, .inl (cI, 6, .inl (upd of k x3))), (dle, .inl (cI, 6, .inl (i.2)))] ++ mt_rw 6 rl (va_up re k (.inl (cI, 30, .inl (upd f9 tt ce))))) ∧ va_S A s.heap H locs) (μ := fun i => 30 - (i.1)) ?_ (0, lf) ls H _ ⟨Nat.zero_le _, hlf, hl, hP, hD, hS⟩
  clear hl hP hD hS
  intro i_a ls H locs ⟨hj, hg9, hl, hP, hD, hS⟩ ih_a
  obtain ⟨j, g⟩ := i_a
  have hj : j ≤ 30 := hj
  have hg9 : g k = nI j := hg9
  have hl : lv_has ls 5 [(4, .int (-1)), (0, .ref da), (1, .int (nI k))] := hl
  have hP : va_P D kls ([(da, .inr (2, [.ref dce, .ref dto, .ref dle])), (dce, .inl (cII, 6, .inr (.inr (.inr (.inr (fun i => if i < 6 then some (rl i) else none)))))), (dto, .inl (cI, 6, .inl (upd of k x3))), (dle, .inl (cI, 6, .inl g))] ++ mt_rw 6 rl (va_up re k (.inl (cI, 30, .inl (upd f9 tt ce))))) H := hP
  have hD : va_D A ([(da, .inr (2, [.ref dce, .ref dto, .ref dle])), (dce, .inl (cII, 6, .inr (.inr (.inr (.inr (fun i => if i < 6 then some (rl i) else none)))))), (dto, .inl (cI, 6, .inl (upd of k x3))), (dle, .inl (cI, 6, .inl g))] ++ mt_rw 6 rl (va_up re k (.inl (cI, 30, .inl (upd f9 tt ce))))) := hD
  refine lv_aload_n hx hb d_ld_tell_44 rfl (lv_at hl 1 rfl) ?_
  refine gf_ld_20 hx hb hg hown hK hP 0 rfl rfl d_ld_tell_45 ?_
  refine lv_iload_n hx hb d_ld_tell_48 rfl (lv_at hl 2 rfl) ?_
  refine va_iald hx hb hK hP 3 1 rfl rfl (vp_in_nI hk (by decide)) d_ld_tell_49 ?_
  refine lv_topi (fun y4 ey4 => ?_)
  have ey4 : y4 = nI j := ey4.trans (by rw [nI_clamp (show k < 2 ^ 31 by omega)]; exact hg9)
  subst ey4
  refine lv_bipush (v := 30) hx hb d_ld_tell_50 (by decide) ?_
  refine lv_icmp_ge hx hb d_ld_tell_52 rfl (fun g1 => ?_) (fun g1 => ?_)
  ·
    refine lv_iload hx hb d_ld_tell_82 (lv_at hl 0 rfl) ?_
    exact W.iret hx hb hr (fun t ht hW => ⟨⟨(-1), (), rfl, ⟨rfl, trivial⟩, trivial⟩, hS.F ht⟩) hS.2.2 d_ld_tell_84
  ·
    have g2 : j < 30 := by rcases Nat.lt_or_ge j 30 with h | h; exact h; exact absurd (nI_le (a := 30) h (by omega)) g1
    refine lv_aload_n hx hb d_ld_tell_55 rfl (lv_at hl 1 rfl) ?_
    refine lv_iload_n hx hb d_ld_tell_56 rfl (lv_at hl 2 rfl) ?_
    refine lv_aload_n hx hb d_ld_tell_57 rfl (lv_at hl 1 rfl) ?_
    refine gf_ld_20 hx hb hg hown hK hP 0 rfl rfl d_ld_tell_58 ?_
    refine lv_iload_n hx hb d_ld_tell_61 rfl (lv_at hl 2 rfl) ?_
    refine va_iald hx hb hK hP 3 1 rfl rfl (vp_in_nI hk (by decide)) d_ld_tell_62 ?_
    refine lv_topi (fun y5 ey5 => ?_)
    have ey5 : y5 = nI j := ey5.trans (by rw [nI_clamp (show k < 2 ^ 31 by omega)]; exact hg9)
    subst ey5
    have hPc := hP.sub (ws' := [(da, .inr (2, [.ref dce, .ref dto, .ref dle])), (dto, .inl (cI, 6, .inl (upd of k x3)))]) [0, 2] rfl
    have hDc := hD.sub (ws' := [(da, .inr (2, [.ref dce, .ref dto, .ref dle])), (dto, .inl (cI, 6, .inl (upd of k x3)))]) [0, 2] (by decide) rfl
    refine vp_callSi (W.runV (As := [.int (nI k), .int (nI j)]) (rest := []) ⟨hx, hb, hml, hown, hg⟩ (c_ld_isTold l D cZ cI cJ cII da dce dto dle (upd of k x3) k (nI j) H.size hk) (cwV 2 hg gv_ld_29 rfl rfl rfl (by decide +kernel) ⟨Nat.le_of_ble_eq_true rfl, Nat.le_of_ble_eq_true rfl⟩) ⟨mt_bl, va_recv (q0 := 0) (ci := 2) hK hP rfl rfl, mt_pr hX hPc hK hDc⟩ rfl rfl hl.1 rfl (lv_room (Nat.le_of_ble_eq_true rfl)) d_ld_tell_63 ⟨Nat.le_of_ble_eq_true rfl, Nat.le_of_ble_eq_true rfl⟩) (fun r6 hr6 => ?_)
    have hr6 : (r6 = 1 ∧ (upd of k x3) k >>> ((nI j) &&& 31) &&& 1 = 1) ∨ (r6 = 0 ∧ ¬ (upd of k x3) k >>> ((nI j) &&& 31) &&& 1 = 1) := hr6
    refine lv_if_eq hx hb d_ld_tell_66 rfl (fun g3 => ?_) (fun g3 => ?_)
    ·
      refine lv_iload hx hb d_ld_tell_82 (lv_at hl 0 rfl) ?_
      exact W.iret hx hb hr (fun t ht hW => ⟨⟨(-1), (), rfl, ⟨rfl, trivial⟩, trivial⟩, hS.F ht⟩) hS.2.2 d_ld_tell_84
    ·
      refine lv_aload_n hx hb d_ld_tell_69 rfl (lv_at hl 1 rfl) ?_
      refine gf_ld_20 hx hb hg hown hK hP 0 rfl rfl d_ld_tell_70 ?_
      refine lv_iload_n hx hb d_ld_tell_73 rfl (lv_at hl 2 rfl) ?_
      refine lv_dup2_11 hx hb d_ld_tell_74 rfl rfl ?_
      refine va_iald hx hb hK hP 3 1 rfl rfl (vp_in_nI hk (by decide)) d_ld_tell_75 ?_
      refine lv_topi (fun y7 ey7 => ?_)
      have ey7 : y7 = nI j := ey7.trans (by rw [nI_clamp (show k < 2 ^ 31 by omega)]; exact hg9)
      subst ey7
      refine lv_iconst (v := 1) hx hb d_ld_tell_76 (by decide) ?_
      refine lv_iadd hx hb d_ld_tell_77 ?_
      refine lv_topi (fun y8 ey8 => ?_)
      have ey8 : y8 = nI (j + 1) := ey8.trans ((nI_succ j).symm)
      subst ey8
      refine va_iast hx hb hK hP hD hS 3 1 rfl rfl (vp_in_nI hk (by decide)) d_ld_tell_78 (fun H locs hP hD hS => ?_)
      rw [nI_clamp (show k < 2 ^ 31 by omega)] at hP hD
      have hP : va_P D kls ([(da, .inr (2, [.ref dce, .ref dto, .ref dle])), (dce, .inl (cII, 6, .inr (.inr (.inr (.inr (fun i => if i < 6 then some (rl i) else none)))))), (dto, .inl (cI, 6, .inl (upd of k x3))), (dle, .inl (cI, 6, .inl (upd g k (nI (j + 1)))))] ++ mt_rw 6 rl (va_up re k (.inl (cI, 30, .inl (upd f9 tt ce))))) H := hP
      have hD : va_D A ([(da, .inr (2, [.ref dce, .ref dto, .ref dle])), (dce, .inl (cII, 6, .inr (.inr (.inr (.inr (fun i => if i < 6 then some (rl i) else none)))))), (dto, .inl (cI, 6, .inl (upd of k x3))), (dle, .inl (cI, 6, .inl (upd g k (nI (j + 1)))))] ++ mt_rw 6 rl (va_up re k (.inl (cI, 30, .inl (upd f9 tt ce))))) := hD
      refine lv_goto hx hb d_ld_tell_79 rfl ?_
      have hl := lv_sub hl [0, 1, 2] (l' := [(4, .int (-1)), (0, .ref da), (1, .int (nI k))]) rfl
      exact ih_a (j + 1, upd g k (nI (j + 1))) ls H _ (by show 30 - (j + 1) < 30 - j; omega) ⟨by show j + 1 ≤ 30; omega, pk_us, hl, hP, hD, hS⟩

set_option maxHeartbeats 4000000 in
set_option maxRecDepth 100000 in
theorem c_vd_blame (l : Launch) (D : va_G) (cZ cI cJ cII : ClassId) (ea : Nat) (efl : Nat) (ecr : Nat) (ela : Nat) (eso : Int32) (eti : Int32) (eles : Int32) (egr : Int32) (b1 : Int32) (b2 : Int32) (b3 : Int32) (b4 : Int32) (sz : Nat)  : Met l y_vd_blame w_vd_blame ({ frames := 0, cells := 0, slots := 0, locals := 0 }) (va_Pc [.ref ea, .int b1, .int b2, .int b3, .int b4] (mt_B D [(cZ, .boolean), (cI, .int), (cJ, .long), (cII, .array .int)] [(ea, .inr (5, [.ref efl, .ref ecr, .ref ela, .int eso, .int eti, .int eles, .int egr]))] sz)) ((fun A => va_Qv (fun (u : Unit) => True) (fun (u : Unit) (t : State) => mt_O D A [(ea, .inr (5, [.ref efl, .ref ecr, .ref ela, .int b1, .int b2, .int b3, .int b4]))] t) A) (va_A [(ea, .inr (5, [.ref efl, .ref ecr, .ref ela, .int eso, .int eti, .int eles, .int egr]))] sz)) 0 0 (va_A [(ea, .inr (5, [.ref efl, .ref ecr, .ref ela, .int eso, .int eti, .int eles, .int egr]))] sz) := by
  refine mt_of (y := y_vd_blame) (n := 5) (av := [.ref ea, .int b1, .int b2, .int b3, .int b4]) (QF := (fun A => va_Qv (fun (u : Unit) => True) (fun (u : Unit) (t : State) => mt_O D A [(ea, .inr (5, [.ref efl, .ref ecr, .ref ela, .int b1, .int b2, .int b3, .int b4]))] t) A)) (by decide) (Nat.le_of_ble_eq_true rfl) ?_
  intro p e s m below meth c ls A hx hb hr hlk hml hown hnm hg hl hX hP hK hD hA hS
  obtain ⟨H, hH⟩ : ∃ H : Heap, H = s.heap := ⟨_, rfl⟩
  have hS : va_S A s.heap H [] := by rw [hH]; exact va_S.rf
  rw [← hH] at hP ⊢
  have hown : s.vm.findClass R_vd = some m.cls := hown
  have hl : lv_has ls 5 [(0, .ref ea), (1, .int b1), (2, .int b2), (3, .int b3), (4, .int b4)] := hl
  refine lv_aload_n hx hb d_vd_blame_0 rfl (lv_at hl 0 rfl) ?_
  refine lv_iload_n hx hb d_vd_blame_1 rfl (lv_at hl 1 rfl) ?_
  refine pf_vd_27 hx hb hg hown hK hP hD hS 0 rfl rfl rfl (Nat.le_of_ble_eq_true rfl) d_vd_blame_2 (fun H locs hP hD hS => ?_)
  have hP : va_P D kls [(ea, .inr (5, [.ref efl, .ref ecr, .ref ela, .int b1, .int eti, .int eles, .int egr]))] H := hP
  have hD : va_D A [(ea, .inr (5, [.ref efl, .ref ecr, .ref ela, .int b1, .int eti, .int eles, .int egr]))] := hD
  refine lv_aload_n hx hb d_vd_blame_5 rfl (lv_at hl 0 rfl) ?_
  refine lv_iload_n hx hb d_vd_blame_6 rfl (lv_at hl 2 rfl) ?_
  refine pf_vd_39 hx hb hg hown hK hP hD hS 0 rfl rfl rfl (Nat.le_of_ble_eq_true rfl) d_vd_blame_7 (fun H locs hP hD hS => ?_)
  have hP : va_P D kls [(ea, .inr (5, [.ref efl, .ref ecr, .ref ela, .int b1, .int b2, .int eles, .int egr]))] H := hP
  have hD : va_D A [(ea, .inr (5, [.ref efl, .ref ecr, .ref ela, .int b1, .int b2, .int eles, .int egr]))] := hD
  refine lv_aload_n hx hb d_vd_blame_10 rfl (lv_at hl 0 rfl) ?_
  refine lv_iload_n hx hb d_vd_blame_11 rfl (lv_at hl 3 rfl) ?_
  refine pf_vd_42 hx hb hg hown hK hP hD hS 0 rfl rfl rfl (Nat.le_of_ble_eq_true rfl) d_vd_blame_12 (fun H locs hP hD hS => ?_)
  have hP : va_P D kls [(ea, .inr (5, [.ref efl, .ref ecr, .ref ela, .int b1, .int b2, .int b3, .int egr]))] H := hP
  have hD : va_D A [(ea, .inr (5, [.ref efl, .ref ecr, .ref ela, .int b1, .int b2, .int b3, .int egr]))] := hD
  refine lv_aload_n hx hb d_vd_blame_15 rfl (lv_at hl 0 rfl) ?_
  refine lv_iload hx hb d_vd_blame_16 (lv_at hl 4 rfl) ?_
  refine pf_vd_45 hx hb hg hown hK hP hD hS 0 rfl rfl rfl (Nat.le_of_ble_eq_true rfl) d_vd_blame_18 (fun H locs hP hD hS => ?_)
  have hP : va_P D kls [(ea, .inr (5, [.ref efl, .ref ecr, .ref ela, .int b1, .int b2, .int b3, .int b4]))] H := hP
  have hD : va_D A [(ea, .inr (5, [.ref efl, .ref ecr, .ref ela, .int b1, .int b2, .int b3, .int b4]))] := hD
  have hP9 := hP
  have hD9 := hD
  exact W.vret hx hb hr (fun t ht hW => ⟨⟨(), rfl, trivial, by rw [ht]; exact hP9, hD9⟩, hS.F ht⟩) hS.2.2 d_vd_blame_21

set_option maxHeartbeats 4000000 in
set_option maxRecDepth 100000 in
theorem c_vd_seekStrayed (l : Launch) (D : va_G) (cZ cI cJ cII : ClassId) (ea : Nat) (efl : Nat) (ela : Nat) (eso : Int32) (eti : Int32) (eles : Int32) (egr : Int32) (ca : Nat) (cfl : Nat) (cs : Nat) (cg : Nat) (cto : Nat) (cq : Nat) (cco : Nat) (cnx : Nat) (x : Int32) (sz : Nat)  : Met l y_vd_seekStrayed w_vd_seekStrayed ({ frames := 0, cells := 0, slots := 0, locals := 0 }) (va_Pc [.ref ea, .int x] (mt_B D [(cZ, .boolean), (cI, .int), (cJ, .long), (cII, .array .int)] [(ea, .inr (5, [.ref efl, .ref ca, .ref ela, .int eso, .int eti, .int eles, .int egr])), (ca, .inr (0, [.ref cfl, .int 0, .ref cs, .ref cg, .ref cto, .ref cq, .ref cco, .ref cnx]))] sz)) ((fun A => va_Qv (fun (u : Unit) => True) (fun (u : Unit) (t : State) => mt_O D A [(ea, .inr (5, [.ref efl, .ref ca, .ref ela, .int eso, .int eti, .int eles, .int egr])), (ca, .inr (0, [.ref cfl, .int 0, .ref cs, .ref cg, .ref cto, .ref cq, .ref cco, .ref cnx]))] t) A) (va_A [(ea, .inr (5, [.ref efl, .ref ca, .ref ela, .int eso, .int eti, .int eles, .int egr])), (ca, .inr (0, [.ref cfl, .int 0, .ref cs, .ref cg, .ref cto, .ref cq, .ref cco, .ref cnx]))] sz)) 0 0 (va_A [(ea, .inr (5, [.ref efl, .ref ca, .ref ela, .int eso, .int eti, .int eles, .int egr])), (ca, .inr (0, [.ref cfl, .int 0, .ref cs, .ref cg, .ref cto, .ref cq, .ref cco, .ref cnx]))] sz) := by
  refine mt_of (y := y_vd_seekStrayed) (n := 3) (av := [.ref ea, .int x]) (QF := (fun A => va_Qv (fun (u : Unit) => True) (fun (u : Unit) (t : State) => mt_O D A [(ea, .inr (5, [.ref efl, .ref ca, .ref ela, .int eso, .int eti, .int eles, .int egr])), (ca, .inr (0, [.ref cfl, .int 0, .ref cs, .ref cg, .ref cto, .ref cq, .ref cco, .ref cnx]))] t) A)) (by decide) (Nat.le_of_ble_eq_true rfl) ?_
  intro p e s m below meth c ls A hx hb hr hlk hml hown hnm hg hl hX hP hK hD hA hS
  obtain ⟨H, hH⟩ : ∃ H : Heap, H = s.heap := ⟨_, rfl⟩
  have hS : va_S A s.heap H [] := by rw [hH]; exact va_S.rf
  rw [← hH] at hP ⊢
  have hown : s.vm.findClass R_vd = some m.cls := hown
  have hl : lv_has ls 3 [(0, .ref ea), (1, .int x)] := hl
  refine lv_iconst (v := 0) hx hb d_vd_seekStrayed_0 (by decide) ?_
  refine lv_istore_n hx hb d_vd_seekStrayed_1 rfl hl (by decide) rfl (fun ls hl => ?_)
  have hl : lv_has ls 3 [(2, .int 0), (0, .ref ea), (1, .int x)] := hl
  refine lv_iload_n hx hb d_vd_seekStrayed_2 rfl (lv_at hl 0 rfl) ?_
  refine lv_aload_n hx hb d_vd_seekStrayed_3 rfl (lv_at hl 1 rfl) ?_
  refine gf_vd_15 hx hb hg hown hK hP 0 rfl rfl d_vd_seekStrayed_4 ?_
  refine gf_vd_48 hx hb hg hown hK hP 1 rfl rfl d_vd_seekStrayed_7 ?_
  refine lv_icmp_ge hx hb d_vd_seekStrayed_10 rfl (fun _ => ?_) (fun h => absurd (by decide) h)
  have hP9 := hP
  have hD9 := hD
  exact W.vret hx hb hr (fun t ht hW => ⟨⟨(), rfl, trivial, by rw [ht]; exact hP9, hD9⟩, hS.F ht⟩) hS.2.2 d_vd_seekStrayed_37

set_option maxHeartbeats 4000000 in
set_option maxRecDepth 100000 in
theorem c_vd_seekMeeting (l : Launch) (D : va_G) (cZ cI cJ cII : ClassId) (ea : Nat) (efl : Nat) (ela : Nat) (eso : Int32) (eti : Int32) (eles : Int32) (egr : Int32) (ca : Nat) (cfl : Nat) (cs : Nat) (cg : Nat) (cto : Nat) (cq : Nat) (cco : Nat) (cnx : Nat) (x : Int32) (y : Int32) (sz : Nat)  : Met l y_vd_seekMeeting w_vd_seekMeeting ({ frames := 0, cells := 0, slots := 0, locals := 0 }) (va_Pc [.ref ea, .int x, .int y] (mt_B D [(cZ, .boolean), (cI, .int), (cJ, .long), (cII, .array .int)] [(ea, .inr (5, [.ref efl, .ref ca, .ref ela, .int eso, .int eti, .int eles, .int egr])), (ca, .inr (0, [.ref cfl, .int 0, .ref cs, .ref cg, .ref cto, .ref cq, .ref cco, .ref cnx]))] sz)) ((fun A => va_Qv (fun (u : Unit) => True) (fun (u : Unit) (t : State) => mt_O D A [(ea, .inr (5, [.ref efl, .ref ca, .ref ela, .int eso, .int eti, .int eles, .int egr])), (ca, .inr (0, [.ref cfl, .int 0, .ref cs, .ref cg, .ref cto, .ref cq, .ref cco, .ref cnx]))] t) A) (va_A [(ea, .inr (5, [.ref efl, .ref ca, .ref ela, .int eso, .int eti, .int eles, .int egr])), (ca, .inr (0, [.ref cfl, .int 0, .ref cs, .ref cg, .ref cto, .ref cq, .ref cco, .ref cnx]))] sz)) 0 0 (va_A [(ea, .inr (5, [.ref efl, .ref ca, .ref ela, .int eso, .int eti, .int eles, .int egr])), (ca, .inr (0, [.ref cfl, .int 0, .ref cs, .ref cg, .ref cto, .ref cq, .ref cco, .ref cnx]))] sz) := by
  refine mt_of (y := y_vd_seekMeeting) (n := 5) (av := [.ref ea, .int x, .int y]) (QF := (fun A => va_Qv (fun (u : Unit) => True) (fun (u : Unit) (t : State) => mt_O D A [(ea, .inr (5, [.ref efl, .ref ca, .ref ela, .int eso, .int eti, .int eles, .int egr])), (ca, .inr (0, [.ref cfl, .int 0, .ref cs, .ref cg, .ref cto, .ref cq, .ref cco, .ref cnx]))] t) A)) (by decide) (Nat.le_of_ble_eq_true rfl) ?_
  intro p e s m below meth c ls A hx hb hr hlk hml hown hnm hg hl hX hP hK hD hA hS
  obtain ⟨H, hH⟩ : ∃ H : Heap, H = s.heap := ⟨_, rfl⟩
  have hS : va_S A s.heap H [] := by rw [hH]; exact va_S.rf
  rw [← hH] at hP ⊢
  have hown : s.vm.findClass R_vd = some m.cls := hown
  have hl : lv_has ls 5 [(0, .ref ea), (1, .int x), (2, .int y)] := hl
  refine lv_iconst (v := 0) hx hb d_vd_seekMeeting_0 (by decide) ?_
  refine lv_istore_n hx hb d_vd_seekMeeting_1 rfl hl (by decide) rfl (fun ls hl => ?_)
  have hl : lv_has ls 5 [(3, .int 0), (0, .ref ea), (1, .int x), (2, .int y)] := hl
  refine lv_iload_n hx hb d_vd_seekMeeting_2 rfl (lv_at hl 0 rfl) ?_
  refine lv_aload_n hx hb d_vd_seekMeeting_3 rfl (lv_at hl 1 rfl) ?_
  refine gf_vd_15 hx hb hg hown hK hP 0 rfl rfl d_vd_seekMeeting_4 ?_
  refine gf_vd_48 hx hb hg hown hK hP 1 rfl rfl d_vd_seekMeeting_7 ?_
  refine lv_icmp_ge hx hb d_vd_seekMeeting_10 rfl (fun _ => ?_) (fun h => absurd (by decide) h)
  have hP9 := hP
  have hD9 := hD
  exact W.vret hx hb hr (fun t ht hW => ⟨⟨(), rfl, trivial, by rw [ht]; exact hP9, hD9⟩, hS.F ht⟩) hS.2.2 d_vd_seekMeeting_82

set_option maxHeartbeats 4000000 in
set_option maxRecDepth 100000 in
theorem c_vd_seek (l : Launch) (D : va_G) (cZ cI cJ cII : ClassId) (ea : Nat) (efl : Nat) (ela : Nat) (eso : Int32) (eti : Int32) (eles : Int32) (egr : Int32) (ca : Nat) (cfl : Nat) (cs : Nat) (cg : Nat) (cto : Nat) (cq : Nat) (cco : Nat) (cnx : Nat) (sz : Nat)  : Met l y_vd_seek w_vd_seek ({ frames := 1, cells := 0, slots := 0, locals := 40 }) (va_Pc [.ref ea] (mt_B D [(cZ, .boolean), (cI, .int), (cJ, .long), (cII, .array .int)] [(ea, .inr (5, [.ref efl, .ref ca, .ref ela, .int eso, .int eti, .int eles, .int egr])), (ca, .inr (0, [.ref cfl, .int 0, .ref cs, .ref cg, .ref cto, .ref cq, .ref cco, .ref cnx]))] sz)) ((fun A => va_Qv (fun (u : Unit) => True) (fun (u : Unit) (t : State) => mt_O D A [(ea, .inr (5, [.ref efl, .ref ca, .ref ela, .int 0, .int (-1), .int (-1), .int (-1)])), (ca, .inr (0, [.ref cfl, .int 0, .ref cs, .ref cg, .ref cto, .ref cq, .ref cco, .ref cnx]))] t) A) (va_A [(ea, .inr (5, [.ref efl, .ref ca, .ref ela, .int eso, .int eti, .int eles, .int egr])), (ca, .inr (0, [.ref cfl, .int 0, .ref cs, .ref cg, .ref cto, .ref cq, .ref cco, .ref cnx]))] sz)) 0 0 (va_A [(ea, .inr (5, [.ref efl, .ref ca, .ref ela, .int eso, .int eti, .int eles, .int egr])), (ca, .inr (0, [.ref cfl, .int 0, .ref cs, .ref cg, .ref cto, .ref cq, .ref cco, .ref cnx]))] sz) := by
  refine mt_of (y := y_vd_seek) (n := 2) (av := [.ref ea]) (QF := (fun A => va_Qv (fun (u : Unit) => True) (fun (u : Unit) (t : State) => mt_O D A [(ea, .inr (5, [.ref efl, .ref ca, .ref ela, .int 0, .int (-1), .int (-1), .int (-1)])), (ca, .inr (0, [.ref cfl, .int 0, .ref cs, .ref cg, .ref cto, .ref cq, .ref cco, .ref cnx]))] t) A)) (by decide) (Nat.le_of_ble_eq_true rfl) ?_
  intro p e s m below meth c ls A hx hb hr hlk hml hown hnm hg hl hX hP hK hD hA hS
  obtain ⟨H, hH⟩ : ∃ H : Heap, H = s.heap := ⟨_, rfl⟩
  have hS : va_S A s.heap H [] := by rw [hH]; exact va_S.rf
  rw [← hH] at hP ⊢
  have hown : s.vm.findClass R_vd = some m.cls := hown
  have hl : lv_has ls 2 [(0, .ref ea)] := hl
  refine lv_aload_n hx hb d_vd_seek_0 rfl (lv_at hl 0 rfl) ?_
  refine lv_iconst (v := 0) hx hb d_vd_seek_1 (by decide) ?_
  refine lv_iconst (v := (-1)) hx hb d_vd_seek_2 (by decide) ?_
  refine lv_iconst (v := (-1)) hx hb d_vd_seek_3 (by decide) ?_
  refine lv_iconst (v := (-1)) hx hb d_vd_seek_4 (by decide) ?_
  have hPc := hP.sub (ws' := [(ea, .inr (5, [.ref efl, .ref ca, .ref ela, .int eso, .int eti, .int eles, .int egr]))]) [0] rfl
  have hDc := hD.sub (ws' := [(ea, .inr (5, [.ref efl, .ref ca, .ref ela, .int eso, .int eti, .int eles, .int egr]))]) [0] (by decide) rfl
  have hFc := va_free (wc := [(ea, .inr (5, [.ref efl, .ref ca, .ref ela, .int eso, .int eti, .int eles, .int egr]))]) hD hS hA [0] rfl
  refine va_callv (va_runV (As := [.int 0, .int (-1), .int (-1), .int (-1)]) (rest := []) ⟨hx, hb, hml, hown, hg⟩ (c_vd_blame l D cZ cI cJ cII ea efl ca ela eso eti eles egr 0 (-1) (-1) (-1) H.size ) (cwV 4 hg gv_vd_23 rfl rfl rfl (by decide +kernel) ⟨Nat.le_of_ble_eq_true rfl, Nat.le_of_ble_eq_true rfl⟩) ⟨mt_bl, va_recv (q0 := 0) (ci := 5) hK hP rfl rfl, mt_pr hX hPc hK hDc⟩ rfl rfl hl.1 rfl (lv_room (Nat.le_of_ble_eq_true rfl)) d_vd_seek_5 ⟨Nat.le_of_ble_eq_true rfl, Nat.le_of_ble_eq_true rfl⟩) hS (fun q _ h => hFc q h) hFc (fun u t H1 locs ht hvm hw hB hz1 hk1 hS => ?_)
  obtain ⟨hP1, hD1⟩ := hB
  rw [ht] at hP1
  obtain ⟨hP, hD⟩ := va_join (wr := [(ca, .inr (0, [.ref cfl, .int 0, .ref cs, .ref cg, .ref cto, .ref cq, .ref cco, .ref cnx]))]) (w1 := [(ea, .inr (5, [.ref efl, .ref ca, .ref ela, .int 0, .int (-1), .int (-1), .int (-1)]))]) hP hD [0] [1] rfl rfl (by decide) (by decide) hk1 hFc hP1 hD1
  generalize H1 = H at hP hS ⊢
  have hP : va_P D kls [(ca, .inr (0, [.ref cfl, .int 0, .ref cs, .ref cg, .ref cto, .ref cq, .ref cco, .ref cnx])), (ea, .inr (5, [.ref efl, .ref ca, .ref ela, .int 0, .int (-1), .int (-1), .int (-1)]))] H := hP
  have hD : va_D A [(ca, .inr (0, [.ref cfl, .int 0, .ref cs, .ref cg, .ref cto, .ref cq, .ref cco, .ref cnx])), (ea, .inr (5, [.ref efl, .ref ca, .ref ela, .int 0, .int (-1), .int (-1), .int (-1)]))] := hD
  refine lv_iconst (v := 0) hx hb d_vd_seek_8 (by decide) ?_
  refine lv_istore_n hx hb d_vd_seek_9 rfl hl (by decide) rfl (fun ls hl => ?_)
  have hl : lv_has ls 2 [(1, .int 0), (0, .ref ea)] := hl
  have hl := lv_sub hl [0, 1] (l' := [(1, .int (nI 0)), (0, .ref ea)]) rfl
  refine mt_loop (ι := Nat) (I := fun i ls H locs => (i ≤ 30) ∧ lv_has ls 2 [(1, .int (nI i)), (0, .ref ea)] ∧ va_P D kls [(ca, .inr (0, [.ref cfl, .int 0, .ref cs, .ref cg, .ref cto, .ref cq, .ref cco, .ref cnx])), (ea, .inr (5, [.ref efl, .ref ca, .ref ela, .int 0, .int (-1), .int (-1), .int (-1)]))] H ∧ va_D A [(ca, .inr (0, [.ref cfl, .int 0, .ref cs, .ref cg, .ref cto, .ref cq, .ref cco, .ref cnx])), (ea, .inr (5, [.ref efl, .ref ca, .ref ela, .int 0, .int (-1), .int (-1), .int (-1)]))] ∧ va_S A s.heap H locs) (μ := fun i => 30 - i) ?_ 0 ls H _ ⟨Nat.zero_le _, hl, hP, hD, hS⟩
  clear hl hP hD hS
  intro tt ls H locs ⟨htt, hl, hP, hD, hS⟩ ih_a
  have htt : tt ≤ 30 := htt
  have hl : lv_has ls 2 [(1, .int (nI tt)), (0, .ref ea)] := hl
  have hP : va_P D kls [(ca, .inr (0, [.ref cfl, .int 0, .ref cs, .ref cg, .ref cto, .ref cq, .ref cco, .ref cnx])), (ea, .inr (5, [.ref efl, .ref ca, .ref ela, .int 0, .int (-1), .int (-1), .int (-1)]))] H := hP
  have hD : va_D A [(ca, .inr (0, [.ref cfl, .int 0, .ref cs, .ref cg, .ref cto, .ref cq, .ref cco, .ref cnx])), (ea, .inr (5, [.ref efl, .ref ca, .ref ela, .int 0, .int (-1), .int (-1), .int (-1)]))] := hD
  refine lv_iload_n hx hb d_vd_seek_10 rfl (lv_at hl 0 rfl) ?_
  refine lv_bipush (v := 30) hx hb d_vd_seek_11 (by decide) ?_
  refine lv_icmp_ge hx hb d_vd_seek_13 rfl (fun g1 => ?_) (fun g1 => ?_)
  ·
    have hP9 := hP.sub (ws' := [(ea, .inr (5, [.ref efl, .ref ca, .ref ela, .int 0, .int (-1), .int (-1), .int (-1)])), (ca, .inr (0, [.ref cfl, .int 0, .ref cs, .ref cg, .ref cto, .ref cq, .ref cco, .ref cnx]))]) [1, 0] rfl
    have hD9 := hD.sub (ws' := [(ea, .inr (5, [.ref efl, .ref ca, .ref ela, .int 0, .int (-1), .int (-1), .int (-1)])), (ca, .inr (0, [.ref cfl, .int 0, .ref cs, .ref cg, .ref cto, .ref cq, .ref cco, .ref cnx]))]) [1, 0] (by decide) rfl
    exact W.vret hx hb hr (fun t ht hW => ⟨⟨(), rfl, trivial, by rw [ht]; exact hP9, hD9⟩, hS.F ht⟩) hS.2.2 d_vd_seek_64
  ·
    have g2 : tt < 30 := by rcases Nat.lt_or_ge tt 30 with h | h; exact h; exact absurd (nI_le (a := 30) h (by omega)) g1
    refine lv_aload_n hx hb d_vd_seek_16 rfl (lv_at hl 1 rfl) ?_
    refine gf_vd_27 hx hb hg hown hK hP 1 rfl rfl d_vd_seek_17 ?_
    refine lv_if_ne hx hb d_vd_seek_20 rfl (fun h => absurd (by decide) h) (fun _ => ?_)
    refine lv_aload_n hx hb d_vd_seek_23 rfl (lv_at hl 1 rfl) ?_
    refine lv_iload_n hx hb d_vd_seek_24 rfl (lv_at hl 0 rfl) ?_
    have hPc := hP.sub (ws' := [(ea, .inr (5, [.ref efl, .ref ca, .ref ela, .int 0, .int (-1), .int (-1), .int (-1)])), (ca, .inr (0, [.ref cfl, .int 0, .ref cs, .ref cg, .ref cto, .ref cq, .ref cco, .ref cnx]))]) [1, 0] rfl
    have hDc := hD.sub (ws' := [(ea, .inr (5, [.ref efl, .ref ca, .ref ela, .int 0, .int (-1), .int (-1), .int (-1)])), (ca, .inr (0, [.ref cfl, .int 0, .ref cs, .ref cg, .ref cto, .ref cq, .ref cco, .ref cnx]))]) [1, 0] (by decide) rfl
    have hFc := va_free (wc := [(ea, .inr (5, [.ref efl, .ref ca, .ref ela, .int 0, .int (-1), .int (-1), .int (-1)])), (ca, .inr (0, [.ref cfl, .int 0, .ref cs, .ref cg, .ref cto, .ref cq, .ref cco, .ref cnx]))]) hD hS hA [1, 0] rfl
    refine va_callv (va_runV (As := [.int (nI tt)]) (rest := []) ⟨hx, hb, hml, hown, hg⟩ (c_vd_seekStrayed l D cZ cI cJ cII ea efl ela 0 (-1) (-1) (-1) ca cfl cs cg cto cq cco cnx (nI tt) H.size ) (cwV 1 hg gv_vd_31 rfl rfl rfl (by decide +kernel) ⟨Nat.le_of_ble_eq_true rfl, Nat.le_of_ble_eq_true rfl⟩) ⟨mt_bl, va_recv (q0 := 1) (ci := 5) hK hP rfl rfl, mt_pr hX hPc hK hDc⟩ rfl rfl hl.1 rfl (lv_room (Nat.le_of_ble_eq_true rfl)) d_vd_seek_25 ⟨Nat.le_of_ble_eq_true rfl, Nat.le_of_ble_eq_true rfl⟩) hS (fun q _ h => hFc q h) hFc (fun u t H1 locs ht hvm hw hB hz1 hk1 hS => ?_)
    obtain ⟨hP1, hD1⟩ := hB
    rw [ht] at hP1
    obtain ⟨hP, hD⟩ := va_join (wr := []) (w1 := [(ea, .inr (5, [.ref efl, .ref ca, .ref ela, .int 0, .int (-1), .int (-1), .int (-1)])), (ca, .inr (0, [.ref cfl, .int 0, .ref cs, .ref cg, .ref cto, .ref cq, .ref cco, .ref cnx]))]) hP hD [1, 0] [] rfl rfl (by decide) (by decide) hk1 hFc hP1 hD1
    generalize H1 = H at hP hS ⊢
    have hP : va_P D kls [(ea, .inr (5, [.ref efl, .ref ca, .ref ela, .int 0, .int (-1), .int (-1), .int (-1)])), (ca, .inr (0, [.ref cfl, .int 0, .ref cs, .ref cg, .ref cto, .ref cq, .ref cco, .ref cnx]))] H := hP
    have hD : va_D A [(ea, .inr (5, [.ref efl, .ref ca, .ref ela, .int 0, .int (-1), .int (-1), .int (-1)])), (ca, .inr (0, [.ref cfl, .int 0, .ref cs, .ref cg, .ref cto, .ref cq, .ref cco, .ref cnx]))] := hD
    refine lv_aload_n hx hb d_vd_seek_28 rfl (lv_at hl 1 rfl) ?_
    refine gf_vd_27 hx hb hg hown hK hP 0 rfl rfl d_vd_seek_29 ?_
    refine lv_if_ne hx hb d_vd_seek_32 rfl (fun h => absurd (by decide) h) (fun _ => ?_)
    refine lv_aload_n hx hb d_vd_seek_35 rfl (lv_at hl 1 rfl) ?_
    refine lv_iload_n hx hb d_vd_seek_36 rfl (lv_at hl 0 rfl) ?_
    refine lv_iconst (v := 2) hx hb d_vd_seek_37 (by decide) ?_
    have hPc := hP
    have hDc := hD
    have hFc := mt_whole hD hS hA
    refine va_callv (va_runV (As := [.int (nI tt), .int 2]) (rest := []) ⟨hx, hb, hml, hown, hg⟩ (c_vd_seekMeeting l D cZ cI cJ cII ea efl ela 0 (-1) (-1) (-1) ca cfl cs cg cto cq cco cnx (nI tt) 2 H.size ) (cwV 2 hg gv_vd_35 rfl rfl rfl (by decide +kernel) ⟨Nat.le_of_ble_eq_true rfl, Nat.le_of_ble_eq_true rfl⟩) ⟨mt_bl, va_recv (q0 := 0) (ci := 5) hK hP rfl rfl, mt_pr hX hPc hK hDc⟩ rfl rfl hl.1 rfl (lv_room (Nat.le_of_ble_eq_true rfl)) d_vd_seek_38 ⟨Nat.le_of_ble_eq_true rfl, Nat.le_of_ble_eq_true rfl⟩) hS (fun q _ h => hFc q h) hFc (fun u t H1 locs ht hvm hw hB hz1 hk1 hS => ?_)
    obtain ⟨hP1, hD1⟩ := hB
    rw [ht] at hP1
    have hP := hP1
    have hD := hD1.weaken (fun _ _ _ h => hFc _ h)
    generalize H1 = H at hP hS ⊢
    have hP : va_P D kls [(ea, .inr (5, [.ref efl, .ref ca, .ref ela, .int 0, .int (-1), .int (-1), .int (-1)])), (ca, .inr (0, [.ref cfl, .int 0, .ref cs, .ref cg, .ref cto, .ref cq, .ref cco, .ref cnx]))] H := hP
    have hD : va_D A [(ea, .inr (5, [.ref efl, .ref ca, .ref ela, .int 0, .int (-1), .int (-1), .int (-1)])), (ca, .inr (0, [.ref cfl, .int 0, .ref cs, .ref cg, .ref cto, .ref cq, .ref cco, .ref cnx]))] := hD
    refine lv_aload_n hx hb d_vd_seek_41 rfl (lv_at hl 1 rfl) ?_
    refine gf_vd_27 hx hb hg hown hK hP 0 rfl rfl d_vd_seek_42 ?_
    refine lv_if_ne hx hb d_vd_seek_45 rfl (fun h => absurd (by decide) h) (fun _ => ?_)
    refine lv_iload_n hx hb d_vd_seek_48 rfl (lv_at hl 0 rfl) ?_
    refine lv_if_le hx hb d_vd_seek_49 rfl (fun g3 => ?_) (fun g3 => ?_)
    ·
      refine lv_iinc (k := 0) (v := nI (tt + 1)) hx hb d_vd_seek_58 hl rfl ((nI_succ tt).symm) (by decide) rfl (fun ls hl => ?_)
      have hl : lv_has ls 2 [(1, .int (nI (tt + 1))), (0, .ref ea)] := hl
      refine lv_goto hx hb d_vd_seek_61 rfl ?_
      have hl := lv_sub hl [0, 1] (l' := [(1, .int (nI (tt + 1))), (0, .ref ea)]) rfl
      have hP := hP.sub (ws' := [(ca, .inr (0, [.ref cfl, .int 0, .ref cs, .ref cg, .ref cto, .ref cq, .ref cco, .ref cnx])), (ea, .inr (5, [.ref efl, .ref ca, .ref ela, .int 0, .int (-1), .int (-1), .int (-1)]))]) [1, 0] rfl
      have hD := hD.sub (ws' := [(ca, .inr (0, [.ref cfl, .int 0, .ref cs, .ref cg, .ref cto, .ref cq, .ref cco, .ref cnx])), (ea, .inr (5, [.ref efl, .ref ca, .ref ela, .int 0, .int (-1), .int (-1), .int (-1)]))]) [1, 0] (by decide) rfl
      exact ih_a (tt + 1) ls H _ (by show 30 - (tt + 1) < 30 - tt; omega) ⟨by show tt + 1 ≤ 30; omega, hl, hP, hD, hS⟩
    ·
      refine lv_aload_n hx hb d_vd_seek_52 rfl (lv_at hl 1 rfl) ?_
      refine lv_iload_n hx hb d_vd_seek_53 rfl (lv_at hl 0 rfl) ?_
      refine lv_iconst (v := 3) hx hb d_vd_seek_54 (by decide) ?_
      have hPc := hP
      have hDc := hD
      have hFc := mt_whole hD hS hA
      refine va_callv (va_runV (As := [.int (nI tt), .int 3]) (rest := []) ⟨hx, hb, hml, hown, hg⟩ (c_vd_seekMeeting l D cZ cI cJ cII ea efl ela 0 (-1) (-1) (-1) ca cfl cs cg cto cq cco cnx (nI tt) 3 H.size ) (cwV 2 hg gv_vd_35 rfl rfl rfl (by decide +kernel) ⟨Nat.le_of_ble_eq_true rfl, Nat.le_of_ble_eq_true rfl⟩) ⟨mt_bl, va_recv (q0 := 0) (ci := 5) hK hP rfl rfl, mt_pr hX hPc hK hDc⟩ rfl rfl hl.1 rfl (lv_room (Nat.le_of_ble_eq_true rfl)) d_vd_seek_55 ⟨Nat.le_of_ble_eq_true rfl, Nat.le_of_ble_eq_true rfl⟩) hS (fun q _ h => hFc q h) hFc (fun u t H1 locs ht hvm hw hB hz1 hk1 hS => ?_)
      obtain ⟨hP1, hD1⟩ := hB
      rw [ht] at hP1
      have hP := hP1
      have hD := hD1.weaken (fun _ _ _ h => hFc _ h)
      generalize H1 = H at hP hS ⊢
      have hP : va_P D kls [(ea, .inr (5, [.ref efl, .ref ca, .ref ela, .int 0, .int (-1), .int (-1), .int (-1)])), (ca, .inr (0, [.ref cfl, .int 0, .ref cs, .ref cg, .ref cto, .ref cq, .ref cco, .ref cnx]))] H := hP
      have hD : va_D A [(ea, .inr (5, [.ref efl, .ref ca, .ref ela, .int 0, .int (-1), .int (-1), .int (-1)])), (ca, .inr (0, [.ref cfl, .int 0, .ref cs, .ref cg, .ref cto, .ref cq, .ref cco, .ref cnx]))] := hD
      refine lv_iinc (k := 0) (v := nI (tt + 1)) hx hb d_vd_seek_58 hl rfl ((nI_succ tt).symm) (by decide) rfl (fun ls hl => ?_)
      have hl : lv_has ls 2 [(1, .int (nI (tt + 1))), (0, .ref ea)] := hl
      refine lv_goto hx hb d_vd_seek_61 rfl ?_
      have hl := lv_sub hl [0, 1] (l' := [(1, .int (nI (tt + 1))), (0, .ref ea)]) rfl
      have hP := hP.sub (ws' := [(ca, .inr (0, [.ref cfl, .int 0, .ref cs, .ref cg, .ref cto, .ref cq, .ref cco, .ref cnx])), (ea, .inr (5, [.ref efl, .ref ca, .ref ela, .int 0, .int (-1), .int (-1), .int (-1)]))]) [1, 0] rfl
      have hD := hD.sub (ws' := [(ca, .inr (0, [.ref cfl, .int 0, .ref cs, .ref cg, .ref cto, .ref cq, .ref cco, .ref cnx])), (ea, .inr (5, [.ref efl, .ref ca, .ref ela, .int 0, .int (-1), .int (-1), .int (-1)]))]) [1, 0] (by decide) rfl
      exact ih_a (tt + 1) ls H _ (by show 30 - (tt + 1) < 30 - tt; omega) ⟨by show tt + 1 ≤ 30; omega, hl, hP, hD, hS⟩
