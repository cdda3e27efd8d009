theorem mt_rng {x : Int32} {n : Nat} (hn : n < 2 ^ 31) (h0 : ¬ x < 0) (h1 : x < nI n) : ∃ k, k < n ∧ x = nI k := by
  obtain ⟨j, hj, rfl⟩ := nI_of h0
  refine ⟨j, ?_, rfl⟩
  rcases Nat.lt_or_ge j n with g | g
  · exact g
  · exact absurd h1 (nI_nlt g hj)
/-- rows of int arrays by their contents -/
theorem mt_rw_row {cI : ClassId} {n z a : Nat} {r : Nat → Nat} {M : Nat → Nat → Int32} {f : Nat → Int32} : mt_rw n r (va_up (fun i => .inl (cI, z, .inl (M i))) a (.inl (cI, z, .inl f))) = mt_rw n r (fun i => .inl (cI, z, .inl (va_up M a f i))) := by
  unfold mt_rw
  apply List.map_congr_left
  intro i _
  by_cases h : i = a
  · simp [va_up, h]
  · simp [va_up, h]

theorem mt_min {a b : Nat} (ha : a < 2 ^ 31) (hb : b < 2 ^ 31) : (if nI b < nI a then nI b else nI a) = nI (min a b) := by
  by_cases h : b < a
  · rw [if_pos ((nI_ltI hb ha).mpr h), Nat.min_eq_right (by omega)]
  · rw [if_neg (fun q => h ((nI_ltI hb ha).mp q)), Nat.min_eq_left (by omega)]

set_option maxHeartbeats 4000000 in
set_option maxRecDepth 100000 in
theorem c_ld_forget (l : Launch) (D : va_G) (cZ cI cJ cII : ClassId) (da : Nat) (dce : Nat) (dto : Nat) (dle : Nat) (of : Nat → Int32) (lf : Nat → Int32) (sz : Nat)  : Met l y_ld_forget w_ld_forget ({ frames := 1, cells := 0, slots := 0, locals := 40 }) (va_Pc [.ref da] (mt_B D [(cZ, .boolean), (cI, .int), (cJ, .long), (cII, .array .int)] [(da, .inr (2, [.ref dce, .ref dto, .ref dle])), (dto, .inl (cI, 6, .inl of)), (dle, .inl (cI, 6, .inl lf))] sz)) ((fun A => va_Qv (fun (u : (Nat → Int32) × (Nat → Int32)) => (∀ j, j < 6 → (u.1) j = 0) ∧ (∀ j, j < 6 → (u.2) j = 0)) (fun (u : (Nat → Int32) × (Nat → Int32)) (t : State) => mt_O D A [(da, .inr (2, [.ref dce, .ref dto, .ref dle])), (dto, .inl (cI, 6, .inl (u.1))), (dle, .inl (cI, 6, .inl (u.2)))] t) A) (va_A [(da, .inr (2, [.ref dce, .ref dto, .ref dle])), (dto, .inl (cI, 6, .inl of)), (dle, .inl (cI, 6, .inl lf))] sz)) 0 0 (va_A [(da, .inr (2, [.ref dce, .ref dto, .ref dle])), (dto, .inl (cI, 6, .inl of)), (dle, .inl (cI, 6, .inl lf))] sz) := by
  refine mt_of (y := y_ld_forget) (n := 1) (av := [.ref da]) (QF := (fun A => va_Qv (fun (u : (Nat → Int32) × (Nat → Int32)) => (∀ j, j < 6 → (u.1) j = 0) ∧ (∀ j, j < 6 → (u.2) j = 0)) (fun (u : (Nat → Int32) × (Nat → Int32)) (t : State) => mt_O D A [(da, .inr (2, [.ref dce, .ref dto, .ref dle])), (dto, .inl (cI, 6, .inl (u.1))), (dle, .inl (cI, 6, .inl (u.2)))] t) A)) (by decide) (Nat.le_of_ble_eq_true rfl) ?_
  intro p e s m below meth c ls A hx hb hr hlk hml hown hnm hg hl hX hP hK hD hA hS
  obtain ⟨H, hH⟩ : ∃ H : Heap, H = s.heap := ⟨_, rfl⟩
  have hS : va_S A s.heap H [] := by rw [hH]; exact va_S.rf
  rw [← hH] at hP ⊢
  have hown : s.vm.findClass R_ld = some m.cls := hown
  have hl : lv_has ls 1 [(0, .ref da)] := hl
  refine lv_aload_n hx hb d_ld_forget_0 rfl (lv_at hl 0 rfl) ?_
  refine gf_ld_16 hx hb hg hown hK hP 0 rfl rfl d_ld_forget_1 ?_
  refine lv_iconst (v := 0) hx hb d_ld_forget_4 (by decide) ?_
  have hPc := hP.sub (ws' := [(dto, .inl (cI, 6, .inl of))]) [1] rfl
  have hDc := hD.sub (ws' := [(dto, .inl (cI, 6, .inl of))]) [1] (by decide) rfl
  have hFc := va_free (wc := [(dto, .inl (cI, 6, .inl of))]) hD hS hA [1] rfl
  refine va_callv (va_runS (As := [.ref dto, .int 0]) (rest := []) ⟨hx, hb, hml, hown, hg⟩ (c_ar_fillI l D cZ cI cJ cII dto 6 of 0 H.size (by decide)) ⟨callB_of 2 hg gg_ld_23 rfl rfl rfl (hg _ gi_ld_23) (hg _ gl_ld_23) (by decide +kernel) ⟨Nat.le_of_ble_eq_true rfl, Nat.le_of_ble_eq_true rfl⟩, hg _ gt_ld_23⟩ ⟨mt_bl, mt_pr hX hPc hK hDc⟩ rfl rfl hl.1 rfl (lv_room (Nat.le_of_ble_eq_true rfl)) d_ld_forget_5 ⟨Nat.le_of_ble_eq_true rfl, Nat.le_of_ble_eq_true rfl⟩) hS (fun q _ h => hFc q h) hFc (fun u t H1 locs ht hvm hw hB hz1 hk1 hS => ?_)
  obtain ⟨f12, rfl⟩ : ∃ z, z = u := ⟨_, rfl⟩
  have hr1 : ∀ j, j < (6 : Nat) → f12 j = (0 : Int32) := hw
  obtain ⟨hP1, hD1⟩ := hB
  rw [ht] at hP1
  obtain ⟨hP, hD⟩ := va_join (wr := [(da, .inr (2, [.ref dce, .ref dto, .ref dle])), (dle, .inl (cI, 6, .inl lf))]) (w1 := [(dto, .inl (cI, 6, .inl f12))]) hP hD [1] [0, 2] rfl rfl (by decide) (by decide) hk1 hFc hP1 hD1
  generalize H1 = H at hP hS ⊢
  have hP : va_P D kls [(da, .inr (2, [.ref dce, .ref dto, .ref dle])), (dle, .inl (cI, 6, .inl lf)), (dto, .inl (cI, 6, .inl f12))] H := hP
  have hD : va_D A [(da, .inr (2, [.ref dce, .ref dto, .ref dle])), (dle, .inl (cI, 6, .inl lf)), (dto, .inl (cI, 6, .inl f12))] := hD
  have fa1 := hr1
  refine lv_aload_n hx hb d_ld_forget_8 rfl (lv_at hl 0 rfl) ?_
  refine gf_ld_20 hx hb hg hown hK hP 0 rfl rfl d_ld_forget_9 ?_
  refine lv_iconst (v := 0) hx hb d_ld_forget_12 (by decide) ?_
  have hPc := hP.sub (ws' := [(dle, .inl (cI, 6, .inl lf))]) [1] rfl
  have hDc := hD.sub (ws' := [(dle, .inl (cI, 6, .inl lf))]) [1] (by decide) rfl
  have hFc := va_free (wc := [(dle, .inl (cI, 6, .inl lf))]) hD hS hA [1] rfl
  refine va_callv (va_runS (As := [.ref dle, .int 0]) (rest := []) ⟨hx, hb, hml, hown, hg⟩ (c_ar_fillI l D cZ cI cJ cII dle 6 lf 0 H.size (by decide)) ⟨callB_of 2 hg gg_ld_23 rfl rfl rfl (hg _ gi_ld_23) (hg _ gl_ld_23) (by decide +kernel) ⟨Nat.le_of_ble_eq_true rfl, Nat.le_of_ble_eq_true rfl⟩, hg _ gt_ld_23⟩ ⟨mt_bl, mt_pr hX hPc hK hDc⟩ rfl rfl hl.1 rfl (lv_room (Nat.le_of_ble_eq_true rfl)) d_ld_forget_13 ⟨Nat.le_of_ble_eq_true rfl, Nat.le_of_ble_eq_true rfl⟩) hS (fun q _ h => hFc q h) hFc (fun u t H1 locs ht hvm hw hB hz1 hk1 hS => ?_)
  obtain ⟨f14, rfl⟩ : ∃ z, z = u := ⟨_, rfl⟩
  have hr3 : ∀ j, j < (6 : Nat) → f14 j = (0 : Int32) := hw
  obtain ⟨hP1, hD1⟩ := hB
  rw [ht] at hP1
  obtain ⟨hP, hD⟩ := va_join (wr := [(da, .inr (2, [.ref dce, .ref dto, .ref dle])), (dto, .inl (cI, 6, .inl f12))]) (w1 := [(dle, .inl (cI, 6, .inl f14))]) hP hD [1] [0, 2] rfl rfl (by decide) (by decide) hk1 hFc hP1 hD1
  generalize H1 = H at hP hS ⊢
  have hP : va_P D kls [(da, .inr (2, [.ref dce, .ref dto, .ref dle])), (dto, .inl (cI, 6, .inl f12)), (dle, .inl (cI, 6, .inl f14))] H := hP
  have hD : va_D A [(da, .inr (2, [.ref dce, .ref dto, .ref dle])), (dto, .inl (cI, 6, .inl f12)), (dle, .inl (cI, 6, .inl f14))] := hD
  have fa2 := hr3
  have hP9 := hP
  have hD9 := hD
  exact W.vret hx hb hr (fun t ht hW => ⟨⟨(f12, f14), rfl, ⟨fa1, fa2⟩, by rw [ht]; exact hP9, hD9⟩, hS.F ht⟩) hS.2.2 d_ld_forget_16

set_option maxHeartbeats 4000000 in
set_option maxRecDepth 100000 in
theorem c_ld_isTold (l : Launch) (D : va_G) (cZ cI cJ cII : ClassId) (da : Nat) (dce : Nat) (dto : Nat) (dle : Nat) (of : Nat → Int32) (k : Nat) (y : Int32) (sz : Nat) (hk : k < 6) : Met l y_ld_isTold w_ld_isTold ({ frames := 0, cells := 0, slots := 0, locals := 0 }) (va_Pc [.ref da, .int (nI k), .int y] (mt_B D [(cZ, .boolean), (cI, .int), (cJ, .long), (cII, .array .int)] [(da, .inr (2, [.ref dce, .ref dto, .ref dle])), (dto, .inl (cI, 6, .inl of))] sz)) (vp_Si (fun r : Int32 => (r = 1 ∧ of k >>> (y &&& 31) &&& 1 = 1) ∨ (r = 0 ∧ ¬ of k >>> (y &&& 31) &&& 1 = 1))) 0 0 (fun _ => False) := by
  refine mt_ofR (by decide) (Nat.le_of_ble_eq_true rfl) ?_
  intro p e s m below meth c ls hx hb hr hlk hml hown hg hl hX hP hK hD
  have hown : s.vm.findClass R_ld = some m.cls := hown
  obtain ⟨H, hH⟩ : ∃ H : Heap, H = s.heap := ⟨_, rfl⟩
  rw [← hH] at hP ⊢
  have hl : lv_has ls 3 [(0, .ref da), (1, .int (nI k)), (2, .int y)] := hl
  refine lv_aload_n hx hb d_ld_isTold_0 rfl (lv_at hl 0 rfl) ?_
  refine gf_ld_16 hx hb hg hown hK hP 0 rfl rfl d_ld_isTold_1 ?_
  refine lv_iload_n hx hb d_ld_isTold_4 rfl (lv_at hl 1 rfl) ?_
  refine va_iald hx hb hK hP 1 1 rfl rfl (vp_in_nI hk (by decide)) d_ld_isTold_5 ?_
  refine lv_topi (fun y1 ey1 => ?_)
  have ey1 : y1 = of k := ey1.trans (by rw [nI_clamp (show k < 2 ^ 31 by omega)])
  subst ey1
  refine lv_iload_n hx hb d_ld_isTold_6 rfl (lv_at hl 2 rfl) ?_
  refine lv_ishr hx hb d_ld_isTold_7 ?_
  refine lv_iconst (v := 1) hx hb d_ld_isTold_8 (by decide) ?_
  refine lv_iand hx hb d_ld_isTold_9 ?_
  refine lv_iconst (v := 1) hx hb d_ld_isTold_10 (by decide) ?_
  refine lv_icmp_ne hx hb d_ld_isTold_11 rfl (fun g1 => ?_) (fun g1 => ?_)
  ·
    refine lv_iconst (v := 0) hx hb d_ld_isTold_18 (by decide) ?_
    exact W.zret hx hb hr rfl (fun t ht _ => ⟨0, rfl, Or.inr ⟨rfl, g1⟩, ht.trans hH⟩) (fun _ h => absurd h List.not_mem_nil) d_ld_isTold_19
  ·
    refine lv_iconst (v := 1) hx hb d_ld_isTold_14 (by decide) ?_
    refine lv_goto hx hb d_ld_isTold_15 rfl ?_
    exact W.zret hx hb hr rfl (fun t ht _ => ⟨1, rfl, Or.inl ⟨rfl, g1⟩, ht.trans hH⟩) (fun _ h => absurd h List.not_mem_nil) d_ld_isTold_19

set_option maxHeartbeats 4000000 in
set_option maxRecDepth 100000 in
theorem c_ld_isNowhere (l : Launch) (D : va_G) (cZ cI cJ cII : ClassId) (da : Nat) (dce : Nat) (dto : Nat) (dle : Nat) (lf : Nat → Int32) (k : Nat) (sz : Nat) (hk : k < 6) : Met l y_ld_isNowhere w_ld_isNowhere ({ frames := 0, cells := 0, slots := 0, locals := 0 }) (va_Pc [.ref da, .int (nI k)] (mt_B D [(cZ, .boolean), (cI, .int), (cJ, .long), (cII, .array .int)] [(da, .inr (2, [.ref dce, .ref dto, .ref dle])), (dle, .inl (cI, 6, .inl lf))] sz)) (vp_Si (fun r : Int32 => (r = 1 ∧ lf k = 0) ∨ (r = 0 ∧ ¬ lf k = 0))) 0 0 (fun _ => False) := by
  refine mt_ofR (by decide) (Nat.le_of_ble_eq_true rfl) ?_
  intro p e s m below meth c ls hx hb hr hlk hml hown hg hl hX hP hK hD
  have hown : s.vm.findClass R_ld = some m.cls := hown
  obtain ⟨H, hH⟩ : ∃ H : Heap, H = s.heap := ⟨_, rfl⟩
  rw [← hH] at hP ⊢
  have hl : lv_has ls 2 [(0, .ref da), (1, .int (nI k))] := hl
  refine lv_aload_n hx hb d_ld_isNowhere_0 rfl (lv_at hl 0 rfl) ?_
  refine gf_ld_20 hx hb hg hown hK hP 0 rfl rfl d_ld_isNowhere_1 ?_
  refine lv_iload_n hx hb d_ld_isNowhere_4 rfl (lv_at hl 1 rfl) ?_
  refine va_iald hx hb hK hP 1 1 rfl rfl (vp_in_nI hk (by decide)) d_ld_isNowhere_5 ?_
  refine lv_topi (fun y1 ey1 => ?_)
  have ey1 : y1 = lf k := ey1.trans (by rw [nI_clamp (show k < 2 ^ 31 by omega)])
  subst ey1
  refine lv_if_ne hx hb d_ld_isNowhere_6 rfl (fun g1 => ?_) (fun g1 => ?_)
  ·
    refine lv_iconst (v := 0) hx hb d_ld_isNowhere_13 (by decide) ?_
    exact W.zret hx hb hr rfl (fun t ht _ => ⟨0, rfl, Or.inr ⟨rfl, g1⟩, ht.trans hH⟩) (fun _ h => absurd h List.not_mem_nil) d_ld_isNowhere_14
  ·
    refine lv_iconst (v := 1) hx hb d_ld_isNowhere_9 (by decide) ?_
    refine lv_goto hx hb d_ld_isNowhere_10 rfl ?_
    exact W.zret hx hb hr rfl (fun t ht _ => ⟨1, rfl, Or.inl ⟨rfl, g1⟩, ht.trans hH⟩) (fun _ h => absurd h List.not_mem_nil) d_ld_isNowhere_14

set_option maxHeartbeats 4000000 in
set_option maxRecDepth 100000 in
theorem c_vd_blame (l : Launch) (D : va_G) (cZ cI cJ cII : ClassId) (ea : Nat) (efl : Nat) (ecr : Nat) (ela : Nat) (eso : Int32) (eti : Int32) (eles : Int32) (egr : Int32) (b1 : Int32) (b2 : Int32) (b3 : Int32) (b4 : Int32) (sz : Nat)  : Met l y_vd_blame w_vd_blame ({ frames := 0, cells := 0, slots := 0, locals := 0 }) (va_Pc [.ref ea, .int b1, .int b2, .int b3, .int b4] (mt_B D [(cZ, .boolean), (cI, .int), (cJ, .long), (cII, .array .int)] [(ea, .inr (5, [.ref efl, .ref ecr, .ref ela, .int eso, .int eti, .int eles, .int egr]))] sz)) ((fun A => va_Qv (fun (u : Unit) => True) (fun (u : Unit) (t : State) => mt_O D A [(ea, .inr (5, [.ref efl, .ref ecr, .ref ela, .int b1, .int b2, .int b3, .int b4]))] t) A) (va_A [(ea, .inr (5, [.ref efl, .ref ecr, .ref ela, .int eso, .int eti, .int eles, .int egr]))] sz)) 0 0 (va_A [(ea, .inr (5, [.ref efl, .ref ecr, .ref ela, .int eso, .int eti, .int eles, .int egr]))] sz) := by
  refine mt_of (y := y_vd_blame) (n := 5) (av := [.ref ea, .int b1, .int b2, .int b3, .int b4]) (QF := (fun A => va_Qv (fun (u : Unit) => True) (fun (u : Unit) (t : State) => mt_O D A [(ea, .inr (5, [.ref efl, .ref ecr, .ref ela, .int b1, .int b2, .int b3, .int b4]))] t) A)) (by decide) (Nat.le_of_ble_eq_true rfl) ?_
  intro p e s m below meth c ls A hx hb hr hlk hml hown hnm hg hl hX hP hK hD hA hS
  obtain ⟨H, hH⟩ : ∃ H : Heap, H = s.heap := ⟨_, rfl⟩
  have hS : va_S A s.heap H [] := by rw [hH]; exact va_S.rf
  rw [← hH] at hP ⊢
  have hown : s.vm.findClass R_vd = some m.cls := hown
  have hl : lv_has ls 5 [(0, .ref ea), (1, .int b1), (2, .int b2), (3, .int b3), (4, .int b4)] := hl
  refine lv_aload_n hx hb d_vd_blame_0 rfl (lv_at hl 0 rfl) ?_
  refine lv_iload_n hx hb d_vd_blame_1 rfl (lv_at hl 1 rfl) ?_
  refine pf_vd_27 hx hb hg hown hK hP hD hS 0 rfl rfl rfl (Nat.le_of_ble_eq_true rfl) d_vd_blame_2 (fun H locs hP hD hS => ?_)
  have hP : va_P D kls [(ea, .inr (5, [.ref efl, .ref ecr, .ref ela, .int b1, .int eti, .int eles, .int egr]))] H := hP
  have hD : va_D A [(ea, .inr (5, [.ref efl, .ref ecr, .ref ela, .int b1, .int eti, .int eles, .int egr]))] := hD
  refine lv_aload_n hx hb d_vd_blame_5 rfl (lv_at hl 0 rfl) ?_
  refine lv_iload_n hx hb d_vd_blame_6 rfl (lv_at hl 2 rfl) ?_
  refine pf_vd_39 hx hb hg hown hK hP hD hS 0 rfl rfl rfl (Nat.le_of_ble_eq_true rfl) d_vd_blame_7 (fun H locs hP hD hS => ?_)
  have hP : va_P D kls [(ea, .inr (5, [.ref efl, .ref ecr, .ref ela, .int b1, .int b2, .int eles, .int egr]))] H := hP
  have hD : va_D A [(ea, .inr (5, [.ref efl, .ref ecr, .ref ela, .int b1, .int b2, .int eles, .int egr]))] := hD
  refine lv_aload_n hx hb d_vd_blame_10 rfl (lv_at hl 0 rfl) ?_
  refine lv_iload_n hx hb d_vd_blame_11 rfl (lv_at hl 3 rfl) ?_
  refine pf_vd_42 hx hb hg hown hK hP hD hS 0 rfl rfl rfl (Nat.le_of_ble_eq_true rfl) d_vd_blame_12 (fun H locs hP hD hS => ?_)
  have hP : va_P D kls [(ea, .inr (5, [.ref efl, .ref ecr, .ref ela, .int b1, .int b2, .int b3, .int egr]))] H := hP
  have hD : va_D A [(ea, .inr (5, [.ref efl, .ref ecr, .ref ela, .int b1, .int b2, .int b3, .int egr]))] := hD
  refine lv_aload_n hx hb d_vd_blame_15 rfl (lv_at hl 0 rfl) ?_
  refine lv_iload hx hb d_vd_blame_16 (lv_at hl 4 rfl) ?_
  refine pf_vd_45 hx hb hg hown hK hP hD hS 0 rfl rfl rfl (Nat.le_of_ble_eq_true rfl) d_vd_blame_18 (fun H locs hP hD hS => ?_)
  have hP : va_P D kls [(ea, .inr (5, [.ref efl, .ref ecr, .ref ela, .int b1, .int b2, .int b3, .int b4]))] H := hP
  have hD : va_D A [(ea, .inr (5, [.ref efl, .ref ecr, .ref ela, .int b1, .int b2, .int b3, .int b4]))] := hD
  have hP9 := hP
  have hD9 := hD
  exact W.vret hx hb hr (fun t ht hW => ⟨⟨(), rfl, trivial, by rw [ht]; exact hP9, hD9⟩, hS.F ht⟩) hS.2.2 d_vd_blame_21

set_option maxHeartbeats 4000000 in
set_option maxRecDepth 100000 in
theorem c_cr_wayFromStart (l : Launch) (D : va_G) (cZ cI cJ cII : ClassId) (ca : Nat) (cfl : Nat) (cn : Int32) (cs : Nat) (cg : Nat) (cto : Nat) (cq : Nat) (cco : Nat) (cnx : Nat) (rg : Nat → Nat) (Mg : Nat → Nat → Int32) (sf : Nat → Int32) (k : Nat) (z : Nat) (sz : Nat) (hk : k < 5) (hz : z < 25) (hs : sf k = nI z) : Met l y_cr_wayFromStart w_cr_wayFromStart ({ frames := 0, cells := 0, slots := 0, locals := 0 }) (va_Pc [.ref ca, .int (nI k)] (mt_B D [(cZ, .boolean), (cI, .int), (cJ, .long), (cII, .array .int)] ([(ca, .inr (0, [.ref cfl, .int cn, .ref cs, .ref cg, .ref cto, .ref cq, .ref cco, .ref cnx])), (cs, .inl (cI, 5, .inl sf)), (cto, .inl (cII, 5, .inr (.inr (.inr (.inr (fun i => if i < 5 then some (rg i) else none))))))] ++ mt_rw 5 rg (fun i => .inl (cI, 25, .inl (Mg i)))) sz)) (vp_Si (fun r : Int32 => r = Mg k z)) 0 0 (fun _ => False) := by
  refine mt_ofR (by decide) (Nat.le_of_ble_eq_true rfl) ?_
  intro p e s m below meth c ls hx hb hr hlk hml hown hg hl hX hP hK hD
  have hown : s.vm.findClass R_cr = some m.cls := hown
  obtain ⟨H, hH⟩ : ∃ H : Heap, H = s.heap := ⟨_, rfl⟩
  rw [← hH] at hP ⊢
  have hl : lv_has ls 2 [(0, .ref ca), (1, .int (nI k))] := hl
  refine lv_aload_n hx hb d_cr_wayFromStart_0 rfl (lv_at hl 0 rfl) ?_
  refine gf_cr_20 hx hb hg hown hK hP 0 rfl rfl d_cr_wayFromStart_1 ?_
  refine lv_iload_n hx hb d_cr_wayFromStart_4 rfl (lv_at hl 1 rfl) ?_
  refine mt_aald hx hb hK hP 2 3 rfl rfl (vp_in_nI hk (by decide)) (by show (if (nI k).toNatClampNeg < 5 then some (rg (nI k).toNatClampNeg) else none) = some (rg k); rw [nI_clamp (show k < 2 ^ 31 by omega), if_pos hk]) d_cr_wayFromStart_5 ?_
  refine lv_aload_n hx hb d_cr_wayFromStart_6 rfl (lv_at hl 0 rfl) ?_
  refine gf_cr_9 hx hb hg hown hK hP 0 rfl rfl d_cr_wayFromStart_7 ?_
  refine lv_iload_n hx hb d_cr_wayFromStart_10 rfl (lv_at hl 1 rfl) ?_
  refine va_iald hx hb hK hP 1 1 rfl rfl (vp_in_nI hk (by decide)) d_cr_wayFromStart_11 ?_
  refine lv_topi (fun y1 ey1 => ?_)
  have ey1 : y1 = nI z := ey1.trans (by rw [nI_clamp (show k < 2 ^ 31 by omega)]; exact hs)
  subst ey1
  refine va_iald hx hb hK hP (3 + k) 1 (mt_rw_at rfl hk) rfl (vp_in_nI hz (by decide)) d_cr_wayFromStart_12 ?_
  refine lv_topi (fun y2 ey2 => ?_)
  have ey2 : y2 = Mg k z := ey2.trans (by rw [nI_clamp (show z < 2 ^ 31 by omega)])
  subst ey2
  exact W.iret hx hb hr (fun t ht _ => ⟨Mg k z, rfl, rfl, ht.trans hH⟩) (fun _ h => absurd h List.not_mem_nil) d_cr_wayFromStart_13
