set_option maxHeartbeats 4000000 in
set_option maxRecDepth 100000 in
theorem c_ld_placeOf (l : Launch) (D : va_G) (cZ cI cJ cII : ClassId) (da : Nat) (dce : Nat) (dto : Nat) (dle : Nat) (rl : Nat → Nat) (lf : Nat → Int32) (Ml : Nat → Nat → Int32) (k : Nat) (tt : Nat) (j : Nat) (sz : Nat) (hk : k < 6) (hlf : lf k = nI (j + 1)) (hj : j < 30) (htt : tt < 30) : Met l y_ld_placeOf w_ld_placeOf ({ frames := 1, cells := 0, slots := 0, locals := 40 }) (va_Pc [.ref da, .int (nI k), .int (nI tt)] (mt_B D [(cZ, .boolean), (cI, .int), (cJ, .long), (cII, .array .int)] ([(da, .inr (2, [.ref dce, .ref dto, .ref dle])), (dce, .inl (cII, 6, .inr (.inr (.inr (.inr (fun i => if i < 6 then some (rl i) else none)))))), (dle, .inl (cI, 6, .inl lf))] ++ mt_rw 6 rl (fun i => .inl (cI, 30, .inl (Ml i)))) sz)) (vp_Si (fun r : Int32 => r = Ml k (min tt j))) 0 0 (fun _ => False) := by
  refine mt_ofR (by decide) (Nat.le_of_ble_eq_true rfl) ?_
  intro p e s m below meth c ls hx hb hr hlk hml hown hg hl hX hP hK hD
  have hown : s.vm.findClass R_ld = some m.cls := hown
  obtain ⟨H, hH⟩ : ∃ H : Heap, H = s.heap := ⟨_, rfl⟩
  rw [← hH] at hP ⊢
  have hl : lv_has ls 3 [(0, .ref da), (1, .int (nI k)), (2, .int (nI tt))] := hl
  refine lv_aload_n hx hb d_ld_placeOf_0 rfl (lv_at hl 0 rfl) ?_
  refine gf_ld_11 hx hb hg hown hK hP 0 rfl rfl d_ld_placeOf_1 ?_
  refine lv_iload_n hx hb d_ld_placeOf_4 rfl (lv_at hl 1 rfl) ?_
  refine mt_aald hx hb hK hP 1 3 rfl rfl (vp_in_nI hk (by decide)) (by show (if (nI k).toNatClampNeg < 6 then some (rl (nI k).toNatClampNeg) else none) = some (rl k); rw [nI_clamp (show k < 2 ^ 31 by omega), if_pos hk]) d_ld_placeOf_5 ?_
  refine lv_iload_n hx hb d_ld_placeOf_6 rfl (lv_at hl 2 rfl) ?_
  refine lv_aload_n hx hb d_ld_placeOf_7 rfl (lv_at hl 0 rfl) ?_
  refine gf_ld_20 hx hb hg hown hK hP 0 rfl rfl d_ld_placeOf_8 ?_
  refine lv_iload_n hx hb d_ld_placeOf_11 rfl (lv_at hl 1 rfl) ?_
  refine va_iald hx hb hK hP 2 1 rfl rfl (vp_in_nI hk (by decide)) d_ld_placeOf_12 ?_
  refine lv_topi (fun y1 ey1 => ?_)
  have ey1 : y1 = nI (j + 1) := ey1.trans (by rw [nI_clamp (show k < 2 ^ 31 by omega)]; exact hlf)
  subst ey1
  refine lv_iconst (v := 1) hx hb d_ld_placeOf_13 (by decide) ?_
  refine lv_isub hx hb d_ld_placeOf_14 ?_
  refine lv_topi (fun y2 ey2 => ?_)
  have ey2 : y2 = nI j := ey2.trans (nI_pred j)
  subst ey2
  refine va_mmin hx hb (hml.trans hl.1.symm) hown (hg _ gl_ld_33) (hg _ gt_ld_33) (hg _ gi_ld_33) (hg _ (gg_ld_33 _ List.mem_cons_self).1) (Nat.le_of_ble_eq_true rfl) (Nat.le_of_ble_eq_true rfl) (Nat.le_of_ble_eq_true rfl) (Nat.le_of_ble_eq_true rfl) d_ld_placeOf_15 ?_
  refine lv_topi (fun y3 ey3 => ?_)
  have ey3 : y3 = nI (min tt j) := ey3.trans (mt_min (by omega) (by omega))
  subst ey3
  refine va_iald hx hb hK hP (3 + k) 1 (mt_rw_at rfl hk) rfl (vp_in_nI (show min tt j < 30 by omega) (by decide)) d_ld_placeOf_18 ?_
  refine lv_topi (fun y4 ey4 => ?_)
  have ey4 : y4 = Ml k (min tt j) := ey4.trans (by rw [nI_clamp (show min tt j < 2 ^ 31 by omega)])
  subst ey4
  exact W.iret hx hb hr (fun t ht _ => ⟨Ml k (min tt j), rfl, rfl, ht.trans hH⟩) (fun _ h => absurd h List.not_mem_nil) d_ld_placeOf_19

set_option maxHeartbeats 4000000 in
set_option maxRecDepth 100000 in
theorem c_vd_share (l : Launch) (D : va_G) (cZ cI cJ cII : ClassId) (ea : Nat) (efl : Nat) (ecr : Nat) (eso : Int32) (eti : Int32) (eles : Int32) (egr : Int32) (da : Nat) (dce : Nat) (dto : Nat) (dle : Nat) (rl : Nat → Nat) (lf : Nat → Int32) (Ml : Nat → Nat → Int32) (ka : Nat) (kb : Nat) (ja : Nat) (jb : Nat) (tt : Nat) (sz : Nat) (hka : ka < 6) (hkb : kb < 6) (hlka : lf ka = nI (ja + 1)) (hlkb : lf kb = nI (jb + 1)) (hja : ja < 30) (hjb : jb < 30) (htt : tt < 30) : Met l y_vd_share w_vd_share ({ frames := 2, cells := 0, slots := 0, locals := 80 }) (va_Pc [.ref ea, .int (nI ka), .int (nI kb), .int (nI tt)] (mt_B D [(cZ, .boolean), (cI, .int), (cJ, .long), (cII, .array .int)] ([(ea, .inr (5, [.ref efl, .ref ecr, .ref da, .int eso, .int eti, .int eles, .int egr])), (da, .inr (2, [.ref dce, .ref dto, .ref dle])), (dce, .inl (cII, 6, .inr (.inr (.inr (.inr (fun i => if i < 6 then some (rl i) else none)))))), (dle, .inl (cI, 6, .inl lf))] ++ mt_rw 6 rl (fun i => .inl (cI, 30, .inl (Ml i)))) sz)) (vp_Si (fun r : Int32 => (r = 1 ∧ Ml ka (min tt ja) = Ml kb (min tt jb)) ∨ (r = 0 ∧ ¬ Ml ka (min tt ja) = Ml kb (min tt jb)))) 0 0 (fun _ => False) := by
  refine mt_ofR (by decide) (Nat.le_of_ble_eq_true rfl) ?_
  intro p e s m below meth c ls hx hb hr hlk hml hown hg hl hX hP hK hD
  have hown : s.vm.findClass R_vd = some m.cls := hown
  obtain ⟨H, hH⟩ : ∃ H : Heap, H = s.heap := ⟨_, rfl⟩
  rw [← hH] at hP ⊢
  have hl : lv_has ls 4 [(0, .ref ea), (1, .int (nI ka)), (2, .int (nI kb)), (3, .int (nI tt))] := hl
  refine lv_aload_n hx hb d_vd_share_0 rfl (lv_at hl 0 rfl) ?_
  refine gf_vd_19 hx hb hg hown hK hP 0 rfl rfl d_vd_share_1 ?_
  refine lv_iload_n hx hb d_vd_share_4 rfl (lv_at hl 1 rfl) ?_
  refine lv_iload_n hx hb d_vd_share_5 rfl (lv_at hl 3 rfl) ?_
  have hPc := hP.sub (ws' := ([(da, .inr (2, [.ref dce, .ref dto, .ref dle])), (dce, .inl (cII, 6, .inr (.inr (.inr (.inr (fun i => if i < 6 then some (rl i) else none)))))), (dle, .inl (cI, 6, .inl lf))] ++ mt_rw 6 rl (fun i => .inl (cI, 30, .inl (Ml i))))) [1, 2, 3, 4, 5, 6, 7, 8, 9] rfl
  have hDc := hD.sub (ws' := ([(da, .inr (2, [.ref dce, .ref dto, .ref dle])), (dce, .inl (cII, 6, .inr (.inr (.inr (.inr (fun i => if i < 6 then some (rl i) else none)))))), (dle, .inl (cI, 6, .inl lf))] ++ mt_rw 6 rl (fun i => .inl (cI, 30, .inl (Ml i))))) [1, 2, 3, 4, 5, 6, 7, 8, 9] (by decide) rfl
  refine vp_callSi (W.runV (As := [.int (nI ka), .int (nI tt)]) (rest := []) ⟨hx, hb, hml, hown, hg⟩ (c_ld_placeOf l D cZ cI cJ cII da dce dto dle rl lf _ ka tt ja H.size hka hlka hja (by omega)) (cwV 2 hg gv_vd_63 rfl rfl rfl (by decide +kernel) ⟨Nat.le_of_ble_eq_true rfl, Nat.le_of_ble_eq_true rfl⟩) ⟨mt_bl, va_recv (q0 := 1) (ci := 2) hK hP rfl rfl, mt_pr hX hPc hK hDc⟩ rfl rfl hl.1 rfl (lv_room (Nat.le_of_ble_eq_true rfl)) d_vd_share_6 ⟨Nat.le_of_ble_eq_true rfl, Nat.le_of_ble_eq_true rfl⟩) (fun r1 hr1 => ?_)
  have hr1 : r1 = Ml ka (min tt ja) := hr1
  have hr1 : r1 = Ml ka (min tt ja) := hr1
  subst hr1
  refine lv_aload_n hx hb d_vd_share_9 rfl (lv_at hl 0 rfl) ?_
  refine gf_vd_19 hx hb hg hown hK hP 0 rfl rfl d_vd_share_10 ?_
  refine lv_iload_n hx hb d_vd_share_13 rfl (lv_at hl 2 rfl) ?_
  refine lv_iload_n hx hb d_vd_share_14 rfl (lv_at hl 3 rfl) ?_
  have hPc := hP.sub (ws' := ([(da, .inr (2, [.ref dce, .ref dto, .ref dle])), (dce, .inl (cII, 6, .inr (.inr (.inr (.inr (fun i => if i < 6 then some (rl i) else none)))))), (dle, .inl (cI, 6, .inl lf))] ++ mt_rw 6 rl (fun i => .inl (cI, 30, .inl (Ml i))))) [1, 2, 3, 4, 5, 6, 7, 8, 9] rfl
  have hDc := hD.sub (ws' := ([(da, .inr (2, [.ref dce, .ref dto, .ref dle])), (dce, .inl (cII, 6, .inr (.inr (.inr (.inr (fun i => if i < 6 then some (rl i) else none)))))), (dle, .inl (cI, 6, .inl lf))] ++ mt_rw 6 rl (fun i => .inl (cI, 30, .inl (Ml i))))) [1, 2, 3, 4, 5, 6, 7, 8, 9] (by decide) rfl
  refine vp_callSi (W.runV (As := [.int (nI kb), .int (nI tt)]) (rest := [.int (Ml ka (min tt ja))]) ⟨hx, hb, hml, hown, hg⟩ (c_ld_placeOf l D cZ cI cJ cII da dce dto dle rl lf _ kb tt jb H.size hkb hlkb hjb (by omega)) (cwV 2 hg gv_vd_63 rfl rfl rfl (by decide +kernel) ⟨Nat.le_of_ble_eq_true rfl, Nat.le_of_ble_eq_true rfl⟩) ⟨mt_bl, va_recv (q0 := 1) (ci := 2) hK hP rfl rfl, mt_pr hX hPc hK hDc⟩ rfl rfl hl.1 rfl (lv_room (Nat.le_of_ble_eq_true rfl)) d_vd_share_15 ⟨Nat.le_of_ble_eq_true rfl, Nat.le_of_ble_eq_true rfl⟩) (fun r2 hr2 => ?_)
  have hr2 : r2 = Ml kb (min tt jb) := hr2
  have hr2 : r2 = Ml kb (min tt jb) := hr2
  subst hr2
  refine lv_icmp_ne hx hb d_vd_share_18 rfl (fun g1 => ?_) (fun g1 => ?_)
  ·
    refine lv_iconst (v := 0) hx hb d_vd_share_25 (by decide) ?_
    exact W.zret hx hb hr rfl (fun t ht _ => ⟨0, rfl, Or.inr ⟨rfl, g1⟩, ht.trans hH⟩) (fun _ h => absurd h List.not_mem_nil) d_vd_share_26
  ·
    refine lv_iconst (v := 1) hx hb d_vd_share_21 (by decide) ?_
    refine lv_goto hx hb d_vd_share_22 rfl ?_
    exact W.zret hx hb hr rfl (fun t ht _ => ⟨1, rfl, Or.inl ⟨rfl, g1⟩, ht.trans hH⟩) (fun _ h => absurd h List.not_mem_nil) d_vd_share_26

set_option maxHeartbeats 4000000 in
set_option maxRecDepth 100000 in
theorem c_vd_exchange (l : Launch) (D : va_G) (cZ cI cJ cII : ClassId) (ea : Nat) (efl : Nat) (ecr : Nat) (eso : Int32) (eti : Int32) (eles : Int32) (egr : Int32) (da : Nat) (dce : Nat) (dto : Nat) (dle : Nat) (rl : Nat → Nat) (lf : Nat → Int32) (Ml : Nat → Nat → Int32) (ka : Nat) (kb : Nat) (ja : Nat) (jb : Nat) (tt : Nat) (sz : Nat) (hka : ka < 6) (hkb : kb < 6) (hlka : lf ka = nI (ja + 1)) (hlkb : lf kb = nI (jb + 1)) (hja : ja < 30) (hjb : jb < 30) (htt : tt + 1 < 30) : Met l y_vd_exchange w_vd_exchange ({ frames := 2, cells := 0, slots := 0, locals := 80 }) (va_Pc [.ref ea, .int (nI ka), .int (nI kb), .int (nI (tt + 1))] (mt_B D [(cZ, .boolean), (cI, .int), (cJ, .long), (cII, .array .int)] ([(ea, .inr (5, [.ref efl, .ref ecr, .ref da, .int eso, .int eti, .int eles, .int egr])), (da, .inr (2, [.ref dce, .ref dto, .ref dle])), (dce, .inl (cII, 6, .inr (.inr (.inr (.inr (fun i => if i < 6 then some (rl i) else none)))))), (dle, .inl (cI, 6, .inl lf))] ++ mt_rw 6 rl (fun i => .inl (cI, 30, .inl (Ml i)))) sz)) (vp_Si (fun r : Int32 => (r = 1 ∧ Ml ka (min (tt + 1) ja) = Ml kb (min tt jb) ∧ Ml kb (min (tt + 1) jb) = Ml ka (min tt ja)) ∨ (r = 0 ∧ ¬ (Ml ka (min (tt + 1) ja) = Ml kb (min tt jb) ∧ Ml kb (min (tt + 1) jb) = Ml ka (min tt ja))))) 0 0 (fun _ => False) := by
  refine mt_ofR (by decide) (Nat.le_of_ble_eq_true rfl) ?_
  intro p e s m below meth c ls hx hb hr hlk hml hown hg hl hX hP hK hD
  have hown : s.vm.findClass R_vd = some m.cls := hown
  obtain ⟨H, hH⟩ : ∃ H : Heap, H = s.heap := ⟨_, rfl⟩
  rw [← hH] at hP ⊢
  have hl : lv_has ls 4 [(0, .ref ea), (1, .int (nI ka)), (2, .int (nI kb)), (3, .int (nI (tt + 1)))] := hl
  refine lv_aload_n hx hb d_vd_exchange_0 rfl (lv_at hl 0 rfl) ?_
  refine gf_vd_19 hx hb hg hown hK hP 0 rfl rfl d_vd_exchange_1 ?_
  refine lv_iload_n hx hb d_vd_exchange_4 rfl (lv_at hl 1 rfl) ?_
  refine lv_iload_n hx hb d_vd_exchange_5 rfl (lv_at hl 3 rfl) ?_
  have hPc := hP.sub (ws' := ([(da, .inr (2, [.ref dce, .ref dto, .ref dle])), (dce, .inl (cII, 6, .inr (.inr (.inr (.inr (fun i => if i < 6 then some (rl i) else none)))))), (dle, .inl (cI, 6, .inl lf))] ++ mt_rw 6 rl (fun i => .inl (cI, 30, .inl (Ml i))))) [1, 2, 3, 4, 5, 6, 7, 8, 9] rfl
  have hDc := hD.sub (ws' := ([(da, .inr (2, [.ref dce, .ref dto, .ref dle])), (dce, .inl (cII, 6, .inr (.inr (.inr (.inr (fun i => if i < 6 then some (rl i) else none)))))), (dle, .inl (cI, 6, .inl lf))] ++ mt_rw 6 rl (fun i => .inl (cI, 30, .inl (Ml i))))) [1, 2, 3, 4, 5, 6, 7, 8, 9] (by decide) rfl
  refine vp_callSi (W.runV (As := [.int (nI ka), .int (nI (tt + 1))]) (rest := []) ⟨hx, hb, hml, hown, hg⟩ (c_ld_placeOf l D cZ cI cJ cII da dce dto dle rl lf _ ka (tt + 1) ja H.size hka hlka hja (by omega)) (cwV 2 hg gv_vd_63 rfl rfl rfl (by decide +kernel) ⟨Nat.le_of_ble_eq_true rfl, Nat.le_of_ble_eq_true rfl⟩) ⟨mt_bl, va_recv (q0 := 1) (ci := 2) hK hP rfl rfl, mt_pr hX hPc hK hDc⟩ rfl rfl hl.1 rfl (lv_room (Nat.le_of_ble_eq_true rfl)) d_vd_exchange_6 ⟨Nat.le_of_ble_eq_true rfl, Nat.le_of_ble_eq_true rfl⟩) (fun r1 hr1 => ?_)
  have hr1 : r1 = Ml ka (min (tt + 1) ja) := hr1
  have hr1 : r1 = Ml ka (min (tt + 1) ja) := hr1
  subst hr1
  refine lv_aload_n hx hb d_vd_exchange_9 rfl (lv_at hl 0 rfl) ?_
  refine gf_vd_19 hx hb hg hown hK hP 0 rfl rfl d_vd_exchange_10 ?_
  refine lv_iload_n hx hb d_vd_exchange_13 rfl (lv_at hl 2 rfl) ?_
  refine lv_iload_n hx hb d_vd_exchange_14 rfl (lv_at hl 3 rfl) ?_
  refine lv_iconst (v := 1) hx hb d_vd_exchange_15 (by decide) ?_
  refine lv_isub hx hb d_vd_exchange_16 ?_
  refine lv_topi (fun y2 ey2 => ?_)
  have ey2 : y2 = nI tt := ey2.trans (nI_pred tt)
  subst ey2
  have hPc := hP.sub (ws' := ([(da, .inr (2, [.ref dce, .ref dto, .ref dle])), (dce, .inl (cII, 6, .inr (.inr (.inr (.inr (fun i => if i < 6 then some (rl i) else none)))))), (dle, .inl (cI, 6, .inl lf))] ++ mt_rw 6 rl (fun i => .inl (cI, 30, .inl (Ml i))))) [1, 2, 3, 4, 5, 6, 7, 8, 9] rfl
  have hDc := hD.sub (ws' := ([(da, .inr (2, [.ref dce, .ref dto, .ref dle])), (dce, .inl (cII, 6, .inr (.inr (.inr (.inr (fun i => if i < 6 then some (rl i) else none)))))), (dle, .inl (cI, 6, .inl lf))] ++ mt_rw 6 rl (fun i => .inl (cI, 30, .inl (Ml i))))) [1, 2, 3, 4, 5, 6, 7, 8, 9] (by decide) rfl
  refine vp_callSi (W.runV (As := [.int (nI kb), .int (nI tt)]) (rest := [.int (Ml ka (min (tt + 1) ja))]) ⟨hx, hb, hml, hown, hg⟩ (c_ld_placeOf l D cZ cI cJ cII da dce dto dle rl lf _ kb tt jb H.size hkb hlkb hjb (by omega)) (cwV 2 hg gv_vd_63 rfl rfl rfl (by decide +kernel) ⟨Nat.le_of_ble_eq_true rfl, Nat.le_of_ble_eq_true rfl⟩) ⟨mt_bl, va_recv (q0 := 1) (ci := 2) hK hP rfl rfl, mt_pr hX hPc hK hDc⟩ rfl rfl hl.1 rfl (lv_room (Nat.le_of_ble_eq_true rfl)) d_vd_exchange_17 ⟨Nat.le_of_ble_eq_true rfl, Nat.le_of_ble_eq_true rfl⟩) (fun r3 hr3 => ?_)
  have hr3 : r3 = Ml kb (min tt jb) := hr3
  have hr3 : r3 = Ml kb (min tt jb) := hr3
  subst hr3
  refine lv_icmp_ne hx hb d_vd_exchange_20 rfl (fun g1 => ?_) (fun g1 => ?_)
  ·
    refine lv_iconst (v := 0) hx hb d_vd_exchange_50 (by decide) ?_
    exact W.zret hx hb hr rfl (fun t ht _ => ⟨0, rfl, Or.inr ⟨rfl, fun q => g1 q.1⟩, ht.trans hH⟩) (fun _ h => absurd h List.not_mem_nil) d_vd_exchange_51
  ·
    refine lv_aload_n hx hb d_vd_exchange_23 rfl (lv_at hl 0 rfl) ?_
    refine gf_vd_19 hx hb hg hown hK hP 0 rfl rfl d_vd_exchange_24 ?_
    refine lv_iload_n hx hb d_vd_exchange_27 rfl (lv_at hl 2 rfl) ?_
    refine lv_iload_n hx hb d_vd_exchange_28 rfl (lv_at hl 3 rfl) ?_
    have hPc := hP.sub (ws' := ([(da, .inr (2, [.ref dce, .ref dto, .ref dle])), (dce, .inl (cII, 6, .inr (.inr (.inr (.inr (fun i => if i < 6 then some (rl i) else none)))))), (dle, .inl (cI, 6, .inl lf))] ++ mt_rw 6 rl (fun i => .inl (cI, 30, .inl (Ml i))))) [1, 2, 3, 4, 5, 6, 7, 8, 9] rfl
    have hDc := hD.sub (ws' := ([(da, .inr (2, [.ref dce, .ref dto, .ref dle])), (dce, .inl (cII, 6, .inr (.inr (.inr (.inr (fun i => if i < 6 then some (rl i) else none)))))), (dle, .inl (cI, 6, .inl lf))] ++ mt_rw 6 rl (fun i => .inl (cI, 30, .inl (Ml i))))) [1, 2, 3, 4, 5, 6, 7, 8, 9] (by decide) rfl
    refine vp_callSi (W.runV (As := [.int (nI kb), .int (nI (tt + 1))]) (rest := []) ⟨hx, hb, hml, hown, hg⟩ (c_ld_placeOf l D cZ cI cJ cII da dce dto dle rl lf _ kb (tt + 1) jb H.size hkb hlkb hjb (by omega)) (cwV 2 hg gv_vd_63 rfl rfl rfl (by decide +kernel) ⟨Nat.le_of_ble_eq_true rfl, Nat.le_of_ble_eq_true rfl⟩) ⟨mt_bl, va_recv (q0 := 1) (ci := 2) hK hP rfl rfl, mt_pr hX hPc hK hDc⟩ rfl rfl hl.1 rfl (lv_room (Nat.le_of_ble_eq_true rfl)) d_vd_exchange_29 ⟨Nat.le_of_ble_eq_true rfl, Nat.le_of_ble_eq_true rfl⟩) (fun r4 hr4 => ?_)
    have hr4 : r4 = Ml kb (min (tt + 1) jb) := hr4
    have hr4 : r4 = Ml kb (min (tt + 1) jb) := hr4
    subst hr4
    refine lv_aload_n hx hb d_vd_exchange_32 rfl (lv_at hl 0 rfl) ?_
    refine gf_vd_19 hx hb hg hown hK hP 0 rfl rfl d_vd_exchange_33 ?_
    refine lv_iload_n hx hb d_vd_exchange_36 rfl (lv_at hl 1 rfl) ?_
    refine lv_iload_n hx hb d_vd_exchange_37 rfl (lv_at hl 3 rfl) ?_
    refine lv_iconst (v := 1) hx hb d_vd_exchange_38 (by decide) ?_
    refine lv_isub hx hb d_vd_exchange_39 ?_
    refine lv_topi (fun y5 ey5 => ?_)
    have ey5 : y5 = nI tt := ey5.trans (nI_pred tt)
    subst ey5
    have hPc := hP.sub (ws' := ([(da, .inr (2, [.ref dce, .ref dto, .ref dle])), (dce, .inl (cII, 6, .inr (.inr (.inr (.inr (fun i => if i < 6 then some (rl i) else none)))))), (dle, .inl (cI, 6, .inl lf))] ++ mt_rw 6 rl (fun i => .inl (cI, 30, .inl (Ml i))))) [1, 2, 3, 4, 5, 6, 7, 8, 9] rfl
    have hDc := hD.sub (ws' := ([(da, .inr (2, [.ref dce, .ref dto, .ref dle])), (dce, .inl (cII, 6, .inr (.inr (.inr (.inr (fun i => if i < 6 then some (rl i) else none)))))), (dle, .inl (cI, 6, .inl lf))] ++ mt_rw 6 rl (fun i => .inl (cI, 30, .inl (Ml i))))) [1, 2, 3, 4, 5, 6, 7, 8, 9] (by decide) rfl
    refine vp_callSi (W.runV (As := [.int (nI ka), .int (nI tt)]) (rest := [.int (Ml kb (min (tt + 1) jb))]) ⟨hx, hb, hml, hown, hg⟩ (c_ld_placeOf l D cZ cI cJ cII da dce dto dle rl lf _ ka tt ja H.size hka hlka hja (by omega)) (cwV 2 hg gv_vd_63 rfl rfl rfl (by decide +kernel) ⟨Nat.le_of_ble_eq_true rfl, Nat.le_of_ble_eq_true rfl⟩) ⟨mt_bl, va_recv (q0 := 1) (ci := 2) hK hP rfl rfl, mt_pr hX hPc hK hDc⟩ rfl rfl hl.1 rfl (lv_room (Nat.le_of_ble_eq_true rfl)) d_vd_exchange_40 ⟨Nat.le_of_ble_eq_true rfl, Nat.le_of_ble_eq_true rfl⟩) (fun r6 hr6 => ?_)
    have hr6 : r6 = Ml ka (min tt ja) := hr6
    have hr6 : r6 = Ml ka (min tt ja) := hr6
    subst hr6
    refine lv_icmp_ne hx hb d_vd_exchange_43 rfl (fun g2 => ?_) (fun g2 => ?_)
    ·
      refine lv_iconst (v := 0) hx hb d_vd_exchange_50 (by decide) ?_
      exact W.zret hx hb hr rfl (fun t ht _ => ⟨0, rfl, Or.inr ⟨rfl, fun q => g2 q.2⟩, ht.trans hH⟩) (fun _ h => absurd h List.not_mem_nil) d_vd_exchange_51
    ·
      refine lv_iconst (v := 1) hx hb d_vd_exchange_46 (by decide) ?_
      refine lv_goto hx hb d_vd_exchange_47 rfl ?_
      exact W.zret hx hb hr rfl (fun t ht _ => ⟨1, rfl, Or.inl ⟨rfl, g1, g2⟩, ht.trans hH⟩) (fun _ h => absurd h List.not_mem_nil) d_vd_exchange_51

set_option maxHeartbeats 4000000 in
set_option maxRecDepth 100000 in
theorem c_fl_leads (l : Launch) (D : va_G) (cZ cI cJ cII : ClassId) (fa : Nat) (fw : Int32) (fh : Int32) (wa : Nat) (fc : Int32) (ra : Nat) (sa : Nat) (ta : Nat) (wf : Nat → Int32) (sf : Nat → Int32) (rr : Nat → Nat) (Ms : Nat → Nat → Int32) (x : Int32) (y : Int32) (sz : Nat) (hb25 : ∀ x : Int32, ¬ x < 0 → ¬ fw * fh ≤ x → vp_in x 25) (hsc : ∀ k, k < 25 → ∃ n, n ≤ 5 ∧ sf k = nI n) : Met l y_fl_leads w_fl_leads ({ frames := 2, cells := 0, slots := 0, locals := 80 }) (va_Pc [.ref fa, .int x, .int y] (mt_B D [(cZ, .boolean), (cI, .int), (cJ, .long), (cII, .array .int)] ([(fa, .inr (1, [.int fw, .int fh, .ref wa, .int fc, .ref ra, .ref sa, .ref ta])), (wa, .inl (cZ, 25, .inl wf)), (sa, .inl (cI, 25, .inl sf)), (ta, .inl (cII, 25, .inr (.inr (.inr (.inr (fun i => if i < 25 then some (rr i) else none))))))] ++ mt_rw 25 rr (fun i => .inl (cI, 5, .inl (Ms i)))) sz)) (vp_Si (fun r : Int32 => (r = 1 ∧ jl_P fw fh wf sf Ms x y) ∨ (r = 0 ∧ ¬ jl_P fw fh wf sf Ms x y))) 0 0 (fun _ => False) := by
  refine mt_ofR (by decide) (Nat.le_of_ble_eq_true rfl) ?_
  intro p e s m below meth c ls hx hb hr hlk hml hown hg hl hX hP hK hD
  have hown : s.vm.findClass R_fl = some m.cls := hown
  obtain ⟨H, hH⟩ : ∃ H : Heap, H = s.heap := ⟨_, rfl⟩
  rw [← hH] at hP ⊢
  have hl : lv_has ls 4 [(0, .ref fa), (1, .int x), (2, .int y)] := hl
  refine lv_aload_n hx hb d_fl_leads_0 rfl (lv_at hl 0 rfl) ?_
  refine lv_iload_n hx hb d_fl_leads_1 rfl (lv_at hl 1 rfl) ?_
  have hPc := hP.sub (ws' := [(fa, .inr (1, [.int fw, .int fh, .ref wa, .int fc, .ref ra, .ref sa, .ref ta])), (wa, .inl (cZ, 25, .inl wf))]) [0, 1] rfl
  have hDc := hD.sub (ws' := [(fa, .inr (1, [.int fw, .int fh, .ref wa, .int fc, .ref ra, .ref sa, .ref ta])), (wa, .inl (cZ, 25, .inl wf))]) [0, 1] (by decide) rfl
  refine vp_callSi (W.runV (As := [.int x]) (rest := []) ⟨hx, hb, hml, hown, hg⟩ (c_fl_isFree l D cZ cI cJ cII fa fw fh wa fc ra sa ta wf x H.size hb25) (cwV 1 hg gv_fl_45 rfl rfl rfl (by decide +kernel) ⟨Nat.le_of_ble_eq_true rfl, Nat.le_of_ble_eq_true rfl⟩) ⟨mt_bl, va_recv (q0 := 0) (ci := 1) hK hP rfl rfl, mt_pr hX hPc hK hDc⟩ rfl rfl hl.1 rfl (lv_room (Nat.le_of_ble_eq_true rfl)) d_fl_leads_2 ⟨Nat.le_of_ble_eq_true rfl, Nat.le_of_ble_eq_true rfl⟩) (fun r1 hr1 => ?_)
  have hr1 : (r1 = 1 ∧ ¬ x < 0 ∧ ¬ fw * fh ≤ x ∧ wf x.toNatClampNeg = 0) ∨ (r1 = 0 ∧ (x < 0 ∨ fw * fh ≤ x ∨ ¬ wf x.toNatClampNeg = 0)) := hr1
  refine lv_if_ne hx hb d_fl_leads_5 rfl (fun g1 => ?_) (fun g1 => ?_)
  ·
    have g3 : ¬ x < 0 ∧ ¬ fw * fh ≤ x := hr1.elim (fun q => ⟨q.2.1, q.2.2.1⟩) (fun q => absurd q.1 g1)
    obtain ⟨k, hk, rfl⟩ := vp_in_of (hb25 x g3.1 g3.2) (by decide)
    have gw0 : wf k = 0 := by have q9 := hr1.elim (fun q => q.2.2.2) (fun q => absurd q.1 g1); rw [nI_clamp (show k < 2 ^ 31 by omega)] at q9; exact q9
    obtain ⟨n, hn5, hn⟩ := hsc k hk
    have hl : lv_has ls 4 [(0, .ref fa), (1, .int (nI k)), (2, .int y)] := hl
    refine lv_iconst (v := 0) hx hb d_fl_leads_10 (by decide) ?_
    refine lv_istore_n hx hb d_fl_leads_11 rfl hl (by decide) rfl (fun ls hl => ?_)
    have hl : lv_has ls 4 [(3, .int 0), (0, .ref fa), (1, .int (nI k)), (2, .int y)] := hl
    have hl := lv_sub hl [0, 1, 2, 3] (l' := [(3, .int (nI 0)), (0, .ref fa), (1, .int (nI k)), (2, .int y)]) rfl
    refine mt_loop (ι := Nat) (I := fun i ls H locs => (i ≤ n) ∧ (∀ a9, a9 < i → ¬ Ms k a9 = y) ∧ lv_has ls 4 [(3, .int (nI i)), (0, .ref fa), (1, .int (nI k)), (2, .int y)] ∧ va_P D kls ([(fa, .inr (1, [.int fw, .int fh, .ref wa, .int fc, .ref ra, .ref sa, .ref ta])), (wa, .inl (cZ, 25, .inl wf)), (sa, .inl (cI, 25, .inl sf)), (ta, .inl (cII, 25, .inr (.inr (.inr (.inr (fun i => if i < 25 then some (rr i) else none))))))] ++ mt_rw 25 rr (fun i => .inl (cI, 5, .inl (Ms i)))) H ∧ H = s.heap ∧ locs = []) (μ := fun i => n - i) ?_ 0 ls H _ ⟨Nat.zero_le _, fun a9 h => absurd h (Nat.not_lt_zero _), hl, hP, hH, rfl⟩
    clear hl hP
    intro iz ls H locs ⟨hiz, hno, hl, hP, hH, hlc⟩ ih_a
    subst hlc
    have hiz : iz ≤ n := hiz
    have hno : ∀ a9, a9 < iz → ¬ Ms k a9 = y := hno
    have hl : lv_has ls 4 [(3, .int (nI iz)), (0, .ref fa), (1, .int (nI k)), (2, .int y)] := hl
    have hP : va_P D kls ([(fa, .inr (1, [.int fw, .int fh, .ref wa, .int fc, .ref ra, .ref sa, .ref ta])), (wa, .inl (cZ, 25, .inl wf)), (sa, .inl (cI, 25, .inl sf)), (ta, .inl (cII, 25, .inr (.inr (.inr (.inr (fun i => if i < 25 then some (rr i) else none))))))] ++ mt_rw 25 rr (fun i => .inl (cI, 5, .inl (Ms i)))) H := hP
    refine lv_iload_n hx hb d_fl_leads_12 rfl (lv_at hl 0 rfl) ?_
    refine lv_aload_n hx hb d_fl_leads_13 rfl (lv_at hl 1 rfl) ?_
    refine gf_fl_19 hx hb hg hown hK hP 0 rfl rfl d_fl_leads_14 ?_
    refine lv_iload_n hx hb d_fl_leads_17 rfl (lv_at hl 2 rfl) ?_
    refine va_iald hx hb hK hP 2 1 rfl rfl (vp_in_nI hk (by decide)) d_fl_leads_18 ?_
    refine lv_topi (fun y2 ey2 => ?_)
    have ey2 : y2 = nI n := ey2.trans (by rw [nI_clamp (show k < 2 ^ 31 by omega)]; exact hn)
    subst ey2
    refine lv_icmp_ge hx hb d_fl_leads_19 rfl (fun g4 => ?_) (fun g4 => ?_)
    ·
      have g5 : n ≤ iz := by rcases Nat.lt_or_ge iz n with h | h; exact absurd g4 (nI_ge h (by omega)); exact h
      refine lv_iconst (v := 0) hx hb d_fl_leads_42 (by decide) ?_
      exact W.zret hx hb hr rfl (fun t ht _ => ⟨0, rfl, Or.inr ⟨rfl, fun q => by obtain ⟨_, c9, i9, q1, q2, q3, q4⟩ := (jl_k hk).mp q; have e9 : c9 = n := (nI_eq (by omega) (by omega)).mp (q2.symm.trans hn); exact hno i9 (by omega) q4⟩, ht.trans hH⟩) (fun _ h => absurd h List.not_mem_nil) d_fl_leads_43
    ·
      have g5 : iz < n := by rcases Nat.lt_or_ge iz n with h | h; exact h; exact absurd (nI_le h (by omega)) g4
      refine lv_aload_n hx hb d_fl_leads_22 rfl (lv_at hl 1 rfl) ?_
      refine gf_fl_24 hx hb hg hown hK hP 0 rfl rfl d_fl_leads_23 ?_
      refine lv_iload_n hx hb d_fl_leads_26 rfl (lv_at hl 2 rfl) ?_
      refine mt_aald hx hb hK hP 3 3 rfl rfl (vp_in_nI hk (by decide)) (by show (if (nI k).toNatClampNeg < 25 then some (rr (nI k).toNatClampNeg) else none) = some (rr k); rw [nI_clamp (show k < 2 ^ 31 by omega), if_pos hk]) d_fl_leads_27 ?_
      refine lv_iload_n hx hb d_fl_leads_28 rfl (lv_at hl 0 rfl) ?_
      refine va_iald hx hb hK hP (4 + k) 1 (mt_rw_at rfl hk) rfl (vp_in_nI (show iz < 5 by omega) (by decide)) d_fl_leads_29 ?_
      refine lv_topi (fun y3 ey3 => ?_)
      have ey3 : y3 = Ms k iz := ey3.trans (by rw [nI_clamp (show iz < 2 ^ 31 by omega)])
      subst ey3
      refine lv_iload_n hx hb d_fl_leads_30 rfl (lv_at hl 3 rfl) ?_
      refine lv_icmp_ne hx hb d_fl_leads_31 rfl (fun g6 => ?_) (fun g6 => ?_)
      ·
        refine lv_iinc (k := 0) (v := nI (iz + 1)) hx hb d_fl_leads_36 hl rfl ((nI_succ iz).symm) (by decide) rfl (fun ls hl => ?_)
        have hl : lv_has ls 4 [(3, .int (nI (iz + 1))), (0, .ref fa), (1, .int (nI k)), (2, .int y)] := hl
        refine lv_goto hx hb d_fl_leads_39 rfl ?_
        have hl := lv_sub hl [0, 1, 2, 3] (l' := [(3, .int (nI (iz + 1))), (0, .ref fa), (1, .int (nI k)), (2, .int y)]) rfl
        exact ih_a (iz + 1) ls H _ (by show n - (iz + 1) < n - iz; omega) ⟨by show iz + 1 ≤ n; omega, fun a9 h => (Nat.lt_or_ge a9 iz).elim (fun q => hno a9 q) (fun q => by rw [show a9 = iz from Nat.le_antisymm (Nat.le_of_lt_succ h) q]; exact g6), hl, hP, hH, rfl⟩
      ·
        refine lv_iconst (v := 1) hx hb d_fl_leads_34 (by decide) ?_
        exact W.zret hx hb hr rfl (fun t ht _ => ⟨1, rfl, Or.inl ⟨rfl, (jl_k hk).mpr ⟨⟨g3.1, g3.2, gw0⟩, n, iz, hn5, hn, g5, g6⟩⟩, ht.trans hH⟩) (fun _ h => absurd h List.not_mem_nil) d_fl_leads_35
  ·
    refine lv_iconst (v := 0) hx hb d_fl_leads_8 (by decide) ?_
    exact W.zret hx hb hr rfl (fun t ht _ => ⟨0, rfl, Or.inr ⟨rfl, fun q => hr1.elim (fun z => absurd (z.1.symm.trans g1) (by decide)) (fun z => z.2.elim q.1.1 (fun z => z.elim q.1.2.1 (fun z => z q.1.2.2)))⟩, ht.trans hH⟩) (fun _ h => absurd h List.not_mem_nil) d_fl_leads_9
