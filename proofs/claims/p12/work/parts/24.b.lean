set_option maxHeartbeats 4000000 in
set_option maxRecDepth 100000 in
theorem c_le_shiftOf (l : Launch) (D : va_G) (cZ cI cJ cII : ClassId) (la : Nat) (lwo : Nat) (x : Nat) (sz : Nat) (hx1 : x < 20736) : Met l y_le_shiftOf w_le_shiftOf ({ frames := 0, cells := 0, slots := 0, locals := 0 }) (va_Pc [.ref la, .int (nI x)] (mt_B D [(cZ, .boolean), (cI, .int), (cJ, .long), (cII, .array .int)] [(la, .inr (3, [.ref lwo]))] sz)) (vp_Si (fun r : Int32 => r = nI (4 * (x % 16)))) 0 0 (fun _ => False) := by
  refine mt_ofR (by decide) (Nat.le_of_ble_eq_true rfl) ?_
  intro p e s m below meth c ls hx hb hr hlk hml hown hg hl hX hP hK hD
  have hown : s.vm.findClass R_le = some m.cls := hown
  obtain ⟨H, hH⟩ : ∃ H : Heap, H = s.heap := ⟨_, rfl⟩
  rw [← hH] at hP ⊢
  have hl : lv_has ls 2 [(0, .ref la), (1, .int (nI x))] := hl
  refine lv_iload_n hx hb d_le_shiftOf_0 rfl (lv_at hl 1 rfl) ?_
  refine lv_bipush (v := 15) hx hb d_le_shiftOf_1 (by decide) ?_
  refine lv_iand hx hb d_le_shiftOf_3 ?_
  refine lv_topi (fun y1 ey1 => ?_)
  have ey1 : y1 = nI (x % 16) := ey1.trans (pk_andN (by omega) 4 (by decide))
  subst ey1
  refine lv_iconst (v := 4) hx hb d_le_shiftOf_4 (by decide) ?_
  refine lv_imul hx hb d_le_shiftOf_5 ?_
  refine lv_topi (fun y2 ey2 => ?_)
  have ey2 : y2 = nI (4 * (x % 16)) := ey2.trans (by rw [show (4 : Int32) = nI 4 from rfl, pk_mul, Nat.mul_comm])
  subst ey2
  exact W.iret hx hb hr (fun t ht _ => ⟨nI (4 * (x % 16)), rfl, rfl, ht.trans hH⟩) (fun _ h => absurd h List.not_mem_nil) d_le_shiftOf_6

set_option maxHeartbeats 4000000 in
set_option maxRecDepth 100000 in
theorem c_le_get (l : Launch) (D : va_G) (cZ cI cJ cII : ClassId) (la : Nat) (lwo : Nat) (wo : Nat → Int64) (x : Nat) (sz : Nat) (hx1 : x < 20736) : Met l y_le_get w_le_get ({ frames := 1, cells := 0, slots := 0, locals := 40 }) (va_Pc [.ref la, .int (nI x)] (mt_B D [(cZ, .boolean), (cI, .int), (cJ, .long), (cII, .array .int)] [(la, .inr (3, [.ref lwo])), (lwo, .inl (cJ, 1296, .inr (.inl wo)))] sz)) (vp_Si (fun r : Int32 => r = nI (px_lv wo x))) 0 0 (fun _ => False) := by
  refine mt_ofR (by decide) (Nat.le_of_ble_eq_true rfl) ?_
  intro p e s m below meth c ls hx hb hr hlk hml hown hg hl hX hP hK hD
  have hown : s.vm.findClass R_le = some m.cls := hown
  obtain ⟨H, hH⟩ : ∃ H : Heap, H = s.heap := ⟨_, rfl⟩
  rw [← hH] at hP ⊢
  have hl : lv_has ls 2 [(0, .ref la), (1, .int (nI x))] := hl
  refine lv_aload_n hx hb d_le_get_0 rfl (lv_at hl 0 rfl) ?_
  refine gf_le_9 hx hb hg hown hK hP 0 rfl rfl d_le_get_1 ?_
  refine lv_iload_n hx hb d_le_get_4 rfl (lv_at hl 1 rfl) ?_
  refine lv_iconst (v := 4) hx hb d_le_get_5 (by decide) ?_
  refine lv_ishr hx hb d_le_get_6 ?_
  refine lv_topi (fun y1 ey1 => ?_)
  have ey1 : y1 = nI (x / 16) := ey1.trans (pk_shrN (by omega) _ 4 (by decide))
  subst ey1
  refine va_lald hx hb hK hP 1 2 rfl rfl (vp_in_nI (show x / 16 < 1296 by omega) (by decide)) d_le_get_7 ?_
  refine lv_topl (fun y2 ey2 => ?_)
  have ey2 : y2 = wo (x / 16) := ey2.trans (by rw [nI_clamp (show x / 16 < 2 ^ 31 by omega)])
  subst ey2
  refine lv_aload_n hx hb d_le_get_8 rfl (lv_at hl 0 rfl) ?_
  refine lv_iload_n hx hb d_le_get_9 rfl (lv_at hl 1 rfl) ?_
  have hPc := hP.sub (ws' := [(la, .inr (3, [.ref lwo]))]) [0] rfl
  have hDc := hD.sub (ws' := [(la, .inr (3, [.ref lwo]))]) [0] (by decide) rfl
  refine vp_callSi (W.runV (As := [.int (nI x)]) (rest := [.long (wo (x / 16))]) ⟨hx, hb, hml, hown, hg⟩ (c_le_shiftOf l D cZ cI cJ cII la lwo x H.size hx1) (cwV 1 hg gv_le_21 rfl rfl rfl (by decide +kernel) ⟨Nat.le_of_ble_eq_true rfl, Nat.le_of_ble_eq_true rfl⟩) ⟨mt_bl, va_recv (q0 := 0) (ci := 3) hK hP rfl rfl, mt_pr hX hPc hK hDc⟩ rfl rfl hl.1 rfl (lv_room (Nat.le_of_ble_eq_true rfl)) d_le_get_10 ⟨Nat.le_of_ble_eq_true rfl, Nat.le_of_ble_eq_true rfl⟩) (fun r3 hr3 => ?_)
  have hr3 : r3 = nI (4 * (x % 16)) := hr3
  have hr3 : r3 = nI (4 * (x % 16)) := hr3
  subst hr3
  refine lv_lushr (v := ((wo (x / 16) : Int64).toUInt64 >>> ((nI (4 * (x % 16)) : Int32).toInt64.toUInt64 &&& Int64.toUInt64 63)).toInt64) hx hb d_le_get_13 rfl ?_
  refine lv_l2i (v := (((wo (x / 16) : Int64).toUInt64 >>> ((nI (4 * (x % 16)) : Int32).toInt64.toUInt64 &&& Int64.toUInt64 63)).toInt64 : Int64).toInt32) hx hb d_le_get_14 rfl ?_
  refine lv_bipush (v := 15) hx hb d_le_get_15 (by decide) ?_
  refine lv_iand hx hb d_le_get_17 ?_
  refine lv_topi (fun y6 ey6 => ?_)
  have ey6 : y6 = nI (lw_at (wo (x / 16)) (x % 16)) := ey6.trans (lw_at_get (Nat.mod_lt _ (by decide)))
  subst ey6
  exact W.iret hx hb hr (fun t ht _ => ⟨nI (lw_at (wo (x / 16)) (x % 16)), rfl, rfl, ht.trans hH⟩) (fun _ h => absurd h List.not_mem_nil) d_le_get_18

theorem px_put1 {wo : Nat → Int64} {x v : Nat} (hv : v < 16) : ∀ y, y < 20736 → px_lv (vp_updL wo (x / 16) ((wo (x / 16) &&& ((15 : Int64) <<< ((nI (4 * (x % 16))).toInt64 &&& 63) ^^^ (-1))) ||| ((nI v).toInt64 <<< ((nI (4 * (x % 16))).toInt64 &&& 63)))) y = if y = x then v else px_lv wo y := by
  intro y _
  unfold px_lv
  by_cases e : y / 16 = x / 16
  · rw [e, pk_uLs, lw_at_put (Nat.mod_lt _ (by decide)) hv (Nat.mod_lt _ (by decide))]
    by_cases e2 : y = x
    · rw [if_pos e2, if_pos (by rw [e2])]
    · rw [if_neg e2, if_neg (by omega)]
  · rw [pk_uLn e, if_neg (by intro h; exact e (by rw [h]))]
theorem px_zero {wo : Nat → Int64} (h : ∀ j, j < 1296 → wo j = 0) (x : Nat) (hx : x < 20736) : px_lv wo x = 0 := by
  unfold px_lv lw_at
  rw [h _ (by omega)]
  show 0 / _ % 16 = 0
  rw [Nat.zero_div]

set_option maxHeartbeats 4000000 in
set_option maxRecDepth 100000 in
theorem c_le_put (l : Launch) (D : va_G) (cZ cI cJ cII : ClassId) (la : Nat) (lwo : Nat) (wo : Nat → Int64) (x : Nat) (v : Nat) (sz : Nat) (hx1 : x < 20736) (hv : v < 16) : Met l y_le_put w_le_put ({ frames := 1, cells := 0, slots := 0, locals := 40 }) (va_Pc [.ref la, .int (nI x), .int (nI v)] (mt_B D [(cZ, .boolean), (cI, .int), (cJ, .long), (cII, .array .int)] [(la, .inr (3, [.ref lwo])), (lwo, .inl (cJ, 1296, .inr (.inl wo)))] sz)) ((fun A => va_Qv (fun (u : (Nat → Int64)) => ∀ y, y < 20736 → px_lv u y = if y = x then v else px_lv wo y) (fun (u : (Nat → Int64)) (t : State) => mt_O D A [(la, .inr (3, [.ref lwo])), (lwo, .inl (cJ, 1296, .inr (.inl u)))] t) A) (va_A [(la, .inr (3, [.ref lwo])), (lwo, .inl (cJ, 1296, .inr (.inl wo)))] sz)) 0 0 (va_A [(la, .inr (3, [.ref lwo])), (lwo, .inl (cJ, 1296, .inr (.inl wo)))] sz) := by
  refine mt_of (y := y_le_put) (n := 4) (av := [.ref la, .int (nI x), .int (nI v)]) (QF := (fun A => va_Qv (fun (u : (Nat → Int64)) => ∀ y, y < 20736 → px_lv u y = if y = x then v else px_lv wo y) (fun (u : (Nat → Int64)) (t : State) => mt_O D A [(la, .inr (3, [.ref lwo])), (lwo, .inl (cJ, 1296, .inr (.inl u)))] t) A)) (by decide) (Nat.le_of_ble_eq_true rfl) ?_
  intro p e s m below meth c ls A hx hb hr hlk hml hown hnm hg hl hX hP hK hD hA hS
  obtain ⟨H, hH⟩ : ∃ H : Heap, H = s.heap := ⟨_, rfl⟩
  have hS : va_S A s.heap H [] := by rw [hH]; exact va_S.rf
  rw [← hH] at hP ⊢
  have hown : s.vm.findClass R_le = some m.cls := hown
  have hl : lv_has ls 4 [(0, .ref la), (1, .int (nI x)), (2, .int (nI v))] := hl
  refine lv_aload_n hx hb d_le_put_0 rfl (lv_at hl 0 rfl) ?_
  refine lv_iload_n hx hb d_le_put_1 rfl (lv_at hl 1 rfl) ?_
  have hPc := hP.sub (ws' := [(la, .inr (3, [.ref lwo]))]) [0] rfl
  have hDc := hD.sub (ws' := [(la, .inr (3, [.ref lwo]))]) [0] (by decide) rfl
  refine vp_callSi (W.runV (As := [.int (nI x)]) (rest := []) ⟨hx, hb, hml, hown, hg⟩ (c_le_shiftOf l D cZ cI cJ cII la lwo x H.size hx1) (cwV 1 hg gv_le_21 rfl rfl rfl (by decide +kernel) ⟨Nat.le_of_ble_eq_true rfl, Nat.le_of_ble_eq_true rfl⟩) ⟨mt_bl, va_recv (q0 := 0) (ci := 3) hK hP rfl rfl, mt_pr hX hPc hK hDc⟩ rfl rfl hl.1 rfl (lv_room (Nat.le_of_ble_eq_true rfl)) d_le_put_2 ⟨Nat.le_of_ble_eq_true rfl, Nat.le_of_ble_eq_true rfl⟩) (fun r1 hr1 => ?_)
  have hr1 : r1 = nI (4 * (x % 16)) := hr1
  have hr1 : r1 = nI (4 * (x % 16)) := hr1
  subst hr1
  refine lv_istore_n hx hb d_le_put_5 rfl hl (by decide) rfl (fun ls hl => ?_)
  have hl : lv_has ls 4 [(3, .int (nI (4 * (x % 16)))), (0, .ref la), (1, .int (nI x)), (2, .int (nI v))] := hl
  refine lv_aload_n hx hb d_le_put_6 rfl (lv_at hl 1 rfl) ?_
  refine gf_le_9 hx hb hg hown hK hP 0 rfl rfl d_le_put_7 ?_
  refine lv_iload_n hx hb d_le_put_10 rfl (lv_at hl 2 rfl) ?_
  refine lv_iconst (v := 4) hx hb d_le_put_11 (by decide) ?_
  refine lv_ishr hx hb d_le_put_12 ?_
  refine lv_topi (fun y2 ey2 => ?_)
  have ey2 : y2 = nI (x / 16) := ey2.trans (pk_shrN (by omega) _ 4 (by decide))
  subst ey2
  refine lv_aload_n hx hb d_le_put_13 rfl (lv_at hl 1 rfl) ?_
  refine gf_le_9 hx hb hg hown hK hP 0 rfl rfl d_le_put_14 ?_
  refine lv_iload_n hx hb d_le_put_17 rfl (lv_at hl 2 rfl) ?_
  refine lv_iconst (v := 4) hx hb d_le_put_18 (by decide) ?_
  refine lv_ishr hx hb d_le_put_19 ?_
  refine lv_topi (fun y3 ey3 => ?_)
  have ey3 : y3 = nI (x / 16) := ey3.trans (pk_shrN (by omega) _ 4 (by decide))
  subst ey3
  refine va_lald hx hb hK hP 1 2 rfl rfl (vp_in_nI (show x / 16 < 1296 by omega) (by decide)) d_le_put_20 ?_
  refine lv_topl (fun y4 ey4 => ?_)
  have ey4 : y4 = wo (x / 16) := ey4.trans (by rw [nI_clamp (show x / 16 < 2 ^ 31 by omega)])
  subst ey4
  refine lv_ldc2 hx hb hown (hg _ gx_le_25) d_le_put_21 ?_
  refine lv_iload_n hx hb d_le_put_24 rfl (lv_at hl 0 rfl) ?_
  refine lv_lshl (v := 15 <<< ((nI (4 * (x % 16)) : Int32).toInt64 &&& 63)) hx hb d_le_put_25 rfl ?_
  refine lv_ldc2 hx hb hown (hg _ gx_le_27) d_le_put_26 ?_
  refine lv_lxor hx hb d_le_put_29 ?_
  refine lv_land hx hb d_le_put_30 ?_
  refine lv_iload_n hx hb d_le_put_31 rfl (lv_at hl 3 rfl) ?_
  refine lv_i2l (v := (nI v : Int32).toInt64) hx hb d_le_put_32 rfl ?_
  refine lv_iload_n hx hb d_le_put_33 rfl (lv_at hl 0 rfl) ?_
  refine lv_lshl (v := ((nI v : Int32).toInt64) <<< ((nI (4 * (x % 16)) : Int32).toInt64 &&& 63)) hx hb d_le_put_34 rfl ?_
  refine lv_lor hx hb d_le_put_35 ?_
  refine va_last hx hb hK hP hD hS 1 2 rfl rfl (vp_in_nI (show x / 16 < 1296 by omega) (by decide)) d_le_put_36 (fun H locs hP hD hS => ?_)
  rw [nI_clamp (show x / 16 < 2 ^ 31 by omega)] at hP hD
  have hP : va_P D kls [(la, .inr (3, [.ref lwo])), (lwo, .inl (cJ, 1296, .inr (.inl (vp_updL wo (x / 16) (((wo (x / 16)) &&& ((15 <<< ((nI (4 * (x % 16)) : Int32).toInt64 &&& 63)) ^^^ (-1))) ||| (((nI v : Int32).toInt64) <<< ((nI (4 * (x % 16)) : Int32).toInt64 &&& 63)))))))] H := hP
  have hD : va_D A [(la, .inr (3, [.ref lwo])), (lwo, .inl (cJ, 1296, .inr (.inl (vp_updL wo (x / 16) (((wo (x / 16)) &&& ((15 <<< ((nI (4 * (x % 16)) : Int32).toInt64 &&& 63)) ^^^ (-1))) ||| (((nI v : Int32).toInt64) <<< ((nI (4 * (x % 16)) : Int32).toInt64 &&& 63)))))))] := hD
  have hP9 := hP
  have hD9 := hD
  exact W.vret hx hb hr (fun t ht hW => ⟨⟨(vp_updL wo (x / 16) (((wo (x / 16)) &&& ((15 <<< ((nI (4 * (x % 16)) : Int32).toInt64 &&& 63)) ^^^ (-1))) ||| (((nI v : Int32).toInt64) <<< ((nI (4 * (x % 16)) : Int32).toInt64 &&& 63)))), rfl, px_put1 hv, by rw [ht]; exact hP9, hD9⟩, hS.F ht⟩) hS.2.2 d_le_put_37

set_option maxHeartbeats 4000000 in
set_option maxRecDepth 100000 in
theorem c_le_reset (l : Launch) (D : va_G) (cZ cI cJ cII : ClassId) (la : Nat) (lwo : Nat) (wo : Nat → Int64) (sz : Nat)  : Met l y_le_reset w_le_reset ({ frames := 1, cells := 0, slots := 0, locals := 40 }) (va_Pc [.ref la] (mt_B D [(cZ, .boolean), (cI, .int), (cJ, .long), (cII, .array .int)] [(la, .inr (3, [.ref lwo])), (lwo, .inl (cJ, 1296, .inr (.inl wo)))] sz)) ((fun A => va_Qv (fun (u : (Nat → Int64)) => ∀ x, x < 20736 → px_lv u x = 0) (fun (u : (Nat → Int64)) (t : State) => mt_O D A [(la, .inr (3, [.ref lwo])), (lwo, .inl (cJ, 1296, .inr (.inl u)))] t) A) (va_A [(la, .inr (3, [.ref lwo])), (lwo, .inl (cJ, 1296, .inr (.inl wo)))] sz)) 0 0 (va_A [(la, .inr (3, [.ref lwo])), (lwo, .inl (cJ, 1296, .inr (.inl wo)))] sz) := by
  refine mt_of (y := y_le_reset) (n := 1) (av := [.ref la]) (QF := (fun A => va_Qv (fun (u : (Nat → Int64)) => ∀ x, x < 20736 → px_lv u x = 0) (fun (u : (Nat → Int64)) (t : State) => mt_O D A [(la, .inr (3, [.ref lwo])), (lwo, .inl (cJ, 1296, .inr (.inl u)))] t) A)) (by decide) (Nat.le_of_ble_eq_true rfl) ?_
  intro p e s m below meth c ls A hx hb hr hlk hml hown hnm hg hl hX hP hK hD hA hS
  obtain ⟨H, hH⟩ : ∃ H : Heap, H = s.heap := ⟨_, rfl⟩
  have hS : va_S A s.heap H [] := by rw [hH]; exact va_S.rf
  rw [← hH] at hP ⊢
  have hown : s.vm.findClass R_le = some m.cls := hown
  have hl : lv_has ls 1 [(0, .ref la)] := hl
  refine lv_aload_n hx hb d_le_reset_0 rfl (lv_at hl 0 rfl) ?_
  refine gf_le_9 hx hb hg hown hK hP 0 rfl rfl d_le_reset_1 ?_
  refine lv_lconst (v := 0) hx hb d_le_reset_4 (by decide) ?_
  have hPc := hP.sub (ws' := [(lwo, .inl (cJ, 1296, .inr (.inl wo)))]) [1] rfl
  have hDc := hD.sub (ws' := [(lwo, .inl (cJ, 1296, .inr (.inl wo)))]) [1] (by decide) rfl
  have hFc := va_free (wc := [(lwo, .inl (cJ, 1296, .inr (.inl wo)))]) hD hS hA [1] rfl
  refine va_callv (va_runS (As := [.ref lwo, .long 0]) (rest := []) ⟨hx, hb, hml, hown, hg⟩ (c_ar_fillJ l D cZ cI cJ cII lwo 1296 wo 0 H.size (by decide)) ⟨callB_of 2 hg gg_le_15 rfl rfl rfl (hg _ gi_le_15) (hg _ gl_le_15) (by decide +kernel) ⟨Nat.le_of_ble_eq_true rfl, Nat.le_of_ble_eq_true rfl⟩, hg _ gt_le_15⟩ ⟨mt_bl, mt_pr hX hPc hK hDc⟩ rfl rfl hl.1 rfl (lv_room (Nat.le_of_ble_eq_true rfl)) d_le_reset_5 ⟨Nat.le_of_ble_eq_true rfl, Nat.le_of_ble_eq_true rfl⟩) hS (fun q _ h => hFc q h) hFc (fun u t H1 locs ht hvm hw hB hz1 hk1 hS => ?_)
  obtain ⟨f12, rfl⟩ : ∃ z, z = u := ⟨_, rfl⟩
  have hr1 : ∀ j, j < (1296 : Nat) → f12 j = (0 : Int64) := hw
  obtain ⟨hP1, hD1⟩ := hB
  rw [ht] at hP1
  obtain ⟨hP, hD⟩ := va_join (wr := [(la, .inr (3, [.ref lwo]))]) (w1 := [(lwo, .inl (cJ, 1296, .inr (.inl f12)))]) hP hD [1] [0] rfl rfl (by decide) (by decide) hk1 hFc hP1 hD1
  generalize H1 = H at hP hS ⊢
  have hP : va_P D kls [(la, .inr (3, [.ref lwo])), (lwo, .inl (cJ, 1296, .inr (.inl f12)))] H := hP
  have hD : va_D A [(la, .inr (3, [.ref lwo])), (lwo, .inl (cJ, 1296, .inr (.inl f12)))] := hD
  have a9 := hr1
  have hP9 := hP
  have hD9 := hD
  exact W.vret hx hb hr (fun t ht hW => ⟨⟨f12, rfl, px_zero a9, by rw [ht]; exact hP9, hD9⟩, hS.F ht⟩) hS.2.2 d_le_reset_8

set_option maxHeartbeats 4000000 in
set_option maxRecDepth 100000 in
theorem c_pn_isIn (l : Launch) (D : va_G) (cZ cI cJ cII : ClassId) (S : Nat) (mo : Nat) (sz : Nat) (hS32 : S < 32) (hmo : mo < 5) : Met l y_pn_isIn w_pn_isIn ({ frames := 0, cells := 0, slots := 0, locals := 0 }) (va_Pc [.int (nI S), .int (nI mo)] (mt_B D [(cZ, .boolean), (cI, .int), (cJ, .long), (cII, .array .int)] [] sz)) (vp_Si (fun r : Int32 => (r = 1 ∧ S.testBit mo = true) ∨ (r = 0 ∧ S.testBit mo = false))) 0 0 (fun _ => False) := by
  refine mt_ofR (by decide) (Nat.le_of_ble_eq_true rfl) ?_
  intro p e s m below meth c ls hx hb hr hlk hml hown hg hl hX hP hK hD
  have hown : s.vm.findClass R_pn = some m.cls := hown
  obtain ⟨H, hH⟩ : ∃ H : Heap, H = s.heap := ⟨_, rfl⟩
  rw [← hH] at hP ⊢
  have hl : lv_has ls 2 [(0, .int (nI S)), (1, .int (nI mo))] := hl
  refine lv_iload_n hx hb d_pn_isIn_0 rfl (lv_at hl 0 rfl) ?_
  refine lv_iload_n hx hb d_pn_isIn_1 rfl (lv_at hl 1 rfl) ?_
  refine lv_ishr hx hb d_pn_isIn_2 ?_
  refine lv_iconst (v := 1) hx hb d_pn_isIn_3 (by decide) ?_
  refine lv_iand hx hb d_pn_isIn_4 ?_
  refine lv_iconst (v := 1) hx hb d_pn_isIn_5 (by decide) ?_
  refine lv_icmp_ne hx hb d_pn_isIn_6 rfl (fun g1 => ?_) (fun g1 => ?_)
  ·
    refine lv_iconst (v := 0) hx hb d_pn_isIn_13 (by decide) ?_
    exact W.zret hx hb hr rfl (fun t ht _ => ⟨0, rfl, Or.inr ⟨rfl, by cases hb9 : S.testBit mo with | false => rfl | true => exact absurd ((bt_in S hS32 mo hmo).mpr hb9) g1⟩, ht.trans hH⟩) (fun _ h => absurd h List.not_mem_nil) d_pn_isIn_14
  ·
    refine lv_iconst (v := 1) hx hb d_pn_isIn_9 (by decide) ?_
    refine lv_goto hx hb d_pn_isIn_10 rfl ?_
    exact W.zret hx hb hr rfl (fun t ht _ => ⟨1, rfl, Or.inl ⟨rfl, (bt_in S hS32 mo hmo).mp g1⟩, ht.trans hH⟩) (fun _ h => absurd h List.not_mem_nil) d_pn_isIn_14

set_option maxHeartbeats 4000000 in
set_option maxRecDepth 100000 in
theorem c_pn_wayLeft (l : Launch) (D : va_G) (cZ cI cJ cII : ClassId) (pa : Nat) (pfl : Nat) (pho : Nat) (pce : Nat) (pse : Nat) (ppl : Nat) (pen : Int32) (psu : Int32) (pnm : Int32) (pkn : Int32) (pfo : Int32) (ca : Nat) (cfl : Nat) (cn : Int32) (cs : Nat) (cg : Nat) (cto : Nat) (cq : Nat) (cco : Nat) (cnx : Nat) (g5 : Nat → Int32) (rg : Nat → Nat) (Mg : Nat → Nat → Int32) (mo : Nat) (ce : Nat) (gl : Nat → Nat) (sz : Nat) (hmo : mo < 5) (hce : ce < 25) (hgl : g5 mo = nI (gl mo) ∧ gl mo < 25) (hM : ∃ k, k ≤ 24 ∧ Mg mo ce = nI k) : Met l y_pn_wayLeft w_pn_wayLeft ({ frames := 0, cells := 0, slots := 0, locals := 0 }) (va_Pc [.ref pa, .int (nI mo), .int (nI ce)] (mt_B D [(cZ, .boolean), (cI, .int), (cJ, .long), (cII, .array .int)] ([(pa, .inr (4, [.ref pfl, .ref ca, .ref pho, .ref pce, .ref pse, .ref ppl, .int pen, .int psu, .int pnm, .int pkn, .int pfo])), (ca, .inr (0, [.ref cfl, .int cn, .ref cs, .ref cg, .ref cto, .ref cq, .ref cco, .ref cnx])), (cg, .inl (cI, 5, .inl g5)), (cto, .inl (cII, 5, .inr (.inr (.inr (.inr (fun i => if i < 5 then some (rg i) else none))))))] ++ mt_rw 5 rg (fun i => .inl (cI, 25, .inl (Mg i)))) sz)) (vp_Si (fun r : Int32 => r = nI (px_lf gl Mg mo ce))) 0 0 (fun _ => False) := by
  refine mt_ofR (by decide) (Nat.le_of_ble_eq_true rfl) ?_
  intro p e s m below meth c ls hx hb hr hlk hml hown hg hl hX hP hK hD
  have hown : s.vm.findClass R_pn = some m.cls := hown
  obtain ⟨H, hH⟩ : ∃ H : Heap, H = s.heap := ⟨_, rfl⟩
  rw [← hH] at hP ⊢
  have hl : lv_has ls 3 [(0, .ref pa), (1, .int (nI mo)), (2, .int (nI ce))] := hl
  refine lv_iload_n hx hb d_pn_wayLeft_0 rfl (lv_at hl 2 rfl) ?_
  refine lv_aload_n hx hb d_pn_wayLeft_1 rfl (lv_at hl 0 rfl) ?_
  refine gf_pn_34 hx hb hg hown hK hP 0 rfl rfl d_pn_wayLeft_2 ?_
  refine gf_pn_96 hx hb hg hown hK hP 1 rfl rfl d_pn_wayLeft_5 ?_
  refine lv_iload_n hx hb d_pn_wayLeft_8 rfl (lv_at hl 1 rfl) ?_
  refine va_iald hx hb hK hP 2 1 rfl rfl (vp_in_nI hmo (by decide)) d_pn_wayLeft_9 ?_
  refine lv_topi (fun y1 ey1 => ?_)
  have ey1 : y1 = nI (gl mo) := ey1.trans (by rw [nI_clamp (show mo < 2 ^ 31 by omega)]; exact hgl.1)
  subst ey1
  refine lv_icmp_ne hx hb d_pn_wayLeft_10 rfl (fun g1 => ?_) (fun g1 => ?_)
  ·
    have e1 : ce ≠ gl mo := fun e9 => g1 (by rw [e9])
    refine lv_aload_n hx hb d_pn_wayLeft_17 rfl (lv_at hl 0 rfl) ?_
    refine gf_pn_34 hx hb hg hown hK hP 0 rfl rfl d_pn_wayLeft_18 ?_
    refine gf_pn_124 hx hb hg hown hK hP 1 rfl rfl d_pn_wayLeft_21 ?_
    refine lv_iload_n hx hb d_pn_wayLeft_24 rfl (lv_at hl 1 rfl) ?_
    refine mt_aald hx hb hK hP 3 3 rfl rfl (vp_in_nI hmo (by decide)) (by show (if (nI mo).toNatClampNeg < 5 then some (rg (nI mo).toNatClampNeg) else none) = some (rg mo); rw [nI_clamp (show mo < 2 ^ 31 by omega), if_pos hmo]) d_pn_wayLeft_25 ?_
    refine lv_iload_n hx hb d_pn_wayLeft_26 rfl (lv_at hl 2 rfl) ?_
    refine va_iald hx hb hK hP (4 + mo) 1 (mt_rw_at rfl hmo) rfl (vp_in_nI hce (by decide)) d_pn_wayLeft_27 ?_
    refine lv_topi (fun y2 ey2 => ?_)
    have ey2 : y2 = Mg mo ce := ey2.trans (by rw [nI_clamp (show ce < 2 ^ 31 by omega)])
    subst ey2
    exact W.iret hx hb hr (fun t ht _ => ⟨Mg mo ce, rfl, by obtain ⟨k, hk, hk2⟩ := hM; unfold px_lf; rw [if_neg e1, px_wlE hk hk2, hk2], ht.trans hH⟩) (fun _ h => absurd h List.not_mem_nil) d_pn_wayLeft_28
  ·
    have e1 : ce = gl mo := (nI_eq (by omega) (by omega)).mp g1
    refine lv_iconst (v := 2) hx hb d_pn_wayLeft_13 (by decide) ?_
    refine lv_goto hx hb d_pn_wayLeft_14 rfl ?_
    exact W.iret hx hb hr (fun t ht _ => ⟨2, rfl, by unfold px_lf; rw [if_pos e1]; rfl, ht.trans hH⟩) (fun _ h => absurd h List.not_mem_nil) d_pn_wayLeft_28

set_option maxHeartbeats 4000000 in
set_option maxRecDepth 100000 in
theorem c_pn_homeSince (l : Launch) (D : va_G) (cZ cI cJ cII : ClassId) (pa : Nat) (pfl : Nat) (pho : Nat) (pce : Nat) (pse : Nat) (ppl : Nat) (pen : Int32) (psu : Int32) (pnm : Int32) (pkn : Int32) (pfo : Int32) (ca : Nat) (cfl : Nat) (cn : Int32) (cs : Nat) (cg : Nat) (cto : Nat) (cq : Nat) (cco : Nat) (cnx : Nat) (g5 : Nat → Int32) (rq : Nat → Nat) (Mp : Nat → Nat → Int32) (mo : Nat) (tt : Nat) (g : Nat) (P : Nat → Nat → Nat) (sz : Nat) (hmo : mo < 5) (htt : tt ≤ 31) (hg5 : g5 mo = nI g ∧ g < 25) (hP1 : ∀ s, s < tt → Mp s mo = nI (P s mo) ∧ P s mo < 25) : Met l y_pn_homeSince w_pn_homeSince ({ frames := 0, cells := 0, slots := 0, locals := 0 }) (va_Pc [.ref pa, .int (nI mo), .int (nI tt)] (mt_B D [(cZ, .boolean), (cI, .int), (cJ, .long), (cII, .array .int)] ([(pa, .inr (4, [.ref pfl, .ref ca, .ref pho, .ref pce, .ref pse, .ref ppl, .int pen, .int psu, .int pnm, .int pkn, .int pfo])), (ca, .inr (0, [.ref cfl, .int cn, .ref cs, .ref cg, .ref cto, .ref cq, .ref cco, .ref cnx])), (cg, .inl (cI, 5, .inl g5)), (ppl, .inl (cII, 32, .inr (.inr (.inr (.inr (fun i => if i < 32 then some (rq i) else none))))))] ++ mt_rw 32 rq (fun i => .inl (cI, 5, .inl (Mp i)))) sz)) (vp_Si (fun r : Int32 => r = nI (sx_hs g (fun s => P s mo) tt))) 0 0 (fun _ => False) := by
  refine mt_ofR (by decide) (Nat.le_of_ble_eq_true rfl) ?_
  intro p e s m below meth c ls hx hb hr hlk hml hown hg hl hX hP hK hD
  have hown : s.vm.findClass R_pn = some m.cls := hown
  obtain ⟨H, hH⟩ : ∃ H : Heap, H = s.heap := ⟨_, rfl⟩
  rw [← hH] at hP ⊢
  have hl : lv_has ls 4 [(0, .ref pa), (1, .int (nI mo)), (2, .int (nI tt))] := hl
  refine lv_iload_n hx hb d_pn_homeSince_0 rfl (lv_at hl 2 rfl) ?_
  refine lv_istore_n hx hb d_pn_homeSince_1 rfl hl (by decide) rfl (fun ls hl => ?_)
  have hl : lv_has ls 4 [(3, .int (nI tt)), (0, .ref pa), (1, .int (nI mo)), (2, .int (nI tt))] := hl
  have hl := lv_sub hl [0, 1, 2, 3] (l' := [(3, .int (nI tt)), (0, .ref pa), (1, .int (nI mo)), (2, .int (nI tt))]) rfl
  refine mt_loop (ι := Nat) (I := fun ix ls H locs => (ix ≤ tt) ∧ (sx_hs g (fun s => P s mo) tt = sx_hs g (fun s => P s mo) ix) ∧ lv_has ls 4 [(3, .int (nI ix)), (0, .ref pa), (1, .int (nI mo)), (2, .int (nI tt))] ∧ va_P D kls ([(pa, .inr (4, [.ref pfl, .ref ca, .ref pho, .ref pce, .ref pse, .ref ppl, .int pen, .int psu, .int pnm, .int pkn, .int pfo])), (ca, .inr (0, [.ref cfl, .int cn, .ref cs, .ref cg, .ref cto, .ref cq, .ref cco, .ref cnx])), (cg, .inl (cI, 5, .inl g5)), (ppl, .inl (cII, 32, .inr (.inr (.inr (.inr (fun i => if i < 32 then some (rq i) else none))))))] ++ mt_rw 32 rq (fun i => .inl (cI, 5, .inl (Mp i)))) H ∧ H = s.heap ∧ locs = []) (μ := fun ix => ix) ?_ tt ls H _ ⟨Nat.le_refl _, rfl, hl, hP, hH, rfl⟩
  clear hl hP
  intro s1 ls H locs ⟨hs1, hh, hl, hP, hH, hlc⟩ ih_a
  subst hlc
  have hs1 : s1 ≤ tt := hs1
  have hh : sx_hs g (fun s => P s mo) tt = sx_hs g (fun s => P s mo) s1 := hh
  have hl : lv_has ls 4 [(3, .int (nI s1)), (0, .ref pa), (1, .int (nI mo)), (2, .int (nI tt))] := hl
  have hP : va_P D kls ([(pa, .inr (4, [.ref pfl, .ref ca, .ref pho, .ref pce, .ref pse, .ref ppl, .int pen, .int psu, .int pnm, .int pkn, .int pfo])), (ca, .inr (0, [.ref cfl, .int cn, .ref cs, .ref cg, .ref cto, .ref cq, .ref cco, .ref cnx])), (cg, .inl (cI, 5, .inl g5)), (ppl, .inl (cII, 32, .inr (.inr (.inr (.inr (fun i => if i < 32 then some (rq i) else none))))))] ++ mt_rw 32 rq (fun i => .inl (cI, 5, .inl (Mp i)))) H := hP
  refine lv_iload_n hx hb d_pn_homeSince_2 rfl (lv_at hl 0 rfl) ?_
  refine lv_if_le hx hb d_pn_homeSince_3 rfl (fun g1 => ?_) (fun g1 => ?_)
  ·
    have g2 : s1 = 0 := by rcases Nat.eq_zero_or_pos s1 with h | h; exact h; exact absurd g1 (nI_nle h (by omega))
    refine lv_iload_n hx hb d_pn_homeSince_34 rfl (lv_at hl 0 rfl) ?_
    exact W.iret hx hb hr (fun t ht _ => ⟨nI s1, rfl, by rw [hh]; congr 1; rw [g2]; rfl, ht.trans hH⟩) (fun _ h => absurd h List.not_mem_nil) d_pn_homeSince_35
  ·
    have g2 : 0 < s1 := by rcases Nat.eq_zero_or_pos s1 with h | h; exact absurd (by rw [h, nI_0]; decide) g1; exact h
    obtain ⟨s2, rfl⟩ : ∃ s2, s1 = s2 + 1 := ⟨s1 - 1, by omega⟩
    have hPs := hP1 s2 (by omega)
    have hl : lv_has ls 4 [(3, .int (nI (s2 + 1))), (0, .ref pa), (1, .int (nI mo)), (2, .int (nI tt))] := hl
    refine lv_aload_n hx hb d_pn_homeSince_6 rfl (lv_at hl 1 rfl) ?_
    refine gf_pn_27 hx hb hg hown hK hP 0 rfl rfl d_pn_homeSince_7 ?_
    refine lv_iload_n hx hb d_pn_homeSince_10 rfl (lv_at hl 0 rfl) ?_
    refine lv_iconst (v := 1) hx hb d_pn_homeSince_11 (by decide) ?_
    refine lv_isub hx hb d_pn_homeSince_12 ?_
    refine lv_topi (fun y1 ey1 => ?_)
    have ey1 : y1 = nI s2 := ey1.trans (nI_pred s2)
    subst ey1
    refine mt_aald hx hb hK hP 3 3 rfl rfl (vp_in_nI (show s2 < 32 by omega) (by decide)) (by show (if (nI s2).toNatClampNeg < 32 then some (rq (nI s2).toNatClampNeg) else none) = some (rq s2); rw [nI_clamp (show s2 < 2 ^ 31 by omega), if_pos (show s2 < 32 by omega)]) d_pn_homeSince_13 ?_
    refine lv_iload_n hx hb d_pn_homeSince_14 rfl (lv_at hl 2 rfl) ?_
    refine va_iald hx hb hK hP (4 + s2) 1 (mt_rw_at rfl (show s2 < 32 by omega)) rfl (vp_in_nI hmo (by decide)) d_pn_homeSince_15 ?_
    refine lv_topi (fun y2 ey2 => ?_)
    have ey2 : y2 = nI (P s2 mo) := ey2.trans (by rw [nI_clamp (show mo < 2 ^ 31 by omega)]; exact hPs.1)
    subst ey2
    refine lv_aload_n hx hb d_pn_homeSince_16 rfl (lv_at hl 1 rfl) ?_
    refine gf_pn_34 hx hb hg hown hK hP 0 rfl rfl d_pn_homeSince_17 ?_
    refine gf_pn_96 hx hb hg hown hK hP 1 rfl rfl d_pn_homeSince_20 ?_
    refine lv_iload_n hx hb d_pn_homeSince_23 rfl (lv_at hl 2 rfl) ?_
    refine va_iald hx hb hK hP 2 1 rfl rfl (vp_in_nI hmo (by decide)) d_pn_homeSince_24 ?_
    refine lv_topi (fun y3 ey3 => ?_)
    have ey3 : y3 = nI g := ey3.trans (by rw [nI_clamp (show mo < 2 ^ 31 by omega)]; exact hg5.1)
    subst ey3
    refine lv_icmp_ne hx hb d_pn_homeSince_25 rfl (fun g4 => ?_) (fun g4 => ?_)
    ·
      have g3 : ¬ P s2 mo = g := fun h => g4 (by rw [h])
      refine lv_iload_n hx hb d_pn_homeSince_34 rfl (lv_at hl 0 rfl) ?_
      exact W.iret hx hb hr (fun t ht _ => ⟨nI (s2 + 1), rfl, by rw [hh]; show _ = nI (if P s2 mo = g then sx_hs g (fun s => P s mo) s2 else s2 + 1); rw [if_neg g3], ht.trans hH⟩) (fun _ h => absurd h List.not_mem_nil) d_pn_homeSince_35
    ·
      have g3 : P s2 mo = g := (nI_eq (by omega) (by omega)).mp g4
      refine lv_iinc (k := 0) (v := nI s2) hx hb d_pn_homeSince_28 hl rfl (pk_m1 s2) (by decide) rfl (fun ls hl => ?_)
      have hl : lv_has ls 4 [(3, .int (nI s2)), (0, .ref pa), (1, .int (nI mo)), (2, .int (nI tt))] := hl
      refine lv_goto hx hb d_pn_homeSince_31 rfl ?_
      have hl := lv_sub hl [0, 1, 2, 3] (l' := [(3, .int (nI s2)), (0, .ref pa), (1, .int (nI mo)), (2, .int (nI tt))]) rfl
      exact ih_a s2 ls H _ (by show s2 < s2 + 1; omega) ⟨by show s2 ≤ tt; omega, by rw [hh]; show (if P s2 mo = g then sx_hs g (fun s => P s mo) s2 else s2 + 1) = _; rw [if_pos g3], hl, hP, hH, rfl⟩
