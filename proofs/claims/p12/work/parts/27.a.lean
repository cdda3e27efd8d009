set_option maxHeartbeats 4000000 in
set_option maxRecDepth 100000 in
theorem c_fl_initM (l : Launch) (D : va_G) (cZ cI cJ cII : ClassId) (fa : Nat) (sz : Nat)  : Met l y_fl_init w_fl_init ({ frames := 6, cells := 29, slots := 225, locals := 240 }) (va_Pc [.ref fa] (mt_B D [(cZ, .boolean), (cI, .int), (cJ, .long), (cII, .array .int)] [(fa, .inr (1, [.int 0, .int 0, .null, .int 0, .null, .null, .null]))] sz)) ((fun A => va_Qv (fun (u : Nat × Nat × Nat × Nat × (Nat → Nat) × (Nat → Int32) × (Nat → Int32) × (Nat → Int32) × (Nat → Nat → Int32)) => (∀ j, j < 25 → (u.2.2.2.2.2.1) j = 0) ∧ fx_Ok 1 (1 * 1) (u.2.2.2.2.2.1) (u.2.2.2.2.2.2.1) (u.2.2.2.2.2.2.2.1) (u.2.2.2.2.2.2.2.2) (1 * 1) ∧ fx_sc (u.2.2.2.2.2.2.2.1)) (fun (u : Nat × Nat × Nat × Nat × (Nat → Nat) × (Nat → Int32) × (Nat → Int32) × (Nat → Int32) × (Nat → Nat → Int32)) (t : State) => mt_O D A ([(fa, .inr (1, [.int (nI 1), .int (nI 1), .ref (u.1), .int (nI (fx_cnt (u.2.2.2.2.2.1) (1 * 1))), .ref (u.2.1), .ref (u.2.2.1), .ref (u.2.2.2.1)])), ((u.1), .inl (cZ, 25, .inl (u.2.2.2.2.2.1))), ((u.2.1), .inl (cI, 25, .inl (u.2.2.2.2.2.2.1))), ((u.2.2.1), .inl (cI, 25, .inl (u.2.2.2.2.2.2.2.1))), ((u.2.2.2.1), .inl (cII, 25, .inr (.inr (.inr (.inr (fun i => if i < 25 then some ((u.2.2.2.2.1) i) else none))))))] ++ mt_rw 25 (u.2.2.2.2.1) (fun i => .inl (cI, 5, .inl ((u.2.2.2.2.2.2.2.2) i)))) t) A) (va_A [(fa, .inr (1, [.int 0, .int 0, .null, .int 0, .null, .null, .null]))] sz)) 29 225 (va_A [(fa, .inr (1, [.int 0, .int 0, .null, .int 0, .null, .null, .null]))] sz) := by
  refine mt_of (y := y_fl_init) (n := 1) (av := [.ref fa]) (QF := (fun A => va_Qv (fun (u : Nat × Nat × Nat × Nat × (Nat → Nat) × (Nat → Int32) × (Nat → Int32) × (Nat → Int32) × (Nat → Nat → Int32)) => (∀ j, j < 25 → (u.2.2.2.2.2.1) j = 0) ∧ fx_Ok 1 (1 * 1) (u.2.2.2.2.2.1) (u.2.2.2.2.2.2.1) (u.2.2.2.2.2.2.2.1) (u.2.2.2.2.2.2.2.2) (1 * 1) ∧ fx_sc (u.2.2.2.2.2.2.2.1)) (fun (u : Nat × Nat × Nat × Nat × (Nat → Nat) × (Nat → Int32) × (Nat → Int32) × (Nat → Int32) × (Nat → Nat → Int32)) (t : State) => mt_O D A ([(fa, .inr (1, [.int (nI 1), .int (nI 1), .ref (u.1), .int (nI (fx_cnt (u.2.2.2.2.2.1) (1 * 1))), .ref (u.2.1), .ref (u.2.2.1), .ref (u.2.2.2.1)])), ((u.1), .inl (cZ, 25, .inl (u.2.2.2.2.2.1))), ((u.2.1), .inl (cI, 25, .inl (u.2.2.2.2.2.2.1))), ((u.2.2.1), .inl (cI, 25, .inl (u.2.2.2.2.2.2.2.1))), ((u.2.2.2.1), .inl (cII, 25, .inr (.inr (.inr (.inr (fun i => if i < 25 then some ((u.2.2.2.2.1) i) else none))))))] ++ mt_rw 25 (u.2.2.2.2.1) (fun i => .inl (cI, 5, .inl ((u.2.2.2.2.2.2.2.2) i)))) t) A)) (by decide) (Nat.le_of_ble_eq_true rfl) ?_
  intro p e s m below meth c ls A hx hb hr hlk hml hown hnm hg hl hX hP hK hD hA hS
  obtain ⟨H, hH⟩ : ∃ H : Heap, H = s.heap := ⟨_, rfl⟩
  have hS : va_S A s.heap H [] := by rw [hH]; exact va_S.rf
  rw [← hH] at hP ⊢
  have hown : s.vm.findClass R_fl = some m.cls := hown
  have hl : lv_has ls 1 [(0, .ref fa)] := hl
  refine lv_aload_n hx hb d_fl_init_0 rfl (lv_at hl 0 rfl) ?_
  refine W.objInit hx hb hown (hg _ go_fl) (hg _ go_m) (hg _ go_c) rfl (by rw [hml]; exact hl.1) rfl d_fl_init_1 (Nat.le_of_ble_eq_true rfl) (Nat.le_of_ble_eq_true rfl) ?_
  refine W.eq (g2 := F0 m 4 ls []) rfl ?_
  refine lv_aload_n hx hb d_fl_init_4 rfl (lv_at hl 0 rfl) ?_
  refine lv_bipush (v := 25) hx hb d_fl_init_5 (by decide) ?_
  refine mt_newZ hx hb (hg _ ga_boolean) hK hP hD hS hA 0 rfl 25 (by decide) (by decide) (by decide) (Nat.le_of_ble_eq_true rfl) (Nat.le_of_ble_eq_true rfl) d_fl_init_7 (fun q1 H hP hD hS => ?_)
  have hP : va_P D kls [(fa, .inr (1, [.int 0, .int 0, .null, .int 0, .null, .null, .null])), (q1, .inl (cZ, 25, .inl (fun _ => 0)))] H := hP
  have hD : va_D A [(fa, .inr (1, [.int 0, .int 0, .null, .int 0, .null, .null, .null])), (q1, .inl (cZ, 25, .inl (fun _ => 0)))] := hD
  refine W.widen (k := 1) (n := 25) (Nat.le_of_ble_eq_true rfl) (Nat.le_of_ble_eq_true rfl) ?_
  refine pf_fl_9 hx hb hg hown hnm hK hP hD hS 0 rfl rfl rfl (Nat.le_of_ble_eq_true rfl) d_fl_init_9 (fun H locs hP hD hS => ?_)
  have hP : va_P D kls [(fa, .inr (1, [.int 0, .int 0, .ref q1, .int 0, .null, .null, .null])), (q1, .inl (cZ, 25, .inl (fun _ => 0)))] H := hP
  have hD : va_D A [(fa, .inr (1, [.int 0, .int 0, .ref q1, .int 0, .null, .null, .null])), (q1, .inl (cZ, 25, .inl (fun _ => 0)))] := hD
  refine lv_aload_n hx hb d_fl_init_12 rfl (lv_at hl 0 rfl) ?_
  refine lv_bipush (v := 25) hx hb d_fl_init_13 (by decide) ?_
  refine mt_newI hx hb (hg _ ga_int) hK hP hD hS hA 1 rfl 25 (by decide) (by decide) (by decide) (Nat.le_of_ble_eq_true rfl) (Nat.le_of_ble_eq_true rfl) d_fl_init_15 (fun q2 H hP hD hS => ?_)
  have hP : va_P D kls [(fa, .inr (1, [.int 0, .int 0, .ref q1, .int 0, .null, .null, .null])), (q1, .inl (cZ, 25, .inl (fun _ => 0))), (q2, .inl (cI, 25, .inl (fun _ => 0)))] H := hP
  have hD : va_D A [(fa, .inr (1, [.int 0, .int 0, .ref q1, .int 0, .null, .null, .null])), (q1, .inl (cZ, 25, .inl (fun _ => 0))), (q2, .inl (cI, 25, .inl (fun _ => 0)))] := hD
  refine W.widen (k := 2) (n := 50) (Nat.le_of_ble_eq_true rfl) (Nat.le_of_ble_eq_true rfl) ?_
  refine pf_fl_15 hx hb hg hown hnm hK hP hD hS 0 rfl rfl rfl (Nat.le_of_ble_eq_true rfl) d_fl_init_17 (fun H locs hP hD hS => ?_)
  have hP : va_P D kls [(fa, .inr (1, [.int 0, .int 0, .ref q1, .int 0, .ref q2, .null, .null])), (q1, .inl (cZ, 25, .inl (fun _ => 0))), (q2, .inl (cI, 25, .inl (fun _ => 0)))] H := hP
  have hD : va_D A [(fa, .inr (1, [.int 0, .int 0, .ref q1, .int 0, .ref q2, .null, .null])), (q1, .inl (cZ, 25, .inl (fun _ => 0))), (q2, .inl (cI, 25, .inl (fun _ => 0)))] := hD
  refine lv_aload_n hx hb d_fl_init_20 rfl (lv_at hl 0 rfl) ?_
  refine lv_bipush (v := 25) hx hb d_fl_init_21 (by decide) ?_
  refine mt_newI hx hb (hg _ ga_int) hK hP hD hS hA 1 rfl 25 (by decide) (by decide) (by decide) (Nat.le_of_ble_eq_true rfl) (Nat.le_of_ble_eq_true rfl) d_fl_init_23 (fun q3 H hP hD hS => ?_)
  have hP : va_P D kls [(fa, .inr (1, [.int 0, .int 0, .ref q1, .int 0, .ref q2, .null, .null])), (q1, .inl (cZ, 25, .inl (fun _ => 0))), (q2, .inl (cI, 25, .inl (fun _ => 0))), (q3, .inl (cI, 25, .inl (fun _ => 0)))] H := hP
  have hD : va_D A [(fa, .inr (1, [.int 0, .int 0, .ref q1, .int 0, .ref q2, .null, .null])), (q1, .inl (cZ, 25, .inl (fun _ => 0))), (q2, .inl (cI, 25, .inl (fun _ => 0))), (q3, .inl (cI, 25, .inl (fun _ => 0)))] := hD
  refine W.widen (k := 3) (n := 75) (Nat.le_of_ble_eq_true rfl) (Nat.le_of_ble_eq_true rfl) ?_
  refine pf_fl_19 hx hb hg hown hnm hK hP hD hS 0 rfl rfl rfl (Nat.le_of_ble_eq_true rfl) d_fl_init_25 (fun H locs hP hD hS => ?_)
  have hP : va_P D kls [(fa, .inr (1, [.int 0, .int 0, .ref q1, .int 0, .ref q2, .ref q3, .null])), (q1, .inl (cZ, 25, .inl (fun _ => 0))), (q2, .inl (cI, 25, .inl (fun _ => 0))), (q3, .inl (cI, 25, .inl (fun _ => 0)))] H := hP
  have hD : va_D A [(fa, .inr (1, [.int 0, .int 0, .ref q1, .int 0, .ref q2, .ref q3, .null])), (q1, .inl (cZ, 25, .inl (fun _ => 0))), (q2, .inl (cI, 25, .inl (fun _ => 0))), (q3, .inl (cI, 25, .inl (fun _ => 0)))] := hD
  refine lv_aload_n hx hb d_fl_init_28 rfl (lv_at hl 0 rfl) ?_
  refine lv_bipush (v := 25) hx hb d_fl_init_29 (by decide) ?_
  refine lv_iconst (v := 5) hx hb d_fl_init_31 (by decide) ?_
  refine mt_mna (N' := 25) (K' := 5) hx hb hown (hg _ gc_fl_22) hX (hg _ ga_int) hK hP hD hS hA 1 3 rfl rfl (by decide) (by decide) (by decide) (by decide) (by decide) (by decide) (by decide) (Nat.le_of_ble_eq_true rfl) (Nat.le_of_ble_eq_true rfl) d_fl_init_32 (fun q4 r5 H hP hD hS => ?_)
  have hP : va_P D kls ([(fa, .inr (1, [.int 0, .int 0, .ref q1, .int 0, .ref q2, .ref q3, .null])), (q1, .inl (cZ, 25, .inl (fun _ => 0))), (q2, .inl (cI, 25, .inl (fun _ => 0))), (q3, .inl (cI, 25, .inl (fun _ => 0))), (q4, .inl (cII, 25, .inr (.inr (.inr (.inr (fun i => if i < 25 then some (r5 i) else none))))))] ++ mt_rw 25 r5 (fun _ => .inl (cI, 5, .inl (fun _ => 0)))) H := hP
  have hD : va_D A ([(fa, .inr (1, [.int 0, .int 0, .ref q1, .int 0, .ref q2, .ref q3, .null])), (q1, .inl (cZ, 25, .inl (fun _ => 0))), (q2, .inl (cI, 25, .inl (fun _ => 0))), (q3, .inl (cI, 25, .inl (fun _ => 0))), (q4, .inl (cII, 25, .inr (.inr (.inr (.inr (fun i => if i < 25 then some (r5 i) else none))))))] ++ mt_rw 25 r5 (fun _ => .inl (cI, 5, .inl (fun _ => 0)))) := hD
  refine W.widen (k := 29) (n := 225) (Nat.le_of_ble_eq_true rfl) (Nat.le_of_ble_eq_true rfl) ?_
  refine pf_fl_24 hx hb hg hown hnm hK hP hD hS 0 rfl rfl rfl (Nat.le_of_ble_eq_true rfl) d_fl_init_36 (fun H locs hP hD hS => ?_)
  have hP : va_P D kls ([(fa, .inr (1, [.int 0, .int 0, .ref q1, .int 0, .ref q2, .ref q3, .ref q4])), (q1, .inl (cZ, 25, .inl (fun _ => 0))), (q2, .inl (cI, 25, .inl (fun _ => 0))), (q3, .inl (cI, 25, .inl (fun _ => 0))), (q4, .inl (cII, 25, .inr (.inr (.inr (.inr (fun i => if i < 25 then some (r5 i) else none))))))] ++ mt_rw 25 r5 (fun _ => .inl (cI, 5, .inl (fun _ => 0)))) H := hP
  have hD : va_D A ([(fa, .inr (1, [.int 0, .int 0, .ref q1, .int 0, .ref q2, .ref q3, .ref q4])), (q1, .inl (cZ, 25, .inl (fun _ => 0))), (q2, .inl (cI, 25, .inl (fun _ => 0))), (q3, .inl (cI, 25, .inl (fun _ => 0))), (q4, .inl (cII, 25, .inr (.inr (.inr (.inr (fun i => if i < 25 then some (r5 i) else none))))))] ++ mt_rw 25 r5 (fun _ => .inl (cI, 5, .inl (fun _ => 0)))) := hD
  refine lv_aload_n hx hb d_fl_init_39 rfl (lv_at hl 0 rfl) ?_
  refine lv_iconst (v := 1) hx hb d_fl_init_40 (by decide) ?_
  refine lv_iconst (v := 1) hx hb d_fl_init_41 (by decide) ?_
  have hPc := hP.sub (ws' := ([(fa, .inr (1, [.int 0, .int 0, .ref q1, .int 0, .ref q2, .ref q3, .ref q4])), (q1, .inl (cZ, 25, .inl (fun _ => 0))), (q2, .inl (cI, 25, .inl (fun _ => 0))), (q3, .inl (cI, 25, .inl (fun _ => 0))), (q4, .inl (cII, 25, .inr (.inr (.inr (.inr (fun i => if i < 25 then some (r5 i) else none))))))] ++ mt_rw 25 r5 (fun i => .inl (cI, 5, .inl ((fun _ _ => 0) i))))) [0, 1, 2, 3, 4, 5, 6, 7, 8, 9, 10, 11, 12, 13, 14, 15, 16, 17, 18, 19, 20, 21, 22, 23, 24, 25, 26, 27, 28, 29] rfl
  have hDc := hD.sub (ws' := ([(fa, .inr (1, [.int 0, .int 0, .ref q1, .int 0, .ref q2, .ref q3, .ref q4])), (q1, .inl (cZ, 25, .inl (fun _ => 0))), (q2, .inl (cI, 25, .inl (fun _ => 0))), (q3, .inl (cI, 25, .inl (fun _ => 0))), (q4, .inl (cII, 25, .inr (.inr (.inr (.inr (fun i => if i < 25 then some (r5 i) else none))))))] ++ mt_rw 25 r5 (fun i => .inl (cI, 5, .inl ((fun _ _ => 0) i))))) [0, 1, 2, 3, 4, 5, 6, 7, 8, 9, 10, 11, 12, 13, 14, 15, 16, 17, 18, 19, 20, 21, 22, 23, 24, 25, 26, 27, 28, 29] (by decide) rfl
  have hFc := va_free (wc := ([(fa, .inr (1, [.int 0, .int 0, .ref q1, .int 0, .ref q2, .ref q3, .ref q4])), (q1, .inl (cZ, 25, .inl (fun _ => 0))), (q2, .inl (cI, 25, .inl (fun _ => 0))), (q3, .inl (cI, 25, .inl (fun _ => 0))), (q4, .inl (cII, 25, .inr (.inr (.inr (.inr (fun i => if i < 25 then some (r5 i) else none))))))] ++ mt_rw 25 r5 (fun i => .inl (cI, 5, .inl ((fun _ _ => 0) i))))) hD hS hA [0, 1, 2, 3, 4, 5, 6, 7, 8, 9, 10, 11, 12, 13, 14, 15, 16, 17, 18, 19, 20, 21, 22, 23, 24, 25, 26, 27, 28, 29] rfl
  refine va_callv (va_runV (As := [.int 1, .int 1]) (rest := []) ⟨hx, hb, hml, hown, hg⟩ (c_fl_buildM l D cZ cI cJ cII fa q1 0 q2 q3 q4 0 0 (fun _ => 0) (fun _ => 0) (fun _ => 0) r5 (fun _ _ => 0) 1 1 H.size (by decide) (fun _ _ => ⟨0, by decide, rfl⟩)) (cwV 2 hg gv_fl_27 rfl rfl rfl (by decide +kernel) ⟨Nat.le_of_ble_eq_true rfl, Nat.le_of_ble_eq_true rfl⟩) ⟨mt_bl, va_recv (q0 := 0) (ci := 1) hK hP rfl rfl, mt_pr hX hPc hK hDc⟩ rfl rfl hl.1 rfl (lv_room (Nat.le_of_ble_eq_true rfl)) d_fl_init_42 ⟨Nat.le_of_ble_eq_true rfl, Nat.le_of_ble_eq_true rfl⟩) hS (fun q _ h => hFc q h) hFc (fun u t H1 locs ht hvm hw hB hz1 hk1 hS => ?_)
  obtain ⟨wf17, rf18, sf19, Ms110⟩ := u
  have hr6 : (∀ j, j < 25 → wf17 j = 0) ∧ fx_Ok (1 : Nat) ((1 : Nat) * (1 : Nat)) wf17 rf18 sf19 Ms110 ((1 : Nat) * (1 : Nat)) ∧ fx_sc sf19 := hw
  obtain ⟨hP1, hD1⟩ := hB
  rw [ht] at hP1
  obtain ⟨hP, hD⟩ := va_join (wr := []) (w1 := ([(fa, .inr (1, [.int (nI 1), .int (nI 1), .ref q1, .int (nI (fx_cnt wf17 (1 * 1))), .ref q2, .ref q3, .ref q4])), (q1, .inl (cZ, 25, .inl wf17)), (q2, .inl (cI, 25, .inl rf18)), (q3, .inl (cI, 25, .inl sf19)), (q4, .inl (cII, 25, .inr (.inr (.inr (.inr (fun i => if i < 25 then some (r5 i) else none))))))] ++ mt_rw 25 r5 (fun i => .inl (cI, 5, .inl (Ms110 i))))) hP hD [0, 1, 2, 3, 4, 5, 6, 7, 8, 9, 10, 11, 12, 13, 14, 15, 16, 17, 18, 19, 20, 21, 22, 23, 24, 25, 26, 27, 28, 29] [] rfl rfl (by decide) (by decide) hk1 hFc hP1 hD1
  generalize H1 = H at hP hS ⊢
  have hP : va_P D kls ([(fa, .inr (1, [.int (nI 1), .int (nI 1), .ref q1, .int (nI (fx_cnt wf17 (1 * 1))), .ref q2, .ref q3, .ref q4])), (q1, .inl (cZ, 25, .inl wf17)), (q2, .inl (cI, 25, .inl rf18)), (q3, .inl (cI, 25, .inl sf19)), (q4, .inl (cII, 25, .inr (.inr (.inr (.inr (fun i => if i < 25 then some (r5 i) else none))))))] ++ mt_rw 25 r5 (fun i => .inl (cI, 5, .inl (Ms110 i)))) H := hP
  have hD : va_D A ([(fa, .inr (1, [.int (nI 1), .int (nI 1), .ref q1, .int (nI (fx_cnt wf17 (1 * 1))), .ref q2, .ref q3, .ref q4])), (q1, .inl (cZ, 25, .inl wf17)), (q2, .inl (cI, 25, .inl rf18)), (q3, .inl (cI, 25, .inl sf19)), (q4, .inl (cII, 25, .inr (.inr (.inr (.inr (fun i => if i < 25 then some (r5 i) else none))))))] ++ mt_rw 25 r5 (fun i => .inl (cI, 5, .inl (Ms110 i)))) := hD
  have a9 := hr6
  refine W.widen (k := 29) (n := 225) (Nat.le_of_ble_eq_true rfl) (Nat.le_of_ble_eq_true rfl) ?_
  have hP9 := hP
  have hD9 := hD
  exact W.vret hx hb hr (fun t ht hW => ⟨⟨(q1, q2, q3, q4, r5, wf17, rf18, sf19, Ms110), rfl, a9, by rw [ht]; exact hP9, hD9⟩, hS.F ht⟩) hS.2.2 d_fl_init_45
