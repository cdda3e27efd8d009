set_option maxHeartbeats 4000000 in
set_option maxRecDepth 100000 in
theorem c_ld_init (l : Launch) (D : va_G) (cZ cI cJ cII : ClassId) (da : Nat) (sz : Nat)  : Met l y_ld_init w_ld_init ({ frames := 1, cells := 9, slots := 198, locals := 40 }) (va_Pc [.ref da] (mt_B D [(cZ, .boolean), (cI, .int), (cJ, .long), (cII, .array .int)] [(da, .inr (2, [.null, .null, .null]))] sz)) ((fun A => va_Qv (fun (u : Nat × (Nat → Nat) × Nat × Nat) => True) (fun (u : Nat × (Nat → Nat) × Nat × Nat) (t : State) => mt_O D A (([(da, .inr (2, [.ref (u.1), .ref (u.2.2.1), .ref (u.2.2.2)])), ((u.1), .inl (cII, 6, .inr (.inr (.inr (.inr (fun i => if i < 6 then some ((u.2.1) i) else none))))))] ++ mt_rw 6 (u.2.1) (fun _ => .inl (cI, 30, .inl (fun _ => 0)))) ++ [((u.2.2.1), .inl (cI, 6, .inl (fun _ => 0))), ((u.2.2.2), .inl (cI, 6, .inl (fun _ => 0)))]) t) A) (va_A [(da, .inr (2, [.null, .null, .null]))] sz)) 9 198 (va_A [(da, .inr (2, [.null, .null, .null]))] sz) := by
  refine mt_of (y := y_ld_init) (n := 1) (av := [.ref da]) (QF := (fun A => va_Qv (fun (u : Nat × (Nat → Nat) × Nat × Nat) => True) (fun (u : Nat × (Nat → Nat) × Nat × Nat) (t : State) => mt_O D A (([(da, .inr (2, [.ref (u.1), .ref (u.2.2.1), .ref (u.2.2.2)])), ((u.1), .inl (cII, 6, .inr (.inr (.inr (.inr (fun i => if i < 6 then some ((u.2.1) i) else none))))))] ++ mt_rw 6 (u.2.1) (fun _ => .inl (cI, 30, .inl (fun _ => 0)))) ++ [((u.2.2.1), .inl (cI, 6, .inl (fun _ => 0))), ((u.2.2.2), .inl (cI, 6, .inl (fun _ => 0)))]) t) A)) (by decide) (Nat.le_of_ble_eq_true rfl) ?_
  intro p e s m below meth c ls A hx hb hr hlk hml hown hnm hg hl hX hP hK hD hA hS
  obtain ⟨H, hH⟩ : ∃ H : Heap, H = s.heap := ⟨_, rfl⟩
  have hS : va_S A s.heap H [] := by rw [hH]; exact va_S.rf
  rw [← hH] at hP ⊢
  have hown : s.vm.findClass R_ld = some m.cls := hown
  have hl : lv_has ls 1 [(0, .ref da)] := hl
  refine lv_aload_n hx hb d_ld_init_0 rfl (lv_at hl 0 rfl) ?_
  refine W.objInit hx hb hown (hg _ go_ld) (hg _ go_m) (hg _ go_c) rfl (by rw [hml]; exact hl.1) rfl d_ld_init_1 (Nat.le_of_ble_eq_true rfl) (Nat.le_of_ble_eq_true rfl) ?_
  refine W.eq (g2 := F0 m 4 ls []) rfl ?_
  refine lv_aload_n hx hb d_ld_init_4 rfl (lv_at hl 0 rfl) ?_
  refine lv_bipush (v := 6) hx hb d_ld_init_5 (by decide) ?_
  refine lv_bipush (v := 30) hx hb d_ld_init_7 (by decide) ?_
  refine mt_mna (N' := 6) (K' := 30) hx hb hown (hg _ gc_ld_9) hX (hg _ ga_int) hK hP hD hS hA 1 3 rfl rfl (by decide) (by decide) (by decide) (by decide) (by decide) (by decide) (by decide) (Nat.le_of_ble_eq_true rfl) (Nat.le_of_ble_eq_true rfl) d_ld_init_9 (fun q1 r2 H hP hD hS => ?_)
  have hP : va_P D kls ([(da, .inr (2, [.null, .null, .null])), (q1, .inl (cII, 6, .inr (.inr (.inr (.inr (fun i => if i < 6 then some (r2 i) else none))))))] ++ mt_rw 6 r2 (fun _ => .inl (cI, 30, .inl (fun _ => 0)))) H := hP
  have hD : va_D A ([(da, .inr (2, [.null, .null, .null])), (q1, .inl (cII, 6, .inr (.inr (.inr (.inr (fun i => if i < 6 then some (r2 i) else none))))))] ++ mt_rw 6 r2 (fun _ => .inl (cI, 30, .inl (fun _ => 0)))) := hD
  refine W.widen (k := 7) (n := 186) (Nat.le_of_ble_eq_true rfl) (Nat.le_of_ble_eq_true rfl) ?_
  refine pf_ld_11 hx hb hg hown hnm hK hP hD hS 0 rfl rfl rfl (Nat.le_of_ble_eq_true rfl) d_ld_init_13 (fun H locs hP hD hS => ?_)
  have hP : va_P D kls ([(da, .inr (2, [.ref q1, .null, .null])), (q1, .inl (cII, 6, .inr (.inr (.inr (.inr (fun i => if i < 6 then some (r2 i) else none))))))] ++ mt_rw 6 r2 (fun _ => .inl (cI, 30, .inl (fun _ => 0)))) H := hP
  have hD : va_D A ([(da, .inr (2, [.ref q1, .null, .null])), (q1, .inl (cII, 6, .inr (.inr (.inr (.inr (fun i => if i < 6 then some (r2 i) else none))))))] ++ mt_rw 6 r2 (fun _ => .inl (cI, 30, .inl (fun _ => 0)))) := hD
  refine lv_aload_n hx hb d_ld_init_16 rfl (lv_at hl 0 rfl) ?_
  refine lv_bipush (v := 6) hx hb d_ld_init_17 (by decide) ?_
  refine mt_newI hx hb (hg _ ga_int) hK hP hD hS hA 1 rfl 6 (by decide) (by decide) (by decide) (Nat.le_of_ble_eq_true rfl) (Nat.le_of_ble_eq_true rfl) d_ld_init_19 (fun q3 H hP hD hS => ?_)
  have hP : va_P D kls (([(da, .inr (2, [.ref q1, .null, .null])), (q1, .inl (cII, 6, .inr (.inr (.inr (.inr (fun i => if i < 6 then some (r2 i) else none))))))] ++ mt_rw 6 r2 (fun _ => .inl (cI, 30, .inl (fun _ => 0)))) ++ [(q3, .inl (cI, 6, .inl (fun _ => 0)))]) H := hP
  have hD : va_D A (([(da, .inr (2, [.ref q1, .null, .null])), (q1, .inl (cII, 6, .inr (.inr (.inr (.inr (fun i => if i < 6 then some (r2 i) else none))))))] ++ mt_rw 6 r2 (fun _ => .inl (cI, 30, .inl (fun _ => 0)))) ++ [(q3, .inl (cI, 6, .inl (fun _ => 0)))]) := hD
  refine W.widen (k := 8) (n := 192) (Nat.le_of_ble_eq_true rfl) (Nat.le_of_ble_eq_true rfl) ?_
  refine pf_ld_16 hx hb hg hown hnm hK hP hD hS 0 rfl rfl rfl (Nat.le_of_ble_eq_true rfl) d_ld_init_21 (fun H locs hP hD hS => ?_)
  have hP : va_P D kls (([(da, .inr (2, [.ref q1, .ref q3, .null])), (q1, .inl (cII, 6, .inr (.inr (.inr (.inr (fun i => if i < 6 then some (r2 i) else none))))))] ++ mt_rw 6 r2 (fun _ => .inl (cI, 30, .inl (fun _ => 0)))) ++ [(q3, .inl (cI, 6, .inl (fun _ => 0)))]) H := hP
  have hD : va_D A (([(da, .inr (2, [.ref q1, .ref q3, .null])), (q1, .inl (cII, 6, .inr (.inr (.inr (.inr (fun i => if i < 6 then some (r2 i) else none))))))] ++ mt_rw 6 r2 (fun _ => .inl (cI, 30, .inl (fun _ => 0)))) ++ [(q3, .inl (cI, 6, .inl (fun _ => 0)))]) := hD
  refine lv_aload_n hx hb d_ld_init_24 rfl (lv_at hl 0 rfl) ?_
  refine lv_bipush (v := 6) hx hb d_ld_init_25 (by decide) ?_
  refine mt_newI hx hb (hg _ ga_int) hK hP hD hS hA 1 rfl 6 (by decide) (by decide) (by decide) (Nat.le_of_ble_eq_true rfl) (Nat.le_of_ble_eq_true rfl) d_ld_init_27 (fun q4 H hP hD hS => ?_)
  have hP : va_P D kls (([(da, .inr (2, [.ref q1, .ref q3, .null])), (q1, .inl (cII, 6, .inr (.inr (.inr (.inr (fun i => if i < 6 then some (r2 i) else none))))))] ++ mt_rw 6 r2 (fun _ => .inl (cI, 30, .inl (fun _ => 0)))) ++ [(q3, .inl (cI, 6, .inl (fun _ => 0))), (q4, .inl (cI, 6, .inl (fun _ => 0)))]) H := hP
  have hD : va_D A (([(da, .inr (2, [.ref q1, .ref q3, .null])), (q1, .inl (cII, 6, .inr (.inr (.inr (.inr (fun i => if i < 6 then some (r2 i) else none))))))] ++ mt_rw 6 r2 (fun _ => .inl (cI, 30, .inl (fun _ => 0)))) ++ [(q3, .inl (cI, 6, .inl (fun _ => 0))), (q4, .inl (cI, 6, .inl (fun _ => 0)))]) := hD
  refine W.widen (k := 9) (n := 198) (Nat.le_of_ble_eq_true rfl) (Nat.le_of_ble_eq_true rfl) ?_
  refine pf_ld_20 hx hb hg hown hnm hK hP hD hS 0 rfl rfl rfl (Nat.le_of_ble_eq_true rfl) d_ld_init_29 (fun H locs hP hD hS => ?_)
  have hP : va_P D kls (([(da, .inr (2, [.ref q1, .ref q3, .ref q4])), (q1, .inl (cII, 6, .inr (.inr (.inr (.inr (fun i => if i < 6 then some (r2 i) else none))))))] ++ mt_rw 6 r2 (fun _ => .inl (cI, 30, .inl (fun _ => 0)))) ++ [(q3, .inl (cI, 6, .inl (fun _ => 0))), (q4, .inl (cI, 6, .inl (fun _ => 0)))]) H := hP
  have hD : va_D A (([(da, .inr (2, [.ref q1, .ref q3, .ref q4])), (q1, .inl (cII, 6, .inr (.inr (.inr (.inr (fun i => if i < 6 then some (r2 i) else none))))))] ++ mt_rw 6 r2 (fun _ => .inl (cI, 30, .inl (fun _ => 0)))) ++ [(q3, .inl (cI, 6, .inl (fun _ => 0))), (q4, .inl (cI, 6, .inl (fun _ => 0)))]) := hD
  refine W.widen (k := 9) (n := 198) (Nat.le_of_ble_eq_true rfl) (Nat.le_of_ble_eq_true rfl) ?_
  have hP9 := hP
  have hD9 := hD
  exact W.vret hx hb hr (fun t ht hW => ⟨⟨(q1, r2, q3, q4), rfl, trivial, by rw [ht]; exact hP9, hD9⟩, hS.F ht⟩) hS.2.2 d_ld_init_32
