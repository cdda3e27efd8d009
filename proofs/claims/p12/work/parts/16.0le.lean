set_option maxHeartbeats 4000000 in
set_option maxRecDepth 100000 in
theorem c_le_init (l : Launch) (D : va_G) (cZ cI cJ cII : ClassId) (la : Nat) (sz : Nat)  : Met l y_le_init w_le_init ({ frames := 1, cells := 1, slots := 1296, locals := 40 }) (va_Pc [.ref la] (mt_B D [(cZ, .boolean), (cI, .int), (cJ, .long), (cII, .array .int)] [(la, .inr (3, [.null]))] sz)) ((fun A => va_Qv (fun (u : Nat) => True) (fun (u : Nat) (t : State) => mt_O D A [(la, .inr (3, [.ref u])), (u, .inl (cJ, 1296, .inr (.inl (fun _ => 0))))] t) A) (va_A [(la, .inr (3, [.null]))] sz)) 1 1296 (va_A [(la, .inr (3, [.null]))] sz) := by
  refine mt_of (y := y_le_init) (n := 1) (av := [.ref la]) (QF := (fun A => va_Qv (fun (u : Nat) => True) (fun (u : Nat) (t : State) => mt_O D A [(la, .inr (3, [.ref u])), (u, .inl (cJ, 1296, .inr (.inl (fun _ => 0))))] t) A)) (by decide) (Nat.le_of_ble_eq_true rfl) ?_
  intro p e s m below meth c ls A hx hb hr hlk hml hown hnm hg hl hX hP hK hD hA hS
  obtain ⟨H, hH⟩ : ∃ H : Heap, H = s.heap := ⟨_, rfl⟩
  have hS : va_S A s.heap H [] := by rw [hH]; exact va_S.rf
  rw [← hH] at hP ⊢
  have hown : s.vm.findClass R_le = some m.cls := hown
  have hl : lv_has ls 1 [(0, .ref la)] := hl
  refine lv_aload_n hx hb d_le_init_0 rfl (lv_at hl 0 rfl) ?_
  refine W.objInit hx hb hown (hg _ go_le) (hg _ go_m) (hg _ go_c) rfl (by rw [hml]; exact hl.1) rfl d_le_init_1 (Nat.le_of_ble_eq_true rfl) (Nat.le_of_ble_eq_true rfl) ?_
  refine W.eq (g2 := F0 m 4 ls []) rfl ?_
  refine lv_aload_n hx hb d_le_init_4 rfl (lv_at hl 0 rfl) ?_
  refine lv_sipush (v := 1296) hx hb d_le_init_5 (by decide) ?_
  refine mt_newJ hx hb (hg _ ga_long) hK hP hD hS hA 2 rfl 1296 (by decide) (by decide) (by decide) (Nat.le_of_ble_eq_true rfl) (Nat.le_of_ble_eq_true rfl) d_le_init_8 (fun q1 H hP hD hS => ?_)
  have hP : va_P D kls [(la, .inr (3, [.null])), (q1, .inl (cJ, 1296, .inr (.inl (fun _ => 0))))] H := hP
  have hD : va_D A [(la, .inr (3, [.null])), (q1, .inl (cJ, 1296, .inr (.inl (fun _ => 0))))] := hD
  refine W.widen (k := 1) (n := 1296) (Nat.le_of_ble_eq_true rfl) (Nat.le_of_ble_eq_true rfl) ?_
  refine pf_le_9 hx hb hg hown hnm hK hP hD hS 0 rfl rfl rfl (Nat.le_of_ble_eq_true rfl) d_le_init_10 (fun H locs hP hD hS => ?_)
  have hP : va_P D kls [(la, .inr (3, [.ref q1])), (q1, .inl (cJ, 1296, .inr (.inl (fun _ => 0))))] H := hP
  have hD : va_D A [(la, .inr (3, [.ref q1])), (q1, .inl (cJ, 1296, .inr (.inl (fun _ => 0))))] := hD
  refine W.widen (k := 1) (n := 1296) (Nat.le_of_ble_eq_true rfl) (Nat.le_of_ble_eq_true rfl) ?_
  have hP9 := hP
  have hD9 := hD
  exact W.vret hx hb hr (fun t ht hW => ⟨⟨(q1), rfl, trivial, by rw [ht]; exact hP9, hD9⟩, hS.F ht⟩) hS.2.2 d_le_init_13
