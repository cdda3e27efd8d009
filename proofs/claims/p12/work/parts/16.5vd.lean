set_option maxHeartbeats 4000000 in
set_option maxRecDepth 100000 in
theorem c_vd_init (l : Launch) (D : va_G) (cZ cI cJ cII : ClassId) (ea : Nat) (efl : Nat) (ecr : Nat) (ela : Nat) (sz : Nat)  : Met l y_vd_init w_vd_init ({ frames := 1, cells := 0, slots := 0, locals := 40 }) (va_Pc [.ref ea, .ref efl, .ref ecr, .ref ela] (mt_B D [(cZ, .boolean), (cI, .int), (cJ, .long), (cII, .array .int)] [(ea, .inr (5, [.null, .null, .null, .int 0, .int 0, .int 0, .int 0]))] sz)) ((fun A => va_Qv (fun (u : Unit) => True) (fun (u : Unit) (t : State) => mt_O D A [(ea, .inr (5, [.ref efl, .ref ecr, .ref ela, .int 0, .int 0, .int 0, .int 0]))] t) A) (va_A [(ea, .inr (5, [.null, .null, .null, .int 0, .int 0, .int 0, .int 0]))] sz)) 0 0 (va_A [(ea, .inr (5, [.null, .null, .null, .int 0, .int 0, .int 0, .int 0]))] sz) := by
  refine mt_of (y := y_vd_init) (n := 4) (av := [.ref ea, .ref efl, .ref ecr, .ref ela]) (QF := (fun A => va_Qv (fun (u : Unit) => True) (fun (u : Unit) (t : State) => mt_O D A [(ea, .inr (5, [.ref efl, .ref ecr, .ref ela, .int 0, .int 0, .int 0, .int 0]))] t) A)) (by decide) (Nat.le_of_ble_eq_true rfl) ?_
  intro p e s m below meth c ls A hx hb hr hlk hml hown hnm hg hl hX hP hK hD hA hS
  obtain ⟨H, hH⟩ : ∃ H : Heap, H = s.heap := ⟨_, rfl⟩
  have hS : va_S A s.heap H [] := by rw [hH]; exact va_S.rf
  rw [← hH] at hP ⊢
  have hown : s.vm.findClass R_vd = some m.cls := hown
  have hl : lv_has ls 4 [(0, .ref ea), (1, .ref efl), (2, .ref ecr), (3, .ref ela)] := hl
  refine lv_aload_n hx hb d_vd_init_0 rfl (lv_at hl 0 rfl) ?_
  refine W.objInit hx hb hown (hg _ go_vd) (hg _ go_m) (hg _ go_c) rfl (by rw [hml]; exact hl.1) rfl d_vd_init_1 (Nat.le_of_ble_eq_true rfl) (Nat.le_of_ble_eq_true rfl) ?_
  refine W.eq (g2 := F0 m 4 ls []) rfl ?_
  refine lv_aload_n hx hb d_vd_init_4 rfl (lv_at hl 0 rfl) ?_
  refine lv_aload_n hx hb d_vd_init_5 rfl (lv_at hl 1 rfl) ?_
  refine pf_vd_9 hx hb hg hown hnm hK hP hD hS 0 rfl rfl rfl (Nat.le_of_ble_eq_true rfl) d_vd_init_6 (fun H locs hP hD hS => ?_)
  have hP : va_P D kls [(ea, .inr (5, [.ref efl, .null, .null, .int 0, .int 0, .int 0, .int 0]))] H := hP
  have hD : va_D A [(ea, .inr (5, [.ref efl, .null, .null, .int 0, .int 0, .int 0, .int 0]))] := hD
  refine lv_aload_n hx hb d_vd_init_9 rfl (lv_at hl 0 rfl) ?_
  refine lv_aload_n hx hb d_vd_init_10 rfl (lv_at hl 2 rfl) ?_
  refine pf_vd_15 hx hb hg hown hnm hK hP hD hS 0 rfl rfl rfl (Nat.le_of_ble_eq_true rfl) d_vd_init_11 (fun H locs hP hD hS => ?_)
  have hP : va_P D kls [(ea, .inr (5, [.ref efl, .ref ecr, .null, .int 0, .int 0, .int 0, .int 0]))] H := hP
  have hD : va_D A [(ea, .inr (5, [.ref efl, .ref ecr, .null, .int 0, .int 0, .int 0, .int 0]))] := hD
  refine lv_aload_n hx hb d_vd_init_14 rfl (lv_at hl 0 rfl) ?_
  refine lv_aload_n hx hb d_vd_init_15 rfl (lv_at hl 3 rfl) ?_
  refine pf_vd_19 hx hb hg hown hnm hK hP hD hS 0 rfl rfl rfl (Nat.le_of_ble_eq_true rfl) d_vd_init_16 (fun H locs hP hD hS => ?_)
  have hP : va_P D kls [(ea, .inr (5, [.ref efl, .ref ecr, .ref ela, .int 0, .int 0, .int 0, .int 0]))] H := hP
  have hD : va_D A [(ea, .inr (5, [.ref efl, .ref ecr, .ref ela, .int 0, .int 0, .int 0, .int 0]))] := hD
  have hP9 := hP
  have hD9 := hD
  exact W.vret hx hb hr (fun t ht hW => ⟨⟨(), rfl, trivial, by rw [ht]; exact hP9, hD9⟩, hS.F ht⟩) hS.2.2 d_vd_init_19
