set_option maxHeartbeats 4000000 in
set_option maxRecDepth 100000 in
theorem c_fl_has (l : Launch) (D : va_G) (cZ cI cJ cII : ClassId) (fa : Nat) (fw : Int32) (fh : Int32) (wa : Nat) (fc : Int32) (ra : Nat) (sa : Nat) (ta : Nat) (x : Int32) (sz : Nat)  : Met l y_fl_has w_fl_has ({ frames := 0, cells := 0, slots := 0, locals := 0 }) (va_Pc [.ref fa, .int x] (mt_B D [(cZ, .boolean), (cI, .int), (cJ, .long), (cII, .array .int)] [(fa, .inr (1, [.int fw, .int fh, .ref wa, .int fc, .ref ra, .ref sa, .ref ta]))] sz)) (vp_Si (fun r : Int32 => (r = 1 ∧ ¬ x < 0 ∧ ¬ fw * fh ≤ x) ∨ (r = 0 ∧ (x < 0 ∨ fw * fh ≤ x)))) 0 0 (fun _ => False) := by
  refine mt_ofR (by decide) (Nat.le_of_ble_eq_true rfl) ?_
  intro p e s m below meth c ls hx hb hr hlk hml hown hg hl hX hP hK hD
  have hown : s.vm.findClass R_fl = some m.cls := hown
  obtain ⟨H, hH⟩ : ∃ H : Heap, H = s.heap := ⟨_, rfl⟩
  rw [← hH] at hP ⊢
  have hl : lv_has ls 2 [(0, .ref fa), (1, .int x)] := hl
  refine lv_iload_n hx hb d_fl_has_0 rfl (lv_at hl 1 rfl) ?_
  refine lv_if_lt hx hb d_fl_has_1 rfl (fun g1 => ?_) (fun g1 => ?_)
  ·
    refine lv_iconst (v := 0) hx hb d_fl_has_21 (by decide) ?_
    exact W.zret hx hb hr rfl (fun t ht _ => ⟨0, rfl, Or.inr ⟨rfl, Or.inl g1⟩, ht.trans hH⟩) (fun _ h => absurd h List.not_mem_nil) d_fl_has_22
  ·
    refine lv_iload_n hx hb d_fl_has_4 rfl (lv_at hl 1 rfl) ?_
    refine lv_aload_n hx hb d_fl_has_5 rfl (lv_at hl 0 rfl) ?_
    refine gf_fl_31 hx hb hg hown hK hP 0 rfl rfl d_fl_has_6 ?_
    refine lv_aload_n hx hb d_fl_has_9 rfl (lv_at hl 0 rfl) ?_
    refine gf_fl_35 hx hb hg hown hK hP 0 rfl rfl d_fl_has_10 ?_
    refine lv_imul hx hb d_fl_has_13 ?_
    refine lv_icmp_ge hx hb d_fl_has_14 rfl (fun g2 => ?_) (fun g2 => ?_)
    ·
      refine lv_iconst (v := 0) hx hb d_fl_has_21 (by decide) ?_
      exact W.zret hx hb hr rfl (fun t ht _ => ⟨0, rfl, Or.inr ⟨rfl, Or.inr g2⟩, ht.trans hH⟩) (fun _ h => absurd h List.not_mem_nil) d_fl_has_22
    ·
      refine lv_iconst (v := 1) hx hb d_fl_has_17 (by decide) ?_
      refine lv_goto hx hb d_fl_has_18 rfl ?_
      exact W.zret hx hb hr rfl (fun t ht _ => ⟨1, rfl, Or.inl ⟨rfl, g1, g2⟩, ht.trans hH⟩) (fun _ h => absurd h List.not_mem_nil) d_fl_has_22

set_option maxHeartbeats 4000000 in
set_option maxRecDepth 100000 in
theorem c_fl_isFree (l : Launch) (D : va_G) (cZ cI cJ cII : ClassId) (fa : Nat) (fw : Int32) (fh : Int32) (wa : Nat) (fc : Int32) (ra : Nat) (sa : Nat) (ta : Nat) (wf : Nat → Int32) (x : Int32) (sz : Nat) (hb25 : ∀ x : Int32, ¬ x < 0 → ¬ fw * fh ≤ x → vp_in x 25) : Met l y_fl_isFree w_fl_isFree ({ frames := 1, cells := 0, slots := 0, locals := 40 }) (va_Pc [.ref fa, .int x] (mt_B D [(cZ, .boolean), (cI, .int), (cJ, .long), (cII, .array .int)] [(fa, .inr (1, [.int fw, .int fh, .ref wa, .int fc, .ref ra, .ref sa, .ref ta])), (wa, .inl (cZ, 25, .inl wf))] sz)) (vp_Si (fun r : Int32 => (r = 1 ∧ ¬ x < 0 ∧ ¬ fw * fh ≤ x ∧ wf x.toNatClampNeg = 0) ∨ (r = 0 ∧ (x < 0 ∨ fw * fh ≤ x ∨ ¬ wf x.toNatClampNeg = 0)))) 0 0 (fun _ => False) := by
  refine mt_ofR (by decide) (Nat.le_of_ble_eq_true rfl) ?_
  intro p e s m below meth c ls hx hb hr hlk hml hown hg hl hX hP hK hD
  have hown : s.vm.findClass R_fl = some m.cls := hown
  obtain ⟨H, hH⟩ : ∃ H : Heap, H = s.heap := ⟨_, rfl⟩
  rw [← hH] at hP ⊢
  have hl : lv_has ls 2 [(0, .ref fa), (1, .int x)] := hl
  refine lv_aload_n hx hb d_fl_isFree_0 rfl (lv_at hl 0 rfl) ?_
  refine lv_iload_n hx hb d_fl_isFree_1 rfl (lv_at hl 1 rfl) ?_
  have hPc := hP.sub (ws' := [(fa, .inr (1, [.int fw, .int fh, .ref wa, .int fc, .ref ra, .ref sa, .ref ta]))]) [0] rfl
  have hDc := hD.sub (ws' := [(fa, .inr (1, [.int fw, .int fh, .ref wa, .int fc, .ref ra, .ref sa, .ref ta]))]) [0] (by decide) rfl
  refine vp_callSi (W.runV (As := [.int x]) (rest := []) ⟨hx, hb, hml, hown, hg⟩ (c_fl_has l D cZ cI cJ cII fa fw fh wa fc ra sa ta x H.size ) (cwV 1 hg gv_fl_41 rfl rfl rfl (by decide +kernel) ⟨Nat.le_of_ble_eq_true rfl, Nat.le_of_ble_eq_true rfl⟩) ⟨mt_bl, va_recv (q0 := 0) (ci := 1) hK hP rfl rfl, mt_pr hX hPc hK hDc⟩ rfl rfl hl.1 rfl (lv_room (Nat.le_of_ble_eq_true rfl)) d_fl_isFree_2 ⟨Nat.le_of_ble_eq_true rfl, Nat.le_of_ble_eq_true rfl⟩) (fun r1 hr1 => ?_)
  have hr1 : (r1 = 1 ∧ ¬ x < 0 ∧ ¬ fw * fh ≤ x) ∨ (r1 = 0 ∧ (x < 0 ∨ fw * fh ≤ x)) := hr1
  refine lv_if_eq hx hb d_fl_isFree_5 rfl (fun g1 => ?_) (fun g1 => ?_)
  ·
    refine lv_iconst (v := 0) hx hb d_fl_isFree_21 (by decide) ?_
    exact W.zret hx hb hr rfl (fun t ht _ => ⟨0, rfl, Or.inr ⟨rfl, hr1.elim (fun q => absurd (q.1.symm.trans g1) (by decide)) (fun q => q.2.elim Or.inl (fun z => Or.inr (Or.inl z)))⟩, ht.trans hH⟩) (fun _ h => absurd h List.not_mem_nil) d_fl_isFree_22
  ·
    have g3 : ¬ x < 0 ∧ ¬ fw * fh ≤ x := hr1.elim (fun q => q.2) (fun q => absurd q.1 g1)
    refine lv_aload_n hx hb d_fl_isFree_8 rfl (lv_at hl 0 rfl) ?_
    refine gf_fl_9 hx hb hg hown hK hP 0 rfl rfl d_fl_isFree_9 ?_
    refine lv_iload_n hx hb d_fl_isFree_12 rfl (lv_at hl 1 rfl) ?_
    refine va_zald hx hb hK hP 1 0 rfl rfl (hb25 x g3.1 g3.2) d_fl_isFree_13 ?_
    refine lv_if_ne hx hb d_fl_isFree_14 rfl (fun g2 => ?_) (fun g2 => ?_)
    ·
      refine lv_iconst (v := 0) hx hb d_fl_isFree_21 (by decide) ?_
      exact W.zret hx hb hr rfl (fun t ht _ => ⟨0, rfl, Or.inr ⟨rfl, Or.inr (Or.inr g2)⟩, ht.trans hH⟩) (fun _ h => absurd h List.not_mem_nil) d_fl_isFree_22
    ·
      refine lv_iconst (v := 1) hx hb d_fl_isFree_17 (by decide) ?_
      refine lv_goto hx hb d_fl_isFree_18 rfl ?_
      exact W.zret hx hb hr rfl (fun t ht _ => ⟨1, rfl, Or.inl ⟨rfl, g3.1, g3.2, g2⟩, ht.trans hH⟩) (fun _ h => absurd h List.not_mem_nil) d_fl_isFree_22

set_option maxHeartbeats 4000000 in
set_option maxRecDepth 100000 in
theorem c_cr_has (l : Launch) (D : va_G) (cZ cI cJ cII : ClassId) (ca : Nat) (cfl : Nat) (cn : Int32) (cs : Nat) (cg : Nat) (cto : Nat) (cq : Nat) (cco : Nat) (cnx : Nat) (x : Int32) (sz : Nat)  : Met l y_cr_has w_cr_has ({ frames := 0, cells := 0, slots := 0, locals := 0 }) (va_Pc [.ref ca, .int x] (mt_B D [(cZ, .boolean), (cI, .int), (cJ, .long), (cII, .array .int)] [(ca, .inr (0, [.ref cfl, .int cn, .ref cs, .ref cg, .ref cto, .ref cq, .ref cco, .ref cnx]))] sz)) (vp_Si (fun r : Int32 => (r = 1 ∧ ¬ x < 0 ∧ ¬ cn ≤ x) ∨ (r = 0 ∧ (x < 0 ∨ cn ≤ x)))) 0 0 (fun _ => False) := by
  refine mt_ofR (by decide) (Nat.le_of_ble_eq_true rfl) ?_
  intro p e s m below meth c ls hx hb hr hlk hml hown hg hl hX hP hK hD
  have hown : s.vm.findClass R_cr = some m.cls := hown
  obtain ⟨H, hH⟩ : ∃ H : Heap, H = s.heap := ⟨_, rfl⟩
  rw [← hH] at hP ⊢
  have hl : lv_has ls 2 [(0, .ref ca), (1, .int x)] := hl
  refine lv_iload_n hx hb d_cr_has_0 rfl (lv_at hl 1 rfl) ?_
  refine lv_if_lt hx hb d_cr_has_1 rfl (fun g1 => ?_) (fun g1 => ?_)
  ·
    refine lv_iconst (v := 0) hx hb d_cr_has_16 (by decide) ?_
    exact W.zret hx hb hr rfl (fun t ht _ => ⟨0, rfl, Or.inr ⟨rfl, Or.inl g1⟩, ht.trans hH⟩) (fun _ h => absurd h List.not_mem_nil) d_cr_has_17
  ·
    refine lv_iload_n hx hb d_cr_has_4 rfl (lv_at hl 1 rfl) ?_
    refine lv_aload_n hx hb d_cr_has_5 rfl (lv_at hl 0 rfl) ?_
    refine gf_cr_37 hx hb hg hown hK hP 0 rfl rfl d_cr_has_6 ?_
    refine lv_icmp_ge hx hb d_cr_has_9 rfl (fun g2 => ?_) (fun g2 => ?_)
    ·
      refine lv_iconst (v := 0) hx hb d_cr_has_16 (by decide) ?_
      exact W.zret hx hb hr rfl (fun t ht _ => ⟨0, rfl, Or.inr ⟨rfl, Or.inr g2⟩, ht.trans hH⟩) (fun _ h => absurd h List.not_mem_nil) d_cr_has_17
    ·
      refine lv_iconst (v := 1) hx hb d_cr_has_12 (by decide) ?_
      refine lv_goto hx hb d_cr_has_13 rfl ?_
      exact W.zret hx hb hr rfl (fun t ht _ => ⟨1, rfl, Or.inl ⟨rfl, g1, g2⟩, ht.trans hH⟩) (fun _ h => absurd h List.not_mem_nil) d_cr_has_17

set_option maxHeartbeats 4000000 in
set_option maxRecDepth 100000 in
theorem c_cr_dismiss (l : Launch) (D : va_G) (cZ cI cJ cII : ClassId) (ca : Nat) (cfl : Nat) (cn : Int32) (cs : Nat) (cg : Nat) (cto : Nat) (cq : Nat) (cco : Nat) (cnx : Nat) (sz : Nat)  : Met l y_cr_dismiss w_cr_dismiss ({ frames := 0, cells := 0, slots := 0, locals := 0 }) (va_Pc [.ref ca] (mt_B D [(cZ, .boolean), (cI, .int), (cJ, .long), (cII, .array .int)] [(ca, .inr (0, [.ref cfl, .int cn, .ref cs, .ref cg, .ref cto, .ref cq, .ref cco, .ref cnx]))] sz)) ((fun A => va_Qv (fun (u : Unit) => True) (fun (u : Unit) (t : State) => mt_O D A [(ca, .inr (0, [.ref cfl, .int 0, .ref cs, .ref cg, .ref cto, .ref cq, .ref cco, .ref cnx]))] t) A) (va_A [(ca, .inr (0, [.ref cfl, .int cn, .ref cs, .ref cg, .ref cto, .ref cq, .ref cco, .ref cnx]))] sz)) 0 0 (va_A [(ca, .inr (0, [.ref cfl, .int cn, .ref cs, .ref cg, .ref cto, .ref cq, .ref cco, .ref cnx]))] sz) := by
  refine mt_of (y := y_cr_dismiss) (n := 1) (av := [.ref ca]) (QF := (fun A => va_Qv (fun (u : Unit) => True) (fun (u : Unit) (t : State) => mt_O D A [(ca, .inr (0, [.ref cfl, .int 0, .ref cs, .ref cg, .ref cto, .ref cq, .ref cco, .ref cnx]))] t) A)) (by decide) (Nat.le_of_ble_eq_true rfl) ?_
  intro p e s m below meth c ls A hx hb hr hlk hml hown hnm hg hl hX hP hK hD hA hS
  obtain ⟨H, hH⟩ : ∃ H : Heap, H = s.heap := ⟨_, rfl⟩
  have hS : va_S A s.heap H [] := by rw [hH]; exact va_S.rf
  rw [← hH] at hP ⊢
  have hown : s.vm.findClass R_cr = some m.cls := hown
  have hl : lv_has ls 1 [(0, .ref ca)] := hl
  refine lv_aload_n hx hb d_cr_dismiss_0 rfl (lv_at hl 0 rfl) ?_
  refine lv_iconst (v := 0) hx hb d_cr_dismiss_1 (by decide) ?_
  refine pf_cr_37 hx hb hg hown hK hP hD hS 0 rfl rfl rfl (Nat.le_of_ble_eq_true rfl) d_cr_dismiss_2 (fun H locs hP hD hS => ?_)
  have hP : va_P D kls [(ca, .inr (0, [.ref cfl, .int 0, .ref cs, .ref cg, .ref cto, .ref cq, .ref cco, .ref cnx]))] H := hP
  have hD : va_D A [(ca, .inr (0, [.ref cfl, .int 0, .ref cs, .ref cg, .ref cto, .ref cq, .ref cco, .ref cnx]))] := hD
  have hP9 := hP
  have hD9 := hD
  exact W.vret hx hb hr (fun t ht hW => ⟨⟨(), rfl, trivial, by rw [ht]; exact hP9, hD9⟩, hS.F ht⟩) hS.2.2 d_cr_dismiss_5

set_option maxHeartbeats 4000000 in
set_option maxRecDepth 100000 in
theorem c_pn_forget (l : Launch) (D : va_G) (cZ cI cJ cII : ClassId) (pa : Nat) (pfl : Nat) (pcr : Nat) (pho : Nat) (pce : Nat) (pse : Nat) (ppl : Nat) (pen : Int32) (psu : Int32) (pnm : Int32) (pkn : Int32) (pfo : Int32) (sz : Nat)  : Met l y_pn_forget w_pn_forget ({ frames := 0, cells := 0, slots := 0, locals := 0 }) (va_Pc [.ref pa] (mt_B D [(cZ, .boolean), (cI, .int), (cJ, .long), (cII, .array .int)] [(pa, .inr (4, [.ref pfl, .ref pcr, .ref pho, .ref pce, .ref pse, .ref ppl, .int pen, .int psu, .int pnm, .int pkn, .int pfo]))] sz)) ((fun A => va_Qv (fun (u : Unit) => True) (fun (u : Unit) (t : State) => mt_O D A [(pa, .inr (4, [.ref pfl, .ref pcr, .ref pho, .ref pce, .ref pse, .ref ppl, .int pen, .int psu, .int 0, .int 0, .int 0]))] t) A) (va_A [(pa, .inr (4, [.ref pfl, .ref pcr, .ref pho, .ref pce, .ref pse, .ref ppl, .int pen, .int psu, .int pnm, .int pkn, .int pfo]))] sz)) 0 0 (va_A [(pa, .inr (4, [.ref pfl, .ref pcr, .ref pho, .ref pce, .ref pse, .ref ppl, .int pen, .int psu, .int pnm, .int pkn, .int pfo]))] sz) := by
  refine mt_of (y := y_pn_forget) (n := 1) (av := [.ref pa]) (QF := (fun A => va_Qv (fun (u : Unit) => True) (fun (u : Unit) (t : State) => mt_O D A [(pa, .inr (4, [.ref pfl, .ref pcr, .ref pho, .ref pce, .ref pse, .ref ppl, .int pen, .int psu, .int 0, .int 0, .int 0]))] t) A)) (by decide) (Nat.le_of_ble_eq_true rfl) ?_
  intro p e s m below meth c ls A hx hb hr hlk hml hown hnm hg hl hX hP hK hD hA hS
  obtain ⟨H, hH⟩ : ∃ H : Heap, H = s.heap := ⟨_, rfl⟩
  have hS : va_S A s.heap H [] := by rw [hH]; exact va_S.rf
  rw [← hH] at hP ⊢
  have hown : s.vm.findClass R_pn = some m.cls := hown
  have hl : lv_has ls 1 [(0, .ref pa)] := hl
  refine lv_aload_n hx hb d_pn_forget_0 rfl (lv_at hl 0 rfl) ?_
  refine lv_iconst (v := 0) hx hb d_pn_forget_1 (by decide) ?_
  refine pf_pn_38 hx hb hg hown hK hP hD hS 0 rfl rfl rfl (Nat.le_of_ble_eq_true rfl) d_pn_forget_2 (fun H locs hP hD hS => ?_)
  have hP : va_P D kls [(pa, .inr (4, [.ref pfl, .ref pcr, .ref pho, .ref pce, .ref pse, .ref ppl, .int pen, .int psu, .int pnm, .int pkn, .int 0]))] H := hP
  have hD : va_D A [(pa, .inr (4, [.ref pfl, .ref pcr, .ref pho, .ref pce, .ref pse, .ref ppl, .int pen, .int psu, .int pnm, .int pkn, .int 0]))] := hD
  refine lv_aload_n hx hb d_pn_forget_5 rfl (lv_at hl 0 rfl) ?_
  refine lv_iconst (v := 0) hx hb d_pn_forget_6 (by decide) ?_
  refine pf_pn_42 hx hb hg hown hK hP hD hS 0 rfl rfl rfl (Nat.le_of_ble_eq_true rfl) d_pn_forget_7 (fun H locs hP hD hS => ?_)
  have hP : va_P D kls [(pa, .inr (4, [.ref pfl, .ref pcr, .ref pho, .ref pce, .ref pse, .ref ppl, .int pen, .int psu, .int pnm, .int 0, .int 0]))] H := hP
  have hD : va_D A [(pa, .inr (4, [.ref pfl, .ref pcr, .ref pho, .ref pce, .ref pse, .ref ppl, .int pen, .int psu, .int pnm, .int 0, .int 0]))] := hD
  refine lv_aload_n hx hb d_pn_forget_10 rfl (lv_at hl 0 rfl) ?_
  refine lv_iconst (v := 0) hx hb d_pn_forget_11 (by decide) ?_
  refine pf_pn_45 hx hb hg hown hK hP hD hS 0 rfl rfl rfl (Nat.le_of_ble_eq_true rfl) d_pn_forget_12 (fun H locs hP hD hS => ?_)
  have hP : va_P D kls [(pa, .inr (4, [.ref pfl, .ref pcr, .ref pho, .ref pce, .ref pse, .ref ppl, .int pen, .int psu, .int 0, .int 0, .int 0]))] H := hP
  have hD : va_D A [(pa, .inr (4, [.ref pfl, .ref pcr, .ref pho, .ref pce, .ref pse, .ref ppl, .int pen, .int psu, .int 0, .int 0, .int 0]))] := hD
  have hP9 := hP
  have hD9 := hD
  exact W.vret hx hb hr (fun t ht hW => ⟨⟨(), rfl, trivial, by rw [ht]; exact hP9, hD9⟩, hS.F ht⟩) hS.2.2 d_pn_forget_15

set_option maxHeartbeats 4000000 in
set_option maxRecDepth 100000 in
theorem c_ar_fillI (l : Launch) (D : va_G) (cZ cI cJ cII : ClassId) (a0 : Nat) (n0 : Nat) (f0 : Nat → Int32) (v : Int32) (sz : Nat) (hn0 : n0 < 2 ^ 31) : Met l y_ar_fillI w_ar_fillI ({ frames := 0, cells := 0, slots := 0, locals := 0 }) (va_Pc [.ref a0, .int v] (mt_B D [(cZ, .boolean), (cI, .int), (cJ, .long), (cII, .array .int)] [(a0, .inl (cI, n0, .inl f0))] sz)) ((fun A => va_Qv (fun (u : (Nat → Int32)) => ∀ j, j < n0 → u j = v) (fun (u : (Nat → Int32)) (t : State) => mt_O D A [(a0, .inl (cI, n0, .inl u))] t) A) (va_A [(a0, .inl (cI, n0, .inl f0))] sz)) 0 0 (va_A [(a0, .inl (cI, n0, .inl f0))] sz) := by
  refine mt_of (y := y_ar_fillI) (n := 4) (av := [.ref a0, .int v]) (QF := (fun A => va_Qv (fun (u : (Nat → Int32)) => ∀ j, j < n0 → u j = v) (fun (u : (Nat → Int32)) (t : State) => mt_O D A [(a0, .inl (cI, n0, .inl u))] t) A)) (by decide) (Nat.le_of_ble_eq_true rfl) ?_
  intro p e s m below meth c ls A hx hb hr hlk hml hown hnm hg hl hX hP hK hD hA hS
  obtain ⟨H, hH⟩ : ∃ H : Heap, H = s.heap := ⟨_, rfl⟩
  have hS : va_S A s.heap H [] := by rw [hH]; exact va_S.rf
  rw [← hH] at hP ⊢
  have hown : s.vm.findClass R_ar = some m.cls := hown
  have hl : lv_has ls 4 [(0, .ref a0), (1, .int v)] := hl
  refine lv_iconst (v := 0) hx hb d_ar_fillI_0 (by decide) ?_
  refine lv_istore_n hx hb d_ar_fillI_1 rfl hl (by decide) rfl (fun ls hl => ?_)
  have hl : lv_has ls 4 [(2, .int 0), (0, .ref a0), (1, .int v)] := hl
  refine lv_aload_n hx hb d_ar_fillI_2 rfl (lv_at hl 1 rfl) ?_
  refine va_alen (v := nI n0) hx hb hK hP 0 1 rfl rfl rfl d_ar_fillI_3 ?_
  refine lv_istore_n hx hb d_ar_fillI_4 rfl hl (by decide) rfl (fun ls hl => ?_)
  have hl : lv_has ls 4 [(3, .int (nI n0)), (2, .int 0), (0, .ref a0), (1, .int v)] := hl
  have hl := lv_sub hl [1, 0, 2, 3] (l' := [(2, .int (nI 0)), (3, .int (nI n0)), (0, .ref a0), (1, .int v)]) (by rw [nI_0]; rfl)
  refine mt_loop (ι := Nat × (Nat → Int32)) (I := fun i ls H locs => i.1 ≤ n0 ∧ (∀ j, j < i.1 → i.2 j = v) ∧ lv_has ls 4 [(2, .int (nI i.1)), (3, .int (nI n0)), (0, .ref a0), (1, .int v)] ∧ va_P D kls [(a0, .inl (cI, n0, .inl (i.2)))] H ∧ va_D A [(a0, .inl (cI, n0, .inl (i.2)))] ∧ va_S A s.heap H locs) (μ := fun i => n0 - i.1) ?_ (0, f0) ls H _ ⟨Nat.zero_le _, fun j h => absurd h (Nat.not_lt_zero _), hl, hP, hD, hS⟩
  clear hl hP hD hS
  intro i ls H locs ⟨hi, hv, hl, hP, hD, hS⟩ ih
  obtain ⟨i, g⟩ := i
  try dsimp only at hi hv hl hP hD ih
  have hl : lv_has ls 4 [(2, .int (nI i)), (3, .int (nI n0)), (0, .ref a0), (1, .int v)] := hl
  have hP : va_P D kls [(a0, .inl (cI, n0, .inl g))] H := hP
  have hD : va_D A [(a0, .inl (cI, n0, .inl g))] := hD
  refine lv_iload_n hx hb d_ar_fillI_5 rfl (lv_at hl 0 rfl) ?_
  refine lv_iload_n hx hb d_ar_fillI_6 rfl (lv_at hl 1 rfl) ?_
  refine lv_icmp_ge hx hb d_ar_fillI_7 rfl (fun g1 => ?_) (fun g1 => ?_)
  ·
    have g2 : i = n0 := by rcases Nat.lt_or_ge i n0 with h | h; exact absurd g1 (nI_ge h hn0); omega
    have hP9 := hP
    have hD9 := hD
    exact W.vret hx hb hr (fun t ht hW => ⟨⟨g, rfl, fun j hj => hv j (by have : j < n0 := hj; omega), by rw [ht]; exact hP9, hD9⟩, hS.F ht⟩) hS.2.2 d_ar_fillI_20
  ·
    have g2 : i < n0 := by rcases Nat.lt_or_ge i n0 with h | h; exact h; exact absurd (nI_le h (by omega)) g1
    refine lv_aload_n hx hb d_ar_fillI_10 rfl (lv_at hl 2 rfl) ?_
    refine lv_iload_n hx hb d_ar_fillI_11 rfl (lv_at hl 0 rfl) ?_
    refine lv_iload_n hx hb d_ar_fillI_12 rfl (lv_at hl 3 rfl) ?_
    refine va_iast hx hb hK hP hD hS 0 1 rfl rfl (vp_in_nI g2 hn0) d_ar_fillI_13 (fun H locs hP hD hS => ?_)
    rw [nI_clamp (show i < 2 ^ 31 by omega)] at hP hD
    have hP : va_P D kls [(a0, .inl (cI, n0, .inl (upd g i v)))] H := hP
    have hD : va_D A [(a0, .inl (cI, n0, .inl (upd g i v)))] := hD
    refine lv_iinc (k := 0) (v := nI (i + 1)) hx hb d_ar_fillI_14 hl rfl ((nI_succ i).symm) (by decide) rfl (fun ls hl => ?_)
    have hl : lv_has ls 4 [(2, .int (nI (i + 1))), (3, .int (nI n0)), (0, .ref a0), (1, .int v)] := hl
    refine lv_goto hx hb d_ar_fillI_17 rfl ?_
    refine ih (i + 1, upd g i v) ls H locs (by show n0 - (i + 1) < n0 - i; omega) ⟨by show i + 1 ≤ n0; omega, ?_, hl, hP, hD, hS⟩
    intro j hj
    show upd g i v j = v
    by_cases e : j = i
    · subst e; exact pk_us
    · rw [pk_un e]; exact hv j (by have : j < i + 1 := hj; omega)

set_option maxHeartbeats 4000000 in
set_option maxRecDepth 100000 in
theorem c_ar_fillJ (l : Launch) (D : va_G) (cZ cI cJ cII : ClassId) (a0 : Nat) (n0 : Nat) (f0 : Nat → Int64) (v : Int64) (sz : Nat) (hn0 : n0 < 2 ^ 31) : Met l y_ar_fillJ w_ar_fillJ ({ frames := 0, cells := 0, slots := 0, locals := 0 }) (va_Pc [.ref a0, .long v] (mt_B D [(cZ, .boolean), (cI, .int), (cJ, .long), (cII, .array .int)] [(a0, .inl (cJ, n0, .inr (.inl f0)))] sz)) ((fun A => va_Qv (fun (u : (Nat → Int64)) => ∀ j, j < n0 → u j = v) (fun (u : (Nat → Int64)) (t : State) => mt_O D A [(a0, .inl (cJ, n0, .inr (.inl u)))] t) A) (va_A [(a0, .inl (cJ, n0, .inr (.inl f0)))] sz)) 0 0 (va_A [(a0, .inl (cJ, n0, .inr (.inl f0)))] sz) := by
  refine mt_of (y := y_ar_fillJ) (n := 5) (av := [.ref a0, .long v]) (QF := (fun A => va_Qv (fun (u : (Nat → Int64)) => ∀ j, j < n0 → u j = v) (fun (u : (Nat → Int64)) (t : State) => mt_O D A [(a0, .inl (cJ, n0, .inr (.inl u)))] t) A)) (by decide) (Nat.le_of_ble_eq_true rfl) ?_
  intro p e s m below meth c ls A hx hb hr hlk hml hown hnm hg hl hX hP hK hD hA hS
  obtain ⟨H, hH⟩ : ∃ H : Heap, H = s.heap := ⟨_, rfl⟩
  have hS : va_S A s.heap H [] := by rw [hH]; exact va_S.rf
  rw [← hH] at hP ⊢
  have hown : s.vm.findClass R_ar = some m.cls := hown
  have hl : lv_has ls 5 [(0, .ref a0), (1, .long v)] := hl
  refine lv_iconst (v := 0) hx hb d_ar_fillJ_0 (by decide) ?_
  refine lv_istore_n hx hb d_ar_fillJ_1 rfl hl (by decide) rfl (fun ls hl => ?_)
  have hl : lv_has ls 5 [(3, .int 0), (0, .ref a0), (1, .long v)] := hl
  refine lv_aload_n hx hb d_ar_fillJ_2 rfl (lv_at hl 1 rfl) ?_
  refine va_alen (v := nI n0) hx hb hK hP 0 2 rfl rfl rfl d_ar_fillJ_3 ?_
  refine lv_istore hx hb d_ar_fillJ_4 hl (by decide) rfl (fun ls hl => ?_)
  have hl : lv_has ls 5 [(4, .int (nI n0)), (3, .int 0), (0, .ref a0), (1, .long v)] := hl
  have hl := lv_sub hl [1, 0, 2, 3] (l' := [(3, .int (nI 0)), (4, .int (nI n0)), (0, .ref a0), (1, .long v)]) (by rw [nI_0]; rfl)
  refine mt_loop (ι := Nat × (Nat → Int64)) (I := fun i ls H locs => i.1 ≤ n0 ∧ (∀ j, j < i.1 → i.2 j = v) ∧ lv_has ls 5 [(3, .int (nI i.1)), (4, .int (nI n0)), (0, .ref a0), (1, .long v)] ∧ va_P D kls [(a0, .inl (cJ, n0, .inr (.inl (i.2))))] H ∧ va_D A [(a0, .inl (cJ, n0, .inr (.inl (i.2))))] ∧ va_S A s.heap H locs) (μ := fun i => n0 - i.1) ?_ (0, f0) ls H _ ⟨Nat.zero_le _, fun j h => absurd h (Nat.not_lt_zero _), hl, hP, hD, hS⟩
  clear hl hP hD hS
  intro i ls H locs ⟨hi, hv, hl, hP, hD, hS⟩ ih
  obtain ⟨i, g⟩ := i
  try dsimp only at hi hv hl hP hD ih
  have hl : lv_has ls 5 [(3, .int (nI i)), (4, .int (nI n0)), (0, .ref a0), (1, .long v)] := hl
  have hP : va_P D kls [(a0, .inl (cJ, n0, .inr (.inl g)))] H := hP
  have hD : va_D A [(a0, .inl (cJ, n0, .inr (.inl g)))] := hD
  refine lv_iload_n hx hb d_ar_fillJ_6 rfl (lv_at hl 0 rfl) ?_
  refine lv_iload hx hb d_ar_fillJ_7 (lv_at hl 1 rfl) ?_
  refine lv_icmp_ge hx hb d_ar_fillJ_9 rfl (fun g1 => ?_) (fun g1 => ?_)
  ·
    have g2 : i = n0 := by rcases Nat.lt_or_ge i n0 with h | h; exact absurd g1 (nI_ge h hn0); omega
    have hP9 := hP
    have hD9 := hD
    exact W.vret hx hb hr (fun t ht hW => ⟨⟨g, rfl, fun j hj => hv j (by have : j < n0 := hj; omega), by rw [ht]; exact hP9, hD9⟩, hS.F ht⟩) hS.2.2 d_ar_fillJ_22
  ·
    have g2 : i < n0 := by rcases Nat.lt_or_ge i n0 with h | h; exact h; exact absurd (nI_le h (by omega)) g1
    refine lv_aload_n hx hb d_ar_fillJ_12 rfl (lv_at hl 2 rfl) ?_
    refine lv_iload_n hx hb d_ar_fillJ_13 rfl (lv_at hl 0 rfl) ?_
    refine lv_lload_n hx hb d_ar_fillJ_14 rfl (lv_at hl 3 rfl) ?_
    refine va_last hx hb hK hP hD hS 0 2 rfl rfl (vp_in_nI g2 hn0) d_ar_fillJ_15 (fun H locs hP hD hS => ?_)
    rw [nI_clamp (show i < 2 ^ 31 by omega)] at hP hD
    have hP : va_P D kls [(a0, .inl (cJ, n0, .inr (.inl (vp_updL g i v))))] H := hP
    have hD : va_D A [(a0, .inl (cJ, n0, .inr (.inl (vp_updL g i v))))] := hD
    refine lv_iinc (k := 0) (v := nI (i + 1)) hx hb d_ar_fillJ_16 hl rfl ((nI_succ i).symm) (by decide) rfl (fun ls hl => ?_)
    have hl : lv_has ls 5 [(3, .int (nI (i + 1))), (4, .int (nI n0)), (0, .ref a0), (1, .long v)] := hl
    refine lv_goto hx hb d_ar_fillJ_19 rfl ?_
    refine ih (i + 1, vp_updL g i v) ls H locs (by show n0 - (i + 1) < n0 - i; omega) ⟨by show i + 1 ≤ n0; omega, ?_, hl, hP, hD, hS⟩
    intro j hj
    show vp_updL g i v j = v
    by_cases e : j = i
    · subst e; exact pk_uLs
    · rw [pk_uLn e]; exact hv j (by have : j < i + 1 := hj; omega)
