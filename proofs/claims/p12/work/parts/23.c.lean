set_option maxHeartbeats 4000000 in
set_option maxRecDepth 100000 in
theorem c_cr_measure (l : Launch) (D : va_G) (cZ cI cJ cII : ClassId) (ca : Nat) (cn : Int32) (cs : Nat) (cg : Nat) (cto : Nat) (cq : Nat) (cco : Nat) (cnx : Nat) (fa : Nat) (fw : Int32) (fh : Int32) (wa : Nat) (fc : Int32) (ra : Nat) (sa : Nat) (ta : Nat) (qf : Nat → Int32) (sf : Nat → Int32) (rr : Nat → Nat) (Ms : Nat → Nat → Int32) (rg : Nat → Nat) (Mg : Nat → Nat → Int32) (W0 : Nat) (N0 : Nat) (wf : Nat → Int32) (rf : Nat → Int32) (k : Nat) (gl : Nat) (sz : Nat) (hN : N0 ≤ 25) (hOk : fx_Ok W0 N0 wf rf sf Ms N0) (hk : k < 5) (hgl : fx_fr N0 wf gl) : Met l y_cr_measure w_cr_measure ({ frames := 1, cells := 0, slots := 0, locals := 40 }) (va_Pc [.ref ca, .int (nI gl), .ref (rg k)] (mt_B D [(cZ, .boolean), (cI, .int), (cJ, .long), (cII, .array .int)] (([(ca, .inr (0, [.ref fa, .int cn, .ref cs, .ref cg, .ref cto, .ref cq, .ref cco, .ref cnx])), (fa, .inr (1, [.int fw, .int fh, .ref wa, .int fc, .ref ra, .ref sa, .ref ta])), (cq, .inl (cI, 25, .inl qf)), (sa, .inl (cI, 25, .inl sf)), (ta, .inl (cII, 25, .inr (.inr (.inr (.inr (fun i => if i < 25 then some (rr i) else none)))))), (cto, .inl (cII, 5, .inr (.inr (.inr (.inr (fun i => if i < 5 then some (rg i) else none))))))] ++ mt_rw 25 rr (fun i => .inl (cI, 5, .inl (Ms i)))) ++ mt_rw 5 rg (fun i => .inl (cI, 25, .inl (Mg i)))) sz)) ((fun A => va_Qv (fun (u : (Nat → Int32) × (Nat → Nat → Int32)) => (∀ a, a ≠ k → (u.2) a = Mg a) ∧ wy_Ok (fx_fr N0 wf) (fx_nb sf Ms) gl ((u.2) k)) (fun (u : (Nat → Int32) × (Nat → Nat → Int32)) (t : State) => mt_O D A (([(ca, .inr (0, [.ref fa, .int cn, .ref cs, .ref cg, .ref cto, .ref cq, .ref cco, .ref cnx])), (fa, .inr (1, [.int fw, .int fh, .ref wa, .int fc, .ref ra, .ref sa, .ref ta])), (cq, .inl (cI, 25, .inl (u.1))), (sa, .inl (cI, 25, .inl sf)), (ta, .inl (cII, 25, .inr (.inr (.inr (.inr (fun i => if i < 25 then some (rr i) else none)))))), (cto, .inl (cII, 5, .inr (.inr (.inr (.inr (fun i => if i < 5 then some (rg i) else none))))))] ++ mt_rw 25 rr (fun i => .inl (cI, 5, .inl (Ms i)))) ++ mt_rw 5 rg (fun i => .inl (cI, 25, .inl ((u.2) i)))) t) A) (va_A (([(ca, .inr (0, [.ref fa, .int cn, .ref cs, .ref cg, .ref cto, .ref cq, .ref cco, .ref cnx])), (fa, .inr (1, [.int fw, .int fh, .ref wa, .int fc, .ref ra, .ref sa, .ref ta])), (cq, .inl (cI, 25, .inl qf)), (sa, .inl (cI, 25, .inl sf)), (ta, .inl (cII, 25, .inr (.inr (.inr (.inr (fun i => if i < 25 then some (rr i) else none)))))), (cto, .inl (cII, 5, .inr (.inr (.inr (.inr (fun i => if i < 5 then some (rg i) else none))))))] ++ mt_rw 25 rr (fun i => .inl (cI, 5, .inl (Ms i)))) ++ mt_rw 5 rg (fun i => .inl (cI, 25, .inl (Mg i)))) sz)) 0 0 (va_A (([(ca, .inr (0, [.ref fa, .int cn, .ref cs, .ref cg, .ref cto, .ref cq, .ref cco, .ref cnx])), (fa, .inr (1, [.int fw, .int fh, .ref wa, .int fc, .ref ra, .ref sa, .ref ta])), (cq, .inl (cI, 25, .inl qf)), (sa, .inl (cI, 25, .inl sf)), (ta, .inl (cII, 25, .inr (.inr (.inr (.inr (fun i => if i < 25 then some (rr i) else none)))))), (cto, .inl (cII, 5, .inr (.inr (.inr (.inr (fun i => if i < 5 then some (rg i) else none))))))] ++ mt_rw 25 rr (fun i => .inl (cI, 5, .inl (Ms i)))) ++ mt_rw 5 rg (fun i => .inl (cI, 25, .inl (Mg i)))) sz) := by
  refine mt_of (y := y_cr_measure) (n := 8) (av := [.ref ca, .int (nI gl), .ref (rg k)]) (QF := (fun A => va_Qv (fun (u : (Nat → Int32) × (Nat → Nat → Int32)) => (∀ a, a ≠ k → (u.2) a = Mg a) ∧ wy_Ok (fx_fr N0 wf) (fx_nb sf Ms) gl ((u.2) k)) (fun (u : (Nat → Int32) × (Nat → Nat → Int32)) (t : State) => mt_O D A (([(ca, .inr (0, [.ref fa, .int cn, .ref cs, .ref cg, .ref cto, .ref cq, .ref cco, .ref cnx])), (fa, .inr (1, [.int fw, .int fh, .ref wa, .int fc, .ref ra, .ref sa, .ref ta])), (cq, .inl (cI, 25, .inl (u.1))), (sa, .inl (cI, 25, .inl sf)), (ta, .inl (cII, 25, .inr (.inr (.inr (.inr (fun i => if i < 25 then some (rr i) else none)))))), (cto, .inl (cII, 5, .inr (.inr (.inr (.inr (fun i => if i < 5 then some (rg i) else none))))))] ++ mt_rw 25 rr (fun i => .inl (cI, 5, .inl (Ms i)))) ++ mt_rw 5 rg (fun i => .inl (cI, 25, .inl ((u.2) i)))) t) A)) (by decide) (Nat.le_of_ble_eq_true rfl) ?_
  intro p e s m below meth c ls A hx hb hr hlk hml hown hnm hg hl hX hP hK hD hA hS
  obtain ⟨H, hH⟩ : ∃ H : Heap, H = s.heap := ⟨_, rfl⟩
  have hS : va_S A s.heap H [] := by rw [hH]; exact va_S.rf
  rw [← hH] at hP ⊢
  have hown : s.vm.findClass R_cr = some m.cls := hown
  have hl : lv_has ls 8 [(0, .ref ca), (1, .int (nI gl)), (2, .ref (rg k))] := hl
  have hgl25 : gl < 25 := by have := hgl.1; omega
  refine lv_aload_n hx hb d_cr_measure_0 rfl (lv_at hl 2 rfl) ?_
  refine lv_iconst (v := (-1)) hx hb d_cr_measure_1 (by decide) ?_
  have hPc := hP.sub (ws' := ([(cto, .inl (cII, 5, .inr (.inr (.inr (.inr (fun i => if i < 5 then some (rg i) else none))))))] ++ mt_rw 5 rg (fun i => .inl (cI, 25, .inl (Mg i))))) [5, 31, 32, 33, 34, 35] rfl
  have hDc := hD.sub (ws' := ([(cto, .inl (cII, 5, .inr (.inr (.inr (.inr (fun i => if i < 5 then some (rg i) else none))))))] ++ mt_rw 5 rg (fun i => .inl (cI, 25, .inl (Mg i))))) [5, 31, 32, 33, 34, 35] (by decide) rfl
  have hFc := va_free (wc := ([(cto, .inl (cII, 5, .inr (.inr (.inr (.inr (fun i => if i < 5 then some (rg i) else none))))))] ++ mt_rw 5 rg (fun i => .inl (cI, 25, .inl (Mg i))))) hD hS hA [5, 31, 32, 33, 34, 35] rfl
  refine va_callv (va_runS (As := [.ref (rg k), .int (-1)]) (rest := []) ⟨hx, hb, hml, hown, hg⟩ (c_ar_fillR l D cZ cI cJ cII _ rg Mg k (-1) H.size hk) ⟨callB_of 2 hg gg_cr_77 rfl rfl rfl (hg _ gi_cr_77) (hg _ gl_cr_77) (by decide +kernel) ⟨Nat.le_of_ble_eq_true rfl, Nat.le_of_ble_eq_true rfl⟩, hg _ gt_cr_77⟩ ⟨mt_bl, mt_pr hX hPc hK hDc⟩ rfl rfl hl.1 rfl (lv_room (Nat.le_of_ble_eq_true rfl)) d_cr_measure_2 ⟨Nat.le_of_ble_eq_true rfl, Nat.le_of_ble_eq_true rfl⟩) hS (fun q _ h => hFc q h) hFc (fun u t H1 locs ht hvm hw hB hz1 hk1 hS => ?_)
  obtain ⟨Mg12, rfl⟩ : ∃ z, z = u := ⟨_, rfl⟩
  have hr1 : (∀ j, j < 25 → Mg12 k j = ((-1) : Int32)) ∧ ∀ a, a ≠ k → Mg12 a = Mg a := hw
  obtain ⟨hP1, hD1⟩ := hB
  rw [ht] at hP1
  obtain ⟨hP, hD⟩ := va_join (wr := ([(ca, .inr (0, [.ref fa, .int cn, .ref cs, .ref cg, .ref cto, .ref cq, .ref cco, .ref cnx])), (fa, .inr (1, [.int fw, .int fh, .ref wa, .int fc, .ref ra, .ref sa, .ref ta])), (cq, .inl (cI, 25, .inl qf)), (sa, .inl (cI, 25, .inl sf)), (ta, .inl (cII, 25, .inr (.inr (.inr (.inr (fun i => if i < 25 then some (rr i) else none))))))] ++ mt_rw 25 rr (fun i => .inl (cI, 5, .inl (Ms i))))) (w1 := ([(cto, .inl (cII, 5, .inr (.inr (.inr (.inr (fun i => if i < 5 then some (rg i) else none))))))] ++ mt_rw 5 rg (fun i => .inl (cI, 25, .inl (Mg12 i))))) hP hD [5, 31, 32, 33, 34, 35] [0, 1, 2, 3, 4, 6, 7, 8, 9, 10, 11, 12, 13, 14, 15, 16, 17, 18, 19, 20, 21, 22, 23, 24, 25, 26, 27, 28, 29, 30] rfl rfl (by decide) (by decide) hk1 hFc hP1 hD1
  generalize H1 = H at hP hS ⊢
  have hP : va_P D kls ((([(ca, .inr (0, [.ref fa, .int cn, .ref cs, .ref cg, .ref cto, .ref cq, .ref cco, .ref cnx])), (fa, .inr (1, [.int fw, .int fh, .ref wa, .int fc, .ref ra, .ref sa, .ref ta])), (cq, .inl (cI, 25, .inl qf)), (sa, .inl (cI, 25, .inl sf)), (ta, .inl (cII, 25, .inr (.inr (.inr (.inr (fun i => if i < 25 then some (rr i) else none))))))] ++ mt_rw 25 rr (fun i => .inl (cI, 5, .inl (Ms i)))) ++ [(cto, .inl (cII, 5, .inr (.inr (.inr (.inr (fun i => if i < 5 then some (rg i) else none))))))]) ++ mt_rw 5 rg (fun i => .inl (cI, 25, .inl (Mg12 i)))) H := hP
  have hD : va_D A ((([(ca, .inr (0, [.ref fa, .int cn, .ref cs, .ref cg, .ref cto, .ref cq, .ref cco, .ref cnx])), (fa, .inr (1, [.int fw, .int fh, .ref wa, .int fc, .ref ra, .ref sa, .ref ta])), (cq, .inl (cI, 25, .inl qf)), (sa, .inl (cI, 25, .inl sf)), (ta, .inl (cII, 25, .inr (.inr (.inr (.inr (fun i => if i < 25 then some (rr i) else none))))))] ++ mt_rw 25 rr (fun i => .inl (cI, 5, .inl (Ms i)))) ++ [(cto, .inl (cII, 5, .inr (.inr (.inr (.inr (fun i => if i < 5 then some (rg i) else none))))))]) ++ mt_rw 5 rg (fun i => .inl (cI, 25, .inl (Mg12 i)))) := hD
  have a9 := hr1
  refine lv_aload_n hx hb d_cr_measure_5 rfl (lv_at hl 2 rfl) ?_
  refine lv_iload_n hx hb d_cr_measure_6 rfl (lv_at hl 1 rfl) ?_
  refine lv_iconst (v := 0) hx hb d_cr_measure_7 (by decide) ?_
  refine va_iast hx hb hK hP hD hS (31 + k) 1 (mt_rw_at rfl hk) rfl (vp_in_nI hgl25 (by decide)) d_cr_measure_8 (fun H locs hP hD hS => ?_)
  rw [mt_rw_set (x := 31) rfl, mt_rw_row, nI_clamp (show gl < 2 ^ 31 by omega)] at hP hD
  have hP : va_P D kls ((([(ca, .inr (0, [.ref fa, .int cn, .ref cs, .ref cg, .ref cto, .ref cq, .ref cco, .ref cnx])), (fa, .inr (1, [.int fw, .int fh, .ref wa, .int fc, .ref ra, .ref sa, .ref ta])), (cq, .inl (cI, 25, .inl qf)), (sa, .inl (cI, 25, .inl sf)), (ta, .inl (cII, 25, .inr (.inr (.inr (.inr (fun i => if i < 25 then some (rr i) else none))))))] ++ mt_rw 25 rr (fun i => .inl (cI, 5, .inl (Ms i)))) ++ [(cto, .inl (cII, 5, .inr (.inr (.inr (.inr (fun i => if i < 5 then some (rg i) else none))))))]) ++ mt_rw 5 rg (fun i => .inl (cI, 25, .inl ((va_up Mg12 k (upd (Mg12 k) gl 0)) i)))) H := hP
  have hD : va_D A ((([(ca, .inr (0, [.ref fa, .int cn, .ref cs, .ref cg, .ref cto, .ref cq, .ref cco, .ref cnx])), (fa, .inr (1, [.int fw, .int fh, .ref wa, .int fc, .ref ra, .ref sa, .ref ta])), (cq, .inl (cI, 25, .inl qf)), (sa, .inl (cI, 25, .inl sf)), (ta, .inl (cII, 25, .inr (.inr (.inr (.inr (fun i => if i < 25 then some (rr i) else none))))))] ++ mt_rw 25 rr (fun i => .inl (cI, 5, .inl (Ms i)))) ++ [(cto, .inl (cII, 5, .inr (.inr (.inr (.inr (fun i => if i < 5 then some (rg i) else none))))))]) ++ mt_rw 5 rg (fun i => .inl (cI, 25, .inl ((va_up Mg12 k (upd (Mg12 k) gl 0)) i)))) := hD
  obtain ⟨G0, hG0⟩ : ∃ M9 : Nat → Nat → Int32, M9 = va_up Mg12 k (upd (Mg12 k) gl 0) := ⟨_, rfl⟩
  rw [← hG0] at hP hD
  have hP : va_P D kls ((([(ca, .inr (0, [.ref fa, .int cn, .ref cs, .ref cg, .ref cto, .ref cq, .ref cco, .ref cnx])), (fa, .inr (1, [.int fw, .int fh, .ref wa, .int fc, .ref ra, .ref sa, .ref ta])), (cq, .inl (cI, 25, .inl qf)), (sa, .inl (cI, 25, .inl sf)), (ta, .inl (cII, 25, .inr (.inr (.inr (.inr (fun i => if i < 25 then some (rr i) else none))))))] ++ mt_rw 25 rr (fun i => .inl (cI, 5, .inl (Ms i)))) ++ [(cto, .inl (cII, 5, .inr (.inr (.inr (.inr (fun i => if i < 5 then some (rg i) else none))))))]) ++ mt_rw 5 rg (fun i => .inl (cI, 25, .inl (G0 i)))) H := hP
  have hD : va_D A ((([(ca, .inr (0, [.ref fa, .int cn, .ref cs, .ref cg, .ref cto, .ref cq, .ref cco, .ref cnx])), (fa, .inr (1, [.int fw, .int fh, .ref wa, .int fc, .ref ra, .ref sa, .ref ta])), (cq, .inl (cI, 25, .inl qf)), (sa, .inl (cI, 25, .inl sf)), (ta, .inl (cII, 25, .inr (.inr (.inr (.inr (fun i => if i < 25 then some (rr i) else none))))))] ++ mt_rw 25 rr (fun i => .inl (cI, 5, .inl (Ms i)))) ++ [(cto, .inl (cII, 5, .inr (.inr (.inr (.inr (fun i => if i < 5 then some (rg i) else none))))))]) ++ mt_rw 5 rg (fun i => .inl (cI, 25, .inl (G0 i)))) := hD
  have hG0k : G0 k = upd (Mg12 k) gl 0 := by rw [hG0]; exact mt_rowup
  have ho0 : ∀ a, a ≠ k → G0 a = Mg a := fun a ha => by rw [hG0, mt_rowne ha]; exact a9.2 a ha
  have hI0 := bf_start (nb := fx_nb sf Ms) (qf := qf) hgl a9.1
  rw [nI_0, ← hG0k] at hI0
  refine lv_aload_n hx hb d_cr_measure_9 rfl (lv_at hl 0 rfl) ?_
  refine gf_cr_23 hx hb hg hown hK hP 0 rfl rfl d_cr_measure_10 ?_
  refine lv_iconst (v := 0) hx hb d_cr_measure_13 (by decide) ?_
  refine lv_iload_n hx hb d_cr_measure_14 rfl (lv_at hl 1 rfl) ?_
  refine va_iast hx hb hK hP hD hS 2 1 rfl rfl (by unfold vp_in; decide) d_cr_measure_15 (fun H locs hP hD hS => ?_)
  have hP : va_P D kls ((([(ca, .inr (0, [.ref fa, .int cn, .ref cs, .ref cg, .ref cto, .ref cq, .ref cco, .ref cnx])), (fa, .inr (1, [.int fw, .int fh, .ref wa, .int fc, .ref ra, .ref sa, .ref ta])), (cq, .inl (cI, 25, .inl (upd qf 0 (nI gl)))), (sa, .inl (cI, 25, .inl sf)), (ta, .inl (cII, 25, .inr (.inr (.inr (.inr (fun i => if i < 25 then some (rr i) else none))))))] ++ mt_rw 25 rr (fun i => .inl (cI, 5, .inl (Ms i)))) ++ [(cto, .inl (cII, 5, .inr (.inr (.inr (.inr (fun i => if i < 5 then some (rg i) else none))))))]) ++ mt_rw 5 rg (fun i => .inl (cI, 25, .inl (G0 i)))) H := hP
  have hD : va_D A ((([(ca, .inr (0, [.ref fa, .int cn, .ref cs, .ref cg, .ref cto, .ref cq, .ref cco, .ref cnx])), (fa, .inr (1, [.int fw, .int fh, .ref wa, .int fc, .ref ra, .ref sa, .ref ta])), (cq, .inl (cI, 25, .inl (upd qf 0 (nI gl)))), (sa, .inl (cI, 25, .inl sf)), (ta, .inl (cII, 25, .inr (.inr (.inr (.inr (fun i => if i < 25 then some (rr i) else none))))))] ++ mt_rw 25 rr (fun i => .inl (cI, 5, .inl (Ms i)))) ++ [(cto, .inl (cII, 5, .inr (.inr (.inr (.inr (fun i => if i < 5 then some (rg i) else none))))))]) ++ mt_rw 5 rg (fun i => .inl (cI, 25, .inl (G0 i)))) := hD
  refine lv_iconst (v := 1) hx hb d_cr_measure_16 (by decide) ?_
  refine lv_istore_n hx hb d_cr_measure_17 rfl hl (by decide) rfl (fun ls hl => ?_)
  have hl : lv_has ls 8 [(3, .int 1), (0, .ref ca), (1, .int (nI gl)), (2, .ref (rg k))] := hl
  refine lv_iconst (v := 0) hx hb d_cr_measure_18 (by decide) ?_
  refine lv_istore hx hb d_cr_measure_19 hl (by decide) rfl (fun ls hl => ?_)
  have hl : lv_has ls 8 [(4, .int 0), (3, .int 1), (0, .ref ca), (1, .int (nI gl)), (2, .ref (rg k))] := hl
  have hl := lv_sub hl [0, 1, 2, 3, 4] (l' := [(4, .int (nI 0)), (3, .int (nI 1)), (0, .ref ca), (1, .int (nI gl)), (2, .ref (rg k))]) rfl
  have hP := hP.sub (ws' := (([(ca, .inr (0, [.ref fa, .int cn, .ref cs, .ref cg, .ref cto, .ref cq, .ref cco, .ref cnx])), (fa, .inr (1, [.int fw, .int fh, .ref wa, .int fc, .ref ra, .ref sa, .ref ta])), (cq, .inl (cI, 25, .inl (upd qf 0 (nI gl)))), (sa, .inl (cI, 25, .inl sf)), (ta, .inl (cII, 25, .inr (.inr (.inr (.inr (fun i => if i < 25 then some (rr i) else none)))))), (cto, .inl (cII, 5, .inr (.inr (.inr (.inr (fun i => if i < 5 then some (rg i) else none))))))] ++ mt_rw 25 rr (fun i => .inl (cI, 5, .inl (Ms i)))) ++ mt_rw 5 rg (fun i => .inl (cI, 25, .inl (G0 i))))) [0, 1, 2, 3, 4, 30, 5, 6, 7, 8, 9, 10, 11, 12, 13, 14, 15, 16, 17, 18, 19, 20, 21, 22, 23, 24, 25, 26, 27, 28, 29, 31, 32, 33, 34, 35] rfl
  have hD := hD.sub (ws' := (([(ca, .inr (0, [.ref fa, .int cn, .ref cs, .ref cg, .ref cto, .ref cq, .ref cco, .ref cnx])), (fa, .inr (1, [.int fw, .int fh, .ref wa, .int fc, .ref ra, .ref sa, .ref ta])), (cq, .inl (cI, 25, .inl (upd qf 0 (nI gl)))), (sa, .inl (cI, 25, .inl sf)), (ta, .inl (cII, 25, .inr (.inr (.inr (.inr (fun i => if i < 25 then some (rr i) else none)))))), (cto, .inl (cII, 5, .inr (.inr (.inr (.inr (fun i => if i < 5 then some (rg i) else none))))))] ++ mt_rw 25 rr (fun i => .inl (cI, 5, .inl (Ms i)))) ++ mt_rw 5 rg (fun i => .inl (cI, 25, .inl (G0 i))))) [0, 1, 2, 3, 4, 30, 5, 6, 7, 8, 9, 10, 11, 12, 13, 14, 15, 16, 17, 18, 19, 20, 21, 22, 23, 24, 25, 26, 27, 28, 29, 31, 32, 33, 34, 35] (by decide) rfl
  refine mt_loop (ι := Nat × Nat × (Nat → Nat) × (Nat → Nat) × (Nat → Int32) × (Nat → Nat → Int32)) (I := fun ix ls H locs => (bf_I (fx_fr N0 wf) (fx_nb sf Ms) gl (ix.1) (ix.2.1) (ix.2.2.1) (ix.2.2.2.1) (ix.2.2.2.2.1) ((ix.2.2.2.2.2) k)) ∧ (∀ a, a ≠ k → (ix.2.2.2.2.2) a = Mg a) ∧ ((ix.1) ≤ (ix.2.1)) ∧ ((ix.2.1) ≤ 25) ∧ lv_has ls 8 [(4, .int (nI (ix.1))), (3, .int (nI (ix.2.1))), (0, .ref ca), (1, .int (nI gl)), (2, .ref (rg k))] ∧ va_P D kls (([(ca, .inr (0, [.ref fa, .int cn, .ref cs, .ref cg, .ref cto, .ref cq, .ref cco, .ref cnx])), (fa, .inr (1, [.int fw, .int fh, .ref wa, .int fc, .ref ra, .ref sa, .ref ta])), (cq, .inl (cI, 25, .inl (ix.2.2.2.2.1))), (sa, .inl (cI, 25, .inl sf)), (ta, .inl (cII, 25, .inr (.inr (.inr (.inr (fun i => if i < 25 then some (rr i) else none)))))), (cto, .inl (cII, 5, .inr (.inr (.inr (.inr (fun i => if i < 5 then some (rg i) else none))))))] ++ mt_rw 25 rr (fun i => .inl (cI, 5, .inl (Ms i)))) ++ mt_rw 5 rg (fun i => .inl (cI, 25, .inl ((ix.2.2.2.2.2) i)))) H ∧ va_D A (([(ca, .inr (0, [.ref fa, .int cn, .ref cs, .ref cg, .ref cto, .ref cq, .ref cco, .ref cnx])), (fa, .inr (1, [.int fw, .int fh, .ref wa, .int fc, .ref ra, .ref sa, .ref ta])), (cq, .inl (cI, 25, .inl (ix.2.2.2.2.1))), (sa, .inl (cI, 25, .inl sf)), (ta, .inl (cII, 25, .inr (.inr (.inr (.inr (fun i => if i < 25 then some (rr i) else none)))))), (cto, .inl (cII, 5, .inr (.inr (.inr (.inr (fun i => if i < 5 then some (rg i) else none))))))] ++ mt_rw 25 rr (fun i => .inl (cI, 5, .inl (Ms i)))) ++ mt_rw 5 rg (fun i => .inl (cI, 25, .inl ((ix.2.2.2.2.2) i)))) ∧ va_S A s.heap H locs) (μ := fun ix => 25 - (ix.1)) ?_ (0, 1, fun _ => gl, fun _ => 0, upd qf 0 (nI gl), G0) ls H _ ⟨hI0, ho0, Nat.le_of_ble_eq_true rfl, Nat.le_of_ble_eq_true rfl, hl, hP, hD, hS⟩
  clear hl hP hD hS
  intro i_a ls H locs ⟨hI, ho, hx9, hzb, hl, hP, hD, hS⟩ ih_a
  obtain ⟨x, z, q, lv, qv, G⟩ := i_a
  have hI : bf_I (fx_fr N0 wf) (fx_nb sf Ms) gl x z q lv qv (G k) := hI
  have ho : ∀ a, a ≠ k → G a = Mg a := ho
  have hx9 : x ≤ z := hx9
  have hzb : z ≤ 25 := hzb
  have hl : lv_has ls 8 [(4, .int (nI x)), (3, .int (nI z)), (0, .ref ca), (1, .int (nI gl)), (2, .ref (rg k))] := hl
  have hP : va_P D kls (([(ca, .inr (0, [.ref fa, .int cn, .ref cs, .ref cg, .ref cto, .ref cq, .ref cco, .ref cnx])), (fa, .inr (1, [.int fw, .int fh, .ref wa, .int fc, .ref ra, .ref sa, .ref ta])), (cq, .inl (cI, 25, .inl qv)), (sa, .inl (cI, 25, .inl sf)), (ta, .inl (cII, 25, .inr (.inr (.inr (.inr (fun i => if i < 25 then some (rr i) else none)))))), (cto, .inl (cII, 5, .inr (.inr (.inr (.inr (fun i => if i < 5 then some (rg i) else none))))))] ++ mt_rw 25 rr (fun i => .inl (cI, 5, .inl (Ms i)))) ++ mt_rw 5 rg (fun i => .inl (cI, 25, .inl (G i)))) H := hP
  have hD : va_D A (([(ca, .inr (0, [.ref fa, .int cn, .ref cs, .ref cg, .ref cto, .ref cq, .ref cco, .ref cnx])), (fa, .inr (1, [.int fw, .int fh, .ref wa, .int fc, .ref ra, .ref sa, .ref ta])), (cq, .inl (cI, 25, .inl qv)), (sa, .inl (cI, 25, .inl sf)), (ta, .inl (cII, 25, .inr (.inr (.inr (.inr (fun i => if i < 25 then some (rr i) else none)))))), (cto, .inl (cII, 5, .inr (.inr (.inr (.inr (fun i => if i < 5 then some (rg i) else none))))))] ++ mt_rw 25 rr (fun i => .inl (cI, 5, .inl (Ms i)))) ++ mt_rw 5 rg (fun i => .inl (cI, 25, .inl (G i)))) := hD
  refine lv_iload hx hb d_cr_measure_21 (lv_at hl 0 rfl) ?_
  refine lv_iload_n hx hb d_cr_measure_23 rfl (lv_at hl 1 rfl) ?_
  refine lv_icmp_ge hx hb d_cr_measure_24 rfl (fun g1 => ?_) (fun g1 => ?_)
  ·
    have g2 : z ≤ x := by rcases Nat.lt_or_ge x z with h | h; exact absurd g1 (nI_ge (b := z) h (by omega)); exact h
    have hzz := bf_z (fun c (h : fx_fr N0 wf c) => Nat.lt_of_lt_of_le h.1 hN) hI
    have hP9 := hP
    have hD9 := hD
    exact W.vret hx hb hr (fun t ht hW => ⟨⟨(qv, G), rfl, ⟨ho, bf_end (fun c (h : fx_fr N0 wf c) => Nat.lt_of_lt_of_le h.1 hN) hI (by omega)⟩, by rw [ht]; exact hP9, hD9⟩, hS.F ht⟩) hS.2.2 d_cr_measure_117
  ·
    have g1z0 : x < z := by rcases Nat.lt_or_ge x z with h | h; exact h; exact absurd (nI_le (a := z) h (by omega)) g1
    have hz25 := bf_z (fun c (h : fx_fr N0 wf c) => Nat.lt_of_lt_of_le h.1 hN) hI
    refine lv_iload hx hb d_cr_measure_27 (lv_at hl 0 rfl) ?_
    refine lv_bipush (v := 25) hx hb d_cr_measure_29 (by decide) ?_
    refine lv_icmp_ge hx hb d_cr_measure_31 rfl (fun h => absurd h (fun h => nI_ge (b := 25) (show x < 25 by omega) (by decide) h)) (fun _ => ?_)
    have hq := hI.2.1 x g1z0
    have hqx : q x < N0 := hq.2.1.1
    obtain ⟨cnt, hcnt, hsc, hst⟩ := fx_steps hOk hq.2.1
    refine lv_aload_n hx hb d_cr_measure_34 rfl (lv_at hl 2 rfl) ?_
    refine gf_cr_23 hx hb hg hown hK hP 0 rfl rfl d_cr_measure_35 ?_
    refine lv_iload hx hb d_cr_measure_38 (lv_at hl 0 rfl) ?_
    refine va_iald hx hb hK hP 2 1 rfl rfl (vp_in_nI (show x < 25 by omega) (by decide)) d_cr_measure_40 ?_
    refine lv_topi (fun y3 ey3 => ?_)
    have ey3 : y3 = nI (q x) := ey3.trans (by rw [nI_clamp (show x < 2 ^ 31 by omega)]; exact hq.1)
    subst ey3
    refine lv_istore hx hb d_cr_measure_41 hl (by decide) rfl (fun ls hl => ?_)
    have hl : lv_has ls 8 [(5, .int (nI (q x))), (4, .int (nI x)), (3, .int (nI z)), (0, .ref ca), (1, .int (nI gl)), (2, .ref (rg k))] := hl
    refine lv_iconst (v := 0) hx hb d_cr_measure_43 (by decide) ?_
    refine lv_istore hx hb d_cr_measure_44 hl (by decide) rfl (fun ls hl => ?_)
    have hl : lv_has ls 8 [(6, .int 0), (5, .int (nI (q x))), (4, .int (nI x)), (3, .int (nI z)), (0, .ref ca), (1, .int (nI gl)), (2, .ref (rg k))] := hl
    have hl := lv_sub hl [0, 3, 4, 5, 6, 2, 1] (l' := [(6, .int (nI 0)), (3, .int (nI z)), (0, .ref ca), (1, .int (nI gl)), (2, .ref (rg k)), (4, .int (nI x)), (5, .int (nI (q x)))]) rfl
    refine mt_loop (ι := Nat × Nat × (Nat → Nat) × (Nat → Nat) × (Nat → Int32) × (Nat → Nat → Int32)) (I := fun ix ls H locs => ((ix.1) ≤ cnt) ∧ (bf_I (fx_fr N0 wf) (fx_nb sf Ms) gl x (ix.2.1) (ix.2.2.1) (ix.2.2.2.1) (ix.2.2.2.2.1) ((ix.2.2.2.2.2) k)) ∧ (∀ a, a ≠ k → (ix.2.2.2.2.2) a = Mg a) ∧ ((ix.2.2.1) x = q x) ∧ (∀ i b, i < (ix.1) → Ms (q x) i = nI b → b < 25 → ∃ j, j < (ix.2.1) ∧ (ix.2.2.1) j = b ∧ (ix.2.2.2.1) j ≤ (ix.2.2.2.1) x + 1) ∧ (x < (ix.2.1)) ∧ lv_has ls 8 [(6, .int (nI (ix.1))), (3, .int (nI (ix.2.1))), (0, .ref ca), (1, .int (nI gl)), (2, .ref (rg k)), (4, .int (nI x)), (5, .int (nI (q x)))] ∧ va_P D kls (([(ca, .inr (0, [.ref fa, .int cn, .ref cs, .ref cg, .ref cto, .ref cq, .ref cco, .ref cnx])), (fa, .inr (1, [.int fw, .int fh, .ref wa, .int fc, .ref ra, .ref sa, .ref ta])), (cq, .inl (cI, 25, .inl (ix.2.2.2.2.1))), (sa, .inl (cI, 25, .inl sf)), (ta, .inl (cII, 25, .inr (.inr (.inr (.inr (fun i => if i < 25 then some (rr i) else none)))))), (cto, .inl (cII, 5, .inr (.inr (.inr (.inr (fun i => if i < 5 then some (rg i) else none))))))] ++ mt_rw 25 rr (fun i => .inl (cI, 5, .inl (Ms i)))) ++ mt_rw 5 rg (fun i => .inl (cI, 25, .inl ((ix.2.2.2.2.2) i)))) H ∧ va_D A (([(ca, .inr (0, [.ref fa, .int cn, .ref cs, .ref cg, .ref cto, .ref cq, .ref cco, .ref cnx])), (fa, .inr (1, [.int fw, .int fh, .ref wa, .int fc, .ref ra, .ref sa, .ref ta])), (cq, .inl (cI, 25, .inl (ix.2.2.2.2.1))), (sa, .inl (cI, 25, .inl sf)), (ta, .inl (cII, 25, .inr (.inr (.inr (.inr (fun i => if i < 25 then some (rr i) else none)))))), (cto, .inl (cII, 5, .inr (.inr (.inr (.inr (fun i => if i < 5 then some (rg i) else none))))))] ++ mt_rw 25 rr (fun i => .inl (cI, 5, .inl (Ms i)))) ++ mt_rw 5 rg (fun i => .inl (cI, 25, .inl ((ix.2.2.2.2.2) i)))) ∧ va_S A s.heap H locs) (μ := fun ix => cnt - (ix.1)) ?_ (0, z, q, lv, qv, G) ls H _ ⟨Nat.zero_le _, hI, ho, rfl, fun i b h => absurd h (Nat.not_lt_zero _), g1z0, hl, hP, hD, hS⟩
    clear hl hP hD hS
    intro i_b ls H locs ⟨hii, hI2, ho2, hq2, hd2, hz2, hl, hP, hD, hS⟩ ih_b
    obtain ⟨ii, z2, q2, lv2, qv2, G2⟩ := i_b
    have hii : ii ≤ cnt := hii
    have hI2 : bf_I (fx_fr N0 wf) (fx_nb sf Ms) gl x z2 q2 lv2 qv2 (G2 k) := hI2
    have ho2 : ∀ a, a ≠ k → G2 a = Mg a := ho2
    have hq2 : q2 x = q x := hq2
    have hd2 : ∀ i b, i < ii → Ms (q x) i = nI b → b < 25 → ∃ j, j < z2 ∧ q2 j = b ∧ lv2 j ≤ lv2 x + 1 := hd2
    have hz2 : x < z2 := hz2
    have hl : lv_has ls 8 [(6, .int (nI ii)), (3, .int (nI z2)), (0, .ref ca), (1, .int (nI gl)), (2, .ref (rg k)), (4, .int (nI x)), (5, .int (nI (q x)))] := hl
    have hP : va_P D kls (([(ca, .inr (0, [.ref fa, .int cn, .ref cs, .ref cg, .ref cto, .ref cq, .ref cco, .ref cnx])), (fa, .inr (1, [.int fw, .int fh, .ref wa, .int fc, .ref ra, .ref sa, .ref ta])), (cq, .inl (cI, 25, .inl qv2)), (sa, .inl (cI, 25, .inl sf)), (ta, .inl (cII, 25, .inr (.inr (.inr (.inr (fun i => if i < 25 then some (rr i) else none)))))), (cto, .inl (cII, 5, .inr (.inr (.inr (.inr (fun i => if i < 5 then some (rg i) else none))))))] ++ mt_rw 25 rr (fun i => .inl (cI, 5, .inl (Ms i)))) ++ mt_rw 5 rg (fun i => .inl (cI, 25, .inl (G2 i)))) H := hP
    have hD : va_D A (([(ca, .inr (0, [.ref fa, .int cn, .ref cs, .ref cg, .ref cto, .ref cq, .ref cco, .ref cnx])), (fa, .inr (1, [.int fw, .int fh, .ref wa, .int fc, .ref ra, .ref sa, .ref ta])), (cq, .inl (cI, 25, .inl qv2)), (sa, .inl (cI, 25, .inl sf)), (ta, .inl (cII, 25, .inr (.inr (.inr (.inr (fun i => if i < 25 then some (rr i) else none)))))), (cto, .inl (cII, 5, .inr (.inr (.inr (.inr (fun i => if i < 5 then some (rg i) else none))))))] ++ mt_rw 25 rr (fun i => .inl (cI, 5, .inl (Ms i)))) ++ mt_rw 5 rg (fun i => .inl (cI, 25, .inl (G2 i)))) := hD
    refine lv_iload hx hb d_cr_measure_46 (lv_at hl 0 rfl) ?_
    refine lv_aload_n hx hb d_cr_measure_48 rfl (lv_at hl 2 rfl) ?_
    refine gf_cr_33 hx hb hg hown hK hP 0 rfl rfl d_cr_measure_49 ?_
    refine gf_cr_71 hx hb hg hown hK hP 1 rfl rfl d_cr_measure_52 ?_
    refine lv_iload hx hb d_cr_measure_55 (lv_at hl 6 rfl) ?_
    refine va_iald hx hb hK hP 3 1 rfl rfl (vp_in_nI (show q x < 25 by omega) (by decide)) d_cr_measure_57 ?_
    refine lv_topi (fun y4 ey4 => ?_)
    have ey4 : y4 = nI cnt := ey4.trans (by rw [nI_clamp (show q x < 2 ^ 31 by omega)]; exact hsc)
    subst ey4
    refine lv_icmp_ge hx hb d_cr_measure_58 rfl (fun g4 => ?_) (fun g4 => ?_)
    ·
      have g4z : cnt ≤ ii := by rcases Nat.lt_or_ge ii cnt with h | h; exact absurd g4 (nI_ge (b := cnt) h (by omega)); exact h
      have g1z := hz2
      have hdn : ∀ b, fx_nb sf Ms (q2 x) b → ∃ j, j < z2 ∧ q2 j = b ∧ lv2 j ≤ lv2 x + 1 := by
        rintro b ⟨hb9, c9, i9, h1, h2, h3, h4⟩
        rw [hq2] at h2 h4
        have e := (nI_eq (by omega) (by omega)).mp (hsc.symm.trans h2)
        exact hd2 i9 b (by omega) h4 hb9
      refine lv_iinc (k := 5) (v := nI (x + 1)) hx hb d_cr_measure_111 hl rfl ((nI_succ x).symm) (by decide) rfl (fun ls hl => ?_)
      have hl : lv_has ls 8 [(4, .int (nI (x + 1))), (6, .int (nI ii)), (3, .int (nI z2)), (0, .ref ca), (1, .int (nI gl)), (2, .ref (rg k)), (5, .int (nI (q x)))] := hl
      refine lv_goto hx hb d_cr_measure_114 rfl ?_
      have hl := lv_sub hl [0, 2, 3, 4, 5] (l' := [(4, .int (nI (x + 1))), (3, .int (nI z2)), (0, .ref ca), (1, .int (nI gl)), (2, .ref (rg k))]) rfl
      exact ih_a (x + 1, z2, q2, lv2, qv2, G2) ls H _ (by show 25 - (x + 1) < 25 - x; omega) ⟨bf_done hI2 g1z hdn, ho2, by show x + 1 ≤ z2; omega, bf_z (fun c (h : fx_fr N0 wf c) => Nat.lt_of_lt_of_le h.1 hN) hI2, hl, hP, hD, hS⟩
    ·
      have g5 : ii < cnt := by rcases Nat.lt_or_ge ii cnt with h | h; exact h; exact absurd (nI_le (a := cnt) h (by omega)) g4
      obtain ⟨b, hbf, hbe⟩ := hst ii g5
      have hb25 : b < 25 := by have := hbf.1; omega
      refine lv_aload_n hx hb d_cr_measure_61 rfl (lv_at hl 2 rfl) ?_
      refine gf_cr_33 hx hb hg hown hK hP 0 rfl rfl d_cr_measure_62 ?_
      refine gf_cr_74 hx hb hg hown hK hP 1 rfl rfl d_cr_measure_65 ?_
      refine lv_iload hx hb d_cr_measure_68 (lv_at hl 6 rfl) ?_
      refine mt_aald hx hb hK hP 4 3 rfl rfl (vp_in_nI (show q x < 25 by omega) (by decide)) (by show (if (nI (q x)).toNatClampNeg < 25 then some (rr (nI (q x)).toNatClampNeg) else none) = some (rr (q x)); rw [nI_clamp (show q x < 2 ^ 31 by omega), if_pos (show q x < 25 by omega)]) d_cr_measure_70 ?_
      refine lv_iload hx hb d_cr_measure_71 (lv_at hl 0 rfl) ?_
      refine va_iald hx hb hK hP (6 + (q x)) 1 (mt_at_l (mt_rw_at rfl (show q x < 25 by omega))) rfl (vp_in_nI (show ii < 5 by omega) (by decide)) d_cr_measure_73 ?_
      refine lv_topi (fun y5 ey5 => ?_)
      have ey5 : y5 = nI b := ey5.trans (by rw [nI_clamp (show ii < 2 ^ 31 by omega)]; exact hbe)
      subst ey5
      refine lv_istore hx hb d_cr_measure_74 hl (by decide) rfl (fun ls hl => ?_)
      have hl : lv_has ls 8 [(7, .int (nI b)), (6, .int (nI ii)), (3, .int (nI z2)), (0, .ref ca), (1, .int (nI gl)), (2, .ref (rg k)), (4, .int (nI x)), (5, .int (nI (q x)))] := hl
      refine lv_aload_n hx hb d_cr_measure_76 rfl (lv_at hl 5 rfl) ?_
      refine lv_iload hx hb d_cr_measure_77 (lv_at hl 0 rfl) ?_
      refine va_iald hx hb hK hP (31 + k) 1 (mt_rw_at rfl hk) rfl (vp_in_nI hb25 (by decide)) d_cr_measure_79 ?_
      refine lv_topi (fun y6 ey6 => ?_)
      have ey6 : y6 = G2 k b := ey6.trans (by rw [nI_clamp (show b < 2 ^ 31 by omega)])
      subst ey6
      refine lv_iconst (v := (-1)) hx hb d_cr_measure_80 (by decide) ?_
      refine lv_icmp_ne hx hb d_cr_measure_81 rfl (fun g6 => ?_) (fun g6 => ?_)
      ·
        have hkeep : ∀ i b, i < ii + 1 → Ms (q x) i = nI b → b < 25 → ∃ j, j < z2 ∧ q2 j = b ∧ lv2 j ≤ lv2 x + 1 := by
          intro i b9 hi hM hb9
          by_cases e : i = ii
          · subst e
            have eb : b = b9 := (nI_eq (by omega) (by omega)).mp (hbe.symm.trans hM)
            subst eb
            rcases hI2.2.2.2.1 b hb25 with h | ⟨j, hj, e⟩
            · exact absurd h g6
            · exact ⟨j, hj, e, hI2.2.2.2.2.2.2 hz2 j hj⟩
          · exact hd2 i b9 (by omega) hM hb9
        refine lv_iinc (k := 1) (v := nI (ii + 1)) hx hb d_cr_measure_105 hl rfl ((nI_succ ii).symm) (by decide) rfl (fun ls hl => ?_)
        have hl : lv_has ls 8 [(6, .int (nI (ii + 1))), (7, .int (nI b)), (3, .int (nI z2)), (0, .ref ca), (1, .int (nI gl)), (2, .ref (rg k)), (4, .int (nI x)), (5, .int (nI (q x)))] := hl
        refine lv_goto hx hb d_cr_measure_108 rfl ?_
        have hl := lv_sub hl [0, 2, 3, 4, 5, 6, 7] (l' := [(6, .int (nI (ii + 1))), (3, .int (nI z2)), (0, .ref ca), (1, .int (nI gl)), (2, .ref (rg k)), (4, .int (nI x)), (5, .int (nI (q x)))]) rfl
        exact ih_b (ii + 1, z2, q2, lv2, qv2, G2) ls H _ (by show cnt - (ii + 1) < cnt - ii; omega) ⟨by show ii + 1 ≤ cnt; omega, hI2, ho2, hq2, hkeep, hz2, hl, hP, hD, hS⟩
      ·
        have hnb : fx_nb sf Ms (q2 x) b := ⟨hb25, cnt, ii, hcnt, by rw [hq2]; exact hsc, g5, by rw [hq2]; exact hbe⟩
        have hp2 := bf_push (fun c (h : fx_fr N0 wf c) => Nat.lt_of_lt_of_le h.1 hN) hI2 hz2 hnb hbf g6
        have hz25 := hp2.1
        have hle := (hI2.2.1 x hz2).2.2.2
        have hval : G2 k (q x) = nI (lv2 x) := by rw [← hq2]; exact (hI2.2.1 x hz2).2.2.1
        have hqp : sx_up q2 z2 b x = q x := (sx_up_n (by omega)).trans hq2
        have hdp : ∀ i b9, i < ii + 1 → Ms (q x) i = nI b9 → b9 < 25 → ∃ j, j < z2 + 1 ∧ sx_up q2 z2 b j = b9 ∧ sx_up lv2 z2 (lv2 x + 1) j ≤ sx_up lv2 z2 (lv2 x + 1) x + 1 := by
          intro i b9 hi hM hb9
          by_cases e : i = ii
          · subst e
            have eb : b = b9 := (nI_eq (by omega) (by omega)).mp (hbe.symm.trans hM)
            exact ⟨z2, by omega, by rw [sx_up_s, eb], by rw [sx_up_s, sx_up_n (show x ≠ z2 by omega)]; exact Nat.le_refl _⟩
          · obtain ⟨j, q1, q3, q4⟩ := hd2 i b9 (by omega) hM hb9
            exact ⟨j, by omega, by rw [sx_up_n (by omega)]; exact q3, by rw [sx_up_n (show j ≠ z2 by omega), sx_up_n (show x ≠ z2 by omega)]; exact q4⟩
        refine lv_aload_n hx hb d_cr_measure_84 rfl (lv_at hl 5 rfl) ?_
        refine lv_iload hx hb d_cr_measure_85 (lv_at hl 0 rfl) ?_
        refine lv_aload_n hx hb d_cr_measure_87 rfl (lv_at hl 5 rfl) ?_
        refine lv_iload hx hb d_cr_measure_88 (lv_at hl 7 rfl) ?_
        refine va_iald hx hb hK hP (31 + k) 1 (mt_rw_at rfl hk) rfl (vp_in_nI (show q x < 25 by omega) (by decide)) d_cr_measure_90 ?_
        refine lv_topi (fun y7 ey7 => ?_)
        have ey7 : y7 = nI (lv2 x) := ey7.trans (by rw [nI_clamp (show q x < 2 ^ 31 by omega)]; exact hval)
        subst ey7
        refine lv_iconst (v := 1) hx hb d_cr_measure_91 (by decide) ?_
        refine lv_iadd hx hb d_cr_measure_92 ?_
        refine lv_topi (fun y8 ey8 => ?_)
        have ey8 : y8 = nI (lv2 x + 1) := ey8.trans (nI_1 _)
        subst ey8
        refine va_iast hx hb hK hP hD hS (31 + k) 1 (mt_rw_at rfl hk) rfl (vp_in_nI hb25 (by decide)) d_cr_measure_93 (fun H locs hP hD hS => ?_)
        rw [mt_rw_set (x := 31) rfl, mt_rw_row, nI_clamp (show b < 2 ^ 31 by omega)] at hP hD
        have hP : va_P D kls (([(ca, .inr (0, [.ref fa, .int cn, .ref cs, .ref cg, .ref cto, .ref cq, .ref cco, .ref cnx])), (fa, .inr (1, [.int fw, .int fh, .ref wa, .int fc, .ref ra, .ref sa, .ref ta])), (cq, .inl (cI, 25, .inl qv2)), (sa, .inl (cI, 25, .inl sf)), (ta, .inl (cII, 25, .inr (.inr (.inr (.inr (fun i => if i < 25 then some (rr i) else none)))))), (cto, .inl (cII, 5, .inr (.inr (.inr (.inr (fun i => if i < 5 then some (rg i) else none))))))] ++ mt_rw 25 rr (fun i => .inl (cI, 5, .inl (Ms i)))) ++ mt_rw 5 rg (fun i => .inl (cI, 25, .inl ((va_up G2 k (upd (G2 k) b (nI (lv2 x + 1)))) i)))) H := hP
        have hD : va_D A (([(ca, .inr (0, [.ref fa, .int cn, .ref cs, .ref cg, .ref cto, .ref cq, .ref cco, .ref cnx])), (fa, .inr (1, [.int fw, .int fh, .ref wa, .int fc, .ref ra, .ref sa, .ref ta])), (cq, .inl (cI, 25, .inl qv2)), (sa, .inl (cI, 25, .inl sf)), (ta, .inl (cII, 25, .inr (.inr (.inr (.inr (fun i => if i < 25 then some (rr i) else none)))))), (cto, .inl (cII, 5, .inr (.inr (.inr (.inr (fun i => if i < 5 then some (rg i) else none))))))] ++ mt_rw 25 rr (fun i => .inl (cI, 5, .inl (Ms i)))) ++ mt_rw 5 rg (fun i => .inl (cI, 25, .inl ((va_up G2 k (upd (G2 k) b (nI (lv2 x + 1)))) i)))) := hD
        obtain ⟨G3, hG3⟩ : ∃ M9 : Nat → Nat → Int32, M9 = va_up G2 k (upd (G2 k) b (nI (lv2 x + 1))) := ⟨_, rfl⟩
        rw [← hG3] at hP hD
        have hP : va_P D kls (([(ca, .inr (0, [.ref fa, .int cn, .ref cs, .ref cg, .ref cto, .ref cq, .ref cco, .ref cnx])), (fa, .inr (1, [.int fw, .int fh, .ref wa, .int fc, .ref ra, .ref sa, .ref ta])), (cq, .inl (cI, 25, .inl qv2)), (sa, .inl (cI, 25, .inl sf)), (ta, .inl (cII, 25, .inr (.inr (.inr (.inr (fun i => if i < 25 then some (rr i) else none)))))), (cto, .inl (cII, 5, .inr (.inr (.inr (.inr (fun i => if i < 5 then some (rg i) else none))))))] ++ mt_rw 25 rr (fun i => .inl (cI, 5, .inl (Ms i)))) ++ mt_rw 5 rg (fun i => .inl (cI, 25, .inl (G3 i)))) H := hP
        have hD : va_D A (([(ca, .inr (0, [.ref fa, .int cn, .ref cs, .ref cg, .ref cto, .ref cq, .ref cco, .ref cnx])), (fa, .inr (1, [.int fw, .int fh, .ref wa, .int fc, .ref ra, .ref sa, .ref ta])), (cq, .inl (cI, 25, .inl qv2)), (sa, .inl (cI, 25, .inl sf)), (ta, .inl (cII, 25, .inr (.inr (.inr (.inr (fun i => if i < 25 then some (rr i) else none)))))), (cto, .inl (cII, 5, .inr (.inr (.inr (.inr (fun i => if i < 5 then some (rg i) else none))))))] ++ mt_rw 25 rr (fun i => .inl (cI, 5, .inl (Ms i)))) ++ mt_rw 5 rg (fun i => .inl (cI, 25, .inl (G3 i)))) := hD
        have hG3k : G3 k = upd (G2 k) b (nI (lv2 x + 1)) := by rw [hG3]; exact mt_rowup
        have hop : ∀ a, a ≠ k → G3 a = Mg a := fun a ha => by rw [hG3, mt_rowne ha]; exact ho2 a ha
        rw [← hG3k] at hp2
        refine lv_aload_n hx hb d_cr_measure_94 rfl (lv_at hl 3 rfl) ?_
        refine gf_cr_23 hx hb hg hown hK hP 0 rfl rfl d_cr_measure_95 ?_
        refine lv_iload_n hx hb d_cr_measure_98 rfl (lv_at hl 2 rfl) ?_
        refine lv_iload hx hb d_cr_measure_99 (lv_at hl 0 rfl) ?_
        refine va_iast hx hb hK hP hD hS 2 1 rfl rfl (vp_in_nI hz25 (by decide)) d_cr_measure_101 (fun H locs hP hD hS => ?_)
        rw [nI_clamp (show z2 < 2 ^ 31 by omega)] at hP hD
        have hP : va_P D kls (([(ca, .inr (0, [.ref fa, .int cn, .ref cs, .ref cg, .ref cto, .ref cq, .ref cco, .ref cnx])), (fa, .inr (1, [.int fw, .int fh, .ref wa, .int fc, .ref ra, .ref sa, .ref ta])), (cq, .inl (cI, 25, .inl (upd qv2 z2 (nI b)))), (sa, .inl (cI, 25, .inl sf)), (ta, .inl (cII, 25, .inr (.inr (.inr (.inr (fun i => if i < 25 then some (rr i) else none)))))), (cto, .inl (cII, 5, .inr (.inr (.inr (.inr (fun i => if i < 5 then some (rg i) else none))))))] ++ mt_rw 25 rr (fun i => .inl (cI, 5, .inl (Ms i)))) ++ mt_rw 5 rg (fun i => .inl (cI, 25, .inl (G3 i)))) H := hP
        have hD : va_D A (([(ca, .inr (0, [.ref fa, .int cn, .ref cs, .ref cg, .ref cto, .ref cq, .ref cco, .ref cnx])), (fa, .inr (1, [.int fw, .int fh, .ref wa, .int fc, .ref ra, .ref sa, .ref ta])), (cq, .inl (cI, 25, .inl (upd qv2 z2 (nI b)))), (sa, .inl (cI, 25, .inl sf)), (ta, .inl (cII, 25, .inr (.inr (.inr (.inr (fun i => if i < 25 then some (rr i) else none)))))), (cto, .inl (cII, 5, .inr (.inr (.inr (.inr (fun i => if i < 5 then some (rg i) else none))))))] ++ mt_rw 25 rr (fun i => .inl (cI, 5, .inl (Ms i)))) ++ mt_rw 5 rg (fun i => .inl (cI, 25, .inl (G3 i)))) := hD
        refine lv_iinc (k := 2) (v := nI (z2 + 1)) hx hb d_cr_measure_102 hl rfl ((nI_succ z2).symm) (by decide) rfl (fun ls hl => ?_)
        have hl : lv_has ls 8 [(3, .int (nI (z2 + 1))), (7, .int (nI b)), (6, .int (nI ii)), (0, .ref ca), (1, .int (nI gl)), (2, .ref (rg k)), (4, .int (nI x)), (5, .int (nI (q x)))] := hl
        refine lv_iinc (k := 2) (v := nI (ii + 1)) hx hb d_cr_measure_105 hl rfl ((nI_succ ii).symm) (by decide) rfl (fun ls hl => ?_)
        have hl : lv_has ls 8 [(6, .int (nI (ii + 1))), (3, .int (nI (z2 + 1))), (7, .int (nI b)), (0, .ref ca), (1, .int (nI gl)), (2, .ref (rg k)), (4, .int (nI x)), (5, .int (nI (q x)))] := hl
        refine lv_goto hx hb d_cr_measure_108 rfl ?_
        have hl := lv_sub hl [0, 1, 3, 4, 5, 6, 7] (l' := [(6, .int (nI (ii + 1))), (3, .int (nI (z2 + 1))), (0, .ref ca), (1, .int (nI gl)), (2, .ref (rg k)), (4, .int (nI x)), (5, .int (nI (q x)))]) rfl
        exact ih_b (ii + 1, z2 + 1, sx_up q2 z2 b, sx_up lv2 z2 (lv2 x + 1), upd qv2 z2 (nI b), G3) ls H _ (by show cnt - (ii + 1) < cnt - ii; omega) ⟨by show ii + 1 ≤ cnt; omega, hp2.2, hop, hqp, hdp, by show x < z2 + 1; omega, hl, hP, hD, hS⟩

set_option maxHeartbeats 4000000 in
set_option maxRecDepth 100000 in
theorem c_cr_take (l : Launch) (D : va_G) (cZ cI cJ cII : ClassId) (ca : Nat) (cs : Nat) (cg : Nat) (cto : Nat) (cq : Nat) (cco : Nat) (cnx : Nat) (fa : Nat) (fw : Int32) (fh : Int32) (wa : Nat) (fc : Int32) (ra : Nat) (sa : Nat) (ta : Nat) (qf : Nat → Int32) (sf : Nat → Int32) (rr : Nat → Nat) (Ms : Nat → Nat → Int32) (rg : Nat → Nat) (Mg : Nat → Nat → Int32) (s5 : Nat → Int32) (g5 : Nat → Int32) (W0 : Nat) (N0 : Nat) (wf : Nat → Int32) (rf : Nat → Int32) (n : Nat) (sp : Nat) (gl : Nat) (sz : Nat) (hN : N0 ≤ 25) (hOk : fx_Ok W0 N0 wf rf sf Ms N0) (hn : n < 5) (hgl : fx_fr N0 wf gl) : Met l y_cr_take w_cr_take ({ frames := 2, cells := 0, slots := 0, locals := 80 }) (va_Pc [.ref ca, .int (nI sp), .int (nI gl)] (mt_B D [(cZ, .boolean), (cI, .int), (cJ, .long), (cII, .array .int)] ((([(ca, .inr (0, [.ref fa, .int (nI n), .ref cs, .ref cg, .ref cto, .ref cq, .ref cco, .ref cnx])), (fa, .inr (1, [.int fw, .int fh, .ref wa, .int fc, .ref ra, .ref sa, .ref ta])), (cq, .inl (cI, 25, .inl qf)), (sa, .inl (cI, 25, .inl sf)), (ta, .inl (cII, 25, .inr (.inr (.inr (.inr (fun i => if i < 25 then some (rr i) else none)))))), (cto, .inl (cII, 5, .inr (.inr (.inr (.inr (fun i => if i < 5 then some (rg i) else none))))))] ++ mt_rw 25 rr (fun i => .inl (cI, 5, .inl (Ms i)))) ++ mt_rw 5 rg (fun i => .inl (cI, 25, .inl (Mg i)))) ++ [(cs, .inl (cI, 5, .inl s5)), (cg, .inl (cI, 5, .inl g5))]) sz)) ((fun A => va_Qi (fun (r : Int32) (u : (Nat → Int32) × (Nat → Nat → Int32)) => (r = nI n) ∧ ((∀ a, a ≠ n → (u.2) a = Mg a) ∧ wy_Ok (fx_fr N0 wf) (fx_nb sf Ms) gl ((u.2) n))) (fun (u : (Nat → Int32) × (Nat → Nat → Int32)) (t : State) => mt_O D A ((([(ca, .inr (0, [.ref fa, .int (nI (n + 1)), .ref cs, .ref cg, .ref cto, .ref cq, .ref cco, .ref cnx])), (fa, .inr (1, [.int fw, .int fh, .ref wa, .int fc, .ref ra, .ref sa, .ref ta])), (cq, .inl (cI, 25, .inl (u.1))), (sa, .inl (cI, 25, .inl sf)), (ta, .inl (cII, 25, .inr (.inr (.inr (.inr (fun i => if i < 25 then some (rr i) else none)))))), (cto, .inl (cII, 5, .inr (.inr (.inr (.inr (fun i => if i < 5 then some (rg i) else none))))))] ++ mt_rw 25 rr (fun i => .inl (cI, 5, .inl (Ms i)))) ++ mt_rw 5 rg (fun i => .inl (cI, 25, .inl ((u.2) i)))) ++ [(cs, .inl (cI, 5, .inl (upd s5 n (nI sp)))), (cg, .inl (cI, 5, .inl (upd g5 n (nI gl))))]) t) A) (va_A ((([(ca, .inr (0, [.ref fa, .int (nI n), .ref cs, .ref cg, .ref cto, .ref cq, .ref cco, .ref cnx])), (fa, .inr (1, [.int fw, .int fh, .ref wa, .int fc, .ref ra, .ref sa, .ref ta])), (cq, .inl (cI, 25, .inl qf)), (sa, .inl (cI, 25, .inl sf)), (ta, .inl (cII, 25, .inr (.inr (.inr (.inr (fun i => if i < 25 then some (rr i) else none)))))), (cto, .inl (cII, 5, .inr (.inr (.inr (.inr (fun i => if i < 5 then some (rg i) else none))))))] ++ mt_rw 25 rr (fun i => .inl (cI, 5, .inl (Ms i)))) ++ mt_rw 5 rg (fun i => .inl (cI, 25, .inl (Mg i)))) ++ [(cs, .inl (cI, 5, .inl s5)), (cg, .inl (cI, 5, .inl g5))]) sz)) 0 0 (va_A ((([(ca, .inr (0, [.ref fa, .int (nI n), .ref cs, .ref cg, .ref cto, .ref cq, .ref cco, .ref cnx])), (fa, .inr (1, [.int fw, .int fh, .ref wa, .int fc, .ref ra, .ref sa, .ref ta])), (cq, .inl (cI, 25, .inl qf)), (sa, .inl (cI, 25, .inl sf)), (ta, .inl (cII, 25, .inr (.inr (.inr (.inr (fun i => if i < 25 then some (rr i) else none)))))), (cto, .inl (cII, 5, .inr (.inr (.inr (.inr (fun i => if i < 5 then some (rg i) else none))))))] ++ mt_rw 25 rr (fun i => .inl (cI, 5, .inl (Ms i)))) ++ mt_rw 5 rg (fun i => .inl (cI, 25, .inl (Mg i)))) ++ [(cs, .inl (cI, 5, .inl s5)), (cg, .inl (cI, 5, .inl g5))]) sz) := by
  refine mt_of (y := y_cr_take) (n := 4) (av := [.ref ca, .int (nI sp), .int (nI gl)]) (QF := (fun A => va_Qi (fun (r : Int32) (u : (Nat → Int32) × (Nat → Nat → Int32)) => (r = nI n) ∧ ((∀ a, a ≠ n → (u.2) a = Mg a) ∧ wy_Ok (fx_fr N0 wf) (fx_nb sf Ms) gl ((u.2) n))) (fun (u : (Nat → Int32) × (Nat → Nat → Int32)) (t : State) => mt_O D A ((([(ca, .inr (0, [.ref fa, .int (nI (n + 1)), .ref cs, .ref cg, .ref cto, .ref cq, .ref cco, .ref cnx])), (fa, .inr (1, [.int fw, .int fh, .ref wa, .int fc, .ref ra, .ref sa, .ref ta])), (cq, .inl (cI, 25, .inl (u.1))), (sa, .inl (cI, 25, .inl sf)), (ta, .inl (cII, 25, .inr (.inr (.inr (.inr (fun i => if i < 25 then some (rr i) else none)))))), (cto, .inl (cII, 5, .inr (.inr (.inr (.inr (fun i => if i < 5 then some (rg i) else none))))))] ++ mt_rw 25 rr (fun i => .inl (cI, 5, .inl (Ms i)))) ++ mt_rw 5 rg (fun i => .inl (cI, 25, .inl ((u.2) i)))) ++ [(cs, .inl (cI, 5, .inl (upd s5 n (nI sp)))), (cg, .inl (cI, 5, .inl (upd g5 n (nI gl))))]) t) A)) (by decide) (Nat.le_of_ble_eq_true rfl) ?_
  intro p e s m below meth c ls A hx hb hr hlk hml hown hnm hg hl hX hP hK hD hA hS
  obtain ⟨H, hH⟩ : ∃ H : Heap, H = s.heap := ⟨_, rfl⟩
  have hS : va_S A s.heap H [] := by rw [hH]; exact va_S.rf
  rw [← hH] at hP ⊢
  have hown : s.vm.findClass R_cr = some m.cls := hown
  have hl : lv_has ls 4 [(0, .ref ca), (1, .int (nI sp)), (2, .int (nI gl))] := hl
  refine lv_aload_n hx hb d_cr_take_0 rfl (lv_at hl 0 rfl) ?_
  refine gf_cr_37 hx hb hg hown hK hP 0 rfl rfl d_cr_take_1 ?_
  refine lv_istore_n hx hb d_cr_take_4 rfl hl (by decide) rfl (fun ls hl => ?_)
  have hl : lv_has ls 4 [(3, .int (nI n)), (0, .ref ca), (1, .int (nI sp)), (2, .int (nI gl))] := hl
  refine lv_aload_n hx hb d_cr_take_5 rfl (lv_at hl 1 rfl) ?_
  refine gf_cr_9 hx hb hg hown hK hP 0 rfl rfl d_cr_take_6 ?_
  refine lv_iload_n hx hb d_cr_take_9 rfl (lv_at hl 0 rfl) ?_
  refine lv_iload_n hx hb d_cr_take_10 rfl (lv_at hl 2 rfl) ?_
  refine va_iast hx hb hK hP hD hS 36 1 rfl rfl (vp_in_nI hn (by decide)) d_cr_take_11 (fun H locs hP hD hS => ?_)
  rw [nI_clamp (show n < 2 ^ 31 by omega)] at hP hD
  have hP : va_P D kls ((([(ca, .inr (0, [.ref fa, .int (nI n), .ref cs, .ref cg, .ref cto, .ref cq, .ref cco, .ref cnx])), (fa, .inr (1, [.int fw, .int fh, .ref wa, .int fc, .ref ra, .ref sa, .ref ta])), (cq, .inl (cI, 25, .inl qf)), (sa, .inl (cI, 25, .inl sf)), (ta, .inl (cII, 25, .inr (.inr (.inr (.inr (fun i => if i < 25 then some (rr i) else none)))))), (cto, .inl (cII, 5, .inr (.inr (.inr (.inr (fun i => if i < 5 then some (rg i) else none))))))] ++ mt_rw 25 rr (fun i => .inl (cI, 5, .inl (Ms i)))) ++ mt_rw 5 rg (fun i => .inl (cI, 25, .inl (Mg i)))) ++ [(cs, .inl (cI, 5, .inl (upd s5 n (nI sp)))), (cg, .inl (cI, 5, .inl g5))]) H := hP
  have hD : va_D A ((([(ca, .inr (0, [.ref fa, .int (nI n), .ref cs, .ref cg, .ref cto, .ref cq, .ref cco, .ref cnx])), (fa, .inr (1, [.int fw, .int fh, .ref wa, .int fc, .ref ra, .ref sa, .ref ta])), (cq, .inl (cI, 25, .inl qf)), (sa, .inl (cI, 25, .inl sf)), (ta, .inl (cII, 25, .inr (.inr (.inr (.inr (fun i => if i < 25 then some (rr i) else none)))))), (cto, .inl (cII, 5, .inr (.inr (.inr (.inr (fun i => if i < 5 then some (rg i) else none))))))] ++ mt_rw 25 rr (fun i => .inl (cI, 5, .inl (Ms i)))) ++ mt_rw 5 rg (fun i => .inl (cI, 25, .inl (Mg i)))) ++ [(cs, .inl (cI, 5, .inl (upd s5 n (nI sp)))), (cg, .inl (cI, 5, .inl g5))]) := hD
  refine lv_aload_n hx hb d_cr_take_12 rfl (lv_at hl 1 rfl) ?_
  refine gf_cr_15 hx hb hg hown hK hP 0 rfl rfl d_cr_take_13 ?_
  refine lv_iload_n hx hb d_cr_take_16 rfl (lv_at hl 0 rfl) ?_
  refine lv_iload_n hx hb d_cr_take_17 rfl (lv_at hl 3 rfl) ?_
  refine va_iast hx hb hK hP hD hS 37 1 rfl rfl (vp_in_nI hn (by decide)) d_cr_take_18 (fun H locs hP hD hS => ?_)
  rw [nI_clamp (show n < 2 ^ 31 by omega)] at hP hD
  have hP : va_P D kls ((([(ca, .inr (0, [.ref fa, .int (nI n), .ref cs, .ref cg, .ref cto, .ref cq, .ref cco, .ref cnx])), (fa, .inr (1, [.int fw, .int fh, .ref wa, .int fc, .ref ra, .ref sa, .ref ta])), (cq, .inl (cI, 25, .inl qf)), (sa, .inl (cI, 25, .inl sf)), (ta, .inl (cII, 25, .inr (.inr (.inr (.inr (fun i => if i < 25 then some (rr i) else none)))))), (cto, .inl (cII, 5, .inr (.inr (.inr (.inr (fun i => if i < 5 then some (rg i) else none))))))] ++ mt_rw 25 rr (fun i => .inl (cI, 5, .inl (Ms i)))) ++ mt_rw 5 rg (fun i => .inl (cI, 25, .inl (Mg i)))) ++ [(cs, .inl (cI, 5, .inl (upd s5 n (nI sp)))), (cg, .inl (cI, 5, .inl (upd g5 n (nI gl))))]) H := hP
  have hD : va_D A ((([(ca, .inr (0, [.ref fa, .int (nI n), .ref cs, .ref cg, .ref cto, .ref cq, .ref cco, .ref cnx])), (fa, .inr (1, [.int fw, .int fh, .ref wa, .int fc, .ref ra, .ref sa, .ref ta])), (cq, .inl (cI, 25, .inl qf)), (sa, .inl (cI, 25, .inl sf)), (ta, .inl (cII, 25, .inr (.inr (.inr (.inr (fun i => if i < 25 then some (rr i) else none)))))), (cto, .inl (cII, 5, .inr (.inr (.inr (.inr (fun i => if i < 5 then some (rg i) else none))))))] ++ mt_rw 25 rr (fun i => .inl (cI, 5, .inl (Ms i)))) ++ mt_rw 5 rg (fun i => .inl (cI, 25, .inl (Mg i)))) ++ [(cs, .inl (cI, 5, .inl (upd s5 n (nI sp)))), (cg, .inl (cI, 5, .inl (upd g5 n (nI gl))))]) := hD
  refine lv_aload_n hx hb d_cr_take_19 rfl (lv_at hl 1 rfl) ?_
  refine lv_dup hx hb d_cr_take_20 rfl ?_
  refine gf_cr_37 hx hb hg hown hK hP 0 rfl rfl d_cr_take_21 ?_
  refine lv_iconst (v := 1) hx hb d_cr_take_24 (by decide) ?_
  refine lv_iadd hx hb d_cr_take_25 ?_
  refine lv_topi (fun y1 ey1 => ?_)
  have ey1 : y1 = nI (n + 1) := ey1.trans (nI_1 n)
  subst ey1
  refine pf_cr_37 hx hb hg hown hK hP hD hS 0 rfl rfl rfl (Nat.le_of_ble_eq_true rfl) d_cr_take_26 (fun H locs hP hD hS => ?_)
  have hP : va_P D kls ((([(ca, .inr (0, [.ref fa, .int (nI (n + 1)), .ref cs, .ref cg, .ref cto, .ref cq, .ref cco, .ref cnx])), (fa, .inr (1, [.int fw, .int fh, .ref wa, .int fc, .ref ra, .ref sa, .ref ta])), (cq, .inl (cI, 25, .inl qf)), (sa, .inl (cI, 25, .inl sf)), (ta, .inl (cII, 25, .inr (.inr (.inr (.inr (fun i => if i < 25 then some (rr i) else none)))))), (cto, .inl (cII, 5, .inr (.inr (.inr (.inr (fun i => if i < 5 then some (rg i) else none))))))] ++ mt_rw 25 rr (fun i => .inl (cI, 5, .inl (Ms i)))) ++ mt_rw 5 rg (fun i => .inl (cI, 25, .inl (Mg i)))) ++ [(cs, .inl (cI, 5, .inl (upd s5 n (nI sp)))), (cg, .inl (cI, 5, .inl (upd g5 n (nI gl))))]) H := hP
  have hD : va_D A ((([(ca, .inr (0, [.ref fa, .int (nI (n + 1)), .ref cs, .ref cg, .ref cto, .ref cq, .ref cco, .ref cnx])), (fa, .inr (1, [.int fw, .int fh, .ref wa, .int fc, .ref ra, .ref sa, .ref ta])), (cq, .inl (cI, 25, .inl qf)), (sa, .inl (cI, 25, .inl sf)), (ta, .inl (cII, 25, .inr (.inr (.inr (.inr (fun i => if i < 25 then some (rr i) else none)))))), (cto, .inl (cII, 5, .inr (.inr (.inr (.inr (fun i => if i < 5 then some (rg i) else none))))))] ++ mt_rw 25 rr (fun i => .inl (cI, 5, .inl (Ms i)))) ++ mt_rw 5 rg (fun i => .inl (cI, 25, .inl (Mg i)))) ++ [(cs, .inl (cI, 5, .inl (upd s5 n (nI sp)))), (cg, .inl (cI, 5, .inl (upd g5 n (nI gl))))]) := hD
  refine lv_aload_n hx hb d_cr_take_29 rfl (lv_at hl 1 rfl) ?_
  refine lv_iload_n hx hb d_cr_take_30 rfl (lv_at hl 3 rfl) ?_
  refine lv_aload_n hx hb d_cr_take_31 rfl (lv_at hl 1 rfl) ?_
  refine gf_cr_20 hx hb hg hown hK hP 0 rfl rfl d_cr_take_32 ?_
  refine lv_iload_n hx hb d_cr_take_35 rfl (lv_at hl 0 rfl) ?_
  refine mt_aald hx hb hK hP 5 3 rfl rfl (vp_in_nI hn (by decide)) (by show (if (nI n).toNatClampNeg < 5 then some (rg (nI n).toNatClampNeg) else none) = some (rg n); rw [nI_clamp (show n < 2 ^ 31 by omega), if_pos hn]) d_cr_take_36 ?_
  have hPc := hP.sub (ws' := (([(ca, .inr (0, [.ref fa, .int (nI (n + 1)), .ref cs, .ref cg, .ref cto, .ref cq, .ref cco, .ref cnx])), (fa, .inr (1, [.int fw, .int fh, .ref wa, .int fc, .ref ra, .ref sa, .ref ta])), (cq, .inl (cI, 25, .inl qf)), (sa, .inl (cI, 25, .inl sf)), (ta, .inl (cII, 25, .inr (.inr (.inr (.inr (fun i => if i < 25 then some (rr i) else none)))))), (cto, .inl (cII, 5, .inr (.inr (.inr (.inr (fun i => if i < 5 then some (rg i) else none))))))] ++ mt_rw 25 rr (fun i => .inl (cI, 5, .inl (Ms i)))) ++ mt_rw 5 rg (fun i => .inl (cI, 25, .inl (Mg i))))) [0, 1, 2, 3, 4, 5, 6, 7, 8, 9, 10, 11, 12, 13, 14, 15, 16, 17, 18, 19, 20, 21, 22, 23, 24, 25, 26, 27, 28, 29, 30, 31, 32, 33, 34, 35] rfl
  have hDc := hD.sub (ws' := (([(ca, .inr (0, [.ref fa, .int (nI (n + 1)), .ref cs, .ref cg, .ref cto, .ref cq, .ref cco, .ref cnx])), (fa, .inr (1, [.int fw, .int fh, .ref wa, .int fc, .ref ra, .ref sa, .ref ta])), (cq, .inl (cI, 25, .inl qf)), (sa, .inl (cI, 25, .inl sf)), (ta, .inl (cII, 25, .inr (.inr (.inr (.inr (fun i => if i < 25 then some (rr i) else none)))))), (cto, .inl (cII, 5, .inr (.inr (.inr (.inr (fun i => if i < 5 then some (rg i) else none))))))] ++ mt_rw 25 rr (fun i => .inl (cI, 5, .inl (Ms i)))) ++ mt_rw 5 rg (fun i => .inl (cI, 25, .inl (Mg i))))) [0, 1, 2, 3, 4, 5, 6, 7, 8, 9, 10, 11, 12, 13, 14, 15, 16, 17, 18, 19, 20, 21, 22, 23, 24, 25, 26, 27, 28, 29, 30, 31, 32, 33, 34, 35] (by decide) rfl
  have hFc := va_free (wc := (([(ca, .inr (0, [.ref fa, .int (nI (n + 1)), .ref cs, .ref cg, .ref cto, .ref cq, .ref cco, .ref cnx])), (fa, .inr (1, [.int fw, .int fh, .ref wa, .int fc, .ref ra, .ref sa, .ref ta])), (cq, .inl (cI, 25, .inl qf)), (sa, .inl (cI, 25, .inl sf)), (ta, .inl (cII, 25, .inr (.inr (.inr (.inr (fun i => if i < 25 then some (rr i) else none)))))), (cto, .inl (cII, 5, .inr (.inr (.inr (.inr (fun i => if i < 5 then some (rg i) else none))))))] ++ mt_rw 25 rr (fun i => .inl (cI, 5, .inl (Ms i)))) ++ mt_rw 5 rg (fun i => .inl (cI, 25, .inl (Mg i))))) hD hS hA [0, 1, 2, 3, 4, 5, 6, 7, 8, 9, 10, 11, 12, 13, 14, 15, 16, 17, 18, 19, 20, 21, 22, 23, 24, 25, 26, 27, 28, 29, 30, 31, 32, 33, 34, 35] rfl
  refine va_callv (va_runV (As := [.int (nI gl), .ref (rg n)]) (rest := []) ⟨hx, hb, hml, hown, hg⟩ (c_cr_measure l D cZ cI cJ cII ca (nI (n + 1)) cs cg cto cq cco cnx fa fw fh wa fc ra sa ta qf sf rr Ms rg Mg W0 N0 wf rf n gl H.size hN hOk hn hgl) (cwV 2 hg gv_cr_46 rfl rfl rfl (by decide +kernel) ⟨Nat.le_of_ble_eq_true rfl, Nat.le_of_ble_eq_true rfl⟩) ⟨mt_bl, va_recv (q0 := 0) (ci := 0) hK hP rfl rfl, mt_pr hX hPc hK hDc⟩ rfl rfl hl.1 rfl (lv_room (Nat.le_of_ble_eq_true rfl)) d_cr_take_37 ⟨Nat.le_of_ble_eq_true rfl, Nat.le_of_ble_eq_true rfl⟩) hS (fun q _ h => hFc q h) hFc (fun u t H1 locs ht hvm hw hB hz1 hk1 hS => ?_)
  obtain ⟨qf13, Mg14⟩ := u
  have hr2 : (∀ a, a ≠ n → Mg14 a = Mg a) ∧ wy_Ok (fx_fr N0 wf) (fx_nb sf Ms) gl (Mg14 n) := hw
  obtain ⟨hP1, hD1⟩ := hB
  rw [ht] at hP1
  obtain ⟨hP, hD⟩ := va_join (wr := [(cs, .inl (cI, 5, .inl (upd s5 n (nI sp)))), (cg, .inl (cI, 5, .inl (upd g5 n (nI gl))))]) (w1 := (([(ca, .inr (0, [.ref fa, .int (nI (n + 1)), .ref cs, .ref cg, .ref cto, .ref cq, .ref cco, .ref cnx])), (fa, .inr (1, [.int fw, .int fh, .ref wa, .int fc, .ref ra, .ref sa, .ref ta])), (cq, .inl (cI, 25, .inl qf13)), (sa, .inl (cI, 25, .inl sf)), (ta, .inl (cII, 25, .inr (.inr (.inr (.inr (fun i => if i < 25 then some (rr i) else none)))))), (cto, .inl (cII, 5, .inr (.inr (.inr (.inr (fun i => if i < 5 then some (rg i) else none))))))] ++ mt_rw 25 rr (fun i => .inl (cI, 5, .inl (Ms i)))) ++ mt_rw 5 rg (fun i => .inl (cI, 25, .inl (Mg14 i))))) hP hD [0, 1, 2, 3, 4, 5, 6, 7, 8, 9, 10, 11, 12, 13, 14, 15, 16, 17, 18, 19, 20, 21, 22, 23, 24, 25, 26, 27, 28, 29, 30, 31, 32, 33, 34, 35] [36, 37] rfl rfl (by decide) (by decide) hk1 hFc hP1 hD1
  generalize H1 = H at hP hS ⊢
  have hP : va_P D kls (([(cs, .inl (cI, 5, .inl (upd s5 n (nI sp)))), (cg, .inl (cI, 5, .inl (upd g5 n (nI gl)))), (ca, .inr (0, [.ref fa, .int (nI (n + 1)), .ref cs, .ref cg, .ref cto, .ref cq, .ref cco, .ref cnx])), (fa, .inr (1, [.int fw, .int fh, .ref wa, .int fc, .ref ra, .ref sa, .ref ta])), (cq, .inl (cI, 25, .inl qf13)), (sa, .inl (cI, 25, .inl sf)), (ta, .inl (cII, 25, .inr (.inr (.inr (.inr (fun i => if i < 25 then some (rr i) else none)))))), (cto, .inl (cII, 5, .inr (.inr (.inr (.inr (fun i => if i < 5 then some (rg i) else none))))))] ++ mt_rw 25 rr (fun i => .inl (cI, 5, .inl (Ms i)))) ++ mt_rw 5 rg (fun i => .inl (cI, 25, .inl (Mg14 i)))) H := hP
  have hD : va_D A (([(cs, .inl (cI, 5, .inl (upd s5 n (nI sp)))), (cg, .inl (cI, 5, .inl (upd g5 n (nI gl)))), (ca, .inr (0, [.ref fa, .int (nI (n + 1)), .ref cs, .ref cg, .ref cto, .ref cq, .ref cco, .ref cnx])), (fa, .inr (1, [.int fw, .int fh, .ref wa, .int fc, .ref ra, .ref sa, .ref ta])), (cq, .inl (cI, 25, .inl qf13)), (sa, .inl (cI, 25, .inl sf)), (ta, .inl (cII, 25, .inr (.inr (.inr (.inr (fun i => if i < 25 then some (rr i) else none)))))), (cto, .inl (cII, 5, .inr (.inr (.inr (.inr (fun i => if i < 5 then some (rg i) else none))))))] ++ mt_rw 25 rr (fun i => .inl (cI, 5, .inl (Ms i)))) ++ mt_rw 5 rg (fun i => .inl (cI, 25, .inl (Mg14 i)))) := hD
  have a9 := hr2
  refine lv_iload_n hx hb d_cr_take_40 rfl (lv_at hl 0 rfl) ?_
  have hP9 := hP.sub (ws' := ((([(ca, .inr (0, [.ref fa, .int (nI (n + 1)), .ref cs, .ref cg, .ref cto, .ref cq, .ref cco, .ref cnx])), (fa, .inr (1, [.int fw, .int fh, .ref wa, .int fc, .ref ra, .ref sa, .ref ta])), (cq, .inl (cI, 25, .inl qf13)), (sa, .inl (cI, 25, .inl sf)), (ta, .inl (cII, 25, .inr (.inr (.inr (.inr (fun i => if i < 25 then some (rr i) else none)))))), (cto, .inl (cII, 5, .inr (.inr (.inr (.inr (fun i => if i < 5 then some (rg i) else none))))))] ++ mt_rw 25 rr (fun i => .inl (cI, 5, .inl (Ms i)))) ++ mt_rw 5 rg (fun i => .inl (cI, 25, .inl (Mg14 i)))) ++ [(cs, .inl (cI, 5, .inl (upd s5 n (nI sp)))), (cg, .inl (cI, 5, .inl (upd g5 n (nI gl))))])) [2, 3, 4, 5, 6, 7, 8, 9, 10, 11, 12, 13, 14, 15, 16, 17, 18, 19, 20, 21, 22, 23, 24, 25, 26, 27, 28, 29, 30, 31, 32, 33, 34, 35, 36, 37, 0, 1] rfl
  have hD9 := hD.sub (ws' := ((([(ca, .inr (0, [.ref fa, .int (nI (n + 1)), .ref cs, .ref cg, .ref cto, .ref cq, .ref cco, .ref cnx])), (fa, .inr (1, [.int fw, .int fh, .ref wa, .int fc, .ref ra, .ref sa, .ref ta])), (cq, .inl (cI, 25, .inl qf13)), (sa, .inl (cI, 25, .inl sf)), (ta, .inl (cII, 25, .inr (.inr (.inr (.inr (fun i => if i < 25 then some (rr i) else none)))))), (cto, .inl (cII, 5, .inr (.inr (.inr (.inr (fun i => if i < 5 then some (rg i) else none))))))] ++ mt_rw 25 rr (fun i => .inl (cI, 5, .inl (Ms i)))) ++ mt_rw 5 rg (fun i => .inl (cI, 25, .inl (Mg14 i)))) ++ [(cs, .inl (cI, 5, .inl (upd s5 n (nI sp)))), (cg, .inl (cI, 5, .inl (upd g5 n (nI gl))))])) [2, 3, 4, 5, 6, 7, 8, 9, 10, 11, 12, 13, 14, 15, 16, 17, 18, 19, 20, 21, 22, 23, 24, 25, 26, 27, 28, 29, 30, 31, 32, 33, 34, 35, 36, 37, 0, 1] (by decide) rfl
  exact W.iret hx hb hr (fun t ht hW => ⟨⟨nI n, (qf13, Mg14), rfl, ⟨rfl, a9⟩, by rw [ht]; exact hP9, hD9⟩, hS.F ht⟩) hS.2.2 d_cr_take_41
