set_option maxHeartbeats 4000000 in
set_option maxRecDepth 100000 in
theorem c_cr_canTake (l : Launch) (D : va_G) (cZ cI cJ cII : ClassId) (ca : Nat) (cfl : Nat) (cs : Nat) (cg : Nat) (cto : Nat) (cq : Nat) (cco : Nat) (cnx : Nat) (fw : Int32) (fh : Int32) (wa : Nat) (ra : Nat) (sa : Nat) (ta : Nat) (x : Int32) (y : Int32) (sz : Nat)  : Met l y_cr_canTake w_cr_canTake ({ frames := 0, cells := 0, slots := 0, locals := 0 }) (va_Pc [.ref ca, .int x, .int y] (mt_B D [(cZ, .boolean), (cI, .int), (cJ, .long), (cII, .array .int)] [(ca, .inr (0, [.ref cfl, .int 0, .ref cs, .ref cg, .ref cto, .ref cq, .ref cco, .ref cnx])), (cfl, .inr (1, [.int fw, .int fh, .ref wa, .int 1, .ref ra, .ref sa, .ref ta]))] sz)) (vp_Si (fun r : Int32 => r = 1)) 0 0 (fun _ => False) := by
  refine mt_ofR (by decide) (Nat.le_of_ble_eq_true rfl) ?_
  intro p e s m below meth c ls hx hb hr hlk hml hown hg hl hX hP hK hD
  have hown : s.vm.findClass R_cr = some m.cls := hown
  obtain ⟨H, hH⟩ : ∃ H : Heap, H = s.heap := ⟨_, rfl⟩
  rw [← hH] at hP ⊢
  have hl : lv_has ls 5 [(0, .ref ca), (1, .int x), (2, .int y)] := hl
  refine lv_aload_n hx hb d_cr_canTake_0 rfl (lv_at hl 0 rfl) ?_
  refine gf_cr_37 hx hb hg hown hK hP 0 rfl rfl d_cr_canTake_1 ?_
  refine lv_iconst (v := 5) hx hb d_cr_canTake_4 (by decide) ?_
  refine lv_icmp_lt hx hb d_cr_canTake_5 rfl (fun _ => ?_) (fun h => absurd (by decide) h)
  refine lv_aload_n hx hb d_cr_canTake_10 rfl (lv_at hl 0 rfl) ?_
  refine gf_cr_33 hx hb hg hown hK hP 0 rfl rfl d_cr_canTake_11 ?_
  refine gf_cr_41 hx hb hg hown hK hP 1 rfl rfl d_cr_canTake_14 ?_
  refine lv_istore_n hx hb d_cr_canTake_17 rfl hl (by decide) rfl (fun ls hl => ?_)
  have hl : lv_has ls 5 [(3, .int 1), (0, .ref ca), (1, .int x), (2, .int y)] := hl
  refine lv_iconst (v := 0) hx hb d_cr_canTake_18 (by decide) ?_
  refine lv_istore hx hb d_cr_canTake_19 hl (by decide) rfl (fun ls hl => ?_)
  have hl : lv_has ls 5 [(4, .int 0), (3, .int 1), (0, .ref ca), (1, .int x), (2, .int y)] := hl
  refine lv_iload hx hb d_cr_canTake_21 (lv_at hl 0 rfl) ?_
  refine lv_aload_n hx hb d_cr_canTake_23 rfl (lv_at hl 2 rfl) ?_
  refine gf_cr_37 hx hb hg hown hK hP 0 rfl rfl d_cr_canTake_24 ?_
  refine lv_icmp_ge hx hb d_cr_canTake_27 rfl (fun _ => ?_) (fun h => absurd (by decide) h)
  refine lv_iload_n hx hb d_cr_canTake_70 rfl (lv_at hl 1 rfl) ?_
  refine lv_sipush (v := 16000) hx hb d_cr_canTake_71 (by decide) ?_
  refine lv_icmp_gt hx hb d_cr_canTake_74 rfl (fun h => absurd h (by decide)) (fun _ => ?_)
  refine lv_iconst (v := 1) hx hb d_cr_canTake_77 (by decide) ?_
  refine lv_goto hx hb d_cr_canTake_78 rfl ?_
  exact W.zret hx hb hr rfl (fun t ht _ => ⟨1, rfl, rfl, ht.trans hH⟩) (fun _ h => absurd h List.not_mem_nil) d_cr_canTake_82

set_option maxHeartbeats 4000000 in
set_option maxRecDepth 100000 in
theorem c_cr_measure (l : Launch) (D : va_G) (cZ cI cJ cII : ClassId) (ca : Nat) (cfl : Nat) (cn : Int32) (cs : Nat) (cg : Nat) (cto : Nat) (cq : Nat) (cco : Nat) (cnx : Nat) (fw : Int32) (fh : Int32) (wa : Nat) (fc : Int32) (ra : Nat) (sa : Nat) (ta : Nat) (qf : Nat → Int32) (sf : Nat → Int32) (rr : Nat → Nat) (f5 : Nat → Int32) (wy0 : Nat) (wy : Nat → Int32) (sz : Nat) (hs0 : sf 0 = 1) (hf0 : f5 0 = 0) : Met l y_cr_measure w_cr_measure ({ frames := 1, cells := 0, slots := 0, locals := 40 }) (va_Pc [.ref ca, .int 0, .ref wy0] (mt_B D [(cZ, .boolean), (cI, .int), (cJ, .long), (cII, .array .int)] [(ca, .inr (0, [.ref cfl, .int cn, .ref cs, .ref cg, .ref cto, .ref cq, .ref cco, .ref cnx])), (cfl, .inr (1, [.int fw, .int fh, .ref wa, .int fc, .ref ra, .ref sa, .ref ta])), (cq, .inl (cI, 25, .inl qf)), (sa, .inl (cI, 25, .inl sf)), (ta, .inl (cII, 25, .inr (.inr (.inr (.inr (fun i => if i < 25 then some (rr i) else none)))))), (rr 0, .inl (cI, 5, .inl f5)), (wy0, .inl (cI, 25, .inl wy))] sz)) ((fun A => va_Qv (fun (u : (Nat → Int32)) => True) (fun (u : (Nat → Int32)) (t : State) => mt_O D A [(ca, .inr (0, [.ref cfl, .int cn, .ref cs, .ref cg, .ref cto, .ref cq, .ref cco, .ref cnx])), (cfl, .inr (1, [.int fw, .int fh, .ref wa, .int fc, .ref ra, .ref sa, .ref ta])), (cq, .inl (cI, 25, .inl (upd qf 0 0))), (sa, .inl (cI, 25, .inl sf)), (ta, .inl (cII, 25, .inr (.inr (.inr (.inr (fun i => if i < 25 then some (rr i) else none)))))), (rr 0, .inl (cI, 5, .inl f5)), (wy0, .inl (cI, 25, .inl u))] t) A) (va_A [(ca, .inr (0, [.ref cfl, .int cn, .ref cs, .ref cg, .ref cto, .ref cq, .ref cco, .ref cnx])), (cfl, .inr (1, [.int fw, .int fh, .ref wa, .int fc, .ref ra, .ref sa, .ref ta])), (cq, .inl (cI, 25, .inl qf)), (sa, .inl (cI, 25, .inl sf)), (ta, .inl (cII, 25, .inr (.inr (.inr (.inr (fun i => if i < 25 then some (rr i) else none)))))), (rr 0, .inl (cI, 5, .inl f5)), (wy0, .inl (cI, 25, .inl wy))] sz)) 0 0 (va_A [(ca, .inr (0, [.ref cfl, .int cn, .ref cs, .ref cg, .ref cto, .ref cq, .ref cco, .ref cnx])), (cfl, .inr (1, [.int fw, .int fh, .ref wa, .int fc, .ref ra, .ref sa, .ref ta])), (cq, .inl (cI, 25, .inl qf)), (sa, .inl (cI, 25, .inl sf)), (ta, .inl (cII, 25, .inr (.inr (.inr (.inr (fun i => if i < 25 then some (rr i) else none)))))), (rr 0, .inl (cI, 5, .inl f5)), (wy0, .inl (cI, 25, .inl wy))] sz) := by
  refine mt_of (y := y_cr_measure) (n := 8) (av := [.ref ca, .int 0, .ref wy0]) (QF := (fun A => va_Qv (fun (u : (Nat → Int32)) => True) (fun (u : (Nat → Int32)) (t : State) => mt_O D A [(ca, .inr (0, [.ref cfl, .int cn, .ref cs, .ref cg, .ref cto, .ref cq, .ref cco, .ref cnx])), (cfl, .inr (1, [.int fw, .int fh, .ref wa, .int fc, .ref ra, .ref sa, .ref ta])), (cq, .inl (cI, 25, .inl (upd qf 0 0))), (sa, .inl (cI, 25, .inl sf)), (ta, .inl (cII, 25, .inr (.inr (.inr (.inr (fun i => if i < 25 then some (rr i) else none)))))), (rr 0, .inl (cI, 5, .inl f5)), (wy0, .inl (cI, 25, .inl u))] t) A)) (by decide) (Nat.le_of_ble_eq_true rfl) ?_
  intro p e s m below meth c ls A hx hb hr hlk hml hown hnm hg hl hX hP hK hD hA hS
  obtain ⟨H, hH⟩ : ∃ H : Heap, H = s.heap := ⟨_, rfl⟩
  have hS : va_S A s.heap H [] := by rw [hH]; exact va_S.rf
  rw [← hH] at hP ⊢
  have hown : s.vm.findClass R_cr = some m.cls := hown
  have hl : lv_has ls 8 [(0, .ref ca), (1, .int 0), (2, .ref wy0)] := hl
  refine lv_aload_n hx hb d_cr_measure_0 rfl (lv_at hl 2 rfl) ?_
  refine lv_iconst (v := (-1)) hx hb d_cr_measure_1 (by decide) ?_
  have hPc := hP.sub (ws' := [(wy0, .inl (cI, 25, .inl wy))]) [6] rfl
  have hDc := hD.sub (ws' := [(wy0, .inl (cI, 25, .inl wy))]) [6] (by decide) rfl
  have hFc := va_free (wc := [(wy0, .inl (cI, 25, .inl wy))]) hD hS hA [6] rfl
  refine va_callv (va_runS (As := [.ref wy0, .int (-1)]) (rest := []) ⟨hx, hb, hml, hown, hg⟩ (c_ar_fillI l D cZ cI cJ cII wy0 25 wy (-1) H.size (by decide)) ⟨callB_of 2 hg gg_cr_77 rfl rfl rfl (hg _ gi_cr_77) (hg _ gl_cr_77) (by decide +kernel) ⟨Nat.le_of_ble_eq_true rfl, Nat.le_of_ble_eq_true rfl⟩, hg _ gt_cr_77⟩ ⟨mt_bl, mt_pr hX hPc hK hDc⟩ rfl rfl hl.1 rfl (lv_room (Nat.le_of_ble_eq_true rfl)) d_cr_measure_2 ⟨Nat.le_of_ble_eq_true rfl, Nat.le_of_ble_eq_true rfl⟩) hS (fun q _ h => hFc q h) hFc (fun u t H1 locs ht hvm hw hB hz1 hk1 hS => ?_)
  obtain ⟨f12, rfl⟩ : ∃ z, z = u := ⟨_, rfl⟩
  have hr1 : ∀ j, j < (25 : Nat) → f12 j = ((-1) : Int32) := hw
  obtain ⟨hP1, hD1⟩ := hB
  rw [ht] at hP1
  obtain ⟨hP, hD⟩ := va_join (wr := [(ca, .inr (0, [.ref cfl, .int cn, .ref cs, .ref cg, .ref cto, .ref cq, .ref cco, .ref cnx])), (cfl, .inr (1, [.int fw, .int fh, .ref wa, .int fc, .ref ra, .ref sa, .ref ta])), (cq, .inl (cI, 25, .inl qf)), (sa, .inl (cI, 25, .inl sf)), (ta, .inl (cII, 25, .inr (.inr (.inr (.inr (fun i => if i < 25 then some (rr i) else none)))))), (rr 0, .inl (cI, 5, .inl f5))]) (w1 := [(wy0, .inl (cI, 25, .inl f12))]) hP hD [6] [0, 1, 2, 3, 4, 5] rfl rfl (by decide) (by decide) hk1 hFc hP1 hD1
  generalize H1 = H at hP hS ⊢
  have hP : va_P D kls [(ca, .inr (0, [.ref cfl, .int cn, .ref cs, .ref cg, .ref cto, .ref cq, .ref cco, .ref cnx])), (cfl, .inr (1, [.int fw, .int fh, .ref wa, .int fc, .ref ra, .ref sa, .ref ta])), (cq, .inl (cI, 25, .inl qf)), (sa, .inl (cI, 25, .inl sf)), (ta, .inl (cII, 25, .inr (.inr (.inr (.inr (fun i => if i < 25 then some (rr i) else none)))))), (rr 0, .inl (cI, 5, .inl f5)), (wy0, .inl (cI, 25, .inl f12))] H := hP
  have hD : va_D A [(ca, .inr (0, [.ref cfl, .int cn, .ref cs, .ref cg, .ref cto, .ref cq, .ref cco, .ref cnx])), (cfl, .inr (1, [.int fw, .int fh, .ref wa, .int fc, .ref ra, .ref sa, .ref ta])), (cq, .inl (cI, 25, .inl qf)), (sa, .inl (cI, 25, .inl sf)), (ta, .inl (cII, 25, .inr (.inr (.inr (.inr (fun i => if i < 25 then some (rr i) else none)))))), (rr 0, .inl (cI, 5, .inl f5)), (wy0, .inl (cI, 25, .inl f12))] := hD
  refine lv_aload_n hx hb d_cr_measure_5 rfl (lv_at hl 2 rfl) ?_
  refine lv_iload_n hx hb d_cr_measure_6 rfl (lv_at hl 1 rfl) ?_
  refine lv_iconst (v := 0) hx hb d_cr_measure_7 (by decide) ?_
  refine va_iast hx hb hK hP hD hS 6 1 rfl rfl (by unfold vp_in; decide) d_cr_measure_8 (fun H locs hP hD hS => ?_)
  have hP : va_P D kls [(ca, .inr (0, [.ref cfl, .int cn, .ref cs, .ref cg, .ref cto, .ref cq, .ref cco, .ref cnx])), (cfl, .inr (1, [.int fw, .int fh, .ref wa, .int fc, .ref ra, .ref sa, .ref ta])), (cq, .inl (cI, 25, .inl qf)), (sa, .inl (cI, 25, .inl sf)), (ta, .inl (cII, 25, .inr (.inr (.inr (.inr (fun i => if i < 25 then some (rr i) else none)))))), (rr 0, .inl (cI, 5, .inl f5)), (wy0, .inl (cI, 25, .inl (upd f12 (0 : Int32).toNatClampNeg 0)))] H := hP
  have hD : va_D A [(ca, .inr (0, [.ref cfl, .int cn, .ref cs, .ref cg, .ref cto, .ref cq, .ref cco, .ref cnx])), (cfl, .inr (1, [.int fw, .int fh, .ref wa, .int fc, .ref ra, .ref sa, .ref ta])), (cq, .inl (cI, 25, .inl qf)), (sa, .inl (cI, 25, .inl sf)), (ta, .inl (cII, 25, .inr (.inr (.inr (.inr (fun i => if i < 25 then some (rr i) else none)))))), (rr 0, .inl (cI, 5, .inl f5)), (wy0, .inl (cI, 25, .inl (upd f12 (0 : Int32).toNatClampNeg 0)))] := hD
  refine lv_aload_n hx hb d_cr_measure_9 rfl (lv_at hl 0 rfl) ?_
  refine gf_cr_23 hx hb hg hown hK hP 0 rfl rfl d_cr_measure_10 ?_
  refine lv_iconst (v := 0) hx hb d_cr_measure_13 (by decide) ?_
  refine lv_iload_n hx hb d_cr_measure_14 rfl (lv_at hl 1 rfl) ?_
  refine va_iast hx hb hK hP hD hS 2 1 rfl rfl (by unfold vp_in; decide) d_cr_measure_15 (fun H locs hP hD hS => ?_)
  have hP : va_P D kls [(ca, .inr (0, [.ref cfl, .int cn, .ref cs, .ref cg, .ref cto, .ref cq, .ref cco, .ref cnx])), (cfl, .inr (1, [.int fw, .int fh, .ref wa, .int fc, .ref ra, .ref sa, .ref ta])), (cq, .inl (cI, 25, .inl (upd qf 0 0))), (sa, .inl (cI, 25, .inl sf)), (ta, .inl (cII, 25, .inr (.inr (.inr (.inr (fun i => if i < 25 then some (rr i) else none)))))), (rr 0, .inl (cI, 5, .inl f5)), (wy0, .inl (cI, 25, .inl (upd f12 (0 : Int32).toNatClampNeg 0)))] H := hP
  have hD : va_D A [(ca, .inr (0, [.ref cfl, .int cn, .ref cs, .ref cg, .ref cto, .ref cq, .ref cco, .ref cnx])), (cfl, .inr (1, [.int fw, .int fh, .ref wa, .int fc, .ref ra, .ref sa, .ref ta])), (cq, .inl (cI, 25, .inl (upd qf 0 0))), (sa, .inl (cI, 25, .inl sf)), (ta, .inl (cII, 25, .inr (.inr (.inr (.inr (fun i => if i < 25 then some (rr i) else none)))))), (rr 0, .inl (cI, 5, .inl f5)), (wy0, .inl (cI, 25, .inl (upd f12 (0 : Int32).toNatClampNeg 0)))] := hD
  refine lv_iconst (v := 1) hx hb d_cr_measure_16 (by decide) ?_
  refine lv_istore_n hx hb d_cr_measure_17 rfl hl (by decide) rfl (fun ls hl => ?_)
  have hl : lv_has ls 8 [(3, .int 1), (0, .ref ca), (1, .int 0), (2, .ref wy0)] := hl
  refine lv_iconst (v := 0) hx hb d_cr_measure_18 (by decide) ?_
  refine lv_istore hx hb d_cr_measure_19 hl (by decide) rfl (fun ls hl => ?_)
  have hl : lv_has ls 8 [(4, .int 0), (3, .int 1), (0, .ref ca), (1, .int 0), (2, .ref wy0)] := hl
  refine lv_iload hx hb d_cr_measure_21 (lv_at hl 0 rfl) ?_
  refine lv_iload_n hx hb d_cr_measure_23 rfl (lv_at hl 1 rfl) ?_
  refine lv_icmp_ge hx hb d_cr_measure_24 rfl (fun h => absurd h (by decide)) (fun _ => ?_)
  refine lv_iload hx hb d_cr_measure_27 (lv_at hl 0 rfl) ?_
  refine lv_bipush (v := 25) hx hb d_cr_measure_29 (by decide) ?_
  refine lv_icmp_ge hx hb d_cr_measure_31 rfl (fun h => absurd h (by decide)) (fun _ => ?_)
  refine lv_aload_n hx hb d_cr_measure_34 rfl (lv_at hl 2 rfl) ?_
  refine gf_cr_23 hx hb hg hown hK hP 0 rfl rfl d_cr_measure_35 ?_
  refine lv_iload hx hb d_cr_measure_38 (lv_at hl 0 rfl) ?_
  refine va_iald hx hb hK hP 2 1 rfl rfl (by unfold vp_in; decide) d_cr_measure_40 ?_
  refine lv_topi (fun y3 ey3 => ?_)
  have ey3 : y3 = 0 := ey3.trans pk_us
  subst ey3
  refine lv_istore hx hb d_cr_measure_41 hl (by decide) rfl (fun ls hl => ?_)
  have hl : lv_has ls 8 [(5, .int 0), (4, .int 0), (3, .int 1), (0, .ref ca), (1, .int 0), (2, .ref wy0)] := hl
  refine lv_iconst (v := 0) hx hb d_cr_measure_43 (by decide) ?_
  refine lv_istore hx hb d_cr_measure_44 hl (by decide) rfl (fun ls hl => ?_)
  have hl : lv_has ls 8 [(6, .int 0), (5, .int 0), (4, .int 0), (3, .int 1), (0, .ref ca), (1, .int 0), (2, .ref wy0)] := hl
  refine lv_iload hx hb d_cr_measure_46 (lv_at hl 0 rfl) ?_
  refine lv_aload_n hx hb d_cr_measure_48 rfl (lv_at hl 4 rfl) ?_
  refine gf_cr_33 hx hb hg hown hK hP 0 rfl rfl d_cr_measure_49 ?_
  refine gf_cr_71 hx hb hg hown hK hP 1 rfl rfl d_cr_measure_52 ?_
  refine lv_iload hx hb d_cr_measure_55 (lv_at hl 1 rfl) ?_
  refine va_iald hx hb hK hP 3 1 rfl rfl (by unfold vp_in; decide) d_cr_measure_57 ?_
  refine lv_topi (fun y4 ey4 => ?_)
  have ey4 : y4 = 1 := ey4.trans hs0
  subst ey4
  refine lv_icmp_ge hx hb d_cr_measure_58 rfl (fun h => absurd h (by decide)) (fun _ => ?_)
  refine lv_aload_n hx hb d_cr_measure_61 rfl (lv_at hl 4 rfl) ?_
  refine gf_cr_33 hx hb hg hown hK hP 0 rfl rfl d_cr_measure_62 ?_
  refine gf_cr_74 hx hb hg hown hK hP 1 rfl rfl d_cr_measure_65 ?_
  refine lv_iload hx hb d_cr_measure_68 (lv_at hl 1 rfl) ?_
  refine mt_aald hx hb hK hP 4 3 rfl rfl (by unfold vp_in; decide) rfl d_cr_measure_70 ?_
  refine lv_iload hx hb d_cr_measure_71 (lv_at hl 0 rfl) ?_
  refine va_iald hx hb hK hP 5 1 rfl rfl (by unfold vp_in; decide) d_cr_measure_73 ?_
  refine lv_topi (fun y5 ey5 => ?_)
  have ey5 : y5 = 0 := ey5.trans hf0
  subst ey5
  refine lv_istore hx hb d_cr_measure_74 hl (by decide) rfl (fun ls hl => ?_)
  have hl : lv_has ls 8 [(7, .int 0), (6, .int 0), (5, .int 0), (4, .int 0), (3, .int 1), (0, .ref ca), (1, .int 0), (2, .ref wy0)] := hl
  refine lv_aload_n hx hb d_cr_measure_76 rfl (lv_at hl 7 rfl) ?_
  refine lv_iload hx hb d_cr_measure_77 (lv_at hl 0 rfl) ?_
  refine va_iald hx hb hK hP 6 1 rfl rfl (by unfold vp_in; decide) d_cr_measure_79 ?_
  refine lv_topi (fun y6 ey6 => ?_)
  have ey6 : y6 = 0 := ey6.trans pk_us
  subst ey6
  refine lv_iconst (v := (-1)) hx hb d_cr_measure_80 (by decide) ?_
  refine lv_icmp_ne hx hb d_cr_measure_81 rfl (fun _ => ?_) (fun h => absurd h (by decide))
  refine lv_iinc (k := 1) (v := 1) hx hb d_cr_measure_105 hl rfl (by decide) (by decide) rfl (fun ls hl => ?_)
  have hl : lv_has ls 8 [(6, .int 1), (7, .int 0), (5, .int 0), (4, .int 0), (3, .int 1), (0, .ref ca), (1, .int 0), (2, .ref wy0)] := hl
  refine lv_goto hx hb d_cr_measure_108 rfl ?_
  refine lv_iload hx hb d_cr_measure_46 (lv_at hl 0 rfl) ?_
  refine lv_aload_n hx hb d_cr_measure_48 rfl (lv_at hl 5 rfl) ?_
  refine gf_cr_33 hx hb hg hown hK hP 0 rfl rfl d_cr_measure_49 ?_
  refine gf_cr_71 hx hb hg hown hK hP 1 rfl rfl d_cr_measure_52 ?_
  refine lv_iload hx hb d_cr_measure_55 (lv_at hl 2 rfl) ?_
  refine va_iald hx hb hK hP 3 1 rfl rfl (by unfold vp_in; decide) d_cr_measure_57 ?_
  refine lv_topi (fun y7 ey7 => ?_)
  have ey7 : y7 = 1 := ey7.trans hs0
  subst ey7
  refine lv_icmp_ge hx hb d_cr_measure_58 rfl (fun _ => ?_) (fun h => absurd (by decide) h)
  refine lv_iinc (k := 3) (v := 1) hx hb d_cr_measure_111 hl rfl (by decide) (by decide) rfl (fun ls hl => ?_)
  have hl : lv_has ls 8 [(4, .int 1), (6, .int 1), (7, .int 0), (5, .int 0), (3, .int 1), (0, .ref ca), (1, .int 0), (2, .ref wy0)] := hl
  refine lv_goto hx hb d_cr_measure_114 rfl ?_
  refine lv_iload hx hb d_cr_measure_21 (lv_at hl 0 rfl) ?_
  refine lv_iload_n hx hb d_cr_measure_23 rfl (lv_at hl 4 rfl) ?_
  refine lv_icmp_ge hx hb d_cr_measure_24 rfl (fun _ => ?_) (fun h => absurd (by decide) h)
  have hP9 := hP
  have hD9 := hD
  exact W.vret hx hb hr (fun t ht hW => ⟨⟨(upd f12 (0 : Int32).toNatClampNeg 0), rfl, trivial, by rw [ht]; exact hP9, hD9⟩, hS.F ht⟩) hS.2.2 d_cr_measure_117

set_option maxHeartbeats 4000000 in
set_option maxRecDepth 100000 in
theorem c_cr_take (l : Launch) (D : va_G) (cZ cI cJ cII : ClassId) (ca : Nat) (cfl : Nat) (cs : Nat) (cg : Nat) (cto : Nat) (cq : Nat) (cco : Nat) (cnx : Nat) (fw : Int32) (fh : Int32) (wa : Nat) (fc : Int32) (ra : Nat) (sa : Nat) (ta : Nat) (s5 : Nat → Int32) (g5 : Nat → Int32) (rg : Nat → Nat) (qf : Nat → Int32) (sf : Nat → Int32) (rr : Nat → Nat) (f5 : Nat → Int32) (wy : Nat → Int32) (sz : Nat) (hs0 : sf 0 = 1) (hf0 : f5 0 = 0) : Met l y_cr_take w_cr_take ({ frames := 2, cells := 0, slots := 0, locals := 80 }) (va_Pc [.ref ca, .int 0, .int 0] (mt_B D [(cZ, .boolean), (cI, .int), (cJ, .long), (cII, .array .int)] [(ca, .inr (0, [.ref cfl, .int 0, .ref cs, .ref cg, .ref cto, .ref cq, .ref cco, .ref cnx])), (cfl, .inr (1, [.int fw, .int fh, .ref wa, .int fc, .ref ra, .ref sa, .ref ta])), (cs, .inl (cI, 5, .inl s5)), (cg, .inl (cI, 5, .inl g5)), (cto, .inl (cII, 5, .inr (.inr (.inr (.inr (fun i => if i < 5 then some (rg i) else none)))))), (cq, .inl (cI, 25, .inl qf)), (sa, .inl (cI, 25, .inl sf)), (ta, .inl (cII, 25, .inr (.inr (.inr (.inr (fun i => if i < 25 then some (rr i) else none)))))), (rr 0, .inl (cI, 5, .inl f5)), (rg 0, .inl (cI, 25, .inl wy))] sz)) ((fun A => va_Qi (fun (r : Int32) (u : (Nat → Int32)) => (r = 0) ∧ (True)) (fun (u : (Nat → Int32)) (t : State) => mt_O D A [(ca, .inr (0, [.ref cfl, .int 1, .ref cs, .ref cg, .ref cto, .ref cq, .ref cco, .ref cnx])), (cfl, .inr (1, [.int fw, .int fh, .ref wa, .int fc, .ref ra, .ref sa, .ref ta])), (cs, .inl (cI, 5, .inl (upd s5 0 0))), (cg, .inl (cI, 5, .inl (upd g5 0 0))), (cto, .inl (cII, 5, .inr (.inr (.inr (.inr (fun i => if i < 5 then some (rg i) else none)))))), (cq, .inl (cI, 25, .inl (upd qf 0 0))), (sa, .inl (cI, 25, .inl sf)), (ta, .inl (cII, 25, .inr (.inr (.inr (.inr (fun i => if i < 25 then some (rr i) else none)))))), (rr 0, .inl (cI, 5, .inl f5)), (rg 0, .inl (cI, 25, .inl u))] t) A) (va_A [(ca, .inr (0, [.ref cfl, .int 0, .ref cs, .ref cg, .ref cto, .ref cq, .ref cco, .ref cnx])), (cfl, .inr (1, [.int fw, .int fh, .ref wa, .int fc, .ref ra, .ref sa, .ref ta])), (cs, .inl (cI, 5, .inl s5)), (cg, .inl (cI, 5, .inl g5)), (cto, .inl (cII, 5, .inr (.inr (.inr (.inr (fun i => if i < 5 then some (rg i) else none)))))), (cq, .inl (cI, 25, .inl qf)), (sa, .inl (cI, 25, .inl sf)), (ta, .inl (cII, 25, .inr (.inr (.inr (.inr (fun i => if i < 25 then some (rr i) else none)))))), (rr 0, .inl (cI, 5, .inl f5)), (rg 0, .inl (cI, 25, .inl wy))] sz)) 0 0 (va_A [(ca, .inr (0, [.ref cfl, .int 0, .ref cs, .ref cg, .ref cto, .ref cq, .ref cco, .ref cnx])), (cfl, .inr (1, [.int fw, .int fh, .ref wa, .int fc, .ref ra, .ref sa, .ref ta])), (cs, .inl (cI, 5, .inl s5)), (cg, .inl (cI, 5, .inl g5)), (cto, .inl (cII, 5, .inr (.inr (.inr (.inr (fun i => if i < 5 then some (rg i) else none)))))), (cq, .inl (cI, 25, .inl qf)), (sa, .inl (cI, 25, .inl sf)), (ta, .inl (cII, 25, .inr (.inr (.inr (.inr (fun i => if i < 25 then some (rr i) else none)))))), (rr 0, .inl (cI, 5, .inl f5)), (rg 0, .inl (cI, 25, .inl wy))] sz) := by
  refine mt_of (y := y_cr_take) (n := 4) (av := [.ref ca, .int 0, .int 0]) (QF := (fun A => va_Qi (fun (r : Int32) (u : (Nat → Int32)) => (r = 0) ∧ (True)) (fun (u : (Nat → Int32)) (t : State) => mt_O D A [(ca, .inr (0, [.ref cfl, .int 1, .ref cs, .ref cg, .ref cto, .ref cq, .ref cco, .ref cnx])), (cfl, .inr (1, [.int fw, .int fh, .ref wa, .int fc, .ref ra, .ref sa, .ref ta])), (cs, .inl (cI, 5, .inl (upd s5 0 0))), (cg, .inl (cI, 5, .inl (upd g5 0 0))), (cto, .inl (cII, 5, .inr (.inr (.inr (.inr (fun i => if i < 5 then some (rg i) else none)))))), (cq, .inl (cI, 25, .inl (upd qf 0 0))), (sa, .inl (cI, 25, .inl sf)), (ta, .inl (cII, 25, .inr (.inr (.inr (.inr (fun i => if i < 25 then some (rr i) else none)))))), (rr 0, .inl (cI, 5, .inl f5)), (rg 0, .inl (cI, 25, .inl u))] t) A)) (by decide) (Nat.le_of_ble_eq_true rfl) ?_
  intro p e s m below meth c ls A hx hb hr hlk hml hown hnm hg hl hX hP hK hD hA hS
  obtain ⟨H, hH⟩ : ∃ H : Heap, H = s.heap := ⟨_, rfl⟩
  have hS : va_S A s.heap H [] := by rw [hH]; exact va_S.rf
  rw [← hH] at hP ⊢
  have hown : s.vm.findClass R_cr = some m.cls := hown
  have hl : lv_has ls 4 [(0, .ref ca), (1, .int 0), (2, .int 0)] := hl
  refine lv_aload_n hx hb d_cr_take_0 rfl (lv_at hl 0 rfl) ?_
  refine gf_cr_37 hx hb hg hown hK hP 0 rfl rfl d_cr_take_1 ?_
  refine lv_istore_n hx hb d_cr_take_4 rfl hl (by decide) rfl (fun ls hl => ?_)
  have hl : lv_has ls 4 [(3, .int 0), (0, .ref ca), (1, .int 0), (2, .int 0)] := hl
  refine lv_aload_n hx hb d_cr_take_5 rfl (lv_at hl 1 rfl) ?_
  refine gf_cr_9 hx hb hg hown hK hP 0 rfl rfl d_cr_take_6 ?_
  refine lv_iload_n hx hb d_cr_take_9 rfl (lv_at hl 0 rfl) ?_
  refine lv_iload_n hx hb d_cr_take_10 rfl (lv_at hl 2 rfl) ?_
  refine va_iast hx hb hK hP hD hS 2 1 rfl rfl (by unfold vp_in; decide) d_cr_take_11 (fun H locs hP hD hS => ?_)
  have hP : va_P D kls [(ca, .inr (0, [.ref cfl, .int 0, .ref cs, .ref cg, .ref cto, .ref cq, .ref cco, .ref cnx])), (cfl, .inr (1, [.int fw, .int fh, .ref wa, .int fc, .ref ra, .ref sa, .ref ta])), (cs, .inl (cI, 5, .inl (upd s5 0 0))), (cg, .inl (cI, 5, .inl g5)), (cto, .inl (cII, 5, .inr (.inr (.inr (.inr (fun i => if i < 5 then some (rg i) else none)))))), (cq, .inl (cI, 25, .inl qf)), (sa, .inl (cI, 25, .inl sf)), (ta, .inl (cII, 25, .inr (.inr (.inr (.inr (fun i => if i < 25 then some (rr i) else none)))))), (rr 0, .inl (cI, 5, .inl f5)), (rg 0, .inl (cI, 25, .inl wy))] H := hP
  have hD : va_D A [(ca, .inr (0, [.ref cfl, .int 0, .ref cs, .ref cg, .ref cto, .ref cq, .ref cco, .ref cnx])), (cfl, .inr (1, [.int fw, .int fh, .ref wa, .int fc, .ref ra, .ref sa, .ref ta])), (cs, .inl (cI, 5, .inl (upd s5 0 0))), (cg, .inl (cI, 5, .inl g5)), (cto, .inl (cII, 5, .inr (.inr (.inr (.inr (fun i => if i < 5 then some (rg i) else none)))))), (cq, .inl (cI, 25, .inl qf)), (sa, .inl (cI, 25, .inl sf)), (ta, .inl (cII, 25, .inr (.inr (.inr (.inr (fun i => if i < 25 then some (rr i) else none)))))), (rr 0, .inl (cI, 5, .inl f5)), (rg 0, .inl (cI, 25, .inl wy))] := hD
  refine lv_aload_n hx hb d_cr_take_12 rfl (lv_at hl 1 rfl) ?_
  refine gf_cr_15 hx hb hg hown hK hP 0 rfl rfl d_cr_take_13 ?_
  refine lv_iload_n hx hb d_cr_take_16 rfl (lv_at hl 0 rfl) ?_
  refine lv_iload_n hx hb d_cr_take_17 rfl (lv_at hl 3 rfl) ?_
  refine va_iast hx hb hK hP hD hS 3 1 rfl rfl (by unfold vp_in; decide) d_cr_take_18 (fun H locs hP hD hS => ?_)
  have hP : va_P D kls [(ca, .inr (0, [.ref cfl, .int 0, .ref cs, .ref cg, .ref cto, .ref cq, .ref cco, .ref cnx])), (cfl, .inr (1, [.int fw, .int fh, .ref wa, .int fc, .ref ra, .ref sa, .ref ta])), (cs, .inl (cI, 5, .inl (upd s5 0 0))), (cg, .inl (cI, 5, .inl (upd g5 0 0))), (cto, .inl (cII, 5, .inr (.inr (.inr (.inr (fun i => if i < 5 then some (rg i) else none)))))), (cq, .inl (cI, 25, .inl qf)), (sa, .inl (cI, 25, .inl sf)), (ta, .inl (cII, 25, .inr (.inr (.inr (.inr (fun i => if i < 25 then some (rr i) else none)))))), (rr 0, .inl (cI, 5, .inl f5)), (rg 0, .inl (cI, 25, .inl wy))] H := hP
  have hD : va_D A [(ca, .inr (0, [.ref cfl, .int 0, .ref cs, .ref cg, .ref cto, .ref cq, .ref cco, .ref cnx])), (cfl, .inr (1, [.int fw, .int fh, .ref wa, .int fc, .ref ra, .ref sa, .ref ta])), (cs, .inl (cI, 5, .inl (upd s5 0 0))), (cg, .inl (cI, 5, .inl (upd g5 0 0))), (cto, .inl (cII, 5, .inr (.inr (.inr (.inr (fun i => if i < 5 then some (rg i) else none)))))), (cq, .inl (cI, 25, .inl qf)), (sa, .inl (cI, 25, .inl sf)), (ta, .inl (cII, 25, .inr (.inr (.inr (.inr (fun i => if i < 25 then some (rr i) else none)))))), (rr 0, .inl (cI, 5, .inl f5)), (rg 0, .inl (cI, 25, .inl wy))] := hD
  refine lv_aload_n hx hb d_cr_take_19 rfl (lv_at hl 1 rfl) ?_
  refine lv_dup hx hb d_cr_take_20 rfl ?_
  refine gf_cr_37 hx hb hg hown hK hP 0 rfl rfl d_cr_take_21 ?_
  refine lv_iconst (v := 1) hx hb d_cr_take_24 (by decide) ?_
  refine lv_iadd hx hb d_cr_take_25 ?_
  refine lv_topi (fun y1 ey1 => ?_)
  have ey1 : y1 = 1 := ey1.trans (by decide)
  subst ey1
  refine pf_cr_37 hx hb hg hown hK hP hD hS 0 rfl rfl rfl (Nat.le_of_ble_eq_true rfl) d_cr_take_26 (fun H locs hP hD hS => ?_)
  have hP : va_P D kls [(ca, .inr (0, [.ref cfl, .int 1, .ref cs, .ref cg, .ref cto, .ref cq, .ref cco, .ref cnx])), (cfl, .inr (1, [.int fw, .int fh, .ref wa, .int fc, .ref ra, .ref sa, .ref ta])), (cs, .inl (cI, 5, .inl (upd s5 0 0))), (cg, .inl (cI, 5, .inl (upd g5 0 0))), (cto, .inl (cII, 5, .inr (.inr (.inr (.inr (fun i => if i < 5 then some (rg i) else none)))))), (cq, .inl (cI, 25, .inl qf)), (sa, .inl (cI, 25, .inl sf)), (ta, .inl (cII, 25, .inr (.inr (.inr (.inr (fun i => if i < 25 then some (rr i) else none)))))), (rr 0, .inl (cI, 5, .inl f5)), (rg 0, .inl (cI, 25, .inl wy))] H := hP
  have hD : va_D A [(ca, .inr (0, [.ref cfl, .int 1, .ref cs, .ref cg, .ref cto, .ref cq, .ref cco, .ref cnx])), (cfl, .inr (1, [.int fw, .int fh, .ref wa, .int fc, .ref ra, .ref sa, .ref ta])), (cs, .inl (cI, 5, .inl (upd s5 0 0))), (cg, .inl (cI, 5, .inl (upd g5 0 0))), (cto, .inl (cII, 5, .inr (.inr (.inr (.inr (fun i => if i < 5 then some (rg i) else none)))))), (cq, .inl (cI, 25, .inl qf)), (sa, .inl (cI, 25, .inl sf)), (ta, .inl (cII, 25, .inr (.inr (.inr (.inr (fun i => if i < 25 then some (rr i) else none)))))), (rr 0, .inl (cI, 5, .inl f5)), (rg 0, .inl (cI, 25, .inl wy))] := hD
  refine lv_aload_n hx hb d_cr_take_29 rfl (lv_at hl 1 rfl) ?_
  refine lv_iload_n hx hb d_cr_take_30 rfl (lv_at hl 3 rfl) ?_
  refine lv_aload_n hx hb d_cr_take_31 rfl (lv_at hl 1 rfl) ?_
  refine gf_cr_20 hx hb hg hown hK hP 0 rfl rfl d_cr_take_32 ?_
  refine lv_iload_n hx hb d_cr_take_35 rfl (lv_at hl 0 rfl) ?_
  refine mt_aald hx hb hK hP 4 3 rfl rfl (by unfold vp_in; decide) rfl d_cr_take_36 ?_
  have hPc := hP.sub (ws' := [(ca, .inr (0, [.ref cfl, .int 1, .ref cs, .ref cg, .ref cto, .ref cq, .ref cco, .ref cnx])), (cfl, .inr (1, [.int fw, .int fh, .ref wa, .int fc, .ref ra, .ref sa, .ref ta])), (cq, .inl (cI, 25, .inl qf)), (sa, .inl (cI, 25, .inl sf)), (ta, .inl (cII, 25, .inr (.inr (.inr (.inr (fun i => if i < 25 then some (rr i) else none)))))), (rr 0, .inl (cI, 5, .inl f5)), (rg 0, .inl (cI, 25, .inl wy))]) [0, 1, 5, 6, 7, 8, 9] rfl
  have hDc := hD.sub (ws' := [(ca, .inr (0, [.ref cfl, .int 1, .ref cs, .ref cg, .ref cto, .ref cq, .ref cco, .ref cnx])), (cfl, .inr (1, [.int fw, .int fh, .ref wa, .int fc, .ref ra, .ref sa, .ref ta])), (cq, .inl (cI, 25, .inl qf)), (sa, .inl (cI, 25, .inl sf)), (ta, .inl (cII, 25, .inr (.inr (.inr (.inr (fun i => if i < 25 then some (rr i) else none)))))), (rr 0, .inl (cI, 5, .inl f5)), (rg 0, .inl (cI, 25, .inl wy))]) [0, 1, 5, 6, 7, 8, 9] (by decide) rfl
  have hFc := va_free (wc := [(ca, .inr (0, [.ref cfl, .int 1, .ref cs, .ref cg, .ref cto, .ref cq, .ref cco, .ref cnx])), (cfl, .inr (1, [.int fw, .int fh, .ref wa, .int fc, .ref ra, .ref sa, .ref ta])), (cq, .inl (cI, 25, .inl qf)), (sa, .inl (cI, 25, .inl sf)), (ta, .inl (cII, 25, .inr (.inr (.inr (.inr (fun i => if i < 25 then some (rr i) else none)))))), (rr 0, .inl (cI, 5, .inl f5)), (rg 0, .inl (cI, 25, .inl wy))]) hD hS hA [0, 1, 5, 6, 7, 8, 9] rfl
  refine va_callv (va_runV (As := [.int 0, .ref (rg 0)]) (rest := []) ⟨hx, hb, hml, hown, hg⟩ (c_cr_measure l D cZ cI cJ cII ca cfl 1 cs cg cto cq cco cnx fw fh wa fc ra sa ta qf sf rr f5 (rg 0) wy H.size hs0 hf0) (cwV 2 hg gv_cr_46 rfl rfl rfl (by decide +kernel) ⟨Nat.le_of_ble_eq_true rfl, Nat.le_of_ble_eq_true rfl⟩) ⟨mt_bl, va_recv (q0 := 0) (ci := 0) hK hP rfl rfl, mt_pr hX hPc hK hDc⟩ rfl rfl hl.1 rfl (lv_room (Nat.le_of_ble_eq_true rfl)) d_cr_take_37 ⟨Nat.le_of_ble_eq_true rfl, Nat.le_of_ble_eq_true rfl⟩) hS (fun q _ h => hFc q h) hFc (fun u t H1 locs ht hvm hw hB hz1 hk1 hS => ?_)
  obtain ⟨wy13, rfl⟩ : ∃ z, z = u := ⟨_, rfl⟩
  obtain ⟨hP1, hD1⟩ := hB
  rw [ht] at hP1
  obtain ⟨hP, hD⟩ := va_join (wr := [(cs, .inl (cI, 5, .inl (upd s5 0 0))), (cg, .inl (cI, 5, .inl (upd g5 0 0))), (cto, .inl (cII, 5, .inr (.inr (.inr (.inr (fun i => if i < 5 then some (rg i) else none))))))]) (w1 := [(ca, .inr (0, [.ref cfl, .int 1, .ref cs, .ref cg, .ref cto, .ref cq, .ref cco, .ref cnx])), (cfl, .inr (1, [.int fw, .int fh, .ref wa, .int fc, .ref ra, .ref sa, .ref ta])), (cq, .inl (cI, 25, .inl (upd qf 0 0))), (sa, .inl (cI, 25, .inl sf)), (ta, .inl (cII, 25, .inr (.inr (.inr (.inr (fun i => if i < 25 then some (rr i) else none)))))), (rr 0, .inl (cI, 5, .inl f5)), (rg 0, .inl (cI, 25, .inl wy13))]) hP hD [0, 1, 5, 6, 7, 8, 9] [2, 3, 4] rfl rfl (by decide) (by decide) hk1 hFc hP1 hD1
  generalize H1 = H at hP hS ⊢
  have hP : va_P D kls [(cs, .inl (cI, 5, .inl (upd s5 0 0))), (cg, .inl (cI, 5, .inl (upd g5 0 0))), (cto, .inl (cII, 5, .inr (.inr (.inr (.inr (fun i => if i < 5 then some (rg i) else none)))))), (ca, .inr (0, [.ref cfl, .int 1, .ref cs, .ref cg, .ref cto, .ref cq, .ref cco, .ref cnx])), (cfl, .inr (1, [.int fw, .int fh, .ref wa, .int fc, .ref ra, .ref sa, .ref ta])), (cq, .inl (cI, 25, .inl (upd qf 0 0))), (sa, .inl (cI, 25, .inl sf)), (ta, .inl (cII, 25, .inr (.inr (.inr (.inr (fun i => if i < 25 then some (rr i) else none)))))), (rr 0, .inl (cI, 5, .inl f5)), (rg 0, .inl (cI, 25, .inl wy13))] H := hP
  have hD : va_D A [(cs, .inl (cI, 5, .inl (upd s5 0 0))), (cg, .inl (cI, 5, .inl (upd g5 0 0))), (cto, .inl (cII, 5, .inr (.inr (.inr (.inr (fun i => if i < 5 then some (rg i) else none)))))), (ca, .inr (0, [.ref cfl, .int 1, .ref cs, .ref cg, .ref cto, .ref cq, .ref cco, .ref cnx])), (cfl, .inr (1, [.int fw, .int fh, .ref wa, .int fc, .ref ra, .ref sa, .ref ta])), (cq, .inl (cI, 25, .inl (upd qf 0 0))), (sa, .inl (cI, 25, .inl sf)), (ta, .inl (cII, 25, .inr (.inr (.inr (.inr (fun i => if i < 25 then some (rr i) else none)))))), (rr 0, .inl (cI, 5, .inl f5)), (rg 0, .inl (cI, 25, .inl wy13))] := hD
  refine lv_iload_n hx hb d_cr_take_40 rfl (lv_at hl 0 rfl) ?_
  have hP9 := hP.sub (ws' := [(ca, .inr (0, [.ref cfl, .int 1, .ref cs, .ref cg, .ref cto, .ref cq, .ref cco, .ref cnx])), (cfl, .inr (1, [.int fw, .int fh, .ref wa, .int fc, .ref ra, .ref sa, .ref ta])), (cs, .inl (cI, 5, .inl (upd s5 0 0))), (cg, .inl (cI, 5, .inl (upd g5 0 0))), (cto, .inl (cII, 5, .inr (.inr (.inr (.inr (fun i => if i < 5 then some (rg i) else none)))))), (cq, .inl (cI, 25, .inl (upd qf 0 0))), (sa, .inl (cI, 25, .inl sf)), (ta, .inl (cII, 25, .inr (.inr (.inr (.inr (fun i => if i < 25 then some (rr i) else none)))))), (rr 0, .inl (cI, 5, .inl f5)), (rg 0, .inl (cI, 25, .inl wy13))]) [3, 4, 0, 1, 2, 5, 6, 7, 8, 9] rfl
  have hD9 := hD.sub (ws' := [(ca, .inr (0, [.ref cfl, .int 1, .ref cs, .ref cg, .ref cto, .ref cq, .ref cco, .ref cnx])), (cfl, .inr (1, [.int fw, .int fh, .ref wa, .int fc, .ref ra, .ref sa, .ref ta])), (cs, .inl (cI, 5, .inl (upd s5 0 0))), (cg, .inl (cI, 5, .inl (upd g5 0 0))), (cto, .inl (cII, 5, .inr (.inr (.inr (.inr (fun i => if i < 5 then some (rg i) else none)))))), (cq, .inl (cI, 25, .inl (upd qf 0 0))), (sa, .inl (cI, 25, .inl sf)), (ta, .inl (cII, 25, .inr (.inr (.inr (.inr (fun i => if i < 25 then some (rr i) else none)))))), (rr 0, .inl (cI, 5, .inl f5)), (rg 0, .inl (cI, 25, .inl wy13))]) [3, 4, 0, 1, 2, 5, 6, 7, 8, 9] (by decide) rfl
  exact W.iret hx hb hr (fun t ht hW => ⟨⟨0, wy13, rfl, ⟨rfl, trivial⟩, by rw [ht]; exact hP9, hD9⟩, hS.F ht⟩) hS.2.2 d_cr_take_41

set_option maxHeartbeats 4000000 in
set_option maxRecDepth 100000 in
theorem c_cr_sumOfWays (l : Launch) (D : va_G) (cZ cI cJ cII : ClassId) (ca : Nat) (cfl : Nat) (cs : Nat) (cg : Nat) (cto : Nat) (cq : Nat) (cco : Nat) (cnx : Nat) (sz : Nat)  : Met l y_cr_sumOfWays w_cr_sumOfWays ({ frames := 0, cells := 0, slots := 0, locals := 0 }) (va_Pc [.ref ca] (mt_B D [(cZ, .boolean), (cI, .int), (cJ, .long), (cII, .array .int)] [(ca, .inr (0, [.ref cfl, .int 0, .ref cs, .ref cg, .ref cto, .ref cq, .ref cco, .ref cnx]))] sz)) (vp_Si (fun r : Int32 => r = 0)) 0 0 (fun _ => False) := by
  refine mt_ofR (by decide) (Nat.le_of_ble_eq_true rfl) ?_
  intro p e s m below meth c ls hx hb hr hlk hml hown hg hl hX hP hK hD
  have hown : s.vm.findClass R_cr = some m.cls := hown
  obtain ⟨H, hH⟩ : ∃ H : Heap, H = s.heap := ⟨_, rfl⟩
  rw [← hH] at hP ⊢
  have hl : lv_has ls 4 [(0, .ref ca)] := hl
  refine lv_iconst (v := 0) hx hb d_cr_sumOfWays_0 (by decide) ?_
  refine lv_istore_n hx hb d_cr_sumOfWays_1 rfl hl (by decide) rfl (fun ls hl => ?_)
  have hl : lv_has ls 4 [(1, .int 0), (0, .ref ca)] := hl
  refine lv_iconst (v := 0) hx hb d_cr_sumOfWays_2 (by decide) ?_
  refine lv_istore_n hx hb d_cr_sumOfWays_3 rfl hl (by decide) rfl (fun ls hl => ?_)
  have hl : lv_has ls 4 [(2, .int 0), (1, .int 0), (0, .ref ca)] := hl
  refine lv_iload_n hx hb d_cr_sumOfWays_4 rfl (lv_at hl 0 rfl) ?_
  refine lv_aload_n hx hb d_cr_sumOfWays_5 rfl (lv_at hl 2 rfl) ?_
  refine gf_cr_37 hx hb hg hown hK hP 0 rfl rfl d_cr_sumOfWays_6 ?_
  refine lv_icmp_ge hx hb d_cr_sumOfWays_9 rfl (fun _ => ?_) (fun h => absurd (by decide) h)
  refine lv_iload_n hx hb d_cr_sumOfWays_35 rfl (lv_at hl 1 rfl) ?_
  exact W.iret hx hb hr (fun t ht _ => ⟨0, rfl, rfl, ht.trans hH⟩) (fun _ h => absurd h List.not_mem_nil) d_cr_sumOfWays_36

set_option maxHeartbeats 4000000 in
set_option maxRecDepth 100000 in
theorem c_le_reset (l : Launch) (D : va_G) (cZ cI cJ cII : ClassId) (la : Nat) (lwo : Nat) (jf : Nat → Int64) (sz : Nat)  : Met l y_le_reset w_le_reset ({ frames := 1, cells := 0, slots := 0, locals := 40 }) (va_Pc [.ref la] (mt_B D [(cZ, .boolean), (cI, .int), (cJ, .long), (cII, .array .int)] [(la, .inr (3, [.ref lwo])), (lwo, .inl (cJ, 1296, .inr (.inl jf)))] sz)) ((fun A => va_Qv (fun (u : (Nat → Int64)) => True) (fun (u : (Nat → Int64)) (t : State) => mt_O D A [(la, .inr (3, [.ref lwo])), (lwo, .inl (cJ, 1296, .inr (.inl u)))] t) A) (va_A [(la, .inr (3, [.ref lwo])), (lwo, .inl (cJ, 1296, .inr (.inl jf)))] sz)) 0 0 (va_A [(la, .inr (3, [.ref lwo])), (lwo, .inl (cJ, 1296, .inr (.inl jf)))] sz) := by
  refine mt_of (y := y_le_reset) (n := 1) (av := [.ref la]) (QF := (fun A => va_Qv (fun (u : (Nat → Int64)) => True) (fun (u : (Nat → Int64)) (t : State) => mt_O D A [(la, .inr (3, [.ref lwo])), (lwo, .inl (cJ, 1296, .inr (.inl u)))] t) A)) (by decide) (Nat.le_of_ble_eq_true rfl) ?_
  intro p e s m below meth c ls A hx hb hr hlk hml hown hnm hg hl hX hP hK hD hA hS
  obtain ⟨H, hH⟩ : ∃ H : Heap, H = s.heap := ⟨_, rfl⟩
  have hS : va_S A s.heap H [] := by rw [hH]; exact va_S.rf
  rw [← hH] at hP ⊢
  have hown : s.vm.findClass R_le = some m.cls := hown
  have hl : lv_has ls 1 [(0, .ref la)] := hl
  refine lv_aload_n hx hb d_le_reset_0 rfl (lv_at hl 0 rfl) ?_
  refine gf_le_9 hx hb hg hown hK hP 0 rfl rfl d_le_reset_1 ?_
  refine lv_lconst (v := 0) hx hb d_le_reset_4 (by decide) ?_
  have hPc := hP.sub (ws' := [(lwo, .inl (cJ, 1296, .inr (.inl jf)))]) [1] rfl
  have hDc := hD.sub (ws' := [(lwo, .inl (cJ, 1296, .inr (.inl jf)))]) [1] (by decide) rfl
  have hFc := va_free (wc := [(lwo, .inl (cJ, 1296, .inr (.inl jf)))]) hD hS hA [1] rfl
  refine va_callv (va_runS (As := [.ref lwo, .long 0]) (rest := []) ⟨hx, hb, hml, hown, hg⟩ (c_ar_fillJ l D cZ cI cJ cII lwo 1296 jf 0 H.size (by decide)) ⟨callB_of 2 hg gg_le_15 rfl rfl rfl (hg _ gi_le_15) (hg _ gl_le_15) (by decide +kernel) ⟨Nat.le_of_ble_eq_true rfl, Nat.le_of_ble_eq_true rfl⟩, hg _ gt_le_15⟩ ⟨mt_bl, mt_pr hX hPc hK hDc⟩ rfl rfl hl.1 rfl (lv_room (Nat.le_of_ble_eq_true rfl)) d_le_reset_5 ⟨Nat.le_of_ble_eq_true rfl, Nat.le_of_ble_eq_true rfl⟩) hS (fun q _ h => hFc q h) hFc (fun u t H1 locs ht hvm hw hB hz1 hk1 hS => ?_)
  obtain ⟨f12, rfl⟩ : ∃ z, z = u := ⟨_, rfl⟩
  have hr1 : ∀ j, j < (1296 : Nat) → f12 j = (0 : Int64) := hw
  obtain ⟨hP1, hD1⟩ := hB
  rw [ht] at hP1
  obtain ⟨hP, hD⟩ := va_join (wr := [(la, .inr (3, [.ref lwo]))]) (w1 := [(lwo, .inl (cJ, 1296, .inr (.inl f12)))]) hP hD [1] [0] rfl rfl (by decide) (by decide) hk1 hFc hP1 hD1
  generalize H1 = H at hP hS ⊢
  have hP : va_P D kls [(la, .inr (3, [.ref lwo])), (lwo, .inl (cJ, 1296, .inr (.inl f12)))] H := hP
  have hD : va_D A [(la, .inr (3, [.ref lwo])), (lwo, .inl (cJ, 1296, .inr (.inl f12)))] := hD
  have hP9 := hP
  have hD9 := hD
  exact W.vret hx hb hr (fun t ht hW => ⟨⟨f12, rfl, trivial, by rw [ht]; exact hP9, hD9⟩, hS.F ht⟩) hS.2.2 d_le_reset_8

set_option maxHeartbeats 4000000 in
set_option maxRecDepth 100000 in
theorem c_pn_begin (l : Launch) (D : va_G) (cZ cI cJ cII : ClassId) (pa : Nat) (pfl : Nat) (pce : Nat) (pse : Nat) (ppl : Nat) (pen : Int32) (psu : Int32) (pnm : Int32) (pkn : Int32) (pfo : Int32) (ca : Nat) (cfl : Nat) (cs : Nat) (cg : Nat) (cto : Nat) (cq : Nat) (cco : Nat) (cnx : Nat) (la : Nat) (lwo : Nat) (jf : Nat → Int64) (sz : Nat)  : Met l y_pn_begin w_pn_begin ({ frames := 2, cells := 0, slots := 0, locals := 80 }) (va_Pc [.ref pa] (mt_B D [(cZ, .boolean), (cI, .int), (cJ, .long), (cII, .array .int)] [(pa, .inr (4, [.ref pfl, .ref ca, .ref la, .ref pce, .ref pse, .ref ppl, .int pen, .int psu, .int pnm, .int pkn, .int pfo])), (ca, .inr (0, [.ref cfl, .int 0, .ref cs, .ref cg, .ref cto, .ref cq, .ref cco, .ref cnx])), (la, .inr (3, [.ref lwo])), (lwo, .inl (cJ, 1296, .inr (.inl jf)))] sz)) ((fun A => va_Qv (fun (u : (Nat → Int64)) => True) (fun (u : (Nat → Int64)) (t : State) => mt_O D A [(pa, .inr (4, [.ref pfl, .ref ca, .ref la, .ref pce, .ref pse, .ref ppl, .int pen, .int psu, .int pnm, .int pkn, .int pfo])), (ca, .inr (0, [.ref cfl, .int 0, .ref cs, .ref cg, .ref cto, .ref cq, .ref cco, .ref cnx])), (la, .inr (3, [.ref lwo])), (lwo, .inl (cJ, 1296, .inr (.inl u)))] t) A) (va_A [(pa, .inr (4, [.ref pfl, .ref ca, .ref la, .ref pce, .ref pse, .ref ppl, .int pen, .int psu, .int pnm, .int pkn, .int pfo])), (ca, .inr (0, [.ref cfl, .int 0, .ref cs, .ref cg, .ref cto, .ref cq, .ref cco, .ref cnx])), (la, .inr (3, [.ref lwo])), (lwo, .inl (cJ, 1296, .inr (.inl jf)))] sz)) 0 0 (va_A [(pa, .inr (4, [.ref pfl, .ref ca, .ref la, .ref pce, .ref pse, .ref ppl, .int pen, .int psu, .int pnm, .int pkn, .int pfo])), (ca, .inr (0, [.ref cfl, .int 0, .ref cs, .ref cg, .ref cto, .ref cq, .ref cco, .ref cnx])), (la, .inr (3, [.ref lwo])), (lwo, .inl (cJ, 1296, .inr (.inl jf)))] sz) := by
  refine mt_of (y := y_pn_begin) (n := 2) (av := [.ref pa]) (QF := (fun A => va_Qv (fun (u : (Nat → Int64)) => True) (fun (u : (Nat → Int64)) (t : State) => mt_O D A [(pa, .inr (4, [.ref pfl, .ref ca, .ref la, .ref pce, .ref pse, .ref ppl, .int pen, .int psu, .int pnm, .int pkn, .int pfo])), (ca, .inr (0, [.ref cfl, .int 0, .ref cs, .ref cg, .ref cto, .ref cq, .ref cco, .ref cnx])), (la, .inr (3, [.ref lwo])), (lwo, .inl (cJ, 1296, .inr (.inl u)))] t) A)) (by decide) (Nat.le_of_ble_eq_true rfl) ?_
  intro p e s m below meth c ls A hx hb hr hlk hml hown hnm hg hl hX hP hK hD hA hS
  obtain ⟨H, hH⟩ : ∃ H : Heap, H = s.heap := ⟨_, rfl⟩
  have hS : va_S A s.heap H [] := by rw [hH]; exact va_S.rf
  rw [← hH] at hP ⊢
  have hown : s.vm.findClass R_pn = some m.cls := hown
  have hl : lv_has ls 2 [(0, .ref pa)] := hl
  refine lv_aload_n hx hb d_pn_begin_0 rfl (lv_at hl 0 rfl) ?_
  refine gf_pn_12 hx hb hg hown hK hP 0 rfl rfl d_pn_begin_1 ?_
  have hPc := hP.sub (ws' := [(la, .inr (3, [.ref lwo])), (lwo, .inl (cJ, 1296, .inr (.inl jf)))]) [2, 3] rfl
  have hDc := hD.sub (ws' := [(la, .inr (3, [.ref lwo])), (lwo, .inl (cJ, 1296, .inr (.inl jf)))]) [2, 3] (by decide) rfl
  have hFc := va_free (wc := [(la, .inr (3, [.ref lwo])), (lwo, .inl (cJ, 1296, .inr (.inl jf)))]) hD hS hA [2, 3] rfl
  refine va_callv (va_runV (As := []) (rest := []) ⟨hx, hb, hml, hown, hg⟩ (c_le_reset l D cZ cI cJ cII la lwo jf H.size ) (cwV 0 hg gv_pn_80 rfl rfl rfl (by decide +kernel) ⟨Nat.le_of_ble_eq_true rfl, Nat.le_of_ble_eq_true rfl⟩) ⟨mt_bl, va_recv (q0 := 2) (ci := 3) hK hP rfl rfl, mt_pr hX hPc hK hDc⟩ rfl rfl hl.1 rfl (lv_room (Nat.le_of_ble_eq_true rfl)) d_pn_begin_4 ⟨Nat.le_of_ble_eq_true rfl, Nat.le_of_ble_eq_true rfl⟩) hS (fun q _ h => hFc q h) hFc (fun u t H1 locs ht hvm hw hB hz1 hk1 hS => ?_)
  obtain ⟨jf12, rfl⟩ : ∃ z, z = u := ⟨_, rfl⟩
  obtain ⟨hP1, hD1⟩ := hB
  rw [ht] at hP1
  obtain ⟨hP, hD⟩ := va_join (wr := [(pa, .inr (4, [.ref pfl, .ref ca, .ref la, .ref pce, .ref pse, .ref ppl, .int pen, .int psu, .int pnm, .int pkn, .int pfo])), (ca, .inr (0, [.ref cfl, .int 0, .ref cs, .ref cg, .ref cto, .ref cq, .ref cco, .ref cnx]))]) (w1 := [(la, .inr (3, [.ref lwo])), (lwo, .inl (cJ, 1296, .inr (.inl jf12)))]) hP hD [2, 3] [0, 1] rfl rfl (by decide) (by decide) hk1 hFc hP1 hD1
  generalize H1 = H at hP hS ⊢
  have hP : va_P D kls [(pa, .inr (4, [.ref pfl, .ref ca, .ref la, .ref pce, .ref pse, .ref ppl, .int pen, .int psu, .int pnm, .int pkn, .int pfo])), (ca, .inr (0, [.ref cfl, .int 0, .ref cs, .ref cg, .ref cto, .ref cq, .ref cco, .ref cnx])), (la, .inr (3, [.ref lwo])), (lwo, .inl (cJ, 1296, .inr (.inl jf12)))] H := hP
  have hD : va_D A [(pa, .inr (4, [.ref pfl, .ref ca, .ref la, .ref pce, .ref pse, .ref ppl, .int pen, .int psu, .int pnm, .int pkn, .int pfo])), (ca, .inr (0, [.ref cfl, .int 0, .ref cs, .ref cg, .ref cto, .ref cq, .ref cco, .ref cnx])), (la, .inr (3, [.ref lwo])), (lwo, .inl (cJ, 1296, .inr (.inl jf12)))] := hD
  refine lv_iconst (v := 0) hx hb d_pn_begin_7 (by decide) ?_
  refine lv_istore_n hx hb d_pn_begin_8 rfl hl (by decide) rfl (fun ls hl => ?_)
  have hl : lv_has ls 2 [(1, .int 0), (0, .ref pa)] := hl
  refine lv_iload_n hx hb d_pn_begin_9 rfl (lv_at hl 0 rfl) ?_
  refine lv_aload_n hx hb d_pn_begin_10 rfl (lv_at hl 1 rfl) ?_
  refine gf_pn_34 hx hb hg hown hK hP 0 rfl rfl d_pn_begin_11 ?_
  refine gf_pn_83 hx hb hg hown hK hP 1 rfl rfl d_pn_begin_14 ?_
  refine lv_icmp_ge hx hb d_pn_begin_17 rfl (fun _ => ?_) (fun h => absurd (by decide) h)
  have hP9 := hP
  have hD9 := hD
  exact W.vret hx hb hr (fun t ht hW => ⟨⟨jf12, rfl, trivial, by rw [ht]; exact hP9, hD9⟩, hS.F ht⟩) hS.2.2 d_pn_begin_43

set_option maxHeartbeats 4000000 in
set_option maxRecDepth 100000 in
theorem c_pn_startSearch (l : Launch) (D : va_G) (cZ cI cJ cII : ClassId) (pa : Nat) (pfl : Nat) (pho : Nat) (pce : Nat) (pse : Nat) (ppl : Nat) (pen : Int32) (psu : Int32) (pnm : Int32) (pkn : Int32) (pfo : Int32) (ca : Nat) (cfl : Nat) (cs : Nat) (cg : Nat) (cto : Nat) (cq : Nat) (cco : Nat) (cnx : Nat) (tf : Nat → Int32) (su : Int32) (sz : Nat)  : Met l y_pn_startSearch w_pn_startSearch ({ frames := 0, cells := 0, slots := 0, locals := 0 }) (va_Pc [.ref pa, .int 0, .int 0, .int su] (mt_B D [(cZ, .boolean), (cI, .int), (cJ, .long), (cII, .array .int)] [(pa, .inr (4, [.ref pfl, .ref ca, .ref pho, .ref pce, .ref pse, .ref ppl, .int pen, .int psu, .int pnm, .int pkn, .int pfo])), (ca, .inr (0, [.ref cfl, .int 0, .ref cs, .ref cg, .ref cto, .ref cq, .ref cco, .ref cnx])), (pse, .inl (cI, 32, .inl tf))] sz)) ((fun A => va_Qi (fun (r : Int32) (u : Unit) => (r = su) ∧ (True)) (fun (u : Unit) (t : State) => mt_O D A [(pa, .inr (4, [.ref pfl, .ref ca, .ref pho, .ref pce, .ref pse, .ref ppl, .int pen, .int psu, .int pnm, .int pkn, .int pfo])), (ca, .inr (0, [.ref cfl, .int 0, .ref cs, .ref cg, .ref cto, .ref cq, .ref cco, .ref cnx])), (pse, .inl (cI, 32, .inl (upd tf 0 0)))] t) A) (va_A [(pa, .inr (4, [.ref pfl, .ref ca, .ref pho, .ref pce, .ref pse, .ref ppl, .int pen, .int psu, .int pnm, .int pkn, .int pfo])), (ca, .inr (0, [.ref cfl, .int 0, .ref cs, .ref cg, .ref cto, .ref cq, .ref cco, .ref cnx])), (pse, .inl (cI, 32, .inl tf))] sz)) 0 0 (va_A [(pa, .inr (4, [.ref pfl, .ref ca, .ref pho, .ref pce, .ref pse, .ref ppl, .int pen, .int psu, .int pnm, .int pkn, .int pfo])), (ca, .inr (0, [.ref cfl, .int 0, .ref cs, .ref cg, .ref cto, .ref cq, .ref cco, .ref cnx])), (pse, .inl (cI, 32, .inl tf))] sz) := by
  refine mt_of (y := y_pn_startSearch) (n := 7) (av := [.ref pa, .int 0, .int 0, .int su]) (QF := (fun A => va_Qi (fun (r : Int32) (u : Unit) => (r = su) ∧ (True)) (fun (u : Unit) (t : State) => mt_O D A [(pa, .inr (4, [.ref pfl, .ref ca, .ref pho, .ref pce, .ref pse, .ref ppl, .int pen, .int psu, .int pnm, .int pkn, .int pfo])), (ca, .inr (0, [.ref cfl, .int 0, .ref cs, .ref cg, .ref cto, .ref cq, .ref cco, .ref cnx])), (pse, .inl (cI, 32, .inl (upd tf 0 0)))] t) A)) (by decide) (Nat.le_of_ble_eq_true rfl) ?_
  intro p e s m below meth c ls A hx hb hr hlk hml hown hnm hg hl hX hP hK hD hA hS
  obtain ⟨H, hH⟩ : ∃ H : Heap, H = s.heap := ⟨_, rfl⟩
  have hS : va_S A s.heap H [] := by rw [hH]; exact va_S.rf
  rw [← hH] at hP ⊢
  have hown : s.vm.findClass R_pn = some m.cls := hown
  have hl : lv_has ls 7 [(0, .ref pa), (1, .int 0), (2, .int 0), (3, .int su)] := hl
  refine lv_iload_n hx hb d_pn_startSearch_0 rfl (lv_at hl 3 rfl) ?_
  refine lv_istore hx hb d_pn_startSearch_1 hl (by decide) rfl (fun ls hl => ?_)
  have hl : lv_has ls 7 [(4, .int su), (0, .ref pa), (1, .int 0), (2, .int 0), (3, .int su)] := hl
  refine lv_iconst (v := 0) hx hb d_pn_startSearch_3 (by decide) ?_
  refine lv_istore hx hb d_pn_startSearch_4 hl (by decide) rfl (fun ls hl => ?_)
  have hl : lv_has ls 7 [(5, .int 0), (4, .int su), (0, .ref pa), (1, .int 0), (2, .int 0), (3, .int su)] := hl
  refine lv_iload hx hb d_pn_startSearch_6 (lv_at hl 0 rfl) ?_
  refine lv_aload_n hx hb d_pn_startSearch_8 rfl (lv_at hl 2 rfl) ?_
  refine gf_pn_34 hx hb hg hown hK hP 0 rfl rfl d_pn_startSearch_9 ?_
  refine gf_pn_83 hx hb hg hown hK hP 1 rfl rfl d_pn_startSearch_12 ?_
  refine lv_icmp_ge hx hb d_pn_startSearch_15 rfl (fun _ => ?_) (fun h => absurd (by decide) h)
  refine lv_aload_n hx hb d_pn_startSearch_85 rfl (lv_at hl 2 rfl) ?_
  refine gf_pn_23 hx hb hg hown hK hP 0 rfl rfl d_pn_startSearch_86 ?_
  refine lv_iconst (v := 0) hx hb d_pn_startSearch_89 (by decide) ?_
  refine lv_iload_n hx hb d_pn_startSearch_90 rfl (lv_at hl 4 rfl) ?_
  refine va_iast hx hb hK hP hD hS 2 1 rfl rfl (by unfold vp_in; decide) d_pn_startSearch_91 (fun H locs hP hD hS => ?_)
  have hP : va_P D kls [(pa, .inr (4, [.ref pfl, .ref ca, .ref pho, .ref pce, .ref pse, .ref ppl, .int pen, .int psu, .int pnm, .int pkn, .int pfo])), (ca, .inr (0, [.ref cfl, .int 0, .ref cs, .ref cg, .ref cto, .ref cq, .ref cco, .ref cnx])), (pse, .inl (cI, 32, .inl (upd tf 0 0)))] H := hP
  have hD : va_D A [(pa, .inr (4, [.ref pfl, .ref ca, .ref pho, .ref pce, .ref pse, .ref ppl, .int pen, .int psu, .int pnm, .int pkn, .int pfo])), (ca, .inr (0, [.ref cfl, .int 0, .ref cs, .ref cg, .ref cto, .ref cq, .ref cco, .ref cnx])), (pse, .inl (cI, 32, .inl (upd tf 0 0)))] := hD
  refine lv_iload hx hb d_pn_startSearch_92 (lv_at hl 1 rfl) ?_
  have hP9 := hP
  have hD9 := hD
  exact W.iret hx hb hr (fun t ht hW => ⟨⟨su, (), rfl, ⟨rfl, trivial⟩, by rw [ht]; exact hP9, hD9⟩, hS.F ht⟩) hS.2.2 d_pn_startSearch_94

set_option maxHeartbeats 4000000 in
set_option maxRecDepth 100000 in
theorem c_pn_reachesEnd (l : Launch) (D : va_G) (cZ cI cJ cII : ClassId) (pa : Nat) (pfl : Nat) (pho : Nat) (pce : Nat) (pse : Nat) (ppl : Nat) (pen : Int32) (psu : Int32) (pnm : Int32) (pkn : Int32) (pfo : Int32) (ca : Nat) (cfl : Nat) (cs : Nat) (cg : Nat) (cto : Nat) (cq : Nat) (cco : Nat) (cnx : Nat) (tf : Nat → Int32) (wa0 : Int32) (sz : Nat) (ht0 : tf 0 = 0) : Met l y_pn_reachesEnd w_pn_reachesEnd ({ frames := 0, cells := 0, slots := 0, locals := 0 }) (va_Pc [.ref pa, .int 0, .int wa0] (mt_B D [(cZ, .boolean), (cI, .int), (cJ, .long), (cII, .array .int)] [(pa, .inr (4, [.ref pfl, .ref ca, .ref pho, .ref pce, .ref pse, .ref ppl, .int pen, .int psu, .int pnm, .int pkn, .int pfo])), (ca, .inr (0, [.ref cfl, .int 0, .ref cs, .ref cg, .ref cto, .ref cq, .ref cco, .ref cnx])), (pse, .inl (cI, 32, .inl tf))] sz)) (vp_Si (fun r : Int32 => r = 1)) 0 0 (fun _ => False) := by
  refine mt_ofR (by decide) (Nat.le_of_ble_eq_true rfl) ?_
  intro p e s m below meth c ls hx hb hr hlk hml hown hg hl hX hP hK hD
  have hown : s.vm.findClass R_pn = some m.cls := hown
  obtain ⟨H, hH⟩ : ∃ H : Heap, H = s.heap := ⟨_, rfl⟩
  rw [← hH] at hP ⊢
  have hl : lv_has ls 4 [(0, .ref pa), (1, .int 0), (2, .int wa0)] := hl
  refine lv_aload_n hx hb d_pn_reachesEnd_0 rfl (lv_at hl 0 rfl) ?_
  refine gf_pn_23 hx hb hg hown hK hP 0 rfl rfl d_pn_reachesEnd_1 ?_
  refine lv_iload_n hx hb d_pn_reachesEnd_4 rfl (lv_at hl 1 rfl) ?_
  refine va_iald hx hb hK hP 2 1 rfl rfl (by unfold vp_in; decide) d_pn_reachesEnd_5 ?_
  refine lv_topi (fun y1 ey1 => ?_)
  have ey1 : y1 = 0 := ey1.trans ht0
  subst ey1
  refine lv_iconst (v := 1) hx hb d_pn_reachesEnd_6 (by decide) ?_
  refine lv_aload_n hx hb d_pn_reachesEnd_7 rfl (lv_at hl 0 rfl) ?_
  refine gf_pn_34 hx hb hg hown hK hP 0 rfl rfl d_pn_reachesEnd_8 ?_
  refine gf_pn_83 hx hb hg hown hK hP 1 rfl rfl d_pn_reachesEnd_11 ?_
  refine lv_ishl hx hb d_pn_reachesEnd_14 ?_
  refine lv_iconst (v := 1) hx hb d_pn_reachesEnd_15 (by decide) ?_
  refine lv_isub hx hb d_pn_reachesEnd_16 ?_
  refine lv_icmp_ne hx hb d_pn_reachesEnd_17 rfl (fun h => absurd (by decide) h) (fun _ => ?_)
  refine lv_iconst (v := 1) hx hb d_pn_reachesEnd_20 (by decide) ?_
  exact W.zret hx hb hr rfl (fun t ht _ => ⟨1, rfl, rfl, ht.trans hH⟩) (fun _ h => absurd h List.not_mem_nil) d_pn_reachesEnd_21

set_option maxHeartbeats 4000000 in
set_option maxRecDepth 100000 in
theorem c_pn_canEnd (l : Launch) (D : va_G) (cZ cI cJ cII : ClassId) (pa : Nat) (pfl : Nat) (pho : Nat) (pce : Nat) (pse : Nat) (ppl : Nat) (pen : Int32) (psu : Int32) (pnm : Int32) (pkn : Int32) (pfo : Int32) (ca : Nat) (cfl : Nat) (cs : Nat) (cg : Nat) (cto : Nat) (cq : Nat) (cco : Nat) (cnx : Nat) (tf : Nat → Int32) (sz : Nat)  : Met l y_pn_canEnd w_pn_canEnd ({ frames := 1, cells := 0, slots := 0, locals := 40 }) (va_Pc [.ref pa, .int 0, .int 0] (mt_B D [(cZ, .boolean), (cI, .int), (cJ, .long), (cII, .array .int)] [(pa, .inr (4, [.ref pfl, .ref ca, .ref pho, .ref pce, .ref pse, .ref ppl, .int pen, .int psu, .int pnm, .int pkn, .int pfo])), (ca, .inr (0, [.ref cfl, .int 0, .ref cs, .ref cg, .ref cto, .ref cq, .ref cco, .ref cnx])), (pse, .inl (cI, 32, .inl tf))] sz)) ((fun A => va_Qi (fun (r : Int32) (u : Unit) => (r = 1) ∧ (True)) (fun (u : Unit) (t : State) => mt_O D A [(pa, .inr (4, [.ref pfl, .ref ca, .ref pho, .ref pce, .ref pse, .ref ppl, .int pen, .int psu, .int pnm, .int pkn, .int pfo])), (ca, .inr (0, [.ref cfl, .int 0, .ref cs, .ref cg, .ref cto, .ref cq, .ref cco, .ref cnx])), (pse, .inl (cI, 32, .inl (upd tf 0 0)))] t) A) (va_A [(pa, .inr (4, [.ref pfl, .ref ca, .ref pho, .ref pce, .ref pse, .ref ppl, .int pen, .int psu, .int pnm, .int pkn, .int pfo])), (ca, .inr (0, [.ref cfl, .int 0, .ref cs, .ref cg, .ref cto, .ref cq, .ref cco, .ref cnx])), (pse, .inl (cI, 32, .inl tf))] sz)) 0 0 (va_A [(pa, .inr (4, [.ref pfl, .ref ca, .ref pho, .ref pce, .ref pse, .ref ppl, .int pen, .int psu, .int pnm, .int pkn, .int pfo])), (ca, .inr (0, [.ref cfl, .int 0, .ref cs, .ref cg, .ref cto, .ref cq, .ref cco, .ref cnx])), (pse, .inl (cI, 32, .inl tf))] sz) := by
  refine mt_of (y := y_pn_canEnd) (n := 6) (av := [.ref pa, .int 0, .int 0]) (QF := (fun A => va_Qi (fun (r : Int32) (u : Unit) => (r = 1) ∧ (True)) (fun (u : Unit) (t : State) => mt_O D A [(pa, .inr (4, [.ref pfl, .ref ca, .ref pho, .ref pce, .ref pse, .ref ppl, .int pen, .int psu, .int pnm, .int pkn, .int pfo])), (ca, .inr (0, [.ref cfl, .int 0, .ref cs, .ref cg, .ref cto, .ref cq, .ref cco, .ref cnx])), (pse, .inl (cI, 32, .inl (upd tf 0 0)))] t) A)) (by decide) (Nat.le_of_ble_eq_true rfl) ?_
  intro p e s m below meth c ls A hx hb hr hlk hml hown hnm hg hl hX hP hK hD hA hS
  obtain ⟨H, hH⟩ : ∃ H : Heap, H = s.heap := ⟨_, rfl⟩
  have hS : va_S A s.heap H [] := by rw [hH]; exact va_S.rf
  rw [← hH] at hP ⊢
  have hown : s.vm.findClass R_pn = some m.cls := hown
  have hl : lv_has ls 6 [(0, .ref pa), (1, .int 0), (2, .int 0)] := hl
  refine lv_iconst (v := 0) hx hb d_pn_canEnd_0 (by decide) ?_
  refine lv_istore_n hx hb d_pn_canEnd_1 rfl hl (by decide) rfl (fun ls hl => ?_)
  have hl : lv_has ls 6 [(3, .int 0), (0, .ref pa), (1, .int 0), (2, .int 0)] := hl
  refine lv_iconst (v := 0) hx hb d_pn_canEnd_2 (by decide) ?_
  refine lv_istore hx hb d_pn_canEnd_3 hl (by decide) rfl (fun ls hl => ?_)
  have hl : lv_has ls 6 [(4, .int 0), (3, .int 0), (0, .ref pa), (1, .int 0), (2, .int 0)] := hl
  refine lv_iload hx hb d_pn_canEnd_5 (lv_at hl 0 rfl) ?_
  refine lv_aload_n hx hb d_pn_canEnd_7 rfl (lv_at hl 2 rfl) ?_
  refine gf_pn_34 hx hb hg hown hK hP 0 rfl rfl d_pn_canEnd_8 ?_
  refine gf_pn_83 hx hb hg hown hK hP 1 rfl rfl d_pn_canEnd_11 ?_
  refine lv_icmp_ge hx hb d_pn_canEnd_14 rfl (fun _ => ?_) (fun h => absurd (by decide) h)
  refine lv_iload_n hx hb d_pn_canEnd_52 rfl (lv_at hl 1 rfl) ?_
  refine lv_istore hx hb d_pn_canEnd_53 hl (by decide) rfl (fun ls hl => ?_)
  have hl : lv_has ls 6 [(4, .int 0), (3, .int 0), (0, .ref pa), (1, .int 0), (2, .int 0)] := hl
  refine lv_iload hx hb d_pn_canEnd_55 (lv_at hl 0 rfl) ?_
  refine lv_if_lt hx hb d_pn_canEnd_57 rfl (fun h => absurd h (by decide)) (fun _ => ?_)
  refine lv_iload hx hb d_pn_canEnd_60 (lv_at hl 0 rfl) ?_
  refine lv_iload_n hx hb d_pn_canEnd_62 rfl (lv_at hl 1 rfl) ?_
  refine lv_iconst (v := (-1)) hx hb d_pn_canEnd_63 (by decide) ?_
  refine lv_ixor hx hb d_pn_canEnd_64 ?_
  refine lv_iand hx hb d_pn_canEnd_65 ?_
  refine lv_if_ne hx hb d_pn_canEnd_66 rfl (fun h => absurd (by decide) h) (fun _ => ?_)
  refine lv_aload_n hx hb d_pn_canEnd_69 rfl (lv_at hl 2 rfl) ?_
  refine lv_iload_n hx hb d_pn_canEnd_70 rfl (lv_at hl 3 rfl) ?_
  refine lv_iload hx hb d_pn_canEnd_71 (lv_at hl 0 rfl) ?_
  refine lv_iload_n hx hb d_pn_canEnd_73 rfl (lv_at hl 4 rfl) ?_
  have hPc := hP
  have hDc := hD
  have hFc := mt_whole hD hS hA
  refine va_calli (va_runV (As := [.int 0, .int 0, .int 0]) (rest := []) ⟨hx, hb, hml, hown, hg⟩ (c_pn_startSearch l D cZ cI cJ cII pa pfl pho pce pse ppl pen psu pnm pkn pfo ca cfl cs cg cto cq cco cnx tf 0 H.size ) (cwV 3 hg gv_pn_111 rfl rfl rfl (by decide +kernel) ⟨Nat.le_of_ble_eq_true rfl, Nat.le_of_ble_eq_true rfl⟩) ⟨mt_bl, va_recv (q0 := 0) (ci := 4) hK hP rfl rfl, mt_pr hX hPc hK hDc⟩ rfl rfl hl.1 rfl (lv_room (Nat.le_of_ble_eq_true rfl)) d_pn_canEnd_74 ⟨Nat.le_of_ble_eq_true rfl, Nat.le_of_ble_eq_true rfl⟩) hS (fun q _ h => hFc q h) hFc (fun r1 u t H1 locs ht hvm hw hB hz1 hk1 hS => ?_)
  obtain ⟨hr1, hwr1⟩ := hw
  have hr1 : r1 = (0 : Int32) := hr1
  obtain ⟨hP1, hD1⟩ := hB
  rw [ht] at hP1
  have hP := hP1
  have hD := hD1.weaken (fun _ _ _ h => hFc _ h)
  generalize H1 = H at hP hS ⊢
  have hP : va_P D kls [(pa, .inr (4, [.ref pfl, .ref ca, .ref pho, .ref pce, .ref pse, .ref ppl, .int pen, .int psu, .int pnm, .int pkn, .int pfo])), (ca, .inr (0, [.ref cfl, .int 0, .ref cs, .ref cg, .ref cto, .ref cq, .ref cco, .ref cnx])), (pse, .inl (cI, 32, .inl (upd tf 0 0)))] H := hP
  have hD : va_D A [(pa, .inr (4, [.ref pfl, .ref ca, .ref pho, .ref pce, .ref pse, .ref ppl, .int pen, .int psu, .int pnm, .int pkn, .int pfo])), (ca, .inr (0, [.ref cfl, .int 0, .ref cs, .ref cg, .ref cto, .ref cq, .ref cco, .ref cnx])), (pse, .inl (cI, 32, .inl (upd tf 0 0)))] := hD
  have hr1 : r1 = 0 := hr1
  subst hr1
  refine lv_istore hx hb d_pn_canEnd_77 hl (by decide) rfl (fun ls hl => ?_)
  have hl : lv_has ls 6 [(5, .int 0), (4, .int 0), (3, .int 0), (0, .ref pa), (1, .int 0), (2, .int 0)] := hl
  refine lv_iload hx hb d_pn_canEnd_79 (lv_at hl 0 rfl) ?_
  refine lv_if_lt hx hb d_pn_canEnd_81 rfl (fun h => absurd h (by decide)) (fun _ => ?_)
  refine lv_aload_n hx hb d_pn_canEnd_84 rfl (lv_at hl 3 rfl) ?_
  refine lv_iconst (v := 0) hx hb d_pn_canEnd_85 (by decide) ?_
  refine lv_iload hx hb d_pn_canEnd_86 (lv_at hl 0 rfl) ?_
  have hPc := hP
  have hDc := hD
  refine vp_callSi (W.runV (As := [.int 0, .int 0]) (rest := []) ⟨hx, hb, hml, hown, hg⟩ (c_pn_reachesEnd l D cZ cI cJ cII pa pfl pho pce pse ppl pen psu pnm pkn pfo ca cfl cs cg cto cq cco cnx (upd tf 0 0) 0 H.size pk_us) (cwV 2 hg gv_pn_115 rfl rfl rfl (by decide +kernel) ⟨Nat.le_of_ble_eq_true rfl, Nat.le_of_ble_eq_true rfl⟩) ⟨mt_bl, va_recv (q0 := 0) (ci := 4) hK hP rfl rfl, mt_pr hX hPc hK hDc⟩ rfl rfl hl.1 rfl (lv_room (Nat.le_of_ble_eq_true rfl)) d_pn_canEnd_88 ⟨Nat.le_of_ble_eq_true rfl, Nat.le_of_ble_eq_true rfl⟩) (fun r2 hr2 => ?_)
  have hr2 : r2 = 1 := hr2
  have hr2 : r2 = 1 := hr2
  subst hr2
  refine lv_if_eq hx hb d_pn_canEnd_91 rfl (fun h => absurd h (by decide)) (fun _ => ?_)
  refine lv_iconst (v := 1) hx hb d_pn_canEnd_94 (by decide) ?_
  have hP9 := hP
  have hD9 := hD
  exact W.zret hx hb hr rfl (fun t ht hW => ⟨⟨1, (), rfl, ⟨rfl, trivial⟩, by rw [ht]; exact hP9, hD9⟩, hS.F ht⟩) hS.2.2 d_pn_canEnd_95

set_option maxHeartbeats 4000000 in
set_option maxRecDepth 100000 in
theorem c_pn_isOver (l : Launch) (D : va_G) (cZ cI cJ cII : ClassId) (pa : Nat) (pfl : Nat) (pho : Nat) (pce : Nat) (pse : Nat) (ppl : Nat) (pen : Int32) (psu : Int32) (pnm : Int32) (pkn : Int32) (pfo : Int32) (ca : Nat) (cfl : Nat) (cs : Nat) (cg : Nat) (cto : Nat) (cq : Nat) (cco : Nat) (cnx : Nat) (sz : Nat)  : Met l y_pn_isOver w_pn_isOver ({ frames := 0, cells := 0, slots := 0, locals := 0 }) (va_Pc [.ref pa, .int 0] (mt_B D [(cZ, .boolean), (cI, .int), (cJ, .long), (cII, .array .int)] [(pa, .inr (4, [.ref pfl, .ref ca, .ref pho, .ref pce, .ref pse, .ref ppl, .int pen, .int psu, .int pnm, .int pkn, .int pfo])), (ca, .inr (0, [.ref cfl, .int 0, .ref cs, .ref cg, .ref cto, .ref cq, .ref cco, .ref cnx]))] sz)) (vp_Si (fun r : Int32 => r = 1)) 0 0 (fun _ => False) := by
  refine mt_ofR (by decide) (Nat.le_of_ble_eq_true rfl) ?_
  intro p e s m below meth c ls hx hb hr hlk hml hown hg hl hX hP hK hD
  have hown : s.vm.findClass R_pn = some m.cls := hown
  obtain ⟨H, hH⟩ : ∃ H : Heap, H = s.heap := ⟨_, rfl⟩
  rw [← hH] at hP ⊢
  have hl : lv_has ls 3 [(0, .ref pa), (1, .int 0)] := hl
  refine lv_iconst (v := 0) hx hb d_pn_isOver_0 (by decide) ?_
  refine lv_istore_n hx hb d_pn_isOver_1 rfl hl (by decide) rfl (fun ls hl => ?_)
  have hl : lv_has ls 3 [(2, .int 0), (0, .ref pa), (1, .int 0)] := hl
  refine lv_iload_n hx hb d_pn_isOver_2 rfl (lv_at hl 0 rfl) ?_
  refine lv_aload_n hx hb d_pn_isOver_3 rfl (lv_at hl 1 rfl) ?_
  refine gf_pn_34 hx hb hg hown hK hP 0 rfl rfl d_pn_isOver_4 ?_
  refine gf_pn_83 hx hb hg hown hK hP 1 rfl rfl d_pn_isOver_7 ?_
  refine lv_icmp_ge hx hb d_pn_isOver_10 rfl (fun _ => ?_) (fun h => absurd (by decide) h)
  refine lv_iconst (v := 1) hx hb d_pn_isOver_41 (by decide) ?_
  exact W.zret hx hb hr rfl (fun t ht _ => ⟨1, rfl, rfl, ht.trans hH⟩) (fun _ h => absurd h List.not_mem_nil) d_pn_isOver_42

set_option maxHeartbeats 4000000 in
set_option maxRecDepth 100000 in
theorem c_pn_layOut (l : Launch) (D : va_G) (cZ cI cJ cII : ClassId) (pa : Nat) (pfl : Nat) (pho : Nat) (pce : Nat) (pse : Nat) (ppl : Nat) (pen : Int32) (psu : Int32) (pnm : Int32) (pkn : Int32) (pfo : Int32) (ca : Nat) (cfl : Nat) (cs : Nat) (cg : Nat) (cto : Nat) (cq : Nat) (cco : Nat) (cnx : Nat) (sz : Nat)  : Met l y_pn_layOut w_pn_layOut ({ frames := 1, cells := 0, slots := 0, locals := 40 }) (va_Pc [.ref pa] (mt_B D [(cZ, .boolean), (cI, .int), (cJ, .long), (cII, .array .int)] [(pa, .inr (4, [.ref pfl, .ref ca, .ref pho, .ref pce, .ref pse, .ref ppl, .int pen, .int psu, .int pnm, .int pkn, .int pfo])), (ca, .inr (0, [.ref cfl, .int 0, .ref cs, .ref cg, .ref cto, .ref cq, .ref cco, .ref cnx]))] sz)) ((fun A => va_Qv (fun (u : Unit) => True) (fun (u : Unit) (t : State) => mt_O D A [(pa, .inr (4, [.ref pfl, .ref ca, .ref pho, .ref pce, .ref pse, .ref ppl, .int 0, .int psu, .int pnm, .int pkn, .int pfo])), (ca, .inr (0, [.ref cfl, .int 0, .ref cs, .ref cg, .ref cto, .ref cq, .ref cco, .ref cnx]))] t) A) (va_A [(pa, .inr (4, [.ref pfl, .ref ca, .ref pho, .ref pce, .ref pse, .ref ppl, .int pen, .int psu, .int pnm, .int pkn, .int pfo])), (ca, .inr (0, [.ref cfl, .int 0, .ref cs, .ref cg, .ref cto, .ref cq, .ref cco, .ref cnx]))] sz)) 0 0 (va_A [(pa, .inr (4, [.ref pfl, .ref ca, .ref pho, .ref pce, .ref pse, .ref ppl, .int pen, .int psu, .int pnm, .int pkn, .int pfo])), (ca, .inr (0, [.ref cfl, .int 0, .ref cs, .ref cg, .ref cto, .ref cq, .ref cco, .ref cnx]))] sz) := by
  refine mt_of (y := y_pn_layOut) (n := 1) (av := [.ref pa]) (QF := (fun A => va_Qv (fun (u : Unit) => True) (fun (u : Unit) (t : State) => mt_O D A [(pa, .inr (4, [.ref pfl, .ref ca, .ref pho, .ref pce, .ref pse, .ref ppl, .int 0, .int psu, .int pnm, .int pkn, .int pfo])), (ca, .inr (0, [.ref cfl, .int 0, .ref cs, .ref cg, .ref cto, .ref cq, .ref cco, .ref cnx]))] t) A)) (by decide) (Nat.le_of_ble_eq_true rfl) ?_
  intro p e s m below meth c ls A hx hb hr hlk hml hown hnm hg hl hX hP hK hD hA hS
  obtain ⟨H, hH⟩ : ∃ H : Heap, H = s.heap := ⟨_, rfl⟩
  have hS : va_S A s.heap H [] := by rw [hH]; exact va_S.rf
  rw [← hH] at hP ⊢
  have hown : s.vm.findClass R_pn = some m.cls := hown
  have hl : lv_has ls 1 [(0, .ref pa)] := hl
  refine lv_aload_n hx hb d_pn_layOut_0 rfl (lv_at hl 0 rfl) ?_
  refine lv_iconst (v := 0) hx hb d_pn_layOut_1 (by decide) ?_
  refine pf_pn_68 hx hb hg hown hK hP hD hS 0 rfl rfl rfl (Nat.le_of_ble_eq_true rfl) d_pn_layOut_2 (fun H locs hP hD hS => ?_)
  have hP : va_P D kls [(pa, .inr (4, [.ref pfl, .ref ca, .ref pho, .ref pce, .ref pse, .ref ppl, .int 0, .int psu, .int pnm, .int pkn, .int pfo])), (ca, .inr (0, [.ref cfl, .int 0, .ref cs, .ref cg, .ref cto, .ref cq, .ref cco, .ref cnx]))] H := hP
  have hD : va_D A [(pa, .inr (4, [.ref pfl, .ref ca, .ref pho, .ref pce, .ref pse, .ref ppl, .int 0, .int psu, .int pnm, .int pkn, .int pfo])), (ca, .inr (0, [.ref cfl, .int 0, .ref cs, .ref cg, .ref cto, .ref cq, .ref cco, .ref cnx]))] := hD
  refine lv_aload_n hx hb d_pn_layOut_5 rfl (lv_at hl 0 rfl) ?_
  refine gf_pn_68 hx hb hg hown hK hP 0 rfl rfl d_pn_layOut_6 ?_
  refine lv_bipush (v := 31) hx hb d_pn_layOut_9 (by decide) ?_
  refine lv_icmp_ge hx hb d_pn_layOut_11 rfl (fun h => absurd h (by decide)) (fun _ => ?_)
  refine lv_aload_n hx hb d_pn_layOut_14 rfl (lv_at hl 0 rfl) ?_
  refine lv_aload_n hx hb d_pn_layOut_15 rfl (lv_at hl 0 rfl) ?_
  refine gf_pn_68 hx hb hg hown hK hP 0 rfl rfl d_pn_layOut_16 ?_
  have hPc := hP
  have hDc := hD
  refine vp_callSi (W.runV (As := [.int 0]) (rest := []) ⟨hx, hb, hml, hown, hg⟩ (c_pn_isOver l D cZ cI cJ cII pa pfl pho pce pse ppl 0 psu pnm pkn pfo ca cfl cs cg cto cq cco cnx H.size ) (cwV 1 hg gv_pn_89 rfl rfl rfl (by decide +kernel) ⟨Nat.le_of_ble_eq_true rfl, Nat.le_of_ble_eq_true rfl⟩) ⟨mt_bl, va_recv (q0 := 0) (ci := 4) hK hP rfl rfl, mt_pr hX hPc hK hDc⟩ rfl rfl hl.1 rfl (lv_room (Nat.le_of_ble_eq_true rfl)) d_pn_layOut_19 ⟨Nat.le_of_ble_eq_true rfl, Nat.le_of_ble_eq_true rfl⟩) (fun r1 hr1 => ?_)
  have hr1 : r1 = 1 := hr1
  have hr1 : r1 = 1 := hr1
  subst hr1
  refine lv_if_ne hx hb d_pn_layOut_22 rfl (fun _ => ?_) (fun h => absurd h (by decide))
  have hP9 := hP
  have hD9 := hD
  exact W.vret hx hb hr (fun t ht hW => ⟨⟨(), rfl, trivial, by rw [ht]; exact hP9, hD9⟩, hS.F ht⟩) hS.2.2 d_pn_layOut_48

set_option maxHeartbeats 4000000 in
set_option maxRecDepth 100000 in
theorem c_pn_find (l : Launch) (D : va_G) (cZ cI cJ cII : ClassId) (pa : Nat) (pfl : Nat) (pce : Nat) (pse : Nat) (ppl : Nat) (pen : Int32) (psu : Int32) (pfo : Int32) (ca : Nat) (cfl : Nat) (cs : Nat) (cg : Nat) (cto : Nat) (cq : Nat) (cco : Nat) (cnx : Nat) (la : Nat) (lwo : Nat) (jf : Nat → Int64) (tf : Nat → Int32) (x : Int32) (sz : Nat) (hx0 : ¬ x < 0) : Met l y_pn_find w_pn_find ({ frames := 3, cells := 0, slots := 0, locals := 120 }) (va_Pc [.ref pa, .int x] (mt_B D [(cZ, .boolean), (cI, .int), (cJ, .long), (cII, .array .int)] [(pa, .inr (4, [.ref pfl, .ref ca, .ref la, .ref pce, .ref pse, .ref ppl, .int pen, .int psu, .int 0, .int 0, .int pfo])), (ca, .inr (0, [.ref cfl, .int 0, .ref cs, .ref cg, .ref cto, .ref cq, .ref cco, .ref cnx])), (la, .inr (3, [.ref lwo])), (lwo, .inl (cJ, 1296, .inr (.inl jf))), (pse, .inl (cI, 32, .inl tf))] sz)) ((fun A => va_Qi (fun (r : Int32) (u : (Nat → Int64)) => (r = 0) ∧ (True)) (fun (u : (Nat → Int64)) (t : State) => mt_O D A [(pa, .inr (4, [.ref pfl, .ref ca, .ref la, .ref pce, .ref pse, .ref ppl, .int 0, .int 0, .int 1, .int 1, .int 1])), (ca, .inr (0, [.ref cfl, .int 0, .ref cs, .ref cg, .ref cto, .ref cq, .ref cco, .ref cnx])), (la, .inr (3, [.ref lwo])), (lwo, .inl (cJ, 1296, .inr (.inl u))), (pse, .inl (cI, 32, .inl (upd tf 0 0)))] t) A) (va_A [(pa, .inr (4, [.ref pfl, .ref ca, .ref la, .ref pce, .ref pse, .ref ppl, .int pen, .int psu, .int 0, .int 0, .int pfo])), (ca, .inr (0, [.ref cfl, .int 0, .ref cs, .ref cg, .ref cto, .ref cq, .ref cco, .ref cnx])), (la, .inr (3, [.ref lwo])), (lwo, .inl (cJ, 1296, .inr (.inl jf))), (pse, .inl (cI, 32, .inl tf))] sz)) 0 0 (va_A [(pa, .inr (4, [.ref pfl, .ref ca, .ref la, .ref pce, .ref pse, .ref ppl, .int pen, .int psu, .int 0, .int 0, .int pfo])), (ca, .inr (0, [.ref cfl, .int 0, .ref cs, .ref cg, .ref cto, .ref cq, .ref cco, .ref cnx])), (la, .inr (3, [.ref lwo])), (lwo, .inl (cJ, 1296, .inr (.inl jf))), (pse, .inl (cI, 32, .inl tf))] sz) := by
  refine mt_of (y := y_pn_find) (n := 3) (av := [.ref pa, .int x]) (QF := (fun A => va_Qi (fun (r : Int32) (u : (Nat → Int64)) => (r = 0) ∧ (True)) (fun (u : (Nat → Int64)) (t : State) => mt_O D A [(pa, .inr (4, [.ref pfl, .ref ca, .ref la, .ref pce, .ref pse, .ref ppl, .int 0, .int 0, .int 1, .int 1, .int 1])), (ca, .inr (0, [.ref cfl, .int 0, .ref cs, .ref cg, .ref cto, .ref cq, .ref cco, .ref cnx])), (la, .inr (3, [.ref lwo])), (lwo, .inl (cJ, 1296, .inr (.inl u))), (pse, .inl (cI, 32, .inl (upd tf 0 0)))] t) A)) (by decide) (Nat.le_of_ble_eq_true rfl) ?_
  intro p e s m below meth c ls A hx hb hr hlk hml hown hnm hg hl hX hP hK hD hA hS
  obtain ⟨H, hH⟩ : ∃ H : Heap, H = s.heap := ⟨_, rfl⟩
  have hS : va_S A s.heap H [] := by rw [hH]; exact va_S.rf
  rw [← hH] at hP ⊢
  have hown : s.vm.findClass R_pn = some m.cls := hown
  have hl : lv_has ls 3 [(0, .ref pa), (1, .int x)] := hl
  refine lv_aload_n hx hb d_pn_find_0 rfl (lv_at hl 0 rfl) ?_
  refine gf_pn_34 hx hb hg hown hK hP 0 rfl rfl d_pn_find_1 ?_
  have hPc := hP.sub (ws' := [(ca, .inr (0, [.ref cfl, .int 0, .ref cs, .ref cg, .ref cto, .ref cq, .ref cco, .ref cnx]))]) [1] rfl
  have hDc := hD.sub (ws' := [(ca, .inr (0, [.ref cfl, .int 0, .ref cs, .ref cg, .ref cto, .ref cq, .ref cco, .ref cnx]))]) [1] (by decide) rfl
  refine vp_callSi (W.runV (As := []) (rest := []) ⟨hx, hb, hml, hown, hg⟩ (c_cr_sumOfWays l D cZ cI cJ cII ca cfl cs cg cto cq cco cnx H.size ) (cwV 0 hg gv_pn_49 rfl rfl rfl (by decide +kernel) ⟨Nat.le_of_ble_eq_true rfl, Nat.le_of_ble_eq_true rfl⟩) ⟨mt_bl, va_recv (q0 := 1) (ci := 0) hK hP rfl rfl, mt_pr hX hPc hK hDc⟩ rfl rfl hl.1 rfl (lv_room (Nat.le_of_ble_eq_true rfl)) d_pn_find_4 ⟨Nat.le_of_ble_eq_true rfl, Nat.le_of_ble_eq_true rfl⟩) (fun r1 hr1 => ?_)
  have hr1 : r1 = 0 := hr1
  have hr1 : r1 = 0 := hr1
  subst hr1
  refine lv_istore_n hx hb d_pn_find_7 rfl hl (by decide) rfl (fun ls hl => ?_)
  have hl : lv_has ls 3 [(2, .int 0), (0, .ref pa), (1, .int x)] := hl
  refine lv_iload_n hx hb d_pn_find_8 rfl (lv_at hl 0 rfl) ?_
  refine lv_iconst (v := (-1)) hx hb d_pn_find_9 (by decide) ?_
  refine lv_icmp_ne hx hb d_pn_find_10 rfl (fun _ => ?_) (fun h => absurd h (by decide))
  refine lv_aload_n hx hb d_pn_find_15 rfl (lv_at hl 1 rfl) ?_
  refine gf_pn_45 hx hb hg hown hK hP 0 rfl rfl d_pn_find_16 ?_
  refine lv_if_ne hx hb d_pn_find_19 rfl (fun h => absurd (by decide) h) (fun _ => ?_)
  refine lv_aload_n hx hb d_pn_find_22 rfl (lv_at hl 1 rfl) ?_
  have hPc := hP.sub (ws' := [(pa, .inr (4, [.ref pfl, .ref ca, .ref la, .ref pce, .ref pse, .ref ppl, .int pen, .int psu, .int 0, .int 0, .int pfo])), (ca, .inr (0, [.ref cfl, .int 0, .ref cs, .ref cg, .ref cto, .ref cq, .ref cco, .ref cnx])), (la, .inr (3, [.ref lwo])), (lwo, .inl (cJ, 1296, .inr (.inl jf)))]) [0, 1, 2, 3] rfl
  have hDc := hD.sub (ws' := [(pa, .inr (4, [.ref pfl, .ref ca, .ref la, .ref pce, .ref pse, .ref ppl, .int pen, .int psu, .int 0, .int 0, .int pfo])), (ca, .inr (0, [.ref cfl, .int 0, .ref cs, .ref cg, .ref cto, .ref cq, .ref cco, .ref cnx])), (la, .inr (3, [.ref lwo])), (lwo, .inl (cJ, 1296, .inr (.inl jf)))]) [0, 1, 2, 3] (by decide) rfl
  have hFc := va_free (wc := [(pa, .inr (4, [.ref pfl, .ref ca, .ref la, .ref pce, .ref pse, .ref ppl, .int pen, .int psu, .int 0, .int 0, .int pfo])), (ca, .inr (0, [.ref cfl, .int 0, .ref cs, .ref cg, .ref cto, .ref cq, .ref cco, .ref cnx])), (la, .inr (3, [.ref lwo])), (lwo, .inl (cJ, 1296, .inr (.inl jf)))]) hD hS hA [0, 1, 2, 3] rfl
  refine va_callv (va_runV (As := []) (rest := []) ⟨hx, hb, hml, hown, hg⟩ (c_pn_begin l D cZ cI cJ cII pa pfl pce pse ppl pen psu 0 0 pfo ca cfl cs cg cto cq cco cnx la lwo jf H.size ) (cwV 0 hg gv_pn_55 rfl rfl rfl (by decide +kernel) ⟨Nat.le_of_ble_eq_true rfl, Nat.le_of_ble_eq_true rfl⟩) ⟨mt_bl, va_recv (q0 := 0) (ci := 4) hK hP rfl rfl, mt_pr hX hPc hK hDc⟩ rfl rfl hl.1 rfl (lv_room (Nat.le_of_ble_eq_true rfl)) d_pn_find_23 ⟨Nat.le_of_ble_eq_true rfl, Nat.le_of_ble_eq_true rfl⟩) hS (fun q _ h => hFc q h) hFc (fun u t H1 locs ht hvm hw hB hz1 hk1 hS => ?_)
  obtain ⟨jf13, rfl⟩ : ∃ z, z = u := ⟨_, rfl⟩
  obtain ⟨hP1, hD1⟩ := hB
  rw [ht] at hP1
  obtain ⟨hP, hD⟩ := va_join (wr := [(pse, .inl (cI, 32, .inl tf))]) (w1 := [(pa, .inr (4, [.ref pfl, .ref ca, .ref la, .ref pce, .ref pse, .ref ppl, .int pen, .int psu, .int 0, .int 0, .int pfo])), (ca, .inr (0, [.ref cfl, .int 0, .ref cs, .ref cg, .ref cto, .ref cq, .ref cco, .ref cnx])), (la, .inr (3, [.ref lwo])), (lwo, .inl (cJ, 1296, .inr (.inl jf13)))]) hP hD [0, 1, 2, 3] [4] rfl rfl (by decide) (by decide) hk1 hFc hP1 hD1
  generalize H1 = H at hP hS ⊢
  have hP : va_P D kls [(pse, .inl (cI, 32, .inl tf)), (pa, .inr (4, [.ref pfl, .ref ca, .ref la, .ref pce, .ref pse, .ref ppl, .int pen, .int psu, .int 0, .int 0, .int pfo])), (ca, .inr (0, [.ref cfl, .int 0, .ref cs, .ref cg, .ref cto, .ref cq, .ref cco, .ref cnx])), (la, .inr (3, [.ref lwo])), (lwo, .inl (cJ, 1296, .inr (.inl jf13)))] H := hP
  have hD : va_D A [(pse, .inl (cI, 32, .inl tf)), (pa, .inr (4, [.ref pfl, .ref ca, .ref la, .ref pce, .ref pse, .ref ppl, .int pen, .int psu, .int 0, .int 0, .int pfo])), (ca, .inr (0, [.ref cfl, .int 0, .ref cs, .ref cg, .ref cto, .ref cq, .ref cco, .ref cnx])), (la, .inr (3, [.ref lwo])), (lwo, .inl (cJ, 1296, .inr (.inl jf13)))] := hD
  refine lv_aload_n hx hb d_pn_find_26 rfl (lv_at hl 1 rfl) ?_
  refine gf_pn_42 hx hb hg hown hK hP 1 rfl rfl d_pn_find_27 ?_
  refine lv_if_ne hx hb d_pn_find_30 rfl (fun h => absurd (by decide) h) (fun _ => ?_)
  refine lv_aload_n hx hb d_pn_find_33 rfl (lv_at hl 1 rfl) ?_
  refine gf_pn_45 hx hb hg hown hK hP 1 rfl rfl d_pn_find_34 ?_
  refine lv_iload_n hx hb d_pn_find_37 rfl (lv_at hl 2 rfl) ?_
  refine lv_icmp_gt hx hb d_pn_find_38 rfl (fun h => absurd h hx0) (fun _ => ?_)
  refine lv_aload_n hx hb d_pn_find_41 rfl (lv_at hl 1 rfl) ?_
  refine lv_iconst (v := 0) hx hb d_pn_find_42 (by decide) ?_
  refine lv_iload_n hx hb d_pn_find_43 rfl (lv_at hl 0 rfl) ?_
  refine lv_aload_n hx hb d_pn_find_44 rfl (lv_at hl 1 rfl) ?_
  refine gf_pn_45 hx hb hg hown hK hP 1 rfl rfl d_pn_find_45 ?_
  refine lv_iadd hx hb d_pn_find_48 ?_
  refine lv_topi (fun y4 ey4 => ?_)
  have ey4 : y4 = 0 := ey4.trans (by decide)
  subst ey4
  have hPc := hP.sub (ws' := [(pa, .inr (4, [.ref pfl, .ref ca, .ref la, .ref pce, .ref pse, .ref ppl, .int pen, .int psu, .int 0, .int 0, .int pfo])), (ca, .inr (0, [.ref cfl, .int 0, .ref cs, .ref cg, .ref cto, .ref cq, .ref cco, .ref cnx])), (pse, .inl (cI, 32, .inl tf))]) [1, 2, 0] rfl
  have hDc := hD.sub (ws' := [(pa, .inr (4, [.ref pfl, .ref ca, .ref la, .ref pce, .ref pse, .ref ppl, .int pen, .int psu, .int 0, .int 0, .int pfo])), (ca, .inr (0, [.ref cfl, .int 0, .ref cs, .ref cg, .ref cto, .ref cq, .ref cco, .ref cnx])), (pse, .inl (cI, 32, .inl tf))]) [1, 2, 0] (by decide) rfl
  have hFc := va_free (wc := [(pa, .inr (4, [.ref pfl, .ref ca, .ref la, .ref pce, .ref pse, .ref ppl, .int pen, .int psu, .int 0, .int 0, .int pfo])), (ca, .inr (0, [.ref cfl, .int 0, .ref cs, .ref cg, .ref cto, .ref cq, .ref cco, .ref cnx])), (pse, .inl (cI, 32, .inl tf))]) hD hS hA [1, 2, 0] rfl
  refine va_calli (va_runV (As := [.int 0, .int 0]) (rest := []) ⟨hx, hb, hml, hown, hg⟩ (c_pn_canEnd l D cZ cI cJ cII pa pfl la pce pse ppl pen psu 0 0 pfo ca cfl cs cg cto cq cco cnx tf H.size ) (cwV 2 hg gv_pn_58 rfl rfl rfl (by decide +kernel) ⟨Nat.le_of_ble_eq_true rfl, Nat.le_of_ble_eq_true rfl⟩) ⟨mt_bl, va_recv (q0 := 1) (ci := 4) hK hP rfl rfl, mt_pr hX hPc hK hDc⟩ rfl rfl hl.1 rfl (lv_room (Nat.le_of_ble_eq_true rfl)) d_pn_find_49 ⟨Nat.le_of_ble_eq_true rfl, Nat.le_of_ble_eq_true rfl⟩) hS (fun q _ h => hFc q h) hFc (fun r5 u t H1 locs ht hvm hw hB hz1 hk1 hS => ?_)
  obtain ⟨hr5, hwr5⟩ := hw
  have hr5 : r5 = 1 := hr5
  obtain ⟨hP1, hD1⟩ := hB
  rw [ht] at hP1
  obtain ⟨hP, hD⟩ := va_join (wr := [(la, .inr (3, [.ref lwo])), (lwo, .inl (cJ, 1296, .inr (.inl jf13)))]) (w1 := [(pa, .inr (4, [.ref pfl, .ref ca, .ref la, .ref pce, .ref pse, .ref ppl, .int pen, .int psu, .int 0, .int 0, .int pfo])), (ca, .inr (0, [.ref cfl, .int 0, .ref cs, .ref cg, .ref cto, .ref cq, .ref cco, .ref cnx])), (pse, .inl (cI, 32, .inl (upd tf 0 0)))]) hP hD [1, 2, 0] [3, 4] rfl rfl (by decide) (by decide) hk1 hFc hP1 hD1
  generalize H1 = H at hP hS ⊢
  have hP : va_P D kls [(la, .inr (3, [.ref lwo])), (lwo, .inl (cJ, 1296, .inr (.inl jf13))), (pa, .inr (4, [.ref pfl, .ref ca, .ref la, .ref pce, .ref pse, .ref ppl, .int pen, .int psu, .int 0, .int 0, .int pfo])), (ca, .inr (0, [.ref cfl, .int 0, .ref cs, .ref cg, .ref cto, .ref cq, .ref cco, .ref cnx])), (pse, .inl (cI, 32, .inl (upd tf 0 0)))] H := hP
  have hD : va_D A [(la, .inr (3, [.ref lwo])), (lwo, .inl (cJ, 1296, .inr (.inl jf13))), (pa, .inr (4, [.ref pfl, .ref ca, .ref la, .ref pce, .ref pse, .ref ppl, .int pen, .int psu, .int 0, .int 0, .int pfo])), (ca, .inr (0, [.ref cfl, .int 0, .ref cs, .ref cg, .ref cto, .ref cq, .ref cco, .ref cnx])), (pse, .inl (cI, 32, .inl (upd tf 0 0)))] := hD
  have hr5 : r5 = 1 := hr5
  subst hr5
  refine lv_if_eq hx hb d_pn_find_52 rfl (fun h => absurd h (by decide)) (fun _ => ?_)
  refine lv_aload_n hx hb d_pn_find_55 rfl (lv_at hl 1 rfl) ?_
  refine lv_iconst (v := 1) hx hb d_pn_find_56 (by decide) ?_
  refine pf_pn_42 hx hb hg hown hK hP hD hS 2 rfl rfl rfl (Nat.le_of_ble_eq_true rfl) d_pn_find_57 (fun H locs hP hD hS => ?_)
  have hP : va_P D kls [(la, .inr (3, [.ref lwo])), (lwo, .inl (cJ, 1296, .inr (.inl jf13))), (pa, .inr (4, [.ref pfl, .ref ca, .ref la, .ref pce, .ref pse, .ref ppl, .int pen, .int psu, .int 0, .int 1, .int pfo])), (ca, .inr (0, [.ref cfl, .int 0, .ref cs, .ref cg, .ref cto, .ref cq, .ref cco, .ref cnx])), (pse, .inl (cI, 32, .inl (upd tf 0 0)))] H := hP
  have hD : va_D A [(la, .inr (3, [.ref lwo])), (lwo, .inl (cJ, 1296, .inr (.inl jf13))), (pa, .inr (4, [.ref pfl, .ref ca, .ref la, .ref pce, .ref pse, .ref ppl, .int pen, .int psu, .int 0, .int 1, .int pfo])), (ca, .inr (0, [.ref cfl, .int 0, .ref cs, .ref cg, .ref cto, .ref cq, .ref cco, .ref cnx])), (pse, .inl (cI, 32, .inl (upd tf 0 0)))] := hD
  refine lv_aload_n hx hb d_pn_find_60 rfl (lv_at hl 1 rfl) ?_
  refine lv_iload_n hx hb d_pn_find_61 rfl (lv_at hl 0 rfl) ?_
  refine lv_aload_n hx hb d_pn_find_62 rfl (lv_at hl 1 rfl) ?_
  refine gf_pn_45 hx hb hg hown hK hP 2 rfl rfl d_pn_find_63 ?_
  refine lv_iadd hx hb d_pn_find_66 ?_
  refine lv_topi (fun y6 ey6 => ?_)
  have ey6 : y6 = 0 := ey6.trans (by decide)
  subst ey6
  refine pf_pn_62 hx hb hg hown hK hP hD hS 2 rfl rfl rfl (Nat.le_of_ble_eq_true rfl) d_pn_find_67 (fun H locs hP hD hS => ?_)
  have hP : va_P D kls [(la, .inr (3, [.ref lwo])), (lwo, .inl (cJ, 1296, .inr (.inl jf13))), (pa, .inr (4, [.ref pfl, .ref ca, .ref la, .ref pce, .ref pse, .ref ppl, .int pen, .int 0, .int 0, .int 1, .int pfo])), (ca, .inr (0, [.ref cfl, .int 0, .ref cs, .ref cg, .ref cto, .ref cq, .ref cco, .ref cnx])), (pse, .inl (cI, 32, .inl (upd tf 0 0)))] H := hP
  have hD : va_D A [(la, .inr (3, [.ref lwo])), (lwo, .inl (cJ, 1296, .inr (.inl jf13))), (pa, .inr (4, [.ref pfl, .ref ca, .ref la, .ref pce, .ref pse, .ref ppl, .int pen, .int 0, .int 0, .int 1, .int pfo])), (ca, .inr (0, [.ref cfl, .int 0, .ref cs, .ref cg, .ref cto, .ref cq, .ref cco, .ref cnx])), (pse, .inl (cI, 32, .inl (upd tf 0 0)))] := hD
  refine lv_aload_n hx hb d_pn_find_70 rfl (lv_at hl 1 rfl) ?_
  have hPc := hP.sub (ws' := [(pa, .inr (4, [.ref pfl, .ref ca, .ref la, .ref pce, .ref pse, .ref ppl, .int pen, .int 0, .int 0, .int 1, .int pfo])), (ca, .inr (0, [.ref cfl, .int 0, .ref cs, .ref cg, .ref cto, .ref cq, .ref cco, .ref cnx]))]) [2, 3] rfl
  have hDc := hD.sub (ws' := [(pa, .inr (4, [.ref pfl, .ref ca, .ref la, .ref pce, .ref pse, .ref ppl, .int pen, .int 0, .int 0, .int 1, .int pfo])), (ca, .inr (0, [.ref cfl, .int 0, .ref cs, .ref cg, .ref cto, .ref cq, .ref cco, .ref cnx]))]) [2, 3] (by decide) rfl
  have hFc := va_free (wc := [(pa, .inr (4, [.ref pfl, .ref ca, .ref la, .ref pce, .ref pse, .ref ppl, .int pen, .int 0, .int 0, .int 1, .int pfo])), (ca, .inr (0, [.ref cfl, .int 0, .ref cs, .ref cg, .ref cto, .ref cq, .ref cco, .ref cnx]))]) hD hS hA [2, 3] rfl
  refine va_callv (va_runV (As := []) (rest := []) ⟨hx, hb, hml, hown, hg⟩ (c_pn_layOut l D cZ cI cJ cII pa pfl la pce pse ppl pen 0 0 1 pfo ca cfl cs cg cto cq cco cnx H.size ) (cwV 0 hg gv_pn_65 rfl rfl rfl (by decide +kernel) ⟨Nat.le_of_ble_eq_true rfl, Nat.le_of_ble_eq_true rfl⟩) ⟨mt_bl, va_recv (q0 := 2) (ci := 4) hK hP rfl rfl, mt_pr hX hPc hK hDc⟩ rfl rfl hl.1 rfl (lv_room (Nat.le_of_ble_eq_true rfl)) d_pn_find_71 ⟨Nat.le_of_ble_eq_true rfl, Nat.le_of_ble_eq_true rfl⟩) hS (fun q _ h => hFc q h) hFc (fun u t H1 locs ht hvm hw hB hz1 hk1 hS => ?_)
  obtain ⟨hP1, hD1⟩ := hB
  rw [ht] at hP1
  obtain ⟨hP, hD⟩ := va_join (wr := [(la, .inr (3, [.ref lwo])), (lwo, .inl (cJ, 1296, .inr (.inl jf13))), (pse, .inl (cI, 32, .inl (upd tf 0 0)))]) (w1 := [(pa, .inr (4, [.ref pfl, .ref ca, .ref la, .ref pce, .ref pse, .ref ppl, .int 0, .int 0, .int 0, .int 1, .int pfo])), (ca, .inr (0, [.ref cfl, .int 0, .ref cs, .ref cg, .ref cto, .ref cq, .ref cco, .ref cnx]))]) hP hD [2, 3] [0, 1, 4] rfl rfl (by decide) (by decide) hk1 hFc hP1 hD1
  generalize H1 = H at hP hS ⊢
  have hP : va_P D kls [(la, .inr (3, [.ref lwo])), (lwo, .inl (cJ, 1296, .inr (.inl jf13))), (pse, .inl (cI, 32, .inl (upd tf 0 0))), (pa, .inr (4, [.ref pfl, .ref ca, .ref la, .ref pce, .ref pse, .ref ppl, .int 0, .int 0, .int 0, .int 1, .int pfo])), (ca, .inr (0, [.ref cfl, .int 0, .ref cs, .ref cg, .ref cto, .ref cq, .ref cco, .ref cnx]))] H := hP
  have hD : va_D A [(la, .inr (3, [.ref lwo])), (lwo, .inl (cJ, 1296, .inr (.inl jf13))), (pse, .inl (cI, 32, .inl (upd tf 0 0))), (pa, .inr (4, [.ref pfl, .ref ca, .ref la, .ref pce, .ref pse, .ref ppl, .int 0, .int 0, .int 0, .int 1, .int pfo])), (ca, .inr (0, [.ref cfl, .int 0, .ref cs, .ref cg, .ref cto, .ref cq, .ref cco, .ref cnx]))] := hD
  refine lv_aload_n hx hb d_pn_find_74 rfl (lv_at hl 1 rfl) ?_
  refine lv_dup hx hb d_pn_find_75 rfl ?_
  refine gf_pn_45 hx hb hg hown hK hP 3 rfl rfl d_pn_find_76 ?_
  refine lv_iconst (v := 1) hx hb d_pn_find_79 (by decide) ?_
  refine lv_iadd hx hb d_pn_find_80 ?_
  refine lv_topi (fun y8 ey8 => ?_)
  have ey8 : y8 = 1 := ey8.trans (by decide)
  subst ey8
  refine pf_pn_45 hx hb hg hown hK hP hD hS 3 rfl rfl rfl (Nat.le_of_ble_eq_true rfl) d_pn_find_81 (fun H locs hP hD hS => ?_)
  have hP : va_P D kls [(la, .inr (3, [.ref lwo])), (lwo, .inl (cJ, 1296, .inr (.inl jf13))), (pse, .inl (cI, 32, .inl (upd tf 0 0))), (pa, .inr (4, [.ref pfl, .ref ca, .ref la, .ref pce, .ref pse, .ref ppl, .int 0, .int 0, .int 1, .int 1, .int pfo])), (ca, .inr (0, [.ref cfl, .int 0, .ref cs, .ref cg, .ref cto, .ref cq, .ref cco, .ref cnx]))] H := hP
  have hD : va_D A [(la, .inr (3, [.ref lwo])), (lwo, .inl (cJ, 1296, .inr (.inl jf13))), (pse, .inl (cI, 32, .inl (upd tf 0 0))), (pa, .inr (4, [.ref pfl, .ref ca, .ref la, .ref pce, .ref pse, .ref ppl, .int 0, .int 0, .int 1, .int 1, .int pfo])), (ca, .inr (0, [.ref cfl, .int 0, .ref cs, .ref cg, .ref cto, .ref cq, .ref cco, .ref cnx]))] := hD
  refine lv_goto hx hb d_pn_find_84 rfl ?_
  refine lv_aload_n hx hb d_pn_find_26 rfl (lv_at hl 1 rfl) ?_
  refine gf_pn_42 hx hb hg hown hK hP 3 rfl rfl d_pn_find_27 ?_
  refine lv_if_ne hx hb d_pn_find_30 rfl (fun _ => ?_) (fun h => absurd h (by decide))
  refine lv_aload_n hx hb d_pn_find_87 rfl (lv_at hl 1 rfl) ?_
  refine lv_aload_n hx hb d_pn_find_88 rfl (lv_at hl 1 rfl) ?_
  refine gf_pn_42 hx hb hg hown hK hP 3 rfl rfl d_pn_find_89 ?_
  refine lv_if_eq hx hb d_pn_find_92 rfl (fun h => absurd h (by decide)) (fun _ => ?_)
  refine lv_aload_n hx hb d_pn_find_95 rfl (lv_at hl 1 rfl) ?_
  refine gf_pn_62 hx hb hg hown hK hP 3 rfl rfl d_pn_find_96 ?_
  refine lv_iload_n hx hb d_pn_find_99 rfl (lv_at hl 0 rfl) ?_
  refine lv_iload_n hx hb d_pn_find_100 rfl (lv_at hl 2 rfl) ?_
  refine lv_iadd hx hb d_pn_find_101 ?_
  refine lv_icmp_gt hx hb d_pn_find_102 rfl (fun h => absurd h (by rw [Int32.zero_add]; exact hx0)) (fun _ => ?_)
  refine lv_iconst (v := 1) hx hb d_pn_find_105 (by decide) ?_
  refine lv_goto hx hb d_pn_find_106 rfl ?_
  refine pf_pn_38 hx hb hg hown hK hP hD hS 3 rfl rfl rfl (Nat.le_of_ble_eq_true rfl) d_pn_find_110 (fun H locs hP hD hS => ?_)
  have hP : va_P D kls [(la, .inr (3, [.ref lwo])), (lwo, .inl (cJ, 1296, .inr (.inl jf13))), (pse, .inl (cI, 32, .inl (upd tf 0 0))), (pa, .inr (4, [.ref pfl, .ref ca, .ref la, .ref pce, .ref pse, .ref ppl, .int 0, .int 0, .int 1, .int 1, .int 1])), (ca, .inr (0, [.ref cfl, .int 0, .ref cs, .ref cg, .ref cto, .ref cq, .ref cco, .ref cnx]))] H := hP
  have hD : va_D A [(la, .inr (3, [.ref lwo])), (lwo, .inl (cJ, 1296, .inr (.inl jf13))), (pse, .inl (cI, 32, .inl (upd tf 0 0))), (pa, .inr (4, [.ref pfl, .ref ca, .ref la, .ref pce, .ref pse, .ref ppl, .int 0, .int 0, .int 1, .int 1, .int 1])), (ca, .inr (0, [.ref cfl, .int 0, .ref cs, .ref cg, .ref cto, .ref cq, .ref cco, .ref cnx]))] := hD
  refine lv_aload_n hx hb d_pn_find_113 rfl (lv_at hl 1 rfl) ?_
  refine gf_pn_38 hx hb hg hown hK hP 3 rfl rfl d_pn_find_114 ?_
  refine lv_if_eq hx hb d_pn_find_117 rfl (fun h => absurd h (by decide)) (fun _ => ?_)
  refine lv_aload_n hx hb d_pn_find_120 rfl (lv_at hl 1 rfl) ?_
  refine gf_pn_62 hx hb hg hown hK hP 3 rfl rfl d_pn_find_121 ?_
  refine lv_goto hx hb d_pn_find_124 rfl ?_
  have hP9 := hP.sub (ws' := [(pa, .inr (4, [.ref pfl, .ref ca, .ref la, .ref pce, .ref pse, .ref ppl, .int 0, .int 0, .int 1, .int 1, .int 1])), (ca, .inr (0, [.ref cfl, .int 0, .ref cs, .ref cg, .ref cto, .ref cq, .ref cco, .ref cnx])), (la, .inr (3, [.ref lwo])), (lwo, .inl (cJ, 1296, .inr (.inl jf13))), (pse, .inl (cI, 32, .inl (upd tf 0 0)))]) [3, 4, 0, 1, 2] rfl
  have hD9 := hD.sub (ws' := [(pa, .inr (4, [.ref pfl, .ref ca, .ref la, .ref pce, .ref pse, .ref ppl, .int 0, .int 0, .int 1, .int 1, .int 1])), (ca, .inr (0, [.ref cfl, .int 0, .ref cs, .ref cg, .ref cto, .ref cq, .ref cco, .ref cnx])), (la, .inr (3, [.ref lwo])), (lwo, .inl (cJ, 1296, .inr (.inl jf13))), (pse, .inl (cI, 32, .inl (upd tf 0 0)))]) [3, 4, 0, 1, 2] (by decide) rfl
  exact W.iret hx hb hr (fun t ht hW => ⟨⟨0, jf13, rfl, ⟨rfl, trivial⟩, by rw [ht]; exact hP9, hD9⟩, hS.F ht⟩) hS.2.2 d_pn_find_128
