set_option maxHeartbeats 4000000 in
set_option maxRecDepth 100000 in
theorem c_pn_moving_s (l : Launch) (D : va_G) (cZ cI cJ cII : ClassId) (kf : Nat) (pa : Nat) (pce : Nat) (pse : Nat) (ppl : Nat) (pen : Int32) (psu : Int32) (pnm : Int32) (pkn : Int32) (pfo : Int32) (la : Nat) (lwo : Nat) (fa : Nat) (fw : Int32) (fh : Int32) (wa : Nat) (ra : Nat) (sa : Nat) (ta : Nat) (ca : Nat) (cs : Nat) (cg : Nat) (cto : Nat) (cq : Nat) (cco : Nat) (cnx : Nat) (wo : Nat → Int64) (Mc : Nat → Nat → Int32) (se : Nat → Int32) (Mp : Nat → Nat → Int32) (rk : Nat → Int32) (sc : Nat → Int32) (s5 : Nat → Int32) (g5 : Nat → Int32) (rp : Nat → Nat) (rq : Nat → Nat) (rr : Nat → Nat) (rg : Nat → Nat) (Ms : Nat → Nat → Int32) (Mg : Nat → Nat → Int32) (F0 : Nat) (n : Nat) (N0 : Nat) (W0 : Nat) (wf : Nat → Int32) (gl : Nat → Nat) (dd : Nat) (mo : Nat) (T : Nat) (w : Nat) (S : Nat) (p0 : Nat → Nat) (q0 : Nat → Nat) (sz : Nat) (HR : px_CR l D cZ cI cJ cII kf) (HM : px_CM l D cZ cI cJ cII kf) (hC : px_C F0 n N0 W0 wf rk sc g5 Ms Mg gl) (hd : dd ≤ 29) (hmo : mo ≤ n) (hV : px_V n N0 wf Mg gl S p0) (hrow : ∀ i, i < n → Mc dd i = nI (p0 i)) (hse : se dd = nI S) (hw6 : w ≤ 6) (hQ : px_Q n N0 wf Mg gl dd mo T w S p0 q0 (Mc (dd + 1))) (hsn : px_Snd F0 n N0 wf rk sc Ms Mg gl wo) (hfu : 7 * (32 - dd) - 1 - mo ≤ kf + 1) : Met l y_pn_reachesEndMoving w_pn_reachesEndMoving ({ frames := kf + 4, cells := 0, slots := 0, locals := 40 * (kf + 4) }) (va_Pc [.ref pa, .int (nI dd), .int (nI mo), .int (nI T), .int (nI w)] (mt_B D [(cZ, .boolean), (cI, .int), (cJ, .long), (cII, .array .int)] (((([(pa, .inr (4, [.ref fa, .ref ca, .ref la, .ref pce, .ref pse, .ref ppl, .int pen, .int psu, .int pnm, .int pkn, .int pfo])), (la, .inr (3, [.ref lwo])), (lwo, .inl (cJ, 1296, .inr (.inl wo))), (pce, .inl (cII, 32, .inr (.inr (.inr (.inr (fun i => if i < 32 then some (rp i) else none)))))), (pse, .inl (cI, 32, .inl se)), (ppl, .inl (cII, 32, .inr (.inr (.inr (.inr (fun i => if i < 32 then some (rq i) else none)))))), (fa, .inr (1, [.int fw, .int fh, .ref wa, .int (nI F0), .ref ra, .ref sa, .ref ta])), (ra, .inl (cI, 25, .inl rk)), (sa, .inl (cI, 25, .inl sc)), (ta, .inl (cII, 25, .inr (.inr (.inr (.inr (fun i => if i < 25 then some (rr i) else none)))))), (ca, .inr (0, [.ref fa, .int (nI n), .ref cs, .ref cg, .ref cto, .ref cq, .ref cco, .ref cnx])), (cs, .inl (cI, 5, .inl s5)), (cg, .inl (cI, 5, .inl g5)), (cto, .inl (cII, 5, .inr (.inr (.inr (.inr (fun i => if i < 5 then some (rg i) else none))))))] ++ mt_rw 32 rp (fun i => .inl (cI, 5, .inl (Mc i)))) ++ mt_rw 32 rq (fun i => .inl (cI, 5, .inl (Mp i)))) ++ mt_rw 25 rr (fun i => .inl (cI, 5, .inl (Ms i)))) ++ mt_rw 5 rg (fun i => .inl (cI, 25, .inl (Mg i)))) sz)) ((fun A => va_Qi (fun (r : Int32) (u : (Nat → Int64) × (Nat → Nat → Int32) × (Nat → Int32)) => ((r = 1 ∧ px_X n sc Ms Mg gl (30 - dd) S p0 (n - mo) mo T q0 w) ∨ (r = 0 ∧ ¬ px_X n sc Ms Mg gl (30 - dd) S p0 (n - mo) mo T q0 w)) ∧ (px_Snd F0 n N0 wf rk sc Ms Mg gl (u.1) ∧ (∀ i, i ≤ dd → (u.2.1) i = Mc i) ∧ (∀ i, i < mo → (u.2.1) (dd + 1) i = Mc (dd + 1) i) ∧ (∀ i, i ≤ dd → (u.2.2) i = se i))) (fun (u : (Nat → Int64) × (Nat → Nat → Int32) × (Nat → Int32)) (t : State) => mt_O D A (((([(pa, .inr (4, [.ref fa, .ref ca, .ref la, .ref pce, .ref pse, .ref ppl, .int pen, .int psu, .int pnm, .int pkn, .int pfo])), (la, .inr (3, [.ref lwo])), (lwo, .inl (cJ, 1296, .inr (.inl (u.1)))), (pce, .inl (cII, 32, .inr (.inr (.inr (.inr (fun i => if i < 32 then some (rp i) else none)))))), (pse, .inl (cI, 32, .inl (u.2.2))), (ppl, .inl (cII, 32, .inr (.inr (.inr (.inr (fun i => if i < 32 then some (rq i) else none)))))), (fa, .inr (1, [.int fw, .int fh, .ref wa, .int (nI F0), .ref ra, .ref sa, .ref ta])), (ra, .inl (cI, 25, .inl rk)), (sa, .inl (cI, 25, .inl sc)), (ta, .inl (cII, 25, .inr (.inr (.inr (.inr (fun i => if i < 25 then some (rr i) else none)))))), (ca, .inr (0, [.ref fa, .int (nI n), .ref cs, .ref cg, .ref cto, .ref cq, .ref cco, .ref cnx])), (cs, .inl (cI, 5, .inl s5)), (cg, .inl (cI, 5, .inl g5)), (cto, .inl (cII, 5, .inr (.inr (.inr (.inr (fun i => if i < 5 then some (rg i) else none))))))] ++ mt_rw 32 rp (fun i => .inl (cI, 5, .inl ((u.2.1) i)))) ++ mt_rw 32 rq (fun i => .inl (cI, 5, .inl (Mp i)))) ++ mt_rw 25 rr (fun i => .inl (cI, 5, .inl (Ms i)))) ++ mt_rw 5 rg (fun i => .inl (cI, 25, .inl (Mg i)))) t) A) (va_A (((([(pa, .inr (4, [.ref fa, .ref ca, .ref la, .ref pce, .ref pse, .ref ppl, .int pen, .int psu, .int pnm, .int pkn, .int pfo])), (la, .inr (3, [.ref lwo])), (lwo, .inl (cJ, 1296, .inr (.inl wo))), (pce, .inl (cII, 32, .inr (.inr (.inr (.inr (fun i => if i < 32 then some (rp i) else none)))))), (pse, .inl (cI, 32, .inl se)), (ppl, .inl (cII, 32, .inr (.inr (.inr (.inr (fun i => if i < 32 then some (rq i) else none)))))), (fa, .inr (1, [.int fw, .int fh, .ref wa, .int (nI F0), .ref ra, .ref sa, .ref ta])), (ra, .inl (cI, 25, .inl rk)), (sa, .inl (cI, 25, .inl sc)), (ta, .inl (cII, 25, .inr (.inr (.inr (.inr (fun i => if i < 25 then some (rr i) else none)))))), (ca, .inr (0, [.ref fa, .int (nI n), .ref cs, .ref cg, .ref cto, .ref cq, .ref cco, .ref cnx])), (cs, .inl (cI, 5, .inl s5)), (cg, .inl (cI, 5, .inl g5)), (cto, .inl (cII, 5, .inr (.inr (.inr (.inr (fun i => if i < 5 then some (rg i) else none))))))] ++ mt_rw 32 rp (fun i => .inl (cI, 5, .inl (Mc i)))) ++ mt_rw 32 rq (fun i => .inl (cI, 5, .inl (Mp i)))) ++ mt_rw 25 rr (fun i => .inl (cI, 5, .inl (Ms i)))) ++ mt_rw 5 rg (fun i => .inl (cI, 25, .inl (Mg i)))) sz)) 0 0 (va_A (((([(pa, .inr (4, [.ref fa, .ref ca, .ref la, .ref pce, .ref pse, .ref ppl, .int pen, .int psu, .int pnm, .int pkn, .int pfo])), (la, .inr (3, [.ref lwo])), (lwo, .inl (cJ, 1296, .inr (.inl wo))), (pce, .inl (cII, 32, .inr (.inr (.inr (.inr (fun i => if i < 32 then some (rp i) else none)))))), (pse, .inl (cI, 32, .inl se)), (ppl, .inl (cII, 32, .inr (.inr (.inr (.inr (fun i => if i < 32 then some (rq i) else none)))))), (fa, .inr (1, [.int fw, .int fh, .ref wa, .int (nI F0), .ref ra, .ref sa, .ref ta])), (ra, .inl (cI, 25, .inl rk)), (sa, .inl (cI, 25, .inl sc)), (ta, .inl (cII, 25, .inr (.inr (.inr (.inr (fun i => if i < 25 then some (rr i) else none)))))), (ca, .inr (0, [.ref fa, .int (nI n), .ref cs, .ref cg, .ref cto, .ref cq, .ref cco, .ref cnx])), (cs, .inl (cI, 5, .inl s5)), (cg, .inl (cI, 5, .inl g5)), (cto, .inl (cII, 5, .inr (.inr (.inr (.inr (fun i => if i < 5 then some (rg i) else none))))))] ++ mt_rw 32 rp (fun i => .inl (cI, 5, .inl (Mc i)))) ++ mt_rw 32 rq (fun i => .inl (cI, 5, .inl (Mp i)))) ++ mt_rw 25 rr (fun i => .inl (cI, 5, .inl (Ms i)))) ++ mt_rw 5 rg (fun i => .inl (cI, 25, .inl (Mg i)))) sz) := by
  refine mt_of (y := y_pn_reachesEndMoving) (n := 13) (av := [.ref pa, .int (nI dd), .int (nI mo), .int (nI T), .int (nI w)]) (QF := (fun A => va_Qi (fun (r : Int32) (u : (Nat → Int64) × (Nat → Nat → Int32) × (Nat → Int32)) => ((r = 1 ∧ px_X n sc Ms Mg gl (30 - dd) S p0 (n - mo) mo T q0 w) ∨ (r = 0 ∧ ¬ px_X n sc Ms Mg gl (30 - dd) S p0 (n - mo) mo T q0 w)) ∧ (px_Snd F0 n N0 wf rk sc Ms Mg gl (u.1) ∧ (∀ i, i ≤ dd → (u.2.1) i = Mc i) ∧ (∀ i, i < mo → (u.2.1) (dd + 1) i = Mc (dd + 1) i) ∧ (∀ i, i ≤ dd → (u.2.2) i = se i))) (fun (u : (Nat → Int64) × (Nat → Nat → Int32) × (Nat → Int32)) (t : State) => mt_O D A (((([(pa, .inr (4, [.ref fa, .ref ca, .ref la, .ref pce, .ref pse, .ref ppl, .int pen, .int psu, .int pnm, .int pkn, .int pfo])), (la, .inr (3, [.ref lwo])), (lwo, .inl (cJ, 1296, .inr (.inl (u.1)))), (pce, .inl (cII, 32, .inr (.inr (.inr (.inr (fun i => if i < 32 then some (rp i) else none)))))), (pse, .inl (cI, 32, .inl (u.2.2))), (ppl, .inl (cII, 32, .inr (.inr (.inr (.inr (fun i => if i < 32 then some (rq i) else none)))))), (fa, .inr (1, [.int fw, .int fh, .ref wa, .int (nI F0), .ref ra, .ref sa, .ref ta])), (ra, .inl (cI, 25, .inl rk)), (sa, .inl (cI, 25, .inl sc)), (ta, .inl (cII, 25, .inr (.inr (.inr (.inr (fun i => if i < 25 then some (rr i) else none)))))), (ca, .inr (0, [.ref fa, .int (nI n), .ref cs, .ref cg, .ref cto, .ref cq, .ref cco, .ref cnx])), (cs, .inl (cI, 5, .inl s5)), (cg, .inl (cI, 5, .inl g5)), (cto, .inl (cII, 5, .inr (.inr (.inr (.inr (fun i => if i < 5 then some (rg i) else none))))))] ++ mt_rw 32 rp (fun i => .inl (cI, 5, .inl ((u.2.1) i)))) ++ mt_rw 32 rq (fun i => .inl (cI, 5, .inl (Mp i)))) ++ mt_rw 25 rr (fun i => .inl (cI, 5, .inl (Ms i)))) ++ mt_rw 5 rg (fun i => .inl (cI, 25, .inl (Mg i)))) t) A)) (by decide) (Nat.le_of_ble_eq_true rfl) ?_
  intro p e s m below meth c ls A hx hb hr hlk hml hown hnm hg hl hX hP hK hD hA hS
  obtain ⟨H, hH⟩ : ∃ H : Heap, H = s.heap := ⟨_, rfl⟩
  have hS : va_S A s.heap H [] := by rw [hH]; exact va_S.rf
  rw [← hH] at hP ⊢
  have hown : s.vm.findClass R_pn = some m.cls := hown
  have hl : lv_has ls 13 [(0, .ref pa), (1, .int (nI dd)), (2, .int (nI mo)), (3, .int (nI T)), (4, .int (nI w))] := hl
  have hn5 := hC.1
  have hS32 := px_p32 hC.1 hV.1
  have hT32 := px_p32 (n := mo) (by omega) hQ.1
  refine lv_iload_n hx hb d_pn_reachesEndMoving_0 rfl (lv_at hl 2 rfl) ?_
  refine lv_aload_n hx hb d_pn_reachesEndMoving_1 rfl (lv_at hl 0 rfl) ?_
  refine gf_pn_34 hx hb hg hown hK hP 0 rfl rfl d_pn_reachesEndMoving_2 ?_
  refine gf_pn_83 hx hb hg hown hK hP 10 rfl rfl d_pn_reachesEndMoving_5 ?_
  refine lv_icmp_lt hx hb d_pn_reachesEndMoving_8 rfl (fun g0 => ?_) (fun g0 => ?_)
  ·
    have hmn : mo < n := (nI_ltI (by omega) (by omega)).mp g0
    have hVm := hV.2.2 mo hmn
    have hp25 := px_A25 hC hVm.1
    have hgl := hC.2.2.2.2.2 mo hmn
    have hgl25 : gl mo < 25 := px_A25 hC (px_Ag hC hmn)
    obtain ⟨j, hj⟩ : ∃ j, n - mo = j + 1 := ⟨n - mo - 1, by omega⟩
    have hj2 : n - (mo + 1) = j := by omega
    rw [hj]
    refine lv_aload_n hx hb d_pn_reachesEndMoving_30 rfl (lv_at hl 0 rfl) ?_
    refine gf_pn_20 hx hb hg hown hK hP 0 rfl rfl d_pn_reachesEndMoving_31 ?_
    refine lv_iload_n hx hb d_pn_reachesEndMoving_34 rfl (lv_at hl 1 rfl) ?_
    refine mt_aald hx hb hK hP 3 3 rfl rfl (vp_in_nI (show dd < 32 by omega) (by decide)) (by show (if (nI dd).toNatClampNeg < 32 then some (rp (nI dd).toNatClampNeg) else none) = some (rp dd); rw [nI_clamp (show dd < 2 ^ 31 by omega), if_pos (show dd < 32 by omega)]) d_pn_reachesEndMoving_35 ?_
    refine lv_astore hx hb d_pn_reachesEndMoving_36 hl (by decide) rfl (fun ls hl => ?_)
    have hl : lv_has ls 13 [(5, .ref (rp dd)), (0, .ref pa), (1, .int (nI dd)), (2, .int (nI mo)), (3, .int (nI T)), (4, .int (nI w))] := hl
    refine lv_aload_n hx hb d_pn_reachesEndMoving_38 rfl (lv_at hl 1 rfl) ?_
    refine gf_pn_20 hx hb hg hown hK hP 0 rfl rfl d_pn_reachesEndMoving_39 ?_
    refine lv_iload_n hx hb d_pn_reachesEndMoving_42 rfl (lv_at hl 2 rfl) ?_
    refine lv_iconst (v := 1) hx hb d_pn_reachesEndMoving_43 (by decide) ?_
    refine lv_iadd hx hb d_pn_reachesEndMoving_44 ?_
    refine lv_topi (fun y1 ey1 => ?_)
    have ey1 : y1 = nI (dd + 1) := ey1.trans (nI_1 _)
    subst ey1
    refine mt_aald hx hb hK hP 3 3 rfl rfl (vp_in_nI (show dd + 1 < 32 by omega) (by decide)) (by show (if (nI (dd + 1)).toNatClampNeg < 32 then some (rp (nI (dd + 1)).toNatClampNeg) else none) = some (rp (dd + 1)); rw [nI_clamp (show dd + 1 < 2 ^ 31 by omega), if_pos (show dd + 1 < 32 by omega)]) d_pn_reachesEndMoving_45 ?_
    refine lv_astore hx hb d_pn_reachesEndMoving_46 hl (by decide) rfl (fun ls hl => ?_)
    have hl : lv_has ls 13 [(6, .ref (rp (dd + 1))), (5, .ref (rp dd)), (0, .ref pa), (1, .int (nI dd)), (2, .int (nI mo)), (3, .int (nI T)), (4, .int (nI w))] := hl
    refine lv_aload hx hb d_pn_reachesEndMoving_48 (lv_at hl 1 rfl) ?_
    refine lv_iload_n hx hb d_pn_reachesEndMoving_50 rfl (lv_at hl 4 rfl) ?_
    refine va_iald hx hb hK hP (14 + dd) 1 (mt_at_l (mt_at_l (mt_at_l (mt_rw_at rfl (show dd < 32 by omega))))) rfl (vp_in_nI (show mo < 5 by omega) (by decide)) d_pn_reachesEndMoving_51 ?_
    refine lv_topi (fun y2 ey2 => ?_)
    have ey2 : y2 = nI (p0 mo) := ey2.trans (by rw [nI_clamp (show mo < 2 ^ 31 by omega)]; exact (hrow mo hmn))
    subst ey2
    refine lv_istore hx hb d_pn_reachesEndMoving_52 hl (by decide) rfl (fun ls hl => ?_)
    have hl : lv_has ls 13 [(7, .int (nI (p0 mo))), (6, .ref (rp (dd + 1))), (5, .ref (rp dd)), (0, .ref pa), (1, .int (nI dd)), (2, .int (nI mo)), (3, .int (nI T)), (4, .int (nI w))] := hl
    refine lv_iload_n hx hb d_pn_reachesEndMoving_54 rfl (lv_at hl 6 rfl) ?_
    refine lv_iconst (v := 1) hx hb d_pn_reachesEndMoving_55 (by decide) ?_
    refine lv_iload_n hx hb d_pn_reachesEndMoving_56 rfl (lv_at hl 5 rfl) ?_
    refine lv_ishl hx hb d_pn_reachesEndMoving_57 ?_
    refine lv_ior hx hb d_pn_reachesEndMoving_58 ?_
    refine lv_topi (fun y3 ey3 => ?_)
    have ey3 : y3 = nI (T ||| 2 ^ mo) := ey3.trans (bt_or T hT32 mo (by omega))
    subst ey3
    refine lv_istore hx hb d_pn_reachesEndMoving_59 hl (by decide) rfl (fun ls hl => ?_)
    have hl : lv_has ls 13 [(8, .int (nI (T ||| 2 ^ mo))), (7, .int (nI (p0 mo))), (6, .ref (rp (dd + 1))), (5, .ref (rp dd)), (0, .ref pa), (1, .int (nI dd)), (2, .int (nI mo)), (3, .int (nI T)), (4, .int (nI w))] := hl
    refine lv_aload_n hx hb d_pn_reachesEndMoving_61 rfl (lv_at hl 4 rfl) ?_
    refine gf_pn_23 hx hb hg hown hK hP 0 rfl rfl d_pn_reachesEndMoving_62 ?_
    refine lv_iload_n hx hb d_pn_reachesEndMoving_65 rfl (lv_at hl 5 rfl) ?_
    refine va_iald hx hb hK hP 4 1 rfl rfl (vp_in_nI (show dd < 32 by omega) (by decide)) d_pn_reachesEndMoving_66 ?_
    refine lv_topi (fun y4 ey4 => ?_)
    have ey4 : y4 = nI S := ey4.trans (by rw [nI_clamp (show dd < 2 ^ 31 by omega)]; exact hse)
    subst ey4
    refine lv_iload_n hx hb d_pn_reachesEndMoving_67 rfl (lv_at hl 6 rfl) ?_
    have hPc := hP.sub (ws' := []) [] rfl
    have hDc := hD.sub (ws' := []) [] (by decide) rfl
    refine vp_callSi (W.runS (As := [.int (nI S), .int (nI mo)]) (rest := []) ⟨hx, hb, hml, hown, hg⟩ (c_pn_isIn l D cZ cI cJ cII S mo H.size hS32 (by omega)) ⟨callB_of 2 hg gg_pn_118 rfl rfl rfl (hg _ gi_pn_118) (hg _ gl_pn_118) (by decide +kernel) ⟨by first | exact Nat.le_of_ble_eq_true rfl | (dsimp only; omega), by first | exact Nat.le_of_ble_eq_true rfl | (dsimp only; omega)⟩, hg _ gt_pn_118⟩ ⟨mt_bl, mt_pr hX hPc hK hDc⟩ rfl rfl hl.1 rfl (lv_room (by first | exact Nat.le_of_ble_eq_true rfl | (dsimp only; omega))) d_pn_reachesEndMoving_68 ⟨by first | exact Nat.le_of_ble_eq_true rfl | (dsimp only; omega), by first | exact Nat.le_of_ble_eq_true rfl | (dsimp only; omega)⟩) (fun r5 hr5 => ?_)
    have hr5 : (r5 = 1 ∧ S.testBit mo = true) ∨ (r5 = 0 ∧ S.testBit mo = false) := hr5
    have hib := hr5
    refine lv_if_eq hx hb d_pn_reachesEndMoving_71 rfl (fun g1 => ?_) (fun g1 => ?_)
    ·
      have hbit : S.testBit mo = false := hib.elim (fun q => absurd (q.1.symm.trans g1) (by decide)) (fun q => q.2)
      refine lv_iload hx hb d_pn_reachesEndMoving_108 (lv_at hl 8 rfl) ?_
      refine lv_aload_n hx hb d_pn_reachesEndMoving_110 rfl (lv_at hl 4 rfl) ?_
      refine lv_iload_n hx hb d_pn_reachesEndMoving_111 rfl (lv_at hl 6 rfl) ?_
      refine lv_iload hx hb d_pn_reachesEndMoving_112 (lv_at hl 1 rfl) ?_
      have hPc := hP.sub (ws' := ([(pa, .inr (4, [.ref fa, .ref ca, .ref la, .ref pce, .ref pse, .ref ppl, .int pen, .int psu, .int pnm, .int pkn, .int pfo])), (ca, .inr (0, [.ref fa, .int (nI n), .ref cs, .ref cg, .ref cto, .ref cq, .ref cco, .ref cnx])), (cg, .inl (cI, 5, .inl g5)), (cto, .inl (cII, 5, .inr (.inr (.inr (.inr (fun i => if i < 5 then some (rg i) else none))))))] ++ mt_rw 5 rg (fun i => .inl (cI, 25, .inl (Mg i))))) [0, 10, 12, 13, 103, 104, 105, 106, 107] rfl
      have hDc := hD.sub (ws' := ([(pa, .inr (4, [.ref fa, .ref ca, .ref la, .ref pce, .ref pse, .ref ppl, .int pen, .int psu, .int pnm, .int pkn, .int pfo])), (ca, .inr (0, [.ref fa, .int (nI n), .ref cs, .ref cg, .ref cto, .ref cq, .ref cco, .ref cnx])), (cg, .inl (cI, 5, .inl g5)), (cto, .inl (cII, 5, .inr (.inr (.inr (.inr (fun i => if i < 5 then some (rg i) else none))))))] ++ mt_rw 5 rg (fun i => .inl (cI, 25, .inl (Mg i))))) [0, 10, 12, 13, 103, 104, 105, 106, 107] (by decide) rfl
      refine vp_callSi (W.runV (As := [.int (nI mo), .int (nI (p0 mo))]) (rest := [.int (nI w)]) ⟨hx, hb, hml, hown, hg⟩ (c_pn_wayLeft l D cZ cI cJ cII pa fa la pce pse ppl pen psu pnm pkn pfo ca fa (nI n) cs cg cto cq cco cnx g5 rg Mg mo (p0 mo) gl H.size (by omega) hp25 (⟨hgl.1, hgl25⟩) (hVm.1.2.2)) (cwV 2 hg gv_pn_121 rfl rfl rfl (by decide +kernel) ⟨by first | exact Nat.le_of_ble_eq_true rfl | (dsimp only; omega), by first | exact Nat.le_of_ble_eq_true rfl | (dsimp only; omega)⟩) ⟨mt_bl, va_recv (q0 := 0) (ci := 4) hK hP rfl rfl, mt_pr hX hPc hK hDc⟩ rfl rfl hl.1 rfl (lv_room (by first | exact Nat.le_of_ble_eq_true rfl | (dsimp only; omega))) d_pn_reachesEndMoving_114 ⟨by first | exact Nat.le_of_ble_eq_true rfl | (dsimp only; omega), by first | exact Nat.le_of_ble_eq_true rfl | (dsimp only; omega)⟩) (fun r6 hr6 => ?_)
      have hr6 : r6 = nI (px_lf gl Mg mo (p0 mo)) := hr6
      have hr6 : r6 = nI (px_lf gl Mg mo (p0 mo)) := hr6
      subst hr6
      refine lv_iadd hx hb d_pn_reachesEndMoving_117 ?_
      refine lv_topi (fun y7 ey7 => ?_)
      have ey7 : y7 = nI (w + px_lf gl Mg mo (p0 mo)) := ey7.trans (nI_add _ _)
      subst ey7
      refine lv_iconst (v := 1) hx hb d_pn_reachesEndMoving_118 (by decide) ?_
      refine lv_isub hx hb d_pn_reachesEndMoving_119 ?_
      refine lv_topi (fun y8 ey8 => ?_)
      have ey8 : y8 = nI (w + px_lf gl Mg mo (p0 mo) - 1) := ey8.trans (pk_sub (b := 1) (by have := px_hp hC mo _ hVm.1; omega))
      subst ey8
      refine lv_istore hx hb d_pn_reachesEndMoving_120 hl (by decide) rfl (fun ls hl => ?_)
      have hl : lv_has ls 13 [(9, .int (nI (w + px_lf gl Mg mo (p0 mo) - 1))), (8, .int (nI (T ||| 2 ^ mo))), (7, .int (nI (p0 mo))), (6, .ref (rp (dd + 1))), (5, .ref (rp dd)), (0, .ref pa), (1, .int (nI dd)), (2, .int (nI mo)), (3, .int (nI T)), (4, .int (nI w))] := hl
      have hlf1 := px_hp hC mo _ hVm.1
      refine mt_jp (pc := 175) (rest := []) (ι := (Nat → Int64) × (Nat → Nat → Int32) × (Nat → Int32)) (I := fun ix ls H locs => (px_Snd F0 n N0 wf rk sc Ms Mg gl (ix.1)) ∧ (∀ i, i ≤ dd → (ix.2.1) i = Mc i) ∧ (∀ i, i < mo → (ix.2.1) (dd + 1) i = Mc (dd + 1) i) ∧ (∀ i, i ≤ dd → (ix.2.2) i = se i) ∧ (¬ (px_nr Mg mo (p0 mo) ∧ sx_ok p0 q0 mo (gl mo) ∧ px_X n sc Ms Mg gl (30 - dd) S p0 j (mo + 1) (T ||| 2 ^ mo) (sx_up q0 mo (gl mo)) (w + px_lf gl Mg mo (p0 mo) - 1))) ∧ lv_has ls 13 [(0, .ref pa), (1, .int (nI dd)), (2, .int (nI mo)), (3, .int (nI T)), (4, .int (nI w)), (5, .ref (rp dd)), (6, .ref (rp (dd + 1))), (7, .int (nI (p0 mo))), (8, .int (nI (T ||| 2 ^ mo))), (9, .int (nI (w + px_lf gl Mg mo (p0 mo) - 1)))] ∧ va_P D kls (((([(pa, .inr (4, [.ref fa, .ref ca, .ref la, .ref pce, .ref pse, .ref ppl, .int pen, .int psu, .int pnm, .int pkn, .int pfo])), (la, .inr (3, [.ref lwo])), (lwo, .inl (cJ, 1296, .inr (.inl (ix.1)))), (pce, .inl (cII, 32, .inr (.inr (.inr (.inr (fun i => if i < 32 then some (rp i) else none)))))), (pse, .inl (cI, 32, .inl (ix.2.2))), (ppl, .inl (cII, 32, .inr (.inr (.inr (.inr (fun i => if i < 32 then some (rq i) else none)))))), (fa, .inr (1, [.int fw, .int fh, .ref wa, .int (nI F0), .ref ra, .ref sa, .ref ta])), (ra, .inl (cI, 25, .inl rk)), (sa, .inl (cI, 25, .inl sc)), (ta, .inl (cII, 25, .inr (.inr (.inr (.inr (fun i => if i < 25 then some (rr i) else none)))))), (ca, .inr (0, [.ref fa, .int (nI n), .ref cs, .ref cg, .ref cto, .ref cq, .ref cco, .ref cnx])), (cs, .inl (cI, 5, .inl s5)), (cg, .inl (cI, 5, .inl g5)), (cto, .inl (cII, 5, .inr (.inr (.inr (.inr (fun i => if i < 5 then some (rg i) else none))))))] ++ mt_rw 32 rp (fun i => .inl (cI, 5, .inl ((ix.2.1) i)))) ++ mt_rw 32 rq (fun i => .inl (cI, 5, .inl (Mp i)))) ++ mt_rw 25 rr (fun i => .inl (cI, 5, .inl (Ms i)))) ++ mt_rw 5 rg (fun i => .inl (cI, 25, .inl (Mg i)))) H ∧ va_D A (((([(pa, .inr (4, [.ref fa, .ref ca, .ref la, .ref pce, .ref pse, .ref ppl, .int pen, .int psu, .int pnm, .int pkn, .int pfo])), (la, .inr (3, [.ref lwo])), (lwo, .inl (cJ, 1296, .inr (.inl (ix.1)))), (pce, .inl (cII, 32, .inr (.inr (.inr (.inr (fun i => if i < 32 then some (rp i) else none)))))), (pse, .inl (cI, 32, .inl (ix.2.2))), (ppl, .inl (cII, 32, .inr (.inr (.inr (.inr (fun i => if i < 32 then some (rq i) else none)))))), (fa, .inr (1, [.int fw, .int fh, .ref wa, .int (nI F0), .ref ra, .ref sa, .ref ta])), (ra, .inl (cI, 25, .inl rk)), (sa, .inl (cI, 25, .inl sc)), (ta, .inl (cII, 25, .inr (.inr (.inr (.inr (fun i => if i < 25 then some (rr i) else none)))))), (ca, .inr (0, [.ref fa, .int (nI n), .ref cs, .ref cg, .ref cto, .ref cq, .ref cco, .ref cnx])), (cs, .inl (cI, 5, .inl s5)), (cg, .inl (cI, 5, .inl g5)), (cto, .inl (cII, 5, .inr (.inr (.inr (.inr (fun i => if i < 5 then some (rg i) else none))))))] ++ mt_rw 32 rp (fun i => .inl (cI, 5, .inl ((ix.2.1) i)))) ++ mt_rw 32 rq (fun i => .inl (cI, 5, .inl (Mp i)))) ++ mt_rw 25 rr (fun i => .inl (cI, 5, .inl (Ms i)))) ++ mt_rw 5 rg (fun i => .inl (cI, 25, .inl (Mg i)))) ∧ va_S A s.heap H locs) ?_ (fun jp_j => ?_)
      ·
        clear hl hP hD hS
        intro i_j ls H locs ⟨j1, j2, j3, j4, j5, hl, hP, hD, hS⟩
        obtain ⟨wo2, Mc2, se2⟩ := i_j
        have j1 : px_Snd F0 n N0 wf rk sc Ms Mg gl wo2 := j1
        have j2 : ∀ i, i ≤ dd → Mc2 i = Mc i := j2
        have j3 : ∀ i, i < mo → Mc2 (dd + 1) i = Mc (dd + 1) i := j3
        have j4 : ∀ i, i ≤ dd → se2 i = se i := j4
        have j5 : ¬ (px_nr Mg mo (p0 mo) ∧ sx_ok p0 q0 mo (gl mo) ∧ px_X n sc Ms Mg gl (30 - dd) S p0 j (mo + 1) (T ||| 2 ^ mo) (sx_up q0 mo (gl mo)) (w + px_lf gl Mg mo (p0 mo) - 1)) := j5
        have hl : lv_has ls 13 [(0, .ref pa), (1, .int (nI dd)), (2, .int (nI mo)), (3, .int (nI T)), (4, .int (nI w)), (5, .ref (rp dd)), (6, .ref (rp (dd + 1))), (7, .int (nI (p0 mo))), (8, .int (nI (T ||| 2 ^ mo))), (9, .int (nI (w + px_lf gl Mg mo (p0 mo) - 1)))] := hl
        have hP : va_P D kls (((([(pa, .inr (4, [.ref fa, .ref ca, .ref la, .ref pce, .ref pse, .ref ppl, .int pen, .int psu, .int pnm, .int pkn, .int pfo])), (la, .inr (3, [.ref lwo])), (lwo, .inl (cJ, 1296, .inr (.inl wo2))), (pce, .inl (cII, 32, .inr (.inr (.inr (.inr (fun i => if i < 32 then some (rp i) else none)))))), (pse, .inl (cI, 32, .inl se2)), (ppl, .inl (cII, 32, .inr (.inr (.inr (.inr (fun i => if i < 32 then some (rq i) else none)))))), (fa, .inr (1, [.int fw, .int fh, .ref wa, .int (nI F0), .ref ra, .ref sa, .ref ta])), (ra, .inl (cI, 25, .inl rk)), (sa, .inl (cI, 25, .inl sc)), (ta, .inl (cII, 25, .inr (.inr (.inr (.inr (fun i => if i < 25 then some (rr i) else none)))))), (ca, .inr (0, [.ref fa, .int (nI n), .ref cs, .ref cg, .ref cto, .ref cq, .ref cco, .ref cnx])), (cs, .inl (cI, 5, .inl s5)), (cg, .inl (cI, 5, .inl g5)), (cto, .inl (cII, 5, .inr (.inr (.inr (.inr (fun i => if i < 5 then some (rg i) else none))))))] ++ mt_rw 32 rp (fun i => .inl (cI, 5, .inl (Mc2 i)))) ++ mt_rw 32 rq (fun i => .inl (cI, 5, .inl (Mp i)))) ++ mt_rw 25 rr (fun i => .inl (cI, 5, .inl (Ms i)))) ++ mt_rw 5 rg (fun i => .inl (cI, 25, .inl (Mg i)))) H := hP
        have hD : va_D A (((([(pa, .inr (4, [.ref fa, .ref ca, .ref la, .ref pce, .ref pse, .ref ppl, .int pen, .int psu, .int pnm, .int pkn, .int pfo])), (la, .inr (3, [.ref lwo])), (lwo, .inl (cJ, 1296, .inr (.inl wo2))), (pce, .inl (cII, 32, .inr (.inr (.inr (.inr (fun i => if i < 32 then some (rp i) else none)))))), (pse, .inl (cI, 32, .inl se2)), (ppl, .inl (cII, 32, .inr (.inr (.inr (.inr (fun i => if i < 32 then some (rq i) else none)))))), (fa, .inr (1, [.int fw, .int fh, .ref wa, .int (nI F0), .ref ra, .ref sa, .ref ta])), (ra, .inl (cI, 25, .inl rk)), (sa, .inl (cI, 25, .inl sc)), (ta, .inl (cII, 25, .inr (.inr (.inr (.inr (fun i => if i < 25 then some (rr i) else none)))))), (ca, .inr (0, [.ref fa, .int (nI n), .ref cs, .ref cg, .ref cto, .ref cq, .ref cco, .ref cnx])), (cs, .inl (cI, 5, .inl s5)), (cg, .inl (cI, 5, .inl g5)), (cto, .inl (cII, 5, .inr (.inr (.inr (.inr (fun i => if i < 5 then some (rg i) else none))))))] ++ mt_rw 32 rp (fun i => .inl (cI, 5, .inl (Mc2 i)))) ++ mt_rw 32 rq (fun i => .inl (cI, 5, .inl (Mp i)))) ++ mt_rw 25 rr (fun i => .inl (cI, 5, .inl (Ms i)))) ++ mt_rw 5 rg (fun i => .inl (cI, 25, .inl (Mg i)))) := hD
        obtain ⟨cnt, hcnt, hsc, hst⟩ := fx_steps hC.2.2.2.2.1 hVm.1.2.1
        refine lv_iconst (v := 0) hx hb d_pn_reachesEndMoving_175 (by decide) ?_
        refine lv_istore hx hb d_pn_reachesEndMoving_176 hl (by decide) rfl (fun ls hl => ?_)
        have hl : lv_has ls 13 [(10, .int 0), (0, .ref pa), (1, .int (nI dd)), (2, .int (nI mo)), (3, .int (nI T)), (4, .int (nI w)), (5, .ref (rp dd)), (6, .ref (rp (dd + 1))), (7, .int (nI (p0 mo))), (8, .int (nI (T ||| 2 ^ mo))), (9, .int (nI (w + px_lf gl Mg mo (p0 mo) - 1)))] := hl
        have hl := lv_sub hl [0, 1, 2, 3, 4, 5, 6, 7, 8, 9, 10] (l' := [(10, .int (nI 0)), (0, .ref pa), (1, .int (nI dd)), (2, .int (nI mo)), (3, .int (nI T)), (4, .int (nI w)), (5, .ref (rp dd)), (6, .ref (rp (dd + 1))), (7, .int (nI (p0 mo))), (8, .int (nI (T ||| 2 ^ mo))), (9, .int (nI (w + px_lf gl Mg mo (p0 mo) - 1)))]) rfl
        refine mt_loop (ι := Nat × (Nat → Int64) × (Nat → Nat → Int32) × (Nat → Int32)) (I := fun ix ls H locs => ((ix.1) ≤ cnt) ∧ (px_Snd F0 n N0 wf rk sc Ms Mg gl (ix.2.1)) ∧ (∀ i, i ≤ dd → (ix.2.2.1) i = Mc i) ∧ (∀ i, i < mo → (ix.2.2.1) (dd + 1) i = Mc (dd + 1) i) ∧ (∀ i, i ≤ dd → (ix.2.2.2) i = se i) ∧ (∀ i b, i < (ix.1) → Ms (p0 mo) i = nI b → b < 25 → ¬ (px_lf gl Mg mo b ≤ w + px_lf gl Mg mo (p0 mo) - 1 ∧ sx_ok p0 q0 mo b ∧ px_X n sc Ms Mg gl (30 - dd) S p0 j (mo + 1) T (sx_up q0 mo b) (w + px_lf gl Mg mo (p0 mo) - 1 - px_lf gl Mg mo b))) ∧ lv_has ls 13 [(10, .int (nI (ix.1))), (0, .ref pa), (1, .int (nI dd)), (2, .int (nI mo)), (3, .int (nI T)), (4, .int (nI w)), (5, .ref (rp dd)), (6, .ref (rp (dd + 1))), (7, .int (nI (p0 mo))), (8, .int (nI (T ||| 2 ^ mo))), (9, .int (nI (w + px_lf gl Mg mo (p0 mo) - 1)))] ∧ va_P D kls (((([(pa, .inr (4, [.ref fa, .ref ca, .ref la, .ref pce, .ref pse, .ref ppl, .int pen, .int psu, .int pnm, .int pkn, .int pfo])), (la, .inr (3, [.ref lwo])), (lwo, .inl (cJ, 1296, .inr (.inl (ix.2.1)))), (pce, .inl (cII, 32, .inr (.inr (.inr (.inr (fun i => if i < 32 then some (rp i) else none)))))), (pse, .inl (cI, 32, .inl (ix.2.2.2))), (ppl, .inl (cII, 32, .inr (.inr (.inr (.inr (fun i => if i < 32 then some (rq i) else none)))))), (fa, .inr (1, [.int fw, .int fh, .ref wa, .int (nI F0), .ref ra, .ref sa, .ref ta])), (ra, .inl (cI, 25, .inl rk)), (sa, .inl (cI, 25, .inl sc)), (ta, .inl (cII, 25, .inr (.inr (.inr (.inr (fun i => if i < 25 then some (rr i) else none)))))), (ca, .inr (0, [.ref fa, .int (nI n), .ref cs, .ref cg, .ref cto, .ref cq, .ref cco, .ref cnx])), (cs, .inl (cI, 5, .inl s5)), (cg, .inl (cI, 5, .inl g5)), (cto, .inl (cII, 5, .inr (.inr (.inr (.inr (fun i => if i < 5 then some (rg i) else none))))))] ++ mt_rw 32 rp (fun i => .inl (cI, 5, .inl ((ix.2.2.1) i)))) ++ mt_rw 32 rq (fun i => .inl (cI, 5, .inl (Mp i)))) ++ mt_rw 25 rr (fun i => .inl (cI, 5, .inl (Ms i)))) ++ mt_rw 5 rg (fun i => .inl (cI, 25, .inl (Mg i)))) H ∧ va_D A (((([(pa, .inr (4, [.ref fa, .ref ca, .ref la, .ref pce, .ref pse, .ref ppl, .int pen, .int psu, .int pnm, .int pkn, .int pfo])), (la, .inr (3, [.ref lwo])), (lwo, .inl (cJ, 1296, .inr (.inl (ix.2.1)))), (pce, .inl (cII, 32, .inr (.inr (.inr (.inr (fun i => if i < 32 then some (rp i) else none)))))), (pse, .inl (cI, 32, .inl (ix.2.2.2))), (ppl, .inl (cII, 32, .inr (.inr (.inr (.inr (fun i => if i < 32 then some (rq i) else none)))))), (fa, .inr (1, [.int fw, .int fh, .ref wa, .int (nI F0), .ref ra, .ref sa, .ref ta])), (ra, .inl (cI, 25, .inl rk)), (sa, .inl (cI, 25, .inl sc)), (ta, .inl (cII, 25, .inr (.inr (.inr (.inr (fun i => if i < 25 then some (rr i) else none)))))), (ca, .inr (0, [.ref fa, .int (nI n), .ref cs, .ref cg, .ref cto, .ref cq, .ref cco, .ref cnx])), (cs, .inl (cI, 5, .inl s5)), (cg, .inl (cI, 5, .inl g5)), (cto, .inl (cII, 5, .inr (.inr (.inr (.inr (fun i => if i < 5 then some (rg i) else none))))))] ++ mt_rw 32 rp (fun i => .inl (cI, 5, .inl ((ix.2.2.1) i)))) ++ mt_rw 32 rq (fun i => .inl (cI, 5, .inl (Mp i)))) ++ mt_rw 25 rr (fun i => .inl (cI, 5, .inl (Ms i)))) ++ mt_rw 5 rg (fun i => .inl (cI, 25, .inl (Mg i)))) ∧ va_S A s.heap H locs) (μ := fun ix => cnt - (ix.1)) ?_ (0, wo2, Mc2, se2) ls H _ ⟨Nat.zero_le _, j1, j2, j3, j4, fun i b h => absurd h (Nat.not_lt_zero _), hl, hP, hD, hS⟩
        clear hl hP hD hS
        intro i_b ls H locs ⟨hii, k1, k2, k3, k4, k5, hl, hP, hD, hS⟩ ih_b
        obtain ⟨ii, wo3, Mc3, se3⟩ := i_b
        have hii : ii ≤ cnt := hii
        have k1 : px_Snd F0 n N0 wf rk sc Ms Mg gl wo3 := k1
        have k2 : ∀ i, i ≤ dd → Mc3 i = Mc i := k2
        have k3 : ∀ i, i < mo → Mc3 (dd + 1) i = Mc (dd + 1) i := k3
        have k4 : ∀ i, i ≤ dd → se3 i = se i := k4
        have k5 : ∀ i b, i < ii → Ms (p0 mo) i = nI b → b < 25 → ¬ (px_lf gl Mg mo b ≤ w + px_lf gl Mg mo (p0 mo) - 1 ∧ sx_ok p0 q0 mo b ∧ px_X n sc Ms Mg gl (30 - dd) S p0 j (mo + 1) T (sx_up q0 mo b) (w + px_lf gl Mg mo (p0 mo) - 1 - px_lf gl Mg mo b)) := k5
        have hl : lv_has ls 13 [(10, .int (nI ii)), (0, .ref pa), (1, .int (nI dd)), (2, .int (nI mo)), (3, .int (nI T)), (4, .int (nI w)), (5, .ref (rp dd)), (6, .ref (rp (dd + 1))), (7, .int (nI (p0 mo))), (8, .int (nI (T ||| 2 ^ mo))), (9, .int (nI (w + px_lf gl Mg mo (p0 mo) - 1)))] := hl
        have hP : va_P D kls (((([(pa, .inr (4, [.ref fa, .ref ca, .ref la, .ref pce, .ref pse, .ref ppl, .int pen, .int psu, .int pnm, .int pkn, .int pfo])), (la, .inr (3, [.ref lwo])), (lwo, .inl (cJ, 1296, .inr (.inl wo3))), (pce, .inl (cII, 32, .inr (.inr (.inr (.inr (fun i => if i < 32 then some (rp i) else none)))))), (pse, .inl (cI, 32, .inl se3)), (ppl, .inl (cII, 32, .inr (.inr (.inr (.inr (fun i => if i < 32 then some (rq i) else none)))))), (fa, .inr (1, [.int fw, .int fh, .ref wa, .int (nI F0), .ref ra, .ref sa, .ref ta])), (ra, .inl (cI, 25, .inl rk)), (sa, .inl (cI, 25, .inl sc)), (ta, .inl (cII, 25, .inr (.inr (.inr (.inr (fun i => if i < 25 then some (rr i) else none)))))), (ca, .inr (0, [.ref fa, .int (nI n), .ref cs, .ref cg, .ref cto, .ref cq, .ref cco, .ref cnx])), (cs, .inl (cI, 5, .inl s5)), (cg, .inl (cI, 5, .inl g5)), (cto, .inl (cII, 5, .inr (.inr (.inr (.inr (fun i => if i < 5 then some (rg i) else none))))))] ++ mt_rw 32 rp (fun i => .inl (cI, 5, .inl (Mc3 i)))) ++ mt_rw 32 rq (fun i => .inl (cI, 5, .inl (Mp i)))) ++ mt_rw 25 rr (fun i => .inl (cI, 5, .inl (Ms i)))) ++ mt_rw 5 rg (fun i => .inl (cI, 25, .inl (Mg i)))) H := hP
        have hD : va_D A (((([(pa, .inr (4, [.ref fa, .ref ca, .ref la, .ref pce, .ref pse, .ref ppl, .int pen, .int psu, .int pnm, .int pkn, .int pfo])), (la, .inr (3, [.ref lwo])), (lwo, .inl (cJ, 1296, .inr (.inl wo3))), (pce, .inl (cII, 32, .inr (.inr (.inr (.inr (fun i => if i < 32 then some (rp i) else none)))))), (pse, .inl (cI, 32, .inl se3)), (ppl, .inl (cII, 32, .inr (.inr (.inr (.inr (fun i => if i < 32 then some (rq i) else none)))))), (fa, .inr (1, [.int fw, .int fh, .ref wa, .int (nI F0), .ref ra, .ref sa, .ref ta])), (ra, .inl (cI, 25, .inl rk)), (sa, .inl (cI, 25, .inl sc)), (ta, .inl (cII, 25, .inr (.inr (.inr (.inr (fun i => if i < 25 then some (rr i) else none)))))), (ca, .inr (0, [.ref fa, .int (nI n), .ref cs, .ref cg, .ref cto, .ref cq, .ref cco, .ref cnx])), (cs, .inl (cI, 5, .inl s5)), (cg, .inl (cI, 5, .inl g5)), (cto, .inl (cII, 5, .inr (.inr (.inr (.inr (fun i => if i < 5 then some (rg i) else none))))))] ++ mt_rw 32 rp (fun i => .inl (cI, 5, .inl (Mc3 i)))) ++ mt_rw 32 rq (fun i => .inl (cI, 5, .inl (Mp i)))) ++ mt_rw 25 rr (fun i => .inl (cI, 5, .inl (Ms i)))) ++ mt_rw 5 rg (fun i => .inl (cI, 25, .inl (Mg i)))) := hD
        refine lv_iload hx hb d_pn_reachesEndMoving_178 (lv_at hl 0 rfl) ?_
        refine lv_aload_n hx hb d_pn_reachesEndMoving_180 rfl (lv_at hl 1 rfl) ?_
        refine gf_pn_30 hx hb hg hown hK hP 0 rfl rfl d_pn_reachesEndMoving_181 ?_
        refine gf_pn_99 hx hb hg hown hK hP 6 rfl rfl d_pn_reachesEndMoving_184 ?_
        refine lv_iload hx hb d_pn_reachesEndMoving_187 (lv_at hl 8 rfl) ?_
        refine va_iald hx hb hK hP 8 1 rfl rfl (vp_in_nI hp25 (by decide)) d_pn_reachesEndMoving_189 ?_
        refine lv_topi (fun y9 ey9 => ?_)
        have ey9 : y9 = nI cnt := ey9.trans (by rw [nI_clamp (show p0 mo < 2 ^ 31 by omega)]; exact hsc)
        subst ey9
        refine lv_icmp_ge hx hb d_pn_reachesEndMoving_190 rfl (fun g6 => ?_) (fun g6 => ?_)
        ·
          have g7 : cnt ≤ ii := by rcases Nat.lt_or_ge ii cnt with h | h; exact absurd g6 (nI_ge (b := cnt) h (by omega)); exact h
          have hnX : ¬ px_X n sc Ms Mg gl (30 - dd) S p0 (j + 1) mo T q0 w := by
            intro h
            rcases px_Xs.mp h with h | ⟨-, h | ⟨b, ⟨hb9, c9, i9, q1, q2, q3, q4⟩, h⟩⟩
            · exact absurd (h.1.symm.trans hbit) (by decide)
            · exact j5 h
            · have e9 : cnt = c9 := (nI_eq (by omega) (by omega)).mp (hsc.symm.trans q2)
              exact k5 i9 b (by omega) q4 hb9 h
          refine lv_iconst (v := 0) hx hb d_pn_reachesEndMoving_260 (by decide) ?_
          have hP9 := hP
          have hD9 := hD
          exact W.zret hx hb hr rfl (fun t ht hW => ⟨⟨0, (wo3, Mc3, se3), rfl, ⟨Or.inr ⟨rfl, hnX⟩, k1, k2, k3, k4⟩, by rw [ht]; exact hP9, hD9⟩, hS.F ht⟩) hS.2.2 d_pn_reachesEndMoving_261
        ·
          have g7 : ii < cnt := by rcases Nat.lt_or_ge ii cnt with h | h; exact h; exact absurd (nI_le (a := cnt) h (by omega)) g6
          obtain ⟨b, hbf, hbe⟩ := hst ii g7
          have hb25 : b < 25 := by have := hbf.1; have := hC.2.1; omega
          have hnb : fx_nb sc Ms (p0 mo) b := ⟨hb25, cnt, ii, hcnt, hsc, g7, hbe⟩
          have hbA := px_hA hC mo _ b hVm.1 hnb
          have hrow3 : ∀ i, i < n → Mc3 dd i = nI (p0 i) := fun i hi => by rw [k2 dd (Nat.le_refl _)]; exact hrow i hi
          have hQ3 := px_Qc hQ k3
          have hlfa := px_lfle hC hVm.1
          have hlfb := px_lfle hC hbA.1
          refine lv_aload_n hx hb d_pn_reachesEndMoving_193 rfl (lv_at hl 1 rfl) ?_
          refine gf_pn_30 hx hb hg hown hK hP 0 rfl rfl d_pn_reachesEndMoving_194 ?_
          refine gf_pn_104 hx hb hg hown hK hP 6 rfl rfl d_pn_reachesEndMoving_197 ?_
          refine lv_iload hx hb d_pn_reachesEndMoving_200 (lv_at hl 8 rfl) ?_
          refine mt_aald hx hb hK hP 9 3 rfl rfl (vp_in_nI hp25 (by decide)) (by show (if (nI (p0 mo)).toNatClampNeg < 25 then some (rr (nI (p0 mo)).toNatClampNeg) else none) = some (rr (p0 mo)); rw [nI_clamp (show p0 mo < 2 ^ 31 by omega), if_pos hp25]) d_pn_reachesEndMoving_202 ?_
          refine lv_iload hx hb d_pn_reachesEndMoving_203 (lv_at hl 0 rfl) ?_
          refine va_iald hx hb hK hP (78 + (p0 mo)) 1 (mt_at_l (mt_rw_at rfl hp25)) rfl (vp_in_nI (show ii < 5 by omega) (by decide)) d_pn_reachesEndMoving_205 ?_
          refine lv_topi (fun y10 ey10 => ?_)
          have ey10 : y10 = nI b := ey10.trans (by rw [nI_clamp (show ii < 2 ^ 31 by omega)]; exact hbe)
          subst ey10
          refine lv_istore hx hb d_pn_reachesEndMoving_206 hl (by decide) rfl (fun ls hl => ?_)
          have hl : lv_has ls 13 [(11, .int (nI b)), (10, .int (nI ii)), (0, .ref pa), (1, .int (nI dd)), (2, .int (nI mo)), (3, .int (nI T)), (4, .int (nI w)), (5, .ref (rp dd)), (6, .ref (rp (dd + 1))), (7, .int (nI (p0 mo))), (8, .int (nI (T ||| 2 ^ mo))), (9, .int (nI (w + px_lf gl Mg mo (p0 mo) - 1)))] := hl
          refine lv_iload hx hb d_pn_reachesEndMoving_208 (lv_at hl 11 rfl) ?_
          refine lv_aload_n hx hb d_pn_reachesEndMoving_210 rfl (lv_at hl 2 rfl) ?_
          refine lv_iload_n hx hb d_pn_reachesEndMoving_211 rfl (lv_at hl 4 rfl) ?_
          refine lv_iload hx hb d_pn_reachesEndMoving_212 (lv_at hl 0 rfl) ?_
          have hPc := hP.sub (ws' := ([(pa, .inr (4, [.ref fa, .ref ca, .ref la, .ref pce, .ref pse, .ref ppl, .int pen, .int psu, .int pnm, .int pkn, .int pfo])), (ca, .inr (0, [.ref fa, .int (nI n), .ref cs, .ref cg, .ref cto, .ref cq, .ref cco, .ref cnx])), (cg, .inl (cI, 5, .inl g5)), (cto, .inl (cII, 5, .inr (.inr (.inr (.inr (fun i => if i < 5 then some (rg i) else none))))))] ++ mt_rw 5 rg (fun i => .inl (cI, 25, .inl (Mg i))))) [0, 10, 12, 13, 103, 104, 105, 106, 107] rfl
          have hDc := hD.sub (ws' := ([(pa, .inr (4, [.ref fa, .ref ca, .ref la, .ref pce, .ref pse, .ref ppl, .int pen, .int psu, .int pnm, .int pkn, .int pfo])), (ca, .inr (0, [.ref fa, .int (nI n), .ref cs, .ref cg, .ref cto, .ref cq, .ref cco, .ref cnx])), (cg, .inl (cI, 5, .inl g5)), (cto, .inl (cII, 5, .inr (.inr (.inr (.inr (fun i => if i < 5 then some (rg i) else none))))))] ++ mt_rw 5 rg (fun i => .inl (cI, 25, .inl (Mg i))))) [0, 10, 12, 13, 103, 104, 105, 106, 107] (by decide) rfl
          refine vp_callSi (W.runV (As := [.int (nI mo), .int (nI b)]) (rest := [.int (nI (w + px_lf gl Mg mo (p0 mo) - 1))]) ⟨hx, hb, hml, hown, hg⟩ (c_pn_wayLeft l D cZ cI cJ cII pa fa la pce pse ppl pen psu pnm pkn pfo ca fa (nI n) cs cg cto cq cco cnx g5 rg Mg mo b gl H.size (by omega) hb25 (⟨hgl.1, hgl25⟩) (hbA.1.2.2)) (cwV 2 hg gv_pn_121 rfl rfl rfl (by decide +kernel) ⟨by first | exact Nat.le_of_ble_eq_true rfl | (dsimp only; omega), by first | exact Nat.le_of_ble_eq_true rfl | (dsimp only; omega)⟩) ⟨mt_bl, va_recv (q0 := 0) (ci := 4) hK hP rfl rfl, mt_pr hX hPc hK hDc⟩ rfl rfl hl.1 rfl (lv_room (by first | exact Nat.le_of_ble_eq_true rfl | (dsimp only; omega))) d_pn_reachesEndMoving_214 ⟨by first | exact Nat.le_of_ble_eq_true rfl | (dsimp only; omega), by first | exact Nat.le_of_ble_eq_true rfl | (dsimp only; omega)⟩) (fun r11 hr11 => ?_)
          have hr11 : r11 = nI (px_lf gl Mg mo b) := hr11
          have hr11 : r11 = nI (px_lf gl Mg mo b) := hr11
          subst hr11
          refine lv_isub hx hb d_pn_reachesEndMoving_217 ?_
          refine lv_topi (fun x12 ex12 => ?_)
          refine lv_istore hx hb d_pn_reachesEndMoving_218 hl (by decide) rfl (fun ls hl => ?_)
          have hl : lv_has ls 13 [(12, .int x12), (11, .int (nI b)), (10, .int (nI ii)), (0, .ref pa), (1, .int (nI dd)), (2, .int (nI mo)), (3, .int (nI T)), (4, .int (nI w)), (5, .ref (rp dd)), (6, .ref (rp (dd + 1))), (7, .int (nI (p0 mo))), (8, .int (nI (T ||| 2 ^ mo))), (9, .int (nI (w + px_lf gl Mg mo (p0 mo) - 1)))] := hl
          refine lv_iload hx hb d_pn_reachesEndMoving_220 (lv_at hl 0 rfl) ?_
          refine lv_if_lt hx hb d_pn_reachesEndMoving_222 rfl (fun gs => ?_) (fun gs => ?_)
          ·
            have gl0 : ¬ px_lf gl Mg mo b ≤ w + px_lf gl Mg mo (p0 mo) - 1 := fun h => by
              rw [ex12, pk_sub h] at gs
              exact nI_pos (by omega) gs
            refine lv_iinc (k := 2) (v := nI (ii + 1)) hx hb d_pn_reachesEndMoving_254 hl rfl ((nI_succ ii).symm) (by decide) rfl (fun ls hl => ?_)
            have hl : lv_has ls 13 [(10, .int (nI (ii + 1))), (12, .int x12), (11, .int (nI b)), (0, .ref pa), (1, .int (nI dd)), (2, .int (nI mo)), (3, .int (nI T)), (4, .int (nI w)), (5, .ref (rp dd)), (6, .ref (rp (dd + 1))), (7, .int (nI (p0 mo))), (8, .int (nI (T ||| 2 ^ mo))), (9, .int (nI (w + px_lf gl Mg mo (p0 mo) - 1)))] := hl
            refine lv_goto hx hb d_pn_reachesEndMoving_257 rfl ?_
            have hl := lv_sub hl [0, 3, 4, 5, 6, 7, 8, 9, 10, 11, 12] (l' := [(10, .int (nI (ii + 1))), (0, .ref pa), (1, .int (nI dd)), (2, .int (nI mo)), (3, .int (nI T)), (4, .int (nI w)), (5, .ref (rp dd)), (6, .ref (rp (dd + 1))), (7, .int (nI (p0 mo))), (8, .int (nI (T ||| 2 ^ mo))), (9, .int (nI (w + px_lf gl Mg mo (p0 mo) - 1)))]) rfl
            exact ih_b (ii + 1, wo3, Mc3, se3) ls H _ (by show cnt - (ii + 1) < cnt - ii; omega) ⟨by show ii + 1 ≤ cnt; omega, k1, k2, k3, k4, px_ext (P := fun b => px_lf gl Mg mo b ≤ w + px_lf gl Mg mo (p0 mo) - 1 ∧ sx_ok p0 q0 mo b ∧ px_X n sc Ms Mg gl (30 - dd) S p0 j (mo + 1) T (sx_up q0 mo b) (w + px_lf gl Mg mo (p0 mo) - 1 - px_lf gl Mg mo b)) k5 hbe hb25 (fun h => gl0 h.1), hl, hP, hD, hS⟩
          ·
            have gl0 : px_lf gl Mg mo b ≤ w + px_lf gl Mg mo (p0 mo) - 1 := by
              rcases Nat.lt_or_ge (w + px_lf gl Mg mo (p0 mo) - 1) (px_lf gl Mg mo b) with h | h
              · exact absurd (by rw [ex12]; exact pk_sneg (by omega) h) gs
              · exact h
            have e12 : x12 = nI (w + px_lf gl Mg mo (p0 mo) - 1 - px_lf gl Mg mo b) := ex12.trans (pk_sub gl0)
            rw [e12] at hl
            have hl : lv_has ls 13 [(12, .int (nI (w + px_lf gl Mg mo (p0 mo) - 1 - px_lf gl Mg mo b))), (11, .int (nI b)), (10, .int (nI ii)), (0, .ref pa), (1, .int (nI dd)), (2, .int (nI mo)), (3, .int (nI T)), (4, .int (nI w)), (5, .ref (rp dd)), (6, .ref (rp (dd + 1))), (7, .int (nI (p0 mo))), (8, .int (nI (T ||| 2 ^ mo))), (9, .int (nI (w + px_lf gl Mg mo (p0 mo) - 1)))] := hl
            refine lv_aload hx hb d_pn_reachesEndMoving_225 (lv_at hl 8 rfl) ?_
            refine lv_aload hx hb d_pn_reachesEndMoving_227 (lv_at hl 9 rfl) ?_
            refine lv_iload_n hx hb d_pn_reachesEndMoving_229 rfl (lv_at hl 5 rfl) ?_
            refine lv_iload hx hb d_pn_reachesEndMoving_230 (lv_at hl 1 rfl) ?_
            have hPc := hP
            have hDc := hD
            have hFc := mt_whole hD hS hA
            refine va_calli (va_runS (As := [.ref (rp dd), .ref (rp (dd + 1)), .int (nI mo), .int (nI b)]) (rest := []) ⟨hx, hb, hml, hown, hg⟩ (c_pn_goesC l D cZ cI cJ cII _ pce pse ppl pen psu pnm pkn pfo la lwo fa fw fh wa ra sa ta ca cs cg cto cq cco cnx wo3 Mc3 se3 Mp rk sc s5 g5 rp rq rr rg Ms Mg _ _ dd mo b p0 q0 H.size (by omega) (by omega) hb25 (fun i hi => ⟨hrow3 i (by omega), px_A25 hC (hV.2.2 i (by omega)).1⟩) (fun i hi => ⟨(hQ3.2.2.1 i hi).1, px_A25 hC (hQ3.2.2.1 i hi).2.1⟩)) ⟨callB_of 4 hg gg_pn_107 rfl rfl rfl (hg _ gi_pn_107) (hg _ gl_pn_107) (by decide +kernel) ⟨by first | exact Nat.le_of_ble_eq_true rfl | (dsimp only; omega), by first | exact Nat.le_of_ble_eq_true rfl | (dsimp only; omega)⟩, hg _ gt_pn_107⟩ ⟨mt_bl, mt_pr hX hPc hK hDc⟩ rfl rfl hl.1 rfl (lv_room (by first | exact Nat.le_of_ble_eq_true rfl | (dsimp only; omega))) d_pn_reachesEndMoving_232 ⟨by first | exact Nat.le_of_ble_eq_true rfl | (dsimp only; omega), by first | exact Nat.le_of_ble_eq_true rfl | (dsimp only; omega)⟩) hS (fun q _ h => hFc q h) hFc (fun r13 u t H1 locs ht hvm hw hB hz1 hk1 hS => ?_)
            obtain ⟨M9, rfl⟩ : ∃ z, z = u := ⟨_, rfl⟩
            obtain ⟨hr13, hwr13⟩ := hw
            have hr13 : (r13 = 1 ∧ sx_ok p0 q0 mo b ∧ M9 = va_up Mc3 (dd + 1) (upd (Mc3 (dd + 1)) mo (nI b))) ∨ (r13 = 0 ∧ ¬ sx_ok p0 q0 mo b ∧ M9 = Mc3) := hr13
            obtain ⟨hP1, hD1⟩ := hB
            rw [ht] at hP1
            have hP := hP1
            have hD := hD1.weaken (fun _ _ _ h => hFc _ h)
            generalize H1 = H at hP hS ⊢
            have hP : va_P D kls (((([(pa, .inr (4, [.ref fa, .ref ca, .ref la, .ref pce, .ref pse, .ref ppl, .int pen, .int psu, .int pnm, .int pkn, .int pfo])), (la, .inr (3, [.ref lwo])), (lwo, .inl (cJ, 1296, .inr (.inl wo3))), (pce, .inl (cII, 32, .inr (.inr (.inr (.inr (fun i => if i < 32 then some (rp i) else none)))))), (pse, .inl (cI, 32, .inl se3)), (ppl, .inl (cII, 32, .inr (.inr (.inr (.inr (fun i => if i < 32 then some (rq i) else none)))))), (fa, .inr (1, [.int fw, .int fh, .ref wa, .int (nI F0), .ref ra, .ref sa, .ref ta])), (ra, .inl (cI, 25, .inl rk)), (sa, .inl (cI, 25, .inl sc)), (ta, .inl (cII, 25, .inr (.inr (.inr (.inr (fun i => if i < 25 then some (rr i) else none)))))), (ca, .inr (0, [.ref fa, .int (nI n), .ref cs, .ref cg, .ref cto, .ref cq, .ref cco, .ref cnx])), (cs, .inl (cI, 5, .inl s5)), (cg, .inl (cI, 5, .inl g5)), (cto, .inl (cII, 5, .inr (.inr (.inr (.inr (fun i => if i < 5 then some (rg i) else none))))))] ++ mt_rw 32 rp (fun i => .inl (cI, 5, .inl (M9 i)))) ++ mt_rw 32 rq (fun i => .inl (cI, 5, .inl (Mp i)))) ++ mt_rw 25 rr (fun i => .inl (cI, 5, .inl (Ms i)))) ++ mt_rw 5 rg (fun i => .inl (cI, 25, .inl (Mg i)))) H := hP
            have hD : va_D A (((([(pa, .inr (4, [.ref fa, .ref ca, .ref la, .ref pce, .ref pse, .ref ppl, .int pen, .int psu, .int pnm, .int pkn, .int pfo])), (la, .inr (3, [.ref lwo])), (lwo, .inl (cJ, 1296, .inr (.inl wo3))), (pce, .inl (cII, 32, .inr (.inr (.inr (.inr (fun i => if i < 32 then some (rp i) else none)))))), (pse, .inl (cI, 32, .inl se3)), (ppl, .inl (cII, 32, .inr (.inr (.inr (.inr (fun i => if i < 32 then some (rq i) else none)))))), (fa, .inr (1, [.int fw, .int fh, .ref wa, .int (nI F0), .ref ra, .ref sa, .ref ta])), (ra, .inl (cI, 25, .inl rk)), (sa, .inl (cI, 25, .inl sc)), (ta, .inl (cII, 25, .inr (.inr (.inr (.inr (fun i => if i < 25 then some (rr i) else none)))))), (ca, .inr (0, [.ref fa, .int (nI n), .ref cs, .ref cg, .ref cto, .ref cq, .ref cco, .ref cnx])), (cs, .inl (cI, 5, .inl s5)), (cg, .inl (cI, 5, .inl g5)), (cto, .inl (cII, 5, .inr (.inr (.inr (.inr (fun i => if i < 5 then some (rg i) else none))))))] ++ mt_rw 32 rp (fun i => .inl (cI, 5, .inl (M9 i)))) ++ mt_rw 32 rq (fun i => .inl (cI, 5, .inl (Mp i)))) ++ mt_rw 25 rr (fun i => .inl (cI, 5, .inl (Ms i)))) ++ mt_rw 5 rg (fun i => .inl (cI, 25, .inl (Mg i)))) := hD
            have hgo9 := hr13
            refine lv_if_eq hx hb d_pn_reachesEndMoving_235 rfl (fun gg => ?_) (fun gg => ?_)
            ·
              obtain ⟨hnok, hM9⟩ : ¬ sx_ok p0 q0 mo b ∧ M9 = Mc3 := hgo9.elim (fun q => absurd (q.1.symm.trans gg) (by decide)) (fun q => q.2)
              refine lv_iinc (k := 2) (v := nI (ii + 1)) hx hb d_pn_reachesEndMoving_254 hl rfl ((nI_succ ii).symm) (by decide) rfl (fun ls hl => ?_)
              have hl : lv_has ls 13 [(10, .int (nI (ii + 1))), (12, .int (nI (w + px_lf gl Mg mo (p0 mo) - 1 - px_lf gl Mg mo b))), (11, .int (nI b)), (0, .ref pa), (1, .int (nI dd)), (2, .int (nI mo)), (3, .int (nI T)), (4, .int (nI w)), (5, .ref (rp dd)), (6, .ref (rp (dd + 1))), (7, .int (nI (p0 mo))), (8, .int (nI (T ||| 2 ^ mo))), (9, .int (nI (w + px_lf gl Mg mo (p0 mo) - 1)))] := hl
              refine lv_goto hx hb d_pn_reachesEndMoving_257 rfl ?_
              have hl := lv_sub hl [0, 3, 4, 5, 6, 7, 8, 9, 10, 11, 12] (l' := [(10, .int (nI (ii + 1))), (0, .ref pa), (1, .int (nI dd)), (2, .int (nI mo)), (3, .int (nI T)), (4, .int (nI w)), (5, .ref (rp dd)), (6, .ref (rp (dd + 1))), (7, .int (nI (p0 mo))), (8, .int (nI (T ||| 2 ^ mo))), (9, .int (nI (w + px_lf gl Mg mo (p0 mo) - 1)))]) rfl
              exact ih_b (ii + 1, wo3, M9, se3) ls H _ (by show cnt - (ii + 1) < cnt - ii; omega) ⟨by show ii + 1 ≤ cnt; omega, k1, fun i hi => by show M9 i = _; rw [hM9]; exact k2 i hi, fun i hi => by show M9 (dd + 1) i = _; rw [hM9]; exact k3 i hi, k4, px_ext (P := fun b => px_lf gl Mg mo b ≤ w + px_lf gl Mg mo (p0 mo) - 1 ∧ sx_ok p0 q0 mo b ∧ px_X n sc Ms Mg gl (30 - dd) S p0 j (mo + 1) T (sx_up q0 mo b) (w + px_lf gl Mg mo (p0 mo) - 1 - px_lf gl Mg mo b)) k5 hbe hb25 (fun h => hnok h.2.1), hl, hP, hD, hS⟩
            ·
              obtain ⟨hok, hM9⟩ : sx_ok p0 q0 mo b ∧ M9 = va_up Mc3 (dd + 1) (upd (Mc3 (dd + 1)) mo (nI b)) := hgo9.elim (fun q => q.2) (fun q => absurd q.1 gg)
              have hM9a : ∀ i, i ≤ dd → M9 i = Mc3 i := fun i hi => by rw [hM9]; exact mt_rowne (by omega)
              have hM9b : M9 (dd + 1) = upd (Mc3 (dd + 1)) mo (nI b) := by rw [hM9]; exact mt_rowup
              have hQm := px_Qm hC hV hQ3 hmn hbit hnb gl0
              refine lv_aload_n hx hb d_pn_reachesEndMoving_238 rfl (lv_at hl 3 rfl) ?_
              refine lv_iload_n hx hb d_pn_reachesEndMoving_239 rfl (lv_at hl 4 rfl) ?_
              refine lv_iload_n hx hb d_pn_reachesEndMoving_240 rfl (lv_at hl 5 rfl) ?_
              refine lv_iconst (v := 1) hx hb d_pn_reachesEndMoving_241 (by decide) ?_
              refine lv_iadd hx hb d_pn_reachesEndMoving_242 ?_
              refine lv_topi (fun y14 ey14 => ?_)
              have ey14 : y14 = nI (mo + 1) := ey14.trans (nI_1 _)
              subst ey14
              refine lv_iload_n hx hb d_pn_reachesEndMoving_243 rfl (lv_at hl 6 rfl) ?_
              refine lv_iload hx hb d_pn_reachesEndMoving_244 (lv_at hl 0 rfl) ?_
              have hPc := hP
              have hDc := hD
              have hFc := mt_whole hD hS hA
              refine va_calli (va_runV (As := [.int (nI dd), .int (nI (mo + 1)), .int (nI T), .int (nI (w + px_lf gl Mg mo (p0 mo) - 1 - px_lf gl Mg mo b))]) (rest := []) ⟨hx, hb, hml, hown, hg⟩ (HM pa pce pse ppl pen psu pnm pkn pfo la lwo fa fw fh wa ra sa ta ca cs cg cto cq cco cnx wo3 M9 se3 Mp rk sc s5 g5 rp rq rr rg Ms Mg _ _ N0 W0 wf gl dd (mo + 1) T (w + px_lf gl Mg mo (p0 mo) - 1 - px_lf gl Mg mo b) S p0 (sx_up q0 mo b) H.size hC hd (by omega) hV (fun i hi => by rw [hM9a dd (Nat.le_refl _)]; exact hrow3 i hi) (by rw [k4 dd (Nat.le_refl _)]; exact hse) (by have := hQm.1; omega) (by rw [hM9b]; exact hQm.2) k1 (by omega)) (cwV 4 hg gv_pn_134 rfl rfl rfl (by decide +kernel) ⟨by first | exact Nat.le_of_ble_eq_true rfl | (dsimp only; omega), by first | exact Nat.le_of_ble_eq_true rfl | (dsimp only; omega)⟩) ⟨mt_bl, va_recv (q0 := 0) (ci := 4) hK hP rfl rfl, mt_pr hX hPc hK hDc⟩ rfl rfl hl.1 rfl (lv_room (by first | exact Nat.le_of_ble_eq_true rfl | (dsimp only; omega))) d_pn_reachesEndMoving_246 ⟨by first | exact Nat.le_of_ble_eq_true rfl | (dsimp only; omega), by first | exact Nat.le_of_ble_eq_true rfl | (dsimp only; omega)⟩) hS (fun q _ h => hFc q h) hFc (fun r15 u t H1 locs ht hvm hw hB hz1 hk1 hS => ?_)
              obtain ⟨wo5, Mc5, se5⟩ := u
              obtain ⟨hr15, hwr15⟩ := hw
              have hr15 : (r15 = 1 ∧ px_X n sc Ms Mg gl (30 - dd) S p0 (n - (mo + 1)) (mo + 1) T (sx_up q0 mo b) (w + px_lf gl Mg mo (p0 mo) - 1 - px_lf gl Mg mo b)) ∨ (r15 = 0 ∧ ¬ px_X n sc Ms Mg gl (30 - dd) S p0 (n - (mo + 1)) (mo + 1) T (sx_up q0 mo b) (w + px_lf gl Mg mo (p0 mo) - 1 - px_lf gl Mg mo b)) := hr15
              have hwr15 : px_Snd F0 n N0 wf rk sc Ms Mg gl wo5 ∧ (∀ i, i ≤ dd → Mc5 i = M9 i) ∧ (∀ i, i < (mo + 1) → Mc5 (dd + 1) i = M9 (dd + 1) i) ∧ (∀ i, i ≤ dd → se5 i = se3 i) := hwr15
              obtain ⟨hP1, hD1⟩ := hB
              rw [ht] at hP1
              have hP := hP1
              have hD := hD1.weaken (fun _ _ _ h => hFc _ h)
              generalize H1 = H at hP hS ⊢
              have hP : va_P D kls (((([(pa, .inr (4, [.ref fa, .ref ca, .ref la, .ref pce, .ref pse, .ref ppl, .int pen, .int psu, .int pnm, .int pkn, .int pfo])), (la, .inr (3, [.ref lwo])), (lwo, .inl (cJ, 1296, .inr (.inl wo5))), (pce, .inl (cII, 32, .inr (.inr (.inr (.inr (fun i => if i < 32 then some (rp i) else none)))))), (pse, .inl (cI, 32, .inl se5)), (ppl, .inl (cII, 32, .inr (.inr (.inr (.inr (fun i => if i < 32 then some (rq i) else none)))))), (fa, .inr (1, [.int fw, .int fh, .ref wa, .int (nI F0), .ref ra, .ref sa, .ref ta])), (ra, .inl (cI, 25, .inl rk)), (sa, .inl (cI, 25, .inl sc)), (ta, .inl (cII, 25, .inr (.inr (.inr (.inr (fun i => if i < 25 then some (rr i) else none)))))), (ca, .inr (0, [.ref fa, .int (nI n), .ref cs, .ref cg, .ref cto, .ref cq, .ref cco, .ref cnx])), (cs, .inl (cI, 5, .inl s5)), (cg, .inl (cI, 5, .inl g5)), (cto, .inl (cII, 5, .inr (.inr (.inr (.inr (fun i => if i < 5 then some (rg i) else none))))))] ++ mt_rw 32 rp (fun i => .inl (cI, 5, .inl (Mc5 i)))) ++ mt_rw 32 rq (fun i => .inl (cI, 5, .inl (Mp i)))) ++ mt_rw 25 rr (fun i => .inl (cI, 5, .inl (Ms i)))) ++ mt_rw 5 rg (fun i => .inl (cI, 25, .inl (Mg i)))) H := hP
              have hD : va_D A (((([(pa, .inr (4, [.ref fa, .ref ca, .ref la, .ref pce, .ref pse, .ref ppl, .int pen, .int psu, .int pnm, .int pkn, .int pfo])), (la, .inr (3, [.ref lwo])), (lwo, .inl (cJ, 1296, .inr (.inl wo5))), (pce, .inl (cII, 32, .inr (.inr (.inr (.inr (fun i => if i < 32 then some (rp i) else none)))))), (pse, .inl (cI, 32, .inl se5)), (ppl, .inl (cII, 32, .inr (.inr (.inr (.inr (fun i => if i < 32 then some (rq i) else none)))))), (fa, .inr (1, [.int fw, .int fh, .ref wa, .int (nI F0), .ref ra, .ref sa, .ref ta])), (ra, .inl (cI, 25, .inl rk)), (sa, .inl (cI, 25, .inl sc)), (ta, .inl (cII, 25, .inr (.inr (.inr (.inr (fun i => if i < 25 then some (rr i) else none)))))), (ca, .inr (0, [.ref fa, .int (nI n), .ref cs, .ref cg, .ref cto, .ref cq, .ref cco, .ref cnx])), (cs, .inl (cI, 5, .inl s5)), (cg, .inl (cI, 5, .inl g5)), (cto, .inl (cII, 5, .inr (.inr (.inr (.inr (fun i => if i < 5 then some (rg i) else none))))))] ++ mt_rw 32 rp (fun i => .inl (cI, 5, .inl (Mc5 i)))) ++ mt_rw 32 rq (fun i => .inl (cI, 5, .inl (Mp i)))) ++ mt_rw 25 rr (fun i => .inl (cI, 5, .inl (Ms i)))) ++ mt_rw 5 rg (fun i => .inl (cI, 25, .inl (Mg i)))) := hD
              have hX5 := hr15
              rw [hj2] at hX5
              have hsn5 := hwr15.1
              have hfr5 := px_fr hM9 hwr15.2.1 hwr15.2.2.1
              have hse5 := hwr15.2.2.2
              refine lv_if_eq hx hb d_pn_reachesEndMoving_249 rfl (fun g5 => ?_) (fun g5 => ?_)
              ·
                have hnX5 := hX5.elim (fun q => absurd (q.1.symm.trans g5) (by decide)) (fun q => q.2)
                refine lv_iinc (k := 2) (v := nI (ii + 1)) hx hb d_pn_reachesEndMoving_254 hl rfl ((nI_succ ii).symm) (by decide) rfl (fun ls hl => ?_)
                have hl : lv_has ls 13 [(10, .int (nI (ii + 1))), (12, .int (nI (w + px_lf gl Mg mo (p0 mo) - 1 - px_lf gl Mg mo b))), (11, .int (nI b)), (0, .ref pa), (1, .int (nI dd)), (2, .int (nI mo)), (3, .int (nI T)), (4, .int (nI w)), (5, .ref (rp dd)), (6, .ref (rp (dd + 1))), (7, .int (nI (p0 mo))), (8, .int (nI (T ||| 2 ^ mo))), (9, .int (nI (w + px_lf gl Mg mo (p0 mo) - 1)))] := hl
                refine lv_goto hx hb d_pn_reachesEndMoving_257 rfl ?_
                have hl := lv_sub hl [0, 3, 4, 5, 6, 7, 8, 9, 10, 11, 12] (l' := [(10, .int (nI (ii + 1))), (0, .ref pa), (1, .int (nI dd)), (2, .int (nI mo)), (3, .int (nI T)), (4, .int (nI w)), (5, .ref (rp dd)), (6, .ref (rp (dd + 1))), (7, .int (nI (p0 mo))), (8, .int (nI (T ||| 2 ^ mo))), (9, .int (nI (w + px_lf gl Mg mo (p0 mo) - 1)))]) rfl
                exact ih_b (ii + 1, wo5, Mc5, se5) ls H _ (by show cnt - (ii + 1) < cnt - ii; omega) ⟨by show ii + 1 ≤ cnt; omega, hsn5, fun i hi => (hfr5.1 i hi).trans (k2 i hi), fun i hi => (hfr5.2 i hi).trans (k3 i hi), fun i hi => (hse5 i hi).trans (k4 i hi), px_ext (P := fun b => px_lf gl Mg mo b ≤ w + px_lf gl Mg mo (p0 mo) - 1 ∧ sx_ok p0 q0 mo b ∧ px_X n sc Ms Mg gl (30 - dd) S p0 j (mo + 1) T (sx_up q0 mo b) (w + px_lf gl Mg mo (p0 mo) - 1 - px_lf gl Mg mo b)) k5 hbe hb25 (fun h => hnX5 h.2.2), hl, hP, hD, hS⟩
              ·
                have hY5 := hX5.elim (fun q => q.2) (fun q => absurd q.1 g5)
                refine lv_iconst (v := 1) hx hb d_pn_reachesEndMoving_252 (by decide) ?_
                have hP9 := hP
                have hD9 := hD
                exact W.zret hx hb hr rfl (fun t ht hW => ⟨⟨1, (wo5, Mc5, se5), rfl, ⟨Or.inl ⟨rfl, px_Xs.mpr (Or.inr ⟨hbit, Or.inr ⟨b, hnb, gl0, hok, hY5⟩⟩)⟩, hsn5, fun i hi => (hfr5.1 i hi).trans (k2 i hi), fun i hi => (hfr5.2 i hi).trans (k3 i hi), fun i hi => (hse5 i hi).trans (k4 i hi)⟩, by rw [ht]; exact hP9, hD9⟩, hS.F ht⟩) hS.2.2 d_pn_reachesEndMoving_253
      ·
        refine lv_aload_n hx hb d_pn_reachesEndMoving_122 rfl (lv_at hl 5 rfl) ?_
        refine gf_pn_34 hx hb hg hown hK hP 0 rfl rfl d_pn_reachesEndMoving_123 ?_
        refine gf_pn_124 hx hb hg hown hK hP 10 rfl rfl d_pn_reachesEndMoving_126 ?_
        refine lv_iload_n hx hb d_pn_reachesEndMoving_129 rfl (lv_at hl 7 rfl) ?_
        refine mt_aald hx hb hK hP 13 3 rfl rfl (vp_in_nI (show mo < 5 by omega) (by decide)) (by show (if (nI mo).toNatClampNeg < 5 then some (rg (nI mo).toNatClampNeg) else none) = some (rg mo); rw [nI_clamp (show mo < 2 ^ 31 by omega), if_pos (show mo < 5 by omega)]) d_pn_reachesEndMoving_130 ?_
        refine lv_iload hx hb d_pn_reachesEndMoving_131 (lv_at hl 2 rfl) ?_
        refine va_iald hx hb hK hP (103 + mo) 1 (mt_rw_at rfl (show mo < 5 by omega)) rfl (vp_in_nI hp25 (by decide)) d_pn_reachesEndMoving_133 ?_
        refine lv_topi (fun y16 ey16 => ?_)
        have ey16 : y16 = Mg mo (p0 mo) := ey16.trans (by rw [nI_clamp (show p0 mo < 2 ^ 31 by omega)])
        subst ey16
        refine lv_iconst (v := 1) hx hb d_pn_reachesEndMoving_134 (by decide) ?_
        refine lv_icmp_ne hx hb d_pn_reachesEndMoving_135 rfl (fun gw0 => ?_) (fun gw0 => ?_)
        ·
          have gw : ¬ px_nr Mg mo (p0 mo) := fun h => by
            obtain ⟨kk, hkk, hkk2⟩ := hVm.1.2.2
            have h9 : px_wl Mg mo (p0 mo) = 1 := h
            rw [px_wlE hkk hkk2] at h9
            exact gw0 (by rw [hkk2, h9]; rfl)
          have hl := lv_sub hl [5, 6, 7, 8, 9, 4, 3, 2, 1, 0] (l' := [(0, .ref pa), (1, .int (nI dd)), (2, .int (nI mo)), (3, .int (nI T)), (4, .int (nI w)), (5, .ref (rp dd)), (6, .ref (rp (dd + 1))), (7, .int (nI (p0 mo))), (8, .int (nI (T ||| 2 ^ mo))), (9, .int (nI (w + px_lf gl Mg mo (p0 mo) - 1)))]) rfl
          exact jp_j (wo, Mc, se) ls H _ ⟨hsn, fun _ _ => rfl, fun _ _ => rfl, fun _ _ => rfl, fun h => gw h.1, hl, hP, hD, hS⟩
        ·
          have gw : px_nr Mg mo (p0 mo) := px_wlE (k := 1) (by omega) gw0
          have hQn := px_Qn hC hV hQ hmn gw
          refine lv_aload hx hb d_pn_reachesEndMoving_138 (lv_at hl 4 rfl) ?_
          refine lv_aload hx hb d_pn_reachesEndMoving_140 (lv_at hl 3 rfl) ?_
          refine lv_iload_n hx hb d_pn_reachesEndMoving_142 rfl (lv_at hl 7 rfl) ?_
          refine lv_aload_n hx hb d_pn_reachesEndMoving_143 rfl (lv_at hl 5 rfl) ?_
          refine gf_pn_34 hx hb hg hown hK hP 0 rfl rfl d_pn_reachesEndMoving_144 ?_
          refine gf_pn_96 hx hb hg hown hK hP 10 rfl rfl d_pn_reachesEndMoving_147 ?_
          refine lv_iload_n hx hb d_pn_reachesEndMoving_150 rfl (lv_at hl 7 rfl) ?_
          refine va_iald hx hb hK hP 12 1 rfl rfl (vp_in_nI (show mo < 5 by omega) (by decide)) d_pn_reachesEndMoving_151 ?_
          refine lv_topi (fun y17 ey17 => ?_)
          have ey17 : y17 = nI (gl mo) := ey17.trans (by rw [nI_clamp (show mo < 2 ^ 31 by omega)]; exact hgl.1)
          subst ey17
          have hPc := hP
          have hDc := hD
          have hFc := mt_whole hD hS hA
          refine va_calli (va_runS (As := [.ref (rp dd), .ref (rp (dd + 1)), .int (nI mo), .int (nI (gl mo))]) (rest := []) ⟨hx, hb, hml, hown, hg⟩ (c_pn_goesC l D cZ cI cJ cII _ pce pse ppl pen psu pnm pkn pfo la lwo fa fw fh wa ra sa ta ca cs cg cto cq cco cnx wo Mc se Mp rk sc s5 g5 rp rq rr rg Ms Mg _ _ dd mo (gl mo) p0 q0 H.size (by omega) (by omega) hgl25 (fun i hi => ⟨hrow i (by omega), px_A25 hC (hV.2.2 i (by omega)).1⟩) (fun i hi => ⟨(hQ.2.2.1 i hi).1, px_A25 hC (hQ.2.2.1 i hi).2.1⟩)) ⟨callB_of 4 hg gg_pn_107 rfl rfl rfl (hg _ gi_pn_107) (hg _ gl_pn_107) (by decide +kernel) ⟨by first | exact Nat.le_of_ble_eq_true rfl | (dsimp only; omega), by first | exact Nat.le_of_ble_eq_true rfl | (dsimp only; omega)⟩, hg _ gt_pn_107⟩ ⟨mt_bl, mt_pr hX hPc hK hDc⟩ rfl rfl hl.1 rfl (lv_room (by first | exact Nat.le_of_ble_eq_true rfl | (dsimp only; omega))) d_pn_reachesEndMoving_152 ⟨by first | exact Nat.le_of_ble_eq_true rfl | (dsimp only; omega), by first | exact Nat.le_of_ble_eq_true rfl | (dsimp only; omega)⟩) hS (fun q _ h => hFc q h) hFc (fun r18 u t H1 locs ht hvm hw hB hz1 hk1 hS => ?_)
          obtain ⟨M9, rfl⟩ : ∃ z, z = u := ⟨_, rfl⟩
          obtain ⟨hr18, hwr18⟩ := hw
          have hr18 : (r18 = 1 ∧ sx_ok p0 q0 mo (gl mo) ∧ M9 = va_up Mc (dd + 1) (upd (Mc (dd + 1)) mo (nI (gl mo)))) ∨ (r18 = 0 ∧ ¬ sx_ok p0 q0 mo (gl mo) ∧ M9 = Mc) := hr18
          obtain ⟨hP1, hD1⟩ := hB
          rw [ht] at hP1
          have hP := hP1
          have hD := hD1.weaken (fun _ _ _ h => hFc _ h)
          generalize H1 = H at hP hS ⊢
          have hP : va_P D kls (((([(pa, .inr (4, [.ref fa, .ref ca, .ref la, .ref pce, .ref pse, .ref ppl, .int pen, .int psu, .int pnm, .int pkn, .int pfo])), (la, .inr (3, [.ref lwo])), (lwo, .inl (cJ, 1296, .inr (.inl wo))), (pce, .inl (cII, 32, .inr (.inr (.inr (.inr (fun i => if i < 32 then some (rp i) else none)))))), (pse, .inl (cI, 32, .inl se)), (ppl, .inl (cII, 32, .inr (.inr (.inr (.inr (fun i => if i < 32 then some (rq i) else none)))))), (fa, .inr (1, [.int fw, .int fh, .ref wa, .int (nI F0), .ref ra, .ref sa, .ref ta])), (ra, .inl (cI, 25, .inl rk)), (sa, .inl (cI, 25, .inl sc)), (ta, .inl (cII, 25, .inr (.inr (.inr (.inr (fun i => if i < 25 then some (rr i) else none)))))), (ca, .inr (0, [.ref fa, .int (nI n), .ref cs, .ref cg, .ref cto, .ref cq, .ref cco, .ref cnx])), (cs, .inl (cI, 5, .inl s5)), (cg, .inl (cI, 5, .inl g5)), (cto, .inl (cII, 5, .inr (.inr (.inr (.inr (fun i => if i < 5 then some (rg i) else none))))))] ++ mt_rw 32 rp (fun i => .inl (cI, 5, .inl (M9 i)))) ++ mt_rw 32 rq (fun i => .inl (cI, 5, .inl (Mp i)))) ++ mt_rw 25 rr (fun i => .inl (cI, 5, .inl (Ms i)))) ++ mt_rw 5 rg (fun i => .inl (cI, 25, .inl (Mg i)))) H := hP
          have hD : va_D A (((([(pa, .inr (4, [.ref fa, .ref ca, .ref la, .ref pce, .ref pse, .ref ppl, .int pen, .int psu, .int pnm, .int pkn, .int pfo])), (la, .inr (3, [.ref lwo])), (lwo, .inl (cJ, 1296, .inr (.inl wo))), (pce, .inl (cII, 32, .inr (.inr (.inr (.inr (fun i => if i < 32 then some (rp i) else none)))))), (pse, .inl (cI, 32, .inl se)), (ppl, .inl (cII, 32, .inr (.inr (.inr (.inr (fun i => if i < 32 then some (rq i) else none)))))), (fa, .inr (1, [.int fw, .int fh, .ref wa, .int (nI F0), .ref ra, .ref sa, .ref ta])), (ra, .inl (cI, 25, .inl rk)), (sa, .inl (cI, 25, .inl sc)), (ta, .inl (cII, 25, .inr (.inr (.inr (.inr (fun i => if i < 25 then some (rr i) else none)))))), (ca, .inr (0, [.ref fa, .int (nI n), .ref cs, .ref cg, .ref cto, .ref cq, .ref cco, .ref cnx])), (cs, .inl (cI, 5, .inl s5)), (cg, .inl (cI, 5, .inl g5)), (cto, .inl (cII, 5, .inr (.inr (.inr (.inr (fun i => if i < 5 then some (rg i) else none))))))] ++ mt_rw 32 rp (fun i => .inl (cI, 5, .inl (M9 i)))) ++ mt_rw 32 rq (fun i => .inl (cI, 5, .inl (Mp i)))) ++ mt_rw 25 rr (fun i => .inl (cI, 5, .inl (Ms i)))) ++ mt_rw 5 rg (fun i => .inl (cI, 25, .inl (Mg i)))) := hD
          have hgo9 := hr18
          refine lv_if_eq hx hb d_pn_reachesEndMoving_155 rfl (fun gg => ?_) (fun gg => ?_)
          ·
            obtain ⟨hnok, hM9⟩ : ¬ sx_ok p0 q0 mo (gl mo) ∧ M9 = Mc := hgo9.elim (fun q => absurd (q.1.symm.trans gg) (by decide)) (fun q => q.2)
            have hl := lv_sub hl [5, 6, 7, 8, 9, 4, 3, 2, 1, 0] (l' := [(0, .ref pa), (1, .int (nI dd)), (2, .int (nI mo)), (3, .int (nI T)), (4, .int (nI w)), (5, .ref (rp dd)), (6, .ref (rp (dd + 1))), (7, .int (nI (p0 mo))), (8, .int (nI (T ||| 2 ^ mo))), (9, .int (nI (w + px_lf gl Mg mo (p0 mo) - 1)))]) rfl
            exact jp_j (wo, M9, se) ls H _ ⟨hsn, fun i _ => by show M9 i = _; rw [hM9], fun i _ => by show M9 (dd + 1) i = _; rw [hM9], fun _ _ => rfl, fun h => hnok h.2.1, hl, hP, hD, hS⟩
          ·
            obtain ⟨hok, hM9⟩ : sx_ok p0 q0 mo (gl mo) ∧ M9 = va_up Mc (dd + 1) (upd (Mc (dd + 1)) mo (nI (gl mo))) := hgo9.elim (fun q => q.2) (fun q => absurd q.1 gg)
            have hM9a : ∀ i, i ≤ dd → M9 i = Mc i := fun i hi => by rw [hM9]; exact mt_rowne (by omega)
            have hM9b : M9 (dd + 1) = upd (Mc (dd + 1)) mo (nI (gl mo)) := by rw [hM9]; exact mt_rowup
            refine lv_aload_n hx hb d_pn_reachesEndMoving_158 rfl (lv_at hl 5 rfl) ?_
            refine lv_iload_n hx hb d_pn_reachesEndMoving_159 rfl (lv_at hl 6 rfl) ?_
            refine lv_iload_n hx hb d_pn_reachesEndMoving_160 rfl (lv_at hl 7 rfl) ?_
            refine lv_iconst (v := 1) hx hb d_pn_reachesEndMoving_161 (by decide) ?_
            refine lv_iadd hx hb d_pn_reachesEndMoving_162 ?_
            refine lv_topi (fun y19 ey19 => ?_)
            have ey19 : y19 = nI (mo + 1) := ey19.trans (nI_1 _)
            subst ey19
            refine lv_iload hx hb d_pn_reachesEndMoving_163 (lv_at hl 1 rfl) ?_
            refine lv_iload hx hb d_pn_reachesEndMoving_165 (lv_at hl 0 rfl) ?_
            have hPc := hP
            have hDc := hD
            have hFc := mt_whole hD hS hA
            refine va_calli (va_runV (As := [.int (nI dd), .int (nI (mo + 1)), .int (nI (T ||| 2 ^ mo)), .int (nI (w + px_lf gl Mg mo (p0 mo) - 1))]) (rest := []) ⟨hx, hb, hml, hown, hg⟩ (HM pa pce pse ppl pen psu pnm pkn pfo la lwo fa fw fh wa ra sa ta ca cs cg cto cq cco cnx wo M9 se Mp rk sc s5 g5 rp rq rr rg Ms Mg _ _ N0 W0 wf gl dd (mo + 1) (T ||| 2 ^ mo) (w + px_lf gl Mg mo (p0 mo) - 1) S p0 (sx_up q0 mo (gl mo)) H.size hC hd (by omega) hV (fun i hi => by rw [hM9a dd (Nat.le_refl _)]; exact hrow i hi) hse (by omega) (by rw [hM9b]; exact hQn.2) hsn (by omega)) (cwV 4 hg gv_pn_134 rfl rfl rfl (by decide +kernel) ⟨by first | exact Nat.le_of_ble_eq_true rfl | (dsimp only; omega), by first | exact Nat.le_of_ble_eq_true rfl | (dsimp only; omega)⟩) ⟨mt_bl, va_recv (q0 := 0) (ci := 4) hK hP rfl rfl, mt_pr hX hPc hK hDc⟩ rfl rfl hl.1 rfl (lv_room (by first | exact Nat.le_of_ble_eq_true rfl | (dsimp only; omega))) d_pn_reachesEndMoving_167 ⟨by first | exact Nat.le_of_ble_eq_true rfl | (dsimp only; omega), by first | exact Nat.le_of_ble_eq_true rfl | (dsimp only; omega)⟩) hS (fun q _ h => hFc q h) hFc (fun r20 u t H1 locs ht hvm hw hB hz1 hk1 hS => ?_)
            obtain ⟨wo5, Mc5, se5⟩ := u
            obtain ⟨hr20, hwr20⟩ := hw
            have hr20 : (r20 = 1 ∧ px_X n sc Ms Mg gl (30 - dd) S p0 (n - (mo + 1)) (mo + 1) (T ||| 2 ^ mo) (sx_up q0 mo (gl mo)) (w + px_lf gl Mg mo (p0 mo) - 1)) ∨ (r20 = 0 ∧ ¬ px_X n sc Ms Mg gl (30 - dd) S p0 (n - (mo + 1)) (mo + 1) (T ||| 2 ^ mo) (sx_up q0 mo (gl mo)) (w + px_lf gl Mg mo (p0 mo) - 1)) := hr20
            have hwr20 : px_Snd F0 n N0 wf rk sc Ms Mg gl wo5 ∧ (∀ i, i ≤ dd → Mc5 i = M9 i) ∧ (∀ i, i < (mo + 1) → Mc5 (dd + 1) i = M9 (dd + 1) i) ∧ (∀ i, i ≤ dd → se5 i = se i) := hwr20
            obtain ⟨hP1, hD1⟩ := hB
            rw [ht] at hP1
            have hP := hP1
            have hD := hD1.weaken (fun _ _ _ h => hFc _ h)
            generalize H1 = H at hP hS ⊢
            have hP : va_P D kls (((([(pa, .inr (4, [.ref fa, .ref ca, .ref la, .ref pce, .ref pse, .ref ppl, .int pen, .int psu, .int pnm, .int pkn, .int pfo])), (la, .inr (3, [.ref lwo])), (lwo, .inl (cJ, 1296, .inr (.inl wo5))), (pce, .inl (cII, 32, .inr (.inr (.inr (.inr (fun i => if i < 32 then some (rp i) else none)))))), (pse, .inl (cI, 32, .inl se5)), (ppl, .inl (cII, 32, .inr (.inr (.inr (.inr (fun i => if i < 32 then some (rq i) else none)))))), (fa, .inr (1, [.int fw, .int fh, .ref wa, .int (nI F0), .ref ra, .ref sa, .ref ta])), (ra, .inl (cI, 25, .inl rk)), (sa, .inl (cI, 25, .inl sc)), (ta, .inl (cII, 25, .inr (.inr (.inr (.inr (fun i => if i < 25 then some (rr i) else none)))))), (ca, .inr (0, [.ref fa, .int (nI n), .ref cs, .ref cg, .ref cto, .ref cq, .ref cco, .ref cnx])), (cs, .inl (cI, 5, .inl s5)), (cg, .inl (cI, 5, .inl g5)), (cto, .inl (cII, 5, .inr (.inr (.inr (.inr (fun i => if i < 5 then some (rg i) else none))))))] ++ mt_rw 32 rp (fun i => .inl (cI, 5, .inl (Mc5 i)))) ++ mt_rw 32 rq (fun i => .inl (cI, 5, .inl (Mp i)))) ++ mt_rw 25 rr (fun i => .inl (cI, 5, .inl (Ms i)))) ++ mt_rw 5 rg (fun i => .inl (cI, 25, .inl (Mg i)))) H := hP
            have hD : va_D A (((([(pa, .inr (4, [.ref fa, .ref ca, .ref la, .ref pce, .ref pse, .ref ppl, .int pen, .int psu, .int pnm, .int pkn, .int pfo])), (la, .inr (3, [.ref lwo])), (lwo, .inl (cJ, 1296, .inr (.inl wo5))), (pce, .inl (cII, 32, .inr (.inr (.inr (.inr (fun i => if i < 32 then some (rp i) else none)))))), (pse, .inl (cI, 32, .inl se5)), (ppl, .inl (cII, 32, .inr (.inr (.inr (.inr (fun i => if i < 32 then some (rq i) else none)))))), (fa, .inr (1, [.int fw, .int fh, .ref wa, .int (nI F0), .ref ra, .ref sa, .ref ta])), (ra, .inl (cI, 25, .inl rk)), (sa, .inl (cI, 25, .inl sc)), (ta, .inl (cII, 25, .inr (.inr (.inr (.inr (fun i => if i < 25 then some (rr i) else none)))))), (ca, .inr (0, [.ref fa, .int (nI n), .ref cs, .ref cg, .ref cto, .ref cq, .ref cco, .ref cnx])), (cs, .inl (cI, 5, .inl s5)), (cg, .inl (cI, 5, .inl g5)), (cto, .inl (cII, 5, .inr (.inr (.inr (.inr (fun i => if i < 5 then some (rg i) else none))))))] ++ mt_rw 32 rp (fun i => .inl (cI, 5, .inl (Mc5 i)))) ++ mt_rw 32 rq (fun i => .inl (cI, 5, .inl (Mp i)))) ++ mt_rw 25 rr (fun i => .inl (cI, 5, .inl (Ms i)))) ++ mt_rw 5 rg (fun i => .inl (cI, 25, .inl (Mg i)))) := hD
            have hX5 := hr20
            rw [hj2] at hX5
            have hsn5 := hwr20.1
            have hfr5 := px_fr hM9 hwr20.2.1 hwr20.2.2.1
            have hse5 := hwr20.2.2.2
            refine lv_if_eq hx hb d_pn_reachesEndMoving_170 rfl (fun g5 => ?_) (fun g5 => ?_)
            ·
              have hnX5 := hX5.elim (fun q => absurd (q.1.symm.trans g5) (by decide)) (fun q => q.2)
              have hl := lv_sub hl [5, 6, 7, 8, 9, 4, 3, 2, 1, 0] (l' := [(0, .ref pa), (1, .int (nI dd)), (2, .int (nI mo)), (3, .int (nI T)), (4, .int (nI w)), (5, .ref (rp dd)), (6, .ref (rp (dd + 1))), (7, .int (nI (p0 mo))), (8, .int (nI (T ||| 2 ^ mo))), (9, .int (nI (w + px_lf gl Mg mo (p0 mo) - 1)))]) rfl
              exact jp_j (wo5, Mc5, se5) ls H _ ⟨hsn5, hfr5.1, hfr5.2, hse5, fun h => hnX5 h.2.2, hl, hP, hD, hS⟩
            ·
              have hY5 := hX5.elim (fun q => q.2) (fun q => absurd q.1 g5)
              refine lv_iconst (v := 1) hx hb d_pn_reachesEndMoving_173 (by decide) ?_
              have hP9 := hP
              have hD9 := hD
              exact W.zret hx hb hr rfl (fun t ht hW => ⟨⟨1, (wo5, Mc5, se5), rfl, ⟨Or.inl ⟨rfl, px_Xs.mpr (Or.inr ⟨hbit, Or.inl ⟨gw, hok, hY5⟩⟩)⟩, hsn5, hfr5.1, hfr5.2, hse5⟩, by rw [ht]; exact hP9, hD9⟩, hS.F ht⟩) hS.2.2 d_pn_reachesEndMoving_174
    ·
      have hbit : S.testBit mo = true := hib.elim (fun q => q.2) (fun q => absurd q.1 g1)
      refine lv_aload hx hb d_pn_reachesEndMoving_74 (lv_at hl 3 rfl) ?_
      refine lv_aload hx hb d_pn_reachesEndMoving_76 (lv_at hl 2 rfl) ?_
      refine lv_iload_n hx hb d_pn_reachesEndMoving_78 rfl (lv_at hl 6 rfl) ?_
      refine lv_iload hx hb d_pn_reachesEndMoving_79 (lv_at hl 1 rfl) ?_
      have hPc := hP
      have hDc := hD
      have hFc := mt_whole hD hS hA
      refine va_calli (va_runS (As := [.ref (rp dd), .ref (rp (dd + 1)), .int (nI mo), .int (nI (p0 mo))]) (rest := []) ⟨hx, hb, hml, hown, hg⟩ (c_pn_goesC l D cZ cI cJ cII _ pce pse ppl pen psu pnm pkn pfo la lwo fa fw fh wa ra sa ta ca cs cg cto cq cco cnx wo Mc se Mp rk sc s5 g5 rp rq rr rg Ms Mg _ _ dd mo (p0 mo) p0 q0 H.size (by omega) (by omega) hp25 (fun i hi => ⟨hrow i (by omega), px_A25 hC (hV.2.2 i (by omega)).1⟩) (fun i hi => ⟨(hQ.2.2.1 i hi).1, px_A25 hC (hQ.2.2.1 i hi).2.1⟩)) ⟨callB_of 4 hg gg_pn_107 rfl rfl rfl (hg _ gi_pn_107) (hg _ gl_pn_107) (by decide +kernel) ⟨by first | exact Nat.le_of_ble_eq_true rfl | (dsimp only; omega), by first | exact Nat.le_of_ble_eq_true rfl | (dsimp only; omega)⟩, hg _ gt_pn_107⟩ ⟨mt_bl, mt_pr hX hPc hK hDc⟩ rfl rfl hl.1 rfl (lv_room (by first | exact Nat.le_of_ble_eq_true rfl | (dsimp only; omega))) d_pn_reachesEndMoving_81 ⟨by first | exact Nat.le_of_ble_eq_true rfl | (dsimp only; omega), by first | exact Nat.le_of_ble_eq_true rfl | (dsimp only; omega)⟩) hS (fun q _ h => hFc q h) hFc (fun r21 u t H1 locs ht hvm hw hB hz1 hk1 hS => ?_)
      obtain ⟨M9, rfl⟩ : ∃ z, z = u := ⟨_, rfl⟩
      obtain ⟨hr21, hwr21⟩ := hw
      have hr21 : (r21 = 1 ∧ sx_ok p0 q0 mo (p0 mo) ∧ M9 = va_up Mc (dd + 1) (upd (Mc (dd + 1)) mo (nI (p0 mo)))) ∨ (r21 = 0 ∧ ¬ sx_ok p0 q0 mo (p0 mo) ∧ M9 = Mc) := hr21
      obtain ⟨hP1, hD1⟩ := hB
      rw [ht] at hP1
      have hP := hP1
      have hD := hD1.weaken (fun _ _ _ h => hFc _ h)
      generalize H1 = H at hP hS ⊢
      have hP : va_P D kls (((([(pa, .inr (4, [.ref fa, .ref ca, .ref la, .ref pce, .ref pse, .ref ppl, .int pen, .int psu, .int pnm, .int pkn, .int pfo])), (la, .inr (3, [.ref lwo])), (lwo, .inl (cJ, 1296, .inr (.inl wo))), (pce, .inl (cII, 32, .inr (.inr (.inr (.inr (fun i => if i < 32 then some (rp i) else none)))))), (pse, .inl (cI, 32, .inl se)), (ppl, .inl (cII, 32, .inr (.inr (.inr (.inr (fun i => if i < 32 then some (rq i) else none)))))), (fa, .inr (1, [.int fw, .int fh, .ref wa, .int (nI F0), .ref ra, .ref sa, .ref ta])), (ra, .inl (cI, 25, .inl rk)), (sa, .inl (cI, 25, .inl sc)), (ta, .inl (cII, 25, .inr (.inr (.inr (.inr (fun i => if i < 25 then some (rr i) else none)))))), (ca, .inr (0, [.ref fa, .int (nI n), .ref cs, .ref cg, .ref cto, .ref cq, .ref cco, .ref cnx])), (cs, .inl (cI, 5, .inl s5)), (cg, .inl (cI, 5, .inl g5)), (cto, .inl (cII, 5, .inr (.inr (.inr (.inr (fun i => if i < 5 then some (rg i) else none))))))] ++ mt_rw 32 rp (fun i => .inl (cI, 5, .inl (M9 i)))) ++ mt_rw 32 rq (fun i => .inl (cI, 5, .inl (Mp i)))) ++ mt_rw 25 rr (fun i => .inl (cI, 5, .inl (Ms i)))) ++ mt_rw 5 rg (fun i => .inl (cI, 25, .inl (Mg i)))) H := hP
      have hD : va_D A (((([(pa, .inr (4, [.ref fa, .ref ca, .ref la, .ref pce, .ref pse, .ref ppl, .int pen, .int psu, .int pnm, .int pkn, .int pfo])), (la, .inr (3, [.ref lwo])), (lwo, .inl (cJ, 1296, .inr (.inl wo))), (pce, .inl (cII, 32, .inr (.inr (.inr (.inr (fun i => if i < 32 then some (rp i) else none)))))), (pse, .inl (cI, 32, .inl se)), (ppl, .inl (cII, 32, .inr (.inr (.inr (.inr (fun i => if i < 32 then some (rq i) else none)))))), (fa, .inr (1, [.int fw, .int fh, .ref wa, .int (nI F0), .ref ra, .ref sa, .ref ta])), (ra, .inl (cI, 25, .inl rk)), (sa, .inl (cI, 25, .inl sc)), (ta, .inl (cII, 25, .inr (.inr (.inr (.inr (fun i => if i < 25 then some (rr i) else none)))))), (ca, .inr (0, [.ref fa, .int (nI n), .ref cs, .ref cg, .ref cto, .ref cq, .ref cco, .ref cnx])), (cs, .inl (cI, 5, .inl s5)), (cg, .inl (cI, 5, .inl g5)), (cto, .inl (cII, 5, .inr (.inr (.inr (.inr (fun i => if i < 5 then some (rg i) else none))))))] ++ mt_rw 32 rp (fun i => .inl (cI, 5, .inl (M9 i)))) ++ mt_rw 32 rq (fun i => .inl (cI, 5, .inl (Mp i)))) ++ mt_rw 25 rr (fun i => .inl (cI, 5, .inl (Ms i)))) ++ mt_rw 5 rg (fun i => .inl (cI, 25, .inl (Mg i)))) := hD
      have hgo9 := hr21
      refine lv_if_eq hx hb d_pn_reachesEndMoving_84 rfl (fun gg => ?_) (fun gg => ?_)
      ·
        obtain ⟨hnok, hM9⟩ : ¬ sx_ok p0 q0 mo (p0 mo) ∧ M9 = Mc := hgo9.elim (fun q => absurd (q.1.symm.trans gg) (by decide)) (fun q => q.2)
        have hnX : ¬ px_X n sc Ms Mg gl (30 - dd) S p0 (j + 1) mo T q0 w := fun h => (px_Xs.mp h).elim (fun q => hnok q.2.1) (fun q => absurd (q.1.symm.trans hbit) (by decide))
        refine lv_iconst (v := 0) hx hb d_pn_reachesEndMoving_106 (by decide) ?_
        have hP9 := hP
        have hD9 := hD
        exact W.zret hx hb hr rfl (fun t ht hW => ⟨⟨0, (wo, M9, se), rfl, ⟨Or.inr ⟨rfl, hnX⟩, hsn, fun i _ => by show M9 i = _; rw [hM9], fun i _ => by show M9 (dd + 1) i = _; rw [hM9], fun _ _ => rfl⟩, by rw [ht]; exact hP9, hD9⟩, hS.F ht⟩) hS.2.2 d_pn_reachesEndMoving_107
      ·
        obtain ⟨hok, hM9⟩ : sx_ok p0 q0 mo (p0 mo) ∧ M9 = va_up Mc (dd + 1) (upd (Mc (dd + 1)) mo (nI (p0 mo))) := hgo9.elim (fun q => q.2) (fun q => absurd q.1 gg)
        have hM9a : ∀ i, i ≤ dd → M9 i = Mc i := fun i hi => by rw [hM9]; exact mt_rowne (by omega)
        have hM9b : M9 (dd + 1) = upd (Mc (dd + 1)) mo (nI (p0 mo)) := by rw [hM9]; exact mt_rowup
        refine lv_aload_n hx hb d_pn_reachesEndMoving_87 rfl (lv_at hl 4 rfl) ?_
        refine lv_iload_n hx hb d_pn_reachesEndMoving_88 rfl (lv_at hl 5 rfl) ?_
        refine lv_iload_n hx hb d_pn_reachesEndMoving_89 rfl (lv_at hl 6 rfl) ?_
        refine lv_iconst (v := 1) hx hb d_pn_reachesEndMoving_90 (by decide) ?_
        refine lv_iadd hx hb d_pn_reachesEndMoving_91 ?_
        refine lv_topi (fun y22 ey22 => ?_)
        have ey22 : y22 = nI (mo + 1) := ey22.trans (nI_1 _)
        subst ey22
        refine lv_iload hx hb d_pn_reachesEndMoving_92 (lv_at hl 0 rfl) ?_
        refine lv_iload hx hb d_pn_reachesEndMoving_94 (lv_at hl 8 rfl) ?_
        have hPc := hP
        have hDc := hD
        have hFc := mt_whole hD hS hA
        refine va_calli (va_runV (As := [.int (nI dd), .int (nI (mo + 1)), .int (nI (T ||| 2 ^ mo)), .int (nI w)]) (rest := []) ⟨hx, hb, hml, hown, hg⟩ (HM pa pce pse ppl pen psu pnm pkn pfo la lwo fa fw fh wa ra sa ta ca cs cg cto cq cco cnx wo M9 se Mp rk sc s5 g5 rp rq rr rg Ms Mg _ _ N0 W0 wf gl dd (mo + 1) (T ||| 2 ^ mo) w S p0 (sx_up q0 mo (p0 mo)) H.size hC hd (by omega) hV (fun i hi => by rw [hM9a dd (Nat.le_refl _)]; exact hrow i hi) hse hw6 (by rw [hM9b]; exact px_Qs hV hQ hmn hbit) hsn (by omega)) (cwV 4 hg gv_pn_134 rfl rfl rfl (by decide +kernel) ⟨by first | exact Nat.le_of_ble_eq_true rfl | (dsimp only; omega), by first | exact Nat.le_of_ble_eq_true rfl | (dsimp only; omega)⟩) ⟨mt_bl, va_recv (q0 := 0) (ci := 4) hK hP rfl rfl, mt_pr hX hPc hK hDc⟩ rfl rfl hl.1 rfl (lv_room (by first | exact Nat.le_of_ble_eq_true rfl | (dsimp only; omega))) d_pn_reachesEndMoving_96 ⟨by first | exact Nat.le_of_ble_eq_true rfl | (dsimp only; omega), by first | exact Nat.le_of_ble_eq_true rfl | (dsimp only; omega)⟩) hS (fun q _ h => hFc q h) hFc (fun r23 u t H1 locs ht hvm hw hB hz1 hk1 hS => ?_)
        obtain ⟨wo5, Mc5, se5⟩ := u
        obtain ⟨hr23, hwr23⟩ := hw
        have hr23 : (r23 = 1 ∧ px_X n sc Ms Mg gl (30 - dd) S p0 (n - (mo + 1)) (mo + 1) (T ||| 2 ^ mo) (sx_up q0 mo (p0 mo)) w) ∨ (r23 = 0 ∧ ¬ px_X n sc Ms Mg gl (30 - dd) S p0 (n - (mo + 1)) (mo + 1) (T ||| 2 ^ mo) (sx_up q0 mo (p0 mo)) w) := hr23
        have hwr23 : px_Snd F0 n N0 wf rk sc Ms Mg gl wo5 ∧ (∀ i, i ≤ dd → Mc5 i = M9 i) ∧ (∀ i, i < (mo + 1) → Mc5 (dd + 1) i = M9 (dd + 1) i) ∧ (∀ i, i ≤ dd → se5 i = se i) := hwr23
        obtain ⟨hP1, hD1⟩ := hB
        rw [ht] at hP1
        have hP := hP1
        have hD := hD1.weaken (fun _ _ _ h => hFc _ h)
        generalize H1 = H at hP hS ⊢
        have hP : va_P D kls (((([(pa, .inr (4, [.ref fa, .ref ca, .ref la, .ref pce, .ref pse, .ref ppl, .int pen, .int psu, .int pnm, .int pkn, .int pfo])), (la, .inr (3, [.ref lwo])), (lwo, .inl (cJ, 1296, .inr (.inl wo5))), (pce, .inl (cII, 32, .inr (.inr (.inr (.inr (fun i => if i < 32 then some (rp i) else none)))))), (pse, .inl (cI, 32, .inl se5)), (ppl, .inl (cII, 32, .inr (.inr (.inr (.inr (fun i => if i < 32 then some (rq i) else none)))))), (fa, .inr (1, [.int fw, .int fh, .ref wa, .int (nI F0), .ref ra, .ref sa, .ref ta])), (ra, .inl (cI, 25, .inl rk)), (sa, .inl (cI, 25, .inl sc)), (ta, .inl (cII, 25, .inr (.inr (.inr (.inr (fun i => if i < 25 then some (rr i) else none)))))), (ca, .inr (0, [.ref fa, .int (nI n), .ref cs, .ref cg, .ref cto, .ref cq, .ref cco, .ref cnx])), (cs, .inl (cI, 5, .inl s5)), (cg, .inl (cI, 5, .inl g5)), (cto, .inl (cII, 5, .inr (.inr (.inr (.inr (fun i => if i < 5 then some (rg i) else none))))))] ++ mt_rw 32 rp (fun i => .inl (cI, 5, .inl (Mc5 i)))) ++ mt_rw 32 rq (fun i => .inl (cI, 5, .inl (Mp i)))) ++ mt_rw 25 rr (fun i => .inl (cI, 5, .inl (Ms i)))) ++ mt_rw 5 rg (fun i => .inl (cI, 25, .inl (Mg i)))) H := hP
        have hD : va_D A (((([(pa, .inr (4, [.ref fa, .ref ca, .ref la, .ref pce, .ref pse, .ref ppl, .int pen, .int psu, .int pnm, .int pkn, .int pfo])), (la, .inr (3, [.ref lwo])), (lwo, .inl (cJ, 1296, .inr (.inl wo5))), (pce, .inl (cII, 32, .inr (.inr (.inr (.inr (fun i => if i < 32 then some (rp i) else none)))))), (pse, .inl (cI, 32, .inl se5)), (ppl, .inl (cII, 32, .inr (.inr (.inr (.inr (fun i => if i < 32 then some (rq i) else none)))))), (fa, .inr (1, [.int fw, .int fh, .ref wa, .int (nI F0), .ref ra, .ref sa, .ref ta])), (ra, .inl (cI, 25, .inl rk)), (sa, .inl (cI, 25, .inl sc)), (ta, .inl (cII, 25, .inr (.inr (.inr (.inr (fun i => if i < 25 then some (rr i) else none)))))), (ca, .inr (0, [.ref fa, .int (nI n), .ref cs, .ref cg, .ref cto, .ref cq, .ref cco, .ref cnx])), (cs, .inl (cI, 5, .inl s5)), (cg, .inl (cI, 5, .inl g5)), (cto, .inl (cII, 5, .inr (.inr (.inr (.inr (fun i => if i < 5 then some (rg i) else none))))))] ++ mt_rw 32 rp (fun i => .inl (cI, 5, .inl (Mc5 i)))) ++ mt_rw 32 rq (fun i => .inl (cI, 5, .inl (Mp i)))) ++ mt_rw 25 rr (fun i => .inl (cI, 5, .inl (Ms i)))) ++ mt_rw 5 rg (fun i => .inl (cI, 25, .inl (Mg i)))) := hD
        have hX5 := hr23
        rw [hj2] at hX5
        have hsn5 := hwr23.1
        have hfr5 := px_fr hM9 hwr23.2.1 hwr23.2.2.1
        have hse5 := hwr23.2.2.2
        refine lv_if_eq hx hb d_pn_reachesEndMoving_99 rfl (fun g5 => ?_) (fun g5 => ?_)
        ·
          have hnX5 := hX5.elim (fun q => absurd (q.1.symm.trans g5) (by decide)) (fun q => q.2)
          have hnX : ¬ px_X n sc Ms Mg gl (30 - dd) S p0 (j + 1) mo T q0 w := fun h => (px_Xs.mp h).elim (fun q => hnX5 q.2.2) (fun q => absurd (q.1.symm.trans hbit) (by decide))
          refine lv_iconst (v := 0) hx hb d_pn_reachesEndMoving_106 (by decide) ?_
          have hP9 := hP
          have hD9 := hD
          exact W.zret hx hb hr rfl (fun t ht hW => ⟨⟨0, (wo5, Mc5, se5), rfl, ⟨Or.inr ⟨rfl, hnX⟩, hsn5, hfr5.1, hfr5.2, hse5⟩, by rw [ht]; exact hP9, hD9⟩, hS.F ht⟩) hS.2.2 d_pn_reachesEndMoving_107
        ·
          have hY5 := hX5.elim (fun q => q.2) (fun q => absurd q.1 g5)
          refine lv_iconst (v := 1) hx hb d_pn_reachesEndMoving_102 (by decide) ?_
          refine lv_goto hx hb d_pn_reachesEndMoving_103 rfl ?_
          have hP9 := hP
          have hD9 := hD
          exact W.zret hx hb hr rfl (fun t ht hW => ⟨⟨1, (wo5, Mc5, se5), rfl, ⟨Or.inl ⟨rfl, px_Xs.mpr (Or.inl ⟨hbit, hok, hY5⟩)⟩, hsn5, hfr5.1, hfr5.2, hse5⟩, by rw [ht]; exact hP9, hD9⟩, hS.F ht⟩) hS.2.2 d_pn_reachesEndMoving_107
  ·
    have hmn : mo = n := by rcases Nat.lt_or_ge mo n with h | h; exact absurd (nI_lt h (by omega)) g0; omega
    refine lv_aload_n hx hb d_pn_reachesEndMoving_11 rfl (lv_at hl 0 rfl) ?_
    refine gf_pn_23 hx hb hg hown hK hP 0 rfl rfl d_pn_reachesEndMoving_12 ?_
    refine lv_iload_n hx hb d_pn_reachesEndMoving_15 rfl (lv_at hl 1 rfl) ?_
    refine lv_iconst (v := 1) hx hb d_pn_reachesEndMoving_16 (by decide) ?_
    refine lv_iadd hx hb d_pn_reachesEndMoving_17 ?_
    refine lv_topi (fun y24 ey24 => ?_)
    have ey24 : y24 = nI (dd + 1) := ey24.trans (nI_1 _)
    subst ey24
    refine lv_iload_n hx hb d_pn_reachesEndMoving_18 rfl (lv_at hl 3 rfl) ?_
    refine va_iast hx hb hK hP hD hS 4 1 rfl rfl (vp_in_nI (show dd + 1 < 32 by omega) (by decide)) d_pn_reachesEndMoving_19 (fun H locs hP hD hS => ?_)
    rw [nI_clamp (show dd + 1 < 2 ^ 31 by omega)] at hP hD
    have hP : va_P D kls (((([(pa, .inr (4, [.ref fa, .ref ca, .ref la, .ref pce, .ref pse, .ref ppl, .int pen, .int psu, .int pnm, .int pkn, .int pfo])), (la, .inr (3, [.ref lwo])), (lwo, .inl (cJ, 1296, .inr (.inl wo))), (pce, .inl (cII, 32, .inr (.inr (.inr (.inr (fun i => if i < 32 then some (rp i) else none)))))), (pse, .inl (cI, 32, .inl (upd se (dd + 1) (nI T)))), (ppl, .inl (cII, 32, .inr (.inr (.inr (.inr (fun i => if i < 32 then some (rq i) else none)))))), (fa, .inr (1, [.int fw, .int fh, .ref wa, .int (nI F0), .ref ra, .ref sa, .ref ta])), (ra, .inl (cI, 25, .inl rk)), (sa, .inl (cI, 25, .inl sc)), (ta, .inl (cII, 25, .inr (.inr (.inr (.inr (fun i => if i < 25 then some (rr i) else none)))))), (ca, .inr (0, [.ref fa, .int (nI n), .ref cs, .ref cg, .ref cto, .ref cq, .ref cco, .ref cnx])), (cs, .inl (cI, 5, .inl s5)), (cg, .inl (cI, 5, .inl g5)), (cto, .inl (cII, 5, .inr (.inr (.inr (.inr (fun i => if i < 5 then some (rg i) else none))))))] ++ mt_rw 32 rp (fun i => .inl (cI, 5, .inl (Mc i)))) ++ mt_rw 32 rq (fun i => .inl (cI, 5, .inl (Mp i)))) ++ mt_rw 25 rr (fun i => .inl (cI, 5, .inl (Ms i)))) ++ mt_rw 5 rg (fun i => .inl (cI, 25, .inl (Mg i)))) H := hP
    have hD : va_D A (((([(pa, .inr (4, [.ref fa, .ref ca, .ref la, .ref pce, .ref pse, .ref ppl, .int pen, .int psu, .int pnm, .int pkn, .int pfo])), (la, .inr (3, [.ref lwo])), (lwo, .inl (cJ, 1296, .inr (.inl wo))), (pce, .inl (cII, 32, .inr (.inr (.inr (.inr (fun i => if i < 32 then some (rp i) else none)))))), (pse, .inl (cI, 32, .inl (upd se (dd + 1) (nI T)))), (ppl, .inl (cII, 32, .inr (.inr (.inr (.inr (fun i => if i < 32 then some (rq i) else none)))))), (fa, .inr (1, [.int fw, .int fh, .ref wa, .int (nI F0), .ref ra, .ref sa, .ref ta])), (ra, .inl (cI, 25, .inl rk)), (sa, .inl (cI, 25, .inl sc)), (ta, .inl (cII, 25, .inr (.inr (.inr (.inr (fun i => if i < 25 then some (rr i) else none)))))), (ca, .inr (0, [.ref fa, .int (nI n), .ref cs, .ref cg, .ref cto, .ref cq, .ref cco, .ref cnx])), (cs, .inl (cI, 5, .inl s5)), (cg, .inl (cI, 5, .inl g5)), (cto, .inl (cII, 5, .inr (.inr (.inr (.inr (fun i => if i < 5 then some (rg i) else none))))))] ++ mt_rw 32 rp (fun i => .inl (cI, 5, .inl (Mc i)))) ++ mt_rw 32 rq (fun i => .inl (cI, 5, .inl (Mp i)))) ++ mt_rw 25 rr (fun i => .inl (cI, 5, .inl (Ms i)))) ++ mt_rw 5 rg (fun i => .inl (cI, 25, .inl (Mg i)))) := hD
    refine lv_aload_n hx hb d_pn_reachesEndMoving_20 rfl (lv_at hl 0 rfl) ?_
    refine lv_iload_n hx hb d_pn_reachesEndMoving_21 rfl (lv_at hl 1 rfl) ?_
    refine lv_iconst (v := 1) hx hb d_pn_reachesEndMoving_22 (by decide) ?_
    refine lv_iadd hx hb d_pn_reachesEndMoving_23 ?_
    refine lv_topi (fun y25 ey25 => ?_)
    have ey25 : y25 = nI (dd + 1) := ey25.trans (nI_1 _)
    subst ey25
    refine lv_iload hx hb d_pn_reachesEndMoving_24 (lv_at hl 4 rfl) ?_
    have hPc := hP
    have hDc := hD
    have hFc := mt_whole hD hS hA
    refine va_calli (va_runV (As := [.int (nI (dd + 1)), .int (nI w)]) (rest := []) ⟨hx, hb, hml, hown, hg⟩ (HR pa pce pse ppl pen psu pnm pkn pfo la lwo fa fw fh wa ra sa ta ca cs cg cto cq cco cnx wo Mc (upd se (dd + 1) (nI T)) Mp rk sc s5 g5 rp rq rr rg Ms Mg _ _ N0 W0 wf gl (dd + 1) T w q0 H.size hC (by omega) (⟨by rw [← hmn]; exact hQ.1, fun i hi => hQ.2.1 i (by omega), fun i hi => ⟨(hQ.2.2.1 i (by omega)).2.1, (hQ.2.2.1 i (by omega)).2.2.1⟩⟩) (fun i hi => (hQ.2.2.1 i (by omega)).1) pk_us hw6 (fun i hi hb9 => by have := (hQ.2.2.1 i (by omega)).2.2.2 hb9; omega) hsn (by omega)) (cwV 2 hg gv_pn_115 rfl rfl rfl (by decide +kernel) ⟨by first | exact Nat.le_of_ble_eq_true rfl | (dsimp only; omega), by first | exact Nat.le_of_ble_eq_true rfl | (dsimp only; omega)⟩) ⟨mt_bl, va_recv (q0 := 0) (ci := 4) hK hP rfl rfl, mt_pr hX hPc hK hDc⟩ rfl rfl hl.1 rfl (lv_room (by first | exact Nat.le_of_ble_eq_true rfl | (dsimp only; omega))) d_pn_reachesEndMoving_26 ⟨by first | exact Nat.le_of_ble_eq_true rfl | (dsimp only; omega), by first | exact Nat.le_of_ble_eq_true rfl | (dsimp only; omega)⟩) hS (fun q _ h => hFc q h) hFc (fun r26 u t H1 locs ht hvm hw hB hz1 hk1 hS => ?_)
    obtain ⟨wo5, Mc5, se5⟩ := u
    obtain ⟨hr26, hwr26⟩ := hw
    have hr26 : (r26 = 1 ∧ px_Ex n sc Ms Mg gl (31 - (dd + 1)) T q0 w) ∨ (r26 = 0 ∧ ¬ px_Ex n sc Ms Mg gl (31 - (dd + 1)) T q0 w) := hr26
    have hwr26 : px_Snd F0 n N0 wf rk sc Ms Mg gl wo5 ∧ (∀ i, i ≤ (dd + 1) → Mc5 i = Mc i) ∧ (∀ i, i ≤ (dd + 1) → se5 i = (upd se (dd + 1) (nI T)) i) := hwr26
    obtain ⟨hP1, hD1⟩ := hB
    rw [ht] at hP1
    have hP := hP1
    have hD := hD1.weaken (fun _ _ _ h => hFc _ h)
    generalize H1 = H at hP hS ⊢
    have hP : va_P D kls (((([(pa, .inr (4, [.ref fa, .ref ca, .ref la, .ref pce, .ref pse, .ref ppl, .int pen, .int psu, .int pnm, .int pkn, .int pfo])), (la, .inr (3, [.ref lwo])), (lwo, .inl (cJ, 1296, .inr (.inl wo5))), (pce, .inl (cII, 32, .inr (.inr (.inr (.inr (fun i => if i < 32 then some (rp i) else none)))))), (pse, .inl (cI, 32, .inl se5)), (ppl, .inl (cII, 32, .inr (.inr (.inr (.inr (fun i => if i < 32 then some (rq i) else none)))))), (fa, .inr (1, [.int fw, .int fh, .ref wa, .int (nI F0), .ref ra, .ref sa, .ref ta])), (ra, .inl (cI, 25, .inl rk)), (sa, .inl (cI, 25, .inl sc)), (ta, .inl (cII, 25, .inr (.inr (.inr (.inr (fun i => if i < 25 then some (rr i) else none)))))), (ca, .inr (0, [.ref fa, .int (nI n), .ref cs, .ref cg, .ref cto, .ref cq, .ref cco, .ref cnx])), (cs, .inl (cI, 5, .inl s5)), (cg, .inl (cI, 5, .inl g5)), (cto, .inl (cII, 5, .inr (.inr (.inr (.inr (fun i => if i < 5 then some (rg i) else none))))))] ++ mt_rw 32 rp (fun i => .inl (cI, 5, .inl (Mc5 i)))) ++ mt_rw 32 rq (fun i => .inl (cI, 5, .inl (Mp i)))) ++ mt_rw 25 rr (fun i => .inl (cI, 5, .inl (Ms i)))) ++ mt_rw 5 rg (fun i => .inl (cI, 25, .inl (Mg i)))) H := hP
    have hD : va_D A (((([(pa, .inr (4, [.ref fa, .ref ca, .ref la, .ref pce, .ref pse, .ref ppl, .int pen, .int psu, .int pnm, .int pkn, .int pfo])), (la, .inr (3, [.ref lwo])), (lwo, .inl (cJ, 1296, .inr (.inl wo5))), (pce, .inl (cII, 32, .inr (.inr (.inr (.inr (fun i => if i < 32 then some (rp i) else none)))))), (pse, .inl (cI, 32, .inl se5)), (ppl, .inl (cII, 32, .inr (.inr (.inr (.inr (fun i => if i < 32 then some (rq i) else none)))))), (fa, .inr (1, [.int fw, .int fh, .ref wa, .int (nI F0), .ref ra, .ref sa, .ref ta])), (ra, .inl (cI, 25, .inl rk)), (sa, .inl (cI, 25, .inl sc)), (ta, .inl (cII, 25, .inr (.inr (.inr (.inr (fun i => if i < 25 then some (rr i) else none)))))), (ca, .inr (0, [.ref fa, .int (nI n), .ref cs, .ref cg, .ref cto, .ref cq, .ref cco, .ref cnx])), (cs, .inl (cI, 5, .inl s5)), (cg, .inl (cI, 5, .inl g5)), (cto, .inl (cII, 5, .inr (.inr (.inr (.inr (fun i => if i < 5 then some (rg i) else none))))))] ++ mt_rw 32 rp (fun i => .inl (cI, 5, .inl (Mc5 i)))) ++ mt_rw 32 rq (fun i => .inl (cI, 5, .inl (Mp i)))) ++ mt_rw 25 rr (fun i => .inl (cI, 5, .inl (Ms i)))) ++ mt_rw 5 rg (fun i => .inl (cI, 25, .inl (Mg i)))) := hD
    have hX7 := hr26
    have hw7 := hwr26
    subst hmn
    have e0 : 31 - (dd + 1) = 30 - dd := by omega
    rw [e0] at hX7
    have e1 : mo - mo = 0 := Nat.sub_self _
    rcases hX7 with ⟨e7, hX7⟩ | ⟨e7, hX7⟩
    ·
      subst e7
      have hP9 := hP
      have hD9 := hD
      exact W.zret hx hb hr rfl (fun t ht hW => ⟨⟨1, (wo5, Mc5, se5), rfl, ⟨by rw [e1]; exact Or.inl ⟨rfl, hX7⟩, hw7.1, fun i hi => hw7.2.1 i (by omega), fun i hi => by show Mc5 (dd + 1) i = _; rw [hw7.2.1 (dd + 1) (Nat.le_refl _)], fun i hi => (hw7.2.2 i (by omega)).trans (pk_un (by omega))⟩, by rw [ht]; exact hP9, hD9⟩, hS.F ht⟩) hS.2.2 d_pn_reachesEndMoving_29
    ·
      subst e7
      have hP9 := hP
      have hD9 := hD
      exact W.zret hx hb hr rfl (fun t ht hW => ⟨⟨0, (wo5, Mc5, se5), rfl, ⟨by rw [e1]; exact Or.inr ⟨rfl, hX7⟩, hw7.1, fun i hi => hw7.2.1 i (by omega), fun i hi => by show Mc5 (dd + 1) i = _; rw [hw7.2.1 (dd + 1) (Nat.le_refl _)], fun i hi => (hw7.2.2 i (by omega)).trans (pk_un (by omega))⟩, by rw [ht]; exact hP9, hD9⟩, hS.F ht⟩) hS.2.2 d_pn_reachesEndMoving_29
