set_option maxHeartbeats 4000000 in
set_option maxRecDepth 100000 in
theorem c_mr_distance (l : Launch) (D : va_G) (cZ cI cJ cII : ClassId) (ma : Nat) (fa : Nat) (ca : Nat) (pa : Nat) (da : Nat) (ea : Nat) (wa : Nat) (ra : Nat) (sa : Nat) (ta : Nat) (cs : Nat) (cg : Nat) (cto : Nat) (cq : Nat) (cco : Nat) (cnx : Nat) (la : Nat) (lwo : Nat) (pce : Nat) (pse : Nat) (ppl : Nat) (dce : Nat) (dto : Nat) (dle : Nat) (rr : Nat → Nat) (rg : Nat → Nat) (rp : Nat → Nat) (rq : Nat → Nat) (rl : Nat → Nat) (W0 : Nat) (H0 : Nat) (n : Nat) (wf : Nat → Int32) (rk : Nat → Int32) (sc : Nat → Int32) (Ms : Nat → Nat → Int32) (s5 : Nat → Int32) (g5 : Nat → Int32) (Mg : Nat → Nat → Int32) (qf : Nat → Int32) (k1 : Nat → Int64) (k2 : Nat → Int64) (wo : Nat → Int64) (Mc : Nat → Nat → Int32) (se : Nat → Int32) (Mp : Nat → Nat → Int32) (pen : Int32) (psu : Int32) (pnm : Int32) (pkn : Int32) (pfo : Int32) (of : Nat → Int32) (lf : Nat → Int32) (Ml : Nat → Nat → Int32) (eso : Int32) (eti : Int32) (eles : Int32) (egr : Int32) (x : Int32) (sz : Nat) (hI : xv_I W0 H0 n wf rk sc Ms s5 g5 Mg wo Mp pen psu pnm pkn pfo lf) : Met l y_mr_distance w_mr_distance ({ frames := 1, cells := 0, slots := 0, locals := 40 }) (va_Pc [.ref ma, .int x] (mt_B D [(cZ, .boolean), (cI, .int), (cJ, .long), (cII, .array .int)] ([(ma, .inr (6, [.ref fa, .ref ca, .ref pa, .ref da, .ref ea])), (ca, .inr (0, [.ref fa, .int (nI n), .ref cs, .ref cg, .ref cto, .ref cq, .ref cco, .ref cnx])), (cs, .inl (cI, 5, .inl s5)), (cto, .inl (cII, 5, .inr (.inr (.inr (.inr (fun i => if i < 5 then some (rg i) else none))))))] ++ mt_rw 5 rg (fun i => .inl (cI, 25, .inl (Mg i)))) sz)) (vp_Si (fun r : Int32 => ds_P W0 (W0 * H0) n wf s5 g5 x r)) 0 0 (fun _ => False) := by
  refine mt_ofR (by decide) (Nat.le_of_ble_eq_true rfl) ?_
  intro p e s m below meth c ls hx hb hr hlk hml hown hg hl hX hP hK hD
  have hown : s.vm.findClass R_mr = some m.cls := hown
  obtain ⟨H, hH⟩ : ∃ H : Heap, H = s.heap := ⟨_, rfl⟩
  rw [← hH] at hP ⊢
  have hl : lv_has ls 2 [(0, .ref ma), (1, .int x)] := hl
  refine lv_aload_n hx hb d_mr_distance_0 rfl (lv_at hl 0 rfl) ?_
  refine gf_mr_21 hx hb hg hown hK hP 0 rfl rfl d_mr_distance_1 ?_
  refine lv_iload_n hx hb d_mr_distance_4 rfl (lv_at hl 1 rfl) ?_
  have hPc := hP.sub (ws' := [(ca, .inr (0, [.ref fa, .int (nI n), .ref cs, .ref cg, .ref cto, .ref cq, .ref cco, .ref cnx]))]) [1] rfl
  have hDc := hD.sub (ws' := [(ca, .inr (0, [.ref fa, .int (nI n), .ref cs, .ref cg, .ref cto, .ref cq, .ref cco, .ref cnx]))]) [1] (by decide) rfl
  refine vp_callSi (W.runV (As := [.int x]) (rest := []) ⟨hx, hb, hml, hown, hg⟩ (c_cr_has l D cZ cI cJ cII ca fa (nI n) cs cg cto cq cco cnx x H.size ) (cwV 1 hg gv_mr_84 rfl rfl rfl (by decide +kernel) ⟨Nat.le_of_ble_eq_true rfl, Nat.le_of_ble_eq_true rfl⟩) ⟨mt_bl, va_recv (q0 := 1) (ci := 0) hK hP rfl rfl, mt_pr hX hPc hK hDc⟩ rfl rfl hl.1 rfl (lv_room (Nat.le_of_ble_eq_true rfl)) d_mr_distance_5 ⟨Nat.le_of_ble_eq_true rfl, Nat.le_of_ble_eq_true rfl⟩) (fun r1 hr1 => ?_)
  have hr1 : (r1 = 1 ∧ ¬ x < 0 ∧ ¬ (nI n) ≤ x) ∨ (r1 = 0 ∧ (x < 0 ∨ (nI n) ≤ x)) := hr1
  have hhas := hr1
  refine lv_if_eq hx hb d_mr_distance_8 rfl (fun g1 => ?_) (fun g1 => ?_)
  ·
    refine lv_iconst (v := (-1)) hx hb d_mr_distance_22 (by decide) ?_
    exact W.iret hx hb hr (fun t ht _ => ⟨(-1), rfl, Or.inl ⟨rfl, ds_v (xv_In hI) (hhas.elim (fun q => absurd (q.1.symm.trans g1) (by decide)) (fun q => q.2))⟩, ht.trans hH⟩) (fun _ h => absurd h List.not_mem_nil) d_mr_distance_23
  ·
    obtain ⟨k, hkx, hk⟩ := xv_hs (xv_In hI) (hhas.elim (fun q => q.2) (fun q => absurd q.1 g1))
    subst hkx
    have hl : lv_has ls 2 [(0, .ref ma), (1, .int (nI k))] := hl
    obtain ⟨hF, hL, sp, gl, hC, hpI⟩ := hI
    refine lv_aload_n hx hb d_mr_distance_11 rfl (lv_at hl 0 rfl) ?_
    refine gf_mr_21 hx hb hg hown hK hP 0 rfl rfl d_mr_distance_12 ?_
    refine lv_iload_n hx hb d_mr_distance_15 rfl (lv_at hl 1 rfl) ?_
    have hPc := hP.sub (ws' := ([(ca, .inr (0, [.ref fa, .int (nI n), .ref cs, .ref cg, .ref cto, .ref cq, .ref cco, .ref cnx])), (cs, .inl (cI, 5, .inl s5)), (cto, .inl (cII, 5, .inr (.inr (.inr (.inr (fun i => if i < 5 then some (rg i) else none))))))] ++ mt_rw 5 rg (fun i => .inl (cI, 25, .inl (Mg i))))) [1, 2, 3, 4, 5, 6, 7, 8] rfl
    have hDc := hD.sub (ws' := ([(ca, .inr (0, [.ref fa, .int (nI n), .ref cs, .ref cg, .ref cto, .ref cq, .ref cco, .ref cnx])), (cs, .inl (cI, 5, .inl s5)), (cto, .inl (cII, 5, .inr (.inr (.inr (.inr (fun i => if i < 5 then some (rg i) else none))))))] ++ mt_rw 5 rg (fun i => .inl (cI, 25, .inl (Mg i))))) [1, 2, 3, 4, 5, 6, 7, 8] (by decide) rfl
    refine vp_callSi (W.runV (As := [.int (nI k)]) (rest := []) ⟨hx, hb, hml, hown, hg⟩ (c_cr_wayFromStart l D cZ cI cJ cII ca fa (nI n) cs cg cto cq cco cnx rg Mg s5 k (sp k) H.size (by have := hC.1.1; omega) (by have := (hC.2 k hk).2.1; have := hC.1.2.1; omega) ((hC.2 k hk).1)) (cwV 1 hg gv_mr_85 rfl rfl rfl (by decide +kernel) ⟨Nat.le_of_ble_eq_true rfl, Nat.le_of_ble_eq_true rfl⟩) ⟨mt_bl, va_recv (q0 := 1) (ci := 0) hK hP rfl rfl, mt_pr hX hPc hK hDc⟩ rfl rfl hl.1 rfl (lv_room (Nat.le_of_ble_eq_true rfl)) d_mr_distance_16 ⟨Nat.le_of_ble_eq_true rfl, Nat.le_of_ble_eq_true rfl⟩) (fun r2 hr2 => ?_)
    have hr2 : r2 = Mg k (sp k) := hr2
    have hr2 : r2 = Mg k (sp k) := hr2
    subst hr2
    refine lv_goto hx hb d_mr_distance_19 rfl ?_
    exact W.iret hx hb hr (fun t ht _ => ⟨Mg k (sp k), rfl, Or.inr ⟨k, sp k, gl k, Mg k, hk, rfl, (hC.2 k hk).1, (hC.1.2.2.2.2.2 k hk).1, (hC.2 k hk).2, (hC.1.2.2.2.2.2 k hk).2.1, wy_cv (fun c9 b9 h9 => fx_nb_iff hF.1.2.2.2 hF.2.1 h9) (hC.1.2.2.2.2.2 k hk).2.2, rfl⟩, ht.trans hH⟩) (fun _ h => absurd h List.not_mem_nil) d_mr_distance_23

theorem xv_kn {F n N : Nat} {wf rk sc : Nat → Int32} {Ms Mg : Nat → Nat → Int32} {gl sp : Nat → Nat} {wo : Nat → Int64} {Mp : Nat → Nat → Int32} {pen psu pnm pkn pfo : Int32} (h0 : ¬ pfo = 0) (h : px_I F n N wf rk sc Ms Mg gl sp wo Mp pen psu pnm pkn pfo) : ∃ pe P, pe ≤ 31 ∧ pen = nI pe ∧ px_Pl n N wf sc Ms Mg sp Mp P pe := by
  rcases h with h | ⟨-, ⟨k, -, -, hJ⟩, h⟩
  · exact absurd h.2.2 h0
  · have hk := h.elim (fun q => absurd q h0) (fun q => q.2)
    exact hJ.2.2.elim (fun q => absurd (q.1.symm.trans hk) (by decide)) (fun q => q.2.2.2.2.2)

set_option maxHeartbeats 4000000 in
set_option maxRecDepth 100000 in
theorem c_mr_cost (l : Launch) (D : va_G) (cZ cI cJ cII : ClassId) (ma : Nat) (fa : Nat) (ca : Nat) (pa : Nat) (da : Nat) (ea : Nat) (wa : Nat) (ra : Nat) (sa : Nat) (ta : Nat) (cs : Nat) (cg : Nat) (cto : Nat) (cq : Nat) (cco : Nat) (cnx : Nat) (la : Nat) (lwo : Nat) (pce : Nat) (pse : Nat) (ppl : Nat) (dce : Nat) (dto : Nat) (dle : Nat) (rr : Nat → Nat) (rg : Nat → Nat) (rp : Nat → Nat) (rq : Nat → Nat) (rl : Nat → Nat) (W0 : Nat) (H0 : Nat) (n : Nat) (wf : Nat → Int32) (rk : Nat → Int32) (sc : Nat → Int32) (Ms : Nat → Nat → Int32) (s5 : Nat → Int32) (g5 : Nat → Int32) (Mg : Nat → Nat → Int32) (qf : Nat → Int32) (k1 : Nat → Int64) (k2 : Nat → Int64) (wo : Nat → Int64) (Mc : Nat → Nat → Int32) (se : Nat → Int32) (Mp : Nat → Nat → Int32) (pen : Int32) (psu : Int32) (pnm : Int32) (pkn : Int32) (pfo : Int32) (of : Nat → Int32) (lf : Nat → Int32) (Ml : Nat → Nat → Int32) (eso : Int32) (eti : Int32) (eles : Int32) (egr : Int32) (x : Int32) (sz : Nat) (hI : xv_I W0 H0 n wf rk sc Ms s5 g5 Mg wo Mp pen psu pnm pkn pfo lf) : Met l y_mr_cost w_mr_cost ({ frames := 2, cells := 0, slots := 0, locals := 80 }) (va_Pc [.ref ma, .int x] (mt_B D [(cZ, .boolean), (cI, .int), (cJ, .long), (cII, .array .int)] (((([(ma, .inr (6, [.ref fa, .ref ca, .ref pa, .ref da, .ref ea])), (pa, .inr (4, [.ref fa, .ref ca, .ref la, .ref pce, .ref pse, .ref ppl, .int pen, .int psu, .int pnm, .int pkn, .int pfo])), (la, .inr (3, [.ref lwo])), (lwo, .inl (cJ, 1296, .inr (.inl wo))), (pce, .inl (cII, 32, .inr (.inr (.inr (.inr (fun i => if i < 32 then some (rp i) else none)))))), (pse, .inl (cI, 32, .inl se)), (ppl, .inl (cII, 32, .inr (.inr (.inr (.inr (fun i => if i < 32 then some (rq i) else none)))))), (fa, .inr (1, [.int (nI W0), .int (nI H0), .ref wa, .int (nI (fx_cnt wf (W0 * H0))), .ref ra, .ref sa, .ref ta])), (ra, .inl (cI, 25, .inl rk)), (sa, .inl (cI, 25, .inl sc)), (ta, .inl (cII, 25, .inr (.inr (.inr (.inr (fun i => if i < 25 then some (rr i) else none)))))), (ca, .inr (0, [.ref fa, .int (nI n), .ref cs, .ref cg, .ref cto, .ref cq, .ref cco, .ref cnx])), (cs, .inl (cI, 5, .inl s5)), (cg, .inl (cI, 5, .inl g5)), (cto, .inl (cII, 5, .inr (.inr (.inr (.inr (fun i => if i < 5 then some (rg i) else none))))))] ++ mt_rw 32 rp (fun i => .inl (cI, 5, .inl (Mc i)))) ++ mt_rw 32 rq (fun i => .inl (cI, 5, .inl (Mp i)))) ++ mt_rw 25 rr (fun i => .inl (cI, 5, .inl (Ms i)))) ++ mt_rw 5 rg (fun i => .inl (cI, 25, .inl (Mg i)))) sz)) (vp_Si (fun r : Int32 => True)) 0 0 (fun _ => False) := by
  refine mt_ofR (by decide) (Nat.le_of_ble_eq_true rfl) ?_
  intro p e s m below meth c ls hx hb hr hlk hml hown hg hl hX hP hK hD
  have hown : s.vm.findClass R_mr = some m.cls := hown
  obtain ⟨H, hH⟩ : ∃ H : Heap, H = s.heap := ⟨_, rfl⟩
  rw [← hH] at hP ⊢
  have hl : lv_has ls 2 [(0, .ref ma), (1, .int x)] := hl
  refine lv_aload_n hx hb d_mr_cost_0 rfl (lv_at hl 0 rfl) ?_
  refine gf_mr_30 hx hb hg hown hK hP 0 rfl rfl d_mr_cost_1 ?_
  refine gf_mr_98 hx hb hg hown hK hP 1 rfl rfl d_mr_cost_4 ?_
  refine lv_if_eq hx hb d_mr_cost_7 rfl (fun g0 => ?_) (fun g0 => ?_)
  ·
    refine lv_iconst (v := (-1)) hx hb d_mr_cost_32 (by decide) ?_
    exact W.iret hx hb hr (fun t ht _ => ⟨(-1), rfl, trivial, ht.trans hH⟩) (fun _ h => absurd h List.not_mem_nil) d_mr_cost_33
  ·
    refine lv_aload_n hx hb d_mr_cost_10 rfl (lv_at hl 0 rfl) ?_
    refine gf_mr_21 hx hb hg hown hK hP 0 rfl rfl d_mr_cost_11 ?_
    refine lv_iload_n hx hb d_mr_cost_14 rfl (lv_at hl 1 rfl) ?_
    have hPc := hP.sub (ws' := [(ca, .inr (0, [.ref fa, .int (nI n), .ref cs, .ref cg, .ref cto, .ref cq, .ref cco, .ref cnx]))]) [11] rfl
    have hDc := hD.sub (ws' := [(ca, .inr (0, [.ref fa, .int (nI n), .ref cs, .ref cg, .ref cto, .ref cq, .ref cco, .ref cnx]))]) [11] (by decide) rfl
    refine vp_callSi (W.runV (As := [.int x]) (rest := []) ⟨hx, hb, hml, hown, hg⟩ (c_cr_has l D cZ cI cJ cII ca fa (nI n) cs cg cto cq cco cnx x H.size ) (cwV 1 hg gv_mr_84 rfl rfl rfl (by decide +kernel) ⟨Nat.le_of_ble_eq_true rfl, Nat.le_of_ble_eq_true rfl⟩) ⟨mt_bl, va_recv (q0 := 11) (ci := 0) hK hP rfl rfl, mt_pr hX hPc hK hDc⟩ rfl rfl hl.1 rfl (lv_room (Nat.le_of_ble_eq_true rfl)) d_mr_cost_15 ⟨Nat.le_of_ble_eq_true rfl, Nat.le_of_ble_eq_true rfl⟩) (fun r1 hr1 => ?_)
    have hr1 : (r1 = 1 ∧ ¬ x < 0 ∧ ¬ (nI n) ≤ x) ∨ (r1 = 0 ∧ (x < 0 ∨ (nI n) ≤ x)) := hr1
    have hhas := hr1
    refine lv_if_eq hx hb d_mr_cost_18 rfl (fun g1 => ?_) (fun g1 => ?_)
    ·
      refine lv_iconst (v := (-1)) hx hb d_mr_cost_32 (by decide) ?_
      exact W.iret hx hb hr (fun t ht _ => ⟨(-1), rfl, trivial, ht.trans hH⟩) (fun _ h => absurd h List.not_mem_nil) d_mr_cost_33
    ·
      obtain ⟨k, hkx, hk⟩ := xv_hs (xv_In hI) (hhas.elim (fun q => q.2) (fun q => absurd q.1 g1))
      subst hkx
      have hl : lv_has ls 2 [(0, .ref ma), (1, .int (nI k))] := hl
      obtain ⟨hF, hL, sp, gl, hC, hpI⟩ := hI
      obtain ⟨pe, P, hpe, hpen, hPl⟩ : ∃ pe P, pe ≤ 31 ∧ pen = nI pe ∧ px_Pl n (W0 * H0) wf sc Ms Mg sp Mp P pe := xv_kn g0 hpI
      rw [hpen] at hP hD
      have hP : va_P D kls (((([(ma, .inr (6, [.ref fa, .ref ca, .ref pa, .ref da, .ref ea])), (pa, .inr (4, [.ref fa, .ref ca, .ref la, .ref pce, .ref pse, .ref ppl, .int (nI pe), .int psu, .int pnm, .int pkn, .int pfo])), (la, .inr (3, [.ref lwo])), (lwo, .inl (cJ, 1296, .inr (.inl wo))), (pce, .inl (cII, 32, .inr (.inr (.inr (.inr (fun i => if i < 32 then some (rp i) else none)))))), (pse, .inl (cI, 32, .inl se)), (ppl, .inl (cII, 32, .inr (.inr (.inr (.inr (fun i => if i < 32 then some (rq i) else none)))))), (fa, .inr (1, [.int (nI W0), .int (nI H0), .ref wa, .int (nI (fx_cnt wf (W0 * H0))), .ref ra, .ref sa, .ref ta])), (ra, .inl (cI, 25, .inl rk)), (sa, .inl (cI, 25, .inl sc)), (ta, .inl (cII, 25, .inr (.inr (.inr (.inr (fun i => if i < 25 then some (rr i) else none)))))), (ca, .inr (0, [.ref fa, .int (nI n), .ref cs, .ref cg, .ref cto, .ref cq, .ref cco, .ref cnx])), (cs, .inl (cI, 5, .inl s5)), (cg, .inl (cI, 5, .inl g5)), (cto, .inl (cII, 5, .inr (.inr (.inr (.inr (fun i => if i < 5 then some (rg i) else none))))))] ++ mt_rw 32 rp (fun i => .inl (cI, 5, .inl (Mc i)))) ++ mt_rw 32 rq (fun i => .inl (cI, 5, .inl (Mp i)))) ++ mt_rw 25 rr (fun i => .inl (cI, 5, .inl (Ms i)))) ++ mt_rw 5 rg (fun i => .inl (cI, 25, .inl (Mg i)))) H := hP
      refine lv_aload_n hx hb d_mr_cost_21 rfl (lv_at hl 0 rfl) ?_
      refine gf_mr_30 hx hb hg hown hK hP 0 rfl rfl d_mr_cost_22 ?_
      refine lv_iload_n hx hb d_mr_cost_25 rfl (lv_at hl 1 rfl) ?_
      have hPc := hP.sub (ws' := (((([(pa, .inr (4, [.ref fa, .ref ca, .ref la, .ref pce, .ref pse, .ref ppl, .int (nI pe), .int psu, .int pnm, .int pkn, .int pfo])), (la, .inr (3, [.ref lwo])), (lwo, .inl (cJ, 1296, .inr (.inl wo))), (pce, .inl (cII, 32, .inr (.inr (.inr (.inr (fun i => if i < 32 then some (rp i) else none)))))), (pse, .inl (cI, 32, .inl se)), (ppl, .inl (cII, 32, .inr (.inr (.inr (.inr (fun i => if i < 32 then some (rq i) else none)))))), (fa, .inr (1, [.int (nI W0), .int (nI H0), .ref wa, .int (nI (fx_cnt wf (W0 * H0))), .ref ra, .ref sa, .ref ta])), (ra, .inl (cI, 25, .inl rk)), (sa, .inl (cI, 25, .inl sc)), (ta, .inl (cII, 25, .inr (.inr (.inr (.inr (fun i => if i < 25 then some (rr i) else none)))))), (ca, .inr (0, [.ref fa, .int (nI n), .ref cs, .ref cg, .ref cto, .ref cq, .ref cco, .ref cnx])), (cs, .inl (cI, 5, .inl s5)), (cg, .inl (cI, 5, .inl g5)), (cto, .inl (cII, 5, .inr (.inr (.inr (.inr (fun i => if i < 5 then some (rg i) else none))))))] ++ mt_rw 32 rp (fun i => .inl (cI, 5, .inl (Mc i)))) ++ mt_rw 32 rq (fun i => .inl (cI, 5, .inl (Mp i)))) ++ mt_rw 25 rr (fun i => .inl (cI, 5, .inl (Ms i)))) ++ mt_rw 5 rg (fun i => .inl (cI, 25, .inl (Mg i))))) [1, 2, 3, 4, 5, 6, 7, 8, 9, 10, 11, 12, 13, 14, 15, 16, 17, 18, 19, 20, 21, 22, 23, 24, 25, 26, 27, 28, 29, 30, 31, 32, 33, 34, 35, 36, 37, 38, 39, 40, 41, 42, 43, 44, 45, 46, 47, 48, 49, 50, 51, 52, 53, 54, 55, 56, 57, 58, 59, 60, 61, 62, 63, 64, 65, 66, 67, 68, 69, 70, 71, 72, 73, 74, 75, 76, 77, 78, 79, 80, 81, 82, 83, 84, 85, 86, 87, 88, 89, 90, 91, 92, 93, 94, 95, 96, 97, 98, 99, 100, 101, 102, 103, 104, 105, 106, 107, 108] rfl
      have hDc := hD.sub (ws' := (((([(pa, .inr (4, [.ref fa, .ref ca, .ref la, .ref pce, .ref pse, .ref ppl, .int (nI pe), .int psu, .int pnm, .int pkn, .int pfo])), (la, .inr (3, [.ref lwo])), (lwo, .inl (cJ, 1296, .inr (.inl wo))), (pce, .inl (cII, 32, .inr (.inr (.inr (.inr (fun i => if i < 32 then some (rp i) else none)))))), (pse, .inl (cI, 32, .inl se)), (ppl, .inl (cII, 32, .inr (.inr (.inr (.inr (fun i => if i < 32 then some (rq i) else none)))))), (fa, .inr (1, [.int (nI W0), .int (nI H0), .ref wa, .int (nI (fx_cnt wf (W0 * H0))), .ref ra, .ref sa, .ref ta])), (ra, .inl (cI, 25, .inl rk)), (sa, .inl (cI, 25, .inl sc)), (ta, .inl (cII, 25, .inr (.inr (.inr (.inr (fun i => if i < 25 then some (rr i) else none)))))), (ca, .inr (0, [.ref fa, .int (nI n), .ref cs, .ref cg, .ref cto, .ref cq, .ref cco, .ref cnx])), (cs, .inl (cI, 5, .inl s5)), (cg, .inl (cI, 5, .inl g5)), (cto, .inl (cII, 5, .inr (.inr (.inr (.inr (fun i => if i < 5 then some (rg i) else none))))))] ++ mt_rw 32 rp (fun i => .inl (cI, 5, .inl (Mc i)))) ++ mt_rw 32 rq (fun i => .inl (cI, 5, .inl (Mp i)))) ++ mt_rw 25 rr (fun i => .inl (cI, 5, .inl (Ms i)))) ++ mt_rw 5 rg (fun i => .inl (cI, 25, .inl (Mg i))))) [1, 2, 3, 4, 5, 6, 7, 8, 9, 10, 11, 12, 13, 14, 15, 16, 17, 18, 19, 20, 21, 22, 23, 24, 25, 26, 27, 28, 29, 30, 31, 32, 33, 34, 35, 36, 37, 38, 39, 40, 41, 42, 43, 44, 45, 46, 47, 48, 49, 50, 51, 52, 53, 54, 55, 56, 57, 58, 59, 60, 61, 62, 63, 64, 65, 66, 67, 68, 69, 70, 71, 72, 73, 74, 75, 76, 77, 78, 79, 80, 81, 82, 83, 84, 85, 86, 87, 88, 89, 90, 91, 92, 93, 94, 95, 96, 97, 98, 99, 100, 101, 102, 103, 104, 105, 106, 107, 108] (by decide) rfl
      refine vp_callSi (W.runV (As := [.int (nI k)]) (rest := []) ⟨hx, hb, hml, hown, hg⟩ (c_pn_costOf l D cZ cI cJ cII pa pce pse ppl psu pnm pkn pfo la lwo fa (nI W0) (nI H0) wa ra sa ta ca cs cg cto cq cco cnx wo Mc se Mp rk sc s5 g5 rp rq rr rg Ms Mg (fx_cnt wf (W0 * H0)) n (W0 * H0) W0 wf gl sp P k pe H.size (hC.1) hk hpe hPl) (cwV 1 hg gv_mr_102 rfl rfl rfl (by decide +kernel) ⟨Nat.le_of_ble_eq_true rfl, Nat.le_of_ble_eq_true rfl⟩) ⟨mt_bl, va_recv (q0 := 1) (ci := 4) hK hP rfl rfl, mt_pr hX hPc hK hDc⟩ rfl rfl hl.1 rfl (lv_room (Nat.le_of_ble_eq_true rfl)) d_mr_cost_26 ⟨Nat.le_of_ble_eq_true rfl, Nat.le_of_ble_eq_true rfl⟩) (fun r2 hr2 => ?_)
      have hr2 : True := hr2
      refine lv_goto hx hb d_mr_cost_29 rfl ?_
      exact W.iret hx hb hr (fun t ht _ => ⟨r2, rfl, trivial, ht.trans hH⟩) (fun _ h => absurd h List.not_mem_nil) d_mr_cost_33

set_option maxHeartbeats 4000000 in
set_option maxRecDepth 100000 in
theorem c_mr_at (l : Launch) (D : va_G) (cZ cI cJ cII : ClassId) (ma : Nat) (fa : Nat) (ca : Nat) (pa : Nat) (da : Nat) (ea : Nat) (wa : Nat) (ra : Nat) (sa : Nat) (ta : Nat) (cs : Nat) (cg : Nat) (cto : Nat) (cq : Nat) (cco : Nat) (cnx : Nat) (la : Nat) (lwo : Nat) (pce : Nat) (pse : Nat) (ppl : Nat) (dce : Nat) (dto : Nat) (dle : Nat) (rr : Nat → Nat) (rg : Nat → Nat) (rp : Nat → Nat) (rq : Nat → Nat) (rl : Nat → Nat) (W0 : Nat) (H0 : Nat) (n : Nat) (wf : Nat → Int32) (rk : Nat → Int32) (sc : Nat → Int32) (Ms : Nat → Nat → Int32) (s5 : Nat → Int32) (g5 : Nat → Int32) (Mg : Nat → Nat → Int32) (qf : Nat → Int32) (k1 : Nat → Int64) (k2 : Nat → Int64) (wo : Nat → Int64) (Mc : Nat → Nat → Int32) (se : Nat → Int32) (Mp : Nat → Nat → Int32) (pen : Int32) (psu : Int32) (pnm : Int32) (pkn : Int32) (pfo : Int32) (of : Nat → Int32) (lf : Nat → Int32) (Ml : Nat → Nat → Int32) (eso : Int32) (eti : Int32) (eles : Int32) (egr : Int32) (x : Int32) (y : Int32) (sz : Nat) (hI : xv_I W0 H0 n wf rk sc Ms s5 g5 Mg wo Mp pen psu pnm pkn pfo lf) : Met l y_mr_at w_mr_at ({ frames := 2, cells := 0, slots := 0, locals := 80 }) (va_Pc [.ref ma, .int x, .int y] (mt_B D [(cZ, .boolean), (cI, .int), (cJ, .long), (cII, .array .int)] (((([(ma, .inr (6, [.ref fa, .ref ca, .ref pa, .ref da, .ref ea])), (pa, .inr (4, [.ref fa, .ref ca, .ref la, .ref pce, .ref pse, .ref ppl, .int pen, .int psu, .int pnm, .int pkn, .int pfo])), (la, .inr (3, [.ref lwo])), (lwo, .inl (cJ, 1296, .inr (.inl wo))), (pce, .inl (cII, 32, .inr (.inr (.inr (.inr (fun i => if i < 32 then some (rp i) else none)))))), (pse, .inl (cI, 32, .inl se)), (ppl, .inl (cII, 32, .inr (.inr (.inr (.inr (fun i => if i < 32 then some (rq i) else none)))))), (fa, .inr (1, [.int (nI W0), .int (nI H0), .ref wa, .int (nI (fx_cnt wf (W0 * H0))), .ref ra, .ref sa, .ref ta])), (ra, .inl (cI, 25, .inl rk)), (sa, .inl (cI, 25, .inl sc)), (ta, .inl (cII, 25, .inr (.inr (.inr (.inr (fun i => if i < 25 then some (rr i) else none)))))), (ca, .inr (0, [.ref fa, .int (nI n), .ref cs, .ref cg, .ref cto, .ref cq, .ref cco, .ref cnx])), (cs, .inl (cI, 5, .inl s5)), (cg, .inl (cI, 5, .inl g5)), (cto, .inl (cII, 5, .inr (.inr (.inr (.inr (fun i => if i < 5 then some (rg i) else none))))))] ++ mt_rw 32 rp (fun i => .inl (cI, 5, .inl (Mc i)))) ++ mt_rw 32 rq (fun i => .inl (cI, 5, .inl (Mp i)))) ++ mt_rw 25 rr (fun i => .inl (cI, 5, .inl (Ms i)))) ++ mt_rw 5 rg (fun i => .inl (cI, 25, .inl (Mg i)))) sz)) (vp_Si (fun r : Int32 => True)) 0 0 (fun _ => False) := by
  refine mt_ofR (by decide) (Nat.le_of_ble_eq_true rfl) ?_
  intro p e s m below meth c ls hx hb hr hlk hml hown hg hl hX hP hK hD
  have hown : s.vm.findClass R_mr = some m.cls := hown
  obtain ⟨H, hH⟩ : ∃ H : Heap, H = s.heap := ⟨_, rfl⟩
  rw [← hH] at hP ⊢
  have hl : lv_has ls 3 [(0, .ref ma), (1, .int x), (2, .int y)] := hl
  refine lv_aload_n hx hb d_mr_at_0 rfl (lv_at hl 0 rfl) ?_
  refine gf_mr_30 hx hb hg hown hK hP 0 rfl rfl d_mr_at_1 ?_
  refine gf_mr_98 hx hb hg hown hK hP 1 rfl rfl d_mr_at_4 ?_
  refine lv_if_eq hx hb d_mr_at_7 rfl (fun g0 => ?_) (fun g0 => ?_)
  ·
    refine lv_iconst (v := (-1)) hx hb d_mr_at_37 (by decide) ?_
    exact W.iret hx hb hr (fun t ht _ => ⟨(-1), rfl, trivial, ht.trans hH⟩) (fun _ h => absurd h List.not_mem_nil) d_mr_at_38
  ·
    refine lv_aload_n hx hb d_mr_at_10 rfl (lv_at hl 0 rfl) ?_
    refine gf_mr_21 hx hb hg hown hK hP 0 rfl rfl d_mr_at_11 ?_
    refine lv_iload_n hx hb d_mr_at_14 rfl (lv_at hl 1 rfl) ?_
    have hPc := hP.sub (ws' := [(ca, .inr (0, [.ref fa, .int (nI n), .ref cs, .ref cg, .ref cto, .ref cq, .ref cco, .ref cnx]))]) [11] rfl
    have hDc := hD.sub (ws' := [(ca, .inr (0, [.ref fa, .int (nI n), .ref cs, .ref cg, .ref cto, .ref cq, .ref cco, .ref cnx]))]) [11] (by decide) rfl
    refine vp_callSi (W.runV (As := [.int x]) (rest := []) ⟨hx, hb, hml, hown, hg⟩ (c_cr_has l D cZ cI cJ cII ca fa (nI n) cs cg cto cq cco cnx x H.size ) (cwV 1 hg gv_mr_84 rfl rfl rfl (by decide +kernel) ⟨Nat.le_of_ble_eq_true rfl, Nat.le_of_ble_eq_true rfl⟩) ⟨mt_bl, va_recv (q0 := 11) (ci := 0) hK hP rfl rfl, mt_pr hX hPc hK hDc⟩ rfl rfl hl.1 rfl (lv_room (Nat.le_of_ble_eq_true rfl)) d_mr_at_15 ⟨Nat.le_of_ble_eq_true rfl, Nat.le_of_ble_eq_true rfl⟩) (fun r1 hr1 => ?_)
    have hr1 : (r1 = 1 ∧ ¬ x < 0 ∧ ¬ (nI n) ≤ x) ∨ (r1 = 0 ∧ (x < 0 ∨ (nI n) ≤ x)) := hr1
    have hhas := hr1
    refine lv_if_eq hx hb d_mr_at_18 rfl (fun g1 => ?_) (fun g1 => ?_)
    ·
      refine lv_iconst (v := (-1)) hx hb d_mr_at_37 (by decide) ?_
      exact W.iret hx hb hr (fun t ht _ => ⟨(-1), rfl, trivial, ht.trans hH⟩) (fun _ h => absurd h List.not_mem_nil) d_mr_at_38
    ·
      refine lv_iload_n hx hb d_mr_at_21 rfl (lv_at hl 2 rfl) ?_
      refine lv_if_lt hx hb d_mr_at_22 rfl (fun g2 => ?_) (fun g2 => ?_)
      ·
        refine lv_iconst (v := (-1)) hx hb d_mr_at_37 (by decide) ?_
        exact W.iret hx hb hr (fun t ht _ => ⟨(-1), rfl, trivial, ht.trans hH⟩) (fun _ h => absurd h List.not_mem_nil) d_mr_at_38
      ·
        obtain ⟨k, hkx, hk⟩ := xv_hs (xv_In hI) (hhas.elim (fun q => q.2) (fun q => absurd q.1 g1))
        subst hkx
        have hl : lv_has ls 3 [(0, .ref ma), (1, .int (nI k)), (2, .int y)] := hl
        obtain ⟨hF, hL, sp, gl, hC, hpI⟩ := hI
        obtain ⟨pe, P, hpe, hpen, hPl⟩ : ∃ pe P, pe ≤ 31 ∧ pen = nI pe ∧ px_Pl n (W0 * H0) wf sc Ms Mg sp Mp P pe := xv_kn g0 hpI
        rw [hpen] at hP hD
        have hP : va_P D kls (((([(ma, .inr (6, [.ref fa, .ref ca, .ref pa, .ref da, .ref ea])), (pa, .inr (4, [.ref fa, .ref ca, .ref la, .ref pce, .ref pse, .ref ppl, .int (nI pe), .int psu, .int pnm, .int pkn, .int pfo])), (la, .inr (3, [.ref lwo])), (lwo, .inl (cJ, 1296, .inr (.inl wo))), (pce, .inl (cII, 32, .inr (.inr (.inr (.inr (fun i => if i < 32 then some (rp i) else none)))))), (pse, .inl (cI, 32, .inl se)), (ppl, .inl (cII, 32, .inr (.inr (.inr (.inr (fun i => if i < 32 then some (rq i) else none)))))), (fa, .inr (1, [.int (nI W0), .int (nI H0), .ref wa, .int (nI (fx_cnt wf (W0 * H0))), .ref ra, .ref sa, .ref ta])), (ra, .inl (cI, 25, .inl rk)), (sa, .inl (cI, 25, .inl sc)), (ta, .inl (cII, 25, .inr (.inr (.inr (.inr (fun i => if i < 25 then some (rr i) else none)))))), (ca, .inr (0, [.ref fa, .int (nI n), .ref cs, .ref cg, .ref cto, .ref cq, .ref cco, .ref cnx])), (cs, .inl (cI, 5, .inl s5)), (cg, .inl (cI, 5, .inl g5)), (cto, .inl (cII, 5, .inr (.inr (.inr (.inr (fun i => if i < 5 then some (rg i) else none))))))] ++ mt_rw 32 rp (fun i => .inl (cI, 5, .inl (Mc i)))) ++ mt_rw 32 rq (fun i => .inl (cI, 5, .inl (Mp i)))) ++ mt_rw 25 rr (fun i => .inl (cI, 5, .inl (Ms i)))) ++ mt_rw 5 rg (fun i => .inl (cI, 25, .inl (Mg i)))) H := hP
        obtain ⟨tt, htt, rfl⟩ := nI_of g2
        have hl : lv_has ls 3 [(0, .ref ma), (1, .int (nI k)), (2, .int (nI tt))] := hl
        refine lv_aload_n hx hb d_mr_at_25 rfl (lv_at hl 0 rfl) ?_
        refine gf_mr_30 hx hb hg hown hK hP 0 rfl rfl d_mr_at_26 ?_
        refine lv_iload_n hx hb d_mr_at_29 rfl (lv_at hl 1 rfl) ?_
        refine lv_iload_n hx hb d_mr_at_30 rfl (lv_at hl 2 rfl) ?_
        have hPc := hP.sub (ws' := (((([(pa, .inr (4, [.ref fa, .ref ca, .ref la, .ref pce, .ref pse, .ref ppl, .int (nI pe), .int psu, .int pnm, .int pkn, .int pfo])), (la, .inr (3, [.ref lwo])), (lwo, .inl (cJ, 1296, .inr (.inl wo))), (pce, .inl (cII, 32, .inr (.inr (.inr (.inr (fun i => if i < 32 then some (rp i) else none)))))), (pse, .inl (cI, 32, .inl se)), (ppl, .inl (cII, 32, .inr (.inr (.inr (.inr (fun i => if i < 32 then some (rq i) else none)))))), (fa, .inr (1, [.int (nI W0), .int (nI H0), .ref wa, .int (nI (fx_cnt wf (W0 * H0))), .ref ra, .ref sa, .ref ta])), (ra, .inl (cI, 25, .inl rk)), (sa, .inl (cI, 25, .inl sc)), (ta, .inl (cII, 25, .inr (.inr (.inr (.inr (fun i => if i < 25 then some (rr i) else none)))))), (ca, .inr (0, [.ref fa, .int (nI n), .ref cs, .ref cg, .ref cto, .ref cq, .ref cco, .ref cnx])), (cs, .inl (cI, 5, .inl s5)), (cg, .inl (cI, 5, .inl g5)), (cto, .inl (cII, 5, .inr (.inr (.inr (.inr (fun i => if i < 5 then some (rg i) else none))))))] ++ mt_rw 32 rp (fun i => .inl (cI, 5, .inl (Mc i)))) ++ mt_rw 32 rq (fun i => .inl (cI, 5, .inl (Mp i)))) ++ mt_rw 25 rr (fun i => .inl (cI, 5, .inl (Ms i)))) ++ mt_rw 5 rg (fun i => .inl (cI, 25, .inl (Mg i))))) [1, 2, 3, 4, 5, 6, 7, 8, 9, 10, 11, 12, 13, 14, 15, 16, 17, 18, 19, 20, 21, 22, 23, 24, 25, 26, 27, 28, 29, 30, 31, 32, 33, 34, 35, 36, 37, 38, 39, 40, 41, 42, 43, 44, 45, 46, 47, 48, 49, 50, 51, 52, 53, 54, 55, 56, 57, 58, 59, 60, 61, 62, 63, 64, 65, 66, 67, 68, 69, 70, 71, 72, 73, 74, 75, 76, 77, 78, 79, 80, 81, 82, 83, 84, 85, 86, 87, 88, 89, 90, 91, 92, 93, 94, 95, 96, 97, 98, 99, 100, 101, 102, 103, 104, 105, 106, 107, 108] rfl
        have hDc := hD.sub (ws' := (((([(pa, .inr (4, [.ref fa, .ref ca, .ref la, .ref pce, .ref pse, .ref ppl, .int (nI pe), .int psu, .int pnm, .int pkn, .int pfo])), (la, .inr (3, [.ref lwo])), (lwo, .inl (cJ, 1296, .inr (.inl wo))), (pce, .inl (cII, 32, .inr (.inr (.inr (.inr (fun i => if i < 32 then some (rp i) else none)))))), (pse, .inl (cI, 32, .inl se)), (ppl, .inl (cII, 32, .inr (.inr (.inr (.inr (fun i => if i < 32 then some (rq i) else none)))))), (fa, .inr (1, [.int (nI W0), .int (nI H0), .ref wa, .int (nI (fx_cnt wf (W0 * H0))), .ref ra, .ref sa, .ref ta])), (ra, .inl (cI, 25, .inl rk)), (sa, .inl (cI, 25, .inl sc)), (ta, .inl (cII, 25, .inr (.inr (.inr (.inr (fun i => if i < 25 then some (rr i) else none)))))), (ca, .inr (0, [.ref fa, .int (nI n), .ref cs, .ref cg, .ref cto, .ref cq, .ref cco, .ref cnx])), (cs, .inl (cI, 5, .inl s5)), (cg, .inl (cI, 5, .inl g5)), (cto, .inl (cII, 5, .inr (.inr (.inr (.inr (fun i => if i < 5 then some (rg i) else none))))))] ++ mt_rw 32 rp (fun i => .inl (cI, 5, .inl (Mc i)))) ++ mt_rw 32 rq (fun i => .inl (cI, 5, .inl (Mp i)))) ++ mt_rw 25 rr (fun i => .inl (cI, 5, .inl (Ms i)))) ++ mt_rw 5 rg (fun i => .inl (cI, 25, .inl (Mg i))))) [1, 2, 3, 4, 5, 6, 7, 8, 9, 10, 11, 12, 13, 14, 15, 16, 17, 18, 19, 20, 21, 22, 23, 24, 25, 26, 27, 28, 29, 30, 31, 32, 33, 34, 35, 36, 37, 38, 39, 40, 41, 42, 43, 44, 45, 46, 47, 48, 49, 50, 51, 52, 53, 54, 55, 56, 57, 58, 59, 60, 61, 62, 63, 64, 65, 66, 67, 68, 69, 70, 71, 72, 73, 74, 75, 76, 77, 78, 79, 80, 81, 82, 83, 84, 85, 86, 87, 88, 89, 90, 91, 92, 93, 94, 95, 96, 97, 98, 99, 100, 101, 102, 103, 104, 105, 106, 107, 108] (by decide) rfl
        refine vp_callSi (W.runV (As := [.int (nI k), .int (nI tt)]) (rest := []) ⟨hx, hb, hml, hown, hg⟩ (c_pn_placeOf l D cZ cI cJ cII pa pce pse ppl psu pnm pkn pfo la lwo fa (nI W0) (nI H0) wa ra sa ta ca cs cg cto cq cco cnx wo Mc se Mp rk sc s5 g5 rp rq rr rg Ms Mg (fx_cnt wf (W0 * H0)) n k pe tt H.size (by have := hC.1.1; omega) hpe htt) (cwV 2 hg gv_mr_105 rfl rfl rfl (by decide +kernel) ⟨Nat.le_of_ble_eq_true rfl, Nat.le_of_ble_eq_true rfl⟩) ⟨mt_bl, va_recv (q0 := 1) (ci := 4) hK hP rfl rfl, mt_pr hX hPc hK hDc⟩ rfl rfl hl.1 rfl (lv_room (Nat.le_of_ble_eq_true rfl)) d_mr_at_31 ⟨Nat.le_of_ble_eq_true rfl, Nat.le_of_ble_eq_true rfl⟩) (fun r2 hr2 => ?_)
        have hr2 : True := hr2
        refine lv_goto hx hb d_mr_at_34 rfl ?_
        exact W.iret hx hb hr (fun t ht _ => ⟨r2, rfl, trivial, ht.trans hH⟩) (fun _ h => absurd h List.not_mem_nil) d_mr_at_38
