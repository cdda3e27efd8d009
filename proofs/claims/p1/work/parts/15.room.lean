theorem mt_nn {x y : Int32} (h : ¬ x < y) : y ≤ x := Int32.not_lt.mp h
theorem mt_rng {x : Int32} {n : Nat} (hn : n < 2 ^ 31) (h0 : ¬ x < 0) (h1 : x < nI n) : ∃ k, k < n ∧ x = nI k := by
  obtain ⟨j, hj, rfl⟩ := nI_of h0
  refine ⟨j, ?_, rfl⟩
  rcases Nat.lt_or_ge j n with g | g
  · exact g
  · exact absurd h1 (nI_nlt g hj)
theorem mt_one {x : Int32} (h0 : ¬ x < 0) (h1 : ¬ (1 : Int32) * 1 ≤ x) : x = 0 := by
  obtain ⟨k, hk, rfl⟩ := mt_rng (n := 1) (by decide) h0 (Int32.not_le.mp h1)
  obtain rfl : k = 0 := by omega
  rfl
theorem mt_dim {x y : Int32} (h1 : ¬ x < 1) (h2 : ¬ 6 < x) (h3 : ¬ y < 1) (h4 : ¬ 6 < y) (h5 : x * y ≤ 25) : ∃ W0 H0 : Nat, x = nI W0 ∧ y = nI H0 ∧ W0 ≤ 6 ∧ H0 ≤ 6 ∧ W0 * H0 ≤ 25 := by
  have a1 : ¬ x < 0 := fun q => h1 (Int32.lt_trans q (by decide))
  have a2 : ¬ y < 0 := fun q => h3 (Int32.lt_trans q (by decide))
  obtain ⟨j, hj, rfl⟩ := nI_of a1
  obtain ⟨k, hk, rfl⟩ := nI_of a2
  have b1 : j ≤ 6 := by
    rcases Nat.lt_or_ge 6 j with g | g
    · exact absurd (nI_lt (a := 6) g hj) h2
    · exact g
  have b2 : k ≤ 6 := by
    rcases Nat.lt_or_ge 6 k with g | g
    · exact absurd (nI_lt (a := 6) g hk) h4
    · exact g
  refine ⟨j, k, rfl, rfl, b1, b2, ?_⟩
  rw [pk_mul] at h5
  have b3 : j * k ≤ 6 * 6 := Nat.mul_le_mul b1 b2
  rcases Nat.lt_or_ge 25 (j * k) with g | g
  · exact absurd h5 (nI_ge (a := 25) g (by omega))
  · exact g

set_option maxHeartbeats 4000000 in
set_option maxRecDepth 100000 in
theorem c_mr_clear (l : Launch) (D : va_G) (cZ cI cJ cII : ClassId) (ma : Nat) (mfl : Nat) (mla : Nat) (mve : Nat) (ca : Nat) (cfl : Nat) (cs : Nat) (cg : Nat) (cto : Nat) (cq : Nat) (cco : Nat) (cnx : Nat) (pa : Nat) (pfl : Nat) (pcr : Nat) (pho : Nat) (pce : Nat) (pse : Nat) (ppl : Nat) (pen : Int32) (psu : Int32) (pnm : Int32) (pkn : Int32) (pfo : Int32) (sz : Nat)  : Met l y_mr_clear w_mr_clear ({ frames := 1, cells := 0, slots := 0, locals := 40 }) (va_Pc [.ref ma] (mt_B D [(cZ, .boolean), (cI, .int), (cJ, .long), (cII, .array .int)] [(ma, .inr (6, [.ref mfl, .ref ca, .ref pa, .ref mla, .ref mve])), (ca, .inr (0, [.ref cfl, .int 0, .ref cs, .ref cg, .ref cto, .ref cq, .ref cco, .ref cnx])), (pa, .inr (4, [.ref pfl, .ref pcr, .ref pho, .ref pce, .ref pse, .ref ppl, .int pen, .int psu, .int pnm, .int pkn, .int pfo]))] sz)) ((fun A => va_Qi (fun (r : Int32) (u : Unit) => (r = 0) ∧ (True)) (fun (u : Unit) (t : State) => True) A) (va_A [(ma, .inr (6, [.ref mfl, .ref ca, .ref pa, .ref mla, .ref mve])), (ca, .inr (0, [.ref cfl, .int 0, .ref cs, .ref cg, .ref cto, .ref cq, .ref cco, .ref cnx])), (pa, .inr (4, [.ref pfl, .ref pcr, .ref pho, .ref pce, .ref pse, .ref ppl, .int pen, .int psu, .int pnm, .int pkn, .int pfo]))] sz)) 0 0 (va_A [(ma, .inr (6, [.ref mfl, .ref ca, .ref pa, .ref mla, .ref mve])), (ca, .inr (0, [.ref cfl, .int 0, .ref cs, .ref cg, .ref cto, .ref cq, .ref cco, .ref cnx])), (pa, .inr (4, [.ref pfl, .ref pcr, .ref pho, .ref pce, .ref pse, .ref ppl, .int pen, .int psu, .int pnm, .int pkn, .int pfo]))] sz) := by
  refine mt_of (y := y_mr_clear) (n := 2) (av := [.ref ma]) (QF := (fun A => va_Qi (fun (r : Int32) (u : Unit) => (r = 0) ∧ (True)) (fun (u : Unit) (t : State) => True) A)) (by decide) (Nat.le_of_ble_eq_true rfl) ?_
  intro p e s m below meth c ls A hx hb hr hlk hml hown hnm hg hl hX hP hK hD hA hS
  obtain ⟨H, hH⟩ : ∃ H : Heap, H = s.heap := ⟨_, rfl⟩
  have hS : va_S A s.heap H [] := by rw [hH]; exact va_S.rf
  rw [← hH] at hP ⊢
  have hown : s.vm.findClass R_mr = some m.cls := hown
  have hl : lv_has ls 2 [(0, .ref ma)] := hl
  refine lv_aload_n hx hb d_mr_clear_0 rfl (lv_at hl 0 rfl) ?_
  refine gf_mr_21 hx hb hg hown hK hP 0 rfl rfl d_mr_clear_1 ?_
  refine gf_mr_80 hx hb hg hown hK hP 1 rfl rfl d_mr_clear_4 ?_
  refine lv_istore_n hx hb d_mr_clear_7 rfl hl (by decide) rfl (fun ls hl => ?_)
  have hl : lv_has ls 2 [(1, .int 0), (0, .ref ma)] := hl
  refine lv_aload_n hx hb d_mr_clear_8 rfl (lv_at hl 1 rfl) ?_
  refine gf_mr_21 hx hb hg hown hK hP 0 rfl rfl d_mr_clear_9 ?_
  have hPc := hP.sub (ws' := [(ca, .inr (0, [.ref cfl, .int 0, .ref cs, .ref cg, .ref cto, .ref cq, .ref cco, .ref cnx]))]) [1] rfl
  have hDc := hD.sub (ws' := [(ca, .inr (0, [.ref cfl, .int 0, .ref cs, .ref cg, .ref cto, .ref cq, .ref cco, .ref cnx]))]) [1] (by decide) rfl
  have hFc := va_free (wc := [(ca, .inr (0, [.ref cfl, .int 0, .ref cs, .ref cg, .ref cto, .ref cq, .ref cco, .ref cnx]))]) hD hS hA [1] rfl
  refine va_callv (va_runV (As := []) (rest := []) ⟨hx, hb, hml, hown, hg⟩ (c_cr_dismiss l D cZ cI cJ cII ca cfl 0 cs cg cto cq cco cnx H.size ) (cwV 0 hg gv_mr_54 rfl rfl rfl (by decide +kernel) ⟨Nat.le_of_ble_eq_true rfl, Nat.le_of_ble_eq_true rfl⟩) ⟨mt_bl, va_recv (q0 := 1) (ci := 0) hK hP rfl rfl, mt_pr hX hPc hK hDc⟩ rfl rfl hl.1 rfl (lv_room (Nat.le_of_ble_eq_true rfl)) d_mr_clear_12 ⟨Nat.le_of_ble_eq_true rfl, Nat.le_of_ble_eq_true rfl⟩) hS (fun q _ h => hFc q h) hFc (fun u t H1 locs ht hvm hw hB hz1 hk1 hS => ?_)
  obtain ⟨hP1, hD1⟩ := hB
  rw [ht] at hP1
  obtain ⟨hP, hD⟩ := va_join (wr := [(ma, .inr (6, [.ref mfl, .ref ca, .ref pa, .ref mla, .ref mve])), (pa, .inr (4, [.ref pfl, .ref pcr, .ref pho, .ref pce, .ref pse, .ref ppl, .int pen, .int psu, .int pnm, .int pkn, .int pfo]))]) (w1 := [(ca, .inr (0, [.ref cfl, .int 0, .ref cs, .ref cg, .ref cto, .ref cq, .ref cco, .ref cnx]))]) hP hD [1] [0, 2] rfl rfl (by decide) (by decide) hk1 hFc hP1 hD1
  generalize H1 = H at hP hS ⊢
  have hP : va_P D kls [(ma, .inr (6, [.ref mfl, .ref ca, .ref pa, .ref mla, .ref mve])), (pa, .inr (4, [.ref pfl, .ref pcr, .ref pho, .ref pce, .ref pse, .ref ppl, .int pen, .int psu, .int pnm, .int pkn, .int pfo])), (ca, .inr (0, [.ref cfl, .int 0, .ref cs, .ref cg, .ref cto, .ref cq, .ref cco, .ref cnx]))] H := hP
  have hD : va_D A [(ma, .inr (6, [.ref mfl, .ref ca, .ref pa, .ref mla, .ref mve])), (pa, .inr (4, [.ref pfl, .ref pcr, .ref pho, .ref pce, .ref pse, .ref ppl, .int pen, .int psu, .int pnm, .int pkn, .int pfo])), (ca, .inr (0, [.ref cfl, .int 0, .ref cs, .ref cg, .ref cto, .ref cq, .ref cco, .ref cnx]))] := hD
  refine lv_aload_n hx hb d_mr_clear_15 rfl (lv_at hl 1 rfl) ?_
  refine gf_mr_30 hx hb hg hown hK hP 0 rfl rfl d_mr_clear_16 ?_
  have hPc := hP.sub (ws' := [(pa, .inr (4, [.ref pfl, .ref pcr, .ref pho, .ref pce, .ref pse, .ref ppl, .int pen, .int psu, .int pnm, .int pkn, .int pfo]))]) [1] rfl
  have hDc := hD.sub (ws' := [(pa, .inr (4, [.ref pfl, .ref pcr, .ref pho, .ref pce, .ref pse, .ref ppl, .int pen, .int psu, .int pnm, .int pkn, .int pfo]))]) [1] (by decide) rfl
  have hFc := va_free (wc := [(pa, .inr (4, [.ref pfl, .ref pcr, .ref pho, .ref pce, .ref pse, .ref ppl, .int pen, .int psu, .int pnm, .int pkn, .int pfo]))]) hD hS hA [1] rfl
  refine va_callv (va_runV (As := []) (rest := []) ⟨hx, hb, hml, hown, hg⟩ (c_pn_forget l D cZ cI cJ cII pa pfl pcr pho pce pse ppl pen psu pnm pkn pfo H.size ) (cwV 0 hg gv_mr_57 rfl rfl rfl (by decide +kernel) ⟨Nat.le_of_ble_eq_true rfl, Nat.le_of_ble_eq_true rfl⟩) ⟨mt_bl, va_recv (q0 := 1) (ci := 4) hK hP rfl rfl, mt_pr hX hPc hK hDc⟩ rfl rfl hl.1 rfl (lv_room (Nat.le_of_ble_eq_true rfl)) d_mr_clear_19 ⟨Nat.le_of_ble_eq_true rfl, Nat.le_of_ble_eq_true rfl⟩) hS (fun q _ h => hFc q h) hFc (fun u t H1 locs ht hvm hw hB hz1 hk1 hS => ?_)
  obtain ⟨hP1, hD1⟩ := hB
  rw [ht] at hP1
  obtain ⟨hP, hD⟩ := va_join (wr := [(ma, .inr (6, [.ref mfl, .ref ca, .ref pa, .ref mla, .ref mve])), (ca, .inr (0, [.ref cfl, .int 0, .ref cs, .ref cg, .ref cto, .ref cq, .ref cco, .ref cnx]))]) (w1 := [(pa, .inr (4, [.ref pfl, .ref pcr, .ref pho, .ref pce, .ref pse, .ref ppl, .int pen, .int psu, .int 0, .int 0, .int 0]))]) hP hD [1] [0, 2] rfl rfl (by decide) (by decide) hk1 hFc hP1 hD1
  generalize H1 = H at hP hS ⊢
  have hP : va_P D kls [(ma, .inr (6, [.ref mfl, .ref ca, .ref pa, .ref mla, .ref mve])), (ca, .inr (0, [.ref cfl, .int 0, .ref cs, .ref cg, .ref cto, .ref cq, .ref cco, .ref cnx])), (pa, .inr (4, [.ref pfl, .ref pcr, .ref pho, .ref pce, .ref pse, .ref ppl, .int pen, .int psu, .int 0, .int 0, .int 0]))] H := hP
  have hD : va_D A [(ma, .inr (6, [.ref mfl, .ref ca, .ref pa, .ref mla, .ref mve])), (ca, .inr (0, [.ref cfl, .int 0, .ref cs, .ref cg, .ref cto, .ref cq, .ref cco, .ref cnx])), (pa, .inr (4, [.ref pfl, .ref pcr, .ref pho, .ref pce, .ref pse, .ref ppl, .int pen, .int psu, .int 0, .int 0, .int 0]))] := hD
  refine lv_iload_n hx hb d_mr_clear_22 rfl (lv_at hl 0 rfl) ?_
  exact W.iret hx hb hr (fun t ht hW => ⟨⟨0, (), rfl, ⟨rfl, trivial⟩, trivial⟩, hS.F ht⟩) hS.2.2 d_mr_clear_23

set_option maxHeartbeats 4000000 in
set_option maxRecDepth 100000 in
theorem c_mr_distance (l : Launch) (D : va_G) (cZ cI cJ cII : ClassId) (ma : Nat) (mfl : Nat) (mpl : Nat) (mla : Nat) (mve : Nat) (ca : Nat) (cfl : Nat) (cs : Nat) (cg : Nat) (cto : Nat) (cq : Nat) (cco : Nat) (cnx : Nat) (x : Int32) (sz : Nat)  : Met l y_mr_distance w_mr_distance ({ frames := 1, cells := 0, slots := 0, locals := 40 }) (va_Pc [.ref ma, .int x] (mt_B D [(cZ, .boolean), (cI, .int), (cJ, .long), (cII, .array .int)] [(ma, .inr (6, [.ref mfl, .ref ca, .ref mpl, .ref mla, .ref mve])), (ca, .inr (0, [.ref cfl, .int 0, .ref cs, .ref cg, .ref cto, .ref cq, .ref cco, .ref cnx]))] sz)) (vp_Si (fun r : Int32 => r = -1)) 0 0 (fun _ => False) := by
  refine mt_ofR (by decide) (Nat.le_of_ble_eq_true rfl) ?_
  intro p e s m below meth c ls hx hb hr hlk hml hown hg hl hX hP hK hD
  have hown : s.vm.findClass R_mr = some m.cls := hown
  obtain ⟨H, hH⟩ : ∃ H : Heap, H = s.heap := ⟨_, rfl⟩
  rw [← hH] at hP ⊢
  have hl : lv_has ls 2 [(0, .ref ma), (1, .int x)] := hl
  refine lv_aload_n hx hb d_mr_distance_0 rfl (lv_at hl 0 rfl) ?_
  refine gf_mr_21 hx hb hg hown hK hP 0 rfl rfl d_mr_distance_1 ?_
  refine lv_iload_n hx hb d_mr_distance_4 rfl (lv_at hl 1 rfl) ?_
  have hPc := hP.sub (ws' := [(ca, .inr (0, [.ref cfl, .int 0, .ref cs, .ref cg, .ref cto, .ref cq, .ref cco, .ref cnx]))]) [1] rfl
  have hDc := hD.sub (ws' := [(ca, .inr (0, [.ref cfl, .int 0, .ref cs, .ref cg, .ref cto, .ref cq, .ref cco, .ref cnx]))]) [1] (by decide) rfl
  refine vp_callSi (W.runV (As := [.int x]) (rest := []) ⟨hx, hb, hml, hown, hg⟩ (c_cr_has l D cZ cI cJ cII ca cfl 0 cs cg cto cq cco cnx x H.size ) (cwV 1 hg gv_mr_84 rfl rfl rfl (by decide +kernel) ⟨Nat.le_of_ble_eq_true rfl, Nat.le_of_ble_eq_true rfl⟩) ⟨mt_bl, va_recv (q0 := 1) (ci := 0) hK hP rfl rfl, mt_pr hX hPc hK hDc⟩ rfl rfl hl.1 rfl (lv_room (Nat.le_of_ble_eq_true rfl)) d_mr_distance_5 ⟨Nat.le_of_ble_eq_true rfl, Nat.le_of_ble_eq_true rfl⟩) (fun r1 hr1 => ?_)
  have hr1 : (r1 = 1 ∧ ¬ x < 0 ∧ ¬ (0 : Int32) ≤ x) ∨ (r1 = 0 ∧ (x < 0 ∨ (0 : Int32) ≤ x)) := hr1
  have hr1 : r1 = 0 := hr1.elim (fun q => absurd (mt_nn q.2.1) q.2.2) (fun q => q.1)
  subst hr1
  refine lv_if_eq hx hb d_mr_distance_8 rfl (fun _ => ?_) (fun h => absurd (by decide) h)
  refine lv_iconst (v := (-1)) hx hb d_mr_distance_22 (by decide) ?_
  exact W.iret hx hb hr (fun t ht _ => ⟨(-1), rfl, rfl, ht.trans hH⟩) (fun _ h => absurd h List.not_mem_nil) d_mr_distance_23

set_option maxHeartbeats 4000000 in
set_option maxRecDepth 100000 in
theorem c_mr_ways (l : Launch) (D : va_G) (cZ cI cJ cII : ClassId) (ma : Nat) (mfl : Nat) (mpl : Nat) (mla : Nat) (mve : Nat) (ca : Nat) (cfl : Nat) (cs : Nat) (cg : Nat) (cto : Nat) (cq : Nat) (cco : Nat) (cnx : Nat) (x : Int32) (y : Int32) (sz : Nat)  : Met l y_mr_ways w_mr_ways ({ frames := 1, cells := 0, slots := 0, locals := 40 }) (va_Pc [.ref ma, .int x, .int y] (mt_B D [(cZ, .boolean), (cI, .int), (cJ, .long), (cII, .array .int)] [(ma, .inr (6, [.ref mfl, .ref ca, .ref mpl, .ref mla, .ref mve])), (ca, .inr (0, [.ref cfl, .int 0, .ref cs, .ref cg, .ref cto, .ref cq, .ref cco, .ref cnx]))] sz)) (vp_Sl (fun r : Int64 => r = -1)) 0 0 (fun _ => False) := by
  refine mt_ofR (by decide) (Nat.le_of_ble_eq_true rfl) ?_
  intro p e s m below meth c ls hx hb hr hlk hml hown hg hl hX hP hK hD
  have hown : s.vm.findClass R_mr = some m.cls := hown
  obtain ⟨H, hH⟩ : ∃ H : Heap, H = s.heap := ⟨_, rfl⟩
  rw [← hH] at hP ⊢
  have hl : lv_has ls 3 [(0, .ref ma), (1, .int x), (2, .int y)] := hl
  refine lv_aload_n hx hb d_mr_ways_0 rfl (lv_at hl 0 rfl) ?_
  refine gf_mr_21 hx hb hg hown hK hP 0 rfl rfl d_mr_ways_1 ?_
  refine lv_iload_n hx hb d_mr_ways_4 rfl (lv_at hl 1 rfl) ?_
  have hPc := hP.sub (ws' := [(ca, .inr (0, [.ref cfl, .int 0, .ref cs, .ref cg, .ref cto, .ref cq, .ref cco, .ref cnx]))]) [1] rfl
  have hDc := hD.sub (ws' := [(ca, .inr (0, [.ref cfl, .int 0, .ref cs, .ref cg, .ref cto, .ref cq, .ref cco, .ref cnx]))]) [1] (by decide) rfl
  refine vp_callSi (W.runV (As := [.int x]) (rest := []) ⟨hx, hb, hml, hown, hg⟩ (c_cr_has l D cZ cI cJ cII ca cfl 0 cs cg cto cq cco cnx x H.size ) (cwV 1 hg gv_mr_84 rfl rfl rfl (by decide +kernel) ⟨Nat.le_of_ble_eq_true rfl, Nat.le_of_ble_eq_true rfl⟩) ⟨mt_bl, va_recv (q0 := 1) (ci := 0) hK hP rfl rfl, mt_pr hX hPc hK hDc⟩ rfl rfl hl.1 rfl (lv_room (Nat.le_of_ble_eq_true rfl)) d_mr_ways_5 ⟨Nat.le_of_ble_eq_true rfl, Nat.le_of_ble_eq_true rfl⟩) (fun r1 hr1 => ?_)
  have hr1 : (r1 = 1 ∧ ¬ x < 0 ∧ ¬ (0 : Int32) ≤ x) ∨ (r1 = 0 ∧ (x < 0 ∨ (0 : Int32) ≤ x)) := hr1
  have hr1 : r1 = 0 := hr1.elim (fun q => absurd (mt_nn q.2.1) q.2.2) (fun q => q.1)
  subst hr1
  refine lv_if_eq hx hb d_mr_ways_8 rfl (fun _ => ?_) (fun h => absurd (by decide) h)
  refine lv_ldc2 hx hb hown (hg _ gx_mr_89) d_mr_ways_21 ?_
  exact W.lret hx hb hr (fun t ht _ => ⟨(-1), rfl, rfl, ht.trans hH⟩) (fun _ h => absurd h List.not_mem_nil) d_mr_ways_24

set_option maxHeartbeats 4000000 in
set_option maxRecDepth 100000 in
theorem c_mr_cost (l : Launch) (D : va_G) (cZ cI cJ cII : ClassId) (ma : Nat) (mfl : Nat) (mcr : Nat) (mla : Nat) (mve : Nat) (pa : Nat) (pfl : Nat) (pcr : Nat) (pho : Nat) (pce : Nat) (pse : Nat) (ppl : Nat) (pen : Int32) (psu : Int32) (pnm : Int32) (pkn : Int32) (x : Int32) (sz : Nat)  : Met l y_mr_cost w_mr_cost ({ frames := 0, cells := 0, slots := 0, locals := 0 }) (va_Pc [.ref ma, .int x] (mt_B D [(cZ, .boolean), (cI, .int), (cJ, .long), (cII, .array .int)] [(ma, .inr (6, [.ref mfl, .ref mcr, .ref pa, .ref mla, .ref mve])), (pa, .inr (4, [.ref pfl, .ref pcr, .ref pho, .ref pce, .ref pse, .ref ppl, .int pen, .int psu, .int pnm, .int pkn, .int 0]))] sz)) (vp_Si (fun r : Int32 => r = -1)) 0 0 (fun _ => False) := by
  refine mt_ofR (by decide) (Nat.le_of_ble_eq_true rfl) ?_
  intro p e s m below meth c ls hx hb hr hlk hml hown hg hl hX hP hK hD
  have hown : s.vm.findClass R_mr = some m.cls := hown
  obtain ⟨H, hH⟩ : ∃ H : Heap, H = s.heap := ⟨_, rfl⟩
  rw [← hH] at hP ⊢
  have hl : lv_has ls 2 [(0, .ref ma), (1, .int x)] := hl
  refine lv_aload_n hx hb d_mr_cost_0 rfl (lv_at hl 0 rfl) ?_
  refine gf_mr_30 hx hb hg hown hK hP 0 rfl rfl d_mr_cost_1 ?_
  refine gf_mr_98 hx hb hg hown hK hP 1 rfl rfl d_mr_cost_4 ?_
  refine lv_if_eq hx hb d_mr_cost_7 rfl (fun _ => ?_) (fun h => absurd (by decide) h)
  refine lv_iconst (v := (-1)) hx hb d_mr_cost_32 (by decide) ?_
  exact W.iret hx hb hr (fun t ht _ => ⟨(-1), rfl, rfl, ht.trans hH⟩) (fun _ h => absurd h List.not_mem_nil) d_mr_cost_33

set_option maxHeartbeats 4000000 in
set_option maxRecDepth 100000 in
theorem c_mr_at (l : Launch) (D : va_G) (cZ cI cJ cII : ClassId) (ma : Nat) (mfl : Nat) (mcr : Nat) (mla : Nat) (mve : Nat) (pa : Nat) (pfl : Nat) (pcr : Nat) (pho : Nat) (pce : Nat) (pse : Nat) (ppl : Nat) (pen : Int32) (psu : Int32) (pnm : Int32) (pkn : Int32) (x : Int32) (y : Int32) (sz : Nat)  : Met l y_mr_at w_mr_at ({ frames := 0, cells := 0, slots := 0, locals := 0 }) (va_Pc [.ref ma, .int x, .int y] (mt_B D [(cZ, .boolean), (cI, .int), (cJ, .long), (cII, .array .int)] [(ma, .inr (6, [.ref mfl, .ref mcr, .ref pa, .ref mla, .ref mve])), (pa, .inr (4, [.ref pfl, .ref pcr, .ref pho, .ref pce, .ref pse, .ref ppl, .int pen, .int psu, .int pnm, .int pkn, .int 0]))] sz)) (vp_Si (fun r : Int32 => r = -1)) 0 0 (fun _ => False) := by
  refine mt_ofR (by decide) (Nat.le_of_ble_eq_true rfl) ?_
  intro p e s m below meth c ls hx hb hr hlk hml hown hg hl hX hP hK hD
  have hown : s.vm.findClass R_mr = some m.cls := hown
  obtain ⟨H, hH⟩ : ∃ H : Heap, H = s.heap := ⟨_, rfl⟩
  rw [← hH] at hP ⊢
  have hl : lv_has ls 3 [(0, .ref ma), (1, .int x), (2, .int y)] := hl
  refine lv_aload_n hx hb d_mr_at_0 rfl (lv_at hl 0 rfl) ?_
  refine gf_mr_30 hx hb hg hown hK hP 0 rfl rfl d_mr_at_1 ?_
  refine gf_mr_98 hx hb hg hown hK hP 1 rfl rfl d_mr_at_4 ?_
  refine lv_if_eq hx hb d_mr_at_7 rfl (fun _ => ?_) (fun h => absurd (by decide) h)
  refine lv_iconst (v := (-1)) hx hb d_mr_at_37 (by decide) ?_
  exact W.iret hx hb hr (fun t ht _ => ⟨(-1), rfl, rfl, ht.trans hH⟩) (fun _ h => absurd h List.not_mem_nil) d_mr_at_38

set_option maxHeartbeats 4000000 in
set_option maxRecDepth 100000 in
theorem c_mr_solve (l : Launch) (D : va_G) (cZ cI cJ cII : ClassId) (ma : Nat) (mfl : Nat) (mcr : Nat) (mla : Nat) (mve : Nat) (pa : Nat) (pfl : Nat) (pce : Nat) (pse : Nat) (ppl : Nat) (pen : Int32) (psu : Int32) (pfo : Int32) (ca : Nat) (cfl : Nat) (cs : Nat) (cg : Nat) (cto : Nat) (cq : Nat) (cco : Nat) (cnx : Nat) (la : Nat) (lwo : Nat) (jf : Nat → Int64) (tf : Nat → Int32) (x : Int32) (sz : Nat)  : Met l y_mr_solve w_mr_solve ({ frames := 4, cells := 0, slots := 0, locals := 160 }) (va_Pc [.ref ma, .int x] (mt_B D [(cZ, .boolean), (cI, .int), (cJ, .long), (cII, .array .int)] [(ma, .inr (6, [.ref mfl, .ref mcr, .ref pa, .ref mla, .ref mve])), (pa, .inr (4, [.ref pfl, .ref ca, .ref la, .ref pce, .ref pse, .ref ppl, .int pen, .int psu, .int 0, .int 0, .int pfo])), (ca, .inr (0, [.ref cfl, .int 0, .ref cs, .ref cg, .ref cto, .ref cq, .ref cco, .ref cnx])), (la, .inr (3, [.ref lwo])), (lwo, .inl (cJ, 1296, .inr (.inl jf))), (pse, .inl (cI, 32, .inl tf))] sz)) ((fun A => va_Qi (fun (r : Int32) (u : Unit) => ((r = -1 ∧ (x < 0 ∨ ¬ x ≤ 6)) ∨ (r = 0 ∧ ¬ x < 0 ∧ x ≤ 6)) ∧ (True)) (fun (u : Unit) (t : State) => True) A) (va_A [(ma, .inr (6, [.ref mfl, .ref mcr, .ref pa, .ref mla, .ref mve])), (pa, .inr (4, [.ref pfl, .ref ca, .ref la, .ref pce, .ref pse, .ref ppl, .int pen, .int psu, .int 0, .int 0, .int pfo])), (ca, .inr (0, [.ref cfl, .int 0, .ref cs, .ref cg, .ref cto, .ref cq, .ref cco, .ref cnx])), (la, .inr (3, [.ref lwo])), (lwo, .inl (cJ, 1296, .inr (.inl jf))), (pse, .inl (cI, 32, .inl tf))] sz)) 0 0 (va_A [(ma, .inr (6, [.ref mfl, .ref mcr, .ref pa, .ref mla, .ref mve])), (pa, .inr (4, [.ref pfl, .ref ca, .ref la, .ref pce, .ref pse, .ref ppl, .int pen, .int psu, .int 0, .int 0, .int pfo])), (ca, .inr (0, [.ref cfl, .int 0, .ref cs, .ref cg, .ref cto, .ref cq, .ref cco, .ref cnx])), (la, .inr (3, [.ref lwo])), (lwo, .inl (cJ, 1296, .inr (.inl jf))), (pse, .inl (cI, 32, .inl tf))] sz) := by
  refine mt_of (y := y_mr_solve) (n := 2) (av := [.ref ma, .int x]) (QF := (fun A => va_Qi (fun (r : Int32) (u : Unit) => ((r = -1 ∧ (x < 0 ∨ ¬ x ≤ 6)) ∨ (r = 0 ∧ ¬ x < 0 ∧ x ≤ 6)) ∧ (True)) (fun (u : Unit) (t : State) => True) A)) (by decide) (Nat.le_of_ble_eq_true rfl) ?_
  intro p e s m below meth c ls A hx hb hr hlk hml hown hnm hg hl hX hP hK hD hA hS
  obtain ⟨H, hH⟩ : ∃ H : Heap, H = s.heap := ⟨_, rfl⟩
  have hS : va_S A s.heap H [] := by rw [hH]; exact va_S.rf
  rw [← hH] at hP ⊢
  have hown : s.vm.findClass R_mr = some m.cls := hown
  have hl : lv_has ls 2 [(0, .ref ma), (1, .int x)] := hl
  refine lv_iload_n hx hb d_mr_solve_0 rfl (lv_at hl 1 rfl) ?_
  refine lv_if_lt hx hb d_mr_solve_1 rfl (fun g1 => ?_) (fun g1 => ?_)
  ·
    refine lv_iconst (v := (-1)) hx hb d_mr_solve_10 (by decide) ?_
    exact W.iret hx hb hr (fun t ht hW => ⟨⟨(-1), (), rfl, ⟨Or.inl ⟨rfl, Or.inl g1⟩, trivial⟩, trivial⟩, hS.F ht⟩) hS.2.2 d_mr_solve_11
  ·
    refine lv_iload_n hx hb d_mr_solve_4 rfl (lv_at hl 1 rfl) ?_
    refine lv_bipush (v := 6) hx hb d_mr_solve_5 (by decide) ?_
    refine lv_icmp_le hx hb d_mr_solve_7 rfl (fun g2 => ?_) (fun g2 => ?_)
    ·
      refine lv_aload_n hx hb d_mr_solve_12 rfl (lv_at hl 0 rfl) ?_
      refine gf_mr_30 hx hb hg hown hK hP 0 rfl rfl d_mr_solve_13 ?_
      refine lv_iload_n hx hb d_mr_solve_16 rfl (lv_at hl 1 rfl) ?_
      have hPc := hP.sub (ws' := [(pa, .inr (4, [.ref pfl, .ref ca, .ref la, .ref pce, .ref pse, .ref ppl, .int pen, .int psu, .int 0, .int 0, .int pfo])), (ca, .inr (0, [.ref cfl, .int 0, .ref cs, .ref cg, .ref cto, .ref cq, .ref cco, .ref cnx])), (la, .inr (3, [.ref lwo])), (lwo, .inl (cJ, 1296, .inr (.inl jf))), (pse, .inl (cI, 32, .inl tf))]) [1, 2, 3, 4, 5] rfl
      have hDc := hD.sub (ws' := [(pa, .inr (4, [.ref pfl, .ref ca, .ref la, .ref pce, .ref pse, .ref ppl, .int pen, .int psu, .int 0, .int 0, .int pfo])), (ca, .inr (0, [.ref cfl, .int 0, .ref cs, .ref cg, .ref cto, .ref cq, .ref cco, .ref cnx])), (la, .inr (3, [.ref lwo])), (lwo, .inl (cJ, 1296, .inr (.inl jf))), (pse, .inl (cI, 32, .inl tf))]) [1, 2, 3, 4, 5] (by decide) rfl
      have hFc := va_free (wc := [(pa, .inr (4, [.ref pfl, .ref ca, .ref la, .ref pce, .ref pse, .ref ppl, .int pen, .int psu, .int 0, .int 0, .int pfo])), (ca, .inr (0, [.ref cfl, .int 0, .ref cs, .ref cg, .ref cto, .ref cq, .ref cco, .ref cnx])), (la, .inr (3, [.ref lwo])), (lwo, .inl (cJ, 1296, .inr (.inl jf))), (pse, .inl (cI, 32, .inl tf))]) hD hS hA [1, 2, 3, 4, 5] rfl
      refine va_calli (va_runV (As := [.int x]) (rest := []) ⟨hx, hb, hml, hown, hg⟩ (c_pn_find l D cZ cI cJ cII pa pfl pce pse ppl pen psu pfo ca cfl cs cg cto cq cco cnx la lwo jf tf x H.size g1) (cwV 1 hg gv_mr_95 rfl rfl rfl (by decide +kernel) ⟨Nat.le_of_ble_eq_true rfl, Nat.le_of_ble_eq_true rfl⟩) ⟨mt_bl, va_recv (q0 := 1) (ci := 4) hK hP rfl rfl, mt_pr hX hPc hK hDc⟩ rfl rfl hl.1 rfl (lv_room (Nat.le_of_ble_eq_true rfl)) d_mr_solve_17 ⟨Nat.le_of_ble_eq_true rfl, Nat.le_of_ble_eq_true rfl⟩) hS (fun q _ h => hFc q h) hFc (fun r1 u t H1 locs ht hvm hw hB hz1 hk1 hS => ?_)
      obtain ⟨jf12, rfl⟩ : ∃ z, z = u := ⟨_, rfl⟩
      obtain ⟨hr1, hwr1⟩ := hw
      have hr1 : r1 = 0 := hr1
      obtain ⟨hP1, hD1⟩ := hB
      rw [ht] at hP1
      obtain ⟨hP, hD⟩ := va_join (wr := [(ma, .inr (6, [.ref mfl, .ref mcr, .ref pa, .ref mla, .ref mve]))]) (w1 := [(pa, .inr (4, [.ref pfl, .ref ca, .ref la, .ref pce, .ref pse, .ref ppl, .int 0, .int 0, .int 1, .int 1, .int 1])), (ca, .inr (0, [.ref cfl, .int 0, .ref cs, .ref cg, .ref cto, .ref cq, .ref cco, .ref cnx])), (la, .inr (3, [.ref lwo])), (lwo, .inl (cJ, 1296, .inr (.inl jf12))), (pse, .inl (cI, 32, .inl (upd tf 0 0)))]) hP hD [1, 2, 3, 4, 5] [0] rfl rfl (by decide) (by decide) hk1 hFc hP1 hD1
      generalize H1 = H at hP hS ⊢
      have hP : va_P D kls [(ma, .inr (6, [.ref mfl, .ref mcr, .ref pa, .ref mla, .ref mve])), (pa, .inr (4, [.ref pfl, .ref ca, .ref la, .ref pce, .ref pse, .ref ppl, .int 0, .int 0, .int 1, .int 1, .int 1])), (ca, .inr (0, [.ref cfl, .int 0, .ref cs, .ref cg, .ref cto, .ref cq, .ref cco, .ref cnx])), (la, .inr (3, [.ref lwo])), (lwo, .inl (cJ, 1296, .inr (.inl jf12))), (pse, .inl (cI, 32, .inl (upd tf 0 0)))] H := hP
      have hD : va_D A [(ma, .inr (6, [.ref mfl, .ref mcr, .ref pa, .ref mla, .ref mve])), (pa, .inr (4, [.ref pfl, .ref ca, .ref la, .ref pce, .ref pse, .ref ppl, .int 0, .int 0, .int 1, .int 1, .int 1])), (ca, .inr (0, [.ref cfl, .int 0, .ref cs, .ref cg, .ref cto, .ref cq, .ref cco, .ref cnx])), (la, .inr (3, [.ref lwo])), (lwo, .inl (cJ, 1296, .inr (.inl jf12))), (pse, .inl (cI, 32, .inl (upd tf 0 0)))] := hD
      have hr1 : r1 = 0 := hr1
      subst hr1
      exact W.iret hx hb hr (fun t ht hW => ⟨⟨0, (), rfl, ⟨Or.inr ⟨rfl, g1, g2⟩, trivial⟩, trivial⟩, hS.F ht⟩) hS.2.2 d_mr_solve_20
    ·
      refine lv_iconst (v := (-1)) hx hb d_mr_solve_10 (by decide) ?_
      exact W.iret hx hb hr (fun t ht hW => ⟨⟨(-1), (), rfl, ⟨Or.inl ⟨rfl, Or.inr g2⟩, trivial⟩, trivial⟩, hS.F ht⟩) hS.2.2 d_mr_solve_11

set_option maxHeartbeats 4000000 in
set_option maxRecDepth 100000 in
theorem c_mr_lay (l : Launch) (D : va_G) (cZ cI cJ cII : ClassId) (ma : Nat) (mfl : Nat) (mcr : Nat) (mpl : Nat) (mve : Nat) (da : Nat) (dce : Nat) (dto : Nat) (dle : Nat) (rl : Nat → Nat) (of : Nat → Int32) (lf : Nat → Int32) (re : Nat → va_E) (x : Int32) (y : Int32) (ce : Int32) (sz : Nat) (hof : ∀ i, of i = 0) (hlf : ∀ i, lf i = 0) (hre : ∀ i, ∃ f : Nat → Int32, re i = .inl (cI, 30, .inl f)) : Met l y_mr_lay w_mr_lay ({ frames := 2, cells := 0, slots := 0, locals := 80 }) (va_Pc [.ref ma, .int x, .int y, .int ce] (mt_B D [(cZ, .boolean), (cI, .int), (cJ, .long), (cII, .array .int)] ([(ma, .inr (6, [.ref mfl, .ref mcr, .ref mpl, .ref da, .ref mve])), (da, .inr (2, [.ref dce, .ref dto, .ref dle])), (dce, .inl (cII, 6, .inr (.inr (.inr (.inr (fun i => if i < 6 then some (rl i) else none)))))), (dto, .inl (cI, 6, .inl of)), (dle, .inl (cI, 6, .inl lf))] ++ mt_rw 6 rl re) sz)) ((fun A => va_Qi (fun (r : Int32) (u : Unit) => (r = -1) ∧ (True)) (fun (u : Unit) (t : State) => True) A) (va_A ([(ma, .inr (6, [.ref mfl, .ref mcr, .ref mpl, .ref da, .ref mve])), (da, .inr (2, [.ref dce, .ref dto, .ref dle])), (dce, .inl (cII, 6, .inr (.inr (.inr (.inr (fun i => if i < 6 then some (rl i) else none)))))), (dto, .inl (cI, 6, .inl of)), (dle, .inl (cI, 6, .inl lf))] ++ mt_rw 6 rl re) sz)) 0 0 (va_A ([(ma, .inr (6, [.ref mfl, .ref mcr, .ref mpl, .ref da, .ref mve])), (da, .inr (2, [.ref dce, .ref dto, .ref dle])), (dce, .inl (cII, 6, .inr (.inr (.inr (.inr (fun i => if i < 6 then some (rl i) else none)))))), (dto, .inl (cI, 6, .inl of)), (dle, .inl (cI, 6, .inl lf))] ++ mt_rw 6 rl re) sz) := by
  refine mt_of (y := y_mr_lay) (n := 4) (av := [.ref ma, .int x, .int y, .int ce]) (QF := (fun A => va_Qi (fun (r : Int32) (u : Unit) => (r = -1) ∧ (True)) (fun (u : Unit) (t : State) => True) A)) (by decide) (Nat.le_of_ble_eq_true rfl) ?_
  intro p e s m below meth c ls A hx hb hr hlk hml hown hnm hg hl hX hP hK hD hA hS
  obtain ⟨H, hH⟩ : ∃ H : Heap, H = s.heap := ⟨_, rfl⟩
  have hS : va_S A s.heap H [] := by rw [hH]; exact va_S.rf
  rw [← hH] at hP ⊢
  have hown : s.vm.findClass R_mr = some m.cls := hown
  have hl : lv_has ls 4 [(0, .ref ma), (1, .int x), (2, .int y), (3, .int ce)] := hl
  refine lv_iload_n hx hb d_mr_lay_0 rfl (lv_at hl 1 rfl) ?_
  refine lv_if_lt hx hb d_mr_lay_1 rfl (fun g1 => ?_) (fun g1 => ?_)
  ·
    refine lv_iconst (v := (-1)) hx hb d_mr_lay_20 (by decide) ?_
    exact W.iret hx hb hr (fun t ht hW => ⟨⟨(-1), (), rfl, ⟨rfl, trivial⟩, trivial⟩, hS.F ht⟩) hS.2.2 d_mr_lay_21
  ·
    refine lv_iload_n hx hb d_mr_lay_4 rfl (lv_at hl 1 rfl) ?_
    refine lv_bipush (v := 6) hx hb d_mr_lay_5 (by decide) ?_
    refine lv_icmp_ge hx hb d_mr_lay_7 rfl (fun g2 => ?_) (fun g2 => ?_)
    ·
      refine lv_iconst (v := (-1)) hx hb d_mr_lay_20 (by decide) ?_
      exact W.iret hx hb hr (fun t ht hW => ⟨⟨(-1), (), rfl, ⟨rfl, trivial⟩, trivial⟩, hS.F ht⟩) hS.2.2 d_mr_lay_21
    ·
      refine lv_iload_n hx hb d_mr_lay_10 rfl (lv_at hl 2 rfl) ?_
      refine lv_if_lt hx hb d_mr_lay_11 rfl (fun g3 => ?_) (fun g3 => ?_)
      ·
        refine lv_iconst (v := (-1)) hx hb d_mr_lay_20 (by decide) ?_
        exact W.iret hx hb hr (fun t ht hW => ⟨⟨(-1), (), rfl, ⟨rfl, trivial⟩, trivial⟩, hS.F ht⟩) hS.2.2 d_mr_lay_21
      ·
        refine lv_iload_n hx hb d_mr_lay_14 rfl (lv_at hl 2 rfl) ?_
        refine lv_bipush (v := 30) hx hb d_mr_lay_15 (by decide) ?_
        refine lv_icmp_lt hx hb d_mr_lay_17 rfl (fun g4 => ?_) (fun g4 => ?_)
        ·
          obtain ⟨k, hk, rfl⟩ := mt_rng (n := 6) (by decide) g1 (Int32.not_le.mp g2)
          obtain ⟨tt, htt, rfl⟩ := mt_rng (n := 30) (by decide) g3 g4
          have hl : lv_has ls 4 [(0, .ref ma), (1, .int (nI k)), (2, .int (nI tt)), (3, .int ce)] := hl
          refine lv_aload_n hx hb d_mr_lay_22 rfl (lv_at hl 0 rfl) ?_
          refine gf_mr_37 hx hb hg hown hK hP 0 rfl rfl d_mr_lay_23 ?_
          refine lv_iload_n hx hb d_mr_lay_26 rfl (lv_at hl 1 rfl) ?_
          refine lv_iload_n hx hb d_mr_lay_27 rfl (lv_at hl 2 rfl) ?_
          refine lv_iload_n hx hb d_mr_lay_28 rfl (lv_at hl 3 rfl) ?_
          have hPc := hP.sub (ws' := ([(da, .inr (2, [.ref dce, .ref dto, .ref dle])), (dce, .inl (cII, 6, .inr (.inr (.inr (.inr (fun i => if i < 6 then some (rl i) else none)))))), (dto, .inl (cI, 6, .inl of)), (dle, .inl (cI, 6, .inl lf))] ++ mt_rw 6 rl re)) [1, 2, 3, 4, 5, 6, 7, 8, 9, 10] rfl
          have hDc := hD.sub (ws' := ([(da, .inr (2, [.ref dce, .ref dto, .ref dle])), (dce, .inl (cII, 6, .inr (.inr (.inr (.inr (fun i => if i < 6 then some (rl i) else none)))))), (dto, .inl (cI, 6, .inl of)), (dle, .inl (cI, 6, .inl lf))] ++ mt_rw 6 rl re)) [1, 2, 3, 4, 5, 6, 7, 8, 9, 10] (by decide) rfl
          have hFc := va_free (wc := ([(da, .inr (2, [.ref dce, .ref dto, .ref dle])), (dce, .inl (cII, 6, .inr (.inr (.inr (.inr (fun i => if i < 6 then some (rl i) else none)))))), (dto, .inl (cI, 6, .inl of)), (dle, .inl (cI, 6, .inl lf))] ++ mt_rw 6 rl re)) hD hS hA [1, 2, 3, 4, 5, 6, 7, 8, 9, 10] rfl
          refine va_calli (va_runV (As := [.int (nI k), .int (nI tt), .int ce]) (rest := []) ⟨hx, hb, hml, hown, hg⟩ (c_ld_tell l D cZ cI cJ cII da dce dto dle rl of lf re k tt ce H.size hk htt (hof k) (by rw [hlf, nI_0]) (hre k)) (cwV 3 hg gv_mr_108 rfl rfl rfl (by decide +kernel) ⟨Nat.le_of_ble_eq_true rfl, Nat.le_of_ble_eq_true rfl⟩) ⟨mt_bl, va_recv (q0 := 1) (ci := 2) hK hP rfl rfl, mt_pr hX hPc hK hDc⟩ rfl rfl hl.1 rfl (lv_room (Nat.le_of_ble_eq_true rfl)) d_mr_lay_29 ⟨Nat.le_of_ble_eq_true rfl, Nat.le_of_ble_eq_true rfl⟩) hS (fun q _ h => hFc q h) hFc (fun r1 u t H1 locs ht hvm hw hB hz1 hk1 hS => ?_)
          obtain ⟨hr1, hwr1⟩ := hw
          have hr1 : r1 = -1 := hr1
          have hr1 : r1 = (-1) := hr1
          subst hr1
          exact W.iret hx hb hr (fun t ht hW => ⟨⟨(-1), (), rfl, ⟨rfl, trivial⟩, trivial⟩, hS.F ht⟩) hS.2.2 d_mr_lay_32
        ·
          refine lv_iconst (v := (-1)) hx hb d_mr_lay_20 (by decide) ?_
          exact W.iret hx hb hr (fun t ht hW => ⟨⟨(-1), (), rfl, ⟨rfl, trivial⟩, trivial⟩, hS.F ht⟩) hS.2.2 d_mr_lay_21

set_option maxHeartbeats 4000000 in
set_option maxRecDepth 100000 in
theorem c_mr_judge (l : Launch) (D : va_G) (cZ cI cJ cII : ClassId) (ma : Nat) (mfl : Nat) (mcr : Nat) (mpl : Nat) (mla : Nat) (ea : Nat) (efl : Nat) (ela : Nat) (eso : Int32) (eti : Int32) (eles : Int32) (egr : Int32) (ca : Nat) (cfl : Nat) (cs : Nat) (cg : Nat) (cto : Nat) (cq : Nat) (cco : Nat) (cnx : Nat) (x : Int32) (sz : Nat)  : Met l y_mr_judge w_mr_judge ({ frames := 2, cells := 0, slots := 0, locals := 80 }) (va_Pc [.ref ma, .int x] (mt_B D [(cZ, .boolean), (cI, .int), (cJ, .long), (cII, .array .int)] [(ma, .inr (6, [.ref mfl, .ref mcr, .ref mpl, .ref mla, .ref ea])), (ea, .inr (5, [.ref efl, .ref ca, .ref ela, .int eso, .int eti, .int eles, .int egr])), (ca, .inr (0, [.ref cfl, .int 0, .ref cs, .ref cg, .ref cto, .ref cq, .ref cco, .ref cnx]))] sz)) ((fun A => va_Qi (fun (r : Int32) (u : Unit) => ((r = 0 ∧ x = 0) ∨ (r = -1 ∧ ¬ x = 0)) ∧ (True)) (fun (u : Unit) (t : State) => True) A) (va_A [(ma, .inr (6, [.ref mfl, .ref mcr, .ref mpl, .ref mla, .ref ea])), (ea, .inr (5, [.ref efl, .ref ca, .ref ela, .int eso, .int eti, .int eles, .int egr])), (ca, .inr (0, [.ref cfl, .int 0, .ref cs, .ref cg, .ref cto, .ref cq, .ref cco, .ref cnx]))] sz)) 0 0 (va_A [(ma, .inr (6, [.ref mfl, .ref mcr, .ref mpl, .ref mla, .ref ea])), (ea, .inr (5, [.ref efl, .ref ca, .ref ela, .int eso, .int eti, .int eles, .int egr])), (ca, .inr (0, [.ref cfl, .int 0, .ref cs, .ref cg, .ref cto, .ref cq, .ref cco, .ref cnx]))] sz) := by
  refine mt_of (y := y_mr_judge) (n := 2) (av := [.ref ma, .int x]) (QF := (fun A => va_Qi (fun (r : Int32) (u : Unit) => ((r = 0 ∧ x = 0) ∨ (r = -1 ∧ ¬ x = 0)) ∧ (True)) (fun (u : Unit) (t : State) => True) A)) (by decide) (Nat.le_of_ble_eq_true rfl) ?_
  intro p e s m below meth c ls A hx hb hr hlk hml hown hnm hg hl hX hP hK hD hA hS
  obtain ⟨H, hH⟩ : ∃ H : Heap, H = s.heap := ⟨_, rfl⟩
  have hS : va_S A s.heap H [] := by rw [hH]; exact va_S.rf
  rw [← hH] at hP ⊢
  have hown : s.vm.findClass R_mr = some m.cls := hown
  have hl : lv_has ls 2 [(0, .ref ma), (1, .int x)] := hl
  refine lv_iload_n hx hb d_mr_judge_0 rfl (lv_at hl 1 rfl) ?_
  refine lv_if_lt hx hb d_mr_judge_1 rfl (fun g1 => ?_) (fun g1 => ?_)
  ·
    refine lv_iconst (v := (-1)) hx hb d_mr_judge_9 (by decide) ?_
    exact W.iret hx hb hr (fun t ht hW => ⟨⟨(-1), (), rfl, ⟨Or.inr ⟨rfl, fun q => absurd g1 (by rw [q]; decide)⟩, trivial⟩, trivial⟩, hS.F ht⟩) hS.2.2 d_mr_judge_10
  ·
    refine lv_iload_n hx hb d_mr_judge_4 rfl (lv_at hl 1 rfl) ?_
    refine lv_iconst (v := 3) hx hb d_mr_judge_5 (by decide) ?_
    refine lv_icmp_le hx hb d_mr_judge_6 rfl (fun g2 => ?_) (fun g2 => ?_)
    ·
      refine lv_aload_n hx hb d_mr_judge_11 rfl (lv_at hl 0 rfl) ?_
      refine gf_mr_46 hx hb hg hown hK hP 0 rfl rfl d_mr_judge_12 ?_
      have hPc := hP.sub (ws' := [(ea, .inr (5, [.ref efl, .ref ca, .ref ela, .int eso, .int eti, .int eles, .int egr])), (ca, .inr (0, [.ref cfl, .int 0, .ref cs, .ref cg, .ref cto, .ref cq, .ref cco, .ref cnx]))]) [1, 2] rfl
      have hDc := hD.sub (ws' := [(ea, .inr (5, [.ref efl, .ref ca, .ref ela, .int eso, .int eti, .int eles, .int egr])), (ca, .inr (0, [.ref cfl, .int 0, .ref cs, .ref cg, .ref cto, .ref cq, .ref cco, .ref cnx]))]) [1, 2] (by decide) rfl
      have hFc := va_free (wc := [(ea, .inr (5, [.ref efl, .ref ca, .ref ela, .int eso, .int eti, .int eles, .int egr])), (ca, .inr (0, [.ref cfl, .int 0, .ref cs, .ref cg, .ref cto, .ref cq, .ref cco, .ref cnx]))]) hD hS hA [1, 2] rfl
      refine va_callv (va_runV (As := []) (rest := []) ⟨hx, hb, hml, hown, hg⟩ (c_vd_seek l D cZ cI cJ cII ea efl ela eso eti eles egr ca cfl cs cg cto cq cco cnx H.size ) (cwV 0 hg gv_mr_112 rfl rfl rfl (by decide +kernel) ⟨Nat.le_of_ble_eq_true rfl, Nat.le_of_ble_eq_true rfl⟩) ⟨mt_bl, va_recv (q0 := 1) (ci := 5) hK hP rfl rfl, mt_pr hX hPc hK hDc⟩ rfl rfl hl.1 rfl (lv_room (Nat.le_of_ble_eq_true rfl)) d_mr_judge_15 ⟨Nat.le_of_ble_eq_true rfl, Nat.le_of_ble_eq_true rfl⟩) hS (fun q _ h => hFc q h) hFc (fun u t H1 locs ht hvm hw hB hz1 hk1 hS => ?_)
      obtain ⟨hP1, hD1⟩ := hB
      rw [ht] at hP1
      obtain ⟨hP, hD⟩ := va_join (wr := [(ma, .inr (6, [.ref mfl, .ref mcr, .ref mpl, .ref mla, .ref ea]))]) (w1 := [(ea, .inr (5, [.ref efl, .ref ca, .ref ela, .int 0, .int (-1), .int (-1), .int (-1)])), (ca, .inr (0, [.ref cfl, .int 0, .ref cs, .ref cg, .ref cto, .ref cq, .ref cco, .ref cnx]))]) hP hD [1, 2] [0] rfl rfl (by decide) (by decide) hk1 hFc hP1 hD1
      generalize H1 = H at hP hS ⊢
      have hP : va_P D kls [(ma, .inr (6, [.ref mfl, .ref mcr, .ref mpl, .ref mla, .ref ea])), (ea, .inr (5, [.ref efl, .ref ca, .ref ela, .int 0, .int (-1), .int (-1), .int (-1)])), (ca, .inr (0, [.ref cfl, .int 0, .ref cs, .ref cg, .ref cto, .ref cq, .ref cco, .ref cnx]))] H := hP
      have hD : va_D A [(ma, .inr (6, [.ref mfl, .ref mcr, .ref mpl, .ref mla, .ref ea])), (ea, .inr (5, [.ref efl, .ref ca, .ref ela, .int 0, .int (-1), .int (-1), .int (-1)])), (ca, .inr (0, [.ref cfl, .int 0, .ref cs, .ref cg, .ref cto, .ref cq, .ref cco, .ref cnx]))] := hD
      refine lv_iload_n hx hb d_mr_judge_18 rfl (lv_at hl 1 rfl) ?_
      obtain ⟨j, hj, rfl⟩ := mt_rng (n := 4) (by decide) g1 (show x < nI 4 from Int32.lt_of_le_of_lt g2 (by decide))
      rcases (show j = 0 ∨ j = 1 ∨ j = 2 ∨ j = 3 by omega) with rfl | rfl | rfl | rfl
      ·
        refine lv_tableIn hx hb d_mr_judge_19 (by decide) (by decide) (off := 25) (tgt := 44) rfl rfl ?_
        refine lv_aload_n hx hb d_mr_judge_44 rfl (lv_at hl 0 rfl) ?_
        refine gf_mr_46 hx hb hg hown hK hP 0 rfl rfl d_mr_judge_45 ?_
        refine gf_mr_115 hx hb hg hown hK hP 1 rfl rfl d_mr_judge_48 ?_
        exact W.iret hx hb hr (fun t ht hW => ⟨⟨0, (), rfl, ⟨Or.inl ⟨rfl, rfl⟩, trivial⟩, trivial⟩, hS.F ht⟩) hS.2.2 d_mr_judge_51
      ·
        refine lv_tableIn hx hb d_mr_judge_19 (by decide) (by decide) (off := 33) (tgt := 52) rfl rfl ?_
        refine lv_aload_n hx hb d_mr_judge_52 rfl (lv_at hl 0 rfl) ?_
        refine gf_mr_46 hx hb hg hown hK hP 0 rfl rfl d_mr_judge_53 ?_
        refine gf_mr_118 hx hb hg hown hK hP 1 rfl rfl d_mr_judge_56 ?_
        exact W.iret hx hb hr (fun t ht hW => ⟨⟨(-1), (), rfl, ⟨Or.inr ⟨rfl, by decide⟩, trivial⟩, trivial⟩, hS.F ht⟩) hS.2.2 d_mr_judge_59
      ·
        refine lv_tableIn hx hb d_mr_judge_19 (by decide) (by decide) (off := 41) (tgt := 60) rfl rfl ?_
        refine lv_aload_n hx hb d_mr_judge_60 rfl (lv_at hl 0 rfl) ?_
        refine gf_mr_46 hx hb hg hown hK hP 0 rfl rfl d_mr_judge_61 ?_
        refine gf_mr_121 hx hb hg hown hK hP 1 rfl rfl d_mr_judge_64 ?_
        exact W.iret hx hb hr (fun t ht hW => ⟨⟨(-1), (), rfl, ⟨Or.inr ⟨rfl, by decide⟩, trivial⟩, trivial⟩, hS.F ht⟩) hS.2.2 d_mr_judge_67
      ·
        refine lv_tableOut hx hb d_mr_judge_19 (Or.inr (by decide)) (tgt := 68) rfl ?_
        refine lv_aload_n hx hb d_mr_judge_68 rfl (lv_at hl 0 rfl) ?_
        refine gf_mr_46 hx hb hg hown hK hP 0 rfl rfl d_mr_judge_69 ?_
        refine gf_mr_124 hx hb hg hown hK hP 1 rfl rfl d_mr_judge_72 ?_
        exact W.iret hx hb hr (fun t ht hW => ⟨⟨(-1), (), rfl, ⟨Or.inr ⟨rfl, by decide⟩, trivial⟩, trivial⟩, hS.F ht⟩) hS.2.2 d_mr_judge_75
    ·
      refine lv_iconst (v := (-1)) hx hb d_mr_judge_9 (by decide) ?_
      exact W.iret hx hb hr (fun t ht hW => ⟨⟨(-1), (), rfl, ⟨Or.inr ⟨rfl, fun q => g2 (by rw [q]; decide)⟩, trivial⟩, trivial⟩, hS.F ht⟩) hS.2.2 d_mr_judge_10

set_option maxHeartbeats 4000000 in
set_option maxRecDepth 100000 in
theorem c_mr_wall (l : Launch) (D : va_G) (cZ cI cJ cII : ClassId) (ma : Nat) (mla : Nat) (mve : Nat) (ca : Nat) (cfl : Nat) (cn : Int32) (cs : Nat) (cg : Nat) (cto : Nat) (cq : Nat) (cco : Nat) (cnx : Nat) (pa : Nat) (pfl : Nat) (pcr : Nat) (pho : Nat) (pce : Nat) (pse : Nat) (ppl : Nat) (pen : Int32) (psu : Int32) (pnm : Int32) (pkn : Int32) (pfo : Int32) (fa : Nat) (wa : Nat) (fc : Int32) (ra : Nat) (sa : Nat) (ta : Nat) (wf : Nat → Int32) (rf : Nat → Int32) (sf : Nat → Int32) (rr : Nat → Nat) (re : Nat → va_E) (x : Int32) (sz : Nat) (hw0 : wf 0 = 0) (hre : mt_r5 cI re) : Met l y_mr_wall w_mr_wall ({ frames := 6, cells := 0, slots := 0, locals := 240 }) (va_Pc [.ref ma, .int x] (mt_B D [(cZ, .boolean), (cI, .int), (cJ, .long), (cII, .array .int)] ([(ma, .inr (6, [.ref fa, .ref ca, .ref pa, .ref mla, .ref mve])), (ca, .inr (0, [.ref cfl, .int cn, .ref cs, .ref cg, .ref cto, .ref cq, .ref cco, .ref cnx])), (pa, .inr (4, [.ref pfl, .ref pcr, .ref pho, .ref pce, .ref pse, .ref ppl, .int pen, .int psu, .int pnm, .int pkn, .int pfo])), (fa, .inr (1, [.int 1, .int 1, .ref wa, .int fc, .ref ra, .ref sa, .ref ta])), (wa, .inl (cZ, 25, .inl wf)), (ra, .inl (cI, 25, .inl rf)), (sa, .inl (cI, 25, .inl sf)), (ta, .inl (cII, 25, .inr (.inr (.inr (.inr (fun i => if i < 25 then some (rr i) else none))))))] ++ mt_rw 25 rr re) sz)) ((fun A => va_Qi (fun (r : Int32) (u : Unit) => ((r = -1 ∧ (x < 0 ∨ (1 : Int32) * 1 ≤ x)) ∨ (r = 1 ∧ ¬ x < 0 ∧ ¬ (1 : Int32) * 1 ≤ x)) ∧ (True)) (fun (u : Unit) (t : State) => True) A) (va_A ([(ma, .inr (6, [.ref fa, .ref ca, .ref pa, .ref mla, .ref mve])), (ca, .inr (0, [.ref cfl, .int cn, .ref cs, .ref cg, .ref cto, .ref cq, .ref cco, .ref cnx])), (pa, .inr (4, [.ref pfl, .ref pcr, .ref pho, .ref pce, .ref pse, .ref ppl, .int pen, .int psu, .int pnm, .int pkn, .int pfo])), (fa, .inr (1, [.int 1, .int 1, .ref wa, .int fc, .ref ra, .ref sa, .ref ta])), (wa, .inl (cZ, 25, .inl wf)), (ra, .inl (cI, 25, .inl rf)), (sa, .inl (cI, 25, .inl sf)), (ta, .inl (cII, 25, .inr (.inr (.inr (.inr (fun i => if i < 25 then some (rr i) else none))))))] ++ mt_rw 25 rr re) sz)) 0 0 (va_A ([(ma, .inr (6, [.ref fa, .ref ca, .ref pa, .ref mla, .ref mve])), (ca, .inr (0, [.ref cfl, .int cn, .ref cs, .ref cg, .ref cto, .ref cq, .ref cco, .ref cnx])), (pa, .inr (4, [.ref pfl, .ref pcr, .ref pho, .ref pce, .ref pse, .ref ppl, .int pen, .int psu, .int pnm, .int pkn, .int pfo])), (fa, .inr (1, [.int 1, .int 1, .ref wa, .int fc, .ref ra, .ref sa, .ref ta])), (wa, .inl (cZ, 25, .inl wf)), (ra, .inl (cI, 25, .inl rf)), (sa, .inl (cI, 25, .inl sf)), (ta, .inl (cII, 25, .inr (.inr (.inr (.inr (fun i => if i < 25 then some (rr i) else none))))))] ++ mt_rw 25 rr re) sz) := by
  refine mt_of (y := y_mr_wall) (n := 2) (av := [.ref ma, .int x]) (QF := (fun A => va_Qi (fun (r : Int32) (u : Unit) => ((r = -1 ∧ (x < 0 ∨ (1 : Int32) * 1 ≤ x)) ∨ (r = 1 ∧ ¬ x < 0 ∧ ¬ (1 : Int32) * 1 ≤ x)) ∧ (True)) (fun (u : Unit) (t : State) => True) A)) (by decide) (Nat.le_of_ble_eq_true rfl) ?_
  intro p e s m below meth c ls A hx hb hr hlk hml hown hnm hg hl hX hP hK hD hA hS
  obtain ⟨H, hH⟩ : ∃ H : Heap, H = s.heap := ⟨_, rfl⟩
  have hS : va_S A s.heap H [] := by rw [hH]; exact va_S.rf
  rw [← hH] at hP ⊢
  have hown : s.vm.findClass R_mr = some m.cls := hown
  have hl : lv_has ls 2 [(0, .ref ma), (1, .int x)] := hl
  refine lv_aload_n hx hb d_mr_wall_0 rfl (lv_at hl 0 rfl) ?_
  refine gf_mr_12 hx hb hg hown hK hP 0 rfl rfl d_mr_wall_1 ?_
  refine lv_iload_n hx hb d_mr_wall_4 rfl (lv_at hl 1 rfl) ?_
  have hPc := hP.sub (ws' := [(fa, .inr (1, [.int 1, .int 1, .ref wa, .int fc, .ref ra, .ref sa, .ref ta]))]) [3] rfl
  have hDc := hD.sub (ws' := [(fa, .inr (1, [.int 1, .int 1, .ref wa, .int fc, .ref ra, .ref sa, .ref ta]))]) [3] (by decide) rfl
  refine vp_callSi (W.runV (As := [.int x]) (rest := []) ⟨hx, hb, hml, hown, hg⟩ (c_fl_has l D cZ cI cJ cII fa 1 1 wa fc ra sa ta x H.size ) (cwV 1 hg gv_mr_61 rfl rfl rfl (by decide +kernel) ⟨Nat.le_of_ble_eq_true rfl, Nat.le_of_ble_eq_true rfl⟩) ⟨mt_bl, va_recv (q0 := 3) (ci := 1) hK hP rfl rfl, mt_pr hX hPc hK hDc⟩ rfl rfl hl.1 rfl (lv_room (Nat.le_of_ble_eq_true rfl)) d_mr_wall_5 ⟨Nat.le_of_ble_eq_true rfl, Nat.le_of_ble_eq_true rfl⟩) (fun r1 hr1 => ?_)
  have hr1 : (r1 = 1 ∧ ¬ x < 0 ∧ ¬ (1 : Int32) * (1 : Int32) ≤ x) ∨ (r1 = 0 ∧ (x < 0 ∨ (1 : Int32) * (1 : Int32) ≤ x)) := hr1
  refine lv_if_ne hx hb d_mr_wall_8 rfl (fun g1 => ?_) (fun g1 => ?_)
  ·
    have g3 : ¬ x < 0 ∧ ¬ (1 : Int32) * 1 ≤ x := hr1.elim (fun q => q.2) (fun q => absurd q.1 g1)
    obtain rfl : x = 0 := mt_one g3.1 g3.2
    have hl : lv_has ls 2 [(0, .ref ma), (1, .int 0)] := hl
    refine lv_aload_n hx hb d_mr_wall_13 rfl (lv_at hl 0 rfl) ?_
    refine gf_mr_12 hx hb hg hown hK hP 0 rfl rfl d_mr_wall_14 ?_
    refine lv_iload_n hx hb d_mr_wall_17 rfl (lv_at hl 1 rfl) ?_
    have hPc := hP.sub (ws' := ([(fa, .inr (1, [.int 1, .int 1, .ref wa, .int fc, .ref ra, .ref sa, .ref ta])), (wa, .inl (cZ, 25, .inl wf)), (ra, .inl (cI, 25, .inl rf)), (sa, .inl (cI, 25, .inl sf)), (ta, .inl (cII, 25, .inr (.inr (.inr (.inr (fun i => if i < 25 then some (rr i) else none))))))] ++ mt_rw 25 rr re)) [3, 4, 5, 6, 7, 8, 9, 10, 11, 12, 13, 14, 15, 16, 17, 18, 19, 20, 21, 22, 23, 24, 25, 26, 27, 28, 29, 30, 31, 32] rfl
    have hDc := hD.sub (ws' := ([(fa, .inr (1, [.int 1, .int 1, .ref wa, .int fc, .ref ra, .ref sa, .ref ta])), (wa, .inl (cZ, 25, .inl wf)), (ra, .inl (cI, 25, .inl rf)), (sa, .inl (cI, 25, .inl sf)), (ta, .inl (cII, 25, .inr (.inr (.inr (.inr (fun i => if i < 25 then some (rr i) else none))))))] ++ mt_rw 25 rr re)) [3, 4, 5, 6, 7, 8, 9, 10, 11, 12, 13, 14, 15, 16, 17, 18, 19, 20, 21, 22, 23, 24, 25, 26, 27, 28, 29, 30, 31, 32] (by decide) rfl
    have hFc := va_free (wc := ([(fa, .inr (1, [.int 1, .int 1, .ref wa, .int fc, .ref ra, .ref sa, .ref ta])), (wa, .inl (cZ, 25, .inl wf)), (ra, .inl (cI, 25, .inl rf)), (sa, .inl (cI, 25, .inl sf)), (ta, .inl (cII, 25, .inr (.inr (.inr (.inr (fun i => if i < 25 then some (rr i) else none))))))] ++ mt_rw 25 rr re)) hD hS hA [3, 4, 5, 6, 7, 8, 9, 10, 11, 12, 13, 14, 15, 16, 17, 18, 19, 20, 21, 22, 23, 24, 25, 26, 27, 28, 29, 30, 31, 32] rfl
    refine va_callv (va_runV (As := [.int 0]) (rest := []) ⟨hx, hb, hml, hown, hg⟩ (c_fl_turn l D cZ cI cJ cII fa wa fc ra sa ta wf rf sf rr re H.size hw0 hre) (cwV 1 hg gv_mr_65 rfl rfl rfl (by decide +kernel) ⟨Nat.le_of_ble_eq_true rfl, Nat.le_of_ble_eq_true rfl⟩) ⟨mt_bl, va_recv (q0 := 3) (ci := 1) hK hP rfl rfl, mt_pr hX hPc hK hDc⟩ rfl rfl hl.1 rfl (lv_room (Nat.le_of_ble_eq_true rfl)) d_mr_wall_18 ⟨Nat.le_of_ble_eq_true rfl, Nat.le_of_ble_eq_true rfl⟩) hS (fun q _ h => hFc q h) hFc (fun u t H1 locs ht hvm hw hB hz1 hk1 hS => ?_)
    obtain ⟨fc13, rf14, sf15, re16⟩ := u
    obtain ⟨hP1, hD1⟩ := hB
    rw [ht] at hP1
    obtain ⟨hP, hD⟩ := va_join (wr := [(ma, .inr (6, [.ref fa, .ref ca, .ref pa, .ref mla, .ref mve])), (ca, .inr (0, [.ref cfl, .int cn, .ref cs, .ref cg, .ref cto, .ref cq, .ref cco, .ref cnx])), (pa, .inr (4, [.ref pfl, .ref pcr, .ref pho, .ref pce, .ref pse, .ref ppl, .int pen, .int psu, .int pnm, .int pkn, .int pfo]))]) (w1 := ([(fa, .inr (1, [.int 1, .int 1, .ref wa, .int fc13, .ref ra, .ref sa, .ref ta])), (wa, .inl (cZ, 25, .inl (upd wf 0 1))), (ra, .inl (cI, 25, .inl rf14)), (sa, .inl (cI, 25, .inl sf15)), (ta, .inl (cII, 25, .inr (.inr (.inr (.inr (fun i => if i < 25 then some (rr i) else none))))))] ++ mt_rw 25 rr re16)) hP hD [3, 4, 5, 6, 7, 8, 9, 10, 11, 12, 13, 14, 15, 16, 17, 18, 19, 20, 21, 22, 23, 24, 25, 26, 27, 28, 29, 30, 31, 32] [0, 1, 2] rfl rfl (by decide) (by decide) hk1 hFc hP1 hD1
    generalize H1 = H at hP hS ⊢
    have hP : va_P D kls ([(ma, .inr (6, [.ref fa, .ref ca, .ref pa, .ref mla, .ref mve])), (ca, .inr (0, [.ref cfl, .int cn, .ref cs, .ref cg, .ref cto, .ref cq, .ref cco, .ref cnx])), (pa, .inr (4, [.ref pfl, .ref pcr, .ref pho, .ref pce, .ref pse, .ref ppl, .int pen, .int psu, .int pnm, .int pkn, .int pfo])), (fa, .inr (1, [.int 1, .int 1, .ref wa, .int fc13, .ref ra, .ref sa, .ref ta])), (wa, .inl (cZ, 25, .inl (upd wf 0 1))), (ra, .inl (cI, 25, .inl rf14)), (sa, .inl (cI, 25, .inl sf15)), (ta, .inl (cII, 25, .inr (.inr (.inr (.inr (fun i => if i < 25 then some (rr i) else none))))))] ++ mt_rw 25 rr re16) H := hP
    have hD : va_D A ([(ma, .inr (6, [.ref fa, .ref ca, .ref pa, .ref mla, .ref mve])), (ca, .inr (0, [.ref cfl, .int cn, .ref cs, .ref cg, .ref cto, .ref cq, .ref cco, .ref cnx])), (pa, .inr (4, [.ref pfl, .ref pcr, .ref pho, .ref pce, .ref pse, .ref ppl, .int pen, .int psu, .int pnm, .int pkn, .int pfo])), (fa, .inr (1, [.int 1, .int 1, .ref wa, .int fc13, .ref ra, .ref sa, .ref ta])), (wa, .inl (cZ, 25, .inl (upd wf 0 1))), (ra, .inl (cI, 25, .inl rf14)), (sa, .inl (cI, 25, .inl sf15)), (ta, .inl (cII, 25, .inr (.inr (.inr (.inr (fun i => if i < 25 then some (rr i) else none))))))] ++ mt_rw 25 rr re16) := hD
    refine lv_aload_n hx hb d_mr_wall_21 rfl (lv_at hl 0 rfl) ?_
    refine gf_mr_21 hx hb hg hown hK hP 0 rfl rfl d_mr_wall_22 ?_
    have hPc := hP.sub (ws' := [(ca, .inr (0, [.ref cfl, .int cn, .ref cs, .ref cg, .ref cto, .ref cq, .ref cco, .ref cnx]))]) [1] rfl
    have hDc := hD.sub (ws' := [(ca, .inr (0, [.ref cfl, .int cn, .ref cs, .ref cg, .ref cto, .ref cq, .ref cco, .ref cnx]))]) [1] (by decide) rfl
    have hFc := va_free (wc := [(ca, .inr (0, [.ref cfl, .int cn, .ref cs, .ref cg, .ref cto, .ref cq, .ref cco, .ref cnx]))]) hD hS hA [1] rfl
    refine va_callv (va_runV (As := []) (rest := []) ⟨hx, hb, hml, hown, hg⟩ (c_cr_dismiss l D cZ cI cJ cII ca cfl cn cs cg cto cq cco cnx H.size ) (cwV 0 hg gv_mr_54 rfl rfl rfl (by decide +kernel) ⟨Nat.le_of_ble_eq_true rfl, Nat.le_of_ble_eq_true rfl⟩) ⟨mt_bl, va_recv (q0 := 1) (ci := 0) hK hP rfl rfl, mt_pr hX hPc hK hDc⟩ rfl rfl hl.1 rfl (lv_room (Nat.le_of_ble_eq_true rfl)) d_mr_wall_25 ⟨Nat.le_of_ble_eq_true rfl, Nat.le_of_ble_eq_true rfl⟩) hS (fun q _ h => hFc q h) hFc (fun u t H1 locs ht hvm hw hB hz1 hk1 hS => ?_)
    obtain ⟨hP1, hD1⟩ := hB
    rw [ht] at hP1
    obtain ⟨hP, hD⟩ := va_join (wr := ([(ma, .inr (6, [.ref fa, .ref ca, .ref pa, .ref mla, .ref mve])), (pa, .inr (4, [.ref pfl, .ref pcr, .ref pho, .ref pce, .ref pse, .ref ppl, .int pen, .int psu, .int pnm, .int pkn, .int pfo])), (fa, .inr (1, [.int 1, .int 1, .ref wa, .int fc13, .ref ra, .ref sa, .ref ta])), (wa, .inl (cZ, 25, .inl (upd wf 0 1))), (ra, .inl (cI, 25, .inl rf14)), (sa, .inl (cI, 25, .inl sf15)), (ta, .inl (cII, 25, .inr (.inr (.inr (.inr (fun i => if i < 25 then some (rr i) else none))))))] ++ mt_rw 25 rr re16)) (w1 := [(ca, .inr (0, [.ref cfl, .int 0, .ref cs, .ref cg, .ref cto, .ref cq, .ref cco, .ref cnx]))]) hP hD [1] [0, 2, 3, 4, 5, 6, 7, 8, 9, 10, 11, 12, 13, 14, 15, 16, 17, 18, 19, 20, 21, 22, 23, 24, 25, 26, 27, 28, 29, 30, 31, 32] rfl rfl (by decide) (by decide) hk1 hFc hP1 hD1
    generalize H1 = H at hP hS ⊢
    have hP : va_P D kls (([(ma, .inr (6, [.ref fa, .ref ca, .ref pa, .ref mla, .ref mve])), (pa, .inr (4, [.ref pfl, .ref pcr, .ref pho, .ref pce, .ref pse, .ref ppl, .int pen, .int psu, .int pnm, .int pkn, .int pfo])), (fa, .inr (1, [.int 1, .int 1, .ref wa, .int fc13, .ref ra, .ref sa, .ref ta])), (wa, .inl (cZ, 25, .inl (upd wf 0 1))), (ra, .inl (cI, 25, .inl rf14)), (sa, .inl (cI, 25, .inl sf15)), (ta, .inl (cII, 25, .inr (.inr (.inr (.inr (fun i => if i < 25 then some (rr i) else none))))))] ++ mt_rw 25 rr re16) ++ [(ca, .inr (0, [.ref cfl, .int 0, .ref cs, .ref cg, .ref cto, .ref cq, .ref cco, .ref cnx]))]) H := hP
    have hD : va_D A (([(ma, .inr (6, [.ref fa, .ref ca, .ref pa, .ref mla, .ref mve])), (pa, .inr (4, [.ref pfl, .ref pcr, .ref pho, .ref pce, .ref pse, .ref ppl, .int pen, .int psu, .int pnm, .int pkn, .int pfo])), (fa, .inr (1, [.int 1, .int 1, .ref wa, .int fc13, .ref ra, .ref sa, .ref ta])), (wa, .inl (cZ, 25, .inl (upd wf 0 1))), (ra, .inl (cI, 25, .inl rf14)), (sa, .inl (cI, 25, .inl sf15)), (ta, .inl (cII, 25, .inr (.inr (.inr (.inr (fun i => if i < 25 then some (rr i) else none))))))] ++ mt_rw 25 rr re16) ++ [(ca, .inr (0, [.ref cfl, .int 0, .ref cs, .ref cg, .ref cto, .ref cq, .ref cco, .ref cnx]))]) := hD
    refine lv_aload_n hx hb d_mr_wall_28 rfl (lv_at hl 0 rfl) ?_
    refine gf_mr_30 hx hb hg hown hK hP 0 rfl rfl d_mr_wall_29 ?_
    have hPc := hP.sub (ws' := [(pa, .inr (4, [.ref pfl, .ref pcr, .ref pho, .ref pce, .ref pse, .ref ppl, .int pen, .int psu, .int pnm, .int pkn, .int pfo]))]) [1] rfl
    have hDc := hD.sub (ws' := [(pa, .inr (4, [.ref pfl, .ref pcr, .ref pho, .ref pce, .ref pse, .ref ppl, .int pen, .int psu, .int pnm, .int pkn, .int pfo]))]) [1] (by decide) rfl
    have hFc := va_free (wc := [(pa, .inr (4, [.ref pfl, .ref pcr, .ref pho, .ref pce, .ref pse, .ref ppl, .int pen, .int psu, .int pnm, .int pkn, .int pfo]))]) hD hS hA [1] rfl
    refine va_callv (va_runV (As := []) (rest := []) ⟨hx, hb, hml, hown, hg⟩ (c_pn_forget l D cZ cI cJ cII pa pfl pcr pho pce pse ppl pen psu pnm pkn pfo H.size ) (cwV 0 hg gv_mr_57 rfl rfl rfl (by decide +kernel) ⟨Nat.le_of_ble_eq_true rfl, Nat.le_of_ble_eq_true rfl⟩) ⟨mt_bl, va_recv (q0 := 1) (ci := 4) hK hP rfl rfl, mt_pr hX hPc hK hDc⟩ rfl rfl hl.1 rfl (lv_room (Nat.le_of_ble_eq_true rfl)) d_mr_wall_32 ⟨Nat.le_of_ble_eq_true rfl, Nat.le_of_ble_eq_true rfl⟩) hS (fun q _ h => hFc q h) hFc (fun u t H1 locs ht hvm hw hB hz1 hk1 hS => ?_)
    obtain ⟨hP1, hD1⟩ := hB
    rw [ht] at hP1
    obtain ⟨hP, hD⟩ := va_join (wr := (([(ma, .inr (6, [.ref fa, .ref ca, .ref pa, .ref mla, .ref mve])), (fa, .inr (1, [.int 1, .int 1, .ref wa, .int fc13, .ref ra, .ref sa, .ref ta])), (wa, .inl (cZ, 25, .inl (upd wf 0 1))), (ra, .inl (cI, 25, .inl rf14)), (sa, .inl (cI, 25, .inl sf15)), (ta, .inl (cII, 25, .inr (.inr (.inr (.inr (fun i => if i < 25 then some (rr i) else none))))))] ++ mt_rw 25 rr re16) ++ [(ca, .inr (0, [.ref cfl, .int 0, .ref cs, .ref cg, .ref cto, .ref cq, .ref cco, .ref cnx]))])) (w1 := [(pa, .inr (4, [.ref pfl, .ref pcr, .ref pho, .ref pce, .ref pse, .ref ppl, .int pen, .int psu, .int 0, .int 0, .int 0]))]) hP hD [1] [0, 2, 3, 4, 5, 6, 7, 8, 9, 10, 11, 12, 13, 14, 15, 16, 17, 18, 19, 20, 21, 22, 23, 24, 25, 26, 27, 28, 29, 30, 31, 32] rfl rfl (by decide) (by decide) hk1 hFc hP1 hD1
    generalize H1 = H at hP hS ⊢
    have hP : va_P D kls (([(ma, .inr (6, [.ref fa, .ref ca, .ref pa, .ref mla, .ref mve])), (fa, .inr (1, [.int 1, .int 1, .ref wa, .int fc13, .ref ra, .ref sa, .ref ta])), (wa, .inl (cZ, 25, .inl (upd wf 0 1))), (ra, .inl (cI, 25, .inl rf14)), (sa, .inl (cI, 25, .inl sf15)), (ta, .inl (cII, 25, .inr (.inr (.inr (.inr (fun i => if i < 25 then some (rr i) else none))))))] ++ mt_rw 25 rr re16) ++ [(ca, .inr (0, [.ref cfl, .int 0, .ref cs, .ref cg, .ref cto, .ref cq, .ref cco, .ref cnx])), (pa, .inr (4, [.ref pfl, .ref pcr, .ref pho, .ref pce, .ref pse, .ref ppl, .int pen, .int psu, .int 0, .int 0, .int 0]))]) H := hP
    have hD : va_D A (([(ma, .inr (6, [.ref fa, .ref ca, .ref pa, .ref mla, .ref mve])), (fa, .inr (1, [.int 1, .int 1, .ref wa, .int fc13, .ref ra, .ref sa, .ref ta])), (wa, .inl (cZ, 25, .inl (upd wf 0 1))), (ra, .inl (cI, 25, .inl rf14)), (sa, .inl (cI, 25, .inl sf15)), (ta, .inl (cII, 25, .inr (.inr (.inr (.inr (fun i => if i < 25 then some (rr i) else none))))))] ++ mt_rw 25 rr re16) ++ [(ca, .inr (0, [.ref cfl, .int 0, .ref cs, .ref cg, .ref cto, .ref cq, .ref cco, .ref cnx])), (pa, .inr (4, [.ref pfl, .ref pcr, .ref pho, .ref pce, .ref pse, .ref ppl, .int pen, .int psu, .int 0, .int 0, .int 0]))]) := hD
    refine lv_aload_n hx hb d_mr_wall_35 rfl (lv_at hl 0 rfl) ?_
    refine gf_mr_12 hx hb hg hown hK hP 0 rfl rfl d_mr_wall_36 ?_
    refine lv_iload_n hx hb d_mr_wall_39 rfl (lv_at hl 1 rfl) ?_
    have hPc := hP.sub (ws' := [(fa, .inr (1, [.int 1, .int 1, .ref wa, .int fc13, .ref ra, .ref sa, .ref ta])), (wa, .inl (cZ, 25, .inl (upd wf 0 1)))]) [1, 2] rfl
    have hDc := hD.sub (ws' := [(fa, .inr (1, [.int 1, .int 1, .ref wa, .int fc13, .ref ra, .ref sa, .ref ta])), (wa, .inl (cZ, 25, .inl (upd wf 0 1)))]) [1, 2] (by decide) rfl
    refine vp_callSi (W.runV (As := [.int 0]) (rest := []) ⟨hx, hb, hml, hown, hg⟩ (c_fl_isFree l D cZ cI cJ cII fa 1 1 wa fc13 ra sa ta (upd wf 0 1) 0 H.size (mt_b25 (w := 1) (h := 1) (by decide))) (cwV 1 hg gv_mr_69 rfl rfl rfl (by decide +kernel) ⟨Nat.le_of_ble_eq_true rfl, Nat.le_of_ble_eq_true rfl⟩) ⟨mt_bl, va_recv (q0 := 1) (ci := 1) hK hP rfl rfl, mt_pr hX hPc hK hDc⟩ rfl rfl hl.1 rfl (lv_room (Nat.le_of_ble_eq_true rfl)) d_mr_wall_40 ⟨Nat.le_of_ble_eq_true rfl, Nat.le_of_ble_eq_true rfl⟩) (fun r9 hr9 => ?_)
    have hr9 : (r9 = 1 ∧ ¬ (0 : Int32) < 0 ∧ ¬ (1 : Int32) * (1 : Int32) ≤ (0 : Int32) ∧ (upd wf 0 1) (0 : Int32).toNatClampNeg = 0) ∨ (r9 = 0 ∧ ((0 : Int32) < 0 ∨ (1 : Int32) * (1 : Int32) ≤ (0 : Int32) ∨ ¬ (upd wf 0 1) (0 : Int32).toNatClampNeg = 0)) := hr9
    have hr9 : r9 = 0 := hr9.elim (fun q => absurd (q.2.2.2.symm.trans pk_us) (by decide)) (fun q => q.1)
    subst hr9
    refine lv_if_eq hx hb d_mr_wall_43 rfl (fun _ => ?_) (fun h => absurd (by decide) h)
    refine lv_iconst (v := 1) hx hb d_mr_wall_50 (by decide) ?_
    exact W.iret hx hb hr (fun t ht hW => ⟨⟨1, (), rfl, ⟨Or.inr ⟨rfl, g3.1, g3.2⟩, trivial⟩, trivial⟩, hS.F ht⟩) hS.2.2 d_mr_wall_51
  ·
    refine lv_iconst (v := (-1)) hx hb d_mr_wall_11 (by decide) ?_
    exact W.iret hx hb hr (fun t ht hW => ⟨⟨(-1), (), rfl, ⟨Or.inl ⟨rfl, hr1.elim (fun q => absurd (q.1.symm.trans g1) (by decide)) (fun q => q.2)⟩, trivial⟩, trivial⟩, hS.F ht⟩) hS.2.2 d_mr_wall_12

set_option maxHeartbeats 4000000 in
set_option maxRecDepth 100000 in
theorem c_mr_mover (l : Launch) (D : va_G) (cZ cI cJ cII : ClassId) (ma : Nat) (mla : Nat) (mve : Nat) (ca : Nat) (cs : Nat) (cg : Nat) (cto : Nat) (cq : Nat) (cco : Nat) (cnx : Nat) (pa : Nat) (pfl : Nat) (pcr : Nat) (pho : Nat) (pce : Nat) (pse : Nat) (ppl : Nat) (pen : Int32) (psu : Int32) (pnm : Int32) (pkn : Int32) (pfo : Int32) (fa : Nat) (wa : Nat) (ra : Nat) (sa : Nat) (ta : Nat) (wf : Nat → Int32) (s5 : Nat → Int32) (g5 : Nat → Int32) (rg : Nat → Nat) (qf : Nat → Int32) (sf : Nat → Int32) (rr : Nat → Nat) (f5 : Nat → Int32) (wy : Nat → Int32) (x : Int32) (y : Int32) (sz : Nat) (hw0 : wf 0 = 0) (hs0 : sf 0 = 1) (hf0 : f5 0 = 0) : Met l y_mr_mover w_mr_mover ({ frames := 3, cells := 0, slots := 0, locals := 120 }) (va_Pc [.ref ma, .int x, .int y] (mt_B D [(cZ, .boolean), (cI, .int), (cJ, .long), (cII, .array .int)] [(ma, .inr (6, [.ref fa, .ref ca, .ref pa, .ref mla, .ref mve])), (ca, .inr (0, [.ref fa, .int 0, .ref cs, .ref cg, .ref cto, .ref cq, .ref cco, .ref cnx])), (pa, .inr (4, [.ref pfl, .ref pcr, .ref pho, .ref pce, .ref pse, .ref ppl, .int pen, .int psu, .int pnm, .int pkn, .int pfo])), (fa, .inr (1, [.int 1, .int 1, .ref wa, .int 1, .ref ra, .ref sa, .ref ta])), (wa, .inl (cZ, 25, .inl wf)), (cs, .inl (cI, 5, .inl s5)), (cg, .inl (cI, 5, .inl g5)), (cto, .inl (cII, 5, .inr (.inr (.inr (.inr (fun i => if i < 5 then some (rg i) else none)))))), (cq, .inl (cI, 25, .inl qf)), (sa, .inl (cI, 25, .inl sf)), (ta, .inl (cII, 25, .inr (.inr (.inr (.inr (fun i => if i < 25 then some (rr i) else none)))))), (rr 0, .inl (cI, 5, .inl f5)), (rg 0, .inl (cI, 25, .inl wy))] sz)) ((fun A => va_Qi (fun (r : Int32) (u : Unit) => ((r = -1 ∧ ¬ (x = 0 ∧ y = 0)) ∨ (r = 0 ∧ x = 0 ∧ y = 0)) ∧ (True)) (fun (u : Unit) (t : State) => True) A) (va_A [(ma, .inr (6, [.ref fa, .ref ca, .ref pa, .ref mla, .ref mve])), (ca, .inr (0, [.ref fa, .int 0, .ref cs, .ref cg, .ref cto, .ref cq, .ref cco, .ref cnx])), (pa, .inr (4, [.ref pfl, .ref pcr, .ref pho, .ref pce, .ref pse, .ref ppl, .int pen, .int psu, .int pnm, .int pkn, .int pfo])), (fa, .inr (1, [.int 1, .int 1, .ref wa, .int 1, .ref ra, .ref sa, .ref ta])), (wa, .inl (cZ, 25, .inl wf)), (cs, .inl (cI, 5, .inl s5)), (cg, .inl (cI, 5, .inl g5)), (cto, .inl (cII, 5, .inr (.inr (.inr (.inr (fun i => if i < 5 then some (rg i) else none)))))), (cq, .inl (cI, 25, .inl qf)), (sa, .inl (cI, 25, .inl sf)), (ta, .inl (cII, 25, .inr (.inr (.inr (.inr (fun i => if i < 25 then some (rr i) else none)))))), (rr 0, .inl (cI, 5, .inl f5)), (rg 0, .inl (cI, 25, .inl wy))] sz)) 0 0 (va_A [(ma, .inr (6, [.ref fa, .ref ca, .ref pa, .ref mla, .ref mve])), (ca, .inr (0, [.ref fa, .int 0, .ref cs, .ref cg, .ref cto, .ref cq, .ref cco, .ref cnx])), (pa, .inr (4, [.ref pfl, .ref pcr, .ref pho, .ref pce, .ref pse, .ref ppl, .int pen, .int psu, .int pnm, .int pkn, .int pfo])), (fa, .inr (1, [.int 1, .int 1, .ref wa, .int 1, .ref ra, .ref sa, .ref ta])), (wa, .inl (cZ, 25, .inl wf)), (cs, .inl (cI, 5, .inl s5)), (cg, .inl (cI, 5, .inl g5)), (cto, .inl (cII, 5, .inr (.inr (.inr (.inr (fun i => if i < 5 then some (rg i) else none)))))), (cq, .inl (cI, 25, .inl qf)), (sa, .inl (cI, 25, .inl sf)), (ta, .inl (cII, 25, .inr (.inr (.inr (.inr (fun i => if i < 25 then some (rr i) else none)))))), (rr 0, .inl (cI, 5, .inl f5)), (rg 0, .inl (cI, 25, .inl wy))] sz) := by
  refine mt_of (y := y_mr_mover) (n := 3) (av := [.ref ma, .int x, .int y]) (QF := (fun A => va_Qi (fun (r : Int32) (u : Unit) => ((r = -1 ∧ ¬ (x = 0 ∧ y = 0)) ∨ (r = 0 ∧ x = 0 ∧ y = 0)) ∧ (True)) (fun (u : Unit) (t : State) => True) A)) (by decide) (Nat.le_of_ble_eq_true rfl) ?_
  intro p e s m below meth c ls A hx hb hr hlk hml hown hnm hg hl hX hP hK hD hA hS
  obtain ⟨H, hH⟩ : ∃ H : Heap, H = s.heap := ⟨_, rfl⟩
  have hS : va_S A s.heap H [] := by rw [hH]; exact va_S.rf
  rw [← hH] at hP ⊢
  have hown : s.vm.findClass R_mr = some m.cls := hown
  have hl : lv_has ls 3 [(0, .ref ma), (1, .int x), (2, .int y)] := hl
  refine lv_aload_n hx hb d_mr_mover_0 rfl (lv_at hl 0 rfl) ?_
  refine gf_mr_12 hx hb hg hown hK hP 0 rfl rfl d_mr_mover_1 ?_
  refine lv_iload_n hx hb d_mr_mover_4 rfl (lv_at hl 1 rfl) ?_
  have hPc := hP.sub (ws' := [(fa, .inr (1, [.int 1, .int 1, .ref wa, .int 1, .ref ra, .ref sa, .ref ta])), (wa, .inl (cZ, 25, .inl wf))]) [3, 4] rfl
  have hDc := hD.sub (ws' := [(fa, .inr (1, [.int 1, .int 1, .ref wa, .int 1, .ref ra, .ref sa, .ref ta])), (wa, .inl (cZ, 25, .inl wf))]) [3, 4] (by decide) rfl
  refine vp_callSi (W.runV (As := [.int x]) (rest := []) ⟨hx, hb, hml, hown, hg⟩ (c_fl_isFree l D cZ cI cJ cII fa 1 1 wa 1 ra sa ta wf x H.size (mt_b25 (w := 1) (h := 1) (by decide))) (cwV 1 hg gv_mr_69 rfl rfl rfl (by decide +kernel) ⟨Nat.le_of_ble_eq_true rfl, Nat.le_of_ble_eq_true rfl⟩) ⟨mt_bl, va_recv (q0 := 3) (ci := 1) hK hP rfl rfl, mt_pr hX hPc hK hDc⟩ rfl rfl hl.1 rfl (lv_room (Nat.le_of_ble_eq_true rfl)) d_mr_mover_5 ⟨Nat.le_of_ble_eq_true rfl, Nat.le_of_ble_eq_true rfl⟩) (fun r1 hr1 => ?_)
  have hr1 : (r1 = 1 ∧ ¬ x < 0 ∧ ¬ (1 : Int32) * (1 : Int32) ≤ x ∧ wf x.toNatClampNeg = 0) ∨ (r1 = 0 ∧ (x < 0 ∨ (1 : Int32) * (1 : Int32) ≤ x ∨ ¬ wf x.toNatClampNeg = 0)) := hr1
  refine lv_if_eq hx hb d_mr_mover_8 rfl (fun g1 => ?_) (fun g1 => ?_)
  ·
    refine lv_iconst (v := (-1)) hx hb d_mr_mover_34 (by decide) ?_
    exact W.iret hx hb hr (fun t ht hW => ⟨⟨(-1), (), rfl, ⟨Or.inl ⟨rfl, fun e9 => (fun e9 => hr1.elim (fun q => absurd (q.1.symm.trans g1) (by decide)) (fun q => q.2.elim (fun z => absurd z (by rw [e9]; decide)) (fun z => z.elim (fun z => absurd z (by rw [e9]; decide)) (fun z => z (by rw [e9]; exact hw0))))) e9.1⟩, trivial⟩, trivial⟩, hS.F ht⟩) hS.2.2 d_mr_mover_35
  ·
    refine lv_aload_n hx hb d_mr_mover_11 rfl (lv_at hl 0 rfl) ?_
    refine gf_mr_12 hx hb hg hown hK hP 0 rfl rfl d_mr_mover_12 ?_
    refine lv_iload_n hx hb d_mr_mover_15 rfl (lv_at hl 2 rfl) ?_
    have hPc := hP.sub (ws' := [(fa, .inr (1, [.int 1, .int 1, .ref wa, .int 1, .ref ra, .ref sa, .ref ta])), (wa, .inl (cZ, 25, .inl wf))]) [3, 4] rfl
    have hDc := hD.sub (ws' := [(fa, .inr (1, [.int 1, .int 1, .ref wa, .int 1, .ref ra, .ref sa, .ref ta])), (wa, .inl (cZ, 25, .inl wf))]) [3, 4] (by decide) rfl
    refine vp_callSi (W.runV (As := [.int y]) (rest := []) ⟨hx, hb, hml, hown, hg⟩ (c_fl_isFree l D cZ cI cJ cII fa 1 1 wa 1 ra sa ta wf y H.size (mt_b25 (w := 1) (h := 1) (by decide))) (cwV 1 hg gv_mr_69 rfl rfl rfl (by decide +kernel) ⟨Nat.le_of_ble_eq_true rfl, Nat.le_of_ble_eq_true rfl⟩) ⟨mt_bl, va_recv (q0 := 3) (ci := 1) hK hP rfl rfl, mt_pr hX hPc hK hDc⟩ rfl rfl hl.1 rfl (lv_room (Nat.le_of_ble_eq_true rfl)) d_mr_mover_16 ⟨Nat.le_of_ble_eq_true rfl, Nat.le_of_ble_eq_true rfl⟩) (fun r2 hr2 => ?_)
    have hr2 : (r2 = 1 ∧ ¬ y < 0 ∧ ¬ (1 : Int32) * (1 : Int32) ≤ y ∧ wf y.toNatClampNeg = 0) ∨ (r2 = 0 ∧ (y < 0 ∨ (1 : Int32) * (1 : Int32) ≤ y ∨ ¬ wf y.toNatClampNeg = 0)) := hr2
    refine lv_if_eq hx hb d_mr_mover_19 rfl (fun g2 => ?_) (fun g2 => ?_)
    ·
      refine lv_iconst (v := (-1)) hx hb d_mr_mover_34 (by decide) ?_
      exact W.iret hx hb hr (fun t ht hW => ⟨⟨(-1), (), rfl, ⟨Or.inl ⟨rfl, fun e9 => (fun e9 => hr2.elim (fun q => absurd (q.1.symm.trans g2) (by decide)) (fun q => q.2.elim (fun z => absurd z (by rw [e9]; decide)) (fun z => z.elim (fun z => absurd z (by rw [e9]; decide)) (fun z => z (by rw [e9]; exact hw0))))) e9.2⟩, trivial⟩, trivial⟩, hS.F ht⟩) hS.2.2 d_mr_mover_35
    ·
      refine lv_aload_n hx hb d_mr_mover_22 rfl (lv_at hl 0 rfl) ?_
      refine gf_mr_21 hx hb hg hown hK hP 0 rfl rfl d_mr_mover_23 ?_
      refine lv_iload_n hx hb d_mr_mover_26 rfl (lv_at hl 1 rfl) ?_
      refine lv_iload_n hx hb d_mr_mover_27 rfl (lv_at hl 2 rfl) ?_
      have hPc := hP.sub (ws' := [(ca, .inr (0, [.ref fa, .int 0, .ref cs, .ref cg, .ref cto, .ref cq, .ref cco, .ref cnx])), (fa, .inr (1, [.int 1, .int 1, .ref wa, .int 1, .ref ra, .ref sa, .ref ta]))]) [1, 3] rfl
      have hDc := hD.sub (ws' := [(ca, .inr (0, [.ref fa, .int 0, .ref cs, .ref cg, .ref cto, .ref cq, .ref cco, .ref cnx])), (fa, .inr (1, [.int 1, .int 1, .ref wa, .int 1, .ref ra, .ref sa, .ref ta]))]) [1, 3] (by decide) rfl
      refine vp_callSi (W.runV (As := [.int x, .int y]) (rest := []) ⟨hx, hb, hml, hown, hg⟩ (c_cr_canTake l D cZ cI cJ cII ca fa cs cg cto cq cco cnx 1 1 wa ra sa ta x y H.size ) (cwV 2 hg gv_mr_72 rfl rfl rfl (by decide +kernel) ⟨Nat.le_of_ble_eq_true rfl, Nat.le_of_ble_eq_true rfl⟩) ⟨mt_bl, va_recv (q0 := 1) (ci := 0) hK hP rfl rfl, mt_pr hX hPc hK hDc⟩ rfl rfl hl.1 rfl (lv_room (Nat.le_of_ble_eq_true rfl)) d_mr_mover_28 ⟨Nat.le_of_ble_eq_true rfl, Nat.le_of_ble_eq_true rfl⟩) (fun r3 hr3 => ?_)
      have hr3 : r3 = 1 := hr3
      have hr3 : r3 = 1 := hr3
      subst hr3
      refine lv_if_ne hx hb d_mr_mover_31 rfl (fun _ => ?_) (fun h => absurd h (by decide))
      have g3 : x = 0 := hr1.elim (fun q => mt_one q.2.1 q.2.2.1) (fun q => absurd q.1 g1)
      have g4 : y = 0 := hr2.elim (fun q => mt_one q.2.1 q.2.2.1) (fun q => absurd q.1 g2)
      subst g3
      subst g4
      have hl : lv_has ls 3 [(0, .ref ma), (1, .int 0), (2, .int 0)] := hl
      refine lv_aload_n hx hb d_mr_mover_36 rfl (lv_at hl 0 rfl) ?_
      refine gf_mr_30 hx hb hg hown hK hP 0 rfl rfl d_mr_mover_37 ?_
      have hPc := hP.sub (ws' := [(pa, .inr (4, [.ref pfl, .ref pcr, .ref pho, .ref pce, .ref pse, .ref ppl, .int pen, .int psu, .int pnm, .int pkn, .int pfo]))]) [2] rfl
      have hDc := hD.sub (ws' := [(pa, .inr (4, [.ref pfl, .ref pcr, .ref pho, .ref pce, .ref pse, .ref ppl, .int pen, .int psu, .int pnm, .int pkn, .int pfo]))]) [2] (by decide) rfl
      have hFc := va_free (wc := [(pa, .inr (4, [.ref pfl, .ref pcr, .ref pho, .ref pce, .ref pse, .ref ppl, .int pen, .int psu, .int pnm, .int pkn, .int pfo]))]) hD hS hA [2] rfl
      refine va_callv (va_runV (As := []) (rest := []) ⟨hx, hb, hml, hown, hg⟩ (c_pn_forget l D cZ cI cJ cII pa pfl pcr pho pce pse ppl pen psu pnm pkn pfo H.size ) (cwV 0 hg gv_mr_57 rfl rfl rfl (by decide +kernel) ⟨Nat.le_of_ble_eq_true rfl, Nat.le_of_ble_eq_true rfl⟩) ⟨mt_bl, va_recv (q0 := 2) (ci := 4) hK hP rfl rfl, mt_pr hX hPc hK hDc⟩ rfl rfl hl.1 rfl (lv_room (Nat.le_of_ble_eq_true rfl)) d_mr_mover_40 ⟨Nat.le_of_ble_eq_true rfl, Nat.le_of_ble_eq_true rfl⟩) hS (fun q _ h => hFc q h) hFc (fun u t H1 locs ht hvm hw hB hz1 hk1 hS => ?_)
      obtain ⟨hP1, hD1⟩ := hB
      rw [ht] at hP1
      obtain ⟨hP, hD⟩ := va_join (wr := [(ma, .inr (6, [.ref fa, .ref ca, .ref pa, .ref mla, .ref mve])), (ca, .inr (0, [.ref fa, .int 0, .ref cs, .ref cg, .ref cto, .ref cq, .ref cco, .ref cnx])), (fa, .inr (1, [.int 1, .int 1, .ref wa, .int 1, .ref ra, .ref sa, .ref ta])), (wa, .inl (cZ, 25, .inl wf)), (cs, .inl (cI, 5, .inl s5)), (cg, .inl (cI, 5, .inl g5)), (cto, .inl (cII, 5, .inr (.inr (.inr (.inr (fun i => if i < 5 then some (rg i) else none)))))), (cq, .inl (cI, 25, .inl qf)), (sa, .inl (cI, 25, .inl sf)), (ta, .inl (cII, 25, .inr (.inr (.inr (.inr (fun i => if i < 25 then some (rr i) else none)))))), (rr 0, .inl (cI, 5, .inl f5)), (rg 0, .inl (cI, 25, .inl wy))]) (w1 := [(pa, .inr (4, [.ref pfl, .ref pcr, .ref pho, .ref pce, .ref pse, .ref ppl, .int pen, .int psu, .int 0, .int 0, .int 0]))]) hP hD [2] [0, 1, 3, 4, 5, 6, 7, 8, 9, 10, 11, 12] rfl rfl (by decide) (by decide) hk1 hFc hP1 hD1
      generalize H1 = H at hP hS ⊢
      have hP : va_P D kls [(ma, .inr (6, [.ref fa, .ref ca, .ref pa, .ref mla, .ref mve])), (ca, .inr (0, [.ref fa, .int 0, .ref cs, .ref cg, .ref cto, .ref cq, .ref cco, .ref cnx])), (fa, .inr (1, [.int 1, .int 1, .ref wa, .int 1, .ref ra, .ref sa, .ref ta])), (wa, .inl (cZ, 25, .inl wf)), (cs, .inl (cI, 5, .inl s5)), (cg, .inl (cI, 5, .inl g5)), (cto, .inl (cII, 5, .inr (.inr (.inr (.inr (fun i => if i < 5 then some (rg i) else none)))))), (cq, .inl (cI, 25, .inl qf)), (sa, .inl (cI, 25, .inl sf)), (ta, .inl (cII, 25, .inr (.inr (.inr (.inr (fun i => if i < 25 then some (rr i) else none)))))), (rr 0, .inl (cI, 5, .inl f5)), (rg 0, .inl (cI, 25, .inl wy)), (pa, .inr (4, [.ref pfl, .ref pcr, .ref pho, .ref pce, .ref pse, .ref ppl, .int pen, .int psu, .int 0, .int 0, .int 0]))] H := hP
      have hD : va_D A [(ma, .inr (6, [.ref fa, .ref ca, .ref pa, .ref mla, .ref mve])), (ca, .inr (0, [.ref fa, .int 0, .ref cs, .ref cg, .ref cto, .ref cq, .ref cco, .ref cnx])), (fa, .inr (1, [.int 1, .int 1, .ref wa, .int 1, .ref ra, .ref sa, .ref ta])), (wa, .inl (cZ, 25, .inl wf)), (cs, .inl (cI, 5, .inl s5)), (cg, .inl (cI, 5, .inl g5)), (cto, .inl (cII, 5, .inr (.inr (.inr (.inr (fun i => if i < 5 then some (rg i) else none)))))), (cq, .inl (cI, 25, .inl qf)), (sa, .inl (cI, 25, .inl sf)), (ta, .inl (cII, 25, .inr (.inr (.inr (.inr (fun i => if i < 25 then some (rr i) else none)))))), (rr 0, .inl (cI, 5, .inl f5)), (rg 0, .inl (cI, 25, .inl wy)), (pa, .inr (4, [.ref pfl, .ref pcr, .ref pho, .ref pce, .ref pse, .ref ppl, .int pen, .int psu, .int 0, .int 0, .int 0]))] := hD
      refine lv_aload_n hx hb d_mr_mover_43 rfl (lv_at hl 0 rfl) ?_
      refine gf_mr_21 hx hb hg hown hK hP 0 rfl rfl d_mr_mover_44 ?_
      refine lv_iload_n hx hb d_mr_mover_47 rfl (lv_at hl 1 rfl) ?_
      refine lv_iload_n hx hb d_mr_mover_48 rfl (lv_at hl 2 rfl) ?_
      have hPc := hP.sub (ws' := [(ca, .inr (0, [.ref fa, .int 0, .ref cs, .ref cg, .ref cto, .ref cq, .ref cco, .ref cnx])), (fa, .inr (1, [.int 1, .int 1, .ref wa, .int 1, .ref ra, .ref sa, .ref ta])), (cs, .inl (cI, 5, .inl s5)), (cg, .inl (cI, 5, .inl g5)), (cto, .inl (cII, 5, .inr (.inr (.inr (.inr (fun i => if i < 5 then some (rg i) else none)))))), (cq, .inl (cI, 25, .inl qf)), (sa, .inl (cI, 25, .inl sf)), (ta, .inl (cII, 25, .inr (.inr (.inr (.inr (fun i => if i < 25 then some (rr i) else none)))))), (rr 0, .inl (cI, 5, .inl f5)), (rg 0, .inl (cI, 25, .inl wy))]) [1, 2, 4, 5, 6, 7, 8, 9, 10, 11] rfl
      have hDc := hD.sub (ws' := [(ca, .inr (0, [.ref fa, .int 0, .ref cs, .ref cg, .ref cto, .ref cq, .ref cco, .ref cnx])), (fa, .inr (1, [.int 1, .int 1, .ref wa, .int 1, .ref ra, .ref sa, .ref ta])), (cs, .inl (cI, 5, .inl s5)), (cg, .inl (cI, 5, .inl g5)), (cto, .inl (cII, 5, .inr (.inr (.inr (.inr (fun i => if i < 5 then some (rg i) else none)))))), (cq, .inl (cI, 25, .inl qf)), (sa, .inl (cI, 25, .inl sf)), (ta, .inl (cII, 25, .inr (.inr (.inr (.inr (fun i => if i < 25 then some (rr i) else none)))))), (rr 0, .inl (cI, 5, .inl f5)), (rg 0, .inl (cI, 25, .inl wy))]) [1, 2, 4, 5, 6, 7, 8, 9, 10, 11] (by decide) rfl
      have hFc := va_free (wc := [(ca, .inr (0, [.ref fa, .int 0, .ref cs, .ref cg, .ref cto, .ref cq, .ref cco, .ref cnx])), (fa, .inr (1, [.int 1, .int 1, .ref wa, .int 1, .ref ra, .ref sa, .ref ta])), (cs, .inl (cI, 5, .inl s5)), (cg, .inl (cI, 5, .inl g5)), (cto, .inl (cII, 5, .inr (.inr (.inr (.inr (fun i => if i < 5 then some (rg i) else none)))))), (cq, .inl (cI, 25, .inl qf)), (sa, .inl (cI, 25, .inl sf)), (ta, .inl (cII, 25, .inr (.inr (.inr (.inr (fun i => if i < 25 then some (rr i) else none)))))), (rr 0, .inl (cI, 5, .inl f5)), (rg 0, .inl (cI, 25, .inl wy))]) hD hS hA [1, 2, 4, 5, 6, 7, 8, 9, 10, 11] rfl
      refine va_calli (va_runV (As := [.int 0, .int 0]) (rest := []) ⟨hx, hb, hml, hown, hg⟩ (c_cr_take l D cZ cI cJ cII ca fa cs cg cto cq cco cnx 1 1 wa 1 ra sa ta s5 g5 rg qf sf rr f5 wy H.size hs0 hf0) (cwV 2 hg gv_mr_76 rfl rfl rfl (by decide +kernel) ⟨Nat.le_of_ble_eq_true rfl, Nat.le_of_ble_eq_true rfl⟩) ⟨mt_bl, va_recv (q0 := 1) (ci := 0) hK hP rfl rfl, mt_pr hX hPc hK hDc⟩ rfl rfl hl.1 rfl (lv_room (Nat.le_of_ble_eq_true rfl)) d_mr_mover_49 ⟨Nat.le_of_ble_eq_true rfl, Nat.le_of_ble_eq_true rfl⟩) hS (fun q _ h => hFc q h) hFc (fun r5 u t H1 locs ht hvm hw hB hz1 hk1 hS => ?_)
      obtain ⟨wy16, rfl⟩ : ∃ z, z = u := ⟨_, rfl⟩
      obtain ⟨hr5, hwr5⟩ := hw
      have hr5 : r5 = 0 := hr5
      obtain ⟨hP1, hD1⟩ := hB
      rw [ht] at hP1
      obtain ⟨hP, hD⟩ := va_join (wr := [(ma, .inr (6, [.ref fa, .ref ca, .ref pa, .ref mla, .ref mve])), (wa, .inl (cZ, 25, .inl wf)), (pa, .inr (4, [.ref pfl, .ref pcr, .ref pho, .ref pce, .ref pse, .ref ppl, .int pen, .int psu, .int 0, .int 0, .int 0]))]) (w1 := [(ca, .inr (0, [.ref fa, .int 1, .ref cs, .ref cg, .ref cto, .ref cq, .ref cco, .ref cnx])), (fa, .inr (1, [.int 1, .int 1, .ref wa, .int 1, .ref ra, .ref sa, .ref ta])), (cs, .inl (cI, 5, .inl (upd s5 0 0))), (cg, .inl (cI, 5, .inl (upd g5 0 0))), (cto, .inl (cII, 5, .inr (.inr (.inr (.inr (fun i => if i < 5 then some (rg i) else none)))))), (cq, .inl (cI, 25, .inl (upd qf 0 0))), (sa, .inl (cI, 25, .inl sf)), (ta, .inl (cII, 25, .inr (.inr (.inr (.inr (fun i => if i < 25 then some (rr i) else none)))))), (rr 0, .inl (cI, 5, .inl f5)), (rg 0, .inl (cI, 25, .inl wy16))]) hP hD [1, 2, 4, 5, 6, 7, 8, 9, 10, 11] [0, 3, 12] rfl rfl (by decide) (by decide) hk1 hFc hP1 hD1
      generalize H1 = H at hP hS ⊢
      have hP : va_P D kls [(ma, .inr (6, [.ref fa, .ref ca, .ref pa, .ref mla, .ref mve])), (wa, .inl (cZ, 25, .inl wf)), (pa, .inr (4, [.ref pfl, .ref pcr, .ref pho, .ref pce, .ref pse, .ref ppl, .int pen, .int psu, .int 0, .int 0, .int 0])), (ca, .inr (0, [.ref fa, .int 1, .ref cs, .ref cg, .ref cto, .ref cq, .ref cco, .ref cnx])), (fa, .inr (1, [.int 1, .int 1, .ref wa, .int 1, .ref ra, .ref sa, .ref ta])), (cs, .inl (cI, 5, .inl (upd s5 0 0))), (cg, .inl (cI, 5, .inl (upd g5 0 0))), (cto, .inl (cII, 5, .inr (.inr (.inr (.inr (fun i => if i < 5 then some (rg i) else none)))))), (cq, .inl (cI, 25, .inl (upd qf 0 0))), (sa, .inl (cI, 25, .inl sf)), (ta, .inl (cII, 25, .inr (.inr (.inr (.inr (fun i => if i < 25 then some (rr i) else none)))))), (rr 0, .inl (cI, 5, .inl f5)), (rg 0, .inl (cI, 25, .inl wy16))] H := hP
      have hD : va_D A [(ma, .inr (6, [.ref fa, .ref ca, .ref pa, .ref mla, .ref mve])), (wa, .inl (cZ, 25, .inl wf)), (pa, .inr (4, [.ref pfl, .ref pcr, .ref pho, .ref pce, .ref pse, .ref ppl, .int pen, .int psu, .int 0, .int 0, .int 0])), (ca, .inr (0, [.ref fa, .int 1, .ref cs, .ref cg, .ref cto, .ref cq, .ref cco, .ref cnx])), (fa, .inr (1, [.int 1, .int 1, .ref wa, .int 1, .ref ra, .ref sa, .ref ta])), (cs, .inl (cI, 5, .inl (upd s5 0 0))), (cg, .inl (cI, 5, .inl (upd g5 0 0))), (cto, .inl (cII, 5, .inr (.inr (.inr (.inr (fun i => if i < 5 then some (rg i) else none)))))), (cq, .inl (cI, 25, .inl (upd qf 0 0))), (sa, .inl (cI, 25, .inl sf)), (ta, .inl (cII, 25, .inr (.inr (.inr (.inr (fun i => if i < 25 then some (rr i) else none)))))), (rr 0, .inl (cI, 5, .inl f5)), (rg 0, .inl (cI, 25, .inl wy16))] := hD
      have hr5 : r5 = 0 := hr5
      subst hr5
      exact W.iret hx hb hr (fun t ht hW => ⟨⟨0, (), rfl, ⟨Or.inr ⟨rfl, rfl, rfl⟩, trivial⟩, trivial⟩, hS.F ht⟩) hS.2.2 d_mr_mover_52

set_option maxHeartbeats 4000000 in
set_option maxRecDepth 100000 in
theorem c_mr_room (l : Launch) (D : va_G) (cZ cI cJ cII : ClassId) (ma : Nat) (mve : Nat) (ca : Nat) (cfl : Nat) (cn : Int32) (cs : Nat) (cg : Nat) (cto : Nat) (cq : Nat) (cco : Nat) (cnx : Nat) (pa : Nat) (pfl : Nat) (pcr : Nat) (pho : Nat) (pce : Nat) (pse : Nat) (ppl : Nat) (pen : Int32) (psu : Int32) (pnm : Int32) (pkn : Int32) (pfo : Int32) (da : Nat) (dce : Nat) (dto : Nat) (dle : Nat) (of : Nat → Int32) (lf : Nat → Int32) (fa : Nat) (fw : Int32) (fh : Int32) (wa : Nat) (fc : Int32) (ra : Nat) (sa : Nat) (ta : Nat) (wf : Nat → Int32) (rf : Nat → Int32) (sf : Nat → Int32) (rr : Nat → Nat) (re : Nat → va_E) (x : Int32) (y : Int32) (sz : Nat) (hre : mt_r5 cI re) : Met l y_mr_room w_mr_room ({ frames := 6, cells := 0, slots := 0, locals := 240 }) (va_Pc [.ref ma, .int x, .int y] (mt_B D [(cZ, .boolean), (cI, .int), (cJ, .long), (cII, .array .int)] ([(ma, .inr (6, [.ref fa, .ref ca, .ref pa, .ref da, .ref mve])), (ca, .inr (0, [.ref cfl, .int cn, .ref cs, .ref cg, .ref cto, .ref cq, .ref cco, .ref cnx])), (pa, .inr (4, [.ref pfl, .ref pcr, .ref pho, .ref pce, .ref pse, .ref ppl, .int pen, .int psu, .int pnm, .int pkn, .int pfo])), (da, .inr (2, [.ref dce, .ref dto, .ref dle])), (dto, .inl (cI, 6, .inl of)), (dle, .inl (cI, 6, .inl lf)), (fa, .inr (1, [.int fw, .int fh, .ref wa, .int fc, .ref ra, .ref sa, .ref ta])), (wa, .inl (cZ, 25, .inl wf)), (ra, .inl (cI, 25, .inl rf)), (sa, .inl (cI, 25, .inl sf)), (ta, .inl (cII, 25, .inr (.inr (.inr (.inr (fun i => if i < 25 then some (rr i) else none))))))] ++ mt_rw 25 rr re) sz)) ((fun A => va_Qi (fun (r : Int32) (u : Unit) => ((r = -1 ∧ (x < 1 ∨ 6 < x ∨ y < 1 ∨ 6 < y ∨ ¬ x * y ≤ 25)) ∨ (r = x * y ∧ ¬ x < 1 ∧ ¬ 6 < x ∧ ¬ y < 1 ∧ ¬ 6 < y ∧ x * y ≤ 25)) ∧ (True)) (fun (u : Unit) (t : State) => True) A) (va_A ([(ma, .inr (6, [.ref fa, .ref ca, .ref pa, .ref da, .ref mve])), (ca, .inr (0, [.ref cfl, .int cn, .ref cs, .ref cg, .ref cto, .ref cq, .ref cco, .ref cnx])), (pa, .inr (4, [.ref pfl, .ref pcr, .ref pho, .ref pce, .ref pse, .ref ppl, .int pen, .int psu, .int pnm, .int pkn, .int pfo])), (da, .inr (2, [.ref dce, .ref dto, .ref dle])), (dto, .inl (cI, 6, .inl of)), (dle, .inl (cI, 6, .inl lf)), (fa, .inr (1, [.int fw, .int fh, .ref wa, .int fc, .ref ra, .ref sa, .ref ta])), (wa, .inl (cZ, 25, .inl wf)), (ra, .inl (cI, 25, .inl rf)), (sa, .inl (cI, 25, .inl sf)), (ta, .inl (cII, 25, .inr (.inr (.inr (.inr (fun i => if i < 25 then some (rr i) else none))))))] ++ mt_rw 25 rr re) sz)) 0 0 (va_A ([(ma, .inr (6, [.ref fa, .ref ca, .ref pa, .ref da, .ref mve])), (ca, .inr (0, [.ref cfl, .int cn, .ref cs, .ref cg, .ref cto, .ref cq, .ref cco, .ref cnx])), (pa, .inr (4, [.ref pfl, .ref pcr, .ref pho, .ref pce, .ref pse, .ref ppl, .int pen, .int psu, .int pnm, .int pkn, .int pfo])), (da, .inr (2, [.ref dce, .ref dto, .ref dle])), (dto, .inl (cI, 6, .inl of)), (dle, .inl (cI, 6, .inl lf)), (fa, .inr (1, [.int fw, .int fh, .ref wa, .int fc, .ref ra, .ref sa, .ref ta])), (wa, .inl (cZ, 25, .inl wf)), (ra, .inl (cI, 25, .inl rf)), (sa, .inl (cI, 25, .inl sf)), (ta, .inl (cII, 25, .inr (.inr (.inr (.inr (fun i => if i < 25 then some (rr i) else none))))))] ++ mt_rw 25 rr re) sz) := by
  refine mt_of (y := y_mr_room) (n := 3) (av := [.ref ma, .int x, .int y]) (QF := (fun A => va_Qi (fun (r : Int32) (u : Unit) => ((r = -1 ∧ (x < 1 ∨ 6 < x ∨ y < 1 ∨ 6 < y ∨ ¬ x * y ≤ 25)) ∨ (r = x * y ∧ ¬ x < 1 ∧ ¬ 6 < x ∧ ¬ y < 1 ∧ ¬ 6 < y ∧ x * y ≤ 25)) ∧ (True)) (fun (u : Unit) (t : State) => True) A)) (by decide) (Nat.le_of_ble_eq_true rfl) ?_
  intro p e s m below meth c ls A hx hb hr hlk hml hown hnm hg hl hX hP hK hD hA hS
  obtain ⟨H, hH⟩ : ∃ H : Heap, H = s.heap := ⟨_, rfl⟩
  have hS : va_S A s.heap H [] := by rw [hH]; exact va_S.rf
  rw [← hH] at hP ⊢
  have hown : s.vm.findClass R_mr = some m.cls := hown
  have hl : lv_has ls 3 [(0, .ref ma), (1, .int x), (2, .int y)] := hl
  refine lv_iload_n hx hb d_mr_room_0 rfl (lv_at hl 1 rfl) ?_
  refine lv_iconst (v := 1) hx hb d_mr_room_1 (by decide) ?_
  refine lv_icmp_lt hx hb d_mr_room_2 rfl (fun g1 => ?_) (fun g1 => ?_)
  ·
    refine lv_iconst (v := (-1)) hx hb d_mr_room_30 (by decide) ?_
    exact W.iret hx hb hr (fun t ht hW => ⟨⟨(-1), (), rfl, ⟨Or.inl ⟨rfl, Or.inl g1⟩, trivial⟩, trivial⟩, hS.F ht⟩) hS.2.2 d_mr_room_31
  ·
    refine lv_iload_n hx hb d_mr_room_5 rfl (lv_at hl 1 rfl) ?_
    refine lv_bipush (v := 6) hx hb d_mr_room_6 (by decide) ?_
    refine lv_icmp_gt hx hb d_mr_room_8 rfl (fun g2 => ?_) (fun g2 => ?_)
    ·
      refine lv_iconst (v := (-1)) hx hb d_mr_room_30 (by decide) ?_
      exact W.iret hx hb hr (fun t ht hW => ⟨⟨(-1), (), rfl, ⟨Or.inl ⟨rfl, Or.inr (Or.inl g2)⟩, trivial⟩, trivial⟩, hS.F ht⟩) hS.2.2 d_mr_room_31
    ·
      refine lv_iload_n hx hb d_mr_room_11 rfl (lv_at hl 2 rfl) ?_
      refine lv_iconst (v := 1) hx hb d_mr_room_12 (by decide) ?_
      refine lv_icmp_lt hx hb d_mr_room_13 rfl (fun g3 => ?_) (fun g3 => ?_)
      ·
        refine lv_iconst (v := (-1)) hx hb d_mr_room_30 (by decide) ?_
        exact W.iret hx hb hr (fun t ht hW => ⟨⟨(-1), (), rfl, ⟨Or.inl ⟨rfl, Or.inr (Or.inr (Or.inl g3))⟩, trivial⟩, trivial⟩, hS.F ht⟩) hS.2.2 d_mr_room_31
      ·
        refine lv_iload_n hx hb d_mr_room_16 rfl (lv_at hl 2 rfl) ?_
        refine lv_bipush (v := 6) hx hb d_mr_room_17 (by decide) ?_
        refine lv_icmp_gt hx hb d_mr_room_19 rfl (fun g4 => ?_) (fun g4 => ?_)
        ·
          refine lv_iconst (v := (-1)) hx hb d_mr_room_30 (by decide) ?_
          exact W.iret hx hb hr (fun t ht hW => ⟨⟨(-1), (), rfl, ⟨Or.inl ⟨rfl, Or.inr (Or.inr (Or.inr (Or.inl g4)))⟩, trivial⟩, trivial⟩, hS.F ht⟩) hS.2.2 d_mr_room_31
        ·
          refine lv_iload_n hx hb d_mr_room_22 rfl (lv_at hl 1 rfl) ?_
          refine lv_iload_n hx hb d_mr_room_23 rfl (lv_at hl 2 rfl) ?_
          refine lv_imul hx hb d_mr_room_24 ?_
          refine lv_bipush (v := 25) hx hb d_mr_room_25 (by decide) ?_
          refine lv_icmp_le hx hb d_mr_room_27 rfl (fun g5 => ?_) (fun g5 => ?_)
          ·
            obtain ⟨W0, H0, rfl, rfl, hWH⟩ := mt_dim g1 g2 g3 g4 g5
            have hl : lv_has ls 3 [(0, .ref ma), (1, .int (nI W0)), (2, .int (nI H0))] := hl
            refine lv_aload_n hx hb d_mr_room_32 rfl (lv_at hl 0 rfl) ?_
            refine gf_mr_12 hx hb hg hown hK hP 0 rfl rfl d_mr_room_33 ?_
            refine lv_iload_n hx hb d_mr_room_36 rfl (lv_at hl 1 rfl) ?_
            refine lv_iload_n hx hb d_mr_room_37 rfl (lv_at hl 2 rfl) ?_
            have hPc := hP.sub (ws' := ([(fa, .inr (1, [.int fw, .int fh, .ref wa, .int fc, .ref ra, .ref sa, .ref ta])), (wa, .inl (cZ, 25, .inl wf)), (ra, .inl (cI, 25, .inl rf)), (sa, .inl (cI, 25, .inl sf)), (ta, .inl (cII, 25, .inr (.inr (.inr (.inr (fun i => if i < 25 then some (rr i) else none))))))] ++ mt_rw 25 rr re)) [6, 7, 8, 9, 10, 11, 12, 13, 14, 15, 16, 17, 18, 19, 20, 21, 22, 23, 24, 25, 26, 27, 28, 29, 30, 31, 32, 33, 34, 35] rfl
            have hDc := hD.sub (ws' := ([(fa, .inr (1, [.int fw, .int fh, .ref wa, .int fc, .ref ra, .ref sa, .ref ta])), (wa, .inl (cZ, 25, .inl wf)), (ra, .inl (cI, 25, .inl rf)), (sa, .inl (cI, 25, .inl sf)), (ta, .inl (cII, 25, .inr (.inr (.inr (.inr (fun i => if i < 25 then some (rr i) else none))))))] ++ mt_rw 25 rr re)) [6, 7, 8, 9, 10, 11, 12, 13, 14, 15, 16, 17, 18, 19, 20, 21, 22, 23, 24, 25, 26, 27, 28, 29, 30, 31, 32, 33, 34, 35] (by decide) rfl
            have hFc := va_free (wc := ([(fa, .inr (1, [.int fw, .int fh, .ref wa, .int fc, .ref ra, .ref sa, .ref ta])), (wa, .inl (cZ, 25, .inl wf)), (ra, .inl (cI, 25, .inl rf)), (sa, .inl (cI, 25, .inl sf)), (ta, .inl (cII, 25, .inr (.inr (.inr (.inr (fun i => if i < 25 then some (rr i) else none))))))] ++ mt_rw 25 rr re)) hD hS hA [6, 7, 8, 9, 10, 11, 12, 13, 14, 15, 16, 17, 18, 19, 20, 21, 22, 23, 24, 25, 26, 27, 28, 29, 30, 31, 32, 33, 34, 35] rfl
            refine va_callv (va_runV (As := [.int (nI W0), .int (nI H0)]) (rest := []) ⟨hx, hb, hml, hown, hg⟩ (c_fl_build l D cZ cI cJ cII fa wa fc ra sa ta fw fh wf rf sf rr re W0 H0 H.size hWH hre) (cwV 2 hg gv_mr_50 rfl rfl rfl (by decide +kernel) ⟨Nat.le_of_ble_eq_true rfl, Nat.le_of_ble_eq_true rfl⟩) ⟨mt_bl, va_recv (q0 := 6) (ci := 1) hK hP rfl rfl, mt_pr hX hPc hK hDc⟩ rfl rfl hl.1 rfl (lv_room (Nat.le_of_ble_eq_true rfl)) d_mr_room_38 ⟨Nat.le_of_ble_eq_true rfl, Nat.le_of_ble_eq_true rfl⟩) hS (fun q _ h => hFc q h) hFc (fun u t H1 locs ht hvm hw hB hz1 hk1 hS => ?_)
            obtain ⟨wf12, fc13, rf14, sf15, re16⟩ := u
            have hr1 : (∀ j, j < 25 → wf12 j = 0) ∧ mt_r5 cI re16 := hw
            obtain ⟨hP1, hD1⟩ := hB
            rw [ht] at hP1
            obtain ⟨hP, hD⟩ := va_join (wr := [(ma, .inr (6, [.ref fa, .ref ca, .ref pa, .ref da, .ref mve])), (ca, .inr (0, [.ref cfl, .int cn, .ref cs, .ref cg, .ref cto, .ref cq, .ref cco, .ref cnx])), (pa, .inr (4, [.ref pfl, .ref pcr, .ref pho, .ref pce, .ref pse, .ref ppl, .int pen, .int psu, .int pnm, .int pkn, .int pfo])), (da, .inr (2, [.ref dce, .ref dto, .ref dle])), (dto, .inl (cI, 6, .inl of)), (dle, .inl (cI, 6, .inl lf))]) (w1 := ([(fa, .inr (1, [.int (nI W0), .int (nI H0), .ref wa, .int fc13, .ref ra, .ref sa, .ref ta])), (wa, .inl (cZ, 25, .inl wf12)), (ra, .inl (cI, 25, .inl rf14)), (sa, .inl (cI, 25, .inl sf15)), (ta, .inl (cII, 25, .inr (.inr (.inr (.inr (fun i => if i < 25 then some (rr i) else none))))))] ++ mt_rw 25 rr re16)) hP hD [6, 7, 8, 9, 10, 11, 12, 13, 14, 15, 16, 17, 18, 19, 20, 21, 22, 23, 24, 25, 26, 27, 28, 29, 30, 31, 32, 33, 34, 35] [0, 1, 2, 3, 4, 5] rfl rfl (by decide) (by decide) hk1 hFc hP1 hD1
            generalize H1 = H at hP hS ⊢
            have hP : va_P D kls ([(ma, .inr (6, [.ref fa, .ref ca, .ref pa, .ref da, .ref mve])), (ca, .inr (0, [.ref cfl, .int cn, .ref cs, .ref cg, .ref cto, .ref cq, .ref cco, .ref cnx])), (pa, .inr (4, [.ref pfl, .ref pcr, .ref pho, .ref pce, .ref pse, .ref ppl, .int pen, .int psu, .int pnm, .int pkn, .int pfo])), (da, .inr (2, [.ref dce, .ref dto, .ref dle])), (dto, .inl (cI, 6, .inl of)), (dle, .inl (cI, 6, .inl lf)), (fa, .inr (1, [.int (nI W0), .int (nI H0), .ref wa, .int fc13, .ref ra, .ref sa, .ref ta])), (wa, .inl (cZ, 25, .inl wf12)), (ra, .inl (cI, 25, .inl rf14)), (sa, .inl (cI, 25, .inl sf15)), (ta, .inl (cII, 25, .inr (.inr (.inr (.inr (fun i => if i < 25 then some (rr i) else none))))))] ++ mt_rw 25 rr re16) H := hP
            have hD : va_D A ([(ma, .inr (6, [.ref fa, .ref ca, .ref pa, .ref da, .ref mve])), (ca, .inr (0, [.ref cfl, .int cn, .ref cs, .ref cg, .ref cto, .ref cq, .ref cco, .ref cnx])), (pa, .inr (4, [.ref pfl, .ref pcr, .ref pho, .ref pce, .ref pse, .ref ppl, .int pen, .int psu, .int pnm, .int pkn, .int pfo])), (da, .inr (2, [.ref dce, .ref dto, .ref dle])), (dto, .inl (cI, 6, .inl of)), (dle, .inl (cI, 6, .inl lf)), (fa, .inr (1, [.int (nI W0), .int (nI H0), .ref wa, .int fc13, .ref ra, .ref sa, .ref ta])), (wa, .inl (cZ, 25, .inl wf12)), (ra, .inl (cI, 25, .inl rf14)), (sa, .inl (cI, 25, .inl sf15)), (ta, .inl (cII, 25, .inr (.inr (.inr (.inr (fun i => if i < 25 then some (rr i) else none))))))] ++ mt_rw 25 rr re16) := hD
            refine lv_aload_n hx hb d_mr_room_41 rfl (lv_at hl 0 rfl) ?_
            refine gf_mr_21 hx hb hg hown hK hP 0 rfl rfl d_mr_room_42 ?_
            have hPc := hP.sub (ws' := [(ca, .inr (0, [.ref cfl, .int cn, .ref cs, .ref cg, .ref cto, .ref cq, .ref cco, .ref cnx]))]) [1] rfl
            have hDc := hD.sub (ws' := [(ca, .inr (0, [.ref cfl, .int cn, .ref cs, .ref cg, .ref cto, .ref cq, .ref cco, .ref cnx]))]) [1] (by decide) rfl
            have hFc := va_free (wc := [(ca, .inr (0, [.ref cfl, .int cn, .ref cs, .ref cg, .ref cto, .ref cq, .ref cco, .ref cnx]))]) hD hS hA [1] rfl
            refine va_callv (va_runV (As := []) (rest := []) ⟨hx, hb, hml, hown, hg⟩ (c_cr_dismiss l D cZ cI cJ cII ca cfl cn cs cg cto cq cco cnx H.size ) (cwV 0 hg gv_mr_54 rfl rfl rfl (by decide +kernel) ⟨Nat.le_of_ble_eq_true rfl, Nat.le_of_ble_eq_true rfl⟩) ⟨mt_bl, va_recv (q0 := 1) (ci := 0) hK hP rfl rfl, mt_pr hX hPc hK hDc⟩ rfl rfl hl.1 rfl (lv_room (Nat.le_of_ble_eq_true rfl)) d_mr_room_45 ⟨Nat.le_of_ble_eq_true rfl, Nat.le_of_ble_eq_true rfl⟩) hS (fun q _ h => hFc q h) hFc (fun u t H1 locs ht hvm hw hB hz1 hk1 hS => ?_)
            obtain ⟨hP1, hD1⟩ := hB
            rw [ht] at hP1
            obtain ⟨hP, hD⟩ := va_join (wr := ([(ma, .inr (6, [.ref fa, .ref ca, .ref pa, .ref da, .ref mve])), (pa, .inr (4, [.ref pfl, .ref pcr, .ref pho, .ref pce, .ref pse, .ref ppl, .int pen, .int psu, .int pnm, .int pkn, .int pfo])), (da, .inr (2, [.ref dce, .ref dto, .ref dle])), (dto, .inl (cI, 6, .inl of)), (dle, .inl (cI, 6, .inl lf)), (fa, .inr (1, [.int (nI W0), .int (nI H0), .ref wa, .int fc13, .ref ra, .ref sa, .ref ta])), (wa, .inl (cZ, 25, .inl wf12)), (ra, .inl (cI, 25, .inl rf14)), (sa, .inl (cI, 25, .inl sf15)), (ta, .inl (cII, 25, .inr (.inr (.inr (.inr (fun i => if i < 25 then some (rr i) else none))))))] ++ mt_rw 25 rr re16)) (w1 := [(ca, .inr (0, [.ref cfl, .int 0, .ref cs, .ref cg, .ref cto, .ref cq, .ref cco, .ref cnx]))]) hP hD [1] [0, 2, 3, 4, 5, 6, 7, 8, 9, 10, 11, 12, 13, 14, 15, 16, 17, 18, 19, 20, 21, 22, 23, 24, 25, 26, 27, 28, 29, 30, 31, 32, 33, 34, 35] rfl rfl (by decide) (by decide) hk1 hFc hP1 hD1
            generalize H1 = H at hP hS ⊢
            have hP : va_P D kls (([(ma, .inr (6, [.ref fa, .ref ca, .ref pa, .ref da, .ref mve])), (pa, .inr (4, [.ref pfl, .ref pcr, .ref pho, .ref pce, .ref pse, .ref ppl, .int pen, .int psu, .int pnm, .int pkn, .int pfo])), (da, .inr (2, [.ref dce, .ref dto, .ref dle])), (dto, .inl (cI, 6, .inl of)), (dle, .inl (cI, 6, .inl lf)), (fa, .inr (1, [.int (nI W0), .int (nI H0), .ref wa, .int fc13, .ref ra, .ref sa, .ref ta])), (wa, .inl (cZ, 25, .inl wf12)), (ra, .inl (cI, 25, .inl rf14)), (sa, .inl (cI, 25, .inl sf15)), (ta, .inl (cII, 25, .inr (.inr (.inr (.inr (fun i => if i < 25 then some (rr i) else none))))))] ++ mt_rw 25 rr re16) ++ [(ca, .inr (0, [.ref cfl, .int 0, .ref cs, .ref cg, .ref cto, .ref cq, .ref cco, .ref cnx]))]) H := hP
            have hD : va_D A (([(ma, .inr (6, [.ref fa, .ref ca, .ref pa, .ref da, .ref mve])), (pa, .inr (4, [.ref pfl, .ref pcr, .ref pho, .ref pce, .ref pse, .ref ppl, .int pen, .int psu, .int pnm, .int pkn, .int pfo])), (da, .inr (2, [.ref dce, .ref dto, .ref dle])), (dto, .inl (cI, 6, .inl of)), (dle, .inl (cI, 6, .inl lf)), (fa, .inr (1, [.int (nI W0), .int (nI H0), .ref wa, .int fc13, .ref ra, .ref sa, .ref ta])), (wa, .inl (cZ, 25, .inl wf12)), (ra, .inl (cI, 25, .inl rf14)), (sa, .inl (cI, 25, .inl sf15)), (ta, .inl (cII, 25, .inr (.inr (.inr (.inr (fun i => if i < 25 then some (rr i) else none))))))] ++ mt_rw 25 rr re16) ++ [(ca, .inr (0, [.ref cfl, .int 0, .ref cs, .ref cg, .ref cto, .ref cq, .ref cco, .ref cnx]))]) := hD
            refine lv_aload_n hx hb d_mr_room_48 rfl (lv_at hl 0 rfl) ?_
            refine gf_mr_30 hx hb hg hown hK hP 0 rfl rfl d_mr_room_49 ?_
            have hPc := hP.sub (ws' := [(pa, .inr (4, [.ref pfl, .ref pcr, .ref pho, .ref pce, .ref pse, .ref ppl, .int pen, .int psu, .int pnm, .int pkn, .int pfo]))]) [1] rfl
            have hDc := hD.sub (ws' := [(pa, .inr (4, [.ref pfl, .ref pcr, .ref pho, .ref pce, .ref pse, .ref ppl, .int pen, .int psu, .int pnm, .int pkn, .int pfo]))]) [1] (by decide) rfl
            have hFc := va_free (wc := [(pa, .inr (4, [.ref pfl, .ref pcr, .ref pho, .ref pce, .ref pse, .ref ppl, .int pen, .int psu, .int pnm, .int pkn, .int pfo]))]) hD hS hA [1] rfl
            refine va_callv (va_runV (As := []) (rest := []) ⟨hx, hb, hml, hown, hg⟩ (c_pn_forget l D cZ cI cJ cII pa pfl pcr pho pce pse ppl pen psu pnm pkn pfo H.size ) (cwV 0 hg gv_mr_57 rfl rfl rfl (by decide +kernel) ⟨Nat.le_of_ble_eq_true rfl, Nat.le_of_ble_eq_true rfl⟩) ⟨mt_bl, va_recv (q0 := 1) (ci := 4) hK hP rfl rfl, mt_pr hX hPc hK hDc⟩ rfl rfl hl.1 rfl (lv_room (Nat.le_of_ble_eq_true rfl)) d_mr_room_52 ⟨Nat.le_of_ble_eq_true rfl, Nat.le_of_ble_eq_true rfl⟩) hS (fun q _ h => hFc q h) hFc (fun u t H1 locs ht hvm hw hB hz1 hk1 hS => ?_)
            obtain ⟨hP1, hD1⟩ := hB
            rw [ht] at hP1
            obtain ⟨hP, hD⟩ := va_join (wr := (([(ma, .inr (6, [.ref fa, .ref ca, .ref pa, .ref da, .ref mve])), (da, .inr (2, [.ref dce, .ref dto, .ref dle])), (dto, .inl (cI, 6, .inl of)), (dle, .inl (cI, 6, .inl lf)), (fa, .inr (1, [.int (nI W0), .int (nI H0), .ref wa, .int fc13, .ref ra, .ref sa, .ref ta])), (wa, .inl (cZ, 25, .inl wf12)), (ra, .inl (cI, 25, .inl rf14)), (sa, .inl (cI, 25, .inl sf15)), (ta, .inl (cII, 25, .inr (.inr (.inr (.inr (fun i => if i < 25 then some (rr i) else none))))))] ++ mt_rw 25 rr re16) ++ [(ca, .inr (0, [.ref cfl, .int 0, .ref cs, .ref cg, .ref cto, .ref cq, .ref cco, .ref cnx]))])) (w1 := [(pa, .inr (4, [.ref pfl, .ref pcr, .ref pho, .ref pce, .ref pse, .ref ppl, .int pen, .int psu, .int 0, .int 0, .int 0]))]) hP hD [1] [0, 2, 3, 4, 5, 6, 7, 8, 9, 10, 11, 12, 13, 14, 15, 16, 17, 18, 19, 20, 21, 22, 23, 24, 25, 26, 27, 28, 29, 30, 31, 32, 33, 34, 35] rfl rfl (by decide) (by decide) hk1 hFc hP1 hD1
            generalize H1 = H at hP hS ⊢
            have hP : va_P D kls (([(ma, .inr (6, [.ref fa, .ref ca, .ref pa, .ref da, .ref mve])), (da, .inr (2, [.ref dce, .ref dto, .ref dle])), (dto, .inl (cI, 6, .inl of)), (dle, .inl (cI, 6, .inl lf)), (fa, .inr (1, [.int (nI W0), .int (nI H0), .ref wa, .int fc13, .ref ra, .ref sa, .ref ta])), (wa, .inl (cZ, 25, .inl wf12)), (ra, .inl (cI, 25, .inl rf14)), (sa, .inl (cI, 25, .inl sf15)), (ta, .inl (cII, 25, .inr (.inr (.inr (.inr (fun i => if i < 25 then some (rr i) else none))))))] ++ mt_rw 25 rr re16) ++ [(ca, .inr (0, [.ref cfl, .int 0, .ref cs, .ref cg, .ref cto, .ref cq, .ref cco, .ref cnx])), (pa, .inr (4, [.ref pfl, .ref pcr, .ref pho, .ref pce, .ref pse, .ref ppl, .int pen, .int psu, .int 0, .int 0, .int 0]))]) H := hP
            have hD : va_D A (([(ma, .inr (6, [.ref fa, .ref ca, .ref pa, .ref da, .ref mve])), (da, .inr (2, [.ref dce, .ref dto, .ref dle])), (dto, .inl (cI, 6, .inl of)), (dle, .inl (cI, 6, .inl lf)), (fa, .inr (1, [.int (nI W0), .int (nI H0), .ref wa, .int fc13, .ref ra, .ref sa, .ref ta])), (wa, .inl (cZ, 25, .inl wf12)), (ra, .inl (cI, 25, .inl rf14)), (sa, .inl (cI, 25, .inl sf15)), (ta, .inl (cII, 25, .inr (.inr (.inr (.inr (fun i => if i < 25 then some (rr i) else none))))))] ++ mt_rw 25 rr re16) ++ [(ca, .inr (0, [.ref cfl, .int 0, .ref cs, .ref cg, .ref cto, .ref cq, .ref cco, .ref cnx])), (pa, .inr (4, [.ref pfl, .ref pcr, .ref pho, .ref pce, .ref pse, .ref ppl, .int pen, .int psu, .int 0, .int 0, .int 0]))]) := hD
            refine lv_aload_n hx hb d_mr_room_55 rfl (lv_at hl 0 rfl) ?_
            refine gf_mr_37 hx hb hg hown hK hP 0 rfl rfl d_mr_room_56 ?_
            have hPc := hP.sub (ws' := [(da, .inr (2, [.ref dce, .ref dto, .ref dle])), (dto, .inl (cI, 6, .inl of)), (dle, .inl (cI, 6, .inl lf))]) [1, 2, 3] rfl
            have hDc := hD.sub (ws' := [(da, .inr (2, [.ref dce, .ref dto, .ref dle])), (dto, .inl (cI, 6, .inl of)), (dle, .inl (cI, 6, .inl lf))]) [1, 2, 3] (by decide) rfl
            have hFc := va_free (wc := [(da, .inr (2, [.ref dce, .ref dto, .ref dle])), (dto, .inl (cI, 6, .inl of)), (dle, .inl (cI, 6, .inl lf))]) hD hS hA [1, 2, 3] rfl
            refine va_callv (va_runV (As := []) (rest := []) ⟨hx, hb, hml, hown, hg⟩ (c_ld_forget l D cZ cI cJ cII da dce dto dle of lf H.size ) (cwV 0 hg gv_mr_60 rfl rfl rfl (by decide +kernel) ⟨Nat.le_of_ble_eq_true rfl, Nat.le_of_ble_eq_true rfl⟩) ⟨mt_bl, va_recv (q0 := 1) (ci := 2) hK hP rfl rfl, mt_pr hX hPc hK hDc⟩ rfl rfl hl.1 rfl (lv_room (Nat.le_of_ble_eq_true rfl)) d_mr_room_59 ⟨Nat.le_of_ble_eq_true rfl, Nat.le_of_ble_eq_true rfl⟩) hS (fun q _ h => hFc q h) hFc (fun u t H1 locs ht hvm hw hB hz1 hk1 hS => ?_)
            obtain ⟨of110, lf111⟩ := u
            obtain ⟨hP1, hD1⟩ := hB
            rw [ht] at hP1
            obtain ⟨hP, hD⟩ := va_join (wr := (([(ma, .inr (6, [.ref fa, .ref ca, .ref pa, .ref da, .ref mve])), (fa, .inr (1, [.int (nI W0), .int (nI H0), .ref wa, .int fc13, .ref ra, .ref sa, .ref ta])), (wa, .inl (cZ, 25, .inl wf12)), (ra, .inl (cI, 25, .inl rf14)), (sa, .inl (cI, 25, .inl sf15)), (ta, .inl (cII, 25, .inr (.inr (.inr (.inr (fun i => if i < 25 then some (rr i) else none))))))] ++ mt_rw 25 rr re16) ++ [(ca, .inr (0, [.ref cfl, .int 0, .ref cs, .ref cg, .ref cto, .ref cq, .ref cco, .ref cnx])), (pa, .inr (4, [.ref pfl, .ref pcr, .ref pho, .ref pce, .ref pse, .ref ppl, .int pen, .int psu, .int 0, .int 0, .int 0]))])) (w1 := [(da, .inr (2, [.ref dce, .ref dto, .ref dle])), (dto, .inl (cI, 6, .inl of110)), (dle, .inl (cI, 6, .inl lf111))]) hP hD [1, 2, 3] [0, 4, 5, 6, 7, 8, 9, 10, 11, 12, 13, 14, 15, 16, 17, 18, 19, 20, 21, 22, 23, 24, 25, 26, 27, 28, 29, 30, 31, 32, 33, 34, 35] rfl rfl (by decide) (by decide) hk1 hFc hP1 hD1
            generalize H1 = H at hP hS ⊢
            have hP : va_P D kls (([(ma, .inr (6, [.ref fa, .ref ca, .ref pa, .ref da, .ref mve])), (fa, .inr (1, [.int (nI W0), .int (nI H0), .ref wa, .int fc13, .ref ra, .ref sa, .ref ta])), (wa, .inl (cZ, 25, .inl wf12)), (ra, .inl (cI, 25, .inl rf14)), (sa, .inl (cI, 25, .inl sf15)), (ta, .inl (cII, 25, .inr (.inr (.inr (.inr (fun i => if i < 25 then some (rr i) else none))))))] ++ mt_rw 25 rr re16) ++ [(ca, .inr (0, [.ref cfl, .int 0, .ref cs, .ref cg, .ref cto, .ref cq, .ref cco, .ref cnx])), (pa, .inr (4, [.ref pfl, .ref pcr, .ref pho, .ref pce, .ref pse, .ref ppl, .int pen, .int psu, .int 0, .int 0, .int 0])), (da, .inr (2, [.ref dce, .ref dto, .ref dle])), (dto, .inl (cI, 6, .inl of110)), (dle, .inl (cI, 6, .inl lf111))]) H := hP
            have hD : va_D A (([(ma, .inr (6, [.ref fa, .ref ca, .ref pa, .ref da, .ref mve])), (fa, .inr (1, [.int (nI W0), .int (nI H0), .ref wa, .int fc13, .ref ra, .ref sa, .ref ta])), (wa, .inl (cZ, 25, .inl wf12)), (ra, .inl (cI, 25, .inl rf14)), (sa, .inl (cI, 25, .inl sf15)), (ta, .inl (cII, 25, .inr (.inr (.inr (.inr (fun i => if i < 25 then some (rr i) else none))))))] ++ mt_rw 25 rr re16) ++ [(ca, .inr (0, [.ref cfl, .int 0, .ref cs, .ref cg, .ref cto, .ref cq, .ref cco, .ref cnx])), (pa, .inr (4, [.ref pfl, .ref pcr, .ref pho, .ref pce, .ref pse, .ref ppl, .int pen, .int psu, .int 0, .int 0, .int 0])), (da, .inr (2, [.ref dce, .ref dto, .ref dle])), (dto, .inl (cI, 6, .inl of110)), (dle, .inl (cI, 6, .inl lf111))]) := hD
            refine lv_iload_n hx hb d_mr_room_62 rfl (lv_at hl 1 rfl) ?_
            refine lv_iload_n hx hb d_mr_room_63 rfl (lv_at hl 2 rfl) ?_
            refine lv_imul hx hb d_mr_room_64 ?_
            exact W.iret hx hb hr (fun t ht hW => ⟨⟨(nI W0) * (nI H0), (), rfl, ⟨Or.inr ⟨rfl, g1, g2, g3, g4, g5⟩, trivial⟩, trivial⟩, hS.F ht⟩) hS.2.2 d_mr_room_65
          ·
            refine lv_iconst (v := (-1)) hx hb d_mr_room_30 (by decide) ?_
            exact W.iret hx hb hr (fun t ht hW => ⟨⟨(-1), (), rfl, ⟨Or.inl ⟨rfl, Or.inr (Or.inr (Or.inr (Or.inr g5)))⟩, trivial⟩, trivial⟩, hS.F ht⟩) hS.2.2 d_mr_room_31
