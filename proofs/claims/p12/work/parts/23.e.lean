theorem wz_up {kk : Nat → Int64} {z : Nat} {v : Int64} {P : Nat → Int64 → Prop} (h : ∀ c, c < z → P c (kk c)) (hn : P z v) : ∀ c, c < z + 1 → P c (vp_updL kk z v c) := by
  intro c hc
  by_cases e : c = z
  · subst e; rw [pk_uLs]; exact hn
  · rw [pk_uLn e]; exact h c (by omega)

set_option maxHeartbeats 4000000 in
set_option maxRecDepth 100000 in
theorem c_cr_spreadCounts (l : Launch) (D : va_G) (cZ cI cJ cII : ClassId) (ca : Nat) (cn : Int32) (cs : Nat) (cg : Nat) (cto : Nat) (cq : Nat) (cco : Nat) (cnx : Nat) (fa : Nat) (wa : Nat) (fc : Int32) (ra : Nat) (sa : Nat) (ta : Nat) (k1 : Nat → Int64) (k2 : Nat → Int64) (wf : Nat → Int32) (sf : Nat → Int32) (rr : Nat → Nat) (Ms : Nat → Nat → Int32) (W0 : Nat) (H0 : Nat) (rf : Nat → Int32) (sz : Nat) (hN : W0 * H0 ≤ 25) (hOk : fx_Ok W0 (W0 * H0) wf rf sf Ms (W0 * H0)) : Met l y_cr_spreadCounts w_cr_spreadCounts ({ frames := 2, cells := 0, slots := 0, locals := 80 }) (va_Pc [.ref ca] (mt_B D [(cZ, .boolean), (cI, .int), (cJ, .long), (cII, .array .int)] ([(ca, .inr (0, [.ref fa, .int cn, .ref cs, .ref cg, .ref cto, .ref cq, .ref cco, .ref cnx])), (fa, .inr (1, [.int (nI W0), .int (nI H0), .ref wa, .int fc, .ref ra, .ref sa, .ref ta])), (wa, .inl (cZ, 25, .inl wf)), (cco, .inl (cJ, 25, .inr (.inl k1))), (cnx, .inl (cJ, 25, .inr (.inl k2))), (sa, .inl (cI, 25, .inl sf)), (ta, .inl (cII, 25, .inr (.inr (.inr (.inr (fun i => if i < 25 then some (rr i) else none))))))] ++ mt_rw 25 rr (fun i => .inl (cI, 5, .inl (Ms i)))) sz)) ((fun A => va_Qv (fun (u : (Nat → Int64)) => ∀ c, c < 25 → u c = if c < W0 * H0 ∧ wf c = 0 then wz_sum k1 (Ms c) (sf c).toNatClampNeg else 0) (fun (u : (Nat → Int64)) (t : State) => mt_O D A ([(ca, .inr (0, [.ref fa, .int cn, .ref cs, .ref cg, .ref cto, .ref cq, .ref cnx, .ref cco])), (fa, .inr (1, [.int (nI W0), .int (nI H0), .ref wa, .int fc, .ref ra, .ref sa, .ref ta])), (wa, .inl (cZ, 25, .inl wf)), (cnx, .inl (cJ, 25, .inr (.inl u))), (cco, .inl (cJ, 25, .inr (.inl k1))), (sa, .inl (cI, 25, .inl sf)), (ta, .inl (cII, 25, .inr (.inr (.inr (.inr (fun i => if i < 25 then some (rr i) else none))))))] ++ mt_rw 25 rr (fun i => .inl (cI, 5, .inl (Ms i)))) t) A) (va_A ([(ca, .inr (0, [.ref fa, .int cn, .ref cs, .ref cg, .ref cto, .ref cq, .ref cco, .ref cnx])), (fa, .inr (1, [.int (nI W0), .int (nI H0), .ref wa, .int fc, .ref ra, .ref sa, .ref ta])), (wa, .inl (cZ, 25, .inl wf)), (cco, .inl (cJ, 25, .inr (.inl k1))), (cnx, .inl (cJ, 25, .inr (.inl k2))), (sa, .inl (cI, 25, .inl sf)), (ta, .inl (cII, 25, .inr (.inr (.inr (.inr (fun i => if i < 25 then some (rr i) else none))))))] ++ mt_rw 25 rr (fun i => .inl (cI, 5, .inl (Ms i)))) sz)) 0 0 (va_A ([(ca, .inr (0, [.ref fa, .int cn, .ref cs, .ref cg, .ref cto, .ref cq, .ref cco, .ref cnx])), (fa, .inr (1, [.int (nI W0), .int (nI H0), .ref wa, .int fc, .ref ra, .ref sa, .ref ta])), (wa, .inl (cZ, 25, .inl wf)), (cco, .inl (cJ, 25, .inr (.inl k1))), (cnx, .inl (cJ, 25, .inr (.inl k2))), (sa, .inl (cI, 25, .inl sf)), (ta, .inl (cII, 25, .inr (.inr (.inr (.inr (fun i => if i < 25 then some (rr i) else none))))))] ++ mt_rw 25 rr (fun i => .inl (cI, 5, .inl (Ms i)))) sz) := by
  refine mt_of (y := y_cr_spreadCounts) (n := 2) (av := [.ref ca]) (QF := (fun A => va_Qv (fun (u : (Nat → Int64)) => ∀ c, c < 25 → u c = if c < W0 * H0 ∧ wf c = 0 then wz_sum k1 (Ms c) (sf c).toNatClampNeg else 0) (fun (u : (Nat → Int64)) (t : State) => mt_O D A ([(ca, .inr (0, [.ref fa, .int cn, .ref cs, .ref cg, .ref cto, .ref cq, .ref cnx, .ref cco])), (fa, .inr (1, [.int (nI W0), .int (nI H0), .ref wa, .int fc, .ref ra, .ref sa, .ref ta])), (wa, .inl (cZ, 25, .inl wf)), (cnx, .inl (cJ, 25, .inr (.inl u))), (cco, .inl (cJ, 25, .inr (.inl k1))), (sa, .inl (cI, 25, .inl sf)), (ta, .inl (cII, 25, .inr (.inr (.inr (.inr (fun i => if i < 25 then some (rr i) else none))))))] ++ mt_rw 25 rr (fun i => .inl (cI, 5, .inl (Ms i)))) t) A)) (by decide) (Nat.le_of_ble_eq_true rfl) ?_
  intro p e s m below meth c ls A hx hb hr hlk hml hown hnm hg hl hX hP hK hD hA hS
  obtain ⟨H, hH⟩ : ∃ H : Heap, H = s.heap := ⟨_, rfl⟩
  have hS : va_S A s.heap H [] := by rw [hH]; exact va_S.rf
  rw [← hH] at hP ⊢
  have hown : s.vm.findClass R_cr = some m.cls := hown
  have hl : lv_has ls 2 [(0, .ref ca)] := hl
  refine lv_iconst (v := 0) hx hb d_cr_spreadCounts_0 (by decide) ?_
  refine lv_istore_n hx hb d_cr_spreadCounts_1 rfl hl (by decide) rfl (fun ls hl => ?_)
  have hl : lv_has ls 2 [(1, .int 0), (0, .ref ca)] := hl
  have hl := lv_sub hl [0, 1] (l' := [(1, .int (nI 0)), (0, .ref ca)]) rfl
  refine mt_loop (ι := Nat × (Nat → Int64)) (I := fun ix ls H locs => ((ix.1) ≤ 25) ∧ (∀ c, c < (ix.1) → (ix.2) c = if c < W0 * H0 ∧ wf c = 0 then wz_sum k1 (Ms c) (sf c).toNatClampNeg else 0) ∧ lv_has ls 2 [(1, .int (nI (ix.1))), (0, .ref ca)] ∧ va_P D kls ([(ca, .inr (0, [.ref fa, .int cn, .ref cs, .ref cg, .ref cto, .ref cq, .ref cco, .ref cnx])), (fa, .inr (1, [.int (nI W0), .int (nI H0), .ref wa, .int fc, .ref ra, .ref sa, .ref ta])), (wa, .inl (cZ, 25, .inl wf)), (cco, .inl (cJ, 25, .inr (.inl k1))), (cnx, .inl (cJ, 25, .inr (.inl (ix.2)))), (sa, .inl (cI, 25, .inl sf)), (ta, .inl (cII, 25, .inr (.inr (.inr (.inr (fun i => if i < 25 then some (rr i) else none))))))] ++ mt_rw 25 rr (fun i => .inl (cI, 5, .inl (Ms i)))) H ∧ va_D A ([(ca, .inr (0, [.ref fa, .int cn, .ref cs, .ref cg, .ref cto, .ref cq, .ref cco, .ref cnx])), (fa, .inr (1, [.int (nI W0), .int (nI H0), .ref wa, .int fc, .ref ra, .ref sa, .ref ta])), (wa, .inl (cZ, 25, .inl wf)), (cco, .inl (cJ, 25, .inr (.inl k1))), (cnx, .inl (cJ, 25, .inr (.inl (ix.2)))), (sa, .inl (cI, 25, .inl sf)), (ta, .inl (cII, 25, .inr (.inr (.inr (.inr (fun i => if i < 25 then some (rr i) else none))))))] ++ mt_rw 25 rr (fun i => .inl (cI, 5, .inl (Ms i)))) ∧ va_S A s.heap H locs) (μ := fun ix => 25 - (ix.1)) ?_ (0, k2) ls H _ ⟨Nat.zero_le _, fun c h => absurd h (Nat.not_lt_zero _), hl, hP, hD, hS⟩
  clear hl hP hD hS
  intro i_a ls H locs ⟨hz, hkk, hl, hP, hD, hS⟩ ih_a
  obtain ⟨z, kk⟩ := i_a
  have hz : z ≤ 25 := hz
  have hkk : ∀ c, c < z → kk c = if c < W0 * H0 ∧ wf c = 0 then wz_sum k1 (Ms c) (sf c).toNatClampNeg else 0 := hkk
  have hl : lv_has ls 2 [(1, .int (nI z)), (0, .ref ca)] := hl
  have hP : va_P D kls ([(ca, .inr (0, [.ref fa, .int cn, .ref cs, .ref cg, .ref cto, .ref cq, .ref cco, .ref cnx])), (fa, .inr (1, [.int (nI W0), .int (nI H0), .ref wa, .int fc, .ref ra, .ref sa, .ref ta])), (wa, .inl (cZ, 25, .inl wf)), (cco, .inl (cJ, 25, .inr (.inl k1))), (cnx, .inl (cJ, 25, .inr (.inl kk))), (sa, .inl (cI, 25, .inl sf)), (ta, .inl (cII, 25, .inr (.inr (.inr (.inr (fun i => if i < 25 then some (rr i) else none))))))] ++ mt_rw 25 rr (fun i => .inl (cI, 5, .inl (Ms i)))) H := hP
  have hD : va_D A ([(ca, .inr (0, [.ref fa, .int cn, .ref cs, .ref cg, .ref cto, .ref cq, .ref cco, .ref cnx])), (fa, .inr (1, [.int (nI W0), .int (nI H0), .ref wa, .int fc, .ref ra, .ref sa, .ref ta])), (wa, .inl (cZ, 25, .inl wf)), (cco, .inl (cJ, 25, .inr (.inl k1))), (cnx, .inl (cJ, 25, .inr (.inl kk))), (sa, .inl (cI, 25, .inl sf)), (ta, .inl (cII, 25, .inr (.inr (.inr (.inr (fun i => if i < 25 then some (rr i) else none))))))] ++ mt_rw 25 rr (fun i => .inl (cI, 5, .inl (Ms i)))) := hD
  refine lv_iload_n hx hb d_cr_spreadCounts_2 rfl (lv_at hl 0 rfl) ?_
  refine lv_bipush (v := 25) hx hb d_cr_spreadCounts_3 (by decide) ?_
  refine lv_icmp_ge hx hb d_cr_spreadCounts_5 rfl (fun g1 => ?_) (fun g1 => ?_)
  ·
    have g2 : 25 ≤ z := by rcases Nat.lt_or_ge z 25 with h | h; exact absurd g1 (nI_ge (b := 25) h (by omega)); exact h
    refine lv_aload_n hx hb d_cr_spreadCounts_40 rfl (lv_at hl 1 rfl) ?_
    refine gf_cr_26 hx hb hg hown hK hP 0 rfl rfl d_cr_spreadCounts_41 ?_
    refine lv_astore_n hx hb d_cr_spreadCounts_44 rfl hl (by decide) rfl (fun ls hl => ?_)
    have hl : lv_has ls 2 [(1, .ref cco), (0, .ref ca)] := hl
    refine lv_aload_n hx hb d_cr_spreadCounts_45 rfl (lv_at hl 1 rfl) ?_
    refine lv_aload_n hx hb d_cr_spreadCounts_46 rfl (lv_at hl 1 rfl) ?_
    refine gf_cr_30 hx hb hg hown hK hP 0 rfl rfl d_cr_spreadCounts_47 ?_
    refine pf_cr_26 hx hb hg hown hK hP hD hS 0 rfl rfl rfl (Nat.le_of_ble_eq_true rfl) d_cr_spreadCounts_50 (fun H locs hP hD hS => ?_)
    have hP : va_P D kls ([(ca, .inr (0, [.ref fa, .int cn, .ref cs, .ref cg, .ref cto, .ref cq, .ref cnx, .ref cnx])), (fa, .inr (1, [.int (nI W0), .int (nI H0), .ref wa, .int fc, .ref ra, .ref sa, .ref ta])), (wa, .inl (cZ, 25, .inl wf)), (cco, .inl (cJ, 25, .inr (.inl k1))), (cnx, .inl (cJ, 25, .inr (.inl kk))), (sa, .inl (cI, 25, .inl sf)), (ta, .inl (cII, 25, .inr (.inr (.inr (.inr (fun i => if i < 25 then some (rr i) else none))))))] ++ mt_rw 25 rr (fun i => .inl (cI, 5, .inl (Ms i)))) H := hP
    have hD : va_D A ([(ca, .inr (0, [.ref fa, .int cn, .ref cs, .ref cg, .ref cto, .ref cq, .ref cnx, .ref cnx])), (fa, .inr (1, [.int (nI W0), .int (nI H0), .ref wa, .int fc, .ref ra, .ref sa, .ref ta])), (wa, .inl (cZ, 25, .inl wf)), (cco, .inl (cJ, 25, .inr (.inl k1))), (cnx, .inl (cJ, 25, .inr (.inl kk))), (sa, .inl (cI, 25, .inl sf)), (ta, .inl (cII, 25, .inr (.inr (.inr (.inr (fun i => if i < 25 then some (rr i) else none))))))] ++ mt_rw 25 rr (fun i => .inl (cI, 5, .inl (Ms i)))) := hD
    refine lv_aload_n hx hb d_cr_spreadCounts_53 rfl (lv_at hl 1 rfl) ?_
    refine lv_aload_n hx hb d_cr_spreadCounts_54 rfl (lv_at hl 0 rfl) ?_
    refine pf_cr_30 hx hb hg hown hK hP hD hS 0 rfl rfl rfl (Nat.le_of_ble_eq_true rfl) d_cr_spreadCounts_55 (fun H locs hP hD hS => ?_)
    have hP : va_P D kls ([(ca, .inr (0, [.ref fa, .int cn, .ref cs, .ref cg, .ref cto, .ref cq, .ref cnx, .ref cco])), (fa, .inr (1, [.int (nI W0), .int (nI H0), .ref wa, .int fc, .ref ra, .ref sa, .ref ta])), (wa, .inl (cZ, 25, .inl wf)), (cco, .inl (cJ, 25, .inr (.inl k1))), (cnx, .inl (cJ, 25, .inr (.inl kk))), (sa, .inl (cI, 25, .inl sf)), (ta, .inl (cII, 25, .inr (.inr (.inr (.inr (fun i => if i < 25 then some (rr i) else none))))))] ++ mt_rw 25 rr (fun i => .inl (cI, 5, .inl (Ms i)))) H := hP
    have hD : va_D A ([(ca, .inr (0, [.ref fa, .int cn, .ref cs, .ref cg, .ref cto, .ref cq, .ref cnx, .ref cco])), (fa, .inr (1, [.int (nI W0), .int (nI H0), .ref wa, .int fc, .ref ra, .ref sa, .ref ta])), (wa, .inl (cZ, 25, .inl wf)), (cco, .inl (cJ, 25, .inr (.inl k1))), (cnx, .inl (cJ, 25, .inr (.inl kk))), (sa, .inl (cI, 25, .inl sf)), (ta, .inl (cII, 25, .inr (.inr (.inr (.inr (fun i => if i < 25 then some (rr i) else none))))))] ++ mt_rw 25 rr (fun i => .inl (cI, 5, .inl (Ms i)))) := hD
    have hP9 := hP.sub (ws' := ([(ca, .inr (0, [.ref fa, .int cn, .ref cs, .ref cg, .ref cto, .ref cq, .ref cnx, .ref cco])), (fa, .inr (1, [.int (nI W0), .int (nI H0), .ref wa, .int fc, .ref ra, .ref sa, .ref ta])), (wa, .inl (cZ, 25, .inl wf)), (cnx, .inl (cJ, 25, .inr (.inl kk))), (cco, .inl (cJ, 25, .inr (.inl k1))), (sa, .inl (cI, 25, .inl sf)), (ta, .inl (cII, 25, .inr (.inr (.inr (.inr (fun i => if i < 25 then some (rr i) else none))))))] ++ mt_rw 25 rr (fun i => .inl (cI, 5, .inl (Ms i))))) [0, 1, 2, 4, 3, 5, 6, 7, 8, 9, 10, 11, 12, 13, 14, 15, 16, 17, 18, 19, 20, 21, 22, 23, 24, 25, 26, 27, 28, 29, 30, 31] rfl
    have hD9 := hD.sub (ws' := ([(ca, .inr (0, [.ref fa, .int cn, .ref cs, .ref cg, .ref cto, .ref cq, .ref cnx, .ref cco])), (fa, .inr (1, [.int (nI W0), .int (nI H0), .ref wa, .int fc, .ref ra, .ref sa, .ref ta])), (wa, .inl (cZ, 25, .inl wf)), (cnx, .inl (cJ, 25, .inr (.inl kk))), (cco, .inl (cJ, 25, .inr (.inl k1))), (sa, .inl (cI, 25, .inl sf)), (ta, .inl (cII, 25, .inr (.inr (.inr (.inr (fun i => if i < 25 then some (rr i) else none))))))] ++ mt_rw 25 rr (fun i => .inl (cI, 5, .inl (Ms i))))) [0, 1, 2, 4, 3, 5, 6, 7, 8, 9, 10, 11, 12, 13, 14, 15, 16, 17, 18, 19, 20, 21, 22, 23, 24, 25, 26, 27, 28, 29, 30, 31] (by decide) rfl
    exact W.vret hx hb hr (fun t ht hW => ⟨⟨kk, rfl, fun c hc => hkk c (by have : c < 25 := hc; omega), by rw [ht]; exact hP9, hD9⟩, hS.F ht⟩) hS.2.2 d_cr_spreadCounts_58
  ·
    have g2 : z < 25 := by rcases Nat.lt_or_ge z 25 with h | h; exact h; exact absurd (nI_le (a := 25) h (by omega)) g1
    refine lv_aload_n hx hb d_cr_spreadCounts_8 rfl (lv_at hl 1 rfl) ?_
    refine gf_cr_30 hx hb hg hown hK hP 0 rfl rfl d_cr_spreadCounts_9 ?_
    refine lv_iload_n hx hb d_cr_spreadCounts_12 rfl (lv_at hl 0 rfl) ?_
    refine lv_aload_n hx hb d_cr_spreadCounts_13 rfl (lv_at hl 1 rfl) ?_
    refine gf_cr_33 hx hb hg hown hK hP 0 rfl rfl d_cr_spreadCounts_14 ?_
    refine lv_iload_n hx hb d_cr_spreadCounts_17 rfl (lv_at hl 0 rfl) ?_
    have hPc := hP.sub (ws' := [(fa, .inr (1, [.int (nI W0), .int (nI H0), .ref wa, .int fc, .ref ra, .ref sa, .ref ta])), (wa, .inl (cZ, 25, .inl wf))]) [1, 2] rfl
    have hDc := hD.sub (ws' := [(fa, .inr (1, [.int (nI W0), .int (nI H0), .ref wa, .int fc, .ref ra, .ref sa, .ref ta])), (wa, .inl (cZ, 25, .inl wf))]) [1, 2] (by decide) rfl
    refine vp_callSi (W.runV (As := [.int (nI z)]) (rest := [.int (nI z), .ref cnx]) ⟨hx, hb, hml, hown, hg⟩ (c_fl_isFree l D cZ cI cJ cII fa (nI W0) (nI H0) wa fc ra sa ta wf (nI z) H.size (mt_b25 hN)) (cwV 1 hg gv_cr_67 rfl rfl rfl (by decide +kernel) ⟨Nat.le_of_ble_eq_true rfl, Nat.le_of_ble_eq_true rfl⟩) ⟨mt_bl, va_recv (q0 := 1) (ci := 1) hK hP rfl rfl, mt_pr hX hPc hK hDc⟩ rfl rfl hl.1 rfl (lv_room (Nat.le_of_ble_eq_true rfl)) d_cr_spreadCounts_18 ⟨Nat.le_of_ble_eq_true rfl, Nat.le_of_ble_eq_true rfl⟩) (fun r1 hr1 => ?_)
    have hr1 : (r1 = 1 ∧ ¬ (nI z) < 0 ∧ ¬ (nI W0) * (nI H0) ≤ (nI z) ∧ wf (nI z).toNatClampNeg = 0) ∨ (r1 = 0 ∧ ((nI z) < 0 ∨ (nI W0) * (nI H0) ≤ (nI z) ∨ ¬ wf (nI z).toNatClampNeg = 0)) := hr1
    refine lv_if_eq hx hb d_cr_spreadCounts_21 rfl (fun g3 => ?_) (fun g3 => ?_)
    ·
      have hfr : ¬ (z < W0 * H0 ∧ wf z = 0) := fun q => hr1.elim (fun q2 => absurd (q2.1.symm.trans g3) (by decide)) (fun q2 => q2.2.elim (fun h => nI_pos (by omega) h) (fun q3 => q3.elim (fun h => nI_ge q.1 (by omega) (by rw [← pk_mul]; exact h)) (fun h => h (by rw [nI_clamp (by omega)]; exact q.2))))
      refine lv_lconst (v := 0) hx hb d_cr_spreadCounts_32 (by decide) ?_
      have hnew : (0 : Int64) = (if z < W0 * H0 ∧ wf z = 0 then wz_sum k1 (Ms z) (sf z).toNatClampNeg else 0) := by rw [if_neg hfr]
      refine va_last hx hb hK hP hD hS 4 2 rfl rfl (vp_in_nI g2 (by decide)) d_cr_spreadCounts_33 (fun H locs hP hD hS => ?_)
      rw [nI_clamp (show z < 2 ^ 31 by omega)] at hP hD
      have hP : va_P D kls ([(ca, .inr (0, [.ref fa, .int cn, .ref cs, .ref cg, .ref cto, .ref cq, .ref cco, .ref cnx])), (fa, .inr (1, [.int (nI W0), .int (nI H0), .ref wa, .int fc, .ref ra, .ref sa, .ref ta])), (wa, .inl (cZ, 25, .inl wf)), (cco, .inl (cJ, 25, .inr (.inl k1))), (cnx, .inl (cJ, 25, .inr (.inl (vp_updL kk z 0)))), (sa, .inl (cI, 25, .inl sf)), (ta, .inl (cII, 25, .inr (.inr (.inr (.inr (fun i => if i < 25 then some (rr i) else none))))))] ++ mt_rw 25 rr (fun i => .inl (cI, 5, .inl (Ms i)))) H := hP
      have hD : va_D A ([(ca, .inr (0, [.ref fa, .int cn, .ref cs, .ref cg, .ref cto, .ref cq, .ref cco, .ref cnx])), (fa, .inr (1, [.int (nI W0), .int (nI H0), .ref wa, .int fc, .ref ra, .ref sa, .ref ta])), (wa, .inl (cZ, 25, .inl wf)), (cco, .inl (cJ, 25, .inr (.inl k1))), (cnx, .inl (cJ, 25, .inr (.inl (vp_updL kk z 0)))), (sa, .inl (cI, 25, .inl sf)), (ta, .inl (cII, 25, .inr (.inr (.inr (.inr (fun i => if i < 25 then some (rr i) else none))))))] ++ mt_rw 25 rr (fun i => .inl (cI, 5, .inl (Ms i)))) := hD
      refine lv_iinc (k := 0) (v := nI (z + 1)) hx hb d_cr_spreadCounts_34 hl rfl ((nI_succ z).symm) (by decide) rfl (fun ls hl => ?_)
      have hl : lv_has ls 2 [(1, .int (nI (z + 1))), (0, .ref ca)] := hl
      refine lv_goto hx hb d_cr_spreadCounts_37 rfl ?_
      have hl := lv_sub hl [0, 1] (l' := [(1, .int (nI (z + 1))), (0, .ref ca)]) rfl
      exact ih_a (z + 1, vp_updL kk z 0) ls H _ (by show 25 - (z + 1) < 25 - z; omega) ⟨by show z + 1 ≤ 25; omega, wz_up (P := fun c w => w = if c < W0 * H0 ∧ wf c = 0 then wz_sum k1 (Ms c) (sf c).toNatClampNeg else 0) hkk hnew, hl, hP, hD, hS⟩
    ·
      have hfr : z < W0 * H0 ∧ wf z = 0 := hr1.elim (fun q => ⟨by rcases Nat.lt_or_ge z (W0 * H0) with h | h; exact h; exact absurd (by rw [pk_mul]; exact nI_le h (by omega)) q.2.2.1, by have := q.2.2.2; rw [nI_clamp (by omega)] at this; exact this⟩) (fun q => absurd q.1 g3)
      obtain ⟨cnt, hcnt, hsc, hst⟩ := fx_steps hOk hfr
      refine lv_aload_n hx hb d_cr_spreadCounts_24 rfl (lv_at hl 1 rfl) ?_
      refine lv_iload_n hx hb d_cr_spreadCounts_25 rfl (lv_at hl 0 rfl) ?_
      have hPc := hP.sub (ws' := ([(ca, .inr (0, [.ref fa, .int cn, .ref cs, .ref cg, .ref cto, .ref cq, .ref cco, .ref cnx])), (fa, .inr (1, [.int (nI W0), .int (nI H0), .ref wa, .int fc, .ref ra, .ref sa, .ref ta])), (cco, .inl (cJ, 25, .inr (.inl k1))), (sa, .inl (cI, 25, .inl sf)), (ta, .inl (cII, 25, .inr (.inr (.inr (.inr (fun i => if i < 25 then some (rr i) else none))))))] ++ mt_rw 25 rr (fun i => .inl (cI, 5, .inl (Ms i))))) [0, 1, 3, 5, 6, 7, 8, 9, 10, 11, 12, 13, 14, 15, 16, 17, 18, 19, 20, 21, 22, 23, 24, 25, 26, 27, 28, 29, 30, 31] rfl
      have hDc := hD.sub (ws' := ([(ca, .inr (0, [.ref fa, .int cn, .ref cs, .ref cg, .ref cto, .ref cq, .ref cco, .ref cnx])), (fa, .inr (1, [.int (nI W0), .int (nI H0), .ref wa, .int fc, .ref ra, .ref sa, .ref ta])), (cco, .inl (cJ, 25, .inr (.inl k1))), (sa, .inl (cI, 25, .inl sf)), (ta, .inl (cII, 25, .inr (.inr (.inr (.inr (fun i => if i < 25 then some (rr i) else none))))))] ++ mt_rw 25 rr (fun i => .inl (cI, 5, .inl (Ms i))))) [0, 1, 3, 5, 6, 7, 8, 9, 10, 11, 12, 13, 14, 15, 16, 17, 18, 19, 20, 21, 22, 23, 24, 25, 26, 27, 28, 29, 30, 31] (by decide) rfl
      refine vp_callSl (W.runV (As := [.int (nI z)]) (rest := [.int (nI z), .ref cnx]) ⟨hx, hb, hml, hown, hg⟩ (c_cr_countsBeside l D cZ cI cJ cII ca cn cs cg cto cq cco cnx fa (nI W0) (nI H0) wa fc ra sa ta k1 sf rr Ms z cnt H.size g2 hcnt hsc (fun i hi => by obtain ⟨b, h1, h2⟩ := hst i hi; exact ⟨b, Nat.lt_of_lt_of_le h1.1 hN, h2⟩)) (cwV 1 hg gv_cr_63 rfl rfl rfl (by decide +kernel) ⟨Nat.le_of_ble_eq_true rfl, Nat.le_of_ble_eq_true rfl⟩) ⟨mt_bl, va_recv (q0 := 0) (ci := 0) hK hP rfl rfl, mt_pr hX hPc hK hDc⟩ rfl rfl hl.1 rfl (lv_room (Nat.le_of_ble_eq_true rfl)) d_cr_spreadCounts_26 ⟨Nat.le_of_ble_eq_true rfl, Nat.le_of_ble_eq_true rfl⟩) (fun r2 hr2 => ?_)
      have hr2 : r2 = wz_sum k1 (Ms z) cnt := hr2
      refine lv_goto hx hb d_cr_spreadCounts_29 rfl ?_
      have hnew : r2 = (if z < W0 * H0 ∧ wf z = 0 then wz_sum k1 (Ms z) (sf z).toNatClampNeg else 0) := by rw [if_pos hfr, hsc, nI_clamp (by omega)]; exact hr2
      refine va_last hx hb hK hP hD hS 4 2 rfl rfl (vp_in_nI g2 (by decide)) d_cr_spreadCounts_33 (fun H locs hP hD hS => ?_)
      rw [nI_clamp (show z < 2 ^ 31 by omega)] at hP hD
      have hP : va_P D kls ([(ca, .inr (0, [.ref fa, .int cn, .ref cs, .ref cg, .ref cto, .ref cq, .ref cco, .ref cnx])), (fa, .inr (1, [.int (nI W0), .int (nI H0), .ref wa, .int fc, .ref ra, .ref sa, .ref ta])), (wa, .inl (cZ, 25, .inl wf)), (cco, .inl (cJ, 25, .inr (.inl k1))), (cnx, .inl (cJ, 25, .inr (.inl (vp_updL kk z r2)))), (sa, .inl (cI, 25, .inl sf)), (ta, .inl (cII, 25, .inr (.inr (.inr (.inr (fun i => if i < 25 then some (rr i) else none))))))] ++ mt_rw 25 rr (fun i => .inl (cI, 5, .inl (Ms i)))) H := hP
      have hD : va_D A ([(ca, .inr (0, [.ref fa, .int cn, .ref cs, .ref cg, .ref cto, .ref cq, .ref cco, .ref cnx])), (fa, .inr (1, [.int (nI W0), .int (nI H0), .ref wa, .int fc, .ref ra, .ref sa, .ref ta])), (wa, .inl (cZ, 25, .inl wf)), (cco, .inl (cJ, 25, .inr (.inl k1))), (cnx, .inl (cJ, 25, .inr (.inl (vp_updL kk z r2)))), (sa, .inl (cI, 25, .inl sf)), (ta, .inl (cII, 25, .inr (.inr (.inr (.inr (fun i => if i < 25 then some (rr i) else none))))))] ++ mt_rw 25 rr (fun i => .inl (cI, 5, .inl (Ms i)))) := hD
      refine lv_iinc (k := 0) (v := nI (z + 1)) hx hb d_cr_spreadCounts_34 hl rfl ((nI_succ z).symm) (by decide) rfl (fun ls hl => ?_)
      have hl : lv_has ls 2 [(1, .int (nI (z + 1))), (0, .ref ca)] := hl
      refine lv_goto hx hb d_cr_spreadCounts_37 rfl ?_
      have hl := lv_sub hl [0, 1] (l' := [(1, .int (nI (z + 1))), (0, .ref ca)]) rfl
      exact ih_a (z + 1, vp_updL kk z r2) ls H _ (by show 25 - (z + 1) < 25 - z; omega) ⟨by show z + 1 ≤ 25; omega, wz_up (P := fun c w => w = if c < W0 * H0 ∧ wf c = 0 then wz_sum k1 (Ms c) (sf c).toNatClampNeg else 0) hkk hnew, hl, hP, hD, hS⟩

set_option maxHeartbeats 4000000 in
set_option maxRecDepth 100000 in
theorem c_cr_countWays (l : Launch) (D : va_G) (cZ cI cJ cII : ClassId) (ca : Nat) (cn : Int32) (cs : Nat) (cg : Nat) (cto : Nat) (cq : Nat) (cco : Nat) (cnx : Nat) (fa : Nat) (wa : Nat) (fc : Int32) (ra : Nat) (sa : Nat) (ta : Nat) (k1 : Nat → Int64) (k2 : Nat → Int64) (wf : Nat → Int32) (sf : Nat → Int32) (rr : Nat → Nat) (Ms : Nat → Nat → Int32) (W0 : Nat) (H0 : Nat) (rf : Nat → Int32) (s5 : Nat → Int32) (g5 : Nat → Int32) (mo : Nat) (sp : Nat) (gl : Nat) (cc : Nat) (sz : Nat) (hN : W0 * H0 ≤ 25) (hOk : fx_Ok W0 (W0 * H0) wf rf sf Ms (W0 * H0)) (hm : mo < 5) (hsp : s5 mo = nI sp ∧ sp < 25) (hgl : g5 mo = nI gl ∧ fx_fr (W0 * H0) wf gl) (hcc : cc ≤ 20) : Met l y_cr_countWays w_cr_countWays ({ frames := 3, cells := 0, slots := 0, locals := 120 }) (va_Pc [.ref ca, .int (nI mo), .int (nI cc)] (mt_B D [(cZ, .boolean), (cI, .int), (cJ, .long), (cII, .array .int)] (([(ca, .inr (0, [.ref fa, .int cn, .ref cs, .ref cg, .ref cto, .ref cq, .ref cco, .ref cnx])), (fa, .inr (1, [.int (nI W0), .int (nI H0), .ref wa, .int fc, .ref ra, .ref sa, .ref ta])), (wa, .inl (cZ, 25, .inl wf)), (cco, .inl (cJ, 25, .inr (.inl k1))), (cnx, .inl (cJ, 25, .inr (.inl k2))), (sa, .inl (cI, 25, .inl sf)), (ta, .inl (cII, 25, .inr (.inr (.inr (.inr (fun i => if i < 25 then some (rr i) else none))))))] ++ mt_rw 25 rr (fun i => .inl (cI, 5, .inl (Ms i)))) ++ [(cs, .inl (cI, 5, .inl s5)), (cg, .inl (cI, 5, .inl g5))]) sz)) ((fun A => va_Ql (fun (r : Int64) (u : Nat × Nat × (Nat → Int64) × (Nat → Int64)) => ((cc = 0 ∧ r = if sp = gl then 1 else 0) ∨ (∃ t9, cc = t9 + 1 ∧ r = wz_sum (wz_ct (W0 * H0) wf sf Ms sp t9) (Ms gl) (sf gl).toNatClampNeg - wz_ct (W0 * H0) wf sf Ms sp t9 gl)) ∧ (True)) (fun (u : Nat × Nat × (Nat → Int64) × (Nat → Int64)) (t : State) => mt_O D A (([(ca, .inr (0, [.ref fa, .int cn, .ref cs, .ref cg, .ref cto, .ref cq, .ref (u.1), .ref (u.2.1)])), (fa, .inr (1, [.int (nI W0), .int (nI H0), .ref wa, .int fc, .ref ra, .ref sa, .ref ta])), (wa, .inl (cZ, 25, .inl wf)), ((u.1), .inl (cJ, 25, .inr (.inl (u.2.2.1)))), ((u.2.1), .inl (cJ, 25, .inr (.inl (u.2.2.2)))), (sa, .inl (cI, 25, .inl sf)), (ta, .inl (cII, 25, .inr (.inr (.inr (.inr (fun i => if i < 25 then some (rr i) else none))))))] ++ mt_rw 25 rr (fun i => .inl (cI, 5, .inl (Ms i)))) ++ [(cs, .inl (cI, 5, .inl s5)), (cg, .inl (cI, 5, .inl g5))]) t) A) (va_A (([(ca, .inr (0, [.ref fa, .int cn, .ref cs, .ref cg, .ref cto, .ref cq, .ref cco, .ref cnx])), (fa, .inr (1, [.int (nI W0), .int (nI H0), .ref wa, .int fc, .ref ra, .ref sa, .ref ta])), (wa, .inl (cZ, 25, .inl wf)), (cco, .inl (cJ, 25, .inr (.inl k1))), (cnx, .inl (cJ, 25, .inr (.inl k2))), (sa, .inl (cI, 25, .inl sf)), (ta, .inl (cII, 25, .inr (.inr (.inr (.inr (fun i => if i < 25 then some (rr i) else none))))))] ++ mt_rw 25 rr (fun i => .inl (cI, 5, .inl (Ms i)))) ++ [(cs, .inl (cI, 5, .inl s5)), (cg, .inl (cI, 5, .inl g5))]) sz)) 0 0 (va_A (([(ca, .inr (0, [.ref fa, .int cn, .ref cs, .ref cg, .ref cto, .ref cq, .ref cco, .ref cnx])), (fa, .inr (1, [.int (nI W0), .int (nI H0), .ref wa, .int fc, .ref ra, .ref sa, .ref ta])), (wa, .inl (cZ, 25, .inl wf)), (cco, .inl (cJ, 25, .inr (.inl k1))), (cnx, .inl (cJ, 25, .inr (.inl k2))), (sa, .inl (cI, 25, .inl sf)), (ta, .inl (cII, 25, .inr (.inr (.inr (.inr (fun i => if i < 25 then some (rr i) else none))))))] ++ mt_rw 25 rr (fun i => .inl (cI, 5, .inl (Ms i)))) ++ [(cs, .inl (cI, 5, .inl s5)), (cg, .inl (cI, 5, .inl g5))]) sz) := by
  refine mt_of (y := y_cr_countWays) (n := 6) (av := [.ref ca, .int (nI mo), .int (nI cc)]) (QF := (fun A => va_Ql (fun (r : Int64) (u : Nat × Nat × (Nat → Int64) × (Nat → Int64)) => ((cc = 0 ∧ r = if sp = gl then 1 else 0) ∨ (∃ t9, cc = t9 + 1 ∧ r = wz_sum (wz_ct (W0 * H0) wf sf Ms sp t9) (Ms gl) (sf gl).toNatClampNeg - wz_ct (W0 * H0) wf sf Ms sp t9 gl)) ∧ (True)) (fun (u : Nat × Nat × (Nat → Int64) × (Nat → Int64)) (t : State) => mt_O D A (([(ca, .inr (0, [.ref fa, .int cn, .ref cs, .ref cg, .ref cto, .ref cq, .ref (u.1), .ref (u.2.1)])), (fa, .inr (1, [.int (nI W0), .int (nI H0), .ref wa, .int fc, .ref ra, .ref sa, .ref ta])), (wa, .inl (cZ, 25, .inl wf)), ((u.1), .inl (cJ, 25, .inr (.inl (u.2.2.1)))), ((u.2.1), .inl (cJ, 25, .inr (.inl (u.2.2.2)))), (sa, .inl (cI, 25, .inl sf)), (ta, .inl (cII, 25, .inr (.inr (.inr (.inr (fun i => if i < 25 then some (rr i) else none))))))] ++ mt_rw 25 rr (fun i => .inl (cI, 5, .inl (Ms i)))) ++ [(cs, .inl (cI, 5, .inl s5)), (cg, .inl (cI, 5, .inl g5))]) t) A)) (by decide) (Nat.le_of_ble_eq_true rfl) ?_
  intro p e s m below meth c ls A hx hb hr hlk hml hown hnm hg hl hX hP hK hD hA hS
  obtain ⟨H, hH⟩ : ∃ H : Heap, H = s.heap := ⟨_, rfl⟩
  have hS : va_S A s.heap H [] := by rw [hH]; exact va_S.rf
  rw [← hH] at hP ⊢
  have hown : s.vm.findClass R_cr = some m.cls := hown
  have hl : lv_has ls 6 [(0, .ref ca), (1, .int (nI mo)), (2, .int (nI cc))] := hl
  refine lv_aload_n hx hb d_cr_countWays_0 rfl (lv_at hl 0 rfl) ?_
  refine gf_cr_9 hx hb hg hown hK hP 0 rfl rfl d_cr_countWays_1 ?_
  refine lv_iload_n hx hb d_cr_countWays_4 rfl (lv_at hl 1 rfl) ?_
  refine va_iald hx hb hK hP 32 1 rfl rfl (vp_in_nI hm (by decide)) d_cr_countWays_5 ?_
  refine lv_topi (fun y1 ey1 => ?_)
  have ey1 : y1 = nI sp := ey1.trans (by rw [nI_clamp (show mo < 2 ^ 31 by omega)]; exact hsp.1)
  subst ey1
  refine lv_istore_n hx hb d_cr_countWays_6 rfl hl (by decide) rfl (fun ls hl => ?_)
  have hl : lv_has ls 6 [(3, .int (nI sp)), (0, .ref ca), (1, .int (nI mo)), (2, .int (nI cc))] := hl
  refine lv_aload_n hx hb d_cr_countWays_7 rfl (lv_at hl 1 rfl) ?_
  refine gf_cr_15 hx hb hg hown hK hP 0 rfl rfl d_cr_countWays_8 ?_
  refine lv_iload_n hx hb d_cr_countWays_11 rfl (lv_at hl 2 rfl) ?_
  refine va_iald hx hb hK hP 33 1 rfl rfl (vp_in_nI hm (by decide)) d_cr_countWays_12 ?_
  refine lv_topi (fun y2 ey2 => ?_)
  have ey2 : y2 = nI gl := ey2.trans (by rw [nI_clamp (show mo < 2 ^ 31 by omega)]; exact hgl.1)
  subst ey2
  refine lv_istore hx hb d_cr_countWays_13 hl (by decide) rfl (fun ls hl => ?_)
  have hl : lv_has ls 6 [(4, .int (nI gl)), (3, .int (nI sp)), (0, .ref ca), (1, .int (nI mo)), (2, .int (nI cc))] := hl
  refine lv_iload_n hx hb d_cr_countWays_15 rfl (lv_at hl 4 rfl) ?_
  refine lv_if_ne hx hb d_cr_countWays_16 rfl (fun g1 => ?_) (fun g1 => ?_)
  ·
    have gc0 : 0 < cc := by rcases Nat.eq_zero_or_pos cc with h | h; exact absurd (by rw [h]; exact nI_0) g1; exact h
    refine lv_aload_n hx hb d_cr_countWays_31 rfl (lv_at hl 2 rfl) ?_
    refine gf_cr_26 hx hb hg hown hK hP 0 rfl rfl d_cr_countWays_32 ?_
    refine lv_lconst (v := 0) hx hb d_cr_countWays_35 (by decide) ?_
    have hPc := hP.sub (ws' := [(cco, .inl (cJ, 25, .inr (.inl k1)))]) [3] rfl
    have hDc := hD.sub (ws' := [(cco, .inl (cJ, 25, .inr (.inl k1)))]) [3] (by decide) rfl
    have hFc := va_free (wc := [(cco, .inl (cJ, 25, .inr (.inl k1)))]) hD hS hA [3] rfl
    refine va_callv (va_runS (As := [.ref cco, .long 0]) (rest := []) ⟨hx, hb, hml, hown, hg⟩ (c_ar_fillJ l D cZ cI cJ cII cco 25 k1 0 H.size (by decide)) ⟨callB_of 2 hg gg_cr_54 rfl rfl rfl (hg _ gi_cr_54) (hg _ gl_cr_54) (by decide +kernel) ⟨Nat.le_of_ble_eq_true rfl, Nat.le_of_ble_eq_true rfl⟩, hg _ gt_cr_54⟩ ⟨mt_bl, mt_pr hX hPc hK hDc⟩ rfl rfl hl.1 rfl (lv_room (Nat.le_of_ble_eq_true rfl)) d_cr_countWays_36 ⟨Nat.le_of_ble_eq_true rfl, Nat.le_of_ble_eq_true rfl⟩) hS (fun q _ h => hFc q h) hFc (fun u t H1 locs ht hvm hw hB hz1 hk1 hS => ?_)
    obtain ⟨f14, rfl⟩ : ∃ z, z = u := ⟨_, rfl⟩
    have hr3 : ∀ j, j < (25 : Nat) → f14 j = (0 : Int64) := hw
    obtain ⟨hP1, hD1⟩ := hB
    rw [ht] at hP1
    obtain ⟨hP, hD⟩ := va_join (wr := (([(ca, .inr (0, [.ref fa, .int cn, .ref cs, .ref cg, .ref cto, .ref cq, .ref cco, .ref cnx])), (fa, .inr (1, [.int (nI W0), .int (nI H0), .ref wa, .int fc, .ref ra, .ref sa, .ref ta])), (wa, .inl (cZ, 25, .inl wf)), (cnx, .inl (cJ, 25, .inr (.inl k2))), (sa, .inl (cI, 25, .inl sf)), (ta, .inl (cII, 25, .inr (.inr (.inr (.inr (fun i => if i < 25 then some (rr i) else none))))))] ++ mt_rw 25 rr (fun i => .inl (cI, 5, .inl (Ms i)))) ++ [(cs, .inl (cI, 5, .inl s5)), (cg, .inl (cI, 5, .inl g5))])) (w1 := [(cco, .inl (cJ, 25, .inr (.inl f14)))]) hP hD [3] [0, 1, 2, 4, 5, 6, 7, 8, 9, 10, 11, 12, 13, 14, 15, 16, 17, 18, 19, 20, 21, 22, 23, 24, 25, 26, 27, 28, 29, 30, 31, 32, 33] rfl rfl (by decide) (by decide) hk1 hFc hP1 hD1
    generalize H1 = H at hP hS ⊢
    have hP : va_P D kls (([(ca, .inr (0, [.ref fa, .int cn, .ref cs, .ref cg, .ref cto, .ref cq, .ref cco, .ref cnx])), (fa, .inr (1, [.int (nI W0), .int (nI H0), .ref wa, .int fc, .ref ra, .ref sa, .ref ta])), (wa, .inl (cZ, 25, .inl wf)), (cnx, .inl (cJ, 25, .inr (.inl k2))), (sa, .inl (cI, 25, .inl sf)), (ta, .inl (cII, 25, .inr (.inr (.inr (.inr (fun i => if i < 25 then some (rr i) else none))))))] ++ mt_rw 25 rr (fun i => .inl (cI, 5, .inl (Ms i)))) ++ [(cs, .inl (cI, 5, .inl s5)), (cg, .inl (cI, 5, .inl g5)), (cco, .inl (cJ, 25, .inr (.inl f14)))]) H := hP
    have hD : va_D A (([(ca, .inr (0, [.ref fa, .int cn, .ref cs, .ref cg, .ref cto, .ref cq, .ref cco, .ref cnx])), (fa, .inr (1, [.int (nI W0), .int (nI H0), .ref wa, .int fc, .ref ra, .ref sa, .ref ta])), (wa, .inl (cZ, 25, .inl wf)), (cnx, .inl (cJ, 25, .inr (.inl k2))), (sa, .inl (cI, 25, .inl sf)), (ta, .inl (cII, 25, .inr (.inr (.inr (.inr (fun i => if i < 25 then some (rr i) else none))))))] ++ mt_rw 25 rr (fun i => .inl (cI, 5, .inl (Ms i)))) ++ [(cs, .inl (cI, 5, .inl s5)), (cg, .inl (cI, 5, .inl g5)), (cco, .inl (cJ, 25, .inr (.inl f14)))]) := hD
    have a9 := hr3
    refine lv_aload_n hx hb d_cr_countWays_39 rfl (lv_at hl 2 rfl) ?_
    refine gf_cr_26 hx hb hg hown hK hP 0 rfl rfl d_cr_countWays_40 ?_
    refine lv_iload_n hx hb d_cr_countWays_43 rfl (lv_at hl 1 rfl) ?_
    refine lv_lconst (v := 1) hx hb d_cr_countWays_44 (by decide) ?_
    refine va_last hx hb hK hP hD hS 33 2 rfl rfl (vp_in_nI hsp.2 (by decide)) d_cr_countWays_45 (fun H locs hP hD hS => ?_)
    rw [nI_clamp (show sp < 2 ^ 31 by omega)] at hP hD
    have hP : va_P D kls (([(ca, .inr (0, [.ref fa, .int cn, .ref cs, .ref cg, .ref cto, .ref cq, .ref cco, .ref cnx])), (fa, .inr (1, [.int (nI W0), .int (nI H0), .ref wa, .int fc, .ref ra, .ref sa, .ref ta])), (wa, .inl (cZ, 25, .inl wf)), (cnx, .inl (cJ, 25, .inr (.inl k2))), (sa, .inl (cI, 25, .inl sf)), (ta, .inl (cII, 25, .inr (.inr (.inr (.inr (fun i => if i < 25 then some (rr i) else none))))))] ++ mt_rw 25 rr (fun i => .inl (cI, 5, .inl (Ms i)))) ++ [(cs, .inl (cI, 5, .inl s5)), (cg, .inl (cI, 5, .inl g5)), (cco, .inl (cJ, 25, .inr (.inl (vp_updL f14 sp 1))))]) H := hP
    have hD : va_D A (([(ca, .inr (0, [.ref fa, .int cn, .ref cs, .ref cg, .ref cto, .ref cq, .ref cco, .ref cnx])), (fa, .inr (1, [.int (nI W0), .int (nI H0), .ref wa, .int fc, .ref ra, .ref sa, .ref ta])), (wa, .inl (cZ, 25, .inl wf)), (cnx, .inl (cJ, 25, .inr (.inl k2))), (sa, .inl (cI, 25, .inl sf)), (ta, .inl (cII, 25, .inr (.inr (.inr (.inr (fun i => if i < 25 then some (rr i) else none))))))] ++ mt_rw 25 rr (fun i => .inl (cI, 5, .inl (Ms i)))) ++ [(cs, .inl (cI, 5, .inl s5)), (cg, .inl (cI, 5, .inl g5)), (cco, .inl (cJ, 25, .inr (.inl (vp_updL f14 sp 1))))]) := hD
    have hk0 : ∀ c, c < 25 → vp_updL f14 sp 1 c = wz_ct (W0 * H0) wf sf Ms sp 0 c := by
      intro c hc
      show _ = if c = sp then 1 else 0
      by_cases e : c = sp
      · rw [if_pos e, e]; exact pk_uLs
      · rw [if_neg e]; exact (pk_uLn e).trans (a9 c hc)
    refine lv_iconst (v := 1) hx hb d_cr_countWays_46 (by decide) ?_
    refine lv_istore hx hb d_cr_countWays_47 hl (by decide) rfl (fun ls hl => ?_)
    have hl : lv_has ls 6 [(5, .int 1), (4, .int (nI gl)), (3, .int (nI sp)), (0, .ref ca), (1, .int (nI mo)), (2, .int (nI cc))] := hl
    have hl : lv_has ls 6 [(5, .int (nI (0 + 1))), (4, .int (nI gl)), (3, .int (nI sp)), (0, .ref ca), (1, .int (nI mo)), (2, .int (nI cc))] := hl
    have hl := lv_sub hl [0, 3, 4, 5, 2, 1] (l' := [(5, .int (nI (0 + 1))), (0, .ref ca), (1, .int (nI mo)), (2, .int (nI cc)), (3, .int (nI sp)), (4, .int (nI gl))]) rfl
    have hP := hP.sub (ws' := (([(ca, .inr (0, [.ref fa, .int cn, .ref cs, .ref cg, .ref cto, .ref cq, .ref cco, .ref cnx])), (fa, .inr (1, [.int (nI W0), .int (nI H0), .ref wa, .int fc, .ref ra, .ref sa, .ref ta])), (wa, .inl (cZ, 25, .inl wf)), (cco, .inl (cJ, 25, .inr (.inl (vp_updL f14 sp 1)))), (cnx, .inl (cJ, 25, .inr (.inl k2))), (sa, .inl (cI, 25, .inl sf)), (ta, .inl (cII, 25, .inr (.inr (.inr (.inr (fun i => if i < 25 then some (rr i) else none))))))] ++ mt_rw 25 rr (fun i => .inl (cI, 5, .inl (Ms i)))) ++ [(cs, .inl (cI, 5, .inl s5)), (cg, .inl (cI, 5, .inl g5))])) [0, 1, 2, 33, 3, 4, 5, 6, 7, 8, 9, 10, 11, 12, 13, 14, 15, 16, 17, 18, 19, 20, 21, 22, 23, 24, 25, 26, 27, 28, 29, 30, 31, 32] rfl
    have hD := hD.sub (ws' := (([(ca, .inr (0, [.ref fa, .int cn, .ref cs, .ref cg, .ref cto, .ref cq, .ref cco, .ref cnx])), (fa, .inr (1, [.int (nI W0), .int (nI H0), .ref wa, .int fc, .ref ra, .ref sa, .ref ta])), (wa, .inl (cZ, 25, .inl wf)), (cco, .inl (cJ, 25, .inr (.inl (vp_updL f14 sp 1)))), (cnx, .inl (cJ, 25, .inr (.inl k2))), (sa, .inl (cI, 25, .inl sf)), (ta, .inl (cII, 25, .inr (.inr (.inr (.inr (fun i => if i < 25 then some (rr i) else none))))))] ++ mt_rw 25 rr (fun i => .inl (cI, 5, .inl (Ms i)))) ++ [(cs, .inl (cI, 5, .inl s5)), (cg, .inl (cI, 5, .inl g5))])) [0, 1, 2, 33, 3, 4, 5, 6, 7, 8, 9, 10, 11, 12, 13, 14, 15, 16, 17, 18, 19, 20, 21, 22, 23, 24, 25, 26, 27, 28, 29, 30, 31, 32] (by decide) rfl
    refine mt_loop (ι := Nat × Nat × Nat × (Nat → Int64) × (Nat → Int64)) (I := fun ix ls H locs => ((ix.1) + 1 ≤ cc) ∧ (∀ c, c < 25 → (ix.2.2.2.1) c = wz_ct (W0 * H0) wf sf Ms sp (ix.1) c) ∧ lv_has ls 6 [(5, .int (nI ((ix.1) + 1))), (0, .ref ca), (1, .int (nI mo)), (2, .int (nI cc)), (3, .int (nI sp)), (4, .int (nI gl))] ∧ va_P D kls (([(ca, .inr (0, [.ref fa, .int cn, .ref cs, .ref cg, .ref cto, .ref cq, .ref (ix.2.1), .ref (ix.2.2.1)])), (fa, .inr (1, [.int (nI W0), .int (nI H0), .ref wa, .int fc, .ref ra, .ref sa, .ref ta])), (wa, .inl (cZ, 25, .inl wf)), ((ix.2.1), .inl (cJ, 25, .inr (.inl (ix.2.2.2.1)))), ((ix.2.2.1), .inl (cJ, 25, .inr (.inl (ix.2.2.2.2)))), (sa, .inl (cI, 25, .inl sf)), (ta, .inl (cII, 25, .inr (.inr (.inr (.inr (fun i => if i < 25 then some (rr i) else none))))))] ++ mt_rw 25 rr (fun i => .inl (cI, 5, .inl (Ms i)))) ++ [(cs, .inl (cI, 5, .inl s5)), (cg, .inl (cI, 5, .inl g5))]) H ∧ va_D A (([(ca, .inr (0, [.ref fa, .int cn, .ref cs, .ref cg, .ref cto, .ref cq, .ref (ix.2.1), .ref (ix.2.2.1)])), (fa, .inr (1, [.int (nI W0), .int (nI H0), .ref wa, .int fc, .ref ra, .ref sa, .ref ta])), (wa, .inl (cZ, 25, .inl wf)), ((ix.2.1), .inl (cJ, 25, .inr (.inl (ix.2.2.2.1)))), ((ix.2.2.1), .inl (cJ, 25, .inr (.inl (ix.2.2.2.2)))), (sa, .inl (cI, 25, .inl sf)), (ta, .inl (cII, 25, .inr (.inr (.inr (.inr (fun i => if i < 25 then some (rr i) else none))))))] ++ mt_rw 25 rr (fun i => .inl (cI, 5, .inl (Ms i)))) ++ [(cs, .inl (cI, 5, .inl s5)), (cg, .inl (cI, 5, .inl g5))]) ∧ va_S A s.heap H locs) (μ := fun ix => cc - (ix.1)) ?_ (0, cco, cnx, vp_updL f14 sp 1, k2) ls H _ ⟨by show 0 + 1 ≤ cc; omega, hk0, hl, hP, hD, hS⟩
    clear hl hP hD hS
    intro i_a ls H locs ⟨ht, hk5, hl, hP, hD, hS⟩ ih_a
    obtain ⟨tq, p1, p2, k5, k6⟩ := i_a
    have ht : tq + 1 ≤ cc := ht
    have hk5 : ∀ c, c < 25 → k5 c = wz_ct (W0 * H0) wf sf Ms sp tq c := hk5
    have hl : lv_has ls 6 [(5, .int (nI (tq + 1))), (0, .ref ca), (1, .int (nI mo)), (2, .int (nI cc)), (3, .int (nI sp)), (4, .int (nI gl))] := hl
    have hP : va_P D kls (([(ca, .inr (0, [.ref fa, .int cn, .ref cs, .ref cg, .ref cto, .ref cq, .ref p1, .ref p2])), (fa, .inr (1, [.int (nI W0), .int (nI H0), .ref wa, .int fc, .ref ra, .ref sa, .ref ta])), (wa, .inl (cZ, 25, .inl wf)), (p1, .inl (cJ, 25, .inr (.inl k5))), (p2, .inl (cJ, 25, .inr (.inl k6))), (sa, .inl (cI, 25, .inl sf)), (ta, .inl (cII, 25, .inr (.inr (.inr (.inr (fun i => if i < 25 then some (rr i) else none))))))] ++ mt_rw 25 rr (fun i => .inl (cI, 5, .inl (Ms i)))) ++ [(cs, .inl (cI, 5, .inl s5)), (cg, .inl (cI, 5, .inl g5))]) H := hP
    have hD : va_D A (([(ca, .inr (0, [.ref fa, .int cn, .ref cs, .ref cg, .ref cto, .ref cq, .ref p1, .ref p2])), (fa, .inr (1, [.int (nI W0), .int (nI H0), .ref wa, .int fc, .ref ra, .ref sa, .ref ta])), (wa, .inl (cZ, 25, .inl wf)), (p1, .inl (cJ, 25, .inr (.inl k5))), (p2, .inl (cJ, 25, .inr (.inl k6))), (sa, .inl (cI, 25, .inl sf)), (ta, .inl (cII, 25, .inr (.inr (.inr (.inr (fun i => if i < 25 then some (rr i) else none))))))] ++ mt_rw 25 rr (fun i => .inl (cI, 5, .inl (Ms i)))) ++ [(cs, .inl (cI, 5, .inl s5)), (cg, .inl (cI, 5, .inl g5))]) := hD
    refine lv_iload hx hb d_cr_countWays_49 (lv_at hl 0 rfl) ?_
    refine lv_iload_n hx hb d_cr_countWays_51 rfl (lv_at hl 3 rfl) ?_
    refine lv_icmp_ge hx hb d_cr_countWays_52 rfl (fun g3 => ?_) (fun g3 => ?_)
    ·
      have g4 : cc ≤ tq + 1 := by rcases Nat.lt_or_ge (tq + 1) cc with h | h; exact absurd g3 (nI_ge (b := cc) h (by omega)); exact h
      refine lv_aload_n hx hb d_cr_countWays_65 rfl (lv_at hl 1 rfl) ?_
      refine lv_iload hx hb d_cr_countWays_66 (lv_at hl 5 rfl) ?_
      have hgl5 : gl < 25 := by have := hgl.2.1; omega
      obtain ⟨cnt, hcnt, hsc, hst⟩ := fx_steps hOk hgl.2
      have hst9 : ∀ i, i < cnt → ∃ b, b < 25 ∧ Ms gl i = nI b := fun i hi => by obtain ⟨b, h1, h2⟩ := hst i hi; exact ⟨b, Nat.lt_of_lt_of_le h1.1 hN, h2⟩
      have hPc := hP.sub (ws' := ([(ca, .inr (0, [.ref fa, .int cn, .ref cs, .ref cg, .ref cto, .ref cq, .ref p1, .ref p2])), (fa, .inr (1, [.int (nI W0), .int (nI H0), .ref wa, .int fc, .ref ra, .ref sa, .ref ta])), (p1, .inl (cJ, 25, .inr (.inl k5))), (sa, .inl (cI, 25, .inl sf)), (ta, .inl (cII, 25, .inr (.inr (.inr (.inr (fun i => if i < 25 then some (rr i) else none))))))] ++ mt_rw 25 rr (fun i => .inl (cI, 5, .inl (Ms i))))) [0, 1, 3, 5, 6, 7, 8, 9, 10, 11, 12, 13, 14, 15, 16, 17, 18, 19, 20, 21, 22, 23, 24, 25, 26, 27, 28, 29, 30, 31] rfl
      have hDc := hD.sub (ws' := ([(ca, .inr (0, [.ref fa, .int cn, .ref cs, .ref cg, .ref cto, .ref cq, .ref p1, .ref p2])), (fa, .inr (1, [.int (nI W0), .int (nI H0), .ref wa, .int fc, .ref ra, .ref sa, .ref ta])), (p1, .inl (cJ, 25, .inr (.inl k5))), (sa, .inl (cI, 25, .inl sf)), (ta, .inl (cII, 25, .inr (.inr (.inr (.inr (fun i => if i < 25 then some (rr i) else none))))))] ++ mt_rw 25 rr (fun i => .inl (cI, 5, .inl (Ms i))))) [0, 1, 3, 5, 6, 7, 8, 9, 10, 11, 12, 13, 14, 15, 16, 17, 18, 19, 20, 21, 22, 23, 24, 25, 26, 27, 28, 29, 30, 31] (by decide) rfl
      refine vp_callSl (W.runV (As := [.int (nI gl)]) (rest := []) ⟨hx, hb, hml, hown, hg⟩ (c_cr_countsBeside l D cZ cI cJ cII ca cn cs cg cto cq p1 p2 fa (nI W0) (nI H0) wa fc ra sa ta k5 sf rr Ms gl cnt H.size hgl5 hcnt hsc hst9) (cwV 1 hg gv_cr_63 rfl rfl rfl (by decide +kernel) ⟨Nat.le_of_ble_eq_true rfl, Nat.le_of_ble_eq_true rfl⟩) ⟨mt_bl, va_recv (q0 := 0) (ci := 0) hK hP rfl rfl, mt_pr hX hPc hK hDc⟩ rfl rfl hl.1 rfl (lv_room (Nat.le_of_ble_eq_true rfl)) d_cr_countWays_68 ⟨Nat.le_of_ble_eq_true rfl, Nat.le_of_ble_eq_true rfl⟩) (fun r5 hr5 => ?_)
      have hr5 : r5 = wz_sum k5 (Ms gl) cnt := hr5
      refine lv_aload_n hx hb d_cr_countWays_71 rfl (lv_at hl 1 rfl) ?_
      refine gf_cr_26 hx hb hg hown hK hP 0 rfl rfl d_cr_countWays_72 ?_
      refine lv_iload hx hb d_cr_countWays_75 (lv_at hl 5 rfl) ?_
      refine va_lald hx hb hK hP 3 2 rfl rfl (vp_in_nI hgl5 (by decide)) d_cr_countWays_77 ?_
      refine lv_topl (fun y6 ey6 => ?_)
      have ey6 : y6 = k5 gl := ey6.trans (by rw [nI_clamp (show gl < 2 ^ 31 by omega)])
      subst ey6
      refine lv_lsub hx hb d_cr_countWays_78 ?_
      have hr9 : r5 - (k5 gl) = wz_sum (wz_ct (W0 * H0) wf sf Ms sp tq) (Ms gl) (sf gl).toNatClampNeg - wz_ct (W0 * H0) wf sf Ms sp tq gl := by
        rw [hr5, hk5 gl hgl5, hsc, nI_clamp (by omega), wz_sum_c cnt hst9 hk5]
      have hP9 := hP
      have hD9 := hD
      exact W.lret hx hb hr (fun t ht hW => ⟨⟨r5 - (k5 gl), (p1, p2, k5, k6), rfl, ⟨Or.inr ⟨tq, by omega, hr9⟩, trivial⟩, by rw [ht]; exact hP9, hD9⟩, hS.F ht⟩) hS.2.2 d_cr_countWays_79
    ·
      have g4 : tq + 1 < cc := by rcases Nat.lt_or_ge (tq + 1) cc with h | h; exact h; exact absurd (nI_le (a := cc) h (by omega)) g3
      refine lv_aload_n hx hb d_cr_countWays_55 rfl (lv_at hl 1 rfl) ?_
      have hPc := hP.sub (ws' := ([(ca, .inr (0, [.ref fa, .int cn, .ref cs, .ref cg, .ref cto, .ref cq, .ref p1, .ref p2])), (fa, .inr (1, [.int (nI W0), .int (nI H0), .ref wa, .int fc, .ref ra, .ref sa, .ref ta])), (wa, .inl (cZ, 25, .inl wf)), (p1, .inl (cJ, 25, .inr (.inl k5))), (p2, .inl (cJ, 25, .inr (.inl k6))), (sa, .inl (cI, 25, .inl sf)), (ta, .inl (cII, 25, .inr (.inr (.inr (.inr (fun i => if i < 25 then some (rr i) else none))))))] ++ mt_rw 25 rr (fun i => .inl (cI, 5, .inl (Ms i))))) [0, 1, 2, 3, 4, 5, 6, 7, 8, 9, 10, 11, 12, 13, 14, 15, 16, 17, 18, 19, 20, 21, 22, 23, 24, 25, 26, 27, 28, 29, 30, 31] rfl
      have hDc := hD.sub (ws' := ([(ca, .inr (0, [.ref fa, .int cn, .ref cs, .ref cg, .ref cto, .ref cq, .ref p1, .ref p2])), (fa, .inr (1, [.int (nI W0), .int (nI H0), .ref wa, .int fc, .ref ra, .ref sa, .ref ta])), (wa, .inl (cZ, 25, .inl wf)), (p1, .inl (cJ, 25, .inr (.inl k5))), (p2, .inl (cJ, 25, .inr (.inl k6))), (sa, .inl (cI, 25, .inl sf)), (ta, .inl (cII, 25, .inr (.inr (.inr (.inr (fun i => if i < 25 then some (rr i) else none))))))] ++ mt_rw 25 rr (fun i => .inl (cI, 5, .inl (Ms i))))) [0, 1, 2, 3, 4, 5, 6, 7, 8, 9, 10, 11, 12, 13, 14, 15, 16, 17, 18, 19, 20, 21, 22, 23, 24, 25, 26, 27, 28, 29, 30, 31] (by decide) rfl
      have hFc := va_free (wc := ([(ca, .inr (0, [.ref fa, .int cn, .ref cs, .ref cg, .ref cto, .ref cq, .ref p1, .ref p2])), (fa, .inr (1, [.int (nI W0), .int (nI H0), .ref wa, .int fc, .ref ra, .ref sa, .ref ta])), (wa, .inl (cZ, 25, .inl wf)), (p1, .inl (cJ, 25, .inr (.inl k5))), (p2, .inl (cJ, 25, .inr (.inl k6))), (sa, .inl (cI, 25, .inl sf)), (ta, .inl (cII, 25, .inr (.inr (.inr (.inr (fun i => if i < 25 then some (rr i) else none))))))] ++ mt_rw 25 rr (fun i => .inl (cI, 5, .inl (Ms i))))) hD hS hA [0, 1, 2, 3, 4, 5, 6, 7, 8, 9, 10, 11, 12, 13, 14, 15, 16, 17, 18, 19, 20, 21, 22, 23, 24, 25, 26, 27, 28, 29, 30, 31] rfl
      refine va_callv (va_runV (As := []) (rest := []) ⟨hx, hb, hml, hown, hg⟩ (c_cr_spreadCounts l D cZ cI cJ cII ca cn cs cg cto cq p1 p2 fa wa fc ra sa ta k5 k6 wf sf rr Ms W0 H0 rf H.size hN hOk) (cwV 0 hg gv_cr_60 rfl rfl rfl (by decide +kernel) ⟨Nat.le_of_ble_eq_true rfl, Nat.le_of_ble_eq_true rfl⟩) ⟨mt_bl, va_recv (q0 := 0) (ci := 0) hK hP rfl rfl, mt_pr hX hPc hK hDc⟩ rfl rfl hl.1 rfl (lv_room (Nat.le_of_ble_eq_true rfl)) d_cr_countWays_56 ⟨Nat.le_of_ble_eq_true rfl, Nat.le_of_ble_eq_true rfl⟩) hS (fun q _ h => hFc q h) hFc (fun u t H1 locs ht hvm hw hB hz1 hk1 hS => ?_)
      obtain ⟨k38, rfl⟩ : ∃ z, z = u := ⟨_, rfl⟩
      have hr7 : ∀ c, c < 25 → k38 c = if c < W0 * H0 ∧ wf c = 0 then wz_sum k5 (Ms c) (sf c).toNatClampNeg else 0 := hw
      obtain ⟨hP1, hD1⟩ := hB
      rw [ht] at hP1
      obtain ⟨hP, hD⟩ := va_join (wr := [(cs, .inl (cI, 5, .inl s5)), (cg, .inl (cI, 5, .inl g5))]) (w1 := ([(ca, .inr (0, [.ref fa, .int cn, .ref cs, .ref cg, .ref cto, .ref cq, .ref p2, .ref p1])), (fa, .inr (1, [.int (nI W0), .int (nI H0), .ref wa, .int fc, .ref ra, .ref sa, .ref ta])), (wa, .inl (cZ, 25, .inl wf)), (p2, .inl (cJ, 25, .inr (.inl k38))), (p1, .inl (cJ, 25, .inr (.inl k5))), (sa, .inl (cI, 25, .inl sf)), (ta, .inl (cII, 25, .inr (.inr (.inr (.inr (fun i => if i < 25 then some (rr i) else none))))))] ++ mt_rw 25 rr (fun i => .inl (cI, 5, .inl (Ms i))))) hP hD [0, 1, 2, 3, 4, 5, 6, 7, 8, 9, 10, 11, 12, 13, 14, 15, 16, 17, 18, 19, 20, 21, 22, 23, 24, 25, 26, 27, 28, 29, 30, 31] [32, 33] rfl rfl (by decide) (by decide) hk1 hFc hP1 hD1
      generalize H1 = H at hP hS ⊢
      have hP : va_P D kls ([(cs, .inl (cI, 5, .inl s5)), (cg, .inl (cI, 5, .inl g5)), (ca, .inr (0, [.ref fa, .int cn, .ref cs, .ref cg, .ref cto, .ref cq, .ref p2, .ref p1])), (fa, .inr (1, [.int (nI W0), .int (nI H0), .ref wa, .int fc, .ref ra, .ref sa, .ref ta])), (wa, .inl (cZ, 25, .inl wf)), (p2, .inl (cJ, 25, .inr (.inl k38))), (p1, .inl (cJ, 25, .inr (.inl k5))), (sa, .inl (cI, 25, .inl sf)), (ta, .inl (cII, 25, .inr (.inr (.inr (.inr (fun i => if i < 25 then some (rr i) else none))))))] ++ mt_rw 25 rr (fun i => .inl (cI, 5, .inl (Ms i)))) H := hP
      have hD : va_D A ([(cs, .inl (cI, 5, .inl s5)), (cg, .inl (cI, 5, .inl g5)), (ca, .inr (0, [.ref fa, .int cn, .ref cs, .ref cg, .ref cto, .ref cq, .ref p2, .ref p1])), (fa, .inr (1, [.int (nI W0), .int (nI H0), .ref wa, .int fc, .ref ra, .ref sa, .ref ta])), (wa, .inl (cZ, 25, .inl wf)), (p2, .inl (cJ, 25, .inr (.inl k38))), (p1, .inl (cJ, 25, .inr (.inl k5))), (sa, .inl (cI, 25, .inl sf)), (ta, .inl (cII, 25, .inr (.inr (.inr (.inr (fun i => if i < 25 then some (rr i) else none))))))] ++ mt_rw 25 rr (fun i => .inl (cI, 5, .inl (Ms i)))) := hD
      have hnx : ∀ c, c < 25 → k38 c = wz_ct (W0 * H0) wf sf Ms sp (tq + 1) c := fun c hc => by
        rw [hr7 c hc]; show _ = if c < W0 * H0 ∧ wf c = 0 then wz_sum (wz_ct (W0 * H0) wf sf Ms sp tq) (Ms c) (sf c).toNatClampNeg else 0
        by_cases e : c < W0 * H0 ∧ wf c = 0
        · rw [if_pos e, if_pos e]
          obtain ⟨cnt, hcnt, hsc, hst⟩ := fx_steps hOk e
          rw [hsc, nI_clamp (by omega)]
          exact wz_sum_c cnt (fun i hi => by obtain ⟨b, h1, h2⟩ := hst i hi; exact ⟨b, Nat.lt_of_lt_of_le h1.1 hN, h2⟩) hk5
        · rw [if_neg e, if_neg e]
      refine lv_iinc (k := 0) (v := nI (tq + 1 + 1)) hx hb d_cr_countWays_59 hl rfl (nI_1 _) (by decide) rfl (fun ls hl => ?_)
      have hl : lv_has ls 6 [(5, .int (nI (tq + 1 + 1))), (0, .ref ca), (1, .int (nI mo)), (2, .int (nI cc)), (3, .int (nI sp)), (4, .int (nI gl))] := hl
      refine lv_goto hx hb d_cr_countWays_62 rfl ?_
      have hl := lv_sub hl [0, 1, 2, 3, 4, 5] (l' := [(5, .int (nI ((tq + 1) + 1))), (0, .ref ca), (1, .int (nI mo)), (2, .int (nI cc)), (3, .int (nI sp)), (4, .int (nI gl))]) rfl
      have hP := hP.sub (ws' := (([(ca, .inr (0, [.ref fa, .int cn, .ref cs, .ref cg, .ref cto, .ref cq, .ref p2, .ref p1])), (fa, .inr (1, [.int (nI W0), .int (nI H0), .ref wa, .int fc, .ref ra, .ref sa, .ref ta])), (wa, .inl (cZ, 25, .inl wf)), (p2, .inl (cJ, 25, .inr (.inl k38))), (p1, .inl (cJ, 25, .inr (.inl k5))), (sa, .inl (cI, 25, .inl sf)), (ta, .inl (cII, 25, .inr (.inr (.inr (.inr (fun i => if i < 25 then some (rr i) else none))))))] ++ mt_rw 25 rr (fun i => .inl (cI, 5, .inl (Ms i)))) ++ [(cs, .inl (cI, 5, .inl s5)), (cg, .inl (cI, 5, .inl g5))])) [2, 3, 4, 5, 6, 7, 8, 9, 10, 11, 12, 13, 14, 15, 16, 17, 18, 19, 20, 21, 22, 23, 24, 25, 26, 27, 28, 29, 30, 31, 32, 33, 0, 1] rfl
      have hD := hD.sub (ws' := (([(ca, .inr (0, [.ref fa, .int cn, .ref cs, .ref cg, .ref cto, .ref cq, .ref p2, .ref p1])), (fa, .inr (1, [.int (nI W0), .int (nI H0), .ref wa, .int fc, .ref ra, .ref sa, .ref ta])), (wa, .inl (cZ, 25, .inl wf)), (p2, .inl (cJ, 25, .inr (.inl k38))), (p1, .inl (cJ, 25, .inr (.inl k5))), (sa, .inl (cI, 25, .inl sf)), (ta, .inl (cII, 25, .inr (.inr (.inr (.inr (fun i => if i < 25 then some (rr i) else none))))))] ++ mt_rw 25 rr (fun i => .inl (cI, 5, .inl (Ms i)))) ++ [(cs, .inl (cI, 5, .inl s5)), (cg, .inl (cI, 5, .inl g5))])) [2, 3, 4, 5, 6, 7, 8, 9, 10, 11, 12, 13, 14, 15, 16, 17, 18, 19, 20, 21, 22, 23, 24, 25, 26, 27, 28, 29, 30, 31, 32, 33, 0, 1] (by decide) rfl
      exact ih_a (tq + 1, p2, p1, k38, k5) ls H _ (by show cc - (tq + 1) < cc - tq; omega) ⟨by show tq + 1 + 1 ≤ cc; omega, hnx, hl, hP, hD, hS⟩
  ·
    have gc0 : cc = 0 := by rcases Nat.eq_zero_or_pos cc with h | h; exact h; exact absurd g1 (nI_ne0 h (by omega))
    refine lv_iload_n hx hb d_cr_countWays_19 rfl (lv_at hl 1 rfl) ?_
    refine lv_iload hx hb d_cr_countWays_20 (lv_at hl 0 rfl) ?_
    refine lv_icmp_ne hx hb d_cr_countWays_22 rfl (fun g2 => ?_) (fun g2 => ?_)
    ·
      refine lv_lconst (v := 0) hx hb d_cr_countWays_29 (by decide) ?_
      have hP9 := hP
      have hD9 := hD
      exact W.lret hx hb hr (fun t ht hW => ⟨⟨0, (cco, cnx, k1, k2), rfl, ⟨Or.inl ⟨gc0, by rw [if_neg (fun e => g2 (by rw [e]))]⟩, trivial⟩, by rw [ht]; exact hP9, hD9⟩, hS.F ht⟩) hS.2.2 d_cr_countWays_30
    ·
      refine lv_lconst (v := 1) hx hb d_cr_countWays_25 (by decide) ?_
      refine lv_goto hx hb d_cr_countWays_26 rfl ?_
      have hP9 := hP
      have hD9 := hD
      exact W.lret hx hb hr (fun t ht hW => ⟨⟨1, (cco, cnx, k1, k2), rfl, ⟨Or.inl ⟨gc0, by rw [if_pos ((nI_eq (by omega) (by have := hgl.2.1; omega)).mp g2)]⟩, trivial⟩, by rw [ht]; exact hP9, hD9⟩, hS.F ht⟩) hS.2.2 d_cr_countWays_30
