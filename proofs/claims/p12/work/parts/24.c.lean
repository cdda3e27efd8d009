set_option maxHeartbeats 4000000 in
set_option maxRecDepth 100000 in
theorem c_pn_stateAt (l : Launch) (D : va_G) (cZ cI cJ cII : ClassId) (pa : Nat) (pho : Nat) (pce : Nat) (pse : Nat) (ppl : Nat) (pen : Int32) (psu : Int32) (pnm : Int32) (pkn : Int32) (pfo : Int32) (fa : Nat) (fw : Int32) (fh : Int32) (wa : Nat) (ra : Nat) (sa : Nat) (ta : Nat) (ca : Nat) (cs : Nat) (cg : Nat) (cto : Nat) (cq : Nat) (cco : Nat) (cnx : Nat) (se : Nat → Int32) (rk : Nat → Int32) (rp : Nat → Nat) (Mc : Nat → Nat → Int32) (F0 : Nat) (n : Nat) (dd : Nat) (S : Nat) (p0 : Nat → Nat) (sz : Nat) (hn : n ≤ 5) (hF : F0 ≤ 25) (hd : dd < 32) (hS32 : S < 32) (hse : se dd = nI S) (hp0 : ∀ i, i < n → Mc dd i = nI (p0 i) ∧ p0 i < 25 ∧ ∃ k, k < 25 ∧ rk (p0 i) = nI k) : Met l y_pn_stateAt w_pn_stateAt ({ frames := 1, cells := 0, slots := 0, locals := 40 }) (va_Pc [.ref pa, .int (nI dd)] (mt_B D [(cZ, .boolean), (cI, .int), (cJ, .long), (cII, .array .int)] ([(pa, .inr (4, [.ref fa, .ref ca, .ref pho, .ref pce, .ref pse, .ref ppl, .int pen, .int psu, .int pnm, .int pkn, .int pfo])), (fa, .inr (1, [.int fw, .int fh, .ref wa, .int (nI F0), .ref ra, .ref sa, .ref ta])), (ca, .inr (0, [.ref fa, .int (nI n), .ref cs, .ref cg, .ref cto, .ref cq, .ref cco, .ref cnx])), (pse, .inl (cI, 32, .inl se)), (pce, .inl (cII, 32, .inr (.inr (.inr (.inr (fun i => if i < 32 then some (rp i) else none)))))), (ra, .inl (cI, 25, .inl rk))] ++ mt_rw 32 rp (fun i => .inl (cI, 5, .inl (Mc i)))) sz)) (vp_Si (fun r : Int32 => r = nI (sx_st (F0 + 1) (px_dig F0 rk S p0) n))) 0 0 (fun _ => False) := by
  refine mt_ofR (by decide) (Nat.le_of_ble_eq_true rfl) ?_
  intro p e s m below meth c ls hx hb hr hlk hml hown hg hl hX hP hK hD
  have hown : s.vm.findClass R_pn = some m.cls := hown
  obtain ⟨H, hH⟩ : ∃ H : Heap, H = s.heap := ⟨_, rfl⟩
  rw [← hH] at hP ⊢
  have hl : lv_has ls 6 [(0, .ref pa), (1, .int (nI dd))] := hl
  refine lv_iconst (v := 0) hx hb d_pn_stateAt_0 (by decide) ?_
  refine lv_istore_n hx hb d_pn_stateAt_1 rfl hl (by decide) rfl (fun ls hl => ?_)
  have hl : lv_has ls 6 [(2, .int 0), (0, .ref pa), (1, .int (nI dd))] := hl
  refine lv_iconst (v := 0) hx hb d_pn_stateAt_2 (by decide) ?_
  refine lv_istore_n hx hb d_pn_stateAt_3 rfl hl (by decide) rfl (fun ls hl => ?_)
  have hl : lv_has ls 6 [(3, .int 0), (2, .int 0), (0, .ref pa), (1, .int (nI dd))] := hl
  have hl := lv_sub hl [0, 1, 2, 3] (l' := [(3, .int (nI 0)), (2, .int (nI 0)), (0, .ref pa), (1, .int (nI dd))]) rfl
  refine mt_loop (ι := Nat × Nat) (I := fun ix ls H locs => ((ix.1) ≤ n) ∧ ((ix.2) = sx_st (F0 + 1) (px_dig F0 rk S p0) (ix.1)) ∧ lv_has ls 6 [(3, .int (nI (ix.1))), (2, .int (nI (ix.2))), (0, .ref pa), (1, .int (nI dd))] ∧ va_P D kls ([(pa, .inr (4, [.ref fa, .ref ca, .ref pho, .ref pce, .ref pse, .ref ppl, .int pen, .int psu, .int pnm, .int pkn, .int pfo])), (fa, .inr (1, [.int fw, .int fh, .ref wa, .int (nI F0), .ref ra, .ref sa, .ref ta])), (ca, .inr (0, [.ref fa, .int (nI n), .ref cs, .ref cg, .ref cto, .ref cq, .ref cco, .ref cnx])), (pse, .inl (cI, 32, .inl se)), (pce, .inl (cII, 32, .inr (.inr (.inr (.inr (fun i => if i < 32 then some (rp i) else none)))))), (ra, .inl (cI, 25, .inl rk))] ++ mt_rw 32 rp (fun i => .inl (cI, 5, .inl (Mc i)))) H ∧ H = s.heap ∧ locs = []) (μ := fun ix => n - (ix.1)) ?_ (0, 0) ls H _ ⟨Nat.zero_le _, rfl, hl, hP, hH, rfl⟩
  clear hl hP
  intro i_a ls H locs ⟨hmm, hsv, hl, hP, hH, hlc⟩ ih_a
  obtain ⟨mm, sv⟩ := i_a
  subst hlc
  have hmm : mm ≤ n := hmm
  have hsv : sv = sx_st (F0 + 1) (px_dig F0 rk S p0) mm := hsv
  have hl : lv_has ls 6 [(3, .int (nI mm)), (2, .int (nI sv)), (0, .ref pa), (1, .int (nI dd))] := hl
  have hP : va_P D kls ([(pa, .inr (4, [.ref fa, .ref ca, .ref pho, .ref pce, .ref pse, .ref ppl, .int pen, .int psu, .int pnm, .int pkn, .int pfo])), (fa, .inr (1, [.int fw, .int fh, .ref wa, .int (nI F0), .ref ra, .ref sa, .ref ta])), (ca, .inr (0, [.ref fa, .int (nI n), .ref cs, .ref cg, .ref cto, .ref cq, .ref cco, .ref cnx])), (pse, .inl (cI, 32, .inl se)), (pce, .inl (cII, 32, .inr (.inr (.inr (.inr (fun i => if i < 32 then some (rp i) else none)))))), (ra, .inl (cI, 25, .inl rk))] ++ mt_rw 32 rp (fun i => .inl (cI, 5, .inl (Mc i)))) H := hP
  refine lv_iload_n hx hb d_pn_stateAt_4 rfl (lv_at hl 0 rfl) ?_
  refine lv_aload_n hx hb d_pn_stateAt_5 rfl (lv_at hl 2 rfl) ?_
  refine gf_pn_34 hx hb hg hown hK hP 0 rfl rfl d_pn_stateAt_6 ?_
  refine gf_pn_83 hx hb hg hown hK hP 2 rfl rfl d_pn_stateAt_9 ?_
  refine lv_icmp_ge hx hb d_pn_stateAt_12 rfl (fun g1 => ?_) (fun g1 => ?_)
  ·
    have g2 : n ≤ mm := by rcases Nat.lt_or_ge mm n with h | h; exact absurd g1 (nI_ge (b := n) h (by omega)); exact h
    have g2e : mm = n := by omega
    refine lv_iload_n hx hb d_pn_stateAt_81 rfl (lv_at hl 1 rfl) ?_
    exact W.iret hx hb hr (fun t ht _ => ⟨nI sv, rfl, by rw [hsv, g2e], ht.trans hH⟩) (fun _ h => absurd h List.not_mem_nil) d_pn_stateAt_82
  ·
    have g2 : mm < n := by rcases Nat.lt_or_ge mm n with h | h; exact h; exact absurd (nI_le (a := n) h (by omega)) g1
    obtain ⟨hm1, hm2, kk, hkk, hkk2⟩ := hp0 mm g2
    refine lv_aload_n hx hb d_pn_stateAt_15 rfl (lv_at hl 2 rfl) ?_
    refine gf_pn_23 hx hb hg hown hK hP 0 rfl rfl d_pn_stateAt_16 ?_
    refine lv_iload_n hx hb d_pn_stateAt_19 rfl (lv_at hl 3 rfl) ?_
    refine va_iald hx hb hK hP 3 1 rfl rfl (vp_in_nI hd (by decide)) d_pn_stateAt_20 ?_
    refine lv_topi (fun y1 ey1 => ?_)
    have ey1 : y1 = nI S := ey1.trans (by rw [nI_clamp (show dd < 2 ^ 31 by omega)]; exact hse)
    subst ey1
    refine lv_iload_n hx hb d_pn_stateAt_21 rfl (lv_at hl 0 rfl) ?_
    have hPc := hP.sub (ws' := []) [] rfl
    have hDc := hD.sub (ws' := []) [] (by decide) rfl
    refine vp_callSi (W.runS (As := [.int (nI S), .int (nI mm)]) (rest := []) ⟨hx, hb, hml, hown, hg⟩ (c_pn_isIn l D cZ cI cJ cII S mm H.size hS32 (by omega)) ⟨callB_of 2 hg gg_pn_118 rfl rfl rfl (hg _ gi_pn_118) (hg _ gl_pn_118) (by decide +kernel) ⟨Nat.le_of_ble_eq_true rfl, Nat.le_of_ble_eq_true rfl⟩, hg _ gt_pn_118⟩ ⟨mt_bl, mt_pr hX hPc hK hDc⟩ rfl rfl hl.1 rfl (lv_room (Nat.le_of_ble_eq_true rfl)) d_pn_stateAt_22 ⟨Nat.le_of_ble_eq_true rfl, Nat.le_of_ble_eq_true rfl⟩) (fun r2 hr2 => ?_)
    have hr2 : (r2 = 1 ∧ S.testBit mm = true) ∨ (r2 = 0 ∧ S.testBit mm = false) := hr2
    have hib := hr2
    refine lv_istore hx hb d_pn_stateAt_25 hl (by decide) rfl (fun ls hl => ?_)
    have hl : lv_has ls 6 [(4, .int r2), (3, .int (nI mm)), (2, .int (nI sv)), (0, .ref pa), (1, .int (nI dd))] := hl
    refine lv_iload hx hb d_pn_stateAt_27 (lv_at hl 0 rfl) ?_
    refine lv_if_eq hx hb d_pn_stateAt_29 rfl (fun g3 => ?_) (fun g3 => ?_)
    ·
      have ht : S.testBit mm = false := hib.elim (fun q => absurd (q.1.symm.trans g3) (by decide)) (fun q => q.2)
      refine lv_aload_n hx hb d_pn_stateAt_42 rfl (lv_at hl 3 rfl) ?_
      refine gf_pn_30 hx hb hg hown hK hP 0 rfl rfl d_pn_stateAt_43 ?_
      refine gf_pn_145 hx hb hg hown hK hP 1 rfl rfl d_pn_stateAt_46 ?_
      refine lv_aload_n hx hb d_pn_stateAt_49 rfl (lv_at hl 3 rfl) ?_
      refine gf_pn_20 hx hb hg hown hK hP 0 rfl rfl d_pn_stateAt_50 ?_
      refine lv_iload_n hx hb d_pn_stateAt_53 rfl (lv_at hl 4 rfl) ?_
      refine mt_aald hx hb hK hP 4 3 rfl rfl (vp_in_nI hd (by decide)) (by show (if (nI dd).toNatClampNeg < 32 then some (rp (nI dd).toNatClampNeg) else none) = some (rp dd); rw [nI_clamp (show dd < 2 ^ 31 by omega), if_pos hd]) d_pn_stateAt_54 ?_
      refine lv_iload_n hx hb d_pn_stateAt_55 rfl (lv_at hl 1 rfl) ?_
      refine va_iald hx hb hK hP (6 + dd) 1 (mt_rw_at rfl hd) rfl (vp_in_nI (show mm < 5 by omega) (by decide)) d_pn_stateAt_56 ?_
      refine lv_topi (fun y3 ey3 => ?_)
      have ey3 : y3 = nI (p0 mm) := ey3.trans (by rw [nI_clamp (show mm < 2 ^ 31 by omega)]; exact hm1)
      subst ey3
      refine va_iald hx hb hK hP 5 1 rfl rfl (vp_in_nI hm2 (by decide)) d_pn_stateAt_57 ?_
      refine lv_topi (fun y4 ey4 => ?_)
      have ey4 : y4 = nI kk := ey4.trans (by rw [nI_clamp (show p0 mm < 2 ^ 31 by omega)]; exact hkk2)
      subst ey4
      refine lv_istore hx hb d_pn_stateAt_58 hl (by decide) rfl (fun ls hl => ?_)
      have hl : lv_has ls 6 [(5, .int (nI kk)), (4, .int r2), (3, .int (nI mm)), (2, .int (nI sv)), (0, .ref pa), (1, .int (nI dd))] := hl
      refine lv_iload_n hx hb d_pn_stateAt_60 rfl (lv_at hl 3 rfl) ?_
      refine lv_aload_n hx hb d_pn_stateAt_61 rfl (lv_at hl 4 rfl) ?_
      refine gf_pn_30 hx hb hg hown hK hP 0 rfl rfl d_pn_stateAt_62 ?_
      refine gf_pn_142 hx hb hg hown hK hP 1 rfl rfl d_pn_stateAt_65 ?_
      refine lv_iconst (v := 1) hx hb d_pn_stateAt_68 (by decide) ?_
      refine lv_iadd hx hb d_pn_stateAt_69 ?_
      refine lv_topi (fun y5 ey5 => ?_)
      have ey5 : y5 = nI (F0 + 1) := ey5.trans (nI_1 _)
      subst ey5
      refine lv_imul hx hb d_pn_stateAt_70 ?_
      refine lv_topi (fun y6 ey6 => ?_)
      have ey6 : y6 = nI (sv * (F0 + 1)) := ey6.trans (pk_mul _ _)
      subst ey6
      refine lv_iload hx hb d_pn_stateAt_71 (lv_at hl 0 rfl) ?_
      refine lv_iadd hx hb d_pn_stateAt_73 ?_
      refine lv_topi (fun y7 ey7 => ?_)
      have ey7 : y7 = nI (sv * (F0 + 1) + kk) := ey7.trans (nI_add _ _)
      subst ey7
      refine lv_istore_n hx hb d_pn_stateAt_74 rfl hl (by decide) rfl (fun ls hl => ?_)
      have hl : lv_has ls 6 [(2, .int (nI (sv * (F0 + 1) + kk))), (5, .int (nI kk)), (4, .int r2), (3, .int (nI mm)), (0, .ref pa), (1, .int (nI dd))] := hl
      refine lv_iinc (k := 3) (v := nI (mm + 1)) hx hb d_pn_stateAt_75 hl rfl ((nI_succ mm).symm) (by decide) rfl (fun ls hl => ?_)
      have hl : lv_has ls 6 [(3, .int (nI (mm + 1))), (2, .int (nI (sv * (F0 + 1) + kk))), (5, .int (nI kk)), (4, .int r2), (0, .ref pa), (1, .int (nI dd))] := hl
      refine lv_goto hx hb d_pn_stateAt_78 rfl ?_
      have hl := lv_sub hl [0, 1, 4, 5] (l' := [(3, .int (nI (mm + 1))), (2, .int (nI (sv * (F0 + 1) + kk))), (0, .ref pa), (1, .int (nI dd))]) rfl
      exact ih_a (mm + 1, sv * (F0 + 1) + kk) ls H _ (by show n - (mm + 1) < n - mm; omega) ⟨by show mm + 1 ≤ n; omega, by show sv * (F0 + 1) + kk = sx_st _ _ mm * (F0 + 1) + px_dig F0 rk S p0 mm; rw [hsv]; unfold px_dig; rw [ht, if_neg (by decide), hkk2, nI_clamp (by omega)], hl, hP, hH, rfl⟩
    ·
      have ht : S.testBit mm = true := hib.elim (fun q => q.2) (fun q => absurd q.1 g3)
      refine lv_aload_n hx hb d_pn_stateAt_32 rfl (lv_at hl 3 rfl) ?_
      refine gf_pn_30 hx hb hg hown hK hP 0 rfl rfl d_pn_stateAt_33 ?_
      refine gf_pn_142 hx hb hg hown hK hP 1 rfl rfl d_pn_stateAt_36 ?_
      refine lv_goto hx hb d_pn_stateAt_39 rfl ?_
      refine lv_istore hx hb d_pn_stateAt_58 hl (by decide) rfl (fun ls hl => ?_)
      have hl : lv_has ls 6 [(5, .int (nI F0)), (4, .int r2), (3, .int (nI mm)), (2, .int (nI sv)), (0, .ref pa), (1, .int (nI dd))] := hl
      refine lv_iload_n hx hb d_pn_stateAt_60 rfl (lv_at hl 3 rfl) ?_
      refine lv_aload_n hx hb d_pn_stateAt_61 rfl (lv_at hl 4 rfl) ?_
      refine gf_pn_30 hx hb hg hown hK hP 0 rfl rfl d_pn_stateAt_62 ?_
      refine gf_pn_142 hx hb hg hown hK hP 1 rfl rfl d_pn_stateAt_65 ?_
      refine lv_iconst (v := 1) hx hb d_pn_stateAt_68 (by decide) ?_
      refine lv_iadd hx hb d_pn_stateAt_69 ?_
      refine lv_topi (fun y8 ey8 => ?_)
      have ey8 : y8 = nI (F0 + 1) := ey8.trans (nI_1 _)
      subst ey8
      refine lv_imul hx hb d_pn_stateAt_70 ?_
      refine lv_topi (fun y9 ey9 => ?_)
      have ey9 : y9 = nI (sv * (F0 + 1)) := ey9.trans (pk_mul _ _)
      subst ey9
      refine lv_iload hx hb d_pn_stateAt_71 (lv_at hl 0 rfl) ?_
      refine lv_iadd hx hb d_pn_stateAt_73 ?_
      refine lv_topi (fun y10 ey10 => ?_)
      have ey10 : y10 = nI (sv * (F0 + 1) + F0) := ey10.trans (nI_add _ _)
      subst ey10
      refine lv_istore_n hx hb d_pn_stateAt_74 rfl hl (by decide) rfl (fun ls hl => ?_)
      have hl : lv_has ls 6 [(2, .int (nI (sv * (F0 + 1) + F0))), (5, .int (nI F0)), (4, .int r2), (3, .int (nI mm)), (0, .ref pa), (1, .int (nI dd))] := hl
      refine lv_iinc (k := 3) (v := nI (mm + 1)) hx hb d_pn_stateAt_75 hl rfl ((nI_succ mm).symm) (by decide) rfl (fun ls hl => ?_)
      have hl : lv_has ls 6 [(3, .int (nI (mm + 1))), (2, .int (nI (sv * (F0 + 1) + F0))), (5, .int (nI F0)), (4, .int r2), (0, .ref pa), (1, .int (nI dd))] := hl
      refine lv_goto hx hb d_pn_stateAt_78 rfl ?_
      have hl := lv_sub hl [0, 1, 4, 5] (l' := [(3, .int (nI (mm + 1))), (2, .int (nI (sv * (F0 + 1) + F0))), (0, .ref pa), (1, .int (nI dd))]) rfl
      exact ih_a (mm + 1, sv * (F0 + 1) + F0) ls H _ (by show n - (mm + 1) < n - mm; omega) ⟨by show mm + 1 ≤ n; omega, by show sv * (F0 + 1) + F0 = sx_st _ _ mm * (F0 + 1) + px_dig F0 rk S p0 mm; rw [hsv]; unfold px_dig; rw [if_pos ht], hl, hP, hH, rfl⟩
