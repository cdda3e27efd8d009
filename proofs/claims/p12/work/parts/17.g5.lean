set_option maxHeartbeats 4000000 in
set_option maxRecDepth 100000 in
theorem c_ld_tell (l : Launch) (D : va_G) (cZ cI cJ cII : ClassId) (da : Nat) (dce : Nat) (dto : Nat) (dle : Nat) (rl : Nat → Nat) (of : Nat → Int32) (lf : Nat → Int32) (Ml : Nat → Nat → Int32) (k : Nat) (tt : Nat) (ce : Int32) (j0 : Nat) (sz : Nat) (hk : k < 6) (htt : tt < 30) (hlf : lf k = nI j0) (hj0 : j0 ≤ 30) : Met l y_ld_tell w_ld_tell ({ frames := 1, cells := 0, slots := 0, locals := 40 }) (va_Pc [.ref da, .int (nI k), .int (nI tt), .int ce] (mt_B D [(cZ, .boolean), (cI, .int), (cJ, .long), (cII, .array .int)] ([(da, .inr (2, [.ref dce, .ref dto, .ref dle])), (dce, .inl (cII, 6, .inr (.inr (.inr (.inr (fun i => if i < 6 then some (rl i) else none)))))), (dto, .inl (cI, 6, .inl of)), (dle, .inl (cI, 6, .inl lf))] ++ mt_rw 6 rl (fun i => .inl (cI, 30, .inl (Ml i)))) sz)) ((fun A => va_Qi (fun (r : Int32) (u : (Nat → Int32) × (Nat → Int32)) => ((tb (of k) tt ∧ r = Ml k tt) ∨ (¬ tb (of k) tt ∧ r = -1)) ∧ ((u.1) = upd of k (of k ||| ((1 : Int32) <<< (nI tt &&& 31))) ∧ (∀ a, a ≠ k → (u.2) a = lf a) ∧ ∃ j1, j1 ≤ 30 ∧ (u.2) k = nI j1 ∧ (∀ t, j0 ≤ t → t < j1 → tb (of k ||| ((1 : Int32) <<< (nI tt &&& 31))) t) ∧ (j1 < 30 → ¬ tb (of k ||| ((1 : Int32) <<< (nI tt &&& 31))) j1))) (fun (u : (Nat → Int32) × (Nat → Int32)) (t : State) => mt_O D A ([(da, .inr (2, [.ref dce, .ref dto, .ref dle])), (dce, .inl (cII, 6, .inr (.inr (.inr (.inr (fun i => if i < 6 then some (rl i) else none)))))), (dto, .inl (cI, 6, .inl (u.1))), (dle, .inl (cI, 6, .inl (u.2)))] ++ mt_rw 6 rl (fun i => .inl (cI, 30, .inl (va_up Ml k (upd (Ml k) tt ce) i)))) t) A) (va_A ([(da, .inr (2, [.ref dce, .ref dto, .ref dle])), (dce, .inl (cII, 6, .inr (.inr (.inr (.inr (fun i => if i < 6 then some (rl i) else none)))))), (dto, .inl (cI, 6, .inl of)), (dle, .inl (cI, 6, .inl lf))] ++ mt_rw 6 rl (fun i => .inl (cI, 30, .inl (Ml i)))) sz)) 0 0 (va_A ([(da, .inr (2, [.ref dce, .ref dto, .ref dle])), (dce, .inl (cII, 6, .inr (.inr (.inr (.inr (fun i => if i < 6 then some (rl i) else none)))))), (dto, .inl (cI, 6, .inl of)), (dle, .inl (cI, 6, .inl lf))] ++ mt_rw 6 rl (fun i => .inl (cI, 30, .inl (Ml i)))) sz) := by
  refine mt_of (y := y_ld_tell) (n := 5) (av := [.ref da, .int (nI k), .int (nI tt), .int ce]) (QF := (fun A => va_Qi (fun (r : Int32) (u : (Nat → Int32) × (Nat → Int32)) => ((tb (of k) tt ∧ r = Ml k tt) ∨ (¬ tb (of k) tt ∧ r = -1)) ∧ ((u.1) = upd of k (of k ||| ((1 : Int32) <<< (nI tt &&& 31))) ∧ (∀ a, a ≠ k → (u.2) a = lf a) ∧ ∃ j1, j1 ≤ 30 ∧ (u.2) k = nI j1 ∧ (∀ t, j0 ≤ t → t < j1 → tb (of k ||| ((1 : Int32) <<< (nI tt &&& 31))) t) ∧ (j1 < 30 → ¬ tb (of k ||| ((1 : Int32) <<< (nI tt &&& 31))) j1))) (fun (u : (Nat → Int32) × (Nat → Int32)) (t : State) => mt_O D A ([(da, .inr (2, [.ref dce, .ref dto, .ref dle])), (dce, .inl (cII, 6, .inr (.inr (.inr (.inr (fun i => if i < 6 then some (rl i) else none)))))), (dto, .inl (cI, 6, .inl (u.1))), (dle, .inl (cI, 6, .inl (u.2)))] ++ mt_rw 6 rl (fun i => .inl (cI, 30, .inl (va_up Ml k (upd (Ml k) tt ce) i)))) t) A)) (by decide) (Nat.le_of_ble_eq_true rfl) ?_
  intro p e s m below meth c ls A hx hb hr hlk hml hown hnm hg hl hX hP hK hD hA hS
  obtain ⟨H, hH⟩ : ∃ H : Heap, H = s.heap := ⟨_, rfl⟩
  have hS : va_S A s.heap H [] := by rw [hH]; exact va_S.rf
  rw [← hH] at hP ⊢
  have hown : s.vm.findClass R_ld = some m.cls := hown
  have hl : lv_has ls 5 [(0, .ref da), (1, .int (nI k)), (2, .int (nI tt)), (3, .int ce)] := hl
  refine lv_aload_n hx hb d_ld_tell_0 rfl (lv_at hl 0 rfl) ?_
  refine lv_iload_n hx hb d_ld_tell_1 rfl (lv_at hl 1 rfl) ?_
  refine lv_iload_n hx hb d_ld_tell_2 rfl (lv_at hl 2 rfl) ?_
  have hPc := hP.sub (ws' := [(da, .inr (2, [.ref dce, .ref dto, .ref dle])), (dto, .inl (cI, 6, .inl of))]) [0, 2] rfl
  have hDc := hD.sub (ws' := [(da, .inr (2, [.ref dce, .ref dto, .ref dle])), (dto, .inl (cI, 6, .inl of))]) [0, 2] (by decide) rfl
  refine vp_callSi (W.runV (As := [.int (nI k), .int (nI tt)]) (rest := []) ⟨hx, hb, hml, hown, hg⟩ (c_ld_isTold l D cZ cI cJ cII da dce dto dle of k (nI tt) H.size hk) (cwV 2 hg gv_ld_29 rfl rfl rfl (by decide +kernel) ⟨Nat.le_of_ble_eq_true rfl, Nat.le_of_ble_eq_true rfl⟩) ⟨mt_bl, va_recv (q0 := 0) (ci := 2) hK hP rfl rfl, mt_pr hX hPc hK hDc⟩ rfl rfl hl.1 rfl (lv_room (Nat.le_of_ble_eq_true rfl)) d_ld_tell_3 ⟨Nat.le_of_ble_eq_true rfl, Nat.le_of_ble_eq_true rfl⟩) (fun r1 hr1 => ?_)
  have hr1 : (r1 = 1 ∧ of k >>> ((nI tt) &&& 31) &&& 1 = 1) ∨ (r1 = 0 ∧ ¬ of k >>> ((nI tt) &&& 31) &&& 1 = 1) := hr1
  have ht0 := hr1
  refine lv_if_eq hx hb d_ld_tell_6 rfl (fun g0 => ?_) (fun g0 => ?_)
  ·
    have hb0 : ∀ z : Int32, z = -1 → (tb (of k) tt ∧ z = Ml k tt) ∨ (¬ tb (of k) tt ∧ z = -1) := fun z hz => Or.inr ⟨ht0.elim (fun q => absurd (q.1.symm.trans g0) (by decide)) (fun q => q.2), hz⟩
    refine lv_iconst (v := (-1)) hx hb d_ld_tell_20 (by decide) ?_
    refine lv_istore hx hb d_ld_tell_21 hl (by decide) rfl (fun ls hl => ?_)
    have hl : lv_has ls 5 [(4, .int (-1)), (0, .ref da), (1, .int (nI k)), (2, .int (nI tt)), (3, .int ce)] := hl
    refine lv_aload_n hx hb d_ld_tell_23 rfl (lv_at hl 1 rfl) ?_
    refine gf_ld_11 hx hb hg hown hK hP 0 rfl rfl d_ld_tell_24 ?_
    refine lv_iload_n hx hb d_ld_tell_27 rfl (lv_at hl 2 rfl) ?_
    refine mt_aald hx hb hK hP 1 3 rfl rfl (vp_in_nI hk (by decide)) (by show (if (nI k).toNatClampNeg < 6 then some (rl (nI k).toNatClampNeg) else none) = some (rl k); rw [nI_clamp (show k < 2 ^ 31 by omega), if_pos hk]) d_ld_tell_28 ?_
    refine lv_iload_n hx hb d_ld_tell_29 rfl (lv_at hl 3 rfl) ?_
    refine lv_iload_n hx hb d_ld_tell_30 rfl (lv_at hl 4 rfl) ?_
    refine va_iast hx hb hK hP hD hS (4 + k) 1 (mt_rw_at rfl hk) rfl (vp_in_nI htt (by decide)) d_ld_tell_31 (fun H locs hP hD hS => ?_)
    rw [mt_rw_set (x := 4) rfl, mt_rw_row, nI_clamp (show tt < 2 ^ 31 by omega)] at hP hD
    have hP : va_P D kls ([(da, .inr (2, [.ref dce, .ref dto, .ref dle])), (dce, .inl (cII, 6, .inr (.inr (.inr (.inr (fun i => if i < 6 then some (rl i) else none)))))), (dto, .inl (cI, 6, .inl of)), (dle, .inl (cI, 6, .inl lf))] ++ mt_rw 6 rl (fun i => .inl (cI, 30, .inl (va_up Ml k (upd (Ml k) tt ce) i)))) H := hP
    have hD : va_D A ([(da, .inr (2, [.ref dce, .ref dto, .ref dle])), (dce, .inl (cII, 6, .inr (.inr (.inr (.inr (fun i => if i < 6 then some (rl i) else none)))))), (dto, .inl (cI, 6, .inl of)), (dle, .inl (cI, 6, .inl lf))] ++ mt_rw 6 rl (fun i => .inl (cI, 30, .inl (va_up Ml k (upd (Ml k) tt ce) i)))) := hD
    refine lv_aload_n hx hb d_ld_tell_32 rfl (lv_at hl 1 rfl) ?_
    refine gf_ld_16 hx hb hg hown hK hP 0 rfl rfl d_ld_tell_33 ?_
    refine lv_iload_n hx hb d_ld_tell_36 rfl (lv_at hl 2 rfl) ?_
    refine lv_dup2_11 hx hb d_ld_tell_37 rfl rfl ?_
    refine va_iald hx hb hK hP 2 1 rfl rfl (vp_in_nI hk (by decide)) d_ld_tell_38 ?_
    refine lv_topi (fun y2 ey2 => ?_)
    have ey2 : y2 = of k := ey2.trans (by rw [nI_clamp (show k < 2 ^ 31 by omega)])
    subst ey2
    refine lv_iconst (v := 1) hx hb d_ld_tell_39 (by decide) ?_
    refine lv_iload_n hx hb d_ld_tell_40 rfl (lv_at hl 3 rfl) ?_
    refine lv_ishl hx hb d_ld_tell_41 ?_
    refine lv_ior hx hb d_ld_tell_42 ?_
    refine lv_topi (fun x3 ex3 => ?_)
    have hxo : x3 = (of k ||| ((1 : Int32) <<< (nI tt &&& 31))) := ex3
    refine va_iast hx hb hK hP hD hS 2 1 rfl rfl (vp_in_nI hk (by decide)) d_ld_tell_43 (fun H locs hP hD hS => ?_)
    rw [nI_clamp (show k < 2 ^ 31 by omega)] at hP hD
    have hP : va_P D kls ([(da, .inr (2, [.ref dce, .ref dto, .ref dle])), (dce, .inl (cII, 6, .inr (.inr (.inr (.inr (fun i => if i < 6 then some (rl i) else none)))))), (dto, .inl (cI, 6, .inl (upd of k x3))), (dle, .inl (cI, 6, .inl lf))] ++ mt_rw 6 rl (fun i => .inl (cI, 30, .inl (va_up Ml k (upd (Ml k) tt ce) i)))) H := hP
    have hD : va_D A ([(da, .inr (2, [.ref dce, .ref dto, .ref dle])), (dce, .inl (cII, 6, .inr (.inr (.inr (.inr (fun i => if i < 6 then some (rl i) else none)))))), (dto, .inl (cI, 6, .inl (upd of k x3))), (dle, .inl (cI, 6, .inl lf))] ++ mt_rw 6 rl (fun i => .inl (cI, 30, .inl (va_up Ml k (upd (Ml k) tt ce) i)))) := hD
    have hl := lv_sub hl [0, 1, 2] (l' := [(4, .int (-1)), (0, .ref da), (1, .int (nI k))]) rfl
    refine mt_loop (ι := Nat × (Nat → Int32)) (I := fun i ls H locs => ((i.1) ≤ 30) ∧ ((i.2) k = nI (i.1)) ∧ (∀ a, a ≠ k → (i.2) a = lf a) ∧ (∀ t, j0 ≤ t → t < (i.1) → tb x3 t) ∧ lv_has ls 5 [(4, .int (-1)), (0, .ref da), (1, .int (nI k))] ∧ va_P D kls ([(da, .inr (2, [.ref dce, .ref dto, .ref dle])), (dce, .inl (cII, 6, .inr (.inr (.inr (.inr (fun i => if i < 6 then some (rl i) else none)))))), (dto, .inl (cI, 6, .inl (upd of k x3))), (dle, .inl (cI, 6, .inl (i.2)))] ++ mt_rw 6 rl (fun i => .inl (cI, 30, .inl (va_up Ml k (upd (Ml k) tt ce) i)))) H ∧ va_D A ([(da, .inr (2, [.ref dce, .ref dto, .ref dle])), (dce, .inl (cII, 6, .inr (.inr (.inr (.inr (fun i => if i < 6 then some (rl i) else none)))))), (dto, .inl (cI, 6, .inl (upd of k x3))), (dle, .inl (cI, 6, .inl (i.2)))] ++ mt_rw 6 rl (fun i => .inl (cI, 30, .inl (va_up Ml k (upd (Ml k) tt ce) i)))) ∧ va_S A s.heap H locs) (μ := fun i => 30 - (i.1)) ?_ (j0, lf) ls H _ ⟨hj0, hlf, fun _ _ => rfl, fun t h1 h2 => absurd h2 (Nat.not_lt.mpr h1), hl, hP, hD, hS⟩
    clear hl hP hD hS
    intro i_a ls H locs ⟨hj, hg9, hgo, htd, hl, hP, hD, hS⟩ ih_a
    obtain ⟨j, g⟩ := i_a
    have hj : j ≤ 30 := hj
    have hg9 : g k = nI j := hg9
    have hgo : ∀ a, a ≠ k → g a = lf a := hgo
    have htd : ∀ t, j0 ≤ t → t < j → tb x3 t := htd
    have hl : lv_has ls 5 [(4, .int (-1)), (0, .ref da), (1, .int (nI k))] := hl
    have hP : va_P D kls ([(da, .inr (2, [.ref dce, .ref dto, .ref dle])), (dce, .inl (cII, 6, .inr (.inr (.inr (.inr (fun i => if i < 6 then some (rl i) else none)))))), (dto, .inl (cI, 6, .inl (upd of k x3))), (dle, .inl (cI, 6, .inl g))] ++ mt_rw 6 rl (fun i => .inl (cI, 30, .inl (va_up Ml k (upd (Ml k) tt ce) i)))) H := hP
    have hD : va_D A ([(da, .inr (2, [.ref dce, .ref dto, .ref dle])), (dce, .inl (cII, 6, .inr (.inr (.inr (.inr (fun i => if i < 6 then some (rl i) else none)))))), (dto, .inl (cI, 6, .inl (upd of k x3))), (dle, .inl (cI, 6, .inl g))] ++ mt_rw 6 rl (fun i => .inl (cI, 30, .inl (va_up Ml k (upd (Ml k) tt ce) i)))) := hD
    refine lv_aload_n hx hb d_ld_tell_44 rfl (lv_at hl 1 rfl) ?_
    refine gf_ld_20 hx hb hg hown hK hP 0 rfl rfl d_ld_tell_45 ?_
    refine lv_iload_n hx hb d_ld_tell_48 rfl (lv_at hl 2 rfl) ?_
    refine va_iald hx hb hK hP 3 1 rfl rfl (vp_in_nI hk (by decide)) d_ld_tell_49 ?_
    refine lv_topi (fun y4 ey4 => ?_)
    have ey4 : y4 = nI j := ey4.trans (by rw [nI_clamp (show k < 2 ^ 31 by omega)]; exact hg9)
    subst ey4
    refine lv_bipush (v := 30) hx hb d_ld_tell_50 (by decide) ?_
    refine lv_icmp_ge hx hb d_ld_tell_52 rfl (fun g1 => ?_) (fun g1 => ?_)
    ·
      have g2 : 30 ≤ j := by rcases Nat.lt_or_ge j 30 with h | h; exact absurd g1 (nI_ge (b := 30) h (by decide)); exact h
      refine lv_iload hx hb d_ld_tell_82 (lv_at hl 0 rfl) ?_
      have hP9 := hP
      have hD9 := hD
      exact W.iret hx hb hr (fun t ht hW => ⟨⟨(-1), (upd of k x3, g), rfl, ⟨hb0 _ (by first | rfl | assumption), by rw [hxo], hgo, j, hj, hg9, by rw [← hxo]; exact htd, fun h => absurd h (by omega)⟩, by rw [ht]; exact hP9, hD9⟩, hS.F ht⟩) hS.2.2 d_ld_tell_84
    ·
      have g2 : j < 30 := by rcases Nat.lt_or_ge j 30 with h | h; exact h; exact absurd (nI_le (a := 30) h (by omega)) g1
      refine lv_aload_n hx hb d_ld_tell_55 rfl (lv_at hl 1 rfl) ?_
      refine lv_iload_n hx hb d_ld_tell_56 rfl (lv_at hl 2 rfl) ?_
      refine lv_aload_n hx hb d_ld_tell_57 rfl (lv_at hl 1 rfl) ?_
      refine gf_ld_20 hx hb hg hown hK hP 0 rfl rfl d_ld_tell_58 ?_
      refine lv_iload_n hx hb d_ld_tell_61 rfl (lv_at hl 2 rfl) ?_
      refine va_iald hx hb hK hP 3 1 rfl rfl (vp_in_nI hk (by decide)) d_ld_tell_62 ?_
      refine lv_topi (fun y5 ey5 => ?_)
      have ey5 : y5 = nI j := ey5.trans (by rw [nI_clamp (show k < 2 ^ 31 by omega)]; exact hg9)
      subst ey5
      have hPc := hP.sub (ws' := [(da, .inr (2, [.ref dce, .ref dto, .ref dle])), (dto, .inl (cI, 6, .inl (upd of k x3)))]) [0, 2] rfl
      have hDc := hD.sub (ws' := [(da, .inr (2, [.ref dce, .ref dto, .ref dle])), (dto, .inl (cI, 6, .inl (upd of k x3)))]) [0, 2] (by decide) rfl
      refine vp_callSi (W.runV (As := [.int (nI k), .int (nI j)]) (rest := []) ⟨hx, hb, hml, hown, hg⟩ (c_ld_isTold l D cZ cI cJ cII da dce dto dle (upd of k x3) k (nI j) H.size hk) (cwV 2 hg gv_ld_29 rfl rfl rfl (by decide +kernel) ⟨Nat.le_of_ble_eq_true rfl, Nat.le_of_ble_eq_true rfl⟩) ⟨mt_bl, va_recv (q0 := 0) (ci := 2) hK hP rfl rfl, mt_pr hX hPc hK hDc⟩ rfl rfl hl.1 rfl (lv_room (Nat.le_of_ble_eq_true rfl)) d_ld_tell_63 ⟨Nat.le_of_ble_eq_true rfl, Nat.le_of_ble_eq_true rfl⟩) (fun r6 hr6 => ?_)
      have hr6 : (r6 = 1 ∧ (upd of k x3) k >>> ((nI j) &&& 31) &&& 1 = 1) ∨ (r6 = 0 ∧ ¬ (upd of k x3) k >>> ((nI j) &&& 31) &&& 1 = 1) := hr6
      have ht9 := hr6
      refine lv_if_eq hx hb d_ld_tell_66 rfl (fun g3 => ?_) (fun g3 => ?_)
      ·
        have gn : ¬ tb x3 j := ht9.elim (fun q => absurd (q.1.symm.trans g3) (by decide)) (fun q => by have q2 := q.2; rw [pk_us] at q2; exact q2)
        refine lv_iload hx hb d_ld_tell_82 (lv_at hl 0 rfl) ?_
        have hP9 := hP
        have hD9 := hD
        exact W.iret hx hb hr (fun t ht hW => ⟨⟨(-1), (upd of k x3, g), rfl, ⟨hb0 _ (by first | rfl | assumption), by rw [hxo], hgo, j, hj, hg9, by rw [← hxo]; exact htd, fun _ => by rw [← hxo]; exact gn⟩, by rw [ht]; exact hP9, hD9⟩, hS.F ht⟩) hS.2.2 d_ld_tell_84
      ·
        have gt : tb x3 j := ht9.elim (fun q => by have q2 := q.2; rw [pk_us] at q2; exact q2) (fun q => absurd q.1 g3)
        refine lv_aload_n hx hb d_ld_tell_69 rfl (lv_at hl 1 rfl) ?_
        refine gf_ld_20 hx hb hg hown hK hP 0 rfl rfl d_ld_tell_70 ?_
        refine lv_iload_n hx hb d_ld_tell_73 rfl (lv_at hl 2 rfl) ?_
        refine lv_dup2_11 hx hb d_ld_tell_74 rfl rfl ?_
        refine va_iald hx hb hK hP 3 1 rfl rfl (vp_in_nI hk (by decide)) d_ld_tell_75 ?_
        refine lv_topi (fun y7 ey7 => ?_)
        have ey7 : y7 = nI j := ey7.trans (by rw [nI_clamp (show k < 2 ^ 31 by omega)]; exact hg9)
        subst ey7
        refine lv_iconst (v := 1) hx hb d_ld_tell_76 (by decide) ?_
        refine lv_iadd hx hb d_ld_tell_77 ?_
        refine lv_topi (fun y8 ey8 => ?_)
        have ey8 : y8 = nI (j + 1) := ey8.trans ((nI_succ j).symm)
        subst ey8
        refine va_iast hx hb hK hP hD hS 3 1 rfl rfl (vp_in_nI hk (by decide)) d_ld_tell_78 (fun H locs hP hD hS => ?_)
        rw [nI_clamp (show k < 2 ^ 31 by omega)] at hP hD
        have hP : va_P D kls ([(da, .inr (2, [.ref dce, .ref dto, .ref dle])), (dce, .inl (cII, 6, .inr (.inr (.inr (.inr (fun i => if i < 6 then some (rl i) else none)))))), (dto, .inl (cI, 6, .inl (upd of k x3))), (dle, .inl (cI, 6, .inl (upd g k (nI (j + 1)))))] ++ mt_rw 6 rl (fun i => .inl (cI, 30, .inl (va_up Ml k (upd (Ml k) tt ce) i)))) H := hP
        have hD : va_D A ([(da, .inr (2, [.ref dce, .ref dto, .ref dle])), (dce, .inl (cII, 6, .inr (.inr (.inr (.inr (fun i => if i < 6 then some (rl i) else none)))))), (dto, .inl (cI, 6, .inl (upd of k x3))), (dle, .inl (cI, 6, .inl (upd g k (nI (j + 1)))))] ++ mt_rw 6 rl (fun i => .inl (cI, 30, .inl (va_up Ml k (upd (Ml k) tt ce) i)))) := hD
        refine lv_goto hx hb d_ld_tell_79 rfl ?_
        have hl := lv_sub hl [0, 1, 2] (l' := [(4, .int (-1)), (0, .ref da), (1, .int (nI k))]) rfl
        exact ih_a (j + 1, upd g k (nI (j + 1))) ls H _ (by show 30 - (j + 1) < 30 - j; omega) ⟨by show j + 1 ≤ 30; omega, pk_us, fun a ha => (pk_un ha).trans (hgo a ha), fun t h1 h2 => (Nat.lt_or_ge t j).elim (fun q => htd t h1 q) (fun q => by rw [show t = j from Nat.le_antisymm (Nat.le_of_lt_succ h2) q]; exact gt), hl, hP, hD, hS⟩
  ·
    have hb0 : ∀ z : Int32, z = Ml k tt → (tb (of k) tt ∧ z = Ml k tt) ∨ (¬ tb (of k) tt ∧ z = -1) := fun z hz => Or.inl ⟨ht0.elim (fun q => q.2) (fun q => absurd q.1 g0), hz⟩
    refine lv_aload_n hx hb d_ld_tell_9 rfl (lv_at hl 0 rfl) ?_
    refine gf_ld_11 hx hb hg hown hK hP 0 rfl rfl d_ld_tell_10 ?_
    refine lv_iload_n hx hb d_ld_tell_13 rfl (lv_at hl 1 rfl) ?_
    refine mt_aald hx hb hK hP 1 3 rfl rfl (vp_in_nI hk (by decide)) (by show (if (nI k).toNatClampNeg < 6 then some (rl (nI k).toNatClampNeg) else none) = some (rl k); rw [nI_clamp (show k < 2 ^ 31 by omega), if_pos hk]) d_ld_tell_14 ?_
    refine lv_iload_n hx hb d_ld_tell_15 rfl (lv_at hl 2 rfl) ?_
    refine va_iald hx hb hK hP (4 + k) 1 (mt_rw_at rfl hk) rfl (vp_in_nI htt (by decide)) d_ld_tell_16 ?_
    refine lv_topi (fun y9 ey9 => ?_)
    have ey9 : y9 = Ml k tt := ey9.trans (by rw [nI_clamp (show tt < 2 ^ 31 by omega)])
    subst ey9
    refine lv_goto hx hb d_ld_tell_17 rfl ?_
    refine lv_topi (fun x10 ex10 => ?_)
    refine lv_istore hx hb d_ld_tell_21 hl (by decide) rfl (fun ls hl => ?_)
    have hl : lv_has ls 5 [(4, .int x10), (0, .ref da), (1, .int (nI k)), (2, .int (nI tt)), (3, .int ce)] := hl
    refine lv_aload_n hx hb d_ld_tell_23 rfl (lv_at hl 1 rfl) ?_
    refine gf_ld_11 hx hb hg hown hK hP 0 rfl rfl d_ld_tell_24 ?_
    refine lv_iload_n hx hb d_ld_tell_27 rfl (lv_at hl 2 rfl) ?_
    refine mt_aald hx hb hK hP 1 3 rfl rfl (vp_in_nI hk (by decide)) (by show (if (nI k).toNatClampNeg < 6 then some (rl (nI k).toNatClampNeg) else none) = some (rl k); rw [nI_clamp (show k < 2 ^ 31 by omega), if_pos hk]) d_ld_tell_28 ?_
    refine lv_iload_n hx hb d_ld_tell_29 rfl (lv_at hl 3 rfl) ?_
    refine lv_iload_n hx hb d_ld_tell_30 rfl (lv_at hl 4 rfl) ?_
    refine va_iast hx hb hK hP hD hS (4 + k) 1 (mt_rw_at rfl hk) rfl (vp_in_nI htt (by decide)) d_ld_tell_31 (fun H locs hP hD hS => ?_)
    rw [mt_rw_set (x := 4) rfl, mt_rw_row, nI_clamp (show tt < 2 ^ 31 by omega)] at hP hD
    have hP : va_P D kls ([(da, .inr (2, [.ref dce, .ref dto, .ref dle])), (dce, .inl (cII, 6, .inr (.inr (.inr (.inr (fun i => if i < 6 then some (rl i) else none)))))), (dto, .inl (cI, 6, .inl of)), (dle, .inl (cI, 6, .inl lf))] ++ mt_rw 6 rl (fun i => .inl (cI, 30, .inl (va_up Ml k (upd (Ml k) tt ce) i)))) H := hP
    have hD : va_D A ([(da, .inr (2, [.ref dce, .ref dto, .ref dle])), (dce, .inl (cII, 6, .inr (.inr (.inr (.inr (fun i => if i < 6 then some (rl i) else none)))))), (dto, .inl (cI, 6, .inl of)), (dle, .inl (cI, 6, .inl lf))] ++ mt_rw 6 rl (fun i => .inl (cI, 30, .inl (va_up Ml k (upd (Ml k) tt ce) i)))) := hD
    refine lv_aload_n hx hb d_ld_tell_32 rfl (lv_at hl 1 rfl) ?_
    refine gf_ld_16 hx hb hg hown hK hP 0 rfl rfl d_ld_tell_33 ?_
    refine lv_iload_n hx hb d_ld_tell_36 rfl (lv_at hl 2 rfl) ?_
    refine lv_dup2_11 hx hb d_ld_tell_37 rfl rfl ?_
    refine va_iald hx hb hK hP 2 1 rfl rfl (vp_in_nI hk (by decide)) d_ld_tell_38 ?_
    refine lv_topi (fun y11 ey11 => ?_)
    have ey11 : y11 = of k := ey11.trans (by rw [nI_clamp (show k < 2 ^ 31 by omega)])
    subst ey11
    refine lv_iconst (v := 1) hx hb d_ld_tell_39 (by decide) ?_
    refine lv_iload_n hx hb d_ld_tell_40 rfl (lv_at hl 3 rfl) ?_
    refine lv_ishl hx hb d_ld_tell_41 ?_
    refine lv_ior hx hb d_ld_tell_42 ?_
    refine lv_topi (fun x12 ex12 => ?_)
    have hxo : x12 = (of k ||| ((1 : Int32) <<< (nI tt &&& 31))) := ex12
    refine va_iast hx hb hK hP hD hS 2 1 rfl rfl (vp_in_nI hk (by decide)) d_ld_tell_43 (fun H locs hP hD hS => ?_)
    rw [nI_clamp (show k < 2 ^ 31 by omega)] at hP hD
    have hP : va_P D kls ([(da, .inr (2, [.ref dce, .ref dto, .ref dle])), (dce, .inl (cII, 6, .inr (.inr (.inr (.inr (fun i => if i < 6 then some (rl i) else none)))))), (dto, .inl (cI, 6, .inl (upd of k x12))), (dle, .inl (cI, 6, .inl lf))] ++ mt_rw 6 rl (fun i => .inl (cI, 30, .inl (va_up Ml k (upd (Ml k) tt ce) i)))) H := hP
    have hD : va_D A ([(da, .inr (2, [.ref dce, .ref dto, .ref dle])), (dce, .inl (cII, 6, .inr (.inr (.inr (.inr (fun i => if i < 6 then some (rl i) else none)))))), (dto, .inl (cI, 6, .inl (upd of k x12))), (dle, .inl (cI, 6, .inl lf))] ++ mt_rw 6 rl (fun i => .inl (cI, 30, .inl (va_up Ml k (upd (Ml k) tt ce) i)))) := hD
    have hl := lv_sub hl [0, 1, 2] (l' := [(4, .int x10), (0, .ref da), (1, .int (nI k))]) rfl
    refine mt_loop (ι := Nat × (Nat → Int32)) (I := fun i ls H locs => ((i.1) ≤ 30) ∧ ((i.2) k = nI (i.1)) ∧ (∀ a, a ≠ k → (i.2) a = lf a) ∧ (∀ t, j0 ≤ t → t < (i.1) → tb x12 t) ∧ lv_has ls 5 [(4, .int x10), (0, .ref da), (1, .int (nI k))] ∧ va_P D kls ([(da, .inr (2, [.ref dce, .ref dto, .ref dle])), (dce, .inl (cII, 6, .inr (.inr (.inr (.inr (fun i => if i < 6 then some (rl i) else none)))))), (dto, .inl (cI, 6, .inl (upd of k x12))), (dle, .inl (cI, 6, .inl (i.2)))] ++ mt_rw 6 rl (fun i => .inl (cI, 30, .inl (va_up Ml k (upd (Ml k) tt ce) i)))) H ∧ va_D A ([(da, .inr (2, [.ref dce, .ref dto, .ref dle])), (dce, .inl (cII, 6, .inr (.inr (.inr (.inr (fun i => if i < 6 then some (rl i) else none)))))), (dto, .inl (cI, 6, .inl (upd of k x12))), (dle, .inl (cI, 6, .inl (i.2)))] ++ mt_rw 6 rl (fun i => .inl (cI, 30, .inl (va_up Ml k (upd (Ml k) tt ce) i)))) ∧ va_S A s.heap H locs) (μ := fun i => 30 - (i.1)) ?_ (j0, lf) ls H _ ⟨hj0, hlf, fun _ _ => rfl, fun t h1 h2 => absurd h2 (Nat.not_lt.mpr h1), hl, hP, hD, hS⟩
    clear hl hP hD hS
    intro i_a ls H locs ⟨hj, hg9, hgo, htd, hl, hP, hD, hS⟩ ih_a
    obtain ⟨j, g⟩ := i_a
    have hj : j ≤ 30 := hj
    have hg9 : g k = nI j := hg9
    have hgo : ∀ a, a ≠ k → g a = lf a := hgo
    have htd : ∀ t, j0 ≤ t → t < j → tb x12 t := htd
    have hl : lv_has ls 5 [(4, .int x10), (0, .ref da), (1, .int (nI k))] := hl
    have hP : va_P D kls ([(da, .inr (2, [.ref dce, .ref dto, .ref dle])), (dce, .inl (cII, 6, .inr (.inr (.inr (.inr (fun i => if i < 6 then some (rl i) else none)))))), (dto, .inl (cI, 6, .inl (upd of k x12))), (dle, .inl (cI, 6, .inl g))] ++ mt_rw 6 rl (fun i => .inl (cI, 30, .inl (va_up Ml k (upd (Ml k) tt ce) i)))) H := hP
    have hD : va_D A ([(da, .inr (2, [.ref dce, .ref dto, .ref dle])), (dce, .inl (cII, 6, .inr (.inr (.inr (.inr (fun i => if i < 6 then some (rl i) else none)))))), (dto, .inl (cI, 6, .inl (upd of k x12))), (dle, .inl (cI, 6, .inl g))] ++ mt_rw 6 rl (fun i => .inl (cI, 30, .inl (va_up Ml k (upd (Ml k) tt ce) i)))) := hD
    refine lv_aload_n hx hb d_ld_tell_44 rfl (lv_at hl 1 rfl) ?_
    refine gf_ld_20 hx hb hg hown hK hP 0 rfl rfl d_ld_tell_45 ?_
    refine lv_iload_n hx hb d_ld_tell_48 rfl (lv_at hl 2 rfl) ?_
    refine va_iald hx hb hK hP 3 1 rfl rfl (vp_in_nI hk (by decide)) d_ld_tell_49 ?_
    refine lv_topi (fun y13 ey13 => ?_)
    have ey13 : y13 = nI j := ey13.trans (by rw [nI_clamp (show k < 2 ^ 31 by omega)]; exact hg9)
    subst ey13
    refine lv_bipush (v := 30) hx hb d_ld_tell_50 (by decide) ?_
    refine lv_icmp_ge hx hb d_ld_tell_52 rfl (fun g1 => ?_) (fun g1 => ?_)
    ·
      have g2 : 30 ≤ j := by rcases Nat.lt_or_ge j 30 with h | h; exact absurd g1 (nI_ge (b := 30) h (by decide)); exact h
      refine lv_iload hx hb d_ld_tell_82 (lv_at hl 0 rfl) ?_
      have hP9 := hP
      have hD9 := hD
      exact W.iret hx hb hr (fun t ht hW => ⟨⟨x10, (upd of k x12, g), rfl, ⟨hb0 _ (by first | rfl | assumption), by rw [hxo], hgo, j, hj, hg9, by rw [← hxo]; exact htd, fun h => absurd h (by omega)⟩, by rw [ht]; exact hP9, hD9⟩, hS.F ht⟩) hS.2.2 d_ld_tell_84
    ·
      have g2 : j < 30 := by rcases Nat.lt_or_ge j 30 with h | h; exact h; exact absurd (nI_le (a := 30) h (by omega)) g1
      refine lv_aload_n hx hb d_ld_tell_55 rfl (lv_at hl 1 rfl) ?_
      refine lv_iload_n hx hb d_ld_tell_56 rfl (lv_at hl 2 rfl) ?_
      refine lv_aload_n hx hb d_ld_tell_57 rfl (lv_at hl 1 rfl) ?_
      refine gf_ld_20 hx hb hg hown hK hP 0 rfl rfl d_ld_tell_58 ?_
      refine lv_iload_n hx hb d_ld_tell_61 rfl (lv_at hl 2 rfl) ?_
      refine va_iald hx hb hK hP 3 1 rfl rfl (vp_in_nI hk (by decide)) d_ld_tell_62 ?_
      refine lv_topi (fun y14 ey14 => ?_)
      have ey14 : y14 = nI j := ey14.trans (by rw [nI_clamp (show k < 2 ^ 31 by omega)]; exact hg9)
      subst ey14
      have hPc := hP.sub (ws' := [(da, .inr (2, [.ref dce, .ref dto, .ref dle])), (dto, .inl (cI, 6, .inl (upd of k x12)))]) [0, 2] rfl
      have hDc := hD.sub (ws' := [(da, .inr (2, [.ref dce, .ref dto, .ref dle])), (dto, .inl (cI, 6, .inl (upd of k x12)))]) [0, 2] (by decide) rfl
      refine vp_callSi (W.runV (As := [.int (nI k), .int (nI j)]) (rest := []) ⟨hx, hb, hml, hown, hg⟩ (c_ld_isTold l D cZ cI cJ cII da dce dto dle (upd of k x12) k (nI j) H.size hk) (cwV 2 hg gv_ld_29 rfl rfl rfl (by decide +kernel) ⟨Nat.le_of_ble_eq_true rfl, Nat.le_of_ble_eq_true rfl⟩) ⟨mt_bl, va_recv (q0 := 0) (ci := 2) hK hP rfl rfl, mt_pr hX hPc hK hDc⟩ rfl rfl hl.1 rfl (lv_room (Nat.le_of_ble_eq_true rfl)) d_ld_tell_63 ⟨Nat.le_of_ble_eq_true rfl, Nat.le_of_ble_eq_true rfl⟩) (fun r15 hr15 => ?_)
      have hr15 : (r15 = 1 ∧ (upd of k x12) k >>> ((nI j) &&& 31) &&& 1 = 1) ∨ (r15 = 0 ∧ ¬ (upd of k x12) k >>> ((nI j) &&& 31) &&& 1 = 1) := hr15
      have ht9 := hr15
      refine lv_if_eq hx hb d_ld_tell_66 rfl (fun g3 => ?_) (fun g3 => ?_)
      ·
        have gn : ¬ tb x12 j := ht9.elim (fun q => absurd (q.1.symm.trans g3) (by decide)) (fun q => by have q2 := q.2; rw [pk_us] at q2; exact q2)
        refine lv_iload hx hb d_ld_tell_82 (lv_at hl 0 rfl) ?_
        have hP9 := hP
        have hD9 := hD
        exact W.iret hx hb hr (fun t ht hW => ⟨⟨x10, (upd of k x12, g), rfl, ⟨hb0 _ (by first | rfl | assumption), by rw [hxo], hgo, j, hj, hg9, by rw [← hxo]; exact htd, fun _ => by rw [← hxo]; exact gn⟩, by rw [ht]; exact hP9, hD9⟩, hS.F ht⟩) hS.2.2 d_ld_tell_84
      ·
        have gt : tb x12 j := ht9.elim (fun q => by have q2 := q.2; rw [pk_us] at q2; exact q2) (fun q => absurd q.1 g3)
        refine lv_aload_n hx hb d_ld_tell_69 rfl (lv_at hl 1 rfl) ?_
        refine gf_ld_20 hx hb hg hown hK hP 0 rfl rfl d_ld_tell_70 ?_
        refine lv_iload_n hx hb d_ld_tell_73 rfl (lv_at hl 2 rfl) ?_
        refine lv_dup2_11 hx hb d_ld_tell_74 rfl rfl ?_
        refine va_iald hx hb hK hP 3 1 rfl rfl (vp_in_nI hk (by decide)) d_ld_tell_75 ?_
        refine lv_topi (fun y16 ey16 => ?_)
        have ey16 : y16 = nI j := ey16.trans (by rw [nI_clamp (show k < 2 ^ 31 by omega)]; exact hg9)
        subst ey16
        refine lv_iconst (v := 1) hx hb d_ld_tell_76 (by decide) ?_
        refine lv_iadd hx hb d_ld_tell_77 ?_
        refine lv_topi (fun y17 ey17 => ?_)
        have ey17 : y17 = nI (j + 1) := ey17.trans ((nI_succ j).symm)
        subst ey17
        refine va_iast hx hb hK hP hD hS 3 1 rfl rfl (vp_in_nI hk (by decide)) d_ld_tell_78 (fun H locs hP hD hS => ?_)
        rw [nI_clamp (show k < 2 ^ 31 by omega)] at hP hD
        have hP : va_P D kls ([(da, .inr (2, [.ref dce, .ref dto, .ref dle])), (dce, .inl (cII, 6, .inr (.inr (.inr (.inr (fun i => if i < 6 then some (rl i) else none)))))), (dto, .inl (cI, 6, .inl (upd of k x12))), (dle, .inl (cI, 6, .inl (upd g k (nI (j + 1)))))] ++ mt_rw 6 rl (fun i => .inl (cI, 30, .inl (va_up Ml k (upd (Ml k) tt ce) i)))) H := hP
        have hD : va_D A ([(da, .inr (2, [.ref dce, .ref dto, .ref dle])), (dce, .inl (cII, 6, .inr (.inr (.inr (.inr (fun i => if i < 6 then some (rl i) else none)))))), (dto, .inl (cI, 6, .inl (upd of k x12))), (dle, .inl (cI, 6, .inl (upd g k (nI (j + 1)))))] ++ mt_rw 6 rl (fun i => .inl (cI, 30, .inl (va_up Ml k (upd (Ml k) tt ce) i)))) := hD
        refine lv_goto hx hb d_ld_tell_79 rfl ?_
        have hl := lv_sub hl [0, 1, 2] (l' := [(4, .int x10), (0, .ref da), (1, .int (nI k))]) rfl
        exact ih_a (j + 1, upd g k (nI (j + 1))) ls H _ (by show 30 - (j + 1) < 30 - j; omega) ⟨by show j + 1 ≤ 30; omega, pk_us, fun a ha => (pk_un ha).trans (hgo a ha), fun t h1 h2 => (Nat.lt_or_ge t j).elim (fun q => htd t h1 q) (fun q => by rw [show t = j from Nat.le_antisymm (Nat.le_of_lt_succ h2) q]; exact gt), hl, hP, hD, hS⟩
