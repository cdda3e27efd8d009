set_option maxHeartbeats 4000000 in
set_option maxRecDepth 100000 in
theorem c_md_nextChoice (l : Launch) (D : va_G) (cZ cI cJ cII : ClassId) (na : Nat) (nwalls : Nat) (nstarts : Nat) (ngoals : Nat) (nlaid : Nat) (nisTold : Nat) (ncells : Nat) (nindex : Nat) (nnear : Nat) (nnearCount : Nat) (npay : Nat) (ndone : Nat) (npile : Nat) (nnow : Nat) (nthen : Nat) (nchoice : Nat) (nplan : Nat) (ncosts : Nat) (npaid : Nat) (nafter : Nat) (nfar : Nat) (nmany : Nat) (nnext : Nat) (vfree : Int32) (vtop : Int32) (vfound : Int32) (vlength : Int32) (vsort : Int32) (vwhen : Int32) (vone : Int32) (vtwo : Int32) (W0 : Nat) (H0 : Nat) (n : Nat) (nf : Nat → Int32) (kf : Nat → Int32) (qf : Nat → Int32) (hf : Nat → Int32) (F0 : Nat) (S : Nat) (p0 : Nat → Nat) (ch : Nat → Nat) (sz : Nat) (hn : n ≤ 5) (hF : F0 ≤ 25) (hN : mc_N F0 nf kf) (hq : ∀ i, i < n → qf i = nI (p0 i) ∧ p0 i < F0) (hS32 : S < 32) (hch : ∀ i, i < n → hf i = nI (ch i) ∧ ch i < mc_R kf p0 S i) : Met l y_md_nextChoice w_md_nextChoice ({ frames := 2, cells := 0, slots := 0, locals := 80 }) (va_Pc [.ref na, .int (nI S)] (mt_B D [(cZ, .boolean), (cI, .int), (cJ, .long), (cII, .array .int)] [(na, .inr (7, [.int (nI W0), .int (nI H0), .ref nwalls, .int (nI n), .ref nstarts, .ref ngoals, .ref nlaid, .ref nisTold, .int vfree, .ref ncells, .ref nindex, .ref nnear, .ref nnearCount, .ref npay, .ref ndone, .ref npile, .int vtop, .ref nnow, .ref nthen, .ref nchoice, .int vfound, .int vlength, .ref nplan, .ref ncosts, .ref npaid, .ref nafter, .ref nfar, .ref nmany, .ref nnext, .int vsort, .int vwhen, .int vone, .int vtwo])), (nchoice, .inl (cI, 6, .inl hf)), (nnearCount, .inl (cI, 25, .inl kf)), (nnow, .inl (cI, 6, .inl qf))] sz)) ((fun A => va_Qi (fun (r : Int32) (u : (Nat → Int32)) => ((r = 1 ∧ ∃ ch1 : Nat → Nat, (∀ i, i < n → u i = nI (ch1 i) ∧ ch1 i < mc_R kf p0 S i) ∧ dj_vr (mc_R kf p0 S) ch1 n = dj_vr (mc_R kf p0 S) ch n + 1) ∨ (r = 0 ∧ ∀ i, i < n → ch i + 1 = mc_R kf p0 S i)) ∧ (True)) (fun (u : (Nat → Int32)) (t : State) => mt_O D A [(na, .inr (7, [.int (nI W0), .int (nI H0), .ref nwalls, .int (nI n), .ref nstarts, .ref ngoals, .ref nlaid, .ref nisTold, .int vfree, .ref ncells, .ref nindex, .ref nnear, .ref nnearCount, .ref npay, .ref ndone, .ref npile, .int vtop, .ref nnow, .ref nthen, .ref nchoice, .int vfound, .int vlength, .ref nplan, .ref ncosts, .ref npaid, .ref nafter, .ref nfar, .ref nmany, .ref nnext, .int vsort, .int vwhen, .int vone, .int vtwo])), (nchoice, .inl (cI, 6, .inl u)), (nnearCount, .inl (cI, 25, .inl kf)), (nnow, .inl (cI, 6, .inl qf))] t) A) (va_A [(na, .inr (7, [.int (nI W0), .int (nI H0), .ref nwalls, .int (nI n), .ref nstarts, .ref ngoals, .ref nlaid, .ref nisTold, .int vfree, .ref ncells, .ref nindex, .ref nnear, .ref nnearCount, .ref npay, .ref ndone, .ref npile, .int vtop, .ref nnow, .ref nthen, .ref nchoice, .int vfound, .int vlength, .ref nplan, .ref ncosts, .ref npaid, .ref nafter, .ref nfar, .ref nmany, .ref nnext, .int vsort, .int vwhen, .int vone, .int vtwo])), (nchoice, .inl (cI, 6, .inl hf)), (nnearCount, .inl (cI, 25, .inl kf)), (nnow, .inl (cI, 6, .inl qf))] sz)) 0 0 (va_A [(na, .inr (7, [.int (nI W0), .int (nI H0), .ref nwalls, .int (nI n), .ref nstarts, .ref ngoals, .ref nlaid, .ref nisTold, .int vfree, .ref ncells, .ref nindex, .ref nnear, .ref nnearCount, .ref npay, .ref ndone, .ref npile, .int vtop, .ref nnow, .ref nthen, .ref nchoice, .int vfound, .int vlength, .ref nplan, .ref ncosts, .ref npaid, .ref nafter, .ref nfar, .ref nmany, .ref nnext, .int vsort, .int vwhen, .int vone, .int vtwo])), (nchoice, .inl (cI, 6, .inl hf)), (nnearCount, .inl (cI, 25, .inl kf)), (nnow, .inl (cI, 6, .inl qf))] sz) := by
  refine mt_of (y := y_md_nextChoice) (n := 3) (av := [.ref na, .int (nI S)]) (QF := (fun A => va_Qi (fun (r : Int32) (u : (Nat → Int32)) => ((r = 1 ∧ ∃ ch1 : Nat → Nat, (∀ i, i < n → u i = nI (ch1 i) ∧ ch1 i < mc_R kf p0 S i) ∧ dj_vr (mc_R kf p0 S) ch1 n = dj_vr (mc_R kf p0 S) ch n + 1) ∨ (r = 0 ∧ ∀ i, i < n → ch i + 1 = mc_R kf p0 S i)) ∧ (True)) (fun (u : (Nat → Int32)) (t : State) => mt_O D A [(na, .inr (7, [.int (nI W0), .int (nI H0), .ref nwalls, .int (nI n), .ref nstarts, .ref ngoals, .ref nlaid, .ref nisTold, .int vfree, .ref ncells, .ref nindex, .ref nnear, .ref nnearCount, .ref npay, .ref ndone, .ref npile, .int vtop, .ref nnow, .ref nthen, .ref nchoice, .int vfound, .int vlength, .ref nplan, .ref ncosts, .ref npaid, .ref nafter, .ref nfar, .ref nmany, .ref nnext, .int vsort, .int vwhen, .int vone, .int vtwo])), (nchoice, .inl (cI, 6, .inl u)), (nnearCount, .inl (cI, 25, .inl kf)), (nnow, .inl (cI, 6, .inl qf))] t) A)) (by decide) (Nat.le_of_ble_eq_true rfl) ?_
  intro p e s m below meth c ls A hx hb hr hlk hml hown hnm hg hl hX hP hK hD hA hS
  obtain ⟨H, hH⟩ : ∃ H : Heap, H = s.heap := ⟨_, rfl⟩
  have hS : va_S A s.heap H [] := by rw [hH]; exact va_S.rf
  rw [← hH] at hP ⊢
  have hown : s.vm.findClass R_md = some m.cls := hown
  have hl : lv_has ls 3 [(0, .ref na), (1, .int (nI S))] := hl
  refine lv_aload_n hx hb d_md_nextChoice_0 rfl (lv_at hl 0 rfl) ?_
  refine gf_md_86 hx hb hg hown hK hP 0 rfl rfl d_md_nextChoice_1 ?_
  refine lv_iconst (v := 1) hx hb d_md_nextChoice_4 (by decide) ?_
  refine lv_isub hx hb d_md_nextChoice_5 ?_
  refine lv_topi (fun y1 ey1 => ?_)
  have ey1 : y1 = nI n - 1 := ey1.trans rfl
  subst ey1
  refine lv_topi (fun x2 ex2 => ?_)
  refine lv_istore_n hx hb d_md_nextChoice_6 rfl hl (by decide) rfl (fun ls hl => ?_)
  have hl : lv_has ls 3 [(2, .int x2), (0, .ref na), (1, .int (nI S))] := hl
  have hl := lv_sub hl [0, 1, 2] (l' := [(2, .int x2), (0, .ref na), (1, .int (nI S))]) rfl
  refine mt_loop (ι := Int32 × Nat × (Nat → Int32)) (I := fun ix ls H locs => ((ix.1) = nI (ix.2.1) - 1) ∧ ((ix.2.1) ≤ n) ∧ (∀ i, i < (ix.2.1) → (ix.2.2) i = nI (ch i)) ∧ (∀ i, (ix.2.1) ≤ i → i < n → ch i + 1 = mc_R kf p0 S i ∧ (ix.2.2) i = nI 0) ∧ lv_has ls 3 [(2, .int (ix.1)), (0, .ref na), (1, .int (nI S))] ∧ va_P D kls [(na, .inr (7, [.int (nI W0), .int (nI H0), .ref nwalls, .int (nI n), .ref nstarts, .ref ngoals, .ref nlaid, .ref nisTold, .int vfree, .ref ncells, .ref nindex, .ref nnear, .ref nnearCount, .ref npay, .ref ndone, .ref npile, .int vtop, .ref nnow, .ref nthen, .ref nchoice, .int vfound, .int vlength, .ref nplan, .ref ncosts, .ref npaid, .ref nafter, .ref nfar, .ref nmany, .ref nnext, .int vsort, .int vwhen, .int vone, .int vtwo])), (nchoice, .inl (cI, 6, .inl (ix.2.2))), (nnearCount, .inl (cI, 25, .inl kf)), (nnow, .inl (cI, 6, .inl qf))] H ∧ va_D A [(na, .inr (7, [.int (nI W0), .int (nI H0), .ref nwalls, .int (nI n), .ref nstarts, .ref ngoals, .ref nlaid, .ref nisTold, .int vfree, .ref ncells, .ref nindex, .ref nnear, .ref nnearCount, .ref npay, .ref ndone, .ref npile, .int vtop, .ref nnow, .ref nthen, .ref nchoice, .int vfound, .int vlength, .ref nplan, .ref ncosts, .ref npaid, .ref nafter, .ref nfar, .ref nmany, .ref nnext, .int vsort, .int vwhen, .int vone, .int vtwo])), (nchoice, .inl (cI, 6, .inl (ix.2.2))), (nnearCount, .inl (cI, 25, .inl kf)), (nnow, .inl (cI, 6, .inl qf))] ∧ va_S A s.heap H locs) (μ := fun ix => (ix.2.1)) ?_ (x2, n, hf) ls H _ ⟨by dsimp only; assumption, Nat.le_refl _, fun i hi => (hch i hi).1, fun i h1 h2 => absurd h2 (by show ¬ i < n; have : n ≤ i := h1; omega), hl, hP, hD, hS⟩
  clear hl hP hD hS
  intro i_a ls H locs ⟨hx1, hmz, hlo, hhi, hl, hP, hD, hS⟩ ih_a
  obtain ⟨x, mz, g⟩ := i_a
  have hx1 : x = nI mz - 1 := hx1
  have hmz : mz ≤ n := hmz
  have hlo : ∀ i, i < mz → g i = nI (ch i) := hlo
  have hhi : ∀ i, mz ≤ i → i < n → ch i + 1 = mc_R kf p0 S i ∧ g i = nI 0 := hhi
  have hl : lv_has ls 3 [(2, .int x), (0, .ref na), (1, .int (nI S))] := hl
  have hP : va_P D kls [(na, .inr (7, [.int (nI W0), .int (nI H0), .ref nwalls, .int (nI n), .ref nstarts, .ref ngoals, .ref nlaid, .ref nisTold, .int vfree, .ref ncells, .ref nindex, .ref nnear, .ref nnearCount, .ref npay, .ref ndone, .ref npile, .int vtop, .ref nnow, .ref nthen, .ref nchoice, .int vfound, .int vlength, .ref nplan, .ref ncosts, .ref npaid, .ref nafter, .ref nfar, .ref nmany, .ref nnext, .int vsort, .int vwhen, .int vone, .int vtwo])), (nchoice, .inl (cI, 6, .inl g)), (nnearCount, .inl (cI, 25, .inl kf)), (nnow, .inl (cI, 6, .inl qf))] H := hP
  have hD : va_D A [(na, .inr (7, [.int (nI W0), .int (nI H0), .ref nwalls, .int (nI n), .ref nstarts, .ref ngoals, .ref nlaid, .ref nisTold, .int vfree, .ref ncells, .ref nindex, .ref nnear, .ref nnearCount, .ref npay, .ref ndone, .ref npile, .int vtop, .ref nnow, .ref nthen, .ref nchoice, .int vfound, .int vlength, .ref nplan, .ref ncosts, .ref npaid, .ref nafter, .ref nfar, .ref nmany, .ref nnext, .int vsort, .int vwhen, .int vone, .int vtwo])), (nchoice, .inl (cI, 6, .inl g)), (nnearCount, .inl (cI, 25, .inl kf)), (nnow, .inl (cI, 6, .inl qf))] := hD
  refine lv_iload_n hx hb d_md_nextChoice_7 rfl (lv_at hl 0 rfl) ?_
  refine lv_if_lt hx hb d_md_nextChoice_8 rfl (fun g1 => ?_) (fun g1 => ?_)
  ·
    have gm0 : mz = 0 := by
      cases mz with
      | zero => rfl
      | succ m1 => rw [hx1, nI_pred] at g1; exact absurd g1 (nI_pos (by omega))
    refine lv_iload_n hx hb d_md_nextChoice_41 rfl (lv_at hl 0 rfl) ?_
    refine lv_if_ge hx hb d_md_nextChoice_42 rfl (fun h => absurd h (fun h => absurd g1 (mt_nl h))) (fun _ => ?_)
    refine lv_iconst (v := 0) hx hb d_md_nextChoice_45 (by decide) ?_
    have hP9 := hP
    have hD9 := hD
    exact W.zret hx hb hr rfl (fun t ht hW => ⟨⟨0, g, rfl, ⟨Or.inr ⟨rfl, fun i hi => (hhi i (by omega) hi).1⟩, trivial⟩, by rw [ht]; exact hP9, hD9⟩, hS.F ht⟩) hS.2.2 d_md_nextChoice_46
  ·
    obtain ⟨m1, hm1, hx9⟩ : ∃ m1, mz = m1 + 1 ∧ x = nI m1 := by
      cases mz with
      | zero => exact absurd (by rw [hx1]; decide) g1
      | succ m1 => exact ⟨m1, rfl, by rw [hx1, nI_pred]⟩
    rw [hx9] at hl
    have hl : lv_has ls 3 [(2, .int (nI m1)), (0, .ref na), (1, .int (nI S))] := hl
    have hc9 := (hch m1 (by omega)).2
    have hR9 := mc_R5 (who := S) hN (hq m1 (by omega)).2
    refine lv_aload_n hx hb d_md_nextChoice_11 rfl (lv_at hl 1 rfl) ?_
    refine gf_md_61 hx hb hg hown hK hP 0 rfl rfl d_md_nextChoice_12 ?_
    refine lv_iload_n hx hb d_md_nextChoice_15 rfl (lv_at hl 0 rfl) ?_
    refine va_iald hx hb hK hP 1 1 rfl rfl (vp_in_nI (show m1 < 6 by omega) (by decide)) d_md_nextChoice_16 ?_
    refine lv_topi (fun y3 ey3 => ?_)
    have ey3 : y3 = nI (ch m1) := ey3.trans (by rw [nI_clamp (show m1 < 2 ^ 31 by omega)]; exact (hlo m1 (by omega)))
    subst ey3
    refine lv_iconst (v := 1) hx hb d_md_nextChoice_17 (by decide) ?_
    refine lv_iadd hx hb d_md_nextChoice_18 ?_
    refine lv_topi (fun y4 ey4 => ?_)
    have ey4 : y4 = nI (ch m1 + 1) := ey4.trans (nI_1 _)
    subst ey4
    refine lv_aload_n hx hb d_md_nextChoice_19 rfl (lv_at hl 1 rfl) ?_
    refine lv_iload_n hx hb d_md_nextChoice_20 rfl (lv_at hl 2 rfl) ?_
    refine lv_iload_n hx hb d_md_nextChoice_21 rfl (lv_at hl 0 rfl) ?_
    have hPc := hP.sub (ws' := [(na, .inr (7, [.int (nI W0), .int (nI H0), .ref nwalls, .int (nI n), .ref nstarts, .ref ngoals, .ref nlaid, .ref nisTold, .int vfree, .ref ncells, .ref nindex, .ref nnear, .ref nnearCount, .ref npay, .ref ndone, .ref npile, .int vtop, .ref nnow, .ref nthen, .ref nchoice, .int vfound, .int vlength, .ref nplan, .ref ncosts, .ref npaid, .ref nafter, .ref nfar, .ref nmany, .ref nnext, .int vsort, .int vwhen, .int vone, .int vtwo])), (nnearCount, .inl (cI, 25, .inl kf)), (nnow, .inl (cI, 6, .inl qf))]) [0, 2, 3] rfl
    have hDc := hD.sub (ws' := [(na, .inr (7, [.int (nI W0), .int (nI H0), .ref nwalls, .int (nI n), .ref nstarts, .ref ngoals, .ref nlaid, .ref nisTold, .int vfree, .ref ncells, .ref nindex, .ref nnear, .ref nnearCount, .ref npay, .ref ndone, .ref npile, .int vtop, .ref nnow, .ref nthen, .ref nchoice, .int vfound, .int vlength, .ref nplan, .ref ncosts, .ref npaid, .ref nafter, .ref nfar, .ref nmany, .ref nnext, .int vsort, .int vwhen, .int vone, .int vtwo])), (nnearCount, .inl (cI, 25, .inl kf)), (nnow, .inl (cI, 6, .inl qf))]) [0, 2, 3] (by decide) rfl
    refine vp_callSi (W.runV (As := [.int (nI S), .int (nI m1)]) (rest := [.int (nI (ch m1 + 1))]) ⟨hx, hb, hml, hown, hg⟩ (c_md_choices l D cZ cI cJ cII na nwalls nstarts ngoals nlaid nisTold ncells nindex nnear nnearCount npay ndone npile nnow nthen nchoice nplan ncosts npaid nafter nfar nmany nnext vfree vtop vfound vlength vsort vwhen vone vtwo _ _ _ nf kf qf F0 S p0 m1 H.size hn hF hN hq hS32 (by omega)) (cwV 2 hg gv_md_126 rfl rfl rfl (by decide +kernel) ⟨Nat.le_of_ble_eq_true rfl, Nat.le_of_ble_eq_true rfl⟩) ⟨mt_bl, va_recv (q0 := 0) (ci := 7) hK hP rfl rfl, mt_pr hX hPc hK hDc⟩ rfl rfl hl.1 rfl (lv_room (Nat.le_of_ble_eq_true rfl)) d_md_nextChoice_22 ⟨Nat.le_of_ble_eq_true rfl, Nat.le_of_ble_eq_true rfl⟩) (fun r5 hr5 => ?_)
    have hr5 : r5 = nI (mc_R kf p0 S m1) := hr5
    have hr5 : r5 = nI (mc_R kf p0 S m1) := hr5
    subst hr5
    refine lv_icmp_ne hx hb d_md_nextChoice_25 rfl (fun gx => ?_) (fun gx => ?_)
    ·
      have gn9 : ¬ ch m1 + 1 = mc_R kf p0 S m1 := fun h => gx (by rw [h])
      have hA9 : ∀ i, i < n → upd g m1 (nI (ch m1 + 1)) i = nI (if i < m1 then ch i else if i = m1 then ch m1 + 1 else 0) ∧ (if i < m1 then ch i else if i = m1 then ch m1 + 1 else 0) < mc_R kf p0 S i := by
        intro i hi
        by_cases e1 : i < m1
        · rw [if_pos e1, pk_un (by omega)]; exact ⟨hlo i (by omega), (hch i hi).2⟩
        · by_cases e2 : i = m1
          · rw [if_neg e1, if_pos e2, e2, pk_us]; exact ⟨rfl, by omega⟩
          · rw [if_neg e1, if_neg e2, pk_un e2]; exact ⟨(hhi i (by omega) hi).2, (mc_R5 hN (hq i hi).2).1⟩
      have hB9 : dj_vr (mc_R kf p0 S) (fun i => if i < m1 then ch i else if i = m1 then ch m1 + 1 else 0) n = dj_vr (mc_R kf p0 S) ch n + 1 := by
        have h9 := dj_vr_next (R := mc_R kf p0 S) (d := ch) (e := fun i => if i < m1 then ch i else if i = m1 then ch m1 + 1 else 0) (m := m1) (fun i hi => if_pos hi) (by show (if m1 < m1 then ch m1 else if m1 = m1 then ch m1 + 1 else 0) = _; rw [if_neg (by omega), if_pos rfl]) (n - (m1 + 1)) (fun i h1 h2 => ⟨(hhi i (by omega) (by omega)).1, by show (if i < m1 then ch i else if i = m1 then ch m1 + 1 else 0) = 0; rw [if_neg (by omega), if_neg (by omega)]⟩)
        rw [show m1 + 1 + (n - (m1 + 1)) = n by omega] at h9
        exact h9
      refine lv_iload_n hx hb d_md_nextChoice_41 rfl (lv_at hl 0 rfl) ?_
      refine lv_if_ge hx hb d_md_nextChoice_42 rfl (fun _ => ?_) (fun h => absurd (nI_pos' (by omega)) h)
      refine lv_aload_n hx hb d_md_nextChoice_47 rfl (lv_at hl 1 rfl) ?_
      refine gf_md_61 hx hb hg hown hK hP 0 rfl rfl d_md_nextChoice_48 ?_
      refine lv_iload_n hx hb d_md_nextChoice_51 rfl (lv_at hl 0 rfl) ?_
      refine lv_dup2_11 hx hb d_md_nextChoice_52 rfl rfl ?_
      refine va_iald hx hb hK hP 1 1 rfl rfl (vp_in_nI (show m1 < 6 by omega) (by decide)) d_md_nextChoice_53 ?_
      refine lv_topi (fun y6 ey6 => ?_)
      have ey6 : y6 = nI (ch m1) := ey6.trans (by rw [nI_clamp (show m1 < 2 ^ 31 by omega)]; exact (hlo m1 (by omega)))
      subst ey6
      refine lv_iconst (v := 1) hx hb d_md_nextChoice_54 (by decide) ?_
      refine lv_iadd hx hb d_md_nextChoice_55 ?_
      refine lv_topi (fun y7 ey7 => ?_)
      have ey7 : y7 = nI (ch m1 + 1) := ey7.trans (nI_1 _)
      subst ey7
      refine va_iast hx hb hK hP hD hS 1 1 rfl rfl (vp_in_nI (show m1 < 6 by omega) (by decide)) d_md_nextChoice_56 (fun H locs hP hD hS => ?_)
      rw [nI_clamp (show m1 < 2 ^ 31 by omega)] at hP hD
      have hP : va_P D kls [(na, .inr (7, [.int (nI W0), .int (nI H0), .ref nwalls, .int (nI n), .ref nstarts, .ref ngoals, .ref nlaid, .ref nisTold, .int vfree, .ref ncells, .ref nindex, .ref nnear, .ref nnearCount, .ref npay, .ref ndone, .ref npile, .int vtop, .ref nnow, .ref nthen, .ref nchoice, .int vfound, .int vlength, .ref nplan, .ref ncosts, .ref npaid, .ref nafter, .ref nfar, .ref nmany, .ref nnext, .int vsort, .int vwhen, .int vone, .int vtwo])), (nchoice, .inl (cI, 6, .inl (upd g m1 (nI (ch m1 + 1))))), (nnearCount, .inl (cI, 25, .inl kf)), (nnow, .inl (cI, 6, .inl qf))] H := hP
      have hD : va_D A [(na, .inr (7, [.int (nI W0), .int (nI H0), .ref nwalls, .int (nI n), .ref nstarts, .ref ngoals, .ref nlaid, .ref nisTold, .int vfree, .ref ncells, .ref nindex, .ref nnear, .ref nnearCount, .ref npay, .ref ndone, .ref npile, .int vtop, .ref nnow, .ref nthen, .ref nchoice, .int vfound, .int vlength, .ref nplan, .ref ncosts, .ref npaid, .ref nafter, .ref nfar, .ref nmany, .ref nnext, .int vsort, .int vwhen, .int vone, .int vtwo])), (nchoice, .inl (cI, 6, .inl (upd g m1 (nI (ch m1 + 1))))), (nnearCount, .inl (cI, 25, .inl kf)), (nnow, .inl (cI, 6, .inl qf))] := hD
      refine lv_iconst (v := 1) hx hb d_md_nextChoice_57 (by decide) ?_
      have hP9 := hP
      have hD9 := hD
      exact W.zret hx hb hr rfl (fun t ht hW => ⟨⟨1, (upd g m1 (nI (ch m1 + 1))), rfl, ⟨Or.inl ⟨rfl, fun i => if i < m1 then ch i else if i = m1 then ch m1 + 1 else 0, hA9, hB9⟩, trivial⟩, by rw [ht]; exact hP9, hD9⟩, hS.F ht⟩) hS.2.2 d_md_nextChoice_58
    ·
      have ge9 : ch m1 + 1 = mc_R kf p0 S m1 := (nI_eq (by omega) (by omega)).mp gx
      have hhi9 : ∀ i, m1 ≤ i → i < n → ch i + 1 = mc_R kf p0 S i ∧ upd g m1 0 i = nI 0 := fun i h1 h2 => by by_cases e9 : i = m1; rw [e9, pk_us]; exact ⟨ge9, nI_0.symm⟩; rw [pk_un e9]; exact hhi i (by omega) h2
      refine lv_aload_n hx hb d_md_nextChoice_28 rfl (lv_at hl 1 rfl) ?_
      refine gf_md_61 hx hb hg hown hK hP 0 rfl rfl d_md_nextChoice_29 ?_
      refine lv_iload_n hx hb d_md_nextChoice_32 rfl (lv_at hl 0 rfl) ?_
      refine lv_iconst (v := 0) hx hb d_md_nextChoice_33 (by decide) ?_
      refine va_iast hx hb hK hP hD hS 1 1 rfl rfl (vp_in_nI (show m1 < 6 by omega) (by decide)) d_md_nextChoice_34 (fun H locs hP hD hS => ?_)
      rw [nI_clamp (show m1 < 2 ^ 31 by omega)] at hP hD
      have hP : va_P D kls [(na, .inr (7, [.int (nI W0), .int (nI H0), .ref nwalls, .int (nI n), .ref nstarts, .ref ngoals, .ref nlaid, .ref nisTold, .int vfree, .ref ncells, .ref nindex, .ref nnear, .ref nnearCount, .ref npay, .ref ndone, .ref npile, .int vtop, .ref nnow, .ref nthen, .ref nchoice, .int vfound, .int vlength, .ref nplan, .ref ncosts, .ref npaid, .ref nafter, .ref nfar, .ref nmany, .ref nnext, .int vsort, .int vwhen, .int vone, .int vtwo])), (nchoice, .inl (cI, 6, .inl (upd g m1 0))), (nnearCount, .inl (cI, 25, .inl kf)), (nnow, .inl (cI, 6, .inl qf))] H := hP
      have hD : va_D A [(na, .inr (7, [.int (nI W0), .int (nI H0), .ref nwalls, .int (nI n), .ref nstarts, .ref ngoals, .ref nlaid, .ref nisTold, .int vfree, .ref ncells, .ref nindex, .ref nnear, .ref nnearCount, .ref npay, .ref ndone, .ref npile, .int vtop, .ref nnow, .ref nthen, .ref nchoice, .int vfound, .int vlength, .ref nplan, .ref ncosts, .ref npaid, .ref nafter, .ref nfar, .ref nmany, .ref nnext, .int vsort, .int vwhen, .int vone, .int vtwo])), (nchoice, .inl (cI, 6, .inl (upd g m1 0))), (nnearCount, .inl (cI, 25, .inl kf)), (nnow, .inl (cI, 6, .inl qf))] := hD
      refine lv_iinc (k := 0) (v := nI m1 + (-1)) hx hb d_md_nextChoice_35 hl rfl rfl (by decide) rfl (fun ls hl => ?_)
      have hl : lv_has ls 3 [(2, .int (nI m1 + (-1))), (0, .ref na), (1, .int (nI S))] := hl
      refine lv_goto hx hb d_md_nextChoice_38 rfl ?_
      have hl := lv_sub hl [0, 1, 2] (l' := [(2, .int (nI m1 + (-1))), (0, .ref na), (1, .int (nI S))]) rfl
      exact ih_a (nI m1 + (-1), m1, upd g m1 0) ls H _ (by show m1 < mz; omega) ⟨Int32.add_neg_eq_sub, by show m1 ≤ n; omega, fun i hi => (pk_un (by have : i < m1 := hi; omega)).trans (hlo i (by have : i < m1 := hi; omega)), hhi9, hl, hP, hD, hS⟩

set_option maxHeartbeats 4000000 in
set_option maxRecDepth 100000 in
theorem c_md_meet (l : Launch) (D : va_G) (cZ cI cJ cII : ClassId) (na : Nat) (nwalls : Nat) (nstarts : Nat) (ngoals : Nat) (nlaid : Nat) (nisTold : Nat) (ncells : Nat) (nindex : Nat) (nnear : Nat) (nnearCount : Nat) (npay : Nat) (ndone : Nat) (npile : Nat) (nnow : Nat) (nthen : Nat) (nchoice : Nat) (nplan : Nat) (ncosts : Nat) (npaid : Nat) (nafter : Nat) (nfar : Nat) (nmany : Nat) (nnext : Nat) (vfree : Int32) (vtop : Int32) (vfound : Int32) (vlength : Int32) (vsort : Int32) (vwhen : Int32) (vone : Int32) (vtwo : Int32) (W0 : Nat) (H0 : Nat) (n : Nat) (qf : Nat → Int32) (tf : Nat → Int32) (p0 : Nat → Nat) (q0 : Nat → Nat) (sz : Nat) (hn : n ≤ 5) (hq : ∀ i, i < n → qf i = nI (p0 i) ∧ p0 i < 25) (ht1 : ∀ i, i < n → tf i = nI (q0 i) ∧ q0 i < 25) : Met l y_md_meet w_md_meet ({ frames := 0, cells := 0, slots := 0, locals := 0 }) (va_Pc [.ref na] (mt_B D [(cZ, .boolean), (cI, .int), (cJ, .long), (cII, .array .int)] [(na, .inr (7, [.int (nI W0), .int (nI H0), .ref nwalls, .int (nI n), .ref nstarts, .ref ngoals, .ref nlaid, .ref nisTold, .int vfree, .ref ncells, .ref nindex, .ref nnear, .ref nnearCount, .ref npay, .ref ndone, .ref npile, .int vtop, .ref nnow, .ref nthen, .ref nchoice, .int vfound, .int vlength, .ref nplan, .ref ncosts, .ref npaid, .ref nafter, .ref nfar, .ref nmany, .ref nnext, .int vsort, .int vwhen, .int vone, .int vtwo])), (nnow, .inl (cI, 6, .inl qf)), (nthen, .inl (cI, 6, .inl tf))] sz)) (vp_Si (fun r : Int32 => (r = 1 ∧ ¬ (dj_dis n q0 ∧ ∀ i k, i < n → k < i → ¬ (q0 i = p0 k ∧ q0 k = p0 i))) ∨ (r = 0 ∧ dj_dis n q0 ∧ ∀ i k, i < n → k < i → ¬ (q0 i = p0 k ∧ q0 k = p0 i)))) 0 0 (fun _ => False) := by
  refine mt_ofR (by decide) (Nat.le_of_ble_eq_true rfl) ?_
  intro p e s m below meth c ls hx hb hr hlk hml hown hg hl hX hP hK hD
  have hown : s.vm.findClass R_md = some m.cls := hown
  obtain ⟨H, hH⟩ : ∃ H : Heap, H = s.heap := ⟨_, rfl⟩
  rw [← hH] at hP ⊢
  have hl : lv_has ls 4 [(0, .ref na)] := hl
  refine lv_iconst (v := 0) hx hb d_md_meet_0 (by decide) ?_
  refine lv_istore_n hx hb d_md_meet_1 rfl hl (by decide) rfl (fun ls hl => ?_)
  have hl : lv_has ls 4 [(1, .int 0), (0, .ref na)] := hl
  refine lv_iconst (v := 0) hx hb d_md_meet_2 (by decide) ?_
  refine lv_istore_n hx hb d_md_meet_3 rfl hl (by decide) rfl (fun ls hl => ?_)
  have hl : lv_has ls 4 [(2, .int 0), (1, .int 0), (0, .ref na)] := hl
  have hl := lv_sub hl [0, 1, 2] (l' := [(2, .int (nI 0)), (1, .int 0), (0, .ref na)]) rfl
  refine mt_loop (ι := Nat × Int32) (I := fun ix ls H locs => ((ix.1) ≤ n) ∧ (((ix.2) = 1 ∧ ¬ (dj_dis n q0 ∧ ∀ i k, i < n → k < i → ¬ (q0 i = p0 k ∧ q0 k = p0 i))) ∨ ((ix.2) = 0 ∧ (∀ i k, i < (ix.1) → k < i → q0 i ≠ q0 k ∧ ¬ (q0 i = p0 k ∧ q0 k = p0 i)))) ∧ lv_has ls 4 [(2, .int (nI (ix.1))), (1, .int (ix.2)), (0, .ref na)] ∧ va_P D kls [(na, .inr (7, [.int (nI W0), .int (nI H0), .ref nwalls, .int (nI n), .ref nstarts, .ref ngoals, .ref nlaid, .ref nisTold, .int vfree, .ref ncells, .ref nindex, .ref nnear, .ref nnearCount, .ref npay, .ref ndone, .ref npile, .int vtop, .ref nnow, .ref nthen, .ref nchoice, .int vfound, .int vlength, .ref nplan, .ref ncosts, .ref npaid, .ref nafter, .ref nfar, .ref nmany, .ref nnext, .int vsort, .int vwhen, .int vone, .int vtwo])), (nnow, .inl (cI, 6, .inl qf)), (nthen, .inl (cI, 6, .inl tf))] H ∧ H = s.heap ∧ locs = []) (μ := fun ix => n - (ix.1)) ?_ (0, 0) ls H _ ⟨Nat.zero_le _, Or.inr ⟨rfl, fun i k h => absurd h (Nat.not_lt_zero _)⟩, hl, hP, hH, rfl⟩
  clear hl hP
  intro i_a ls H locs ⟨hmm, hv, hl, hP, hH, hlc⟩ ih_a
  obtain ⟨mm, v⟩ := i_a
  subst hlc
  have hmm : mm ≤ n := hmm
  have hv : (v = 1 ∧ ¬ (dj_dis n q0 ∧ ∀ i k, i < n → k < i → ¬ (q0 i = p0 k ∧ q0 k = p0 i))) ∨ (v = 0 ∧ (∀ i k, i < mm → k < i → q0 i ≠ q0 k ∧ ¬ (q0 i = p0 k ∧ q0 k = p0 i))) := hv
  have hl : lv_has ls 4 [(2, .int (nI mm)), (1, .int v), (0, .ref na)] := hl
  have hP : va_P D kls [(na, .inr (7, [.int (nI W0), .int (nI H0), .ref nwalls, .int (nI n), .ref nstarts, .ref ngoals, .ref nlaid, .ref nisTold, .int vfree, .ref ncells, .ref nindex, .ref nnear, .ref nnearCount, .ref npay, .ref ndone, .ref npile, .int vtop, .ref nnow, .ref nthen, .ref nchoice, .int vfound, .int vlength, .ref nplan, .ref ncosts, .ref npaid, .ref nafter, .ref nfar, .ref nmany, .ref nnext, .int vsort, .int vwhen, .int vone, .int vtwo])), (nnow, .inl (cI, 6, .inl qf)), (nthen, .inl (cI, 6, .inl tf))] H := hP
  refine lv_iload_n hx hb d_md_meet_4 rfl (lv_at hl 0 rfl) ?_
  refine lv_aload_n hx hb d_md_meet_5 rfl (lv_at hl 2 rfl) ?_
  refine gf_md_86 hx hb hg hown hK hP 0 rfl rfl d_md_meet_6 ?_
  refine lv_icmp_ge hx hb d_md_meet_9 rfl (fun g1 => ?_) (fun g1 => ?_)
  ·
    have g2 : n ≤ mm := by rcases Nat.lt_or_ge mm n with h | h; exact absurd g1 (nI_ge (b := n) h (by omega)); exact h
    have g2e : mm = n := by omega
    refine lv_iload_n hx hb d_md_meet_86 rfl (lv_at hl 1 rfl) ?_
    rcases hv with ⟨e7, hz7⟩ | ⟨e7, hz7⟩
    ·
      subst e7
      exact W.zret hx hb hr rfl (fun t ht _ => ⟨1, rfl, Or.inl ⟨rfl, hz7⟩, ht.trans hH⟩) (fun _ h => absurd h List.not_mem_nil) d_md_meet_87
    ·
      subst e7
      exact W.zret hx hb hr rfl (fun t ht _ => ⟨0, rfl, Or.inr ⟨rfl, fun i k hi hk => (hz7 i k (by omega) hk).1, fun i k hi hk => (hz7 i k (by omega) hk).2⟩, ht.trans hH⟩) (fun _ h => absurd h List.not_mem_nil) d_md_meet_87
  ·
    have g2 : mm < n := by rcases Nat.lt_or_ge mm n with h | h; exact h; exact absurd (nI_le (a := n) h (by omega)) g1
    have b1 := ht1 mm g2
    have b2 := hq mm g2
    refine lv_iconst (v := 0) hx hb d_md_meet_12 (by decide) ?_
    refine lv_istore_n hx hb d_md_meet_13 rfl hl (by decide) rfl (fun ls hl => ?_)
    have hl : lv_has ls 4 [(3, .int 0), (2, .int (nI mm)), (1, .int v), (0, .ref na)] := hl
    have hl := lv_sub hl [0, 1, 2, 3] (l' := [(3, .int (nI 0)), (2, .int (nI mm)), (1, .int v), (0, .ref na)]) rfl
    refine mt_loop (ι := Nat × Int32) (I := fun ix ls H locs => ((ix.1) ≤ mm) ∧ (((ix.2) = 1 ∧ ¬ (dj_dis n q0 ∧ ∀ i k, i < n → k < i → ¬ (q0 i = p0 k ∧ q0 k = p0 i))) ∨ ((ix.2) = 0 ∧ (∀ i k, i < mm → k < i → q0 i ≠ q0 k ∧ ¬ (q0 i = p0 k ∧ q0 k = p0 i)) ∧ ∀ k, k < (ix.1) → q0 mm ≠ q0 k ∧ ¬ (q0 mm = p0 k ∧ q0 k = p0 mm))) ∧ lv_has ls 4 [(3, .int (nI (ix.1))), (2, .int (nI mm)), (1, .int (ix.2)), (0, .ref na)] ∧ va_P D kls [(na, .inr (7, [.int (nI W0), .int (nI H0), .ref nwalls, .int (nI n), .ref nstarts, .ref ngoals, .ref nlaid, .ref nisTold, .int vfree, .ref ncells, .ref nindex, .ref nnear, .ref nnearCount, .ref npay, .ref ndone, .ref npile, .int vtop, .ref nnow, .ref nthen, .ref nchoice, .int vfound, .int vlength, .ref nplan, .ref ncosts, .ref npaid, .ref nafter, .ref nfar, .ref nmany, .ref nnext, .int vsort, .int vwhen, .int vone, .int vtwo])), (nnow, .inl (cI, 6, .inl qf)), (nthen, .inl (cI, 6, .inl tf))] H ∧ H = s.heap ∧ locs = []) (μ := fun ix => mm - (ix.1)) ?_ (0, v) ls H _ ⟨Nat.zero_le _, hv.elim Or.inl (fun q => Or.inr ⟨q.1, q.2, fun k h => absurd h (Nat.not_lt_zero _)⟩), hl, hP, hH, rfl⟩
    clear hl hP
    intro i_b ls H locs ⟨hkk, hu, hl, hP, hH, hlc⟩ ih_b
    obtain ⟨kk, u⟩ := i_b
    subst hlc
    have hkk : kk ≤ mm := hkk
    have hu : (u = 1 ∧ ¬ (dj_dis n q0 ∧ ∀ i k, i < n → k < i → ¬ (q0 i = p0 k ∧ q0 k = p0 i))) ∨ (u = 0 ∧ (∀ i k, i < mm → k < i → q0 i ≠ q0 k ∧ ¬ (q0 i = p0 k ∧ q0 k = p0 i)) ∧ ∀ k, k < kk → q0 mm ≠ q0 k ∧ ¬ (q0 mm = p0 k ∧ q0 k = p0 mm)) := hu
    have hl : lv_has ls 4 [(3, .int (nI kk)), (2, .int (nI mm)), (1, .int u), (0, .ref na)] := hl
    have hP : va_P D kls [(na, .inr (7, [.int (nI W0), .int (nI H0), .ref nwalls, .int (nI n), .ref nstarts, .ref ngoals, .ref nlaid, .ref nisTold, .int vfree, .ref ncells, .ref nindex, .ref nnear, .ref nnearCount, .ref npay, .ref ndone, .ref npile, .int vtop, .ref nnow, .ref nthen, .ref nchoice, .int vfound, .int vlength, .ref nplan, .ref ncosts, .ref npaid, .ref nafter, .ref nfar, .ref nmany, .ref nnext, .int vsort, .int vwhen, .int vone, .int vtwo])), (nnow, .inl (cI, 6, .inl qf)), (nthen, .inl (cI, 6, .inl tf))] H := hP
    refine lv_iload_n hx hb d_md_meet_14 rfl (lv_at hl 0 rfl) ?_
    refine lv_iload_n hx hb d_md_meet_15 rfl (lv_at hl 1 rfl) ?_
    refine lv_icmp_ge hx hb d_md_meet_16 rfl (fun g3 => ?_) (fun g3 => ?_)
    ·
      have g4 : mm ≤ kk := by rcases Nat.lt_or_ge kk mm with h | h; exact absurd g3 (nI_ge (b := mm) h (by omega)); exact h
      have hu : (u = 1 ∧ ¬ (dj_dis n q0 ∧ ∀ i k, i < n → k < i → ¬ (q0 i = p0 k ∧ q0 k = p0 i))) ∨ (u = 0 ∧ (∀ i k, i < mm → k < i → q0 i ≠ q0 k ∧ ¬ (q0 i = p0 k ∧ q0 k = p0 i)) ∧ ∀ k, k < mm → q0 mm ≠ q0 k ∧ ¬ (q0 mm = p0 k ∧ q0 k = p0 mm)) := hu.elim Or.inl (fun q => Or.inr ⟨q.1, q.2.1, fun k hk => q.2.2 k (by omega)⟩)
      refine lv_iinc (k := 1) (v := nI (mm + 1)) hx hb d_md_meet_80 hl rfl ((nI_succ mm).symm) (by decide) rfl (fun ls hl => ?_)
      have hl : lv_has ls 4 [(2, .int (nI (mm + 1))), (3, .int (nI kk)), (1, .int u), (0, .ref na)] := hl
      refine lv_goto hx hb d_md_meet_83 rfl ?_
      have hl := lv_sub hl [0, 2, 3] (l' := [(2, .int (nI (mm + 1))), (1, .int u), (0, .ref na)]) rfl
      exact ih_a (mm + 1, u) ls H _ (by show n - (mm + 1) < n - mm; omega) ⟨by show mm + 1 ≤ n; omega, hu.elim Or.inl (fun q => Or.inr ⟨q.1, fun i k h1 h2 => (Nat.lt_or_ge i mm).elim (fun h3 => q.2.1 i k h3 h2) (fun h3 => by rw [show i = mm from Nat.le_antisymm (Nat.le_of_lt_succ h1) h3]; exact q.2.2 k (by have : i < mm + 1 := h1; omega))⟩), hl, hP, hH, rfl⟩
    ·
      have g4 : kk < mm := by rcases Nat.lt_or_ge kk mm with h | h; exact h; exact absurd (nI_le (a := mm) h (by omega)) g3
      have b3 := ht1 kk (by omega)
      have b4 := hq kk (by omega)
      refine lv_iload_n hx hb d_md_meet_19 rfl (lv_at hl 2 rfl) ?_
      refine lv_if_ne hx hb d_md_meet_20 rfl (fun g5 => ?_) (fun g5 => ?_)
      ·
        have hbad := hu.elim (fun q => q.2) (fun q => absurd q.1 g5)
        refine lv_iconst (v := 1) hx hb d_md_meet_68 (by decide) ?_
        refine lv_goto hx hb d_md_meet_69 rfl ?_
        refine lv_istore_n hx hb d_md_meet_73 rfl hl (by decide) rfl (fun ls hl => ?_)
        have hl : lv_has ls 4 [(1, .int 1), (3, .int (nI kk)), (2, .int (nI mm)), (0, .ref na)] := hl
        refine lv_iinc (k := 1) (v := nI (kk + 1)) hx hb d_md_meet_74 hl rfl ((nI_succ kk).symm) (by decide) rfl (fun ls hl => ?_)
        have hl : lv_has ls 4 [(3, .int (nI (kk + 1))), (1, .int 1), (2, .int (nI mm)), (0, .ref na)] := hl
        refine lv_goto hx hb d_md_meet_77 rfl ?_
        have hl := lv_sub hl [0, 2, 1, 3] (l' := [(3, .int (nI (kk + 1))), (2, .int (nI mm)), (1, .int 1), (0, .ref na)]) rfl
        exact ih_b (kk + 1, 1) ls H _ (by show mm - (kk + 1) < mm - kk; omega) ⟨by show kk + 1 ≤ mm; omega, Or.inl ⟨rfl, hbad⟩, hl, hP, hH, rfl⟩
      ·
        have hu0 := hu.elim (fun q => absurd (q.1.symm.trans g5) (by decide)) (fun q => q.2)
        refine lv_aload_n hx hb d_md_meet_23 rfl (lv_at hl 3 rfl) ?_
        refine gf_md_58 hx hb hg hown hK hP 0 rfl rfl d_md_meet_24 ?_
        refine lv_iload_n hx hb d_md_meet_27 rfl (lv_at hl 1 rfl) ?_
        refine va_iald hx hb hK hP 2 1 rfl rfl (vp_in_nI (show mm < 6 by omega) (by decide)) d_md_meet_28 ?_
        refine lv_topi (fun y1 ey1 => ?_)
        have ey1 : y1 = nI (q0 mm) := ey1.trans (by rw [nI_clamp (show mm < 2 ^ 31 by omega)]; exact (ht1 mm (by omega)).1)
        subst ey1
        refine lv_aload_n hx hb d_md_meet_29 rfl (lv_at hl 3 rfl) ?_
        refine gf_md_58 hx hb hg hown hK hP 0 rfl rfl d_md_meet_30 ?_
        refine lv_iload_n hx hb d_md_meet_33 rfl (lv_at hl 0 rfl) ?_
        refine va_iald hx hb hK hP 2 1 rfl rfl (vp_in_nI (show kk < 6 by omega) (by decide)) d_md_meet_34 ?_
        refine lv_topi (fun y2 ey2 => ?_)
        have ey2 : y2 = nI (q0 kk) := ey2.trans (by rw [nI_clamp (show kk < 2 ^ 31 by omega)]; exact (ht1 kk (by omega)).1)
        subst ey2
        refine lv_icmp_eq hx hb d_md_meet_35 rfl (fun g6 => ?_) (fun g6 => ?_)
        ·
          have f6 : q0 mm = q0 kk := (nI_eq (by omega) (by omega)).mp g6
          have hbad : ¬ (dj_dis n q0 ∧ ∀ i k, i < n → k < i → ¬ (q0 i = p0 k ∧ q0 k = p0 i)) := fun h => h.1 mm kk g2 g4 f6
          refine lv_iconst (v := 1) hx hb d_md_meet_68 (by decide) ?_
          refine lv_goto hx hb d_md_meet_69 rfl ?_
          refine lv_istore_n hx hb d_md_meet_73 rfl hl (by decide) rfl (fun ls hl => ?_)
          have hl : lv_has ls 4 [(1, .int 1), (3, .int (nI kk)), (2, .int (nI mm)), (0, .ref na)] := hl
          refine lv_iinc (k := 1) (v := nI (kk + 1)) hx hb d_md_meet_74 hl rfl ((nI_succ kk).symm) (by decide) rfl (fun ls hl => ?_)
          have hl : lv_has ls 4 [(3, .int (nI (kk + 1))), (1, .int 1), (2, .int (nI mm)), (0, .ref na)] := hl
          refine lv_goto hx hb d_md_meet_77 rfl ?_
          have hl := lv_sub hl [0, 2, 1, 3] (l' := [(3, .int (nI (kk + 1))), (2, .int (nI mm)), (1, .int 1), (0, .ref na)]) rfl
          exact ih_b (kk + 1, 1) ls H _ (by show mm - (kk + 1) < mm - kk; omega) ⟨by show kk + 1 ≤ mm; omega, Or.inl ⟨rfl, hbad⟩, hl, hP, hH, rfl⟩
        ·
          have f6 : ¬ q0 mm = q0 kk := fun h => g6 (by rw [h])
          refine lv_aload_n hx hb d_md_meet_38 rfl (lv_at hl 3 rfl) ?_
          refine gf_md_58 hx hb hg hown hK hP 0 rfl rfl d_md_meet_39 ?_
          refine lv_iload_n hx hb d_md_meet_42 rfl (lv_at hl 1 rfl) ?_
          refine va_iald hx hb hK hP 2 1 rfl rfl (vp_in_nI (show mm < 6 by omega) (by decide)) d_md_meet_43 ?_
          refine lv_topi (fun y3 ey3 => ?_)
          have ey3 : y3 = nI (q0 mm) := ey3.trans (by rw [nI_clamp (show mm < 2 ^ 31 by omega)]; exact (ht1 mm (by omega)).1)
          subst ey3
          refine lv_aload_n hx hb d_md_meet_44 rfl (lv_at hl 3 rfl) ?_
          refine gf_md_55 hx hb hg hown hK hP 0 rfl rfl d_md_meet_45 ?_
          refine lv_iload_n hx hb d_md_meet_48 rfl (lv_at hl 0 rfl) ?_
          refine va_iald hx hb hK hP 1 1 rfl rfl (vp_in_nI (show kk < 6 by omega) (by decide)) d_md_meet_49 ?_
          refine lv_topi (fun y4 ey4 => ?_)
          have ey4 : y4 = nI (p0 kk) := ey4.trans (by rw [nI_clamp (show kk < 2 ^ 31 by omega)]; exact (hq kk (by omega)).1)
          subst ey4
          refine lv_icmp_ne hx hb d_md_meet_50 rfl (fun g7 => ?_) (fun g7 => ?_)
          ·
            have f7 : ¬ q0 mm = p0 kk := fun h => g7 (by rw [h])
            have hok : q0 mm ≠ q0 kk ∧ ¬ (q0 mm = p0 kk ∧ q0 kk = p0 mm) := ⟨f6, fun h => f7 h.1⟩
            refine lv_iconst (v := 0) hx hb d_md_meet_72 (by decide) ?_
            refine lv_istore_n hx hb d_md_meet_73 rfl hl (by decide) rfl (fun ls hl => ?_)
            have hl : lv_has ls 4 [(1, .int 0), (3, .int (nI kk)), (2, .int (nI mm)), (0, .ref na)] := hl
            refine lv_iinc (k := 1) (v := nI (kk + 1)) hx hb d_md_meet_74 hl rfl ((nI_succ kk).symm) (by decide) rfl (fun ls hl => ?_)
            have hl : lv_has ls 4 [(3, .int (nI (kk + 1))), (1, .int 0), (2, .int (nI mm)), (0, .ref na)] := hl
            refine lv_goto hx hb d_md_meet_77 rfl ?_
            have hl := lv_sub hl [0, 2, 1, 3] (l' := [(3, .int (nI (kk + 1))), (2, .int (nI mm)), (1, .int 0), (0, .ref na)]) rfl
            exact ih_b (kk + 1, 0) ls H _ (by show mm - (kk + 1) < mm - kk; omega) ⟨by show kk + 1 ≤ mm; omega, Or.inr ⟨rfl, hu0.1, fun k hk => (Nat.lt_or_ge k kk).elim (fun h3 => hu0.2 k h3) (fun h3 => by rw [show k = kk from Nat.le_antisymm (Nat.le_of_lt_succ hk) h3]; exact hok)⟩, hl, hP, hH, rfl⟩
          ·
            have f7 : q0 mm = p0 kk := (nI_eq (by omega) (by omega)).mp g7
            refine lv_aload_n hx hb d_md_meet_53 rfl (lv_at hl 3 rfl) ?_
            refine gf_md_58 hx hb hg hown hK hP 0 rfl rfl d_md_meet_54 ?_
            refine lv_iload_n hx hb d_md_meet_57 rfl (lv_at hl 0 rfl) ?_
            refine va_iald hx hb hK hP 2 1 rfl rfl (vp_in_nI (show kk < 6 by omega) (by decide)) d_md_meet_58 ?_
            refine lv_topi (fun y5 ey5 => ?_)
            have ey5 : y5 = nI (q0 kk) := ey5.trans (by rw [nI_clamp (show kk < 2 ^ 31 by omega)]; exact (ht1 kk (by omega)).1)
            subst ey5
            refine lv_aload_n hx hb d_md_meet_59 rfl (lv_at hl 3 rfl) ?_
            refine gf_md_55 hx hb hg hown hK hP 0 rfl rfl d_md_meet_60 ?_
            refine lv_iload_n hx hb d_md_meet_63 rfl (lv_at hl 1 rfl) ?_
            refine va_iald hx hb hK hP 1 1 rfl rfl (vp_in_nI (show mm < 6 by omega) (by decide)) d_md_meet_64 ?_
            refine lv_topi (fun y6 ey6 => ?_)
            have ey6 : y6 = nI (p0 mm) := ey6.trans (by rw [nI_clamp (show mm < 2 ^ 31 by omega)]; exact (hq mm (by omega)).1)
            subst ey6
            refine lv_icmp_ne hx hb d_md_meet_65 rfl (fun g8 => ?_) (fun g8 => ?_)
            ·
              have f8 : ¬ q0 kk = p0 mm := fun h => g8 (by rw [h])
              have hok : q0 mm ≠ q0 kk ∧ ¬ (q0 mm = p0 kk ∧ q0 kk = p0 mm) := ⟨f6, fun h => f8 h.2⟩
              refine lv_iconst (v := 0) hx hb d_md_meet_72 (by decide) ?_
              refine lv_istore_n hx hb d_md_meet_73 rfl hl (by decide) rfl (fun ls hl => ?_)
              have hl : lv_has ls 4 [(1, .int 0), (3, .int (nI kk)), (2, .int (nI mm)), (0, .ref na)] := hl
              refine lv_iinc (k := 1) (v := nI (kk + 1)) hx hb d_md_meet_74 hl rfl ((nI_succ kk).symm) (by decide) rfl (fun ls hl => ?_)
              have hl : lv_has ls 4 [(3, .int (nI (kk + 1))), (1, .int 0), (2, .int (nI mm)), (0, .ref na)] := hl
              refine lv_goto hx hb d_md_meet_77 rfl ?_
              have hl := lv_sub hl [0, 2, 1, 3] (l' := [(3, .int (nI (kk + 1))), (2, .int (nI mm)), (1, .int 0), (0, .ref na)]) rfl
              exact ih_b (kk + 1, 0) ls H _ (by show mm - (kk + 1) < mm - kk; omega) ⟨by show kk + 1 ≤ mm; omega, Or.inr ⟨rfl, hu0.1, fun k hk => (Nat.lt_or_ge k kk).elim (fun h3 => hu0.2 k h3) (fun h3 => by rw [show k = kk from Nat.le_antisymm (Nat.le_of_lt_succ hk) h3]; exact hok)⟩, hl, hP, hH, rfl⟩
            ·
              have f8 : q0 kk = p0 mm := (nI_eq (by omega) (by omega)).mp g8
              have hbad : ¬ (dj_dis n q0 ∧ ∀ i k, i < n → k < i → ¬ (q0 i = p0 k ∧ q0 k = p0 i)) := fun h => h.2 mm kk g2 g4 ⟨f7, f8⟩
              refine lv_iconst (v := 1) hx hb d_md_meet_68 (by decide) ?_
              refine lv_goto hx hb d_md_meet_69 rfl ?_
              refine lv_istore_n hx hb d_md_meet_73 rfl hl (by decide) rfl (fun ls hl => ?_)
              have hl : lv_has ls 4 [(1, .int 1), (3, .int (nI kk)), (2, .int (nI mm)), (0, .ref na)] := hl
              refine lv_iinc (k := 1) (v := nI (kk + 1)) hx hb d_md_meet_74 hl rfl ((nI_succ kk).symm) (by decide) rfl (fun ls hl => ?_)
              have hl : lv_has ls 4 [(3, .int (nI (kk + 1))), (1, .int 1), (2, .int (nI mm)), (0, .ref na)] := hl
              refine lv_goto hx hb d_md_meet_77 rfl ?_
              have hl := lv_sub hl [0, 2, 1, 3] (l' := [(3, .int (nI (kk + 1))), (2, .int (nI mm)), (1, .int 1), (0, .ref na)]) rfl
              exact ih_b (kk + 1, 1) ls H _ (by show mm - (kk + 1) < mm - kk; omega) ⟨by show kk + 1 ≤ mm; omega, Or.inl ⟨rfl, hbad⟩, hl, hP, hH, rfl⟩

set_option maxHeartbeats 4000000 in
set_option maxRecDepth 100000 in
theorem c_md_lower (l : Launch) (D : va_G) (cZ cI cJ cII : ClassId) (na : Nat) (nwalls : Nat) (nstarts : Nat) (ngoals : Nat) (nlaid : Nat) (nisTold : Nat) (ncells : Nat) (nindex : Nat) (nnear : Nat) (nnearCount : Nat) (npay : Nat) (ndone : Nat) (npile : Nat) (nnow : Nat) (nthen : Nat) (nchoice : Nat) (nplan : Nat) (ncosts : Nat) (npaid : Nat) (nafter : Nat) (nfar : Nat) (nmany : Nat) (nnext : Nat) (vfree : Int32) (vfound : Int32) (vlength : Int32) (vsort : Int32) (vwhen : Int32) (vone : Int32) (vtwo : Int32) (W0 : Nat) (H0 : Nat) (n : Nat) (tp : Nat) (pf : Nat → Int32) (df : Nat → Int32) (lf : Nat → Int32) (y : Nat) (v : Nat) (d0 : Nat) (py : Nat) (sz : Nat) (hy : y < 512000) (hpy : pf y = nI py) (hpb : py < 1000) (hv : v < 1000) (hd0 : d0 < 1000) (htp : df y = 0 → v < py → v = d0 → tp < 512000) : Met l y_md_lower w_md_lower ({ frames := 0, cells := 0, slots := 0, locals := 0 }) (va_Pc [.ref na, .int (nI y), .int (nI v), .int (nI d0)] (mt_B D [(cZ, .boolean), (cI, .int), (cJ, .long), (cII, .array .int)] [(na, .inr (7, [.int (nI W0), .int (nI H0), .ref nwalls, .int (nI n), .ref nstarts, .ref ngoals, .ref nlaid, .ref nisTold, .int vfree, .ref ncells, .ref nindex, .ref nnear, .ref nnearCount, .ref npay, .ref ndone, .ref npile, .int (nI tp), .ref nnow, .ref nthen, .ref nchoice, .int vfound, .int vlength, .ref nplan, .ref ncosts, .ref npaid, .ref nafter, .ref nfar, .ref nmany, .ref nnext, .int vsort, .int vwhen, .int vone, .int vtwo])), (npay, .inl (cI, 512000, .inl pf)), (ndone, .inl (cZ, 512000, .inl df)), (npile, .inl (cI, 512000, .inl lf))] sz)) ((fun A => va_Qv (fun (u : (Nat → Int32) × (Nat → Int32) × Nat) => ((¬ df y = 0 ∨ py ≤ v) ∧ (u.1) = pf ∧ (u.2.1) = lf ∧ (u.2.2) = tp) ∨ (df y = 0 ∧ v < py ∧ (u.1) = upd pf y (nI v) ∧ ((v = d0 ∧ (u.2.1) = upd lf tp (nI y) ∧ (u.2.2) = tp + 1) ∨ (v ≠ d0 ∧ (u.2.1) = lf ∧ (u.2.2) = tp)))) (fun (u : (Nat → Int32) × (Nat → Int32) × Nat) (t : State) => mt_O D A [(na, .inr (7, [.int (nI W0), .int (nI H0), .ref nwalls, .int (nI n), .ref nstarts, .ref ngoals, .ref nlaid, .ref nisTold, .int vfree, .ref ncells, .ref nindex, .ref nnear, .ref nnearCount, .ref npay, .ref ndone, .ref npile, .int (nI (u.2.2)), .ref nnow, .ref nthen, .ref nchoice, .int vfound, .int vlength, .ref nplan, .ref ncosts, .ref npaid, .ref nafter, .ref nfar, .ref nmany, .ref nnext, .int vsort, .int vwhen, .int vone, .int vtwo])), (npay, .inl (cI, 512000, .inl (u.1))), (ndone, .inl (cZ, 512000, .inl df)), (npile, .inl (cI, 512000, .inl (u.2.1)))] t) A) (va_A [(na, .inr (7, [.int (nI W0), .int (nI H0), .ref nwalls, .int (nI n), .ref nstarts, .ref ngoals, .ref nlaid, .ref nisTold, .int vfree, .ref ncells, .ref nindex, .ref nnear, .ref nnearCount, .ref npay, .ref ndone, .ref npile, .int (nI tp), .ref nnow, .ref nthen, .ref nchoice, .int vfound, .int vlength, .ref nplan, .ref ncosts, .ref npaid, .ref nafter, .ref nfar, .ref nmany, .ref nnext, .int vsort, .int vwhen, .int vone, .int vtwo])), (npay, .inl (cI, 512000, .inl pf)), (ndone, .inl (cZ, 512000, .inl df)), (npile, .inl (cI, 512000, .inl lf))] sz)) 0 0 (va_A [(na, .inr (7, [.int (nI W0), .int (nI H0), .ref nwalls, .int (nI n), .ref nstarts, .ref ngoals, .ref nlaid, .ref nisTold, .int vfree, .ref ncells, .ref nindex, .ref nnear, .ref nnearCount, .ref npay, .ref ndone, .ref npile, .int (nI tp), .ref nnow, .ref nthen, .ref nchoice, .int vfound, .int vlength, .ref nplan, .ref ncosts, .ref npaid, .ref nafter, .ref nfar, .ref nmany, .ref nnext, .int vsort, .int vwhen, .int vone, .int vtwo])), (npay, .inl (cI, 512000, .inl pf)), (ndone, .inl (cZ, 512000, .inl df)), (npile, .inl (cI, 512000, .inl lf))] sz) := by
  refine mt_of (y := y_md_lower) (n := 4) (av := [.ref na, .int (nI y), .int (nI v), .int (nI d0)]) (QF := (fun A => va_Qv (fun (u : (Nat → Int32) × (Nat → Int32) × Nat) => ((¬ df y = 0 ∨ py ≤ v) ∧ (u.1) = pf ∧ (u.2.1) = lf ∧ (u.2.2) = tp) ∨ (df y = 0 ∧ v < py ∧ (u.1) = upd pf y (nI v) ∧ ((v = d0 ∧ (u.2.1) = upd lf tp (nI y) ∧ (u.2.2) = tp + 1) ∨ (v ≠ d0 ∧ (u.2.1) = lf ∧ (u.2.2) = tp)))) (fun (u : (Nat → Int32) × (Nat → Int32) × Nat) (t : State) => mt_O D A [(na, .inr (7, [.int (nI W0), .int (nI H0), .ref nwalls, .int (nI n), .ref nstarts, .ref ngoals, .ref nlaid, .ref nisTold, .int vfree, .ref ncells, .ref nindex, .ref nnear, .ref nnearCount, .ref npay, .ref ndone, .ref npile, .int (nI (u.2.2)), .ref nnow, .ref nthen, .ref nchoice, .int vfound, .int vlength, .ref nplan, .ref ncosts, .ref npaid, .ref nafter, .ref nfar, .ref nmany, .ref nnext, .int vsort, .int vwhen, .int vone, .int vtwo])), (npay, .inl (cI, 512000, .inl (u.1))), (ndone, .inl (cZ, 512000, .inl df)), (npile, .inl (cI, 512000, .inl (u.2.1)))] t) A)) (by decide) (Nat.le_of_ble_eq_true rfl) ?_
  intro p e s m below meth c ls A hx hb hr hlk hml hown hnm hg hl hX hP hK hD hA hS
  obtain ⟨H, hH⟩ : ∃ H : Heap, H = s.heap := ⟨_, rfl⟩
  have hS : va_S A s.heap H [] := by rw [hH]; exact va_S.rf
  rw [← hH] at hP ⊢
  have hown : s.vm.findClass R_md = some m.cls := hown
  have hl : lv_has ls 4 [(0, .ref na), (1, .int (nI y)), (2, .int (nI v)), (3, .int (nI d0))] := hl
  refine lv_aload_n hx hb d_md_lower_0 rfl (lv_at hl 0 rfl) ?_
  refine gf_md_49 hx hb hg hown hK hP 0 rfl rfl d_md_lower_1 ?_
  refine lv_iload_n hx hb d_md_lower_4 rfl (lv_at hl 1 rfl) ?_
  refine va_zald hx hb hK hP 2 0 rfl rfl (vp_in_nI hy (by decide)) d_md_lower_5 ?_
  refine lv_topi (fun y1 ey1 => ?_)
  have ey1 : y1 = df y := ey1.trans (by rw [nI_clamp (show y < 2 ^ 31 by omega)])
  subst ey1
  refine lv_if_ne hx hb d_md_lower_6 rfl (fun g1 => ?_) (fun g1 => ?_)
  ·
    have hP9 := hP
    have hD9 := hD
    exact W.vret hx hb hr (fun t ht hW => ⟨⟨(pf, lf, tp), rfl, Or.inl ⟨Or.inl g1, rfl, rfl, rfl⟩, by rw [ht]; exact hP9, hD9⟩, hS.F ht⟩) hS.2.2 d_md_lower_51
  ·
    refine lv_iload_n hx hb d_md_lower_9 rfl (lv_at hl 2 rfl) ?_
    refine lv_aload_n hx hb d_md_lower_10 rfl (lv_at hl 0 rfl) ?_
    refine gf_md_46 hx hb hg hown hK hP 0 rfl rfl d_md_lower_11 ?_
    refine lv_iload_n hx hb d_md_lower_14 rfl (lv_at hl 1 rfl) ?_
    refine va_iald hx hb hK hP 1 1 rfl rfl (vp_in_nI hy (by decide)) d_md_lower_15 ?_
    refine lv_topi (fun y2 ey2 => ?_)
    have ey2 : y2 = nI py := ey2.trans (by rw [nI_clamp (show y < 2 ^ 31 by omega)]; exact hpy)
    subst ey2
    refine lv_icmp_ge hx hb d_md_lower_16 rfl (fun g2 => ?_) (fun g2 => ?_)
    ·
      have g3 : py ≤ v := by rcases Nat.lt_or_ge v py with h | h; exact absurd g2 (nI_ge (b := py) h (by omega)); exact h
      have hP9 := hP
      have hD9 := hD
      exact W.vret hx hb hr (fun t ht hW => ⟨⟨(pf, lf, tp), rfl, Or.inl ⟨Or.inr g3, rfl, rfl, rfl⟩, by rw [ht]; exact hP9, hD9⟩, hS.F ht⟩) hS.2.2 d_md_lower_51
    ·
      have g3 : v < py := by rcases Nat.lt_or_ge v py with h | h; exact h; exact absurd (nI_le (a := py) h (by omega)) g2
      refine lv_aload_n hx hb d_md_lower_19 rfl (lv_at hl 0 rfl) ?_
      refine gf_md_46 hx hb hg hown hK hP 0 rfl rfl d_md_lower_20 ?_
      refine lv_iload_n hx hb d_md_lower_23 rfl (lv_at hl 1 rfl) ?_
      refine lv_iload_n hx hb d_md_lower_24 rfl (lv_at hl 2 rfl) ?_
      refine va_iast hx hb hK hP hD hS 1 1 rfl rfl (vp_in_nI hy (by decide)) d_md_lower_25 (fun H locs hP hD hS => ?_)
      rw [nI_clamp (show y < 2 ^ 31 by omega)] at hP hD
      have hP : va_P D kls [(na, .inr (7, [.int (nI W0), .int (nI H0), .ref nwalls, .int (nI n), .ref nstarts, .ref ngoals, .ref nlaid, .ref nisTold, .int vfree, .ref ncells, .ref nindex, .ref nnear, .ref nnearCount, .ref npay, .ref ndone, .ref npile, .int (nI tp), .ref nnow, .ref nthen, .ref nchoice, .int vfound, .int vlength, .ref nplan, .ref ncosts, .ref npaid, .ref nafter, .ref nfar, .ref nmany, .ref nnext, .int vsort, .int vwhen, .int vone, .int vtwo])), (npay, .inl (cI, 512000, .inl (upd pf y (nI v)))), (ndone, .inl (cZ, 512000, .inl df)), (npile, .inl (cI, 512000, .inl lf))] H := hP
      have hD : va_D A [(na, .inr (7, [.int (nI W0), .int (nI H0), .ref nwalls, .int (nI n), .ref nstarts, .ref ngoals, .ref nlaid, .ref nisTold, .int vfree, .ref ncells, .ref nindex, .ref nnear, .ref nnearCount, .ref npay, .ref ndone, .ref npile, .int (nI tp), .ref nnow, .ref nthen, .ref nchoice, .int vfound, .int vlength, .ref nplan, .ref ncosts, .ref npaid, .ref nafter, .ref nfar, .ref nmany, .ref nnext, .int vsort, .int vwhen, .int vone, .int vtwo])), (npay, .inl (cI, 512000, .inl (upd pf y (nI v)))), (ndone, .inl (cZ, 512000, .inl df)), (npile, .inl (cI, 512000, .inl lf))] := hD
      refine lv_iload_n hx hb d_md_lower_26 rfl (lv_at hl 2 rfl) ?_
      refine lv_iload_n hx hb d_md_lower_27 rfl (lv_at hl 3 rfl) ?_
      refine lv_icmp_ne hx hb d_md_lower_28 rfl (fun g4 => ?_) (fun g4 => ?_)
      ·
        have g5 : v ≠ d0 := fun h => g4 (by rw [h])
        have hP9 := hP
        have hD9 := hD
        exact W.vret hx hb hr (fun t ht hW => ⟨⟨(upd pf y (nI v), lf, tp), rfl, Or.inr ⟨g1, g3, rfl, Or.inr ⟨g5, rfl, rfl⟩⟩, by rw [ht]; exact hP9, hD9⟩, hS.F ht⟩) hS.2.2 d_md_lower_51
      ·
        have g5 : v = d0 := (nI_eq (by omega) (by omega)).mp g4
        have g6 := htp g1 g3 g5
        refine lv_aload_n hx hb d_md_lower_31 rfl (lv_at hl 0 rfl) ?_
        refine gf_md_52 hx hb hg hown hK hP 0 rfl rfl d_md_lower_32 ?_
        refine lv_aload_n hx hb d_md_lower_35 rfl (lv_at hl 0 rfl) ?_
        refine gf_md_130 hx hb hg hown hK hP 0 rfl rfl d_md_lower_36 ?_
        refine lv_iload_n hx hb d_md_lower_39 rfl (lv_at hl 1 rfl) ?_
        refine va_iast hx hb hK hP hD hS 3 1 rfl rfl (vp_in_nI g6 (by decide)) d_md_lower_40 (fun H locs hP hD hS => ?_)
        rw [nI_clamp (show tp < 2 ^ 31 by omega)] at hP hD
        have hP : va_P D kls [(na, .inr (7, [.int (nI W0), .int (nI H0), .ref nwalls, .int (nI n), .ref nstarts, .ref ngoals, .ref nlaid, .ref nisTold, .int vfree, .ref ncells, .ref nindex, .ref nnear, .ref nnearCount, .ref npay, .ref ndone, .ref npile, .int (nI tp), .ref nnow, .ref nthen, .ref nchoice, .int vfound, .int vlength, .ref nplan, .ref ncosts, .ref npaid, .ref nafter, .ref nfar, .ref nmany, .ref nnext, .int vsort, .int vwhen, .int vone, .int vtwo])), (npay, .inl (cI, 512000, .inl (upd pf y (nI v)))), (ndone, .inl (cZ, 512000, .inl df)), (npile, .inl (cI, 512000, .inl (upd lf tp (nI y))))] H := hP
        have hD : va_D A [(na, .inr (7, [.int (nI W0), .int (nI H0), .ref nwalls, .int (nI n), .ref nstarts, .ref ngoals, .ref nlaid, .ref nisTold, .int vfree, .ref ncells, .ref nindex, .ref nnear, .ref nnearCount, .ref npay, .ref ndone, .ref npile, .int (nI tp), .ref nnow, .ref nthen, .ref nchoice, .int vfound, .int vlength, .ref nplan, .ref ncosts, .ref npaid, .ref nafter, .ref nfar, .ref nmany, .ref nnext, .int vsort, .int vwhen, .int vone, .int vtwo])), (npay, .inl (cI, 512000, .inl (upd pf y (nI v)))), (ndone, .inl (cZ, 512000, .inl df)), (npile, .inl (cI, 512000, .inl (upd lf tp (nI y))))] := hD
        refine lv_aload_n hx hb d_md_lower_41 rfl (lv_at hl 0 rfl) ?_
        refine lv_dup hx hb d_md_lower_42 rfl ?_
        refine gf_md_130 hx hb hg hown hK hP 0 rfl rfl d_md_lower_43 ?_
        refine lv_iconst (v := 1) hx hb d_md_lower_46 (by decide) ?_
        refine lv_iadd hx hb d_md_lower_47 ?_
        refine lv_topi (fun y3 ey3 => ?_)
        have ey3 : y3 = nI (tp + 1) := ey3.trans (nI_1 _)
        subst ey3
        refine pf_md_130 hx hb hg hown hK hP hD hS 0 rfl rfl rfl (Nat.le_of_ble_eq_true rfl) d_md_lower_48 (fun H locs hP hD hS => ?_)
        have hP : va_P D kls [(na, .inr (7, [.int (nI W0), .int (nI H0), .ref nwalls, .int (nI n), .ref nstarts, .ref ngoals, .ref nlaid, .ref nisTold, .int vfree, .ref ncells, .ref nindex, .ref nnear, .ref nnearCount, .ref npay, .ref ndone, .ref npile, .int (nI (tp + 1)), .ref nnow, .ref nthen, .ref nchoice, .int vfound, .int vlength, .ref nplan, .ref ncosts, .ref npaid, .ref nafter, .ref nfar, .ref nmany, .ref nnext, .int vsort, .int vwhen, .int vone, .int vtwo])), (npay, .inl (cI, 512000, .inl (upd pf y (nI v)))), (ndone, .inl (cZ, 512000, .inl df)), (npile, .inl (cI, 512000, .inl (upd lf tp (nI y))))] H := hP
        have hD : va_D A [(na, .inr (7, [.int (nI W0), .int (nI H0), .ref nwalls, .int (nI n), .ref nstarts, .ref ngoals, .ref nlaid, .ref nisTold, .int vfree, .ref ncells, .ref nindex, .ref nnear, .ref nnearCount, .ref npay, .ref ndone, .ref npile, .int (nI (tp + 1)), .ref nnow, .ref nthen, .ref nchoice, .int vfound, .int vlength, .ref nplan, .ref ncosts, .ref npaid, .ref nafter, .ref nfar, .ref nmany, .ref nnext, .int vsort, .int vwhen, .int vone, .int vtwo])), (npay, .inl (cI, 512000, .inl (upd pf y (nI v)))), (ndone, .inl (cZ, 512000, .inl df)), (npile, .inl (cI, 512000, .inl (upd lf tp (nI y))))] := hD
        have hP9 := hP
        have hD9 := hD
        exact W.vret hx hb hr (fun t ht hW => ⟨⟨(upd pf y (nI v), upd lf tp (nI y), tp + 1), rfl, Or.inr ⟨g1, g3, rfl, Or.inl ⟨g5, rfl, rfl⟩⟩, by rw [ht]; exact hP9, hD9⟩, hS.F ht⟩) hS.2.2 d_md_lower_51
