set_option maxHeartbeats 4000000 in
set_option maxRecDepth 100000 in
theorem c_md_ways (l : Launch) (D : va_G) (cZ cI cJ cII : ClassId) (na : Nat) (nwalls : Nat) (nstarts : Nat) (ngoals : Nat) (nlaid : Nat) (nisTold : Nat) (ncells : Nat) (nindex : Nat) (nnear : Nat) (nnearCount : Nat) (npay : Nat) (ndone : Nat) (npile : Nat) (nnow : Nat) (nthen : Nat) (nchoice : Nat) (nplan : Nat) (ncosts : Nat) (npaid : Nat) (nafter : Nat) (nfar : Nat) (nmany : Nat) (nnext : Nat) (vfree : Int32) (vtop : Int32) (vfound : Int32) (vlength : Int32) (vsort : Int32) (vwhen : Int32) (vone : Int32) (vtwo : Int32) (W0 : Nat) (H0 : Nat) (n : Nat) (wf : Nat → Int32) (sf : Nat → Int32) (gf : Nat → Int32) (k1 : Nat → Int64) (k2 : Nat → Int64) (x : Int32) (y : Int32) (sz : Nat) (hI : mv_I W0 H0 n wf sf gf vfound vlength) : Met l y_md_ways w_md_ways ({ frames := 1, cells := 0, slots := 0, locals := 40 }) (va_Pc [.ref na, .int x, .int y] (mt_B D [(cZ, .boolean), (cI, .int), (cJ, .long), (cII, .array .int)] [(na, .inr (7, [.int (nI W0), .int (nI H0), .ref nwalls, .int (nI n), .ref nstarts, .ref ngoals, .ref nlaid, .ref nisTold, .int vfree, .ref ncells, .ref nindex, .ref nnear, .ref nnearCount, .ref npay, .ref ndone, .ref npile, .int vtop, .ref nnow, .ref nthen, .ref nchoice, .int vfound, .int vlength, .ref nplan, .ref ncosts, .ref npaid, .ref nafter, .ref nfar, .ref nmany, .ref nnext, .int vsort, .int vwhen, .int vone, .int vtwo])), (nwalls, .inl (cZ, 25, .inl wf)), (nstarts, .inl (cI, 25, .inl sf)), (ngoals, .inl (cI, 25, .inl gf)), (nmany, .inl (cJ, 25, .inr (.inl k1))), (nnext, .inl (cJ, 25, .inr (.inl k2)))] sz)) ((fun A => va_Ql (fun (r : Int64) (u : (Nat → Int64) × (Nat → Int64)) => (wa_P W0 (W0 * H0) n wf sf gf x y r) ∧ (True)) (fun (u : (Nat → Int64) × (Nat → Int64)) (t : State) => mt_O D A [(na, .inr (7, [.int (nI W0), .int (nI H0), .ref nwalls, .int (nI n), .ref nstarts, .ref ngoals, .ref nlaid, .ref nisTold, .int vfree, .ref ncells, .ref nindex, .ref nnear, .ref nnearCount, .ref npay, .ref ndone, .ref npile, .int vtop, .ref nnow, .ref nthen, .ref nchoice, .int vfound, .int vlength, .ref nplan, .ref ncosts, .ref npaid, .ref nafter, .ref nfar, .ref nmany, .ref nnext, .int vsort, .int vwhen, .int vone, .int vtwo])), (nwalls, .inl (cZ, 25, .inl wf)), (nstarts, .inl (cI, 25, .inl sf)), (ngoals, .inl (cI, 25, .inl gf)), (nmany, .inl (cJ, 25, .inr (.inl (u.1)))), (nnext, .inl (cJ, 25, .inr (.inl (u.2))))] t) A) (va_A [(na, .inr (7, [.int (nI W0), .int (nI H0), .ref nwalls, .int (nI n), .ref nstarts, .ref ngoals, .ref nlaid, .ref nisTold, .int vfree, .ref ncells, .ref nindex, .ref nnear, .ref nnearCount, .ref npay, .ref ndone, .ref npile, .int vtop, .ref nnow, .ref nthen, .ref nchoice, .int vfound, .int vlength, .ref nplan, .ref ncosts, .ref npaid, .ref nafter, .ref nfar, .ref nmany, .ref nnext, .int vsort, .int vwhen, .int vone, .int vtwo])), (nwalls, .inl (cZ, 25, .inl wf)), (nstarts, .inl (cI, 25, .inl sf)), (ngoals, .inl (cI, 25, .inl gf)), (nmany, .inl (cJ, 25, .inr (.inl k1))), (nnext, .inl (cJ, 25, .inr (.inl k2)))] sz)) 0 0 (va_A [(na, .inr (7, [.int (nI W0), .int (nI H0), .ref nwalls, .int (nI n), .ref nstarts, .ref ngoals, .ref nlaid, .ref nisTold, .int vfree, .ref ncells, .ref nindex, .ref nnear, .ref nnearCount, .ref npay, .ref ndone, .ref npile, .int vtop, .ref nnow, .ref nthen, .ref nchoice, .int vfound, .int vlength, .ref nplan, .ref ncosts, .ref npaid, .ref nafter, .ref nfar, .ref nmany, .ref nnext, .int vsort, .int vwhen, .int vone, .int vtwo])), (nwalls, .inl (cZ, 25, .inl wf)), (nstarts, .inl (cI, 25, .inl sf)), (ngoals, .inl (cI, 25, .inl gf)), (nmany, .inl (cJ, 25, .inr (.inl k1))), (nnext, .inl (cJ, 25, .inr (.inl k2)))] sz) := by
  refine mt_of (y := y_md_ways) (n := 6) (av := [.ref na, .int x, .int y]) (QF := (fun A => va_Ql (fun (r : Int64) (u : (Nat → Int64) × (Nat → Int64)) => (wa_P W0 (W0 * H0) n wf sf gf x y r) ∧ (True)) (fun (u : (Nat → Int64) × (Nat → Int64)) (t : State) => mt_O D A [(na, .inr (7, [.int (nI W0), .int (nI H0), .ref nwalls, .int (nI n), .ref nstarts, .ref ngoals, .ref nlaid, .ref nisTold, .int vfree, .ref ncells, .ref nindex, .ref nnear, .ref nnearCount, .ref npay, .ref ndone, .ref npile, .int vtop, .ref nnow, .ref nthen, .ref nchoice, .int vfound, .int vlength, .ref nplan, .ref ncosts, .ref npaid, .ref nafter, .ref nfar, .ref nmany, .ref nnext, .int vsort, .int vwhen, .int vone, .int vtwo])), (nwalls, .inl (cZ, 25, .inl wf)), (nstarts, .inl (cI, 25, .inl sf)), (ngoals, .inl (cI, 25, .inl gf)), (nmany, .inl (cJ, 25, .inr (.inl (u.1)))), (nnext, .inl (cJ, 25, .inr (.inl (u.2))))] t) A)) (by decide) (Nat.le_of_ble_eq_true rfl) ?_
  intro p e s m below meth c ls A hx hb hr hlk hml hown hnm hg hl hX hP hK hD hA hS
  obtain ⟨H, hH⟩ : ∃ H : Heap, H = s.heap := ⟨_, rfl⟩
  have hS : va_S A s.heap H [] := by rw [hH]; exact va_S.rf
  rw [← hH] at hP ⊢
  have hown : s.vm.findClass R_md = some m.cls := hown
  have hl : lv_has ls 6 [(0, .ref na), (1, .int x), (2, .int y)] := hl
  refine lv_aload_n hx hb d_md_ways_0 rfl (lv_at hl 0 rfl) ?_
  refine lv_iload_n hx hb d_md_ways_1 rfl (lv_at hl 1 rfl) ?_
  have hPc := hP.sub (ws' := [(na, .inr (7, [.int (nI W0), .int (nI H0), .ref nwalls, .int (nI n), .ref nstarts, .ref ngoals, .ref nlaid, .ref nisTold, .int vfree, .ref ncells, .ref nindex, .ref nnear, .ref nnearCount, .ref npay, .ref ndone, .ref npile, .int vtop, .ref nnow, .ref nthen, .ref nchoice, .int vfound, .int vlength, .ref nplan, .ref ncosts, .ref npaid, .ref nafter, .ref nfar, .ref nmany, .ref nnext, .int vsort, .int vwhen, .int vone, .int vtwo]))]) [0] rfl
  have hDc := hD.sub (ws' := [(na, .inr (7, [.int (nI W0), .int (nI H0), .ref nwalls, .int (nI n), .ref nstarts, .ref ngoals, .ref nlaid, .ref nisTold, .int vfree, .ref ncells, .ref nindex, .ref nnear, .ref nnearCount, .ref npay, .ref ndone, .ref npile, .int vtop, .ref nnow, .ref nthen, .ref nchoice, .int vfound, .int vlength, .ref nplan, .ref ncosts, .ref npaid, .ref nafter, .ref nfar, .ref nmany, .ref nnext, .int vsort, .int vwhen, .int vone, .int vtwo]))]) [0] (by decide) rfl
  refine vp_callSi (W.runV (As := [.int x]) (rest := []) ⟨hx, hb, hml, hown, hg⟩ (c_md_isMover l D cZ cI cJ cII na nwalls nstarts ngoals nlaid nisTold ncells nindex nnear nnearCount npay ndone npile nnow nthen nchoice nplan ncosts npaid nafter nfar nmany nnext vfree vtop vfound vlength vsort vwhen vone vtwo _ _ _ x H.size ) (cwV 1 hg gv_md_111 rfl rfl rfl (by decide +kernel) ⟨Nat.le_of_ble_eq_true rfl, Nat.le_of_ble_eq_true rfl⟩) ⟨mt_bl, va_recv (q0 := 0) (ci := 7) hK hP rfl rfl, mt_pr hX hPc hK hDc⟩ rfl rfl hl.1 rfl (lv_room (Nat.le_of_ble_eq_true rfl)) d_md_ways_2 ⟨Nat.le_of_ble_eq_true rfl, Nat.le_of_ble_eq_true rfl⟩) (fun r1 hr1 => ?_)
  have hr1 : (r1 = 1 ∧ ¬ x < 0 ∧ ¬ nI n ≤ x) ∨ (r1 = 0 ∧ (x < 0 ∨ nI n ≤ x)) := hr1
  have hhas := hr1
  refine lv_if_eq hx hb d_md_ways_5 rfl (fun g1 => ?_) (fun g1 => ?_)
  ·
    refine lv_ldc2 hx hb hown (hg _ gx_md_118) d_md_ways_18 ?_
    have hP9 := hP
    have hD9 := hD
    exact W.lret hx hb hr (fun t ht hW => ⟨⟨(-1), (k1, k2), rfl, ⟨Or.inl ⟨rfl, wa_n1 hI.2.1 (hhas.elim (fun q => absurd (q.1.symm.trans g1) (by decide)) (fun q => q.2))⟩, trivial⟩, by rw [ht]; exact hP9, hD9⟩, hS.F ht⟩) hS.2.2 d_md_ways_21
  ·
    refine lv_iload_n hx hb d_md_ways_8 rfl (lv_at hl 2 rfl) ?_
    refine lv_if_lt hx hb d_md_ways_9 rfl (fun g2 => ?_) (fun g2 => ?_)
    ·
      refine lv_ldc2 hx hb hown (hg _ gx_md_118) d_md_ways_18 ?_
      have hP9 := hP
      have hD9 := hD
      exact W.lret hx hb hr (fun t ht hW => ⟨⟨(-1), (k1, k2), rfl, ⟨Or.inl ⟨rfl, wa_n2 (Or.inl g2)⟩, trivial⟩, by rw [ht]; exact hP9, hD9⟩, hS.F ht⟩) hS.2.2 d_md_ways_21
    ·
      refine lv_iload_n hx hb d_md_ways_12 rfl (lv_at hl 2 rfl) ?_
      refine lv_bipush (v := 20) hx hb d_md_ways_13 (by decide) ?_
      refine lv_icmp_le hx hb d_md_ways_15 rfl (fun g3 => ?_) (fun g3 => ?_)
      ·
        obtain ⟨h1, h2, h3, h4, sp, gl, h5, h6⟩ := hI
        obtain ⟨k, hkx, hk⟩ := xv_hs h2 (hhas.elim (fun q => q.2) (fun q => absurd q.1 g1))
        subst hkx
        have hgl25 : gl k < 25 := by have := (h5 k hk).2.2.2.1; omega
        have hsp25 : sp k < 25 := by have := (h5 k hk).2.1.1; omega
        obtain ⟨cc, hcc, hyc⟩ := nI_of2 (n := 20) (M := 20) (by decide) g2 g3
        subst hyc
        have hl : lv_has ls 6 [(0, .ref na), (1, .int (nI k)), (2, .int (nI cc))] := hl
        refine lv_iconst (v := 0) hx hb d_md_ways_22 (by decide) ?_
        refine lv_istore_n hx hb d_md_ways_23 rfl hl (by decide) rfl (fun ls hl => ?_)
        have hl : lv_has ls 6 [(3, .int 0), (0, .ref na), (1, .int (nI k)), (2, .int (nI cc))] := hl
        have hl := lv_sub hl [0, 1, 2, 3] (l' := [(3, .int (nI 0)), (0, .ref na), (1, .int (nI k)), (2, .int (nI cc))]) rfl
        refine mt_loop (ι := Nat × (Nat → Int64)) (I := fun ix ls H locs => ((ix.1) ≤ 25) ∧ (∀ c, c < (ix.1) → (ix.2) c = if c = sp k then 1 else 0) ∧ lv_has ls 6 [(3, .int (nI (ix.1))), (0, .ref na), (1, .int (nI k)), (2, .int (nI cc))] ∧ va_P D kls [(na, .inr (7, [.int (nI W0), .int (nI H0), .ref nwalls, .int (nI n), .ref nstarts, .ref ngoals, .ref nlaid, .ref nisTold, .int vfree, .ref ncells, .ref nindex, .ref nnear, .ref nnearCount, .ref npay, .ref ndone, .ref npile, .int vtop, .ref nnow, .ref nthen, .ref nchoice, .int vfound, .int vlength, .ref nplan, .ref ncosts, .ref npaid, .ref nafter, .ref nfar, .ref nmany, .ref nnext, .int vsort, .int vwhen, .int vone, .int vtwo])), (nwalls, .inl (cZ, 25, .inl wf)), (nstarts, .inl (cI, 25, .inl sf)), (ngoals, .inl (cI, 25, .inl gf)), (nmany, .inl (cJ, 25, .inr (.inl (ix.2)))), (nnext, .inl (cJ, 25, .inr (.inl k2)))] H ∧ va_D A [(na, .inr (7, [.int (nI W0), .int (nI H0), .ref nwalls, .int (nI n), .ref nstarts, .ref ngoals, .ref nlaid, .ref nisTold, .int vfree, .ref ncells, .ref nindex, .ref nnear, .ref nnearCount, .ref npay, .ref ndone, .ref npile, .int vtop, .ref nnow, .ref nthen, .ref nchoice, .int vfound, .int vlength, .ref nplan, .ref ncosts, .ref npaid, .ref nafter, .ref nfar, .ref nmany, .ref nnext, .int vsort, .int vwhen, .int vone, .int vtwo])), (nwalls, .inl (cZ, 25, .inl wf)), (nstarts, .inl (cI, 25, .inl sf)), (ngoals, .inl (cI, 25, .inl gf)), (nmany, .inl (cJ, 25, .inr (.inl (ix.2)))), (nnext, .inl (cJ, 25, .inr (.inl k2)))] ∧ va_S A s.heap H locs) (μ := fun ix => 25 - (ix.1)) ?_ (0, k1) ls H _ ⟨Nat.zero_le _, fun c h => absurd h (Nat.not_lt_zero _), hl, hP, hD, hS⟩
        clear hl hP hD hS
        intro i_a ls H locs ⟨hz, hp1, hl, hP, hD, hS⟩ ih_a
        obtain ⟨z, p1⟩ := i_a
        have hz : z ≤ 25 := hz
        have hp1 : ∀ c, c < z → p1 c = if c = sp k then 1 else 0 := hp1
        have hl : lv_has ls 6 [(3, .int (nI z)), (0, .ref na), (1, .int (nI k)), (2, .int (nI cc))] := hl
        have hP : va_P D kls [(na, .inr (7, [.int (nI W0), .int (nI H0), .ref nwalls, .int (nI n), .ref nstarts, .ref ngoals, .ref nlaid, .ref nisTold, .int vfree, .ref ncells, .ref nindex, .ref nnear, .ref nnearCount, .ref npay, .ref ndone, .ref npile, .int vtop, .ref nnow, .ref nthen, .ref nchoice, .int vfound, .int vlength, .ref nplan, .ref ncosts, .ref npaid, .ref nafter, .ref nfar, .ref nmany, .ref nnext, .int vsort, .int vwhen, .int vone, .int vtwo])), (nwalls, .inl (cZ, 25, .inl wf)), (nstarts, .inl (cI, 25, .inl sf)), (ngoals, .inl (cI, 25, .inl gf)), (nmany, .inl (cJ, 25, .inr (.inl p1))), (nnext, .inl (cJ, 25, .inr (.inl k2)))] H := hP
        have hD : va_D A [(na, .inr (7, [.int (nI W0), .int (nI H0), .ref nwalls, .int (nI n), .ref nstarts, .ref ngoals, .ref nlaid, .ref nisTold, .int vfree, .ref ncells, .ref nindex, .ref nnear, .ref nnearCount, .ref npay, .ref ndone, .ref npile, .int vtop, .ref nnow, .ref nthen, .ref nchoice, .int vfound, .int vlength, .ref nplan, .ref ncosts, .ref npaid, .ref nafter, .ref nfar, .ref nmany, .ref nnext, .int vsort, .int vwhen, .int vone, .int vtwo])), (nwalls, .inl (cZ, 25, .inl wf)), (nstarts, .inl (cI, 25, .inl sf)), (ngoals, .inl (cI, 25, .inl gf)), (nmany, .inl (cJ, 25, .inr (.inl p1))), (nnext, .inl (cJ, 25, .inr (.inl k2)))] := hD
        refine lv_iload_n hx hb d_md_ways_24 rfl (lv_at hl 0 rfl) ?_
        refine lv_bipush (v := 25) hx hb d_md_ways_25 (by decide) ?_
        refine lv_icmp_ge hx hb d_md_ways_27 rfl (fun g4 => ?_) (fun g4 => ?_)
        ·
          have g5x : 25 ≤ z := by rcases Nat.lt_or_ge z 25 with h | h; exact absurd g4 (nI_ge (b := 25) h (by omega)); exact h
          refine lv_iconst (v := 0) hx hb d_md_ways_57 (by decide) ?_
          refine lv_istore_n hx hb d_md_ways_58 rfl hl (by decide) rfl (fun ls hl => ?_)
          have hl : lv_has ls 6 [(3, .int 0), (0, .ref na), (1, .int (nI k)), (2, .int (nI cc))] := hl
          have hl := lv_sub hl [0, 1, 2, 3] (l' := [(3, .int (nI 0)), (0, .ref na), (1, .int (nI k)), (2, .int (nI cc))]) rfl
          refine mt_loop (ι := Nat × (Nat → Int64) × (Nat → Int64)) (I := fun ix ls H locs => ((ix.1) ≤ cc) ∧ (((ix.1) < cc ∨ cc = 0) → ∀ c, c < 25 → (ix.2.1) c = wr_ct W0 (W0 * H0) wf (sp k) (ix.1) c) ∧ ((ix.1) = cc → (ix.2.1) (gl k) = wr_an W0 (W0 * H0) wf (sp k) (gl k) cc) ∧ lv_has ls 6 [(3, .int (nI (ix.1))), (0, .ref na), (1, .int (nI k)), (2, .int (nI cc))] ∧ va_P D kls [(na, .inr (7, [.int (nI W0), .int (nI H0), .ref nwalls, .int (nI n), .ref nstarts, .ref ngoals, .ref nlaid, .ref nisTold, .int vfree, .ref ncells, .ref nindex, .ref nnear, .ref nnearCount, .ref npay, .ref ndone, .ref npile, .int vtop, .ref nnow, .ref nthen, .ref nchoice, .int vfound, .int vlength, .ref nplan, .ref ncosts, .ref npaid, .ref nafter, .ref nfar, .ref nmany, .ref nnext, .int vsort, .int vwhen, .int vone, .int vtwo])), (nwalls, .inl (cZ, 25, .inl wf)), (nstarts, .inl (cI, 25, .inl sf)), (ngoals, .inl (cI, 25, .inl gf)), (nmany, .inl (cJ, 25, .inr (.inl (ix.2.1)))), (nnext, .inl (cJ, 25, .inr (.inl (ix.2.2))))] H ∧ va_D A [(na, .inr (7, [.int (nI W0), .int (nI H0), .ref nwalls, .int (nI n), .ref nstarts, .ref ngoals, .ref nlaid, .ref nisTold, .int vfree, .ref ncells, .ref nindex, .ref nnear, .ref nnearCount, .ref npay, .ref ndone, .ref npile, .int vtop, .ref nnow, .ref nthen, .ref nchoice, .int vfound, .int vlength, .ref nplan, .ref ncosts, .ref npaid, .ref nafter, .ref nfar, .ref nmany, .ref nnext, .int vsort, .int vwhen, .int vone, .int vtwo])), (nwalls, .inl (cZ, 25, .inl wf)), (nstarts, .inl (cI, 25, .inl sf)), (ngoals, .inl (cI, 25, .inl gf)), (nmany, .inl (cJ, 25, .inr (.inl (ix.2.1)))), (nnext, .inl (cJ, 25, .inr (.inl (ix.2.2))))] ∧ va_S A s.heap H locs) (μ := fun ix => cc - (ix.1)) ?_ (0, p1, k2) ls H _ ⟨Nat.zero_le _, fun _ c9 h9 => hp1 c9 (by have : c9 < 25 := h9; omega), fun e9 => by rw [← e9]; exact hp1 (gl k) (by omega), hl, hP, hD, hS⟩
          clear hl hP hD hS
          intro i_b ls H locs ⟨htz, hp2, hp2e, hl, hP, hD, hS⟩ ih_b
          obtain ⟨tz, p2, q2⟩ := i_b
          have htz : tz ≤ cc := htz
          have hp2 : (tz < cc ∨ cc = 0) → ∀ c, c < 25 → p2 c = wr_ct W0 (W0 * H0) wf (sp k) tz c := hp2
          have hp2e : tz = cc → p2 (gl k) = wr_an W0 (W0 * H0) wf (sp k) (gl k) cc := hp2e
          have hl : lv_has ls 6 [(3, .int (nI tz)), (0, .ref na), (1, .int (nI k)), (2, .int (nI cc))] := hl
          have hP : va_P D kls [(na, .inr (7, [.int (nI W0), .int (nI H0), .ref nwalls, .int (nI n), .ref nstarts, .ref ngoals, .ref nlaid, .ref nisTold, .int vfree, .ref ncells, .ref nindex, .ref nnear, .ref nnearCount, .ref npay, .ref ndone, .ref npile, .int vtop, .ref nnow, .ref nthen, .ref nchoice, .int vfound, .int vlength, .ref nplan, .ref ncosts, .ref npaid, .ref nafter, .ref nfar, .ref nmany, .ref nnext, .int vsort, .int vwhen, .int vone, .int vtwo])), (nwalls, .inl (cZ, 25, .inl wf)), (nstarts, .inl (cI, 25, .inl sf)), (ngoals, .inl (cI, 25, .inl gf)), (nmany, .inl (cJ, 25, .inr (.inl p2))), (nnext, .inl (cJ, 25, .inr (.inl q2)))] H := hP
          have hD : va_D A [(na, .inr (7, [.int (nI W0), .int (nI H0), .ref nwalls, .int (nI n), .ref nstarts, .ref ngoals, .ref nlaid, .ref nisTold, .int vfree, .ref ncells, .ref nindex, .ref nnear, .ref nnearCount, .ref npay, .ref ndone, .ref npile, .int vtop, .ref nnow, .ref nthen, .ref nchoice, .int vfound, .int vlength, .ref nplan, .ref ncosts, .ref npaid, .ref nafter, .ref nfar, .ref nmany, .ref nnext, .int vsort, .int vwhen, .int vone, .int vtwo])), (nwalls, .inl (cZ, 25, .inl wf)), (nstarts, .inl (cI, 25, .inl sf)), (ngoals, .inl (cI, 25, .inl gf)), (nmany, .inl (cJ, 25, .inr (.inl p2))), (nnext, .inl (cJ, 25, .inr (.inl q2)))] := hD
          refine lv_iload_n hx hb d_md_ways_59 rfl (lv_at hl 0 rfl) ?_
          refine lv_iload_n hx hb d_md_ways_60 rfl (lv_at hl 3 rfl) ?_
          refine lv_icmp_ge hx hb d_md_ways_61 rfl (fun g7 => ?_) (fun g7 => ?_)
          ·
            have g8x : cc ≤ tz := by rcases Nat.lt_or_ge tz cc with h | h; exact absurd g7 (nI_ge (b := cc) h (by omega)); exact h
            have g8e : tz = cc := by omega
            refine lv_aload_n hx hb d_md_ways_248 rfl (lv_at hl 1 rfl) ?_
            refine gf_md_79 hx hb hg hown hK hP 0 rfl rfl d_md_ways_249 ?_
            refine lv_aload_n hx hb d_md_ways_252 rfl (lv_at hl 1 rfl) ?_
            refine gf_md_24 hx hb hg hown hK hP 0 rfl rfl d_md_ways_253 ?_
            refine lv_iload_n hx hb d_md_ways_256 rfl (lv_at hl 2 rfl) ?_
            refine va_iald hx hb hK hP 3 1 rfl rfl (vp_in_nI (show k < 25 by omega) (by decide)) d_md_ways_257 ?_
            refine lv_topi (fun y2 ey2 => ?_)
            have ey2 : y2 = nI (gl k) := ey2.trans (by rw [nI_clamp (show k < 2 ^ 31 by omega)]; exact (h5 k hk).2.2.1)
            subst ey2
            refine va_lald hx hb hK hP 4 2 rfl rfl (vp_in_nI (show gl k < 25 by omega) (by decide)) d_md_ways_258 ?_
            refine lv_topl (fun y3 ey3 => ?_)
            have ey3 : y3 = p2 (gl k) := ey3.trans (by rw [nI_clamp (show gl k < 2 ^ 31 by omega)])
            subst ey3
            have hP9 := hP
            have hD9 := hD
            exact W.lret hx hb hr (fun t ht hW => ⟨⟨p2 (gl k), (p2, q2), rfl, ⟨Or.inr ⟨k, cc, sp k, gl k, hk, hcc, rfl, rfl, (h5 k hk).1, (h5 k hk).2.2.1, (h5 k hk).2.1, (h5 k hk).2.2.2, hp2e g8e⟩, trivial⟩, by rw [ht]; exact hP9, hD9⟩, hS.F ht⟩) hS.2.2 d_md_ways_259
          ·
            have g8x : tz < cc := by rcases Nat.lt_or_ge tz cc with h | h; exact h; exact absurd (nI_le (a := cc) h (by omega)) g7
            refine mt_jp (pc := 83) (rest := []) (ι := (Nat → Int64) × (Nat → Int64)) (I := fun ix ls H locs => (∀ c, c < 25 → (ix.1) c = if tz + 1 = cc ∧ c = gl k then 0 else wr_ct W0 (W0 * H0) wf (sp k) tz c) ∧ lv_has ls 6 [(3, .int (nI tz)), (0, .ref na), (1, .int (nI k)), (2, .int (nI cc))] ∧ va_P D kls [(na, .inr (7, [.int (nI W0), .int (nI H0), .ref nwalls, .int (nI n), .ref nstarts, .ref ngoals, .ref nlaid, .ref nisTold, .int vfree, .ref ncells, .ref nindex, .ref nnear, .ref nnearCount, .ref npay, .ref ndone, .ref npile, .int vtop, .ref nnow, .ref nthen, .ref nchoice, .int vfound, .int vlength, .ref nplan, .ref ncosts, .ref npaid, .ref nafter, .ref nfar, .ref nmany, .ref nnext, .int vsort, .int vwhen, .int vone, .int vtwo])), (nwalls, .inl (cZ, 25, .inl wf)), (nstarts, .inl (cI, 25, .inl sf)), (ngoals, .inl (cI, 25, .inl gf)), (nmany, .inl (cJ, 25, .inr (.inl (ix.1)))), (nnext, .inl (cJ, 25, .inr (.inl (ix.2))))] H ∧ va_D A [(na, .inr (7, [.int (nI W0), .int (nI H0), .ref nwalls, .int (nI n), .ref nstarts, .ref ngoals, .ref nlaid, .ref nisTold, .int vfree, .ref ncells, .ref nindex, .ref nnear, .ref nnearCount, .ref npay, .ref ndone, .ref npile, .int vtop, .ref nnow, .ref nthen, .ref nchoice, .int vfound, .int vlength, .ref nplan, .ref ncosts, .ref npaid, .ref nafter, .ref nfar, .ref nmany, .ref nnext, .int vsort, .int vwhen, .int vone, .int vtwo])), (nwalls, .inl (cZ, 25, .inl wf)), (nstarts, .inl (cI, 25, .inl sf)), (ngoals, .inl (cI, 25, .inl gf)), (nmany, .inl (cJ, 25, .inr (.inl (ix.1)))), (nnext, .inl (cJ, 25, .inr (.inl (ix.2))))] ∧ va_S A s.heap H locs) ?_ (fun jp_j => ?_)
            ·
              clear hl hP hD hS
              intro i_j ls H locs ⟨hp3, hl, hP, hD, hS⟩
              obtain ⟨p3, q3⟩ := i_j
              have hp3 : ∀ c, c < 25 → p3 c = if tz + 1 = cc ∧ c = gl k then 0 else wr_ct W0 (W0 * H0) wf (sp k) tz c := hp3
              have hl : lv_has ls 6 [(3, .int (nI tz)), (0, .ref na), (1, .int (nI k)), (2, .int (nI cc))] := hl
              have hP : va_P D kls [(na, .inr (7, [.int (nI W0), .int (nI H0), .ref nwalls, .int (nI n), .ref nstarts, .ref ngoals, .ref nlaid, .ref nisTold, .int vfree, .ref ncells, .ref nindex, .ref nnear, .ref nnearCount, .ref npay, .ref ndone, .ref npile, .int vtop, .ref nnow, .ref nthen, .ref nchoice, .int vfound, .int vlength, .ref nplan, .ref ncosts, .ref npaid, .ref nafter, .ref nfar, .ref nmany, .ref nnext, .int vsort, .int vwhen, .int vone, .int vtwo])), (nwalls, .inl (cZ, 25, .inl wf)), (nstarts, .inl (cI, 25, .inl sf)), (ngoals, .inl (cI, 25, .inl gf)), (nmany, .inl (cJ, 25, .inr (.inl p3))), (nnext, .inl (cJ, 25, .inr (.inl q3)))] H := hP
              have hD : va_D A [(na, .inr (7, [.int (nI W0), .int (nI H0), .ref nwalls, .int (nI n), .ref nstarts, .ref ngoals, .ref nlaid, .ref nisTold, .int vfree, .ref ncells, .ref nindex, .ref nnear, .ref nnearCount, .ref npay, .ref ndone, .ref npile, .int vtop, .ref nnow, .ref nthen, .ref nchoice, .int vfound, .int vlength, .ref nplan, .ref ncosts, .ref npaid, .ref nafter, .ref nfar, .ref nmany, .ref nnext, .int vsort, .int vwhen, .int vone, .int vtwo])), (nwalls, .inl (cZ, 25, .inl wf)), (nstarts, .inl (cI, 25, .inl sf)), (ngoals, .inl (cI, 25, .inl gf)), (nmany, .inl (cJ, 25, .inr (.inl p3))), (nnext, .inl (cJ, 25, .inr (.inl q3)))] := hD
              refine lv_iconst (v := 0) hx hb d_md_ways_83 (by decide) ?_
              refine lv_istore hx hb d_md_ways_84 hl (by decide) rfl (fun ls hl => ?_)
              have hl : lv_has ls 6 [(4, .int 0), (3, .int (nI tz)), (0, .ref na), (1, .int (nI k)), (2, .int (nI cc))] := hl
              have hl := lv_sub hl [0, 1, 2, 3, 4] (l' := [(4, .int (nI 0)), (3, .int (nI tz)), (0, .ref na), (1, .int (nI k)), (2, .int (nI cc))]) rfl
              refine mt_loop (ι := Nat × (Nat → Int64)) (I := fun ix ls H locs => ((ix.1) ≤ W0 * H0) ∧ (∀ c, c < (ix.1) → (ix.2) c = if wf c = 0 then wr_sum W0 wf p3 c (W0 * H0) else 0) ∧ lv_has ls 6 [(4, .int (nI (ix.1))), (3, .int (nI tz)), (0, .ref na), (1, .int (nI k)), (2, .int (nI cc))] ∧ va_P D kls [(na, .inr (7, [.int (nI W0), .int (nI H0), .ref nwalls, .int (nI n), .ref nstarts, .ref ngoals, .ref nlaid, .ref nisTold, .int vfree, .ref ncells, .ref nindex, .ref nnear, .ref nnearCount, .ref npay, .ref ndone, .ref npile, .int vtop, .ref nnow, .ref nthen, .ref nchoice, .int vfound, .int vlength, .ref nplan, .ref ncosts, .ref npaid, .ref nafter, .ref nfar, .ref nmany, .ref nnext, .int vsort, .int vwhen, .int vone, .int vtwo])), (nwalls, .inl (cZ, 25, .inl wf)), (nstarts, .inl (cI, 25, .inl sf)), (ngoals, .inl (cI, 25, .inl gf)), (nmany, .inl (cJ, 25, .inr (.inl p3))), (nnext, .inl (cJ, 25, .inr (.inl (ix.2))))] H ∧ va_D A [(na, .inr (7, [.int (nI W0), .int (nI H0), .ref nwalls, .int (nI n), .ref nstarts, .ref ngoals, .ref nlaid, .ref nisTold, .int vfree, .ref ncells, .ref nindex, .ref nnear, .ref nnearCount, .ref npay, .ref ndone, .ref npile, .int vtop, .ref nnow, .ref nthen, .ref nchoice, .int vfound, .int vlength, .ref nplan, .ref ncosts, .ref npaid, .ref nafter, .ref nfar, .ref nmany, .ref nnext, .int vsort, .int vwhen, .int vone, .int vtwo])), (nwalls, .inl (cZ, 25, .inl wf)), (nstarts, .inl (cI, 25, .inl sf)), (ngoals, .inl (cI, 25, .inl gf)), (nmany, .inl (cJ, 25, .inr (.inl p3))), (nnext, .inl (cJ, 25, .inr (.inl (ix.2))))] ∧ va_S A s.heap H locs) (μ := fun ix => W0 * H0 - (ix.1)) ?_ (0, q3) ls H _ ⟨Nat.zero_le _, fun c h => absurd h (Nat.not_lt_zero _), hl, hP, hD, hS⟩
              clear hl hP hD hS
              intro i_c ls H locs ⟨hkz, hq4, hl, hP, hD, hS⟩ ih_c
              obtain ⟨kz, q4⟩ := i_c
              have hkz : kz ≤ W0 * H0 := hkz
              have hq4 : ∀ c, c < kz → q4 c = if wf c = 0 then wr_sum W0 wf p3 c (W0 * H0) else 0 := hq4
              have hl : lv_has ls 6 [(4, .int (nI kz)), (3, .int (nI tz)), (0, .ref na), (1, .int (nI k)), (2, .int (nI cc))] := hl
              have hP : va_P D kls [(na, .inr (7, [.int (nI W0), .int (nI H0), .ref nwalls, .int (nI n), .ref nstarts, .ref ngoals, .ref nlaid, .ref nisTold, .int vfree, .ref ncells, .ref nindex, .ref nnear, .ref nnearCount, .ref npay, .ref ndone, .ref npile, .int vtop, .ref nnow, .ref nthen, .ref nchoice, .int vfound, .int vlength, .ref nplan, .ref ncosts, .ref npaid, .ref nafter, .ref nfar, .ref nmany, .ref nnext, .int vsort, .int vwhen, .int vone, .int vtwo])), (nwalls, .inl (cZ, 25, .inl wf)), (nstarts, .inl (cI, 25, .inl sf)), (ngoals, .inl (cI, 25, .inl gf)), (nmany, .inl (cJ, 25, .inr (.inl p3))), (nnext, .inl (cJ, 25, .inr (.inl q4)))] H := hP
              have hD : va_D A [(na, .inr (7, [.int (nI W0), .int (nI H0), .ref nwalls, .int (nI n), .ref nstarts, .ref ngoals, .ref nlaid, .ref nisTold, .int vfree, .ref ncells, .ref nindex, .ref nnear, .ref nnearCount, .ref npay, .ref ndone, .ref npile, .int vtop, .ref nnow, .ref nthen, .ref nchoice, .int vfound, .int vlength, .ref nplan, .ref ncosts, .ref npaid, .ref nafter, .ref nfar, .ref nmany, .ref nnext, .int vsort, .int vwhen, .int vone, .int vtwo])), (nwalls, .inl (cZ, 25, .inl wf)), (nstarts, .inl (cI, 25, .inl sf)), (ngoals, .inl (cI, 25, .inl gf)), (nmany, .inl (cJ, 25, .inr (.inl p3))), (nnext, .inl (cJ, 25, .inr (.inl q4)))] := hD
              refine lv_iload hx hb d_md_ways_86 (lv_at hl 0 rfl) ?_
              refine lv_aload_n hx hb d_md_ways_88 rfl (lv_at hl 2 rfl) ?_
              have hPc := hP.sub (ws' := [(na, .inr (7, [.int (nI W0), .int (nI H0), .ref nwalls, .int (nI n), .ref nstarts, .ref ngoals, .ref nlaid, .ref nisTold, .int vfree, .ref ncells, .ref nindex, .ref nnear, .ref nnearCount, .ref npay, .ref ndone, .ref npile, .int vtop, .ref nnow, .ref nthen, .ref nchoice, .int vfound, .int vlength, .ref nplan, .ref ncosts, .ref npaid, .ref nafter, .ref nfar, .ref nmany, .ref nnext, .int vsort, .int vwhen, .int vone, .int vtwo]))]) [0] rfl
              have hDc := hD.sub (ws' := [(na, .inr (7, [.int (nI W0), .int (nI H0), .ref nwalls, .int (nI n), .ref nstarts, .ref ngoals, .ref nlaid, .ref nisTold, .int vfree, .ref ncells, .ref nindex, .ref nnear, .ref nnearCount, .ref npay, .ref ndone, .ref npile, .int vtop, .ref nnow, .ref nthen, .ref nchoice, .int vfound, .int vlength, .ref nplan, .ref ncosts, .ref npaid, .ref nafter, .ref nfar, .ref nmany, .ref nnext, .int vsort, .int vwhen, .int vone, .int vtwo]))]) [0] (by decide) rfl
              refine vp_callSi (W.runV (As := []) (rest := [.int (nI kz)]) ⟨hx, hb, hml, hown, hg⟩ (c_md_size l D cZ cI cJ cII na nwalls nstarts ngoals nlaid nisTold ncells nindex nnear nnearCount npay ndone npile nnow nthen nchoice nplan ncosts npaid nafter nfar nmany nnext (nI W0) (nI H0) (nI n) vfree vtop vfound vlength vsort vwhen vone vtwo H.size ) (cwV 0 hg gv_md_93 rfl rfl rfl (by decide +kernel) ⟨Nat.le_of_ble_eq_true rfl, Nat.le_of_ble_eq_true rfl⟩) ⟨mt_bl, va_recv (q0 := 0) (ci := 7) hK hP rfl rfl, mt_pr hX hPc hK hDc⟩ rfl rfl hl.1 rfl (lv_room (Nat.le_of_ble_eq_true rfl)) d_md_ways_89 ⟨Nat.le_of_ble_eq_true rfl, Nat.le_of_ble_eq_true rfl⟩) (fun r4 hr4 => ?_)
              have hr4 : r4 = (nI W0) * (nI H0) := hr4
              have hr4 : r4 = nI (W0 * H0) := hr4.trans (pk_mul W0 H0)
              subst hr4
              refine lv_icmp_ge hx hb d_md_ways_92 rfl (fun ga => ?_) (fun ga => ?_)
              ·
                have gbx : W0 * H0 ≤ kz := by rcases Nat.lt_or_ge kz (W0 * H0) with h | h; exact absurd ga (nI_ge (b := (W0 * H0)) h (by omega)); exact h
                have gke : kz = W0 * H0 := by omega
                refine lv_iconst (v := 0) hx hb d_md_ways_210 (by decide) ?_
                refine lv_istore hx hb d_md_ways_211 hl (by decide) rfl (fun ls hl => ?_)
                have hl : lv_has ls 6 [(4, .int 0), (3, .int (nI tz)), (0, .ref na), (1, .int (nI k)), (2, .int (nI cc))] := hl
                have hl := lv_sub hl [0, 1, 2, 3, 4] (l' := [(4, .int (nI 0)), (3, .int (nI tz)), (0, .ref na), (1, .int (nI k)), (2, .int (nI cc))]) rfl
                refine mt_loop (ι := Nat × (Nat → Int64)) (I := fun ix ls H locs => ((ix.1) ≤ W0 * H0) ∧ (∀ c, c < (ix.1) → (ix.2) c = q4 c) ∧ (∀ c, (ix.1) ≤ c → (ix.2) c = p3 c) ∧ lv_has ls 6 [(4, .int (nI (ix.1))), (3, .int (nI tz)), (0, .ref na), (1, .int (nI k)), (2, .int (nI cc))] ∧ va_P D kls [(na, .inr (7, [.int (nI W0), .int (nI H0), .ref nwalls, .int (nI n), .ref nstarts, .ref ngoals, .ref nlaid, .ref nisTold, .int vfree, .ref ncells, .ref nindex, .ref nnear, .ref nnearCount, .ref npay, .ref ndone, .ref npile, .int vtop, .ref nnow, .ref nthen, .ref nchoice, .int vfound, .int vlength, .ref nplan, .ref ncosts, .ref npaid, .ref nafter, .ref nfar, .ref nmany, .ref nnext, .int vsort, .int vwhen, .int vone, .int vtwo])), (nwalls, .inl (cZ, 25, .inl wf)), (nstarts, .inl (cI, 25, .inl sf)), (ngoals, .inl (cI, 25, .inl gf)), (nmany, .inl (cJ, 25, .inr (.inl (ix.2)))), (nnext, .inl (cJ, 25, .inr (.inl q4)))] H ∧ va_D A [(na, .inr (7, [.int (nI W0), .int (nI H0), .ref nwalls, .int (nI n), .ref nstarts, .ref ngoals, .ref nlaid, .ref nisTold, .int vfree, .ref ncells, .ref nindex, .ref nnear, .ref nnearCount, .ref npay, .ref ndone, .ref npile, .int vtop, .ref nnow, .ref nthen, .ref nchoice, .int vfound, .int vlength, .ref nplan, .ref ncosts, .ref npaid, .ref nafter, .ref nfar, .ref nmany, .ref nnext, .int vsort, .int vwhen, .int vone, .int vtwo])), (nwalls, .inl (cZ, 25, .inl wf)), (nstarts, .inl (cI, 25, .inl sf)), (ngoals, .inl (cI, 25, .inl gf)), (nmany, .inl (cJ, 25, .inr (.inl (ix.2)))), (nnext, .inl (cJ, 25, .inr (.inl q4)))] ∧ va_S A s.heap H locs) (μ := fun ix => W0 * H0 - (ix.1)) ?_ (0, p3) ls H _ ⟨Nat.zero_le _, fun c h => absurd h (Nat.not_lt_zero _), fun _ _ => rfl, hl, hP, hD, hS⟩
                clear hl hP hD hS
                intro i_e ls H locs ⟨hez, hp7, hp7b, hl, hP, hD, hS⟩ ih_e
                obtain ⟨ez, p7⟩ := i_e
                have hez : ez ≤ W0 * H0 := hez
                have hp7 : ∀ c, c < ez → p7 c = q4 c := hp7
                have hp7b : ∀ c, ez ≤ c → p7 c = p3 c := hp7b
                have hl : lv_has ls 6 [(4, .int (nI ez)), (3, .int (nI tz)), (0, .ref na), (1, .int (nI k)), (2, .int (nI cc))] := hl
                have hP : va_P D kls [(na, .inr (7, [.int (nI W0), .int (nI H0), .ref nwalls, .int (nI n), .ref nstarts, .ref ngoals, .ref nlaid, .ref nisTold, .int vfree, .ref ncells, .ref nindex, .ref nnear, .ref nnearCount, .ref npay, .ref ndone, .ref npile, .int vtop, .ref nnow, .ref nthen, .ref nchoice, .int vfound, .int vlength, .ref nplan, .ref ncosts, .ref npaid, .ref nafter, .ref nfar, .ref nmany, .ref nnext, .int vsort, .int vwhen, .int vone, .int vtwo])), (nwalls, .inl (cZ, 25, .inl wf)), (nstarts, .inl (cI, 25, .inl sf)), (ngoals, .inl (cI, 25, .inl gf)), (nmany, .inl (cJ, 25, .inr (.inl p7))), (nnext, .inl (cJ, 25, .inr (.inl q4)))] H := hP
                have hD : va_D A [(na, .inr (7, [.int (nI W0), .int (nI H0), .ref nwalls, .int (nI n), .ref nstarts, .ref ngoals, .ref nlaid, .ref nisTold, .int vfree, .ref ncells, .ref nindex, .ref nnear, .ref nnearCount, .ref npay, .ref ndone, .ref npile, .int vtop, .ref nnow, .ref nthen, .ref nchoice, .int vfound, .int vlength, .ref nplan, .ref ncosts, .ref npaid, .ref nafter, .ref nfar, .ref nmany, .ref nnext, .int vsort, .int vwhen, .int vone, .int vtwo])), (nwalls, .inl (cZ, 25, .inl wf)), (nstarts, .inl (cI, 25, .inl sf)), (ngoals, .inl (cI, 25, .inl gf)), (nmany, .inl (cJ, 25, .inr (.inl p7))), (nnext, .inl (cJ, 25, .inr (.inl q4)))] := hD
                refine lv_iload hx hb d_md_ways_213 (lv_at hl 0 rfl) ?_
                refine lv_aload_n hx hb d_md_ways_215 rfl (lv_at hl 2 rfl) ?_
                have hPc := hP.sub (ws' := [(na, .inr (7, [.int (nI W0), .int (nI H0), .ref nwalls, .int (nI n), .ref nstarts, .ref ngoals, .ref nlaid, .ref nisTold, .int vfree, .ref ncells, .ref nindex, .ref nnear, .ref nnearCount, .ref npay, .ref ndone, .ref npile, .int vtop, .ref nnow, .ref nthen, .ref nchoice, .int vfound, .int vlength, .ref nplan, .ref ncosts, .ref npaid, .ref nafter, .ref nfar, .ref nmany, .ref nnext, .int vsort, .int vwhen, .int vone, .int vtwo]))]) [0] rfl
                have hDc := hD.sub (ws' := [(na, .inr (7, [.int (nI W0), .int (nI H0), .ref nwalls, .int (nI n), .ref nstarts, .ref ngoals, .ref nlaid, .ref nisTold, .int vfree, .ref ncells, .ref nindex, .ref nnear, .ref nnearCount, .ref npay, .ref ndone, .ref npile, .int vtop, .ref nnow, .ref nthen, .ref nchoice, .int vfound, .int vlength, .ref nplan, .ref ncosts, .ref npaid, .ref nafter, .ref nfar, .ref nmany, .ref nnext, .int vsort, .int vwhen, .int vone, .int vtwo]))]) [0] (by decide) rfl
                refine vp_callSi (W.runV (As := []) (rest := [.int (nI ez)]) ⟨hx, hb, hml, hown, hg⟩ (c_md_size l D cZ cI cJ cII na nwalls nstarts ngoals nlaid nisTold ncells nindex nnear nnearCount npay ndone npile nnow nthen nchoice nplan ncosts npaid nafter nfar nmany nnext (nI W0) (nI H0) (nI n) vfree vtop vfound vlength vsort vwhen vone vtwo H.size ) (cwV 0 hg gv_md_93 rfl rfl rfl (by decide +kernel) ⟨Nat.le_of_ble_eq_true rfl, Nat.le_of_ble_eq_true rfl⟩) ⟨mt_bl, va_recv (q0 := 0) (ci := 7) hK hP rfl rfl, mt_pr hX hPc hK hDc⟩ rfl rfl hl.1 rfl (lv_room (Nat.le_of_ble_eq_true rfl)) d_md_ways_216 ⟨Nat.le_of_ble_eq_true rfl, Nat.le_of_ble_eq_true rfl⟩) (fun r5 hr5 => ?_)
                have hr5 : r5 = (nI W0) * (nI H0) := hr5
                have hr5 : r5 = nI (W0 * H0) := hr5.trans (pk_mul W0 H0)
                subst hr5
                refine lv_icmp_ge hx hb d_md_ways_219 rfl (fun gi => ?_) (fun gi => ?_)
                ·
                  have gjx : W0 * H0 ≤ ez := by rcases Nat.lt_or_ge ez (W0 * H0) with h | h; exact absurd gi (nI_ge (b := (W0 * H0)) h (by omega)); exact h
                  have hrd := wr_rd h1.2.2.2 (h5 k hk).2.1.1 (h5 k hk).2.2.2 hp3 (fun c9 h9 => hq4 c9 (by omega)) (fun c9 h9 => hp7 c9 (by omega)) (fun c9 h9 => hp7b c9 (by omega))
                  refine lv_iinc (k := 1) (v := nI (tz + 1)) hx hb d_md_ways_242 hl rfl ((nI_succ tz).symm) (by decide) rfl (fun ls hl => ?_)
                  have hl : lv_has ls 6 [(3, .int (nI (tz + 1))), (4, .int (nI ez)), (0, .ref na), (1, .int (nI k)), (2, .int (nI cc))] := hl
                  refine lv_goto hx hb d_md_ways_245 rfl ?_
                  have hl := lv_sub hl [0, 2, 3, 4] (l' := [(3, .int (nI (tz + 1))), (0, .ref na), (1, .int (nI k)), (2, .int (nI cc))]) rfl
                  exact ih_b (tz + 1, p7, q4) ls H _ (by show cc - (tz + 1) < cc - tz; omega) ⟨by show tz + 1 ≤ cc; omega, hrd.1, hrd.2, hl, hP, hD, hS⟩
                ·
                  have gjx : ez < W0 * H0 := by rcases Nat.lt_or_ge ez (W0 * H0) with h | h; exact h; exact absurd (nI_le (a := (W0 * H0)) h (by omega)) gi
                  refine lv_aload_n hx hb d_md_ways_222 rfl (lv_at hl 2 rfl) ?_
                  refine gf_md_79 hx hb hg hown hK hP 0 rfl rfl d_md_ways_223 ?_
                  refine lv_iload hx hb d_md_ways_226 (lv_at hl 0 rfl) ?_
                  refine lv_aload_n hx hb d_md_ways_228 rfl (lv_at hl 2 rfl) ?_
                  refine gf_md_83 hx hb hg hown hK hP 0 rfl rfl d_md_ways_229 ?_
                  refine lv_iload hx hb d_md_ways_232 (lv_at hl 0 rfl) ?_
                  refine va_lald hx hb hK hP 5 2 rfl rfl (vp_in_nI (show ez < 25 by omega) (by decide)) d_md_ways_234 ?_
                  refine lv_topl (fun y6 ey6 => ?_)
                  have ey6 : y6 = q4 ez := ey6.trans (by rw [nI_clamp (show ez < 2 ^ 31 by omega)])
                  subst ey6
                  refine lv_topl (fun x7 ex7 => ?_)
                  refine va_last hx hb hK hP hD hS 4 2 rfl rfl (vp_in_nI (show ez < 25 by omega) (by decide)) d_md_ways_235 (fun H locs hP hD hS => ?_)
                  rw [nI_clamp (show ez < 2 ^ 31 by omega)] at hP hD
                  have hP : va_P D kls [(na, .inr (7, [.int (nI W0), .int (nI H0), .ref nwalls, .int (nI n), .ref nstarts, .ref ngoals, .ref nlaid, .ref nisTold, .int vfree, .ref ncells, .ref nindex, .ref nnear, .ref nnearCount, .ref npay, .ref ndone, .ref npile, .int vtop, .ref nnow, .ref nthen, .ref nchoice, .int vfound, .int vlength, .ref nplan, .ref ncosts, .ref npaid, .ref nafter, .ref nfar, .ref nmany, .ref nnext, .int vsort, .int vwhen, .int vone, .int vtwo])), (nwalls, .inl (cZ, 25, .inl wf)), (nstarts, .inl (cI, 25, .inl sf)), (ngoals, .inl (cI, 25, .inl gf)), (nmany, .inl (cJ, 25, .inr (.inl (vp_updL p7 ez x7)))), (nnext, .inl (cJ, 25, .inr (.inl q4)))] H := hP
                  have hD : va_D A [(na, .inr (7, [.int (nI W0), .int (nI H0), .ref nwalls, .int (nI n), .ref nstarts, .ref ngoals, .ref nlaid, .ref nisTold, .int vfree, .ref ncells, .ref nindex, .ref nnear, .ref nnearCount, .ref npay, .ref ndone, .ref npile, .int vtop, .ref nnow, .ref nthen, .ref nchoice, .int vfound, .int vlength, .ref nplan, .ref ncosts, .ref npaid, .ref nafter, .ref nfar, .ref nmany, .ref nnext, .int vsort, .int vwhen, .int vone, .int vtwo])), (nwalls, .inl (cZ, 25, .inl wf)), (nstarts, .inl (cI, 25, .inl sf)), (ngoals, .inl (cI, 25, .inl gf)), (nmany, .inl (cJ, 25, .inr (.inl (vp_updL p7 ez x7)))), (nnext, .inl (cJ, 25, .inr (.inl q4)))] := hD
                  refine lv_iinc (k := 0) (v := nI (ez + 1)) hx hb d_md_ways_236 hl rfl ((nI_succ ez).symm) (by decide) rfl (fun ls hl => ?_)
                  have hl : lv_has ls 6 [(4, .int (nI (ez + 1))), (3, .int (nI tz)), (0, .ref na), (1, .int (nI k)), (2, .int (nI cc))] := hl
                  refine lv_goto hx hb d_md_ways_239 rfl ?_
                  have hl := lv_sub hl [0, 1, 2, 3, 4] (l' := [(4, .int (nI (ez + 1))), (3, .int (nI tz)), (0, .ref na), (1, .int (nI k)), (2, .int (nI cc))]) rfl
                  exact ih_e (ez + 1, vp_updL p7 ez x7) ls H _ (by show W0 * H0 - (ez + 1) < W0 * H0 - ez; omega) ⟨by show ez + 1 ≤ W0 * H0; omega, wr_up hp7 (by assumption), fun c9 h9 => (pk_uLn (show c9 ≠ ez by have : ez + 1 ≤ c9 := h9; omega)).trans (hp7b c9 (by have : ez + 1 ≤ c9 := h9; omega)), hl, hP, hD, hS⟩
              ·
                have gbx : kz < W0 * H0 := by rcases Nat.lt_or_ge kz (W0 * H0) with h | h; exact h; exact absurd (nI_le (a := (W0 * H0)) h (by omega)) ga
                refine mt_jp (pc := 123) (rest := []) (ι := (Nat → Int64)) (I := fun ix ls H locs => (∀ c, c < kz → ix c = if wf c = 0 then wr_sum W0 wf p3 c (W0 * H0) else 0) ∧ (wf kz = 0 → ix kz = p3 kz) ∧ (¬ wf kz = 0 → ix kz = 0) ∧ lv_has ls 6 [(4, .int (nI kz)), (3, .int (nI tz)), (0, .ref na), (1, .int (nI k)), (2, .int (nI cc))] ∧ va_P D kls [(na, .inr (7, [.int (nI W0), .int (nI H0), .ref nwalls, .int (nI n), .ref nstarts, .ref ngoals, .ref nlaid, .ref nisTold, .int vfree, .ref ncells, .ref nindex, .ref nnear, .ref nnearCount, .ref npay, .ref ndone, .ref npile, .int vtop, .ref nnow, .ref nthen, .ref nchoice, .int vfound, .int vlength, .ref nplan, .ref ncosts, .ref npaid, .ref nafter, .ref nfar, .ref nmany, .ref nnext, .int vsort, .int vwhen, .int vone, .int vtwo])), (nwalls, .inl (cZ, 25, .inl wf)), (nstarts, .inl (cI, 25, .inl sf)), (ngoals, .inl (cI, 25, .inl gf)), (nmany, .inl (cJ, 25, .inr (.inl p3))), (nnext, .inl (cJ, 25, .inr (.inl ix)))] H ∧ va_D A [(na, .inr (7, [.int (nI W0), .int (nI H0), .ref nwalls, .int (nI n), .ref nstarts, .ref ngoals, .ref nlaid, .ref nisTold, .int vfree, .ref ncells, .ref nindex, .ref nnear, .ref nnearCount, .ref npay, .ref ndone, .ref npile, .int vtop, .ref nnow, .ref nthen, .ref nchoice, .int vfound, .int vlength, .ref nplan, .ref ncosts, .ref npaid, .ref nafter, .ref nfar, .ref nmany, .ref nnext, .int vsort, .int vwhen, .int vone, .int vtwo])), (nwalls, .inl (cZ, 25, .inl wf)), (nstarts, .inl (cI, 25, .inl sf)), (ngoals, .inl (cI, 25, .inl gf)), (nmany, .inl (cJ, 25, .inr (.inl p3))), (nnext, .inl (cJ, 25, .inr (.inl ix)))] ∧ va_S A s.heap H locs) ?_ (fun jp_i => ?_)
                ·
                  clear hl hP hD hS
                  intro q5 ls H locs ⟨hq5, hq5a, hq5b, hl, hP, hD, hS⟩
                  have hq5 : ∀ c, c < kz → q5 c = if wf c = 0 then wr_sum W0 wf p3 c (W0 * H0) else 0 := hq5
                  have hq5a : wf kz = 0 → q5 kz = p3 kz := hq5a
                  have hq5b : ¬ wf kz = 0 → q5 kz = 0 := hq5b
                  have hl : lv_has ls 6 [(4, .int (nI kz)), (3, .int (nI tz)), (0, .ref na), (1, .int (nI k)), (2, .int (nI cc))] := hl
                  have hP : va_P D kls [(na, .inr (7, [.int (nI W0), .int (nI H0), .ref nwalls, .int (nI n), .ref nstarts, .ref ngoals, .ref nlaid, .ref nisTold, .int vfree, .ref ncells, .ref nindex, .ref nnear, .ref nnearCount, .ref npay, .ref ndone, .ref npile, .int vtop, .ref nnow, .ref nthen, .ref nchoice, .int vfound, .int vlength, .ref nplan, .ref ncosts, .ref npaid, .ref nafter, .ref nfar, .ref nmany, .ref nnext, .int vsort, .int vwhen, .int vone, .int vtwo])), (nwalls, .inl (cZ, 25, .inl wf)), (nstarts, .inl (cI, 25, .inl sf)), (ngoals, .inl (cI, 25, .inl gf)), (nmany, .inl (cJ, 25, .inr (.inl p3))), (nnext, .inl (cJ, 25, .inr (.inl q5)))] H := hP
                  have hD : va_D A [(na, .inr (7, [.int (nI W0), .int (nI H0), .ref nwalls, .int (nI n), .ref nstarts, .ref ngoals, .ref nlaid, .ref nisTold, .int vfree, .ref ncells, .ref nindex, .ref nnear, .ref nnearCount, .ref npay, .ref ndone, .ref npile, .int vtop, .ref nnow, .ref nthen, .ref nchoice, .int vfound, .int vlength, .ref nplan, .ref ncosts, .ref npaid, .ref nafter, .ref nfar, .ref nmany, .ref nnext, .int vsort, .int vwhen, .int vone, .int vtwo])), (nwalls, .inl (cZ, 25, .inl wf)), (nstarts, .inl (cI, 25, .inl sf)), (ngoals, .inl (cI, 25, .inl gf)), (nmany, .inl (cJ, 25, .inr (.inl p3))), (nnext, .inl (cJ, 25, .inr (.inl q5)))] := hD
                  refine lv_iconst (v := 0) hx hb d_md_ways_123 (by decide) ?_
                  refine lv_istore hx hb d_md_ways_124 hl (by decide) rfl (fun ls hl => ?_)
                  have hl : lv_has ls 6 [(5, .int 0), (4, .int (nI kz)), (3, .int (nI tz)), (0, .ref na), (1, .int (nI k)), (2, .int (nI cc))] := hl
                  have hl := lv_sub hl [0, 1, 2, 3, 4, 5] (l' := [(5, .int (nI 0)), (4, .int (nI kz)), (3, .int (nI tz)), (0, .ref na), (1, .int (nI k)), (2, .int (nI cc))]) rfl
                  refine mt_loop (ι := Nat × (Nat → Int64)) (I := fun ix ls H locs => ((ix.1) ≤ W0 * H0) ∧ (∀ c, c < kz → (ix.2) c = if wf c = 0 then wr_sum W0 wf p3 c (W0 * H0) else 0) ∧ (wf kz = 0 → (ix.2) kz = wr_sum W0 wf p3 kz (ix.1)) ∧ (¬ wf kz = 0 → (ix.2) kz = 0) ∧ lv_has ls 6 [(5, .int (nI (ix.1))), (4, .int (nI kz)), (3, .int (nI tz)), (0, .ref na), (1, .int (nI k)), (2, .int (nI cc))] ∧ va_P D kls [(na, .inr (7, [.int (nI W0), .int (nI H0), .ref nwalls, .int (nI n), .ref nstarts, .ref ngoals, .ref nlaid, .ref nisTold, .int vfree, .ref ncells, .ref nindex, .ref nnear, .ref nnearCount, .ref npay, .ref ndone, .ref npile, .int vtop, .ref nnow, .ref nthen, .ref nchoice, .int vfound, .int vlength, .ref nplan, .ref ncosts, .ref npaid, .ref nafter, .ref nfar, .ref nmany, .ref nnext, .int vsort, .int vwhen, .int vone, .int vtwo])), (nwalls, .inl (cZ, 25, .inl wf)), (nstarts, .inl (cI, 25, .inl sf)), (ngoals, .inl (cI, 25, .inl gf)), (nmany, .inl (cJ, 25, .inr (.inl p3))), (nnext, .inl (cJ, 25, .inr (.inl (ix.2))))] H ∧ va_D A [(na, .inr (7, [.int (nI W0), .int (nI H0), .ref nwalls, .int (nI n), .ref nstarts, .ref ngoals, .ref nlaid, .ref nisTold, .int vfree, .ref ncells, .ref nindex, .ref nnear, .ref nnearCount, .ref npay, .ref ndone, .ref npile, .int vtop, .ref nnow, .ref nthen, .ref nchoice, .int vfound, .int vlength, .ref nplan, .ref ncosts, .ref npaid, .ref nafter, .ref nfar, .ref nmany, .ref nnext, .int vsort, .int vwhen, .int vone, .int vtwo])), (nwalls, .inl (cZ, 25, .inl wf)), (nstarts, .inl (cI, 25, .inl sf)), (ngoals, .inl (cI, 25, .inl gf)), (nmany, .inl (cJ, 25, .inr (.inl p3))), (nnext, .inl (cJ, 25, .inr (.inl (ix.2))))] ∧ va_S A s.heap H locs) (μ := fun ix => W0 * H0 - (ix.1)) ?_ (0, q5) ls H _ ⟨Nat.zero_le _, hq5, hq5a, hq5b, hl, hP, hD, hS⟩
                  clear hl hP hD hS
                  intro i_d ls H locs ⟨hbz, hq6, hq6a, hq6b, hl, hP, hD, hS⟩ ih_d
                  obtain ⟨bz, q6⟩ := i_d
                  have hbz : bz ≤ W0 * H0 := hbz
                  have hq6 : ∀ c, c < kz → q6 c = if wf c = 0 then wr_sum W0 wf p3 c (W0 * H0) else 0 := hq6
                  have hq6a : wf kz = 0 → q6 kz = wr_sum W0 wf p3 kz bz := hq6a
                  have hq6b : ¬ wf kz = 0 → q6 kz = 0 := hq6b
                  have hl : lv_has ls 6 [(5, .int (nI bz)), (4, .int (nI kz)), (3, .int (nI tz)), (0, .ref na), (1, .int (nI k)), (2, .int (nI cc))] := hl
                  have hP : va_P D kls [(na, .inr (7, [.int (nI W0), .int (nI H0), .ref nwalls, .int (nI n), .ref nstarts, .ref ngoals, .ref nlaid, .ref nisTold, .int vfree, .ref ncells, .ref nindex, .ref nnear, .ref nnearCount, .ref npay, .ref ndone, .ref npile, .int vtop, .ref nnow, .ref nthen, .ref nchoice, .int vfound, .int vlength, .ref nplan, .ref ncosts, .ref npaid, .ref nafter, .ref nfar, .ref nmany, .ref nnext, .int vsort, .int vwhen, .int vone, .int vtwo])), (nwalls, .inl (cZ, 25, .inl wf)), (nstarts, .inl (cI, 25, .inl sf)), (ngoals, .inl (cI, 25, .inl gf)), (nmany, .inl (cJ, 25, .inr (.inl p3))), (nnext, .inl (cJ, 25, .inr (.inl q6)))] H := hP
                  have hD : va_D A [(na, .inr (7, [.int (nI W0), .int (nI H0), .ref nwalls, .int (nI n), .ref nstarts, .ref ngoals, .ref nlaid, .ref nisTold, .int vfree, .ref ncells, .ref nindex, .ref nnear, .ref nnearCount, .ref npay, .ref ndone, .ref npile, .int vtop, .ref nnow, .ref nthen, .ref nchoice, .int vfound, .int vlength, .ref nplan, .ref ncosts, .ref npaid, .ref nafter, .ref nfar, .ref nmany, .ref nnext, .int vsort, .int vwhen, .int vone, .int vtwo])), (nwalls, .inl (cZ, 25, .inl wf)), (nstarts, .inl (cI, 25, .inl sf)), (ngoals, .inl (cI, 25, .inl gf)), (nmany, .inl (cJ, 25, .inr (.inl p3))), (nnext, .inl (cJ, 25, .inr (.inl q6)))] := hD
                  refine lv_iload hx hb d_md_ways_126 (lv_at hl 0 rfl) ?_
                  refine lv_aload_n hx hb d_md_ways_128 rfl (lv_at hl 3 rfl) ?_
                  have hPc := hP.sub (ws' := [(na, .inr (7, [.int (nI W0), .int (nI H0), .ref nwalls, .int (nI n), .ref nstarts, .ref ngoals, .ref nlaid, .ref nisTold, .int vfree, .ref ncells, .ref nindex, .ref nnear, .ref nnearCount, .ref npay, .ref ndone, .ref npile, .int vtop, .ref nnow, .ref nthen, .ref nchoice, .int vfound, .int vlength, .ref nplan, .ref ncosts, .ref npaid, .ref nafter, .ref nfar, .ref nmany, .ref nnext, .int vsort, .int vwhen, .int vone, .int vtwo]))]) [0] rfl
                  have hDc := hD.sub (ws' := [(na, .inr (7, [.int (nI W0), .int (nI H0), .ref nwalls, .int (nI n), .ref nstarts, .ref ngoals, .ref nlaid, .ref nisTold, .int vfree, .ref ncells, .ref nindex, .ref nnear, .ref nnearCount, .ref npay, .ref ndone, .ref npile, .int vtop, .ref nnow, .ref nthen, .ref nchoice, .int vfound, .int vlength, .ref nplan, .ref ncosts, .ref npaid, .ref nafter, .ref nfar, .ref nmany, .ref nnext, .int vsort, .int vwhen, .int vone, .int vtwo]))]) [0] (by decide) rfl
                  refine vp_callSi (W.runV (As := []) (rest := [.int (nI bz)]) ⟨hx, hb, hml, hown, hg⟩ (c_md_size l D cZ cI cJ cII na nwalls nstarts ngoals nlaid nisTold ncells nindex nnear nnearCount npay ndone npile nnow nthen nchoice nplan ncosts npaid nafter nfar nmany nnext (nI W0) (nI H0) (nI n) vfree vtop vfound vlength vsort vwhen vone vtwo H.size ) (cwV 0 hg gv_md_93 rfl rfl rfl (by decide +kernel) ⟨Nat.le_of_ble_eq_true rfl, Nat.le_of_ble_eq_true rfl⟩) ⟨mt_bl, va_recv (q0 := 0) (ci := 7) hK hP rfl rfl, mt_pr hX hPc hK hDc⟩ rfl rfl hl.1 rfl (lv_room (Nat.le_of_ble_eq_true rfl)) d_md_ways_129 ⟨Nat.le_of_ble_eq_true rfl, Nat.le_of_ble_eq_true rfl⟩) (fun r8 hr8 => ?_)
                  have hr8 : r8 = (nI W0) * (nI H0) := hr8
                  have hr8 : r8 = nI (W0 * H0) := hr8.trans (pk_mul W0 H0)
                  subst hr8
                  refine lv_icmp_ge hx hb d_md_ways_132 rfl (fun gd => ?_) (fun gd => ?_)
                  ·
                    have gex : W0 * H0 ≤ bz := by rcases Nat.lt_or_ge bz (W0 * H0) with h | h; exact absurd gd (nI_ge (b := (W0 * H0)) h (by omega)); exact h
                    have gbe : bz = W0 * H0 := by omega
                    have hq9 : ∀ c, c < kz + 1 → q6 c = if wf c = 0 then wr_sum W0 wf p3 c (W0 * H0) else 0 := fun c9 h9 => (Nat.lt_or_ge c9 kz).elim (fun h => hq6 c9 h) (fun h => by
                      rw [show c9 = kz by omega]
                      by_cases q : wf kz = 0
                      · rw [if_pos q, hq6a q, gbe]
                      · rw [if_neg q, hq6b q])
                    refine lv_iinc (k := 1) (v := nI (kz + 1)) hx hb d_md_ways_204 hl rfl ((nI_succ kz).symm) (by decide) rfl (fun ls hl => ?_)
                    have hl : lv_has ls 6 [(4, .int (nI (kz + 1))), (5, .int (nI bz)), (3, .int (nI tz)), (0, .ref na), (1, .int (nI k)), (2, .int (nI cc))] := hl
                    refine lv_goto hx hb d_md_ways_207 rfl ?_
                    have hl := lv_sub hl [0, 2, 3, 4, 5] (l' := [(4, .int (nI (kz + 1))), (3, .int (nI tz)), (0, .ref na), (1, .int (nI k)), (2, .int (nI cc))]) rfl
                    exact ih_c (kz + 1, q6) ls H _ (by show W0 * H0 - (kz + 1) < W0 * H0 - kz; omega) ⟨by show kz + 1 ≤ W0 * H0; omega, hq9, hl, hP, hD, hS⟩
                  ·
                    have gex : bz < W0 * H0 := by rcases Nat.lt_or_ge bz (W0 * H0) with h | h; exact h; exact absurd (nI_le (a := (W0 * H0)) h (by omega)) gd
                    refine lv_aload_n hx hb d_md_ways_135 rfl (lv_at hl 3 rfl) ?_
                    refine gf_md_16 hx hb hg hown hK hP 0 rfl rfl d_md_ways_136 ?_
                    refine lv_iload hx hb d_md_ways_139 (lv_at hl 1 rfl) ?_
                    refine va_zald hx hb hK hP 1 0 rfl rfl (vp_in_nI (show kz < 25 by omega) (by decide)) d_md_ways_141 ?_
                    refine lv_topi (fun y9 ey9 => ?_)
                    have ey9 : y9 = wf kz := ey9.trans (by rw [nI_clamp (show kz < 2 ^ 31 by omega)])
                    subst ey9
                    refine lv_if_ne hx hb d_md_ways_142 rfl (fun gfx => ?_) (fun gfx => ?_)
                    ·
                      have hq9 : ∀ c, c < kz + 1 → q6 c = if wf c = 0 then wr_sum W0 wf p3 c (W0 * H0) else 0 := fun c9 h9 => (Nat.lt_or_ge c9 kz).elim (fun h => hq6 c9 h) (fun h => by
                        rw [show c9 = kz by omega, if_neg gfx, hq6b gfx])
                      refine lv_iinc (k := 1) (v := nI (kz + 1)) hx hb d_md_ways_204 hl rfl ((nI_succ kz).symm) (by decide) rfl (fun ls hl => ?_)
                      have hl : lv_has ls 6 [(4, .int (nI (kz + 1))), (5, .int (nI bz)), (3, .int (nI tz)), (0, .ref na), (1, .int (nI k)), (2, .int (nI cc))] := hl
                      refine lv_goto hx hb d_md_ways_207 rfl ?_
                      have hl := lv_sub hl [0, 2, 3, 4, 5] (l' := [(4, .int (nI (kz + 1))), (3, .int (nI tz)), (0, .ref na), (1, .int (nI k)), (2, .int (nI cc))]) rfl
                      exact ih_c (kz + 1, q6) ls H _ (by show W0 * H0 - (kz + 1) < W0 * H0 - kz; omega) ⟨by show kz + 1 ≤ W0 * H0; omega, hq9, hl, hP, hD, hS⟩
                    ·
                      refine lv_aload_n hx hb d_md_ways_145 rfl (lv_at hl 3 rfl) ?_
                      refine gf_md_83 hx hb hg hown hK hP 0 rfl rfl d_md_ways_146 ?_
                      refine lv_iload hx hb d_md_ways_149 (lv_at hl 1 rfl) ?_
                      refine lv_aload_n hx hb d_md_ways_151 rfl (lv_at hl 3 rfl) ?_
                      refine lv_iload hx hb d_md_ways_152 (lv_at hl 0 rfl) ?_
                      refine lv_iload hx hb d_md_ways_154 (lv_at hl 1 rfl) ?_
                      have hPc := hP.sub (ws' := [(na, .inr (7, [.int (nI W0), .int (nI H0), .ref nwalls, .int (nI n), .ref nstarts, .ref ngoals, .ref nlaid, .ref nisTold, .int vfree, .ref ncells, .ref nindex, .ref nnear, .ref nnearCount, .ref npay, .ref ndone, .ref npile, .int vtop, .ref nnow, .ref nthen, .ref nchoice, .int vfound, .int vlength, .ref nplan, .ref ncosts, .ref npaid, .ref nafter, .ref nfar, .ref nmany, .ref nnext, .int vsort, .int vwhen, .int vone, .int vtwo]))]) [0] rfl
                      have hDc := hD.sub (ws' := [(na, .inr (7, [.int (nI W0), .int (nI H0), .ref nwalls, .int (nI n), .ref nstarts, .ref ngoals, .ref nlaid, .ref nisTold, .int vfree, .ref ncells, .ref nindex, .ref nnear, .ref nnearCount, .ref npay, .ref ndone, .ref npile, .int vtop, .ref nnow, .ref nthen, .ref nchoice, .int vfound, .int vlength, .ref nplan, .ref ncosts, .ref npaid, .ref nafter, .ref nfar, .ref nmany, .ref nnext, .int vsort, .int vwhen, .int vone, .int vtwo]))]) [0] (by decide) rfl
                      refine vp_callSi (W.runV (As := [.int (nI bz), .int (nI kz)]) (rest := [.int (nI kz), .ref nnext]) ⟨hx, hb, hml, hown, hg⟩ (c_md_isBeside l D cZ cI cJ cII na nwalls nstarts ngoals nlaid nisTold ncells nindex nnear nnearCount npay ndone npile nnow nthen nchoice nplan ncosts npaid nafter nfar nmany nnext vfree vtop vfound vlength vsort vwhen vone vtwo _ _ _ bz kz H.size h1 (by omega) (by omega)) (cwV 2 hg gv_md_107 rfl rfl rfl (by decide +kernel) ⟨Nat.le_of_ble_eq_true rfl, Nat.le_of_ble_eq_true rfl⟩) ⟨mt_bl, va_recv (q0 := 0) (ci := 7) hK hP rfl rfl, mt_pr hX hPc hK hDc⟩ rfl rfl hl.1 rfl (lv_room (Nat.le_of_ble_eq_true rfl)) d_md_ways_156 ⟨Nat.le_of_ble_eq_true rfl, Nat.le_of_ble_eq_true rfl⟩) (fun r10 hr10 => ?_)
                      have hr10 : (r10 = 1 ∧ mv_bs W0 bz kz) ∨ (r10 = 0 ∧ ¬ mv_bs W0 bz kz) := hr10
                      have hbs := hr10
                      refine lv_if_eq hx hb d_md_ways_159 rfl (fun gg9 => ?_) (fun gg9 => ?_)
                      ·
                        have gnb : ¬ wr_b W0 bz kz := hbs.elim (fun q => absurd (q.1.symm.trans gg9) (by decide)) (fun q => q.2)
                        refine lv_aload_n hx hb d_md_ways_190 rfl (lv_at hl 3 rfl) ?_
                        refine gf_md_83 hx hb hg hown hK hP 0 rfl rfl d_md_ways_191 ?_
                        refine lv_iload hx hb d_md_ways_194 (lv_at hl 1 rfl) ?_
                        refine va_lald hx hb hK hP 5 2 rfl rfl (vp_in_nI (show kz < 25 by omega) (by decide)) d_md_ways_196 ?_
                        refine lv_topl (fun y11 ey11 => ?_)
                        have ey11 : y11 = q6 kz := ey11.trans (by rw [nI_clamp (show kz < 2 ^ 31 by omega)])
                        subst ey11
                        refine lv_topl (fun x12 ex12 => ?_)
                        refine va_last hx hb hK hP hD hS 5 2 rfl rfl (vp_in_nI (show kz < 25 by omega) (by decide)) d_md_ways_197 (fun H locs hP hD hS => ?_)
                        rw [nI_clamp (show kz < 2 ^ 31 by omega)] at hP hD
                        have hP : va_P D kls [(na, .inr (7, [.int (nI W0), .int (nI H0), .ref nwalls, .int (nI n), .ref nstarts, .ref ngoals, .ref nlaid, .ref nisTold, .int vfree, .ref ncells, .ref nindex, .ref nnear, .ref nnearCount, .ref npay, .ref ndone, .ref npile, .int vtop, .ref nnow, .ref nthen, .ref nchoice, .int vfound, .int vlength, .ref nplan, .ref ncosts, .ref npaid, .ref nafter, .ref nfar, .ref nmany, .ref nnext, .int vsort, .int vwhen, .int vone, .int vtwo])), (nwalls, .inl (cZ, 25, .inl wf)), (nstarts, .inl (cI, 25, .inl sf)), (ngoals, .inl (cI, 25, .inl gf)), (nmany, .inl (cJ, 25, .inr (.inl p3))), (nnext, .inl (cJ, 25, .inr (.inl (vp_updL q6 kz x12))))] H := hP
                        have hD : va_D A [(na, .inr (7, [.int (nI W0), .int (nI H0), .ref nwalls, .int (nI n), .ref nstarts, .ref ngoals, .ref nlaid, .ref nisTold, .int vfree, .ref ncells, .ref nindex, .ref nnear, .ref nnearCount, .ref npay, .ref ndone, .ref npile, .int vtop, .ref nnow, .ref nthen, .ref nchoice, .int vfound, .int vlength, .ref nplan, .ref ncosts, .ref npaid, .ref nafter, .ref nfar, .ref nmany, .ref nnext, .int vsort, .int vwhen, .int vone, .int vtwo])), (nwalls, .inl (cZ, 25, .inl wf)), (nstarts, .inl (cI, 25, .inl sf)), (ngoals, .inl (cI, 25, .inl gf)), (nmany, .inl (cJ, 25, .inr (.inl p3))), (nnext, .inl (cJ, 25, .inr (.inl (vp_updL q6 kz x12))))] := hD
                        refine lv_iinc (k := 0) (v := nI (bz + 1)) hx hb d_md_ways_198 hl rfl ((nI_succ bz).symm) (by decide) rfl (fun ls hl => ?_)
                        have hl : lv_has ls 6 [(5, .int (nI (bz + 1))), (4, .int (nI kz)), (3, .int (nI tz)), (0, .ref na), (1, .int (nI k)), (2, .int (nI cc))] := hl
                        refine lv_goto hx hb d_md_ways_201 rfl ?_
                        have hl := lv_sub hl [0, 1, 2, 3, 4, 5] (l' := [(5, .int (nI (bz + 1))), (4, .int (nI kz)), (3, .int (nI tz)), (0, .ref na), (1, .int (nI k)), (2, .int (nI cc))]) rfl
                        exact ih_d (bz + 1, vp_updL q6 kz x12) ls H _ (by show W0 * H0 - (bz + 1) < W0 * H0 - bz; omega) ⟨by show bz + 1 ≤ W0 * H0; omega, wr_kp hq6, fun q => pk_uLs.trans ((show _ = q6 kz by assumption).trans ((hq6a q).trans (wr_sum_n (fun z => gnb z.1)).symm)), fun q => absurd gfx q, hl, hP, hD, hS⟩
                      ·
                        have gnb : wr_b W0 bz kz := hbs.elim (fun q => q.2) (fun q => absurd q.1 gg9)
                        refine lv_aload_n hx hb d_md_ways_162 rfl (lv_at hl 3 rfl) ?_
                        refine gf_md_16 hx hb hg hown hK hP 0 rfl rfl d_md_ways_163 ?_
                        refine lv_iload hx hb d_md_ways_166 (lv_at hl 0 rfl) ?_
                        refine va_zald hx hb hK hP 1 0 rfl rfl (vp_in_nI (show bz < 25 by omega) (by decide)) d_md_ways_168 ?_
                        refine lv_topi (fun y13 ey13 => ?_)
                        have ey13 : y13 = wf bz := ey13.trans (by rw [nI_clamp (show bz < 2 ^ 31 by omega)])
                        subst ey13
                        refine lv_if_ne hx hb d_md_ways_169 rfl (fun gh => ?_) (fun gh => ?_)
                        ·
                          refine lv_aload_n hx hb d_md_ways_190 rfl (lv_at hl 3 rfl) ?_
                          refine gf_md_83 hx hb hg hown hK hP 0 rfl rfl d_md_ways_191 ?_
                          refine lv_iload hx hb d_md_ways_194 (lv_at hl 1 rfl) ?_
                          refine va_lald hx hb hK hP 5 2 rfl rfl (vp_in_nI (show kz < 25 by omega) (by decide)) d_md_ways_196 ?_
                          refine lv_topl (fun y14 ey14 => ?_)
                          have ey14 : y14 = q6 kz := ey14.trans (by rw [nI_clamp (show kz < 2 ^ 31 by omega)])
                          subst ey14
                          refine lv_topl (fun x15 ex15 => ?_)
                          refine va_last hx hb hK hP hD hS 5 2 rfl rfl (vp_in_nI (show kz < 25 by omega) (by decide)) d_md_ways_197 (fun H locs hP hD hS => ?_)
                          rw [nI_clamp (show kz < 2 ^ 31 by omega)] at hP hD
                          have hP : va_P D kls [(na, .inr (7, [.int (nI W0), .int (nI H0), .ref nwalls, .int (nI n), .ref nstarts, .ref ngoals, .ref nlaid, .ref nisTold, .int vfree, .ref ncells, .ref nindex, .ref nnear, .ref nnearCount, .ref npay, .ref ndone, .ref npile, .int vtop, .ref nnow, .ref nthen, .ref nchoice, .int vfound, .int vlength, .ref nplan, .ref ncosts, .ref npaid, .ref nafter, .ref nfar, .ref nmany, .ref nnext, .int vsort, .int vwhen, .int vone, .int vtwo])), (nwalls, .inl (cZ, 25, .inl wf)), (nstarts, .inl (cI, 25, .inl sf)), (ngoals, .inl (cI, 25, .inl gf)), (nmany, .inl (cJ, 25, .inr (.inl p3))), (nnext, .inl (cJ, 25, .inr (.inl (vp_updL q6 kz x15))))] H := hP
                          have hD : va_D A [(na, .inr (7, [.int (nI W0), .int (nI H0), .ref nwalls, .int (nI n), .ref nstarts, .ref ngoals, .ref nlaid, .ref nisTold, .int vfree, .ref ncells, .ref nindex, .ref nnear, .ref nnearCount, .ref npay, .ref ndone, .ref npile, .int vtop, .ref nnow, .ref nthen, .ref nchoice, .int vfound, .int vlength, .ref nplan, .ref ncosts, .ref npaid, .ref nafter, .ref nfar, .ref nmany, .ref nnext, .int vsort, .int vwhen, .int vone, .int vtwo])), (nwalls, .inl (cZ, 25, .inl wf)), (nstarts, .inl (cI, 25, .inl sf)), (ngoals, .inl (cI, 25, .inl gf)), (nmany, .inl (cJ, 25, .inr (.inl p3))), (nnext, .inl (cJ, 25, .inr (.inl (vp_updL q6 kz x15))))] := hD
                          refine lv_iinc (k := 0) (v := nI (bz + 1)) hx hb d_md_ways_198 hl rfl ((nI_succ bz).symm) (by decide) rfl (fun ls hl => ?_)
                          have hl : lv_has ls 6 [(5, .int (nI (bz + 1))), (4, .int (nI kz)), (3, .int (nI tz)), (0, .ref na), (1, .int (nI k)), (2, .int (nI cc))] := hl
                          refine lv_goto hx hb d_md_ways_201 rfl ?_
                          have hl := lv_sub hl [0, 1, 2, 3, 4, 5] (l' := [(5, .int (nI (bz + 1))), (4, .int (nI kz)), (3, .int (nI tz)), (0, .ref na), (1, .int (nI k)), (2, .int (nI cc))]) rfl
                          exact ih_d (bz + 1, vp_updL q6 kz x15) ls H _ (by show W0 * H0 - (bz + 1) < W0 * H0 - bz; omega) ⟨by show bz + 1 ≤ W0 * H0; omega, wr_kp hq6, fun q => pk_uLs.trans ((show _ = q6 kz by assumption).trans ((hq6a q).trans (wr_sum_n (fun z => gh z.2)).symm)), fun q => absurd gfx q, hl, hP, hD, hS⟩
                        ·
                          refine lv_aload_n hx hb d_md_ways_172 rfl (lv_at hl 3 rfl) ?_
                          refine gf_md_83 hx hb hg hown hK hP 0 rfl rfl d_md_ways_173 ?_
                          refine lv_iload hx hb d_md_ways_176 (lv_at hl 1 rfl) ?_
                          refine va_lald hx hb hK hP 5 2 rfl rfl (vp_in_nI (show kz < 25 by omega) (by decide)) d_md_ways_178 ?_
                          refine lv_topl (fun y16 ey16 => ?_)
                          have ey16 : y16 = q6 kz := ey16.trans (by rw [nI_clamp (show kz < 2 ^ 31 by omega)])
                          subst ey16
                          refine lv_aload_n hx hb d_md_ways_179 rfl (lv_at hl 3 rfl) ?_
                          refine gf_md_79 hx hb hg hown hK hP 0 rfl rfl d_md_ways_180 ?_
                          refine lv_iload hx hb d_md_ways_183 (lv_at hl 0 rfl) ?_
                          refine va_lald hx hb hK hP 4 2 rfl rfl (vp_in_nI (show bz < 25 by omega) (by decide)) d_md_ways_185 ?_
                          refine lv_topl (fun y17 ey17 => ?_)
                          have ey17 : y17 = p3 bz := ey17.trans (by rw [nI_clamp (show bz < 2 ^ 31 by omega)])
                          subst ey17
                          refine lv_ladd hx hb d_md_ways_186 ?_
                          refine lv_goto hx hb d_md_ways_187 rfl ?_
                          refine lv_topl (fun x18 ex18 => ?_)
                          refine va_last hx hb hK hP hD hS 5 2 rfl rfl (vp_in_nI (show kz < 25 by omega) (by decide)) d_md_ways_197 (fun H locs hP hD hS => ?_)
                          rw [nI_clamp (show kz < 2 ^ 31 by omega)] at hP hD
                          have hP : va_P D kls [(na, .inr (7, [.int (nI W0), .int (nI H0), .ref nwalls, .int (nI n), .ref nstarts, .ref ngoals, .ref nlaid, .ref nisTold, .int vfree, .ref ncells, .ref nindex, .ref nnear, .ref nnearCount, .ref npay, .ref ndone, .ref npile, .int vtop, .ref nnow, .ref nthen, .ref nchoice, .int vfound, .int vlength, .ref nplan, .ref ncosts, .ref npaid, .ref nafter, .ref nfar, .ref nmany, .ref nnext, .int vsort, .int vwhen, .int vone, .int vtwo])), (nwalls, .inl (cZ, 25, .inl wf)), (nstarts, .inl (cI, 25, .inl sf)), (ngoals, .inl (cI, 25, .inl gf)), (nmany, .inl (cJ, 25, .inr (.inl p3))), (nnext, .inl (cJ, 25, .inr (.inl (vp_updL q6 kz x18))))] H := hP
                          have hD : va_D A [(na, .inr (7, [.int (nI W0), .int (nI H0), .ref nwalls, .int (nI n), .ref nstarts, .ref ngoals, .ref nlaid, .ref nisTold, .int vfree, .ref ncells, .ref nindex, .ref nnear, .ref nnearCount, .ref npay, .ref ndone, .ref npile, .int vtop, .ref nnow, .ref nthen, .ref nchoice, .int vfound, .int vlength, .ref nplan, .ref ncosts, .ref npaid, .ref nafter, .ref nfar, .ref nmany, .ref nnext, .int vsort, .int vwhen, .int vone, .int vtwo])), (nwalls, .inl (cZ, 25, .inl wf)), (nstarts, .inl (cI, 25, .inl sf)), (ngoals, .inl (cI, 25, .inl gf)), (nmany, .inl (cJ, 25, .inr (.inl p3))), (nnext, .inl (cJ, 25, .inr (.inl (vp_updL q6 kz x18))))] := hD
                          refine lv_iinc (k := 0) (v := nI (bz + 1)) hx hb d_md_ways_198 hl rfl ((nI_succ bz).symm) (by decide) rfl (fun ls hl => ?_)
                          have hl : lv_has ls 6 [(5, .int (nI (bz + 1))), (4, .int (nI kz)), (3, .int (nI tz)), (0, .ref na), (1, .int (nI k)), (2, .int (nI cc))] := hl
                          refine lv_goto hx hb d_md_ways_201 rfl ?_
                          have hl := lv_sub hl [0, 1, 2, 3, 4, 5] (l' := [(5, .int (nI (bz + 1))), (4, .int (nI kz)), (3, .int (nI tz)), (0, .ref na), (1, .int (nI k)), (2, .int (nI cc))]) rfl
                          exact ih_d (bz + 1, vp_updL q6 kz x18) ls H _ (by show W0 * H0 - (bz + 1) < W0 * H0 - bz; omega) ⟨by show bz + 1 ≤ W0 * H0; omega, wr_kp hq6, fun q => pk_uLs.trans ((show _ = q6 kz + p3 bz by assumption).trans ((congrArg (fun v => v + p3 bz) (hq6a q)).trans (wr_sum_p ⟨gnb, gh⟩).symm)), fun q => absurd gfx q, hl, hP, hD, hS⟩
                ·
                  refine lv_aload_n hx hb d_md_ways_95 rfl (lv_at hl 2 rfl) ?_
                  refine gf_md_83 hx hb hg hown hK hP 0 rfl rfl d_md_ways_96 ?_
                  refine lv_iload hx hb d_md_ways_99 (lv_at hl 0 rfl) ?_
                  refine lv_aload_n hx hb d_md_ways_101 rfl (lv_at hl 2 rfl) ?_
                  refine gf_md_16 hx hb hg hown hK hP 0 rfl rfl d_md_ways_102 ?_
                  refine lv_iload hx hb d_md_ways_105 (lv_at hl 0 rfl) ?_
                  refine va_zald hx hb hK hP 1 0 rfl rfl (vp_in_nI (show kz < 25 by omega) (by decide)) d_md_ways_107 ?_
                  refine lv_topi (fun y19 ey19 => ?_)
                  have ey19 : y19 = wf kz := ey19.trans (by rw [nI_clamp (show kz < 2 ^ 31 by omega)])
                  subst ey19
                  refine lv_if_eq hx hb d_md_ways_108 rfl (fun gc => ?_) (fun gc => ?_)
                  ·
                    refine lv_aload_n hx hb d_md_ways_115 rfl (lv_at hl 2 rfl) ?_
                    refine gf_md_79 hx hb hg hown hK hP 0 rfl rfl d_md_ways_116 ?_
                    refine lv_iload hx hb d_md_ways_119 (lv_at hl 0 rfl) ?_
                    refine va_lald hx hb hK hP 4 2 rfl rfl (vp_in_nI (show kz < 25 by omega) (by decide)) d_md_ways_121 ?_
                    refine lv_topl (fun y20 ey20 => ?_)
                    have ey20 : y20 = p3 kz := ey20.trans (by rw [nI_clamp (show kz < 2 ^ 31 by omega)])
                    subst ey20
                    refine lv_topl (fun x21 ex21 => ?_)
                    refine va_last hx hb hK hP hD hS 5 2 rfl rfl (vp_in_nI (show kz < 25 by omega) (by decide)) d_md_ways_122 (fun H locs hP hD hS => ?_)
                    rw [nI_clamp (show kz < 2 ^ 31 by omega)] at hP hD
                    have hP : va_P D kls [(na, .inr (7, [.int (nI W0), .int (nI H0), .ref nwalls, .int (nI n), .ref nstarts, .ref ngoals, .ref nlaid, .ref nisTold, .int vfree, .ref ncells, .ref nindex, .ref nnear, .ref nnearCount, .ref npay, .ref ndone, .ref npile, .int vtop, .ref nnow, .ref nthen, .ref nchoice, .int vfound, .int vlength, .ref nplan, .ref ncosts, .ref npaid, .ref nafter, .ref nfar, .ref nmany, .ref nnext, .int vsort, .int vwhen, .int vone, .int vtwo])), (nwalls, .inl (cZ, 25, .inl wf)), (nstarts, .inl (cI, 25, .inl sf)), (ngoals, .inl (cI, 25, .inl gf)), (nmany, .inl (cJ, 25, .inr (.inl p3))), (nnext, .inl (cJ, 25, .inr (.inl (vp_updL q4 kz x21))))] H := hP
                    have hD : va_D A [(na, .inr (7, [.int (nI W0), .int (nI H0), .ref nwalls, .int (nI n), .ref nstarts, .ref ngoals, .ref nlaid, .ref nisTold, .int vfree, .ref ncells, .ref nindex, .ref nnear, .ref nnearCount, .ref npay, .ref ndone, .ref npile, .int vtop, .ref nnow, .ref nthen, .ref nchoice, .int vfound, .int vlength, .ref nplan, .ref ncosts, .ref npaid, .ref nafter, .ref nfar, .ref nmany, .ref nnext, .int vsort, .int vwhen, .int vone, .int vtwo])), (nwalls, .inl (cZ, 25, .inl wf)), (nstarts, .inl (cI, 25, .inl sf)), (ngoals, .inl (cI, 25, .inl gf)), (nmany, .inl (cJ, 25, .inr (.inl p3))), (nnext, .inl (cJ, 25, .inr (.inl (vp_updL q4 kz x21))))] := hD
                    have hl := lv_sub hl [0, 1, 2, 3, 4] (l' := [(4, .int (nI kz)), (3, .int (nI tz)), (0, .ref na), (1, .int (nI k)), (2, .int (nI cc))]) rfl
                    exact jp_i (vp_updL q4 kz x21) ls H _ ⟨wr_kp hq4, fun _ => pk_uLs.trans (by assumption), fun q => absurd gc q, hl, hP, hD, hS⟩
                  ·
                    refine lv_lconst (v := 0) hx hb d_md_ways_111 (by decide) ?_
                    refine lv_goto hx hb d_md_ways_112 rfl ?_
                    refine va_last hx hb hK hP hD hS 5 2 rfl rfl (vp_in_nI (show kz < 25 by omega) (by decide)) d_md_ways_122 (fun H locs hP hD hS => ?_)
                    rw [nI_clamp (show kz < 2 ^ 31 by omega)] at hP hD
                    have hP : va_P D kls [(na, .inr (7, [.int (nI W0), .int (nI H0), .ref nwalls, .int (nI n), .ref nstarts, .ref ngoals, .ref nlaid, .ref nisTold, .int vfree, .ref ncells, .ref nindex, .ref nnear, .ref nnearCount, .ref npay, .ref ndone, .ref npile, .int vtop, .ref nnow, .ref nthen, .ref nchoice, .int vfound, .int vlength, .ref nplan, .ref ncosts, .ref npaid, .ref nafter, .ref nfar, .ref nmany, .ref nnext, .int vsort, .int vwhen, .int vone, .int vtwo])), (nwalls, .inl (cZ, 25, .inl wf)), (nstarts, .inl (cI, 25, .inl sf)), (ngoals, .inl (cI, 25, .inl gf)), (nmany, .inl (cJ, 25, .inr (.inl p3))), (nnext, .inl (cJ, 25, .inr (.inl (vp_updL q4 kz 0))))] H := hP
                    have hD : va_D A [(na, .inr (7, [.int (nI W0), .int (nI H0), .ref nwalls, .int (nI n), .ref nstarts, .ref ngoals, .ref nlaid, .ref nisTold, .int vfree, .ref ncells, .ref nindex, .ref nnear, .ref nnearCount, .ref npay, .ref ndone, .ref npile, .int vtop, .ref nnow, .ref nthen, .ref nchoice, .int vfound, .int vlength, .ref nplan, .ref ncosts, .ref npaid, .ref nafter, .ref nfar, .ref nmany, .ref nnext, .int vsort, .int vwhen, .int vone, .int vtwo])), (nwalls, .inl (cZ, 25, .inl wf)), (nstarts, .inl (cI, 25, .inl sf)), (ngoals, .inl (cI, 25, .inl gf)), (nmany, .inl (cJ, 25, .inr (.inl p3))), (nnext, .inl (cJ, 25, .inr (.inl (vp_updL q4 kz 0))))] := hD
                    have hl := lv_sub hl [0, 1, 2, 3, 4] (l' := [(4, .int (nI kz)), (3, .int (nI tz)), (0, .ref na), (1, .int (nI k)), (2, .int (nI cc))]) rfl
                    exact jp_i (vp_updL q4 kz 0) ls H _ ⟨wr_kp hq4, fun q => absurd q gc, fun _ => pk_uLs, hl, hP, hD, hS⟩
            ·
              refine lv_iload_n hx hb d_md_ways_64 rfl (lv_at hl 0 rfl) ?_
              refine lv_iload_n hx hb d_md_ways_65 rfl (lv_at hl 3 rfl) ?_
              refine lv_iconst (v := 1) hx hb d_md_ways_66 (by decide) ?_
              refine lv_isub hx hb d_md_ways_67 ?_
              refine lv_topi (fun y22 ey22 => ?_)
              have ey22 : y22 = nI (cc - 1) := ey22.trans (pk_sub (b := 1) (by omega))
              subst ey22
              refine lv_icmp_ne hx hb d_md_ways_68 rfl (fun g9 => ?_) (fun g9 => ?_)
              ·
                have hl := lv_sub hl [0, 1, 2, 3] (l' := [(3, .int (nI tz)), (0, .ref na), (1, .int (nI k)), (2, .int (nI cc))]) rfl
                exact jp_j (p2, q2) ls H _ ⟨fun c9 h9 => by rw [if_neg (fun q => g9 (congrArg nI (show tz = cc - 1 by have := q.1; omega)))]; exact hp2 (Or.inl g8x) c9 h9, hl, hP, hD, hS⟩
              ·
                refine lv_aload_n hx hb d_md_ways_71 rfl (lv_at hl 1 rfl) ?_
                refine gf_md_79 hx hb hg hown hK hP 0 rfl rfl d_md_ways_72 ?_
                refine lv_aload_n hx hb d_md_ways_75 rfl (lv_at hl 1 rfl) ?_
                refine gf_md_24 hx hb hg hown hK hP 0 rfl rfl d_md_ways_76 ?_
                refine lv_iload_n hx hb d_md_ways_79 rfl (lv_at hl 2 rfl) ?_
                refine va_iald hx hb hK hP 3 1 rfl rfl (vp_in_nI (show k < 25 by omega) (by decide)) d_md_ways_80 ?_
                refine lv_topi (fun y23 ey23 => ?_)
                have ey23 : y23 = nI (gl k) := ey23.trans (by rw [nI_clamp (show k < 2 ^ 31 by omega)]; exact (h5 k hk).2.2.1)
                subst ey23
                refine lv_lconst (v := 0) hx hb d_md_ways_81 (by decide) ?_
                refine va_last hx hb hK hP hD hS 4 2 rfl rfl (vp_in_nI (show gl k < 25 by omega) (by decide)) d_md_ways_82 (fun H locs hP hD hS => ?_)
                rw [nI_clamp (show gl k < 2 ^ 31 by omega)] at hP hD
                have hP : va_P D kls [(na, .inr (7, [.int (nI W0), .int (nI H0), .ref nwalls, .int (nI n), .ref nstarts, .ref ngoals, .ref nlaid, .ref nisTold, .int vfree, .ref ncells, .ref nindex, .ref nnear, .ref nnearCount, .ref npay, .ref ndone, .ref npile, .int vtop, .ref nnow, .ref nthen, .ref nchoice, .int vfound, .int vlength, .ref nplan, .ref ncosts, .ref npaid, .ref nafter, .ref nfar, .ref nmany, .ref nnext, .int vsort, .int vwhen, .int vone, .int vtwo])), (nwalls, .inl (cZ, 25, .inl wf)), (nstarts, .inl (cI, 25, .inl sf)), (ngoals, .inl (cI, 25, .inl gf)), (nmany, .inl (cJ, 25, .inr (.inl (vp_updL p2 (gl k) 0)))), (nnext, .inl (cJ, 25, .inr (.inl q2)))] H := hP
                have hD : va_D A [(na, .inr (7, [.int (nI W0), .int (nI H0), .ref nwalls, .int (nI n), .ref nstarts, .ref ngoals, .ref nlaid, .ref nisTold, .int vfree, .ref ncells, .ref nindex, .ref nnear, .ref nnearCount, .ref npay, .ref ndone, .ref npile, .int vtop, .ref nnow, .ref nthen, .ref nchoice, .int vfound, .int vlength, .ref nplan, .ref ncosts, .ref npaid, .ref nafter, .ref nfar, .ref nmany, .ref nnext, .int vsort, .int vwhen, .int vone, .int vtwo])), (nwalls, .inl (cZ, 25, .inl wf)), (nstarts, .inl (cI, 25, .inl sf)), (ngoals, .inl (cI, 25, .inl gf)), (nmany, .inl (cJ, 25, .inr (.inl (vp_updL p2 (gl k) 0)))), (nnext, .inl (cJ, 25, .inr (.inl q2)))] := hD
                have hl := lv_sub hl [0, 1, 2, 3] (l' := [(3, .int (nI tz)), (0, .ref na), (1, .int (nI k)), (2, .int (nI cc))]) rfl
                exact jp_j (vp_updL p2 (gl k) 0, q2) ls H _ ⟨wr_z (by have := (nI_eq (by omega) (by omega)).mp g9; omega) (hp2 (Or.inl g8x)), hl, hP, hD, hS⟩
        ·
          have g5x : z < 25 := by rcases Nat.lt_or_ge z 25 with h | h; exact h; exact absurd (nI_le (a := 25) h (by omega)) g4
          refine lv_aload_n hx hb d_md_ways_30 rfl (lv_at hl 1 rfl) ?_
          refine gf_md_79 hx hb hg hown hK hP 0 rfl rfl d_md_ways_31 ?_
          refine lv_iload_n hx hb d_md_ways_34 rfl (lv_at hl 0 rfl) ?_
          refine lv_iload_n hx hb d_md_ways_35 rfl (lv_at hl 0 rfl) ?_
          refine lv_aload_n hx hb d_md_ways_36 rfl (lv_at hl 1 rfl) ?_
          refine gf_md_20 hx hb hg hown hK hP 0 rfl rfl d_md_ways_37 ?_
          refine lv_iload_n hx hb d_md_ways_40 rfl (lv_at hl 2 rfl) ?_
          refine va_iald hx hb hK hP 2 1 rfl rfl (vp_in_nI (show k < 25 by omega) (by decide)) d_md_ways_41 ?_
          refine lv_topi (fun y24 ey24 => ?_)
          have ey24 : y24 = nI (sp k) := ey24.trans (by rw [nI_clamp (show k < 2 ^ 31 by omega)]; exact (h5 k hk).1)
          subst ey24
          refine lv_icmp_ne hx hb d_md_ways_42 rfl (fun g6 => ?_) (fun g6 => ?_)
          ·
            refine lv_lconst (v := 0) hx hb d_md_ways_49 (by decide) ?_
            refine va_last hx hb hK hP hD hS 4 2 rfl rfl (vp_in_nI (show z < 25 by omega) (by decide)) d_md_ways_50 (fun H locs hP hD hS => ?_)
            rw [nI_clamp (show z < 2 ^ 31 by omega)] at hP hD
            have hP : va_P D kls [(na, .inr (7, [.int (nI W0), .int (nI H0), .ref nwalls, .int (nI n), .ref nstarts, .ref ngoals, .ref nlaid, .ref nisTold, .int vfree, .ref ncells, .ref nindex, .ref nnear, .ref nnearCount, .ref npay, .ref ndone, .ref npile, .int vtop, .ref nnow, .ref nthen, .ref nchoice, .int vfound, .int vlength, .ref nplan, .ref ncosts, .ref npaid, .ref nafter, .ref nfar, .ref nmany, .ref nnext, .int vsort, .int vwhen, .int vone, .int vtwo])), (nwalls, .inl (cZ, 25, .inl wf)), (nstarts, .inl (cI, 25, .inl sf)), (ngoals, .inl (cI, 25, .inl gf)), (nmany, .inl (cJ, 25, .inr (.inl (vp_updL p1 z 0)))), (nnext, .inl (cJ, 25, .inr (.inl k2)))] H := hP
            have hD : va_D A [(na, .inr (7, [.int (nI W0), .int (nI H0), .ref nwalls, .int (nI n), .ref nstarts, .ref ngoals, .ref nlaid, .ref nisTold, .int vfree, .ref ncells, .ref nindex, .ref nnear, .ref nnearCount, .ref npay, .ref ndone, .ref npile, .int vtop, .ref nnow, .ref nthen, .ref nchoice, .int vfound, .int vlength, .ref nplan, .ref ncosts, .ref npaid, .ref nafter, .ref nfar, .ref nmany, .ref nnext, .int vsort, .int vwhen, .int vone, .int vtwo])), (nwalls, .inl (cZ, 25, .inl wf)), (nstarts, .inl (cI, 25, .inl sf)), (ngoals, .inl (cI, 25, .inl gf)), (nmany, .inl (cJ, 25, .inr (.inl (vp_updL p1 z 0)))), (nnext, .inl (cJ, 25, .inr (.inl k2)))] := hD
            refine lv_iinc (k := 0) (v := nI (z + 1)) hx hb d_md_ways_51 hl rfl ((nI_succ z).symm) (by decide) rfl (fun ls hl => ?_)
            have hl : lv_has ls 6 [(3, .int (nI (z + 1))), (0, .ref na), (1, .int (nI k)), (2, .int (nI cc))] := hl
            refine lv_goto hx hb d_md_ways_54 rfl ?_
            have hl := lv_sub hl [0, 1, 2, 3] (l' := [(3, .int (nI (z + 1))), (0, .ref na), (1, .int (nI k)), (2, .int (nI cc))]) rfl
            exact ih_a (z + 1, vp_updL p1 z 0) ls H _ (by show 25 - (z + 1) < 25 - z; omega) ⟨by show z + 1 ≤ 25; omega, wr_up hp1 (by rw [if_neg (fun q => g6 (by rw [q]))]), hl, hP, hD, hS⟩
          ·
            refine lv_lconst (v := 1) hx hb d_md_ways_45 (by decide) ?_
            refine lv_goto hx hb d_md_ways_46 rfl ?_
            refine va_last hx hb hK hP hD hS 4 2 rfl rfl (vp_in_nI (show z < 25 by omega) (by decide)) d_md_ways_50 (fun H locs hP hD hS => ?_)
            rw [nI_clamp (show z < 2 ^ 31 by omega)] at hP hD
            have hP : va_P D kls [(na, .inr (7, [.int (nI W0), .int (nI H0), .ref nwalls, .int (nI n), .ref nstarts, .ref ngoals, .ref nlaid, .ref nisTold, .int vfree, .ref ncells, .ref nindex, .ref nnear, .ref nnearCount, .ref npay, .ref ndone, .ref npile, .int vtop, .ref nnow, .ref nthen, .ref nchoice, .int vfound, .int vlength, .ref nplan, .ref ncosts, .ref npaid, .ref nafter, .ref nfar, .ref nmany, .ref nnext, .int vsort, .int vwhen, .int vone, .int vtwo])), (nwalls, .inl (cZ, 25, .inl wf)), (nstarts, .inl (cI, 25, .inl sf)), (ngoals, .inl (cI, 25, .inl gf)), (nmany, .inl (cJ, 25, .inr (.inl (vp_updL p1 z 1)))), (nnext, .inl (cJ, 25, .inr (.inl k2)))] H := hP
            have hD : va_D A [(na, .inr (7, [.int (nI W0), .int (nI H0), .ref nwalls, .int (nI n), .ref nstarts, .ref ngoals, .ref nlaid, .ref nisTold, .int vfree, .ref ncells, .ref nindex, .ref nnear, .ref nnearCount, .ref npay, .ref ndone, .ref npile, .int vtop, .ref nnow, .ref nthen, .ref nchoice, .int vfound, .int vlength, .ref nplan, .ref ncosts, .ref npaid, .ref nafter, .ref nfar, .ref nmany, .ref nnext, .int vsort, .int vwhen, .int vone, .int vtwo])), (nwalls, .inl (cZ, 25, .inl wf)), (nstarts, .inl (cI, 25, .inl sf)), (ngoals, .inl (cI, 25, .inl gf)), (nmany, .inl (cJ, 25, .inr (.inl (vp_updL p1 z 1)))), (nnext, .inl (cJ, 25, .inr (.inl k2)))] := hD
            refine lv_iinc (k := 0) (v := nI (z + 1)) hx hb d_md_ways_51 hl rfl ((nI_succ z).symm) (by decide) rfl (fun ls hl => ?_)
            have hl : lv_has ls 6 [(3, .int (nI (z + 1))), (0, .ref na), (1, .int (nI k)), (2, .int (nI cc))] := hl
            refine lv_goto hx hb d_md_ways_54 rfl ?_
            have hl := lv_sub hl [0, 1, 2, 3] (l' := [(3, .int (nI (z + 1))), (0, .ref na), (1, .int (nI k)), (2, .int (nI cc))]) rfl
            exact ih_a (z + 1, vp_updL p1 z 1) ls H _ (by show 25 - (z + 1) < 25 - z; omega) ⟨by show z + 1 ≤ 25; omega, wr_up hp1 (by rw [if_pos ((nI_eq (by omega) (by omega)).mp g6)]), hl, hP, hD, hS⟩
      ·
        refine lv_ldc2 hx hb hown (hg _ gx_md_118) d_md_ways_18 ?_
        have hP9 := hP
        have hD9 := hD
        exact W.lret hx hb hr (fun t ht hW => ⟨⟨(-1), (k1, k2), rfl, ⟨Or.inl ⟨rfl, wa_n2 (Or.inr (Int32.not_le.mp g3))⟩, trivial⟩, by rw [ht]; exact hP9, hD9⟩, hS.F ht⟩) hS.2.2 d_md_ways_21
