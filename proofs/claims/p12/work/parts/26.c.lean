set_option maxHeartbeats 4000000 in
set_option maxRecDepth 100000 in
theorem c_md_room (l : Launch) (D : va_G) (cZ cI cJ cII : ClassId) (na : Nat) (nwalls : Nat) (nstarts : Nat) (ngoals : Nat) (nlaid : Nat) (nisTold : Nat) (ncells : Nat) (nindex : Nat) (nnear : Nat) (nnearCount : Nat) (npay : Nat) (ndone : Nat) (npile : Nat) (nnow : Nat) (nthen : Nat) (nchoice : Nat) (nplan : Nat) (ncosts : Nat) (npaid : Nat) (nafter : Nat) (nfar : Nat) (nmany : Nat) (nnext : Nat) (vfree : Int32) (vtop : Int32) (vfound : Int32) (vlength : Int32) (vsort : Int32) (vwhen : Int32) (vone : Int32) (vtwo : Int32) (W0 : Nat) (H0 : Nat) (n : Nat) (wf : Nat → Int32) (sf : Nat → Int32) (gf : Nat → Int32) (of : Nat → Int32) (x : Int32) (y : Int32) (sz : Nat) (hI : mv_I W0 H0 n wf sf gf vfound vlength) : Met l y_md_room w_md_room ({ frames := 1, cells := 0, slots := 0, locals := 40 }) (va_Pc [.ref na, .int x, .int y] (mt_B D [(cZ, .boolean), (cI, .int), (cJ, .long), (cII, .array .int)] [(na, .inr (7, [.int (nI W0), .int (nI H0), .ref nwalls, .int (nI n), .ref nstarts, .ref ngoals, .ref nlaid, .ref nisTold, .int vfree, .ref ncells, .ref nindex, .ref nnear, .ref nnearCount, .ref npay, .ref ndone, .ref npile, .int vtop, .ref nnow, .ref nthen, .ref nchoice, .int vfound, .int vlength, .ref nplan, .ref ncosts, .ref npaid, .ref nafter, .ref nfar, .ref nmany, .ref nnext, .int vsort, .int vwhen, .int vone, .int vtwo])), (nwalls, .inl (cZ, 25, .inl wf)), (nisTold, .inl (cZ, 180, .inl of))] sz)) ((fun A => va_Qi (fun (r : Int32) (u : Nat × Nat × Nat × (Nat → Int32) × (Nat → Int32) × Int32) => ((r = -1 ∧ rm_B x y) ∨ (r = x * y ∧ ¬ rm_B x y)) ∧ ((mv_I (u.1) (u.2.1) (u.2.2.1) (u.2.2.2.1) sf gf (u.2.2.2.2.2) vlength) ∧ ((rm_B x y ∧ (u.1) = W0 ∧ (u.2.1) = H0 ∧ (u.2.2.1) = n ∧ (u.2.2.2.1) = wf ∧ (u.2.2.2.2.1) = of) ∨ (¬ rm_B x y ∧ x = nI (u.1) ∧ y = nI (u.2.1) ∧ (u.2.2.1) = 0 ∧ (∀ j, j < 25 → (u.2.2.2.1) j = 0) ∧ ∀ j, j < 180 → (u.2.2.2.2.1) j = 0)))) (fun (u : Nat × Nat × Nat × (Nat → Int32) × (Nat → Int32) × Int32) (t : State) => mt_O D A [(na, .inr (7, [.int (nI (u.1)), .int (nI (u.2.1)), .ref nwalls, .int (nI (u.2.2.1)), .ref nstarts, .ref ngoals, .ref nlaid, .ref nisTold, .int vfree, .ref ncells, .ref nindex, .ref nnear, .ref nnearCount, .ref npay, .ref ndone, .ref npile, .int vtop, .ref nnow, .ref nthen, .ref nchoice, .int (u.2.2.2.2.2), .int vlength, .ref nplan, .ref ncosts, .ref npaid, .ref nafter, .ref nfar, .ref nmany, .ref nnext, .int vsort, .int vwhen, .int vone, .int vtwo])), (nwalls, .inl (cZ, 25, .inl (u.2.2.2.1))), (nisTold, .inl (cZ, 180, .inl (u.2.2.2.2.1)))] t) A) (va_A [(na, .inr (7, [.int (nI W0), .int (nI H0), .ref nwalls, .int (nI n), .ref nstarts, .ref ngoals, .ref nlaid, .ref nisTold, .int vfree, .ref ncells, .ref nindex, .ref nnear, .ref nnearCount, .ref npay, .ref ndone, .ref npile, .int vtop, .ref nnow, .ref nthen, .ref nchoice, .int vfound, .int vlength, .ref nplan, .ref ncosts, .ref npaid, .ref nafter, .ref nfar, .ref nmany, .ref nnext, .int vsort, .int vwhen, .int vone, .int vtwo])), (nwalls, .inl (cZ, 25, .inl wf)), (nisTold, .inl (cZ, 180, .inl of))] sz)) 0 0 (va_A [(na, .inr (7, [.int (nI W0), .int (nI H0), .ref nwalls, .int (nI n), .ref nstarts, .ref ngoals, .ref nlaid, .ref nisTold, .int vfree, .ref ncells, .ref nindex, .ref nnear, .ref nnearCount, .ref npay, .ref ndone, .ref npile, .int vtop, .ref nnow, .ref nthen, .ref nchoice, .int vfound, .int vlength, .ref nplan, .ref ncosts, .ref npaid, .ref nafter, .ref nfar, .ref nmany, .ref nnext, .int vsort, .int vwhen, .int vone, .int vtwo])), (nwalls, .inl (cZ, 25, .inl wf)), (nisTold, .inl (cZ, 180, .inl of))] sz) := by
  refine mt_of (y := y_md_room) (n := 4) (av := [.ref na, .int x, .int y]) (QF := (fun A => va_Qi (fun (r : Int32) (u : Nat × Nat × Nat × (Nat → Int32) × (Nat → Int32) × Int32) => ((r = -1 ∧ rm_B x y) ∨ (r = x * y ∧ ¬ rm_B x y)) ∧ ((mv_I (u.1) (u.2.1) (u.2.2.1) (u.2.2.2.1) sf gf (u.2.2.2.2.2) vlength) ∧ ((rm_B x y ∧ (u.1) = W0 ∧ (u.2.1) = H0 ∧ (u.2.2.1) = n ∧ (u.2.2.2.1) = wf ∧ (u.2.2.2.2.1) = of) ∨ (¬ rm_B x y ∧ x = nI (u.1) ∧ y = nI (u.2.1) ∧ (u.2.2.1) = 0 ∧ (∀ j, j < 25 → (u.2.2.2.1) j = 0) ∧ ∀ j, j < 180 → (u.2.2.2.2.1) j = 0)))) (fun (u : Nat × Nat × Nat × (Nat → Int32) × (Nat → Int32) × Int32) (t : State) => mt_O D A [(na, .inr (7, [.int (nI (u.1)), .int (nI (u.2.1)), .ref nwalls, .int (nI (u.2.2.1)), .ref nstarts, .ref ngoals, .ref nlaid, .ref nisTold, .int vfree, .ref ncells, .ref nindex, .ref nnear, .ref nnearCount, .ref npay, .ref ndone, .ref npile, .int vtop, .ref nnow, .ref nthen, .ref nchoice, .int (u.2.2.2.2.2), .int vlength, .ref nplan, .ref ncosts, .ref npaid, .ref nafter, .ref nfar, .ref nmany, .ref nnext, .int vsort, .int vwhen, .int vone, .int vtwo])), (nwalls, .inl (cZ, 25, .inl (u.2.2.2.1))), (nisTold, .inl (cZ, 180, .inl (u.2.2.2.2.1)))] t) A)) (by decide) (Nat.le_of_ble_eq_true rfl) ?_
  intro p e s m below meth c ls A hx hb hr hlk hml hown hnm hg hl hX hP hK hD hA hS
  obtain ⟨H, hH⟩ : ∃ H : Heap, H = s.heap := ⟨_, rfl⟩
  have hS : va_S A s.heap H [] := by rw [hH]; exact va_S.rf
  rw [← hH] at hP ⊢
  have hown : s.vm.findClass R_md = some m.cls := hown
  have hl : lv_has ls 4 [(0, .ref na), (1, .int x), (2, .int y)] := hl
  refine lv_iload_n hx hb d_md_room_0 rfl (lv_at hl 1 rfl) ?_
  refine lv_iconst (v := 1) hx hb d_md_room_1 (by decide) ?_
  refine lv_icmp_lt hx hb d_md_room_2 rfl (fun g1 => ?_) (fun g1 => ?_)
  ·
    refine lv_iconst (v := (-1)) hx hb d_md_room_30 (by decide) ?_
    have hP9 := hP
    have hD9 := hD
    exact W.iret hx hb hr (fun t ht hW => ⟨⟨(-1), (W0, H0, n, wf, of, vfound), rfl, ⟨Or.inl ⟨rfl, Or.inl g1⟩, hI, Or.inl ⟨Or.inl g1, rfl, rfl, rfl, rfl, rfl⟩⟩, by rw [ht]; exact hP9, hD9⟩, hS.F ht⟩) hS.2.2 d_md_room_31
  ·
    refine lv_iload_n hx hb d_md_room_5 rfl (lv_at hl 1 rfl) ?_
    refine lv_bipush (v := 6) hx hb d_md_room_6 (by decide) ?_
    refine lv_icmp_gt hx hb d_md_room_8 rfl (fun g2 => ?_) (fun g2 => ?_)
    ·
      refine lv_iconst (v := (-1)) hx hb d_md_room_30 (by decide) ?_
      have hP9 := hP
      have hD9 := hD
      exact W.iret hx hb hr (fun t ht hW => ⟨⟨(-1), (W0, H0, n, wf, of, vfound), rfl, ⟨Or.inl ⟨rfl, Or.inr (Or.inl g2)⟩, hI, Or.inl ⟨Or.inr (Or.inl g2), rfl, rfl, rfl, rfl, rfl⟩⟩, by rw [ht]; exact hP9, hD9⟩, hS.F ht⟩) hS.2.2 d_md_room_31
    ·
      refine lv_iload_n hx hb d_md_room_11 rfl (lv_at hl 2 rfl) ?_
      refine lv_iconst (v := 1) hx hb d_md_room_12 (by decide) ?_
      refine lv_icmp_lt hx hb d_md_room_13 rfl (fun g3 => ?_) (fun g3 => ?_)
      ·
        refine lv_iconst (v := (-1)) hx hb d_md_room_30 (by decide) ?_
        have hP9 := hP
        have hD9 := hD
        exact W.iret hx hb hr (fun t ht hW => ⟨⟨(-1), (W0, H0, n, wf, of, vfound), rfl, ⟨Or.inl ⟨rfl, Or.inr (Or.inr (Or.inl g3))⟩, hI, Or.inl ⟨Or.inr (Or.inr (Or.inl g3)), rfl, rfl, rfl, rfl, rfl⟩⟩, by rw [ht]; exact hP9, hD9⟩, hS.F ht⟩) hS.2.2 d_md_room_31
      ·
        refine lv_iload_n hx hb d_md_room_16 rfl (lv_at hl 2 rfl) ?_
        refine lv_bipush (v := 6) hx hb d_md_room_17 (by decide) ?_
        refine lv_icmp_gt hx hb d_md_room_19 rfl (fun g4 => ?_) (fun g4 => ?_)
        ·
          refine lv_iconst (v := (-1)) hx hb d_md_room_30 (by decide) ?_
          have hP9 := hP
          have hD9 := hD
          exact W.iret hx hb hr (fun t ht hW => ⟨⟨(-1), (W0, H0, n, wf, of, vfound), rfl, ⟨Or.inl ⟨rfl, Or.inr (Or.inr (Or.inr (Or.inl g4)))⟩, hI, Or.inl ⟨Or.inr (Or.inr (Or.inr (Or.inl g4))), rfl, rfl, rfl, rfl, rfl⟩⟩, by rw [ht]; exact hP9, hD9⟩, hS.F ht⟩) hS.2.2 d_md_room_31
        ·
          refine lv_iload_n hx hb d_md_room_22 rfl (lv_at hl 1 rfl) ?_
          refine lv_iload_n hx hb d_md_room_23 rfl (lv_at hl 2 rfl) ?_
          refine lv_imul hx hb d_md_room_24 ?_
          refine lv_bipush (v := 25) hx hb d_md_room_25 (by decide) ?_
          refine lv_icmp_le hx hb d_md_room_27 rfl (fun gq5 => ?_) (fun gq5 => ?_)
          ·
            have hnB : ¬ rm_B x y := by rintro (q | q | q | q | q); exact g1 q; exact g2 q; exact g3 q; exact g4 q; exact q gq5
            obtain ⟨Wn, Hn, rfl, rfl, hWH⟩ := mt_dim g1 g2 g3 g4 gq5
            have hl : lv_has ls 4 [(0, .ref na), (1, .int (nI Wn)), (2, .int (nI Hn))] := hl
            refine lv_aload_n hx hb d_md_room_32 rfl (lv_at hl 0 rfl) ?_
            refine lv_iload_n hx hb d_md_room_33 rfl (lv_at hl 1 rfl) ?_
            refine pf_md_7 hx hb hg hown hK hP hD hS 0 rfl rfl rfl (Nat.le_of_ble_eq_true rfl) d_md_room_34 (fun H locs hP hD hS => ?_)
            have hP : va_P D kls [(na, .inr (7, [.int (nI Wn), .int (nI H0), .ref nwalls, .int (nI n), .ref nstarts, .ref ngoals, .ref nlaid, .ref nisTold, .int vfree, .ref ncells, .ref nindex, .ref nnear, .ref nnearCount, .ref npay, .ref ndone, .ref npile, .int vtop, .ref nnow, .ref nthen, .ref nchoice, .int vfound, .int vlength, .ref nplan, .ref ncosts, .ref npaid, .ref nafter, .ref nfar, .ref nmany, .ref nnext, .int vsort, .int vwhen, .int vone, .int vtwo])), (nwalls, .inl (cZ, 25, .inl wf)), (nisTold, .inl (cZ, 180, .inl of))] H := hP
            have hD : va_D A [(na, .inr (7, [.int (nI Wn), .int (nI H0), .ref nwalls, .int (nI n), .ref nstarts, .ref ngoals, .ref nlaid, .ref nisTold, .int vfree, .ref ncells, .ref nindex, .ref nnear, .ref nnearCount, .ref npay, .ref ndone, .ref npile, .int vtop, .ref nnow, .ref nthen, .ref nchoice, .int vfound, .int vlength, .ref nplan, .ref ncosts, .ref npaid, .ref nafter, .ref nfar, .ref nmany, .ref nnext, .int vsort, .int vwhen, .int vone, .int vtwo])), (nwalls, .inl (cZ, 25, .inl wf)), (nisTold, .inl (cZ, 180, .inl of))] := hD
            refine lv_aload_n hx hb d_md_room_37 rfl (lv_at hl 0 rfl) ?_
            refine lv_iload_n hx hb d_md_room_38 rfl (lv_at hl 2 rfl) ?_
            refine pf_md_13 hx hb hg hown hK hP hD hS 0 rfl rfl rfl (Nat.le_of_ble_eq_true rfl) d_md_room_39 (fun H locs hP hD hS => ?_)
            have hP : va_P D kls [(na, .inr (7, [.int (nI Wn), .int (nI Hn), .ref nwalls, .int (nI n), .ref nstarts, .ref ngoals, .ref nlaid, .ref nisTold, .int vfree, .ref ncells, .ref nindex, .ref nnear, .ref nnearCount, .ref npay, .ref ndone, .ref npile, .int vtop, .ref nnow, .ref nthen, .ref nchoice, .int vfound, .int vlength, .ref nplan, .ref ncosts, .ref npaid, .ref nafter, .ref nfar, .ref nmany, .ref nnext, .int vsort, .int vwhen, .int vone, .int vtwo])), (nwalls, .inl (cZ, 25, .inl wf)), (nisTold, .inl (cZ, 180, .inl of))] H := hP
            have hD : va_D A [(na, .inr (7, [.int (nI Wn), .int (nI Hn), .ref nwalls, .int (nI n), .ref nstarts, .ref ngoals, .ref nlaid, .ref nisTold, .int vfree, .ref ncells, .ref nindex, .ref nnear, .ref nnearCount, .ref npay, .ref ndone, .ref npile, .int vtop, .ref nnow, .ref nthen, .ref nchoice, .int vfound, .int vlength, .ref nplan, .ref ncosts, .ref npaid, .ref nafter, .ref nfar, .ref nmany, .ref nnext, .int vsort, .int vwhen, .int vone, .int vtwo])), (nwalls, .inl (cZ, 25, .inl wf)), (nisTold, .inl (cZ, 180, .inl of))] := hD
            refine lv_aload_n hx hb d_md_room_42 rfl (lv_at hl 0 rfl) ?_
            refine lv_iconst (v := 0) hx hb d_md_room_43 (by decide) ?_
            refine pf_md_86 hx hb hg hown hK hP hD hS 0 rfl rfl rfl (Nat.le_of_ble_eq_true rfl) d_md_room_44 (fun H locs hP hD hS => ?_)
            have hP : va_P D kls [(na, .inr (7, [.int (nI Wn), .int (nI Hn), .ref nwalls, .int 0, .ref nstarts, .ref ngoals, .ref nlaid, .ref nisTold, .int vfree, .ref ncells, .ref nindex, .ref nnear, .ref nnearCount, .ref npay, .ref ndone, .ref npile, .int vtop, .ref nnow, .ref nthen, .ref nchoice, .int vfound, .int vlength, .ref nplan, .ref ncosts, .ref npaid, .ref nafter, .ref nfar, .ref nmany, .ref nnext, .int vsort, .int vwhen, .int vone, .int vtwo])), (nwalls, .inl (cZ, 25, .inl wf)), (nisTold, .inl (cZ, 180, .inl of))] H := hP
            have hD : va_D A [(na, .inr (7, [.int (nI Wn), .int (nI Hn), .ref nwalls, .int 0, .ref nstarts, .ref ngoals, .ref nlaid, .ref nisTold, .int vfree, .ref ncells, .ref nindex, .ref nnear, .ref nnearCount, .ref npay, .ref ndone, .ref npile, .int vtop, .ref nnow, .ref nthen, .ref nchoice, .int vfound, .int vlength, .ref nplan, .ref ncosts, .ref npaid, .ref nafter, .ref nfar, .ref nmany, .ref nnext, .int vsort, .int vwhen, .int vone, .int vtwo])), (nwalls, .inl (cZ, 25, .inl wf)), (nisTold, .inl (cZ, 180, .inl of))] := hD
            refine lv_aload_n hx hb d_md_room_47 rfl (lv_at hl 0 rfl) ?_
            refine lv_iconst (v := 0) hx hb d_md_room_48 (by decide) ?_
            refine pf_md_89 hx hb hg hown hK hP hD hS 0 rfl rfl rfl (Nat.le_of_ble_eq_true rfl) d_md_room_49 (fun H locs hP hD hS => ?_)
            have hP : va_P D kls [(na, .inr (7, [.int (nI Wn), .int (nI Hn), .ref nwalls, .int 0, .ref nstarts, .ref ngoals, .ref nlaid, .ref nisTold, .int vfree, .ref ncells, .ref nindex, .ref nnear, .ref nnearCount, .ref npay, .ref ndone, .ref npile, .int vtop, .ref nnow, .ref nthen, .ref nchoice, .int 0, .int vlength, .ref nplan, .ref ncosts, .ref npaid, .ref nafter, .ref nfar, .ref nmany, .ref nnext, .int vsort, .int vwhen, .int vone, .int vtwo])), (nwalls, .inl (cZ, 25, .inl wf)), (nisTold, .inl (cZ, 180, .inl of))] H := hP
            have hD : va_D A [(na, .inr (7, [.int (nI Wn), .int (nI Hn), .ref nwalls, .int 0, .ref nstarts, .ref ngoals, .ref nlaid, .ref nisTold, .int vfree, .ref ncells, .ref nindex, .ref nnear, .ref nnearCount, .ref npay, .ref ndone, .ref npile, .int vtop, .ref nnow, .ref nthen, .ref nchoice, .int 0, .int vlength, .ref nplan, .ref ncosts, .ref npaid, .ref nafter, .ref nfar, .ref nmany, .ref nnext, .int vsort, .int vwhen, .int vone, .int vtwo])), (nwalls, .inl (cZ, 25, .inl wf)), (nisTold, .inl (cZ, 180, .inl of))] := hD
            refine lv_iconst (v := 0) hx hb d_md_room_52 (by decide) ?_
            refine lv_istore_n hx hb d_md_room_53 rfl hl (by decide) rfl (fun ls hl => ?_)
            have hl : lv_has ls 4 [(3, .int 0), (0, .ref na), (1, .int (nI Wn)), (2, .int (nI Hn))] := hl
            have hl := lv_sub hl [0, 1, 2, 3] (l' := [(3, .int (nI 0)), (0, .ref na), (1, .int (nI Wn)), (2, .int (nI Hn))]) rfl
            refine mt_loop (ι := Nat × (Nat → Int32)) (I := fun ix ls H locs => ((ix.1) ≤ 25) ∧ (∀ j, j < (ix.1) → (ix.2) j = 0) ∧ lv_has ls 4 [(3, .int (nI (ix.1))), (0, .ref na), (1, .int (nI Wn)), (2, .int (nI Hn))] ∧ va_P D kls [(na, .inr (7, [.int (nI Wn), .int (nI Hn), .ref nwalls, .int 0, .ref nstarts, .ref ngoals, .ref nlaid, .ref nisTold, .int vfree, .ref ncells, .ref nindex, .ref nnear, .ref nnearCount, .ref npay, .ref ndone, .ref npile, .int vtop, .ref nnow, .ref nthen, .ref nchoice, .int 0, .int vlength, .ref nplan, .ref ncosts, .ref npaid, .ref nafter, .ref nfar, .ref nmany, .ref nnext, .int vsort, .int vwhen, .int vone, .int vtwo])), (nwalls, .inl (cZ, 25, .inl (ix.2))), (nisTold, .inl (cZ, 180, .inl of))] H ∧ va_D A [(na, .inr (7, [.int (nI Wn), .int (nI Hn), .ref nwalls, .int 0, .ref nstarts, .ref ngoals, .ref nlaid, .ref nisTold, .int vfree, .ref ncells, .ref nindex, .ref nnear, .ref nnearCount, .ref npay, .ref ndone, .ref npile, .int vtop, .ref nnow, .ref nthen, .ref nchoice, .int 0, .int vlength, .ref nplan, .ref ncosts, .ref npaid, .ref nafter, .ref nfar, .ref nmany, .ref nnext, .int vsort, .int vwhen, .int vone, .int vtwo])), (nwalls, .inl (cZ, 25, .inl (ix.2))), (nisTold, .inl (cZ, 180, .inl of))] ∧ va_S A s.heap H locs) (μ := fun ix => 25 - (ix.1)) ?_ (0, wf) ls H _ ⟨Nat.zero_le _, fun j h => absurd h (Nat.not_lt_zero _), hl, hP, hD, hS⟩
            clear hl hP hD hS
            intro i_a ls H locs ⟨hi, hz, hl, hP, hD, hS⟩ ih_a
            obtain ⟨iw, g⟩ := i_a
            have hi : iw ≤ 25 := hi
            have hz : ∀ j, j < iw → g j = 0 := hz
            have hl : lv_has ls 4 [(3, .int (nI iw)), (0, .ref na), (1, .int (nI Wn)), (2, .int (nI Hn))] := hl
            have hP : va_P D kls [(na, .inr (7, [.int (nI Wn), .int (nI Hn), .ref nwalls, .int 0, .ref nstarts, .ref ngoals, .ref nlaid, .ref nisTold, .int vfree, .ref ncells, .ref nindex, .ref nnear, .ref nnearCount, .ref npay, .ref ndone, .ref npile, .int vtop, .ref nnow, .ref nthen, .ref nchoice, .int 0, .int vlength, .ref nplan, .ref ncosts, .ref npaid, .ref nafter, .ref nfar, .ref nmany, .ref nnext, .int vsort, .int vwhen, .int vone, .int vtwo])), (nwalls, .inl (cZ, 25, .inl g)), (nisTold, .inl (cZ, 180, .inl of))] H := hP
            have hD : va_D A [(na, .inr (7, [.int (nI Wn), .int (nI Hn), .ref nwalls, .int 0, .ref nstarts, .ref ngoals, .ref nlaid, .ref nisTold, .int vfree, .ref ncells, .ref nindex, .ref nnear, .ref nnearCount, .ref npay, .ref ndone, .ref npile, .int vtop, .ref nnow, .ref nthen, .ref nchoice, .int 0, .int vlength, .ref nplan, .ref ncosts, .ref npaid, .ref nafter, .ref nfar, .ref nmany, .ref nnext, .int vsort, .int vwhen, .int vone, .int vtwo])), (nwalls, .inl (cZ, 25, .inl g)), (nisTold, .inl (cZ, 180, .inl of))] := hD
            refine lv_iload_n hx hb d_md_room_54 rfl (lv_at hl 0 rfl) ?_
            refine lv_bipush (v := 25) hx hb d_md_room_55 (by decide) ?_
            refine lv_icmp_ge hx hb d_md_room_57 rfl (fun g8 => ?_) (fun g8 => ?_)
            ·
              have g9 : 25 ≤ iw := by rcases Nat.lt_or_ge iw 25 with h | h; exact absurd g8 (nI_ge (b := 25) h (by omega)); exact h
              obtain ⟨gA, hgA⟩ : ∃ z, z = g := ⟨_, rfl⟩
              rw [← hgA] at hP hD
              have hzA : ∀ j, j < 25 → gA j = 0 := fun j hj => by rw [hgA]; exact hz j (by omega)
              have hP : va_P D kls [(na, .inr (7, [.int (nI Wn), .int (nI Hn), .ref nwalls, .int 0, .ref nstarts, .ref ngoals, .ref nlaid, .ref nisTold, .int vfree, .ref ncells, .ref nindex, .ref nnear, .ref nnearCount, .ref npay, .ref ndone, .ref npile, .int vtop, .ref nnow, .ref nthen, .ref nchoice, .int 0, .int vlength, .ref nplan, .ref ncosts, .ref npaid, .ref nafter, .ref nfar, .ref nmany, .ref nnext, .int vsort, .int vwhen, .int vone, .int vtwo])), (nwalls, .inl (cZ, 25, .inl gA)), (nisTold, .inl (cZ, 180, .inl of))] H := hP
              have hD : va_D A [(na, .inr (7, [.int (nI Wn), .int (nI Hn), .ref nwalls, .int 0, .ref nstarts, .ref ngoals, .ref nlaid, .ref nisTold, .int vfree, .ref ncells, .ref nindex, .ref nnear, .ref nnearCount, .ref npay, .ref ndone, .ref npile, .int vtop, .ref nnow, .ref nthen, .ref nchoice, .int 0, .int vlength, .ref nplan, .ref ncosts, .ref npaid, .ref nafter, .ref nfar, .ref nmany, .ref nnext, .int vsort, .int vwhen, .int vone, .int vtwo])), (nwalls, .inl (cZ, 25, .inl gA)), (nisTold, .inl (cZ, 180, .inl of))] := hD
              refine lv_iconst (v := 0) hx hb d_md_room_73 (by decide) ?_
              refine lv_istore_n hx hb d_md_room_74 rfl hl (by decide) rfl (fun ls hl => ?_)
              have hl : lv_has ls 4 [(3, .int 0), (0, .ref na), (1, .int (nI Wn)), (2, .int (nI Hn))] := hl
              have hl := lv_sub hl [0, 1, 2, 3] (l' := [(3, .int (nI 0)), (0, .ref na), (1, .int (nI Wn)), (2, .int (nI Hn))]) rfl
              refine mt_loop (ι := Nat × (Nat → Int32)) (I := fun ix ls H locs => ((ix.1) ≤ 180) ∧ (∀ j, j < (ix.1) → (ix.2) j = 0) ∧ lv_has ls 4 [(3, .int (nI (ix.1))), (0, .ref na), (1, .int (nI Wn)), (2, .int (nI Hn))] ∧ va_P D kls [(na, .inr (7, [.int (nI Wn), .int (nI Hn), .ref nwalls, .int 0, .ref nstarts, .ref ngoals, .ref nlaid, .ref nisTold, .int vfree, .ref ncells, .ref nindex, .ref nnear, .ref nnearCount, .ref npay, .ref ndone, .ref npile, .int vtop, .ref nnow, .ref nthen, .ref nchoice, .int 0, .int vlength, .ref nplan, .ref ncosts, .ref npaid, .ref nafter, .ref nfar, .ref nmany, .ref nnext, .int vsort, .int vwhen, .int vone, .int vtwo])), (nwalls, .inl (cZ, 25, .inl gA)), (nisTold, .inl (cZ, 180, .inl (ix.2)))] H ∧ va_D A [(na, .inr (7, [.int (nI Wn), .int (nI Hn), .ref nwalls, .int 0, .ref nstarts, .ref ngoals, .ref nlaid, .ref nisTold, .int vfree, .ref ncells, .ref nindex, .ref nnear, .ref nnearCount, .ref npay, .ref ndone, .ref npile, .int vtop, .ref nnow, .ref nthen, .ref nchoice, .int 0, .int vlength, .ref nplan, .ref ncosts, .ref npaid, .ref nafter, .ref nfar, .ref nmany, .ref nnext, .int vsort, .int vwhen, .int vone, .int vtwo])), (nwalls, .inl (cZ, 25, .inl gA)), (nisTold, .inl (cZ, 180, .inl (ix.2)))] ∧ va_S A s.heap H locs) (μ := fun ix => 180 - (ix.1)) ?_ (0, of) ls H _ ⟨Nat.zero_le _, fun j h => absurd h (Nat.not_lt_zero _), hl, hP, hD, hS⟩
              clear hl hP hD hS
              intro i_b ls H locs ⟨hi, hz, hl, hP, hD, hS⟩ ih_b
              obtain ⟨iw, g⟩ := i_b
              have hi : iw ≤ 180 := hi
              have hz : ∀ j, j < iw → g j = 0 := hz
              have hl : lv_has ls 4 [(3, .int (nI iw)), (0, .ref na), (1, .int (nI Wn)), (2, .int (nI Hn))] := hl
              have hP : va_P D kls [(na, .inr (7, [.int (nI Wn), .int (nI Hn), .ref nwalls, .int 0, .ref nstarts, .ref ngoals, .ref nlaid, .ref nisTold, .int vfree, .ref ncells, .ref nindex, .ref nnear, .ref nnearCount, .ref npay, .ref ndone, .ref npile, .int vtop, .ref nnow, .ref nthen, .ref nchoice, .int 0, .int vlength, .ref nplan, .ref ncosts, .ref npaid, .ref nafter, .ref nfar, .ref nmany, .ref nnext, .int vsort, .int vwhen, .int vone, .int vtwo])), (nwalls, .inl (cZ, 25, .inl gA)), (nisTold, .inl (cZ, 180, .inl g))] H := hP
              have hD : va_D A [(na, .inr (7, [.int (nI Wn), .int (nI Hn), .ref nwalls, .int 0, .ref nstarts, .ref ngoals, .ref nlaid, .ref nisTold, .int vfree, .ref ncells, .ref nindex, .ref nnear, .ref nnearCount, .ref npay, .ref ndone, .ref npile, .int vtop, .ref nnow, .ref nthen, .ref nchoice, .int 0, .int vlength, .ref nplan, .ref ncosts, .ref npaid, .ref nafter, .ref nfar, .ref nmany, .ref nnext, .int vsort, .int vwhen, .int vone, .int vtwo])), (nwalls, .inl (cZ, 25, .inl gA)), (nisTold, .inl (cZ, 180, .inl g))] := hD
              refine lv_iload_n hx hb d_md_room_75 rfl (lv_at hl 0 rfl) ?_
              refine lv_sipush (v := 180) hx hb d_md_room_76 (by decide) ?_
              refine lv_icmp_ge hx hb d_md_room_79 rfl (fun g8 => ?_) (fun g8 => ?_)
              ·
                have g9 : 180 ≤ iw := by rcases Nat.lt_or_ge iw 180 with h | h; exact absurd g8 (nI_ge (b := 180) h (by omega)); exact h
                refine lv_aload_n hx hb d_md_room_95 rfl (lv_at hl 1 rfl) ?_
                have hPc := hP.sub (ws' := [(na, .inr (7, [.int (nI Wn), .int (nI Hn), .ref nwalls, .int 0, .ref nstarts, .ref ngoals, .ref nlaid, .ref nisTold, .int vfree, .ref ncells, .ref nindex, .ref nnear, .ref nnearCount, .ref npay, .ref ndone, .ref npile, .int vtop, .ref nnow, .ref nthen, .ref nchoice, .int 0, .int vlength, .ref nplan, .ref ncosts, .ref npaid, .ref nafter, .ref nfar, .ref nmany, .ref nnext, .int vsort, .int vwhen, .int vone, .int vtwo]))]) [0] rfl
                have hDc := hD.sub (ws' := [(na, .inr (7, [.int (nI Wn), .int (nI Hn), .ref nwalls, .int 0, .ref nstarts, .ref ngoals, .ref nlaid, .ref nisTold, .int vfree, .ref ncells, .ref nindex, .ref nnear, .ref nnearCount, .ref npay, .ref ndone, .ref npile, .int vtop, .ref nnow, .ref nthen, .ref nchoice, .int 0, .int vlength, .ref nplan, .ref ncosts, .ref npaid, .ref nafter, .ref nfar, .ref nmany, .ref nnext, .int vsort, .int vwhen, .int vone, .int vtwo]))]) [0] (by decide) rfl
                refine vp_callSi (W.runV (As := []) (rest := []) ⟨hx, hb, hml, hown, hg⟩ (c_md_size l D cZ cI cJ cII na nwalls nstarts ngoals nlaid nisTold ncells nindex nnear nnearCount npay ndone npile nnow nthen nchoice nplan ncosts npaid nafter nfar nmany nnext (nI Wn) (nI Hn) 0 vfree vtop 0 vlength vsort vwhen vone vtwo H.size ) (cwV 0 hg gv_md_93 rfl rfl rfl (by decide +kernel) ⟨Nat.le_of_ble_eq_true rfl, Nat.le_of_ble_eq_true rfl⟩) ⟨mt_bl, va_recv (q0 := 0) (ci := 7) hK hP rfl rfl, mt_pr hX hPc hK hDc⟩ rfl rfl hl.1 rfl (lv_room (Nat.le_of_ble_eq_true rfl)) d_md_room_96 ⟨Nat.le_of_ble_eq_true rfl, Nat.le_of_ble_eq_true rfl⟩) (fun r1 hr1 => ?_)
                have hr1 : r1 = (nI Wn) * (nI Hn) := hr1
                have hr1 : r1 = nI Wn * nI Hn := hr1
                subst hr1
                have hP9 := hP
                have hD9 := hD
                exact W.iret hx hb hr (fun t ht hW => ⟨⟨nI Wn * nI Hn, (Wn, Hn, 0, gA, g, 0), rfl, ⟨Or.inr ⟨rfl, hnB⟩, mv_I0 hWH, Or.inr ⟨hnB, rfl, rfl, rfl, hzA, fun j hj => hz j (by omega)⟩⟩, by rw [ht]; exact hP9, hD9⟩, hS.F ht⟩) hS.2.2 d_md_room_99
              ·
                have g9 : iw < 180 := by rcases Nat.lt_or_ge iw 180 with h | h; exact h; exact absurd (nI_le (a := 180) h (by omega)) g8
                refine lv_aload_n hx hb d_md_room_82 rfl (lv_at hl 1 rfl) ?_
                refine gf_md_30 hx hb hg hown hK hP 0 rfl rfl d_md_room_83 ?_
                refine lv_iload_n hx hb d_md_room_86 rfl (lv_at hl 0 rfl) ?_
                refine lv_iconst (v := 0) hx hb d_md_room_87 (by decide) ?_
                refine va_zast hx hb hK hP hD hS 2 0 rfl rfl (vp_in_nI g9 (by decide)) d_md_room_88 (fun H locs hP hD hS => ?_)
                rw [nI_clamp (show iw < 2 ^ 31 by omega), show vp_nar .boolean 0 = 0 from rfl] at hP hD
                have hP : va_P D kls [(na, .inr (7, [.int (nI Wn), .int (nI Hn), .ref nwalls, .int 0, .ref nstarts, .ref ngoals, .ref nlaid, .ref nisTold, .int vfree, .ref ncells, .ref nindex, .ref nnear, .ref nnearCount, .ref npay, .ref ndone, .ref npile, .int vtop, .ref nnow, .ref nthen, .ref nchoice, .int 0, .int vlength, .ref nplan, .ref ncosts, .ref npaid, .ref nafter, .ref nfar, .ref nmany, .ref nnext, .int vsort, .int vwhen, .int vone, .int vtwo])), (nwalls, .inl (cZ, 25, .inl gA)), (nisTold, .inl (cZ, 180, .inl (upd g iw 0)))] H := hP
                have hD : va_D A [(na, .inr (7, [.int (nI Wn), .int (nI Hn), .ref nwalls, .int 0, .ref nstarts, .ref ngoals, .ref nlaid, .ref nisTold, .int vfree, .ref ncells, .ref nindex, .ref nnear, .ref nnearCount, .ref npay, .ref ndone, .ref npile, .int vtop, .ref nnow, .ref nthen, .ref nchoice, .int 0, .int vlength, .ref nplan, .ref ncosts, .ref npaid, .ref nafter, .ref nfar, .ref nmany, .ref nnext, .int vsort, .int vwhen, .int vone, .int vtwo])), (nwalls, .inl (cZ, 25, .inl gA)), (nisTold, .inl (cZ, 180, .inl (upd g iw 0)))] := hD
                refine lv_iinc (k := 0) (v := nI (iw + 1)) hx hb d_md_room_89 hl rfl ((nI_succ iw).symm) (by decide) rfl (fun ls hl => ?_)
                have hl : lv_has ls 4 [(3, .int (nI (iw + 1))), (0, .ref na), (1, .int (nI Wn)), (2, .int (nI Hn))] := hl
                refine lv_goto hx hb d_md_room_92 rfl ?_
                have hl := lv_sub hl [0, 1, 2, 3] (l' := [(3, .int (nI (iw + 1))), (0, .ref na), (1, .int (nI Wn)), (2, .int (nI Hn))]) rfl
                exact ih_b (iw + 1, upd g iw 0) ls H _ (by show 180 - (iw + 1) < 180 - iw; omega) ⟨by show iw + 1 ≤ 180; omega, fun j hj => mt_up0 hz j hj, hl, hP, hD, hS⟩
            ·
              have g9 : iw < 25 := by rcases Nat.lt_or_ge iw 25 with h | h; exact h; exact absurd (nI_le (a := 25) h (by omega)) g8
              refine lv_aload_n hx hb d_md_room_60 rfl (lv_at hl 1 rfl) ?_
              refine gf_md_16 hx hb hg hown hK hP 0 rfl rfl d_md_room_61 ?_
              refine lv_iload_n hx hb d_md_room_64 rfl (lv_at hl 0 rfl) ?_
              refine lv_iconst (v := 0) hx hb d_md_room_65 (by decide) ?_
              refine va_zast hx hb hK hP hD hS 1 0 rfl rfl (vp_in_nI g9 (by decide)) d_md_room_66 (fun H locs hP hD hS => ?_)
              rw [nI_clamp (show iw < 2 ^ 31 by omega), show vp_nar .boolean 0 = 0 from rfl] at hP hD
              have hP : va_P D kls [(na, .inr (7, [.int (nI Wn), .int (nI Hn), .ref nwalls, .int 0, .ref nstarts, .ref ngoals, .ref nlaid, .ref nisTold, .int vfree, .ref ncells, .ref nindex, .ref nnear, .ref nnearCount, .ref npay, .ref ndone, .ref npile, .int vtop, .ref nnow, .ref nthen, .ref nchoice, .int 0, .int vlength, .ref nplan, .ref ncosts, .ref npaid, .ref nafter, .ref nfar, .ref nmany, .ref nnext, .int vsort, .int vwhen, .int vone, .int vtwo])), (nwalls, .inl (cZ, 25, .inl (upd g iw 0))), (nisTold, .inl (cZ, 180, .inl of))] H := hP
              have hD : va_D A [(na, .inr (7, [.int (nI Wn), .int (nI Hn), .ref nwalls, .int 0, .ref nstarts, .ref ngoals, .ref nlaid, .ref nisTold, .int vfree, .ref ncells, .ref nindex, .ref nnear, .ref nnearCount, .ref npay, .ref ndone, .ref npile, .int vtop, .ref nnow, .ref nthen, .ref nchoice, .int 0, .int vlength, .ref nplan, .ref ncosts, .ref npaid, .ref nafter, .ref nfar, .ref nmany, .ref nnext, .int vsort, .int vwhen, .int vone, .int vtwo])), (nwalls, .inl (cZ, 25, .inl (upd g iw 0))), (nisTold, .inl (cZ, 180, .inl of))] := hD
              refine lv_iinc (k := 0) (v := nI (iw + 1)) hx hb d_md_room_67 hl rfl ((nI_succ iw).symm) (by decide) rfl (fun ls hl => ?_)
              have hl : lv_has ls 4 [(3, .int (nI (iw + 1))), (0, .ref na), (1, .int (nI Wn)), (2, .int (nI Hn))] := hl
              refine lv_goto hx hb d_md_room_70 rfl ?_
              have hl := lv_sub hl [0, 1, 2, 3] (l' := [(3, .int (nI (iw + 1))), (0, .ref na), (1, .int (nI Wn)), (2, .int (nI Hn))]) rfl
              exact ih_a (iw + 1, upd g iw 0) ls H _ (by show 25 - (iw + 1) < 25 - iw; omega) ⟨by show iw + 1 ≤ 25; omega, fun j hj => mt_up0 hz j hj, hl, hP, hD, hS⟩
          ·
            refine lv_iconst (v := (-1)) hx hb d_md_room_30 (by decide) ?_
            have hP9 := hP
            have hD9 := hD
            exact W.iret hx hb hr (fun t ht hW => ⟨⟨(-1), (W0, H0, n, wf, of, vfound), rfl, ⟨Or.inl ⟨rfl, Or.inr (Or.inr (Or.inr (Or.inr gq5)))⟩, hI, Or.inl ⟨Or.inr (Or.inr (Or.inr (Or.inr gq5))), rfl, rfl, rfl, rfl, rfl⟩⟩, by rw [ht]; exact hP9, hD9⟩, hS.F ht⟩) hS.2.2 d_md_room_31

set_option maxHeartbeats 4000000 in
set_option maxRecDepth 100000 in
theorem c_md_wall (l : Launch) (D : va_G) (cZ cI cJ cII : ClassId) (na : Nat) (nwalls : Nat) (nstarts : Nat) (ngoals : Nat) (nlaid : Nat) (nisTold : Nat) (ncells : Nat) (nindex : Nat) (nnear : Nat) (nnearCount : Nat) (npay : Nat) (ndone : Nat) (npile : Nat) (nnow : Nat) (nthen : Nat) (nchoice : Nat) (nplan : Nat) (ncosts : Nat) (npaid : Nat) (nafter : Nat) (nfar : Nat) (nmany : Nat) (nnext : Nat) (vfree : Int32) (vtop : Int32) (vfound : Int32) (vlength : Int32) (vsort : Int32) (vwhen : Int32) (vone : Int32) (vtwo : Int32) (W0 : Nat) (H0 : Nat) (n : Nat) (wf : Nat → Int32) (sf : Nat → Int32) (gf : Nat → Int32) (x : Int32) (sz : Nat) (hI : mv_I W0 H0 n wf sf gf vfound vlength) : Met l y_md_wall w_md_wall ({ frames := 2, cells := 0, slots := 0, locals := 80 }) (va_Pc [.ref na, .int x] (mt_B D [(cZ, .boolean), (cI, .int), (cJ, .long), (cII, .array .int)] [(na, .inr (7, [.int (nI W0), .int (nI H0), .ref nwalls, .int (nI n), .ref nstarts, .ref ngoals, .ref nlaid, .ref nisTold, .int vfree, .ref ncells, .ref nindex, .ref nnear, .ref nnearCount, .ref npay, .ref ndone, .ref npile, .int vtop, .ref nnow, .ref nthen, .ref nchoice, .int vfound, .int vlength, .ref nplan, .ref ncosts, .ref npaid, .ref nafter, .ref nfar, .ref nmany, .ref nnext, .int vsort, .int vwhen, .int vone, .int vtwo])), (nwalls, .inl (cZ, 25, .inl wf))] sz)) ((fun A => va_Qi (fun (r : Int32) (u : Nat × (Nat → Int32) × Int32) => (wl_P (W0 * H0) n wf x r (u.1) (u.2.1)) ∧ (mv_I W0 H0 (u.1) (u.2.1) sf gf (u.2.2) vlength)) (fun (u : Nat × (Nat → Int32) × Int32) (t : State) => mt_O D A [(na, .inr (7, [.int (nI W0), .int (nI H0), .ref nwalls, .int (nI (u.1)), .ref nstarts, .ref ngoals, .ref nlaid, .ref nisTold, .int vfree, .ref ncells, .ref nindex, .ref nnear, .ref nnearCount, .ref npay, .ref ndone, .ref npile, .int vtop, .ref nnow, .ref nthen, .ref nchoice, .int (u.2.2), .int vlength, .ref nplan, .ref ncosts, .ref npaid, .ref nafter, .ref nfar, .ref nmany, .ref nnext, .int vsort, .int vwhen, .int vone, .int vtwo])), (nwalls, .inl (cZ, 25, .inl (u.2.1)))] t) A) (va_A [(na, .inr (7, [.int (nI W0), .int (nI H0), .ref nwalls, .int (nI n), .ref nstarts, .ref ngoals, .ref nlaid, .ref nisTold, .int vfree, .ref ncells, .ref nindex, .ref nnear, .ref nnearCount, .ref npay, .ref ndone, .ref npile, .int vtop, .ref nnow, .ref nthen, .ref nchoice, .int vfound, .int vlength, .ref nplan, .ref ncosts, .ref npaid, .ref nafter, .ref nfar, .ref nmany, .ref nnext, .int vsort, .int vwhen, .int vone, .int vtwo])), (nwalls, .inl (cZ, 25, .inl wf))] sz)) 0 0 (va_A [(na, .inr (7, [.int (nI W0), .int (nI H0), .ref nwalls, .int (nI n), .ref nstarts, .ref ngoals, .ref nlaid, .ref nisTold, .int vfree, .ref ncells, .ref nindex, .ref nnear, .ref nnearCount, .ref npay, .ref ndone, .ref npile, .int vtop, .ref nnow, .ref nthen, .ref nchoice, .int vfound, .int vlength, .ref nplan, .ref ncosts, .ref npaid, .ref nafter, .ref nfar, .ref nmany, .ref nnext, .int vsort, .int vwhen, .int vone, .int vtwo])), (nwalls, .inl (cZ, 25, .inl wf))] sz) := by
  refine mt_of (y := y_md_wall) (n := 2) (av := [.ref na, .int x]) (QF := (fun A => va_Qi (fun (r : Int32) (u : Nat × (Nat → Int32) × Int32) => (wl_P (W0 * H0) n wf x r (u.1) (u.2.1)) ∧ (mv_I W0 H0 (u.1) (u.2.1) sf gf (u.2.2) vlength)) (fun (u : Nat × (Nat → Int32) × Int32) (t : State) => mt_O D A [(na, .inr (7, [.int (nI W0), .int (nI H0), .ref nwalls, .int (nI (u.1)), .ref nstarts, .ref ngoals, .ref nlaid, .ref nisTold, .int vfree, .ref ncells, .ref nindex, .ref nnear, .ref nnearCount, .ref npay, .ref ndone, .ref npile, .int vtop, .ref nnow, .ref nthen, .ref nchoice, .int (u.2.2), .int vlength, .ref nplan, .ref ncosts, .ref npaid, .ref nafter, .ref nfar, .ref nmany, .ref nnext, .int vsort, .int vwhen, .int vone, .int vtwo])), (nwalls, .inl (cZ, 25, .inl (u.2.1)))] t) A)) (by decide) (Nat.le_of_ble_eq_true rfl) ?_
  intro p e s m below meth c ls A hx hb hr hlk hml hown hnm hg hl hX hP hK hD hA hS
  obtain ⟨H, hH⟩ : ∃ H : Heap, H = s.heap := ⟨_, rfl⟩
  have hS : va_S A s.heap H [] := by rw [hH]; exact va_S.rf
  rw [← hH] at hP ⊢
  have hown : s.vm.findClass R_md = some m.cls := hown
  have hl : lv_has ls 2 [(0, .ref na), (1, .int x)] := hl
  refine lv_aload_n hx hb d_md_wall_0 rfl (lv_at hl 0 rfl) ?_
  refine lv_iload_n hx hb d_md_wall_1 rfl (lv_at hl 1 rfl) ?_
  have hPc := hP.sub (ws' := [(na, .inr (7, [.int (nI W0), .int (nI H0), .ref nwalls, .int (nI n), .ref nstarts, .ref ngoals, .ref nlaid, .ref nisTold, .int vfree, .ref ncells, .ref nindex, .ref nnear, .ref nnearCount, .ref npay, .ref ndone, .ref npile, .int vtop, .ref nnow, .ref nthen, .ref nchoice, .int vfound, .int vlength, .ref nplan, .ref ncosts, .ref npaid, .ref nafter, .ref nfar, .ref nmany, .ref nnext, .int vsort, .int vwhen, .int vone, .int vtwo]))]) [0] rfl
  have hDc := hD.sub (ws' := [(na, .inr (7, [.int (nI W0), .int (nI H0), .ref nwalls, .int (nI n), .ref nstarts, .ref ngoals, .ref nlaid, .ref nisTold, .int vfree, .ref ncells, .ref nindex, .ref nnear, .ref nnearCount, .ref npay, .ref ndone, .ref npile, .int vtop, .ref nnow, .ref nthen, .ref nchoice, .int vfound, .int vlength, .ref nplan, .ref ncosts, .ref npaid, .ref nafter, .ref nfar, .ref nmany, .ref nnext, .int vsort, .int vwhen, .int vone, .int vtwo]))]) [0] (by decide) rfl
  refine vp_callSi (W.runV (As := [.int x]) (rest := []) ⟨hx, hb, hml, hown, hg⟩ (c_md_isCell l D cZ cI cJ cII na nwalls nstarts ngoals nlaid nisTold ncells nindex nnear nnearCount npay ndone npile nnow nthen nchoice nplan ncosts npaid nafter nfar nmany nnext (nI W0) (nI H0) (nI n) vfree vtop vfound vlength vsort vwhen vone vtwo x H.size ) (cwV 1 hg gv_md_97 rfl rfl rfl (by decide +kernel) ⟨Nat.le_of_ble_eq_true rfl, Nat.le_of_ble_eq_true rfl⟩) ⟨mt_bl, va_recv (q0 := 0) (ci := 7) hK hP rfl rfl, mt_pr hX hPc hK hDc⟩ rfl rfl hl.1 rfl (lv_room (Nat.le_of_ble_eq_true rfl)) d_md_wall_2 ⟨Nat.le_of_ble_eq_true rfl, Nat.le_of_ble_eq_true rfl⟩) (fun r1 hr1 => ?_)
  have hr1 : (r1 = 1 ∧ ¬ x < 0 ∧ ¬ (nI W0) * (nI H0) ≤ x) ∨ (r1 = 0 ∧ (x < 0 ∨ (nI W0) * (nI H0) ≤ x)) := hr1
  refine lv_if_ne hx hb d_md_wall_5 rfl (fun g1 => ?_) (fun g1 => ?_)
  ·
    have g3 : ¬ x < 0 ∧ ¬ nI W0 * nI H0 ≤ x := hr1.elim (fun q => q.2) (fun q => absurd q.1 g1)
    obtain ⟨k, hk, rfl⟩ := vp_in_of (mt_b25 hI.1.2.2.2 x g3.1 g3.2) (by decide)
    have hkN : k < W0 * H0 := xv_kN hI.1.2.2.2 hk g3.2
    have hl : lv_has ls 2 [(0, .ref na), (1, .int (nI k))] := hl
    refine lv_aload_n hx hb d_md_wall_10 rfl (lv_at hl 0 rfl) ?_
    refine gf_md_16 hx hb hg hown hK hP 0 rfl rfl d_md_wall_11 ?_
    refine lv_iload_n hx hb d_md_wall_14 rfl (lv_at hl 1 rfl) ?_
    refine lv_aload_n hx hb d_md_wall_15 rfl (lv_at hl 0 rfl) ?_
    refine gf_md_16 hx hb hg hown hK hP 0 rfl rfl d_md_wall_16 ?_
    refine lv_iload_n hx hb d_md_wall_19 rfl (lv_at hl 1 rfl) ?_
    refine va_zald hx hb hK hP 1 0 rfl rfl (vp_in_nI hk (by decide)) d_md_wall_20 ?_
    refine lv_topi (fun y2 ey2 => ?_)
    have ey2 : y2 = wf k := ey2.trans (by rw [nI_clamp (show k < 2 ^ 31 by omega)])
    subst ey2
    refine lv_if_ne hx hb d_md_wall_21 rfl (fun g4 => ?_) (fun g4 => ?_)
    ·
      refine lv_iconst (v := 0) hx hb d_md_wall_28 (by decide) ?_
      refine va_zast hx hb hK hP hD hS 1 0 rfl rfl (vp_in_nI hk (by decide)) d_md_wall_29 (fun H locs hP hD hS => ?_)
      rw [nI_clamp (show k < 2 ^ 31 by omega), show vp_nar .boolean 0 = 0 from rfl] at hP hD
      have hP : va_P D kls [(na, .inr (7, [.int (nI W0), .int (nI H0), .ref nwalls, .int (nI n), .ref nstarts, .ref ngoals, .ref nlaid, .ref nisTold, .int vfree, .ref ncells, .ref nindex, .ref nnear, .ref nnearCount, .ref npay, .ref ndone, .ref npile, .int vtop, .ref nnow, .ref nthen, .ref nchoice, .int vfound, .int vlength, .ref nplan, .ref ncosts, .ref npaid, .ref nafter, .ref nfar, .ref nmany, .ref nnext, .int vsort, .int vwhen, .int vone, .int vtwo])), (nwalls, .inl (cZ, 25, .inl (upd wf k 0)))] H := hP
      have hD : va_D A [(na, .inr (7, [.int (nI W0), .int (nI H0), .ref nwalls, .int (nI n), .ref nstarts, .ref ngoals, .ref nlaid, .ref nisTold, .int vfree, .ref ncells, .ref nindex, .ref nnear, .ref nnearCount, .ref npay, .ref ndone, .ref npile, .int vtop, .ref nnow, .ref nthen, .ref nchoice, .int vfound, .int vlength, .ref nplan, .ref ncosts, .ref npaid, .ref nafter, .ref nfar, .ref nmany, .ref nnext, .int vsort, .int vwhen, .int vone, .int vtwo])), (nwalls, .inl (cZ, 25, .inl (upd wf k 0)))] := hD
      refine lv_aload_n hx hb d_md_wall_30 rfl (lv_at hl 0 rfl) ?_
      refine lv_iconst (v := 0) hx hb d_md_wall_31 (by decide) ?_
      refine pf_md_86 hx hb hg hown hK hP hD hS 0 rfl rfl rfl (Nat.le_of_ble_eq_true rfl) d_md_wall_32 (fun H locs hP hD hS => ?_)
      have hP : va_P D kls [(na, .inr (7, [.int (nI W0), .int (nI H0), .ref nwalls, .int 0, .ref nstarts, .ref ngoals, .ref nlaid, .ref nisTold, .int vfree, .ref ncells, .ref nindex, .ref nnear, .ref nnearCount, .ref npay, .ref ndone, .ref npile, .int vtop, .ref nnow, .ref nthen, .ref nchoice, .int vfound, .int vlength, .ref nplan, .ref ncosts, .ref npaid, .ref nafter, .ref nfar, .ref nmany, .ref nnext, .int vsort, .int vwhen, .int vone, .int vtwo])), (nwalls, .inl (cZ, 25, .inl (upd wf k 0)))] H := hP
      have hD : va_D A [(na, .inr (7, [.int (nI W0), .int (nI H0), .ref nwalls, .int 0, .ref nstarts, .ref ngoals, .ref nlaid, .ref nisTold, .int vfree, .ref ncells, .ref nindex, .ref nnear, .ref nnearCount, .ref npay, .ref ndone, .ref npile, .int vtop, .ref nnow, .ref nthen, .ref nchoice, .int vfound, .int vlength, .ref nplan, .ref ncosts, .ref npaid, .ref nafter, .ref nfar, .ref nmany, .ref nnext, .int vsort, .int vwhen, .int vone, .int vtwo])), (nwalls, .inl (cZ, 25, .inl (upd wf k 0)))] := hD
      refine lv_aload_n hx hb d_md_wall_35 rfl (lv_at hl 0 rfl) ?_
      refine lv_iconst (v := 0) hx hb d_md_wall_36 (by decide) ?_
      refine pf_md_89 hx hb hg hown hK hP hD hS 0 rfl rfl rfl (Nat.le_of_ble_eq_true rfl) d_md_wall_37 (fun H locs hP hD hS => ?_)
      have hP : va_P D kls [(na, .inr (7, [.int (nI W0), .int (nI H0), .ref nwalls, .int 0, .ref nstarts, .ref ngoals, .ref nlaid, .ref nisTold, .int vfree, .ref ncells, .ref nindex, .ref nnear, .ref nnearCount, .ref npay, .ref ndone, .ref npile, .int vtop, .ref nnow, .ref nthen, .ref nchoice, .int 0, .int vlength, .ref nplan, .ref ncosts, .ref npaid, .ref nafter, .ref nfar, .ref nmany, .ref nnext, .int vsort, .int vwhen, .int vone, .int vtwo])), (nwalls, .inl (cZ, 25, .inl (upd wf k 0)))] H := hP
      have hD : va_D A [(na, .inr (7, [.int (nI W0), .int (nI H0), .ref nwalls, .int 0, .ref nstarts, .ref ngoals, .ref nlaid, .ref nisTold, .int vfree, .ref ncells, .ref nindex, .ref nnear, .ref nnearCount, .ref npay, .ref ndone, .ref npile, .int vtop, .ref nnow, .ref nthen, .ref nchoice, .int 0, .int vlength, .ref nplan, .ref ncosts, .ref npaid, .ref nafter, .ref nfar, .ref nmany, .ref nnext, .int vsort, .int vwhen, .int vone, .int vtwo])), (nwalls, .inl (cZ, 25, .inl (upd wf k 0)))] := hD
      refine lv_aload_n hx hb d_md_wall_40 rfl (lv_at hl 0 rfl) ?_
      refine gf_md_16 hx hb hg hown hK hP 0 rfl rfl d_md_wall_41 ?_
      refine lv_iload_n hx hb d_md_wall_44 rfl (lv_at hl 1 rfl) ?_
      refine va_zald hx hb hK hP 1 0 rfl rfl (vp_in_nI hk (by decide)) d_md_wall_45 ?_
      refine lv_topi (fun y3 ey3 => ?_)
      have ey3 : y3 = 0 := ey3.trans (by rw [nI_clamp (show k < 2 ^ 31 by omega)]; exact pk_us)
      subst ey3
      refine lv_if_eq hx hb d_md_wall_46 rfl (fun _ => ?_) (fun h => absurd (by decide) h)
      refine lv_iconst (v := 0) hx hb d_md_wall_53 (by decide) ?_
      have hP9 := hP
      have hD9 := hD
      exact W.iret hx hb hr (fun t ht hW => ⟨⟨0, (0, upd wf k 0, 0), rfl, ⟨Or.inr ⟨k, hkN, rfl, rfl, Or.inr ⟨g4, rfl, rfl⟩⟩, mv_I0 hI.1⟩, by rw [ht]; exact hP9, hD9⟩, hS.F ht⟩) hS.2.2 d_md_wall_54
    ·
      refine lv_iconst (v := 1) hx hb d_md_wall_24 (by decide) ?_
      refine lv_goto hx hb d_md_wall_25 rfl ?_
      refine va_zast hx hb hK hP hD hS 1 0 rfl rfl (vp_in_nI hk (by decide)) d_md_wall_29 (fun H locs hP hD hS => ?_)
      rw [nI_clamp (show k < 2 ^ 31 by omega), show vp_nar .boolean 1 = 1 from rfl] at hP hD
      have hP : va_P D kls [(na, .inr (7, [.int (nI W0), .int (nI H0), .ref nwalls, .int (nI n), .ref nstarts, .ref ngoals, .ref nlaid, .ref nisTold, .int vfree, .ref ncells, .ref nindex, .ref nnear, .ref nnearCount, .ref npay, .ref ndone, .ref npile, .int vtop, .ref nnow, .ref nthen, .ref nchoice, .int vfound, .int vlength, .ref nplan, .ref ncosts, .ref npaid, .ref nafter, .ref nfar, .ref nmany, .ref nnext, .int vsort, .int vwhen, .int vone, .int vtwo])), (nwalls, .inl (cZ, 25, .inl (upd wf k 1)))] H := hP
      have hD : va_D A [(na, .inr (7, [.int (nI W0), .int (nI H0), .ref nwalls, .int (nI n), .ref nstarts, .ref ngoals, .ref nlaid, .ref nisTold, .int vfree, .ref ncells, .ref nindex, .ref nnear, .ref nnearCount, .ref npay, .ref ndone, .ref npile, .int vtop, .ref nnow, .ref nthen, .ref nchoice, .int vfound, .int vlength, .ref nplan, .ref ncosts, .ref npaid, .ref nafter, .ref nfar, .ref nmany, .ref nnext, .int vsort, .int vwhen, .int vone, .int vtwo])), (nwalls, .inl (cZ, 25, .inl (upd wf k 1)))] := hD
      refine lv_aload_n hx hb d_md_wall_30 rfl (lv_at hl 0 rfl) ?_
      refine lv_iconst (v := 0) hx hb d_md_wall_31 (by decide) ?_
      refine pf_md_86 hx hb hg hown hK hP hD hS 0 rfl rfl rfl (Nat.le_of_ble_eq_true rfl) d_md_wall_32 (fun H locs hP hD hS => ?_)
      have hP : va_P D kls [(na, .inr (7, [.int (nI W0), .int (nI H0), .ref nwalls, .int 0, .ref nstarts, .ref ngoals, .ref nlaid, .ref nisTold, .int vfree, .ref ncells, .ref nindex, .ref nnear, .ref nnearCount, .ref npay, .ref ndone, .ref npile, .int vtop, .ref nnow, .ref nthen, .ref nchoice, .int vfound, .int vlength, .ref nplan, .ref ncosts, .ref npaid, .ref nafter, .ref nfar, .ref nmany, .ref nnext, .int vsort, .int vwhen, .int vone, .int vtwo])), (nwalls, .inl (cZ, 25, .inl (upd wf k 1)))] H := hP
      have hD : va_D A [(na, .inr (7, [.int (nI W0), .int (nI H0), .ref nwalls, .int 0, .ref nstarts, .ref ngoals, .ref nlaid, .ref nisTold, .int vfree, .ref ncells, .ref nindex, .ref nnear, .ref nnearCount, .ref npay, .ref ndone, .ref npile, .int vtop, .ref nnow, .ref nthen, .ref nchoice, .int vfound, .int vlength, .ref nplan, .ref ncosts, .ref npaid, .ref nafter, .ref nfar, .ref nmany, .ref nnext, .int vsort, .int vwhen, .int vone, .int vtwo])), (nwalls, .inl (cZ, 25, .inl (upd wf k 1)))] := hD
      refine lv_aload_n hx hb d_md_wall_35 rfl (lv_at hl 0 rfl) ?_
      refine lv_iconst (v := 0) hx hb d_md_wall_36 (by decide) ?_
      refine pf_md_89 hx hb hg hown hK hP hD hS 0 rfl rfl rfl (Nat.le_of_ble_eq_true rfl) d_md_wall_37 (fun H locs hP hD hS => ?_)
      have hP : va_P D kls [(na, .inr (7, [.int (nI W0), .int (nI H0), .ref nwalls, .int 0, .ref nstarts, .ref ngoals, .ref nlaid, .ref nisTold, .int vfree, .ref ncells, .ref nindex, .ref nnear, .ref nnearCount, .ref npay, .ref ndone, .ref npile, .int vtop, .ref nnow, .ref nthen, .ref nchoice, .int 0, .int vlength, .ref nplan, .ref ncosts, .ref npaid, .ref nafter, .ref nfar, .ref nmany, .ref nnext, .int vsort, .int vwhen, .int vone, .int vtwo])), (nwalls, .inl (cZ, 25, .inl (upd wf k 1)))] H := hP
      have hD : va_D A [(na, .inr (7, [.int (nI W0), .int (nI H0), .ref nwalls, .int 0, .ref nstarts, .ref ngoals, .ref nlaid, .ref nisTold, .int vfree, .ref ncells, .ref nindex, .ref nnear, .ref nnearCount, .ref npay, .ref ndone, .ref npile, .int vtop, .ref nnow, .ref nthen, .ref nchoice, .int 0, .int vlength, .ref nplan, .ref ncosts, .ref npaid, .ref nafter, .ref nfar, .ref nmany, .ref nnext, .int vsort, .int vwhen, .int vone, .int vtwo])), (nwalls, .inl (cZ, 25, .inl (upd wf k 1)))] := hD
      refine lv_aload_n hx hb d_md_wall_40 rfl (lv_at hl 0 rfl) ?_
      refine gf_md_16 hx hb hg hown hK hP 0 rfl rfl d_md_wall_41 ?_
      refine lv_iload_n hx hb d_md_wall_44 rfl (lv_at hl 1 rfl) ?_
      refine va_zald hx hb hK hP 1 0 rfl rfl (vp_in_nI hk (by decide)) d_md_wall_45 ?_
      refine lv_topi (fun y4 ey4 => ?_)
      have ey4 : y4 = 1 := ey4.trans (by rw [nI_clamp (show k < 2 ^ 31 by omega)]; exact pk_us)
      subst ey4
      refine lv_if_eq hx hb d_md_wall_46 rfl (fun h => absurd h (by decide)) (fun _ => ?_)
      refine lv_iconst (v := 1) hx hb d_md_wall_49 (by decide) ?_
      refine lv_goto hx hb d_md_wall_50 rfl ?_
      have hP9 := hP
      have hD9 := hD
      exact W.iret hx hb hr (fun t ht hW => ⟨⟨1, (0, upd wf k 1, 0), rfl, ⟨Or.inr ⟨k, hkN, rfl, rfl, Or.inl ⟨g4, rfl, rfl⟩⟩, mv_I0 hI.1⟩, by rw [ht]; exact hP9, hD9⟩, hS.F ht⟩) hS.2.2 d_md_wall_54
  ·
    have gno : ¬ ∃ k, k < W0 * H0 ∧ x = nI k := xv_nh hI.1.2.2.2 (hr1.elim (fun q => absurd (q.1.symm.trans g1) (by decide)) (fun q => q.2))
    refine lv_iconst (v := (-1)) hx hb d_md_wall_8 (by decide) ?_
    have hP9 := hP
    have hD9 := hD
    exact W.iret hx hb hr (fun t ht hW => ⟨⟨(-1), (n, wf, vfound), rfl, ⟨Or.inl ⟨rfl, gno, rfl, rfl⟩, hI⟩, by rw [ht]; exact hP9, hD9⟩, hS.F ht⟩) hS.2.2 d_md_wall_9

set_option maxHeartbeats 4000000 in
set_option maxRecDepth 100000 in
theorem c_md_mover (l : Launch) (D : va_G) (cZ cI cJ cII : ClassId) (na : Nat) (nwalls : Nat) (nstarts : Nat) (ngoals : Nat) (nlaid : Nat) (nisTold : Nat) (ncells : Nat) (nindex : Nat) (nnear : Nat) (nnearCount : Nat) (npay : Nat) (ndone : Nat) (npile : Nat) (nnow : Nat) (nthen : Nat) (nchoice : Nat) (nplan : Nat) (ncosts : Nat) (npaid : Nat) (nafter : Nat) (nfar : Nat) (nmany : Nat) (nnext : Nat) (vfree : Int32) (vtop : Int32) (vfound : Int32) (vlength : Int32) (vsort : Int32) (vwhen : Int32) (vone : Int32) (vtwo : Int32) (W0 : Nat) (H0 : Nat) (n : Nat) (wf : Nat → Int32) (sf : Nat → Int32) (gf : Nat → Int32) (x : Int32) (y : Int32) (sz : Nat) (hI : mv_I W0 H0 n wf sf gf vfound vlength) : Met l y_md_mover w_md_mover ({ frames := 3, cells := 0, slots := 0, locals := 120 }) (va_Pc [.ref na, .int x, .int y] (mt_B D [(cZ, .boolean), (cI, .int), (cJ, .long), (cII, .array .int)] [(na, .inr (7, [.int (nI W0), .int (nI H0), .ref nwalls, .int (nI n), .ref nstarts, .ref ngoals, .ref nlaid, .ref nisTold, .int vfree, .ref ncells, .ref nindex, .ref nnear, .ref nnearCount, .ref npay, .ref ndone, .ref npile, .int vtop, .ref nnow, .ref nthen, .ref nchoice, .int vfound, .int vlength, .ref nplan, .ref ncosts, .ref npaid, .ref nafter, .ref nfar, .ref nmany, .ref nnext, .int vsort, .int vwhen, .int vone, .int vtwo])), (nwalls, .inl (cZ, 25, .inl wf)), (nstarts, .inl (cI, 25, .inl sf)), (ngoals, .inl (cI, 25, .inl gf))] sz)) ((fun A => va_Qi (fun (r : Int32) (u : Nat × (Nat → Int32) × (Nat → Int32) × Int32) => (mo_P (W0 * H0) n wf sf gf x y r (u.1) (u.2.1) (u.2.2.1)) ∧ (mv_I W0 H0 (u.1) wf (u.2.1) (u.2.2.1) (u.2.2.2) vlength)) (fun (u : Nat × (Nat → Int32) × (Nat → Int32) × Int32) (t : State) => mt_O D A [(na, .inr (7, [.int (nI W0), .int (nI H0), .ref nwalls, .int (nI (u.1)), .ref nstarts, .ref ngoals, .ref nlaid, .ref nisTold, .int vfree, .ref ncells, .ref nindex, .ref nnear, .ref nnearCount, .ref npay, .ref ndone, .ref npile, .int vtop, .ref nnow, .ref nthen, .ref nchoice, .int (u.2.2.2), .int vlength, .ref nplan, .ref ncosts, .ref npaid, .ref nafter, .ref nfar, .ref nmany, .ref nnext, .int vsort, .int vwhen, .int vone, .int vtwo])), (nwalls, .inl (cZ, 25, .inl wf)), (nstarts, .inl (cI, 25, .inl (u.2.1))), (ngoals, .inl (cI, 25, .inl (u.2.2.1)))] t) A) (va_A [(na, .inr (7, [.int (nI W0), .int (nI H0), .ref nwalls, .int (nI n), .ref nstarts, .ref ngoals, .ref nlaid, .ref nisTold, .int vfree, .ref ncells, .ref nindex, .ref nnear, .ref nnearCount, .ref npay, .ref ndone, .ref npile, .int vtop, .ref nnow, .ref nthen, .ref nchoice, .int vfound, .int vlength, .ref nplan, .ref ncosts, .ref npaid, .ref nafter, .ref nfar, .ref nmany, .ref nnext, .int vsort, .int vwhen, .int vone, .int vtwo])), (nwalls, .inl (cZ, 25, .inl wf)), (nstarts, .inl (cI, 25, .inl sf)), (ngoals, .inl (cI, 25, .inl gf))] sz)) 0 0 (va_A [(na, .inr (7, [.int (nI W0), .int (nI H0), .ref nwalls, .int (nI n), .ref nstarts, .ref ngoals, .ref nlaid, .ref nisTold, .int vfree, .ref ncells, .ref nindex, .ref nnear, .ref nnearCount, .ref npay, .ref ndone, .ref npile, .int vtop, .ref nnow, .ref nthen, .ref nchoice, .int vfound, .int vlength, .ref nplan, .ref ncosts, .ref npaid, .ref nafter, .ref nfar, .ref nmany, .ref nnext, .int vsort, .int vwhen, .int vone, .int vtwo])), (nwalls, .inl (cZ, 25, .inl wf)), (nstarts, .inl (cI, 25, .inl sf)), (ngoals, .inl (cI, 25, .inl gf))] sz) := by
  refine mt_of (y := y_md_mover) (n := 6) (av := [.ref na, .int x, .int y]) (QF := (fun A => va_Qi (fun (r : Int32) (u : Nat × (Nat → Int32) × (Nat → Int32) × Int32) => (mo_P (W0 * H0) n wf sf gf x y r (u.1) (u.2.1) (u.2.2.1)) ∧ (mv_I W0 H0 (u.1) wf (u.2.1) (u.2.2.1) (u.2.2.2) vlength)) (fun (u : Nat × (Nat → Int32) × (Nat → Int32) × Int32) (t : State) => mt_O D A [(na, .inr (7, [.int (nI W0), .int (nI H0), .ref nwalls, .int (nI (u.1)), .ref nstarts, .ref ngoals, .ref nlaid, .ref nisTold, .int vfree, .ref ncells, .ref nindex, .ref nnear, .ref nnearCount, .ref npay, .ref ndone, .ref npile, .int vtop, .ref nnow, .ref nthen, .ref nchoice, .int (u.2.2.2), .int vlength, .ref nplan, .ref ncosts, .ref npaid, .ref nafter, .ref nfar, .ref nmany, .ref nnext, .int vsort, .int vwhen, .int vone, .int vtwo])), (nwalls, .inl (cZ, 25, .inl wf)), (nstarts, .inl (cI, 25, .inl (u.2.1))), (ngoals, .inl (cI, 25, .inl (u.2.2.1)))] t) A)) (by decide) (Nat.le_of_ble_eq_true rfl) ?_
  intro p e s m below meth c ls A hx hb hr hlk hml hown hnm hg hl hX hP hK hD hA hS
  obtain ⟨H, hH⟩ : ∃ H : Heap, H = s.heap := ⟨_, rfl⟩
  have hS : va_S A s.heap H [] := by rw [hH]; exact va_S.rf
  rw [← hH] at hP ⊢
  have hown : s.vm.findClass R_md = some m.cls := hown
  have hl : lv_has ls 6 [(0, .ref na), (1, .int x), (2, .int y)] := hl
  refine lv_aload_n hx hb d_md_mover_0 rfl (lv_at hl 0 rfl) ?_
  refine lv_iload_n hx hb d_md_mover_1 rfl (lv_at hl 1 rfl) ?_
  have hPc := hP.sub (ws' := [(na, .inr (7, [.int (nI W0), .int (nI H0), .ref nwalls, .int (nI n), .ref nstarts, .ref ngoals, .ref nlaid, .ref nisTold, .int vfree, .ref ncells, .ref nindex, .ref nnear, .ref nnearCount, .ref npay, .ref ndone, .ref npile, .int vtop, .ref nnow, .ref nthen, .ref nchoice, .int vfound, .int vlength, .ref nplan, .ref ncosts, .ref npaid, .ref nafter, .ref nfar, .ref nmany, .ref nnext, .int vsort, .int vwhen, .int vone, .int vtwo])), (nwalls, .inl (cZ, 25, .inl wf))]) [0, 1] rfl
  have hDc := hD.sub (ws' := [(na, .inr (7, [.int (nI W0), .int (nI H0), .ref nwalls, .int (nI n), .ref nstarts, .ref ngoals, .ref nlaid, .ref nisTold, .int vfree, .ref ncells, .ref nindex, .ref nnear, .ref nnearCount, .ref npay, .ref ndone, .ref npile, .int vtop, .ref nnow, .ref nthen, .ref nchoice, .int vfound, .int vlength, .ref nplan, .ref ncosts, .ref npaid, .ref nafter, .ref nfar, .ref nmany, .ref nnext, .int vsort, .int vwhen, .int vone, .int vtwo])), (nwalls, .inl (cZ, 25, .inl wf))]) [0, 1] (by decide) rfl
  refine vp_callSi (W.runV (As := [.int x]) (rest := []) ⟨hx, hb, hml, hown, hg⟩ (c_md_isFree l D cZ cI cJ cII na nwalls nstarts ngoals nlaid nisTold ncells nindex nnear nnearCount npay ndone npile nnow nthen nchoice nplan ncosts npaid nafter nfar nmany nnext (nI W0) (nI H0) (nI n) vfree vtop vfound vlength vsort vwhen vone vtwo wf x H.size (mt_b25 hI.1.2.2.2)) (cwV 1 hg gv_md_101 rfl rfl rfl (by decide +kernel) ⟨Nat.le_of_ble_eq_true rfl, Nat.le_of_ble_eq_true rfl⟩) ⟨mt_bl, va_recv (q0 := 0) (ci := 7) hK hP rfl rfl, mt_pr hX hPc hK hDc⟩ rfl rfl hl.1 rfl (lv_room (Nat.le_of_ble_eq_true rfl)) d_md_mover_2 ⟨Nat.le_of_ble_eq_true rfl, Nat.le_of_ble_eq_true rfl⟩) (fun r1 hr1 => ?_)
  have hr1 : (r1 = 1 ∧ ¬ x < 0 ∧ ¬ (nI W0) * (nI H0) ≤ x ∧ wf x.toNatClampNeg = 0) ∨ (r1 = 0 ∧ (x < 0 ∨ (nI W0) * (nI H0) ≤ x ∨ ¬ wf x.toNatClampNeg = 0)) := hr1
  have hf1 := hr1
  refine lv_if_eq hx hb d_md_mover_5 rfl (fun g1 => ?_) (fun g1 => ?_)
  ·
    refine lv_iconst (v := (-1)) hx hb d_md_mover_16 (by decide) ?_
    have hP9 := hP
    have hD9 := hD
    exact W.iret hx hb hr (fun t ht hW => ⟨⟨(-1), (n, sf, gf, vfound), rfl, ⟨Or.inl ⟨rfl, Or.inl (fun hc => xv_nf hI.1.2.2.2 (hf1.elim (fun q => absurd (q.1.symm.trans g1) (by decide)) (fun q => q.2)) (mo_Ca hc)), rfl, rfl, rfl⟩, hI⟩, by rw [ht]; exact hP9, hD9⟩, hS.F ht⟩) hS.2.2 d_md_mover_17
  ·
    refine lv_aload_n hx hb d_md_mover_8 rfl (lv_at hl 0 rfl) ?_
    refine lv_iload_n hx hb d_md_mover_9 rfl (lv_at hl 2 rfl) ?_
    have hPc := hP.sub (ws' := [(na, .inr (7, [.int (nI W0), .int (nI H0), .ref nwalls, .int (nI n), .ref nstarts, .ref ngoals, .ref nlaid, .ref nisTold, .int vfree, .ref ncells, .ref nindex, .ref nnear, .ref nnearCount, .ref npay, .ref ndone, .ref npile, .int vtop, .ref nnow, .ref nthen, .ref nchoice, .int vfound, .int vlength, .ref nplan, .ref ncosts, .ref npaid, .ref nafter, .ref nfar, .ref nmany, .ref nnext, .int vsort, .int vwhen, .int vone, .int vtwo])), (nwalls, .inl (cZ, 25, .inl wf))]) [0, 1] rfl
    have hDc := hD.sub (ws' := [(na, .inr (7, [.int (nI W0), .int (nI H0), .ref nwalls, .int (nI n), .ref nstarts, .ref ngoals, .ref nlaid, .ref nisTold, .int vfree, .ref ncells, .ref nindex, .ref nnear, .ref nnearCount, .ref npay, .ref ndone, .ref npile, .int vtop, .ref nnow, .ref nthen, .ref nchoice, .int vfound, .int vlength, .ref nplan, .ref ncosts, .ref npaid, .ref nafter, .ref nfar, .ref nmany, .ref nnext, .int vsort, .int vwhen, .int vone, .int vtwo])), (nwalls, .inl (cZ, 25, .inl wf))]) [0, 1] (by decide) rfl
    refine vp_callSi (W.runV (As := [.int y]) (rest := []) ⟨hx, hb, hml, hown, hg⟩ (c_md_isFree l D cZ cI cJ cII na nwalls nstarts ngoals nlaid nisTold ncells nindex nnear nnearCount npay ndone npile nnow nthen nchoice nplan ncosts npaid nafter nfar nmany nnext (nI W0) (nI H0) (nI n) vfree vtop vfound vlength vsort vwhen vone vtwo wf y H.size (mt_b25 hI.1.2.2.2)) (cwV 1 hg gv_md_101 rfl rfl rfl (by decide +kernel) ⟨Nat.le_of_ble_eq_true rfl, Nat.le_of_ble_eq_true rfl⟩) ⟨mt_bl, va_recv (q0 := 0) (ci := 7) hK hP rfl rfl, mt_pr hX hPc hK hDc⟩ rfl rfl hl.1 rfl (lv_room (Nat.le_of_ble_eq_true rfl)) d_md_mover_10 ⟨Nat.le_of_ble_eq_true rfl, Nat.le_of_ble_eq_true rfl⟩) (fun r2 hr2 => ?_)
    have hr2 : (r2 = 1 ∧ ¬ y < 0 ∧ ¬ (nI W0) * (nI H0) ≤ y ∧ wf y.toNatClampNeg = 0) ∨ (r2 = 0 ∧ (y < 0 ∨ (nI W0) * (nI H0) ≤ y ∨ ¬ wf y.toNatClampNeg = 0)) := hr2
    have hf2 := hr2
    refine lv_if_ne hx hb d_md_mover_13 rfl (fun g2 => ?_) (fun g2 => ?_)
    ·
      obtain ⟨a, hxa, haf⟩ := xv_fr hI.1.2.2.2 (hf1.elim (fun q => q.2) (fun q => absurd q.1 g1))
      obtain ⟨b, hyb, hbf⟩ := xv_fr hI.1.2.2.2 (hf2.elim (fun q => q.2) (fun q => absurd q.1 g2))
      subst hxa
      subst hyb
      have hF25 : fx_cnt wf (W0 * H0) ≤ 25 := Nat.le_trans (fx_cnt_le _ _) hI.1.2.2.2
      have hn5 := hI.2.1
      have hl : lv_has ls 6 [(0, .ref na), (1, .int (nI a)), (2, .int (nI b))] := hl
      refine lv_aload_n hx hb d_md_mover_18 rfl (lv_at hl 0 rfl) ?_
      have hPc := hP.sub (ws' := [(na, .inr (7, [.int (nI W0), .int (nI H0), .ref nwalls, .int (nI n), .ref nstarts, .ref ngoals, .ref nlaid, .ref nisTold, .int vfree, .ref ncells, .ref nindex, .ref nnear, .ref nnearCount, .ref npay, .ref ndone, .ref npile, .int vtop, .ref nnow, .ref nthen, .ref nchoice, .int vfound, .int vlength, .ref nplan, .ref ncosts, .ref npaid, .ref nafter, .ref nfar, .ref nmany, .ref nnext, .int vsort, .int vwhen, .int vone, .int vtwo])), (nwalls, .inl (cZ, 25, .inl wf))]) [0, 1] rfl
      have hDc := hD.sub (ws' := [(na, .inr (7, [.int (nI W0), .int (nI H0), .ref nwalls, .int (nI n), .ref nstarts, .ref ngoals, .ref nlaid, .ref nisTold, .int vfree, .ref ncells, .ref nindex, .ref nnear, .ref nnearCount, .ref npay, .ref ndone, .ref npile, .int vtop, .ref nnow, .ref nthen, .ref nchoice, .int vfound, .int vlength, .ref nplan, .ref ncosts, .ref npaid, .ref nafter, .ref nfar, .ref nmany, .ref nnext, .int vsort, .int vwhen, .int vone, .int vtwo])), (nwalls, .inl (cZ, 25, .inl wf))]) [0, 1] (by decide) rfl
      refine vp_callSi (W.runV (As := []) (rest := []) ⟨hx, hb, hml, hown, hg⟩ (c_md_freeCells l D cZ cI cJ cII na nwalls nstarts ngoals nlaid nisTold ncells nindex nnear nnearCount npay ndone npile nnow nthen nchoice nplan ncosts npaid nafter nfar nmany nnext vfree vtop vfound vlength vsort vwhen vone vtwo _ _ _ wf H.size (hI.1)) (cwV 0 hg gv_md_104 rfl rfl rfl (by decide +kernel) ⟨Nat.le_of_ble_eq_true rfl, Nat.le_of_ble_eq_true rfl⟩) ⟨mt_bl, va_recv (q0 := 0) (ci := 7) hK hP rfl rfl, mt_pr hX hPc hK hDc⟩ rfl rfl hl.1 rfl (lv_room (Nat.le_of_ble_eq_true rfl)) d_md_mover_19 ⟨Nat.le_of_ble_eq_true rfl, Nat.le_of_ble_eq_true rfl⟩) (fun r3 hr3 => ?_)
      have hr3 : r3 = nI (fx_cnt wf (W0 * H0)) := hr3
      have hr3 : r3 = nI (fx_cnt wf (W0 * H0)) := hr3
      subst hr3
      refine lv_istore_n hx hb d_md_mover_22 rfl hl (by decide) rfl (fun ls hl => ?_)
      have hl : lv_has ls 6 [(3, .int (nI (fx_cnt wf (W0 * H0)))), (0, .ref na), (1, .int (nI a)), (2, .int (nI b))] := hl
      refine lv_iload_n hx hb d_md_mover_23 rfl (lv_at hl 0 rfl) ?_
      refine lv_istore hx hb d_md_mover_24 hl (by decide) rfl (fun ls hl => ?_)
      have hl : lv_has ls 6 [(4, .int (nI (fx_cnt wf (W0 * H0)))), (3, .int (nI (fx_cnt wf (W0 * H0)))), (0, .ref na), (1, .int (nI a)), (2, .int (nI b))] := hl
      refine lv_iconst (v := 0) hx hb d_md_mover_26 (by decide) ?_
      refine lv_istore hx hb d_md_mover_27 hl (by decide) rfl (fun ls hl => ?_)
      have hl : lv_has ls 6 [(5, .int 0), (4, .int (nI (fx_cnt wf (W0 * H0)))), (3, .int (nI (fx_cnt wf (W0 * H0)))), (0, .ref na), (1, .int (nI a)), (2, .int (nI b))] := hl
      have hl := lv_sub hl [0, 1, 3, 4, 5, 2] (l' := [(5, .int (nI 0)), (4, .int (nI (fx_cnt wf (W0 * H0)))), (0, .ref na), (1, .int (nI a)), (2, .int (nI b)), (3, .int (nI (fx_cnt wf (W0 * H0))))]) rfl
      refine mt_loop (ι := Nat × Nat) (I := fun ix ls H locs => ((ix.1) ≤ n) ∧ (((ix.2) = fx_cnt wf (W0 * H0) ^ ((ix.1) + 1) ∧ (ix.2) ≤ 400000) ∨ (16000 < (ix.2) ∧ (ix.2) ≤ 400000 ∧ 16000 < fx_cnt wf (W0 * H0) ^ ((ix.1) + 1))) ∧ (∀ i, i < (ix.1) → ¬ sf i = nI a ∧ ¬ gf i = nI b) ∧ lv_has ls 6 [(5, .int (nI (ix.1))), (4, .int (nI (ix.2))), (0, .ref na), (1, .int (nI a)), (2, .int (nI b)), (3, .int (nI (fx_cnt wf (W0 * H0))))] ∧ va_P D kls [(na, .inr (7, [.int (nI W0), .int (nI H0), .ref nwalls, .int (nI n), .ref nstarts, .ref ngoals, .ref nlaid, .ref nisTold, .int vfree, .ref ncells, .ref nindex, .ref nnear, .ref nnearCount, .ref npay, .ref ndone, .ref npile, .int vtop, .ref nnow, .ref nthen, .ref nchoice, .int vfound, .int vlength, .ref nplan, .ref ncosts, .ref npaid, .ref nafter, .ref nfar, .ref nmany, .ref nnext, .int vsort, .int vwhen, .int vone, .int vtwo])), (nwalls, .inl (cZ, 25, .inl wf)), (nstarts, .inl (cI, 25, .inl sf)), (ngoals, .inl (cI, 25, .inl gf))] H ∧ va_D A [(na, .inr (7, [.int (nI W0), .int (nI H0), .ref nwalls, .int (nI n), .ref nstarts, .ref ngoals, .ref nlaid, .ref nisTold, .int vfree, .ref ncells, .ref nindex, .ref nnear, .ref nnearCount, .ref npay, .ref ndone, .ref npile, .int vtop, .ref nnow, .ref nthen, .ref nchoice, .int vfound, .int vlength, .ref nplan, .ref ncosts, .ref npaid, .ref nafter, .ref nfar, .ref nmany, .ref nnext, .int vsort, .int vwhen, .int vone, .int vtwo])), (nwalls, .inl (cZ, 25, .inl wf)), (nstarts, .inl (cI, 25, .inl sf)), (ngoals, .inl (cI, 25, .inl gf))] ∧ va_S A s.heap H locs) (μ := fun ix => n - (ix.1)) ?_ (0, fx_cnt wf (W0 * H0)) ls H _ ⟨Nat.zero_le _, Or.inl ⟨(Nat.pow_one _).symm, Nat.le_trans hF25 (by decide)⟩, fun i h => absurd h (Nat.not_lt_zero _), hl, hP, hD, hS⟩
      clear hl hP hD hS
      intro i_a ls H locs ⟨hmm, hjp, hall, hl, hP, hD, hS⟩ ih_a
      obtain ⟨mm, jp⟩ := i_a
      have hmm : mm ≤ n := hmm
      have hjp : (jp = fx_cnt wf (W0 * H0) ^ (mm + 1) ∧ jp ≤ 400000) ∨ (16000 < jp ∧ jp ≤ 400000 ∧ 16000 < fx_cnt wf (W0 * H0) ^ (mm + 1)) := hjp
      have hall : ∀ i, i < mm → ¬ sf i = nI a ∧ ¬ gf i = nI b := hall
      have hl : lv_has ls 6 [(5, .int (nI mm)), (4, .int (nI jp)), (0, .ref na), (1, .int (nI a)), (2, .int (nI b)), (3, .int (nI (fx_cnt wf (W0 * H0))))] := hl
      have hP : va_P D kls [(na, .inr (7, [.int (nI W0), .int (nI H0), .ref nwalls, .int (nI n), .ref nstarts, .ref ngoals, .ref nlaid, .ref nisTold, .int vfree, .ref ncells, .ref nindex, .ref nnear, .ref nnearCount, .ref npay, .ref ndone, .ref npile, .int vtop, .ref nnow, .ref nthen, .ref nchoice, .int vfound, .int vlength, .ref nplan, .ref ncosts, .ref npaid, .ref nafter, .ref nfar, .ref nmany, .ref nnext, .int vsort, .int vwhen, .int vone, .int vtwo])), (nwalls, .inl (cZ, 25, .inl wf)), (nstarts, .inl (cI, 25, .inl sf)), (ngoals, .inl (cI, 25, .inl gf))] H := hP
      have hD : va_D A [(na, .inr (7, [.int (nI W0), .int (nI H0), .ref nwalls, .int (nI n), .ref nstarts, .ref ngoals, .ref nlaid, .ref nisTold, .int vfree, .ref ncells, .ref nindex, .ref nnear, .ref nnearCount, .ref npay, .ref ndone, .ref npile, .int vtop, .ref nnow, .ref nthen, .ref nchoice, .int vfound, .int vlength, .ref nplan, .ref ncosts, .ref npaid, .ref nafter, .ref nfar, .ref nmany, .ref nnext, .int vsort, .int vwhen, .int vone, .int vtwo])), (nwalls, .inl (cZ, 25, .inl wf)), (nstarts, .inl (cI, 25, .inl sf)), (ngoals, .inl (cI, 25, .inl gf))] := hD
      refine lv_iload hx hb d_md_mover_29 (lv_at hl 0 rfl) ?_
      refine lv_aload_n hx hb d_md_mover_31 rfl (lv_at hl 2 rfl) ?_
      refine gf_md_86 hx hb hg hown hK hP 0 rfl rfl d_md_mover_32 ?_
      refine lv_icmp_ge hx hb d_md_mover_35 rfl (fun g3 => ?_) (fun g3 => ?_)
      ·
        have g2z : n ≤ mm := by rcases Nat.lt_or_ge mm n with h | h; exact absurd g3 (nI_ge (b := n) h (by omega)); exact h
        have g2e : mm = n := by omega
        refine lv_iload hx hb d_md_mover_87 (lv_at hl 1 rfl) ?_
        refine lv_sipush (v := 16000) hx hb d_md_mover_89 (by decide) ?_
        refine lv_icmp_le hx hb d_md_mover_92 rfl (fun g9a => ?_) (fun g9a => ?_)
        ·
          have g9 : jp ≤ 16000 := by rcases Nat.lt_or_ge 16000 jp with h | h; exact absurd g9a (nI_ge (a := 16000) h (by have := hjp; omega)); exact h
          refine lv_aload_n hx hb d_md_mover_97 rfl (lv_at hl 2 rfl) ?_
          refine gf_md_20 hx hb hg hown hK hP 0 rfl rfl d_md_mover_98 ?_
          refine lv_aload_n hx hb d_md_mover_101 rfl (lv_at hl 2 rfl) ?_
          refine gf_md_86 hx hb hg hown hK hP 0 rfl rfl d_md_mover_102 ?_
          refine lv_iload_n hx hb d_md_mover_105 rfl (lv_at hl 3 rfl) ?_
          refine va_iast hx hb hK hP hD hS 2 1 rfl rfl (vp_in_nI (show n < 25 by omega) (by decide)) d_md_mover_106 (fun H locs hP hD hS => ?_)
          rw [nI_clamp (show n < 2 ^ 31 by omega)] at hP hD
          have hP : va_P D kls [(na, .inr (7, [.int (nI W0), .int (nI H0), .ref nwalls, .int (nI n), .ref nstarts, .ref ngoals, .ref nlaid, .ref nisTold, .int vfree, .ref ncells, .ref nindex, .ref nnear, .ref nnearCount, .ref npay, .ref ndone, .ref npile, .int vtop, .ref nnow, .ref nthen, .ref nchoice, .int vfound, .int vlength, .ref nplan, .ref ncosts, .ref npaid, .ref nafter, .ref nfar, .ref nmany, .ref nnext, .int vsort, .int vwhen, .int vone, .int vtwo])), (nwalls, .inl (cZ, 25, .inl wf)), (nstarts, .inl (cI, 25, .inl (upd sf n (nI a)))), (ngoals, .inl (cI, 25, .inl gf))] H := hP
          have hD : va_D A [(na, .inr (7, [.int (nI W0), .int (nI H0), .ref nwalls, .int (nI n), .ref nstarts, .ref ngoals, .ref nlaid, .ref nisTold, .int vfree, .ref ncells, .ref nindex, .ref nnear, .ref nnearCount, .ref npay, .ref ndone, .ref npile, .int vtop, .ref nnow, .ref nthen, .ref nchoice, .int vfound, .int vlength, .ref nplan, .ref ncosts, .ref npaid, .ref nafter, .ref nfar, .ref nmany, .ref nnext, .int vsort, .int vwhen, .int vone, .int vtwo])), (nwalls, .inl (cZ, 25, .inl wf)), (nstarts, .inl (cI, 25, .inl (upd sf n (nI a)))), (ngoals, .inl (cI, 25, .inl gf))] := hD
          refine lv_aload_n hx hb d_md_mover_107 rfl (lv_at hl 2 rfl) ?_
          refine gf_md_24 hx hb hg hown hK hP 0 rfl rfl d_md_mover_108 ?_
          refine lv_aload_n hx hb d_md_mover_111 rfl (lv_at hl 2 rfl) ?_
          refine gf_md_86 hx hb hg hown hK hP 0 rfl rfl d_md_mover_112 ?_
          refine lv_iload_n hx hb d_md_mover_115 rfl (lv_at hl 4 rfl) ?_
          refine va_iast hx hb hK hP hD hS 3 1 rfl rfl (vp_in_nI (show n < 25 by omega) (by decide)) d_md_mover_116 (fun H locs hP hD hS => ?_)
          rw [nI_clamp (show n < 2 ^ 31 by omega)] at hP hD
          have hP : va_P D kls [(na, .inr (7, [.int (nI W0), .int (nI H0), .ref nwalls, .int (nI n), .ref nstarts, .ref ngoals, .ref nlaid, .ref nisTold, .int vfree, .ref ncells, .ref nindex, .ref nnear, .ref nnearCount, .ref npay, .ref ndone, .ref npile, .int vtop, .ref nnow, .ref nthen, .ref nchoice, .int vfound, .int vlength, .ref nplan, .ref ncosts, .ref npaid, .ref nafter, .ref nfar, .ref nmany, .ref nnext, .int vsort, .int vwhen, .int vone, .int vtwo])), (nwalls, .inl (cZ, 25, .inl wf)), (nstarts, .inl (cI, 25, .inl (upd sf n (nI a)))), (ngoals, .inl (cI, 25, .inl (upd gf n (nI b))))] H := hP
          have hD : va_D A [(na, .inr (7, [.int (nI W0), .int (nI H0), .ref nwalls, .int (nI n), .ref nstarts, .ref ngoals, .ref nlaid, .ref nisTold, .int vfree, .ref ncells, .ref nindex, .ref nnear, .ref nnearCount, .ref npay, .ref ndone, .ref npile, .int vtop, .ref nnow, .ref nthen, .ref nchoice, .int vfound, .int vlength, .ref nplan, .ref ncosts, .ref npaid, .ref nafter, .ref nfar, .ref nmany, .ref nnext, .int vsort, .int vwhen, .int vone, .int vtwo])), (nwalls, .inl (cZ, 25, .inl wf)), (nstarts, .inl (cI, 25, .inl (upd sf n (nI a)))), (ngoals, .inl (cI, 25, .inl (upd gf n (nI b))))] := hD
          refine lv_aload_n hx hb d_md_mover_117 rfl (lv_at hl 2 rfl) ?_
          refine lv_dup hx hb d_md_mover_118 rfl ?_
          refine gf_md_86 hx hb hg hown hK hP 0 rfl rfl d_md_mover_119 ?_
          refine lv_iconst (v := 1) hx hb d_md_mover_122 (by decide) ?_
          refine lv_iadd hx hb d_md_mover_123 ?_
          refine lv_topi (fun y4 ey4 => ?_)
          have ey4 : y4 = nI (n + 1) := ey4.trans (nI_1 n)
          subst ey4
          refine pf_md_86 hx hb hg hown hK hP hD hS 0 rfl rfl rfl (Nat.le_of_ble_eq_true rfl) d_md_mover_124 (fun H locs hP hD hS => ?_)
          have hP : va_P D kls [(na, .inr (7, [.int (nI W0), .int (nI H0), .ref nwalls, .int (nI (n + 1)), .ref nstarts, .ref ngoals, .ref nlaid, .ref nisTold, .int vfree, .ref ncells, .ref nindex, .ref nnear, .ref nnearCount, .ref npay, .ref ndone, .ref npile, .int vtop, .ref nnow, .ref nthen, .ref nchoice, .int vfound, .int vlength, .ref nplan, .ref ncosts, .ref npaid, .ref nafter, .ref nfar, .ref nmany, .ref nnext, .int vsort, .int vwhen, .int vone, .int vtwo])), (nwalls, .inl (cZ, 25, .inl wf)), (nstarts, .inl (cI, 25, .inl (upd sf n (nI a)))), (ngoals, .inl (cI, 25, .inl (upd gf n (nI b))))] H := hP
          have hD : va_D A [(na, .inr (7, [.int (nI W0), .int (nI H0), .ref nwalls, .int (nI (n + 1)), .ref nstarts, .ref ngoals, .ref nlaid, .ref nisTold, .int vfree, .ref ncells, .ref nindex, .ref nnear, .ref nnearCount, .ref npay, .ref ndone, .ref npile, .int vtop, .ref nnow, .ref nthen, .ref nchoice, .int vfound, .int vlength, .ref nplan, .ref ncosts, .ref npaid, .ref nafter, .ref nfar, .ref nmany, .ref nnext, .int vsort, .int vwhen, .int vone, .int vtwo])), (nwalls, .inl (cZ, 25, .inl wf)), (nstarts, .inl (cI, 25, .inl (upd sf n (nI a)))), (ngoals, .inl (cI, 25, .inl (upd gf n (nI b))))] := hD
          refine lv_aload_n hx hb d_md_mover_127 rfl (lv_at hl 2 rfl) ?_
          refine lv_iconst (v := 0) hx hb d_md_mover_128 (by decide) ?_
          refine pf_md_89 hx hb hg hown hK hP hD hS 0 rfl rfl rfl (Nat.le_of_ble_eq_true rfl) d_md_mover_129 (fun H locs hP hD hS => ?_)
          have hP : va_P D kls [(na, .inr (7, [.int (nI W0), .int (nI H0), .ref nwalls, .int (nI (n + 1)), .ref nstarts, .ref ngoals, .ref nlaid, .ref nisTold, .int vfree, .ref ncells, .ref nindex, .ref nnear, .ref nnearCount, .ref npay, .ref ndone, .ref npile, .int vtop, .ref nnow, .ref nthen, .ref nchoice, .int 0, .int vlength, .ref nplan, .ref ncosts, .ref npaid, .ref nafter, .ref nfar, .ref nmany, .ref nnext, .int vsort, .int vwhen, .int vone, .int vtwo])), (nwalls, .inl (cZ, 25, .inl wf)), (nstarts, .inl (cI, 25, .inl (upd sf n (nI a)))), (ngoals, .inl (cI, 25, .inl (upd gf n (nI b))))] H := hP
          have hD : va_D A [(na, .inr (7, [.int (nI W0), .int (nI H0), .ref nwalls, .int (nI (n + 1)), .ref nstarts, .ref ngoals, .ref nlaid, .ref nisTold, .int vfree, .ref ncells, .ref nindex, .ref nnear, .ref nnearCount, .ref npay, .ref ndone, .ref npile, .int vtop, .ref nnow, .ref nthen, .ref nchoice, .int 0, .int vlength, .ref nplan, .ref ncosts, .ref npaid, .ref nafter, .ref nfar, .ref nmany, .ref nnext, .int vsort, .int vwhen, .int vone, .int vtwo])), (nwalls, .inl (cZ, 25, .inl wf)), (nstarts, .inl (cI, 25, .inl (upd sf n (nI a)))), (ngoals, .inl (cI, 25, .inl (upd gf n (nI b))))] := hD
          refine lv_aload_n hx hb d_md_mover_132 rfl (lv_at hl 2 rfl) ?_
          refine gf_md_86 hx hb hg hown hK hP 0 rfl rfl d_md_mover_133 ?_
          refine lv_iconst (v := 1) hx hb d_md_mover_136 (by decide) ?_
          refine lv_isub hx hb d_md_mover_137 ?_
          refine lv_topi (fun y5 ey5 => ?_)
          have ey5 : y5 = nI n := ey5.trans (nI_pred n)
          subst ey5
          have hP9 := hP
          have hD9 := hD
          exact W.iret hx hb hr (fun t ht hW => ⟨⟨nI n, (n + 1, upd sf n (nI a), upd gf n (nI b), 0), rfl, ⟨Or.inr ⟨rfl, ⟨a, b, rfl, rfl, haf, hbf, by rw [← g2e, ← (hjp.elim id (fun q => absurd q.1 (by omega))).1]; exact g9, fun i hi => hall i (by omega)⟩, rfl, rfl, rfl⟩, mv_take hI haf hbf (fun i hi => hall i (by omega)) (by rw [← g2e, ← (hjp.elim id (fun q => absurd q.1 (by omega))).1]; exact g9)⟩, by rw [ht]; exact hP9, hD9⟩, hS.F ht⟩) hS.2.2 d_md_mover_138
        ·
          have g9 : 16000 < jp := by rcases Nat.lt_or_ge 16000 jp with h | h; exact h; exact absurd (nI_le (b := 16000) h (by decide)) g9a
          refine lv_iconst (v := (-1)) hx hb d_md_mover_95 (by decide) ?_
          have hP9 := hP
          have hD9 := hD
          exact W.iret hx hb hr (fun t ht hW => ⟨⟨(-1), (n, sf, gf, vfound), rfl, ⟨Or.inl ⟨rfl, mo_no (Or.inr (Or.inl (by rw [← g2e]; exact hjp.elim (fun q => q.1 ▸ g9) (fun q => q.2.2)))), rfl, rfl, rfl⟩, hI⟩, by rw [ht]; exact hP9, hD9⟩, hS.F ht⟩) hS.2.2 d_md_mover_96
      ·
        have g2z : mm < n := by rcases Nat.lt_or_ge mm n with h | h; exact h; exact absurd (nI_le (a := n) h (by omega)) g3
        refine lv_aload_n hx hb d_md_mover_38 rfl (lv_at hl 2 rfl) ?_
        refine gf_md_20 hx hb hg hown hK hP 0 rfl rfl d_md_mover_39 ?_
        refine lv_iload hx hb d_md_mover_42 (lv_at hl 0 rfl) ?_
        refine va_iald hx hb hK hP 2 1 rfl rfl (vp_in_nI (show mm < 25 by omega) (by decide)) d_md_mover_44 ?_
        refine lv_topi (fun y6 ey6 => ?_)
        have ey6 : y6 = sf mm := ey6.trans (by rw [nI_clamp (show mm < 2 ^ 31 by omega)])
        subst ey6
        refine lv_iload_n hx hb d_md_mover_45 rfl (lv_at hl 3 rfl) ?_
        refine lv_icmp_eq hx hb d_md_mover_46 rfl (fun g6 => ?_) (fun g6 => ?_)
        ·
          refine lv_iconst (v := (-1)) hx hb d_md_mover_60 (by decide) ?_
          have hP9 := hP
          have hD9 := hD
          exact W.iret hx hb hr (fun t ht hW => ⟨⟨(-1), (n, sf, gf, vfound), rfl, ⟨Or.inl ⟨rfl, mo_no (Or.inr (Or.inr ⟨mm, g2z, Or.inl g6⟩)), rfl, rfl, rfl⟩, hI⟩, by rw [ht]; exact hP9, hD9⟩, hS.F ht⟩) hS.2.2 d_md_mover_61
        ·
          refine lv_aload_n hx hb d_md_mover_49 rfl (lv_at hl 2 rfl) ?_
          refine gf_md_24 hx hb hg hown hK hP 0 rfl rfl d_md_mover_50 ?_
          refine lv_iload hx hb d_md_mover_53 (lv_at hl 0 rfl) ?_
          refine va_iald hx hb hK hP 3 1 rfl rfl (vp_in_nI (show mm < 25 by omega) (by decide)) d_md_mover_55 ?_
          refine lv_topi (fun y7 ey7 => ?_)
          have ey7 : y7 = gf mm := ey7.trans (by rw [nI_clamp (show mm < 2 ^ 31 by omega)])
          subst ey7
          refine lv_iload_n hx hb d_md_mover_56 rfl (lv_at hl 4 rfl) ?_
          refine lv_icmp_ne hx hb d_md_mover_57 rfl (fun g7 => ?_) (fun g7 => ?_)
          ·
            have hall9 : ∀ i, i < mm + 1 → ¬ sf i = nI a ∧ ¬ gf i = nI b := fun i h => (Nat.lt_or_ge i mm).elim (fun h2 => hall i h2) (fun h2 => by rw [show i = mm from Nat.le_antisymm (Nat.le_of_lt_succ h) h2]; exact ⟨g6, g7⟩)
            refine lv_iload hx hb d_md_mover_62 (lv_at hl 1 rfl) ?_
            refine lv_sipush (v := 16000) hx hb d_md_mover_64 (by decide) ?_
            refine lv_icmp_le hx hb d_md_mover_67 rfl (fun g8a => ?_) (fun g8a => ?_)
            ·
              have g8 : jp ≤ 16000 := by rcases Nat.lt_or_ge 16000 jp with h | h; exact absurd g8a (nI_ge (a := 16000) h (by have := hjp; omega)); exact h
              refine lv_iload hx hb d_md_mover_75 (lv_at hl 1 rfl) ?_
              refine lv_iload_n hx hb d_md_mover_77 rfl (lv_at hl 5 rfl) ?_
              refine lv_imul hx hb d_md_mover_78 ?_
              refine lv_topi (fun y8 ey8 => ?_)
              have ey8 : y8 = nI (jp * fx_cnt wf (W0 * H0)) := ey8.trans (pk_mul _ _)
              subst ey8
              refine lv_istore hx hb d_md_mover_79 hl (by decide) rfl (fun ls hl => ?_)
              have hl : lv_has ls 6 [(4, .int (nI (jp * fx_cnt wf (W0 * H0)))), (5, .int (nI mm)), (0, .ref na), (1, .int (nI a)), (2, .int (nI b)), (3, .int (nI (fx_cnt wf (W0 * H0))))] := hl
              refine lv_iinc (k := 1) (v := nI (mm + 1)) hx hb d_md_mover_81 hl rfl ((nI_succ mm).symm) (by decide) rfl (fun ls hl => ?_)
              have hl : lv_has ls 6 [(5, .int (nI (mm + 1))), (4, .int (nI (jp * fx_cnt wf (W0 * H0)))), (0, .ref na), (1, .int (nI a)), (2, .int (nI b)), (3, .int (nI (fx_cnt wf (W0 * H0))))] := hl
              refine lv_goto hx hb d_md_mover_84 rfl ?_
              have hl := lv_sub hl [0, 1, 2, 3, 4, 5] (l' := [(5, .int (nI (mm + 1))), (4, .int (nI (jp * fx_cnt wf (W0 * H0)))), (0, .ref na), (1, .int (nI a)), (2, .int (nI b)), (3, .int (nI (fx_cnt wf (W0 * H0))))]) rfl
              exact ih_a (mm + 1, jp * fx_cnt wf (W0 * H0)) ls H _ (by show n - (mm + 1) < n - mm; omega) ⟨by show mm + 1 ≤ n; omega, Or.inl ⟨by rw [(hjp.elim id (fun q => absurd q.1 (by omega))).1, ← Nat.pow_succ], by have := Nat.mul_le_mul g8 hF25; show jp * fx_cnt wf (W0 * H0) ≤ 400000; omega⟩, hall9, hl, hP, hD, hS⟩
            ·
              have g8 : 16000 < jp := by rcases Nat.lt_or_ge 16000 jp with h | h; exact h; exact absurd (nI_le (b := 16000) h (by decide)) g8a
              refine lv_iload hx hb d_md_mover_70 (lv_at hl 1 rfl) ?_
              refine lv_goto hx hb d_md_mover_72 rfl ?_
              refine lv_istore hx hb d_md_mover_79 hl (by decide) rfl (fun ls hl => ?_)
              have hl : lv_has ls 6 [(4, .int (nI jp)), (5, .int (nI mm)), (0, .ref na), (1, .int (nI a)), (2, .int (nI b)), (3, .int (nI (fx_cnt wf (W0 * H0))))] := hl
              refine lv_iinc (k := 1) (v := nI (mm + 1)) hx hb d_md_mover_81 hl rfl ((nI_succ mm).symm) (by decide) rfl (fun ls hl => ?_)
              have hl : lv_has ls 6 [(5, .int (nI (mm + 1))), (4, .int (nI jp)), (0, .ref na), (1, .int (nI a)), (2, .int (nI b)), (3, .int (nI (fx_cnt wf (W0 * H0))))] := hl
              refine lv_goto hx hb d_md_mover_84 rfl ?_
              have hl := lv_sub hl [0, 1, 2, 3, 4, 5] (l' := [(5, .int (nI (mm + 1))), (4, .int (nI jp)), (0, .ref na), (1, .int (nI a)), (2, .int (nI b)), (3, .int (nI (fx_cnt wf (W0 * H0))))]) rfl
              exact ih_a (mm + 1, jp) ls H _ (by show n - (mm + 1) < n - mm; omega) ⟨by show mm + 1 ≤ n; omega, Or.inr ⟨g8, by have := hjp; omega, mo_pw (hjp.elim (fun q => q.1 ▸ g8) (fun q => q.2.2))⟩, hall9, hl, hP, hD, hS⟩
          ·
            refine lv_iconst (v := (-1)) hx hb d_md_mover_60 (by decide) ?_
            have hP9 := hP
            have hD9 := hD
            exact W.iret hx hb hr (fun t ht hW => ⟨⟨(-1), (n, sf, gf, vfound), rfl, ⟨Or.inl ⟨rfl, mo_no (Or.inr (Or.inr ⟨mm, g2z, Or.inr g7⟩)), rfl, rfl, rfl⟩, hI⟩, by rw [ht]; exact hP9, hD9⟩, hS.F ht⟩) hS.2.2 d_md_mover_61
    ·
      refine lv_iconst (v := (-1)) hx hb d_md_mover_16 (by decide) ?_
      have hP9 := hP
      have hD9 := hD
      exact W.iret hx hb hr (fun t ht hW => ⟨⟨(-1), (n, sf, gf, vfound), rfl, ⟨Or.inl ⟨rfl, Or.inl (fun hc => xv_nf hI.1.2.2.2 (hf2.elim (fun q => absurd (q.1.symm.trans g2) (by decide)) (fun q => q.2)) (mo_Cb hc)), rfl, rfl, rfl⟩, hI⟩, by rw [ht]; exact hP9, hD9⟩, hS.F ht⟩) hS.2.2 d_md_mover_17
