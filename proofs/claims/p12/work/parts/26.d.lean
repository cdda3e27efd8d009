def mv_v (v : Int32) : Prop := v = -1 ∨ ∃ k, k ≤ 25 ∧ v = nI k

/-! steps and one beside another -/
theorem ft_ad {W a b : Nat} (hW : 1 ≤ W ∧ W ≤ 6) (ha : a < 25) (hb : b < 25) : fx_adj W a b ↔ b = a ∨ mv_bs W b a := ft_ad0 W (by omega) hW.1 a ha b hb

set_option maxHeartbeats 4000000 in
set_option maxRecDepth 100000 in
theorem c_md_findFar (l : Launch) (D : va_G) (cZ cI cJ cII : ClassId) (na : Nat) (nwalls : Nat) (nstarts : Nat) (ngoals : Nat) (nlaid : Nat) (nisTold : Nat) (ncells : Nat) (nindex : Nat) (nnear : Nat) (nnearCount : Nat) (npay : Nat) (ndone : Nat) (npile : Nat) (nnow : Nat) (nthen : Nat) (nchoice : Nat) (nplan : Nat) (ncosts : Nat) (npaid : Nat) (nafter : Nat) (nfar : Nat) (nmany : Nat) (nnext : Nat) (vfree : Int32) (vtop : Int32) (vfound : Int32) (vlength : Int32) (vsort : Int32) (vwhen : Int32) (vone : Int32) (vtwo : Int32) (W0 : Nat) (H0 : Nat) (n : Nat) (wf : Nat → Int32) (ff : Nat → Int32) (gl : Nat) (sz : Nat) (hWH : 1 ≤ W0 ∧ W0 ≤ 6 ∧ H0 ≤ 6 ∧ W0 * H0 ≤ 25) (hgl : fx_fr (W0 * H0) wf gl) : Met l y_md_findFar w_md_findFar ({ frames := 1, cells := 0, slots := 0, locals := 40 }) (va_Pc [.ref na, .int (nI gl)] (mt_B D [(cZ, .boolean), (cI, .int), (cJ, .long), (cII, .array .int)] [(na, .inr (7, [.int (nI W0), .int (nI H0), .ref nwalls, .int (nI n), .ref nstarts, .ref ngoals, .ref nlaid, .ref nisTold, .int vfree, .ref ncells, .ref nindex, .ref nnear, .ref nnearCount, .ref npay, .ref ndone, .ref npile, .int vtop, .ref nnow, .ref nthen, .ref nchoice, .int vfound, .int vlength, .ref nplan, .ref ncosts, .ref npaid, .ref nafter, .ref nfar, .ref nmany, .ref nnext, .int vsort, .int vwhen, .int vone, .int vtwo])), (nfar, .inl (cI, 25, .inl ff)), (nwalls, .inl (cZ, 25, .inl wf))] sz)) ((fun A => va_Qv (fun (u : (Nat → Int32)) => wy_Ok (fx_fr (W0 * H0) wf) (ft_nb W0 (W0 * H0) wf) gl u) (fun (u : (Nat → Int32)) (t : State) => mt_O D A [(na, .inr (7, [.int (nI W0), .int (nI H0), .ref nwalls, .int (nI n), .ref nstarts, .ref ngoals, .ref nlaid, .ref nisTold, .int vfree, .ref ncells, .ref nindex, .ref nnear, .ref nnearCount, .ref npay, .ref ndone, .ref npile, .int vtop, .ref nnow, .ref nthen, .ref nchoice, .int vfound, .int vlength, .ref nplan, .ref ncosts, .ref npaid, .ref nafter, .ref nfar, .ref nmany, .ref nnext, .int vsort, .int vwhen, .int vone, .int vtwo])), (nfar, .inl (cI, 25, .inl u)), (nwalls, .inl (cZ, 25, .inl wf))] t) A) (va_A [(na, .inr (7, [.int (nI W0), .int (nI H0), .ref nwalls, .int (nI n), .ref nstarts, .ref ngoals, .ref nlaid, .ref nisTold, .int vfree, .ref ncells, .ref nindex, .ref nnear, .ref nnearCount, .ref npay, .ref ndone, .ref npile, .int vtop, .ref nnow, .ref nthen, .ref nchoice, .int vfound, .int vlength, .ref nplan, .ref ncosts, .ref npaid, .ref nafter, .ref nfar, .ref nmany, .ref nnext, .int vsort, .int vwhen, .int vone, .int vtwo])), (nfar, .inl (cI, 25, .inl ff)), (nwalls, .inl (cZ, 25, .inl wf))] sz)) 0 0 (va_A [(na, .inr (7, [.int (nI W0), .int (nI H0), .ref nwalls, .int (nI n), .ref nstarts, .ref ngoals, .ref nlaid, .ref nisTold, .int vfree, .ref ncells, .ref nindex, .ref nnear, .ref nnearCount, .ref npay, .ref ndone, .ref npile, .int vtop, .ref nnow, .ref nthen, .ref nchoice, .int vfound, .int vlength, .ref nplan, .ref ncosts, .ref npaid, .ref nafter, .ref nfar, .ref nmany, .ref nnext, .int vsort, .int vwhen, .int vone, .int vtwo])), (nfar, .inl (cI, 25, .inl ff)), (nwalls, .inl (cZ, 25, .inl wf))] sz) := by
  refine mt_of (y := y_md_findFar) (n := 5) (av := [.ref na, .int (nI gl)]) (QF := (fun A => va_Qv (fun (u : (Nat → Int32)) => wy_Ok (fx_fr (W0 * H0) wf) (ft_nb W0 (W0 * H0) wf) gl u) (fun (u : (Nat → Int32)) (t : State) => mt_O D A [(na, .inr (7, [.int (nI W0), .int (nI H0), .ref nwalls, .int (nI n), .ref nstarts, .ref ngoals, .ref nlaid, .ref nisTold, .int vfree, .ref ncells, .ref nindex, .ref nnear, .ref nnearCount, .ref npay, .ref ndone, .ref npile, .int vtop, .ref nnow, .ref nthen, .ref nchoice, .int vfound, .int vlength, .ref nplan, .ref ncosts, .ref npaid, .ref nafter, .ref nfar, .ref nmany, .ref nnext, .int vsort, .int vwhen, .int vone, .int vtwo])), (nfar, .inl (cI, 25, .inl u)), (nwalls, .inl (cZ, 25, .inl wf))] t) A)) (by decide) (Nat.le_of_ble_eq_true rfl) ?_
  intro p e s m below meth c ls A hx hb hr hlk hml hown hnm hg hl hX hP hK hD hA hS
  obtain ⟨H, hH⟩ : ∃ H : Heap, H = s.heap := ⟨_, rfl⟩
  have hS : va_S A s.heap H [] := by rw [hH]; exact va_S.rf
  rw [← hH] at hP ⊢
  have hown : s.vm.findClass R_md = some m.cls := hown
  have hl : lv_has ls 5 [(0, .ref na), (1, .int (nI gl))] := hl
  refine lv_iconst (v := 0) hx hb d_md_findFar_0 (by decide) ?_
  refine lv_istore_n hx hb d_md_findFar_1 rfl hl (by decide) rfl (fun ls hl => ?_)
  have hl : lv_has ls 5 [(2, .int 0), (0, .ref na), (1, .int (nI gl))] := hl
  have hl := lv_sub hl [0, 1, 2] (l' := [(2, .int (nI 0)), (0, .ref na), (1, .int (nI gl))]) rfl
  refine mt_loop (ι := Nat × (Nat → Int32)) (I := fun ix ls H locs => ((ix.1) ≤ 25) ∧ (∀ c, c < (ix.1) → (ix.2) c = if c = gl then 0 else -1) ∧ lv_has ls 5 [(2, .int (nI (ix.1))), (0, .ref na), (1, .int (nI gl))] ∧ va_P D kls [(na, .inr (7, [.int (nI W0), .int (nI H0), .ref nwalls, .int (nI n), .ref nstarts, .ref ngoals, .ref nlaid, .ref nisTold, .int vfree, .ref ncells, .ref nindex, .ref nnear, .ref nnearCount, .ref npay, .ref ndone, .ref npile, .int vtop, .ref nnow, .ref nthen, .ref nchoice, .int vfound, .int vlength, .ref nplan, .ref ncosts, .ref npaid, .ref nafter, .ref nfar, .ref nmany, .ref nnext, .int vsort, .int vwhen, .int vone, .int vtwo])), (nfar, .inl (cI, 25, .inl (ix.2))), (nwalls, .inl (cZ, 25, .inl wf))] H ∧ va_D A [(na, .inr (7, [.int (nI W0), .int (nI H0), .ref nwalls, .int (nI n), .ref nstarts, .ref ngoals, .ref nlaid, .ref nisTold, .int vfree, .ref ncells, .ref nindex, .ref nnear, .ref nnearCount, .ref npay, .ref ndone, .ref npile, .int vtop, .ref nnow, .ref nthen, .ref nchoice, .int vfound, .int vlength, .ref nplan, .ref ncosts, .ref npaid, .ref nafter, .ref nfar, .ref nmany, .ref nnext, .int vsort, .int vwhen, .int vone, .int vtwo])), (nfar, .inl (cI, 25, .inl (ix.2))), (nwalls, .inl (cZ, 25, .inl wf))] ∧ va_S A s.heap H locs) (μ := fun ix => 25 - (ix.1)) ?_ (0, ff) ls H _ ⟨Nat.zero_le _, fun c h => absurd h (Nat.not_lt_zero _), hl, hP, hD, hS⟩
  clear hl hP hD hS
  intro i_a ls H locs ⟨hz, hg9, hl, hP, hD, hS⟩ ih_a
  obtain ⟨z, g⟩ := i_a
  have hz : z ≤ 25 := hz
  have hg9 : ∀ c, c < z → g c = if c = gl then 0 else -1 := hg9
  have hl : lv_has ls 5 [(2, .int (nI z)), (0, .ref na), (1, .int (nI gl))] := hl
  have hP : va_P D kls [(na, .inr (7, [.int (nI W0), .int (nI H0), .ref nwalls, .int (nI n), .ref nstarts, .ref ngoals, .ref nlaid, .ref nisTold, .int vfree, .ref ncells, .ref nindex, .ref nnear, .ref nnearCount, .ref npay, .ref ndone, .ref npile, .int vtop, .ref nnow, .ref nthen, .ref nchoice, .int vfound, .int vlength, .ref nplan, .ref ncosts, .ref npaid, .ref nafter, .ref nfar, .ref nmany, .ref nnext, .int vsort, .int vwhen, .int vone, .int vtwo])), (nfar, .inl (cI, 25, .inl g)), (nwalls, .inl (cZ, 25, .inl wf))] H := hP
  have hD : va_D A [(na, .inr (7, [.int (nI W0), .int (nI H0), .ref nwalls, .int (nI n), .ref nstarts, .ref ngoals, .ref nlaid, .ref nisTold, .int vfree, .ref ncells, .ref nindex, .ref nnear, .ref nnearCount, .ref npay, .ref ndone, .ref npile, .int vtop, .ref nnow, .ref nthen, .ref nchoice, .int vfound, .int vlength, .ref nplan, .ref ncosts, .ref npaid, .ref nafter, .ref nfar, .ref nmany, .ref nnext, .int vsort, .int vwhen, .int vone, .int vtwo])), (nfar, .inl (cI, 25, .inl g)), (nwalls, .inl (cZ, 25, .inl wf))] := hD
  refine lv_iload_n hx hb d_md_findFar_2 rfl (lv_at hl 0 rfl) ?_
  refine lv_bipush (v := 25) hx hb d_md_findFar_3 (by decide) ?_
  refine lv_icmp_ge hx hb d_md_findFar_5 rfl (fun g1x => ?_) (fun g1x => ?_)
  ·
    have g2x : 25 ≤ z := by rcases Nat.lt_or_ge z 25 with h | h; exact absurd g1x (nI_ge (b := 25) h (by omega)); exact h
    refine lv_iconst (v := 0) hx hb d_md_findFar_30 (by decide) ?_
    refine lv_istore_n hx hb d_md_findFar_31 rfl hl (by decide) rfl (fun ls hl => ?_)
    have hl : lv_has ls 5 [(2, .int 0), (0, .ref na), (1, .int (nI gl))] := hl
    have hl := lv_sub hl [0, 1, 2] (l' := [(2, .int (nI 0)), (0, .ref na), (1, .int (nI gl))]) rfl
    refine mt_loop (ι := Nat × (Nat → Int32)) (I := fun ix ls H locs => ((ix.1) ≤ 25) ∧ (ff_I (fx_fr (W0 * H0) wf) (ft_nb W0 (W0 * H0) wf) gl (ix.1) 0 0 (ix.2)) ∧ lv_has ls 5 [(2, .int (nI (ix.1))), (0, .ref na), (1, .int (nI gl))] ∧ va_P D kls [(na, .inr (7, [.int (nI W0), .int (nI H0), .ref nwalls, .int (nI n), .ref nstarts, .ref ngoals, .ref nlaid, .ref nisTold, .int vfree, .ref ncells, .ref nindex, .ref nnear, .ref nnearCount, .ref npay, .ref ndone, .ref npile, .int vtop, .ref nnow, .ref nthen, .ref nchoice, .int vfound, .int vlength, .ref nplan, .ref ncosts, .ref npaid, .ref nafter, .ref nfar, .ref nmany, .ref nnext, .int vsort, .int vwhen, .int vone, .int vtwo])), (nfar, .inl (cI, 25, .inl (ix.2))), (nwalls, .inl (cZ, 25, .inl wf))] H ∧ va_D A [(na, .inr (7, [.int (nI W0), .int (nI H0), .ref nwalls, .int (nI n), .ref nstarts, .ref ngoals, .ref nlaid, .ref nisTold, .int vfree, .ref ncells, .ref nindex, .ref nnear, .ref nnearCount, .ref npay, .ref ndone, .ref npile, .int vtop, .ref nnow, .ref nthen, .ref nchoice, .int vfound, .int vlength, .ref nplan, .ref ncosts, .ref npaid, .ref nafter, .ref nfar, .ref nmany, .ref nnext, .int vsort, .int vwhen, .int vone, .int vtwo])), (nfar, .inl (cI, 25, .inl (ix.2))), (nwalls, .inl (cZ, 25, .inl wf))] ∧ va_S A s.heap H locs) (μ := fun ix => 25 - (ix.1)) ?_ (0, g) ls H _ ⟨Nat.zero_le _, ff_s hgl (by have := hgl.1; omega) (fun c9 h9 => hg9 c9 (by have : c9 < 25 := h9; omega)), hl, hP, hD, hS⟩
    clear hl hP hD hS
    intro i_b ls H locs ⟨hdz, hf1, hl, hP, hD, hS⟩ ih_b
    obtain ⟨dz, g1⟩ := i_b
    have hdz : dz ≤ 25 := hdz
    have hf1 : ff_I (fx_fr (W0 * H0) wf) (ft_nb W0 (W0 * H0) wf) gl dz 0 0 g1 := hf1
    have hl : lv_has ls 5 [(2, .int (nI dz)), (0, .ref na), (1, .int (nI gl))] := hl
    have hP : va_P D kls [(na, .inr (7, [.int (nI W0), .int (nI H0), .ref nwalls, .int (nI n), .ref nstarts, .ref ngoals, .ref nlaid, .ref nisTold, .int vfree, .ref ncells, .ref nindex, .ref nnear, .ref nnearCount, .ref npay, .ref ndone, .ref npile, .int vtop, .ref nnow, .ref nthen, .ref nchoice, .int vfound, .int vlength, .ref nplan, .ref ncosts, .ref npaid, .ref nafter, .ref nfar, .ref nmany, .ref nnext, .int vsort, .int vwhen, .int vone, .int vtwo])), (nfar, .inl (cI, 25, .inl g1)), (nwalls, .inl (cZ, 25, .inl wf))] H := hP
    have hD : va_D A [(na, .inr (7, [.int (nI W0), .int (nI H0), .ref nwalls, .int (nI n), .ref nstarts, .ref ngoals, .ref nlaid, .ref nisTold, .int vfree, .ref ncells, .ref nindex, .ref nnear, .ref nnearCount, .ref npay, .ref ndone, .ref npile, .int vtop, .ref nnow, .ref nthen, .ref nchoice, .int vfound, .int vlength, .ref nplan, .ref ncosts, .ref npaid, .ref nafter, .ref nfar, .ref nmany, .ref nnext, .int vsort, .int vwhen, .int vone, .int vtwo])), (nfar, .inl (cI, 25, .inl g1)), (nwalls, .inl (cZ, 25, .inl wf))] := hD
    refine lv_iload_n hx hb d_md_findFar_32 rfl (lv_at hl 0 rfl) ?_
    refine lv_bipush (v := 25) hx hb d_md_findFar_33 (by decide) ?_
    refine lv_icmp_ge hx hb d_md_findFar_35 rfl (fun g4x => ?_) (fun g4x => ?_)
    ·
      have g5x : 25 ≤ dz := by rcases Nat.lt_or_ge dz 25 with h | h; exact absurd g4x (nI_ge (b := 25) h (by omega)); exact h
      have g5e : dz = 25 := by omega
      have hP9 := hP
      have hD9 := hD
      exact W.vret hx hb hr (fun t ht hW => ⟨⟨g1, rfl, by rw [g5e] at hf1; exact ff_end (fun c9 b9 h9 => by have := h9.1.1; omega) hf1, by rw [ht]; exact hP9, hD9⟩, hS.F ht⟩) hS.2.2 d_md_findFar_139
    ·
      have g5x : dz < 25 := by rcases Nat.lt_or_ge dz 25 with h | h; exact h; exact absurd (nI_le (a := 25) h (by omega)) g4x
      refine lv_iconst (v := 0) hx hb d_md_findFar_38 (by decide) ?_
      refine lv_istore_n hx hb d_md_findFar_39 rfl hl (by decide) rfl (fun ls hl => ?_)
      have hl : lv_has ls 5 [(3, .int 0), (2, .int (nI dz)), (0, .ref na), (1, .int (nI gl))] := hl
      have hl := lv_sub hl [0, 1, 2, 3] (l' := [(3, .int (nI 0)), (2, .int (nI dz)), (0, .ref na), (1, .int (nI gl))]) rfl
      refine mt_loop (ι := Nat × (Nat → Int32)) (I := fun ix ls H locs => ((ix.1) ≤ W0 * H0) ∧ (ff_I (fx_fr (W0 * H0) wf) (ft_nb W0 (W0 * H0) wf) gl dz (ix.1) 0 (ix.2)) ∧ lv_has ls 5 [(3, .int (nI (ix.1))), (2, .int (nI dz)), (0, .ref na), (1, .int (nI gl))] ∧ va_P D kls [(na, .inr (7, [.int (nI W0), .int (nI H0), .ref nwalls, .int (nI n), .ref nstarts, .ref ngoals, .ref nlaid, .ref nisTold, .int vfree, .ref ncells, .ref nindex, .ref nnear, .ref nnearCount, .ref npay, .ref ndone, .ref npile, .int vtop, .ref nnow, .ref nthen, .ref nchoice, .int vfound, .int vlength, .ref nplan, .ref ncosts, .ref npaid, .ref nafter, .ref nfar, .ref nmany, .ref nnext, .int vsort, .int vwhen, .int vone, .int vtwo])), (nfar, .inl (cI, 25, .inl (ix.2))), (nwalls, .inl (cZ, 25, .inl wf))] H ∧ va_D A [(na, .inr (7, [.int (nI W0), .int (nI H0), .ref nwalls, .int (nI n), .ref nstarts, .ref ngoals, .ref nlaid, .ref nisTold, .int vfree, .ref ncells, .ref nindex, .ref nnear, .ref nnearCount, .ref npay, .ref ndone, .ref npile, .int vtop, .ref nnow, .ref nthen, .ref nchoice, .int vfound, .int vlength, .ref nplan, .ref ncosts, .ref npaid, .ref nafter, .ref nfar, .ref nmany, .ref nnext, .int vsort, .int vwhen, .int vone, .int vtwo])), (nfar, .inl (cI, 25, .inl (ix.2))), (nwalls, .inl (cZ, 25, .inl wf))] ∧ va_S A s.heap H locs) (μ := fun ix => W0 * H0 - (ix.1)) ?_ (0, g1) ls H _ ⟨Nat.zero_le _, hf1, hl, hP, hD, hS⟩
      clear hl hP hD hS
      intro i_c ls H locs ⟨hcz, hf2, hl, hP, hD, hS⟩ ih_c
      obtain ⟨cz, g2⟩ := i_c
      have hcz : cz ≤ W0 * H0 := hcz
      have hf2 : ff_I (fx_fr (W0 * H0) wf) (ft_nb W0 (W0 * H0) wf) gl dz cz 0 g2 := hf2
      have hl : lv_has ls 5 [(3, .int (nI cz)), (2, .int (nI dz)), (0, .ref na), (1, .int (nI gl))] := hl
      have hP : va_P D kls [(na, .inr (7, [.int (nI W0), .int (nI H0), .ref nwalls, .int (nI n), .ref nstarts, .ref ngoals, .ref nlaid, .ref nisTold, .int vfree, .ref ncells, .ref nindex, .ref nnear, .ref nnearCount, .ref npay, .ref ndone, .ref npile, .int vtop, .ref nnow, .ref nthen, .ref nchoice, .int vfound, .int vlength, .ref nplan, .ref ncosts, .ref npaid, .ref nafter, .ref nfar, .ref nmany, .ref nnext, .int vsort, .int vwhen, .int vone, .int vtwo])), (nfar, .inl (cI, 25, .inl g2)), (nwalls, .inl (cZ, 25, .inl wf))] H := hP
      have hD : va_D A [(na, .inr (7, [.int (nI W0), .int (nI H0), .ref nwalls, .int (nI n), .ref nstarts, .ref ngoals, .ref nlaid, .ref nisTold, .int vfree, .ref ncells, .ref nindex, .ref nnear, .ref nnearCount, .ref npay, .ref ndone, .ref npile, .int vtop, .ref nnow, .ref nthen, .ref nchoice, .int vfound, .int vlength, .ref nplan, .ref ncosts, .ref npaid, .ref nafter, .ref nfar, .ref nmany, .ref nnext, .int vsort, .int vwhen, .int vone, .int vtwo])), (nfar, .inl (cI, 25, .inl g2)), (nwalls, .inl (cZ, 25, .inl wf))] := hD
      refine lv_iload_n hx hb d_md_findFar_40 rfl (lv_at hl 0 rfl) ?_
      refine lv_aload_n hx hb d_md_findFar_41 rfl (lv_at hl 2 rfl) ?_
      have hPc := hP.sub (ws' := [(na, .inr (7, [.int (nI W0), .int (nI H0), .ref nwalls, .int (nI n), .ref nstarts, .ref ngoals, .ref nlaid, .ref nisTold, .int vfree, .ref ncells, .ref nindex, .ref nnear, .ref nnearCount, .ref npay, .ref ndone, .ref npile, .int vtop, .ref nnow, .ref nthen, .ref nchoice, .int vfound, .int vlength, .ref nplan, .ref ncosts, .ref npaid, .ref nafter, .ref nfar, .ref nmany, .ref nnext, .int vsort, .int vwhen, .int vone, .int vtwo]))]) [0] rfl
      have hDc := hD.sub (ws' := [(na, .inr (7, [.int (nI W0), .int (nI H0), .ref nwalls, .int (nI n), .ref nstarts, .ref ngoals, .ref nlaid, .ref nisTold, .int vfree, .ref ncells, .ref nindex, .ref nnear, .ref nnearCount, .ref npay, .ref ndone, .ref npile, .int vtop, .ref nnow, .ref nthen, .ref nchoice, .int vfound, .int vlength, .ref nplan, .ref ncosts, .ref npaid, .ref nafter, .ref nfar, .ref nmany, .ref nnext, .int vsort, .int vwhen, .int vone, .int vtwo]))]) [0] (by decide) rfl
      refine vp_callSi (W.runV (As := []) (rest := [.int (nI cz)]) ⟨hx, hb, hml, hown, hg⟩ (c_md_size l D cZ cI cJ cII na nwalls nstarts ngoals nlaid nisTold ncells nindex nnear nnearCount npay ndone npile nnow nthen nchoice nplan ncosts npaid nafter nfar nmany nnext (nI W0) (nI H0) (nI n) vfree vtop vfound vlength vsort vwhen vone vtwo H.size ) (cwV 0 hg gv_md_93 rfl rfl rfl (by decide +kernel) ⟨Nat.le_of_ble_eq_true rfl, Nat.le_of_ble_eq_true rfl⟩) ⟨mt_bl, va_recv (q0 := 0) (ci := 7) hK hP rfl rfl, mt_pr hX hPc hK hDc⟩ rfl rfl hl.1 rfl (lv_room (Nat.le_of_ble_eq_true rfl)) d_md_findFar_42 ⟨Nat.le_of_ble_eq_true rfl, Nat.le_of_ble_eq_true rfl⟩) (fun r1 hr1 => ?_)
      have hr1 : r1 = (nI W0) * (nI H0) := hr1
      have hr1 : r1 = nI (W0 * H0) := hr1.trans (pk_mul W0 H0)
      subst hr1
      refine lv_icmp_ge hx hb d_md_findFar_45 rfl (fun g6x => ?_) (fun g6x => ?_)
      ·
        have g7x : W0 * H0 ≤ cz := by rcases Nat.lt_or_ge cz (W0 * H0) with h | h; exact absurd g6x (nI_ge (b := (W0 * H0)) h (by omega)); exact h
        have hf5 : ff_I (fx_fr (W0 * H0) wf) (ft_nb W0 (W0 * H0) wf) gl (dz + 1) 0 0 g2 := ff_nd (fun a9 h9 => by have := h9.1; omega) hf2 (by omega)
        refine lv_iinc (k := 1) (v := nI (dz + 1)) hx hb d_md_findFar_133 hl rfl ((nI_succ dz).symm) (by decide) rfl (fun ls hl => ?_)
        have hl : lv_has ls 5 [(2, .int (nI (dz + 1))), (3, .int (nI cz)), (0, .ref na), (1, .int (nI gl))] := hl
        refine lv_goto hx hb d_md_findFar_136 rfl ?_
        have hl := lv_sub hl [0, 2, 3] (l' := [(2, .int (nI (dz + 1))), (0, .ref na), (1, .int (nI gl))]) rfl
        exact ih_b (dz + 1, g2) ls H _ (by show 25 - (dz + 1) < 25 - dz; omega) ⟨by show dz + 1 ≤ 25; omega, hf5, hl, hP, hD, hS⟩
      ·
        have g7x : cz < W0 * H0 := by rcases Nat.lt_or_ge cz (W0 * H0) with h | h; exact h; exact absurd (nI_le (a := (W0 * H0)) h (by omega)) g6x
        refine lv_iconst (v := 0) hx hb d_md_findFar_48 (by decide) ?_
        refine lv_istore hx hb d_md_findFar_49 hl (by decide) rfl (fun ls hl => ?_)
        have hl : lv_has ls 5 [(4, .int 0), (3, .int (nI cz)), (2, .int (nI dz)), (0, .ref na), (1, .int (nI gl))] := hl
        have hl := lv_sub hl [0, 1, 2, 3, 4] (l' := [(4, .int (nI 0)), (3, .int (nI cz)), (2, .int (nI dz)), (0, .ref na), (1, .int (nI gl))]) rfl
        refine mt_loop (ι := Nat × (Nat → Int32)) (I := fun ix ls H locs => ((ix.1) ≤ W0 * H0) ∧ (ff_I (fx_fr (W0 * H0) wf) (ft_nb W0 (W0 * H0) wf) gl dz cz (ix.1) (ix.2)) ∧ lv_has ls 5 [(4, .int (nI (ix.1))), (3, .int (nI cz)), (2, .int (nI dz)), (0, .ref na), (1, .int (nI gl))] ∧ va_P D kls [(na, .inr (7, [.int (nI W0), .int (nI H0), .ref nwalls, .int (nI n), .ref nstarts, .ref ngoals, .ref nlaid, .ref nisTold, .int vfree, .ref ncells, .ref nindex, .ref nnear, .ref nnearCount, .ref npay, .ref ndone, .ref npile, .int vtop, .ref nnow, .ref nthen, .ref nchoice, .int vfound, .int vlength, .ref nplan, .ref ncosts, .ref npaid, .ref nafter, .ref nfar, .ref nmany, .ref nnext, .int vsort, .int vwhen, .int vone, .int vtwo])), (nfar, .inl (cI, 25, .inl (ix.2))), (nwalls, .inl (cZ, 25, .inl wf))] H ∧ va_D A [(na, .inr (7, [.int (nI W0), .int (nI H0), .ref nwalls, .int (nI n), .ref nstarts, .ref ngoals, .ref nlaid, .ref nisTold, .int vfree, .ref ncells, .ref nindex, .ref nnear, .ref nnearCount, .ref npay, .ref ndone, .ref npile, .int vtop, .ref nnow, .ref nthen, .ref nchoice, .int vfound, .int vlength, .ref nplan, .ref ncosts, .ref npaid, .ref nafter, .ref nfar, .ref nmany, .ref nnext, .int vsort, .int vwhen, .int vone, .int vtwo])), (nfar, .inl (cI, 25, .inl (ix.2))), (nwalls, .inl (cZ, 25, .inl wf))] ∧ va_S A s.heap H locs) (μ := fun ix => W0 * H0 - (ix.1)) ?_ (0, g2) ls H _ ⟨Nat.zero_le _, hf2, hl, hP, hD, hS⟩
        clear hl hP hD hS
        intro i_d ls H locs ⟨hbz, hf3, hl, hP, hD, hS⟩ ih_d
        obtain ⟨bz, g3⟩ := i_d
        have hbz : bz ≤ W0 * H0 := hbz
        have hf3 : ff_I (fx_fr (W0 * H0) wf) (ft_nb W0 (W0 * H0) wf) gl dz cz bz g3 := hf3
        have hl : lv_has ls 5 [(4, .int (nI bz)), (3, .int (nI cz)), (2, .int (nI dz)), (0, .ref na), (1, .int (nI gl))] := hl
        have hP : va_P D kls [(na, .inr (7, [.int (nI W0), .int (nI H0), .ref nwalls, .int (nI n), .ref nstarts, .ref ngoals, .ref nlaid, .ref nisTold, .int vfree, .ref ncells, .ref nindex, .ref nnear, .ref nnearCount, .ref npay, .ref ndone, .ref npile, .int vtop, .ref nnow, .ref nthen, .ref nchoice, .int vfound, .int vlength, .ref nplan, .ref ncosts, .ref npaid, .ref nafter, .ref nfar, .ref nmany, .ref nnext, .int vsort, .int vwhen, .int vone, .int vtwo])), (nfar, .inl (cI, 25, .inl g3)), (nwalls, .inl (cZ, 25, .inl wf))] H := hP
        have hD : va_D A [(na, .inr (7, [.int (nI W0), .int (nI H0), .ref nwalls, .int (nI n), .ref nstarts, .ref ngoals, .ref nlaid, .ref nisTold, .int vfree, .ref ncells, .ref nindex, .ref nnear, .ref nnearCount, .ref npay, .ref ndone, .ref npile, .int vtop, .ref nnow, .ref nthen, .ref nchoice, .int vfound, .int vlength, .ref nplan, .ref ncosts, .ref npaid, .ref nafter, .ref nfar, .ref nmany, .ref nnext, .int vsort, .int vwhen, .int vone, .int vtwo])), (nfar, .inl (cI, 25, .inl g3)), (nwalls, .inl (cZ, 25, .inl wf))] := hD
        refine lv_iload hx hb d_md_findFar_51 (lv_at hl 0 rfl) ?_
        refine lv_aload_n hx hb d_md_findFar_53 rfl (lv_at hl 3 rfl) ?_
        have hPc := hP.sub (ws' := [(na, .inr (7, [.int (nI W0), .int (nI H0), .ref nwalls, .int (nI n), .ref nstarts, .ref ngoals, .ref nlaid, .ref nisTold, .int vfree, .ref ncells, .ref nindex, .ref nnear, .ref nnearCount, .ref npay, .ref ndone, .ref npile, .int vtop, .ref nnow, .ref nthen, .ref nchoice, .int vfound, .int vlength, .ref nplan, .ref ncosts, .ref npaid, .ref nafter, .ref nfar, .ref nmany, .ref nnext, .int vsort, .int vwhen, .int vone, .int vtwo]))]) [0] rfl
        have hDc := hD.sub (ws' := [(na, .inr (7, [.int (nI W0), .int (nI H0), .ref nwalls, .int (nI n), .ref nstarts, .ref ngoals, .ref nlaid, .ref nisTold, .int vfree, .ref ncells, .ref nindex, .ref nnear, .ref nnearCount, .ref npay, .ref ndone, .ref npile, .int vtop, .ref nnow, .ref nthen, .ref nchoice, .int vfound, .int vlength, .ref nplan, .ref ncosts, .ref npaid, .ref nafter, .ref nfar, .ref nmany, .ref nnext, .int vsort, .int vwhen, .int vone, .int vtwo]))]) [0] (by decide) rfl
        refine vp_callSi (W.runV (As := []) (rest := [.int (nI bz)]) ⟨hx, hb, hml, hown, hg⟩ (c_md_size l D cZ cI cJ cII na nwalls nstarts ngoals nlaid nisTold ncells nindex nnear nnearCount npay ndone npile nnow nthen nchoice nplan ncosts npaid nafter nfar nmany nnext (nI W0) (nI H0) (nI n) vfree vtop vfound vlength vsort vwhen vone vtwo H.size ) (cwV 0 hg gv_md_93 rfl rfl rfl (by decide +kernel) ⟨Nat.le_of_ble_eq_true rfl, Nat.le_of_ble_eq_true rfl⟩) ⟨mt_bl, va_recv (q0 := 0) (ci := 7) hK hP rfl rfl, mt_pr hX hPc hK hDc⟩ rfl rfl hl.1 rfl (lv_room (Nat.le_of_ble_eq_true rfl)) d_md_findFar_54 ⟨Nat.le_of_ble_eq_true rfl, Nat.le_of_ble_eq_true rfl⟩) (fun r2 hr2 => ?_)
        have hr2 : r2 = (nI W0) * (nI H0) := hr2
        have hr2 : r2 = nI (W0 * H0) := hr2.trans (pk_mul W0 H0)
        subst hr2
        refine lv_icmp_ge hx hb d_md_findFar_57 rfl (fun g8x => ?_) (fun g8x => ?_)
        ·
          have g9x : W0 * H0 ≤ bz := by rcases Nat.lt_or_ge bz (W0 * H0) with h | h; exact absurd g8x (nI_ge (b := (W0 * H0)) h (by omega)); exact h
          have hf4 : ff_I (fx_fr (W0 * H0) wf) (ft_nb W0 (W0 * H0) wf) gl dz (cz + 1) 0 g3 := ff_nc (fun c9 v9 h9 => by have := h9.1.1; omega) hf3
          refine lv_iinc (k := 1) (v := nI (cz + 1)) hx hb d_md_findFar_127 hl rfl ((nI_succ cz).symm) (by decide) rfl (fun ls hl => ?_)
          have hl : lv_has ls 5 [(3, .int (nI (cz + 1))), (4, .int (nI bz)), (2, .int (nI dz)), (0, .ref na), (1, .int (nI gl))] := hl
          refine lv_goto hx hb d_md_findFar_130 rfl ?_
          have hl := lv_sub hl [0, 2, 3, 4] (l' := [(3, .int (nI (cz + 1))), (2, .int (nI dz)), (0, .ref na), (1, .int (nI gl))]) rfl
          exact ih_c (cz + 1, g3) ls H _ (by show W0 * H0 - (cz + 1) < W0 * H0 - cz; omega) ⟨by show cz + 1 ≤ W0 * H0; omega, hf4, hl, hP, hD, hS⟩
        ·
          have g9x : bz < W0 * H0 := by rcases Nat.lt_or_ge bz (W0 * H0) with h | h; exact h; exact absurd (nI_le (a := (W0 * H0)) h (by omega)) g8x
          refine lv_aload_n hx hb d_md_findFar_60 rfl (lv_at hl 3 rfl) ?_
          refine gf_md_76 hx hb hg hown hK hP 0 rfl rfl d_md_findFar_61 ?_
          refine lv_iload_n hx hb d_md_findFar_64 rfl (lv_at hl 1 rfl) ?_
          refine va_iald hx hb hK hP 1 1 rfl rfl (vp_in_nI (show cz < 25 by omega) (by decide)) d_md_findFar_65 ?_
          refine lv_topi (fun y3 ey3 => ?_)
          have ey3 : y3 = g3 cz := ey3.trans (by rw [nI_clamp (show cz < 2 ^ 31 by omega)])
          subst ey3
          refine lv_iload_n hx hb d_md_findFar_66 rfl (lv_at hl 2 rfl) ?_
          refine lv_icmp_ne hx hb d_md_findFar_67 rfl (fun gax => ?_) (fun gax => ?_)
          ·
            have hf4 : ff_I (fx_fr (W0 * H0) wf) (ft_nb W0 (W0 * H0) wf) gl dz (cz + 1) 0 g3 := ff_nd0 hf3 gax
            refine lv_iinc (k := 1) (v := nI (cz + 1)) hx hb d_md_findFar_127 hl rfl ((nI_succ cz).symm) (by decide) rfl (fun ls hl => ?_)
            have hl : lv_has ls 5 [(3, .int (nI (cz + 1))), (4, .int (nI bz)), (2, .int (nI dz)), (0, .ref na), (1, .int (nI gl))] := hl
            refine lv_goto hx hb d_md_findFar_130 rfl ?_
            have hl := lv_sub hl [0, 2, 3, 4] (l' := [(3, .int (nI (cz + 1))), (2, .int (nI dz)), (0, .ref na), (1, .int (nI gl))]) rfl
            exact ih_c (cz + 1, g3) ls H _ (by show W0 * H0 - (cz + 1) < W0 * H0 - cz; omega) ⟨by show cz + 1 ≤ W0 * H0; omega, hf4, hl, hP, hD, hS⟩
          ·
            refine lv_aload_n hx hb d_md_findFar_70 rfl (lv_at hl 3 rfl) ?_
            refine gf_md_76 hx hb hg hown hK hP 0 rfl rfl d_md_findFar_71 ?_
            refine lv_iload hx hb d_md_findFar_74 (lv_at hl 0 rfl) ?_
            refine lv_aload_n hx hb d_md_findFar_76 rfl (lv_at hl 3 rfl) ?_
            refine gf_md_76 hx hb hg hown hK hP 0 rfl rfl d_md_findFar_77 ?_
            refine lv_iload hx hb d_md_findFar_80 (lv_at hl 0 rfl) ?_
            refine va_iald hx hb hK hP 1 1 rfl rfl (vp_in_nI (show bz < 25 by omega) (by decide)) d_md_findFar_82 ?_
            refine lv_topi (fun y4 ey4 => ?_)
            have ey4 : y4 = g3 bz := ey4.trans (by rw [nI_clamp (show bz < 2 ^ 31 by omega)])
            subst ey4
            refine lv_iconst (v := (-1)) hx hb d_md_findFar_83 (by decide) ?_
            refine lv_icmp_ne hx hb d_md_findFar_84 rfl (fun gbx => ?_) (fun gbx => ?_)
            ·
              have hf6 : ff_I (fx_fr (W0 * H0) wf) (ft_nb W0 (W0 * H0) wf) gl dz cz (bz + 1) g3 := ff_skip hf3 (fun _ _ => (hf3.2.1 bz (by omega)).elim (fun q => absurd q gbx) (fun q => q.2)) (by omega)
              refine lv_aload_n hx hb d_md_findFar_113 rfl (lv_at hl 3 rfl) ?_
              refine gf_md_76 hx hb hg hown hK hP 0 rfl rfl d_md_findFar_114 ?_
              refine lv_iload hx hb d_md_findFar_117 (lv_at hl 0 rfl) ?_
              refine va_iald hx hb hK hP 1 1 rfl rfl (vp_in_nI (show bz < 25 by omega) (by decide)) d_md_findFar_119 ?_
              refine lv_topi (fun y5 ey5 => ?_)
              have ey5 : y5 = g3 bz := ey5.trans (by rw [nI_clamp (show bz < 2 ^ 31 by omega)])
              subst ey5
              refine lv_topi (fun x6 ex6 => ?_)
              refine va_iast hx hb hK hP hD hS 1 1 rfl rfl (vp_in_nI (show bz < 25 by omega) (by decide)) d_md_findFar_120 (fun H locs hP hD hS => ?_)
              rw [nI_clamp (show bz < 2 ^ 31 by omega)] at hP hD
              have hP : va_P D kls [(na, .inr (7, [.int (nI W0), .int (nI H0), .ref nwalls, .int (nI n), .ref nstarts, .ref ngoals, .ref nlaid, .ref nisTold, .int vfree, .ref ncells, .ref nindex, .ref nnear, .ref nnearCount, .ref npay, .ref ndone, .ref npile, .int vtop, .ref nnow, .ref nthen, .ref nchoice, .int vfound, .int vlength, .ref nplan, .ref ncosts, .ref npaid, .ref nafter, .ref nfar, .ref nmany, .ref nnext, .int vsort, .int vwhen, .int vone, .int vtwo])), (nfar, .inl (cI, 25, .inl (upd g3 bz x6))), (nwalls, .inl (cZ, 25, .inl wf))] H := hP
              have hD : va_D A [(na, .inr (7, [.int (nI W0), .int (nI H0), .ref nwalls, .int (nI n), .ref nstarts, .ref ngoals, .ref nlaid, .ref nisTold, .int vfree, .ref ncells, .ref nindex, .ref nnear, .ref nnearCount, .ref npay, .ref ndone, .ref npile, .int vtop, .ref nnow, .ref nthen, .ref nchoice, .int vfound, .int vlength, .ref nplan, .ref ncosts, .ref npaid, .ref nafter, .ref nfar, .ref nmany, .ref nnext, .int vsort, .int vwhen, .int vone, .int vtwo])), (nfar, .inl (cI, 25, .inl (upd g3 bz x6))), (nwalls, .inl (cZ, 25, .inl wf))] := hD
              refine lv_iinc (k := 0) (v := nI (bz + 1)) hx hb d_md_findFar_121 hl rfl ((nI_succ bz).symm) (by decide) rfl (fun ls hl => ?_)
              have hl : lv_has ls 5 [(4, .int (nI (bz + 1))), (3, .int (nI cz)), (2, .int (nI dz)), (0, .ref na), (1, .int (nI gl))] := hl
              refine lv_goto hx hb d_md_findFar_124 rfl ?_
              have hl := lv_sub hl [0, 1, 2, 3, 4] (l' := [(4, .int (nI (bz + 1))), (3, .int (nI cz)), (2, .int (nI dz)), (0, .ref na), (1, .int (nI gl))]) rfl
              exact ih_d (bz + 1, upd g3 bz x6) ls H _ (by show W0 * H0 - (bz + 1) < W0 * H0 - bz; omega) ⟨by show bz + 1 ≤ W0 * H0; omega, ff_same (by assumption) hf6, hl, hP, hD, hS⟩
            ·
              refine lv_aload_n hx hb d_md_findFar_87 rfl (lv_at hl 3 rfl) ?_
              refine gf_md_16 hx hb hg hown hK hP 0 rfl rfl d_md_findFar_88 ?_
              refine lv_iload hx hb d_md_findFar_91 (lv_at hl 0 rfl) ?_
              refine va_zald hx hb hK hP 2 0 rfl rfl (vp_in_nI (show bz < 25 by omega) (by decide)) d_md_findFar_93 ?_
              refine lv_topi (fun y7 ey7 => ?_)
              have ey7 : y7 = wf bz := ey7.trans (by rw [nI_clamp (show bz < 2 ^ 31 by omega)])
              subst ey7
              refine lv_if_ne hx hb d_md_findFar_94 rfl (fun gcx => ?_) (fun gcx => ?_)
              ·
                have hf6 : ff_I (fx_fr (W0 * H0) wf) (ft_nb W0 (W0 * H0) wf) gl dz cz (bz + 1) g3 := ff_skip hf3 (fun q _ => absurd q.1.2 gcx) (by omega)
                refine lv_aload_n hx hb d_md_findFar_113 rfl (lv_at hl 3 rfl) ?_
                refine gf_md_76 hx hb hg hown hK hP 0 rfl rfl d_md_findFar_114 ?_
                refine lv_iload hx hb d_md_findFar_117 (lv_at hl 0 rfl) ?_
                refine va_iald hx hb hK hP 1 1 rfl rfl (vp_in_nI (show bz < 25 by omega) (by decide)) d_md_findFar_119 ?_
                refine lv_topi (fun y8 ey8 => ?_)
                have ey8 : y8 = g3 bz := ey8.trans (by rw [nI_clamp (show bz < 2 ^ 31 by omega)])
                subst ey8
                refine lv_topi (fun x9 ex9 => ?_)
                refine va_iast hx hb hK hP hD hS 1 1 rfl rfl (vp_in_nI (show bz < 25 by omega) (by decide)) d_md_findFar_120 (fun H locs hP hD hS => ?_)
                rw [nI_clamp (show bz < 2 ^ 31 by omega)] at hP hD
                have hP : va_P D kls [(na, .inr (7, [.int (nI W0), .int (nI H0), .ref nwalls, .int (nI n), .ref nstarts, .ref ngoals, .ref nlaid, .ref nisTold, .int vfree, .ref ncells, .ref nindex, .ref nnear, .ref nnearCount, .ref npay, .ref ndone, .ref npile, .int vtop, .ref nnow, .ref nthen, .ref nchoice, .int vfound, .int vlength, .ref nplan, .ref ncosts, .ref npaid, .ref nafter, .ref nfar, .ref nmany, .ref nnext, .int vsort, .int vwhen, .int vone, .int vtwo])), (nfar, .inl (cI, 25, .inl (upd g3 bz x9))), (nwalls, .inl (cZ, 25, .inl wf))] H := hP
                have hD : va_D A [(na, .inr (7, [.int (nI W0), .int (nI H0), .ref nwalls, .int (nI n), .ref nstarts, .ref ngoals, .ref nlaid, .ref nisTold, .int vfree, .ref ncells, .ref nindex, .ref nnear, .ref nnearCount, .ref npay, .ref ndone, .ref npile, .int vtop, .ref nnow, .ref nthen, .ref nchoice, .int vfound, .int vlength, .ref nplan, .ref ncosts, .ref npaid, .ref nafter, .ref nfar, .ref nmany, .ref nnext, .int vsort, .int vwhen, .int vone, .int vtwo])), (nfar, .inl (cI, 25, .inl (upd g3 bz x9))), (nwalls, .inl (cZ, 25, .inl wf))] := hD
                refine lv_iinc (k := 0) (v := nI (bz + 1)) hx hb d_md_findFar_121 hl rfl ((nI_succ bz).symm) (by decide) rfl (fun ls hl => ?_)
                have hl : lv_has ls 5 [(4, .int (nI (bz + 1))), (3, .int (nI cz)), (2, .int (nI dz)), (0, .ref na), (1, .int (nI gl))] := hl
                refine lv_goto hx hb d_md_findFar_124 rfl ?_
                have hl := lv_sub hl [0, 1, 2, 3, 4] (l' := [(4, .int (nI (bz + 1))), (3, .int (nI cz)), (2, .int (nI dz)), (0, .ref na), (1, .int (nI gl))]) rfl
                exact ih_d (bz + 1, upd g3 bz x9) ls H _ (by show W0 * H0 - (bz + 1) < W0 * H0 - bz; omega) ⟨by show bz + 1 ≤ W0 * H0; omega, ff_same (by assumption) hf6, hl, hP, hD, hS⟩
              ·
                refine lv_aload_n hx hb d_md_findFar_97 rfl (lv_at hl 3 rfl) ?_
                refine lv_iload hx hb d_md_findFar_98 (lv_at hl 0 rfl) ?_
                refine lv_iload_n hx hb d_md_findFar_100 rfl (lv_at hl 1 rfl) ?_
                have hPc := hP.sub (ws' := [(na, .inr (7, [.int (nI W0), .int (nI H0), .ref nwalls, .int (nI n), .ref nstarts, .ref ngoals, .ref nlaid, .ref nisTold, .int vfree, .ref ncells, .ref nindex, .ref nnear, .ref nnearCount, .ref npay, .ref ndone, .ref npile, .int vtop, .ref nnow, .ref nthen, .ref nchoice, .int vfound, .int vlength, .ref nplan, .ref ncosts, .ref npaid, .ref nafter, .ref nfar, .ref nmany, .ref nnext, .int vsort, .int vwhen, .int vone, .int vtwo]))]) [0] rfl
                have hDc := hD.sub (ws' := [(na, .inr (7, [.int (nI W0), .int (nI H0), .ref nwalls, .int (nI n), .ref nstarts, .ref ngoals, .ref nlaid, .ref nisTold, .int vfree, .ref ncells, .ref nindex, .ref nnear, .ref nnearCount, .ref npay, .ref ndone, .ref npile, .int vtop, .ref nnow, .ref nthen, .ref nchoice, .int vfound, .int vlength, .ref nplan, .ref ncosts, .ref npaid, .ref nafter, .ref nfar, .ref nmany, .ref nnext, .int vsort, .int vwhen, .int vone, .int vtwo]))]) [0] (by decide) rfl
                refine vp_callSi (W.runV (As := [.int (nI bz), .int (nI cz)]) (rest := [.int (nI bz), .ref nfar]) ⟨hx, hb, hml, hown, hg⟩ (c_md_isBeside l D cZ cI cJ cII na nwalls nstarts ngoals nlaid nisTold ncells nindex nnear nnearCount npay ndone npile nnow nthen nchoice nplan ncosts npaid nafter nfar nmany nnext vfree vtop vfound vlength vsort vwhen vone vtwo _ _ _ bz cz H.size hWH (by omega) (by omega)) (cwV 2 hg gv_md_107 rfl rfl rfl (by decide +kernel) ⟨Nat.le_of_ble_eq_true rfl, Nat.le_of_ble_eq_true rfl⟩) ⟨mt_bl, va_recv (q0 := 0) (ci := 7) hK hP rfl rfl, mt_pr hX hPc hK hDc⟩ rfl rfl hl.1 rfl (lv_room (Nat.le_of_ble_eq_true rfl)) d_md_findFar_101 ⟨Nat.le_of_ble_eq_true rfl, Nat.le_of_ble_eq_true rfl⟩) (fun r10 hr10 => ?_)
                have hr10 : (r10 = 1 ∧ mv_bs W0 bz cz) ∨ (r10 = 0 ∧ ¬ mv_bs W0 bz cz) := hr10
                have hbs := hr10
                refine lv_if_eq hx hb d_md_findFar_104 rfl (fun gdx => ?_) (fun gdx => ?_)
                ·
                  have gdb : ¬ mv_bs W0 bz cz := hbs.elim (fun q => absurd (q.1.symm.trans gdx) (by decide)) (fun q => q.2)
                  have hf6 : ff_I (fx_fr (W0 * H0) wf) (ft_nb W0 (W0 * H0) wf) gl dz cz (bz + 1) g3 := ff_skip hf3 (fun q q2 => ((ft_ad ⟨hWH.1, hWH.2.1⟩ (by omega) (by omega)).mp q.2).elim (fun q3 => absurd (show nI dz < 0 by rw [← q2, ← q3, gbx]; decide) (nI_pos (by omega))) (fun q3 => absurd q3 gdb)) (by omega)
                  refine lv_aload_n hx hb d_md_findFar_113 rfl (lv_at hl 3 rfl) ?_
                  refine gf_md_76 hx hb hg hown hK hP 0 rfl rfl d_md_findFar_114 ?_
                  refine lv_iload hx hb d_md_findFar_117 (lv_at hl 0 rfl) ?_
                  refine va_iald hx hb hK hP 1 1 rfl rfl (vp_in_nI (show bz < 25 by omega) (by decide)) d_md_findFar_119 ?_
                  refine lv_topi (fun y11 ey11 => ?_)
                  have ey11 : y11 = g3 bz := ey11.trans (by rw [nI_clamp (show bz < 2 ^ 31 by omega)])
                  subst ey11
                  refine lv_topi (fun x12 ex12 => ?_)
                  refine va_iast hx hb hK hP hD hS 1 1 rfl rfl (vp_in_nI (show bz < 25 by omega) (by decide)) d_md_findFar_120 (fun H locs hP hD hS => ?_)
                  rw [nI_clamp (show bz < 2 ^ 31 by omega)] at hP hD
                  have hP : va_P D kls [(na, .inr (7, [.int (nI W0), .int (nI H0), .ref nwalls, .int (nI n), .ref nstarts, .ref ngoals, .ref nlaid, .ref nisTold, .int vfree, .ref ncells, .ref nindex, .ref nnear, .ref nnearCount, .ref npay, .ref ndone, .ref npile, .int vtop, .ref nnow, .ref nthen, .ref nchoice, .int vfound, .int vlength, .ref nplan, .ref ncosts, .ref npaid, .ref nafter, .ref nfar, .ref nmany, .ref nnext, .int vsort, .int vwhen, .int vone, .int vtwo])), (nfar, .inl (cI, 25, .inl (upd g3 bz x12))), (nwalls, .inl (cZ, 25, .inl wf))] H := hP
                  have hD : va_D A [(na, .inr (7, [.int (nI W0), .int (nI H0), .ref nwalls, .int (nI n), .ref nstarts, .ref ngoals, .ref nlaid, .ref nisTold, .int vfree, .ref ncells, .ref nindex, .ref nnear, .ref nnearCount, .ref npay, .ref ndone, .ref npile, .int vtop, .ref nnow, .ref nthen, .ref nchoice, .int vfound, .int vlength, .ref nplan, .ref ncosts, .ref npaid, .ref nafter, .ref nfar, .ref nmany, .ref nnext, .int vsort, .int vwhen, .int vone, .int vtwo])), (nfar, .inl (cI, 25, .inl (upd g3 bz x12))), (nwalls, .inl (cZ, 25, .inl wf))] := hD
                  refine lv_iinc (k := 0) (v := nI (bz + 1)) hx hb d_md_findFar_121 hl rfl ((nI_succ bz).symm) (by decide) rfl (fun ls hl => ?_)
                  have hl : lv_has ls 5 [(4, .int (nI (bz + 1))), (3, .int (nI cz)), (2, .int (nI dz)), (0, .ref na), (1, .int (nI gl))] := hl
                  refine lv_goto hx hb d_md_findFar_124 rfl ?_
                  have hl := lv_sub hl [0, 1, 2, 3, 4] (l' := [(4, .int (nI (bz + 1))), (3, .int (nI cz)), (2, .int (nI dz)), (0, .ref na), (1, .int (nI gl))]) rfl
                  exact ih_d (bz + 1, upd g3 bz x12) ls H _ (by show W0 * H0 - (bz + 1) < W0 * H0 - bz; omega) ⟨by show bz + 1 ≤ W0 * H0; omega, ff_same (by assumption) hf6, hl, hP, hD, hS⟩
                ·
                  have gdb : mv_bs W0 bz cz := hbs.elim (fun q => q.2) (fun q => absurd q.1 gdx)
                  refine lv_iload_n hx hb d_md_findFar_107 rfl (lv_at hl 2 rfl) ?_
                  refine lv_iconst (v := 1) hx hb d_md_findFar_108 (by decide) ?_
                  refine lv_iadd hx hb d_md_findFar_109 ?_
                  refine lv_topi (fun y13 ey13 => ?_)
                  have ey13 : y13 = nI (dz + 1) := ey13.trans (nI_1 _)
                  subst ey13
                  refine lv_goto hx hb d_md_findFar_110 rfl ?_
                  refine va_iast hx hb hK hP hD hS 1 1 rfl rfl (vp_in_nI (show bz < 25 by omega) (by decide)) d_md_findFar_120 (fun H locs hP hD hS => ?_)
                  rw [nI_clamp (show bz < 2 ^ 31 by omega)] at hP hD
                  have hP : va_P D kls [(na, .inr (7, [.int (nI W0), .int (nI H0), .ref nwalls, .int (nI n), .ref nstarts, .ref ngoals, .ref nlaid, .ref nisTold, .int vfree, .ref ncells, .ref nindex, .ref nnear, .ref nnearCount, .ref npay, .ref ndone, .ref npile, .int vtop, .ref nnow, .ref nthen, .ref nchoice, .int vfound, .int vlength, .ref nplan, .ref ncosts, .ref npaid, .ref nafter, .ref nfar, .ref nmany, .ref nnext, .int vsort, .int vwhen, .int vone, .int vtwo])), (nfar, .inl (cI, 25, .inl (upd g3 bz (nI (dz + 1))))), (nwalls, .inl (cZ, 25, .inl wf))] H := hP
                  have hD : va_D A [(na, .inr (7, [.int (nI W0), .int (nI H0), .ref nwalls, .int (nI n), .ref nstarts, .ref ngoals, .ref nlaid, .ref nisTold, .int vfree, .ref ncells, .ref nindex, .ref nnear, .ref nnearCount, .ref npay, .ref ndone, .ref npile, .int vtop, .ref nnow, .ref nthen, .ref nchoice, .int vfound, .int vlength, .ref nplan, .ref ncosts, .ref npaid, .ref nafter, .ref nfar, .ref nmany, .ref nnext, .int vsort, .int vwhen, .int vone, .int vtwo])), (nfar, .inl (cI, 25, .inl (upd g3 bz (nI (dz + 1))))), (nwalls, .inl (cZ, 25, .inl wf))] := hD
                  refine lv_iinc (k := 0) (v := nI (bz + 1)) hx hb d_md_findFar_121 hl rfl ((nI_succ bz).symm) (by decide) rfl (fun ls hl => ?_)
                  have hl : lv_has ls 5 [(4, .int (nI (bz + 1))), (3, .int (nI cz)), (2, .int (nI dz)), (0, .ref na), (1, .int (nI gl))] := hl
                  refine lv_goto hx hb d_md_findFar_124 rfl ?_
                  have hl := lv_sub hl [0, 1, 2, 3, 4] (l' := [(4, .int (nI (bz + 1))), (3, .int (nI cz)), (2, .int (nI dz)), (0, .ref na), (1, .int (nI gl))]) rfl
                  exact ih_d (bz + 1, upd g3 bz (nI (dz + 1))) ls H _ (by show W0 * H0 - (bz + 1) < W0 * H0 - bz; omega) ⟨by show bz + 1 ≤ W0 * H0; omega, ff_add (by omega) (by omega) (by omega) hf3 gax gbx ⟨by omega, gcx⟩ ⟨⟨by omega, gcx⟩, (ft_ad ⟨hWH.1, hWH.2.1⟩ (by omega) (by omega)).mpr (Or.inr gdb)⟩, hl, hP, hD, hS⟩
  ·
    have g2x : z < 25 := by rcases Nat.lt_or_ge z 25 with h | h; exact h; exact absurd (nI_le (a := 25) h (by omega)) g1x
    refine lv_aload_n hx hb d_md_findFar_8 rfl (lv_at hl 1 rfl) ?_
    refine gf_md_76 hx hb hg hown hK hP 0 rfl rfl d_md_findFar_9 ?_
    refine lv_iload_n hx hb d_md_findFar_12 rfl (lv_at hl 0 rfl) ?_
    refine lv_iload_n hx hb d_md_findFar_13 rfl (lv_at hl 0 rfl) ?_
    refine lv_iload_n hx hb d_md_findFar_14 rfl (lv_at hl 2 rfl) ?_
    refine lv_icmp_ne hx hb d_md_findFar_15 rfl (fun g3x => ?_) (fun g3x => ?_)
    ·
      refine lv_iconst (v := (-1)) hx hb d_md_findFar_22 (by decide) ?_
      refine va_iast hx hb hK hP hD hS 1 1 rfl rfl (vp_in_nI g2x (by decide)) d_md_findFar_23 (fun H locs hP hD hS => ?_)
      rw [nI_clamp (show z < 2 ^ 31 by omega)] at hP hD
      have hP : va_P D kls [(na, .inr (7, [.int (nI W0), .int (nI H0), .ref nwalls, .int (nI n), .ref nstarts, .ref ngoals, .ref nlaid, .ref nisTold, .int vfree, .ref ncells, .ref nindex, .ref nnear, .ref nnearCount, .ref npay, .ref ndone, .ref npile, .int vtop, .ref nnow, .ref nthen, .ref nchoice, .int vfound, .int vlength, .ref nplan, .ref ncosts, .ref npaid, .ref nafter, .ref nfar, .ref nmany, .ref nnext, .int vsort, .int vwhen, .int vone, .int vtwo])), (nfar, .inl (cI, 25, .inl (upd g z (-1)))), (nwalls, .inl (cZ, 25, .inl wf))] H := hP
      have hD : va_D A [(na, .inr (7, [.int (nI W0), .int (nI H0), .ref nwalls, .int (nI n), .ref nstarts, .ref ngoals, .ref nlaid, .ref nisTold, .int vfree, .ref ncells, .ref nindex, .ref nnear, .ref nnearCount, .ref npay, .ref ndone, .ref npile, .int vtop, .ref nnow, .ref nthen, .ref nchoice, .int vfound, .int vlength, .ref nplan, .ref ncosts, .ref npaid, .ref nafter, .ref nfar, .ref nmany, .ref nnext, .int vsort, .int vwhen, .int vone, .int vtwo])), (nfar, .inl (cI, 25, .inl (upd g z (-1)))), (nwalls, .inl (cZ, 25, .inl wf))] := hD
      refine lv_iinc (k := 0) (v := nI (z + 1)) hx hb d_md_findFar_24 hl rfl ((nI_succ z).symm) (by decide) rfl (fun ls hl => ?_)
      have hl : lv_has ls 5 [(2, .int (nI (z + 1))), (0, .ref na), (1, .int (nI gl))] := hl
      refine lv_goto hx hb d_md_findFar_27 rfl ?_
      have hl := lv_sub hl [0, 1, 2] (l' := [(2, .int (nI (z + 1))), (0, .ref na), (1, .int (nI gl))]) rfl
      exact ih_a (z + 1, upd g z (-1)) ls H _ (by show 25 - (z + 1) < 25 - z; omega) ⟨by show z + 1 ≤ 25; omega, ff_ini hg9 (by rw [if_neg (fun q => g3x (by rw [q]))]), hl, hP, hD, hS⟩
    ·
      refine lv_iconst (v := 0) hx hb d_md_findFar_18 (by decide) ?_
      refine lv_goto hx hb d_md_findFar_19 rfl ?_
      refine va_iast hx hb hK hP hD hS 1 1 rfl rfl (vp_in_nI g2x (by decide)) d_md_findFar_23 (fun H locs hP hD hS => ?_)
      rw [nI_clamp (show z < 2 ^ 31 by omega)] at hP hD
      have hP : va_P D kls [(na, .inr (7, [.int (nI W0), .int (nI H0), .ref nwalls, .int (nI n), .ref nstarts, .ref ngoals, .ref nlaid, .ref nisTold, .int vfree, .ref ncells, .ref nindex, .ref nnear, .ref nnearCount, .ref npay, .ref ndone, .ref npile, .int vtop, .ref nnow, .ref nthen, .ref nchoice, .int vfound, .int vlength, .ref nplan, .ref ncosts, .ref npaid, .ref nafter, .ref nfar, .ref nmany, .ref nnext, .int vsort, .int vwhen, .int vone, .int vtwo])), (nfar, .inl (cI, 25, .inl (upd g z 0))), (nwalls, .inl (cZ, 25, .inl wf))] H := hP
      have hD : va_D A [(na, .inr (7, [.int (nI W0), .int (nI H0), .ref nwalls, .int (nI n), .ref nstarts, .ref ngoals, .ref nlaid, .ref nisTold, .int vfree, .ref ncells, .ref nindex, .ref nnear, .ref nnearCount, .ref npay, .ref ndone, .ref npile, .int vtop, .ref nnow, .ref nthen, .ref nchoice, .int vfound, .int vlength, .ref nplan, .ref ncosts, .ref npaid, .ref nafter, .ref nfar, .ref nmany, .ref nnext, .int vsort, .int vwhen, .int vone, .int vtwo])), (nfar, .inl (cI, 25, .inl (upd g z 0))), (nwalls, .inl (cZ, 25, .inl wf))] := hD
      refine lv_iinc (k := 0) (v := nI (z + 1)) hx hb d_md_findFar_24 hl rfl ((nI_succ z).symm) (by decide) rfl (fun ls hl => ?_)
      have hl : lv_has ls 5 [(2, .int (nI (z + 1))), (0, .ref na), (1, .int (nI gl))] := hl
      refine lv_goto hx hb d_md_findFar_27 rfl ?_
      have hl := lv_sub hl [0, 1, 2] (l' := [(2, .int (nI (z + 1))), (0, .ref na), (1, .int (nI gl))]) rfl
      exact ih_a (z + 1, upd g z 0) ls H _ (by show 25 - (z + 1) < 25 - z; omega) ⟨by show z + 1 ≤ 25; omega, ff_ini hg9 (by rw [if_pos ((nI_eq (by omega) (by have := hgl.1; omega)).mp g3x)]), hl, hP, hD, hS⟩

set_option maxHeartbeats 4000000 in
set_option maxRecDepth 100000 in
theorem c_md_distance (l : Launch) (D : va_G) (cZ cI cJ cII : ClassId) (na : Nat) (nwalls : Nat) (nstarts : Nat) (ngoals : Nat) (nlaid : Nat) (nisTold : Nat) (ncells : Nat) (nindex : Nat) (nnear : Nat) (nnearCount : Nat) (npay : Nat) (ndone : Nat) (npile : Nat) (nnow : Nat) (nthen : Nat) (nchoice : Nat) (nplan : Nat) (ncosts : Nat) (npaid : Nat) (nafter : Nat) (nfar : Nat) (nmany : Nat) (nnext : Nat) (vfree : Int32) (vtop : Int32) (vfound : Int32) (vlength : Int32) (vsort : Int32) (vwhen : Int32) (vone : Int32) (vtwo : Int32) (W0 : Nat) (H0 : Nat) (n : Nat) (wf : Nat → Int32) (sf : Nat → Int32) (gf : Nat → Int32) (ff : Nat → Int32) (x : Int32) (sz : Nat) (hI : mv_I W0 H0 n wf sf gf vfound vlength) : Met l y_md_distance w_md_distance ({ frames := 2, cells := 0, slots := 0, locals := 80 }) (va_Pc [.ref na, .int x] (mt_B D [(cZ, .boolean), (cI, .int), (cJ, .long), (cII, .array .int)] [(na, .inr (7, [.int (nI W0), .int (nI H0), .ref nwalls, .int (nI n), .ref nstarts, .ref ngoals, .ref nlaid, .ref nisTold, .int vfree, .ref ncells, .ref nindex, .ref nnear, .ref nnearCount, .ref npay, .ref ndone, .ref npile, .int vtop, .ref nnow, .ref nthen, .ref nchoice, .int vfound, .int vlength, .ref nplan, .ref ncosts, .ref npaid, .ref nafter, .ref nfar, .ref nmany, .ref nnext, .int vsort, .int vwhen, .int vone, .int vtwo])), (nstarts, .inl (cI, 25, .inl sf)), (ngoals, .inl (cI, 25, .inl gf)), (nfar, .inl (cI, 25, .inl ff)), (nwalls, .inl (cZ, 25, .inl wf))] sz)) ((fun A => va_Qi (fun (r : Int32) (u : (Nat → Int32)) => (mv_v r ∧ ds_P W0 (W0 * H0) n wf sf gf x r) ∧ (True)) (fun (u : (Nat → Int32)) (t : State) => mt_O D A [(na, .inr (7, [.int (nI W0), .int (nI H0), .ref nwalls, .int (nI n), .ref nstarts, .ref ngoals, .ref nlaid, .ref nisTold, .int vfree, .ref ncells, .ref nindex, .ref nnear, .ref nnearCount, .ref npay, .ref ndone, .ref npile, .int vtop, .ref nnow, .ref nthen, .ref nchoice, .int vfound, .int vlength, .ref nplan, .ref ncosts, .ref npaid, .ref nafter, .ref nfar, .ref nmany, .ref nnext, .int vsort, .int vwhen, .int vone, .int vtwo])), (nstarts, .inl (cI, 25, .inl sf)), (ngoals, .inl (cI, 25, .inl gf)), (nfar, .inl (cI, 25, .inl u)), (nwalls, .inl (cZ, 25, .inl wf))] t) A) (va_A [(na, .inr (7, [.int (nI W0), .int (nI H0), .ref nwalls, .int (nI n), .ref nstarts, .ref ngoals, .ref nlaid, .ref nisTold, .int vfree, .ref ncells, .ref nindex, .ref nnear, .ref nnearCount, .ref npay, .ref ndone, .ref npile, .int vtop, .ref nnow, .ref nthen, .ref nchoice, .int vfound, .int vlength, .ref nplan, .ref ncosts, .ref npaid, .ref nafter, .ref nfar, .ref nmany, .ref nnext, .int vsort, .int vwhen, .int vone, .int vtwo])), (nstarts, .inl (cI, 25, .inl sf)), (ngoals, .inl (cI, 25, .inl gf)), (nfar, .inl (cI, 25, .inl ff)), (nwalls, .inl (cZ, 25, .inl wf))] sz)) 0 0 (va_A [(na, .inr (7, [.int (nI W0), .int (nI H0), .ref nwalls, .int (nI n), .ref nstarts, .ref ngoals, .ref nlaid, .ref nisTold, .int vfree, .ref ncells, .ref nindex, .ref nnear, .ref nnearCount, .ref npay, .ref ndone, .ref npile, .int vtop, .ref nnow, .ref nthen, .ref nchoice, .int vfound, .int vlength, .ref nplan, .ref ncosts, .ref npaid, .ref nafter, .ref nfar, .ref nmany, .ref nnext, .int vsort, .int vwhen, .int vone, .int vtwo])), (nstarts, .inl (cI, 25, .inl sf)), (ngoals, .inl (cI, 25, .inl gf)), (nfar, .inl (cI, 25, .inl ff)), (nwalls, .inl (cZ, 25, .inl wf))] sz) := by
  refine mt_of (y := y_md_distance) (n := 2) (av := [.ref na, .int x]) (QF := (fun A => va_Qi (fun (r : Int32) (u : (Nat → Int32)) => (mv_v r ∧ ds_P W0 (W0 * H0) n wf sf gf x r) ∧ (True)) (fun (u : (Nat → Int32)) (t : State) => mt_O D A [(na, .inr (7, [.int (nI W0), .int (nI H0), .ref nwalls, .int (nI n), .ref nstarts, .ref ngoals, .ref nlaid, .ref nisTold, .int vfree, .ref ncells, .ref nindex, .ref nnear, .ref nnearCount, .ref npay, .ref ndone, .ref npile, .int vtop, .ref nnow, .ref nthen, .ref nchoice, .int vfound, .int vlength, .ref nplan, .ref ncosts, .ref npaid, .ref nafter, .ref nfar, .ref nmany, .ref nnext, .int vsort, .int vwhen, .int vone, .int vtwo])), (nstarts, .inl (cI, 25, .inl sf)), (ngoals, .inl (cI, 25, .inl gf)), (nfar, .inl (cI, 25, .inl u)), (nwalls, .inl (cZ, 25, .inl wf))] t) A)) (by decide) (Nat.le_of_ble_eq_true rfl) ?_
  intro p e s m below meth c ls A hx hb hr hlk hml hown hnm hg hl hX hP hK hD hA hS
  obtain ⟨H, hH⟩ : ∃ H : Heap, H = s.heap := ⟨_, rfl⟩
  have hS : va_S A s.heap H [] := by rw [hH]; exact va_S.rf
  rw [← hH] at hP ⊢
  have hown : s.vm.findClass R_md = some m.cls := hown
  have hl : lv_has ls 2 [(0, .ref na), (1, .int x)] := hl
  refine lv_aload_n hx hb d_md_distance_0 rfl (lv_at hl 0 rfl) ?_
  refine lv_iload_n hx hb d_md_distance_1 rfl (lv_at hl 1 rfl) ?_
  have hPc := hP.sub (ws' := [(na, .inr (7, [.int (nI W0), .int (nI H0), .ref nwalls, .int (nI n), .ref nstarts, .ref ngoals, .ref nlaid, .ref nisTold, .int vfree, .ref ncells, .ref nindex, .ref nnear, .ref nnearCount, .ref npay, .ref ndone, .ref npile, .int vtop, .ref nnow, .ref nthen, .ref nchoice, .int vfound, .int vlength, .ref nplan, .ref ncosts, .ref npaid, .ref nafter, .ref nfar, .ref nmany, .ref nnext, .int vsort, .int vwhen, .int vone, .int vtwo]))]) [0] rfl
  have hDc := hD.sub (ws' := [(na, .inr (7, [.int (nI W0), .int (nI H0), .ref nwalls, .int (nI n), .ref nstarts, .ref ngoals, .ref nlaid, .ref nisTold, .int vfree, .ref ncells, .ref nindex, .ref nnear, .ref nnearCount, .ref npay, .ref ndone, .ref npile, .int vtop, .ref nnow, .ref nthen, .ref nchoice, .int vfound, .int vlength, .ref nplan, .ref ncosts, .ref npaid, .ref nafter, .ref nfar, .ref nmany, .ref nnext, .int vsort, .int vwhen, .int vone, .int vtwo]))]) [0] (by decide) rfl
  refine vp_callSi (W.runV (As := [.int x]) (rest := []) ⟨hx, hb, hml, hown, hg⟩ (c_md_isMover l D cZ cI cJ cII na nwalls nstarts ngoals nlaid nisTold ncells nindex nnear nnearCount npay ndone npile nnow nthen nchoice nplan ncosts npaid nafter nfar nmany nnext vfree vtop vfound vlength vsort vwhen vone vtwo _ _ _ x H.size ) (cwV 1 hg gv_md_111 rfl rfl rfl (by decide +kernel) ⟨Nat.le_of_ble_eq_true rfl, Nat.le_of_ble_eq_true rfl⟩) ⟨mt_bl, va_recv (q0 := 0) (ci := 7) hK hP rfl rfl, mt_pr hX hPc hK hDc⟩ rfl rfl hl.1 rfl (lv_room (Nat.le_of_ble_eq_true rfl)) d_md_distance_2 ⟨Nat.le_of_ble_eq_true rfl, Nat.le_of_ble_eq_true rfl⟩) (fun r1 hr1 => ?_)
  have hr1 : (r1 = 1 ∧ ¬ x < 0 ∧ ¬ nI n ≤ x) ∨ (r1 = 0 ∧ (x < 0 ∨ nI n ≤ x)) := hr1
  have hhas := hr1
  refine lv_if_ne hx hb d_md_distance_5 rfl (fun g1 => ?_) (fun g1 => ?_)
  ·
    obtain ⟨h1, h2, h3, h4, sp, gl, h5, h6⟩ := hI
    obtain ⟨k, hkx, hk⟩ := xv_hs h2 (hhas.elim (fun q => q.2) (fun q => absurd q.1 g1))
    subst hkx
    have hsp25 : sp k < 25 := by have := (h5 k hk).2.1.1; omega
    have hgl25 : gl k < 25 := by have := (h5 k hk).2.2.2.1; omega
    have hl : lv_has ls 2 [(0, .ref na), (1, .int (nI k))] := hl
    refine lv_aload_n hx hb d_md_distance_10 rfl (lv_at hl 0 rfl) ?_
    refine lv_aload_n hx hb d_md_distance_11 rfl (lv_at hl 0 rfl) ?_
    refine gf_md_24 hx hb hg hown hK hP 0 rfl rfl d_md_distance_12 ?_
    refine lv_iload_n hx hb d_md_distance_15 rfl (lv_at hl 1 rfl) ?_
    refine va_iald hx hb hK hP 2 1 rfl rfl (vp_in_nI (by omega) (by decide)) d_md_distance_16 ?_
    refine lv_topi (fun y2 ey2 => ?_)
    have ey2 : y2 = nI (gl k) := ey2.trans (by rw [nI_clamp (show k < 2 ^ 31 by omega)]; exact (h5 k hk).2.2.1)
    subst ey2
    have hPc := hP.sub (ws' := [(na, .inr (7, [.int (nI W0), .int (nI H0), .ref nwalls, .int (nI n), .ref nstarts, .ref ngoals, .ref nlaid, .ref nisTold, .int vfree, .ref ncells, .ref nindex, .ref nnear, .ref nnearCount, .ref npay, .ref ndone, .ref npile, .int vtop, .ref nnow, .ref nthen, .ref nchoice, .int vfound, .int vlength, .ref nplan, .ref ncosts, .ref npaid, .ref nafter, .ref nfar, .ref nmany, .ref nnext, .int vsort, .int vwhen, .int vone, .int vtwo])), (nfar, .inl (cI, 25, .inl ff)), (nwalls, .inl (cZ, 25, .inl wf))]) [0, 3, 4] rfl
    have hDc := hD.sub (ws' := [(na, .inr (7, [.int (nI W0), .int (nI H0), .ref nwalls, .int (nI n), .ref nstarts, .ref ngoals, .ref nlaid, .ref nisTold, .int vfree, .ref ncells, .ref nindex, .ref nnear, .ref nnearCount, .ref npay, .ref ndone, .ref npile, .int vtop, .ref nnow, .ref nthen, .ref nchoice, .int vfound, .int vlength, .ref nplan, .ref ncosts, .ref npaid, .ref nafter, .ref nfar, .ref nmany, .ref nnext, .int vsort, .int vwhen, .int vone, .int vtwo])), (nfar, .inl (cI, 25, .inl ff)), (nwalls, .inl (cZ, 25, .inl wf))]) [0, 3, 4] (by decide) rfl
    have hFc := va_free (wc := [(na, .inr (7, [.int (nI W0), .int (nI H0), .ref nwalls, .int (nI n), .ref nstarts, .ref ngoals, .ref nlaid, .ref nisTold, .int vfree, .ref ncells, .ref nindex, .ref nnear, .ref nnearCount, .ref npay, .ref ndone, .ref npile, .int vtop, .ref nnow, .ref nthen, .ref nchoice, .int vfound, .int vlength, .ref nplan, .ref ncosts, .ref npaid, .ref nafter, .ref nfar, .ref nmany, .ref nnext, .int vsort, .int vwhen, .int vone, .int vtwo])), (nfar, .inl (cI, 25, .inl ff)), (nwalls, .inl (cZ, 25, .inl wf))]) hD hS hA [0, 3, 4] rfl
    refine va_callv (va_runV (As := [.int (nI (gl k))]) (rest := []) ⟨hx, hb, hml, hown, hg⟩ (c_md_findFar l D cZ cI cJ cII na nwalls nstarts ngoals nlaid nisTold ncells nindex nnear nnearCount npay ndone npile nnow nthen nchoice nplan ncosts npaid nafter nfar nmany nnext vfree vtop vfound vlength vsort vwhen vone vtwo _ _ _ wf ff (gl k) H.size h1 ((h5 k hk).2.2.2)) (cwV 1 hg gv_md_114 rfl rfl rfl (by decide +kernel) ⟨Nat.le_of_ble_eq_true rfl, Nat.le_of_ble_eq_true rfl⟩) ⟨mt_bl, va_recv (q0 := 0) (ci := 7) hK hP rfl rfl, mt_pr hX hPc hK hDc⟩ rfl rfl hl.1 rfl (lv_room (Nat.le_of_ble_eq_true rfl)) d_md_distance_17 ⟨Nat.le_of_ble_eq_true rfl, Nat.le_of_ble_eq_true rfl⟩) hS (fun q _ h => hFc q h) hFc (fun u t H1 locs ht hvm hw hB hz1 hk1 hS => ?_)
    obtain ⟨ff14, rfl⟩ : ∃ z, z = u := ⟨_, rfl⟩
    have hr3 : wy_Ok (fx_fr (W0 * H0) wf) (ft_nb W0 (W0 * H0) wf) (gl k) ff14 := hw
    obtain ⟨hP1, hD1⟩ := hB
    rw [ht] at hP1
    obtain ⟨hP, hD⟩ := va_join (wr := [(nstarts, .inl (cI, 25, .inl sf)), (ngoals, .inl (cI, 25, .inl gf))]) (w1 := [(na, .inr (7, [.int (nI W0), .int (nI H0), .ref nwalls, .int (nI n), .ref nstarts, .ref ngoals, .ref nlaid, .ref nisTold, .int vfree, .ref ncells, .ref nindex, .ref nnear, .ref nnearCount, .ref npay, .ref ndone, .ref npile, .int vtop, .ref nnow, .ref nthen, .ref nchoice, .int vfound, .int vlength, .ref nplan, .ref ncosts, .ref npaid, .ref nafter, .ref nfar, .ref nmany, .ref nnext, .int vsort, .int vwhen, .int vone, .int vtwo])), (nfar, .inl (cI, 25, .inl ff14)), (nwalls, .inl (cZ, 25, .inl wf))]) hP hD [0, 3, 4] [1, 2] rfl rfl (by decide) (by decide) hk1 hFc hP1 hD1
    generalize H1 = H at hP hS ⊢
    have hP : va_P D kls [(nstarts, .inl (cI, 25, .inl sf)), (ngoals, .inl (cI, 25, .inl gf)), (na, .inr (7, [.int (nI W0), .int (nI H0), .ref nwalls, .int (nI n), .ref nstarts, .ref ngoals, .ref nlaid, .ref nisTold, .int vfree, .ref ncells, .ref nindex, .ref nnear, .ref nnearCount, .ref npay, .ref ndone, .ref npile, .int vtop, .ref nnow, .ref nthen, .ref nchoice, .int vfound, .int vlength, .ref nplan, .ref ncosts, .ref npaid, .ref nafter, .ref nfar, .ref nmany, .ref nnext, .int vsort, .int vwhen, .int vone, .int vtwo])), (nfar, .inl (cI, 25, .inl ff14)), (nwalls, .inl (cZ, 25, .inl wf))] H := hP
    have hD : va_D A [(nstarts, .inl (cI, 25, .inl sf)), (ngoals, .inl (cI, 25, .inl gf)), (na, .inr (7, [.int (nI W0), .int (nI H0), .ref nwalls, .int (nI n), .ref nstarts, .ref ngoals, .ref nlaid, .ref nisTold, .int vfree, .ref ncells, .ref nindex, .ref nnear, .ref nnearCount, .ref npay, .ref ndone, .ref npile, .int vtop, .ref nnow, .ref nthen, .ref nchoice, .int vfound, .int vlength, .ref nplan, .ref ncosts, .ref npaid, .ref nafter, .ref nfar, .ref nmany, .ref nnext, .int vsort, .int vwhen, .int vone, .int vtwo])), (nfar, .inl (cI, 25, .inl ff14)), (nwalls, .inl (cZ, 25, .inl wf))] := hD
    have a9 := hr3
    refine lv_aload_n hx hb d_md_distance_20 rfl (lv_at hl 0 rfl) ?_
    refine gf_md_76 hx hb hg hown hK hP 2 rfl rfl d_md_distance_21 ?_
    refine lv_aload_n hx hb d_md_distance_24 rfl (lv_at hl 0 rfl) ?_
    refine gf_md_20 hx hb hg hown hK hP 2 rfl rfl d_md_distance_25 ?_
    refine lv_iload_n hx hb d_md_distance_28 rfl (lv_at hl 1 rfl) ?_
    refine va_iald hx hb hK hP 0 1 rfl rfl (vp_in_nI (by omega) (by decide)) d_md_distance_29 ?_
    refine lv_topi (fun y5 ey5 => ?_)
    have ey5 : y5 = nI (sp k) := ey5.trans (by rw [nI_clamp (show k < 2 ^ 31 by omega)]; exact (h5 k hk).1)
    subst ey5
    refine va_iald hx hb hK hP 3 1 rfl rfl (vp_in_nI (by have := (h5 k hk).2.1.1; omega) (by decide)) d_md_distance_30 ?_
    refine lv_topi (fun y6 ey6 => ?_)
    have ey6 : y6 = ff14 (sp k) := ey6.trans (by rw [nI_clamp (show sp k < 2 ^ 31 by omega)])
    subst ey6
    have hP9 := hP.sub (ws' := [(na, .inr (7, [.int (nI W0), .int (nI H0), .ref nwalls, .int (nI n), .ref nstarts, .ref ngoals, .ref nlaid, .ref nisTold, .int vfree, .ref ncells, .ref nindex, .ref nnear, .ref nnearCount, .ref npay, .ref ndone, .ref npile, .int vtop, .ref nnow, .ref nthen, .ref nchoice, .int vfound, .int vlength, .ref nplan, .ref ncosts, .ref npaid, .ref nafter, .ref nfar, .ref nmany, .ref nnext, .int vsort, .int vwhen, .int vone, .int vtwo])), (nstarts, .inl (cI, 25, .inl sf)), (ngoals, .inl (cI, 25, .inl gf)), (nfar, .inl (cI, 25, .inl ff14)), (nwalls, .inl (cZ, 25, .inl wf))]) [2, 0, 1, 3, 4] rfl
    have hD9 := hD.sub (ws' := [(na, .inr (7, [.int (nI W0), .int (nI H0), .ref nwalls, .int (nI n), .ref nstarts, .ref ngoals, .ref nlaid, .ref nisTold, .int vfree, .ref ncells, .ref nindex, .ref nnear, .ref nnearCount, .ref npay, .ref ndone, .ref npile, .int vtop, .ref nnow, .ref nthen, .ref nchoice, .int vfound, .int vlength, .ref nplan, .ref ncosts, .ref npaid, .ref nafter, .ref nfar, .ref nmany, .ref nnext, .int vsort, .int vwhen, .int vone, .int vtwo])), (nstarts, .inl (cI, 25, .inl sf)), (ngoals, .inl (cI, 25, .inl gf)), (nfar, .inl (cI, 25, .inl ff14)), (nwalls, .inl (cZ, 25, .inl wf))]) [2, 0, 1, 3, 4] (by decide) rfl
    exact W.iret hx hb hr (fun t ht hW => ⟨⟨ff14 (sp k), ff14, rfl, ⟨⟨ds_mv a9 (sp k) hsp25, Or.inr ⟨k, sp k, gl k, ff14, hk, rfl, (h5 k hk).1, (h5 k hk).2.2.1, (h5 k hk).2.1, (h5 k hk).2.2.2, a9, rfl⟩⟩, trivial⟩, by rw [ht]; exact hP9, hD9⟩, hS.F ht⟩) hS.2.2 d_md_distance_31
  ·
    refine lv_iconst (v := (-1)) hx hb d_md_distance_8 (by decide) ?_
    have hP9 := hP
    have hD9 := hD
    exact W.iret hx hb hr (fun t ht hW => ⟨⟨(-1), ff, rfl, ⟨⟨Or.inl rfl, Or.inl ⟨rfl, ds_v hI.2.1 (hhas.elim (fun q => absurd (q.1.symm.trans g1) (by decide)) (fun q => q.2))⟩⟩, trivial⟩, by rw [ht]; exact hP9, hD9⟩, hS.F ht⟩) hS.2.2 d_md_distance_9

set_option maxHeartbeats 4000000 in
set_option maxRecDepth 100000 in
theorem c_md_lay (l : Launch) (D : va_G) (cZ cI cJ cII : ClassId) (na : Nat) (nwalls : Nat) (nstarts : Nat) (ngoals : Nat) (nlaid : Nat) (nisTold : Nat) (ncells : Nat) (nindex : Nat) (nnear : Nat) (nnearCount : Nat) (npay : Nat) (ndone : Nat) (npile : Nat) (nnow : Nat) (nthen : Nat) (nchoice : Nat) (nplan : Nat) (ncosts : Nat) (npaid : Nat) (nafter : Nat) (nfar : Nat) (nmany : Nat) (nnext : Nat) (vfree : Int32) (vtop : Int32) (vfound : Int32) (vlength : Int32) (vsort : Int32) (vwhen : Int32) (vone : Int32) (vtwo : Int32) (W0 : Nat) (H0 : Nat) (n : Nat) (lf : Nat → Int32) (of : Nat → Int32) (x : Int32) (y : Int32) (ce : Int32) (sz : Nat)  : Met l y_md_lay w_md_lay ({ frames := 0, cells := 0, slots := 0, locals := 0 }) (va_Pc [.ref na, .int x, .int y, .int ce] (mt_B D [(cZ, .boolean), (cI, .int), (cJ, .long), (cII, .array .int)] [(na, .inr (7, [.int (nI W0), .int (nI H0), .ref nwalls, .int (nI n), .ref nstarts, .ref ngoals, .ref nlaid, .ref nisTold, .int vfree, .ref ncells, .ref nindex, .ref nnear, .ref nnearCount, .ref npay, .ref ndone, .ref npile, .int vtop, .ref nnow, .ref nthen, .ref nchoice, .int vfound, .int vlength, .ref nplan, .ref ncosts, .ref npaid, .ref nafter, .ref nfar, .ref nmany, .ref nnext, .int vsort, .int vwhen, .int vone, .int vtwo])), (nlaid, .inl (cI, 180, .inl lf)), (nisTold, .inl (cZ, 180, .inl of))] sz)) ((fun A => va_Qi (fun (r : Int32) (u : (Nat → Int32) × (Nat → Int32)) => ((ly_B x y ∧ r = -1 ∧ (u.1) = lf ∧ (u.2) = of) ∨ ∃ k tt, k < 6 ∧ tt < 30 ∧ x = nI k ∧ y = nI tt ∧ ((¬ of (30 * k + tt) = 0 ∧ r = lf (30 * k + tt)) ∨ (of (30 * k + tt) = 0 ∧ r = -1)) ∧ (u.1) = upd lf (30 * k + tt) ce ∧ (u.2) = upd of (30 * k + tt) 1) ∧ (True)) (fun (u : (Nat → Int32) × (Nat → Int32)) (t : State) => mt_O D A [(na, .inr (7, [.int (nI W0), .int (nI H0), .ref nwalls, .int (nI n), .ref nstarts, .ref ngoals, .ref nlaid, .ref nisTold, .int vfree, .ref ncells, .ref nindex, .ref nnear, .ref nnearCount, .ref npay, .ref ndone, .ref npile, .int vtop, .ref nnow, .ref nthen, .ref nchoice, .int vfound, .int vlength, .ref nplan, .ref ncosts, .ref npaid, .ref nafter, .ref nfar, .ref nmany, .ref nnext, .int vsort, .int vwhen, .int vone, .int vtwo])), (nlaid, .inl (cI, 180, .inl (u.1))), (nisTold, .inl (cZ, 180, .inl (u.2)))] t) A) (va_A [(na, .inr (7, [.int (nI W0), .int (nI H0), .ref nwalls, .int (nI n), .ref nstarts, .ref ngoals, .ref nlaid, .ref nisTold, .int vfree, .ref ncells, .ref nindex, .ref nnear, .ref nnearCount, .ref npay, .ref ndone, .ref npile, .int vtop, .ref nnow, .ref nthen, .ref nchoice, .int vfound, .int vlength, .ref nplan, .ref ncosts, .ref npaid, .ref nafter, .ref nfar, .ref nmany, .ref nnext, .int vsort, .int vwhen, .int vone, .int vtwo])), (nlaid, .inl (cI, 180, .inl lf)), (nisTold, .inl (cZ, 180, .inl of))] sz)) 0 0 (va_A [(na, .inr (7, [.int (nI W0), .int (nI H0), .ref nwalls, .int (nI n), .ref nstarts, .ref ngoals, .ref nlaid, .ref nisTold, .int vfree, .ref ncells, .ref nindex, .ref nnear, .ref nnearCount, .ref npay, .ref ndone, .ref npile, .int vtop, .ref nnow, .ref nthen, .ref nchoice, .int vfound, .int vlength, .ref nplan, .ref ncosts, .ref npaid, .ref nafter, .ref nfar, .ref nmany, .ref nnext, .int vsort, .int vwhen, .int vone, .int vtwo])), (nlaid, .inl (cI, 180, .inl lf)), (nisTold, .inl (cZ, 180, .inl of))] sz) := by
  refine mt_of (y := y_md_lay) (n := 5) (av := [.ref na, .int x, .int y, .int ce]) (QF := (fun A => va_Qi (fun (r : Int32) (u : (Nat → Int32) × (Nat → Int32)) => ((ly_B x y ∧ r = -1 ∧ (u.1) = lf ∧ (u.2) = of) ∨ ∃ k tt, k < 6 ∧ tt < 30 ∧ x = nI k ∧ y = nI tt ∧ ((¬ of (30 * k + tt) = 0 ∧ r = lf (30 * k + tt)) ∨ (of (30 * k + tt) = 0 ∧ r = -1)) ∧ (u.1) = upd lf (30 * k + tt) ce ∧ (u.2) = upd of (30 * k + tt) 1) ∧ (True)) (fun (u : (Nat → Int32) × (Nat → Int32)) (t : State) => mt_O D A [(na, .inr (7, [.int (nI W0), .int (nI H0), .ref nwalls, .int (nI n), .ref nstarts, .ref ngoals, .ref nlaid, .ref nisTold, .int vfree, .ref ncells, .ref nindex, .ref nnear, .ref nnearCount, .ref npay, .ref ndone, .ref npile, .int vtop, .ref nnow, .ref nthen, .ref nchoice, .int vfound, .int vlength, .ref nplan, .ref ncosts, .ref npaid, .ref nafter, .ref nfar, .ref nmany, .ref nnext, .int vsort, .int vwhen, .int vone, .int vtwo])), (nlaid, .inl (cI, 180, .inl (u.1))), (nisTold, .inl (cZ, 180, .inl (u.2)))] t) A)) (by decide) (Nat.le_of_ble_eq_true rfl) ?_
  intro p e s m below meth c ls A hx hb hr hlk hml hown hnm hg hl hX hP hK hD hA hS
  obtain ⟨H, hH⟩ : ∃ H : Heap, H = s.heap := ⟨_, rfl⟩
  have hS : va_S A s.heap H [] := by rw [hH]; exact va_S.rf
  rw [← hH] at hP ⊢
  have hown : s.vm.findClass R_md = some m.cls := hown
  have hl : lv_has ls 5 [(0, .ref na), (1, .int x), (2, .int y), (3, .int ce)] := hl
  refine lv_iload_n hx hb d_md_lay_0 rfl (lv_at hl 1 rfl) ?_
  refine lv_if_lt hx hb d_md_lay_1 rfl (fun g1 => ?_) (fun g1 => ?_)
  ·
    refine lv_iconst (v := (-1)) hx hb d_md_lay_20 (by decide) ?_
    have hP9 := hP
    have hD9 := hD
    exact W.iret hx hb hr (fun t ht hW => ⟨⟨(-1), (lf, of), rfl, ⟨Or.inl ⟨Or.inl g1, rfl, rfl, rfl⟩, trivial⟩, by rw [ht]; exact hP9, hD9⟩, hS.F ht⟩) hS.2.2 d_md_lay_21
  ·
    refine lv_iload_n hx hb d_md_lay_4 rfl (lv_at hl 1 rfl) ?_
    refine lv_bipush (v := 6) hx hb d_md_lay_5 (by decide) ?_
    refine lv_icmp_ge hx hb d_md_lay_7 rfl (fun g2 => ?_) (fun g2 => ?_)
    ·
      refine lv_iconst (v := (-1)) hx hb d_md_lay_20 (by decide) ?_
      have hP9 := hP
      have hD9 := hD
      exact W.iret hx hb hr (fun t ht hW => ⟨⟨(-1), (lf, of), rfl, ⟨Or.inl ⟨Or.inr (Or.inl g2), rfl, rfl, rfl⟩, trivial⟩, by rw [ht]; exact hP9, hD9⟩, hS.F ht⟩) hS.2.2 d_md_lay_21
    ·
      refine lv_iload_n hx hb d_md_lay_10 rfl (lv_at hl 2 rfl) ?_
      refine lv_if_lt hx hb d_md_lay_11 rfl (fun g3 => ?_) (fun g3 => ?_)
      ·
        refine lv_iconst (v := (-1)) hx hb d_md_lay_20 (by decide) ?_
        have hP9 := hP
        have hD9 := hD
        exact W.iret hx hb hr (fun t ht hW => ⟨⟨(-1), (lf, of), rfl, ⟨Or.inl ⟨Or.inr (Or.inr (Or.inl g3)), rfl, rfl, rfl⟩, trivial⟩, by rw [ht]; exact hP9, hD9⟩, hS.F ht⟩) hS.2.2 d_md_lay_21
      ·
        refine lv_iload_n hx hb d_md_lay_14 rfl (lv_at hl 2 rfl) ?_
        refine lv_bipush (v := 30) hx hb d_md_lay_15 (by decide) ?_
        refine lv_icmp_lt hx hb d_md_lay_17 rfl (fun g4 => ?_) (fun g4 => ?_)
        ·
          obtain ⟨k, hk, rfl⟩ := mt_rng (n := 6) (by decide) g1 (Int32.not_le.mp g2)
          obtain ⟨tt, htt, rfl⟩ := mt_rng (n := 30) (by decide) g3 g4
          have hkt : 30 * k + tt < 180 := by omega
          have hl : lv_has ls 5 [(0, .ref na), (1, .int (nI k)), (2, .int (nI tt)), (3, .int ce)] := hl
          refine lv_aload_n hx hb d_md_lay_22 rfl (lv_at hl 0 rfl) ?_
          refine gf_md_30 hx hb hg hown hK hP 0 rfl rfl d_md_lay_23 ?_
          refine lv_bipush (v := 30) hx hb d_md_lay_26 (by decide) ?_
          refine lv_iload_n hx hb d_md_lay_28 rfl (lv_at hl 1 rfl) ?_
          refine lv_imul hx hb d_md_lay_29 ?_
          refine lv_iload_n hx hb d_md_lay_30 rfl (lv_at hl 2 rfl) ?_
          refine lv_iadd hx hb d_md_lay_31 ?_
          refine lv_topi (fun y1 ey1 => ?_)
          have ey1 : y1 = nI (30 * k + tt) := ey1.trans (by rw [show (30 : Int32) = nI 30 from rfl, pk_mul, nI_add])
          subst ey1
          refine va_zald hx hb hK hP 2 0 rfl rfl (vp_in_nI hkt (by decide)) d_md_lay_32 ?_
          refine lv_topi (fun y2 ey2 => ?_)
          have ey2 : y2 = of (30 * k + tt) := ey2.trans (by rw [nI_clamp (show 30 * k + tt < 2 ^ 31 by omega)])
          subst ey2
          refine lv_if_eq hx hb d_md_lay_33 rfl (fun gz => ?_) (fun gz => ?_)
          ·
            refine lv_iconst (v := (-1)) hx hb d_md_lay_50 (by decide) ?_
            refine lv_istore hx hb d_md_lay_51 hl (by decide) rfl (fun ls hl => ?_)
            have hl : lv_has ls 5 [(4, .int (-1)), (0, .ref na), (1, .int (nI k)), (2, .int (nI tt)), (3, .int ce)] := hl
            refine lv_aload_n hx hb d_md_lay_53 rfl (lv_at hl 1 rfl) ?_
            refine gf_md_27 hx hb hg hown hK hP 0 rfl rfl d_md_lay_54 ?_
            refine lv_bipush (v := 30) hx hb d_md_lay_57 (by decide) ?_
            refine lv_iload_n hx hb d_md_lay_59 rfl (lv_at hl 2 rfl) ?_
            refine lv_imul hx hb d_md_lay_60 ?_
            refine lv_iload_n hx hb d_md_lay_61 rfl (lv_at hl 3 rfl) ?_
            refine lv_iadd hx hb d_md_lay_62 ?_
            refine lv_topi (fun y3 ey3 => ?_)
            have ey3 : y3 = nI (30 * k + tt) := ey3.trans (by rw [show (30 : Int32) = nI 30 from rfl, pk_mul, nI_add])
            subst ey3
            refine lv_iload_n hx hb d_md_lay_63 rfl (lv_at hl 4 rfl) ?_
            refine va_iast hx hb hK hP hD hS 1 1 rfl rfl (vp_in_nI hkt (by decide)) d_md_lay_64 (fun H locs hP hD hS => ?_)
            rw [nI_clamp (show 30 * k + tt < 2 ^ 31 by omega)] at hP hD
            have hP : va_P D kls [(na, .inr (7, [.int (nI W0), .int (nI H0), .ref nwalls, .int (nI n), .ref nstarts, .ref ngoals, .ref nlaid, .ref nisTold, .int vfree, .ref ncells, .ref nindex, .ref nnear, .ref nnearCount, .ref npay, .ref ndone, .ref npile, .int vtop, .ref nnow, .ref nthen, .ref nchoice, .int vfound, .int vlength, .ref nplan, .ref ncosts, .ref npaid, .ref nafter, .ref nfar, .ref nmany, .ref nnext, .int vsort, .int vwhen, .int vone, .int vtwo])), (nlaid, .inl (cI, 180, .inl (upd lf (30 * k + tt) ce))), (nisTold, .inl (cZ, 180, .inl of))] H := hP
            have hD : va_D A [(na, .inr (7, [.int (nI W0), .int (nI H0), .ref nwalls, .int (nI n), .ref nstarts, .ref ngoals, .ref nlaid, .ref nisTold, .int vfree, .ref ncells, .ref nindex, .ref nnear, .ref nnearCount, .ref npay, .ref ndone, .ref npile, .int vtop, .ref nnow, .ref nthen, .ref nchoice, .int vfound, .int vlength, .ref nplan, .ref ncosts, .ref npaid, .ref nafter, .ref nfar, .ref nmany, .ref nnext, .int vsort, .int vwhen, .int vone, .int vtwo])), (nlaid, .inl (cI, 180, .inl (upd lf (30 * k + tt) ce))), (nisTold, .inl (cZ, 180, .inl of))] := hD
            refine lv_aload_n hx hb d_md_lay_65 rfl (lv_at hl 1 rfl) ?_
            refine gf_md_30 hx hb hg hown hK hP 0 rfl rfl d_md_lay_66 ?_
            refine lv_bipush (v := 30) hx hb d_md_lay_69 (by decide) ?_
            refine lv_iload_n hx hb d_md_lay_71 rfl (lv_at hl 2 rfl) ?_
            refine lv_imul hx hb d_md_lay_72 ?_
            refine lv_iload_n hx hb d_md_lay_73 rfl (lv_at hl 3 rfl) ?_
            refine lv_iadd hx hb d_md_lay_74 ?_
            refine lv_topi (fun y4 ey4 => ?_)
            have ey4 : y4 = nI (30 * k + tt) := ey4.trans (by rw [show (30 : Int32) = nI 30 from rfl, pk_mul, nI_add])
            subst ey4
            refine lv_iconst (v := 1) hx hb d_md_lay_75 (by decide) ?_
            refine va_zast hx hb hK hP hD hS 2 0 rfl rfl (vp_in_nI hkt (by decide)) d_md_lay_76 (fun H locs hP hD hS => ?_)
            rw [nI_clamp (show 30 * k + tt < 2 ^ 31 by omega), show vp_nar .boolean 1 = 1 from rfl] at hP hD
            have hP : va_P D kls [(na, .inr (7, [.int (nI W0), .int (nI H0), .ref nwalls, .int (nI n), .ref nstarts, .ref ngoals, .ref nlaid, .ref nisTold, .int vfree, .ref ncells, .ref nindex, .ref nnear, .ref nnearCount, .ref npay, .ref ndone, .ref npile, .int vtop, .ref nnow, .ref nthen, .ref nchoice, .int vfound, .int vlength, .ref nplan, .ref ncosts, .ref npaid, .ref nafter, .ref nfar, .ref nmany, .ref nnext, .int vsort, .int vwhen, .int vone, .int vtwo])), (nlaid, .inl (cI, 180, .inl (upd lf (30 * k + tt) ce))), (nisTold, .inl (cZ, 180, .inl (upd of (30 * k + tt) 1)))] H := hP
            have hD : va_D A [(na, .inr (7, [.int (nI W0), .int (nI H0), .ref nwalls, .int (nI n), .ref nstarts, .ref ngoals, .ref nlaid, .ref nisTold, .int vfree, .ref ncells, .ref nindex, .ref nnear, .ref nnearCount, .ref npay, .ref ndone, .ref npile, .int vtop, .ref nnow, .ref nthen, .ref nchoice, .int vfound, .int vlength, .ref nplan, .ref ncosts, .ref npaid, .ref nafter, .ref nfar, .ref nmany, .ref nnext, .int vsort, .int vwhen, .int vone, .int vtwo])), (nlaid, .inl (cI, 180, .inl (upd lf (30 * k + tt) ce))), (nisTold, .inl (cZ, 180, .inl (upd of (30 * k + tt) 1)))] := hD
            refine lv_iload hx hb d_md_lay_77 (lv_at hl 0 rfl) ?_
            have hP9 := hP
            have hD9 := hD
            exact W.iret hx hb hr (fun t ht hW => ⟨⟨(-1), (upd lf (30 * k + tt) ce, upd of (30 * k + tt) 1), rfl, ⟨Or.inr ⟨k, tt, hk, htt, rfl, rfl, Or.inr ⟨gz, by first | rfl | assumption⟩, rfl, rfl⟩, trivial⟩, by rw [ht]; exact hP9, hD9⟩, hS.F ht⟩) hS.2.2 d_md_lay_79
          ·
            refine lv_aload_n hx hb d_md_lay_36 rfl (lv_at hl 0 rfl) ?_
            refine gf_md_27 hx hb hg hown hK hP 0 rfl rfl d_md_lay_37 ?_
            refine lv_bipush (v := 30) hx hb d_md_lay_40 (by decide) ?_
            refine lv_iload_n hx hb d_md_lay_42 rfl (lv_at hl 1 rfl) ?_
            refine lv_imul hx hb d_md_lay_43 ?_
            refine lv_iload_n hx hb d_md_lay_44 rfl (lv_at hl 2 rfl) ?_
            refine lv_iadd hx hb d_md_lay_45 ?_
            refine lv_topi (fun y5 ey5 => ?_)
            have ey5 : y5 = nI (30 * k + tt) := ey5.trans (by rw [show (30 : Int32) = nI 30 from rfl, pk_mul, nI_add])
            subst ey5
            refine va_iald hx hb hK hP 1 1 rfl rfl (vp_in_nI hkt (by decide)) d_md_lay_46 ?_
            refine lv_topi (fun y6 ey6 => ?_)
            have ey6 : y6 = lf (30 * k + tt) := ey6.trans (by rw [nI_clamp (show 30 * k + tt < 2 ^ 31 by omega)])
            subst ey6
            refine lv_goto hx hb d_md_lay_47 rfl ?_
            refine lv_topi (fun x7 ex7 => ?_)
            refine lv_istore hx hb d_md_lay_51 hl (by decide) rfl (fun ls hl => ?_)
            have hl : lv_has ls 5 [(4, .int x7), (0, .ref na), (1, .int (nI k)), (2, .int (nI tt)), (3, .int ce)] := hl
            refine lv_aload_n hx hb d_md_lay_53 rfl (lv_at hl 1 rfl) ?_
            refine gf_md_27 hx hb hg hown hK hP 0 rfl rfl d_md_lay_54 ?_
            refine lv_bipush (v := 30) hx hb d_md_lay_57 (by decide) ?_
            refine lv_iload_n hx hb d_md_lay_59 rfl (lv_at hl 2 rfl) ?_
            refine lv_imul hx hb d_md_lay_60 ?_
            refine lv_iload_n hx hb d_md_lay_61 rfl (lv_at hl 3 rfl) ?_
            refine lv_iadd hx hb d_md_lay_62 ?_
            refine lv_topi (fun y8 ey8 => ?_)
            have ey8 : y8 = nI (30 * k + tt) := ey8.trans (by rw [show (30 : Int32) = nI 30 from rfl, pk_mul, nI_add])
            subst ey8
            refine lv_iload_n hx hb d_md_lay_63 rfl (lv_at hl 4 rfl) ?_
            refine va_iast hx hb hK hP hD hS 1 1 rfl rfl (vp_in_nI hkt (by decide)) d_md_lay_64 (fun H locs hP hD hS => ?_)
            rw [nI_clamp (show 30 * k + tt < 2 ^ 31 by omega)] at hP hD
            have hP : va_P D kls [(na, .inr (7, [.int (nI W0), .int (nI H0), .ref nwalls, .int (nI n), .ref nstarts, .ref ngoals, .ref nlaid, .ref nisTold, .int vfree, .ref ncells, .ref nindex, .ref nnear, .ref nnearCount, .ref npay, .ref ndone, .ref npile, .int vtop, .ref nnow, .ref nthen, .ref nchoice, .int vfound, .int vlength, .ref nplan, .ref ncosts, .ref npaid, .ref nafter, .ref nfar, .ref nmany, .ref nnext, .int vsort, .int vwhen, .int vone, .int vtwo])), (nlaid, .inl (cI, 180, .inl (upd lf (30 * k + tt) ce))), (nisTold, .inl (cZ, 180, .inl of))] H := hP
            have hD : va_D A [(na, .inr (7, [.int (nI W0), .int (nI H0), .ref nwalls, .int (nI n), .ref nstarts, .ref ngoals, .ref nlaid, .ref nisTold, .int vfree, .ref ncells, .ref nindex, .ref nnear, .ref nnearCount, .ref npay, .ref ndone, .ref npile, .int vtop, .ref nnow, .ref nthen, .ref nchoice, .int vfound, .int vlength, .ref nplan, .ref ncosts, .ref npaid, .ref nafter, .ref nfar, .ref nmany, .ref nnext, .int vsort, .int vwhen, .int vone, .int vtwo])), (nlaid, .inl (cI, 180, .inl (upd lf (30 * k + tt) ce))), (nisTold, .inl (cZ, 180, .inl of))] := hD
            refine lv_aload_n hx hb d_md_lay_65 rfl (lv_at hl 1 rfl) ?_
            refine gf_md_30 hx hb hg hown hK hP 0 rfl rfl d_md_lay_66 ?_
            refine lv_bipush (v := 30) hx hb d_md_lay_69 (by decide) ?_
            refine lv_iload_n hx hb d_md_lay_71 rfl (lv_at hl 2 rfl) ?_
            refine lv_imul hx hb d_md_lay_72 ?_
            refine lv_iload_n hx hb d_md_lay_73 rfl (lv_at hl 3 rfl) ?_
            refine lv_iadd hx hb d_md_lay_74 ?_
            refine lv_topi (fun y9 ey9 => ?_)
            have ey9 : y9 = nI (30 * k + tt) := ey9.trans (by rw [show (30 : Int32) = nI 30 from rfl, pk_mul, nI_add])
            subst ey9
            refine lv_iconst (v := 1) hx hb d_md_lay_75 (by decide) ?_
            refine va_zast hx hb hK hP hD hS 2 0 rfl rfl (vp_in_nI hkt (by decide)) d_md_lay_76 (fun H locs hP hD hS => ?_)
            rw [nI_clamp (show 30 * k + tt < 2 ^ 31 by omega), show vp_nar .boolean 1 = 1 from rfl] at hP hD
            have hP : va_P D kls [(na, .inr (7, [.int (nI W0), .int (nI H0), .ref nwalls, .int (nI n), .ref nstarts, .ref ngoals, .ref nlaid, .ref nisTold, .int vfree, .ref ncells, .ref nindex, .ref nnear, .ref nnearCount, .ref npay, .ref ndone, .ref npile, .int vtop, .ref nnow, .ref nthen, .ref nchoice, .int vfound, .int vlength, .ref nplan, .ref ncosts, .ref npaid, .ref nafter, .ref nfar, .ref nmany, .ref nnext, .int vsort, .int vwhen, .int vone, .int vtwo])), (nlaid, .inl (cI, 180, .inl (upd lf (30 * k + tt) ce))), (nisTold, .inl (cZ, 180, .inl (upd of (30 * k + tt) 1)))] H := hP
            have hD : va_D A [(na, .inr (7, [.int (nI W0), .int (nI H0), .ref nwalls, .int (nI n), .ref nstarts, .ref ngoals, .ref nlaid, .ref nisTold, .int vfree, .ref ncells, .ref nindex, .ref nnear, .ref nnearCount, .ref npay, .ref ndone, .ref npile, .int vtop, .ref nnow, .ref nthen, .ref nchoice, .int vfound, .int vlength, .ref nplan, .ref ncosts, .ref npaid, .ref nafter, .ref nfar, .ref nmany, .ref nnext, .int vsort, .int vwhen, .int vone, .int vtwo])), (nlaid, .inl (cI, 180, .inl (upd lf (30 * k + tt) ce))), (nisTold, .inl (cZ, 180, .inl (upd of (30 * k + tt) 1)))] := hD
            refine lv_iload hx hb d_md_lay_77 (lv_at hl 0 rfl) ?_
            have hP9 := hP
            have hD9 := hD
            exact W.iret hx hb hr (fun t ht hW => ⟨⟨x7, (upd lf (30 * k + tt) ce, upd of (30 * k + tt) 1), rfl, ⟨Or.inr ⟨k, tt, hk, htt, rfl, rfl, Or.inl ⟨gz, by first | rfl | assumption⟩, rfl, rfl⟩, trivial⟩, by rw [ht]; exact hP9, hD9⟩, hS.F ht⟩) hS.2.2 d_md_lay_79
        ·
          refine lv_iconst (v := (-1)) hx hb d_md_lay_20 (by decide) ?_
          have hP9 := hP
          have hD9 := hD
          exact W.iret hx hb hr (fun t ht hW => ⟨⟨(-1), (lf, of), rfl, ⟨Or.inl ⟨Or.inr (Or.inr (Or.inr g4)), rfl, rfl, rfl⟩, trivial⟩, by rw [ht]; exact hP9, hD9⟩, hS.F ht⟩) hS.2.2 d_md_lay_21
