def go_M (n : Nat) (g q : Nat → Nat) (who : Nat) : Prop := ∀ i, i < n → who.testBit i = true → q i = g i
def go_v (B : Nat) (o : Option Nat) (v : Int32) : Prop := (o = none ∧ v = -1) ∨ ∃ u, o = some u ∧ u ≤ B ∧ v = nI u
/-- the least that was paid with these resting, behind a step -/
def go_S (n : Nat) (g p q : Nat → Nat) (paid : Nat → Option Nat) (z who : Nat) (cur : Option Nat) : Prop :=
  (∀ v, cur = some v → go_M n g q who ∧ ∃ had u, had < 2 ^ n ∧ had &&& who = had ∧ paid had = some u ∧ go_M n p q had ∧ v = u + (n - dj_pc had n)) ∧
  (∀ had u, had < 2 ^ n → had < z → had &&& who = had → paid had = some u → go_M n p q had → go_M n g q who → ∃ v, v ≤ u + (n - dj_pc had n) ∧ cur = some v)

set_option maxHeartbeats 4000000 in
set_option maxRecDepth 100000 in
theorem c_md_mayRest (l : Launch) (D : va_G) (cZ cI cJ cII : ClassId) (na : Nat) (nwalls : Nat) (nstarts : Nat) (ngoals : Nat) (nlaid : Nat) (nisTold : Nat) (ncells : Nat) (nindex : Nat) (nnear : Nat) (nnearCount : Nat) (npay : Nat) (ndone : Nat) (npile : Nat) (nnow : Nat) (nthen : Nat) (nchoice : Nat) (nplan : Nat) (ncosts : Nat) (npaid : Nat) (nafter : Nat) (nfar : Nat) (nmany : Nat) (nnext : Nat) (vfree : Int32) (vtop : Int32) (vfound : Int32) (vlength : Int32) (vsort : Int32) (vwhen : Int32) (vone : Int32) (vtwo : Int32) (W0 : Nat) (H0 : Nat) (n : Nat) (ro : Nat) (rf : Nat → Int32) (gf : Nat → Int32) (xf : Nat → Int32) (S : Nat) (q0 : Nat → Nat) (gl : Nat → Nat) (gi : Nat → Nat) (sz : Nat) (hn : n ≤ 5) (hS32 : S < 32) (hq : ∀ i, i < n → rf i = nI (q0 i) ∧ q0 i < 25) (hgl : ∀ i, i < n → gf i = nI (gl i) ∧ gl i < 25 ∧ xf (gl i) = nI (gi i) ∧ gi i < 25) : Met l y_md_mayRest w_md_mayRest ({ frames := 1, cells := 0, slots := 0, locals := 40 }) (va_Pc [.ref na, .int (nI S), .ref ro] (mt_B D [(cZ, .boolean), (cI, .int), (cJ, .long), (cII, .array .int)] [(na, .inr (7, [.int (nI W0), .int (nI H0), .ref nwalls, .int (nI n), .ref nstarts, .ref ngoals, .ref nlaid, .ref nisTold, .int vfree, .ref ncells, .ref nindex, .ref nnear, .ref nnearCount, .ref npay, .ref ndone, .ref npile, .int vtop, .ref nnow, .ref nthen, .ref nchoice, .int vfound, .int vlength, .ref nplan, .ref ncosts, .ref npaid, .ref nafter, .ref nfar, .ref nmany, .ref nnext, .int vsort, .int vwhen, .int vone, .int vtwo])), (ro, .inl (cI, 6, .inl rf)), (ngoals, .inl (cI, 25, .inl gf)), (nindex, .inl (cI, 25, .inl xf))] sz)) (vp_Si (fun r : Int32 => (r = 1 ∧ go_M n gi q0 S) ∨ (r = 0 ∧ ¬ go_M n gi q0 S))) 0 0 (fun _ => False) := by
  refine mt_ofR (by decide) (Nat.le_of_ble_eq_true rfl) ?_
  intro p e s m below meth c ls hx hb hr hlk hml hown hg hl hX hP hK hD
  have hown : s.vm.findClass R_md = some m.cls := hown
  obtain ⟨H, hH⟩ : ∃ H : Heap, H = s.heap := ⟨_, rfl⟩
  rw [← hH] at hP ⊢
  have hl : lv_has ls 5 [(0, .ref na), (1, .int (nI S)), (2, .ref ro)] := hl
  refine lv_iconst (v := 1) hx hb d_md_mayRest_0 (by decide) ?_
  refine lv_istore_n hx hb d_md_mayRest_1 rfl hl (by decide) rfl (fun ls hl => ?_)
  have hl : lv_has ls 5 [(3, .int 1), (0, .ref na), (1, .int (nI S)), (2, .ref ro)] := hl
  refine lv_iconst (v := 0) hx hb d_md_mayRest_2 (by decide) ?_
  refine lv_istore hx hb d_md_mayRest_3 hl (by decide) rfl (fun ls hl => ?_)
  have hl : lv_has ls 5 [(4, .int 0), (3, .int 1), (0, .ref na), (1, .int (nI S)), (2, .ref ro)] := hl
  have hl := lv_sub hl [0, 1, 2, 3, 4] (l' := [(4, .int (nI 0)), (3, .int 1), (0, .ref na), (1, .int (nI S)), (2, .ref ro)]) rfl
  refine mt_loop (ι := Nat × Int32) (I := fun ix ls H locs => ((ix.1) ≤ n) ∧ (((ix.2) = 1 ∧ ∀ i, i < (ix.1) → S.testBit i = true → q0 i = gi i) ∨ ((ix.2) = 0 ∧ ¬ go_M n gi q0 S)) ∧ lv_has ls 5 [(4, .int (nI (ix.1))), (3, .int (ix.2)), (0, .ref na), (1, .int (nI S)), (2, .ref ro)] ∧ va_P D kls [(na, .inr (7, [.int (nI W0), .int (nI H0), .ref nwalls, .int (nI n), .ref nstarts, .ref ngoals, .ref nlaid, .ref nisTold, .int vfree, .ref ncells, .ref nindex, .ref nnear, .ref nnearCount, .ref npay, .ref ndone, .ref npile, .int vtop, .ref nnow, .ref nthen, .ref nchoice, .int vfound, .int vlength, .ref nplan, .ref ncosts, .ref npaid, .ref nafter, .ref nfar, .ref nmany, .ref nnext, .int vsort, .int vwhen, .int vone, .int vtwo])), (ro, .inl (cI, 6, .inl rf)), (ngoals, .inl (cI, 25, .inl gf)), (nindex, .inl (cI, 25, .inl xf))] H ∧ H = s.heap ∧ locs = []) (μ := fun ix => n - (ix.1)) ?_ (0, 1) ls H _ ⟨Nat.zero_le _, Or.inl ⟨rfl, fun i h => absurd h (Nat.not_lt_zero _)⟩, hl, hP, hH, rfl⟩
  clear hl hP
  intro i_a ls H locs ⟨hmm, hv, hl, hP, hH, hlc⟩ ih_a
  obtain ⟨mm, v⟩ := i_a
  subst hlc
  have hmm : mm ≤ n := hmm
  have hv : (v = 1 ∧ ∀ i, i < mm → S.testBit i = true → q0 i = gi i) ∨ (v = 0 ∧ ¬ go_M n gi q0 S) := hv
  have hl : lv_has ls 5 [(4, .int (nI mm)), (3, .int v), (0, .ref na), (1, .int (nI S)), (2, .ref ro)] := hl
  have hP : va_P D kls [(na, .inr (7, [.int (nI W0), .int (nI H0), .ref nwalls, .int (nI n), .ref nstarts, .ref ngoals, .ref nlaid, .ref nisTold, .int vfree, .ref ncells, .ref nindex, .ref nnear, .ref nnearCount, .ref npay, .ref ndone, .ref npile, .int vtop, .ref nnow, .ref nthen, .ref nchoice, .int vfound, .int vlength, .ref nplan, .ref ncosts, .ref npaid, .ref nafter, .ref nfar, .ref nmany, .ref nnext, .int vsort, .int vwhen, .int vone, .int vtwo])), (ro, .inl (cI, 6, .inl rf)), (ngoals, .inl (cI, 25, .inl gf)), (nindex, .inl (cI, 25, .inl xf))] H := hP
  refine lv_iload hx hb d_md_mayRest_5 (lv_at hl 0 rfl) ?_
  refine lv_aload_n hx hb d_md_mayRest_7 rfl (lv_at hl 2 rfl) ?_
  refine gf_md_86 hx hb hg hown hK hP 0 rfl rfl d_md_mayRest_8 ?_
  refine lv_icmp_ge hx hb d_md_mayRest_11 rfl (fun g1 => ?_) (fun g1 => ?_)
  ·
    have g2 : n ≤ mm := by rcases Nat.lt_or_ge mm n with h | h; exact absurd g1 (nI_ge (b := n) h (by omega)); exact h
    refine lv_iload_n hx hb d_md_mayRest_58 rfl (lv_at hl 1 rfl) ?_
    rcases hv with ⟨e7, hz7⟩ | ⟨e7, hz7⟩
    ·
      subst e7
      exact W.zret hx hb hr rfl (fun t ht _ => ⟨1, rfl, Or.inl ⟨rfl, fun i hi => hz7 i (by omega)⟩, ht.trans hH⟩) (fun _ h => absurd h List.not_mem_nil) d_md_mayRest_59
    ·
      subst e7
      exact W.zret hx hb hr rfl (fun t ht _ => ⟨0, rfl, Or.inr ⟨rfl, hz7⟩, ht.trans hH⟩) (fun _ h => absurd h List.not_mem_nil) d_md_mayRest_59
  ·
    have g2 : mm < n := by rcases Nat.lt_or_ge mm n with h | h; exact h; exact absurd (nI_le (a := n) h (by omega)) g1
    have b1 := hq mm g2
    have b2 := hgl mm g2
    refine lv_iload_n hx hb d_md_mayRest_14 rfl (lv_at hl 1 rfl) ?_
    refine lv_if_eq hx hb d_md_mayRest_15 rfl (fun g3 => ?_) (fun g3 => ?_)
    ·
      have hv0 := hv.elim (fun q => absurd (q.1.symm.trans g3) (by decide)) (fun q => q.2)
      refine lv_iconst (v := 0) hx hb d_md_mayRest_50 (by decide) ?_
      refine lv_istore_n hx hb d_md_mayRest_51 rfl hl (by decide) rfl (fun ls hl => ?_)
      have hl : lv_has ls 5 [(3, .int 0), (4, .int (nI mm)), (0, .ref na), (1, .int (nI S)), (2, .ref ro)] := hl
      refine lv_iinc (k := 1) (v := nI (mm + 1)) hx hb d_md_mayRest_52 hl rfl ((nI_succ mm).symm) (by decide) rfl (fun ls hl => ?_)
      have hl : lv_has ls 5 [(4, .int (nI (mm + 1))), (3, .int 0), (0, .ref na), (1, .int (nI S)), (2, .ref ro)] := hl
      refine lv_goto hx hb d_md_mayRest_55 rfl ?_
      have hl := lv_sub hl [0, 1, 2, 3, 4] (l' := [(4, .int (nI (mm + 1))), (3, .int 0), (0, .ref na), (1, .int (nI S)), (2, .ref ro)]) rfl
      exact ih_a (mm + 1, 0) ls H _ (by show n - (mm + 1) < n - mm; omega) ⟨by show mm + 1 ≤ n; omega, Or.inr ⟨rfl, hv0⟩, hl, hP, hH, rfl⟩
    ·
      have hv1 := hv.elim (fun q => q.2) (fun q => absurd q.1 g3)
      refine lv_iload_n hx hb d_md_mayRest_18 rfl (lv_at hl 3 rfl) ?_
      refine lv_iload hx hb d_md_mayRest_19 (lv_at hl 0 rfl) ?_
      have hPc := hP.sub (ws' := []) [] rfl
      have hDc := hD.sub (ws' := []) [] (by decide) rfl
      refine vp_callSi (W.runS (As := [.int (nI S), .int (nI mm)]) (rest := []) ⟨hx, hb, hml, hown, hg⟩ (c_md_rests l D cZ cI cJ cII S mm H.size hS32 (by omega)) ⟨callB_of 2 hg gg_md_123 rfl rfl rfl (hg _ gi_md_123) (hg _ gl_md_123) (by decide +kernel) ⟨Nat.le_of_ble_eq_true rfl, Nat.le_of_ble_eq_true rfl⟩, hg _ gt_md_123⟩ ⟨mt_bl, mt_pr hX hPc hK hDc⟩ rfl rfl hl.1 rfl (lv_room (Nat.le_of_ble_eq_true rfl)) d_md_mayRest_21 ⟨Nat.le_of_ble_eq_true rfl, Nat.le_of_ble_eq_true rfl⟩) (fun r1 hr1 => ?_)
      have hr1 : (r1 = 1 ∧ S.testBit mm = true) ∨ (r1 = 0 ∧ S.testBit mm = false) := hr1
      have hib := hr1
      refine lv_if_eq hx hb d_md_mayRest_24 rfl (fun g4 => ?_) (fun g4 => ?_)
      ·
        have ht9 : S.testBit mm = false := hib.elim (fun q => absurd (q.1.symm.trans g4) (by decide)) (fun q => q.2)
        refine lv_iconst (v := 1) hx hb d_md_mayRest_46 (by decide) ?_
        refine lv_goto hx hb d_md_mayRest_47 rfl ?_
        refine lv_istore_n hx hb d_md_mayRest_51 rfl hl (by decide) rfl (fun ls hl => ?_)
        have hl : lv_has ls 5 [(3, .int 1), (4, .int (nI mm)), (0, .ref na), (1, .int (nI S)), (2, .ref ro)] := hl
        refine lv_iinc (k := 1) (v := nI (mm + 1)) hx hb d_md_mayRest_52 hl rfl ((nI_succ mm).symm) (by decide) rfl (fun ls hl => ?_)
        have hl : lv_has ls 5 [(4, .int (nI (mm + 1))), (3, .int 1), (0, .ref na), (1, .int (nI S)), (2, .ref ro)] := hl
        refine lv_goto hx hb d_md_mayRest_55 rfl ?_
        have hl := lv_sub hl [0, 1, 2, 3, 4] (l' := [(4, .int (nI (mm + 1))), (3, .int 1), (0, .ref na), (1, .int (nI S)), (2, .ref ro)]) rfl
        exact ih_a (mm + 1, 1) ls H _ (by show n - (mm + 1) < n - mm; omega) ⟨by show mm + 1 ≤ n; omega, Or.inl ⟨rfl, fun i hi hb9 => (Nat.lt_or_ge i mm).elim (fun h => hv1 i h hb9) (fun h => absurd hb9 (by rw [show i = mm from Nat.le_antisymm (Nat.le_of_lt_succ hi) h, ht9]; decide))⟩, hl, hP, hH, rfl⟩
      ·
        have ht9 : S.testBit mm = true := hib.elim (fun q => q.2) (fun q => absurd q.1 g4)
        refine lv_aload_n hx hb d_md_mayRest_27 rfl (lv_at hl 4 rfl) ?_
        refine lv_iload hx hb d_md_mayRest_28 (lv_at hl 0 rfl) ?_
        refine va_iald hx hb hK hP 1 1 rfl rfl (vp_in_nI (show mm < 6 by omega) (by decide)) d_md_mayRest_30 ?_
        refine lv_topi (fun y2 ey2 => ?_)
        have ey2 : y2 = nI (q0 mm) := ey2.trans (by rw [nI_clamp (show mm < 2 ^ 31 by omega)]; exact b1.1)
        subst ey2
        refine lv_aload_n hx hb d_md_mayRest_31 rfl (lv_at hl 2 rfl) ?_
        refine gf_md_36 hx hb hg hown hK hP 0 rfl rfl d_md_mayRest_32 ?_
        refine lv_aload_n hx hb d_md_mayRest_35 rfl (lv_at hl 2 rfl) ?_
        refine gf_md_24 hx hb hg hown hK hP 0 rfl rfl d_md_mayRest_36 ?_
        refine lv_iload hx hb d_md_mayRest_39 (lv_at hl 0 rfl) ?_
        refine va_iald hx hb hK hP 2 1 rfl rfl (vp_in_nI (show mm < 25 by omega) (by decide)) d_md_mayRest_41 ?_
        refine lv_topi (fun y3 ey3 => ?_)
        have ey3 : y3 = nI (gl mm) := ey3.trans (by rw [nI_clamp (show mm < 2 ^ 31 by omega)]; exact b2.1)
        subst ey3
        refine va_iald hx hb hK hP 3 1 rfl rfl (vp_in_nI (b2.2.1) (by decide)) d_md_mayRest_42 ?_
        refine lv_topi (fun y4 ey4 => ?_)
        have ey4 : y4 = nI (gi mm) := ey4.trans (by rw [nI_clamp (show gl mm < 2 ^ 31 by omega)]; exact b2.2.2.1)
        subst ey4
        refine lv_icmp_ne hx hb d_md_mayRest_43 rfl (fun g5 => ?_) (fun g5 => ?_)
        ·
          have f1 : ¬ q0 mm = gi mm := fun h => g5 (by rw [h])
          refine lv_iconst (v := 0) hx hb d_md_mayRest_50 (by decide) ?_
          refine lv_istore_n hx hb d_md_mayRest_51 rfl hl (by decide) rfl (fun ls hl => ?_)
          have hl : lv_has ls 5 [(3, .int 0), (4, .int (nI mm)), (0, .ref na), (1, .int (nI S)), (2, .ref ro)] := hl
          refine lv_iinc (k := 1) (v := nI (mm + 1)) hx hb d_md_mayRest_52 hl rfl ((nI_succ mm).symm) (by decide) rfl (fun ls hl => ?_)
          have hl : lv_has ls 5 [(4, .int (nI (mm + 1))), (3, .int 0), (0, .ref na), (1, .int (nI S)), (2, .ref ro)] := hl
          refine lv_goto hx hb d_md_mayRest_55 rfl ?_
          have hl := lv_sub hl [0, 1, 2, 3, 4] (l' := [(4, .int (nI (mm + 1))), (3, .int 0), (0, .ref na), (1, .int (nI S)), (2, .ref ro)]) rfl
          exact ih_a (mm + 1, 0) ls H _ (by show n - (mm + 1) < n - mm; omega) ⟨by show mm + 1 ≤ n; omega, Or.inr ⟨rfl, fun h => f1 (h mm g2 ht9)⟩, hl, hP, hH, rfl⟩
        ·
          have f1 : q0 mm = gi mm := (nI_eq (by omega) (by omega)).mp g5
          refine lv_iconst (v := 1) hx hb d_md_mayRest_46 (by decide) ?_
          refine lv_goto hx hb d_md_mayRest_47 rfl ?_
          refine lv_istore_n hx hb d_md_mayRest_51 rfl hl (by decide) rfl (fun ls hl => ?_)
          have hl : lv_has ls 5 [(3, .int 1), (4, .int (nI mm)), (0, .ref na), (1, .int (nI S)), (2, .ref ro)] := hl
          refine lv_iinc (k := 1) (v := nI (mm + 1)) hx hb d_md_mayRest_52 hl rfl ((nI_succ mm).symm) (by decide) rfl (fun ls hl => ?_)
          have hl : lv_has ls 5 [(4, .int (nI (mm + 1))), (3, .int 1), (0, .ref na), (1, .int (nI S)), (2, .ref ro)] := hl
          refine lv_goto hx hb d_md_mayRest_55 rfl ?_
          have hl := lv_sub hl [0, 1, 2, 3, 4] (l' := [(4, .int (nI (mm + 1))), (3, .int 1), (0, .ref na), (1, .int (nI S)), (2, .ref ro)]) rfl
          exact ih_a (mm + 1, 1) ls H _ (by show n - (mm + 1) < n - mm; omega) ⟨by show mm + 1 ≤ n; omega, Or.inl ⟨rfl, fun i hi hb9 => (Nat.lt_or_ge i mm).elim (fun h => hv1 i h hb9) (fun h => by rw [show i = mm from Nat.le_antisymm (Nat.le_of_lt_succ hi) h]; exact f1)⟩, hl, hP, hH, rfl⟩

set_option maxHeartbeats 4000000 in
set_option maxRecDepth 100000 in
theorem c_md_stays (l : Launch) (D : va_G) (cZ cI cJ cII : ClassId) (na : Nat) (nwalls : Nat) (nstarts : Nat) (ngoals : Nat) (nlaid : Nat) (nisTold : Nat) (ncells : Nat) (nindex : Nat) (nnear : Nat) (nnearCount : Nat) (npay : Nat) (ndone : Nat) (npile : Nat) (nnow : Nat) (nthen : Nat) (nchoice : Nat) (nplan : Nat) (ncosts : Nat) (npaid : Nat) (nafter : Nat) (nfar : Nat) (nmany : Nat) (nnext : Nat) (vfree : Int32) (vtop : Int32) (vfound : Int32) (vlength : Int32) (vsort : Int32) (vwhen : Int32) (vone : Int32) (vtwo : Int32) (W0 : Nat) (H0 : Nat) (n : Nat) (tf : Nat → Int32) (qf : Nat → Int32) (S : Nat) (p0 : Nat → Nat) (q0 : Nat → Nat) (sz : Nat) (hn : n ≤ 5) (hS32 : S < 32) (hq : ∀ i, i < n → qf i = nI (p0 i) ∧ p0 i < 25) (ht1 : ∀ i, i < n → tf i = nI (q0 i) ∧ q0 i < 25) : Met l y_md_stays w_md_stays ({ frames := 1, cells := 0, slots := 0, locals := 40 }) (va_Pc [.ref na, .int (nI S)] (mt_B D [(cZ, .boolean), (cI, .int), (cJ, .long), (cII, .array .int)] [(na, .inr (7, [.int (nI W0), .int (nI H0), .ref nwalls, .int (nI n), .ref nstarts, .ref ngoals, .ref nlaid, .ref nisTold, .int vfree, .ref ncells, .ref nindex, .ref nnear, .ref nnearCount, .ref npay, .ref ndone, .ref npile, .int vtop, .ref nnow, .ref nthen, .ref nchoice, .int vfound, .int vlength, .ref nplan, .ref ncosts, .ref npaid, .ref nafter, .ref nfar, .ref nmany, .ref nnext, .int vsort, .int vwhen, .int vone, .int vtwo])), (nthen, .inl (cI, 6, .inl tf)), (nnow, .inl (cI, 6, .inl qf))] sz)) (vp_Si (fun r : Int32 => (r = 1 ∧ go_M n p0 q0 S) ∨ (r = 0 ∧ ¬ go_M n p0 q0 S))) 0 0 (fun _ => False) := by
  refine mt_ofR (by decide) (Nat.le_of_ble_eq_true rfl) ?_
  intro p e s m below meth c ls hx hb hr hlk hml hown hg hl hX hP hK hD
  have hown : s.vm.findClass R_md = some m.cls := hown
  obtain ⟨H, hH⟩ : ∃ H : Heap, H = s.heap := ⟨_, rfl⟩
  rw [← hH] at hP ⊢
  have hl : lv_has ls 4 [(0, .ref na), (1, .int (nI S))] := hl
  refine lv_iconst (v := 1) hx hb d_md_stays_0 (by decide) ?_
  refine lv_istore_n hx hb d_md_stays_1 rfl hl (by decide) rfl (fun ls hl => ?_)
  have hl : lv_has ls 4 [(2, .int 1), (0, .ref na), (1, .int (nI S))] := hl
  refine lv_iconst (v := 0) hx hb d_md_stays_2 (by decide) ?_
  refine lv_istore_n hx hb d_md_stays_3 rfl hl (by decide) rfl (fun ls hl => ?_)
  have hl : lv_has ls 4 [(3, .int 0), (2, .int 1), (0, .ref na), (1, .int (nI S))] := hl
  have hl := lv_sub hl [0, 1, 2, 3] (l' := [(3, .int (nI 0)), (2, .int 1), (0, .ref na), (1, .int (nI S))]) rfl
  refine mt_loop (ι := Nat × Int32) (I := fun ix ls H locs => ((ix.1) ≤ n) ∧ (((ix.2) = 1 ∧ ∀ i, i < (ix.1) → S.testBit i = true → q0 i = p0 i) ∨ ((ix.2) = 0 ∧ ¬ go_M n p0 q0 S)) ∧ lv_has ls 4 [(3, .int (nI (ix.1))), (2, .int (ix.2)), (0, .ref na), (1, .int (nI S))] ∧ va_P D kls [(na, .inr (7, [.int (nI W0), .int (nI H0), .ref nwalls, .int (nI n), .ref nstarts, .ref ngoals, .ref nlaid, .ref nisTold, .int vfree, .ref ncells, .ref nindex, .ref nnear, .ref nnearCount, .ref npay, .ref ndone, .ref npile, .int vtop, .ref nnow, .ref nthen, .ref nchoice, .int vfound, .int vlength, .ref nplan, .ref ncosts, .ref npaid, .ref nafter, .ref nfar, .ref nmany, .ref nnext, .int vsort, .int vwhen, .int vone, .int vtwo])), (nthen, .inl (cI, 6, .inl tf)), (nnow, .inl (cI, 6, .inl qf))] H ∧ H = s.heap ∧ locs = []) (μ := fun ix => n - (ix.1)) ?_ (0, 1) ls H _ ⟨Nat.zero_le _, Or.inl ⟨rfl, fun i h => absurd h (Nat.not_lt_zero _)⟩, hl, hP, hH, rfl⟩
  clear hl hP
  intro i_a ls H locs ⟨hmm, hv, hl, hP, hH, hlc⟩ ih_a
  obtain ⟨mm, v⟩ := i_a
  subst hlc
  have hmm : mm ≤ n := hmm
  have hv : (v = 1 ∧ ∀ i, i < mm → S.testBit i = true → q0 i = p0 i) ∨ (v = 0 ∧ ¬ go_M n p0 q0 S) := hv
  have hl : lv_has ls 4 [(3, .int (nI mm)), (2, .int v), (0, .ref na), (1, .int (nI S))] := hl
  have hP : va_P D kls [(na, .inr (7, [.int (nI W0), .int (nI H0), .ref nwalls, .int (nI n), .ref nstarts, .ref ngoals, .ref nlaid, .ref nisTold, .int vfree, .ref ncells, .ref nindex, .ref nnear, .ref nnearCount, .ref npay, .ref ndone, .ref npile, .int vtop, .ref nnow, .ref nthen, .ref nchoice, .int vfound, .int vlength, .ref nplan, .ref ncosts, .ref npaid, .ref nafter, .ref nfar, .ref nmany, .ref nnext, .int vsort, .int vwhen, .int vone, .int vtwo])), (nthen, .inl (cI, 6, .inl tf)), (nnow, .inl (cI, 6, .inl qf))] H := hP
  refine lv_iload_n hx hb d_md_stays_4 rfl (lv_at hl 0 rfl) ?_
  refine lv_aload_n hx hb d_md_stays_5 rfl (lv_at hl 2 rfl) ?_
  refine gf_md_86 hx hb hg hown hK hP 0 rfl rfl d_md_stays_6 ?_
  refine lv_icmp_ge hx hb d_md_stays_9 rfl (fun g1 => ?_) (fun g1 => ?_)
  ·
    have g2 : n ≤ mm := by rcases Nat.lt_or_ge mm n with h | h; exact absurd g1 (nI_ge (b := n) h (by omega)); exact h
    refine lv_iload_n hx hb d_md_stays_51 rfl (lv_at hl 1 rfl) ?_
    rcases hv with ⟨e7, hz7⟩ | ⟨e7, hz7⟩
    ·
      subst e7
      exact W.zret hx hb hr rfl (fun t ht _ => ⟨1, rfl, Or.inl ⟨rfl, fun i hi => hz7 i (by omega)⟩, ht.trans hH⟩) (fun _ h => absurd h List.not_mem_nil) d_md_stays_52
    ·
      subst e7
      exact W.zret hx hb hr rfl (fun t ht _ => ⟨0, rfl, Or.inr ⟨rfl, hz7⟩, ht.trans hH⟩) (fun _ h => absurd h List.not_mem_nil) d_md_stays_52
  ·
    have g2 : mm < n := by rcases Nat.lt_or_ge mm n with h | h; exact h; exact absurd (nI_le (a := n) h (by omega)) g1
    have b1 := ht1 mm g2
    have b2 := hq mm g2
    refine lv_iload_n hx hb d_md_stays_12 rfl (lv_at hl 1 rfl) ?_
    refine lv_if_eq hx hb d_md_stays_13 rfl (fun g3 => ?_) (fun g3 => ?_)
    ·
      have hv0 := hv.elim (fun q => absurd (q.1.symm.trans g3) (by decide)) (fun q => q.2)
      refine lv_iconst (v := 0) hx hb d_md_stays_43 (by decide) ?_
      refine lv_istore_n hx hb d_md_stays_44 rfl hl (by decide) rfl (fun ls hl => ?_)
      have hl : lv_has ls 4 [(2, .int 0), (3, .int (nI mm)), (0, .ref na), (1, .int (nI S))] := hl
      refine lv_iinc (k := 1) (v := nI (mm + 1)) hx hb d_md_stays_45 hl rfl ((nI_succ mm).symm) (by decide) rfl (fun ls hl => ?_)
      have hl : lv_has ls 4 [(3, .int (nI (mm + 1))), (2, .int 0), (0, .ref na), (1, .int (nI S))] := hl
      refine lv_goto hx hb d_md_stays_48 rfl ?_
      have hl := lv_sub hl [0, 1, 2, 3] (l' := [(3, .int (nI (mm + 1))), (2, .int 0), (0, .ref na), (1, .int (nI S))]) rfl
      exact ih_a (mm + 1, 0) ls H _ (by show n - (mm + 1) < n - mm; omega) ⟨by show mm + 1 ≤ n; omega, Or.inr ⟨rfl, hv0⟩, hl, hP, hH, rfl⟩
    ·
      have hv1 := hv.elim (fun q => q.2) (fun q => absurd q.1 g3)
      refine lv_iload_n hx hb d_md_stays_16 rfl (lv_at hl 3 rfl) ?_
      refine lv_iload_n hx hb d_md_stays_17 rfl (lv_at hl 0 rfl) ?_
      have hPc := hP.sub (ws' := []) [] rfl
      have hDc := hD.sub (ws' := []) [] (by decide) rfl
      refine vp_callSi (W.runS (As := [.int (nI S), .int (nI mm)]) (rest := []) ⟨hx, hb, hml, hown, hg⟩ (c_md_rests l D cZ cI cJ cII S mm H.size hS32 (by omega)) ⟨callB_of 2 hg gg_md_123 rfl rfl rfl (hg _ gi_md_123) (hg _ gl_md_123) (by decide +kernel) ⟨Nat.le_of_ble_eq_true rfl, Nat.le_of_ble_eq_true rfl⟩, hg _ gt_md_123⟩ ⟨mt_bl, mt_pr hX hPc hK hDc⟩ rfl rfl hl.1 rfl (lv_room (Nat.le_of_ble_eq_true rfl)) d_md_stays_18 ⟨Nat.le_of_ble_eq_true rfl, Nat.le_of_ble_eq_true rfl⟩) (fun r1 hr1 => ?_)
      have hr1 : (r1 = 1 ∧ S.testBit mm = true) ∨ (r1 = 0 ∧ S.testBit mm = false) := hr1
      have hib := hr1
      refine lv_if_eq hx hb d_md_stays_21 rfl (fun g4 => ?_) (fun g4 => ?_)
      ·
        have ht9 : S.testBit mm = false := hib.elim (fun q => absurd (q.1.symm.trans g4) (by decide)) (fun q => q.2)
        refine lv_iconst (v := 1) hx hb d_md_stays_39 (by decide) ?_
        refine lv_goto hx hb d_md_stays_40 rfl ?_
        refine lv_istore_n hx hb d_md_stays_44 rfl hl (by decide) rfl (fun ls hl => ?_)
        have hl : lv_has ls 4 [(2, .int 1), (3, .int (nI mm)), (0, .ref na), (1, .int (nI S))] := hl
        refine lv_iinc (k := 1) (v := nI (mm + 1)) hx hb d_md_stays_45 hl rfl ((nI_succ mm).symm) (by decide) rfl (fun ls hl => ?_)
        have hl : lv_has ls 4 [(3, .int (nI (mm + 1))), (2, .int 1), (0, .ref na), (1, .int (nI S))] := hl
        refine lv_goto hx hb d_md_stays_48 rfl ?_
        have hl := lv_sub hl [0, 1, 2, 3] (l' := [(3, .int (nI (mm + 1))), (2, .int 1), (0, .ref na), (1, .int (nI S))]) rfl
        exact ih_a (mm + 1, 1) ls H _ (by show n - (mm + 1) < n - mm; omega) ⟨by show mm + 1 ≤ n; omega, Or.inl ⟨rfl, fun i hi hb9 => (Nat.lt_or_ge i mm).elim (fun h => hv1 i h hb9) (fun h => absurd hb9 (by rw [show i = mm from Nat.le_antisymm (Nat.le_of_lt_succ hi) h, ht9]; decide))⟩, hl, hP, hH, rfl⟩
      ·
        have ht9 : S.testBit mm = true := hib.elim (fun q => q.2) (fun q => absurd q.1 g4)
        refine lv_aload_n hx hb d_md_stays_24 rfl (lv_at hl 2 rfl) ?_
        refine gf_md_58 hx hb hg hown hK hP 0 rfl rfl d_md_stays_25 ?_
        refine lv_iload_n hx hb d_md_stays_28 rfl (lv_at hl 0 rfl) ?_
        refine va_iald hx hb hK hP 1 1 rfl rfl (vp_in_nI (show mm < 6 by omega) (by decide)) d_md_stays_29 ?_
        refine lv_topi (fun y2 ey2 => ?_)
        have ey2 : y2 = nI (q0 mm) := ey2.trans (by rw [nI_clamp (show mm < 2 ^ 31 by omega)]; exact b1.1)
        subst ey2
        refine lv_aload_n hx hb d_md_stays_30 rfl (lv_at hl 2 rfl) ?_
        refine gf_md_55 hx hb hg hown hK hP 0 rfl rfl d_md_stays_31 ?_
        refine lv_iload_n hx hb d_md_stays_34 rfl (lv_at hl 0 rfl) ?_
        refine va_iald hx hb hK hP 2 1 rfl rfl (vp_in_nI (show mm < 6 by omega) (by decide)) d_md_stays_35 ?_
        refine lv_topi (fun y3 ey3 => ?_)
        have ey3 : y3 = nI (p0 mm) := ey3.trans (by rw [nI_clamp (show mm < 2 ^ 31 by omega)]; exact b2.1)
        subst ey3
        refine lv_icmp_ne hx hb d_md_stays_36 rfl (fun g5 => ?_) (fun g5 => ?_)
        ·
          have f1 : ¬ q0 mm = p0 mm := fun h => g5 (by rw [h])
          refine lv_iconst (v := 0) hx hb d_md_stays_43 (by decide) ?_
          refine lv_istore_n hx hb d_md_stays_44 rfl hl (by decide) rfl (fun ls hl => ?_)
          have hl : lv_has ls 4 [(2, .int 0), (3, .int (nI mm)), (0, .ref na), (1, .int (nI S))] := hl
          refine lv_iinc (k := 1) (v := nI (mm + 1)) hx hb d_md_stays_45 hl rfl ((nI_succ mm).symm) (by decide) rfl (fun ls hl => ?_)
          have hl : lv_has ls 4 [(3, .int (nI (mm + 1))), (2, .int 0), (0, .ref na), (1, .int (nI S))] := hl
          refine lv_goto hx hb d_md_stays_48 rfl ?_
          have hl := lv_sub hl [0, 1, 2, 3] (l' := [(3, .int (nI (mm + 1))), (2, .int 0), (0, .ref na), (1, .int (nI S))]) rfl
          exact ih_a (mm + 1, 0) ls H _ (by show n - (mm + 1) < n - mm; omega) ⟨by show mm + 1 ≤ n; omega, Or.inr ⟨rfl, fun h => f1 (h mm g2 ht9)⟩, hl, hP, hH, rfl⟩
        ·
          have f1 : q0 mm = p0 mm := (nI_eq (by omega) (by omega)).mp g5
          refine lv_iconst (v := 1) hx hb d_md_stays_39 (by decide) ?_
          refine lv_goto hx hb d_md_stays_40 rfl ?_
          refine lv_istore_n hx hb d_md_stays_44 rfl hl (by decide) rfl (fun ls hl => ?_)
          have hl : lv_has ls 4 [(2, .int 1), (3, .int (nI mm)), (0, .ref na), (1, .int (nI S))] := hl
          refine lv_iinc (k := 1) (v := nI (mm + 1)) hx hb d_md_stays_45 hl rfl ((nI_succ mm).symm) (by decide) rfl (fun ls hl => ?_)
          have hl : lv_has ls 4 [(3, .int (nI (mm + 1))), (2, .int 1), (0, .ref na), (1, .int (nI S))] := hl
          refine lv_goto hx hb d_md_stays_48 rfl ?_
          have hl := lv_sub hl [0, 1, 2, 3] (l' := [(3, .int (nI (mm + 1))), (2, .int 1), (0, .ref na), (1, .int (nI S))]) rfl
          exact ih_a (mm + 1, 1) ls H _ (by show n - (mm + 1) < n - mm; omega) ⟨by show mm + 1 ≤ n; omega, Or.inl ⟨rfl, fun i hi hb9 => (Nat.lt_or_ge i mm).elim (fun h => hv1 i h hb9) (fun h => by rw [show i = mm from Nat.le_antisymm (Nat.le_of_lt_succ hi) h]; exact f1)⟩, hl, hP, hH, rfl⟩

set_option maxHeartbeats 4000000 in
set_option maxRecDepth 100000 in
theorem c_md_write (l : Launch) (D : va_G) (cZ cI cJ cII : ClassId) (na : Nat) (nwalls : Nat) (nstarts : Nat) (ngoals : Nat) (nlaid : Nat) (nisTold : Nat) (ncells : Nat) (nindex : Nat) (nnear : Nat) (nnearCount : Nat) (npay : Nat) (ndone : Nat) (npile : Nat) (nnow : Nat) (nthen : Nat) (nchoice : Nat) (nplan : Nat) (ncosts : Nat) (npaid : Nat) (nafter : Nat) (nfar : Nat) (nmany : Nat) (nnext : Nat) (vfree : Int32) (vtop : Int32) (vfound : Int32) (vlength : Int32) (vsort : Int32) (vwhen : Int32) (vone : Int32) (vtwo : Int32) (W0 : Nat) (H0 : Nat) (n : Nat) (pn : Nat → Int32) (cf : Nat → Int32) (ro : Nat) (rf : Nat → Int32) (tt : Nat) (q0 : Nat → Nat) (sz : Nat) (hn : n ≤ 5) (htt : tt ≤ 209) (hq : ∀ i, i < n → rf i = nI (q0 i) ∧ q0 i < 25) : Met l y_md_write w_md_write ({ frames := 0, cells := 0, slots := 0, locals := 0 }) (va_Pc [.ref na, .int (nI tt), .ref ro] (mt_B D [(cZ, .boolean), (cI, .int), (cJ, .long), (cII, .array .int)] [(na, .inr (7, [.int (nI W0), .int (nI H0), .ref nwalls, .int (nI n), .ref nstarts, .ref ngoals, .ref nlaid, .ref nisTold, .int vfree, .ref ncells, .ref nindex, .ref nnear, .ref nnearCount, .ref npay, .ref ndone, .ref npile, .int vtop, .ref nnow, .ref nthen, .ref nchoice, .int vfound, .int vlength, .ref nplan, .ref ncosts, .ref npaid, .ref nafter, .ref nfar, .ref nmany, .ref nnext, .int vsort, .int vwhen, .int vone, .int vtwo])), (nplan, .inl (cI, 1260, .inl pn)), (ncells, .inl (cI, 25, .inl cf)), (ro, .inl (cI, 6, .inl rf))] sz)) ((fun A => va_Qv (fun (u : (Nat → Int32)) => True) (fun (u : (Nat → Int32)) (t : State) => mt_O D A [(na, .inr (7, [.int (nI W0), .int (nI H0), .ref nwalls, .int (nI n), .ref nstarts, .ref ngoals, .ref nlaid, .ref nisTold, .int vfree, .ref ncells, .ref nindex, .ref nnear, .ref nnearCount, .ref npay, .ref ndone, .ref npile, .int vtop, .ref nnow, .ref nthen, .ref nchoice, .int vfound, .int vlength, .ref nplan, .ref ncosts, .ref npaid, .ref nafter, .ref nfar, .ref nmany, .ref nnext, .int vsort, .int vwhen, .int vone, .int vtwo])), (nplan, .inl (cI, 1260, .inl u)), (ncells, .inl (cI, 25, .inl cf)), (ro, .inl (cI, 6, .inl rf))] t) A) (va_A [(na, .inr (7, [.int (nI W0), .int (nI H0), .ref nwalls, .int (nI n), .ref nstarts, .ref ngoals, .ref nlaid, .ref nisTold, .int vfree, .ref ncells, .ref nindex, .ref nnear, .ref nnearCount, .ref npay, .ref ndone, .ref npile, .int vtop, .ref nnow, .ref nthen, .ref nchoice, .int vfound, .int vlength, .ref nplan, .ref ncosts, .ref npaid, .ref nafter, .ref nfar, .ref nmany, .ref nnext, .int vsort, .int vwhen, .int vone, .int vtwo])), (nplan, .inl (cI, 1260, .inl pn)), (ncells, .inl (cI, 25, .inl cf)), (ro, .inl (cI, 6, .inl rf))] sz)) 0 0 (va_A [(na, .inr (7, [.int (nI W0), .int (nI H0), .ref nwalls, .int (nI n), .ref nstarts, .ref ngoals, .ref nlaid, .ref nisTold, .int vfree, .ref ncells, .ref nindex, .ref nnear, .ref nnearCount, .ref npay, .ref ndone, .ref npile, .int vtop, .ref nnow, .ref nthen, .ref nchoice, .int vfound, .int vlength, .ref nplan, .ref ncosts, .ref npaid, .ref nafter, .ref nfar, .ref nmany, .ref nnext, .int vsort, .int vwhen, .int vone, .int vtwo])), (nplan, .inl (cI, 1260, .inl pn)), (ncells, .inl (cI, 25, .inl cf)), (ro, .inl (cI, 6, .inl rf))] sz) := by
  refine mt_of (y := y_md_write) (n := 4) (av := [.ref na, .int (nI tt), .ref ro]) (QF := (fun A => va_Qv (fun (u : (Nat → Int32)) => True) (fun (u : (Nat → Int32)) (t : State) => mt_O D A [(na, .inr (7, [.int (nI W0), .int (nI H0), .ref nwalls, .int (nI n), .ref nstarts, .ref ngoals, .ref nlaid, .ref nisTold, .int vfree, .ref ncells, .ref nindex, .ref nnear, .ref nnearCount, .ref npay, .ref ndone, .ref npile, .int vtop, .ref nnow, .ref nthen, .ref nchoice, .int vfound, .int vlength, .ref nplan, .ref ncosts, .ref npaid, .ref nafter, .ref nfar, .ref nmany, .ref nnext, .int vsort, .int vwhen, .int vone, .int vtwo])), (nplan, .inl (cI, 1260, .inl u)), (ncells, .inl (cI, 25, .inl cf)), (ro, .inl (cI, 6, .inl rf))] t) A)) (by decide) (Nat.le_of_ble_eq_true rfl) ?_
  intro p e s m below meth c ls A hx hb hr hlk hml hown hnm hg hl hX hP hK hD hA hS
  obtain ⟨H, hH⟩ : ∃ H : Heap, H = s.heap := ⟨_, rfl⟩
  have hS : va_S A s.heap H [] := by rw [hH]; exact va_S.rf
  rw [← hH] at hP ⊢
  have hown : s.vm.findClass R_md = some m.cls := hown
  have hl : lv_has ls 4 [(0, .ref na), (1, .int (nI tt)), (2, .ref ro)] := hl
  refine lv_iconst (v := 0) hx hb d_md_write_0 (by decide) ?_
  refine lv_istore_n hx hb d_md_write_1 rfl hl (by decide) rfl (fun ls hl => ?_)
  have hl : lv_has ls 4 [(3, .int 0), (0, .ref na), (1, .int (nI tt)), (2, .ref ro)] := hl
  have hl := lv_sub hl [0, 1, 2, 3] (l' := [(3, .int (nI 0)), (0, .ref na), (1, .int (nI tt)), (2, .ref ro)]) rfl
  refine mt_loop (ι := Nat × (Nat → Int32)) (I := fun ix ls H locs => ((ix.1) ≤ n) ∧ lv_has ls 4 [(3, .int (nI (ix.1))), (0, .ref na), (1, .int (nI tt)), (2, .ref ro)] ∧ va_P D kls [(na, .inr (7, [.int (nI W0), .int (nI H0), .ref nwalls, .int (nI n), .ref nstarts, .ref ngoals, .ref nlaid, .ref nisTold, .int vfree, .ref ncells, .ref nindex, .ref nnear, .ref nnearCount, .ref npay, .ref ndone, .ref npile, .int vtop, .ref nnow, .ref nthen, .ref nchoice, .int vfound, .int vlength, .ref nplan, .ref ncosts, .ref npaid, .ref nafter, .ref nfar, .ref nmany, .ref nnext, .int vsort, .int vwhen, .int vone, .int vtwo])), (nplan, .inl (cI, 1260, .inl (ix.2))), (ncells, .inl (cI, 25, .inl cf)), (ro, .inl (cI, 6, .inl rf))] H ∧ va_D A [(na, .inr (7, [.int (nI W0), .int (nI H0), .ref nwalls, .int (nI n), .ref nstarts, .ref ngoals, .ref nlaid, .ref nisTold, .int vfree, .ref ncells, .ref nindex, .ref nnear, .ref nnearCount, .ref npay, .ref ndone, .ref npile, .int vtop, .ref nnow, .ref nthen, .ref nchoice, .int vfound, .int vlength, .ref nplan, .ref ncosts, .ref npaid, .ref nafter, .ref nfar, .ref nmany, .ref nnext, .int vsort, .int vwhen, .int vone, .int vtwo])), (nplan, .inl (cI, 1260, .inl (ix.2))), (ncells, .inl (cI, 25, .inl cf)), (ro, .inl (cI, 6, .inl rf))] ∧ va_S A s.heap H locs) (μ := fun ix => n - (ix.1)) ?_ (0, pn) ls H _ ⟨Nat.zero_le _, hl, hP, hD, hS⟩
  clear hl hP hD hS
  intro i_a ls H locs ⟨hmm, hl, hP, hD, hS⟩ ih_a
  obtain ⟨mm, g⟩ := i_a
  have hmm : mm ≤ n := hmm
  have hl : lv_has ls 4 [(3, .int (nI mm)), (0, .ref na), (1, .int (nI tt)), (2, .ref ro)] := hl
  have hP : va_P D kls [(na, .inr (7, [.int (nI W0), .int (nI H0), .ref nwalls, .int (nI n), .ref nstarts, .ref ngoals, .ref nlaid, .ref nisTold, .int vfree, .ref ncells, .ref nindex, .ref nnear, .ref nnearCount, .ref npay, .ref ndone, .ref npile, .int vtop, .ref nnow, .ref nthen, .ref nchoice, .int vfound, .int vlength, .ref nplan, .ref ncosts, .ref npaid, .ref nafter, .ref nfar, .ref nmany, .ref nnext, .int vsort, .int vwhen, .int vone, .int vtwo])), (nplan, .inl (cI, 1260, .inl g)), (ncells, .inl (cI, 25, .inl cf)), (ro, .inl (cI, 6, .inl rf))] H := hP
  have hD : va_D A [(na, .inr (7, [.int (nI W0), .int (nI H0), .ref nwalls, .int (nI n), .ref nstarts, .ref ngoals, .ref nlaid, .ref nisTold, .int vfree, .ref ncells, .ref nindex, .ref nnear, .ref nnearCount, .ref npay, .ref ndone, .ref npile, .int vtop, .ref nnow, .ref nthen, .ref nchoice, .int vfound, .int vlength, .ref nplan, .ref ncosts, .ref npaid, .ref nafter, .ref nfar, .ref nmany, .ref nnext, .int vsort, .int vwhen, .int vone, .int vtwo])), (nplan, .inl (cI, 1260, .inl g)), (ncells, .inl (cI, 25, .inl cf)), (ro, .inl (cI, 6, .inl rf))] := hD
  refine lv_iload_n hx hb d_md_write_2 rfl (lv_at hl 0 rfl) ?_
  refine lv_aload_n hx hb d_md_write_3 rfl (lv_at hl 1 rfl) ?_
  refine gf_md_86 hx hb hg hown hK hP 0 rfl rfl d_md_write_4 ?_
  refine lv_icmp_ge hx hb d_md_write_7 rfl (fun g1 => ?_) (fun g1 => ?_)
  ·
    have hP9 := hP
    have hD9 := hD
    exact W.vret hx hb hr (fun t ht hW => ⟨⟨g, rfl, trivial, by rw [ht]; exact hP9, hD9⟩, hS.F ht⟩) hS.2.2 d_md_write_35
  ·
    have g2 : mm < n := by rcases Nat.lt_or_ge mm n with h | h; exact h; exact absurd (nI_le (a := n) h (by omega)) g1
    have b1 := hq mm g2
    refine lv_aload_n hx hb d_md_write_10 rfl (lv_at hl 1 rfl) ?_
    refine gf_md_64 hx hb hg hown hK hP 0 rfl rfl d_md_write_11 ?_
    refine lv_bipush (v := 6) hx hb d_md_write_14 (by decide) ?_
    refine lv_iload_n hx hb d_md_write_16 rfl (lv_at hl 2 rfl) ?_
    refine lv_imul hx hb d_md_write_17 ?_
    refine lv_topi (fun y1 ey1 => ?_)
    have ey1 : y1 = nI (6 * tt) := ey1.trans (by rw [show (6 : Int32) = nI 6 from rfl, pk_mul])
    subst ey1
    refine lv_iload_n hx hb d_md_write_18 rfl (lv_at hl 0 rfl) ?_
    refine lv_iadd hx hb d_md_write_19 ?_
    refine lv_topi (fun y2 ey2 => ?_)
    have ey2 : y2 = nI (6 * tt + mm) := ey2.trans (nI_add _ _)
    subst ey2
    refine lv_aload_n hx hb d_md_write_20 rfl (lv_at hl 1 rfl) ?_
    refine gf_md_33 hx hb hg hown hK hP 0 rfl rfl d_md_write_21 ?_
    refine lv_aload_n hx hb d_md_write_24 rfl (lv_at hl 3 rfl) ?_
    refine lv_iload_n hx hb d_md_write_25 rfl (lv_at hl 0 rfl) ?_
    refine va_iald hx hb hK hP 3 1 rfl rfl (vp_in_nI (show mm < 6 by omega) (by decide)) d_md_write_26 ?_
    refine lv_topi (fun y3 ey3 => ?_)
    have ey3 : y3 = nI (q0 mm) := ey3.trans (by rw [nI_clamp (show mm < 2 ^ 31 by omega)]; exact b1.1)
    subst ey3
    refine va_iald hx hb hK hP 2 1 rfl rfl (vp_in_nI b1.2 (by decide)) d_md_write_27 ?_
    refine lv_topi (fun x4 ex4 => ?_)
    refine va_iast hx hb hK hP hD hS 1 1 rfl rfl (vp_in_nI (show 6 * tt + mm < 1260 by omega) (by decide)) d_md_write_28 (fun H locs hP hD hS => ?_)
    have hP : va_P D kls [(na, .inr (7, [.int (nI W0), .int (nI H0), .ref nwalls, .int (nI n), .ref nstarts, .ref ngoals, .ref nlaid, .ref nisTold, .int vfree, .ref ncells, .ref nindex, .ref nnear, .ref nnearCount, .ref npay, .ref ndone, .ref npile, .int vtop, .ref nnow, .ref nthen, .ref nchoice, .int vfound, .int vlength, .ref nplan, .ref ncosts, .ref npaid, .ref nafter, .ref nfar, .ref nmany, .ref nnext, .int vsort, .int vwhen, .int vone, .int vtwo])), (nplan, .inl (cI, 1260, .inl (upd g (nI (6 * tt + mm) : Int32).toNatClampNeg x4))), (ncells, .inl (cI, 25, .inl cf)), (ro, .inl (cI, 6, .inl rf))] H := hP
    have hD : va_D A [(na, .inr (7, [.int (nI W0), .int (nI H0), .ref nwalls, .int (nI n), .ref nstarts, .ref ngoals, .ref nlaid, .ref nisTold, .int vfree, .ref ncells, .ref nindex, .ref nnear, .ref nnearCount, .ref npay, .ref ndone, .ref npile, .int vtop, .ref nnow, .ref nthen, .ref nchoice, .int vfound, .int vlength, .ref nplan, .ref ncosts, .ref npaid, .ref nafter, .ref nfar, .ref nmany, .ref nnext, .int vsort, .int vwhen, .int vone, .int vtwo])), (nplan, .inl (cI, 1260, .inl (upd g (nI (6 * tt + mm) : Int32).toNatClampNeg x4))), (ncells, .inl (cI, 25, .inl cf)), (ro, .inl (cI, 6, .inl rf))] := hD
    refine lv_iinc (k := 0) (v := nI (mm + 1)) hx hb d_md_write_29 hl rfl ((nI_succ mm).symm) (by decide) rfl (fun ls hl => ?_)
    have hl : lv_has ls 4 [(3, .int (nI (mm + 1))), (0, .ref na), (1, .int (nI tt)), (2, .ref ro)] := hl
    refine lv_goto hx hb d_md_write_32 rfl ?_
    have hl := lv_sub hl [0, 1, 2, 3] (l' := [(3, .int (nI (mm + 1))), (0, .ref na), (1, .int (nI tt)), (2, .ref ro)]) rfl
    exact ih_a (mm + 1, upd g (nI (6 * tt + mm) : Int32).toNatClampNeg x4) ls H _ (by show n - (mm + 1) < n - mm; omega) ⟨by show mm + 1 ≤ n; omega, hl, hP, hD, hS⟩
