def mc_R (kf : Nat → Int32) (p : Nat → Nat) (who i : Nat) : Nat := if who.testBit i = true then 1 else (kf (p i)).toNatClampNeg
def mc_q (nf : Nat → Int32) (p : Nat → Nat) (who : Nat) (ch : Nat → Nat) (i : Nat) : Nat := if who.testBit i = true then p i else (nf (5 * p i + ch i)).toNatClampNeg
/-- the rows that the choices read -/
def mc_N (F : Nat) (nf kf : Nat → Int32) : Prop := ∀ a, a < F → ∃ cnt, 1 ≤ cnt ∧ cnt ≤ 5 ∧ kf a = nI cnt ∧ ∀ i, i < cnt → ∃ j, j < F ∧ nf (5 * a + i) = nI j
theorem mc_R5 {F who i : Nat} {nf kf : Nat → Int32} {p : Nat → Nat} (h : mc_N F nf kf) (hp : p i < F) : 1 ≤ mc_R kf p who i ∧ mc_R kf p who i ≤ 5 ∧ (who.testBit i = false → kf (p i) = nI (mc_R kf p who i)) := by
  obtain ⟨cnt, h1, h2, h3, h4⟩ := h (p i) hp
  unfold mc_R
  by_cases e : who.testBit i = true
  · rw [if_pos e]; exact ⟨by omega, by omega, fun q => by rw [e] at q; cases q⟩
  · rw [if_neg e, h3, nI_clamp (by omega)]; exact ⟨h1, h2, fun _ => rfl⟩
theorem mc_qE {F who i : Nat} {nf kf : Nat → Int32} {p ch : Nat → Nat} (h : mc_N F nf kf) (hF : F ≤ 25) (hp : p i < F) (hc : ch i < mc_R kf p who i) : mc_q nf p who ch i < F ∧ (who.testBit i = true → mc_q nf p who ch i = p i) ∧ (who.testBit i = false → nf (5 * p i + ch i) = nI (mc_q nf p who ch i)) := by
  obtain ⟨cnt, h1, h2, h3, h4⟩ := h (p i) hp
  unfold mc_q
  by_cases e : who.testBit i = true
  · rw [if_pos e]; exact ⟨hp, fun _ => rfl, fun q => by rw [e] at q; cases q⟩
  · unfold mc_R at hc
    rw [if_neg e, h3, nI_clamp (by omega)] at hc
    obtain ⟨j, q1, q2⟩ := h4 (ch i) hc
    rw [if_neg e, q2, nI_clamp (by omega)]
    exact ⟨q1, fun q => absurd q e, fun _ => rfl⟩

set_option maxHeartbeats 4000000 in
set_option maxRecDepth 100000 in
theorem c_md_firstChoice (l : Launch) (D : va_G) (cZ cI cJ cII : ClassId) (na : Nat) (nwalls : Nat) (nstarts : Nat) (ngoals : Nat) (nlaid : Nat) (nisTold : Nat) (ncells : Nat) (nindex : Nat) (nnear : Nat) (nnearCount : Nat) (npay : Nat) (ndone : Nat) (npile : Nat) (nnow : Nat) (nthen : Nat) (nchoice : Nat) (nplan : Nat) (ncosts : Nat) (npaid : Nat) (nafter : Nat) (nfar : Nat) (nmany : Nat) (nnext : Nat) (vfree : Int32) (vtop : Int32) (vfound : Int32) (vlength : Int32) (vsort : Int32) (vwhen : Int32) (vone : Int32) (vtwo : Int32) (W0 : Nat) (H0 : Nat) (n : Nat) (hf : Nat → Int32) (sz : Nat) (hn : n ≤ 5) : Met l y_md_firstChoice w_md_firstChoice ({ frames := 0, cells := 0, slots := 0, locals := 0 }) (va_Pc [.ref na] (mt_B D [(cZ, .boolean), (cI, .int), (cJ, .long), (cII, .array .int)] [(na, .inr (7, [.int (nI W0), .int (nI H0), .ref nwalls, .int (nI n), .ref nstarts, .ref ngoals, .ref nlaid, .ref nisTold, .int vfree, .ref ncells, .ref nindex, .ref nnear, .ref nnearCount, .ref npay, .ref ndone, .ref npile, .int vtop, .ref nnow, .ref nthen, .ref nchoice, .int vfound, .int vlength, .ref nplan, .ref ncosts, .ref npaid, .ref nafter, .ref nfar, .ref nmany, .ref nnext, .int vsort, .int vwhen, .int vone, .int vtwo])), (nchoice, .inl (cI, 6, .inl hf))] sz)) ((fun A => va_Qv (fun (u : (Nat → Int32)) => ∀ i, i < n → u i = nI 0) (fun (u : (Nat → Int32)) (t : State) => mt_O D A [(na, .inr (7, [.int (nI W0), .int (nI H0), .ref nwalls, .int (nI n), .ref nstarts, .ref ngoals, .ref nlaid, .ref nisTold, .int vfree, .ref ncells, .ref nindex, .ref nnear, .ref nnearCount, .ref npay, .ref ndone, .ref npile, .int vtop, .ref nnow, .ref nthen, .ref nchoice, .int vfound, .int vlength, .ref nplan, .ref ncosts, .ref npaid, .ref nafter, .ref nfar, .ref nmany, .ref nnext, .int vsort, .int vwhen, .int vone, .int vtwo])), (nchoice, .inl (cI, 6, .inl u))] t) A) (va_A [(na, .inr (7, [.int (nI W0), .int (nI H0), .ref nwalls, .int (nI n), .ref nstarts, .ref ngoals, .ref nlaid, .ref nisTold, .int vfree, .ref ncells, .ref nindex, .ref nnear, .ref nnearCount, .ref npay, .ref ndone, .ref npile, .int vtop, .ref nnow, .ref nthen, .ref nchoice, .int vfound, .int vlength, .ref nplan, .ref ncosts, .ref npaid, .ref nafter, .ref nfar, .ref nmany, .ref nnext, .int vsort, .int vwhen, .int vone, .int vtwo])), (nchoice, .inl (cI, 6, .inl hf))] sz)) 0 0 (va_A [(na, .inr (7, [.int (nI W0), .int (nI H0), .ref nwalls, .int (nI n), .ref nstarts, .ref ngoals, .ref nlaid, .ref nisTold, .int vfree, .ref ncells, .ref nindex, .ref nnear, .ref nnearCount, .ref npay, .ref ndone, .ref npile, .int vtop, .ref nnow, .ref nthen, .ref nchoice, .int vfound, .int vlength, .ref nplan, .ref ncosts, .ref npaid, .ref nafter, .ref nfar, .ref nmany, .ref nnext, .int vsort, .int vwhen, .int vone, .int vtwo])), (nchoice, .inl (cI, 6, .inl hf))] sz) := by
  refine mt_of (y := y_md_firstChoice) (n := 2) (av := [.ref na]) (QF := (fun A => va_Qv (fun (u : (Nat → Int32)) => ∀ i, i < n → u i = nI 0) (fun (u : (Nat → Int32)) (t : State) => mt_O D A [(na, .inr (7, [.int (nI W0), .int (nI H0), .ref nwalls, .int (nI n), .ref nstarts, .ref ngoals, .ref nlaid, .ref nisTold, .int vfree, .ref ncells, .ref nindex, .ref nnear, .ref nnearCount, .ref npay, .ref ndone, .ref npile, .int vtop, .ref nnow, .ref nthen, .ref nchoice, .int vfound, .int vlength, .ref nplan, .ref ncosts, .ref npaid, .ref nafter, .ref nfar, .ref nmany, .ref nnext, .int vsort, .int vwhen, .int vone, .int vtwo])), (nchoice, .inl (cI, 6, .inl u))] t) A)) (by decide) (Nat.le_of_ble_eq_true rfl) ?_
  intro p e s m below meth c ls A hx hb hr hlk hml hown hnm hg hl hX hP hK hD hA hS
  obtain ⟨H, hH⟩ : ∃ H : Heap, H = s.heap := ⟨_, rfl⟩
  have hS : va_S A s.heap H [] := by rw [hH]; exact va_S.rf
  rw [← hH] at hP ⊢
  have hown : s.vm.findClass R_md = some m.cls := hown
  have hl : lv_has ls 2 [(0, .ref na)] := hl
  refine lv_iconst (v := 0) hx hb d_md_firstChoice_0 (by decide) ?_
  refine lv_istore_n hx hb d_md_firstChoice_1 rfl hl (by decide) rfl (fun ls hl => ?_)
  have hl : lv_has ls 2 [(1, .int 0), (0, .ref na)] := hl
  have hl := lv_sub hl [0, 1] (l' := [(1, .int (nI 0)), (0, .ref na)]) rfl
  refine mt_loop (ι := Nat × (Nat → Int32)) (I := fun ix ls H locs => ((ix.1) ≤ n) ∧ (∀ i, i < (ix.1) → (ix.2) i = nI 0) ∧ lv_has ls 2 [(1, .int (nI (ix.1))), (0, .ref na)] ∧ va_P D kls [(na, .inr (7, [.int (nI W0), .int (nI H0), .ref nwalls, .int (nI n), .ref nstarts, .ref ngoals, .ref nlaid, .ref nisTold, .int vfree, .ref ncells, .ref nindex, .ref nnear, .ref nnearCount, .ref npay, .ref ndone, .ref npile, .int vtop, .ref nnow, .ref nthen, .ref nchoice, .int vfound, .int vlength, .ref nplan, .ref ncosts, .ref npaid, .ref nafter, .ref nfar, .ref nmany, .ref nnext, .int vsort, .int vwhen, .int vone, .int vtwo])), (nchoice, .inl (cI, 6, .inl (ix.2)))] H ∧ va_D A [(na, .inr (7, [.int (nI W0), .int (nI H0), .ref nwalls, .int (nI n), .ref nstarts, .ref ngoals, .ref nlaid, .ref nisTold, .int vfree, .ref ncells, .ref nindex, .ref nnear, .ref nnearCount, .ref npay, .ref ndone, .ref npile, .int vtop, .ref nnow, .ref nthen, .ref nchoice, .int vfound, .int vlength, .ref nplan, .ref ncosts, .ref npaid, .ref nafter, .ref nfar, .ref nmany, .ref nnext, .int vsort, .int vwhen, .int vone, .int vtwo])), (nchoice, .inl (cI, 6, .inl (ix.2)))] ∧ va_S A s.heap H locs) (μ := fun ix => n - (ix.1)) ?_ (0, hf) ls H _ ⟨Nat.zero_le _, fun i h => absurd h (Nat.not_lt_zero _), hl, hP, hD, hS⟩
  clear hl hP hD hS
  intro i_a ls H locs ⟨hmm, hg9, hl, hP, hD, hS⟩ ih_a
  obtain ⟨mm, g⟩ := i_a
  have hmm : mm ≤ n := hmm
  have hg9 : ∀ i, i < mm → g i = nI 0 := hg9
  have hl : lv_has ls 2 [(1, .int (nI mm)), (0, .ref na)] := hl
  have hP : va_P D kls [(na, .inr (7, [.int (nI W0), .int (nI H0), .ref nwalls, .int (nI n), .ref nstarts, .ref ngoals, .ref nlaid, .ref nisTold, .int vfree, .ref ncells, .ref nindex, .ref nnear, .ref nnearCount, .ref npay, .ref ndone, .ref npile, .int vtop, .ref nnow, .ref nthen, .ref nchoice, .int vfound, .int vlength, .ref nplan, .ref ncosts, .ref npaid, .ref nafter, .ref nfar, .ref nmany, .ref nnext, .int vsort, .int vwhen, .int vone, .int vtwo])), (nchoice, .inl (cI, 6, .inl g))] H := hP
  have hD : va_D A [(na, .inr (7, [.int (nI W0), .int (nI H0), .ref nwalls, .int (nI n), .ref nstarts, .ref ngoals, .ref nlaid, .ref nisTold, .int vfree, .ref ncells, .ref nindex, .ref nnear, .ref nnearCount, .ref npay, .ref ndone, .ref npile, .int vtop, .ref nnow, .ref nthen, .ref nchoice, .int vfound, .int vlength, .ref nplan, .ref ncosts, .ref npaid, .ref nafter, .ref nfar, .ref nmany, .ref nnext, .int vsort, .int vwhen, .int vone, .int vtwo])), (nchoice, .inl (cI, 6, .inl g))] := hD
  refine lv_iload_n hx hb d_md_firstChoice_2 rfl (lv_at hl 0 rfl) ?_
  refine lv_aload_n hx hb d_md_firstChoice_3 rfl (lv_at hl 1 rfl) ?_
  refine gf_md_86 hx hb hg hown hK hP 0 rfl rfl d_md_firstChoice_4 ?_
  refine lv_icmp_ge hx hb d_md_firstChoice_7 rfl (fun g1 => ?_) (fun g1 => ?_)
  ·
    have g2 : n ≤ mm := by rcases Nat.lt_or_ge mm n with h | h; exact absurd g1 (nI_ge (b := n) h (by omega)); exact h
    have hP9 := hP
    have hD9 := hD
    exact W.vret hx hb hr (fun t ht hW => ⟨⟨g, rfl, fun i hi => hg9 i (by have : i < n := hi; omega), by rw [ht]; exact hP9, hD9⟩, hS.F ht⟩) hS.2.2 d_md_firstChoice_23
  ·
    have g2 : mm < n := by rcases Nat.lt_or_ge mm n with h | h; exact h; exact absurd (nI_le (a := n) h (by omega)) g1
    refine lv_aload_n hx hb d_md_firstChoice_10 rfl (lv_at hl 1 rfl) ?_
    refine gf_md_61 hx hb hg hown hK hP 0 rfl rfl d_md_firstChoice_11 ?_
    refine lv_iload_n hx hb d_md_firstChoice_14 rfl (lv_at hl 0 rfl) ?_
    refine lv_iconst (v := 0) hx hb d_md_firstChoice_15 (by decide) ?_
    refine va_iast hx hb hK hP hD hS 1 1 rfl rfl (vp_in_nI (show mm < 6 by omega) (by decide)) d_md_firstChoice_16 (fun H locs hP hD hS => ?_)
    rw [nI_clamp (show mm < 2 ^ 31 by omega)] at hP hD
    have hP : va_P D kls [(na, .inr (7, [.int (nI W0), .int (nI H0), .ref nwalls, .int (nI n), .ref nstarts, .ref ngoals, .ref nlaid, .ref nisTold, .int vfree, .ref ncells, .ref nindex, .ref nnear, .ref nnearCount, .ref npay, .ref ndone, .ref npile, .int vtop, .ref nnow, .ref nthen, .ref nchoice, .int vfound, .int vlength, .ref nplan, .ref ncosts, .ref npaid, .ref nafter, .ref nfar, .ref nmany, .ref nnext, .int vsort, .int vwhen, .int vone, .int vtwo])), (nchoice, .inl (cI, 6, .inl (upd g mm 0)))] H := hP
    have hD : va_D A [(na, .inr (7, [.int (nI W0), .int (nI H0), .ref nwalls, .int (nI n), .ref nstarts, .ref ngoals, .ref nlaid, .ref nisTold, .int vfree, .ref ncells, .ref nindex, .ref nnear, .ref nnearCount, .ref npay, .ref ndone, .ref npile, .int vtop, .ref nnow, .ref nthen, .ref nchoice, .int vfound, .int vlength, .ref nplan, .ref ncosts, .ref npaid, .ref nafter, .ref nfar, .ref nmany, .ref nnext, .int vsort, .int vwhen, .int vone, .int vtwo])), (nchoice, .inl (cI, 6, .inl (upd g mm 0)))] := hD
    refine lv_iinc (k := 0) (v := nI (mm + 1)) hx hb d_md_firstChoice_17 hl rfl ((nI_succ mm).symm) (by decide) rfl (fun ls hl => ?_)
    have hl : lv_has ls 2 [(1, .int (nI (mm + 1))), (0, .ref na)] := hl
    refine lv_goto hx hb d_md_firstChoice_20 rfl ?_
    have hl := lv_sub hl [0, 1] (l' := [(1, .int (nI (mm + 1))), (0, .ref na)]) rfl
    exact ih_a (mm + 1, upd g mm 0) ls H _ (by show n - (mm + 1) < n - mm; omega) ⟨by show mm + 1 ≤ n; omega, fun i hi => (by show upd g mm 0 i = nI 0; by_cases e9 : i = mm; rw [e9, pk_us]; exact nI_0.symm; rw [pk_un e9]; exact hg9 i (by have : i < mm + 1 := hi; omega)), hl, hP, hD, hS⟩

set_option maxHeartbeats 4000000 in
set_option maxRecDepth 100000 in
theorem c_md_choices (l : Launch) (D : va_G) (cZ cI cJ cII : ClassId) (na : Nat) (nwalls : Nat) (nstarts : Nat) (ngoals : Nat) (nlaid : Nat) (nisTold : Nat) (ncells : Nat) (nindex : Nat) (nnear : Nat) (nnearCount : Nat) (npay : Nat) (ndone : Nat) (npile : Nat) (nnow : Nat) (nthen : Nat) (nchoice : Nat) (nplan : Nat) (ncosts : Nat) (npaid : Nat) (nafter : Nat) (nfar : Nat) (nmany : Nat) (nnext : Nat) (vfree : Int32) (vtop : Int32) (vfound : Int32) (vlength : Int32) (vsort : Int32) (vwhen : Int32) (vone : Int32) (vtwo : Int32) (W0 : Nat) (H0 : Nat) (n : Nat) (nf : Nat → Int32) (kf : Nat → Int32) (qf : Nat → Int32) (F0 : Nat) (S : Nat) (p0 : Nat → Nat) (mo : Nat) (sz : Nat) (hn : n ≤ 5) (hF : F0 ≤ 25) (hN : mc_N F0 nf kf) (hq : ∀ i, i < n → qf i = nI (p0 i) ∧ p0 i < F0) (hS32 : S < 32) (hmo : mo < n) : Met l y_md_choices w_md_choices ({ frames := 1, cells := 0, slots := 0, locals := 40 }) (va_Pc [.ref na, .int (nI S), .int (nI mo)] (mt_B D [(cZ, .boolean), (cI, .int), (cJ, .long), (cII, .array .int)] [(na, .inr (7, [.int (nI W0), .int (nI H0), .ref nwalls, .int (nI n), .ref nstarts, .ref ngoals, .ref nlaid, .ref nisTold, .int vfree, .ref ncells, .ref nindex, .ref nnear, .ref nnearCount, .ref npay, .ref ndone, .ref npile, .int vtop, .ref nnow, .ref nthen, .ref nchoice, .int vfound, .int vlength, .ref nplan, .ref ncosts, .ref npaid, .ref nafter, .ref nfar, .ref nmany, .ref nnext, .int vsort, .int vwhen, .int vone, .int vtwo])), (nnearCount, .inl (cI, 25, .inl kf)), (nnow, .inl (cI, 6, .inl qf))] sz)) (vp_Si (fun r : Int32 => r = nI (mc_R kf p0 S mo))) 0 0 (fun _ => False) := by
  refine mt_ofR (by decide) (Nat.le_of_ble_eq_true rfl) ?_
  intro p e s m below meth c ls hx hb hr hlk hml hown hg hl hX hP hK hD
  have hown : s.vm.findClass R_md = some m.cls := hown
  obtain ⟨H, hH⟩ : ∃ H : Heap, H = s.heap := ⟨_, rfl⟩
  rw [← hH] at hP ⊢
  have hl : lv_has ls 3 [(0, .ref na), (1, .int (nI S)), (2, .int (nI mo))] := hl
  refine lv_iload_n hx hb d_md_choices_0 rfl (lv_at hl 1 rfl) ?_
  refine lv_iload_n hx hb d_md_choices_1 rfl (lv_at hl 2 rfl) ?_
  have hPc := hP.sub (ws' := []) [] rfl
  have hDc := hD.sub (ws' := []) [] (by decide) rfl
  refine vp_callSi (W.runS (As := [.int (nI S), .int (nI mo)]) (rest := []) ⟨hx, hb, hml, hown, hg⟩ (c_md_rests l D cZ cI cJ cII S mo H.size hS32 (by omega)) ⟨callB_of 2 hg gg_md_123 rfl rfl rfl (hg _ gi_md_123) (hg _ gl_md_123) (by decide +kernel) ⟨Nat.le_of_ble_eq_true rfl, Nat.le_of_ble_eq_true rfl⟩, hg _ gt_md_123⟩ ⟨mt_bl, mt_pr hX hPc hK hDc⟩ rfl rfl hl.1 rfl (lv_room (Nat.le_of_ble_eq_true rfl)) d_md_choices_2 ⟨Nat.le_of_ble_eq_true rfl, Nat.le_of_ble_eq_true rfl⟩) (fun r1 hr1 => ?_)
  have hr1 : (r1 = 1 ∧ S.testBit mo = true) ∨ (r1 = 0 ∧ S.testBit mo = false) := hr1
  have hib := hr1
  refine lv_if_eq hx hb d_md_choices_5 rfl (fun g1 => ?_) (fun g1 => ?_)
  ·
    have ht9 : S.testBit mo = false := hib.elim (fun q => absurd (q.1.symm.trans g1) (by decide)) (fun q => q.2)
    have hp9 := (hq mo hmo).2
    refine lv_aload_n hx hb d_md_choices_12 rfl (lv_at hl 0 rfl) ?_
    refine gf_md_42 hx hb hg hown hK hP 0 rfl rfl d_md_choices_13 ?_
    refine lv_aload_n hx hb d_md_choices_16 rfl (lv_at hl 0 rfl) ?_
    refine gf_md_55 hx hb hg hown hK hP 0 rfl rfl d_md_choices_17 ?_
    refine lv_iload_n hx hb d_md_choices_20 rfl (lv_at hl 2 rfl) ?_
    refine va_iald hx hb hK hP 2 1 rfl rfl (vp_in_nI (show mo < 6 by omega) (by decide)) d_md_choices_21 ?_
    refine lv_topi (fun y2 ey2 => ?_)
    have ey2 : y2 = nI (p0 mo) := ey2.trans (by rw [nI_clamp (show mo < 2 ^ 31 by omega)]; exact (hq mo hmo).1)
    subst ey2
    refine va_iald hx hb hK hP 1 1 rfl rfl (vp_in_nI (show p0 mo < 25 by omega) (by decide)) d_md_choices_22 ?_
    refine lv_topi (fun y3 ey3 => ?_)
    have ey3 : y3 = nI (mc_R kf p0 S mo) := ey3.trans (by rw [nI_clamp (show p0 mo < 2 ^ 31 by omega)]; exact ((mc_R5 hN hp9).2.2 ht9))
    subst ey3
    exact W.iret hx hb hr (fun t ht _ => ⟨nI (mc_R kf p0 S mo), rfl, rfl, ht.trans hH⟩) (fun _ h => absurd h List.not_mem_nil) d_md_choices_23
  ·
    have ht9 : S.testBit mo = true := hib.elim (fun q => q.2) (fun q => absurd q.1 g1)
    refine lv_iconst (v := 1) hx hb d_md_choices_8 (by decide) ?_
    refine lv_goto hx hb d_md_choices_9 rfl ?_
    exact W.iret hx hb hr (fun t ht _ => ⟨1, rfl, by unfold mc_R; rw [if_pos ht9]; rfl, ht.trans hH⟩) (fun _ h => absurd h List.not_mem_nil) d_md_choices_23

set_option maxHeartbeats 4000000 in
set_option maxRecDepth 100000 in
theorem c_md_choose (l : Launch) (D : va_G) (cZ cI cJ cII : ClassId) (na : Nat) (nwalls : Nat) (nstarts : Nat) (ngoals : Nat) (nlaid : Nat) (nisTold : Nat) (ncells : Nat) (nindex : Nat) (nnear : Nat) (nnearCount : Nat) (npay : Nat) (ndone : Nat) (npile : Nat) (nnow : Nat) (nthen : Nat) (nchoice : Nat) (nplan : Nat) (ncosts : Nat) (npaid : Nat) (nafter : Nat) (nfar : Nat) (nmany : Nat) (nnext : Nat) (vfree : Int32) (vtop : Int32) (vfound : Int32) (vlength : Int32) (vsort : Int32) (vwhen : Int32) (vone : Int32) (vtwo : Int32) (W0 : Nat) (H0 : Nat) (n : Nat) (nf : Nat → Int32) (kf : Nat → Int32) (qf : Nat → Int32) (tf : Nat → Int32) (hf : Nat → Int32) (F0 : Nat) (S : Nat) (p0 : Nat → Nat) (ch : Nat → Nat) (sz : Nat) (hn : n ≤ 5) (hF : F0 ≤ 25) (hN : mc_N F0 nf kf) (hq : ∀ i, i < n → qf i = nI (p0 i) ∧ p0 i < F0) (hS32 : S < 32) (hch : ∀ i, i < n → hf i = nI (ch i) ∧ ch i < mc_R kf p0 S i) : Met l y_md_choose w_md_choose ({ frames := 1, cells := 0, slots := 0, locals := 40 }) (va_Pc [.ref na, .int (nI S)] (mt_B D [(cZ, .boolean), (cI, .int), (cJ, .long), (cII, .array .int)] [(na, .inr (7, [.int (nI W0), .int (nI H0), .ref nwalls, .int (nI n), .ref nstarts, .ref ngoals, .ref nlaid, .ref nisTold, .int vfree, .ref ncells, .ref nindex, .ref nnear, .ref nnearCount, .ref npay, .ref ndone, .ref npile, .int vtop, .ref nnow, .ref nthen, .ref nchoice, .int vfound, .int vlength, .ref nplan, .ref ncosts, .ref npaid, .ref nafter, .ref nfar, .ref nmany, .ref nnext, .int vsort, .int vwhen, .int vone, .int vtwo])), (nnow, .inl (cI, 6, .inl qf)), (nthen, .inl (cI, 6, .inl tf)), (nnear, .inl (cI, 125, .inl nf)), (nchoice, .inl (cI, 6, .inl hf))] sz)) ((fun A => va_Qv (fun (u : (Nat → Int32)) => ∀ i, i < n → u i = nI (mc_q nf p0 S ch i)) (fun (u : (Nat → Int32)) (t : State) => mt_O D A [(na, .inr (7, [.int (nI W0), .int (nI H0), .ref nwalls, .int (nI n), .ref nstarts, .ref ngoals, .ref nlaid, .ref nisTold, .int vfree, .ref ncells, .ref nindex, .ref nnear, .ref nnearCount, .ref npay, .ref ndone, .ref npile, .int vtop, .ref nnow, .ref nthen, .ref nchoice, .int vfound, .int vlength, .ref nplan, .ref ncosts, .ref npaid, .ref nafter, .ref nfar, .ref nmany, .ref nnext, .int vsort, .int vwhen, .int vone, .int vtwo])), (nnow, .inl (cI, 6, .inl qf)), (nthen, .inl (cI, 6, .inl u)), (nnear, .inl (cI, 125, .inl nf)), (nchoice, .inl (cI, 6, .inl hf))] t) A) (va_A [(na, .inr (7, [.int (nI W0), .int (nI H0), .ref nwalls, .int (nI n), .ref nstarts, .ref ngoals, .ref nlaid, .ref nisTold, .int vfree, .ref ncells, .ref nindex, .ref nnear, .ref nnearCount, .ref npay, .ref ndone, .ref npile, .int vtop, .ref nnow, .ref nthen, .ref nchoice, .int vfound, .int vlength, .ref nplan, .ref ncosts, .ref npaid, .ref nafter, .ref nfar, .ref nmany, .ref nnext, .int vsort, .int vwhen, .int vone, .int vtwo])), (nnow, .inl (cI, 6, .inl qf)), (nthen, .inl (cI, 6, .inl tf)), (nnear, .inl (cI, 125, .inl nf)), (nchoice, .inl (cI, 6, .inl hf))] sz)) 0 0 (va_A [(na, .inr (7, [.int (nI W0), .int (nI H0), .ref nwalls, .int (nI n), .ref nstarts, .ref ngoals, .ref nlaid, .ref nisTold, .int vfree, .ref ncells, .ref nindex, .ref nnear, .ref nnearCount, .ref npay, .ref ndone, .ref npile, .int vtop, .ref nnow, .ref nthen, .ref nchoice, .int vfound, .int vlength, .ref nplan, .ref ncosts, .ref npaid, .ref nafter, .ref nfar, .ref nmany, .ref nnext, .int vsort, .int vwhen, .int vone, .int vtwo])), (nnow, .inl (cI, 6, .inl qf)), (nthen, .inl (cI, 6, .inl tf)), (nnear, .inl (cI, 125, .inl nf)), (nchoice, .inl (cI, 6, .inl hf))] sz) := by
  refine mt_of (y := y_md_choose) (n := 3) (av := [.ref na, .int (nI S)]) (QF := (fun A => va_Qv (fun (u : (Nat → Int32)) => ∀ i, i < n → u i = nI (mc_q nf p0 S ch i)) (fun (u : (Nat → Int32)) (t : State) => mt_O D A [(na, .inr (7, [.int (nI W0), .int (nI H0), .ref nwalls, .int (nI n), .ref nstarts, .ref ngoals, .ref nlaid, .ref nisTold, .int vfree, .ref ncells, .ref nindex, .ref nnear, .ref nnearCount, .ref npay, .ref ndone, .ref npile, .int vtop, .ref nnow, .ref nthen, .ref nchoice, .int vfound, .int vlength, .ref nplan, .ref ncosts, .ref npaid, .ref nafter, .ref nfar, .ref nmany, .ref nnext, .int vsort, .int vwhen, .int vone, .int vtwo])), (nnow, .inl (cI, 6, .inl qf)), (nthen, .inl (cI, 6, .inl u)), (nnear, .inl (cI, 125, .inl nf)), (nchoice, .inl (cI, 6, .inl hf))] t) A)) (by decide) (Nat.le_of_ble_eq_true rfl) ?_
  intro p e s m below meth c ls A hx hb hr hlk hml hown hnm hg hl hX hP hK hD hA hS
  obtain ⟨H, hH⟩ : ∃ H : Heap, H = s.heap := ⟨_, rfl⟩
  have hS : va_S A s.heap H [] := by rw [hH]; exact va_S.rf
  rw [← hH] at hP ⊢
  have hown : s.vm.findClass R_md = some m.cls := hown
  have hl : lv_has ls 3 [(0, .ref na), (1, .int (nI S))] := hl
  refine lv_iconst (v := 0) hx hb d_md_choose_0 (by decide) ?_
  refine lv_istore_n hx hb d_md_choose_1 rfl hl (by decide) rfl (fun ls hl => ?_)
  have hl : lv_has ls 3 [(2, .int 0), (0, .ref na), (1, .int (nI S))] := hl
  have hl := lv_sub hl [0, 1, 2] (l' := [(2, .int (nI 0)), (0, .ref na), (1, .int (nI S))]) rfl
  refine mt_loop (ι := Nat × (Nat → Int32)) (I := fun ix ls H locs => ((ix.1) ≤ n) ∧ (∀ i, i < (ix.1) → (ix.2) i = nI (mc_q nf p0 S ch i)) ∧ lv_has ls 3 [(2, .int (nI (ix.1))), (0, .ref na), (1, .int (nI S))] ∧ va_P D kls [(na, .inr (7, [.int (nI W0), .int (nI H0), .ref nwalls, .int (nI n), .ref nstarts, .ref ngoals, .ref nlaid, .ref nisTold, .int vfree, .ref ncells, .ref nindex, .ref nnear, .ref nnearCount, .ref npay, .ref ndone, .ref npile, .int vtop, .ref nnow, .ref nthen, .ref nchoice, .int vfound, .int vlength, .ref nplan, .ref ncosts, .ref npaid, .ref nafter, .ref nfar, .ref nmany, .ref nnext, .int vsort, .int vwhen, .int vone, .int vtwo])), (nnow, .inl (cI, 6, .inl qf)), (nthen, .inl (cI, 6, .inl (ix.2))), (nnear, .inl (cI, 125, .inl nf)), (nchoice, .inl (cI, 6, .inl hf))] H ∧ va_D A [(na, .inr (7, [.int (nI W0), .int (nI H0), .ref nwalls, .int (nI n), .ref nstarts, .ref ngoals, .ref nlaid, .ref nisTold, .int vfree, .ref ncells, .ref nindex, .ref nnear, .ref nnearCount, .ref npay, .ref ndone, .ref npile, .int vtop, .ref nnow, .ref nthen, .ref nchoice, .int vfound, .int vlength, .ref nplan, .ref ncosts, .ref npaid, .ref nafter, .ref nfar, .ref nmany, .ref nnext, .int vsort, .int vwhen, .int vone, .int vtwo])), (nnow, .inl (cI, 6, .inl qf)), (nthen, .inl (cI, 6, .inl (ix.2))), (nnear, .inl (cI, 125, .inl nf)), (nchoice, .inl (cI, 6, .inl hf))] ∧ va_S A s.heap H locs) (μ := fun ix => n - (ix.1)) ?_ (0, tf) ls H _ ⟨Nat.zero_le _, fun i h => absurd h (Nat.not_lt_zero _), hl, hP, hD, hS⟩
  clear hl hP hD hS
  intro i_a ls H locs ⟨hmm, hg9, hl, hP, hD, hS⟩ ih_a
  obtain ⟨mm, g⟩ := i_a
  have hmm : mm ≤ n := hmm
  have hg9 : ∀ i, i < mm → g i = nI (mc_q nf p0 S ch i) := hg9
  have hl : lv_has ls 3 [(2, .int (nI mm)), (0, .ref na), (1, .int (nI S))] := hl
  have hP : va_P D kls [(na, .inr (7, [.int (nI W0), .int (nI H0), .ref nwalls, .int (nI n), .ref nstarts, .ref ngoals, .ref nlaid, .ref nisTold, .int vfree, .ref ncells, .ref nindex, .ref nnear, .ref nnearCount, .ref npay, .ref ndone, .ref npile, .int vtop, .ref nnow, .ref nthen, .ref nchoice, .int vfound, .int vlength, .ref nplan, .ref ncosts, .ref npaid, .ref nafter, .ref nfar, .ref nmany, .ref nnext, .int vsort, .int vwhen, .int vone, .int vtwo])), (nnow, .inl (cI, 6, .inl qf)), (nthen, .inl (cI, 6, .inl g)), (nnear, .inl (cI, 125, .inl nf)), (nchoice, .inl (cI, 6, .inl hf))] H := hP
  have hD : va_D A [(na, .inr (7, [.int (nI W0), .int (nI H0), .ref nwalls, .int (nI n), .ref nstarts, .ref ngoals, .ref nlaid, .ref nisTold, .int vfree, .ref ncells, .ref nindex, .ref nnear, .ref nnearCount, .ref npay, .ref ndone, .ref npile, .int vtop, .ref nnow, .ref nthen, .ref nchoice, .int vfound, .int vlength, .ref nplan, .ref ncosts, .ref npaid, .ref nafter, .ref nfar, .ref nmany, .ref nnext, .int vsort, .int vwhen, .int vone, .int vtwo])), (nnow, .inl (cI, 6, .inl qf)), (nthen, .inl (cI, 6, .inl g)), (nnear, .inl (cI, 125, .inl nf)), (nchoice, .inl (cI, 6, .inl hf))] := hD
  refine lv_iload_n hx hb d_md_choose_2 rfl (lv_at hl 0 rfl) ?_
  refine lv_aload_n hx hb d_md_choose_3 rfl (lv_at hl 1 rfl) ?_
  refine gf_md_86 hx hb hg hown hK hP 0 rfl rfl d_md_choose_4 ?_
  refine lv_icmp_ge hx hb d_md_choose_7 rfl (fun g1 => ?_) (fun g1 => ?_)
  ·
    have g2 : n ≤ mm := by rcases Nat.lt_or_ge mm n with h | h; exact absurd g1 (nI_ge (b := n) h (by omega)); exact h
    have hP9 := hP
    have hD9 := hD
    exact W.vret hx hb hr (fun t ht hW => ⟨⟨g, rfl, fun i hi => hg9 i (by have : i < n := hi; omega), by rw [ht]; exact hP9, hD9⟩, hS.F ht⟩) hS.2.2 d_md_choose_59
  ·
    have g2 : mm < n := by rcases Nat.lt_or_ge mm n with h | h; exact h; exact absurd (nI_le (a := n) h (by omega)) g1
    have hp9 := hq mm g2
    have hc9 := hch mm g2
    have hR9 := mc_R5 (who := S) hN hp9.2
    have hq9 := mc_qE hN hF hp9.2 hc9.2
    have hg8 : ∀ i, i < mm + 1 → upd g mm (nI (mc_q nf p0 S ch mm)) i = nI (mc_q nf p0 S ch i) := fun i hi => by by_cases e9 : i = mm; rw [e9, pk_us]; rw [pk_un e9]; exact hg9 i (by omega)
    refine lv_aload_n hx hb d_md_choose_10 rfl (lv_at hl 1 rfl) ?_
    refine gf_md_58 hx hb hg hown hK hP 0 rfl rfl d_md_choose_11 ?_
    refine lv_iload_n hx hb d_md_choose_14 rfl (lv_at hl 0 rfl) ?_
    refine lv_iload_n hx hb d_md_choose_15 rfl (lv_at hl 2 rfl) ?_
    refine lv_iload_n hx hb d_md_choose_16 rfl (lv_at hl 0 rfl) ?_
    have hPc := hP.sub (ws' := []) [] rfl
    have hDc := hD.sub (ws' := []) [] (by decide) rfl
    refine vp_callSi (W.runS (As := [.int (nI S), .int (nI mm)]) (rest := [.int (nI mm), .ref nthen]) ⟨hx, hb, hml, hown, hg⟩ (c_md_rests l D cZ cI cJ cII S mm H.size hS32 (by omega)) ⟨callB_of 2 hg gg_md_123 rfl rfl rfl (hg _ gi_md_123) (hg _ gl_md_123) (by decide +kernel) ⟨Nat.le_of_ble_eq_true rfl, Nat.le_of_ble_eq_true rfl⟩, hg _ gt_md_123⟩ ⟨mt_bl, mt_pr hX hPc hK hDc⟩ rfl rfl hl.1 rfl (lv_room (Nat.le_of_ble_eq_true rfl)) d_md_choose_17 ⟨Nat.le_of_ble_eq_true rfl, Nat.le_of_ble_eq_true rfl⟩) (fun r1 hr1 => ?_)
    have hr1 : (r1 = 1 ∧ S.testBit mm = true) ∨ (r1 = 0 ∧ S.testBit mm = false) := hr1
    have hib := hr1
    refine lv_if_eq hx hb d_md_choose_20 rfl (fun g3 => ?_) (fun g3 => ?_)
    ·
      have ht9 : S.testBit mm = false := hib.elim (fun q => absurd (q.1.symm.trans g3) (by decide)) (fun q => q.2)
      refine lv_aload_n hx hb d_md_choose_32 rfl (lv_at hl 1 rfl) ?_
      refine gf_md_39 hx hb hg hown hK hP 0 rfl rfl d_md_choose_33 ?_
      refine lv_iconst (v := 5) hx hb d_md_choose_36 (by decide) ?_
      refine lv_aload_n hx hb d_md_choose_37 rfl (lv_at hl 1 rfl) ?_
      refine gf_md_55 hx hb hg hown hK hP 0 rfl rfl d_md_choose_38 ?_
      refine lv_iload_n hx hb d_md_choose_41 rfl (lv_at hl 0 rfl) ?_
      refine va_iald hx hb hK hP 1 1 rfl rfl (vp_in_nI (show mm < 6 by omega) (by decide)) d_md_choose_42 ?_
      refine lv_topi (fun y2 ey2 => ?_)
      have ey2 : y2 = nI (p0 mm) := ey2.trans (by rw [nI_clamp (show mm < 2 ^ 31 by omega)]; exact hp9.1)
      subst ey2
      refine lv_imul hx hb d_md_choose_43 ?_
      refine lv_topi (fun y3 ey3 => ?_)
      have ey3 : y3 = nI (5 * p0 mm) := ey3.trans (by rw [show (5 : Int32) = nI 5 from rfl, pk_mul])
      subst ey3
      refine lv_aload_n hx hb d_md_choose_44 rfl (lv_at hl 1 rfl) ?_
      refine gf_md_61 hx hb hg hown hK hP 0 rfl rfl d_md_choose_45 ?_
      refine lv_iload_n hx hb d_md_choose_48 rfl (lv_at hl 0 rfl) ?_
      refine va_iald hx hb hK hP 4 1 rfl rfl (vp_in_nI (show mm < 6 by omega) (by decide)) d_md_choose_49 ?_
      refine lv_topi (fun y4 ey4 => ?_)
      have ey4 : y4 = nI (ch mm) := ey4.trans (by rw [nI_clamp (show mm < 2 ^ 31 by omega)]; exact hc9.1)
      subst ey4
      refine lv_iadd hx hb d_md_choose_50 ?_
      refine lv_topi (fun y5 ey5 => ?_)
      have ey5 : y5 = nI (5 * p0 mm + ch mm) := ey5.trans (nI_add _ _)
      subst ey5
      refine va_iald hx hb hK hP 3 1 rfl rfl (vp_in_nI (show 5 * p0 mm + ch mm < 125 by omega) (by decide)) d_md_choose_51 ?_
      refine lv_topi (fun y6 ey6 => ?_)
      have ey6 : y6 = nI (mc_q nf p0 S ch mm) := ey6.trans (by rw [nI_clamp (show 5 * p0 mm + ch mm < 2 ^ 31 by omega)]; exact (hq9.2.2 ht9))
      subst ey6
      refine va_iast hx hb hK hP hD hS 2 1 rfl rfl (vp_in_nI (show mm < 6 by omega) (by decide)) d_md_choose_52 (fun H locs hP hD hS => ?_)
      rw [nI_clamp (show mm < 2 ^ 31 by omega)] at hP hD
      have hP : va_P D kls [(na, .inr (7, [.int (nI W0), .int (nI H0), .ref nwalls, .int (nI n), .ref nstarts, .ref ngoals, .ref nlaid, .ref nisTold, .int vfree, .ref ncells, .ref nindex, .ref nnear, .ref nnearCount, .ref npay, .ref ndone, .ref npile, .int vtop, .ref nnow, .ref nthen, .ref nchoice, .int vfound, .int vlength, .ref nplan, .ref ncosts, .ref npaid, .ref nafter, .ref nfar, .ref nmany, .ref nnext, .int vsort, .int vwhen, .int vone, .int vtwo])), (nnow, .inl (cI, 6, .inl qf)), (nthen, .inl (cI, 6, .inl (upd g mm (nI (mc_q nf p0 S ch mm))))), (nnear, .inl (cI, 125, .inl nf)), (nchoice, .inl (cI, 6, .inl hf))] H := hP
      have hD : va_D A [(na, .inr (7, [.int (nI W0), .int (nI H0), .ref nwalls, .int (nI n), .ref nstarts, .ref ngoals, .ref nlaid, .ref nisTold, .int vfree, .ref ncells, .ref nindex, .ref nnear, .ref nnearCount, .ref npay, .ref ndone, .ref npile, .int vtop, .ref nnow, .ref nthen, .ref nchoice, .int vfound, .int vlength, .ref nplan, .ref ncosts, .ref npaid, .ref nafter, .ref nfar, .ref nmany, .ref nnext, .int vsort, .int vwhen, .int vone, .int vtwo])), (nnow, .inl (cI, 6, .inl qf)), (nthen, .inl (cI, 6, .inl (upd g mm (nI (mc_q nf p0 S ch mm))))), (nnear, .inl (cI, 125, .inl nf)), (nchoice, .inl (cI, 6, .inl hf))] := hD
      refine lv_iinc (k := 0) (v := nI (mm + 1)) hx hb d_md_choose_53 hl rfl ((nI_succ mm).symm) (by decide) rfl (fun ls hl => ?_)
      have hl : lv_has ls 3 [(2, .int (nI (mm + 1))), (0, .ref na), (1, .int (nI S))] := hl
      refine lv_goto hx hb d_md_choose_56 rfl ?_
      have hl := lv_sub hl [0, 1, 2] (l' := [(2, .int (nI (mm + 1))), (0, .ref na), (1, .int (nI S))]) rfl
      exact ih_a (mm + 1, upd g mm (nI (mc_q nf p0 S ch mm))) ls H _ (by show n - (mm + 1) < n - mm; omega) ⟨by show mm + 1 ≤ n; omega, hg8, hl, hP, hD, hS⟩
    ·
      have ht9 : S.testBit mm = true := hib.elim (fun q => q.2) (fun q => absurd q.1 g3)
      refine lv_aload_n hx hb d_md_choose_23 rfl (lv_at hl 1 rfl) ?_
      refine gf_md_55 hx hb hg hown hK hP 0 rfl rfl d_md_choose_24 ?_
      refine lv_iload_n hx hb d_md_choose_27 rfl (lv_at hl 0 rfl) ?_
      refine va_iald hx hb hK hP 1 1 rfl rfl (vp_in_nI (show mm < 6 by omega) (by decide)) d_md_choose_28 ?_
      refine lv_topi (fun y7 ey7 => ?_)
      have ey7 : y7 = nI (mc_q nf p0 S ch mm) := ey7.trans (by rw [nI_clamp (show mm < 2 ^ 31 by omega)]; exact (by rw [hq9.2.1 ht9]; exact hp9.1))
      subst ey7
      refine lv_goto hx hb d_md_choose_29 rfl ?_
      refine va_iast hx hb hK hP hD hS 2 1 rfl rfl (vp_in_nI (show mm < 6 by omega) (by decide)) d_md_choose_52 (fun H locs hP hD hS => ?_)
      rw [nI_clamp (show mm < 2 ^ 31 by omega)] at hP hD
      have hP : va_P D kls [(na, .inr (7, [.int (nI W0), .int (nI H0), .ref nwalls, .int (nI n), .ref nstarts, .ref ngoals, .ref nlaid, .ref nisTold, .int vfree, .ref ncells, .ref nindex, .ref nnear, .ref nnearCount, .ref npay, .ref ndone, .ref npile, .int vtop, .ref nnow, .ref nthen, .ref nchoice, .int vfound, .int vlength, .ref nplan, .ref ncosts, .ref npaid, .ref nafter, .ref nfar, .ref nmany, .ref nnext, .int vsort, .int vwhen, .int vone, .int vtwo])), (nnow, .inl (cI, 6, .inl qf)), (nthen, .inl (cI, 6, .inl (upd g mm (nI (mc_q nf p0 S ch mm))))), (nnear, .inl (cI, 125, .inl nf)), (nchoice, .inl (cI, 6, .inl hf))] H := hP
      have hD : va_D A [(na, .inr (7, [.int (nI W0), .int (nI H0), .ref nwalls, .int (nI n), .ref nstarts, .ref ngoals, .ref nlaid, .ref nisTold, .int vfree, .ref ncells, .ref nindex, .ref nnear, .ref nnearCount, .ref npay, .ref ndone, .ref npile, .int vtop, .ref nnow, .ref nthen, .ref nchoice, .int vfound, .int vlength, .ref nplan, .ref ncosts, .ref npaid, .ref nafter, .ref nfar, .ref nmany, .ref nnext, .int vsort, .int vwhen, .int vone, .int vtwo])), (nnow, .inl (cI, 6, .inl qf)), (nthen, .inl (cI, 6, .inl (upd g mm (nI (mc_q nf p0 S ch mm))))), (nnear, .inl (cI, 125, .inl nf)), (nchoice, .inl (cI, 6, .inl hf))] := hD
      refine lv_iinc (k := 0) (v := nI (mm + 1)) hx hb d_md_choose_53 hl rfl ((nI_succ mm).symm) (by decide) rfl (fun ls hl => ?_)
      have hl : lv_has ls 3 [(2, .int (nI (mm + 1))), (0, .ref na), (1, .int (nI S))] := hl
      refine lv_goto hx hb d_md_choose_56 rfl ?_
      have hl := lv_sub hl [0, 1, 2] (l' := [(2, .int (nI (mm + 1))), (0, .ref na), (1, .int (nI S))]) rfl
      exact ih_a (mm + 1, upd g mm (nI (mc_q nf p0 S ch mm))) ls H _ (by show n - (mm + 1) < n - mm; omega) ⟨by show mm + 1 ≤ n; omega, hg8, hl, hP, hD, hS⟩
