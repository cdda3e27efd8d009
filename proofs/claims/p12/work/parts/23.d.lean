theorem mt_nmk {k : Nat} (h : k < 2 ^ 31) : ¬ nI k = -1 := fun e => nI_pos h (by rw [e]; decide)
/-- the ways counted: over a cell's steps, and by times -/
def wz_sum (k : Nat → Int64) (f : Nat → Int32) : Nat → Int64
  | 0 => 0
  | i + 1 => wz_sum k f i + k (f i).toNatClampNeg
theorem wz_sum_c {k k' : Nat → Int64} {f : Nat → Int32} : ∀ m, (∀ i, i < m → ∃ b, b < 25 ∧ f i = nI b) → (∀ c, c < 25 → k c = k' c) → wz_sum k f m = wz_sum k' f m := by
  intro m
  induction m with
  | zero => intro _ _; rfl
  | succ m ih =>
    intro h hk
    show _ + _ = _ + _
    obtain ⟨b, hb, e⟩ := h m (by omega)
    rw [ih (fun i hi => h i (by omega)) hk, e, nI_clamp (by omega), hk b hb]
def wz_ct (N : Nat) (wf sf : Nat → Int32) (Ms : Nat → Nat → Int32) (sp : Nat) : Nat → Nat → Int64
  | 0, c => if c = sp then 1 else 0
  | t + 1, c => if c < N ∧ wf c = 0 then wz_sum (wz_ct N wf sf Ms sp t) (Ms c) (sf c).toNatClampNeg else 0

set_option maxHeartbeats 4000000 in
set_option maxRecDepth 100000 in
theorem c_cr_sumOfWays (l : Launch) (D : va_G) (cZ cI cJ cII : ClassId) (ca : Nat) (cfl : Nat) (cs : Nat) (cg : Nat) (cto : Nat) (cq : Nat) (cco : Nat) (cnx : Nat) (s5 : Nat → Int32) (rg : Nat → Nat) (Mg : Nat → Nat → Int32) (n : Nat) (sp : Nat → Nat) (sz : Nat) (hn : n ≤ 5) (hw : ∀ a, a < n → s5 a = nI (sp a) ∧ sp a < 25 ∧ (Mg a (sp a) = -1 ∨ ∃ k, k ≤ 24 ∧ Mg a (sp a) = nI k)) : Met l y_cr_sumOfWays w_cr_sumOfWays ({ frames := 1, cells := 0, slots := 0, locals := 40 }) (va_Pc [.ref ca] (mt_B D [(cZ, .boolean), (cI, .int), (cJ, .long), (cII, .array .int)] ([(ca, .inr (0, [.ref cfl, .int (nI n), .ref cs, .ref cg, .ref cto, .ref cq, .ref cco, .ref cnx])), (cs, .inl (cI, 5, .inl s5)), (cto, .inl (cII, 5, .inr (.inr (.inr (.inr (fun i => if i < 5 then some (rg i) else none))))))] ++ mt_rw 5 rg (fun i => .inl (cI, 25, .inl (Mg i)))) sz)) (vp_Si (fun r : Int32 => (r = -1 ∧ ∃ a, a < n ∧ Mg a (sp a) = -1) ∨ (r = nI (sx_sum (fun a => (Mg a (sp a)).toNatClampNeg) n) ∧ ∀ a, a < n → ¬ Mg a (sp a) = -1))) 0 0 (fun _ => False) := by
  refine mt_ofR (by decide) (Nat.le_of_ble_eq_true rfl) ?_
  intro p e s m below meth c ls hx hb hr hlk hml hown hg hl hX hP hK hD
  have hown : s.vm.findClass R_cr = some m.cls := hown
  obtain ⟨H, hH⟩ : ∃ H : Heap, H = s.heap := ⟨_, rfl⟩
  rw [← hH] at hP ⊢
  have hl : lv_has ls 4 [(0, .ref ca)] := hl
  refine lv_iconst (v := 0) hx hb d_cr_sumOfWays_0 (by decide) ?_
  refine lv_istore_n hx hb d_cr_sumOfWays_1 rfl hl (by decide) rfl (fun ls hl => ?_)
  have hl : lv_has ls 4 [(1, .int 0), (0, .ref ca)] := hl
  refine lv_iconst (v := 0) hx hb d_cr_sumOfWays_2 (by decide) ?_
  refine lv_istore_n hx hb d_cr_sumOfWays_3 rfl hl (by decide) rfl (fun ls hl => ?_)
  have hl : lv_has ls 4 [(2, .int 0), (1, .int 0), (0, .ref ca)] := hl
  have hl := lv_sub hl [0, 1, 2] (l' := [(2, .int (nI 0)), (1, .int (nI 0)), (0, .ref ca)]) rfl
  refine mt_loop (ι := Nat × Nat) (I := fun ix ls H locs => ((ix.1) ≤ n) ∧ ((ix.2) = sx_sum (fun a => (Mg a (sp a)).toNatClampNeg) (ix.1)) ∧ (∀ a, a < (ix.1) → ¬ Mg a (sp a) = -1) ∧ lv_has ls 4 [(2, .int (nI (ix.1))), (1, .int (nI (ix.2))), (0, .ref ca)] ∧ va_P D kls ([(ca, .inr (0, [.ref cfl, .int (nI n), .ref cs, .ref cg, .ref cto, .ref cq, .ref cco, .ref cnx])), (cs, .inl (cI, 5, .inl s5)), (cto, .inl (cII, 5, .inr (.inr (.inr (.inr (fun i => if i < 5 then some (rg i) else none))))))] ++ mt_rw 5 rg (fun i => .inl (cI, 25, .inl (Mg i)))) H ∧ H = s.heap ∧ locs = []) (μ := fun ix => n - (ix.1)) ?_ (0, 0) ls H _ ⟨Nat.zero_le _, rfl, fun a h => absurd h (Nat.not_lt_zero _), hl, hP, hH, rfl⟩
  clear hl hP
  intro i_a ls H locs ⟨hmm, hsu, hall, hl, hP, hH, hlc⟩ ih_a
  obtain ⟨mm, su⟩ := i_a
  subst hlc
  have hmm : mm ≤ n := hmm
  have hsu : su = sx_sum (fun a => (Mg a (sp a)).toNatClampNeg) mm := hsu
  have hall : ∀ a, a < mm → ¬ Mg a (sp a) = -1 := hall
  have hl : lv_has ls 4 [(2, .int (nI mm)), (1, .int (nI su)), (0, .ref ca)] := hl
  have hP : va_P D kls ([(ca, .inr (0, [.ref cfl, .int (nI n), .ref cs, .ref cg, .ref cto, .ref cq, .ref cco, .ref cnx])), (cs, .inl (cI, 5, .inl s5)), (cto, .inl (cII, 5, .inr (.inr (.inr (.inr (fun i => if i < 5 then some (rg i) else none))))))] ++ mt_rw 5 rg (fun i => .inl (cI, 25, .inl (Mg i)))) H := hP
  refine lv_iload_n hx hb d_cr_sumOfWays_4 rfl (lv_at hl 0 rfl) ?_
  refine lv_aload_n hx hb d_cr_sumOfWays_5 rfl (lv_at hl 2 rfl) ?_
  refine gf_cr_37 hx hb hg hown hK hP 0 rfl rfl d_cr_sumOfWays_6 ?_
  refine lv_icmp_ge hx hb d_cr_sumOfWays_9 rfl (fun g1 => ?_) (fun g1 => ?_)
  ·
    have g2 : n ≤ mm := by rcases Nat.lt_or_ge mm n with h | h; exact absurd g1 (nI_ge (b := n) h (by omega)); exact h
    have g2e : mm = n := by omega
    refine lv_iload_n hx hb d_cr_sumOfWays_35 rfl (lv_at hl 1 rfl) ?_
    exact W.iret hx hb hr (fun t ht _ => ⟨nI su, rfl, Or.inr ⟨by rw [hsu, g2e], fun a h => hall a (by omega)⟩, ht.trans hH⟩) (fun _ h => absurd h List.not_mem_nil) d_cr_sumOfWays_36
  ·
    have g2 : mm < n := by rcases Nat.lt_or_ge mm n with h | h; exact h; exact absurd (nI_le (a := n) h (by omega)) g1
    have hwm := hw mm g2
    refine lv_aload_n hx hb d_cr_sumOfWays_12 rfl (lv_at hl 2 rfl) ?_
    refine lv_iload_n hx hb d_cr_sumOfWays_13 rfl (lv_at hl 0 rfl) ?_
    have hPc := hP
    have hDc := hD
    refine vp_callSi (W.runV (As := [.int (nI mm)]) (rest := []) ⟨hx, hb, hml, hown, hg⟩ (c_cr_wayFromStart l D cZ cI cJ cII ca cfl (nI n) cs cg cto cq cco cnx rg Mg s5 mm (sp mm) H.size (by omega) (hwm.2.1) (hwm.1)) (cwV 1 hg gv_cr_50 rfl rfl rfl (by decide +kernel) ⟨Nat.le_of_ble_eq_true rfl, Nat.le_of_ble_eq_true rfl⟩) ⟨mt_bl, va_recv (q0 := 0) (ci := 0) hK hP rfl rfl, mt_pr hX hPc hK hDc⟩ rfl rfl hl.1 rfl (lv_room (Nat.le_of_ble_eq_true rfl)) d_cr_sumOfWays_14 ⟨Nat.le_of_ble_eq_true rfl, Nat.le_of_ble_eq_true rfl⟩) (fun r1 hr1 => ?_)
    have hr1 : r1 = Mg mm (sp mm) := hr1
    refine lv_istore_n hx hb d_cr_sumOfWays_17 rfl hl (by decide) rfl (fun ls hl => ?_)
    have hl : lv_has ls 4 [(3, .int r1), (2, .int (nI mm)), (1, .int (nI su)), (0, .ref ca)] := hl
    refine lv_iload_n hx hb d_cr_sumOfWays_18 rfl (lv_at hl 0 rfl) ?_
    refine lv_iconst (v := (-1)) hx hb d_cr_sumOfWays_19 (by decide) ?_
    refine lv_icmp_ne hx hb d_cr_sumOfWays_20 rfl (fun g3 => ?_) (fun g3 => ?_)
    ·
      rw [hr1] at g3
      obtain ⟨kk, hkk, hkk2⟩ := hwm.2.2.resolve_left g3
      rw [hr1, hkk2] at hl
      have hl : lv_has ls 4 [(3, .int (nI kk)), (2, .int (nI mm)), (1, .int (nI su)), (0, .ref ca)] := hl
      refine lv_iload_n hx hb d_cr_sumOfWays_25 rfl (lv_at hl 2 rfl) ?_
      refine lv_iload_n hx hb d_cr_sumOfWays_26 rfl (lv_at hl 0 rfl) ?_
      refine lv_iadd hx hb d_cr_sumOfWays_27 ?_
      refine lv_topi (fun y2 ey2 => ?_)
      have ey2 : y2 = nI (su + kk) := ey2.trans (nI_add su kk)
      subst ey2
      refine lv_istore_n hx hb d_cr_sumOfWays_28 rfl hl (by decide) rfl (fun ls hl => ?_)
      have hl : lv_has ls 4 [(1, .int (nI (su + kk))), (3, .int (nI kk)), (2, .int (nI mm)), (0, .ref ca)] := hl
      refine lv_iinc (k := 2) (v := nI (mm + 1)) hx hb d_cr_sumOfWays_29 hl rfl ((nI_succ mm).symm) (by decide) rfl (fun ls hl => ?_)
      have hl : lv_has ls 4 [(2, .int (nI (mm + 1))), (1, .int (nI (su + kk))), (3, .int (nI kk)), (0, .ref ca)] := hl
      refine lv_goto hx hb d_cr_sumOfWays_32 rfl ?_
      have hl := lv_sub hl [0, 1, 3] (l' := [(2, .int (nI (mm + 1))), (1, .int (nI (su + kk))), (0, .ref ca)]) rfl
      exact ih_a (mm + 1, su + kk) ls H _ (by show n - (mm + 1) < n - mm; omega) ⟨by show mm + 1 ≤ n; omega, by show su + kk = sx_sum _ mm + (Mg mm (sp mm)).toNatClampNeg; rw [hsu, hkk2, nI_clamp (by omega)], fun a h => (Nat.lt_or_ge a mm).elim (fun h2 => hall a h2) (fun h2 => by rw [show a = mm from Nat.le_antisymm (Nat.le_of_lt_succ h) h2]; exact g3), hl, hP, hH, rfl⟩
    ·
      rw [hr1] at g3
      refine lv_iconst (v := (-1)) hx hb d_cr_sumOfWays_23 (by decide) ?_
      exact W.iret hx hb hr (fun t ht _ => ⟨(-1), rfl, Or.inl ⟨rfl, mm, g2, g3⟩, ht.trans hH⟩) (fun _ h => absurd h List.not_mem_nil) d_cr_sumOfWays_24

set_option maxHeartbeats 4000000 in
set_option maxRecDepth 100000 in
theorem c_cr_countsBeside (l : Launch) (D : va_G) (cZ cI cJ cII : ClassId) (ca : Nat) (cn : Int32) (cs : Nat) (cg : Nat) (cto : Nat) (cq : Nat) (cco : Nat) (cnx : Nat) (fa : Nat) (fw : Int32) (fh : Int32) (wa : Nat) (fc : Int32) (ra : Nat) (sa : Nat) (ta : Nat) (k1 : Nat → Int64) (sf : Nat → Int32) (rr : Nat → Nat) (Ms : Nat → Nat → Int32) (ce : Nat) (cnt : Nat) (sz : Nat) (hc : ce < 25) (hcnt : cnt ≤ 5) (hsc : sf ce = nI cnt) (hst : ∀ i, i < cnt → ∃ b, b < 25 ∧ Ms ce i = nI b) : Met l y_cr_countsBeside w_cr_countsBeside ({ frames := 0, cells := 0, slots := 0, locals := 0 }) (va_Pc [.ref ca, .int (nI ce)] (mt_B D [(cZ, .boolean), (cI, .int), (cJ, .long), (cII, .array .int)] ([(ca, .inr (0, [.ref fa, .int cn, .ref cs, .ref cg, .ref cto, .ref cq, .ref cco, .ref cnx])), (fa, .inr (1, [.int fw, .int fh, .ref wa, .int fc, .ref ra, .ref sa, .ref ta])), (cco, .inl (cJ, 25, .inr (.inl k1))), (sa, .inl (cI, 25, .inl sf)), (ta, .inl (cII, 25, .inr (.inr (.inr (.inr (fun i => if i < 25 then some (rr i) else none))))))] ++ mt_rw 25 rr (fun i => .inl (cI, 5, .inl (Ms i)))) sz)) (vp_Sl (fun r : Int64 => r = wz_sum k1 (Ms ce) cnt)) 0 0 (fun _ => False) := by
  refine mt_ofR (by decide) (Nat.le_of_ble_eq_true rfl) ?_
  intro p e s m below meth c ls hx hb hr hlk hml hown hg hl hX hP hK hD
  have hown : s.vm.findClass R_cr = some m.cls := hown
  obtain ⟨H, hH⟩ : ∃ H : Heap, H = s.heap := ⟨_, rfl⟩
  rw [← hH] at hP ⊢
  have hl : lv_has ls 5 [(0, .ref ca), (1, .int (nI ce))] := hl
  refine lv_lconst (v := 0) hx hb d_cr_countsBeside_0 (by decide) ?_
  refine lv_lstore_n hx hb d_cr_countsBeside_1 rfl hl (by decide) rfl (fun ls hl => ?_)
  have hl : lv_has ls 5 [(2, .long 0), (0, .ref ca), (1, .int (nI ce))] := hl
  refine lv_iconst (v := 0) hx hb d_cr_countsBeside_2 (by decide) ?_
  refine lv_istore hx hb d_cr_countsBeside_3 hl (by decide) rfl (fun ls hl => ?_)
  have hl : lv_has ls 5 [(4, .int 0), (2, .long 0), (0, .ref ca), (1, .int (nI ce))] := hl
  have hl := lv_sub hl [0, 1, 2, 3] (l' := [(4, .int (nI 0)), (2, .long 0), (0, .ref ca), (1, .int (nI ce))]) rfl
  refine mt_loop (ι := Nat × Int64) (I := fun ix ls H locs => ((ix.1) ≤ cnt) ∧ ((ix.2) = wz_sum k1 (Ms ce) (ix.1)) ∧ lv_has ls 5 [(4, .int (nI (ix.1))), (2, .long (ix.2)), (0, .ref ca), (1, .int (nI ce))] ∧ va_P D kls ([(ca, .inr (0, [.ref fa, .int cn, .ref cs, .ref cg, .ref cto, .ref cq, .ref cco, .ref cnx])), (fa, .inr (1, [.int fw, .int fh, .ref wa, .int fc, .ref ra, .ref sa, .ref ta])), (cco, .inl (cJ, 25, .inr (.inl k1))), (sa, .inl (cI, 25, .inl sf)), (ta, .inl (cII, 25, .inr (.inr (.inr (.inr (fun i => if i < 25 then some (rr i) else none))))))] ++ mt_rw 25 rr (fun i => .inl (cI, 5, .inl (Ms i)))) H ∧ H = s.heap ∧ locs = []) (μ := fun ix => cnt - (ix.1)) ?_ (0, 0) ls H _ ⟨Nat.zero_le _, rfl, hl, hP, hH, rfl⟩
  clear hl hP
  intro i_a ls H locs ⟨hii, hsu, hl, hP, hH, hlc⟩ ih_a
  obtain ⟨ii, su⟩ := i_a
  subst hlc
  have hii : ii ≤ cnt := hii
  have hsu : su = wz_sum k1 (Ms ce) ii := hsu
  have hl : lv_has ls 5 [(4, .int (nI ii)), (2, .long su), (0, .ref ca), (1, .int (nI ce))] := hl
  have hP : va_P D kls ([(ca, .inr (0, [.ref fa, .int cn, .ref cs, .ref cg, .ref cto, .ref cq, .ref cco, .ref cnx])), (fa, .inr (1, [.int fw, .int fh, .ref wa, .int fc, .ref ra, .ref sa, .ref ta])), (cco, .inl (cJ, 25, .inr (.inl k1))), (sa, .inl (cI, 25, .inl sf)), (ta, .inl (cII, 25, .inr (.inr (.inr (.inr (fun i => if i < 25 then some (rr i) else none))))))] ++ mt_rw 25 rr (fun i => .inl (cI, 5, .inl (Ms i)))) H := hP
  refine lv_iload hx hb d_cr_countsBeside_5 (lv_at hl 0 rfl) ?_
  refine lv_aload_n hx hb d_cr_countsBeside_7 rfl (lv_at hl 2 rfl) ?_
  refine gf_cr_33 hx hb hg hown hK hP 0 rfl rfl d_cr_countsBeside_8 ?_
  refine gf_cr_71 hx hb hg hown hK hP 1 rfl rfl d_cr_countsBeside_11 ?_
  refine lv_iload_n hx hb d_cr_countsBeside_14 rfl (lv_at hl 3 rfl) ?_
  refine va_iald hx hb hK hP 3 1 rfl rfl (vp_in_nI hc (by decide)) d_cr_countsBeside_15 ?_
  refine lv_topi (fun y1 ey1 => ?_)
  have ey1 : y1 = nI cnt := ey1.trans (by rw [nI_clamp (show ce < 2 ^ 31 by omega)]; exact hsc)
  subst ey1
  refine lv_icmp_ge hx hb d_cr_countsBeside_16 rfl (fun g1 => ?_) (fun g1 => ?_)
  ·
    have g2 : cnt ≤ ii := by rcases Nat.lt_or_ge ii cnt with h | h; exact absurd g1 (nI_ge (b := cnt) h (by omega)); exact h
    have g2e : ii = cnt := by omega
    refine lv_lload_n hx hb d_cr_countsBeside_45 rfl (lv_at hl 1 rfl) ?_
    exact W.lret hx hb hr (fun t ht _ => ⟨su, rfl, by rw [hsu, g2e], ht.trans hH⟩) (fun _ h => absurd h List.not_mem_nil) d_cr_countsBeside_46
  ·
    have g2 : ii < cnt := by rcases Nat.lt_or_ge ii cnt with h | h; exact h; exact absurd (nI_le (a := cnt) h (by omega)) g1
    obtain ⟨b, hb5, hbe⟩ := hst ii g2
    refine lv_lload_n hx hb d_cr_countsBeside_19 rfl (lv_at hl 1 rfl) ?_
    refine lv_aload_n hx hb d_cr_countsBeside_20 rfl (lv_at hl 2 rfl) ?_
    refine gf_cr_26 hx hb hg hown hK hP 0 rfl rfl d_cr_countsBeside_21 ?_
    refine lv_aload_n hx hb d_cr_countsBeside_24 rfl (lv_at hl 2 rfl) ?_
    refine gf_cr_33 hx hb hg hown hK hP 0 rfl rfl d_cr_countsBeside_25 ?_
    refine gf_cr_74 hx hb hg hown hK hP 1 rfl rfl d_cr_countsBeside_28 ?_
    refine lv_iload_n hx hb d_cr_countsBeside_31 rfl (lv_at hl 3 rfl) ?_
    refine mt_aald hx hb hK hP 4 3 rfl rfl (vp_in_nI hc (by decide)) (by show (if (nI ce).toNatClampNeg < 25 then some (rr (nI ce).toNatClampNeg) else none) = some (rr ce); rw [nI_clamp (show ce < 2 ^ 31 by omega), if_pos hc]) d_cr_countsBeside_32 ?_
    refine lv_iload hx hb d_cr_countsBeside_33 (lv_at hl 0 rfl) ?_
    refine va_iald hx hb hK hP (5 + ce) 1 (mt_rw_at rfl hc) rfl (vp_in_nI (show ii < 5 by omega) (by decide)) d_cr_countsBeside_35 ?_
    refine lv_topi (fun y2 ey2 => ?_)
    have ey2 : y2 = nI b := ey2.trans (by rw [nI_clamp (show ii < 2 ^ 31 by omega)]; exact hbe)
    subst ey2
    refine va_lald hx hb hK hP 2 2 rfl rfl (vp_in_nI hb5 (by decide)) d_cr_countsBeside_36 ?_
    refine lv_topl (fun y3 ey3 => ?_)
    have ey3 : y3 = k1 b := ey3.trans (by rw [nI_clamp (show b < 2 ^ 31 by omega)])
    subst ey3
    refine lv_ladd hx hb d_cr_countsBeside_37 ?_
    refine lv_topl (fun x4 ex4 => ?_)
    have e8 : x4 = wz_sum k1 (Ms ce) (ii + 1) := by rw [ex4, hsu]; show _ = wz_sum k1 (Ms ce) ii + k1 (Ms ce ii).toNatClampNeg; rw [hbe, nI_clamp (by omega)]
    refine lv_lstore_n hx hb d_cr_countsBeside_38 rfl hl (by decide) rfl (fun ls hl => ?_)
    have hl : lv_has ls 5 [(2, .long x4), (4, .int (nI ii)), (0, .ref ca), (1, .int (nI ce))] := hl
    refine lv_iinc (k := 1) (v := nI (ii + 1)) hx hb d_cr_countsBeside_39 hl rfl ((nI_succ ii).symm) (by decide) rfl (fun ls hl => ?_)
    have hl : lv_has ls 5 [(4, .int (nI (ii + 1))), (2, .long x4), (0, .ref ca), (1, .int (nI ce))] := hl
    refine lv_goto hx hb d_cr_countsBeside_42 rfl ?_
    have hl := lv_sub hl [0, 1, 2, 3] (l' := [(4, .int (nI (ii + 1))), (2, .long x4), (0, .ref ca), (1, .int (nI ce))]) rfl
    exact ih_a (ii + 1, x4) ls H _ (by show cnt - (ii + 1) < cnt - ii; omega) ⟨by show ii + 1 ≤ cnt; omega, e8, hl, hP, hH, rfl⟩
