theorem fx_Ok_s {W N k : Nat} {wf rf rf1 sf sf1 : Nat → Int32} {Ms Ms1 : Nat → Nat → Int32} {fc1 : Int32} {Q : Prop} (h : fx_Ok W N wf rf sf Ms k) (hp : rf1 = upd rf k (nI (fx_cnt wf k)) ∧ fc1 = nI (fx_cnt wf (k + 1)) ∧ (∀ a, a ≠ k → sf1 a = sf a ∧ Ms1 a = Ms a) ∧ (¬ wf k = 0 → sf1 k = 0) ∧ (wf k = 0 → ∃ cnt, sf1 k = nI cnt ∧ fx_acc (fx_fr N wf) (fx_adj W k) 5 (Ms1 k) cnt) ∧ Q) : fx_Ok W N wf rf1 sf1 Ms1 (k + 1) := by
  obtain ⟨rfl, -, h3, h4, h5, -⟩ := hp
  intro c hc
  by_cases e : c = k
  · subst e; exact ⟨pk_us, h4, h5⟩
  · have g := h c (by omega)
    rw [pk_un e, (h3 c e).1, (h3 c e).2]
    exact g
theorem fx_sc_s {sf sf1 : Nat → Int32} {k : Nat} (h : fx_sc sf) (h1 : ∀ a, a ≠ k → sf1 a = sf a) (h2 : ∃ cnt, cnt ≤ 5 ∧ sf1 k = nI cnt) : fx_sc sf1 := by
  intro a ha
  by_cases e : a = k
  · subst e; exact h2
  · rw [h1 a e]; exact h a ha

set_option maxHeartbeats 4000000 in
set_option maxRecDepth 100000 in
theorem c_fl_chartM (l : Launch) (D : va_G) (cZ cI cJ cII : ClassId) (fa : Nat) (wa : Nat) (fc : Int32) (ra : Nat) (sa : Nat) (ta : Nat) (wf : Nat → Int32) (rf : Nat → Int32) (sf : Nat → Int32) (rr : Nat → Nat) (Ms : Nat → Nat → Int32) (W0 : Nat) (H0 : Nat) (sz : Nat) (hWH : 1 ≤ W0 ∧ W0 ≤ 6 ∧ H0 ≤ 6 ∧ W0 * H0 ≤ 25) (hsc : fx_sc sf) : Met l y_fl_chart w_fl_chart ({ frames := 4, cells := 0, slots := 0, locals := 160 }) (va_Pc [.ref fa] (mt_B D [(cZ, .boolean), (cI, .int), (cJ, .long), (cII, .array .int)] ([(fa, .inr (1, [.int (nI W0), .int (nI H0), .ref wa, .int fc, .ref ra, .ref sa, .ref ta])), (wa, .inl (cZ, 25, .inl wf)), (ra, .inl (cI, 25, .inl rf)), (sa, .inl (cI, 25, .inl sf)), (ta, .inl (cII, 25, .inr (.inr (.inr (.inr (fun i => if i < 25 then some (rr i) else none))))))] ++ mt_rw 25 rr (fun i => .inl (cI, 5, .inl (Ms i)))) sz)) ((fun A => va_Qv (fun (u : (Nat → Int32) × (Nat → Int32) × (Nat → Nat → Int32)) => fx_Ok W0 (W0 * H0) wf (u.1) (u.2.1) (u.2.2) (W0 * H0) ∧ fx_sc (u.2.1)) (fun (u : (Nat → Int32) × (Nat → Int32) × (Nat → Nat → Int32)) (t : State) => mt_O D A ([(fa, .inr (1, [.int (nI W0), .int (nI H0), .ref wa, .int (nI (fx_cnt wf (W0 * H0))), .ref ra, .ref sa, .ref ta])), (wa, .inl (cZ, 25, .inl wf)), (ra, .inl (cI, 25, .inl (u.1))), (sa, .inl (cI, 25, .inl (u.2.1))), (ta, .inl (cII, 25, .inr (.inr (.inr (.inr (fun i => if i < 25 then some (rr i) else none))))))] ++ mt_rw 25 rr (fun i => .inl (cI, 5, .inl ((u.2.2) i)))) t) A) (va_A ([(fa, .inr (1, [.int (nI W0), .int (nI H0), .ref wa, .int fc, .ref ra, .ref sa, .ref ta])), (wa, .inl (cZ, 25, .inl wf)), (ra, .inl (cI, 25, .inl rf)), (sa, .inl (cI, 25, .inl sf)), (ta, .inl (cII, 25, .inr (.inr (.inr (.inr (fun i => if i < 25 then some (rr i) else none))))))] ++ mt_rw 25 rr (fun i => .inl (cI, 5, .inl (Ms i)))) sz)) 0 0 (va_A ([(fa, .inr (1, [.int (nI W0), .int (nI H0), .ref wa, .int fc, .ref ra, .ref sa, .ref ta])), (wa, .inl (cZ, 25, .inl wf)), (ra, .inl (cI, 25, .inl rf)), (sa, .inl (cI, 25, .inl sf)), (ta, .inl (cII, 25, .inr (.inr (.inr (.inr (fun i => if i < 25 then some (rr i) else none))))))] ++ mt_rw 25 rr (fun i => .inl (cI, 5, .inl (Ms i)))) sz) := by
  refine mt_of (y := y_fl_chart) (n := 3) (av := [.ref fa]) (QF := (fun A => va_Qv (fun (u : (Nat → Int32) × (Nat → Int32) × (Nat → Nat → Int32)) => fx_Ok W0 (W0 * H0) wf (u.1) (u.2.1) (u.2.2) (W0 * H0) ∧ fx_sc (u.2.1)) (fun (u : (Nat → Int32) × (Nat → Int32) × (Nat → Nat → Int32)) (t : State) => mt_O D A ([(fa, .inr (1, [.int (nI W0), .int (nI H0), .ref wa, .int (nI (fx_cnt wf (W0 * H0))), .ref ra, .ref sa, .ref ta])), (wa, .inl (cZ, 25, .inl wf)), (ra, .inl (cI, 25, .inl (u.1))), (sa, .inl (cI, 25, .inl (u.2.1))), (ta, .inl (cII, 25, .inr (.inr (.inr (.inr (fun i => if i < 25 then some (rr i) else none))))))] ++ mt_rw 25 rr (fun i => .inl (cI, 5, .inl ((u.2.2) i)))) t) A)) (by decide) (Nat.le_of_ble_eq_true rfl) ?_
  intro p e s m below meth c ls A hx hb hr hlk hml hown hnm hg hl hX hP hK hD hA hS
  obtain ⟨H, hH⟩ : ∃ H : Heap, H = s.heap := ⟨_, rfl⟩
  have hS : va_S A s.heap H [] := by rw [hH]; exact va_S.rf
  rw [← hH] at hP ⊢
  have hown : s.vm.findClass R_fl = some m.cls := hown
  have hl : lv_has ls 3 [(0, .ref fa)] := hl
  refine lv_aload_n hx hb d_fl_chart_0 rfl (lv_at hl 0 rfl) ?_
  refine lv_iconst (v := 0) hx hb d_fl_chart_1 (by decide) ?_
  refine pf_fl_48 hx hb hg hown hK hP hD hS 0 rfl rfl rfl (Nat.le_of_ble_eq_true rfl) d_fl_chart_2 (fun H locs hP hD hS => ?_)
  have hP : va_P D kls ([(fa, .inr (1, [.int (nI W0), .int (nI H0), .ref wa, .int 0, .ref ra, .ref sa, .ref ta])), (wa, .inl (cZ, 25, .inl wf)), (ra, .inl (cI, 25, .inl rf)), (sa, .inl (cI, 25, .inl sf)), (ta, .inl (cII, 25, .inr (.inr (.inr (.inr (fun i => if i < 25 then some (rr i) else none))))))] ++ mt_rw 25 rr (fun i => .inl (cI, 5, .inl (Ms i)))) H := hP
  have hD : va_D A ([(fa, .inr (1, [.int (nI W0), .int (nI H0), .ref wa, .int 0, .ref ra, .ref sa, .ref ta])), (wa, .inl (cZ, 25, .inl wf)), (ra, .inl (cI, 25, .inl rf)), (sa, .inl (cI, 25, .inl sf)), (ta, .inl (cII, 25, .inr (.inr (.inr (.inr (fun i => if i < 25 then some (rr i) else none))))))] ++ mt_rw 25 rr (fun i => .inl (cI, 5, .inl (Ms i)))) := hD
  refine lv_iconst (v := 0) hx hb d_fl_chart_5 (by decide) ?_
  refine lv_istore_n hx hb d_fl_chart_6 rfl hl (by decide) rfl (fun ls hl => ?_)
  have hl : lv_has ls 3 [(1, .int 0), (0, .ref fa)] := hl
  have hl := lv_sub hl [0, 1] (l' := [(1, .int (nI 0)), (0, .ref fa)]) rfl
  refine mt_loop (ι := Nat × Int32 × (Nat → Int32) × (Nat → Int32) × (Nat → Nat → Int32)) (I := fun ix ls H locs => ((ix.1) ≤ H0) ∧ (fx_Ok W0 (W0 * H0) wf (ix.2.2.1) (ix.2.2.2.1) (ix.2.2.2.2) (W0 * (ix.1))) ∧ ((ix.2.1) = nI (fx_cnt wf (W0 * (ix.1)))) ∧ (fx_sc (ix.2.2.2.1)) ∧ lv_has ls 3 [(1, .int (nI (ix.1))), (0, .ref fa)] ∧ va_P D kls ([(fa, .inr (1, [.int (nI W0), .int (nI H0), .ref wa, .int (ix.2.1), .ref ra, .ref sa, .ref ta])), (wa, .inl (cZ, 25, .inl wf)), (ra, .inl (cI, 25, .inl (ix.2.2.1))), (sa, .inl (cI, 25, .inl (ix.2.2.2.1))), (ta, .inl (cII, 25, .inr (.inr (.inr (.inr (fun i => if i < 25 then some (rr i) else none))))))] ++ mt_rw 25 rr (fun i => .inl (cI, 5, .inl ((ix.2.2.2.2) i)))) H ∧ va_D A ([(fa, .inr (1, [.int (nI W0), .int (nI H0), .ref wa, .int (ix.2.1), .ref ra, .ref sa, .ref ta])), (wa, .inl (cZ, 25, .inl wf)), (ra, .inl (cI, 25, .inl (ix.2.2.1))), (sa, .inl (cI, 25, .inl (ix.2.2.2.1))), (ta, .inl (cII, 25, .inr (.inr (.inr (.inr (fun i => if i < 25 then some (rr i) else none))))))] ++ mt_rw 25 rr (fun i => .inl (cI, 5, .inl ((ix.2.2.2.2) i)))) ∧ va_S A s.heap H locs) (μ := fun ix => H0 - (ix.1)) ?_ (0, 0, rf, sf, Ms) ls H _ ⟨Nat.zero_le _, fun c h => absurd h (by show ¬ c < W0 * 0; omega), rfl, hsc, hl, hP, hD, hS⟩
  clear hl hP hD hS
  intro i_a ls H locs ⟨hy, hv, hvc, hvs, hl, hP, hD, hS⟩ ih_a
  obtain ⟨y, vc, vr, vs, vM⟩ := i_a
  have hy : y ≤ H0 := hy
  have hv : fx_Ok W0 (W0 * H0) wf vr vs vM (W0 * y) := hv
  have hvc : vc = nI (fx_cnt wf (W0 * y)) := hvc
  have hvs : fx_sc vs := hvs
  have hl : lv_has ls 3 [(1, .int (nI y)), (0, .ref fa)] := hl
  have hP : va_P D kls ([(fa, .inr (1, [.int (nI W0), .int (nI H0), .ref wa, .int vc, .ref ra, .ref sa, .ref ta])), (wa, .inl (cZ, 25, .inl wf)), (ra, .inl (cI, 25, .inl vr)), (sa, .inl (cI, 25, .inl vs)), (ta, .inl (cII, 25, .inr (.inr (.inr (.inr (fun i => if i < 25 then some (rr i) else none))))))] ++ mt_rw 25 rr (fun i => .inl (cI, 5, .inl (vM i)))) H := hP
  have hD : va_D A ([(fa, .inr (1, [.int (nI W0), .int (nI H0), .ref wa, .int vc, .ref ra, .ref sa, .ref ta])), (wa, .inl (cZ, 25, .inl wf)), (ra, .inl (cI, 25, .inl vr)), (sa, .inl (cI, 25, .inl vs)), (ta, .inl (cII, 25, .inr (.inr (.inr (.inr (fun i => if i < 25 then some (rr i) else none))))))] ++ mt_rw 25 rr (fun i => .inl (cI, 5, .inl (vM i)))) := hD
  refine lv_iload_n hx hb d_fl_chart_7 rfl (lv_at hl 0 rfl) ?_
  refine lv_aload_n hx hb d_fl_chart_8 rfl (lv_at hl 1 rfl) ?_
  refine gf_fl_35 hx hb hg hown hK hP 0 rfl rfl d_fl_chart_9 ?_
  refine lv_icmp_ge hx hb d_fl_chart_12 rfl (fun g1 => ?_) (fun g1 => ?_)
  ·
    have g2 : H0 ≤ y := by rcases Nat.lt_or_ge y H0 with h | h; exact absurd g1 (nI_ge (b := H0) h (by omega)); exact h
    have g8 : H0 = y := by omega
    subst hvc
    rw [← g8] at hP hD hv
    have hP : va_P D kls ([(fa, .inr (1, [.int (nI W0), .int (nI H0), .ref wa, .int (nI (fx_cnt wf (W0 * H0))), .ref ra, .ref sa, .ref ta])), (wa, .inl (cZ, 25, .inl wf)), (ra, .inl (cI, 25, .inl vr)), (sa, .inl (cI, 25, .inl vs)), (ta, .inl (cII, 25, .inr (.inr (.inr (.inr (fun i => if i < 25 then some (rr i) else none))))))] ++ mt_rw 25 rr (fun i => .inl (cI, 5, .inl (vM i)))) H := hP
    have hD : va_D A ([(fa, .inr (1, [.int (nI W0), .int (nI H0), .ref wa, .int (nI (fx_cnt wf (W0 * H0))), .ref ra, .ref sa, .ref ta])), (wa, .inl (cZ, 25, .inl wf)), (ra, .inl (cI, 25, .inl vr)), (sa, .inl (cI, 25, .inl vs)), (ta, .inl (cII, 25, .inr (.inr (.inr (.inr (fun i => if i < 25 then some (rr i) else none))))))] ++ mt_rw 25 rr (fun i => .inl (cI, 5, .inl (vM i)))) := hD
    have hP9 := hP
    have hD9 := hD
    exact W.vret hx hb hr (fun t ht hW => ⟨⟨(vr, vs, vM), rfl, ⟨hv, hvs⟩, by rw [ht]; exact hP9, hD9⟩, hS.F ht⟩) hS.2.2 d_fl_chart_50
  ·
    have g2 : y < H0 := by rcases Nat.lt_or_ge y H0 with h | h; exact h; exact absurd (nI_le (a := H0) h (by omega)) g1
    refine lv_iconst (v := 0) hx hb d_fl_chart_15 (by decide) ?_
    refine lv_istore_n hx hb d_fl_chart_16 rfl hl (by decide) rfl (fun ls hl => ?_)
    have hl : lv_has ls 3 [(2, .int 0), (1, .int (nI y)), (0, .ref fa)] := hl
    have hl := lv_sub hl [0, 1, 2] (l' := [(2, .int (nI 0)), (1, .int (nI y)), (0, .ref fa)]) rfl
    refine mt_loop (ι := Nat × Int32 × (Nat → Int32) × (Nat → Int32) × (Nat → Nat → Int32)) (I := fun ix ls H locs => ((ix.1) ≤ W0) ∧ (fx_Ok W0 (W0 * H0) wf (ix.2.2.1) (ix.2.2.2.1) (ix.2.2.2.2) (W0 * y + (ix.1))) ∧ ((ix.2.1) = nI (fx_cnt wf (W0 * y + (ix.1)))) ∧ (fx_sc (ix.2.2.2.1)) ∧ lv_has ls 3 [(2, .int (nI (ix.1))), (1, .int (nI y)), (0, .ref fa)] ∧ va_P D kls ([(fa, .inr (1, [.int (nI W0), .int (nI H0), .ref wa, .int (ix.2.1), .ref ra, .ref sa, .ref ta])), (wa, .inl (cZ, 25, .inl wf)), (ra, .inl (cI, 25, .inl (ix.2.2.1))), (sa, .inl (cI, 25, .inl (ix.2.2.2.1))), (ta, .inl (cII, 25, .inr (.inr (.inr (.inr (fun i => if i < 25 then some (rr i) else none))))))] ++ mt_rw 25 rr (fun i => .inl (cI, 5, .inl ((ix.2.2.2.2) i)))) H ∧ va_D A ([(fa, .inr (1, [.int (nI W0), .int (nI H0), .ref wa, .int (ix.2.1), .ref ra, .ref sa, .ref ta])), (wa, .inl (cZ, 25, .inl wf)), (ra, .inl (cI, 25, .inl (ix.2.2.1))), (sa, .inl (cI, 25, .inl (ix.2.2.2.1))), (ta, .inl (cII, 25, .inr (.inr (.inr (.inr (fun i => if i < 25 then some (rr i) else none))))))] ++ mt_rw 25 rr (fun i => .inl (cI, 5, .inl ((ix.2.2.2.2) i)))) ∧ va_S A s.heap H locs) (μ := fun ix => W0 - (ix.1)) ?_ (0, vc, vr, vs, vM) ls H _ ⟨Nat.zero_le _, hv, hvc, hvs, hl, hP, hD, hS⟩
    clear hl hP hD hS
    intro i_b ls H locs ⟨hxx, hu, huc, hus, hl, hP, hD, hS⟩ ih_b
    obtain ⟨x, uc, ur, us, uM⟩ := i_b
    have hxx : x ≤ W0 := hxx
    have hu : fx_Ok W0 (W0 * H0) wf ur us uM (W0 * y + x) := hu
    have huc : uc = nI (fx_cnt wf (W0 * y + x)) := huc
    have hus : fx_sc us := hus
    have hl : lv_has ls 3 [(2, .int (nI x)), (1, .int (nI y)), (0, .ref fa)] := hl
    have hP : va_P D kls ([(fa, .inr (1, [.int (nI W0), .int (nI H0), .ref wa, .int uc, .ref ra, .ref sa, .ref ta])), (wa, .inl (cZ, 25, .inl wf)), (ra, .inl (cI, 25, .inl ur)), (sa, .inl (cI, 25, .inl us)), (ta, .inl (cII, 25, .inr (.inr (.inr (.inr (fun i => if i < 25 then some (rr i) else none))))))] ++ mt_rw 25 rr (fun i => .inl (cI, 5, .inl (uM i)))) H := hP
    have hD : va_D A ([(fa, .inr (1, [.int (nI W0), .int (nI H0), .ref wa, .int uc, .ref ra, .ref sa, .ref ta])), (wa, .inl (cZ, 25, .inl wf)), (ra, .inl (cI, 25, .inl ur)), (sa, .inl (cI, 25, .inl us)), (ta, .inl (cII, 25, .inr (.inr (.inr (.inr (fun i => if i < 25 then some (rr i) else none))))))] ++ mt_rw 25 rr (fun i => .inl (cI, 5, .inl (uM i)))) := hD
    refine lv_iload_n hx hb d_fl_chart_17 rfl (lv_at hl 0 rfl) ?_
    refine lv_aload_n hx hb d_fl_chart_18 rfl (lv_at hl 2 rfl) ?_
    refine gf_fl_31 hx hb hg hown hK hP 0 rfl rfl d_fl_chart_19 ?_
    refine lv_icmp_ge hx hb d_fl_chart_22 rfl (fun g3 => ?_) (fun g3 => ?_)
    ·
      have g9a : W0 ≤ x := by rcases Nat.lt_or_ge x W0 with h | h; exact absurd g3 (nI_ge (b := W0) h (by omega)); exact h
      have g10 : W0 * y + x = W0 * (y + 1) := by rw [Nat.mul_succ]; omega
      refine lv_iinc (k := 1) (v := nI (y + 1)) hx hb d_fl_chart_44 hl rfl ((nI_succ y).symm) (by decide) rfl (fun ls hl => ?_)
      have hl : lv_has ls 3 [(1, .int (nI (y + 1))), (2, .int (nI x)), (0, .ref fa)] := hl
      refine lv_goto hx hb d_fl_chart_47 rfl ?_
      have hl := lv_sub hl [0, 2] (l' := [(1, .int (nI (y + 1))), (0, .ref fa)]) rfl
      exact ih_a (y + 1, uc, ur, us, uM) ls H _ (by show H0 - (y + 1) < H0 - y; omega) ⟨by show y + 1 ≤ H0; omega, by show fx_Ok _ _ _ _ _ _ (W0 * (y + 1)); rw [← g10]; exact hu, by show _ = nI (fx_cnt wf (W0 * (y + 1))); rw [← g10]; exact huc, hus, hl, hP, hD, hS⟩
    ·
      have g4 : x < W0 := by rcases Nat.lt_or_ge x W0 with h | h; exact h; exact absurd (nI_le (a := W0) h (by omega)) g3
      have g5 : W0 * y + x < W0 * H0 := by
        have q : W0 * (y + 1) ≤ W0 * H0 := Nat.mul_le_mul_left _ g2
        have q2 : W0 * (y + 1) = W0 * y + W0 := Nat.mul_succ _ _
        omega
      refine lv_aload_n hx hb d_fl_chart_25 rfl (lv_at hl 2 rfl) ?_
      refine lv_iload_n hx hb d_fl_chart_26 rfl (lv_at hl 0 rfl) ?_
      refine lv_aload_n hx hb d_fl_chart_27 rfl (lv_at hl 2 rfl) ?_
      refine gf_fl_31 hx hb hg hown hK hP 0 rfl rfl d_fl_chart_28 ?_
      refine lv_iload_n hx hb d_fl_chart_31 rfl (lv_at hl 1 rfl) ?_
      refine lv_imul hx hb d_fl_chart_32 ?_
      refine lv_iload_n hx hb d_fl_chart_33 rfl (lv_at hl 0 rfl) ?_
      refine lv_iadd hx hb d_fl_chart_34 ?_
      refine lv_topi (fun y1 ey1 => ?_)
      have ey1 : y1 = nI (W0 * y + x) := ey1.trans (by rw [pk_mul, nI_add])
      subst ey1
      subst huc
      have hP : va_P D kls ([(fa, .inr (1, [.int (nI W0), .int (nI H0), .ref wa, .int (nI (fx_cnt wf (W0 * y + x))), .ref ra, .ref sa, .ref ta])), (wa, .inl (cZ, 25, .inl wf)), (ra, .inl (cI, 25, .inl ur)), (sa, .inl (cI, 25, .inl us)), (ta, .inl (cII, 25, .inr (.inr (.inr (.inr (fun i => if i < 25 then some (rr i) else none))))))] ++ mt_rw 25 rr (fun i => .inl (cI, 5, .inl (uM i)))) H := hP
      have hD : va_D A ([(fa, .inr (1, [.int (nI W0), .int (nI H0), .ref wa, .int (nI (fx_cnt wf (W0 * y + x))), .ref ra, .ref sa, .ref ta])), (wa, .inl (cZ, 25, .inl wf)), (ra, .inl (cI, 25, .inl ur)), (sa, .inl (cI, 25, .inl us)), (ta, .inl (cII, 25, .inr (.inr (.inr (.inr (fun i => if i < 25 then some (rr i) else none))))))] ++ mt_rw 25 rr (fun i => .inl (cI, 5, .inl (uM i)))) := hD
      have hPc := hP
      have hDc := hD
      have hFc := mt_whole hD hS hA
      refine va_callv (va_runV (As := [.int (nI x), .int (nI (W0 * y + x))]) (rest := []) ⟨hx, hb, hml, hown, hg⟩ (c_fl_chartCellM l D cZ cI cJ cII fa wa ra sa ta wf ur us rr uM W0 H0 x (W0 * y + x) H.size hWH g5 g4 (by rw [Nat.mul_add_mod, Nat.mod_eq_of_lt g4])) (cwV 2 hg gv_fl_51 rfl rfl rfl (by decide +kernel) ⟨Nat.le_of_ble_eq_true rfl, Nat.le_of_ble_eq_true rfl⟩) ⟨mt_bl, va_recv (q0 := 0) (ci := 1) hK hP rfl rfl, mt_pr hX hPc hK hDc⟩ rfl rfl hl.1 rfl (lv_room (Nat.le_of_ble_eq_true rfl)) d_fl_chart_35 ⟨Nat.le_of_ble_eq_true rfl, Nat.le_of_ble_eq_true rfl⟩) hS (fun q _ h => hFc q h) hFc (fun u t H1 locs ht hvm hw hB hz1 hk1 hS => ?_)
      obtain ⟨fc13, rf14, sf15, Ms16⟩ := u
      have hr2 : rf14 = upd ur (W0 * y + x) (nI (fx_cnt wf (W0 * y + x))) ∧ fc13 = nI (fx_cnt wf ((W0 * y + x) + 1)) ∧ (∀ a, a ≠ (W0 * y + x) → sf15 a = us a ∧ Ms16 a = uM a) ∧ (¬ wf (W0 * y + x) = 0 → sf15 (W0 * y + x) = 0) ∧ (wf (W0 * y + x) = 0 → ∃ cnt, sf15 (W0 * y + x) = nI cnt ∧ fx_acc (fx_fr (W0 * H0) wf) (fx_adj W0 (W0 * y + x)) 5 (Ms16 (W0 * y + x)) cnt) ∧ (∃ cnt, cnt ≤ 5 ∧ sf15 (W0 * y + x) = nI cnt) := hw
      obtain ⟨hP1, hD1⟩ := hB
      rw [ht] at hP1
      have hP := hP1
      have hD := hD1.weaken (fun _ _ _ h => hFc _ h)
      generalize H1 = H at hP hS ⊢
      have hP : va_P D kls ([(fa, .inr (1, [.int (nI W0), .int (nI H0), .ref wa, .int fc13, .ref ra, .ref sa, .ref ta])), (wa, .inl (cZ, 25, .inl wf)), (ra, .inl (cI, 25, .inl rf14)), (sa, .inl (cI, 25, .inl sf15)), (ta, .inl (cII, 25, .inr (.inr (.inr (.inr (fun i => if i < 25 then some (rr i) else none))))))] ++ mt_rw 25 rr (fun i => .inl (cI, 5, .inl (Ms16 i)))) H := hP
      have hD : va_D A ([(fa, .inr (1, [.int (nI W0), .int (nI H0), .ref wa, .int fc13, .ref ra, .ref sa, .ref ta])), (wa, .inl (cZ, 25, .inl wf)), (ra, .inl (cI, 25, .inl rf14)), (sa, .inl (cI, 25, .inl sf15)), (ta, .inl (cII, 25, .inr (.inr (.inr (.inr (fun i => if i < 25 then some (rr i) else none))))))] ++ mt_rw 25 rr (fun i => .inl (cI, 5, .inl (Ms16 i)))) := hD
      have hn1 : fx_Ok W0 (W0 * H0) wf rf14 sf15 Ms16 (W0 * y + (x + 1)) := fx_Ok_s hu hr2
      have hn2 : fc13 = nI (fx_cnt wf (W0 * y + (x + 1))) := hr2.2.1
      have hn3 : fx_sc sf15 := fx_sc_s hus (fun a ha => (hr2.2.2.1 a ha).1) hr2.2.2.2.2.2
      refine lv_iinc (k := 0) (v := nI (x + 1)) hx hb d_fl_chart_38 hl rfl ((nI_succ x).symm) (by decide) rfl (fun ls hl => ?_)
      have hl : lv_has ls 3 [(2, .int (nI (x + 1))), (1, .int (nI y)), (0, .ref fa)] := hl
      refine lv_goto hx hb d_fl_chart_41 rfl ?_
      have hl := lv_sub hl [0, 1, 2] (l' := [(2, .int (nI (x + 1))), (1, .int (nI y)), (0, .ref fa)]) rfl
      exact ih_b (x + 1, fc13, rf14, sf15, Ms16) ls H _ (by show W0 - (x + 1) < W0 - x; omega) ⟨by show x + 1 ≤ W0; omega, hn1, hn2, hn3, hl, hP, hD, hS⟩

set_option maxHeartbeats 4000000 in
set_option maxRecDepth 100000 in
theorem c_fl_buildM (l : Launch) (D : va_G) (cZ cI cJ cII : ClassId) (fa : Nat) (wa : Nat) (fc : Int32) (ra : Nat) (sa : Nat) (ta : Nat) (fw : Int32) (fh : Int32) (wf : Nat → Int32) (rf : Nat → Int32) (sf : Nat → Int32) (rr : Nat → Nat) (Ms : Nat → Nat → Int32) (W0 : Nat) (H0 : Nat) (sz : Nat) (hWH : 1 ≤ W0 ∧ W0 ≤ 6 ∧ H0 ≤ 6 ∧ W0 * H0 ≤ 25) (hsc : fx_sc sf) : Met l y_fl_build w_fl_build ({ frames := 5, cells := 0, slots := 0, locals := 200 }) (va_Pc [.ref fa, .int (nI W0), .int (nI H0)] (mt_B D [(cZ, .boolean), (cI, .int), (cJ, .long), (cII, .array .int)] ([(fa, .inr (1, [.int fw, .int fh, .ref wa, .int fc, .ref ra, .ref sa, .ref ta])), (wa, .inl (cZ, 25, .inl wf)), (ra, .inl (cI, 25, .inl rf)), (sa, .inl (cI, 25, .inl sf)), (ta, .inl (cII, 25, .inr (.inr (.inr (.inr (fun i => if i < 25 then some (rr i) else none))))))] ++ mt_rw 25 rr (fun i => .inl (cI, 5, .inl (Ms i)))) sz)) ((fun A => va_Qv (fun (u : (Nat → Int32) × (Nat → Int32) × (Nat → Int32) × (Nat → Nat → Int32)) => (∀ j, j < 25 → (u.1) j = 0) ∧ fx_Ok W0 (W0 * H0) (u.1) (u.2.1) (u.2.2.1) (u.2.2.2) (W0 * H0) ∧ fx_sc (u.2.2.1)) (fun (u : (Nat → Int32) × (Nat → Int32) × (Nat → Int32) × (Nat → Nat → Int32)) (t : State) => mt_O D A ([(fa, .inr (1, [.int (nI W0), .int (nI H0), .ref wa, .int (nI (fx_cnt (u.1) (W0 * H0))), .ref ra, .ref sa, .ref ta])), (wa, .inl (cZ, 25, .inl (u.1))), (ra, .inl (cI, 25, .inl (u.2.1))), (sa, .inl (cI, 25, .inl (u.2.2.1))), (ta, .inl (cII, 25, .inr (.inr (.inr (.inr (fun i => if i < 25 then some (rr i) else none))))))] ++ mt_rw 25 rr (fun i => .inl (cI, 5, .inl ((u.2.2.2) i)))) t) A) (va_A ([(fa, .inr (1, [.int fw, .int fh, .ref wa, .int fc, .ref ra, .ref sa, .ref ta])), (wa, .inl (cZ, 25, .inl wf)), (ra, .inl (cI, 25, .inl rf)), (sa, .inl (cI, 25, .inl sf)), (ta, .inl (cII, 25, .inr (.inr (.inr (.inr (fun i => if i < 25 then some (rr i) else none))))))] ++ mt_rw 25 rr (fun i => .inl (cI, 5, .inl (Ms i)))) sz)) 0 0 (va_A ([(fa, .inr (1, [.int fw, .int fh, .ref wa, .int fc, .ref ra, .ref sa, .ref ta])), (wa, .inl (cZ, 25, .inl wf)), (ra, .inl (cI, 25, .inl rf)), (sa, .inl (cI, 25, .inl sf)), (ta, .inl (cII, 25, .inr (.inr (.inr (.inr (fun i => if i < 25 then some (rr i) else none))))))] ++ mt_rw 25 rr (fun i => .inl (cI, 5, .inl (Ms i)))) sz) := by
  refine mt_of (y := y_fl_build) (n := 4) (av := [.ref fa, .int (nI W0), .int (nI H0)]) (QF := (fun A => va_Qv (fun (u : (Nat → Int32) × (Nat → Int32) × (Nat → Int32) × (Nat → Nat → Int32)) => (∀ j, j < 25 → (u.1) j = 0) ∧ fx_Ok W0 (W0 * H0) (u.1) (u.2.1) (u.2.2.1) (u.2.2.2) (W0 * H0) ∧ fx_sc (u.2.2.1)) (fun (u : (Nat → Int32) × (Nat → Int32) × (Nat → Int32) × (Nat → Nat → Int32)) (t : State) => mt_O D A ([(fa, .inr (1, [.int (nI W0), .int (nI H0), .ref wa, .int (nI (fx_cnt (u.1) (W0 * H0))), .ref ra, .ref sa, .ref ta])), (wa, .inl (cZ, 25, .inl (u.1))), (ra, .inl (cI, 25, .inl (u.2.1))), (sa, .inl (cI, 25, .inl (u.2.2.1))), (ta, .inl (cII, 25, .inr (.inr (.inr (.inr (fun i => if i < 25 then some (rr i) else none))))))] ++ mt_rw 25 rr (fun i => .inl (cI, 5, .inl ((u.2.2.2) i)))) t) A)) (by decide) (Nat.le_of_ble_eq_true rfl) ?_
  intro p e s m below meth c ls A hx hb hr hlk hml hown hnm hg hl hX hP hK hD hA hS
  obtain ⟨H, hH⟩ : ∃ H : Heap, H = s.heap := ⟨_, rfl⟩
  have hS : va_S A s.heap H [] := by rw [hH]; exact va_S.rf
  rw [← hH] at hP ⊢
  have hown : s.vm.findClass R_fl = some m.cls := hown
  have hl : lv_has ls 4 [(0, .ref fa), (1, .int (nI W0)), (2, .int (nI H0))] := hl
  refine lv_aload_n hx hb d_fl_build_0 rfl (lv_at hl 0 rfl) ?_
  refine lv_iload_n hx hb d_fl_build_1 rfl (lv_at hl 1 rfl) ?_
  refine pf_fl_31 hx hb hg hown hK hP hD hS 0 rfl rfl rfl (Nat.le_of_ble_eq_true rfl) d_fl_build_2 (fun H locs hP hD hS => ?_)
  have hP : va_P D kls ([(fa, .inr (1, [.int (nI W0), .int fh, .ref wa, .int fc, .ref ra, .ref sa, .ref ta])), (wa, .inl (cZ, 25, .inl wf)), (ra, .inl (cI, 25, .inl rf)), (sa, .inl (cI, 25, .inl sf)), (ta, .inl (cII, 25, .inr (.inr (.inr (.inr (fun i => if i < 25 then some (rr i) else none))))))] ++ mt_rw 25 rr (fun i => .inl (cI, 5, .inl (Ms i)))) H := hP
  have hD : va_D A ([(fa, .inr (1, [.int (nI W0), .int fh, .ref wa, .int fc, .ref ra, .ref sa, .ref ta])), (wa, .inl (cZ, 25, .inl wf)), (ra, .inl (cI, 25, .inl rf)), (sa, .inl (cI, 25, .inl sf)), (ta, .inl (cII, 25, .inr (.inr (.inr (.inr (fun i => if i < 25 then some (rr i) else none))))))] ++ mt_rw 25 rr (fun i => .inl (cI, 5, .inl (Ms i)))) := hD
  refine lv_aload_n hx hb d_fl_build_5 rfl (lv_at hl 0 rfl) ?_
  refine lv_iload_n hx hb d_fl_build_6 rfl (lv_at hl 2 rfl) ?_
  refine pf_fl_35 hx hb hg hown hK hP hD hS 0 rfl rfl rfl (Nat.le_of_ble_eq_true rfl) d_fl_build_7 (fun H locs hP hD hS => ?_)
  have hP : va_P D kls ([(fa, .inr (1, [.int (nI W0), .int (nI H0), .ref wa, .int fc, .ref ra, .ref sa, .ref ta])), (wa, .inl (cZ, 25, .inl wf)), (ra, .inl (cI, 25, .inl rf)), (sa, .inl (cI, 25, .inl sf)), (ta, .inl (cII, 25, .inr (.inr (.inr (.inr (fun i => if i < 25 then some (rr i) else none))))))] ++ mt_rw 25 rr (fun i => .inl (cI, 5, .inl (Ms i)))) H := hP
  have hD : va_D A ([(fa, .inr (1, [.int (nI W0), .int (nI H0), .ref wa, .int fc, .ref ra, .ref sa, .ref ta])), (wa, .inl (cZ, 25, .inl wf)), (ra, .inl (cI, 25, .inl rf)), (sa, .inl (cI, 25, .inl sf)), (ta, .inl (cII, 25, .inr (.inr (.inr (.inr (fun i => if i < 25 then some (rr i) else none))))))] ++ mt_rw 25 rr (fun i => .inl (cI, 5, .inl (Ms i)))) := hD
  refine lv_iconst (v := 0) hx hb d_fl_build_10 (by decide) ?_
  refine lv_istore_n hx hb d_fl_build_11 rfl hl (by decide) rfl (fun ls hl => ?_)
  have hl : lv_has ls 4 [(3, .int 0), (0, .ref fa), (1, .int (nI W0)), (2, .int (nI H0))] := hl
  have hl := lv_sub hl [0, 1, 2, 3] (l' := [(3, .int (nI 0)), (0, .ref fa), (1, .int (nI W0)), (2, .int (nI H0))]) rfl
  refine mt_loop (ι := Nat × (Nat → Int32)) (I := fun ix ls H locs => ((ix.1) ≤ 25) ∧ (∀ j, j < (ix.1) → (ix.2) j = 0) ∧ lv_has ls 4 [(3, .int (nI (ix.1))), (0, .ref fa), (1, .int (nI W0)), (2, .int (nI H0))] ∧ va_P D kls ([(fa, .inr (1, [.int (nI W0), .int (nI H0), .ref wa, .int fc, .ref ra, .ref sa, .ref ta])), (wa, .inl (cZ, 25, .inl (ix.2))), (ra, .inl (cI, 25, .inl rf)), (sa, .inl (cI, 25, .inl sf)), (ta, .inl (cII, 25, .inr (.inr (.inr (.inr (fun i => if i < 25 then some (rr i) else none))))))] ++ mt_rw 25 rr (fun i => .inl (cI, 5, .inl (Ms i)))) H ∧ va_D A ([(fa, .inr (1, [.int (nI W0), .int (nI H0), .ref wa, .int fc, .ref ra, .ref sa, .ref ta])), (wa, .inl (cZ, 25, .inl (ix.2))), (ra, .inl (cI, 25, .inl rf)), (sa, .inl (cI, 25, .inl sf)), (ta, .inl (cII, 25, .inr (.inr (.inr (.inr (fun i => if i < 25 then some (rr i) else none))))))] ++ mt_rw 25 rr (fun i => .inl (cI, 5, .inl (Ms i)))) ∧ va_S A s.heap H locs) (μ := fun ix => 25 - (ix.1)) ?_ (0, wf) ls H _ ⟨Nat.zero_le _, fun j h => absurd h (Nat.not_lt_zero _), hl, hP, hD, hS⟩
  clear hl hP hD hS
  intro i_a ls H locs ⟨hi, hz, hl, hP, hD, hS⟩ ih_a
  obtain ⟨iw, g⟩ := i_a
  have hi : iw ≤ 25 := hi
  have hz : ∀ j, j < iw → g j = 0 := hz
  have hl : lv_has ls 4 [(3, .int (nI iw)), (0, .ref fa), (1, .int (nI W0)), (2, .int (nI H0))] := hl
  have hP : va_P D kls ([(fa, .inr (1, [.int (nI W0), .int (nI H0), .ref wa, .int fc, .ref ra, .ref sa, .ref ta])), (wa, .inl (cZ, 25, .inl g)), (ra, .inl (cI, 25, .inl rf)), (sa, .inl (cI, 25, .inl sf)), (ta, .inl (cII, 25, .inr (.inr (.inr (.inr (fun i => if i < 25 then some (rr i) else none))))))] ++ mt_rw 25 rr (fun i => .inl (cI, 5, .inl (Ms i)))) H := hP
  have hD : va_D A ([(fa, .inr (1, [.int (nI W0), .int (nI H0), .ref wa, .int fc, .ref ra, .ref sa, .ref ta])), (wa, .inl (cZ, 25, .inl g)), (ra, .inl (cI, 25, .inl rf)), (sa, .inl (cI, 25, .inl sf)), (ta, .inl (cII, 25, .inr (.inr (.inr (.inr (fun i => if i < 25 then some (rr i) else none))))))] ++ mt_rw 25 rr (fun i => .inl (cI, 5, .inl (Ms i)))) := hD
  refine lv_iload_n hx hb d_fl_build_12 rfl (lv_at hl 0 rfl) ?_
  refine lv_bipush (v := 25) hx hb d_fl_build_13 (by decide) ?_
  refine lv_icmp_ge hx hb d_fl_build_15 rfl (fun g1 => ?_) (fun g1 => ?_)
  ·
    have g2 : iw = 25 := by rcases Nat.lt_or_ge iw 25 with h | h; exact absurd g1 (nI_ge (b := 25) h (by decide)); omega
    refine lv_aload_n hx hb d_fl_build_31 rfl (lv_at hl 1 rfl) ?_
    have hPc := hP
    have hDc := hD
    have hFc := mt_whole hD hS hA
    refine va_callv (va_runV (As := []) (rest := []) ⟨hx, hb, hml, hown, hg⟩ (c_fl_chartM l D cZ cI cJ cII fa wa fc ra sa ta g rf sf rr Ms W0 H0 H.size hWH hsc) (cwV 0 hg gv_fl_38 rfl rfl rfl (by decide +kernel) ⟨Nat.le_of_ble_eq_true rfl, Nat.le_of_ble_eq_true rfl⟩) ⟨mt_bl, va_recv (q0 := 0) (ci := 1) hK hP rfl rfl, mt_pr hX hPc hK hDc⟩ rfl rfl hl.1 rfl (lv_room (Nat.le_of_ble_eq_true rfl)) d_fl_build_32 ⟨Nat.le_of_ble_eq_true rfl, Nat.le_of_ble_eq_true rfl⟩) hS (fun q _ h => hFc q h) hFc (fun u t H1 locs ht hvm hw hB hz1 hk1 hS => ?_)
    obtain ⟨rf12, sf13, Ms14⟩ := u
    have hr1 : fx_Ok W0 (W0 * H0) g rf12 sf13 Ms14 (W0 * H0) ∧ fx_sc sf13 := hw
    obtain ⟨hP1, hD1⟩ := hB
    rw [ht] at hP1
    have hP := hP1
    have hD := hD1.weaken (fun _ _ _ h => hFc _ h)
    generalize H1 = H at hP hS ⊢
    have hP : va_P D kls ([(fa, .inr (1, [.int (nI W0), .int (nI H0), .ref wa, .int (nI (fx_cnt g (W0 * H0))), .ref ra, .ref sa, .ref ta])), (wa, .inl (cZ, 25, .inl g)), (ra, .inl (cI, 25, .inl rf12)), (sa, .inl (cI, 25, .inl sf13)), (ta, .inl (cII, 25, .inr (.inr (.inr (.inr (fun i => if i < 25 then some (rr i) else none))))))] ++ mt_rw 25 rr (fun i => .inl (cI, 5, .inl (Ms14 i)))) H := hP
    have hD : va_D A ([(fa, .inr (1, [.int (nI W0), .int (nI H0), .ref wa, .int (nI (fx_cnt g (W0 * H0))), .ref ra, .ref sa, .ref ta])), (wa, .inl (cZ, 25, .inl g)), (ra, .inl (cI, 25, .inl rf12)), (sa, .inl (cI, 25, .inl sf13)), (ta, .inl (cII, 25, .inr (.inr (.inr (.inr (fun i => if i < 25 then some (rr i) else none))))))] ++ mt_rw 25 rr (fun i => .inl (cI, 5, .inl (Ms14 i)))) := hD
    have a9 := hr1
    have hP9 := hP
    have hD9 := hD
    exact W.vret hx hb hr (fun t ht hW => ⟨⟨(g, rf12, sf13, Ms14), rfl, ⟨fun j hj => hz j (by have : j < 25 := hj; omega), a9⟩, by rw [ht]; exact hP9, hD9⟩, hS.F ht⟩) hS.2.2 d_fl_build_35
  ·
    have g2 : iw < 25 := by rcases Nat.lt_or_ge iw 25 with h | h; exact h; exact absurd (nI_le (a := 25) h (by omega)) g1
    refine lv_aload_n hx hb d_fl_build_18 rfl (lv_at hl 1 rfl) ?_
    refine gf_fl_9 hx hb hg hown hK hP 0 rfl rfl d_fl_build_19 ?_
    refine lv_iload_n hx hb d_fl_build_22 rfl (lv_at hl 0 rfl) ?_
    refine lv_iconst (v := 0) hx hb d_fl_build_23 (by decide) ?_
    refine va_zast hx hb hK hP hD hS 1 0 rfl rfl (vp_in_nI g2 (by decide)) d_fl_build_24 (fun H locs hP hD hS => ?_)
    rw [nI_clamp (show iw < 2 ^ 31 by omega), show vp_nar .boolean 0 = 0 from rfl] at hP hD
    have hP : va_P D kls ([(fa, .inr (1, [.int (nI W0), .int (nI H0), .ref wa, .int fc, .ref ra, .ref sa, .ref ta])), (wa, .inl (cZ, 25, .inl (upd g iw 0))), (ra, .inl (cI, 25, .inl rf)), (sa, .inl (cI, 25, .inl sf)), (ta, .inl (cII, 25, .inr (.inr (.inr (.inr (fun i => if i < 25 then some (rr i) else none))))))] ++ mt_rw 25 rr (fun i => .inl (cI, 5, .inl (Ms i)))) H := hP
    have hD : va_D A ([(fa, .inr (1, [.int (nI W0), .int (nI H0), .ref wa, .int fc, .ref ra, .ref sa, .ref ta])), (wa, .inl (cZ, 25, .inl (upd g iw 0))), (ra, .inl (cI, 25, .inl rf)), (sa, .inl (cI, 25, .inl sf)), (ta, .inl (cII, 25, .inr (.inr (.inr (.inr (fun i => if i < 25 then some (rr i) else none))))))] ++ mt_rw 25 rr (fun i => .inl (cI, 5, .inl (Ms i)))) := hD
    refine lv_iinc (k := 0) (v := nI (iw + 1)) hx hb d_fl_build_25 hl rfl ((nI_succ iw).symm) (by decide) rfl (fun ls hl => ?_)
    have hl : lv_has ls 4 [(3, .int (nI (iw + 1))), (0, .ref fa), (1, .int (nI W0)), (2, .int (nI H0))] := hl
    refine lv_goto hx hb d_fl_build_28 rfl ?_
    have hl := lv_sub hl [0, 1, 2, 3] (l' := [(3, .int (nI (iw + 1))), (0, .ref fa), (1, .int (nI W0)), (2, .int (nI H0))]) rfl
    exact ih_a (iw + 1, upd g iw 0) ls H _ (by show 25 - (iw + 1) < 25 - iw; omega) ⟨by show iw + 1 ≤ 25; omega, fun j hj => mt_up0 hz j hj, hl, hP, hD, hS⟩

set_option maxHeartbeats 4000000 in
set_option maxRecDepth 100000 in
theorem c_fl_turnM (l : Launch) (D : va_G) (cZ cI cJ cII : ClassId) (fa : Nat) (wa : Nat) (fc : Int32) (ra : Nat) (sa : Nat) (ta : Nat) (wf : Nat → Int32) (rf : Nat → Int32) (sf : Nat → Int32) (rr : Nat → Nat) (Ms : Nat → Nat → Int32) (W0 : Nat) (H0 : Nat) (k : Nat) (sz : Nat) (hWH : 1 ≤ W0 ∧ W0 ≤ 6 ∧ H0 ≤ 6 ∧ W0 * H0 ≤ 25) (hk : k < 25) (hsc : fx_sc sf) : Met l y_fl_turn w_fl_turn ({ frames := 5, cells := 0, slots := 0, locals := 200 }) (va_Pc [.ref fa, .int (nI k)] (mt_B D [(cZ, .boolean), (cI, .int), (cJ, .long), (cII, .array .int)] ([(fa, .inr (1, [.int (nI W0), .int (nI H0), .ref wa, .int fc, .ref ra, .ref sa, .ref ta])), (wa, .inl (cZ, 25, .inl wf)), (ra, .inl (cI, 25, .inl rf)), (sa, .inl (cI, 25, .inl sf)), (ta, .inl (cII, 25, .inr (.inr (.inr (.inr (fun i => if i < 25 then some (rr i) else none))))))] ++ mt_rw 25 rr (fun i => .inl (cI, 5, .inl (Ms i)))) sz)) ((fun A => va_Qv (fun (u : (Nat → Int32) × (Nat → Int32) × (Nat → Int32) × (Nat → Nat → Int32)) => ((wf k = 0 ∧ (u.1) = upd wf k 1) ∨ (¬ wf k = 0 ∧ (u.1) = upd wf k 0)) ∧ fx_Ok W0 (W0 * H0) (u.1) (u.2.1) (u.2.2.1) (u.2.2.2) (W0 * H0) ∧ fx_sc (u.2.2.1)) (fun (u : (Nat → Int32) × (Nat → Int32) × (Nat → Int32) × (Nat → Nat → Int32)) (t : State) => mt_O D A ([(fa, .inr (1, [.int (nI W0), .int (nI H0), .ref wa, .int (nI (fx_cnt (u.1) (W0 * H0))), .ref ra, .ref sa, .ref ta])), (wa, .inl (cZ, 25, .inl (u.1))), (ra, .inl (cI, 25, .inl (u.2.1))), (sa, .inl (cI, 25, .inl (u.2.2.1))), (ta, .inl (cII, 25, .inr (.inr (.inr (.inr (fun i => if i < 25 then some (rr i) else none))))))] ++ mt_rw 25 rr (fun i => .inl (cI, 5, .inl ((u.2.2.2) i)))) t) A) (va_A ([(fa, .inr (1, [.int (nI W0), .int (nI H0), .ref wa, .int fc, .ref ra, .ref sa, .ref ta])), (wa, .inl (cZ, 25, .inl wf)), (ra, .inl (cI, 25, .inl rf)), (sa, .inl (cI, 25, .inl sf)), (ta, .inl (cII, 25, .inr (.inr (.inr (.inr (fun i => if i < 25 then some (rr i) else none))))))] ++ mt_rw 25 rr (fun i => .inl (cI, 5, .inl (Ms i)))) sz)) 0 0 (va_A ([(fa, .inr (1, [.int (nI W0), .int (nI H0), .ref wa, .int fc, .ref ra, .ref sa, .ref ta])), (wa, .inl (cZ, 25, .inl wf)), (ra, .inl (cI, 25, .inl rf)), (sa, .inl (cI, 25, .inl sf)), (ta, .inl (cII, 25, .inr (.inr (.inr (.inr (fun i => if i < 25 then some (rr i) else none))))))] ++ mt_rw 25 rr (fun i => .inl (cI, 5, .inl (Ms i)))) sz) := by
  refine mt_of (y := y_fl_turn) (n := 2) (av := [.ref fa, .int (nI k)]) (QF := (fun A => va_Qv (fun (u : (Nat → Int32) × (Nat → Int32) × (Nat → Int32) × (Nat → Nat → Int32)) => ((wf k = 0 ∧ (u.1) = upd wf k 1) ∨ (¬ wf k = 0 ∧ (u.1) = upd wf k 0)) ∧ fx_Ok W0 (W0 * H0) (u.1) (u.2.1) (u.2.2.1) (u.2.2.2) (W0 * H0) ∧ fx_sc (u.2.2.1)) (fun (u : (Nat → Int32) × (Nat → Int32) × (Nat → Int32) × (Nat → Nat → Int32)) (t : State) => mt_O D A ([(fa, .inr (1, [.int (nI W0), .int (nI H0), .ref wa, .int (nI (fx_cnt (u.1) (W0 * H0))), .ref ra, .ref sa, .ref ta])), (wa, .inl (cZ, 25, .inl (u.1))), (ra, .inl (cI, 25, .inl (u.2.1))), (sa, .inl (cI, 25, .inl (u.2.2.1))), (ta, .inl (cII, 25, .inr (.inr (.inr (.inr (fun i => if i < 25 then some (rr i) else none))))))] ++ mt_rw 25 rr (fun i => .inl (cI, 5, .inl ((u.2.2.2) i)))) t) A)) (by decide) (Nat.le_of_ble_eq_true rfl) ?_
  intro p e s m below meth c ls A hx hb hr hlk hml hown hnm hg hl hX hP hK hD hA hS
  obtain ⟨H, hH⟩ : ∃ H : Heap, H = s.heap := ⟨_, rfl⟩
  have hS : va_S A s.heap H [] := by rw [hH]; exact va_S.rf
  rw [← hH] at hP ⊢
  have hown : s.vm.findClass R_fl = some m.cls := hown
  have hl : lv_has ls 2 [(0, .ref fa), (1, .int (nI k))] := hl
  refine lv_aload_n hx hb d_fl_turn_0 rfl (lv_at hl 0 rfl) ?_
  refine gf_fl_9 hx hb hg hown hK hP 0 rfl rfl d_fl_turn_1 ?_
  refine lv_iload_n hx hb d_fl_turn_4 rfl (lv_at hl 1 rfl) ?_
  refine lv_aload_n hx hb d_fl_turn_5 rfl (lv_at hl 0 rfl) ?_
  refine gf_fl_9 hx hb hg hown hK hP 0 rfl rfl d_fl_turn_6 ?_
  refine lv_iload_n hx hb d_fl_turn_9 rfl (lv_at hl 1 rfl) ?_
  refine va_zald hx hb hK hP 1 0 rfl rfl (vp_in_nI hk (by decide)) d_fl_turn_10 ?_
  refine lv_topi (fun y1 ey1 => ?_)
  have ey1 : y1 = wf k := ey1.trans (by rw [nI_clamp (show k < 2 ^ 31 by omega)])
  subst ey1
  refine lv_if_ne hx hb d_fl_turn_11 rfl (fun g1 => ?_) (fun g1 => ?_)
  ·
    refine lv_iconst (v := 0) hx hb d_fl_turn_18 (by decide) ?_
    refine va_zast hx hb hK hP hD hS 1 0 rfl rfl (vp_in_nI hk (by decide)) d_fl_turn_19 (fun H locs hP hD hS => ?_)
    rw [nI_clamp (show k < 2 ^ 31 by omega), show vp_nar .boolean 0 = 0 from rfl] at hP hD
    have hP : va_P D kls ([(fa, .inr (1, [.int (nI W0), .int (nI H0), .ref wa, .int fc, .ref ra, .ref sa, .ref ta])), (wa, .inl (cZ, 25, .inl (upd wf k 0))), (ra, .inl (cI, 25, .inl rf)), (sa, .inl (cI, 25, .inl sf)), (ta, .inl (cII, 25, .inr (.inr (.inr (.inr (fun i => if i < 25 then some (rr i) else none))))))] ++ mt_rw 25 rr (fun i => .inl (cI, 5, .inl (Ms i)))) H := hP
    have hD : va_D A ([(fa, .inr (1, [.int (nI W0), .int (nI H0), .ref wa, .int fc, .ref ra, .ref sa, .ref ta])), (wa, .inl (cZ, 25, .inl (upd wf k 0))), (ra, .inl (cI, 25, .inl rf)), (sa, .inl (cI, 25, .inl sf)), (ta, .inl (cII, 25, .inr (.inr (.inr (.inr (fun i => if i < 25 then some (rr i) else none))))))] ++ mt_rw 25 rr (fun i => .inl (cI, 5, .inl (Ms i)))) := hD
    refine lv_aload_n hx hb d_fl_turn_20 rfl (lv_at hl 0 rfl) ?_
    have hPc := hP
    have hDc := hD
    have hFc := mt_whole hD hS hA
    refine va_callv (va_runV (As := []) (rest := []) ⟨hx, hb, hml, hown, hg⟩ (c_fl_chartM l D cZ cI cJ cII fa wa fc ra sa ta (upd wf k 0) rf sf rr Ms W0 H0 H.size hWH hsc) (cwV 0 hg gv_fl_38 rfl rfl rfl (by decide +kernel) ⟨Nat.le_of_ble_eq_true rfl, Nat.le_of_ble_eq_true rfl⟩) ⟨mt_bl, va_recv (q0 := 0) (ci := 1) hK hP rfl rfl, mt_pr hX hPc hK hDc⟩ rfl rfl hl.1 rfl (lv_room (Nat.le_of_ble_eq_true rfl)) d_fl_turn_21 ⟨Nat.le_of_ble_eq_true rfl, Nat.le_of_ble_eq_true rfl⟩) hS (fun q _ h => hFc q h) hFc (fun u t H1 locs ht hvm hw hB hz1 hk1 hS => ?_)
    obtain ⟨rf13, sf14, Ms15⟩ := u
    have hr2 : fx_Ok W0 (W0 * H0) (upd wf k 0) rf13 sf14 Ms15 (W0 * H0) ∧ fx_sc sf14 := hw
    obtain ⟨hP1, hD1⟩ := hB
    rw [ht] at hP1
    have hP := hP1
    have hD := hD1.weaken (fun _ _ _ h => hFc _ h)
    generalize H1 = H at hP hS ⊢
    have hP : va_P D kls ([(fa, .inr (1, [.int (nI W0), .int (nI H0), .ref wa, .int (nI (fx_cnt (upd wf k 0) (W0 * H0))), .ref ra, .ref sa, .ref ta])), (wa, .inl (cZ, 25, .inl (upd wf k 0))), (ra, .inl (cI, 25, .inl rf13)), (sa, .inl (cI, 25, .inl sf14)), (ta, .inl (cII, 25, .inr (.inr (.inr (.inr (fun i => if i < 25 then some (rr i) else none))))))] ++ mt_rw 25 rr (fun i => .inl (cI, 5, .inl (Ms15 i)))) H := hP
    have hD : va_D A ([(fa, .inr (1, [.int (nI W0), .int (nI H0), .ref wa, .int (nI (fx_cnt (upd wf k 0) (W0 * H0))), .ref ra, .ref sa, .ref ta])), (wa, .inl (cZ, 25, .inl (upd wf k 0))), (ra, .inl (cI, 25, .inl rf13)), (sa, .inl (cI, 25, .inl sf14)), (ta, .inl (cII, 25, .inr (.inr (.inr (.inr (fun i => if i < 25 then some (rr i) else none))))))] ++ mt_rw 25 rr (fun i => .inl (cI, 5, .inl (Ms15 i)))) := hD
    have a9 := hr2
    have hP9 := hP
    have hD9 := hD
    exact W.vret hx hb hr (fun t ht hW => ⟨⟨(upd wf k 0, rf13, sf14, Ms15), rfl, ⟨Or.inr ⟨g1, rfl⟩, a9⟩, by rw [ht]; exact hP9, hD9⟩, hS.F ht⟩) hS.2.2 d_fl_turn_24
  ·
    refine lv_iconst (v := 1) hx hb d_fl_turn_14 (by decide) ?_
    refine lv_goto hx hb d_fl_turn_15 rfl ?_
    refine va_zast hx hb hK hP hD hS 1 0 rfl rfl (vp_in_nI hk (by decide)) d_fl_turn_19 (fun H locs hP hD hS => ?_)
    rw [nI_clamp (show k < 2 ^ 31 by omega), show vp_nar .boolean 1 = 1 from rfl] at hP hD
    have hP : va_P D kls ([(fa, .inr (1, [.int (nI W0), .int (nI H0), .ref wa, .int fc, .ref ra, .ref sa, .ref ta])), (wa, .inl (cZ, 25, .inl (upd wf k 1))), (ra, .inl (cI, 25, .inl rf)), (sa, .inl (cI, 25, .inl sf)), (ta, .inl (cII, 25, .inr (.inr (.inr (.inr (fun i => if i < 25 then some (rr i) else none))))))] ++ mt_rw 25 rr (fun i => .inl (cI, 5, .inl (Ms i)))) H := hP
    have hD : va_D A ([(fa, .inr (1, [.int (nI W0), .int (nI H0), .ref wa, .int fc, .ref ra, .ref sa, .ref ta])), (wa, .inl (cZ, 25, .inl (upd wf k 1))), (ra, .inl (cI, 25, .inl rf)), (sa, .inl (cI, 25, .inl sf)), (ta, .inl (cII, 25, .inr (.inr (.inr (.inr (fun i => if i < 25 then some (rr i) else none))))))] ++ mt_rw 25 rr (fun i => .inl (cI, 5, .inl (Ms i)))) := hD
    refine lv_aload_n hx hb d_fl_turn_20 rfl (lv_at hl 0 rfl) ?_
    have hPc := hP
    have hDc := hD
    have hFc := mt_whole hD hS hA
    refine va_callv (va_runV (As := []) (rest := []) ⟨hx, hb, hml, hown, hg⟩ (c_fl_chartM l D cZ cI cJ cII fa wa fc ra sa ta (upd wf k 1) rf sf rr Ms W0 H0 H.size hWH hsc) (cwV 0 hg gv_fl_38 rfl rfl rfl (by decide +kernel) ⟨Nat.le_of_ble_eq_true rfl, Nat.le_of_ble_eq_true rfl⟩) ⟨mt_bl, va_recv (q0 := 0) (ci := 1) hK hP rfl rfl, mt_pr hX hPc hK hDc⟩ rfl rfl hl.1 rfl (lv_room (Nat.le_of_ble_eq_true rfl)) d_fl_turn_21 ⟨Nat.le_of_ble_eq_true rfl, Nat.le_of_ble_eq_true rfl⟩) hS (fun q _ h => hFc q h) hFc (fun u t H1 locs ht hvm hw hB hz1 hk1 hS => ?_)
    obtain ⟨rf17, sf18, Ms19⟩ := u
    have hr6 : fx_Ok W0 (W0 * H0) (upd wf k 1) rf17 sf18 Ms19 (W0 * H0) ∧ fx_sc sf18 := hw
    obtain ⟨hP1, hD1⟩ := hB
    rw [ht] at hP1
    have hP := hP1
    have hD := hD1.weaken (fun _ _ _ h => hFc _ h)
    generalize H1 = H at hP hS ⊢
    have hP : va_P D kls ([(fa, .inr (1, [.int (nI W0), .int (nI H0), .ref wa, .int (nI (fx_cnt (upd wf k 1) (W0 * H0))), .ref ra, .ref sa, .ref ta])), (wa, .inl (cZ, 25, .inl (upd wf k 1))), (ra, .inl (cI, 25, .inl rf17)), (sa, .inl (cI, 25, .inl sf18)), (ta, .inl (cII, 25, .inr (.inr (.inr (.inr (fun i => if i < 25 then some (rr i) else none))))))] ++ mt_rw 25 rr (fun i => .inl (cI, 5, .inl (Ms19 i)))) H := hP
    have hD : va_D A ([(fa, .inr (1, [.int (nI W0), .int (nI H0), .ref wa, .int (nI (fx_cnt (upd wf k 1) (W0 * H0))), .ref ra, .ref sa, .ref ta])), (wa, .inl (cZ, 25, .inl (upd wf k 1))), (ra, .inl (cI, 25, .inl rf17)), (sa, .inl (cI, 25, .inl sf18)), (ta, .inl (cII, 25, .inr (.inr (.inr (.inr (fun i => if i < 25 then some (rr i) else none))))))] ++ mt_rw 25 rr (fun i => .inl (cI, 5, .inl (Ms19 i)))) := hD
    have a9 := hr6
    have hP9 := hP
    have hD9 := hD
    exact W.vret hx hb hr (fun t ht hW => ⟨⟨(upd wf k 1, rf17, sf18, Ms19), rfl, ⟨Or.inl ⟨g1, rfl⟩, a9⟩, by rw [ht]; exact hP9, hD9⟩, hS.F ht⟩) hS.2.2 d_fl_turn_24
