theorem fx_mod1 {W k x : Nat} (hx : x < W) (hk : k % W = x) : (k + 1) % W = if x + 1 = W then 0 else x + 1 := by
  rw [Nat.add_mod, hk]
  by_cases h : x + 1 = W
  · rw [if_pos h]
    by_cases h1 : W = 1
    · subst h1; exact Nat.mod_one _
    · rw [Nat.mod_eq_of_lt (show 1 < W by omega), h, Nat.mod_self]
  · rw [if_neg h, Nat.mod_eq_of_lt (show 1 < W by omega), Nat.mod_eq_of_lt (by omega)]

set_option maxHeartbeats 4000000 in
set_option maxRecDepth 100000 in
theorem c_fl_chartCellM (l : Launch) (D : va_G) (cZ cI cJ cII : ClassId) (fa : Nat) (wa : Nat) (ra : Nat) (sa : Nat) (ta : Nat) (wf : Nat → Int32) (rf : Nat → Int32) (sf : Nat → Int32) (rr : Nat → Nat) (Ms : Nat → Nat → Int32) (W0 : Nat) (H0 : Nat) (x : Nat) (k : Nat) (sz : Nat) (hWH : 1 ≤ W0 ∧ W0 ≤ 6 ∧ H0 ≤ 6 ∧ W0 * H0 ≤ 25) (hk : k < W0 * H0) (hx0 : x < W0) (hkx : k % W0 = x) : Met l y_fl_chartCell w_fl_chartCell ({ frames := 3, cells := 0, slots := 0, locals := 120 }) (va_Pc [.ref fa, .int (nI x), .int (nI k)] (mt_B D [(cZ, .boolean), (cI, .int), (cJ, .long), (cII, .array .int)] ([(fa, .inr (1, [.int (nI W0), .int (nI H0), .ref wa, .int (nI (fx_cnt wf k)), .ref ra, .ref sa, .ref ta])), (wa, .inl (cZ, 25, .inl wf)), (ra, .inl (cI, 25, .inl rf)), (sa, .inl (cI, 25, .inl sf)), (ta, .inl (cII, 25, .inr (.inr (.inr (.inr (fun i => if i < 25 then some (rr i) else none))))))] ++ mt_rw 25 rr (fun i => .inl (cI, 5, .inl (Ms i)))) sz)) ((fun A => va_Qv (fun (u : Int32 × (Nat → Int32) × (Nat → Int32) × (Nat → Nat → Int32)) => (u.2.1) = upd rf k (nI (fx_cnt wf k)) ∧ (u.1) = nI (fx_cnt wf (k + 1)) ∧ (∀ a, a ≠ k → (u.2.2.1) a = sf a ∧ (u.2.2.2) a = Ms a) ∧ (¬ wf k = 0 → (u.2.2.1) k = 0) ∧ (wf k = 0 → ∃ cnt, (u.2.2.1) k = nI cnt ∧ fx_acc (fx_fr (W0 * H0) wf) (fx_adj W0 k) 5 ((u.2.2.2) k) cnt) ∧ (∃ cnt, cnt ≤ 5 ∧ (u.2.2.1) k = nI cnt)) (fun (u : Int32 × (Nat → Int32) × (Nat → Int32) × (Nat → Nat → Int32)) (t : State) => mt_O D A ([(fa, .inr (1, [.int (nI W0), .int (nI H0), .ref wa, .int (u.1), .ref ra, .ref sa, .ref ta])), (wa, .inl (cZ, 25, .inl wf)), (ra, .inl (cI, 25, .inl (u.2.1))), (sa, .inl (cI, 25, .inl (u.2.2.1))), (ta, .inl (cII, 25, .inr (.inr (.inr (.inr (fun i => if i < 25 then some (rr i) else none))))))] ++ mt_rw 25 rr (fun i => .inl (cI, 5, .inl ((u.2.2.2) i)))) t) A) (va_A ([(fa, .inr (1, [.int (nI W0), .int (nI H0), .ref wa, .int (nI (fx_cnt wf k)), .ref ra, .ref sa, .ref ta])), (wa, .inl (cZ, 25, .inl wf)), (ra, .inl (cI, 25, .inl rf)), (sa, .inl (cI, 25, .inl sf)), (ta, .inl (cII, 25, .inr (.inr (.inr (.inr (fun i => if i < 25 then some (rr i) else none))))))] ++ mt_rw 25 rr (fun i => .inl (cI, 5, .inl (Ms i)))) sz)) 0 0 (va_A ([(fa, .inr (1, [.int (nI W0), .int (nI H0), .ref wa, .int (nI (fx_cnt wf k)), .ref ra, .ref sa, .ref ta])), (wa, .inl (cZ, 25, .inl wf)), (ra, .inl (cI, 25, .inl rf)), (sa, .inl (cI, 25, .inl sf)), (ta, .inl (cII, 25, .inr (.inr (.inr (.inr (fun i => if i < 25 then some (rr i) else none))))))] ++ mt_rw 25 rr (fun i => .inl (cI, 5, .inl (Ms i)))) sz) := by
  refine mt_of (y := y_fl_chartCell) (n := 3) (av := [.ref fa, .int (nI x), .int (nI k)]) (QF := (fun A => va_Qv (fun (u : Int32 × (Nat → Int32) × (Nat → Int32) × (Nat → Nat → Int32)) => (u.2.1) = upd rf k (nI (fx_cnt wf k)) ∧ (u.1) = nI (fx_cnt wf (k + 1)) ∧ (∀ a, a ≠ k → (u.2.2.1) a = sf a ∧ (u.2.2.2) a = Ms a) ∧ (¬ wf k = 0 → (u.2.2.1) k = 0) ∧ (wf k = 0 → ∃ cnt, (u.2.2.1) k = nI cnt ∧ fx_acc (fx_fr (W0 * H0) wf) (fx_adj W0 k) 5 ((u.2.2.2) k) cnt) ∧ (∃ cnt, cnt ≤ 5 ∧ (u.2.2.1) k = nI cnt)) (fun (u : Int32 × (Nat → Int32) × (Nat → Int32) × (Nat → Nat → Int32)) (t : State) => mt_O D A ([(fa, .inr (1, [.int (nI W0), .int (nI H0), .ref wa, .int (u.1), .ref ra, .ref sa, .ref ta])), (wa, .inl (cZ, 25, .inl wf)), (ra, .inl (cI, 25, .inl (u.2.1))), (sa, .inl (cI, 25, .inl (u.2.2.1))), (ta, .inl (cII, 25, .inr (.inr (.inr (.inr (fun i => if i < 25 then some (rr i) else none))))))] ++ mt_rw 25 rr (fun i => .inl (cI, 5, .inl ((u.2.2.2) i)))) t) A)) (by decide) (Nat.le_of_ble_eq_true rfl) ?_
  intro p e s m below meth c ls A hx hb hr hlk hml hown hnm hg hl hX hP hK hD hA hS
  obtain ⟨H, hH⟩ : ∃ H : Heap, H = s.heap := ⟨_, rfl⟩
  have hS : va_S A s.heap H [] := by rw [hH]; exact va_S.rf
  rw [← hH] at hP ⊢
  have hown : s.vm.findClass R_fl = some m.cls := hown
  have hl : lv_has ls 3 [(0, .ref fa), (1, .int (nI x)), (2, .int (nI k))] := hl
  refine lv_aload_n hx hb d_fl_chartCell_0 rfl (lv_at hl 0 rfl) ?_
  refine gf_fl_15 hx hb hg hown hK hP 0 rfl rfl d_fl_chartCell_1 ?_
  refine lv_iload_n hx hb d_fl_chartCell_4 rfl (lv_at hl 2 rfl) ?_
  refine lv_aload_n hx hb d_fl_chartCell_5 rfl (lv_at hl 0 rfl) ?_
  refine gf_fl_48 hx hb hg hown hK hP 0 rfl rfl d_fl_chartCell_6 ?_
  refine va_iast hx hb hK hP hD hS 2 1 rfl rfl (vp_in_nI (show k < 25 by omega) (by decide)) d_fl_chartCell_9 (fun H locs hP hD hS => ?_)
  rw [nI_clamp (show k < 2 ^ 31 by omega)] at hP hD
  have hP : va_P D kls ([(fa, .inr (1, [.int (nI W0), .int (nI H0), .ref wa, .int (nI (fx_cnt wf k)), .ref ra, .ref sa, .ref ta])), (wa, .inl (cZ, 25, .inl wf)), (ra, .inl (cI, 25, .inl (upd rf k (nI (fx_cnt wf k))))), (sa, .inl (cI, 25, .inl sf)), (ta, .inl (cII, 25, .inr (.inr (.inr (.inr (fun i => if i < 25 then some (rr i) else none))))))] ++ mt_rw 25 rr (fun i => .inl (cI, 5, .inl (Ms i)))) H := hP
  have hD : va_D A ([(fa, .inr (1, [.int (nI W0), .int (nI H0), .ref wa, .int (nI (fx_cnt wf k)), .ref ra, .ref sa, .ref ta])), (wa, .inl (cZ, 25, .inl wf)), (ra, .inl (cI, 25, .inl (upd rf k (nI (fx_cnt wf k))))), (sa, .inl (cI, 25, .inl sf)), (ta, .inl (cII, 25, .inr (.inr (.inr (.inr (fun i => if i < 25 then some (rr i) else none))))))] ++ mt_rw 25 rr (fun i => .inl (cI, 5, .inl (Ms i)))) := hD
  refine lv_aload_n hx hb d_fl_chartCell_10 rfl (lv_at hl 0 rfl) ?_
  refine gf_fl_19 hx hb hg hown hK hP 0 rfl rfl d_fl_chartCell_11 ?_
  refine lv_iload_n hx hb d_fl_chartCell_14 rfl (lv_at hl 2 rfl) ?_
  refine lv_iconst (v := 0) hx hb d_fl_chartCell_15 (by decide) ?_
  refine va_iast hx hb hK hP hD hS 3 1 rfl rfl (vp_in_nI (show k < 25 by omega) (by decide)) d_fl_chartCell_16 (fun H locs hP hD hS => ?_)
  rw [nI_clamp (show k < 2 ^ 31 by omega)] at hP hD
  have hP : va_P D kls ([(fa, .inr (1, [.int (nI W0), .int (nI H0), .ref wa, .int (nI (fx_cnt wf k)), .ref ra, .ref sa, .ref ta])), (wa, .inl (cZ, 25, .inl wf)), (ra, .inl (cI, 25, .inl (upd rf k (nI (fx_cnt wf k))))), (sa, .inl (cI, 25, .inl (upd sf k 0))), (ta, .inl (cII, 25, .inr (.inr (.inr (.inr (fun i => if i < 25 then some (rr i) else none))))))] ++ mt_rw 25 rr (fun i => .inl (cI, 5, .inl (Ms i)))) H := hP
  have hD : va_D A ([(fa, .inr (1, [.int (nI W0), .int (nI H0), .ref wa, .int (nI (fx_cnt wf k)), .ref ra, .ref sa, .ref ta])), (wa, .inl (cZ, 25, .inl wf)), (ra, .inl (cI, 25, .inl (upd rf k (nI (fx_cnt wf k))))), (sa, .inl (cI, 25, .inl (upd sf k 0))), (ta, .inl (cII, 25, .inr (.inr (.inr (.inr (fun i => if i < 25 then some (rr i) else none))))))] ++ mt_rw 25 rr (fun i => .inl (cI, 5, .inl (Ms i)))) := hD
  refine lv_aload_n hx hb d_fl_chartCell_17 rfl (lv_at hl 0 rfl) ?_
  refine gf_fl_9 hx hb hg hown hK hP 0 rfl rfl d_fl_chartCell_18 ?_
  refine lv_iload_n hx hb d_fl_chartCell_21 rfl (lv_at hl 2 rfl) ?_
  refine va_zald hx hb hK hP 1 0 rfl rfl (vp_in_nI (show k < 25 by omega) (by decide)) d_fl_chartCell_22 ?_
  refine lv_topi (fun y1 ey1 => ?_)
  have ey1 : y1 = wf k := ey1.trans (by rw [nI_clamp (show k < 2 ^ 31 by omega)])
  subst ey1
  refine lv_if_eq hx hb d_fl_chartCell_23 rfl (fun hw0 => ?_) (fun hw0 => ?_)
  ·
    refine lv_aload_n hx hb d_fl_chartCell_27 rfl (lv_at hl 0 rfl) ?_
    refine lv_dup hx hb d_fl_chartCell_28 rfl ?_
    refine gf_fl_48 hx hb hg hown hK hP 0 rfl rfl d_fl_chartCell_29 ?_
    refine lv_iconst (v := 1) hx hb d_fl_chartCell_32 (by decide) ?_
    refine lv_iadd hx hb d_fl_chartCell_33 ?_
    refine lv_topi (fun y2 ey2 => ?_)
    have ey2 : y2 = nI (fx_cnt wf k + 1) := ey2.trans (nI_1 _)
    subst ey2
    refine pf_fl_48 hx hb hg hown hK hP hD hS 0 rfl rfl rfl (Nat.le_of_ble_eq_true rfl) d_fl_chartCell_34 (fun H locs hP hD hS => ?_)
    have hP : va_P D kls ([(fa, .inr (1, [.int (nI W0), .int (nI H0), .ref wa, .int (nI (fx_cnt wf k + 1)), .ref ra, .ref sa, .ref ta])), (wa, .inl (cZ, 25, .inl wf)), (ra, .inl (cI, 25, .inl (upd rf k (nI (fx_cnt wf k))))), (sa, .inl (cI, 25, .inl (upd sf k 0))), (ta, .inl (cII, 25, .inr (.inr (.inr (.inr (fun i => if i < 25 then some (rr i) else none))))))] ++ mt_rw 25 rr (fun i => .inl (cI, 5, .inl (Ms i)))) H := hP
    have hD : va_D A ([(fa, .inr (1, [.int (nI W0), .int (nI H0), .ref wa, .int (nI (fx_cnt wf k + 1)), .ref ra, .ref sa, .ref ta])), (wa, .inl (cZ, 25, .inl wf)), (ra, .inl (cI, 25, .inl (upd rf k (nI (fx_cnt wf k))))), (sa, .inl (cI, 25, .inl (upd sf k 0))), (ta, .inl (cII, 25, .inr (.inr (.inr (.inr (fun i => if i < 25 then some (rr i) else none))))))] ++ mt_rw 25 rr (fun i => .inl (cI, 5, .inl (Ms i)))) := hD
    refine lv_aload_n hx hb d_fl_chartCell_37 rfl (lv_at hl 0 rfl) ?_
    refine lv_iload_n hx hb d_fl_chartCell_38 rfl (lv_at hl 2 rfl) ?_
    refine lv_iload_n hx hb d_fl_chartCell_39 rfl (lv_at hl 2 rfl) ?_
    refine lv_aload_n hx hb d_fl_chartCell_40 rfl (lv_at hl 0 rfl) ?_
    refine gf_fl_31 hx hb hg hown hK hP 0 rfl rfl d_fl_chartCell_41 ?_
    refine lv_isub hx hb d_fl_chartCell_44 ?_
    obtain ⟨c0, hc0⟩ : ∃ c0, c0 = 0 := ⟨0, rfl⟩
    have ac0 : fx_acc (fx_fr (W0 * H0) wf) (fun _ => False) 0 (Ms k) c0 := by rw [hc0]; exact fx_s0 (fun _ h => h)
    have hs0 : upd sf k 0 k = nI c0 := by rw [pk_us, hc0, nI_0]
    have hmod : x ≤ k := by rw [← hkx]; exact Nat.mod_le _ _
    have lt0 : ∀ b, False → fx_fr (W0 * H0) wf b → nI b < nI k - nI W0 := fun _ h => h.elim
    have hPc := hP
    have hDc := hD
    have hFc := mt_whole hD hS hA
    refine va_callv (va_runV (As := [.int (nI k), .int ((nI k) - (nI W0))]) (rest := []) ⟨hx, hb, hml, hown, hg⟩ (c_fl_addStepM l D cZ cI cJ cII fa (nI W0) (nI H0) wa (nI (fx_cnt wf k + 1)) ra sa ta wf (upd rf k (nI (fx_cnt wf k))) (upd sf k 0) rr Ms k c0 ((nI k) - (nI W0)) H.size (mt_b25 hWH.2.2.2) (by omega) hs0 (by have := ac0.1; omega)) (cwV 2 hg gv_fl_54 rfl rfl rfl (by decide +kernel) ⟨Nat.le_of_ble_eq_true rfl, Nat.le_of_ble_eq_true rfl⟩) ⟨mt_bl, va_recv (q0 := 0) (ci := 1) hK hP rfl rfl, mt_pr hX hPc hK hDc⟩ rfl rfl hl.1 rfl (lv_room (Nat.le_of_ble_eq_true rfl)) d_fl_chartCell_45 ⟨Nat.le_of_ble_eq_true rfl, Nat.le_of_ble_eq_true rfl⟩) hS (fun q _ h => hFc q h) hFc (fun u t H1 locs ht hvm hw hB hz1 hk1 hS => ?_)
    obtain ⟨sf14, Ms15⟩ := u
    have hr3 : ((¬ ((nI k) - (nI W0)) < 0 ∧ ¬ (nI W0) * (nI H0) ≤ ((nI k) - (nI W0)) ∧ wf ((nI k) - (nI W0)).toNatClampNeg = 0) ∧ sf14 = upd (upd sf k 0) k (nI (c0 + 1)) ∧ Ms15 = va_up Ms k (upd (Ms k) c0 ((nI k) - (nI W0)))) ∨ ((((nI k) - (nI W0)) < 0 ∨ (nI W0) * (nI H0) ≤ ((nI k) - (nI W0)) ∨ ¬ wf ((nI k) - (nI W0)).toNatClampNeg = 0) ∧ sf14 = (upd sf k 0) ∧ Ms15 = Ms) := hw
    obtain ⟨hP1, hD1⟩ := hB
    rw [ht] at hP1
    have hP := hP1
    have hD := hD1.weaken (fun _ _ _ h => hFc _ h)
    generalize H1 = H at hP hS ⊢
    have hP : va_P D kls ([(fa, .inr (1, [.int (nI W0), .int (nI H0), .ref wa, .int (nI (fx_cnt wf k + 1)), .ref ra, .ref sa, .ref ta])), (wa, .inl (cZ, 25, .inl wf)), (ra, .inl (cI, 25, .inl (upd rf k (nI (fx_cnt wf k))))), (sa, .inl (cI, 25, .inl sf14)), (ta, .inl (cII, 25, .inr (.inr (.inr (.inr (fun i => if i < 25 then some (rr i) else none))))))] ++ mt_rw 25 rr (fun i => .inl (cI, 5, .inl (Ms15 i)))) H := hP
    have hD : va_D A ([(fa, .inr (1, [.int (nI W0), .int (nI H0), .ref wa, .int (nI (fx_cnt wf k + 1)), .ref ra, .ref sa, .ref ta])), (wa, .inl (cZ, 25, .inl wf)), (ra, .inl (cI, 25, .inl (upd rf k (nI (fx_cnt wf k))))), (sa, .inl (cI, 25, .inl sf14)), (ta, .inl (cII, 25, .inr (.inr (.inr (.inr (fun i => if i < 25 then some (rr i) else none))))))] ++ mt_rw 25 rr (fun i => .inl (cI, 5, .inl (Ms15 i)))) := hD
    obtain ⟨⟨c1, hs1, ac1⟩, ho1⟩ := fx_add (C := (fun _ => False)) (by omega) (pk_mul W0 H0) ac0 lt0 hs0 hr3
    refine lv_iload_n hx hb d_fl_chartCell_48 rfl (lv_at hl 1 rfl) ?_
    refine lv_if_le hx hb d_fl_chartCell_49 rfl (fun gx => ?_) (fun gx => ?_)
    ·
      have gx0 : x = 0 := by rcases Nat.eq_zero_or_pos x with h | h; exact h; exact absurd gx (nI_nle h (by omega))
      refine lv_aload_n hx hb d_fl_chartCell_60 rfl (lv_at hl 0 rfl) ?_
      refine lv_iload_n hx hb d_fl_chartCell_61 rfl (lv_at hl 2 rfl) ?_
      refine lv_iload_n hx hb d_fl_chartCell_62 rfl (lv_at hl 2 rfl) ?_
      have lt1 : ∀ b, (fun b => (fun _ => False) b ∨ nI k - nI W0 = nI b) b → fx_fr (W0 * H0) wf b → nI b < nI k := by
        intro b hC hb
        have hb5 := hb.1
        have q1 := fx_e1 (a := k) (b := W0) (c := b) (by omega) (by omega) (by omega)
        have q2 : nI k - 1 = nI b ↔ b + 1 = k := fx_e1 (a := k) (b := 1) (c := b) (by omega) (by omega) (by omega)
        have q3 : nI k = nI b ↔ k = b := nI_eq (by omega) (by omega)
        have q4 : nI k + 1 = nI b ↔ k + 1 = b := fx_e2 (a := k) (b := 1) (c := b) (by omega) (by omega) (by omega)
        have q5 := fx_e2 (a := k) (b := W0) (c := b) (by omega) (by omega) (by omega)
        have hC : (False ∨ nI k - nI W0 = nI b) := hC
        simp only [q1, q2, q3, q4, q5, false_or] at hC
        rw [show nI k = nI (k) from rfl]
        exact nI_lt (by omega) (by omega)
      have hPc := hP
      have hDc := hD
      have hFc := mt_whole hD hS hA
      refine va_callv (va_runV (As := [.int (nI k), .int (nI k)]) (rest := []) ⟨hx, hb, hml, hown, hg⟩ (c_fl_addStepM l D cZ cI cJ cII fa (nI W0) (nI H0) wa (nI (fx_cnt wf k + 1)) ra sa ta wf (upd rf k (nI (fx_cnt wf k))) sf14 rr Ms15 k c1 (nI k) H.size (mt_b25 hWH.2.2.2) (by omega) hs1 (by have := ac1.1; omega)) (cwV 2 hg gv_fl_54 rfl rfl rfl (by decide +kernel) ⟨Nat.le_of_ble_eq_true rfl, Nat.le_of_ble_eq_true rfl⟩) ⟨mt_bl, va_recv (q0 := 0) (ci := 1) hK hP rfl rfl, mt_pr hX hPc hK hDc⟩ rfl rfl hl.1 rfl (lv_room (Nat.le_of_ble_eq_true rfl)) d_fl_chartCell_63 ⟨Nat.le_of_ble_eq_true rfl, Nat.le_of_ble_eq_true rfl⟩) hS (fun q _ h => hFc q h) hFc (fun u t H1 locs ht hvm hw hB hz1 hk1 hS => ?_)
      obtain ⟨sf17, Ms18⟩ := u
      have hr6 : ((¬ (nI k) < 0 ∧ ¬ (nI W0) * (nI H0) ≤ (nI k) ∧ wf (nI k).toNatClampNeg = 0) ∧ sf17 = upd sf14 k (nI (c1 + 1)) ∧ Ms18 = va_up Ms15 k (upd (Ms15 k) c1 (nI k))) ∨ (((nI k) < 0 ∨ (nI W0) * (nI H0) ≤ (nI k) ∨ ¬ wf (nI k).toNatClampNeg = 0) ∧ sf17 = sf14 ∧ Ms18 = Ms15) := hw
      obtain ⟨hP1, hD1⟩ := hB
      rw [ht] at hP1
      have hP := hP1
      have hD := hD1.weaken (fun _ _ _ h => hFc _ h)
      generalize H1 = H at hP hS ⊢
      have hP : va_P D kls ([(fa, .inr (1, [.int (nI W0), .int (nI H0), .ref wa, .int (nI (fx_cnt wf k + 1)), .ref ra, .ref sa, .ref ta])), (wa, .inl (cZ, 25, .inl wf)), (ra, .inl (cI, 25, .inl (upd rf k (nI (fx_cnt wf k))))), (sa, .inl (cI, 25, .inl sf17)), (ta, .inl (cII, 25, .inr (.inr (.inr (.inr (fun i => if i < 25 then some (rr i) else none))))))] ++ mt_rw 25 rr (fun i => .inl (cI, 5, .inl (Ms18 i)))) H := hP
      have hD : va_D A ([(fa, .inr (1, [.int (nI W0), .int (nI H0), .ref wa, .int (nI (fx_cnt wf k + 1)), .ref ra, .ref sa, .ref ta])), (wa, .inl (cZ, 25, .inl wf)), (ra, .inl (cI, 25, .inl (upd rf k (nI (fx_cnt wf k))))), (sa, .inl (cI, 25, .inl sf17)), (ta, .inl (cII, 25, .inr (.inr (.inr (.inr (fun i => if i < 25 then some (rr i) else none))))))] ++ mt_rw 25 rr (fun i => .inl (cI, 5, .inl (Ms18 i)))) := hD
      obtain ⟨⟨c2, hs2, ac2⟩, ho2⟩ := fx_add (C := (fun b => (fun _ => False) b ∨ nI k - nI W0 = nI b)) (by omega) (pk_mul W0 H0) ac1 lt1 hs1 hr6
      refine lv_iload_n hx hb d_fl_chartCell_66 rfl (lv_at hl 1 rfl) ?_
      refine lv_aload_n hx hb d_fl_chartCell_67 rfl (lv_at hl 0 rfl) ?_
      refine gf_fl_31 hx hb hg hown hK hP 0 rfl rfl d_fl_chartCell_68 ?_
      refine lv_iconst (v := 1) hx hb d_fl_chartCell_71 (by decide) ?_
      refine lv_isub hx hb d_fl_chartCell_72 ?_
      refine lv_topi (fun y9 ey9 => ?_)
      have ey9 : y9 = nI (W0 - 1) := ey9.trans (pk_sub (a := W0) (b := 1) (by omega))
      subst ey9
      refine lv_icmp_ge hx hb d_fl_chartCell_73 rfl (fun gy => ?_) (fun gy => ?_)
      ·
        have gy0 : ¬ x < W0 - 1 := fun h => nI_ge h (by omega) gy
        refine lv_aload_n hx hb d_fl_chartCell_84 rfl (lv_at hl 0 rfl) ?_
        refine lv_iload_n hx hb d_fl_chartCell_85 rfl (lv_at hl 2 rfl) ?_
        refine lv_iload_n hx hb d_fl_chartCell_86 rfl (lv_at hl 2 rfl) ?_
        refine lv_aload_n hx hb d_fl_chartCell_87 rfl (lv_at hl 0 rfl) ?_
        refine gf_fl_31 hx hb hg hown hK hP 0 rfl rfl d_fl_chartCell_88 ?_
        refine lv_iadd hx hb d_fl_chartCell_91 ?_
        have lt2 : ∀ b, (fun b => (fun b => (fun _ => False) b ∨ nI k - nI W0 = nI b) b ∨ nI k = nI b) b → fx_fr (W0 * H0) wf b → nI b < nI k + nI W0 := by
          intro b hC hb
          have hb5 := hb.1
          have q1 := fx_e1 (a := k) (b := W0) (c := b) (by omega) (by omega) (by omega)
          have q2 : nI k - 1 = nI b ↔ b + 1 = k := fx_e1 (a := k) (b := 1) (c := b) (by omega) (by omega) (by omega)
          have q3 : nI k = nI b ↔ k = b := nI_eq (by omega) (by omega)
          have q4 : nI k + 1 = nI b ↔ k + 1 = b := fx_e2 (a := k) (b := 1) (c := b) (by omega) (by omega) (by omega)
          have q5 := fx_e2 (a := k) (b := W0) (c := b) (by omega) (by omega) (by omega)
          have hC : ((False ∨ nI k - nI W0 = nI b) ∨ nI k = nI b) := hC
          simp only [q1, q2, q3, q4, q5, false_or] at hC
          rw [show nI k + nI W0 = nI (k + W0) from nI_add k W0]
          exact nI_lt (by omega) (by omega)
        have hPc := hP
        have hDc := hD
        have hFc := mt_whole hD hS hA
        refine va_callv (va_runV (As := [.int (nI k), .int ((nI k) + (nI W0))]) (rest := []) ⟨hx, hb, hml, hown, hg⟩ (c_fl_addStepM l D cZ cI cJ cII fa (nI W0) (nI H0) wa (nI (fx_cnt wf k + 1)) ra sa ta wf (upd rf k (nI (fx_cnt wf k))) sf17 rr Ms18 k c2 ((nI k) + (nI W0)) H.size (mt_b25 hWH.2.2.2) (by omega) hs2 (by have := ac2.1; omega)) (cwV 2 hg gv_fl_54 rfl rfl rfl (by decide +kernel) ⟨Nat.le_of_ble_eq_true rfl, Nat.le_of_ble_eq_true rfl⟩) ⟨mt_bl, va_recv (q0 := 0) (ci := 1) hK hP rfl rfl, mt_pr hX hPc hK hDc⟩ rfl rfl hl.1 rfl (lv_room (Nat.le_of_ble_eq_true rfl)) d_fl_chartCell_92 ⟨Nat.le_of_ble_eq_true rfl, Nat.le_of_ble_eq_true rfl⟩) hS (fun q _ h => hFc q h) hFc (fun u t H1 locs ht hvm hw hB hz1 hk1 hS => ?_)
        obtain ⟨sf111, Ms112⟩ := u
        have hr10 : ((¬ ((nI k) + (nI W0)) < 0 ∧ ¬ (nI W0) * (nI H0) ≤ ((nI k) + (nI W0)) ∧ wf ((nI k) + (nI W0)).toNatClampNeg = 0) ∧ sf111 = upd sf17 k (nI (c2 + 1)) ∧ Ms112 = va_up Ms18 k (upd (Ms18 k) c2 ((nI k) + (nI W0)))) ∨ ((((nI k) + (nI W0)) < 0 ∨ (nI W0) * (nI H0) ≤ ((nI k) + (nI W0)) ∨ ¬ wf ((nI k) + (nI W0)).toNatClampNeg = 0) ∧ sf111 = sf17 ∧ Ms112 = Ms18) := hw
        obtain ⟨hP1, hD1⟩ := hB
        rw [ht] at hP1
        have hP := hP1
        have hD := hD1.weaken (fun _ _ _ h => hFc _ h)
        generalize H1 = H at hP hS ⊢
        have hP : va_P D kls ([(fa, .inr (1, [.int (nI W0), .int (nI H0), .ref wa, .int (nI (fx_cnt wf k + 1)), .ref ra, .ref sa, .ref ta])), (wa, .inl (cZ, 25, .inl wf)), (ra, .inl (cI, 25, .inl (upd rf k (nI (fx_cnt wf k))))), (sa, .inl (cI, 25, .inl sf111)), (ta, .inl (cII, 25, .inr (.inr (.inr (.inr (fun i => if i < 25 then some (rr i) else none))))))] ++ mt_rw 25 rr (fun i => .inl (cI, 5, .inl (Ms112 i)))) H := hP
        have hD : va_D A ([(fa, .inr (1, [.int (nI W0), .int (nI H0), .ref wa, .int (nI (fx_cnt wf k + 1)), .ref ra, .ref sa, .ref ta])), (wa, .inl (cZ, 25, .inl wf)), (ra, .inl (cI, 25, .inl (upd rf k (nI (fx_cnt wf k))))), (sa, .inl (cI, 25, .inl sf111)), (ta, .inl (cII, 25, .inr (.inr (.inr (.inr (fun i => if i < 25 then some (rr i) else none))))))] ++ mt_rw 25 rr (fun i => .inl (cI, 5, .inl (Ms112 i)))) := hD
        obtain ⟨⟨c3, hs3, ac3⟩, ho3⟩ := fx_add (C := (fun b => (fun b => (fun _ => False) b ∨ nI k - nI W0 = nI b) b ∨ nI k = nI b)) (by omega) (pk_mul W0 H0) ac2 lt2 hs2 hr10
        have eC : ∀ b, fx_fr (W0 * H0) wf b → ((fun b => (fun b => (fun b => (fun _ => False) b ∨ nI k - nI W0 = nI b) b ∨ nI k = nI b) b ∨ nI k + nI W0 = nI b) b ↔ fx_adj W0 k b) := by
          intro b hb
          show (((False ∨ nI k - nI W0 = nI b) ∨ nI k = nI b) ∨ nI k + nI W0 = nI b) ↔ _
          have hb5 := hb.1
          have q1 := fx_e1 (a := k) (b := W0) (c := b) (by omega) (by omega) (by omega)
          have q2 : nI k - 1 = nI b ↔ b + 1 = k := fx_e1 (a := k) (b := 1) (c := b) (by omega) (by omega) (by omega)
          have q3 : nI k = nI b ↔ k = b := nI_eq (by omega) (by omega)
          have q4 : nI k + 1 = nI b ↔ k + 1 = b := fx_e2 (a := k) (b := 1) (c := b) (by omega) (by omega) (by omega)
          have q5 := fx_e2 (a := k) (b := W0) (c := b) (by omega) (by omega) (by omega)
          simp only [q1, q2, q3, q4, q5, false_or]
          unfold fx_adj
          have m1 := fx_mod1 (k := k) hx0 hkx
          clear q1 q2 q3 q4 q5 hP hD
          constructor
          · intro h
            rcases (show b + W0 = k ∨ (b + 1 = k ∧ 0 < x) ∨ k = b ∨ (k + 1 = b ∧ x + 1 < W0) ∨ k + W0 = b by omega) with h | h | h | h | h
            · exact Or.inr (Or.inl h)
            · exact Or.inr (Or.inr (Or.inr (Or.inl ⟨h.1, by omega⟩)))
            · exact Or.inl h.symm
            · exact Or.inr (Or.inr (Or.inr (Or.inr ⟨h.1, by rw [← h.1, m1, if_neg (by omega)]; omega⟩)))
            · exact Or.inr (Or.inr (Or.inl h))
          · intro h
            rcases h with h | h | h | ⟨h, h9⟩ | ⟨h, h9⟩
            · omega
            · omega
            · omega
            · omega
            · rw [← h, m1] at h9; have h8 : x + 1 ≠ W0 := fun e => h9 (if_pos e)
              omega
        have ha := fx_acc_c ac3 eC
        have ha : fx_acc (fx_fr (W0 * H0) wf) (fx_adj W0 k) 5 (Ms112 k) c3 := ⟨Nat.le_trans ha.1 (by decide), ha.2⟩
        have ho : ∀ a, a ≠ k → sf111 a = sf a ∧ Ms112 a = Ms a := fun a h => ⟨((((ho3 a h).1).trans (ho2 a h).1).trans (ho1 a h).1).trans (pk_un h), (((ho3 a h).2).trans (ho2 a h).2).trans (ho1 a h).2⟩
        have hf9 : fx_cnt wf (k + 1) = fx_cnt wf k + 1 := by show _ + _ = _; rw [if_pos hw0]
        have hP9 := hP
        have hD9 := hD
        exact W.vret hx hb hr (fun t ht hW => ⟨⟨(nI (fx_cnt wf k + 1), upd rf k (nI (fx_cnt wf k)), sf111, Ms112), rfl, ⟨rfl, by rw [hf9], ho, fun h => absurd hw0 h, fun _ => ⟨c3, hs3, ha⟩, c3, ha.1, hs3⟩, by rw [ht]; exact hP9, hD9⟩, hS.F ht⟩) hS.2.2 d_fl_chartCell_95
      ·
        have gy0 : x < W0 - 1 := by rcases Nat.lt_or_ge x (W0 - 1) with h | h; exact h; exact absurd (nI_le h (by omega)) gy
        refine lv_aload_n hx hb d_fl_chartCell_76 rfl (lv_at hl 0 rfl) ?_
        refine lv_iload_n hx hb d_fl_chartCell_77 rfl (lv_at hl 2 rfl) ?_
        refine lv_iload_n hx hb d_fl_chartCell_78 rfl (lv_at hl 2 rfl) ?_
        refine lv_iconst (v := 1) hx hb d_fl_chartCell_79 (by decide) ?_
        refine lv_iadd hx hb d_fl_chartCell_80 ?_
        have lt2 : ∀ b, (fun b => (fun b => (fun _ => False) b ∨ nI k - nI W0 = nI b) b ∨ nI k = nI b) b → fx_fr (W0 * H0) wf b → nI b < nI k + 1 := by
          intro b hC hb
          have hb5 := hb.1
          have q1 := fx_e1 (a := k) (b := W0) (c := b) (by omega) (by omega) (by omega)
          have q2 : nI k - 1 = nI b ↔ b + 1 = k := fx_e1 (a := k) (b := 1) (c := b) (by omega) (by omega) (by omega)
          have q3 : nI k = nI b ↔ k = b := nI_eq (by omega) (by omega)
          have q4 : nI k + 1 = nI b ↔ k + 1 = b := fx_e2 (a := k) (b := 1) (c := b) (by omega) (by omega) (by omega)
          have q5 := fx_e2 (a := k) (b := W0) (c := b) (by omega) (by omega) (by omega)
          have hC : ((False ∨ nI k - nI W0 = nI b) ∨ nI k = nI b) := hC
          simp only [q1, q2, q3, q4, q5, false_or] at hC
          rw [show nI k + 1 = nI (k + 1) from nI_1 k]
          exact nI_lt (by omega) (by omega)
        have hPc := hP
        have hDc := hD
        have hFc := mt_whole hD hS hA
        refine va_callv (va_runV (As := [.int (nI k), .int ((nI k) + 1)]) (rest := []) ⟨hx, hb, hml, hown, hg⟩ (c_fl_addStepM l D cZ cI cJ cII fa (nI W0) (nI H0) wa (nI (fx_cnt wf k + 1)) ra sa ta wf (upd rf k (nI (fx_cnt wf k))) sf17 rr Ms18 k c2 ((nI k) + 1) H.size (mt_b25 hWH.2.2.2) (by omega) hs2 (by have := ac2.1; omega)) (cwV 2 hg gv_fl_54 rfl rfl rfl (by decide +kernel) ⟨Nat.le_of_ble_eq_true rfl, Nat.le_of_ble_eq_true rfl⟩) ⟨mt_bl, va_recv (q0 := 0) (ci := 1) hK hP rfl rfl, mt_pr hX hPc hK hDc⟩ rfl rfl hl.1 rfl (lv_room (Nat.le_of_ble_eq_true rfl)) d_fl_chartCell_81 ⟨Nat.le_of_ble_eq_true rfl, Nat.le_of_ble_eq_true rfl⟩) hS (fun q _ h => hFc q h) hFc (fun u t H1 locs ht hvm hw hB hz1 hk1 hS => ?_)
        obtain ⟨sf114, Ms115⟩ := u
        have hr13 : ((¬ ((nI k) + 1) < 0 ∧ ¬ (nI W0) * (nI H0) ≤ ((nI k) + 1) ∧ wf ((nI k) + 1).toNatClampNeg = 0) ∧ sf114 = upd sf17 k (nI (c2 + 1)) ∧ Ms115 = va_up Ms18 k (upd (Ms18 k) c2 ((nI k) + 1))) ∨ ((((nI k) + 1) < 0 ∨ (nI W0) * (nI H0) ≤ ((nI k) + 1) ∨ ¬ wf ((nI k) + 1).toNatClampNeg = 0) ∧ sf114 = sf17 ∧ Ms115 = Ms18) := hw
        obtain ⟨hP1, hD1⟩ := hB
        rw [ht] at hP1
        have hP := hP1
        have hD := hD1.weaken (fun _ _ _ h => hFc _ h)
        generalize H1 = H at hP hS ⊢
        have hP : va_P D kls ([(fa, .inr (1, [.int (nI W0), .int (nI H0), .ref wa, .int (nI (fx_cnt wf k + 1)), .ref ra, .ref sa, .ref ta])), (wa, .inl (cZ, 25, .inl wf)), (ra, .inl (cI, 25, .inl (upd rf k (nI (fx_cnt wf k))))), (sa, .inl (cI, 25, .inl sf114)), (ta, .inl (cII, 25, .inr (.inr (.inr (.inr (fun i => if i < 25 then some (rr i) else none))))))] ++ mt_rw 25 rr (fun i => .inl (cI, 5, .inl (Ms115 i)))) H := hP
        have hD : va_D A ([(fa, .inr (1, [.int (nI W0), .int (nI H0), .ref wa, .int (nI (fx_cnt wf k + 1)), .ref ra, .ref sa, .ref ta])), (wa, .inl (cZ, 25, .inl wf)), (ra, .inl (cI, 25, .inl (upd rf k (nI (fx_cnt wf k))))), (sa, .inl (cI, 25, .inl sf114)), (ta, .inl (cII, 25, .inr (.inr (.inr (.inr (fun i => if i < 25 then some (rr i) else none))))))] ++ mt_rw 25 rr (fun i => .inl (cI, 5, .inl (Ms115 i)))) := hD
        obtain ⟨⟨c3, hs3, ac3⟩, ho3⟩ := fx_add (C := (fun b => (fun b => (fun _ => False) b ∨ nI k - nI W0 = nI b) b ∨ nI k = nI b)) (by omega) (pk_mul W0 H0) ac2 lt2 hs2 hr13
        refine lv_aload_n hx hb d_fl_chartCell_84 rfl (lv_at hl 0 rfl) ?_
        refine lv_iload_n hx hb d_fl_chartCell_85 rfl (lv_at hl 2 rfl) ?_
        refine lv_iload_n hx hb d_fl_chartCell_86 rfl (lv_at hl 2 rfl) ?_
        refine lv_aload_n hx hb d_fl_chartCell_87 rfl (lv_at hl 0 rfl) ?_
        refine gf_fl_31 hx hb hg hown hK hP 0 rfl rfl d_fl_chartCell_88 ?_
        refine lv_iadd hx hb d_fl_chartCell_91 ?_
        have lt3 : ∀ b, (fun b => (fun b => (fun b => (fun _ => False) b ∨ nI k - nI W0 = nI b) b ∨ nI k = nI b) b ∨ nI k + 1 = nI b) b → fx_fr (W0 * H0) wf b → nI b < nI k + nI W0 := by
          intro b hC hb
          have hb5 := hb.1
          have q1 := fx_e1 (a := k) (b := W0) (c := b) (by omega) (by omega) (by omega)
          have q2 : nI k - 1 = nI b ↔ b + 1 = k := fx_e1 (a := k) (b := 1) (c := b) (by omega) (by omega) (by omega)
          have q3 : nI k = nI b ↔ k = b := nI_eq (by omega) (by omega)
          have q4 : nI k + 1 = nI b ↔ k + 1 = b := fx_e2 (a := k) (b := 1) (c := b) (by omega) (by omega) (by omega)
          have q5 := fx_e2 (a := k) (b := W0) (c := b) (by omega) (by omega) (by omega)
          have hC : (((False ∨ nI k - nI W0 = nI b) ∨ nI k = nI b) ∨ nI k + 1 = nI b) := hC
          simp only [q1, q2, q3, q4, q5, false_or] at hC
          rw [show nI k + nI W0 = nI (k + W0) from nI_add k W0]
          exact nI_lt (by omega) (by omega)
        have hPc := hP
        have hDc := hD
        have hFc := mt_whole hD hS hA
        refine va_callv (va_runV (As := [.int (nI k), .int ((nI k) + (nI W0))]) (rest := []) ⟨hx, hb, hml, hown, hg⟩ (c_fl_addStepM l D cZ cI cJ cII fa (nI W0) (nI H0) wa (nI (fx_cnt wf k + 1)) ra sa ta wf (upd rf k (nI (fx_cnt wf k))) sf114 rr Ms115 k c3 ((nI k) + (nI W0)) H.size (mt_b25 hWH.2.2.2) (by omega) hs3 (by have := ac3.1; omega)) (cwV 2 hg gv_fl_54 rfl rfl rfl (by decide +kernel) ⟨Nat.le_of_ble_eq_true rfl, Nat.le_of_ble_eq_true rfl⟩) ⟨mt_bl, va_recv (q0 := 0) (ci := 1) hK hP rfl rfl, mt_pr hX hPc hK hDc⟩ rfl rfl hl.1 rfl (lv_room (Nat.le_of_ble_eq_true rfl)) d_fl_chartCell_92 ⟨Nat.le_of_ble_eq_true rfl, Nat.le_of_ble_eq_true rfl⟩) hS (fun q _ h => hFc q h) hFc (fun u t H1 locs ht hvm hw hB hz1 hk1 hS => ?_)
        obtain ⟨sf117, Ms118⟩ := u
        have hr16 : ((¬ ((nI k) + (nI W0)) < 0 ∧ ¬ (nI W0) * (nI H0) ≤ ((nI k) + (nI W0)) ∧ wf ((nI k) + (nI W0)).toNatClampNeg = 0) ∧ sf117 = upd sf114 k (nI (c3 + 1)) ∧ Ms118 = va_up Ms115 k (upd (Ms115 k) c3 ((nI k) + (nI W0)))) ∨ ((((nI k) + (nI W0)) < 0 ∨ (nI W0) * (nI H0) ≤ ((nI k) + (nI W0)) ∨ ¬ wf ((nI k) + (nI W0)).toNatClampNeg = 0) ∧ sf117 = sf114 ∧ Ms118 = Ms115) := hw
        obtain ⟨hP1, hD1⟩ := hB
        rw [ht] at hP1
        have hP := hP1
        have hD := hD1.weaken (fun _ _ _ h => hFc _ h)
        generalize H1 = H at hP hS ⊢
        have hP : va_P D kls ([(fa, .inr (1, [.int (nI W0), .int (nI H0), .ref wa, .int (nI (fx_cnt wf k + 1)), .ref ra, .ref sa, .ref ta])), (wa, .inl (cZ, 25, .inl wf)), (ra, .inl (cI, 25, .inl (upd rf k (nI (fx_cnt wf k))))), (sa, .inl (cI, 25, .inl sf117)), (ta, .inl (cII, 25, .inr (.inr (.inr (.inr (fun i => if i < 25 then some (rr i) else none))))))] ++ mt_rw 25 rr (fun i => .inl (cI, 5, .inl (Ms118 i)))) H := hP
        have hD : va_D A ([(fa, .inr (1, [.int (nI W0), .int (nI H0), .ref wa, .int (nI (fx_cnt wf k + 1)), .ref ra, .ref sa, .ref ta])), (wa, .inl (cZ, 25, .inl wf)), (ra, .inl (cI, 25, .inl (upd rf k (nI (fx_cnt wf k))))), (sa, .inl (cI, 25, .inl sf117)), (ta, .inl (cII, 25, .inr (.inr (.inr (.inr (fun i => if i < 25 then some (rr i) else none))))))] ++ mt_rw 25 rr (fun i => .inl (cI, 5, .inl (Ms118 i)))) := hD
        obtain ⟨⟨c4, hs4, ac4⟩, ho4⟩ := fx_add (C := (fun b => (fun b => (fun b => (fun _ => False) b ∨ nI k - nI W0 = nI b) b ∨ nI k = nI b) b ∨ nI k + 1 = nI b)) (by omega) (pk_mul W0 H0) ac3 lt3 hs3 hr16
        have eC : ∀ b, fx_fr (W0 * H0) wf b → ((fun b => (fun b => (fun b => (fun b => (fun _ => False) b ∨ nI k - nI W0 = nI b) b ∨ nI k = nI b) b ∨ nI k + 1 = nI b) b ∨ nI k + nI W0 = nI b) b ↔ fx_adj W0 k b) := by
          intro b hb
          show ((((False ∨ nI k - nI W0 = nI b) ∨ nI k = nI b) ∨ nI k + 1 = nI b) ∨ nI k + nI W0 = nI b) ↔ _
          have hb5 := hb.1
          have q1 := fx_e1 (a := k) (b := W0) (c := b) (by omega) (by omega) (by omega)
          have q2 : nI k - 1 = nI b ↔ b + 1 = k := fx_e1 (a := k) (b := 1) (c := b) (by omega) (by omega) (by omega)
          have q3 : nI k = nI b ↔ k = b := nI_eq (by omega) (by omega)
          have q4 : nI k + 1 = nI b ↔ k + 1 = b := fx_e2 (a := k) (b := 1) (c := b) (by omega) (by omega) (by omega)
          have q5 := fx_e2 (a := k) (b := W0) (c := b) (by omega) (by omega) (by omega)
          simp only [q1, q2, q3, q4, q5, false_or]
          unfold fx_adj
          have m1 := fx_mod1 (k := k) hx0 hkx
          clear q1 q2 q3 q4 q5 hP hD
          constructor
          · intro h
            rcases (show b + W0 = k ∨ (b + 1 = k ∧ 0 < x) ∨ k = b ∨ (k + 1 = b ∧ x + 1 < W0) ∨ k + W0 = b by omega) with h | h | h | h | h
            · exact Or.inr (Or.inl h)
            · exact Or.inr (Or.inr (Or.inr (Or.inl ⟨h.1, by omega⟩)))
            · exact Or.inl h.symm
            · exact Or.inr (Or.inr (Or.inr (Or.inr ⟨h.1, by rw [← h.1, m1, if_neg (by omega)]; omega⟩)))
            · exact Or.inr (Or.inr (Or.inl h))
          · intro h
            rcases h with h | h | h | ⟨h, h9⟩ | ⟨h, h9⟩
            · omega
            · omega
            · omega
            · omega
            · rw [← h, m1] at h9; have h8 : x + 1 ≠ W0 := fun e => h9 (if_pos e)
              omega
        have ha := fx_acc_c ac4 eC
        have ha : fx_acc (fx_fr (W0 * H0) wf) (fx_adj W0 k) 5 (Ms118 k) c4 := ⟨Nat.le_trans ha.1 (by decide), ha.2⟩
        have ho : ∀ a, a ≠ k → sf117 a = sf a ∧ Ms118 a = Ms a := fun a h => ⟨(((((ho4 a h).1).trans (ho3 a h).1).trans (ho2 a h).1).trans (ho1 a h).1).trans (pk_un h), ((((ho4 a h).2).trans (ho3 a h).2).trans (ho2 a h).2).trans (ho1 a h).2⟩
        have hf9 : fx_cnt wf (k + 1) = fx_cnt wf k + 1 := by show _ + _ = _; rw [if_pos hw0]
        have hP9 := hP
        have hD9 := hD
        exact W.vret hx hb hr (fun t ht hW => ⟨⟨(nI (fx_cnt wf k + 1), upd rf k (nI (fx_cnt wf k)), sf117, Ms118), rfl, ⟨rfl, by rw [hf9], ho, fun h => absurd hw0 h, fun _ => ⟨c4, hs4, ha⟩, c4, ha.1, hs4⟩, by rw [ht]; exact hP9, hD9⟩, hS.F ht⟩) hS.2.2 d_fl_chartCell_95
    ·
      have gx0 : 0 < x := by rcases Nat.eq_zero_or_pos x with h | h; exact absurd (by rw [h, nI_0]; decide) gx; exact h
      refine lv_aload_n hx hb d_fl_chartCell_52 rfl (lv_at hl 0 rfl) ?_
      refine lv_iload_n hx hb d_fl_chartCell_53 rfl (lv_at hl 2 rfl) ?_
      refine lv_iload_n hx hb d_fl_chartCell_54 rfl (lv_at hl 2 rfl) ?_
      refine lv_iconst (v := 1) hx hb d_fl_chartCell_55 (by decide) ?_
      refine lv_isub hx hb d_fl_chartCell_56 ?_
      have lt1 : ∀ b, (fun b => (fun _ => False) b ∨ nI k - nI W0 = nI b) b → fx_fr (W0 * H0) wf b → nI b < nI k - 1 := by
        intro b hC hb
        have hb5 := hb.1
        have q1 := fx_e1 (a := k) (b := W0) (c := b) (by omega) (by omega) (by omega)
        have q2 : nI k - 1 = nI b ↔ b + 1 = k := fx_e1 (a := k) (b := 1) (c := b) (by omega) (by omega) (by omega)
        have q3 : nI k = nI b ↔ k = b := nI_eq (by omega) (by omega)
        have q4 : nI k + 1 = nI b ↔ k + 1 = b := fx_e2 (a := k) (b := 1) (c := b) (by omega) (by omega) (by omega)
        have q5 := fx_e2 (a := k) (b := W0) (c := b) (by omega) (by omega) (by omega)
        have hC : (False ∨ nI k - nI W0 = nI b) := hC
        simp only [q1, q2, q3, q4, q5, false_or] at hC
        rw [show nI k - 1 = nI (k - 1) from pk_sub (a := k) (b := 1) (by omega)]
        exact nI_lt (by omega) (by omega)
      have hPc := hP
      have hDc := hD
      have hFc := mt_whole hD hS hA
      refine va_callv (va_runV (As := [.int (nI k), .int ((nI k) - 1)]) (rest := []) ⟨hx, hb, hml, hown, hg⟩ (c_fl_addStepM l D cZ cI cJ cII fa (nI W0) (nI H0) wa (nI (fx_cnt wf k + 1)) ra sa ta wf (upd rf k (nI (fx_cnt wf k))) sf14 rr Ms15 k c1 ((nI k) - 1) H.size (mt_b25 hWH.2.2.2) (by omega) hs1 (by have := ac1.1; omega)) (cwV 2 hg gv_fl_54 rfl rfl rfl (by decide +kernel) ⟨Nat.le_of_ble_eq_true rfl, Nat.le_of_ble_eq_true rfl⟩) ⟨mt_bl, va_recv (q0 := 0) (ci := 1) hK hP rfl rfl, mt_pr hX hPc hK hDc⟩ rfl rfl hl.1 rfl (lv_room (Nat.le_of_ble_eq_true rfl)) d_fl_chartCell_57 ⟨Nat.le_of_ble_eq_true rfl, Nat.le_of_ble_eq_true rfl⟩) hS (fun q _ h => hFc q h) hFc (fun u t H1 locs ht hvm hw hB hz1 hk1 hS => ?_)
      obtain ⟨sf120, Ms121⟩ := u
      have hr19 : ((¬ ((nI k) - 1) < 0 ∧ ¬ (nI W0) * (nI H0) ≤ ((nI k) - 1) ∧ wf ((nI k) - 1).toNatClampNeg = 0) ∧ sf120 = upd sf14 k (nI (c1 + 1)) ∧ Ms121 = va_up Ms15 k (upd (Ms15 k) c1 ((nI k) - 1))) ∨ ((((nI k) - 1) < 0 ∨ (nI W0) * (nI H0) ≤ ((nI k) - 1) ∨ ¬ wf ((nI k) - 1).toNatClampNeg = 0) ∧ sf120 = sf14 ∧ Ms121 = Ms15) := hw
      obtain ⟨hP1, hD1⟩ := hB
      rw [ht] at hP1
      have hP := hP1
      have hD := hD1.weaken (fun _ _ _ h => hFc _ h)
      generalize H1 = H at hP hS ⊢
      have hP : va_P D kls ([(fa, .inr (1, [.int (nI W0), .int (nI H0), .ref wa, .int (nI (fx_cnt wf k + 1)), .ref ra, .ref sa, .ref ta])), (wa, .inl (cZ, 25, .inl wf)), (ra, .inl (cI, 25, .inl (upd rf k (nI (fx_cnt wf k))))), (sa, .inl (cI, 25, .inl sf120)), (ta, .inl (cII, 25, .inr (.inr (.inr (.inr (fun i => if i < 25 then some (rr i) else none))))))] ++ mt_rw 25 rr (fun i => .inl (cI, 5, .inl (Ms121 i)))) H := hP
      have hD : va_D A ([(fa, .inr (1, [.int (nI W0), .int (nI H0), .ref wa, .int (nI (fx_cnt wf k + 1)), .ref ra, .ref sa, .ref ta])), (wa, .inl (cZ, 25, .inl wf)), (ra, .inl (cI, 25, .inl (upd rf k (nI (fx_cnt wf k))))), (sa, .inl (cI, 25, .inl sf120)), (ta, .inl (cII, 25, .inr (.inr (.inr (.inr (fun i => if i < 25 then some (rr i) else none))))))] ++ mt_rw 25 rr (fun i => .inl (cI, 5, .inl (Ms121 i)))) := hD
      obtain ⟨⟨c2, hs2, ac2⟩, ho2⟩ := fx_add (C := (fun b => (fun _ => False) b ∨ nI k - nI W0 = nI b)) (by omega) (pk_mul W0 H0) ac1 lt1 hs1 hr19
      refine lv_aload_n hx hb d_fl_chartCell_60 rfl (lv_at hl 0 rfl) ?_
      refine lv_iload_n hx hb d_fl_chartCell_61 rfl (lv_at hl 2 rfl) ?_
      refine lv_iload_n hx hb d_fl_chartCell_62 rfl (lv_at hl 2 rfl) ?_
      have lt2 : ∀ b, (fun b => (fun b => (fun _ => False) b ∨ nI k - nI W0 = nI b) b ∨ nI k - 1 = nI b) b → fx_fr (W0 * H0) wf b → nI b < nI k := by
        intro b hC hb
        have hb5 := hb.1
        have q1 := fx_e1 (a := k) (b := W0) (c := b) (by omega) (by omega) (by omega)
        have q2 : nI k - 1 = nI b ↔ b + 1 = k := fx_e1 (a := k) (b := 1) (c := b) (by omega) (by omega) (by omega)
        have q3 : nI k = nI b ↔ k = b := nI_eq (by omega) (by omega)
        have q4 : nI k + 1 = nI b ↔ k + 1 = b := fx_e2 (a := k) (b := 1) (c := b) (by omega) (by omega) (by omega)
        have q5 := fx_e2 (a := k) (b := W0) (c := b) (by omega) (by omega) (by omega)
        have hC : ((False ∨ nI k - nI W0 = nI b) ∨ nI k - 1 = nI b) := hC
        simp only [q1, q2, q3, q4, q5, false_or] at hC
        rw [show nI k = nI (k) from rfl]
        exact nI_lt (by omega) (by omega)
      have hPc := hP
      have hDc := hD
      have hFc := mt_whole hD hS hA
      refine va_callv (va_runV (As := [.int (nI k), .int (nI k)]) (rest := []) ⟨hx, hb, hml, hown, hg⟩ (c_fl_addStepM l D cZ cI cJ cII fa (nI W0) (nI H0) wa (nI (fx_cnt wf k + 1)) ra sa ta wf (upd rf k (nI (fx_cnt wf k))) sf120 rr Ms121 k c2 (nI k) H.size (mt_b25 hWH.2.2.2) (by omega) hs2 (by have := ac2.1; omega)) (cwV 2 hg gv_fl_54 rfl rfl rfl (by decide +kernel) ⟨Nat.le_of_ble_eq_true rfl, Nat.le_of_ble_eq_true rfl⟩) ⟨mt_bl, va_recv (q0 := 0) (ci := 1) hK hP rfl rfl, mt_pr hX hPc hK hDc⟩ rfl rfl hl.1 rfl (lv_room (Nat.le_of_ble_eq_true rfl)) d_fl_chartCell_63 ⟨Nat.le_of_ble_eq_true rfl, Nat.le_of_ble_eq_true rfl⟩) hS (fun q _ h => hFc q h) hFc (fun u t H1 locs ht hvm hw hB hz1 hk1 hS => ?_)
      obtain ⟨sf123, Ms124⟩ := u
      have hr22 : ((¬ (nI k) < 0 ∧ ¬ (nI W0) * (nI H0) ≤ (nI k) ∧ wf (nI k).toNatClampNeg = 0) ∧ sf123 = upd sf120 k (nI (c2 + 1)) ∧ Ms124 = va_up Ms121 k (upd (Ms121 k) c2 (nI k))) ∨ (((nI k) < 0 ∨ (nI W0) * (nI H0) ≤ (nI k) ∨ ¬ wf (nI k).toNatClampNeg = 0) ∧ sf123 = sf120 ∧ Ms124 = Ms121) := hw
      obtain ⟨hP1, hD1⟩ := hB
      rw [ht] at hP1
      have hP := hP1
      have hD := hD1.weaken (fun _ _ _ h => hFc _ h)
      generalize H1 = H at hP hS ⊢
      have hP : va_P D kls ([(fa, .inr (1, [.int (nI W0), .int (nI H0), .ref wa, .int (nI (fx_cnt wf k + 1)), .ref ra, .ref sa, .ref ta])), (wa, .inl (cZ, 25, .inl wf)), (ra, .inl (cI, 25, .inl (upd rf k (nI (fx_cnt wf k))))), (sa, .inl (cI, 25, .inl sf123)), (ta, .inl (cII, 25, .inr (.inr (.inr (.inr (fun i => if i < 25 then some (rr i) else none))))))] ++ mt_rw 25 rr (fun i => .inl (cI, 5, .inl (Ms124 i)))) H := hP
      have hD : va_D A ([(fa, .inr (1, [.int (nI W0), .int (nI H0), .ref wa, .int (nI (fx_cnt wf k + 1)), .ref ra, .ref sa, .ref ta])), (wa, .inl (cZ, 25, .inl wf)), (ra, .inl (cI, 25, .inl (upd rf k (nI (fx_cnt wf k))))), (sa, .inl (cI, 25, .inl sf123)), (ta, .inl (cII, 25, .inr (.inr (.inr (.inr (fun i => if i < 25 then some (rr i) else none))))))] ++ mt_rw 25 rr (fun i => .inl (cI, 5, .inl (Ms124 i)))) := hD
      obtain ⟨⟨c3, hs3, ac3⟩, ho3⟩ := fx_add (C := (fun b => (fun b => (fun _ => False) b ∨ nI k - nI W0 = nI b) b ∨ nI k - 1 = nI b)) (by omega) (pk_mul W0 H0) ac2 lt2 hs2 hr22
      refine lv_iload_n hx hb d_fl_chartCell_66 rfl (lv_at hl 1 rfl) ?_
      refine lv_aload_n hx hb d_fl_chartCell_67 rfl (lv_at hl 0 rfl) ?_
      refine gf_fl_31 hx hb hg hown hK hP 0 rfl rfl d_fl_chartCell_68 ?_
      refine lv_iconst (v := 1) hx hb d_fl_chartCell_71 (by decide) ?_
      refine lv_isub hx hb d_fl_chartCell_72 ?_
      refine lv_topi (fun y25 ey25 => ?_)
      have ey25 : y25 = nI (W0 - 1) := ey25.trans (pk_sub (a := W0) (b := 1) (by omega))
      subst ey25
      refine lv_icmp_ge hx hb d_fl_chartCell_73 rfl (fun gy => ?_) (fun gy => ?_)
      ·
        have gy0 : ¬ x < W0 - 1 := fun h => nI_ge h (by omega) gy
        refine lv_aload_n hx hb d_fl_chartCell_84 rfl (lv_at hl 0 rfl) ?_
        refine lv_iload_n hx hb d_fl_chartCell_85 rfl (lv_at hl 2 rfl) ?_
        refine lv_iload_n hx hb d_fl_chartCell_86 rfl (lv_at hl 2 rfl) ?_
        refine lv_aload_n hx hb d_fl_chartCell_87 rfl (lv_at hl 0 rfl) ?_
        refine gf_fl_31 hx hb hg hown hK hP 0 rfl rfl d_fl_chartCell_88 ?_
        refine lv_iadd hx hb d_fl_chartCell_91 ?_
        have lt3 : ∀ b, (fun b => (fun b => (fun b => (fun _ => False) b ∨ nI k - nI W0 = nI b) b ∨ nI k - 1 = nI b) b ∨ nI k = nI b) b → fx_fr (W0 * H0) wf b → nI b < nI k + nI W0 := by
          intro b hC hb
          have hb5 := hb.1
          have q1 := fx_e1 (a := k) (b := W0) (c := b) (by omega) (by omega) (by omega)
          have q2 : nI k - 1 = nI b ↔ b + 1 = k := fx_e1 (a := k) (b := 1) (c := b) (by omega) (by omega) (by omega)
          have q3 : nI k = nI b ↔ k = b := nI_eq (by omega) (by omega)
          have q4 : nI k + 1 = nI b ↔ k + 1 = b := fx_e2 (a := k) (b := 1) (c := b) (by omega) (by omega) (by omega)
          have q5 := fx_e2 (a := k) (b := W0) (c := b) (by omega) (by omega) (by omega)
          have hC : (((False ∨ nI k - nI W0 = nI b) ∨ nI k - 1 = nI b) ∨ nI k = nI b) := hC
          simp only [q1, q2, q3, q4, q5, false_or] at hC
          rw [show nI k + nI W0 = nI (k + W0) from nI_add k W0]
          exact nI_lt (by omega) (by omega)
        have hPc := hP
        have hDc := hD
        have hFc := mt_whole hD hS hA
        refine va_callv (va_runV (As := [.int (nI k), .int ((nI k) + (nI W0))]) (rest := []) ⟨hx, hb, hml, hown, hg⟩ (c_fl_addStepM l D cZ cI cJ cII fa (nI W0) (nI H0) wa (nI (fx_cnt wf k + 1)) ra sa ta wf (upd rf k (nI (fx_cnt wf k))) sf123 rr Ms124 k c3 ((nI k) + (nI W0)) H.size (mt_b25 hWH.2.2.2) (by omega) hs3 (by have := ac3.1; omega)) (cwV 2 hg gv_fl_54 rfl rfl rfl (by decide +kernel) ⟨Nat.le_of_ble_eq_true rfl, Nat.le_of_ble_eq_true rfl⟩) ⟨mt_bl, va_recv (q0 := 0) (ci := 1) hK hP rfl rfl, mt_pr hX hPc hK hDc⟩ rfl rfl hl.1 rfl (lv_room (Nat.le_of_ble_eq_true rfl)) d_fl_chartCell_92 ⟨Nat.le_of_ble_eq_true rfl, Nat.le_of_ble_eq_true rfl⟩) hS (fun q _ h => hFc q h) hFc (fun u t H1 locs ht hvm hw hB hz1 hk1 hS => ?_)
        obtain ⟨sf127, Ms128⟩ := u
        have hr26 : ((¬ ((nI k) + (nI W0)) < 0 ∧ ¬ (nI W0) * (nI H0) ≤ ((nI k) + (nI W0)) ∧ wf ((nI k) + (nI W0)).toNatClampNeg = 0) ∧ sf127 = upd sf123 k (nI (c3 + 1)) ∧ Ms128 = va_up Ms124 k (upd (Ms124 k) c3 ((nI k) + (nI W0)))) ∨ ((((nI k) + (nI W0)) < 0 ∨ (nI W0) * (nI H0) ≤ ((nI k) + (nI W0)) ∨ ¬ wf ((nI k) + (nI W0)).toNatClampNeg = 0) ∧ sf127 = sf123 ∧ Ms128 = Ms124) := hw
        obtain ⟨hP1, hD1⟩ := hB
        rw [ht] at hP1
        have hP := hP1
        have hD := hD1.weaken (fun _ _ _ h => hFc _ h)
        generalize H1 = H at hP hS ⊢
        have hP : va_P D kls ([(fa, .inr (1, [.int (nI W0), .int (nI H0), .ref wa, .int (nI (fx_cnt wf k + 1)), .ref ra, .ref sa, .ref ta])), (wa, .inl (cZ, 25, .inl wf)), (ra, .inl (cI, 25, .inl (upd rf k (nI (fx_cnt wf k))))), (sa, .inl (cI, 25, .inl sf127)), (ta, .inl (cII, 25, .inr (.inr (.inr (.inr (fun i => if i < 25 then some (rr i) else none))))))] ++ mt_rw 25 rr (fun i => .inl (cI, 5, .inl (Ms128 i)))) H := hP
        have hD : va_D A ([(fa, .inr (1, [.int (nI W0), .int (nI H0), .ref wa, .int (nI (fx_cnt wf k + 1)), .ref ra, .ref sa, .ref ta])), (wa, .inl (cZ, 25, .inl wf)), (ra, .inl (cI, 25, .inl (upd rf k (nI (fx_cnt wf k))))), (sa, .inl (cI, 25, .inl sf127)), (ta, .inl (cII, 25, .inr (.inr (.inr (.inr (fun i => if i < 25 then some (rr i) else none))))))] ++ mt_rw 25 rr (fun i => .inl (cI, 5, .inl (Ms128 i)))) := hD
        obtain ⟨⟨c4, hs4, ac4⟩, ho4⟩ := fx_add (C := (fun b => (fun b => (fun b => (fun _ => False) b ∨ nI k - nI W0 = nI b) b ∨ nI k - 1 = nI b) b ∨ nI k = nI b)) (by omega) (pk_mul W0 H0) ac3 lt3 hs3 hr26
        have eC : ∀ b, fx_fr (W0 * H0) wf b → ((fun b => (fun b => (fun b => (fun b => (fun _ => False) b ∨ nI k - nI W0 = nI b) b ∨ nI k - 1 = nI b) b ∨ nI k = nI b) b ∨ nI k + nI W0 = nI b) b ↔ fx_adj W0 k b) := by
          intro b hb
          show ((((False ∨ nI k - nI W0 = nI b) ∨ nI k - 1 = nI b) ∨ nI k = nI b) ∨ nI k + nI W0 = nI b) ↔ _
          have hb5 := hb.1
          have q1 := fx_e1 (a := k) (b := W0) (c := b) (by omega) (by omega) (by omega)
          have q2 : nI k - 1 = nI b ↔ b + 1 = k := fx_e1 (a := k) (b := 1) (c := b) (by omega) (by omega) (by omega)
          have q3 : nI k = nI b ↔ k = b := nI_eq (by omega) (by omega)
          have q4 : nI k + 1 = nI b ↔ k + 1 = b := fx_e2 (a := k) (b := 1) (c := b) (by omega) (by omega) (by omega)
          have q5 := fx_e2 (a := k) (b := W0) (c := b) (by omega) (by omega) (by omega)
          simp only [q1, q2, q3, q4, q5, false_or]
          unfold fx_adj
          have m1 := fx_mod1 (k := k) hx0 hkx
          clear q1 q2 q3 q4 q5 hP hD
          constructor
          · intro h
            rcases (show b + W0 = k ∨ (b + 1 = k ∧ 0 < x) ∨ k = b ∨ (k + 1 = b ∧ x + 1 < W0) ∨ k + W0 = b by omega) with h | h | h | h | h
            · exact Or.inr (Or.inl h)
            · exact Or.inr (Or.inr (Or.inr (Or.inl ⟨h.1, by omega⟩)))
            · exact Or.inl h.symm
            · exact Or.inr (Or.inr (Or.inr (Or.inr ⟨h.1, by rw [← h.1, m1, if_neg (by omega)]; omega⟩)))
            · exact Or.inr (Or.inr (Or.inl h))
          · intro h
            rcases h with h | h | h | ⟨h, h9⟩ | ⟨h, h9⟩
            · omega
            · omega
            · omega
            · omega
            · rw [← h, m1] at h9; have h8 : x + 1 ≠ W0 := fun e => h9 (if_pos e)
              omega
        have ha := fx_acc_c ac4 eC
        have ha : fx_acc (fx_fr (W0 * H0) wf) (fx_adj W0 k) 5 (Ms128 k) c4 := ⟨Nat.le_trans ha.1 (by decide), ha.2⟩
        have ho : ∀ a, a ≠ k → sf127 a = sf a ∧ Ms128 a = Ms a := fun a h => ⟨(((((ho4 a h).1).trans (ho3 a h).1).trans (ho2 a h).1).trans (ho1 a h).1).trans (pk_un h), ((((ho4 a h).2).trans (ho3 a h).2).trans (ho2 a h).2).trans (ho1 a h).2⟩
        have hf9 : fx_cnt wf (k + 1) = fx_cnt wf k + 1 := by show _ + _ = _; rw [if_pos hw0]
        have hP9 := hP
        have hD9 := hD
        exact W.vret hx hb hr (fun t ht hW => ⟨⟨(nI (fx_cnt wf k + 1), upd rf k (nI (fx_cnt wf k)), sf127, Ms128), rfl, ⟨rfl, by rw [hf9], ho, fun h => absurd hw0 h, fun _ => ⟨c4, hs4, ha⟩, c4, ha.1, hs4⟩, by rw [ht]; exact hP9, hD9⟩, hS.F ht⟩) hS.2.2 d_fl_chartCell_95
      ·
        have gy0 : x < W0 - 1 := by rcases Nat.lt_or_ge x (W0 - 1) with h | h; exact h; exact absurd (nI_le h (by omega)) gy
        refine lv_aload_n hx hb d_fl_chartCell_76 rfl (lv_at hl 0 rfl) ?_
        refine lv_iload_n hx hb d_fl_chartCell_77 rfl (lv_at hl 2 rfl) ?_
        refine lv_iload_n hx hb d_fl_chartCell_78 rfl (lv_at hl 2 rfl) ?_
        refine lv_iconst (v := 1) hx hb d_fl_chartCell_79 (by decide) ?_
        refine lv_iadd hx hb d_fl_chartCell_80 ?_
        have lt3 : ∀ b, (fun b => (fun b => (fun b => (fun _ => False) b ∨ nI k - nI W0 = nI b) b ∨ nI k - 1 = nI b) b ∨ nI k = nI b) b → fx_fr (W0 * H0) wf b → nI b < nI k + 1 := by
          intro b hC hb
          have hb5 := hb.1
          have q1 := fx_e1 (a := k) (b := W0) (c := b) (by omega) (by omega) (by omega)
          have q2 : nI k - 1 = nI b ↔ b + 1 = k := fx_e1 (a := k) (b := 1) (c := b) (by omega) (by omega) (by omega)
          have q3 : nI k = nI b ↔ k = b := nI_eq (by omega) (by omega)
          have q4 : nI k + 1 = nI b ↔ k + 1 = b := fx_e2 (a := k) (b := 1) (c := b) (by omega) (by omega) (by omega)
          have q5 := fx_e2 (a := k) (b := W0) (c := b) (by omega) (by omega) (by omega)
          have hC : (((False ∨ nI k - nI W0 = nI b) ∨ nI k - 1 = nI b) ∨ nI k = nI b) := hC
          simp only [q1, q2, q3, q4, q5, false_or] at hC
          rw [show nI k + 1 = nI (k + 1) from nI_1 k]
          exact nI_lt (by omega) (by omega)
        have hPc := hP
        have hDc := hD
        have hFc := mt_whole hD hS hA
        refine va_callv (va_runV (As := [.int (nI k), .int ((nI k) + 1)]) (rest := []) ⟨hx, hb, hml, hown, hg⟩ (c_fl_addStepM l D cZ cI cJ cII fa (nI W0) (nI H0) wa (nI (fx_cnt wf k + 1)) ra sa ta wf (upd rf k (nI (fx_cnt wf k))) sf123 rr Ms124 k c3 ((nI k) + 1) H.size (mt_b25 hWH.2.2.2) (by omega) hs3 (by have := ac3.1; omega)) (cwV 2 hg gv_fl_54 rfl rfl rfl (by decide +kernel) ⟨Nat.le_of_ble_eq_true rfl, Nat.le_of_ble_eq_true rfl⟩) ⟨mt_bl, va_recv (q0 := 0) (ci := 1) hK hP rfl rfl, mt_pr hX hPc hK hDc⟩ rfl rfl hl.1 rfl (lv_room (Nat.le_of_ble_eq_true rfl)) d_fl_chartCell_81 ⟨Nat.le_of_ble_eq_true rfl, Nat.le_of_ble_eq_true rfl⟩) hS (fun q _ h => hFc q h) hFc (fun u t H1 locs ht hvm hw hB hz1 hk1 hS => ?_)
        obtain ⟨sf130, Ms131⟩ := u
        have hr29 : ((¬ ((nI k) + 1) < 0 ∧ ¬ (nI W0) * (nI H0) ≤ ((nI k) + 1) ∧ wf ((nI k) + 1).toNatClampNeg = 0) ∧ sf130 = upd sf123 k (nI (c3 + 1)) ∧ Ms131 = va_up Ms124 k (upd (Ms124 k) c3 ((nI k) + 1))) ∨ ((((nI k) + 1) < 0 ∨ (nI W0) * (nI H0) ≤ ((nI k) + 1) ∨ ¬ wf ((nI k) + 1).toNatClampNeg = 0) ∧ sf130 = sf123 ∧ Ms131 = Ms124) := hw
        obtain ⟨hP1, hD1⟩ := hB
        rw [ht] at hP1
        have hP := hP1
        have hD := hD1.weaken (fun _ _ _ h => hFc _ h)
        generalize H1 = H at hP hS ⊢
        have hP : va_P D kls ([(fa, .inr (1, [.int (nI W0), .int (nI H0), .ref wa, .int (nI (fx_cnt wf k + 1)), .ref ra, .ref sa, .ref ta])), (wa, .inl (cZ, 25, .inl wf)), (ra, .inl (cI, 25, .inl (upd rf k (nI (fx_cnt wf k))))), (sa, .inl (cI, 25, .inl sf130)), (ta, .inl (cII, 25, .inr (.inr (.inr (.inr (fun i => if i < 25 then some (rr i) else none))))))] ++ mt_rw 25 rr (fun i => .inl (cI, 5, .inl (Ms131 i)))) H := hP
        have hD : va_D A ([(fa, .inr (1, [.int (nI W0), .int (nI H0), .ref wa, .int (nI (fx_cnt wf k + 1)), .ref ra, .ref sa, .ref ta])), (wa, .inl (cZ, 25, .inl wf)), (ra, .inl (cI, 25, .inl (upd rf k (nI (fx_cnt wf k))))), (sa, .inl (cI, 25, .inl sf130)), (ta, .inl (cII, 25, .inr (.inr (.inr (.inr (fun i => if i < 25 then some (rr i) else none))))))] ++ mt_rw 25 rr (fun i => .inl (cI, 5, .inl (Ms131 i)))) := hD
        obtain ⟨⟨c4, hs4, ac4⟩, ho4⟩ := fx_add (C := (fun b => (fun b => (fun b => (fun _ => False) b ∨ nI k - nI W0 = nI b) b ∨ nI k - 1 = nI b) b ∨ nI k = nI b)) (by omega) (pk_mul W0 H0) ac3 lt3 hs3 hr29
        refine lv_aload_n hx hb d_fl_chartCell_84 rfl (lv_at hl 0 rfl) ?_
        refine lv_iload_n hx hb d_fl_chartCell_85 rfl (lv_at hl 2 rfl) ?_
        refine lv_iload_n hx hb d_fl_chartCell_86 rfl (lv_at hl 2 rfl) ?_
        refine lv_aload_n hx hb d_fl_chartCell_87 rfl (lv_at hl 0 rfl) ?_
        refine gf_fl_31 hx hb hg hown hK hP 0 rfl rfl d_fl_chartCell_88 ?_
        refine lv_iadd hx hb d_fl_chartCell_91 ?_
        have lt4 : ∀ b, (fun b => (fun b => (fun b => (fun b => (fun _ => False) b ∨ nI k - nI W0 = nI b) b ∨ nI k - 1 = nI b) b ∨ nI k = nI b) b ∨ nI k + 1 = nI b) b → fx_fr (W0 * H0) wf b → nI b < nI k + nI W0 := by
          intro b hC hb
          have hb5 := hb.1
          have q1 := fx_e1 (a := k) (b := W0) (c := b) (by omega) (by omega) (by omega)
          have q2 : nI k - 1 = nI b ↔ b + 1 = k := fx_e1 (a := k) (b := 1) (c := b) (by omega) (by omega) (by omega)
          have q3 : nI k = nI b ↔ k = b := nI_eq (by omega) (by omega)
          have q4 : nI k + 1 = nI b ↔ k + 1 = b := fx_e2 (a := k) (b := 1) (c := b) (by omega) (by omega) (by omega)
          have q5 := fx_e2 (a := k) (b := W0) (c := b) (by omega) (by omega) (by omega)
          have hC : ((((False ∨ nI k - nI W0 = nI b) ∨ nI k - 1 = nI b) ∨ nI k = nI b) ∨ nI k + 1 = nI b) := hC
          simp only [q1, q2, q3, q4, q5, false_or] at hC
          rw [show nI k + nI W0 = nI (k + W0) from nI_add k W0]
          exact nI_lt (by omega) (by omega)
        have hPc := hP
        have hDc := hD
        have hFc := mt_whole hD hS hA
        refine va_callv (va_runV (As := [.int (nI k), .int ((nI k) + (nI W0))]) (rest := []) ⟨hx, hb, hml, hown, hg⟩ (c_fl_addStepM l D cZ cI cJ cII fa (nI W0) (nI H0) wa (nI (fx_cnt wf k + 1)) ra sa ta wf (upd rf k (nI (fx_cnt wf k))) sf130 rr Ms131 k c4 ((nI k) + (nI W0)) H.size (mt_b25 hWH.2.2.2) (by omega) hs4 (by have := ac4.1; omega)) (cwV 2 hg gv_fl_54 rfl rfl rfl (by decide +kernel) ⟨Nat.le_of_ble_eq_true rfl, Nat.le_of_ble_eq_true rfl⟩) ⟨mt_bl, va_recv (q0 := 0) (ci := 1) hK hP rfl rfl, mt_pr hX hPc hK hDc⟩ rfl rfl hl.1 rfl (lv_room (Nat.le_of_ble_eq_true rfl)) d_fl_chartCell_92 ⟨Nat.le_of_ble_eq_true rfl, Nat.le_of_ble_eq_true rfl⟩) hS (fun q _ h => hFc q h) hFc (fun u t H1 locs ht hvm hw hB hz1 hk1 hS => ?_)
        obtain ⟨sf133, Ms134⟩ := u
        have hr32 : ((¬ ((nI k) + (nI W0)) < 0 ∧ ¬ (nI W0) * (nI H0) ≤ ((nI k) + (nI W0)) ∧ wf ((nI k) + (nI W0)).toNatClampNeg = 0) ∧ sf133 = upd sf130 k (nI (c4 + 1)) ∧ Ms134 = va_up Ms131 k (upd (Ms131 k) c4 ((nI k) + (nI W0)))) ∨ ((((nI k) + (nI W0)) < 0 ∨ (nI W0) * (nI H0) ≤ ((nI k) + (nI W0)) ∨ ¬ wf ((nI k) + (nI W0)).toNatClampNeg = 0) ∧ sf133 = sf130 ∧ Ms134 = Ms131) := hw
        obtain ⟨hP1, hD1⟩ := hB
        rw [ht] at hP1
        have hP := hP1
        have hD := hD1.weaken (fun _ _ _ h => hFc _ h)
        generalize H1 = H at hP hS ⊢
        have hP : va_P D kls ([(fa, .inr (1, [.int (nI W0), .int (nI H0), .ref wa, .int (nI (fx_cnt wf k + 1)), .ref ra, .ref sa, .ref ta])), (wa, .inl (cZ, 25, .inl wf)), (ra, .inl (cI, 25, .inl (upd rf k (nI (fx_cnt wf k))))), (sa, .inl (cI, 25, .inl sf133)), (ta, .inl (cII, 25, .inr (.inr (.inr (.inr (fun i => if i < 25 then some (rr i) else none))))))] ++ mt_rw 25 rr (fun i => .inl (cI, 5, .inl (Ms134 i)))) H := hP
        have hD : va_D A ([(fa, .inr (1, [.int (nI W0), .int (nI H0), .ref wa, .int (nI (fx_cnt wf k + 1)), .ref ra, .ref sa, .ref ta])), (wa, .inl (cZ, 25, .inl wf)), (ra, .inl (cI, 25, .inl (upd rf k (nI (fx_cnt wf k))))), (sa, .inl (cI, 25, .inl sf133)), (ta, .inl (cII, 25, .inr (.inr (.inr (.inr (fun i => if i < 25 then some (rr i) else none))))))] ++ mt_rw 25 rr (fun i => .inl (cI, 5, .inl (Ms134 i)))) := hD
        obtain ⟨⟨c5, hs5, ac5⟩, ho5⟩ := fx_add (C := (fun b => (fun b => (fun b => (fun b => (fun _ => False) b ∨ nI k - nI W0 = nI b) b ∨ nI k - 1 = nI b) b ∨ nI k = nI b) b ∨ nI k + 1 = nI b)) (by omega) (pk_mul W0 H0) ac4 lt4 hs4 hr32
        have eC : ∀ b, fx_fr (W0 * H0) wf b → ((fun b => (fun b => (fun b => (fun b => (fun b => (fun _ => False) b ∨ nI k - nI W0 = nI b) b ∨ nI k - 1 = nI b) b ∨ nI k = nI b) b ∨ nI k + 1 = nI b) b ∨ nI k + nI W0 = nI b) b ↔ fx_adj W0 k b) := by
          intro b hb
          show (((((False ∨ nI k - nI W0 = nI b) ∨ nI k - 1 = nI b) ∨ nI k = nI b) ∨ nI k + 1 = nI b) ∨ nI k + nI W0 = nI b) ↔ _
          have hb5 := hb.1
          have q1 := fx_e1 (a := k) (b := W0) (c := b) (by omega) (by omega) (by omega)
          have q2 : nI k - 1 = nI b ↔ b + 1 = k := fx_e1 (a := k) (b := 1) (c := b) (by omega) (by omega) (by omega)
          have q3 : nI k = nI b ↔ k = b := nI_eq (by omega) (by omega)
          have q4 : nI k + 1 = nI b ↔ k + 1 = b := fx_e2 (a := k) (b := 1) (c := b) (by omega) (by omega) (by omega)
          have q5 := fx_e2 (a := k) (b := W0) (c := b) (by omega) (by omega) (by omega)
          simp only [q1, q2, q3, q4, q5, false_or]
          unfold fx_adj
          have m1 := fx_mod1 (k := k) hx0 hkx
          clear q1 q2 q3 q4 q5 hP hD
          constructor
          · intro h
            rcases (show b + W0 = k ∨ (b + 1 = k ∧ 0 < x) ∨ k = b ∨ (k + 1 = b ∧ x + 1 < W0) ∨ k + W0 = b by omega) with h | h | h | h | h
            · exact Or.inr (Or.inl h)
            · exact Or.inr (Or.inr (Or.inr (Or.inl ⟨h.1, by omega⟩)))
            · exact Or.inl h.symm
            · exact Or.inr (Or.inr (Or.inr (Or.inr ⟨h.1, by rw [← h.1, m1, if_neg (by omega)]; omega⟩)))
            · exact Or.inr (Or.inr (Or.inl h))
          · intro h
            rcases h with h | h | h | ⟨h, h9⟩ | ⟨h, h9⟩
            · omega
            · omega
            · omega
            · omega
            · rw [← h, m1] at h9; have h8 : x + 1 ≠ W0 := fun e => h9 (if_pos e)
              omega
        have ha := fx_acc_c ac5 eC
        have ha : fx_acc (fx_fr (W0 * H0) wf) (fx_adj W0 k) 5 (Ms134 k) c5 := ⟨Nat.le_trans ha.1 (by decide), ha.2⟩
        have ho : ∀ a, a ≠ k → sf133 a = sf a ∧ Ms134 a = Ms a := fun a h => ⟨((((((ho5 a h).1).trans (ho4 a h).1).trans (ho3 a h).1).trans (ho2 a h).1).trans (ho1 a h).1).trans (pk_un h), (((((ho5 a h).2).trans (ho4 a h).2).trans (ho3 a h).2).trans (ho2 a h).2).trans (ho1 a h).2⟩
        have hf9 : fx_cnt wf (k + 1) = fx_cnt wf k + 1 := by show _ + _ = _; rw [if_pos hw0]
        have hP9 := hP
        have hD9 := hD
        exact W.vret hx hb hr (fun t ht hW => ⟨⟨(nI (fx_cnt wf k + 1), upd rf k (nI (fx_cnt wf k)), sf133, Ms134), rfl, ⟨rfl, by rw [hf9], ho, fun h => absurd hw0 h, fun _ => ⟨c5, hs5, ha⟩, c5, ha.1, hs5⟩, by rw [ht]; exact hP9, hD9⟩, hS.F ht⟩) hS.2.2 d_fl_chartCell_95
  ·
    have hP9 := hP
    have hD9 := hD
    exact W.vret hx hb hr (fun t ht hW => ⟨⟨(nI (fx_cnt wf k), upd rf k (nI (fx_cnt wf k)), upd sf k 0, Ms), rfl, ⟨rfl, by rw [show fx_cnt wf (k + 1) = fx_cnt wf k by show _ + _ = _; rw [if_neg hw0]; rfl], fun a ha => ⟨pk_un ha, rfl⟩, fun _ => pk_us, fun h => absurd h hw0, 0, by decide, pk_us.trans nI_0.symm⟩, by rw [ht]; exact hP9, hD9⟩, hS.F ht⟩) hS.2.2 d_fl_chartCell_26
