/-- the free cells below one -/
def fx_cnt (wf : Nat → Int32) : Nat → Nat
  | 0 => 0
  | k + 1 => fx_cnt wf k + if wf k = 0 then 1 else 0
theorem fx_cnt_le (wf : Nat → Int32) : ∀ k, fx_cnt wf k ≤ k := by
  intro k
  induction k with
  | zero => exact Nat.le_refl _
  | succ k ih => show _ + _ ≤ _; split <;> omega
theorem fx_cnt_mono {wf : Nat → Int32} {a b : Nat} (h : a ≤ b) : fx_cnt wf a ≤ fx_cnt wf b := by
  induction h with
  | refl => exact Nat.le_refl _
  | step _ ih => exact Nat.le_trans ih (Nat.le_add_right _ _)
theorem fx_cnt_lt {wf : Nat → Int32} {a b : Nat} (h : a < b) (h0 : wf a = 0) : fx_cnt wf a < fx_cnt wf b := by
  have : fx_cnt wf (a + 1) ≤ fx_cnt wf b := fx_cnt_mono h
  have e : fx_cnt wf (a + 1) = fx_cnt wf a + 1 := by show _ + _ = _; rw [if_pos h0]
  omega
def fx_fr (N : Nat) (wf : Nat → Int32) (b : Nat) : Prop := b < N ∧ wf b = 0
def fx_adj (W k b : Nat) : Prop := b = k ∨ b + W = k ∨ k + W = b ∨ (b + 1 = k ∧ ¬ k % W = 0) ∨ (k + 1 = b ∧ ¬ b % W = 0)
theorem fx_adj_s {W k b : Nat} (h : fx_adj W k b) : fx_adj W b k := by
  rcases h with h | h | h | h | h
  · exact Or.inl h.symm
  · exact Or.inr (Or.inr (Or.inl h))
  · exact Or.inr (Or.inl h)
  · exact Or.inr (Or.inr (Or.inr (Or.inr h)))
  · exact Or.inr (Or.inr (Or.inr (Or.inl h)))
/-- the steps of a cell so far -/
def fx_acc (fr C : Nat → Prop) (z : Nat) (f : Nat → Int32) (cnt : Nat) : Prop := cnt ≤ z ∧ (∀ i, i < cnt → ∃ b, C b ∧ fr b ∧ f i = nI b) ∧ (∀ b, C b → fr b → ∃ i, i < cnt ∧ f i = nI b) ∧ (∀ i j, i < j → j < cnt → f i < f j)
theorem fx_acc_c {fr C C' : Nat → Prop} {z : Nat} {f : Nat → Int32} {cnt : Nat} (h : fx_acc fr C z f cnt) (hc : ∀ b, fr b → (C b ↔ C' b)) : fx_acc fr C' z f cnt :=
  ⟨h.1, fun i hi => by obtain ⟨b, h1, h2, h3⟩ := h.2.1 i hi; exact ⟨b, (hc b h2).mp h1, h2, h3⟩, fun b h1 h2 => h.2.2.1 b ((hc b h2).mpr h1) h2, h.2.2.2⟩
theorem fx_add {N z cnt k : Nat} {C : Nat → Prop} {wf sf sf1 : Nat → Int32} {Ms Ms1 : Nat → Nat → Int32} {x y : Int32} (hN : N ≤ 25) (hxN : x = nI N) (h : fx_acc (fx_fr N wf) C z (Ms k) cnt) (hlt : ∀ b, C b → fx_fr N wf b → nI b < y) (hs : sf k = nI cnt)
    (hp : ((¬ y < 0 ∧ ¬ x ≤ y ∧ wf y.toNatClampNeg = 0) ∧ sf1 = upd sf k (nI (cnt + 1)) ∧ Ms1 = va_up Ms k (upd (Ms k) cnt y)) ∨ ((y < 0 ∨ x ≤ y ∨ ¬ wf y.toNatClampNeg = 0) ∧ sf1 = sf ∧ Ms1 = Ms)) :
    (∃ c1, sf1 k = nI c1 ∧ fx_acc (fx_fr N wf) (fun b => C b ∨ y = nI b) (z + 1) (Ms1 k) c1) ∧ ∀ a, a ≠ k → sf1 a = sf a ∧ Ms1 a = Ms a := by
  subst hxN
  rcases hp with ⟨⟨h0, h1, h2⟩, rfl, rfl⟩ | ⟨h0, rfl, rfl⟩
  · obtain ⟨j, hj, rfl⟩ := nI_of h0
    have hjN : j < N := by rcases Nat.lt_or_ge j N with g | g; exact g; exact absurd (nI_le g hj) h1
    rw [nI_clamp hj] at h2
    have e1 : va_up Ms k (upd (Ms k) cnt (nI j)) k = upd (Ms k) cnt (nI j) := by simp [va_up]
    refine ⟨⟨cnt + 1, pk_us, ?_⟩, fun a ha => ⟨pk_un ha, by simp [va_up, ha]⟩⟩
    rw [e1]
    refine ⟨by have := h.1; omega, ?_, ?_, ?_⟩
    · intro i hi
      by_cases e : i = cnt
      · subst e; exact ⟨j, Or.inr rfl, ⟨hjN, h2⟩, pk_us⟩
      · obtain ⟨b, q1, q2, q3⟩ := h.2.1 i (by omega)
        exact ⟨b, Or.inl q1, q2, (pk_un e).trans q3⟩
    · intro b hb hf
      rcases hb with hb | hb
      · obtain ⟨i, q1, q2⟩ := h.2.2.1 b hb hf
        exact ⟨i, by omega, (pk_un (by omega)).trans q2⟩
      · exact ⟨cnt, by omega, pk_us.trans hb⟩
    · intro i j' hij hj'
      by_cases e : j' = cnt
      · subst e
        obtain ⟨b, q1, q2, q3⟩ := h.2.1 i hij
        rw [pk_us, pk_un (by omega), q3]
        exact hlt b q1 q2
      · rw [pk_un e, pk_un (show i ≠ cnt by omega)]
        exact h.2.2.2 i j' hij (by omega)
  · refine ⟨⟨cnt, hs, by have := h.1; omega, ?_, ?_, h.2.2.2⟩, fun a _ => ⟨rfl, rfl⟩⟩
    · intro i hi
      obtain ⟨b, q1, q2, q3⟩ := h.2.1 i hi
      exact ⟨b, Or.inl q1, q2, q3⟩
    · intro b hb hf
      rcases hb with hb | hb
      · exact h.2.2.1 b hb hf
      · exfalso
        subst hb
        have hb2 : b < 2 ^ 31 := by have := hf.1; omega
        rcases h0 with h0 | h0 | h0
        · exact nI_pos hb2 h0
        · exact nI_ge hf.1 (by omega) h0
        · rw [nI_clamp hb2] at h0; exact h0 hf.2
/-- the floor below a cell -/
def fx_Ok (W N : Nat) (wf rf sf : Nat → Int32) (Ms : Nat → Nat → Int32) (k : Nat) : Prop := ∀ c, c < k → rf c = nI (fx_cnt wf c) ∧ (¬ wf c = 0 → sf c = 0) ∧ (wf c = 0 → ∃ cnt, sf c = nI cnt ∧ fx_acc (fx_fr N wf) (fx_adj W c) 5 (Ms c) cnt)
def fx_sc (sf : Nat → Int32) : Prop := ∀ k, k < 25 → ∃ n, n ≤ 5 ∧ sf k = nI n
theorem fx_s0 {C : Nat → Prop} {fr : Nat → Prop} {f : Nat → Int32} (h : ∀ b, ¬ C b) : fx_acc fr C 0 f 0 := ⟨Nat.le_refl _, fun i hi => absurd hi (Nat.not_lt_zero _), fun b hb => absurd hb (h b), fun i j _ hj => absurd hj (Nat.not_lt_zero _)⟩
theorem fx_e1 {a b c : Nat} (ha : a < 2 ^ 30) (hb : b < 2 ^ 30) (hc : c < 2 ^ 30) : (nI a - nI b = nI c ↔ c + b = a) := by
  constructor
  · intro h
    have : nI a = nI (c + b) := by rw [← nI_add, ← h, Int32.sub_add_cancel]
    exact ((nI_eq (by omega) (by omega)).mp this).symm
  · intro h
    subst h
    rw [pk_sub (by omega), show c + b - b = c by omega]
theorem fx_e2 {a b c : Nat} (ha : a < 2 ^ 30) (hb : b < 2 ^ 30) (hc : c < 2 ^ 30) : (nI a + nI b = nI c ↔ a + b = c) := by
  rw [nI_add]; exact nI_eq (by omega) (by omega)

set_option maxHeartbeats 4000000 in
set_option maxRecDepth 100000 in
theorem c_fl_addStepM (l : Launch) (D : va_G) (cZ cI cJ cII : ClassId) (fa : Nat) (fw : Int32) (fh : Int32) (wa : Nat) (fc : Int32) (ra : Nat) (sa : Nat) (ta : Nat) (wf : Nat → Int32) (rf : Nat → Int32) (sf : Nat → Int32) (rr : Nat → Nat) (Ms : Nat → Nat → Int32) (k : Nat) (j : Nat) (y : Int32) (sz : Nat) (hb25 : ∀ x : Int32, ¬ x < 0 → ¬ fw * fh ≤ x → vp_in x 25) (hk : k < 25) (hsj : sf k = nI j) (hj : j < 5) : Met l y_fl_addStep w_fl_addStep ({ frames := 2, cells := 0, slots := 0, locals := 80 }) (va_Pc [.ref fa, .int (nI k), .int y] (mt_B D [(cZ, .boolean), (cI, .int), (cJ, .long), (cII, .array .int)] ([(fa, .inr (1, [.int fw, .int fh, .ref wa, .int fc, .ref ra, .ref sa, .ref ta])), (wa, .inl (cZ, 25, .inl wf)), (ra, .inl (cI, 25, .inl rf)), (sa, .inl (cI, 25, .inl sf)), (ta, .inl (cII, 25, .inr (.inr (.inr (.inr (fun i => if i < 25 then some (rr i) else none))))))] ++ mt_rw 25 rr (fun i => .inl (cI, 5, .inl (Ms i)))) sz)) ((fun A => va_Qv (fun (u : (Nat → Int32) × (Nat → Nat → Int32)) => ((¬ y < 0 ∧ ¬ fw * fh ≤ y ∧ wf y.toNatClampNeg = 0) ∧ (u.1) = upd sf k (nI (j + 1)) ∧ (u.2) = va_up Ms k (upd (Ms k) j y)) ∨ ((y < 0 ∨ fw * fh ≤ y ∨ ¬ wf y.toNatClampNeg = 0) ∧ (u.1) = sf ∧ (u.2) = Ms)) (fun (u : (Nat → Int32) × (Nat → Nat → Int32)) (t : State) => mt_O D A ([(fa, .inr (1, [.int fw, .int fh, .ref wa, .int fc, .ref ra, .ref sa, .ref ta])), (wa, .inl (cZ, 25, .inl wf)), (ra, .inl (cI, 25, .inl rf)), (sa, .inl (cI, 25, .inl (u.1))), (ta, .inl (cII, 25, .inr (.inr (.inr (.inr (fun i => if i < 25 then some (rr i) else none))))))] ++ mt_rw 25 rr (fun i => .inl (cI, 5, .inl ((u.2) i)))) t) A) (va_A ([(fa, .inr (1, [.int fw, .int fh, .ref wa, .int fc, .ref ra, .ref sa, .ref ta])), (wa, .inl (cZ, 25, .inl wf)), (ra, .inl (cI, 25, .inl rf)), (sa, .inl (cI, 25, .inl sf)), (ta, .inl (cII, 25, .inr (.inr (.inr (.inr (fun i => if i < 25 then some (rr i) else none))))))] ++ mt_rw 25 rr (fun i => .inl (cI, 5, .inl (Ms i)))) sz)) 0 0 (va_A ([(fa, .inr (1, [.int fw, .int fh, .ref wa, .int fc, .ref ra, .ref sa, .ref ta])), (wa, .inl (cZ, 25, .inl wf)), (ra, .inl (cI, 25, .inl rf)), (sa, .inl (cI, 25, .inl sf)), (ta, .inl (cII, 25, .inr (.inr (.inr (.inr (fun i => if i < 25 then some (rr i) else none))))))] ++ mt_rw 25 rr (fun i => .inl (cI, 5, .inl (Ms i)))) sz) := by
  refine mt_of (y := y_fl_addStep) (n := 3) (av := [.ref fa, .int (nI k), .int y]) (QF := (fun A => va_Qv (fun (u : (Nat → Int32) × (Nat → Nat → Int32)) => ((¬ y < 0 ∧ ¬ fw * fh ≤ y ∧ wf y.toNatClampNeg = 0) ∧ (u.1) = upd sf k (nI (j + 1)) ∧ (u.2) = va_up Ms k (upd (Ms k) j y)) ∨ ((y < 0 ∨ fw * fh ≤ y ∨ ¬ wf y.toNatClampNeg = 0) ∧ (u.1) = sf ∧ (u.2) = Ms)) (fun (u : (Nat → Int32) × (Nat → Nat → Int32)) (t : State) => mt_O D A ([(fa, .inr (1, [.int fw, .int fh, .ref wa, .int fc, .ref ra, .ref sa, .ref ta])), (wa, .inl (cZ, 25, .inl wf)), (ra, .inl (cI, 25, .inl rf)), (sa, .inl (cI, 25, .inl (u.1))), (ta, .inl (cII, 25, .inr (.inr (.inr (.inr (fun i => if i < 25 then some (rr i) else none))))))] ++ mt_rw 25 rr (fun i => .inl (cI, 5, .inl ((u.2) i)))) t) A)) (by decide) (Nat.le_of_ble_eq_true rfl) ?_
  intro p e s m below meth c ls A hx hb hr hlk hml hown hnm hg hl hX hP hK hD hA hS
  obtain ⟨H, hH⟩ : ∃ H : Heap, H = s.heap := ⟨_, rfl⟩
  have hS : va_S A s.heap H [] := by rw [hH]; exact va_S.rf
  rw [← hH] at hP ⊢
  have hown : s.vm.findClass R_fl = some m.cls := hown
  have hl : lv_has ls 3 [(0, .ref fa), (1, .int (nI k)), (2, .int y)] := hl
  refine lv_aload_n hx hb d_fl_addStep_0 rfl (lv_at hl 0 rfl) ?_
  refine lv_iload_n hx hb d_fl_addStep_1 rfl (lv_at hl 2 rfl) ?_
  have hPc := hP.sub (ws' := [(fa, .inr (1, [.int fw, .int fh, .ref wa, .int fc, .ref ra, .ref sa, .ref ta])), (wa, .inl (cZ, 25, .inl wf))]) [0, 1] rfl
  have hDc := hD.sub (ws' := [(fa, .inr (1, [.int fw, .int fh, .ref wa, .int fc, .ref ra, .ref sa, .ref ta])), (wa, .inl (cZ, 25, .inl wf))]) [0, 1] (by decide) rfl
  refine vp_callSi (W.runV (As := [.int y]) (rest := []) ⟨hx, hb, hml, hown, hg⟩ (c_fl_isFree l D cZ cI cJ cII fa fw fh wa fc ra sa ta wf y H.size hb25) (cwV 1 hg gv_fl_45 rfl rfl rfl (by decide +kernel) ⟨Nat.le_of_ble_eq_true rfl, Nat.le_of_ble_eq_true rfl⟩) ⟨mt_bl, va_recv (q0 := 0) (ci := 1) hK hP rfl rfl, mt_pr hX hPc hK hDc⟩ rfl rfl hl.1 rfl (lv_room (Nat.le_of_ble_eq_true rfl)) d_fl_addStep_2 ⟨Nat.le_of_ble_eq_true rfl, Nat.le_of_ble_eq_true rfl⟩) (fun r1 hr1 => ?_)
  have hr1 : (r1 = 1 ∧ ¬ y < 0 ∧ ¬ fw * fh ≤ y ∧ wf y.toNatClampNeg = 0) ∨ (r1 = 0 ∧ (y < 0 ∨ fw * fh ≤ y ∨ ¬ wf y.toNatClampNeg = 0)) := hr1
  refine lv_if_eq hx hb d_fl_addStep_5 rfl (fun g1 => ?_) (fun g1 => ?_)
  ·
    have hP9 := hP
    have hD9 := hD
    exact W.vret hx hb hr (fun t ht hW => ⟨⟨(sf, Ms), rfl, Or.inr ⟨hr1.elim (fun q => absurd (q.1.symm.trans g1) (by decide)) (fun q => q.2), rfl, rfl⟩, by rw [ht]; exact hP9, hD9⟩, hS.F ht⟩) hS.2.2 d_fl_addStep_32
  ·
    refine lv_aload_n hx hb d_fl_addStep_8 rfl (lv_at hl 0 rfl) ?_
    refine gf_fl_24 hx hb hg hown hK hP 0 rfl rfl d_fl_addStep_9 ?_
    refine lv_iload_n hx hb d_fl_addStep_12 rfl (lv_at hl 1 rfl) ?_
    refine mt_aald hx hb hK hP 4 3 rfl rfl (vp_in_nI hk (by decide)) (by show (if (nI k).toNatClampNeg < 25 then some (rr (nI k).toNatClampNeg) else none) = some (rr k); rw [nI_clamp (show k < 2 ^ 31 by omega), if_pos hk]) d_fl_addStep_13 ?_
    refine lv_aload_n hx hb d_fl_addStep_14 rfl (lv_at hl 0 rfl) ?_
    refine gf_fl_19 hx hb hg hown hK hP 0 rfl rfl d_fl_addStep_15 ?_
    refine lv_iload_n hx hb d_fl_addStep_18 rfl (lv_at hl 1 rfl) ?_
    refine va_iald hx hb hK hP 3 1 rfl rfl (vp_in_nI hk (by decide)) d_fl_addStep_19 ?_
    refine lv_topi (fun y2 ey2 => ?_)
    have ey2 : y2 = nI j := ey2.trans (by rw [nI_clamp (show k < 2 ^ 31 by omega)]; exact hsj)
    subst ey2
    refine lv_iload_n hx hb d_fl_addStep_20 rfl (lv_at hl 2 rfl) ?_
    refine va_iast hx hb hK hP hD hS (5 + k) 1 (mt_rw_at rfl hk) rfl (vp_in_nI hj (by decide)) d_fl_addStep_21 (fun H locs hP hD hS => ?_)
    rw [mt_rw_set (x := 5) rfl, mt_rw_row, nI_clamp (show j < 2 ^ 31 by omega)] at hP hD
    have hP : va_P D kls ([(fa, .inr (1, [.int fw, .int fh, .ref wa, .int fc, .ref ra, .ref sa, .ref ta])), (wa, .inl (cZ, 25, .inl wf)), (ra, .inl (cI, 25, .inl rf)), (sa, .inl (cI, 25, .inl sf)), (ta, .inl (cII, 25, .inr (.inr (.inr (.inr (fun i => if i < 25 then some (rr i) else none))))))] ++ mt_rw 25 rr (fun i => .inl (cI, 5, .inl ((va_up Ms k (upd (Ms k) j y)) i)))) H := hP
    have hD : va_D A ([(fa, .inr (1, [.int fw, .int fh, .ref wa, .int fc, .ref ra, .ref sa, .ref ta])), (wa, .inl (cZ, 25, .inl wf)), (ra, .inl (cI, 25, .inl rf)), (sa, .inl (cI, 25, .inl sf)), (ta, .inl (cII, 25, .inr (.inr (.inr (.inr (fun i => if i < 25 then some (rr i) else none))))))] ++ mt_rw 25 rr (fun i => .inl (cI, 5, .inl ((va_up Ms k (upd (Ms k) j y)) i)))) := hD
    refine lv_aload_n hx hb d_fl_addStep_22 rfl (lv_at hl 0 rfl) ?_
    refine gf_fl_19 hx hb hg hown hK hP 0 rfl rfl d_fl_addStep_23 ?_
    refine lv_iload_n hx hb d_fl_addStep_26 rfl (lv_at hl 1 rfl) ?_
    refine lv_dup2_11 hx hb d_fl_addStep_27 rfl rfl ?_
    refine va_iald hx hb hK hP 3 1 rfl rfl (vp_in_nI hk (by decide)) d_fl_addStep_28 ?_
    refine lv_topi (fun y3 ey3 => ?_)
    have ey3 : y3 = nI j := ey3.trans (by rw [nI_clamp (show k < 2 ^ 31 by omega)]; exact hsj)
    subst ey3
    refine lv_iconst (v := 1) hx hb d_fl_addStep_29 (by decide) ?_
    refine lv_iadd hx hb d_fl_addStep_30 ?_
    refine lv_topi (fun y4 ey4 => ?_)
    have ey4 : y4 = nI (j + 1) := ey4.trans ((nI_succ j).symm)
    subst ey4
    refine va_iast hx hb hK hP hD hS 3 1 rfl rfl (vp_in_nI hk (by decide)) d_fl_addStep_31 (fun H locs hP hD hS => ?_)
    rw [nI_clamp (show k < 2 ^ 31 by omega)] at hP hD
    have hP : va_P D kls ([(fa, .inr (1, [.int fw, .int fh, .ref wa, .int fc, .ref ra, .ref sa, .ref ta])), (wa, .inl (cZ, 25, .inl wf)), (ra, .inl (cI, 25, .inl rf)), (sa, .inl (cI, 25, .inl (upd sf k (nI (j + 1))))), (ta, .inl (cII, 25, .inr (.inr (.inr (.inr (fun i => if i < 25 then some (rr i) else none))))))] ++ mt_rw 25 rr (fun i => .inl (cI, 5, .inl ((va_up Ms k (upd (Ms k) j y)) i)))) H := hP
    have hD : va_D A ([(fa, .inr (1, [.int fw, .int fh, .ref wa, .int fc, .ref ra, .ref sa, .ref ta])), (wa, .inl (cZ, 25, .inl wf)), (ra, .inl (cI, 25, .inl rf)), (sa, .inl (cI, 25, .inl (upd sf k (nI (j + 1))))), (ta, .inl (cII, 25, .inr (.inr (.inr (.inr (fun i => if i < 25 then some (rr i) else none))))))] ++ mt_rw 25 rr (fun i => .inl (cI, 5, .inl ((va_up Ms k (upd (Ms k) j y)) i)))) := hD
    have hP9 := hP
    have hD9 := hD
    exact W.vret hx hb hr (fun t ht hW => ⟨⟨(upd sf k (nI (j + 1)), va_up Ms k (upd (Ms k) j y)), rfl, Or.inl ⟨hr1.elim (fun q => q.2) (fun q => absurd q.1 g1), rfl, rfl⟩, by rw [ht]; exact hP9, hD9⟩, hS.F ht⟩) hS.2.2 d_fl_addStep_32
