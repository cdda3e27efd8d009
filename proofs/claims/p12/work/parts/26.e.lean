/-! the reference's judge -/
theorem rp_r {of lf : Nat → Int32} {k tt z : Nat} {la : Int32} (h : rp_l of k (tt + 1) = z) (hla : la = if z = 0 then -1 else lf (30 * k + (z - 1))) : la = rp_ of lf k tt := by
  unfold rp_; rw [h]; exact hla
theorem rp_b {lf : Nat → Int32} {k z : Nat} {la : Int32} (e : la = lf (30 * k + z)) : la = if z + 1 = 0 then -1 else lf (30 * k + (z + 1 - 1)) := by
  rw [if_neg (show ¬ z + 1 = 0 by omega), Nat.add_sub_cancel]; exact e
def jf_P (W H : Nat) (wf : Nat → Int32) (x : Int32) : Prop := ∃ a, x = nI a ∧ fx_fr (W * H) wf a
def jw_P (W H : Nat) (wf sf gf lf of : Nat → Int32) (k t : Nat) : Prop := of (30 * k) = 0 ∨ ¬ jf_P W H wf (rp_ of lf k t) ∨ (t = 0 ∧ ¬ rp_ of lf k t = sf k) ∨ (0 < t ∧ ((¬ rp_ of lf k t = rp_ of lf k (t - 1) ∧ ¬ mv_bs W (rp_ of lf k t).toNatClampNeg (rp_ of lf k (t - 1)).toNatClampNeg) ∨ (t = 29 ∧ ¬ rp_ of lf k t = gf k)))
theorem jw_k {W H : Nat} {wf sf gf lf of : Nat → Int32} {k t a : Nat} (h0 : ¬ of (30 * k) = 0) (hp : rp_ of lf k t = nI a) (ha : fx_fr (W * H) wf a) : jw_P W H wf sf gf lf of k t ↔ (t = 0 ∧ ¬ nI a = sf k) ∨ (0 < t ∧ ((¬ nI a = rp_ of lf k (t - 1) ∧ ¬ mv_bs W (nI a).toNatClampNeg (rp_ of lf k (t - 1)).toNatClampNeg) ∨ (t = 29 ∧ ¬ nI a = gf k))) := by
  unfold jw_P
  rw [hp]
  have h1 : jf_P W H wf (nI a) := ⟨a, rfl, ha⟩
  exact ⟨fun q => (q.resolve_left h0).resolve_left (fun z => z h1), fun q => Or.inr (Or.inr q)⟩
theorem jw_s {W H : Nat} {wf sf gf lf of : Nat → Int32} {k t1 a b : Nat} (h0 : ¬ of (30 * k) = 0) (hp : rp_ of lf k (t1 + 1) = nI a) (ha : fx_fr (W * H) wf a) (hq : rp_ of lf k t1 = nI b) (hN : W * H ≤ 25) (hb : fx_fr (W * H) wf b) : jw_P W H wf sf gf lf of k (t1 + 1) ↔ (¬ nI a = nI b ∧ ¬ mv_bs W a b) ∨ (t1 + 1 = 29 ∧ ¬ nI a = gf k) := by
  rw [jw_k h0 hp ha, Nat.add_sub_cancel, hq, nI_clamp (by have := ha.1; omega), nI_clamp (by have := hb.1; omega)]
  exact ⟨fun q => q.elim (fun z => absurd z.1 (by omega)) (fun z => z.2), fun q => Or.inr ⟨by omega, q⟩⟩
theorem jw_fr {W H : Nat} {wf sf gf lf of : Nat → Int32} {k t : Nat} (h : ¬ jw_P W H wf sf gf lf of k t) : jf_P W H wf (rp_ of lf k t) := Classical.byContradiction (fun q => h (Or.inr (Or.inl q)))
def rS (of lf : Nat → Int32) (t a b : Nat) : Prop := rp_ of lf a t = rp_ of lf b t
def rE (of lf : Nat → Int32) (t a b : Nat) : Prop := rp_ of lf a t = rp_ of lf b (t - 1) ∧ rp_ of lf b t = rp_ of lf a (t - 1)
/-- the pairs looked at so far -/
def jq_P (n : Nat) (S : Nat → Nat → Prop) (a b : Nat) : Prop := (∀ c d, c < a → c < d → d < n → ¬ S c d) ∧ ∀ d, a < d → d < b → ¬ S a d
theorem jq_0 {n : Nat} {S : Nat → Nat → Prop} {b : Nat} (hb : b ≤ 1) : jq_P n S 0 b := ⟨fun c d h => absurd h (Nat.not_lt_zero _), fun d h1 h2 => absurd h2 (by omega)⟩
theorem jq_b {n : Nat} {S : Nat → Nat → Prop} {a b : Nat} (h : jq_P n S a b) (hn : ¬ S a b) : jq_P n S a (b + 1) := ⟨h.1, fun d h1 h2 => (Nat.lt_or_ge d b).elim (fun q => h.2 d h1 q) (fun q => by rw [show d = b from Nat.le_antisymm (Nat.le_of_lt_succ h2) q]; exact hn)⟩
theorem jq_a {n : Nat} {S : Nat → Nat → Prop} {a b : Nat} (h : jq_P n S a b) (hb : n ≤ b) : jq_P n S (a + 1) (a + 1 + 1) := by
  refine ⟨fun c d h1 h2 h3 => ?_, fun d h1 h2 => absurd h2 (by omega)⟩
  rcases Nat.lt_or_ge c a with q | q
  · exact h.1 c d q h2 h3
  · have e : c = a := by omega
    subst e
    exact h.2 d h2 (by omega)
theorem jq_n {n : Nat} {S : Nat → Nat → Prop} {a b : Nat} (h : jq_P n S a b) (ha : n ≤ a) : jd_no n S := fun c d h1 h2 => h.1 c d (by omega) h1 h2
/-! the loops' steps -/
theorem jg_s {n a b : Nat} {S : Nat → Nat → Prop} {I P Tp : Prop} (h : (I ∧ P ∧ jq_P n S a b) ∨ Tp) (hs : ¬ S a b) : (I ∧ P ∧ jq_P n S a (b + 1)) ∨ Tp := h.imp (fun q => ⟨q.1, q.2.1, jq_b q.2.2 hs⟩) id
theorem jg_a {n a b : Nat} {S : Nat → Nat → Prop} {I P Tp : Prop} (h : (I ∧ P ∧ jq_P n S a b) ∨ Tp) (hb : n ≤ b) : (I ∧ P ∧ jq_P n S (a + 1) (a + 1 + 1)) ∨ Tp := h.imp (fun q => ⟨q.1, q.2.1, jq_a q.2.2 hb⟩) id
theorem jg_0 {n : Nat} {S : Nat → Nat → Prop} {I P X Y Z : Prop} (h : (I ∧ P) ∨ (X ∧ Y)) (hY : Y → Z) : (I ∧ P ∧ jq_P n S 0 (0 + 1)) ∨ (X ∧ Z) := h.imp (fun q => ⟨q.1, q.2, jq_0 (Nat.le_refl _)⟩) (fun q => ⟨q.1, hY q.2⟩)
theorem jg_1 {n a b : Nat} {S S2 : Nat → Nat → Prop} {I P Tp : Prop} (h : (I ∧ P ∧ jq_P n S a b) ∨ Tp) (ha : n ≤ a) : (I ∧ (P ∧ jd_no n S) ∧ jq_P n S2 0 (0 + 1)) ∨ Tp := h.imp (fun q => ⟨q.1, ⟨q.2.1, jq_n q.2.2 ha⟩, jq_0 (Nat.le_refl _)⟩) id
theorem jg_w {n a b tt : Nat} {S : Nat → Nat → Prop} {P : Prop} {T : Int32 → Int32 → Int32 → Int32 → Prop} {v1 v2 v3 v4 s1 s2 s3 s4 k : Int32} (h : ((v1 = 0 ∧ v2 = -1 ∧ v3 = -1 ∧ v4 = -1) ∧ P ∧ jq_P n S a b) ∨ (¬ v1 = 0 ∧ T v1 v2 v3 v4)) (hwr : (¬ v1 = 0 ∧ s1 = v1 ∧ s2 = v2 ∧ s3 = v3 ∧ s4 = v4) ∨ (v1 = 0 ∧ s1 = k ∧ s2 = nI tt ∧ s3 = nI a ∧ s4 = nI b)) (hk : ¬ k = 0) (hT : P → jq_P n S a b → T k (nI tt) (nI a) (nI b)) :
    ((s1 = 0 ∧ s2 = -1 ∧ s3 = -1 ∧ s4 = -1) ∧ P ∧ jq_P n S a (b + 1)) ∨ (¬ s1 = 0 ∧ T s1 s2 s3 s4) := by
  rcases hwr with ⟨h0, e1, e2, e3, e4⟩ | ⟨h0, e1, e2, e3, e4⟩
  · rw [e1, e2, e3, e4]; exact Or.inr (h.resolve_left (fun q => h0 q.1.1))
  · have q := h.resolve_right (fun q => q.1 h0)
    rw [e1, e2, e3, e4]; exact Or.inr ⟨hk, hT q.2.1 q.2.2⟩
theorem jn_1 {ma tt : Nat} {W : Nat → Prop} {I X : Prop} {v1 v2 v3 v4 : Int32} (h : (I ∧ ∀ a, a < ma → ¬ W a) ∨ (X ∧ jd_1 ma W tt v1 v2 v3 v4)) (hn : ¬ W ma) : (I ∧ ∀ a, a < ma + 1 → ¬ W a) ∨ (X ∧ jd_1 (ma + 1) W tt v1 v2 v3 v4) := by
  rcases h with h | ⟨h0, m, h1, h⟩
  · exact Or.inl ⟨h.1, fun a ha => (Nat.lt_or_ge a ma).elim (fun q => h.2 a q) (fun q => by rw [show a = ma from Nat.le_antisymm (Nat.le_of_lt_succ ha) q]; exact hn)⟩
  · exact Or.inr ⟨h0, m, by omega, h⟩
theorem jn_2 {ma tt : Nat} {W : Nat → Prop} {v1 v2 v3 v4 s1 s2 s3 s4 : Int32} (h : ((v1 = 0 ∧ v2 = -1 ∧ v3 = -1 ∧ v4 = -1) ∧ ∀ a, a < ma → ¬ W a) ∨ (¬ v1 = 0 ∧ jd_1 ma W tt v1 v2 v3 v4)) (hw : W ma) (hwr : (¬ v1 = 0 ∧ s1 = v1 ∧ s2 = v2 ∧ s3 = v3 ∧ s4 = v4) ∨ (v1 = 0 ∧ s1 = 1 ∧ s2 = nI tt ∧ s3 = nI ma ∧ s4 = -1)) : ((s1 = 0 ∧ s2 = -1 ∧ s3 = -1 ∧ s4 = -1) ∧ ∀ a, a < ma + 1 → ¬ W a) ∨ (¬ s1 = 0 ∧ jd_1 (ma + 1) W tt s1 s2 s3 s4) := by
  rcases hwr with ⟨h0, e1, e2, e3, e4⟩ | ⟨h0, e1, e2, e3, e4⟩
  · obtain ⟨_, m, h1, h⟩ := h.resolve_left (fun q => h0 q.1.1)
    rw [e1, e2, e3, e4]; exact Or.inr ⟨h0, m, by omega, h⟩
  · have q := h.resolve_right (fun q => q.1 h0)
    exact Or.inr ⟨by rw [e1]; decide, ma, by omega, e1, e2, e3, e4, hw, q.2⟩

set_option maxHeartbeats 4000000 in
set_option maxRecDepth 100000 in
theorem c_md_place (l : Launch) (D : va_G) (cZ cI cJ cII : ClassId) (na : Nat) (nwalls : Nat) (nstarts : Nat) (ngoals : Nat) (nlaid : Nat) (nisTold : Nat) (ncells : Nat) (nindex : Nat) (nnear : Nat) (nnearCount : Nat) (npay : Nat) (ndone : Nat) (npile : Nat) (nnow : Nat) (nthen : Nat) (nchoice : Nat) (nplan : Nat) (ncosts : Nat) (npaid : Nat) (nafter : Nat) (nfar : Nat) (nmany : Nat) (nnext : Nat) (vfree : Int32) (vtop : Int32) (vfound : Int32) (vlength : Int32) (vsort : Int32) (vwhen : Int32) (vone : Int32) (vtwo : Int32) (W0 : Nat) (H0 : Nat) (n : Nat) (lf : Nat → Int32) (of : Nat → Int32) (k : Nat) (tt : Nat) (sz : Nat) (hk : k < 6) (htt : tt < 30) : Met l y_md_place w_md_place ({ frames := 0, cells := 0, slots := 0, locals := 0 }) (va_Pc [.ref na, .int (nI k), .int (nI tt)] (mt_B D [(cZ, .boolean), (cI, .int), (cJ, .long), (cII, .array .int)] [(na, .inr (7, [.int (nI W0), .int (nI H0), .ref nwalls, .int (nI n), .ref nstarts, .ref ngoals, .ref nlaid, .ref nisTold, .int vfree, .ref ncells, .ref nindex, .ref nnear, .ref nnearCount, .ref npay, .ref ndone, .ref npile, .int vtop, .ref nnow, .ref nthen, .ref nchoice, .int vfound, .int vlength, .ref nplan, .ref ncosts, .ref npaid, .ref nafter, .ref nfar, .ref nmany, .ref nnext, .int vsort, .int vwhen, .int vone, .int vtwo])), (nlaid, .inl (cI, 180, .inl lf)), (nisTold, .inl (cZ, 180, .inl of))] sz)) (vp_Si (fun r : Int32 => r = rp_ of lf k tt)) 0 0 (fun _ => False) := by
  refine mt_ofR (by decide) (Nat.le_of_ble_eq_true rfl) ?_
  intro p e s m below meth c ls hx hb hr hlk hml hown hg hl hX hP hK hD
  have hown : s.vm.findClass R_md = some m.cls := hown
  obtain ⟨H, hH⟩ : ∃ H : Heap, H = s.heap := ⟨_, rfl⟩
  rw [← hH] at hP ⊢
  have hl : lv_has ls 5 [(0, .ref na), (1, .int (nI k)), (2, .int (nI tt))] := hl
  refine lv_iconst (v := (-1)) hx hb d_md_place_0 (by decide) ?_
  refine lv_istore_n hx hb d_md_place_1 rfl hl (by decide) rfl (fun ls hl => ?_)
  have hl : lv_has ls 5 [(3, .int (-1)), (0, .ref na), (1, .int (nI k)), (2, .int (nI tt))] := hl
  refine lv_iconst (v := 0) hx hb d_md_place_2 (by decide) ?_
  refine lv_istore hx hb d_md_place_3 hl (by decide) rfl (fun ls hl => ?_)
  have hl : lv_has ls 5 [(4, .int 0), (3, .int (-1)), (0, .ref na), (1, .int (nI k)), (2, .int (nI tt))] := hl
  have hl := lv_sub hl [0, 1, 2, 3, 4] (l' := [(4, .int (nI 0)), (3, .int (-1)), (0, .ref na), (1, .int (nI k)), (2, .int (nI tt))]) rfl
  refine mt_loop (ι := Nat × Int32) (I := fun ix ls H locs => ((ix.1) ≤ tt + 1) ∧ (rp_l of k (ix.1) = (ix.1)) ∧ ((ix.2) = if (ix.1) = 0 then -1 else lf (30 * k + ((ix.1) - 1))) ∧ lv_has ls 5 [(4, .int (nI (ix.1))), (3, .int (ix.2)), (0, .ref na), (1, .int (nI k)), (2, .int (nI tt))] ∧ va_P D kls [(na, .inr (7, [.int (nI W0), .int (nI H0), .ref nwalls, .int (nI n), .ref nstarts, .ref ngoals, .ref nlaid, .ref nisTold, .int vfree, .ref ncells, .ref nindex, .ref nnear, .ref nnearCount, .ref npay, .ref ndone, .ref npile, .int vtop, .ref nnow, .ref nthen, .ref nchoice, .int vfound, .int vlength, .ref nplan, .ref ncosts, .ref npaid, .ref nafter, .ref nfar, .ref nmany, .ref nnext, .int vsort, .int vwhen, .int vone, .int vtwo])), (nlaid, .inl (cI, 180, .inl lf)), (nisTold, .inl (cZ, 180, .inl of))] H ∧ H = s.heap ∧ locs = []) (μ := fun ix => tt + 1 - (ix.1)) ?_ (0, (-1)) ls H _ ⟨Nat.zero_le _, rfl, rfl, hl, hP, hH, rfl⟩
  clear hl hP
  intro i_a ls H locs ⟨hz, hrl, hla, hl, hP, hH, hlc⟩ ih_a
  obtain ⟨z, la⟩ := i_a
  subst hlc
  have hz : z ≤ tt + 1 := hz
  have hrl : rp_l of k z = z := hrl
  have hla : la = if z = 0 then -1 else lf (30 * k + (z - 1)) := hla
  have hl : lv_has ls 5 [(4, .int (nI z)), (3, .int la), (0, .ref na), (1, .int (nI k)), (2, .int (nI tt))] := hl
  have hP : va_P D kls [(na, .inr (7, [.int (nI W0), .int (nI H0), .ref nwalls, .int (nI n), .ref nstarts, .ref ngoals, .ref nlaid, .ref nisTold, .int vfree, .ref ncells, .ref nindex, .ref nnear, .ref nnearCount, .ref npay, .ref ndone, .ref npile, .int vtop, .ref nnow, .ref nthen, .ref nchoice, .int vfound, .int vlength, .ref nplan, .ref ncosts, .ref npaid, .ref nafter, .ref nfar, .ref nmany, .ref nnext, .int vsort, .int vwhen, .int vone, .int vtwo])), (nlaid, .inl (cI, 180, .inl lf)), (nisTold, .inl (cZ, 180, .inl of))] H := hP
  refine lv_iload hx hb d_md_place_5 (lv_at hl 0 rfl) ?_
  refine lv_iload_n hx hb d_md_place_7 rfl (lv_at hl 4 rfl) ?_
  refine lv_icmp_gt hx hb d_md_place_8 rfl (fun g1 => ?_) (fun g1 => ?_)
  ·
    have g2 : tt < z := by rcases Nat.lt_or_ge tt z with h | h; exact h; exact absurd g1 (nI_nlt h (by omega))
    have g2e : z = tt + 1 := by omega
    refine lv_iload_n hx hb d_md_place_47 rfl (lv_at hl 1 rfl) ?_
    exact W.iret hx hb hr (fun t ht _ => ⟨la, rfl, rp_r (by rw [← g2e]; exact hrl) hla, ht.trans hH⟩) (fun _ h => absurd h List.not_mem_nil) d_md_place_48
  ·
    have g2 : z ≤ tt := by rcases Nat.lt_or_ge tt z with h | h; exact absurd (nI_lt h (by omega)) g1; exact h
    refine lv_aload_n hx hb d_md_place_11 rfl (lv_at hl 2 rfl) ?_
    refine gf_md_30 hx hb hg hown hK hP 0 rfl rfl d_md_place_12 ?_
    refine lv_bipush (v := 30) hx hb d_md_place_15 (by decide) ?_
    refine lv_iload_n hx hb d_md_place_17 rfl (lv_at hl 3 rfl) ?_
    refine lv_imul hx hb d_md_place_18 ?_
    refine lv_iload hx hb d_md_place_19 (lv_at hl 0 rfl) ?_
    refine lv_iadd hx hb d_md_place_21 ?_
    refine lv_topi (fun y1 ey1 => ?_)
    have ey1 : y1 = nI (30 * k + z) := ey1.trans (by rw [show (30 : Int32) = nI 30 from rfl, pk_mul, nI_add])
    subst ey1
    refine va_zald hx hb hK hP 2 0 rfl rfl (vp_in_nI (show 30 * k + z < 180 by omega) (by decide)) d_md_place_22 ?_
    refine lv_topi (fun y2 ey2 => ?_)
    have ey2 : y2 = of (30 * k + z) := ey2.trans (by rw [nI_clamp (show 30 * k + z < 2 ^ 31 by omega)])
    subst ey2
    refine lv_if_ne hx hb d_md_place_23 rfl (fun g3 => ?_) (fun g3 => ?_)
    ·
      refine lv_aload_n hx hb d_md_place_28 rfl (lv_at hl 2 rfl) ?_
      refine gf_md_27 hx hb hg hown hK hP 0 rfl rfl d_md_place_29 ?_
      refine lv_bipush (v := 30) hx hb d_md_place_32 (by decide) ?_
      refine lv_iload_n hx hb d_md_place_34 rfl (lv_at hl 3 rfl) ?_
      refine lv_imul hx hb d_md_place_35 ?_
      refine lv_iload hx hb d_md_place_36 (lv_at hl 0 rfl) ?_
      refine lv_iadd hx hb d_md_place_38 ?_
      refine lv_topi (fun y3 ey3 => ?_)
      have ey3 : y3 = nI (30 * k + z) := ey3.trans (by rw [show (30 : Int32) = nI 30 from rfl, pk_mul, nI_add])
      subst ey3
      refine va_iald hx hb hK hP 1 1 rfl rfl (vp_in_nI (show 30 * k + z < 180 by omega) (by decide)) d_md_place_39 ?_
      refine lv_topi (fun y4 ey4 => ?_)
      have ey4 : y4 = lf (30 * k + z) := ey4.trans (by rw [nI_clamp (show 30 * k + z < 2 ^ 31 by omega)])
      subst ey4
      refine lv_topi (fun x5 ex5 => ?_)
      refine lv_istore_n hx hb d_md_place_40 rfl hl (by decide) rfl (fun ls hl => ?_)
      have hl : lv_has ls 5 [(3, .int x5), (4, .int (nI z)), (0, .ref na), (1, .int (nI k)), (2, .int (nI tt))] := hl
      refine lv_iinc (k := 1) (v := nI (z + 1)) hx hb d_md_place_41 hl rfl ((nI_succ z).symm) (by decide) rfl (fun ls hl => ?_)
      have hl : lv_has ls 5 [(4, .int (nI (z + 1))), (3, .int x5), (0, .ref na), (1, .int (nI k)), (2, .int (nI tt))] := hl
      refine lv_goto hx hb d_md_place_44 rfl ?_
      have hl := lv_sub hl [0, 1, 2, 3, 4] (l' := [(4, .int (nI (z + 1))), (3, .int x5), (0, .ref na), (1, .int (nI k)), (2, .int (nI tt))]) rfl
      exact ih_a (z + 1, x5) ls H _ (by show tt + 1 - (z + 1) < tt + 1 - z; omega) ⟨by show z + 1 ≤ tt + 1; omega, rp_lp ⟨hrl, g3⟩, rp_b (by assumption), hl, hP, hH, rfl⟩
    ·
      refine lv_iload_n hx hb d_md_place_26 rfl (lv_at hl 1 rfl) ?_
      exact W.iret hx hb hr (fun t ht _ => ⟨la, rfl, rp_r (by have q := rp_st hrl g3 (tt - z); rw [show z + 1 + (tt - z) = tt + 1 by omega] at q; exact q) hla, ht.trans hH⟩) (fun _ h => absurd h List.not_mem_nil) d_md_place_27
