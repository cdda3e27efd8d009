/-! solve: both answers -/
theorem xv_ds {W0 H0 n k : Nat} {wf rk sc s5 g5 : Nat → Int32} {Ms Mg : Nat → Nat → Int32} {sp gl : Nat → Nat} (hF : xv_F W0 H0 wf rk sc Ms) (hC : xv_C W0 H0 n wf rk sc s5 g5 Ms Mg sp gl) (hk : k < n) : ds_P W0 (W0 * H0) n wf s5 g5 (nI k) (Mg k (sp k)) :=
  Or.inr ⟨k, sp k, gl k, Mg k, hk, rfl, (hC.2 k hk).1, (hC.1.2.2.2.2.2 k hk).1, (hC.2 k hk).2, (hC.1.2.2.2.2.2 k hk).2.1, wy_cv (fun c b h => fx_nb_iff hF.1.2.2.2 hF.2.1 h) (hC.1.2.2.2.2.2 k hk).2.2, rfl⟩
theorem so_n0 {sc : Nat → Int32} {Ms Mg : Nat → Nat → Int32} {gl sp : Nat → Nat} : px_C0 0 sc Ms Mg gl sp 0 := ⟨0, by decide, fun i hi => absurd hi (Nat.not_lt_zero _), Nat.le_refl _, Or.inl rfl⟩
theorem so_leb {F n N W : Nat} {wf rk sc g5 : Nat → Int32} {Ms Mg : Nat → Nat → Int32} {gl sp : Nat → Nat} (hA : ∀ i, i < n → px_A n N wf Mg i (sp i)) : px_le n Mg sp ≤ 24 * n := by
  have key : ∀ m, m ≤ n → sx_sum (fun i => px_wl Mg i (sp i)) m ≤ 24 * m := by
    intro m
    induction m with
    | zero => intro _; exact Nat.le_refl _
    | succ m ih =>
      intro hm
      obtain ⟨_, _, k, k1, k2⟩ := hA m (by omega)
      have e : px_wl Mg m (sp m) = k := px_wlE k1 k2
      show sx_sum (fun i => px_wl Mg i (sp i)) m + px_wl Mg m (sp m) ≤ 24 * (m + 1)
      have := ih (by omega)
      omega
  exact key n (Nat.le_refl _)
theorem sm_solve {W0 H0 n Wm Hm nm : Nat} {wf rk sc s5 g5 aw ast agl : Nat → Int32} {Ms Mg : Nat → Nat → Int32} {x r r2 : Int32} (h : sm_E W0 H0 n wf s5 g5 Wm Hm nm aw ast agl) (hF : xv_F W0 H0 wf rk sc Ms) (hn : n ≤ 5)
    (hx : (r = -1 ∧ (x < 0 ∨ 6 < x)) ∨ ∃ mr sp gl, mr ≤ 6 ∧ x = nI mr ∧ xv_C W0 H0 n wf rk sc s5 g5 Ms Mg sp gl ∧ ((r = -1 ∧ ((∃ a, a < n ∧ Mg a (sp a) = -1) ∨ ((∀ i, i < n → px_A n (W0 * H0) wf Mg i (sp i)) ∧ ∀ k, k ≤ mr → ¬ px_C0 n sc Ms Mg gl sp k))) ∨ ((∀ i, i < n → px_A n (W0 * H0) wf Mg i (sp i)) ∧ ∃ k, k ≤ mr ∧ r = nI (px_le n Mg sp + k) ∧ px_C0 n sc Ms Mg gl sp k ∧ ∀ k9, k9 < k → ¬ px_C0 n sc Ms Mg gl sp k9)))
    (hm : sl_P Wm (Wm * Hm) nm aw ast agl x r2) : r = r2 := by
  have hrng : ∀ mr, mr ≤ 6 → x = nI mr → ¬ (x < 0 ∨ 6 < x) := by
    rintro mr hmr rfl (q | q)
    · exact absurd q (Int32.not_lt.mpr (nI_pos' (by omega)))
    · exact absurd (show nI 6 < nI mr from q) (nI_nlt hmr (by decide))
  have h' := h
  obtain ⟨rfl, rfl, rfl, h4, h5⟩ := h
  have hN := hF.1.2.2.2
  rcases hx with ⟨a1, a2⟩ | ⟨mr, sp, gl, hmr, ex, hC, hx⟩ <;> rcases hm with ⟨b1, b2⟩ | ⟨mr2, hmr2, ex2, hm⟩
  · rw [a1, b1]
  · exact absurd a2 (hrng mr2 hmr2 ex2)
  · exact absurd b2 (hrng mr hmr ex)
  · have em : mr = mr2 := (nI_eq (by omega) (by omega)).mp (ex.symm.trans ex2)
    subst em
    have hds : ∀ i v, i < nm → ds_P Wm (Wm * Hm) nm aw ast agl (nI i) v → Mg i (sp i) = v := fun i v hi hv => sm_dist h' hN hn (xv_ds hF hC hi) hv
    have hnn : ∀ {k : Nat}, k ≤ 25 → ¬ nI k = -1 := fun hk => mt_nmk (by omega)
    have hA1 : (∀ i, i < nm → px_A nm (Wm * Hm) wf Mg i (sp i)) → ∀ i, i < nm → ¬ Mg i (sp i) = -1 := fun hA i hi e => by
      obtain ⟨_, _, k, k1, k2⟩ := hA i hi
      exact hnn (show k ≤ 25 by omega) (k2.symm.trans e)
    rcases hm with ⟨b1, i, hi, b2⟩ | ⟨b1, b2⟩ | ⟨b0, spm, glm, dv, b1, b2, b3, ce, Pay, c1, c2, c3, c4, c5⟩
    · rcases hx with ⟨a1, _⟩ | ⟨hA, _⟩
      · rw [a1, b1]
      · exact absurd (hds i _ hi b2) (hA1 hA i hi)
    · subst b1
      rcases hx with ⟨_, ⟨a, ha, _⟩ | ⟨_, a2⟩⟩ | ⟨_, k, _, a1, _, a3⟩
      · exact absurd ha (Nat.not_lt_zero _)
      · exact absurd so_n0 (a2 0 (Nat.zero_le _))
      · have ek : k = 0 := by
          rcases Nat.eq_zero_or_pos k with q | q
          · exact q
          · exact absurd so_n0 (a3 0 q)
        subst ek
        rw [a1, b2]; rfl
    · have hdv : ∀ i, i < nm → Mg i (sp i) = nI (dv i) ∧ dv i ≤ 25 := fun i hi => ⟨hds i _ hi (b3 i hi).2, (b3 i hi).1⟩
      have hcn : ∀ c, c ≤ 25 → fx_cnt aw c = fx_cnt wf c := fun c hc => (sm_cnt c (fun k hk => h4 k (by omega))).symm
      have hfN := hcn (Wm * Hm) hN
      have esp : ∀ i, i < nm → spm i = sp i ∧ sp i < 25 := fun i hi => by
        have q1 := (hC.2 i hi).2.1
        have q2 := (b1 i hi).2.1.1
        exact ⟨(nI_eq (by omega) (by omega)).mp ((b1 i hi).1.symm.trans ((h5 i hi).1.symm.trans (hC.2 i hi).1)), by omega⟩
      have egl : ∀ i, i < nm → glm i = gl i ∧ gl i < 25 := fun i hi => by
        have q1 := (hC.1.2.2.2.2.2 i hi).2.1.1
        have q2 := (b1 i hi).2.2.2.1
        exact ⟨(nI_eq (by omega) (by omega)).mp ((b1 i hi).2.2.1.symm.trans ((h5 i hi).2.symm.trans (hC.1.2.2.2.2.2 i hi).1)), by omega⟩
      have eG : so_E nm (fx_cnt aw) glm = so_E nm (fx_cnt wf) gl := funext (fun i => by
        rcases Nat.lt_or_ge i nm with g | g
        · rw [so_Ei g, so_Ei g, (egl i g).1, hcn _ (by have := (egl i g).2; omega)]
        · show (if i < nm then fx_cnt aw (glm i) else 0) = (if i < nm then fx_cnt wf (gl i) else 0); rw [if_neg (by omega), if_neg (by omega)])
      have eS : so_E nm (fx_cnt aw) spm = so_E nm (fx_cnt wf) (px_P0 nm sp 0) := funext (fun i => by
        rcases Nat.lt_or_ge i nm with g | g
        · rw [so_Ei g, so_Ei g, so_P0 g, (esp i g).1, hcn _ (by have := (esp i g).2; omega)]
        · show (if i < nm then fx_cnt aw (spm i) else 0) = (if i < nm then fx_cnt wf (px_P0 nm sp 0 i) else 0); rw [if_neg (by omega), if_neg (by omega)])
      rw [hfN] at c1 c2 c3
      rw [eG] at c2 c4
      rw [eS] at c5
      have hce : ∀ k, k < fx_cnt wf (Wm * Hm) → ce k < Wm * Hm ∧ wf (ce k) = 0 ∧ fx_cnt wf (ce k) = k := fun k hk => by
        have q := c1 k hk
        exact ⟨q.1, (h4 _ (by omega)).mpr q.2.1, (hcn _ (by omega)).symm.trans q.2.2⟩
      have hW : 1 ≤ Wm ∧ Wm ≤ 6 := ⟨hF.1.1, hF.1.2.1⟩
      have hds2 : ∀ i j, i < j → j < nm → sp i ≠ sp j := fun i j hi hj => by rw [← (esp i (by omega)).1, ← (esp j hj).1]; exact b2 i j hi hj
      have hlee : sx_sum dv nm = px_le nm Mg sp := sx_sum_c (fun i hi => by
        show dv i = px_wl Mg i (sp i)
        unfold px_wl
        rw [(hdv i hi).1, nI_clamp (by have := (hdv i hi).2; omega)])
      rw [hlee] at c3 c5
      rcases hx with ⟨a1, ⟨a, ha, a2⟩ | ⟨hA, a2⟩⟩ | ⟨hA, k, a1, a2, a3, a4⟩
      · exact absurd ((hdv a ha).1.symm.trans a2) (hnn (hdv a ha).2)
      · rcases c5 with ⟨d1, d2⟩ | ⟨d1, d2⟩
        · have hb := so_leb (F := 0) (W := 0) (rk := rk) (sc := sc) (g5 := g5) (Ms := Ms) (gl := gl) hA
          have g := so_2 hC.1 hW hce hA c2 (show Pay (so_E nm (fx_cnt wf) (px_P0 nm sp 0)) 0 < 200 by omega) (by omega) rfl
          exact absurd g.2 (a2 _ (by omega))
        · rw [a1, d2]
      · have hb := so_leb (F := 0) (W := 0) (rk := rk) (sc := sc) (g5 := g5) (Ms := Ms) (gl := gl) hA
        have g1 := so_1 hC.1 hW hce hA hds2 c4 c3 (show px_le nm Mg sp + k ≤ mr + px_le nm Mg sp by omega) a3
        rcases c5 with ⟨d1, d2⟩ | ⟨d1, d2⟩
        · have g := so_2 hC.1 hW hce hA c2 (show Pay (so_E nm (fx_cnt wf) (px_P0 nm sp 0)) 0 < 200 by omega) (by omega) rfl
          have hk : k ≤ Pay (so_E nm (fx_cnt wf) (px_P0 nm sp 0)) 0 - px_le nm Mg sp := by
            rcases Nat.lt_or_ge (Pay (so_E nm (fx_cnt wf) (px_P0 nm sp 0)) 0 - px_le nm Mg sp) k with q | q
            · exact absurd g.2 (a4 _ q)
            · exact q
          rw [a2, d2]
          exact congrArg nI (by have := g.1; omega)
        · exact absurd d1 (by omega)
