/-! the laid plan: both judges -/
theorem sm_pl {of lf ot al : Nat → Int32} {Ml : Nat → Nat → Int32} {m t : Nat} (hl : sm_L of Ml ot al) (hd : ld_I of lf) (hm : m < 6) (h0 : ¬ lf m = 0) (ht : t < 30) : rp_ ot al m t = jp_ lf Ml m t := by
  obtain ⟨L, hL, hLe, a1, a2⟩ := hd m hm
  have hL0 : 0 < L := Nat.pos_of_ne_zero (fun e => h0 (by rw [hLe, e]; exact nI_0))
  have hr := rp_min (of := ot) (k := m) (L := L) (fun u hu => (hl m u hm (by omega)).1.mp (a1 u hu)) (fun h => Decidable.byContradiction (fun q => a2 h ((hl m L hm h).1.mpr q))) (t + 1) (by omega)
  unfold rp_ jp_
  rw [hr, if_neg (by omega), hLe, nI_clamp (by omega), show min (t + 1) L - 1 = min t (L - 1) by omega]
  exact ((hl m (min t (L - 1)) hm (by omega)).2 (a1 _ (by omega))).symm
theorem sm_z {of lf ot al : Nat → Int32} {Ml : Nat → Nat → Int32} {m : Nat} (hl : sm_L of Ml ot al) (hd : ld_I of lf) (hm : m < 6) : lf m = 0 ↔ ot (30 * m) = 0 := by
  obtain ⟨L, hL, hLe, a1, a2⟩ := hd m hm
  have hb := (hl m 0 hm (by omega)).1
  rw [Nat.add_zero] at hb
  constructor
  · intro e
    have e2 : L = 0 := (nI_eq (b := 0) (by omega) (by omega)).mp (hLe.symm.trans (e.trans nI_0.symm))
    subst e2
    exact Decidable.byContradiction (fun q => a2 (by omega) (hb.mpr q))
  · intro e
    rcases Nat.eq_zero_or_pos L with q | q
    · rw [hLe, q]; exact nI_0
    · exact absurd e (hb.mp (a1 0 q))
theorem jl_iff {W H : Nat} {wf rk sc : Nat → Int32} {Ms : Nat → Nat → Int32} {q : Nat} {y : Int32} (hF : xv_F W H wf rk sc Ms) (hq : fx_fr (W * H) wf q) : jl_P (nI W) (nI H) wf sc Ms (nI q) y ↔ ∃ b, y = nI b ∧ fx_fr (W * H) wf b ∧ fx_adj W q b := by
  have hN := hF.1.2.2.2
  have hq25 : q < 25 := Nat.lt_of_lt_of_le hq.1 hN
  rw [jl_k hq25]
  constructor
  · rintro ⟨_, cnt, iz, h1, h2, h3, h4⟩
    obtain ⟨c2, d1, d2, d3⟩ := fx_steps hF.2.1 hq
    have e : c2 = cnt := (nI_eq (by omega) (by omega)).mp (d2.symm.trans h2)
    subst e
    obtain ⟨b, b1, b2⟩ := d3 iz h3
    have hn := (fx_nb_iff hN hF.2.1 hq).mp ⟨Nat.lt_of_lt_of_le b1.1 hN, c2, iz, h1, h2, h3, b2⟩
    exact ⟨b, h4.symm.trans b2, b1, hn.2⟩
  · rintro ⟨b, rfl, hb, ha⟩
    obtain ⟨_, cnt, i, h1, h2, h3, h4⟩ := (fx_nb_iff hN hF.2.1 hq).mpr ⟨hb, ha⟩
    refine ⟨⟨Int32.not_lt.mpr (nI_pos' (by omega)), ?_, hq.2⟩, cnt, i, h1, h2, h3, h4⟩
    rw [pk_mul]
    exact nI_ge hq.1 (by omega)
theorem js_fr {W H n m u : Nat} {wf rk sc s5 g5 lf : Nat → Int32} {Ms Ml : Nat → Nat → Int32} {sp : Nat} (hF : xv_F W H wf rk sc Ms) (hs : s5 m = nI sp ∧ fx_fr (W * H) wf sp) (h : ¬ js_P (nI W) (nI H) wf sc Ms s5 g5 lf Ml m u) : ∃ q, jp_ lf Ml m u = nI q ∧ fx_fr (W * H) wf q := by
  rcases Nat.eq_zero_or_pos u with e | e
  · subst e
    have h1 : jp_ lf Ml m 0 = s5 m := Decidable.byContradiction (fun q => h (Or.inr (Or.inl ⟨rfl, q⟩)))
    exact ⟨sp, h1.trans hs.1, hs.2⟩
  · have h1 : jl_P (nI W) (nI H) wf sc Ms (jp_ lf Ml m (u - 1)) (jp_ lf Ml m u) := Classical.byContradiction (fun q => h (Or.inr (Or.inr ⟨e, Or.inl q⟩)))
    obtain ⟨k, hk, hkf⟩ := xv_fr hF.1.2.2.2 h1.1
    rw [hk] at h1
    obtain ⟨b, b1, b2, _⟩ := (jl_iff hF hkf).mp h1
    exact ⟨b, b1, b2⟩
theorem sm_js {W0 H0 n : Nat} {wf rk sc s5 g5 aw ast agl of lf ot al : Nat → Int32} {Ms Ml : Nat → Nat → Int32} {sp : Nat → Nat} (hF : xv_F W0 H0 wf rk sc Ms) (hn : n ≤ 5) (hsp : ∀ i, i < n → s5 i = nI (sp i) ∧ fx_fr (W0 * H0) wf (sp i)) (h4 : ∀ k, k < 25 → (wf k = 0 ↔ aw k = 0)) (h5 : ∀ i, i < n → s5 i = ast i ∧ g5 i = agl i) (hl : sm_L of Ml ot al) (hd : ld_I of lf)
    (t : Nat) (ht : t < 30) (hu : ∀ u, u < t → jd_cl n (fun t m => js_P (nI W0) (nI H0) wf sc Ms s5 g5 lf Ml m t) (sh_P lf Ml) (ex_P lf Ml) u) (m : Nat) (hm : m < n) : js_P (nI W0) (nI H0) wf sc Ms s5 g5 lf Ml m t ↔ jw_P W0 H0 aw ast agl al ot m t := by
  have hN := hF.1.2.2.2
  have hz := sm_z hl hd (show m < 6 by omega)
  have hjf : ∀ x, jf_P W0 H0 aw x ↔ ∃ a, x = nI a ∧ fx_fr (W0 * H0) wf a := fun x => ⟨fun ⟨a, e, q⟩ => ⟨a, e, (sm_fr hN h4 a).mpr q⟩, fun ⟨a, e, q⟩ => ⟨a, e, (sm_fr hN h4 a).mp q⟩⟩
  by_cases h0 : lf m = 0
  · exact ⟨fun _ => Or.inl (hz.mp h0), fun _ => Or.inl h0⟩
  · have h0' : ¬ ot (30 * m) = 0 := fun q => h0 (hz.mpr q)
    have hp := sm_pl hl hd (show m < 6 by omega) h0 ht
    have es := (h5 m hm).1
    have eg := (h5 m hm).2
    unfold jw_P
    rw [hp, hjf]
    rcases Nat.eq_zero_or_pos t with e | e
    · subst e
      constructor
      · intro q
        rcases q with q | q | q
        · exact absurd q h0
        · exact Or.inr (Or.inr (Or.inl ⟨rfl, by rw [← es]; exact q.2⟩))
        · exact absurd q.1 (Nat.lt_irrefl 0)
      · intro q
        rcases q with q | q | q | q
        · exact absurd q h0'
        · exact Or.inr (Or.inl ⟨rfl, fun z => q ⟨sp m, z.trans (hsp m hm).1, (hsp m hm).2⟩⟩)
        · exact Or.inr (Or.inl ⟨rfl, by rw [es]; exact q.2⟩)
        · exact absurd q.1 (Nat.lt_irrefl 0)
    · obtain ⟨q, hq, hqf⟩ := js_fr (n := n) hF (hsp m hm) ((hu (t - 1) (by omega)).1 m hm)
      have hp1 := sm_pl hl hd (show m < 6 by omega) h0 (show t - 1 < 30 by omega)
      have hq25 : q < 25 := Nat.lt_of_lt_of_le hqf.1 hN
      rw [hp1, hq, nI_clamp (show q < 2 ^ 31 by omega)]
      have key : js_P (nI W0) (nI H0) wf sc Ms s5 g5 lf Ml m t ↔ (¬ ∃ b, jp_ lf Ml m t = nI b ∧ fx_fr (W0 * H0) wf b ∧ fx_adj W0 q b) ∨ (t = 29 ∧ ¬ jp_ lf Ml m t = g5 m) := by
        unfold js_P
        rw [hq, jl_iff hF hqf]
        constructor
        · intro z
          rcases z with z | z | z
          · exact absurd z h0
          · exact absurd z.1 (by omega)
          · exact z.2
        · intro z; exact Or.inr (Or.inr ⟨e, z⟩)
      rw [key, eg]
      by_cases hj : ∃ a, jp_ lf Ml m t = nI a ∧ fx_fr (W0 * H0) wf a
      · obtain ⟨a, ha, haf⟩ := hj
        have ha25 : a < 25 := Nat.lt_of_lt_of_le haf.1 hN
        have had := ft_ad ⟨hF.1.1, hF.1.2.1⟩ hq25 ha25
        rw [ha, nI_clamp (show a < 2 ^ 31 by omega)]
        have k1 : (∃ b, nI a = nI b ∧ fx_fr (W0 * H0) wf b ∧ fx_adj W0 q b) ↔ (a = q ∨ mv_bs W0 a q) := by
          constructor
          · rintro ⟨b, b1, b2, b3⟩
            have eb : a = b := (nI_eq (by omega) (by have := b2.1; omega)).mp b1
            subst eb
            exact had.mp b3
          · intro z; exact ⟨a, rfl, haf, had.mpr z⟩
        rw [k1]
        have k2 : nI a = nI q ↔ a = q := nI_eq (by omega) (by omega)
        rw [k2]
        constructor
        · intro z
          rcases z with z | z
          · exact Or.inr (Or.inr (Or.inr ⟨e, Or.inl ⟨fun y => z (Or.inl y), fun y => z (Or.inr y)⟩⟩))
          · exact Or.inr (Or.inr (Or.inr ⟨e, Or.inr z⟩))
        · intro z
          rcases z with z | z | z | z
          · exact absurd z h0'
          · exact absurd ⟨a, rfl, haf⟩ z
          · exact absurd z.1 (by omega)
          · exact z.2.elim (fun y => Or.inl (fun w => w.elim y.1 y.2)) Or.inr
      · constructor
        · intro _; exact Or.inr (Or.inl hj)
        · intro _; exact Or.inl (fun ⟨b, b1, b2, _⟩ => hj ⟨b, b1, b2⟩)
theorem sm_judge {W0 H0 n Wm Hm nm : Nat} {wf rk sc s5 g5 aw ast agl of lf ot al : Nat → Int32} {Ms Mg Mp Ml : Nat → Nat → Int32} {wo : Nat → Int64} {pen psu pnm pkn pfo x r r2 : Int32} (h : sm_E W0 H0 n wf s5 g5 Wm Hm nm aw ast agl) (hl : sm_L of Ml ot al) (hd : ld_I of lf) (hI : xv_I W0 H0 n wf rk sc Ms s5 g5 Mg wo Mp pen psu pnm pkn pfo lf)
    (hx : (r = -1 ∧ (x < 0 ∨ 3 < x)) ∨ ∃ s9 t9 l9 g9, jd_V n (fun t m => js_P (nI W0) (nI H0) wf sc Ms s5 g5 lf Ml m t) (sh_P lf Ml) (ex_P lf Ml) s9 t9 l9 g9 ∧ ((x = 0 ∧ r = s9) ∨ (x = 1 ∧ r = t9) ∨ (x = 2 ∧ r = l9) ∨ (x = 3 ∧ r = g9)))
    (hm : ∃ s9 t9 l9 g9, jd_V nm (fun t m => jw_P Wm Hm aw ast agl al ot m t) (rS ot al) (rE ot al) s9 t9 l9 g9 ∧ ((x = 0 ∧ r2 = s9) ∨ (x = 1 ∧ r2 = t9) ∨ (x = 2 ∧ r2 = l9) ∨ (x = 3 ∧ r2 = g9) ∨ ((¬ x = 0 ∧ ¬ x = 1 ∧ ¬ x = 2 ∧ ¬ x = 3) ∧ r2 = -1))) : r = r2 := by
  have hn := xv_In hI
  obtain ⟨hF, _, sp, gl, hC, _⟩ := hI
  obtain ⟨e1, e2, e3, h4, h5⟩ := h
  obtain ⟨s2, t2, l2, g2, k1, k2⟩ := hm
  rcases hx with ⟨h1, h2⟩ | ⟨s1, t1, l1, g1, h1, h2⟩
  · have hx : ¬ x = 0 ∧ ¬ x = 1 ∧ ¬ x = 2 ∧ ¬ x = 3 := by
      rcases h2 with h2 | h2
      · exact ⟨fun e => by rw [e] at h2; exact absurd h2 (by decide), fun e => by rw [e] at h2; exact absurd h2 (by decide), fun e => by rw [e] at h2; exact absurd h2 (by decide), fun e => by rw [e] at h2; exact absurd h2 (by decide)⟩
      · exact ⟨fun e => by rw [e] at h2; exact absurd h2 (by decide), fun e => by rw [e] at h2; exact absurd h2 (by decide), fun e => by rw [e] at h2; exact absurd h2 (by decide), fun e => by rw [e] at h2; exact absurd h2 (by decide)⟩
    rcases k2 with k2 | k2 | k2 | k2 | k2
    · exact absurd k2.1 hx.1
    · exact absurd k2.1 hx.2.1
    · exact absurd k2.1 hx.2.2.1
    · exact absurd k2.1 hx.2.2.2
    · rw [h1, k2.2]
  · have hV : jd_V n (fun t m => jw_P W0 H0 aw ast agl al ot m t) (rS ot al) (rE ot al) s1 t1 l1 g1 := by
      refine jd_cg (fun t ht hu m hm => sm_js hF hn hC.2 h4 h5 hl hd t ht hu m hm) (fun t ht hw a b ha hb => ?_) h1
      have pa := fun u (hu : u < 30) => sm_pl (t := u) hl hd (show a < 6 by omega) (fun q => hw a ha (Or.inl q)) hu
      have pb := fun u (hu : u < 30) => sm_pl (t := u) hl hd (show b < 6 by omega) (fun q => hw b hb (Or.inl q)) hu
      unfold sh_P rS ex_P rE
      rw [pa t ht, pb t ht, pa (t - 1) (by omega), pb (t - 1) (by omega)]
      exact ⟨Iff.rfl, fun _ => Iff.rfl⟩
    rw [e1, e2, e3] at k1
    obtain ⟨q1, q2, q3, q4⟩ := jd_Vu hV k1
    rcases h2 with h2 | h2 | h2 | h2 <;> rcases k2 with k2 | k2 | k2 | k2 | k2
    · rw [h2.2, k2.2, q1]
    · exact absurd (h2.1.symm.trans k2.1) (by decide)
    · exact absurd (h2.1.symm.trans k2.1) (by decide)
    · exact absurd (h2.1.symm.trans k2.1) (by decide)
    · exact absurd h2.1 k2.1.1
    · exact absurd (h2.1.symm.trans k2.1) (by decide)
    · rw [h2.2, k2.2, q2]
    · exact absurd (h2.1.symm.trans k2.1) (by decide)
    · exact absurd (h2.1.symm.trans k2.1) (by decide)
    · exact absurd h2.1 k2.1.2.1
    · exact absurd (h2.1.symm.trans k2.1) (by decide)
    · exact absurd (h2.1.symm.trans k2.1) (by decide)
    · rw [h2.2, k2.2, q3]
    · exact absurd (h2.1.symm.trans k2.1) (by decide)
    · exact absurd h2.1 k2.1.2.2.1
    · exact absurd (h2.1.symm.trans k2.1) (by decide)
    · exact absurd (h2.1.symm.trans k2.1) (by decide)
    · exact absurd (h2.1.symm.trans k2.1) (by decide)
    · rw [h2.2, k2.2, q4]
    · exact absurd h2.1 k2.1.2.2.2
