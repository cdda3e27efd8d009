/-! the planner's search over the floor and the crew -/
def px_C (F n N W0 : Nat) (wf rk sc g5 : Nat → Int32) (Ms Mg : Nat → Nat → Int32) (gl : Nat → Nat) : Prop :=
  n ≤ 5 ∧ N ≤ 25 ∧ F ^ n ≤ 16000 ∧ F = fx_cnt wf N ∧ fx_Ok W0 N wf rk sc Ms N ∧ ∀ m, m < n → g5 m = nI (gl m) ∧ fx_fr N wf (gl m) ∧ wy_Ok (fx_fr N wf) (fx_nb sc Ms) (gl m) (Mg m)
def px_A (n N : Nat) (wf : Nat → Int32) (Mg : Nat → Nat → Int32) (m c : Nat) : Prop := m < n ∧ fx_fr N wf c ∧ ∃ k, k ≤ 24 ∧ Mg m c = nI k
def px_wl (Mg : Nat → Nat → Int32) (m c : Nat) : Nat := (Mg m c).toNatClampNeg
def px_lf (gl : Nat → Nat) (Mg : Nat → Nat → Int32) (m c : Nat) : Nat := if c = gl m then 2 else px_wl Mg m c
def px_nr (Mg : Nat → Nat → Int32) (m c : Nat) : Prop := px_wl Mg m c = 1
section PX
variable {F n N W0 : Nat} {wf rk sc g5 : Nat → Int32} {Ms Mg : Nat → Nat → Int32} {gl : Nat → Nat}
theorem px_F (h : px_C F n N W0 wf rk sc g5 Ms Mg gl) : F ≤ 25 := by have := fx_cnt_le wf N; have := h.2.1; have := h.2.2.2.1; omega
theorem px_wlE {m c k : Nat} (hk : k ≤ 24) (h : Mg m c = nI k) : px_wl Mg m c = k := by unfold px_wl; rw [h, nI_clamp (by omega)]
theorem px_A25 (h : px_C F n N W0 wf rk sc g5 Ms Mg gl) {m c : Nat} (hA : px_A n N wf Mg m c) : c < 25 := by have := hA.2.1.1; have := h.2.1; omega
theorem px_nbs (h : px_C F n N W0 wf rk sc g5 Ms Mg gl) {c b : Nat} (hc : fx_fr N wf c) (hn : fx_nb sc Ms c b) : fx_fr N wf b ∧ fx_nb sc Ms b c := by
  have g := (fx_nb_iff h.2.1 h.2.2.2.2.1 hc).mp hn
  exact ⟨g.1, (fx_nb_iff h.2.1 h.2.2.2.2.1 g.1).mpr ⟨hc, fx_adj_s g.2⟩⟩
theorem px_step (h : px_C F n N W0 wf rk sc g5 Ms Mg gl) (m c b : Nat) (hA : px_A n N wf Mg m c) (hn : fx_nb sc Ms c b) : px_A n N wf Mg m b ∧ px_wl Mg m c ≤ px_wl Mg m b + 1 := by
  obtain ⟨hm, hc, k, hk, hM⟩ := hA
  have hw := (h.2.2.2.2.2 m hm).2.2
  have g := px_nbs h hc hn
  have hcN := hc.1
  have hbN := g.1.1
  have hN := h.2.1
  obtain ⟨k1, q1, q2, q3⟩ := hw.2.2.2.1 c k b (by omega) hk hM hn
  obtain ⟨k2, q4, q5, q6⟩ := hw.2.2.2.1 b k1 c (by omega) q2 q3 g.2
  have e : k2 = k := (nI_eq (by omega) (by omega)).mp (q6.symm.trans hM)
  refine ⟨⟨hm, g.1, k1, q2, q3⟩, ?_⟩
  rw [px_wlE hk hM, px_wlE q2 q3]; omega
theorem px_wl0 (h : px_C F n N W0 wf rk sc g5 Ms Mg gl) {m : Nat} (hm : m < n) : px_wl Mg m (gl m) = 0 := px_wlE (by omega) (h.2.2.2.2.2 m hm).2.2.1
theorem px_wlg (h : px_C F n N W0 wf rk sc g5 Ms Mg gl) {m c : Nat} (hA : px_A n N wf Mg m c) (h0 : px_wl Mg m c = 0) : c = gl m := by
  obtain ⟨k, hk, hM⟩ := hA.2.2
  rw [px_wlE hk hM] at h0
  subst h0
  exact (h.2.2.2.2.2 m hA.1).2.2.2.2.1 c (px_A25 h hA) hM
theorem px_hA (h : px_C F n N W0 wf rk sc g5 Ms Mg gl) (m c b : Nat) (hA : px_A n N wf Mg m c) (hn : fx_nb sc Ms c b) : px_A n N wf Mg m b ∧ px_lf gl Mg m c ≤ px_lf gl Mg m b + 1 := by
  have g := px_step h m c b hA hn
  refine ⟨g.1, ?_⟩
  have hb0 : b ≠ gl m → 1 ≤ px_wl Mg m b := fun e => by
    rcases Nat.eq_zero_or_pos (px_wl Mg m b) with h0 | h0
    · exact absurd (px_wlg h g.1 h0) e
    · exact h0
  unfold px_lf
  by_cases e1 : c = gl m
  · by_cases e2 : b = gl m
    · rw [if_pos e1, if_pos e2]; omega
    · rw [if_pos e1, if_neg e2]; have := hb0 e2; omega
  · by_cases e2 : b = gl m
    · rw [if_neg e1, if_pos e2]
      have h0 := px_wl0 h hA.1
      have g2 := g.2
      rw [e2, h0] at g2
      omega
    · rw [if_neg e1, if_neg e2]; exact g.2
theorem px_hp (h : px_C F n N W0 wf rk sc g5 Ms Mg gl) (m c : Nat) (hA : px_A n N wf Mg m c) : 1 ≤ px_lf gl Mg m c := by
  unfold px_lf
  by_cases e : c = gl m
  · rw [if_pos e]; omega
  · rw [if_neg e]
    rcases Nat.eq_zero_or_pos (px_wl Mg m c) with h0 | h0
    · exact absurd (px_wlg h hA h0) e
    · exact h0
theorem px_Ag (h : px_C F n N W0 wf rk sc g5 Ms Mg gl) {m : Nat} (hm : m < n) : px_A n N wf Mg m (gl m) := ⟨hm, (h.2.2.2.2.2 m hm).2.1, 0, by omega, (h.2.2.2.2.2 m hm).2.2.1⟩
theorem px_hr (h : px_C F n N W0 wf rk sc g5 Ms Mg gl) (m c : Nat) (hA : px_A n N wf Mg m c) (hn : px_nr Mg m c) : px_lf gl Mg m c = 1 ∧ px_A n N wf Mg m (gl m) ∧ fx_nb sc Ms c (gl m) := by
  have hn : px_wl Mg m c = 1 := hn
  have hne : c ≠ gl m := fun e => by rw [e, px_wl0 h hA.1] at hn; omega
  refine ⟨by unfold px_lf; rw [if_neg hne]; exact hn, px_Ag h hA.1, ?_⟩
  obtain ⟨k, hk, hM⟩ := hA.2.2
  have ek := px_wlE hk hM
  have : k = 1 := by omega
  subst this
  obtain ⟨b, hb, hnb, hb0⟩ := (h.2.2.2.2.2 m hA.1).2.2.2.2.2.2 c 0 (px_A25 h hA) (by omega) hM
  have e := (h.2.2.2.2.2 m hA.1).2.2.2.2.1 b hb hb0
  subst e
  exact (px_nbs h (px_Ag h hA.1).2.1 hnb).2
theorem px_hs (h : px_C F n N W0 wf rk sc g5 Ms Mg gl) (m c : Nat) (hA : px_A n N wf Mg m c) : fx_nb sc Ms c c := (fx_nb_iff h.2.1 h.2.2.2.2.1 hA.2.1).mpr ⟨hA.2.1, Or.inl rfl⟩
theorem px_lfle (h : px_C F n N W0 wf rk sc g5 Ms Mg gl) {m c : Nat} (hA : px_A n N wf Mg m c) : px_lf gl Mg m c ≤ 24 := by
  unfold px_lf
  by_cases e : c = gl m
  · rw [if_pos e]; omega
  · rw [if_neg e]
    obtain ⟨k, hk, hM⟩ := hA.2.2
    rw [px_wlE hk hM]; exact hk
/-- a state of the search -/
def px_V (n N : Nat) (wf : Nat → Int32) (Mg : Nat → Nat → Int32) (gl : Nat → Nat) (S : Nat) (p : Nat → Nat) : Prop := S < 2 ^ n ∧ (∀ i, n ≤ i → p i = 0) ∧ ∀ i, i < n → px_A n N wf Mg i (p i) ∧ (S.testBit i = true → p i = gl i)
def px_dig (F : Nat) (rk : Nat → Int32) (S : Nat) (p : Nat → Nat) (i : Nat) : Nat := if S.testBit i = true then F else (rk (p i)).toNatClampNeg
theorem px_rk (h : px_C F n N W0 wf rk sc g5 Ms Mg gl) {c : Nat} (hc : fx_fr N wf c) : rk c = nI (fx_cnt wf c) ∧ fx_cnt wf c < F := ⟨(h.2.2.2.2.1 c hc.1).1, by rw [h.2.2.2.1]; exact fx_cnt_lt hc.1 hc.2⟩
theorem px_dlt (h : px_C F n N W0 wf rk sc g5 Ms Mg gl) {S : Nat} {p : Nat → Nat} (hV : px_V n N wf Mg gl S p) (i : Nat) (hi : i < n) : px_dig F rk S p i < F + 1 := by
  unfold px_dig
  by_cases e : S.testBit i = true
  · rw [if_pos e]; omega
  · rw [if_neg e]
    have g := px_rk h (hV.2.2 i hi).1.2.1
    have := px_F h
    rw [g.1, nI_clamp (by omega)]; omega
theorem px_stlt (h : px_C F n N W0 wf rk sc g5 Ms Mg gl) {S : Nat} {p : Nat → Nat} (hV : px_V n N wf Mg gl S p) : sx_st (F + 1) (px_dig F rk S p) n < 20736 := Nat.lt_of_lt_of_le (sx_st_lt n (px_dlt h hV)) (sx_room F (by have := px_F h; omega) n (by have := h.1; omega) h.2.2.1)
theorem px_stinj (h : px_C F n N W0 wf rk sc g5 Ms Mg gl) {S S' : Nat} {p p' : Nat → Nat} (hV : px_V n N wf Mg gl S p) (hV' : px_V n N wf Mg gl S' p') (he : sx_st (F + 1) (px_dig F rk S p) n = sx_st (F + 1) (px_dig F rk S' p') n) : S = S' ∧ p = p' := by
  have hd := sx_st_inj n (px_dlt h hV) (px_dlt h hV') he
  have hF := px_F h
  have key : ∀ i, i < n → S.testBit i = S'.testBit i ∧ p i = p' i := by
    intro i hi
    have e := hd i hi
    have g := px_rk h (hV.2.2 i hi).1.2.1
    have g' := px_rk h (hV'.2.2 i hi).1.2.1
    unfold px_dig at e
    cases b : S.testBit i with
    | true =>
      cases b' : S'.testBit i with
      | true => exact ⟨rfl, by rw [(hV.2.2 i hi).2 b, (hV'.2.2 i hi).2 b']⟩
      | false => rw [b, b', if_pos rfl, if_neg (by decide), g'.1, nI_clamp (by omega)] at e; omega
    | false =>
      cases b' : S'.testBit i with
      | true => rw [b, b', if_neg (by decide), if_pos rfl, g.1, nI_clamp (by omega)] at e; omega
      | false =>
        rw [b, b', if_neg (by decide), if_neg (by decide), g.1, g'.1, nI_clamp (by omega), nI_clamp (by omega)] at e
        refine ⟨rfl, ?_⟩
        rcases Nat.lt_trichotomy (p i) (p' i) with q | q | q
        · exact absurd e (Nat.ne_of_lt (fx_cnt_lt q (hV.2.2 i hi).1.2.1.2))
        · exact q
        · exact absurd e (Nat.ne_of_gt (fx_cnt_lt q (hV'.2.2 i hi).1.2.1.2))
  refine ⟨?_, ?_⟩
  · apply Nat.eq_of_testBit_eq
    intro i
    by_cases hi : i < n
    · exact (key i hi).1
    · rw [Nat.testBit_lt_two_pow (Nat.lt_of_lt_of_le hV.1 (Nat.pow_le_pow_right (by decide) (by omega))), Nat.testBit_lt_two_pow (Nat.lt_of_lt_of_le hV'.1 (Nat.pow_le_pow_right (by decide) (by omega)))]
  · funext i
    by_cases hi : i < n
    · exact (key i hi).2
    · rw [hV.2.1 i (by omega), hV'.2.1 i (by omega)]
def px_lv (wo : Nat → Int64) (x : Nat) : Nat := lw_at (wo (x / 16)) (x % 16)
def px_Ex (n : Nat) (sc : Nat → Int32) (Ms Mg : Nat → Nat → Int32) (gl : Nat → Nat) (k S : Nat) (p : Nat → Nat) (w : Nat) : Prop := sx_E n (fx_nb sc Ms) gl (px_lf gl Mg) (px_nr Mg) k S p w
/-- the levels are sound -/
def px_Snd (F n N : Nat) (wf rk sc : Nat → Int32) (Ms Mg : Nat → Nat → Int32) (gl : Nat → Nat) (wo : Nat → Int64) : Prop := ∀ S p w, px_V n N wf Mg gl S p → w < px_lv wo (sx_st (F + 1) (px_dig F rk S p) n) → ¬ px_Ex n sc Ms Mg gl 31 S p w
theorem px_put (h : px_C F n N W0 wf rk sc g5 Ms Mg gl) {wo wo1 : Nat → Int64} (hs : px_Snd F n N wf rk sc Ms Mg gl wo) {S : Nat} {p : Nat → Nat} {w : Nat} (hV : px_V n N wf Mg gl S p) (hE : ¬ px_Ex n sc Ms Mg gl 31 S p w) (hw : ∀ y, y < 20736 → px_lv wo1 y = if y = sx_st (F + 1) (px_dig F rk S p) n then w + 1 else px_lv wo y) : px_Snd F n N wf rk sc Ms Mg gl wo1 := by
  intro S' p' w' hV' hlt hE'
  rw [hw _ (px_stlt h hV')] at hlt
  by_cases e : sx_st (F + 1) (px_dig F rk S' p') n = sx_st (F + 1) (px_dig F rk S p) n
  · rw [if_pos e] at hlt
    obtain ⟨rfl, rfl⟩ := px_stinj h hV' hV e
    exact hE (sx_E_w 31 _ _ w' w (by omega) hE')
  · rw [if_neg e] at hlt
    exact hs S' p' w' hV' hlt hE'
theorem px_cut (h : px_C F n N W0 wf rk sc g5 Ms Mg gl) {S : Nat} {p : Nat → Nat} {w d : Nat} (hV : px_V n N wf Mg gl S p) (hd : d ≤ 30) (hw : ∀ i, i < n → S.testBit i = false → px_lf gl Mg i (p i) + w + d ≤ 30) (hE : px_Ex n sc Ms Mg gl 31 S p w) : px_Ex n sc Ms Mg gl (31 - d) S p w :=
  sx_E_le (k := 30 - d) (by omega) (sx_E_cut (fun m c b a q => px_hA h m c b a q) (px_hp h) (fun m c a q => ⟨(px_hr h m c a q).1, (px_hr h m c a q).2.1⟩) 31 (30 - d) S p w hV.1 (fun i hi => (hV.2.2 i hi).1) (fun i hi hb => by have := hw i hi hb; omega) hE)
end PX
