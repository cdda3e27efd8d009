/-! the class's planner and the reference's pays -/
theorem fx_inj {N : Nat} {wf : Nat → Int32} {c d : Nat} (hc : fx_fr N wf c) (hd : fx_fr N wf d) (e : fx_cnt wf c = fx_cnt wf d) : c = d := by
  rcases Nat.lt_trichotomy c d with g | g | g
  · exact absurd e (Nat.ne_of_lt (fx_cnt_lt g hc.2))
  · exact g
  · exact absurd e (Nat.ne_of_gt (fx_cnt_lt g hd.2))
theorem so_inst {F n N W : Nat} {wf rk sc g5 : Nat → Int32} {Ms Mg : Nat → Nat → Int32} {gl ce : Nat → Nat} (hC : px_C F n N W wf rk sc g5 Ms Mg gl) (hW : 1 ≤ W ∧ W ≤ 6) (hce : ∀ k, k < F → ce k < N ∧ wf (ce k) = 0 ∧ fx_cnt wf (ce k) = k) :
    so_H n F (fx_nb sc Ms) (fun a b => b < F ∧ a < F ∧ mn_R W ce a b) gl (fx_cnt wf) (px_lf gl Mg) (px_nr Mg) (px_A n N wf Mg) := by
  have hN := hC.2.1
  have hF : F = fx_cnt wf N := hC.2.2.2.1
  have hlt : ∀ c, fx_fr N wf c → fx_cnt wf c < F := fun c h => by rw [hF]; exact fx_cnt_lt h.1 h.2
  have hcr : ∀ c, fx_fr N wf c → ce (fx_cnt wf c) = c := fun c h => by
    have g := hce _ (hlt c h)
    exact fx_inj ⟨g.1, g.2.1⟩ h g.2.2
  refine ⟨fun m c b a q => px_hA hC m c b a q, px_hp hC, fun m c a q => px_hr hC m c a q, fun m c a q hne => ?_, fun m c a => px_hs hC m c a, fun m c a => hlt c a.2.1, fun m c k d a b e => fx_inj a.2.1 b.2.1 e, fun m c b a q => ?_, fun m c x a hx q => ?_, fun m hm => px_Ag hC hm⟩
  · have g := (px_step hC m c (gl m) a q).2
    rw [px_wl0 hC a.1] at g
    have g2 : px_wl Mg m c ≠ 0 := fun e => hne (px_wlg hC a e)
    show px_wl Mg m c = 1
    omega
  · have g := (fx_nb_iff hN hC.2.2.2.2.1 a.2.1).mp q
    have c25 : c < 25 := Nat.lt_of_lt_of_le a.2.1.1 hN
    have b25 : b < 25 := Nat.lt_of_lt_of_le g.1.1 hN
    refine ⟨hlt c a.2.1, hlt b g.1, ?_⟩
    show fx_cnt wf c = fx_cnt wf b ∨ mv_bs W (ce (fx_cnt wf c)) (ce (fx_cnt wf b))
    rw [hcr c a.2.1, hcr b g.1]
    rcases (ft_ad hW c25 b25).mp g.2 with e | e
    · exact Or.inl (by rw [e])
    · exact Or.inr (mv_bs_s e)
  · have g := hce x hx
    have c25 : c < 25 := Nat.lt_of_lt_of_le a.2.1.1 hN
    refine ⟨ce x, (fx_nb_iff hN hC.2.2.2.2.1 a.2.1).mpr ⟨⟨g.1, g.2.1⟩, (ft_ad hW c25 (Nat.lt_of_lt_of_le g.1 hN)).mpr ?_⟩, g.2.2⟩
    have q2 : fx_cnt wf c = x ∨ mv_bs W (ce (fx_cnt wf c)) (ce x) := q.2.2
    rw [hcr c a.2.1] at q2
    rcases q2 with e | e
    · left; rw [← e]; exact hcr c a.2.1
    · exact Or.inr (mv_bs_s e)
theorem so_c0 {n S : Nat} {gl sp : Nat → Nat} {lf : Nat → Nat → Nat} : sx_sum (sx_cst gl lf (px_P0 n sp) S 0) n = so_L lf S (px_P0 n sp 0) n := sx_sum_c (fun i _ => by
  show (if S.testBit i = true then 0 else 0 + lf i (px_P0 n sp 0 i)) = (if S.testBit i = true then 0 else lf i (px_P0 n sp 0 i))
  rw [Nat.zero_add])
theorem so_P0 {n : Nat} {sp : Nat → Nat} {i : Nat} (h : i < n) : px_P0 n sp 0 i = sp i := if_pos h
theorem so_z {n : Nat} : ∀ i, i < n → Nat.testBit 0 i = true → False := fun i _ h => by rw [Nat.zero_testBit] at h; cases h
theorem so_1 {F n N W lim k : Nat} {wf rk sc g5 : Nat → Int32} {Ms Mg : Nat → Nat → Int32} {gl sp ce : Nat → Nat} {Pay : (Nat → Nat) → Nat → Nat} (hC : px_C F n N W wf rk sc g5 Ms Mg gl) (hW : 1 ≤ W ∧ W ≤ 6) (hce : ∀ k, k < F → ce k < N ∧ wf (ce k) = 0 ∧ fx_cnt wf (ce k) = k) (hA : ∀ i, i < n → px_A n N wf Mg i (sp i)) (hd : ∀ i j, i < j → j < n → sp i ≠ sp j)
    (h0 : Pay (so_E n (fx_cnt wf) gl) (2 ^ n - 1) = 0) (hL : dj_L n F (fun a b => b < F ∧ a < F ∧ mn_R W ce a b) lim Pay) (hk : px_le n Mg sp + k ≤ lim) (h : px_C0 n sc Ms Mg gl sp k) : Pay (so_E n (fx_cnt wf) (px_P0 n sp 0)) 0 ≤ px_le n Mg sp + k := by
  obtain ⟨S, s1, s2, s3, s4⟩ := h
  rw [so_c0] at s3 s4
  have H := so_inst hC hW hce
  have hAp : ∀ i, i < n → px_A n N wf Mg i (px_P0 n sp 0 i) := fun i hi => by rw [so_P0 hi]; exact hA i hi
  have g := so_A H h0 hL 31 S (px_P0 n sp 0) _ s1 hAp s2 (fun i o hi ho => by rw [so_P0 hi, so_P0 (show o < n by omega)]; exact hd o i ho hi) (by omega) s4
  have g2 := dj_sub hL (so_V H hAp) n S 0 (by have := dj_pc_le S n; omega) s1 (Nat.two_pow_pos n) (fun i hi hb => (so_z i hi hb).elim) (by omega)
  omega
theorem so_2 {F n N W v : Nat} {wf rk sc g5 : Nat → Int32} {Ms Mg : Nat → Nat → Int32} {gl sp ce : Nat → Nat} {Pay : (Nat → Nat) → Nat → Nat} (hC : px_C F n N W wf rk sc g5 Ms Mg gl) (hW : 1 ≤ W ∧ W ≤ 6) (hce : ∀ k, k < F → ce k < N ∧ wf (ce k) = 0 ∧ fx_cnt wf (ce k) = k) (hA : ∀ i, i < n → px_A n N wf Mg i (sp i))
    (hJ : dj_J n F (fun a b => b < F ∧ a < F ∧ mn_R W ce a b) (so_E n (fx_cnt wf) gl) Pay) (hv : v < 200) (h6 : v ≤ px_le n Mg sp + 6) (h : Pay (so_E n (fx_cnt wf) (px_P0 n sp 0)) 0 = v) : px_le n Mg sp ≤ v ∧ px_C0 n sc Ms Mg gl sp (v - px_le n Mg sp) := by
  have H := so_inst hC hW hce
  have hAp : ∀ i, i < n → px_A n N wf Mg i (px_P0 n sp 0 i) := fun i hi => by rw [so_P0 hi]; exact hA i hi
  obtain ⟨S, k, w, s1, s2, s3, s4, s5, s6⟩ := so_B H hJ v hv n (px_P0 n sp 0) 0 (Nat.le_of_eq h) (Nat.sub_le _ _) (Nat.two_pow_pos n) hAp (fun i hi => if_neg (by omega))
  have hPl := px_Pl0 (sc := sc) (Ms := Ms) hA (Mp := fun _ i => nI (sp i)) (fun i _ => rfl)
  have hw := px_ways hC hPl s3
  have hle : px_le n Mg sp ≤ so_L (px_lf gl Mg) S (px_P0 n sp 0) n := by rw [← so_c0]; exact sx_sum_le hw
  have h6b := (px_w6 hC hPl (S := S) s3 (sum := v) h6).2
  have ecs : px_cs gl Mg (px_P0 n sp) S 0 n = so_L (px_lf gl Mg) S (px_P0 n sp 0) n := so_c0
  rw [ecs] at h6b
  refine ⟨by omega, S, s1, s3, ?_, ?_⟩
  · rw [so_c0]; omega
  · rw [so_c0, show px_le n Mg sp + (v - px_le n Mg sp) = v by omega]
    have e1 := sx_E_w k S (px_P0 n sp 0) w (v - so_L (px_lf gl Mg) S (px_P0 n sp 0) n) (by omega) s6
    exact sx_E_le (k := 30) (by omega) (sx_E_cut (fun m c b a q => px_hA hC m c b a q) (px_hp hC) (fun m c a q => ⟨(px_hr hC m c a q).1, (px_hr hC m c a q).2.1⟩) k 30 S (px_P0 n sp 0) _ s1 hAp (fun i hi hb => h6b (by omega) i hi hb) e1)
/-- solve's answer, as the reference finds it -/
def sv_M (W N n : Nat) (wf : Nat → Int32) (sp gl : Nat → Nat) (lim : Nat) (r : Int32) : Prop := ∃ (ce : Nat → Nat) (Pay : (Nat → Nat) → Nat → Nat), (∀ k, k < fx_cnt wf N → ce k < N ∧ wf (ce k) = 0 ∧ fx_cnt wf (ce k) = k) ∧ dj_J n (fx_cnt wf N) (fun a b => b < fx_cnt wf N ∧ a < fx_cnt wf N ∧ mn_R W ce a b) (so_E n (fx_cnt wf) gl) Pay ∧ dj_L n (fx_cnt wf N) (fun a b => b < fx_cnt wf N ∧ a < fx_cnt wf N ∧ mn_R W ce a b) lim Pay ∧ Pay (so_E n (fx_cnt wf) gl) (2 ^ n - 1) = 0 ∧
  ((Pay (so_E n (fx_cnt wf) sp) 0 ≤ lim ∧ r = nI (Pay (so_E n (fx_cnt wf) sp) 0)) ∨ (lim < Pay (so_E n (fx_cnt wf) sp) 0 ∧ r = -1))
def sl_P (W N n : Nat) (wf s g : Nat → Int32) (x r : Int32) : Prop := (r = -1 ∧ (x < 0 ∨ 6 < x)) ∨ ∃ mr, mr ≤ 6 ∧ x = nI mr ∧ ((r = -1 ∧ ∃ i, i < n ∧ ds_P W N n wf s g (nI i) (-1)) ∨ (n = 0 ∧ r = 0) ∨ (0 < n ∧ ∃ (sp gl dv : Nat → Nat), (∀ i, i < n → s i = nI (sp i) ∧ fx_fr N wf (sp i) ∧ g i = nI (gl i) ∧ fx_fr N wf (gl i)) ∧ (∀ i j, i < j → j < n → sp i ≠ sp j) ∧ (∀ i, i < n → dv i ≤ 25 ∧ ds_P W N n wf s g (nI i) (nI (dv i))) ∧ sv_M W N n wf sp gl (mr + sx_sum dv n) r))
theorem sl_dv {P : Nat → Nat → Prop} {mr lv mm kk : Nat} (h : ∃ dv : Nat → Nat, lv = mr + sx_sum dv mm ∧ ∀ i, i < mm → P i (dv i)) (hk : P mm kk) : ∃ dv : Nat → Nat, lv + kk = mr + sx_sum dv (mm + 1) ∧ ∀ i, i < mm + 1 → P i (dv i) := by
  obtain ⟨dv, h1, h2⟩ := h
  refine ⟨sx_up dv mm kk, ?_, fun i hi => ?_⟩
  · show lv + kk = mr + (sx_sum (sx_up dv mm kk) mm + sx_up dv mm kk mm)
    rw [sx_up_s, sx_sum_c (fun i hi => sx_up_n (Nat.ne_of_lt hi)), h1, Nat.add_assoc]
  · by_cases e : i = mm
    · subst e; rw [sx_up_s]; exact hk
    · rw [sx_up_n e]; exact h2 i (by omega)
