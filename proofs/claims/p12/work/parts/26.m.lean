/-! the reference's pays: a state relaxed -/
theorem bt_clr {x m : Nat} (hm : m < 5) (hx : x < 2 ^ 31) (hb : x.testBit m = true) : nI x &&& (((1 : Int32) <<< (nI m &&& 31)) ^^^ (-1)) = nI (x ^^^ 2 ^ m) := by
  have hC : ∀ m, m < 5 → (((1 : Int32) <<< (nI m &&& 31)) ^^^ (-1)).toBitVec.toNat = (2 ^ 32 - 1) ^^^ 2 ^ m := by decide +kernel
  apply Int32.toBitVec_inj.mp
  apply BitVec.eq_of_toNat_eq
  have hx2 : x ^^^ 2 ^ m < 2 ^ 31 := Nat.xor_lt_two_pow hx (Nat.pow_lt_pow_right (by decide) (by omega))
  rw [Int32.toBitVec_and, BitVec.toNat_and, pk_tn (by omega), hC m hm, pk_tn (by omega)]
  apply Nat.eq_of_testBit_eq
  intro i
  rw [Nat.testBit_and, Nat.testBit_xor, Nat.testBit_xor, Nat.testBit_two_pow_sub_one]
  by_cases e : i = m
  · subst e; rw [hb, Nat.testBit_two_pow_self, decide_eq_true (show i < 32 by omega)]; rfl
  · rw [Nat.testBit_two_pow_of_ne (by omega)]
    by_cases h : i < 32
    · rw [decide_eq_true h]; simp
    · rw [Nat.testBit_lt_two_pow (Nat.lt_of_lt_of_le hx (Nat.pow_le_pow_right (by decide) (by omega)))]; simp
theorem bt_or2 {a b n : Nat} (hn : n ≤ 5) (ha : 2 ^ n * a + b < 2 ^ 31) (hb : b < 2 ^ n) : nI (2 ^ n * a) ||| nI b = nI (2 ^ n * a + b) := by
  have h5 : 2 ^ n ≤ 2 ^ 5 := Nat.pow_le_pow_right (by decide) hn
  rw [Nat.two_pow_add_eq_or_of_lt hb]
  apply Int32.toBitVec_inj.mp
  apply BitVec.eq_of_toNat_eq
  have h2 : 2 ^ n * a ||| b < 2 ^ 31 := by rw [← Nat.two_pow_add_eq_or_of_lt hb]; exact ha
  rw [Int32.toBitVec_or, BitVec.toNat_or, pk_tn (by omega), pk_tn (by omega), pk_tn (by omega)]
theorem bt_who {x n : Nat} (hn : n ≤ 5) (hx : x < 2 ^ 31) : nI x &&& nI (2 ^ n - 1) = nI (x % 2 ^ n) := by
  have h5 : 2 ^ n ≤ 2 ^ 5 := Nat.pow_le_pow_right (by decide) hn
  exact pk_andN (by omega) n (pk_tn (by omega))
/-- edges and sound states -/
def rl_E (n F : Nat) (nr : Nat → Nat → Prop) (x y c : Nat) : Prop :=
  (∃ q who m, dj_V n F q ∧ who < 2 ^ n ∧ m < n ∧ who.testBit m = true ∧ x = dj_enc n F q who ∧ y = dj_enc n F q (who ^^^ 2 ^ m) ∧ c = 0) ∨
  (∃ p q who, dj_V n F p ∧ dj_V n F q ∧ who < 2 ^ n ∧ who ≠ 2 ^ n - 1 ∧ x = dj_enc n F p who ∧ y = dj_enc n F q who ∧ dj_dis n q ∧ dj_stp n nr who p q ∧ c = n - dj_pc who n)
def rl_ok (n F : Nat) (g : Nat → Nat) (y : Nat) : Prop := ∃ q who, dj_V n F q ∧ who < 2 ^ n ∧ y = dj_enc n F q who ∧ dj_dis n q ∧ ∀ m, m < n → who.testBit m = true → q m = g m
theorem rl_okE {n F x y c : Nat} {nr : Nat → Nat → Prop} {g : Nat → Nat} (h : rl_E n F nr x y c) (hx : rl_ok n F g x) : rl_ok n F g y := by
  obtain ⟨q0, w0, a1, a2, a3, a4, a5⟩ := hx
  rcases h with ⟨q, who, m, h1, h2, h3, h4, h5, h6, -⟩ | ⟨p, q, who, h1, h2, h3, h4, h5, h6, h7, h8, -⟩
  · obtain ⟨rfl, rfl⟩ := dj_enc_inj a1 h1 a2 h2 (a3.symm.trans h5)
    refine ⟨q0, w0 ^^^ 2 ^ m, a1, dj_xlt a2 h3, h6, a4, fun i hi hb => a5 i hi ?_⟩
    by_cases e : i = m
    · subst e; exact h4
    · rw [dj_xb e] at hb; exact hb
  · obtain ⟨rfl, rfl⟩ := dj_enc_inj a1 h1 a2 h3 (a3.symm.trans h5)
    exact ⟨q, w0, h2, a2, h6, h7, fun i hi hb => by rw [h8.1 i hi hb]; exact a5 i hi hb⟩
/-- what is kept while one is relaxed -/
def rl_I (N : Nat) (Ed : Nat → Nat → Nat → Prop) (ok : Nat → Prop) (g0 d : Nat) (dn : Nat → Prop) (s C : Nat) (pay pl : Nat → Nat) (tp : Nat) : Prop :=
  dj_Inv N Ed ok g0 d pay dn ∧ (∀ y, y < N → pay y ≤ 200) ∧ tp + dj_cnt pay d N = C ∧ (∀ i, i < tp → pl i < N ∧ pay (pl i) = d) ∧ ∀ y, y < N → pay y ≤ d → ¬ dn y → s ≤ y ∨ ∃ i, i < tp ∧ pl i = y
theorem rl_low {N : Nat} {Ed : Nat → Nat → Nat → Prop} {ok : Nat → Prop} {g0 d : Nat} {dn : Nat → Prop} {s C : Nat} {pay pl : Nat → Nat} {tp tp1 x y c : Nat} {pf pf1 df lf lf1 : Nat → Int32} (h : rl_I N Ed ok g0 d dn s C pay pl tp) (hl : ∀ i, i < N → pf i = nI (pay i)) (hll : ∀ i, i < tp → lf i = nI (pl i)) (hdf : ∀ i, i < N → (df i = 0 ↔ ¬ dn i))
    (hx : x < N) (hdx : dn x) (hpx : pay x = d) (hy : y < N) (hE : Ed x y c) (hok : ok y) (hdc : d + c < 200)
    (hp : ((¬ df y = 0 ∨ pay y ≤ d + c) ∧ pf1 = pf ∧ lf1 = lf ∧ tp1 = tp) ∨ (df y = 0 ∧ d + c < pay y ∧ pf1 = upd pf y (nI (d + c)) ∧ ((d + c = d ∧ lf1 = upd lf tp (nI y) ∧ tp1 = tp + 1) ∨ (d + c ≠ d ∧ lf1 = lf ∧ tp1 = tp)))) :
    ∃ pay1 pl1, rl_I N Ed ok g0 d dn s C pay1 pl1 tp1 ∧ (∀ i, i < N → pf1 i = nI (pay1 i)) ∧ (∀ i, i < tp1 → lf1 i = nI (pl1 i)) ∧ pay1 y ≤ d + c ∧ (∀ z, pay1 z ≤ pay z) ∧ (∀ z, dn z → pay1 z = pay z) := by
  obtain ⟨h1, h2, h3, h4, h5⟩ := h
  rcases hp with ⟨hq, rfl, rfl, rfl⟩ | ⟨hq, hlt, rfl, hq2⟩
  · refine ⟨pay, pl, ⟨h1, h2, h3, h4, h5⟩, hl, hll, ?_, fun _ => Nat.le_refl _, fun _ _ => rfl⟩
    rcases hq with hq | hq
    · have hd : dn y := Classical.byContradiction fun e => hq ((hdf y hy).mpr e)
      have := h1.2.1 y hy hd
      omega
    · exact hq
  · have hny : ¬ dn y := (hdf y hy).mp hq
    have k1 := dj_lower h1 hx hdx hpx hy hE hok hny hlt
    have k2 : ∀ z, z < N → sx_up pay y (d + c) z ≤ 200 := fun z hz => by
      by_cases e : z = y
      · rw [e, sx_up_s]; omega
      · rw [sx_up_n e]; exact h2 z hz
    have k3 : ∀ i, i < N → upd pf y (nI (d + c)) i = nI (sx_up pay y (d + c) i) := fun i hi => by
      by_cases e : i = y
      · rw [e, pk_us, sx_up_s]
      · rw [pk_un e, sx_up_n e]; exact hl i hi
    have k4 : ∀ z, sx_up pay y (d + c) z ≤ pay z := fun z => by
      by_cases e : z = y
      · rw [e, sx_up_s]; omega
      · rw [sx_up_n e]; exact Nat.le_refl _
    have k5 : ∀ z, dn z → sx_up pay y (d + c) z = pay z := fun z hz => sx_up_n (fun e => hny (by rw [← e]; exact hz))
    have k6 : ∀ i, i < tp → pl i ≠ y := fun i hi e => by have := (h4 i hi).2; rw [e] at this; omega
    rcases hq2 with ⟨hc, rfl, rfl⟩ | ⟨hc, rfl, rfl⟩
    · refine ⟨sx_up pay y (d + c), sx_up pl tp y, ⟨k1, k2, ?_, ?_, ?_⟩, k3, ?_, by rw [sx_up_s]; exact Nat.le_refl _, k4, k5⟩
      · have := dj_cnt_up (pay := pay) (d := d) (v := d + c) N hy (by omega) (by omega); omega
      · intro i hi
        by_cases e : i = tp
        · rw [e, sx_up_s, sx_up_s]; exact ⟨hy, by omega⟩
        · rw [sx_up_n e, sx_up_n (k6 i (by omega))]; exact h4 i (by omega)
      · intro z hz hp2 hd
        by_cases e : z = y
        · exact Or.inr ⟨tp, by omega, by rw [sx_up_s, e]⟩
        · rw [sx_up_n e] at hp2
          rcases h5 z hz hp2 hd with q | ⟨i, q1, q2⟩
          · exact Or.inl q
          · exact Or.inr ⟨i, by omega, by rw [sx_up_n (by omega)]; exact q2⟩
      · intro i hi
        by_cases e : i = tp
        · rw [e, pk_us, sx_up_s]
        · rw [pk_un e, sx_up_n e]; exact hll i (by omega)
    · refine ⟨sx_up pay y (d + c), pl, ⟨k1, k2, ?_, ?_, ?_⟩, k3, hll, by rw [sx_up_s]; exact Nat.le_refl _, k4, k5⟩
      · rw [dj_cnt_upn (by omega) (by omega)]; exact h3
      · intro i hi; rw [sx_up_n (k6 i hi)]; exact h4 i hi
      · intro z hz hp2 hd
        by_cases e : z = y
        · rw [e, sx_up_s] at hp2; omega
        · rw [sx_up_n e] at hp2; exact h5 z hz hp2 hd
theorem rl_tp {N : Nat} {Ed : Nat → Nat → Nat → Prop} {ok : Nat → Prop} {g0 d : Nat} {dn : Nat → Prop} {s C : Nat} {pay pl : Nat → Nat} {tp y : Nat} (h : rl_I N Ed ok g0 d dn s C pay pl tp) (hC : C ≤ N) (hy : y < N) (hlt : d < pay y) : tp < N := by
  have := dj_cnt_up (pay := pay) (d := d) (v := d) N hy hlt (Nat.le_refl _)
  have := h.2.2.1
  omega
/-- where a choice leads, as a step -/
theorem rl_step {n W F who : Nat} {ce p ch : Nat → Nat} {nf kf : Nat → Int32} (hF : F ≤ 25) (hA : mn_A W F ce F nf kf) (hp : dj_V n F p) (hc : ∀ i, i < n → ch i < mc_R kf p who i) :
    dj_V n F (fun i => if i < n then mc_q nf p who ch i else 0) ∧ ∀ i, i < n → (who.testBit i = true → mc_q nf p who ch i = p i) ∧ mc_q nf p who ch i < F ∧ mn_R W ce (p i) (mc_q nf p who ch i) := by
  have key : ∀ i, i < n → (who.testBit i = true → mc_q nf p who ch i = p i) ∧ mc_q nf p who ch i < F ∧ mn_R W ce (p i) (mc_q nf p who ch i) := by
    intro i hi
    obtain ⟨cnt, h1, h2, h3, h4⟩ := hA (p i) (hp.1 i hi)
    have hci := hc i hi
    unfold mc_q
    by_cases e : who.testBit i = true
    · rw [if_pos e]; exact ⟨fun _ => rfl, hp.1 i hi, Or.inl rfl⟩
    · unfold mc_R at hci
      rw [if_neg e, h3, nI_clamp (by omega)] at hci
      obtain ⟨j, q1, q2, q3⟩ := h4.1 (ch i) hci
      rw [if_neg e, q2, nI_clamp (by omega)]
      exact ⟨fun q => absurd q e, q1, q3⟩
  refine ⟨⟨fun i hi => ?_, fun i hi => if_neg (by omega)⟩, key⟩
  show (if i < n then mc_q nf p who ch i else 0) < F
  rw [if_pos hi]; exact (key i hi).2.1
theorem rl_choice {n W F who : Nat} {ce p q : Nat → Nat} {nf kf : Nat → Int32} (hF : F ≤ 25) (hA : mn_A W F ce F nf kf) (hp : dj_V n F p) (hq : dj_V n F q) (hs : ∀ i, i < n → who.testBit i = true → q i = p i) (hr : ∀ i, i < n → mn_R W ce (p i) (q i)) :
    ∃ ch : Nat → Nat, ∀ i, i < n → ch i < mc_R kf p who i ∧ mc_q nf p who ch i = q i := by
  have key : ∀ i, ∃ k, i < n → k < mc_R kf p who i ∧ (if who.testBit i = true then p i else (nf (5 * p i + k)).toNatClampNeg) = q i := by
    intro i
    by_cases hi : i < n
    · obtain ⟨cnt, h1, h2, h3, h4⟩ := hA (p i) (hp.1 i hi)
      by_cases e : who.testBit i = true
      · refine ⟨0, fun _ => ⟨?_, ?_⟩⟩
        · unfold mc_R; rw [if_pos e]; omega
        · rw [if_pos e]; exact (hs i hi e).symm
      · obtain ⟨k, q1, q2⟩ := h4.2 (q i) (hq.1 i hi) (hr i hi)
        refine ⟨k, fun _ => ⟨?_, ?_⟩⟩
        · unfold mc_R; rw [if_neg e, h3, nI_clamp (by omega)]; exact q1
        · rw [if_neg e, q2, nI_clamp (by have := hq.1 i hi; omega)]
    · exact ⟨0, fun h => absurd h hi⟩
  exact ⟨fun i => Classical.choose (key i), fun i hi => Classical.choose_spec (key i) hi⟩
theorem rl_mcN {W F : Nat} {ce : Nat → Nat} {nf kf : Nat → Int32} (h : mn_A W F ce F nf kf) : mc_N F nf kf := fun a ha => by
  obtain ⟨cnt, h1, h2, h3, h4⟩ := h a ha
  exact ⟨cnt, h1, h2, h3, fun i hi => by obtain ⟨j, q1, q2, _⟩ := h4.1 i hi; exact ⟨j, q1, q2⟩⟩
