/-! both searches find the same sum -/
theorem sx_mv_ex {nb : Nat → Nat → Prop} {gl : Nat → Nat} {lf : Nat → Nat → Nat} {nr : Nat → Nat → Prop} {S : Nat} {p : Nat → Nat} {K : Nat → (Nat → Nat) → Nat → Prop} : ∀ j m T q w, sx_mv nb gl lf nr S p K j m T q w → ∃ T2 q2 w2, K T2 q2 w2 := by
  intro j
  induction j with
  | zero => intro m T q w h; exact ⟨T, q, w, h⟩
  | succ j ih =>
    intro m T q w h
    rcases h with ⟨_, _, c⟩ | ⟨_, ⟨_, _, d⟩ | ⟨b, _, _, _, f⟩⟩
    · exact ih _ _ _ _ c
    · exact ih _ _ _ _ d
    · exact ih _ _ _ _ f
/-- what those have left that haven't settled -/
def so_L (lf : Nat → Nat → Nat) (S : Nat) (p : Nat → Nat) (m : Nat) : Nat := sx_sum (fun i => if S.testBit i = true then 0 else lf i (p i)) m
theorem so_Lt {lf : Nat → Nat → Nat} {S : Nat} {p : Nat → Nat} {m : Nat} (h : S.testBit m = true) : so_L lf S p (m + 1) = so_L lf S p m := by
  show sx_sum _ m + (if S.testBit m = true then 0 else lf m (p m)) = _
  rw [if_pos h]; rfl
theorem so_Lf {lf : Nat → Nat → Nat} {S : Nat} {p : Nat → Nat} {m : Nat} (h : S.testBit m = false) : so_L lf S p (m + 1) = so_L lf S p m + lf m (p m) := by
  show sx_sum _ m + (if S.testBit m = true then 0 else lf m (p m)) = _
  rw [if_neg (by rw [h]; decide)]; rfl
theorem so_Lc {lf : Nat → Nat → Nat} {S T : Nat} {p q : Nat → Nat} {m : Nat} (h : ∀ i, i < m → S.testBit i = T.testBit i ∧ p i = q i) : so_L lf S p m = so_L lf T q m := sx_sum_c (fun i hi => by show (if S.testBit i = true then 0 else lf i (p i)) = (if T.testBit i = true then 0 else lf i (q i)); rw [(h i hi).1, (h i hi).2])
theorem so_pt {S m : Nat} (h : S.testBit m = true) : dj_pc S (m + 1) = dj_pc S m + 1 := by
  show dj_pc S m + (if S.testBit m = true then 1 else 0) = _
  rw [if_pos h]
theorem so_pf {S m : Nat} (h : S.testBit m = false) : dj_pc S (m + 1) = dj_pc S m := by
  show dj_pc S m + (if S.testBit m = true then 1 else 0) = _
  rw [if_neg (by rw [h]; decide)]; rfl
theorem so_pm {S T : Nat} : ∀ n, (∀ i, i < n → S.testBit i = true → T.testBit i = true) → dj_pc S n ≤ dj_pc T n := by
  intro n
  induction n with
  | zero => intro _; exact Nat.le_refl _
  | succ n ih =>
    intro h
    have ih := ih (fun i hi => h i (by omega))
    cases hb : S.testBit n with
    | true => rw [so_pt hb, so_pt (h n (by omega) hb)]; omega
    | false =>
      rw [so_pf hb]
      cases hc : T.testBit n with
      | true => rw [so_pt hc]; omega
      | false => rw [so_pf hc]; exact ih
/-- a set with given members -/
theorem so_set (P : Nat → Prop) : ∀ n, ∃ S, S < 2 ^ n ∧ ∀ i, i < n → (S.testBit i = true ↔ P i) := by
  intro n
  induction n with
  | zero => exact ⟨0, by decide, fun i hi => absurd hi (Nat.not_lt_zero _)⟩
  | succ n ih =>
    obtain ⟨S, h1, h2⟩ := ih
    by_cases hp : P n
    · refine ⟨S ||| 2 ^ n, sx_or h1, fun i hi => ?_⟩
      by_cases e : i = n
      · subst e; rw [sx_or_s]; exact ⟨fun _ => hp, fun _ => rfl⟩
      · rw [sx_or_n (by omega)]; exact h2 i (by omega)
    · refine ⟨S, Nat.lt_of_lt_of_le h1 (Nat.pow_le_pow_right (by decide) (by omega)), fun i hi => ?_⟩
      by_cases e : i = n
      · subst e; rw [sx_hi h1]; exact ⟨fun q => absurd q (by decide), fun q => absurd q hp⟩
      · exact h2 i (by omega)
theorem so_ext {n S T : Nat} (hS : S < 2 ^ n) (hT : T < 2 ^ n) (h : ∀ i, i < n → S.testBit i = T.testBit i) : S = T := by
  apply Nat.eq_of_testBit_eq
  intro i
  rcases Nat.lt_or_ge i n with g | g
  · exact h i g
  · rw [Nat.testBit_lt_two_pow (Nat.lt_of_lt_of_le hS (Nat.pow_le_pow_right (by decide) g)), Nat.testBit_lt_two_pow (Nat.lt_of_lt_of_le hT (Nat.pow_le_pow_right (by decide) g))]
section SO
variable {n F lim : Nat} {nb rn : Nat → Nat → Prop} {gl rk : Nat → Nat} {lf : Nat → Nat → Nat} {nr A : Nat → Nat → Prop} {Pay : (Nat → Nat) → Nat → Nat}
def so_E (n : Nat) (rk p : Nat → Nat) : Nat → Nat := fun i => if i < n then rk (p i) else 0
theorem so_Ei {n : Nat} {rk p : Nat → Nat} {i : Nat} (h : i < n) : so_E n rk p i = rk (p i) := if_pos h
/-- what the class's words and the reference's have to do with each other -/
def so_H (n F : Nat) (nb rn : Nat → Nat → Prop) (gl rk : Nat → Nat) (lf : Nat → Nat → Nat) (nr A : Nat → Nat → Prop) : Prop :=
  (∀ m c b, A m c → nb c b → A m b ∧ lf m c ≤ lf m b + 1) ∧ (∀ m c, A m c → 1 ≤ lf m c) ∧ (∀ m c, A m c → nr m c → lf m c = 1 ∧ A m (gl m) ∧ nb c (gl m)) ∧ (∀ m c, A m c → nb c (gl m) → c ≠ gl m → nr m c) ∧ (∀ m c, A m c → nb c c) ∧
  (∀ m c, A m c → rk c < F) ∧ (∀ m c k d, A m c → A k d → rk c = rk d → c = d) ∧ (∀ m c b, A m c → nb c b → rn (rk b) (rk c)) ∧ (∀ m c x, A m c → x < F → rn x (rk c) → ∃ b, nb c b ∧ rk b = x) ∧ (∀ m, m < n → A m (gl m))
theorem so_V (H : so_H n F nb rn gl rk lf nr A) {p : Nat → Nat} (h : ∀ i, i < n → A i (p i)) : dj_V n F (so_E n rk p) := ⟨fun i hi => by rw [so_Ei hi]; exact H.2.2.2.2.2.1 i _ (h i hi), fun i hi => if_neg (by omega)⟩
theorem so_step (H : so_H n F nb rn gl rk lf nr A) {S : Nat} {p : Nat → Nat} {K : Nat → (Nat → Nat) → Nat → Prop} {w : Nat} (hp : ∀ i, i < n → A i (p i)) (h : sx_mv nb gl lf nr S p K n 0 0 (fun _ => 0) w) :
    ∃ T q w2, K T q w2 ∧ T < 2 ^ n ∧ (∀ i, i < n → A i (q i) ∧ nb (p i) (q i) ∧ (S.testBit i = true → q i = p i ∧ T.testBit i = true) ∧ (S.testBit i = false → T.testBit i = true → q i = gl i)) ∧ (∀ i o, i < n → o < i → ¬ (q o = q i ∨ (q o = p i ∧ p o = q i))) ∧ w2 + so_L lf T q n + n = w + so_L lf S p n + dj_pc S n := by
  obtain ⟨HA, Hp, Hr, Hc, Hs, -⟩ := H
  have hmv := sx_mv_imp (n := n) (nb := nb) (gl := gl) (lf := lf) (nr := nr) (S := S) (p := p) (K := K) (K' := fun T q w2 => (T < 2 ^ n ∧ (∀ i, i < n → A i (q i) ∧ nb (p i) (q i) ∧ (S.testBit i = true → q i = p i ∧ T.testBit i = true) ∧ (S.testBit i = false → T.testBit i = true → q i = gl i)) ∧ (∀ i o, i < n → o < i → ¬ (q o = q i ∨ (q o = p i ∧ p o = q i))) ∧ w2 + so_L lf T q n + n = w + so_L lf S p n + dj_pc S n) ∧ K T q w2)
    (fun m T q w2 => T < 2 ^ m ∧ (∀ i, i < m → A i (q i) ∧ nb (p i) (q i) ∧ (S.testBit i = true → q i = p i ∧ T.testBit i = true) ∧ (S.testBit i = false → T.testBit i = true → q i = gl i)) ∧ (∀ i o, i < m → o < i → ¬ (q o = q i ∨ (q o = p i ∧ p o = q i))) ∧ w2 + so_L lf T q m + m = w + so_L lf S p m + dj_pc S m) ?st1 ?st2 ?st3 (fun T q w2 hJ hK => ⟨hJ, hK⟩) n 0 0 (fun _ => 0) w (by omega) ⟨by decide, fun i hi => absurd hi (Nat.not_lt_zero _), fun i o hi => absurd hi (Nat.not_lt_zero _), rfl⟩ h
  · obtain ⟨T, q, w2, hJ, hK⟩ := sx_mv_ex n 0 0 (fun _ => 0) w hmv
    exact ⟨T, q, w2, hK, hJ.1, hJ.2.1, hJ.2.2.1, hJ.2.2.2⟩
  · intro m T q w2 hm ⟨h1, h2, h3, h4⟩ hb hok
    refine ⟨sx_or h1, fun i hi => ?_, fun i o hi ho => ?_, ?_⟩
    · by_cases e : i = m
      · subst e; rw [sx_up_s]; exact ⟨hp i hm, Hs i _ (hp i hm), fun _ => ⟨rfl, sx_or_s⟩, fun q2 => absurd (hb.symm.trans q2) (by decide)⟩
      · rw [sx_up_n e, sx_or_n (by omega)]; exact h2 i (by omega)
    · rw [sx_up_n (show o ≠ m by omega)]
      by_cases e : i = m
      · subst e; rw [sx_up_s]; exact hok o ho
      · rw [sx_up_n e]; exact h3 i o (by omega) ho
    · rw [so_Lt (sx_or_s), so_Lt hb, so_pt hb, so_Lc (T := T) (q := q) (fun i hi => ⟨sx_or_n hi, sx_up_n (by omega)⟩)]; omega
  · intro m T q w2 hm ⟨h1, h2, h3, h4⟩ hb hnr hok
    have g := Hr m (p m) (hp m hm) hnr
    refine ⟨sx_or h1, fun i hi => ?_, fun i o hi ho => ?_, ?_⟩
    · by_cases e : i = m
      · subst e; rw [sx_up_s]; exact ⟨g.2.1, g.2.2, fun q2 => absurd (hb.symm.trans q2) (by decide), fun _ _ => rfl⟩
      · rw [sx_up_n e, sx_or_n (by omega)]; exact h2 i (by omega)
    · rw [sx_up_n (show o ≠ m by omega)]
      by_cases e : i = m
      · subst e; rw [sx_up_s]; exact hok o ho
      · rw [sx_up_n e]; exact h3 i o (by omega) ho
    · rw [so_Lt (sx_or_s), so_Lf hb, so_pf hb, so_Lc (T := T) (q := q) (fun i hi => ⟨sx_or_n hi, sx_up_n (by omega)⟩), g.1]; omega
  · intro m T q w2 b hm ⟨h1, h2, h3, h4⟩ hb hnb hle hok
    have g := HA m (p m) b (hp m hm) hnb
    have gp := Hp m (p m) (hp m hm)
    refine ⟨Nat.lt_of_lt_of_le h1 (Nat.pow_le_pow_right (by decide) (by omega)), fun i hi => ?_, fun i o hi ho => ?_, ?_⟩
    · by_cases e : i = m
      · subst e; rw [sx_up_s]; exact ⟨g.1, hnb, fun q2 => absurd (hb.symm.trans q2) (by decide), fun _ q2 => absurd ((sx_hi h1).symm.trans q2) (by decide)⟩
      · rw [sx_up_n e]; exact h2 i (by omega)
    · rw [sx_up_n (show o ≠ m by omega)]
      by_cases e : i = m
      · subst e; rw [sx_up_s]; exact hok o ho
      · rw [sx_up_n e]; exact h3 i o (by omega) ho
    · rw [so_Lf (sx_hi h1), so_Lf hb, so_pf hb, so_Lc (T := T) (q := q) (fun i hi => ⟨rfl, sx_up_n (by omega)⟩), sx_up_s]; omega
/-- an end of the class's is one of the reference's -/
theorem so_A (H : so_H n F nb rn gl rk lf nr A) (h0 : Pay (so_E n rk gl) (2 ^ n - 1) = 0) (hL : dj_L n F rn lim Pay) : ∀ k S p w, S < 2 ^ n → (∀ i, i < n → A i (p i)) → (∀ i, i < n → S.testBit i = true → p i = gl i) → (∀ i o, i < n → o < i → p o ≠ p i) → w + so_L lf S p n ≤ lim → sx_E n nb gl lf nr k S p w → Pay (so_E n rk p) S ≤ w + so_L lf S p n := by
  intro k
  have hall : ∀ S p w, S = 2 ^ n - 1 → (∀ i, i < n → S.testBit i = true → p i = gl i) → Pay (so_E n rk p) S ≤ w + so_L lf S p n := by
    intro S p w hS hg
    have e : so_E n rk p = so_E n rk gl := funext (fun i => by
      by_cases hi : i < n
      · rw [so_Ei hi, so_Ei hi, hg i hi (sx_bit2 hS i hi)]
      · show (if i < n then _ else _) = (if i < n then _ else _); rw [if_neg hi, if_neg hi])
    rw [e, hS, h0]; exact Nat.zero_le _
  induction k with
  | zero => intro S p w _ _ hg _ _ h; exact hall S p w h hg
  | succ k ih =>
    intro S p w hS hp hg hd hlim h
    by_cases hSa : S = 2 ^ n - 1
    · exact hall S p w hSa hg
    rcases h with h | h
    · exact absurd h hSa
    obtain ⟨T, q, w2, hE, hT, h1, h2, h3⟩ := so_step H hp h
    have hpc := dj_pc_le S n
    have hTg : ∀ i, i < n → T.testBit i = true → q i = gl i := by
      intro i hi hb
      cases hc : S.testBit i with
      | true => rw [((h1 i hi).2.2.1 hc).1]; exact hg i hi hc
      | false => exact (h1 i hi).2.2.2 hc hb
    have hqd : ∀ i o, i < n → o < i → q o ≠ q i := fun i o hi ho e => h2 i o hi ho (Or.inl e)
    have r1 := ih T q w2 hT (fun i hi => (h1 i hi).1) hTg hqd (by omega) hE
    have hV := so_V H (fun i hi => (h1 i hi).1)
    have r2 := dj_sub hL hV n T S (by have := dj_pc_le T n; omega) hT hS (fun i hi hb => ((h1 i hi).2.2.1 hb).2) (by omega)
    obtain ⟨HA, Hp, Hr, Hc, Hs, Hk, Hi, Hn, -⟩ := H
    have r3 := (hL (so_E n rk q) S hV hS (by omega)).2 hSa (so_E n rk p) ⟨fun i hi => by rw [so_Ei hi]; exact Hk i _ (hp i hi), fun i hi => if_neg (by omega)⟩
      (fun i o hi ho e => by rw [so_Ei hi, so_Ei (show o < n by omega)] at e; exact hd i o hi ho (Hi o _ i _ (hp o (by omega)) (hp i hi) e.symm))
      ⟨fun i hi hb => by rw [so_Ei hi, so_Ei hi, ((h1 i hi).2.2.1 hb).1], fun i hi => by rw [so_Ei hi, so_Ei hi]; exact Hn i _ _ (hp i hi) (h1 i hi).2.1, fun i o hi ho e => by
        rw [so_Ei hi, so_Ei hi, so_Ei (show o < n by omega), so_Ei (show o < n by omega)] at e
        exact h2 i o hi ho (Or.inr ⟨(Hi i _ o _ (hp i hi) (h1 o (by omega)).1 e.1).symm, Hi o _ i _ (hp o (by omega)) (h1 i hi).1 e.2⟩)⟩
    omega
theorem so_inc (H : so_H n F nb rn gl rk lf nr A) {S T : Nat} {p q : Nat → Nat} (hp : ∀ i, i < n → A i (p i)) (hq : ∀ i, i < n → nb (p i) (q i)) (hS : ∀ i, i < n → S.testBit i = true → q i = p i ∧ T.testBit i = true) (hT : ∀ i, i < n → S.testBit i = false → T.testBit i = true → q i = gl i ∧ p i ≠ gl i) {a : Nat} (ha : a < n) :
    (so_L lf S p (a + 1) + dj_pc S (a + 1)) + (so_L lf T q a + a) ≤ (so_L lf T q (a + 1) + (a + 1)) + (so_L lf S p a + dj_pc S a) := by
  obtain ⟨HA, Hp, Hr, Hc, Hs, -⟩ := H
  cases hb : S.testBit a with
  | true => rw [so_Lt hb, so_pt hb, so_Lt (hS a ha hb).2]; omega
  | false =>
    rw [so_Lf hb, so_pf hb]
    cases hc : T.testBit a with
    | true =>
      have g := hT a ha hb hc
      have g2 := Hr a (p a) (hp a ha) (Hc a (p a) (hp a ha) (g.1 ▸ hq a ha) g.2)
      rw [so_Lt hc, g2.1]; omega
    | false =>
      have g := (HA a (p a) (q a) (hp a ha) (hq a ha)).2
      rw [so_Lf hc]; omega
theorem so_mon (H : so_H n F nb rn gl rk lf nr A) {S T : Nat} {p q : Nat → Nat} (hp : ∀ i, i < n → A i (p i)) (hq : ∀ i, i < n → nb (p i) (q i)) (hS : ∀ i, i < n → S.testBit i = true → q i = p i ∧ T.testBit i = true) (hT : ∀ i, i < n → S.testBit i = false → T.testBit i = true → q i = gl i ∧ p i ≠ gl i) {a : Nat} : ∀ b, a + b ≤ n →
    (so_L lf S p (a + b) + dj_pc S (a + b)) + (so_L lf T q a + a) ≤ (so_L lf T q (a + b) + (a + b)) + (so_L lf S p a + dj_pc S a) := by
  intro b
  induction b with
  | zero => intro _; rw [Nat.add_zero]; omega
  | succ b ih =>
    intro h
    have i1 := ih (by omega)
    have i2 := so_inc H hp hq hS hT (show a + b < n by omega)
    rw [show a + (b + 1) = a + b + 1 by omega]
    omega
theorem so_mk (H : so_H n F nb rn gl rk lf nr A) {S T : Nat} {p q : Nat → Nat} {K : Nat → (Nat → Nat) → Nat → Prop} {w w2 : Nat} (hp : ∀ i, i < n → A i (p i)) (hq : ∀ i, i < n → nb (p i) (q i)) (hS : ∀ i, i < n → S.testBit i = true → q i = p i ∧ T.testBit i = true) (hT : ∀ i, i < n → S.testBit i = false → T.testBit i = true → q i = gl i ∧ p i ≠ gl i)
    (hd : ∀ i o, i < n → o < i → ¬ (q o = q i ∨ (q o = p i ∧ p o = q i))) (hT2 : T < 2 ^ n) (hq0 : ∀ i, n ≤ i → q i = 0) (hw : w2 + so_L lf T q n + n = w + so_L lf S p n + dj_pc S n) (hK : K T q w2) :
    ∀ j m T' q' w', m + j = n → T' < 2 ^ m → (∀ i, i < m → T'.testBit i = T.testBit i) → (∀ i, i < m → q' i = q i) → (∀ i, m ≤ i → q' i = 0) → w' + so_L lf T q m + m = w + so_L lf S p m + dj_pc S m → sx_mv nb gl lf nr S p K j m T' q' w' := by
  intro j
  induction j with
  | zero =>
    intro m T' q' w' hm h1 h2 h3 h4 h5
    have e : m = n := by omega
    subst e
    have e1 : T' = T := so_ext h1 hT2 h2
    have e2 : q' = q := funext (fun i => by
      rcases Nat.lt_or_ge i m with g | g
      · exact h3 i g
      · rw [h4 i g, hq0 i g])
    have e3 : w' = w2 := by omega
    subst e1 e2 e3
    exact hK
  | succ j ih =>
    intro m T' q' w' hm h1 h2 h3 h4 h5
    have hmn : m < n := by omega
    have hok : ∀ c, c = q m → sx_ok p q' m c := by
      intro c hc o ho
      rw [h3 o ho, hc]
      exact hd m o hmn ho
    have up : ∀ i, i < m + 1 → sx_up q' m (q m) i = q i := by
      intro i hi
      by_cases e : i = m
      · subst e; rw [sx_up_s]
      · rw [sx_up_n e]; exact h3 i (by omega)
    have up0 : ∀ i, m + 1 ≤ i → sx_up q' m (q m) i = 0 := fun i hi => by rw [sx_up_n (by omega)]; exact h4 i (by omega)
    have bits : T.testBit m = true → ∀ i, i < m + 1 → (T' ||| 2 ^ m).testBit i = T.testBit i := by
      intro ht i hi
      by_cases e : i = m
      · subst e; rw [sx_or_s, ht]
      · rw [sx_or_n (by omega)]; exact h2 i (by omega)
    obtain ⟨HA, Hp, Hr, Hc, Hs, -⟩ := id H
    cases hb : S.testBit m with
    | true =>
      have g := hS m hmn hb
      refine Or.inl ⟨hb, hok _ g.1.symm, ?_⟩
      rw [← g.1]
      exact ih (m + 1) _ _ w' (by omega) (sx_or h1) (bits g.2) up up0 (by rw [so_Lt g.2, so_Lt hb, so_pt hb]; omega)
    | false =>
      refine Or.inr ⟨hb, ?_⟩
      cases hc : T.testBit m with
      | true =>
        have g := hT m hmn hb hc
        have gn := Hc m (p m) (hp m hmn) (g.1 ▸ hq m hmn) g.2
        have g2 := Hr m (p m) (hp m hmn) gn
        refine Or.inl ⟨gn, hok _ g.1.symm, ?_⟩
        rw [← g.1]
        exact ih (m + 1) _ _ _ (by omega) (sx_or h1) (bits hc) up up0 (by rw [so_Lt hc, so_Lf hb, so_pf hb, g2.1]; omega)
      | false =>
        have mon := so_mon H hp hq hS hT (a := m + 1) (n - (m + 1)) (by omega)
        rw [show m + 1 + (n - (m + 1)) = n by omega, so_Lf hc, so_Lf hb, so_pf hb] at mon
        have hpp := Hp m (p m) (hp m hmn)
        refine Or.inr ⟨q m, hq m hmn, by omega, hok _ rfl, ?_⟩
        refine ih (m + 1) _ _ _ (by omega) (Nat.lt_of_lt_of_le h1 (Nat.pow_le_pow_right (by decide) (by omega))) (fun i hi => ?_) up up0 (by rw [so_Lf hc, so_Lf hb, so_pf hb]; omega)
        by_cases e : i = m
        · subst e; rw [sx_hi h1, hc]
        · exact h2 i (by omega)
theorem so_ps {S T m : Nat} : ∀ n, (∀ i, i < n → S.testBit i = true → T.testBit i = true) → m < n → S.testBit m = false → T.testBit m = true → dj_pc S n < dj_pc T n := by
  intro n
  induction n with
  | zero => intro _ h; exact absurd h (Nat.not_lt_zero _)
  | succ n ih =>
    intro h hm hS hT
    by_cases e : m = n
    · subst e
      have := so_pm m (fun i hi => h i (by omega))
      rw [so_pf hS, so_pt hT]; omega
    · have ih := ih (fun i hi => h i (by omega)) (by omega) hS hT
      cases hb : S.testBit n with
      | true => rw [so_pt hb, so_pt (h n (by omega) hb)]; omega
      | false =>
        rw [so_pf hb]
        cases hc : T.testBit n with
        | true => rw [so_pt hc]; omega
        | false => rw [so_pf hc]; exact ih
theorem so_La {lf : Nat → Nat → Nat} {S : Nat} {p : Nat → Nat} : ∀ n, (∀ i, i < n → S.testBit i = true) → so_L lf S p n = 0 := by
  intro n
  induction n with
  | zero => intro _; rfl
  | succ n ih => intro h; rw [so_Lt (h n (by omega))]; exact ih (fun i hi => h i (by omega))
/-- an end of the reference's is one of the class's -/
theorem so_B (H : so_H n F nb rn gl rk lf nr A) (hJ : dj_J n F rn (so_E n rk gl) Pay) : ∀ v, v < 200 → ∀ c p who, Pay (so_E n rk p) who ≤ v → n - dj_pc who n ≤ c → who < 2 ^ n → (∀ i, i < n → A i (p i)) → (∀ i, n ≤ i → p i = 0) →
    ∃ S k w, S < 2 ^ n ∧ (∀ i, i < n → who.testBit i = true → S.testBit i = true) ∧ (∀ i, i < n → S.testBit i = true → p i = gl i) ∧ (∀ i o, i < n → o < i → p o ≠ p i) ∧ w + so_L lf S p n ≤ Pay (so_E n rk p) who ∧ sx_E n nb gl lf nr k S p w := by
  intro v
  induction v using Nat.strongRecOn with
  | ind v ihv =>
    intro hv c
    induction c with
    | zero =>
      intro p who hP hc hw hp hp0
      obtain ⟨hr, hdis, h⟩ := hJ _ who (so_V H hp) hw (by omega)
      have hall : who = 2 ^ n - 1 := sx_bit hw (dj_pc_all n (by have := dj_pc_le who n; omega))
      obtain ⟨HA, Hp, Hr, Hc, Hs, Hk, Hi, Hn, Hx, Hg⟩ := H
      refine ⟨who, 0, 0, hw, fun _ _ h => h, fun i hi hb => ?_, fun i o hi ho e => hdis i o hi ho (by rw [so_Ei hi, so_Ei (show o < n by omega), e]), ?_, hall⟩
      · have := hr i hi hb; rw [so_Ei hi, so_Ei hi] at this; exact Hi i _ i _ (hp i hi) (Hg i hi) this
      · rw [so_La n (fun i hi => sx_bit2 hall i hi)]; exact Nat.zero_le _
    | succ c ihc =>
      intro p who hP hc hw hp hp0
      obtain ⟨hr, hdis, h⟩ := hJ _ who (so_V H hp) hw (by omega)
      have hdp : ∀ i o, i < n → o < i → p o ≠ p i := fun i o hi ho e => hdis i o hi ho (by rw [so_Ei hi, so_Ei (show o < n by omega), e])
      have H' := H
      obtain ⟨HA, Hp, Hr, Hc, Hs, Hk, Hi, Hn, Hx, Hg⟩ := H
      have hwg : ∀ i, i < n → who.testBit i = true → p i = gl i := fun i hi hb => by have := hr i hi hb; rw [so_Ei hi, so_Ei hi] at this; exact Hi i _ i _ (hp i hi) (Hg i hi) this
      rcases h with ⟨hall, h0⟩ | ⟨m, hm, hb, hg, hle⟩ | ⟨hne, q, hV, hd, hst, hle⟩
      · exact ⟨who, 0, 0, hw, fun _ _ h => h, hwg, hdp, by rw [so_La n (fun i hi => sx_bit2 hall i hi)]; exact Nat.zero_le _, hall⟩
      · have hps : dj_pc who n < dj_pc (who ^^^ 2 ^ m) n := so_ps n (fun i hi hbi => by rw [dj_xb (fun e => by rw [e, hb] at hbi; cases hbi)]; exact hbi) hm hb (by rw [dj_xs, hb]; rfl)
        obtain ⟨S, k, w, s1, s2, s3, s4, s5, s6⟩ := ihc p (who ^^^ 2 ^ m) (by omega) (by omega) (dj_xlt hw hm) hp hp0
        exact ⟨S, k, w, s1, fun i hi hbi => s2 i hi (by rw [dj_xb (fun e => by rw [e, hb] at hbi; cases hbi)]; exact hbi), s3, s4, by omega, s6⟩
      · have hpc := dj_pc_lt hw hne
        have hch : ∀ i, ∃ b, (i < n → nb (p i) b ∧ rk b = q i) ∧ (n ≤ i → b = 0) := fun i => by
          rcases Nat.lt_or_ge i n with g | g
          · have hrn := hst.2.1 i g
            rw [so_Ei g] at hrn
            obtain ⟨b, b1, b2⟩ := Hx i (p i) (q i) (hp i g) (hV.1 i g) hrn
            exact ⟨b, fun _ => ⟨b1, b2⟩, fun g2 => absurd g2 (by omega)⟩
          · exact ⟨0, fun g2 => absurd g2 (by omega), fun _ => rfl⟩
        obtain ⟨p2, hp2⟩ := Classical.axiomOfChoice hch
        have hA2 : ∀ i, i < n → A i (p2 i) := fun i hi => (HA i _ _ (hp i hi) ((hp2 i).1 hi).1).1
        have hE2 : so_E n rk p2 = q := funext (fun i => by
          rcases Nat.lt_or_ge i n with g | g
          · rw [so_Ei g]; exact ((hp2 i).1 g).2
          · rw [hV.2 i g]; exact if_neg (by omega))
        rw [← hE2] at hle
        obtain ⟨S2, k2, w2, s1, s2, s3, s4, s5, s6⟩ := ihv (Pay (so_E n rk p2) who) (by omega) (by omega) n p2 who (Nat.le_refl _) (by omega) hw hA2 (fun i hi => (hp2 i).2 hi)
        obtain ⟨S, t1, t2⟩ := so_set (fun i => S2.testBit i = true ∧ p i = gl i) n
        have nbq : ∀ i, i < n → nb (p i) (p2 i) := fun i hi => ((hp2 i).1 hi).1
        have cS : ∀ i, i < n → S.testBit i = true → p2 i = p i ∧ S2.testBit i = true := fun i hi hb => by
          have g := (t2 i hi).mp hb
          exact ⟨(s3 i hi g.1).trans g.2.symm, g.1⟩
        have cT : ∀ i, i < n → S.testBit i = false → S2.testBit i = true → p2 i = gl i ∧ p i ≠ gl i := fun i hi hb hb2 => ⟨s3 i hi hb2, fun e => by rw [(t2 i hi).mpr ⟨hb2, e⟩] at hb; cases hb⟩
        have mon := so_mon H' hp nbq cS cT (a := 0) n (by omega)
        rw [Nat.zero_add] at mon
        have z1 : so_L lf S2 p2 0 = 0 := rfl
        have z2 : so_L lf S p 0 = 0 := rfl
        have z3 : dj_pc S 0 = 0 := rfl
        have hSw : dj_pc who n ≤ dj_pc S n := so_pm n (fun i hi hb => (t2 i hi).mpr ⟨s2 i hi hb, hwg i hi hb⟩)
        have hSn := dj_pc_le S n
        have hmv := so_mk H' (w := w2 + so_L lf S2 p2 n + n - (so_L lf S p n + dj_pc S n)) (w2 := w2) (K := sx_E n nb gl lf nr k2) hp nbq cS cT (fun i o hi ho e => by
          rcases e with e | ⟨e1, e2⟩
          · exact s4 i o hi ho e
          · refine hst.2.2 i o hi ho ⟨?_, ?_⟩
            · rw [so_Ei hi, ← e1]; exact ((hp2 o).1 (by omega)).2
            · rw [so_Ei (show o < n by omega), e2]; exact ((hp2 i).1 hi).2) s1 (fun i hi => (hp2 i).2 hi) (by omega) s6 n 0 0 (fun _ => 0) _ (by omega) (by decide) (fun i hi => absurd hi (Nat.not_lt_zero _)) (fun i hi => absurd hi (Nat.not_lt_zero _)) (fun _ _ => rfl) rfl
        exact ⟨S, k2 + 1, _, t1, fun i hi hb => (t2 i hi).mpr ⟨s2 i hi hb, hwg i hi hb⟩, fun i hi hb => ((t2 i hi).mp hb).2, hdp, by omega, Or.inr hmv⟩
end SO
