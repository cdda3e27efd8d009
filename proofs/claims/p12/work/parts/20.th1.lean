/-! the class's search, as mathematics: one joint step (sx_mv), an end within k steps (sx_E), the plan's next time (sx_cn) -/
def sx_up (q : Nat → Nat) (m c : Nat) : Nat → Nat := fun j => if j = m then c else q j
theorem sx_up_s {q : Nat → Nat} {m c : Nat} : sx_up q m c m = c := if_pos rfl
theorem sx_up_n {q : Nat → Nat} {m c j : Nat} (h : j ≠ m) : sx_up q m c j = q j := if_neg h
def sx_ok (p q : Nat → Nat) (m c : Nat) : Prop := ∀ o, o < m → ¬ (q o = c ∨ (q o = p m ∧ p o = c))
def sx_mv (nb : Nat → Nat → Prop) (gl : Nat → Nat) (lf : Nat → Nat → Nat) (nr : Nat → Nat → Prop) (S : Nat) (p : Nat → Nat) (K : Nat → (Nat → Nat) → Nat → Prop) : Nat → Nat → Nat → (Nat → Nat) → Nat → Prop
  | 0, _, T, q, w => K T q w
  | j + 1, m, T, q, w =>
    (S.testBit m = true ∧ sx_ok p q m (p m) ∧ sx_mv nb gl lf nr S p K j (m + 1) (T ||| 2 ^ m) (sx_up q m (p m)) w) ∨
    (S.testBit m = false ∧ ((nr m (p m) ∧ sx_ok p q m (gl m) ∧ sx_mv nb gl lf nr S p K j (m + 1) (T ||| 2 ^ m) (sx_up q m (gl m)) (w + lf m (p m) - 1)) ∨
      ∃ b, nb (p m) b ∧ lf m b ≤ w + lf m (p m) - 1 ∧ sx_ok p q m b ∧ sx_mv nb gl lf nr S p K j (m + 1) T (sx_up q m b) (w + lf m (p m) - 1 - lf m b)))
def sx_E (n : Nat) (nb : Nat → Nat → Prop) (gl : Nat → Nat) (lf : Nat → Nat → Nat) (nr : Nat → Nat → Prop) : Nat → Nat → (Nat → Nat) → Nat → Prop
  | 0, S, _, _ => S = 2 ^ n - 1
  | k + 1, S, p, w => S = 2 ^ n - 1 ∨ sx_mv nb gl lf nr S p (sx_E n nb gl lf nr k) n 0 0 (fun _ => 0) w
def sx_cn (nb : Nat → Nat → Prop) (p : Nat → Nat) (C : (Nat → Nat) → Prop) : Nat → Nat → (Nat → Nat) → Prop
  | 0, _, q => C q
  | j + 1, m, q => ∃ b, nb (p m) b ∧ sx_ok p q m b ∧ sx_cn nb p C j (m + 1) (sx_up q m b)
theorem sx_bit {n S : Nat} (hS : S < 2 ^ n) (h : ∀ i, i < n → S.testBit i = true) : S = 2 ^ n - 1 := by
  apply Nat.eq_of_testBit_eq
  intro i
  rw [Nat.testBit_two_pow_sub_one]
  by_cases g : i < n
  · rw [h i g, decide_eq_true g]
  · rw [decide_eq_false g]
    exact Nat.testBit_lt_two_pow (Nat.lt_of_lt_of_le hS (Nat.pow_le_pow_right (by decide) (by omega)))
theorem sx_bit2 {n S : Nat} (h : S = 2 ^ n - 1) (i : Nat) (hi : i < n) : S.testBit i = true := by
  rw [h, Nat.testBit_two_pow_sub_one, decide_eq_true hi]
theorem sx_or {T m : Nat} (hT : T < 2 ^ m) : T ||| 2 ^ m < 2 ^ (m + 1) := Nat.or_lt_two_pow (Nat.lt_of_lt_of_le hT (Nat.pow_le_pow_right (by decide) (by omega))) (Nat.pow_lt_pow_right (by decide) (by omega))
theorem sx_or_s {T m : Nat} : (T ||| 2 ^ m).testBit m = true := by rw [Nat.testBit_or, Nat.testBit_two_pow_self, Bool.or_true]
theorem sx_or_n {T m i : Nat} (h : i < m) : (T ||| 2 ^ m).testBit i = T.testBit i := by rw [Nat.testBit_or, Nat.testBit_two_pow_of_ne (by omega), Bool.or_false]
theorem sx_hi {T m : Nat} (hT : T < 2 ^ m) : T.testBit m = false := Nat.testBit_lt_two_pow hT
section SX
variable {n : Nat} {nb : Nat → Nat → Prop} {gl : Nat → Nat} {lf : Nat → Nat → Nat} {nr : Nat → Nat → Prop} {S : Nat} {p : Nat → Nat}
/-- a step of all, with what holds along it -/
theorem sx_mv_imp {K K' : Nat → (Nat → Nat) → Nat → Prop} (J : Nat → Nat → (Nat → Nat) → Nat → Prop)
    (h1 : ∀ m T q w, m < n → J m T q w → S.testBit m = true → sx_ok p q m (p m) → J (m + 1) (T ||| 2 ^ m) (sx_up q m (p m)) w)
    (h2 : ∀ m T q w, m < n → J m T q w → S.testBit m = false → nr m (p m) → sx_ok p q m (gl m) → J (m + 1) (T ||| 2 ^ m) (sx_up q m (gl m)) (w + lf m (p m) - 1))
    (h3 : ∀ m T q w b, m < n → J m T q w → S.testBit m = false → nb (p m) b → lf m b ≤ w + lf m (p m) - 1 → sx_ok p q m b → J (m + 1) T (sx_up q m b) (w + lf m (p m) - 1 - lf m b))
    (he : ∀ T q w, J n T q w → K T q w → K' T q w) : ∀ j m T q w, m + j = n → J m T q w → sx_mv nb gl lf nr S p K j m T q w → sx_mv nb gl lf nr S p K' j m T q w := by
  intro j
  induction j with
  | zero => intro m T q w hm hJ h; have e : m = n := by omega
            subst e; exact he T q w hJ h
  | succ j ih =>
    intro m T q w hm hJ h
    rcases h with ⟨a, b, c⟩ | ⟨a, ⟨b, c, d⟩ | ⟨b, c, d, e, f⟩⟩
    · exact Or.inl ⟨a, b, ih _ _ _ _ (by omega) (h1 m T q w (by omega) hJ a b) c⟩
    · exact Or.inr ⟨a, Or.inl ⟨b, c, ih _ _ _ _ (by omega) (h2 m T q w (by omega) hJ a b c) d⟩⟩
    · exact Or.inr ⟨a, Or.inr ⟨b, c, d, e, ih _ _ _ _ (by omega) (h3 m T q w b (by omega) hJ a c d e) f⟩⟩
theorem sx_mv_w {K : Nat → (Nat → Nat) → Nat → Prop} (hK : ∀ T q w w', w ≤ w' → K T q w → K T q w') : ∀ j m T q w w', w ≤ w' → sx_mv nb gl lf nr S p K j m T q w → sx_mv nb gl lf nr S p K j m T q w' := by
  intro j
  induction j with
  | zero => intro m T q w w' hw h; exact hK T q w w' hw h
  | succ j ih =>
    intro m T q w w' hw h
    rcases h with ⟨a, b, c⟩ | ⟨a, ⟨b, c, d⟩ | ⟨b, c, d, e, f⟩⟩
    · exact Or.inl ⟨a, b, ih _ _ _ _ _ hw c⟩
    · exact Or.inr ⟨a, Or.inl ⟨b, c, ih _ _ _ _ _ (by omega) d⟩⟩
    · exact Or.inr ⟨a, Or.inr ⟨b, c, by omega, e, ih _ _ _ _ _ (by omega) f⟩⟩
theorem sx_E_w : ∀ k S p w w', w ≤ w' → sx_E n nb gl lf nr k S p w → sx_E n nb gl lf nr k S p w' := by
  intro k
  induction k with
  | zero => intro S p w w' _ h; exact h
  | succ k ih =>
    intro S p w w' hw h
    rcases h with h | h
    · exact Or.inl h
    · exact Or.inr (sx_mv_w (fun T q w w' hw h => ih T q w w' hw h) _ _ _ _ _ _ hw h)
theorem sx_E_s : ∀ k S p w, sx_E n nb gl lf nr k S p w → sx_E n nb gl lf nr (k + 1) S p w := by
  intro k
  induction k with
  | zero => intro S p w h; exact Or.inl h
  | succ k ih =>
    intro S p w h
    rcases h with h | h
    · exact Or.inl h
    · exact Or.inr (sx_mv_imp (n := n) (fun _ _ _ _ => True) (fun _ _ _ _ _ _ _ _ => trivial) (fun _ _ _ _ _ _ _ _ _ => trivial) (fun _ _ _ _ _ _ _ _ _ _ _ => trivial) (fun T q w _ h => ih T q w h) n 0 0 _ w (by omega) trivial h)
theorem sx_E_le {k k' S : Nat} {p : Nat → Nat} {w : Nat} (h : k ≤ k') (hE : sx_E n nb gl lf nr k S p w) : sx_E n nb gl lf nr k' S p w := by
  induction h with
  | refl => exact hE
  | step _ ih => exact sx_E_s _ _ _ _ ih
/-- no path is longer than what one that hasn't settled has left and the waste -/
theorem sx_E_cut {A : Nat → Nat → Prop} (hA : ∀ m c b, A m c → nb c b → A m b ∧ lf m c ≤ lf m b + 1) (hp : ∀ m c, A m c → 1 ≤ lf m c) (hr : ∀ m c, A m c → nr m c → lf m c = 1 ∧ A m (gl m)) :
    ∀ k B S p w, S < 2 ^ n → (∀ i, i < n → A i (p i)) → (∀ i, i < n → S.testBit i = false → lf i (p i) + w ≤ B) → sx_E n nb gl lf nr k S p w → sx_E n nb gl lf nr B S p w := by
  intro k
  induction k with
  | zero => intro B S p w _ _ _ h; cases B with
    | zero => exact h
    | succ B => exact Or.inl h
  | succ k ih =>
    intro B S p w hS hAp hB h
    by_cases hall : S = 2 ^ n - 1
    · cases B with
      | zero => exact hall
      | succ B => exact Or.inl hall
    rcases h with h | h
    · exact absurd h hall
    have hex : ∃ i, i < n ∧ S.testBit i = false := by
      apply Classical.byContradiction
      intro hno
      exact hall (sx_bit hS fun i hi => by
        cases hb : S.testBit i with
        | true => rfl
        | false => exact absurd ⟨i, hi, hb⟩ hno)
    obtain ⟨i0, hi0, hb0⟩ := hex
    have hB1 : 1 ≤ B := by have h1 := hB i0 hi0 hb0; have h2 := hp i0 _ (hAp i0 hi0); omega
    obtain ⟨B, rfl⟩ : ∃ b, B = b + 1 := ⟨B - 1, by omega⟩
    refine Or.inr (sx_mv_imp (n := n) (K := sx_E n nb gl lf nr k) (fun m T q w => T < 2 ^ m ∧ (∀ i, i < m → A i (q i) ∧ (T.testBit i = false → lf i (q i) + w ≤ B)) ∧ (∀ i, m ≤ i → i < n → S.testBit i = false → lf i (p i) + w ≤ B + 1)) ?_ ?_ ?_ ?_ n 0 0 _ w (by omega) ⟨by decide, fun i hi => absurd hi (Nat.not_lt_zero _), fun i _ hi => hB i hi⟩ h)
    · intro m T q w hm ⟨h1, h2, h3⟩ hb hok
      refine ⟨sx_or h1, ?_, fun i hi => h3 i (by omega)⟩
      intro i hi
      by_cases e : i = m
      · subst e
        rw [sx_up_s]
        exact ⟨hAp i hm, fun hf => by rw [sx_or_s] at hf; cases hf⟩
      · rw [sx_up_n e, sx_or_n (by omega)]; exact h2 i (by omega)
    · intro m T q w hm ⟨h1, h2, h3⟩ hb hnr hok
      have g := hr m (p m) (hAp m hm) hnr
      refine ⟨sx_or h1, ?_, fun i hi hin hf => by have := h3 i (by omega) hin hf; omega⟩
      intro i hi
      by_cases e : i = m
      · subst e
        rw [sx_up_s]
        exact ⟨g.2, fun hf => by rw [sx_or_s] at hf; cases hf⟩
      · rw [sx_up_n e, sx_or_n (by omega)]
        exact ⟨(h2 i (by omega)).1, fun hf => by have := (h2 i (by omega)).2 hf; omega⟩
    · intro m T q w b hm ⟨h1, h2, h3⟩ hb hnb hle hok
      have g := hA m (p m) b (hAp m hm) hnb
      have g2 := h3 m (Nat.le_refl _) hm hb
      refine ⟨Nat.lt_of_lt_of_le h1 (Nat.pow_le_pow_right (by decide) (by omega)), ?_, fun i hi hin hf => by have := h3 i (by omega) hin hf; omega⟩
      intro i hi
      by_cases e : i = m
      · subst e
        rw [sx_up_s]
        exact ⟨g.1, fun _ => by omega⟩
      · rw [sx_up_n e]
        exact ⟨(h2 i (by omega)).1, fun hf => by have := (h2 i (by omega)).2 hf; omega⟩
    · intro T q w ⟨h1, h2, _⟩ hE
      exact ih B T q w h1 (fun i hi => (h2 i hi).1) (fun i hi => (h2 i hi).2) hE
/-- a step of all is one of the plan's -/
theorem sx_mv_cn {K : Nat → (Nat → Nat) → Nat → Prop} {C : (Nat → Nat) → Prop} (J : Nat → Nat → (Nat → Nat) → Nat → Prop)
    (hs : ∀ m, m < n → S.testBit m = true → nb (p m) (p m)) (hr : ∀ m, m < n → nr m (p m) → nb (p m) (gl m))
    (h1 : ∀ m T q w, m < n → J m T q w → S.testBit m = true → sx_ok p q m (p m) → J (m + 1) (T ||| 2 ^ m) (sx_up q m (p m)) w)
    (h2 : ∀ m T q w, m < n → J m T q w → S.testBit m = false → nr m (p m) → sx_ok p q m (gl m) → J (m + 1) (T ||| 2 ^ m) (sx_up q m (gl m)) (w + lf m (p m) - 1))
    (h3 : ∀ m T q w b, m < n → J m T q w → S.testBit m = false → nb (p m) b → lf m b ≤ w + lf m (p m) - 1 → sx_ok p q m b → J (m + 1) T (sx_up q m b) (w + lf m (p m) - 1 - lf m b))
    (he : ∀ T q w, J n T q w → K T q w → C q) : ∀ j m T q w, m + j = n → J m T q w → sx_mv nb gl lf nr S p K j m T q w → sx_cn nb p C j m q := by
  intro j
  induction j with
  | zero => intro m T q w hm hJ h; have e : m = n := by omega
            subst e; exact he T q w hJ h
  | succ j ih =>
    intro m T q w hm hJ h
    rcases h with ⟨a, b, c⟩ | ⟨a, ⟨b, c, d⟩ | ⟨b, c, d, e, f⟩⟩
    · exact ⟨p m, hs m (by omega) a, b, ih _ _ _ _ (by omega) (h1 m T q w (by omega) hJ a b) c⟩
    · exact ⟨gl m, hr m (by omega) b, c, ih _ _ _ _ (by omega) (h2 m T q w (by omega) hJ a b c) d⟩
    · exact ⟨b, c, e, ih _ _ _ _ (by omega) (h3 m T q w b (by omega) hJ a c d e) f⟩
end SX
def sx_sum (f : Nat → Nat) : Nat → Nat
  | 0 => 0
  | m + 1 => sx_sum f m + f m
theorem sx_sum_c {f g : Nat → Nat} {m : Nat} (h : ∀ i, i < m → f i = g i) : sx_sum f m = sx_sum g m := by
  induction m with
  | zero => rfl
  | succ m ih => show sx_sum f m + f m = sx_sum g m + g m; rw [ih (fun i hi => h i (by omega)), h m (by omega)]
theorem sx_sum_le {f g : Nat → Nat} {m : Nat} (h : ∀ i, i < m → f i ≤ g i) : sx_sum f m ≤ sx_sum g m := by
  induction m with
  | zero => exact Nat.le_refl _
  | succ m ih => show sx_sum f m + f m ≤ sx_sum g m + g m; have := ih (fun i hi => h i (by omega)); have := h m (by omega); omega
theorem sx_sum_lt {f g : Nat → Nat} {m j : Nat} (h : ∀ i, i < m → f i ≤ g i) (hj : j < m) : sx_sum f m + g j ≤ sx_sum g m + f j := by
  induction m with
  | zero => exact absurd hj (Nat.not_lt_zero _)
  | succ m ih =>
    show sx_sum f m + f m + g j ≤ sx_sum g m + g m + f j
    by_cases e : j = m
    · subst e; have := sx_sum_le (m := j) (fun i hi => h i (by omega)); omega
    · have := ih (fun i hi => h i (by omega)) (by omega); have := h m (by omega); omega
/-- since when one is at its goal -/
def sx_hs (g : Nat) (c : Nat → Nat) : Nat → Nat
  | 0 => 0
  | t + 1 => if c t = g then sx_hs g c t else t + 1
theorem sx_hs_le (g : Nat) (c : Nat → Nat) : ∀ t, sx_hs g c t ≤ t := by
  intro t
  induction t with
  | zero => exact Nat.le_refl _
  | succ t ih => unfold sx_hs; by_cases h : c t = g
                 · rw [if_pos h]; omega
                 · rw [if_neg h]; omega
theorem sx_hs_at {g : Nat} {c : Nat → Nat} : ∀ t, c t = g → c (sx_hs g c t) = g := by
  intro t
  induction t with
  | zero => exact fun h => h
  | succ t ih => intro h0; unfold sx_hs; by_cases h : c t = g
                 · rw [if_pos h]; exact ih h
                 · rw [if_neg h]; exact h0
theorem sx_hs_c {g : Nat} {c c' : Nat → Nat} : ∀ t, (∀ s, s < t → c s = c' s) → sx_hs g c t = sx_hs g c' t := by
  intro t
  induction t with
  | zero => exact fun _ => rfl
  | succ t ih => intro h; unfold sx_hs; rw [h t (by omega), ih (fun s hs => h s (by omega))]
/-- what a mover's cost is at least, with these settled -/
def sx_cst (gl : Nat → Nat) (lf : Nat → Nat → Nat) (P : Nat → Nat → Nat) (S t i : Nat) : Nat := if S.testBit i = true then sx_hs (gl i) (fun s => P s i) t else t + lf i (P t i)
def sx_CE (n : Nat) (nb : Nat → Nat → Prop) (gl : Nat → Nat) (lf : Nat → Nat → Nat) (nr : Nat → Nat → Prop) (P : Nat → Nat → Nat) (t sum S : Nat) : Prop :=
  S < 2 ^ n ∧ (∀ i, i < n → S.testBit i = true → P t i = gl i) ∧ sx_sum (sx_cst gl lf P S t) n ≤ sum ∧ sx_E n nb gl lf nr 31 S (P t) (sum - sx_sum (sx_cst gl lf P S t) n)
def sx_row (P : Nat → Nat → Nat) (t : Nat) (q : Nat → Nat) : Nat → Nat → Nat := fun s => if s = t then q else P s
theorem sx_row_s {P : Nat → Nat → Nat} {t : Nat} {q : Nat → Nat} : sx_row P t q t = q := if_pos rfl
theorem sx_row_n {P : Nat → Nat → Nat} {t s : Nat} {q : Nat → Nat} (h : s ≠ t) : sx_row P t q s = P s := if_neg h
/-- a plan that can be led to an end, and is not at it, can be led on by a time -/
theorem sx_next {n : Nat} {nb : Nat → Nat → Prop} {gl : Nat → Nat} {lf : Nat → Nat → Nat} {nr : Nat → Nat → Prop} {P : Nat → Nat → Nat} {t sum S : Nat} {A : Nat → Nat → Prop}
    (hA : ∀ m c b, A m c → nb c b → A m b ∧ lf m c ≤ lf m b + 1) (hp : ∀ m c, A m c → 1 ≤ lf m c) (hr : ∀ m c, A m c → nr m c → lf m c = 1 ∧ A m (gl m) ∧ nb c (gl m)) (hs : ∀ m c, A m c → nb c c)
    (hAp : ∀ i, i < n → A i (P t i)) (hno : ¬ ∀ i, i < n → P t i = gl i) (h : sx_CE n nb gl lf nr P t sum S) :
    sx_cn nb (P t) (fun q => ∃ S', sx_CE n nb gl lf nr (sx_row P (t + 1) q) (t + 1) sum S') n 0 (fun _ => 0) := by
  obtain ⟨hS, hg, hc, hE⟩ := h
  rcases hE with hE | hE
  · exact absurd (fun i hi => hg i hi (sx_bit2 hE i hi)) hno
  have cs : ∀ (q : Nat → Nat) (T m c T' : Nat), (∀ i, i < m → T'.testBit i = T.testBit i) → sx_sum (sx_cst gl lf (sx_row P (t + 1) (sx_up q m c)) T' (t + 1)) m = sx_sum (sx_cst gl lf (sx_row P (t + 1) q) T (t + 1)) m := by
    intro q T m c T' hT
    apply sx_sum_c
    intro i hi
    unfold sx_cst
    rw [hT i hi, sx_row_s, sx_row_s, sx_up_n (by omega), sx_hs_c (c := fun s => sx_row P (t + 1) (sx_up q m c) s i) (c' := fun s => sx_row P (t + 1) q s i) (t + 1) (fun s hs => by
      show sx_row P (t + 1) (sx_up q m c) s i = sx_row P (t + 1) q s i
      rw [sx_row_n (by omega), sx_row_n (by omega)])]
  refine sx_mv_cn (n := n) (K := sx_E n nb gl lf nr 30) (fun m T q w => T < 2 ^ m ∧ (∀ i, i < m → T.testBit i = true → q i = gl i) ∧ sx_sum (sx_cst gl lf (sx_row P (t + 1) q) T (t + 1)) m + w + sx_sum (sx_cst gl lf P S t) n ≤ sum + sx_sum (sx_cst gl lf P S t) m)
    (fun m hm _ => hs m _ (hAp m hm)) (fun m hm hn => (hr m _ (hAp m hm) hn).2.2) ?_ ?_ ?_ ?_ n 0 0 _ _ (by omega) ⟨by decide, fun i hi => absurd hi (Nat.not_lt_zero _), by show 0 + (sum - _) + _ ≤ sum + 0; omega⟩ hE
  · intro m T q w hm ⟨h1, h2, h3⟩ hb hok
    refine ⟨sx_or h1, ?_, ?_⟩
    · intro i hi hT
      by_cases e : i = m
      · subst e; rw [sx_up_s]; exact hg i hm hb
      · rw [sx_up_n e]; rw [sx_or_n (by omega)] at hT; exact h2 i (by omega) hT
    · show sx_sum _ m + sx_cst _ _ _ _ _ m + w + _ ≤ sum + (sx_sum _ m + sx_cst _ _ _ _ _ m)
      rw [cs q T m _ (T ||| 2 ^ m) (fun i hi => sx_or_n hi)]
      have e1 : sx_cst gl lf (sx_row P (t + 1) (sx_up q m (P t m))) (T ||| 2 ^ m) (t + 1) m = sx_cst gl lf P S t m := by
        unfold sx_cst
        rw [sx_or_s, hb, if_pos rfl, if_pos rfl]
        show (if sx_row P (t + 1) (sx_up q m (P t m)) t m = gl m then sx_hs (gl m) _ t else t + 1) = _
        rw [sx_row_n (by omega), if_pos (hg m hm hb)]
        exact sx_hs_c t (fun s hs => by show sx_row _ _ _ s m = _; rw [sx_row_n (by omega)])
      rw [e1]; omega
  · intro m T q w hm ⟨h1, h2, h3⟩ hb hnr hok
    have g := hr m _ (hAp m hm) hnr
    refine ⟨sx_or h1, ?_, ?_⟩
    · intro i hi hT
      by_cases e : i = m
      · subst e; rw [sx_up_s]
      · rw [sx_up_n e]; rw [sx_or_n (by omega)] at hT; exact h2 i (by omega) hT
    · show sx_sum _ m + sx_cst _ _ _ _ _ m + _ + _ ≤ sum + (sx_sum _ m + sx_cst _ _ _ _ _ m)
      rw [cs q T m _ (T ||| 2 ^ m) (fun i hi => sx_or_n hi)]
      have e1 : sx_cst gl lf (sx_row P (t + 1) (sx_up q m (gl m))) (T ||| 2 ^ m) (t + 1) m ≤ t + 1 := by
        unfold sx_cst
        rw [sx_or_s, if_pos rfl]
        exact sx_hs_le _ _ _
      have e2 : sx_cst gl lf P S t m = t + lf m (P t m) := by unfold sx_cst; rw [hb]; exact if_neg (by decide)
      omega
  · intro m T q w b hm ⟨h1, h2, h3⟩ hb hnb hle hok
    refine ⟨Nat.lt_of_lt_of_le h1 (Nat.pow_le_pow_right (by decide) (by omega)), ?_, ?_⟩
    · intro i hi hT
      by_cases e : i = m
      · subst e; rw [sx_hi h1] at hT; cases hT
      · rw [sx_up_n e]; exact h2 i (by omega) hT
    · show sx_sum _ m + sx_cst _ _ _ _ _ m + _ + _ ≤ sum + (sx_sum _ m + sx_cst _ _ _ _ _ m)
      rw [cs q T m b T (fun i hi => rfl)]
      have e1 : sx_cst gl lf (sx_row P (t + 1) (sx_up q m b)) T (t + 1) m = t + 1 + lf m b := by
        unfold sx_cst
        rw [sx_hi h1, sx_row_s, sx_up_s]; exact if_neg (by decide)
      have e2 : sx_cst gl lf P S t m = t + lf m (P t m) := by unfold sx_cst; rw [hb]; exact if_neg (by decide)
      have := hp m _ (hAp m hm)
      omega
  · intro T q w ⟨h1, h2, h3⟩ hEq
    refine ⟨T, h1, fun i hi hT => by rw [sx_row_s]; exact h2 i hi hT, by omega, ?_⟩
    rw [sx_row_s]
    exact sx_E_w 31 T q w _ (by omega) (sx_E_s 30 T q w hEq)
/-- the waste at a time of a plan that walks -/
theorem sx_waste {n : Nat} {nb : Nat → Nat → Prop} {gl : Nat → Nat} {lf wl : Nat → Nat → Nat} {P : Nat → Nat → Nat} {t S : Nat} {A : Nat → Nat → Prop}
    (hA : ∀ m c b, A m c → nb c b → A m b ∧ wl m c ≤ wl m b + 1) (hl : ∀ m c, wl m c ≤ lf m c) (h0 : ∀ m, wl m (gl m) = 0)
    (hA0 : ∀ i, i < n → A i (P 0 i)) (hw : ∀ s i, s < t → i < n → nb (P s i) (P (s + 1) i)) (hg : ∀ i, i < n → S.testBit i = true → P t i = gl i) :
    ∀ i, i < n → wl i (P 0 i) ≤ sx_cst gl lf P S t i := by
  have key : ∀ s i, s ≤ t → i < n → A i (P s i) ∧ wl i (P 0 i) ≤ wl i (P s i) + s := by
    intro s
    induction s with
    | zero => intro i _ hi; exact ⟨hA0 i hi, Nat.le_refl _⟩
    | succ s ih =>
      intro i hs hi
      have g := ih i (by omega) hi
      have g2 := hA i _ _ g.1 (hw s i (by omega) hi)
      exact ⟨g2.1, by omega⟩
  intro i hi
  unfold sx_cst
  by_cases hb : S.testBit i = true
  · rw [if_pos hb]
    have e := sx_hs_at (g := gl i) (c := fun s => P s i) t (hg i hi hb)
    have e : P (sx_hs (gl i) (fun s => P s i) t) i = gl i := e
    have g := (key _ i (sx_hs_le (gl i) (fun s => P s i) t) hi).2
    rw [e, h0] at g
    omega
  · rw [if_neg hb]
    have g := (key t i (Nat.le_refl _) hi).2
    have := hl i (P t i)
    omega
/-- the state's number -/
def sx_st (B : Nat) (d : Nat → Nat) : Nat → Nat
  | 0 => 0
  | m + 1 => sx_st B d m * B + d m
theorem sx_st_lt {B : Nat} {d : Nat → Nat} : ∀ m, (∀ i, i < m → d i < B) → sx_st B d m < B ^ m := by
  intro m
  induction m with
  | zero => intro _; exact Nat.one_pos
  | succ m ih =>
    intro h
    have g := ih (fun i hi => h i (by omega))
    have g2 := h m (by omega)
    show sx_st B d m * B + d m < B ^ (m + 1)
    rw [Nat.pow_succ]
    have : (sx_st B d m + 1) * B ≤ B ^ m * B := Nat.mul_le_mul_right _ g
    rw [Nat.succ_mul] at this
    omega
theorem sx_st_inj {B : Nat} {d d' : Nat → Nat} : ∀ m, (∀ i, i < m → d i < B) → (∀ i, i < m → d' i < B) → sx_st B d m = sx_st B d' m → ∀ i, i < m → d i = d' i := by
  intro m
  induction m with
  | zero => intro _ _ _ i hi; exact absurd hi (Nat.not_lt_zero _)
  | succ m ih =>
    intro h h' e i hi
    have e : sx_st B d m * B + d m = sx_st B d' m * B + d' m := e
    have a := h m (by omega)
    have b := h' m (by omega)
    have e1 : (sx_st B d m * B + d m) % B = d m := by rw [Nat.mul_comm, Nat.mul_add_mod, Nat.mod_eq_of_lt a]
    have e2 : (sx_st B d' m * B + d' m) % B = d' m := by rw [Nat.mul_comm, Nat.mul_add_mod, Nat.mod_eq_of_lt b]
    have e3 : d m = d' m := by rw [← e1, ← e2, e]
    by_cases g : i = m
    · rw [g]; exact e3
    · refine ih (fun i hi => h i (by omega)) (fun i hi => h' i (by omega)) ?_ i (by omega)
      have : sx_st B d m * B = sx_st B d' m * B := by omega
      exact Nat.eq_of_mul_eq_mul_right (by omega) this
theorem sx_room : ∀ F, F < 26 → ∀ n, n < 6 → F ^ n ≤ 16000 → (F + 1) ^ n ≤ 20736 := by decide
