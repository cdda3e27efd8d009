/-! the reference's search, as mathematics: choices counted through (dj_vr), states (dj_enc), the pays (dj_Inv), the walk (dj_go, dj_low) -/
def dj_vr (R d : Nat → Nat) : Nat → Nat
  | 0 => 0
  | m + 1 => dj_vr R d m * R m + d m
theorem dj_vr_inj {R d d' : Nat → Nat} : ∀ m, (∀ i, i < m → d i < R i) → (∀ i, i < m → d' i < R i) → dj_vr R d m = dj_vr R d' m → ∀ i, i < m → d i = d' i := by
  intro m
  induction m with
  | zero => intro _ _ _ i hi; exact absurd hi (Nat.not_lt_zero _)
  | succ m ih =>
    intro h h' e i hi
    have e : dj_vr R d m * R m + d m = dj_vr R d' m * R m + d' m := e
    have a := h m (by omega)
    have b := h' m (by omega)
    have e1 : (dj_vr R d m * R m + d m) % R m = d m := by rw [Nat.mul_comm, Nat.mul_add_mod, Nat.mod_eq_of_lt a]
    have e2 : (dj_vr R d' m * R m + d' m) % R m = d' m := by rw [Nat.mul_comm, Nat.mul_add_mod, Nat.mod_eq_of_lt b]
    have e3 : d m = d' m := by rw [← e1, ← e2, e]
    by_cases g : i = m
    · rw [g]; exact e3
    · refine ih (fun i hi => h i (by omega)) (fun i hi => h' i (by omega)) ?_ i (by omega)
      have : dj_vr R d m * R m = dj_vr R d' m * R m := by omega
      exact Nat.eq_of_mul_eq_mul_right (by omega) this
theorem dj_vr_max {R d d' : Nat → Nat} : ∀ m, (∀ i, i < m → d i + 1 = R i) → (∀ i, i < m → d' i < R i) → dj_vr R d' m ≤ dj_vr R d m := by
  intro m
  induction m with
  | zero => intro _ _; exact Nat.le_refl _
  | succ m ih =>
    intro h h'
    have g := ih (fun i hi => h i (by omega)) (fun i hi => h' i (by omega))
    have a := h m (by omega)
    have b := h' m (by omega)
    show dj_vr R d' m * R m + d' m ≤ dj_vr R d m * R m + d m
    have := Nat.mul_le_mul_right (R m) g
    omega
theorem dj_vr_c {R d d' : Nat → Nat} : ∀ m, (∀ i, i < m → d i = d' i) → dj_vr R d m = dj_vr R d' m := by
  intro m
  induction m with
  | zero => intro _; rfl
  | succ m ih => intro h; show _ * _ + _ = _ * _ + _; rw [ih (fun i hi => h i (by omega)), h m (by omega)]
theorem dj_vr_next {R d e : Nat → Nat} {m : Nat} (hlt : ∀ i, i < m → e i = d i) (hm : e m = d m + 1) : ∀ k, (∀ i, m < i → i < m + 1 + k → d i + 1 = R i ∧ e i = 0) → dj_vr R e (m + 1 + k) = dj_vr R d (m + 1 + k) + 1 := by
  intro k
  induction k with
  | zero => intro _; show dj_vr R e m * R m + e m = dj_vr R d m * R m + d m + 1; rw [dj_vr_c m hlt, hm]; omega
  | succ k ih =>
    intro h
    have g := ih (fun i h1 h2 => h i h1 (by omega))
    have g2 := h (m + 1 + k) (by omega) (by omega)
    show dj_vr R e (m + 1 + k) * R (m + 1 + k) + e (m + 1 + k) = dj_vr R d (m + 1 + k) * R (m + 1 + k) + d (m + 1 + k) + 1
    rw [g, g2.2, Nat.succ_mul]
    omega
/-- the number of a joint state -/
def dj_enc (n F : Nat) (q : Nat → Nat) (who : Nat) : Nat := 2 ^ n * sx_st F (fun i => q (n - 1 - i)) n + who
def dj_V (n F : Nat) (q : Nat → Nat) : Prop := (∀ i, i < n → q i < F) ∧ ∀ i, n ≤ i → q i = 0
def dj_dec (n F x : Nat) : Nat → Nat := fun i => if i < n then x / 2 ^ n / F ^ i % F else 0
theorem dj_V_ext {n F : Nat} {p q : Nat → Nat} (hp : dj_V n F p) (hq : dj_V n F q) (h : ∀ i, i < n → p i = q i) : p = q := by
  funext i
  by_cases g : i < n
  · exact h i g
  · rw [hp.2 i (by omega), hq.2 i (by omega)]
theorem dj_enc_lt {n F who : Nat} {q : Nat → Nat} (hq : dj_V n F q) (hw : who < 2 ^ n) : dj_enc n F q who < 2 ^ n * F ^ n := by
  have g := sx_st_lt (B := F) (d := fun i => q (n - 1 - i)) n (fun i hi => hq.1 _ (by omega))
  have : 2 ^ n * (sx_st F (fun i => q (n - 1 - i)) n + 1) ≤ 2 ^ n * F ^ n := Nat.mul_le_mul_left _ g
  rw [Nat.mul_succ] at this
  unfold dj_enc
  omega
theorem dj_enc_inj {n F w w' : Nat} {p q : Nat → Nat} (hp : dj_V n F p) (hq : dj_V n F q) (hw : w < 2 ^ n) (hw' : w' < 2 ^ n) (h : dj_enc n F p w = dj_enc n F q w') : p = q ∧ w = w' := by
  unfold dj_enc at h
  have e1 : (2 ^ n * sx_st F (fun i => p (n - 1 - i)) n + w) % 2 ^ n = w := by rw [Nat.mul_add_mod, Nat.mod_eq_of_lt hw]
  have e2 : (2 ^ n * sx_st F (fun i => q (n - 1 - i)) n + w') % 2 ^ n = w' := by rw [Nat.mul_add_mod, Nat.mod_eq_of_lt hw']
  have e3 : w = w' := by rw [← e1, ← e2, h]
  have e4 : sx_st F (fun i => p (n - 1 - i)) n = sx_st F (fun i => q (n - 1 - i)) n := Nat.eq_of_mul_eq_mul_left (Nat.two_pow_pos n) (by omega)
  refine ⟨dj_V_ext hp hq fun i hi => ?_, e3⟩
  have := sx_st_inj n (fun i hi => hp.1 _ (by omega)) (fun i hi => hq.1 _ (by omega)) e4 (n - 1 - i) (by omega)
  have e5 : n - 1 - (n - 1 - i) = i := by omega
  rw [e5] at this
  exact this
theorem dj_dec_st {n F p : Nat} (hp : p < F ^ n) : ∀ k, k ≤ n → sx_st F (fun i => p / F ^ (n - 1 - i) % F) k = p / F ^ (n - k) := by
  intro k
  induction k with
  | zero => intro _; show 0 = p / F ^ (n - 0); rw [Nat.sub_zero, Nat.div_eq_of_lt hp]
  | succ k ih =>
    intro hk
    show sx_st F _ k * F + p / F ^ (n - 1 - k) % F = p / F ^ (n - (k + 1))
    rw [ih (by omega), show n - (k + 1) = n - 1 - k by omega, show n - k = (n - 1 - k) + 1 by omega, Nat.pow_succ, ← Nat.div_div_eq_div_mul]
    rw [Nat.mul_comm]
    exact Nat.div_add_mod _ _
theorem dj_dec_V {n F x : Nat} (hF : 0 < F) : dj_V n F (dj_dec n F x) := ⟨fun i hi => by unfold dj_dec; rw [if_pos hi]; exact Nat.mod_lt _ hF, fun i hi => if_neg (by omega)⟩
theorem dj_enc_dec {n F x : Nat} (hx : x < 2 ^ n * F ^ n) : dj_enc n F (dj_dec n F x) (x % 2 ^ n) = x := by
  have h1 : x / 2 ^ n < F ^ n := Nat.div_lt_of_lt_mul hx
  unfold dj_enc
  have e : sx_st F (fun i => dj_dec n F x (n - 1 - i)) n = sx_st F (fun i => x / 2 ^ n / F ^ (n - 1 - i) % F) n := by
    have : ∀ m, m ≤ n → sx_st F (fun i => dj_dec n F x (n - 1 - i)) m = sx_st F (fun i => x / 2 ^ n / F ^ (n - 1 - i) % F) m := by
      intro m
      induction m with
      | zero => intro _; rfl
      | succ m ih =>
        intro hm
        show _ * _ + dj_dec n F x (n - 1 - m) = _ * _ + _
        rw [ih (by omega)]
        unfold dj_dec
        rw [if_pos (by omega)]
    exact this n (Nat.le_refl _)
  rw [e, dj_dec_st h1 n (Nat.le_refl _), Nat.sub_self, Nat.pow_zero, Nat.div_one]
  exact Nat.div_add_mod _ _
theorem dj_enc_x {n F m who : Nat} {q : Nat → Nat} (hw : who < 2 ^ n) (hm : m < n) : dj_enc n F q who ^^^ 2 ^ m = dj_enc n F q (who ^^^ 2 ^ m) := by
  have h2 : who ^^^ 2 ^ m < 2 ^ n := Nat.xor_lt_two_pow hw (Nat.pow_lt_pow_right (by decide) hm)
  unfold dj_enc
  apply Nat.eq_of_testBit_eq
  intro i
  rw [Nat.testBit_xor, Nat.testBit_two_pow_mul_add _ hw, Nat.testBit_two_pow_mul_add _ h2]
  by_cases h : i < n
  · rw [if_pos h, if_pos h, Nat.testBit_xor]
  · rw [if_neg h, if_neg h, Nat.testBit_two_pow_of_ne (by omega), Bool.xor_false]
/-- how many are in a set -/
def dj_pc (who : Nat) : Nat → Nat
  | 0 => 0
  | m + 1 => dj_pc who m + if who.testBit m = true then 1 else 0
theorem dj_pc_le (who : Nat) : ∀ n, dj_pc who n ≤ n := by
  intro n
  induction n with
  | zero => exact Nat.le_refl _
  | succ n ih => show dj_pc who n + _ ≤ _; split <;> omega
theorem dj_pc_all {who : Nat} : ∀ n, dj_pc who n = n → ∀ i, i < n → who.testBit i = true := by
  intro n
  induction n with
  | zero => intro _ i hi; exact absurd hi (Nat.not_lt_zero _)
  | succ n ih =>
    intro h i hi
    have h : dj_pc who n + (if who.testBit n = true then 1 else 0) = n + 1 := h
    have g := dj_pc_le who n
    by_cases e : who.testBit n = true
    · rw [if_pos e] at h
      by_cases e2 : i = n
      · rw [e2]; exact e
      · exact ih (by omega) i (by omega)
    · rw [if_neg e] at h; omega
theorem dj_pc_lt {n who : Nat} (hw : who < 2 ^ n) (h : who ≠ 2 ^ n - 1) : dj_pc who n < n := by
  rcases Nat.lt_or_ge (dj_pc who n) n with g | g
  · exact g
  · exact absurd (sx_bit hw (dj_pc_all n (Nat.le_antisymm (dj_pc_le _ _) g))) h
/-- a joint step: where none that rests moves, none meets -/
def dj_dis (n : Nat) (q : Nat → Nat) : Prop := ∀ i k, i < n → k < i → q i ≠ q k
def dj_stp (n : Nat) (nr : Nat → Nat → Prop) (who : Nat) (p q : Nat → Nat) : Prop := (∀ i, i < n → who.testBit i = true → q i = p i) ∧ (∀ i, i < n → nr (p i) (q i)) ∧ ∀ i k, i < n → k < i → ¬ (q i = p k ∧ q k = p i)
theorem dj_stp_sym {n : Nat} {nr : Nat → Nat → Prop} {who : Nat} {p q : Nat → Nat} (hs : ∀ i, i < n → nr (p i) (q i) → nr (q i) (p i)) (h : dj_stp n nr who p q) : dj_stp n nr who q p :=
  ⟨fun i hi hb => (h.1 i hi hb).symm, fun i hi => hs i hi (h.2.1 i hi), fun i k hi hk e => h.2.2 i k hi hk ⟨e.2.symm, e.1.symm⟩⟩
/-- the pays while they are found: N states, at the level d -/
def dj_Inv (N : Nat) (Ed : Nat → Nat → Nat → Prop) (ok : Nat → Prop) (g0 d : Nat) (pay : Nat → Nat) (dn : Nat → Prop) : Prop :=
  (∀ y, y < N → pay y < 200 → ok y ∧ ((y = g0 ∧ pay y = 0) ∨ ∃ x c, x < N ∧ dn x ∧ Ed x y c ∧ pay x + c ≤ pay y)) ∧
  (∀ x, x < N → dn x → pay x ≤ d) ∧ (∀ y, y < N → ¬ dn y → d ≤ pay y)
theorem dj_lower {N : Nat} {Ed : Nat → Nat → Nat → Prop} {ok : Nat → Prop} {g0 d : Nat} {pay : Nat → Nat} {dn : Nat → Prop} {x y c : Nat} (h : dj_Inv N Ed ok g0 d pay dn) (hx : x < N) (hdx : dn x) (hpx : pay x = d) (hy : y < N) (hE : Ed x y c) (hok : ok y) (hny : ¬ dn y) (hlt : d + c < pay y) :
    dj_Inv N Ed ok g0 d (sx_up pay y (d + c)) dn := by
  obtain ⟨h1, h2, h3⟩ := h
  refine ⟨?_, ?_, ?_⟩
  · intro z hz hp
    by_cases e : z = y
    · subst e
      rw [sx_up_s] at hp ⊢
      refine ⟨hok, Or.inr ⟨x, c, hx, hdx, hE, ?_⟩⟩
      rw [sx_up_n (show x ≠ z from fun e => hny (by rw [← e]; exact hdx)), hpx]; exact Nat.le_refl _
    · rw [sx_up_n e] at hp ⊢
      refine ⟨(h1 z hz hp).1, ?_⟩
      rcases (h1 z hz hp).2 with q | ⟨x', c', a, b, c1, d1⟩
      · exact Or.inl q
      · exact Or.inr ⟨x', c', a, b, c1, by rw [sx_up_n (show x' ≠ y from fun e => hny (by rw [← e]; exact b))]; exact d1⟩
  · intro z hz hd
    rw [sx_up_n (show z ≠ y from fun e => hny (by rw [← e]; exact hd))]
    exact h2 z hz hd
  · intro z hz hd
    by_cases e : z = y
    · subst e; rw [sx_up_s]; omega
    · rw [sx_up_n e]; exact h3 z hz hd
/-- how many states are above the level -/
def dj_cnt (pay : Nat → Nat) (d : Nat) : Nat → Nat
  | 0 => 0
  | m + 1 => dj_cnt pay d m + if d < pay m then 1 else 0
theorem dj_cnt_le (pay : Nat → Nat) (d : Nat) : ∀ N, dj_cnt pay d N ≤ N := by
  intro N
  induction N with
  | zero => exact Nat.le_refl _
  | succ N ih => show _ + _ ≤ _; split <;> omega
theorem dj_cnt_c {pay pay' : Nat → Nat} {d : Nat} : ∀ N, (∀ i, i < N → (d < pay i ↔ d < pay' i)) → dj_cnt pay d N = dj_cnt pay' d N := by
  intro N
  induction N with
  | zero => intro _; rfl
  | succ N ih =>
    intro h
    show _ + _ = _ + _
    rw [ih (fun i hi => h i (by omega))]
    have := h N (by omega)
    by_cases e : d < pay N
    · rw [if_pos e, if_pos (this.mp e)]
    · rw [if_neg e, if_neg (fun q => e (this.mpr q))]
theorem dj_cnt_up {pay : Nat → Nat} {d y v : Nat} : ∀ N, y < N → d < pay y → v ≤ d → dj_cnt (sx_up pay y v) d N + 1 = dj_cnt pay d N := by
  intro N
  induction N with
  | zero => intro h; exact absurd h (Nat.not_lt_zero _)
  | succ N ih =>
    intro hy hp hv
    show dj_cnt _ _ N + _ + 1 = _ + _
    by_cases e : y = N
    · subst e
      rw [sx_up_s, if_pos hp, if_neg (by omega)]
      rw [dj_cnt_c y (pay := sx_up pay y v) (pay' := pay) (fun i hi => by rw [sx_up_n (by omega)])]
    · rw [sx_up_n (by omega)]
      have := ih (by omega) hp hv
      omega
theorem dj_cnt_upn {pay : Nat → Nat} {d y v N : Nat} (hp : d < pay y) (hv : d < v) : dj_cnt (sx_up pay y v) d N = dj_cnt pay d N := by
  apply dj_cnt_c
  intro i _
  by_cases e : i = y
  · subst e; rw [sx_up_s]; exact ⟨fun _ => hp, fun _ => hv⟩
  · rw [sx_up_n e]
theorem dj_cnt_at {pay : Nat → Nat} {d y : Nat} : ∀ N, y < N → pay y ≤ d → dj_cnt pay d N + 1 ≤ N := by
  intro N
  induction N with
  | zero => intro h; exact absurd h (Nat.not_lt_zero _)
  | succ N ih =>
    intro hy hp
    show _ + _ + 1 ≤ _
    by_cases e : y = N
    · subst e; rw [if_neg (by omega)]; have := dj_cnt_le pay d y; omega
    · have := ih (by omega) hp; split <;> omega
section DJW
variable {n F lim sum : Nat} {nr : Nat → Nat → Prop} {g : Nat → Nat} {Pay : (Nat → Nat) → Nat → Nat}
def dj_J (n F : Nat) (nr : Nat → Nat → Prop) (g : Nat → Nat) (Pay : (Nat → Nat) → Nat → Nat) : Prop := ∀ q who, dj_V n F q → who < 2 ^ n → Pay q who < 200 → (∀ m, m < n → who.testBit m = true → q m = g m) ∧ dj_dis n q ∧
  ((who = 2 ^ n - 1 ∧ Pay q who = 0) ∨ (∃ m, m < n ∧ who.testBit m = false ∧ q m = g m ∧ Pay q (who ^^^ 2 ^ m) ≤ Pay q who) ∨
   (who ≠ 2 ^ n - 1 ∧ ∃ q', dj_V n F q' ∧ dj_dis n q' ∧ dj_stp n nr who q' q ∧ Pay q' who + (n - dj_pc who n) ≤ Pay q who))
def dj_L (n F : Nat) (nr : Nat → Nat → Prop) (lim : Nat) (Pay : (Nat → Nat) → Nat → Nat) : Prop := ∀ q who, dj_V n F q → who < 2 ^ n → Pay q who ≤ lim → (∀ m, m < n → who.testBit m = true → Pay q (who ^^^ 2 ^ m) ≤ Pay q who) ∧
  (who ≠ 2 ^ n - 1 → ∀ q', dj_V n F q' → dj_dis n q' → dj_stp n nr who q q' → Pay q' who ≤ Pay q who + (n - dj_pc who n))
theorem dj_xb {who m i : Nat} (h : i ≠ m) : (who ^^^ 2 ^ m).testBit i = who.testBit i := by rw [Nat.testBit_xor, Nat.testBit_two_pow_of_ne (by omega), Bool.xor_false]
theorem dj_xs {who m : Nat} : (who ^^^ 2 ^ m).testBit m = !who.testBit m := by rw [Nat.testBit_xor, Nat.testBit_two_pow_self, Bool.xor_true]
theorem dj_xlt {who n m : Nat} (hw : who < 2 ^ n) (hm : m < n) : who ^^^ 2 ^ m < 2 ^ n := Nat.xor_lt_two_pow hw (Nat.pow_lt_pow_right (by decide) hm)
/-- fewer that rest pay no more -/
theorem dj_sub (hL : dj_L n F nr lim Pay) {q : Nat → Nat} (hq : dj_V n F q) : ∀ k who had, dj_pc who n ≤ k + dj_pc had n → who < 2 ^ n → had < 2 ^ n → (∀ i, i < n → had.testBit i = true → who.testBit i = true) → Pay q who ≤ lim → Pay q had ≤ Pay q who := by
  have pcx : ∀ (who m n : Nat), who.testBit m = true → dj_pc (who ^^^ 2 ^ m) n + (if m < n then 1 else 0) = dj_pc who n := by
    intro who m n hb
    induction n with
    | zero => rfl
    | succ n ih =>
      show dj_pc _ n + _ + _ = dj_pc _ n + _
      by_cases e : n = m
      · subst e
        rw [if_neg (by omega)] at ih
        rw [dj_xs, hb, if_neg (by decide), if_pos (by omega), if_pos rfl]
        omega
      · rw [dj_xb e]
        by_cases e2 : m < n
        · rw [if_pos e2] at ih; rw [if_pos (show m < n + 1 by omega)]; omega
        · rw [if_neg e2] at ih; rw [if_neg (show ¬ m < n + 1 by omega)]; omega
  have pcm : ∀ (had who n : Nat), (∀ i, i < n → had.testBit i = true → who.testBit i = true) → dj_pc had n ≤ dj_pc who n := by
    intro had who n
    induction n with
    | zero => intro _; exact Nat.le_refl _
    | succ n ih =>
      intro h
      have := ih (fun i hi => h i (by omega))
      show _ + _ ≤ _ + _
      by_cases e : had.testBit n = true
      · rw [if_pos e, if_pos (h n (by omega) e)]; omega
      · rw [if_neg e]; omega
  intro k
  induction k with
  | zero =>
    intro who had hk hw hh hs hl
    by_cases e : had = who
    · rw [e]; exact Nat.le_refl _
    · exfalso
      apply e
      apply Nat.eq_of_testBit_eq
      intro i
      by_cases hi : i < n
      · cases hb : who.testBit i with
        | false => cases hc : had.testBit i with
          | false => rfl
          | true => exact absurd ((hs i hi hc).symm.trans hb) (by decide)
        | true =>
          cases hc : had.testBit i with
          | true => rfl
          | false =>
            exfalso
            have h1 := pcx who i n hb
            rw [if_pos hi] at h1
            have h2 := pcm had (who ^^^ 2 ^ i) n (fun j hj hd => by
              rw [dj_xb (by intro e; subst e; rw [hc] at hd; cases hd)]; exact hs j hj hd)
            omega
      · rw [Nat.testBit_lt_two_pow (Nat.lt_of_lt_of_le hw (Nat.pow_le_pow_right (by decide) (by omega))), Nat.testBit_lt_two_pow (Nat.lt_of_lt_of_le hh (Nat.pow_le_pow_right (by decide) (by omega)))]
  | succ k ih =>
    intro who had hk hw hh hs hl
    by_cases e : ∃ i, i < n ∧ who.testBit i = true ∧ had.testBit i = false
    · obtain ⟨i, hi, hb, hc⟩ := e
      have h1 := pcx who i n hb
      rw [if_pos hi] at h1
      have h2 := (hL q who hq hw hl).1 i hi hb
      have h3 := ih (who ^^^ 2 ^ i) had (by omega) (dj_xlt hw hi) hh (fun j hj hd => by
        rw [dj_xb (by intro e; subst e; rw [hc] at hd; cases hd)]; exact hs j hj hd) (by omega)
      omega
    · have e2 : had = who := by
        apply Nat.eq_of_testBit_eq
        intro i
        by_cases hi : i < n
        · cases hb : who.testBit i with
          | false => cases hc : had.testBit i with
            | false => rfl
            | true => exact absurd ((hs i hi hc).symm.trans hb) (by decide)
          | true => cases hc : had.testBit i with
            | true => rfl
            | false => exact absurd ⟨i, hi, hb, hc⟩ e
        · rw [Nat.testBit_lt_two_pow (Nat.lt_of_lt_of_le hw (Nat.pow_le_pow_right (by decide) (by omega))), Nat.testBit_lt_two_pow (Nat.lt_of_lt_of_le hh (Nat.pow_le_pow_right (by decide) (by omega)))]
      rw [e2]; exact Nat.le_refl _
/-- what the walk keeps: one that pays just the sum, none that pays less, and closed under coming to rest -/
def dj_Wk (n : Nat) (g : Nat → Nat) (Pay : (Nat → Nat) → Nat → Nat) (sum : Nat) (now : Nat → Nat) (paid : Nat → Option Nat) : Prop :=
  (∃ who u, who < 2 ^ n ∧ paid who = some u ∧ u + Pay now who = sum) ∧
  (∀ who u, who < 2 ^ n → paid who = some u → sum ≤ u + Pay now who) ∧
  (∀ who u m, who < 2 ^ n → m < n → who.testBit m = false → now m = g m → paid who = some u → ∃ v, v ≤ u ∧ paid (who ^^^ 2 ^ m) = some v)
theorem dj_go (hJ : dj_J n F nr g Pay) (hsym : ∀ a b, nr a b → nr b a) (hsum : sum < 200) {now : Nat → Nat} (hnow : dj_V n F now) {paid : Nat → Option Nat} (hW : dj_Wk n g Pay sum now paid) (hne : paid (2 ^ n - 1) ≠ some sum) :
    ∃ q who u, dj_V n F q ∧ dj_dis n q ∧ dj_stp n nr who now q ∧ who < 2 ^ n ∧ who ≠ 2 ^ n - 1 ∧ paid who = some u ∧ (∀ m, m < n → who.testBit m = true → q m = g m) ∧ u + (n - dj_pc who n) + Pay q who ≤ sum := by
  obtain ⟨⟨who, u, hw, hp, hs⟩, h2, h3⟩ := hW
  have key : ∀ k who u, n ≤ dj_pc who n + k → who < 2 ^ n → paid who = some u → u + Pay now who = sum → ∃ q who u, dj_V n F q ∧ dj_dis n q ∧ dj_stp n nr who now q ∧ who < 2 ^ n ∧ who ≠ 2 ^ n - 1 ∧ paid who = some u ∧ (∀ m, m < n → who.testBit m = true → q m = g m) ∧ u + (n - dj_pc who n) + Pay q who ≤ sum := by
    intro k
    induction k with
    | zero =>
      intro who u hk hw hp hs
      have e : who = 2 ^ n - 1 := Classical.byContradiction fun e => absurd (dj_pc_lt hw e) (by omega)
      obtain ⟨hg, hd, hj⟩ := hJ now who hnow hw (by omega)
      rcases hj with ⟨-, h0⟩ | ⟨m, hm, hb, -⟩ | ⟨hn, -⟩
      · exact absurd (by rw [← e, hp]; congr 1; omega) hne
      · exact absurd (sx_bit2 e m hm) (by rw [hb]; decide)
      · exact absurd e hn
    | succ k ih =>
      intro who u hk hw hp hs
      obtain ⟨hg, hd, hj⟩ := hJ now who hnow hw (by omega)
      rcases hj with ⟨e, h0⟩ | ⟨m, hm, hb, hgm, hle⟩ | ⟨hn, q, hq, hdq, hst, hle⟩
      · exact absurd (by rw [← e, hp]; congr 1; omega) hne
      · obtain ⟨v, hv, hpv⟩ := h3 who u m hw hm hb hgm hp
        have hx := dj_xlt hw hm
        have hge := h2 _ v hx hpv
        have hpc : dj_pc who n < dj_pc (who ^^^ 2 ^ m) n := by
          have : ∀ n, dj_pc (who ^^^ 2 ^ m) n = dj_pc who n + (if m < n then 1 else 0) := by
            intro n
            induction n with
            | zero => rfl
            | succ n ih2 =>
              show dj_pc _ n + _ = dj_pc _ n + _ + _
              by_cases e : n = m
              · subst e
                rw [ih2, dj_xs, hb, if_neg (by omega), if_pos (by decide), if_neg (by decide), if_pos (by omega)]
              · rw [ih2, dj_xb e]
                by_cases e2 : m < n
                · rw [if_pos e2, if_pos (show m < n + 1 by omega)]; omega
                · rw [if_neg e2, if_neg (show ¬ m < n + 1 by omega)]; omega
          rw [this n, if_pos hm]; omega
        exact ih _ v (by omega) hx hpv (by omega)
      · refine ⟨q, who, u, hq, hdq, dj_stp_sym (fun i _ h => hsym _ _ h) hst, hw, hn, hp, ?_, by omega⟩
        intro m hm hb
        rw [← hg m hm hb]; exact (hst.1 m hm hb).symm
  exact key n who u (by omega) hw hp hs
/-- no step pays less than the sum -/
theorem dj_low (hL : dj_L n F nr lim Pay) (hsym : ∀ a b, nr a b → nr b a) (hsum : sum ≤ lim) {now : Nat → Nat} (hnow : dj_V n F now) (hdn : dj_dis n now) {paid : Nat → Option Nat} (hW : dj_Wk n g Pay sum now paid) {q : Nat → Nat} (hq : dj_V n F q) {had who u : Nat} (hst : dj_stp n nr had now q) (hh : had < 2 ^ n) (hw : who < 2 ^ n) (hp : paid had = some u) (hs : ∀ i, i < n → had.testBit i = true → who.testBit i = true) : sum ≤ u + (n - dj_pc had n) + Pay q who := by
  rcases Nat.lt_or_ge lim (Pay q who) with h | h
  · omega
  have h1 := dj_sub hL hq n who had (by have := dj_pc_le who n; omega) hw hh hs h
  have h2 := hW.2.1 had u hh hp
  by_cases e : had = 2 ^ n - 1
  · have e2 : q = now := dj_V_ext hq hnow fun i hi => hst.1 i hi (sx_bit2 e i hi)
    rw [e2] at h1 ⊢
    omega
  · have h3 := (hL q had hq hh (by omega)).2 e now hnow hdn (dj_stp_sym (fun i _ h => hsym _ _ h) hst)
    omega
end DJW
