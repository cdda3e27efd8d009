/-- as many different numbers as there are -/
theorem fx_pig : ∀ (N n : Nat) (q : Nat → Nat), (∀ i, i < n → q i < N) → (∀ i j, i < j → j < n → q i ≠ q j) → n ≤ N := by
  intro N
  induction N with
  | zero => intro n q h _; cases n with
    | zero => exact Nat.le_refl _
    | succ n => exact absurd (h 0 (by omega)) (Nat.not_lt_zero _)
  | succ N ih =>
    intro n q h hd
    by_cases e : ∃ i, i < n ∧ q i = N
    · obtain ⟨i0, hi0, he⟩ := e
      cases n with
      | zero => omega
      | succ n =>
        refine Nat.succ_le_succ (ih n (fun i => if i < i0 then q i else q (i + 1)) ?_ ?_)
        · intro i hi
          show (if i < i0 then q i else q (i + 1)) < N
          by_cases g : i < i0
          · rw [if_pos g]
            have := h i (by omega); have := hd i i0 g hi0; omega
          · rw [if_neg g]
            have := h (i + 1) (by omega); have := hd i0 (i + 1) (by omega) (by omega); omega
        · intro i j hij hj
          show (if i < i0 then q i else q (i + 1)) ≠ (if j < i0 then q j else q (j + 1))
          by_cases g : i < i0
          · by_cases g2 : j < i0
            · rw [if_pos g, if_pos g2]; exact hd i j hij (by omega)
            · rw [if_pos g, if_neg g2]; exact hd i (j + 1) (by omega) (by omega)
          · rw [if_neg g, if_neg (show ¬ j < i0 by omega)]; exact hd (i + 1) (j + 1) (by omega) (by omega)
    · have := ih n q (fun i hi => by have := h i hi; have : q i ≠ N := fun e2 => e ⟨i, hi, e2⟩; omega) hd
      omega
/-- where one step leads, by the floor's rows -/
def fx_nb (sf : Nat → Int32) (Ms : Nat → Nat → Int32) (c b : Nat) : Prop := b < 25 ∧ ∃ cnt i, cnt ≤ 5 ∧ sf c = nI cnt ∧ i < cnt ∧ Ms c i = nI b
theorem fx_steps {W N : Nat} {wf rf sf : Nat → Int32} {Ms : Nat → Nat → Int32} (h : fx_Ok W N wf rf sf Ms N) {c : Nat} (hc : fx_fr N wf c) : ∃ cnt, cnt ≤ 5 ∧ sf c = nI cnt ∧ ∀ i, i < cnt → ∃ b, fx_fr N wf b ∧ Ms c i = nI b := by
  obtain ⟨cnt, h1, h2⟩ := (h c hc.1).2.2 hc.2
  exact ⟨cnt, h2.1, h1, fun i hi => by obtain ⟨b, _, q2, q3⟩ := h2.2.1 i hi; exact ⟨b, q2, q3⟩⟩
theorem fx_nb_iff {W N : Nat} {wf rf sf : Nat → Int32} {Ms : Nat → Nat → Int32} (hN : N ≤ 25) (h : fx_Ok W N wf rf sf Ms N) {c b : Nat} (hc : fx_fr N wf c) : fx_nb sf Ms c b ↔ fx_fr N wf b ∧ fx_adj W c b := by
  obtain ⟨cnt, h1, h2⟩ := (h c hc.1).2.2 hc.2
  constructor
  · rintro ⟨hb, cnt', i, g1, g2, g3, g4⟩
    have e : cnt = cnt' := (nI_eq (by have := h2.1; omega) (by omega)).mp (h1.symm.trans g2)
    subst e
    obtain ⟨b', q1, q2, q3⟩ := h2.2.1 i g3
    have e2 : b' = b := (nI_eq (by have := q2.1; omega) (by omega)).mp (q3.symm.trans g4)
    subst e2
    exact ⟨q2, q1⟩
  · rintro ⟨h3, h4⟩
    obtain ⟨i, q1, q2⟩ := h2.2.2.1 b h4 h3
    exact ⟨by have := h3.1; omega, cnt, i, h2.1, h1, q1, q2⟩
/-- the breadth first search: x of z in the queue are done -/
def bf_I (fr : Nat → Prop) (nb : Nat → Nat → Prop) (g x z : Nat) (q lv : Nat → Nat) (qf f : Nat → Int32) : Prop :=
  0 < z ∧ (∀ i, i < z → qf i = nI (q i) ∧ fr (q i) ∧ f (q i) = nI (lv i) ∧ lv i ≤ i) ∧ (∀ i j, i < j → j < z → q i ≠ q j ∧ lv i ≤ lv j) ∧ (∀ c, c < 25 → f c = -1 ∨ ∃ i, i < z ∧ q i = c) ∧
  (∀ i, i < x → i < z → ∀ b, nb (q i) b → ∃ j, j < z ∧ q j = b ∧ lv j ≤ lv i + 1) ∧ (q 0 = g ∧ lv 0 = 0 ∧ ∀ i, 0 < i → i < z → ∃ j, j < i ∧ nb (q j) (q i) ∧ lv i = lv j + 1) ∧ (x < z → ∀ j, j < z → lv j ≤ lv x + 1)
theorem bf_z {fr : Nat → Prop} {nb : Nat → Nat → Prop} {g x z : Nat} {q lv : Nat → Nat} {qf f : Nat → Int32} (hfr : ∀ c, fr c → c < 25) (h : bf_I fr nb g x z q lv qf f) : z ≤ 25 := fx_pig 25 z q (fun i hi => hfr _ (h.2.1 i hi).2.1) (fun i j h1 h2 => (h.2.2.1 i j h1 h2).1)
theorem bf_push {fr : Nat → Prop} {nb : Nat → Nat → Prop} {g x z b : Nat} {q lv : Nat → Nat} {qf f : Nat → Int32} (hfr : ∀ c, fr c → c < 25) (h : bf_I fr nb g x z q lv qf f) (hx : x < z) (hn : nb (q x) b) (hb : fr b) (hf : f b = -1) :
    z < 25 ∧ bf_I fr nb g x (z + 1) (sx_up q z b) (sx_up lv z (lv x + 1)) (upd qf z (nI b)) (upd f b (nI (lv x + 1))) := by
  have hne : ∀ i, i < z → q i ≠ b := by
    intro i hi e
    have := (h.2.1 i hi).2.2.1
    rw [e, hf] at this
    have h9 := (h.2.1 i hi).2.2.2
    have h8 := bf_z hfr h
    have h7 : nI (lv i) < 0 := by rw [← this]; decide
    exact nI_pos (by omega) h7
  have hI : bf_I fr nb g x (z + 1) (sx_up q z b) (sx_up lv z (lv x + 1)) (upd qf z (nI b)) (upd f b (nI (lv x + 1))) := by
    obtain ⟨h0, h1, h2, h3, h4, ⟨h5, h5b, h5c⟩, h6⟩ := h
    refine ⟨by omega, ?_, ?_, ?_, ?_, ⟨?_, ?_, ?_⟩, ?_⟩
    · intro i hi
      by_cases e : i = z
      · subst e
        rw [sx_up_s, sx_up_s, pk_us, pk_us]
        exact ⟨rfl, hb, rfl, by have := (h1 x hx).2.2.2; omega⟩
      · rw [sx_up_n e, sx_up_n e, pk_un e, pk_un (hne i (by omega))]
        exact h1 i (by omega)
    · intro i j hij hj
      by_cases e : j = z
      · subst e
        rw [sx_up_s, sx_up_s, sx_up_n (show i ≠ j by omega), sx_up_n (show i ≠ j by omega)]
        exact ⟨hne i hij, h6 hx i hij⟩
      · rw [sx_up_n e, sx_up_n e, sx_up_n (show i ≠ z by omega), sx_up_n (show i ≠ z by omega)]
        exact h2 i j hij (by omega)
    · intro c hc
      by_cases e : c = b
      · exact Or.inr ⟨z, by omega, by rw [sx_up_s, e]⟩
      · rw [pk_un e]
        rcases h3 c hc with q1 | ⟨i, q1, q2⟩
        · exact Or.inl q1
        · exact Or.inr ⟨i, by omega, by rw [sx_up_n (by omega)]; exact q2⟩
    · intro i hi hz b' hb'
      rw [sx_up_n (show i ≠ z by omega)] at hb'
      obtain ⟨j, q1, q2, q3⟩ := h4 i hi (by omega) b' hb'
      exact ⟨j, by omega, by rw [sx_up_n (by omega)]; exact q2, by rw [sx_up_n (by omega), sx_up_n (by omega)]; exact q3⟩
    · rw [sx_up_n (by omega)]; exact h5
    · rw [sx_up_n (by omega)]; exact h5b
    · intro i hi hz
      by_cases e : i = z
      · subst e
        exact ⟨x, hx, by rw [sx_up_s, sx_up_n (show x ≠ i by omega)]; exact hn, by rw [sx_up_s, sx_up_n (show x ≠ i by omega)]⟩
      · obtain ⟨j, q1, q2, q3⟩ := h5c i hi (by omega)
        exact ⟨j, q1, by rw [sx_up_n e, sx_up_n (show j ≠ z by omega)]; exact q2, by rw [sx_up_n e, sx_up_n (show j ≠ z by omega)]; exact q3⟩
    · intro _ j hj
      rw [sx_up_n (show x ≠ z by omega)]
      by_cases e : j = z
      · rw [e, sx_up_s]; exact Nat.le_refl _
      · rw [sx_up_n e]; exact h6 hx j (by omega)
  exact ⟨by have := bf_z hfr hI; omega, hI⟩
theorem bf_done {fr : Nat → Prop} {nb : Nat → Nat → Prop} {g x z : Nat} {q lv : Nat → Nat} {qf f : Nat → Int32} (h : bf_I fr nb g x z q lv qf f) (hx : x < z) (hd : ∀ b, nb (q x) b → ∃ j, j < z ∧ q j = b ∧ lv j ≤ lv x + 1) : bf_I fr nb g (x + 1) z q lv qf f := by
  obtain ⟨h0, h1, h2, h3, h4, h5, h6⟩ := h
  refine ⟨h0, h1, h2, h3, ?_, h5, ?_⟩
  · intro i hi hz b hb
    by_cases e : i = x
    · subst e; exact hd b hb
    · exact h4 i (by omega) hz b hb
  · intro hx1 j hj
    have := h6 hx j hj
    have := (h2 x (x + 1) (by omega) hx1).2
    omega
/-- what a row of ways says -/
def wy_Ok (fr : Nat → Prop) (nb : Nat → Nat → Prop) (g : Nat) (f : Nat → Int32) : Prop :=
  f g = nI 0 ∧ (∀ c, c < 25 → f c = -1 ∨ (fr c ∧ ∃ k, k ≤ 24 ∧ f c = nI k)) ∧ (∀ c, c < 25 → f c = nI 0 → c = g) ∧
  (∀ c k b, c < 25 → k ≤ 24 → f c = nI k → nb c b → ∃ k', k' ≤ k + 1 ∧ k' ≤ 24 ∧ f b = nI k') ∧ (∀ c k, c < 25 → k ≤ 23 → f c = nI (k + 1) → ∃ b, b < 25 ∧ nb b c ∧ f b = nI k)
theorem bf_end {fr : Nat → Prop} {nb : Nat → Nat → Prop} {g x z : Nat} {q lv : Nat → Nat} {qf f : Nat → Int32} (hfr : ∀ c, fr c → c < 25) (h : bf_I fr nb g x z q lv qf f) (hx : z ≤ x) : wy_Ok fr nb g f := by
  have hz := bf_z hfr h
  obtain ⟨h0, h1, h2, h3, h4, ⟨h5, h5b, h5c⟩, h6⟩ := h
  have hl : ∀ i, i < z → lv i ≤ 24 := fun i hi => by have := (h1 i hi).2.2.2; omega
  have hm : ∀ c k, c < 25 → k ≤ 24 → f c = nI k → ∃ i, i < z ∧ q i = c ∧ lv i = k := by
    intro c k hc hk hf
    rcases h3 c hc with e | ⟨i, hi, e⟩
    · rw [hf] at e
      have h7 : nI k < 0 := by rw [e]; decide
      exact absurd h7 (nI_pos (by omega))
    · refine ⟨i, hi, e, ?_⟩
      have := (h1 i hi).2.2.1
      rw [e, hf] at this
      exact ((nI_eq (by omega) (by have := hl i hi; omega)).mp this).symm
  refine ⟨by have := (h1 0 h0).2.2.1; rw [h5, h5b] at this; exact this, ?_, ?_, ?_, ?_⟩
  · intro c hc
    rcases h3 c hc with e | ⟨i, hi, e⟩
    · exact Or.inl e
    · subst e; exact Or.inr ⟨(h1 i hi).2.1, lv i, hl i hi, (h1 i hi).2.2.1⟩
  · intro c hc hf
    obtain ⟨i, hi, e, e2⟩ := hm c 0 hc (by omega) hf
    rcases Nat.eq_zero_or_pos i with e3 | e3
    · rw [← e, e3, h5]
    · obtain ⟨j, _, _, q3⟩ := h5c i e3 hi; omega
  · intro c k b hc hk hf hn
    obtain ⟨i, hi, e, e2⟩ := hm c k hc hk hf
    obtain ⟨j, q1, q2, q3⟩ := h4 i (by omega) hi b (by rw [e]; exact hn)
    exact ⟨lv j, by omega, hl j q1, by rw [← q2]; exact (h1 j q1).2.2.1⟩
  · intro c k hc hk hf
    obtain ⟨i, hi, e, e2⟩ := hm c (k + 1) hc (by omega) hf
    rcases Nat.eq_zero_or_pos i with e3 | e3
    · rw [e3, h5b] at e2; omega
    · obtain ⟨j, q1, q2, q3⟩ := h5c i e3 hi
      exact ⟨q j, hfr _ (h1 j (by omega)).2.1, by rw [← e]; exact q2, by rw [(h1 j (by omega)).2.2.1]; congr 1; omega⟩
theorem bf_start {fr : Nat → Prop} {nb : Nat → Nat → Prop} {g : Nat} {qf f : Nat → Int32} (hg : fr g) (hf : ∀ j, j < 25 → f j = -1) : bf_I fr nb g 0 1 (fun _ => g) (fun _ => 0) (upd qf 0 (nI g)) (upd f g (nI 0)) := by
  refine ⟨by omega, ?_, ?_, ?_, ?_, ⟨rfl, rfl, ?_⟩, fun _ j _ => by show 0 ≤ 0 + 1; omega⟩
  · intro i hi
    have e : i = 0 := by omega
    subst e
    exact ⟨pk_us, hg, pk_us, Nat.le_refl _⟩
  · intro i j hij hj; omega
  · intro c hc
    by_cases e : c = g
    · exact Or.inr ⟨0, by omega, e.symm⟩
    · rw [pk_un e]; exact Or.inl (hf c hc)
  · intro i hi; exact absurd hi (Nat.not_lt_zero _)
  · intro i hi hz; omega
