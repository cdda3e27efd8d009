/-! the reference's walk -/
theorem mn_Rs {W : Nat} {ce : Nat → Nat} {a b : Nat} (h : mn_R W ce a b) : mn_R W ce b a := h.elim (fun q => Or.inl q.symm) (fun q => Or.inr (mv_bs_s q))
section WK
variable {n F W lim sum : Nat} {ce g pay : Nat → Nat}
/-- a step that goes on is there -/
theorem wk_ex (hF : F ≤ 25) {nf kf : Nat → Int32} (hA : mn_A W F ce F nf kf) (hJ : dj_J n F (fun a b => b < F ∧ a < F ∧ mn_R W ce a b) g (fun q who => pay (dj_enc n F q who))) (hsum : sum < 200) {now : Nat → Nat} (hnow : dj_V n F now) {paid : Nat → Option Nat} (hW : dj_Wk n g (fun q who => pay (dj_enc n F q who)) sum now paid) (hne : paid (2 ^ n - 1) ≠ some sum) :
    ∃ (ch : Nat → Nat) (who u : Nat), (∀ i, i < n → ch i < mc_R kf now 0 i) ∧ dj_dis n (rl_Q n nf now 0 ch) ∧ (∀ i k, i < n → k < i → ¬ (rl_Q n nf now 0 ch i = now k ∧ rl_Q n nf now 0 ch k = now i)) ∧ who < 2 ^ n ∧ who ≠ 2 ^ n - 1 ∧ paid who = some u ∧ go_M n g (rl_Q n nf now 0 ch) who ∧ go_M n now (rl_Q n nf now 0 ch) who ∧ u + (n - dj_pc who n) + pay (dj_enc n F (rl_Q n nf now 0 ch) who) ≤ sum := by
  obtain ⟨q, who, u, h1, h2, h3, h4, h5, h6, h7, h8⟩ := dj_go hJ (fun a b h => ⟨h.2.1, h.1, mn_Rs h.2.2⟩) hsum hnow hW hne
  obtain ⟨ch, hch⟩ := rl_choice (who := 0) hF hA hnow h1 (fun i _ hb => by rw [Nat.zero_testBit] at hb; cases hb) (fun i hi => (h3.2.1 i hi).2.2)
  have e : rl_Q n nf now 0 ch = q := by
    funext i
    unfold rl_Q
    by_cases hi : i < n
    · rw [if_pos hi]; exact (hch i hi).2
    · rw [if_neg hi, h1.2 i (by omega)]
  exact ⟨ch, who, u, fun i hi => (hch i hi).1, by rw [e]; exact h2, by rw [e]; exact h3.2.2, h4, h5, h6, by rw [e]; exact h7, by rw [e]; exact h3.1, by rw [e]; exact h8⟩
/-- what is kept over a step -/
theorem wk_step (hL : dj_L n F (fun a b => b < F ∧ a < F ∧ mn_R W ce a b) lim (fun q who => pay (dj_enc n F q who))) (hsl : sum ≤ lim) {now q : Nat → Nat} (hnow : dj_V n F now) (hdn : dj_dis n now) {paid aft : Nat → Option Nat} (hW : dj_Wk n g (fun q who => pay (dj_enc n F q who)) sum now paid) (hq : dj_V n F q) (hnr : ∀ i, i < n → mn_R W ce (now i) (q i)) (hx : ∀ i k, i < n → k < i → ¬ (q i = now k ∧ q k = now i)) (hS : ∀ i, i < 2 ^ n → go_S n g now q paid (2 ^ n) i (aft i)) :
    (∀ who v, who < 2 ^ n → aft who = some v → sum ≤ v + pay (dj_enc n F q who)) ∧ (∀ who u m, who < 2 ^ n → m < n → who.testBit m = false → q m = g m → aft who = some u → ∃ v, v ≤ u ∧ aft (who ^^^ 2 ^ m) = some v) ∧ (∀ len, (∀ who u, who < 2 ^ n → who ≠ 2 ^ n - 1 → paid who = some u → len ≤ u) → ∀ who v, who < 2 ^ n → who ≠ 2 ^ n - 1 → aft who = some v → len + 1 ≤ v) := by
  refine ⟨?_, ?_, ?_⟩
  · intro who v hw hv
    obtain ⟨-, had, u, a1, a2, a3, a4, rfl⟩ := (hS who hw).1 v hv
    exact dj_low hL (fun a b h => ⟨h.2.1, h.1, mn_Rs h.2.2⟩) hsl hnow hdn hW hq ⟨fun i hi hb => a4 i hi hb, fun i hi => ⟨hq.1 i hi, hnow.1 i hi, hnr i hi⟩, hx⟩ a1 hw a3 (fun i _ hb => px_sub2 a2 hb)
  · intro who u m hw hm hb hgm hv
    obtain ⟨b1, had, u', a1, a2, a3, a4, rfl⟩ := (hS who hw).1 u hv
    have hx2 := dj_xlt hw hm
    have hM : go_M n g q (who ^^^ 2 ^ m) := fun i hi hb9 => by
      by_cases e : i = m
      · rw [e]; exact hgm
      · rw [dj_xb e] at hb9; exact b1 i hi hb9
    obtain ⟨v, q1, q2⟩ := (hS _ hx2).2 had u' a1 a1 (px_sub a1 (fun i _ hb9 => by
      by_cases e : i = m
      · rw [e, dj_xs, hb]; rfl
      · rw [dj_xb e]; exact px_sub2 a2 hb9)) a3 a4 hM
    exact ⟨v, q1, q2⟩
  · intro len hl who v hw hne hv
    obtain ⟨-, had, u, a1, a2, a3, a4, rfl⟩ := (hS who hw).1 v hv
    have hne2 : had ≠ 2 ^ n - 1 := fun e => hne (sx_bit hw (fun i hi => px_sub2 a2 (sx_bit2 e i hi)))
    have h1 := dj_pc_lt a1 hne2
    have h2 := hl had u a1 hne2 a3
    omega
theorem wk_good (hL : dj_L n F (fun a b => b < F ∧ a < F ∧ mn_R W ce a b) lim (fun q who => pay (dj_enc n F q who))) (hsl : sum ≤ lim) {now q : Nat → Nat} (hnow : dj_V n F now) (hdn : dj_dis n now) {paid aft : Nat → Option Nat} (hW : dj_Wk n g (fun q who => pay (dj_enc n F q who)) sum now paid) (hq : dj_V n F q) (hnr : ∀ i, i < n → mn_R W ce (now i) (q i)) (hx : ∀ i k, i < n → k < i → ¬ (q i = now k ∧ q k = now i)) (hS : ∀ i, i < 2 ^ n → go_S n g now q paid (2 ^ n) i (aft i))
    {who u : Nat} (h1 : who < 2 ^ n) (h2 : paid who = some u) (h3 : go_M n g q who) (h4 : go_M n now q who) (h5 : u + (n - dj_pc who n) + pay (dj_enc n F q who) ≤ sum) : go_G n F q pay sum (2 ^ n) aft := by
  obtain ⟨v, q1, q2⟩ := (hS who h1).2 who u h1 h1 (px_sub h1 (fun i _ hb => hb)) h2 h4 h3
  have := (wk_step hL hsl hnow hdn hW hq hnr hx hS).1 who v h1 q2
  exact ⟨who, v, h1, q2, by omega⟩
theorem wk_0 (hL : dj_L n F (fun a b => b < F ∧ a < F ∧ mn_R W ce a b) lim (fun q who => pay (dj_enc n F q who))) (hsl : sum ≤ lim) {now : Nat → Nat} (hnow : dj_V n F now) (hs : pay (dj_enc n F now 0) = sum) {paid : Nat → Option Nat} (hp : ∀ who, who < 2 ^ n → (go_M n g now who ∧ paid who = some 0) ∨ (¬ go_M n g now who ∧ paid who = none)) : dj_Wk n g (fun q who => pay (dj_enc n F q who)) sum now paid := by
  have h0 : go_M n g now 0 := fun i _ hb => by rw [Nat.zero_testBit] at hb; cases hb
  refine ⟨⟨0, 0, Nat.two_pow_pos n, (hp 0 (Nat.two_pow_pos n)).elim (fun q => q.2) (fun q => absurd h0 q.1), by show 0 + pay (dj_enc n F now 0) = sum; omega⟩, ?_, ?_⟩
  · intro who u hw hu
    show sum ≤ u + pay (dj_enc n F now who)
    rcases Nat.lt_or_ge lim (pay (dj_enc n F now who)) with h | h
    · omega
    · have := dj_sub hL hnow n who 0 (by have := dj_pc_le who n; omega) hw (Nat.two_pow_pos n) (fun i _ hb => by rw [Nat.zero_testBit] at hb; cases hb) h
      have this : pay (dj_enc n F now 0) ≤ pay (dj_enc n F now who) := this
      omega
  · intro who u m hw hm hb hgm hu
    have hx2 := dj_xlt hw hm
    rcases hp who hw with ⟨a1, a2⟩ | ⟨a1, a2⟩
    · rw [a2] at hu
      have hM : go_M n g now (who ^^^ 2 ^ m) := fun i hi hb9 => by
        by_cases e : i = m
        · rw [e]; exact hgm
        · rw [dj_xb e] at hb9; exact a1 i hi hb9
      exact ⟨0, Nat.zero_le _, (hp _ hx2).elim (fun q => q.2) (fun q => absurd hM q.1)⟩
    · rw [a2] at hu; cases hu
end WK
