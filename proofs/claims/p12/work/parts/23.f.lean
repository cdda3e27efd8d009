/-! the reference's distances -/
def ft_nb (W N : Nat) (wf : Nat → Int32) (c b : Nat) : Prop := fx_fr N wf b ∧ fx_adj W c b
def ft_1 (W a b : Nat) : Bool := decide (b = a ∨ b + W = a ∨ a + W = b ∨ (b + 1 = a ∧ ¬ a % W = 0) ∨ (a + 1 = b ∧ ¬ b % W = 0)) == decide (b = a ∨ (b % W = a % W ∧ (b / W = a / W + 1 ∨ a / W = b / W + 1)) ∨ (b / W = a / W ∧ (b % W = a % W + 1 ∨ a % W = b % W + 1)))
theorem ft_1a : ∀ W, W < 7 → ∀ a, a < 25 → ∀ b, b < 25 → (W == 0 || ft_1 W a b) = true := by decide +kernel
theorem ft_ad0 (W : Nat) (hW : W < 7) (h1 : 1 ≤ W) (a : Nat) (ha : a < 25) (b : Nat) (hb : b < 25) : (b = a ∨ b + W = a ∨ a + W = b ∨ (b + 1 = a ∧ ¬ a % W = 0) ∨ (a + 1 = b ∧ ¬ b % W = 0)) ↔ (b = a ∨ (b % W = a % W ∧ (b / W = a / W + 1 ∨ a / W = b / W + 1)) ∨ (b / W = a / W ∧ (b % W = a % W + 1 ∨ a % W = b % W + 1))) := by
  have h := ft_1a W hW a ha b hb
  rw [Bool.or_eq_true] at h
  rcases h with h | h
  · have h2 : W = 0 := by simpa using h
    omega
  · unfold ft_1 at h
    exact decide_eq_decide.mp (eq_of_beq h)
/-- rows of ways by another word for the steps -/
theorem wy_cv {fr : Nat → Prop} {nb nb2 : Nat → Nat → Prop} {g : Nat} {f : Nat → Int32} (hc : ∀ c b, fr c → (nb c b ↔ nb2 c b)) (h : wy_Ok fr nb g f) : wy_Ok fr nb2 g f := by
  obtain ⟨h1, h2, h3, h4, h5⟩ := h
  have hfr : ∀ c k, c < 25 → k ≤ 24 → f c = nI k → fr c := by
    intro c k hc1 hk e
    rcases h2 c hc1 with q | q
    · exact absurd (show nI k < 0 by rw [← e, q]; decide) (nI_pos (by omega))
    · exact q.1
  refine ⟨h1, h2, h3, fun c k b hc1 hk e hn => h4 c k b hc1 hk e ((hc c b (hfr c k hc1 hk e)).mpr hn), fun c k hc1 hk e => ?_⟩
  obtain ⟨b, q1, q2, q3⟩ := h5 c k hc1 hk e
  exact ⟨b, q1, (hc b c (hfr b k q1 (by omega) q3)).mp q2, q3⟩
theorem wy_cf {fr fr2 : Nat → Prop} {nb : Nat → Nat → Prop} {g : Nat} {f : Nat → Int32} (hc : ∀ c, fr c → fr2 c) (h : wy_Ok fr nb g f) : wy_Ok fr2 nb g f := ⟨h.1, fun c hc1 => (h.2.1 c hc1).imp id (fun q => ⟨hc c q.1, q.2⟩), h.2.2⟩
/-- there is one such row alone -/
theorem wy_un1 {fr : Nat → Prop} {nb : Nat → Nat → Prop} {g : Nat} {f f2 : Nat → Int32} (hg : g < 25) (h : wy_Ok fr nb g f) (h2 : wy_Ok fr nb g f2) (hnb : ∀ c b, nb c b → b < 25) : ∀ k, k ≤ 24 → ∀ c, c < 25 → (f c = nI k ↔ f2 c = nI k) := by
  intro k
  induction k using Nat.strongRecOn with
  | ind k ih =>
    intro hk
    have one : ∀ {f f2 : Nat → Int32}, wy_Ok fr nb g f → wy_Ok fr nb g f2 → (∀ j, j < k → ∀ c, c < 25 → (f c = nI j ↔ f2 c = nI j)) → ∀ c, c < 25 → f c = nI k → f2 c = nI k := by
      intro f f2 h h2 ih c hc e
      cases k with
      | zero => have := h.2.2.1 c hc e; subst this; exact h2.1
      | succ k =>
        obtain ⟨b, b1, b2, b3⟩ := h.2.2.2.2 c k hc (by omega) e
        obtain ⟨k2, q1, q2, q3⟩ := h2.2.2.2.1 b k c b1 (by omega) ((ih k (by omega) b b1).mp b3) b2
        rcases Nat.lt_or_ge k2 (k + 1) with g1 | g1
        · have e2 := (ih k2 g1 c hc).mpr q3
          have := (nI_eq (by omega) (by omega)).mp (e.symm.trans e2)
          omega
        · rw [q3]; congr 1; omega
    intro c hc
    exact ⟨one h h2 (fun j hj => ih j hj (by omega)) c hc, one h2 h (fun j hj c hc => (ih j hj (by omega) c hc).symm) c hc⟩
theorem wy_un {fr : Nat → Prop} {nb : Nat → Nat → Prop} {g : Nat} {f f2 : Nat → Int32} (hg : g < 25) (h : wy_Ok fr nb g f) (h2 : wy_Ok fr nb g f2) (hnb : ∀ c b, nb c b → b < 25) {c : Nat} (hc : c < 25) : f c = f2 c := by
  have key := wy_un1 hg h h2 hnb
  rcases h.2.1 c hc with q | ⟨_, k, hk, q⟩
  · rcases h2.2.1 c hc with q2 | ⟨_, k, hk, q2⟩
    · rw [q, q2]
    · have := (key k hk c hc).mpr q2
      rw [q] at this
      exact absurd (show nI k < 0 by rw [← this]; decide) (nI_pos (by omega))
  · rw [q, (key k hk c hc).mp q]
/-- the reference's rounds: those at d and below are found, those of d up to c (and b for c) have told theirs -/
def ff_I (fr : Nat → Prop) (nb : Nat → Nat → Prop) (g d c b : Nat) (f : Nat → Int32) : Prop :=
  f g = nI 0 ∧ (∀ a, a < 25 → f a = -1 ∨ (fr a ∧ ∃ k, k ≤ d + 1 ∧ f a = nI k)) ∧ (∀ a, a < 25 → f a = nI 0 → a = g) ∧
  (∀ a k v, a < 25 → k ≤ d → f a = nI k → (k < d ∨ a < c ∨ (a = c ∧ v < b)) → nb a v → ∃ k2, k2 ≤ k + 1 ∧ f v = nI k2) ∧ (∀ a k, a < 25 → k ≤ d → f a = nI (k + 1) → ∃ v, v < 25 ∧ nb v a ∧ f v = nI k)
theorem ff_0 {fr : Nat → Prop} {nb : Nat → Nat → Prop} {g : Nat} {f : Nat → Int32} (hg : fr g) (h1 : f g = 0) (h2 : ∀ a, a < 25 → a ≠ g → f a = -1) : ff_I fr nb g 0 0 0 f := by
  have h0 : ∀ a k, a < 25 → k < 100 → f a = nI k → a = g ∧ k = 0 := by
    intro a k ha hk e
    by_cases q : a = g
    · subst q; exact ⟨rfl, (nI_eq (by omega) (by omega)).mp (e.symm.trans (h1.trans nI_0.symm))⟩
    · exact absurd (show nI k < 0 by rw [← e, h2 a ha q]; decide) (nI_pos (by omega))
  refine ⟨h1.trans nI_0.symm, fun a ha => ?_, fun a ha e => (h0 a 0 ha (by omega) e).1, fun a k v ha hk e hv => ?_, fun a k ha hk e => ?_⟩
  · by_cases q : a = g
    · subst q; exact Or.inr ⟨hg, 0, by omega, h1.trans nI_0.symm⟩
    · exact Or.inl (h2 a ha q)
  · exfalso; omega
  · exact absurd (h0 a (k + 1) ha (by omega) e).2 (by omega)
theorem ff_add {fr : Nat → Prop} {nb : Nat → Nat → Prop} {g d c b : Nat} {f : Nat → Int32} (hd : d ≤ 24) (hc : c < 25) (hb : b < 25) (h : ff_I fr nb g d c b f) (hfc : f c = nI d) (hfb : f b = -1) (hfr : fr b) (hn : nb c b) : ff_I fr nb g d c (b + 1) (upd f b (nI (d + 1))) := by
  obtain ⟨h1, h2, h3, h4, h5⟩ := h
  have neg : ∀ k, k < 100 → ¬ f b = nI k := fun k hk e => absurd (show nI k < 0 by rw [← e, hfb]; decide) (nI_pos (by omega))
  have hne : ∀ {a k}, k < 100 → f a = nI k → a ≠ b := fun hk e q => neg _ hk (q ▸ e)
  have up : ∀ a k, k < 100 → f a = nI k → upd f b (nI (d + 1)) a = nI k := fun a k hk e => by rw [pk_un (hne hk e)]; exact e
  refine ⟨up g 0 (by omega) h1, fun a ha => ?_, fun a ha e => ?_, fun a k v ha hk e hv hnb => ?_, fun a k ha hk e => ?_⟩
  · by_cases q : a = b
    · subst q; rw [pk_us]; exact Or.inr ⟨hfr, d + 1, by omega, rfl⟩
    · rw [pk_un q]; exact h2 a ha
  · by_cases q : a = b
    · subst q; rw [pk_us] at e; exact absurd ((nI_eq (by omega) (by omega)).mp e) (by omega)
    · rw [pk_un q] at e; exact h3 a ha e
  · by_cases q : a = b
    · subst q; rw [pk_us] at e; exact absurd ((nI_eq (by omega) (by omega)).mp e) (by omega)
    · rw [pk_un q] at e
      by_cases q2 : v = b
      · subst q2
        rw [pk_us]
        rcases Nat.lt_or_ge k d with g1 | g1
        · obtain ⟨k2, _, r2⟩ := h4 a k v ha hk e (Or.inl g1) hnb
          exact absurd r2 (neg k2 (by omega))
        · exact ⟨d + 1, by omega, rfl⟩
      · rw [pk_un q2]; exact h4 a k v ha hk e (by omega) hnb
  · by_cases q : a = b
    · subst q; rw [pk_us] at e
      have := (nI_eq (by omega) (by omega)).mp e
      exact ⟨c, hc, hn, by rw [up c d (by omega) hfc]; congr 1; omega⟩
    · rw [pk_un q] at e
      obtain ⟨v, q1, q2, q3⟩ := h5 a k ha hk e
      exact ⟨v, q1, q2, up v k (by omega) q3⟩
theorem ff_skip {fr : Nat → Prop} {nb : Nat → Nat → Prop} {g d c b : Nat} {f : Nat → Int32} (h : ff_I fr nb g d c b f) (hs : nb c b → f c = nI d → ∃ k2, k2 ≤ d + 1 ∧ f b = nI k2) (hd : d ≤ 24) : ff_I fr nb g d c (b + 1) f := by
  obtain ⟨h1, h2, h3, h4, h5⟩ := h
  refine ⟨h1, h2, h3, fun a k v ha hk e hv hnb => ?_, h5⟩
  by_cases q : a = c ∧ v = b ∧ ¬ k < d
  · obtain ⟨q1, q2, q3⟩ := q
    have : k = d := by omega
    subst q1 q2 this
    exact hs hnb e
  · exact h4 a k v ha hk e (by omega) hnb
theorem ff_nc {fr : Nat → Prop} {nb : Nat → Nat → Prop} {g d c b : Nat} {f : Nat → Int32} (hnb : ∀ c v, nb c v → v < b) (h : ff_I fr nb g d c b f) : ff_I fr nb g d (c + 1) 0 f := by
  obtain ⟨h1, h2, h3, h4, h5⟩ := h
  exact ⟨h1, h2, h3, fun a k v ha hk e hv hn => h4 a k v ha hk e (by have := hnb a v hn; omega) hn, h5⟩
theorem ff_nd0 {fr : Nat → Prop} {nb : Nat → Nat → Prop} {g d c b : Nat} {f : Nat → Int32} (h : ff_I fr nb g d c b f) (hf : ¬ f c = nI d) : ff_I fr nb g d (c + 1) 0 f := by
  obtain ⟨h1, h2, h3, h4, h5⟩ := h
  refine ⟨h1, h2, h3, fun a k v ha hk e hv hn => ?_, h5⟩
  by_cases q : a = c ∧ ¬ k < d
  · obtain ⟨q1, q3⟩ := q
    have : k = d := by omega
    subst q1 this
    exact absurd e hf
  · exact h4 a k v ha hk e (by omega) hn
theorem ff_nd {fr : Nat → Prop} {nb : Nat → Nat → Prop} {g d c : Nat} {f : Nat → Int32} (hfr : ∀ a, fr a → a < c) (h : ff_I fr nb g d c 0 f) (hd : d ≤ 24) : ff_I fr nb g (d + 1) 0 0 f := by
  obtain ⟨h1, h2, h3, h4, h5⟩ := h
  have hlt : ∀ a k, a < 25 → k < 100 → f a = nI k → a < c ∧ k ≤ d + 1 := by
    intro a k ha hk e
    rcases h2 a ha with q | ⟨q, k2, q2, q3⟩
    · exact absurd (show nI k < 0 by rw [← e, q]; decide) (nI_pos (by omega))
    · have := (nI_eq (by omega) (by omega)).mp (e.symm.trans q3); exact ⟨hfr a q, by omega⟩
  refine ⟨h1, fun a ha => (h2 a ha).imp id (fun q => ⟨q.1, by obtain ⟨k, q1, q2⟩ := q.2; exact ⟨k, by omega, q2⟩⟩), h3, fun a k v ha hk e hv hn => ?_, fun a k ha hk e => ?_⟩
  · exact h4 a k v ha (by omega) e (Or.inr (Or.inl (hlt a k ha (by omega) e).1)) hn
  · exact h5 a k ha (by have := (hlt a (k + 1) ha (by omega) e).2; omega) e
theorem ff_end {fr : Nat → Prop} {nb : Nat → Nat → Prop} {g : Nat} {f : Nat → Int32} (hnb : ∀ c b, nb c b → b < 25) (h : ff_I fr nb g 25 0 0 f) : wy_Ok fr nb g f := by
  obtain ⟨h1, h2, h3, h4, h5⟩ := h
  have down : ∀ j k a, a < 25 → k ≤ 26 → f a = nI k → j ≤ k → ∃ c, c < 25 ∧ f c = nI (k - j) := by
    intro j
    induction j with
    | zero => intro k a ha hk e _; exact ⟨a, ha, e⟩
    | succ j ih =>
      intro k a ha hk e hj
      obtain ⟨c, c1, c2⟩ := ih k a ha hk e (by omega)
      obtain ⟨v, v1, _, v3⟩ := h5 c (k - (j + 1)) c1 (by omega) (by rw [c2]; congr 1; omega)
      exact ⟨v, v1, v3⟩
  have hk24 : ∀ a k, a < 25 → k ≤ 26 → f a = nI k → k ≤ 24 := by
    intro a k ha hk e
    have hq : ∀ i, ∃ c, i ≤ k → c < 25 ∧ f c = nI i := fun i => by
      by_cases q : i ≤ k
      · obtain ⟨c, c1, c2⟩ := down (k - i) k a ha hk e (by omega)
        exact ⟨c, fun _ => ⟨c1, by rw [c2]; congr 1; omega⟩⟩
      · exact ⟨0, fun q2 => absurd q2 q⟩
    obtain ⟨q, hq⟩ := Classical.axiomOfChoice hq
    have := fx_pig 25 (k + 1) q (fun i hi => (hq i (by omega)).1) (fun i j hij hj e2 => by
      have e3 := (hq i (by omega)).2
      rw [e2, (hq j (by omega)).2] at e3
      have := (nI_eq (by omega) (by omega)).mp e3
      omega)
    omega
  have hb : ∀ a, a < 25 → f a = -1 ∨ (fr a ∧ ∃ k, k ≤ 24 ∧ f a = nI k) := fun a ha => (h2 a ha).imp id (fun q => ⟨q.1, by obtain ⟨k, q1, q2⟩ := q.2; exact ⟨k, hk24 a k ha (by omega) q2, q2⟩⟩)
  refine ⟨h1, hb, h3, fun c k b hc hk e hn => ?_, fun c k hc hk e => h5 c k hc (by omega) e⟩
  obtain ⟨k2, q1, q2⟩ := h4 c k b hc (by omega) e (Or.inl (by omega)) hn
  rcases Nat.lt_or_ge b 25 with g1 | g1
  · exact ⟨k2, q1, hk24 b k2 g1 (by omega) q2, q2⟩
  · exact absurd (hnb c b hn) (by omega)
theorem ff_same {fr : Nat → Prop} {nb : Nat → Nat → Prop} {g d c b v : Nat} {f : Nat → Int32} {x : Int32} (hv : x = f v) (h : ff_I fr nb g d c b f) : ff_I fr nb g d c b (upd f v x) := by
  have e : upd f v x = f := funext (fun a => by
    by_cases q : a = v
    · subst q; rw [pk_us, hv]
    · rw [pk_un q])
  rw [e]; exact h
theorem ff_ini {g : Nat → Int32} {z gl : Nat} {v : Int32} (h : ∀ c, c < z → g c = if c = gl then 0 else -1) (hv : v = if z = gl then 0 else -1) : ∀ c, c < z + 1 → upd g z v c = if c = gl then 0 else -1 := by
  intro c hc
  by_cases e : c = z
  · subst e; rw [pk_us, hv]
  · rw [pk_un e]; exact h c (by omega)
theorem ff_s {fr : Nat → Prop} {nb : Nat → Nat → Prop} {g : Nat} {f : Nat → Int32} (hg : fr g) (hg25 : g < 25) (h : ∀ c, c < 25 → f c = if c = g then 0 else -1) : ff_I fr nb g 0 0 0 f := ff_0 hg (by rw [h g hg25, if_pos rfl]) (fun a ha hn => by rw [h a ha, if_neg hn])
def ds_P (W N n : Nat) (wf s g : Nat → Int32) (x r : Int32) : Prop := (r = -1 ∧ ¬ ∃ k, k < n ∧ x = nI k) ∨ ∃ k a b f, k < n ∧ x = nI k ∧ s k = nI a ∧ g k = nI b ∧ fx_fr N wf a ∧ fx_fr N wf b ∧ wy_Ok (fx_fr N wf) (ft_nb W N wf) b f ∧ r = f a
theorem ds_v {n : Nat} {x : Int32} (hn : n ≤ 5) (h : x < 0 ∨ nI n ≤ x) : ¬ ∃ k, k < n ∧ x = nI k := by
  rintro ⟨a, ha, rfl⟩
  rcases h with h | h
  · exact absurd h (Int32.not_lt.mpr (nI_pos' (by omega)))
  · exact absurd h (nI_ge ha (by omega))
theorem ds_mv {W N : Nat} {wf : Nat → Int32} {b : Nat} {f : Nat → Int32} (h : wy_Ok (fx_fr N wf) (ft_nb W N wf) b f) : ∀ c, c < 25 → f c = -1 ∨ ∃ k, k ≤ 25 ∧ f c = nI k := fun c hc => (h.2.1 c hc).imp id (fun q => by obtain ⟨k, q1, q2⟩ := q.2; exact ⟨k, by omega, q2⟩)
