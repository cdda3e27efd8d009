/-! where a laid plan goes wrong first -/
def jl_P (fw fh : Int32) (wf sf : Nat → Int32) (Ms : Nat → Nat → Int32) (x y : Int32) : Prop := (¬ x < 0 ∧ ¬ fw * fh ≤ x ∧ wf x.toNatClampNeg = 0) ∧ ∃ cnt iz, cnt ≤ 5 ∧ sf x.toNatClampNeg = nI cnt ∧ iz < cnt ∧ Ms x.toNatClampNeg iz = y
theorem jl_k {fw fh : Int32} {wf sf : Nat → Int32} {Ms : Nat → Nat → Int32} {k : Nat} {y : Int32} (hk : k < 25) : jl_P fw fh wf sf Ms (nI k) y ↔ (¬ nI k < 0 ∧ ¬ fw * fh ≤ nI k ∧ wf k = 0) ∧ ∃ cnt iz, cnt ≤ 5 ∧ sf k = nI cnt ∧ iz < cnt ∧ Ms k iz = y := by
  unfold jl_P
  rw [nI_clamp (show k < 2 ^ 31 by omega)]
def jp_ (lf : Nat → Int32) (Ml : Nat → Nat → Int32) (k t : Nat) : Int32 := Ml k (min t ((lf k).toNatClampNeg - 1))
theorem jp_e {lf : Nat → Int32} {Ml : Nat → Nat → Int32} {k t j : Nat} (h : lf k = nI (j + 1)) (hj : j < 30) : jp_ lf Ml k t = Ml k (min t j) := by
  unfold jp_
  rw [h, nI_clamp (show j + 1 < 2 ^ 31 by omega), Nat.add_sub_cancel]
def js_P (fw fh : Int32) (wf sf : Nat → Int32) (Ms : Nat → Nat → Int32) (s5 g5 lf : Nat → Int32) (Ml : Nat → Nat → Int32) (k t : Nat) : Prop := lf k = 0 ∨ (t = 0 ∧ ¬ jp_ lf Ml k 0 = s5 k) ∨ (0 < t ∧ (¬ jl_P fw fh wf sf Ms (jp_ lf Ml k (t - 1)) (jp_ lf Ml k t) ∨ (t = 29 ∧ ¬ jp_ lf Ml k t = g5 k)))
theorem js_k {fw fh : Int32} {wf sf : Nat → Int32} {Ms : Nat → Nat → Int32} {s5 g5 lf : Nat → Int32} {Ml : Nat → Nat → Int32} {k t j : Nat} (h : lf k = nI (j + 1)) (hj : j < 30) : js_P fw fh wf sf Ms s5 g5 lf Ml k t ↔ (t = 0 ∧ ¬ Ml k (min 0 j) = s5 k) ∨ (0 < t ∧ (¬ jl_P fw fh wf sf Ms (Ml k (min (t - 1) j)) (Ml k (min t j)) ∨ (t = 29 ∧ ¬ Ml k (min t j) = g5 k))) := by
  unfold js_P
  rw [jp_e h hj, jp_e h hj, jp_e h hj]
  have h0 : ¬ lf k = 0 := by rw [h]; exact nI_ne0 (by omega) (by omega)
  exact ⟨fun q => q.resolve_left h0, Or.inr⟩
def sh_P (lf : Nat → Int32) (Ml : Nat → Nat → Int32) (t a b : Nat) : Prop := jp_ lf Ml a t = jp_ lf Ml b t
def ex_P (lf : Nat → Int32) (Ml : Nat → Nat → Int32) (t a b : Nat) : Prop := jp_ lf Ml a t = jp_ lf Ml b (t - 1) ∧ jp_ lf Ml b t = jp_ lf Ml a (t - 1)
def jd_1 (n : Nat) (W : Nat → Prop) (t : Nat) (so ti le gr : Int32) : Prop := ∃ m, m < n ∧ so = 1 ∧ ti = nI t ∧ le = nI m ∧ gr = -1 ∧ W m ∧ ∀ a, a < m → ¬ W a
def jd_2 (kd : Int32) (n : Nat) (S : Nat → Nat → Prop) (t : Nat) (so ti le gr : Int32) : Prop := ∃ a b, a < b ∧ b < n ∧ so = kd ∧ ti = nI t ∧ le = nI a ∧ gr = nI b ∧ S a b ∧ (∀ c, a < c → c < b → ¬ S a c) ∧ ∀ c d, c < a → c < d → d < n → ¬ S c d
def jd_no (n : Nat) (S : Nat → Nat → Prop) : Prop := ∀ a b, a < b → b < n → ¬ S a b
def jd_cl (n : Nat) (W : Nat → Nat → Prop) (S E : Nat → Nat → Nat → Prop) (t : Nat) : Prop := (∀ m, m < n → ¬ W t m) ∧ jd_no n (S t) ∧ (0 < t → jd_no n (E t))
def jd_T (n : Nat) (W : Nat → Nat → Prop) (S E : Nat → Nat → Nat → Prop) (t : Nat) (so ti le gr : Int32) : Prop := jd_1 n (W t) t so ti le gr ∨ ((∀ m, m < n → ¬ W t m) ∧ (jd_2 2 n (S t) t so ti le gr ∨ (jd_no n (S t) ∧ 0 < t ∧ jd_2 3 n (E t) t so ti le gr)))
def jd_V (n : Nat) (W : Nat → Nat → Prop) (S E : Nat → Nat → Nat → Prop) (so ti le gr : Int32) : Prop := (so = 0 ∧ ti = -1 ∧ le = -1 ∧ gr = -1 ∧ ∀ t, t < 30 → jd_cl n W S E t) ∨ ∃ t, t < 30 ∧ (∀ u, u < t → jd_cl n W S E u) ∧ jd_T n W S E t so ti le gr
theorem jd_nc {n : Nat} {W : Nat → Nat → Prop} {S E : Nat → Nat → Nat → Prop} {t : Nat} {so ti le gr : Int32} (h : jd_T n W S E t so ti le gr) (hc : jd_cl n W S E t) : False := by
  rcases h with ⟨m, h1, _, _, _, _, h2, _⟩ | ⟨_, ⟨a, b, h1, h2, _, _, _, _, h3, _⟩ | ⟨_, h0, a, b, h1, h2, _, _, _, _, h3, _⟩⟩
  · exact hc.1 m h1 h2
  · exact hc.2.1 a b h1 h2 h3
  · exact hc.2.2 h0 a b h1 h2 h3
theorem jd_2u {kd : Int32} {n : Nat} {S : Nat → Nat → Prop} {t : Nat} {a1 a2 a3 a4 b1 b2 b3 b4 : Int32} (h : jd_2 kd n S t a1 a2 a3 a4) (k : jd_2 kd n S t b1 b2 b3 b4) : a1 = b1 ∧ a2 = b2 ∧ a3 = b3 ∧ a4 = b4 := by
  obtain ⟨a, b, h1, h2, h3, h4, h5, h6, h7, h8, h9⟩ := h
  obtain ⟨c, d, k1, k2, k3, k4, k5, k6, k7, k8, k9⟩ := k
  have e : a = c := by
    rcases Nat.lt_trichotomy a c with g | g | g
    · exact absurd h7 (k9 a b g h1 h2)
    · exact g
    · exact absurd k7 (h9 c d g k1 k2)
  subst e
  have e : b = d := by
    rcases Nat.lt_trichotomy b d with g | g | g
    · exact absurd h7 (k8 b h1 g)
    · exact g
    · exact absurd k7 (h8 d k1 g)
  subst e
  exact ⟨h3.trans k3.symm, h4.trans k4.symm, h5.trans k5.symm, h6.trans k6.symm⟩
theorem jd_Tu {n : Nat} {W : Nat → Nat → Prop} {S E : Nat → Nat → Nat → Prop} {t : Nat} {a1 a2 a3 a4 b1 b2 b3 b4 : Int32} (h : jd_T n W S E t a1 a2 a3 a4) (k : jd_T n W S E t b1 b2 b3 b4) : a1 = b1 ∧ a2 = b2 ∧ a3 = b3 ∧ a4 = b4 := by
  rcases h with ⟨m, h1, h2, h3, h4, h5, h6, h7⟩ | ⟨h0, h⟩
  · rcases k with ⟨m2, k1, k2, k3, k4, k5, k6, k7⟩ | ⟨k0, _⟩
    · have e : m = m2 := by
        rcases Nat.lt_trichotomy m m2 with g | g | g
        · exact absurd h6 (k7 m g)
        · exact g
        · exact absurd k6 (h7 m2 g)
      subst e
      exact ⟨h2.trans k2.symm, h3.trans k3.symm, h4.trans k4.symm, h5.trans k5.symm⟩
    · exact absurd h6 (k0 m h1)
  · rcases k with ⟨m2, k1, k2, k3, k4, k5, k6, k7⟩ | ⟨k0, k⟩
    · exact absurd k6 (h0 m2 k1)
    · rcases h with h | ⟨h, h', h2⟩ <;> rcases k with k | ⟨k, k', k2⟩
      · exact jd_2u h k
      · obtain ⟨a, b, c1, c2, _, _, _, _, c3, _⟩ := h; exact absurd c3 (k a b c1 c2)
      · obtain ⟨a, b, c1, c2, _, _, _, _, c3, _⟩ := k; exact absurd c3 (h a b c1 c2)
      · exact jd_2u h2 k2
theorem jd_Vu {n : Nat} {W : Nat → Nat → Prop} {S E : Nat → Nat → Nat → Prop} {a1 a2 a3 a4 b1 b2 b3 b4 : Int32} (h : jd_V n W S E a1 a2 a3 a4) (k : jd_V n W S E b1 b2 b3 b4) : a1 = b1 ∧ a2 = b2 ∧ a3 = b3 ∧ a4 = b4 := by
  rcases h with ⟨h1, h2, h3, h4, h5⟩ | ⟨t, h1, h2, h3⟩ <;> rcases k with ⟨k1, k2, k3, k4, k5⟩ | ⟨u, k1, k2, k3⟩
  · exact ⟨h1.trans k1.symm, h2.trans k2.symm, h3.trans k3.symm, h4.trans k4.symm⟩
  · exact (jd_nc k3 (h5 u k1)).elim
  · exact (jd_nc h3 (k5 t h1)).elim
  · have e : t = u := by
      rcases Nat.lt_trichotomy t u with g | g | g
      · exact (jd_nc h3 (k2 t g)).elim
      · exact g
      · exact (jd_nc k3 (h2 u g)).elim
    subst e
    exact jd_Tu h3 k3
theorem jd_2c {kd : Int32} {n : Nat} {S S2 : Nat → Nat → Prop} {t : Nat} {so ti le gr : Int32} (hc : ∀ a b, a < n → b < n → (S a b ↔ S2 a b)) (h : jd_2 kd n S t so ti le gr) : jd_2 kd n S2 t so ti le gr := by
  obtain ⟨a, b, h1, h2, h3, h4, h5, h6, h7, h8, h9⟩ := h
  exact ⟨a, b, h1, h2, h3, h4, h5, h6, (hc a b (by omega) h2).mp h7, fun c g1 g2 q => h8 c g1 g2 ((hc a c (by omega) (by omega)).mpr q), fun c d g1 g2 g3 q => h9 c d g1 g2 g3 ((hc c d (by omega) g3).mpr q)⟩
theorem jd_noc {n : Nat} {S S2 : Nat → Nat → Prop} (hc : ∀ a b, a < n → b < n → (S a b ↔ S2 a b)) (h : jd_no n S) : jd_no n S2 := fun a b g1 g2 q => h a b g1 g2 ((hc a b (by omega) g2).mpr q)
theorem jd_cg {n : Nat} {W W2 : Nat → Nat → Prop} {S E S2 E2 : Nat → Nat → Nat → Prop} {so ti le gr : Int32} (hW : ∀ t, t < 30 → (∀ u, u < t → jd_cl n W S E u) → ∀ m, m < n → (W t m ↔ W2 t m)) (hS : ∀ t, t < 30 → (∀ m, m < n → ¬ W t m) → ∀ a b, a < n → b < n → ((S t a b ↔ S2 t a b) ∧ (0 < t → (E t a b ↔ E2 t a b)))) (h : jd_V n W S E so ti le gr) : jd_V n W2 S2 E2 so ti le gr := by
  have hcl : ∀ t, t < 30 → (∀ u, u < t → jd_cl n W S E u) → jd_cl n W S E t → jd_cl n W2 S2 E2 t := by
    intro t ht hu hc
    have hs := hS t ht hc.1
    exact ⟨fun m hm q => hc.1 m hm ((hW t ht hu m hm).mpr q), jd_noc (fun a b ga gb => (hs a b ga gb).1) hc.2.1, fun h0 => jd_noc (fun a b ga gb => (hs a b ga gb).2 h0) (hc.2.2 h0)⟩
  rcases h with ⟨h1, h2, h3, h4, h5⟩ | ⟨t, h1, h2, h3⟩
  · exact Or.inl ⟨h1, h2, h3, h4, fun t ht => hcl t ht (fun u hu => h5 u (by omega)) (h5 t ht)⟩
  · refine Or.inr ⟨t, h1, fun u hu => hcl u (by omega) (fun v hv => h2 v (by omega)) (h2 u hu), ?_⟩
    have hw := hW t h1 h2
    rcases h3 with ⟨m, k1, k2, k3, k4, k5, k6, k7⟩ | ⟨k0, k⟩
    · exact Or.inl ⟨m, k1, k2, k3, k4, k5, (hw m k1).mp k6, fun a ha q => k7 a ha ((hw a (by omega)).mpr q)⟩
    · have hs := hS t h1 k0
      refine Or.inr ⟨fun m hm q => k0 m hm ((hw m hm).mpr q), ?_⟩
      rcases k with k | ⟨k1, k2, k3⟩
      · exact Or.inl (jd_2c (fun a b ga gb => (hs a b ga gb).1) k)
      · exact Or.inr ⟨jd_noc (fun a b ga gb => (hs a b ga gb).1) k1, k2, jd_2c (fun a b ga gb => (hs a b ga gb).2 k2) k3⟩
/-! the reference's place -/
def rp_l (of : Nat → Int32) (k : Nat) : Nat → Nat
  | 0 => 0
  | z + 1 => if rp_l of k z = z ∧ ¬ of (30 * k + z) = 0 then z + 1 else rp_l of k z
def rp_ (of lf : Nat → Int32) (k t : Nat) : Int32 := if rp_l of k (t + 1) = 0 then -1 else lf (30 * k + (rp_l of k (t + 1) - 1))
theorem rp_lp {of : Nat → Int32} {k z : Nat} (q : rp_l of k z = z ∧ ¬ of (30 * k + z) = 0) : rp_l of k (z + 1) = z + 1 := if_pos q
theorem rp_ln {of : Nat → Int32} {k z : Nat} (q : ¬ (rp_l of k z = z ∧ ¬ of (30 * k + z) = 0)) : rp_l of k (z + 1) = rp_l of k z := if_neg q
theorem rp_st {of : Nat → Int32} {k z : Nat} (h : rp_l of k z = z) (h0 : of (30 * k + z) = 0) : ∀ w, rp_l of k (z + 1 + w) = z := by
  intro w
  induction w with
  | zero => exact (rp_ln (fun q => q.2 h0)).trans h
  | succ w ih =>
    have e : rp_l of k (z + 1 + w + 1) = rp_l of k (z + 1 + w) := rp_ln (fun q => by have := q.1; omega)
    exact e.trans ih
theorem rp_min {of : Nat → Int32} {k L : Nat} (h1 : ∀ t, t < L → ¬ of (30 * k + t) = 0) (h2 : L < 30 → of (30 * k + L) = 0) : ∀ z, z ≤ 30 → rp_l of k z = min z L := by
  intro z
  induction z with
  | zero => intro _; rw [Nat.min_eq_left (by omega)]; rfl
  | succ z ih =>
    intro hz
    have ih := ih (by omega)
    rcases Nat.lt_or_ge z L with g | g
    · rw [Nat.min_eq_left (show z + 1 ≤ L by omega)]
      exact rp_lp ⟨ih.trans (Nat.min_eq_left (by omega)), h1 z g⟩
    · rw [Nat.min_eq_right (show L ≤ z + 1 by omega), ← Nat.min_eq_right (show L ≤ z by omega), ← ih]
      refine rp_ln (fun q => ?_)
      have e : z = L := by rw [ih, Nat.min_eq_right (by omega)] at q; omega
      subst e
      exact q.2 (h2 (by omega))
