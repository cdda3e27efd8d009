/-! in how many ways: the reference's sums -/
abbrev wr_b (W b c : Nat) : Prop := (b % W = c % W ∧ (b / W = c / W + 1 ∨ c / W = b / W + 1)) ∨ (b / W = c / W ∧ (b % W = c % W + 1 ∨ c % W = b % W + 1))
abbrev wr_d (W b c : Nat) : Prop := b = c ∨ b + W = c ∨ c + W = b ∨ (b + 1 = c ∧ ¬ c % W = 0) ∨ (c + 1 = b ∧ ¬ b % W = 0)
def wr_sum (W : Nat) (wf : Nat → Int32) (k : Nat → Int64) (c : Nat) : Nat → Int64
  | 0 => k c
  | b + 1 => if wr_b W b c ∧ wf b = 0 then wr_sum W wf k c b + k b else wr_sum W wf k c b
theorem wr_sum_p {W : Nat} {wf : Nat → Int32} {k : Nat → Int64} {c b : Nat} (q : wr_b W b c ∧ wf b = 0) : wr_sum W wf k c (b + 1) = wr_sum W wf k c b + k b := if_pos q
theorem wr_sum_n {W : Nat} {wf : Nat → Int32} {k : Nat → Int64} {c b : Nat} (q : ¬ (wr_b W b c ∧ wf b = 0)) : wr_sum W wf k c (b + 1) = wr_sum W wf k c b := if_neg q
def wr_ct (W N : Nat) (wf : Nat → Int32) (sp : Nat) : Nat → Nat → Int64
  | 0, c => if c = sp then 1 else 0
  | t + 1, c => if c < N ∧ wf c = 0 then wr_sum W wf (wr_ct W N wf sp t) c N else 0
theorem wr_ct_p {W N : Nat} {wf : Nat → Int32} {sp t c : Nat} (q : c < N ∧ wf c = 0) : wr_ct W N wf sp (t + 1) c = wr_sum W wf (wr_ct W N wf sp t) c N := if_pos q
theorem wr_ct_n {W N : Nat} {wf : Nat → Int32} {sp t c : Nat} (q : ¬ (c < N ∧ wf c = 0)) : wr_ct W N wf sp (t + 1) c = 0 := if_neg q
def wr_an (W N : Nat) (wf : Nat → Int32) (sp gl : Nat) : Nat → Int64
  | 0 => if gl = sp then 1 else 0
  | t + 1 => wr_sum W wf (fun c => if c = gl then 0 else wr_ct W N wf sp t c) gl N
theorem wr_sum_c {W : Nat} {wf : Nat → Int32} {k k2 : Nat → Int64} {c : Nat} (hc : c < 25) (h : ∀ a, a < 25 → k a = k2 a) : ∀ z, z ≤ 25 → wr_sum W wf k c z = wr_sum W wf k2 c z := by
  intro z
  induction z with
  | zero => intro _; exact h c hc
  | succ b ih =>
    intro hz
    by_cases q : wr_b W b c ∧ wf b = 0
    · rw [wr_sum_p q, wr_sum_p q, ih (by omega), h b (by omega)]
    · rw [wr_sum_n q, wr_sum_n q, ih (by omega)]
theorem wr_sum_w {W : Nat} {wf wf2 : Nat → Int32} {k : Nat → Int64} {c : Nat} (h : ∀ a, a < 25 → (wf a = 0 ↔ wf2 a = 0)) : ∀ z, z ≤ 25 → wr_sum W wf k c z = wr_sum W wf2 k c z := by
  intro z
  induction z with
  | zero => intro _; rfl
  | succ b ih =>
    intro hz
    by_cases q : wr_b W b c ∧ wf b = 0
    · rw [wr_sum_p q, wr_sum_p ⟨q.1, (h b (by omega)).mp q.2⟩, ih (by omega)]
    · have q2 : ¬ (wr_b W b c ∧ wf2 b = 0) := fun z => q ⟨z.1, (h b (by omega)).mpr z.2⟩
      rw [wr_sum_n q, wr_sum_n q2, ih (by omega)]
theorem wr_ct_w {W N : Nat} {wf wf2 : Nat → Int32} {sp : Nat} (hN : N ≤ 25) (h : ∀ a, a < 25 → (wf a = 0 ↔ wf2 a = 0)) : ∀ t c, c < 25 → wr_ct W N wf sp t c = wr_ct W N wf2 sp t c := by
  intro t
  induction t with
  | zero => intro c _; rfl
  | succ t ih =>
    intro c hc
    by_cases q : c < N ∧ wf c = 0
    · have q2 : c < N ∧ wf2 c = 0 := ⟨q.1, (h c hc).mp q.2⟩
      rw [wr_ct_p q, wr_ct_p q2, wr_sum_w h N hN, wr_sum_c hc ih N hN]
    · have q2 : ¬ (c < N ∧ wf2 c = 0) := fun z => q ⟨z.1, (h c hc).mpr z.2⟩
      rw [wr_ct_n q, wr_ct_n q2]
theorem wr_an_w {W N : Nat} {wf wf2 : Nat → Int32} {sp gl : Nat} (hN : N ≤ 25) (hg : gl < 25) (h : ∀ a, a < 25 → (wf a = 0 ↔ wf2 a = 0)) : ∀ t, wr_an W N wf sp gl t = wr_an W N wf2 sp gl t := by
  intro t
  cases t with
  | zero => rfl
  | succ t =>
    show wr_sum W wf (fun c => if c = gl then 0 else wr_ct W N wf sp t c) gl N = wr_sum W wf2 (fun c => if c = gl then 0 else wr_ct W N wf2 sp t c) gl N
    rw [wr_sum_w h N hN]
    exact wr_sum_c hg (fun a ha => by rw [wr_ct_w hN h t a ha]) N hN
theorem wr_out {W N : Nat} {wf : Nat → Int32} {sp c : Nat} (hs : sp < N) (hc : N ≤ c) : ∀ t, wr_ct W N wf sp t c = 0 := by
  intro t
  cases t with
  | zero => exact if_neg (show ¬ c = sp by omega)
  | succ t => exact wr_ct_n (fun q => by have := q.1; omega)
theorem wr_bn {W b : Nat} : ¬ wr_b W b b := by
  rintro (⟨_, h⟩ | ⟨_, h⟩) <;> omega
/-- the cell itself apart -/
theorem wr_self {W : Nat} {wf : Nat → Int32} {k : Nat → Int64} {c : Nat} : ∀ z, wr_sum W wf k c z = k c + wr_sum W wf (fun b => if b = c then 0 else k b) c z := by
  intro z
  induction z with
  | zero =>
    show k c = k c + (if c = c then 0 else k c)
    rw [if_pos rfl, Int64.add_zero]
  | succ b ih =>
    by_cases q : wr_b W b c ∧ wf b = 0
    · have e : ¬ b = c := fun e => by subst e; exact wr_bn q.1
      have e3 : wr_sum W wf (fun b => if b = c then 0 else k b) c (b + 1) = wr_sum W wf (fun b => if b = c then 0 else k b) c b + k b := (wr_sum_p q).trans (congrArg (fun v => wr_sum W wf (fun b => if b = c then 0 else k b) c b + v) (if_neg e))
      rw [wr_sum_p (k := k) q, e3, ih, Int64.add_assoc]
    · rw [wr_sum_n (k := k) q, wr_sum_n (k := fun b => if b = c then 0 else k b) q]; exact ih
/-- over all steps, the cell's own among them -/
def wr_all (W : Nat) (wf : Nat → Int32) (k : Nat → Int64) (c : Nat) : Nat → Int64
  | 0 => 0
  | b + 1 => if wr_d W b c ∧ wf b = 0 then wr_all W wf k c b + k b else wr_all W wf k c b
theorem wr_all_p {W : Nat} {wf : Nat → Int32} {k : Nat → Int64} {c b : Nat} (q : wr_d W b c ∧ wf b = 0) : wr_all W wf k c (b + 1) = wr_all W wf k c b + k b := if_pos q
theorem wr_all_n {W : Nat} {wf : Nat → Int32} {k : Nat → Int64} {c b : Nat} (q : ¬ (wr_d W b c ∧ wf b = 0)) : wr_all W wf k c (b + 1) = wr_all W wf k c b := if_neg q
theorem wr_all_s {W : Nat} {wf : Nat → Int32} {k : Nat → Int64} {c : Nat} (hW : 1 ≤ W ∧ W ≤ 6) (hc : c < 25) (hw : wf c = 0) : ∀ z, z ≤ 25 → (c < z → wr_sum W wf k c z = wr_all W wf k c z) ∧ (¬ c < z → wr_sum W wf k c z = wr_all W wf k c z + k c) := by
  intro z
  induction z with
  | zero => exact fun _ => ⟨fun h => absurd h (Nat.not_lt_zero _), fun _ => (Int64.zero_add (k c)).symm⟩
  | succ b ih =>
    intro hz
    have ih := ih (by omega)
    have ad := ft_ad0 W (by omega) hW.1 c hc b (by omega)
    by_cases e : b = c
    · subst e
      have q1 : ¬ (wr_b W b b ∧ wf b = 0) := fun z => wr_bn z.1
      have q2 : wr_d W b b ∧ wf b = 0 := ⟨Or.inl rfl, hw⟩
      refine ⟨fun _ => ?_, fun h => absurd (Nat.lt_succ_self b) h⟩
      rw [wr_sum_n q1, wr_all_p q2]
      exact ih.2 (Nat.lt_irrefl b)
    · by_cases q : wr_b W b c ∧ wf b = 0
      · have q2 : wr_d W b c ∧ wf b = 0 := ⟨ad.mpr (Or.inr q.1), q.2⟩
        rw [wr_sum_p q, wr_all_p q2]
        refine ⟨fun h => by rw [ih.1 (by omega)], fun h => ?_⟩
        rw [ih.2 (by omega), Int64.add_assoc, Int64.add_assoc, Int64.add_comm (k c) (k b)]
      · have q2 : ¬ (wr_d W b c ∧ wf b = 0) := fun z => q ⟨(ad.mp z.1).elim (fun z => absurd z e) id, z.2⟩
        rw [wr_sum_n q, wr_all_n q2]
        exact ⟨fun h => ih.1 (by omega), fun h => ih.2 (by omega)⟩
theorem wr_steps {W N : Nat} {wf : Nat → Int32} {k : Nat → Int64} {c cnt : Nat} {f : Nat → Int32} (hN : N ≤ 25) (h : fx_acc (fx_fr N wf) (fx_adj W c) 5 f cnt) :
    ∀ z, z ≤ N → ∃ m, m ≤ cnt ∧ wz_sum k f m = wr_all W wf k c z ∧ (∀ i, i < m → ∃ b, b < z ∧ f i = nI b) ∧ (∀ i, m ≤ i → i < cnt → ∃ b, z ≤ b ∧ b < 25 ∧ f i = nI b) := by
  obtain ⟨h0, h1, h2, h3⟩ := h
  have h3 : ∀ i j, i < j → j < cnt → ∀ a b, f i = nI a → f j = nI b → a < 25 → b < 25 → a < b := by
    intro i j hij hj a b ea eb ha hb
    have := h3 i j hij hj
    rw [ea, eb] at this
    exact (nI_ltI (by omega) (by omega)).mp this
  intro z
  induction z with
  | zero => exact fun _ => ⟨0, by omega, rfl, fun i hi => absurd hi (Nat.not_lt_zero _), fun i _ hi => by obtain ⟨b, _, q2, q3⟩ := h1 i hi; exact ⟨b, by omega, by have := q2.1; omega, q3⟩⟩
  | succ z ih =>
    intro hz
    obtain ⟨m, m1, m2, m3, m4⟩ := ih (by omega)
    by_cases q : wr_d W z c ∧ wf z = 0
    · obtain ⟨i, i1, i2⟩ := h2 z q.1 ⟨by omega, q.2⟩
      have im : i = m := by
        rcases Nat.lt_trichotomy i m with g | g | g
        · obtain ⟨b, b1, b2⟩ := m3 i g
          have := (nI_eq (by omega) (by omega)).mp (i2.symm.trans b2); omega
        · exact g
        · obtain ⟨b, b1, b2, b3⟩ := m4 m (Nat.le_refl _) (by omega)
          have := h3 m i g i1 b z b3 i2 b2 (by omega); omega
      subst im
      refine ⟨i + 1, by omega, ?_, fun j hj => ?_, fun j hj hj2 => ?_⟩
      · show wz_sum k f i + k (f i).toNatClampNeg = _
        rw [wr_all_p q, m2, i2, nI_clamp (by omega)]
      · by_cases e : j = i
        · subst e; exact ⟨z, by omega, i2⟩
        · obtain ⟨b, b1, b2⟩ := m3 j (by omega); exact ⟨b, by omega, b2⟩
      · obtain ⟨b, b1, b2, b3⟩ := m4 j (by omega) hj2
        have := h3 i j (by omega) hj2 z b i2 b3 (by omega) b2
        exact ⟨b, by omega, b2, b3⟩
    · refine ⟨m, m1, by rw [wr_all_n q, m2], fun j hj => ?_, fun j hj hj2 => ?_⟩
      · obtain ⟨b, b1, b2⟩ := m3 j hj; exact ⟨b, by omega, b2⟩
      · obtain ⟨b, b1, b2, b3⟩ := m4 j hj hj2
        rcases Nat.lt_or_ge z b with g | g
        · exact ⟨b, g, b2, b3⟩
        · have e : b = z := by omega
          subst e
          obtain ⟨b', c1, c2, c3⟩ := h1 j hj2
          have := (nI_eq (by omega) (by have := c2.1; omega)).mp (b3.symm.trans c3)
          subst this
          exact absurd ⟨c1, c2.2⟩ q
/-- a cell's steps, summed either way -/
theorem wr_eq {W N : Nat} {wf rf sf : Nat → Int32} {Ms : Nat → Nat → Int32} {k : Nat → Int64} {c : Nat} (hW : 1 ≤ W ∧ W ≤ 6) (hN : N ≤ 25) (h : fx_Ok W N wf rf sf Ms N) (hc : fx_fr N wf c) : wz_sum k (Ms c) (sf c).toNatClampNeg = wr_sum W wf k c N := by
  obtain ⟨cnt, e1, h2⟩ := (h c hc.1).2.2 hc.2
  obtain ⟨m, m1, m2, m3, m4⟩ := wr_steps (k := k) hN h2 N (Nat.le_refl _)
  have em : m = cnt := by
    rcases Nat.lt_or_ge m cnt with g | g
    · obtain ⟨b, b1, b2, b3⟩ := m4 m (Nat.le_refl _) g
      obtain ⟨b', _, c2, c3⟩ := h2.2.1 m g
      have := (nI_eq (by omega) (by have := c2.1; omega)).mp (b3.symm.trans c3)
      have := c2.1
      omega
    · omega
  rw [e1, nI_clamp (by have := h2.1; omega), ← em, m2]
  exact ((wr_all_s hW (by have := hc.1; omega) hc.2 N hN).1 hc.1).symm
theorem wr_cts {W N : Nat} {wf rf sf : Nat → Int32} {Ms : Nat → Nat → Int32} {sp : Nat} (hW : 1 ≤ W ∧ W ≤ 6) (hN : N ≤ 25) (h : fx_Ok W N wf rf sf Ms N) : ∀ t c, c < 25 → wz_ct N wf sf Ms sp t c = wr_ct W N wf sp t c := by
  intro t
  induction t with
  | zero => intro c _; rfl
  | succ t ih =>
    intro c hc
    by_cases q : c < N ∧ wf c = 0
    · rw [wr_ct_p q, show wz_ct N wf sf Ms sp (t + 1) c = wz_sum (wz_ct N wf sf Ms sp t) (Ms c) (sf c).toNatClampNeg from if_pos q, wr_eq hW hN h q]
      exact wr_sum_c hc ih N hN
    · rw [wr_ct_n q]; exact if_neg q
theorem wr_fin {W N : Nat} {wf rf sf : Nat → Int32} {Ms : Nat → Nat → Int32} {sp gl cc : Nat} {r : Int64} (hW : 1 ≤ W ∧ W ≤ 6) (hN : N ≤ 25) (h : fx_Ok W N wf rf sf Ms N) (hg : fx_fr N wf gl) (hr : (cc = 0 ∧ r = if sp = gl then 1 else 0) ∨ (∃ t9, cc = t9 + 1 ∧ r = wz_sum (wz_ct N wf sf Ms sp t9) (Ms gl) (sf gl).toNatClampNeg - wz_ct N wf sf Ms sp t9 gl)) : r = wr_an W N wf sp gl cc := by
  have hg25 : gl < 25 := by have := hg.1; omega
  rcases hr with ⟨rfl, rfl⟩ | ⟨t, rfl, rfl⟩
  · show (if sp = gl then (1 : Int64) else 0) = (if gl = sp then 1 else 0)
    by_cases e : sp = gl
    · rw [if_pos e, if_pos e.symm]
    · rw [if_neg e, if_neg (fun q => e q.symm)]
  · show _ = wr_sum W wf (fun c => if c = gl then 0 else wr_ct W N wf sp t c) gl N
    have e := wr_cts (sp := sp) hW hN h t
    rw [wr_eq hW hN h hg, wr_sum_c hg25 e N hN, e gl hg25, wr_self (k := wr_ct W N wf sp t) N, Int64.add_comm, Int64.add_sub_cancel]
def wa_P (W N n : Nat) (wf s g : Nat → Int32) (x y : Int32) (r : Int64) : Prop := (r = -1 ∧ ¬ ∃ k cc, k < n ∧ cc ≤ 20 ∧ x = nI k ∧ y = nI cc) ∨ ∃ k cc a b, k < n ∧ cc ≤ 20 ∧ x = nI k ∧ y = nI cc ∧ s k = nI a ∧ g k = nI b ∧ fx_fr N wf a ∧ fx_fr N wf b ∧ r = wr_an W N wf a b cc
theorem wa_n1 {n : Nat} {x y : Int32} (hn : n ≤ 5) (h : x < 0 ∨ nI n ≤ x) : ¬ ∃ k cc, k < n ∧ cc ≤ 20 ∧ x = nI k ∧ y = nI cc := fun ⟨k, _, h1, _, h3, _⟩ => ds_v hn h ⟨k, h1, h3⟩
theorem wa_n2 {n : Nat} {x y : Int32} (h : y < 0 ∨ 20 < y) : ¬ ∃ k cc, k < n ∧ cc ≤ 20 ∧ x = nI k ∧ y = nI cc := by
  rintro ⟨_, cc, _, hc, _, rfl⟩
  rcases h with h | h
  · exact absurd h (Int32.not_lt.mpr (nI_pos' (by omega)))
  · exact absurd (show nI 20 < nI cc from h) (nI_nlt hc (by decide))
theorem wr_up {p F : Nat → Int64} {z : Nat} {v : Int64} (h : ∀ c, c < z → p c = F c) (hv : v = F z) : ∀ c, c < z + 1 → vp_updL p z v c = F c := by
  intro c hc
  by_cases e : c = z
  · subst e; rw [pk_uLs, hv]
  · rw [pk_uLn e]; exact h c (by omega)
theorem wr_kp {p F : Nat → Int64} {z : Nat} {v : Int64} (h : ∀ c, c < z → p c = F c) : ∀ c, c < z → vp_updL p z v c = F c := fun c hc => (pk_uLn (show c ≠ z by omega)).trans (h c hc)
theorem wr_z {p F : Nat → Int64} {g tz cc : Nat} (e : tz + 1 = cc) (h : ∀ c, c < 25 → p c = F c) : ∀ c, c < 25 → vp_updL p g 0 c = if tz + 1 = cc ∧ c = g then 0 else F c := by
  intro c hc
  by_cases q : c = g
  · subst q; rw [pk_uLs, if_pos ⟨e, rfl⟩]
  · rw [pk_uLn q, if_neg (fun z => q z.2)]; exact h c hc
theorem wr_rd {W N cc tz sp gl : Nat} {wf : Nat → Int32} {p3 q4 p7 : Nat → Int64} (hN : N ≤ 25) (hs : sp < N) (hg : fx_fr N wf gl) (h3 : ∀ c, c < 25 → p3 c = if tz + 1 = cc ∧ c = gl then 0 else wr_ct W N wf sp tz c) (h4 : ∀ c, c < N → q4 c = if wf c = 0 then wr_sum W wf p3 c N else 0) (h7 : ∀ c, c < N → p7 c = q4 c) (h7b : ∀ c, N ≤ c → p7 c = p3 c) :
    ((tz + 1 < cc ∨ cc = 0) → ∀ c, c < 25 → p7 c = wr_ct W N wf sp (tz + 1) c) ∧ (tz + 1 = cc → p7 gl = wr_an W N wf sp gl cc) := by
  refine ⟨fun hne c hc => ?_, fun e => ?_⟩
  · have e3 : ∀ a, a < 25 → p3 a = wr_ct W N wf sp tz a := fun a ha => (h3 a ha).trans (if_neg (fun q => by have := q.1; omega))
    rcases Nat.lt_or_ge c N with g | g
    · rw [h7 c g, h4 c g]
      by_cases q : wf c = 0
      · rw [if_pos q, wr_ct_p ⟨g, q⟩]; exact wr_sum_c hc e3 N hN
      · rw [if_neg q, wr_ct_n (fun z => q z.2)]
    · rw [h7b c g, e3 c hc, wr_out hs g, wr_out hs g]
  · subst e
    have hg25 : gl < 25 := by have := hg.1; omega
    rw [h7 gl hg.1, h4 gl hg.1, if_pos hg.2]
    refine wr_sum_c hg25 (fun a ha => ?_) N hN
    rw [h3 a ha]
    by_cases q : a = gl
    · rw [if_pos ⟨rfl, q⟩, if_pos q]
    · rw [if_neg (fun z => q z.2), if_neg q]
