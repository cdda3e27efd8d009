section PX3
variable {F n N W0 : Nat} {wf rk sc g5 : Nat → Int32} {Ms Mg : Nat → Nat → Int32} {gl sp : Nat → Nat}
/-- the plan up to a time -/
def px_Pl (n N : Nat) (wf sc : Nat → Int32) (Ms Mg : Nat → Nat → Int32) (sp : Nat → Nat) (Mp : Nat → Nat → Int32) (P : Nat → Nat → Nat) (t : Nat) : Prop :=
  (∀ s, s ≤ t → (∀ i, n ≤ i → P s i = 0) ∧ ∀ i, i < n → Mp s i = nI (P s i)) ∧ (∀ i, i < n → P 0 i = sp i ∧ px_A n N wf Mg i (sp i)) ∧ ∀ s i, s < t → i < n → fx_nb sc Ms (P s i) (P (s + 1) i)
theorem px_PlA (hC : px_C F n N W0 wf rk sc g5 Ms Mg gl) {Mp : Nat → Nat → Int32} {P : Nat → Nat → Nat} {t : Nat} (h : px_Pl n N wf sc Ms Mg sp Mp P t) : ∀ s i, s ≤ t → i < n → px_A n N wf Mg i (P s i) := by
  intro s
  induction s with
  | zero => intro i _ hi; rw [(h.2.1 i hi).1]; exact (h.2.1 i hi).2
  | succ s ih => intro i hs hi; exact (px_step hC i _ _ (ih i (by omega) hi) (h.2.2 s i (by omega) hi)).1
def px_le (n : Nat) (Mg : Nat → Nat → Int32) (sp : Nat → Nat) : Nat := sx_sum (fun i => px_wl Mg i (sp i)) n
def px_cs (gl : Nat → Nat) (Mg : Nat → Nat → Int32) (P : Nat → Nat → Nat) (S t n : Nat) : Nat := sx_sum (sx_cst gl (px_lf gl Mg) P S t) n
def px_CE (n : Nat) (sc : Nat → Int32) (Ms Mg : Nat → Nat → Int32) (gl : Nat → Nat) (P : Nat → Nat → Nat) (t sum S : Nat) : Prop := sx_CE n (fx_nb sc Ms) gl (px_lf gl Mg) (px_nr Mg) P t sum S
theorem px_lfwl (hC : px_C F n N W0 wf rk sc g5 Ms Mg gl) (m c : Nat) : m < n → px_wl Mg m c ≤ px_lf gl Mg m c := by
  intro hm
  unfold px_lf
  by_cases e : c = gl m
  · rw [if_pos e, e, px_wl0 hC hm]; omega
  · rw [if_neg e]; exact Nat.le_refl _
/-- at every time the costs of a plan are at least the ways -/
theorem px_ways (hC : px_C F n N W0 wf rk sc g5 Ms Mg gl) {Mp : Nat → Nat → Int32} {P : Nat → Nat → Nat} {t S : Nat} (h : px_Pl n N wf sc Ms Mg sp Mp P t) (hg : ∀ i, i < n → S.testBit i = true → P t i = gl i) : ∀ i, i < n → px_wl Mg i (sp i) ≤ sx_cst gl (px_lf gl Mg) P S t i := by
  intro i hi
  have g := sx_waste (n := n) (nb := fun c b => fx_nb sc Ms c b) (gl := gl) (lf := fun m c => if m < n then px_lf gl Mg m c else px_wl Mg m c) (wl := fun m c => if m < n then px_wl Mg m c else 0) (P := P) (t := t) (S := S) (A := px_A n N wf Mg)
    (fun m c b a q => by
      have g := px_step hC m c b a q
      show px_A n N wf Mg m b ∧ (if m < n then px_wl Mg m c else 0) ≤ (if m < n then px_wl Mg m b else 0) + 1
      rw [if_pos a.1, if_pos a.1]; exact g)
    (fun m c => by
      show (if m < n then px_wl Mg m c else 0) ≤ (if m < n then px_lf gl Mg m c else px_wl Mg m c)
      by_cases e : m < n
      · rw [if_pos e, if_pos e]; exact px_lfwl hC m c e
      · rw [if_neg e]; omega)
    (fun m => by
      show (if m < n then px_wl Mg m (gl m) else 0) = 0
      by_cases e : m < n
      · rw [if_pos e]; exact px_wl0 hC e
      · rw [if_neg e])
    (fun i hi => px_PlA hC h 0 i (by omega) hi) (fun s i hs hi => h.2.2 s i hs hi) hg i hi
  have g : (if i < n then px_wl Mg i (P 0 i) else 0) ≤ sx_cst gl (fun m c => if m < n then px_lf gl Mg m c else px_wl Mg m c) P S t i := g
  rw [if_pos hi, (h.2.1 i hi).1] at g
  unfold sx_cst at g ⊢
  by_cases e : S.testBit i = true
  · rw [if_pos e] at g ⊢; exact g
  · rw [if_neg e] at g ⊢; have g : px_wl Mg i (sp i) ≤ t + (if i < n then px_lf gl Mg i (P t i) else px_wl Mg i (P t i)) := g; rw [if_pos hi] at g; exact g
theorem px_w6 (hC : px_C F n N W0 wf rk sc g5 Ms Mg gl) {Mp : Nat → Nat → Int32} {P : Nat → Nat → Nat} {t S sum : Nat} (h : px_Pl n N wf sc Ms Mg sp Mp P t) (hg : ∀ i, i < n → S.testBit i = true → P t i = gl i) (hs : sum ≤ px_le n Mg sp + 6) :
    sum - px_cs gl Mg P S t n ≤ 6 ∧ (px_cs gl Mg P S t n ≤ sum → ∀ i, i < n → S.testBit i = false → px_lf gl Mg i (P t i) + (sum - px_cs gl Mg P S t n) ≤ 30) := by
  have g := px_ways hC h hg
  have g1 : px_le n Mg sp ≤ px_cs gl Mg P S t n := sx_sum_le g
  refine ⟨by omega, fun hle i hi hb => ?_⟩
  have g2 : px_le n Mg sp + sx_cst gl (px_lf gl Mg) P S t i ≤ px_cs gl Mg P S t n + px_wl Mg i (sp i) := sx_sum_lt g hi
  have e : sx_cst gl (px_lf gl Mg) P S t i = t + px_lf gl Mg i (P t i) := by unfold sx_cst; rw [hb]; exact if_neg (by decide)
  have hA := (h.2.1 i hi).2
  obtain ⟨k, hk, hM⟩ := hA.2.2
  have := px_wlE hk hM
  omega
theorem px_csle (hC : px_C F n N W0 wf rk sc g5 Ms Mg gl) {Mp : Nat → Nat → Int32} {P : Nat → Nat → Nat} {t S : Nat} (h : px_Pl n N wf sc Ms Mg sp Mp P t) (ht : t ≤ 31) (m : Nat) (hm : m ≤ n) : px_cs gl Mg P S t m ≤ 55 * m := by
  induction m with
  | zero => exact Nat.le_refl _
  | succ m ih =>
    have g := ih (by omega)
    have hA := px_PlA hC h t m (Nat.le_refl _) (by omega)
    have h1 := px_lfle hC hA
    have h2 := sx_hs_le (gl m) (fun s => P s m) t
    have e : sx_cst gl (px_lf gl Mg) P S t m ≤ 55 := by
      unfold sx_cst
      by_cases e : S.testBit m = true
      · rw [if_pos e]; omega
      · rw [if_neg e]; omega
    show px_cs gl Mg P S t m + sx_cst gl (px_lf gl Mg) P S t m ≤ _
    omega
theorem px_ce_of {P : Nat → Nat → Nat} {t sum S : Nat} (h1 : S < 2 ^ n) (h2 : ∀ i, i < n → S.testBit i = true → P t i = gl i) (h3 : px_cs gl Mg P S t n ≤ sum) (h4 : px_Ex n sc Ms Mg gl (31 - 0) S (P t) (sum - px_cs gl Mg P S t n)) : px_CE n sc Ms Mg gl P t sum S := ⟨h1, h2, h3, h4⟩
theorem px_sub {n S hm : Nat} (hS : S < 2 ^ n) (h : ∀ i, i < n → S.testBit i = true → hm.testBit i = true) : S &&& hm = S := by
  apply Nat.eq_of_testBit_eq
  intro i
  rw [Nat.testBit_and]
  by_cases hi : i < n
  · cases hb : S.testBit i with
    | false => rfl
    | true => rw [h i hi hb]; rfl
  · rw [Nat.testBit_lt_two_pow (Nat.lt_of_lt_of_le hS (Nat.pow_le_pow_right (by decide) (by omega)))]; rfl
theorem px_sub2 {S hm i : Nat} (h : S &&& hm = S) (hb : S.testBit i = true) : hm.testBit i = true := by
  have : (S &&& hm).testBit i = true := by rw [h]; exact hb
  rw [Nat.testBit_and, hb] at this
  exact this
theorem px_Plrow (hC : px_C F n N W0 wf rk sc g5 Ms Mg gl) {Mp : Nat → Nat → Int32} {P : Nat → Nat → Nat} {t : Nat} {q : Nat → Nat} (h : px_Pl n N wf sc Ms Mg sp Mp P t) {Mp' : Nat → Nat → Int32} (hM : ∀ s, s ≤ t → Mp' s = Mp s) (hq0 : ∀ i, n ≤ i → q i = 0) (hq : ∀ i, i < n → Mp' (t + 1) i = nI (q i)) (hn : ∀ i, i < n → fx_nb sc Ms (P t i) (q i)) : px_Pl n N wf sc Ms Mg sp Mp' (sx_row P (t + 1) q) (t + 1) := by
  refine ⟨?_, ?_, ?_⟩
  · intro s hs
    by_cases e : s = t + 1
    · subst e; rw [sx_row_s]; exact ⟨hq0, hq⟩
    · rw [sx_row_n e, hM s (by omega)]; exact h.1 s (by omega)
  · intro i hi; rw [sx_row_n (by omega)]; exact h.2.1 i hi
  · intro s i hs hi
    by_cases e : s = t
    · subst e; rw [sx_row_s, sx_row_n (by omega)]; exact hn i hi
    · rw [sx_row_n (show s ≠ t + 1 by omega), sx_row_n (show s + 1 ≠ t + 1 by omega)]; exact h.2.2 s i (by omega) hi
theorem px_go (hC : px_C F n N W0 wf rk sc g5 Ms Mg gl) {Mp : Nat → Nat → Int32} {P : Nat → Nat → Nat} {t sum S : Nat} (h : px_Pl n N wf sc Ms Mg sp Mp P t) (hno : ¬ ∀ i, i < n → P t i = gl i) (hCE : px_CE n sc Ms Mg gl P t sum S) : sx_cn (fx_nb sc Ms) (P t) (fun q => ∃ S', px_CE n sc Ms Mg gl (sx_row P (t + 1) q) (t + 1) sum S') n 0 (fun _ => 0) :=
  sx_next (A := px_A n N wf Mg) (fun m c b a q => px_hA hC m c b a q) (px_hp hC) (fun m c a q => px_hr hC m c a q) (px_hs hC) (fun i hi => px_PlA hC h t i (Nat.le_refl _) hi) hno hCE
end PX3
theorem px_ss (a b c : Int32) : a - b - c = a - (b + c) := Int32.sub_sub a b c
theorem px_le9 {F n N W0 : Nat} {wf rk sc g5 : Nat → Int32} {Ms Mg : Nat → Nat → Int32} {gl sp : Nat → Nat} (hC : px_C F n N W0 wf rk sc g5 Ms Mg gl) {Mp : Nat → Nat → Int32} {P : Nat → Nat → Nat} {t su : Nat} (h : px_Pl n N wf sc Ms Mg sp Mp P t) (hs : su ≤ px_le n Mg sp + 6) : su < 1000 := by
  have key : ∀ m, m ≤ n → sx_sum (fun i => px_wl Mg i (sp i)) m ≤ 24 * m := by
    intro m
    induction m with
    | zero => intro _; exact Nat.le_refl _
    | succ m ih =>
      intro hm
      have g := ih (by omega)
      obtain ⟨k, hk, hM⟩ := (h.2.1 m (by omega)).2.2.2
      have := px_wlE hk hM
      show sx_sum _ m + px_wl Mg m (sp m) ≤ _
      omega
  have := key n (Nat.le_refl _)
  have := hC.1
  unfold px_le at hs
  omega
