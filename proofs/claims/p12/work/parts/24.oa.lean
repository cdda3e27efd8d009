section PX4
variable {F n N W0 : Nat} {wf rk sc g5 s5 : Nat → Int32} {Ms Mg : Nat → Nat → Int32} {gl sp : Nat → Nat}
def px_P0 (n : Nat) (sp : Nat → Nat) : Nat → Nat → Nat := fun _ i => if i < n then sp i else 0
def px_C0 (n : Nat) (sc : Nat → Int32) (Ms Mg : Nat → Nat → Int32) (gl sp : Nat → Nat) (k : Nat) : Prop := ∃ S, px_CE n sc Ms Mg gl (px_P0 n sp) 0 (px_le n Mg sp + k) S
/-- the planner behind its first try: kk numbers tried -/
def px_J (F n N : Nat) (wf rk sc : Nat → Int32) (Ms Mg : Nat → Nat → Int32) (gl sp : Nat → Nat) (kk : Nat) (wo : Nat → Int64) (Mp : Nat → Nat → Int32) (pen psu pkn : Int32) : Prop :=
  px_Snd F n N wf rk sc Ms Mg gl wo ∧ kk ≤ 7 ∧
    ((pkn = 0 ∧ (∀ i, i < n → Mp 0 i = nI (sp i)) ∧ ∀ k', k' < kk → ¬ px_C0 n sc Ms Mg gl sp k') ∨
     (pkn = 1 ∧ 0 < kk ∧ psu = nI (px_le n Mg sp + (kk - 1)) ∧ px_C0 n sc Ms Mg gl sp (kk - 1) ∧ (∀ k', k' < kk - 1 → ¬ px_C0 n sc Ms Mg gl sp k') ∧ ∃ pe P, pe ≤ 31 ∧ pen = nI pe ∧ px_Pl n N wf sc Ms Mg sp Mp P pe))
/-- what the planner keeps between the calls -/
def px_I (F n N : Nat) (wf rk sc : Nat → Int32) (Ms Mg : Nat → Nat → Int32) (gl sp : Nat → Nat) (wo : Nat → Int64) (Mp : Nat → Nat → Int32) (pen psu pnm pkn pfo : Int32) : Prop :=
  (pnm = 0 ∧ pkn = 0 ∧ pfo = 0) ∨
  ((∀ i, i < n → px_A n N wf Mg i (sp i)) ∧ (∃ k, 0 < k ∧ pnm = nI k ∧ px_J F n N wf rk sc Ms Mg gl sp k wo Mp pen psu pkn) ∧ (pfo = 0 ∨ (pfo = 1 ∧ pkn = 1)))
theorem px_Pl0 (hA : ∀ i, i < n → px_A n N wf Mg i (sp i)) {Mp : Nat → Nat → Int32} (h : ∀ i, i < n → Mp 0 i = nI (sp i)) : px_Pl n N wf sc Ms Mg sp Mp (px_P0 n sp) 0 := by
  refine ⟨fun s hs => ⟨fun i hi => if_neg (by omega), fun i hi => ?_⟩, fun i hi => ⟨if_pos hi, hA i hi⟩, fun s i hs => absurd hs (Nat.not_lt_zero _)⟩
  have e : s = 0 := by omega
  rw [e, h i hi]
  show _ = nI (if i < n then sp i else 0)
  rw [if_pos hi]
theorem px_Snd0 {wo : Nat → Int64} (hC : px_C F n N W0 wf rk sc g5 Ms Mg gl) (h : ∀ x, x < 20736 → px_lv wo x = 0) : px_Snd F n N wf rk sc Ms Mg gl wo := fun S p w hV hlt => by
  rw [h _ (px_stlt hC hV)] at hlt; exact absurd hlt (Nat.not_lt_zero _)
theorem px_pla {Mp : Nat → Nat → Int32} {P : Nat → Nat → Nat} {t : Nat} (hC : px_C F n N W0 wf rk sc g5 Ms Mg gl) (h : px_Pl n N wf sc Ms Mg sp Mp P t) {s i : Nat} (hs : s ≤ t) (hi : i < n) : Mp s i = nI (P s i) ∧ P s i < 25 := ⟨(h.1 s hs).2 i hi, px_A25 hC (px_PlA hC h s i hs hi)⟩
theorem px_le6 (hC : px_C F n N W0 wf rk sc g5 Ms Mg gl) (hA : ∀ i, i < n → px_A n N wf Mg i (sp i)) : px_le n Mg sp < 994 := by
  have key : ∀ m, m ≤ n → sx_sum (fun i => px_wl Mg i (sp i)) m ≤ 24 * m := by
    intro m
    induction m with
    | zero => intro _; exact Nat.le_refl _
    | succ m ih =>
      intro hm
      have g := ih (by omega)
      obtain ⟨k, hk, hM⟩ := (hA m (by omega)).2.2
      have := px_wlE hk hM
      show sx_sum _ m + px_wl Mg m (sp m) ≤ _
      omega
  have := key n (Nat.le_refl _)
  have := hC.1
  unfold px_le
  omega
end PX4
