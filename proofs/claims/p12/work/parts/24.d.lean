section PX2
variable {F n N W0 : Nat} {wf rk sc g5 : Nat → Int32} {Ms Mg : Nat → Nat → Int32} {gl : Nat → Nat}
/-- a step of all, half made: those before mo have gone on -/
def px_Q (n N : Nat) (wf : Nat → Int32) (Mg : Nat → Nat → Int32) (gl : Nat → Nat) (dd mo T w S : Nat) (p q : Nat → Nat) (row : Nat → Int32) : Prop :=
  T < 2 ^ mo ∧ (∀ i, mo ≤ i → q i = 0) ∧ (∀ i, i < mo → row i = nI (q i) ∧ px_A n N wf Mg i (q i) ∧ (T.testBit i = true → q i = gl i) ∧ (T.testBit i = false → px_lf gl Mg i (q i) + w + dd + 1 ≤ 30)) ∧
  (∀ i, mo ≤ i → i < n → S.testBit i = false → px_lf gl Mg i (p i) + w + dd ≤ 30)
theorem px_Qc {dd mo T w S : Nat} {p q : Nat → Nat} {row row' : Nat → Int32} (h : px_Q n N wf Mg gl dd mo T w S p q row) (hr : ∀ i, i < mo → row' i = row i) : px_Q n N wf Mg gl dd mo T w S p q row' :=
  ⟨h.1, h.2.1, fun i hi => by rw [hr i hi]; exact h.2.2.1 i hi, h.2.2.2⟩
theorem px_Q1 {dd mo T T' w w' S b : Nat} {p q : Nat → Nat} {row : Nat → Int32} (h : px_Q n N wf Mg gl dd mo T w S p q row) (hw : w' ≤ w) (hT : T' < 2 ^ (mo + 1)) (hTi : ∀ i, i < mo → T'.testBit i = T.testBit i) (hA : px_A n N wf Mg mo b) (h1 : T'.testBit mo = true → b = gl mo) (h0 : T'.testBit mo = false → px_lf gl Mg mo b + w' + dd + 1 ≤ 30) :
    px_Q n N wf Mg gl dd (mo + 1) T' w' S p (sx_up q mo b) (upd row mo (nI b)) := by
  refine ⟨hT, fun i hi => by rw [sx_up_n (by omega)]; exact h.2.1 i (by omega), ?_, fun i hi hn hb => by have := h.2.2.2 i (by omega) hn hb; omega⟩
  intro i hi
  by_cases e : i = mo
  · subst e; rw [sx_up_s]; exact ⟨pk_us, hA, h1, h0⟩
  · rw [sx_up_n e, pk_un e, hTi i (by omega)]
    have g := h.2.2.1 i (by omega)
    exact ⟨g.1, g.2.1, g.2.2.1, fun hb => by have := g.2.2.2 hb; omega⟩
theorem px_Qs {dd mo T w S : Nat} {p q : Nat → Nat} {row : Nat → Int32} (hV : px_V n N wf Mg gl S p) (h : px_Q n N wf Mg gl dd mo T w S p q row) (hm : mo < n) (hb : S.testBit mo = true) : px_Q n N wf Mg gl dd (mo + 1) (T ||| 2 ^ mo) w S p (sx_up q mo (p mo)) (upd row mo (nI (p mo))) :=
  px_Q1 h (Nat.le_refl _) (sx_or h.1) (fun i hi => sx_or_n hi) (hV.2.2 mo hm).1 (fun _ => (hV.2.2 mo hm).2 hb) (fun e => by rw [sx_or_s] at e; cases e)
theorem px_Qn (hC : px_C F n N W0 wf rk sc g5 Ms Mg gl) {dd mo T w S : Nat} {p q : Nat → Nat} {row : Nat → Int32} (hV : px_V n N wf Mg gl S p) (h : px_Q n N wf Mg gl dd mo T w S p q row) (hm : mo < n) (hn : px_nr Mg mo (p mo)) : w + px_lf gl Mg mo (p mo) - 1 = w ∧ px_Q n N wf Mg gl dd (mo + 1) (T ||| 2 ^ mo) (w + px_lf gl Mg mo (p mo) - 1) S p (sx_up q mo (gl mo)) (upd row mo (nI (gl mo))) := by
  have g := px_hr hC mo _ (hV.2.2 mo hm).1 hn
  exact ⟨by omega, px_Q1 h (by omega) (sx_or h.1) (fun i hi => sx_or_n hi) g.2.1 (fun _ => rfl) (fun e => by rw [sx_or_s] at e; cases e)⟩
theorem px_Qm (hC : px_C F n N W0 wf rk sc g5 Ms Mg gl) {dd mo T w S b : Nat} {p q : Nat → Nat} {row : Nat → Int32} (hV : px_V n N wf Mg gl S p) (h : px_Q n N wf Mg gl dd mo T w S p q row) (hm : mo < n) (hb : S.testBit mo = false) (hn : fx_nb sc Ms (p mo) b) (hle : px_lf gl Mg mo b ≤ w + px_lf gl Mg mo (p mo) - 1) : w + px_lf gl Mg mo (p mo) - 1 - px_lf gl Mg mo b ≤ w ∧ px_Q n N wf Mg gl dd (mo + 1) T (w + px_lf gl Mg mo (p mo) - 1 - px_lf gl Mg mo b) S p (sx_up q mo b) (upd row mo (nI b)) := by
  have g := px_hA hC mo _ b (hV.2.2 mo hm).1 hn
  have g2 := h.2.2.2 mo (Nat.le_refl _) hm hb
  have g3 := px_hp hC mo _ (hV.2.2 mo hm).1
  refine ⟨by omega, px_Q1 h (by omega) (Nat.lt_of_lt_of_le h.1 (Nat.pow_le_pow_right (by decide) (by omega))) (fun i hi => rfl) g.1 (fun e => by rw [sx_hi h.1] at e; cases e) (fun _ => by omega)⟩
theorem px_all {k S : Nat} {p : Nat → Nat} {w : Nat} (h : S = 2 ^ n - 1) : px_Ex n sc Ms Mg gl k S p w := by
  unfold px_Ex
  cases k with
  | zero => exact h
  | succ k => exact Or.inl h
theorem px_d29 (hC : px_C F n N W0 wf rk sc g5 Ms Mg gl) {S w dd : Nat} {p : Nat → Nat} (hV : px_V n N wf Mg gl S p) (hne : S ≠ 2 ^ n - 1) (hw : ∀ i, i < n → S.testBit i = false → px_lf gl Mg i (p i) + w + dd ≤ 30) : dd ≤ 29 := by
  have hex : ∃ i, i < n ∧ S.testBit i = false := by
    apply Classical.byContradiction
    intro hno
    exact hne (sx_bit hV.1 fun i hi => by
      cases hb : S.testBit i with
      | true => rfl
      | false => exact absurd ⟨i, hi, hb⟩ hno)
  obtain ⟨i, hi, hb⟩ := hex
  have g := hw i hi hb
  have := px_hp hC i _ (hV.2.2 i hi).1
  omega
def px_X (n : Nat) (sc : Nat → Int32) (Ms Mg : Nat → Nat → Int32) (gl : Nat → Nat) (k S : Nat) (p : Nat → Nat) (j mo T : Nat) (q : Nat → Nat) (w : Nat) : Prop := sx_mv (fx_nb sc Ms) gl (px_lf gl Mg) (px_nr Mg) S p (sx_E n (fx_nb sc Ms) gl (px_lf gl Mg) (px_nr Mg) k) j mo T q w
theorem px_p32 {S n : Nat} (hn : n ≤ 5) (h : S < 2 ^ n) : S < 32 := Nat.lt_of_lt_of_le h (show 2 ^ n ≤ 2 ^ 5 from Nat.pow_le_pow_right (by decide) hn)
end PX2
section MTJ
variable {p : Program} {l : Launch} {e : Env} {R : Room} {s : State} {m : MethodId} {args : Array Value} {below : List Frame} {meth : Method} {c : Code} {cells slots : Nat} {Q : State → Prop} {pc : Nat} {rest : List Value}
theorem mt_jp {ι : Type} (I : ι → Array Slot → Heap → List Loc → Prop) {H0 : Heap} {locs0 : List Loc} {ls0 : Array Slot} {pc0 : Nat} {rest0 : List Value} (h : ∀ i ls H locs, I i ls H locs → W p l e R s m args below meth c H locs cells slots Q (F0 m pc ls rest)) (k : (∀ i ls H locs, I i ls H locs → W p l e R s m args below meth c H locs cells slots Q (F0 m pc ls rest)) → W p l e R s m args below meth c H0 locs0 cells slots Q (F0 m pc0 ls0 rest0)) : W p l e R s m args below meth c H0 locs0 cells slots Q (F0 m pc0 ls0 rest0) := k h
end MTJ
