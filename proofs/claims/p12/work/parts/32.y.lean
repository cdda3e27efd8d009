/-! a world in another order -/
theorem mt_permP {D : va_G} {cl : List vw_C} {ws ws' : va_W} {H : Heap} (hp : ws.Perm ws') (h : va_P D cl ws H) : va_P D cl ws' H := fun k q hq => by
  have hm : q ∈ ws := hp.mem_iff.mpr (List.mem_of_getElem? hq)
  obtain ⟨i, hi⟩ := List.getElem?_of_mem hm
  exact h i q hi
theorem mt_permD {A : Nat → Prop} {ws ws' : va_W} (hp : ws.Perm ws') (h : va_D A ws) : va_D A ws' := by
  have h1 : ws.Pairwise (fun p q => p.1 ≠ q.1) := by
    rw [List.pairwise_iff_getElem]
    intro i j hi hj hij e
    have := h.1 i j ws[i] ws[j] (List.getElem?_eq_getElem hi) (List.getElem?_eq_getElem hj) e
    omega
  have h2 : ws'.Pairwise (fun p q => p.1 ≠ q.1) := (hp.pairwise_iff (fun e => Ne.symm e)).mp h1
  rw [List.pairwise_iff_getElem] at h2
  refine ⟨fun i j p q hi hj e => ?_, fun k q hq => ?_⟩
  · obtain ⟨hi1, hi2⟩ := List.getElem?_eq_some_iff.mp hi
    obtain ⟨hj1, hj2⟩ := List.getElem?_eq_some_iff.mp hj
    rcases Nat.lt_trichotomy i j with g | g | g
    · exact absurd (by rw [hi2, hj2]; exact e) (h2 i j hi1 hj1 g)
    · exact g
    · exact absurd (by rw [hi2, hj2]; exact e.symm) (h2 j i hj1 hi1 g)
  · obtain ⟨i, hi⟩ := List.getElem?_of_mem (hp.mem_iff.mpr (List.mem_of_getElem? hq))
    exact h.2 i q hi
/-- segments in another order -/
theorem mt_permF {f : Nat → va_W} {a b : List Nat} (h : a.Perm b) : ((a.map f).flatten).Perm ((b.map f).flatten) := (h.map f).flatten
