/-! a call over the head of a world; the law's world put in order, over variables -/
theorem mt_hdP {D : va_G} {cl : List vw_C} {K R : va_W} {H : Heap} (h : va_P D cl (K ++ R) H) : va_P D cl K H := fun k q hq => h k q (by rw [List.getElem?_append_left (List.getElem?_eq_some_iff.mp hq).1]; exact hq)
theorem mt_hdLD {A : Nat → Prop} {K R : va_W} (h : va_D A (K ++ R)) : va_D A K := ⟨fun i j p q hi hj e => h.1 i j p q (by rw [List.getElem?_append_left (List.getElem?_eq_some_iff.mp hi).1]; exact hi) (by rw [List.getElem?_append_left (List.getElem?_eq_some_iff.mp hj).1]; exact hj) e, fun k q hq => h.2 k q (by rw [List.getElem?_append_left (List.getElem?_eq_some_iff.mp hq).1]; exact hq)⟩
theorem mt_hdLF {A : Nat → Prop} {K R : va_W} {H0 H : Heap} {locs : List Loc} (hD : va_D A (K ++ R)) (hS : va_S A H0 H locs) (hA : ∀ q, H0.size ≤ q → A q) : ∀ q, va_A K H.size q → A q := mt_whole (mt_hdLD hD) hS hA
theorem mt_joinL {A0 : Nat → Prop} {D : va_G} {cl : List vw_C} {K R w1 : va_W} {H H1 : Heap} (hP : va_P D cl (K ++ R) H) (hD : va_D A0 (K ++ R))
    (hk : ∀ q : Nat, q < H.size → ¬ va_A K H.size q → H1[q]? = H[q]?) (hF : ∀ q, va_A K H.size q → A0 q) (hP1 : va_P D cl w1 H1) (hD1 : va_D (va_A K H.size) w1) : va_P D cl (R ++ w1) H1 ∧ va_D A0 (R ++ w1) := by
  have hr : ∀ (k : Nat) (q : Nat × va_E), R[k]? = some q → (K ++ R)[K.length + k]? = some q := fun k q hq => by rw [List.getElem?_append_right (by omega), show K.length + k - K.length = k by omega]; exact hq
  have hR : va_P D cl R H := fun k q hq => hP (K.length + k) q (hr k q hq)
  have hDR : va_D A0 R := ⟨fun i j p q hi hj e => by have := hD.1 _ _ p q (hr i p hi) (hr j q hj) e; omega, fun k q hq => hD.2 _ q (hr k q hq)⟩
  have hne : ∀ (k : Nat) (q : Nat × va_E), R[k]? = some q → ¬ va_A K H.size q.1 := by
    intro k q hq h
    rcases h with ⟨i, e, hi⟩ | h
    · have hi2 : (K ++ R)[i]? = some (q.1, e) := by rw [List.getElem?_append_left (List.getElem?_eq_some_iff.mp hi).1]; exact hi
      have := hD.1 i (K.length + k) _ q hi2 (hr k q hq) rfl
      have := (List.getElem?_eq_some_iff.mp hi).1
      omega
    · have := (hR k q hq).lt
      omega
  refine ⟨(hR.kept (fun k q hq => hk q.1 ((hR k q hq).lt) (hne k q hq))).app hP1, va_D.app hDR (hD1.weaken (fun _ _ _ h => hF _ h)) ?_⟩
  intro i j p q hi hj e
  exact hne i p hi (by rw [e]; exact hD1.2 j q hj)
