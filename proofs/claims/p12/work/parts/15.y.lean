theorem mt_rotP {D : va_G} {cl : List vw_C} {ws : va_W} {x : Nat × va_E} {H : Heap} (h : va_P D cl (ws ++ [x]) H) : va_P D cl ([x] ++ ws) H := va_P.swap (a := []) (b := ws) (c := [x]) h
theorem mt_rotD {A : Nat → Prop} {ws : va_W} {x : Nat × va_E} (h : va_D A (ws ++ [x])) : va_D A ([x] ++ ws) := va_D.swap (a := []) (b := ws) (c := [x]) h
theorem mt_hd {D : va_G} {cl : List vw_C} {R : va_W} {x : Nat × va_E} {H : Heap} (h : va_P D cl ([x] ++ R) H) : va_P D cl [x] H := h.sub [0] rfl
theorem mt_hdD {A : Nat → Prop} {R : va_W} {x : Nat × va_E} (h : va_D A ([x] ++ R)) : va_D A [x] := h.sub [0] (by decide) rfl
theorem mt_hdF {A : Nat → Prop} {R : va_W} {x : Nat × va_E} {H0 H : Heap} {locs : List Loc} (hD : va_D A ([x] ++ R)) (hS : va_S A H0 H locs) (hA : ∀ q, H0.size ≤ q → A q) : ∀ q, va_A [x] H.size q → A q := va_free (wc := [x]) hD hS hA [0] rfl
/-- a call over the first cell alone: the others stand, what came back stands behind them -/
theorem mt_join1 {A0 : Nat → Prop} {D : va_G} {cl : List vw_C} {x : Nat × va_E} {R w1 : va_W} {H H1 : Heap} (hP : va_P D cl ([x] ++ R) H) (hD : va_D A0 ([x] ++ R))
    (hk : ∀ q : Nat, q < H.size → ¬ va_A [x] H.size q → H1[q]? = H[q]?) (hF : ∀ q, va_A [x] H.size q → A0 q) (hP1 : va_P D cl w1 H1) (hD1 : va_D (va_A [x] H.size) w1) : va_P D cl (R ++ w1) H1 ∧ va_D A0 (R ++ w1) := by
  have hR : va_P D cl R H := fun k q hq => hP (k + 1) q hq
  have hDR : va_D A0 R := ⟨fun i j p q hi hj e => Nat.succ.inj (hD.1 (i + 1) (j + 1) p q hi hj e), fun k q hq => hD.2 (k + 1) q hq⟩
  have hne : ∀ (k : Nat) (q : Nat × va_E), R[k]? = some q → ¬ va_A [x] H.size q.1 := by
    intro k q hq h
    rcases h with ⟨i, e, hi⟩ | h
    · have hi0 : i < 1 := (List.getElem?_eq_some_iff.mp hi).1
      have e0 : i = 0 := by omega
      subst e0
      have hx : x = (q.1, e) := Option.some.inj hi
      have := hD.1 0 (k + 1) x q rfl hq (by rw [hx])
      omega
    · have := (hR k q hq).lt
      omega
  refine ⟨(hR.kept (fun k q hq => hk q.1 ((hR k q hq).lt) (hne k q hq))).app hP1, va_D.app hDR (hD1.weaken (fun _ _ _ h => hF _ h)) ?_⟩
  intro i j p q hi hj e
  exact hne i p hi (by rw [e]; exact hD1.2 j q hj)
