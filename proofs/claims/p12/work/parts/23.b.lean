theorem mt_rowup {M : Nat → Nat → Int32} {k : Nat} {f : Nat → Int32} : va_up M k f k = f := by simp [va_up]
theorem mt_rowne {M : Nat → Nat → Int32} {k a : Nat} {f : Nat → Int32} (h : a ≠ k) : va_up M k f a = M a := by simp [va_up, h]
theorem mt_fillst {G Mg : Nat → Nat → Int32} {k z : Nat} {v : Int32} (hv : ∀ j, j < z → G k j = v) (ho : ∀ a, a ≠ k → G a = Mg a) : (∀ j, j < z + 1 → va_up G k (upd (G k) z v) k j = v) ∧ ∀ a, a ≠ k → va_up G k (upd (G k) z v) a = Mg a := by
  refine ⟨fun j hj => ?_, fun a ha => (mt_rowne ha).trans (ho a ha)⟩
  rw [mt_rowup]
  by_cases e : j = z
  · rw [e]; exact pk_us
  · rw [pk_un e]; exact hv j (by omega)

set_option maxHeartbeats 4000000 in
set_option maxRecDepth 100000 in
theorem c_ar_fillR (l : Launch) (D : va_G) (cZ cI cJ cII : ClassId) (cto : Nat) (rg : Nat → Nat) (Mg : Nat → Nat → Int32) (k : Nat) (v : Int32) (sz : Nat) (hk : k < 5) : Met l y_ar_fillI w_ar_fillI ({ frames := 0, cells := 0, slots := 0, locals := 0 }) (va_Pc [.ref (rg k), .int v] (mt_B D [(cZ, .boolean), (cI, .int), (cJ, .long), (cII, .array .int)] ([(cto, .inl (cII, 5, .inr (.inr (.inr (.inr (fun i => if i < 5 then some (rg i) else none))))))] ++ mt_rw 5 rg (fun i => .inl (cI, 25, .inl (Mg i)))) sz)) ((fun A => va_Qv (fun (u : (Nat → Nat → Int32)) => (∀ j, j < 25 → u k j = v) ∧ ∀ a, a ≠ k → u a = Mg a) (fun (u : (Nat → Nat → Int32)) (t : State) => mt_O D A ([(cto, .inl (cII, 5, .inr (.inr (.inr (.inr (fun i => if i < 5 then some (rg i) else none))))))] ++ mt_rw 5 rg (fun i => .inl (cI, 25, .inl (u i)))) t) A) (va_A ([(cto, .inl (cII, 5, .inr (.inr (.inr (.inr (fun i => if i < 5 then some (rg i) else none))))))] ++ mt_rw 5 rg (fun i => .inl (cI, 25, .inl (Mg i)))) sz)) 0 0 (va_A ([(cto, .inl (cII, 5, .inr (.inr (.inr (.inr (fun i => if i < 5 then some (rg i) else none))))))] ++ mt_rw 5 rg (fun i => .inl (cI, 25, .inl (Mg i)))) sz) := by
  refine mt_of (y := y_ar_fillI) (n := 4) (av := [.ref (rg k), .int v]) (QF := (fun A => va_Qv (fun (u : (Nat → Nat → Int32)) => (∀ j, j < 25 → u k j = v) ∧ ∀ a, a ≠ k → u a = Mg a) (fun (u : (Nat → Nat → Int32)) (t : State) => mt_O D A ([(cto, .inl (cII, 5, .inr (.inr (.inr (.inr (fun i => if i < 5 then some (rg i) else none))))))] ++ mt_rw 5 rg (fun i => .inl (cI, 25, .inl (u i)))) t) A)) (by decide) (Nat.le_of_ble_eq_true rfl) ?_
  intro p e s m below meth c ls A hx hb hr hlk hml hown hnm hg hl hX hP hK hD hA hS
  obtain ⟨H, hH⟩ : ∃ H : Heap, H = s.heap := ⟨_, rfl⟩
  have hS : va_S A s.heap H [] := by rw [hH]; exact va_S.rf
  rw [← hH] at hP ⊢
  have hown : s.vm.findClass R_ar = some m.cls := hown
  have hl : lv_has ls 4 [(0, .ref (rg k)), (1, .int v)] := hl
  refine lv_iconst (v := 0) hx hb d_ar_fillI_0 (by decide) ?_
  refine lv_istore_n hx hb d_ar_fillI_1 rfl hl (by decide) rfl (fun ls hl => ?_)
  have hl : lv_has ls 4 [(2, .int 0), (0, .ref (rg k)), (1, .int v)] := hl
  refine lv_aload_n hx hb d_ar_fillI_2 rfl (lv_at hl 1 rfl) ?_
  refine va_alen (v := 25) hx hb hK hP (1 + k) 1 (mt_rw_at rfl hk) rfl rfl d_ar_fillI_3 ?_
  refine lv_istore_n hx hb d_ar_fillI_4 rfl hl (by decide) rfl (fun ls hl => ?_)
  have hl : lv_has ls 4 [(3, .int 25), (2, .int 0), (0, .ref (rg k)), (1, .int v)] := hl
  have hl := lv_sub hl [1, 0, 2, 3] (l' := [(2, .int (nI 0)), (3, .int 25), (0, .ref (rg k)), (1, .int v)]) rfl
  refine mt_loop (ι := Nat × (Nat → Nat → Int32)) (I := fun ix ls H locs => ((ix.1) ≤ 25) ∧ (∀ j, j < (ix.1) → (ix.2) k j = v) ∧ (∀ a, a ≠ k → (ix.2) a = Mg a) ∧ lv_has ls 4 [(2, .int (nI (ix.1))), (3, .int 25), (0, .ref (rg k)), (1, .int v)] ∧ va_P D kls ([(cto, .inl (cII, 5, .inr (.inr (.inr (.inr (fun i => if i < 5 then some (rg i) else none))))))] ++ mt_rw 5 rg (fun i => .inl (cI, 25, .inl ((ix.2) i)))) H ∧ va_D A ([(cto, .inl (cII, 5, .inr (.inr (.inr (.inr (fun i => if i < 5 then some (rg i) else none))))))] ++ mt_rw 5 rg (fun i => .inl (cI, 25, .inl ((ix.2) i)))) ∧ va_S A s.heap H locs) (μ := fun ix => 25 - (ix.1)) ?_ (0, Mg) ls H _ ⟨Nat.zero_le _, fun j h => absurd h (Nat.not_lt_zero _), fun _ _ => rfl, hl, hP, hD, hS⟩
  clear hl hP hD hS
  intro i_a ls H locs ⟨hz, hv, ho, hl, hP, hD, hS⟩ ih_a
  obtain ⟨z, G⟩ := i_a
  have hz : z ≤ 25 := hz
  have hv : ∀ j, j < z → G k j = v := hv
  have ho : ∀ a, a ≠ k → G a = Mg a := ho
  have hl : lv_has ls 4 [(2, .int (nI z)), (3, .int 25), (0, .ref (rg k)), (1, .int v)] := hl
  have hP : va_P D kls ([(cto, .inl (cII, 5, .inr (.inr (.inr (.inr (fun i => if i < 5 then some (rg i) else none))))))] ++ mt_rw 5 rg (fun i => .inl (cI, 25, .inl (G i)))) H := hP
  have hD : va_D A ([(cto, .inl (cII, 5, .inr (.inr (.inr (.inr (fun i => if i < 5 then some (rg i) else none))))))] ++ mt_rw 5 rg (fun i => .inl (cI, 25, .inl (G i)))) := hD
  refine lv_iload_n hx hb d_ar_fillI_5 rfl (lv_at hl 0 rfl) ?_
  refine lv_iload_n hx hb d_ar_fillI_6 rfl (lv_at hl 1 rfl) ?_
  refine lv_icmp_ge hx hb d_ar_fillI_7 rfl (fun g1 => ?_) (fun g1 => ?_)
  ·
    have g2 : 25 ≤ z := by rcases Nat.lt_or_ge z 25 with h | h; exact absurd g1 (nI_ge (b := 25) h (by omega)); exact h
    have hP9 := hP
    have hD9 := hD
    exact W.vret hx hb hr (fun t ht hW => ⟨⟨G, rfl, ⟨fun j hj => hv j (by have : j < 25 := hj; omega), ho⟩, by rw [ht]; exact hP9, hD9⟩, hS.F ht⟩) hS.2.2 d_ar_fillI_20
  ·
    have g2 : z < 25 := by rcases Nat.lt_or_ge z 25 with h | h; exact h; exact absurd (nI_le (a := 25) h (by omega)) g1
    refine lv_aload_n hx hb d_ar_fillI_10 rfl (lv_at hl 2 rfl) ?_
    refine lv_iload_n hx hb d_ar_fillI_11 rfl (lv_at hl 0 rfl) ?_
    refine lv_iload_n hx hb d_ar_fillI_12 rfl (lv_at hl 3 rfl) ?_
    refine va_iast hx hb hK hP hD hS (1 + k) 1 (mt_rw_at rfl hk) rfl (vp_in_nI g2 (by decide)) d_ar_fillI_13 (fun H locs hP hD hS => ?_)
    rw [mt_rw_set (x := 1) rfl, mt_rw_row, nI_clamp (show z < 2 ^ 31 by omega)] at hP hD
    have hP : va_P D kls ([(cto, .inl (cII, 5, .inr (.inr (.inr (.inr (fun i => if i < 5 then some (rg i) else none))))))] ++ mt_rw 5 rg (fun i => .inl (cI, 25, .inl ((va_up G k (upd (G k) z v)) i)))) H := hP
    have hD : va_D A ([(cto, .inl (cII, 5, .inr (.inr (.inr (.inr (fun i => if i < 5 then some (rg i) else none))))))] ++ mt_rw 5 rg (fun i => .inl (cI, 25, .inl ((va_up G k (upd (G k) z v)) i)))) := hD
    refine lv_iinc (k := 0) (v := nI (z + 1)) hx hb d_ar_fillI_14 hl rfl ((nI_succ z).symm) (by decide) rfl (fun ls hl => ?_)
    have hl : lv_has ls 4 [(2, .int (nI (z + 1))), (3, .int 25), (0, .ref (rg k)), (1, .int v)] := hl
    refine lv_goto hx hb d_ar_fillI_17 rfl ?_
    have hl := lv_sub hl [0, 1, 2, 3] (l' := [(2, .int (nI (z + 1))), (3, .int 25), (0, .ref (rg k)), (1, .int v)]) rfl
    exact ih_a (z + 1, va_up G k (upd (G k) z v)) ls H _ (by show 25 - (z + 1) < 25 - z; omega) ⟨by show z + 1 ≤ 25; omega, (mt_fillst hv ho).1, (mt_fillst hv ho).2, hl, hP, hD, hS⟩
