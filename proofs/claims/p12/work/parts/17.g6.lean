
set_option maxHeartbeats 4000000 in
set_option maxRecDepth 100000 in
theorem c_cr_canTake (l : Launch) (D : va_G) (cZ cI cJ cII : ClassId) (ca : Nat) (cfl : Nat) (cs : Nat) (cg : Nat) (cto : Nat) (cq : Nat) (cco : Nat) (cnx : Nat) (fw : Int32) (fh : Int32) (wa : Nat) (ra : Nat) (sa : Nat) (ta : Nat) (s5 : Nat → Int32) (g5 : Nat → Int32) (n : Nat) (F0 : Nat) (x : Int32) (y : Int32) (sz : Nat) (hn : n ≤ 5) (hF : F0 ≤ 25) : Met l y_cr_canTake w_cr_canTake ({ frames := 0, cells := 0, slots := 0, locals := 0 }) (va_Pc [.ref ca, .int x, .int y] (mt_B D [(cZ, .boolean), (cI, .int), (cJ, .long), (cII, .array .int)] [(ca, .inr (0, [.ref cfl, .int (nI n), .ref cs, .ref cg, .ref cto, .ref cq, .ref cco, .ref cnx])), (cfl, .inr (1, [.int fw, .int fh, .ref wa, .int (nI F0), .ref ra, .ref sa, .ref ta])), (cs, .inl (cI, 5, .inl s5)), (cg, .inl (cI, 5, .inl g5))] sz)) (vp_Si (fun r : Int32 => (r = 1 ∧ n < 5 ∧ F0 ^ (n + 1) ≤ 16000 ∧ ∀ a, a < n → ¬ s5 a = x ∧ ¬ g5 a = y) ∨ (r = 0 ∧ (5 ≤ n ∨ 16000 < F0 ^ (n + 1) ∨ ∃ a, a < n ∧ (s5 a = x ∨ g5 a = y))))) 0 0 (fun _ => False) := by
  refine mt_ofR (by decide) (Nat.le_of_ble_eq_true rfl) ?_
  intro p e s m below meth c ls hx hb hr hlk hml hown hg hl hX hP hK hD
  have hown : s.vm.findClass R_cr = some m.cls := hown
  obtain ⟨H, hH⟩ : ∃ H : Heap, H = s.heap := ⟨_, rfl⟩
  rw [← hH] at hP ⊢
  have hl : lv_has ls 5 [(0, .ref ca), (1, .int x), (2, .int y)] := hl
  refine lv_aload_n hx hb d_cr_canTake_0 rfl (lv_at hl 0 rfl) ?_
  refine gf_cr_37 hx hb hg hown hK hP 0 rfl rfl d_cr_canTake_1 ?_
  refine lv_iconst (v := 5) hx hb d_cr_canTake_4 (by decide) ?_
  refine lv_icmp_lt hx hb d_cr_canTake_5 rfl (fun g1 => ?_) (fun g1 => ?_)
  ·
    have g0 : n < 5 := (nI_ltI (b := 5) (by omega) (by decide)).mp g1
    refine lv_aload_n hx hb d_cr_canTake_10 rfl (lv_at hl 0 rfl) ?_
    refine gf_cr_33 hx hb hg hown hK hP 0 rfl rfl d_cr_canTake_11 ?_
    refine gf_cr_41 hx hb hg hown hK hP 1 rfl rfl d_cr_canTake_14 ?_
    refine lv_istore_n hx hb d_cr_canTake_17 rfl hl (by decide) rfl (fun ls hl => ?_)
    have hl : lv_has ls 5 [(3, .int (nI F0)), (0, .ref ca), (1, .int x), (2, .int y)] := hl
    refine lv_iconst (v := 0) hx hb d_cr_canTake_18 (by decide) ?_
    refine lv_istore hx hb d_cr_canTake_19 hl (by decide) rfl (fun ls hl => ?_)
    have hl : lv_has ls 5 [(4, .int 0), (3, .int (nI F0)), (0, .ref ca), (1, .int x), (2, .int y)] := hl
    have hl := lv_sub hl [0, 1, 2, 3, 4] (l' := [(4, .int (nI 0)), (3, .int (nI F0)), (0, .ref ca), (1, .int x), (2, .int y)]) rfl
    refine mt_loop (ι := Nat × Nat) (I := fun i ls H locs => ((i.1) ≤ n) ∧ ((i.2) = F0 ^ ((i.1) + 1)) ∧ (∀ a, a < (i.1) → ¬ s5 a = x ∧ ¬ g5 a = y) ∧ lv_has ls 5 [(4, .int (nI (i.1))), (3, .int (nI (i.2))), (0, .ref ca), (1, .int x), (2, .int y)] ∧ va_P D kls [(ca, .inr (0, [.ref cfl, .int (nI n), .ref cs, .ref cg, .ref cto, .ref cq, .ref cco, .ref cnx])), (cfl, .inr (1, [.int fw, .int fh, .ref wa, .int (nI F0), .ref ra, .ref sa, .ref ta])), (cs, .inl (cI, 5, .inl s5)), (cg, .inl (cI, 5, .inl g5))] H ∧ H = s.heap ∧ locs = []) (μ := fun i => n - (i.1)) ?_ (0, F0) ls H _ ⟨Nat.zero_le _, (Nat.pow_one F0).symm, fun a h => absurd h (Nat.not_lt_zero _), hl, hP, hH, rfl⟩
    clear hl hP
    intro i_a ls H locs ⟨hmm, hjp, hall, hl, hP, hH, hlc⟩ ih_a
    obtain ⟨mm, jp⟩ := i_a
    subst hlc
    have hmm : mm ≤ n := hmm
    have hjp : jp = F0 ^ (mm + 1) := hjp
    have hall : ∀ a, a < mm → ¬ s5 a = x ∧ ¬ g5 a = y := hall
    have hl : lv_has ls 5 [(4, .int (nI mm)), (3, .int (nI jp)), (0, .ref ca), (1, .int x), (2, .int y)] := hl
    have hP : va_P D kls [(ca, .inr (0, [.ref cfl, .int (nI n), .ref cs, .ref cg, .ref cto, .ref cq, .ref cco, .ref cnx])), (cfl, .inr (1, [.int fw, .int fh, .ref wa, .int (nI F0), .ref ra, .ref sa, .ref ta])), (cs, .inl (cI, 5, .inl s5)), (cg, .inl (cI, 5, .inl g5))] H := hP
    refine lv_iload hx hb d_cr_canTake_21 (lv_at hl 0 rfl) ?_
    refine lv_aload_n hx hb d_cr_canTake_23 rfl (lv_at hl 2 rfl) ?_
    refine gf_cr_37 hx hb hg hown hK hP 0 rfl rfl d_cr_canTake_24 ?_
    refine lv_icmp_ge hx hb d_cr_canTake_27 rfl (fun g3 => ?_) (fun g3 => ?_)
    ·
      have g4 : mm = n := by rcases Nat.lt_or_ge mm n with h | h; exact absurd g3 (nI_ge h (by omega)); omega
      have g5a : jp < 2 ^ 31 := by rw [hjp]; exact Nat.lt_of_le_of_lt (Nat.le_trans (Nat.pow_le_pow_left hF _) (Nat.pow_le_pow_right (by decide) (show mm + 1 ≤ 5 by omega))) (by decide)
      refine lv_iload_n hx hb d_cr_canTake_70 rfl (lv_at hl 1 rfl) ?_
      refine lv_sipush (v := 16000) hx hb d_cr_canTake_71 (by decide) ?_
      refine lv_icmp_gt hx hb d_cr_canTake_74 rfl (fun g8 => ?_) (fun g8 => ?_)
      ·
        refine lv_iconst (v := 0) hx hb d_cr_canTake_81 (by decide) ?_
        exact W.zret hx hb hr rfl (fun t ht _ => ⟨0, rfl, Or.inr ⟨rfl, Or.inr (Or.inl (by rw [← g4, ← hjp]; rcases Nat.lt_or_ge 16000 jp with h | h; exact h; exact absurd (show nI 16000 < nI jp from g8) (nI_nlt h (by decide))))⟩, ht.trans hH⟩) (fun _ h => absurd h List.not_mem_nil) d_cr_canTake_82
      ·
        refine lv_iconst (v := 1) hx hb d_cr_canTake_77 (by decide) ?_
        refine lv_goto hx hb d_cr_canTake_78 rfl ?_
        exact W.zret hx hb hr rfl (fun t ht _ => ⟨1, rfl, Or.inl ⟨rfl, g0, by rw [← g4, ← hjp]; rcases Nat.lt_or_ge 16000 jp with h | h; exact absurd (nI_lt (a := 16000) h g5a) g8; exact h, fun a h => hall a (by omega)⟩, ht.trans hH⟩) (fun _ h => absurd h List.not_mem_nil) d_cr_canTake_82
    ·
      have g4 : mm < n := by rcases Nat.lt_or_ge mm n with h | h; exact h; exact absurd (nI_le h (by omega)) g3
      refine lv_aload_n hx hb d_cr_canTake_30 rfl (lv_at hl 2 rfl) ?_
      refine gf_cr_9 hx hb hg hown hK hP 0 rfl rfl d_cr_canTake_31 ?_
      refine lv_iload hx hb d_cr_canTake_34 (lv_at hl 0 rfl) ?_
      refine va_iald hx hb hK hP 2 1 rfl rfl (vp_in_nI (show mm < 5 by omega) (by decide)) d_cr_canTake_36 ?_
      refine lv_topi (fun y1 ey1 => ?_)
      have ey1 : y1 = s5 mm := ey1.trans (by rw [nI_clamp (show mm < 2 ^ 31 by omega)])
      subst ey1
      refine lv_iload_n hx hb d_cr_canTake_37 rfl (lv_at hl 3 rfl) ?_
      refine lv_icmp_eq hx hb d_cr_canTake_38 rfl (fun g6 => ?_) (fun g6 => ?_)
      ·
        refine lv_iconst (v := 0) hx hb d_cr_canTake_52 (by decide) ?_
        exact W.zret hx hb hr rfl (fun t ht _ => ⟨0, rfl, Or.inr ⟨rfl, Or.inr (Or.inr ⟨mm, g4, Or.inl g6⟩)⟩, ht.trans hH⟩) (fun _ h => absurd h List.not_mem_nil) d_cr_canTake_53
      ·
        refine lv_aload_n hx hb d_cr_canTake_41 rfl (lv_at hl 2 rfl) ?_
        refine gf_cr_15 hx hb hg hown hK hP 0 rfl rfl d_cr_canTake_42 ?_
        refine lv_iload hx hb d_cr_canTake_45 (lv_at hl 0 rfl) ?_
        refine va_iald hx hb hK hP 3 1 rfl rfl (vp_in_nI (show mm < 5 by omega) (by decide)) d_cr_canTake_47 ?_
        refine lv_topi (fun y2 ey2 => ?_)
        have ey2 : y2 = g5 mm := ey2.trans (by rw [nI_clamp (show mm < 2 ^ 31 by omega)])
        subst ey2
        refine lv_iload_n hx hb d_cr_canTake_48 rfl (lv_at hl 4 rfl) ?_
        refine lv_icmp_ne hx hb d_cr_canTake_49 rfl (fun g7 => ?_) (fun g7 => ?_)
        ·
          refine lv_iload_n hx hb d_cr_canTake_54 rfl (lv_at hl 1 rfl) ?_
          refine lv_aload_n hx hb d_cr_canTake_55 rfl (lv_at hl 2 rfl) ?_
          refine gf_cr_33 hx hb hg hown hK hP 0 rfl rfl d_cr_canTake_56 ?_
          refine gf_cr_41 hx hb hg hown hK hP 1 rfl rfl d_cr_canTake_59 ?_
          refine lv_imul hx hb d_cr_canTake_62 ?_
          refine lv_topi (fun y3 ey3 => ?_)
          have ey3 : y3 = nI (jp * F0) := ey3.trans (pk_mul jp F0)
          subst ey3
          refine lv_istore_n hx hb d_cr_canTake_63 rfl hl (by decide) rfl (fun ls hl => ?_)
          have hl : lv_has ls 5 [(3, .int (nI (jp * F0))), (4, .int (nI mm)), (0, .ref ca), (1, .int x), (2, .int y)] := hl
          refine lv_iinc (k := 1) (v := nI (mm + 1)) hx hb d_cr_canTake_64 hl rfl ((nI_succ mm).symm) (by decide) rfl (fun ls hl => ?_)
          have hl : lv_has ls 5 [(4, .int (nI (mm + 1))), (3, .int (nI (jp * F0))), (0, .ref ca), (1, .int x), (2, .int y)] := hl
          refine lv_goto hx hb d_cr_canTake_67 rfl ?_
          have hl := lv_sub hl [0, 1, 2, 3, 4] (l' := [(4, .int (nI (mm + 1))), (3, .int (nI (jp * F0))), (0, .ref ca), (1, .int x), (2, .int y)]) rfl
          exact ih_a (mm + 1, jp * F0) ls H _ (by show n - (mm + 1) < n - mm; omega) ⟨by show mm + 1 ≤ n; omega, by show jp * F0 = F0 ^ (mm + 1 + 1); rw [hjp, ← Nat.pow_succ], fun a h => (Nat.lt_or_ge a mm).elim (fun h2 => hall a h2) (fun h2 => by rw [show a = mm from Nat.le_antisymm (Nat.le_of_lt_succ h) h2]; exact ⟨g6, g7⟩), hl, hP, hH, rfl⟩
        ·
          refine lv_iconst (v := 0) hx hb d_cr_canTake_52 (by decide) ?_
          exact W.zret hx hb hr rfl (fun t ht _ => ⟨0, rfl, Or.inr ⟨rfl, Or.inr (Or.inr ⟨mm, g4, Or.inr g7⟩)⟩, ht.trans hH⟩) (fun _ h => absurd h List.not_mem_nil) d_cr_canTake_53
  ·
    have g0 : 5 ≤ n := by rcases Nat.lt_or_ge n 5 with h | h; exact absurd (nI_lt (b := 5) h (by decide)) g1; exact h
    refine lv_iconst (v := 0) hx hb d_cr_canTake_8 (by decide) ?_
    exact W.zret hx hb hr rfl (fun t ht _ => ⟨0, rfl, Or.inr ⟨rfl, Or.inl g0⟩, ht.trans hH⟩) (fun _ h => absurd h List.not_mem_nil) d_cr_canTake_9
