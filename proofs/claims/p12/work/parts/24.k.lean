set_option maxHeartbeats 4000000 in
set_option maxRecDepth 100000 in
theorem c_pn_canEnd (l : Launch) (D : va_G) (cZ cI cJ cII : ClassId) (pa : Nat) (pce : Nat) (pse : Nat) (ppl : Nat) (pen : Int32) (psu : Int32) (pnm : Int32) (pkn : Int32) (pfo : Int32) (la : Nat) (lwo : Nat) (fa : Nat) (fw : Int32) (fh : Int32) (wa : Nat) (ra : Nat) (sa : Nat) (ta : Nat) (ca : Nat) (cs : Nat) (cg : Nat) (cto : Nat) (cq : Nat) (cco : Nat) (cnx : Nat) (wo : Nat → Int64) (Mc : Nat → Nat → Int32) (se : Nat → Int32) (Mp : Nat → Nat → Int32) (rk : Nat → Int32) (sc : Nat → Int32) (s5 : Nat → Int32) (g5 : Nat → Int32) (rp : Nat → Nat) (rq : Nat → Nat) (rr : Nat → Nat) (rg : Nat → Nat) (Ms : Nat → Nat → Int32) (Mg : Nat → Nat → Int32) (F0 : Nat) (n : Nat) (N0 : Nat) (W0 : Nat) (wf : Nat → Int32) (gl : Nat → Nat) (sp : Nat → Nat) (P : Nat → Nat → Nat) (tt : Nat) (su : Nat) (sz : Nat) (hC : px_C F0 n N0 W0 wf rk sc g5 Ms Mg gl) (ht1 : tt ≤ 31) (hsu : su ≤ px_le n Mg sp + 6) (hPl : px_Pl n N0 wf sc Ms Mg sp Mp P tt) (hsn : px_Snd F0 n N0 wf rk sc Ms Mg gl wo) : Met l y_pn_canEnd w_pn_canEnd ({ frames := 228, cells := 0, slots := 0, locals := 9120 }) (va_Pc [.ref pa, .int (nI tt), .int (nI su)] (mt_B D [(cZ, .boolean), (cI, .int), (cJ, .long), (cII, .array .int)] (((([(pa, .inr (4, [.ref fa, .ref ca, .ref la, .ref pce, .ref pse, .ref ppl, .int pen, .int psu, .int pnm, .int pkn, .int pfo])), (la, .inr (3, [.ref lwo])), (lwo, .inl (cJ, 1296, .inr (.inl wo))), (pce, .inl (cII, 32, .inr (.inr (.inr (.inr (fun i => if i < 32 then some (rp i) else none)))))), (pse, .inl (cI, 32, .inl se)), (ppl, .inl (cII, 32, .inr (.inr (.inr (.inr (fun i => if i < 32 then some (rq i) else none)))))), (fa, .inr (1, [.int fw, .int fh, .ref wa, .int (nI F0), .ref ra, .ref sa, .ref ta])), (ra, .inl (cI, 25, .inl rk)), (sa, .inl (cI, 25, .inl sc)), (ta, .inl (cII, 25, .inr (.inr (.inr (.inr (fun i => if i < 25 then some (rr i) else none)))))), (ca, .inr (0, [.ref fa, .int (nI n), .ref cs, .ref cg, .ref cto, .ref cq, .ref cco, .ref cnx])), (cs, .inl (cI, 5, .inl s5)), (cg, .inl (cI, 5, .inl g5)), (cto, .inl (cII, 5, .inr (.inr (.inr (.inr (fun i => if i < 5 then some (rg i) else none))))))] ++ mt_rw 32 rp (fun i => .inl (cI, 5, .inl (Mc i)))) ++ mt_rw 32 rq (fun i => .inl (cI, 5, .inl (Mp i)))) ++ mt_rw 25 rr (fun i => .inl (cI, 5, .inl (Ms i)))) ++ mt_rw 5 rg (fun i => .inl (cI, 25, .inl (Mg i)))) sz)) ((fun A => va_Qi (fun (r : Int32) (u : (Nat → Int64) × (Nat → Nat → Int32) × (Nat → Int32)) => ((r = 1 ∧ ∃ S, px_CE n sc Ms Mg gl P tt su S) ∨ (r = 0 ∧ ∀ S, ¬ px_CE n sc Ms Mg gl P tt su S)) ∧ (px_Snd F0 n N0 wf rk sc Ms Mg gl (u.1))) (fun (u : (Nat → Int64) × (Nat → Nat → Int32) × (Nat → Int32)) (t : State) => mt_O D A (((([(pa, .inr (4, [.ref fa, .ref ca, .ref la, .ref pce, .ref pse, .ref ppl, .int pen, .int psu, .int pnm, .int pkn, .int pfo])), (la, .inr (3, [.ref lwo])), (lwo, .inl (cJ, 1296, .inr (.inl (u.1)))), (pce, .inl (cII, 32, .inr (.inr (.inr (.inr (fun i => if i < 32 then some (rp i) else none)))))), (pse, .inl (cI, 32, .inl (u.2.2))), (ppl, .inl (cII, 32, .inr (.inr (.inr (.inr (fun i => if i < 32 then some (rq i) else none)))))), (fa, .inr (1, [.int fw, .int fh, .ref wa, .int (nI F0), .ref ra, .ref sa, .ref ta])), (ra, .inl (cI, 25, .inl rk)), (sa, .inl (cI, 25, .inl sc)), (ta, .inl (cII, 25, .inr (.inr (.inr (.inr (fun i => if i < 25 then some (rr i) else none)))))), (ca, .inr (0, [.ref fa, .int (nI n), .ref cs, .ref cg, .ref cto, .ref cq, .ref cco, .ref cnx])), (cs, .inl (cI, 5, .inl s5)), (cg, .inl (cI, 5, .inl g5)), (cto, .inl (cII, 5, .inr (.inr (.inr (.inr (fun i => if i < 5 then some (rg i) else none))))))] ++ mt_rw 32 rp (fun i => .inl (cI, 5, .inl ((u.2.1) i)))) ++ mt_rw 32 rq (fun i => .inl (cI, 5, .inl (Mp i)))) ++ mt_rw 25 rr (fun i => .inl (cI, 5, .inl (Ms i)))) ++ mt_rw 5 rg (fun i => .inl (cI, 25, .inl (Mg i)))) t) A) (va_A (((([(pa, .inr (4, [.ref fa, .ref ca, .ref la, .ref pce, .ref pse, .ref ppl, .int pen, .int psu, .int pnm, .int pkn, .int pfo])), (la, .inr (3, [.ref lwo])), (lwo, .inl (cJ, 1296, .inr (.inl wo))), (pce, .inl (cII, 32, .inr (.inr (.inr (.inr (fun i => if i < 32 then some (rp i) else none)))))), (pse, .inl (cI, 32, .inl se)), (ppl, .inl (cII, 32, .inr (.inr (.inr (.inr (fun i => if i < 32 then some (rq i) else none)))))), (fa, .inr (1, [.int fw, .int fh, .ref wa, .int (nI F0), .ref ra, .ref sa, .ref ta])), (ra, .inl (cI, 25, .inl rk)), (sa, .inl (cI, 25, .inl sc)), (ta, .inl (cII, 25, .inr (.inr (.inr (.inr (fun i => if i < 25 then some (rr i) else none)))))), (ca, .inr (0, [.ref fa, .int (nI n), .ref cs, .ref cg, .ref cto, .ref cq, .ref cco, .ref cnx])), (cs, .inl (cI, 5, .inl s5)), (cg, .inl (cI, 5, .inl g5)), (cto, .inl (cII, 5, .inr (.inr (.inr (.inr (fun i => if i < 5 then some (rg i) else none))))))] ++ mt_rw 32 rp (fun i => .inl (cI, 5, .inl (Mc i)))) ++ mt_rw 32 rq (fun i => .inl (cI, 5, .inl (Mp i)))) ++ mt_rw 25 rr (fun i => .inl (cI, 5, .inl (Ms i)))) ++ mt_rw 5 rg (fun i => .inl (cI, 25, .inl (Mg i)))) sz)) 0 0 (va_A (((([(pa, .inr (4, [.ref fa, .ref ca, .ref la, .ref pce, .ref pse, .ref ppl, .int pen, .int psu, .int pnm, .int pkn, .int pfo])), (la, .inr (3, [.ref lwo])), (lwo, .inl (cJ, 1296, .inr (.inl wo))), (pce, .inl (cII, 32, .inr (.inr (.inr (.inr (fun i => if i < 32 then some (rp i) else none)))))), (pse, .inl (cI, 32, .inl se)), (ppl, .inl (cII, 32, .inr (.inr (.inr (.inr (fun i => if i < 32 then some (rq i) else none)))))), (fa, .inr (1, [.int fw, .int fh, .ref wa, .int (nI F0), .ref ra, .ref sa, .ref ta])), (ra, .inl (cI, 25, .inl rk)), (sa, .inl (cI, 25, .inl sc)), (ta, .inl (cII, 25, .inr (.inr (.inr (.inr (fun i => if i < 25 then some (rr i) else none)))))), (ca, .inr (0, [.ref fa, .int (nI n), .ref cs, .ref cg, .ref cto, .ref cq, .ref cco, .ref cnx])), (cs, .inl (cI, 5, .inl s5)), (cg, .inl (cI, 5, .inl g5)), (cto, .inl (cII, 5, .inr (.inr (.inr (.inr (fun i => if i < 5 then some (rg i) else none))))))] ++ mt_rw 32 rp (fun i => .inl (cI, 5, .inl (Mc i)))) ++ mt_rw 32 rq (fun i => .inl (cI, 5, .inl (Mp i)))) ++ mt_rw 25 rr (fun i => .inl (cI, 5, .inl (Ms i)))) ++ mt_rw 5 rg (fun i => .inl (cI, 25, .inl (Mg i)))) sz) := by
  refine mt_of (y := y_pn_canEnd) (n := 6) (av := [.ref pa, .int (nI tt), .int (nI su)]) (QF := (fun A => va_Qi (fun (r : Int32) (u : (Nat → Int64) × (Nat → Nat → Int32) × (Nat → Int32)) => ((r = 1 ∧ ∃ S, px_CE n sc Ms Mg gl P tt su S) ∨ (r = 0 ∧ ∀ S, ¬ px_CE n sc Ms Mg gl P tt su S)) ∧ (px_Snd F0 n N0 wf rk sc Ms Mg gl (u.1))) (fun (u : (Nat → Int64) × (Nat → Nat → Int32) × (Nat → Int32)) (t : State) => mt_O D A (((([(pa, .inr (4, [.ref fa, .ref ca, .ref la, .ref pce, .ref pse, .ref ppl, .int pen, .int psu, .int pnm, .int pkn, .int pfo])), (la, .inr (3, [.ref lwo])), (lwo, .inl (cJ, 1296, .inr (.inl (u.1)))), (pce, .inl (cII, 32, .inr (.inr (.inr (.inr (fun i => if i < 32 then some (rp i) else none)))))), (pse, .inl (cI, 32, .inl (u.2.2))), (ppl, .inl (cII, 32, .inr (.inr (.inr (.inr (fun i => if i < 32 then some (rq i) else none)))))), (fa, .inr (1, [.int fw, .int fh, .ref wa, .int (nI F0), .ref ra, .ref sa, .ref ta])), (ra, .inl (cI, 25, .inl rk)), (sa, .inl (cI, 25, .inl sc)), (ta, .inl (cII, 25, .inr (.inr (.inr (.inr (fun i => if i < 25 then some (rr i) else none)))))), (ca, .inr (0, [.ref fa, .int (nI n), .ref cs, .ref cg, .ref cto, .ref cq, .ref cco, .ref cnx])), (cs, .inl (cI, 5, .inl s5)), (cg, .inl (cI, 5, .inl g5)), (cto, .inl (cII, 5, .inr (.inr (.inr (.inr (fun i => if i < 5 then some (rg i) else none))))))] ++ mt_rw 32 rp (fun i => .inl (cI, 5, .inl ((u.2.1) i)))) ++ mt_rw 32 rq (fun i => .inl (cI, 5, .inl (Mp i)))) ++ mt_rw 25 rr (fun i => .inl (cI, 5, .inl (Ms i)))) ++ mt_rw 5 rg (fun i => .inl (cI, 25, .inl (Mg i)))) t) A)) (by decide) (Nat.le_of_ble_eq_true rfl) ?_
  intro p e s m below meth c ls A hx hb hr hlk hml hown hnm hg hl hX hP hK hD hA hS
  obtain ⟨H, hH⟩ : ∃ H : Heap, H = s.heap := ⟨_, rfl⟩
  have hS : va_S A s.heap H [] := by rw [hH]; exact va_S.rf
  rw [← hH] at hP ⊢
  have hown : s.vm.findClass R_pn = some m.cls := hown
  have hl : lv_has ls 6 [(0, .ref pa), (1, .int (nI tt)), (2, .int (nI su))] := hl
  have hn5 := hC.1
  have hsu9 : su < 1000 := px_le9 hC hPl hsu
  refine lv_iconst (v := 0) hx hb d_pn_canEnd_0 (by decide) ?_
  refine lv_istore_n hx hb d_pn_canEnd_1 rfl hl (by decide) rfl (fun ls hl => ?_)
  have hl : lv_has ls 6 [(3, .int 0), (0, .ref pa), (1, .int (nI tt)), (2, .int (nI su))] := hl
  refine lv_iconst (v := 0) hx hb d_pn_canEnd_2 (by decide) ?_
  refine lv_istore hx hb d_pn_canEnd_3 hl (by decide) rfl (fun ls hl => ?_)
  have hl : lv_has ls 6 [(4, .int 0), (3, .int 0), (0, .ref pa), (1, .int (nI tt)), (2, .int (nI su))] := hl
  have hl := lv_sub hl [0, 1, 2, 3, 4] (l' := [(4, .int (nI 0)), (3, .int (nI 0)), (0, .ref pa), (1, .int (nI tt)), (2, .int (nI su))]) rfl
  refine mt_loop (ι := Nat × Nat) (I := fun ix ls H locs => ((ix.1) ≤ n) ∧ ((ix.2) < 2 ^ (ix.1)) ∧ (∀ i, i < (ix.1) → ((ix.2).testBit i = true ↔ P tt i = gl i)) ∧ lv_has ls 6 [(4, .int (nI (ix.1))), (3, .int (nI (ix.2))), (0, .ref pa), (1, .int (nI tt)), (2, .int (nI su))] ∧ va_P D kls (((([(pa, .inr (4, [.ref fa, .ref ca, .ref la, .ref pce, .ref pse, .ref ppl, .int pen, .int psu, .int pnm, .int pkn, .int pfo])), (la, .inr (3, [.ref lwo])), (lwo, .inl (cJ, 1296, .inr (.inl wo))), (pce, .inl (cII, 32, .inr (.inr (.inr (.inr (fun i => if i < 32 then some (rp i) else none)))))), (pse, .inl (cI, 32, .inl se)), (ppl, .inl (cII, 32, .inr (.inr (.inr (.inr (fun i => if i < 32 then some (rq i) else none)))))), (fa, .inr (1, [.int fw, .int fh, .ref wa, .int (nI F0), .ref ra, .ref sa, .ref ta])), (ra, .inl (cI, 25, .inl rk)), (sa, .inl (cI, 25, .inl sc)), (ta, .inl (cII, 25, .inr (.inr (.inr (.inr (fun i => if i < 25 then some (rr i) else none)))))), (ca, .inr (0, [.ref fa, .int (nI n), .ref cs, .ref cg, .ref cto, .ref cq, .ref cco, .ref cnx])), (cs, .inl (cI, 5, .inl s5)), (cg, .inl (cI, 5, .inl g5)), (cto, .inl (cII, 5, .inr (.inr (.inr (.inr (fun i => if i < 5 then some (rg i) else none))))))] ++ mt_rw 32 rp (fun i => .inl (cI, 5, .inl (Mc i)))) ++ mt_rw 32 rq (fun i => .inl (cI, 5, .inl (Mp i)))) ++ mt_rw 25 rr (fun i => .inl (cI, 5, .inl (Ms i)))) ++ mt_rw 5 rg (fun i => .inl (cI, 25, .inl (Mg i)))) H ∧ va_D A (((([(pa, .inr (4, [.ref fa, .ref ca, .ref la, .ref pce, .ref pse, .ref ppl, .int pen, .int psu, .int pnm, .int pkn, .int pfo])), (la, .inr (3, [.ref lwo])), (lwo, .inl (cJ, 1296, .inr (.inl wo))), (pce, .inl (cII, 32, .inr (.inr (.inr (.inr (fun i => if i < 32 then some (rp i) else none)))))), (pse, .inl (cI, 32, .inl se)), (ppl, .inl (cII, 32, .inr (.inr (.inr (.inr (fun i => if i < 32 then some (rq i) else none)))))), (fa, .inr (1, [.int fw, .int fh, .ref wa, .int (nI F0), .ref ra, .ref sa, .ref ta])), (ra, .inl (cI, 25, .inl rk)), (sa, .inl (cI, 25, .inl sc)), (ta, .inl (cII, 25, .inr (.inr (.inr (.inr (fun i => if i < 25 then some (rr i) else none)))))), (ca, .inr (0, [.ref fa, .int (nI n), .ref cs, .ref cg, .ref cto, .ref cq, .ref cco, .ref cnx])), (cs, .inl (cI, 5, .inl s5)), (cg, .inl (cI, 5, .inl g5)), (cto, .inl (cII, 5, .inr (.inr (.inr (.inr (fun i => if i < 5 then some (rg i) else none))))))] ++ mt_rw 32 rp (fun i => .inl (cI, 5, .inl (Mc i)))) ++ mt_rw 32 rq (fun i => .inl (cI, 5, .inl (Mp i)))) ++ mt_rw 25 rr (fun i => .inl (cI, 5, .inl (Ms i)))) ++ mt_rw 5 rg (fun i => .inl (cI, 25, .inl (Mg i)))) ∧ va_S A s.heap H locs) (μ := fun ix => n - (ix.1)) ?_ (0, 0) ls H _ ⟨Nat.zero_le _, by decide, fun i h => absurd h (Nat.not_lt_zero _), hl, hP, hD, hS⟩
  clear hl hP hD hS
  intro i_a ls H locs ⟨hmm, hhm, hbm, hl, hP, hD, hS⟩ ih_a
  obtain ⟨mm, hm⟩ := i_a
  have hmm : mm ≤ n := hmm
  have hhm : hm < 2 ^ mm := hhm
  have hbm : ∀ i, i < mm → (hm.testBit i = true ↔ P tt i = gl i) := hbm
  have hl : lv_has ls 6 [(4, .int (nI mm)), (3, .int (nI hm)), (0, .ref pa), (1, .int (nI tt)), (2, .int (nI su))] := hl
  have hP : va_P D kls (((([(pa, .inr (4, [.ref fa, .ref ca, .ref la, .ref pce, .ref pse, .ref ppl, .int pen, .int psu, .int pnm, .int pkn, .int pfo])), (la, .inr (3, [.ref lwo])), (lwo, .inl (cJ, 1296, .inr (.inl wo))), (pce, .inl (cII, 32, .inr (.inr (.inr (.inr (fun i => if i < 32 then some (rp i) else none)))))), (pse, .inl (cI, 32, .inl se)), (ppl, .inl (cII, 32, .inr (.inr (.inr (.inr (fun i => if i < 32 then some (rq i) else none)))))), (fa, .inr (1, [.int fw, .int fh, .ref wa, .int (nI F0), .ref ra, .ref sa, .ref ta])), (ra, .inl (cI, 25, .inl rk)), (sa, .inl (cI, 25, .inl sc)), (ta, .inl (cII, 25, .inr (.inr (.inr (.inr (fun i => if i < 25 then some (rr i) else none)))))), (ca, .inr (0, [.ref fa, .int (nI n), .ref cs, .ref cg, .ref cto, .ref cq, .ref cco, .ref cnx])), (cs, .inl (cI, 5, .inl s5)), (cg, .inl (cI, 5, .inl g5)), (cto, .inl (cII, 5, .inr (.inr (.inr (.inr (fun i => if i < 5 then some (rg i) else none))))))] ++ mt_rw 32 rp (fun i => .inl (cI, 5, .inl (Mc i)))) ++ mt_rw 32 rq (fun i => .inl (cI, 5, .inl (Mp i)))) ++ mt_rw 25 rr (fun i => .inl (cI, 5, .inl (Ms i)))) ++ mt_rw 5 rg (fun i => .inl (cI, 25, .inl (Mg i)))) H := hP
  have hD : va_D A (((([(pa, .inr (4, [.ref fa, .ref ca, .ref la, .ref pce, .ref pse, .ref ppl, .int pen, .int psu, .int pnm, .int pkn, .int pfo])), (la, .inr (3, [.ref lwo])), (lwo, .inl (cJ, 1296, .inr (.inl wo))), (pce, .inl (cII, 32, .inr (.inr (.inr (.inr (fun i => if i < 32 then some (rp i) else none)))))), (pse, .inl (cI, 32, .inl se)), (ppl, .inl (cII, 32, .inr (.inr (.inr (.inr (fun i => if i < 32 then some (rq i) else none)))))), (fa, .inr (1, [.int fw, .int fh, .ref wa, .int (nI F0), .ref ra, .ref sa, .ref ta])), (ra, .inl (cI, 25, .inl rk)), (sa, .inl (cI, 25, .inl sc)), (ta, .inl (cII, 25, .inr (.inr (.inr (.inr (fun i => if i < 25 then some (rr i) else none)))))), (ca, .inr (0, [.ref fa, .int (nI n), .ref cs, .ref cg, .ref cto, .ref cq, .ref cco, .ref cnx])), (cs, .inl (cI, 5, .inl s5)), (cg, .inl (cI, 5, .inl g5)), (cto, .inl (cII, 5, .inr (.inr (.inr (.inr (fun i => if i < 5 then some (rg i) else none))))))] ++ mt_rw 32 rp (fun i => .inl (cI, 5, .inl (Mc i)))) ++ mt_rw 32 rq (fun i => .inl (cI, 5, .inl (Mp i)))) ++ mt_rw 25 rr (fun i => .inl (cI, 5, .inl (Ms i)))) ++ mt_rw 5 rg (fun i => .inl (cI, 25, .inl (Mg i)))) := hD
  refine lv_iload hx hb d_pn_canEnd_5 (lv_at hl 0 rfl) ?_
  refine lv_aload_n hx hb d_pn_canEnd_7 rfl (lv_at hl 2 rfl) ?_
  refine gf_pn_34 hx hb hg hown hK hP 0 rfl rfl d_pn_canEnd_8 ?_
  refine gf_pn_83 hx hb hg hown hK hP 10 rfl rfl d_pn_canEnd_11 ?_
  refine lv_icmp_ge hx hb d_pn_canEnd_14 rfl (fun g1 => ?_) (fun g1 => ?_)
  ·
    have g2 : n ≤ mm := by rcases Nat.lt_or_ge mm n with h | h; exact absurd g1 (nI_ge (b := n) h (by omega)); exact h
    have hbn : ∀ i, i < n → (hm.testBit i = true ↔ P tt i = gl i) := fun i hi => hbm i (by omega)
    have hhn : hm < 2 ^ n := Nat.lt_of_lt_of_le hhm (Nat.pow_le_pow_right (by decide) (by omega))
    have hm32 := px_p32 hC.1 hhn
    have hno0 : ∀ S, hm + 1 ≤ S → ¬ px_CE n sc Ms Mg gl P tt su S := by
      intro S hS hCE
      have e9 := px_sub hCE.1 (fun i hi hb9 => (hbn i hi).mpr (hCE.2.1 i hi hb9))
      have e8 : S &&& hm ≤ hm := Nat.and_le_right
      omega
    refine lv_iload_n hx hb d_pn_canEnd_52 rfl (lv_at hl 1 rfl) ?_
    refine lv_istore hx hb d_pn_canEnd_53 hl (by decide) rfl (fun ls hl => ?_)
    have hl : lv_has ls 6 [(4, .int (nI hm)), (3, .int (nI hm)), (0, .ref pa), (1, .int (nI tt)), (2, .int (nI su))] := hl
    have hl := lv_sub hl [0, 1, 2, 3, 4] (l' := [(4, .int (nI hm)), (3, .int (nI hm)), (0, .ref pa), (1, .int (nI tt)), (2, .int (nI su))]) rfl
    refine mt_loop (ι := Int32 × Nat × (Nat → Int64) × (Nat → Nat → Int32) × (Nat → Int32)) (I := fun ix ls H locs => ((ix.1) = nI (ix.2.1) - 1) ∧ ((ix.2.1) ≤ hm + 1) ∧ (px_Snd F0 n N0 wf rk sc Ms Mg gl (ix.2.2.1)) ∧ (∀ S, (ix.2.1) ≤ S → ¬ px_CE n sc Ms Mg gl P tt su S) ∧ lv_has ls 6 [(4, .int (ix.1)), (3, .int (nI hm)), (0, .ref pa), (1, .int (nI tt)), (2, .int (nI su))] ∧ va_P D kls (((([(pa, .inr (4, [.ref fa, .ref ca, .ref la, .ref pce, .ref pse, .ref ppl, .int pen, .int psu, .int pnm, .int pkn, .int pfo])), (la, .inr (3, [.ref lwo])), (lwo, .inl (cJ, 1296, .inr (.inl (ix.2.2.1)))), (pce, .inl (cII, 32, .inr (.inr (.inr (.inr (fun i => if i < 32 then some (rp i) else none)))))), (pse, .inl (cI, 32, .inl (ix.2.2.2.2))), (ppl, .inl (cII, 32, .inr (.inr (.inr (.inr (fun i => if i < 32 then some (rq i) else none)))))), (fa, .inr (1, [.int fw, .int fh, .ref wa, .int (nI F0), .ref ra, .ref sa, .ref ta])), (ra, .inl (cI, 25, .inl rk)), (sa, .inl (cI, 25, .inl sc)), (ta, .inl (cII, 25, .inr (.inr (.inr (.inr (fun i => if i < 25 then some (rr i) else none)))))), (ca, .inr (0, [.ref fa, .int (nI n), .ref cs, .ref cg, .ref cto, .ref cq, .ref cco, .ref cnx])), (cs, .inl (cI, 5, .inl s5)), (cg, .inl (cI, 5, .inl g5)), (cto, .inl (cII, 5, .inr (.inr (.inr (.inr (fun i => if i < 5 then some (rg i) else none))))))] ++ mt_rw 32 rp (fun i => .inl (cI, 5, .inl ((ix.2.2.2.1) i)))) ++ mt_rw 32 rq (fun i => .inl (cI, 5, .inl (Mp i)))) ++ mt_rw 25 rr (fun i => .inl (cI, 5, .inl (Ms i)))) ++ mt_rw 5 rg (fun i => .inl (cI, 25, .inl (Mg i)))) H ∧ va_D A (((([(pa, .inr (4, [.ref fa, .ref ca, .ref la, .ref pce, .ref pse, .ref ppl, .int pen, .int psu, .int pnm, .int pkn, .int pfo])), (la, .inr (3, [.ref lwo])), (lwo, .inl (cJ, 1296, .inr (.inl (ix.2.2.1)))), (pce, .inl (cII, 32, .inr (.inr (.inr (.inr (fun i => if i < 32 then some (rp i) else none)))))), (pse, .inl (cI, 32, .inl (ix.2.2.2.2))), (ppl, .inl (cII, 32, .inr (.inr (.inr (.inr (fun i => if i < 32 then some (rq i) else none)))))), (fa, .inr (1, [.int fw, .int fh, .ref wa, .int (nI F0), .ref ra, .ref sa, .ref ta])), (ra, .inl (cI, 25, .inl rk)), (sa, .inl (cI, 25, .inl sc)), (ta, .inl (cII, 25, .inr (.inr (.inr (.inr (fun i => if i < 25 then some (rr i) else none)))))), (ca, .inr (0, [.ref fa, .int (nI n), .ref cs, .ref cg, .ref cto, .ref cq, .ref cco, .ref cnx])), (cs, .inl (cI, 5, .inl s5)), (cg, .inl (cI, 5, .inl g5)), (cto, .inl (cII, 5, .inr (.inr (.inr (.inr (fun i => if i < 5 then some (rg i) else none))))))] ++ mt_rw 32 rp (fun i => .inl (cI, 5, .inl ((ix.2.2.2.1) i)))) ++ mt_rw 32 rq (fun i => .inl (cI, 5, .inl (Mp i)))) ++ mt_rw 25 rr (fun i => .inl (cI, 5, .inl (Ms i)))) ++ mt_rw 5 rg (fun i => .inl (cI, 25, .inl (Mg i)))) ∧ va_S A s.heap H locs) (μ := fun ix => (ix.2.1)) ?_ (nI hm, hm + 1, wo, Mc, se) ls H _ ⟨(nI_pred hm).symm, Nat.le_refl _, hsn, hno0, hl, hP, hD, hS⟩
    clear hl hP hD hS
    intro i_b ls H locs ⟨hxc, hcc, hs2, hno, hl, hP, hD, hS⟩ ih_b
    obtain ⟨x, cc, wo2, Mc2, se2⟩ := i_b
    have hxc : x = nI cc - 1 := hxc
    have hcc : cc ≤ hm + 1 := hcc
    have hs2 : px_Snd F0 n N0 wf rk sc Ms Mg gl wo2 := hs2
    have hno : ∀ S, cc ≤ S → ¬ px_CE n sc Ms Mg gl P tt su S := hno
    have hl : lv_has ls 6 [(4, .int x), (3, .int (nI hm)), (0, .ref pa), (1, .int (nI tt)), (2, .int (nI su))] := hl
    have hP : va_P D kls (((([(pa, .inr (4, [.ref fa, .ref ca, .ref la, .ref pce, .ref pse, .ref ppl, .int pen, .int psu, .int pnm, .int pkn, .int pfo])), (la, .inr (3, [.ref lwo])), (lwo, .inl (cJ, 1296, .inr (.inl wo2))), (pce, .inl (cII, 32, .inr (.inr (.inr (.inr (fun i => if i < 32 then some (rp i) else none)))))), (pse, .inl (cI, 32, .inl se2)), (ppl, .inl (cII, 32, .inr (.inr (.inr (.inr (fun i => if i < 32 then some (rq i) else none)))))), (fa, .inr (1, [.int fw, .int fh, .ref wa, .int (nI F0), .ref ra, .ref sa, .ref ta])), (ra, .inl (cI, 25, .inl rk)), (sa, .inl (cI, 25, .inl sc)), (ta, .inl (cII, 25, .inr (.inr (.inr (.inr (fun i => if i < 25 then some (rr i) else none)))))), (ca, .inr (0, [.ref fa, .int (nI n), .ref cs, .ref cg, .ref cto, .ref cq, .ref cco, .ref cnx])), (cs, .inl (cI, 5, .inl s5)), (cg, .inl (cI, 5, .inl g5)), (cto, .inl (cII, 5, .inr (.inr (.inr (.inr (fun i => if i < 5 then some (rg i) else none))))))] ++ mt_rw 32 rp (fun i => .inl (cI, 5, .inl (Mc2 i)))) ++ mt_rw 32 rq (fun i => .inl (cI, 5, .inl (Mp i)))) ++ mt_rw 25 rr (fun i => .inl (cI, 5, .inl (Ms i)))) ++ mt_rw 5 rg (fun i => .inl (cI, 25, .inl (Mg i)))) H := hP
    have hD : va_D A (((([(pa, .inr (4, [.ref fa, .ref ca, .ref la, .ref pce, .ref pse, .ref ppl, .int pen, .int psu, .int pnm, .int pkn, .int pfo])), (la, .inr (3, [.ref lwo])), (lwo, .inl (cJ, 1296, .inr (.inl wo2))), (pce, .inl (cII, 32, .inr (.inr (.inr (.inr (fun i => if i < 32 then some (rp i) else none)))))), (pse, .inl (cI, 32, .inl se2)), (ppl, .inl (cII, 32, .inr (.inr (.inr (.inr (fun i => if i < 32 then some (rq i) else none)))))), (fa, .inr (1, [.int fw, .int fh, .ref wa, .int (nI F0), .ref ra, .ref sa, .ref ta])), (ra, .inl (cI, 25, .inl rk)), (sa, .inl (cI, 25, .inl sc)), (ta, .inl (cII, 25, .inr (.inr (.inr (.inr (fun i => if i < 25 then some (rr i) else none)))))), (ca, .inr (0, [.ref fa, .int (nI n), .ref cs, .ref cg, .ref cto, .ref cq, .ref cco, .ref cnx])), (cs, .inl (cI, 5, .inl s5)), (cg, .inl (cI, 5, .inl g5)), (cto, .inl (cII, 5, .inr (.inr (.inr (.inr (fun i => if i < 5 then some (rg i) else none))))))] ++ mt_rw 32 rp (fun i => .inl (cI, 5, .inl (Mc2 i)))) ++ mt_rw 32 rq (fun i => .inl (cI, 5, .inl (Mp i)))) ++ mt_rw 25 rr (fun i => .inl (cI, 5, .inl (Ms i)))) ++ mt_rw 5 rg (fun i => .inl (cI, 25, .inl (Mg i)))) := hD
    refine lv_iload hx hb d_pn_canEnd_55 (lv_at hl 0 rfl) ?_
    refine lv_if_lt hx hb d_pn_canEnd_57 rfl (fun g4 => ?_) (fun g4 => ?_)
    ·
      have gc0 : cc = 0 := by
        cases cc with
        | zero => rfl
        | succ c9 => rw [hxc, nI_pred] at g4; exact absurd g4 (nI_pos (by omega))
      refine lv_iconst (v := 0) hx hb d_pn_canEnd_102 (by decide) ?_
      have hP9 := hP
      have hD9 := hD
      exact W.zret hx hb hr rfl (fun t ht hW => ⟨⟨0, (wo2, Mc2, se2), rfl, ⟨Or.inr ⟨rfl, fun S => hno S (by omega)⟩, hs2⟩, by rw [ht]; exact hP9, hD9⟩, hS.F ht⟩) hS.2.2 d_pn_canEnd_103
    ·
      obtain ⟨c9, hc9, hx9⟩ : ∃ c9, cc = c9 + 1 ∧ x = nI c9 := by
        cases cc with
        | zero => exact absurd (by rw [hxc]; decide) g4
        | succ c9 => exact ⟨c9, rfl, by rw [hxc, nI_pred]⟩
      rw [hx9] at hl
      have hl : lv_has ls 6 [(4, .int (nI c9)), (3, .int (nI hm)), (0, .ref pa), (1, .int (nI tt)), (2, .int (nI su))] := hl
      have hc32 : c9 < 32 := by omega
      refine lv_iload hx hb d_pn_canEnd_60 (lv_at hl 0 rfl) ?_
      refine lv_iload_n hx hb d_pn_canEnd_62 rfl (lv_at hl 1 rfl) ?_
      refine lv_iconst (v := (-1)) hx hb d_pn_canEnd_63 (by decide) ?_
      refine lv_ixor hx hb d_pn_canEnd_64 ?_
      refine lv_iand hx hb d_pn_canEnd_65 ?_
      refine lv_if_ne hx hb d_pn_canEnd_66 rfl (fun gq5 => ?_) (fun gq5 => ?_)
      ·
        have hno9 : ∀ S, c9 ≤ S → ¬ px_CE n sc Ms Mg gl P tt su S := by
          intro S hS hCE
          by_cases e9 : S = c9
          · subst e9
            exact gq5 ((bt_sub S hc32 hm hm32).mpr (px_sub hCE.1 (fun i hi hb9 => (hbn i hi).mpr (hCE.2.1 i hi hb9))))
          · exact hno S (by omega) hCE
        refine lv_iinc (k := 0) (v := nI c9 + (-1)) hx hb d_pn_canEnd_96 hl rfl rfl (by decide) rfl (fun ls hl => ?_)
        have hl : lv_has ls 6 [(4, .int (nI c9 + (-1))), (3, .int (nI hm)), (0, .ref pa), (1, .int (nI tt)), (2, .int (nI su))] := hl
        refine lv_goto hx hb d_pn_canEnd_99 rfl ?_
        have hl := lv_sub hl [0, 1, 2, 3, 4] (l' := [(4, .int (nI c9 + (-1))), (3, .int (nI hm)), (0, .ref pa), (1, .int (nI tt)), (2, .int (nI su))]) rfl
        exact ih_b (nI c9 + (-1), c9, wo2, Mc2, se2) ls H _ (by show c9 < cc; omega) ⟨Int32.add_neg_eq_sub, by show c9 ≤ hm + 1; omega, hs2, hno9, hl, hP, hD, hS⟩
      ·
        have hsub : c9 &&& hm = c9 := (bt_sub c9 hc32 hm hm32).mp gq5
        have hcn : c9 < 2 ^ n := Nat.lt_of_le_of_lt (show c9 ≤ hm by omega) hhn
        have hcg : ∀ i, i < n → c9.testBit i = true → P tt i = gl i := fun i hi hb9 => (hbn i hi).mp (px_sub2 hsub hb9)
        have hw6 := px_w6 hC hPl hcg hsu
        refine lv_aload_n hx hb d_pn_canEnd_69 rfl (lv_at hl 2 rfl) ?_
        refine lv_iload_n hx hb d_pn_canEnd_70 rfl (lv_at hl 3 rfl) ?_
        refine lv_iload hx hb d_pn_canEnd_71 (lv_at hl 0 rfl) ?_
        refine lv_iload_n hx hb d_pn_canEnd_73 rfl (lv_at hl 4 rfl) ?_
        have hPc := hP
        have hDc := hD
        have hFc := mt_whole hD hS hA
        refine va_calli (va_runV (As := [.int (nI tt), .int (nI c9), .int (nI su)]) (rest := []) ⟨hx, hb, hml, hown, hg⟩ (c_pn_startSearch l D cZ cI cJ cII pa pce pse ppl pen psu pnm pkn pfo la lwo fa fw fh wa ra sa ta ca cs cg cto cq cco cnx wo2 Mc2 se2 Mp rk sc s5 g5 rp rq rr rg Ms Mg _ _ N0 W0 wf gl sp P tt c9 su H.size hC ht1 hc32 hsu9 hPl) (cwV 3 hg gv_pn_111 rfl rfl rfl (by decide +kernel) ⟨Nat.le_of_ble_eq_true rfl, Nat.le_of_ble_eq_true rfl⟩) ⟨mt_bl, va_recv (q0 := 0) (ci := 4) hK hP rfl rfl, mt_pr hX hPc hK hDc⟩ rfl rfl hl.1 rfl (lv_room (Nat.le_of_ble_eq_true rfl)) d_pn_canEnd_74 ⟨Nat.le_of_ble_eq_true rfl, Nat.le_of_ble_eq_true rfl⟩) hS (fun q _ h => hFc q h) hFc (fun r1 u t H1 locs ht hvm hw hB hz1 hk1 hS => ?_)
        obtain ⟨Mc12, rfl⟩ : ∃ z, z = u := ⟨_, rfl⟩
        obtain ⟨hr1, hwr1⟩ := hw
        have hr1 : (px_cs gl Mg P c9 tt n ≤ su ∧ r1 = nI (su - px_cs gl Mg P c9 tt n)) ∨ (su < px_cs gl Mg P c9 tt n ∧ r1 < 0) := hr1
        have hwr1 : ∀ i, i < n → Mc12 0 i = nI (P tt i) := hwr1
        obtain ⟨hP1, hD1⟩ := hB
        rw [ht] at hP1
        have hP := hP1
        have hD := hD1.weaken (fun _ _ _ h => hFc _ h)
        generalize H1 = H at hP hS ⊢
        have hP : va_P D kls (((([(pa, .inr (4, [.ref fa, .ref ca, .ref la, .ref pce, .ref pse, .ref ppl, .int pen, .int psu, .int pnm, .int pkn, .int pfo])), (la, .inr (3, [.ref lwo])), (lwo, .inl (cJ, 1296, .inr (.inl wo2))), (pce, .inl (cII, 32, .inr (.inr (.inr (.inr (fun i => if i < 32 then some (rp i) else none)))))), (pse, .inl (cI, 32, .inl (upd se2 0 (nI c9)))), (ppl, .inl (cII, 32, .inr (.inr (.inr (.inr (fun i => if i < 32 then some (rq i) else none)))))), (fa, .inr (1, [.int fw, .int fh, .ref wa, .int (nI F0), .ref ra, .ref sa, .ref ta])), (ra, .inl (cI, 25, .inl rk)), (sa, .inl (cI, 25, .inl sc)), (ta, .inl (cII, 25, .inr (.inr (.inr (.inr (fun i => if i < 25 then some (rr i) else none)))))), (ca, .inr (0, [.ref fa, .int (nI n), .ref cs, .ref cg, .ref cto, .ref cq, .ref cco, .ref cnx])), (cs, .inl (cI, 5, .inl s5)), (cg, .inl (cI, 5, .inl g5)), (cto, .inl (cII, 5, .inr (.inr (.inr (.inr (fun i => if i < 5 then some (rg i) else none))))))] ++ mt_rw 32 rp (fun i => .inl (cI, 5, .inl (Mc12 i)))) ++ mt_rw 32 rq (fun i => .inl (cI, 5, .inl (Mp i)))) ++ mt_rw 25 rr (fun i => .inl (cI, 5, .inl (Ms i)))) ++ mt_rw 5 rg (fun i => .inl (cI, 25, .inl (Mg i)))) H := hP
        have hD : va_D A (((([(pa, .inr (4, [.ref fa, .ref ca, .ref la, .ref pce, .ref pse, .ref ppl, .int pen, .int psu, .int pnm, .int pkn, .int pfo])), (la, .inr (3, [.ref lwo])), (lwo, .inl (cJ, 1296, .inr (.inl wo2))), (pce, .inl (cII, 32, .inr (.inr (.inr (.inr (fun i => if i < 32 then some (rp i) else none)))))), (pse, .inl (cI, 32, .inl (upd se2 0 (nI c9)))), (ppl, .inl (cII, 32, .inr (.inr (.inr (.inr (fun i => if i < 32 then some (rq i) else none)))))), (fa, .inr (1, [.int fw, .int fh, .ref wa, .int (nI F0), .ref ra, .ref sa, .ref ta])), (ra, .inl (cI, 25, .inl rk)), (sa, .inl (cI, 25, .inl sc)), (ta, .inl (cII, 25, .inr (.inr (.inr (.inr (fun i => if i < 25 then some (rr i) else none)))))), (ca, .inr (0, [.ref fa, .int (nI n), .ref cs, .ref cg, .ref cto, .ref cq, .ref cco, .ref cnx])), (cs, .inl (cI, 5, .inl s5)), (cg, .inl (cI, 5, .inl g5)), (cto, .inl (cII, 5, .inr (.inr (.inr (.inr (fun i => if i < 5 then some (rg i) else none))))))] ++ mt_rw 32 rp (fun i => .inl (cI, 5, .inl (Mc12 i)))) ++ mt_rw 32 rq (fun i => .inl (cI, 5, .inl (Mp i)))) ++ mt_rw 25 rr (fun i => .inl (cI, 5, .inl (Ms i)))) ++ mt_rw 5 rg (fun i => .inl (cI, 25, .inl (Mg i)))) := hD
        have hss := hr1
        have hr0 := hwr1
        refine lv_istore hx hb d_pn_canEnd_77 hl (by decide) rfl (fun ls hl => ?_)
        have hl : lv_has ls 6 [(5, .int r1), (4, .int (nI c9)), (3, .int (nI hm)), (0, .ref pa), (1, .int (nI tt)), (2, .int (nI su))] := hl
        refine lv_iload hx hb d_pn_canEnd_79 (lv_at hl 0 rfl) ?_
        refine lv_if_lt hx hb d_pn_canEnd_81 rfl (fun g6 => ?_) (fun g6 => ?_)
        ·
          have hneg : su < px_cs gl Mg P c9 tt n := hss.elim (fun q => absurd g6 (by rw [q.2]; exact nI_pos (by omega))) (fun q => q.1)
          have hno9 : ∀ S, c9 ≤ S → ¬ px_CE n sc Ms Mg gl P tt su S := by
            intro S hS hCE
            by_cases e9 : S = c9
            · subst e9
              exact absurd hCE.2.2.1 (Nat.not_le.mpr hneg)
            · exact hno S (by omega) hCE
          refine lv_iinc (k := 1) (v := nI c9 + (-1)) hx hb d_pn_canEnd_96 hl rfl rfl (by decide) rfl (fun ls hl => ?_)
          have hl : lv_has ls 6 [(4, .int (nI c9 + (-1))), (5, .int r1), (3, .int (nI hm)), (0, .ref pa), (1, .int (nI tt)), (2, .int (nI su))] := hl
          refine lv_goto hx hb d_pn_canEnd_99 rfl ?_
          have hl := lv_sub hl [0, 2, 3, 4, 5] (l' := [(4, .int (nI c9 + (-1))), (3, .int (nI hm)), (0, .ref pa), (1, .int (nI tt)), (2, .int (nI su))]) rfl
          exact ih_b (nI c9 + (-1), c9, wo2, Mc12, upd se2 0 (nI c9)) ls H _ (by show c9 < cc; omega) ⟨Int32.add_neg_eq_sub, by show c9 ≤ hm + 1; omega, hs2, hno9, hl, hP, hD, hS⟩
        ·
          obtain ⟨hge, hre⟩ : px_cs gl Mg P c9 tt n ≤ su ∧ r1 = nI (su - px_cs gl Mg P c9 tt n) := hss.elim id (fun q => absurd q.2 g6)
          rw [hre] at hl
          have hl : lv_has ls 6 [(5, .int (nI (su - px_cs gl Mg P c9 tt n))), (4, .int (nI c9)), (3, .int (nI hm)), (0, .ref pa), (1, .int (nI tt)), (2, .int (nI su))] := hl
          refine lv_aload_n hx hb d_pn_canEnd_84 rfl (lv_at hl 3 rfl) ?_
          refine lv_iconst (v := 0) hx hb d_pn_canEnd_85 (by decide) ?_
          refine lv_iload hx hb d_pn_canEnd_86 (lv_at hl 0 rfl) ?_
          have hPc := hP
          have hDc := hD
          have hFc := mt_whole hD hS hA
          refine va_calli (va_runV (As := [.int 0, .int (nI (su - px_cs gl Mg P c9 tt n))]) (rest := []) ⟨hx, hb, hml, hown, hg⟩ (c_pn_reachesEnd l D cZ cI cJ cII pa pce pse ppl pen psu pnm pkn pfo la lwo fa fw fh wa ra sa ta ca cs cg cto cq cco cnx wo2 Mc12 (upd se2 0 (nI c9)) Mp rk sc s5 g5 rp rq rr rg Ms Mg _ _ N0 W0 wf gl 0 c9 (su - px_cs gl Mg P c9 tt n) (P tt) H.size hC (by omega) (⟨hcn, (hPl.1 tt (Nat.le_refl _)).1, fun i hi => ⟨px_PlA hC hPl tt i (Nat.le_refl _) hi, hcg i hi⟩⟩) hr0 pk_us (hw6.1) (fun i hi hb9 => hw6.2 hge i hi hb9) hs2) (cwV 2 hg gv_pn_115 rfl rfl rfl (by decide +kernel) ⟨Nat.le_of_ble_eq_true rfl, Nat.le_of_ble_eq_true rfl⟩) ⟨mt_bl, va_recv (q0 := 0) (ci := 4) hK hP rfl rfl, mt_pr hX hPc hK hDc⟩ rfl rfl hl.1 rfl (lv_room (Nat.le_of_ble_eq_true rfl)) d_pn_canEnd_88 ⟨Nat.le_of_ble_eq_true rfl, Nat.le_of_ble_eq_true rfl⟩) hS (fun q _ h => hFc q h) hFc (fun r3 u t H1 locs ht hvm hw hB hz1 hk1 hS => ?_)
          obtain ⟨wo5, Mc5, se5⟩ := u
          obtain ⟨hr3, hwr3⟩ := hw
          have hr3 : (r3 = 1 ∧ px_Ex n sc Ms Mg gl (31 - (0 : Nat)) c9 (P tt) (su - px_cs gl Mg P c9 tt n)) ∨ (r3 = 0 ∧ ¬ px_Ex n sc Ms Mg gl (31 - (0 : Nat)) c9 (P tt) (su - px_cs gl Mg P c9 tt n)) := hr3
          have hwr3 : px_Snd F0 n N0 wf rk sc Ms Mg gl wo5 ∧ (∀ i, i ≤ (0 : Nat) → Mc5 i = Mc12 i) ∧ (∀ i, i ≤ (0 : Nat) → se5 i = (upd se2 0 (nI c9)) i) := hwr3
          obtain ⟨hP1, hD1⟩ := hB
          rw [ht] at hP1
          have hP := hP1
          have hD := hD1.weaken (fun _ _ _ h => hFc _ h)
          generalize H1 = H at hP hS ⊢
          have hP : va_P D kls (((([(pa, .inr (4, [.ref fa, .ref ca, .ref la, .ref pce, .ref pse, .ref ppl, .int pen, .int psu, .int pnm, .int pkn, .int pfo])), (la, .inr (3, [.ref lwo])), (lwo, .inl (cJ, 1296, .inr (.inl wo5))), (pce, .inl (cII, 32, .inr (.inr (.inr (.inr (fun i => if i < 32 then some (rp i) else none)))))), (pse, .inl (cI, 32, .inl se5)), (ppl, .inl (cII, 32, .inr (.inr (.inr (.inr (fun i => if i < 32 then some (rq i) else none)))))), (fa, .inr (1, [.int fw, .int fh, .ref wa, .int (nI F0), .ref ra, .ref sa, .ref ta])), (ra, .inl (cI, 25, .inl rk)), (sa, .inl (cI, 25, .inl sc)), (ta, .inl (cII, 25, .inr (.inr (.inr (.inr (fun i => if i < 25 then some (rr i) else none)))))), (ca, .inr (0, [.ref fa, .int (nI n), .ref cs, .ref cg, .ref cto, .ref cq, .ref cco, .ref cnx])), (cs, .inl (cI, 5, .inl s5)), (cg, .inl (cI, 5, .inl g5)), (cto, .inl (cII, 5, .inr (.inr (.inr (.inr (fun i => if i < 5 then some (rg i) else none))))))] ++ mt_rw 32 rp (fun i => .inl (cI, 5, .inl (Mc5 i)))) ++ mt_rw 32 rq (fun i => .inl (cI, 5, .inl (Mp i)))) ++ mt_rw 25 rr (fun i => .inl (cI, 5, .inl (Ms i)))) ++ mt_rw 5 rg (fun i => .inl (cI, 25, .inl (Mg i)))) H := hP
          have hD : va_D A (((([(pa, .inr (4, [.ref fa, .ref ca, .ref la, .ref pce, .ref pse, .ref ppl, .int pen, .int psu, .int pnm, .int pkn, .int pfo])), (la, .inr (3, [.ref lwo])), (lwo, .inl (cJ, 1296, .inr (.inl wo5))), (pce, .inl (cII, 32, .inr (.inr (.inr (.inr (fun i => if i < 32 then some (rp i) else none)))))), (pse, .inl (cI, 32, .inl se5)), (ppl, .inl (cII, 32, .inr (.inr (.inr (.inr (fun i => if i < 32 then some (rq i) else none)))))), (fa, .inr (1, [.int fw, .int fh, .ref wa, .int (nI F0), .ref ra, .ref sa, .ref ta])), (ra, .inl (cI, 25, .inl rk)), (sa, .inl (cI, 25, .inl sc)), (ta, .inl (cII, 25, .inr (.inr (.inr (.inr (fun i => if i < 25 then some (rr i) else none)))))), (ca, .inr (0, [.ref fa, .int (nI n), .ref cs, .ref cg, .ref cto, .ref cq, .ref cco, .ref cnx])), (cs, .inl (cI, 5, .inl s5)), (cg, .inl (cI, 5, .inl g5)), (cto, .inl (cII, 5, .inr (.inr (.inr (.inr (fun i => if i < 5 then some (rg i) else none))))))] ++ mt_rw 32 rp (fun i => .inl (cI, 5, .inl (Mc5 i)))) ++ mt_rw 32 rq (fun i => .inl (cI, 5, .inl (Mp i)))) ++ mt_rw 25 rr (fun i => .inl (cI, 5, .inl (Ms i)))) ++ mt_rw 5 rg (fun i => .inl (cI, 25, .inl (Mg i)))) := hD
          have hX5 := hr3
          have hs5 := hwr3.1
          refine lv_if_eq hx hb d_pn_canEnd_91 rfl (fun g7 => ?_) (fun g7 => ?_)
          ·
            have hnE := hX5.elim (fun q => absurd (q.1.symm.trans g7) (by decide)) (fun q => q.2)
            have hno9 : ∀ S, c9 ≤ S → ¬ px_CE n sc Ms Mg gl P tt su S := by
              intro S hS hCE
              by_cases e9 : S = c9
              · subst e9
                exact hnE hCE.2.2.2
              · exact hno S (by omega) hCE
            refine lv_iinc (k := 1) (v := nI c9 + (-1)) hx hb d_pn_canEnd_96 hl rfl rfl (by decide) rfl (fun ls hl => ?_)
            have hl : lv_has ls 6 [(4, .int (nI c9 + (-1))), (5, .int (nI (su - px_cs gl Mg P c9 tt n))), (3, .int (nI hm)), (0, .ref pa), (1, .int (nI tt)), (2, .int (nI su))] := hl
            refine lv_goto hx hb d_pn_canEnd_99 rfl ?_
            have hl := lv_sub hl [0, 2, 3, 4, 5] (l' := [(4, .int (nI c9 + (-1))), (3, .int (nI hm)), (0, .ref pa), (1, .int (nI tt)), (2, .int (nI su))]) rfl
            exact ih_b (nI c9 + (-1), c9, wo5, Mc5, se5) ls H _ (by show c9 < cc; omega) ⟨Int32.add_neg_eq_sub, by show c9 ≤ hm + 1; omega, hs5, hno9, hl, hP, hD, hS⟩
          ·
            have hE := hX5.elim (fun q => q.2) (fun q => absurd q.1 g7)
            refine lv_iconst (v := 1) hx hb d_pn_canEnd_94 (by decide) ?_
            have hP9 := hP
            have hD9 := hD
            exact W.zret hx hb hr rfl (fun t ht hW => ⟨⟨1, (wo5, Mc5, se5), rfl, ⟨Or.inl ⟨rfl, c9, px_ce_of hcn hcg hge hE⟩, hs5⟩, by rw [ht]; exact hP9, hD9⟩, hS.F ht⟩) hS.2.2 d_pn_canEnd_95
  ·
    have g2 : mm < n := by rcases Nat.lt_or_ge mm n with h | h; exact h; exact absurd (nI_le (a := n) h (by omega)) g1
    have hn5 := hC.1
    have hA := px_PlA hC hPl tt mm (Nat.le_refl _) g2
    have hc25 := px_A25 hC hA
    have hgl := hC.2.2.2.2.2 mm g2
    have hgl25 := px_A25 hC (px_Ag hC g2)
    refine lv_aload_n hx hb d_pn_canEnd_17 rfl (lv_at hl 2 rfl) ?_
    refine gf_pn_27 hx hb hg hown hK hP 0 rfl rfl d_pn_canEnd_18 ?_
    refine lv_iload_n hx hb d_pn_canEnd_21 rfl (lv_at hl 3 rfl) ?_
    refine mt_aald hx hb hK hP 5 3 rfl rfl (vp_in_nI (show tt < 32 by omega) (by decide)) (by show (if (nI tt).toNatClampNeg < 32 then some (rq (nI tt).toNatClampNeg) else none) = some (rq tt); rw [nI_clamp (show tt < 2 ^ 31 by omega), if_pos (show tt < 32 by omega)]) d_pn_canEnd_22 ?_
    refine lv_iload hx hb d_pn_canEnd_23 (lv_at hl 0 rfl) ?_
    refine va_iald hx hb hK hP (46 + tt) 1 (mt_at_l (mt_at_l (mt_rw_at rfl (show tt < 32 by omega)))) rfl (vp_in_nI (show mm < 5 by omega) (by decide)) d_pn_canEnd_25 ?_
    refine lv_topi (fun y4 ey4 => ?_)
    have ey4 : y4 = nI (P tt mm) := ey4.trans (by rw [nI_clamp (show mm < 2 ^ 31 by omega)]; exact ((hPl.1 tt (Nat.le_refl _)).2 mm g2))
    subst ey4
    refine lv_aload_n hx hb d_pn_canEnd_26 rfl (lv_at hl 2 rfl) ?_
    refine gf_pn_34 hx hb hg hown hK hP 0 rfl rfl d_pn_canEnd_27 ?_
    refine gf_pn_96 hx hb hg hown hK hP 10 rfl rfl d_pn_canEnd_30 ?_
    refine lv_iload hx hb d_pn_canEnd_33 (lv_at hl 0 rfl) ?_
    refine va_iald hx hb hK hP 12 1 rfl rfl (vp_in_nI (show mm < 5 by omega) (by decide)) d_pn_canEnd_35 ?_
    refine lv_topi (fun y5 ey5 => ?_)
    have ey5 : y5 = nI (gl mm) := ey5.trans (by rw [nI_clamp (show mm < 2 ^ 31 by omega)]; exact hgl.1)
    subst ey5
    refine lv_icmp_ne hx hb d_pn_canEnd_36 rfl (fun g3 => ?_) (fun g3 => ?_)
    ·
      have g3e : ¬ P tt mm = gl mm := fun h => g3 (by rw [h])
      refine lv_iinc (k := 0) (v := nI (mm + 1)) hx hb d_pn_canEnd_46 hl rfl ((nI_succ mm).symm) (by decide) rfl (fun ls hl => ?_)
      have hl : lv_has ls 6 [(4, .int (nI (mm + 1))), (3, .int (nI hm)), (0, .ref pa), (1, .int (nI tt)), (2, .int (nI su))] := hl
      refine lv_goto hx hb d_pn_canEnd_49 rfl ?_
      have hl := lv_sub hl [0, 1, 2, 3, 4] (l' := [(4, .int (nI (mm + 1))), (3, .int (nI hm)), (0, .ref pa), (1, .int (nI tt)), (2, .int (nI su))]) rfl
      exact ih_a (mm + 1, hm) ls H _ (by show n - (mm + 1) < n - mm; omega) ⟨by show mm + 1 ≤ n; omega, Nat.lt_of_lt_of_le hhm (Nat.pow_le_pow_right (by decide) (by omega)), fun i hi => (Nat.lt_or_ge i mm).elim (fun h2 => hbm i h2) (fun h2 => by rw [show i = mm from Nat.le_antisymm (Nat.le_of_lt_succ hi) h2, sx_hi hhm]; exact ⟨fun h => (by cases h), fun h => absurd h g3e⟩), hl, hP, hD, hS⟩
    ·
      have g3e : P tt mm = gl mm := (nI_eq (by omega) (by omega)).mp g3
      refine lv_iload_n hx hb d_pn_canEnd_39 rfl (lv_at hl 1 rfl) ?_
      refine lv_iconst (v := 1) hx hb d_pn_canEnd_40 (by decide) ?_
      refine lv_iload hx hb d_pn_canEnd_41 (lv_at hl 0 rfl) ?_
      refine lv_ishl hx hb d_pn_canEnd_43 ?_
      refine lv_ior hx hb d_pn_canEnd_44 ?_
      refine lv_topi (fun y6 ey6 => ?_)
      have ey6 : y6 = nI (hm ||| 2 ^ mm) := ey6.trans (bt_or hm (px_p32 (n := mm) (by omega) hhm) mm (by omega))
      subst ey6
      refine lv_istore_n hx hb d_pn_canEnd_45 rfl hl (by decide) rfl (fun ls hl => ?_)
      have hl : lv_has ls 6 [(3, .int (nI (hm ||| 2 ^ mm))), (4, .int (nI mm)), (0, .ref pa), (1, .int (nI tt)), (2, .int (nI su))] := hl
      refine lv_iinc (k := 1) (v := nI (mm + 1)) hx hb d_pn_canEnd_46 hl rfl ((nI_succ mm).symm) (by decide) rfl (fun ls hl => ?_)
      have hl : lv_has ls 6 [(4, .int (nI (mm + 1))), (3, .int (nI (hm ||| 2 ^ mm))), (0, .ref pa), (1, .int (nI tt)), (2, .int (nI su))] := hl
      refine lv_goto hx hb d_pn_canEnd_49 rfl ?_
      have hl := lv_sub hl [0, 1, 2, 3, 4] (l' := [(4, .int (nI (mm + 1))), (3, .int (nI (hm ||| 2 ^ mm))), (0, .ref pa), (1, .int (nI tt)), (2, .int (nI su))]) rfl
      exact ih_a (mm + 1, hm ||| 2 ^ mm) ls H _ (by show n - (mm + 1) < n - mm; omega) ⟨by show mm + 1 ≤ n; omega, sx_or hhm, fun i hi => (Nat.lt_or_ge i mm).elim (fun h2 => by rw [sx_or_n h2]; exact hbm i h2) (fun h2 => by rw [show i = mm from Nat.le_antisymm (Nat.le_of_lt_succ hi) h2]; exact ⟨fun _ => g3e, fun _ => sx_or_s⟩), hl, hP, hD, hS⟩
