set_option maxHeartbeats 4000000 in
set_option maxRecDepth 100000 in
theorem c_vd_seek (l : Launch) (D : va_G) (cZ cI cJ cII : ClassId) (ea : Nat) (eso : Int32) (eti : Int32) (eles : Int32) (egr : Int32) (ca : Nat) (cfl : Nat) (cs : Nat) (cg : Nat) (cto : Nat) (cq : Nat) (cco : Nat) (cnx : Nat) (fa : Nat) (fw : Int32) (fh : Int32) (wa : Nat) (fc : Int32) (ra : Nat) (sa : Nat) (ta : Nat) (da : Nat) (dce : Nat) (dto : Nat) (dle : Nat) (wf : Nat → Int32) (sf : Nat → Int32) (rr : Nat → Nat) (Ms : Nat → Nat → Int32) (s5 : Nat → Int32) (g5 : Nat → Int32) (rl : Nat → Nat) (lf : Nat → Int32) (Ml : Nat → Nat → Int32) (n : Nat) (sz : Nat) (hb25 : ∀ x : Int32, ¬ x < 0 → ¬ fw * fh ≤ x → vp_in x 25) (hsc : ∀ k, k < 25 → ∃ n, n ≤ 5 ∧ sf k = nI n) (hlf : ∀ k, k < 6 → ∃ L, L ≤ 30 ∧ lf k = nI L) (hn : n ≤ 5) : Met l y_vd_seek w_vd_seek ({ frames := 5, cells := 0, slots := 0, locals := 200 }) (va_Pc [.ref ea] (mt_B D [(cZ, .boolean), (cI, .int), (cJ, .long), (cII, .array .int)] (([(ea, .inr (5, [.ref fa, .ref ca, .ref da, .int eso, .int eti, .int eles, .int egr])), (ca, .inr (0, [.ref cfl, .int (nI n), .ref cs, .ref cg, .ref cto, .ref cq, .ref cco, .ref cnx])), (fa, .inr (1, [.int fw, .int fh, .ref wa, .int fc, .ref ra, .ref sa, .ref ta])), (da, .inr (2, [.ref dce, .ref dto, .ref dle])), (wa, .inl (cZ, 25, .inl wf)), (sa, .inl (cI, 25, .inl sf)), (ta, .inl (cII, 25, .inr (.inr (.inr (.inr (fun i => if i < 25 then some (rr i) else none)))))), (cs, .inl (cI, 5, .inl s5)), (cg, .inl (cI, 5, .inl g5)), (dce, .inl (cII, 6, .inr (.inr (.inr (.inr (fun i => if i < 6 then some (rl i) else none)))))), (dle, .inl (cI, 6, .inl lf))] ++ mt_rw 25 rr (fun i => .inl (cI, 5, .inl (Ms i)))) ++ mt_rw 6 rl (fun i => .inl (cI, 30, .inl (Ml i)))) sz)) ((fun A => va_Qv (fun (u : Int32 × Int32 × Int32 × Int32) => True) (fun (u : Int32 × Int32 × Int32 × Int32) (t : State) => mt_O D A (([(ea, .inr (5, [.ref fa, .ref ca, .ref da, .int (u.1), .int (u.2.1), .int (u.2.2.1), .int (u.2.2.2)])), (ca, .inr (0, [.ref cfl, .int (nI n), .ref cs, .ref cg, .ref cto, .ref cq, .ref cco, .ref cnx])), (fa, .inr (1, [.int fw, .int fh, .ref wa, .int fc, .ref ra, .ref sa, .ref ta])), (da, .inr (2, [.ref dce, .ref dto, .ref dle])), (wa, .inl (cZ, 25, .inl wf)), (sa, .inl (cI, 25, .inl sf)), (ta, .inl (cII, 25, .inr (.inr (.inr (.inr (fun i => if i < 25 then some (rr i) else none)))))), (cs, .inl (cI, 5, .inl s5)), (cg, .inl (cI, 5, .inl g5)), (dce, .inl (cII, 6, .inr (.inr (.inr (.inr (fun i => if i < 6 then some (rl i) else none)))))), (dle, .inl (cI, 6, .inl lf))] ++ mt_rw 25 rr (fun i => .inl (cI, 5, .inl (Ms i)))) ++ mt_rw 6 rl (fun i => .inl (cI, 30, .inl (Ml i)))) t) A) (va_A (([(ea, .inr (5, [.ref fa, .ref ca, .ref da, .int eso, .int eti, .int eles, .int egr])), (ca, .inr (0, [.ref cfl, .int (nI n), .ref cs, .ref cg, .ref cto, .ref cq, .ref cco, .ref cnx])), (fa, .inr (1, [.int fw, .int fh, .ref wa, .int fc, .ref ra, .ref sa, .ref ta])), (da, .inr (2, [.ref dce, .ref dto, .ref dle])), (wa, .inl (cZ, 25, .inl wf)), (sa, .inl (cI, 25, .inl sf)), (ta, .inl (cII, 25, .inr (.inr (.inr (.inr (fun i => if i < 25 then some (rr i) else none)))))), (cs, .inl (cI, 5, .inl s5)), (cg, .inl (cI, 5, .inl g5)), (dce, .inl (cII, 6, .inr (.inr (.inr (.inr (fun i => if i < 6 then some (rl i) else none)))))), (dle, .inl (cI, 6, .inl lf))] ++ mt_rw 25 rr (fun i => .inl (cI, 5, .inl (Ms i)))) ++ mt_rw 6 rl (fun i => .inl (cI, 30, .inl (Ml i)))) sz)) 0 0 (va_A (([(ea, .inr (5, [.ref fa, .ref ca, .ref da, .int eso, .int eti, .int eles, .int egr])), (ca, .inr (0, [.ref cfl, .int (nI n), .ref cs, .ref cg, .ref cto, .ref cq, .ref cco, .ref cnx])), (fa, .inr (1, [.int fw, .int fh, .ref wa, .int fc, .ref ra, .ref sa, .ref ta])), (da, .inr (2, [.ref dce, .ref dto, .ref dle])), (wa, .inl (cZ, 25, .inl wf)), (sa, .inl (cI, 25, .inl sf)), (ta, .inl (cII, 25, .inr (.inr (.inr (.inr (fun i => if i < 25 then some (rr i) else none)))))), (cs, .inl (cI, 5, .inl s5)), (cg, .inl (cI, 5, .inl g5)), (dce, .inl (cII, 6, .inr (.inr (.inr (.inr (fun i => if i < 6 then some (rl i) else none)))))), (dle, .inl (cI, 6, .inl lf))] ++ mt_rw 25 rr (fun i => .inl (cI, 5, .inl (Ms i)))) ++ mt_rw 6 rl (fun i => .inl (cI, 30, .inl (Ml i)))) sz) := by
  refine mt_of (y := y_vd_seek) (n := 2) (av := [.ref ea]) (QF := (fun A => va_Qv (fun (u : Int32 × Int32 × Int32 × Int32) => True) (fun (u : Int32 × Int32 × Int32 × Int32) (t : State) => mt_O D A (([(ea, .inr (5, [.ref fa, .ref ca, .ref da, .int (u.1), .int (u.2.1), .int (u.2.2.1), .int (u.2.2.2)])), (ca, .inr (0, [.ref cfl, .int (nI n), .ref cs, .ref cg, .ref cto, .ref cq, .ref cco, .ref cnx])), (fa, .inr (1, [.int fw, .int fh, .ref wa, .int fc, .ref ra, .ref sa, .ref ta])), (da, .inr (2, [.ref dce, .ref dto, .ref dle])), (wa, .inl (cZ, 25, .inl wf)), (sa, .inl (cI, 25, .inl sf)), (ta, .inl (cII, 25, .inr (.inr (.inr (.inr (fun i => if i < 25 then some (rr i) else none)))))), (cs, .inl (cI, 5, .inl s5)), (cg, .inl (cI, 5, .inl g5)), (dce, .inl (cII, 6, .inr (.inr (.inr (.inr (fun i => if i < 6 then some (rl i) else none)))))), (dle, .inl (cI, 6, .inl lf))] ++ mt_rw 25 rr (fun i => .inl (cI, 5, .inl (Ms i)))) ++ mt_rw 6 rl (fun i => .inl (cI, 30, .inl (Ml i)))) t) A)) (by decide) (Nat.le_of_ble_eq_true rfl) ?_
  intro p e s m below meth c ls A hx hb hr hlk hml hown hnm hg hl hX hP hK hD hA hS
  obtain ⟨H, hH⟩ : ∃ H : Heap, H = s.heap := ⟨_, rfl⟩
  have hS : va_S A s.heap H [] := by rw [hH]; exact va_S.rf
  rw [← hH] at hP ⊢
  have hown : s.vm.findClass R_vd = some m.cls := hown
  have hl : lv_has ls 2 [(0, .ref ea)] := hl
  refine lv_aload_n hx hb d_vd_seek_0 rfl (lv_at hl 0 rfl) ?_
  refine lv_iconst (v := 0) hx hb d_vd_seek_1 (by decide) ?_
  refine lv_iconst (v := (-1)) hx hb d_vd_seek_2 (by decide) ?_
  refine lv_iconst (v := (-1)) hx hb d_vd_seek_3 (by decide) ?_
  refine lv_iconst (v := (-1)) hx hb d_vd_seek_4 (by decide) ?_
  have hPc := hP.sub (ws' := [(ea, .inr (5, [.ref fa, .ref ca, .ref da, .int eso, .int eti, .int eles, .int egr]))]) [0] rfl
  have hDc := hD.sub (ws' := [(ea, .inr (5, [.ref fa, .ref ca, .ref da, .int eso, .int eti, .int eles, .int egr]))]) [0] (by decide) rfl
  have hFc := va_free (wc := [(ea, .inr (5, [.ref fa, .ref ca, .ref da, .int eso, .int eti, .int eles, .int egr]))]) hD hS hA [0] rfl
  refine va_callv (va_runV (As := [.int 0, .int (-1), .int (-1), .int (-1)]) (rest := []) ⟨hx, hb, hml, hown, hg⟩ (c_vd_blame l D cZ cI cJ cII ea fa ca da eso eti eles egr 0 (-1) (-1) (-1) H.size ) (cwV 4 hg gv_vd_23 rfl rfl rfl (by decide +kernel) ⟨Nat.le_of_ble_eq_true rfl, Nat.le_of_ble_eq_true rfl⟩) ⟨mt_bl, va_recv (q0 := 0) (ci := 5) hK hP rfl rfl, mt_pr hX hPc hK hDc⟩ rfl rfl hl.1 rfl (lv_room (Nat.le_of_ble_eq_true rfl)) d_vd_seek_5 ⟨Nat.le_of_ble_eq_true rfl, Nat.le_of_ble_eq_true rfl⟩) hS (fun q _ h => hFc q h) hFc (fun u t H1 locs ht hvm hw hB hz1 hk1 hS => ?_)
  obtain ⟨hP1, hD1⟩ := hB
  rw [ht] at hP1
  obtain ⟨hP, hD⟩ := va_join (wr := (([(ca, .inr (0, [.ref cfl, .int (nI n), .ref cs, .ref cg, .ref cto, .ref cq, .ref cco, .ref cnx])), (fa, .inr (1, [.int fw, .int fh, .ref wa, .int fc, .ref ra, .ref sa, .ref ta])), (da, .inr (2, [.ref dce, .ref dto, .ref dle])), (wa, .inl (cZ, 25, .inl wf)), (sa, .inl (cI, 25, .inl sf)), (ta, .inl (cII, 25, .inr (.inr (.inr (.inr (fun i => if i < 25 then some (rr i) else none)))))), (cs, .inl (cI, 5, .inl s5)), (cg, .inl (cI, 5, .inl g5)), (dce, .inl (cII, 6, .inr (.inr (.inr (.inr (fun i => if i < 6 then some (rl i) else none)))))), (dle, .inl (cI, 6, .inl lf))] ++ mt_rw 25 rr (fun i => .inl (cI, 5, .inl (Ms i)))) ++ mt_rw 6 rl (fun i => .inl (cI, 30, .inl (Ml i))))) (w1 := [(ea, .inr (5, [.ref fa, .ref ca, .ref da, .int 0, .int (-1), .int (-1), .int (-1)]))]) hP hD [0] [1, 2, 3, 4, 5, 6, 7, 8, 9, 10, 11, 12, 13, 14, 15, 16, 17, 18, 19, 20, 21, 22, 23, 24, 25, 26, 27, 28, 29, 30, 31, 32, 33, 34, 35, 36, 37, 38, 39, 40, 41] rfl rfl (by decide) (by decide) hk1 hFc hP1 hD1
  generalize H1 = H at hP hS ⊢
  have hP : va_P D kls ((([(ca, .inr (0, [.ref cfl, .int (nI n), .ref cs, .ref cg, .ref cto, .ref cq, .ref cco, .ref cnx])), (fa, .inr (1, [.int fw, .int fh, .ref wa, .int fc, .ref ra, .ref sa, .ref ta])), (da, .inr (2, [.ref dce, .ref dto, .ref dle])), (wa, .inl (cZ, 25, .inl wf)), (sa, .inl (cI, 25, .inl sf)), (ta, .inl (cII, 25, .inr (.inr (.inr (.inr (fun i => if i < 25 then some (rr i) else none)))))), (cs, .inl (cI, 5, .inl s5)), (cg, .inl (cI, 5, .inl g5)), (dce, .inl (cII, 6, .inr (.inr (.inr (.inr (fun i => if i < 6 then some (rl i) else none)))))), (dle, .inl (cI, 6, .inl lf))] ++ mt_rw 25 rr (fun i => .inl (cI, 5, .inl (Ms i)))) ++ mt_rw 6 rl (fun i => .inl (cI, 30, .inl (Ml i)))) ++ [(ea, .inr (5, [.ref fa, .ref ca, .ref da, .int 0, .int (-1), .int (-1), .int (-1)]))]) H := hP
  have hD : va_D A ((([(ca, .inr (0, [.ref cfl, .int (nI n), .ref cs, .ref cg, .ref cto, .ref cq, .ref cco, .ref cnx])), (fa, .inr (1, [.int fw, .int fh, .ref wa, .int fc, .ref ra, .ref sa, .ref ta])), (da, .inr (2, [.ref dce, .ref dto, .ref dle])), (wa, .inl (cZ, 25, .inl wf)), (sa, .inl (cI, 25, .inl sf)), (ta, .inl (cII, 25, .inr (.inr (.inr (.inr (fun i => if i < 25 then some (rr i) else none)))))), (cs, .inl (cI, 5, .inl s5)), (cg, .inl (cI, 5, .inl g5)), (dce, .inl (cII, 6, .inr (.inr (.inr (.inr (fun i => if i < 6 then some (rl i) else none)))))), (dle, .inl (cI, 6, .inl lf))] ++ mt_rw 25 rr (fun i => .inl (cI, 5, .inl (Ms i)))) ++ mt_rw 6 rl (fun i => .inl (cI, 30, .inl (Ml i)))) ++ [(ea, .inr (5, [.ref fa, .ref ca, .ref da, .int 0, .int (-1), .int (-1), .int (-1)]))]) := hD
  refine lv_iconst (v := 0) hx hb d_vd_seek_8 (by decide) ?_
  refine lv_istore_n hx hb d_vd_seek_9 rfl hl (by decide) rfl (fun ls hl => ?_)
  have hl : lv_has ls 2 [(1, .int 0), (0, .ref ea)] := hl
  have hl := lv_sub hl [0, 1] (l' := [(1, .int (nI 0)), (0, .ref ea)]) rfl
  have hP := hP.sub (ws' := (([(ea, .inr (5, [.ref fa, .ref ca, .ref da, .int 0, .int (-1), .int (-1), .int (-1)])), (ca, .inr (0, [.ref cfl, .int (nI n), .ref cs, .ref cg, .ref cto, .ref cq, .ref cco, .ref cnx])), (fa, .inr (1, [.int fw, .int fh, .ref wa, .int fc, .ref ra, .ref sa, .ref ta])), (da, .inr (2, [.ref dce, .ref dto, .ref dle])), (wa, .inl (cZ, 25, .inl wf)), (sa, .inl (cI, 25, .inl sf)), (ta, .inl (cII, 25, .inr (.inr (.inr (.inr (fun i => if i < 25 then some (rr i) else none)))))), (cs, .inl (cI, 5, .inl s5)), (cg, .inl (cI, 5, .inl g5)), (dce, .inl (cII, 6, .inr (.inr (.inr (.inr (fun i => if i < 6 then some (rl i) else none)))))), (dle, .inl (cI, 6, .inl lf))] ++ mt_rw 25 rr (fun i => .inl (cI, 5, .inl (Ms i)))) ++ mt_rw 6 rl (fun i => .inl (cI, 30, .inl (Ml i))))) [41, 0, 1, 2, 3, 4, 5, 6, 7, 8, 9, 10, 11, 12, 13, 14, 15, 16, 17, 18, 19, 20, 21, 22, 23, 24, 25, 26, 27, 28, 29, 30, 31, 32, 33, 34, 35, 36, 37, 38, 39, 40] rfl
  have hD := hD.sub (ws' := (([(ea, .inr (5, [.ref fa, .ref ca, .ref da, .int 0, .int (-1), .int (-1), .int (-1)])), (ca, .inr (0, [.ref cfl, .int (nI n), .ref cs, .ref cg, .ref cto, .ref cq, .ref cco, .ref cnx])), (fa, .inr (1, [.int fw, .int fh, .ref wa, .int fc, .ref ra, .ref sa, .ref ta])), (da, .inr (2, [.ref dce, .ref dto, .ref dle])), (wa, .inl (cZ, 25, .inl wf)), (sa, .inl (cI, 25, .inl sf)), (ta, .inl (cII, 25, .inr (.inr (.inr (.inr (fun i => if i < 25 then some (rr i) else none)))))), (cs, .inl (cI, 5, .inl s5)), (cg, .inl (cI, 5, .inl g5)), (dce, .inl (cII, 6, .inr (.inr (.inr (.inr (fun i => if i < 6 then some (rl i) else none)))))), (dle, .inl (cI, 6, .inl lf))] ++ mt_rw 25 rr (fun i => .inl (cI, 5, .inl (Ms i)))) ++ mt_rw 6 rl (fun i => .inl (cI, 30, .inl (Ml i))))) [41, 0, 1, 2, 3, 4, 5, 6, 7, 8, 9, 10, 11, 12, 13, 14, 15, 16, 17, 18, 19, 20, 21, 22, 23, 24, 25, 26, 27, 28, 29, 30, 31, 32, 33, 34, 35, 36, 37, 38, 39, 40] (by decide) rfl
  refine mt_loop (ι := Nat × Int32 × Int32 × Int32 × Int32) (I := fun i ls H locs => ((i.1) ≤ 30) ∧ lv_has ls 2 [(1, .int (nI (i.1))), (0, .ref ea)] ∧ va_P D kls (([(ea, .inr (5, [.ref fa, .ref ca, .ref da, .int (i.2.1), .int (i.2.2.1), .int (i.2.2.2.1), .int (i.2.2.2.2)])), (ca, .inr (0, [.ref cfl, .int (nI n), .ref cs, .ref cg, .ref cto, .ref cq, .ref cco, .ref cnx])), (fa, .inr (1, [.int fw, .int fh, .ref wa, .int fc, .ref ra, .ref sa, .ref ta])), (da, .inr (2, [.ref dce, .ref dto, .ref dle])), (wa, .inl (cZ, 25, .inl wf)), (sa, .inl (cI, 25, .inl sf)), (ta, .inl (cII, 25, .inr (.inr (.inr (.inr (fun i => if i < 25 then some (rr i) else none)))))), (cs, .inl (cI, 5, .inl s5)), (cg, .inl (cI, 5, .inl g5)), (dce, .inl (cII, 6, .inr (.inr (.inr (.inr (fun i => if i < 6 then some (rl i) else none)))))), (dle, .inl (cI, 6, .inl lf))] ++ mt_rw 25 rr (fun i => .inl (cI, 5, .inl (Ms i)))) ++ mt_rw 6 rl (fun i => .inl (cI, 30, .inl (Ml i)))) H ∧ va_D A (([(ea, .inr (5, [.ref fa, .ref ca, .ref da, .int (i.2.1), .int (i.2.2.1), .int (i.2.2.2.1), .int (i.2.2.2.2)])), (ca, .inr (0, [.ref cfl, .int (nI n), .ref cs, .ref cg, .ref cto, .ref cq, .ref cco, .ref cnx])), (fa, .inr (1, [.int fw, .int fh, .ref wa, .int fc, .ref ra, .ref sa, .ref ta])), (da, .inr (2, [.ref dce, .ref dto, .ref dle])), (wa, .inl (cZ, 25, .inl wf)), (sa, .inl (cI, 25, .inl sf)), (ta, .inl (cII, 25, .inr (.inr (.inr (.inr (fun i => if i < 25 then some (rr i) else none)))))), (cs, .inl (cI, 5, .inl s5)), (cg, .inl (cI, 5, .inl g5)), (dce, .inl (cII, 6, .inr (.inr (.inr (.inr (fun i => if i < 6 then some (rl i) else none)))))), (dle, .inl (cI, 6, .inl lf))] ++ mt_rw 25 rr (fun i => .inl (cI, 5, .inl (Ms i)))) ++ mt_rw 6 rl (fun i => .inl (cI, 30, .inl (Ml i)))) ∧ va_S A s.heap H locs) (μ := fun i => 30 - (i.1)) ?_ (0, 0, (-1), (-1), (-1)) ls H _ ⟨Nat.zero_le _, hl, hP, hD, hS⟩
  clear hl hP hD hS
  intro i_a ls H locs ⟨htt, hl, hP, hD, hS⟩ ih_a
  obtain ⟨tt, v1, v2, v3, v4⟩ := i_a
  have htt : tt ≤ 30 := htt
  have hl : lv_has ls 2 [(1, .int (nI tt)), (0, .ref ea)] := hl
  have hP : va_P D kls (([(ea, .inr (5, [.ref fa, .ref ca, .ref da, .int v1, .int v2, .int v3, .int v4])), (ca, .inr (0, [.ref cfl, .int (nI n), .ref cs, .ref cg, .ref cto, .ref cq, .ref cco, .ref cnx])), (fa, .inr (1, [.int fw, .int fh, .ref wa, .int fc, .ref ra, .ref sa, .ref ta])), (da, .inr (2, [.ref dce, .ref dto, .ref dle])), (wa, .inl (cZ, 25, .inl wf)), (sa, .inl (cI, 25, .inl sf)), (ta, .inl (cII, 25, .inr (.inr (.inr (.inr (fun i => if i < 25 then some (rr i) else none)))))), (cs, .inl (cI, 5, .inl s5)), (cg, .inl (cI, 5, .inl g5)), (dce, .inl (cII, 6, .inr (.inr (.inr (.inr (fun i => if i < 6 then some (rl i) else none)))))), (dle, .inl (cI, 6, .inl lf))] ++ mt_rw 25 rr (fun i => .inl (cI, 5, .inl (Ms i)))) ++ mt_rw 6 rl (fun i => .inl (cI, 30, .inl (Ml i)))) H := hP
  have hD : va_D A (([(ea, .inr (5, [.ref fa, .ref ca, .ref da, .int v1, .int v2, .int v3, .int v4])), (ca, .inr (0, [.ref cfl, .int (nI n), .ref cs, .ref cg, .ref cto, .ref cq, .ref cco, .ref cnx])), (fa, .inr (1, [.int fw, .int fh, .ref wa, .int fc, .ref ra, .ref sa, .ref ta])), (da, .inr (2, [.ref dce, .ref dto, .ref dle])), (wa, .inl (cZ, 25, .inl wf)), (sa, .inl (cI, 25, .inl sf)), (ta, .inl (cII, 25, .inr (.inr (.inr (.inr (fun i => if i < 25 then some (rr i) else none)))))), (cs, .inl (cI, 5, .inl s5)), (cg, .inl (cI, 5, .inl g5)), (dce, .inl (cII, 6, .inr (.inr (.inr (.inr (fun i => if i < 6 then some (rl i) else none)))))), (dle, .inl (cI, 6, .inl lf))] ++ mt_rw 25 rr (fun i => .inl (cI, 5, .inl (Ms i)))) ++ mt_rw 6 rl (fun i => .inl (cI, 30, .inl (Ml i)))) := hD
  refine lv_iload_n hx hb d_vd_seek_10 rfl (lv_at hl 0 rfl) ?_
  refine lv_bipush (v := 30) hx hb d_vd_seek_11 (by decide) ?_
  refine lv_icmp_ge hx hb d_vd_seek_13 rfl (fun g1 => ?_) (fun g1 => ?_)
  ·
    have hP9 := hP
    have hD9 := hD
    exact W.vret hx hb hr (fun t ht hW => ⟨⟨(v1, v2, v3, v4), rfl, trivial, by rw [ht]; exact hP9, hD9⟩, hS.F ht⟩) hS.2.2 d_vd_seek_64
  ·
    have g2 : tt < 30 := by rcases Nat.lt_or_ge tt 30 with h | h; exact h; exact absurd (nI_le (a := 30) h (by omega)) g1
    refine lv_aload_n hx hb d_vd_seek_16 rfl (lv_at hl 1 rfl) ?_
    refine gf_vd_27 hx hb hg hown hK hP 0 rfl rfl d_vd_seek_17 ?_
    refine lv_if_ne hx hb d_vd_seek_20 rfl (fun g0 => ?_) (fun g0 => ?_)
    ·
      have hP9 := hP
      have hD9 := hD
      exact W.vret hx hb hr (fun t ht hW => ⟨⟨(v1, v2, v3, v4), rfl, trivial, by rw [ht]; exact hP9, hD9⟩, hS.F ht⟩) hS.2.2 d_vd_seek_64
    ·
      refine lv_aload_n hx hb d_vd_seek_23 rfl (lv_at hl 1 rfl) ?_
      refine lv_iload_n hx hb d_vd_seek_24 rfl (lv_at hl 0 rfl) ?_
      have hPc := hP
      have hDc := hD
      have hFc := mt_whole hD hS hA
      refine va_callv (va_runV (As := [.int (nI tt)]) (rest := []) ⟨hx, hb, hml, hown, hg⟩ (c_vd_seekStrayed l D cZ cI cJ cII ea v1 v2 v3 v4 ca cfl cs cg cto cq cco cnx fa fw fh wa fc ra sa ta da dce dto dle wf sf rr _ s5 g5 rl lf _ n tt H.size hb25 hsc hlf hn g2) (cwV 1 hg gv_vd_31 rfl rfl rfl (by decide +kernel) ⟨Nat.le_of_ble_eq_true rfl, Nat.le_of_ble_eq_true rfl⟩) ⟨mt_bl, va_recv (q0 := 0) (ci := 5) hK hP rfl rfl, mt_pr hX hPc hK hDc⟩ rfl rfl hl.1 rfl (lv_room (Nat.le_of_ble_eq_true rfl)) d_vd_seek_25 ⟨Nat.le_of_ble_eq_true rfl, Nat.le_of_ble_eq_true rfl⟩) hS (fun q _ h => hFc q h) hFc (fun u t H1 locs ht hvm hw hB hz1 hk1 hS => ?_)
      obtain ⟨so3, ti4, le5, gr6⟩ := u
      have hr2 : (so3 = 1) ∨ (so3 = v1 ∧ ti4 = v2 ∧ le5 = v3 ∧ gr6 = v4 ∧ ∀ k, k < n → ¬ lf k = 0) := hw
      obtain ⟨hP1, hD1⟩ := hB
      rw [ht] at hP1
      have hP := hP1
      have hD := hD1.weaken (fun _ _ _ h => hFc _ h)
      generalize H1 = H at hP hS ⊢
      have hP : va_P D kls (([(ea, .inr (5, [.ref fa, .ref ca, .ref da, .int so3, .int ti4, .int le5, .int gr6])), (ca, .inr (0, [.ref cfl, .int (nI n), .ref cs, .ref cg, .ref cto, .ref cq, .ref cco, .ref cnx])), (fa, .inr (1, [.int fw, .int fh, .ref wa, .int fc, .ref ra, .ref sa, .ref ta])), (da, .inr (2, [.ref dce, .ref dto, .ref dle])), (wa, .inl (cZ, 25, .inl wf)), (sa, .inl (cI, 25, .inl sf)), (ta, .inl (cII, 25, .inr (.inr (.inr (.inr (fun i => if i < 25 then some (rr i) else none)))))), (cs, .inl (cI, 5, .inl s5)), (cg, .inl (cI, 5, .inl g5)), (dce, .inl (cII, 6, .inr (.inr (.inr (.inr (fun i => if i < 6 then some (rl i) else none)))))), (dle, .inl (cI, 6, .inl lf))] ++ mt_rw 25 rr (fun i => .inl (cI, 5, .inl (Ms i)))) ++ mt_rw 6 rl (fun i => .inl (cI, 30, .inl (Ml i)))) H := hP
      have hD : va_D A (([(ea, .inr (5, [.ref fa, .ref ca, .ref da, .int so3, .int ti4, .int le5, .int gr6])), (ca, .inr (0, [.ref cfl, .int (nI n), .ref cs, .ref cg, .ref cto, .ref cq, .ref cco, .ref cnx])), (fa, .inr (1, [.int fw, .int fh, .ref wa, .int fc, .ref ra, .ref sa, .ref ta])), (da, .inr (2, [.ref dce, .ref dto, .ref dle])), (wa, .inl (cZ, 25, .inl wf)), (sa, .inl (cI, 25, .inl sf)), (ta, .inl (cII, 25, .inr (.inr (.inr (.inr (fun i => if i < 25 then some (rr i) else none)))))), (cs, .inl (cI, 5, .inl s5)), (cg, .inl (cI, 5, .inl g5)), (dce, .inl (cII, 6, .inr (.inr (.inr (.inr (fun i => if i < 6 then some (rl i) else none)))))), (dle, .inl (cI, 6, .inl lf))] ++ mt_rw 25 rr (fun i => .inl (cI, 5, .inl (Ms i)))) ++ mt_rw 6 rl (fun i => .inl (cI, 30, .inl (Ml i)))) := hD
      have s9 := hr2
      refine lv_aload_n hx hb d_vd_seek_28 rfl (lv_at hl 1 rfl) ?_
      refine gf_vd_27 hx hb hg hown hK hP 0 rfl rfl d_vd_seek_29 ?_
      refine lv_if_ne hx hb d_vd_seek_32 rfl (fun g3 => ?_) (fun g3 => ?_)
      ·
        refine lv_aload_n hx hb d_vd_seek_41 rfl (lv_at hl 1 rfl) ?_
        refine gf_vd_27 hx hb hg hown hK hP 0 rfl rfl d_vd_seek_42 ?_
        refine lv_if_ne hx hb d_vd_seek_45 rfl (fun _ => ?_) (fun h => absurd h g3)
        refine lv_iinc (k := 0) (v := nI (tt + 1)) hx hb d_vd_seek_58 hl rfl ((nI_succ tt).symm) (by decide) rfl (fun ls hl => ?_)
        have hl : lv_has ls 2 [(1, .int (nI (tt + 1))), (0, .ref ea)] := hl
        refine lv_goto hx hb d_vd_seek_61 rfl ?_
        have hl := lv_sub hl [0, 1] (l' := [(1, .int (nI (tt + 1))), (0, .ref ea)]) rfl
        exact ih_a (tt + 1, so3, ti4, le5, gr6) ls H _ (by show 30 - (tt + 1) < 30 - tt; omega) ⟨by show tt + 1 ≤ 30; omega, hl, hP, hD, hS⟩
      ·
        have hall : ∀ k, k < n → ¬ lf k = 0 := s9.elim (fun q => absurd (q.symm.trans g3) (by decide)) (fun q => q.2.2.2.2)
        refine lv_aload_n hx hb d_vd_seek_35 rfl (lv_at hl 1 rfl) ?_
        refine lv_iload_n hx hb d_vd_seek_36 rfl (lv_at hl 0 rfl) ?_
        refine lv_iconst (v := 2) hx hb d_vd_seek_37 (by decide) ?_
        have hPc := hP
        have hDc := hD
        have hFc := mt_whole hD hS hA
        refine va_callv (va_runV (As := [.int (nI tt), .int 2]) (rest := []) ⟨hx, hb, hml, hown, hg⟩ (c_vd_seekMeeting2 l D cZ cI cJ cII ea so3 ti4 le5 gr6 ca cfl cs cg cto cq cco cnx fa fw fh wa fc ra sa ta da dce dto dle wf sf rr _ s5 g5 rl lf _ n tt H.size hb25 hsc hlf hn g2 hall) (cwV 2 hg gv_vd_35 rfl rfl rfl (by decide +kernel) ⟨Nat.le_of_ble_eq_true rfl, Nat.le_of_ble_eq_true rfl⟩) ⟨mt_bl, va_recv (q0 := 0) (ci := 5) hK hP rfl rfl, mt_pr hX hPc hK hDc⟩ rfl rfl hl.1 rfl (lv_room (Nat.le_of_ble_eq_true rfl)) d_vd_seek_38 ⟨Nat.le_of_ble_eq_true rfl, Nat.le_of_ble_eq_true rfl⟩) hS (fun q _ h => hFc q h) hFc (fun u t H1 locs ht hvm hw hB hz1 hk1 hS => ?_)
        obtain ⟨so8, ti9, le10, gr11⟩ := u
        obtain ⟨hP1, hD1⟩ := hB
        rw [ht] at hP1
        have hP := hP1
        have hD := hD1.weaken (fun _ _ _ h => hFc _ h)
        generalize H1 = H at hP hS ⊢
        have hP : va_P D kls (([(ea, .inr (5, [.ref fa, .ref ca, .ref da, .int so8, .int ti9, .int le10, .int gr11])), (ca, .inr (0, [.ref cfl, .int (nI n), .ref cs, .ref cg, .ref cto, .ref cq, .ref cco, .ref cnx])), (fa, .inr (1, [.int fw, .int fh, .ref wa, .int fc, .ref ra, .ref sa, .ref ta])), (da, .inr (2, [.ref dce, .ref dto, .ref dle])), (wa, .inl (cZ, 25, .inl wf)), (sa, .inl (cI, 25, .inl sf)), (ta, .inl (cII, 25, .inr (.inr (.inr (.inr (fun i => if i < 25 then some (rr i) else none)))))), (cs, .inl (cI, 5, .inl s5)), (cg, .inl (cI, 5, .inl g5)), (dce, .inl (cII, 6, .inr (.inr (.inr (.inr (fun i => if i < 6 then some (rl i) else none)))))), (dle, .inl (cI, 6, .inl lf))] ++ mt_rw 25 rr (fun i => .inl (cI, 5, .inl (Ms i)))) ++ mt_rw 6 rl (fun i => .inl (cI, 30, .inl (Ml i)))) H := hP
        have hD : va_D A (([(ea, .inr (5, [.ref fa, .ref ca, .ref da, .int so8, .int ti9, .int le10, .int gr11])), (ca, .inr (0, [.ref cfl, .int (nI n), .ref cs, .ref cg, .ref cto, .ref cq, .ref cco, .ref cnx])), (fa, .inr (1, [.int fw, .int fh, .ref wa, .int fc, .ref ra, .ref sa, .ref ta])), (da, .inr (2, [.ref dce, .ref dto, .ref dle])), (wa, .inl (cZ, 25, .inl wf)), (sa, .inl (cI, 25, .inl sf)), (ta, .inl (cII, 25, .inr (.inr (.inr (.inr (fun i => if i < 25 then some (rr i) else none)))))), (cs, .inl (cI, 5, .inl s5)), (cg, .inl (cI, 5, .inl g5)), (dce, .inl (cII, 6, .inr (.inr (.inr (.inr (fun i => if i < 6 then some (rl i) else none)))))), (dle, .inl (cI, 6, .inl lf))] ++ mt_rw 25 rr (fun i => .inl (cI, 5, .inl (Ms i)))) ++ mt_rw 6 rl (fun i => .inl (cI, 30, .inl (Ml i)))) := hD
        refine lv_aload_n hx hb d_vd_seek_41 rfl (lv_at hl 1 rfl) ?_
        refine gf_vd_27 hx hb hg hown hK hP 0 rfl rfl d_vd_seek_42 ?_
        refine lv_if_ne hx hb d_vd_seek_45 rfl (fun h5 => ?_) (fun h5 => ?_)
        ·
          refine lv_iinc (k := 0) (v := nI (tt + 1)) hx hb d_vd_seek_58 hl rfl ((nI_succ tt).symm) (by decide) rfl (fun ls hl => ?_)
          have hl : lv_has ls 2 [(1, .int (nI (tt + 1))), (0, .ref ea)] := hl
          refine lv_goto hx hb d_vd_seek_61 rfl ?_
          have hl := lv_sub hl [0, 1] (l' := [(1, .int (nI (tt + 1))), (0, .ref ea)]) rfl
          exact ih_a (tt + 1, so8, ti9, le10, gr11) ls H _ (by show 30 - (tt + 1) < 30 - tt; omega) ⟨by show tt + 1 ≤ 30; omega, hl, hP, hD, hS⟩
        ·
          refine lv_iload_n hx hb d_vd_seek_48 rfl (lv_at hl 0 rfl) ?_
          refine lv_if_le hx hb d_vd_seek_49 rfl (fun g6 => ?_) (fun g6 => ?_)
          ·
            refine lv_iinc (k := 0) (v := nI (tt + 1)) hx hb d_vd_seek_58 hl rfl ((nI_succ tt).symm) (by decide) rfl (fun ls hl => ?_)
            have hl : lv_has ls 2 [(1, .int (nI (tt + 1))), (0, .ref ea)] := hl
            refine lv_goto hx hb d_vd_seek_61 rfl ?_
            have hl := lv_sub hl [0, 1] (l' := [(1, .int (nI (tt + 1))), (0, .ref ea)]) rfl
            exact ih_a (tt + 1, so8, ti9, le10, gr11) ls H _ (by show 30 - (tt + 1) < 30 - tt; omega) ⟨by show tt + 1 ≤ 30; omega, hl, hP, hD, hS⟩
          ·
            have g7 : 0 < tt := Nat.pos_of_ne_zero (fun h => g6 (by rw [h]; decide))
            have e7 : tt - 1 + 1 = tt := by omega
            have hl : lv_has ls 2 [(1, .int (nI ((tt - 1) + 1))), (0, .ref ea)] := by rw [e7]; exact hl
            refine lv_aload_n hx hb d_vd_seek_52 rfl (lv_at hl 1 rfl) ?_
            refine lv_iload_n hx hb d_vd_seek_53 rfl (lv_at hl 0 rfl) ?_
            refine lv_iconst (v := 3) hx hb d_vd_seek_54 (by decide) ?_
            have hPc := hP
            have hDc := hD
            have hFc := mt_whole hD hS hA
            refine va_callv (va_runV (As := [.int (nI ((tt - 1) + 1)), .int 3]) (rest := []) ⟨hx, hb, hml, hown, hg⟩ (c_vd_seekMeeting3 l D cZ cI cJ cII ea so8 ti9 le10 gr11 ca cfl cs cg cto cq cco cnx fa fw fh wa fc ra sa ta da dce dto dle wf sf rr _ s5 g5 rl lf _ n (tt - 1) H.size hb25 hsc hlf hn (by omega) hall) (cwV 2 hg gv_vd_35 rfl rfl rfl (by decide +kernel) ⟨Nat.le_of_ble_eq_true rfl, Nat.le_of_ble_eq_true rfl⟩) ⟨mt_bl, va_recv (q0 := 0) (ci := 5) hK hP rfl rfl, mt_pr hX hPc hK hDc⟩ rfl rfl hl.1 rfl (lv_room (Nat.le_of_ble_eq_true rfl)) d_vd_seek_55 ⟨Nat.le_of_ble_eq_true rfl, Nat.le_of_ble_eq_true rfl⟩) hS (fun q _ h => hFc q h) hFc (fun u t H1 locs ht hvm hw hB hz1 hk1 hS => ?_)
            obtain ⟨so13, ti14, le15, gr16⟩ := u
            obtain ⟨hP1, hD1⟩ := hB
            rw [ht] at hP1
            have hP := hP1
            have hD := hD1.weaken (fun _ _ _ h => hFc _ h)
            generalize H1 = H at hP hS ⊢
            have hP : va_P D kls (([(ea, .inr (5, [.ref fa, .ref ca, .ref da, .int so13, .int ti14, .int le15, .int gr16])), (ca, .inr (0, [.ref cfl, .int (nI n), .ref cs, .ref cg, .ref cto, .ref cq, .ref cco, .ref cnx])), (fa, .inr (1, [.int fw, .int fh, .ref wa, .int fc, .ref ra, .ref sa, .ref ta])), (da, .inr (2, [.ref dce, .ref dto, .ref dle])), (wa, .inl (cZ, 25, .inl wf)), (sa, .inl (cI, 25, .inl sf)), (ta, .inl (cII, 25, .inr (.inr (.inr (.inr (fun i => if i < 25 then some (rr i) else none)))))), (cs, .inl (cI, 5, .inl s5)), (cg, .inl (cI, 5, .inl g5)), (dce, .inl (cII, 6, .inr (.inr (.inr (.inr (fun i => if i < 6 then some (rl i) else none)))))), (dle, .inl (cI, 6, .inl lf))] ++ mt_rw 25 rr (fun i => .inl (cI, 5, .inl (Ms i)))) ++ mt_rw 6 rl (fun i => .inl (cI, 30, .inl (Ml i)))) H := hP
            have hD : va_D A (([(ea, .inr (5, [.ref fa, .ref ca, .ref da, .int so13, .int ti14, .int le15, .int gr16])), (ca, .inr (0, [.ref cfl, .int (nI n), .ref cs, .ref cg, .ref cto, .ref cq, .ref cco, .ref cnx])), (fa, .inr (1, [.int fw, .int fh, .ref wa, .int fc, .ref ra, .ref sa, .ref ta])), (da, .inr (2, [.ref dce, .ref dto, .ref dle])), (wa, .inl (cZ, 25, .inl wf)), (sa, .inl (cI, 25, .inl sf)), (ta, .inl (cII, 25, .inr (.inr (.inr (.inr (fun i => if i < 25 then some (rr i) else none)))))), (cs, .inl (cI, 5, .inl s5)), (cg, .inl (cI, 5, .inl g5)), (dce, .inl (cII, 6, .inr (.inr (.inr (.inr (fun i => if i < 6 then some (rl i) else none)))))), (dle, .inl (cI, 6, .inl lf))] ++ mt_rw 25 rr (fun i => .inl (cI, 5, .inl (Ms i)))) ++ mt_rw 6 rl (fun i => .inl (cI, 30, .inl (Ml i)))) := hD
            refine lv_iinc (k := 0) (v := nI (tt + 1)) hx hb d_vd_seek_58 hl rfl (by rw [e7]; exact (nI_succ tt).symm) (by decide) rfl (fun ls hl => ?_)
            have hl : lv_has ls 2 [(1, .int (nI (tt + 1))), (0, .ref ea)] := hl
            refine lv_goto hx hb d_vd_seek_61 rfl ?_
            have hl := lv_sub hl [0, 1] (l' := [(1, .int (nI (tt + 1))), (0, .ref ea)]) rfl
            exact ih_a (tt + 1, so13, ti14, le15, gr16) ls H _ (by show 30 - (tt + 1) < 30 - tt; omega) ⟨by show tt + 1 ≤ 30; omega, hl, hP, hD, hS⟩
