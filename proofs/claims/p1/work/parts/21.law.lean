set_option maxHeartbeats 40000000 in
set_option maxRecDepth 100000 in
theorem whole_start {p : Program} {e : Env} {s : State} {m : MethodId} {below : List Frame} {meth : Method} {c : Code} (l : Launch) {b L : Nat} {xs : Nat → Int32} (hL : L ≤ 4) (C0 : lw_At p s m meth c b L xs) : W p l e room_1 s m #[Value.ref b] below meth c s.heap [] 0 0 (lw_Z below #[Value.ref b] s) (entryFrame m ([Value.ref b] : List Value).toArray 4) := by
  obtain ⟨hx, hb, hr, hml, hown0, hts, hXs, hbl, hlk, hgv⟩ := C0
  have hown : s.vm.findClass R_lw = some m.cls := hown0
  have hg : ∀ w ∈ gw, w.before #[Value.ref b] s = true := fun w h => hts w (gw_tbl h)
  have hX : mt_X s := ⟨va_AOA.of (hts _ mt_ao), va_Nw.of rfl (hts _ gn_pn_11), va_Nw.of rfl (hts _ gn_mr_36)⟩
  obtain ⟨D, cZ, cI, cJ, cII, hK⟩ := mt_start hg hX
  obtain ⟨A, hAe⟩ : ∃ A : Nat → Prop, A = fun q => s.heap.size ≤ q := ⟨_, rfl⟩
  have hA : ∀ q, s.heap.size ≤ q → A q := fun q h => by rw [hAe]; exact h
  have hA2 : ∀ q, A q → s.heap.size ≤ q := fun q h => by rw [hAe] at h; exact h
  have hbA : ¬ A b := fun h => absurd (hA2 _ h) (Nat.not_le.mpr hbl)
  obtain ⟨H, hH⟩ : ∃ H : Heap, H = s.heap := ⟨_, rfl⟩
  have hS : va_S A s.heap H [] := by rw [hH]; exact va_S.rf
  have hl := lv_entry [Value.ref b] (n := 4) (Nat.le_of_ble_eq_true rfl)
  rw [lg_entry_eq]
  generalize (lg_sl ([Value.ref b]) ++ List.replicate (4 - (lg_sl ([Value.ref b])).length) Slot.unset).toArray = ls at hl ⊢
  rw [← hH]
  have hP : va_P D kls [] H := mt_P0
  have hD : va_D A [] := mt_D0
  have hl : lv_has ls 4 [(0, .ref b)] := hl
  have hP : va_P D kls [] H := hP
  have hD : va_D A [] := hD
  refine va_new (ci := 6) (fs := [.null, .null, .null, .null, .null]) (C := R_mr) (T := T_mr) (N := 5) hx hb hg in_mr t_mr t_mr_ok hown (hg _ gc_lw_7) (hg _ gj_mr) (hg _ gi_mr) hK hP hD hS hA rfl (fun j hj => by rcases (show j = 0 ∨ j = 1 ∨ j = 2 ∨ j = 3 ∨ j = 4 by omega) with rfl | rfl | rfl | rfl | rfl <;> rfl) (Nat.le_of_ble_eq_true rfl) (Nat.le_of_ble_eq_true rfl) d_lw_law_0 (fun q1 H hP hD hS => ?_)
  have hP : va_P D kls [(q1, .inr (6, [.null, .null, .null, .null, .null]))] H := hP
  have hD : va_D A [(q1, .inr (6, [.null, .null, .null, .null, .null]))] := hD
  refine W.widen (k := 1) (n := 5) (Nat.le_of_ble_eq_true rfl) (Nat.le_of_ble_eq_true rfl) ?_
  refine lv_dup hx hb d_lw_law_3 rfl ?_
  have hPc := hP
  have hDc := hD
  have hFc := mt_whole hD hS hA
  refine va_callv (va_runI (As := []) (rest := [.ref q1]) ⟨hx, hb, hml, hown, hg⟩ (c_mr_init l D cZ cI cJ cII q1 H.size) (cwI 0 hg gg_lw_9 rfl rfl rfl (hg _ gi_lw_9) (hg _ gl_lw_9) (hg _ gm_lw_9) rfl (by decide +kernel) ⟨Nat.le_of_ble_eq_true rfl, Nat.le_of_ble_eq_true rfl⟩) ⟨mt_bl, mt_pr hX hPc hK hDc⟩ rfl rfl hl.1 rfl (lv_room (Nat.le_of_ble_eq_true rfl)) d_lw_law_4 ⟨Nat.le_of_ble_eq_true rfl, Nat.le_of_ble_eq_true rfl⟩) hS (fun q _ h => hFc q h) hFc (fun u t H1 locs ht hvm hw hB hz1 hk1 hS => ?_)
  obtain ⟨fa2, ca3, pa4, da5, ea6, wa7, ra8, sa9, ta10, rr11, wf12, fc13, rf14, sf15, re16, cs17, cg18, cto19, rg20, cq21, cco22, cnx23, la24, lwo25, pce26, rp27, pse28, ppl29, rq30, dce31, rl32, dto33, dle34⟩ := u
  have hmade : (∀ j, j < 25 → wf12 j = 0) ∧ sf15 0 = 1 ∧ (∃ f : Nat → Int32, re16 0 = .inl (cI, 5, .inl f) ∧ f 0 = 0) ∧ fc13 = 1 ∧ mt_r5 cI re16 := hw
  obtain ⟨hP1, hD1⟩ := hB
  rw [ht] at hP1
  have hP1 : va_P D kls ([(q1, .inr (6, [.ref fa2, .ref ca3, .ref pa4, .ref da5, .ref ea6]))] ++ ((((([(fa2, .inr (1, [.int 1, .int 1, .ref wa7, .int fc13, .ref ra8, .ref sa9, .ref ta10])), (wa7, .inl (cZ, 25, .inl wf12)), (ra8, .inl (cI, 25, .inl rf14)), (sa9, .inl (cI, 25, .inl sf15)), (ta10, .inl (cII, 25, .inr (.inr (.inr (.inr (fun i => if i < 25 then some (rr11 i) else none))))))] ++ mt_rw 25 rr11 re16) ++ (([(ca3, .inr (0, [.ref fa2, .int 0, .ref cs17, .ref cg18, .ref cto19, .ref cq21, .ref cco22, .ref cnx23])), (cs17, .inl (cI, 5, .inl (fun _ => 0))), (cg18, .inl (cI, 5, .inl (fun _ => 0))), (cto19, .inl (cII, 5, .inr (.inr (.inr (.inr (fun i => if i < 5 then some (rg20 i) else none))))))] ++ mt_rw 5 rg20 (fun _ => .inl (cI, 25, .inl (fun _ => 0)))) ++ [(cq21, .inl (cI, 25, .inl (fun _ => 0))), (cco22, .inl (cJ, 25, .inr (.inl (fun _ => 0)))), (cnx23, .inl (cJ, 25, .inr (.inl (fun _ => 0))))])) ++ ((([(pa4, .inr (4, [.ref fa2, .ref ca3, .ref la24, .ref pce26, .ref pse28, .ref ppl29, .int 0, .int 0, .int 0, .int 0, .int 0])), (la24, .inr (3, [.ref lwo25])), (lwo25, .inl (cJ, 1296, .inr (.inl (fun _ => 0)))), (pce26, .inl (cII, 32, .inr (.inr (.inr (.inr (fun i => if i < 32 then some (rp27 i) else none))))))] ++ mt_rw 32 rp27 (fun _ => .inl (cI, 5, .inl (fun _ => 0)))) ++ [(pse28, .inl (cI, 32, .inl (fun _ => 0))), (ppl29, .inl (cII, 32, .inr (.inr (.inr (.inr (fun i => if i < 32 then some (rq30 i) else none))))))]) ++ mt_rw 32 rq30 (fun _ => .inl (cI, 5, .inl (fun _ => 0))))) ++ (([(da5, .inr (2, [.ref dce31, .ref dto33, .ref dle34])), (dce31, .inl (cII, 6, .inr (.inr (.inr (.inr (fun i => if i < 6 then some (rl32 i) else none))))))] ++ mt_rw 6 rl32 (fun _ => .inl (cI, 30, .inl (fun _ => 0)))) ++ [(dto33, .inl (cI, 6, .inl (fun _ => 0))), (dle34, .inl (cI, 6, .inl (fun _ => 0)))])) ++ [(ea6, .inr (5, [.ref fa2, .ref ca3, .ref da5, .int 0, .int 0, .int 0, .int 0]))])) H1 := hP1
  have hD1 : va_D _ ([(q1, .inr (6, [.ref fa2, .ref ca3, .ref pa4, .ref da5, .ref ea6]))] ++ ((((([(fa2, .inr (1, [.int 1, .int 1, .ref wa7, .int fc13, .ref ra8, .ref sa9, .ref ta10])), (wa7, .inl (cZ, 25, .inl wf12)), (ra8, .inl (cI, 25, .inl rf14)), (sa9, .inl (cI, 25, .inl sf15)), (ta10, .inl (cII, 25, .inr (.inr (.inr (.inr (fun i => if i < 25 then some (rr11 i) else none))))))] ++ mt_rw 25 rr11 re16) ++ (([(ca3, .inr (0, [.ref fa2, .int 0, .ref cs17, .ref cg18, .ref cto19, .ref cq21, .ref cco22, .ref cnx23])), (cs17, .inl (cI, 5, .inl (fun _ => 0))), (cg18, .inl (cI, 5, .inl (fun _ => 0))), (cto19, .inl (cII, 5, .inr (.inr (.inr (.inr (fun i => if i < 5 then some (rg20 i) else none))))))] ++ mt_rw 5 rg20 (fun _ => .inl (cI, 25, .inl (fun _ => 0)))) ++ [(cq21, .inl (cI, 25, .inl (fun _ => 0))), (cco22, .inl (cJ, 25, .inr (.inl (fun _ => 0)))), (cnx23, .inl (cJ, 25, .inr (.inl (fun _ => 0))))])) ++ ((([(pa4, .inr (4, [.ref fa2, .ref ca3, .ref la24, .ref pce26, .ref pse28, .ref ppl29, .int 0, .int 0, .int 0, .int 0, .int 0])), (la24, .inr (3, [.ref lwo25])), (lwo25, .inl (cJ, 1296, .inr (.inl (fun _ => 0)))), (pce26, .inl (cII, 32, .inr (.inr (.inr (.inr (fun i => if i < 32 then some (rp27 i) else none))))))] ++ mt_rw 32 rp27 (fun _ => .inl (cI, 5, .inl (fun _ => 0)))) ++ [(pse28, .inl (cI, 32, .inl (fun _ => 0))), (ppl29, .inl (cII, 32, .inr (.inr (.inr (.inr (fun i => if i < 32 then some (rq30 i) else none))))))]) ++ mt_rw 32 rq30 (fun _ => .inl (cI, 5, .inl (fun _ => 0))))) ++ (([(da5, .inr (2, [.ref dce31, .ref dto33, .ref dle34])), (dce31, .inl (cII, 6, .inr (.inr (.inr (.inr (fun i => if i < 6 then some (rl32 i) else none))))))] ++ mt_rw 6 rl32 (fun _ => .inl (cI, 30, .inl (fun _ => 0)))) ++ [(dto33, .inl (cI, 6, .inl (fun _ => 0))), (dle34, .inl (cI, 6, .inl (fun _ => 0)))])) ++ [(ea6, .inr (5, [.ref fa2, .ref ca3, .ref da5, .int 0, .int 0, .int 0, .int 0]))])) := hD1
  have hP := hP1
  have hD := hD1.weaken (fun _ _ _ h => hFc _ h)
  generalize H1 = H at hP hS ⊢
  obtain ⟨hwf, hs0, ⟨f9, hf9, hf0⟩, hfc, hre⟩ := hmade
  subst hfc
  have hP : va_P D kls ([(q1, .inr (6, [.ref fa2, .ref ca3, .ref pa4, .ref da5, .ref ea6]))] ++ ((((([(fa2, .inr (1, [.int 1, .int 1, .ref wa7, .int 1, .ref ra8, .ref sa9, .ref ta10])), (wa7, .inl (cZ, 25, .inl wf12)), (ra8, .inl (cI, 25, .inl rf14)), (sa9, .inl (cI, 25, .inl sf15)), (ta10, .inl (cII, 25, .inr (.inr (.inr (.inr (fun i => if i < 25 then some (rr11 i) else none))))))] ++ mt_rw 25 rr11 re16) ++ (([(ca3, .inr (0, [.ref fa2, .int 0, .ref cs17, .ref cg18, .ref cto19, .ref cq21, .ref cco22, .ref cnx23])), (cs17, .inl (cI, 5, .inl (fun _ => 0))), (cg18, .inl (cI, 5, .inl (fun _ => 0))), (cto19, .inl (cII, 5, .inr (.inr (.inr (.inr (fun i => if i < 5 then some (rg20 i) else none))))))] ++ mt_rw 5 rg20 (fun _ => .inl (cI, 25, .inl (fun _ => 0)))) ++ [(cq21, .inl (cI, 25, .inl (fun _ => 0))), (cco22, .inl (cJ, 25, .inr (.inl (fun _ => 0)))), (cnx23, .inl (cJ, 25, .inr (.inl (fun _ => 0))))])) ++ ((([(pa4, .inr (4, [.ref fa2, .ref ca3, .ref la24, .ref pce26, .ref pse28, .ref ppl29, .int 0, .int 0, .int 0, .int 0, .int 0])), (la24, .inr (3, [.ref lwo25])), (lwo25, .inl (cJ, 1296, .inr (.inl (fun _ => 0)))), (pce26, .inl (cII, 32, .inr (.inr (.inr (.inr (fun i => if i < 32 then some (rp27 i) else none))))))] ++ mt_rw 32 rp27 (fun _ => .inl (cI, 5, .inl (fun _ => 0)))) ++ [(pse28, .inl (cI, 32, .inl (fun _ => 0))), (ppl29, .inl (cII, 32, .inr (.inr (.inr (.inr (fun i => if i < 32 then some (rq30 i) else none))))))]) ++ mt_rw 32 rq30 (fun _ => .inl (cI, 5, .inl (fun _ => 0))))) ++ (([(da5, .inr (2, [.ref dce31, .ref dto33, .ref dle34])), (dce31, .inl (cII, 6, .inr (.inr (.inr (.inr (fun i => if i < 6 then some (rl32 i) else none))))))] ++ mt_rw 6 rl32 (fun _ => .inl (cI, 30, .inl (fun _ => 0)))) ++ [(dto33, .inl (cI, 6, .inl (fun _ => 0))), (dle34, .inl (cI, 6, .inl (fun _ => 0)))])) ++ [(ea6, .inr (5, [.ref fa2, .ref ca3, .ref da5, .int 0, .int 0, .int 0, .int 0]))])) H := hP
  have hD : va_D A ([(q1, .inr (6, [.ref fa2, .ref ca3, .ref pa4, .ref da5, .ref ea6]))] ++ ((((([(fa2, .inr (1, [.int 1, .int 1, .ref wa7, .int 1, .ref ra8, .ref sa9, .ref ta10])), (wa7, .inl (cZ, 25, .inl wf12)), (ra8, .inl (cI, 25, .inl rf14)), (sa9, .inl (cI, 25, .inl sf15)), (ta10, .inl (cII, 25, .inr (.inr (.inr (.inr (fun i => if i < 25 then some (rr11 i) else none))))))] ++ mt_rw 25 rr11 re16) ++ (([(ca3, .inr (0, [.ref fa2, .int 0, .ref cs17, .ref cg18, .ref cto19, .ref cq21, .ref cco22, .ref cnx23])), (cs17, .inl (cI, 5, .inl (fun _ => 0))), (cg18, .inl (cI, 5, .inl (fun _ => 0))), (cto19, .inl (cII, 5, .inr (.inr (.inr (.inr (fun i => if i < 5 then some (rg20 i) else none))))))] ++ mt_rw 5 rg20 (fun _ => .inl (cI, 25, .inl (fun _ => 0)))) ++ [(cq21, .inl (cI, 25, .inl (fun _ => 0))), (cco22, .inl (cJ, 25, .inr (.inl (fun _ => 0)))), (cnx23, .inl (cJ, 25, .inr (.inl (fun _ => 0))))])) ++ ((([(pa4, .inr (4, [.ref fa2, .ref ca3, .ref la24, .ref pce26, .ref pse28, .ref ppl29, .int 0, .int 0, .int 0, .int 0, .int 0])), (la24, .inr (3, [.ref lwo25])), (lwo25, .inl (cJ, 1296, .inr (.inl (fun _ => 0)))), (pce26, .inl (cII, 32, .inr (.inr (.inr (.inr (fun i => if i < 32 then some (rp27 i) else none))))))] ++ mt_rw 32 rp27 (fun _ => .inl (cI, 5, .inl (fun _ => 0)))) ++ [(pse28, .inl (cI, 32, .inl (fun _ => 0))), (ppl29, .inl (cII, 32, .inr (.inr (.inr (.inr (fun i => if i < 32 then some (rq30 i) else none))))))]) ++ mt_rw 32 rq30 (fun _ => .inl (cI, 5, .inl (fun _ => 0))))) ++ (([(da5, .inr (2, [.ref dce31, .ref dto33, .ref dle34])), (dce31, .inl (cII, 6, .inr (.inr (.inr (.inr (fun i => if i < 6 then some (rl32 i) else none))))))] ++ mt_rw 6 rl32 (fun _ => .inl (cI, 30, .inl (fun _ => 0)))) ++ [(dto33, .inl (cI, 6, .inl (fun _ => 0))), (dle34, .inl (cI, 6, .inl (fun _ => 0)))])) ++ [(ea6, .inr (5, [.ref fa2, .ref ca3, .ref da5, .int 0, .int 0, .int 0, .int 0]))])) := hD
  obtain ⟨WX, hWX⟩ : ∃ Z : va_W, Z = ([(q1, .inr (6, [.ref fa2, .ref ca3, .ref pa4, .ref da5, .ref ea6]))] ++ ((((([(fa2, .inr (1, [.int 1, .int 1, .ref wa7, .int 1, .ref ra8, .ref sa9, .ref ta10])), (wa7, .inl (cZ, 25, .inl wf12)), (ra8, .inl (cI, 25, .inl rf14)), (sa9, .inl (cI, 25, .inl sf15)), (ta10, .inl (cII, 25, .inr (.inr (.inr (.inr (fun i => if i < 25 then some (rr11 i) else none))))))] ++ mt_rw 25 rr11 re16) ++ (([(ca3, .inr (0, [.ref fa2, .int 0, .ref cs17, .ref cg18, .ref cto19, .ref cq21, .ref cco22, .ref cnx23])), (cs17, .inl (cI, 5, .inl (fun _ => 0))), (cg18, .inl (cI, 5, .inl (fun _ => 0))), (cto19, .inl (cII, 5, .inr (.inr (.inr (.inr (fun i => if i < 5 then some (rg20 i) else none))))))] ++ mt_rw 5 rg20 (fun _ => .inl (cI, 25, .inl (fun _ => 0)))) ++ [(cq21, .inl (cI, 25, .inl (fun _ => 0))), (cco22, .inl (cJ, 25, .inr (.inl (fun _ => 0)))), (cnx23, .inl (cJ, 25, .inr (.inl (fun _ => 0))))])) ++ ((([(pa4, .inr (4, [.ref fa2, .ref ca3, .ref la24, .ref pce26, .ref pse28, .ref ppl29, .int 0, .int 0, .int 0, .int 0, .int 0])), (la24, .inr (3, [.ref lwo25])), (lwo25, .inl (cJ, 1296, .inr (.inl (fun _ => 0)))), (pce26, .inl (cII, 32, .inr (.inr (.inr (.inr (fun i => if i < 32 then some (rp27 i) else none))))))] ++ mt_rw 32 rp27 (fun _ => .inl (cI, 5, .inl (fun _ => 0)))) ++ [(pse28, .inl (cI, 32, .inl (fun _ => 0))), (ppl29, .inl (cII, 32, .inr (.inr (.inr (.inr (fun i => if i < 32 then some (rq30 i) else none))))))]) ++ mt_rw 32 rq30 (fun _ => .inl (cI, 5, .inl (fun _ => 0))))) ++ (([(da5, .inr (2, [.ref dce31, .ref dto33, .ref dle34])), (dce31, .inl (cII, 6, .inr (.inr (.inr (.inr (fun i => if i < 6 then some (rl32 i) else none))))))] ++ mt_rw 6 rl32 (fun _ => .inl (cI, 30, .inl (fun _ => 0)))) ++ [(dto33, .inl (cI, 6, .inl (fun _ => 0))), (dle34, .inl (cI, 6, .inl (fun _ => 0)))])) ++ [(ea6, .inr (5, [.ref fa2, .ref ca3, .ref da5, .int 0, .int 0, .int 0, .int 0]))])) := ⟨_, rfl⟩
  rw [← hWX] at hP hD
  refine W.widen (k := 124) (n := 2392) (Nat.le_of_ble_eq_true rfl) (Nat.le_of_ble_eq_true rfl) ?_
  refine lv_astore_n hx hb d_lw_law_7 rfl hl (by decide) rfl (fun ls hl => ?_)
  have hl : lv_has ls 4 [(1, .ref q1), (0, .ref b)] := hl
  refine va_new (ci := 7) (fs := [.int 0, .int 0, .null, .int 0, .null, .null, .null, .null, .int 0, .null, .null, .null, .null, .null, .null, .null, .int 0, .null, .null, .null, .int 0, .int 0, .null, .null, .null, .null, .null, .null, .null, .int 0, .int 0, .int 0, .int 0]) (C := R_md) (T := T_md) (N := 33) hx hb hg in_md t_md t_md_ok hown (hg _ gc_lw_10) (hg _ gj_md) (hg _ gi_md) hK hP hD hS hA rfl (fun j hj => by rcases (show j = 0 ∨ j = 1 ∨ j = 2 ∨ j = 3 ∨ j = 4 ∨ j = 5 ∨ j = 6 ∨ j = 7 ∨ j = 8 ∨ j = 9 ∨ j = 10 ∨ j = 11 ∨ j = 12 ∨ j = 13 ∨ j = 14 ∨ j = 15 ∨ j = 16 ∨ j = 17 ∨ j = 18 ∨ j = 19 ∨ j = 20 ∨ j = 21 ∨ j = 22 ∨ j = 23 ∨ j = 24 ∨ j = 25 ∨ j = 26 ∨ j = 27 ∨ j = 28 ∨ j = 29 ∨ j = 30 ∨ j = 31 ∨ j = 32 by omega) with rfl | rfl | rfl | rfl | rfl | rfl | rfl | rfl | rfl | rfl | rfl | rfl | rfl | rfl | rfl | rfl | rfl | rfl | rfl | rfl | rfl | rfl | rfl | rfl | rfl | rfl | rfl | rfl | rfl | rfl | rfl | rfl | rfl <;> rfl) (Nat.le_of_ble_eq_true rfl) (Nat.le_of_ble_eq_true rfl) d_lw_law_8 (fun q35 H hP hD hS => ?_)
  have hP := mt_rotP hP
  have hD := mt_rotD hD
  refine W.widen (k := 125) (n := 2425) (Nat.le_of_ble_eq_true rfl) (Nat.le_of_ble_eq_true rfl) ?_
  refine lv_dup hx hb d_lw_law_11 rfl ?_
  have hPc := mt_hd hP
  have hDc := mt_hdD hD
  have hFc := mt_hdF hD hS hA
  refine va_callv (va_runI (As := []) (rest := [.ref q35]) ⟨hx, hb, hml, hown, hg⟩ (c_md_init l D cZ cI cJ cII q35 H.size) (cwI 0 hg gg_lw_12 rfl rfl rfl (hg _ gi_lw_12) (hg _ gl_lw_12) (hg _ gm_lw_12) rfl (by decide +kernel) ⟨Nat.le_of_ble_eq_true rfl, Nat.le_of_ble_eq_true rfl⟩) ⟨mt_bl, mt_pr hX hPc hK hDc⟩ rfl rfl hl.1 rfl (lv_room (Nat.le_of_ble_eq_true rfl)) d_lw_law_12 ⟨Nat.le_of_ble_eq_true rfl, Nat.le_of_ble_eq_true rfl⟩) hS (fun q _ h => hFc q h) hFc (fun u t H1 locs ht hvm hw hB hz1 hk1 hS => ?_)
  obtain ⟨nwalls36, nstarts37, ngoals38, nlaid39, nisTold40, ncells41, nindex42, nnear43, nnearCount44, npay45, ndone46, npile47, nnow48, nthen49, nchoice50, nplan51, ncosts52, npaid53, nafter54, nfar55, nmany56, nnext57⟩ := u
  obtain ⟨hP1, hD1⟩ := hB
  rw [ht] at hP1
  have hP1 : va_P D kls [(q35, .inr (7, [.int 1, .int 1, .ref nwalls36, .int 0, .ref nstarts37, .ref ngoals38, .ref nlaid39, .ref nisTold40, .int 0, .ref ncells41, .ref nindex42, .ref nnear43, .ref nnearCount44, .ref npay45, .ref ndone46, .ref npile47, .int 0, .ref nnow48, .ref nthen49, .ref nchoice50, .int 0, .int 0, .ref nplan51, .ref ncosts52, .ref npaid53, .ref nafter54, .ref nfar55, .ref nmany56, .ref nnext57, .int 0, .int 0, .int 0, .int 0])), (nwalls36, .inl (cZ, 25, .inl (fun _ => 0))), (nstarts37, .inl (cI, 25, .inl (fun _ => 0))), (ngoals38, .inl (cI, 25, .inl (fun _ => 0))), (nlaid39, .inl (cI, 180, .inl (fun _ => 0))), (nisTold40, .inl (cZ, 180, .inl (fun _ => 0))), (ncells41, .inl (cI, 25, .inl (fun _ => 0))), (nindex42, .inl (cI, 25, .inl (fun _ => 0))), (nnear43, .inl (cI, 125, .inl (fun _ => 0))), (nnearCount44, .inl (cI, 25, .inl (fun _ => 0))), (npay45, .inl (cI, 512000, .inl (fun _ => 0))), (ndone46, .inl (cZ, 512000, .inl (fun _ => 0))), (npile47, .inl (cI, 512000, .inl (fun _ => 0))), (nnow48, .inl (cI, 6, .inl (fun _ => 0))), (nthen49, .inl (cI, 6, .inl (fun _ => 0))), (nchoice50, .inl (cI, 6, .inl (fun _ => 0))), (nplan51, .inl (cI, 1260, .inl (fun _ => 0))), (ncosts52, .inl (cI, 6, .inl (fun _ => 0))), (npaid53, .inl (cI, 64, .inl (fun _ => 0))), (nafter54, .inl (cI, 64, .inl (fun _ => 0))), (nfar55, .inl (cI, 25, .inl (fun _ => 0))), (nmany56, .inl (cJ, 25, .inr (.inl (fun _ => 0)))), (nnext57, .inl (cJ, 25, .inr (.inl (fun _ => 0))))] H1 := hP1
  have hD1 : va_D _ [(q35, .inr (7, [.int 1, .int 1, .ref nwalls36, .int 0, .ref nstarts37, .ref ngoals38, .ref nlaid39, .ref nisTold40, .int 0, .ref ncells41, .ref nindex42, .ref nnear43, .ref nnearCount44, .ref npay45, .ref ndone46, .ref npile47, .int 0, .ref nnow48, .ref nthen49, .ref nchoice50, .int 0, .int 0, .ref nplan51, .ref ncosts52, .ref npaid53, .ref nafter54, .ref nfar55, .ref nmany56, .ref nnext57, .int 0, .int 0, .int 0, .int 0])), (nwalls36, .inl (cZ, 25, .inl (fun _ => 0))), (nstarts37, .inl (cI, 25, .inl (fun _ => 0))), (ngoals38, .inl (cI, 25, .inl (fun _ => 0))), (nlaid39, .inl (cI, 180, .inl (fun _ => 0))), (nisTold40, .inl (cZ, 180, .inl (fun _ => 0))), (ncells41, .inl (cI, 25, .inl (fun _ => 0))), (nindex42, .inl (cI, 25, .inl (fun _ => 0))), (nnear43, .inl (cI, 125, .inl (fun _ => 0))), (nnearCount44, .inl (cI, 25, .inl (fun _ => 0))), (npay45, .inl (cI, 512000, .inl (fun _ => 0))), (ndone46, .inl (cZ, 512000, .inl (fun _ => 0))), (npile47, .inl (cI, 512000, .inl (fun _ => 0))), (nnow48, .inl (cI, 6, .inl (fun _ => 0))), (nthen49, .inl (cI, 6, .inl (fun _ => 0))), (nchoice50, .inl (cI, 6, .inl (fun _ => 0))), (nplan51, .inl (cI, 1260, .inl (fun _ => 0))), (ncosts52, .inl (cI, 6, .inl (fun _ => 0))), (npaid53, .inl (cI, 64, .inl (fun _ => 0))), (nafter54, .inl (cI, 64, .inl (fun _ => 0))), (nfar55, .inl (cI, 25, .inl (fun _ => 0))), (nmany56, .inl (cJ, 25, .inr (.inl (fun _ => 0)))), (nnext57, .inl (cJ, 25, .inr (.inl (fun _ => 0))))] := hD1
  obtain ⟨hP, hD⟩ := mt_join1 hP hD hk1 hFc hP1 hD1
  generalize H1 = H at hP hS ⊢
  clear hP1 hD1 hPc hDc hFc hk1
  subst hWX
  refine W.widen (k := 147) (n := 1540547) (Nat.le_of_ble_eq_true rfl) (Nat.le_of_ble_eq_true rfl) ?_
  refine lv_astore_n hx hb d_lw_law_15 rfl hl (by decide) rfl (fun ls hl => ?_)
  have hl : lv_has ls 4 [(2, .ref q35), (1, .ref q1), (0, .ref b)] := hl
  refine lv_iconst (v := 0) hx hb d_lw_law_16 (by decide) ?_
  refine lv_istore_n hx hb d_lw_law_17 rfl hl (by decide) rfl (fun ls hl => ?_)
  have hl : lv_has ls 4 [(3, .int 0), (2, .ref q35), (1, .ref q1), (0, .ref b)] := hl
  rcases (show L = 0 ∨ L = 1 ∨ L = 2 ∨ L = 3 ∨ L = 4 by omega) with rfl | rfl | rfl | rfl | rfl
  ·
    refine lv_iload_n hx hb d_lw_law_18 rfl (lv_at hl 0 rfl) ?_
    refine lv_aload_n hx hb d_lw_law_19 rfl (lv_at hl 3 rfl) ?_
    refine va_slen hx hb hXs hbl hbA hS d_lw_law_20 ?_
    refine lv_iconst (v := 4) hx hb d_lw_law_21 (by decide) ?_
    refine lv_isub hx hb d_lw_law_22 ?_
    refine lv_topi (fun y0 e0 => ?_)
    have e0 : y0 = (-4) := e0.trans (by decide)
    subst e0
    refine lv_icmp_gt hx hb d_lw_law_23 rfl (fun _ => ?_) (fun h => absurd (by decide) h)
    refine lv_iconst (v := 1) hx hb d_lw_law_402 (by decide) ?_
    refine W.widen (k := 60000) (n := 8922250) (Nat.le_of_ble_eq_true rfl) (Nat.le_of_ble_eq_true rfl) ?_
    refine va_forget (fun q h => hA2 _ (hS.2.2 q h)) ?_
    exact lw_ret hx hb hr hlk d_lw_law_403
  ·
    refine lv_iload_n hx hb d_lw_law_18 rfl (lv_at hl 0 rfl) ?_
    refine lv_aload_n hx hb d_lw_law_19 rfl (lv_at hl 3 rfl) ?_
    refine va_slen hx hb hXs hbl hbA hS d_lw_law_20 ?_
    refine lv_iconst (v := 4) hx hb d_lw_law_21 (by decide) ?_
    refine lv_isub hx hb d_lw_law_22 ?_
    refine lv_topi (fun y0 e0 => ?_)
    have e0 : y0 = (-3) := e0.trans (by decide)
    subst e0
    refine lv_icmp_gt hx hb d_lw_law_23 rfl (fun _ => ?_) (fun h => absurd (by decide) h)
    refine lv_iconst (v := 1) hx hb d_lw_law_402 (by decide) ?_
    refine W.widen (k := 60000) (n := 8922250) (Nat.le_of_ble_eq_true rfl) (Nat.le_of_ble_eq_true rfl) ?_
    refine va_forget (fun q h => hA2 _ (hS.2.2 q h)) ?_
    exact lw_ret hx hb hr hlk d_lw_law_403
  ·
    refine lv_iload_n hx hb d_lw_law_18 rfl (lv_at hl 0 rfl) ?_
    refine lv_aload_n hx hb d_lw_law_19 rfl (lv_at hl 3 rfl) ?_
    refine va_slen hx hb hXs hbl hbA hS d_lw_law_20 ?_
    refine lv_iconst (v := 4) hx hb d_lw_law_21 (by decide) ?_
    refine lv_isub hx hb d_lw_law_22 ?_
    refine lv_topi (fun y0 e0 => ?_)
    have e0 : y0 = (-2) := e0.trans (by decide)
    subst e0
    refine lv_icmp_gt hx hb d_lw_law_23 rfl (fun _ => ?_) (fun h => absurd (by decide) h)
    refine lv_iconst (v := 1) hx hb d_lw_law_402 (by decide) ?_
    refine W.widen (k := 60000) (n := 8922250) (Nat.le_of_ble_eq_true rfl) (Nat.le_of_ble_eq_true rfl) ?_
    refine va_forget (fun q h => hA2 _ (hS.2.2 q h)) ?_
    exact lw_ret hx hb hr hlk d_lw_law_403
  ·
    refine lv_iload_n hx hb d_lw_law_18 rfl (lv_at hl 0 rfl) ?_
    refine lv_aload_n hx hb d_lw_law_19 rfl (lv_at hl 3 rfl) ?_
    refine va_slen hx hb hXs hbl hbA hS d_lw_law_20 ?_
    refine lv_iconst (v := 4) hx hb d_lw_law_21 (by decide) ?_
    refine lv_isub hx hb d_lw_law_22 ?_
    refine lv_topi (fun y0 e0 => ?_)
    have e0 : y0 = (-1) := e0.trans (by decide)
    subst e0
    refine lv_icmp_gt hx hb d_lw_law_23 rfl (fun _ => ?_) (fun h => absurd (by decide) h)
    refine lv_iconst (v := 1) hx hb d_lw_law_402 (by decide) ?_
    refine W.widen (k := 60000) (n := 8922250) (Nat.le_of_ble_eq_true rfl) (Nat.le_of_ble_eq_true rfl) ?_
    refine va_forget (fun q h => hA2 _ (hS.2.2 q h)) ?_
    exact lw_ret hx hb hr hlk d_lw_law_403
  ·
    refine lv_iload_n hx hb d_lw_law_18 rfl (lv_at hl 0 rfl) ?_
    refine lv_aload_n hx hb d_lw_law_19 rfl (lv_at hl 3 rfl) ?_
    refine va_slen hx hb hXs hbl hbA hS d_lw_law_20 ?_
    refine lv_iconst (v := 4) hx hb d_lw_law_21 (by decide) ?_
    refine lv_isub hx hb d_lw_law_22 ?_
    refine lv_topi (fun y0 e0 => ?_)
    have e0 : y0 = 0 := e0.trans (by decide)
    subst e0
    refine lv_icmp_gt hx hb d_lw_law_23 rfl (fun h => absurd h (by decide)) (fun _ => ?_)
    refine lv_aload_n hx hb d_lw_law_26 rfl (lv_at hl 3 rfl) ?_
    refine lv_iload_n hx hb d_lw_law_27 rfl (lv_at hl 0 rfl) ?_
    refine va_sld hx hb hXs hbl hbA hS (by unfold vp_in; decide) d_lw_law_28 ?_
    refine lv_topi (fun y58 ey58 => ?_)
    have ey58 : y58 = xs 0 := ey58
    subst ey58
    refine lv_bipush (v := 15) hx hb d_lw_law_29 (by decide) ?_
    refine lv_iand hx hb d_lw_law_31 ?_
    obtain ⟨j, hj, ej⟩ := pk_andE (xs 0) (m := 15) 4 rfl
    rw [ej]
    rcases (show j = 0 ∨ j = 1 ∨ j = 2 ∨ j = 3 ∨ j = 4 ∨ j = 5 ∨ j = 6 ∨ j = 7 ∨ j = 8 ∨ j = 9 ∨ j = 10 ∨ j = 11 ∨ j = 12 ∨ j = 13 ∨ j = 14 ∨ j = 15 by omega) with rfl | rfl | rfl | rfl | rfl | rfl | rfl | rfl | rfl | rfl | rfl | rfl | rfl | rfl | rfl | rfl
    ·
      refine lv_tableIn hx hb d_lw_law_32 (by decide) (by decide) (off := 60) (tgt := 92) rfl rfl ?_
      have hP := hP.sub (ws' := (([(q1, .inr (6, [.ref fa2, .ref ca3, .ref pa4, .ref da5, .ref ea6])), (ca3, .inr (0, [.ref fa2, .int 0, .ref cs17, .ref cg18, .ref cto19, .ref cq21, .ref cco22, .ref cnx23])), (pa4, .inr (4, [.ref fa2, .ref ca3, .ref la24, .ref pce26, .ref pse28, .ref ppl29, .int 0, .int 0, .int 0, .int 0, .int 0])), (da5, .inr (2, [.ref dce31, .ref dto33, .ref dle34])), (dto33, .inl (cI, 6, .inl (fun _ => 0))), (dle34, .inl (cI, 6, .inl (fun _ => 0))), (fa2, .inr (1, [.int 1, .int 1, .ref wa7, .int 1, .ref ra8, .ref sa9, .ref ta10])), (wa7, .inl (cZ, 25, .inl wf12)), (ra8, .inl (cI, 25, .inl rf14)), (sa9, .inl (cI, 25, .inl sf15)), (ta10, .inl (cII, 25, .inr (.inr (.inr (.inr (fun i => if i < 25 then some (rr11 i) else none))))))] ++ mt_rw 25 rr11 re16) ++ [(q35, .inr (7, [.int 1, .int 1, .ref nwalls36, .int 0, .ref nstarts37, .ref ngoals38, .ref nlaid39, .ref nisTold40, .int 0, .ref ncells41, .ref nindex42, .ref nnear43, .ref nnearCount44, .ref npay45, .ref ndone46, .ref npile47, .int 0, .ref nnow48, .ref nthen49, .ref nchoice50, .int 0, .int 0, .ref nplan51, .ref ncosts52, .ref npaid53, .ref nafter54, .ref nfar55, .ref nmany56, .ref nnext57, .int 0, .int 0, .int 0, .int 0])), (nwalls36, .inl (cZ, 25, .inl (fun _ => 0))), (nisTold40, .inl (cZ, 180, .inl (fun _ => 0)))])) [0, 31, 43, 113, 121, 122, 1, 2, 3, 4, 5, 6, 7, 8, 9, 10, 11, 12, 13, 14, 15, 16, 17, 18, 19, 20, 21, 22, 23, 24, 25, 26, 27, 28, 29, 30, 124, 125, 129] rfl
      have hD := hD.sub (ws' := (([(q1, .inr (6, [.ref fa2, .ref ca3, .ref pa4, .ref da5, .ref ea6])), (ca3, .inr (0, [.ref fa2, .int 0, .ref cs17, .ref cg18, .ref cto19, .ref cq21, .ref cco22, .ref cnx23])), (pa4, .inr (4, [.ref fa2, .ref ca3, .ref la24, .ref pce26, .ref pse28, .ref ppl29, .int 0, .int 0, .int 0, .int 0, .int 0])), (da5, .inr (2, [.ref dce31, .ref dto33, .ref dle34])), (dto33, .inl (cI, 6, .inl (fun _ => 0))), (dle34, .inl (cI, 6, .inl (fun _ => 0))), (fa2, .inr (1, [.int 1, .int 1, .ref wa7, .int 1, .ref ra8, .ref sa9, .ref ta10])), (wa7, .inl (cZ, 25, .inl wf12)), (ra8, .inl (cI, 25, .inl rf14)), (sa9, .inl (cI, 25, .inl sf15)), (ta10, .inl (cII, 25, .inr (.inr (.inr (.inr (fun i => if i < 25 then some (rr11 i) else none))))))] ++ mt_rw 25 rr11 re16) ++ [(q35, .inr (7, [.int 1, .int 1, .ref nwalls36, .int 0, .ref nstarts37, .ref ngoals38, .ref nlaid39, .ref nisTold40, .int 0, .ref ncells41, .ref nindex42, .ref nnear43, .ref nnearCount44, .ref npay45, .ref ndone46, .ref npile47, .int 0, .ref nnow48, .ref nthen49, .ref nchoice50, .int 0, .int 0, .ref nplan51, .ref ncosts52, .ref npaid53, .ref nafter54, .ref nfar55, .ref nmany56, .ref nnext57, .int 0, .int 0, .int 0, .int 0])), (nwalls36, .inl (cZ, 25, .inl (fun _ => 0))), (nisTold40, .inl (cZ, 180, .inl (fun _ => 0)))])) [0, 31, 43, 113, 121, 122, 1, 2, 3, 4, 5, 6, 7, 8, 9, 10, 11, 12, 13, 14, 15, 16, 17, 18, 19, 20, 21, 22, 23, 24, 25, 26, 27, 28, 29, 30, 124, 125, 129] (by decide) rfl
      have hP : va_P D kls (([(q1, .inr (6, [.ref fa2, .ref ca3, .ref pa4, .ref da5, .ref ea6])), (ca3, .inr (0, [.ref fa2, .int 0, .ref cs17, .ref cg18, .ref cto19, .ref cq21, .ref cco22, .ref cnx23])), (pa4, .inr (4, [.ref fa2, .ref ca3, .ref la24, .ref pce26, .ref pse28, .ref ppl29, .int 0, .int 0, .int 0, .int 0, .int 0])), (da5, .inr (2, [.ref dce31, .ref dto33, .ref dle34])), (dto33, .inl (cI, 6, .inl (fun _ => 0))), (dle34, .inl (cI, 6, .inl (fun _ => 0))), (fa2, .inr (1, [.int 1, .int 1, .ref wa7, .int 1, .ref ra8, .ref sa9, .ref ta10])), (wa7, .inl (cZ, 25, .inl wf12)), (ra8, .inl (cI, 25, .inl rf14)), (sa9, .inl (cI, 25, .inl sf15)), (ta10, .inl (cII, 25, .inr (.inr (.inr (.inr (fun i => if i < 25 then some (rr11 i) else none))))))] ++ mt_rw 25 rr11 re16) ++ [(q35, .inr (7, [.int 1, .int 1, .ref nwalls36, .int 0, .ref nstarts37, .ref ngoals38, .ref nlaid39, .ref nisTold40, .int 0, .ref ncells41, .ref nindex42, .ref nnear43, .ref nnearCount44, .ref npay45, .ref ndone46, .ref npile47, .int 0, .ref nnow48, .ref nthen49, .ref nchoice50, .int 0, .int 0, .ref nplan51, .ref ncosts52, .ref npaid53, .ref nafter54, .ref nfar55, .ref nmany56, .ref nnext57, .int 0, .int 0, .int 0, .int 0])), (nwalls36, .inl (cZ, 25, .inl (fun _ => 0))), (nisTold40, .inl (cZ, 180, .inl (fun _ => 0)))]) H := hP
      have hD : va_D A (([(q1, .inr (6, [.ref fa2, .ref ca3, .ref pa4, .ref da5, .ref ea6])), (ca3, .inr (0, [.ref fa2, .int 0, .ref cs17, .ref cg18, .ref cto19, .ref cq21, .ref cco22, .ref cnx23])), (pa4, .inr (4, [.ref fa2, .ref ca3, .ref la24, .ref pce26, .ref pse28, .ref ppl29, .int 0, .int 0, .int 0, .int 0, .int 0])), (da5, .inr (2, [.ref dce31, .ref dto33, .ref dle34])), (dto33, .inl (cI, 6, .inl (fun _ => 0))), (dle34, .inl (cI, 6, .inl (fun _ => 0))), (fa2, .inr (1, [.int 1, .int 1, .ref wa7, .int 1, .ref ra8, .ref sa9, .ref ta10])), (wa7, .inl (cZ, 25, .inl wf12)), (ra8, .inl (cI, 25, .inl rf14)), (sa9, .inl (cI, 25, .inl sf15)), (ta10, .inl (cII, 25, .inr (.inr (.inr (.inr (fun i => if i < 25 then some (rr11 i) else none))))))] ++ mt_rw 25 rr11 re16) ++ [(q35, .inr (7, [.int 1, .int 1, .ref nwalls36, .int 0, .ref nstarts37, .ref ngoals38, .ref nlaid39, .ref nisTold40, .int 0, .ref ncells41, .ref nindex42, .ref nnear43, .ref nnearCount44, .ref npay45, .ref ndone46, .ref npile47, .int 0, .ref nnow48, .ref nthen49, .ref nchoice50, .int 0, .int 0, .ref nplan51, .ref ncosts52, .ref npaid53, .ref nafter54, .ref nfar55, .ref nmany56, .ref nnext57, .int 0, .int 0, .int 0, .int 0])), (nwalls36, .inl (cZ, 25, .inl (fun _ => 0))), (nisTold40, .inl (cZ, 180, .inl (fun _ => 0)))]) := hD
      refine lv_aload_n hx hb d_lw_law_92 rfl (lv_at hl 2 rfl) ?_
      refine lv_aload_n hx hb d_lw_law_93 rfl (lv_at hl 3 rfl) ?_
      refine lv_iload_n hx hb d_lw_law_94 rfl (lv_at hl 0 rfl) ?_
      refine lv_iconst (v := 1) hx hb d_lw_law_95 (by decide) ?_
      refine lv_iadd hx hb d_lw_law_96 ?_
      refine va_sld hx hb hXs hbl hbA hS (by unfold vp_in; decide) d_lw_law_97 ?_
      refine lv_topi (fun y59 ey59 => ?_)
      have ey59 : y59 = xs 1 := ey59
      subst ey59
      refine lv_aload_n hx hb d_lw_law_98 rfl (lv_at hl 3 rfl) ?_
      refine lv_iload_n hx hb d_lw_law_99 rfl (lv_at hl 0 rfl) ?_
      refine lv_iconst (v := 2) hx hb d_lw_law_100 (by decide) ?_
      refine lv_iadd hx hb d_lw_law_101 ?_
      refine va_sld hx hb hXs hbl hbA hS (by unfold vp_in; decide) d_lw_law_102 ?_
      refine lv_topi (fun y60 ey60 => ?_)
      have ey60 : y60 = xs 2 := ey60
      subst ey60
      have hPc := hP.sub (ws' := ([(q1, .inr (6, [.ref fa2, .ref ca3, .ref pa4, .ref da5, .ref ea6])), (ca3, .inr (0, [.ref fa2, .int 0, .ref cs17, .ref cg18, .ref cto19, .ref cq21, .ref cco22, .ref cnx23])), (pa4, .inr (4, [.ref fa2, .ref ca3, .ref la24, .ref pce26, .ref pse28, .ref ppl29, .int 0, .int 0, .int 0, .int 0, .int 0])), (da5, .inr (2, [.ref dce31, .ref dto33, .ref dle34])), (dto33, .inl (cI, 6, .inl (fun _ => 0))), (dle34, .inl (cI, 6, .inl (fun _ => 0))), (fa2, .inr (1, [.int 1, .int 1, .ref wa7, .int 1, .ref ra8, .ref sa9, .ref ta10])), (wa7, .inl (cZ, 25, .inl wf12)), (ra8, .inl (cI, 25, .inl rf14)), (sa9, .inl (cI, 25, .inl sf15)), (ta10, .inl (cII, 25, .inr (.inr (.inr (.inr (fun i => if i < 25 then some (rr11 i) else none))))))] ++ mt_rw 25 rr11 re16)) [0, 1, 2, 3, 4, 5, 6, 7, 8, 9, 10, 11, 12, 13, 14, 15, 16, 17, 18, 19, 20, 21, 22, 23, 24, 25, 26, 27, 28, 29, 30, 31, 32, 33, 34, 35] rfl
      have hDc := hD.sub (ws' := ([(q1, .inr (6, [.ref fa2, .ref ca3, .ref pa4, .ref da5, .ref ea6])), (ca3, .inr (0, [.ref fa2, .int 0, .ref cs17, .ref cg18, .ref cto19, .ref cq21, .ref cco22, .ref cnx23])), (pa4, .inr (4, [.ref fa2, .ref ca3, .ref la24, .ref pce26, .ref pse28, .ref ppl29, .int 0, .int 0, .int 0, .int 0, .int 0])), (da5, .inr (2, [.ref dce31, .ref dto33, .ref dle34])), (dto33, .inl (cI, 6, .inl (fun _ => 0))), (dle34, .inl (cI, 6, .inl (fun _ => 0))), (fa2, .inr (1, [.int 1, .int 1, .ref wa7, .int 1, .ref ra8, .ref sa9, .ref ta10])), (wa7, .inl (cZ, 25, .inl wf12)), (ra8, .inl (cI, 25, .inl rf14)), (sa9, .inl (cI, 25, .inl sf15)), (ta10, .inl (cII, 25, .inr (.inr (.inr (.inr (fun i => if i < 25 then some (rr11 i) else none))))))] ++ mt_rw 25 rr11 re16)) [0, 1, 2, 3, 4, 5, 6, 7, 8, 9, 10, 11, 12, 13, 14, 15, 16, 17, 18, 19, 20, 21, 22, 23, 24, 25, 26, 27, 28, 29, 30, 31, 32, 33, 34, 35] (by decide) rfl
      have hFc := va_free (wc := ([(q1, .inr (6, [.ref fa2, .ref ca3, .ref pa4, .ref da5, .ref ea6])), (ca3, .inr (0, [.ref fa2, .int 0, .ref cs17, .ref cg18, .ref cto19, .ref cq21, .ref cco22, .ref cnx23])), (pa4, .inr (4, [.ref fa2, .ref ca3, .ref la24, .ref pce26, .ref pse28, .ref ppl29, .int 0, .int 0, .int 0, .int 0, .int 0])), (da5, .inr (2, [.ref dce31, .ref dto33, .ref dle34])), (dto33, .inl (cI, 6, .inl (fun _ => 0))), (dle34, .inl (cI, 6, .inl (fun _ => 0))), (fa2, .inr (1, [.int 1, .int 1, .ref wa7, .int 1, .ref ra8, .ref sa9, .ref ta10])), (wa7, .inl (cZ, 25, .inl wf12)), (ra8, .inl (cI, 25, .inl rf14)), (sa9, .inl (cI, 25, .inl sf15)), (ta10, .inl (cII, 25, .inr (.inr (.inr (.inr (fun i => if i < 25 then some (rr11 i) else none))))))] ++ mt_rw 25 rr11 re16)) hD hS hA [0, 1, 2, 3, 4, 5, 6, 7, 8, 9, 10, 11, 12, 13, 14, 15, 16, 17, 18, 19, 20, 21, 22, 23, 24, 25, 26, 27, 28, 29, 30, 31, 32, 33, 34, 35] rfl
      refine va_calli (va_runV (As := [.int (xs 1), .int (xs 2)]) (rest := []) ⟨hx, hb, hml, hown, hg⟩ (c_mr_room l D cZ cI cJ cII q1 ea6 ca3 fa2 0 cs17 cg18 cto19 cq21 cco22 cnx23 pa4 fa2 ca3 la24 pce26 pse28 ppl29 0 0 0 0 0 da5 dce31 dto33 dle34 (fun _ => 0) (fun _ => 0) fa2 1 1 wa7 1 ra8 sa9 ta10 wf12 rf14 sf15 rr11 re16 (xs 1) (xs 2) H.size hre) (cwV 2 hg gv_lw_13 rfl rfl rfl (by decide +kernel) ⟨Nat.le_of_ble_eq_true rfl, Nat.le_of_ble_eq_true rfl⟩) ⟨mt_bl, va_recv (q0 := 0) (ci := 6) hK hP rfl rfl, mt_pr hX hPc hK hDc⟩ rfl rfl hl.1 rfl (lv_room (Nat.le_of_ble_eq_true rfl)) d_lw_law_103 ⟨Nat.le_of_ble_eq_true rfl, Nat.le_of_ble_eq_true rfl⟩) hS (fun q _ h => hFc q h) hFc (fun r61 u t H1 locs ht hvm hw hB hz1 hk1 hS => ?_)
      obtain ⟨hr61, hwr61⟩ := hw
      have hr61 : (r61 = -1 ∧ ((xs 1) < 1 ∨ 6 < (xs 1) ∨ (xs 2) < 1 ∨ 6 < (xs 2) ∨ ¬ (xs 1) * (xs 2) ≤ 25)) ∨ (r61 = (xs 1) * (xs 2) ∧ ¬ (xs 1) < 1 ∧ ¬ 6 < (xs 1) ∧ ¬ (xs 2) < 1 ∧ ¬ 6 < (xs 2) ∧ (xs 1) * (xs 2) ≤ 25) := hr61
      obtain ⟨hP, hD⟩ := va_join (wr := [(q35, .inr (7, [.int 1, .int 1, .ref nwalls36, .int 0, .ref nstarts37, .ref ngoals38, .ref nlaid39, .ref nisTold40, .int 0, .ref ncells41, .ref nindex42, .ref nnear43, .ref nnearCount44, .ref npay45, .ref ndone46, .ref npile47, .int 0, .ref nnow48, .ref nthen49, .ref nchoice50, .int 0, .int 0, .ref nplan51, .ref ncosts52, .ref npaid53, .ref nafter54, .ref nfar55, .ref nmany56, .ref nnext57, .int 0, .int 0, .int 0, .int 0])), (nwalls36, .inl (cZ, 25, .inl (fun _ => 0))), (nisTold40, .inl (cZ, 180, .inl (fun _ => 0)))]) (w1 := []) hP hD [0, 1, 2, 3, 4, 5, 6, 7, 8, 9, 10, 11, 12, 13, 14, 15, 16, 17, 18, 19, 20, 21, 22, 23, 24, 25, 26, 27, 28, 29, 30, 31, 32, 33, 34, 35] [36, 37, 38] rfl rfl (by decide) (by decide) hk1 hFc mt_P0 mt_D0
      generalize H1 = H at hP hS ⊢
      have hP : va_P D kls [(q35, .inr (7, [.int 1, .int 1, .ref nwalls36, .int 0, .ref nstarts37, .ref ngoals38, .ref nlaid39, .ref nisTold40, .int 0, .ref ncells41, .ref nindex42, .ref nnear43, .ref nnearCount44, .ref npay45, .ref ndone46, .ref npile47, .int 0, .ref nnow48, .ref nthen49, .ref nchoice50, .int 0, .int 0, .ref nplan51, .ref ncosts52, .ref npaid53, .ref nafter54, .ref nfar55, .ref nmany56, .ref nnext57, .int 0, .int 0, .int 0, .int 0])), (nwalls36, .inl (cZ, 25, .inl (fun _ => 0))), (nisTold40, .inl (cZ, 180, .inl (fun _ => 0)))] H := hP
      have hD : va_D A [(q35, .inr (7, [.int 1, .int 1, .ref nwalls36, .int 0, .ref nstarts37, .ref ngoals38, .ref nlaid39, .ref nisTold40, .int 0, .ref ncells41, .ref nindex42, .ref nnear43, .ref nnearCount44, .ref npay45, .ref ndone46, .ref npile47, .int 0, .ref nnow48, .ref nthen49, .ref nchoice50, .int 0, .int 0, .ref nplan51, .ref ncosts52, .ref npaid53, .ref nafter54, .ref nfar55, .ref nmany56, .ref nnext57, .int 0, .int 0, .int 0, .int 0])), (nwalls36, .inl (cZ, 25, .inl (fun _ => 0))), (nisTold40, .inl (cZ, 180, .inl (fun _ => 0)))] := hD
      refine lv_aload_n hx hb d_lw_law_106 rfl (lv_at hl 1 rfl) ?_
      refine lv_aload_n hx hb d_lw_law_107 rfl (lv_at hl 3 rfl) ?_
      refine lv_iload_n hx hb d_lw_law_108 rfl (lv_at hl 0 rfl) ?_
      refine lv_iconst (v := 1) hx hb d_lw_law_109 (by decide) ?_
      refine lv_iadd hx hb d_lw_law_110 ?_
      refine va_sld hx hb hXs hbl hbA hS (by unfold vp_in; decide) d_lw_law_111 ?_
      refine lv_topi (fun y62 ey62 => ?_)
      have ey62 : y62 = xs 1 := ey62
      subst ey62
      refine lv_aload_n hx hb d_lw_law_112 rfl (lv_at hl 3 rfl) ?_
      refine lv_iload_n hx hb d_lw_law_113 rfl (lv_at hl 0 rfl) ?_
      refine lv_iconst (v := 2) hx hb d_lw_law_114 (by decide) ?_
      refine lv_iadd hx hb d_lw_law_115 ?_
      refine va_sld hx hb hXs hbl hbA hS (by unfold vp_in; decide) d_lw_law_116 ?_
      refine lv_topi (fun y63 ey63 => ?_)
      have ey63 : y63 = xs 2 := ey63
      subst ey63
      have hPc := hP
      have hDc := hD
      have hFc := mt_whole hD hS hA
      refine va_calli (va_runV (As := [.int (xs 1), .int (xs 2)]) (rest := [.int r61]) ⟨hx, hb, hml, hown, hg⟩ (c_md_room l D cZ cI cJ cII q35 nwalls36 nstarts37 ngoals38 nlaid39 nisTold40 ncells41 nindex42 nnear43 nnearCount44 npay45 ndone46 npile47 nnow48 nthen49 nchoice50 nplan51 ncosts52 npaid53 nafter54 nfar55 nmany56 nnext57 1 1 0 0 0 0 0 0 0 0 0 (fun _ => 0) (fun _ => 0) (xs 1) (xs 2) H.size ) (cwV 2 hg gv_lw_17 rfl rfl rfl (by decide +kernel) ⟨Nat.le_of_ble_eq_true rfl, Nat.le_of_ble_eq_true rfl⟩) ⟨mt_bl, va_recv (q0 := 0) (ci := 7) hK hP rfl rfl, mt_pr hX hPc hK hDc⟩ rfl rfl hl.1 rfl (lv_room (Nat.le_of_ble_eq_true rfl)) d_lw_law_117 ⟨Nat.le_of_ble_eq_true rfl, Nat.le_of_ble_eq_true rfl⟩) hS (fun q _ h => hFc q h) hFc (fun r64 u t H1 locs ht hvm hw hB hz1 hk1 hS => ?_)
      obtain ⟨hr64, hwr64⟩ := hw
      have hr64 : (r64 = -1 ∧ ((xs 1) < 1 ∨ 6 < (xs 1) ∨ (xs 2) < 1 ∨ 6 < (xs 2) ∨ ¬ (xs 1) * (xs 2) ≤ 25)) ∨ (r64 = (xs 1) * (xs 2) ∧ ¬ (xs 1) < 1 ∧ ¬ 6 < (xs 1) ∧ ¬ (xs 2) < 1 ∧ ¬ 6 < (xs 2) ∧ (xs 1) * (xs 2) ≤ 25) := hr64
      obtain ⟨hP, hD⟩ := va_join (wr := []) (w1 := []) hP hD [0, 1, 2] [] rfl rfl (by decide) (by decide) hk1 hFc mt_P0 mt_D0
      generalize H1 = H at hP hS ⊢
      have hP : va_P D kls [] H := hP
      have hD : va_D A [] := hD
      refine lv_icmp_eq hx hb d_lw_law_120 rfl (fun _ => ?_) (fun h => absurd (mt_two hr61 hr64 (by rintro (p | p | p | p | p) ⟨q1, q2, q3, q4, q5⟩ <;> contradiction)) h)
      refine lv_iinc (k := 0) (v := 4) hx hb d_lw_law_396 hl rfl (by decide) (by decide) rfl (fun ls hl => ?_)
      have hl : lv_has ls 4 [(3, .int 4), (2, .ref q35), (1, .ref q1), (0, .ref b)] := hl
      refine lv_goto hx hb d_lw_law_399 rfl ?_
      refine lv_iload_n hx hb d_lw_law_18 rfl (lv_at hl 0 rfl) ?_
      refine lv_aload_n hx hb d_lw_law_19 rfl (lv_at hl 3 rfl) ?_
      refine va_slen hx hb hXs hbl hbA hS d_lw_law_20 ?_
      refine lv_iconst (v := 4) hx hb d_lw_law_21 (by decide) ?_
      refine lv_isub hx hb d_lw_law_22 ?_
      refine lv_topi (fun y0 e0 => ?_)
      have e0 : y0 = 0 := e0.trans (by decide)
      subst e0
      refine lv_icmp_gt hx hb d_lw_law_23 rfl (fun _ => ?_) (fun h => absurd (by decide) h)
      refine lv_iconst (v := 1) hx hb d_lw_law_402 (by decide) ?_
      refine W.widen (k := 60000) (n := 8922250) (Nat.le_of_ble_eq_true rfl) (Nat.le_of_ble_eq_true rfl) ?_
      refine va_forget (fun q h => hA2 _ (hS.2.2 q h)) ?_
      exact lw_ret hx hb hr hlk d_lw_law_403
    ·
      refine lv_tableIn hx hb d_lw_law_32 (by decide) (by decide) (off := 93) (tgt := 125) rfl rfl ?_
      have hP := hP.sub (ws' := (([(q1, .inr (6, [.ref fa2, .ref ca3, .ref pa4, .ref da5, .ref ea6])), (ca3, .inr (0, [.ref fa2, .int 0, .ref cs17, .ref cg18, .ref cto19, .ref cq21, .ref cco22, .ref cnx23])), (pa4, .inr (4, [.ref fa2, .ref ca3, .ref la24, .ref pce26, .ref pse28, .ref ppl29, .int 0, .int 0, .int 0, .int 0, .int 0])), (fa2, .inr (1, [.int 1, .int 1, .ref wa7, .int 1, .ref ra8, .ref sa9, .ref ta10])), (wa7, .inl (cZ, 25, .inl wf12)), (ra8, .inl (cI, 25, .inl rf14)), (sa9, .inl (cI, 25, .inl sf15)), (ta10, .inl (cII, 25, .inr (.inr (.inr (.inr (fun i => if i < 25 then some (rr11 i) else none))))))] ++ mt_rw 25 rr11 re16) ++ [(q35, .inr (7, [.int 1, .int 1, .ref nwalls36, .int 0, .ref nstarts37, .ref ngoals38, .ref nlaid39, .ref nisTold40, .int 0, .ref ncells41, .ref nindex42, .ref nnear43, .ref nnearCount44, .ref npay45, .ref ndone46, .ref npile47, .int 0, .ref nnow48, .ref nthen49, .ref nchoice50, .int 0, .int 0, .ref nplan51, .ref ncosts52, .ref npaid53, .ref nafter54, .ref nfar55, .ref nmany56, .ref nnext57, .int 0, .int 0, .int 0, .int 0])), (nwalls36, .inl (cZ, 25, .inl (fun _ => 0)))])) [0, 31, 43, 1, 2, 3, 4, 5, 6, 7, 8, 9, 10, 11, 12, 13, 14, 15, 16, 17, 18, 19, 20, 21, 22, 23, 24, 25, 26, 27, 28, 29, 30, 124, 125] rfl
      have hD := hD.sub (ws' := (([(q1, .inr (6, [.ref fa2, .ref ca3, .ref pa4, .ref da5, .ref ea6])), (ca3, .inr (0, [.ref fa2, .int 0, .ref cs17, .ref cg18, .ref cto19, .ref cq21, .ref cco22, .ref cnx23])), (pa4, .inr (4, [.ref fa2, .ref ca3, .ref la24, .ref pce26, .ref pse28, .ref ppl29, .int 0, .int 0, .int 0, .int 0, .int 0])), (fa2, .inr (1, [.int 1, .int 1, .ref wa7, .int 1, .ref ra8, .ref sa9, .ref ta10])), (wa7, .inl (cZ, 25, .inl wf12)), (ra8, .inl (cI, 25, .inl rf14)), (sa9, .inl (cI, 25, .inl sf15)), (ta10, .inl (cII, 25, .inr (.inr (.inr (.inr (fun i => if i < 25 then some (rr11 i) else none))))))] ++ mt_rw 25 rr11 re16) ++ [(q35, .inr (7, [.int 1, .int 1, .ref nwalls36, .int 0, .ref nstarts37, .ref ngoals38, .ref nlaid39, .ref nisTold40, .int 0, .ref ncells41, .ref nindex42, .ref nnear43, .ref nnearCount44, .ref npay45, .ref ndone46, .ref npile47, .int 0, .ref nnow48, .ref nthen49, .ref nchoice50, .int 0, .int 0, .ref nplan51, .ref ncosts52, .ref npaid53, .ref nafter54, .ref nfar55, .ref nmany56, .ref nnext57, .int 0, .int 0, .int 0, .int 0])), (nwalls36, .inl (cZ, 25, .inl (fun _ => 0)))])) [0, 31, 43, 1, 2, 3, 4, 5, 6, 7, 8, 9, 10, 11, 12, 13, 14, 15, 16, 17, 18, 19, 20, 21, 22, 23, 24, 25, 26, 27, 28, 29, 30, 124, 125] (by decide) rfl
      have hP : va_P D kls (([(q1, .inr (6, [.ref fa2, .ref ca3, .ref pa4, .ref da5, .ref ea6])), (ca3, .inr (0, [.ref fa2, .int 0, .ref cs17, .ref cg18, .ref cto19, .ref cq21, .ref cco22, .ref cnx23])), (pa4, .inr (4, [.ref fa2, .ref ca3, .ref la24, .ref pce26, .ref pse28, .ref ppl29, .int 0, .int 0, .int 0, .int 0, .int 0])), (fa2, .inr (1, [.int 1, .int 1, .ref wa7, .int 1, .ref ra8, .ref sa9, .ref ta10])), (wa7, .inl (cZ, 25, .inl wf12)), (ra8, .inl (cI, 25, .inl rf14)), (sa9, .inl (cI, 25, .inl sf15)), (ta10, .inl (cII, 25, .inr (.inr (.inr (.inr (fun i => if i < 25 then some (rr11 i) else none))))))] ++ mt_rw 25 rr11 re16) ++ [(q35, .inr (7, [.int 1, .int 1, .ref nwalls36, .int 0, .ref nstarts37, .ref ngoals38, .ref nlaid39, .ref nisTold40, .int 0, .ref ncells41, .ref nindex42, .ref nnear43, .ref nnearCount44, .ref npay45, .ref ndone46, .ref npile47, .int 0, .ref nnow48, .ref nthen49, .ref nchoice50, .int 0, .int 0, .ref nplan51, .ref ncosts52, .ref npaid53, .ref nafter54, .ref nfar55, .ref nmany56, .ref nnext57, .int 0, .int 0, .int 0, .int 0])), (nwalls36, .inl (cZ, 25, .inl (fun _ => 0)))]) H := hP
      have hD : va_D A (([(q1, .inr (6, [.ref fa2, .ref ca3, .ref pa4, .ref da5, .ref ea6])), (ca3, .inr (0, [.ref fa2, .int 0, .ref cs17, .ref cg18, .ref cto19, .ref cq21, .ref cco22, .ref cnx23])), (pa4, .inr (4, [.ref fa2, .ref ca3, .ref la24, .ref pce26, .ref pse28, .ref ppl29, .int 0, .int 0, .int 0, .int 0, .int 0])), (fa2, .inr (1, [.int 1, .int 1, .ref wa7, .int 1, .ref ra8, .ref sa9, .ref ta10])), (wa7, .inl (cZ, 25, .inl wf12)), (ra8, .inl (cI, 25, .inl rf14)), (sa9, .inl (cI, 25, .inl sf15)), (ta10, .inl (cII, 25, .inr (.inr (.inr (.inr (fun i => if i < 25 then some (rr11 i) else none))))))] ++ mt_rw 25 rr11 re16) ++ [(q35, .inr (7, [.int 1, .int 1, .ref nwalls36, .int 0, .ref nstarts37, .ref ngoals38, .ref nlaid39, .ref nisTold40, .int 0, .ref ncells41, .ref nindex42, .ref nnear43, .ref nnearCount44, .ref npay45, .ref ndone46, .ref npile47, .int 0, .ref nnow48, .ref nthen49, .ref nchoice50, .int 0, .int 0, .ref nplan51, .ref ncosts52, .ref npaid53, .ref nafter54, .ref nfar55, .ref nmany56, .ref nnext57, .int 0, .int 0, .int 0, .int 0])), (nwalls36, .inl (cZ, 25, .inl (fun _ => 0)))]) := hD
      refine lv_aload_n hx hb d_lw_law_125 rfl (lv_at hl 2 rfl) ?_
      refine lv_aload_n hx hb d_lw_law_126 rfl (lv_at hl 3 rfl) ?_
      refine lv_iload_n hx hb d_lw_law_127 rfl (lv_at hl 0 rfl) ?_
      refine lv_iconst (v := 1) hx hb d_lw_law_128 (by decide) ?_
      refine lv_iadd hx hb d_lw_law_129 ?_
      refine va_sld hx hb hXs hbl hbA hS (by unfold vp_in; decide) d_lw_law_130 ?_
      refine lv_topi (fun y65 ey65 => ?_)
      have ey65 : y65 = xs 1 := ey65
      subst ey65
      have hPc := hP.sub (ws' := ([(q1, .inr (6, [.ref fa2, .ref ca3, .ref pa4, .ref da5, .ref ea6])), (ca3, .inr (0, [.ref fa2, .int 0, .ref cs17, .ref cg18, .ref cto19, .ref cq21, .ref cco22, .ref cnx23])), (pa4, .inr (4, [.ref fa2, .ref ca3, .ref la24, .ref pce26, .ref pse28, .ref ppl29, .int 0, .int 0, .int 0, .int 0, .int 0])), (fa2, .inr (1, [.int 1, .int 1, .ref wa7, .int 1, .ref ra8, .ref sa9, .ref ta10])), (wa7, .inl (cZ, 25, .inl wf12)), (ra8, .inl (cI, 25, .inl rf14)), (sa9, .inl (cI, 25, .inl sf15)), (ta10, .inl (cII, 25, .inr (.inr (.inr (.inr (fun i => if i < 25 then some (rr11 i) else none))))))] ++ mt_rw 25 rr11 re16)) [0, 1, 2, 3, 4, 5, 6, 7, 8, 9, 10, 11, 12, 13, 14, 15, 16, 17, 18, 19, 20, 21, 22, 23, 24, 25, 26, 27, 28, 29, 30, 31, 32] rfl
      have hDc := hD.sub (ws' := ([(q1, .inr (6, [.ref fa2, .ref ca3, .ref pa4, .ref da5, .ref ea6])), (ca3, .inr (0, [.ref fa2, .int 0, .ref cs17, .ref cg18, .ref cto19, .ref cq21, .ref cco22, .ref cnx23])), (pa4, .inr (4, [.ref fa2, .ref ca3, .ref la24, .ref pce26, .ref pse28, .ref ppl29, .int 0, .int 0, .int 0, .int 0, .int 0])), (fa2, .inr (1, [.int 1, .int 1, .ref wa7, .int 1, .ref ra8, .ref sa9, .ref ta10])), (wa7, .inl (cZ, 25, .inl wf12)), (ra8, .inl (cI, 25, .inl rf14)), (sa9, .inl (cI, 25, .inl sf15)), (ta10, .inl (cII, 25, .inr (.inr (.inr (.inr (fun i => if i < 25 then some (rr11 i) else none))))))] ++ mt_rw 25 rr11 re16)) [0, 1, 2, 3, 4, 5, 6, 7, 8, 9, 10, 11, 12, 13, 14, 15, 16, 17, 18, 19, 20, 21, 22, 23, 24, 25, 26, 27, 28, 29, 30, 31, 32] (by decide) rfl
      have hFc := va_free (wc := ([(q1, .inr (6, [.ref fa2, .ref ca3, .ref pa4, .ref da5, .ref ea6])), (ca3, .inr (0, [.ref fa2, .int 0, .ref cs17, .ref cg18, .ref cto19, .ref cq21, .ref cco22, .ref cnx23])), (pa4, .inr (4, [.ref fa2, .ref ca3, .ref la24, .ref pce26, .ref pse28, .ref ppl29, .int 0, .int 0, .int 0, .int 0, .int 0])), (fa2, .inr (1, [.int 1, .int 1, .ref wa7, .int 1, .ref ra8, .ref sa9, .ref ta10])), (wa7, .inl (cZ, 25, .inl wf12)), (ra8, .inl (cI, 25, .inl rf14)), (sa9, .inl (cI, 25, .inl sf15)), (ta10, .inl (cII, 25, .inr (.inr (.inr (.inr (fun i => if i < 25 then some (rr11 i) else none))))))] ++ mt_rw 25 rr11 re16)) hD hS hA [0, 1, 2, 3, 4, 5, 6, 7, 8, 9, 10, 11, 12, 13, 14, 15, 16, 17, 18, 19, 20, 21, 22, 23, 24, 25, 26, 27, 28, 29, 30, 31, 32] rfl
      refine va_calli (va_runV (As := [.int (xs 1)]) (rest := []) ⟨hx, hb, hml, hown, hg⟩ (c_mr_wall l D cZ cI cJ cII q1 da5 ea6 ca3 fa2 0 cs17 cg18 cto19 cq21 cco22 cnx23 pa4 fa2 ca3 la24 pce26 pse28 ppl29 0 0 0 0 0 fa2 wa7 1 ra8 sa9 ta10 wf12 rf14 sf15 rr11 re16 (xs 1) H.size (hwf 0 (by omega)) hre) (cwV 1 hg gv_lw_18 rfl rfl rfl (by decide +kernel) ⟨Nat.le_of_ble_eq_true rfl, Nat.le_of_ble_eq_true rfl⟩) ⟨mt_bl, va_recv (q0 := 0) (ci := 6) hK hP rfl rfl, mt_pr hX hPc hK hDc⟩ rfl rfl hl.1 rfl (lv_room (Nat.le_of_ble_eq_true rfl)) d_lw_law_131 ⟨Nat.le_of_ble_eq_true rfl, Nat.le_of_ble_eq_true rfl⟩) hS (fun q _ h => hFc q h) hFc (fun r66 u t H1 locs ht hvm hw hB hz1 hk1 hS => ?_)
      obtain ⟨hr66, hwr66⟩ := hw
      have hr66 : (r66 = -1 ∧ ((xs 1) < 0 ∨ (1 : Int32) * 1 ≤ (xs 1))) ∨ (r66 = 1 ∧ ¬ (xs 1) < 0 ∧ ¬ (1 : Int32) * 1 ≤ (xs 1)) := hr66
      obtain ⟨hP, hD⟩ := va_join (wr := [(q35, .inr (7, [.int 1, .int 1, .ref nwalls36, .int 0, .ref nstarts37, .ref ngoals38, .ref nlaid39, .ref nisTold40, .int 0, .ref ncells41, .ref nindex42, .ref nnear43, .ref nnearCount44, .ref npay45, .ref ndone46, .ref npile47, .int 0, .ref nnow48, .ref nthen49, .ref nchoice50, .int 0, .int 0, .ref nplan51, .ref ncosts52, .ref npaid53, .ref nafter54, .ref nfar55, .ref nmany56, .ref nnext57, .int 0, .int 0, .int 0, .int 0])), (nwalls36, .inl (cZ, 25, .inl (fun _ => 0)))]) (w1 := []) hP hD [0, 1, 2, 3, 4, 5, 6, 7, 8, 9, 10, 11, 12, 13, 14, 15, 16, 17, 18, 19, 20, 21, 22, 23, 24, 25, 26, 27, 28, 29, 30, 31, 32] [33, 34] rfl rfl (by decide) (by decide) hk1 hFc mt_P0 mt_D0
      generalize H1 = H at hP hS ⊢
      have hP : va_P D kls [(q35, .inr (7, [.int 1, .int 1, .ref nwalls36, .int 0, .ref nstarts37, .ref ngoals38, .ref nlaid39, .ref nisTold40, .int 0, .ref ncells41, .ref nindex42, .ref nnear43, .ref nnearCount44, .ref npay45, .ref ndone46, .ref npile47, .int 0, .ref nnow48, .ref nthen49, .ref nchoice50, .int 0, .int 0, .ref nplan51, .ref ncosts52, .ref npaid53, .ref nafter54, .ref nfar55, .ref nmany56, .ref nnext57, .int 0, .int 0, .int 0, .int 0])), (nwalls36, .inl (cZ, 25, .inl (fun _ => 0)))] H := hP
      have hD : va_D A [(q35, .inr (7, [.int 1, .int 1, .ref nwalls36, .int 0, .ref nstarts37, .ref ngoals38, .ref nlaid39, .ref nisTold40, .int 0, .ref ncells41, .ref nindex42, .ref nnear43, .ref nnearCount44, .ref npay45, .ref ndone46, .ref npile47, .int 0, .ref nnow48, .ref nthen49, .ref nchoice50, .int 0, .int 0, .ref nplan51, .ref ncosts52, .ref npaid53, .ref nafter54, .ref nfar55, .ref nmany56, .ref nnext57, .int 0, .int 0, .int 0, .int 0])), (nwalls36, .inl (cZ, 25, .inl (fun _ => 0)))] := hD
      refine lv_aload_n hx hb d_lw_law_134 rfl (lv_at hl 1 rfl) ?_
      refine lv_aload_n hx hb d_lw_law_135 rfl (lv_at hl 3 rfl) ?_
      refine lv_iload_n hx hb d_lw_law_136 rfl (lv_at hl 0 rfl) ?_
      refine lv_iconst (v := 1) hx hb d_lw_law_137 (by decide) ?_
      refine lv_iadd hx hb d_lw_law_138 ?_
      refine va_sld hx hb hXs hbl hbA hS (by unfold vp_in; decide) d_lw_law_139 ?_
      refine lv_topi (fun y67 ey67 => ?_)
      have ey67 : y67 = xs 1 := ey67
      subst ey67
      have hPc := hP
      have hDc := hD
      have hFc := mt_whole hD hS hA
      refine va_calli (va_runV (As := [.int (xs 1)]) (rest := [.int r66]) ⟨hx, hb, hml, hown, hg⟩ (c_md_wall l D cZ cI cJ cII q35 nwalls36 nstarts37 ngoals38 nlaid39 nisTold40 ncells41 nindex42 nnear43 nnearCount44 npay45 ndone46 npile47 nnow48 nthen49 nchoice50 nplan51 ncosts52 npaid53 nafter54 nfar55 nmany56 nnext57 0 0 0 0 0 0 0 0 0 (fun _ => 0) (xs 1) H.size rfl) (cwV 1 hg gv_lw_22 rfl rfl rfl (by decide +kernel) ⟨Nat.le_of_ble_eq_true rfl, Nat.le_of_ble_eq_true rfl⟩) ⟨mt_bl, va_recv (q0 := 0) (ci := 7) hK hP rfl rfl, mt_pr hX hPc hK hDc⟩ rfl rfl hl.1 rfl (lv_room (Nat.le_of_ble_eq_true rfl)) d_lw_law_140 ⟨Nat.le_of_ble_eq_true rfl, Nat.le_of_ble_eq_true rfl⟩) hS (fun q _ h => hFc q h) hFc (fun r68 u t H1 locs ht hvm hw hB hz1 hk1 hS => ?_)
      obtain ⟨hr68, hwr68⟩ := hw
      have hr68 : (r68 = -1 ∧ ((xs 1) < 0 ∨ (1 : Int32) * 1 ≤ (xs 1))) ∨ (r68 = 1 ∧ ¬ (xs 1) < 0 ∧ ¬ (1 : Int32) * 1 ≤ (xs 1)) := hr68
      obtain ⟨hP, hD⟩ := va_join (wr := []) (w1 := []) hP hD [0, 1] [] rfl rfl (by decide) (by decide) hk1 hFc mt_P0 mt_D0
      generalize H1 = H at hP hS ⊢
      have hP : va_P D kls [] H := hP
      have hD : va_D A [] := hD
      refine lv_icmp_eq hx hb d_lw_law_143 rfl (fun _ => ?_) (fun h => absurd (mt_two hr66 hr68 (by rintro (p | p) ⟨q1, q2⟩ <;> contradiction)) h)
      refine lv_iinc (k := 0) (v := 4) hx hb d_lw_law_396 hl rfl (by decide) (by decide) rfl (fun ls hl => ?_)
      have hl : lv_has ls 4 [(3, .int 4), (2, .ref q35), (1, .ref q1), (0, .ref b)] := hl
      refine lv_goto hx hb d_lw_law_399 rfl ?_
      refine lv_iload_n hx hb d_lw_law_18 rfl (lv_at hl 0 rfl) ?_
      refine lv_aload_n hx hb d_lw_law_19 rfl (lv_at hl 3 rfl) ?_
      refine va_slen hx hb hXs hbl hbA hS d_lw_law_20 ?_
      refine lv_iconst (v := 4) hx hb d_lw_law_21 (by decide) ?_
      refine lv_isub hx hb d_lw_law_22 ?_
      refine lv_topi (fun y0 e0 => ?_)
      have e0 : y0 = 0 := e0.trans (by decide)
      subst e0
      refine lv_icmp_gt hx hb d_lw_law_23 rfl (fun _ => ?_) (fun h => absurd (by decide) h)
      refine lv_iconst (v := 1) hx hb d_lw_law_402 (by decide) ?_
      refine W.widen (k := 60000) (n := 8922250) (Nat.le_of_ble_eq_true rfl) (Nat.le_of_ble_eq_true rfl) ?_
      refine va_forget (fun q h => hA2 _ (hS.2.2 q h)) ?_
      exact lw_ret hx hb hr hlk d_lw_law_403
    ·
      refine lv_tableIn hx hb d_lw_law_32 (by decide) (by decide) (off := 116) (tgt := 148) rfl rfl ?_
      have hP := hP.sub (ws' := [(q1, .inr (6, [.ref fa2, .ref ca3, .ref pa4, .ref da5, .ref ea6])), (ca3, .inr (0, [.ref fa2, .int 0, .ref cs17, .ref cg18, .ref cto19, .ref cq21, .ref cco22, .ref cnx23])), (pa4, .inr (4, [.ref fa2, .ref ca3, .ref la24, .ref pce26, .ref pse28, .ref ppl29, .int 0, .int 0, .int 0, .int 0, .int 0])), (fa2, .inr (1, [.int 1, .int 1, .ref wa7, .int 1, .ref ra8, .ref sa9, .ref ta10])), (wa7, .inl (cZ, 25, .inl wf12)), (cs17, .inl (cI, 5, .inl (fun _ => 0))), (cg18, .inl (cI, 5, .inl (fun _ => 0))), (cto19, .inl (cII, 5, .inr (.inr (.inr (.inr (fun i => if i < 5 then some (rg20 i) else none)))))), (cq21, .inl (cI, 25, .inl (fun _ => 0))), (sa9, .inl (cI, 25, .inl sf15)), (ta10, .inl (cII, 25, .inr (.inr (.inr (.inr (fun i => if i < 25 then some (rr11 i) else none)))))), (rr11 0, re16 0), (rg20 0, .inl (cI, 25, .inl (fun _ => 0))), (q35, .inr (7, [.int 1, .int 1, .ref nwalls36, .int 0, .ref nstarts37, .ref ngoals38, .ref nlaid39, .ref nisTold40, .int 0, .ref ncells41, .ref nindex42, .ref nnear43, .ref nnearCount44, .ref npay45, .ref ndone46, .ref npile47, .int 0, .ref nnow48, .ref nthen49, .ref nchoice50, .int 0, .int 0, .ref nplan51, .ref ncosts52, .ref npaid53, .ref nafter54, .ref nfar55, .ref nmany56, .ref nnext57, .int 0, .int 0, .int 0, .int 0])), (nwalls36, .inl (cZ, 25, .inl (fun _ => 0))), (nstarts37, .inl (cI, 25, .inl (fun _ => 0))), (ngoals38, .inl (cI, 25, .inl (fun _ => 0)))]) [0, 31, 43, 1, 2, 32, 33, 34, 40, 4, 5, 6, 35, 124, 125, 126, 127] rfl
      have hD := hD.sub (ws' := [(q1, .inr (6, [.ref fa2, .ref ca3, .ref pa4, .ref da5, .ref ea6])), (ca3, .inr (0, [.ref fa2, .int 0, .ref cs17, .ref cg18, .ref cto19, .ref cq21, .ref cco22, .ref cnx23])), (pa4, .inr (4, [.ref fa2, .ref ca3, .ref la24, .ref pce26, .ref pse28, .ref ppl29, .int 0, .int 0, .int 0, .int 0, .int 0])), (fa2, .inr (1, [.int 1, .int 1, .ref wa7, .int 1, .ref ra8, .ref sa9, .ref ta10])), (wa7, .inl (cZ, 25, .inl wf12)), (cs17, .inl (cI, 5, .inl (fun _ => 0))), (cg18, .inl (cI, 5, .inl (fun _ => 0))), (cto19, .inl (cII, 5, .inr (.inr (.inr (.inr (fun i => if i < 5 then some (rg20 i) else none)))))), (cq21, .inl (cI, 25, .inl (fun _ => 0))), (sa9, .inl (cI, 25, .inl sf15)), (ta10, .inl (cII, 25, .inr (.inr (.inr (.inr (fun i => if i < 25 then some (rr11 i) else none)))))), (rr11 0, re16 0), (rg20 0, .inl (cI, 25, .inl (fun _ => 0))), (q35, .inr (7, [.int 1, .int 1, .ref nwalls36, .int 0, .ref nstarts37, .ref ngoals38, .ref nlaid39, .ref nisTold40, .int 0, .ref ncells41, .ref nindex42, .ref nnear43, .ref nnearCount44, .ref npay45, .ref ndone46, .ref npile47, .int 0, .ref nnow48, .ref nthen49, .ref nchoice50, .int 0, .int 0, .ref nplan51, .ref ncosts52, .ref npaid53, .ref nafter54, .ref nfar55, .ref nmany56, .ref nnext57, .int 0, .int 0, .int 0, .int 0])), (nwalls36, .inl (cZ, 25, .inl (fun _ => 0))), (nstarts37, .inl (cI, 25, .inl (fun _ => 0))), (ngoals38, .inl (cI, 25, .inl (fun _ => 0)))]) [0, 31, 43, 1, 2, 32, 33, 34, 40, 4, 5, 6, 35, 124, 125, 126, 127] (by decide) rfl
      rw [hf9] at hP hD
      have hP : va_P D kls [(q1, .inr (6, [.ref fa2, .ref ca3, .ref pa4, .ref da5, .ref ea6])), (ca3, .inr (0, [.ref fa2, .int 0, .ref cs17, .ref cg18, .ref cto19, .ref cq21, .ref cco22, .ref cnx23])), (pa4, .inr (4, [.ref fa2, .ref ca3, .ref la24, .ref pce26, .ref pse28, .ref ppl29, .int 0, .int 0, .int 0, .int 0, .int 0])), (fa2, .inr (1, [.int 1, .int 1, .ref wa7, .int 1, .ref ra8, .ref sa9, .ref ta10])), (wa7, .inl (cZ, 25, .inl wf12)), (cs17, .inl (cI, 5, .inl (fun _ => 0))), (cg18, .inl (cI, 5, .inl (fun _ => 0))), (cto19, .inl (cII, 5, .inr (.inr (.inr (.inr (fun i => if i < 5 then some (rg20 i) else none)))))), (cq21, .inl (cI, 25, .inl (fun _ => 0))), (sa9, .inl (cI, 25, .inl sf15)), (ta10, .inl (cII, 25, .inr (.inr (.inr (.inr (fun i => if i < 25 then some (rr11 i) else none)))))), (rr11 0, .inl (cI, 5, .inl f9)), (rg20 0, .inl (cI, 25, .inl (fun _ => 0))), (q35, .inr (7, [.int 1, .int 1, .ref nwalls36, .int 0, .ref nstarts37, .ref ngoals38, .ref nlaid39, .ref nisTold40, .int 0, .ref ncells41, .ref nindex42, .ref nnear43, .ref nnearCount44, .ref npay45, .ref ndone46, .ref npile47, .int 0, .ref nnow48, .ref nthen49, .ref nchoice50, .int 0, .int 0, .ref nplan51, .ref ncosts52, .ref npaid53, .ref nafter54, .ref nfar55, .ref nmany56, .ref nnext57, .int 0, .int 0, .int 0, .int 0])), (nwalls36, .inl (cZ, 25, .inl (fun _ => 0))), (nstarts37, .inl (cI, 25, .inl (fun _ => 0))), (ngoals38, .inl (cI, 25, .inl (fun _ => 0)))] H := hP
      have hD : va_D A [(q1, .inr (6, [.ref fa2, .ref ca3, .ref pa4, .ref da5, .ref ea6])), (ca3, .inr (0, [.ref fa2, .int 0, .ref cs17, .ref cg18, .ref cto19, .ref cq21, .ref cco22, .ref cnx23])), (pa4, .inr (4, [.ref fa2, .ref ca3, .ref la24, .ref pce26, .ref pse28, .ref ppl29, .int 0, .int 0, .int 0, .int 0, .int 0])), (fa2, .inr (1, [.int 1, .int 1, .ref wa7, .int 1, .ref ra8, .ref sa9, .ref ta10])), (wa7, .inl (cZ, 25, .inl wf12)), (cs17, .inl (cI, 5, .inl (fun _ => 0))), (cg18, .inl (cI, 5, .inl (fun _ => 0))), (cto19, .inl (cII, 5, .inr (.inr (.inr (.inr (fun i => if i < 5 then some (rg20 i) else none)))))), (cq21, .inl (cI, 25, .inl (fun _ => 0))), (sa9, .inl (cI, 25, .inl sf15)), (ta10, .inl (cII, 25, .inr (.inr (.inr (.inr (fun i => if i < 25 then some (rr11 i) else none)))))), (rr11 0, .inl (cI, 5, .inl f9)), (rg20 0, .inl (cI, 25, .inl (fun _ => 0))), (q35, .inr (7, [.int 1, .int 1, .ref nwalls36, .int 0, .ref nstarts37, .ref ngoals38, .ref nlaid39, .ref nisTold40, .int 0, .ref ncells41, .ref nindex42, .ref nnear43, .ref nnearCount44, .ref npay45, .ref ndone46, .ref npile47, .int 0, .ref nnow48, .ref nthen49, .ref nchoice50, .int 0, .int 0, .ref nplan51, .ref ncosts52, .ref npaid53, .ref nafter54, .ref nfar55, .ref nmany56, .ref nnext57, .int 0, .int 0, .int 0, .int 0])), (nwalls36, .inl (cZ, 25, .inl (fun _ => 0))), (nstarts37, .inl (cI, 25, .inl (fun _ => 0))), (ngoals38, .inl (cI, 25, .inl (fun _ => 0)))] := hD
      refine lv_aload_n hx hb d_lw_law_148 rfl (lv_at hl 2 rfl) ?_
      refine lv_aload_n hx hb d_lw_law_149 rfl (lv_at hl 3 rfl) ?_
      refine lv_iload_n hx hb d_lw_law_150 rfl (lv_at hl 0 rfl) ?_
      refine lv_iconst (v := 1) hx hb d_lw_law_151 (by decide) ?_
      refine lv_iadd hx hb d_lw_law_152 ?_
      refine va_sld hx hb hXs hbl hbA hS (by unfold vp_in; decide) d_lw_law_153 ?_
      refine lv_topi (fun y69 ey69 => ?_)
      have ey69 : y69 = xs 1 := ey69
      subst ey69
      refine lv_aload_n hx hb d_lw_law_154 rfl (lv_at hl 3 rfl) ?_
      refine lv_iload_n hx hb d_lw_law_155 rfl (lv_at hl 0 rfl) ?_
      refine lv_iconst (v := 2) hx hb d_lw_law_156 (by decide) ?_
      refine lv_iadd hx hb d_lw_law_157 ?_
      refine va_sld hx hb hXs hbl hbA hS (by unfold vp_in; decide) d_lw_law_158 ?_
      refine lv_topi (fun y70 ey70 => ?_)
      have ey70 : y70 = xs 2 := ey70
      subst ey70
      have hPc := hP.sub (ws' := [(q1, .inr (6, [.ref fa2, .ref ca3, .ref pa4, .ref da5, .ref ea6])), (ca3, .inr (0, [.ref fa2, .int 0, .ref cs17, .ref cg18, .ref cto19, .ref cq21, .ref cco22, .ref cnx23])), (pa4, .inr (4, [.ref fa2, .ref ca3, .ref la24, .ref pce26, .ref pse28, .ref ppl29, .int 0, .int 0, .int 0, .int 0, .int 0])), (fa2, .inr (1, [.int 1, .int 1, .ref wa7, .int 1, .ref ra8, .ref sa9, .ref ta10])), (wa7, .inl (cZ, 25, .inl wf12)), (cs17, .inl (cI, 5, .inl (fun _ => 0))), (cg18, .inl (cI, 5, .inl (fun _ => 0))), (cto19, .inl (cII, 5, .inr (.inr (.inr (.inr (fun i => if i < 5 then some (rg20 i) else none)))))), (cq21, .inl (cI, 25, .inl (fun _ => 0))), (sa9, .inl (cI, 25, .inl sf15)), (ta10, .inl (cII, 25, .inr (.inr (.inr (.inr (fun i => if i < 25 then some (rr11 i) else none)))))), (rr11 0, .inl (cI, 5, .inl f9)), (rg20 0, .inl (cI, 25, .inl (fun _ => 0)))]) [0, 1, 2, 3, 4, 5, 6, 7, 8, 9, 10, 11, 12] rfl
      have hDc := hD.sub (ws' := [(q1, .inr (6, [.ref fa2, .ref ca3, .ref pa4, .ref da5, .ref ea6])), (ca3, .inr (0, [.ref fa2, .int 0, .ref cs17, .ref cg18, .ref cto19, .ref cq21, .ref cco22, .ref cnx23])), (pa4, .inr (4, [.ref fa2, .ref ca3, .ref la24, .ref pce26, .ref pse28, .ref ppl29, .int 0, .int 0, .int 0, .int 0, .int 0])), (fa2, .inr (1, [.int 1, .int 1, .ref wa7, .int 1, .ref ra8, .ref sa9, .ref ta10])), (wa7, .inl (cZ, 25, .inl wf12)), (cs17, .inl (cI, 5, .inl (fun _ => 0))), (cg18, .inl (cI, 5, .inl (fun _ => 0))), (cto19, .inl (cII, 5, .inr (.inr (.inr (.inr (fun i => if i < 5 then some (rg20 i) else none)))))), (cq21, .inl (cI, 25, .inl (fun _ => 0))), (sa9, .inl (cI, 25, .inl sf15)), (ta10, .inl (cII, 25, .inr (.inr (.inr (.inr (fun i => if i < 25 then some (rr11 i) else none)))))), (rr11 0, .inl (cI, 5, .inl f9)), (rg20 0, .inl (cI, 25, .inl (fun _ => 0)))]) [0, 1, 2, 3, 4, 5, 6, 7, 8, 9, 10, 11, 12] (by decide) rfl
      have hFc := va_free (wc := [(q1, .inr (6, [.ref fa2, .ref ca3, .ref pa4, .ref da5, .ref ea6])), (ca3, .inr (0, [.ref fa2, .int 0, .ref cs17, .ref cg18, .ref cto19, .ref cq21, .ref cco22, .ref cnx23])), (pa4, .inr (4, [.ref fa2, .ref ca3, .ref la24, .ref pce26, .ref pse28, .ref ppl29, .int 0, .int 0, .int 0, .int 0, .int 0])), (fa2, .inr (1, [.int 1, .int 1, .ref wa7, .int 1, .ref ra8, .ref sa9, .ref ta10])), (wa7, .inl (cZ, 25, .inl wf12)), (cs17, .inl (cI, 5, .inl (fun _ => 0))), (cg18, .inl (cI, 5, .inl (fun _ => 0))), (cto19, .inl (cII, 5, .inr (.inr (.inr (.inr (fun i => if i < 5 then some (rg20 i) else none)))))), (cq21, .inl (cI, 25, .inl (fun _ => 0))), (sa9, .inl (cI, 25, .inl sf15)), (ta10, .inl (cII, 25, .inr (.inr (.inr (.inr (fun i => if i < 25 then some (rr11 i) else none)))))), (rr11 0, .inl (cI, 5, .inl f9)), (rg20 0, .inl (cI, 25, .inl (fun _ => 0)))]) hD hS hA [0, 1, 2, 3, 4, 5, 6, 7, 8, 9, 10, 11, 12] rfl
      refine va_calli (va_runV (As := [.int (xs 1), .int (xs 2)]) (rest := []) ⟨hx, hb, hml, hown, hg⟩ (c_mr_mover l D cZ cI cJ cII q1 da5 ea6 ca3 cs17 cg18 cto19 cq21 cco22 cnx23 pa4 fa2 ca3 la24 pce26 pse28 ppl29 0 0 0 0 0 fa2 wa7 ra8 sa9 ta10 wf12 (fun _ => 0) (fun _ => 0) rg20 (fun _ => 0) sf15 rr11 f9 (fun _ => 0) (xs 1) (xs 2) H.size (hwf 0 (by omega)) hs0 hf0) (cwV 2 hg gv_lw_23 rfl rfl rfl (by decide +kernel) ⟨Nat.le_of_ble_eq_true rfl, Nat.le_of_ble_eq_true rfl⟩) ⟨mt_bl, va_recv (q0 := 0) (ci := 6) hK hP rfl rfl, mt_pr hX hPc hK hDc⟩ rfl rfl hl.1 rfl (lv_room (Nat.le_of_ble_eq_true rfl)) d_lw_law_159 ⟨Nat.le_of_ble_eq_true rfl, Nat.le_of_ble_eq_true rfl⟩) hS (fun q _ h => hFc q h) hFc (fun r71 u t H1 locs ht hvm hw hB hz1 hk1 hS => ?_)
      obtain ⟨hr71, hwr71⟩ := hw
      have hr71 : (r71 = -1 ∧ ¬ ((xs 1) = 0 ∧ (xs 2) = 0)) ∨ (r71 = 0 ∧ (xs 1) = 0 ∧ (xs 2) = 0) := hr71
      obtain ⟨hP, hD⟩ := va_join (wr := [(q35, .inr (7, [.int 1, .int 1, .ref nwalls36, .int 0, .ref nstarts37, .ref ngoals38, .ref nlaid39, .ref nisTold40, .int 0, .ref ncells41, .ref nindex42, .ref nnear43, .ref nnearCount44, .ref npay45, .ref ndone46, .ref npile47, .int 0, .ref nnow48, .ref nthen49, .ref nchoice50, .int 0, .int 0, .ref nplan51, .ref ncosts52, .ref npaid53, .ref nafter54, .ref nfar55, .ref nmany56, .ref nnext57, .int 0, .int 0, .int 0, .int 0])), (nwalls36, .inl (cZ, 25, .inl (fun _ => 0))), (nstarts37, .inl (cI, 25, .inl (fun _ => 0))), (ngoals38, .inl (cI, 25, .inl (fun _ => 0)))]) (w1 := []) hP hD [0, 1, 2, 3, 4, 5, 6, 7, 8, 9, 10, 11, 12] [13, 14, 15, 16] rfl rfl (by decide) (by decide) hk1 hFc mt_P0 mt_D0
      generalize H1 = H at hP hS ⊢
      have hP : va_P D kls [(q35, .inr (7, [.int 1, .int 1, .ref nwalls36, .int 0, .ref nstarts37, .ref ngoals38, .ref nlaid39, .ref nisTold40, .int 0, .ref ncells41, .ref nindex42, .ref nnear43, .ref nnearCount44, .ref npay45, .ref ndone46, .ref npile47, .int 0, .ref nnow48, .ref nthen49, .ref nchoice50, .int 0, .int 0, .ref nplan51, .ref ncosts52, .ref npaid53, .ref nafter54, .ref nfar55, .ref nmany56, .ref nnext57, .int 0, .int 0, .int 0, .int 0])), (nwalls36, .inl (cZ, 25, .inl (fun _ => 0))), (nstarts37, .inl (cI, 25, .inl (fun _ => 0))), (ngoals38, .inl (cI, 25, .inl (fun _ => 0)))] H := hP
      have hD : va_D A [(q35, .inr (7, [.int 1, .int 1, .ref nwalls36, .int 0, .ref nstarts37, .ref ngoals38, .ref nlaid39, .ref nisTold40, .int 0, .ref ncells41, .ref nindex42, .ref nnear43, .ref nnearCount44, .ref npay45, .ref ndone46, .ref npile47, .int 0, .ref nnow48, .ref nthen49, .ref nchoice50, .int 0, .int 0, .ref nplan51, .ref ncosts52, .ref npaid53, .ref nafter54, .ref nfar55, .ref nmany56, .ref nnext57, .int 0, .int 0, .int 0, .int 0])), (nwalls36, .inl (cZ, 25, .inl (fun _ => 0))), (nstarts37, .inl (cI, 25, .inl (fun _ => 0))), (ngoals38, .inl (cI, 25, .inl (fun _ => 0)))] := hD
      refine lv_aload_n hx hb d_lw_law_162 rfl (lv_at hl 1 rfl) ?_
      refine lv_aload_n hx hb d_lw_law_163 rfl (lv_at hl 3 rfl) ?_
      refine lv_iload_n hx hb d_lw_law_164 rfl (lv_at hl 0 rfl) ?_
      refine lv_iconst (v := 1) hx hb d_lw_law_165 (by decide) ?_
      refine lv_iadd hx hb d_lw_law_166 ?_
      refine va_sld hx hb hXs hbl hbA hS (by unfold vp_in; decide) d_lw_law_167 ?_
      refine lv_topi (fun y72 ey72 => ?_)
      have ey72 : y72 = xs 1 := ey72
      subst ey72
      refine lv_aload_n hx hb d_lw_law_168 rfl (lv_at hl 3 rfl) ?_
      refine lv_iload_n hx hb d_lw_law_169 rfl (lv_at hl 0 rfl) ?_
      refine lv_iconst (v := 2) hx hb d_lw_law_170 (by decide) ?_
      refine lv_iadd hx hb d_lw_law_171 ?_
      refine va_sld hx hb hXs hbl hbA hS (by unfold vp_in; decide) d_lw_law_172 ?_
      refine lv_topi (fun y73 ey73 => ?_)
      have ey73 : y73 = xs 2 := ey73
      subst ey73
      have hPc := hP
      have hDc := hD
      have hFc := mt_whole hD hS hA
      refine va_calli (va_runV (As := [.int (xs 1), .int (xs 2)]) (rest := [.int r71]) ⟨hx, hb, hml, hown, hg⟩ (c_md_mover l D cZ cI cJ cII q35 nwalls36 nstarts37 ngoals38 nlaid39 nisTold40 ncells41 nindex42 nnear43 nnearCount44 npay45 ndone46 npile47 nnow48 nthen49 nchoice50 nplan51 ncosts52 npaid53 nafter54 nfar55 nmany56 nnext57 0 0 0 0 0 0 0 0 (fun _ => 0) (fun _ => 0) (fun _ => 0) (xs 1) (xs 2) H.size rfl) (cwV 2 hg gv_lw_26 rfl rfl rfl (by decide +kernel) ⟨Nat.le_of_ble_eq_true rfl, Nat.le_of_ble_eq_true rfl⟩) ⟨mt_bl, va_recv (q0 := 0) (ci := 7) hK hP rfl rfl, mt_pr hX hPc hK hDc⟩ rfl rfl hl.1 rfl (lv_room (Nat.le_of_ble_eq_true rfl)) d_lw_law_173 ⟨Nat.le_of_ble_eq_true rfl, Nat.le_of_ble_eq_true rfl⟩) hS (fun q _ h => hFc q h) hFc (fun r74 u t H1 locs ht hvm hw hB hz1 hk1 hS => ?_)
      obtain ⟨hr74, hwr74⟩ := hw
      have hr74 : (r74 = -1 ∧ ¬ ((xs 1) = 0 ∧ (xs 2) = 0)) ∨ (r74 = 0 ∧ (xs 1) = 0 ∧ (xs 2) = 0) := hr74
      obtain ⟨hP, hD⟩ := va_join (wr := []) (w1 := []) hP hD [0, 1, 2, 3] [] rfl rfl (by decide) (by decide) hk1 hFc mt_P0 mt_D0
      generalize H1 = H at hP hS ⊢
      have hP : va_P D kls [] H := hP
      have hD : va_D A [] := hD
      refine lv_icmp_eq hx hb d_lw_law_176 rfl (fun _ => ?_) (fun h => absurd (mt_two hr71 hr74 (fun p q => p q)) h)
      refine lv_iinc (k := 0) (v := 4) hx hb d_lw_law_396 hl rfl (by decide) (by decide) rfl (fun ls hl => ?_)
      have hl : lv_has ls 4 [(3, .int 4), (2, .ref q35), (1, .ref q1), (0, .ref b)] := hl
      refine lv_goto hx hb d_lw_law_399 rfl ?_
      refine lv_iload_n hx hb d_lw_law_18 rfl (lv_at hl 0 rfl) ?_
      refine lv_aload_n hx hb d_lw_law_19 rfl (lv_at hl 3 rfl) ?_
      refine va_slen hx hb hXs hbl hbA hS d_lw_law_20 ?_
      refine lv_iconst (v := 4) hx hb d_lw_law_21 (by decide) ?_
      refine lv_isub hx hb d_lw_law_22 ?_
      refine lv_topi (fun y0 e0 => ?_)
      have e0 : y0 = 0 := e0.trans (by decide)
      subst e0
      refine lv_icmp_gt hx hb d_lw_law_23 rfl (fun _ => ?_) (fun h => absurd (by decide) h)
      refine lv_iconst (v := 1) hx hb d_lw_law_402 (by decide) ?_
      refine W.widen (k := 60000) (n := 8922250) (Nat.le_of_ble_eq_true rfl) (Nat.le_of_ble_eq_true rfl) ?_
      refine va_forget (fun q h => hA2 _ (hS.2.2 q h)) ?_
      exact lw_ret hx hb hr hlk d_lw_law_403
    ·
      refine lv_tableIn hx hb d_lw_law_32 (by decide) (by decide) (off := 149) (tgt := 181) rfl rfl ?_
      have hP := hP.sub (ws' := [(q1, .inr (6, [.ref fa2, .ref ca3, .ref pa4, .ref da5, .ref ea6])), (ca3, .inr (0, [.ref fa2, .int 0, .ref cs17, .ref cg18, .ref cto19, .ref cq21, .ref cco22, .ref cnx23])), (pa4, .inr (4, [.ref fa2, .ref ca3, .ref la24, .ref pce26, .ref pse28, .ref ppl29, .int 0, .int 0, .int 0, .int 0, .int 0])), (q35, .inr (7, [.int 1, .int 1, .ref nwalls36, .int 0, .ref nstarts37, .ref ngoals38, .ref nlaid39, .ref nisTold40, .int 0, .ref ncells41, .ref nindex42, .ref nnear43, .ref nnearCount44, .ref npay45, .ref ndone46, .ref npile47, .int 0, .ref nnow48, .ref nthen49, .ref nchoice50, .int 0, .int 0, .ref nplan51, .ref ncosts52, .ref npaid53, .ref nafter54, .ref nfar55, .ref nmany56, .ref nnext57, .int 0, .int 0, .int 0, .int 0]))]) [0, 31, 43, 124] rfl
      have hD := hD.sub (ws' := [(q1, .inr (6, [.ref fa2, .ref ca3, .ref pa4, .ref da5, .ref ea6])), (ca3, .inr (0, [.ref fa2, .int 0, .ref cs17, .ref cg18, .ref cto19, .ref cq21, .ref cco22, .ref cnx23])), (pa4, .inr (4, [.ref fa2, .ref ca3, .ref la24, .ref pce26, .ref pse28, .ref ppl29, .int 0, .int 0, .int 0, .int 0, .int 0])), (q35, .inr (7, [.int 1, .int 1, .ref nwalls36, .int 0, .ref nstarts37, .ref ngoals38, .ref nlaid39, .ref nisTold40, .int 0, .ref ncells41, .ref nindex42, .ref nnear43, .ref nnearCount44, .ref npay45, .ref ndone46, .ref npile47, .int 0, .ref nnow48, .ref nthen49, .ref nchoice50, .int 0, .int 0, .ref nplan51, .ref ncosts52, .ref npaid53, .ref nafter54, .ref nfar55, .ref nmany56, .ref nnext57, .int 0, .int 0, .int 0, .int 0]))]) [0, 31, 43, 124] (by decide) rfl
      have hP : va_P D kls [(q1, .inr (6, [.ref fa2, .ref ca3, .ref pa4, .ref da5, .ref ea6])), (ca3, .inr (0, [.ref fa2, .int 0, .ref cs17, .ref cg18, .ref cto19, .ref cq21, .ref cco22, .ref cnx23])), (pa4, .inr (4, [.ref fa2, .ref ca3, .ref la24, .ref pce26, .ref pse28, .ref ppl29, .int 0, .int 0, .int 0, .int 0, .int 0])), (q35, .inr (7, [.int 1, .int 1, .ref nwalls36, .int 0, .ref nstarts37, .ref ngoals38, .ref nlaid39, .ref nisTold40, .int 0, .ref ncells41, .ref nindex42, .ref nnear43, .ref nnearCount44, .ref npay45, .ref ndone46, .ref npile47, .int 0, .ref nnow48, .ref nthen49, .ref nchoice50, .int 0, .int 0, .ref nplan51, .ref ncosts52, .ref npaid53, .ref nafter54, .ref nfar55, .ref nmany56, .ref nnext57, .int 0, .int 0, .int 0, .int 0]))] H := hP
      have hD : va_D A [(q1, .inr (6, [.ref fa2, .ref ca3, .ref pa4, .ref da5, .ref ea6])), (ca3, .inr (0, [.ref fa2, .int 0, .ref cs17, .ref cg18, .ref cto19, .ref cq21, .ref cco22, .ref cnx23])), (pa4, .inr (4, [.ref fa2, .ref ca3, .ref la24, .ref pce26, .ref pse28, .ref ppl29, .int 0, .int 0, .int 0, .int 0, .int 0])), (q35, .inr (7, [.int 1, .int 1, .ref nwalls36, .int 0, .ref nstarts37, .ref ngoals38, .ref nlaid39, .ref nisTold40, .int 0, .ref ncells41, .ref nindex42, .ref nnear43, .ref nnearCount44, .ref npay45, .ref ndone46, .ref npile47, .int 0, .ref nnow48, .ref nthen49, .ref nchoice50, .int 0, .int 0, .ref nplan51, .ref ncosts52, .ref npaid53, .ref nafter54, .ref nfar55, .ref nmany56, .ref nnext57, .int 0, .int 0, .int 0, .int 0]))] := hD
      refine lv_aload_n hx hb d_lw_law_181 rfl (lv_at hl 2 rfl) ?_
      have hPc := hP.sub (ws' := [(q1, .inr (6, [.ref fa2, .ref ca3, .ref pa4, .ref da5, .ref ea6])), (ca3, .inr (0, [.ref fa2, .int 0, .ref cs17, .ref cg18, .ref cto19, .ref cq21, .ref cco22, .ref cnx23])), (pa4, .inr (4, [.ref fa2, .ref ca3, .ref la24, .ref pce26, .ref pse28, .ref ppl29, .int 0, .int 0, .int 0, .int 0, .int 0]))]) [0, 1, 2] rfl
      have hDc := hD.sub (ws' := [(q1, .inr (6, [.ref fa2, .ref ca3, .ref pa4, .ref da5, .ref ea6])), (ca3, .inr (0, [.ref fa2, .int 0, .ref cs17, .ref cg18, .ref cto19, .ref cq21, .ref cco22, .ref cnx23])), (pa4, .inr (4, [.ref fa2, .ref ca3, .ref la24, .ref pce26, .ref pse28, .ref ppl29, .int 0, .int 0, .int 0, .int 0, .int 0]))]) [0, 1, 2] (by decide) rfl
      have hFc := va_free (wc := [(q1, .inr (6, [.ref fa2, .ref ca3, .ref pa4, .ref da5, .ref ea6])), (ca3, .inr (0, [.ref fa2, .int 0, .ref cs17, .ref cg18, .ref cto19, .ref cq21, .ref cco22, .ref cnx23])), (pa4, .inr (4, [.ref fa2, .ref ca3, .ref la24, .ref pce26, .ref pse28, .ref ppl29, .int 0, .int 0, .int 0, .int 0, .int 0]))]) hD hS hA [0, 1, 2] rfl
      refine va_calli (va_runV (As := []) (rest := []) ⟨hx, hb, hml, hown, hg⟩ (c_mr_clear l D cZ cI cJ cII q1 fa2 da5 ea6 ca3 fa2 cs17 cg18 cto19 cq21 cco22 cnx23 pa4 fa2 ca3 la24 pce26 pse28 ppl29 0 0 0 0 0 H.size ) (cwV 0 hg gv_lw_27 rfl rfl rfl (by decide +kernel) ⟨Nat.le_of_ble_eq_true rfl, Nat.le_of_ble_eq_true rfl⟩) ⟨mt_bl, va_recv (q0 := 0) (ci := 6) hK hP rfl rfl, mt_pr hX hPc hK hDc⟩ rfl rfl hl.1 rfl (lv_room (Nat.le_of_ble_eq_true rfl)) d_lw_law_182 ⟨Nat.le_of_ble_eq_true rfl, Nat.le_of_ble_eq_true rfl⟩) hS (fun q _ h => hFc q h) hFc (fun r75 u t H1 locs ht hvm hw hB hz1 hk1 hS => ?_)
      obtain ⟨hr75, hwr75⟩ := hw
      have hr75 : r75 = 0 := hr75
      obtain ⟨hP, hD⟩ := va_join (wr := [(q35, .inr (7, [.int 1, .int 1, .ref nwalls36, .int 0, .ref nstarts37, .ref ngoals38, .ref nlaid39, .ref nisTold40, .int 0, .ref ncells41, .ref nindex42, .ref nnear43, .ref nnearCount44, .ref npay45, .ref ndone46, .ref npile47, .int 0, .ref nnow48, .ref nthen49, .ref nchoice50, .int 0, .int 0, .ref nplan51, .ref ncosts52, .ref npaid53, .ref nafter54, .ref nfar55, .ref nmany56, .ref nnext57, .int 0, .int 0, .int 0, .int 0]))]) (w1 := []) hP hD [0, 1, 2] [3] rfl rfl (by decide) (by decide) hk1 hFc mt_P0 mt_D0
      generalize H1 = H at hP hS ⊢
      have hP : va_P D kls [(q35, .inr (7, [.int 1, .int 1, .ref nwalls36, .int 0, .ref nstarts37, .ref ngoals38, .ref nlaid39, .ref nisTold40, .int 0, .ref ncells41, .ref nindex42, .ref nnear43, .ref nnearCount44, .ref npay45, .ref ndone46, .ref npile47, .int 0, .ref nnow48, .ref nthen49, .ref nchoice50, .int 0, .int 0, .ref nplan51, .ref ncosts52, .ref npaid53, .ref nafter54, .ref nfar55, .ref nmany56, .ref nnext57, .int 0, .int 0, .int 0, .int 0]))] H := hP
      have hD : va_D A [(q35, .inr (7, [.int 1, .int 1, .ref nwalls36, .int 0, .ref nstarts37, .ref ngoals38, .ref nlaid39, .ref nisTold40, .int 0, .ref ncells41, .ref nindex42, .ref nnear43, .ref nnearCount44, .ref npay45, .ref ndone46, .ref npile47, .int 0, .ref nnow48, .ref nthen49, .ref nchoice50, .int 0, .int 0, .ref nplan51, .ref ncosts52, .ref npaid53, .ref nafter54, .ref nfar55, .ref nmany56, .ref nnext57, .int 0, .int 0, .int 0, .int 0]))] := hD
      have hr75 : r75 = 0 := hr75
      subst hr75
      refine lv_aload_n hx hb d_lw_law_185 rfl (lv_at hl 1 rfl) ?_
      have hPc := hP
      have hDc := hD
      have hFc := mt_whole hD hS hA
      refine va_calli (va_runV (As := []) (rest := [.int 0]) ⟨hx, hb, hml, hown, hg⟩ (c_md_clear l D cZ cI cJ cII q35 nwalls36 nstarts37 ngoals38 nlaid39 nisTold40 ncells41 nindex42 nnear43 nnearCount44 npay45 ndone46 npile47 nnow48 nthen49 nchoice50 nplan51 ncosts52 npaid53 nafter54 nfar55 nmany56 nnext57 1 1 0 0 0 0 0 0 0 0 H.size ) (cwV 0 hg gv_lw_31 rfl rfl rfl (by decide +kernel) ⟨Nat.le_of_ble_eq_true rfl, Nat.le_of_ble_eq_true rfl⟩) ⟨mt_bl, va_recv (q0 := 0) (ci := 7) hK hP rfl rfl, mt_pr hX hPc hK hDc⟩ rfl rfl hl.1 rfl (lv_room (Nat.le_of_ble_eq_true rfl)) d_lw_law_186 ⟨Nat.le_of_ble_eq_true rfl, Nat.le_of_ble_eq_true rfl⟩) hS (fun q _ h => hFc q h) hFc (fun r76 u t H1 locs ht hvm hw hB hz1 hk1 hS => ?_)
      obtain ⟨hr76, hwr76⟩ := hw
      have hr76 : r76 = 0 := hr76
      obtain ⟨hP, hD⟩ := va_join (wr := []) (w1 := []) hP hD [0] [] rfl rfl (by decide) (by decide) hk1 hFc mt_P0 mt_D0
      generalize H1 = H at hP hS ⊢
      have hP : va_P D kls [] H := hP
      have hD : va_D A [] := hD
      have hr76 : r76 = 0 := hr76
      subst hr76
      refine lv_icmp_eq hx hb d_lw_law_189 rfl (fun _ => ?_) (fun h => absurd (by decide) h)
      refine lv_iinc (k := 0) (v := 4) hx hb d_lw_law_396 hl rfl (by decide) (by decide) rfl (fun ls hl => ?_)
      have hl : lv_has ls 4 [(3, .int 4), (2, .ref q35), (1, .ref q1), (0, .ref b)] := hl
      refine lv_goto hx hb d_lw_law_399 rfl ?_
      refine lv_iload_n hx hb d_lw_law_18 rfl (lv_at hl 0 rfl) ?_
      refine lv_aload_n hx hb d_lw_law_19 rfl (lv_at hl 3 rfl) ?_
      refine va_slen hx hb hXs hbl hbA hS d_lw_law_20 ?_
      refine lv_iconst (v := 4) hx hb d_lw_law_21 (by decide) ?_
      refine lv_isub hx hb d_lw_law_22 ?_
      refine lv_topi (fun y0 e0 => ?_)
      have e0 : y0 = 0 := e0.trans (by decide)
      subst e0
      refine lv_icmp_gt hx hb d_lw_law_23 rfl (fun _ => ?_) (fun h => absurd (by decide) h)
      refine lv_iconst (v := 1) hx hb d_lw_law_402 (by decide) ?_
      refine W.widen (k := 60000) (n := 8922250) (Nat.le_of_ble_eq_true rfl) (Nat.le_of_ble_eq_true rfl) ?_
      refine va_forget (fun q h => hA2 _ (hS.2.2 q h)) ?_
      exact lw_ret hx hb hr hlk d_lw_law_403
    ·
      refine lv_tableIn hx hb d_lw_law_32 (by decide) (by decide) (off := 162) (tgt := 194) rfl rfl ?_
      have hP := hP.sub (ws' := [(q1, .inr (6, [.ref fa2, .ref ca3, .ref pa4, .ref da5, .ref ea6])), (ca3, .inr (0, [.ref fa2, .int 0, .ref cs17, .ref cg18, .ref cto19, .ref cq21, .ref cco22, .ref cnx23])), (q35, .inr (7, [.int 1, .int 1, .ref nwalls36, .int 0, .ref nstarts37, .ref ngoals38, .ref nlaid39, .ref nisTold40, .int 0, .ref ncells41, .ref nindex42, .ref nnear43, .ref nnearCount44, .ref npay45, .ref ndone46, .ref npile47, .int 0, .ref nnow48, .ref nthen49, .ref nchoice50, .int 0, .int 0, .ref nplan51, .ref ncosts52, .ref npaid53, .ref nafter54, .ref nfar55, .ref nmany56, .ref nnext57, .int 0, .int 0, .int 0, .int 0]))]) [0, 31, 124] rfl
      have hD := hD.sub (ws' := [(q1, .inr (6, [.ref fa2, .ref ca3, .ref pa4, .ref da5, .ref ea6])), (ca3, .inr (0, [.ref fa2, .int 0, .ref cs17, .ref cg18, .ref cto19, .ref cq21, .ref cco22, .ref cnx23])), (q35, .inr (7, [.int 1, .int 1, .ref nwalls36, .int 0, .ref nstarts37, .ref ngoals38, .ref nlaid39, .ref nisTold40, .int 0, .ref ncells41, .ref nindex42, .ref nnear43, .ref nnearCount44, .ref npay45, .ref ndone46, .ref npile47, .int 0, .ref nnow48, .ref nthen49, .ref nchoice50, .int 0, .int 0, .ref nplan51, .ref ncosts52, .ref npaid53, .ref nafter54, .ref nfar55, .ref nmany56, .ref nnext57, .int 0, .int 0, .int 0, .int 0]))]) [0, 31, 124] (by decide) rfl
      have hP : va_P D kls [(q1, .inr (6, [.ref fa2, .ref ca3, .ref pa4, .ref da5, .ref ea6])), (ca3, .inr (0, [.ref fa2, .int 0, .ref cs17, .ref cg18, .ref cto19, .ref cq21, .ref cco22, .ref cnx23])), (q35, .inr (7, [.int 1, .int 1, .ref nwalls36, .int 0, .ref nstarts37, .ref ngoals38, .ref nlaid39, .ref nisTold40, .int 0, .ref ncells41, .ref nindex42, .ref nnear43, .ref nnearCount44, .ref npay45, .ref ndone46, .ref npile47, .int 0, .ref nnow48, .ref nthen49, .ref nchoice50, .int 0, .int 0, .ref nplan51, .ref ncosts52, .ref npaid53, .ref nafter54, .ref nfar55, .ref nmany56, .ref nnext57, .int 0, .int 0, .int 0, .int 0]))] H := hP
      have hD : va_D A [(q1, .inr (6, [.ref fa2, .ref ca3, .ref pa4, .ref da5, .ref ea6])), (ca3, .inr (0, [.ref fa2, .int 0, .ref cs17, .ref cg18, .ref cto19, .ref cq21, .ref cco22, .ref cnx23])), (q35, .inr (7, [.int 1, .int 1, .ref nwalls36, .int 0, .ref nstarts37, .ref ngoals38, .ref nlaid39, .ref nisTold40, .int 0, .ref ncells41, .ref nindex42, .ref nnear43, .ref nnearCount44, .ref npay45, .ref ndone46, .ref npile47, .int 0, .ref nnow48, .ref nthen49, .ref nchoice50, .int 0, .int 0, .ref nplan51, .ref ncosts52, .ref npaid53, .ref nafter54, .ref nfar55, .ref nmany56, .ref nnext57, .int 0, .int 0, .int 0, .int 0]))] := hD
      refine lv_aload_n hx hb d_lw_law_194 rfl (lv_at hl 2 rfl) ?_
      refine lv_aload_n hx hb d_lw_law_195 rfl (lv_at hl 3 rfl) ?_
      refine lv_iload_n hx hb d_lw_law_196 rfl (lv_at hl 0 rfl) ?_
      refine lv_iconst (v := 1) hx hb d_lw_law_197 (by decide) ?_
      refine lv_iadd hx hb d_lw_law_198 ?_
      refine va_sld hx hb hXs hbl hbA hS (by unfold vp_in; decide) d_lw_law_199 ?_
      refine lv_topi (fun y77 ey77 => ?_)
      have ey77 : y77 = xs 1 := ey77
      subst ey77
      have hPc := hP.sub (ws' := [(q1, .inr (6, [.ref fa2, .ref ca3, .ref pa4, .ref da5, .ref ea6])), (ca3, .inr (0, [.ref fa2, .int 0, .ref cs17, .ref cg18, .ref cto19, .ref cq21, .ref cco22, .ref cnx23]))]) [0, 1] rfl
      have hDc := hD.sub (ws' := [(q1, .inr (6, [.ref fa2, .ref ca3, .ref pa4, .ref da5, .ref ea6])), (ca3, .inr (0, [.ref fa2, .int 0, .ref cs17, .ref cg18, .ref cto19, .ref cq21, .ref cco22, .ref cnx23]))]) [0, 1] (by decide) rfl
      refine vp_callSi (W.runV (As := [.int (xs 1)]) (rest := []) ⟨hx, hb, hml, hown, hg⟩ (c_mr_distance l D cZ cI cJ cII q1 fa2 pa4 da5 ea6 ca3 fa2 cs17 cg18 cto19 cq21 cco22 cnx23 (xs 1) H.size ) (cwV 1 hg gv_lw_32 rfl rfl rfl (by decide +kernel) ⟨Nat.le_of_ble_eq_true rfl, Nat.le_of_ble_eq_true rfl⟩) ⟨mt_bl, va_recv (q0 := 0) (ci := 6) hK hP rfl rfl, mt_pr hX hPc hK hDc⟩ rfl rfl hl.1 rfl (lv_room (Nat.le_of_ble_eq_true rfl)) d_lw_law_200 ⟨Nat.le_of_ble_eq_true rfl, Nat.le_of_ble_eq_true rfl⟩) (fun r78 hr78 => ?_)
      have hr78 : r78 = -1 := hr78
      have hr78 : r78 = (-1) := hr78
      subst hr78
      refine lv_aload_n hx hb d_lw_law_203 rfl (lv_at hl 1 rfl) ?_
      refine lv_aload_n hx hb d_lw_law_204 rfl (lv_at hl 3 rfl) ?_
      refine lv_iload_n hx hb d_lw_law_205 rfl (lv_at hl 0 rfl) ?_
      refine lv_iconst (v := 1) hx hb d_lw_law_206 (by decide) ?_
      refine lv_iadd hx hb d_lw_law_207 ?_
      refine va_sld hx hb hXs hbl hbA hS (by unfold vp_in; decide) d_lw_law_208 ?_
      refine lv_topi (fun y79 ey79 => ?_)
      have ey79 : y79 = xs 1 := ey79
      subst ey79
      have hPc := hP.sub (ws' := [(q35, .inr (7, [.int 1, .int 1, .ref nwalls36, .int 0, .ref nstarts37, .ref ngoals38, .ref nlaid39, .ref nisTold40, .int 0, .ref ncells41, .ref nindex42, .ref nnear43, .ref nnearCount44, .ref npay45, .ref ndone46, .ref npile47, .int 0, .ref nnow48, .ref nthen49, .ref nchoice50, .int 0, .int 0, .ref nplan51, .ref ncosts52, .ref npaid53, .ref nafter54, .ref nfar55, .ref nmany56, .ref nnext57, .int 0, .int 0, .int 0, .int 0]))]) [2] rfl
      have hDc := hD.sub (ws' := [(q35, .inr (7, [.int 1, .int 1, .ref nwalls36, .int 0, .ref nstarts37, .ref ngoals38, .ref nlaid39, .ref nisTold40, .int 0, .ref ncells41, .ref nindex42, .ref nnear43, .ref nnearCount44, .ref npay45, .ref ndone46, .ref npile47, .int 0, .ref nnow48, .ref nthen49, .ref nchoice50, .int 0, .int 0, .ref nplan51, .ref ncosts52, .ref npaid53, .ref nafter54, .ref nfar55, .ref nmany56, .ref nnext57, .int 0, .int 0, .int 0, .int 0]))]) [2] (by decide) rfl
      refine vp_callSi (W.runV (As := [.int (xs 1)]) (rest := [.int (-1)]) ⟨hx, hb, hml, hown, hg⟩ (c_md_distance l D cZ cI cJ cII q35 nwalls36 nstarts37 ngoals38 nlaid39 nisTold40 ncells41 nindex42 nnear43 nnearCount44 npay45 ndone46 npile47 nnow48 nthen49 nchoice50 nplan51 ncosts52 npaid53 nafter54 nfar55 nmany56 nnext57 1 1 0 0 0 0 0 0 0 0 (xs 1) H.size ) (cwV 1 hg gv_lw_35 rfl rfl rfl (by decide +kernel) ⟨Nat.le_of_ble_eq_true rfl, Nat.le_of_ble_eq_true rfl⟩) ⟨mt_bl, va_recv (q0 := 2) (ci := 7) hK hP rfl rfl, mt_pr hX hPc hK hDc⟩ rfl rfl hl.1 rfl (lv_room (Nat.le_of_ble_eq_true rfl)) d_lw_law_209 ⟨Nat.le_of_ble_eq_true rfl, Nat.le_of_ble_eq_true rfl⟩) (fun r80 hr80 => ?_)
      have hr80 : r80 = -1 := hr80
      have hr80 : r80 = (-1) := hr80
      subst hr80
      refine lv_icmp_eq hx hb d_lw_law_212 rfl (fun _ => ?_) (fun h => absurd (by decide) h)
      refine lv_iinc (k := 0) (v := 4) hx hb d_lw_law_396 hl rfl (by decide) (by decide) rfl (fun ls hl => ?_)
      have hl : lv_has ls 4 [(3, .int 4), (2, .ref q35), (1, .ref q1), (0, .ref b)] := hl
      refine lv_goto hx hb d_lw_law_399 rfl ?_
      refine lv_iload_n hx hb d_lw_law_18 rfl (lv_at hl 0 rfl) ?_
      refine lv_aload_n hx hb d_lw_law_19 rfl (lv_at hl 3 rfl) ?_
      refine va_slen hx hb hXs hbl hbA hS d_lw_law_20 ?_
      refine lv_iconst (v := 4) hx hb d_lw_law_21 (by decide) ?_
      refine lv_isub hx hb d_lw_law_22 ?_
      refine lv_topi (fun y0 e0 => ?_)
      have e0 : y0 = 0 := e0.trans (by decide)
      subst e0
      refine lv_icmp_gt hx hb d_lw_law_23 rfl (fun _ => ?_) (fun h => absurd (by decide) h)
      refine lv_iconst (v := 1) hx hb d_lw_law_402 (by decide) ?_
      refine W.widen (k := 60000) (n := 8922250) (Nat.le_of_ble_eq_true rfl) (Nat.le_of_ble_eq_true rfl) ?_
      refine va_forget (fun q h => hA2 _ (hS.2.2 q h)) ?_
      exact lw_ret hx hb hr hlk d_lw_law_403
    ·
      refine lv_tableIn hx hb d_lw_law_32 (by decide) (by decide) (off := 185) (tgt := 217) rfl rfl ?_
      have hP := hP.sub (ws' := [(q1, .inr (6, [.ref fa2, .ref ca3, .ref pa4, .ref da5, .ref ea6])), (ca3, .inr (0, [.ref fa2, .int 0, .ref cs17, .ref cg18, .ref cto19, .ref cq21, .ref cco22, .ref cnx23])), (q35, .inr (7, [.int 1, .int 1, .ref nwalls36, .int 0, .ref nstarts37, .ref ngoals38, .ref nlaid39, .ref nisTold40, .int 0, .ref ncells41, .ref nindex42, .ref nnear43, .ref nnearCount44, .ref npay45, .ref ndone46, .ref npile47, .int 0, .ref nnow48, .ref nthen49, .ref nchoice50, .int 0, .int 0, .ref nplan51, .ref ncosts52, .ref npaid53, .ref nafter54, .ref nfar55, .ref nmany56, .ref nnext57, .int 0, .int 0, .int 0, .int 0]))]) [0, 31, 124] rfl
      have hD := hD.sub (ws' := [(q1, .inr (6, [.ref fa2, .ref ca3, .ref pa4, .ref da5, .ref ea6])), (ca3, .inr (0, [.ref fa2, .int 0, .ref cs17, .ref cg18, .ref cto19, .ref cq21, .ref cco22, .ref cnx23])), (q35, .inr (7, [.int 1, .int 1, .ref nwalls36, .int 0, .ref nstarts37, .ref ngoals38, .ref nlaid39, .ref nisTold40, .int 0, .ref ncells41, .ref nindex42, .ref nnear43, .ref nnearCount44, .ref npay45, .ref ndone46, .ref npile47, .int 0, .ref nnow48, .ref nthen49, .ref nchoice50, .int 0, .int 0, .ref nplan51, .ref ncosts52, .ref npaid53, .ref nafter54, .ref nfar55, .ref nmany56, .ref nnext57, .int 0, .int 0, .int 0, .int 0]))]) [0, 31, 124] (by decide) rfl
      have hP : va_P D kls [(q1, .inr (6, [.ref fa2, .ref ca3, .ref pa4, .ref da5, .ref ea6])), (ca3, .inr (0, [.ref fa2, .int 0, .ref cs17, .ref cg18, .ref cto19, .ref cq21, .ref cco22, .ref cnx23])), (q35, .inr (7, [.int 1, .int 1, .ref nwalls36, .int 0, .ref nstarts37, .ref ngoals38, .ref nlaid39, .ref nisTold40, .int 0, .ref ncells41, .ref nindex42, .ref nnear43, .ref nnearCount44, .ref npay45, .ref ndone46, .ref npile47, .int 0, .ref nnow48, .ref nthen49, .ref nchoice50, .int 0, .int 0, .ref nplan51, .ref ncosts52, .ref npaid53, .ref nafter54, .ref nfar55, .ref nmany56, .ref nnext57, .int 0, .int 0, .int 0, .int 0]))] H := hP
      have hD : va_D A [(q1, .inr (6, [.ref fa2, .ref ca3, .ref pa4, .ref da5, .ref ea6])), (ca3, .inr (0, [.ref fa2, .int 0, .ref cs17, .ref cg18, .ref cto19, .ref cq21, .ref cco22, .ref cnx23])), (q35, .inr (7, [.int 1, .int 1, .ref nwalls36, .int 0, .ref nstarts37, .ref ngoals38, .ref nlaid39, .ref nisTold40, .int 0, .ref ncells41, .ref nindex42, .ref nnear43, .ref nnearCount44, .ref npay45, .ref ndone46, .ref npile47, .int 0, .ref nnow48, .ref nthen49, .ref nchoice50, .int 0, .int 0, .ref nplan51, .ref ncosts52, .ref npaid53, .ref nafter54, .ref nfar55, .ref nmany56, .ref nnext57, .int 0, .int 0, .int 0, .int 0]))] := hD
      refine lv_aload_n hx hb d_lw_law_217 rfl (lv_at hl 2 rfl) ?_
      refine lv_aload_n hx hb d_lw_law_218 rfl (lv_at hl 3 rfl) ?_
      refine lv_iload_n hx hb d_lw_law_219 rfl (lv_at hl 0 rfl) ?_
      refine lv_iconst (v := 1) hx hb d_lw_law_220 (by decide) ?_
      refine lv_iadd hx hb d_lw_law_221 ?_
      refine va_sld hx hb hXs hbl hbA hS (by unfold vp_in; decide) d_lw_law_222 ?_
      refine lv_topi (fun y81 ey81 => ?_)
      have ey81 : y81 = xs 1 := ey81
      subst ey81
      refine lv_aload_n hx hb d_lw_law_223 rfl (lv_at hl 3 rfl) ?_
      refine lv_iload_n hx hb d_lw_law_224 rfl (lv_at hl 0 rfl) ?_
      refine lv_iconst (v := 2) hx hb d_lw_law_225 (by decide) ?_
      refine lv_iadd hx hb d_lw_law_226 ?_
      refine va_sld hx hb hXs hbl hbA hS (by unfold vp_in; decide) d_lw_law_227 ?_
      refine lv_topi (fun y82 ey82 => ?_)
      have ey82 : y82 = xs 2 := ey82
      subst ey82
      have hPc := hP.sub (ws' := [(q1, .inr (6, [.ref fa2, .ref ca3, .ref pa4, .ref da5, .ref ea6])), (ca3, .inr (0, [.ref fa2, .int 0, .ref cs17, .ref cg18, .ref cto19, .ref cq21, .ref cco22, .ref cnx23]))]) [0, 1] rfl
      have hDc := hD.sub (ws' := [(q1, .inr (6, [.ref fa2, .ref ca3, .ref pa4, .ref da5, .ref ea6])), (ca3, .inr (0, [.ref fa2, .int 0, .ref cs17, .ref cg18, .ref cto19, .ref cq21, .ref cco22, .ref cnx23]))]) [0, 1] (by decide) rfl
      refine vp_callSl (W.runV (As := [.int (xs 1), .int (xs 2)]) (rest := []) ⟨hx, hb, hml, hown, hg⟩ (c_mr_ways l D cZ cI cJ cII q1 fa2 pa4 da5 ea6 ca3 fa2 cs17 cg18 cto19 cq21 cco22 cnx23 (xs 1) (xs 2) H.size ) (cwV 2 hg gv_lw_36 rfl rfl rfl (by decide +kernel) ⟨Nat.le_of_ble_eq_true rfl, Nat.le_of_ble_eq_true rfl⟩) ⟨mt_bl, va_recv (q0 := 0) (ci := 6) hK hP rfl rfl, mt_pr hX hPc hK hDc⟩ rfl rfl hl.1 rfl (lv_room (Nat.le_of_ble_eq_true rfl)) d_lw_law_228 ⟨Nat.le_of_ble_eq_true rfl, Nat.le_of_ble_eq_true rfl⟩) (fun r83 hr83 => ?_)
      have hr83 : r83 = -1 := hr83
      have hr83 : r83 = (-1) := hr83
      subst hr83
      refine lv_aload_n hx hb d_lw_law_231 rfl (lv_at hl 1 rfl) ?_
      refine lv_aload_n hx hb d_lw_law_232 rfl (lv_at hl 3 rfl) ?_
      refine lv_iload_n hx hb d_lw_law_233 rfl (lv_at hl 0 rfl) ?_
      refine lv_iconst (v := 1) hx hb d_lw_law_234 (by decide) ?_
      refine lv_iadd hx hb d_lw_law_235 ?_
      refine va_sld hx hb hXs hbl hbA hS (by unfold vp_in; decide) d_lw_law_236 ?_
      refine lv_topi (fun y84 ey84 => ?_)
      have ey84 : y84 = xs 1 := ey84
      subst ey84
      refine lv_aload_n hx hb d_lw_law_237 rfl (lv_at hl 3 rfl) ?_
      refine lv_iload_n hx hb d_lw_law_238 rfl (lv_at hl 0 rfl) ?_
      refine lv_iconst (v := 2) hx hb d_lw_law_239 (by decide) ?_
      refine lv_iadd hx hb d_lw_law_240 ?_
      refine va_sld hx hb hXs hbl hbA hS (by unfold vp_in; decide) d_lw_law_241 ?_
      refine lv_topi (fun y85 ey85 => ?_)
      have ey85 : y85 = xs 2 := ey85
      subst ey85
      have hPc := hP.sub (ws' := [(q35, .inr (7, [.int 1, .int 1, .ref nwalls36, .int 0, .ref nstarts37, .ref ngoals38, .ref nlaid39, .ref nisTold40, .int 0, .ref ncells41, .ref nindex42, .ref nnear43, .ref nnearCount44, .ref npay45, .ref ndone46, .ref npile47, .int 0, .ref nnow48, .ref nthen49, .ref nchoice50, .int 0, .int 0, .ref nplan51, .ref ncosts52, .ref npaid53, .ref nafter54, .ref nfar55, .ref nmany56, .ref nnext57, .int 0, .int 0, .int 0, .int 0]))]) [2] rfl
      have hDc := hD.sub (ws' := [(q35, .inr (7, [.int 1, .int 1, .ref nwalls36, .int 0, .ref nstarts37, .ref ngoals38, .ref nlaid39, .ref nisTold40, .int 0, .ref ncells41, .ref nindex42, .ref nnear43, .ref nnearCount44, .ref npay45, .ref ndone46, .ref npile47, .int 0, .ref nnow48, .ref nthen49, .ref nchoice50, .int 0, .int 0, .ref nplan51, .ref ncosts52, .ref npaid53, .ref nafter54, .ref nfar55, .ref nmany56, .ref nnext57, .int 0, .int 0, .int 0, .int 0]))]) [2] (by decide) rfl
      refine vp_callSl (W.runV (As := [.int (xs 1), .int (xs 2)]) (rest := [.long (-1)]) ⟨hx, hb, hml, hown, hg⟩ (c_md_ways l D cZ cI cJ cII q35 nwalls36 nstarts37 ngoals38 nlaid39 nisTold40 ncells41 nindex42 nnear43 nnearCount44 npay45 ndone46 npile47 nnow48 nthen49 nchoice50 nplan51 ncosts52 npaid53 nafter54 nfar55 nmany56 nnext57 1 1 0 0 0 0 0 0 0 0 (xs 1) (xs 2) H.size ) (cwV 2 hg gv_lw_40 rfl rfl rfl (by decide +kernel) ⟨Nat.le_of_ble_eq_true rfl, Nat.le_of_ble_eq_true rfl⟩) ⟨mt_bl, va_recv (q0 := 2) (ci := 7) hK hP rfl rfl, mt_pr hX hPc hK hDc⟩ rfl rfl hl.1 rfl (lv_room (Nat.le_of_ble_eq_true rfl)) d_lw_law_242 ⟨Nat.le_of_ble_eq_true rfl, Nat.le_of_ble_eq_true rfl⟩) (fun r86 hr86 => ?_)
      have hr86 : r86 = -1 := hr86
      have hr86 : r86 = (-1) := hr86
      subst hr86
      refine W.lcmp hx hb d_lw_law_245 ?_
      refine lv_topi (fun y0 e0 => ?_)
      have e0 : y0 = 0 := e0.trans (by decide)
      subst e0
      refine lv_if_eq hx hb d_lw_law_246 rfl (fun _ => ?_) (fun h => absurd (by decide) h)
      refine lv_iinc (k := 0) (v := 4) hx hb d_lw_law_396 hl rfl (by decide) (by decide) rfl (fun ls hl => ?_)
      have hl : lv_has ls 4 [(3, .int 4), (2, .ref q35), (1, .ref q1), (0, .ref b)] := hl
      refine lv_goto hx hb d_lw_law_399 rfl ?_
      refine lv_iload_n hx hb d_lw_law_18 rfl (lv_at hl 0 rfl) ?_
      refine lv_aload_n hx hb d_lw_law_19 rfl (lv_at hl 3 rfl) ?_
      refine va_slen hx hb hXs hbl hbA hS d_lw_law_20 ?_
      refine lv_iconst (v := 4) hx hb d_lw_law_21 (by decide) ?_
      refine lv_isub hx hb d_lw_law_22 ?_
      refine lv_topi (fun y0 e0 => ?_)
      have e0 : y0 = 0 := e0.trans (by decide)
      subst e0
      refine lv_icmp_gt hx hb d_lw_law_23 rfl (fun _ => ?_) (fun h => absurd (by decide) h)
      refine lv_iconst (v := 1) hx hb d_lw_law_402 (by decide) ?_
      refine W.widen (k := 60000) (n := 8922250) (Nat.le_of_ble_eq_true rfl) (Nat.le_of_ble_eq_true rfl) ?_
      refine va_forget (fun q h => hA2 _ (hS.2.2 q h)) ?_
      exact lw_ret hx hb hr hlk d_lw_law_403
    ·
      refine lv_tableIn hx hb d_lw_law_32 (by decide) (by decide) (off := 219) (tgt := 251) rfl rfl ?_
      have hP := hP.sub (ws' := [(q1, .inr (6, [.ref fa2, .ref ca3, .ref pa4, .ref da5, .ref ea6])), (pa4, .inr (4, [.ref fa2, .ref ca3, .ref la24, .ref pce26, .ref pse28, .ref ppl29, .int 0, .int 0, .int 0, .int 0, .int 0])), (ca3, .inr (0, [.ref fa2, .int 0, .ref cs17, .ref cg18, .ref cto19, .ref cq21, .ref cco22, .ref cnx23])), (la24, .inr (3, [.ref lwo25])), (lwo25, .inl (cJ, 1296, .inr (.inl (fun _ => 0)))), (pse28, .inl (cI, 32, .inl (fun _ => 0))), (q35, .inr (7, [.int 1, .int 1, .ref nwalls36, .int 0, .ref nstarts37, .ref ngoals38, .ref nlaid39, .ref nisTold40, .int 0, .ref ncells41, .ref nindex42, .ref nnear43, .ref nnearCount44, .ref npay45, .ref ndone46, .ref npile47, .int 0, .ref nnow48, .ref nthen49, .ref nchoice50, .int 0, .int 0, .ref nplan51, .ref ncosts52, .ref npaid53, .ref nafter54, .ref nfar55, .ref nmany56, .ref nnext57, .int 0, .int 0, .int 0, .int 0]))]) [0, 43, 31, 44, 45, 79, 124] rfl
      have hD := hD.sub (ws' := [(q1, .inr (6, [.ref fa2, .ref ca3, .ref pa4, .ref da5, .ref ea6])), (pa4, .inr (4, [.ref fa2, .ref ca3, .ref la24, .ref pce26, .ref pse28, .ref ppl29, .int 0, .int 0, .int 0, .int 0, .int 0])), (ca3, .inr (0, [.ref fa2, .int 0, .ref cs17, .ref cg18, .ref cto19, .ref cq21, .ref cco22, .ref cnx23])), (la24, .inr (3, [.ref lwo25])), (lwo25, .inl (cJ, 1296, .inr (.inl (fun _ => 0)))), (pse28, .inl (cI, 32, .inl (fun _ => 0))), (q35, .inr (7, [.int 1, .int 1, .ref nwalls36, .int 0, .ref nstarts37, .ref ngoals38, .ref nlaid39, .ref nisTold40, .int 0, .ref ncells41, .ref nindex42, .ref nnear43, .ref nnearCount44, .ref npay45, .ref ndone46, .ref npile47, .int 0, .ref nnow48, .ref nthen49, .ref nchoice50, .int 0, .int 0, .ref nplan51, .ref ncosts52, .ref npaid53, .ref nafter54, .ref nfar55, .ref nmany56, .ref nnext57, .int 0, .int 0, .int 0, .int 0]))]) [0, 43, 31, 44, 45, 79, 124] (by decide) rfl
      have hP : va_P D kls [(q1, .inr (6, [.ref fa2, .ref ca3, .ref pa4, .ref da5, .ref ea6])), (pa4, .inr (4, [.ref fa2, .ref ca3, .ref la24, .ref pce26, .ref pse28, .ref ppl29, .int 0, .int 0, .int 0, .int 0, .int 0])), (ca3, .inr (0, [.ref fa2, .int 0, .ref cs17, .ref cg18, .ref cto19, .ref cq21, .ref cco22, .ref cnx23])), (la24, .inr (3, [.ref lwo25])), (lwo25, .inl (cJ, 1296, .inr (.inl (fun _ => 0)))), (pse28, .inl (cI, 32, .inl (fun _ => 0))), (q35, .inr (7, [.int 1, .int 1, .ref nwalls36, .int 0, .ref nstarts37, .ref ngoals38, .ref nlaid39, .ref nisTold40, .int 0, .ref ncells41, .ref nindex42, .ref nnear43, .ref nnearCount44, .ref npay45, .ref ndone46, .ref npile47, .int 0, .ref nnow48, .ref nthen49, .ref nchoice50, .int 0, .int 0, .ref nplan51, .ref ncosts52, .ref npaid53, .ref nafter54, .ref nfar55, .ref nmany56, .ref nnext57, .int 0, .int 0, .int 0, .int 0]))] H := hP
      have hD : va_D A [(q1, .inr (6, [.ref fa2, .ref ca3, .ref pa4, .ref da5, .ref ea6])), (pa4, .inr (4, [.ref fa2, .ref ca3, .ref la24, .ref pce26, .ref pse28, .ref ppl29, .int 0, .int 0, .int 0, .int 0, .int 0])), (ca3, .inr (0, [.ref fa2, .int 0, .ref cs17, .ref cg18, .ref cto19, .ref cq21, .ref cco22, .ref cnx23])), (la24, .inr (3, [.ref lwo25])), (lwo25, .inl (cJ, 1296, .inr (.inl (fun _ => 0)))), (pse28, .inl (cI, 32, .inl (fun _ => 0))), (q35, .inr (7, [.int 1, .int 1, .ref nwalls36, .int 0, .ref nstarts37, .ref ngoals38, .ref nlaid39, .ref nisTold40, .int 0, .ref ncells41, .ref nindex42, .ref nnear43, .ref nnearCount44, .ref npay45, .ref ndone46, .ref npile47, .int 0, .ref nnow48, .ref nthen49, .ref nchoice50, .int 0, .int 0, .ref nplan51, .ref ncosts52, .ref npaid53, .ref nafter54, .ref nfar55, .ref nmany56, .ref nnext57, .int 0, .int 0, .int 0, .int 0]))] := hD
      refine lv_aload_n hx hb d_lw_law_251 rfl (lv_at hl 2 rfl) ?_
      refine lv_aload_n hx hb d_lw_law_252 rfl (lv_at hl 3 rfl) ?_
      refine lv_iload_n hx hb d_lw_law_253 rfl (lv_at hl 0 rfl) ?_
      refine lv_iconst (v := 1) hx hb d_lw_law_254 (by decide) ?_
      refine lv_iadd hx hb d_lw_law_255 ?_
      refine va_sld hx hb hXs hbl hbA hS (by unfold vp_in; decide) d_lw_law_256 ?_
      refine lv_topi (fun y87 ey87 => ?_)
      have ey87 : y87 = xs 1 := ey87
      subst ey87
      have hPc := hP.sub (ws' := [(q1, .inr (6, [.ref fa2, .ref ca3, .ref pa4, .ref da5, .ref ea6])), (pa4, .inr (4, [.ref fa2, .ref ca3, .ref la24, .ref pce26, .ref pse28, .ref ppl29, .int 0, .int 0, .int 0, .int 0, .int 0])), (ca3, .inr (0, [.ref fa2, .int 0, .ref cs17, .ref cg18, .ref cto19, .ref cq21, .ref cco22, .ref cnx23])), (la24, .inr (3, [.ref lwo25])), (lwo25, .inl (cJ, 1296, .inr (.inl (fun _ => 0)))), (pse28, .inl (cI, 32, .inl (fun _ => 0)))]) [0, 1, 2, 3, 4, 5] rfl
      have hDc := hD.sub (ws' := [(q1, .inr (6, [.ref fa2, .ref ca3, .ref pa4, .ref da5, .ref ea6])), (pa4, .inr (4, [.ref fa2, .ref ca3, .ref la24, .ref pce26, .ref pse28, .ref ppl29, .int 0, .int 0, .int 0, .int 0, .int 0])), (ca3, .inr (0, [.ref fa2, .int 0, .ref cs17, .ref cg18, .ref cto19, .ref cq21, .ref cco22, .ref cnx23])), (la24, .inr (3, [.ref lwo25])), (lwo25, .inl (cJ, 1296, .inr (.inl (fun _ => 0)))), (pse28, .inl (cI, 32, .inl (fun _ => 0)))]) [0, 1, 2, 3, 4, 5] (by decide) rfl
      have hFc := va_free (wc := [(q1, .inr (6, [.ref fa2, .ref ca3, .ref pa4, .ref da5, .ref ea6])), (pa4, .inr (4, [.ref fa2, .ref ca3, .ref la24, .ref pce26, .ref pse28, .ref ppl29, .int 0, .int 0, .int 0, .int 0, .int 0])), (ca3, .inr (0, [.ref fa2, .int 0, .ref cs17, .ref cg18, .ref cto19, .ref cq21, .ref cco22, .ref cnx23])), (la24, .inr (3, [.ref lwo25])), (lwo25, .inl (cJ, 1296, .inr (.inl (fun _ => 0)))), (pse28, .inl (cI, 32, .inl (fun _ => 0)))]) hD hS hA [0, 1, 2, 3, 4, 5] rfl
      refine va_calli (va_runV (As := [.int (xs 1)]) (rest := []) ⟨hx, hb, hml, hown, hg⟩ (c_mr_solve l D cZ cI cJ cII q1 fa2 ca3 da5 ea6 pa4 fa2 pce26 pse28 ppl29 0 0 0 ca3 fa2 cs17 cg18 cto19 cq21 cco22 cnx23 la24 lwo25 (fun _ => 0) (fun _ => 0) (xs 1) H.size ) (cwV 1 hg gv_lw_41 rfl rfl rfl (by decide +kernel) ⟨Nat.le_of_ble_eq_true rfl, Nat.le_of_ble_eq_true rfl⟩) ⟨mt_bl, va_recv (q0 := 0) (ci := 6) hK hP rfl rfl, mt_pr hX hPc hK hDc⟩ rfl rfl hl.1 rfl (lv_room (Nat.le_of_ble_eq_true rfl)) d_lw_law_257 ⟨Nat.le_of_ble_eq_true rfl, Nat.le_of_ble_eq_true rfl⟩) hS (fun q _ h => hFc q h) hFc (fun r88 u t H1 locs ht hvm hw hB hz1 hk1 hS => ?_)
      obtain ⟨hr88, hwr88⟩ := hw
      have hr88 : (r88 = -1 ∧ ((xs 1) < 0 ∨ ¬ (xs 1) ≤ 6)) ∨ (r88 = 0 ∧ ¬ (xs 1) < 0 ∧ (xs 1) ≤ 6) := hr88
      obtain ⟨hP, hD⟩ := va_join (wr := [(q35, .inr (7, [.int 1, .int 1, .ref nwalls36, .int 0, .ref nstarts37, .ref ngoals38, .ref nlaid39, .ref nisTold40, .int 0, .ref ncells41, .ref nindex42, .ref nnear43, .ref nnearCount44, .ref npay45, .ref ndone46, .ref npile47, .int 0, .ref nnow48, .ref nthen49, .ref nchoice50, .int 0, .int 0, .ref nplan51, .ref ncosts52, .ref npaid53, .ref nafter54, .ref nfar55, .ref nmany56, .ref nnext57, .int 0, .int 0, .int 0, .int 0]))]) (w1 := []) hP hD [0, 1, 2, 3, 4, 5] [6] rfl rfl (by decide) (by decide) hk1 hFc mt_P0 mt_D0
      generalize H1 = H at hP hS ⊢
      have hP : va_P D kls [(q35, .inr (7, [.int 1, .int 1, .ref nwalls36, .int 0, .ref nstarts37, .ref ngoals38, .ref nlaid39, .ref nisTold40, .int 0, .ref ncells41, .ref nindex42, .ref nnear43, .ref nnearCount44, .ref npay45, .ref ndone46, .ref npile47, .int 0, .ref nnow48, .ref nthen49, .ref nchoice50, .int 0, .int 0, .ref nplan51, .ref ncosts52, .ref npaid53, .ref nafter54, .ref nfar55, .ref nmany56, .ref nnext57, .int 0, .int 0, .int 0, .int 0]))] H := hP
      have hD : va_D A [(q35, .inr (7, [.int 1, .int 1, .ref nwalls36, .int 0, .ref nstarts37, .ref ngoals38, .ref nlaid39, .ref nisTold40, .int 0, .ref ncells41, .ref nindex42, .ref nnear43, .ref nnearCount44, .ref npay45, .ref ndone46, .ref npile47, .int 0, .ref nnow48, .ref nthen49, .ref nchoice50, .int 0, .int 0, .ref nplan51, .ref ncosts52, .ref npaid53, .ref nafter54, .ref nfar55, .ref nmany56, .ref nnext57, .int 0, .int 0, .int 0, .int 0]))] := hD
      refine lv_aload_n hx hb d_lw_law_260 rfl (lv_at hl 1 rfl) ?_
      refine lv_aload_n hx hb d_lw_law_261 rfl (lv_at hl 3 rfl) ?_
      refine lv_iload_n hx hb d_lw_law_262 rfl (lv_at hl 0 rfl) ?_
      refine lv_iconst (v := 1) hx hb d_lw_law_263 (by decide) ?_
      refine lv_iadd hx hb d_lw_law_264 ?_
      refine va_sld hx hb hXs hbl hbA hS (by unfold vp_in; decide) d_lw_law_265 ?_
      refine lv_topi (fun y89 ey89 => ?_)
      have ey89 : y89 = xs 1 := ey89
      subst ey89
      have hPc := hP
      have hDc := hD
      have hFc := mt_whole hD hS hA
      refine va_calli (va_runV (As := [.int (xs 1)]) (rest := [.int r88]) ⟨hx, hb, hml, hown, hg⟩ (c_md_solve l D cZ cI cJ cII q35 nwalls36 nstarts37 ngoals38 nlaid39 nisTold40 ncells41 nindex42 nnear43 nnearCount44 npay45 ndone46 npile47 nnow48 nthen49 nchoice50 nplan51 ncosts52 npaid53 nafter54 nfar55 nmany56 nnext57 1 1 0 0 0 0 0 0 0 0 (xs 1) H.size ) (cwV 1 hg gv_lw_44 rfl rfl rfl (by decide +kernel) ⟨Nat.le_of_ble_eq_true rfl, Nat.le_of_ble_eq_true rfl⟩) ⟨mt_bl, va_recv (q0 := 0) (ci := 7) hK hP rfl rfl, mt_pr hX hPc hK hDc⟩ rfl rfl hl.1 rfl (lv_room (Nat.le_of_ble_eq_true rfl)) d_lw_law_266 ⟨Nat.le_of_ble_eq_true rfl, Nat.le_of_ble_eq_true rfl⟩) hS (fun q _ h => hFc q h) hFc (fun r90 u t H1 locs ht hvm hw hB hz1 hk1 hS => ?_)
      obtain ⟨hr90, hwr90⟩ := hw
      have hr90 : (r90 = -1 ∧ ((xs 1) < 0 ∨ ¬ (xs 1) ≤ 6)) ∨ (r90 = 0 ∧ ¬ (xs 1) < 0 ∧ (xs 1) ≤ 6) := hr90
      obtain ⟨hP, hD⟩ := va_join (wr := []) (w1 := []) hP hD [0] [] rfl rfl (by decide) (by decide) hk1 hFc mt_P0 mt_D0
      generalize H1 = H at hP hS ⊢
      have hP : va_P D kls [] H := hP
      have hD : va_D A [] := hD
      refine lv_icmp_eq hx hb d_lw_law_269 rfl (fun _ => ?_) (fun h => absurd (mt_two hr88 hr90 (by rintro (p | p) ⟨q1, q2⟩ <;> contradiction)) h)
      refine lv_iinc (k := 0) (v := 4) hx hb d_lw_law_396 hl rfl (by decide) (by decide) rfl (fun ls hl => ?_)
      have hl : lv_has ls 4 [(3, .int 4), (2, .ref q35), (1, .ref q1), (0, .ref b)] := hl
      refine lv_goto hx hb d_lw_law_399 rfl ?_
      refine lv_iload_n hx hb d_lw_law_18 rfl (lv_at hl 0 rfl) ?_
      refine lv_aload_n hx hb d_lw_law_19 rfl (lv_at hl 3 rfl) ?_
      refine va_slen hx hb hXs hbl hbA hS d_lw_law_20 ?_
      refine lv_iconst (v := 4) hx hb d_lw_law_21 (by decide) ?_
      refine lv_isub hx hb d_lw_law_22 ?_
      refine lv_topi (fun y0 e0 => ?_)
      have e0 : y0 = 0 := e0.trans (by decide)
      subst e0
      refine lv_icmp_gt hx hb d_lw_law_23 rfl (fun _ => ?_) (fun h => absurd (by decide) h)
      refine lv_iconst (v := 1) hx hb d_lw_law_402 (by decide) ?_
      refine W.widen (k := 60000) (n := 8922250) (Nat.le_of_ble_eq_true rfl) (Nat.le_of_ble_eq_true rfl) ?_
      refine va_forget (fun q h => hA2 _ (hS.2.2 q h)) ?_
      exact lw_ret hx hb hr hlk d_lw_law_403
    ·
      refine lv_tableIn hx hb d_lw_law_32 (by decide) (by decide) (off := 242) (tgt := 274) rfl rfl ?_
      have hP := hP.sub (ws' := [(q1, .inr (6, [.ref fa2, .ref ca3, .ref pa4, .ref da5, .ref ea6])), (pa4, .inr (4, [.ref fa2, .ref ca3, .ref la24, .ref pce26, .ref pse28, .ref ppl29, .int 0, .int 0, .int 0, .int 0, .int 0])), (q35, .inr (7, [.int 1, .int 1, .ref nwalls36, .int 0, .ref nstarts37, .ref ngoals38, .ref nlaid39, .ref nisTold40, .int 0, .ref ncells41, .ref nindex42, .ref nnear43, .ref nnearCount44, .ref npay45, .ref ndone46, .ref npile47, .int 0, .ref nnow48, .ref nthen49, .ref nchoice50, .int 0, .int 0, .ref nplan51, .ref ncosts52, .ref npaid53, .ref nafter54, .ref nfar55, .ref nmany56, .ref nnext57, .int 0, .int 0, .int 0, .int 0]))]) [0, 43, 124] rfl
      have hD := hD.sub (ws' := [(q1, .inr (6, [.ref fa2, .ref ca3, .ref pa4, .ref da5, .ref ea6])), (pa4, .inr (4, [.ref fa2, .ref ca3, .ref la24, .ref pce26, .ref pse28, .ref ppl29, .int 0, .int 0, .int 0, .int 0, .int 0])), (q35, .inr (7, [.int 1, .int 1, .ref nwalls36, .int 0, .ref nstarts37, .ref ngoals38, .ref nlaid39, .ref nisTold40, .int 0, .ref ncells41, .ref nindex42, .ref nnear43, .ref nnearCount44, .ref npay45, .ref ndone46, .ref npile47, .int 0, .ref nnow48, .ref nthen49, .ref nchoice50, .int 0, .int 0, .ref nplan51, .ref ncosts52, .ref npaid53, .ref nafter54, .ref nfar55, .ref nmany56, .ref nnext57, .int 0, .int 0, .int 0, .int 0]))]) [0, 43, 124] (by decide) rfl
      have hP : va_P D kls [(q1, .inr (6, [.ref fa2, .ref ca3, .ref pa4, .ref da5, .ref ea6])), (pa4, .inr (4, [.ref fa2, .ref ca3, .ref la24, .ref pce26, .ref pse28, .ref ppl29, .int 0, .int 0, .int 0, .int 0, .int 0])), (q35, .inr (7, [.int 1, .int 1, .ref nwalls36, .int 0, .ref nstarts37, .ref ngoals38, .ref nlaid39, .ref nisTold40, .int 0, .ref ncells41, .ref nindex42, .ref nnear43, .ref nnearCount44, .ref npay45, .ref ndone46, .ref npile47, .int 0, .ref nnow48, .ref nthen49, .ref nchoice50, .int 0, .int 0, .ref nplan51, .ref ncosts52, .ref npaid53, .ref nafter54, .ref nfar55, .ref nmany56, .ref nnext57, .int 0, .int 0, .int 0, .int 0]))] H := hP
      have hD : va_D A [(q1, .inr (6, [.ref fa2, .ref ca3, .ref pa4, .ref da5, .ref ea6])), (pa4, .inr (4, [.ref fa2, .ref ca3, .ref la24, .ref pce26, .ref pse28, .ref ppl29, .int 0, .int 0, .int 0, .int 0, .int 0])), (q35, .inr (7, [.int 1, .int 1, .ref nwalls36, .int 0, .ref nstarts37, .ref ngoals38, .ref nlaid39, .ref nisTold40, .int 0, .ref ncells41, .ref nindex42, .ref nnear43, .ref nnearCount44, .ref npay45, .ref ndone46, .ref npile47, .int 0, .ref nnow48, .ref nthen49, .ref nchoice50, .int 0, .int 0, .ref nplan51, .ref ncosts52, .ref npaid53, .ref nafter54, .ref nfar55, .ref nmany56, .ref nnext57, .int 0, .int 0, .int 0, .int 0]))] := hD
      refine lv_aload_n hx hb d_lw_law_274 rfl (lv_at hl 2 rfl) ?_
      refine lv_aload_n hx hb d_lw_law_275 rfl (lv_at hl 3 rfl) ?_
      refine lv_iload_n hx hb d_lw_law_276 rfl (lv_at hl 0 rfl) ?_
      refine lv_iconst (v := 1) hx hb d_lw_law_277 (by decide) ?_
      refine lv_iadd hx hb d_lw_law_278 ?_
      refine va_sld hx hb hXs hbl hbA hS (by unfold vp_in; decide) d_lw_law_279 ?_
      refine lv_topi (fun y91 ey91 => ?_)
      have ey91 : y91 = xs 1 := ey91
      subst ey91
      have hPc := hP.sub (ws' := [(q1, .inr (6, [.ref fa2, .ref ca3, .ref pa4, .ref da5, .ref ea6])), (pa4, .inr (4, [.ref fa2, .ref ca3, .ref la24, .ref pce26, .ref pse28, .ref ppl29, .int 0, .int 0, .int 0, .int 0, .int 0]))]) [0, 1] rfl
      have hDc := hD.sub (ws' := [(q1, .inr (6, [.ref fa2, .ref ca3, .ref pa4, .ref da5, .ref ea6])), (pa4, .inr (4, [.ref fa2, .ref ca3, .ref la24, .ref pce26, .ref pse28, .ref ppl29, .int 0, .int 0, .int 0, .int 0, .int 0]))]) [0, 1] (by decide) rfl
      refine vp_callSi (W.runV (As := [.int (xs 1)]) (rest := []) ⟨hx, hb, hml, hown, hg⟩ (c_mr_cost l D cZ cI cJ cII q1 fa2 ca3 da5 ea6 pa4 fa2 ca3 la24 pce26 pse28 ppl29 0 0 0 0 (xs 1) H.size ) (cwV 1 hg gv_lw_45 rfl rfl rfl (by decide +kernel) ⟨Nat.le_of_ble_eq_true rfl, Nat.le_of_ble_eq_true rfl⟩) ⟨mt_bl, va_recv (q0 := 0) (ci := 6) hK hP rfl rfl, mt_pr hX hPc hK hDc⟩ rfl rfl hl.1 rfl (lv_room (Nat.le_of_ble_eq_true rfl)) d_lw_law_280 ⟨Nat.le_of_ble_eq_true rfl, Nat.le_of_ble_eq_true rfl⟩) (fun r92 hr92 => ?_)
      have hr92 : r92 = -1 := hr92
      have hr92 : r92 = (-1) := hr92
      subst hr92
      refine lv_aload_n hx hb d_lw_law_283 rfl (lv_at hl 1 rfl) ?_
      refine lv_aload_n hx hb d_lw_law_284 rfl (lv_at hl 3 rfl) ?_
      refine lv_iload_n hx hb d_lw_law_285 rfl (lv_at hl 0 rfl) ?_
      refine lv_iconst (v := 1) hx hb d_lw_law_286 (by decide) ?_
      refine lv_iadd hx hb d_lw_law_287 ?_
      refine va_sld hx hb hXs hbl hbA hS (by unfold vp_in; decide) d_lw_law_288 ?_
      refine lv_topi (fun y93 ey93 => ?_)
      have ey93 : y93 = xs 1 := ey93
      subst ey93
      have hPc := hP.sub (ws' := [(q35, .inr (7, [.int 1, .int 1, .ref nwalls36, .int 0, .ref nstarts37, .ref ngoals38, .ref nlaid39, .ref nisTold40, .int 0, .ref ncells41, .ref nindex42, .ref nnear43, .ref nnearCount44, .ref npay45, .ref ndone46, .ref npile47, .int 0, .ref nnow48, .ref nthen49, .ref nchoice50, .int 0, .int 0, .ref nplan51, .ref ncosts52, .ref npaid53, .ref nafter54, .ref nfar55, .ref nmany56, .ref nnext57, .int 0, .int 0, .int 0, .int 0]))]) [2] rfl
      have hDc := hD.sub (ws' := [(q35, .inr (7, [.int 1, .int 1, .ref nwalls36, .int 0, .ref nstarts37, .ref ngoals38, .ref nlaid39, .ref nisTold40, .int 0, .ref ncells41, .ref nindex42, .ref nnear43, .ref nnearCount44, .ref npay45, .ref ndone46, .ref npile47, .int 0, .ref nnow48, .ref nthen49, .ref nchoice50, .int 0, .int 0, .ref nplan51, .ref ncosts52, .ref npaid53, .ref nafter54, .ref nfar55, .ref nmany56, .ref nnext57, .int 0, .int 0, .int 0, .int 0]))]) [2] (by decide) rfl
      refine vp_callSi (W.runV (As := [.int (xs 1)]) (rest := [.int (-1)]) ⟨hx, hb, hml, hown, hg⟩ (c_md_cost l D cZ cI cJ cII q35 nwalls36 nstarts37 ngoals38 nlaid39 nisTold40 ncells41 nindex42 nnear43 nnearCount44 npay45 ndone46 npile47 nnow48 nthen49 nchoice50 nplan51 ncosts52 npaid53 nafter54 nfar55 nmany56 nnext57 1 1 0 0 0 0 0 0 0 0 (xs 1) H.size ) (cwV 1 hg gv_lw_48 rfl rfl rfl (by decide +kernel) ⟨Nat.le_of_ble_eq_true rfl, Nat.le_of_ble_eq_true rfl⟩) ⟨mt_bl, va_recv (q0 := 2) (ci := 7) hK hP rfl rfl, mt_pr hX hPc hK hDc⟩ rfl rfl hl.1 rfl (lv_room (Nat.le_of_ble_eq_true rfl)) d_lw_law_289 ⟨Nat.le_of_ble_eq_true rfl, Nat.le_of_ble_eq_true rfl⟩) (fun r94 hr94 => ?_)
      have hr94 : r94 = -1 := hr94
      have hr94 : r94 = (-1) := hr94
      subst hr94
      refine lv_icmp_eq hx hb d_lw_law_292 rfl (fun _ => ?_) (fun h => absurd (by decide) h)
      refine lv_iinc (k := 0) (v := 4) hx hb d_lw_law_396 hl rfl (by decide) (by decide) rfl (fun ls hl => ?_)
      have hl : lv_has ls 4 [(3, .int 4), (2, .ref q35), (1, .ref q1), (0, .ref b)] := hl
      refine lv_goto hx hb d_lw_law_399 rfl ?_
      refine lv_iload_n hx hb d_lw_law_18 rfl (lv_at hl 0 rfl) ?_
      refine lv_aload_n hx hb d_lw_law_19 rfl (lv_at hl 3 rfl) ?_
      refine va_slen hx hb hXs hbl hbA hS d_lw_law_20 ?_
      refine lv_iconst (v := 4) hx hb d_lw_law_21 (by decide) ?_
      refine lv_isub hx hb d_lw_law_22 ?_
      refine lv_topi (fun y0 e0 => ?_)
      have e0 : y0 = 0 := e0.trans (by decide)
      subst e0
      refine lv_icmp_gt hx hb d_lw_law_23 rfl (fun _ => ?_) (fun h => absurd (by decide) h)
      refine lv_iconst (v := 1) hx hb d_lw_law_402 (by decide) ?_
      refine W.widen (k := 60000) (n := 8922250) (Nat.le_of_ble_eq_true rfl) (Nat.le_of_ble_eq_true rfl) ?_
      refine va_forget (fun q h => hA2 _ (hS.2.2 q h)) ?_
      exact lw_ret hx hb hr hlk d_lw_law_403
    ·
      refine lv_tableIn hx hb d_lw_law_32 (by decide) (by decide) (off := 265) (tgt := 297) rfl rfl ?_
      have hP := hP.sub (ws' := [(q1, .inr (6, [.ref fa2, .ref ca3, .ref pa4, .ref da5, .ref ea6])), (pa4, .inr (4, [.ref fa2, .ref ca3, .ref la24, .ref pce26, .ref pse28, .ref ppl29, .int 0, .int 0, .int 0, .int 0, .int 0])), (q35, .inr (7, [.int 1, .int 1, .ref nwalls36, .int 0, .ref nstarts37, .ref ngoals38, .ref nlaid39, .ref nisTold40, .int 0, .ref ncells41, .ref nindex42, .ref nnear43, .ref nnearCount44, .ref npay45, .ref ndone46, .ref npile47, .int 0, .ref nnow48, .ref nthen49, .ref nchoice50, .int 0, .int 0, .ref nplan51, .ref ncosts52, .ref npaid53, .ref nafter54, .ref nfar55, .ref nmany56, .ref nnext57, .int 0, .int 0, .int 0, .int 0]))]) [0, 43, 124] rfl
      have hD := hD.sub (ws' := [(q1, .inr (6, [.ref fa2, .ref ca3, .ref pa4, .ref da5, .ref ea6])), (pa4, .inr (4, [.ref fa2, .ref ca3, .ref la24, .ref pce26, .ref pse28, .ref ppl29, .int 0, .int 0, .int 0, .int 0, .int 0])), (q35, .inr (7, [.int 1, .int 1, .ref nwalls36, .int 0, .ref nstarts37, .ref ngoals38, .ref nlaid39, .ref nisTold40, .int 0, .ref ncells41, .ref nindex42, .ref nnear43, .ref nnearCount44, .ref npay45, .ref ndone46, .ref npile47, .int 0, .ref nnow48, .ref nthen49, .ref nchoice50, .int 0, .int 0, .ref nplan51, .ref ncosts52, .ref npaid53, .ref nafter54, .ref nfar55, .ref nmany56, .ref nnext57, .int 0, .int 0, .int 0, .int 0]))]) [0, 43, 124] (by decide) rfl
      have hP : va_P D kls [(q1, .inr (6, [.ref fa2, .ref ca3, .ref pa4, .ref da5, .ref ea6])), (pa4, .inr (4, [.ref fa2, .ref ca3, .ref la24, .ref pce26, .ref pse28, .ref ppl29, .int 0, .int 0, .int 0, .int 0, .int 0])), (q35, .inr (7, [.int 1, .int 1, .ref nwalls36, .int 0, .ref nstarts37, .ref ngoals38, .ref nlaid39, .ref nisTold40, .int 0, .ref ncells41, .ref nindex42, .ref nnear43, .ref nnearCount44, .ref npay45, .ref ndone46, .ref npile47, .int 0, .ref nnow48, .ref nthen49, .ref nchoice50, .int 0, .int 0, .ref nplan51, .ref ncosts52, .ref npaid53, .ref nafter54, .ref nfar55, .ref nmany56, .ref nnext57, .int 0, .int 0, .int 0, .int 0]))] H := hP
      have hD : va_D A [(q1, .inr (6, [.ref fa2, .ref ca3, .ref pa4, .ref da5, .ref ea6])), (pa4, .inr (4, [.ref fa2, .ref ca3, .ref la24, .ref pce26, .ref pse28, .ref ppl29, .int 0, .int 0, .int 0, .int 0, .int 0])), (q35, .inr (7, [.int 1, .int 1, .ref nwalls36, .int 0, .ref nstarts37, .ref ngoals38, .ref nlaid39, .ref nisTold40, .int 0, .ref ncells41, .ref nindex42, .ref nnear43, .ref nnearCount44, .ref npay45, .ref ndone46, .ref npile47, .int 0, .ref nnow48, .ref nthen49, .ref nchoice50, .int 0, .int 0, .ref nplan51, .ref ncosts52, .ref npaid53, .ref nafter54, .ref nfar55, .ref nmany56, .ref nnext57, .int 0, .int 0, .int 0, .int 0]))] := hD
      refine lv_aload_n hx hb d_lw_law_297 rfl (lv_at hl 2 rfl) ?_
      refine lv_aload_n hx hb d_lw_law_298 rfl (lv_at hl 3 rfl) ?_
      refine lv_iload_n hx hb d_lw_law_299 rfl (lv_at hl 0 rfl) ?_
      refine lv_iconst (v := 1) hx hb d_lw_law_300 (by decide) ?_
      refine lv_iadd hx hb d_lw_law_301 ?_
      refine va_sld hx hb hXs hbl hbA hS (by unfold vp_in; decide) d_lw_law_302 ?_
      refine lv_topi (fun y95 ey95 => ?_)
      have ey95 : y95 = xs 1 := ey95
      subst ey95
      refine lv_aload_n hx hb d_lw_law_303 rfl (lv_at hl 3 rfl) ?_
      refine lv_iload_n hx hb d_lw_law_304 rfl (lv_at hl 0 rfl) ?_
      refine lv_iconst (v := 2) hx hb d_lw_law_305 (by decide) ?_
      refine lv_iadd hx hb d_lw_law_306 ?_
      refine va_sld hx hb hXs hbl hbA hS (by unfold vp_in; decide) d_lw_law_307 ?_
      refine lv_topi (fun y96 ey96 => ?_)
      have ey96 : y96 = xs 2 := ey96
      subst ey96
      have hPc := hP.sub (ws' := [(q1, .inr (6, [.ref fa2, .ref ca3, .ref pa4, .ref da5, .ref ea6])), (pa4, .inr (4, [.ref fa2, .ref ca3, .ref la24, .ref pce26, .ref pse28, .ref ppl29, .int 0, .int 0, .int 0, .int 0, .int 0]))]) [0, 1] rfl
      have hDc := hD.sub (ws' := [(q1, .inr (6, [.ref fa2, .ref ca3, .ref pa4, .ref da5, .ref ea6])), (pa4, .inr (4, [.ref fa2, .ref ca3, .ref la24, .ref pce26, .ref pse28, .ref ppl29, .int 0, .int 0, .int 0, .int 0, .int 0]))]) [0, 1] (by decide) rfl
      refine vp_callSi (W.runV (As := [.int (xs 1), .int (xs 2)]) (rest := []) ⟨hx, hb, hml, hown, hg⟩ (c_mr_at l D cZ cI cJ cII q1 fa2 ca3 da5 ea6 pa4 fa2 ca3 la24 pce26 pse28 ppl29 0 0 0 0 (xs 1) (xs 2) H.size ) (cwV 2 hg gv_lw_49 rfl rfl rfl (by decide +kernel) ⟨Nat.le_of_ble_eq_true rfl, Nat.le_of_ble_eq_true rfl⟩) ⟨mt_bl, va_recv (q0 := 0) (ci := 6) hK hP rfl rfl, mt_pr hX hPc hK hDc⟩ rfl rfl hl.1 rfl (lv_room (Nat.le_of_ble_eq_true rfl)) d_lw_law_308 ⟨Nat.le_of_ble_eq_true rfl, Nat.le_of_ble_eq_true rfl⟩) (fun r97 hr97 => ?_)
      have hr97 : r97 = -1 := hr97
      have hr97 : r97 = (-1) := hr97
      subst hr97
      refine lv_aload_n hx hb d_lw_law_311 rfl (lv_at hl 1 rfl) ?_
      refine lv_aload_n hx hb d_lw_law_312 rfl (lv_at hl 3 rfl) ?_
      refine lv_iload_n hx hb d_lw_law_313 rfl (lv_at hl 0 rfl) ?_
      refine lv_iconst (v := 1) hx hb d_lw_law_314 (by decide) ?_
      refine lv_iadd hx hb d_lw_law_315 ?_
      refine va_sld hx hb hXs hbl hbA hS (by unfold vp_in; decide) d_lw_law_316 ?_
      refine lv_topi (fun y98 ey98 => ?_)
      have ey98 : y98 = xs 1 := ey98
      subst ey98
      refine lv_aload_n hx hb d_lw_law_317 rfl (lv_at hl 3 rfl) ?_
      refine lv_iload_n hx hb d_lw_law_318 rfl (lv_at hl 0 rfl) ?_
      refine lv_iconst (v := 2) hx hb d_lw_law_319 (by decide) ?_
      refine lv_iadd hx hb d_lw_law_320 ?_
      refine va_sld hx hb hXs hbl hbA hS (by unfold vp_in; decide) d_lw_law_321 ?_
      refine lv_topi (fun y99 ey99 => ?_)
      have ey99 : y99 = xs 2 := ey99
      subst ey99
      have hPc := hP.sub (ws' := [(q35, .inr (7, [.int 1, .int 1, .ref nwalls36, .int 0, .ref nstarts37, .ref ngoals38, .ref nlaid39, .ref nisTold40, .int 0, .ref ncells41, .ref nindex42, .ref nnear43, .ref nnearCount44, .ref npay45, .ref ndone46, .ref npile47, .int 0, .ref nnow48, .ref nthen49, .ref nchoice50, .int 0, .int 0, .ref nplan51, .ref ncosts52, .ref npaid53, .ref nafter54, .ref nfar55, .ref nmany56, .ref nnext57, .int 0, .int 0, .int 0, .int 0]))]) [2] rfl
      have hDc := hD.sub (ws' := [(q35, .inr (7, [.int 1, .int 1, .ref nwalls36, .int 0, .ref nstarts37, .ref ngoals38, .ref nlaid39, .ref nisTold40, .int 0, .ref ncells41, .ref nindex42, .ref nnear43, .ref nnearCount44, .ref npay45, .ref ndone46, .ref npile47, .int 0, .ref nnow48, .ref nthen49, .ref nchoice50, .int 0, .int 0, .ref nplan51, .ref ncosts52, .ref npaid53, .ref nafter54, .ref nfar55, .ref nmany56, .ref nnext57, .int 0, .int 0, .int 0, .int 0]))]) [2] (by decide) rfl
      refine vp_callSi (W.runV (As := [.int (xs 1), .int (xs 2)]) (rest := [.int (-1)]) ⟨hx, hb, hml, hown, hg⟩ (c_md_at l D cZ cI cJ cII q35 nwalls36 nstarts37 ngoals38 nlaid39 nisTold40 ncells41 nindex42 nnear43 nnearCount44 npay45 ndone46 npile47 nnow48 nthen49 nchoice50 nplan51 ncosts52 npaid53 nafter54 nfar55 nmany56 nnext57 1 1 0 0 0 0 0 0 0 0 (xs 1) (xs 2) H.size ) (cwV 2 hg gv_lw_52 rfl rfl rfl (by decide +kernel) ⟨Nat.le_of_ble_eq_true rfl, Nat.le_of_ble_eq_true rfl⟩) ⟨mt_bl, va_recv (q0 := 2) (ci := 7) hK hP rfl rfl, mt_pr hX hPc hK hDc⟩ rfl rfl hl.1 rfl (lv_room (Nat.le_of_ble_eq_true rfl)) d_lw_law_322 ⟨Nat.le_of_ble_eq_true rfl, Nat.le_of_ble_eq_true rfl⟩) (fun r100 hr100 => ?_)
      have hr100 : r100 = -1 := hr100
      have hr100 : r100 = (-1) := hr100
      subst hr100
      refine lv_icmp_eq hx hb d_lw_law_325 rfl (fun _ => ?_) (fun h => absurd (by decide) h)
      refine lv_iinc (k := 0) (v := 4) hx hb d_lw_law_396 hl rfl (by decide) (by decide) rfl (fun ls hl => ?_)
      have hl : lv_has ls 4 [(3, .int 4), (2, .ref q35), (1, .ref q1), (0, .ref b)] := hl
      refine lv_goto hx hb d_lw_law_399 rfl ?_
      refine lv_iload_n hx hb d_lw_law_18 rfl (lv_at hl 0 rfl) ?_
      refine lv_aload_n hx hb d_lw_law_19 rfl (lv_at hl 3 rfl) ?_
      refine va_slen hx hb hXs hbl hbA hS d_lw_law_20 ?_
      refine lv_iconst (v := 4) hx hb d_lw_law_21 (by decide) ?_
      refine lv_isub hx hb d_lw_law_22 ?_
      refine lv_topi (fun y0 e0 => ?_)
      have e0 : y0 = 0 := e0.trans (by decide)
      subst e0
      refine lv_icmp_gt hx hb d_lw_law_23 rfl (fun _ => ?_) (fun h => absurd (by decide) h)
      refine lv_iconst (v := 1) hx hb d_lw_law_402 (by decide) ?_
      refine W.widen (k := 60000) (n := 8922250) (Nat.le_of_ble_eq_true rfl) (Nat.le_of_ble_eq_true rfl) ?_
      refine va_forget (fun q h => hA2 _ (hS.2.2 q h)) ?_
      exact lw_ret hx hb hr hlk d_lw_law_403
    ·
      refine lv_tableIn hx hb d_lw_law_32 (by decide) (by decide) (off := 298) (tgt := 330) rfl rfl ?_
      have hP := hP.sub (ws' := (([(q1, .inr (6, [.ref fa2, .ref ca3, .ref pa4, .ref da5, .ref ea6])), (da5, .inr (2, [.ref dce31, .ref dto33, .ref dle34])), (dce31, .inl (cII, 6, .inr (.inr (.inr (.inr (fun i => if i < 6 then some (rl32 i) else none)))))), (dto33, .inl (cI, 6, .inl (fun _ => 0))), (dle34, .inl (cI, 6, .inl (fun _ => 0)))] ++ mt_rw 6 rl32 (fun _ => .inl (cI, 30, .inl (fun _ => 0)))) ++ [(q35, .inr (7, [.int 1, .int 1, .ref nwalls36, .int 0, .ref nstarts37, .ref ngoals38, .ref nlaid39, .ref nisTold40, .int 0, .ref ncells41, .ref nindex42, .ref nnear43, .ref nnearCount44, .ref npay45, .ref ndone46, .ref npile47, .int 0, .ref nnow48, .ref nthen49, .ref nchoice50, .int 0, .int 0, .ref nplan51, .ref ncosts52, .ref npaid53, .ref nafter54, .ref nfar55, .ref nmany56, .ref nnext57, .int 0, .int 0, .int 0, .int 0])), (nlaid39, .inl (cI, 180, .inl (fun _ => 0))), (nisTold40, .inl (cZ, 180, .inl (fun _ => 0)))])) [0, 113, 114, 121, 122, 115, 116, 117, 118, 119, 120, 124, 128, 129] rfl
      have hD := hD.sub (ws' := (([(q1, .inr (6, [.ref fa2, .ref ca3, .ref pa4, .ref da5, .ref ea6])), (da5, .inr (2, [.ref dce31, .ref dto33, .ref dle34])), (dce31, .inl (cII, 6, .inr (.inr (.inr (.inr (fun i => if i < 6 then some (rl32 i) else none)))))), (dto33, .inl (cI, 6, .inl (fun _ => 0))), (dle34, .inl (cI, 6, .inl (fun _ => 0)))] ++ mt_rw 6 rl32 (fun _ => .inl (cI, 30, .inl (fun _ => 0)))) ++ [(q35, .inr (7, [.int 1, .int 1, .ref nwalls36, .int 0, .ref nstarts37, .ref ngoals38, .ref nlaid39, .ref nisTold40, .int 0, .ref ncells41, .ref nindex42, .ref nnear43, .ref nnearCount44, .ref npay45, .ref ndone46, .ref npile47, .int 0, .ref nnow48, .ref nthen49, .ref nchoice50, .int 0, .int 0, .ref nplan51, .ref ncosts52, .ref npaid53, .ref nafter54, .ref nfar55, .ref nmany56, .ref nnext57, .int 0, .int 0, .int 0, .int 0])), (nlaid39, .inl (cI, 180, .inl (fun _ => 0))), (nisTold40, .inl (cZ, 180, .inl (fun _ => 0)))])) [0, 113, 114, 121, 122, 115, 116, 117, 118, 119, 120, 124, 128, 129] (by decide) rfl
      have hP : va_P D kls (([(q1, .inr (6, [.ref fa2, .ref ca3, .ref pa4, .ref da5, .ref ea6])), (da5, .inr (2, [.ref dce31, .ref dto33, .ref dle34])), (dce31, .inl (cII, 6, .inr (.inr (.inr (.inr (fun i => if i < 6 then some (rl32 i) else none)))))), (dto33, .inl (cI, 6, .inl (fun _ => 0))), (dle34, .inl (cI, 6, .inl (fun _ => 0)))] ++ mt_rw 6 rl32 (fun _ => .inl (cI, 30, .inl (fun _ => 0)))) ++ [(q35, .inr (7, [.int 1, .int 1, .ref nwalls36, .int 0, .ref nstarts37, .ref ngoals38, .ref nlaid39, .ref nisTold40, .int 0, .ref ncells41, .ref nindex42, .ref nnear43, .ref nnearCount44, .ref npay45, .ref ndone46, .ref npile47, .int 0, .ref nnow48, .ref nthen49, .ref nchoice50, .int 0, .int 0, .ref nplan51, .ref ncosts52, .ref npaid53, .ref nafter54, .ref nfar55, .ref nmany56, .ref nnext57, .int 0, .int 0, .int 0, .int 0])), (nlaid39, .inl (cI, 180, .inl (fun _ => 0))), (nisTold40, .inl (cZ, 180, .inl (fun _ => 0)))]) H := hP
      have hD : va_D A (([(q1, .inr (6, [.ref fa2, .ref ca3, .ref pa4, .ref da5, .ref ea6])), (da5, .inr (2, [.ref dce31, .ref dto33, .ref dle34])), (dce31, .inl (cII, 6, .inr (.inr (.inr (.inr (fun i => if i < 6 then some (rl32 i) else none)))))), (dto33, .inl (cI, 6, .inl (fun _ => 0))), (dle34, .inl (cI, 6, .inl (fun _ => 0)))] ++ mt_rw 6 rl32 (fun _ => .inl (cI, 30, .inl (fun _ => 0)))) ++ [(q35, .inr (7, [.int 1, .int 1, .ref nwalls36, .int 0, .ref nstarts37, .ref ngoals38, .ref nlaid39, .ref nisTold40, .int 0, .ref ncells41, .ref nindex42, .ref nnear43, .ref nnearCount44, .ref npay45, .ref ndone46, .ref npile47, .int 0, .ref nnow48, .ref nthen49, .ref nchoice50, .int 0, .int 0, .ref nplan51, .ref ncosts52, .ref npaid53, .ref nafter54, .ref nfar55, .ref nmany56, .ref nnext57, .int 0, .int 0, .int 0, .int 0])), (nlaid39, .inl (cI, 180, .inl (fun _ => 0))), (nisTold40, .inl (cZ, 180, .inl (fun _ => 0)))]) := hD
      refine lv_aload_n hx hb d_lw_law_330 rfl (lv_at hl 2 rfl) ?_
      refine lv_aload_n hx hb d_lw_law_331 rfl (lv_at hl 3 rfl) ?_
      refine lv_iload_n hx hb d_lw_law_332 rfl (lv_at hl 0 rfl) ?_
      refine lv_iconst (v := 1) hx hb d_lw_law_333 (by decide) ?_
      refine lv_iadd hx hb d_lw_law_334 ?_
      refine va_sld hx hb hXs hbl hbA hS (by unfold vp_in; decide) d_lw_law_335 ?_
      refine lv_topi (fun y101 ey101 => ?_)
      have ey101 : y101 = xs 1 := ey101
      subst ey101
      refine lv_aload_n hx hb d_lw_law_336 rfl (lv_at hl 3 rfl) ?_
      refine lv_iload_n hx hb d_lw_law_337 rfl (lv_at hl 0 rfl) ?_
      refine lv_iconst (v := 2) hx hb d_lw_law_338 (by decide) ?_
      refine lv_iadd hx hb d_lw_law_339 ?_
      refine va_sld hx hb hXs hbl hbA hS (by unfold vp_in; decide) d_lw_law_340 ?_
      refine lv_topi (fun y102 ey102 => ?_)
      have ey102 : y102 = xs 2 := ey102
      subst ey102
      refine lv_aload_n hx hb d_lw_law_341 rfl (lv_at hl 3 rfl) ?_
      refine lv_iload_n hx hb d_lw_law_342 rfl (lv_at hl 0 rfl) ?_
      refine lv_iconst (v := 3) hx hb d_lw_law_343 (by decide) ?_
      refine lv_iadd hx hb d_lw_law_344 ?_
      refine va_sld hx hb hXs hbl hbA hS (by unfold vp_in; decide) d_lw_law_345 ?_
      refine lv_topi (fun y103 ey103 => ?_)
      have ey103 : y103 = xs 3 := ey103
      subst ey103
      have hPc := hP.sub (ws' := ([(q1, .inr (6, [.ref fa2, .ref ca3, .ref pa4, .ref da5, .ref ea6])), (da5, .inr (2, [.ref dce31, .ref dto33, .ref dle34])), (dce31, .inl (cII, 6, .inr (.inr (.inr (.inr (fun i => if i < 6 then some (rl32 i) else none)))))), (dto33, .inl (cI, 6, .inl (fun _ => 0))), (dle34, .inl (cI, 6, .inl (fun _ => 0)))] ++ mt_rw 6 rl32 (fun _ => .inl (cI, 30, .inl (fun _ => 0))))) [0, 1, 2, 3, 4, 5, 6, 7, 8, 9, 10] rfl
      have hDc := hD.sub (ws' := ([(q1, .inr (6, [.ref fa2, .ref ca3, .ref pa4, .ref da5, .ref ea6])), (da5, .inr (2, [.ref dce31, .ref dto33, .ref dle34])), (dce31, .inl (cII, 6, .inr (.inr (.inr (.inr (fun i => if i < 6 then some (rl32 i) else none)))))), (dto33, .inl (cI, 6, .inl (fun _ => 0))), (dle34, .inl (cI, 6, .inl (fun _ => 0)))] ++ mt_rw 6 rl32 (fun _ => .inl (cI, 30, .inl (fun _ => 0))))) [0, 1, 2, 3, 4, 5, 6, 7, 8, 9, 10] (by decide) rfl
      have hFc := va_free (wc := ([(q1, .inr (6, [.ref fa2, .ref ca3, .ref pa4, .ref da5, .ref ea6])), (da5, .inr (2, [.ref dce31, .ref dto33, .ref dle34])), (dce31, .inl (cII, 6, .inr (.inr (.inr (.inr (fun i => if i < 6 then some (rl32 i) else none)))))), (dto33, .inl (cI, 6, .inl (fun _ => 0))), (dle34, .inl (cI, 6, .inl (fun _ => 0)))] ++ mt_rw 6 rl32 (fun _ => .inl (cI, 30, .inl (fun _ => 0))))) hD hS hA [0, 1, 2, 3, 4, 5, 6, 7, 8, 9, 10] rfl
      refine va_calli (va_runV (As := [.int (xs 1), .int (xs 2), .int (xs 3)]) (rest := []) ⟨hx, hb, hml, hown, hg⟩ (c_mr_lay l D cZ cI cJ cII q1 fa2 ca3 pa4 ea6 da5 dce31 dto33 dle34 rl32 (fun _ => 0) (fun _ => 0) (fun _ => .inl (cI, 30, .inl (fun _ => 0))) (xs 1) (xs 2) (xs 3) H.size (fun _ => rfl) (fun _ => rfl) (fun _ => ⟨_, rfl⟩)) (cwV 3 hg gv_lw_53 rfl rfl rfl (by decide +kernel) ⟨Nat.le_of_ble_eq_true rfl, Nat.le_of_ble_eq_true rfl⟩) ⟨mt_bl, va_recv (q0 := 0) (ci := 6) hK hP rfl rfl, mt_pr hX hPc hK hDc⟩ rfl rfl hl.1 rfl (lv_room (Nat.le_of_ble_eq_true rfl)) d_lw_law_346 ⟨Nat.le_of_ble_eq_true rfl, Nat.le_of_ble_eq_true rfl⟩) hS (fun q _ h => hFc q h) hFc (fun r104 u t H1 locs ht hvm hw hB hz1 hk1 hS => ?_)
      obtain ⟨hr104, hwr104⟩ := hw
      have hr104 : r104 = -1 := hr104
      obtain ⟨hP, hD⟩ := va_join (wr := [(q35, .inr (7, [.int 1, .int 1, .ref nwalls36, .int 0, .ref nstarts37, .ref ngoals38, .ref nlaid39, .ref nisTold40, .int 0, .ref ncells41, .ref nindex42, .ref nnear43, .ref nnearCount44, .ref npay45, .ref ndone46, .ref npile47, .int 0, .ref nnow48, .ref nthen49, .ref nchoice50, .int 0, .int 0, .ref nplan51, .ref ncosts52, .ref npaid53, .ref nafter54, .ref nfar55, .ref nmany56, .ref nnext57, .int 0, .int 0, .int 0, .int 0])), (nlaid39, .inl (cI, 180, .inl (fun _ => 0))), (nisTold40, .inl (cZ, 180, .inl (fun _ => 0)))]) (w1 := []) hP hD [0, 1, 2, 3, 4, 5, 6, 7, 8, 9, 10] [11, 12, 13] rfl rfl (by decide) (by decide) hk1 hFc mt_P0 mt_D0
      generalize H1 = H at hP hS ⊢
      have hP : va_P D kls [(q35, .inr (7, [.int 1, .int 1, .ref nwalls36, .int 0, .ref nstarts37, .ref ngoals38, .ref nlaid39, .ref nisTold40, .int 0, .ref ncells41, .ref nindex42, .ref nnear43, .ref nnearCount44, .ref npay45, .ref ndone46, .ref npile47, .int 0, .ref nnow48, .ref nthen49, .ref nchoice50, .int 0, .int 0, .ref nplan51, .ref ncosts52, .ref npaid53, .ref nafter54, .ref nfar55, .ref nmany56, .ref nnext57, .int 0, .int 0, .int 0, .int 0])), (nlaid39, .inl (cI, 180, .inl (fun _ => 0))), (nisTold40, .inl (cZ, 180, .inl (fun _ => 0)))] H := hP
      have hD : va_D A [(q35, .inr (7, [.int 1, .int 1, .ref nwalls36, .int 0, .ref nstarts37, .ref ngoals38, .ref nlaid39, .ref nisTold40, .int 0, .ref ncells41, .ref nindex42, .ref nnear43, .ref nnearCount44, .ref npay45, .ref ndone46, .ref npile47, .int 0, .ref nnow48, .ref nthen49, .ref nchoice50, .int 0, .int 0, .ref nplan51, .ref ncosts52, .ref npaid53, .ref nafter54, .ref nfar55, .ref nmany56, .ref nnext57, .int 0, .int 0, .int 0, .int 0])), (nlaid39, .inl (cI, 180, .inl (fun _ => 0))), (nisTold40, .inl (cZ, 180, .inl (fun _ => 0)))] := hD
      have hr104 : r104 = (-1) := hr104
      subst hr104
      refine lv_aload_n hx hb d_lw_law_349 rfl (lv_at hl 1 rfl) ?_
      refine lv_aload_n hx hb d_lw_law_350 rfl (lv_at hl 3 rfl) ?_
      refine lv_iload_n hx hb d_lw_law_351 rfl (lv_at hl 0 rfl) ?_
      refine lv_iconst (v := 1) hx hb d_lw_law_352 (by decide) ?_
      refine lv_iadd hx hb d_lw_law_353 ?_
      refine va_sld hx hb hXs hbl hbA hS (by unfold vp_in; decide) d_lw_law_354 ?_
      refine lv_topi (fun y105 ey105 => ?_)
      have ey105 : y105 = xs 1 := ey105
      subst ey105
      refine lv_aload_n hx hb d_lw_law_355 rfl (lv_at hl 3 rfl) ?_
      refine lv_iload_n hx hb d_lw_law_356 rfl (lv_at hl 0 rfl) ?_
      refine lv_iconst (v := 2) hx hb d_lw_law_357 (by decide) ?_
      refine lv_iadd hx hb d_lw_law_358 ?_
      refine va_sld hx hb hXs hbl hbA hS (by unfold vp_in; decide) d_lw_law_359 ?_
      refine lv_topi (fun y106 ey106 => ?_)
      have ey106 : y106 = xs 2 := ey106
      subst ey106
      refine lv_aload_n hx hb d_lw_law_360 rfl (lv_at hl 3 rfl) ?_
      refine lv_iload_n hx hb d_lw_law_361 rfl (lv_at hl 0 rfl) ?_
      refine lv_iconst (v := 3) hx hb d_lw_law_362 (by decide) ?_
      refine lv_iadd hx hb d_lw_law_363 ?_
      refine va_sld hx hb hXs hbl hbA hS (by unfold vp_in; decide) d_lw_law_364 ?_
      refine lv_topi (fun y107 ey107 => ?_)
      have ey107 : y107 = xs 3 := ey107
      subst ey107
      have hPc := hP
      have hDc := hD
      have hFc := mt_whole hD hS hA
      refine va_calli (va_runV (As := [.int (xs 1), .int (xs 2), .int (xs 3)]) (rest := [.int (-1)]) ⟨hx, hb, hml, hown, hg⟩ (c_md_lay l D cZ cI cJ cII q35 nwalls36 nstarts37 ngoals38 nlaid39 nisTold40 ncells41 nindex42 nnear43 nnearCount44 npay45 ndone46 npile47 nnow48 nthen49 nchoice50 nplan51 ncosts52 npaid53 nafter54 nfar55 nmany56 nnext57 1 1 0 0 0 0 0 0 0 0 0 (fun _ => 0) (fun _ => 0) (xs 1) (xs 2) (xs 3) H.size (fun _ => rfl)) (cwV 3 hg gv_lw_57 rfl rfl rfl (by decide +kernel) ⟨Nat.le_of_ble_eq_true rfl, Nat.le_of_ble_eq_true rfl⟩) ⟨mt_bl, va_recv (q0 := 0) (ci := 7) hK hP rfl rfl, mt_pr hX hPc hK hDc⟩ rfl rfl hl.1 rfl (lv_room (Nat.le_of_ble_eq_true rfl)) d_lw_law_365 ⟨Nat.le_of_ble_eq_true rfl, Nat.le_of_ble_eq_true rfl⟩) hS (fun q _ h => hFc q h) hFc (fun r108 u t H1 locs ht hvm hw hB hz1 hk1 hS => ?_)
      obtain ⟨hr108, hwr108⟩ := hw
      have hr108 : r108 = -1 := hr108
      obtain ⟨hP, hD⟩ := va_join (wr := []) (w1 := []) hP hD [0, 1, 2] [] rfl rfl (by decide) (by decide) hk1 hFc mt_P0 mt_D0
      generalize H1 = H at hP hS ⊢
      have hP : va_P D kls [] H := hP
      have hD : va_D A [] := hD
      have hr108 : r108 = (-1) := hr108
      subst hr108
      refine lv_icmp_eq hx hb d_lw_law_368 rfl (fun _ => ?_) (fun h => absurd (by decide) h)
      refine lv_iinc (k := 0) (v := 4) hx hb d_lw_law_396 hl rfl (by decide) (by decide) rfl (fun ls hl => ?_)
      have hl : lv_has ls 4 [(3, .int 4), (2, .ref q35), (1, .ref q1), (0, .ref b)] := hl
      refine lv_goto hx hb d_lw_law_399 rfl ?_
      refine lv_iload_n hx hb d_lw_law_18 rfl (lv_at hl 0 rfl) ?_
      refine lv_aload_n hx hb d_lw_law_19 rfl (lv_at hl 3 rfl) ?_
      refine va_slen hx hb hXs hbl hbA hS d_lw_law_20 ?_
      refine lv_iconst (v := 4) hx hb d_lw_law_21 (by decide) ?_
      refine lv_isub hx hb d_lw_law_22 ?_
      refine lv_topi (fun y0 e0 => ?_)
      have e0 : y0 = 0 := e0.trans (by decide)
      subst e0
      refine lv_icmp_gt hx hb d_lw_law_23 rfl (fun _ => ?_) (fun h => absurd (by decide) h)
      refine lv_iconst (v := 1) hx hb d_lw_law_402 (by decide) ?_
      refine W.widen (k := 60000) (n := 8922250) (Nat.le_of_ble_eq_true rfl) (Nat.le_of_ble_eq_true rfl) ?_
      refine va_forget (fun q h => hA2 _ (hS.2.2 q h)) ?_
      exact lw_ret hx hb hr hlk d_lw_law_403
    ·
      refine lv_tableIn hx hb d_lw_law_32 (by decide) (by decide) (off := 341) (tgt := 373) rfl rfl ?_
      have hP := hP.sub (ws' := [(q1, .inr (6, [.ref fa2, .ref ca3, .ref pa4, .ref da5, .ref ea6])), (ea6, .inr (5, [.ref fa2, .ref ca3, .ref da5, .int 0, .int 0, .int 0, .int 0])), (ca3, .inr (0, [.ref fa2, .int 0, .ref cs17, .ref cg18, .ref cto19, .ref cq21, .ref cco22, .ref cnx23])), (q35, .inr (7, [.int 1, .int 1, .ref nwalls36, .int 0, .ref nstarts37, .ref ngoals38, .ref nlaid39, .ref nisTold40, .int 0, .ref ncells41, .ref nindex42, .ref nnear43, .ref nnearCount44, .ref npay45, .ref ndone46, .ref npile47, .int 0, .ref nnow48, .ref nthen49, .ref nchoice50, .int 0, .int 0, .ref nplan51, .ref ncosts52, .ref npaid53, .ref nafter54, .ref nfar55, .ref nmany56, .ref nnext57, .int 0, .int 0, .int 0, .int 0]))]) [0, 123, 31, 124] rfl
      have hD := hD.sub (ws' := [(q1, .inr (6, [.ref fa2, .ref ca3, .ref pa4, .ref da5, .ref ea6])), (ea6, .inr (5, [.ref fa2, .ref ca3, .ref da5, .int 0, .int 0, .int 0, .int 0])), (ca3, .inr (0, [.ref fa2, .int 0, .ref cs17, .ref cg18, .ref cto19, .ref cq21, .ref cco22, .ref cnx23])), (q35, .inr (7, [.int 1, .int 1, .ref nwalls36, .int 0, .ref nstarts37, .ref ngoals38, .ref nlaid39, .ref nisTold40, .int 0, .ref ncells41, .ref nindex42, .ref nnear43, .ref nnearCount44, .ref npay45, .ref ndone46, .ref npile47, .int 0, .ref nnow48, .ref nthen49, .ref nchoice50, .int 0, .int 0, .ref nplan51, .ref ncosts52, .ref npaid53, .ref nafter54, .ref nfar55, .ref nmany56, .ref nnext57, .int 0, .int 0, .int 0, .int 0]))]) [0, 123, 31, 124] (by decide) rfl
      have hP : va_P D kls [(q1, .inr (6, [.ref fa2, .ref ca3, .ref pa4, .ref da5, .ref ea6])), (ea6, .inr (5, [.ref fa2, .ref ca3, .ref da5, .int 0, .int 0, .int 0, .int 0])), (ca3, .inr (0, [.ref fa2, .int 0, .ref cs17, .ref cg18, .ref cto19, .ref cq21, .ref cco22, .ref cnx23])), (q35, .inr (7, [.int 1, .int 1, .ref nwalls36, .int 0, .ref nstarts37, .ref ngoals38, .ref nlaid39, .ref nisTold40, .int 0, .ref ncells41, .ref nindex42, .ref nnear43, .ref nnearCount44, .ref npay45, .ref ndone46, .ref npile47, .int 0, .ref nnow48, .ref nthen49, .ref nchoice50, .int 0, .int 0, .ref nplan51, .ref ncosts52, .ref npaid53, .ref nafter54, .ref nfar55, .ref nmany56, .ref nnext57, .int 0, .int 0, .int 0, .int 0]))] H := hP
      have hD : va_D A [(q1, .inr (6, [.ref fa2, .ref ca3, .ref pa4, .ref da5, .ref ea6])), (ea6, .inr (5, [.ref fa2, .ref ca3, .ref da5, .int 0, .int 0, .int 0, .int 0])), (ca3, .inr (0, [.ref fa2, .int 0, .ref cs17, .ref cg18, .ref cto19, .ref cq21, .ref cco22, .ref cnx23])), (q35, .inr (7, [.int 1, .int 1, .ref nwalls36, .int 0, .ref nstarts37, .ref ngoals38, .ref nlaid39, .ref nisTold40, .int 0, .ref ncells41, .ref nindex42, .ref nnear43, .ref nnearCount44, .ref npay45, .ref ndone46, .ref npile47, .int 0, .ref nnow48, .ref nthen49, .ref nchoice50, .int 0, .int 0, .ref nplan51, .ref ncosts52, .ref npaid53, .ref nafter54, .ref nfar55, .ref nmany56, .ref nnext57, .int 0, .int 0, .int 0, .int 0]))] := hD
      refine lv_aload_n hx hb d_lw_law_373 rfl (lv_at hl 2 rfl) ?_
      refine lv_aload_n hx hb d_lw_law_374 rfl (lv_at hl 3 rfl) ?_
      refine lv_iload_n hx hb d_lw_law_375 rfl (lv_at hl 0 rfl) ?_
      refine lv_iconst (v := 1) hx hb d_lw_law_376 (by decide) ?_
      refine lv_iadd hx hb d_lw_law_377 ?_
      refine va_sld hx hb hXs hbl hbA hS (by unfold vp_in; decide) d_lw_law_378 ?_
      refine lv_topi (fun y109 ey109 => ?_)
      have ey109 : y109 = xs 1 := ey109
      subst ey109
      have hPc := hP.sub (ws' := [(q1, .inr (6, [.ref fa2, .ref ca3, .ref pa4, .ref da5, .ref ea6])), (ea6, .inr (5, [.ref fa2, .ref ca3, .ref da5, .int 0, .int 0, .int 0, .int 0])), (ca3, .inr (0, [.ref fa2, .int 0, .ref cs17, .ref cg18, .ref cto19, .ref cq21, .ref cco22, .ref cnx23]))]) [0, 1, 2] rfl
      have hDc := hD.sub (ws' := [(q1, .inr (6, [.ref fa2, .ref ca3, .ref pa4, .ref da5, .ref ea6])), (ea6, .inr (5, [.ref fa2, .ref ca3, .ref da5, .int 0, .int 0, .int 0, .int 0])), (ca3, .inr (0, [.ref fa2, .int 0, .ref cs17, .ref cg18, .ref cto19, .ref cq21, .ref cco22, .ref cnx23]))]) [0, 1, 2] (by decide) rfl
      have hFc := va_free (wc := [(q1, .inr (6, [.ref fa2, .ref ca3, .ref pa4, .ref da5, .ref ea6])), (ea6, .inr (5, [.ref fa2, .ref ca3, .ref da5, .int 0, .int 0, .int 0, .int 0])), (ca3, .inr (0, [.ref fa2, .int 0, .ref cs17, .ref cg18, .ref cto19, .ref cq21, .ref cco22, .ref cnx23]))]) hD hS hA [0, 1, 2] rfl
      refine va_calli (va_runV (As := [.int (xs 1)]) (rest := []) ⟨hx, hb, hml, hown, hg⟩ (c_mr_judge l D cZ cI cJ cII q1 fa2 ca3 pa4 da5 ea6 fa2 da5 0 0 0 0 ca3 fa2 cs17 cg18 cto19 cq21 cco22 cnx23 (xs 1) H.size ) (cwV 1 hg gv_lw_58 rfl rfl rfl (by decide +kernel) ⟨Nat.le_of_ble_eq_true rfl, Nat.le_of_ble_eq_true rfl⟩) ⟨mt_bl, va_recv (q0 := 0) (ci := 6) hK hP rfl rfl, mt_pr hX hPc hK hDc⟩ rfl rfl hl.1 rfl (lv_room (Nat.le_of_ble_eq_true rfl)) d_lw_law_379 ⟨Nat.le_of_ble_eq_true rfl, Nat.le_of_ble_eq_true rfl⟩) hS (fun q _ h => hFc q h) hFc (fun r110 u t H1 locs ht hvm hw hB hz1 hk1 hS => ?_)
      obtain ⟨hr110, hwr110⟩ := hw
      have hr110 : (r110 = 0 ∧ (xs 1) = 0) ∨ (r110 = -1 ∧ ¬ (xs 1) = 0) := hr110
      obtain ⟨hP, hD⟩ := va_join (wr := [(q35, .inr (7, [.int 1, .int 1, .ref nwalls36, .int 0, .ref nstarts37, .ref ngoals38, .ref nlaid39, .ref nisTold40, .int 0, .ref ncells41, .ref nindex42, .ref nnear43, .ref nnearCount44, .ref npay45, .ref ndone46, .ref npile47, .int 0, .ref nnow48, .ref nthen49, .ref nchoice50, .int 0, .int 0, .ref nplan51, .ref ncosts52, .ref npaid53, .ref nafter54, .ref nfar55, .ref nmany56, .ref nnext57, .int 0, .int 0, .int 0, .int 0]))]) (w1 := []) hP hD [0, 1, 2] [3] rfl rfl (by decide) (by decide) hk1 hFc mt_P0 mt_D0
      generalize H1 = H at hP hS ⊢
      have hP : va_P D kls [(q35, .inr (7, [.int 1, .int 1, .ref nwalls36, .int 0, .ref nstarts37, .ref ngoals38, .ref nlaid39, .ref nisTold40, .int 0, .ref ncells41, .ref nindex42, .ref nnear43, .ref nnearCount44, .ref npay45, .ref ndone46, .ref npile47, .int 0, .ref nnow48, .ref nthen49, .ref nchoice50, .int 0, .int 0, .ref nplan51, .ref ncosts52, .ref npaid53, .ref nafter54, .ref nfar55, .ref nmany56, .ref nnext57, .int 0, .int 0, .int 0, .int 0]))] H := hP
      have hD : va_D A [(q35, .inr (7, [.int 1, .int 1, .ref nwalls36, .int 0, .ref nstarts37, .ref ngoals38, .ref nlaid39, .ref nisTold40, .int 0, .ref ncells41, .ref nindex42, .ref nnear43, .ref nnearCount44, .ref npay45, .ref ndone46, .ref npile47, .int 0, .ref nnow48, .ref nthen49, .ref nchoice50, .int 0, .int 0, .ref nplan51, .ref ncosts52, .ref npaid53, .ref nafter54, .ref nfar55, .ref nmany56, .ref nnext57, .int 0, .int 0, .int 0, .int 0]))] := hD
      refine lv_aload_n hx hb d_lw_law_382 rfl (lv_at hl 1 rfl) ?_
      refine lv_aload_n hx hb d_lw_law_383 rfl (lv_at hl 3 rfl) ?_
      refine lv_iload_n hx hb d_lw_law_384 rfl (lv_at hl 0 rfl) ?_
      refine lv_iconst (v := 1) hx hb d_lw_law_385 (by decide) ?_
      refine lv_iadd hx hb d_lw_law_386 ?_
      refine va_sld hx hb hXs hbl hbA hS (by unfold vp_in; decide) d_lw_law_387 ?_
      refine lv_topi (fun y111 ey111 => ?_)
      have ey111 : y111 = xs 1 := ey111
      subst ey111
      have hPc := hP
      have hDc := hD
      have hFc := mt_whole hD hS hA
      refine va_calli (va_runV (As := [.int (xs 1)]) (rest := [.int r110]) ⟨hx, hb, hml, hown, hg⟩ (c_md_judge l D cZ cI cJ cII q35 nwalls36 nstarts37 ngoals38 nlaid39 nisTold40 ncells41 nindex42 nnear43 nnearCount44 npay45 ndone46 npile47 nnow48 nthen49 nchoice50 nplan51 ncosts52 npaid53 nafter54 nfar55 nmany56 nnext57 1 1 0 0 0 0 0 0 0 0 (xs 1) H.size ) (cwV 1 hg gv_lw_61 rfl rfl rfl (by decide +kernel) ⟨Nat.le_of_ble_eq_true rfl, Nat.le_of_ble_eq_true rfl⟩) ⟨mt_bl, va_recv (q0 := 0) (ci := 7) hK hP rfl rfl, mt_pr hX hPc hK hDc⟩ rfl rfl hl.1 rfl (lv_room (Nat.le_of_ble_eq_true rfl)) d_lw_law_388 ⟨Nat.le_of_ble_eq_true rfl, Nat.le_of_ble_eq_true rfl⟩) hS (fun q _ h => hFc q h) hFc (fun r112 u t H1 locs ht hvm hw hB hz1 hk1 hS => ?_)
      obtain ⟨hr112, hwr112⟩ := hw
      have hr112 : (r112 = 0 ∧ (xs 1) = 0) ∨ (r112 = -1 ∧ ¬ (xs 1) = 0) := hr112
      obtain ⟨hP, hD⟩ := va_join (wr := []) (w1 := []) hP hD [0] [] rfl rfl (by decide) (by decide) hk1 hFc mt_P0 mt_D0
      generalize H1 = H at hP hS ⊢
      have hP : va_P D kls [] H := hP
      have hD : va_D A [] := hD
      refine lv_icmp_eq hx hb d_lw_law_391 rfl (fun _ => ?_) (fun h => absurd (mt_two hr110 hr112 (fun p q => q p)) h)
      refine lv_iinc (k := 0) (v := 4) hx hb d_lw_law_396 hl rfl (by decide) (by decide) rfl (fun ls hl => ?_)
      have hl : lv_has ls 4 [(3, .int 4), (2, .ref q35), (1, .ref q1), (0, .ref b)] := hl
      refine lv_goto hx hb d_lw_law_399 rfl ?_
      refine lv_iload_n hx hb d_lw_law_18 rfl (lv_at hl 0 rfl) ?_
      refine lv_aload_n hx hb d_lw_law_19 rfl (lv_at hl 3 rfl) ?_
      refine va_slen hx hb hXs hbl hbA hS d_lw_law_20 ?_
      refine lv_iconst (v := 4) hx hb d_lw_law_21 (by decide) ?_
      refine lv_isub hx hb d_lw_law_22 ?_
      refine lv_topi (fun y0 e0 => ?_)
      have e0 : y0 = 0 := e0.trans (by decide)
      subst e0
      refine lv_icmp_gt hx hb d_lw_law_23 rfl (fun _ => ?_) (fun h => absurd (by decide) h)
      refine lv_iconst (v := 1) hx hb d_lw_law_402 (by decide) ?_
      refine W.widen (k := 60000) (n := 8922250) (Nat.le_of_ble_eq_true rfl) (Nat.le_of_ble_eq_true rfl) ?_
      refine va_forget (fun q h => hA2 _ (hS.2.2 q h)) ?_
      exact lw_ret hx hb hr hlk d_lw_law_403
    ·
      refine lv_tableOut hx hb d_lw_law_32 (Or.inr (by decide)) (tgt := 396) rfl ?_
      refine lv_iinc (k := 0) (v := 4) hx hb d_lw_law_396 hl rfl (by decide) (by decide) rfl (fun ls hl => ?_)
      have hl : lv_has ls 4 [(3, .int 4), (2, .ref q35), (1, .ref q1), (0, .ref b)] := hl
      refine lv_goto hx hb d_lw_law_399 rfl ?_
      refine lv_iload_n hx hb d_lw_law_18 rfl (lv_at hl 0 rfl) ?_
      refine lv_aload_n hx hb d_lw_law_19 rfl (lv_at hl 3 rfl) ?_
      refine va_slen hx hb hXs hbl hbA hS d_lw_law_20 ?_
      refine lv_iconst (v := 4) hx hb d_lw_law_21 (by decide) ?_
      refine lv_isub hx hb d_lw_law_22 ?_
      refine lv_topi (fun y0 e0 => ?_)
      have e0 : y0 = 0 := e0.trans (by decide)
      subst e0
      refine lv_icmp_gt hx hb d_lw_law_23 rfl (fun _ => ?_) (fun h => absurd (by decide) h)
      refine lv_iconst (v := 1) hx hb d_lw_law_402 (by decide) ?_
      refine W.widen (k := 60000) (n := 8922250) (Nat.le_of_ble_eq_true rfl) (Nat.le_of_ble_eq_true rfl) ?_
      refine va_forget (fun q h => hA2 _ (hS.2.2 q h)) ?_
      exact lw_ret hx hb hr hlk d_lw_law_403
    ·
      refine lv_tableOut hx hb d_lw_law_32 (Or.inr (by decide)) (tgt := 396) rfl ?_
      refine lv_iinc (k := 0) (v := 4) hx hb d_lw_law_396 hl rfl (by decide) (by decide) rfl (fun ls hl => ?_)
      have hl : lv_has ls 4 [(3, .int 4), (2, .ref q35), (1, .ref q1), (0, .ref b)] := hl
      refine lv_goto hx hb d_lw_law_399 rfl ?_
      refine lv_iload_n hx hb d_lw_law_18 rfl (lv_at hl 0 rfl) ?_
      refine lv_aload_n hx hb d_lw_law_19 rfl (lv_at hl 3 rfl) ?_
      refine va_slen hx hb hXs hbl hbA hS d_lw_law_20 ?_
      refine lv_iconst (v := 4) hx hb d_lw_law_21 (by decide) ?_
      refine lv_isub hx hb d_lw_law_22 ?_
      refine lv_topi (fun y0 e0 => ?_)
      have e0 : y0 = 0 := e0.trans (by decide)
      subst e0
      refine lv_icmp_gt hx hb d_lw_law_23 rfl (fun _ => ?_) (fun h => absurd (by decide) h)
      refine lv_iconst (v := 1) hx hb d_lw_law_402 (by decide) ?_
      refine W.widen (k := 60000) (n := 8922250) (Nat.le_of_ble_eq_true rfl) (Nat.le_of_ble_eq_true rfl) ?_
      refine va_forget (fun q h => hA2 _ (hS.2.2 q h)) ?_
      exact lw_ret hx hb hr hlk d_lw_law_403
    ·
      refine lv_tableOut hx hb d_lw_law_32 (Or.inr (by decide)) (tgt := 396) rfl ?_
      refine lv_iinc (k := 0) (v := 4) hx hb d_lw_law_396 hl rfl (by decide) (by decide) rfl (fun ls hl => ?_)
      have hl : lv_has ls 4 [(3, .int 4), (2, .ref q35), (1, .ref q1), (0, .ref b)] := hl
      refine lv_goto hx hb d_lw_law_399 rfl ?_
      refine lv_iload_n hx hb d_lw_law_18 rfl (lv_at hl 0 rfl) ?_
      refine lv_aload_n hx hb d_lw_law_19 rfl (lv_at hl 3 rfl) ?_
      refine va_slen hx hb hXs hbl hbA hS d_lw_law_20 ?_
      refine lv_iconst (v := 4) hx hb d_lw_law_21 (by decide) ?_
      refine lv_isub hx hb d_lw_law_22 ?_
      refine lv_topi (fun y0 e0 => ?_)
      have e0 : y0 = 0 := e0.trans (by decide)
      subst e0
      refine lv_icmp_gt hx hb d_lw_law_23 rfl (fun _ => ?_) (fun h => absurd (by decide) h)
      refine lv_iconst (v := 1) hx hb d_lw_law_402 (by decide) ?_
      refine W.widen (k := 60000) (n := 8922250) (Nat.le_of_ble_eq_true rfl) (Nat.le_of_ble_eq_true rfl) ?_
      refine va_forget (fun q h => hA2 _ (hS.2.2 q h)) ?_
      exact lw_ret hx hb hr hlk d_lw_law_403
    ·
      refine lv_tableOut hx hb d_lw_law_32 (Or.inr (by decide)) (tgt := 396) rfl ?_
      refine lv_iinc (k := 0) (v := 4) hx hb d_lw_law_396 hl rfl (by decide) (by decide) rfl (fun ls hl => ?_)
      have hl : lv_has ls 4 [(3, .int 4), (2, .ref q35), (1, .ref q1), (0, .ref b)] := hl
      refine lv_goto hx hb d_lw_law_399 rfl ?_
      refine lv_iload_n hx hb d_lw_law_18 rfl (lv_at hl 0 rfl) ?_
      refine lv_aload_n hx hb d_lw_law_19 rfl (lv_at hl 3 rfl) ?_
      refine va_slen hx hb hXs hbl hbA hS d_lw_law_20 ?_
      refine lv_iconst (v := 4) hx hb d_lw_law_21 (by decide) ?_
      refine lv_isub hx hb d_lw_law_22 ?_
      refine lv_topi (fun y0 e0 => ?_)
      have e0 : y0 = 0 := e0.trans (by decide)
      subst e0
      refine lv_icmp_gt hx hb d_lw_law_23 rfl (fun _ => ?_) (fun h => absurd (by decide) h)
      refine lv_iconst (v := 1) hx hb d_lw_law_402 (by decide) ?_
      refine W.widen (k := 60000) (n := 8922250) (Nat.le_of_ble_eq_true rfl) (Nat.le_of_ble_eq_true rfl) ?_
      refine va_forget (fun q h => hA2 _ (hS.2.2 q h)) ?_
      exact lw_ret hx hb hr hlk d_lw_law_403
    ·
      refine lv_tableOut hx hb d_lw_law_32 (Or.inr (by decide)) (tgt := 396) rfl ?_
      refine lv_iinc (k := 0) (v := 4) hx hb d_lw_law_396 hl rfl (by decide) (by decide) rfl (fun ls hl => ?_)
      have hl : lv_has ls 4 [(3, .int 4), (2, .ref q35), (1, .ref q1), (0, .ref b)] := hl
      refine lv_goto hx hb d_lw_law_399 rfl ?_
      refine lv_iload_n hx hb d_lw_law_18 rfl (lv_at hl 0 rfl) ?_
      refine lv_aload_n hx hb d_lw_law_19 rfl (lv_at hl 3 rfl) ?_
      refine va_slen hx hb hXs hbl hbA hS d_lw_law_20 ?_
      refine lv_iconst (v := 4) hx hb d_lw_law_21 (by decide) ?_
      refine lv_isub hx hb d_lw_law_22 ?_
      refine lv_topi (fun y0 e0 => ?_)
      have e0 : y0 = 0 := e0.trans (by decide)
      subst e0
      refine lv_icmp_gt hx hb d_lw_law_23 rfl (fun _ => ?_) (fun h => absurd (by decide) h)
      refine lv_iconst (v := 1) hx hb d_lw_law_402 (by decide) ?_
      refine W.widen (k := 60000) (n := 8922250) (Nat.le_of_ble_eq_true rfl) (Nat.le_of_ble_eq_true rfl) ?_
      refine va_forget (fun q h => hA2 _ (hS.2.2 q h)) ?_
      exact lw_ret hx hb hr hlk d_lw_law_403
