set_option maxHeartbeats 40000000 in
set_option maxRecDepth 100000 in
theorem whole_start {p : Program} {e : Env} {s : State} {m : MethodId} {below : List Frame} {meth : Method} {c : Code} (l : Launch) {b L : Nat} {xs : Nat → Int32} (hL : L ≤ 2048) (C0 : lw_At p s m meth c b L xs) : W p l e room_1 s m #[Value.ref b] below meth c s.heap [] 0 0 (lw_Z below #[Value.ref b] s) (entryFrame m ([Value.ref b] : List Value).toArray 4) := by
  obtain ⟨hx, hb, hr, hml, hown0, hts, hXs, hbl, hlk, hgv⟩ := C0
  have hown : s.vm.findClass R_lw = some m.cls := hown0
  have hg : ∀ w ∈ gw, w.before #[Value.ref b] s = true := fun w h => hts w (gw_tbl h)
  have hX : mt_X s := ⟨va_AOA.of (hts _ mt_ao), va_Nw.of rfl (hts _ gn_pn_11), va_Nw.of rfl (hts _ gn_mr_36)⟩
  obtain ⟨D, cZ, cI, cJ, cII, hK⟩ := mt_start hg hX
  obtain ⟨A, hAe⟩ : ∃ A : Nat → Prop, A = fun q => s.heap.size ≤ q := ⟨_, rfl⟩
  have hA : ∀ q, s.heap.size ≤ q → A q := fun q h => by rw [hAe]; exact h
  have hA2 : ∀ q, A q → s.heap.size ≤ q := fun q h => by rw [hAe] at h; exact h
  have hbA : ¬ A b := fun h => absurd (hA2 _ h) (Nat.not_le.mpr hbl)
  obtain ⟨H, hH⟩ : ∃ H : Heap, H = s.heap := ⟨_, rfl⟩
  have hS : va_S A s.heap H [] := by rw [hH]; exact va_S.rf
  have hl := lv_entry [Value.ref b] (n := 4) (Nat.le_of_ble_eq_true rfl)
  rw [lg_entry_eq]
  generalize (lg_sl ([Value.ref b]) ++ List.replicate (4 - (lg_sl ([Value.ref b])).length) Slot.unset).toArray = ls at hl ⊢
  rw [← hH]
  have hP : va_P D kls [] H := mt_P0
  have hD : va_D A [] := mt_D0
  have hl : lv_has ls 4 [(0, .ref b)] := hl
  refine va_new (ci := 6) (fs := [.null, .null, .null, .null, .null]) (C := R_mr) (T := T_mr) (N := 5) hx hb hg in_mr t_mr t_mr_ok hown (hg _ gc_lw_7) (hg _ gj_mr) (hg _ gi_mr) hK hP hD hS hA rfl (fun j hj => by rcases (show j = 0 ∨ j = 1 ∨ j = 2 ∨ j = 3 ∨ j = 4 by omega) with rfl | rfl | rfl | rfl | rfl <;> rfl) (Nat.le_of_ble_eq_true rfl) (Nat.le_of_ble_eq_true rfl) d_lw_law_0 (fun ma H hP hD hS => ?_)
  have hP : va_P D kls [(ma, .inr (6, [.null, .null, .null, .null, .null]))] H := hP
  have hD : va_D A [(ma, .inr (6, [.null, .null, .null, .null, .null]))] := hD
  refine W.widen (k := 1) (n := 5) (Nat.le_of_ble_eq_true rfl) (Nat.le_of_ble_eq_true rfl) ?_
  refine lv_dup hx hb d_lw_law_3 rfl ?_
  have hPc := hP
  have hDc := hD
  have hFc := mt_whole hD hS hA
  refine va_callv (va_runI (As := []) (rest := [.ref ma]) ⟨hx, hb, hml, hown, hg⟩ (c_mr_initM l D cZ cI cJ cII ma H.size) (cwI 0 hg gg_lw_9 rfl rfl rfl (hg _ gi_lw_9) (hg _ gl_lw_9) (hg _ gm_lw_9) rfl (by decide +kernel) ⟨Nat.le_of_ble_eq_true rfl, Nat.le_of_ble_eq_true rfl⟩) ⟨mt_bl, mt_pr hX hPc hK hDc⟩ rfl rfl hl.1 rfl (lv_room (Nat.le_of_ble_eq_true rfl)) d_lw_law_4 ⟨Nat.le_of_ble_eq_true rfl, Nat.le_of_ble_eq_true rfl⟩) hS (fun q _ h => hFc q h) hFc (fun u t H1 locs ht hvm hw hB hz1 hk1 hS => ?_)
  obtain ⟨fa, ca, pa, da, ea, wa, ra, sa, ta, rr, wf, rf, sf, Ms, cs, cg, cto, rg, cq, cco, cnx, la, lwo, pce, rp, pse, ppl, rq, dce, rl, dto, dle⟩ := u
  have hmade : (∀ j, j < 25 → wf j = 0) ∧ fx_Ok 1 (1 * 1) wf rf sf Ms (1 * 1) ∧ fx_sc sf := hw
  obtain ⟨hP1, hD1⟩ := hB
  rw [ht] at hP1
  have hP1 : va_P D kls ([(ma, .inr (6, [.ref fa, .ref ca, .ref pa, .ref da, .ref ea]))] ++ ((((([(fa, .inr (1, [.int (nI 1), .int (nI 1), .ref wa, .int (nI (fx_cnt wf (1 * 1))), .ref ra, .ref sa, .ref ta])), (wa, .inl (cZ, 25, .inl wf)), (ra, .inl (cI, 25, .inl rf)), (sa, .inl (cI, 25, .inl sf)), (ta, .inl (cII, 25, .inr (.inr (.inr (.inr (fun i => if i < 25 then some (rr i) else none))))))] ++ mt_rw 25 rr (fun i => .inl (cI, 5, .inl (Ms i)))) ++ (([(ca, .inr (0, [.ref fa, .int 0, .ref cs, .ref cg, .ref cto, .ref cq, .ref cco, .ref cnx])), (cs, .inl (cI, 5, .inl (fun _ => 0))), (cg, .inl (cI, 5, .inl (fun _ => 0))), (cto, .inl (cII, 5, .inr (.inr (.inr (.inr (fun i => if i < 5 then some (rg i) else none))))))] ++ mt_rw 5 rg (fun _ => .inl (cI, 25, .inl (fun _ => 0)))) ++ [(cq, .inl (cI, 25, .inl (fun _ => 0))), (cco, .inl (cJ, 25, .inr (.inl (fun _ => 0)))), (cnx, .inl (cJ, 25, .inr (.inl (fun _ => 0))))])) ++ ((([(pa, .inr (4, [.ref fa, .ref ca, .ref la, .ref pce, .ref pse, .ref ppl, .int 0, .int 0, .int 0, .int 0, .int 0])), (la, .inr (3, [.ref lwo])), (lwo, .inl (cJ, 1296, .inr (.inl (fun _ => 0)))), (pce, .inl (cII, 32, .inr (.inr (.inr (.inr (fun i => if i < 32 then some (rp i) else none))))))] ++ mt_rw 32 rp (fun _ => .inl (cI, 5, .inl (fun _ => 0)))) ++ [(pse, .inl (cI, 32, .inl (fun _ => 0))), (ppl, .inl (cII, 32, .inr (.inr (.inr (.inr (fun i => if i < 32 then some (rq i) else none))))))]) ++ mt_rw 32 rq (fun _ => .inl (cI, 5, .inl (fun _ => 0))))) ++ (([(da, .inr (2, [.ref dce, .ref dto, .ref dle])), (dce, .inl (cII, 6, .inr (.inr (.inr (.inr (fun i => if i < 6 then some (rl i) else none))))))] ++ mt_rw 6 rl (fun _ => .inl (cI, 30, .inl (fun _ => 0)))) ++ [(dto, .inl (cI, 6, .inl (fun _ => 0))), (dle, .inl (cI, 6, .inl (fun _ => 0)))])) ++ [(ea, .inr (5, [.ref fa, .ref ca, .ref da, .int 0, .int 0, .int 0, .int 0]))])) H1 := hP1
  have hD1 : va_D _ ([(ma, .inr (6, [.ref fa, .ref ca, .ref pa, .ref da, .ref ea]))] ++ ((((([(fa, .inr (1, [.int (nI 1), .int (nI 1), .ref wa, .int (nI (fx_cnt wf (1 * 1))), .ref ra, .ref sa, .ref ta])), (wa, .inl (cZ, 25, .inl wf)), (ra, .inl (cI, 25, .inl rf)), (sa, .inl (cI, 25, .inl sf)), (ta, .inl (cII, 25, .inr (.inr (.inr (.inr (fun i => if i < 25 then some (rr i) else none))))))] ++ mt_rw 25 rr (fun i => .inl (cI, 5, .inl (Ms i)))) ++ (([(ca, .inr (0, [.ref fa, .int 0, .ref cs, .ref cg, .ref cto, .ref cq, .ref cco, .ref cnx])), (cs, .inl (cI, 5, .inl (fun _ => 0))), (cg, .inl (cI, 5, .inl (fun _ => 0))), (cto, .inl (cII, 5, .inr (.inr (.inr (.inr (fun i => if i < 5 then some (rg i) else none))))))] ++ mt_rw 5 rg (fun _ => .inl (cI, 25, .inl (fun _ => 0)))) ++ [(cq, .inl (cI, 25, .inl (fun _ => 0))), (cco, .inl (cJ, 25, .inr (.inl (fun _ => 0)))), (cnx, .inl (cJ, 25, .inr (.inl (fun _ => 0))))])) ++ ((([(pa, .inr (4, [.ref fa, .ref ca, .ref la, .ref pce, .ref pse, .ref ppl, .int 0, .int 0, .int 0, .int 0, .int 0])), (la, .inr (3, [.ref lwo])), (lwo, .inl (cJ, 1296, .inr (.inl (fun _ => 0)))), (pce, .inl (cII, 32, .inr (.inr (.inr (.inr (fun i => if i < 32 then some (rp i) else none))))))] ++ mt_rw 32 rp (fun _ => .inl (cI, 5, .inl (fun _ => 0)))) ++ [(pse, .inl (cI, 32, .inl (fun _ => 0))), (ppl, .inl (cII, 32, .inr (.inr (.inr (.inr (fun i => if i < 32 then some (rq i) else none))))))]) ++ mt_rw 32 rq (fun _ => .inl (cI, 5, .inl (fun _ => 0))))) ++ (([(da, .inr (2, [.ref dce, .ref dto, .ref dle])), (dce, .inl (cII, 6, .inr (.inr (.inr (.inr (fun i => if i < 6 then some (rl i) else none))))))] ++ mt_rw 6 rl (fun _ => .inl (cI, 30, .inl (fun _ => 0)))) ++ [(dto, .inl (cI, 6, .inl (fun _ => 0))), (dle, .inl (cI, 6, .inl (fun _ => 0)))])) ++ [(ea, .inr (5, [.ref fa, .ref ca, .ref da, .int 0, .int 0, .int 0, .int 0]))])) := hD1
  have hP := hP1
  have hD := hD1.weaken (fun _ _ _ h => hFc _ h)
  generalize H1 = H at hP hS ⊢
  obtain ⟨WX, hWX⟩ : ∃ Z : va_W, Z = ([(ma, .inr (6, [.ref fa, .ref ca, .ref pa, .ref da, .ref ea]))] ++ ((((([(fa, .inr (1, [.int (nI 1), .int (nI 1), .ref wa, .int (nI (fx_cnt wf (1 * 1))), .ref ra, .ref sa, .ref ta])), (wa, .inl (cZ, 25, .inl wf)), (ra, .inl (cI, 25, .inl rf)), (sa, .inl (cI, 25, .inl sf)), (ta, .inl (cII, 25, .inr (.inr (.inr (.inr (fun i => if i < 25 then some (rr i) else none))))))] ++ mt_rw 25 rr (fun i => .inl (cI, 5, .inl (Ms i)))) ++ (([(ca, .inr (0, [.ref fa, .int 0, .ref cs, .ref cg, .ref cto, .ref cq, .ref cco, .ref cnx])), (cs, .inl (cI, 5, .inl (fun _ => 0))), (cg, .inl (cI, 5, .inl (fun _ => 0))), (cto, .inl (cII, 5, .inr (.inr (.inr (.inr (fun i => if i < 5 then some (rg i) else none))))))] ++ mt_rw 5 rg (fun _ => .inl (cI, 25, .inl (fun _ => 0)))) ++ [(cq, .inl (cI, 25, .inl (fun _ => 0))), (cco, .inl (cJ, 25, .inr (.inl (fun _ => 0)))), (cnx, .inl (cJ, 25, .inr (.inl (fun _ => 0))))])) ++ ((([(pa, .inr (4, [.ref fa, .ref ca, .ref la, .ref pce, .ref pse, .ref ppl, .int 0, .int 0, .int 0, .int 0, .int 0])), (la, .inr (3, [.ref lwo])), (lwo, .inl (cJ, 1296, .inr (.inl (fun _ => 0)))), (pce, .inl (cII, 32, .inr (.inr (.inr (.inr (fun i => if i < 32 then some (rp i) else none))))))] ++ mt_rw 32 rp (fun _ => .inl (cI, 5, .inl (fun _ => 0)))) ++ [(pse, .inl (cI, 32, .inl (fun _ => 0))), (ppl, .inl (cII, 32, .inr (.inr (.inr (.inr (fun i => if i < 32 then some (rq i) else none))))))]) ++ mt_rw 32 rq (fun _ => .inl (cI, 5, .inl (fun _ => 0))))) ++ (([(da, .inr (2, [.ref dce, .ref dto, .ref dle])), (dce, .inl (cII, 6, .inr (.inr (.inr (.inr (fun i => if i < 6 then some (rl i) else none))))))] ++ mt_rw 6 rl (fun _ => .inl (cI, 30, .inl (fun _ => 0)))) ++ [(dto, .inl (cI, 6, .inl (fun _ => 0))), (dle, .inl (cI, 6, .inl (fun _ => 0)))])) ++ [(ea, .inr (5, [.ref fa, .ref ca, .ref da, .int 0, .int 0, .int 0, .int 0]))])) := ⟨_, rfl⟩
  rw [← hWX] at hP hD
  refine W.widen (k := 124) (n := 2392) (Nat.le_of_ble_eq_true rfl) (Nat.le_of_ble_eq_true rfl) ?_
  refine lv_astore_n hx hb d_lw_law_7 rfl hl (by decide) rfl (fun ls hl => ?_)
  have hl : lv_has ls 4 [(1, .ref ma), (0, .ref b)] := hl
  refine va_new (ci := 7) (fs := [.int 0, .int 0, .null, .int 0, .null, .null, .null, .null, .int 0, .null, .null, .null, .null, .null, .null, .null, .int 0, .null, .null, .null, .int 0, .int 0, .null, .null, .null, .null, .null, .null, .null, .int 0, .int 0, .int 0, .int 0]) (C := R_md) (T := T_md) (N := 33) hx hb hg in_md t_md t_md_ok hown (hg _ gc_lw_10) (hg _ gj_md) (hg _ gi_md) hK hP hD hS hA rfl (fun j hj => by rcases (show j = 0 ∨ j = 1 ∨ j = 2 ∨ j = 3 ∨ j = 4 ∨ j = 5 ∨ j = 6 ∨ j = 7 ∨ j = 8 ∨ j = 9 ∨ j = 10 ∨ j = 11 ∨ j = 12 ∨ j = 13 ∨ j = 14 ∨ j = 15 ∨ j = 16 ∨ j = 17 ∨ j = 18 ∨ j = 19 ∨ j = 20 ∨ j = 21 ∨ j = 22 ∨ j = 23 ∨ j = 24 ∨ j = 25 ∨ j = 26 ∨ j = 27 ∨ j = 28 ∨ j = 29 ∨ j = 30 ∨ j = 31 ∨ j = 32 by omega) with rfl | rfl | rfl | rfl | rfl | rfl | rfl | rfl | rfl | rfl | rfl | rfl | rfl | rfl | rfl | rfl | rfl | rfl | rfl | rfl | rfl | rfl | rfl | rfl | rfl | rfl | rfl | rfl | rfl | rfl | rfl | rfl | rfl <;> rfl) (Nat.le_of_ble_eq_true rfl) (Nat.le_of_ble_eq_true rfl) d_lw_law_8 (fun na H hP hD hS => ?_)
  have hP := mt_rotP hP
  have hD := mt_rotD hD
  refine W.widen (k := 125) (n := 2425) (Nat.le_of_ble_eq_true rfl) (Nat.le_of_ble_eq_true rfl) ?_
  refine lv_dup hx hb d_lw_law_11 rfl ?_
  have hPc := mt_hd hP
  have hDc := mt_hdD hD
  have hFc := mt_hdF hD hS hA
  refine va_callv (va_runI (As := []) (rest := [.ref na]) ⟨hx, hb, hml, hown, hg⟩ (c_md_init l D cZ cI cJ cII na H.size) (cwI 0 hg gg_lw_12 rfl rfl rfl (hg _ gi_lw_12) (hg _ gl_lw_12) (hg _ gm_lw_12) rfl (by decide +kernel) ⟨Nat.le_of_ble_eq_true rfl, Nat.le_of_ble_eq_true rfl⟩) ⟨mt_bl, mt_pr hX hPc hK hDc⟩ rfl rfl hl.1 rfl (lv_room (Nat.le_of_ble_eq_true rfl)) d_lw_law_12 ⟨Nat.le_of_ble_eq_true rfl, Nat.le_of_ble_eq_true rfl⟩) hS (fun q _ h => hFc q h) hFc (fun u t H1 locs ht hvm hw hB hz1 hk1 hS => ?_)
  obtain ⟨nwalls, nstarts, ngoals, nlaid, nisTold, ncells, nindex, nnear, nnearCount, npay, ndone, npile, nnow, nthen, nchoice, nplan, ncosts, npaid, nafter, nfar, nmany, nnext⟩ := u
  obtain ⟨hP1, hD1⟩ := hB
  rw [ht] at hP1
  have hP1 : va_P D kls [(na, .inr (7, [.int 1, .int 1, .ref nwalls, .int 0, .ref nstarts, .ref ngoals, .ref nlaid, .ref nisTold, .int 0, .ref ncells, .ref nindex, .ref nnear, .ref nnearCount, .ref npay, .ref ndone, .ref npile, .int 0, .ref nnow, .ref nthen, .ref nchoice, .int 0, .int 0, .ref nplan, .ref ncosts, .ref npaid, .ref nafter, .ref nfar, .ref nmany, .ref nnext, .int 0, .int 0, .int 0, .int 0])), (nwalls, .inl (cZ, 25, .inl (fun _ => 0))), (nstarts, .inl (cI, 25, .inl (fun _ => 0))), (ngoals, .inl (cI, 25, .inl (fun _ => 0))), (nlaid, .inl (cI, 180, .inl (fun _ => 0))), (nisTold, .inl (cZ, 180, .inl (fun _ => 0))), (ncells, .inl (cI, 25, .inl (fun _ => 0))), (nindex, .inl (cI, 25, .inl (fun _ => 0))), (nnear, .inl (cI, 125, .inl (fun _ => 0))), (nnearCount, .inl (cI, 25, .inl (fun _ => 0))), (npay, .inl (cI, 512000, .inl (fun _ => 0))), (ndone, .inl (cZ, 512000, .inl (fun _ => 0))), (npile, .inl (cI, 512000, .inl (fun _ => 0))), (nnow, .inl (cI, 6, .inl (fun _ => 0))), (nthen, .inl (cI, 6, .inl (fun _ => 0))), (nchoice, .inl (cI, 6, .inl (fun _ => 0))), (nplan, .inl (cI, 1260, .inl (fun _ => 0))), (ncosts, .inl (cI, 6, .inl (fun _ => 0))), (npaid, .inl (cI, 64, .inl (fun _ => 0))), (nafter, .inl (cI, 64, .inl (fun _ => 0))), (nfar, .inl (cI, 25, .inl (fun _ => 0))), (nmany, .inl (cJ, 25, .inr (.inl (fun _ => 0)))), (nnext, .inl (cJ, 25, .inr (.inl (fun _ => 0))))] H1 := hP1
  have hD1 : va_D _ [(na, .inr (7, [.int 1, .int 1, .ref nwalls, .int 0, .ref nstarts, .ref ngoals, .ref nlaid, .ref nisTold, .int 0, .ref ncells, .ref nindex, .ref nnear, .ref nnearCount, .ref npay, .ref ndone, .ref npile, .int 0, .ref nnow, .ref nthen, .ref nchoice, .int 0, .int 0, .ref nplan, .ref ncosts, .ref npaid, .ref nafter, .ref nfar, .ref nmany, .ref nnext, .int 0, .int 0, .int 0, .int 0])), (nwalls, .inl (cZ, 25, .inl (fun _ => 0))), (nstarts, .inl (cI, 25, .inl (fun _ => 0))), (ngoals, .inl (cI, 25, .inl (fun _ => 0))), (nlaid, .inl (cI, 180, .inl (fun _ => 0))), (nisTold, .inl (cZ, 180, .inl (fun _ => 0))), (ncells, .inl (cI, 25, .inl (fun _ => 0))), (nindex, .inl (cI, 25, .inl (fun _ => 0))), (nnear, .inl (cI, 125, .inl (fun _ => 0))), (nnearCount, .inl (cI, 25, .inl (fun _ => 0))), (npay, .inl (cI, 512000, .inl (fun _ => 0))), (ndone, .inl (cZ, 512000, .inl (fun _ => 0))), (npile, .inl (cI, 512000, .inl (fun _ => 0))), (nnow, .inl (cI, 6, .inl (fun _ => 0))), (nthen, .inl (cI, 6, .inl (fun _ => 0))), (nchoice, .inl (cI, 6, .inl (fun _ => 0))), (nplan, .inl (cI, 1260, .inl (fun _ => 0))), (ncosts, .inl (cI, 6, .inl (fun _ => 0))), (npaid, .inl (cI, 64, .inl (fun _ => 0))), (nafter, .inl (cI, 64, .inl (fun _ => 0))), (nfar, .inl (cI, 25, .inl (fun _ => 0))), (nmany, .inl (cJ, 25, .inr (.inl (fun _ => 0)))), (nnext, .inl (cJ, 25, .inr (.inl (fun _ => 0))))] := hD1
  obtain ⟨hP, hD⟩ := mt_join1 hP hD hk1 hFc hP1 hD1
  generalize H1 = H at hP hS ⊢
  clear hP1 hD1 hPc hDc hFc hk1
  subst hWX
  refine W.widen (k := 147) (n := 1540547) (Nat.le_of_ble_eq_true rfl) (Nat.le_of_ble_eq_true rfl) ?_
  refine lv_astore_n hx hb d_lw_law_15 rfl hl (by decide) rfl (fun ls hl => ?_)
  have hl : lv_has ls 4 [(2, .ref na), (1, .ref ma), (0, .ref b)] := hl
  have hP : va_P D kls (xw cZ cI cJ cII ma fa ca pa da ea wa ra sa ta cs cg cto cq cco cnx la lwo pce pse ppl dce dto dle rr rg rp rq rl 1 1 0 wf rf sf Ms (fun _ => 0) (fun _ => 0) (fun _ _ => 0) (fun _ => 0) (fun _ => 0) (fun _ => 0) (fun _ => 0) (fun _ _ => 0) (fun _ => 0) (fun _ _ => 0) 0 0 0 0 0 (fun _ => 0) (fun _ => 0) (fun _ _ => 0) 0 0 0 0 ++ mw cZ cI cJ cII na nwalls nstarts ngoals nlaid nisTold ncells nindex nnear nnearCount npay ndone npile nnow nthen nchoice nplan ncosts npaid nafter nfar nmany nnext 1 1 0 0 0 0 0 0 0 0 0 (fun _ => 0) (fun _ => 0) (fun _ => 0) (fun _ => 0) (fun _ => 0) (fun _ => 0) (fun _ => 0) (fun _ => 0) (fun _ => 0) (fun _ => 0) (fun _ => 0) (fun _ => 0) (fun _ => 0) (fun _ => 0) (fun _ => 0) (fun _ => 0) (fun _ => 0) (fun _ => 0) (fun _ => 0) (fun _ => 0) (fun _ => 0) (fun _ => 0)) H := mt_permP pm_start hP
  have hD : va_D A (xw cZ cI cJ cII ma fa ca pa da ea wa ra sa ta cs cg cto cq cco cnx la lwo pce pse ppl dce dto dle rr rg rp rq rl 1 1 0 wf rf sf Ms (fun _ => 0) (fun _ => 0) (fun _ _ => 0) (fun _ => 0) (fun _ => 0) (fun _ => 0) (fun _ => 0) (fun _ _ => 0) (fun _ => 0) (fun _ _ => 0) 0 0 0 0 0 (fun _ => 0) (fun _ => 0) (fun _ _ => 0) 0 0 0 0 ++ mw cZ cI cJ cII na nwalls nstarts ngoals nlaid nisTold ncells nindex nnear nnearCount npay ndone npile nnow nthen nchoice nplan ncosts npaid nafter nfar nmany nnext 1 1 0 0 0 0 0 0 0 0 0 (fun _ => 0) (fun _ => 0) (fun _ => 0) (fun _ => 0) (fun _ => 0) (fun _ => 0) (fun _ => 0) (fun _ => 0) (fun _ => 0) (fun _ => 0) (fun _ => 0) (fun _ => 0) (fun _ => 0) (fun _ => 0) (fun _ => 0) (fun _ => 0) (fun _ => 0) (fun _ => 0) (fun _ => 0) (fun _ => 0) (fun _ => 0) (fun _ => 0)) := mt_permD pm_start hD
  have hF0 : xv_F 1 1 wf rf sf Ms := ⟨by decide, hmade.2.1, hmade.2.2⟩
  have hIx : xv_I 1 1 0 wf rf sf Ms (fun _ => 0) (fun _ => 0) (fun _ _ => 0) (fun _ => 0) (fun _ _ => 0) 0 0 0 0 0 (fun _ => 0) := xv_I0 hF0 (fun k h => ⟨0, by omega, rfl⟩)
  have hIm : mv_I 1 1 0 (fun _ => 0) (fun _ => 0) (fun _ => 0) 0 0 := mv_I0 (by decide)
  have hE : sm_E 1 1 0 wf (fun _ => 0) (fun _ => 0) 1 1 0 (fun _ => 0) (fun _ => 0) (fun _ => 0) := ⟨rfl, rfl, rfl, fun k hk => ⟨fun _ => rfl, fun _ => hmade.1 k hk⟩, fun i hi => absurd hi (Nat.not_lt_zero _)⟩
  have hLd : sm_L (fun _ => 0) (fun _ _ => 0) (fun _ => 0) (fun _ => 0) := sm_L0 (fun _ _ => rfl) (fun _ _ => rfl)
  have hld : ld_I (fun _ => 0) (fun _ => 0) := ld_I0 (fun _ _ => rfl) (fun _ _ => rfl)
  refine lv_iconst (v := 0) hx hb d_lw_law_16 (by decide) ?_
  refine lv_istore_n hx hb d_lw_law_17 rfl hl (by decide) rfl (fun ls hl => ?_)
  have hl : lv_has ls 4 [(3, .int 0), (2, .ref na), (1, .ref ma), (0, .ref b)] := hl
  have hl := lv_sub hl [0, 3, 2, 1] (l' := [(3, .int (nI (4 * 0))), (0, .ref b), (1, .ref ma), (2, .ref na)]) rfl
  refine mt_loop (ι := Nat × Nat × Nat × Nat × (Nat → Int32) × (Nat → Int32) × (Nat → Int32) × (Nat → Nat → Int32) × (Nat → Int32) × (Nat → Int32) × (Nat → Nat → Int32) × (Nat → Int32) × (Nat → Int64) × (Nat → Int64) × (Nat → Int64) × (Nat → Nat → Int32) × (Nat → Int32) × (Nat → Nat → Int32) × Int32 × Int32 × Int32 × Int32 × Int32 × (Nat → Int32) × (Nat → Int32) × (Nat → Nat → Int32) × Int32 × Int32 × Int32 × Int32 × Nat × Nat × Nat × Nat × Nat × Int32 × Int32 × Int32 × Int32 × Int32 × Int32 × Int32 × Int32 × (Nat → Int32) × (Nat → Int32) × (Nat → Int32) × (Nat → Int32) × (Nat → Int32) × (Nat → Int32) × (Nat → Int32) × (Nat → Int32) × (Nat → Int32) × (Nat → Int32) × (Nat → Int32) × (Nat → Int32) × (Nat → Int32) × (Nat → Int32) × (Nat → Int32) × (Nat → Int32) × (Nat → Int32) × (Nat → Int32) × (Nat → Int32) × (Nat → Int32) × (Nat → Int64) × (Nat → Int64)) (I := fun ix ls H locs => (4 * (ix.1) ≤ L + 3) ∧ (xv_I (ix.2.1) (ix.2.2.1) (ix.2.2.2.1) (ix.2.2.2.2.1) (ix.2.2.2.2.2.1) (ix.2.2.2.2.2.2.1) (ix.2.2.2.2.2.2.2.1) (ix.2.2.2.2.2.2.2.2.1) (ix.2.2.2.2.2.2.2.2.2.1) (ix.2.2.2.2.2.2.2.2.2.2.1) (ix.2.2.2.2.2.2.2.2.2.2.2.2.2.2.1) (ix.2.2.2.2.2.2.2.2.2.2.2.2.2.2.2.2.2.1) (ix.2.2.2.2.2.2.2.2.2.2.2.2.2.2.2.2.2.2.1) (ix.2.2.2.2.2.2.2.2.2.2.2.2.2.2.2.2.2.2.2.1) (ix.2.2.2.2.2.2.2.2.2.2.2.2.2.2.2.2.2.2.2.2.1) (ix.2.2.2.2.2.2.2.2.2.2.2.2.2.2.2.2.2.2.2.2.2.1) (ix.2.2.2.2.2.2.2.2.2.2.2.2.2.2.2.2.2.2.2.2.2.2.1) (ix.2.2.2.2.2.2.2.2.2.2.2.2.2.2.2.2.2.2.2.2.2.2.2.2.1)) ∧ (mv_I (ix.2.2.2.2.2.2.2.2.2.2.2.2.2.2.2.2.2.2.2.2.2.2.2.2.2.2.2.2.2.2.2.2.1) (ix.2.2.2.2.2.2.2.2.2.2.2.2.2.2.2.2.2.2.2.2.2.2.2.2.2.2.2.2.2.2.2.2.2.1) (ix.2.2.2.2.2.2.2.2.2.2.2.2.2.2.2.2.2.2.2.2.2.2.2.2.2.2.2.2.2.2.2.2.2.2.1) (ix.2.2.2.2.2.2.2.2.2.2.2.2.2.2.2.2.2.2.2.2.2.2.2.2.2.2.2.2.2.2.2.2.2.2.2.2.2.2.2.2.2.2.2.1) (ix.2.2.2.2.2.2.2.2.2.2.2.2.2.2.2.2.2.2.2.2.2.2.2.2.2.2.2.2.2.2.2.2.2.2.2.2.2.2.2.2.2.2.2.2.1) (ix.2.2.2.2.2.2.2.2.2.2.2.2.2.2.2.2.2.2.2.2.2.2.2.2.2.2.2.2.2.2.2.2.2.2.2.2.2.2.2.2.2.2.2.2.2.1) (ix.2.2.2.2.2.2.2.2.2.2.2.2.2.2.2.2.2.2.2.2.2.2.2.2.2.2.2.2.2.2.2.2.2.2.2.2.2.1) (ix.2.2.2.2.2.2.2.2.2.2.2.2.2.2.2.2.2.2.2.2.2.2.2.2.2.2.2.2.2.2.2.2.2.2.2.2.2.2.1)) ∧ (sm_E (ix.2.1) (ix.2.2.1) (ix.2.2.2.1) (ix.2.2.2.2.1) (ix.2.2.2.2.2.2.2.2.1) (ix.2.2.2.2.2.2.2.2.2.1) (ix.2.2.2.2.2.2.2.2.2.2.2.2.2.2.2.2.2.2.2.2.2.2.2.2.2.2.2.2.2.2.2.2.1) (ix.2.2.2.2.2.2.2.2.2.2.2.2.2.2.2.2.2.2.2.2.2.2.2.2.2.2.2.2.2.2.2.2.2.1) (ix.2.2.2.2.2.2.2.2.2.2.2.2.2.2.2.2.2.2.2.2.2.2.2.2.2.2.2.2.2.2.2.2.2.2.1) (ix.2.2.2.2.2.2.2.2.2.2.2.2.2.2.2.2.2.2.2.2.2.2.2.2.2.2.2.2.2.2.2.2.2.2.2.2.2.2.2.2.2.2.2.1) (ix.2.2.2.2.2.2.2.2.2.2.2.2.2.2.2.2.2.2.2.2.2.2.2.2.2.2.2.2.2.2.2.2.2.2.2.2.2.2.2.2.2.2.2.2.1) (ix.2.2.2.2.2.2.2.2.2.2.2.2.2.2.2.2.2.2.2.2.2.2.2.2.2.2.2.2.2.2.2.2.2.2.2.2.2.2.2.2.2.2.2.2.2.1)) ∧ (sm_L (ix.2.2.2.2.2.2.2.2.2.2.2.2.2.2.2.2.2.2.2.2.2.2.2.1) (ix.2.2.2.2.2.2.2.2.2.2.2.2.2.2.2.2.2.2.2.2.2.2.2.2.2.1) (ix.2.2.2.2.2.2.2.2.2.2.2.2.2.2.2.2.2.2.2.2.2.2.2.2.2.2.2.2.2.2.2.2.2.2.2.2.2.2.2.2.2.2.2.2.2.2.2.1) (ix.2.2.2.2.2.2.2.2.2.2.2.2.2.2.2.2.2.2.2.2.2.2.2.2.2.2.2.2.2.2.2.2.2.2.2.2.2.2.2.2.2.2.2.2.2.2.1)) ∧ (ld_I (ix.2.2.2.2.2.2.2.2.2.2.2.2.2.2.2.2.2.2.2.2.2.2.2.1) (ix.2.2.2.2.2.2.2.2.2.2.2.2.2.2.2.2.2.2.2.2.2.2.2.2.1)) ∧ lv_has ls 4 [(3, .int (nI (4 * (ix.1)))), (0, .ref b), (1, .ref ma), (2, .ref na)] ∧ va_P D kls (xw cZ cI cJ cII ma fa ca pa da ea wa ra sa ta cs cg cto cq (ix.2.2.2.2.2.2.2.2.2.2.2.2.2.2.2.2.2.2.2.2.2.2.2.2.2.2.2.2.2.2.1) (ix.2.2.2.2.2.2.2.2.2.2.2.2.2.2.2.2.2.2.2.2.2.2.2.2.2.2.2.2.2.2.2.1) la lwo pce pse ppl dce dto dle rr rg rp rq rl (ix.2.1) (ix.2.2.1) (ix.2.2.2.1) (ix.2.2.2.2.1) (ix.2.2.2.2.2.1) (ix.2.2.2.2.2.2.1) (ix.2.2.2.2.2.2.2.1) (ix.2.2.2.2.2.2.2.2.1) (ix.2.2.2.2.2.2.2.2.2.1) (ix.2.2.2.2.2.2.2.2.2.2.1) (ix.2.2.2.2.2.2.2.2.2.2.2.1) (ix.2.2.2.2.2.2.2.2.2.2.2.2.1) (ix.2.2.2.2.2.2.2.2.2.2.2.2.2.1) (ix.2.2.2.2.2.2.2.2.2.2.2.2.2.2.1) (ix.2.2.2.2.2.2.2.2.2.2.2.2.2.2.2.1) (ix.2.2.2.2.2.2.2.2.2.2.2.2.2.2.2.2.1) (ix.2.2.2.2.2.2.2.2.2.2.2.2.2.2.2.2.2.1) (ix.2.2.2.2.2.2.2.2.2.2.2.2.2.2.2.2.2.2.1) (ix.2.2.2.2.2.2.2.2.2.2.2.2.2.2.2.2.2.2.2.1) (ix.2.2.2.2.2.2.2.2.2.2.2.2.2.2.2.2.2.2.2.2.1) (ix.2.2.2.2.2.2.2.2.2.2.2.2.2.2.2.2.2.2.2.2.2.1) (ix.2.2.2.2.2.2.2.2.2.2.2.2.2.2.2.2.2.2.2.2.2.2.1) (ix.2.2.2.2.2.2.2.2.2.2.2.2.2.2.2.2.2.2.2.2.2.2.2.1) (ix.2.2.2.2.2.2.2.2.2.2.2.2.2.2.2.2.2.2.2.2.2.2.2.2.1) (ix.2.2.2.2.2.2.2.2.2.2.2.2.2.2.2.2.2.2.2.2.2.2.2.2.2.1) (ix.2.2.2.2.2.2.2.2.2.2.2.2.2.2.2.2.2.2.2.2.2.2.2.2.2.2.1) (ix.2.2.2.2.2.2.2.2.2.2.2.2.2.2.2.2.2.2.2.2.2.2.2.2.2.2.2.1) (ix.2.2.2.2.2.2.2.2.2.2.2.2.2.2.2.2.2.2.2.2.2.2.2.2.2.2.2.2.1) (ix.2.2.2.2.2.2.2.2.2.2.2.2.2.2.2.2.2.2.2.2.2.2.2.2.2.2.2.2.2.1) ++ mw cZ cI cJ cII na nwalls nstarts ngoals nlaid nisTold ncells nindex nnear nnearCount npay ndone npile nnow nthen nchoice nplan ncosts npaid nafter nfar nmany nnext (ix.2.2.2.2.2.2.2.2.2.2.2.2.2.2.2.2.2.2.2.2.2.2.2.2.2.2.2.2.2.2.2.2.1) (ix.2.2.2.2.2.2.2.2.2.2.2.2.2.2.2.2.2.2.2.2.2.2.2.2.2.2.2.2.2.2.2.2.2.1) (ix.2.2.2.2.2.2.2.2.2.2.2.2.2.2.2.2.2.2.2.2.2.2.2.2.2.2.2.2.2.2.2.2.2.2.1) (ix.2.2.2.2.2.2.2.2.2.2.2.2.2.2.2.2.2.2.2.2.2.2.2.2.2.2.2.2.2.2.2.2.2.2.2.1) (ix.2.2.2.2.2.2.2.2.2.2.2.2.2.2.2.2.2.2.2.2.2.2.2.2.2.2.2.2.2.2.2.2.2.2.2.2.1) (ix.2.2.2.2.2.2.2.2.2.2.2.2.2.2.2.2.2.2.2.2.2.2.2.2.2.2.2.2.2.2.2.2.2.2.2.2.2.1) (ix.2.2.2.2.2.2.2.2.2.2.2.2.2.2.2.2.2.2.2.2.2.2.2.2.2.2.2.2.2.2.2.2.2.2.2.2.2.2.1) (ix.2.2.2.2.2.2.2.2.2.2.2.2.2.2.2.2.2.2.2.2.2.2.2.2.2.2.2.2.2.2.2.2.2.2.2.2.2.2.2.1) (ix.2.2.2.2.2.2.2.2.2.2.2.2.2.2.2.2.2.2.2.2.2.2.2.2.2.2.2.2.2.2.2.2.2.2.2.2.2.2.2.2.1) (ix.2.2.2.2.2.2.2.2.2.2.2.2.2.2.2.2.2.2.2.2.2.2.2.2.2.2.2.2.2.2.2.2.2.2.2.2.2.2.2.2.2.1) (ix.2.2.2.2.2.2.2.2.2.2.2.2.2.2.2.2.2.2.2.2.2.2.2.2.2.2.2.2.2.2.2.2.2.2.2.2.2.2.2.2.2.2.1) (ix.2.2.2.2.2.2.2.2.2.2.2.2.2.2.2.2.2.2.2.2.2.2.2.2.2.2.2.2.2.2.2.2.2.2.2.2.2.2.2.2.2.2.2.1) (ix.2.2.2.2.2.2.2.2.2.2.2.2.2.2.2.2.2.2.2.2.2.2.2.2.2.2.2.2.2.2.2.2.2.2.2.2.2.2.2.2.2.2.2.2.1) (ix.2.2.2.2.2.2.2.2.2.2.2.2.2.2.2.2.2.2.2.2.2.2.2.2.2.2.2.2.2.2.2.2.2.2.2.2.2.2.2.2.2.2.2.2.2.1) (ix.2.2.2.2.2.2.2.2.2.2.2.2.2.2.2.2.2.2.2.2.2.2.2.2.2.2.2.2.2.2.2.2.2.2.2.2.2.2.2.2.2.2.2.2.2.2.1) (ix.2.2.2.2.2.2.2.2.2.2.2.2.2.2.2.2.2.2.2.2.2.2.2.2.2.2.2.2.2.2.2.2.2.2.2.2.2.2.2.2.2.2.2.2.2.2.2.1) (ix.2.2.2.2.2.2.2.2.2.2.2.2.2.2.2.2.2.2.2.2.2.2.2.2.2.2.2.2.2.2.2.2.2.2.2.2.2.2.2.2.2.2.2.2.2.2.2.2.1) (ix.2.2.2.2.2.2.2.2.2.2.2.2.2.2.2.2.2.2.2.2.2.2.2.2.2.2.2.2.2.2.2.2.2.2.2.2.2.2.2.2.2.2.2.2.2.2.2.2.2.1) (ix.2.2.2.2.2.2.2.2.2.2.2.2.2.2.2.2.2.2.2.2.2.2.2.2.2.2.2.2.2.2.2.2.2.2.2.2.2.2.2.2.2.2.2.2.2.2.2.2.2.2.1) (ix.2.2.2.2.2.2.2.2.2.2.2.2.2.2.2.2.2.2.2.2.2.2.2.2.2.2.2.2.2.2.2.2.2.2.2.2.2.2.2.2.2.2.2.2.2.2.2.2.2.2.2.1) (ix.2.2.2.2.2.2.2.2.2.2.2.2.2.2.2.2.2.2.2.2.2.2.2.2.2.2.2.2.2.2.2.2.2.2.2.2.2.2.2.2.2.2.2.2.2.2.2.2.2.2.2.2.1) (ix.2.2.2.2.2.2.2.2.2.2.2.2.2.2.2.2.2.2.2.2.2.2.2.2.2.2.2.2.2.2.2.2.2.2.2.2.2.2.2.2.2.2.2.2.2.2.2.2.2.2.2.2.2.1) (ix.2.2.2.2.2.2.2.2.2.2.2.2.2.2.2.2.2.2.2.2.2.2.2.2.2.2.2.2.2.2.2.2.2.2.2.2.2.2.2.2.2.2.2.2.2.2.2.2.2.2.2.2.2.2.1) (ix.2.2.2.2.2.2.2.2.2.2.2.2.2.2.2.2.2.2.2.2.2.2.2.2.2.2.2.2.2.2.2.2.2.2.2.2.2.2.2.2.2.2.2.2.2.2.2.2.2.2.2.2.2.2.2.1) (ix.2.2.2.2.2.2.2.2.2.2.2.2.2.2.2.2.2.2.2.2.2.2.2.2.2.2.2.2.2.2.2.2.2.2.2.2.2.2.2.2.2.2.2.2.2.2.2.2.2.2.2.2.2.2.2.2.1) (ix.2.2.2.2.2.2.2.2.2.2.2.2.2.2.2.2.2.2.2.2.2.2.2.2.2.2.2.2.2.2.2.2.2.2.2.2.2.2.2.2.2.2.2.2.2.2.2.2.2.2.2.2.2.2.2.2.2.1) (ix.2.2.2.2.2.2.2.2.2.2.2.2.2.2.2.2.2.2.2.2.2.2.2.2.2.2.2.2.2.2.2.2.2.2.2.2.2.2.2.2.2.2.2.2.2.2.2.2.2.2.2.2.2.2.2.2.2.2.1) (ix.2.2.2.2.2.2.2.2.2.2.2.2.2.2.2.2.2.2.2.2.2.2.2.2.2.2.2.2.2.2.2.2.2.2.2.2.2.2.2.2.2.2.2.2.2.2.2.2.2.2.2.2.2.2.2.2.2.2.2.1) (ix.2.2.2.2.2.2.2.2.2.2.2.2.2.2.2.2.2.2.2.2.2.2.2.2.2.2.2.2.2.2.2.2.2.2.2.2.2.2.2.2.2.2.2.2.2.2.2.2.2.2.2.2.2.2.2.2.2.2.2.2.1) (ix.2.2.2.2.2.2.2.2.2.2.2.2.2.2.2.2.2.2.2.2.2.2.2.2.2.2.2.2.2.2.2.2.2.2.2.2.2.2.2.2.2.2.2.2.2.2.2.2.2.2.2.2.2.2.2.2.2.2.2.2.2.1) (ix.2.2.2.2.2.2.2.2.2.2.2.2.2.2.2.2.2.2.2.2.2.2.2.2.2.2.2.2.2.2.2.2.2.2.2.2.2.2.2.2.2.2.2.2.2.2.2.2.2.2.2.2.2.2.2.2.2.2.2.2.2.2.1) (ix.2.2.2.2.2.2.2.2.2.2.2.2.2.2.2.2.2.2.2.2.2.2.2.2.2.2.2.2.2.2.2.2.2.2.2.2.2.2.2.2.2.2.2.2.2.2.2.2.2.2.2.2.2.2.2.2.2.2.2.2.2.2.2.1) (ix.2.2.2.2.2.2.2.2.2.2.2.2.2.2.2.2.2.2.2.2.2.2.2.2.2.2.2.2.2.2.2.2.2.2.2.2.2.2.2.2.2.2.2.2.2.2.2.2.2.2.2.2.2.2.2.2.2.2.2.2.2.2.2.2)) H ∧ va_D A (xw cZ cI cJ cII ma fa ca pa da ea wa ra sa ta cs cg cto cq (ix.2.2.2.2.2.2.2.2.2.2.2.2.2.2.2.2.2.2.2.2.2.2.2.2.2.2.2.2.2.2.1) (ix.2.2.2.2.2.2.2.2.2.2.2.2.2.2.2.2.2.2.2.2.2.2.2.2.2.2.2.2.2.2.2.1) la lwo pce pse ppl dce dto dle rr rg rp rq rl (ix.2.1) (ix.2.2.1) (ix.2.2.2.1) (ix.2.2.2.2.1) (ix.2.2.2.2.2.1) (ix.2.2.2.2.2.2.1) (ix.2.2.2.2.2.2.2.1) (ix.2.2.2.2.2.2.2.2.1) (ix.2.2.2.2.2.2.2.2.2.1) (ix.2.2.2.2.2.2.2.2.2.2.1) (ix.2.2.2.2.2.2.2.2.2.2.2.1) (ix.2.2.2.2.2.2.2.2.2.2.2.2.1) (ix.2.2.2.2.2.2.2.2.2.2.2.2.2.1) (ix.2.2.2.2.2.2.2.2.2.2.2.2.2.2.1) (ix.2.2.2.2.2.2.2.2.2.2.2.2.2.2.2.1) (ix.2.2.2.2.2.2.2.2.2.2.2.2.2.2.2.2.1) (ix.2.2.2.2.2.2.2.2.2.2.2.2.2.2.2.2.2.1) (ix.2.2.2.2.2.2.2.2.2.2.2.2.2.2.2.2.2.2.1) (ix.2.2.2.2.2.2.2.2.2.2.2.2.2.2.2.2.2.2.2.1) (ix.2.2.2.2.2.2.2.2.2.2.2.2.2.2.2.2.2.2.2.2.1) (ix.2.2.2.2.2.2.2.2.2.2.2.2.2.2.2.2.2.2.2.2.2.1) (ix.2.2.2.2.2.2.2.2.2.2.2.2.2.2.2.2.2.2.2.2.2.2.1) (ix.2.2.2.2.2.2.2.2.2.2.2.2.2.2.2.2.2.2.2.2.2.2.2.1) (ix.2.2.2.2.2.2.2.2.2.2.2.2.2.2.2.2.2.2.2.2.2.2.2.2.1) (ix.2.2.2.2.2.2.2.2.2.2.2.2.2.2.2.2.2.2.2.2.2.2.2.2.2.1) (ix.2.2.2.2.2.2.2.2.2.2.2.2.2.2.2.2.2.2.2.2.2.2.2.2.2.2.1) (ix.2.2.2.2.2.2.2.2.2.2.2.2.2.2.2.2.2.2.2.2.2.2.2.2.2.2.2.1) (ix.2.2.2.2.2.2.2.2.2.2.2.2.2.2.2.2.2.2.2.2.2.2.2.2.2.2.2.2.1) (ix.2.2.2.2.2.2.2.2.2.2.2.2.2.2.2.2.2.2.2.2.2.2.2.2.2.2.2.2.2.1) ++ mw cZ cI cJ cII na nwalls nstarts ngoals nlaid nisTold ncells nindex nnear nnearCount npay ndone npile nnow nthen nchoice nplan ncosts npaid nafter nfar nmany nnext (ix.2.2.2.2.2.2.2.2.2.2.2.2.2.2.2.2.2.2.2.2.2.2.2.2.2.2.2.2.2.2.2.2.1) (ix.2.2.2.2.2.2.2.2.2.2.2.2.2.2.2.2.2.2.2.2.2.2.2.2.2.2.2.2.2.2.2.2.2.1) (ix.2.2.2.2.2.2.2.2.2.2.2.2.2.2.2.2.2.2.2.2.2.2.2.2.2.2.2.2.2.2.2.2.2.2.1) (ix.2.2.2.2.2.2.2.2.2.2.2.2.2.2.2.2.2.2.2.2.2.2.2.2.2.2.2.2.2.2.2.2.2.2.2.1) (ix.2.2.2.2.2.2.2.2.2.2.2.2.2.2.2.2.2.2.2.2.2.2.2.2.2.2.2.2.2.2.2.2.2.2.2.2.1) (ix.2.2.2.2.2.2.2.2.2.2.2.2.2.2.2.2.2.2.2.2.2.2.2.2.2.2.2.2.2.2.2.2.2.2.2.2.2.1) (ix.2.2.2.2.2.2.2.2.2.2.2.2.2.2.2.2.2.2.2.2.2.2.2.2.2.2.2.2.2.2.2.2.2.2.2.2.2.2.1) (ix.2.2.2.2.2.2.2.2.2.2.2.2.2.2.2.2.2.2.2.2.2.2.2.2.2.2.2.2.2.2.2.2.2.2.2.2.2.2.2.1) (ix.2.2.2.2.2.2.2.2.2.2.2.2.2.2.2.2.2.2.2.2.2.2.2.2.2.2.2.2.2.2.2.2.2.2.2.2.2.2.2.2.1) (ix.2.2.2.2.2.2.2.2.2.2.2.2.2.2.2.2.2.2.2.2.2.2.2.2.2.2.2.2.2.2.2.2.2.2.2.2.2.2.2.2.2.1) (ix.2.2.2.2.2.2.2.2.2.2.2.2.2.2.2.2.2.2.2.2.2.2.2.2.2.2.2.2.2.2.2.2.2.2.2.2.2.2.2.2.2.2.1) (ix.2.2.2.2.2.2.2.2.2.2.2.2.2.2.2.2.2.2.2.2.2.2.2.2.2.2.2.2.2.2.2.2.2.2.2.2.2.2.2.2.2.2.2.1) (ix.2.2.2.2.2.2.2.2.2.2.2.2.2.2.2.2.2.2.2.2.2.2.2.2.2.2.2.2.2.2.2.2.2.2.2.2.2.2.2.2.2.2.2.2.1) (ix.2.2.2.2.2.2.2.2.2.2.2.2.2.2.2.2.2.2.2.2.2.2.2.2.2.2.2.2.2.2.2.2.2.2.2.2.2.2.2.2.2.2.2.2.2.1) (ix.2.2.2.2.2.2.2.2.2.2.2.2.2.2.2.2.2.2.2.2.2.2.2.2.2.2.2.2.2.2.2.2.2.2.2.2.2.2.2.2.2.2.2.2.2.2.1) (ix.2.2.2.2.2.2.2.2.2.2.2.2.2.2.2.2.2.2.2.2.2.2.2.2.2.2.2.2.2.2.2.2.2.2.2.2.2.2.2.2.2.2.2.2.2.2.2.1) (ix.2.2.2.2.2.2.2.2.2.2.2.2.2.2.2.2.2.2.2.2.2.2.2.2.2.2.2.2.2.2.2.2.2.2.2.2.2.2.2.2.2.2.2.2.2.2.2.2.1) (ix.2.2.2.2.2.2.2.2.2.2.2.2.2.2.2.2.2.2.2.2.2.2.2.2.2.2.2.2.2.2.2.2.2.2.2.2.2.2.2.2.2.2.2.2.2.2.2.2.2.1) (ix.2.2.2.2.2.2.2.2.2.2.2.2.2.2.2.2.2.2.2.2.2.2.2.2.2.2.2.2.2.2.2.2.2.2.2.2.2.2.2.2.2.2.2.2.2.2.2.2.2.2.1) (ix.2.2.2.2.2.2.2.2.2.2.2.2.2.2.2.2.2.2.2.2.2.2.2.2.2.2.2.2.2.2.2.2.2.2.2.2.2.2.2.2.2.2.2.2.2.2.2.2.2.2.2.1) (ix.2.2.2.2.2.2.2.2.2.2.2.2.2.2.2.2.2.2.2.2.2.2.2.2.2.2.2.2.2.2.2.2.2.2.2.2.2.2.2.2.2.2.2.2.2.2.2.2.2.2.2.2.1) (ix.2.2.2.2.2.2.2.2.2.2.2.2.2.2.2.2.2.2.2.2.2.2.2.2.2.2.2.2.2.2.2.2.2.2.2.2.2.2.2.2.2.2.2.2.2.2.2.2.2.2.2.2.2.1) (ix.2.2.2.2.2.2.2.2.2.2.2.2.2.2.2.2.2.2.2.2.2.2.2.2.2.2.2.2.2.2.2.2.2.2.2.2.2.2.2.2.2.2.2.2.2.2.2.2.2.2.2.2.2.2.1) (ix.2.2.2.2.2.2.2.2.2.2.2.2.2.2.2.2.2.2.2.2.2.2.2.2.2.2.2.2.2.2.2.2.2.2.2.2.2.2.2.2.2.2.2.2.2.2.2.2.2.2.2.2.2.2.2.1) (ix.2.2.2.2.2.2.2.2.2.2.2.2.2.2.2.2.2.2.2.2.2.2.2.2.2.2.2.2.2.2.2.2.2.2.2.2.2.2.2.2.2.2.2.2.2.2.2.2.2.2.2.2.2.2.2.2.1) (ix.2.2.2.2.2.2.2.2.2.2.2.2.2.2.2.2.2.2.2.2.2.2.2.2.2.2.2.2.2.2.2.2.2.2.2.2.2.2.2.2.2.2.2.2.2.2.2.2.2.2.2.2.2.2.2.2.2.1) (ix.2.2.2.2.2.2.2.2.2.2.2.2.2.2.2.2.2.2.2.2.2.2.2.2.2.2.2.2.2.2.2.2.2.2.2.2.2.2.2.2.2.2.2.2.2.2.2.2.2.2.2.2.2.2.2.2.2.2.1) (ix.2.2.2.2.2.2.2.2.2.2.2.2.2.2.2.2.2.2.2.2.2.2.2.2.2.2.2.2.2.2.2.2.2.2.2.2.2.2.2.2.2.2.2.2.2.2.2.2.2.2.2.2.2.2.2.2.2.2.2.1) (ix.2.2.2.2.2.2.2.2.2.2.2.2.2.2.2.2.2.2.2.2.2.2.2.2.2.2.2.2.2.2.2.2.2.2.2.2.2.2.2.2.2.2.2.2.2.2.2.2.2.2.2.2.2.2.2.2.2.2.2.2.1) (ix.2.2.2.2.2.2.2.2.2.2.2.2.2.2.2.2.2.2.2.2.2.2.2.2.2.2.2.2.2.2.2.2.2.2.2.2.2.2.2.2.2.2.2.2.2.2.2.2.2.2.2.2.2.2.2.2.2.2.2.2.2.1) (ix.2.2.2.2.2.2.2.2.2.2.2.2.2.2.2.2.2.2.2.2.2.2.2.2.2.2.2.2.2.2.2.2.2.2.2.2.2.2.2.2.2.2.2.2.2.2.2.2.2.2.2.2.2.2.2.2.2.2.2.2.2.2.1) (ix.2.2.2.2.2.2.2.2.2.2.2.2.2.2.2.2.2.2.2.2.2.2.2.2.2.2.2.2.2.2.2.2.2.2.2.2.2.2.2.2.2.2.2.2.2.2.2.2.2.2.2.2.2.2.2.2.2.2.2.2.2.2.2.1) (ix.2.2.2.2.2.2.2.2.2.2.2.2.2.2.2.2.2.2.2.2.2.2.2.2.2.2.2.2.2.2.2.2.2.2.2.2.2.2.2.2.2.2.2.2.2.2.2.2.2.2.2.2.2.2.2.2.2.2.2.2.2.2.2.2)) ∧ va_S A s.heap H locs) (μ := fun ix => L + 4 - 4 * (ix.1)) ?_ (0, 1, 1, 0, wf, rf, sf, Ms, fun _ => 0, fun _ => 0, (fun _ _ => 0), fun _ => 0, fun _ => 0, fun _ => 0, fun _ => 0, (fun _ _ => 0), fun _ => 0, (fun _ _ => 0), 0, 0, 0, 0, 0, fun _ => 0, fun _ => 0, (fun _ _ => 0), 0, 0, 0, 0, cco, cnx, 1, 1, 0, 0, 0, 0, 0, 0, 0, 0, 0, fun _ => 0, fun _ => 0, fun _ => 0, fun _ => 0, fun _ => 0, fun _ => 0, fun _ => 0, fun _ => 0, fun _ => 0, fun _ => 0, fun _ => 0, fun _ => 0, fun _ => 0, fun _ => 0, fun _ => 0, fun _ => 0, fun _ => 0, fun _ => 0, fun _ => 0, fun _ => 0, fun _ => 0, fun _ => 0) ls H _ ⟨Nat.zero_le _, hIx, hIm, hE, hLd, hld, hl, hP, hD, hS⟩
  clear hl hP hD hS
  intro i_a ls H locs ⟨hz, hIx, hIm, hE, hLd, hld, hl, hP, hD, hS⟩ ih_a
  obtain ⟨z, W0, H0, n, wf, rk, sc, Ms, s5, g5, Mg, qf, k1, k2, wo, Mc, se, Mp, pen, psu, pnm, pkn, pfo, of, lf, Ml, eso, eti, eles, egr, cco, cnx, Wm, Hm, nm, i_free, i_top, i_found, i_length, i_sort, i_when, i_one, i_two, a_walls, a_starts, a_goals, a_laid, a_isTold, a_cells, a_index, a_near, a_nearCount, a_pay, a_done, a_pile, a_now, a_then, a_choice, a_plan, a_costs, a_paid, a_after, a_far, a_many, a_next⟩ := i_a
  have hz : 4 * z ≤ L + 3 := hz
  have hIx : xv_I W0 H0 n wf rk sc Ms s5 g5 Mg wo Mp pen psu pnm pkn pfo lf := hIx
  have hIm : mv_I Wm Hm nm a_walls a_starts a_goals i_found i_length := hIm
  have hE : sm_E W0 H0 n wf s5 g5 Wm Hm nm a_walls a_starts a_goals := hE
  have hLd : sm_L of Ml a_isTold a_laid := hLd
  have hld : ld_I of lf := hld
  have hl : lv_has ls 4 [(3, .int (nI (4 * z))), (0, .ref b), (1, .ref ma), (2, .ref na)] := hl
  have hP : va_P D kls (xw cZ cI cJ cII ma fa ca pa da ea wa ra sa ta cs cg cto cq cco cnx la lwo pce pse ppl dce dto dle rr rg rp rq rl W0 H0 n wf rk sc Ms s5 g5 Mg qf k1 k2 wo Mc se Mp pen psu pnm pkn pfo of lf Ml eso eti eles egr ++ mw cZ cI cJ cII na nwalls nstarts ngoals nlaid nisTold ncells nindex nnear nnearCount npay ndone npile nnow nthen nchoice nplan ncosts npaid nafter nfar nmany nnext Wm Hm nm i_free i_top i_found i_length i_sort i_when i_one i_two a_walls a_starts a_goals a_laid a_isTold a_cells a_index a_near a_nearCount a_pay a_done a_pile a_now a_then a_choice a_plan a_costs a_paid a_after a_far a_many a_next) H := hP
  have hD : va_D A (xw cZ cI cJ cII ma fa ca pa da ea wa ra sa ta cs cg cto cq cco cnx la lwo pce pse ppl dce dto dle rr rg rp rq rl W0 H0 n wf rk sc Ms s5 g5 Mg qf k1 k2 wo Mc se Mp pen psu pnm pkn pfo of lf Ml eso eti eles egr ++ mw cZ cI cJ cII na nwalls nstarts ngoals nlaid nisTold ncells nindex nnear nnearCount npay ndone npile nnow nthen nchoice nplan ncosts npaid nafter nfar nmany nnext Wm Hm nm i_free i_top i_found i_length i_sort i_when i_one i_two a_walls a_starts a_goals a_laid a_isTold a_cells a_index a_near a_nearCount a_pay a_done a_pile a_now a_then a_choice a_plan a_costs a_paid a_after a_far a_many a_next) := hD
  refine lv_iload_n hx hb d_lw_law_18 rfl (lv_at hl 0 rfl) ?_
  refine lv_aload_n hx hb d_lw_law_19 rfl (lv_at hl 1 rfl) ?_
  refine va_slen hx hb hXs hbl hbA hS d_lw_law_20 ?_
  refine lv_iconst (v := 4) hx hb d_lw_law_21 (by decide) ?_
  refine lv_isub hx hb d_lw_law_22 ?_
  refine lv_topi (fun y0 e0 => ?_)
  have e0 : y0 = nI L - 4 := e0
  refine lv_icmp_gt hx hb d_lw_law_23 rfl (fun g1 => ?_) (fun g1 => ?_)
  ·
    refine lv_iconst (v := 1) hx hb d_lw_law_401 (by decide) ?_
    refine W.widen (k := 60000) (n := 8922250) (Nat.le_of_ble_eq_true rfl) (Nat.le_of_ble_eq_true rfl) ?_
    refine va_forget (fun q h => hA2 _ (hS.2.2 q h)) ?_
    exact lw_ret hx hb hr hlk d_lw_law_402
  ·
    have gz : 4 * z + 3 < L := by
      rcases Nat.lt_or_ge L 4 with h | h
      · exact absurd (Int32.lt_of_lt_of_le (show y0 < 0 by rw [e0]; exact pk_sneg (b := 4) (by decide) h) (nI_pos' (by omega))) g1
      · have e1 : y0 = nI (L - 4) := e0.trans (pk_sub (b := 4) h)
        rw [e1] at g1
        rcases Nat.lt_or_ge (L - 4) (4 * z) with h2 | h2
        · exact absurd (nI_lt h2 (by omega)) g1
        · omega
    refine lv_aload_n hx hb d_lw_law_26 rfl (lv_at hl 1 rfl) ?_
    refine lv_iload_n hx hb d_lw_law_27 rfl (lv_at hl 0 rfl) ?_
    refine va_sld hx hb hXs hbl hbA hS (vp_in_nI (show 4 * z < L by omega) (by omega)) d_lw_law_28 ?_
    refine lv_topi (fun sc0 esc0 => ?_)
    refine lv_bipush (v := 15) hx hb d_lw_law_29 (by decide) ?_
    refine lv_iand hx hb d_lw_law_31 ?_
    obtain ⟨j, hj, ej⟩ := pk_andE sc0 (m := 15) 4 rfl
    rw [ej]
    rcases (show j = 0 ∨ j = 1 ∨ j = 2 ∨ j = 3 ∨ j = 4 ∨ j = 5 ∨ j = 6 ∨ j = 7 ∨ j = 8 ∨ j = 9 ∨ j = 10 ∨ j = 11 ∨ j = 12 ∨ j = 13 ∨ j = 14 ∨ j = 15 by omega) with rfl | rfl | rfl | rfl | rfl | rfl | rfl | rfl | rfl | rfl | rfl | rfl | rfl | rfl | rfl | rfl
    ·
      refine lv_tableIn hx hb d_lw_law_32 (by decide) (by decide) (off := 60) (tgt := 92) rfl rfl ?_
      refine lv_aload_n hx hb d_lw_law_92 rfl (lv_at hl 2 rfl) ?_
      refine lv_aload_n hx hb d_lw_law_93 rfl (lv_at hl 1 rfl) ?_
      refine lv_iload_n hx hb d_lw_law_94 rfl (lv_at hl 0 rfl) ?_
      refine lv_iconst (v := 1) hx hb d_lw_law_95 (by decide) ?_
      refine lv_iadd hx hb d_lw_law_96 ?_
      refine lv_topi (fun y1 ey1 => ?_)
      have ey1 : y1 = nI (4 * z + 1) := ey1.trans (nI_add (4 * z) 1)
      subst ey1
      refine va_sld hx hb hXs hbl hbA hS (vp_in_nI (show 4 * z + 1 < L by omega) (by omega)) d_lw_law_97 ?_
      refine lv_topi (fun sc1 esc1 => ?_)
      refine lv_aload_n hx hb d_lw_law_98 rfl (lv_at hl 1 rfl) ?_
      refine lv_iload_n hx hb d_lw_law_99 rfl (lv_at hl 0 rfl) ?_
      refine lv_iconst (v := 2) hx hb d_lw_law_100 (by decide) ?_
      refine lv_iadd hx hb d_lw_law_101 ?_
      refine lv_topi (fun y2 ey2 => ?_)
      have ey2 : y2 = nI (4 * z + 2) := ey2.trans (nI_add (4 * z) 2)
      subst ey2
      refine va_sld hx hb hXs hbl hbA hS (vp_in_nI (show 4 * z + 2 < L by omega) (by omega)) d_lw_law_102 ?_
      refine lv_topi (fun sc2 esc2 => ?_)
      have hPp := mt_permP (mt_pfx pm_mr_room) hP
      have hDp := mt_permD (mt_pfx pm_mr_room) hD
      have hPc := mt_hdP hPp
      have hDc := mt_hdLD hDp
      have hFc := mt_hdLF hDp hS hA
      refine va_calli (va_runV (As := [.int sc1, .int sc2]) (rest := []) ⟨hx, hb, hml, hown, hg⟩ (c_mr_room l D cZ cI cJ cII ma fa ca pa da ea wa ra sa ta cs cg cto cq cco cnx la lwo pce pse ppl dce dto dle rr rg rp rq rl W0 H0 n wf rk sc Ms s5 g5 Mg qf k1 k2 wo Mc se Mp pen psu pnm pkn pfo of lf Ml eso eti eles egr sc1 sc2 H.size hIx) (cwV 2 hg gv_lw_13 rfl rfl rfl (by decide +kernel) ⟨Nat.le_of_ble_eq_true rfl, Nat.le_of_ble_eq_true rfl⟩) ⟨mt_bl, va_recv (q0 := 0) (ci := 6) hK hPc rfl rfl, mt_pr hX hPc hK hDc⟩ rfl rfl hl.1 rfl (lv_room (Nat.le_of_ble_eq_true rfl)) d_lw_law_103 ⟨Nat.le_of_ble_eq_true rfl, Nat.le_of_ble_eq_true rfl⟩) hS (fun q _ h => hFc q h) hFc (fun r3 u t H1 locs ht hvm hw hB hz1 hk1 hS => ?_)
      obtain ⟨Wn4, Hn5, n16, wf17, rf18, sf19, Ms110, pnm111, pkn112, pfo113, of114, lf115⟩ := u
      obtain ⟨hr3, hwr3⟩ := hw
      have hr3 : (r3 = -1 ∧ rm_B sc1 sc2) ∨ (r3 = sc1 * sc2 ∧ ¬ rm_B sc1 sc2) := hr3
      have hwr3 : (xv_I Wn4 Hn5 n16 wf17 rf18 sf19 Ms110 s5 g5 Mg wo Mp pen psu pnm111 pkn112 pfo113 lf115) ∧ ((rm_B sc1 sc2 ∧ Wn4 = W0 ∧ Hn5 = H0 ∧ n16 = n ∧ wf17 = wf ∧ of114 = of ∧ lf115 = lf) ∨ (¬ rm_B sc1 sc2 ∧ sc1 = nI Wn4 ∧ sc2 = nI Hn5 ∧ n16 = 0 ∧ (∀ j, j < 25 → wf17 j = 0) ∧ (∀ j, j < 6 → of114 j = 0) ∧ ∀ j, j < 6 → lf115 j = 0)) := hwr3
      obtain ⟨hP1, hD1⟩ := hB
      rw [ht] at hP1
      obtain ⟨hP, hD⟩ := mt_joinL hPp hDp hk1 hFc hP1 hD1
      have hP : va_P D kls (xw cZ cI cJ cII ma fa ca pa da ea wa ra sa ta cs cg cto cq cco cnx la lwo pce pse ppl dce dto dle rr rg rp rq rl Wn4 Hn5 n16 wf17 rf18 sf19 Ms110 s5 g5 Mg qf k1 k2 wo Mc se Mp pen psu pnm111 pkn112 pfo113 of114 lf115 Ml eso eti eles egr ++ mw cZ cI cJ cII na nwalls nstarts ngoals nlaid nisTold ncells nindex nnear nnearCount npay ndone npile nnow nthen nchoice nplan ncosts npaid nafter nfar nmany nnext Wm Hm nm i_free i_top i_found i_length i_sort i_when i_one i_two a_walls a_starts a_goals a_laid a_isTold a_cells a_index a_near a_nearCount a_pay a_done a_pile a_now a_then a_choice a_plan a_costs a_paid a_after a_far a_many a_next) H1 := mt_permP (mt_pbx pm_mr_room) hP
      have hD : va_D A (xw cZ cI cJ cII ma fa ca pa da ea wa ra sa ta cs cg cto cq cco cnx la lwo pce pse ppl dce dto dle rr rg rp rq rl Wn4 Hn5 n16 wf17 rf18 sf19 Ms110 s5 g5 Mg qf k1 k2 wo Mc se Mp pen psu pnm111 pkn112 pfo113 of114 lf115 Ml eso eti eles egr ++ mw cZ cI cJ cII na nwalls nstarts ngoals nlaid nisTold ncells nindex nnear nnearCount npay ndone npile nnow nthen nchoice nplan ncosts npaid nafter nfar nmany nnext Wm Hm nm i_free i_top i_found i_length i_sort i_when i_one i_two a_walls a_starts a_goals a_laid a_isTold a_cells a_index a_near a_nearCount a_pay a_done a_pile a_now a_then a_choice a_plan a_costs a_paid a_after a_far a_many a_next) := mt_permD (mt_pbx pm_mr_room) hD
      clear hP1 hD1 hPp hDp hPc hDc hFc hk1
      generalize H1 = H at hP hS ⊢
      have hr_mr := hr3
      have hIx := hwr3.1
      have hp_mr := hwr3.2
      refine lv_pop hx hb d_lw_law_106 rfl ?_
      refine lv_aload_n hx hb d_lw_law_107 rfl (lv_at hl 3 rfl) ?_
      refine lv_aload_n hx hb d_lw_law_108 rfl (lv_at hl 1 rfl) ?_
      refine lv_iload_n hx hb d_lw_law_109 rfl (lv_at hl 0 rfl) ?_
      refine lv_iconst (v := 1) hx hb d_lw_law_110 (by decide) ?_
      refine lv_iadd hx hb d_lw_law_111 ?_
      refine lv_topi (fun y16 ey16 => ?_)
      have ey16 : y16 = nI (4 * z + 1) := ey16.trans (nI_add (4 * z) 1)
      subst ey16
      refine va_sld hx hb hXs hbl hbA hS (vp_in_nI (show 4 * z + 1 < L by omega) (by omega)) d_lw_law_112 ?_
      rw [← esc1]
      refine lv_aload_n hx hb d_lw_law_113 rfl (lv_at hl 1 rfl) ?_
      refine lv_iload_n hx hb d_lw_law_114 rfl (lv_at hl 0 rfl) ?_
      refine lv_iconst (v := 2) hx hb d_lw_law_115 (by decide) ?_
      refine lv_iadd hx hb d_lw_law_116 ?_
      refine lv_topi (fun y17 ey17 => ?_)
      have ey17 : y17 = nI (4 * z + 2) := ey17.trans (nI_add (4 * z) 2)
      subst ey17
      refine va_sld hx hb hXs hbl hbA hS (vp_in_nI (show 4 * z + 2 < L by omega) (by omega)) d_lw_law_117 ?_
      rw [← esc2]
      have hPp := mt_permP (mt_pfm pm_md_room) hP
      have hDp := mt_permD (mt_pfm pm_md_room) hD
      have hPc := mt_hdP hPp
      have hDc := mt_hdLD hDp
      have hFc := mt_hdLF hDp hS hA
      refine va_calli (va_runV (As := [.int sc1, .int sc2]) (rest := []) ⟨hx, hb, hml, hown, hg⟩ (c_md_room l D cZ cI cJ cII na nwalls nstarts ngoals nlaid nisTold ncells nindex nnear nnearCount npay ndone npile nnow nthen nchoice nplan ncosts npaid nafter nfar nmany nnext i_free i_top i_found i_length i_sort i_when i_one i_two Wm Hm nm a_walls a_starts a_goals a_isTold sc1 sc2 H.size hIm) (cwV 2 hg gv_lw_17 rfl rfl rfl (by decide +kernel) ⟨Nat.le_of_ble_eq_true rfl, Nat.le_of_ble_eq_true rfl⟩) ⟨mt_bl, va_recv (q0 := 0) (ci := 7) hK hPc rfl rfl, mt_pr hX hPc hK hDc⟩ rfl rfl hl.1 rfl (lv_room (Nat.le_of_ble_eq_true rfl)) d_lw_law_118 ⟨Nat.le_of_ble_eq_true rfl, Nat.le_of_ble_eq_true rfl⟩) hS (fun q _ h => hFc q h) hFc (fun r18 u t H1 locs ht hvm hw hB hz1 hk1 hS => ?_)
      obtain ⟨Wn19, Hn20, n121, wf122, of123, fo124⟩ := u
      obtain ⟨hr18, hwr18⟩ := hw
      have hr18 : (r18 = -1 ∧ rm_B sc1 sc2) ∨ (r18 = sc1 * sc2 ∧ ¬ rm_B sc1 sc2) := hr18
      have hwr18 : (mv_I Wn19 Hn20 n121 wf122 a_starts a_goals fo124 i_length) ∧ ((rm_B sc1 sc2 ∧ Wn19 = Wm ∧ Hn20 = Hm ∧ n121 = nm ∧ wf122 = a_walls ∧ of123 = a_isTold) ∨ (¬ rm_B sc1 sc2 ∧ sc1 = nI Wn19 ∧ sc2 = nI Hn20 ∧ n121 = 0 ∧ (∀ j, j < 25 → wf122 j = 0) ∧ ∀ j, j < 180 → of123 j = 0)) := hwr18
      obtain ⟨hP1, hD1⟩ := hB
      rw [ht] at hP1
      obtain ⟨hP, hD⟩ := mt_joinL hPp hDp hk1 hFc hP1 hD1
      have hP : va_P D kls (xw cZ cI cJ cII ma fa ca pa da ea wa ra sa ta cs cg cto cq cco cnx la lwo pce pse ppl dce dto dle rr rg rp rq rl Wn4 Hn5 n16 wf17 rf18 sf19 Ms110 s5 g5 Mg qf k1 k2 wo Mc se Mp pen psu pnm111 pkn112 pfo113 of114 lf115 Ml eso eti eles egr ++ mw cZ cI cJ cII na nwalls nstarts ngoals nlaid nisTold ncells nindex nnear nnearCount npay ndone npile nnow nthen nchoice nplan ncosts npaid nafter nfar nmany nnext Wn19 Hn20 n121 i_free i_top fo124 i_length i_sort i_when i_one i_two wf122 a_starts a_goals a_laid of123 a_cells a_index a_near a_nearCount a_pay a_done a_pile a_now a_then a_choice a_plan a_costs a_paid a_after a_far a_many a_next) H1 := mt_permP (mt_pbm pm_md_room) hP
      have hD : va_D A (xw cZ cI cJ cII ma fa ca pa da ea wa ra sa ta cs cg cto cq cco cnx la lwo pce pse ppl dce dto dle rr rg rp rq rl Wn4 Hn5 n16 wf17 rf18 sf19 Ms110 s5 g5 Mg qf k1 k2 wo Mc se Mp pen psu pnm111 pkn112 pfo113 of114 lf115 Ml eso eti eles egr ++ mw cZ cI cJ cII na nwalls nstarts ngoals nlaid nisTold ncells nindex nnear nnearCount npay ndone npile nnow nthen nchoice nplan ncosts npaid nafter nfar nmany nnext Wn19 Hn20 n121 i_free i_top fo124 i_length i_sort i_when i_one i_two wf122 a_starts a_goals a_laid of123 a_cells a_index a_near a_nearCount a_pay a_done a_pile a_now a_then a_choice a_plan a_costs a_paid a_after a_far a_many a_next) := mt_permD (mt_pbm pm_md_room) hD
      clear hP1 hD1 hPp hDp hPc hDc hFc hk1
      generalize H1 = H at hP hS ⊢
      have hIm := hwr18.1
      obtain ⟨hq, hE, hLd, hld⟩ := sm_room hE hLd hld hr_mr hp_mr hr18 hwr18.2 hIx.1.1 hIm.1
      refine lv_pop hx hb d_lw_law_121 rfl ?_
      refine lv_goto hx hb d_lw_law_122 rfl ?_
      refine lv_iinc (k := 0) (v := nI (4 * (z + 1))) hx hb d_lw_law_395 hl rfl (by rw [show Int32.ofInt 4 = nI 4 from rfl, nI_add]; exact congrArg nI (by omega)) (by decide) rfl (fun ls hl => ?_)
      have hl : lv_has ls 4 [(3, .int (nI (4 * (z + 1)))), (0, .ref b), (1, .ref ma), (2, .ref na)] := hl
      refine lv_goto hx hb d_lw_law_398 rfl ?_
      have hl := lv_sub hl [0, 1, 2, 3] (l' := [(3, .int (nI (4 * (z + 1)))), (0, .ref b), (1, .ref ma), (2, .ref na)]) rfl
      exact ih_a (z + 1, Wn4, Hn5, n16, wf17, rf18, sf19, Ms110, s5, g5, Mg, qf, k1, k2, wo, Mc, se, Mp, pen, psu, pnm111, pkn112, pfo113, of114, lf115, Ml, eso, eti, eles, egr, cco, cnx, Wn19, Hn20, n121, i_free, i_top, fo124, i_length, i_sort, i_when, i_one, i_two, wf122, a_starts, a_goals, a_laid, of123, a_cells, a_index, a_near, a_nearCount, a_pay, a_done, a_pile, a_now, a_then, a_choice, a_plan, a_costs, a_paid, a_after, a_far, a_many, a_next) ls H _ (by show L + 4 - 4 * (z + 1) < L + 4 - 4 * z; omega) ⟨by show 4 * (z + 1) ≤ L + 3; omega, hIx, hIm, hE, hLd, hld, hl, hP, hD, hS⟩
    ·
      refine lv_tableIn hx hb d_lw_law_32 (by decide) (by decide) (off := 93) (tgt := 125) rfl rfl ?_
      refine lv_aload_n hx hb d_lw_law_125 rfl (lv_at hl 2 rfl) ?_
      refine lv_aload_n hx hb d_lw_law_126 rfl (lv_at hl 1 rfl) ?_
      refine lv_iload_n hx hb d_lw_law_127 rfl (lv_at hl 0 rfl) ?_
      refine lv_iconst (v := 1) hx hb d_lw_law_128 (by decide) ?_
      refine lv_iadd hx hb d_lw_law_129 ?_
      refine lv_topi (fun y25 ey25 => ?_)
      have ey25 : y25 = nI (4 * z + 1) := ey25.trans (nI_add (4 * z) 1)
      subst ey25
      refine va_sld hx hb hXs hbl hbA hS (vp_in_nI (show 4 * z + 1 < L by omega) (by omega)) d_lw_law_130 ?_
      refine lv_topi (fun sc1 esc1 => ?_)
      have hPp := mt_permP (mt_pfx pm_mr_wall) hP
      have hDp := mt_permD (mt_pfx pm_mr_wall) hD
      have hPc := mt_hdP hPp
      have hDc := mt_hdLD hDp
      have hFc := mt_hdLF hDp hS hA
      refine va_calli (va_runV (As := [.int sc1]) (rest := []) ⟨hx, hb, hml, hown, hg⟩ (c_mr_wall l D cZ cI cJ cII ma fa ca pa da ea wa ra sa ta cs cg cto cq cco cnx la lwo pce pse ppl dce dto dle rr rg rp rq rl W0 H0 n wf rk sc Ms s5 g5 Mg qf k1 k2 wo Mc se Mp pen psu pnm pkn pfo of lf Ml eso eti eles egr sc1 H.size hIx) (cwV 1 hg gv_lw_18 rfl rfl rfl (by decide +kernel) ⟨Nat.le_of_ble_eq_true rfl, Nat.le_of_ble_eq_true rfl⟩) ⟨mt_bl, va_recv (q0 := 0) (ci := 6) hK hPc rfl rfl, mt_pr hX hPc hK hDc⟩ rfl rfl hl.1 rfl (lv_room (Nat.le_of_ble_eq_true rfl)) d_lw_law_131 ⟨Nat.le_of_ble_eq_true rfl, Nat.le_of_ble_eq_true rfl⟩) hS (fun q _ h => hFc q h) hFc (fun r26 u t H1 locs ht hvm hw hB hz1 hk1 hS => ?_)
      obtain ⟨n127, wf128, rf129, sf130, Ms131, pnm132, pkn133, pfo134⟩ := u
      obtain ⟨hr26, hwr26⟩ := hw
      have hr26 : wl_P (W0 * H0) n wf sc1 r26 n127 wf128 := hr26
      have hwr26 : xv_I W0 H0 n127 wf128 rf129 sf130 Ms131 s5 g5 Mg wo Mp pen psu pnm132 pkn133 pfo134 lf := hwr26
      obtain ⟨hP1, hD1⟩ := hB
      rw [ht] at hP1
      obtain ⟨hP, hD⟩ := mt_joinL hPp hDp hk1 hFc hP1 hD1
      have hP : va_P D kls (xw cZ cI cJ cII ma fa ca pa da ea wa ra sa ta cs cg cto cq cco cnx la lwo pce pse ppl dce dto dle rr rg rp rq rl W0 H0 n127 wf128 rf129 sf130 Ms131 s5 g5 Mg qf k1 k2 wo Mc se Mp pen psu pnm132 pkn133 pfo134 of lf Ml eso eti eles egr ++ mw cZ cI cJ cII na nwalls nstarts ngoals nlaid nisTold ncells nindex nnear nnearCount npay ndone npile nnow nthen nchoice nplan ncosts npaid nafter nfar nmany nnext Wm Hm nm i_free i_top i_found i_length i_sort i_when i_one i_two a_walls a_starts a_goals a_laid a_isTold a_cells a_index a_near a_nearCount a_pay a_done a_pile a_now a_then a_choice a_plan a_costs a_paid a_after a_far a_many a_next) H1 := mt_permP (mt_pbx pm_mr_wall) hP
      have hD : va_D A (xw cZ cI cJ cII ma fa ca pa da ea wa ra sa ta cs cg cto cq cco cnx la lwo pce pse ppl dce dto dle rr rg rp rq rl W0 H0 n127 wf128 rf129 sf130 Ms131 s5 g5 Mg qf k1 k2 wo Mc se Mp pen psu pnm132 pkn133 pfo134 of lf Ml eso eti eles egr ++ mw cZ cI cJ cII na nwalls nstarts ngoals nlaid nisTold ncells nindex nnear nnearCount npay ndone npile nnow nthen nchoice nplan ncosts npaid nafter nfar nmany nnext Wm Hm nm i_free i_top i_found i_length i_sort i_when i_one i_two a_walls a_starts a_goals a_laid a_isTold a_cells a_index a_near a_nearCount a_pay a_done a_pile a_now a_then a_choice a_plan a_costs a_paid a_after a_far a_many a_next) := mt_permD (mt_pbx pm_mr_wall) hD
      clear hP1 hD1 hPp hDp hPc hDc hFc hk1
      generalize H1 = H at hP hS ⊢
      have hr_mr := hr26
      have hN25 := hIx.1.1.2.2.2
      have hIx := hwr26
      refine lv_pop hx hb d_lw_law_134 rfl ?_
      refine lv_aload_n hx hb d_lw_law_135 rfl (lv_at hl 3 rfl) ?_
      refine lv_aload_n hx hb d_lw_law_136 rfl (lv_at hl 1 rfl) ?_
      refine lv_iload_n hx hb d_lw_law_137 rfl (lv_at hl 0 rfl) ?_
      refine lv_iconst (v := 1) hx hb d_lw_law_138 (by decide) ?_
      refine lv_iadd hx hb d_lw_law_139 ?_
      refine lv_topi (fun y35 ey35 => ?_)
      have ey35 : y35 = nI (4 * z + 1) := ey35.trans (nI_add (4 * z) 1)
      subst ey35
      refine va_sld hx hb hXs hbl hbA hS (vp_in_nI (show 4 * z + 1 < L by omega) (by omega)) d_lw_law_140 ?_
      rw [← esc1]
      have hPp := mt_permP (mt_pfm pm_md_wall) hP
      have hDp := mt_permD (mt_pfm pm_md_wall) hD
      have hPc := mt_hdP hPp
      have hDc := mt_hdLD hDp
      have hFc := mt_hdLF hDp hS hA
      refine va_calli (va_runV (As := [.int sc1]) (rest := []) ⟨hx, hb, hml, hown, hg⟩ (c_md_wall l D cZ cI cJ cII na nwalls nstarts ngoals nlaid nisTold ncells nindex nnear nnearCount npay ndone npile nnow nthen nchoice nplan ncosts npaid nafter nfar nmany nnext i_free i_top i_found i_length i_sort i_when i_one i_two Wm Hm nm a_walls a_starts a_goals sc1 H.size hIm) (cwV 1 hg gv_lw_22 rfl rfl rfl (by decide +kernel) ⟨Nat.le_of_ble_eq_true rfl, Nat.le_of_ble_eq_true rfl⟩) ⟨mt_bl, va_recv (q0 := 0) (ci := 7) hK hPc rfl rfl, mt_pr hX hPc hK hDc⟩ rfl rfl hl.1 rfl (lv_room (Nat.le_of_ble_eq_true rfl)) d_lw_law_141 ⟨Nat.le_of_ble_eq_true rfl, Nat.le_of_ble_eq_true rfl⟩) hS (fun q _ h => hFc q h) hFc (fun r36 u t H1 locs ht hvm hw hB hz1 hk1 hS => ?_)
      obtain ⟨n137, wf138, fo139⟩ := u
      obtain ⟨hr36, hwr36⟩ := hw
      have hr36 : wl_P (Wm * Hm) nm a_walls sc1 r36 n137 wf138 := hr36
      have hwr36 : mv_I Wm Hm n137 wf138 a_starts a_goals fo139 i_length := hwr36
      obtain ⟨hP1, hD1⟩ := hB
      rw [ht] at hP1
      obtain ⟨hP, hD⟩ := mt_joinL hPp hDp hk1 hFc hP1 hD1
      have hP : va_P D kls (xw cZ cI cJ cII ma fa ca pa da ea wa ra sa ta cs cg cto cq cco cnx la lwo pce pse ppl dce dto dle rr rg rp rq rl W0 H0 n127 wf128 rf129 sf130 Ms131 s5 g5 Mg qf k1 k2 wo Mc se Mp pen psu pnm132 pkn133 pfo134 of lf Ml eso eti eles egr ++ mw cZ cI cJ cII na nwalls nstarts ngoals nlaid nisTold ncells nindex nnear nnearCount npay ndone npile nnow nthen nchoice nplan ncosts npaid nafter nfar nmany nnext Wm Hm n137 i_free i_top fo139 i_length i_sort i_when i_one i_two wf138 a_starts a_goals a_laid a_isTold a_cells a_index a_near a_nearCount a_pay a_done a_pile a_now a_then a_choice a_plan a_costs a_paid a_after a_far a_many a_next) H1 := mt_permP (mt_pbm pm_md_wall) hP
      have hD : va_D A (xw cZ cI cJ cII ma fa ca pa da ea wa ra sa ta cs cg cto cq cco cnx la lwo pce pse ppl dce dto dle rr rg rp rq rl W0 H0 n127 wf128 rf129 sf130 Ms131 s5 g5 Mg qf k1 k2 wo Mc se Mp pen psu pnm132 pkn133 pfo134 of lf Ml eso eti eles egr ++ mw cZ cI cJ cII na nwalls nstarts ngoals nlaid nisTold ncells nindex nnear nnearCount npay ndone npile nnow nthen nchoice nplan ncosts npaid nafter nfar nmany nnext Wm Hm n137 i_free i_top fo139 i_length i_sort i_when i_one i_two wf138 a_starts a_goals a_laid a_isTold a_cells a_index a_near a_nearCount a_pay a_done a_pile a_now a_then a_choice a_plan a_costs a_paid a_after a_far a_many a_next) := mt_permD (mt_pbm pm_md_wall) hD
      clear hP1 hD1 hPp hDp hPc hDc hFc hk1
      generalize H1 = H at hP hS ⊢
      have hIm := hwr36
      obtain ⟨hq, hE⟩ := sm_wall hE hN25 hr_mr hr36
      refine lv_pop hx hb d_lw_law_144 rfl ?_
      refine lv_goto hx hb d_lw_law_145 rfl ?_
      refine lv_iinc (k := 0) (v := nI (4 * (z + 1))) hx hb d_lw_law_395 hl rfl (by rw [show Int32.ofInt 4 = nI 4 from rfl, nI_add]; exact congrArg nI (by omega)) (by decide) rfl (fun ls hl => ?_)
      have hl : lv_has ls 4 [(3, .int (nI (4 * (z + 1)))), (0, .ref b), (1, .ref ma), (2, .ref na)] := hl
      refine lv_goto hx hb d_lw_law_398 rfl ?_
      have hl := lv_sub hl [0, 1, 2, 3] (l' := [(3, .int (nI (4 * (z + 1)))), (0, .ref b), (1, .ref ma), (2, .ref na)]) rfl
      exact ih_a (z + 1, W0, H0, n127, wf128, rf129, sf130, Ms131, s5, g5, Mg, qf, k1, k2, wo, Mc, se, Mp, pen, psu, pnm132, pkn133, pfo134, of, lf, Ml, eso, eti, eles, egr, cco, cnx, Wm, Hm, n137, i_free, i_top, fo139, i_length, i_sort, i_when, i_one, i_two, wf138, a_starts, a_goals, a_laid, a_isTold, a_cells, a_index, a_near, a_nearCount, a_pay, a_done, a_pile, a_now, a_then, a_choice, a_plan, a_costs, a_paid, a_after, a_far, a_many, a_next) ls H _ (by show L + 4 - 4 * (z + 1) < L + 4 - 4 * z; omega) ⟨by show 4 * (z + 1) ≤ L + 3; omega, hIx, hIm, hE, hLd, hld, hl, hP, hD, hS⟩
    ·
      refine lv_tableIn hx hb d_lw_law_32 (by decide) (by decide) (off := 116) (tgt := 148) rfl rfl ?_
      refine lv_aload_n hx hb d_lw_law_148 rfl (lv_at hl 2 rfl) ?_
      refine lv_aload_n hx hb d_lw_law_149 rfl (lv_at hl 1 rfl) ?_
      refine lv_iload_n hx hb d_lw_law_150 rfl (lv_at hl 0 rfl) ?_
      refine lv_iconst (v := 1) hx hb d_lw_law_151 (by decide) ?_
      refine lv_iadd hx hb d_lw_law_152 ?_
      refine lv_topi (fun y40 ey40 => ?_)
      have ey40 : y40 = nI (4 * z + 1) := ey40.trans (nI_add (4 * z) 1)
      subst ey40
      refine va_sld hx hb hXs hbl hbA hS (vp_in_nI (show 4 * z + 1 < L by omega) (by omega)) d_lw_law_153 ?_
      refine lv_topi (fun sc1 esc1 => ?_)
      refine lv_aload_n hx hb d_lw_law_154 rfl (lv_at hl 1 rfl) ?_
      refine lv_iload_n hx hb d_lw_law_155 rfl (lv_at hl 0 rfl) ?_
      refine lv_iconst (v := 2) hx hb d_lw_law_156 (by decide) ?_
      refine lv_iadd hx hb d_lw_law_157 ?_
      refine lv_topi (fun y41 ey41 => ?_)
      have ey41 : y41 = nI (4 * z + 2) := ey41.trans (nI_add (4 * z) 2)
      subst ey41
      refine va_sld hx hb hXs hbl hbA hS (vp_in_nI (show 4 * z + 2 < L by omega) (by omega)) d_lw_law_158 ?_
      refine lv_topi (fun sc2 esc2 => ?_)
      have hPp := mt_permP (mt_pfx pm_mr_mover) hP
      have hDp := mt_permD (mt_pfx pm_mr_mover) hD
      have hPc := mt_hdP hPp
      have hDc := mt_hdLD hDp
      have hFc := mt_hdLF hDp hS hA
      refine va_calli (va_runV (As := [.int sc1, .int sc2]) (rest := []) ⟨hx, hb, hml, hown, hg⟩ (c_mr_mover l D cZ cI cJ cII ma fa ca pa da ea wa ra sa ta cs cg cto cq cco cnx la lwo pce pse ppl dce dto dle rr rg rp rq rl W0 H0 n wf rk sc Ms s5 g5 Mg qf k1 k2 wo Mc se Mp pen psu pnm pkn pfo of lf Ml eso eti eles egr sc1 sc2 H.size hIx) (cwV 2 hg gv_lw_23 rfl rfl rfl (by decide +kernel) ⟨Nat.le_of_ble_eq_true rfl, Nat.le_of_ble_eq_true rfl⟩) ⟨mt_bl, va_recv (q0 := 0) (ci := 6) hK hPc rfl rfl, mt_pr hX hPc hK hDc⟩ rfl rfl hl.1 rfl (lv_room (Nat.le_of_ble_eq_true rfl)) d_lw_law_159 ⟨Nat.le_of_ble_eq_true rfl, Nat.le_of_ble_eq_true rfl⟩) hS (fun q _ h => hFc q h) hFc (fun r42 u t H1 locs ht hvm hw hB hz1 hk1 hS => ?_)
      obtain ⟨n143, s5144, g5145, qf146, Mg147, pnm148, pkn149, pfo150⟩ := u
      obtain ⟨hr42, hwr42⟩ := hw
      have hr42 : mo_P (W0 * H0) n wf s5 g5 sc1 sc2 r42 n143 s5144 g5145 := hr42
      have hwr42 : xv_I W0 H0 n143 wf rk sc Ms s5144 g5145 Mg147 wo Mp pen psu pnm148 pkn149 pfo150 lf := hwr42
      obtain ⟨hP1, hD1⟩ := hB
      rw [ht] at hP1
      obtain ⟨hP, hD⟩ := mt_joinL hPp hDp hk1 hFc hP1 hD1
      have hP : va_P D kls (xw cZ cI cJ cII ma fa ca pa da ea wa ra sa ta cs cg cto cq cco cnx la lwo pce pse ppl dce dto dle rr rg rp rq rl W0 H0 n143 wf rk sc Ms s5144 g5145 Mg147 qf146 k1 k2 wo Mc se Mp pen psu pnm148 pkn149 pfo150 of lf Ml eso eti eles egr ++ mw cZ cI cJ cII na nwalls nstarts ngoals nlaid nisTold ncells nindex nnear nnearCount npay ndone npile nnow nthen nchoice nplan ncosts npaid nafter nfar nmany nnext Wm Hm nm i_free i_top i_found i_length i_sort i_when i_one i_two a_walls a_starts a_goals a_laid a_isTold a_cells a_index a_near a_nearCount a_pay a_done a_pile a_now a_then a_choice a_plan a_costs a_paid a_after a_far a_many a_next) H1 := mt_permP (mt_pbx pm_mr_mover) hP
      have hD : va_D A (xw cZ cI cJ cII ma fa ca pa da ea wa ra sa ta cs cg cto cq cco cnx la lwo pce pse ppl dce dto dle rr rg rp rq rl W0 H0 n143 wf rk sc Ms s5144 g5145 Mg147 qf146 k1 k2 wo Mc se Mp pen psu pnm148 pkn149 pfo150 of lf Ml eso eti eles egr ++ mw cZ cI cJ cII na nwalls nstarts ngoals nlaid nisTold ncells nindex nnear nnearCount npay ndone npile nnow nthen nchoice nplan ncosts npaid nafter nfar nmany nnext Wm Hm nm i_free i_top i_found i_length i_sort i_when i_one i_two a_walls a_starts a_goals a_laid a_isTold a_cells a_index a_near a_nearCount a_pay a_done a_pile a_now a_then a_choice a_plan a_costs a_paid a_after a_far a_many a_next) := mt_permD (mt_pbx pm_mr_mover) hD
      clear hP1 hD1 hPp hDp hPc hDc hFc hk1
      generalize H1 = H at hP hS ⊢
      have hr_mr := hr42
      have hIx := hwr42
      refine lv_pop hx hb d_lw_law_162 rfl ?_
      refine lv_aload_n hx hb d_lw_law_163 rfl (lv_at hl 3 rfl) ?_
      refine lv_aload_n hx hb d_lw_law_164 rfl (lv_at hl 1 rfl) ?_
      refine lv_iload_n hx hb d_lw_law_165 rfl (lv_at hl 0 rfl) ?_
      refine lv_iconst (v := 1) hx hb d_lw_law_166 (by decide) ?_
      refine lv_iadd hx hb d_lw_law_167 ?_
      refine lv_topi (fun y51 ey51 => ?_)
      have ey51 : y51 = nI (4 * z + 1) := ey51.trans (nI_add (4 * z) 1)
      subst ey51
      refine va_sld hx hb hXs hbl hbA hS (vp_in_nI (show 4 * z + 1 < L by omega) (by omega)) d_lw_law_168 ?_
      rw [← esc1]
      refine lv_aload_n hx hb d_lw_law_169 rfl (lv_at hl 1 rfl) ?_
      refine lv_iload_n hx hb d_lw_law_170 rfl (lv_at hl 0 rfl) ?_
      refine lv_iconst (v := 2) hx hb d_lw_law_171 (by decide) ?_
      refine lv_iadd hx hb d_lw_law_172 ?_
      refine lv_topi (fun y52 ey52 => ?_)
      have ey52 : y52 = nI (4 * z + 2) := ey52.trans (nI_add (4 * z) 2)
      subst ey52
      refine va_sld hx hb hXs hbl hbA hS (vp_in_nI (show 4 * z + 2 < L by omega) (by omega)) d_lw_law_173 ?_
      rw [← esc2]
      have hPp := mt_permP (mt_pfm pm_md_mover) hP
      have hDp := mt_permD (mt_pfm pm_md_mover) hD
      have hPc := mt_hdP hPp
      have hDc := mt_hdLD hDp
      have hFc := mt_hdLF hDp hS hA
      refine va_calli (va_runV (As := [.int sc1, .int sc2]) (rest := []) ⟨hx, hb, hml, hown, hg⟩ (c_md_mover l D cZ cI cJ cII na nwalls nstarts ngoals nlaid nisTold ncells nindex nnear nnearCount npay ndone npile nnow nthen nchoice nplan ncosts npaid nafter nfar nmany nnext i_free i_top i_found i_length i_sort i_when i_one i_two Wm Hm nm a_walls a_starts a_goals sc1 sc2 H.size hIm) (cwV 2 hg gv_lw_26 rfl rfl rfl (by decide +kernel) ⟨Nat.le_of_ble_eq_true rfl, Nat.le_of_ble_eq_true rfl⟩) ⟨mt_bl, va_recv (q0 := 0) (ci := 7) hK hPc rfl rfl, mt_pr hX hPc hK hDc⟩ rfl rfl hl.1 rfl (lv_room (Nat.le_of_ble_eq_true rfl)) d_lw_law_174 ⟨Nat.le_of_ble_eq_true rfl, Nat.le_of_ble_eq_true rfl⟩) hS (fun q _ h => hFc q h) hFc (fun r53 u t H1 locs ht hvm hw hB hz1 hk1 hS => ?_)
      obtain ⟨n154, sf155, gf156, fo157⟩ := u
      obtain ⟨hr53, hwr53⟩ := hw
      have hr53 : mo_P (Wm * Hm) nm a_walls a_starts a_goals sc1 sc2 r53 n154 sf155 gf156 := hr53
      have hwr53 : mv_I Wm Hm n154 a_walls sf155 gf156 fo157 i_length := hwr53
      obtain ⟨hP1, hD1⟩ := hB
      rw [ht] at hP1
      obtain ⟨hP, hD⟩ := mt_joinL hPp hDp hk1 hFc hP1 hD1
      have hP : va_P D kls (xw cZ cI cJ cII ma fa ca pa da ea wa ra sa ta cs cg cto cq cco cnx la lwo pce pse ppl dce dto dle rr rg rp rq rl W0 H0 n143 wf rk sc Ms s5144 g5145 Mg147 qf146 k1 k2 wo Mc se Mp pen psu pnm148 pkn149 pfo150 of lf Ml eso eti eles egr ++ mw cZ cI cJ cII na nwalls nstarts ngoals nlaid nisTold ncells nindex nnear nnearCount npay ndone npile nnow nthen nchoice nplan ncosts npaid nafter nfar nmany nnext Wm Hm n154 i_free i_top fo157 i_length i_sort i_when i_one i_two a_walls sf155 gf156 a_laid a_isTold a_cells a_index a_near a_nearCount a_pay a_done a_pile a_now a_then a_choice a_plan a_costs a_paid a_after a_far a_many a_next) H1 := mt_permP (mt_pbm pm_md_mover) hP
      have hD : va_D A (xw cZ cI cJ cII ma fa ca pa da ea wa ra sa ta cs cg cto cq cco cnx la lwo pce pse ppl dce dto dle rr rg rp rq rl W0 H0 n143 wf rk sc Ms s5144 g5145 Mg147 qf146 k1 k2 wo Mc se Mp pen psu pnm148 pkn149 pfo150 of lf Ml eso eti eles egr ++ mw cZ cI cJ cII na nwalls nstarts ngoals nlaid nisTold ncells nindex nnear nnearCount npay ndone npile nnow nthen nchoice nplan ncosts npaid nafter nfar nmany nnext Wm Hm n154 i_free i_top fo157 i_length i_sort i_when i_one i_two a_walls sf155 gf156 a_laid a_isTold a_cells a_index a_near a_nearCount a_pay a_done a_pile a_now a_then a_choice a_plan a_costs a_paid a_after a_far a_many a_next) := mt_permD (mt_pbm pm_md_mover) hD
      clear hP1 hD1 hPp hDp hPc hDc hFc hk1
      generalize H1 = H at hP hS ⊢
      obtain ⟨hq, hE⟩ := sm_mover hE hIm hr_mr hr53
      have hIm := hwr53
      refine lv_pop hx hb d_lw_law_177 rfl ?_
      refine lv_goto hx hb d_lw_law_178 rfl ?_
      refine lv_iinc (k := 0) (v := nI (4 * (z + 1))) hx hb d_lw_law_395 hl rfl (by rw [show Int32.ofInt 4 = nI 4 from rfl, nI_add]; exact congrArg nI (by omega)) (by decide) rfl (fun ls hl => ?_)
      have hl : lv_has ls 4 [(3, .int (nI (4 * (z + 1)))), (0, .ref b), (1, .ref ma), (2, .ref na)] := hl
      refine lv_goto hx hb d_lw_law_398 rfl ?_
      have hl := lv_sub hl [0, 1, 2, 3] (l' := [(3, .int (nI (4 * (z + 1)))), (0, .ref b), (1, .ref ma), (2, .ref na)]) rfl
      exact ih_a (z + 1, W0, H0, n143, wf, rk, sc, Ms, s5144, g5145, Mg147, qf146, k1, k2, wo, Mc, se, Mp, pen, psu, pnm148, pkn149, pfo150, of, lf, Ml, eso, eti, eles, egr, cco, cnx, Wm, Hm, n154, i_free, i_top, fo157, i_length, i_sort, i_when, i_one, i_two, a_walls, sf155, gf156, a_laid, a_isTold, a_cells, a_index, a_near, a_nearCount, a_pay, a_done, a_pile, a_now, a_then, a_choice, a_plan, a_costs, a_paid, a_after, a_far, a_many, a_next) ls H _ (by show L + 4 - 4 * (z + 1) < L + 4 - 4 * z; omega) ⟨by show 4 * (z + 1) ≤ L + 3; omega, hIx, hIm, hE, hLd, hld, hl, hP, hD, hS⟩
    ·
      refine lv_tableIn hx hb d_lw_law_32 (by decide) (by decide) (off := 149) (tgt := 181) rfl rfl ?_
      refine lv_aload_n hx hb d_lw_law_181 rfl (lv_at hl 2 rfl) ?_
      have hPp := mt_permP (mt_pfx pm_mr_clear) hP
      have hDp := mt_permD (mt_pfx pm_mr_clear) hD
      have hPc := mt_hdP hPp
      have hDc := mt_hdLD hDp
      have hFc := mt_hdLF hDp hS hA
      refine va_calli (va_runV (As := []) (rest := []) ⟨hx, hb, hml, hown, hg⟩ (c_mr_clear l D cZ cI cJ cII ma fa ca pa da ea wa ra sa ta cs cg cto cq cco cnx la lwo pce pse ppl dce dto dle rr rg rp rq rl W0 H0 n wf rk sc Ms s5 g5 Mg qf k1 k2 wo Mc se Mp pen psu pnm pkn pfo of lf Ml eso eti eles egr H.size hIx) (cwV 0 hg gv_lw_27 rfl rfl rfl (by decide +kernel) ⟨Nat.le_of_ble_eq_true rfl, Nat.le_of_ble_eq_true rfl⟩) ⟨mt_bl, va_recv (q0 := 0) (ci := 6) hK hPc rfl rfl, mt_pr hX hPc hK hDc⟩ rfl rfl hl.1 rfl (lv_room (Nat.le_of_ble_eq_true rfl)) d_lw_law_182 ⟨Nat.le_of_ble_eq_true rfl, Nat.le_of_ble_eq_true rfl⟩) hS (fun q _ h => hFc q h) hFc (fun r58 u t H1 locs ht hvm hw hB hz1 hk1 hS => ?_)
      obtain ⟨hr58, hwr58⟩ := hw
      have hr58 : r58 = nI n := hr58
      have hwr58 : xv_I W0 H0 0 wf rk sc Ms s5 g5 Mg wo Mp pen psu 0 0 0 lf := hwr58
      obtain ⟨hP1, hD1⟩ := hB
      rw [ht] at hP1
      obtain ⟨hP, hD⟩ := mt_joinL hPp hDp hk1 hFc hP1 hD1
      have hP : va_P D kls (xw cZ cI cJ cII ma fa ca pa da ea wa ra sa ta cs cg cto cq cco cnx la lwo pce pse ppl dce dto dle rr rg rp rq rl W0 H0 0 wf rk sc Ms s5 g5 Mg qf k1 k2 wo Mc se Mp pen psu 0 0 0 of lf Ml eso eti eles egr ++ mw cZ cI cJ cII na nwalls nstarts ngoals nlaid nisTold ncells nindex nnear nnearCount npay ndone npile nnow nthen nchoice nplan ncosts npaid nafter nfar nmany nnext Wm Hm nm i_free i_top i_found i_length i_sort i_when i_one i_two a_walls a_starts a_goals a_laid a_isTold a_cells a_index a_near a_nearCount a_pay a_done a_pile a_now a_then a_choice a_plan a_costs a_paid a_after a_far a_many a_next) H1 := mt_permP (mt_pbx pm_mr_clear) hP
      have hD : va_D A (xw cZ cI cJ cII ma fa ca pa da ea wa ra sa ta cs cg cto cq cco cnx la lwo pce pse ppl dce dto dle rr rg rp rq rl W0 H0 0 wf rk sc Ms s5 g5 Mg qf k1 k2 wo Mc se Mp pen psu 0 0 0 of lf Ml eso eti eles egr ++ mw cZ cI cJ cII na nwalls nstarts ngoals nlaid nisTold ncells nindex nnear nnearCount npay ndone npile nnow nthen nchoice nplan ncosts npaid nafter nfar nmany nnext Wm Hm nm i_free i_top i_found i_length i_sort i_when i_one i_two a_walls a_starts a_goals a_laid a_isTold a_cells a_index a_near a_nearCount a_pay a_done a_pile a_now a_then a_choice a_plan a_costs a_paid a_after a_far a_many a_next) := mt_permD (mt_pbx pm_mr_clear) hD
      clear hP1 hD1 hPp hDp hPc hDc hFc hk1
      generalize H1 = H at hP hS ⊢
      have hr_mr := hr58
      have hIx := hwr58
      refine lv_pop hx hb d_lw_law_185 rfl ?_
      refine lv_aload_n hx hb d_lw_law_186 rfl (lv_at hl 3 rfl) ?_
      have hPp := mt_permP (mt_pfm pm_md_clear) hP
      have hDp := mt_permD (mt_pfm pm_md_clear) hD
      have hPc := mt_hdP hPp
      have hDc := mt_hdLD hDp
      have hFc := mt_hdLF hDp hS hA
      refine va_calli (va_runV (As := []) (rest := []) ⟨hx, hb, hml, hown, hg⟩ (c_md_clear l D cZ cI cJ cII na nwalls nstarts ngoals nlaid nisTold ncells nindex nnear nnearCount npay ndone npile nnow nthen nchoice nplan ncosts npaid nafter nfar nmany nnext i_free i_top i_found i_length i_sort i_when i_one i_two Wm Hm nm a_walls a_starts a_goals H.size hIm) (cwV 0 hg gv_lw_31 rfl rfl rfl (by decide +kernel) ⟨Nat.le_of_ble_eq_true rfl, Nat.le_of_ble_eq_true rfl⟩) ⟨mt_bl, va_recv (q0 := 0) (ci := 7) hK hPc rfl rfl, mt_pr hX hPc hK hDc⟩ rfl rfl hl.1 rfl (lv_room (Nat.le_of_ble_eq_true rfl)) d_lw_law_187 ⟨Nat.le_of_ble_eq_true rfl, Nat.le_of_ble_eq_true rfl⟩) hS (fun q _ h => hFc q h) hFc (fun r59 u t H1 locs ht hvm hw hB hz1 hk1 hS => ?_)
      obtain ⟨hr59, hwr59⟩ := hw
      have hr59 : r59 = nI nm := hr59
      have hwr59 : mv_I Wm Hm 0 a_walls a_starts a_goals 0 i_length := hwr59
      obtain ⟨hP1, hD1⟩ := hB
      rw [ht] at hP1
      obtain ⟨hP, hD⟩ := mt_joinL hPp hDp hk1 hFc hP1 hD1
      have hP : va_P D kls (xw cZ cI cJ cII ma fa ca pa da ea wa ra sa ta cs cg cto cq cco cnx la lwo pce pse ppl dce dto dle rr rg rp rq rl W0 H0 0 wf rk sc Ms s5 g5 Mg qf k1 k2 wo Mc se Mp pen psu 0 0 0 of lf Ml eso eti eles egr ++ mw cZ cI cJ cII na nwalls nstarts ngoals nlaid nisTold ncells nindex nnear nnearCount npay ndone npile nnow nthen nchoice nplan ncosts npaid nafter nfar nmany nnext Wm Hm 0 i_free i_top 0 i_length i_sort i_when i_one i_two a_walls a_starts a_goals a_laid a_isTold a_cells a_index a_near a_nearCount a_pay a_done a_pile a_now a_then a_choice a_plan a_costs a_paid a_after a_far a_many a_next) H1 := mt_permP (mt_pbm pm_md_clear) hP
      have hD : va_D A (xw cZ cI cJ cII ma fa ca pa da ea wa ra sa ta cs cg cto cq cco cnx la lwo pce pse ppl dce dto dle rr rg rp rq rl W0 H0 0 wf rk sc Ms s5 g5 Mg qf k1 k2 wo Mc se Mp pen psu 0 0 0 of lf Ml eso eti eles egr ++ mw cZ cI cJ cII na nwalls nstarts ngoals nlaid nisTold ncells nindex nnear nnearCount npay ndone npile nnow nthen nchoice nplan ncosts npaid nafter nfar nmany nnext Wm Hm 0 i_free i_top 0 i_length i_sort i_when i_one i_two a_walls a_starts a_goals a_laid a_isTold a_cells a_index a_near a_nearCount a_pay a_done a_pile a_now a_then a_choice a_plan a_costs a_paid a_after a_far a_many a_next) := mt_permD (mt_pbm pm_md_clear) hD
      clear hP1 hD1 hPp hDp hPc hDc hFc hk1
      generalize H1 = H at hP hS ⊢
      have hIm := hwr59
      have hq := hr_mr.trans ((congrArg nI hE.2.2.1).symm.trans hr59.symm)
      have hE := sm_clear hE
      refine lv_pop hx hb d_lw_law_190 rfl ?_
      refine lv_goto hx hb d_lw_law_191 rfl ?_
      refine lv_iinc (k := 0) (v := nI (4 * (z + 1))) hx hb d_lw_law_395 hl rfl (by rw [show Int32.ofInt 4 = nI 4 from rfl, nI_add]; exact congrArg nI (by omega)) (by decide) rfl (fun ls hl => ?_)
      have hl : lv_has ls 4 [(3, .int (nI (4 * (z + 1)))), (0, .ref b), (1, .ref ma), (2, .ref na)] := hl
      refine lv_goto hx hb d_lw_law_398 rfl ?_
      have hl := lv_sub hl [0, 1, 2, 3] (l' := [(3, .int (nI (4 * (z + 1)))), (0, .ref b), (1, .ref ma), (2, .ref na)]) rfl
      exact ih_a (z + 1, W0, H0, 0, wf, rk, sc, Ms, s5, g5, Mg, qf, k1, k2, wo, Mc, se, Mp, pen, psu, 0, 0, 0, of, lf, Ml, eso, eti, eles, egr, cco, cnx, Wm, Hm, 0, i_free, i_top, 0, i_length, i_sort, i_when, i_one, i_two, a_walls, a_starts, a_goals, a_laid, a_isTold, a_cells, a_index, a_near, a_nearCount, a_pay, a_done, a_pile, a_now, a_then, a_choice, a_plan, a_costs, a_paid, a_after, a_far, a_many, a_next) ls H _ (by show L + 4 - 4 * (z + 1) < L + 4 - 4 * z; omega) ⟨by show 4 * (z + 1) ≤ L + 3; omega, hIx, hIm, hE, hLd, hld, hl, hP, hD, hS⟩
    ·
      refine lv_tableIn hx hb d_lw_law_32 (by decide) (by decide) (off := 162) (tgt := 194) rfl rfl ?_
      refine lv_aload_n hx hb d_lw_law_194 rfl (lv_at hl 2 rfl) ?_
      refine lv_aload_n hx hb d_lw_law_195 rfl (lv_at hl 1 rfl) ?_
      refine lv_iload_n hx hb d_lw_law_196 rfl (lv_at hl 0 rfl) ?_
      refine lv_iconst (v := 1) hx hb d_lw_law_197 (by decide) ?_
      refine lv_iadd hx hb d_lw_law_198 ?_
      refine lv_topi (fun y60 ey60 => ?_)
      have ey60 : y60 = nI (4 * z + 1) := ey60.trans (nI_add (4 * z) 1)
      subst ey60
      refine va_sld hx hb hXs hbl hbA hS (vp_in_nI (show 4 * z + 1 < L by omega) (by omega)) d_lw_law_199 ?_
      refine lv_topi (fun sc1 esc1 => ?_)
      have hPp := mt_permP (mt_pfx pm_mr_distance) hP
      have hDp := mt_permD (mt_pfx pm_mr_distance) hD
      have hPc := mt_hdP hPp
      have hDc := mt_hdLD hDp
      refine vp_callSi (W.runV (As := [.int sc1]) (rest := []) ⟨hx, hb, hml, hown, hg⟩ (c_mr_distance l D cZ cI cJ cII ma fa ca pa da ea wa ra sa ta cs cg cto cq cco cnx la lwo pce pse ppl dce dto dle rr rg rp rq rl W0 H0 n wf rk sc Ms s5 g5 Mg qf k1 k2 wo Mc se Mp pen psu pnm pkn pfo of lf Ml eso eti eles egr sc1 H.size hIx) (cwV 1 hg gv_lw_32 rfl rfl rfl (by decide +kernel) ⟨Nat.le_of_ble_eq_true rfl, Nat.le_of_ble_eq_true rfl⟩) ⟨mt_bl, va_recv (q0 := 0) (ci := 6) hK hPc rfl rfl, mt_pr hX hPc hK hDc⟩ rfl rfl hl.1 rfl (lv_room (Nat.le_of_ble_eq_true rfl)) d_lw_law_200 ⟨Nat.le_of_ble_eq_true rfl, Nat.le_of_ble_eq_true rfl⟩) (fun r61 hr61 => ?_)
      have hr61 : ds_P W0 (W0 * H0) n wf s5 g5 sc1 r61 := hr61
      clear hPp hDp hPc hDc
      have hr_mr := hr61
      refine lv_pop hx hb d_lw_law_203 rfl ?_
      refine lv_aload_n hx hb d_lw_law_204 rfl (lv_at hl 3 rfl) ?_
      refine lv_aload_n hx hb d_lw_law_205 rfl (lv_at hl 1 rfl) ?_
      refine lv_iload_n hx hb d_lw_law_206 rfl (lv_at hl 0 rfl) ?_
      refine lv_iconst (v := 1) hx hb d_lw_law_207 (by decide) ?_
      refine lv_iadd hx hb d_lw_law_208 ?_
      refine lv_topi (fun y62 ey62 => ?_)
      have ey62 : y62 = nI (4 * z + 1) := ey62.trans (nI_add (4 * z) 1)
      subst ey62
      refine va_sld hx hb hXs hbl hbA hS (vp_in_nI (show 4 * z + 1 < L by omega) (by omega)) d_lw_law_209 ?_
      rw [← esc1]
      have hPp := mt_permP (mt_pfm pm_md_distance) hP
      have hDp := mt_permD (mt_pfm pm_md_distance) hD
      have hPc := mt_hdP hPp
      have hDc := mt_hdLD hDp
      have hFc := mt_hdLF hDp hS hA
      refine va_calli (va_runV (As := [.int sc1]) (rest := []) ⟨hx, hb, hml, hown, hg⟩ (c_md_distance l D cZ cI cJ cII na nwalls nstarts ngoals nlaid nisTold ncells nindex nnear nnearCount npay ndone npile nnow nthen nchoice nplan ncosts npaid nafter nfar nmany nnext i_free i_top i_found i_length i_sort i_when i_one i_two Wm Hm nm a_walls a_starts a_goals a_far sc1 H.size hIm) (cwV 1 hg gv_lw_35 rfl rfl rfl (by decide +kernel) ⟨Nat.le_of_ble_eq_true rfl, Nat.le_of_ble_eq_true rfl⟩) ⟨mt_bl, va_recv (q0 := 0) (ci := 7) hK hPc rfl rfl, mt_pr hX hPc hK hDc⟩ rfl rfl hl.1 rfl (lv_room (Nat.le_of_ble_eq_true rfl)) d_lw_law_210 ⟨Nat.le_of_ble_eq_true rfl, Nat.le_of_ble_eq_true rfl⟩) hS (fun q _ h => hFc q h) hFc (fun r63 u t H1 locs ht hvm hw hB hz1 hk1 hS => ?_)
      obtain ⟨ff164, rfl⟩ : ∃ z, z = u := ⟨_, rfl⟩
      obtain ⟨hr63, hwr63⟩ := hw
      have hr63 : mv_v r63 ∧ ds_P Wm (Wm * Hm) nm a_walls a_starts a_goals sc1 r63 := hr63
      obtain ⟨hP1, hD1⟩ := hB
      rw [ht] at hP1
      obtain ⟨hP, hD⟩ := mt_joinL hPp hDp hk1 hFc hP1 hD1
      have hP : va_P D kls (xw cZ cI cJ cII ma fa ca pa da ea wa ra sa ta cs cg cto cq cco cnx la lwo pce pse ppl dce dto dle rr rg rp rq rl W0 H0 n wf rk sc Ms s5 g5 Mg qf k1 k2 wo Mc se Mp pen psu pnm pkn pfo of lf Ml eso eti eles egr ++ mw cZ cI cJ cII na nwalls nstarts ngoals nlaid nisTold ncells nindex nnear nnearCount npay ndone npile nnow nthen nchoice nplan ncosts npaid nafter nfar nmany nnext Wm Hm nm i_free i_top i_found i_length i_sort i_when i_one i_two a_walls a_starts a_goals a_laid a_isTold a_cells a_index a_near a_nearCount a_pay a_done a_pile a_now a_then a_choice a_plan a_costs a_paid a_after ff164 a_many a_next) H1 := mt_permP (mt_pbm pm_md_distance) hP
      have hD : va_D A (xw cZ cI cJ cII ma fa ca pa da ea wa ra sa ta cs cg cto cq cco cnx la lwo pce pse ppl dce dto dle rr rg rp rq rl W0 H0 n wf rk sc Ms s5 g5 Mg qf k1 k2 wo Mc se Mp pen psu pnm pkn pfo of lf Ml eso eti eles egr ++ mw cZ cI cJ cII na nwalls nstarts ngoals nlaid nisTold ncells nindex nnear nnearCount npay ndone npile nnow nthen nchoice nplan ncosts npaid nafter nfar nmany nnext Wm Hm nm i_free i_top i_found i_length i_sort i_when i_one i_two a_walls a_starts a_goals a_laid a_isTold a_cells a_index a_near a_nearCount a_pay a_done a_pile a_now a_then a_choice a_plan a_costs a_paid a_after ff164 a_many a_next) := mt_permD (mt_pbm pm_md_distance) hD
      clear hP1 hD1 hPp hDp hPc hDc hFc hk1
      generalize H1 = H at hP hS ⊢
      have hq := sm_dist hE hIx.1.1.2.2.2 (xv_In hIx) hr_mr hr63.2
      refine lv_pop hx hb d_lw_law_213 rfl ?_
      refine lv_goto hx hb d_lw_law_214 rfl ?_
      refine lv_iinc (k := 0) (v := nI (4 * (z + 1))) hx hb d_lw_law_395 hl rfl (by rw [show Int32.ofInt 4 = nI 4 from rfl, nI_add]; exact congrArg nI (by omega)) (by decide) rfl (fun ls hl => ?_)
      have hl : lv_has ls 4 [(3, .int (nI (4 * (z + 1)))), (0, .ref b), (1, .ref ma), (2, .ref na)] := hl
      refine lv_goto hx hb d_lw_law_398 rfl ?_
      have hl := lv_sub hl [0, 1, 2, 3] (l' := [(3, .int (nI (4 * (z + 1)))), (0, .ref b), (1, .ref ma), (2, .ref na)]) rfl
      exact ih_a (z + 1, W0, H0, n, wf, rk, sc, Ms, s5, g5, Mg, qf, k1, k2, wo, Mc, se, Mp, pen, psu, pnm, pkn, pfo, of, lf, Ml, eso, eti, eles, egr, cco, cnx, Wm, Hm, nm, i_free, i_top, i_found, i_length, i_sort, i_when, i_one, i_two, a_walls, a_starts, a_goals, a_laid, a_isTold, a_cells, a_index, a_near, a_nearCount, a_pay, a_done, a_pile, a_now, a_then, a_choice, a_plan, a_costs, a_paid, a_after, ff164, a_many, a_next) ls H _ (by show L + 4 - 4 * (z + 1) < L + 4 - 4 * z; omega) ⟨by show 4 * (z + 1) ≤ L + 3; omega, hIx, hIm, hE, hLd, hld, hl, hP, hD, hS⟩
    ·
      refine lv_tableIn hx hb d_lw_law_32 (by decide) (by decide) (off := 185) (tgt := 217) rfl rfl ?_
      refine lv_aload_n hx hb d_lw_law_217 rfl (lv_at hl 2 rfl) ?_
      refine lv_aload_n hx hb d_lw_law_218 rfl (lv_at hl 1 rfl) ?_
      refine lv_iload_n hx hb d_lw_law_219 rfl (lv_at hl 0 rfl) ?_
      refine lv_iconst (v := 1) hx hb d_lw_law_220 (by decide) ?_
      refine lv_iadd hx hb d_lw_law_221 ?_
      refine lv_topi (fun y65 ey65 => ?_)
      have ey65 : y65 = nI (4 * z + 1) := ey65.trans (nI_add (4 * z) 1)
      subst ey65
      refine va_sld hx hb hXs hbl hbA hS (vp_in_nI (show 4 * z + 1 < L by omega) (by omega)) d_lw_law_222 ?_
      refine lv_topi (fun sc1 esc1 => ?_)
      refine lv_aload_n hx hb d_lw_law_223 rfl (lv_at hl 1 rfl) ?_
      refine lv_iload_n hx hb d_lw_law_224 rfl (lv_at hl 0 rfl) ?_
      refine lv_iconst (v := 2) hx hb d_lw_law_225 (by decide) ?_
      refine lv_iadd hx hb d_lw_law_226 ?_
      refine lv_topi (fun y66 ey66 => ?_)
      have ey66 : y66 = nI (4 * z + 2) := ey66.trans (nI_add (4 * z) 2)
      subst ey66
      refine va_sld hx hb hXs hbl hbA hS (vp_in_nI (show 4 * z + 2 < L by omega) (by omega)) d_lw_law_227 ?_
      refine lv_topi (fun sc2 esc2 => ?_)
      have hPp := mt_permP (mt_pfx pm_mr_ways) hP
      have hDp := mt_permD (mt_pfx pm_mr_ways) hD
      have hPc := mt_hdP hPp
      have hDc := mt_hdLD hDp
      have hFc := mt_hdLF hDp hS hA
      refine va_calll (va_runV (As := [.int sc1, .int sc2]) (rest := []) ⟨hx, hb, hml, hown, hg⟩ (c_mr_ways l D cZ cI cJ cII ma fa ca pa da ea wa ra sa ta cs cg cto cq cco cnx la lwo pce pse ppl dce dto dle rr rg rp rq rl W0 H0 n wf rk sc Ms s5 g5 Mg qf k1 k2 wo Mc se Mp pen psu pnm pkn pfo of lf Ml eso eti eles egr sc1 sc2 H.size hIx) (cwV 2 hg gv_lw_36 rfl rfl rfl (by decide +kernel) ⟨Nat.le_of_ble_eq_true rfl, Nat.le_of_ble_eq_true rfl⟩) ⟨mt_bl, va_recv (q0 := 0) (ci := 6) hK hPc rfl rfl, mt_pr hX hPc hK hDc⟩ rfl rfl hl.1 rfl (lv_room (Nat.le_of_ble_eq_true rfl)) d_lw_law_228 ⟨Nat.le_of_ble_eq_true rfl, Nat.le_of_ble_eq_true rfl⟩) hS (fun q _ h => hFc q h) hFc (fun r67 u t H1 locs ht hvm hw hB hz1 hk1 hS => ?_)
      obtain ⟨co168, nx169, k370, k471⟩ := u
      obtain ⟨hr67, hwr67⟩ := hw
      have hr67 : wa_P W0 (W0 * H0) n wf s5 g5 sc1 sc2 r67 := hr67
      obtain ⟨hP1, hD1⟩ := hB
      rw [ht] at hP1
      obtain ⟨hP, hD⟩ := mt_joinL hPp hDp hk1 hFc hP1 hD1
      have hP : va_P D kls (xw cZ cI cJ cII ma fa ca pa da ea wa ra sa ta cs cg cto cq co168 nx169 la lwo pce pse ppl dce dto dle rr rg rp rq rl W0 H0 n wf rk sc Ms s5 g5 Mg qf k370 k471 wo Mc se Mp pen psu pnm pkn pfo of lf Ml eso eti eles egr ++ mw cZ cI cJ cII na nwalls nstarts ngoals nlaid nisTold ncells nindex nnear nnearCount npay ndone npile nnow nthen nchoice nplan ncosts npaid nafter nfar nmany nnext Wm Hm nm i_free i_top i_found i_length i_sort i_when i_one i_two a_walls a_starts a_goals a_laid a_isTold a_cells a_index a_near a_nearCount a_pay a_done a_pile a_now a_then a_choice a_plan a_costs a_paid a_after a_far a_many a_next) H1 := mt_permP (mt_pbx pm_mr_ways) hP
      have hD : va_D A (xw cZ cI cJ cII ma fa ca pa da ea wa ra sa ta cs cg cto cq co168 nx169 la lwo pce pse ppl dce dto dle rr rg rp rq rl W0 H0 n wf rk sc Ms s5 g5 Mg qf k370 k471 wo Mc se Mp pen psu pnm pkn pfo of lf Ml eso eti eles egr ++ mw cZ cI cJ cII na nwalls nstarts ngoals nlaid nisTold ncells nindex nnear nnearCount npay ndone npile nnow nthen nchoice nplan ncosts npaid nafter nfar nmany nnext Wm Hm nm i_free i_top i_found i_length i_sort i_when i_one i_two a_walls a_starts a_goals a_laid a_isTold a_cells a_index a_near a_nearCount a_pay a_done a_pile a_now a_then a_choice a_plan a_costs a_paid a_after a_far a_many a_next) := mt_permD (mt_pbx pm_mr_ways) hD
      clear hP1 hD1 hPp hDp hPc hDc hFc hk1
      generalize H1 = H at hP hS ⊢
      have hr_mr := hr67
      refine lv_pop2_2 hx hb d_lw_law_231 rfl ?_
      refine lv_aload_n hx hb d_lw_law_232 rfl (lv_at hl 3 rfl) ?_
      refine lv_aload_n hx hb d_lw_law_233 rfl (lv_at hl 1 rfl) ?_
      refine lv_iload_n hx hb d_lw_law_234 rfl (lv_at hl 0 rfl) ?_
      refine lv_iconst (v := 1) hx hb d_lw_law_235 (by decide) ?_
      refine lv_iadd hx hb d_lw_law_236 ?_
      refine lv_topi (fun y72 ey72 => ?_)
      have ey72 : y72 = nI (4 * z + 1) := ey72.trans (nI_add (4 * z) 1)
      subst ey72
      refine va_sld hx hb hXs hbl hbA hS (vp_in_nI (show 4 * z + 1 < L by omega) (by omega)) d_lw_law_237 ?_
      rw [← esc1]
      refine lv_aload_n hx hb d_lw_law_238 rfl (lv_at hl 1 rfl) ?_
      refine lv_iload_n hx hb d_lw_law_239 rfl (lv_at hl 0 rfl) ?_
      refine lv_iconst (v := 2) hx hb d_lw_law_240 (by decide) ?_
      refine lv_iadd hx hb d_lw_law_241 ?_
      refine lv_topi (fun y73 ey73 => ?_)
      have ey73 : y73 = nI (4 * z + 2) := ey73.trans (nI_add (4 * z) 2)
      subst ey73
      refine va_sld hx hb hXs hbl hbA hS (vp_in_nI (show 4 * z + 2 < L by omega) (by omega)) d_lw_law_242 ?_
      rw [← esc2]
      have hPp := mt_permP (mt_pfm pm_md_ways) hP
      have hDp := mt_permD (mt_pfm pm_md_ways) hD
      have hPc := mt_hdP hPp
      have hDc := mt_hdLD hDp
      have hFc := mt_hdLF hDp hS hA
      refine va_calll (va_runV (As := [.int sc1, .int sc2]) (rest := []) ⟨hx, hb, hml, hown, hg⟩ (c_md_ways l D cZ cI cJ cII na nwalls nstarts ngoals nlaid nisTold ncells nindex nnear nnearCount npay ndone npile nnow nthen nchoice nplan ncosts npaid nafter nfar nmany nnext i_free i_top i_found i_length i_sort i_when i_one i_two Wm Hm nm a_walls a_starts a_goals a_many a_next sc1 sc2 H.size hIm) (cwV 2 hg gv_lw_40 rfl rfl rfl (by decide +kernel) ⟨Nat.le_of_ble_eq_true rfl, Nat.le_of_ble_eq_true rfl⟩) ⟨mt_bl, va_recv (q0 := 0) (ci := 7) hK hPc rfl rfl, mt_pr hX hPc hK hDc⟩ rfl rfl hl.1 rfl (lv_room (Nat.le_of_ble_eq_true rfl)) d_lw_law_243 ⟨Nat.le_of_ble_eq_true rfl, Nat.le_of_ble_eq_true rfl⟩) hS (fun q _ h => hFc q h) hFc (fun r74 u t H1 locs ht hvm hw hB hz1 hk1 hS => ?_)
      obtain ⟨k375, k476⟩ := u
      obtain ⟨hr74, hwr74⟩ := hw
      have hr74 : wa_P Wm (Wm * Hm) nm a_walls a_starts a_goals sc1 sc2 r74 := hr74
      obtain ⟨hP1, hD1⟩ := hB
      rw [ht] at hP1
      obtain ⟨hP, hD⟩ := mt_joinL hPp hDp hk1 hFc hP1 hD1
      have hP : va_P D kls (xw cZ cI cJ cII ma fa ca pa da ea wa ra sa ta cs cg cto cq co168 nx169 la lwo pce pse ppl dce dto dle rr rg rp rq rl W0 H0 n wf rk sc Ms s5 g5 Mg qf k370 k471 wo Mc se Mp pen psu pnm pkn pfo of lf Ml eso eti eles egr ++ mw cZ cI cJ cII na nwalls nstarts ngoals nlaid nisTold ncells nindex nnear nnearCount npay ndone npile nnow nthen nchoice nplan ncosts npaid nafter nfar nmany nnext Wm Hm nm i_free i_top i_found i_length i_sort i_when i_one i_two a_walls a_starts a_goals a_laid a_isTold a_cells a_index a_near a_nearCount a_pay a_done a_pile a_now a_then a_choice a_plan a_costs a_paid a_after a_far k375 k476) H1 := mt_permP (mt_pbm pm_md_ways) hP
      have hD : va_D A (xw cZ cI cJ cII ma fa ca pa da ea wa ra sa ta cs cg cto cq co168 nx169 la lwo pce pse ppl dce dto dle rr rg rp rq rl W0 H0 n wf rk sc Ms s5 g5 Mg qf k370 k471 wo Mc se Mp pen psu pnm pkn pfo of lf Ml eso eti eles egr ++ mw cZ cI cJ cII na nwalls nstarts ngoals nlaid nisTold ncells nindex nnear nnearCount npay ndone npile nnow nthen nchoice nplan ncosts npaid nafter nfar nmany nnext Wm Hm nm i_free i_top i_found i_length i_sort i_when i_one i_two a_walls a_starts a_goals a_laid a_isTold a_cells a_index a_near a_nearCount a_pay a_done a_pile a_now a_then a_choice a_plan a_costs a_paid a_after a_far k375 k476) := mt_permD (mt_pbm pm_md_ways) hD
      clear hP1 hD1 hPp hDp hPc hDc hFc hk1
      generalize H1 = H at hP hS ⊢
      have hq := sm_ways hE hIx.1.1.2.2.2 (xv_In hIx) hr_mr hr74
      refine lv_pop2_2 hx hb d_lw_law_246 rfl ?_
      refine lv_goto hx hb d_lw_law_247 rfl ?_
      refine lv_iinc (k := 0) (v := nI (4 * (z + 1))) hx hb d_lw_law_395 hl rfl (by rw [show Int32.ofInt 4 = nI 4 from rfl, nI_add]; exact congrArg nI (by omega)) (by decide) rfl (fun ls hl => ?_)
      have hl : lv_has ls 4 [(3, .int (nI (4 * (z + 1)))), (0, .ref b), (1, .ref ma), (2, .ref na)] := hl
      refine lv_goto hx hb d_lw_law_398 rfl ?_
      have hl := lv_sub hl [0, 1, 2, 3] (l' := [(3, .int (nI (4 * (z + 1)))), (0, .ref b), (1, .ref ma), (2, .ref na)]) rfl
      exact ih_a (z + 1, W0, H0, n, wf, rk, sc, Ms, s5, g5, Mg, qf, k370, k471, wo, Mc, se, Mp, pen, psu, pnm, pkn, pfo, of, lf, Ml, eso, eti, eles, egr, co168, nx169, Wm, Hm, nm, i_free, i_top, i_found, i_length, i_sort, i_when, i_one, i_two, a_walls, a_starts, a_goals, a_laid, a_isTold, a_cells, a_index, a_near, a_nearCount, a_pay, a_done, a_pile, a_now, a_then, a_choice, a_plan, a_costs, a_paid, a_after, a_far, k375, k476) ls H _ (by show L + 4 - 4 * (z + 1) < L + 4 - 4 * z; omega) ⟨by show 4 * (z + 1) ≤ L + 3; omega, hIx, hIm, hE, hLd, hld, hl, hP, hD, hS⟩
    ·
      refine lv_tableIn hx hb d_lw_law_32 (by decide) (by decide) (off := 218) (tgt := 250) rfl rfl ?_
      refine lv_aload_n hx hb d_lw_law_250 rfl (lv_at hl 2 rfl) ?_
      refine lv_aload_n hx hb d_lw_law_251 rfl (lv_at hl 1 rfl) ?_
      refine lv_iload_n hx hb d_lw_law_252 rfl (lv_at hl 0 rfl) ?_
      refine lv_iconst (v := 1) hx hb d_lw_law_253 (by decide) ?_
      refine lv_iadd hx hb d_lw_law_254 ?_
      refine lv_topi (fun y77 ey77 => ?_)
      have ey77 : y77 = nI (4 * z + 1) := ey77.trans (nI_add (4 * z) 1)
      subst ey77
      refine va_sld hx hb hXs hbl hbA hS (vp_in_nI (show 4 * z + 1 < L by omega) (by omega)) d_lw_law_255 ?_
      refine lv_topi (fun sc1 esc1 => ?_)
      have hPp := mt_permP (mt_pfx pm_mr_solve) hP
      have hDp := mt_permD (mt_pfx pm_mr_solve) hD
      have hPc := mt_hdP hPp
      have hDc := mt_hdLD hDp
      have hFc := mt_hdLF hDp hS hA
      refine va_calli (va_runV (As := [.int sc1]) (rest := []) ⟨hx, hb, hml, hown, hg⟩ (c_mr_solve l D cZ cI cJ cII ma fa ca pa da ea wa ra sa ta cs cg cto cq cco cnx la lwo pce pse ppl dce dto dle rr rg rp rq rl W0 H0 n wf rk sc Ms s5 g5 Mg qf k1 k2 wo Mc se Mp pen psu pnm pkn pfo of lf Ml eso eti eles egr sc1 H.size hIx) (cwV 1 hg gv_lw_41 rfl rfl rfl (by decide +kernel) ⟨Nat.le_of_ble_eq_true rfl, Nat.le_of_ble_eq_true rfl⟩) ⟨mt_bl, va_recv (q0 := 0) (ci := 6) hK hPc rfl rfl, mt_pr hX hPc hK hDc⟩ rfl rfl hl.1 rfl (lv_room (Nat.le_of_ble_eq_true rfl)) d_lw_law_256 ⟨Nat.le_of_ble_eq_true rfl, Nat.le_of_ble_eq_true rfl⟩) hS (fun q _ h => hFc q h) hFc (fun r78 u t H1 locs ht hvm hw hB hz1 hk1 hS => ?_)
      obtain ⟨wo179, Mc180, se181, Mp182, pen183, psu184, pnm185, pkn186, pfo187⟩ := u
      obtain ⟨hr78, hwr78⟩ := hw
      have hr78 : True := hr78
      have hwr78 : xv_I W0 H0 n wf rk sc Ms s5 g5 Mg wo179 Mp182 pen183 psu184 pnm185 pkn186 pfo187 lf := hwr78
      obtain ⟨hP1, hD1⟩ := hB
      rw [ht] at hP1
      obtain ⟨hP, hD⟩ := mt_joinL hPp hDp hk1 hFc hP1 hD1
      have hP : va_P D kls (xw cZ cI cJ cII ma fa ca pa da ea wa ra sa ta cs cg cto cq cco cnx la lwo pce pse ppl dce dto dle rr rg rp rq rl W0 H0 n wf rk sc Ms s5 g5 Mg qf k1 k2 wo179 Mc180 se181 Mp182 pen183 psu184 pnm185 pkn186 pfo187 of lf Ml eso eti eles egr ++ mw cZ cI cJ cII na nwalls nstarts ngoals nlaid nisTold ncells nindex nnear nnearCount npay ndone npile nnow nthen nchoice nplan ncosts npaid nafter nfar nmany nnext Wm Hm nm i_free i_top i_found i_length i_sort i_when i_one i_two a_walls a_starts a_goals a_laid a_isTold a_cells a_index a_near a_nearCount a_pay a_done a_pile a_now a_then a_choice a_plan a_costs a_paid a_after a_far a_many a_next) H1 := mt_permP (mt_pbx pm_mr_solve) hP
      have hD : va_D A (xw cZ cI cJ cII ma fa ca pa da ea wa ra sa ta cs cg cto cq cco cnx la lwo pce pse ppl dce dto dle rr rg rp rq rl W0 H0 n wf rk sc Ms s5 g5 Mg qf k1 k2 wo179 Mc180 se181 Mp182 pen183 psu184 pnm185 pkn186 pfo187 of lf Ml eso eti eles egr ++ mw cZ cI cJ cII na nwalls nstarts ngoals nlaid nisTold ncells nindex nnear nnearCount npay ndone npile nnow nthen nchoice nplan ncosts npaid nafter nfar nmany nnext Wm Hm nm i_free i_top i_found i_length i_sort i_when i_one i_two a_walls a_starts a_goals a_laid a_isTold a_cells a_index a_near a_nearCount a_pay a_done a_pile a_now a_then a_choice a_plan a_costs a_paid a_after a_far a_many a_next) := mt_permD (mt_pbx pm_mr_solve) hD
      clear hP1 hD1 hPp hDp hPc hDc hFc hk1
      generalize H1 = H at hP hS ⊢
      have hr_mr := hr78
      have hIx := hwr78
      refine lv_pop hx hb d_lw_law_259 rfl ?_
      refine lv_aload_n hx hb d_lw_law_260 rfl (lv_at hl 3 rfl) ?_
      refine lv_aload_n hx hb d_lw_law_261 rfl (lv_at hl 1 rfl) ?_
      refine lv_iload_n hx hb d_lw_law_262 rfl (lv_at hl 0 rfl) ?_
      refine lv_iconst (v := 1) hx hb d_lw_law_263 (by decide) ?_
      refine lv_iadd hx hb d_lw_law_264 ?_
      refine lv_topi (fun y88 ey88 => ?_)
      have ey88 : y88 = nI (4 * z + 1) := ey88.trans (nI_add (4 * z) 1)
      subst ey88
      refine va_sld hx hb hXs hbl hbA hS (vp_in_nI (show 4 * z + 1 < L by omega) (by omega)) d_lw_law_265 ?_
      rw [← esc1]
      have hPp := mt_permP (mt_pfm pm_md_solve) hP
      have hDp := mt_permD (mt_pfm pm_md_solve) hD
      have hPc := mt_hdP hPp
      have hDc := mt_hdLD hDp
      have hFc := mt_hdLF hDp hS hA
      refine va_calli (va_runV (As := [.int sc1]) (rest := []) ⟨hx, hb, hml, hown, hg⟩ (c_md_solve l D cZ cI cJ cII na nwalls nstarts ngoals nlaid nisTold ncells nindex nnear nnearCount npay ndone npile nnow nthen nchoice nplan ncosts npaid nafter nfar nmany nnext i_free i_top i_found i_length i_sort i_when i_one i_two Wm Hm nm a_walls a_starts a_goals a_far a_cells a_index a_near a_nearCount a_pay a_done a_pile a_now a_then a_choice a_plan a_costs a_paid a_after sc1 H.size hIm) (cwV 1 hg gv_lw_44 rfl rfl rfl (by decide +kernel) ⟨Nat.le_of_ble_eq_true rfl, Nat.le_of_ble_eq_true rfl⟩) ⟨mt_bl, va_recv (q0 := 0) (ci := 7) hK hPc rfl rfl, mt_pr hX hPc hK hDc⟩ rfl rfl hl.1 rfl (lv_room (Nat.le_of_ble_eq_true rfl)) d_lw_law_266 ⟨Nat.le_of_ble_eq_true rfl, Nat.le_of_ble_eq_true rfl⟩) hS (fun q _ h => hFc q h) hFc (fun r89 u t H1 locs ht hvm hw hB hz1 hk1 hS => ?_)
      obtain ⟨ff190, cf191, xf192, nf193, kf194, pf195, df196, lf197, qf198, tf199, hf1100, pn1101, cs1102, pd1103, af1104, fr1105, tp1106, fo1107, le1108⟩ := u
      obtain ⟨hr89, hwr89⟩ := hw
      have hr89 : True := hr89
      have hwr89 : mv_I Wm Hm nm a_walls a_starts a_goals fo1107 le1108 := hwr89
      obtain ⟨hP1, hD1⟩ := hB
      rw [ht] at hP1
      obtain ⟨hP, hD⟩ := mt_joinL hPp hDp hk1 hFc hP1 hD1
      have hP : va_P D kls (xw cZ cI cJ cII ma fa ca pa da ea wa ra sa ta cs cg cto cq cco cnx la lwo pce pse ppl dce dto dle rr rg rp rq rl W0 H0 n wf rk sc Ms s5 g5 Mg qf k1 k2 wo179 Mc180 se181 Mp182 pen183 psu184 pnm185 pkn186 pfo187 of lf Ml eso eti eles egr ++ mw cZ cI cJ cII na nwalls nstarts ngoals nlaid nisTold ncells nindex nnear nnearCount npay ndone npile nnow nthen nchoice nplan ncosts npaid nafter nfar nmany nnext Wm Hm nm fr1105 tp1106 fo1107 le1108 i_sort i_when i_one i_two a_walls a_starts a_goals a_laid a_isTold cf191 xf192 nf193 kf194 pf195 df196 lf197 qf198 tf199 hf1100 pn1101 cs1102 pd1103 af1104 ff190 a_many a_next) H1 := mt_permP (mt_pbm pm_md_solve) hP
      have hD : va_D A (xw cZ cI cJ cII ma fa ca pa da ea wa ra sa ta cs cg cto cq cco cnx la lwo pce pse ppl dce dto dle rr rg rp rq rl W0 H0 n wf rk sc Ms s5 g5 Mg qf k1 k2 wo179 Mc180 se181 Mp182 pen183 psu184 pnm185 pkn186 pfo187 of lf Ml eso eti eles egr ++ mw cZ cI cJ cII na nwalls nstarts ngoals nlaid nisTold ncells nindex nnear nnearCount npay ndone npile nnow nthen nchoice nplan ncosts npaid nafter nfar nmany nnext Wm Hm nm fr1105 tp1106 fo1107 le1108 i_sort i_when i_one i_two a_walls a_starts a_goals a_laid a_isTold cf191 xf192 nf193 kf194 pf195 df196 lf197 qf198 tf199 hf1100 pn1101 cs1102 pd1103 af1104 ff190 a_many a_next) := mt_permD (mt_pbm pm_md_solve) hD
      clear hP1 hD1 hPp hDp hPc hDc hFc hk1
      generalize H1 = H at hP hS ⊢
      have hIm := hwr89
      refine lv_pop hx hb d_lw_law_269 rfl ?_
      refine lv_goto hx hb d_lw_law_270 rfl ?_
      refine lv_iinc (k := 0) (v := nI (4 * (z + 1))) hx hb d_lw_law_395 hl rfl (by rw [show Int32.ofInt 4 = nI 4 from rfl, nI_add]; exact congrArg nI (by omega)) (by decide) rfl (fun ls hl => ?_)
      have hl : lv_has ls 4 [(3, .int (nI (4 * (z + 1)))), (0, .ref b), (1, .ref ma), (2, .ref na)] := hl
      refine lv_goto hx hb d_lw_law_398 rfl ?_
      have hl := lv_sub hl [0, 1, 2, 3] (l' := [(3, .int (nI (4 * (z + 1)))), (0, .ref b), (1, .ref ma), (2, .ref na)]) rfl
      exact ih_a (z + 1, W0, H0, n, wf, rk, sc, Ms, s5, g5, Mg, qf, k1, k2, wo179, Mc180, se181, Mp182, pen183, psu184, pnm185, pkn186, pfo187, of, lf, Ml, eso, eti, eles, egr, cco, cnx, Wm, Hm, nm, fr1105, tp1106, fo1107, le1108, i_sort, i_when, i_one, i_two, a_walls, a_starts, a_goals, a_laid, a_isTold, cf191, xf192, nf193, kf194, pf195, df196, lf197, qf198, tf199, hf1100, pn1101, cs1102, pd1103, af1104, ff190, a_many, a_next) ls H _ (by show L + 4 - 4 * (z + 1) < L + 4 - 4 * z; omega) ⟨by show 4 * (z + 1) ≤ L + 3; omega, hIx, hIm, hE, hLd, hld, hl, hP, hD, hS⟩
    ·
      refine lv_tableIn hx hb d_lw_law_32 (by decide) (by decide) (off := 241) (tgt := 273) rfl rfl ?_
      refine lv_aload_n hx hb d_lw_law_273 rfl (lv_at hl 2 rfl) ?_
      refine lv_aload_n hx hb d_lw_law_274 rfl (lv_at hl 1 rfl) ?_
      refine lv_iload_n hx hb d_lw_law_275 rfl (lv_at hl 0 rfl) ?_
      refine lv_iconst (v := 1) hx hb d_lw_law_276 (by decide) ?_
      refine lv_iadd hx hb d_lw_law_277 ?_
      refine lv_topi (fun y109 ey109 => ?_)
      have ey109 : y109 = nI (4 * z + 1) := ey109.trans (nI_add (4 * z) 1)
      subst ey109
      refine va_sld hx hb hXs hbl hbA hS (vp_in_nI (show 4 * z + 1 < L by omega) (by omega)) d_lw_law_278 ?_
      refine lv_topi (fun sc1 esc1 => ?_)
      have hPp := mt_permP (mt_pfx pm_mr_cost) hP
      have hDp := mt_permD (mt_pfx pm_mr_cost) hD
      have hPc := mt_hdP hPp
      have hDc := mt_hdLD hDp
      refine vp_callSi (W.runV (As := [.int sc1]) (rest := []) ⟨hx, hb, hml, hown, hg⟩ (c_mr_cost l D cZ cI cJ cII ma fa ca pa da ea wa ra sa ta cs cg cto cq cco cnx la lwo pce pse ppl dce dto dle rr rg rp rq rl W0 H0 n wf rk sc Ms s5 g5 Mg qf k1 k2 wo Mc se Mp pen psu pnm pkn pfo of lf Ml eso eti eles egr sc1 H.size hIx) (cwV 1 hg gv_lw_45 rfl rfl rfl (by decide +kernel) ⟨Nat.le_of_ble_eq_true rfl, Nat.le_of_ble_eq_true rfl⟩) ⟨mt_bl, va_recv (q0 := 0) (ci := 6) hK hPc rfl rfl, mt_pr hX hPc hK hDc⟩ rfl rfl hl.1 rfl (lv_room (Nat.le_of_ble_eq_true rfl)) d_lw_law_279 ⟨Nat.le_of_ble_eq_true rfl, Nat.le_of_ble_eq_true rfl⟩) (fun r110 hr110 => ?_)
      have hr110 : True := hr110
      clear hPp hDp hPc hDc
      refine lv_pop hx hb d_lw_law_282 rfl ?_
      refine lv_aload_n hx hb d_lw_law_283 rfl (lv_at hl 3 rfl) ?_
      refine lv_aload_n hx hb d_lw_law_284 rfl (lv_at hl 1 rfl) ?_
      refine lv_iload_n hx hb d_lw_law_285 rfl (lv_at hl 0 rfl) ?_
      refine lv_iconst (v := 1) hx hb d_lw_law_286 (by decide) ?_
      refine lv_iadd hx hb d_lw_law_287 ?_
      refine lv_topi (fun y111 ey111 => ?_)
      have ey111 : y111 = nI (4 * z + 1) := ey111.trans (nI_add (4 * z) 1)
      subst ey111
      refine va_sld hx hb hXs hbl hbA hS (vp_in_nI (show 4 * z + 1 < L by omega) (by omega)) d_lw_law_288 ?_
      rw [← esc1]
      have hPp := mt_permP (mt_pfm pm_md_cost) hP
      have hDp := mt_permD (mt_pfm pm_md_cost) hD
      have hPc := mt_hdP hPp
      have hDc := mt_hdLD hDp
      refine vp_callSi (W.runV (As := [.int sc1]) (rest := []) ⟨hx, hb, hml, hown, hg⟩ (c_md_cost l D cZ cI cJ cII na nwalls nstarts ngoals nlaid nisTold ncells nindex nnear nnearCount npay ndone npile nnow nthen nchoice nplan ncosts npaid nafter nfar nmany nnext i_free i_top i_found i_length i_sort i_when i_one i_two Wm Hm nm a_walls a_starts a_goals a_costs sc1 H.size hIm) (cwV 1 hg gv_lw_48 rfl rfl rfl (by decide +kernel) ⟨Nat.le_of_ble_eq_true rfl, Nat.le_of_ble_eq_true rfl⟩) ⟨mt_bl, va_recv (q0 := 0) (ci := 7) hK hPc rfl rfl, mt_pr hX hPc hK hDc⟩ rfl rfl hl.1 rfl (lv_room (Nat.le_of_ble_eq_true rfl)) d_lw_law_289 ⟨Nat.le_of_ble_eq_true rfl, Nat.le_of_ble_eq_true rfl⟩) (fun r112 hr112 => ?_)
      have hr112 : True := hr112
      clear hPp hDp hPc hDc
      refine lv_pop hx hb d_lw_law_292 rfl ?_
      refine lv_goto hx hb d_lw_law_293 rfl ?_
      refine lv_iinc (k := 0) (v := nI (4 * (z + 1))) hx hb d_lw_law_395 hl rfl (by rw [show Int32.ofInt 4 = nI 4 from rfl, nI_add]; exact congrArg nI (by omega)) (by decide) rfl (fun ls hl => ?_)
      have hl : lv_has ls 4 [(3, .int (nI (4 * (z + 1)))), (0, .ref b), (1, .ref ma), (2, .ref na)] := hl
      refine lv_goto hx hb d_lw_law_398 rfl ?_
      have hl := lv_sub hl [0, 1, 2, 3] (l' := [(3, .int (nI (4 * (z + 1)))), (0, .ref b), (1, .ref ma), (2, .ref na)]) rfl
      exact ih_a (z + 1, W0, H0, n, wf, rk, sc, Ms, s5, g5, Mg, qf, k1, k2, wo, Mc, se, Mp, pen, psu, pnm, pkn, pfo, of, lf, Ml, eso, eti, eles, egr, cco, cnx, Wm, Hm, nm, i_free, i_top, i_found, i_length, i_sort, i_when, i_one, i_two, a_walls, a_starts, a_goals, a_laid, a_isTold, a_cells, a_index, a_near, a_nearCount, a_pay, a_done, a_pile, a_now, a_then, a_choice, a_plan, a_costs, a_paid, a_after, a_far, a_many, a_next) ls H _ (by show L + 4 - 4 * (z + 1) < L + 4 - 4 * z; omega) ⟨by show 4 * (z + 1) ≤ L + 3; omega, hIx, hIm, hE, hLd, hld, hl, hP, hD, hS⟩
    ·
      refine lv_tableIn hx hb d_lw_law_32 (by decide) (by decide) (off := 264) (tgt := 296) rfl rfl ?_
      refine lv_aload_n hx hb d_lw_law_296 rfl (lv_at hl 2 rfl) ?_
      refine lv_aload_n hx hb d_lw_law_297 rfl (lv_at hl 1 rfl) ?_
      refine lv_iload_n hx hb d_lw_law_298 rfl (lv_at hl 0 rfl) ?_
      refine lv_iconst (v := 1) hx hb d_lw_law_299 (by decide) ?_
      refine lv_iadd hx hb d_lw_law_300 ?_
      refine lv_topi (fun y113 ey113 => ?_)
      have ey113 : y113 = nI (4 * z + 1) := ey113.trans (nI_add (4 * z) 1)
      subst ey113
      refine va_sld hx hb hXs hbl hbA hS (vp_in_nI (show 4 * z + 1 < L by omega) (by omega)) d_lw_law_301 ?_
      refine lv_topi (fun sc1 esc1 => ?_)
      refine lv_aload_n hx hb d_lw_law_302 rfl (lv_at hl 1 rfl) ?_
      refine lv_iload_n hx hb d_lw_law_303 rfl (lv_at hl 0 rfl) ?_
      refine lv_iconst (v := 2) hx hb d_lw_law_304 (by decide) ?_
      refine lv_iadd hx hb d_lw_law_305 ?_
      refine lv_topi (fun y114 ey114 => ?_)
      have ey114 : y114 = nI (4 * z + 2) := ey114.trans (nI_add (4 * z) 2)
      subst ey114
      refine va_sld hx hb hXs hbl hbA hS (vp_in_nI (show 4 * z + 2 < L by omega) (by omega)) d_lw_law_306 ?_
      refine lv_topi (fun sc2 esc2 => ?_)
      have hPp := mt_permP (mt_pfx pm_mr_at) hP
      have hDp := mt_permD (mt_pfx pm_mr_at) hD
      have hPc := mt_hdP hPp
      have hDc := mt_hdLD hDp
      refine vp_callSi (W.runV (As := [.int sc1, .int sc2]) (rest := []) ⟨hx, hb, hml, hown, hg⟩ (c_mr_at l D cZ cI cJ cII ma fa ca pa da ea wa ra sa ta cs cg cto cq cco cnx la lwo pce pse ppl dce dto dle rr rg rp rq rl W0 H0 n wf rk sc Ms s5 g5 Mg qf k1 k2 wo Mc se Mp pen psu pnm pkn pfo of lf Ml eso eti eles egr sc1 sc2 H.size hIx) (cwV 2 hg gv_lw_49 rfl rfl rfl (by decide +kernel) ⟨Nat.le_of_ble_eq_true rfl, Nat.le_of_ble_eq_true rfl⟩) ⟨mt_bl, va_recv (q0 := 0) (ci := 6) hK hPc rfl rfl, mt_pr hX hPc hK hDc⟩ rfl rfl hl.1 rfl (lv_room (Nat.le_of_ble_eq_true rfl)) d_lw_law_307 ⟨Nat.le_of_ble_eq_true rfl, Nat.le_of_ble_eq_true rfl⟩) (fun r115 hr115 => ?_)
      have hr115 : True := hr115
      clear hPp hDp hPc hDc
      refine lv_pop hx hb d_lw_law_310 rfl ?_
      refine lv_aload_n hx hb d_lw_law_311 rfl (lv_at hl 3 rfl) ?_
      refine lv_aload_n hx hb d_lw_law_312 rfl (lv_at hl 1 rfl) ?_
      refine lv_iload_n hx hb d_lw_law_313 rfl (lv_at hl 0 rfl) ?_
      refine lv_iconst (v := 1) hx hb d_lw_law_314 (by decide) ?_
      refine lv_iadd hx hb d_lw_law_315 ?_
      refine lv_topi (fun y116 ey116 => ?_)
      have ey116 : y116 = nI (4 * z + 1) := ey116.trans (nI_add (4 * z) 1)
      subst ey116
      refine va_sld hx hb hXs hbl hbA hS (vp_in_nI (show 4 * z + 1 < L by omega) (by omega)) d_lw_law_316 ?_
      rw [← esc1]
      refine lv_aload_n hx hb d_lw_law_317 rfl (lv_at hl 1 rfl) ?_
      refine lv_iload_n hx hb d_lw_law_318 rfl (lv_at hl 0 rfl) ?_
      refine lv_iconst (v := 2) hx hb d_lw_law_319 (by decide) ?_
      refine lv_iadd hx hb d_lw_law_320 ?_
      refine lv_topi (fun y117 ey117 => ?_)
      have ey117 : y117 = nI (4 * z + 2) := ey117.trans (nI_add (4 * z) 2)
      subst ey117
      refine va_sld hx hb hXs hbl hbA hS (vp_in_nI (show 4 * z + 2 < L by omega) (by omega)) d_lw_law_321 ?_
      rw [← esc2]
      have hPp := mt_permP (mt_pfm pm_md_at) hP
      have hDp := mt_permD (mt_pfm pm_md_at) hD
      have hPc := mt_hdP hPp
      have hDc := mt_hdLD hDp
      refine vp_callSi (W.runV (As := [.int sc1, .int sc2]) (rest := []) ⟨hx, hb, hml, hown, hg⟩ (c_md_at l D cZ cI cJ cII na nwalls nstarts ngoals nlaid nisTold ncells nindex nnear nnearCount npay ndone npile nnow nthen nchoice nplan ncosts npaid nafter nfar nmany nnext i_free i_top i_found i_length i_sort i_when i_one i_two Wm Hm nm a_walls a_starts a_goals a_plan sc1 sc2 H.size hIm) (cwV 2 hg gv_lw_52 rfl rfl rfl (by decide +kernel) ⟨Nat.le_of_ble_eq_true rfl, Nat.le_of_ble_eq_true rfl⟩) ⟨mt_bl, va_recv (q0 := 0) (ci := 7) hK hPc rfl rfl, mt_pr hX hPc hK hDc⟩ rfl rfl hl.1 rfl (lv_room (Nat.le_of_ble_eq_true rfl)) d_lw_law_322 ⟨Nat.le_of_ble_eq_true rfl, Nat.le_of_ble_eq_true rfl⟩) (fun r118 hr118 => ?_)
      have hr118 : True := hr118
      clear hPp hDp hPc hDc
      refine lv_pop hx hb d_lw_law_325 rfl ?_
      refine lv_goto hx hb d_lw_law_326 rfl ?_
      refine lv_iinc (k := 0) (v := nI (4 * (z + 1))) hx hb d_lw_law_395 hl rfl (by rw [show Int32.ofInt 4 = nI 4 from rfl, nI_add]; exact congrArg nI (by omega)) (by decide) rfl (fun ls hl => ?_)
      have hl : lv_has ls 4 [(3, .int (nI (4 * (z + 1)))), (0, .ref b), (1, .ref ma), (2, .ref na)] := hl
      refine lv_goto hx hb d_lw_law_398 rfl ?_
      have hl := lv_sub hl [0, 1, 2, 3] (l' := [(3, .int (nI (4 * (z + 1)))), (0, .ref b), (1, .ref ma), (2, .ref na)]) rfl
      exact ih_a (z + 1, W0, H0, n, wf, rk, sc, Ms, s5, g5, Mg, qf, k1, k2, wo, Mc, se, Mp, pen, psu, pnm, pkn, pfo, of, lf, Ml, eso, eti, eles, egr, cco, cnx, Wm, Hm, nm, i_free, i_top, i_found, i_length, i_sort, i_when, i_one, i_two, a_walls, a_starts, a_goals, a_laid, a_isTold, a_cells, a_index, a_near, a_nearCount, a_pay, a_done, a_pile, a_now, a_then, a_choice, a_plan, a_costs, a_paid, a_after, a_far, a_many, a_next) ls H _ (by show L + 4 - 4 * (z + 1) < L + 4 - 4 * z; omega) ⟨by show 4 * (z + 1) ≤ L + 3; omega, hIx, hIm, hE, hLd, hld, hl, hP, hD, hS⟩
    ·
      refine lv_tableIn hx hb d_lw_law_32 (by decide) (by decide) (off := 297) (tgt := 329) rfl rfl ?_
      refine lv_aload_n hx hb d_lw_law_329 rfl (lv_at hl 2 rfl) ?_
      refine lv_aload_n hx hb d_lw_law_330 rfl (lv_at hl 1 rfl) ?_
      refine lv_iload_n hx hb d_lw_law_331 rfl (lv_at hl 0 rfl) ?_
      refine lv_iconst (v := 1) hx hb d_lw_law_332 (by decide) ?_
      refine lv_iadd hx hb d_lw_law_333 ?_
      refine lv_topi (fun y119 ey119 => ?_)
      have ey119 : y119 = nI (4 * z + 1) := ey119.trans (nI_add (4 * z) 1)
      subst ey119
      refine va_sld hx hb hXs hbl hbA hS (vp_in_nI (show 4 * z + 1 < L by omega) (by omega)) d_lw_law_334 ?_
      refine lv_topi (fun sc1 esc1 => ?_)
      refine lv_aload_n hx hb d_lw_law_335 rfl (lv_at hl 1 rfl) ?_
      refine lv_iload_n hx hb d_lw_law_336 rfl (lv_at hl 0 rfl) ?_
      refine lv_iconst (v := 2) hx hb d_lw_law_337 (by decide) ?_
      refine lv_iadd hx hb d_lw_law_338 ?_
      refine lv_topi (fun y120 ey120 => ?_)
      have ey120 : y120 = nI (4 * z + 2) := ey120.trans (nI_add (4 * z) 2)
      subst ey120
      refine va_sld hx hb hXs hbl hbA hS (vp_in_nI (show 4 * z + 2 < L by omega) (by omega)) d_lw_law_339 ?_
      refine lv_topi (fun sc2 esc2 => ?_)
      refine lv_aload_n hx hb d_lw_law_340 rfl (lv_at hl 1 rfl) ?_
      refine lv_iload_n hx hb d_lw_law_341 rfl (lv_at hl 0 rfl) ?_
      refine lv_iconst (v := 3) hx hb d_lw_law_342 (by decide) ?_
      refine lv_iadd hx hb d_lw_law_343 ?_
      refine lv_topi (fun y121 ey121 => ?_)
      have ey121 : y121 = nI (4 * z + 3) := ey121.trans (nI_add (4 * z) 3)
      subst ey121
      refine va_sld hx hb hXs hbl hbA hS (vp_in_nI (show 4 * z + 3 < L by omega) (by omega)) d_lw_law_344 ?_
      refine lv_topi (fun sc3 esc3 => ?_)
      have hPp := mt_permP (mt_pfx pm_mr_lay) hP
      have hDp := mt_permD (mt_pfx pm_mr_lay) hD
      have hPc := mt_hdP hPp
      have hDc := mt_hdLD hDp
      have hFc := mt_hdLF hDp hS hA
      refine va_calli (va_runV (As := [.int sc1, .int sc2, .int sc3]) (rest := []) ⟨hx, hb, hml, hown, hg⟩ (c_mr_lay l D cZ cI cJ cII ma fa ca pa da ea wa ra sa ta cs cg cto cq cco cnx la lwo pce pse ppl dce dto dle rr rg rp rq rl W0 H0 n wf rk sc Ms s5 g5 Mg qf k1 k2 wo Mc se Mp pen psu pnm pkn pfo of lf Ml eso eti eles egr sc1 sc2 sc3 H.size hIx) (cwV 3 hg gv_lw_53 rfl rfl rfl (by decide +kernel) ⟨Nat.le_of_ble_eq_true rfl, Nat.le_of_ble_eq_true rfl⟩) ⟨mt_bl, va_recv (q0 := 0) (ci := 6) hK hPc rfl rfl, mt_pr hX hPc hK hDc⟩ rfl rfl hl.1 rfl (lv_room (Nat.le_of_ble_eq_true rfl)) d_lw_law_345 ⟨Nat.le_of_ble_eq_true rfl, Nat.le_of_ble_eq_true rfl⟩) hS (fun q _ h => hFc q h) hFc (fun r122 u t H1 locs ht hvm hw hB hz1 hk1 hS => ?_)
      obtain ⟨of1123, lf1124, Ml1125⟩ := u
      obtain ⟨hr122, hwr122⟩ := hw
      have hr122 : (ly_B sc1 sc2 ∧ r122 = -1 ∧ of1123 = of ∧ lf1124 = lf ∧ Ml1125 = Ml) ∨ ∃ k tt, k < 6 ∧ tt < 30 ∧ sc1 = nI k ∧ sc2 = nI tt ∧ ((tb (of k) tt ∧ r122 = Ml k tt) ∨ (¬ tb (of k) tt ∧ r122 = -1)) ∧ of1123 = upd of k (of k ||| ((1 : Int32) <<< (nI tt &&& 31))) ∧ Ml1125 = va_up Ml k (upd (Ml k) tt sc3) ∧ (ld_I of lf → ld_I of1123 lf1124) := hr122
      have hwr122 : xv_I W0 H0 n wf rk sc Ms s5 g5 Mg wo Mp pen psu pnm pkn pfo lf1124 := hwr122
      obtain ⟨hP1, hD1⟩ := hB
      rw [ht] at hP1
      obtain ⟨hP, hD⟩ := mt_joinL hPp hDp hk1 hFc hP1 hD1
      have hP : va_P D kls (xw cZ cI cJ cII ma fa ca pa da ea wa ra sa ta cs cg cto cq cco cnx la lwo pce pse ppl dce dto dle rr rg rp rq rl W0 H0 n wf rk sc Ms s5 g5 Mg qf k1 k2 wo Mc se Mp pen psu pnm pkn pfo of1123 lf1124 Ml1125 eso eti eles egr ++ mw cZ cI cJ cII na nwalls nstarts ngoals nlaid nisTold ncells nindex nnear nnearCount npay ndone npile nnow nthen nchoice nplan ncosts npaid nafter nfar nmany nnext Wm Hm nm i_free i_top i_found i_length i_sort i_when i_one i_two a_walls a_starts a_goals a_laid a_isTold a_cells a_index a_near a_nearCount a_pay a_done a_pile a_now a_then a_choice a_plan a_costs a_paid a_after a_far a_many a_next) H1 := mt_permP (mt_pbx pm_mr_lay) hP
      have hD : va_D A (xw cZ cI cJ cII ma fa ca pa da ea wa ra sa ta cs cg cto cq cco cnx la lwo pce pse ppl dce dto dle rr rg rp rq rl W0 H0 n wf rk sc Ms s5 g5 Mg qf k1 k2 wo Mc se Mp pen psu pnm pkn pfo of1123 lf1124 Ml1125 eso eti eles egr ++ mw cZ cI cJ cII na nwalls nstarts ngoals nlaid nisTold ncells nindex nnear nnearCount npay ndone npile nnow nthen nchoice nplan ncosts npaid nafter nfar nmany nnext Wm Hm nm i_free i_top i_found i_length i_sort i_when i_one i_two a_walls a_starts a_goals a_laid a_isTold a_cells a_index a_near a_nearCount a_pay a_done a_pile a_now a_then a_choice a_plan a_costs a_paid a_after a_far a_many a_next) := mt_permD (mt_pbx pm_mr_lay) hD
      clear hP1 hD1 hPp hDp hPc hDc hFc hk1
      generalize H1 = H at hP hS ⊢
      have hr_mr := hr122
      have hIx := hwr122
      refine lv_pop hx hb d_lw_law_348 rfl ?_
      refine lv_aload_n hx hb d_lw_law_349 rfl (lv_at hl 3 rfl) ?_
      refine lv_aload_n hx hb d_lw_law_350 rfl (lv_at hl 1 rfl) ?_
      refine lv_iload_n hx hb d_lw_law_351 rfl (lv_at hl 0 rfl) ?_
      refine lv_iconst (v := 1) hx hb d_lw_law_352 (by decide) ?_
      refine lv_iadd hx hb d_lw_law_353 ?_
      refine lv_topi (fun y126 ey126 => ?_)
      have ey126 : y126 = nI (4 * z + 1) := ey126.trans (nI_add (4 * z) 1)
      subst ey126
      refine va_sld hx hb hXs hbl hbA hS (vp_in_nI (show 4 * z + 1 < L by omega) (by omega)) d_lw_law_354 ?_
      rw [← esc1]
      refine lv_aload_n hx hb d_lw_law_355 rfl (lv_at hl 1 rfl) ?_
      refine lv_iload_n hx hb d_lw_law_356 rfl (lv_at hl 0 rfl) ?_
      refine lv_iconst (v := 2) hx hb d_lw_law_357 (by decide) ?_
      refine lv_iadd hx hb d_lw_law_358 ?_
      refine lv_topi (fun y127 ey127 => ?_)
      have ey127 : y127 = nI (4 * z + 2) := ey127.trans (nI_add (4 * z) 2)
      subst ey127
      refine va_sld hx hb hXs hbl hbA hS (vp_in_nI (show 4 * z + 2 < L by omega) (by omega)) d_lw_law_359 ?_
      rw [← esc2]
      refine lv_aload_n hx hb d_lw_law_360 rfl (lv_at hl 1 rfl) ?_
      refine lv_iload_n hx hb d_lw_law_361 rfl (lv_at hl 0 rfl) ?_
      refine lv_iconst (v := 3) hx hb d_lw_law_362 (by decide) ?_
      refine lv_iadd hx hb d_lw_law_363 ?_
      refine lv_topi (fun y128 ey128 => ?_)
      have ey128 : y128 = nI (4 * z + 3) := ey128.trans (nI_add (4 * z) 3)
      subst ey128
      refine va_sld hx hb hXs hbl hbA hS (vp_in_nI (show 4 * z + 3 < L by omega) (by omega)) d_lw_law_364 ?_
      rw [← esc3]
      have hPp := mt_permP (mt_pfm pm_md_lay) hP
      have hDp := mt_permD (mt_pfm pm_md_lay) hD
      have hPc := mt_hdP hPp
      have hDc := mt_hdLD hDp
      have hFc := mt_hdLF hDp hS hA
      refine va_calli (va_runV (As := [.int sc1, .int sc2, .int sc3]) (rest := []) ⟨hx, hb, hml, hown, hg⟩ (c_md_lay l D cZ cI cJ cII na nwalls nstarts ngoals nlaid nisTold ncells nindex nnear nnearCount npay ndone npile nnow nthen nchoice nplan ncosts npaid nafter nfar nmany nnext i_free i_top i_found i_length i_sort i_when i_one i_two Wm Hm nm a_laid a_isTold sc1 sc2 sc3 H.size ) (cwV 3 hg gv_lw_57 rfl rfl rfl (by decide +kernel) ⟨Nat.le_of_ble_eq_true rfl, Nat.le_of_ble_eq_true rfl⟩) ⟨mt_bl, va_recv (q0 := 0) (ci := 7) hK hPc rfl rfl, mt_pr hX hPc hK hDc⟩ rfl rfl hl.1 rfl (lv_room (Nat.le_of_ble_eq_true rfl)) d_lw_law_365 ⟨Nat.le_of_ble_eq_true rfl, Nat.le_of_ble_eq_true rfl⟩) hS (fun q _ h => hFc q h) hFc (fun r129 u t H1 locs ht hvm hw hB hz1 hk1 hS => ?_)
      obtain ⟨lf1130, of1131⟩ := u
      obtain ⟨hr129, hwr129⟩ := hw
      have hr129 : (ly_B sc1 sc2 ∧ r129 = -1 ∧ lf1130 = a_laid ∧ of1131 = a_isTold) ∨ ∃ k tt, k < 6 ∧ tt < 30 ∧ sc1 = nI k ∧ sc2 = nI tt ∧ ((¬ a_isTold (30 * k + tt) = 0 ∧ r129 = a_laid (30 * k + tt)) ∨ (a_isTold (30 * k + tt) = 0 ∧ r129 = -1)) ∧ lf1130 = upd a_laid (30 * k + tt) sc3 ∧ of1131 = upd a_isTold (30 * k + tt) 1 := hr129
      obtain ⟨hP1, hD1⟩ := hB
      rw [ht] at hP1
      obtain ⟨hP, hD⟩ := mt_joinL hPp hDp hk1 hFc hP1 hD1
      have hP : va_P D kls (xw cZ cI cJ cII ma fa ca pa da ea wa ra sa ta cs cg cto cq cco cnx la lwo pce pse ppl dce dto dle rr rg rp rq rl W0 H0 n wf rk sc Ms s5 g5 Mg qf k1 k2 wo Mc se Mp pen psu pnm pkn pfo of1123 lf1124 Ml1125 eso eti eles egr ++ mw cZ cI cJ cII na nwalls nstarts ngoals nlaid nisTold ncells nindex nnear nnearCount npay ndone npile nnow nthen nchoice nplan ncosts npaid nafter nfar nmany nnext Wm Hm nm i_free i_top i_found i_length i_sort i_when i_one i_two a_walls a_starts a_goals lf1130 of1131 a_cells a_index a_near a_nearCount a_pay a_done a_pile a_now a_then a_choice a_plan a_costs a_paid a_after a_far a_many a_next) H1 := mt_permP (mt_pbm pm_md_lay) hP
      have hD : va_D A (xw cZ cI cJ cII ma fa ca pa da ea wa ra sa ta cs cg cto cq cco cnx la lwo pce pse ppl dce dto dle rr rg rp rq rl W0 H0 n wf rk sc Ms s5 g5 Mg qf k1 k2 wo Mc se Mp pen psu pnm pkn pfo of1123 lf1124 Ml1125 eso eti eles egr ++ mw cZ cI cJ cII na nwalls nstarts ngoals nlaid nisTold ncells nindex nnear nnearCount npay ndone npile nnow nthen nchoice nplan ncosts npaid nafter nfar nmany nnext Wm Hm nm i_free i_top i_found i_length i_sort i_when i_one i_two a_walls a_starts a_goals lf1130 of1131 a_cells a_index a_near a_nearCount a_pay a_done a_pile a_now a_then a_choice a_plan a_costs a_paid a_after a_far a_many a_next) := mt_permD (mt_pbm pm_md_lay) hD
      clear hP1 hD1 hPp hDp hPc hDc hFc hk1
      generalize H1 = H at hP hS ⊢
      obtain ⟨hq, hLd, hld⟩ := sm_lay hLd hld hr_mr hr129
      refine lv_pop hx hb d_lw_law_368 rfl ?_
      refine lv_goto hx hb d_lw_law_369 rfl ?_
      refine lv_iinc (k := 0) (v := nI (4 * (z + 1))) hx hb d_lw_law_395 hl rfl (by rw [show Int32.ofInt 4 = nI 4 from rfl, nI_add]; exact congrArg nI (by omega)) (by decide) rfl (fun ls hl => ?_)
      have hl : lv_has ls 4 [(3, .int (nI (4 * (z + 1)))), (0, .ref b), (1, .ref ma), (2, .ref na)] := hl
      refine lv_goto hx hb d_lw_law_398 rfl ?_
      have hl := lv_sub hl [0, 1, 2, 3] (l' := [(3, .int (nI (4 * (z + 1)))), (0, .ref b), (1, .ref ma), (2, .ref na)]) rfl
      exact ih_a (z + 1, W0, H0, n, wf, rk, sc, Ms, s5, g5, Mg, qf, k1, k2, wo, Mc, se, Mp, pen, psu, pnm, pkn, pfo, of1123, lf1124, Ml1125, eso, eti, eles, egr, cco, cnx, Wm, Hm, nm, i_free, i_top, i_found, i_length, i_sort, i_when, i_one, i_two, a_walls, a_starts, a_goals, lf1130, of1131, a_cells, a_index, a_near, a_nearCount, a_pay, a_done, a_pile, a_now, a_then, a_choice, a_plan, a_costs, a_paid, a_after, a_far, a_many, a_next) ls H _ (by show L + 4 - 4 * (z + 1) < L + 4 - 4 * z; omega) ⟨by show 4 * (z + 1) ≤ L + 3; omega, hIx, hIm, hE, hLd, hld, hl, hP, hD, hS⟩
    ·
      refine lv_tableIn hx hb d_lw_law_32 (by decide) (by decide) (off := 340) (tgt := 372) rfl rfl ?_
      refine lv_aload_n hx hb d_lw_law_372 rfl (lv_at hl 2 rfl) ?_
      refine lv_aload_n hx hb d_lw_law_373 rfl (lv_at hl 1 rfl) ?_
      refine lv_iload_n hx hb d_lw_law_374 rfl (lv_at hl 0 rfl) ?_
      refine lv_iconst (v := 1) hx hb d_lw_law_375 (by decide) ?_
      refine lv_iadd hx hb d_lw_law_376 ?_
      refine lv_topi (fun y132 ey132 => ?_)
      have ey132 : y132 = nI (4 * z + 1) := ey132.trans (nI_add (4 * z) 1)
      subst ey132
      refine va_sld hx hb hXs hbl hbA hS (vp_in_nI (show 4 * z + 1 < L by omega) (by omega)) d_lw_law_377 ?_
      refine lv_topi (fun sc1 esc1 => ?_)
      have hPp := mt_permP (mt_pfx pm_mr_judge) hP
      have hDp := mt_permD (mt_pfx pm_mr_judge) hD
      have hPc := mt_hdP hPp
      have hDc := mt_hdLD hDp
      have hFc := mt_hdLF hDp hS hA
      refine va_calli (va_runV (As := [.int sc1]) (rest := []) ⟨hx, hb, hml, hown, hg⟩ (c_mr_judge l D cZ cI cJ cII ma fa ca pa da ea wa ra sa ta cs cg cto cq cco cnx la lwo pce pse ppl dce dto dle rr rg rp rq rl W0 H0 n wf rk sc Ms s5 g5 Mg qf k1 k2 wo Mc se Mp pen psu pnm pkn pfo of lf Ml eso eti eles egr sc1 H.size hIx) (cwV 1 hg gv_lw_58 rfl rfl rfl (by decide +kernel) ⟨Nat.le_of_ble_eq_true rfl, Nat.le_of_ble_eq_true rfl⟩) ⟨mt_bl, va_recv (q0 := 0) (ci := 6) hK hPc rfl rfl, mt_pr hX hPc hK hDc⟩ rfl rfl hl.1 rfl (lv_room (Nat.le_of_ble_eq_true rfl)) d_lw_law_378 ⟨Nat.le_of_ble_eq_true rfl, Nat.le_of_ble_eq_true rfl⟩) hS (fun q _ h => hFc q h) hFc (fun r133 u t H1 locs ht hvm hw hB hz1 hk1 hS => ?_)
      obtain ⟨so134, ti135, le136, gr137⟩ := u
      obtain ⟨hr133, hwr133⟩ := hw
      have hr133 : (r133 = -1 ∧ (sc1 < 0 ∨ 3 < sc1)) ∨ ∃ s9 t9 l9 g9, jd_V n (fun t m => js_P (nI W0) (nI H0) wf sc Ms s5 g5 lf Ml m t) (sh_P lf Ml) (ex_P lf Ml) s9 t9 l9 g9 ∧ ((sc1 = 0 ∧ r133 = s9) ∨ (sc1 = 1 ∧ r133 = t9) ∨ (sc1 = 2 ∧ r133 = l9) ∨ (sc1 = 3 ∧ r133 = g9)) := hr133
      obtain ⟨hP1, hD1⟩ := hB
      rw [ht] at hP1
      obtain ⟨hP, hD⟩ := mt_joinL hPp hDp hk1 hFc hP1 hD1
      have hP : va_P D kls (xw cZ cI cJ cII ma fa ca pa da ea wa ra sa ta cs cg cto cq cco cnx la lwo pce pse ppl dce dto dle rr rg rp rq rl W0 H0 n wf rk sc Ms s5 g5 Mg qf k1 k2 wo Mc se Mp pen psu pnm pkn pfo of lf Ml so134 ti135 le136 gr137 ++ mw cZ cI cJ cII na nwalls nstarts ngoals nlaid nisTold ncells nindex nnear nnearCount npay ndone npile nnow nthen nchoice nplan ncosts npaid nafter nfar nmany nnext Wm Hm nm i_free i_top i_found i_length i_sort i_when i_one i_two a_walls a_starts a_goals a_laid a_isTold a_cells a_index a_near a_nearCount a_pay a_done a_pile a_now a_then a_choice a_plan a_costs a_paid a_after a_far a_many a_next) H1 := mt_permP (mt_pbx pm_mr_judge) hP
      have hD : va_D A (xw cZ cI cJ cII ma fa ca pa da ea wa ra sa ta cs cg cto cq cco cnx la lwo pce pse ppl dce dto dle rr rg rp rq rl W0 H0 n wf rk sc Ms s5 g5 Mg qf k1 k2 wo Mc se Mp pen psu pnm pkn pfo of lf Ml so134 ti135 le136 gr137 ++ mw cZ cI cJ cII na nwalls nstarts ngoals nlaid nisTold ncells nindex nnear nnearCount npay ndone npile nnow nthen nchoice nplan ncosts npaid nafter nfar nmany nnext Wm Hm nm i_free i_top i_found i_length i_sort i_when i_one i_two a_walls a_starts a_goals a_laid a_isTold a_cells a_index a_near a_nearCount a_pay a_done a_pile a_now a_then a_choice a_plan a_costs a_paid a_after a_far a_many a_next) := mt_permD (mt_pbx pm_mr_judge) hD
      clear hP1 hD1 hPp hDp hPc hDc hFc hk1
      generalize H1 = H at hP hS ⊢
      have hr_mr := hr133
      refine lv_aload_n hx hb d_lw_law_381 rfl (lv_at hl 3 rfl) ?_
      refine lv_aload_n hx hb d_lw_law_382 rfl (lv_at hl 1 rfl) ?_
      refine lv_iload_n hx hb d_lw_law_383 rfl (lv_at hl 0 rfl) ?_
      refine lv_iconst (v := 1) hx hb d_lw_law_384 (by decide) ?_
      refine lv_iadd hx hb d_lw_law_385 ?_
      refine lv_topi (fun y138 ey138 => ?_)
      have ey138 : y138 = nI (4 * z + 1) := ey138.trans (nI_add (4 * z) 1)
      subst ey138
      refine va_sld hx hb hXs hbl hbA hS (vp_in_nI (show 4 * z + 1 < L by omega) (by omega)) d_lw_law_386 ?_
      rw [← esc1]
      have hPp := mt_permP (mt_pfm pm_md_judge) hP
      have hDp := mt_permD (mt_pfm pm_md_judge) hD
      have hPc := mt_hdP hPp
      have hDc := mt_hdLD hDp
      have hFc := mt_hdLF hDp hS hA
      refine va_calli (va_runV (As := [.int sc1]) (rest := [.int r133]) ⟨hx, hb, hml, hown, hg⟩ (c_md_judge l D cZ cI cJ cII na nwalls nstarts ngoals nlaid nisTold ncells nindex nnear nnearCount npay ndone npile nnow nthen nchoice nplan ncosts npaid nafter nfar nmany nnext i_free i_top i_found i_length i_sort i_when i_one i_two Wm Hm nm a_walls a_starts a_goals a_laid a_isTold sc1 H.size (hIm.1) (hIm.2.1)) (cwV 1 hg gv_lw_61 rfl rfl rfl (by decide +kernel) ⟨Nat.le_of_ble_eq_true rfl, Nat.le_of_ble_eq_true rfl⟩) ⟨mt_bl, va_recv (q0 := 0) (ci := 7) hK hPc rfl rfl, mt_pr hX hPc hK hDc⟩ rfl rfl hl.1 rfl (lv_room (Nat.le_of_ble_eq_true rfl)) d_lw_law_387 ⟨Nat.le_of_ble_eq_true rfl, Nat.le_of_ble_eq_true rfl⟩) hS (fun q _ h => hFc q h) hFc (fun r139 u t H1 locs ht hvm hw hB hz1 hk1 hS => ?_)
      obtain ⟨so140, wh141, on142, tw143⟩ := u
      obtain ⟨hr139, hwr139⟩ := hw
      have hr139 : ∃ s9 t9 l9 g9, jd_V nm (fun t m => jw_P Wm Hm a_walls a_starts a_goals a_laid a_isTold m t) (rS a_isTold a_laid) (rE a_isTold a_laid) s9 t9 l9 g9 ∧ ((sc1 = 0 ∧ r139 = s9) ∨ (sc1 = 1 ∧ r139 = t9) ∨ (sc1 = 2 ∧ r139 = l9) ∨ (sc1 = 3 ∧ r139 = g9) ∨ ((¬ sc1 = 0 ∧ ¬ sc1 = 1 ∧ ¬ sc1 = 2 ∧ ¬ sc1 = 3) ∧ r139 = -1)) := hr139
      obtain ⟨hP1, hD1⟩ := hB
      rw [ht] at hP1
      obtain ⟨hP, hD⟩ := mt_joinL hPp hDp hk1 hFc hP1 hD1
      have hP : va_P D kls (xw cZ cI cJ cII ma fa ca pa da ea wa ra sa ta cs cg cto cq cco cnx la lwo pce pse ppl dce dto dle rr rg rp rq rl W0 H0 n wf rk sc Ms s5 g5 Mg qf k1 k2 wo Mc se Mp pen psu pnm pkn pfo of lf Ml so134 ti135 le136 gr137 ++ mw cZ cI cJ cII na nwalls nstarts ngoals nlaid nisTold ncells nindex nnear nnearCount npay ndone npile nnow nthen nchoice nplan ncosts npaid nafter nfar nmany nnext Wm Hm nm i_free i_top i_found i_length so140 wh141 on142 tw143 a_walls a_starts a_goals a_laid a_isTold a_cells a_index a_near a_nearCount a_pay a_done a_pile a_now a_then a_choice a_plan a_costs a_paid a_after a_far a_many a_next) H1 := mt_permP (mt_pbm pm_md_judge) hP
      have hD : va_D A (xw cZ cI cJ cII ma fa ca pa da ea wa ra sa ta cs cg cto cq cco cnx la lwo pce pse ppl dce dto dle rr rg rp rq rl W0 H0 n wf rk sc Ms s5 g5 Mg qf k1 k2 wo Mc se Mp pen psu pnm pkn pfo of lf Ml so134 ti135 le136 gr137 ++ mw cZ cI cJ cII na nwalls nstarts ngoals nlaid nisTold ncells nindex nnear nnearCount npay ndone npile nnow nthen nchoice nplan ncosts npaid nafter nfar nmany nnext Wm Hm nm i_free i_top i_found i_length so140 wh141 on142 tw143 a_walls a_starts a_goals a_laid a_isTold a_cells a_index a_near a_nearCount a_pay a_done a_pile a_now a_then a_choice a_plan a_costs a_paid a_after a_far a_many a_next) := mt_permD (mt_pbm pm_md_judge) hD
      clear hP1 hD1 hPp hDp hPc hDc hFc hk1
      generalize H1 = H at hP hS ⊢
      have hq := sm_judge hE hLd hld hIx hr_mr hr139
      refine lv_icmp_eq hx hb d_lw_law_390 rfl (fun _ => ?_) (fun h => absurd hq h)
      refine lv_iinc (k := 0) (v := nI (4 * (z + 1))) hx hb d_lw_law_395 hl rfl (by rw [show Int32.ofInt 4 = nI 4 from rfl, nI_add]; exact congrArg nI (by omega)) (by decide) rfl (fun ls hl => ?_)
      have hl : lv_has ls 4 [(3, .int (nI (4 * (z + 1)))), (0, .ref b), (1, .ref ma), (2, .ref na)] := hl
      refine lv_goto hx hb d_lw_law_398 rfl ?_
      have hl := lv_sub hl [0, 1, 2, 3] (l' := [(3, .int (nI (4 * (z + 1)))), (0, .ref b), (1, .ref ma), (2, .ref na)]) rfl
      exact ih_a (z + 1, W0, H0, n, wf, rk, sc, Ms, s5, g5, Mg, qf, k1, k2, wo, Mc, se, Mp, pen, psu, pnm, pkn, pfo, of, lf, Ml, so134, ti135, le136, gr137, cco, cnx, Wm, Hm, nm, i_free, i_top, i_found, i_length, so140, wh141, on142, tw143, a_walls, a_starts, a_goals, a_laid, a_isTold, a_cells, a_index, a_near, a_nearCount, a_pay, a_done, a_pile, a_now, a_then, a_choice, a_plan, a_costs, a_paid, a_after, a_far, a_many, a_next) ls H _ (by show L + 4 - 4 * (z + 1) < L + 4 - 4 * z; omega) ⟨by show 4 * (z + 1) ≤ L + 3; omega, hIx, hIm, hE, hLd, hld, hl, hP, hD, hS⟩
    ·
      refine lv_tableOut hx hb d_lw_law_32 (Or.inr (by decide)) (tgt := 395) rfl ?_
      refine lv_iinc (k := 0) (v := nI (4 * (z + 1))) hx hb d_lw_law_395 hl rfl (by rw [show Int32.ofInt 4 = nI 4 from rfl, nI_add]; exact congrArg nI (by omega)) (by decide) rfl (fun ls hl => ?_)
      have hl : lv_has ls 4 [(3, .int (nI (4 * (z + 1)))), (0, .ref b), (1, .ref ma), (2, .ref na)] := hl
      refine lv_goto hx hb d_lw_law_398 rfl ?_
      have hl := lv_sub hl [0, 1, 2, 3] (l' := [(3, .int (nI (4 * (z + 1)))), (0, .ref b), (1, .ref ma), (2, .ref na)]) rfl
      exact ih_a (z + 1, W0, H0, n, wf, rk, sc, Ms, s5, g5, Mg, qf, k1, k2, wo, Mc, se, Mp, pen, psu, pnm, pkn, pfo, of, lf, Ml, eso, eti, eles, egr, cco, cnx, Wm, Hm, nm, i_free, i_top, i_found, i_length, i_sort, i_when, i_one, i_two, a_walls, a_starts, a_goals, a_laid, a_isTold, a_cells, a_index, a_near, a_nearCount, a_pay, a_done, a_pile, a_now, a_then, a_choice, a_plan, a_costs, a_paid, a_after, a_far, a_many, a_next) ls H _ (by show L + 4 - 4 * (z + 1) < L + 4 - 4 * z; omega) ⟨by show 4 * (z + 1) ≤ L + 3; omega, hIx, hIm, hE, hLd, hld, hl, hP, hD, hS⟩
    ·
      refine lv_tableOut hx hb d_lw_law_32 (Or.inr (by decide)) (tgt := 395) rfl ?_
      refine lv_iinc (k := 0) (v := nI (4 * (z + 1))) hx hb d_lw_law_395 hl rfl (by rw [show Int32.ofInt 4 = nI 4 from rfl, nI_add]; exact congrArg nI (by omega)) (by decide) rfl (fun ls hl => ?_)
      have hl : lv_has ls 4 [(3, .int (nI (4 * (z + 1)))), (0, .ref b), (1, .ref ma), (2, .ref na)] := hl
      refine lv_goto hx hb d_lw_law_398 rfl ?_
      have hl := lv_sub hl [0, 1, 2, 3] (l' := [(3, .int (nI (4 * (z + 1)))), (0, .ref b), (1, .ref ma), (2, .ref na)]) rfl
      exact ih_a (z + 1, W0, H0, n, wf, rk, sc, Ms, s5, g5, Mg, qf, k1, k2, wo, Mc, se, Mp, pen, psu, pnm, pkn, pfo, of, lf, Ml, eso, eti, eles, egr, cco, cnx, Wm, Hm, nm, i_free, i_top, i_found, i_length, i_sort, i_when, i_one, i_two, a_walls, a_starts, a_goals, a_laid, a_isTold, a_cells, a_index, a_near, a_nearCount, a_pay, a_done, a_pile, a_now, a_then, a_choice, a_plan, a_costs, a_paid, a_after, a_far, a_many, a_next) ls H _ (by show L + 4 - 4 * (z + 1) < L + 4 - 4 * z; omega) ⟨by show 4 * (z + 1) ≤ L + 3; omega, hIx, hIm, hE, hLd, hld, hl, hP, hD, hS⟩
    ·
      refine lv_tableOut hx hb d_lw_law_32 (Or.inr (by decide)) (tgt := 395) rfl ?_
      refine lv_iinc (k := 0) (v := nI (4 * (z + 1))) hx hb d_lw_law_395 hl rfl (by rw [show Int32.ofInt 4 = nI 4 from rfl, nI_add]; exact congrArg nI (by omega)) (by decide) rfl (fun ls hl => ?_)
      have hl : lv_has ls 4 [(3, .int (nI (4 * (z + 1)))), (0, .ref b), (1, .ref ma), (2, .ref na)] := hl
      refine lv_goto hx hb d_lw_law_398 rfl ?_
      have hl := lv_sub hl [0, 1, 2, 3] (l' := [(3, .int (nI (4 * (z + 1)))), (0, .ref b), (1, .ref ma), (2, .ref na)]) rfl
      exact ih_a (z + 1, W0, H0, n, wf, rk, sc, Ms, s5, g5, Mg, qf, k1, k2, wo, Mc, se, Mp, pen, psu, pnm, pkn, pfo, of, lf, Ml, eso, eti, eles, egr, cco, cnx, Wm, Hm, nm, i_free, i_top, i_found, i_length, i_sort, i_when, i_one, i_two, a_walls, a_starts, a_goals, a_laid, a_isTold, a_cells, a_index, a_near, a_nearCount, a_pay, a_done, a_pile, a_now, a_then, a_choice, a_plan, a_costs, a_paid, a_after, a_far, a_many, a_next) ls H _ (by show L + 4 - 4 * (z + 1) < L + 4 - 4 * z; omega) ⟨by show 4 * (z + 1) ≤ L + 3; omega, hIx, hIm, hE, hLd, hld, hl, hP, hD, hS⟩
    ·
      refine lv_tableOut hx hb d_lw_law_32 (Or.inr (by decide)) (tgt := 395) rfl ?_
      refine lv_iinc (k := 0) (v := nI (4 * (z + 1))) hx hb d_lw_law_395 hl rfl (by rw [show Int32.ofInt 4 = nI 4 from rfl, nI_add]; exact congrArg nI (by omega)) (by decide) rfl (fun ls hl => ?_)
      have hl : lv_has ls 4 [(3, .int (nI (4 * (z + 1)))), (0, .ref b), (1, .ref ma), (2, .ref na)] := hl
      refine lv_goto hx hb d_lw_law_398 rfl ?_
      have hl := lv_sub hl [0, 1, 2, 3] (l' := [(3, .int (nI (4 * (z + 1)))), (0, .ref b), (1, .ref ma), (2, .ref na)]) rfl
      exact ih_a (z + 1, W0, H0, n, wf, rk, sc, Ms, s5, g5, Mg, qf, k1, k2, wo, Mc, se, Mp, pen, psu, pnm, pkn, pfo, of, lf, Ml, eso, eti, eles, egr, cco, cnx, Wm, Hm, nm, i_free, i_top, i_found, i_length, i_sort, i_when, i_one, i_two, a_walls, a_starts, a_goals, a_laid, a_isTold, a_cells, a_index, a_near, a_nearCount, a_pay, a_done, a_pile, a_now, a_then, a_choice, a_plan, a_costs, a_paid, a_after, a_far, a_many, a_next) ls H _ (by show L + 4 - 4 * (z + 1) < L + 4 - 4 * z; omega) ⟨by show 4 * (z + 1) ≤ L + 3; omega, hIx, hIm, hE, hLd, hld, hl, hP, hD, hS⟩
    ·
      refine lv_tableOut hx hb d_lw_law_32 (Or.inr (by decide)) (tgt := 395) rfl ?_
      refine lv_iinc (k := 0) (v := nI (4 * (z + 1))) hx hb d_lw_law_395 hl rfl (by rw [show Int32.ofInt 4 = nI 4 from rfl, nI_add]; exact congrArg nI (by omega)) (by decide) rfl (fun ls hl => ?_)
      have hl : lv_has ls 4 [(3, .int (nI (4 * (z + 1)))), (0, .ref b), (1, .ref ma), (2, .ref na)] := hl
      refine lv_goto hx hb d_lw_law_398 rfl ?_
      have hl := lv_sub hl [0, 1, 2, 3] (l' := [(3, .int (nI (4 * (z + 1)))), (0, .ref b), (1, .ref ma), (2, .ref na)]) rfl
      exact ih_a (z + 1, W0, H0, n, wf, rk, sc, Ms, s5, g5, Mg, qf, k1, k2, wo, Mc, se, Mp, pen, psu, pnm, pkn, pfo, of, lf, Ml, eso, eti, eles, egr, cco, cnx, Wm, Hm, nm, i_free, i_top, i_found, i_length, i_sort, i_when, i_one, i_two, a_walls, a_starts, a_goals, a_laid, a_isTold, a_cells, a_index, a_near, a_nearCount, a_pay, a_done, a_pile, a_now, a_then, a_choice, a_plan, a_costs, a_paid, a_after, a_far, a_many, a_next) ls H _ (by show L + 4 - 4 * (z + 1) < L + 4 - 4 * z; omega) ⟨by show 4 * (z + 1) ≤ L + 3; omega, hIx, hIm, hE, hLd, hld, hl, hP, hD, hS⟩
