theorem go_S0 {n : Nat} {g p q : Nat → Nat} {paid : Nat → Option Nat} {who : Nat} : go_S n g p q paid 0 who none := ⟨fun v h => by (cases h), fun had u _ h => absurd h (Nat.not_lt_zero _)⟩
theorem go_Sskip {n : Nat} {g p q : Nat → Nat} {paid : Nat → Option Nat} {z who : Nat} {cur : Option Nat} (h : go_S n g p q paid z who cur) (hn : ¬ (z &&& who = z ∧ (∃ u, paid z = some u) ∧ go_M n p q z)) : go_S n g p q paid (z + 1) who cur := by
  refine ⟨h.1, fun had u h1 h2 h3 h4 h5 h6 => ?_⟩
  by_cases e : had = z
  · subst e; exact absurd ⟨h3, ⟨u, h4⟩, h5⟩ hn
  · exact h.2 had u h1 (by omega) h3 h4 h5 h6
theorem go_Sset {n : Nat} {g p q : Nat → Nat} {paid : Nat → Option Nat} {z who u : Nat} {cur : Option Nat} (h : go_S n g p q paid z who cur) (hz : z < 2 ^ n) (h1 : z &&& who = z) (h2 : paid z = some u) (h3 : go_M n p q z) (h4 : go_M n g q who) (hc : ∀ v, cur = some v → u + (n - dj_pc z n) < v) : go_S n g p q paid (z + 1) who (some (u + (n - dj_pc z n))) := by
  refine ⟨fun v hv => ⟨h4, z, u, hz, h1, h2, h3, (Option.some.inj hv).symm⟩, fun had u' a1 a2 a3 a4 a5 a6 => ?_⟩
  by_cases e : had = z
  · subst e
    rw [h2] at a4
    rw [← Option.some.inj a4]
    exact ⟨_, Nat.le_refl _, rfl⟩
  · obtain ⟨v, q1, q2⟩ := h.2 had u' a1 (by omega) a3 a4 a5 a6
    have := hc v q2
    exact ⟨_, by omega, rfl⟩
theorem go_Skeep {n : Nat} {g p q : Nat → Nat} {paid : Nat → Option Nat} {z who u v0 : Nat} (h : go_S n g p q paid z who (some v0)) (h2 : paid z = some u) (hc : v0 ≤ u + (n - dj_pc z n)) : go_S n g p q paid (z + 1) who (some v0) := by
  refine ⟨h.1, fun had u' a1 a2 a3 a4 a5 a6 => ?_⟩
  by_cases e : had = z
  · subst e
    rw [h2] at a4
    rw [← Option.some.inj a4]
    exact ⟨_, hc, rfl⟩
  · exact h.2 had u' a1 (by omega) a3 a4 a5 a6
theorem go_Send {n : Nat} {g p q : Nat → Nat} {paid : Nat → Option Nat} {z who : Nat} {cur : Option Nat} (h : go_S n g p q paid z who cur) (hz : who < z ∨ ¬ go_M n g q who) : go_S n g p q paid (2 ^ n) who cur := by
  refine ⟨h.1, fun had u a1 _ a3 a4 a5 a6 => ?_⟩
  rcases hz with hz | hz
  · have e : had &&& who ≤ who := Nat.and_le_right
    exact h.2 had u a1 (by omega) a3 a4 a5 a6
  · exact absurd a6 hz
def go_G (n F : Nat) (q : Nat → Nat) (pay : Nat → Nat) (sum z : Nat) (aft : Nat → Option Nat) : Prop := ∃ who v, who < z ∧ aft who = some v ∧ v + pay (dj_enc n F q who) = sum

theorem go_Gs {n F wz sum : Nat} {q pay : Nat → Nat} {aft : Nat → Option Nat} {cur : Option Nat} : go_G n F q pay sum (wz + 1) (fun i => if i = wz then cur else aft i) ↔ (go_G n F q pay sum wz aft ∨ ∃ v, cur = some v ∧ v + pay (dj_enc n F q wz) = sum) := by
  constructor
  · rintro ⟨w9, v9, h1, h2, h3⟩
    have h2 : (if w9 = wz then cur else aft w9) = some v9 := h2
    by_cases e : w9 = wz
    · rw [if_pos e] at h2; exact Or.inr ⟨v9, h2, by rw [← e]; exact h3⟩
    · rw [if_neg e] at h2; exact Or.inl ⟨w9, v9, by omega, h2, h3⟩
  · rintro (⟨w9, v9, h1, h2, h3⟩ | ⟨v, h1, h2⟩)
    · refine ⟨w9, v9, by omega, ?_, h3⟩
      show (if w9 = wz then cur else aft w9) = some v9
      rw [if_neg (by omega)]; exact h2
    · refine ⟨wz, v, by omega, ?_, h2⟩
      show (if wz = wz then cur else aft wz) = some v
      rw [if_pos rfl]; exact h1

set_option maxHeartbeats 4000000 in
set_option maxRecDepth 100000 in
theorem c_md_goesOn (l : Launch) (D : va_G) (cZ cI cJ cII : ClassId) (na : Nat) (nwalls : Nat) (nstarts : Nat) (ngoals : Nat) (nlaid : Nat) (nisTold : Nat) (ncells : Nat) (nindex : Nat) (nnear : Nat) (nnearCount : Nat) (npay : Nat) (ndone : Nat) (npile : Nat) (nnow : Nat) (nthen : Nat) (nchoice : Nat) (nplan : Nat) (ncosts : Nat) (npaid : Nat) (nafter : Nat) (nfar : Nat) (nmany : Nat) (nnext : Nat) (vtop : Int32) (vfound : Int32) (vlength : Int32) (vsort : Int32) (vwhen : Int32) (vone : Int32) (vtwo : Int32) (W0 : Nat) (H0 : Nat) (n : Nat) (F0 : Nat) (tf : Nat → Int32) (qf : Nat → Int32) (pd : Nat → Int32) (af : Nat → Int32) (gf : Nat → Int32) (xf : Nat → Int32) (pf : Nat → Int32) (gl : Nat → Nat) (gi : Nat → Nat) (p0 : Nat → Nat) (q0 : Nat → Nat) (pay : Nat → Nat) (paid : Nat → Option Nat) (Bd : Nat) (sum : Nat) (sz : Nat) (hn : n ≤ 5) (hF : 0 < F0 ∧ F0 ≤ 25) (hN9 : (2 ^ n * F0 ^ n) ≤ 512000) (hp : ∀ i, i < n → qf i = nI (p0 i) ∧ p0 i < 25) (hq : ∀ i, i < n → tf i = nI (q0 i)) (hqV : dj_V n F0 q0) (hgl : ∀ i, i < n → gf i = nI (gl i) ∧ gl i < 25 ∧ xf (gl i) = nI (gi i) ∧ gi i < 25) (hL : ∀ i, i < (2 ^ n * F0 ^ n) → pf i = nI (pay i)) (hp2 : ∀ y9, y9 < (2 ^ n * F0 ^ n) → pay y9 ≤ 200) (hpd : ∀ i, i < 2 ^ n → go_v Bd (paid i) (pd i)) (hBd : Bd ≤ 100000) (hsum : sum ≤ 1000) : Met l y_md_goesOn w_md_goesOn ({ frames := 2, cells := 0, slots := 0, locals := 80 }) (va_Pc [.ref na, .int (nI sum)] (mt_B D [(cZ, .boolean), (cI, .int), (cJ, .long), (cII, .array .int)] [(na, .inr (7, [.int (nI W0), .int (nI H0), .ref nwalls, .int (nI n), .ref nstarts, .ref ngoals, .ref nlaid, .ref nisTold, .int (nI F0), .ref ncells, .ref nindex, .ref nnear, .ref nnearCount, .ref npay, .ref ndone, .ref npile, .int vtop, .ref nnow, .ref nthen, .ref nchoice, .int vfound, .int vlength, .ref nplan, .ref ncosts, .ref npaid, .ref nafter, .ref nfar, .ref nmany, .ref nnext, .int vsort, .int vwhen, .int vone, .int vtwo])), (nthen, .inl (cI, 6, .inl tf)), (nnow, .inl (cI, 6, .inl qf)), (npaid, .inl (cI, 64, .inl pd)), (nafter, .inl (cI, 64, .inl af)), (ngoals, .inl (cI, 25, .inl gf)), (nindex, .inl (cI, 25, .inl xf)), (npay, .inl (cI, 512000, .inl pf))] sz)) ((fun A => va_Qi (fun (r : Int32) (u : (Nat → Int32) × (Nat → Option Nat)) => ((r = 1 ∧ go_G n F0 q0 pay sum (2 ^ n) (u.2)) ∨ (r = 0 ∧ ¬ go_G n F0 q0 pay sum (2 ^ n) (u.2))) ∧ (∀ i, i < 2 ^ n → go_v (Bd + 5) ((u.2) i) ((u.1) i) ∧ go_S n gi p0 q0 paid (2 ^ n) i ((u.2) i))) (fun (u : (Nat → Int32) × (Nat → Option Nat)) (t : State) => mt_O D A [(na, .inr (7, [.int (nI W0), .int (nI H0), .ref nwalls, .int (nI n), .ref nstarts, .ref ngoals, .ref nlaid, .ref nisTold, .int (nI F0), .ref ncells, .ref nindex, .ref nnear, .ref nnearCount, .ref npay, .ref ndone, .ref npile, .int vtop, .ref nnow, .ref nthen, .ref nchoice, .int vfound, .int vlength, .ref nplan, .ref ncosts, .ref npaid, .ref nafter, .ref nfar, .ref nmany, .ref nnext, .int vsort, .int vwhen, .int vone, .int vtwo])), (nthen, .inl (cI, 6, .inl tf)), (nnow, .inl (cI, 6, .inl qf)), (npaid, .inl (cI, 64, .inl pd)), (nafter, .inl (cI, 64, .inl (u.1))), (ngoals, .inl (cI, 25, .inl gf)), (nindex, .inl (cI, 25, .inl xf)), (npay, .inl (cI, 512000, .inl pf))] t) A) (va_A [(na, .inr (7, [.int (nI W0), .int (nI H0), .ref nwalls, .int (nI n), .ref nstarts, .ref ngoals, .ref nlaid, .ref nisTold, .int (nI F0), .ref ncells, .ref nindex, .ref nnear, .ref nnearCount, .ref npay, .ref ndone, .ref npile, .int vtop, .ref nnow, .ref nthen, .ref nchoice, .int vfound, .int vlength, .ref nplan, .ref ncosts, .ref npaid, .ref nafter, .ref nfar, .ref nmany, .ref nnext, .int vsort, .int vwhen, .int vone, .int vtwo])), (nthen, .inl (cI, 6, .inl tf)), (nnow, .inl (cI, 6, .inl qf)), (npaid, .inl (cI, 64, .inl pd)), (nafter, .inl (cI, 64, .inl af)), (ngoals, .inl (cI, 25, .inl gf)), (nindex, .inl (cI, 25, .inl xf)), (npay, .inl (cI, 512000, .inl pf))] sz)) 0 0 (va_A [(na, .inr (7, [.int (nI W0), .int (nI H0), .ref nwalls, .int (nI n), .ref nstarts, .ref ngoals, .ref nlaid, .ref nisTold, .int (nI F0), .ref ncells, .ref nindex, .ref nnear, .ref nnearCount, .ref npay, .ref ndone, .ref npile, .int vtop, .ref nnow, .ref nthen, .ref nchoice, .int vfound, .int vlength, .ref nplan, .ref ncosts, .ref npaid, .ref nafter, .ref nfar, .ref nmany, .ref nnext, .int vsort, .int vwhen, .int vone, .int vtwo])), (nthen, .inl (cI, 6, .inl tf)), (nnow, .inl (cI, 6, .inl qf)), (npaid, .inl (cI, 64, .inl pd)), (nafter, .inl (cI, 64, .inl af)), (ngoals, .inl (cI, 25, .inl gf)), (nindex, .inl (cI, 25, .inl xf)), (npay, .inl (cI, 512000, .inl pf))] sz) := by
  refine mt_of (y := y_md_goesOn) (n := 8) (av := [.ref na, .int (nI sum)]) (QF := (fun A => va_Qi (fun (r : Int32) (u : (Nat → Int32) × (Nat → Option Nat)) => ((r = 1 ∧ go_G n F0 q0 pay sum (2 ^ n) (u.2)) ∨ (r = 0 ∧ ¬ go_G n F0 q0 pay sum (2 ^ n) (u.2))) ∧ (∀ i, i < 2 ^ n → go_v (Bd + 5) ((u.2) i) ((u.1) i) ∧ go_S n gi p0 q0 paid (2 ^ n) i ((u.2) i))) (fun (u : (Nat → Int32) × (Nat → Option Nat)) (t : State) => mt_O D A [(na, .inr (7, [.int (nI W0), .int (nI H0), .ref nwalls, .int (nI n), .ref nstarts, .ref ngoals, .ref nlaid, .ref nisTold, .int (nI F0), .ref ncells, .ref nindex, .ref nnear, .ref nnearCount, .ref npay, .ref ndone, .ref npile, .int vtop, .ref nnow, .ref nthen, .ref nchoice, .int vfound, .int vlength, .ref nplan, .ref ncosts, .ref npaid, .ref nafter, .ref nfar, .ref nmany, .ref nnext, .int vsort, .int vwhen, .int vone, .int vtwo])), (nthen, .inl (cI, 6, .inl tf)), (nnow, .inl (cI, 6, .inl qf)), (npaid, .inl (cI, 64, .inl pd)), (nafter, .inl (cI, 64, .inl (u.1))), (ngoals, .inl (cI, 25, .inl gf)), (nindex, .inl (cI, 25, .inl xf)), (npay, .inl (cI, 512000, .inl pf))] t) A)) (by decide) (Nat.le_of_ble_eq_true rfl) ?_
  intro p e s m below meth c ls A hx hb hr hlk hml hown hnm hg hl hX hP hK hD hA hS
  obtain ⟨H, hH⟩ : ∃ H : Heap, H = s.heap := ⟨_, rfl⟩
  have hS : va_S A s.heap H [] := by rw [hH]; exact va_S.rf
  rw [← hH] at hP ⊢
  have hown : s.vm.findClass R_md = some m.cls := hown
  have hl : lv_has ls 8 [(0, .ref na), (1, .int (nI sum))] := hl
  have h32 : 2 ^ n ≤ 32 := show 2 ^ n ≤ 2 ^ 5 from Nat.pow_le_pow_right (by decide) hn
  have hst9 : sx_st F0 (fun i => q0 (n - 1 - i)) n < F0 ^ n := sx_st_lt n (fun i hi => hqV.1 _ (by omega))
  have hFn : F0 ^ n ≤ (2 ^ n * F0 ^ n) := Nat.le_mul_of_pos_left _ (Nat.two_pow_pos n)
  refine lv_iconst (v := 1) hx hb d_md_goesOn_0 (by decide) ?_
  refine lv_aload_n hx hb d_md_goesOn_1 rfl (lv_at hl 0 rfl) ?_
  refine gf_md_86 hx hb hg hown hK hP 0 rfl rfl d_md_goesOn_2 ?_
  refine lv_ishl hx hb d_md_goesOn_5 ?_
  refine lv_iconst (v := 1) hx hb d_md_goesOn_6 (by decide) ?_
  refine lv_isub hx hb d_md_goesOn_7 ?_
  refine lv_topi (fun y1 ey1 => ?_)
  have ey1 : y1 = nI (2 ^ n - 1) := ey1.trans (bt_all n (by omega))
  subst ey1
  refine lv_istore_n hx hb d_md_goesOn_8 rfl hl (by decide) rfl (fun ls hl => ?_)
  have hl : lv_has ls 8 [(2, .int (nI (2 ^ n - 1))), (0, .ref na), (1, .int (nI sum))] := hl
  refine lv_iconst (v := 0) hx hb d_md_goesOn_9 (by decide) ?_
  refine lv_istore_n hx hb d_md_goesOn_10 rfl hl (by decide) rfl (fun ls hl => ?_)
  have hl : lv_has ls 8 [(3, .int 0), (2, .int (nI (2 ^ n - 1))), (0, .ref na), (1, .int (nI sum))] := hl
  refine lv_aload_n hx hb d_md_goesOn_11 rfl (lv_at hl 2 rfl) ?_
  refine lv_aload_n hx hb d_md_goesOn_12 rfl (lv_at hl 2 rfl) ?_
  refine gf_md_58 hx hb hg hown hK hP 0 rfl rfl d_md_goesOn_13 ?_
  have hPc := hP.sub (ws' := [(na, .inr (7, [.int (nI W0), .int (nI H0), .ref nwalls, .int (nI n), .ref nstarts, .ref ngoals, .ref nlaid, .ref nisTold, .int (nI F0), .ref ncells, .ref nindex, .ref nnear, .ref nnearCount, .ref npay, .ref ndone, .ref npile, .int vtop, .ref nnow, .ref nthen, .ref nchoice, .int vfound, .int vlength, .ref nplan, .ref ncosts, .ref npaid, .ref nafter, .ref nfar, .ref nmany, .ref nnext, .int vsort, .int vwhen, .int vone, .int vtwo])), (nthen, .inl (cI, 6, .inl tf))]) [0, 1] rfl
  have hDc := hD.sub (ws' := [(na, .inr (7, [.int (nI W0), .int (nI H0), .ref nwalls, .int (nI n), .ref nstarts, .ref ngoals, .ref nlaid, .ref nisTold, .int (nI F0), .ref ncells, .ref nindex, .ref nnear, .ref nnearCount, .ref npay, .ref ndone, .ref npile, .int vtop, .ref nnow, .ref nthen, .ref nchoice, .int vfound, .int vlength, .ref nplan, .ref ncosts, .ref npaid, .ref nafter, .ref nfar, .ref nmany, .ref nnext, .int vsort, .int vwhen, .int vone, .int vtwo])), (nthen, .inl (cI, 6, .inl tf))]) [0, 1] (by decide) rfl
  refine vp_callSi (W.runV (As := [.ref nthen]) (rest := []) ⟨hx, hb, hml, hown, hg⟩ (c_md_placesOf l D cZ cI cJ cII na nwalls nstarts ngoals nlaid nisTold ncells nindex nnear nnearCount npay ndone npile nnow nthen nchoice nplan ncosts npaid nafter nfar nmany nnext vtop vfound vlength vsort vwhen vone vtwo _ _ _ _ nthen tf q0 H.size hn hq) (cwV 1 hg gv_md_150 rfl rfl rfl (by decide +kernel) ⟨Nat.le_of_ble_eq_true rfl, Nat.le_of_ble_eq_true rfl⟩) ⟨mt_bl, va_recv (q0 := 0) (ci := 7) hK hP rfl rfl, mt_pr hX hPc hK hDc⟩ rfl rfl hl.1 rfl (lv_room (Nat.le_of_ble_eq_true rfl)) d_md_goesOn_16 ⟨Nat.le_of_ble_eq_true rfl, Nat.le_of_ble_eq_true rfl⟩) (fun r2 hr2 => ?_)
  have hr2 : r2 = nI (sx_st F0 (fun i => q0 (n - 1 - i)) n) := hr2
  have hr2 : r2 = nI (sx_st F0 (fun i => q0 (n - 1 - i)) n) := hr2
  subst hr2
  refine lv_istore hx hb d_md_goesOn_19 hl (by decide) rfl (fun ls hl => ?_)
  have hl : lv_has ls 8 [(4, .int (nI (sx_st F0 (fun i => q0 (n - 1 - i)) n))), (3, .int 0), (2, .int (nI (2 ^ n - 1))), (0, .ref na), (1, .int (nI sum))] := hl
  refine lv_iconst (v := 0) hx hb d_md_goesOn_21 (by decide) ?_
  refine lv_istore hx hb d_md_goesOn_22 hl (by decide) rfl (fun ls hl => ?_)
  have hl : lv_has ls 8 [(5, .int 0), (4, .int (nI (sx_st F0 (fun i => q0 (n - 1 - i)) n))), (3, .int 0), (2, .int (nI (2 ^ n - 1))), (0, .ref na), (1, .int (nI sum))] := hl
  have hl := lv_sub hl [0, 2, 4, 5, 3, 1] (l' := [(5, .int (nI 0)), (3, .int 0), (0, .ref na), (1, .int (nI sum)), (2, .int (nI (2 ^ n - 1))), (4, .int (nI (sx_st F0 (fun i => q0 (n - 1 - i)) n)))]) rfl
  refine mt_loop (ι := Nat × Int32 × (Nat → Int32) × (Nat → Option Nat)) (I := fun ix ls H locs => ((ix.1) ≤ 2 ^ n) ∧ (((ix.2.1) = 1 ∧ go_G n F0 q0 pay sum (ix.1) (ix.2.2.2)) ∨ ((ix.2.1) = 0 ∧ ¬ go_G n F0 q0 pay sum (ix.1) (ix.2.2.2))) ∧ (∀ i, i < (ix.1) → go_v (Bd + 5) ((ix.2.2.2) i) ((ix.2.2.1) i) ∧ go_S n gi p0 q0 paid (2 ^ n) i ((ix.2.2.2) i)) ∧ lv_has ls 8 [(5, .int (nI (ix.1))), (3, .int (ix.2.1)), (0, .ref na), (1, .int (nI sum)), (2, .int (nI (2 ^ n - 1))), (4, .int (nI (sx_st F0 (fun i => q0 (n - 1 - i)) n)))] ∧ va_P D kls [(na, .inr (7, [.int (nI W0), .int (nI H0), .ref nwalls, .int (nI n), .ref nstarts, .ref ngoals, .ref nlaid, .ref nisTold, .int (nI F0), .ref ncells, .ref nindex, .ref nnear, .ref nnearCount, .ref npay, .ref ndone, .ref npile, .int vtop, .ref nnow, .ref nthen, .ref nchoice, .int vfound, .int vlength, .ref nplan, .ref ncosts, .ref npaid, .ref nafter, .ref nfar, .ref nmany, .ref nnext, .int vsort, .int vwhen, .int vone, .int vtwo])), (nthen, .inl (cI, 6, .inl tf)), (nnow, .inl (cI, 6, .inl qf)), (npaid, .inl (cI, 64, .inl pd)), (nafter, .inl (cI, 64, .inl (ix.2.2.1))), (ngoals, .inl (cI, 25, .inl gf)), (nindex, .inl (cI, 25, .inl xf)), (npay, .inl (cI, 512000, .inl pf))] H ∧ va_D A [(na, .inr (7, [.int (nI W0), .int (nI H0), .ref nwalls, .int (nI n), .ref nstarts, .ref ngoals, .ref nlaid, .ref nisTold, .int (nI F0), .ref ncells, .ref nindex, .ref nnear, .ref nnearCount, .ref npay, .ref ndone, .ref npile, .int vtop, .ref nnow, .ref nthen, .ref nchoice, .int vfound, .int vlength, .ref nplan, .ref ncosts, .ref npaid, .ref nafter, .ref nfar, .ref nmany, .ref nnext, .int vsort, .int vwhen, .int vone, .int vtwo])), (nthen, .inl (cI, 6, .inl tf)), (nnow, .inl (cI, 6, .inl qf)), (npaid, .inl (cI, 64, .inl pd)), (nafter, .inl (cI, 64, .inl (ix.2.2.1))), (ngoals, .inl (cI, 25, .inl gf)), (nindex, .inl (cI, 25, .inl xf)), (npay, .inl (cI, 512000, .inl pf))] ∧ va_S A s.heap H locs) (μ := fun ix => 2 ^ n - (ix.1)) ?_ (0, 0, af, fun _ => none) ls H _ ⟨Nat.zero_le _, Or.inr ⟨rfl, fun ⟨_, _, h, _⟩ => absurd h (Nat.not_lt_zero _)⟩, fun i h => absurd h (Nat.not_lt_zero _), hl, hP, hD, hS⟩
  clear hl hP hD hS
  intro i_a ls H locs ⟨hwz, hgd, haf, hl, hP, hD, hS⟩ ih_a
  obtain ⟨wz, gd, a1, aft⟩ := i_a
  have hwz : wz ≤ 2 ^ n := hwz
  have hgd : (gd = 1 ∧ go_G n F0 q0 pay sum wz aft) ∨ (gd = 0 ∧ ¬ go_G n F0 q0 pay sum wz aft) := hgd
  have haf : ∀ i, i < wz → go_v (Bd + 5) (aft i) (a1 i) ∧ go_S n gi p0 q0 paid (2 ^ n) i (aft i) := haf
  have hl : lv_has ls 8 [(5, .int (nI wz)), (3, .int gd), (0, .ref na), (1, .int (nI sum)), (2, .int (nI (2 ^ n - 1))), (4, .int (nI (sx_st F0 (fun i => q0 (n - 1 - i)) n)))] := hl
  have hP : va_P D kls [(na, .inr (7, [.int (nI W0), .int (nI H0), .ref nwalls, .int (nI n), .ref nstarts, .ref ngoals, .ref nlaid, .ref nisTold, .int (nI F0), .ref ncells, .ref nindex, .ref nnear, .ref nnearCount, .ref npay, .ref ndone, .ref npile, .int vtop, .ref nnow, .ref nthen, .ref nchoice, .int vfound, .int vlength, .ref nplan, .ref ncosts, .ref npaid, .ref nafter, .ref nfar, .ref nmany, .ref nnext, .int vsort, .int vwhen, .int vone, .int vtwo])), (nthen, .inl (cI, 6, .inl tf)), (nnow, .inl (cI, 6, .inl qf)), (npaid, .inl (cI, 64, .inl pd)), (nafter, .inl (cI, 64, .inl a1)), (ngoals, .inl (cI, 25, .inl gf)), (nindex, .inl (cI, 25, .inl xf)), (npay, .inl (cI, 512000, .inl pf))] H := hP
  have hD : va_D A [(na, .inr (7, [.int (nI W0), .int (nI H0), .ref nwalls, .int (nI n), .ref nstarts, .ref ngoals, .ref nlaid, .ref nisTold, .int (nI F0), .ref ncells, .ref nindex, .ref nnear, .ref nnearCount, .ref npay, .ref ndone, .ref npile, .int vtop, .ref nnow, .ref nthen, .ref nchoice, .int vfound, .int vlength, .ref nplan, .ref ncosts, .ref npaid, .ref nafter, .ref nfar, .ref nmany, .ref nnext, .int vsort, .int vwhen, .int vone, .int vtwo])), (nthen, .inl (cI, 6, .inl tf)), (nnow, .inl (cI, 6, .inl qf)), (npaid, .inl (cI, 64, .inl pd)), (nafter, .inl (cI, 64, .inl a1)), (ngoals, .inl (cI, 25, .inl gf)), (nindex, .inl (cI, 25, .inl xf)), (npay, .inl (cI, 512000, .inl pf))] := hD
  refine lv_iload hx hb d_md_goesOn_24 (lv_at hl 0 rfl) ?_
  refine lv_iload_n hx hb d_md_goesOn_26 rfl (lv_at hl 4 rfl) ?_
  refine lv_icmp_gt hx hb d_md_goesOn_27 rfl (fun g1 => ?_) (fun g1 => ?_)
  ·
    refine lv_iload_n hx hb d_md_goesOn_213 rfl (lv_at hl 1 rfl) ?_
    have hwe : wz = 2 ^ n := by have := Nat.two_pow_pos n; rcases Nat.lt_or_ge (2 ^ n - 1) wz with h | h; omega; exact absurd g1 (nI_nlt h (by omega))
    rw [hwe] at hgd
    have haf8 : ∀ i, i < 2 ^ n → go_v (Bd + 5) (aft i) (a1 i) ∧ go_S n gi p0 q0 paid (2 ^ n) i (aft i) := fun i hi => haf i (by rw [hwe]; exact hi)
    rcases hgd with ⟨e7, hz7⟩ | ⟨e7, hz7⟩
    ·
      subst e7
      have hP9 := hP
      have hD9 := hD
      exact W.zret hx hb hr rfl (fun t ht hW => ⟨⟨1, (a1, aft), rfl, ⟨Or.inl ⟨rfl, hz7⟩, haf8⟩, by rw [ht]; exact hP9, hD9⟩, hS.F ht⟩) hS.2.2 d_md_goesOn_214
    ·
      subst e7
      have hP9 := hP
      have hD9 := hD
      exact W.zret hx hb hr rfl (fun t ht hW => ⟨⟨0, (a1, aft), rfl, ⟨Or.inr ⟨rfl, hz7⟩, haf8⟩, by rw [ht]; exact hP9, hD9⟩, hS.F ht⟩) hS.2.2 d_md_goesOn_214
  ·
    have hwl : wz < 2 ^ n := by have := Nat.two_pow_pos n; rcases Nat.lt_or_ge (2 ^ n - 1) wz with h | h; exact absurd (nI_lt h (by omega)) g1; omega
    refine mt_jp (pc := 159) (rest := []) (ι := (Nat → Int32) × (Option Nat) × Nat) (I := fun ix ls H locs => (go_v (Bd + 5) (ix.2.1) ((ix.1) wz)) ∧ (go_S n gi p0 q0 paid (ix.2.2) wz (ix.2.1)) ∧ (∀ i, i < wz → (ix.1) i = a1 i) ∧ (wz < (ix.2.2) ∨ ¬ go_M n gi q0 wz) ∧ lv_has ls 8 [(5, .int (nI wz)), (3, .int gd), (0, .ref na), (1, .int (nI sum)), (2, .int (nI (2 ^ n - 1))), (4, .int (nI (sx_st F0 (fun i => q0 (n - 1 - i)) n)))] ∧ va_P D kls [(na, .inr (7, [.int (nI W0), .int (nI H0), .ref nwalls, .int (nI n), .ref nstarts, .ref ngoals, .ref nlaid, .ref nisTold, .int (nI F0), .ref ncells, .ref nindex, .ref nnear, .ref nnearCount, .ref npay, .ref ndone, .ref npile, .int vtop, .ref nnow, .ref nthen, .ref nchoice, .int vfound, .int vlength, .ref nplan, .ref ncosts, .ref npaid, .ref nafter, .ref nfar, .ref nmany, .ref nnext, .int vsort, .int vwhen, .int vone, .int vtwo])), (nthen, .inl (cI, 6, .inl tf)), (nnow, .inl (cI, 6, .inl qf)), (npaid, .inl (cI, 64, .inl pd)), (nafter, .inl (cI, 64, .inl (ix.1))), (ngoals, .inl (cI, 25, .inl gf)), (nindex, .inl (cI, 25, .inl xf)), (npay, .inl (cI, 512000, .inl pf))] H ∧ va_D A [(na, .inr (7, [.int (nI W0), .int (nI H0), .ref nwalls, .int (nI n), .ref nstarts, .ref ngoals, .ref nlaid, .ref nisTold, .int (nI F0), .ref ncells, .ref nindex, .ref nnear, .ref nnearCount, .ref npay, .ref ndone, .ref npile, .int vtop, .ref nnow, .ref nthen, .ref nchoice, .int vfound, .int vlength, .ref nplan, .ref ncosts, .ref npaid, .ref nafter, .ref nfar, .ref nmany, .ref nnext, .int vsort, .int vwhen, .int vone, .int vtwo])), (nthen, .inl (cI, 6, .inl tf)), (nnow, .inl (cI, 6, .inl qf)), (npaid, .inl (cI, 64, .inl pd)), (nafter, .inl (cI, 64, .inl (ix.1))), (ngoals, .inl (cI, 25, .inl gf)), (nindex, .inl (cI, 25, .inl xf)), (npay, .inl (cI, 512000, .inl pf))] ∧ va_S A s.heap H locs) ?_ (fun jp_j => ?_)
    ·
      clear hl hP hD hS
      intro i_j ls H locs ⟨hcv, hcs, hco, hend, hl, hP, hD, hS⟩
      obtain ⟨a2, cur, hz⟩ := i_j
      have hcv : go_v (Bd + 5) cur (a2 wz) := hcv
      have hcs : go_S n gi p0 q0 paid hz wz cur := hcs
      have hco : ∀ i, i < wz → a2 i = a1 i := hco
      have hend : wz < hz ∨ ¬ go_M n gi q0 wz := hend
      have hl : lv_has ls 8 [(5, .int (nI wz)), (3, .int gd), (0, .ref na), (1, .int (nI sum)), (2, .int (nI (2 ^ n - 1))), (4, .int (nI (sx_st F0 (fun i => q0 (n - 1 - i)) n)))] := hl
      have hP : va_P D kls [(na, .inr (7, [.int (nI W0), .int (nI H0), .ref nwalls, .int (nI n), .ref nstarts, .ref ngoals, .ref nlaid, .ref nisTold, .int (nI F0), .ref ncells, .ref nindex, .ref nnear, .ref nnearCount, .ref npay, .ref ndone, .ref npile, .int vtop, .ref nnow, .ref nthen, .ref nchoice, .int vfound, .int vlength, .ref nplan, .ref ncosts, .ref npaid, .ref nafter, .ref nfar, .ref nmany, .ref nnext, .int vsort, .int vwhen, .int vone, .int vtwo])), (nthen, .inl (cI, 6, .inl tf)), (nnow, .inl (cI, 6, .inl qf)), (npaid, .inl (cI, 64, .inl pd)), (nafter, .inl (cI, 64, .inl a2)), (ngoals, .inl (cI, 25, .inl gf)), (nindex, .inl (cI, 25, .inl xf)), (npay, .inl (cI, 512000, .inl pf))] H := hP
      have hD : va_D A [(na, .inr (7, [.int (nI W0), .int (nI H0), .ref nwalls, .int (nI n), .ref nstarts, .ref ngoals, .ref nlaid, .ref nisTold, .int (nI F0), .ref ncells, .ref nindex, .ref nnear, .ref nnearCount, .ref npay, .ref ndone, .ref npile, .int vtop, .ref nnow, .ref nthen, .ref nchoice, .int vfound, .int vlength, .ref nplan, .ref ncosts, .ref npaid, .ref nafter, .ref nfar, .ref nmany, .ref nnext, .int vsort, .int vwhen, .int vone, .int vtwo])), (nthen, .inl (cI, 6, .inl tf)), (nnow, .inl (cI, 6, .inl qf)), (npaid, .inl (cI, 64, .inl pd)), (nafter, .inl (cI, 64, .inl a2)), (ngoals, .inl (cI, 25, .inl gf)), (nindex, .inl (cI, 25, .inl xf)), (npay, .inl (cI, 512000, .inl pf))] := hD
      have hs9 : go_S n gi p0 q0 paid (2 ^ n) wz cur := go_Send hcs hend
      have haf9 : ∀ i, i < wz + 1 → go_v (Bd + 5) ((fun i => if i = wz then cur else aft i) i) (a2 i) ∧ go_S n gi p0 q0 paid (2 ^ n) i ((fun i => if i = wz then cur else aft i) i) := fun i hi => by
        by_cases e9 : i = wz
        · subst e9; show go_v (Bd + 5) (if i = i then cur else aft i) (a2 i) ∧ go_S n gi p0 q0 paid (2 ^ n) i (if i = i then cur else aft i); rw [if_pos rfl]; exact ⟨hcv, hs9⟩
        · show go_v (Bd + 5) (if i = wz then cur else aft i) (a2 i) ∧ go_S n gi p0 q0 paid (2 ^ n) i (if i = wz then cur else aft i); rw [if_neg e9, hco i (by omega)]; exact haf i (by omega)
      have hyN : dj_enc n F0 q0 wz < (2 ^ n * F0 ^ n) := dj_enc_lt hqV (by omega)
      refine lv_iload_n hx hb d_md_goesOn_159 rfl (lv_at hl 1 rfl) ?_
      refine lv_if_ne hx hb d_md_goesOn_160 rfl (fun ga => ?_) (fun ga => ?_)
      ·
        have hg1 := hgd.elim (fun q => q.2) (fun q => absurd q.1 ga)
        refine lv_iconst (v := 1) hx hb d_md_goesOn_201 (by decide) ?_
        refine lv_goto hx hb d_md_goesOn_202 rfl ?_
        refine lv_istore_n hx hb d_md_goesOn_206 rfl hl (by decide) rfl (fun ls hl => ?_)
        have hl : lv_has ls 8 [(3, .int 1), (5, .int (nI wz)), (0, .ref na), (1, .int (nI sum)), (2, .int (nI (2 ^ n - 1))), (4, .int (nI (sx_st F0 (fun i => q0 (n - 1 - i)) n)))] := hl
        refine lv_iinc (k := 1) (v := nI (wz + 1)) hx hb d_md_goesOn_207 hl rfl ((nI_succ wz).symm) (by decide) rfl (fun ls hl => ?_)
        have hl : lv_has ls 8 [(5, .int (nI (wz + 1))), (3, .int 1), (0, .ref na), (1, .int (nI sum)), (2, .int (nI (2 ^ n - 1))), (4, .int (nI (sx_st F0 (fun i => q0 (n - 1 - i)) n)))] := hl
        refine lv_goto hx hb d_md_goesOn_210 rfl ?_
        have hl := lv_sub hl [0, 1, 2, 3, 4, 5] (l' := [(5, .int (nI (wz + 1))), (3, .int 1), (0, .ref na), (1, .int (nI sum)), (2, .int (nI (2 ^ n - 1))), (4, .int (nI (sx_st F0 (fun i => q0 (n - 1 - i)) n)))]) rfl
        exact ih_a (wz + 1, 1, a2, fun i => if i = wz then cur else aft i) ls H _ (by show 2 ^ n - (wz + 1) < 2 ^ n - wz; omega) ⟨by show wz + 1 ≤ 2 ^ n; omega, Or.inl ⟨rfl, go_Gs.mpr (Or.inl hg1)⟩, haf9, hl, hP, hD, hS⟩
      ·
        have hg0 := hgd.elim (fun q => absurd (q.1.symm.trans ga) (by decide)) (fun q => q.2)
        refine lv_aload_n hx hb d_md_goesOn_163 rfl (lv_at hl 2 rfl) ?_
        refine gf_md_73 hx hb hg hown hK hP 0 rfl rfl d_md_goesOn_164 ?_
        refine lv_iload hx hb d_md_goesOn_167 (lv_at hl 0 rfl) ?_
        refine va_iald hx hb hK hP 4 1 rfl rfl (vp_in_nI (show wz < 64 by omega) (by decide)) d_md_goesOn_169 ?_
        refine lv_topi (fun y3 ey3 => ?_)
        have ey3 : y3 = a2 wz := ey3.trans (by rw [nI_clamp (show wz < 2 ^ 31 by omega)])
        subst ey3
        refine lv_iconst (v := (-1)) hx hb d_md_goesOn_170 (by decide) ?_
        refine lv_icmp_eq hx hb d_md_goesOn_171 rfl (fun g8 => ?_) (fun g8 => ?_)
        ·
          have hnone : ∀ v, ¬ cur = some v := fun v h => hcv.elim (fun q => by rw [q.1] at h; cases h) (fun ⟨u2, q1, q2, q3⟩ => mt_nmk (by omega) (q3.symm.trans g8))
          refine lv_iconst (v := 0) hx hb d_md_goesOn_205 (by decide) ?_
          refine lv_istore_n hx hb d_md_goesOn_206 rfl hl (by decide) rfl (fun ls hl => ?_)
          have hl : lv_has ls 8 [(3, .int 0), (5, .int (nI wz)), (0, .ref na), (1, .int (nI sum)), (2, .int (nI (2 ^ n - 1))), (4, .int (nI (sx_st F0 (fun i => q0 (n - 1 - i)) n)))] := hl
          refine lv_iinc (k := 1) (v := nI (wz + 1)) hx hb d_md_goesOn_207 hl rfl ((nI_succ wz).symm) (by decide) rfl (fun ls hl => ?_)
          have hl : lv_has ls 8 [(5, .int (nI (wz + 1))), (3, .int 0), (0, .ref na), (1, .int (nI sum)), (2, .int (nI (2 ^ n - 1))), (4, .int (nI (sx_st F0 (fun i => q0 (n - 1 - i)) n)))] := hl
          refine lv_goto hx hb d_md_goesOn_210 rfl ?_
          have hl := lv_sub hl [0, 1, 2, 3, 4, 5] (l' := [(5, .int (nI (wz + 1))), (3, .int 0), (0, .ref na), (1, .int (nI sum)), (2, .int (nI (2 ^ n - 1))), (4, .int (nI (sx_st F0 (fun i => q0 (n - 1 - i)) n)))]) rfl
          exact ih_a (wz + 1, 0, a2, fun i => if i = wz then cur else aft i) ls H _ (by show 2 ^ n - (wz + 1) < 2 ^ n - wz; omega) ⟨by show wz + 1 ≤ 2 ^ n; omega, Or.inr ⟨rfl, fun h => (go_Gs.mp h).elim hg0 (fun ⟨v9, h1, _⟩ => hnone v9 h1)⟩, haf9, hl, hP, hD, hS⟩
        ·
          obtain ⟨v1, hcv1, hv1b, hv1⟩ : ∃ u, cur = some u ∧ u ≤ Bd + 5 ∧ a2 wz = nI u := hcv.elim (fun q => absurd q.2 g8) id
          have hp9 := hp2 _ hyN
          refine lv_aload_n hx hb d_md_goesOn_174 rfl (lv_at hl 2 rfl) ?_
          refine gf_md_73 hx hb hg hown hK hP 0 rfl rfl d_md_goesOn_175 ?_
          refine lv_iload hx hb d_md_goesOn_178 (lv_at hl 0 rfl) ?_
          refine va_iald hx hb hK hP 4 1 rfl rfl (vp_in_nI (show wz < 64 by omega) (by decide)) d_md_goesOn_180 ?_
          refine lv_topi (fun y4 ey4 => ?_)
          have ey4 : y4 = nI v1 := ey4.trans (by rw [nI_clamp (show wz < 2 ^ 31 by omega)]; exact hv1)
          subst ey4
          refine lv_aload_n hx hb d_md_goesOn_181 rfl (lv_at hl 2 rfl) ?_
          refine gf_md_46 hx hb hg hown hK hP 0 rfl rfl d_md_goesOn_182 ?_
          refine lv_iload hx hb d_md_goesOn_185 (lv_at hl 5 rfl) ?_
          refine lv_aload_n hx hb d_md_goesOn_187 rfl (lv_at hl 2 rfl) ?_
          refine gf_md_86 hx hb hg hown hK hP 0 rfl rfl d_md_goesOn_188 ?_
          refine lv_ishl hx hb d_md_goesOn_191 ?_
          refine lv_topi (fun y5 ey5 => ?_)
          have ey5 : y5 = nI (2 ^ n * (sx_st F0 (fun i => q0 (n - 1 - i)) n)) := ey5.trans (bt_shl hn (by omega))
          subst ey5
          refine lv_iload hx hb d_md_goesOn_192 (lv_at hl 0 rfl) ?_
          refine lv_ior hx hb d_md_goesOn_194 ?_
          refine lv_topi (fun y6 ey6 => ?_)
          have ey6 : y6 = nI (dj_enc n F0 q0 wz) := ey6.trans (bt_or2 hn (by have := hyN; unfold dj_enc at this; omega) hwl)
          subst ey6
          refine va_iald hx hb hK hP 7 1 rfl rfl (vp_in_nI (Nat.lt_of_lt_of_le hyN hN9) (by decide)) d_md_goesOn_195 ?_
          refine lv_topi (fun y7 ey7 => ?_)
          have ey7 : y7 = nI (pay (dj_enc n F0 q0 wz)) := ey7.trans (by rw [nI_clamp (show dj_enc n F0 q0 wz < 2 ^ 31 by omega)]; exact hL _ hyN)
          subst ey7
          refine lv_iadd hx hb d_md_goesOn_196 ?_
          refine lv_topi (fun y8 ey8 => ?_)
          have ey8 : y8 = nI (v1 + pay (dj_enc n F0 q0 wz)) := ey8.trans (nI_add _ _)
          subst ey8
          refine lv_iload_n hx hb d_md_goesOn_197 rfl (lv_at hl 3 rfl) ?_
          refine lv_icmp_ne hx hb d_md_goesOn_198 rfl (fun gb => ?_) (fun gb => ?_)
          ·
            have hne9 : ¬ v1 + pay (dj_enc n F0 q0 wz) = sum := fun h => gb (by rw [h])
            refine lv_iconst (v := 0) hx hb d_md_goesOn_205 (by decide) ?_
            refine lv_istore_n hx hb d_md_goesOn_206 rfl hl (by decide) rfl (fun ls hl => ?_)
            have hl : lv_has ls 8 [(3, .int 0), (5, .int (nI wz)), (0, .ref na), (1, .int (nI sum)), (2, .int (nI (2 ^ n - 1))), (4, .int (nI (sx_st F0 (fun i => q0 (n - 1 - i)) n)))] := hl
            refine lv_iinc (k := 1) (v := nI (wz + 1)) hx hb d_md_goesOn_207 hl rfl ((nI_succ wz).symm) (by decide) rfl (fun ls hl => ?_)
            have hl : lv_has ls 8 [(5, .int (nI (wz + 1))), (3, .int 0), (0, .ref na), (1, .int (nI sum)), (2, .int (nI (2 ^ n - 1))), (4, .int (nI (sx_st F0 (fun i => q0 (n - 1 - i)) n)))] := hl
            refine lv_goto hx hb d_md_goesOn_210 rfl ?_
            have hl := lv_sub hl [0, 1, 2, 3, 4, 5] (l' := [(5, .int (nI (wz + 1))), (3, .int 0), (0, .ref na), (1, .int (nI sum)), (2, .int (nI (2 ^ n - 1))), (4, .int (nI (sx_st F0 (fun i => q0 (n - 1 - i)) n)))]) rfl
            exact ih_a (wz + 1, 0, a2, fun i => if i = wz then cur else aft i) ls H _ (by show 2 ^ n - (wz + 1) < 2 ^ n - wz; omega) ⟨by show wz + 1 ≤ 2 ^ n; omega, Or.inr ⟨rfl, fun h => (go_Gs.mp h).elim hg0 (fun ⟨v9, h1, h2⟩ => hne9 (by rw [hcv1] at h1; rw [← Option.some.inj h1] at h2; exact h2))⟩, haf9, hl, hP, hD, hS⟩
          ·
            have heq9 : v1 + pay (dj_enc n F0 q0 wz) = sum := (nI_eq (by omega) (by omega)).mp gb
            refine lv_iconst (v := 1) hx hb d_md_goesOn_201 (by decide) ?_
            refine lv_goto hx hb d_md_goesOn_202 rfl ?_
            refine lv_istore_n hx hb d_md_goesOn_206 rfl hl (by decide) rfl (fun ls hl => ?_)
            have hl : lv_has ls 8 [(3, .int 1), (5, .int (nI wz)), (0, .ref na), (1, .int (nI sum)), (2, .int (nI (2 ^ n - 1))), (4, .int (nI (sx_st F0 (fun i => q0 (n - 1 - i)) n)))] := hl
            refine lv_iinc (k := 1) (v := nI (wz + 1)) hx hb d_md_goesOn_207 hl rfl ((nI_succ wz).symm) (by decide) rfl (fun ls hl => ?_)
            have hl : lv_has ls 8 [(5, .int (nI (wz + 1))), (3, .int 1), (0, .ref na), (1, .int (nI sum)), (2, .int (nI (2 ^ n - 1))), (4, .int (nI (sx_st F0 (fun i => q0 (n - 1 - i)) n)))] := hl
            refine lv_goto hx hb d_md_goesOn_210 rfl ?_
            have hl := lv_sub hl [0, 1, 2, 3, 4, 5] (l' := [(5, .int (nI (wz + 1))), (3, .int 1), (0, .ref na), (1, .int (nI sum)), (2, .int (nI (2 ^ n - 1))), (4, .int (nI (sx_st F0 (fun i => q0 (n - 1 - i)) n)))]) rfl
            exact ih_a (wz + 1, 1, a2, fun i => if i = wz then cur else aft i) ls H _ (by show 2 ^ n - (wz + 1) < 2 ^ n - wz; omega) ⟨by show wz + 1 ≤ 2 ^ n; omega, Or.inl ⟨rfl, go_Gs.mpr (Or.inr ⟨v1, hcv1, heq9⟩)⟩, haf9, hl, hP, hD, hS⟩
    ·
      refine lv_aload_n hx hb d_md_goesOn_30 rfl (lv_at hl 2 rfl) ?_
      refine gf_md_73 hx hb hg hown hK hP 0 rfl rfl d_md_goesOn_31 ?_
      refine lv_iload hx hb d_md_goesOn_34 (lv_at hl 0 rfl) ?_
      refine lv_iconst (v := (-1)) hx hb d_md_goesOn_36 (by decide) ?_
      refine va_iast hx hb hK hP hD hS 4 1 rfl rfl (vp_in_nI (show wz < 64 by omega) (by decide)) d_md_goesOn_37 (fun H locs hP hD hS => ?_)
      rw [nI_clamp (show wz < 2 ^ 31 by omega)] at hP hD
      have hP : va_P D kls [(na, .inr (7, [.int (nI W0), .int (nI H0), .ref nwalls, .int (nI n), .ref nstarts, .ref ngoals, .ref nlaid, .ref nisTold, .int (nI F0), .ref ncells, .ref nindex, .ref nnear, .ref nnearCount, .ref npay, .ref ndone, .ref npile, .int vtop, .ref nnow, .ref nthen, .ref nchoice, .int vfound, .int vlength, .ref nplan, .ref ncosts, .ref npaid, .ref nafter, .ref nfar, .ref nmany, .ref nnext, .int vsort, .int vwhen, .int vone, .int vtwo])), (nthen, .inl (cI, 6, .inl tf)), (nnow, .inl (cI, 6, .inl qf)), (npaid, .inl (cI, 64, .inl pd)), (nafter, .inl (cI, 64, .inl (upd a1 wz (-1)))), (ngoals, .inl (cI, 25, .inl gf)), (nindex, .inl (cI, 25, .inl xf)), (npay, .inl (cI, 512000, .inl pf))] H := hP
      have hD : va_D A [(na, .inr (7, [.int (nI W0), .int (nI H0), .ref nwalls, .int (nI n), .ref nstarts, .ref ngoals, .ref nlaid, .ref nisTold, .int (nI F0), .ref ncells, .ref nindex, .ref nnear, .ref nnearCount, .ref npay, .ref ndone, .ref npile, .int vtop, .ref nnow, .ref nthen, .ref nchoice, .int vfound, .int vlength, .ref nplan, .ref ncosts, .ref npaid, .ref nafter, .ref nfar, .ref nmany, .ref nnext, .int vsort, .int vwhen, .int vone, .int vtwo])), (nthen, .inl (cI, 6, .inl tf)), (nnow, .inl (cI, 6, .inl qf)), (npaid, .inl (cI, 64, .inl pd)), (nafter, .inl (cI, 64, .inl (upd a1 wz (-1)))), (ngoals, .inl (cI, 25, .inl gf)), (nindex, .inl (cI, 25, .inl xf)), (npay, .inl (cI, 512000, .inl pf))] := hD
      refine lv_iconst (v := 0) hx hb d_md_goesOn_38 (by decide) ?_
      refine lv_istore hx hb d_md_goesOn_39 hl (by decide) rfl (fun ls hl => ?_)
      have hl : lv_has ls 8 [(6, .int 0), (5, .int (nI wz)), (3, .int gd), (0, .ref na), (1, .int (nI sum)), (2, .int (nI (2 ^ n - 1))), (4, .int (nI (sx_st F0 (fun i => q0 (n - 1 - i)) n)))] := hl
      have hl := lv_sub hl [0, 1, 2, 3, 4, 5, 6] (l' := [(6, .int (nI 0)), (5, .int (nI wz)), (3, .int gd), (0, .ref na), (1, .int (nI sum)), (2, .int (nI (2 ^ n - 1))), (4, .int (nI (sx_st F0 (fun i => q0 (n - 1 - i)) n)))]) rfl
      refine mt_loop (ι := Nat × (Nat → Int32) × (Option Nat)) (I := fun ix ls H locs => ((ix.1) ≤ wz + 1) ∧ (go_v (Bd + 5) (ix.2.2) ((ix.2.1) wz)) ∧ (go_S n gi p0 q0 paid (ix.1) wz (ix.2.2)) ∧ (∀ i, i < wz → (ix.2.1) i = a1 i) ∧ lv_has ls 8 [(6, .int (nI (ix.1))), (5, .int (nI wz)), (3, .int gd), (0, .ref na), (1, .int (nI sum)), (2, .int (nI (2 ^ n - 1))), (4, .int (nI (sx_st F0 (fun i => q0 (n - 1 - i)) n)))] ∧ va_P D kls [(na, .inr (7, [.int (nI W0), .int (nI H0), .ref nwalls, .int (nI n), .ref nstarts, .ref ngoals, .ref nlaid, .ref nisTold, .int (nI F0), .ref ncells, .ref nindex, .ref nnear, .ref nnearCount, .ref npay, .ref ndone, .ref npile, .int vtop, .ref nnow, .ref nthen, .ref nchoice, .int vfound, .int vlength, .ref nplan, .ref ncosts, .ref npaid, .ref nafter, .ref nfar, .ref nmany, .ref nnext, .int vsort, .int vwhen, .int vone, .int vtwo])), (nthen, .inl (cI, 6, .inl tf)), (nnow, .inl (cI, 6, .inl qf)), (npaid, .inl (cI, 64, .inl pd)), (nafter, .inl (cI, 64, .inl (ix.2.1))), (ngoals, .inl (cI, 25, .inl gf)), (nindex, .inl (cI, 25, .inl xf)), (npay, .inl (cI, 512000, .inl pf))] H ∧ va_D A [(na, .inr (7, [.int (nI W0), .int (nI H0), .ref nwalls, .int (nI n), .ref nstarts, .ref ngoals, .ref nlaid, .ref nisTold, .int (nI F0), .ref ncells, .ref nindex, .ref nnear, .ref nnearCount, .ref npay, .ref ndone, .ref npile, .int vtop, .ref nnow, .ref nthen, .ref nchoice, .int vfound, .int vlength, .ref nplan, .ref ncosts, .ref npaid, .ref nafter, .ref nfar, .ref nmany, .ref nnext, .int vsort, .int vwhen, .int vone, .int vtwo])), (nthen, .inl (cI, 6, .inl tf)), (nnow, .inl (cI, 6, .inl qf)), (npaid, .inl (cI, 64, .inl pd)), (nafter, .inl (cI, 64, .inl (ix.2.1))), (ngoals, .inl (cI, 25, .inl gf)), (nindex, .inl (cI, 25, .inl xf)), (npay, .inl (cI, 512000, .inl pf))] ∧ va_S A s.heap H locs) (μ := fun ix => wz + 1 - (ix.1)) ?_ (0, upd a1 wz (-1), none) ls H _ ⟨Nat.zero_le _, Or.inl ⟨rfl, pk_us⟩, go_S0, fun i hi => pk_un (by omega), hl, hP, hD, hS⟩
      clear hl hP hD hS
      intro i_b ls H locs ⟨hhz, hcv, hcs, hco, hl, hP, hD, hS⟩ ih_b
      obtain ⟨hz, a2, cur⟩ := i_b
      have hhz : hz ≤ wz + 1 := hhz
      have hcv : go_v (Bd + 5) cur (a2 wz) := hcv
      have hcs : go_S n gi p0 q0 paid hz wz cur := hcs
      have hco : ∀ i, i < wz → a2 i = a1 i := hco
      have hl : lv_has ls 8 [(6, .int (nI hz)), (5, .int (nI wz)), (3, .int gd), (0, .ref na), (1, .int (nI sum)), (2, .int (nI (2 ^ n - 1))), (4, .int (nI (sx_st F0 (fun i => q0 (n - 1 - i)) n)))] := hl
      have hP : va_P D kls [(na, .inr (7, [.int (nI W0), .int (nI H0), .ref nwalls, .int (nI n), .ref nstarts, .ref ngoals, .ref nlaid, .ref nisTold, .int (nI F0), .ref ncells, .ref nindex, .ref nnear, .ref nnearCount, .ref npay, .ref ndone, .ref npile, .int vtop, .ref nnow, .ref nthen, .ref nchoice, .int vfound, .int vlength, .ref nplan, .ref ncosts, .ref npaid, .ref nafter, .ref nfar, .ref nmany, .ref nnext, .int vsort, .int vwhen, .int vone, .int vtwo])), (nthen, .inl (cI, 6, .inl tf)), (nnow, .inl (cI, 6, .inl qf)), (npaid, .inl (cI, 64, .inl pd)), (nafter, .inl (cI, 64, .inl a2)), (ngoals, .inl (cI, 25, .inl gf)), (nindex, .inl (cI, 25, .inl xf)), (npay, .inl (cI, 512000, .inl pf))] H := hP
      have hD : va_D A [(na, .inr (7, [.int (nI W0), .int (nI H0), .ref nwalls, .int (nI n), .ref nstarts, .ref ngoals, .ref nlaid, .ref nisTold, .int (nI F0), .ref ncells, .ref nindex, .ref nnear, .ref nnearCount, .ref npay, .ref ndone, .ref npile, .int vtop, .ref nnow, .ref nthen, .ref nchoice, .int vfound, .int vlength, .ref nplan, .ref ncosts, .ref npaid, .ref nafter, .ref nfar, .ref nmany, .ref nnext, .int vsort, .int vwhen, .int vone, .int vtwo])), (nthen, .inl (cI, 6, .inl tf)), (nnow, .inl (cI, 6, .inl qf)), (npaid, .inl (cI, 64, .inl pd)), (nafter, .inl (cI, 64, .inl a2)), (ngoals, .inl (cI, 25, .inl gf)), (nindex, .inl (cI, 25, .inl xf)), (npay, .inl (cI, 512000, .inl pf))] := hD
      refine lv_iload hx hb d_md_goesOn_41 (lv_at hl 0 rfl) ?_
      refine lv_iload hx hb d_md_goesOn_43 (lv_at hl 1 rfl) ?_
      refine lv_icmp_gt hx hb d_md_goesOn_45 rfl (fun g3 => ?_) (fun g3 => ?_)
      ·
        have g3z : wz < hz := by rcases Nat.lt_or_ge wz hz with h | h; exact h; exact absurd g3 (nI_nlt h (by omega))
        have hl := lv_sub hl [1, 2, 3, 4, 5, 6] (l' := [(5, .int (nI wz)), (3, .int gd), (0, .ref na), (1, .int (nI sum)), (2, .int (nI (2 ^ n - 1))), (4, .int (nI (sx_st F0 (fun i => q0 (n - 1 - i)) n)))]) rfl
        exact jp_j (a2, cur, hz) ls H _ ⟨hcv, hcs, hco, Or.inl g3z, hl, hP, hD, hS⟩
      ·
        have g3z : hz ≤ wz := by rcases Nat.lt_or_ge wz hz with h | h; exact absurd (nI_lt h (by omega)) g3; exact h
        refine lv_aload_n hx hb d_md_goesOn_48 rfl (lv_at hl 3 rfl) ?_
        refine lv_iload hx hb d_md_goesOn_49 (lv_at hl 1 rfl) ?_
        refine lv_aload_n hx hb d_md_goesOn_51 rfl (lv_at hl 3 rfl) ?_
        refine gf_md_58 hx hb hg hown hK hP 0 rfl rfl d_md_goesOn_52 ?_
        have hPc := hP.sub (ws' := [(na, .inr (7, [.int (nI W0), .int (nI H0), .ref nwalls, .int (nI n), .ref nstarts, .ref ngoals, .ref nlaid, .ref nisTold, .int (nI F0), .ref ncells, .ref nindex, .ref nnear, .ref nnearCount, .ref npay, .ref ndone, .ref npile, .int vtop, .ref nnow, .ref nthen, .ref nchoice, .int vfound, .int vlength, .ref nplan, .ref ncosts, .ref npaid, .ref nafter, .ref nfar, .ref nmany, .ref nnext, .int vsort, .int vwhen, .int vone, .int vtwo])), (nthen, .inl (cI, 6, .inl tf)), (ngoals, .inl (cI, 25, .inl gf)), (nindex, .inl (cI, 25, .inl xf))]) [0, 1, 5, 6] rfl
        have hDc := hD.sub (ws' := [(na, .inr (7, [.int (nI W0), .int (nI H0), .ref nwalls, .int (nI n), .ref nstarts, .ref ngoals, .ref nlaid, .ref nisTold, .int (nI F0), .ref ncells, .ref nindex, .ref nnear, .ref nnearCount, .ref npay, .ref ndone, .ref npile, .int vtop, .ref nnow, .ref nthen, .ref nchoice, .int vfound, .int vlength, .ref nplan, .ref ncosts, .ref npaid, .ref nafter, .ref nfar, .ref nmany, .ref nnext, .int vsort, .int vwhen, .int vone, .int vtwo])), (nthen, .inl (cI, 6, .inl tf)), (ngoals, .inl (cI, 25, .inl gf)), (nindex, .inl (cI, 25, .inl xf))]) [0, 1, 5, 6] (by decide) rfl
        refine vp_callSi (W.runV (As := [.int (nI wz), .ref nthen]) (rest := []) ⟨hx, hb, hml, hown, hg⟩ (c_md_mayRest l D cZ cI cJ cII na nwalls nstarts ngoals nlaid nisTold ncells nindex nnear nnearCount npay ndone npile nnow nthen nchoice nplan ncosts npaid nafter nfar nmany nnext (nI F0) vtop vfound vlength vsort vwhen vone vtwo _ _ _ nthen tf gf xf wz q0 gl gi H.size hn (by omega) (fun i hi => ⟨hq i hi, by have := hqV.1 i hi; omega⟩) hgl) (cwV 2 hg gv_md_179 rfl rfl rfl (by decide +kernel) ⟨Nat.le_of_ble_eq_true rfl, Nat.le_of_ble_eq_true rfl⟩) ⟨mt_bl, va_recv (q0 := 0) (ci := 7) hK hP rfl rfl, mt_pr hX hPc hK hDc⟩ rfl rfl hl.1 rfl (lv_room (Nat.le_of_ble_eq_true rfl)) d_md_goesOn_55 ⟨Nat.le_of_ble_eq_true rfl, Nat.le_of_ble_eq_true rfl⟩) (fun r9 hr9 => ?_)
        have hr9 : (r9 = 1 ∧ go_M n gi q0 wz) ∨ (r9 = 0 ∧ ¬ go_M n gi q0 wz) := hr9
        have hmr0 := hr9
        refine lv_if_eq hx hb d_md_goesOn_58 rfl (fun g4 => ?_) (fun g4 => ?_)
        ·
          have hl := lv_sub hl [1, 2, 3, 4, 5, 6] (l' := [(5, .int (nI wz)), (3, .int gd), (0, .ref na), (1, .int (nI sum)), (2, .int (nI (2 ^ n - 1))), (4, .int (nI (sx_st F0 (fun i => q0 (n - 1 - i)) n)))]) rfl
          exact jp_j (a2, cur, hz) ls H _ ⟨hcv, hcs, hco, Or.inr (hmr0.elim (fun q => absurd (q.1.symm.trans g4) (by decide)) (fun q => q.2)), hl, hP, hD, hS⟩
        ·
          have hmr := hmr0.elim (fun q => q.2) (fun q => absurd q.1 g4)
          refine lv_iload hx hb d_md_goesOn_61 (lv_at hl 0 rfl) ?_
          refine lv_iload hx hb d_md_goesOn_63 (lv_at hl 1 rfl) ?_
          refine lv_iconst (v := (-1)) hx hb d_md_goesOn_65 (by decide) ?_
          refine lv_ixor hx hb d_md_goesOn_66 ?_
          refine lv_iand hx hb d_md_goesOn_67 ?_
          refine lv_if_ne hx hb d_md_goesOn_68 rfl (fun g5 => ?_) (fun g5 => ?_)
          ·
            have hsub : ¬ hz &&& wz = hz := fun h => g5 ((bt_sub hz (by omega) wz (by omega)).mpr h)
            refine lv_iinc (k := 0) (v := nI (hz + 1)) hx hb d_md_goesOn_153 hl rfl ((nI_succ hz).symm) (by decide) rfl (fun ls hl => ?_)
            have hl : lv_has ls 8 [(6, .int (nI (hz + 1))), (5, .int (nI wz)), (3, .int gd), (0, .ref na), (1, .int (nI sum)), (2, .int (nI (2 ^ n - 1))), (4, .int (nI (sx_st F0 (fun i => q0 (n - 1 - i)) n)))] := hl
            refine lv_goto hx hb d_md_goesOn_156 rfl ?_
            have hl := lv_sub hl [0, 1, 2, 3, 4, 5, 6] (l' := [(6, .int (nI (hz + 1))), (5, .int (nI wz)), (3, .int gd), (0, .ref na), (1, .int (nI sum)), (2, .int (nI (2 ^ n - 1))), (4, .int (nI (sx_st F0 (fun i => q0 (n - 1 - i)) n)))]) rfl
            exact ih_b (hz + 1, a2, cur) ls H _ (by show wz + 1 - (hz + 1) < wz + 1 - hz; omega) ⟨by show hz + 1 ≤ wz + 1; omega, hcv, go_Sskip hcs (fun q => hsub q.1), hco, hl, hP, hD, hS⟩
          ·
            have hsub : hz &&& wz = hz := (bt_sub hz (by omega) wz (by omega)).mp g5
            have hpcl := dj_pc_le hz n
            refine lv_aload_n hx hb d_md_goesOn_71 rfl (lv_at hl 3 rfl) ?_
            refine gf_md_70 hx hb hg hown hK hP 0 rfl rfl d_md_goesOn_72 ?_
            refine lv_iload hx hb d_md_goesOn_75 (lv_at hl 0 rfl) ?_
            refine va_iald hx hb hK hP 3 1 rfl rfl (vp_in_nI (show hz < 64 by omega) (by decide)) d_md_goesOn_77 ?_
            refine lv_topi (fun y10 ey10 => ?_)
            have ey10 : y10 = pd hz := ey10.trans (by rw [nI_clamp (show hz < 2 ^ 31 by omega)])
            subst ey10
            refine lv_iconst (v := (-1)) hx hb d_md_goesOn_78 (by decide) ?_
            refine lv_icmp_eq hx hb d_md_goesOn_79 rfl (fun g6 => ?_) (fun g6 => ?_)
            ·
              have hnp : ¬ ∃ u, paid hz = some u := fun ⟨u, hu⟩ => (hpd hz (by omega)).elim (fun q => by rw [q.1] at hu; cases hu) (fun ⟨u2, _, q2, q3⟩ => mt_nmk (by omega) (q3.symm.trans g6))
              refine lv_iinc (k := 0) (v := nI (hz + 1)) hx hb d_md_goesOn_153 hl rfl ((nI_succ hz).symm) (by decide) rfl (fun ls hl => ?_)
              have hl : lv_has ls 8 [(6, .int (nI (hz + 1))), (5, .int (nI wz)), (3, .int gd), (0, .ref na), (1, .int (nI sum)), (2, .int (nI (2 ^ n - 1))), (4, .int (nI (sx_st F0 (fun i => q0 (n - 1 - i)) n)))] := hl
              refine lv_goto hx hb d_md_goesOn_156 rfl ?_
              have hl := lv_sub hl [0, 1, 2, 3, 4, 5, 6] (l' := [(6, .int (nI (hz + 1))), (5, .int (nI wz)), (3, .int gd), (0, .ref na), (1, .int (nI sum)), (2, .int (nI (2 ^ n - 1))), (4, .int (nI (sx_st F0 (fun i => q0 (n - 1 - i)) n)))]) rfl
              exact ih_b (hz + 1, a2, cur) ls H _ (by show wz + 1 - (hz + 1) < wz + 1 - hz; omega) ⟨by show hz + 1 ≤ wz + 1; omega, hcv, go_Sskip hcs (fun q => hnp q.2.1), hco, hl, hP, hD, hS⟩
            ·
              obtain ⟨u9, hpz, hub, hpv⟩ : ∃ u, paid hz = some u ∧ u ≤ Bd ∧ pd hz = nI u := (hpd hz (by omega)).elim (fun q => absurd q.2 g6) id
              refine lv_aload_n hx hb d_md_goesOn_82 rfl (lv_at hl 3 rfl) ?_
              refine lv_iload hx hb d_md_goesOn_83 (lv_at hl 0 rfl) ?_
              have hPc := hP.sub (ws' := [(na, .inr (7, [.int (nI W0), .int (nI H0), .ref nwalls, .int (nI n), .ref nstarts, .ref ngoals, .ref nlaid, .ref nisTold, .int (nI F0), .ref ncells, .ref nindex, .ref nnear, .ref nnearCount, .ref npay, .ref ndone, .ref npile, .int vtop, .ref nnow, .ref nthen, .ref nchoice, .int vfound, .int vlength, .ref nplan, .ref ncosts, .ref npaid, .ref nafter, .ref nfar, .ref nmany, .ref nnext, .int vsort, .int vwhen, .int vone, .int vtwo])), (nthen, .inl (cI, 6, .inl tf)), (nnow, .inl (cI, 6, .inl qf))]) [0, 1, 2] rfl
              have hDc := hD.sub (ws' := [(na, .inr (7, [.int (nI W0), .int (nI H0), .ref nwalls, .int (nI n), .ref nstarts, .ref ngoals, .ref nlaid, .ref nisTold, .int (nI F0), .ref ncells, .ref nindex, .ref nnear, .ref nnearCount, .ref npay, .ref ndone, .ref npile, .int vtop, .ref nnow, .ref nthen, .ref nchoice, .int vfound, .int vlength, .ref nplan, .ref ncosts, .ref npaid, .ref nafter, .ref nfar, .ref nmany, .ref nnext, .int vsort, .int vwhen, .int vone, .int vtwo])), (nthen, .inl (cI, 6, .inl tf)), (nnow, .inl (cI, 6, .inl qf))]) [0, 1, 2] (by decide) rfl
              refine vp_callSi (W.runV (As := [.int (nI hz)]) (rest := []) ⟨hx, hb, hml, hown, hg⟩ (c_md_stays l D cZ cI cJ cII na nwalls nstarts ngoals nlaid nisTold ncells nindex nnear nnearCount npay ndone npile nnow nthen nchoice nplan ncosts npaid nafter nfar nmany nnext (nI F0) vtop vfound vlength vsort vwhen vone vtwo _ _ _ tf qf hz p0 q0 H.size hn (by omega) hp (fun i hi => ⟨hq i hi, by have := hqV.1 i hi; omega⟩)) (cwV 1 hg gv_md_190 rfl rfl rfl (by decide +kernel) ⟨Nat.le_of_ble_eq_true rfl, Nat.le_of_ble_eq_true rfl⟩) ⟨mt_bl, va_recv (q0 := 0) (ci := 7) hK hP rfl rfl, mt_pr hX hPc hK hDc⟩ rfl rfl hl.1 rfl (lv_room (Nat.le_of_ble_eq_true rfl)) d_md_goesOn_85 ⟨Nat.le_of_ble_eq_true rfl, Nat.le_of_ble_eq_true rfl⟩) (fun r11 hr11 => ?_)
              have hr11 : (r11 = 1 ∧ go_M n p0 q0 hz) ∨ (r11 = 0 ∧ ¬ go_M n p0 q0 hz) := hr11
              have hsy0 := hr11
              refine lv_if_eq hx hb d_md_goesOn_88 rfl (fun g7 => ?_) (fun g7 => ?_)
              ·
                have hstay := hsy0.elim (fun q => absurd (q.1.symm.trans g7) (by decide)) (fun q => q.2)
                refine lv_iinc (k := 0) (v := nI (hz + 1)) hx hb d_md_goesOn_153 hl rfl ((nI_succ hz).symm) (by decide) rfl (fun ls hl => ?_)
                have hl : lv_has ls 8 [(6, .int (nI (hz + 1))), (5, .int (nI wz)), (3, .int gd), (0, .ref na), (1, .int (nI sum)), (2, .int (nI (2 ^ n - 1))), (4, .int (nI (sx_st F0 (fun i => q0 (n - 1 - i)) n)))] := hl
                refine lv_goto hx hb d_md_goesOn_156 rfl ?_
                have hl := lv_sub hl [0, 1, 2, 3, 4, 5, 6] (l' := [(6, .int (nI (hz + 1))), (5, .int (nI wz)), (3, .int gd), (0, .ref na), (1, .int (nI sum)), (2, .int (nI (2 ^ n - 1))), (4, .int (nI (sx_st F0 (fun i => q0 (n - 1 - i)) n)))]) rfl
                exact ih_b (hz + 1, a2, cur) ls H _ (by show wz + 1 - (hz + 1) < wz + 1 - hz; omega) ⟨by show hz + 1 ≤ wz + 1; omega, hcv, go_Sskip hcs (fun q => hstay q.2.2), hco, hl, hP, hD, hS⟩
              ·
                have hstay := hsy0.elim (fun q => q.2) (fun q => absurd q.1 g7)
                refine lv_aload_n hx hb d_md_goesOn_91 rfl (lv_at hl 3 rfl) ?_
                refine gf_md_70 hx hb hg hown hK hP 0 rfl rfl d_md_goesOn_92 ?_
                refine lv_iload hx hb d_md_goesOn_95 (lv_at hl 0 rfl) ?_
                refine va_iald hx hb hK hP 3 1 rfl rfl (vp_in_nI (show hz < 64 by omega) (by decide)) d_md_goesOn_97 ?_
                refine lv_topi (fun y12 ey12 => ?_)
                have ey12 : y12 = nI u9 := ey12.trans (by rw [nI_clamp (show hz < 2 ^ 31 by omega)]; exact hpv)
                subst ey12
                refine lv_aload_n hx hb d_md_goesOn_98 rfl (lv_at hl 3 rfl) ?_
                refine gf_md_86 hx hb hg hown hK hP 0 rfl rfl d_md_goesOn_99 ?_
                refine lv_iadd hx hb d_md_goesOn_102 ?_
                refine lv_topi (fun y13 ey13 => ?_)
                have ey13 : y13 = nI (u9 + n) := ey13.trans (nI_add _ _)
                subst ey13
                refine lv_iload hx hb d_md_goesOn_103 (lv_at hl 0 rfl) ?_
                have hPc := hP.sub (ws' := []) [] rfl
                have hDc := hD.sub (ws' := []) [] (by decide) rfl
                refine vp_callSi (W.runS (As := [.int (nI hz)]) (rest := [.int (nI (u9 + n))]) ⟨hx, hb, hml, hown, hg⟩ (c_md_bits l D cZ cI cJ cII hz n H.size hn (by omega)) ⟨callB_of 1 hg gg_md_154 rfl rfl rfl (hg _ gi_md_154) (hg _ gl_md_154) (by decide +kernel) ⟨Nat.le_of_ble_eq_true rfl, Nat.le_of_ble_eq_true rfl⟩, hg _ gt_md_154⟩ ⟨mt_bl, mt_pr hX hPc hK hDc⟩ rfl rfl hl.1 rfl (lv_room (Nat.le_of_ble_eq_true rfl)) d_md_goesOn_105 ⟨Nat.le_of_ble_eq_true rfl, Nat.le_of_ble_eq_true rfl⟩) (fun r14 hr14 => ?_)
                have hr14 : r14 = nI (dj_pc hz n) := hr14
                have hr14 : r14 = nI (dj_pc hz n) := hr14
                subst hr14
                refine lv_isub hx hb d_md_goesOn_108 ?_
                refine lv_topi (fun y15 ey15 => ?_)
                have ey15 : y15 = nI (u9 + (n - dj_pc hz n)) := ey15.trans (by rw [pk_sub (by omega)]; congr 1; omega)
                subst ey15
                refine lv_istore hx hb d_md_goesOn_109 hl (by decide) rfl (fun ls hl => ?_)
                have hl : lv_has ls 8 [(7, .int (nI (u9 + (n - dj_pc hz n)))), (6, .int (nI hz)), (5, .int (nI wz)), (3, .int gd), (0, .ref na), (1, .int (nI sum)), (2, .int (nI (2 ^ n - 1))), (4, .int (nI (sx_st F0 (fun i => q0 (n - 1 - i)) n)))] := hl
                refine lv_aload_n hx hb d_md_goesOn_111 rfl (lv_at hl 4 rfl) ?_
                refine gf_md_73 hx hb hg hown hK hP 0 rfl rfl d_md_goesOn_112 ?_
                refine lv_iload hx hb d_md_goesOn_115 (lv_at hl 2 rfl) ?_
                refine lv_aload_n hx hb d_md_goesOn_117 rfl (lv_at hl 4 rfl) ?_
                refine gf_md_73 hx hb hg hown hK hP 0 rfl rfl d_md_goesOn_118 ?_
                refine lv_iload hx hb d_md_goesOn_121 (lv_at hl 2 rfl) ?_
                refine va_iald hx hb hK hP 4 1 rfl rfl (vp_in_nI (show wz < 64 by omega) (by decide)) d_md_goesOn_123 ?_
                refine lv_topi (fun y16 ey16 => ?_)
                have ey16 : y16 = a2 wz := ey16.trans (by rw [nI_clamp (show wz < 2 ^ 31 by omega)])
                subst ey16
                refine lv_iconst (v := (-1)) hx hb d_md_goesOn_124 (by decide) ?_
                refine lv_icmp_eq hx hb d_md_goesOn_125 rfl (fun g8 => ?_) (fun g8 => ?_)
                ·
                  have hless : ∀ v, cur = some v → u9 + (n - dj_pc hz n) < v := fun v h => hcv.elim (fun q => by rw [q.1] at h; cases h) (fun ⟨u2, q1, q2, q3⟩ => absurd (q3.symm.trans g8) (mt_nmk (by omega)))
                  refine lv_iload hx hb d_md_goesOn_140 (lv_at hl 0 rfl) ?_
                  refine lv_goto hx hb d_md_goesOn_142 rfl ?_
                  refine va_iast hx hb hK hP hD hS 4 1 rfl rfl (vp_in_nI (show wz < 64 by omega) (by decide)) d_md_goesOn_152 (fun H locs hP hD hS => ?_)
                  rw [nI_clamp (show wz < 2 ^ 31 by omega)] at hP hD
                  have hP : va_P D kls [(na, .inr (7, [.int (nI W0), .int (nI H0), .ref nwalls, .int (nI n), .ref nstarts, .ref ngoals, .ref nlaid, .ref nisTold, .int (nI F0), .ref ncells, .ref nindex, .ref nnear, .ref nnearCount, .ref npay, .ref ndone, .ref npile, .int vtop, .ref nnow, .ref nthen, .ref nchoice, .int vfound, .int vlength, .ref nplan, .ref ncosts, .ref npaid, .ref nafter, .ref nfar, .ref nmany, .ref nnext, .int vsort, .int vwhen, .int vone, .int vtwo])), (nthen, .inl (cI, 6, .inl tf)), (nnow, .inl (cI, 6, .inl qf)), (npaid, .inl (cI, 64, .inl pd)), (nafter, .inl (cI, 64, .inl (upd a2 wz (nI (u9 + (n - dj_pc hz n)))))), (ngoals, .inl (cI, 25, .inl gf)), (nindex, .inl (cI, 25, .inl xf)), (npay, .inl (cI, 512000, .inl pf))] H := hP
                  have hD : va_D A [(na, .inr (7, [.int (nI W0), .int (nI H0), .ref nwalls, .int (nI n), .ref nstarts, .ref ngoals, .ref nlaid, .ref nisTold, .int (nI F0), .ref ncells, .ref nindex, .ref nnear, .ref nnearCount, .ref npay, .ref ndone, .ref npile, .int vtop, .ref nnow, .ref nthen, .ref nchoice, .int vfound, .int vlength, .ref nplan, .ref ncosts, .ref npaid, .ref nafter, .ref nfar, .ref nmany, .ref nnext, .int vsort, .int vwhen, .int vone, .int vtwo])), (nthen, .inl (cI, 6, .inl tf)), (nnow, .inl (cI, 6, .inl qf)), (npaid, .inl (cI, 64, .inl pd)), (nafter, .inl (cI, 64, .inl (upd a2 wz (nI (u9 + (n - dj_pc hz n)))))), (ngoals, .inl (cI, 25, .inl gf)), (nindex, .inl (cI, 25, .inl xf)), (npay, .inl (cI, 512000, .inl pf))] := hD
                  refine lv_iinc (k := 1) (v := nI (hz + 1)) hx hb d_md_goesOn_153 hl rfl ((nI_succ hz).symm) (by decide) rfl (fun ls hl => ?_)
                  have hl : lv_has ls 8 [(6, .int (nI (hz + 1))), (7, .int (nI (u9 + (n - dj_pc hz n)))), (5, .int (nI wz)), (3, .int gd), (0, .ref na), (1, .int (nI sum)), (2, .int (nI (2 ^ n - 1))), (4, .int (nI (sx_st F0 (fun i => q0 (n - 1 - i)) n)))] := hl
                  refine lv_goto hx hb d_md_goesOn_156 rfl ?_
                  have hl := lv_sub hl [0, 2, 3, 4, 5, 6, 7] (l' := [(6, .int (nI (hz + 1))), (5, .int (nI wz)), (3, .int gd), (0, .ref na), (1, .int (nI sum)), (2, .int (nI (2 ^ n - 1))), (4, .int (nI (sx_st F0 (fun i => q0 (n - 1 - i)) n)))]) rfl
                  exact ih_b (hz + 1, upd a2 wz (nI (u9 + (n - dj_pc hz n))), some (u9 + (n - dj_pc hz n))) ls H _ (by show wz + 1 - (hz + 1) < wz + 1 - hz; omega) ⟨by show hz + 1 ≤ wz + 1; omega, Or.inr ⟨u9 + (n - dj_pc hz n), rfl, by omega, pk_us⟩, go_Sset hcs (by omega) hsub hpz hstay hmr hless, fun i hi => (pk_un (by have : i < wz := hi; omega)).trans (hco i hi), hl, hP, hD, hS⟩
                ·
                  obtain ⟨v1, hcv1, hv1b, hv1⟩ : ∃ u, cur = some u ∧ u ≤ Bd + 5 ∧ a2 wz = nI u := hcv.elim (fun q => absurd q.2 g8) id
                  refine lv_iload hx hb d_md_goesOn_128 (lv_at hl 0 rfl) ?_
                  refine lv_aload_n hx hb d_md_goesOn_130 rfl (lv_at hl 4 rfl) ?_
                  refine gf_md_73 hx hb hg hown hK hP 0 rfl rfl d_md_goesOn_131 ?_
                  refine lv_iload hx hb d_md_goesOn_134 (lv_at hl 2 rfl) ?_
                  refine va_iald hx hb hK hP 4 1 rfl rfl (vp_in_nI (show wz < 64 by omega) (by decide)) d_md_goesOn_136 ?_
                  refine lv_topi (fun y17 ey17 => ?_)
                  have ey17 : y17 = a2 wz := ey17.trans (by rw [nI_clamp (show wz < 2 ^ 31 by omega)])
                  subst ey17
                  refine lv_icmp_ge hx hb d_md_goesOn_137 rfl (fun g9 => ?_) (fun g9 => ?_)
                  ·
                    rw [hv1] at g9
                    have g9z : v1 ≤ u9 + (n - dj_pc hz n) := by rcases Nat.lt_or_ge (u9 + (n - dj_pc hz n)) v1 with h | h; exact absurd g9 (nI_ge h (by omega)); exact h
                    have hk8 : go_v (Bd + 5) cur (upd a2 wz (a2 wz) wz) := by rw [pk_us]; exact hcv
                    have hk9 : go_S n gi p0 q0 paid (hz + 1) wz cur := by rw [hcv1] at hcs ⊢; exact go_Skeep hcs hpz g9z
                    refine lv_aload_n hx hb d_md_goesOn_145 rfl (lv_at hl 4 rfl) ?_
                    refine gf_md_73 hx hb hg hown hK hP 0 rfl rfl d_md_goesOn_146 ?_
                    refine lv_iload hx hb d_md_goesOn_149 (lv_at hl 2 rfl) ?_
                    refine va_iald hx hb hK hP 4 1 rfl rfl (vp_in_nI (show wz < 64 by omega) (by decide)) d_md_goesOn_151 ?_
                    refine lv_topi (fun y18 ey18 => ?_)
                    have ey18 : y18 = a2 wz := ey18.trans (by rw [nI_clamp (show wz < 2 ^ 31 by omega)])
                    subst ey18
                    refine va_iast hx hb hK hP hD hS 4 1 rfl rfl (vp_in_nI (show wz < 64 by omega) (by decide)) d_md_goesOn_152 (fun H locs hP hD hS => ?_)
                    rw [nI_clamp (show wz < 2 ^ 31 by omega)] at hP hD
                    have hP : va_P D kls [(na, .inr (7, [.int (nI W0), .int (nI H0), .ref nwalls, .int (nI n), .ref nstarts, .ref ngoals, .ref nlaid, .ref nisTold, .int (nI F0), .ref ncells, .ref nindex, .ref nnear, .ref nnearCount, .ref npay, .ref ndone, .ref npile, .int vtop, .ref nnow, .ref nthen, .ref nchoice, .int vfound, .int vlength, .ref nplan, .ref ncosts, .ref npaid, .ref nafter, .ref nfar, .ref nmany, .ref nnext, .int vsort, .int vwhen, .int vone, .int vtwo])), (nthen, .inl (cI, 6, .inl tf)), (nnow, .inl (cI, 6, .inl qf)), (npaid, .inl (cI, 64, .inl pd)), (nafter, .inl (cI, 64, .inl (upd a2 wz (a2 wz)))), (ngoals, .inl (cI, 25, .inl gf)), (nindex, .inl (cI, 25, .inl xf)), (npay, .inl (cI, 512000, .inl pf))] H := hP
                    have hD : va_D A [(na, .inr (7, [.int (nI W0), .int (nI H0), .ref nwalls, .int (nI n), .ref nstarts, .ref ngoals, .ref nlaid, .ref nisTold, .int (nI F0), .ref ncells, .ref nindex, .ref nnear, .ref nnearCount, .ref npay, .ref ndone, .ref npile, .int vtop, .ref nnow, .ref nthen, .ref nchoice, .int vfound, .int vlength, .ref nplan, .ref ncosts, .ref npaid, .ref nafter, .ref nfar, .ref nmany, .ref nnext, .int vsort, .int vwhen, .int vone, .int vtwo])), (nthen, .inl (cI, 6, .inl tf)), (nnow, .inl (cI, 6, .inl qf)), (npaid, .inl (cI, 64, .inl pd)), (nafter, .inl (cI, 64, .inl (upd a2 wz (a2 wz)))), (ngoals, .inl (cI, 25, .inl gf)), (nindex, .inl (cI, 25, .inl xf)), (npay, .inl (cI, 512000, .inl pf))] := hD
                    refine lv_iinc (k := 1) (v := nI (hz + 1)) hx hb d_md_goesOn_153 hl rfl ((nI_succ hz).symm) (by decide) rfl (fun ls hl => ?_)
                    have hl : lv_has ls 8 [(6, .int (nI (hz + 1))), (7, .int (nI (u9 + (n - dj_pc hz n)))), (5, .int (nI wz)), (3, .int gd), (0, .ref na), (1, .int (nI sum)), (2, .int (nI (2 ^ n - 1))), (4, .int (nI (sx_st F0 (fun i => q0 (n - 1 - i)) n)))] := hl
                    refine lv_goto hx hb d_md_goesOn_156 rfl ?_
                    have hl := lv_sub hl [0, 2, 3, 4, 5, 6, 7] (l' := [(6, .int (nI (hz + 1))), (5, .int (nI wz)), (3, .int gd), (0, .ref na), (1, .int (nI sum)), (2, .int (nI (2 ^ n - 1))), (4, .int (nI (sx_st F0 (fun i => q0 (n - 1 - i)) n)))]) rfl
                    exact ih_b (hz + 1, upd a2 wz (a2 wz), cur) ls H _ (by show wz + 1 - (hz + 1) < wz + 1 - hz; omega) ⟨by show hz + 1 ≤ wz + 1; omega, hk8, hk9, fun i hi => (pk_un (by have : i < wz := hi; omega)).trans (hco i hi), hl, hP, hD, hS⟩
                  ·
                    rw [hv1] at g9
                    have g9z : u9 + (n - dj_pc hz n) < v1 := by rcases Nat.lt_or_ge (u9 + (n - dj_pc hz n)) v1 with h | h; exact h; exact absurd (nI_le h (by omega)) g9
                    have hless : ∀ v, cur = some v → u9 + (n - dj_pc hz n) < v := fun v h => by rw [hcv1] at h; rw [← Option.some.inj h]; exact g9z
                    refine lv_iload hx hb d_md_goesOn_140 (lv_at hl 0 rfl) ?_
                    refine lv_goto hx hb d_md_goesOn_142 rfl ?_
                    refine va_iast hx hb hK hP hD hS 4 1 rfl rfl (vp_in_nI (show wz < 64 by omega) (by decide)) d_md_goesOn_152 (fun H locs hP hD hS => ?_)
                    rw [nI_clamp (show wz < 2 ^ 31 by omega)] at hP hD
                    have hP : va_P D kls [(na, .inr (7, [.int (nI W0), .int (nI H0), .ref nwalls, .int (nI n), .ref nstarts, .ref ngoals, .ref nlaid, .ref nisTold, .int (nI F0), .ref ncells, .ref nindex, .ref nnear, .ref nnearCount, .ref npay, .ref ndone, .ref npile, .int vtop, .ref nnow, .ref nthen, .ref nchoice, .int vfound, .int vlength, .ref nplan, .ref ncosts, .ref npaid, .ref nafter, .ref nfar, .ref nmany, .ref nnext, .int vsort, .int vwhen, .int vone, .int vtwo])), (nthen, .inl (cI, 6, .inl tf)), (nnow, .inl (cI, 6, .inl qf)), (npaid, .inl (cI, 64, .inl pd)), (nafter, .inl (cI, 64, .inl (upd a2 wz (nI (u9 + (n - dj_pc hz n)))))), (ngoals, .inl (cI, 25, .inl gf)), (nindex, .inl (cI, 25, .inl xf)), (npay, .inl (cI, 512000, .inl pf))] H := hP
                    have hD : va_D A [(na, .inr (7, [.int (nI W0), .int (nI H0), .ref nwalls, .int (nI n), .ref nstarts, .ref ngoals, .ref nlaid, .ref nisTold, .int (nI F0), .ref ncells, .ref nindex, .ref nnear, .ref nnearCount, .ref npay, .ref ndone, .ref npile, .int vtop, .ref nnow, .ref nthen, .ref nchoice, .int vfound, .int vlength, .ref nplan, .ref ncosts, .ref npaid, .ref nafter, .ref nfar, .ref nmany, .ref nnext, .int vsort, .int vwhen, .int vone, .int vtwo])), (nthen, .inl (cI, 6, .inl tf)), (nnow, .inl (cI, 6, .inl qf)), (npaid, .inl (cI, 64, .inl pd)), (nafter, .inl (cI, 64, .inl (upd a2 wz (nI (u9 + (n - dj_pc hz n)))))), (ngoals, .inl (cI, 25, .inl gf)), (nindex, .inl (cI, 25, .inl xf)), (npay, .inl (cI, 512000, .inl pf))] := hD
                    refine lv_iinc (k := 1) (v := nI (hz + 1)) hx hb d_md_goesOn_153 hl rfl ((nI_succ hz).symm) (by decide) rfl (fun ls hl => ?_)
                    have hl : lv_has ls 8 [(6, .int (nI (hz + 1))), (7, .int (nI (u9 + (n - dj_pc hz n)))), (5, .int (nI wz)), (3, .int gd), (0, .ref na), (1, .int (nI sum)), (2, .int (nI (2 ^ n - 1))), (4, .int (nI (sx_st F0 (fun i => q0 (n - 1 - i)) n)))] := hl
                    refine lv_goto hx hb d_md_goesOn_156 rfl ?_
                    have hl := lv_sub hl [0, 2, 3, 4, 5, 6, 7] (l' := [(6, .int (nI (hz + 1))), (5, .int (nI wz)), (3, .int gd), (0, .ref na), (1, .int (nI sum)), (2, .int (nI (2 ^ n - 1))), (4, .int (nI (sx_st F0 (fun i => q0 (n - 1 - i)) n)))]) rfl
                    exact ih_b (hz + 1, upd a2 wz (nI (u9 + (n - dj_pc hz n))), some (u9 + (n - dj_pc hz n))) ls H _ (by show wz + 1 - (hz + 1) < wz + 1 - hz; omega) ⟨by show hz + 1 ≤ wz + 1; omega, Or.inr ⟨u9 + (n - dj_pc hz n), rfl, by omega, pk_us⟩, go_Sset hcs (by omega) hsub hpz hstay hmr hless, fun i hi => (pk_un (by have : i < wz := hi; omega)).trans (hco i hi), hl, hP, hD, hS⟩
