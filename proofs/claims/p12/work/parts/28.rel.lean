/-! both sides say the same -/
def sm_E (W0 H0 n : Nat) (wf s5 g5 : Nat → Int32) (Wm Hm nm : Nat) (aw ast agl : Nat → Int32) : Prop := Wm = W0 ∧ Hm = H0 ∧ nm = n ∧ (∀ k, k < 25 → (wf k = 0 ↔ aw k = 0)) ∧ ∀ i, i < n → s5 i = ast i ∧ g5 i = agl i
def sm_L (of : Nat → Int32) (Ml : Nat → Nat → Int32) (ot al : Nat → Int32) : Prop := ∀ k t, k < 6 → t < 30 → (tb (of k) t ↔ ¬ ot (30 * k + t) = 0) ∧ (tb (of k) t → Ml k t = al (30 * k + t))
theorem sm_L0 {of ot al : Nat → Int32} {Ml : Nat → Nat → Int32} (h1 : ∀ k, k < 6 → of k = 0) (h2 : ∀ k, k < 180 → ot k = 0) : sm_L of Ml ot al := by
  intro k t hk ht
  have h3 : ¬ tb (of k) t := by rw [h1 k hk]; exact tb_0 ht
  exact ⟨⟨fun h => absurd h h3, fun h => absurd (h2 _ (by omega)) h⟩, fun h => absurd h h3⟩
theorem sm_clear {W0 H0 n Wm Hm nm : Nat} {wf s5 g5 aw ast agl : Nat → Int32} (h : sm_E W0 H0 n wf s5 g5 Wm Hm nm aw ast agl) : sm_E W0 H0 0 wf s5 g5 Wm Hm 0 aw ast agl := ⟨h.1, h.2.1, rfl, h.2.2.2.1, fun i hi => absurd hi (Nat.not_lt_zero _)⟩
theorem sm_room {W0 H0 n Wm Hm nm Wn Hn n1 Wp Hp n2 : Nat} {wf s5 g5 aw ast agl of lf ot al wf1 of1 lf1 aw1 ot1 : Nat → Int32} {Ml : Nat → Nat → Int32} {x y r r2 : Int32} (h : sm_E W0 H0 n wf s5 g5 Wm Hm nm aw ast agl) (hl : sm_L of Ml ot al) (hd : ld_I of lf)
    (hx : (r = -1 ∧ rm_B x y) ∨ (r = x * y ∧ ¬ rm_B x y)) (hxp : (rm_B x y ∧ Wn = W0 ∧ Hn = H0 ∧ n1 = n ∧ wf1 = wf ∧ of1 = of ∧ lf1 = lf) ∨ (¬ rm_B x y ∧ x = nI Wn ∧ y = nI Hn ∧ n1 = 0 ∧ (∀ j, j < 25 → wf1 j = 0) ∧ (∀ j, j < 6 → of1 j = 0) ∧ ∀ j, j < 6 → lf1 j = 0))
    (hm : (r2 = -1 ∧ rm_B x y) ∨ (r2 = x * y ∧ ¬ rm_B x y)) (hmp : (rm_B x y ∧ Wp = Wm ∧ Hp = Hm ∧ n2 = nm ∧ aw1 = aw ∧ ot1 = ot) ∨ (¬ rm_B x y ∧ x = nI Wp ∧ y = nI Hp ∧ n2 = 0 ∧ (∀ j, j < 25 → aw1 j = 0) ∧ ∀ j, j < 180 → ot1 j = 0))
    (hW : 1 ≤ Wn ∧ Wn ≤ 6 ∧ Hn ≤ 6 ∧ Wn * Hn ≤ 25) (hV : 1 ≤ Wp ∧ Wp ≤ 6 ∧ Hp ≤ 6 ∧ Wp * Hp ≤ 25) : r = r2 ∧ sm_E Wn Hn n1 wf1 s5 g5 Wp Hp n2 aw1 ast agl ∧ sm_L of1 Ml ot1 al ∧ ld_I of1 lf1 := by
  have e1 : r = r2 := by
    rcases hx with ⟨a, b⟩ | ⟨a, b⟩ <;> rcases hm with ⟨c, d⟩ | ⟨c, d⟩
    · rw [a, c]
    · exact absurd b d
    · exact absurd d b
    · rw [a, c]
  refine ⟨e1, ?_⟩
  rcases hxp with ⟨a, rfl, rfl, rfl, rfl, rfl, rfl⟩ | ⟨a, a1, a2, rfl, a4, a5, a6⟩ <;> rcases hmp with ⟨b, rfl, rfl, rfl, rfl, rfl⟩ | ⟨b, b1, b2, rfl, b4, b5⟩
  · exact ⟨h, hl, hd⟩
  · exact absurd a b
  · exact absurd b a
  · refine ⟨⟨(nI_eq (by omega) (by omega)).mp (b1.symm.trans a1), (nI_eq (by omega) (by omega)).mp (b2.symm.trans a2), rfl, fun k hk => ?_, fun i hi => absurd hi (Nat.not_lt_zero _)⟩, sm_L0 a5 b5, ld_I0 a5 a6⟩
    rw [a4 k hk, b4 k hk]
theorem sm_wall {W0 H0 n Wm Hm nm n1 n2 : Nat} {wf s5 g5 aw ast agl wf1 aw1 : Nat → Int32} {x r r2 : Int32} (h : sm_E W0 H0 n wf s5 g5 Wm Hm nm aw ast agl) (hN : W0 * H0 ≤ 25) (hx : wl_P (W0 * H0) n wf x r n1 wf1) (hm : wl_P (Wm * Hm) nm aw x r2 n2 aw1) : r = r2 ∧ sm_E W0 H0 n1 wf1 s5 g5 Wm Hm n2 aw1 ast agl := by
  obtain ⟨rfl, rfl, rfl, h4, h5⟩ := h
  rcases hx with ⟨a1, a2, a3, a4⟩ | ⟨k, hk, e1, a3, hx⟩ <;> rcases hm with ⟨b1, b2, b3, b4⟩ | ⟨k2, hk2, e2, b3, hm⟩
  · subst a1 b1 a3 b3 a4 b4; exact ⟨rfl, rfl, rfl, rfl, h4, h5⟩
  · exact absurd ⟨k2, hk2, e2⟩ a2
  · exact absurd ⟨k, hk, e1⟩ b2
  · have e : k = k2 := (nI_eq (by omega) (by omega)).mp (e1.symm.trans e2)
    subst e
    have key : ∀ v : Int32, ∀ j, j < 25 → (upd wf k v j = 0 ↔ upd aw k v j = 0) := by
      intro v j hj
      by_cases e : j = k
      · subst e; rw [pk_us, pk_us]
      · rw [pk_un e, pk_un e]; exact h4 j hj
    rcases hx with ⟨c1, c2, c3⟩ | ⟨c1, c2, c3⟩ <;> rcases hm with ⟨d1, d2, d3⟩ | ⟨d1, d2, d3⟩
    · subst c2 d2 c3 d3 a3 b3; exact ⟨rfl, rfl, rfl, rfl, key 1, fun i hi => absurd hi (Nat.not_lt_zero _)⟩
    · exact absurd ((h4 k (by omega)).mp c1) d1
    · exact absurd ((h4 k (by omega)).mpr d1) c1
    · subst c2 d2 c3 d3 a3 b3; exact ⟨rfl, rfl, rfl, rfl, key 0, fun i hi => absurd hi (Nat.not_lt_zero _)⟩
theorem sm_cnt {wf aw : Nat → Int32} : ∀ N, (∀ k, k < N → (wf k = 0 ↔ aw k = 0)) → fx_cnt wf N = fx_cnt aw N
  | 0, _ => rfl
  | N + 1, h => by
    have ih := sm_cnt N (fun k hk => h k (by omega))
    show fx_cnt wf N + (if wf N = 0 then 1 else 0) = fx_cnt aw N + (if aw N = 0 then 1 else 0)
    by_cases e : wf N = 0
    · rw [if_pos e, if_pos ((h N (by omega)).mp e), ih]
    · rw [if_neg e, if_neg (fun q => e ((h N (by omega)).mpr q)), ih]
theorem sm_mC {N n : Nat} {wf s5 g5 aw ast agl : Nat → Int32} {x y : Int32} (hN : N ≤ 25) (h4 : ∀ k, k < 25 → (wf k = 0 ↔ aw k = 0)) (h5 : ∀ i, i < n → s5 i = ast i ∧ g5 i = agl i) : mo_C N n wf s5 g5 x y ↔ mo_C N n aw ast agl x y := by
  have hc : fx_cnt wf N = fx_cnt aw N := sm_cnt N (fun k hk => h4 k (by omega))
  constructor
  · rintro ⟨a, b, e1, e2, c1, c2, c3, c4⟩
    exact ⟨a, b, e1, e2, ⟨c1.1, (h4 a (Nat.lt_of_lt_of_le c1.1 hN)).mp c1.2⟩, ⟨c2.1, (h4 b (Nat.lt_of_lt_of_le c2.1 hN)).mp c2.2⟩, hc ▸ c3, fun i hi => ⟨(h5 i hi).1 ▸ (c4 i hi).1, (h5 i hi).2 ▸ (c4 i hi).2⟩⟩
  · rintro ⟨a, b, e1, e2, c1, c2, c3, c4⟩
    exact ⟨a, b, e1, e2, ⟨c1.1, (h4 a (Nat.lt_of_lt_of_le c1.1 hN)).mpr c1.2⟩, ⟨c2.1, (h4 b (Nat.lt_of_lt_of_le c2.1 hN)).mpr c2.2⟩, hc.symm ▸ c3, fun i hi => ⟨(h5 i hi).1.symm ▸ (c4 i hi).1, (h5 i hi).2.symm ▸ (c4 i hi).2⟩⟩
theorem sm_mn {W0 H0 n : Nat} {wf sf gf : Nat → Int32} {x y fo le : Int32} (hI : mv_I W0 H0 n wf sf gf fo le) (h : mo_C (W0 * H0) n wf sf gf x y) : n < 5 := by
  obtain ⟨a, b, rfl, rfl, c1, c2, c3, c4⟩ := h
  exact (mv_take hI c1 c2 c4 c3).2.1
theorem sm_mover {W0 H0 n Wm Hm nm n1 n2 : Nat} {wf s5 g5 aw ast agl s51 g51 as1 ag1 : Nat → Int32} {x y r r2 fo le : Int32} (h : sm_E W0 H0 n wf s5 g5 Wm Hm nm aw ast agl) (hI : mv_I Wm Hm nm aw ast agl fo le) (hx : mo_P (W0 * H0) n wf s5 g5 x y r n1 s51 g51) (hm : mo_P (Wm * Hm) nm aw ast agl x y r2 n2 as1 ag1) : r = r2 ∧ sm_E W0 H0 n1 wf s51 g51 Wm Hm n2 aw as1 ag1 := by
  obtain ⟨rfl, rfl, rfl, h4, h5⟩ := h
  have hc := sm_mC (x := x) (y := y) hI.1.2.2.2 h4 h5
  rcases hx with ⟨a1, a2, a3, a4, a5⟩ | ⟨a1, a2, a3, a4, a5⟩ <;> rcases hm with ⟨b1, b2, b3, b4, b5⟩ | ⟨b1, b2, b3, b4, b5⟩
  · subst a1 b1 a3 b3 a4 b4 a5 b5; exact ⟨rfl, rfl, rfl, rfl, h4, h5⟩
  · have := sm_mn hI b2; exact a2.elim (fun q => absurd (hc.mpr b2) q) (fun q => absurd q (by omega))
  · have := sm_mn hI (hc.mp a2); exact b2.elim (fun q => absurd (hc.mp a2) q) (fun q => absurd q (by omega))
  · subst a1 b1 a3 b3 a4 b4 a5 b5
    refine ⟨rfl, rfl, rfl, rfl, h4, fun i hi => ?_⟩
    by_cases e : i = nm
    · subst e; rw [pk_us, pk_us, pk_us, pk_us]; exact ⟨rfl, rfl⟩
    · rw [pk_un e, pk_un e, pk_un e, pk_un e]; exact h5 i (by omega)
theorem sm_lay {of lf ot al of1 lf1 ot1 al1 : Nat → Int32} {Ml Ml1 : Nat → Nat → Int32} {x y ce r r2 : Int32} (hl : sm_L of Ml ot al) (hd : ld_I of lf)
    (hx : (ly_B x y ∧ r = -1 ∧ of1 = of ∧ lf1 = lf ∧ Ml1 = Ml) ∨ ∃ k tt, k < 6 ∧ tt < 30 ∧ x = nI k ∧ y = nI tt ∧ ((tb (of k) tt ∧ r = Ml k tt) ∨ (¬ tb (of k) tt ∧ r = -1)) ∧ of1 = upd of k (of k ||| ((1 : Int32) <<< (nI tt &&& 31))) ∧ Ml1 = va_up Ml k (upd (Ml k) tt ce) ∧ (ld_I of lf → ld_I of1 lf1))
    (hm : (ly_B x y ∧ r2 = -1 ∧ al1 = al ∧ ot1 = ot) ∨ ∃ k tt, k < 6 ∧ tt < 30 ∧ x = nI k ∧ y = nI tt ∧ ((¬ ot (30 * k + tt) = 0 ∧ r2 = al (30 * k + tt)) ∨ (ot (30 * k + tt) = 0 ∧ r2 = -1)) ∧ al1 = upd al (30 * k + tt) ce ∧ ot1 = upd ot (30 * k + tt) 1) : r = r2 ∧ sm_L of1 Ml1 ot1 al1 ∧ ld_I of1 lf1 := by
  have hB : ∀ {k t : Nat}, k < 6 → t < 30 → x = nI k → y = nI t → ¬ ly_B x y := by
    rintro k t hk ht rfl rfl (q | q | q | q)
    · exact absurd q (Int32.not_lt.mpr (nI_pos' (by omega)))
    · exact absurd q (nI_ge (b := 6) hk (by decide))
    · exact absurd q (Int32.not_lt.mpr (nI_pos' (by omega)))
    · exact q (nI_lt (b := 30) ht (by decide))
  rcases hx with ⟨a1, a2, a3, a4, a5⟩ | ⟨k, tt, hk, ht, e1, e2, a1, a2, a3, a4⟩ <;> rcases hm with ⟨b1, b2, b3, b4⟩ | ⟨k2, t2, hk2, ht2, f1, f2, b1, b2, b3⟩
  · subst a2 b2 a3 a4 a5 b3 b4; exact ⟨rfl, hl, hd⟩
  · exact absurd a1 (hB hk2 ht2 f1 f2)
  · exact absurd b1 (hB hk ht e1 e2)
  · have ek : k = k2 := (nI_eq (by omega) (by omega)).mp (e1.symm.trans f1)
    have et : tt = t2 := (nI_eq (by omega) (by omega)).mp (e2.symm.trans f2)
    subst ek et
    have h0 := hl k tt hk ht
    refine ⟨?_, ?_, a4 hd⟩
    · rcases a1 with ⟨c1, c2⟩ | ⟨c1, c2⟩ <;> rcases b1 with ⟨d1, d2⟩ | ⟨d1, d2⟩
      · rw [c2, d2]; exact h0.2 c1
      · exact absurd d1 (h0.1.mp c1)
      · exact absurd (h0.1.mpr d1) c1
      · rw [c2, d2]
    · subst a2 a3 b2 b3
      intro a t ha ht3
      by_cases e : a = k
      · subst e
        rw [pk_us]
        have ev : va_up Ml a (upd (Ml a) tt ce) a t = upd (Ml a) tt ce t := by simp [va_up]
        rw [ev, tb_or ht ht3]
        by_cases e3 : t = tt
        · subst e3; rw [pk_us, pk_us, pk_us]
          exact ⟨⟨fun _ => by decide, fun _ => Or.inl rfl⟩, fun _ => rfl⟩
        · rw [pk_un e3, pk_un (show 30 * a + t ≠ 30 * a + tt by omega), pk_un (show 30 * a + t ≠ 30 * a + tt by omega)]
          have h1 := hl a t ha ht3
          exact ⟨⟨fun q => h1.1.mp (q.elim (fun z => absurd z e3) id), fun q => Or.inr (h1.1.mpr q)⟩, fun q => h1.2 (q.elim (fun z => absurd z e3) id)⟩
      · have ev : va_up Ml k (upd (Ml k) tt ce) a = Ml a := by simp [va_up, e]
        rw [pk_un e, ev, pk_un (show 30 * a + t ≠ 30 * k + tt by omega), pk_un (show 30 * a + t ≠ 30 * k + tt by omega)]
        exact hl a t ha ht3
theorem sm_fr {N : Nat} {wf aw : Nat → Int32} (hN : N ≤ 25) (h4 : ∀ k, k < 25 → (wf k = 0 ↔ aw k = 0)) (c : Nat) : fx_fr N wf c ↔ fx_fr N aw c := ⟨fun q => ⟨q.1, (h4 c (Nat.lt_of_lt_of_le q.1 hN)).mp q.2⟩, fun q => ⟨q.1, (h4 c (Nat.lt_of_lt_of_le q.1 hN)).mpr q.2⟩⟩
theorem sm_dist {W0 H0 n Wm Hm nm : Nat} {wf s5 g5 aw ast agl : Nat → Int32} {x r r2 : Int32} (h : sm_E W0 H0 n wf s5 g5 Wm Hm nm aw ast agl) (hN : W0 * H0 ≤ 25) (hn : n ≤ 5) (hx : ds_P W0 (W0 * H0) n wf s5 g5 x r) (hm : ds_P Wm (Wm * Hm) nm aw ast agl x r2) : r = r2 := by
  obtain ⟨rfl, rfl, rfl, h4, h5⟩ := h
  have hf := sm_fr hN h4
  rcases hx with ⟨a1, a2⟩ | ⟨k, a, b, f, hk, e1, e2, e3, e4, e5, e6, e7⟩ <;> rcases hm with ⟨b1, b2⟩ | ⟨k2, a', b', f', hk2, f1, f2, f3, f4, f5, f6, f7⟩
  · rw [a1, b1]
  · exact absurd ⟨k2, hk2, f1⟩ a2
  · exact absurd ⟨k, hk, e1⟩ b2
  · have ek : k = k2 := (nI_eq (by omega) (by omega)).mp (e1.symm.trans f1)
    subst ek
    have ea : a = a' := (nI_eq (by have := e4.1; omega) (by have := f4.1; omega)).mp (e2.symm.trans ((h5 k hk).1.trans f2))
    have eb : b = b' := (nI_eq (by have := e5.1; omega) (by have := f5.1; omega)).mp (e3.symm.trans ((h5 k hk).2.trans f3))
    subst ea eb
    rw [e7, f7]
    exact wy_un (by have := e5.1; omega) e6 (wy_cf (fun c q => (hf c).mpr q) (wy_cv (fun c b _ => ⟨fun q => ⟨(hf b).mpr q.1, q.2⟩, fun q => ⟨(hf b).mp q.1, q.2⟩⟩) f6)) (fun c b q => by have := q.1.1; omega) (by have := e4.1; omega)
theorem sm_ways {W0 H0 n Wm Hm nm : Nat} {wf s5 g5 aw ast agl : Nat → Int32} {x y : Int32} {r r2 : Int64} (h : sm_E W0 H0 n wf s5 g5 Wm Hm nm aw ast agl) (hN : W0 * H0 ≤ 25) (hn : n ≤ 5) (hx : wa_P W0 (W0 * H0) n wf s5 g5 x y r) (hm : wa_P Wm (Wm * Hm) nm aw ast agl x y r2) : r = r2 := by
  obtain ⟨rfl, rfl, rfl, h4, h5⟩ := h
  rcases hx with ⟨a1, a2⟩ | ⟨k, cc, a, b, hk, hc, e1, e1c, e2, e3, e4, e5, e7⟩ <;> rcases hm with ⟨b1, b2⟩ | ⟨k2, cc2, a', b', hk2, hc2, f1, f1c, f2, f3, f4, f5, f7⟩
  · rw [a1, b1]
  · exact absurd ⟨k2, cc2, hk2, hc2, f1, f1c⟩ a2
  · exact absurd ⟨k, cc, hk, hc, e1, e1c⟩ b2
  · have ek : k = k2 := (nI_eq (by omega) (by omega)).mp (e1.symm.trans f1)
    have ec : cc = cc2 := (nI_eq (by omega) (by omega)).mp (e1c.symm.trans f1c)
    subst ek ec
    have ea : a = a' := (nI_eq (by have := e4.1; omega) (by have := f4.1; omega)).mp (e2.symm.trans ((h5 k hk).1.trans f2))
    have eb : b = b' := (nI_eq (by have := e5.1; omega) (by have := f5.1; omega)).mp (e3.symm.trans ((h5 k hk).2.trans f3))
    subst ea eb
    rw [e7, f7]
    exact wr_an_w hN (by have := e5.1; omega) h4 cc
