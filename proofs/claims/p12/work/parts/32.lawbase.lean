theorem mt_P0 {D : va_G} {cl : List vw_C} {H : Heap} : va_P D cl [] H := fun _ _ h => by simp at h
theorem mt_D0 {A : Nat → Prop} : va_D A [] := ⟨fun _ _ _ _ h => by simp at h, fun _ _ h => by simp at h⟩
theorem mt_ao : Cond.arrayOver (.array .int) ∈ lw_tbl := List.mem_append_right _ (List.mem_of_getElem? (i := 26) (by decide +kernel))
theorem mt_arr {s : State} {ty : FieldType} {c cc : ClassId} {k : Class} (h1 : s.vm.classes[c]? = some k) (h2 : k.kind = .array cc ty) : ArrOfT s c ty := fun _ _ => ⟨fun _ h => (by cases h), k, h1, cc, h2⟩
set_option maxRecDepth 100000 in
theorem mt_start {args : Array Value} {s : State} (hg : ∀ w ∈ gw, w.before args s = true) (hX : mt_X s) : ∃ (D : va_G) (cZ cI cJ cII : ClassId), va_K D kls [(cZ, .boolean), (cI, .int), (cJ, .long), (cII, .array .int)] s := by
  obtain ⟨c0, i0, k0⟩ := u_known hg in_cr (hg _ gj_cr)
  obtain ⟨c1, i1, k1⟩ := u_known hg in_fl (hg _ gj_fl)
  obtain ⟨c2, i2, k2⟩ := u_known hg in_ld (hg _ gj_ld)
  obtain ⟨c3, i3, k3⟩ := u_known hg in_le (hg _ gj_le)
  obtain ⟨c4, i4, k4⟩ := u_known hg in_pn (hg _ gj_pn)
  obtain ⟨c5, i5, k5⟩ := u_known hg in_vd (hg _ gj_vd)
  obtain ⟨c6, i6, k6⟩ := u_known hg in_mr (hg _ gj_mr)
  obtain ⟨c7, i7, k7⟩ := u_known hg in_md (hg _ gj_md)
  obtain ⟨cZ, kZ, uZ, z1, z2, z3⟩ := Cond.arrayClass_spec (hg _ ga_boolean)
  obtain ⟨cI, kI, uI, a1, a2, a3⟩ := Cond.arrayClass_spec (hg _ ga_int)
  obtain ⟨cJ, kJ, uJ, j1, j2, j3⟩ := Cond.arrayClass_spec (hg _ ga_long)
  obtain ⟨uII, cII, kII, -, b2, b3, b4⟩ := Cond.arrayOver_specA (t := .int) hX.1
  refine ⟨(fun k => match k with | 0 => c0 | 1 => c1 | 2 => c2 | 3 => c3 | 4 => c4 | 5 => c5 | 6 => c6 | _ => c7, fun k => match k with | 0 => i0 | 1 => i1 | 2 => i2 | 3 => i3 | 4 => i4 | 5 => i5 | 6 => i6 | _ => i7), cZ, cI, cJ, cII, fun c q h => ?_, fun k q h => ?_⟩
  · match c, h with
    | 0, h => cases h; exact k0
    | 1, h => cases h; exact k1
    | 2, h => cases h; exact k2
    | 3, h => cases h; exact k3
    | 4, h => cases h; exact k4
    | 5, h => cases h; exact k5
    | 6, h => cases h; exact k6
    | 7, h => cases h; exact k7
    | n + 8, h => exact absurd (List.getElem?_eq_some_iff.mp h).1 (by simp [kls])
  · match k, h with
    | 0, h => cases h; exact ⟨mt_arr z2 z3, z1⟩
    | 1, h => cases h; exact ⟨mt_arr a2 a3, a1⟩
    | 2, h => cases h; exact ⟨mt_arr j2 j3, j1⟩
    | 3, h => cases h; exact ⟨mt_arr b2 b3, b4⟩
    | n + 4, h => exact absurd (List.getElem?_eq_some_iff.mp h).1 (by simp)
/-! THE CLAIM OUT OF ONE WALK OF THE LAW'S BODY. Your part is whole_start (and what it stands on); all else here is the same for every law, but numbers. -/
def R_law : String := "MoverRoomLaw"
def lw_P (b : Addr) (xs : List Int32) (args : Array Value) (s : State) : Prop := args = #[.ref b] ∧ s.IntsAt b xs ∧ xs.length ≤ 2048 ∧ (Jvm.Cond.and given_1 narrow_1).before args s = true
def lw_Q (_ : Array Value) (s : State) (o : Outcome) (t : State) : Prop := o = .returned (some (.int 1)) ∧ Framed s o t [] 60000 8922250
def lw_Z (below : List Frame) (a : Array Value) (s : State) : State → Prop := fun t => ∃ o, t.status = .running ∧ Ended t below o ∧ lw_Q a s o t
/-- the law's own end, with 1 on the stack, nothing written that was there before, its room as the claim has it -/
theorem lw_ret {p : Program} {l : Launch} {e : Env} {s : State} {m : MethodId} {below : List Frame} {meth : Method} {c : Code} {b : Nat} (hx : p.tables.exec = Jvm.exec) (hb : c.code = code) (hr : meth.sig.returnType = ret) (hlocks : meth.locks = false) {pc : Nat} {H : Heap} {ls : Array Slot} (hdg : decode code pc = .ok (.ireturn, 1)) : W p l e room_1 s m #[Value.ref b] below meth c H [] 60000 8922250 (lw_Z below #[Value.ref b] s) (F0 m pc ls [.int 1]) := by
  intro T hT X
  obtain ⟨fs, hret, hrun, hended, hW, hframe⟩ := X.leave (v := some (.int 1)) (hlocks := hlocks) (fun h => by rw [hr] at h; cases h)
  have hmeth' : T.vm.method? m = some meth := X.method'
  refine ⟨T.setFrames fs, ?_, .returned (some (.int 1)), hrun, hended, rfl, ⟨_, rfl⟩, hW, hframe⟩
  jvm_step X.here [X.here.top, hx, hb, hdg, hmeth', hr, ret, narrow_b1]
  (try refine ⟨rfl, ?_⟩); (try refine ⟨rfl, ?_⟩)
  first | (intro acts; rw [hret _ acts rfl rfl rfl]) | rw [hret _ _ rfl rfl rfl]
  exact Steps.refl _
/-- what holds at the law's entry: the machine, the code, the tables' words (any of lw_tbl by 'hts w (by decide +kernel)'), the script of L ints xs at the cell b, what the Statement gives of the start (any of its parts by flat_of_before) -/
def lw_At (p : Program) (s : State) (m : MethodId) (meth : Method) (c : Code) (b L : Nat) (xs : Nat → Int32) : Prop :=
  p.tables.exec = Jvm.exec ∧ c.code = code ∧ meth.sig.returnType = ret ∧ c.maxLocals = 4 ∧ s.vm.findClass R_law = some m.cls ∧ (∀ w ∈ lw_tbl, w.before #[Value.ref b] s = true) ∧ va_X b L xs s s.heap ∧ b < s.heap.size ∧ meth.locks = false ∧ (Jvm.Cond.and given_1 narrow_1).before #[Value.ref b] s = true
