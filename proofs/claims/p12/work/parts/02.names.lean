def R_cr : String := "MoverRoom$Crew"
def T_cr : u_T := fun k => match k with
  | 0 => ("MoverRoom$Crew", "floor", "LMoverRoom$Floor;", true)
  | 1 => ("MoverRoom$Crew", "count", "I", false)
  | 2 => ("MoverRoom$Crew", "starts", "[I", true)
  | 3 => ("MoverRoom$Crew", "goals", "[I", true)
  | 4 => ("MoverRoom$Crew", "toGoal", "[[I", true)
  | 5 => ("MoverRoom$Crew", "queue", "[I", true)
  | 6 => ("MoverRoom$Crew", "counts", "[J", false)
  | _ => ("MoverRoom$Crew", "nextCounts", "[J", false)
def t_cr : Nat → FieldType := fun k => match k with
  | 0 => (.object "MoverRoom$Floor")
  | 1 => .int
  | 2 => (.array .int)
  | 3 => (.array .int)
  | 4 => (.array (.array .int))
  | 5 => (.array .int)
  | 6 => (.array .long)
  | _ => (.array .long)
theorem n_cr : ∀ a, a < 8 → ∀ b, b < 8 → a ≠ b → (T_cr a).2.1 ≠ (T_cr b).2.1 := by decide +kernel
theorem t_cr_ok : ∀ k, k < 8 → parseFieldDescriptor (T_cr k).2.2.1 = some (t_cr k) := by decide +kernel
def R_fl : String := "MoverRoom$Floor"
def T_fl : u_T := fun k => match k with
  | 0 => ("MoverRoom$Floor", "width", "I", false)
  | 1 => ("MoverRoom$Floor", "height", "I", false)
  | 2 => ("MoverRoom$Floor", "walls", "[Z", true)
  | 3 => ("MoverRoom$Floor", "freeCount", "I", false)
  | 4 => ("MoverRoom$Floor", "rank", "[I", true)
  | 5 => ("MoverRoom$Floor", "stepCount", "[I", true)
  | _ => ("MoverRoom$Floor", "steps", "[[I", true)
def t_fl : Nat → FieldType := fun k => match k with
  | 0 => .int
  | 1 => .int
  | 2 => (.array .boolean)
  | 3 => .int
  | 4 => (.array .int)
  | 5 => (.array .int)
  | _ => (.array (.array .int))
theorem n_fl : ∀ a, a < 7 → ∀ b, b < 7 → a ≠ b → (T_fl a).2.1 ≠ (T_fl b).2.1 := by decide +kernel
theorem t_fl_ok : ∀ k, k < 7 → parseFieldDescriptor (T_fl k).2.2.1 = some (t_fl k) := by decide +kernel
def R_ld : String := "MoverRoom$LaidPlan"
def T_ld : u_T := fun k => match k with
  | 0 => ("MoverRoom$LaidPlan", "cells", "[[I", true)
  | 1 => ("MoverRoom$LaidPlan", "told", "[I", true)
  | _ => ("MoverRoom$LaidPlan", "length", "[I", true)
def t_ld : Nat → FieldType := fun k => match k with
  | 0 => (.array (.array .int))
  | 1 => (.array .int)
  | _ => (.array .int)
theorem n_ld : ∀ a, a < 3 → ∀ b, b < 3 → a ≠ b → (T_ld a).2.1 ≠ (T_ld b).2.1 := by decide +kernel
theorem t_ld_ok : ∀ k, k < 3 → parseFieldDescriptor (T_ld k).2.2.1 = some (t_ld k) := by decide +kernel
def R_le : String := "MoverRoom$Levels"
def T_le : u_T := fun k => match k with
  | _ => ("MoverRoom$Levels", "words", "[J", true)
def t_le : Nat → FieldType := fun k => match k with
  | _ => (.array .long)
theorem n_le : ∀ a, a < 1 → ∀ b, b < 1 → a ≠ b → (T_le a).2.1 ≠ (T_le b).2.1 := by decide +kernel
theorem t_le_ok : ∀ k, k < 1 → parseFieldDescriptor (T_le k).2.2.1 = some (t_le k) := by decide +kernel
def R_pn : String := "MoverRoom$Planner"
def T_pn : u_T := fun k => match k with
  | 0 => ("MoverRoom$Planner", "floor", "LMoverRoom$Floor;", true)
  | 1 => ("MoverRoom$Planner", "crew", "LMoverRoom$Crew;", true)
  | 2 => ("MoverRoom$Planner", "hopeless", "LMoverRoom$Levels;", true)
  | 3 => ("MoverRoom$Planner", "cells", "[[I", true)
  | 4 => ("MoverRoom$Planner", "settled", "[I", true)
  | 5 => ("MoverRoom$Planner", "plan", "[[I", true)
  | 6 => ("MoverRoom$Planner", "planEnd", "I", false)
  | 7 => ("MoverRoom$Planner", "planSum", "I", false)
  | 8 => ("MoverRoom$Planner", "nextMore", "I", false)
  | 9 => ("MoverRoom$Planner", "known", "Z", false)
  | _ => ("MoverRoom$Planner", "found", "Z", false)
def t_pn : Nat → FieldType := fun k => match k with
  | 0 => (.object "MoverRoom$Floor")
  | 1 => (.object "MoverRoom$Crew")
  | 2 => (.object "MoverRoom$Levels")
  | 3 => (.array (.array .int))
  | 4 => (.array .int)
  | 5 => (.array (.array .int))
  | 6 => .int
  | 7 => .int
  | 8 => .int
  | 9 => .boolean
  | _ => .boolean
theorem n_pn : ∀ a, a < 11 → ∀ b, b < 11 → a ≠ b → (T_pn a).2.1 ≠ (T_pn b).2.1 := by decide +kernel
theorem t_pn_ok : ∀ k, k < 11 → parseFieldDescriptor (T_pn k).2.2.1 = some (t_pn k) := by decide +kernel
def R_vd : String := "MoverRoom$Verdict"
def T_vd : u_T := fun k => match k with
  | 0 => ("MoverRoom$Verdict", "floor", "LMoverRoom$Floor;", true)
  | 1 => ("MoverRoom$Verdict", "crew", "LMoverRoom$Crew;", true)
  | 2 => ("MoverRoom$Verdict", "laid", "LMoverRoom$LaidPlan;", true)
  | 3 => ("MoverRoom$Verdict", "sort", "I", false)
  | 4 => ("MoverRoom$Verdict", "time", "I", false)
  | 5 => ("MoverRoom$Verdict", "lesser", "I", false)
  | _ => ("MoverRoom$Verdict", "greater", "I", false)
def t_vd : Nat → FieldType := fun k => match k with
  | 0 => (.object "MoverRoom$Floor")
  | 1 => (.object "MoverRoom$Crew")
  | 2 => (.object "MoverRoom$LaidPlan")
  | 3 => .int
  | 4 => .int
  | 5 => .int
  | _ => .int
theorem n_vd : ∀ a, a < 7 → ∀ b, b < 7 → a ≠ b → (T_vd a).2.1 ≠ (T_vd b).2.1 := by decide +kernel
theorem t_vd_ok : ∀ k, k < 7 → parseFieldDescriptor (T_vd k).2.2.1 = some (t_vd k) := by decide +kernel
def R_mr : String := "MoverRoom"
def T_mr : u_T := fun k => match k with
  | 0 => ("MoverRoom", "floor", "LMoverRoom$Floor;", true)
  | 1 => ("MoverRoom", "crew", "LMoverRoom$Crew;", true)
  | 2 => ("MoverRoom", "planner", "LMoverRoom$Planner;", true)
  | 3 => ("MoverRoom", "laid", "LMoverRoom$LaidPlan;", true)
  | _ => ("MoverRoom", "verdict", "LMoverRoom$Verdict;", true)
def t_mr : Nat → FieldType := fun k => match k with
  | 0 => (.object "MoverRoom$Floor")
  | 1 => (.object "MoverRoom$Crew")
  | 2 => (.object "MoverRoom$Planner")
  | 3 => (.object "MoverRoom$LaidPlan")
  | _ => (.object "MoverRoom$Verdict")
theorem n_mr : ∀ a, a < 5 → ∀ b, b < 5 → a ≠ b → (T_mr a).2.1 ≠ (T_mr b).2.1 := by decide +kernel
theorem t_mr_ok : ∀ k, k < 5 → parseFieldDescriptor (T_mr k).2.2.1 = some (t_mr k) := by decide +kernel
def R_md : String := "MoverRoomModel"
def T_md : u_T := fun k => match k with
  | 0 => ("MoverRoomModel", "wide", "I", false)
  | 1 => ("MoverRoomModel", "high", "I", false)
  | 2 => ("MoverRoomModel", "walls", "[Z", true)
  | 3 => ("MoverRoomModel", "movers", "I", false)
  | 4 => ("MoverRoomModel", "starts", "[I", true)
  | 5 => ("MoverRoomModel", "goals", "[I", true)
  | 6 => ("MoverRoomModel", "laid", "[I", true)
  | 7 => ("MoverRoomModel", "isTold", "[Z", true)
  | 8 => ("MoverRoomModel", "free", "I", false)
  | 9 => ("MoverRoomModel", "cells", "[I", true)
  | 10 => ("MoverRoomModel", "index", "[I", true)
  | 11 => ("MoverRoomModel", "near", "[I", true)
  | 12 => ("MoverRoomModel", "nearCount", "[I", true)
  | 13 => ("MoverRoomModel", "pay", "[I", true)
  | 14 => ("MoverRoomModel", "done", "[Z", true)
  | 15 => ("MoverRoomModel", "pile", "[I", true)
  | 16 => ("MoverRoomModel", "top", "I", false)
  | 17 => ("MoverRoomModel", "now", "[I", true)
  | 18 => ("MoverRoomModel", "then", "[I", true)
  | 19 => ("MoverRoomModel", "choice", "[I", true)
  | 20 => ("MoverRoomModel", "found", "Z", false)
  | 21 => ("MoverRoomModel", "length", "I", false)
  | 22 => ("MoverRoomModel", "plan", "[I", true)
  | 23 => ("MoverRoomModel", "costs", "[I", true)
  | 24 => ("MoverRoomModel", "paid", "[I", true)
  | 25 => ("MoverRoomModel", "after", "[I", true)
  | 26 => ("MoverRoomModel", "far", "[I", true)
  | 27 => ("MoverRoomModel", "many", "[J", true)
  | 28 => ("MoverRoomModel", "next", "[J", true)
  | 29 => ("MoverRoomModel", "sort", "I", false)
  | 30 => ("MoverRoomModel", "when", "I", false)
  | 31 => ("MoverRoomModel", "one", "I", false)
  | _ => ("MoverRoomModel", "two", "I", false)
def t_md : Nat → FieldType := fun k => match k with
  | 0 => .int
  | 1 => .int
  | 2 => (.array .boolean)
  | 3 => .int
  | 4 => (.array .int)
  | 5 => (.array .int)
  | 6 => (.array .int)
  | 7 => (.array .boolean)
  | 8 => .int
  | 9 => (.array .int)
  | 10 => (.array .int)
  | 11 => (.array .int)
  | 12 => (.array .int)
  | 13 => (.array .int)
  | 14 => (.array .boolean)
  | 15 => (.array .int)
  | 16 => .int
  | 17 => (.array .int)
  | 18 => (.array .int)
  | 19 => (.array .int)
  | 20 => .boolean
  | 21 => .int
  | 22 => (.array .int)
  | 23 => (.array .int)
  | 24 => (.array .int)
  | 25 => (.array .int)
  | 26 => (.array .int)
  | 27 => (.array .long)
  | 28 => (.array .long)
  | 29 => .int
  | 30 => .int
  | 31 => .int
  | _ => .int
theorem n_md : ∀ a, a < 33 → ∀ b, b < 33 → a ≠ b → (T_md a).2.1 ≠ (T_md b).2.1 := by decide +kernel
theorem t_md_ok : ∀ k, k < 33 → parseFieldDescriptor (T_md k).2.2.1 = some (t_md k) := by decide +kernel
def R_ar : String := "java/util/Arrays"
def R_lw : String := "MoverRoomLaw"
abbrev kls : List vw_C := [(R_cr, T_cr, 8), (R_fl, T_fl, 7), (R_ld, T_ld, 3), (R_le, T_le, 1), (R_pn, T_pn, 11), (R_vd, T_vd, 7), (R_mr, T_mr, 5), (R_md, T_md, 33)]
def gw : List Cond := lw_tbl.filter goodWord
theorem gw_of {w : Cond} (i : Nat) (h : tables_1[i]? = some w) (g : goodWord w = true) : w ∈ gw := List.mem_filter.mpr ⟨List.mem_append_right _ (List.mem_of_getElem? h), g⟩
theorem gw_sel {w : Cond} (h : w ∈ k2_sels lw_privs) (g : goodWord w = true) : w ∈ gw := List.mem_filter.mpr ⟨List.mem_append_left _ h, g⟩
theorem gw_good {w : Cond} (h : w ∈ gw) : (w.onTables && w.keeps) = true ∨ ∃ ty, w = .arrayClass ty := good_of_word (List.mem_filter.mp h).2
theorem gw_tbl {w : Cond} (h : w ∈ gw) : w ∈ lw_tbl := (List.mem_filter.mp h).1
theorem in_cr : ∀ w ∈ u_ws R_cr T_cr 8, w ∈ gw := by decide +kernel
theorem in_fl : ∀ w ∈ u_ws R_fl T_fl 7, w ∈ gw := by decide +kernel
theorem in_ld : ∀ w ∈ u_ws R_ld T_ld 3, w ∈ gw := by decide +kernel
theorem in_le : ∀ w ∈ u_ws R_le T_le 1, w ∈ gw := by decide +kernel
theorem in_pn : ∀ w ∈ u_ws R_pn T_pn 11, w ∈ gw := by decide +kernel
theorem in_vd : ∀ w ∈ u_ws R_vd T_vd 7, w ∈ gw := by decide +kernel
theorem in_mr : ∀ w ∈ u_ws R_mr T_mr 5, w ∈ gw := by decide +kernel
theorem in_md : ∀ w ∈ u_ws R_md T_md 33, w ∈ gw := by decide +kernel
abbrev b_fl_init : ByteArray := prog_3_method_1_code
def y_fl_init : MethodName := ⟨"MoverRoom$Floor", "<init>", "()V"⟩
abbrev w_fl_init : List Cond := .code y_fl_init b_fl_init 1 none :: gw
abbrev b_fl_build : ByteArray := prog_3_method_2_code
def y_fl_build : MethodName := ⟨"MoverRoom$Floor", "build", "(II)V"⟩
abbrev w_fl_build : List Cond := .code y_fl_build b_fl_build 4 none :: gw
abbrev b_fl_turn : ByteArray := prog_3_method_3_code
def y_fl_turn : MethodName := ⟨"MoverRoom$Floor", "turn", "(I)V"⟩
abbrev w_fl_turn : List Cond := .code y_fl_turn b_fl_turn 2 none :: gw
abbrev b_fl_has : ByteArray := prog_3_method_4_code
def y_fl_has : MethodName := ⟨"MoverRoom$Floor", "has", "(I)Z"⟩
abbrev w_fl_has : List Cond := .code y_fl_has b_fl_has 2 (some .boolean) :: gw
abbrev b_fl_isFree : ByteArray := prog_3_method_5_code
def y_fl_isFree : MethodName := ⟨"MoverRoom$Floor", "isFree", "(I)Z"⟩
abbrev w_fl_isFree : List Cond := .code y_fl_isFree b_fl_isFree 2 (some .boolean) :: gw
abbrev b_fl_chart : ByteArray := prog_3_method_7_code
def y_fl_chart : MethodName := ⟨"MoverRoom$Floor", "chart", "()V"⟩
abbrev w_fl_chart : List Cond := .code y_fl_chart b_fl_chart 3 none :: gw
abbrev b_fl_chartCell : ByteArray := prog_3_method_8_code
def y_fl_chartCell : MethodName := ⟨"MoverRoom$Floor", "chartCell", "(II)V"⟩
abbrev w_fl_chartCell : List Cond := .code y_fl_chartCell b_fl_chartCell 3 none :: gw
abbrev b_fl_addStep : ByteArray := prog_3_method_9_code
def y_fl_addStep : MethodName := ⟨"MoverRoom$Floor", "addStep", "(II)V"⟩
abbrev w_fl_addStep : List Cond := .code y_fl_addStep b_fl_addStep 3 none :: gw
abbrev b_cr_init : ByteArray := prog_2_method_1_code
def y_cr_init : MethodName := ⟨"MoverRoom$Crew", "<init>", "(LMoverRoom$Floor;)V"⟩
abbrev w_cr_init : List Cond := .code y_cr_init b_cr_init 2 none :: gw
abbrev b_cr_has : ByteArray := prog_2_method_2_code
def y_cr_has : MethodName := ⟨"MoverRoom$Crew", "has", "(I)Z"⟩
abbrev w_cr_has : List Cond := .code y_cr_has b_cr_has 2 (some .boolean) :: gw
abbrev b_cr_dismiss : ByteArray := prog_2_method_3_code
def y_cr_dismiss : MethodName := ⟨"MoverRoom$Crew", "dismiss", "()V"⟩
abbrev w_cr_dismiss : List Cond := .code y_cr_dismiss b_cr_dismiss 1 none :: gw
abbrev b_cr_canTake : ByteArray := prog_2_method_4_code
def y_cr_canTake : MethodName := ⟨"MoverRoom$Crew", "canTake", "(II)Z"⟩
abbrev w_cr_canTake : List Cond := .code y_cr_canTake b_cr_canTake 5 (some .boolean) :: gw
abbrev b_cr_take : ByteArray := prog_2_method_5_code
def y_cr_take : MethodName := ⟨"MoverRoom$Crew", "take", "(II)I"⟩
abbrev w_cr_take : List Cond := .code y_cr_take b_cr_take 4 (some .int) :: gw
abbrev b_cr_sumOfWays : ByteArray := prog_2_method_7_code
def y_cr_sumOfWays : MethodName := ⟨"MoverRoom$Crew", "sumOfWays", "()I"⟩
abbrev w_cr_sumOfWays : List Cond := .code y_cr_sumOfWays b_cr_sumOfWays 4 (some .int) :: gw
abbrev b_cr_measure : ByteArray := prog_2_method_11_code
def y_cr_measure : MethodName := ⟨"MoverRoom$Crew", "measure", "(I[I)V"⟩
abbrev w_cr_measure : List Cond := .code y_cr_measure b_cr_measure 8 none :: gw
abbrev b_ld_init : ByteArray := prog_4_method_1_code
def y_ld_init : MethodName := ⟨"MoverRoom$LaidPlan", "<init>", "()V"⟩
abbrev w_ld_init : List Cond := .code y_ld_init b_ld_init 1 none :: gw
abbrev b_ld_forget : ByteArray := prog_4_method_2_code
def y_ld_forget : MethodName := ⟨"MoverRoom$LaidPlan", "forget", "()V"⟩
abbrev w_ld_forget : List Cond := .code y_ld_forget b_ld_forget 1 none :: gw
abbrev b_ld_tell : ByteArray := prog_4_method_3_code
def y_ld_tell : MethodName := ⟨"MoverRoom$LaidPlan", "tell", "(III)I"⟩
abbrev w_ld_tell : List Cond := .code y_ld_tell b_ld_tell 5 (some .int) :: gw
abbrev b_ld_isTold : ByteArray := prog_4_method_6_code
def y_ld_isTold : MethodName := ⟨"MoverRoom$LaidPlan", "isTold", "(II)Z"⟩
abbrev w_ld_isTold : List Cond := .code y_ld_isTold b_ld_isTold 3 (some .boolean) :: gw
abbrev b_le_init : ByteArray := prog_5_method_1_code
def y_le_init : MethodName := ⟨"MoverRoom$Levels", "<init>", "()V"⟩
abbrev w_le_init : List Cond := .code y_le_init b_le_init 1 none :: gw
abbrev b_le_reset : ByteArray := prog_5_method_2_code
def y_le_reset : MethodName := ⟨"MoverRoom$Levels", "reset", "()V"⟩
abbrev w_le_reset : List Cond := .code y_le_reset b_le_reset 1 none :: gw
abbrev b_pn_init : ByteArray := prog_6_method_1_code
def y_pn_init : MethodName := ⟨"MoverRoom$Planner", "<init>", "(LMoverRoom$Floor;LMoverRoom$Crew;)V"⟩
abbrev w_pn_init : List Cond := .code y_pn_init b_pn_init 3 none :: gw
abbrev b_pn_forget : ByteArray := prog_6_method_2_code
def y_pn_forget : MethodName := ⟨"MoverRoom$Planner", "forget", "()V"⟩
abbrev w_pn_forget : List Cond := .code y_pn_forget b_pn_forget 1 none :: gw
abbrev b_pn_find : ByteArray := prog_6_method_3_code
def y_pn_find : MethodName := ⟨"MoverRoom$Planner", "find", "(I)I"⟩
abbrev w_pn_find : List Cond := .code y_pn_find b_pn_find 3 (some .int) :: gw
abbrev b_pn_begin : ByteArray := prog_6_method_6_code
def y_pn_begin : MethodName := ⟨"MoverRoom$Planner", "begin", "()V"⟩
abbrev w_pn_begin : List Cond := .code y_pn_begin b_pn_begin 2 none :: gw
abbrev b_pn_canEnd : ByteArray := prog_6_method_10_code
def y_pn_canEnd : MethodName := ⟨"MoverRoom$Planner", "canEnd", "(II)Z"⟩
abbrev w_pn_canEnd : List Cond := .code y_pn_canEnd b_pn_canEnd 6 (some .boolean) :: gw
abbrev b_pn_startSearch : ByteArray := prog_6_method_11_code
def y_pn_startSearch : MethodName := ⟨"MoverRoom$Planner", "startSearch", "(III)I"⟩
abbrev w_pn_startSearch : List Cond := .code y_pn_startSearch b_pn_startSearch 7 (some .int) :: gw
abbrev b_pn_reachesEnd : ByteArray := prog_6_method_14_code
def y_pn_reachesEnd : MethodName := ⟨"MoverRoom$Planner", "reachesEnd", "(II)Z"⟩
abbrev w_pn_reachesEnd : List Cond := .code y_pn_reachesEnd b_pn_reachesEnd 4 (some .boolean) :: gw
abbrev b_pn_layOut : ByteArray := prog_6_method_7_code
def y_pn_layOut : MethodName := ⟨"MoverRoom$Planner", "layOut", "()V"⟩
abbrev w_pn_layOut : List Cond := .code y_pn_layOut b_pn_layOut 1 none :: gw
abbrev b_pn_isOver : ByteArray := prog_6_method_8_code
def y_pn_isOver : MethodName := ⟨"MoverRoom$Planner", "isOver", "(I)Z"⟩
abbrev w_pn_isOver : List Cond := .code y_pn_isOver b_pn_isOver 3 (some .boolean) :: gw
abbrev b_vd_init : ByteArray := prog_7_method_1_code
def y_vd_init : MethodName := ⟨"MoverRoom$Verdict", "<init>", "(LMoverRoom$Floor;LMoverRoom$Crew;LMoverRoom$LaidPlan;)V"⟩
abbrev w_vd_init : List Cond := .code y_vd_init b_vd_init 4 none :: gw
abbrev b_vd_seek : ByteArray := prog_7_method_2_code
def y_vd_seek : MethodName := ⟨"MoverRoom$Verdict", "seek", "()V"⟩
abbrev w_vd_seek : List Cond := .code y_vd_seek b_vd_seek 2 none :: gw
abbrev b_vd_blame : ByteArray := prog_7_method_3_code
def y_vd_blame : MethodName := ⟨"MoverRoom$Verdict", "blame", "(IIII)V"⟩
abbrev w_vd_blame : List Cond := .code y_vd_blame b_vd_blame 5 none :: gw
abbrev b_vd_seekStrayed : ByteArray := prog_7_method_4_code
def y_vd_seekStrayed : MethodName := ⟨"MoverRoom$Verdict", "seekStrayed", "(I)V"⟩
abbrev w_vd_seekStrayed : List Cond := .code y_vd_seekStrayed b_vd_seekStrayed 3 none :: gw
abbrev b_vd_seekMeeting : ByteArray := prog_7_method_6_code
def y_vd_seekMeeting : MethodName := ⟨"MoverRoom$Verdict", "seekMeeting", "(II)V"⟩
abbrev w_vd_seekMeeting : List Cond := .code y_vd_seekMeeting b_vd_seekMeeting 5 none :: gw
abbrev b_mr_init : ByteArray := prog_1_method_1_code
def y_mr_init : MethodName := ⟨"MoverRoom", "<init>", "()V"⟩
abbrev w_mr_init : List Cond := .code y_mr_init b_mr_init 1 none :: gw
abbrev b_mr_room : ByteArray := prog_1_method_2_code
def y_mr_room : MethodName := ⟨"MoverRoom", "room", "(II)I"⟩
abbrev w_mr_room : List Cond := .code y_mr_room b_mr_room 3 (some .int) :: gw
abbrev b_mr_wall : ByteArray := prog_1_method_3_code
def y_mr_wall : MethodName := ⟨"MoverRoom", "wall", "(I)I"⟩
abbrev w_mr_wall : List Cond := .code y_mr_wall b_mr_wall 2 (some .int) :: gw
abbrev b_mr_mover : ByteArray := prog_1_method_4_code
def y_mr_mover : MethodName := ⟨"MoverRoom", "mover", "(II)I"⟩
abbrev w_mr_mover : List Cond := .code y_mr_mover b_mr_mover 3 (some .int) :: gw
abbrev b_mr_clear : ByteArray := prog_1_method_5_code
def y_mr_clear : MethodName := ⟨"MoverRoom", "clear", "()I"⟩
abbrev w_mr_clear : List Cond := .code y_mr_clear b_mr_clear 2 (some .int) :: gw
abbrev b_mr_distance : ByteArray := prog_1_method_6_code
def y_mr_distance : MethodName := ⟨"MoverRoom", "distance", "(I)I"⟩
abbrev w_mr_distance : List Cond := .code y_mr_distance b_mr_distance 2 (some .int) :: gw
abbrev b_mr_ways : ByteArray := prog_1_method_7_code
def y_mr_ways : MethodName := ⟨"MoverRoom", "ways", "(II)J"⟩
abbrev w_mr_ways : List Cond := .code y_mr_ways b_mr_ways 3 (some .long) :: gw
abbrev b_mr_solve : ByteArray := prog_1_method_8_code
def y_mr_solve : MethodName := ⟨"MoverRoom", "solve", "(I)I"⟩
abbrev w_mr_solve : List Cond := .code y_mr_solve b_mr_solve 2 (some .int) :: gw
abbrev b_mr_cost : ByteArray := prog_1_method_9_code
def y_mr_cost : MethodName := ⟨"MoverRoom", "cost", "(I)I"⟩
abbrev w_mr_cost : List Cond := .code y_mr_cost b_mr_cost 2 (some .int) :: gw
abbrev b_mr_at : ByteArray := prog_1_method_10_code
def y_mr_at : MethodName := ⟨"MoverRoom", "at", "(II)I"⟩
abbrev w_mr_at : List Cond := .code y_mr_at b_mr_at 3 (some .int) :: gw
abbrev b_mr_lay : ByteArray := prog_1_method_11_code
def y_mr_lay : MethodName := ⟨"MoverRoom", "lay", "(III)I"⟩
abbrev w_mr_lay : List Cond := .code y_mr_lay b_mr_lay 4 (some .int) :: gw
abbrev b_mr_judge : ByteArray := prog_1_method_12_code
def y_mr_judge : MethodName := ⟨"MoverRoom", "judge", "(I)I"⟩
abbrev w_mr_judge : List Cond := .code y_mr_judge b_mr_judge 2 (some .int) :: gw
abbrev b_md_init : ByteArray := prog_9_method_1_code
def y_md_init : MethodName := ⟨"MoverRoomModel", "<init>", "()V"⟩
abbrev w_md_init : List Cond := .code y_md_init b_md_init 1 none :: gw
abbrev b_md_size : ByteArray := prog_9_method_2_code
def y_md_size : MethodName := ⟨"MoverRoomModel", "size", "()I"⟩
abbrev w_md_size : List Cond := .code y_md_size b_md_size 1 (some .int) :: gw
abbrev b_md_room : ByteArray := prog_9_method_3_code
def y_md_room : MethodName := ⟨"MoverRoomModel", "room", "(II)I"⟩
abbrev w_md_room : List Cond := .code y_md_room b_md_room 4 (some .int) :: gw
abbrev b_md_isCell : ByteArray := prog_9_method_4_code
def y_md_isCell : MethodName := ⟨"MoverRoomModel", "isCell", "(I)Z"⟩
abbrev w_md_isCell : List Cond := .code y_md_isCell b_md_isCell 2 (some .boolean) :: gw
abbrev b_md_isFree : ByteArray := prog_9_method_5_code
def y_md_isFree : MethodName := ⟨"MoverRoomModel", "isFree", "(I)Z"⟩
abbrev w_md_isFree : List Cond := .code y_md_isFree b_md_isFree 2 (some .boolean) :: gw
abbrev b_md_wall : ByteArray := prog_9_method_6_code
def y_md_wall : MethodName := ⟨"MoverRoomModel", "wall", "(I)I"⟩
abbrev w_md_wall : List Cond := .code y_md_wall b_md_wall 2 (some .int) :: gw
abbrev b_md_freeCells : ByteArray := prog_9_method_7_code
def y_md_freeCells : MethodName := ⟨"MoverRoomModel", "freeCells", "()I"⟩
abbrev w_md_freeCells : List Cond := .code y_md_freeCells b_md_freeCells 3 (some .int) :: gw
abbrev b_md_mover : ByteArray := prog_9_method_8_code
def y_md_mover : MethodName := ⟨"MoverRoomModel", "mover", "(II)I"⟩
abbrev w_md_mover : List Cond := .code y_md_mover b_md_mover 6 (some .int) :: gw
abbrev b_md_clear : ByteArray := prog_9_method_9_code
def y_md_clear : MethodName := ⟨"MoverRoomModel", "clear", "()I"⟩
abbrev w_md_clear : List Cond := .code y_md_clear b_md_clear 2 (some .int) :: gw
abbrev b_md_isMover : ByteArray := prog_9_method_12_code
def y_md_isMover : MethodName := ⟨"MoverRoomModel", "isMover", "(I)Z"⟩
abbrev w_md_isMover : List Cond := .code y_md_isMover b_md_isMover 2 (some .boolean) :: gw
abbrev b_md_distance : ByteArray := prog_9_method_13_code
def y_md_distance : MethodName := ⟨"MoverRoomModel", "distance", "(I)I"⟩
abbrev w_md_distance : List Cond := .code y_md_distance b_md_distance 2 (some .int) :: gw
abbrev b_md_ways : ByteArray := prog_9_method_14_code
def y_md_ways : MethodName := ⟨"MoverRoomModel", "ways", "(II)J"⟩
abbrev w_md_ways : List Cond := .code y_md_ways b_md_ways 6 (some .long) :: gw
abbrev b_md_solve : ByteArray := prog_9_method_29_code
def y_md_solve : MethodName := ⟨"MoverRoomModel", "solve", "(I)I"⟩
abbrev w_md_solve : List Cond := .code y_md_solve b_md_solve 5 (some .int) :: gw
abbrev b_md_cost : ByteArray := prog_9_method_35_code
def y_md_cost : MethodName := ⟨"MoverRoomModel", "cost", "(I)I"⟩
abbrev w_md_cost : List Cond := .code y_md_cost b_md_cost 2 (some .int) :: gw
abbrev b_md_at : ByteArray := prog_9_method_36_code
def y_md_at : MethodName := ⟨"MoverRoomModel", "at", "(II)I"⟩
abbrev w_md_at : List Cond := .code y_md_at b_md_at 3 (some .int) :: gw
abbrev b_md_lay : ByteArray := prog_9_method_37_code
def y_md_lay : MethodName := ⟨"MoverRoomModel", "lay", "(III)I"⟩
abbrev w_md_lay : List Cond := .code y_md_lay b_md_lay 5 (some .int) :: gw
abbrev b_md_look : ByteArray := prog_9_method_41_code
def y_md_look : MethodName := ⟨"MoverRoomModel", "look", "()V"⟩
abbrev w_md_look : List Cond := .code y_md_look b_md_look 4 none :: gw
abbrev b_md_judge : ByteArray := prog_9_method_42_code
def y_md_judge : MethodName := ⟨"MoverRoomModel", "judge", "(I)I"⟩
abbrev w_md_judge : List Cond := .code y_md_judge b_md_judge 2 (some .int) :: gw
abbrev b_ar_fillI : ByteArray := prog_11_method_103_code
def y_ar_fillI : MethodName := ⟨"java/util/Arrays", "fill", "([II)V"⟩
abbrev w_ar_fillI : List Cond := .code y_ar_fillI b_ar_fillI 4 none :: gw
abbrev b_ar_fillJ : ByteArray := prog_11_method_101_code
def y_ar_fillJ : MethodName := ⟨"java/util/Arrays", "fill", "([JJ)V"⟩
abbrev w_ar_fillJ : List Cond := .code y_ar_fillJ b_ar_fillJ 5 none :: gw
abbrev b_md_isBeside : ByteArray := prog_9_method_10_code
def y_md_isBeside : MethodName := ⟨"MoverRoomModel", "isBeside", "(II)Z"⟩
abbrev w_md_isBeside : List Cond := .code y_md_isBeside b_md_isBeside 5 (some .boolean) :: gw
abbrev b_md_findFar : ByteArray := prog_9_method_11_code
def y_md_findFar : MethodName := ⟨"MoverRoomModel", "findFar", "(I)V"⟩
abbrev w_md_findFar : List Cond := .code y_md_findFar b_md_findFar 5 none :: gw
abbrev b_md_number : ByteArray := prog_9_method_15_code
def y_md_number : MethodName := ⟨"MoverRoomModel", "number", "()V"⟩
abbrev w_md_number : List Cond := .code y_md_number b_md_number 3 none :: gw
abbrev b_md_placesOf : ByteArray := prog_9_method_16_code
def y_md_placesOf : MethodName := ⟨"MoverRoomModel", "placesOf", "([I)I"⟩
abbrev w_md_placesOf : List Cond := .code y_md_placesOf b_md_placesOf 4 (some .int) :: gw
abbrev b_md_open : ByteArray := prog_9_method_17_code
def y_md_open : MethodName := ⟨"MoverRoomModel", "open", "(I)V"⟩
abbrev w_md_open : List Cond := .code y_md_open b_md_open 4 none :: gw
abbrev b_md_rests : ByteArray := prog_9_method_18_code
def y_md_rests : MethodName := ⟨"MoverRoomModel", "rests", "(II)Z"⟩
abbrev w_md_rests : List Cond := .code y_md_rests b_md_rests 2 (some .boolean) :: gw
abbrev b_md_firstChoice : ByteArray := prog_9_method_19_code
def y_md_firstChoice : MethodName := ⟨"MoverRoomModel", "firstChoice", "()V"⟩
abbrev w_md_firstChoice : List Cond := .code y_md_firstChoice b_md_firstChoice 2 none :: gw
abbrev b_md_choices : ByteArray := prog_9_method_20_code
def y_md_choices : MethodName := ⟨"MoverRoomModel", "choices", "(II)I"⟩
abbrev w_md_choices : List Cond := .code y_md_choices b_md_choices 3 (some .int) :: gw
abbrev b_md_choose : ByteArray := prog_9_method_21_code
def y_md_choose : MethodName := ⟨"MoverRoomModel", "choose", "(I)V"⟩
abbrev w_md_choose : List Cond := .code y_md_choose b_md_choose 3 none :: gw
abbrev b_md_nextChoice : ByteArray := prog_9_method_22_code
def y_md_nextChoice : MethodName := ⟨"MoverRoomModel", "nextChoice", "(I)Z"⟩
abbrev w_md_nextChoice : List Cond := .code y_md_nextChoice b_md_nextChoice 3 (some .boolean) :: gw
abbrev b_md_meet : ByteArray := prog_9_method_23_code
def y_md_meet : MethodName := ⟨"MoverRoomModel", "meet", "()Z"⟩
abbrev w_md_meet : List Cond := .code y_md_meet b_md_meet 4 (some .boolean) :: gw
abbrev b_md_bits : ByteArray := prog_9_method_24_code
def y_md_bits : MethodName := ⟨"MoverRoomModel", "size", "(I)I"⟩
abbrev w_md_bits : List Cond := .code y_md_bits b_md_bits 2 (some .int) :: gw
abbrev b_md_lower : ByteArray := prog_9_method_25_code
def y_md_lower : MethodName := ⟨"MoverRoomModel", "lower", "(III)V"⟩
abbrev w_md_lower : List Cond := .code y_md_lower b_md_lower 4 none :: gw
abbrev b_md_relax : ByteArray := prog_9_method_26_code
def y_md_relax : MethodName := ⟨"MoverRoomModel", "relax", "(II)V"⟩
abbrev w_md_relax : List Cond := .code y_md_relax b_md_relax 6 none :: gw
abbrev b_md_findPays : ByteArray := prog_9_method_28_code
def y_md_findPays : MethodName := ⟨"MoverRoomModel", "findPays", "(I)V"⟩
abbrev w_md_findPays : List Cond := .code y_md_findPays b_md_findPays 6 none :: gw
abbrev b_md_mayRest : ByteArray := prog_9_method_30_code
def y_md_mayRest : MethodName := ⟨"MoverRoomModel", "mayRest", "(I[I)Z"⟩
abbrev w_md_mayRest : List Cond := .code y_md_mayRest b_md_mayRest 5 (some .boolean) :: gw
abbrev b_md_write : ByteArray := prog_9_method_31_code
def y_md_write : MethodName := ⟨"MoverRoomModel", "write", "(I[I)V"⟩
abbrev w_md_write : List Cond := .code y_md_write b_md_write 4 none :: gw
abbrev b_md_walk : ByteArray := prog_9_method_32_code
def y_md_walk : MethodName := ⟨"MoverRoomModel", "walk", "(I)V"⟩
abbrev w_md_walk : List Cond := .code y_md_walk b_md_walk 5 none :: gw
abbrev b_md_goesOn : ByteArray := prog_9_method_33_code
def y_md_goesOn : MethodName := ⟨"MoverRoomModel", "goesOn", "(I)Z"⟩
abbrev w_md_goesOn : List Cond := .code y_md_goesOn b_md_goesOn 8 (some .boolean) :: gw
abbrev b_md_stays : ByteArray := prog_9_method_34_code
def y_md_stays : MethodName := ⟨"MoverRoomModel", "stays", "(I)Z"⟩
abbrev w_md_stays : List Cond := .code y_md_stays b_md_stays 4 (some .boolean) :: gw
abbrev b_md_place : ByteArray := prog_9_method_38_code
def y_md_place : MethodName := ⟨"MoverRoomModel", "place", "(II)I"⟩
abbrev w_md_place : List Cond := .code y_md_place b_md_place 5 (some .int) :: gw
abbrev b_md_isWrong : ByteArray := prog_9_method_39_code
def y_md_isWrong : MethodName := ⟨"MoverRoomModel", "isWrong", "(II)Z"⟩
abbrev w_md_isWrong : List Cond := .code y_md_isWrong b_md_isWrong 5 (some .boolean) :: gw
abbrev b_md_wrong : ByteArray := prog_9_method_40_code
def y_md_wrong : MethodName := ⟨"MoverRoomModel", "wrong", "(IIII)V"⟩
abbrev w_md_wrong : List Cond := .code y_md_wrong b_md_wrong 5 none :: gw
abbrev b_cr_wayFromStart : ByteArray := prog_2_method_6_code
def y_cr_wayFromStart : MethodName := ⟨"MoverRoom$Crew", "wayFromStart", "(I)I"⟩
abbrev w_cr_wayFromStart : List Cond := .code y_cr_wayFromStart b_cr_wayFromStart 2 (some .int) :: gw
abbrev b_cr_countWays : ByteArray := prog_2_method_8_code
def y_cr_countWays : MethodName := ⟨"MoverRoom$Crew", "countWays", "(II)J"⟩
abbrev w_cr_countWays : List Cond := .code y_cr_countWays b_cr_countWays 6 (some .long) :: gw
abbrev b_cr_spreadCounts : ByteArray := prog_2_method_9_code
def y_cr_spreadCounts : MethodName := ⟨"MoverRoom$Crew", "spreadCounts", "()V"⟩
abbrev w_cr_spreadCounts : List Cond := .code y_cr_spreadCounts b_cr_spreadCounts 2 none :: gw
abbrev b_cr_countsBeside : ByteArray := prog_2_method_10_code
def y_cr_countsBeside : MethodName := ⟨"MoverRoom$Crew", "countsBeside", "(I)J"⟩
abbrev w_cr_countsBeside : List Cond := .code y_cr_countsBeside b_cr_countsBeside 5 (some .long) :: gw
abbrev b_fl_leads : ByteArray := prog_3_method_6_code
def y_fl_leads : MethodName := ⟨"MoverRoom$Floor", "leads", "(II)Z"⟩
abbrev w_fl_leads : List Cond := .code y_fl_leads b_fl_leads 4 (some .boolean) :: gw
abbrev b_ld_isNowhere : ByteArray := prog_4_method_4_code
def y_ld_isNowhere : MethodName := ⟨"MoverRoom$LaidPlan", "isNowhere", "(I)Z"⟩
abbrev w_ld_isNowhere : List Cond := .code y_ld_isNowhere b_ld_isNowhere 2 (some .boolean) :: gw
abbrev b_ld_placeOf : ByteArray := prog_4_method_5_code
def y_ld_placeOf : MethodName := ⟨"MoverRoom$LaidPlan", "placeOf", "(II)I"⟩
abbrev w_ld_placeOf : List Cond := .code y_ld_placeOf b_ld_placeOf 3 (some .int) :: gw
abbrev b_le_get : ByteArray := prog_5_method_3_code
def y_le_get : MethodName := ⟨"MoverRoom$Levels", "get", "(I)I"⟩
abbrev w_le_get : List Cond := .code y_le_get b_le_get 2 (some .int) :: gw
abbrev b_le_put : ByteArray := prog_5_method_4_code
def y_le_put : MethodName := ⟨"MoverRoom$Levels", "put", "(II)V"⟩
abbrev w_le_put : List Cond := .code y_le_put b_le_put 4 none :: gw
abbrev b_le_shiftOf : ByteArray := prog_5_method_5_code
def y_le_shiftOf : MethodName := ⟨"MoverRoom$Levels", "shiftOf", "(I)I"⟩
abbrev w_le_shiftOf : List Cond := .code y_le_shiftOf b_le_shiftOf 2 (some .int) :: gw
abbrev b_pn_costOf : ByteArray := prog_6_method_4_code
def y_pn_costOf : MethodName := ⟨"MoverRoom$Planner", "costOf", "(I)I"⟩
abbrev w_pn_costOf : List Cond := .code y_pn_costOf b_pn_costOf 2 (some .int) :: gw
abbrev b_pn_placeOf : ByteArray := prog_6_method_5_code
def y_pn_placeOf : MethodName := ⟨"MoverRoom$Planner", "placeOf", "(II)I"⟩
abbrev w_pn_placeOf : List Cond := .code y_pn_placeOf b_pn_placeOf 3 (some .int) :: gw
abbrev b_pn_chooseNext : ByteArray := prog_6_method_9_code
def y_pn_chooseNext : MethodName := ⟨"MoverRoom$Planner", "chooseNext", "(II)Z"⟩
abbrev w_pn_chooseNext : List Cond := .code y_pn_chooseNext b_pn_chooseNext 5 (some .boolean) :: gw
abbrev b_pn_homeSince : ByteArray := prog_6_method_12_code
def y_pn_homeSince : MethodName := ⟨"MoverRoom$Planner", "homeSince", "(II)I"⟩
abbrev w_pn_homeSince : List Cond := .code y_pn_homeSince b_pn_homeSince 4 (some .int) :: gw
abbrev b_pn_wayLeft : ByteArray := prog_6_method_13_code
def y_pn_wayLeft : MethodName := ⟨"MoverRoom$Planner", "wayLeft", "(II)I"⟩
abbrev w_pn_wayLeft : List Cond := .code y_pn_wayLeft b_pn_wayLeft 3 (some .int) :: gw
abbrev b_pn_reachesEndMoving : ByteArray := prog_6_method_15_code
def y_pn_reachesEndMoving : MethodName := ⟨"MoverRoom$Planner", "reachesEndMoving", "(IIII)Z"⟩
abbrev w_pn_reachesEndMoving : List Cond := .code y_pn_reachesEndMoving b_pn_reachesEndMoving 13 (some .boolean) :: gw
abbrev b_pn_stateAt : ByteArray := prog_6_method_16_code
def y_pn_stateAt : MethodName := ⟨"MoverRoom$Planner", "stateAt", "(I)I"⟩
abbrev w_pn_stateAt : List Cond := .code y_pn_stateAt b_pn_stateAt 6 (some .int) :: gw
abbrev b_pn_goes : ByteArray := prog_6_method_17_code
def y_pn_goes : MethodName := ⟨"MoverRoom$Planner", "goes", "([I[III)Z"⟩
abbrev w_pn_goes : List Cond := .code y_pn_goes b_pn_goes 5 (some .boolean) :: gw
abbrev b_pn_isIn : ByteArray := prog_6_method_18_code
def y_pn_isIn : MethodName := ⟨"MoverRoom$Planner", "isIn", "(II)Z"⟩
abbrev w_pn_isIn : List Cond := .code y_pn_isIn b_pn_isIn 2 (some .boolean) :: gw
abbrev b_vd_strays : ByteArray := prog_7_method_5_code
def y_vd_strays : MethodName := ⟨"MoverRoom$Verdict", "strays", "(II)Z"⟩
abbrev w_vd_strays : List Cond := .code y_vd_strays b_vd_strays 4 (some .boolean) :: gw
abbrev b_vd_share : ByteArray := prog_7_method_7_code
def y_vd_share : MethodName := ⟨"MoverRoom$Verdict", "share", "(III)Z"⟩
abbrev w_vd_share : List Cond := .code y_vd_share b_vd_share 4 (some .boolean) :: gw
abbrev b_vd_exchange : ByteArray := prog_7_method_8_code
def y_vd_exchange : MethodName := ⟨"MoverRoom$Verdict", "exchange", "(III)Z"⟩
abbrev w_vd_exchange : List Cond := .code y_vd_exchange b_vd_exchange 4 (some .boolean) :: gw
abbrev b_ma_min : ByteArray := prog_10_method_69_code
def y_ma_min : MethodName := ⟨"java/lang/Math", "min", "(II)I"⟩
abbrev w_ma_min : List Cond := .code y_ma_min b_ma_min 2 (some .int) :: gw
theorem gd_c {y : MethodName} {b : ByteArray} {n : Nat} {r : Option FieldType} (h : Cond.code y b n r ∈ gw) : GoodIn gw (Cond.code y b n r :: gw) := fun w hw => (List.mem_cons.mp hw).elim (fun e => by subst e; exact ⟨h, gw_good h⟩) (fun h9 => ⟨h9, gw_good h9⟩)
theorem gd_V {own C : String} {idx : Nat} {y : MethodName} {b : ByteArray} {n : Nat} {r : Option FieldType} (h1 : Cond.methodLink own idx y ∈ gw) (h2 : Cond.instanceMethod y ∈ gw) (h3 : Cond.selects C y y ∈ gw) (h4 : Cond.initialized C ∈ gw) (h5 : Cond.code y b n r ∈ gw) : GoodIn gw (wsV own idx C y (Cond.code y b n r :: gw)) := by
  intro w hw
  rcases List.mem_append.mp hw with h | h
  · have hm : w ∈ gw := by
      simp only [List.mem_cons, List.not_mem_nil, or_false] at h
      rcases h with rfl | rfl | rfl | rfl <;> assumption
    exact ⟨hm, gw_good hm⟩
  · exact gd_c h5 w h
theorem kw_1 : (Jvm.Cond.initialized "MoverRoom") ∈ gw := gw_of 1 (by decide +kernel) (by decide +kernel)
theorem kw_2 : (Jvm.Cond.initialized "MoverRoom$Floor") ∈ gw := gw_of 2 (by decide +kernel) (by decide +kernel)
theorem kw_3 : (Jvm.Cond.initialized "MoverRoom$Crew") ∈ gw := gw_of 3 (by decide +kernel) (by decide +kernel)
theorem kw_4 : (Jvm.Cond.initialized "MoverRoom$Planner") ∈ gw := gw_of 4 (by decide +kernel) (by decide +kernel)
theorem kw_5 : (Jvm.Cond.initialized "MoverRoom$Levels") ∈ gw := gw_of 5 (by decide +kernel) (by decide +kernel)
theorem kw_6 : (Jvm.Cond.initialized "MoverRoom$LaidPlan") ∈ gw := gw_of 6 (by decide +kernel) (by decide +kernel)
theorem kw_7 : (Jvm.Cond.initialized "MoverRoom$Verdict") ∈ gw := gw_of 7 (by decide +kernel) (by decide +kernel)
theorem kw_8 : (Jvm.Cond.initialized "MoverRoomModel") ∈ gw := gw_of 8 (by decide +kernel) (by decide +kernel)
theorem kw_9 : (Jvm.Cond.initialized "java/util/Arrays") ∈ gw := gw_of 9 (by decide +kernel) (by decide +kernel)
theorem kw_10 : (Jvm.Cond.initialized "java/lang/Math") ∈ gw := gw_of 10 (by decide +kernel) (by decide +kernel)
theorem kw_12 : (Jvm.Cond.instantiable "MoverRoom" (5 : Nat)) ∈ gw := gw_of 12 (by decide +kernel) (by decide +kernel)
theorem kw_16 : (Jvm.Cond.methodLink "MoverRoom" (3 : Nat) ({ cls := "java/lang/Object", name := "<init>", desc := "()V" } : Jvm.MethodName)) ∈ gw := gw_of 16 (by decide +kernel) (by decide +kernel)
theorem kw_17 : (Jvm.Cond.instanceMethod ({ cls := "java/lang/Object", name := "<init>", desc := "()V" } : Jvm.MethodName)) ∈ gw := gw_of 17 (by decide +kernel) (by decide +kernel)
theorem kw_18 : (Jvm.Cond.code ({ cls := "java/lang/Object", name := "<init>", desc := "()V" } : Jvm.MethodName) object_method_1_code (1 : Nat) (Option.none : Option Jvm.ClassFile.FieldType)) ∈ gw := gw_of 18 (by decide +kernel) (by decide +kernel)
theorem kw_19 : (Jvm.Cond.classLink "MoverRoom" (9 : Nat) "MoverRoom$Floor") ∈ gw := gw_of 19 (by decide +kernel) (by decide +kernel)
theorem kw_20 : (Jvm.Cond.instantiable "MoverRoom$Floor" (7 : Nat)) ∈ gw := gw_of 20 (by decide +kernel) (by decide +kernel)
theorem kw_21 : (Jvm.Cond.methodLink "MoverRoom" (11 : Nat) ({ cls := "MoverRoom$Floor", name := "<init>", desc := "()V" } : Jvm.MethodName)) ∈ gw := gw_of 21 (by decide +kernel) (by decide +kernel)
theorem kw_22 : (Jvm.Cond.instanceMethod ({ cls := "MoverRoom$Floor", name := "<init>", desc := "()V" } : Jvm.MethodName)) ∈ gw := gw_of 22 (by decide +kernel) (by decide +kernel)
theorem kw_23 : (Jvm.Cond.code ({ cls := "MoverRoom$Floor", name := "<init>", desc := "()V" } : Jvm.MethodName) prog_3_method_1_code (1 : Nat) (Option.none : Option Jvm.ClassFile.FieldType)) ∈ gw := gw_of 23 (by decide +kernel) (by decide +kernel)
theorem kw_24 : (Jvm.Cond.methodLink "MoverRoom$Floor" (3 : Nat) ({ cls := "java/lang/Object", name := "<init>", desc := "()V" } : Jvm.MethodName)) ∈ gw := gw_of 24 (by decide +kernel) (by decide +kernel)
theorem kw_25 : (Jvm.Cond.classLink "MoverRoom$Floor" (22 : Nat) "[[I") ∈ gw := gw_of 25 (by decide +kernel) (by decide +kernel)
theorem kw_27 : (Jvm.Cond.methodLink "MoverRoom$Floor" (27 : Nat) ({ cls := "MoverRoom$Floor", name := "build", desc := "(II)V" } : Jvm.MethodName)) ∈ gw := gw_of 27 (by decide +kernel) (by decide +kernel)
theorem kw_28 : (Jvm.Cond.instanceMethod ({ cls := "MoverRoom$Floor", name := "build", desc := "(II)V" } : Jvm.MethodName)) ∈ gw := gw_of 28 (by decide +kernel) (by decide +kernel)
theorem kw_29 : (Jvm.Cond.selects "MoverRoom$Floor" ({ cls := "MoverRoom$Floor", name := "build", desc := "(II)V" } : Jvm.MethodName) ({ cls := "MoverRoom$Floor", name := "build", desc := "(II)V" } : Jvm.MethodName)) ∈ gw := gw_of 29 (by decide +kernel) (by decide +kernel)
theorem kw_30 : (Jvm.Cond.code ({ cls := "MoverRoom$Floor", name := "build", desc := "(II)V" } : Jvm.MethodName) prog_3_method_2_code (4 : Nat) (Option.none : Option Jvm.ClassFile.FieldType)) ∈ gw := gw_of 30 (by decide +kernel) (by decide +kernel)
theorem kw_31 : (Jvm.Cond.methodLink "MoverRoom$Floor" (38 : Nat) ({ cls := "MoverRoom$Floor", name := "chart", desc := "()V" } : Jvm.MethodName)) ∈ gw := gw_of 31 (by decide +kernel) (by decide +kernel)
theorem kw_33 : (Jvm.Cond.instanceMethod ({ cls := "MoverRoom$Floor", name := "chart", desc := "()V" } : Jvm.MethodName)) ∈ gw := gw_of 33 (by decide +kernel) (by decide +kernel)
theorem kw_34 : (Jvm.Cond.code ({ cls := "MoverRoom$Floor", name := "chart", desc := "()V" } : Jvm.MethodName) prog_3_method_7_code (3 : Nat) (Option.none : Option Jvm.ClassFile.FieldType)) ∈ gw := gw_of 34 (by decide +kernel) (by decide +kernel)
theorem kw_35 : (Jvm.Cond.methodLink "MoverRoom$Floor" (51 : Nat) ({ cls := "MoverRoom$Floor", name := "chartCell", desc := "(II)V" } : Jvm.MethodName)) ∈ gw := gw_of 35 (by decide +kernel) (by decide +kernel)
theorem kw_37 : (Jvm.Cond.instanceMethod ({ cls := "MoverRoom$Floor", name := "chartCell", desc := "(II)V" } : Jvm.MethodName)) ∈ gw := gw_of 37 (by decide +kernel) (by decide +kernel)
theorem kw_38 : (Jvm.Cond.code ({ cls := "MoverRoom$Floor", name := "chartCell", desc := "(II)V" } : Jvm.MethodName) prog_3_method_8_code (3 : Nat) (Option.none : Option Jvm.ClassFile.FieldType)) ∈ gw := gw_of 38 (by decide +kernel) (by decide +kernel)
theorem kw_39 : (Jvm.Cond.methodLink "MoverRoom$Floor" (54 : Nat) ({ cls := "MoverRoom$Floor", name := "addStep", desc := "(II)V" } : Jvm.MethodName)) ∈ gw := gw_of 39 (by decide +kernel) (by decide +kernel)
theorem kw_41 : (Jvm.Cond.instanceMethod ({ cls := "MoverRoom$Floor", name := "addStep", desc := "(II)V" } : Jvm.MethodName)) ∈ gw := gw_of 41 (by decide +kernel) (by decide +kernel)
theorem kw_42 : (Jvm.Cond.code ({ cls := "MoverRoom$Floor", name := "addStep", desc := "(II)V" } : Jvm.MethodName) prog_3_method_9_code (3 : Nat) (Option.none : Option Jvm.ClassFile.FieldType)) ∈ gw := gw_of 42 (by decide +kernel) (by decide +kernel)
theorem kw_43 : (Jvm.Cond.methodLink "MoverRoom$Floor" (45 : Nat) ({ cls := "MoverRoom$Floor", name := "isFree", desc := "(I)Z" } : Jvm.MethodName)) ∈ gw := gw_of 43 (by decide +kernel) (by decide +kernel)
theorem kw_44 : (Jvm.Cond.instanceMethod ({ cls := "MoverRoom$Floor", name := "isFree", desc := "(I)Z" } : Jvm.MethodName)) ∈ gw := gw_of 44 (by decide +kernel) (by decide +kernel)
theorem kw_45 : (Jvm.Cond.selects "MoverRoom$Floor" ({ cls := "MoverRoom$Floor", name := "isFree", desc := "(I)Z" } : Jvm.MethodName) ({ cls := "MoverRoom$Floor", name := "isFree", desc := "(I)Z" } : Jvm.MethodName)) ∈ gw := gw_of 45 (by decide +kernel) (by decide +kernel)
theorem kw_46 : (Jvm.Cond.code ({ cls := "MoverRoom$Floor", name := "isFree", desc := "(I)Z" } : Jvm.MethodName) prog_3_method_5_code (2 : Nat) (Option.some Jvm.ClassFile.FieldType.boolean)) ∈ gw := gw_of 46 (by decide +kernel) (by decide +kernel)
theorem kw_47 : (Jvm.Cond.methodLink "MoverRoom$Floor" (41 : Nat) ({ cls := "MoverRoom$Floor", name := "has", desc := "(I)Z" } : Jvm.MethodName)) ∈ gw := gw_of 47 (by decide +kernel) (by decide +kernel)
theorem kw_48 : (Jvm.Cond.instanceMethod ({ cls := "MoverRoom$Floor", name := "has", desc := "(I)Z" } : Jvm.MethodName)) ∈ gw := gw_of 48 (by decide +kernel) (by decide +kernel)
theorem kw_49 : (Jvm.Cond.selects "MoverRoom$Floor" ({ cls := "MoverRoom$Floor", name := "has", desc := "(I)Z" } : Jvm.MethodName) ({ cls := "MoverRoom$Floor", name := "has", desc := "(I)Z" } : Jvm.MethodName)) ∈ gw := gw_of 49 (by decide +kernel) (by decide +kernel)
theorem kw_50 : (Jvm.Cond.code ({ cls := "MoverRoom$Floor", name := "has", desc := "(I)Z" } : Jvm.MethodName) prog_3_method_4_code (2 : Nat) (Option.some Jvm.ClassFile.FieldType.boolean)) ∈ gw := gw_of 50 (by decide +kernel) (by decide +kernel)
theorem kw_51 : (Jvm.Cond.fieldLink "MoverRoom$Floor" (31 : Nat) "MoverRoom$Floor" "width" "I") ∈ gw := gw_of 51 (by decide +kernel) (by decide +kernel)
theorem kw_52 : (Jvm.Cond.fieldLink "MoverRoom$Floor" (35 : Nat) "MoverRoom$Floor" "height" "I") ∈ gw := gw_of 52 (by decide +kernel) (by decide +kernel)
theorem kw_53 : (Jvm.Cond.fieldLink "MoverRoom$Floor" (9 : Nat) "MoverRoom$Floor" "walls" "[Z") ∈ gw := gw_of 53 (by decide +kernel) (by decide +kernel)
theorem kw_54 : (Jvm.Cond.fieldLink "MoverRoom$Crew" (41 : Nat) "MoverRoom$Floor" "freeCount" "I") ∈ gw := gw_of 54 (by decide +kernel) (by decide +kernel)
theorem kw_55 : (Jvm.Cond.fieldLink "MoverRoom$Floor" (48 : Nat) "MoverRoom$Floor" "freeCount" "I") ∈ gw := gw_of 55 (by decide +kernel) (by decide +kernel)
theorem kw_56 : (Jvm.Cond.fieldLink "MoverRoom$Planner" (142 : Nat) "MoverRoom$Floor" "freeCount" "I") ∈ gw := gw_of 56 (by decide +kernel) (by decide +kernel)
theorem kw_57 : (Jvm.Cond.fieldLink "MoverRoom$Floor" (15 : Nat) "MoverRoom$Floor" "rank" "[I") ∈ gw := gw_of 57 (by decide +kernel) (by decide +kernel)
theorem kw_58 : (Jvm.Cond.fieldLink "MoverRoom$Planner" (145 : Nat) "MoverRoom$Floor" "rank" "[I") ∈ gw := gw_of 58 (by decide +kernel) (by decide +kernel)
theorem kw_59 : (Jvm.Cond.fieldLink "MoverRoom$Floor" (19 : Nat) "MoverRoom$Floor" "stepCount" "[I") ∈ gw := gw_of 59 (by decide +kernel) (by decide +kernel)
theorem kw_60 : (Jvm.Cond.fieldLink "MoverRoom$Planner" (99 : Nat) "MoverRoom$Floor" "stepCount" "[I") ∈ gw := gw_of 60 (by decide +kernel) (by decide +kernel)
theorem kw_61 : (Jvm.Cond.fieldLink "MoverRoom$Crew" (71 : Nat) "MoverRoom$Floor" "stepCount" "[I") ∈ gw := gw_of 61 (by decide +kernel) (by decide +kernel)
theorem kw_62 : (Jvm.Cond.fieldLink "MoverRoom$Floor" (24 : Nat) "MoverRoom$Floor" "steps" "[[I") ∈ gw := gw_of 62 (by decide +kernel) (by decide +kernel)
theorem kw_63 : (Jvm.Cond.fieldLink "MoverRoom$Planner" (104 : Nat) "MoverRoom$Floor" "steps" "[[I") ∈ gw := gw_of 63 (by decide +kernel) (by decide +kernel)
theorem kw_64 : (Jvm.Cond.fieldLink "MoverRoom$Crew" (74 : Nat) "MoverRoom$Floor" "steps" "[[I") ∈ gw := gw_of 64 (by decide +kernel) (by decide +kernel)
theorem kw_80 : (Jvm.Cond.arrayClass Jvm.ClassFile.FieldType.boolean) ∈ gw := gw_of 80 (by decide +kernel) (by decide +kernel)
theorem kw_81 : (Jvm.Cond.arrayClass Jvm.ClassFile.FieldType.int) ∈ gw := gw_of 81 (by decide +kernel) (by decide +kernel)
theorem kw_82 : (Jvm.Cond.classLink "MoverRoom" (16 : Nat) "MoverRoom$Crew") ∈ gw := gw_of 82 (by decide +kernel) (by decide +kernel)
theorem kw_83 : (Jvm.Cond.instantiable "MoverRoom$Crew" (8 : Nat)) ∈ gw := gw_of 83 (by decide +kernel) (by decide +kernel)
theorem kw_84 : (Jvm.Cond.methodLink "MoverRoom" (18 : Nat) ({ cls := "MoverRoom$Crew", name := "<init>", desc := "(LMoverRoom$Floor;)V" } : Jvm.MethodName)) ∈ gw := gw_of 84 (by decide +kernel) (by decide +kernel)
theorem kw_85 : (Jvm.Cond.instanceMethod ({ cls := "MoverRoom$Crew", name := "<init>", desc := "(LMoverRoom$Floor;)V" } : Jvm.MethodName)) ∈ gw := gw_of 85 (by decide +kernel) (by decide +kernel)
theorem kw_86 : (Jvm.Cond.code ({ cls := "MoverRoom$Crew", name := "<init>", desc := "(LMoverRoom$Floor;)V" } : Jvm.MethodName) prog_2_method_1_code (2 : Nat) (Option.none : Option Jvm.ClassFile.FieldType)) ∈ gw := gw_of 86 (by decide +kernel) (by decide +kernel)
theorem kw_87 : (Jvm.Cond.methodLink "MoverRoom$Crew" (3 : Nat) ({ cls := "java/lang/Object", name := "<init>", desc := "()V" } : Jvm.MethodName)) ∈ gw := gw_of 87 (by decide +kernel) (by decide +kernel)
theorem kw_88 : (Jvm.Cond.classLink "MoverRoom$Crew" (18 : Nat) "[[I") ∈ gw := gw_of 88 (by decide +kernel) (by decide +kernel)
theorem kw_89 : (Jvm.Cond.fieldLink "MoverRoom$Crew" (33 : Nat) "MoverRoom$Crew" "floor" "LMoverRoom$Floor;") ∈ gw := gw_of 89 (by decide +kernel) (by decide +kernel)
theorem kw_90 : (Jvm.Cond.fieldLink "MoverRoom$Crew" (37 : Nat) "MoverRoom$Crew" "count" "I") ∈ gw := gw_of 90 (by decide +kernel) (by decide +kernel)
theorem kw_91 : (Jvm.Cond.fieldLink "MoverRoom$Verdict" (48 : Nat) "MoverRoom$Crew" "count" "I") ∈ gw := gw_of 91 (by decide +kernel) (by decide +kernel)
theorem kw_92 : (Jvm.Cond.fieldLink "MoverRoom" (80 : Nat) "MoverRoom$Crew" "count" "I") ∈ gw := gw_of 92 (by decide +kernel) (by decide +kernel)
theorem kw_93 : (Jvm.Cond.fieldLink "MoverRoom$Planner" (83 : Nat) "MoverRoom$Crew" "count" "I") ∈ gw := gw_of 93 (by decide +kernel) (by decide +kernel)
theorem kw_94 : (Jvm.Cond.fieldLink "MoverRoom$Crew" (9 : Nat) "MoverRoom$Crew" "starts" "[I") ∈ gw := gw_of 94 (by decide +kernel) (by decide +kernel)
theorem kw_95 : (Jvm.Cond.fieldLink "MoverRoom$Verdict" (67 : Nat) "MoverRoom$Crew" "starts" "[I") ∈ gw := gw_of 95 (by decide +kernel) (by decide +kernel)
theorem kw_96 : (Jvm.Cond.fieldLink "MoverRoom$Planner" (86 : Nat) "MoverRoom$Crew" "starts" "[I") ∈ gw := gw_of 96 (by decide +kernel) (by decide +kernel)
theorem kw_97 : (Jvm.Cond.fieldLink "MoverRoom$Crew" (15 : Nat) "MoverRoom$Crew" "goals" "[I") ∈ gw := gw_of 97 (by decide +kernel) (by decide +kernel)
theorem kw_98 : (Jvm.Cond.fieldLink "MoverRoom$Verdict" (76 : Nat) "MoverRoom$Crew" "goals" "[I") ∈ gw := gw_of 98 (by decide +kernel) (by decide +kernel)
theorem kw_99 : (Jvm.Cond.fieldLink "MoverRoom$Planner" (96 : Nat) "MoverRoom$Crew" "goals" "[I") ∈ gw := gw_of 99 (by decide +kernel) (by decide +kernel)
theorem kw_100 : (Jvm.Cond.fieldLink "MoverRoom$Crew" (20 : Nat) "MoverRoom$Crew" "toGoal" "[[I") ∈ gw := gw_of 100 (by decide +kernel) (by decide +kernel)
theorem kw_101 : (Jvm.Cond.fieldLink "MoverRoom$Planner" (124 : Nat) "MoverRoom$Crew" "toGoal" "[[I") ∈ gw := gw_of 101 (by decide +kernel) (by decide +kernel)
theorem kw_102 : (Jvm.Cond.fieldLink "MoverRoom$Crew" (23 : Nat) "MoverRoom$Crew" "queue" "[I") ∈ gw := gw_of 102 (by decide +kernel) (by decide +kernel)
theorem kw_103 : (Jvm.Cond.fieldLink "MoverRoom$Crew" (26 : Nat) "MoverRoom$Crew" "counts" "[J") ∈ gw := gw_of 103 (by decide +kernel) (by decide +kernel)
theorem kw_104 : (Jvm.Cond.fieldLink "MoverRoom$Crew" (30 : Nat) "MoverRoom$Crew" "nextCounts" "[J") ∈ gw := gw_of 104 (by decide +kernel) (by decide +kernel)
theorem kw_122 : (Jvm.Cond.arrayClass Jvm.ClassFile.FieldType.long) ∈ gw := gw_of 122 (by decide +kernel) (by decide +kernel)
theorem kw_123 : (Jvm.Cond.classLink "MoverRoom" (25 : Nat) "MoverRoom$Planner") ∈ gw := gw_of 123 (by decide +kernel) (by decide +kernel)
theorem kw_124 : (Jvm.Cond.instantiable "MoverRoom$Planner" (11 : Nat)) ∈ gw := gw_of 124 (by decide +kernel) (by decide +kernel)
theorem kw_125 : (Jvm.Cond.methodLink "MoverRoom" (27 : Nat) ({ cls := "MoverRoom$Planner", name := "<init>", desc := "(LMoverRoom$Floor;LMoverRoom$Crew;)V" } : Jvm.MethodName)) ∈ gw := gw_of 125 (by decide +kernel) (by decide +kernel)
theorem kw_126 : (Jvm.Cond.instanceMethod ({ cls := "MoverRoom$Planner", name := "<init>", desc := "(LMoverRoom$Floor;LMoverRoom$Crew;)V" } : Jvm.MethodName)) ∈ gw := gw_of 126 (by decide +kernel) (by decide +kernel)
theorem kw_127 : (Jvm.Cond.code ({ cls := "MoverRoom$Planner", name := "<init>", desc := "(LMoverRoom$Floor;LMoverRoom$Crew;)V" } : Jvm.MethodName) prog_6_method_1_code (3 : Nat) (Option.none : Option Jvm.ClassFile.FieldType)) ∈ gw := gw_of 127 (by decide +kernel) (by decide +kernel)
theorem kw_128 : (Jvm.Cond.methodLink "MoverRoom$Planner" (3 : Nat) ({ cls := "java/lang/Object", name := "<init>", desc := "()V" } : Jvm.MethodName)) ∈ gw := gw_of 128 (by decide +kernel) (by decide +kernel)
theorem kw_129 : (Jvm.Cond.classLink "MoverRoom$Planner" (9 : Nat) "MoverRoom$Levels") ∈ gw := gw_of 129 (by decide +kernel) (by decide +kernel)
theorem kw_130 : (Jvm.Cond.instantiable "MoverRoom$Levels" (1 : Nat)) ∈ gw := gw_of 130 (by decide +kernel) (by decide +kernel)
theorem kw_132 : (Jvm.Cond.instanceMethod ({ cls := "MoverRoom$Levels", name := "<init>", desc := "()V" } : Jvm.MethodName)) ∈ gw := gw_of 132 (by decide +kernel) (by decide +kernel)
theorem kw_133 : (Jvm.Cond.code ({ cls := "MoverRoom$Levels", name := "<init>", desc := "()V" } : Jvm.MethodName) prog_5_method_1_code (1 : Nat) (Option.none : Option Jvm.ClassFile.FieldType)) ∈ gw := gw_of 133 (by decide +kernel) (by decide +kernel)
theorem kw_134 : (Jvm.Cond.methodLink "MoverRoom$Levels" (3 : Nat) ({ cls := "java/lang/Object", name := "<init>", desc := "()V" } : Jvm.MethodName)) ∈ gw := gw_of 134 (by decide +kernel) (by decide +kernel)
theorem kw_135 : (Jvm.Cond.fieldLink "MoverRoom$Levels" (9 : Nat) "MoverRoom$Levels" "words" "[J") ∈ gw := gw_of 135 (by decide +kernel) (by decide +kernel)
theorem kw_139 : (Jvm.Cond.classLink "MoverRoom$Planner" (18 : Nat) "[[I") ∈ gw := gw_of 139 (by decide +kernel) (by decide +kernel)
theorem kw_140 : (Jvm.Cond.fieldLink "MoverRoom$Planner" (30 : Nat) "MoverRoom$Planner" "floor" "LMoverRoom$Floor;") ∈ gw := gw_of 140 (by decide +kernel) (by decide +kernel)
theorem kw_141 : (Jvm.Cond.fieldLink "MoverRoom$Planner" (34 : Nat) "MoverRoom$Planner" "crew" "LMoverRoom$Crew;") ∈ gw := gw_of 141 (by decide +kernel) (by decide +kernel)
theorem kw_142 : (Jvm.Cond.fieldLink "MoverRoom$Planner" (12 : Nat) "MoverRoom$Planner" "hopeless" "LMoverRoom$Levels;") ∈ gw := gw_of 142 (by decide +kernel) (by decide +kernel)
theorem kw_143 : (Jvm.Cond.fieldLink "MoverRoom$Planner" (20 : Nat) "MoverRoom$Planner" "cells" "[[I") ∈ gw := gw_of 143 (by decide +kernel) (by decide +kernel)
theorem kw_144 : (Jvm.Cond.fieldLink "MoverRoom$Planner" (23 : Nat) "MoverRoom$Planner" "settled" "[I") ∈ gw := gw_of 144 (by decide +kernel) (by decide +kernel)
theorem kw_145 : (Jvm.Cond.fieldLink "MoverRoom$Planner" (27 : Nat) "MoverRoom$Planner" "plan" "[[I") ∈ gw := gw_of 145 (by decide +kernel) (by decide +kernel)
theorem kw_146 : (Jvm.Cond.fieldLink "MoverRoom$Planner" (68 : Nat) "MoverRoom$Planner" "planEnd" "I") ∈ gw := gw_of 146 (by decide +kernel) (by decide +kernel)
theorem kw_147 : (Jvm.Cond.fieldLink "MoverRoom$Planner" (62 : Nat) "MoverRoom$Planner" "planSum" "I") ∈ gw := gw_of 147 (by decide +kernel) (by decide +kernel)
theorem kw_148 : (Jvm.Cond.fieldLink "MoverRoom$Planner" (45 : Nat) "MoverRoom$Planner" "nextMore" "I") ∈ gw := gw_of 148 (by decide +kernel) (by decide +kernel)
theorem kw_149 : (Jvm.Cond.fieldLink "MoverRoom$Planner" (42 : Nat) "MoverRoom$Planner" "known" "Z") ∈ gw := gw_of 149 (by decide +kernel) (by decide +kernel)
theorem kw_150 : (Jvm.Cond.fieldLink "MoverRoom$Planner" (38 : Nat) "MoverRoom$Planner" "found" "Z") ∈ gw := gw_of 150 (by decide +kernel) (by decide +kernel)
theorem kw_151 : (Jvm.Cond.fieldLink "MoverRoom" (98 : Nat) "MoverRoom$Planner" "found" "Z") ∈ gw := gw_of 151 (by decide +kernel) (by decide +kernel)
theorem kw_175 : (Jvm.Cond.classLink "MoverRoom" (34 : Nat) "MoverRoom$LaidPlan") ∈ gw := gw_of 175 (by decide +kernel) (by decide +kernel)
theorem kw_176 : (Jvm.Cond.instantiable "MoverRoom$LaidPlan" (3 : Nat)) ∈ gw := gw_of 176 (by decide +kernel) (by decide +kernel)
theorem kw_178 : (Jvm.Cond.instanceMethod ({ cls := "MoverRoom$LaidPlan", name := "<init>", desc := "()V" } : Jvm.MethodName)) ∈ gw := gw_of 178 (by decide +kernel) (by decide +kernel)
theorem kw_179 : (Jvm.Cond.code ({ cls := "MoverRoom$LaidPlan", name := "<init>", desc := "()V" } : Jvm.MethodName) prog_4_method_1_code (1 : Nat) (Option.none : Option Jvm.ClassFile.FieldType)) ∈ gw := gw_of 179 (by decide +kernel) (by decide +kernel)
theorem kw_180 : (Jvm.Cond.methodLink "MoverRoom$LaidPlan" (3 : Nat) ({ cls := "java/lang/Object", name := "<init>", desc := "()V" } : Jvm.MethodName)) ∈ gw := gw_of 180 (by decide +kernel) (by decide +kernel)
theorem kw_181 : (Jvm.Cond.classLink "MoverRoom$LaidPlan" (9 : Nat) "[[I") ∈ gw := gw_of 181 (by decide +kernel) (by decide +kernel)
theorem kw_182 : (Jvm.Cond.fieldLink "MoverRoom$LaidPlan" (11 : Nat) "MoverRoom$LaidPlan" "cells" "[[I") ∈ gw := gw_of 182 (by decide +kernel) (by decide +kernel)
theorem kw_183 : (Jvm.Cond.fieldLink "MoverRoom$LaidPlan" (16 : Nat) "MoverRoom$LaidPlan" "told" "[I") ∈ gw := gw_of 183 (by decide +kernel) (by decide +kernel)
theorem kw_184 : (Jvm.Cond.fieldLink "MoverRoom$LaidPlan" (20 : Nat) "MoverRoom$LaidPlan" "length" "[I") ∈ gw := gw_of 184 (by decide +kernel) (by decide +kernel)
theorem kw_192 : (Jvm.Cond.classLink "MoverRoom" (41 : Nat) "MoverRoom$Verdict") ∈ gw := gw_of 192 (by decide +kernel) (by decide +kernel)
theorem kw_193 : (Jvm.Cond.instantiable "MoverRoom$Verdict" (7 : Nat)) ∈ gw := gw_of 193 (by decide +kernel) (by decide +kernel)
theorem kw_194 : (Jvm.Cond.methodLink "MoverRoom" (43 : Nat) ({ cls := "MoverRoom$Verdict", name := "<init>", desc := "(LMoverRoom$Floor;LMoverRoom$Crew;LMoverRoom$LaidPlan;)V" } : Jvm.MethodName)) ∈ gw := gw_of 194 (by decide +kernel) (by decide +kernel)
theorem kw_195 : (Jvm.Cond.instanceMethod ({ cls := "MoverRoom$Verdict", name := "<init>", desc := "(LMoverRoom$Floor;LMoverRoom$Crew;LMoverRoom$LaidPlan;)V" } : Jvm.MethodName)) ∈ gw := gw_of 195 (by decide +kernel) (by decide +kernel)
theorem kw_196 : (Jvm.Cond.code ({ cls := "MoverRoom$Verdict", name := "<init>", desc := "(LMoverRoom$Floor;LMoverRoom$Crew;LMoverRoom$LaidPlan;)V" } : Jvm.MethodName) prog_7_method_1_code (4 : Nat) (Option.none : Option Jvm.ClassFile.FieldType)) ∈ gw := gw_of 196 (by decide +kernel) (by decide +kernel)
theorem kw_197 : (Jvm.Cond.methodLink "MoverRoom$Verdict" (3 : Nat) ({ cls := "java/lang/Object", name := "<init>", desc := "()V" } : Jvm.MethodName)) ∈ gw := gw_of 197 (by decide +kernel) (by decide +kernel)
theorem kw_198 : (Jvm.Cond.fieldLink "MoverRoom$Verdict" (9 : Nat) "MoverRoom$Verdict" "floor" "LMoverRoom$Floor;") ∈ gw := gw_of 198 (by decide +kernel) (by decide +kernel)
theorem kw_199 : (Jvm.Cond.fieldLink "MoverRoom$Verdict" (15 : Nat) "MoverRoom$Verdict" "crew" "LMoverRoom$Crew;") ∈ gw := gw_of 199 (by decide +kernel) (by decide +kernel)
theorem kw_200 : (Jvm.Cond.fieldLink "MoverRoom$Verdict" (19 : Nat) "MoverRoom$Verdict" "laid" "LMoverRoom$LaidPlan;") ∈ gw := gw_of 200 (by decide +kernel) (by decide +kernel)
theorem kw_201 : (Jvm.Cond.fieldLink "MoverRoom$Verdict" (27 : Nat) "MoverRoom$Verdict" "sort" "I") ∈ gw := gw_of 201 (by decide +kernel) (by decide +kernel)
theorem kw_202 : (Jvm.Cond.fieldLink "MoverRoom" (115 : Nat) "MoverRoom$Verdict" "sort" "I") ∈ gw := gw_of 202 (by decide +kernel) (by decide +kernel)
theorem kw_203 : (Jvm.Cond.fieldLink "MoverRoom$Verdict" (39 : Nat) "MoverRoom$Verdict" "time" "I") ∈ gw := gw_of 203 (by decide +kernel) (by decide +kernel)
theorem kw_204 : (Jvm.Cond.fieldLink "MoverRoom" (118 : Nat) "MoverRoom$Verdict" "time" "I") ∈ gw := gw_of 204 (by decide +kernel) (by decide +kernel)
theorem kw_205 : (Jvm.Cond.fieldLink "MoverRoom$Verdict" (42 : Nat) "MoverRoom$Verdict" "lesser" "I") ∈ gw := gw_of 205 (by decide +kernel) (by decide +kernel)
theorem kw_206 : (Jvm.Cond.fieldLink "MoverRoom" (121 : Nat) "MoverRoom$Verdict" "lesser" "I") ∈ gw := gw_of 206 (by decide +kernel) (by decide +kernel)
theorem kw_207 : (Jvm.Cond.fieldLink "MoverRoom$Verdict" (45 : Nat) "MoverRoom$Verdict" "greater" "I") ∈ gw := gw_of 207 (by decide +kernel) (by decide +kernel)
theorem kw_208 : (Jvm.Cond.fieldLink "MoverRoom" (124 : Nat) "MoverRoom$Verdict" "greater" "I") ∈ gw := gw_of 208 (by decide +kernel) (by decide +kernel)
theorem kw_224 : (Jvm.Cond.fieldLink "MoverRoom" (12 : Nat) "MoverRoom" "floor" "LMoverRoom$Floor;") ∈ gw := gw_of 224 (by decide +kernel) (by decide +kernel)
theorem kw_225 : (Jvm.Cond.fieldLink "MoverRoom" (21 : Nat) "MoverRoom" "crew" "LMoverRoom$Crew;") ∈ gw := gw_of 225 (by decide +kernel) (by decide +kernel)
theorem kw_226 : (Jvm.Cond.fieldLink "MoverRoom" (30 : Nat) "MoverRoom" "planner" "LMoverRoom$Planner;") ∈ gw := gw_of 226 (by decide +kernel) (by decide +kernel)
theorem kw_227 : (Jvm.Cond.fieldLink "MoverRoom" (37 : Nat) "MoverRoom" "laid" "LMoverRoom$LaidPlan;") ∈ gw := gw_of 227 (by decide +kernel) (by decide +kernel)
theorem kw_228 : (Jvm.Cond.fieldLink "MoverRoom" (46 : Nat) "MoverRoom" "verdict" "LMoverRoom$Verdict;") ∈ gw := gw_of 228 (by decide +kernel) (by decide +kernel)
theorem kw_244 : (Jvm.Cond.methodLink "MoverRoom" (50 : Nat) ({ cls := "MoverRoom$Floor", name := "build", desc := "(II)V" } : Jvm.MethodName)) ∈ gw := gw_of 244 (by decide +kernel) (by decide +kernel)
theorem kw_245 : (Jvm.Cond.methodLink "MoverRoom" (54 : Nat) ({ cls := "MoverRoom$Crew", name := "dismiss", desc := "()V" } : Jvm.MethodName)) ∈ gw := gw_of 245 (by decide +kernel) (by decide +kernel)
theorem kw_246 : (Jvm.Cond.instanceMethod ({ cls := "MoverRoom$Crew", name := "dismiss", desc := "()V" } : Jvm.MethodName)) ∈ gw := gw_of 246 (by decide +kernel) (by decide +kernel)
theorem kw_247 : (Jvm.Cond.selects "MoverRoom$Crew" ({ cls := "MoverRoom$Crew", name := "dismiss", desc := "()V" } : Jvm.MethodName) ({ cls := "MoverRoom$Crew", name := "dismiss", desc := "()V" } : Jvm.MethodName)) ∈ gw := gw_of 247 (by decide +kernel) (by decide +kernel)
theorem kw_248 : (Jvm.Cond.code ({ cls := "MoverRoom$Crew", name := "dismiss", desc := "()V" } : Jvm.MethodName) prog_2_method_3_code (1 : Nat) (Option.none : Option Jvm.ClassFile.FieldType)) ∈ gw := gw_of 248 (by decide +kernel) (by decide +kernel)
theorem kw_249 : (Jvm.Cond.methodLink "MoverRoom" (57 : Nat) ({ cls := "MoverRoom$Planner", name := "forget", desc := "()V" } : Jvm.MethodName)) ∈ gw := gw_of 249 (by decide +kernel) (by decide +kernel)
theorem kw_250 : (Jvm.Cond.instanceMethod ({ cls := "MoverRoom$Planner", name := "forget", desc := "()V" } : Jvm.MethodName)) ∈ gw := gw_of 250 (by decide +kernel) (by decide +kernel)
theorem kw_251 : (Jvm.Cond.selects "MoverRoom$Planner" ({ cls := "MoverRoom$Planner", name := "forget", desc := "()V" } : Jvm.MethodName) ({ cls := "MoverRoom$Planner", name := "forget", desc := "()V" } : Jvm.MethodName)) ∈ gw := gw_of 251 (by decide +kernel) (by decide +kernel)
theorem kw_252 : (Jvm.Cond.code ({ cls := "MoverRoom$Planner", name := "forget", desc := "()V" } : Jvm.MethodName) prog_6_method_2_code (1 : Nat) (Option.none : Option Jvm.ClassFile.FieldType)) ∈ gw := gw_of 252 (by decide +kernel) (by decide +kernel)
theorem kw_253 : (Jvm.Cond.methodLink "MoverRoom" (60 : Nat) ({ cls := "MoverRoom$LaidPlan", name := "forget", desc := "()V" } : Jvm.MethodName)) ∈ gw := gw_of 253 (by decide +kernel) (by decide +kernel)
theorem kw_254 : (Jvm.Cond.instanceMethod ({ cls := "MoverRoom$LaidPlan", name := "forget", desc := "()V" } : Jvm.MethodName)) ∈ gw := gw_of 254 (by decide +kernel) (by decide +kernel)
theorem kw_255 : (Jvm.Cond.selects "MoverRoom$LaidPlan" ({ cls := "MoverRoom$LaidPlan", name := "forget", desc := "()V" } : Jvm.MethodName) ({ cls := "MoverRoom$LaidPlan", name := "forget", desc := "()V" } : Jvm.MethodName)) ∈ gw := gw_of 255 (by decide +kernel) (by decide +kernel)
theorem kw_256 : (Jvm.Cond.code ({ cls := "MoverRoom$LaidPlan", name := "forget", desc := "()V" } : Jvm.MethodName) prog_4_method_2_code (1 : Nat) (Option.none : Option Jvm.ClassFile.FieldType)) ∈ gw := gw_of 256 (by decide +kernel) (by decide +kernel)
theorem kw_257 : (Jvm.Cond.methodLink "MoverRoom$LaidPlan" (23 : Nat) ({ cls := "java/util/Arrays", name := "fill", desc := "([II)V" } : Jvm.MethodName)) ∈ gw := gw_of 257 (by decide +kernel) (by decide +kernel)
theorem kw_258 : (Jvm.Cond.static ({ cls := "java/util/Arrays", name := "fill", desc := "([II)V" } : Jvm.MethodName)) ∈ gw := gw_of 258 (by decide +kernel) (by decide +kernel)
theorem kw_259 : (Jvm.Cond.code ({ cls := "java/util/Arrays", name := "fill", desc := "([II)V" } : Jvm.MethodName) prog_11_method_103_code (4 : Nat) (Option.none : Option Jvm.ClassFile.FieldType)) ∈ gw := gw_of 259 (by decide +kernel) (by decide +kernel)
theorem kw_264 : (Jvm.Cond.methodLink "MoverRoom" (61 : Nat) ({ cls := "MoverRoom$Floor", name := "has", desc := "(I)Z" } : Jvm.MethodName)) ∈ gw := gw_of 264 (by decide +kernel) (by decide +kernel)
theorem kw_265 : (Jvm.Cond.methodLink "MoverRoom" (65 : Nat) ({ cls := "MoverRoom$Floor", name := "turn", desc := "(I)V" } : Jvm.MethodName)) ∈ gw := gw_of 265 (by decide +kernel) (by decide +kernel)
theorem kw_266 : (Jvm.Cond.instanceMethod ({ cls := "MoverRoom$Floor", name := "turn", desc := "(I)V" } : Jvm.MethodName)) ∈ gw := gw_of 266 (by decide +kernel) (by decide +kernel)
theorem kw_267 : (Jvm.Cond.selects "MoverRoom$Floor" ({ cls := "MoverRoom$Floor", name := "turn", desc := "(I)V" } : Jvm.MethodName) ({ cls := "MoverRoom$Floor", name := "turn", desc := "(I)V" } : Jvm.MethodName)) ∈ gw := gw_of 267 (by decide +kernel) (by decide +kernel)
theorem kw_268 : (Jvm.Cond.code ({ cls := "MoverRoom$Floor", name := "turn", desc := "(I)V" } : Jvm.MethodName) prog_3_method_3_code (2 : Nat) (Option.none : Option Jvm.ClassFile.FieldType)) ∈ gw := gw_of 268 (by decide +kernel) (by decide +kernel)
theorem kw_269 : (Jvm.Cond.methodLink "MoverRoom" (69 : Nat) ({ cls := "MoverRoom$Floor", name := "isFree", desc := "(I)Z" } : Jvm.MethodName)) ∈ gw := gw_of 269 (by decide +kernel) (by decide +kernel)
theorem kw_274 : (Jvm.Cond.methodLink "MoverRoom" (72 : Nat) ({ cls := "MoverRoom$Crew", name := "canTake", desc := "(II)Z" } : Jvm.MethodName)) ∈ gw := gw_of 274 (by decide +kernel) (by decide +kernel)
theorem kw_275 : (Jvm.Cond.instanceMethod ({ cls := "MoverRoom$Crew", name := "canTake", desc := "(II)Z" } : Jvm.MethodName)) ∈ gw := gw_of 275 (by decide +kernel) (by decide +kernel)
theorem kw_276 : (Jvm.Cond.selects "MoverRoom$Crew" ({ cls := "MoverRoom$Crew", name := "canTake", desc := "(II)Z" } : Jvm.MethodName) ({ cls := "MoverRoom$Crew", name := "canTake", desc := "(II)Z" } : Jvm.MethodName)) ∈ gw := gw_of 276 (by decide +kernel) (by decide +kernel)
theorem kw_277 : (Jvm.Cond.code ({ cls := "MoverRoom$Crew", name := "canTake", desc := "(II)Z" } : Jvm.MethodName) prog_2_method_4_code (5 : Nat) (Option.some Jvm.ClassFile.FieldType.boolean)) ∈ gw := gw_of 277 (by decide +kernel) (by decide +kernel)
theorem kw_278 : (Jvm.Cond.methodLink "MoverRoom" (76 : Nat) ({ cls := "MoverRoom$Crew", name := "take", desc := "(II)I" } : Jvm.MethodName)) ∈ gw := gw_of 278 (by decide +kernel) (by decide +kernel)
theorem kw_279 : (Jvm.Cond.instanceMethod ({ cls := "MoverRoom$Crew", name := "take", desc := "(II)I" } : Jvm.MethodName)) ∈ gw := gw_of 279 (by decide +kernel) (by decide +kernel)
theorem kw_280 : (Jvm.Cond.selects "MoverRoom$Crew" ({ cls := "MoverRoom$Crew", name := "take", desc := "(II)I" } : Jvm.MethodName) ({ cls := "MoverRoom$Crew", name := "take", desc := "(II)I" } : Jvm.MethodName)) ∈ gw := gw_of 280 (by decide +kernel) (by decide +kernel)
theorem kw_281 : (Jvm.Cond.code ({ cls := "MoverRoom$Crew", name := "take", desc := "(II)I" } : Jvm.MethodName) prog_2_method_5_code (4 : Nat) (Option.some Jvm.ClassFile.FieldType.int)) ∈ gw := gw_of 281 (by decide +kernel) (by decide +kernel)
theorem kw_282 : (Jvm.Cond.methodLink "MoverRoom$Crew" (46 : Nat) ({ cls := "MoverRoom$Crew", name := "measure", desc := "(I[I)V" } : Jvm.MethodName)) ∈ gw := gw_of 282 (by decide +kernel) (by decide +kernel)
theorem kw_284 : (Jvm.Cond.instanceMethod ({ cls := "MoverRoom$Crew", name := "measure", desc := "(I[I)V" } : Jvm.MethodName)) ∈ gw := gw_of 284 (by decide +kernel) (by decide +kernel)
theorem kw_285 : (Jvm.Cond.code ({ cls := "MoverRoom$Crew", name := "measure", desc := "(I[I)V" } : Jvm.MethodName) prog_2_method_11_code (8 : Nat) (Option.none : Option Jvm.ClassFile.FieldType)) ∈ gw := gw_of 285 (by decide +kernel) (by decide +kernel)
theorem kw_286 : (Jvm.Cond.methodLink "MoverRoom$Crew" (77 : Nat) ({ cls := "java/util/Arrays", name := "fill", desc := "([II)V" } : Jvm.MethodName)) ∈ gw := gw_of 286 (by decide +kernel) (by decide +kernel)
theorem kw_295 : (Jvm.Cond.methodLink "MoverRoom" (84 : Nat) ({ cls := "MoverRoom$Crew", name := "has", desc := "(I)Z" } : Jvm.MethodName)) ∈ gw := gw_of 295 (by decide +kernel) (by decide +kernel)
theorem kw_296 : (Jvm.Cond.instanceMethod ({ cls := "MoverRoom$Crew", name := "has", desc := "(I)Z" } : Jvm.MethodName)) ∈ gw := gw_of 296 (by decide +kernel) (by decide +kernel)
theorem kw_297 : (Jvm.Cond.selects "MoverRoom$Crew" ({ cls := "MoverRoom$Crew", name := "has", desc := "(I)Z" } : Jvm.MethodName) ({ cls := "MoverRoom$Crew", name := "has", desc := "(I)Z" } : Jvm.MethodName)) ∈ gw := gw_of 297 (by decide +kernel) (by decide +kernel)
theorem kw_298 : (Jvm.Cond.code ({ cls := "MoverRoom$Crew", name := "has", desc := "(I)Z" } : Jvm.MethodName) prog_2_method_2_code (2 : Nat) (Option.some Jvm.ClassFile.FieldType.boolean)) ∈ gw := gw_of 298 (by decide +kernel) (by decide +kernel)
theorem kw_299 : (Jvm.Cond.methodLink "MoverRoom" (85 : Nat) ({ cls := "MoverRoom$Crew", name := "wayFromStart", desc := "(I)I" } : Jvm.MethodName)) ∈ gw := gw_of 299 (by decide +kernel) (by decide +kernel)
theorem kw_300 : (Jvm.Cond.instanceMethod ({ cls := "MoverRoom$Crew", name := "wayFromStart", desc := "(I)I" } : Jvm.MethodName)) ∈ gw := gw_of 300 (by decide +kernel) (by decide +kernel)
theorem kw_301 : (Jvm.Cond.selects "MoverRoom$Crew" ({ cls := "MoverRoom$Crew", name := "wayFromStart", desc := "(I)I" } : Jvm.MethodName) ({ cls := "MoverRoom$Crew", name := "wayFromStart", desc := "(I)I" } : Jvm.MethodName)) ∈ gw := gw_of 301 (by decide +kernel) (by decide +kernel)
theorem kw_302 : (Jvm.Cond.code ({ cls := "MoverRoom$Crew", name := "wayFromStart", desc := "(I)I" } : Jvm.MethodName) prog_2_method_6_code (2 : Nat) (Option.some Jvm.ClassFile.FieldType.int)) ∈ gw := gw_of 302 (by decide +kernel) (by decide +kernel)
theorem kw_307 : (Jvm.Cond.constantLong "MoverRoom" (89 : Nat) (-1 : Int64)) ∈ gw := gw_of 307 (by decide +kernel) (by decide +kernel)
theorem kw_308 : (Jvm.Cond.methodLink "MoverRoom" (91 : Nat) ({ cls := "MoverRoom$Crew", name := "countWays", desc := "(II)J" } : Jvm.MethodName)) ∈ gw := gw_of 308 (by decide +kernel) (by decide +kernel)
theorem kw_309 : (Jvm.Cond.instanceMethod ({ cls := "MoverRoom$Crew", name := "countWays", desc := "(II)J" } : Jvm.MethodName)) ∈ gw := gw_of 309 (by decide +kernel) (by decide +kernel)
theorem kw_310 : (Jvm.Cond.selects "MoverRoom$Crew" ({ cls := "MoverRoom$Crew", name := "countWays", desc := "(II)J" } : Jvm.MethodName) ({ cls := "MoverRoom$Crew", name := "countWays", desc := "(II)J" } : Jvm.MethodName)) ∈ gw := gw_of 310 (by decide +kernel) (by decide +kernel)
theorem kw_311 : (Jvm.Cond.code ({ cls := "MoverRoom$Crew", name := "countWays", desc := "(II)J" } : Jvm.MethodName) prog_2_method_8_code (6 : Nat) (Option.some Jvm.ClassFile.FieldType.long)) ∈ gw := gw_of 311 (by decide +kernel) (by decide +kernel)
theorem kw_312 : (Jvm.Cond.methodLink "MoverRoom$Crew" (54 : Nat) ({ cls := "java/util/Arrays", name := "fill", desc := "([JJ)V" } : Jvm.MethodName)) ∈ gw := gw_of 312 (by decide +kernel) (by decide +kernel)
theorem kw_313 : (Jvm.Cond.static ({ cls := "java/util/Arrays", name := "fill", desc := "([JJ)V" } : Jvm.MethodName)) ∈ gw := gw_of 313 (by decide +kernel) (by decide +kernel)
theorem kw_314 : (Jvm.Cond.code ({ cls := "java/util/Arrays", name := "fill", desc := "([JJ)V" } : Jvm.MethodName) prog_11_method_101_code (5 : Nat) (Option.none : Option Jvm.ClassFile.FieldType)) ∈ gw := gw_of 314 (by decide +kernel) (by decide +kernel)
theorem kw_315 : (Jvm.Cond.methodLink "MoverRoom$Crew" (60 : Nat) ({ cls := "MoverRoom$Crew", name := "spreadCounts", desc := "()V" } : Jvm.MethodName)) ∈ gw := gw_of 315 (by decide +kernel) (by decide +kernel)
theorem kw_317 : (Jvm.Cond.instanceMethod ({ cls := "MoverRoom$Crew", name := "spreadCounts", desc := "()V" } : Jvm.MethodName)) ∈ gw := gw_of 317 (by decide +kernel) (by decide +kernel)
theorem kw_318 : (Jvm.Cond.code ({ cls := "MoverRoom$Crew", name := "spreadCounts", desc := "()V" } : Jvm.MethodName) prog_2_method_9_code (2 : Nat) (Option.none : Option Jvm.ClassFile.FieldType)) ∈ gw := gw_of 318 (by decide +kernel) (by decide +kernel)
theorem kw_319 : (Jvm.Cond.methodLink "MoverRoom$Crew" (67 : Nat) ({ cls := "MoverRoom$Floor", name := "isFree", desc := "(I)Z" } : Jvm.MethodName)) ∈ gw := gw_of 319 (by decide +kernel) (by decide +kernel)
theorem kw_320 : (Jvm.Cond.methodLink "MoverRoom$Crew" (63 : Nat) ({ cls := "MoverRoom$Crew", name := "countsBeside", desc := "(I)J" } : Jvm.MethodName)) ∈ gw := gw_of 320 (by decide +kernel) (by decide +kernel)
theorem kw_322 : (Jvm.Cond.instanceMethod ({ cls := "MoverRoom$Crew", name := "countsBeside", desc := "(I)J" } : Jvm.MethodName)) ∈ gw := gw_of 322 (by decide +kernel) (by decide +kernel)
theorem kw_323 : (Jvm.Cond.code ({ cls := "MoverRoom$Crew", name := "countsBeside", desc := "(I)J" } : Jvm.MethodName) prog_2_method_10_code (5 : Nat) (Option.some Jvm.ClassFile.FieldType.long)) ∈ gw := gw_of 323 (by decide +kernel) (by decide +kernel)
theorem kw_328 : (Jvm.Cond.methodLink "MoverRoom" (95 : Nat) ({ cls := "MoverRoom$Planner", name := "find", desc := "(I)I" } : Jvm.MethodName)) ∈ gw := gw_of 328 (by decide +kernel) (by decide +kernel)
theorem kw_329 : (Jvm.Cond.instanceMethod ({ cls := "MoverRoom$Planner", name := "find", desc := "(I)I" } : Jvm.MethodName)) ∈ gw := gw_of 329 (by decide +kernel) (by decide +kernel)
theorem kw_330 : (Jvm.Cond.selects "MoverRoom$Planner" ({ cls := "MoverRoom$Planner", name := "find", desc := "(I)I" } : Jvm.MethodName) ({ cls := "MoverRoom$Planner", name := "find", desc := "(I)I" } : Jvm.MethodName)) ∈ gw := gw_of 330 (by decide +kernel) (by decide +kernel)
theorem kw_331 : (Jvm.Cond.code ({ cls := "MoverRoom$Planner", name := "find", desc := "(I)I" } : Jvm.MethodName) prog_6_method_3_code (3 : Nat) (Option.some Jvm.ClassFile.FieldType.int)) ∈ gw := gw_of 331 (by decide +kernel) (by decide +kernel)
theorem kw_332 : (Jvm.Cond.methodLink "MoverRoom$Planner" (49 : Nat) ({ cls := "MoverRoom$Crew", name := "sumOfWays", desc := "()I" } : Jvm.MethodName)) ∈ gw := gw_of 332 (by decide +kernel) (by decide +kernel)
theorem kw_333 : (Jvm.Cond.instanceMethod ({ cls := "MoverRoom$Crew", name := "sumOfWays", desc := "()I" } : Jvm.MethodName)) ∈ gw := gw_of 333 (by decide +kernel) (by decide +kernel)
theorem kw_334 : (Jvm.Cond.selects "MoverRoom$Crew" ({ cls := "MoverRoom$Crew", name := "sumOfWays", desc := "()I" } : Jvm.MethodName) ({ cls := "MoverRoom$Crew", name := "sumOfWays", desc := "()I" } : Jvm.MethodName)) ∈ gw := gw_of 334 (by decide +kernel) (by decide +kernel)
theorem kw_335 : (Jvm.Cond.code ({ cls := "MoverRoom$Crew", name := "sumOfWays", desc := "()I" } : Jvm.MethodName) prog_2_method_7_code (4 : Nat) (Option.some Jvm.ClassFile.FieldType.int)) ∈ gw := gw_of 335 (by decide +kernel) (by decide +kernel)
theorem kw_336 : (Jvm.Cond.methodLink "MoverRoom$Crew" (50 : Nat) ({ cls := "MoverRoom$Crew", name := "wayFromStart", desc := "(I)I" } : Jvm.MethodName)) ∈ gw := gw_of 336 (by decide +kernel) (by decide +kernel)
theorem kw_337 : (Jvm.Cond.methodLink "MoverRoom$Planner" (55 : Nat) ({ cls := "MoverRoom$Planner", name := "begin", desc := "()V" } : Jvm.MethodName)) ∈ gw := gw_of 337 (by decide +kernel) (by decide +kernel)
theorem kw_339 : (Jvm.Cond.instanceMethod ({ cls := "MoverRoom$Planner", name := "begin", desc := "()V" } : Jvm.MethodName)) ∈ gw := gw_of 339 (by decide +kernel) (by decide +kernel)
theorem kw_340 : (Jvm.Cond.code ({ cls := "MoverRoom$Planner", name := "begin", desc := "()V" } : Jvm.MethodName) prog_6_method_6_code (2 : Nat) (Option.none : Option Jvm.ClassFile.FieldType)) ∈ gw := gw_of 340 (by decide +kernel) (by decide +kernel)
theorem kw_341 : (Jvm.Cond.methodLink "MoverRoom$Planner" (80 : Nat) ({ cls := "MoverRoom$Levels", name := "reset", desc := "()V" } : Jvm.MethodName)) ∈ gw := gw_of 341 (by decide +kernel) (by decide +kernel)
theorem kw_342 : (Jvm.Cond.instanceMethod ({ cls := "MoverRoom$Levels", name := "reset", desc := "()V" } : Jvm.MethodName)) ∈ gw := gw_of 342 (by decide +kernel) (by decide +kernel)
theorem kw_343 : (Jvm.Cond.selects "MoverRoom$Levels" ({ cls := "MoverRoom$Levels", name := "reset", desc := "()V" } : Jvm.MethodName) ({ cls := "MoverRoom$Levels", name := "reset", desc := "()V" } : Jvm.MethodName)) ∈ gw := gw_of 343 (by decide +kernel) (by decide +kernel)
theorem kw_344 : (Jvm.Cond.code ({ cls := "MoverRoom$Levels", name := "reset", desc := "()V" } : Jvm.MethodName) prog_5_method_2_code (1 : Nat) (Option.none : Option Jvm.ClassFile.FieldType)) ∈ gw := gw_of 344 (by decide +kernel) (by decide +kernel)
theorem kw_345 : (Jvm.Cond.methodLink "MoverRoom$Levels" (15 : Nat) ({ cls := "java/util/Arrays", name := "fill", desc := "([JJ)V" } : Jvm.MethodName)) ∈ gw := gw_of 345 (by decide +kernel) (by decide +kernel)
theorem kw_346 : (Jvm.Cond.methodLink "MoverRoom$Planner" (58 : Nat) ({ cls := "MoverRoom$Planner", name := "canEnd", desc := "(II)Z" } : Jvm.MethodName)) ∈ gw := gw_of 346 (by decide +kernel) (by decide +kernel)
theorem kw_348 : (Jvm.Cond.instanceMethod ({ cls := "MoverRoom$Planner", name := "canEnd", desc := "(II)Z" } : Jvm.MethodName)) ∈ gw := gw_of 348 (by decide +kernel) (by decide +kernel)
theorem kw_349 : (Jvm.Cond.code ({ cls := "MoverRoom$Planner", name := "canEnd", desc := "(II)Z" } : Jvm.MethodName) prog_6_method_10_code (6 : Nat) (Option.some Jvm.ClassFile.FieldType.boolean)) ∈ gw := gw_of 349 (by decide +kernel) (by decide +kernel)
theorem kw_350 : (Jvm.Cond.methodLink "MoverRoom$Planner" (111 : Nat) ({ cls := "MoverRoom$Planner", name := "startSearch", desc := "(III)I" } : Jvm.MethodName)) ∈ gw := gw_of 350 (by decide +kernel) (by decide +kernel)
theorem kw_352 : (Jvm.Cond.instanceMethod ({ cls := "MoverRoom$Planner", name := "startSearch", desc := "(III)I" } : Jvm.MethodName)) ∈ gw := gw_of 352 (by decide +kernel) (by decide +kernel)
theorem kw_353 : (Jvm.Cond.code ({ cls := "MoverRoom$Planner", name := "startSearch", desc := "(III)I" } : Jvm.MethodName) prog_6_method_11_code (7 : Nat) (Option.some Jvm.ClassFile.FieldType.int)) ∈ gw := gw_of 353 (by decide +kernel) (by decide +kernel)
theorem kw_354 : (Jvm.Cond.methodLink "MoverRoom$Planner" (118 : Nat) ({ cls := "MoverRoom$Planner", name := "isIn", desc := "(II)Z" } : Jvm.MethodName)) ∈ gw := gw_of 354 (by decide +kernel) (by decide +kernel)
theorem kw_355 : (Jvm.Cond.static ({ cls := "MoverRoom$Planner", name := "isIn", desc := "(II)Z" } : Jvm.MethodName)) ∈ gw := gw_of 355 (by decide +kernel) (by decide +kernel)
theorem kw_356 : (Jvm.Cond.code ({ cls := "MoverRoom$Planner", name := "isIn", desc := "(II)Z" } : Jvm.MethodName) prog_6_method_18_code (2 : Nat) (Option.some Jvm.ClassFile.FieldType.boolean)) ∈ gw := gw_of 356 (by decide +kernel) (by decide +kernel)
theorem kw_357 : (Jvm.Cond.methodLink "MoverRoom$Planner" (71 : Nat) ({ cls := "MoverRoom$Planner", name := "homeSince", desc := "(II)I" } : Jvm.MethodName)) ∈ gw := gw_of 357 (by decide +kernel) (by decide +kernel)
theorem kw_359 : (Jvm.Cond.instanceMethod ({ cls := "MoverRoom$Planner", name := "homeSince", desc := "(II)I" } : Jvm.MethodName)) ∈ gw := gw_of 359 (by decide +kernel) (by decide +kernel)
theorem kw_360 : (Jvm.Cond.code ({ cls := "MoverRoom$Planner", name := "homeSince", desc := "(II)I" } : Jvm.MethodName) prog_6_method_12_code (4 : Nat) (Option.some Jvm.ClassFile.FieldType.int)) ∈ gw := gw_of 360 (by decide +kernel) (by decide +kernel)
theorem kw_361 : (Jvm.Cond.methodLink "MoverRoom$Planner" (121 : Nat) ({ cls := "MoverRoom$Planner", name := "wayLeft", desc := "(II)I" } : Jvm.MethodName)) ∈ gw := gw_of 361 (by decide +kernel) (by decide +kernel)
theorem kw_363 : (Jvm.Cond.instanceMethod ({ cls := "MoverRoom$Planner", name := "wayLeft", desc := "(II)I" } : Jvm.MethodName)) ∈ gw := gw_of 363 (by decide +kernel) (by decide +kernel)
theorem kw_364 : (Jvm.Cond.code ({ cls := "MoverRoom$Planner", name := "wayLeft", desc := "(II)I" } : Jvm.MethodName) prog_6_method_13_code (3 : Nat) (Option.some Jvm.ClassFile.FieldType.int)) ∈ gw := gw_of 364 (by decide +kernel) (by decide +kernel)
theorem kw_365 : (Jvm.Cond.methodLink "MoverRoom$Planner" (115 : Nat) ({ cls := "MoverRoom$Planner", name := "reachesEnd", desc := "(II)Z" } : Jvm.MethodName)) ∈ gw := gw_of 365 (by decide +kernel) (by decide +kernel)
theorem kw_367 : (Jvm.Cond.instanceMethod ({ cls := "MoverRoom$Planner", name := "reachesEnd", desc := "(II)Z" } : Jvm.MethodName)) ∈ gw := gw_of 367 (by decide +kernel) (by decide +kernel)
theorem kw_368 : (Jvm.Cond.code ({ cls := "MoverRoom$Planner", name := "reachesEnd", desc := "(II)Z" } : Jvm.MethodName) prog_6_method_14_code (4 : Nat) (Option.some Jvm.ClassFile.FieldType.boolean)) ∈ gw := gw_of 368 (by decide +kernel) (by decide +kernel)
theorem kw_369 : (Jvm.Cond.methodLink "MoverRoom$Planner" (127 : Nat) ({ cls := "MoverRoom$Planner", name := "stateAt", desc := "(I)I" } : Jvm.MethodName)) ∈ gw := gw_of 369 (by decide +kernel) (by decide +kernel)
theorem kw_371 : (Jvm.Cond.instanceMethod ({ cls := "MoverRoom$Planner", name := "stateAt", desc := "(I)I" } : Jvm.MethodName)) ∈ gw := gw_of 371 (by decide +kernel) (by decide +kernel)
theorem kw_372 : (Jvm.Cond.code ({ cls := "MoverRoom$Planner", name := "stateAt", desc := "(I)I" } : Jvm.MethodName) prog_6_method_16_code (6 : Nat) (Option.some Jvm.ClassFile.FieldType.int)) ∈ gw := gw_of 372 (by decide +kernel) (by decide +kernel)
theorem kw_373 : (Jvm.Cond.methodLink "MoverRoom$Planner" (131 : Nat) ({ cls := "MoverRoom$Levels", name := "get", desc := "(I)I" } : Jvm.MethodName)) ∈ gw := gw_of 373 (by decide +kernel) (by decide +kernel)
theorem kw_374 : (Jvm.Cond.instanceMethod ({ cls := "MoverRoom$Levels", name := "get", desc := "(I)I" } : Jvm.MethodName)) ∈ gw := gw_of 374 (by decide +kernel) (by decide +kernel)
theorem kw_375 : (Jvm.Cond.selects "MoverRoom$Levels" ({ cls := "MoverRoom$Levels", name := "get", desc := "(I)I" } : Jvm.MethodName) ({ cls := "MoverRoom$Levels", name := "get", desc := "(I)I" } : Jvm.MethodName)) ∈ gw := gw_of 375 (by decide +kernel) (by decide +kernel)
theorem kw_376 : (Jvm.Cond.code ({ cls := "MoverRoom$Levels", name := "get", desc := "(I)I" } : Jvm.MethodName) prog_5_method_3_code (2 : Nat) (Option.some Jvm.ClassFile.FieldType.int)) ∈ gw := gw_of 376 (by decide +kernel) (by decide +kernel)
theorem kw_377 : (Jvm.Cond.methodLink "MoverRoom$Levels" (21 : Nat) ({ cls := "MoverRoom$Levels", name := "shiftOf", desc := "(I)I" } : Jvm.MethodName)) ∈ gw := gw_of 377 (by decide +kernel) (by decide +kernel)
theorem kw_379 : (Jvm.Cond.instanceMethod ({ cls := "MoverRoom$Levels", name := "shiftOf", desc := "(I)I" } : Jvm.MethodName)) ∈ gw := gw_of 379 (by decide +kernel) (by decide +kernel)
theorem kw_380 : (Jvm.Cond.code ({ cls := "MoverRoom$Levels", name := "shiftOf", desc := "(I)I" } : Jvm.MethodName) prog_5_method_5_code (2 : Nat) (Option.some Jvm.ClassFile.FieldType.int)) ∈ gw := gw_of 380 (by decide +kernel) (by decide +kernel)
theorem kw_381 : (Jvm.Cond.methodLink "MoverRoom$Planner" (134 : Nat) ({ cls := "MoverRoom$Planner", name := "reachesEndMoving", desc := "(IIII)Z" } : Jvm.MethodName)) ∈ gw := gw_of 381 (by decide +kernel) (by decide +kernel)
theorem kw_383 : (Jvm.Cond.instanceMethod ({ cls := "MoverRoom$Planner", name := "reachesEndMoving", desc := "(IIII)Z" } : Jvm.MethodName)) ∈ gw := gw_of 383 (by decide +kernel) (by decide +kernel)
theorem kw_384 : (Jvm.Cond.code ({ cls := "MoverRoom$Planner", name := "reachesEndMoving", desc := "(IIII)Z" } : Jvm.MethodName) prog_6_method_15_code (13 : Nat) (Option.some Jvm.ClassFile.FieldType.boolean)) ∈ gw := gw_of 384 (by decide +kernel) (by decide +kernel)
theorem kw_385 : (Jvm.Cond.methodLink "MoverRoom$Planner" (107 : Nat) ({ cls := "MoverRoom$Planner", name := "goes", desc := "([I[III)Z" } : Jvm.MethodName)) ∈ gw := gw_of 385 (by decide +kernel) (by decide +kernel)
theorem kw_386 : (Jvm.Cond.static ({ cls := "MoverRoom$Planner", name := "goes", desc := "([I[III)Z" } : Jvm.MethodName)) ∈ gw := gw_of 386 (by decide +kernel) (by decide +kernel)
theorem kw_387 : (Jvm.Cond.code ({ cls := "MoverRoom$Planner", name := "goes", desc := "([I[III)Z" } : Jvm.MethodName) prog_6_method_17_code (5 : Nat) (Option.some Jvm.ClassFile.FieldType.boolean)) ∈ gw := gw_of 387 (by decide +kernel) (by decide +kernel)
theorem kw_388 : (Jvm.Cond.methodLink "MoverRoom$Planner" (138 : Nat) ({ cls := "MoverRoom$Levels", name := "put", desc := "(II)V" } : Jvm.MethodName)) ∈ gw := gw_of 388 (by decide +kernel) (by decide +kernel)
theorem kw_389 : (Jvm.Cond.instanceMethod ({ cls := "MoverRoom$Levels", name := "put", desc := "(II)V" } : Jvm.MethodName)) ∈ gw := gw_of 389 (by decide +kernel) (by decide +kernel)
theorem kw_390 : (Jvm.Cond.selects "MoverRoom$Levels" ({ cls := "MoverRoom$Levels", name := "put", desc := "(II)V" } : Jvm.MethodName) ({ cls := "MoverRoom$Levels", name := "put", desc := "(II)V" } : Jvm.MethodName)) ∈ gw := gw_of 390 (by decide +kernel) (by decide +kernel)
theorem kw_391 : (Jvm.Cond.code ({ cls := "MoverRoom$Levels", name := "put", desc := "(II)V" } : Jvm.MethodName) prog_5_method_4_code (4 : Nat) (Option.none : Option Jvm.ClassFile.FieldType)) ∈ gw := gw_of 391 (by decide +kernel) (by decide +kernel)
theorem kw_392 : (Jvm.Cond.constantLong "MoverRoom$Levels" (25 : Nat) (15 : Int64)) ∈ gw := gw_of 392 (by decide +kernel) (by decide +kernel)
theorem kw_393 : (Jvm.Cond.constantLong "MoverRoom$Levels" (27 : Nat) (-1 : Int64)) ∈ gw := gw_of 393 (by decide +kernel) (by decide +kernel)
theorem kw_394 : (Jvm.Cond.methodLink "MoverRoom$Planner" (65 : Nat) ({ cls := "MoverRoom$Planner", name := "layOut", desc := "()V" } : Jvm.MethodName)) ∈ gw := gw_of 394 (by decide +kernel) (by decide +kernel)
theorem kw_396 : (Jvm.Cond.instanceMethod ({ cls := "MoverRoom$Planner", name := "layOut", desc := "()V" } : Jvm.MethodName)) ∈ gw := gw_of 396 (by decide +kernel) (by decide +kernel)
theorem kw_397 : (Jvm.Cond.code ({ cls := "MoverRoom$Planner", name := "layOut", desc := "()V" } : Jvm.MethodName) prog_6_method_7_code (1 : Nat) (Option.none : Option Jvm.ClassFile.FieldType)) ∈ gw := gw_of 397 (by decide +kernel) (by decide +kernel)
theorem kw_398 : (Jvm.Cond.methodLink "MoverRoom$Planner" (89 : Nat) ({ cls := "MoverRoom$Planner", name := "isOver", desc := "(I)Z" } : Jvm.MethodName)) ∈ gw := gw_of 398 (by decide +kernel) (by decide +kernel)
theorem kw_400 : (Jvm.Cond.instanceMethod ({ cls := "MoverRoom$Planner", name := "isOver", desc := "(I)Z" } : Jvm.MethodName)) ∈ gw := gw_of 400 (by decide +kernel) (by decide +kernel)
theorem kw_401 : (Jvm.Cond.code ({ cls := "MoverRoom$Planner", name := "isOver", desc := "(I)Z" } : Jvm.MethodName) prog_6_method_8_code (3 : Nat) (Option.some Jvm.ClassFile.FieldType.boolean)) ∈ gw := gw_of 401 (by decide +kernel) (by decide +kernel)
theorem kw_402 : (Jvm.Cond.methodLink "MoverRoom$Planner" (93 : Nat) ({ cls := "MoverRoom$Planner", name := "chooseNext", desc := "(II)Z" } : Jvm.MethodName)) ∈ gw := gw_of 402 (by decide +kernel) (by decide +kernel)
theorem kw_404 : (Jvm.Cond.instanceMethod ({ cls := "MoverRoom$Planner", name := "chooseNext", desc := "(II)Z" } : Jvm.MethodName)) ∈ gw := gw_of 404 (by decide +kernel) (by decide +kernel)
theorem kw_405 : (Jvm.Cond.code ({ cls := "MoverRoom$Planner", name := "chooseNext", desc := "(II)Z" } : Jvm.MethodName) prog_6_method_9_code (5 : Nat) (Option.some Jvm.ClassFile.FieldType.boolean)) ∈ gw := gw_of 405 (by decide +kernel) (by decide +kernel)
theorem kw_410 : (Jvm.Cond.methodLink "MoverRoom" (102 : Nat) ({ cls := "MoverRoom$Planner", name := "costOf", desc := "(I)I" } : Jvm.MethodName)) ∈ gw := gw_of 410 (by decide +kernel) (by decide +kernel)
theorem kw_411 : (Jvm.Cond.instanceMethod ({ cls := "MoverRoom$Planner", name := "costOf", desc := "(I)I" } : Jvm.MethodName)) ∈ gw := gw_of 411 (by decide +kernel) (by decide +kernel)
theorem kw_412 : (Jvm.Cond.selects "MoverRoom$Planner" ({ cls := "MoverRoom$Planner", name := "costOf", desc := "(I)I" } : Jvm.MethodName) ({ cls := "MoverRoom$Planner", name := "costOf", desc := "(I)I" } : Jvm.MethodName)) ∈ gw := gw_of 412 (by decide +kernel) (by decide +kernel)
theorem kw_413 : (Jvm.Cond.code ({ cls := "MoverRoom$Planner", name := "costOf", desc := "(I)I" } : Jvm.MethodName) prog_6_method_4_code (2 : Nat) (Option.some Jvm.ClassFile.FieldType.int)) ∈ gw := gw_of 413 (by decide +kernel) (by decide +kernel)
theorem kw_418 : (Jvm.Cond.methodLink "MoverRoom" (105 : Nat) ({ cls := "MoverRoom$Planner", name := "placeOf", desc := "(II)I" } : Jvm.MethodName)) ∈ gw := gw_of 418 (by decide +kernel) (by decide +kernel)
theorem kw_419 : (Jvm.Cond.instanceMethod ({ cls := "MoverRoom$Planner", name := "placeOf", desc := "(II)I" } : Jvm.MethodName)) ∈ gw := gw_of 419 (by decide +kernel) (by decide +kernel)
theorem kw_420 : (Jvm.Cond.selects "MoverRoom$Planner" ({ cls := "MoverRoom$Planner", name := "placeOf", desc := "(II)I" } : Jvm.MethodName) ({ cls := "MoverRoom$Planner", name := "placeOf", desc := "(II)I" } : Jvm.MethodName)) ∈ gw := gw_of 420 (by decide +kernel) (by decide +kernel)
theorem kw_421 : (Jvm.Cond.code ({ cls := "MoverRoom$Planner", name := "placeOf", desc := "(II)I" } : Jvm.MethodName) prog_6_method_5_code (3 : Nat) (Option.some Jvm.ClassFile.FieldType.int)) ∈ gw := gw_of 421 (by decide +kernel) (by decide +kernel)
theorem kw_422 : (Jvm.Cond.methodLink "MoverRoom$Planner" (75 : Nat) ({ cls := "java/lang/Math", name := "min", desc := "(II)I" } : Jvm.MethodName)) ∈ gw := gw_of 422 (by decide +kernel) (by decide +kernel)
theorem kw_423 : (Jvm.Cond.static ({ cls := "java/lang/Math", name := "min", desc := "(II)I" } : Jvm.MethodName)) ∈ gw := gw_of 423 (by decide +kernel) (by decide +kernel)
theorem kw_424 : (Jvm.Cond.code ({ cls := "java/lang/Math", name := "min", desc := "(II)I" } : Jvm.MethodName) prog_10_method_69_code (2 : Nat) (Option.some Jvm.ClassFile.FieldType.int)) ∈ gw := gw_of 424 (by decide +kernel) (by decide +kernel)
theorem kw_429 : (Jvm.Cond.methodLink "MoverRoom" (108 : Nat) ({ cls := "MoverRoom$LaidPlan", name := "tell", desc := "(III)I" } : Jvm.MethodName)) ∈ gw := gw_of 429 (by decide +kernel) (by decide +kernel)
theorem kw_430 : (Jvm.Cond.instanceMethod ({ cls := "MoverRoom$LaidPlan", name := "tell", desc := "(III)I" } : Jvm.MethodName)) ∈ gw := gw_of 430 (by decide +kernel) (by decide +kernel)
theorem kw_431 : (Jvm.Cond.selects "MoverRoom$LaidPlan" ({ cls := "MoverRoom$LaidPlan", name := "tell", desc := "(III)I" } : Jvm.MethodName) ({ cls := "MoverRoom$LaidPlan", name := "tell", desc := "(III)I" } : Jvm.MethodName)) ∈ gw := gw_of 431 (by decide +kernel) (by decide +kernel)
theorem kw_432 : (Jvm.Cond.code ({ cls := "MoverRoom$LaidPlan", name := "tell", desc := "(III)I" } : Jvm.MethodName) prog_4_method_3_code (5 : Nat) (Option.some Jvm.ClassFile.FieldType.int)) ∈ gw := gw_of 432 (by decide +kernel) (by decide +kernel)
theorem kw_433 : (Jvm.Cond.methodLink "MoverRoom$LaidPlan" (29 : Nat) ({ cls := "MoverRoom$LaidPlan", name := "isTold", desc := "(II)Z" } : Jvm.MethodName)) ∈ gw := gw_of 433 (by decide +kernel) (by decide +kernel)
theorem kw_435 : (Jvm.Cond.instanceMethod ({ cls := "MoverRoom$LaidPlan", name := "isTold", desc := "(II)Z" } : Jvm.MethodName)) ∈ gw := gw_of 435 (by decide +kernel) (by decide +kernel)
theorem kw_436 : (Jvm.Cond.code ({ cls := "MoverRoom$LaidPlan", name := "isTold", desc := "(II)Z" } : Jvm.MethodName) prog_4_method_6_code (3 : Nat) (Option.some Jvm.ClassFile.FieldType.boolean)) ∈ gw := gw_of 436 (by decide +kernel) (by decide +kernel)
theorem kw_441 : (Jvm.Cond.methodLink "MoverRoom" (112 : Nat) ({ cls := "MoverRoom$Verdict", name := "seek", desc := "()V" } : Jvm.MethodName)) ∈ gw := gw_of 441 (by decide +kernel) (by decide +kernel)
theorem kw_442 : (Jvm.Cond.instanceMethod ({ cls := "MoverRoom$Verdict", name := "seek", desc := "()V" } : Jvm.MethodName)) ∈ gw := gw_of 442 (by decide +kernel) (by decide +kernel)
theorem kw_443 : (Jvm.Cond.selects "MoverRoom$Verdict" ({ cls := "MoverRoom$Verdict", name := "seek", desc := "()V" } : Jvm.MethodName) ({ cls := "MoverRoom$Verdict", name := "seek", desc := "()V" } : Jvm.MethodName)) ∈ gw := gw_of 443 (by decide +kernel) (by decide +kernel)
theorem kw_444 : (Jvm.Cond.code ({ cls := "MoverRoom$Verdict", name := "seek", desc := "()V" } : Jvm.MethodName) prog_7_method_2_code (2 : Nat) (Option.none : Option Jvm.ClassFile.FieldType)) ∈ gw := gw_of 444 (by decide +kernel) (by decide +kernel)
theorem kw_445 : (Jvm.Cond.methodLink "MoverRoom$Verdict" (23 : Nat) ({ cls := "MoverRoom$Verdict", name := "blame", desc := "(IIII)V" } : Jvm.MethodName)) ∈ gw := gw_of 445 (by decide +kernel) (by decide +kernel)
theorem kw_447 : (Jvm.Cond.instanceMethod ({ cls := "MoverRoom$Verdict", name := "blame", desc := "(IIII)V" } : Jvm.MethodName)) ∈ gw := gw_of 447 (by decide +kernel) (by decide +kernel)
theorem kw_448 : (Jvm.Cond.code ({ cls := "MoverRoom$Verdict", name := "blame", desc := "(IIII)V" } : Jvm.MethodName) prog_7_method_3_code (5 : Nat) (Option.none : Option Jvm.ClassFile.FieldType)) ∈ gw := gw_of 448 (by decide +kernel) (by decide +kernel)
theorem kw_449 : (Jvm.Cond.methodLink "MoverRoom$Verdict" (31 : Nat) ({ cls := "MoverRoom$Verdict", name := "seekStrayed", desc := "(I)V" } : Jvm.MethodName)) ∈ gw := gw_of 449 (by decide +kernel) (by decide +kernel)
theorem kw_451 : (Jvm.Cond.instanceMethod ({ cls := "MoverRoom$Verdict", name := "seekStrayed", desc := "(I)V" } : Jvm.MethodName)) ∈ gw := gw_of 451 (by decide +kernel) (by decide +kernel)
theorem kw_452 : (Jvm.Cond.code ({ cls := "MoverRoom$Verdict", name := "seekStrayed", desc := "(I)V" } : Jvm.MethodName) prog_7_method_4_code (3 : Nat) (Option.none : Option Jvm.ClassFile.FieldType)) ∈ gw := gw_of 452 (by decide +kernel) (by decide +kernel)
theorem kw_453 : (Jvm.Cond.methodLink "MoverRoom$Verdict" (53 : Nat) ({ cls := "MoverRoom$Verdict", name := "strays", desc := "(II)Z" } : Jvm.MethodName)) ∈ gw := gw_of 453 (by decide +kernel) (by decide +kernel)
theorem kw_455 : (Jvm.Cond.instanceMethod ({ cls := "MoverRoom$Verdict", name := "strays", desc := "(II)Z" } : Jvm.MethodName)) ∈ gw := gw_of 455 (by decide +kernel) (by decide +kernel)
theorem kw_456 : (Jvm.Cond.code ({ cls := "MoverRoom$Verdict", name := "strays", desc := "(II)Z" } : Jvm.MethodName) prog_7_method_5_code (4 : Nat) (Option.some Jvm.ClassFile.FieldType.boolean)) ∈ gw := gw_of 456 (by decide +kernel) (by decide +kernel)
theorem kw_457 : (Jvm.Cond.methodLink "MoverRoom$Verdict" (57 : Nat) ({ cls := "MoverRoom$LaidPlan", name := "isNowhere", desc := "(I)Z" } : Jvm.MethodName)) ∈ gw := gw_of 457 (by decide +kernel) (by decide +kernel)
theorem kw_458 : (Jvm.Cond.instanceMethod ({ cls := "MoverRoom$LaidPlan", name := "isNowhere", desc := "(I)Z" } : Jvm.MethodName)) ∈ gw := gw_of 458 (by decide +kernel) (by decide +kernel)
theorem kw_459 : (Jvm.Cond.selects "MoverRoom$LaidPlan" ({ cls := "MoverRoom$LaidPlan", name := "isNowhere", desc := "(I)Z" } : Jvm.MethodName) ({ cls := "MoverRoom$LaidPlan", name := "isNowhere", desc := "(I)Z" } : Jvm.MethodName)) ∈ gw := gw_of 459 (by decide +kernel) (by decide +kernel)
theorem kw_460 : (Jvm.Cond.code ({ cls := "MoverRoom$LaidPlan", name := "isNowhere", desc := "(I)Z" } : Jvm.MethodName) prog_4_method_4_code (2 : Nat) (Option.some Jvm.ClassFile.FieldType.boolean)) ∈ gw := gw_of 460 (by decide +kernel) (by decide +kernel)
theorem kw_461 : (Jvm.Cond.methodLink "MoverRoom$Verdict" (63 : Nat) ({ cls := "MoverRoom$LaidPlan", name := "placeOf", desc := "(II)I" } : Jvm.MethodName)) ∈ gw := gw_of 461 (by decide +kernel) (by decide +kernel)
theorem kw_462 : (Jvm.Cond.instanceMethod ({ cls := "MoverRoom$LaidPlan", name := "placeOf", desc := "(II)I" } : Jvm.MethodName)) ∈ gw := gw_of 462 (by decide +kernel) (by decide +kernel)
theorem kw_463 : (Jvm.Cond.selects "MoverRoom$LaidPlan" ({ cls := "MoverRoom$LaidPlan", name := "placeOf", desc := "(II)I" } : Jvm.MethodName) ({ cls := "MoverRoom$LaidPlan", name := "placeOf", desc := "(II)I" } : Jvm.MethodName)) ∈ gw := gw_of 463 (by decide +kernel) (by decide +kernel)
theorem kw_464 : (Jvm.Cond.code ({ cls := "MoverRoom$LaidPlan", name := "placeOf", desc := "(II)I" } : Jvm.MethodName) prog_4_method_5_code (3 : Nat) (Option.some Jvm.ClassFile.FieldType.int)) ∈ gw := gw_of 464 (by decide +kernel) (by decide +kernel)
theorem kw_465 : (Jvm.Cond.methodLink "MoverRoom$LaidPlan" (33 : Nat) ({ cls := "java/lang/Math", name := "min", desc := "(II)I" } : Jvm.MethodName)) ∈ gw := gw_of 465 (by decide +kernel) (by decide +kernel)
theorem kw_466 : (Jvm.Cond.methodLink "MoverRoom$Verdict" (71 : Nat) ({ cls := "MoverRoom$Floor", name := "leads", desc := "(II)Z" } : Jvm.MethodName)) ∈ gw := gw_of 466 (by decide +kernel) (by decide +kernel)
theorem kw_467 : (Jvm.Cond.instanceMethod ({ cls := "MoverRoom$Floor", name := "leads", desc := "(II)Z" } : Jvm.MethodName)) ∈ gw := gw_of 467 (by decide +kernel) (by decide +kernel)
theorem kw_468 : (Jvm.Cond.selects "MoverRoom$Floor" ({ cls := "MoverRoom$Floor", name := "leads", desc := "(II)Z" } : Jvm.MethodName) ({ cls := "MoverRoom$Floor", name := "leads", desc := "(II)Z" } : Jvm.MethodName)) ∈ gw := gw_of 468 (by decide +kernel) (by decide +kernel)
theorem kw_469 : (Jvm.Cond.code ({ cls := "MoverRoom$Floor", name := "leads", desc := "(II)Z" } : Jvm.MethodName) prog_3_method_6_code (4 : Nat) (Option.some Jvm.ClassFile.FieldType.boolean)) ∈ gw := gw_of 469 (by decide +kernel) (by decide +kernel)
theorem kw_470 : (Jvm.Cond.methodLink "MoverRoom$Verdict" (35 : Nat) ({ cls := "MoverRoom$Verdict", name := "seekMeeting", desc := "(II)V" } : Jvm.MethodName)) ∈ gw := gw_of 470 (by decide +kernel) (by decide +kernel)
theorem kw_472 : (Jvm.Cond.instanceMethod ({ cls := "MoverRoom$Verdict", name := "seekMeeting", desc := "(II)V" } : Jvm.MethodName)) ∈ gw := gw_of 472 (by decide +kernel) (by decide +kernel)
theorem kw_473 : (Jvm.Cond.code ({ cls := "MoverRoom$Verdict", name := "seekMeeting", desc := "(II)V" } : Jvm.MethodName) prog_7_method_6_code (5 : Nat) (Option.none : Option Jvm.ClassFile.FieldType)) ∈ gw := gw_of 473 (by decide +kernel) (by decide +kernel)
theorem kw_474 : (Jvm.Cond.methodLink "MoverRoom$Verdict" (79 : Nat) ({ cls := "MoverRoom$Verdict", name := "share", desc := "(III)Z" } : Jvm.MethodName)) ∈ gw := gw_of 474 (by decide +kernel) (by decide +kernel)
theorem kw_476 : (Jvm.Cond.instanceMethod ({ cls := "MoverRoom$Verdict", name := "share", desc := "(III)Z" } : Jvm.MethodName)) ∈ gw := gw_of 476 (by decide +kernel) (by decide +kernel)
theorem kw_477 : (Jvm.Cond.code ({ cls := "MoverRoom$Verdict", name := "share", desc := "(III)Z" } : Jvm.MethodName) prog_7_method_7_code (4 : Nat) (Option.some Jvm.ClassFile.FieldType.boolean)) ∈ gw := gw_of 477 (by decide +kernel) (by decide +kernel)
theorem kw_478 : (Jvm.Cond.methodLink "MoverRoom$Verdict" (83 : Nat) ({ cls := "MoverRoom$Verdict", name := "exchange", desc := "(III)Z" } : Jvm.MethodName)) ∈ gw := gw_of 478 (by decide +kernel) (by decide +kernel)
theorem kw_480 : (Jvm.Cond.instanceMethod ({ cls := "MoverRoom$Verdict", name := "exchange", desc := "(III)Z" } : Jvm.MethodName)) ∈ gw := gw_of 480 (by decide +kernel) (by decide +kernel)
theorem kw_481 : (Jvm.Cond.code ({ cls := "MoverRoom$Verdict", name := "exchange", desc := "(III)Z" } : Jvm.MethodName) prog_7_method_8_code (4 : Nat) (Option.some Jvm.ClassFile.FieldType.boolean)) ∈ gw := gw_of 481 (by decide +kernel) (by decide +kernel)
theorem kw_483 : (Jvm.Cond.instantiable "MoverRoomModel" (33 : Nat)) ∈ gw := gw_of 483 (by decide +kernel) (by decide +kernel)
theorem kw_487 : (Jvm.Cond.methodLink "MoverRoomModel" (1 : Nat) ({ cls := "java/lang/Object", name := "<init>", desc := "()V" } : Jvm.MethodName)) ∈ gw := gw_of 487 (by decide +kernel) (by decide +kernel)
theorem kw_488 : (Jvm.Cond.constant "MoverRoomModel" (45 : Nat) (512000 : Int32)) ∈ gw := gw_of 488 (by decide +kernel) (by decide +kernel)
theorem kw_489 : (Jvm.Cond.fieldLink "MoverRoomModel" (7 : Nat) "MoverRoomModel" "wide" "I") ∈ gw := gw_of 489 (by decide +kernel) (by decide +kernel)
theorem kw_490 : (Jvm.Cond.fieldLink "MoverRoomModel" (13 : Nat) "MoverRoomModel" "high" "I") ∈ gw := gw_of 490 (by decide +kernel) (by decide +kernel)
theorem kw_491 : (Jvm.Cond.fieldLink "MoverRoomModel" (16 : Nat) "MoverRoomModel" "walls" "[Z") ∈ gw := gw_of 491 (by decide +kernel) (by decide +kernel)
theorem kw_492 : (Jvm.Cond.fieldLink "MoverRoomModel" (86 : Nat) "MoverRoomModel" "movers" "I") ∈ gw := gw_of 492 (by decide +kernel) (by decide +kernel)
theorem kw_493 : (Jvm.Cond.fieldLink "MoverRoomModel" (20 : Nat) "MoverRoomModel" "starts" "[I") ∈ gw := gw_of 493 (by decide +kernel) (by decide +kernel)
theorem kw_494 : (Jvm.Cond.fieldLink "MoverRoomModel" (24 : Nat) "MoverRoomModel" "goals" "[I") ∈ gw := gw_of 494 (by decide +kernel) (by decide +kernel)
theorem kw_495 : (Jvm.Cond.fieldLink "MoverRoomModel" (27 : Nat) "MoverRoomModel" "laid" "[I") ∈ gw := gw_of 495 (by decide +kernel) (by decide +kernel)
theorem kw_496 : (Jvm.Cond.fieldLink "MoverRoomModel" (30 : Nat) "MoverRoomModel" "isTold" "[Z") ∈ gw := gw_of 496 (by decide +kernel) (by decide +kernel)
theorem kw_497 : (Jvm.Cond.fieldLink "MoverRoomModel" (120 : Nat) "MoverRoomModel" "free" "I") ∈ gw := gw_of 497 (by decide +kernel) (by decide +kernel)
theorem kw_498 : (Jvm.Cond.fieldLink "MoverRoomModel" (33 : Nat) "MoverRoomModel" "cells" "[I") ∈ gw := gw_of 498 (by decide +kernel) (by decide +kernel)
theorem kw_499 : (Jvm.Cond.fieldLink "MoverRoomModel" (36 : Nat) "MoverRoomModel" "index" "[I") ∈ gw := gw_of 499 (by decide +kernel) (by decide +kernel)
theorem kw_500 : (Jvm.Cond.fieldLink "MoverRoomModel" (39 : Nat) "MoverRoomModel" "near" "[I") ∈ gw := gw_of 500 (by decide +kernel) (by decide +kernel)
theorem kw_501 : (Jvm.Cond.fieldLink "MoverRoomModel" (42 : Nat) "MoverRoomModel" "nearCount" "[I") ∈ gw := gw_of 501 (by decide +kernel) (by decide +kernel)
theorem kw_502 : (Jvm.Cond.fieldLink "MoverRoomModel" (46 : Nat) "MoverRoomModel" "pay" "[I") ∈ gw := gw_of 502 (by decide +kernel) (by decide +kernel)
theorem kw_503 : (Jvm.Cond.fieldLink "MoverRoomModel" (49 : Nat) "MoverRoomModel" "done" "[Z") ∈ gw := gw_of 503 (by decide +kernel) (by decide +kernel)
theorem kw_504 : (Jvm.Cond.fieldLink "MoverRoomModel" (52 : Nat) "MoverRoomModel" "pile" "[I") ∈ gw := gw_of 504 (by decide +kernel) (by decide +kernel)
theorem kw_505 : (Jvm.Cond.fieldLink "MoverRoomModel" (130 : Nat) "MoverRoomModel" "top" "I") ∈ gw := gw_of 505 (by decide +kernel) (by decide +kernel)
theorem kw_506 : (Jvm.Cond.fieldLink "MoverRoomModel" (55 : Nat) "MoverRoomModel" "now" "[I") ∈ gw := gw_of 506 (by decide +kernel) (by decide +kernel)
theorem kw_507 : (Jvm.Cond.fieldLink "MoverRoomModel" (58 : Nat) "MoverRoomModel" "then" "[I") ∈ gw := gw_of 507 (by decide +kernel) (by decide +kernel)
theorem kw_508 : (Jvm.Cond.fieldLink "MoverRoomModel" (61 : Nat) "MoverRoomModel" "choice" "[I") ∈ gw := gw_of 508 (by decide +kernel) (by decide +kernel)
theorem kw_509 : (Jvm.Cond.fieldLink "MoverRoomModel" (89 : Nat) "MoverRoomModel" "found" "Z") ∈ gw := gw_of 509 (by decide +kernel) (by decide +kernel)
theorem kw_510 : (Jvm.Cond.fieldLink "MoverRoomModel" (167 : Nat) "MoverRoomModel" "length" "I") ∈ gw := gw_of 510 (by decide +kernel) (by decide +kernel)
theorem kw_511 : (Jvm.Cond.fieldLink "MoverRoomModel" (64 : Nat) "MoverRoomModel" "plan" "[I") ∈ gw := gw_of 511 (by decide +kernel) (by decide +kernel)
theorem kw_512 : (Jvm.Cond.fieldLink "MoverRoomModel" (67 : Nat) "MoverRoomModel" "costs" "[I") ∈ gw := gw_of 512 (by decide +kernel) (by decide +kernel)
theorem kw_513 : (Jvm.Cond.fieldLink "MoverRoomModel" (70 : Nat) "MoverRoomModel" "paid" "[I") ∈ gw := gw_of 513 (by decide +kernel) (by decide +kernel)
theorem kw_514 : (Jvm.Cond.fieldLink "MoverRoomModel" (73 : Nat) "MoverRoomModel" "after" "[I") ∈ gw := gw_of 514 (by decide +kernel) (by decide +kernel)
theorem kw_515 : (Jvm.Cond.fieldLink "MoverRoomModel" (76 : Nat) "MoverRoomModel" "far" "[I") ∈ gw := gw_of 515 (by decide +kernel) (by decide +kernel)
theorem kw_516 : (Jvm.Cond.fieldLink "MoverRoomModel" (79 : Nat) "MoverRoomModel" "many" "[J") ∈ gw := gw_of 516 (by decide +kernel) (by decide +kernel)
theorem kw_517 : (Jvm.Cond.fieldLink "MoverRoomModel" (83 : Nat) "MoverRoomModel" "next" "[J") ∈ gw := gw_of 517 (by decide +kernel) (by decide +kernel)
theorem kw_518 : (Jvm.Cond.fieldLink "MoverRoomModel" (196 : Nat) "MoverRoomModel" "sort" "I") ∈ gw := gw_of 518 (by decide +kernel) (by decide +kernel)
theorem kw_519 : (Jvm.Cond.fieldLink "MoverRoomModel" (199 : Nat) "MoverRoomModel" "when" "I") ∈ gw := gw_of 519 (by decide +kernel) (by decide +kernel)
theorem kw_520 : (Jvm.Cond.fieldLink "MoverRoomModel" (202 : Nat) "MoverRoomModel" "one" "I") ∈ gw := gw_of 520 (by decide +kernel) (by decide +kernel)
theorem kw_521 : (Jvm.Cond.fieldLink "MoverRoomModel" (205 : Nat) "MoverRoomModel" "two" "I") ∈ gw := gw_of 521 (by decide +kernel) (by decide +kernel)
theorem kw_593 : (Jvm.Cond.methodLink "MoverRoomModel" (93 : Nat) ({ cls := "MoverRoomModel", name := "size", desc := "()I" } : Jvm.MethodName)) ∈ gw := gw_of 593 (by decide +kernel) (by decide +kernel)
theorem kw_595 : (Jvm.Cond.instanceMethod ({ cls := "MoverRoomModel", name := "size", desc := "()I" } : Jvm.MethodName)) ∈ gw := gw_of 595 (by decide +kernel) (by decide +kernel)
theorem kw_596 : (Jvm.Cond.code ({ cls := "MoverRoomModel", name := "size", desc := "()I" } : Jvm.MethodName) prog_9_method_2_code (1 : Nat) (Option.some Jvm.ClassFile.FieldType.int)) ∈ gw := gw_of 596 (by decide +kernel) (by decide +kernel)
theorem kw_601 : (Jvm.Cond.methodLink "MoverRoomModel" (97 : Nat) ({ cls := "MoverRoomModel", name := "isCell", desc := "(I)Z" } : Jvm.MethodName)) ∈ gw := gw_of 601 (by decide +kernel) (by decide +kernel)
theorem kw_603 : (Jvm.Cond.instanceMethod ({ cls := "MoverRoomModel", name := "isCell", desc := "(I)Z" } : Jvm.MethodName)) ∈ gw := gw_of 603 (by decide +kernel) (by decide +kernel)
theorem kw_604 : (Jvm.Cond.code ({ cls := "MoverRoomModel", name := "isCell", desc := "(I)Z" } : Jvm.MethodName) prog_9_method_4_code (2 : Nat) (Option.some Jvm.ClassFile.FieldType.boolean)) ∈ gw := gw_of 604 (by decide +kernel) (by decide +kernel)
theorem kw_609 : (Jvm.Cond.methodLink "MoverRoomModel" (101 : Nat) ({ cls := "MoverRoomModel", name := "isFree", desc := "(I)Z" } : Jvm.MethodName)) ∈ gw := gw_of 609 (by decide +kernel) (by decide +kernel)
theorem kw_611 : (Jvm.Cond.instanceMethod ({ cls := "MoverRoomModel", name := "isFree", desc := "(I)Z" } : Jvm.MethodName)) ∈ gw := gw_of 611 (by decide +kernel) (by decide +kernel)
theorem kw_612 : (Jvm.Cond.code ({ cls := "MoverRoomModel", name := "isFree", desc := "(I)Z" } : Jvm.MethodName) prog_9_method_5_code (2 : Nat) (Option.some Jvm.ClassFile.FieldType.boolean)) ∈ gw := gw_of 612 (by decide +kernel) (by decide +kernel)
theorem kw_613 : (Jvm.Cond.methodLink "MoverRoomModel" (104 : Nat) ({ cls := "MoverRoomModel", name := "freeCells", desc := "()I" } : Jvm.MethodName)) ∈ gw := gw_of 613 (by decide +kernel) (by decide +kernel)
theorem kw_615 : (Jvm.Cond.instanceMethod ({ cls := "MoverRoomModel", name := "freeCells", desc := "()I" } : Jvm.MethodName)) ∈ gw := gw_of 615 (by decide +kernel) (by decide +kernel)
theorem kw_616 : (Jvm.Cond.code ({ cls := "MoverRoomModel", name := "freeCells", desc := "()I" } : Jvm.MethodName) prog_9_method_7_code (3 : Nat) (Option.some Jvm.ClassFile.FieldType.int)) ∈ gw := gw_of 616 (by decide +kernel) (by decide +kernel)
theorem kw_622 : (Jvm.Cond.instanceMethod ({ cls := "MoverRoomModel", name := "distance", desc := "(I)I" } : Jvm.MethodName)) ∈ gw := gw_of 622 (by decide +kernel) (by decide +kernel)
theorem kw_623 : (Jvm.Cond.selects "MoverRoomModel" ({ cls := "MoverRoomModel", name := "distance", desc := "(I)I" } : Jvm.MethodName) ({ cls := "MoverRoomModel", name := "distance", desc := "(I)I" } : Jvm.MethodName)) ∈ gw := gw_of 623 (by decide +kernel) (by decide +kernel)
theorem kw_624 : (Jvm.Cond.code ({ cls := "MoverRoomModel", name := "distance", desc := "(I)I" } : Jvm.MethodName) prog_9_method_13_code (2 : Nat) (Option.some Jvm.ClassFile.FieldType.int)) ∈ gw := gw_of 624 (by decide +kernel) (by decide +kernel)
theorem kw_625 : (Jvm.Cond.methodLink "MoverRoomModel" (111 : Nat) ({ cls := "MoverRoomModel", name := "isMover", desc := "(I)Z" } : Jvm.MethodName)) ∈ gw := gw_of 625 (by decide +kernel) (by decide +kernel)
theorem kw_627 : (Jvm.Cond.instanceMethod ({ cls := "MoverRoomModel", name := "isMover", desc := "(I)Z" } : Jvm.MethodName)) ∈ gw := gw_of 627 (by decide +kernel) (by decide +kernel)
theorem kw_628 : (Jvm.Cond.code ({ cls := "MoverRoomModel", name := "isMover", desc := "(I)Z" } : Jvm.MethodName) prog_9_method_12_code (2 : Nat) (Option.some Jvm.ClassFile.FieldType.boolean)) ∈ gw := gw_of 628 (by decide +kernel) (by decide +kernel)
theorem kw_629 : (Jvm.Cond.methodLink "MoverRoomModel" (114 : Nat) ({ cls := "MoverRoomModel", name := "findFar", desc := "(I)V" } : Jvm.MethodName)) ∈ gw := gw_of 629 (by decide +kernel) (by decide +kernel)
theorem kw_631 : (Jvm.Cond.instanceMethod ({ cls := "MoverRoomModel", name := "findFar", desc := "(I)V" } : Jvm.MethodName)) ∈ gw := gw_of 631 (by decide +kernel) (by decide +kernel)
theorem kw_632 : (Jvm.Cond.code ({ cls := "MoverRoomModel", name := "findFar", desc := "(I)V" } : Jvm.MethodName) prog_9_method_11_code (5 : Nat) (Option.none : Option Jvm.ClassFile.FieldType)) ∈ gw := gw_of 632 (by decide +kernel) (by decide +kernel)
theorem kw_633 : (Jvm.Cond.methodLink "MoverRoomModel" (107 : Nat) ({ cls := "MoverRoomModel", name := "isBeside", desc := "(II)Z" } : Jvm.MethodName)) ∈ gw := gw_of 633 (by decide +kernel) (by decide +kernel)
theorem kw_635 : (Jvm.Cond.instanceMethod ({ cls := "MoverRoomModel", name := "isBeside", desc := "(II)Z" } : Jvm.MethodName)) ∈ gw := gw_of 635 (by decide +kernel) (by decide +kernel)
theorem kw_636 : (Jvm.Cond.code ({ cls := "MoverRoomModel", name := "isBeside", desc := "(II)Z" } : Jvm.MethodName) prog_9_method_10_code (5 : Nat) (Option.some Jvm.ClassFile.FieldType.boolean)) ∈ gw := gw_of 636 (by decide +kernel) (by decide +kernel)
theorem kw_641 : (Jvm.Cond.constantLong "MoverRoomModel" (118 : Nat) (-1 : Int64)) ∈ gw := gw_of 641 (by decide +kernel) (by decide +kernel)
theorem kw_646 : (Jvm.Cond.methodLink "MoverRoomModel" (164 : Nat) ({ cls := "MoverRoomModel", name := "distance", desc := "(I)I" } : Jvm.MethodName)) ∈ gw := gw_of 646 (by decide +kernel) (by decide +kernel)
theorem kw_647 : (Jvm.Cond.methodLink "MoverRoomModel" (170 : Nat) ({ cls := "MoverRoomModel", name := "number", desc := "()V" } : Jvm.MethodName)) ∈ gw := gw_of 647 (by decide +kernel) (by decide +kernel)
theorem kw_649 : (Jvm.Cond.instanceMethod ({ cls := "MoverRoomModel", name := "number", desc := "()V" } : Jvm.MethodName)) ∈ gw := gw_of 649 (by decide +kernel) (by decide +kernel)
theorem kw_650 : (Jvm.Cond.code ({ cls := "MoverRoomModel", name := "number", desc := "()V" } : Jvm.MethodName) prog_9_method_15_code (3 : Nat) (Option.none : Option Jvm.ClassFile.FieldType)) ∈ gw := gw_of 650 (by decide +kernel) (by decide +kernel)
theorem kw_651 : (Jvm.Cond.methodLink "MoverRoomModel" (173 : Nat) ({ cls := "MoverRoomModel", name := "findPays", desc := "(I)V" } : Jvm.MethodName)) ∈ gw := gw_of 651 (by decide +kernel) (by decide +kernel)
theorem kw_653 : (Jvm.Cond.instanceMethod ({ cls := "MoverRoomModel", name := "findPays", desc := "(I)V" } : Jvm.MethodName)) ∈ gw := gw_of 653 (by decide +kernel) (by decide +kernel)
theorem kw_654 : (Jvm.Cond.code ({ cls := "MoverRoomModel", name := "findPays", desc := "(I)V" } : Jvm.MethodName) prog_9_method_28_code (6 : Nat) (Option.none : Option Jvm.ClassFile.FieldType)) ∈ gw := gw_of 654 (by decide +kernel) (by decide +kernel)
theorem kw_655 : (Jvm.Cond.methodLink "MoverRoomModel" (150 : Nat) ({ cls := "MoverRoomModel", name := "placesOf", desc := "([I)I" } : Jvm.MethodName)) ∈ gw := gw_of 655 (by decide +kernel) (by decide +kernel)
theorem kw_657 : (Jvm.Cond.instanceMethod ({ cls := "MoverRoomModel", name := "placesOf", desc := "([I)I" } : Jvm.MethodName)) ∈ gw := gw_of 657 (by decide +kernel) (by decide +kernel)
theorem kw_658 : (Jvm.Cond.code ({ cls := "MoverRoomModel", name := "placesOf", desc := "([I)I" } : Jvm.MethodName) prog_9_method_16_code (4 : Nat) (Option.some Jvm.ClassFile.FieldType.int)) ∈ gw := gw_of 658 (by decide +kernel) (by decide +kernel)
theorem kw_659 : (Jvm.Cond.methodLink "MoverRoomModel" (160 : Nat) ({ cls := "MoverRoomModel", name := "relax", desc := "(II)V" } : Jvm.MethodName)) ∈ gw := gw_of 659 (by decide +kernel) (by decide +kernel)
theorem kw_661 : (Jvm.Cond.instanceMethod ({ cls := "MoverRoomModel", name := "relax", desc := "(II)V" } : Jvm.MethodName)) ∈ gw := gw_of 661 (by decide +kernel) (by decide +kernel)
theorem kw_662 : (Jvm.Cond.code ({ cls := "MoverRoomModel", name := "relax", desc := "(II)V" } : Jvm.MethodName) prog_9_method_26_code (6 : Nat) (Option.none : Option Jvm.ClassFile.FieldType)) ∈ gw := gw_of 662 (by decide +kernel) (by decide +kernel)
theorem kw_663 : (Jvm.Cond.methodLink "MoverRoomModel" (123 : Nat) ({ cls := "MoverRoomModel", name := "rests", desc := "(II)Z" } : Jvm.MethodName)) ∈ gw := gw_of 663 (by decide +kernel) (by decide +kernel)
theorem kw_664 : (Jvm.Cond.static ({ cls := "MoverRoomModel", name := "rests", desc := "(II)Z" } : Jvm.MethodName)) ∈ gw := gw_of 664 (by decide +kernel) (by decide +kernel)
theorem kw_665 : (Jvm.Cond.code ({ cls := "MoverRoomModel", name := "rests", desc := "(II)Z" } : Jvm.MethodName) prog_9_method_18_code (2 : Nat) (Option.some Jvm.ClassFile.FieldType.boolean)) ∈ gw := gw_of 665 (by decide +kernel) (by decide +kernel)
theorem kw_666 : (Jvm.Cond.methodLink "MoverRoomModel" (133 : Nat) ({ cls := "MoverRoomModel", name := "lower", desc := "(III)V" } : Jvm.MethodName)) ∈ gw := gw_of 666 (by decide +kernel) (by decide +kernel)
theorem kw_668 : (Jvm.Cond.instanceMethod ({ cls := "MoverRoomModel", name := "lower", desc := "(III)V" } : Jvm.MethodName)) ∈ gw := gw_of 668 (by decide +kernel) (by decide +kernel)
theorem kw_669 : (Jvm.Cond.code ({ cls := "MoverRoomModel", name := "lower", desc := "(III)V" } : Jvm.MethodName) prog_9_method_25_code (4 : Nat) (Option.none : Option Jvm.ClassFile.FieldType)) ∈ gw := gw_of 669 (by decide +kernel) (by decide +kernel)
theorem kw_670 : (Jvm.Cond.methodLink "MoverRoomModel" (137 : Nat) ({ cls := "MoverRoomModel", name := "open", desc := "(I)V" } : Jvm.MethodName)) ∈ gw := gw_of 670 (by decide +kernel) (by decide +kernel)
theorem kw_672 : (Jvm.Cond.instanceMethod ({ cls := "MoverRoomModel", name := "open", desc := "(I)V" } : Jvm.MethodName)) ∈ gw := gw_of 672 (by decide +kernel) (by decide +kernel)
theorem kw_673 : (Jvm.Cond.code ({ cls := "MoverRoomModel", name := "open", desc := "(I)V" } : Jvm.MethodName) prog_9_method_17_code (4 : Nat) (Option.none : Option Jvm.ClassFile.FieldType)) ∈ gw := gw_of 673 (by decide +kernel) (by decide +kernel)
theorem kw_674 : (Jvm.Cond.methodLink "MoverRoomModel" (140 : Nat) ({ cls := "MoverRoomModel", name := "firstChoice", desc := "()V" } : Jvm.MethodName)) ∈ gw := gw_of 674 (by decide +kernel) (by decide +kernel)
theorem kw_676 : (Jvm.Cond.instanceMethod ({ cls := "MoverRoomModel", name := "firstChoice", desc := "()V" } : Jvm.MethodName)) ∈ gw := gw_of 676 (by decide +kernel) (by decide +kernel)
theorem kw_677 : (Jvm.Cond.code ({ cls := "MoverRoomModel", name := "firstChoice", desc := "()V" } : Jvm.MethodName) prog_9_method_19_code (2 : Nat) (Option.none : Option Jvm.ClassFile.FieldType)) ∈ gw := gw_of 677 (by decide +kernel) (by decide +kernel)
theorem kw_678 : (Jvm.Cond.methodLink "MoverRoomModel" (143 : Nat) ({ cls := "MoverRoomModel", name := "choose", desc := "(I)V" } : Jvm.MethodName)) ∈ gw := gw_of 678 (by decide +kernel) (by decide +kernel)
theorem kw_680 : (Jvm.Cond.instanceMethod ({ cls := "MoverRoomModel", name := "choose", desc := "(I)V" } : Jvm.MethodName)) ∈ gw := gw_of 680 (by decide +kernel) (by decide +kernel)
theorem kw_681 : (Jvm.Cond.code ({ cls := "MoverRoomModel", name := "choose", desc := "(I)V" } : Jvm.MethodName) prog_9_method_21_code (3 : Nat) (Option.none : Option Jvm.ClassFile.FieldType)) ∈ gw := gw_of 681 (by decide +kernel) (by decide +kernel)
theorem kw_682 : (Jvm.Cond.methodLink "MoverRoomModel" (146 : Nat) ({ cls := "MoverRoomModel", name := "meet", desc := "()Z" } : Jvm.MethodName)) ∈ gw := gw_of 682 (by decide +kernel) (by decide +kernel)
theorem kw_684 : (Jvm.Cond.instanceMethod ({ cls := "MoverRoomModel", name := "meet", desc := "()Z" } : Jvm.MethodName)) ∈ gw := gw_of 684 (by decide +kernel) (by decide +kernel)
theorem kw_685 : (Jvm.Cond.code ({ cls := "MoverRoomModel", name := "meet", desc := "()Z" } : Jvm.MethodName) prog_9_method_23_code (4 : Nat) (Option.some Jvm.ClassFile.FieldType.boolean)) ∈ gw := gw_of 685 (by decide +kernel) (by decide +kernel)
theorem kw_686 : (Jvm.Cond.methodLink "MoverRoomModel" (154 : Nat) ({ cls := "MoverRoomModel", name := "size", desc := "(I)I" } : Jvm.MethodName)) ∈ gw := gw_of 686 (by decide +kernel) (by decide +kernel)
theorem kw_687 : (Jvm.Cond.static ({ cls := "MoverRoomModel", name := "size", desc := "(I)I" } : Jvm.MethodName)) ∈ gw := gw_of 687 (by decide +kernel) (by decide +kernel)
theorem kw_688 : (Jvm.Cond.code ({ cls := "MoverRoomModel", name := "size", desc := "(I)I" } : Jvm.MethodName) prog_9_method_24_code (2 : Nat) (Option.some Jvm.ClassFile.FieldType.int)) ∈ gw := gw_of 688 (by decide +kernel) (by decide +kernel)
theorem kw_689 : (Jvm.Cond.methodLink "MoverRoomModel" (157 : Nat) ({ cls := "MoverRoomModel", name := "nextChoice", desc := "(I)Z" } : Jvm.MethodName)) ∈ gw := gw_of 689 (by decide +kernel) (by decide +kernel)
theorem kw_691 : (Jvm.Cond.instanceMethod ({ cls := "MoverRoomModel", name := "nextChoice", desc := "(I)Z" } : Jvm.MethodName)) ∈ gw := gw_of 691 (by decide +kernel) (by decide +kernel)
theorem kw_692 : (Jvm.Cond.code ({ cls := "MoverRoomModel", name := "nextChoice", desc := "(I)Z" } : Jvm.MethodName) prog_9_method_22_code (3 : Nat) (Option.some Jvm.ClassFile.FieldType.boolean)) ∈ gw := gw_of 692 (by decide +kernel) (by decide +kernel)
theorem kw_693 : (Jvm.Cond.methodLink "MoverRoomModel" (126 : Nat) ({ cls := "MoverRoomModel", name := "choices", desc := "(II)I" } : Jvm.MethodName)) ∈ gw := gw_of 693 (by decide +kernel) (by decide +kernel)
theorem kw_695 : (Jvm.Cond.instanceMethod ({ cls := "MoverRoomModel", name := "choices", desc := "(II)I" } : Jvm.MethodName)) ∈ gw := gw_of 695 (by decide +kernel) (by decide +kernel)
theorem kw_696 : (Jvm.Cond.code ({ cls := "MoverRoomModel", name := "choices", desc := "(II)I" } : Jvm.MethodName) prog_9_method_20_code (3 : Nat) (Option.some Jvm.ClassFile.FieldType.int)) ∈ gw := gw_of 696 (by decide +kernel) (by decide +kernel)
theorem kw_697 : (Jvm.Cond.methodLink "MoverRoomModel" (176 : Nat) ({ cls := "MoverRoomModel", name := "walk", desc := "(I)V" } : Jvm.MethodName)) ∈ gw := gw_of 697 (by decide +kernel) (by decide +kernel)
theorem kw_699 : (Jvm.Cond.instanceMethod ({ cls := "MoverRoomModel", name := "walk", desc := "(I)V" } : Jvm.MethodName)) ∈ gw := gw_of 699 (by decide +kernel) (by decide +kernel)
theorem kw_700 : (Jvm.Cond.code ({ cls := "MoverRoomModel", name := "walk", desc := "(I)V" } : Jvm.MethodName) prog_9_method_32_code (5 : Nat) (Option.none : Option Jvm.ClassFile.FieldType)) ∈ gw := gw_of 700 (by decide +kernel) (by decide +kernel)
theorem kw_701 : (Jvm.Cond.methodLink "MoverRoomModel" (179 : Nat) ({ cls := "MoverRoomModel", name := "mayRest", desc := "(I[I)Z" } : Jvm.MethodName)) ∈ gw := gw_of 701 (by decide +kernel) (by decide +kernel)
theorem kw_703 : (Jvm.Cond.instanceMethod ({ cls := "MoverRoomModel", name := "mayRest", desc := "(I[I)Z" } : Jvm.MethodName)) ∈ gw := gw_of 703 (by decide +kernel) (by decide +kernel)
theorem kw_704 : (Jvm.Cond.code ({ cls := "MoverRoomModel", name := "mayRest", desc := "(I[I)Z" } : Jvm.MethodName) prog_9_method_30_code (5 : Nat) (Option.some Jvm.ClassFile.FieldType.boolean)) ∈ gw := gw_of 704 (by decide +kernel) (by decide +kernel)
theorem kw_705 : (Jvm.Cond.methodLink "MoverRoomModel" (183 : Nat) ({ cls := "MoverRoomModel", name := "write", desc := "(I[I)V" } : Jvm.MethodName)) ∈ gw := gw_of 705 (by decide +kernel) (by decide +kernel)
theorem kw_707 : (Jvm.Cond.instanceMethod ({ cls := "MoverRoomModel", name := "write", desc := "(I[I)V" } : Jvm.MethodName)) ∈ gw := gw_of 707 (by decide +kernel) (by decide +kernel)
theorem kw_708 : (Jvm.Cond.code ({ cls := "MoverRoomModel", name := "write", desc := "(I[I)V" } : Jvm.MethodName) prog_9_method_31_code (4 : Nat) (Option.none : Option Jvm.ClassFile.FieldType)) ∈ gw := gw_of 708 (by decide +kernel) (by decide +kernel)
theorem kw_709 : (Jvm.Cond.methodLink "MoverRoomModel" (187 : Nat) ({ cls := "MoverRoomModel", name := "goesOn", desc := "(I)Z" } : Jvm.MethodName)) ∈ gw := gw_of 709 (by decide +kernel) (by decide +kernel)
theorem kw_711 : (Jvm.Cond.instanceMethod ({ cls := "MoverRoomModel", name := "goesOn", desc := "(I)Z" } : Jvm.MethodName)) ∈ gw := gw_of 711 (by decide +kernel) (by decide +kernel)
theorem kw_712 : (Jvm.Cond.code ({ cls := "MoverRoomModel", name := "goesOn", desc := "(I)Z" } : Jvm.MethodName) prog_9_method_33_code (8 : Nat) (Option.some Jvm.ClassFile.FieldType.boolean)) ∈ gw := gw_of 712 (by decide +kernel) (by decide +kernel)
theorem kw_713 : (Jvm.Cond.methodLink "MoverRoomModel" (190 : Nat) ({ cls := "MoverRoomModel", name := "stays", desc := "(I)Z" } : Jvm.MethodName)) ∈ gw := gw_of 713 (by decide +kernel) (by decide +kernel)
theorem kw_715 : (Jvm.Cond.instanceMethod ({ cls := "MoverRoomModel", name := "stays", desc := "(I)Z" } : Jvm.MethodName)) ∈ gw := gw_of 715 (by decide +kernel) (by decide +kernel)
theorem kw_716 : (Jvm.Cond.code ({ cls := "MoverRoomModel", name := "stays", desc := "(I)Z" } : Jvm.MethodName) prog_9_method_34_code (4 : Nat) (Option.some Jvm.ClassFile.FieldType.boolean)) ∈ gw := gw_of 716 (by decide +kernel) (by decide +kernel)
theorem kw_733 : (Jvm.Cond.methodLink "MoverRoomModel" (215 : Nat) ({ cls := "MoverRoomModel", name := "look", desc := "()V" } : Jvm.MethodName)) ∈ gw := gw_of 733 (by decide +kernel) (by decide +kernel)
theorem kw_735 : (Jvm.Cond.instanceMethod ({ cls := "MoverRoomModel", name := "look", desc := "()V" } : Jvm.MethodName)) ∈ gw := gw_of 735 (by decide +kernel) (by decide +kernel)
theorem kw_736 : (Jvm.Cond.code ({ cls := "MoverRoomModel", name := "look", desc := "()V" } : Jvm.MethodName) prog_9_method_41_code (4 : Nat) (Option.none : Option Jvm.ClassFile.FieldType)) ∈ gw := gw_of 736 (by decide +kernel) (by decide +kernel)
theorem kw_737 : (Jvm.Cond.methodLink "MoverRoomModel" (208 : Nat) ({ cls := "MoverRoomModel", name := "isWrong", desc := "(II)Z" } : Jvm.MethodName)) ∈ gw := gw_of 737 (by decide +kernel) (by decide +kernel)
theorem kw_739 : (Jvm.Cond.instanceMethod ({ cls := "MoverRoomModel", name := "isWrong", desc := "(II)Z" } : Jvm.MethodName)) ∈ gw := gw_of 739 (by decide +kernel) (by decide +kernel)
theorem kw_740 : (Jvm.Cond.code ({ cls := "MoverRoomModel", name := "isWrong", desc := "(II)Z" } : Jvm.MethodName) prog_9_method_39_code (5 : Nat) (Option.some Jvm.ClassFile.FieldType.boolean)) ∈ gw := gw_of 740 (by decide +kernel) (by decide +kernel)
theorem kw_741 : (Jvm.Cond.methodLink "MoverRoomModel" (193 : Nat) ({ cls := "MoverRoomModel", name := "place", desc := "(II)I" } : Jvm.MethodName)) ∈ gw := gw_of 741 (by decide +kernel) (by decide +kernel)
theorem kw_743 : (Jvm.Cond.instanceMethod ({ cls := "MoverRoomModel", name := "place", desc := "(II)I" } : Jvm.MethodName)) ∈ gw := gw_of 743 (by decide +kernel) (by decide +kernel)
theorem kw_744 : (Jvm.Cond.code ({ cls := "MoverRoomModel", name := "place", desc := "(II)I" } : Jvm.MethodName) prog_9_method_38_code (5 : Nat) (Option.some Jvm.ClassFile.FieldType.int)) ∈ gw := gw_of 744 (by decide +kernel) (by decide +kernel)
theorem kw_745 : (Jvm.Cond.methodLink "MoverRoomModel" (211 : Nat) ({ cls := "MoverRoomModel", name := "wrong", desc := "(IIII)V" } : Jvm.MethodName)) ∈ gw := gw_of 745 (by decide +kernel) (by decide +kernel)
theorem kw_747 : (Jvm.Cond.instanceMethod ({ cls := "MoverRoomModel", name := "wrong", desc := "(IIII)V" } : Jvm.MethodName)) ∈ gw := gw_of 747 (by decide +kernel) (by decide +kernel)
theorem kw_748 : (Jvm.Cond.code ({ cls := "MoverRoomModel", name := "wrong", desc := "(IIII)V" } : Jvm.MethodName) prog_9_method_40_code (5 : Nat) (Option.none : Option Jvm.ClassFile.FieldType)) ∈ gw := gw_of 748 (by decide +kernel) (by decide +kernel)
theorem ks_cr_measure : (Jvm.Cond.selects "MoverRoom$Crew" ({ cls := "MoverRoom$Crew", name := "measure", desc := "(I[I)V" } : Jvm.MethodName) ({ cls := "MoverRoom$Crew", name := "measure", desc := "(I[I)V" } : Jvm.MethodName)) ∈ gw := gw_sel (by decide +kernel) (by decide +kernel)
theorem ks_cr_spreadCounts : (Jvm.Cond.selects "MoverRoom$Crew" ({ cls := "MoverRoom$Crew", name := "spreadCounts", desc := "()V" } : Jvm.MethodName) ({ cls := "MoverRoom$Crew", name := "spreadCounts", desc := "()V" } : Jvm.MethodName)) ∈ gw := gw_sel (by decide +kernel) (by decide +kernel)
theorem ks_cr_countsBeside : (Jvm.Cond.selects "MoverRoom$Crew" ({ cls := "MoverRoom$Crew", name := "countsBeside", desc := "(I)J" } : Jvm.MethodName) ({ cls := "MoverRoom$Crew", name := "countsBeside", desc := "(I)J" } : Jvm.MethodName)) ∈ gw := gw_sel (by decide +kernel) (by decide +kernel)
theorem ks_fl_chart : (Jvm.Cond.selects "MoverRoom$Floor" ({ cls := "MoverRoom$Floor", name := "chart", desc := "()V" } : Jvm.MethodName) ({ cls := "MoverRoom$Floor", name := "chart", desc := "()V" } : Jvm.MethodName)) ∈ gw := gw_sel (by decide +kernel) (by decide +kernel)
theorem ks_fl_chartCell : (Jvm.Cond.selects "MoverRoom$Floor" ({ cls := "MoverRoom$Floor", name := "chartCell", desc := "(II)V" } : Jvm.MethodName) ({ cls := "MoverRoom$Floor", name := "chartCell", desc := "(II)V" } : Jvm.MethodName)) ∈ gw := gw_sel (by decide +kernel) (by decide +kernel)
theorem ks_fl_addStep : (Jvm.Cond.selects "MoverRoom$Floor" ({ cls := "MoverRoom$Floor", name := "addStep", desc := "(II)V" } : Jvm.MethodName) ({ cls := "MoverRoom$Floor", name := "addStep", desc := "(II)V" } : Jvm.MethodName)) ∈ gw := gw_sel (by decide +kernel) (by decide +kernel)
theorem ks_ld_isTold : (Jvm.Cond.selects "MoverRoom$LaidPlan" ({ cls := "MoverRoom$LaidPlan", name := "isTold", desc := "(II)Z" } : Jvm.MethodName) ({ cls := "MoverRoom$LaidPlan", name := "isTold", desc := "(II)Z" } : Jvm.MethodName)) ∈ gw := gw_sel (by decide +kernel) (by decide +kernel)
theorem ks_le_shiftOf : (Jvm.Cond.selects "MoverRoom$Levels" ({ cls := "MoverRoom$Levels", name := "shiftOf", desc := "(I)I" } : Jvm.MethodName) ({ cls := "MoverRoom$Levels", name := "shiftOf", desc := "(I)I" } : Jvm.MethodName)) ∈ gw := gw_sel (by decide +kernel) (by decide +kernel)
theorem ks_md_isFree : (Jvm.Cond.selects "MoverRoomModel" ({ cls := "MoverRoomModel", name := "isFree", desc := "(I)Z" } : Jvm.MethodName) ({ cls := "MoverRoomModel", name := "isFree", desc := "(I)Z" } : Jvm.MethodName)) ∈ gw := gw_sel (by decide +kernel) (by decide +kernel)
theorem ks_md_freeCells : (Jvm.Cond.selects "MoverRoomModel" ({ cls := "MoverRoomModel", name := "freeCells", desc := "()I" } : Jvm.MethodName) ({ cls := "MoverRoomModel", name := "freeCells", desc := "()I" } : Jvm.MethodName)) ∈ gw := gw_sel (by decide +kernel) (by decide +kernel)
theorem ks_md_isBeside : (Jvm.Cond.selects "MoverRoomModel" ({ cls := "MoverRoomModel", name := "isBeside", desc := "(II)Z" } : Jvm.MethodName) ({ cls := "MoverRoomModel", name := "isBeside", desc := "(II)Z" } : Jvm.MethodName)) ∈ gw := gw_sel (by decide +kernel) (by decide +kernel)
theorem ks_md_isMover : (Jvm.Cond.selects "MoverRoomModel" ({ cls := "MoverRoomModel", name := "isMover", desc := "(I)Z" } : Jvm.MethodName) ({ cls := "MoverRoomModel", name := "isMover", desc := "(I)Z" } : Jvm.MethodName)) ∈ gw := gw_sel (by decide +kernel) (by decide +kernel)
theorem ks_md_findFar : (Jvm.Cond.selects "MoverRoomModel" ({ cls := "MoverRoomModel", name := "findFar", desc := "(I)V" } : Jvm.MethodName) ({ cls := "MoverRoomModel", name := "findFar", desc := "(I)V" } : Jvm.MethodName)) ∈ gw := gw_sel (by decide +kernel) (by decide +kernel)
theorem ks_md_choices : (Jvm.Cond.selects "MoverRoomModel" ({ cls := "MoverRoomModel", name := "choices", desc := "(II)I" } : Jvm.MethodName) ({ cls := "MoverRoomModel", name := "choices", desc := "(II)I" } : Jvm.MethodName)) ∈ gw := gw_sel (by decide +kernel) (by decide +kernel)
theorem ks_md_lower : (Jvm.Cond.selects "MoverRoomModel" ({ cls := "MoverRoomModel", name := "lower", desc := "(III)V" } : Jvm.MethodName) ({ cls := "MoverRoomModel", name := "lower", desc := "(III)V" } : Jvm.MethodName)) ∈ gw := gw_sel (by decide +kernel) (by decide +kernel)
theorem ks_md_open : (Jvm.Cond.selects "MoverRoomModel" ({ cls := "MoverRoomModel", name := "open", desc := "(I)V" } : Jvm.MethodName) ({ cls := "MoverRoomModel", name := "open", desc := "(I)V" } : Jvm.MethodName)) ∈ gw := gw_sel (by decide +kernel) (by decide +kernel)
theorem ks_md_firstChoice : (Jvm.Cond.selects "MoverRoomModel" ({ cls := "MoverRoomModel", name := "firstChoice", desc := "()V" } : Jvm.MethodName) ({ cls := "MoverRoomModel", name := "firstChoice", desc := "()V" } : Jvm.MethodName)) ∈ gw := gw_sel (by decide +kernel) (by decide +kernel)
theorem ks_md_choose : (Jvm.Cond.selects "MoverRoomModel" ({ cls := "MoverRoomModel", name := "choose", desc := "(I)V" } : Jvm.MethodName) ({ cls := "MoverRoomModel", name := "choose", desc := "(I)V" } : Jvm.MethodName)) ∈ gw := gw_sel (by decide +kernel) (by decide +kernel)
theorem ks_md_meet : (Jvm.Cond.selects "MoverRoomModel" ({ cls := "MoverRoomModel", name := "meet", desc := "()Z" } : Jvm.MethodName) ({ cls := "MoverRoomModel", name := "meet", desc := "()Z" } : Jvm.MethodName)) ∈ gw := gw_sel (by decide +kernel) (by decide +kernel)
theorem ks_md_placesOf : (Jvm.Cond.selects "MoverRoomModel" ({ cls := "MoverRoomModel", name := "placesOf", desc := "([I)I" } : Jvm.MethodName) ({ cls := "MoverRoomModel", name := "placesOf", desc := "([I)I" } : Jvm.MethodName)) ∈ gw := gw_sel (by decide +kernel) (by decide +kernel)
theorem ks_md_nextChoice : (Jvm.Cond.selects "MoverRoomModel" ({ cls := "MoverRoomModel", name := "nextChoice", desc := "(I)Z" } : Jvm.MethodName) ({ cls := "MoverRoomModel", name := "nextChoice", desc := "(I)Z" } : Jvm.MethodName)) ∈ gw := gw_sel (by decide +kernel) (by decide +kernel)
theorem ks_md_relax : (Jvm.Cond.selects "MoverRoomModel" ({ cls := "MoverRoomModel", name := "relax", desc := "(II)V" } : Jvm.MethodName) ({ cls := "MoverRoomModel", name := "relax", desc := "(II)V" } : Jvm.MethodName)) ∈ gw := gw_sel (by decide +kernel) (by decide +kernel)
theorem ks_md_number : (Jvm.Cond.selects "MoverRoomModel" ({ cls := "MoverRoomModel", name := "number", desc := "()V" } : Jvm.MethodName) ({ cls := "MoverRoomModel", name := "number", desc := "()V" } : Jvm.MethodName)) ∈ gw := gw_sel (by decide +kernel) (by decide +kernel)
theorem ks_md_findPays : (Jvm.Cond.selects "MoverRoomModel" ({ cls := "MoverRoomModel", name := "findPays", desc := "(I)V" } : Jvm.MethodName) ({ cls := "MoverRoomModel", name := "findPays", desc := "(I)V" } : Jvm.MethodName)) ∈ gw := gw_sel (by decide +kernel) (by decide +kernel)
theorem ks_md_walk : (Jvm.Cond.selects "MoverRoomModel" ({ cls := "MoverRoomModel", name := "walk", desc := "(I)V" } : Jvm.MethodName) ({ cls := "MoverRoomModel", name := "walk", desc := "(I)V" } : Jvm.MethodName)) ∈ gw := gw_sel (by decide +kernel) (by decide +kernel)
theorem ks_md_mayRest : (Jvm.Cond.selects "MoverRoomModel" ({ cls := "MoverRoomModel", name := "mayRest", desc := "(I[I)Z" } : Jvm.MethodName) ({ cls := "MoverRoomModel", name := "mayRest", desc := "(I[I)Z" } : Jvm.MethodName)) ∈ gw := gw_sel (by decide +kernel) (by decide +kernel)
theorem ks_md_write : (Jvm.Cond.selects "MoverRoomModel" ({ cls := "MoverRoomModel", name := "write", desc := "(I[I)V" } : Jvm.MethodName) ({ cls := "MoverRoomModel", name := "write", desc := "(I[I)V" } : Jvm.MethodName)) ∈ gw := gw_sel (by decide +kernel) (by decide +kernel)
theorem ks_md_goesOn : (Jvm.Cond.selects "MoverRoomModel" ({ cls := "MoverRoomModel", name := "goesOn", desc := "(I)Z" } : Jvm.MethodName) ({ cls := "MoverRoomModel", name := "goesOn", desc := "(I)Z" } : Jvm.MethodName)) ∈ gw := gw_sel (by decide +kernel) (by decide +kernel)
theorem ks_md_stays : (Jvm.Cond.selects "MoverRoomModel" ({ cls := "MoverRoomModel", name := "stays", desc := "(I)Z" } : Jvm.MethodName) ({ cls := "MoverRoomModel", name := "stays", desc := "(I)Z" } : Jvm.MethodName)) ∈ gw := gw_sel (by decide +kernel) (by decide +kernel)
theorem ks_md_place : (Jvm.Cond.selects "MoverRoomModel" ({ cls := "MoverRoomModel", name := "place", desc := "(II)I" } : Jvm.MethodName) ({ cls := "MoverRoomModel", name := "place", desc := "(II)I" } : Jvm.MethodName)) ∈ gw := gw_sel (by decide +kernel) (by decide +kernel)
theorem ks_md_isWrong : (Jvm.Cond.selects "MoverRoomModel" ({ cls := "MoverRoomModel", name := "isWrong", desc := "(II)Z" } : Jvm.MethodName) ({ cls := "MoverRoomModel", name := "isWrong", desc := "(II)Z" } : Jvm.MethodName)) ∈ gw := gw_sel (by decide +kernel) (by decide +kernel)
theorem ks_md_wrong : (Jvm.Cond.selects "MoverRoomModel" ({ cls := "MoverRoomModel", name := "wrong", desc := "(IIII)V" } : Jvm.MethodName) ({ cls := "MoverRoomModel", name := "wrong", desc := "(IIII)V" } : Jvm.MethodName)) ∈ gw := gw_sel (by decide +kernel) (by decide +kernel)
theorem ks_md_look : (Jvm.Cond.selects "MoverRoomModel" ({ cls := "MoverRoomModel", name := "look", desc := "()V" } : Jvm.MethodName) ({ cls := "MoverRoomModel", name := "look", desc := "()V" } : Jvm.MethodName)) ∈ gw := gw_sel (by decide +kernel) (by decide +kernel)
theorem ks_md_size : (Jvm.Cond.selects "MoverRoomModel" ({ cls := "MoverRoomModel", name := "size", desc := "()I" } : Jvm.MethodName) ({ cls := "MoverRoomModel", name := "size", desc := "()I" } : Jvm.MethodName)) ∈ gw := gw_sel (by decide +kernel) (by decide +kernel)
theorem ks_md_isCell : (Jvm.Cond.selects "MoverRoomModel" ({ cls := "MoverRoomModel", name := "isCell", desc := "(I)Z" } : Jvm.MethodName) ({ cls := "MoverRoomModel", name := "isCell", desc := "(I)Z" } : Jvm.MethodName)) ∈ gw := gw_sel (by decide +kernel) (by decide +kernel)
theorem ks_pn_startSearch : (Jvm.Cond.selects "MoverRoom$Planner" ({ cls := "MoverRoom$Planner", name := "startSearch", desc := "(III)I" } : Jvm.MethodName) ({ cls := "MoverRoom$Planner", name := "startSearch", desc := "(III)I" } : Jvm.MethodName)) ∈ gw := gw_sel (by decide +kernel) (by decide +kernel)
theorem ks_pn_reachesEnd : (Jvm.Cond.selects "MoverRoom$Planner" ({ cls := "MoverRoom$Planner", name := "reachesEnd", desc := "(II)Z" } : Jvm.MethodName) ({ cls := "MoverRoom$Planner", name := "reachesEnd", desc := "(II)Z" } : Jvm.MethodName)) ∈ gw := gw_sel (by decide +kernel) (by decide +kernel)
theorem ks_pn_wayLeft : (Jvm.Cond.selects "MoverRoom$Planner" ({ cls := "MoverRoom$Planner", name := "wayLeft", desc := "(II)I" } : Jvm.MethodName) ({ cls := "MoverRoom$Planner", name := "wayLeft", desc := "(II)I" } : Jvm.MethodName)) ∈ gw := gw_sel (by decide +kernel) (by decide +kernel)
theorem ks_pn_stateAt : (Jvm.Cond.selects "MoverRoom$Planner" ({ cls := "MoverRoom$Planner", name := "stateAt", desc := "(I)I" } : Jvm.MethodName) ({ cls := "MoverRoom$Planner", name := "stateAt", desc := "(I)I" } : Jvm.MethodName)) ∈ gw := gw_sel (by decide +kernel) (by decide +kernel)
theorem ks_pn_reachesEndMoving : (Jvm.Cond.selects "MoverRoom$Planner" ({ cls := "MoverRoom$Planner", name := "reachesEndMoving", desc := "(IIII)Z" } : Jvm.MethodName) ({ cls := "MoverRoom$Planner", name := "reachesEndMoving", desc := "(IIII)Z" } : Jvm.MethodName)) ∈ gw := gw_sel (by decide +kernel) (by decide +kernel)
theorem ks_pn_begin : (Jvm.Cond.selects "MoverRoom$Planner" ({ cls := "MoverRoom$Planner", name := "begin", desc := "()V" } : Jvm.MethodName) ({ cls := "MoverRoom$Planner", name := "begin", desc := "()V" } : Jvm.MethodName)) ∈ gw := gw_sel (by decide +kernel) (by decide +kernel)
theorem ks_pn_canEnd : (Jvm.Cond.selects "MoverRoom$Planner" ({ cls := "MoverRoom$Planner", name := "canEnd", desc := "(II)Z" } : Jvm.MethodName) ({ cls := "MoverRoom$Planner", name := "canEnd", desc := "(II)Z" } : Jvm.MethodName)) ∈ gw := gw_sel (by decide +kernel) (by decide +kernel)
theorem ks_pn_layOut : (Jvm.Cond.selects "MoverRoom$Planner" ({ cls := "MoverRoom$Planner", name := "layOut", desc := "()V" } : Jvm.MethodName) ({ cls := "MoverRoom$Planner", name := "layOut", desc := "()V" } : Jvm.MethodName)) ∈ gw := gw_sel (by decide +kernel) (by decide +kernel)
theorem ks_pn_homeSince : (Jvm.Cond.selects "MoverRoom$Planner" ({ cls := "MoverRoom$Planner", name := "homeSince", desc := "(II)I" } : Jvm.MethodName) ({ cls := "MoverRoom$Planner", name := "homeSince", desc := "(II)I" } : Jvm.MethodName)) ∈ gw := gw_sel (by decide +kernel) (by decide +kernel)
theorem ks_pn_isOver : (Jvm.Cond.selects "MoverRoom$Planner" ({ cls := "MoverRoom$Planner", name := "isOver", desc := "(I)Z" } : Jvm.MethodName) ({ cls := "MoverRoom$Planner", name := "isOver", desc := "(I)Z" } : Jvm.MethodName)) ∈ gw := gw_sel (by decide +kernel) (by decide +kernel)
theorem ks_pn_chooseNext : (Jvm.Cond.selects "MoverRoom$Planner" ({ cls := "MoverRoom$Planner", name := "chooseNext", desc := "(II)Z" } : Jvm.MethodName) ({ cls := "MoverRoom$Planner", name := "chooseNext", desc := "(II)Z" } : Jvm.MethodName)) ∈ gw := gw_sel (by decide +kernel) (by decide +kernel)
theorem ks_vd_blame : (Jvm.Cond.selects "MoverRoom$Verdict" ({ cls := "MoverRoom$Verdict", name := "blame", desc := "(IIII)V" } : Jvm.MethodName) ({ cls := "MoverRoom$Verdict", name := "blame", desc := "(IIII)V" } : Jvm.MethodName)) ∈ gw := gw_sel (by decide +kernel) (by decide +kernel)
theorem ks_vd_seekStrayed : (Jvm.Cond.selects "MoverRoom$Verdict" ({ cls := "MoverRoom$Verdict", name := "seekStrayed", desc := "(I)V" } : Jvm.MethodName) ({ cls := "MoverRoom$Verdict", name := "seekStrayed", desc := "(I)V" } : Jvm.MethodName)) ∈ gw := gw_sel (by decide +kernel) (by decide +kernel)
theorem ks_vd_seekMeeting : (Jvm.Cond.selects "MoverRoom$Verdict" ({ cls := "MoverRoom$Verdict", name := "seekMeeting", desc := "(II)V" } : Jvm.MethodName) ({ cls := "MoverRoom$Verdict", name := "seekMeeting", desc := "(II)V" } : Jvm.MethodName)) ∈ gw := gw_sel (by decide +kernel) (by decide +kernel)
theorem ks_vd_strays : (Jvm.Cond.selects "MoverRoom$Verdict" ({ cls := "MoverRoom$Verdict", name := "strays", desc := "(II)Z" } : Jvm.MethodName) ({ cls := "MoverRoom$Verdict", name := "strays", desc := "(II)Z" } : Jvm.MethodName)) ∈ gw := gw_sel (by decide +kernel) (by decide +kernel)
theorem ks_vd_share : (Jvm.Cond.selects "MoverRoom$Verdict" ({ cls := "MoverRoom$Verdict", name := "share", desc := "(III)Z" } : Jvm.MethodName) ({ cls := "MoverRoom$Verdict", name := "share", desc := "(III)Z" } : Jvm.MethodName)) ∈ gw := gw_sel (by decide +kernel) (by decide +kernel)
theorem ks_vd_exchange : (Jvm.Cond.selects "MoverRoom$Verdict" ({ cls := "MoverRoom$Verdict", name := "exchange", desc := "(III)Z" } : Jvm.MethodName) ({ cls := "MoverRoom$Verdict", name := "exchange", desc := "(III)Z" } : Jvm.MethodName)) ∈ gw := gw_sel (by decide +kernel) (by decide +kernel)
