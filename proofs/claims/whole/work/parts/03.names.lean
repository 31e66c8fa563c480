def T_Nd : u_T := fun k => match k with
  | 0 => ("GraphRunner$Node", "arguments", "[I", true)
  | 1 => ("GraphRunner$Node", "argumentCount", "I", false)
  | 2 => ("GraphRunner$Node", "op", "I", false)
  | 3 => ("GraphRunner$Node", "out", "I", false)
  | 4 => ("GraphRunner$Node", "p", "I", false)
  | 5 => ("GraphRunner$Node", "q", "I", false)
  | 6 => ("GraphRunner$Node", "ordered", "Z", false)
  | 7 => ("GraphRunner$Node", "folded", "Z", false)
  | _ => ("GraphRunner$Node", "known", "Z", false)
def t_Nd : Nat → FieldType := fun k => match k with
  | 0 => (.array .int)
  | 1 => .int
  | 2 => .int
  | 3 => .int
  | 4 => .int
  | 5 => .int
  | 6 => .boolean
  | 7 => .boolean
  | _ => .boolean
theorem t_Nd_ok : ∀ k, k < 9 → parseFieldDescriptor (T_Nd k).2.2.1 = some (t_Nd k) := by decide +kernel
theorem n_Nd : ∀ a, a < 9 → ∀ b, b < 9 → a ≠ b → (T_Nd a).2.1 ≠ (T_Nd b).2.1 := by decide +kernel
theorem u_Nd : ∀ w ∈ u_ws "GraphRunner$Node" T_Nd 9, w ∈ pm_tbl := by
  intro w hw
  have e : u_ws "GraphRunner$Node" T_Nd 9 = ([107, 109, 111, 113, 115, 117, 119, 121, 123] : List Nat).filterMap (fun i => tables_1[i]?) := by decide +kernel
  have g : (u_ws "GraphRunner$Node" T_Nd 9).all goodWord = true := by decide +kernel
  refine pm_in (pm_ta ?_) (List.all_eq_true.mp g w hw)
  rw [e] at hw
  obtain ⟨i, -, hi⟩ := List.mem_filterMap.mp hw
  exact List.mem_of_getElem? hi
def T_Sl : u_T := fun k => match k with
  | 0 => ("GraphRunner$Slot", "table", "LGraphRunner$Table;", true)
  | 1 => ("GraphRunner$Slot", "kind", "I", false)
  | _ => ("GraphRunner$Slot", "maker", "I", false)
def t_Sl : Nat → FieldType := fun k => match k with
  | 0 => (.object "GraphRunner$Table")
  | 1 => .int
  | _ => .int
theorem t_Sl_ok : ∀ k, k < 3 → parseFieldDescriptor (T_Sl k).2.2.1 = some (t_Sl k) := by decide +kernel
theorem n_Sl : ∀ a, a < 3 → ∀ b, b < 3 → a ≠ b → (T_Sl a).2.1 ≠ (T_Sl b).2.1 := by decide +kernel
theorem u_Sl : ∀ w ∈ u_ws "GraphRunner$Slot" T_Sl 3, w ∈ pm_tbl := by
  intro w hw
  have e : u_ws "GraphRunner$Slot" T_Sl 3 = ([73, 75, 77] : List Nat).filterMap (fun i => tables_1[i]?) := by decide +kernel
  have g : (u_ws "GraphRunner$Slot" T_Sl 3).all goodWord = true := by decide +kernel
  refine pm_in (pm_ta ?_) (List.all_eq_true.mp g w hw)
  rw [e] at hw
  obtain ⟨i, -, hi⟩ := List.mem_filterMap.mp hw
  exact List.mem_of_getElem? hi
def T_Tb : u_T := fun k => match k with
  | 0 => ("GraphRunner$Table", "cells", "[D", true)
  | 1 => ("GraphRunner$Table", "type", "I", false)
  | 2 => ("GraphRunner$Table", "rows", "I", false)
  | _ => ("GraphRunner$Table", "columns", "I", false)
def t_Tb : Nat → FieldType := fun k => match k with
  | 0 => (.array .double)
  | 1 => .int
  | 2 => .int
  | _ => .int
theorem t_Tb_ok : ∀ k, k < 4 → parseFieldDescriptor (T_Tb k).2.2.1 = some (t_Tb k) := by decide +kernel
theorem n_Tb : ∀ a, a < 4 → ∀ b, b < 4 → a ≠ b → (T_Tb a).2.1 ≠ (T_Tb b).2.1 := by decide +kernel
theorem u_Tb : ∀ w ∈ u_ws "GraphRunner$Table" T_Tb 4, w ∈ pm_tbl := by
  intro w hw
  have e : u_ws "GraphRunner$Table" T_Tb 4 = ([49, 51, 53, 55] : List Nat).filterMap (fun i => tables_1[i]?) := by decide +kernel
  have g : (u_ws "GraphRunner$Table" T_Tb 4).all goodWord = true := by decide +kernel
  refine pm_in (pm_ta ?_) (List.all_eq_true.mp g w hw)
  rw [e] at hw
  obtain ⟨i, -, hi⟩ := List.mem_filterMap.mp hw
  exact List.mem_of_getElem? hi
def T_Gr : u_T := fun k => match k with
  | 0 => ("GraphRunner", "slots", "[LGraphRunner$Slot;", true)
  | 1 => ("GraphRunner", "nodes", "[LGraphRunner$Node;", true)
  | 2 => ("GraphRunner", "order", "[I", true)
  | 3 => ("GraphRunner", "opened", "[I", true)
  | 4 => ("GraphRunner", "noTable", "LGraphRunner$Table;", true)
  | 5 => ("GraphRunner", "nodeCount", "I", false)
  | 6 => ("GraphRunner", "prepared", "Z", false)
  | 7 => ("GraphRunner", "workedInAll", "I", false)
  | _ => ("GraphRunner", "thrownInAll", "I", false)
def t_Gr : Nat → FieldType := fun k => match k with
  | 0 => (.array (.object "GraphRunner$Slot"))
  | 1 => (.array (.object "GraphRunner$Node"))
  | 2 => (.array .int)
  | 3 => (.array .int)
  | 4 => (.object "GraphRunner$Table")
  | 5 => .int
  | 6 => .boolean
  | 7 => .int
  | _ => .int
theorem t_Gr_ok : ∀ k, k < 9 → parseFieldDescriptor (T_Gr k).2.2.1 = some (t_Gr k) := by decide +kernel
theorem n_Gr : ∀ a, a < 9 → ∀ b, b < 9 → a ≠ b → (T_Gr a).2.1 ≠ (T_Gr b).2.1 := by decide +kernel
theorem u_Gr : ∀ w ∈ u_ws "GraphRunner" T_Gr 9, w ∈ pm_tbl := by
  intro w hw
  have e : u_ws "GraphRunner" T_Gr 9 = ([135, 137, 139, 141, 143, 145, 147, 149, 151] : List Nat).filterMap (fun i => tables_1[i]?) := by decide +kernel
  have g : (u_ws "GraphRunner" T_Gr 9).all goodWord = true := by decide +kernel
  refine pm_in (pm_ta ?_) (List.all_eq_true.mp g w hw)
  rw [e] at hw
  obtain ⟨i, -, hi⟩ := List.mem_filterMap.mp hw
  exact List.mem_of_getElem? hi
def T_Mo : u_T := fun k => match k with
  | 0 => ("GraphRunnerModel", "kind", "[I", true)
  | 1 => ("GraphRunnerModel", "type", "[I", true)
  | 2 => ("GraphRunnerModel", "rows", "[I", true)
  | 3 => ("GraphRunnerModel", "columns", "[I", true)
  | 4 => ("GraphRunnerModel", "maker", "[I", true)
  | 5 => ("GraphRunnerModel", "value", "[D", true)
  | 6 => ("GraphRunnerModel", "op", "[I", true)
  | 7 => ("GraphRunnerModel", "out", "[I", true)
  | 8 => ("GraphRunnerModel", "p", "[I", true)
  | 9 => ("GraphRunnerModel", "q", "[I", true)
  | 10 => ("GraphRunnerModel", "state", "[I", true)
  | 11 => ("GraphRunnerModel", "order", "[I", true)
  | 12 => ("GraphRunnerModel", "argument", "[I", true)
  | 13 => ("GraphRunnerModel", "fresh", "[D", true)
  | 14 => ("GraphRunnerModel", "nodes", "I", false)
  | 15 => ("GraphRunnerModel", "folded", "I", false)
  | 16 => ("GraphRunnerModel", "worked", "I", false)
  | 17 => ("GraphRunnerModel", "threw", "I", false)
  | 18 => ("GraphRunnerModel", "now", "I", false)
  | 19 => ("GraphRunnerModel", "thrown", "I", false)
  | _ => ("GraphRunnerModel", "ready", "Z", false)
def t_Mo : Nat → FieldType := fun k => match k with
  | 0 => (.array .int)
  | 1 => (.array .int)
  | 2 => (.array .int)
  | 3 => (.array .int)
  | 4 => (.array .int)
  | 5 => (.array .double)
  | 6 => (.array .int)
  | 7 => (.array .int)
  | 8 => (.array .int)
  | 9 => (.array .int)
  | 10 => (.array .int)
  | 11 => (.array .int)
  | 12 => (.array .int)
  | 13 => (.array .double)
  | 14 => .int
  | 15 => .int
  | 16 => .int
  | 17 => .int
  | 18 => .int
  | 19 => .int
  | _ => .boolean
theorem t_Mo_ok : ∀ k, k < 21 → parseFieldDescriptor (T_Mo k).2.2.1 = some (t_Mo k) := by decide +kernel
theorem n_Mo : ∀ a, a < 21 → ∀ b, b < 21 → a ≠ b → (T_Mo a).2.1 ≠ (T_Mo b).2.1 := by decide +kernel
theorem u_Mo : ∀ w ∈ u_ws "GraphRunnerModel" T_Mo 21, w ∈ pm_tbl := by
  intro w hw
  have e : u_ws "GraphRunnerModel" T_Mo 21 = ([637, 639, 641, 643, 645, 647, 649, 651, 653, 655, 657, 659, 661, 663, 665, 667, 669, 671, 673, 675, 677] : List Nat).filterMap (fun i => tables_1[i]?) := by decide +kernel
  have g : (u_ws "GraphRunnerModel" T_Mo 21).all goodWord = true := by decide +kernel
  refine pm_in (pm_ta ?_) (List.all_eq_true.mp g w hw)
  rw [e] at hw
  obtain ⟨i, -, hi⟩ := List.mem_filterMap.mp hw
  exact List.mem_of_getElem? hi
abbrev pm_cl : List vw_C := [("GraphRunner$Node", T_Nd, 9), ("GraphRunner$Slot", T_Sl, 3), ("GraphRunner$Table", T_Tb, 4), ("GraphRunner", T_Gr, 9), ("GraphRunnerModel", T_Mo, 21)]
def pm_tys (G : pm_G) : List (ClassId × FieldType) := [(G.2.2.1 0, .int), (G.2.2.1 1, .double), (G.2.2.1 2, .long), (G.2.2.1 3, (.object "GraphRunner$Slot")), (G.2.2.1 4, (.object "GraphRunner$Node"))]
def pm_isN : Cond → Bool
  | .fieldLinkNest .. => true
  | .methodLinkNest .. => true
  | .castable .. => true
  | _ => false
def pm_nst : List Cond := lw_tbl.filter pm_isN
theorem pm_ni {w : Cond} (h : w ∈ lw_tbl) (hg : pm_isN w = true) : w ∈ pm_nst := List.mem_filter.mpr ⟨h, hg⟩
def pm_ac (j : Nat) : Int32 := ([2, 2, 2, 2, 2, 1, 1, 1, 2, 3, 1, 1, 1, 2, 1, 2, 2, 3, 1] : List Int32).getD j 0
def pm_ncs : List (String × String) := [("java/lang/ArithmeticException", "java/lang/IllegalArgumentException"), ("java/lang/ArithmeticException", "java/lang/IllegalStateException"), ("java/lang/IllegalStateException", "java/lang/IllegalArgumentException"), ("java/lang/IndexOutOfBoundsException", "java/lang/ArithmeticException"), ("java/lang/IndexOutOfBoundsException", "java/lang/IllegalArgumentException"), ("java/lang/IndexOutOfBoundsException", "java/lang/IllegalStateException"), ("java/lang/UnsupportedOperationException", "java/util/NoSuchElementException"), ("java/util/NoSuchElementException", "java/lang/IllegalArgumentException")]
abbrev M_Gr_init : pm_M := (⟨"GraphRunner", "<init>", "()V"⟩, prog_1_method_1_code, 2, none, [], 3, 54)
abbrev M_Tb_init : pm_M := (⟨"GraphRunner$Table", "<init>", "()V"⟩, prog_5_method_1_code, 1, none, [], 1, 14)
abbrev M_Sl_init : pm_M := (⟨"GraphRunner$Slot", "<init>", "()V"⟩, prog_4_method_1_code, 1, none, [], 2, 34)
abbrev M_Nd_init : pm_M := (⟨"GraphRunner$Node", "<init>", "()V"⟩, prog_2_method_1_code, 1, none, [], 1, 14)
abbrev M_Gr_count : pm_M := (⟨"GraphRunner", "count", "(I)I"⟩, prog_1_method_10_code, 2, (some .int), [], 1, 22)
abbrev M_Gr_foldedCount : pm_M := (⟨"GraphRunner", "foldedCount", "()I"⟩, prog_1_method_25_code, 3, (some .int), [], 0, 0)
abbrev M_Gr_knownCount : pm_M := (⟨"GraphRunner", "knownCount", "()I"⟩, prog_1_method_26_code, 3, (some .int), [], 0, 0)
abbrev M_Gr_inOrder : pm_M := (⟨"GraphRunner", "inOrder", "(I)I"⟩, prog_1_method_11_code, 2, (some .int), [], 0, 0)
abbrev M_Lw_table : pm_M := (⟨"GraphRunnerLaw", "table", "(LGraphRunner;IIIIZ)I"⟩, method_3_code, 7, (some .int), [(0, 11, 14, 13)], 7, 125)
abbrev M_Gr_table : pm_M := (⟨"GraphRunner", "table", "(IIIIZ)V"⟩, prog_1_method_2_code, 6, none, [], 6, 100)
abbrev M_Gr_isFree : pm_M := (⟨"GraphRunner", "isFree", "(I)Z"⟩, prog_1_method_18_code, 2, (some .boolean), [], 1, 20)
abbrev M_Gr_isSlot : pm_M := (⟨"GraphRunner", "isSlot", "(I)Z"⟩, prog_1_method_12_code, 1, (some .boolean), [], 0, 0)
abbrev M_Gr_isType : pm_M := (⟨"GraphRunner", "isType", "(I)Z"⟩, prog_1_method_13_code, 1, (some .boolean), [], 0, 0)
abbrev M_Gr_isSide : pm_M := (⟨"GraphRunner", "isSide", "(I)Z"⟩, prog_1_method_14_code, 1, (some .boolean), [], 0, 0)
abbrev M_Tb_shape : pm_M := (⟨"GraphRunner$Table", "shape", "(III)Z"⟩, prog_5_method_2_code, 4, (some .boolean), [], 1, 20)
abbrev M_Tb_clear : pm_M := (⟨"GraphRunner$Table", "clear", "()V"⟩, prog_5_method_3_code, 2, none, [], 0, 0)
abbrev M_Gr_unprepare : pm_M := (⟨"GraphRunner", "unprepare", "()V"⟩, prog_1_method_23_code, 2, none, [], 1, 21)
abbrev M_Gr_forgetKnown : pm_M := (⟨"GraphRunner", "forgetKnown", "()V"⟩, prog_1_method_24_code, 2, none, [], 0, 0)
abbrev M_Lw_set : pm_M := (⟨"GraphRunnerLaw", "set", "(LGraphRunner;IIID)I"⟩, method_4_code, 7, (some .int), [(0, 9, 12, 13)], 7, 125)
abbrev M_Gr_set : pm_M := (⟨"GraphRunner", "set", "(IIID)V"⟩, prog_1_method_3_code, 6, none, [], 6, 100)
abbrev M_Gr_isFed : pm_M := (⟨"GraphRunner", "isFed", "(I)Z"⟩, prog_1_method_19_code, 2, (some .boolean), [], 0, 0)
abbrev M_Tb_has : pm_M := (⟨"GraphRunner$Table", "has", "(II)Z"⟩, prog_5_method_4_code, 3, (some .boolean), [], 0, 0)
abbrev M_Gr_isSettable : pm_M := (⟨"GraphRunner", "isSettable", "(ID)Z"⟩, prog_1_method_16_code, 4, (some .boolean), [], 0, 0)
abbrev M_Tb_put : pm_M := (⟨"GraphRunner$Table", "put", "(IID)V"⟩, prog_5_method_7_code, 5, none, [], 0, 0)
abbrev M_Lw_node : pm_M := (⟨"GraphRunnerLaw", "node", "(LGraphRunner;IIIIIII[J)I"⟩, method_5_code, 10, (some .int), [(0, 20, 23, 13), (0, 20, 27, 23)], 7, 127)
abbrev M_Gr_node : pm_M := (⟨"GraphRunner", "node", "(IIIIIII)I"⟩, prog_1_method_4_code, 8, (some .int), [], 6, 100)
abbrev M_Gr_areArguments : pm_M := (⟨"GraphRunner", "areArguments", "(IIII)Z"⟩, prog_1_method_17_code, 4, (some .boolean), [], 1, 20)
abbrev M_Gr_isNumber : pm_M := (⟨"GraphRunner", "isNumber", "(I)Z"⟩, prog_1_method_15_code, 1, (some .boolean), [], 0, 0)
abbrev M_Nd_become : pm_M := (⟨"GraphRunner$Node", "become", "(IIII)V"⟩, prog_2_method_2_code, 5, none, [], 0, 0)
abbrev M_Nd_takeArguments : pm_M := (⟨"GraphRunner$Node", "takeArguments", "(III)V"⟩, prog_2_method_3_code, 4, none, [], 0, 0)
abbrev M_Lw_undo : pm_M := (⟨"GraphRunnerLaw", "undo", "(LGraphRunner;)I"⟩, method_6_code, 2, (some .int), [(0, 4, 7, 28)], 7, 120)
abbrev M_Gr_undo : pm_M := (⟨"GraphRunner", "undo", "()V"⟩, prog_1_method_5_code, 1, none, [], 6, 100)
abbrev M_Lw_prepare : pm_M := (⟨"GraphRunnerLaw", "prepare", "(LGraphRunner;[J)I"⟩, method_7_code, 3, (some .int), [(0, 8, 11, 28), (0, 8, 14, 34)], 7, 162)
abbrev M_Gr_prepare : pm_M := (⟨"GraphRunner", "prepare", "()I"⟩, prog_1_method_6_code, 1, (some .int), [], 6, 142)
abbrev M_Gr_orderNodes : pm_M := (⟨"GraphRunner", "orderNodes", "()Z"⟩, prog_1_method_27_code, 3, (some .boolean), [], 4, 85)
abbrev M_Gr_leastToOrder : pm_M := (⟨"GraphRunner", "leastToOrder", "()I"⟩, prog_1_method_28_code, 2, (some .int), [], 3, 64)
abbrev M_Gr_argumentsAreOrdered : pm_M := (⟨"GraphRunner", "argumentsAreOrdered", "(LGraphRunner$Node;)Z"⟩, prog_1_method_29_code, 3, (some .boolean), [], 2, 42)
abbrev M_Gr_isOrdered : pm_M := (⟨"GraphRunner", "isOrdered", "(I)Z"⟩, prog_1_method_20_code, 2, (some .boolean), [], 1, 21)
abbrev M_Gr_findShapes : pm_M := (⟨"GraphRunner", "findShapes", "()Z"⟩, prog_1_method_30_code, 4, (some .boolean), [], 4, 91)
abbrev M_Gr_argument : pm_M := (⟨"GraphRunner", "argument", "(LGraphRunner$Node;I)LGraphRunner$Table;"⟩, prog_1_method_33_code, 3, (some (.object "GraphRunner$Table")), [], 0, 0)
abbrev M_Sh_find : pm_M := (⟨"GraphRunner$Shapes", "find", "(LGraphRunner$Node;LGraphRunner$Table;LGraphRunner$Table;LGraphRunner$Table;LGraphRunner$Table;)Z"⟩, prog_3_method_2_code, 5, (some .boolean), [], 3, 67)
abbrev M_Sh_fit : pm_M := (⟨"GraphRunner$Shapes", "fit", "(LGraphRunner$Table;LGraphRunner$Table;ILGraphRunner$Table;)Z"⟩, prog_3_method_5_code, 4, (some .boolean), [], 2, 43)
abbrev M_Sh_sidesFit : pm_M := (⟨"GraphRunner$Shapes", "sidesFit", "(II)Z"⟩, prog_3_method_6_code, 2, (some .boolean), [], 0, 0)
abbrev M_Ma_max : pm_M := (⟨"java/lang/Math", "max", "(II)I"⟩, prog_14_method_65_code, 2, (some .int), [], 0, 0)
abbrev M_Sh_areFloats : pm_M := (⟨"GraphRunner$Shapes", "areFloats", "(LGraphRunner$Table;LGraphRunner$Table;)Z"⟩, prog_3_method_3_code, 2, (some .boolean), [], 0, 0)
abbrev M_Sh_findGathered : pm_M := (⟨"GraphRunner$Shapes", "findGathered", "(ILGraphRunner$Table;LGraphRunner$Table;)Z"⟩, prog_3_method_7_code, 3, (some .boolean), [], 2, 43)
abbrev M_Sh_findJoined : pm_M := (⟨"GraphRunner$Shapes", "findJoined", "(ILGraphRunner$Table;LGraphRunner$Table;LGraphRunner$Table;)Z"⟩, prog_3_method_8_code, 4, (some .boolean), [], 2, 43)
abbrev M_Sh_findSlid : pm_M := (⟨"GraphRunner$Shapes", "findSlid", "(LGraphRunner$Node;LGraphRunner$Table;LGraphRunner$Table;LGraphRunner$Table;)Z"⟩, prog_3_method_9_code, 5, (some .boolean), [], 2, 43)
abbrev M_Sh_areAlike : pm_M := (⟨"GraphRunner$Shapes", "areAlike", "(LGraphRunner$Table;LGraphRunner$Table;)Z"⟩, prog_3_method_4_code, 2, (some .boolean), [], 0, 0)
abbrev M_Gr_foldNodes : pm_M := (⟨"GraphRunner", "foldNodes", "()V"⟩, prog_1_method_31_code, 3, none, [], 5, 120)
abbrev M_Gr_argumentsAreFolded : pm_M := (⟨"GraphRunner", "argumentsAreFolded", "(LGraphRunner$Node;)Z"⟩, prog_1_method_32_code, 3, (some .boolean), [], 1, 21)
abbrev M_Gr_isConstantOrFolded : pm_M := (⟨"GraphRunner", "isConstantOrFolded", "(I)Z"⟩, prog_1_method_21_code, 2, (some .boolean), [], 0, 0)
abbrev M_Gr_workOut : pm_M := (⟨"GraphRunner", "workOut", "(LGraphRunner$Node;)I"⟩, prog_1_method_34_code, 4, (some .int), [], 4, 97)
abbrev M_Wk_workOut : pm_M := (⟨"GraphRunner$Work", "workOut", "(LGraphRunner$Node;LGraphRunner$Table;LGraphRunner$Table;LGraphRunner$Table;LGraphRunner$Table;)I"⟩, prog_6_method_2_code, 5, (some .int), [], 3, 73)
abbrev M_Wk_divide : pm_M := (⟨"GraphRunner$Work", "divide", "(LGraphRunner$Table;LGraphRunner$Table;LGraphRunner$Table;)I"⟩, prog_6_method_6_code, 9, (some .int), [], 1, 24)
abbrev M_Tb_atAgain : pm_M := (⟨"GraphRunner$Table", "atAgain", "(II)D"⟩, prog_5_method_6_code, 3, (some .double), [], 0, 0)
abbrev M_Wk_divideInts : pm_M := (⟨"GraphRunner$Work", "divideInts", "(II)I"⟩, prog_6_method_7_code, 2, (some .int), [], 0, 0)
abbrev M_Wk_pick : pm_M := (⟨"GraphRunner$Work", "pick", "(LGraphRunner$Table;LGraphRunner$Table;LGraphRunner$Table;)I"⟩, prog_6_method_18_code, 6, (some .int), [], 2, 48)
abbrev M_Tb_at : pm_M := (⟨"GraphRunner$Table", "at", "(II)D"⟩, prog_5_method_5_code, 3, (some .double), [], 0, 0)
abbrev M_Wk_copyRow : pm_M := (⟨"GraphRunner$Work", "copyRow", "(LGraphRunner$Table;ILGraphRunner$Table;I)V"⟩, prog_6_method_19_code, 5, none, [], 1, 24)
abbrev M_Wk_multiplyTables : pm_M := (⟨"GraphRunner$Work", "multiplyTables", "(LGraphRunner$Table;LGraphRunner$Table;LGraphRunner$Table;)V"⟩, prog_6_method_8_code, 8, none, [], 1, 24)
abbrev M_Wk_turn : pm_M := (⟨"GraphRunner$Work", "turn", "(LGraphRunner$Table;LGraphRunner$Table;)V"⟩, prog_6_method_11_code, 4, none, [], 1, 24)
abbrev M_Wk_chooseEach : pm_M := (⟨"GraphRunner$Work", "chooseEach", "(LGraphRunner$Table;LGraphRunner$Table;LGraphRunner$Table;LGraphRunner$Table;)V"⟩, prog_6_method_12_code, 6, none, [], 1, 24)
abbrev M_Wk_sum : pm_M := (⟨"GraphRunner$Work", "sum", "(ILGraphRunner$Table;LGraphRunner$Table;)V"⟩, prog_6_method_13_code, 11, none, [], 1, 24)
abbrev M_Wk_pairInts : pm_M := (⟨"GraphRunner$Work", "pairInts", "(III)I"⟩, prog_6_method_4_code, 3, (some .int), [], 0, 0)
abbrev M_Wk_greatest : pm_M := (⟨"GraphRunner$Work", "greatest", "(ILGraphRunner$Table;LGraphRunner$Table;)V"⟩, prog_6_method_14_code, 8, none, [], 1, 24)
abbrev M_Wk_firstGreatest : pm_M := (⟨"GraphRunner$Work", "firstGreatest", "(LGraphRunner$Table;LGraphRunner$Table;)V"⟩, prog_6_method_15_code, 5, none, [], 1, 24)
abbrev M_Wk_copy : pm_M := (⟨"GraphRunner$Work", "copy", "(LGraphRunner$Table;LGraphRunner$Table;II)V"⟩, prog_6_method_16_code, 6, none, [], 1, 24)
abbrev M_Wk_cut : pm_M := (⟨"GraphRunner$Work", "cut", "(ILGraphRunner$Table;LGraphRunner$Table;)V"⟩, prog_6_method_17_code, 4, none, [], 2, 48)
abbrev M_Wk_slide : pm_M := (⟨"GraphRunner$Work", "slide", "(LGraphRunner$Node;LGraphRunner$Table;LGraphRunner$Table;LGraphRunner$Table;)V"⟩, prog_6_method_20_code, 10, none, [], 1, 24)
abbrev M_Tb_isZero : pm_M := (⟨"GraphRunner$Table", "isZero", "()Z"⟩, prog_5_method_8_code, 1, (some .boolean), [], 1, 22)
abbrev M_Wk_workEach : pm_M := (⟨"GraphRunner$Work", "workEach", "(LGraphRunner$Node;LGraphRunner$Table;LGraphRunner$Table;)V"⟩, prog_6_method_9_code, 5, none, [], 1, 24)
abbrev M_Wk_ofOne : pm_M := (⟨"GraphRunner$Work", "ofOne", "(LGraphRunner$Node;D)D"⟩, prog_6_method_10_code, 3, (some .double), [], 0, 0)
abbrev M_Wk_pair : pm_M := (⟨"GraphRunner$Work", "pair", "(ILGraphRunner$Table;LGraphRunner$Table;LGraphRunner$Table;)V"⟩, prog_6_method_3_code, 10, none, [], 1, 24)
abbrev M_Wk_pairFloats : pm_M := (⟨"GraphRunner$Work", "pairFloats", "(IDD)D"⟩, prog_6_method_5_code, 5, (some .double), [], 0, 0)
abbrev M_Tb_isTooLarge : pm_M := (⟨"GraphRunner$Table", "isTooLarge", "()Z"⟩, prog_5_method_9_code, 3, (some .boolean), [], 1, 22)
abbrev M_Lw_run : pm_M := (⟨"GraphRunnerLaw", "run", "(LGraphRunner;I[J)I"⟩, method_8_code, 4, (some .int), [(0, 9, 12, 13), (0, 9, 15, 23), (0, 9, 18, 40), (0, 9, 21, 42)], 8, 191)
abbrev M_Gr_run : pm_M := (⟨"GraphRunner", "run", "(I)I"⟩, prog_1_method_7_code, 4, (some .int), [], 7, 168)
abbrev M_Gr_runFor : pm_M := (⟨"GraphRunner", "runFor", "(I)I"⟩, prog_1_method_35_code, 7, (some .int), [], 6, 142)
abbrev M_Gr_isThere : pm_M := (⟨"GraphRunner", "isThere", "(I)Z"⟩, prog_1_method_22_code, 2, (some .boolean), [], 1, 21)
abbrev M_Nd_hasOutcome : pm_M := (⟨"GraphRunner$Node", "hasOutcome", "()Z"⟩, prog_2_method_4_code, 1, (some .boolean), [], 0, 0)
abbrev M_Gr_firstNeeded : pm_M := (⟨"GraphRunner", "firstNeeded", "(LGraphRunner$Node;)I"⟩, prog_1_method_37_code, 3, (some .int), [], 3, 65)
abbrev M_Gr_firstNeededByChoice : pm_M := (⟨"GraphRunner", "firstNeededByChoice", "(LGraphRunner$Node;)I"⟩, prog_1_method_38_code, 4, (some .int), [], 2, 42)
abbrev M_Gr_learn : pm_M := (⟨"GraphRunner", "learn", "(LGraphRunner$Node;)I"⟩, prog_1_method_36_code, 3, (some .int), [], 5, 120)
abbrev M_Lw_get : pm_M := (⟨"GraphRunnerLaw", "get", "(LGraphRunner;III[D)I"⟩, method_9_code, 6, (some .int), [(0, 11, 14, 13), (0, 11, 18, 28)], 7, 123)
abbrev M_Gr_get : pm_M := (⟨"GraphRunner", "get", "(III)D"⟩, prog_1_method_8_code, 4, (some .double), [], 6, 100)
abbrev M_Lw_slot : pm_M := (⟨"GraphRunnerLaw", "slot", "(LGraphRunner;II[J)I"⟩, method_10_code, 5, (some .int), [(0, 10, 13, 13), (0, 10, 17, 28)], 7, 123)
abbrev M_Gr_slot : pm_M := (⟨"GraphRunner", "slot", "(II)I"⟩, prog_1_method_9_code, 4, (some .int), [], 6, 100)
abbrev M_Mo_init : pm_M := (⟨"GraphRunnerModel", "<init>", "()V"⟩, prog_8_method_1_code, 1, none, [], 1, 14)
abbrev M_Mo_thrown : pm_M := (⟨"GraphRunnerModel", "thrown", "()I"⟩, prog_8_method_2_code, 1, (some .int), [], 0, 0)
abbrev M_Mo_table : pm_M := (⟨"GraphRunnerModel", "table", "(IIIIZ)V"⟩, prog_8_method_6_code, 7, none, [], 1, 23)
abbrev M_Mo_noSlot : pm_M := (⟨"GraphRunnerModel", "noSlot", "(I)Z"⟩, prog_8_method_3_code, 2, (some .boolean), [], 0, 0)
abbrev M_Mo_out : pm_M := (⟨"GraphRunnerModel", "out", "(III)Z"⟩, prog_8_method_4_code, 4, (some .boolean), [], 0, 0)
abbrev M_Mo_change : pm_M := (⟨"GraphRunnerModel", "change", "()V"⟩, prog_8_method_5_code, 2, none, [], 0, 0)
abbrev M_Mo_set : pm_M := (⟨"GraphRunnerModel", "set", "(IIID)V"⟩, prog_8_method_7_code, 8, none, [], 1, 21)
abbrev M_Mo_node : pm_M := (⟨"GraphRunnerModel", "node", "(IIIIIII)I"⟩, prog_8_method_9_code, 10, (some .int), [], 1, 23)
abbrev M_Mo_arity : pm_M := (⟨"GraphRunnerModel", "arity", "(I)I"⟩, prog_8_method_8_code, 2, (some .int), [], 0, 0)
abbrev M_Mo_undo : pm_M := (⟨"GraphRunnerModel", "undo", "()V"⟩, prog_8_method_10_code, 1, none, [], 1, 21)
abbrev M_Mo_prepare : pm_M := (⟨"GraphRunnerModel", "prepare", "()I"⟩, prog_8_method_31_code, 4, (some .int), [], 4, 107)
abbrev M_Mo_ordered : pm_M := (⟨"GraphRunnerModel", "ordered", "()Z"⟩, prog_8_method_12_code, 5, (some .boolean), [], 2, 46)
abbrev M_Mo_there : pm_M := (⟨"GraphRunnerModel", "there", "(IIZ)Z"⟩, prog_8_method_11_code, 6, (some .boolean), [], 1, 21)
abbrev M_Mo_shape : pm_M := (⟨"GraphRunnerModel", "shape", "(I)Z"⟩, prog_8_method_17_code, 12, (some .boolean), [], 2, 44)
abbrev M_Mo_fitting : pm_M := (⟨"GraphRunnerModel", "fitting", "(II)Z"⟩, prog_8_method_14_code, 3, (some .boolean), [], 1, 22)
abbrev M_Mo_near : pm_M := (⟨"GraphRunnerModel", "near", "(II)Z"⟩, prog_8_method_13_code, 3, (some .boolean), [], 0, 0)
abbrev M_Mo_most : pm_M := (⟨"GraphRunnerModel", "most", "(II)I"⟩, prog_8_method_16_code, 3, (some .int), [], 0, 0)
abbrev M_Mo_give : pm_M := (⟨"GraphRunnerModel", "give", "(IIII)Z"⟩, prog_8_method_15_code, 6, (some .boolean), [], 0, 0)
abbrev M_Mo_work : pm_M := (⟨"GraphRunnerModel", "work", "(I)I"⟩, prog_8_method_30_code, 7, (some .int), [], 3, 81)
abbrev M_Mo_element : pm_M := (⟨"GraphRunnerModel", "element", "(III)D"⟩, prog_8_method_29_code, 8, (some .double), [], 2, 54)
abbrev M_Mo_at : pm_M := (⟨"GraphRunnerModel", "at", "(III)D"⟩, prog_8_method_18_code, 4, (some .double), [], 0, 0)
abbrev M_Mo_plain : pm_M := (⟨"GraphRunnerModel", "plain", "(IDDZ)D"⟩, prog_8_method_19_code, 9, (some .double), [], 1, 21)
abbrev M_Mo_trouble : pm_M := (⟨"GraphRunnerModel", "trouble", "(I)V"⟩, prog_8_method_20_code, 2, none, [], 0, 0)
abbrev M_Mo_product : pm_M := (⟨"GraphRunnerModel", "product", "(IIII)D"⟩, prog_8_method_24_code, 8, (some .double), [], 0, 0)
abbrev M_Mo_cast : pm_M := (⟨"GraphRunnerModel", "cast", "(ID)D"⟩, prog_8_method_27_code, 4, (some .double), [], 0, 0)
abbrev M_Mo_total : pm_M := (⟨"GraphRunnerModel", "total", "(IIIZ)D"⟩, prog_8_method_21_code, 11, (some .double), [], 1, 23)
abbrev M_Mo_first : pm_M := (⟨"GraphRunnerModel", "first", "(IIIZ)I"⟩, prog_8_method_22_code, 8, (some .int), [], 1, 23)
abbrev M_Mo_joined : pm_M := (⟨"GraphRunnerModel", "joined", "(IIIII)D"⟩, prog_8_method_26_code, 6, (some .double), [], 0, 0)
abbrev M_Mo_picked : pm_M := (⟨"GraphRunnerModel", "picked", "(IIII)D"⟩, prog_8_method_25_code, 6, (some .double), [], 1, 21)
abbrev M_Mo_slid : pm_M := (⟨"GraphRunnerModel", "slid", "(IIIII)D"⟩, prog_8_method_23_code, 12, (some .double), [], 1, 23)
abbrev M_Mo_bounded : pm_M := (⟨"GraphRunnerModel", "bounded", "(ID)D"⟩, prog_8_method_28_code, 4, (some .double), [], 0, 0)
abbrev M_Mo_run : pm_M := (⟨"GraphRunnerModel", "run", "(I)I"⟩, prog_8_method_35_code, 3, (some .int), [], 5, 130)
abbrev M_Mo_need : pm_M := (⟨"GraphRunnerModel", "need", "(I)I"⟩, prog_8_method_34_code, 4, (some .int), [], 4, 107)
abbrev M_Mo_known : pm_M := (⟨"GraphRunnerModel", "known", "(I)Z"⟩, prog_8_method_32_code, 2, (some .boolean), [], 0, 0)
abbrev M_Mo_missing : pm_M := (⟨"GraphRunnerModel", "missing", "(I)I"⟩, prog_8_method_33_code, 4, (some .int), [], 1, 21)
abbrev M_Mo_get : pm_M := (⟨"GraphRunnerModel", "get", "(III)D"⟩, prog_8_method_36_code, 5, (some .double), [], 1, 21)
abbrev M_Mo_slot : pm_M := (⟨"GraphRunnerModel", "slot", "(II)I"⟩, prog_8_method_37_code, 3, (some .int), [], 1, 23)
abbrev M_Mo_count : pm_M := (⟨"GraphRunnerModel", "count", "(I)I"⟩, prog_8_method_38_code, 4, (some .int), [], 0, 0)
abbrev M_Lw_law : pm_M := (⟨"GraphRunnerLaw", "law", "([I)Z"⟩, code, 9, (some .boolean), [], 11, 432)
