/-! NAMES, printed by wip/gen/names.py out of the task: classes, fields, methods, words of the tables -/
def R_WS : String := "WaySearch"
def R_TH : String := "WaySearch$Things"
def R_PI : String := "WaySearch$Pipes"
def R_SE : String := "WaySearch$Search"
def R_FW : String := "WaySearch$FoundWay"
def R_MO : String := "WaySearchModel"
def R_LW : String := "WaySearchLaw"
def R_AR : String := "java/util/Arrays"
def R_MA : String := "java/lang/Math"
def R_SY : String := "java/lang/System"
def R_OB : String := "java/lang/Object"
def F_WS : u_T := fun k => match k with
  | 0 => ("WaySearch", "things", "LWaySearch$Things;", true)
  | 1 => ("WaySearch", "pipes", "LWaySearch$Pipes;", true)
  | 2 => ("WaySearch", "search", "LWaySearch$Search;", true)
  | 3 => ("WaySearch", "ways", "[LWaySearch$FoundWay;", true)
  | _ => ("WaySearch", "wayCount", "I", false)
def t_WS : Nat → FieldType := fun k => match k with
  | 0 => (.object "WaySearch$Things")
  | 1 => (.object "WaySearch$Pipes")
  | 2 => (.object "WaySearch$Search")
  | 3 => (.array (.object "WaySearch$FoundWay"))
  | _ => .int
theorem n_WS : ∀ a, a < 5 → ∀ b, b < 5 → a ≠ b → (F_WS a).2.1 ≠ (F_WS b).2.1 := by decide +kernel
theorem t_WS_ok : ∀ k, k < 5 → parseFieldDescriptor (F_WS k).2.2.1 = some (t_WS k) := by decide +kernel
theorem iw_WS : ∀ w ∈ u_ws R_WS F_WS 5, w ∈ gT := by decide +kernel
def F_TH : u_T := fun k => match k with
  | 0 => ("WaySearch$Things", "kind", "[I", true)
  | 1 => ("WaySearch$Things", "empty", "[Z", true)
  | 2 => ("WaySearch$Things", "barred", "[Z", true)
  | 3 => ("WaySearch$Things", "in", "[I", true)
  | 4 => ("WaySearch$Things", "out", "[I", true)
  | _ => ("WaySearch$Things", "count", "I", false)
def t_TH : Nat → FieldType := fun k => match k with
  | 0 => (.array .int)
  | 1 => (.array .boolean)
  | 2 => (.array .boolean)
  | 3 => (.array .int)
  | 4 => (.array .int)
  | _ => .int
theorem n_TH : ∀ a, a < 6 → ∀ b, b < 6 → a ≠ b → (F_TH a).2.1 ≠ (F_TH b).2.1 := by decide +kernel
theorem t_TH_ok : ∀ k, k < 6 → parseFieldDescriptor (F_TH k).2.2.1 = some (t_TH k) := by decide +kernel
theorem iw_TH : ∀ w ∈ u_ws R_TH F_TH 6, w ∈ gT := by decide +kernel
def F_PI : u_T := fun k => match k with
  | 0 => ("WaySearch$Pipes", "endA", "[I", true)
  | 1 => ("WaySearch$Pipes", "endB", "[I", true)
  | 2 => ("WaySearch$Pipes", "litres", "[J", true)
  | 3 => ("WaySearch$Pipes", "runs", "[Z", true)
  | _ => ("WaySearch$Pipes", "count", "I", false)
def t_PI : Nat → FieldType := fun k => match k with
  | 0 => (.array .int)
  | 1 => (.array .int)
  | 2 => (.array .long)
  | 3 => (.array .boolean)
  | _ => .int
theorem n_PI : ∀ a, a < 5 → ∀ b, b < 5 → a ≠ b → (F_PI a).2.1 ≠ (F_PI b).2.1 := by decide +kernel
theorem t_PI_ok : ∀ k, k < 5 → parseFieldDescriptor (F_PI k).2.2.1 = some (t_PI k) := by decide +kernel
theorem iw_PI : ∀ w ∈ u_ws R_PI F_PI 5, w ∈ gT := by decide +kernel
def F_SE : u_T := fun k => match k with
  | 0 => ("WaySearch$Search", "things", "LWaySearch$Things;", true)
  | 1 => ("WaySearch$Search", "pipes", "LWaySearch$Pipes;", true)
  | 2 => ("WaySearch$Search", "thingIsShut", "[Z", true)
  | 3 => ("WaySearch$Search", "pipeIsShut", "[Z", true)
  | 4 => ("WaySearch$Search", "arcPipe", "[I", true)
  | 5 => ("WaySearch$Search", "arcFrom", "[I", true)
  | 6 => ("WaySearch$Search", "arcTo", "[I", true)
  | 7 => ("WaySearch$Search", "arcCost", "[J", true)
  | 8 => ("WaySearch$Search", "arcCount", "I", false)
  | 9 => ("WaySearch$Search", "costToEnd", "[J", true)
  | 10 => ("WaySearch$Search", "rowPipes", "[I", true)
  | _ => ("WaySearch$Search", "rowThings", "[I", true)
def t_SE : Nat → FieldType := fun k => match k with
  | 0 => (.object "WaySearch$Things")
  | 1 => (.object "WaySearch$Pipes")
  | 2 => (.array .boolean)
  | 3 => (.array .boolean)
  | 4 => (.array .int)
  | 5 => (.array .int)
  | 6 => (.array .int)
  | 7 => (.array .long)
  | 8 => .int
  | 9 => (.array .long)
  | 10 => (.array .int)
  | _ => (.array .int)
theorem n_SE : ∀ a, a < 12 → ∀ b, b < 12 → a ≠ b → (F_SE a).2.1 ≠ (F_SE b).2.1 := by decide +kernel
theorem t_SE_ok : ∀ k, k < 12 → parseFieldDescriptor (F_SE k).2.2.1 = some (t_SE k) := by decide +kernel
theorem iw_SE : ∀ w ∈ u_ws R_SE F_SE 12, w ∈ gT := by decide +kernel
def F_FW : u_T := fun k => match k with
  | 0 => ("WaySearch$FoundWay", "from", "I", true)
  | 1 => ("WaySearch$FoundWay", "to", "I", true)
  | 2 => ("WaySearch$FoundWay", "litres", "J", true)
  | 3 => ("WaySearch$FoundWay", "pipes", "[I", true)
  | _ => ("WaySearch$FoundWay", "things", "[I", true)
def t_FW : Nat → FieldType := fun k => match k with
  | 0 => .int
  | 1 => .int
  | 2 => .long
  | 3 => (.array .int)
  | _ => (.array .int)
theorem n_FW : ∀ a, a < 5 → ∀ b, b < 5 → a ≠ b → (F_FW a).2.1 ≠ (F_FW b).2.1 := by decide +kernel
theorem t_FW_ok : ∀ k, k < 5 → parseFieldDescriptor (F_FW k).2.2.1 = some (t_FW k) := by decide +kernel
theorem iw_FW : ∀ w ∈ u_ws R_FW F_FW 5, w ∈ gT := by decide +kernel
def F_MO : u_T := fun k => match k with
  | 0 => ("WaySearchModel", "kind", "[I", true)
  | 1 => ("WaySearchModel", "empty", "[Z", true)
  | 2 => ("WaySearchModel", "barred", "[Z", true)
  | 3 => ("WaySearchModel", "in", "[I", true)
  | 4 => ("WaySearchModel", "out", "[I", true)
  | 5 => ("WaySearchModel", "things", "I", false)
  | 6 => ("WaySearchModel", "endA", "[I", true)
  | 7 => ("WaySearchModel", "endB", "[I", true)
  | 8 => ("WaySearchModel", "litres", "[J", true)
  | 9 => ("WaySearchModel", "runs", "[Z", true)
  | 10 => ("WaySearchModel", "pipes", "I", false)
  | 11 => ("WaySearchModel", "wayPipes", "[I", true)
  | 12 => ("WaySearchModel", "wayLength", "[I", true)
  | 13 => ("WaySearchModel", "wayFrom", "[I", true)
  | 14 => ("WaySearchModel", "wayTo", "[I", true)
  | 15 => ("WaySearchModel", "ways", "I", false)
  | 16 => ("WaySearchModel", "cost", "[J", true)
  | 17 => ("WaySearchModel", "shutThing", "[Z", true)
  | 18 => ("WaySearchModel", "shutPipe", "[Z", true)
  | 19 => ("WaySearchModel", "savedA", "[I", true)
  | _ => ("WaySearchModel", "savedB", "[I", true)
def t_MO : Nat → FieldType := fun k => match k with
  | 0 => (.array .int)
  | 1 => (.array .boolean)
  | 2 => (.array .boolean)
  | 3 => (.array .int)
  | 4 => (.array .int)
  | 5 => .int
  | 6 => (.array .int)
  | 7 => (.array .int)
  | 8 => (.array .long)
  | 9 => (.array .boolean)
  | 10 => .int
  | 11 => (.array .int)
  | 12 => (.array .int)
  | 13 => (.array .int)
  | 14 => (.array .int)
  | 15 => .int
  | 16 => (.array .long)
  | 17 => (.array .boolean)
  | 18 => (.array .boolean)
  | 19 => (.array .int)
  | _ => (.array .int)
theorem n_MO : ∀ a, a < 21 → ∀ b, b < 21 → a ≠ b → (F_MO a).2.1 ≠ (F_MO b).2.1 := by decide +kernel
theorem t_MO_ok : ∀ k, k < 21 → parseFieldDescriptor (F_MO k).2.2.1 = some (t_MO k) := by decide +kernel
theorem iw_MO : ∀ w ∈ u_ws R_MO F_MO 21, w ∈ gT := by decide +kernel
abbrev classes : List vw_C := [(R_WS, F_WS, 5), (R_TH, F_TH, 6), (R_PI, F_PI, 5), (R_SE, F_SE, 12), (R_FW, F_FW, 5), (R_MO, F_MO, 21)]
abbrev b_WS_init : ByteArray := prog_1_method_1_code
def y_WS_init : MethodName := ⟨R_WS, "<init>", "()V"⟩
abbrev w_WS_init : List Cond := gW y_WS_init b_WS_init 1 none
theorem m_WS_init : Cond.code y_WS_init b_WS_init 1 none ∈ gT := gT_in (List.mem_of_getElem? (i := 33) (by decide +kernel)) (by decide +kernel)
abbrev b_SE_init : ByteArray := prog_4_method_1_code
def y_SE_init : MethodName := ⟨R_SE, "<init>", "()V"⟩
abbrev w_SE_init : List Cond := gW y_SE_init b_SE_init 1 none
theorem m_SE_init : Cond.code y_SE_init b_SE_init 1 none ∈ gT := gT_in (List.mem_of_getElem? (i := 41) (by decide +kernel)) (by decide +kernel)
abbrev b_TH_init : ByteArray := prog_5_method_1_code
def y_TH_init : MethodName := ⟨R_TH, "<init>", "()V"⟩
abbrev w_TH_init : List Cond := gW y_TH_init b_TH_init 1 none
theorem m_TH_init : Cond.code y_TH_init b_TH_init 1 none ∈ gT := gT_in (List.mem_of_getElem? (i := 47) (by decide +kernel)) (by decide +kernel)
abbrev b_PI_init : ByteArray := prog_3_method_1_code
def y_PI_init : MethodName := ⟨R_PI, "<init>", "()V"⟩
abbrev w_PI_init : List Cond := gW y_PI_init b_PI_init 1 none
theorem m_PI_init : Cond.code y_PI_init b_PI_init 1 none ∈ gT := gT_in (List.mem_of_getElem? (i := 82) (by decide +kernel)) (by decide +kernel)
abbrev b_WS_tank : ByteArray := prog_1_method_2_code
def y_WS_tank : MethodName := ⟨R_WS, "tank", "(Z)I"⟩
abbrev w_WS_tank : List Cond := gW y_WS_tank b_WS_tank 2 (some .int)
theorem m_WS_tank : Cond.code y_WS_tank b_WS_tank 2 (some .int) ∈ gT := gT_in (List.mem_of_getElem? (i := 168) (by decide +kernel)) (by decide +kernel)
abbrev b_TH_add : ByteArray := prog_5_method_2_code
def y_TH_add : MethodName := ⟨R_TH, "add", "(IZ)I"⟩
abbrev w_TH_add : List Cond := gW y_TH_add b_TH_add 3 (some .int)
theorem m_TH_add : Cond.code y_TH_add b_TH_add 3 (some .int) ∈ gT := gT_in (List.mem_of_getElem? (i := 172) (by decide +kernel)) (by decide +kernel)
abbrev b_WS_pump : ByteArray := prog_1_method_3_code
def y_WS_pump : MethodName := ⟨R_WS, "pump", "()I"⟩
abbrev w_WS_pump : List Cond := gW y_WS_pump b_WS_pump 1 (some .int)
theorem m_WS_pump : Cond.code y_WS_pump b_WS_pump 1 (some .int) ∈ gT := gT_in (List.mem_of_getElem? (i := 176) (by decide +kernel)) (by decide +kernel)
abbrev b_WS_valve : ByteArray := prog_1_method_4_code
def y_WS_valve : MethodName := ⟨R_WS, "valve", "()I"⟩
abbrev w_WS_valve : List Cond := gW y_WS_valve b_WS_valve 1 (some .int)
theorem m_WS_valve : Cond.code y_WS_valve b_WS_valve 1 (some .int) ∈ gT := gT_in (List.mem_of_getElem? (i := 180) (by decide +kernel)) (by decide +kernel)
abbrev b_WS_pipe : ByteArray := prog_1_method_5_code
def y_WS_pipe : MethodName := ⟨R_WS, "pipe", "(IIJ)I"⟩
abbrev w_WS_pipe : List Cond := gW y_WS_pipe b_WS_pipe 5 (some .int)
theorem m_WS_pipe : Cond.code y_WS_pipe b_WS_pipe 5 (some .int) ∈ gT := gT_in (List.mem_of_getElem? (i := 184) (by decide +kernel)) (by decide +kernel)
abbrev b_TH_has : ByteArray := prog_5_method_3_code
def y_TH_has : MethodName := ⟨R_TH, "has", "(I)Z"⟩
abbrev w_TH_has : List Cond := gW y_TH_has b_TH_has 2 (some .boolean)
theorem m_TH_has : Cond.code y_TH_has b_TH_has 2 (some .boolean) ∈ gT := gT_in (List.mem_of_getElem? (i := 188) (by decide +kernel)) (by decide +kernel)
abbrev b_PI_add : ByteArray := prog_3_method_2_code
def y_PI_add : MethodName := ⟨R_PI, "add", "(IIJ)I"⟩
abbrev w_PI_add : List Cond := gW y_PI_add b_PI_add 5 (some .int)
theorem m_PI_add : Cond.code y_PI_add b_PI_add 5 (some .int) ∈ gT := gT_in (List.mem_of_getElem? (i := 193) (by decide +kernel)) (by decide +kernel)
abbrev b_WS_run : ByteArray := prog_1_method_6_code
def y_WS_run : MethodName := ⟨R_WS, "run", "(IZ)Z"⟩
abbrev w_WS_run : List Cond := gW y_WS_run b_WS_run 3 (some .boolean)
theorem m_WS_run : Cond.code y_WS_run b_WS_run 3 (some .boolean) ∈ gT := gT_in (List.mem_of_getElem? (i := 197) (by decide +kernel)) (by decide +kernel)
abbrev b_PI_has : ByteArray := prog_3_method_3_code
def y_PI_has : MethodName := ⟨R_PI, "has", "(I)Z"⟩
abbrev w_PI_has : List Cond := gW y_PI_has b_PI_has 2 (some .boolean)
theorem m_PI_has : Cond.code y_PI_has b_PI_has 2 (some .boolean) ∈ gT := gT_in (List.mem_of_getElem? (i := 201) (by decide +kernel)) (by decide +kernel)
abbrev b_WS_changeMark : ByteArray := prog_1_method_21_code
def y_WS_changeMark : MethodName := ⟨R_WS, "changeMark", "([ZIZ)Z"⟩
abbrev w_WS_changeMark : List Cond := gW y_WS_changeMark b_WS_changeMark 4 (some .boolean)
theorem m_WS_changeMark : Cond.code y_WS_changeMark b_WS_changeMark 4 (some .boolean) ∈ gT := gT_in (List.mem_of_getElem? (i := 204) (by decide +kernel)) (by decide +kernel)
abbrev b_WS_bar : ByteArray := prog_1_method_7_code
def y_WS_bar : MethodName := ⟨R_WS, "bar", "(IZ)Z"⟩
abbrev w_WS_bar : List Cond := gW y_WS_bar b_WS_bar 3 (some .boolean)
theorem m_WS_bar : Cond.code y_WS_bar b_WS_bar 3 (some .boolean) ∈ gT := gT_in (List.mem_of_getElem? (i := 208) (by decide +kernel)) (by decide +kernel)
abbrev b_WS_way : ByteArray := prog_1_method_8_code
def y_WS_way : MethodName := ⟨R_WS, "way", "(II)I"⟩
abbrev w_WS_way : List Cond := gW y_WS_way b_WS_way 4 (some .int)
theorem m_WS_way : Cond.code y_WS_way b_WS_way 4 (some .int) ∈ gT := gT_in (List.mem_of_getElem? (i := 212) (by decide +kernel)) (by decide +kernel)
abbrev b_WS_refusalOfEnds : ByteArray := prog_1_method_17_code
def y_WS_refusalOfEnds : MethodName := ⟨R_WS, "refusalOfEnds", "(II)I"⟩
abbrev w_WS_refusalOfEnds : List Cond := gW y_WS_refusalOfEnds b_WS_refusalOfEnds 3 (some .int)
theorem m_WS_refusalOfEnds : Cond.code y_WS_refusalOfEnds b_WS_refusalOfEnds 3 (some .int) ∈ gT := gT_in (List.mem_of_getElem? (i := 216) (by decide +kernel)) (by decide +kernel)
abbrev b_TH_isKind : ByteArray := prog_5_method_4_code
def y_TH_isKind : MethodName := ⟨R_TH, "isKind", "(II)Z"⟩
abbrev w_TH_isKind : List Cond := gW y_TH_isKind b_TH_isKind 3 (some .boolean)
theorem m_TH_isKind : Cond.code y_TH_isKind b_TH_isKind 3 (some .boolean) ∈ gT := gT_in (List.mem_of_getElem? (i := 220) (by decide +kernel)) (by decide +kernel)
abbrev b_SE_openAll : ByteArray := prog_4_method_2_code
def y_SE_openAll : MethodName := ⟨R_SE, "openAll", "()V"⟩
abbrev w_SE_openAll : List Cond := gW y_SE_openAll b_SE_openAll 2 none
theorem m_SE_openAll : Cond.code y_SE_openAll b_SE_openAll 2 none ∈ gT := gT_in (List.mem_of_getElem? (i := 225) (by decide +kernel)) (by decide +kernel)
abbrev b_SE_shutUnlessTank : ByteArray := prog_4_method_5_code
def y_SE_shutUnlessTank : MethodName := ⟨R_SE, "shutUnlessTank", "(I)V"⟩
abbrev w_SE_shutUnlessTank : List Cond := gW y_SE_shutUnlessTank b_SE_shutUnlessTank 2 none
theorem m_SE_shutUnlessTank : Cond.code y_SE_shutUnlessTank b_SE_shutUnlessTank 2 none ∈ gT := gT_in (List.mem_of_getElem? (i := 229) (by decide +kernel)) (by decide +kernel)
abbrev b_SE_leastWay : ByteArray := prog_4_method_6_code
def y_SE_leastWay : MethodName := ⟨R_SE, "leastWay", "(II)LWaySearch$FoundWay;"⟩
abbrev w_SE_leastWay : List Cond := gW y_SE_leastWay b_SE_leastWay 3 (some (.object "WaySearch$FoundWay"))
theorem m_SE_leastWay : Cond.code y_SE_leastWay b_SE_leastWay 3 (some (.object "WaySearch$FoundWay")) ∈ gT := gT_in (List.mem_of_getElem? (i := 234) (by decide +kernel)) (by decide +kernel)
abbrev b_SE_layArcs : ByteArray := prog_4_method_7_code
def y_SE_layArcs : MethodName := ⟨R_SE, "layArcs", "(I)V"⟩
abbrev w_SE_layArcs : List Cond := gW y_SE_layArcs b_SE_layArcs 3 none
theorem m_SE_layArcs : Cond.code y_SE_layArcs b_SE_layArcs 3 none ∈ gT := gT_in (List.mem_of_getElem? (i := 238) (by decide +kernel)) (by decide +kernel)
abbrev b_SE_layArc : ByteArray := prog_4_method_8_code
def y_SE_layArc : MethodName := ⟨R_SE, "layArc", "(IIII)V"⟩
abbrev w_SE_layArc : List Cond := gW y_SE_layArc b_SE_layArc 9 none
theorem m_SE_layArc : Cond.code y_SE_layArc b_SE_layArc 9 none ∈ gT := gT_in (List.mem_of_getElem? (i := 242) (by decide +kernel)) (by decide +kernel)
abbrev b_TH_letFlow : ByteArray := prog_5_method_5_code
def y_TH_letFlow : MethodName := ⟨R_TH, "letFlow", "(II)Z"⟩
abbrev w_TH_letFlow : List Cond := gW y_TH_letFlow b_TH_letFlow 5 (some .boolean)
theorem m_TH_letFlow : Cond.code y_TH_letFlow b_TH_letFlow 5 (some .boolean) ∈ gT := gT_in (List.mem_of_getElem? (i := 246) (by decide +kernel)) (by decide +kernel)
abbrev b_SE_reckonCostsTo : ByteArray := prog_4_method_9_code
def y_SE_reckonCostsTo : MethodName := ⟨R_SE, "reckonCostsTo", "(I)V"⟩
abbrev w_SE_reckonCostsTo : List Cond := gW y_SE_reckonCostsTo b_SE_reckonCostsTo 4 none
theorem m_SE_reckonCostsTo : Cond.code y_SE_reckonCostsTo b_SE_reckonCostsTo 4 none ∈ gT := gT_in (List.mem_of_getElem? (i := 251) (by decide +kernel)) (by decide +kernel)
abbrev b_AR_fill : ByteArray := prog_11_method_101_code
def y_AR_fill : MethodName := ⟨R_AR, "fill", "([JJ)V"⟩
abbrev w_AR_fill : List Cond := gW y_AR_fill b_AR_fill 5 none
theorem m_AR_fill : Cond.code y_AR_fill b_AR_fill 5 none ∈ gT := gT_in (List.mem_of_getElem? (i := 255) (by decide +kernel)) (by decide +kernel)
abbrev b_SE_lowerCosts : ByteArray := prog_4_method_10_code
def y_SE_lowerCosts : MethodName := ⟨R_SE, "lowerCosts", "()Z"⟩
abbrev w_SE_lowerCosts : List Cond := gW y_SE_lowerCosts b_SE_lowerCosts 5 (some .boolean)
theorem m_SE_lowerCosts : Cond.code y_SE_lowerCosts b_SE_lowerCosts 5 (some .boolean) ∈ gT := gT_in (List.mem_of_getElem? (i := 259) (by decide +kernel)) (by decide +kernel)
abbrev b_SE_followLeast : ByteArray := prog_4_method_11_code
def y_SE_followLeast : MethodName := ⟨R_SE, "followLeast", "(II)LWaySearch$FoundWay;"⟩
abbrev w_SE_followLeast : List Cond := gW y_SE_followLeast b_SE_followLeast 9 (some (.object "WaySearch$FoundWay"))
theorem m_SE_followLeast : Cond.code y_SE_followLeast b_SE_followLeast 9 (some (.object "WaySearch$FoundWay")) ∈ gT := gT_in (List.mem_of_getElem? (i := 263) (by decide +kernel)) (by decide +kernel)
abbrev b_SE_firstLeastArc : ByteArray := prog_4_method_12_code
def y_SE_firstLeastArc : MethodName := ⟨R_SE, "firstLeastArc", "(I)I"⟩
abbrev w_SE_firstLeastArc : List Cond := gW y_SE_firstLeastArc b_SE_firstLeastArc 5 (some .int)
theorem m_SE_firstLeastArc : Cond.code y_SE_firstLeastArc b_SE_firstLeastArc 5 (some .int) ∈ gT := gT_in (List.mem_of_getElem? (i := 267) (by decide +kernel)) (by decide +kernel)
abbrev b_AR_copyOf : ByteArray := prog_11_method_123_code
def y_AR_copyOf : MethodName := ⟨R_AR, "copyOf", "([II)[I"⟩
abbrev w_AR_copyOf : List Cond := gW y_AR_copyOf b_AR_copyOf 3 (some (.array .int))
theorem m_AR_copyOf : Cond.code y_AR_copyOf b_AR_copyOf 3 (some (.array .int)) ∈ gT := gT_in (List.mem_of_getElem? (i := 270) (by decide +kernel)) (by decide +kernel)
abbrev b_MA_min : ByteArray := prog_9_method_69_code
def y_MA_min : MethodName := ⟨R_MA, "min", "(II)I"⟩
abbrev w_MA_min : List Cond := gW y_MA_min b_MA_min 2 (some .int)
theorem m_MA_min : Cond.code y_MA_min b_MA_min 2 (some .int) ∈ gT := gT_in (List.mem_of_getElem? (i := 280) (by decide +kernel)) (by decide +kernel)
abbrev b_FW_init : ByteArray := prog_2_method_1_code
def y_FW_init : MethodName := ⟨R_FW, "<init>", "(IIJ[I[I)V"⟩
abbrev w_FW_init : List Cond := gW y_FW_init b_FW_init 7 none
theorem m_FW_init : Cond.code y_FW_init b_FW_init 7 none ∈ gT := gT_in (List.mem_of_getElem? (i := 288) (by decide +kernel)) (by decide +kernel)
abbrev b_WS_keep : ByteArray := prog_1_method_19_code
def y_WS_keep : MethodName := ⟨R_WS, "keep", "(LWaySearch$FoundWay;)I"⟩
abbrev w_WS_keep : List Cond := gW y_WS_keep b_WS_keep 2 (some .int)
theorem m_WS_keep : Cond.code y_WS_keep b_WS_keep 2 (some .int) ∈ gT := gT_in (List.mem_of_getElem? (i := 316) (by decide +kernel)) (by decide +kernel)
abbrev b_WS_pipeOf : ByteArray := prog_1_method_9_code
def y_WS_pipeOf : MethodName := ⟨R_WS, "pipeOf", "(II)I"⟩
abbrev w_WS_pipeOf : List Cond := gW y_WS_pipeOf b_WS_pipeOf 4 (some .int)
theorem m_WS_pipeOf : Cond.code y_WS_pipeOf b_WS_pipeOf 4 (some .int) ∈ gT := gT_in (List.mem_of_getElem? (i := 320) (by decide +kernel)) (by decide +kernel)
abbrev b_WS_wayNumbered : ByteArray := prog_1_method_18_code
def y_WS_wayNumbered : MethodName := ⟨R_WS, "wayNumbered", "(I)LWaySearch$FoundWay;"⟩
abbrev w_WS_wayNumbered : List Cond := gW y_WS_wayNumbered b_WS_wayNumbered 2 (some (.object "WaySearch$FoundWay"))
theorem m_WS_wayNumbered : Cond.code y_WS_wayNumbered b_WS_wayNumbered 2 (some (.object "WaySearch$FoundWay")) ∈ gT := gT_in (List.mem_of_getElem? (i := 324) (by decide +kernel)) (by decide +kernel)
abbrev b_FW_pipeAt : ByteArray := prog_2_method_2_code
def y_FW_pipeAt : MethodName := ⟨R_FW, "pipeAt", "(I)I"⟩
abbrev w_FW_pipeAt : List Cond := gW y_FW_pipeAt b_FW_pipeAt 2 (some .int)
theorem m_FW_pipeAt : Cond.code y_FW_pipeAt b_FW_pipeAt 2 (some .int) ∈ gT := gT_in (List.mem_of_getElem? (i := 328) (by decide +kernel)) (by decide +kernel)
abbrev b_WS_valveOf : ByteArray := prog_1_method_10_code
def y_WS_valveOf : MethodName := ⟨R_WS, "valveOf", "(II)I"⟩
abbrev w_WS_valveOf : List Cond := gW y_WS_valveOf b_WS_valveOf 9 (some .int)
theorem m_WS_valveOf : Cond.code y_WS_valveOf b_WS_valveOf 9 (some .int) ∈ gT := gT_in (List.mem_of_getElem? (i := 332) (by decide +kernel)) (by decide +kernel)
abbrev b_WS_rest : ByteArray := prog_1_method_11_code
def y_WS_rest : MethodName := ⟨R_WS, "rest", "(I)J"⟩
abbrev w_WS_rest : List Cond := gW y_WS_rest b_WS_rest 3 (some .long)
theorem m_WS_rest : Cond.code y_WS_rest b_WS_rest 3 (some .long) ∈ gT := gT_in (List.mem_of_getElem? (i := 336) (by decide +kernel)) (by decide +kernel)
abbrev b_WS_other : ByteArray := prog_1_method_12_code
def y_WS_other : MethodName := ⟨R_WS, "other", "(II)I"⟩
abbrev w_WS_other : List Cond := gW y_WS_other b_WS_other 5 (some .int)
theorem m_WS_other : Cond.code y_WS_other b_WS_other 5 (some .int) ∈ gT := gT_in (List.mem_of_getElem? (i := 341) (by decide +kernel)) (by decide +kernel)
abbrev b_SE_shutPipe : ByteArray := prog_4_method_3_code
def y_SE_shutPipe : MethodName := ⟨R_SE, "shutPipe", "(I)V"⟩
abbrev w_SE_shutPipe : List Cond := gW y_SE_shutPipe b_SE_shutPipe 2 none
theorem m_SE_shutPipe : Cond.code y_SE_shutPipe b_SE_shutPipe 2 none ∈ gT := gT_in (List.mem_of_getElem? (i := 345) (by decide +kernel)) (by decide +kernel)
abbrev b_WS_two : ByteArray := prog_1_method_13_code
def y_WS_two : MethodName := ⟨R_WS, "two", "(IIII)I"⟩
abbrev w_WS_two : List Cond := gW y_WS_two b_WS_two 8 (some .int)
theorem m_WS_two : Cond.code y_WS_two b_WS_two 8 (some .int) ∈ gT := gT_in (List.mem_of_getElem? (i := 350) (by decide +kernel)) (by decide +kernel)
abbrev b_SE_shutWay : ByteArray := prog_4_method_4_code
def y_SE_shutWay : MethodName := ⟨R_SE, "shutWay", "(LWaySearch$FoundWay;)V"⟩
abbrev w_SE_shutWay : List Cond := gW y_SE_shutWay b_SE_shutWay 6 none
theorem m_SE_shutWay : Cond.code y_SE_shutWay b_SE_shutWay 6 none ∈ gT := gT_in (List.mem_of_getElem? (i := 354) (by decide +kernel)) (by decide +kernel)
abbrev b_WS_forward : ByteArray := prog_1_method_14_code
def y_WS_forward : MethodName := ⟨R_WS, "forward", "(III)Z"⟩
abbrev w_WS_forward : List Cond := gW y_WS_forward b_WS_forward 4 (some .boolean)
theorem m_WS_forward : Cond.code y_WS_forward b_WS_forward 4 (some .boolean) ∈ gT := gT_in (List.mem_of_getElem? (i := 359) (by decide +kernel)) (by decide +kernel)
abbrev b_PI_anyJoins : ByteArray := prog_3_method_4_code
def y_PI_anyJoins : MethodName := ⟨R_PI, "anyJoins", "(II)Z"⟩
abbrev w_PI_anyJoins : List Cond := gW y_PI_anyJoins b_PI_anyJoins 6 (some .boolean)
theorem m_PI_anyJoins : Cond.code y_PI_anyJoins b_PI_anyJoins 6 (some .boolean) ∈ gT := gT_in (List.mem_of_getElem? (i := 363) (by decide +kernel)) (by decide +kernel)
abbrev b_WS_told : ByteArray := prog_1_method_15_code
def y_WS_told : MethodName := ⟨R_WS, "told", "(I)I"⟩
abbrev w_WS_told : List Cond := gW y_WS_told b_WS_told 2 (some .int)
theorem m_WS_told : Cond.code y_WS_told b_WS_told 2 (some .int) ∈ gT := gT_in (List.mem_of_getElem? (i := 367) (by decide +kernel)) (by decide +kernel)
abbrev b_WS_countMarks : ByteArray := prog_1_method_22_code
def y_WS_countMarks : MethodName := ⟨R_WS, "countMarks", "([Z)I"⟩
abbrev w_WS_countMarks : List Cond := gW y_WS_countMarks b_WS_countMarks 6 (some .int)
theorem m_WS_countMarks : Cond.code y_WS_countMarks b_WS_countMarks 6 (some .int) ∈ gT := gT_in (List.mem_of_getElem? (i := 370) (by decide +kernel)) (by decide +kernel)
abbrev b_WS_countLooseThings : ByteArray := prog_1_method_20_code
def y_WS_countLooseThings : MethodName := ⟨R_WS, "countLooseThings", "()I"⟩
abbrev w_WS_countLooseThings : List Cond := gW y_WS_countLooseThings b_WS_countLooseThings 3 (some .int)
theorem m_WS_countLooseThings : Cond.code y_WS_countLooseThings b_WS_countLooseThings 3 (some .int) ∈ gT := gT_in (List.mem_of_getElem? (i := 374) (by decide +kernel)) (by decide +kernel)
abbrev b_PI_anyEndsAt : ByteArray := prog_3_method_5_code
def y_PI_anyEndsAt : MethodName := ⟨R_PI, "anyEndsAt", "(I)Z"⟩
abbrev w_PI_anyEndsAt : List Cond := gW y_PI_anyEndsAt b_PI_anyEndsAt 3 (some .boolean)
theorem m_PI_anyEndsAt : Cond.code y_PI_anyEndsAt b_PI_anyEndsAt 3 (some .boolean) ∈ gT := gT_in (List.mem_of_getElem? (i := 378) (by decide +kernel)) (by decide +kernel)
abbrev b_WS_blow : ByteArray := prog_1_method_16_code
def y_WS_blow : MethodName := ⟨R_WS, "blow", "(II)I"⟩
abbrev w_WS_blow : List Cond := gW y_WS_blow b_WS_blow 6 (some .int)
theorem m_WS_blow : Cond.code y_WS_blow b_WS_blow 6 (some .int) ∈ gT := gT_in (List.mem_of_getElem? (i := 382) (by decide +kernel)) (by decide +kernel)
abbrev b_FW_thingAt : ByteArray := prog_2_method_3_code
def y_FW_thingAt : MethodName := ⟨R_FW, "thingAt", "(I)I"⟩
abbrev w_FW_thingAt : List Cond := gW y_FW_thingAt b_FW_thingAt 2 (some .int)
theorem m_FW_thingAt : Cond.code y_FW_thingAt b_FW_thingAt 2 (some .int) ∈ gT := gT_in (List.mem_of_getElem? (i := 386) (by decide +kernel)) (by decide +kernel)
abbrev b_MO_init : ByteArray := prog_7_method_1_code
def y_MO_init : MethodName := ⟨R_MO, "<init>", "()V"⟩
abbrev w_MO_init : List Cond := gW y_MO_init b_MO_init 1 none
theorem m_MO_init : Cond.code y_MO_init b_MO_init 1 none ∈ gT := gT_in (List.mem_of_getElem? (i := 391) (by decide +kernel)) (by decide +kernel)
abbrev b_MO_tank : ByteArray := prog_7_method_3_code
def y_MO_tank : MethodName := ⟨R_MO, "tank", "(Z)I"⟩
abbrev w_MO_tank : List Cond := gW y_MO_tank b_MO_tank 3 (some .int)
theorem m_MO_tank : Cond.code y_MO_tank b_MO_tank 3 (some .int) ∈ gT := gT_in (List.mem_of_getElem? (i := 460) (by decide +kernel)) (by decide +kernel)
abbrev b_MO_thing : ByteArray := prog_7_method_2_code
def y_MO_thing : MethodName := ⟨R_MO, "thing", "(I)I"⟩
abbrev w_MO_thing : List Cond := gW y_MO_thing b_MO_thing 2 (some .int)
theorem m_MO_thing : Cond.code y_MO_thing b_MO_thing 2 (some .int) ∈ gT := gT_in (List.mem_of_getElem? (i := 464) (by decide +kernel)) (by decide +kernel)
abbrev b_MO_pump : ByteArray := prog_7_method_4_code
def y_MO_pump : MethodName := ⟨R_MO, "pump", "()I"⟩
abbrev w_MO_pump : List Cond := gW y_MO_pump b_MO_pump 1 (some .int)
theorem m_MO_pump : Cond.code y_MO_pump b_MO_pump 1 (some .int) ∈ gT := gT_in (List.mem_of_getElem? (i := 468) (by decide +kernel)) (by decide +kernel)
abbrev b_MO_valve : ByteArray := prog_7_method_5_code
def y_MO_valve : MethodName := ⟨R_MO, "valve", "()I"⟩
abbrev w_MO_valve : List Cond := gW y_MO_valve b_MO_valve 1 (some .int)
theorem m_MO_valve : Cond.code y_MO_valve b_MO_valve 1 (some .int) ∈ gT := gT_in (List.mem_of_getElem? (i := 472) (by decide +kernel)) (by decide +kernel)
abbrev b_MO_pipe : ByteArray := prog_7_method_8_code
def y_MO_pipe : MethodName := ⟨R_MO, "pipe", "(IIJ)I"⟩
abbrev w_MO_pipe : List Cond := gW y_MO_pipe b_MO_pipe 5 (some .int)
theorem m_MO_pipe : Cond.code y_MO_pipe b_MO_pipe 5 (some .int) ∈ gT := gT_in (List.mem_of_getElem? (i := 476) (by decide +kernel)) (by decide +kernel)
abbrev b_MO_isThing : ByteArray := prog_7_method_6_code
def y_MO_isThing : MethodName := ⟨R_MO, "isThing", "(I)Z"⟩
abbrev w_MO_isThing : List Cond := gW y_MO_isThing b_MO_isThing 2 (some .boolean)
theorem m_MO_isThing : Cond.code y_MO_isThing b_MO_isThing 2 (some .boolean) ∈ gT := gT_in (List.mem_of_getElem? (i := 480) (by decide +kernel)) (by decide +kernel)
abbrev b_MO_run : ByteArray := prog_7_method_9_code
def y_MO_run : MethodName := ⟨R_MO, "run", "(IZ)Z"⟩
abbrev w_MO_run : List Cond := gW y_MO_run b_MO_run 3 (some .boolean)
theorem m_MO_run : Cond.code y_MO_run b_MO_run 3 (some .boolean) ∈ gT := gT_in (List.mem_of_getElem? (i := 485) (by decide +kernel)) (by decide +kernel)
abbrev b_MO_bar : ByteArray := prog_7_method_10_code
def y_MO_bar : MethodName := ⟨R_MO, "bar", "(IZ)Z"⟩
abbrev w_MO_bar : List Cond := gW y_MO_bar b_MO_bar 3 (some .boolean)
theorem m_MO_bar : Cond.code y_MO_bar b_MO_bar 3 (some .boolean) ∈ gT := gT_in (List.mem_of_getElem? (i := 489) (by decide +kernel)) (by decide +kernel)
abbrev b_MO_forward : ByteArray := prog_7_method_13_code
def y_MO_forward : MethodName := ⟨R_MO, "forward", "(III)Z"⟩
abbrev w_MO_forward : List Cond := gW y_MO_forward b_MO_forward 4 (some .boolean)
theorem m_MO_forward : Cond.code y_MO_forward b_MO_forward 4 (some .boolean) ∈ gT := gT_in (List.mem_of_getElem? (i := 493) (by decide +kernel)) (by decide +kernel)
abbrev b_MO_areJoined : ByteArray := prog_7_method_12_code
def y_MO_areJoined : MethodName := ⟨R_MO, "areJoined", "(II)Z"⟩
abbrev w_MO_areJoined : List Cond := gW y_MO_areJoined b_MO_areJoined 5 (some .boolean)
theorem m_MO_areJoined : Cond.code y_MO_areJoined b_MO_areJoined 5 (some .boolean) ∈ gT := gT_in (List.mem_of_getElem? (i := 497) (by decide +kernel)) (by decide +kernel)
abbrev b_MO_joins : ByteArray := prog_7_method_11_code
def y_MO_joins : MethodName := ⟨R_MO, "joins", "(III)Z"⟩
abbrev w_MO_joins : List Cond := gW y_MO_joins b_MO_joins 4 (some .boolean)
theorem m_MO_joins : Cond.code y_MO_joins b_MO_joins 4 (some .boolean) ∈ gT := gT_in (List.mem_of_getElem? (i := 501) (by decide +kernel)) (by decide +kernel)
abbrev b_MO_way : ByteArray := prog_7_method_20_code
def y_MO_way : MethodName := ⟨R_MO, "way", "(II)I"⟩
abbrev w_MO_way : List Cond := gW y_MO_way b_MO_way 4 (some .int)
theorem m_MO_way : Cond.code y_MO_way b_MO_way 4 (some .int) ∈ gT := gT_in (List.mem_of_getElem? (i := 505) (by decide +kernel)) (by decide +kernel)
abbrev b_MO_wrong : ByteArray := prog_7_method_19_code
def y_MO_wrong : MethodName := ⟨R_MO, "wrong", "(II)I"⟩
abbrev w_MO_wrong : List Cond := gW y_MO_wrong b_MO_wrong 3 (some .int)
theorem m_MO_wrong : Cond.code y_MO_wrong b_MO_wrong 3 (some .int) ∈ gT := gT_in (List.mem_of_getElem? (i := 509) (by decide +kernel)) (by decide +kernel)
abbrev b_MO_isTank : ByteArray := prog_7_method_7_code
def y_MO_isTank : MethodName := ⟨R_MO, "isTank", "(I)Z"⟩
abbrev w_MO_isTank : List Cond := gW y_MO_isTank b_MO_isTank 2 (some .boolean)
theorem m_MO_isTank : Cond.code y_MO_isTank b_MO_isTank 2 (some .boolean) ∈ gT := gT_in (List.mem_of_getElem? (i := 513) (by decide +kernel)) (by decide +kernel)
abbrev b_MO_shut : ByteArray := prog_7_method_14_code
def y_MO_shut : MethodName := ⟨R_MO, "shut", "()V"⟩
abbrev w_MO_shut : List Cond := gW y_MO_shut b_MO_shut 2 none
theorem m_MO_shut : Cond.code y_MO_shut b_MO_shut 2 none ∈ gT := gT_in (List.mem_of_getElem? (i := 517) (by decide +kernel)) (by decide +kernel)
abbrev b_MO_exists : ByteArray := prog_7_method_21_code
def y_MO_exists : MethodName := ⟨R_MO, "exists", "(II)Z"⟩
abbrev w_MO_exists : List Cond := gW y_MO_exists b_MO_exists 3 (some .boolean)
theorem m_MO_exists : Cond.code y_MO_exists b_MO_exists 3 (some .boolean) ∈ gT := gT_in (List.mem_of_getElem? (i := 521) (by decide +kernel)) (by decide +kernel)
abbrev b_MO_reckon : ByteArray := prog_7_method_16_code
def y_MO_reckon : MethodName := ⟨R_MO, "reckon", "(II)V"⟩
abbrev w_MO_reckon : List Cond := gW y_MO_reckon b_MO_reckon 5 none
theorem m_MO_reckon : Cond.code y_MO_reckon b_MO_reckon 5 none ∈ gT := gT_in (List.mem_of_getElem? (i := 525) (by decide +kernel)) (by decide +kernel)
abbrev b_MO_improve : ByteArray := prog_7_method_17_code
def y_MO_improve : MethodName := ⟨R_MO, "improve", "(IIIII)Z"⟩
abbrev w_MO_improve : List Cond := gW y_MO_improve b_MO_improve 9 (some .boolean)
theorem m_MO_improve : Cond.code y_MO_improve b_MO_improve 9 (some .boolean) ∈ gT := gT_in (List.mem_of_getElem? (i := 530) (by decide +kernel)) (by decide +kernel)
abbrev b_MO_goes : ByteArray := prog_7_method_15_code
def y_MO_goes : MethodName := ⟨R_MO, "goes", "(III)Z"⟩
abbrev w_MO_goes : List Cond := gW y_MO_goes b_MO_goes 4 (some .boolean)
theorem m_MO_goes : Cond.code y_MO_goes b_MO_goes 4 (some .boolean) ∈ gT := gT_in (List.mem_of_getElem? (i := 534) (by decide +kernel)) (by decide +kernel)
abbrev b_MO_walk : ByteArray := prog_7_method_18_code
def y_MO_walk : MethodName := ⟨R_MO, "walk", "(III)Z"⟩
abbrev w_MO_walk : List Cond := gW y_MO_walk b_MO_walk 10 (some .boolean)
theorem m_MO_walk : Cond.code y_MO_walk b_MO_walk 10 (some .boolean) ∈ gT := gT_in (List.mem_of_getElem? (i := 539) (by decide +kernel)) (by decide +kernel)
abbrev b_MO_pipeOf : ByteArray := prog_7_method_23_code
def y_MO_pipeOf : MethodName := ⟨R_MO, "pipeOf", "(II)I"⟩
abbrev w_MO_pipeOf : List Cond := gW y_MO_pipeOf b_MO_pipeOf 3 (some .int)
theorem m_MO_pipeOf : Cond.code y_MO_pipeOf b_MO_pipeOf 3 (some .int) ∈ gT := gT_in (List.mem_of_getElem? (i := 543) (by decide +kernel)) (by decide +kernel)
abbrev b_MO_isWay : ByteArray := prog_7_method_22_code
def y_MO_isWay : MethodName := ⟨R_MO, "isWay", "(I)Z"⟩
abbrev w_MO_isWay : List Cond := gW y_MO_isWay b_MO_isWay 2 (some .boolean)
theorem m_MO_isWay : Cond.code y_MO_isWay b_MO_isWay 2 (some .boolean) ∈ gT := gT_in (List.mem_of_getElem? (i := 547) (by decide +kernel)) (by decide +kernel)
abbrev b_MO_valveOf : ByteArray := prog_7_method_25_code
def y_MO_valveOf : MethodName := ⟨R_MO, "valveOf", "(II)I"⟩
abbrev w_MO_valveOf : List Cond := gW y_MO_valveOf b_MO_valveOf 6 (some .int)
theorem m_MO_valveOf : Cond.code y_MO_valveOf b_MO_valveOf 6 (some .int) ∈ gT := gT_in (List.mem_of_getElem? (i := 551) (by decide +kernel)) (by decide +kernel)
abbrev b_MO_behind : ByteArray := prog_7_method_24_code
def y_MO_behind : MethodName := ⟨R_MO, "behind", "(II)I"⟩
abbrev w_MO_behind : List Cond := gW y_MO_behind b_MO_behind 6 (some .int)
theorem m_MO_behind : Cond.code y_MO_behind b_MO_behind 6 (some .int) ∈ gT := gT_in (List.mem_of_getElem? (i := 555) (by decide +kernel)) (by decide +kernel)
abbrev b_MO_rest : ByteArray := prog_7_method_26_code
def y_MO_rest : MethodName := ⟨R_MO, "rest", "(I)J"⟩
abbrev w_MO_rest : List Cond := gW y_MO_rest b_MO_rest 5 (some .long)
theorem m_MO_rest : Cond.code y_MO_rest b_MO_rest 5 (some .long) ∈ gT := gT_in (List.mem_of_getElem? (i := 559) (by decide +kernel)) (by decide +kernel)
abbrev b_MO_other : ByteArray := prog_7_method_27_code
def y_MO_other : MethodName := ⟨R_MO, "other", "(II)I"⟩
abbrev w_MO_other : List Cond := gW y_MO_other b_MO_other 3 (some .int)
theorem m_MO_other : Cond.code y_MO_other b_MO_other 3 (some .int) ∈ gT := gT_in (List.mem_of_getElem? (i := 564) (by decide +kernel)) (by decide +kernel)
abbrev b_MO_two : ByteArray := prog_7_method_28_code
def y_MO_two : MethodName := ⟨R_MO, "two", "(IIII)I"⟩
abbrev w_MO_two : List Cond := gW y_MO_two b_MO_two 15 (some .int)
theorem m_MO_two : Cond.code y_MO_two b_MO_two 15 (some .int) ∈ gT := gT_in (List.mem_of_getElem? (i := 568) (by decide +kernel)) (by decide +kernel)
abbrev b_MO_find : ByteArray := prog_7_method_29_code
def y_MO_find : MethodName := ⟨R_MO, "find", "(IIIII)Z"⟩
abbrev w_MO_find : List Cond := gW y_MO_find b_MO_find 8 (some .boolean)
theorem m_MO_find : Cond.code y_MO_find b_MO_find 8 (some .boolean) ∈ gT := gT_in (List.mem_of_getElem? (i := 572) (by decide +kernel)) (by decide +kernel)
abbrev b_MO_told : ByteArray := prog_7_method_30_code
def y_MO_told : MethodName := ⟨R_MO, "told", "(I)I"⟩
abbrev w_MO_told : List Cond := gW y_MO_told b_MO_told 6 (some .int)
theorem m_MO_told : Cond.code y_MO_told b_MO_told 6 (some .int) ∈ gT := gT_in (List.mem_of_getElem? (i := 576) (by decide +kernel)) (by decide +kernel)
abbrev b_MO_blow : ByteArray := prog_7_method_31_code
def y_MO_blow : MethodName := ⟨R_MO, "blow", "(II)I"⟩
abbrev w_MO_blow : List Cond := gW y_MO_blow b_MO_blow 5 (some .int)
theorem m_MO_blow : Cond.code y_MO_blow b_MO_blow 5 (some .int) ∈ gT := gT_in (List.mem_of_getElem? (i := 580) (by decide +kernel)) (by decide +kernel)
