/-! names: kinds of objects, their fields, methods; the words of the tables, each by its place -/
def T_Ta : u_T := fun k => match k with
  | 0 => ("WeightOrder$Table", "keys", "[J", true)
  | 1 => ("WeightOrder$Table", "values", "[I", true)
  | _ => ("WeightOrder$Table", "size", "I", false)
def t_Ta : Nat → FieldType := fun k => match k with
  | 0 => .array .long
  | 1 => .array .int
  | _ => .int
theorem n_Ta : ∀ a, a < 3 → ∀ b, b < 3 → a ≠ b → (T_Ta a).2.1 ≠ (T_Ta b).2.1 := by decide +kernel
theorem t_Ta_ok : ∀ k, k < 3 → parseFieldDescriptor (T_Ta k).2.2.1 = some (t_Ta k) := by decide +kernel
def T_Li : u_T := fun k => match k with
  | 0 => ("WeightOrder$Line", "packed", "[J", true)
  | 1 => ("WeightOrder$Line", "variable", "[Z", true)
  | _ => ("WeightOrder$Line", "size", "I", false)
def t_Li : Nat → FieldType := fun k => match k with
  | 0 => .array .long
  | 1 => .array .boolean
  | _ => .int
theorem n_Li : ∀ a, a < 3 → ∀ b, b < 3 → a ≠ b → (T_Li a).2.1 ≠ (T_Li b).2.1 := by decide +kernel
theorem t_Li_ok : ∀ k, k < 3 → parseFieldDescriptor (T_Li k).2.2.1 = some (t_Li k) := by decide +kernel
def T_Ls : u_T := fun k => match k with
  | 0 => ("WeightOrder$Lines", "numbers", "LWeightOrder$Table;", true)
  | 1 => ("WeightOrder$Lines", "made", "[LWeightOrder$Line;", true)
  | 2 => ("WeightOrder$Lines", "size", "I", false)
  | _ => ("WeightOrder$Lines", "toldLast", "LWeightOrder$Line;", false)
def t_Ls : Nat → FieldType := fun k => match k with
  | 0 => .object "WeightOrder$Table"
  | 1 => .array (.object "WeightOrder$Line")
  | 2 => .int
  | _ => .object "WeightOrder$Line"
theorem n_Ls : ∀ a, a < 4 → ∀ b, b < 4 → a ≠ b → (T_Ls a).2.1 ≠ (T_Ls b).2.1 := by decide +kernel
theorem t_Ls_ok : ∀ k, k < 4 → parseFieldDescriptor (T_Ls k).2.2.1 = some (t_Ls k) := by decide +kernel
def T_Ro : u_T := fun k => match k with
  | 0 => ("WeightOrder$Row", "points", "[I", true)
  | _ => ("WeightOrder$Row", "size", "I", false)
def t_Ro : Nat → FieldType := fun k => match k with
  | 0 => .array .int
  | _ => .int
theorem n_Ro : ∀ a, a < 2 → ∀ b, b < 2 → a ≠ b → (T_Ro a).2.1 ≠ (T_Ro b).2.1 := by decide +kernel
theorem t_Ro_ok : ∀ k, k < 2 → parseFieldDescriptor (T_Ro k).2.2.1 = some (t_Ro k) := by decide +kernel
def T_El : u_T := fun k => match k with
  | 0 => ("WeightOrder$Elements", "packed", "[J", true)
  | 1 => ("WeightOrder$Elements", "size", "I", false)
  | 2 => ("WeightOrder$Elements", "shifted", "Z", false)
  | _ => ("WeightOrder$Elements", "behindVariable", "Z", false)
def t_El : Nat → FieldType := fun k => match k with
  | 0 => .array .long
  | 1 => .int
  | 2 => .boolean
  | _ => .boolean
theorem n_El : ∀ a, a < 4 → ∀ b, b < 4 → a ≠ b → (T_El a).2.1 ≠ (T_El b).2.1 := by decide +kernel
theorem t_El_ok : ∀ k, k < 4 → parseFieldDescriptor (T_El k).2.2.1 = some (t_El k) := by decide +kernel
def T_Fi : u_T := fun k => match k with
  | 0 => ("WeightOrder$Finder", "classes", "LWeightOrder$Table;", true)
  | 1 => ("WeightOrder$Finder", "lines", "LWeightOrder$Lines;", true)
  | 2 => ("WeightOrder$Finder", "points", "[I", true)
  | 3 => ("WeightOrder$Finder", "pointClasses", "[I", true)
  | 4 => ("WeightOrder$Finder", "start", "I", false)
  | 5 => ("WeightOrder$Finder", "end", "I", false)
  | 6 => ("WeightOrder$Finder", "key", "J", false)
  | 7 => ("WeightOrder$Finder", "length", "I", false)
  | _ => ("WeightOrder$Finder", "line", "LWeightOrder$Line;", false)
def t_Fi : Nat → FieldType := fun k => match k with
  | 0 => .object "WeightOrder$Table"
  | 1 => .object "WeightOrder$Lines"
  | 2 => .array .int
  | 3 => .array .int
  | 4 => .int
  | 5 => .int
  | 6 => .long
  | 7 => .int
  | _ => .object "WeightOrder$Line"
theorem n_Fi : ∀ a, a < 9 → ∀ b, b < 9 → a ≠ b → (T_Fi a).2.1 ≠ (T_Fi b).2.1 := by decide +kernel
theorem t_Fi_ok : ∀ k, k < 9 → parseFieldDescriptor (T_Fi k).2.2.1 = some (t_Fi k) := by decide +kernel
def T_Wo : u_T := fun k => match k with
  | 0 => ("WeightOrder", "classes", "LWeightOrder$Table;", true)
  | 1 => ("WeightOrder", "lines", "LWeightOrder$Lines;", true)
  | 2 => ("WeightOrder", "rows", "[LWeightOrder$Row;", true)
  | 3 => ("WeightOrder", "finder", "LWeightOrder$Finder;", true)
  | 4 => ("WeightOrder", "elements", "LWeightOrder$Elements;", true)
  | _ => ("WeightOrder", "otherElements", "LWeightOrder$Elements;", true)
def t_Wo : Nat → FieldType := fun k => match k with
  | 0 => .object "WeightOrder$Table"
  | 1 => .object "WeightOrder$Lines"
  | 2 => .array (.object "WeightOrder$Row")
  | 3 => .object "WeightOrder$Finder"
  | 4 => .object "WeightOrder$Elements"
  | _ => .object "WeightOrder$Elements"
theorem n_Wo : ∀ a, a < 6 → ∀ b, b < 6 → a ≠ b → (T_Wo a).2.1 ≠ (T_Wo b).2.1 := by decide +kernel
theorem t_Wo_ok : ∀ k, k < 6 → parseFieldDescriptor (T_Wo k).2.2.1 = some (t_Wo k) := by decide +kernel
def T_Mo : u_T := fun k => match k with
  | 0 => ("WeightOrderModel", "failed", "I", false)
  | 1 => ("WeightOrderModel", "points", "[I", true)
  | 2 => ("WeightOrderModel", "classes", "[I", true)
  | 3 => ("WeightOrderModel", "classed", "I", false)
  | 4 => ("WeightOrderModel", "lengths", "[I", true)
  | 5 => ("WeightOrderModel", "rows", "[I", true)
  | 6 => ("WeightOrderModel", "counts", "[I", true)
  | 7 => ("WeightOrderModel", "elements", "[I", true)
  | 8 => ("WeightOrderModel", "lines", "I", false)
  | 9 => ("WeightOrderModel", "told", "I", false)
  | 10 => ("WeightOrderModel", "texts", "[[I", true)
  | 11 => ("WeightOrderModel", "sizes", "[I", true)
  | 12 => ("WeightOrderModel", "left", "[I", true)
  | 13 => ("WeightOrderModel", "leftSize", "I", false)
  | 14 => ("WeightOrderModel", "found", "[I", true)
  | 15 => ("WeightOrderModel", "foundSize", "I", false)
  | _ => ("WeightOrderModel", "first", "[I", true)
def t_Mo : Nat → FieldType := fun k => match k with
  | 0 => .int
  | 1 => .array .int
  | 2 => .array .int
  | 3 => .int
  | 4 => .array .int
  | 5 => .array .int
  | 6 => .array .int
  | 7 => .array .int
  | 8 => .int
  | 9 => .int
  | 10 => .array (.array .int)
  | 11 => .array .int
  | 12 => .array .int
  | 13 => .int
  | 14 => .array .int
  | 15 => .int
  | _ => .array .int
theorem n_Mo : ∀ a, a < 17 → ∀ b, b < 17 → a ≠ b → (T_Mo a).2.1 ≠ (T_Mo b).2.1 := by decide +kernel
theorem t_Mo_ok : ∀ k, k < 17 → parseFieldDescriptor (T_Mo k).2.2.1 = some (t_Mo k) := by decide +kernel
abbrev cls : List vw_C := [("WeightOrder$Table", T_Ta, 3), ("WeightOrder$Line", T_Li, 3), ("WeightOrder$Lines", T_Ls, 4), ("WeightOrder$Row", T_Ro, 2), ("WeightOrder$Elements", T_El, 4), ("WeightOrder$Finder", T_Fi, 9), ("WeightOrder", T_Wo, 6), ("WeightOrderModel", T_Mo, 17)]
abbrev b_Wo_init : ByteArray := prog_1_method_1_code
abbrev y_Wo_init : MethodName := ⟨"WeightOrder", "<init>", "()V"⟩
abbrev b_Ta_init : ByteArray := prog_7_method_1_code
abbrev y_Ta_init : MethodName := ⟨"WeightOrder$Table", "<init>", "(I)V"⟩
abbrev b_Ls_init : ByteArray := prog_5_method_1_code
abbrev y_Ls_init : MethodName := ⟨"WeightOrder$Lines", "<init>", "()V"⟩
abbrev b_Ro_init : ByteArray := prog_6_method_1_code
abbrev y_Ro_init : MethodName := ⟨"WeightOrder$Row", "<init>", "()V"⟩
abbrev b_Fi_init : ByteArray := prog_3_method_1_code
abbrev y_Fi_init : MethodName := ⟨"WeightOrder$Finder", "<init>", "(LWeightOrder$Table;LWeightOrder$Lines;)V"⟩
abbrev b_El_init : ByteArray := prog_2_method_1_code
abbrev y_El_init : MethodName := ⟨"WeightOrder$Elements", "<init>", "()V"⟩
abbrev b_La_order : ByteArray := method_3_code
abbrev y_La_order : MethodName := ⟨"WeightOrderLaw", "order", "(LWeightOrder;II)I"⟩
abbrev b_Wo_order : ByteArray := prog_1_method_2_code
abbrev y_Wo_order : MethodName := ⟨"WeightOrder", "order", "(II)V"⟩
abbrev b_Wo_isWithin : ByteArray := prog_1_method_10_code
abbrev y_Wo_isWithin : MethodName := ⟨"WeightOrder", "isWithin", "(II)Z"⟩
abbrev b_Ta_put : ByteArray := prog_7_method_3_code
abbrev y_Ta_put : MethodName := ⟨"WeightOrder$Table", "put", "(JI)V"⟩
abbrev b_Ta_placeOf : ByteArray := prog_7_method_5_code
abbrev y_Ta_placeOf : MethodName := ⟨"WeightOrder$Table", "placeOf", "(J)I"⟩
abbrev b_Ta_insert : ByteArray := prog_7_method_4_code
abbrev y_Ta_insert : MethodName := ⟨"WeightOrder$Table", "insert", "(IJI)V"⟩
abbrev b_La_line : ByteArray := method_4_code
abbrev y_La_line : MethodName := ⟨"WeightOrderLaw", "line", "(LWeightOrder;IIII[J)I"⟩
abbrev b_Wo_line : ByteArray := prog_1_method_3_code
abbrev y_Wo_line : MethodName := ⟨"WeightOrder", "line", "(IIII)I"⟩
abbrev b_Wo_arePoints : ByteArray := prog_1_method_11_code
abbrev y_Wo_arePoints : MethodName := ⟨"WeightOrder", "arePoints", "(III)Z"⟩
abbrev b_Wo_keyOf : ByteArray := prog_1_method_12_code
abbrev y_Wo_keyOf : MethodName := ⟨"WeightOrder", "keyOf", "(IIII)J"⟩
abbrev b_Wo_longerKey : ByteArray := prog_1_method_13_code
abbrev y_Wo_longerKey : MethodName := ⟨"WeightOrder", "longerKey", "(JI)J"⟩
abbrev b_Ls_find : ByteArray := prog_5_method_3_code
abbrev y_Ls_find : MethodName := ⟨"WeightOrder$Lines", "find", "(J)LWeightOrder$Line;"⟩
abbrev b_Ta_valueOf : ByteArray := prog_7_method_2_code
abbrev y_Ta_valueOf : MethodName := ⟨"WeightOrder$Table", "valueOf", "(JI)I"⟩
abbrev b_Ls_isFull : ByteArray := prog_5_method_2_code
abbrev y_Ls_isFull : MethodName := ⟨"WeightOrder$Lines", "isFull", "()Z"⟩
abbrev b_Ls_tell : ByteArray := prog_5_method_4_code
abbrev y_Ls_tell : MethodName := ⟨"WeightOrder$Lines", "tell", "(J)V"⟩
abbrev b_Li_init : ByteArray := prog_4_method_1_code
abbrev y_Li_init : MethodName := ⟨"WeightOrder$Line", "<init>", "()V"⟩
abbrev b_La_element : ByteArray := method_5_code
abbrev y_La_element : MethodName := ⟨"WeightOrderLaw", "element", "(LWeightOrder;IIIZ[J)I"⟩
abbrev b_Wo_element : ByteArray := prog_1_method_4_code
abbrev y_Wo_element : MethodName := ⟨"WeightOrder", "element", "(IIIZ)I"⟩
abbrev b_Li_isFull : ByteArray := prog_4_method_2_code
abbrev y_Li_isFull : MethodName := ⟨"WeightOrder$Line", "isFull", "()Z"⟩
abbrev b_Wo_pack : ByteArray := prog_1_method_14_code
abbrev y_Wo_pack : MethodName := ⟨"WeightOrder", "pack", "(III)J"⟩
abbrev b_Li_append : ByteArray := prog_4_method_3_code
abbrev y_Li_append : MethodName := ⟨"WeightOrder$Line", "append", "(JZ)V"⟩
abbrev b_La_add : ByteArray := method_6_code
abbrev y_La_add : MethodName := ⟨"WeightOrderLaw", "add", "(LWeightOrder;II[J)I"⟩
abbrev b_Wo_add : ByteArray := prog_1_method_5_code
abbrev y_Wo_add : MethodName := ⟨"WeightOrder", "add", "(II)I"⟩
abbrev b_Ro_isFull : ByteArray := prog_6_method_2_code
abbrev y_Ro_isFull : MethodName := ⟨"WeightOrder$Row", "isFull", "()Z"⟩
abbrev b_Ro_append : ByteArray := prog_6_method_3_code
abbrev y_Ro_append : MethodName := ⟨"WeightOrder$Row", "append", "(I)V"⟩
abbrev b_La_clear : ByteArray := method_7_code
abbrev y_La_clear : MethodName := ⟨"WeightOrderLaw", "clear", "(LWeightOrder;I[J)I"⟩
abbrev b_Wo_clear : ByteArray := prog_1_method_6_code
abbrev y_Wo_clear : MethodName := ⟨"WeightOrder", "clear", "(I)I"⟩
abbrev b_La_count : ByteArray := method_8_code
abbrev y_La_count : MethodName := ⟨"WeightOrderLaw", "count", "(LWeightOrder;IZ[J)I"⟩
abbrev b_Wo_count : ByteArray := prog_1_method_7_code
abbrev y_Wo_count : MethodName := ⟨"WeightOrder", "count", "(IZ)I"⟩
abbrev b_Fi_findElements : ByteArray := prog_3_method_2_code
abbrev y_Fi_findElements : MethodName := ⟨"WeightOrder$Finder", "findElements", "(LWeightOrder$Row;ZLWeightOrder$Elements;)V"⟩
abbrev b_Fi_load : ByteArray := prog_3_method_3_code
abbrev y_Fi_load : MethodName := ⟨"WeightOrder$Finder", "load", "(LWeightOrder$Row;)V"⟩
abbrev b_El_begin : ByteArray := prog_2_method_2_code
abbrev y_El_begin : MethodName := ⟨"WeightOrder$Elements", "begin", "(Z)V"⟩
abbrev b_Fi_takeNext : ByteArray := prog_3_method_4_code
abbrev y_Fi_takeNext : MethodName := ⟨"WeightOrder$Finder", "takeNext", "(LWeightOrder$Elements;)V"⟩
abbrev b_Fi_seekBeginning : ByteArray := prog_3_method_5_code
abbrev y_Fi_seekBeginning : MethodName := ⟨"WeightOrder$Finder", "seekBeginning", "()V"⟩
abbrev b_Fi_become : ByteArray := prog_3_method_7_code
abbrev y_Fi_become : MethodName := ⟨"WeightOrder$Finder", "become", "(JILWeightOrder$Line;)V"⟩
abbrev b_El_appendImplicit : ByteArray := prog_2_method_5_code
abbrev y_El_appendImplicit : MethodName := ⟨"WeightOrder$Elements", "appendImplicit", "(I)V"⟩
abbrev b_El_append : ByteArray := prog_2_method_3_code
abbrev y_El_append : MethodName := ⟨"WeightOrder$Elements", "append", "(JZ)V"⟩
abbrev b_El_shift : ByteArray := prog_2_method_6_code
abbrev y_El_shift : MethodName := ⟨"WeightOrder$Elements", "shift", "(JZ)J"⟩
abbrev b_Wo_weightOf : ByteArray := prog_1_method_15_code
abbrev y_Wo_weightOf : MethodName := ⟨"WeightOrder", "weightOf", "(JI)I"⟩
abbrev b_Fi_seekBehind : ByteArray := prog_3_method_6_code
abbrev y_Fi_seekBehind : MethodName := ⟨"WeightOrder$Finder", "seekBehind", "()V"⟩
abbrev b_Ma_max : ByteArray := prog_14_method_65_code
abbrev y_Ma_max : MethodName := ⟨"java/lang/Math", "max", "(II)I"⟩
abbrev b_Fi_closeGap : ByteArray := prog_3_method_8_code
abbrev y_Fi_closeGap : MethodName := ⟨"WeightOrder$Finder", "closeGap", "(I)V"⟩
abbrev b_El_appendLine : ByteArray := prog_2_method_4_code
abbrev y_El_appendLine : MethodName := ⟨"WeightOrder$Elements", "appendLine", "(LWeightOrder$Line;)V"⟩
abbrev b_La_weight : ByteArray := method_9_code
abbrev y_La_weight : MethodName := ⟨"WeightOrderLaw", "weight", "(LWeightOrder;IZII[J)I"⟩
abbrev b_Wo_weight : ByteArray := prog_1_method_8_code
abbrev y_Wo_weight : MethodName := ⟨"WeightOrder", "weight", "(IZII)I"⟩
abbrev b_La_compare : ByteArray := method_10_code
abbrev y_La_compare : MethodName := ⟨"WeightOrderLaw", "compare", "(LWeightOrder;IIIZ[J)I"⟩
abbrev b_Wo_compare : ByteArray := prog_1_method_9_code
abbrev y_Wo_compare : MethodName := ⟨"WeightOrder", "compare", "(IIIZ)I"⟩
abbrev b_Wo_levelOrder : ByteArray := prog_1_method_16_code
abbrev y_Wo_levelOrder : MethodName := ⟨"WeightOrder", "levelOrder", "(LWeightOrder$Elements;LWeightOrder$Elements;I)I"⟩
abbrev b_El_nextWithWeight : ByteArray := prog_2_method_7_code
abbrev y_El_nextWithWeight : MethodName := ⟨"WeightOrder$Elements", "nextWithWeight", "(II)I"⟩
abbrev b_In_compare : ByteArray := prog_13_method_40_code
abbrev y_In_compare : MethodName := ⟨"java/lang/Integer", "compare", "(II)I"⟩
abbrev b_Mo_init : ByteArray := prog_9_method_1_code
abbrev y_Mo_init : MethodName := ⟨"WeightOrderModel", "<init>", "()V"⟩
abbrev b_Mo_thrown : ByteArray := prog_9_method_2_code
abbrev y_Mo_thrown : MethodName := ⟨"WeightOrderModel", "thrown", "()I"⟩
abbrev b_Mo_order : ByteArray := prog_9_method_5_code
abbrev y_Mo_order : MethodName := ⟨"WeightOrderModel", "order", "(II)V"⟩
abbrev b_Mo_out : ByteArray := prog_9_method_4_code
abbrev y_Mo_out : MethodName := ⟨"WeightOrderModel", "out", "(I)Z"⟩
abbrev b_Mo_line : ByteArray := prog_9_method_8_code
abbrev y_Mo_line : MethodName := ⟨"WeightOrderModel", "line", "(IIII)I"⟩
abbrev b_Mo_fail : ByteArray := prog_9_method_3_code
abbrev y_Mo_fail : MethodName := ⟨"WeightOrderModel", "fail", "(I)I"⟩
abbrev b_Mo_lineOf : ByteArray := prog_9_method_7_code
abbrev y_Mo_lineOf : MethodName := ⟨"WeightOrderModel", "lineOf", "(IIII)I"⟩
abbrev b_Mo_element : ByteArray := prog_9_method_9_code
abbrev y_Mo_element : MethodName := ⟨"WeightOrderModel", "element", "(IIIZ)I"⟩
abbrev b_Mo_add : ByteArray := prog_9_method_10_code
abbrev y_Mo_add : MethodName := ⟨"WeightOrderModel", "add", "(II)I"⟩
abbrev b_Mo_clear : ByteArray := prog_9_method_11_code
abbrev y_Mo_clear : MethodName := ⟨"WeightOrderModel", "clear", "(I)I"⟩
abbrev b_Mo_count : ByteArray := prog_9_method_15_code
abbrev y_Mo_count : MethodName := ⟨"WeightOrderModel", "count", "(IZ)I"⟩
abbrev b_Mo_take : ByteArray := prog_9_method_14_code
abbrev y_Mo_take : MethodName := ⟨"WeightOrderModel", "take", "(IZ)V"⟩
abbrev b_Mo_give : ByteArray := prog_9_method_13_code
abbrev y_Mo_give : MethodName := ⟨"WeightOrderModel", "give", "(IIII)V"⟩
abbrev b_Mo_drop : ByteArray := prog_9_method_12_code
abbrev y_Mo_drop : MethodName := ⟨"WeightOrderModel", "drop", "(II)V"⟩
abbrev b_Mo_classOf : ByteArray := prog_9_method_6_code
abbrev y_Mo_classOf : MethodName := ⟨"WeightOrderModel", "classOf", "(I)I"⟩
abbrev b_Mo_weight : ByteArray := prog_9_method_16_code
abbrev y_Mo_weight : MethodName := ⟨"WeightOrderModel", "weight", "(IZII)I"⟩
abbrev b_Mo_compare : ByteArray := prog_9_method_17_code
abbrev y_Mo_compare : MethodName := ⟨"WeightOrderModel", "compare", "(IIIZ)I"⟩
def gwords : List Cond := lw_tbl.filter goodWord
def nestWord : Cond → Bool
  | .fieldLinkNest .. => true
  | .methodLinkNest .. => true
  | .castable .. => true
  | .declares .. => true
  | .arrayOver (.object _) => true
  | .arrayOver (.array _) => true
  | _ => false
def nwords : List Cond := tables_1.filter nestWord
theorem gw_in1 {n : Nat} {w : Cond} (h : tables_1_1[n]? = some w) (g : goodWord w = true) : w ∈ gwords := List.mem_filter.mpr ⟨List.mem_append_right _ (show w ∈ tables_1_1 ++ (tables_1_2 ++ tables_1_3) from List.mem_append_left _ (List.mem_of_getElem? h)), g⟩
theorem nw_in1 {n : Nat} {w : Cond} (h : tables_1_1[n]? = some w) (g : nestWord w = true) : w ∈ nwords := List.mem_filter.mpr ⟨(show w ∈ tables_1_1 ++ (tables_1_2 ++ tables_1_3) from List.mem_append_left _ (List.mem_of_getElem? h)), g⟩
theorem gw_in2 {n : Nat} {w : Cond} (h : tables_1_2[n]? = some w) (g : goodWord w = true) : w ∈ gwords := List.mem_filter.mpr ⟨List.mem_append_right _ (show w ∈ tables_1_1 ++ (tables_1_2 ++ tables_1_3) from List.mem_append_right _ (List.mem_append_left _ (List.mem_of_getElem? h))), g⟩
theorem nw_in2 {n : Nat} {w : Cond} (h : tables_1_2[n]? = some w) (g : nestWord w = true) : w ∈ nwords := List.mem_filter.mpr ⟨(show w ∈ tables_1_1 ++ (tables_1_2 ++ tables_1_3) from List.mem_append_right _ (List.mem_append_left _ (List.mem_of_getElem? h))), g⟩
theorem gw_in3 {n : Nat} {w : Cond} (h : tables_1_3[n]? = some w) (g : goodWord w = true) : w ∈ gwords := List.mem_filter.mpr ⟨List.mem_append_right _ (show w ∈ tables_1_1 ++ (tables_1_2 ++ tables_1_3) from List.mem_append_right _ (List.mem_append_right _ (List.mem_of_getElem? h))), g⟩
theorem nw_in3 {n : Nat} {w : Cond} (h : tables_1_3[n]? = some w) (g : nestWord w = true) : w ∈ nwords := List.mem_filter.mpr ⟨(show w ∈ tables_1_1 ++ (tables_1_2 ++ tables_1_3) from List.mem_append_right _ (List.mem_append_right _ (List.mem_of_getElem? h))), g⟩
theorem gs_in {n : Nat} {w : Cond} (h : (k2_sels lw_privs)[n]? = some w) (g : goodWord w = true) : w ∈ gwords := List.mem_filter.mpr ⟨List.mem_append_left _ (List.mem_of_getElem? h), g⟩
theorem k_0 : (Jvm.Cond.initialized "WeightOrderLaw") ∈ gwords := gw_in1 (n := 0) rfl rfl
theorem k_1 : (Jvm.Cond.initialized "WeightOrder") ∈ gwords := gw_in1 (n := 1) rfl rfl
theorem k_2 : (Jvm.Cond.initialized "WeightOrder$Table") ∈ gwords := gw_in1 (n := 2) rfl rfl
theorem k_3 : (Jvm.Cond.initialized "WeightOrder$Lines") ∈ gwords := gw_in1 (n := 3) rfl rfl
theorem k_4 : (Jvm.Cond.initialized "WeightOrder$Row") ∈ gwords := gw_in1 (n := 4) rfl rfl
theorem k_5 : (Jvm.Cond.initialized "WeightOrder$Finder") ∈ gwords := gw_in1 (n := 5) rfl rfl
theorem k_6 : (Jvm.Cond.initialized "WeightOrder$Elements") ∈ gwords := gw_in1 (n := 6) rfl rfl
theorem k_7 : (Jvm.Cond.initialized "WeightOrderModel") ∈ gwords := gw_in1 (n := 7) rfl rfl
theorem k_8 : (Jvm.Cond.initialized "java/lang/Throwable") ∈ gwords := gw_in1 (n := 8) rfl rfl
theorem k_9 : (Jvm.Cond.initialized "java/lang/Exception") ∈ gwords := gw_in1 (n := 9) rfl rfl
theorem k_10 : (Jvm.Cond.initialized "java/lang/RuntimeException") ∈ gwords := gw_in1 (n := 10) rfl rfl
theorem k_11 : (Jvm.Cond.initialized "java/lang/IllegalArgumentException") ∈ gwords := gw_in1 (n := 11) rfl rfl
theorem k_12 : (Jvm.Cond.initialized "java/lang/System") ∈ gwords := gw_in1 (n := 12) rfl rfl
theorem k_13 : (Jvm.Cond.initialized "java/lang/IndexOutOfBoundsException") ∈ gwords := gw_in1 (n := 13) rfl rfl
theorem k_14 : (Jvm.Cond.initialized "WeightOrder$Line") ∈ gwords := gw_in1 (n := 14) rfl rfl
theorem k_15 : (Jvm.Cond.initialized "java/lang/Math") ∈ gwords := gw_in1 (n := 15) rfl rfl
theorem k_16 : (Jvm.Cond.initialized "java/lang/Integer") ∈ gwords := gw_in1 (n := 16) rfl rfl
theorem k_17 : (Jvm.Cond.classLink "WeightOrderLaw" (8 : Nat) "WeightOrder") ∈ gwords := gw_in1 (n := 17) rfl rfl
theorem k_18 : (Jvm.Cond.instantiable "WeightOrder" (6 : Nat)) ∈ gwords := gw_in1 (n := 18) rfl rfl
theorem k_19 : (Jvm.Cond.methodLink "WeightOrderLaw" (44 : Nat) ({ cls := "WeightOrder", name := "<init>", desc := "()V" } : Jvm.MethodName)) ∈ gwords := gw_in1 (n := 19) rfl rfl
theorem k_20 : (Jvm.Cond.instanceMethod ({ cls := "WeightOrder", name := "<init>", desc := "()V" } : Jvm.MethodName)) ∈ gwords := gw_in1 (n := 20) rfl rfl
theorem k_21 : (Jvm.Cond.code ({ cls := "WeightOrder", name := "<init>", desc := "()V" } : Jvm.MethodName) prog_1_method_1_code (1 : Nat) (Option.none : Option Jvm.ClassFile.FieldType)) ∈ gwords := gw_in1 (n := 21) rfl rfl
theorem k_22 : (Jvm.Cond.methodLink "WeightOrder" (3 : Nat) ({ cls := "java/lang/Object", name := "<init>", desc := "()V" } : Jvm.MethodName)) ∈ gwords := gw_in1 (n := 22) rfl rfl
theorem k_23 : (Jvm.Cond.instanceMethod ({ cls := "java/lang/Object", name := "<init>", desc := "()V" } : Jvm.MethodName)) ∈ gwords := gw_in1 (n := 23) rfl rfl
theorem k_24 : (Jvm.Cond.code ({ cls := "java/lang/Object", name := "<init>", desc := "()V" } : Jvm.MethodName) object_method_1_code (1 : Nat) (Option.none : Option Jvm.ClassFile.FieldType)) ∈ gwords := gw_in1 (n := 24) rfl rfl
theorem k_25 : (Jvm.Cond.classLink "WeightOrder" (9 : Nat) "WeightOrder$Table") ∈ gwords := gw_in1 (n := 25) rfl rfl
theorem k_26 : (Jvm.Cond.instantiable "WeightOrder$Table" (3 : Nat)) ∈ gwords := gw_in1 (n := 26) rfl rfl
theorem k_27 : (Jvm.Cond.methodLinkNest "WeightOrder" (11 : Nat) ({ cls := "WeightOrder$Table", name := "<init>", desc := "(I)V" } : Jvm.MethodName) "WeightOrder") ∈ nwords := nw_in1 (n := 27) rfl rfl
theorem k_28 : (Jvm.Cond.instanceMethod ({ cls := "WeightOrder$Table", name := "<init>", desc := "(I)V" } : Jvm.MethodName)) ∈ gwords := gw_in1 (n := 28) rfl rfl
theorem k_29 : (Jvm.Cond.code ({ cls := "WeightOrder$Table", name := "<init>", desc := "(I)V" } : Jvm.MethodName) prog_7_method_1_code (2 : Nat) (Option.none : Option Jvm.ClassFile.FieldType)) ∈ gwords := gw_in1 (n := 29) rfl rfl
theorem k_30 : (Jvm.Cond.methodLink "WeightOrder$Table" (1 : Nat) ({ cls := "java/lang/Object", name := "<init>", desc := "()V" } : Jvm.MethodName)) ∈ gwords := gw_in1 (n := 30) rfl rfl
theorem k_31 : (Jvm.Cond.fieldLink "WeightOrder$Table" (7 : Nat) "WeightOrder$Table" "keys" "[J") ∈ gwords := gw_in1 (n := 31) rfl rfl
theorem k_32 : (Jvm.Cond.fieldLink "WeightOrder$Table" (13 : Nat) "WeightOrder$Table" "values" "[I") ∈ gwords := gw_in1 (n := 32) rfl rfl
theorem k_33 : (Jvm.Cond.fieldLink "WeightOrder$Table" (21 : Nat) "WeightOrder$Table" "size" "I") ∈ gwords := gw_in1 (n := 33) rfl rfl
theorem k_34 : (Jvm.Cond.laysFinal "WeightOrder$Table" "WeightOrder$Table" "keys" "[J") ∈ gwords := gw_in1 (n := 34) rfl rfl
theorem k_35 : (Jvm.Cond.soleField "WeightOrder$Table" "keys") ∈ gwords := gw_in1 (n := 35) rfl rfl
theorem k_36 : (Jvm.Cond.laysFinal "WeightOrder$Table" "WeightOrder$Table" "values" "[I") ∈ gwords := gw_in1 (n := 36) rfl rfl
theorem k_37 : (Jvm.Cond.soleField "WeightOrder$Table" "values") ∈ gwords := gw_in1 (n := 37) rfl rfl
theorem k_38 : (Jvm.Cond.lays "WeightOrder$Table" "WeightOrder$Table" "size" "I") ∈ gwords := gw_in1 (n := 38) rfl rfl
theorem k_39 : (Jvm.Cond.soleField "WeightOrder$Table" "size") ∈ gwords := gw_in1 (n := 39) rfl rfl
theorem k_40 : (Jvm.Cond.superclass "WeightOrder$Table" "java/lang/Object") ∈ gwords := gw_in1 (n := 40) rfl rfl
theorem k_41 : (Jvm.Cond.arrayClass Jvm.ClassFile.FieldType.long) ∈ gwords := gw_in1 (n := 41) rfl rfl
theorem k_42 : (Jvm.Cond.arrayClass Jvm.ClassFile.FieldType.int) ∈ gwords := gw_in1 (n := 42) rfl rfl
theorem k_43 : (Jvm.Cond.classLink "WeightOrder" (18 : Nat) "WeightOrder$Lines") ∈ gwords := gw_in1 (n := 43) rfl rfl
theorem k_44 : (Jvm.Cond.instantiable "WeightOrder$Lines" (4 : Nat)) ∈ gwords := gw_in1 (n := 44) rfl rfl
theorem k_45 : (Jvm.Cond.methodLinkNest "WeightOrder" (20 : Nat) ({ cls := "WeightOrder$Lines", name := "<init>", desc := "()V" } : Jvm.MethodName) "WeightOrder") ∈ nwords := nw_in1 (n := 45) rfl rfl
theorem k_46 : (Jvm.Cond.instanceMethod ({ cls := "WeightOrder$Lines", name := "<init>", desc := "()V" } : Jvm.MethodName)) ∈ gwords := gw_in1 (n := 46) rfl rfl
theorem k_47 : (Jvm.Cond.code ({ cls := "WeightOrder$Lines", name := "<init>", desc := "()V" } : Jvm.MethodName) prog_5_method_1_code (1 : Nat) (Option.none : Option Jvm.ClassFile.FieldType)) ∈ gwords := gw_in1 (n := 47) rfl rfl
theorem k_48 : (Jvm.Cond.methodLink "WeightOrder$Lines" (3 : Nat) ({ cls := "java/lang/Object", name := "<init>", desc := "()V" } : Jvm.MethodName)) ∈ gwords := gw_in1 (n := 48) rfl rfl
theorem k_49 : (Jvm.Cond.classLink "WeightOrder$Lines" (9 : Nat) "WeightOrder$Table") ∈ gwords := gw_in1 (n := 49) rfl rfl
theorem k_50 : (Jvm.Cond.methodLinkNest "WeightOrder$Lines" (11 : Nat) ({ cls := "WeightOrder$Table", name := "<init>", desc := "(I)V" } : Jvm.MethodName) "WeightOrder") ∈ nwords := nw_in1 (n := 50) rfl rfl
theorem k_51 : (Jvm.Cond.classLink "WeightOrder$Lines" (20 : Nat) "WeightOrder$Line") ∈ gwords := gw_in1 (n := 51) rfl rfl
theorem k_52 : (Jvm.Cond.arrayOver (Jvm.ClassFile.FieldType.object "WeightOrder$Line")) ∈ nwords := nw_in1 (n := 52) rfl rfl
theorem k_53 : (Jvm.Cond.fieldLink "WeightOrder$Lines" (14 : Nat) "WeightOrder$Lines" "numbers" "LWeightOrder$Table;") ∈ gwords := gw_in1 (n := 53) rfl rfl
theorem k_54 : (Jvm.Cond.fieldLink "WeightOrder$Lines" (22 : Nat) "WeightOrder$Lines" "made" "[LWeightOrder$Line;") ∈ gwords := gw_in1 (n := 54) rfl rfl
theorem k_55 : (Jvm.Cond.fieldLink "WeightOrder$Lines" (26 : Nat) "WeightOrder$Lines" "size" "I") ∈ gwords := gw_in1 (n := 55) rfl rfl
theorem k_56 : (Jvm.Cond.fieldLinkNest "WeightOrder" (86 : Nat) "WeightOrder$Lines" "size" "I" "WeightOrder") ∈ nwords := nw_in1 (n := 56) rfl rfl
theorem k_57 : (Jvm.Cond.fieldLinkNest "WeightOrder" (91 : Nat) "WeightOrder$Lines" "toldLast" "LWeightOrder$Line;" "WeightOrder") ∈ nwords := nw_in1 (n := 57) rfl rfl
theorem k_58 : (Jvm.Cond.fieldLink "WeightOrder$Lines" (44 : Nat) "WeightOrder$Lines" "toldLast" "LWeightOrder$Line;") ∈ gwords := gw_in1 (n := 58) rfl rfl
theorem k_59 : (Jvm.Cond.laysFinal "WeightOrder$Lines" "WeightOrder$Lines" "numbers" "LWeightOrder$Table;") ∈ gwords := gw_in1 (n := 59) rfl rfl
theorem k_60 : (Jvm.Cond.soleField "WeightOrder$Lines" "numbers") ∈ gwords := gw_in1 (n := 60) rfl rfl
theorem k_61 : (Jvm.Cond.laysFinal "WeightOrder$Lines" "WeightOrder$Lines" "made" "[LWeightOrder$Line;") ∈ gwords := gw_in1 (n := 61) rfl rfl
theorem k_62 : (Jvm.Cond.soleField "WeightOrder$Lines" "made") ∈ gwords := gw_in1 (n := 62) rfl rfl
theorem k_63 : (Jvm.Cond.lays "WeightOrder$Lines" "WeightOrder$Lines" "size" "I") ∈ gwords := gw_in1 (n := 63) rfl rfl
theorem k_64 : (Jvm.Cond.soleField "WeightOrder$Lines" "size") ∈ gwords := gw_in1 (n := 64) rfl rfl
theorem k_65 : (Jvm.Cond.lays "WeightOrder$Lines" "WeightOrder$Lines" "toldLast" "LWeightOrder$Line;") ∈ gwords := gw_in1 (n := 65) rfl rfl
theorem k_66 : (Jvm.Cond.soleField "WeightOrder$Lines" "toldLast") ∈ gwords := gw_in1 (n := 66) rfl rfl
theorem k_67 : (Jvm.Cond.superclass "WeightOrder$Lines" "java/lang/Object") ∈ gwords := gw_in1 (n := 67) rfl rfl
theorem k_68 : (Jvm.Cond.classLink "WeightOrder" (25 : Nat) "WeightOrder$Row") ∈ gwords := gw_in1 (n := 68) rfl rfl
theorem k_69 : (Jvm.Cond.arrayOver (Jvm.ClassFile.FieldType.object "WeightOrder$Row")) ∈ nwords := nw_in1 (n := 69) rfl rfl
theorem k_70 : (Jvm.Cond.instantiable "WeightOrder$Row" (2 : Nat)) ∈ gwords := gw_in1 (n := 70) rfl rfl
theorem k_71 : (Jvm.Cond.methodLinkNest "WeightOrder" (27 : Nat) ({ cls := "WeightOrder$Row", name := "<init>", desc := "()V" } : Jvm.MethodName) "WeightOrder") ∈ nwords := nw_in1 (n := 71) rfl rfl
theorem k_72 : (Jvm.Cond.instanceMethod ({ cls := "WeightOrder$Row", name := "<init>", desc := "()V" } : Jvm.MethodName)) ∈ gwords := gw_in1 (n := 72) rfl rfl
theorem k_73 : (Jvm.Cond.code ({ cls := "WeightOrder$Row", name := "<init>", desc := "()V" } : Jvm.MethodName) prog_6_method_1_code (1 : Nat) (Option.none : Option Jvm.ClassFile.FieldType)) ∈ gwords := gw_in1 (n := 73) rfl rfl
theorem k_74 : (Jvm.Cond.methodLink "WeightOrder$Row" (3 : Nat) ({ cls := "java/lang/Object", name := "<init>", desc := "()V" } : Jvm.MethodName)) ∈ gwords := gw_in1 (n := 74) rfl rfl
theorem k_75 : (Jvm.Cond.fieldLink "WeightOrder$Row" (9 : Nat) "WeightOrder$Row" "points" "[I") ∈ gwords := gw_in1 (n := 75) rfl rfl
theorem k_76 : (Jvm.Cond.fieldLinkNest "WeightOrder$Finder" (52 : Nat) "WeightOrder$Row" "points" "[I" "WeightOrder") ∈ nwords := nw_in1 (n := 76) rfl rfl
theorem k_77 : (Jvm.Cond.fieldLink "WeightOrder$Row" (15 : Nat) "WeightOrder$Row" "size" "I") ∈ gwords := gw_in1 (n := 77) rfl rfl
theorem k_78 : (Jvm.Cond.fieldLinkNest "WeightOrder$Finder" (47 : Nat) "WeightOrder$Row" "size" "I" "WeightOrder") ∈ nwords := nw_in1 (n := 78) rfl rfl
theorem k_79 : (Jvm.Cond.fieldLinkNest "WeightOrder" (110 : Nat) "WeightOrder$Row" "size" "I" "WeightOrder") ∈ nwords := nw_in1 (n := 79) rfl rfl
theorem k_80 : (Jvm.Cond.laysFinal "WeightOrder$Row" "WeightOrder$Row" "points" "[I") ∈ gwords := gw_in1 (n := 80) rfl rfl
theorem k_81 : (Jvm.Cond.soleField "WeightOrder$Row" "points") ∈ gwords := gw_in1 (n := 81) rfl rfl
theorem k_82 : (Jvm.Cond.lays "WeightOrder$Row" "WeightOrder$Row" "size" "I") ∈ gwords := gw_in1 (n := 82) rfl rfl
theorem k_83 : (Jvm.Cond.soleField "WeightOrder$Row" "size") ∈ gwords := gw_in1 (n := 83) rfl rfl
theorem k_84 : (Jvm.Cond.superclass "WeightOrder$Row" "java/lang/Object") ∈ gwords := gw_in1 (n := 84) rfl rfl
theorem k_85 : (Jvm.Cond.classLink "WeightOrder" (32 : Nat) "WeightOrder$Finder") ∈ gwords := gw_in1 (n := 85) rfl rfl
theorem k_86 : (Jvm.Cond.instantiable "WeightOrder$Finder" (9 : Nat)) ∈ gwords := gw_in1 (n := 86) rfl rfl
theorem k_87 : (Jvm.Cond.methodLinkNest "WeightOrder" (34 : Nat) ({ cls := "WeightOrder$Finder", name := "<init>", desc := "(LWeightOrder$Table;LWeightOrder$Lines;)V" } : Jvm.MethodName) "WeightOrder") ∈ nwords := nw_in1 (n := 87) rfl rfl
theorem k_88 : (Jvm.Cond.instanceMethod ({ cls := "WeightOrder$Finder", name := "<init>", desc := "(LWeightOrder$Table;LWeightOrder$Lines;)V" } : Jvm.MethodName)) ∈ gwords := gw_in1 (n := 88) rfl rfl
theorem k_89 : (Jvm.Cond.code ({ cls := "WeightOrder$Finder", name := "<init>", desc := "(LWeightOrder$Table;LWeightOrder$Lines;)V" } : Jvm.MethodName) prog_3_method_1_code (3 : Nat) (Option.none : Option Jvm.ClassFile.FieldType)) ∈ gwords := gw_in1 (n := 89) rfl rfl
theorem k_90 : (Jvm.Cond.methodLink "WeightOrder$Finder" (3 : Nat) ({ cls := "java/lang/Object", name := "<init>", desc := "()V" } : Jvm.MethodName)) ∈ gwords := gw_in1 (n := 90) rfl rfl
theorem k_91 : (Jvm.Cond.fieldLink "WeightOrder$Finder" (18 : Nat) "WeightOrder$Finder" "classes" "LWeightOrder$Table;") ∈ gwords := gw_in1 (n := 91) rfl rfl
theorem k_92 : (Jvm.Cond.fieldLink "WeightOrder$Finder" (22 : Nat) "WeightOrder$Finder" "lines" "LWeightOrder$Lines;") ∈ gwords := gw_in1 (n := 92) rfl rfl
theorem k_93 : (Jvm.Cond.fieldLink "WeightOrder$Finder" (9 : Nat) "WeightOrder$Finder" "points" "[I") ∈ gwords := gw_in1 (n := 93) rfl rfl
theorem k_94 : (Jvm.Cond.fieldLink "WeightOrder$Finder" (15 : Nat) "WeightOrder$Finder" "pointClasses" "[I") ∈ gwords := gw_in1 (n := 94) rfl rfl
theorem k_95 : (Jvm.Cond.fieldLink "WeightOrder$Finder" (36 : Nat) "WeightOrder$Finder" "start" "I") ∈ gwords := gw_in1 (n := 95) rfl rfl
theorem k_96 : (Jvm.Cond.fieldLink "WeightOrder$Finder" (40 : Nat) "WeightOrder$Finder" "end" "I") ∈ gwords := gw_in1 (n := 96) rfl rfl
theorem k_97 : (Jvm.Cond.fieldLink "WeightOrder$Finder" (94 : Nat) "WeightOrder$Finder" "key" "J") ∈ gwords := gw_in1 (n := 97) rfl rfl
theorem k_98 : (Jvm.Cond.fieldLink "WeightOrder$Finder" (70 : Nat) "WeightOrder$Finder" "length" "I") ∈ gwords := gw_in1 (n := 98) rfl rfl
theorem k_99 : (Jvm.Cond.fieldLink "WeightOrder$Finder" (62 : Nat) "WeightOrder$Finder" "line" "LWeightOrder$Line;") ∈ gwords := gw_in1 (n := 99) rfl rfl
theorem k_100 : (Jvm.Cond.laysFinal "WeightOrder$Finder" "WeightOrder$Finder" "classes" "LWeightOrder$Table;") ∈ gwords := gw_in1 (n := 100) rfl rfl
theorem k_101 : (Jvm.Cond.soleField "WeightOrder$Finder" "classes") ∈ gwords := gw_in1 (n := 101) rfl rfl
theorem k_102 : (Jvm.Cond.laysFinal "WeightOrder$Finder" "WeightOrder$Finder" "lines" "LWeightOrder$Lines;") ∈ gwords := gw_in1 (n := 102) rfl rfl
theorem k_103 : (Jvm.Cond.soleField "WeightOrder$Finder" "lines") ∈ gwords := gw_in1 (n := 103) rfl rfl
theorem k_104 : (Jvm.Cond.laysFinal "WeightOrder$Finder" "WeightOrder$Finder" "points" "[I") ∈ gwords := gw_in1 (n := 104) rfl rfl
theorem k_105 : (Jvm.Cond.soleField "WeightOrder$Finder" "points") ∈ gwords := gw_in1 (n := 105) rfl rfl
theorem k_106 : (Jvm.Cond.laysFinal "WeightOrder$Finder" "WeightOrder$Finder" "pointClasses" "[I") ∈ gwords := gw_in1 (n := 106) rfl rfl
theorem k_107 : (Jvm.Cond.soleField "WeightOrder$Finder" "pointClasses") ∈ gwords := gw_in1 (n := 107) rfl rfl
theorem k_108 : (Jvm.Cond.lays "WeightOrder$Finder" "WeightOrder$Finder" "start" "I") ∈ gwords := gw_in1 (n := 108) rfl rfl
theorem k_109 : (Jvm.Cond.soleField "WeightOrder$Finder" "start") ∈ gwords := gw_in1 (n := 109) rfl rfl
theorem k_110 : (Jvm.Cond.lays "WeightOrder$Finder" "WeightOrder$Finder" "end" "I") ∈ gwords := gw_in1 (n := 110) rfl rfl
theorem k_111 : (Jvm.Cond.soleField "WeightOrder$Finder" "end") ∈ gwords := gw_in1 (n := 111) rfl rfl
theorem k_112 : (Jvm.Cond.lays "WeightOrder$Finder" "WeightOrder$Finder" "key" "J") ∈ gwords := gw_in1 (n := 112) rfl rfl
theorem k_113 : (Jvm.Cond.soleField "WeightOrder$Finder" "key") ∈ gwords := gw_in1 (n := 113) rfl rfl
theorem k_114 : (Jvm.Cond.lays "WeightOrder$Finder" "WeightOrder$Finder" "length" "I") ∈ gwords := gw_in1 (n := 114) rfl rfl
theorem k_115 : (Jvm.Cond.soleField "WeightOrder$Finder" "length") ∈ gwords := gw_in1 (n := 115) rfl rfl
theorem k_116 : (Jvm.Cond.lays "WeightOrder$Finder" "WeightOrder$Finder" "line" "LWeightOrder$Line;") ∈ gwords := gw_in1 (n := 116) rfl rfl
theorem k_117 : (Jvm.Cond.soleField "WeightOrder$Finder" "line") ∈ gwords := gw_in1 (n := 117) rfl rfl
theorem k_118 : (Jvm.Cond.superclass "WeightOrder$Finder" "java/lang/Object") ∈ gwords := gw_in1 (n := 118) rfl rfl
theorem k_119 : (Jvm.Cond.classLink "WeightOrder" (41 : Nat) "WeightOrder$Elements") ∈ gwords := gw_in1 (n := 119) rfl rfl
theorem k_120 : (Jvm.Cond.instantiable "WeightOrder$Elements" (4 : Nat)) ∈ gwords := gw_in1 (n := 120) rfl rfl
theorem k_121 : (Jvm.Cond.methodLinkNest "WeightOrder" (43 : Nat) ({ cls := "WeightOrder$Elements", name := "<init>", desc := "()V" } : Jvm.MethodName) "WeightOrder") ∈ nwords := nw_in1 (n := 121) rfl rfl
theorem k_122 : (Jvm.Cond.instanceMethod ({ cls := "WeightOrder$Elements", name := "<init>", desc := "()V" } : Jvm.MethodName)) ∈ gwords := gw_in1 (n := 122) rfl rfl
theorem k_123 : (Jvm.Cond.code ({ cls := "WeightOrder$Elements", name := "<init>", desc := "()V" } : Jvm.MethodName) prog_2_method_1_code (1 : Nat) (Option.none : Option Jvm.ClassFile.FieldType)) ∈ gwords := gw_in1 (n := 123) rfl rfl
theorem k_124 : (Jvm.Cond.methodLink "WeightOrder$Elements" (3 : Nat) ({ cls := "java/lang/Object", name := "<init>", desc := "()V" } : Jvm.MethodName)) ∈ gwords := gw_in1 (n := 124) rfl rfl
theorem k_125 : (Jvm.Cond.fieldLink "WeightOrder$Elements" (9 : Nat) "WeightOrder$Elements" "packed" "[J") ∈ gwords := gw_in1 (n := 125) rfl rfl
theorem k_126 : (Jvm.Cond.fieldLinkNest "WeightOrder" (116 : Nat) "WeightOrder$Elements" "packed" "[J" "WeightOrder") ∈ nwords := nw_in1 (n := 126) rfl rfl
theorem k_127 : (Jvm.Cond.fieldLink "WeightOrder$Elements" (15 : Nat) "WeightOrder$Elements" "size" "I") ∈ gwords := gw_in1 (n := 127) rfl rfl
theorem k_128 : (Jvm.Cond.fieldLinkNest "WeightOrder" (115 : Nat) "WeightOrder$Elements" "size" "I" "WeightOrder") ∈ nwords := nw_in1 (n := 128) rfl rfl
theorem k_129 : (Jvm.Cond.fieldLink "WeightOrder$Elements" (19 : Nat) "WeightOrder$Elements" "shifted" "Z") ∈ gwords := gw_in1 (n := 129) rfl rfl
theorem k_130 : (Jvm.Cond.fieldLink "WeightOrder$Elements" (23 : Nat) "WeightOrder$Elements" "behindVariable" "Z") ∈ gwords := gw_in1 (n := 130) rfl rfl
theorem k_131 : (Jvm.Cond.laysFinal "WeightOrder$Elements" "WeightOrder$Elements" "packed" "[J") ∈ gwords := gw_in1 (n := 131) rfl rfl
theorem k_132 : (Jvm.Cond.soleField "WeightOrder$Elements" "packed") ∈ gwords := gw_in1 (n := 132) rfl rfl
theorem k_133 : (Jvm.Cond.lays "WeightOrder$Elements" "WeightOrder$Elements" "size" "I") ∈ gwords := gw_in1 (n := 133) rfl rfl
theorem k_134 : (Jvm.Cond.soleField "WeightOrder$Elements" "size") ∈ gwords := gw_in1 (n := 134) rfl rfl
theorem k_135 : (Jvm.Cond.lays "WeightOrder$Elements" "WeightOrder$Elements" "shifted" "Z") ∈ gwords := gw_in1 (n := 135) rfl rfl
theorem k_136 : (Jvm.Cond.soleField "WeightOrder$Elements" "shifted") ∈ gwords := gw_in1 (n := 136) rfl rfl
theorem k_137 : (Jvm.Cond.lays "WeightOrder$Elements" "WeightOrder$Elements" "behindVariable" "Z") ∈ gwords := gw_in1 (n := 137) rfl rfl
theorem k_138 : (Jvm.Cond.soleField "WeightOrder$Elements" "behindVariable") ∈ gwords := gw_in1 (n := 138) rfl rfl
theorem k_139 : (Jvm.Cond.superclass "WeightOrder$Elements" "java/lang/Object") ∈ gwords := gw_in1 (n := 139) rfl rfl
theorem k_140 : (Jvm.Cond.fieldLink "WeightOrder" (14 : Nat) "WeightOrder" "classes" "LWeightOrder$Table;") ∈ gwords := gw_in1 (n := 140) rfl rfl
theorem k_141 : (Jvm.Cond.fieldLink "WeightOrder" (21 : Nat) "WeightOrder" "lines" "LWeightOrder$Lines;") ∈ gwords := gw_in1 (n := 141) rfl rfl
theorem k_142 : (Jvm.Cond.fieldLink "WeightOrder" (28 : Nat) "WeightOrder" "rows" "[LWeightOrder$Row;") ∈ gwords := gw_in1 (n := 142) rfl rfl
theorem k_143 : (Jvm.Cond.fieldLink "WeightOrder" (37 : Nat) "WeightOrder" "finder" "LWeightOrder$Finder;") ∈ gwords := gw_in1 (n := 143) rfl rfl
theorem k_144 : (Jvm.Cond.fieldLink "WeightOrder" (44 : Nat) "WeightOrder" "elements" "LWeightOrder$Elements;") ∈ gwords := gw_in1 (n := 144) rfl rfl
theorem k_145 : (Jvm.Cond.fieldLink "WeightOrder" (48 : Nat) "WeightOrder" "otherElements" "LWeightOrder$Elements;") ∈ gwords := gw_in1 (n := 145) rfl rfl
theorem k_146 : (Jvm.Cond.laysFinal "WeightOrder" "WeightOrder" "classes" "LWeightOrder$Table;") ∈ gwords := gw_in1 (n := 146) rfl rfl
theorem k_147 : (Jvm.Cond.soleField "WeightOrder" "classes") ∈ gwords := gw_in1 (n := 147) rfl rfl
theorem k_148 : (Jvm.Cond.laysFinal "WeightOrder" "WeightOrder" "lines" "LWeightOrder$Lines;") ∈ gwords := gw_in1 (n := 148) rfl rfl
theorem k_149 : (Jvm.Cond.soleField "WeightOrder" "lines") ∈ gwords := gw_in1 (n := 149) rfl rfl
theorem k_150 : (Jvm.Cond.laysFinal "WeightOrder" "WeightOrder" "rows" "[LWeightOrder$Row;") ∈ gwords := gw_in1 (n := 150) rfl rfl
theorem k_151 : (Jvm.Cond.soleField "WeightOrder" "rows") ∈ gwords := gw_in1 (n := 151) rfl rfl
theorem k_152 : (Jvm.Cond.laysFinal "WeightOrder" "WeightOrder" "finder" "LWeightOrder$Finder;") ∈ gwords := gw_in1 (n := 152) rfl rfl
theorem k_153 : (Jvm.Cond.soleField "WeightOrder" "finder") ∈ gwords := gw_in1 (n := 153) rfl rfl
theorem k_154 : (Jvm.Cond.laysFinal "WeightOrder" "WeightOrder" "elements" "LWeightOrder$Elements;") ∈ gwords := gw_in1 (n := 154) rfl rfl
theorem k_155 : (Jvm.Cond.soleField "WeightOrder" "elements") ∈ gwords := gw_in1 (n := 155) rfl rfl
theorem k_156 : (Jvm.Cond.laysFinal "WeightOrder" "WeightOrder" "otherElements" "LWeightOrder$Elements;") ∈ gwords := gw_in1 (n := 156) rfl rfl
theorem k_157 : (Jvm.Cond.soleField "WeightOrder" "otherElements") ∈ gwords := gw_in1 (n := 157) rfl rfl
theorem k_158 : (Jvm.Cond.superclass "WeightOrder" "java/lang/Object") ∈ gwords := gw_in1 (n := 158) rfl rfl
theorem k_159 : (Jvm.Cond.methodLink "WeightOrderLaw" (48 : Nat) ({ cls := "WeightOrderLaw", name := "order", desc := "(LWeightOrder;II)I" } : Jvm.MethodName)) ∈ gwords := gw_in1 (n := 159) rfl rfl
theorem k_160 : (Jvm.Cond.static ({ cls := "WeightOrderLaw", name := "order", desc := "(LWeightOrder;II)I" } : Jvm.MethodName)) ∈ gwords := gw_in1 (n := 160) rfl rfl
theorem k_161 : (Jvm.Cond.codeWith ({ cls := "WeightOrderLaw", name := "order", desc := "(LWeightOrder;II)I" } : Jvm.MethodName) method_3_code (4 : Nat) (Option.some Jvm.ClassFile.FieldType.int) [((0 : Nat), (6 : Nat), (9 : Nat), (13 : Nat))]) ∈ gwords := gw_in1 (n := 161) rfl rfl
theorem k_162 : (Jvm.Cond.classLink "WeightOrderLaw" (13 : Nat) "java/lang/IllegalArgumentException") ∈ gwords := gw_in1 (n := 162) rfl rfl
theorem k_163 : (Jvm.Cond.methodLink "WeightOrderLaw" (7 : Nat) ({ cls := "WeightOrder", name := "order", desc := "(II)V" } : Jvm.MethodName)) ∈ gwords := gw_in1 (n := 163) rfl rfl
theorem k_164 : (Jvm.Cond.instanceMethod ({ cls := "WeightOrder", name := "order", desc := "(II)V" } : Jvm.MethodName)) ∈ gwords := gw_in1 (n := 164) rfl rfl
theorem k_165 : (Jvm.Cond.selects "WeightOrder" ({ cls := "WeightOrder", name := "order", desc := "(II)V" } : Jvm.MethodName) ({ cls := "WeightOrder", name := "order", desc := "(II)V" } : Jvm.MethodName)) ∈ gwords := gw_in1 (n := 165) rfl rfl
theorem k_166 : (Jvm.Cond.code ({ cls := "WeightOrder", name := "order", desc := "(II)V" } : Jvm.MethodName) prog_1_method_2_code (3 : Nat) (Option.none : Option Jvm.ClassFile.FieldType)) ∈ gwords := gw_in1 (n := 166) rfl rfl
theorem k_167 : (Jvm.Cond.constant "WeightOrder" (51 : Nat) (1114111 : Int32)) ∈ gwords := gw_in1 (n := 167) rfl rfl
theorem k_168 : (Jvm.Cond.methodLink "WeightOrder" (52 : Nat) ({ cls := "WeightOrder", name := "isWithin", desc := "(II)Z" } : Jvm.MethodName)) ∈ gwords := gw_in1 (n := 168) rfl rfl
theorem k_169 : (Jvm.Cond.static ({ cls := "WeightOrder", name := "isWithin", desc := "(II)Z" } : Jvm.MethodName)) ∈ gwords := gw_in1 (n := 169) rfl rfl
theorem k_170 : (Jvm.Cond.code ({ cls := "WeightOrder", name := "isWithin", desc := "(II)Z" } : Jvm.MethodName) prog_1_method_10_code (2 : Nat) (Option.some Jvm.ClassFile.FieldType.boolean)) ∈ gwords := gw_in1 (n := 170) rfl rfl
theorem k_171 : (Jvm.Cond.classLink "WeightOrder" (56 : Nat) "java/lang/IllegalArgumentException") ∈ gwords := gw_in1 (n := 171) rfl rfl
theorem k_172 : (Jvm.Cond.instantiable "java/lang/IllegalArgumentException" (6 : Nat)) ∈ gwords := gw_in1 (n := 172) rfl rfl
theorem k_173 : (Jvm.Cond.castable "java/lang/IllegalArgumentException" "java/lang/IllegalArgumentException") ∈ nwords := nw_in1 (n := 173) rfl rfl
theorem k_174 : (Jvm.Cond.declares ({ cls := "java/lang/RuntimeException", name := "<init>", desc := "()V" } : Jvm.MethodName)) ∈ nwords := nw_in1 (n := 174) rfl rfl
theorem k_175 : (Jvm.Cond.declares ({ cls := "java/lang/RuntimeException", name := "<init>", desc := "(Ljava/lang/String;)V" } : Jvm.MethodName)) ∈ nwords := nw_in1 (n := 175) rfl rfl
theorem k_176 : (Jvm.Cond.declares ({ cls := "java/lang/Exception", name := "<init>", desc := "()V" } : Jvm.MethodName)) ∈ nwords := nw_in1 (n := 176) rfl rfl
theorem k_177 : (Jvm.Cond.declares ({ cls := "java/lang/Exception", name := "<init>", desc := "(Ljava/lang/String;)V" } : Jvm.MethodName)) ∈ nwords := nw_in1 (n := 177) rfl rfl
theorem k_178 : (Jvm.Cond.declares ({ cls := "java/lang/Throwable", name := "<init>", desc := "()V" } : Jvm.MethodName)) ∈ nwords := nw_in1 (n := 178) rfl rfl
theorem k_179 : (Jvm.Cond.declares ({ cls := "java/lang/Throwable", name := "<init>", desc := "(Ljava/lang/String;)V" } : Jvm.MethodName)) ∈ nwords := nw_in1 (n := 179) rfl rfl
theorem k_180 : (Jvm.Cond.selects "java/lang/IllegalArgumentException" ({ cls := "java/lang/Throwable", name := "fillInStackTrace", desc := "(I)Ljava/lang/Throwable;" } : Jvm.MethodName) ({ cls := "java/lang/Throwable", name := "fillInStackTrace", desc := "(I)Ljava/lang/Throwable;" } : Jvm.MethodName)) ∈ gwords := gw_in1 (n := 180) rfl rfl
theorem k_181 : (Jvm.Cond.selects "java/lang/IllegalArgumentException" ({ cls := "java/lang/Throwable", name := "fillInStackTrace", desc := "()Ljava/lang/Throwable;" } : Jvm.MethodName) ({ cls := "java/lang/Throwable", name := "fillInStackTrace", desc := "()Ljava/lang/Throwable;" } : Jvm.MethodName)) ∈ gwords := gw_in1 (n := 181) rfl rfl
theorem k_182 : (Jvm.Cond.lays "java/lang/IllegalArgumentException" "java/lang/Throwable" "cause" "Ljava/lang/Throwable;") ∈ gwords := gw_in1 (n := 182) rfl rfl
theorem k_183 : (Jvm.Cond.lays "java/lang/Throwable" "java/lang/Throwable" "cause" "Ljava/lang/Throwable;") ∈ gwords := gw_in1 (n := 183) rfl rfl
theorem k_184 : (Jvm.Cond.lays "java/lang/IllegalArgumentException" "java/lang/Throwable" "stackTrace" "[Ljava/lang/StackTraceElement;") ∈ gwords := gw_in1 (n := 184) rfl rfl
theorem k_185 : (Jvm.Cond.lays "java/lang/Throwable" "java/lang/Throwable" "stackTrace" "[Ljava/lang/StackTraceElement;") ∈ gwords := gw_in1 (n := 185) rfl rfl
theorem k_186 : (Jvm.Cond.lays "java/lang/IllegalArgumentException" "java/lang/Throwable" "suppressedExceptions" "Ljava/util/List;") ∈ gwords := gw_in1 (n := 186) rfl rfl
theorem k_187 : (Jvm.Cond.lays "java/lang/Throwable" "java/lang/Throwable" "suppressedExceptions" "Ljava/util/List;") ∈ gwords := gw_in1 (n := 187) rfl rfl
theorem k_188 : (Jvm.Cond.lays "java/lang/IllegalArgumentException" "java/lang/Throwable" "detailMessage" "Ljava/lang/String;") ∈ gwords := gw_in1 (n := 188) rfl rfl
theorem k_189 : (Jvm.Cond.lays "java/lang/Throwable" "java/lang/Throwable" "detailMessage" "Ljava/lang/String;") ∈ gwords := gw_in1 (n := 189) rfl rfl
theorem k_190 : (Jvm.Cond.lays "java/lang/IllegalArgumentException" "java/lang/Throwable" "backtrace" "Ljava/lang/Object;") ∈ gwords := gw_in1 (n := 190) rfl rfl
theorem k_191 : (Jvm.Cond.lays "java/lang/Throwable" "java/lang/Throwable" "backtrace" "Ljava/lang/Object;") ∈ gwords := gw_in1 (n := 191) rfl rfl
theorem k_192 : (Jvm.Cond.fieldLink "java/lang/Throwable" (198 : Nat) "java/lang/Throwable" "backtrace" "Ljava/lang/Object;") ∈ gwords := gw_in1 (n := 192) rfl rfl
theorem k_193 : (Jvm.Cond.superclass "java/lang/Throwable" "java/lang/Object") ∈ gwords := gw_in1 (n := 193) rfl rfl
theorem k_194 : (Jvm.Cond.instanceMethod ({ cls := "java/lang/Throwable", name := "<init>", desc := "()V" } : Jvm.MethodName)) ∈ gwords := gw_in1 (n := 194) rfl rfl
theorem k_195 : (Jvm.Cond.code ({ cls := "java/lang/Throwable", name := "<init>", desc := "()V" } : Jvm.MethodName) prog_17_method_1_code (1 : Nat) (Option.none : Option Jvm.ClassFile.FieldType)) ∈ gwords := gw_in1 (n := 195) rfl rfl
theorem k_196 : (Jvm.Cond.methodLink "java/lang/Throwable" (1 : Nat) ({ cls := "java/lang/Object", name := "<init>", desc := "()V" } : Jvm.MethodName)) ∈ gwords := gw_in1 (n := 196) rfl rfl
theorem k_197 : (Jvm.Cond.fieldLink "java/lang/Throwable" (13 : Nat) "java/lang/Throwable" "UNASSIGNED_STACK" "[Ljava/lang/StackTraceElement;") ∈ gwords := gw_in1 (n := 197) rfl rfl
theorem k_199 : (Jvm.Cond.fieldLink "java/lang/Throwable" (20 : Nat) "java/lang/Throwable" "SUPPRESSED_SENTINEL" "Ljava/util/List;") ∈ gwords := gw_in1 (n := 199) rfl rfl
theorem k_201 : (Jvm.Cond.methodLink "java/lang/Throwable" (27 : Nat) ({ cls := "java/lang/Throwable", name := "fillInStackTrace", desc := "()Ljava/lang/Throwable;" } : Jvm.MethodName)) ∈ gwords := gw_in1 (n := 201) rfl rfl
theorem k_202 : (Jvm.Cond.instanceMethod ({ cls := "java/lang/Throwable", name := "fillInStackTrace", desc := "()Ljava/lang/Throwable;" } : Jvm.MethodName)) ∈ gwords := gw_in1 (n := 202) rfl rfl
theorem k_203 : (Jvm.Cond.sameMethod "java/lang/Throwable" "java/lang/Throwable" "fillInStackTrace" "()Ljava/lang/Throwable;") ∈ gwords := gw_in1 (n := 203) rfl rfl
theorem k_204 : (Jvm.Cond.selects "java/lang/IndexOutOfBoundsException" ({ cls := "java/lang/Throwable", name := "fillInStackTrace", desc := "()Ljava/lang/Throwable;" } : Jvm.MethodName) ({ cls := "java/lang/Throwable", name := "fillInStackTrace", desc := "()Ljava/lang/Throwable;" } : Jvm.MethodName)) ∈ gwords := gw_in1 (n := 204) rfl rfl
theorem k_205 : (Jvm.Cond.codeSync ({ cls := "java/lang/Throwable", name := "fillInStackTrace", desc := "()Ljava/lang/Throwable;" } : Jvm.MethodName) prog_17_method_18_code (1 : Nat) (Option.some (Jvm.ClassFile.FieldType.object "java/lang/Throwable"))) ∈ gwords := gw_in1 (n := 205) rfl rfl
theorem k_206 : (Jvm.Cond.methodLink "java/lang/Throwable" (202 : Nat) ({ cls := "java/lang/Throwable", name := "fillInStackTrace", desc := "(I)Ljava/lang/Throwable;" } : Jvm.MethodName)) ∈ gwords := gw_in1 (n := 206) rfl rfl
theorem k_208 : (Jvm.Cond.instanceMethod ({ cls := "java/lang/Throwable", name := "fillInStackTrace", desc := "(I)Ljava/lang/Throwable;" } : Jvm.MethodName)) ∈ gwords := gw_in1 (n := 208) rfl rfl
theorem k_209 : (Jvm.Cond.instantiable "java/lang/Throwable" (6 : Nat)) ∈ gwords := gw_in1 (n := 209) rfl rfl
theorem k_210 : (Jvm.Cond.native ({ cls := "java/lang/Throwable", name := "fillInStackTrace", desc := "(I)Ljava/lang/Throwable;" } : Jvm.MethodName)) ∈ gwords := gw_in1 (n := 210) rfl rfl
theorem k_211 : (Jvm.Cond.methodLink "WeightOrder" (58 : Nat) ({ cls := "java/lang/IllegalArgumentException", name := "<init>", desc := "()V" } : Jvm.MethodName)) ∈ gwords := gw_in1 (n := 211) rfl rfl
theorem k_212 : (Jvm.Cond.instanceMethod ({ cls := "java/lang/IllegalArgumentException", name := "<init>", desc := "()V" } : Jvm.MethodName)) ∈ gwords := gw_in1 (n := 212) rfl rfl
theorem k_213 : (Jvm.Cond.code ({ cls := "java/lang/IllegalArgumentException", name := "<init>", desc := "()V" } : Jvm.MethodName) prog_11_method_1_code (1 : Nat) (Option.none : Option Jvm.ClassFile.FieldType)) ∈ gwords := gw_in1 (n := 213) rfl rfl
theorem k_214 : (Jvm.Cond.methodLink "java/lang/IllegalArgumentException" (1 : Nat) ({ cls := "java/lang/RuntimeException", name := "<init>", desc := "()V" } : Jvm.MethodName)) ∈ gwords := gw_in1 (n := 214) rfl rfl
theorem k_215 : (Jvm.Cond.instanceMethod ({ cls := "java/lang/RuntimeException", name := "<init>", desc := "()V" } : Jvm.MethodName)) ∈ gwords := gw_in1 (n := 215) rfl rfl
theorem k_216 : (Jvm.Cond.code ({ cls := "java/lang/RuntimeException", name := "<init>", desc := "()V" } : Jvm.MethodName) prog_15_method_1_code (1 : Nat) (Option.none : Option Jvm.ClassFile.FieldType)) ∈ gwords := gw_in1 (n := 216) rfl rfl
theorem k_217 : (Jvm.Cond.methodLink "java/lang/RuntimeException" (1 : Nat) ({ cls := "java/lang/Exception", name := "<init>", desc := "()V" } : Jvm.MethodName)) ∈ gwords := gw_in1 (n := 217) rfl rfl
theorem k_218 : (Jvm.Cond.instanceMethod ({ cls := "java/lang/Exception", name := "<init>", desc := "()V" } : Jvm.MethodName)) ∈ gwords := gw_in1 (n := 218) rfl rfl
theorem k_219 : (Jvm.Cond.code ({ cls := "java/lang/Exception", name := "<init>", desc := "()V" } : Jvm.MethodName) prog_10_method_1_code (1 : Nat) (Option.none : Option Jvm.ClassFile.FieldType)) ∈ gwords := gw_in1 (n := 219) rfl rfl
theorem k_220 : (Jvm.Cond.methodLink "java/lang/Exception" (1 : Nat) ({ cls := "java/lang/Throwable", name := "<init>", desc := "()V" } : Jvm.MethodName)) ∈ gwords := gw_in1 (n := 220) rfl rfl
theorem k_221 : (Jvm.Cond.fieldLink "java/lang/Throwable" (198 : Nat) "java/lang/Throwable" "backtrace" "Ljava/lang/Object;") ∈ gwords := gw_in1 (n := 221) rfl rfl
theorem k_222 : (Jvm.Cond.fieldLink "java/lang/Throwable" (7 : Nat) "java/lang/Throwable" "cause" "Ljava/lang/Throwable;") ∈ gwords := gw_in1 (n := 222) rfl rfl
theorem k_223 : (Jvm.Cond.fieldLink "java/lang/Throwable" (17 : Nat) "java/lang/Throwable" "stackTrace" "[Ljava/lang/StackTraceElement;") ∈ gwords := gw_in1 (n := 223) rfl rfl
theorem k_224 : (Jvm.Cond.fieldLink "java/lang/Throwable" (24 : Nat) "java/lang/Throwable" "suppressedExceptions" "Ljava/util/List;") ∈ gwords := gw_in1 (n := 224) rfl rfl
theorem k_225 : (Jvm.Cond.soleField "java/lang/Throwable" "backtrace") ∈ gwords := gw_in1 (n := 225) rfl rfl
theorem k_226 : (Jvm.Cond.soleField "java/lang/Throwable" "detailMessage") ∈ gwords := gw_in1 (n := 226) rfl rfl
theorem k_227 : (Jvm.Cond.soleField "java/lang/Throwable" "cause") ∈ gwords := gw_in1 (n := 227) rfl rfl
theorem k_228 : (Jvm.Cond.soleField "java/lang/Throwable" "stackTrace") ∈ gwords := gw_in1 (n := 228) rfl rfl
theorem k_229 : (Jvm.Cond.lays "java/lang/IllegalArgumentException" "java/lang/Throwable" "depth" "I") ∈ gwords := gw_in1 (n := 229) rfl rfl
theorem k_230 : (Jvm.Cond.soleField "java/lang/Throwable" "depth") ∈ gwords := gw_in1 (n := 230) rfl rfl
theorem k_231 : (Jvm.Cond.soleField "java/lang/Throwable" "suppressedExceptions") ∈ gwords := gw_in1 (n := 231) rfl rfl
theorem k_232 : (Jvm.Cond.superclass "java/lang/IllegalArgumentException" "java/lang/RuntimeException") ∈ gwords := gw_in1 (n := 232) rfl rfl
theorem k_233 : (Jvm.Cond.methodLinkNest "WeightOrder" (59 : Nat) ({ cls := "WeightOrder$Table", name := "put", desc := "(JI)V" } : Jvm.MethodName) "WeightOrder") ∈ nwords := nw_in1 (n := 233) rfl rfl
theorem k_235 : (Jvm.Cond.instanceMethod ({ cls := "WeightOrder$Table", name := "put", desc := "(JI)V" } : Jvm.MethodName)) ∈ gwords := gw_in1 (n := 235) rfl rfl
theorem k_236 : (Jvm.Cond.code ({ cls := "WeightOrder$Table", name := "put", desc := "(JI)V" } : Jvm.MethodName) prog_7_method_3_code (5 : Nat) (Option.none : Option Jvm.ClassFile.FieldType)) ∈ gwords := gw_in1 (n := 236) rfl rfl
theorem k_237 : (Jvm.Cond.methodLink "WeightOrder$Table" (17 : Nat) ({ cls := "WeightOrder$Table", name := "placeOf", desc := "(J)I" } : Jvm.MethodName)) ∈ gwords := gw_in1 (n := 237) rfl rfl
theorem k_239 : (Jvm.Cond.instanceMethod ({ cls := "WeightOrder$Table", name := "placeOf", desc := "(J)I" } : Jvm.MethodName)) ∈ gwords := gw_in1 (n := 239) rfl rfl
theorem k_240 : (Jvm.Cond.code ({ cls := "WeightOrder$Table", name := "placeOf", desc := "(J)I" } : Jvm.MethodName) prog_7_method_5_code (6 : Nat) (Option.some Jvm.ClassFile.FieldType.int)) ∈ gwords := gw_in2 (n := 0) rfl rfl
theorem k_241 : (Jvm.Cond.methodLink "WeightOrder$Table" (25 : Nat) ({ cls := "WeightOrder$Table", name := "insert", desc := "(IJI)V" } : Jvm.MethodName)) ∈ gwords := gw_in2 (n := 1) rfl rfl
theorem k_243 : (Jvm.Cond.instanceMethod ({ cls := "WeightOrder$Table", name := "insert", desc := "(IJI)V" } : Jvm.MethodName)) ∈ gwords := gw_in2 (n := 3) rfl rfl
theorem k_244 : (Jvm.Cond.code ({ cls := "WeightOrder$Table", name := "insert", desc := "(IJI)V" } : Jvm.MethodName) prog_7_method_4_code (5 : Nat) (Option.none : Option Jvm.ClassFile.FieldType)) ∈ gwords := gw_in2 (n := 4) rfl rfl
theorem k_245 : (Jvm.Cond.methodLink "WeightOrder$Table" (29 : Nat) ({ cls := "java/lang/System", name := "arraycopy", desc := "(Ljava/lang/Object;ILjava/lang/Object;II)V" } : Jvm.MethodName)) ∈ gwords := gw_in2 (n := 5) rfl rfl
theorem k_246 : (Jvm.Cond.static ({ cls := "java/lang/System", name := "arraycopy", desc := "(Ljava/lang/Object;ILjava/lang/Object;II)V" } : Jvm.MethodName)) ∈ gwords := gw_in2 (n := 6) rfl rfl
theorem k_247 : (Jvm.Cond.native ({ cls := "java/lang/System", name := "arraycopy", desc := "(Ljava/lang/Object;ILjava/lang/Object;II)V" } : Jvm.MethodName)) ∈ gwords := gw_in2 (n := 7) rfl rfl
theorem k_248 : (Jvm.Cond.methodLink "WeightOrderLaw" (58 : Nat) ({ cls := "WeightOrderLaw", name := "line", desc := "(LWeightOrder;IIII[J)I" } : Jvm.MethodName)) ∈ gwords := gw_in2 (n := 8) rfl rfl
theorem k_249 : (Jvm.Cond.static ({ cls := "WeightOrderLaw", name := "line", desc := "(LWeightOrder;IIII[J)I" } : Jvm.MethodName)) ∈ gwords := gw_in2 (n := 9) rfl rfl
theorem k_250 : (Jvm.Cond.codeWith ({ cls := "WeightOrderLaw", name := "line", desc := "(LWeightOrder;IIII[J)I" } : Jvm.MethodName) method_4_code (7 : Nat) (Option.some Jvm.ClassFile.FieldType.int) [((0 : Nat), (14 : Nat), (17 : Nat), (13 : Nat)), ((0 : Nat), (14 : Nat), (21 : Nat), (19 : Nat))]) ∈ gwords := gw_in2 (n := 10) rfl rfl
theorem k_251 : (Jvm.Cond.classLink "WeightOrderLaw" (19 : Nat) "java/lang/IndexOutOfBoundsException") ∈ gwords := gw_in2 (n := 11) rfl rfl
theorem k_252 : (Jvm.Cond.methodLink "WeightOrderLaw" (15 : Nat) ({ cls := "WeightOrder", name := "line", desc := "(IIII)I" } : Jvm.MethodName)) ∈ gwords := gw_in2 (n := 12) rfl rfl
theorem k_253 : (Jvm.Cond.instanceMethod ({ cls := "WeightOrder", name := "line", desc := "(IIII)I" } : Jvm.MethodName)) ∈ gwords := gw_in2 (n := 13) rfl rfl
theorem k_254 : (Jvm.Cond.selects "WeightOrder" ({ cls := "WeightOrder", name := "line", desc := "(IIII)I" } : Jvm.MethodName) ({ cls := "WeightOrder", name := "line", desc := "(IIII)I" } : Jvm.MethodName)) ∈ gwords := gw_in2 (n := 14) rfl rfl
theorem k_255 : (Jvm.Cond.code ({ cls := "WeightOrder", name := "line", desc := "(IIII)I" } : Jvm.MethodName) prog_1_method_3_code (7 : Nat) (Option.some Jvm.ClassFile.FieldType.int)) ∈ gwords := gw_in2 (n := 15) rfl rfl
theorem k_256 : (Jvm.Cond.methodLink "WeightOrder" (63 : Nat) ({ cls := "WeightOrder", name := "arePoints", desc := "(III)Z" } : Jvm.MethodName)) ∈ gwords := gw_in2 (n := 16) rfl rfl
theorem k_257 : (Jvm.Cond.static ({ cls := "WeightOrder", name := "arePoints", desc := "(III)Z" } : Jvm.MethodName)) ∈ gwords := gw_in2 (n := 17) rfl rfl
theorem k_258 : (Jvm.Cond.code ({ cls := "WeightOrder", name := "arePoints", desc := "(III)Z" } : Jvm.MethodName) prog_1_method_11_code (3 : Nat) (Option.some Jvm.ClassFile.FieldType.boolean)) ∈ gwords := gw_in2 (n := 18) rfl rfl
theorem k_259 : (Jvm.Cond.methodLink "WeightOrder" (67 : Nat) ({ cls := "WeightOrder", name := "keyOf", desc := "(IIII)J" } : Jvm.MethodName)) ∈ gwords := gw_in2 (n := 19) rfl rfl
theorem k_260 : (Jvm.Cond.static ({ cls := "WeightOrder", name := "keyOf", desc := "(IIII)J" } : Jvm.MethodName)) ∈ gwords := gw_in2 (n := 20) rfl rfl
theorem k_261 : (Jvm.Cond.code ({ cls := "WeightOrder", name := "keyOf", desc := "(IIII)J" } : Jvm.MethodName) prog_1_method_12_code (6 : Nat) (Option.some Jvm.ClassFile.FieldType.long)) ∈ gwords := gw_in2 (n := 21) rfl rfl
theorem k_262 : (Jvm.Cond.methodLink "WeightOrder" (128 : Nat) ({ cls := "WeightOrder", name := "longerKey", desc := "(JI)J" } : Jvm.MethodName)) ∈ gwords := gw_in2 (n := 22) rfl rfl
theorem k_263 : (Jvm.Cond.static ({ cls := "WeightOrder", name := "longerKey", desc := "(JI)J" } : Jvm.MethodName)) ∈ gwords := gw_in2 (n := 23) rfl rfl
theorem k_264 : (Jvm.Cond.code ({ cls := "WeightOrder", name := "longerKey", desc := "(JI)J" } : Jvm.MethodName) prog_1_method_13_code (3 : Nat) (Option.some Jvm.ClassFile.FieldType.long)) ∈ gwords := gw_in2 (n := 24) rfl rfl
theorem k_265 : (Jvm.Cond.methodLinkNest "WeightOrder" (71 : Nat) ({ cls := "WeightOrder$Lines", name := "find", desc := "(J)LWeightOrder$Line;" } : Jvm.MethodName) "WeightOrder") ∈ nwords := nw_in2 (n := 25) rfl rfl
theorem k_267 : (Jvm.Cond.instanceMethod ({ cls := "WeightOrder$Lines", name := "find", desc := "(J)LWeightOrder$Line;" } : Jvm.MethodName)) ∈ gwords := gw_in2 (n := 27) rfl rfl
theorem k_268 : (Jvm.Cond.code ({ cls := "WeightOrder$Lines", name := "find", desc := "(J)LWeightOrder$Line;" } : Jvm.MethodName) prog_5_method_3_code (4 : Nat) (Option.some (Jvm.ClassFile.FieldType.object "WeightOrder$Line"))) ∈ gwords := gw_in2 (n := 28) rfl rfl
theorem k_269 : (Jvm.Cond.methodLinkNest "WeightOrder$Lines" (30 : Nat) ({ cls := "WeightOrder$Table", name := "valueOf", desc := "(JI)I" } : Jvm.MethodName) "WeightOrder") ∈ nwords := nw_in2 (n := 29) rfl rfl
theorem k_271 : (Jvm.Cond.instanceMethod ({ cls := "WeightOrder$Table", name := "valueOf", desc := "(JI)I" } : Jvm.MethodName)) ∈ gwords := gw_in2 (n := 31) rfl rfl
theorem k_272 : (Jvm.Cond.code ({ cls := "WeightOrder$Table", name := "valueOf", desc := "(JI)I" } : Jvm.MethodName) prog_7_method_2_code (5 : Nat) (Option.some Jvm.ClassFile.FieldType.int)) ∈ gwords := gw_in2 (n := 32) rfl rfl
theorem k_273 : (Jvm.Cond.methodLinkNest "WeightOrder" (75 : Nat) ({ cls := "WeightOrder$Lines", name := "isFull", desc := "()Z" } : Jvm.MethodName) "WeightOrder") ∈ nwords := nw_in2 (n := 33) rfl rfl
theorem k_275 : (Jvm.Cond.instanceMethod ({ cls := "WeightOrder$Lines", name := "isFull", desc := "()Z" } : Jvm.MethodName)) ∈ gwords := gw_in2 (n := 35) rfl rfl
theorem k_276 : (Jvm.Cond.code ({ cls := "WeightOrder$Lines", name := "isFull", desc := "()Z" } : Jvm.MethodName) prog_5_method_2_code (1 : Nat) (Option.some Jvm.ClassFile.FieldType.boolean)) ∈ gwords := gw_in2 (n := 36) rfl rfl
theorem k_277 : (Jvm.Cond.classLink "WeightOrder" (79 : Nat) "java/lang/IndexOutOfBoundsException") ∈ gwords := gw_in2 (n := 37) rfl rfl
theorem k_278 : (Jvm.Cond.instantiable "java/lang/IndexOutOfBoundsException" (6 : Nat)) ∈ gwords := gw_in2 (n := 38) rfl rfl
theorem k_279 : (Jvm.Cond.castable "java/lang/IndexOutOfBoundsException" "java/lang/IndexOutOfBoundsException") ∈ nwords := nw_in2 (n := 39) rfl rfl
theorem k_280 : (Jvm.Cond.selects "java/lang/IndexOutOfBoundsException" ({ cls := "java/lang/Throwable", name := "fillInStackTrace", desc := "(I)Ljava/lang/Throwable;" } : Jvm.MethodName) ({ cls := "java/lang/Throwable", name := "fillInStackTrace", desc := "(I)Ljava/lang/Throwable;" } : Jvm.MethodName)) ∈ gwords := gw_in2 (n := 40) rfl rfl
theorem k_281 : (Jvm.Cond.lays "java/lang/IndexOutOfBoundsException" "java/lang/Throwable" "cause" "Ljava/lang/Throwable;") ∈ gwords := gw_in2 (n := 41) rfl rfl
theorem k_282 : (Jvm.Cond.lays "java/lang/IndexOutOfBoundsException" "java/lang/Throwable" "stackTrace" "[Ljava/lang/StackTraceElement;") ∈ gwords := gw_in2 (n := 42) rfl rfl
theorem k_283 : (Jvm.Cond.lays "java/lang/IndexOutOfBoundsException" "java/lang/Throwable" "suppressedExceptions" "Ljava/util/List;") ∈ gwords := gw_in2 (n := 43) rfl rfl
theorem k_284 : (Jvm.Cond.lays "java/lang/IndexOutOfBoundsException" "java/lang/Throwable" "detailMessage" "Ljava/lang/String;") ∈ gwords := gw_in2 (n := 44) rfl rfl
theorem k_285 : (Jvm.Cond.lays "java/lang/IndexOutOfBoundsException" "java/lang/Throwable" "backtrace" "Ljava/lang/Object;") ∈ gwords := gw_in2 (n := 45) rfl rfl
theorem k_286 : (Jvm.Cond.methodLink "WeightOrder" (81 : Nat) ({ cls := "java/lang/IndexOutOfBoundsException", name := "<init>", desc := "()V" } : Jvm.MethodName)) ∈ gwords := gw_in2 (n := 46) rfl rfl
theorem k_287 : (Jvm.Cond.instanceMethod ({ cls := "java/lang/IndexOutOfBoundsException", name := "<init>", desc := "()V" } : Jvm.MethodName)) ∈ gwords := gw_in2 (n := 47) rfl rfl
theorem k_288 : (Jvm.Cond.code ({ cls := "java/lang/IndexOutOfBoundsException", name := "<init>", desc := "()V" } : Jvm.MethodName) prog_12_method_1_code (1 : Nat) (Option.none : Option Jvm.ClassFile.FieldType)) ∈ gwords := gw_in2 (n := 48) rfl rfl
theorem k_289 : (Jvm.Cond.methodLink "java/lang/IndexOutOfBoundsException" (1 : Nat) ({ cls := "java/lang/RuntimeException", name := "<init>", desc := "()V" } : Jvm.MethodName)) ∈ gwords := gw_in2 (n := 49) rfl rfl
theorem k_290 : (Jvm.Cond.lays "java/lang/IndexOutOfBoundsException" "java/lang/Throwable" "depth" "I") ∈ gwords := gw_in2 (n := 50) rfl rfl
theorem k_291 : (Jvm.Cond.superclass "java/lang/IndexOutOfBoundsException" "java/lang/RuntimeException") ∈ gwords := gw_in2 (n := 51) rfl rfl
theorem k_292 : (Jvm.Cond.methodLinkNest "WeightOrder" (82 : Nat) ({ cls := "WeightOrder$Lines", name := "tell", desc := "(J)V" } : Jvm.MethodName) "WeightOrder") ∈ nwords := nw_in2 (n := 52) rfl rfl
theorem k_294 : (Jvm.Cond.instanceMethod ({ cls := "WeightOrder$Lines", name := "tell", desc := "(J)V" } : Jvm.MethodName)) ∈ gwords := gw_in2 (n := 54) rfl rfl
theorem k_295 : (Jvm.Cond.code ({ cls := "WeightOrder$Lines", name := "tell", desc := "(J)V" } : Jvm.MethodName) prog_5_method_4_code (4 : Nat) (Option.none : Option Jvm.ClassFile.FieldType)) ∈ gwords := gw_in2 (n := 55) rfl rfl
theorem k_296 : (Jvm.Cond.methodLink "WeightOrder$Lines" (34 : Nat) ({ cls := "WeightOrder$Lines", name := "find", desc := "(J)LWeightOrder$Line;" } : Jvm.MethodName)) ∈ gwords := gw_in2 (n := 56) rfl rfl
theorem k_297 : (Jvm.Cond.instantiable "WeightOrder$Line" (3 : Nat)) ∈ gwords := gw_in2 (n := 57) rfl rfl
theorem k_298 : (Jvm.Cond.methodLinkNest "WeightOrder$Lines" (38 : Nat) ({ cls := "WeightOrder$Line", name := "<init>", desc := "()V" } : Jvm.MethodName) "WeightOrder") ∈ nwords := nw_in2 (n := 58) rfl rfl
theorem k_299 : (Jvm.Cond.instanceMethod ({ cls := "WeightOrder$Line", name := "<init>", desc := "()V" } : Jvm.MethodName)) ∈ gwords := gw_in2 (n := 59) rfl rfl
theorem k_300 : (Jvm.Cond.code ({ cls := "WeightOrder$Line", name := "<init>", desc := "()V" } : Jvm.MethodName) prog_4_method_1_code (1 : Nat) (Option.none : Option Jvm.ClassFile.FieldType)) ∈ gwords := gw_in2 (n := 60) rfl rfl
theorem k_301 : (Jvm.Cond.methodLink "WeightOrder$Line" (3 : Nat) ({ cls := "java/lang/Object", name := "<init>", desc := "()V" } : Jvm.MethodName)) ∈ gwords := gw_in2 (n := 61) rfl rfl
theorem k_302 : (Jvm.Cond.fieldLink "WeightOrder$Line" (9 : Nat) "WeightOrder$Line" "packed" "[J") ∈ gwords := gw_in2 (n := 62) rfl rfl
theorem k_303 : (Jvm.Cond.fieldLinkNest "WeightOrder$Elements" (33 : Nat) "WeightOrder$Line" "packed" "[J" "WeightOrder") ∈ nwords := nw_in2 (n := 63) rfl rfl
theorem k_304 : (Jvm.Cond.fieldLink "WeightOrder$Line" (15 : Nat) "WeightOrder$Line" "variable" "[Z") ∈ gwords := gw_in2 (n := 64) rfl rfl
theorem k_305 : (Jvm.Cond.fieldLinkNest "WeightOrder$Elements" (34 : Nat) "WeightOrder$Line" "variable" "[Z" "WeightOrder") ∈ nwords := nw_in2 (n := 65) rfl rfl
theorem k_306 : (Jvm.Cond.fieldLink "WeightOrder$Line" (19 : Nat) "WeightOrder$Line" "size" "I") ∈ gwords := gw_in2 (n := 66) rfl rfl
theorem k_307 : (Jvm.Cond.fieldLinkNest "WeightOrder$Elements" (30 : Nat) "WeightOrder$Line" "size" "I" "WeightOrder") ∈ nwords := nw_in2 (n := 67) rfl rfl
theorem k_308 : (Jvm.Cond.fieldLinkNest "WeightOrder$Lines" (43 : Nat) "WeightOrder$Line" "size" "I" "WeightOrder") ∈ nwords := nw_in2 (n := 68) rfl rfl
theorem k_309 : (Jvm.Cond.fieldLinkNest "WeightOrder" (106 : Nat) "WeightOrder$Line" "size" "I" "WeightOrder") ∈ nwords := nw_in2 (n := 69) rfl rfl
theorem k_310 : (Jvm.Cond.laysFinal "WeightOrder$Line" "WeightOrder$Line" "packed" "[J") ∈ gwords := gw_in2 (n := 70) rfl rfl
theorem k_311 : (Jvm.Cond.soleField "WeightOrder$Line" "packed") ∈ gwords := gw_in2 (n := 71) rfl rfl
theorem k_312 : (Jvm.Cond.laysFinal "WeightOrder$Line" "WeightOrder$Line" "variable" "[Z") ∈ gwords := gw_in2 (n := 72) rfl rfl
theorem k_313 : (Jvm.Cond.soleField "WeightOrder$Line" "variable") ∈ gwords := gw_in2 (n := 73) rfl rfl
theorem k_314 : (Jvm.Cond.lays "WeightOrder$Line" "WeightOrder$Line" "size" "I") ∈ gwords := gw_in2 (n := 74) rfl rfl
theorem k_315 : (Jvm.Cond.soleField "WeightOrder$Line" "size") ∈ gwords := gw_in2 (n := 75) rfl rfl
theorem k_316 : (Jvm.Cond.superclass "WeightOrder$Line" "java/lang/Object") ∈ gwords := gw_in2 (n := 76) rfl rfl
theorem k_317 : (Jvm.Cond.arrayClass Jvm.ClassFile.FieldType.boolean) ∈ gwords := gw_in2 (n := 77) rfl rfl
theorem k_318 : (Jvm.Cond.methodLinkNest "WeightOrder$Lines" (39 : Nat) ({ cls := "WeightOrder$Table", name := "put", desc := "(JI)V" } : Jvm.MethodName) "WeightOrder") ∈ nwords := nw_in2 (n := 78) rfl rfl
theorem k_319 : (Jvm.Cond.methodLink "WeightOrderLaw" (62 : Nat) ({ cls := "WeightOrderLaw", name := "element", desc := "(LWeightOrder;IIIZ[J)I" } : Jvm.MethodName)) ∈ gwords := gw_in2 (n := 79) rfl rfl
theorem k_320 : (Jvm.Cond.static ({ cls := "WeightOrderLaw", name := "element", desc := "(LWeightOrder;IIIZ[J)I" } : Jvm.MethodName)) ∈ gwords := gw_in2 (n := 80) rfl rfl
theorem k_321 : (Jvm.Cond.codeWith ({ cls := "WeightOrderLaw", name := "element", desc := "(LWeightOrder;IIIZ[J)I" } : Jvm.MethodName) method_5_code (7 : Nat) (Option.some Jvm.ClassFile.FieldType.int) [((0 : Nat), (14 : Nat), (17 : Nat), (13 : Nat)), ((0 : Nat), (14 : Nat), (21 : Nat), (19 : Nat))]) ∈ gwords := gw_in2 (n := 81) rfl rfl
theorem k_322 : (Jvm.Cond.methodLink "WeightOrderLaw" (21 : Nat) ({ cls := "WeightOrder", name := "element", desc := "(IIIZ)I" } : Jvm.MethodName)) ∈ gwords := gw_in2 (n := 82) rfl rfl
theorem k_323 : (Jvm.Cond.instanceMethod ({ cls := "WeightOrder", name := "element", desc := "(IIIZ)I" } : Jvm.MethodName)) ∈ gwords := gw_in2 (n := 83) rfl rfl
theorem k_324 : (Jvm.Cond.selects "WeightOrder" ({ cls := "WeightOrder", name := "element", desc := "(IIIZ)I" } : Jvm.MethodName) ({ cls := "WeightOrder", name := "element", desc := "(IIIZ)I" } : Jvm.MethodName)) ∈ gwords := gw_in2 (n := 84) rfl rfl
theorem k_325 : (Jvm.Cond.code ({ cls := "WeightOrder", name := "element", desc := "(IIIZ)I" } : Jvm.MethodName) prog_1_method_4_code (6 : Nat) (Option.some Jvm.ClassFile.FieldType.int)) ∈ gwords := gw_in2 (n := 85) rfl rfl
theorem k_326 : (Jvm.Cond.constant "WeightOrder" (90 : Nat) (65535 : Int32)) ∈ gwords := gw_in2 (n := 86) rfl rfl
theorem k_327 : (Jvm.Cond.methodLinkNest "WeightOrder" (95 : Nat) ({ cls := "WeightOrder$Line", name := "isFull", desc := "()Z" } : Jvm.MethodName) "WeightOrder") ∈ nwords := nw_in2 (n := 87) rfl rfl
theorem k_329 : (Jvm.Cond.instanceMethod ({ cls := "WeightOrder$Line", name := "isFull", desc := "()Z" } : Jvm.MethodName)) ∈ gwords := gw_in2 (n := 89) rfl rfl
theorem k_330 : (Jvm.Cond.code ({ cls := "WeightOrder$Line", name := "isFull", desc := "()Z" } : Jvm.MethodName) prog_4_method_2_code (1 : Nat) (Option.some Jvm.ClassFile.FieldType.boolean)) ∈ gwords := gw_in2 (n := 90) rfl rfl
theorem k_331 : (Jvm.Cond.methodLink "WeightOrder" (98 : Nat) ({ cls := "WeightOrder", name := "pack", desc := "(III)J" } : Jvm.MethodName)) ∈ gwords := gw_in2 (n := 91) rfl rfl
theorem k_332 : (Jvm.Cond.static ({ cls := "WeightOrder", name := "pack", desc := "(III)J" } : Jvm.MethodName)) ∈ gwords := gw_in2 (n := 92) rfl rfl
theorem k_333 : (Jvm.Cond.code ({ cls := "WeightOrder", name := "pack", desc := "(III)J" } : Jvm.MethodName) prog_1_method_14_code (3 : Nat) (Option.some Jvm.ClassFile.FieldType.long)) ∈ gwords := gw_in2 (n := 93) rfl rfl
theorem k_334 : (Jvm.Cond.methodLinkNest "WeightOrder" (102 : Nat) ({ cls := "WeightOrder$Line", name := "append", desc := "(JZ)V" } : Jvm.MethodName) "WeightOrder") ∈ nwords := nw_in2 (n := 94) rfl rfl
theorem k_336 : (Jvm.Cond.instanceMethod ({ cls := "WeightOrder$Line", name := "append", desc := "(JZ)V" } : Jvm.MethodName)) ∈ gwords := gw_in2 (n := 96) rfl rfl
theorem k_337 : (Jvm.Cond.code ({ cls := "WeightOrder$Line", name := "append", desc := "(JZ)V" } : Jvm.MethodName) prog_4_method_3_code (4 : Nat) (Option.none : Option Jvm.ClassFile.FieldType)) ∈ gwords := gw_in2 (n := 97) rfl rfl
theorem k_338 : (Jvm.Cond.methodLink "WeightOrderLaw" (66 : Nat) ({ cls := "WeightOrderLaw", name := "add", desc := "(LWeightOrder;II[J)I" } : Jvm.MethodName)) ∈ gwords := gw_in2 (n := 98) rfl rfl
theorem k_339 : (Jvm.Cond.static ({ cls := "WeightOrderLaw", name := "add", desc := "(LWeightOrder;II[J)I" } : Jvm.MethodName)) ∈ gwords := gw_in2 (n := 99) rfl rfl
theorem k_340 : (Jvm.Cond.codeWith ({ cls := "WeightOrderLaw", name := "add", desc := "(LWeightOrder;II[J)I" } : Jvm.MethodName) method_6_code (5 : Nat) (Option.some Jvm.ClassFile.FieldType.int) [((0 : Nat), (10 : Nat), (13 : Nat), (13 : Nat)), ((0 : Nat), (10 : Nat), (17 : Nat), (19 : Nat))]) ∈ gwords := gw_in2 (n := 100) rfl rfl
theorem k_341 : (Jvm.Cond.methodLink "WeightOrderLaw" (25 : Nat) ({ cls := "WeightOrder", name := "add", desc := "(II)I" } : Jvm.MethodName)) ∈ gwords := gw_in2 (n := 101) rfl rfl
theorem k_342 : (Jvm.Cond.instanceMethod ({ cls := "WeightOrder", name := "add", desc := "(II)I" } : Jvm.MethodName)) ∈ gwords := gw_in2 (n := 102) rfl rfl
theorem k_343 : (Jvm.Cond.selects "WeightOrder" ({ cls := "WeightOrder", name := "add", desc := "(II)I" } : Jvm.MethodName) ({ cls := "WeightOrder", name := "add", desc := "(II)I" } : Jvm.MethodName)) ∈ gwords := gw_in2 (n := 103) rfl rfl
theorem k_344 : (Jvm.Cond.code ({ cls := "WeightOrder", name := "add", desc := "(II)I" } : Jvm.MethodName) prog_1_method_5_code (3 : Nat) (Option.some Jvm.ClassFile.FieldType.int)) ∈ gwords := gw_in2 (n := 104) rfl rfl
theorem k_345 : (Jvm.Cond.methodLinkNest "WeightOrder" (107 : Nat) ({ cls := "WeightOrder$Row", name := "isFull", desc := "()Z" } : Jvm.MethodName) "WeightOrder") ∈ nwords := nw_in2 (n := 105) rfl rfl
theorem k_347 : (Jvm.Cond.instanceMethod ({ cls := "WeightOrder$Row", name := "isFull", desc := "()Z" } : Jvm.MethodName)) ∈ gwords := gw_in2 (n := 107) rfl rfl
theorem k_348 : (Jvm.Cond.code ({ cls := "WeightOrder$Row", name := "isFull", desc := "()Z" } : Jvm.MethodName) prog_6_method_2_code (1 : Nat) (Option.some Jvm.ClassFile.FieldType.boolean)) ∈ gwords := gw_in2 (n := 108) rfl rfl
theorem k_349 : (Jvm.Cond.methodLinkNest "WeightOrder" (108 : Nat) ({ cls := "WeightOrder$Row", name := "append", desc := "(I)V" } : Jvm.MethodName) "WeightOrder") ∈ nwords := nw_in2 (n := 109) rfl rfl
theorem k_351 : (Jvm.Cond.instanceMethod ({ cls := "WeightOrder$Row", name := "append", desc := "(I)V" } : Jvm.MethodName)) ∈ gwords := gw_in2 (n := 111) rfl rfl
theorem k_352 : (Jvm.Cond.code ({ cls := "WeightOrder$Row", name := "append", desc := "(I)V" } : Jvm.MethodName) prog_6_method_3_code (2 : Nat) (Option.none : Option Jvm.ClassFile.FieldType)) ∈ gwords := gw_in2 (n := 112) rfl rfl
theorem k_353 : (Jvm.Cond.methodLink "WeightOrderLaw" (70 : Nat) ({ cls := "WeightOrderLaw", name := "clear", desc := "(LWeightOrder;I[J)I" } : Jvm.MethodName)) ∈ gwords := gw_in2 (n := 113) rfl rfl
theorem k_354 : (Jvm.Cond.static ({ cls := "WeightOrderLaw", name := "clear", desc := "(LWeightOrder;I[J)I" } : Jvm.MethodName)) ∈ gwords := gw_in2 (n := 114) rfl rfl
theorem k_355 : (Jvm.Cond.codeWith ({ cls := "WeightOrderLaw", name := "clear", desc := "(LWeightOrder;I[J)I" } : Jvm.MethodName) method_7_code (4 : Nat) (Option.some Jvm.ClassFile.FieldType.int) [((0 : Nat), (9 : Nat), (12 : Nat), (13 : Nat))]) ∈ gwords := gw_in2 (n := 115) rfl rfl
theorem k_356 : (Jvm.Cond.methodLink "WeightOrderLaw" (29 : Nat) ({ cls := "WeightOrder", name := "clear", desc := "(I)I" } : Jvm.MethodName)) ∈ gwords := gw_in2 (n := 116) rfl rfl
theorem k_357 : (Jvm.Cond.instanceMethod ({ cls := "WeightOrder", name := "clear", desc := "(I)I" } : Jvm.MethodName)) ∈ gwords := gw_in2 (n := 117) rfl rfl
theorem k_358 : (Jvm.Cond.selects "WeightOrder" ({ cls := "WeightOrder", name := "clear", desc := "(I)I" } : Jvm.MethodName) ({ cls := "WeightOrder", name := "clear", desc := "(I)I" } : Jvm.MethodName)) ∈ gwords := gw_in2 (n := 118) rfl rfl
theorem k_359 : (Jvm.Cond.code ({ cls := "WeightOrder", name := "clear", desc := "(I)I" } : Jvm.MethodName) prog_1_method_6_code (3 : Nat) (Option.some Jvm.ClassFile.FieldType.int)) ∈ gwords := gw_in2 (n := 119) rfl rfl
theorem k_360 : (Jvm.Cond.methodLink "WeightOrderLaw" (74 : Nat) ({ cls := "WeightOrderLaw", name := "count", desc := "(LWeightOrder;IZ[J)I" } : Jvm.MethodName)) ∈ gwords := gw_in2 (n := 120) rfl rfl
theorem k_361 : (Jvm.Cond.static ({ cls := "WeightOrderLaw", name := "count", desc := "(LWeightOrder;IZ[J)I" } : Jvm.MethodName)) ∈ gwords := gw_in2 (n := 121) rfl rfl
theorem k_362 : (Jvm.Cond.codeWith ({ cls := "WeightOrderLaw", name := "count", desc := "(LWeightOrder;IZ[J)I" } : Jvm.MethodName) method_8_code (5 : Nat) (Option.some Jvm.ClassFile.FieldType.int) [((0 : Nat), (10 : Nat), (13 : Nat), (13 : Nat))]) ∈ gwords := gw_in2 (n := 122) rfl rfl
theorem k_363 : (Jvm.Cond.methodLink "WeightOrderLaw" (33 : Nat) ({ cls := "WeightOrder", name := "count", desc := "(IZ)I" } : Jvm.MethodName)) ∈ gwords := gw_in2 (n := 123) rfl rfl
theorem k_364 : (Jvm.Cond.instanceMethod ({ cls := "WeightOrder", name := "count", desc := "(IZ)I" } : Jvm.MethodName)) ∈ gwords := gw_in2 (n := 124) rfl rfl
theorem k_365 : (Jvm.Cond.selects "WeightOrder" ({ cls := "WeightOrder", name := "count", desc := "(IZ)I" } : Jvm.MethodName) ({ cls := "WeightOrder", name := "count", desc := "(IZ)I" } : Jvm.MethodName)) ∈ gwords := gw_in2 (n := 125) rfl rfl
theorem k_366 : (Jvm.Cond.code ({ cls := "WeightOrder", name := "count", desc := "(IZ)I" } : Jvm.MethodName) prog_1_method_7_code (3 : Nat) (Option.some Jvm.ClassFile.FieldType.int)) ∈ gwords := gw_in2 (n := 126) rfl rfl
theorem k_367 : (Jvm.Cond.methodLinkNest "WeightOrder" (111 : Nat) ({ cls := "WeightOrder$Finder", name := "findElements", desc := "(LWeightOrder$Row;ZLWeightOrder$Elements;)V" } : Jvm.MethodName) "WeightOrder") ∈ nwords := nw_in2 (n := 127) rfl rfl
theorem k_369 : (Jvm.Cond.instanceMethod ({ cls := "WeightOrder$Finder", name := "findElements", desc := "(LWeightOrder$Row;ZLWeightOrder$Elements;)V" } : Jvm.MethodName)) ∈ gwords := gw_in2 (n := 129) rfl rfl
theorem k_370 : (Jvm.Cond.code ({ cls := "WeightOrder$Finder", name := "findElements", desc := "(LWeightOrder$Row;ZLWeightOrder$Elements;)V" } : Jvm.MethodName) prog_3_method_2_code (5 : Nat) (Option.none : Option Jvm.ClassFile.FieldType)) ∈ gwords := gw_in2 (n := 130) rfl rfl
theorem k_371 : (Jvm.Cond.methodLink "WeightOrder$Finder" (26 : Nat) ({ cls := "WeightOrder$Finder", name := "load", desc := "(LWeightOrder$Row;)V" } : Jvm.MethodName)) ∈ gwords := gw_in2 (n := 131) rfl rfl
theorem k_373 : (Jvm.Cond.instanceMethod ({ cls := "WeightOrder$Finder", name := "load", desc := "(LWeightOrder$Row;)V" } : Jvm.MethodName)) ∈ gwords := gw_in2 (n := 133) rfl rfl
theorem k_374 : (Jvm.Cond.code ({ cls := "WeightOrder$Finder", name := "load", desc := "(LWeightOrder$Row;)V" } : Jvm.MethodName) prog_3_method_3_code (3 : Nat) (Option.none : Option Jvm.ClassFile.FieldType)) ∈ gwords := gw_in2 (n := 134) rfl rfl
theorem k_375 : (Jvm.Cond.methodLinkNest "WeightOrder$Finder" (53 : Nat) ({ cls := "WeightOrder$Table", name := "valueOf", desc := "(JI)I" } : Jvm.MethodName) "WeightOrder") ∈ nwords := nw_in2 (n := 135) rfl rfl
theorem k_376 : (Jvm.Cond.methodLinkNest "WeightOrder$Finder" (30 : Nat) ({ cls := "WeightOrder$Elements", name := "begin", desc := "(Z)V" } : Jvm.MethodName) "WeightOrder") ∈ nwords := nw_in2 (n := 136) rfl rfl
theorem k_378 : (Jvm.Cond.instanceMethod ({ cls := "WeightOrder$Elements", name := "begin", desc := "(Z)V" } : Jvm.MethodName)) ∈ gwords := gw_in2 (n := 138) rfl rfl
theorem k_379 : (Jvm.Cond.code ({ cls := "WeightOrder$Elements", name := "begin", desc := "(Z)V" } : Jvm.MethodName) prog_2_method_2_code (2 : Nat) (Option.none : Option Jvm.ClassFile.FieldType)) ∈ gwords := gw_in2 (n := 139) rfl rfl
theorem k_380 : (Jvm.Cond.methodLink "WeightOrder$Finder" (43 : Nat) ({ cls := "WeightOrder$Finder", name := "takeNext", desc := "(LWeightOrder$Elements;)V" } : Jvm.MethodName)) ∈ gwords := gw_in2 (n := 140) rfl rfl
theorem k_382 : (Jvm.Cond.instanceMethod ({ cls := "WeightOrder$Finder", name := "takeNext", desc := "(LWeightOrder$Elements;)V" } : Jvm.MethodName)) ∈ gwords := gw_in2 (n := 142) rfl rfl
theorem k_383 : (Jvm.Cond.code ({ cls := "WeightOrder$Finder", name := "takeNext", desc := "(LWeightOrder$Elements;)V" } : Jvm.MethodName) prog_3_method_4_code (2 : Nat) (Option.none : Option Jvm.ClassFile.FieldType)) ∈ gwords := gw_in2 (n := 143) rfl rfl
theorem k_384 : (Jvm.Cond.methodLink "WeightOrder$Finder" (59 : Nat) ({ cls := "WeightOrder$Finder", name := "seekBeginning", desc := "()V" } : Jvm.MethodName)) ∈ gwords := gw_in2 (n := 144) rfl rfl
theorem k_386 : (Jvm.Cond.instanceMethod ({ cls := "WeightOrder$Finder", name := "seekBeginning", desc := "()V" } : Jvm.MethodName)) ∈ gwords := gw_in2 (n := 146) rfl rfl
theorem k_387 : (Jvm.Cond.code ({ cls := "WeightOrder$Finder", name := "seekBeginning", desc := "()V" } : Jvm.MethodName) prog_3_method_5_code (5 : Nat) (Option.none : Option Jvm.ClassFile.FieldType)) ∈ gwords := gw_in2 (n := 147) rfl rfl
theorem k_388 : (Jvm.Cond.methodLinkNest "WeightOrder$Finder" (80 : Nat) ({ cls := "WeightOrder", name := "longerKey", desc := "(JI)J" } : Jvm.MethodName) "WeightOrder") ∈ nwords := nw_in2 (n := 148) rfl rfl
theorem k_389 : (Jvm.Cond.methodLinkNest "WeightOrder$Finder" (84 : Nat) ({ cls := "WeightOrder$Lines", name := "find", desc := "(J)LWeightOrder$Line;" } : Jvm.MethodName) "WeightOrder") ∈ nwords := nw_in2 (n := 149) rfl rfl
theorem k_390 : (Jvm.Cond.methodLink "WeightOrder$Finder" (90 : Nat) ({ cls := "WeightOrder$Finder", name := "become", desc := "(JILWeightOrder$Line;)V" } : Jvm.MethodName)) ∈ gwords := gw_in2 (n := 150) rfl rfl
theorem k_392 : (Jvm.Cond.instanceMethod ({ cls := "WeightOrder$Finder", name := "become", desc := "(JILWeightOrder$Line;)V" } : Jvm.MethodName)) ∈ gwords := gw_in2 (n := 152) rfl rfl
theorem k_393 : (Jvm.Cond.code ({ cls := "WeightOrder$Finder", name := "become", desc := "(JILWeightOrder$Line;)V" } : Jvm.MethodName) prog_3_method_7_code (5 : Nat) (Option.none : Option Jvm.ClassFile.FieldType)) ∈ gwords := gw_in2 (n := 153) rfl rfl
theorem k_394 : (Jvm.Cond.methodLinkNest "WeightOrder$Finder" (66 : Nat) ({ cls := "WeightOrder$Elements", name := "appendImplicit", desc := "(I)V" } : Jvm.MethodName) "WeightOrder") ∈ nwords := nw_in2 (n := 154) rfl rfl
theorem k_396 : (Jvm.Cond.instanceMethod ({ cls := "WeightOrder$Elements", name := "appendImplicit", desc := "(I)V" } : Jvm.MethodName)) ∈ gwords := gw_in2 (n := 156) rfl rfl
theorem k_397 : (Jvm.Cond.code ({ cls := "WeightOrder$Elements", name := "appendImplicit", desc := "(I)V" } : Jvm.MethodName) prog_2_method_5_code (2 : Nat) (Option.none : Option Jvm.ClassFile.FieldType)) ∈ gwords := gw_in2 (n := 157) rfl rfl
theorem k_398 : (Jvm.Cond.constant "WeightOrder$Elements" (42 : Nat) (64448 : Int32)) ∈ gwords := gw_in2 (n := 158) rfl rfl
theorem k_399 : (Jvm.Cond.constant "WeightOrder$Elements" (43 : Nat) (32768 : Int32)) ∈ gwords := gw_in2 (n := 159) rfl rfl
theorem k_400 : (Jvm.Cond.methodLinkNest "WeightOrder$Elements" (44 : Nat) ({ cls := "WeightOrder", name := "pack", desc := "(III)J" } : Jvm.MethodName) "WeightOrder") ∈ nwords := nw_in2 (n := 160) rfl rfl
theorem k_401 : (Jvm.Cond.methodLink "WeightOrder$Elements" (38 : Nat) ({ cls := "WeightOrder$Elements", name := "append", desc := "(JZ)V" } : Jvm.MethodName)) ∈ gwords := gw_in2 (n := 161) rfl rfl
theorem k_403 : (Jvm.Cond.instanceMethod ({ cls := "WeightOrder$Elements", name := "append", desc := "(JZ)V" } : Jvm.MethodName)) ∈ gwords := gw_in2 (n := 163) rfl rfl
theorem k_404 : (Jvm.Cond.code ({ cls := "WeightOrder$Elements", name := "append", desc := "(JZ)V" } : Jvm.MethodName) prog_2_method_3_code (4 : Nat) (Option.none : Option Jvm.ClassFile.FieldType)) ∈ gwords := gw_in2 (n := 164) rfl rfl
theorem k_405 : (Jvm.Cond.methodLink "WeightOrder$Elements" (26 : Nat) ({ cls := "WeightOrder$Elements", name := "shift", desc := "(JZ)J" } : Jvm.MethodName)) ∈ gwords := gw_in2 (n := 165) rfl rfl
theorem k_407 : (Jvm.Cond.instanceMethod ({ cls := "WeightOrder$Elements", name := "shift", desc := "(JZ)J" } : Jvm.MethodName)) ∈ gwords := gw_in2 (n := 167) rfl rfl
theorem k_408 : (Jvm.Cond.code ({ cls := "WeightOrder$Elements", name := "shift", desc := "(JZ)J" } : Jvm.MethodName) prog_2_method_6_code (5 : Nat) (Option.some Jvm.ClassFile.FieldType.long)) ∈ gwords := gw_in2 (n := 168) rfl rfl
theorem k_409 : (Jvm.Cond.methodLinkNest "WeightOrder$Elements" (48 : Nat) ({ cls := "WeightOrder", name := "weightOf", desc := "(JI)I" } : Jvm.MethodName) "WeightOrder") ∈ nwords := nw_in2 (n := 169) rfl rfl
theorem k_410 : (Jvm.Cond.static ({ cls := "WeightOrder", name := "weightOf", desc := "(JI)I" } : Jvm.MethodName)) ∈ gwords := gw_in2 (n := 170) rfl rfl
theorem k_411 : (Jvm.Cond.code ({ cls := "WeightOrder", name := "weightOf", desc := "(JI)I" } : Jvm.MethodName) prog_1_method_15_code (3 : Nat) (Option.some Jvm.ClassFile.FieldType.int)) ∈ gwords := gw_in2 (n := 171) rfl rfl
theorem k_412 : (Jvm.Cond.constantLong "WeightOrder$Elements" (52 : Nat) (65535 : Int64)) ∈ gwords := gw_in2 (n := 172) rfl rfl
theorem k_413 : (Jvm.Cond.methodLink "WeightOrder$Finder" (73 : Nat) ({ cls := "WeightOrder$Finder", name := "seekBehind", desc := "()V" } : Jvm.MethodName)) ∈ gwords := gw_in2 (n := 173) rfl rfl
theorem k_415 : (Jvm.Cond.instanceMethod ({ cls := "WeightOrder$Finder", name := "seekBehind", desc := "()V" } : Jvm.MethodName)) ∈ gwords := gw_in2 (n := 175) rfl rfl
theorem k_416 : (Jvm.Cond.code ({ cls := "WeightOrder$Finder", name := "seekBehind", desc := "()V" } : Jvm.MethodName) prog_3_method_6_code (4 : Nat) (Option.none : Option Jvm.ClassFile.FieldType)) ∈ gwords := gw_in2 (n := 176) rfl rfl
theorem k_417 : (Jvm.Cond.methodLink "WeightOrder$Finder" (98 : Nat) ({ cls := "java/lang/Math", name := "max", desc := "(II)I" } : Jvm.MethodName)) ∈ gwords := gw_in2 (n := 177) rfl rfl
theorem k_418 : (Jvm.Cond.static ({ cls := "java/lang/Math", name := "max", desc := "(II)I" } : Jvm.MethodName)) ∈ gwords := gw_in2 (n := 178) rfl rfl
theorem k_419 : (Jvm.Cond.code ({ cls := "java/lang/Math", name := "max", desc := "(II)I" } : Jvm.MethodName) prog_14_method_65_code (2 : Nat) (Option.some Jvm.ClassFile.FieldType.int)) ∈ gwords := gw_in2 (n := 179) rfl rfl
theorem k_420 : (Jvm.Cond.methodLink "WeightOrder$Finder" (104 : Nat) ({ cls := "WeightOrder$Finder", name := "closeGap", desc := "(I)V" } : Jvm.MethodName)) ∈ gwords := gw_in2 (n := 180) rfl rfl
theorem k_422 : (Jvm.Cond.instanceMethod ({ cls := "WeightOrder$Finder", name := "closeGap", desc := "(I)V" } : Jvm.MethodName)) ∈ gwords := gw_in2 (n := 182) rfl rfl
theorem k_423 : (Jvm.Cond.code ({ cls := "WeightOrder$Finder", name := "closeGap", desc := "(I)V" } : Jvm.MethodName) prog_3_method_8_code (2 : Nat) (Option.none : Option Jvm.ClassFile.FieldType)) ∈ gwords := gw_in2 (n := 183) rfl rfl
theorem k_424 : (Jvm.Cond.methodLink "WeightOrder$Finder" (107 : Nat) ({ cls := "java/lang/System", name := "arraycopy", desc := "(Ljava/lang/Object;ILjava/lang/Object;II)V" } : Jvm.MethodName)) ∈ gwords := gw_in2 (n := 184) rfl rfl
theorem k_425 : (Jvm.Cond.methodLinkNest "WeightOrder$Finder" (76 : Nat) ({ cls := "WeightOrder$Elements", name := "appendLine", desc := "(LWeightOrder$Line;)V" } : Jvm.MethodName) "WeightOrder") ∈ nwords := nw_in2 (n := 185) rfl rfl
theorem k_427 : (Jvm.Cond.instanceMethod ({ cls := "WeightOrder$Elements", name := "appendLine", desc := "(LWeightOrder$Line;)V" } : Jvm.MethodName)) ∈ gwords := gw_in2 (n := 187) rfl rfl
theorem k_428 : (Jvm.Cond.code ({ cls := "WeightOrder$Elements", name := "appendLine", desc := "(LWeightOrder$Line;)V" } : Jvm.MethodName) prog_2_method_4_code (3 : Nat) (Option.none : Option Jvm.ClassFile.FieldType)) ∈ gwords := gw_in2 (n := 188) rfl rfl
theorem k_429 : (Jvm.Cond.methodLink "WeightOrderLaw" (78 : Nat) ({ cls := "WeightOrderLaw", name := "weight", desc := "(LWeightOrder;IZII[J)I" } : Jvm.MethodName)) ∈ gwords := gw_in2 (n := 189) rfl rfl
theorem k_430 : (Jvm.Cond.static ({ cls := "WeightOrderLaw", name := "weight", desc := "(LWeightOrder;IZII[J)I" } : Jvm.MethodName)) ∈ gwords := gw_in2 (n := 190) rfl rfl
theorem k_431 : (Jvm.Cond.codeWith ({ cls := "WeightOrderLaw", name := "weight", desc := "(LWeightOrder;IZII[J)I" } : Jvm.MethodName) method_9_code (7 : Nat) (Option.some Jvm.ClassFile.FieldType.int) [((0 : Nat), (14 : Nat), (17 : Nat), (13 : Nat))]) ∈ gwords := gw_in2 (n := 191) rfl rfl
theorem k_432 : (Jvm.Cond.methodLink "WeightOrderLaw" (37 : Nat) ({ cls := "WeightOrder", name := "weight", desc := "(IZII)I" } : Jvm.MethodName)) ∈ gwords := gw_in2 (n := 192) rfl rfl
theorem k_433 : (Jvm.Cond.instanceMethod ({ cls := "WeightOrder", name := "weight", desc := "(IZII)I" } : Jvm.MethodName)) ∈ gwords := gw_in2 (n := 193) rfl rfl
theorem k_434 : (Jvm.Cond.selects "WeightOrder" ({ cls := "WeightOrder", name := "weight", desc := "(IZII)I" } : Jvm.MethodName) ({ cls := "WeightOrder", name := "weight", desc := "(IZII)I" } : Jvm.MethodName)) ∈ gwords := gw_in2 (n := 194) rfl rfl
theorem k_435 : (Jvm.Cond.code ({ cls := "WeightOrder", name := "weight", desc := "(IZII)I" } : Jvm.MethodName) prog_1_method_8_code (5 : Nat) (Option.some Jvm.ClassFile.FieldType.int)) ∈ gwords := gw_in2 (n := 195) rfl rfl
theorem k_436 : (Jvm.Cond.methodLink "WeightOrder" (120 : Nat) ({ cls := "WeightOrder", name := "weightOf", desc := "(JI)I" } : Jvm.MethodName)) ∈ gwords := gw_in2 (n := 196) rfl rfl
theorem k_437 : (Jvm.Cond.methodLink "WeightOrderLaw" (82 : Nat) ({ cls := "WeightOrderLaw", name := "compare", desc := "(LWeightOrder;IIIZ[J)I" } : Jvm.MethodName)) ∈ gwords := gw_in2 (n := 197) rfl rfl
theorem k_438 : (Jvm.Cond.static ({ cls := "WeightOrderLaw", name := "compare", desc := "(LWeightOrder;IIIZ[J)I" } : Jvm.MethodName)) ∈ gwords := gw_in2 (n := 198) rfl rfl
theorem k_439 : (Jvm.Cond.codeWith ({ cls := "WeightOrderLaw", name := "compare", desc := "(LWeightOrder;IIIZ[J)I" } : Jvm.MethodName) method_10_code (7 : Nat) (Option.some Jvm.ClassFile.FieldType.int) [((0 : Nat), (14 : Nat), (17 : Nat), (13 : Nat))]) ∈ gwords := gw_in2 (n := 199) rfl rfl
theorem k_440 : (Jvm.Cond.methodLink "WeightOrderLaw" (41 : Nat) ({ cls := "WeightOrder", name := "compare", desc := "(IIIZ)I" } : Jvm.MethodName)) ∈ gwords := gw_in2 (n := 200) rfl rfl
theorem k_441 : (Jvm.Cond.instanceMethod ({ cls := "WeightOrder", name := "compare", desc := "(IIIZ)I" } : Jvm.MethodName)) ∈ gwords := gw_in2 (n := 201) rfl rfl
theorem k_442 : (Jvm.Cond.selects "WeightOrder" ({ cls := "WeightOrder", name := "compare", desc := "(IIIZ)I" } : Jvm.MethodName) ({ cls := "WeightOrder", name := "compare", desc := "(IIIZ)I" } : Jvm.MethodName)) ∈ gwords := gw_in2 (n := 202) rfl rfl
theorem k_443 : (Jvm.Cond.code ({ cls := "WeightOrder", name := "compare", desc := "(IIIZ)I" } : Jvm.MethodName) prog_1_method_9_code (7 : Nat) (Option.some Jvm.ClassFile.FieldType.int)) ∈ gwords := gw_in2 (n := 203) rfl rfl
theorem k_444 : (Jvm.Cond.methodLink "WeightOrder" (124 : Nat) ({ cls := "WeightOrder", name := "levelOrder", desc := "(LWeightOrder$Elements;LWeightOrder$Elements;I)I" } : Jvm.MethodName)) ∈ gwords := gw_in2 (n := 204) rfl rfl
theorem k_445 : (Jvm.Cond.static ({ cls := "WeightOrder", name := "levelOrder", desc := "(LWeightOrder$Elements;LWeightOrder$Elements;I)I" } : Jvm.MethodName)) ∈ gwords := gw_in2 (n := 205) rfl rfl
theorem k_446 : (Jvm.Cond.code ({ cls := "WeightOrder", name := "levelOrder", desc := "(LWeightOrder$Elements;LWeightOrder$Elements;I)I" } : Jvm.MethodName) prog_1_method_16_code (7 : Nat) (Option.some Jvm.ClassFile.FieldType.int)) ∈ gwords := gw_in2 (n := 206) rfl rfl
theorem k_447 : (Jvm.Cond.methodLinkNest "WeightOrder" (132 : Nat) ({ cls := "WeightOrder$Elements", name := "nextWithWeight", desc := "(II)I" } : Jvm.MethodName) "WeightOrder") ∈ nwords := nw_in2 (n := 207) rfl rfl
theorem k_449 : (Jvm.Cond.instanceMethod ({ cls := "WeightOrder$Elements", name := "nextWithWeight", desc := "(II)I" } : Jvm.MethodName)) ∈ gwords := gw_in2 (n := 209) rfl rfl
theorem k_450 : (Jvm.Cond.code ({ cls := "WeightOrder$Elements", name := "nextWithWeight", desc := "(II)I" } : Jvm.MethodName) prog_2_method_7_code (4 : Nat) (Option.some Jvm.ClassFile.FieldType.int)) ∈ gwords := gw_in2 (n := 210) rfl rfl
theorem k_451 : (Jvm.Cond.methodLink "WeightOrder" (136 : Nat) ({ cls := "java/lang/Integer", name := "compare", desc := "(II)I" } : Jvm.MethodName)) ∈ gwords := gw_in2 (n := 211) rfl rfl
theorem k_452 : (Jvm.Cond.static ({ cls := "java/lang/Integer", name := "compare", desc := "(II)I" } : Jvm.MethodName)) ∈ gwords := gw_in2 (n := 212) rfl rfl
theorem k_453 : (Jvm.Cond.code ({ cls := "java/lang/Integer", name := "compare", desc := "(II)I" } : Jvm.MethodName) prog_13_method_40_code (2 : Nat) (Option.some Jvm.ClassFile.FieldType.int)) ∈ gwords := gw_in2 (n := 213) rfl rfl
theorem k_454 : (Jvm.Cond.classLink "WeightOrderLaw" (45 : Nat) "WeightOrderModel") ∈ gwords := gw_in2 (n := 214) rfl rfl
theorem k_455 : (Jvm.Cond.instantiable "WeightOrderModel" (17 : Nat)) ∈ gwords := gw_in2 (n := 215) rfl rfl
theorem k_456 : (Jvm.Cond.methodLink "WeightOrderLaw" (47 : Nat) ({ cls := "WeightOrderModel", name := "<init>", desc := "()V" } : Jvm.MethodName)) ∈ gwords := gw_in2 (n := 216) rfl rfl
theorem k_457 : (Jvm.Cond.instanceMethod ({ cls := "WeightOrderModel", name := "<init>", desc := "()V" } : Jvm.MethodName)) ∈ gwords := gw_in2 (n := 217) rfl rfl
theorem k_458 : (Jvm.Cond.code ({ cls := "WeightOrderModel", name := "<init>", desc := "()V" } : Jvm.MethodName) prog_9_method_1_code (1 : Nat) (Option.none : Option Jvm.ClassFile.FieldType)) ∈ gwords := gw_in2 (n := 218) rfl rfl
theorem k_459 : (Jvm.Cond.methodLink "WeightOrderModel" (1 : Nat) ({ cls := "java/lang/Object", name := "<init>", desc := "()V" } : Jvm.MethodName)) ∈ gwords := gw_in2 (n := 219) rfl rfl
theorem k_460 : (Jvm.Cond.classLink "WeightOrderModel" (32 : Nat) "[[I") ∈ gwords := gw_in2 (n := 220) rfl rfl
theorem k_461 : (Jvm.Cond.arrayOver (Jvm.ClassFile.FieldType.array Jvm.ClassFile.FieldType.int)) ∈ nwords := nw_in2 (n := 221) rfl rfl
theorem k_462 : (Jvm.Cond.fieldLink "WeightOrderModel" (49 : Nat) "WeightOrderModel" "failed" "I") ∈ gwords := gw_in2 (n := 222) rfl rfl
theorem k_463 : (Jvm.Cond.fieldLink "WeightOrderModel" (7 : Nat) "WeightOrderModel" "points" "[I") ∈ gwords := gw_in2 (n := 223) rfl rfl
theorem k_464 : (Jvm.Cond.fieldLink "WeightOrderModel" (13 : Nat) "WeightOrderModel" "classes" "[I") ∈ gwords := gw_in2 (n := 224) rfl rfl
theorem k_465 : (Jvm.Cond.fieldLink "WeightOrderModel" (57 : Nat) "WeightOrderModel" "classed" "I") ∈ gwords := gw_in2 (n := 225) rfl rfl
theorem k_466 : (Jvm.Cond.fieldLink "WeightOrderModel" (16 : Nat) "WeightOrderModel" "lengths" "[I") ∈ gwords := gw_in2 (n := 226) rfl rfl
theorem k_467 : (Jvm.Cond.fieldLink "WeightOrderModel" (19 : Nat) "WeightOrderModel" "rows" "[I") ∈ gwords := gw_in2 (n := 227) rfl rfl
theorem k_468 : (Jvm.Cond.fieldLink "WeightOrderModel" (22 : Nat) "WeightOrderModel" "counts" "[I") ∈ gwords := gw_in2 (n := 228) rfl rfl
theorem k_469 : (Jvm.Cond.fieldLink "WeightOrderModel" (25 : Nat) "WeightOrderModel" "elements" "[I") ∈ gwords := gw_in2 (n := 229) rfl rfl
theorem k_470 : (Jvm.Cond.fieldLink "WeightOrderModel" (60 : Nat) "WeightOrderModel" "lines" "I") ∈ gwords := gw_in2 (n := 230) rfl rfl
theorem k_471 : (Jvm.Cond.fieldLink "WeightOrderModel" (28 : Nat) "WeightOrderModel" "told" "I") ∈ gwords := gw_in2 (n := 231) rfl rfl
theorem k_472 : (Jvm.Cond.fieldLink "WeightOrderModel" (34 : Nat) "WeightOrderModel" "texts" "[[I") ∈ gwords := gw_in2 (n := 232) rfl rfl
theorem k_473 : (Jvm.Cond.fieldLink "WeightOrderModel" (37 : Nat) "WeightOrderModel" "sizes" "[I") ∈ gwords := gw_in2 (n := 233) rfl rfl
theorem k_474 : (Jvm.Cond.fieldLink "WeightOrderModel" (40 : Nat) "WeightOrderModel" "left" "[I") ∈ gwords := gw_in2 (n := 234) rfl rfl
theorem k_475 : (Jvm.Cond.fieldLink "WeightOrderModel" (72 : Nat) "WeightOrderModel" "leftSize" "I") ∈ gwords := gw_in2 (n := 235) rfl rfl
theorem k_476 : (Jvm.Cond.fieldLink "WeightOrderModel" (43 : Nat) "WeightOrderModel" "found" "[I") ∈ gwords := gw_in2 (n := 236) rfl rfl
theorem k_477 : (Jvm.Cond.fieldLink "WeightOrderModel" (75 : Nat) "WeightOrderModel" "foundSize" "I") ∈ gwords := gw_in2 (n := 237) rfl rfl
theorem k_478 : (Jvm.Cond.fieldLink "WeightOrderModel" (46 : Nat) "WeightOrderModel" "first" "[I") ∈ gwords := gw_in2 (n := 238) rfl rfl
theorem k_479 : (Jvm.Cond.lays "WeightOrderModel" "WeightOrderModel" "failed" "I") ∈ gwords := gw_in2 (n := 239) rfl rfl
theorem k_480 : (Jvm.Cond.soleField "WeightOrderModel" "failed") ∈ gwords := gw_in3 (n := 0) rfl rfl
theorem k_481 : (Jvm.Cond.laysFinal "WeightOrderModel" "WeightOrderModel" "points" "[I") ∈ gwords := gw_in3 (n := 1) rfl rfl
theorem k_482 : (Jvm.Cond.soleField "WeightOrderModel" "points") ∈ gwords := gw_in3 (n := 2) rfl rfl
theorem k_483 : (Jvm.Cond.laysFinal "WeightOrderModel" "WeightOrderModel" "classes" "[I") ∈ gwords := gw_in3 (n := 3) rfl rfl
theorem k_484 : (Jvm.Cond.soleField "WeightOrderModel" "classes") ∈ gwords := gw_in3 (n := 4) rfl rfl
theorem k_485 : (Jvm.Cond.lays "WeightOrderModel" "WeightOrderModel" "classed" "I") ∈ gwords := gw_in3 (n := 5) rfl rfl
theorem k_486 : (Jvm.Cond.soleField "WeightOrderModel" "classed") ∈ gwords := gw_in3 (n := 6) rfl rfl
theorem k_487 : (Jvm.Cond.laysFinal "WeightOrderModel" "WeightOrderModel" "lengths" "[I") ∈ gwords := gw_in3 (n := 7) rfl rfl
theorem k_488 : (Jvm.Cond.soleField "WeightOrderModel" "lengths") ∈ gwords := gw_in3 (n := 8) rfl rfl
theorem k_489 : (Jvm.Cond.laysFinal "WeightOrderModel" "WeightOrderModel" "rows" "[I") ∈ gwords := gw_in3 (n := 9) rfl rfl
theorem k_490 : (Jvm.Cond.soleField "WeightOrderModel" "rows") ∈ gwords := gw_in3 (n := 10) rfl rfl
theorem k_491 : (Jvm.Cond.laysFinal "WeightOrderModel" "WeightOrderModel" "counts" "[I") ∈ gwords := gw_in3 (n := 11) rfl rfl
theorem k_492 : (Jvm.Cond.soleField "WeightOrderModel" "counts") ∈ gwords := gw_in3 (n := 12) rfl rfl
theorem k_493 : (Jvm.Cond.laysFinal "WeightOrderModel" "WeightOrderModel" "elements" "[I") ∈ gwords := gw_in3 (n := 13) rfl rfl
theorem k_494 : (Jvm.Cond.soleField "WeightOrderModel" "elements") ∈ gwords := gw_in3 (n := 14) rfl rfl
theorem k_495 : (Jvm.Cond.lays "WeightOrderModel" "WeightOrderModel" "lines" "I") ∈ gwords := gw_in3 (n := 15) rfl rfl
theorem k_496 : (Jvm.Cond.soleField "WeightOrderModel" "lines") ∈ gwords := gw_in3 (n := 16) rfl rfl
theorem k_497 : (Jvm.Cond.lays "WeightOrderModel" "WeightOrderModel" "told" "I") ∈ gwords := gw_in3 (n := 17) rfl rfl
theorem k_498 : (Jvm.Cond.soleField "WeightOrderModel" "told") ∈ gwords := gw_in3 (n := 18) rfl rfl
theorem k_499 : (Jvm.Cond.laysFinal "WeightOrderModel" "WeightOrderModel" "texts" "[[I") ∈ gwords := gw_in3 (n := 19) rfl rfl
theorem k_500 : (Jvm.Cond.soleField "WeightOrderModel" "texts") ∈ gwords := gw_in3 (n := 20) rfl rfl
theorem k_501 : (Jvm.Cond.laysFinal "WeightOrderModel" "WeightOrderModel" "sizes" "[I") ∈ gwords := gw_in3 (n := 21) rfl rfl
theorem k_502 : (Jvm.Cond.soleField "WeightOrderModel" "sizes") ∈ gwords := gw_in3 (n := 22) rfl rfl
theorem k_503 : (Jvm.Cond.laysFinal "WeightOrderModel" "WeightOrderModel" "left" "[I") ∈ gwords := gw_in3 (n := 23) rfl rfl
theorem k_504 : (Jvm.Cond.soleField "WeightOrderModel" "left") ∈ gwords := gw_in3 (n := 24) rfl rfl
theorem k_505 : (Jvm.Cond.lays "WeightOrderModel" "WeightOrderModel" "leftSize" "I") ∈ gwords := gw_in3 (n := 25) rfl rfl
theorem k_506 : (Jvm.Cond.soleField "WeightOrderModel" "leftSize") ∈ gwords := gw_in3 (n := 26) rfl rfl
theorem k_507 : (Jvm.Cond.laysFinal "WeightOrderModel" "WeightOrderModel" "found" "[I") ∈ gwords := gw_in3 (n := 27) rfl rfl
theorem k_508 : (Jvm.Cond.soleField "WeightOrderModel" "found") ∈ gwords := gw_in3 (n := 28) rfl rfl
theorem k_509 : (Jvm.Cond.lays "WeightOrderModel" "WeightOrderModel" "foundSize" "I") ∈ gwords := gw_in3 (n := 29) rfl rfl
theorem k_510 : (Jvm.Cond.soleField "WeightOrderModel" "foundSize") ∈ gwords := gw_in3 (n := 30) rfl rfl
theorem k_511 : (Jvm.Cond.laysFinal "WeightOrderModel" "WeightOrderModel" "first" "[I") ∈ gwords := gw_in3 (n := 31) rfl rfl
theorem k_512 : (Jvm.Cond.soleField "WeightOrderModel" "first") ∈ gwords := gw_in3 (n := 32) rfl rfl
theorem k_513 : (Jvm.Cond.superclass "WeightOrderModel" "java/lang/Object") ∈ gwords := gw_in3 (n := 33) rfl rfl
theorem k_514 : (Jvm.Cond.methodLink "WeightOrderLaw" (54 : Nat) ({ cls := "WeightOrderModel", name := "thrown", desc := "()I" } : Jvm.MethodName)) ∈ gwords := gw_in3 (n := 34) rfl rfl
theorem k_515 : (Jvm.Cond.instanceMethod ({ cls := "WeightOrderModel", name := "thrown", desc := "()I" } : Jvm.MethodName)) ∈ gwords := gw_in3 (n := 35) rfl rfl
theorem k_516 : (Jvm.Cond.selects "WeightOrderModel" ({ cls := "WeightOrderModel", name := "thrown", desc := "()I" } : Jvm.MethodName) ({ cls := "WeightOrderModel", name := "thrown", desc := "()I" } : Jvm.MethodName)) ∈ gwords := gw_in3 (n := 36) rfl rfl
theorem k_517 : (Jvm.Cond.code ({ cls := "WeightOrderModel", name := "thrown", desc := "()I" } : Jvm.MethodName) prog_9_method_2_code (1 : Nat) (Option.some Jvm.ClassFile.FieldType.int)) ∈ gwords := gw_in3 (n := 37) rfl rfl
theorem k_518 : (Jvm.Cond.methodLink "WeightOrderLaw" (53 : Nat) ({ cls := "WeightOrderModel", name := "order", desc := "(II)V" } : Jvm.MethodName)) ∈ gwords := gw_in3 (n := 38) rfl rfl
theorem k_519 : (Jvm.Cond.instanceMethod ({ cls := "WeightOrderModel", name := "order", desc := "(II)V" } : Jvm.MethodName)) ∈ gwords := gw_in3 (n := 39) rfl rfl
theorem k_520 : (Jvm.Cond.selects "WeightOrderModel" ({ cls := "WeightOrderModel", name := "order", desc := "(II)V" } : Jvm.MethodName) ({ cls := "WeightOrderModel", name := "order", desc := "(II)V" } : Jvm.MethodName)) ∈ gwords := gw_in3 (n := 40) rfl rfl
theorem k_521 : (Jvm.Cond.code ({ cls := "WeightOrderModel", name := "order", desc := "(II)V" } : Jvm.MethodName) prog_9_method_5_code (4 : Nat) (Option.none : Option Jvm.ClassFile.FieldType)) ∈ gwords := gw_in3 (n := 41) rfl rfl
theorem k_522 : (Jvm.Cond.methodLink "WeightOrderModel" (53 : Nat) ({ cls := "WeightOrderModel", name := "out", desc := "(I)Z" } : Jvm.MethodName)) ∈ gwords := gw_in3 (n := 42) rfl rfl
theorem k_524 : (Jvm.Cond.instanceMethod ({ cls := "WeightOrderModel", name := "out", desc := "(I)Z" } : Jvm.MethodName)) ∈ gwords := gw_in3 (n := 44) rfl rfl
theorem k_525 : (Jvm.Cond.code ({ cls := "WeightOrderModel", name := "out", desc := "(I)Z" } : Jvm.MethodName) prog_9_method_4_code (2 : Nat) (Option.some Jvm.ClassFile.FieldType.boolean)) ∈ gwords := gw_in3 (n := 45) rfl rfl
theorem k_526 : (Jvm.Cond.constant "WeightOrderModel" (52 : Nat) (1114111 : Int32)) ∈ gwords := gw_in3 (n := 46) rfl rfl
theorem k_527 : (Jvm.Cond.methodLink "WeightOrderLaw" (61 : Nat) ({ cls := "WeightOrderModel", name := "line", desc := "(IIII)I" } : Jvm.MethodName)) ∈ gwords := gw_in3 (n := 47) rfl rfl
theorem k_528 : (Jvm.Cond.instanceMethod ({ cls := "WeightOrderModel", name := "line", desc := "(IIII)I" } : Jvm.MethodName)) ∈ gwords := gw_in3 (n := 48) rfl rfl
theorem k_529 : (Jvm.Cond.selects "WeightOrderModel" ({ cls := "WeightOrderModel", name := "line", desc := "(IIII)I" } : Jvm.MethodName) ({ cls := "WeightOrderModel", name := "line", desc := "(IIII)I" } : Jvm.MethodName)) ∈ gwords := gw_in3 (n := 49) rfl rfl
theorem k_530 : (Jvm.Cond.code ({ cls := "WeightOrderModel", name := "line", desc := "(IIII)I" } : Jvm.MethodName) prog_9_method_8_code (6 : Nat) (Option.some Jvm.ClassFile.FieldType.int)) ∈ gwords := gw_in3 (n := 50) rfl rfl
theorem k_531 : (Jvm.Cond.methodLink "WeightOrderModel" (63 : Nat) ({ cls := "WeightOrderModel", name := "fail", desc := "(I)I" } : Jvm.MethodName)) ∈ gwords := gw_in3 (n := 51) rfl rfl
theorem k_533 : (Jvm.Cond.instanceMethod ({ cls := "WeightOrderModel", name := "fail", desc := "(I)I" } : Jvm.MethodName)) ∈ gwords := gw_in3 (n := 53) rfl rfl
theorem k_534 : (Jvm.Cond.code ({ cls := "WeightOrderModel", name := "fail", desc := "(I)I" } : Jvm.MethodName) prog_9_method_3_code (2 : Nat) (Option.some Jvm.ClassFile.FieldType.int)) ∈ gwords := gw_in3 (n := 54) rfl rfl
theorem k_535 : (Jvm.Cond.methodLink "WeightOrderModel" (67 : Nat) ({ cls := "WeightOrderModel", name := "lineOf", desc := "(IIII)I" } : Jvm.MethodName)) ∈ gwords := gw_in3 (n := 55) rfl rfl
theorem k_537 : (Jvm.Cond.instanceMethod ({ cls := "WeightOrderModel", name := "lineOf", desc := "(IIII)I" } : Jvm.MethodName)) ∈ gwords := gw_in3 (n := 57) rfl rfl
theorem k_538 : (Jvm.Cond.code ({ cls := "WeightOrderModel", name := "lineOf", desc := "(IIII)I" } : Jvm.MethodName) prog_9_method_7_code (6 : Nat) (Option.some Jvm.ClassFile.FieldType.int)) ∈ gwords := gw_in3 (n := 58) rfl rfl
theorem k_539 : (Jvm.Cond.methodLink "WeightOrderLaw" (65 : Nat) ({ cls := "WeightOrderModel", name := "element", desc := "(IIIZ)I" } : Jvm.MethodName)) ∈ gwords := gw_in3 (n := 59) rfl rfl
theorem k_540 : (Jvm.Cond.instanceMethod ({ cls := "WeightOrderModel", name := "element", desc := "(IIIZ)I" } : Jvm.MethodName)) ∈ gwords := gw_in3 (n := 60) rfl rfl
theorem k_541 : (Jvm.Cond.selects "WeightOrderModel" ({ cls := "WeightOrderModel", name := "element", desc := "(IIIZ)I" } : Jvm.MethodName) ({ cls := "WeightOrderModel", name := "element", desc := "(IIIZ)I" } : Jvm.MethodName)) ∈ gwords := gw_in3 (n := 61) rfl rfl
theorem k_542 : (Jvm.Cond.code ({ cls := "WeightOrderModel", name := "element", desc := "(IIIZ)I" } : Jvm.MethodName) prog_9_method_9_code (6 : Nat) (Option.some Jvm.ClassFile.FieldType.int)) ∈ gwords := gw_in3 (n := 62) rfl rfl
theorem k_543 : (Jvm.Cond.constant "WeightOrderModel" (71 : Nat) (65535 : Int32)) ∈ gwords := gw_in3 (n := 63) rfl rfl
theorem k_544 : (Jvm.Cond.methodLink "WeightOrderLaw" (69 : Nat) ({ cls := "WeightOrderModel", name := "add", desc := "(II)I" } : Jvm.MethodName)) ∈ gwords := gw_in3 (n := 64) rfl rfl
theorem k_545 : (Jvm.Cond.instanceMethod ({ cls := "WeightOrderModel", name := "add", desc := "(II)I" } : Jvm.MethodName)) ∈ gwords := gw_in3 (n := 65) rfl rfl
theorem k_546 : (Jvm.Cond.selects "WeightOrderModel" ({ cls := "WeightOrderModel", name := "add", desc := "(II)I" } : Jvm.MethodName) ({ cls := "WeightOrderModel", name := "add", desc := "(II)I" } : Jvm.MethodName)) ∈ gwords := gw_in3 (n := 66) rfl rfl
theorem k_547 : (Jvm.Cond.code ({ cls := "WeightOrderModel", name := "add", desc := "(II)I" } : Jvm.MethodName) prog_9_method_10_code (3 : Nat) (Option.some Jvm.ClassFile.FieldType.int)) ∈ gwords := gw_in3 (n := 67) rfl rfl
theorem k_548 : (Jvm.Cond.methodLink "WeightOrderLaw" (73 : Nat) ({ cls := "WeightOrderModel", name := "clear", desc := "(I)I" } : Jvm.MethodName)) ∈ gwords := gw_in3 (n := 68) rfl rfl
theorem k_549 : (Jvm.Cond.instanceMethod ({ cls := "WeightOrderModel", name := "clear", desc := "(I)I" } : Jvm.MethodName)) ∈ gwords := gw_in3 (n := 69) rfl rfl
theorem k_550 : (Jvm.Cond.selects "WeightOrderModel" ({ cls := "WeightOrderModel", name := "clear", desc := "(I)I" } : Jvm.MethodName) ({ cls := "WeightOrderModel", name := "clear", desc := "(I)I" } : Jvm.MethodName)) ∈ gwords := gw_in3 (n := 70) rfl rfl
theorem k_551 : (Jvm.Cond.code ({ cls := "WeightOrderModel", name := "clear", desc := "(I)I" } : Jvm.MethodName) prog_9_method_11_code (3 : Nat) (Option.some Jvm.ClassFile.FieldType.int)) ∈ gwords := gw_in3 (n := 71) rfl rfl
theorem k_552 : (Jvm.Cond.methodLink "WeightOrderLaw" (77 : Nat) ({ cls := "WeightOrderModel", name := "count", desc := "(IZ)I" } : Jvm.MethodName)) ∈ gwords := gw_in3 (n := 72) rfl rfl
theorem k_553 : (Jvm.Cond.instanceMethod ({ cls := "WeightOrderModel", name := "count", desc := "(IZ)I" } : Jvm.MethodName)) ∈ gwords := gw_in3 (n := 73) rfl rfl
theorem k_554 : (Jvm.Cond.selects "WeightOrderModel" ({ cls := "WeightOrderModel", name := "count", desc := "(IZ)I" } : Jvm.MethodName) ({ cls := "WeightOrderModel", name := "count", desc := "(IZ)I" } : Jvm.MethodName)) ∈ gwords := gw_in3 (n := 74) rfl rfl
theorem k_555 : (Jvm.Cond.code ({ cls := "WeightOrderModel", name := "count", desc := "(IZ)I" } : Jvm.MethodName) prog_9_method_15_code (3 : Nat) (Option.some Jvm.ClassFile.FieldType.int)) ∈ gwords := gw_in3 (n := 75) rfl rfl
theorem k_556 : (Jvm.Cond.methodLink "WeightOrderModel" (97 : Nat) ({ cls := "WeightOrderModel", name := "take", desc := "(IZ)V" } : Jvm.MethodName)) ∈ gwords := gw_in3 (n := 76) rfl rfl
theorem k_558 : (Jvm.Cond.instanceMethod ({ cls := "WeightOrderModel", name := "take", desc := "(IZ)V" } : Jvm.MethodName)) ∈ gwords := gw_in3 (n := 78) rfl rfl
theorem k_559 : (Jvm.Cond.code ({ cls := "WeightOrderModel", name := "take", desc := "(IZ)V" } : Jvm.MethodName) prog_9_method_14_code (11 : Nat) (Option.none : Option Jvm.ClassFile.FieldType)) ∈ gwords := gw_in3 (n := 79) rfl rfl
theorem k_560 : (Jvm.Cond.constant "WeightOrderModel" (78 : Nat) (64448 : Int32)) ∈ gwords := gw_in3 (n := 80) rfl rfl
theorem k_561 : (Jvm.Cond.constant "WeightOrderModel" (79 : Nat) (32768 : Int32)) ∈ gwords := gw_in3 (n := 81) rfl rfl
theorem k_562 : (Jvm.Cond.methodLink "WeightOrderModel" (80 : Nat) ({ cls := "WeightOrderModel", name := "give", desc := "(IIII)V" } : Jvm.MethodName)) ∈ gwords := gw_in3 (n := 82) rfl rfl
theorem k_564 : (Jvm.Cond.instanceMethod ({ cls := "WeightOrderModel", name := "give", desc := "(IIII)V" } : Jvm.MethodName)) ∈ gwords := gw_in3 (n := 84) rfl rfl
theorem k_565 : (Jvm.Cond.code ({ cls := "WeightOrderModel", name := "give", desc := "(IIII)V" } : Jvm.MethodName) prog_9_method_13_code (5 : Nat) (Option.none : Option Jvm.ClassFile.FieldType)) ∈ gwords := gw_in3 (n := 85) rfl rfl
theorem k_566 : (Jvm.Cond.methodLink "WeightOrderModel" (84 : Nat) ({ cls := "WeightOrderModel", name := "drop", desc := "(II)V" } : Jvm.MethodName)) ∈ gwords := gw_in3 (n := 86) rfl rfl
theorem k_568 : (Jvm.Cond.instanceMethod ({ cls := "WeightOrderModel", name := "drop", desc := "(II)V" } : Jvm.MethodName)) ∈ gwords := gw_in3 (n := 88) rfl rfl
theorem k_569 : (Jvm.Cond.code ({ cls := "WeightOrderModel", name := "drop", desc := "(II)V" } : Jvm.MethodName) prog_9_method_12_code (4 : Nat) (Option.none : Option Jvm.ClassFile.FieldType)) ∈ gwords := gw_in3 (n := 89) rfl rfl
theorem k_570 : (Jvm.Cond.methodLink "WeightOrderModel" (88 : Nat) ({ cls := "WeightOrderModel", name := "classOf", desc := "(I)I" } : Jvm.MethodName)) ∈ gwords := gw_in3 (n := 90) rfl rfl
theorem k_572 : (Jvm.Cond.instanceMethod ({ cls := "WeightOrderModel", name := "classOf", desc := "(I)I" } : Jvm.MethodName)) ∈ gwords := gw_in3 (n := 92) rfl rfl
theorem k_573 : (Jvm.Cond.code ({ cls := "WeightOrderModel", name := "classOf", desc := "(I)I" } : Jvm.MethodName) prog_9_method_6_code (3 : Nat) (Option.some Jvm.ClassFile.FieldType.int)) ∈ gwords := gw_in3 (n := 93) rfl rfl
theorem k_574 : (Jvm.Cond.methodLink "WeightOrderModel" (91 : Nat) ({ cls := "java/lang/Math", name := "max", desc := "(II)I" } : Jvm.MethodName)) ∈ gwords := gw_in3 (n := 94) rfl rfl
theorem k_575 : (Jvm.Cond.methodLink "WeightOrderLaw" (81 : Nat) ({ cls := "WeightOrderModel", name := "weight", desc := "(IZII)I" } : Jvm.MethodName)) ∈ gwords := gw_in3 (n := 95) rfl rfl
theorem k_576 : (Jvm.Cond.instanceMethod ({ cls := "WeightOrderModel", name := "weight", desc := "(IZII)I" } : Jvm.MethodName)) ∈ gwords := gw_in3 (n := 96) rfl rfl
theorem k_577 : (Jvm.Cond.selects "WeightOrderModel" ({ cls := "WeightOrderModel", name := "weight", desc := "(IZII)I" } : Jvm.MethodName) ({ cls := "WeightOrderModel", name := "weight", desc := "(IZII)I" } : Jvm.MethodName)) ∈ gwords := gw_in3 (n := 97) rfl rfl
theorem k_578 : (Jvm.Cond.code ({ cls := "WeightOrderModel", name := "weight", desc := "(IZII)I" } : Jvm.MethodName) prog_9_method_16_code (5 : Nat) (Option.some Jvm.ClassFile.FieldType.int)) ∈ gwords := gw_in3 (n := 98) rfl rfl
theorem k_579 : (Jvm.Cond.methodLink "WeightOrderLaw" (84 : Nat) ({ cls := "WeightOrderModel", name := "compare", desc := "(IIIZ)I" } : Jvm.MethodName)) ∈ gwords := gw_in3 (n := 99) rfl rfl
theorem k_580 : (Jvm.Cond.instanceMethod ({ cls := "WeightOrderModel", name := "compare", desc := "(IIIZ)I" } : Jvm.MethodName)) ∈ gwords := gw_in3 (n := 100) rfl rfl
theorem k_581 : (Jvm.Cond.selects "WeightOrderModel" ({ cls := "WeightOrderModel", name := "compare", desc := "(IIIZ)I" } : Jvm.MethodName) ({ cls := "WeightOrderModel", name := "compare", desc := "(IIIZ)I" } : Jvm.MethodName)) ∈ gwords := gw_in3 (n := 101) rfl rfl
theorem k_582 : (Jvm.Cond.code ({ cls := "WeightOrderModel", name := "compare", desc := "(IIIZ)I" } : Jvm.MethodName) prog_9_method_17_code (9 : Nat) (Option.some Jvm.ClassFile.FieldType.int)) ∈ gwords := gw_in3 (n := 102) rfl rfl
theorem k_583 : (Jvm.Cond.sameMethod "java/lang/Throwable" "java/lang/Throwable" "fillInStackTrace" "(I)Ljava/lang/Throwable;") ∈ gwords := gw_in3 (n := 103) rfl rfl
theorem ks_0 : Cond.selects "java/lang/Throwable" ⟨"java/lang/Throwable", "fillInStackTrace", "(I)Ljava/lang/Throwable;"⟩ ⟨"java/lang/Throwable", "fillInStackTrace", "(I)Ljava/lang/Throwable;"⟩ ∈ gwords := gs_in (n := 0) rfl rfl
theorem ks_1 : Cond.selects "WeightOrder$Table" ⟨"WeightOrder$Table", "put", "(JI)V"⟩ ⟨"WeightOrder$Table", "put", "(JI)V"⟩ ∈ gwords := gs_in (n := 1) rfl rfl
theorem ks_2 : Cond.selects "WeightOrder$Table" ⟨"WeightOrder$Table", "placeOf", "(J)I"⟩ ⟨"WeightOrder$Table", "placeOf", "(J)I"⟩ ∈ gwords := gs_in (n := 2) rfl rfl
theorem ks_3 : Cond.selects "WeightOrder$Table" ⟨"WeightOrder$Table", "insert", "(IJI)V"⟩ ⟨"WeightOrder$Table", "insert", "(IJI)V"⟩ ∈ gwords := gs_in (n := 3) rfl rfl
theorem ks_4 : Cond.selects "WeightOrder$Lines" ⟨"WeightOrder$Lines", "find", "(J)LWeightOrder$Line;"⟩ ⟨"WeightOrder$Lines", "find", "(J)LWeightOrder$Line;"⟩ ∈ gwords := gs_in (n := 4) rfl rfl
theorem ks_5 : Cond.selects "WeightOrder$Table" ⟨"WeightOrder$Table", "valueOf", "(JI)I"⟩ ⟨"WeightOrder$Table", "valueOf", "(JI)I"⟩ ∈ gwords := gs_in (n := 5) rfl rfl
theorem ks_6 : Cond.selects "WeightOrder$Lines" ⟨"WeightOrder$Lines", "isFull", "()Z"⟩ ⟨"WeightOrder$Lines", "isFull", "()Z"⟩ ∈ gwords := gs_in (n := 6) rfl rfl
theorem ks_7 : Cond.selects "WeightOrder$Lines" ⟨"WeightOrder$Lines", "tell", "(J)V"⟩ ⟨"WeightOrder$Lines", "tell", "(J)V"⟩ ∈ gwords := gs_in (n := 7) rfl rfl
theorem ks_8 : Cond.selects "WeightOrder$Line" ⟨"WeightOrder$Line", "isFull", "()Z"⟩ ⟨"WeightOrder$Line", "isFull", "()Z"⟩ ∈ gwords := gs_in (n := 8) rfl rfl
theorem ks_9 : Cond.selects "WeightOrder$Line" ⟨"WeightOrder$Line", "append", "(JZ)V"⟩ ⟨"WeightOrder$Line", "append", "(JZ)V"⟩ ∈ gwords := gs_in (n := 9) rfl rfl
theorem ks_10 : Cond.selects "WeightOrder$Row" ⟨"WeightOrder$Row", "isFull", "()Z"⟩ ⟨"WeightOrder$Row", "isFull", "()Z"⟩ ∈ gwords := gs_in (n := 10) rfl rfl
theorem ks_11 : Cond.selects "WeightOrder$Row" ⟨"WeightOrder$Row", "append", "(I)V"⟩ ⟨"WeightOrder$Row", "append", "(I)V"⟩ ∈ gwords := gs_in (n := 11) rfl rfl
theorem ks_12 : Cond.selects "WeightOrder$Finder" ⟨"WeightOrder$Finder", "findElements", "(LWeightOrder$Row;ZLWeightOrder$Elements;)V"⟩ ⟨"WeightOrder$Finder", "findElements", "(LWeightOrder$Row;ZLWeightOrder$Elements;)V"⟩ ∈ gwords := gs_in (n := 12) rfl rfl
theorem ks_13 : Cond.selects "WeightOrder$Finder" ⟨"WeightOrder$Finder", "load", "(LWeightOrder$Row;)V"⟩ ⟨"WeightOrder$Finder", "load", "(LWeightOrder$Row;)V"⟩ ∈ gwords := gs_in (n := 13) rfl rfl
theorem ks_14 : Cond.selects "WeightOrder$Elements" ⟨"WeightOrder$Elements", "begin", "(Z)V"⟩ ⟨"WeightOrder$Elements", "begin", "(Z)V"⟩ ∈ gwords := gs_in (n := 14) rfl rfl
theorem ks_15 : Cond.selects "WeightOrder$Finder" ⟨"WeightOrder$Finder", "takeNext", "(LWeightOrder$Elements;)V"⟩ ⟨"WeightOrder$Finder", "takeNext", "(LWeightOrder$Elements;)V"⟩ ∈ gwords := gs_in (n := 15) rfl rfl
theorem ks_16 : Cond.selects "WeightOrder$Finder" ⟨"WeightOrder$Finder", "seekBeginning", "()V"⟩ ⟨"WeightOrder$Finder", "seekBeginning", "()V"⟩ ∈ gwords := gs_in (n := 16) rfl rfl
theorem ks_17 : Cond.selects "WeightOrder$Finder" ⟨"WeightOrder$Finder", "become", "(JILWeightOrder$Line;)V"⟩ ⟨"WeightOrder$Finder", "become", "(JILWeightOrder$Line;)V"⟩ ∈ gwords := gs_in (n := 17) rfl rfl
theorem ks_18 : Cond.selects "WeightOrder$Elements" ⟨"WeightOrder$Elements", "appendImplicit", "(I)V"⟩ ⟨"WeightOrder$Elements", "appendImplicit", "(I)V"⟩ ∈ gwords := gs_in (n := 18) rfl rfl
theorem ks_19 : Cond.selects "WeightOrder$Elements" ⟨"WeightOrder$Elements", "append", "(JZ)V"⟩ ⟨"WeightOrder$Elements", "append", "(JZ)V"⟩ ∈ gwords := gs_in (n := 19) rfl rfl
theorem ks_20 : Cond.selects "WeightOrder$Elements" ⟨"WeightOrder$Elements", "shift", "(JZ)J"⟩ ⟨"WeightOrder$Elements", "shift", "(JZ)J"⟩ ∈ gwords := gs_in (n := 20) rfl rfl
theorem ks_21 : Cond.selects "WeightOrder$Finder" ⟨"WeightOrder$Finder", "seekBehind", "()V"⟩ ⟨"WeightOrder$Finder", "seekBehind", "()V"⟩ ∈ gwords := gs_in (n := 21) rfl rfl
theorem ks_22 : Cond.selects "WeightOrder$Finder" ⟨"WeightOrder$Finder", "closeGap", "(I)V"⟩ ⟨"WeightOrder$Finder", "closeGap", "(I)V"⟩ ∈ gwords := gs_in (n := 22) rfl rfl
theorem ks_23 : Cond.selects "WeightOrder$Elements" ⟨"WeightOrder$Elements", "appendLine", "(LWeightOrder$Line;)V"⟩ ⟨"WeightOrder$Elements", "appendLine", "(LWeightOrder$Line;)V"⟩ ∈ gwords := gs_in (n := 23) rfl rfl
theorem ks_24 : Cond.selects "WeightOrder$Elements" ⟨"WeightOrder$Elements", "nextWithWeight", "(II)I"⟩ ⟨"WeightOrder$Elements", "nextWithWeight", "(II)I"⟩ ∈ gwords := gs_in (n := 24) rfl rfl
theorem ks_25 : Cond.selects "WeightOrderModel" ⟨"WeightOrderModel", "out", "(I)Z"⟩ ⟨"WeightOrderModel", "out", "(I)Z"⟩ ∈ gwords := gs_in (n := 25) rfl rfl
theorem ks_26 : Cond.selects "WeightOrderModel" ⟨"WeightOrderModel", "fail", "(I)I"⟩ ⟨"WeightOrderModel", "fail", "(I)I"⟩ ∈ gwords := gs_in (n := 26) rfl rfl
theorem ks_27 : Cond.selects "WeightOrderModel" ⟨"WeightOrderModel", "lineOf", "(IIII)I"⟩ ⟨"WeightOrderModel", "lineOf", "(IIII)I"⟩ ∈ gwords := gs_in (n := 27) rfl rfl
theorem ks_28 : Cond.selects "WeightOrderModel" ⟨"WeightOrderModel", "take", "(IZ)V"⟩ ⟨"WeightOrderModel", "take", "(IZ)V"⟩ ∈ gwords := gs_in (n := 28) rfl rfl
theorem ks_29 : Cond.selects "WeightOrderModel" ⟨"WeightOrderModel", "give", "(IIII)V"⟩ ⟨"WeightOrderModel", "give", "(IIII)V"⟩ ∈ gwords := gs_in (n := 29) rfl rfl
theorem ks_30 : Cond.selects "WeightOrderModel" ⟨"WeightOrderModel", "drop", "(II)V"⟩ ⟨"WeightOrderModel", "drop", "(II)V"⟩ ∈ gwords := gs_in (n := 30) rfl rfl
theorem ks_31 : Cond.selects "WeightOrderModel" ⟨"WeightOrderModel", "classOf", "(I)I"⟩ ⟨"WeightOrderModel", "classOf", "(I)I"⟩ ∈ gwords := gs_in (n := 31) rfl rfl
