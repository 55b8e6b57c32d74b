/-! names, fields and words of this system, written by wip/whole/names.py out of the Statement's own tables -/
abbrev aw_G : Type := Launch × va_G × Nat × (Nat → ClassId) × (Nat → Nat)
def aw_tbl : List Cond := lw_tbl.filter goodWord
def aw_isNest : Cond → Bool
  | .fieldLinkNest .. => true
  | .methodLinkNest .. => true
  | .arrayOver (.object _) => true
  | _ => false
def aw_nest : List Cond := lw_tbl.filter aw_isNest
theorem aw_in {c : Cond} (i : Nat) (h : lw_tbl[i]? = some c) (hg : goodWord c = true) : c ∈ aw_tbl := List.mem_filter.mpr ⟨List.mem_of_getElem? h, hg⟩
theorem aw_i0 {c : Cond} (i : Nat) (h : (k2_sels lw_privs)[i]? = some c) (hg : goodWord c = true) : c ∈ aw_tbl := List.mem_filter.mpr ⟨List.mem_append_left _ (List.mem_of_getElem? h), hg⟩
theorem aw_n0 {c : Cond} (i : Nat) (h : (k2_sels lw_privs)[i]? = some c) (hg : aw_isNest c = true) : c ∈ aw_nest := List.mem_filter.mpr ⟨List.mem_append_left _ (List.mem_of_getElem? h), hg⟩
theorem aw_i1 {c : Cond} (i : Nat) (h : (tables_1_1)[i]? = some c) (hg : goodWord c = true) : c ∈ aw_tbl := List.mem_filter.mpr ⟨List.mem_append_right _ (List.mem_append_left _ (List.mem_of_getElem? h)), hg⟩
theorem aw_n1 {c : Cond} (i : Nat) (h : (tables_1_1)[i]? = some c) (hg : aw_isNest c = true) : c ∈ aw_nest := List.mem_filter.mpr ⟨List.mem_append_right _ (List.mem_append_left _ (List.mem_of_getElem? h)), hg⟩
theorem aw_i2 {c : Cond} (i : Nat) (h : (tables_1_2)[i]? = some c) (hg : goodWord c = true) : c ∈ aw_tbl := List.mem_filter.mpr ⟨List.mem_append_right _ (List.mem_append_right _ (List.mem_append_left _ (List.mem_of_getElem? h))), hg⟩
theorem aw_n2 {c : Cond} (i : Nat) (h : (tables_1_2)[i]? = some c) (hg : aw_isNest c = true) : c ∈ aw_nest := List.mem_filter.mpr ⟨List.mem_append_right _ (List.mem_append_right _ (List.mem_append_left _ (List.mem_of_getElem? h))), hg⟩
theorem aw_i3 {c : Cond} (i : Nat) (h : (tables_1_3)[i]? = some c) (hg : goodWord c = true) : c ∈ aw_tbl := List.mem_filter.mpr ⟨List.mem_append_right _ (List.mem_append_right _ (List.mem_append_right _ (List.mem_append_left _ (List.mem_of_getElem? h)))), hg⟩
theorem aw_n3 {c : Cond} (i : Nat) (h : (tables_1_3)[i]? = some c) (hg : aw_isNest c = true) : c ∈ aw_nest := List.mem_filter.mpr ⟨List.mem_append_right _ (List.mem_append_right _ (List.mem_append_right _ (List.mem_append_left _ (List.mem_of_getElem? h)))), hg⟩
theorem aw_i4 {c : Cond} (i : Nat) (h : (tables_1_4)[i]? = some c) (hg : goodWord c = true) : c ∈ aw_tbl := List.mem_filter.mpr ⟨List.mem_append_right _ (List.mem_append_right _ (List.mem_append_right _ (List.mem_append_right _ (List.mem_append_left _ (List.mem_of_getElem? h))))), hg⟩
theorem aw_n4 {c : Cond} (i : Nat) (h : (tables_1_4)[i]? = some c) (hg : aw_isNest c = true) : c ∈ aw_nest := List.mem_filter.mpr ⟨List.mem_append_right _ (List.mem_append_right _ (List.mem_append_right _ (List.mem_append_right _ (List.mem_append_left _ (List.mem_of_getElem? h))))), hg⟩
theorem aw_i5 {c : Cond} (i : Nat) (h : (tables_1_5)[i]? = some c) (hg : goodWord c = true) : c ∈ aw_tbl := List.mem_filter.mpr ⟨List.mem_append_right _ (List.mem_append_right _ (List.mem_append_right _ (List.mem_append_right _ (List.mem_append_right _ ((List.mem_of_getElem? h)))))), hg⟩
theorem aw_n5 {c : Cond} (i : Nat) (h : (tables_1_5)[i]? = some c) (hg : aw_isNest c = true) : c ∈ aw_nest := List.mem_filter.mpr ⟨List.mem_append_right _ (List.mem_append_right _ (List.mem_append_right _ (List.mem_append_right _ (List.mem_append_right _ ((List.mem_of_getElem? h)))))), hg⟩
theorem aw_gd {k : Cond} (h : k ∈ aw_tbl) : GoodIn aw_tbl (k :: aw_tbl) := fun w hw => by
  have h1 : w ∈ aw_tbl := (List.mem_cons.mp hw).elim (fun e => e ▸ h) id
  exact ⟨h1, good_of_word (List.mem_filter.mp h1).2⟩
def aw_q1 (y : MethodName) (cc : ByteArray) (nL : Nat) (ret : Option FieldType) (n : Nat) : Prop := Cond.code y cc nL ret ∈ aw_tbl ∧ Cond.initialized y.cls ∈ aw_tbl ∧ (y.cls ≠ "java/lang/invoke/MethodHandle" ∧ y.cls ≠ "java/lang/invoke/VarHandle" ∧ (parseMethodDescriptor y.desc).map (fun d => d.parameters.length) = some n) ∧ nL ≤ 21
def R_Rd : String := "RescanDesk"
def T_Rd : u_T := fun k => match k with
  | 0 => ("RescanDesk", "text", "LRescanDesk$Text;", true)
  | 1 => ("RescanDesk", "front", "LRescanDesk$Front;", true)
  | 2 => ("RescanDesk", "rows", "LRescanDesk$Rows;", true)
  | 3 => ("RescanDesk", "table", "LRescanDesk$Table;", true)
  | 4 => ("RescanDesk", "calls", "LRescanDesk$Calls;", true)
  | 5 => ("RescanDesk", "expander", "LRescanDesk$Expander;", true)
  | 6 => ("RescanDesk", "ready", "LRescanDesk$Call;", false)
  | _ => ("RescanDesk", "steps", "I", false)
def ty_Rd : Nat → FieldType := fun k => match k with
  | 0 => (.object "RescanDesk$Text")
  | 1 => (.object "RescanDesk$Front")
  | 2 => (.object "RescanDesk$Rows")
  | 3 => (.object "RescanDesk$Table")
  | 4 => (.object "RescanDesk$Calls")
  | 5 => (.object "RescanDesk$Expander")
  | 6 => (.object "RescanDesk$Call")
  | _ => .int
theorem nm_Rd : ∀ a, a < 8 → ∀ b, b < 8 → a ≠ b → (T_Rd a).2.1 ≠ (T_Rd b).2.1 := by decide +kernel
theorem ok_Rd : ∀ k, k < 8 → parseFieldDescriptor (T_Rd k).2.2.1 = some (ty_Rd k) := by decide +kernel
def R_Tx : String := "RescanDesk$Text"
def T_Tx : u_T := fun k => match k with
  | 0 => ("RescanDesk$Text", "chars", "[C", true)
  | _ => ("RescanDesk$Text", "length", "I", false)
def ty_Tx : Nat → FieldType := fun k => match k with
  | 0 => (.array .char)
  | _ => .int
theorem nm_Tx : ∀ a, a < 2 → ∀ b, b < 2 → a ≠ b → (T_Tx a).2.1 ≠ (T_Tx b).2.1 := by decide +kernel
theorem ok_Tx : ∀ k, k < 2 → parseFieldDescriptor (T_Tx k).2.2.1 = some (ty_Tx k) := by decide +kernel
def R_Fr : String := "RescanDesk$Front"
def T_Fr : u_T := fun k => match k with
  | 0 => ("RescanDesk$Front", "chars", "[C", true)
  | _ => ("RescanDesk$Front", "start", "I", false)
def ty_Fr : Nat → FieldType := fun k => match k with
  | 0 => (.array .char)
  | _ => .int
theorem nm_Fr : ∀ a, a < 2 → ∀ b, b < 2 → a ≠ b → (T_Fr a).2.1 ≠ (T_Fr b).2.1 := by decide +kernel
theorem ok_Fr : ∀ k, k < 2 → parseFieldDescriptor (T_Fr k).2.2.1 = some (ty_Fr k) := by decide +kernel
def R_Ro : String := "RescanDesk$Rows"
def T_Ro : u_T := fun k => match k with
  | 0 => ("RescanDesk$Rows", "row", "[LRescanDesk$Text;", true)
  | _ => ("RescanDesk$Rows", "present", "I", false)
def ty_Ro : Nat → FieldType := fun k => match k with
  | 0 => (.array (.object "RescanDesk$Text"))
  | _ => .int
theorem nm_Ro : ∀ a, a < 2 → ∀ b, b < 2 → a ≠ b → (T_Ro a).2.1 ≠ (T_Ro b).2.1 := by decide +kernel
theorem ok_Ro : ∀ k, k < 2 → parseFieldDescriptor (T_Ro k).2.2.1 = some (ty_Ro k) := by decide +kernel
def R_Ta : String := "RescanDesk$Table"
def T_Ta : u_T := fun k => match k with
  | 0 => ("RescanDesk$Table", "definitions", "[LRescanDesk$Definition;", true)
  | _ => ("RescanDesk$Table", "size", "I", false)
def ty_Ta : Nat → FieldType := fun k => match k with
  | 0 => (.array (.object "RescanDesk$Definition"))
  | _ => .int
theorem nm_Ta : ∀ a, a < 2 → ∀ b, b < 2 → a ≠ b → (T_Ta a).2.1 ≠ (T_Ta b).2.1 := by decide +kernel
theorem ok_Ta : ∀ k, k < 2 → parseFieldDescriptor (T_Ta k).2.2.1 = some (ty_Ta k) := by decide +kernel
def R_De : String := "RescanDesk$Definition"
def T_De : u_T := fun k => match k with
  | 0 => ("RescanDesk$Definition", "name", "LRescanDesk$Text;", true)
  | 1 => ("RescanDesk$Definition", "body", "LRescanDesk$Text;", true)
  | _ => ("RescanDesk$Definition", "builtIn", "LRescanDesk$BuiltIn;", false)
def ty_De : Nat → FieldType := fun k => match k with
  | 0 => (.object "RescanDesk$Text")
  | 1 => (.object "RescanDesk$Text")
  | _ => (.object "RescanDesk$BuiltIn")
theorem nm_De : ∀ a, a < 3 → ∀ b, b < 3 → a ≠ b → (T_De a).2.1 ≠ (T_De b).2.1 := by decide +kernel
theorem ok_De : ∀ k, k < 3 → parseFieldDescriptor (T_De k).2.2.1 = some (ty_De k) := by decide +kernel
def R_Cs : String := "RescanDesk$Calls"
def T_Cs : u_T := fun k => match k with
  | 0 => ("RescanDesk$Calls", "gathered", "LRescanDesk$Text;", true)
  | 1 => ("RescanDesk$Calls", "stack", "[LRescanDesk$Call;", true)
  | 2 => ("RescanDesk$Calls", "bare", "LRescanDesk$Call;", true)
  | 3 => ("RescanDesk$Calls", "open", "I", false)
  | _ => ("RescanDesk$Calls", "most", "I", false)
def ty_Cs : Nat → FieldType := fun k => match k with
  | 0 => (.object "RescanDesk$Text")
  | 1 => (.array (.object "RescanDesk$Call"))
  | 2 => (.object "RescanDesk$Call")
  | 3 => .int
  | _ => .int
theorem nm_Cs : ∀ a, a < 5 → ∀ b, b < 5 → a ≠ b → (T_Cs a).2.1 ≠ (T_Cs b).2.1 := by decide +kernel
theorem ok_Cs : ∀ k, k < 5 → parseFieldDescriptor (T_Cs k).2.2.1 = some (ty_Cs k) := by decide +kernel
def R_Ca : String := "RescanDesk$Call"
def T_Ca : u_T := fun k => match k with
  | 0 => ("RescanDesk$Call", "definition", "LRescanDesk$Definition;", true)
  | 1 => ("RescanDesk$Call", "chars", "[C", true)
  | 2 => ("RescanDesk$Call", "starts", "[I", true)
  | 3 => ("RescanDesk$Call", "arguments", "I", false)
  | 4 => ("RescanDesk$Call", "depth", "I", false)
  | _ => ("RescanDesk$Call", "begun", "Z", false)
def ty_Ca : Nat → FieldType := fun k => match k with
  | 0 => (.object "RescanDesk$Definition")
  | 1 => (.array .char)
  | 2 => (.array .int)
  | 3 => .int
  | 4 => .int
  | _ => .boolean
theorem nm_Ca : ∀ a, a < 6 → ∀ b, b < 6 → a ≠ b → (T_Ca a).2.1 ≠ (T_Ca b).2.1 := by decide +kernel
theorem ok_Ca : ∀ k, k < 6 → parseFieldDescriptor (T_Ca k).2.2.1 = some (ty_Ca k) := by decide +kernel
def R_Ex : String := "RescanDesk$Expander"
def T_Ex : u_T := fun k => match k with
  | 0 => ("RescanDesk$Expander", "front", "LRescanDesk$Front;", true)
  | 1 => ("RescanDesk$Expander", "rows", "LRescanDesk$Rows;", true)
  | 2 => ("RescanDesk$Expander", "table", "LRescanDesk$Table;", true)
  | 3 => ("RescanDesk$Expander", "expression", "LRescanDesk$Expression;", true)
  | _ => ("RescanDesk$Expander", "made", "LRescanDesk$Text;", true)
def ty_Ex : Nat → FieldType := fun k => match k with
  | 0 => (.object "RescanDesk$Front")
  | 1 => (.object "RescanDesk$Rows")
  | 2 => (.object "RescanDesk$Table")
  | 3 => (.object "RescanDesk$Expression")
  | _ => (.object "RescanDesk$Text")
theorem nm_Ex : ∀ a, a < 5 → ∀ b, b < 5 → a ≠ b → (T_Ex a).2.1 ≠ (T_Ex b).2.1 := by decide +kernel
theorem ok_Ex : ∀ k, k < 5 → parseFieldDescriptor (T_Ex k).2.2.1 = some (ty_Ex k) := by decide +kernel
def R_Ep : String := "RescanDesk$Expression"
def T_Ep : u_T := fun k => match k with
  | 0 => ("RescanDesk$Expression", "signs", "LRescanDesk$Text;", true)
  | 1 => ("RescanDesk$Expression", "at", "I", false)
  | 2 => ("RescanDesk$Expression", "wrong", "Z", false)
  | _ => ("RescanDesk$Expression", "byZero", "Z", false)
def ty_Ep : Nat → FieldType := fun k => match k with
  | 0 => (.object "RescanDesk$Text")
  | 1 => .int
  | 2 => .boolean
  | _ => .boolean
theorem nm_Ep : ∀ a, a < 4 → ∀ b, b < 4 → a ≠ b → (T_Ep a).2.1 ≠ (T_Ep b).2.1 := by decide +kernel
theorem ok_Ep : ∀ k, k < 4 → parseFieldDescriptor (T_Ep k).2.2.1 = some (ty_Ep k) := by decide +kernel
def R_Mo : String := "RescanDeskModel"
def T_Mo : u_T := fun k => match k with
  | 0 => ("RescanDeskModel", "code", "I", false)
  | 1 => ("RescanDeskModel", "typed", "I", false)
  | 2 => ("RescanDeskModel", "text", "[C", true)
  | 3 => ("RescanDeskModel", "size", "I", false)
  | 4 => ("RescanDeskModel", "front", "[C", true)
  | 5 => ("RescanDeskModel", "definitions", "I", false)
  | 6 => ("RescanDeskModel", "names", "[C", true)
  | 7 => ("RescanDeskModel", "nameSizes", "[I", true)
  | 8 => ("RescanDeskModel", "kinds", "[I", true)
  | 9 => ("RescanDeskModel", "bodies", "[C", true)
  | 10 => ("RescanDeskModel", "bodySizes", "[I", true)
  | 11 => ("RescanDeskModel", "open", "I", false)
  | 12 => ("RescanDeskModel", "callNames", "[C", true)
  | 13 => ("RescanDeskModel", "callNameSizes", "[I", true)
  | 14 => ("RescanDeskModel", "callKinds", "[I", true)
  | 15 => ("RescanDeskModel", "callBodies", "[C", true)
  | 16 => ("RescanDeskModel", "callBodySizes", "[I", true)
  | 17 => ("RescanDeskModel", "many", "[I", true)
  | 18 => ("RescanDeskModel", "begins", "[I", true)
  | 19 => ("RescanDeskModel", "depths", "[I", true)
  | 20 => ("RescanDeskModel", "seen", "[Z", true)
  | 21 => ("RescanDeskModel", "written", "I", false)
  | 22 => ("RescanDeskModel", "arguments", "[C", true)
  | 23 => ("RescanDeskModel", "rows", "[C", true)
  | 24 => ("RescanDeskModel", "rowSizes", "[I", true)
  | 25 => ("RescanDeskModel", "present", "I", false)
  | 26 => ("RescanDeskModel", "made", "I", false)
  | 27 => ("RescanDeskModel", "making", "[C", true)
  | 28 => ("RescanDeskModel", "error", "I", false)
  | 29 => ("RescanDeskModel", "steps", "I", false)
  | 30 => ("RescanDeskModel", "most", "I", false)
  | 31 => ("RescanDeskModel", "todo", "I", false)
  | 32 => ("RescanDeskModel", "operators", "[I", true)
  | 33 => ("RescanDeskModel", "numbers", "I", false)
  | 34 => ("RescanDeskModel", "values", "[J", true)
  | 35 => ("RescanDeskModel", "nested", "I", false)
  | 36 => ("RescanDeskModel", "zero", "Z", false)
  | _ => ("RescanDeskModel", "plain", "[C", true)
def ty_Mo : Nat → FieldType := fun k => match k with
  | 0 => .int
  | 1 => .int
  | 2 => (.array .char)
  | 3 => .int
  | 4 => (.array .char)
  | 5 => .int
  | 6 => (.array .char)
  | 7 => (.array .int)
  | 8 => (.array .int)
  | 9 => (.array .char)
  | 10 => (.array .int)
  | 11 => .int
  | 12 => (.array .char)
  | 13 => (.array .int)
  | 14 => (.array .int)
  | 15 => (.array .char)
  | 16 => (.array .int)
  | 17 => (.array .int)
  | 18 => (.array .int)
  | 19 => (.array .int)
  | 20 => (.array .boolean)
  | 21 => .int
  | 22 => (.array .char)
  | 23 => (.array .char)
  | 24 => (.array .int)
  | 25 => .int
  | 26 => .int
  | 27 => (.array .char)
  | 28 => .int
  | 29 => .int
  | 30 => .int
  | 31 => .int
  | 32 => (.array .int)
  | 33 => .int
  | 34 => (.array .long)
  | 35 => .int
  | 36 => .boolean
  | _ => (.array .char)
theorem nm_Mo : ∀ a, a < 38 → ∀ b, b < 38 → a ≠ b → (T_Mo a).2.1 ≠ (T_Mo b).2.1 := by decide +kernel
theorem ok_Mo : ∀ k, k < 38 → parseFieldDescriptor (T_Mo k).2.2.1 = some (ty_Mo k) := by decide +kernel
theorem df_Rd : ∀ j, j < 8 → defaultValue (ty_Rd j) = vp_V [.null, .null, .null, .null, .null, .null, .null, .int 0] j := by
  intro j hj
  rcases (show j = 0 ∨ j = 1 ∨ j = 2 ∨ j = 3 ∨ j = 4 ∨ j = 5 ∨ j = 6 ∨ j = 7 by omega) with rfl | rfl | rfl | rfl | rfl | rfl | rfl | rfl <;> rfl
theorem df_Tx : ∀ j, j < 2 → defaultValue (ty_Tx j) = vp_V [.null, .int 0] j := by
  intro j hj
  rcases (show j = 0 ∨ j = 1 by omega) with rfl | rfl <;> rfl
theorem df_Fr : ∀ j, j < 2 → defaultValue (ty_Fr j) = vp_V [.null, .int 0] j := by
  intro j hj
  rcases (show j = 0 ∨ j = 1 by omega) with rfl | rfl <;> rfl
theorem df_Ro : ∀ j, j < 2 → defaultValue (ty_Ro j) = vp_V [.null, .int 0] j := by
  intro j hj
  rcases (show j = 0 ∨ j = 1 by omega) with rfl | rfl <;> rfl
theorem df_Ta : ∀ j, j < 2 → defaultValue (ty_Ta j) = vp_V [.null, .int 0] j := by
  intro j hj
  rcases (show j = 0 ∨ j = 1 by omega) with rfl | rfl <;> rfl
theorem df_De : ∀ j, j < 3 → defaultValue (ty_De j) = vp_V [.null, .null, .null] j := by
  intro j hj
  rcases (show j = 0 ∨ j = 1 ∨ j = 2 by omega) with rfl | rfl | rfl <;> rfl
theorem df_Cs : ∀ j, j < 5 → defaultValue (ty_Cs j) = vp_V [.null, .null, .null, .int 0, .int 0] j := by
  intro j hj
  rcases (show j = 0 ∨ j = 1 ∨ j = 2 ∨ j = 3 ∨ j = 4 by omega) with rfl | rfl | rfl | rfl | rfl <;> rfl
theorem df_Ca : ∀ j, j < 6 → defaultValue (ty_Ca j) = vp_V [.null, .null, .null, .int 0, .int 0, .int 0] j := by
  intro j hj
  rcases (show j = 0 ∨ j = 1 ∨ j = 2 ∨ j = 3 ∨ j = 4 ∨ j = 5 by omega) with rfl | rfl | rfl | rfl | rfl | rfl <;> rfl
theorem df_Ex : ∀ j, j < 5 → defaultValue (ty_Ex j) = vp_V [.null, .null, .null, .null, .null] j := by
  intro j hj
  rcases (show j = 0 ∨ j = 1 ∨ j = 2 ∨ j = 3 ∨ j = 4 by omega) with rfl | rfl | rfl | rfl | rfl <;> rfl
theorem df_Ep : ∀ j, j < 4 → defaultValue (ty_Ep j) = vp_V [.null, .int 0, .int 0, .int 0] j := by
  intro j hj
  rcases (show j = 0 ∨ j = 1 ∨ j = 2 ∨ j = 3 by omega) with rfl | rfl | rfl | rfl <;> rfl
theorem df_Mo : ∀ j, j < 38 → defaultValue (ty_Mo j) = vp_V [.int 0, .int 0, .null, .int 0, .null, .int 0, .null, .null, .null, .null, .null, .int 0, .null, .null, .null, .null, .null, .null, .null, .null, .null, .int 0, .null, .null, .null, .int 0, .int 0, .null, .int 0, .int 0, .int 0, .int 0, .null, .int 0, .null, .int 0, .int 0, .null] j := by
  intro j hj
  rcases (show j = 0 ∨ j = 1 ∨ j = 2 ∨ j = 3 ∨ j = 4 ∨ j = 5 ∨ j = 6 ∨ j = 7 ∨ j = 8 ∨ j = 9 ∨ j = 10 ∨ j = 11 ∨ j = 12 ∨ j = 13 ∨ j = 14 ∨ j = 15 ∨ j = 16 ∨ j = 17 ∨ j = 18 ∨ j = 19 ∨ j = 20 ∨ j = 21 ∨ j = 22 ∨ j = 23 ∨ j = 24 ∨ j = 25 ∨ j = 26 ∨ j = 27 ∨ j = 28 ∨ j = 29 ∨ j = 30 ∨ j = 31 ∨ j = 32 ∨ j = 33 ∨ j = 34 ∨ j = 35 ∨ j = 36 ∨ j = 37 by omega) with rfl | rfl | rfl | rfl | rfl | rfl | rfl | rfl | rfl | rfl | rfl | rfl | rfl | rfl | rfl | rfl | rfl | rfl | rfl | rfl | rfl | rfl | rfl | rfl | rfl | rfl | rfl | rfl | rfl | rfl | rfl | rfl | rfl | rfl | rfl | rfl | rfl | rfl <;> rfl
def R_La : String := "RescanDeskLaw"
abbrev classes : List vw_C := [(R_Rd, T_Rd, 8), (R_Tx, T_Tx, 2), (R_Fr, T_Fr, 2), (R_Ro, T_Ro, 2), (R_Ta, T_Ta, 2), (R_De, T_De, 3), (R_Cs, T_Cs, 5), (R_Ca, T_Ca, 6), (R_Ex, T_Ex, 5), (R_Ep, T_Ep, 4), (R_Mo, T_Mo, 38)]
def aw_tys (G : aw_G) : List (ClassId × FieldType) := [(G.2.2.2.1 0, .char), (G.2.2.2.1 1, .int), (G.2.2.2.1 2, .long), (G.2.2.2.1 3, .boolean), (G.2.2.2.1 4, .object "RescanDesk$Text"), (G.2.2.2.1 5, .object "RescanDesk$Definition"), (G.2.2.2.1 6, .object "RescanDesk$Call")]
theorem in_Rd : ∀ w ∈ u_ws R_Rd T_Rd 8, w ∈ aw_tbl := by
  intro w hw
  obtain ⟨k, hk, rfl⟩ := List.mem_map.mp hw
  have hk := List.mem_range.mp hk
  rcases (show k = 0 ∨ k = 1 ∨ k = 2 ∨ k = 3 ∨ k = 4 ∨ k = 5 ∨ k = 6 ∨ k = 7 by omega) with rfl | rfl | rfl | rfl | rfl | rfl | rfl | rfl
  · exact aw_i2 78 rfl rfl
  · exact aw_i2 80 rfl rfl
  · exact aw_i2 82 rfl rfl
  · exact aw_i2 84 rfl rfl
  · exact aw_i2 86 rfl rfl
  · exact aw_i2 88 rfl rfl
  · exact aw_i2 90 rfl rfl
  · exact aw_i2 92 rfl rfl
theorem in_Tx : ∀ w ∈ u_ws R_Tx T_Tx 2, w ∈ aw_tbl := by
  intro w hw
  obtain ⟨k, hk, rfl⟩ := List.mem_map.mp hw
  have hk := List.mem_range.mp hk
  rcases (show k = 0 ∨ k = 1 by omega) with rfl | rfl
  · exact aw_i1 58 rfl rfl
  · exact aw_i1 60 rfl rfl
theorem in_Fr : ∀ w ∈ u_ws R_Fr T_Fr 2, w ∈ aw_tbl := by
  intro w hw
  obtain ⟨k, hk, rfl⟩ := List.mem_map.mp hw
  have hk := List.mem_range.mp hk
  rcases (show k = 0 ∨ k = 1 by omega) with rfl | rfl
  · exact aw_i1 74 rfl rfl
  · exact aw_i1 76 rfl rfl
theorem in_Ro : ∀ w ∈ u_ws R_Ro T_Ro 2, w ∈ aw_tbl := by
  intro w hw
  obtain ⟨k, hk, rfl⟩ := List.mem_map.mp hw
  have hk := List.mem_range.mp hk
  rcases (show k = 0 ∨ k = 1 by omega) with rfl | rfl
  · exact aw_i1 93 rfl rfl
  · exact aw_i1 95 rfl rfl
theorem in_Ta : ∀ w ∈ u_ws R_Ta T_Ta 2, w ∈ aw_tbl := by
  intro w hw
  obtain ⟨k, hk, rfl⟩ := List.mem_map.mp hw
  have hk := List.mem_range.mp hk
  rcases (show k = 0 ∨ k = 1 by omega) with rfl | rfl
  · exact aw_i1 194 rfl rfl
  · exact aw_i1 196 rfl rfl
theorem in_De : ∀ w ∈ u_ws R_De T_De 3, w ∈ aw_tbl := by
  intro w hw
  obtain ⟨k, hk, rfl⟩ := List.mem_map.mp hw
  have hk := List.mem_range.mp hk
  rcases (show k = 0 ∨ k = 1 ∨ k = 2 by omega) with rfl | rfl | rfl
  · exact aw_i1 120 rfl rfl
  · exact aw_i1 122 rfl rfl
  · exact aw_i1 124 rfl rfl
theorem in_Cs : ∀ w ∈ u_ws R_Cs T_Cs 5, w ∈ aw_tbl := by
  intro w hw
  obtain ⟨k, hk, rfl⟩ := List.mem_map.mp hw
  have hk := List.mem_range.mp hk
  rcases (show k = 0 ∨ k = 1 ∨ k = 2 ∨ k = 3 ∨ k = 4 by omega) with rfl | rfl | rfl | rfl | rfl
  · exact aw_i2 14 rfl rfl
  · exact aw_i2 16 rfl rfl
  · exact aw_i2 18 rfl rfl
  · exact aw_i2 20 rfl rfl
  · exact aw_i2 22 rfl rfl
theorem in_Ca : ∀ w ∈ u_ws R_Ca T_Ca 6, w ∈ aw_tbl := by
  intro w hw
  obtain ⟨k, hk, rfl⟩ := List.mem_map.mp hw
  have hk := List.mem_range.mp hk
  rcases (show k = 0 ∨ k = 1 ∨ k = 2 ∨ k = 3 ∨ k = 4 ∨ k = 5 by omega) with rfl | rfl | rfl | rfl | rfl | rfl
  · exact aw_i1 232 rfl rfl
  · exact aw_i1 234 rfl rfl
  · exact aw_i1 236 rfl rfl
  · exact aw_i1 238 rfl rfl
  · exact aw_i2 0 rfl rfl
  · exact aw_i2 2 rfl rfl
theorem in_Ex : ∀ w ∈ u_ws R_Ex T_Ex 5, w ∈ aw_tbl := by
  intro w hw
  obtain ⟨k, hk, rfl⟩ := List.mem_map.mp hw
  have hk := List.mem_range.mp hk
  rcases (show k = 0 ∨ k = 1 ∨ k = 2 ∨ k = 3 ∨ k = 4 by omega) with rfl | rfl | rfl | rfl | rfl
  · exact aw_i2 59 rfl rfl
  · exact aw_i2 61 rfl rfl
  · exact aw_i2 63 rfl rfl
  · exact aw_i2 65 rfl rfl
  · exact aw_i2 67 rfl rfl
theorem in_Ep : ∀ w ∈ u_ws R_Ep T_Ep 4, w ∈ aw_tbl := by
  intro w hw
  obtain ⟨k, hk, rfl⟩ := List.mem_map.mp hw
  have hk := List.mem_range.mp hk
  rcases (show k = 0 ∨ k = 1 ∨ k = 2 ∨ k = 3 by omega) with rfl | rfl | rfl | rfl
  · exact aw_i2 43 rfl rfl
  · exact aw_i2 45 rfl rfl
  · exact aw_i2 47 rfl rfl
  · exact aw_i2 49 rfl rfl
theorem in_Mo : ∀ w ∈ u_ws R_Mo T_Mo 38, w ∈ aw_tbl := by
  intro w hw
  obtain ⟨k, hk, rfl⟩ := List.mem_map.mp hw
  have hk := List.mem_range.mp hk
  rcases (show k = 0 ∨ k = 1 ∨ k = 2 ∨ k = 3 ∨ k = 4 ∨ k = 5 ∨ k = 6 ∨ k = 7 ∨ k = 8 ∨ k = 9 ∨ k = 10 ∨ k = 11 ∨ k = 12 ∨ k = 13 ∨ k = 14 ∨ k = 15 ∨ k = 16 ∨ k = 17 ∨ k = 18 ∨ k = 19 ∨ k = 20 ∨ k = 21 ∨ k = 22 ∨ k = 23 ∨ k = 24 ∨ k = 25 ∨ k = 26 ∨ k = 27 ∨ k = 28 ∨ k = 29 ∨ k = 30 ∨ k = 31 ∨ k = 32 ∨ k = 33 ∨ k = 34 ∨ k = 35 ∨ k = 36 ∨ k = 37 by omega) with rfl | rfl | rfl | rfl | rfl | rfl | rfl | rfl | rfl | rfl | rfl | rfl | rfl | rfl | rfl | rfl | rfl | rfl | rfl | rfl | rfl | rfl | rfl | rfl | rfl | rfl | rfl | rfl | rfl | rfl | rfl | rfl | rfl | rfl | rfl | rfl | rfl | rfl
  · exact aw_i4 119 rfl rfl
  · exact aw_i4 121 rfl rfl
  · exact aw_i4 123 rfl rfl
  · exact aw_i4 125 rfl rfl
  · exact aw_i4 127 rfl rfl
  · exact aw_i4 129 rfl rfl
  · exact aw_i4 131 rfl rfl
  · exact aw_i4 133 rfl rfl
  · exact aw_i4 135 rfl rfl
  · exact aw_i4 137 rfl rfl
  · exact aw_i4 139 rfl rfl
  · exact aw_i4 141 rfl rfl
  · exact aw_i4 143 rfl rfl
  · exact aw_i4 145 rfl rfl
  · exact aw_i4 147 rfl rfl
  · exact aw_i4 149 rfl rfl
  · exact aw_i4 151 rfl rfl
  · exact aw_i4 153 rfl rfl
  · exact aw_i4 155 rfl rfl
  · exact aw_i4 157 rfl rfl
  · exact aw_i4 159 rfl rfl
  · exact aw_i4 161 rfl rfl
  · exact aw_i4 163 rfl rfl
  · exact aw_i4 165 rfl rfl
  · exact aw_i4 167 rfl rfl
  · exact aw_i4 169 rfl rfl
  · exact aw_i4 171 rfl rfl
  · exact aw_i4 173 rfl rfl
  · exact aw_i4 175 rfl rfl
  · exact aw_i4 177 rfl rfl
  · exact aw_i4 179 rfl rfl
  · exact aw_i4 181 rfl rfl
  · exact aw_i4 183 rfl rfl
  · exact aw_i4 185 rfl rfl
  · exact aw_i4 187 rfl rfl
  · exact aw_i4 189 rfl rfl
  · exact aw_i4 191 rfl rfl
  · exact aw_i4 193 rfl rfl
