def T_X0 : u_T := fun k => match k with
  | 0 => ("VirtualRewrite", "catalog", "LVirtualRewrite$Catalog;", true)
  | 1 => ("VirtualRewrite", "question", "LVirtualRewrite$Question;", true)
  | 2 => ("VirtualRewrite", "rewriting", "LVirtualRewrite$Rewriting;", true)
  | 3 => ("VirtualRewrite", "slots", "LVirtualRewrite$Slots;", true)
  | 4 => ("VirtualRewrite", "answers", "LVirtualRewrite$Answers;", true)
  | _ => ("VirtualRewrite", "finder", "LVirtualRewrite$Finder;", true)
def t_X0 : Nat → FieldType := fun k => match k with
  | 0 => (.object "VirtualRewrite$Catalog")
  | 1 => (.object "VirtualRewrite$Question")
  | 2 => (.object "VirtualRewrite$Rewriting")
  | 3 => (.object "VirtualRewrite$Slots")
  | 4 => (.object "VirtualRewrite$Answers")
  | _ => (.object "VirtualRewrite$Finder")
theorem nm_X0 : ∀ a, a < 6 → ∀ b, b < 6 → a ≠ b → (T_X0 a).2.1 ≠ (T_X0 b).2.1 := by decide +kernel
theorem ty_X0 : ∀ k, k < 6 → parseFieldDescriptor (T_X0 k).2.2.1 = some (t_X0 k) := by decide +kernel
def T_X1 : u_T := fun k => match k with
  | 0 => ("VirtualRewrite$Catalog", "tables", "[LVirtualRewrite$Table;", true)
  | 1 => ("VirtualRewrite$Catalog", "mappings", "[LVirtualRewrite$Mapping;", true)
  | 2 => ("VirtualRewrite$Catalog", "triples", "[J", true)
  | 3 => ("VirtualRewrite$Catalog", "size", "I", false)
  | _ => ("VirtualRewrite$Catalog", "tripleCount", "I", false)
def t_X1 : Nat → FieldType := fun k => match k with
  | 0 => (.array (.object "VirtualRewrite$Table"))
  | 1 => (.array (.object "VirtualRewrite$Mapping"))
  | 2 => (.array .long)
  | 3 => .int
  | _ => .int
theorem nm_X1 : ∀ a, a < 5 → ∀ b, b < 5 → a ≠ b → (T_X1 a).2.1 ≠ (T_X1 b).2.1 := by decide +kernel
theorem ty_X1 : ∀ k, k < 5 → parseFieldDescriptor (T_X1 k).2.2.1 = some (t_X1 k) := by decide +kernel
def T_X2 : u_T := fun k => match k with
  | 0 => ("VirtualRewrite$Table", "cells", "[I", true)
  | 1 => ("VirtualRewrite$Table", "isKey", "[Z", true)
  | _ => ("VirtualRewrite$Table", "size", "I", false)
def t_X2 : Nat → FieldType := fun k => match k with
  | 0 => (.array .int)
  | 1 => (.array .boolean)
  | _ => .int
theorem nm_X2 : ∀ a, a < 3 → ∀ b, b < 3 → a ≠ b → (T_X2 a).2.1 ≠ (T_X2 b).2.1 := by decide +kernel
theorem ty_X2 : ∀ k, k < 3 → parseFieldDescriptor (T_X2 k).2.2.1 = some (t_X2 k) := by decide +kernel
def T_X3 : u_T := fun k => match k with
  | 0 => ("VirtualRewrite$Mapping", "templates", "[I", true)
  | 1 => ("VirtualRewrite$Mapping", "columns", "[I", true)
  | 2 => ("VirtualRewrite$Mapping", "table", "I", false)
  | _ => ("VirtualRewrite$Mapping", "predicate", "I", false)
def t_X3 : Nat → FieldType := fun k => match k with
  | 0 => (.array .int)
  | 1 => (.array .int)
  | 2 => .int
  | _ => .int
theorem nm_X3 : ∀ a, a < 4 → ∀ b, b < 4 → a ≠ b → (T_X3 a).2.1 ≠ (T_X3 b).2.1 := by decide +kernel
theorem ty_X3 : ∀ k, k < 4 → parseFieldDescriptor (T_X3 k).2.2.1 = some (t_X3 k) := by decide +kernel
def T_X4 : u_T := fun k => match k with
  | 0 => ("VirtualRewrite$Question", "predicates", "[I", true)
  | 1 => ("VirtualRewrite$Question", "places", "[I", true)
  | 2 => ("VirtualRewrite$Question", "least", "[I", true)
  | 3 => ("VirtualRewrite$Question", "most", "[I", true)
  | 4 => ("VirtualRewrite$Question", "atoms", "I", false)
  | _ => ("VirtualRewrite$Question", "spans", "I", false)
def t_X4 : Nat → FieldType := fun k => match k with
  | 0 => (.array .int)
  | 1 => (.array .int)
  | 2 => (.array .int)
  | 3 => (.array .int)
  | 4 => .int
  | _ => .int
theorem nm_X4 : ∀ a, a < 6 → ∀ b, b < 6 → a ≠ b → (T_X4 a).2.1 ≠ (T_X4 b).2.1 := by decide +kernel
theorem ty_X4 : ∀ k, k < 6 → parseFieldDescriptor (T_X4 k).2.2.1 = some (t_X4 k) := by decide +kernel
def T_X5 : u_T := fun k => match k with
  | 0 => ("VirtualRewrite$Rewriting", "catalog", "LVirtualRewrite$Catalog;", true)
  | 1 => ("VirtualRewrite$Rewriting", "question", "LVirtualRewrite$Question;", true)
  | 2 => ("VirtualRewrite$Rewriting", "kept", "[I", true)
  | 3 => ("VirtualRewrite$Rewriting", "trial", "[I", true)
  | 4 => ("VirtualRewrite$Rewriting", "templates", "[I", true)
  | 5 => ("VirtualRewrite$Rewriting", "size", "I", false)
  | 6 => ("VirtualRewrite$Rewriting", "large", "Z", false)
  | _ => ("VirtualRewrite$Rewriting", "known", "Z", false)
def t_X5 : Nat → FieldType := fun k => match k with
  | 0 => (.object "VirtualRewrite$Catalog")
  | 1 => (.object "VirtualRewrite$Question")
  | 2 => (.array .int)
  | 3 => (.array .int)
  | 4 => (.array .int)
  | 5 => .int
  | 6 => .boolean
  | _ => .boolean
theorem nm_X5 : ∀ a, a < 8 → ∀ b, b < 8 → a ≠ b → (T_X5 a).2.1 ≠ (T_X5 b).2.1 := by decide +kernel
theorem ty_X5 : ∀ k, k < 8 → parseFieldDescriptor (T_X5 k).2.2.1 = some (t_X5 k) := by decide +kernel
def T_X6 : u_T := fun k => match k with
  | 0 => ("VirtualRewrite$Slots", "catalog", "LVirtualRewrite$Catalog;", true)
  | 1 => ("VirtualRewrite$Slots", "question", "LVirtualRewrite$Question;", true)
  | 2 => ("VirtualRewrite$Slots", "rewriting", "LVirtualRewrite$Rewriting;", true)
  | 3 => ("VirtualRewrite$Slots", "slotOf", "[I", true)
  | _ => ("VirtualRewrite$Slots", "count", "I", false)
def t_X6 : Nat → FieldType := fun k => match k with
  | 0 => (.object "VirtualRewrite$Catalog")
  | 1 => (.object "VirtualRewrite$Question")
  | 2 => (.object "VirtualRewrite$Rewriting")
  | 3 => (.array .int)
  | _ => .int
theorem nm_X6 : ∀ a, a < 5 → ∀ b, b < 5 → a ≠ b → (T_X6 a).2.1 ≠ (T_X6 b).2.1 := by decide +kernel
theorem ty_X6 : ∀ k, k < 5 → parseFieldDescriptor (T_X6 k).2.2.1 = some (t_X6 k) := by decide +kernel
def T_X7 : u_T := fun k => match k with
  | 0 => ("VirtualRewrite$Answers", "codes", "[I", true)
  | 1 => ("VirtualRewrite$Answers", "order", "[I", true)
  | 2 => ("VirtualRewrite$Answers", "finders", "[I", true)
  | 3 => ("VirtualRewrite$Answers", "firsts", "[I", true)
  | 4 => ("VirtualRewrite$Answers", "size", "I", false)
  | 5 => ("VirtualRewrite$Answers", "variables", "I", false)
  | _ => ("VirtualRewrite$Answers", "large", "Z", false)
def t_X7 : Nat → FieldType := fun k => match k with
  | 0 => (.array .int)
  | 1 => (.array .int)
  | 2 => (.array .int)
  | 3 => (.array .int)
  | 4 => .int
  | 5 => .int
  | _ => .boolean
theorem nm_X7 : ∀ a, a < 7 → ∀ b, b < 7 → a ≠ b → (T_X7 a).2.1 ≠ (T_X7 b).2.1 := by decide +kernel
theorem ty_X7 : ∀ k, k < 7 → parseFieldDescriptor (T_X7 k).2.2.1 = some (t_X7 k) := by decide +kernel
def T_X8 : u_T := fun k => match k with
  | 0 => ("VirtualRewrite$Finder", "question", "LVirtualRewrite$Question;", true)
  | 1 => ("VirtualRewrite$Finder", "rewriting", "LVirtualRewrite$Rewriting;", true)
  | 2 => ("VirtualRewrite$Finder", "slots", "LVirtualRewrite$Slots;", true)
  | 3 => ("VirtualRewrite$Finder", "answers", "LVirtualRewrite$Answers;", true)
  | 4 => ("VirtualRewrite$Finder", "atomOf", "[I", true)
  | 5 => ("VirtualRewrite$Finder", "variables", "[I", true)
  | 6 => ("VirtualRewrite$Finder", "columns", "[I", true)
  | 7 => ("VirtualRewrite$Finder", "rows", "[I", true)
  | 8 => ("VirtualRewrite$Finder", "rowCounts", "[I", true)
  | 9 => ("VirtualRewrite$Finder", "order", "[I", true)
  | 10 => ("VirtualRewrite$Finder", "templates", "[I", true)
  | 11 => ("VirtualRewrite$Finder", "codes", "[I", true)
  | _ => ("VirtualRewrite$Finder", "union", "I", false)
def t_X8 : Nat → FieldType := fun k => match k with
  | 0 => (.object "VirtualRewrite$Question")
  | 1 => (.object "VirtualRewrite$Rewriting")
  | 2 => (.object "VirtualRewrite$Slots")
  | 3 => (.object "VirtualRewrite$Answers")
  | 4 => (.array .int)
  | 5 => (.array .int)
  | 6 => (.array .int)
  | 7 => (.array .int)
  | 8 => (.array .int)
  | 9 => (.array .int)
  | 10 => (.array .int)
  | 11 => (.array .int)
  | _ => .int
theorem nm_X8 : ∀ a, a < 13 → ∀ b, b < 13 → a ≠ b → (T_X8 a).2.1 ≠ (T_X8 b).2.1 := by decide +kernel
theorem ty_X8 : ∀ k, k < 13 → parseFieldDescriptor (T_X8 k).2.2.1 = some (t_X8 k) := by decide +kernel
def T_X9 : u_T := fun k => match k with
  | 0 => ("VirtualRewriteModel", "thrown", "I", false)
  | 1 => ("VirtualRewriteModel", "rows", "[I", true)
  | 2 => ("VirtualRewriteModel", "many", "[I", true)
  | 3 => ("VirtualRewriteModel", "keys", "[Z", true)
  | 4 => ("VirtualRewriteModel", "mappings", "I", false)
  | 5 => ("VirtualRewriteModel", "tables", "[I", true)
  | 6 => ("VirtualRewriteModel", "predicates", "[I", true)
  | 7 => ("VirtualRewriteModel", "templates", "[I", true)
  | 8 => ("VirtualRewriteModel", "columns", "[I", true)
  | 9 => ("VirtualRewriteModel", "atoms", "I", false)
  | 10 => ("VirtualRewriteModel", "asked", "[I", true)
  | 11 => ("VirtualRewriteModel", "places", "[I", true)
  | 12 => ("VirtualRewriteModel", "spans", "I", false)
  | 13 => ("VirtualRewriteModel", "spanOf", "[I", true)
  | 14 => ("VirtualRewriteModel", "spanFrom", "[I", true)
  | 15 => ("VirtualRewriteModel", "spanTo", "[I", true)
  | 16 => ("VirtualRewriteModel", "unions", "I", false)
  | 17 => ("VirtualRewriteModel", "chosen", "[I", true)
  | 18 => ("VirtualRewriteModel", "slotOf", "[I", true)
  | 19 => ("VirtualRewriteModel", "slots", "[I", true)
  | 20 => ("VirtualRewriteModel", "given", "[I", true)
  | 21 => ("VirtualRewriteModel", "numbers", "[I", true)
  | 22 => ("VirtualRewriteModel", "kinds", "[I", true)
  | 23 => ("VirtualRewriteModel", "answers", "I", false)
  | 24 => ("VirtualRewriteModel", "has", "[Z", true)
  | 25 => ("VirtualRewriteModel", "codes", "[I", true)
  | 26 => ("VirtualRewriteModel", "finders", "[I", true)
  | 27 => ("VirtualRewriteModel", "firsts", "[I", true)
  | _ => ("VirtualRewriteModel", "lasts", "[I", true)
def t_X9 : Nat → FieldType := fun k => match k with
  | 0 => .int
  | 1 => (.array .int)
  | 2 => (.array .int)
  | 3 => (.array .boolean)
  | 4 => .int
  | 5 => (.array .int)
  | 6 => (.array .int)
  | 7 => (.array .int)
  | 8 => (.array .int)
  | 9 => .int
  | 10 => (.array .int)
  | 11 => (.array .int)
  | 12 => .int
  | 13 => (.array .int)
  | 14 => (.array .int)
  | 15 => (.array .int)
  | 16 => .int
  | 17 => (.array .int)
  | 18 => (.array .int)
  | 19 => (.array .int)
  | 20 => (.array .int)
  | 21 => (.array .int)
  | 22 => (.array .int)
  | 23 => .int
  | 24 => (.array .boolean)
  | 25 => (.array .int)
  | 26 => (.array .int)
  | 27 => (.array .int)
  | _ => (.array .int)
theorem nm_X9 : ∀ a, a < 29 → ∀ b, b < 29 → a ≠ b → (T_X9 a).2.1 ≠ (T_X9 b).2.1 := by decide +kernel
theorem ty_X9 : ∀ k, k < 29 → parseFieldDescriptor (T_X9 k).2.2.1 = some (t_X9 k) := by decide +kernel
abbrev cl_ : List vw_C := [("VirtualRewrite", T_X0, 6), ("VirtualRewrite$Catalog", T_X1, 5), ("VirtualRewrite$Table", T_X2, 3), ("VirtualRewrite$Mapping", T_X3, 4), ("VirtualRewrite$Question", T_X4, 6), ("VirtualRewrite$Rewriting", T_X5, 8), ("VirtualRewrite$Slots", T_X6, 5), ("VirtualRewrite$Answers", T_X7, 7), ("VirtualRewrite$Finder", T_X8, 13), ("VirtualRewriteModel", T_X9, 29)]
abbrev tys_ (ki : Nat → ClassId) : List (ClassId × FieldType) := [(ki 0, .int), (ki 1, .boolean), (ki 2, .long), (ki 3, (.object "VirtualRewrite$Table")), (ki 4, (.object "VirtualRewrite$Mapping"))]
def T0_ : List Cond := lw_tbl.filter goodWord
theorem T0_good : ∀ w ∈ T0_, (w.onTables && w.keeps) = true ∨ ∃ ty, w = .arrayClass ty := fun w hw => good_of_word (List.mem_filter.mp hw).2
theorem T0_in : ∀ w ∈ T0_, w ∈ lw_tbl := fun w hw => (List.mem_filter.mp hw).1
theorem mem_T0 {w : Cond} (i : Nat) (h : lw_tbl[i]? = some w) (hg : goodWord w = true) : w ∈ T0_ := List.mem_filter.mpr ⟨List.mem_of_getElem? h, hg⟩
def NM_ : List (String × Nat × MethodName × String) := [("VirtualRewrite$Catalog", 34, (⟨"VirtualRewrite$Table", "<init>", "()V"⟩ : MethodName), "VirtualRewrite"), ("VirtualRewrite$Catalog", 35, (⟨"VirtualRewrite$Mapping", "<init>", "()V"⟩ : MethodName), "VirtualRewrite"), ("VirtualRewrite", 43, (⟨"VirtualRewrite$Answers", "<init>", "()V"⟩ : MethodName), "VirtualRewrite"), ("VirtualRewrite$Rewriting", 93, (⟨"VirtualRewrite", "isVariable", "(I)Z"⟩ : MethodName), "VirtualRewrite"), ("VirtualRewrite$Rewriting", 97, (⟨"VirtualRewrite", "variableOf", "(I)I"⟩ : MethodName), "VirtualRewrite"), ("VirtualRewrite$Rewriting", 101, (⟨"VirtualRewrite", "has", "(II)Z"⟩ : MethodName), "VirtualRewrite"), ("VirtualRewrite$Rewriting", 105, (⟨"VirtualRewrite", "with", "(II)I"⟩ : MethodName), "VirtualRewrite"), ("VirtualRewrite$Question", 40, (⟨"VirtualRewrite", "isVariable", "(I)Z"⟩ : MethodName), "VirtualRewrite"), ("VirtualRewrite$Question", 44, (⟨"VirtualRewrite", "variableOf", "(I)I"⟩ : MethodName), "VirtualRewrite"), ("VirtualRewrite$Question", 48, (⟨"VirtualRewrite", "with", "(II)I"⟩ : MethodName), "VirtualRewrite"), ("VirtualRewrite$Finder", 89, (⟨"VirtualRewrite", "isVariable", "(I)Z"⟩ : MethodName), "VirtualRewrite"), ("VirtualRewrite$Finder", 97, (⟨"VirtualRewrite", "variableOf", "(I)I"⟩ : MethodName), "VirtualRewrite"), ("VirtualRewrite$Finder", 111, (⟨"VirtualRewrite", "with", "(II)I"⟩ : MethodName), "VirtualRewrite"), ("VirtualRewrite$Finder", 173, (⟨"VirtualRewrite", "has", "(II)Z"⟩ : MethodName), "VirtualRewrite")]
def AO_ : List String := ["VirtualRewrite$Table", "VirtualRewrite$Mapping"]
theorem uw_X0 : ∀ w ∈ u_ws "VirtualRewrite" T_X0 6, w ∈ T0_ := by decide +kernel
theorem uw_X1 : ∀ w ∈ u_ws "VirtualRewrite$Catalog" T_X1 5, w ∈ T0_ := by decide +kernel
theorem uw_X2 : ∀ w ∈ u_ws "VirtualRewrite$Table" T_X2 3, w ∈ T0_ := by decide +kernel
theorem uw_X3 : ∀ w ∈ u_ws "VirtualRewrite$Mapping" T_X3 4, w ∈ T0_ := by decide +kernel
theorem uw_X4 : ∀ w ∈ u_ws "VirtualRewrite$Question" T_X4 6, w ∈ T0_ := by decide +kernel
theorem uw_X5 : ∀ w ∈ u_ws "VirtualRewrite$Rewriting" T_X5 8, w ∈ T0_ := by decide +kernel
theorem uw_X6 : ∀ w ∈ u_ws "VirtualRewrite$Slots" T_X6 5, w ∈ T0_ := by decide +kernel
theorem uw_X7 : ∀ w ∈ u_ws "VirtualRewrite$Answers" T_X7 7, w ∈ T0_ := by decide +kernel
theorem uw_X8 : ∀ w ∈ u_ws "VirtualRewrite$Finder" T_X8 13, w ∈ T0_ := by decide +kernel
theorem uw_X9 : ∀ w ∈ u_ws "VirtualRewriteModel" T_X9 29, w ∈ T0_ := by decide +kernel
