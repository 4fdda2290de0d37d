section
-- ===== PART A: goes FIRST, ahead of the names: the tables' words, and 'selects' of the private methods out of them =====
/-- a private method of a class that the tables say can be made, by its rows of tables_1 -/
def lw_okq (q : MethodName × Nat) : Prop := (q.1.cls ≠ "java/lang/invoke/MethodHandle" ∧ q.1.cls ≠ "java/lang/invoke/VarHandle") ∧ Cond.instantiable q.1.cls q.2 ∈ tables_1 ∧ Cond.privateMethod q.1 ∈ tables_1 ∧ Cond.instanceMethod q.1 ∈ tables_1
theorem lw_p0 : lw_okq (⟨"VirtualRewrite$Rewriting", "extend", "(II)V"⟩, 8) := ⟨⟨by decide +kernel, by decide +kernel⟩, List.mem_of_getElem? (i := 143) (by decide +kernel), List.mem_of_getElem? (i := 418) (by decide +kernel), List.mem_of_getElem? (i := 419) (by decide +kernel)⟩
theorem lw_p1 : lw_okq (⟨"VirtualRewrite$Rewriting", "keep", "()V"⟩, 8) := ⟨⟨by decide +kernel, by decide +kernel⟩, List.mem_of_getElem? (i := 143) (by decide +kernel), List.mem_of_getElem? (i := 422) (by decide +kernel), List.mem_of_getElem? (i := 423) (by decide +kernel)⟩
theorem lw_p2 : lw_okq (⟨"VirtualRewrite$Rewriting", "settle", "(ILVirtualRewrite$Mapping;I)I"⟩, 8) := ⟨⟨by decide +kernel, by decide +kernel⟩, List.mem_of_getElem? (i := 143) (by decide +kernel), List.mem_of_getElem? (i := 427) (by decide +kernel), List.mem_of_getElem? (i := 428) (by decide +kernel)⟩
theorem lw_p3 : lw_okq (⟨"VirtualRewrite", "isAsked", "(I)Z"⟩, 6) := ⟨⟨by decide +kernel, by decide +kernel⟩, List.mem_of_getElem? (i := 19) (by decide +kernel), List.mem_of_getElem? (i := 451) (by decide +kernel), List.mem_of_getElem? (i := 452) (by decide +kernel)⟩
theorem lw_p4 : lw_okq (⟨"VirtualRewrite", "troubleWith", "(I)I"⟩, 6) := ⟨⟨by decide +kernel, by decide +kernel⟩, List.mem_of_getElem? (i := 19) (by decide +kernel), List.mem_of_getElem? (i := 455) (by decide +kernel), List.mem_of_getElem? (i := 456) (by decide +kernel)⟩
theorem lw_p5 : lw_okq (⟨"VirtualRewrite$Slots", "leastOfOneRow", "(II)I"⟩, 5) := ⟨⟨by decide +kernel, by decide +kernel⟩, List.mem_of_getElem? (i := 176) (by decide +kernel), List.mem_of_getElem? (i := 467) (by decide +kernel), List.mem_of_getElem? (i := 468) (by decide +kernel)⟩
theorem lw_p6 : lw_okq (⟨"VirtualRewrite$Slots", "areOfOneRow", "(III)Z"⟩, 5) := ⟨⟨by decide +kernel, by decide +kernel⟩, List.mem_of_getElem? (i := 176) (by decide +kernel), List.mem_of_getElem? (i := 471) (by decide +kernel), List.mem_of_getElem? (i := 472) (by decide +kernel)⟩
theorem lw_p7 : lw_okq (⟨"VirtualRewrite$Finder", "layOut", "()V"⟩, 13) := ⟨⟨by decide +kernel, by decide +kernel⟩, List.mem_of_getElem? (i := 234) (by decide +kernel), List.mem_of_getElem? (i := 516) (by decide +kernel), List.mem_of_getElem? (i := 517) (by decide +kernel)⟩
theorem lw_p8 : lw_okq (⟨"VirtualRewrite$Finder", "layOutVariable", "(II)V"⟩, 13) := ⟨⟨by decide +kernel, by decide +kernel⟩, List.mem_of_getElem? (i := 234) (by decide +kernel), List.mem_of_getElem? (i := 522) (by decide +kernel), List.mem_of_getElem? (i := 523) (by decide +kernel)⟩
theorem lw_p9 : lw_okq (⟨"VirtualRewrite$Finder", "gatherRows", "(I)V"⟩, 13) := ⟨⟨by decide +kernel, by decide +kernel⟩, List.mem_of_getElem? (i := 234) (by decide +kernel), List.mem_of_getElem? (i := 529) (by decide +kernel), List.mem_of_getElem? (i := 530) (by decide +kernel)⟩
theorem lw_p10 : lw_okq (⟨"VirtualRewrite$Finder", "tableOf", "(I)LVirtualRewrite$Table;"⟩, 13) := ⟨⟨by decide +kernel, by decide +kernel⟩, List.mem_of_getElem? (i := 234) (by decide +kernel), List.mem_of_getElem? (i := 533) (by decide +kernel), List.mem_of_getElem? (i := 534) (by decide +kernel)⟩
theorem lw_p11 : lw_okq (⟨"VirtualRewrite$Finder", "suits", "(ILVirtualRewrite$Table;I)Z"⟩, 13) := ⟨⟨by decide +kernel, by decide +kernel⟩, List.mem_of_getElem? (i := 234) (by decide +kernel), List.mem_of_getElem? (i := 538) (by decide +kernel), List.mem_of_getElem? (i := 539) (by decide +kernel)⟩
theorem lw_p12 : lw_okq (⟨"VirtualRewrite$Finder", "suitsAtom", "(ILVirtualRewrite$Table;I)Z"⟩, 13) := ⟨⟨by decide +kernel, by decide +kernel⟩, List.mem_of_getElem? (i := 234) (by decide +kernel), List.mem_of_getElem? (i := 542) (by decide +kernel), List.mem_of_getElem? (i := 543) (by decide +kernel)⟩
theorem lw_p13 : lw_okq (⟨"VirtualRewrite$Finder", "isTold", "(ILVirtualRewrite$Table;II)Z"⟩, 13) := ⟨⟨by decide +kernel, by decide +kernel⟩, List.mem_of_getElem? (i := 234) (by decide +kernel), List.mem_of_getElem? (i := 551) (by decide +kernel), List.mem_of_getElem? (i := 552) (by decide +kernel)⟩
theorem lw_p14 : lw_okq (⟨"VirtualRewrite$Finder", "areAlike", "(ILVirtualRewrite$Table;II)Z"⟩, 13) := ⟨⟨by decide +kernel, by decide +kernel⟩, List.mem_of_getElem? (i := 234) (by decide +kernel), List.mem_of_getElem? (i := 555) (by decide +kernel), List.mem_of_getElem? (i := 556) (by decide +kernel)⟩
theorem lw_p15 : lw_okq (⟨"VirtualRewrite$Finder", "orderSlots", "()V"⟩, 13) := ⟨⟨by decide +kernel, by decide +kernel⟩, List.mem_of_getElem? (i := 234) (by decide +kernel), List.mem_of_getElem? (i := 559) (by decide +kernel), List.mem_of_getElem? (i := 560) (by decide +kernel)⟩
def lw_privs_1 : List (MethodName × Nat) := [(⟨"VirtualRewrite$Rewriting", "extend", "(II)V"⟩, 8), (⟨"VirtualRewrite$Rewriting", "keep", "()V"⟩, 8), (⟨"VirtualRewrite$Rewriting", "settle", "(ILVirtualRewrite$Mapping;I)I"⟩, 8), (⟨"VirtualRewrite", "isAsked", "(I)Z"⟩, 6), (⟨"VirtualRewrite", "troubleWith", "(I)I"⟩, 6), (⟨"VirtualRewrite$Slots", "leastOfOneRow", "(II)I"⟩, 5), (⟨"VirtualRewrite$Slots", "areOfOneRow", "(III)Z"⟩, 5), (⟨"VirtualRewrite$Finder", "layOut", "()V"⟩, 13), (⟨"VirtualRewrite$Finder", "layOutVariable", "(II)V"⟩, 13), (⟨"VirtualRewrite$Finder", "gatherRows", "(I)V"⟩, 13), (⟨"VirtualRewrite$Finder", "tableOf", "(I)LVirtualRewrite$Table;"⟩, 13), (⟨"VirtualRewrite$Finder", "suits", "(ILVirtualRewrite$Table;I)Z"⟩, 13), (⟨"VirtualRewrite$Finder", "suitsAtom", "(ILVirtualRewrite$Table;I)Z"⟩, 13), (⟨"VirtualRewrite$Finder", "isTold", "(ILVirtualRewrite$Table;II)Z"⟩, 13), (⟨"VirtualRewrite$Finder", "areAlike", "(ILVirtualRewrite$Table;II)Z"⟩, 13), (⟨"VirtualRewrite$Finder", "orderSlots", "()V"⟩, 13)]
theorem lw_r1 : ∀ q ∈ lw_privs_1, lw_okq q := List.forall_mem_cons.mpr ⟨lw_p0, List.forall_mem_cons.mpr ⟨lw_p1, List.forall_mem_cons.mpr ⟨lw_p2, List.forall_mem_cons.mpr ⟨lw_p3, List.forall_mem_cons.mpr ⟨lw_p4, List.forall_mem_cons.mpr ⟨lw_p5, List.forall_mem_cons.mpr ⟨lw_p6, List.forall_mem_cons.mpr ⟨lw_p7, List.forall_mem_cons.mpr ⟨lw_p8, List.forall_mem_cons.mpr ⟨lw_p9, List.forall_mem_cons.mpr ⟨lw_p10, List.forall_mem_cons.mpr ⟨lw_p11, List.forall_mem_cons.mpr ⟨lw_p12, List.forall_mem_cons.mpr ⟨lw_p13, List.forall_mem_cons.mpr ⟨lw_p14, List.forall_mem_cons.mpr ⟨lw_p15, fun _ h => absurd h List.not_mem_nil⟩⟩⟩⟩⟩⟩⟩⟩⟩⟩⟩⟩⟩⟩⟩⟩
theorem lw_p16 : lw_okq (⟨"VirtualRewrite$Finder", "isBetter", "(III)Z"⟩, 13) := ⟨⟨by decide +kernel, by decide +kernel⟩, List.mem_of_getElem? (i := 234) (by decide +kernel), List.mem_of_getElem? (i := 563) (by decide +kernel), List.mem_of_getElem? (i := 564) (by decide +kernel)⟩
theorem lw_p17 : lw_okq (⟨"VirtualRewrite$Finder", "search", "(II)I"⟩, 13) := ⟨⟨by decide +kernel, by decide +kernel⟩, List.mem_of_getElem? (i := 234) (by decide +kernel), List.mem_of_getElem? (i := 573) (by decide +kernel), List.mem_of_getElem? (i := 574) (by decide +kernel)⟩
theorem lw_p18 : lw_okq (⟨"VirtualRewrite$Answers", "firstNotBefore", "([I)I"⟩, 7) := ⟨⟨by decide +kernel, by decide +kernel⟩, List.mem_of_getElem? (i := 202) (by decide +kernel), List.mem_of_getElem? (i := 581) (by decide +kernel), List.mem_of_getElem? (i := 582) (by decide +kernel)⟩
theorem lw_p19 : lw_okq (⟨"VirtualRewrite$Answers", "compare", "(I[I)I"⟩, 7) := ⟨⟨by decide +kernel, by decide +kernel⟩, List.mem_of_getElem? (i := 202) (by decide +kernel), List.mem_of_getElem? (i := 585) (by decide +kernel), List.mem_of_getElem? (i := 586) (by decide +kernel)⟩
theorem lw_p20 : lw_okq (⟨"VirtualRewrite$Answers", "insert", "(I[II)V"⟩, 7) := ⟨⟨by decide +kernel, by decide +kernel⟩, List.mem_of_getElem? (i := 202) (by decide +kernel), List.mem_of_getElem? (i := 593) (by decide +kernel), List.mem_of_getElem? (i := 594) (by decide +kernel)⟩
theorem lw_p21 : lw_okq (⟨"VirtualRewrite$Finder", "agrees", "(ILVirtualRewrite$Table;II)Z"⟩, 13) := ⟨⟨by decide +kernel, by decide +kernel⟩, List.mem_of_getElem? (i := 234) (by decide +kernel), List.mem_of_getElem? (i := 598) (by decide +kernel), List.mem_of_getElem? (i := 599) (by decide +kernel)⟩
theorem lw_p22 : lw_okq (⟨"VirtualRewrite$Finder", "settleVariables", "(ILVirtualRewrite$Table;I)V"⟩, 13) := ⟨⟨by decide +kernel, by decide +kernel⟩, List.mem_of_getElem? (i := 234) (by decide +kernel), List.mem_of_getElem? (i := 603) (by decide +kernel), List.mem_of_getElem? (i := 604) (by decide +kernel)⟩
theorem lw_p23 : lw_okq (⟨"java/lang/Throwable", "fillInStackTrace", "(I)Ljava/lang/Throwable;"⟩, 6) := ⟨⟨by decide +kernel, by decide +kernel⟩, List.mem_of_getElem? (i := 664) (by decide +kernel), List.mem_of_getElem? (i := 662) (by decide +kernel), List.mem_of_getElem? (i := 663) (by decide +kernel)⟩
theorem lw_p24 : lw_okq (⟨"VirtualRewriteModel", "count", "(III)I"⟩, 29) := ⟨⟨by decide +kernel, by decide +kernel⟩, List.mem_of_getElem? (i := 695) (by decide +kernel), List.mem_of_getElem? (i := 796) (by decide +kernel), List.mem_of_getElem? (i := 797) (by decide +kernel)⟩
theorem lw_p25 : lw_okq (⟨"VirtualRewriteModel", "code", "(III)I"⟩, 29) := ⟨⟨by decide +kernel, by decide +kernel⟩, List.mem_of_getElem? (i := 695) (by decide +kernel), List.mem_of_getElem? (i := 816) (by decide +kernel), List.mem_of_getElem? (i := 817) (by decide +kernel)⟩
theorem lw_p26 : lw_okq (⟨"VirtualRewriteModel", "makeUnions", "()Z"⟩, 29) := ⟨⟨by decide +kernel, by decide +kernel⟩, List.mem_of_getElem? (i := 695) (by decide +kernel), List.mem_of_getElem? (i := 840) (by decide +kernel), List.mem_of_getElem? (i := 841) (by decide +kernel)⟩
theorem lw_p27 : lw_okq (⟨"VirtualRewriteModel", "canMeet", "(I)Z"⟩, 29) := ⟨⟨by decide +kernel, by decide +kernel⟩, List.mem_of_getElem? (i := 695) (by decide +kernel), List.mem_of_getElem? (i := 844) (by decide +kernel), List.mem_of_getElem? (i := 845) (by decide +kernel)⟩
theorem lw_p28 : lw_okq (⟨"VirtualRewriteModel", "giveSlots", "(I)V"⟩, 29) := ⟨⟨by decide +kernel, by decide +kernel⟩, List.mem_of_getElem? (i := 695) (by decide +kernel), List.mem_of_getElem? (i := 848) (by decide +kernel), List.mem_of_getElem? (i := 849) (by decide +kernel)⟩
theorem lw_p29 : lw_okq (⟨"VirtualRewriteModel", "isOneRow", "(III)Z"⟩, 29) := ⟨⟨by decide +kernel, by decide +kernel⟩, List.mem_of_getElem? (i := 695) (by decide +kernel), List.mem_of_getElem? (i := 852) (by decide +kernel), List.mem_of_getElem? (i := 853) (by decide +kernel)⟩
theorem lw_p30 : lw_okq (⟨"VirtualRewriteModel", "tableOf", "(II)I"⟩, 29) := ⟨⟨by decide +kernel, by decide +kernel⟩, List.mem_of_getElem? (i := 695) (by decide +kernel), List.mem_of_getElem? (i := 864) (by decide +kernel), List.mem_of_getElem? (i := 865) (by decide +kernel)⟩
theorem lw_p31 : lw_okq (⟨"VirtualRewriteModel", "find", "(I)V"⟩, 29) := ⟨⟨by decide +kernel, by decide +kernel⟩, List.mem_of_getElem? (i := 695) (by decide +kernel), List.mem_of_getElem? (i := 872) (by decide +kernel), List.mem_of_getElem? (i := 873) (by decide +kernel)⟩
def lw_privs_2 : List (MethodName × Nat) := [(⟨"VirtualRewrite$Finder", "isBetter", "(III)Z"⟩, 13), (⟨"VirtualRewrite$Finder", "search", "(II)I"⟩, 13), (⟨"VirtualRewrite$Answers", "firstNotBefore", "([I)I"⟩, 7), (⟨"VirtualRewrite$Answers", "compare", "(I[I)I"⟩, 7), (⟨"VirtualRewrite$Answers", "insert", "(I[II)V"⟩, 7), (⟨"VirtualRewrite$Finder", "agrees", "(ILVirtualRewrite$Table;II)Z"⟩, 13), (⟨"VirtualRewrite$Finder", "settleVariables", "(ILVirtualRewrite$Table;I)V"⟩, 13), (⟨"java/lang/Throwable", "fillInStackTrace", "(I)Ljava/lang/Throwable;"⟩, 6), (⟨"VirtualRewriteModel", "count", "(III)I"⟩, 29), (⟨"VirtualRewriteModel", "code", "(III)I"⟩, 29), (⟨"VirtualRewriteModel", "makeUnions", "()Z"⟩, 29), (⟨"VirtualRewriteModel", "canMeet", "(I)Z"⟩, 29), (⟨"VirtualRewriteModel", "giveSlots", "(I)V"⟩, 29), (⟨"VirtualRewriteModel", "isOneRow", "(III)Z"⟩, 29), (⟨"VirtualRewriteModel", "tableOf", "(II)I"⟩, 29), (⟨"VirtualRewriteModel", "find", "(I)V"⟩, 29)]
theorem lw_r2 : ∀ q ∈ lw_privs_2, lw_okq q := List.forall_mem_cons.mpr ⟨lw_p16, List.forall_mem_cons.mpr ⟨lw_p17, List.forall_mem_cons.mpr ⟨lw_p18, List.forall_mem_cons.mpr ⟨lw_p19, List.forall_mem_cons.mpr ⟨lw_p20, List.forall_mem_cons.mpr ⟨lw_p21, List.forall_mem_cons.mpr ⟨lw_p22, List.forall_mem_cons.mpr ⟨lw_p23, List.forall_mem_cons.mpr ⟨lw_p24, List.forall_mem_cons.mpr ⟨lw_p25, List.forall_mem_cons.mpr ⟨lw_p26, List.forall_mem_cons.mpr ⟨lw_p27, List.forall_mem_cons.mpr ⟨lw_p28, List.forall_mem_cons.mpr ⟨lw_p29, List.forall_mem_cons.mpr ⟨lw_p30, List.forall_mem_cons.mpr ⟨lw_p31, fun _ h => absurd h List.not_mem_nil⟩⟩⟩⟩⟩⟩⟩⟩⟩⟩⟩⟩⟩⟩⟩⟩
theorem lw_p32 : lw_okq (⟨"VirtualRewriteModel", "agree", "(II)Z"⟩, 29) := ⟨⟨by decide +kernel, by decide +kernel⟩, List.mem_of_getElem? (i := 695) (by decide +kernel), List.mem_of_getElem? (i := 876) (by decide +kernel), List.mem_of_getElem? (i := 877) (by decide +kernel)⟩
theorem lw_p33 : lw_okq (⟨"VirtualRewriteModel", "keep", "(I)V"⟩, 29) := ⟨⟨by decide +kernel, by decide +kernel⟩, List.mem_of_getElem? (i := 695) (by decide +kernel), List.mem_of_getElem? (i := 880) (by decide +kernel), List.mem_of_getElem? (i := 881) (by decide +kernel)⟩
theorem lw_p34 : lw_okq (⟨"VirtualRewriteModel", "compare", "(I)I"⟩, 29) := ⟨⟨by decide +kernel, by decide +kernel⟩, List.mem_of_getElem? (i := 695) (by decide +kernel), List.mem_of_getElem? (i := 884) (by decide +kernel), List.mem_of_getElem? (i := 885) (by decide +kernel)⟩
def lw_privs_3 : List (MethodName × Nat) := [(⟨"VirtualRewriteModel", "agree", "(II)Z"⟩, 29), (⟨"VirtualRewriteModel", "keep", "(I)V"⟩, 29), (⟨"VirtualRewriteModel", "compare", "(I)I"⟩, 29)]
theorem lw_r3 : ∀ q ∈ lw_privs_3, lw_okq q := List.forall_mem_cons.mpr ⟨lw_p32, List.forall_mem_cons.mpr ⟨lw_p33, List.forall_mem_cons.mpr ⟨lw_p34, fun _ h => absurd h List.not_mem_nil⟩⟩⟩
def lw_privs : List (MethodName × Nat) := lw_privs_1 ++ (lw_privs_2 ++ (lw_privs_3))
def lw_tbl : List Cond := k2_sels lw_privs ++ tables_1
theorem lw_privs_ok : ∀ q ∈ lw_privs, lw_okq q := by
  show ∀ q ∈ lw_privs_1 ++ (lw_privs_2 ++ (lw_privs_3)), lw_okq q
  exact List.forall_mem_append.mpr ⟨lw_r1, List.forall_mem_append.mpr ⟨lw_r2, lw_r3⟩⟩
end
section
def T_X0 : u_T := fun k => match k with
  | 0 => ("VirtualRewrite", "catalog", "LVirtualRewrite$Catalog;", true)
  | 1 => ("VirtualRewrite", "question", "LVirtualRewrite$Question;", true)
  | 2 => ("VirtualRewrite", "rewriting", "LVirtualRewrite$Rewriting;", true)
  | 3 => ("VirtualRewrite", "slots", "LVirtualRewrite$Slots;", true)
  | 4 => ("VirtualRewrite", "answers", "LVirtualRewrite$Answers;", true)
  | _ => ("VirtualRewrite", "finder", "LVirtualRewrite$Finder;", true)
def t_X0 : Nat → FieldType := fun k => match k with
  | 0 => (.object "VirtualRewrite$Catalog")
  | 1 => (.object "VirtualRewrite$Question")
  | 2 => (.object "VirtualRewrite$Rewriting")
  | 3 => (.object "VirtualRewrite$Slots")
  | 4 => (.object "VirtualRewrite$Answers")
  | _ => (.object "VirtualRewrite$Finder")
theorem nm_X0 : ∀ a, a < 6 → ∀ b, b < 6 → a ≠ b → (T_X0 a).2.1 ≠ (T_X0 b).2.1 := by decide +kernel
theorem ty_X0 : ∀ k, k < 6 → parseFieldDescriptor (T_X0 k).2.2.1 = some (t_X0 k) := by decide +kernel
def T_X1 : u_T := fun k => match k with
  | 0 => ("VirtualRewrite$Catalog", "tables", "[LVirtualRewrite$Table;", true)
  | 1 => ("VirtualRewrite$Catalog", "mappings", "[LVirtualRewrite$Mapping;", true)
  | 2 => ("VirtualRewrite$Catalog", "triples", "[J", true)
  | 3 => ("VirtualRewrite$Catalog", "size", "I", false)
  | _ => ("VirtualRewrite$Catalog", "tripleCount", "I", false)
def t_X1 : Nat → FieldType := fun k => match k with
  | 0 => (.array (.object "VirtualRewrite$Table"))
  | 1 => (.array (.object "VirtualRewrite$Mapping"))
  | 2 => (.array .long)
  | 3 => .int
  | _ => .int
theorem nm_X1 : ∀ a, a < 5 → ∀ b, b < 5 → a ≠ b → (T_X1 a).2.1 ≠ (T_X1 b).2.1 := by decide +kernel
theorem ty_X1 : ∀ k, k < 5 → parseFieldDescriptor (T_X1 k).2.2.1 = some (t_X1 k) := by decide +kernel
def T_X2 : u_T := fun k => match k with
  | 0 => ("VirtualRewrite$Table", "cells", "[I", true)
  | 1 => ("VirtualRewrite$Table", "isKey", "[Z", true)
  | _ => ("VirtualRewrite$Table", "size", "I", false)
def t_X2 : Nat → FieldType := fun k => match k with
  | 0 => (.array .int)
  | 1 => (.array .boolean)
  | _ => .int
theorem nm_X2 : ∀ a, a < 3 → ∀ b, b < 3 → a ≠ b → (T_X2 a).2.1 ≠ (T_X2 b).2.1 := by decide +kernel
theorem ty_X2 : ∀ k, k < 3 → parseFieldDescriptor (T_X2 k).2.2.1 = some (t_X2 k) := by decide +kernel
def T_X3 : u_T := fun k => match k with
  | 0 => ("VirtualRewrite$Mapping", "templates", "[I", true)
  | 1 => ("VirtualRewrite$Mapping", "columns", "[I", true)
  | 2 => ("VirtualRewrite$Mapping", "table", "I", false)
  | _ => ("VirtualRewrite$Mapping", "predicate", "I", false)
def t_X3 : Nat → FieldType := fun k => match k with
  | 0 => (.array .int)
  | 1 => (.array .int)
  | 2 => .int
  | _ => .int
theorem nm_X3 : ∀ a, a < 4 → ∀ b, b < 4 → a ≠ b → (T_X3 a).2.1 ≠ (T_X3 b).2.1 := by decide +kernel
theorem ty_X3 : ∀ k, k < 4 → parseFieldDescriptor (T_X3 k).2.2.1 = some (t_X3 k) := by decide +kernel
def T_X4 : u_T := fun k => match k with
  | 0 => ("VirtualRewrite$Question", "predicates", "[I", true)
  | 1 => ("VirtualRewrite$Question", "places", "[I", true)
  | 2 => ("VirtualRewrite$Question", "least", "[I", true)
  | 3 => ("VirtualRewrite$Question", "most", "[I", true)
  | 4 => ("VirtualRewrite$Question", "atoms", "I", false)
  | _ => ("VirtualRewrite$Question", "spans", "I", false)
def t_X4 : Nat → FieldType := fun k => match k with
  | 0 => (.array .int)
  | 1 => (.array .int)
  | 2 => (.array .int)
  | 3 => (.array .int)
  | 4 => .int
  | _ => .int
theorem nm_X4 : ∀ a, a < 6 → ∀ b, b < 6 → a ≠ b → (T_X4 a).2.1 ≠ (T_X4 b).2.1 := by decide +kernel
theorem ty_X4 : ∀ k, k < 6 → parseFieldDescriptor (T_X4 k).2.2.1 = some (t_X4 k) := by decide +kernel
def T_X5 : u_T := fun k => match k with
  | 0 => ("VirtualRewrite$Rewriting", "catalog", "LVirtualRewrite$Catalog;", true)
  | 1 => ("VirtualRewrite$Rewriting", "question", "LVirtualRewrite$Question;", true)
  | 2 => ("VirtualRewrite$Rewriting", "kept", "[I", true)
  | 3 => ("VirtualRewrite$Rewriting", "trial", "[I", true)
  | 4 => ("VirtualRewrite$Rewriting", "templates", "[I", true)
  | 5 => ("VirtualRewrite$Rewriting", "size", "I", false)
  | 6 => ("VirtualRewrite$Rewriting", "large", "Z", false)
  | _ => ("VirtualRewrite$Rewriting", "known", "Z", false)
def t_X5 : Nat → FieldType := fun k => match k with
  | 0 => (.object "VirtualRewrite$Catalog")
  | 1 => (.object "VirtualRewrite$Question")
  | 2 => (.array .int)
  | 3 => (.array .int)
  | 4 => (.array .int)
  | 5 => .int
  | 6 => .boolean
  | _ => .boolean
theorem nm_X5 : ∀ a, a < 8 → ∀ b, b < 8 → a ≠ b → (T_X5 a).2.1 ≠ (T_X5 b).2.1 := by decide +kernel
theorem ty_X5 : ∀ k, k < 8 → parseFieldDescriptor (T_X5 k).2.2.1 = some (t_X5 k) := by decide +kernel
def T_X6 : u_T := fun k => match k with
  | 0 => ("VirtualRewrite$Slots", "catalog", "LVirtualRewrite$Catalog;", true)
  | 1 => ("VirtualRewrite$Slots", "question", "LVirtualRewrite$Question;", true)
  | 2 => ("VirtualRewrite$Slots", "rewriting", "LVirtualRewrite$Rewriting;", true)
  | 3 => ("VirtualRewrite$Slots", "slotOf", "[I", true)
  | _ => ("VirtualRewrite$Slots", "count", "I", false)
def t_X6 : Nat → FieldType := fun k => match k with
  | 0 => (.object "VirtualRewrite$Catalog")
  | 1 => (.object "VirtualRewrite$Question")
  | 2 => (.object "VirtualRewrite$Rewriting")
  | 3 => (.array .int)
  | _ => .int
theorem nm_X6 : ∀ a, a < 5 → ∀ b, b < 5 → a ≠ b → (T_X6 a).2.1 ≠ (T_X6 b).2.1 := by decide +kernel
theorem ty_X6 : ∀ k, k < 5 → parseFieldDescriptor (T_X6 k).2.2.1 = some (t_X6 k) := by decide +kernel
def T_X7 : u_T := fun k => match k with
  | 0 => ("VirtualRewrite$Answers", "codes", "[I", true)
  | 1 => ("VirtualRewrite$Answers", "order", "[I", true)
  | 2 => ("VirtualRewrite$Answers", "finders", "[I", true)
  | 3 => ("VirtualRewrite$Answers", "firsts", "[I", true)
  | 4 => ("VirtualRewrite$Answers", "size", "I", false)
  | 5 => ("VirtualRewrite$Answers", "variables", "I", false)
  | _ => ("VirtualRewrite$Answers", "large", "Z", false)
def t_X7 : Nat → FieldType := fun k => match k with
  | 0 => (.array .int)
  | 1 => (.array .int)
  | 2 => (.array .int)
  | 3 => (.array .int)
  | 4 => .int
  | 5 => .int
  | _ => .boolean
theorem nm_X7 : ∀ a, a < 7 → ∀ b, b < 7 → a ≠ b → (T_X7 a).2.1 ≠ (T_X7 b).2.1 := by decide +kernel
theorem ty_X7 : ∀ k, k < 7 → parseFieldDescriptor (T_X7 k).2.2.1 = some (t_X7 k) := by decide +kernel
def T_X8 : u_T := fun k => match k with
  | 0 => ("VirtualRewrite$Finder", "question", "LVirtualRewrite$Question;", true)
  | 1 => ("VirtualRewrite$Finder", "rewriting", "LVirtualRewrite$Rewriting;", true)
  | 2 => ("VirtualRewrite$Finder", "slots", "LVirtualRewrite$Slots;", true)
  | 3 => ("VirtualRewrite$Finder", "answers", "LVirtualRewrite$Answers;", true)
  | 4 => ("VirtualRewrite$Finder", "atomOf", "[I", true)
  | 5 => ("VirtualRewrite$Finder", "variables", "[I", true)
  | 6 => ("VirtualRewrite$Finder", "columns", "[I", true)
  | 7 => ("VirtualRewrite$Finder", "rows", "[I", true)
  | 8 => ("VirtualRewrite$Finder", "rowCounts", "[I", true)
  | 9 => ("VirtualRewrite$Finder", "order", "[I", true)
  | 10 => ("VirtualRewrite$Finder", "templates", "[I", true)
  | 11 => ("VirtualRewrite$Finder", "codes", "[I", true)
  | _ => ("VirtualRewrite$Finder", "union", "I", false)
def t_X8 : Nat → FieldType := fun k => match k with
  | 0 => (.object "VirtualRewrite$Question")
  | 1 => (.object "VirtualRewrite$Rewriting")
  | 2 => (.object "VirtualRewrite$Slots")
  | 3 => (.object "VirtualRewrite$Answers")
  | 4 => (.array .int)
  | 5 => (.array .int)
  | 6 => (.array .int)
  | 7 => (.array .int)
  | 8 => (.array .int)
  | 9 => (.array .int)
  | 10 => (.array .int)
  | 11 => (.array .int)
  | _ => .int
theorem nm_X8 : ∀ a, a < 13 → ∀ b, b < 13 → a ≠ b → (T_X8 a).2.1 ≠ (T_X8 b).2.1 := by decide +kernel
theorem ty_X8 : ∀ k, k < 13 → parseFieldDescriptor (T_X8 k).2.2.1 = some (t_X8 k) := by decide +kernel
abbrev cl_ : List vw_C := [("VirtualRewrite", T_X0, 6), ("VirtualRewrite$Catalog", T_X1, 5), ("VirtualRewrite$Table", T_X2, 3), ("VirtualRewrite$Mapping", T_X3, 4), ("VirtualRewrite$Question", T_X4, 6), ("VirtualRewrite$Rewriting", T_X5, 8), ("VirtualRewrite$Slots", T_X6, 5), ("VirtualRewrite$Answers", T_X7, 7), ("VirtualRewrite$Finder", T_X8, 13)]
abbrev tys_ (ki : Nat → ClassId) : List (ClassId × FieldType) := [(ki 0, .int), (ki 1, .boolean), (ki 2, .long), (ki 3, (.object "VirtualRewrite$Table")), (ki 4, (.object "VirtualRewrite$Mapping"))]
def T0_ : List Cond := lw_tbl.filter goodWord
theorem T0_good : ∀ w ∈ T0_, (w.onTables && w.keeps) = true ∨ ∃ ty, w = .arrayClass ty := fun w hw => good_of_word (List.mem_filter.mp hw).2
theorem T0_in : ∀ w ∈ T0_, w ∈ lw_tbl := fun w hw => (List.mem_filter.mp hw).1
theorem mem_T0 {w : Cond} (i : Nat) (h : lw_tbl[i]? = some w) (hg : goodWord w = true) : w ∈ T0_ := List.mem_filter.mpr ⟨List.mem_of_getElem? h, hg⟩
def NM_ : List (String × Nat × MethodName × String) := [("VirtualRewrite$Catalog", 34, (⟨"VirtualRewrite$Table", "<init>", "()V"⟩ : MethodName), "VirtualRewrite"), ("VirtualRewrite$Catalog", 35, (⟨"VirtualRewrite$Mapping", "<init>", "()V"⟩ : MethodName), "VirtualRewrite"), ("VirtualRewrite", 43, (⟨"VirtualRewrite$Answers", "<init>", "()V"⟩ : MethodName), "VirtualRewrite"), ("VirtualRewrite$Rewriting", 93, (⟨"VirtualRewrite", "isVariable", "(I)Z"⟩ : MethodName), "VirtualRewrite"), ("VirtualRewrite$Rewriting", 97, (⟨"VirtualRewrite", "variableOf", "(I)I"⟩ : MethodName), "VirtualRewrite"), ("VirtualRewrite$Rewriting", 101, (⟨"VirtualRewrite", "has", "(II)Z"⟩ : MethodName), "VirtualRewrite"), ("VirtualRewrite$Rewriting", 105, (⟨"VirtualRewrite", "with", "(II)I"⟩ : MethodName), "VirtualRewrite"), ("VirtualRewrite$Question", 40, (⟨"VirtualRewrite", "isVariable", "(I)Z"⟩ : MethodName), "VirtualRewrite"), ("VirtualRewrite$Question", 44, (⟨"VirtualRewrite", "variableOf", "(I)I"⟩ : MethodName), "VirtualRewrite"), ("VirtualRewrite$Question", 48, (⟨"VirtualRewrite", "with", "(II)I"⟩ : MethodName), "VirtualRewrite"), ("VirtualRewrite$Finder", 89, (⟨"VirtualRewrite", "isVariable", "(I)Z"⟩ : MethodName), "VirtualRewrite"), ("VirtualRewrite$Finder", 97, (⟨"VirtualRewrite", "variableOf", "(I)I"⟩ : MethodName), "VirtualRewrite"), ("VirtualRewrite$Finder", 111, (⟨"VirtualRewrite", "with", "(II)I"⟩ : MethodName), "VirtualRewrite"), ("VirtualRewrite$Finder", 173, (⟨"VirtualRewrite", "has", "(II)Z"⟩ : MethodName), "VirtualRewrite")]
def AO_ : List String := ["VirtualRewrite$Table", "VirtualRewrite$Mapping"]
theorem uw_X0 : ∀ w ∈ u_ws "VirtualRewrite" T_X0 6, w ∈ T0_ := by decide +kernel
theorem uw_X1 : ∀ w ∈ u_ws "VirtualRewrite$Catalog" T_X1 5, w ∈ T0_ := by decide +kernel
theorem uw_X2 : ∀ w ∈ u_ws "VirtualRewrite$Table" T_X2 3, w ∈ T0_ := by decide +kernel
theorem uw_X3 : ∀ w ∈ u_ws "VirtualRewrite$Mapping" T_X3 4, w ∈ T0_ := by decide +kernel
theorem uw_X4 : ∀ w ∈ u_ws "VirtualRewrite$Question" T_X4 6, w ∈ T0_ := by decide +kernel
theorem uw_X5 : ∀ w ∈ u_ws "VirtualRewrite$Rewriting" T_X5 8, w ∈ T0_ := by decide +kernel
theorem uw_X6 : ∀ w ∈ u_ws "VirtualRewrite$Slots" T_X6 5, w ∈ T0_ := by decide +kernel
theorem uw_X7 : ∀ w ∈ u_ws "VirtualRewrite$Answers" T_X7 7, w ∈ T0_ := by decide +kernel
theorem uw_X8 : ∀ w ∈ u_ws "VirtualRewrite$Finder" T_X8 13, w ∈ T0_ := by decide +kernel
end
section
/-! THE WALK'S OWN JUDGEMENT: the world is ONE map from addresses to cells, handed whole to every call. cl_ (the classes), T0_ (the words), NM_ (the nest links) are named in the part before. -/
abbrev ac_hp : Type := Nat → Option va_E
def ac_e0 : va_E := .inr (0, [])
def ac_up (f : ac_hp) (a : Nat) (e : va_E) : ac_hp := fun q => if q = a then some e else f q
theorem ac_up_self (f : ac_hp) (a : Nat) (e : va_E) : ac_up f a e a = some e := by simp [ac_up]
theorem ac_up_ne (f : ac_hp) {a q : Nat} (e : va_E) (h : q ≠ a) : ac_up f a e q = f q := by simp [ac_up, h]
def ac_ws (L : List Nat) (f : ac_hp) : va_W := va_pl L (fun a => (f a).getD ac_e0)
def ac_wd (D : va_G) (A : Nat → Prop) (f : ac_hp) (H : Heap) : Prop :=
  ∃ L : List Nat, (∀ a, a ∈ L ↔ ∃ e, f a = some e) ∧ va_P D cl_ (ac_ws L f) H ∧ va_D A (ac_ws L f)
theorem ac_pos {f : ac_hp} {L : List Nat} {a : Nat} {e : va_E} (hm : a ∈ L) (ha : f a = some e) : ∃ k : Nat, (ac_ws L f)[k]? = some (a, e) := by
  obtain ⟨k, hk⟩ := va_pl_get (X := []) (f := fun a => (f a).getD ac_e0) hm
  refine ⟨k, ?_⟩
  have e1 : (f a).getD ac_e0 = e := by rw [ha]; rfl
  rw [e1] at hk
  exact hk
theorem ac_ws_set {A : Nat → Prop} {f : ac_hp} {L : List Nat} {a k : Nat} {e e' : va_E} (hD : va_D A (ac_ws L f)) (hm : a ∈ L) (ha : f a = some e) (hk : (ac_ws L f)[k]? = some (a, e)) : (ac_ws L f).set k (a, e') = ac_ws L (ac_up f a e') := by
  have e1 : (f a).getD ac_e0 = e := by rw [ha]; rfl
  have h1 := va_pl_set (A := A) (X := []) (L := L) (f := fun a => (f a).getD ac_e0) (a := a) (k := k) (e := e') hD hm (by show (ac_ws L f)[k]? = some (a, (f a).getD ac_e0); rw [e1]; exact hk)
  have h2 : va_pl L (va_up (fun a => (f a).getD ac_e0) a e') = ac_ws L (ac_up f a e') := by
    unfold ac_ws
    apply va_pl_congr
    intro q
    by_cases hq : q = a
    · subst hq; simp [va_up, ac_up]
    · simp [va_up, ac_up, hq]
  rw [← h2]
  exact h1
theorem ac_get {D : va_G} {A : Nat → Prop} {f : ac_hp} {H : Heap} {a : Nat} {e : va_E} (h : ac_wd D A f H) (ha : f a = some e) :
    ∃ (ws : va_W) (k : Nat), va_P D cl_ ws H ∧ va_D A ws ∧ ws[k]? = some (a, e) ∧ (∀ (e' : va_E) (H1 : Heap), va_P D cl_ (ws.set k (a, e')) H1 → va_D A (ws.set k (a, e')) → ac_wd D A (ac_up f a e') H1) ∧ ∀ (b : Nat) (e2 : va_E), f b = some e2 → ∃ k2 : Nat, ws[k2]? = some (b, e2) := by
  obtain ⟨L, hL, hP, hD⟩ := h
  have hm : a ∈ L := (hL a).mpr ⟨e, ha⟩
  obtain ⟨k, hk⟩ := ac_pos hm ha
  refine ⟨ac_ws L f, k, hP, hD, hk, ?_, fun b e2 hb => ac_pos ((hL b).mpr ⟨e2, hb⟩) hb⟩
  intro e' H1 hP1 hD1
  rw [ac_ws_set hD hm ha hk] at hP1 hD1
  refine ⟨L, fun b => ?_, hP1, hD1⟩
  by_cases hb : b = a
  · subst hb; simp [ac_up, hm]
  · simp [ac_up, hb, hL b]
theorem ac_new {D : va_G} {A : Nat → Prop} {f : ac_hp} {H : Heap} (h : ac_wd D A f H) :
    ∃ ws : va_W, va_P D cl_ ws H ∧ va_D A ws ∧ ∀ (q : Nat) (e' : va_E) (H1 : Heap), va_P D cl_ (ws ++ [(q, e')]) H1 → va_D A (ws ++ [(q, e')]) → f q = none ∧ ac_wd D A (ac_up f q e') H1 := by
  obtain ⟨L, hL, hP, hD⟩ := h
  refine ⟨ac_ws L f, hP, hD, fun q e' H1 hP1 hD1 => ?_⟩
  have hq : q ∉ L := va_pl_fresh2 (X := []) (f := fun a => (f a).getD ac_e0) hD1
  have hn : f q = none := by
    cases hf : f q with
    | none => rfl
    | some e => exact absurd ((hL q).mpr ⟨e, hf⟩) hq
  have h2 : ac_ws L f ++ [(q, e')] = ac_ws (L ++ [q]) (ac_up f q e') := by
    unfold ac_ws
    rw [va_pl_push hq]
    apply va_pl_congr
    intro b
    by_cases hb : b = q
    · subst hb; simp [va_up, ac_up]
    · simp [va_up, ac_up, hb]
  rw [h2] at hP1 hD1
  refine ⟨hn, L ++ [q], fun b => ?_, hP1, hD1⟩
  by_cases hb : b = q
  · subst hb; simp [ac_up]
  · simp [ac_up, hb, hL b]
theorem ac_wd.weak {D : va_G} {A B : Nat → Prop} {f : ac_hp} {H : Heap} (h : ac_wd D A f H) (hAB : ∀ q, A q → B q) : ac_wd D B f H := by
  obtain ⟨L, hL, hP, hD⟩ := h
  exact ⟨L, hL, hP, hD.weaken (fun _ q _ hq => hAB _ hq)⟩
theorem ac_wd.inA {D : va_G} {A : Nat → Prop} {f : ac_hp} {H : Heap} (h : ac_wd D A f H) {a : Nat} {e : va_E} (ha : f a = some e) : A a := by
  obtain ⟨ws, k, -, hD, hk, -⟩ := ac_get h ha
  exact hD.2 k _ hk
def ac_A (f : ac_hp) (sz : Nat) : Nat → Prop := fun q => (∃ e, f q = some e) ∨ sz ≤ q
theorem ac_wd.self {D : va_G} {A : Nat → Prop} {f : ac_hp} {H : Heap} {sz : Nat} (h : ac_wd D A f H) : ac_wd D (ac_A f sz) f H := by
  obtain ⟨L, hL, hP, hD⟩ := h
  refine ⟨L, hL, hP, hD.1, fun k q hk => ?_⟩
  have h1 : q ∈ ac_ws L f := List.mem_of_getElem? hk
  obtain ⟨b, hb, rfl⟩ := List.mem_map.mp h1
  exact Or.inl ((hL b).mp hb)
/-! the context of a walk: (program, launch, env, room, state at entry), (method, args, frames below, method, code), (the classes' numbers, the array classes, which cells may change), the goal -/
abbrev ac_X : Type := (Program × Launch × Env × Room × State) × (MethodId × Array Value × List Frame × Method × Code) × (va_G × (Nat → ClassId) × (Nat → Prop)) × (State → Prop)
/-- a method's code, its locals, its class -/
abbrev ac_M : Type := ByteArray × Nat × String
abbrev ac_l (x : ac_X) : Launch := x.1.2.1
abbrev ac_R (x : ac_X) : Room := x.1.2.2.2.1
abbrev ac_s (x : ac_X) : State := x.1.2.2.2.2
abbrev ac_args (x : ac_X) : Array Value := x.2.1.2.1
abbrev ac_meth (x : ac_X) : Method := x.2.1.2.2.2.1
abbrev ac_c (x : ac_X) : Code := x.2.1.2.2.2.2
abbrev ac_D (x : ac_X) : va_G := x.2.2.1.1
abbrev ac_ki (x : ac_X) : Nat → ClassId := x.2.2.1.2.1
abbrev ac_AA (x : ac_X) : Nat → Prop := x.2.2.1.2.2
/-- what isn't kept by a word of a contract: the nest links, the classes of arrays of references -/
def ac_nw (U : State) : Prop := (∀ q ∈ NM_, va_Nw (.methodLinkNest q.1 q.2.1 q.2.2.1 q.2.2.2) U) ∧ ∀ C ∈ AO_, va_AO C U
theorem ac_nw.same {u U : State} (h : u.vm = U.vm) (hn : ac_nw u) : ac_nw U := ⟨fun q hq => va_Nw.same rfl h (hn.1 q hq), fun C hC => va_AO.moved (by rw [h]; exact Vm.Alike.refl _) (hn.2 C hC)⟩
theorem ac_nw.warm {s U : State} (hW : s.WarmedH U.vm) (hn : ac_nw s) : ac_nw U := ⟨fun q hq => va_Nw.warmM hW (hn.1 q hq), fun C hC => va_AO.moved hW.alike (hn.2 C hC)⟩
def ac_ok (M : ac_M) (x : ac_X) : Prop := x.1.1.tables.exec = Jvm.exec ∧ (ac_c x).code = M.1 ∧ (ac_c x).maxLocals = M.2.1 ∧ (ac_s x).vm.findClass M.2.2 = some x.2.1.1.cls ∧ (∀ w ∈ T0_, w.before (ac_args x) (ac_s x) = true) ∧ va_K (ac_D x) cl_ (tys_ (ac_ki x)) (ac_s x) ∧ ac_nw (ac_s x) ∧ ∀ q, (ac_s x).heap.size ≤ q → ac_AA x q
def ac_At (M : ac_M) (x : ac_X) (kc ks pc : Nat) (lv : List (Nat × Value)) (st : List Value) (f : ac_hp) : Prop :=
  ac_ok M x → ∀ (H : Heap) (locs : List Loc) (ls : Array Slot), ac_wd (ac_D x) (ac_AA x) f H → va_S (ac_AA x) (ac_s x).heap H locs → lv_has ls M.2.1 lv → W x.1.1 x.1.2.1 x.1.2.2.1 x.1.2.2.2.1 x.1.2.2.2.2 x.2.1.1 x.2.1.2.1 x.2.1.2.2.1 x.2.1.2.2.2.1 x.2.1.2.2.2.2 H locs kc ks x.2.2.2 (F0 x.2.1.1 pc ls st)
section AC
variable {M : ac_M} {x : ac_X} {kc ks pc : Nat} {lv : List (Nat × Value)} {st : List Value} {f : ac_hp}
theorem ac_weak {lv' : List (Nat × Value)} (ps : List Nat) (hp : lv_pick lv ps = lv') (k : ac_At M x kc ks pc lv' st f) : ac_At M x kc ks pc lv st f := fun o H locs ls hw hS hl => k o H locs ls hw hS (lv_sub hl ps hp)
theorem ac_widen {k2 n2 : Nat} (h1 : kc ≤ k2) (h2 : ks ≤ n2) (k : ac_At M x k2 n2 pc lv st f) : ac_At M x kc ks pc lv st f := fun o H locs ls hw hS hl => W.widen h1 h2 (k o H locs ls hw hS hl)
-- constants
theorem ac_iconst {n : Int} {v : Int32} (hd : decode M.1 pc = .ok (.iconst n, 1)) (hv : Int32.ofInt n = v) (k : ac_At M x kc ks (pc + 1) lv (.int v :: st) f) : ac_At M x kc ks pc lv st f := fun o H locs ls hw hS hl => lv_iconst o.1 o.2.1 hd hv (k o H locs ls hw hS hl)
theorem ac_bipush {n : Int} {v : Int32} (hd : decode M.1 pc = .ok (.bipush n, 2)) (hv : (Int8.ofInt n).toInt32 = v) (k : ac_At M x kc ks (pc + 2) lv (.int v :: st) f) : ac_At M x kc ks pc lv st f := fun o H locs ls hw hS hl => lv_bipush o.1 o.2.1 hd hv (k o H locs ls hw hS hl)
theorem ac_sipush {n : Int} {v : Int32} (hd : decode M.1 pc = .ok (.sipush n, 3)) (hv : (Int16.ofInt n).toInt32 = v) (k : ac_At M x kc ks (pc + 3) lv (.int v :: st) f) : ac_At M x kc ks pc lv st f := fun o H locs ls hw hS hl => lv_sipush o.1 o.2.1 hd hv (k o H locs ls hw hS hl)
theorem ac_lconst {n : Fin 2} {v : Int64} (hd : decode M.1 pc = .ok (.lconst n, 1)) (hv : Int64.ofNat (n : Nat) = v) (k : ac_At M x kc ks (pc + 1) lv (.long v :: st) f) : ac_At M x kc ks pc lv st f := fun o H locs ls hw hS hl => lv_lconst o.1 o.2.1 hd hv (k o H locs ls hw hS hl)
theorem ac_ldc {index : Nat} {v : Int32} (hc : Jvm.Cond.constant M.2.2 index v ∈ T0_) (hd : decode M.1 pc = .ok (.ldc index, 2)) (k : ac_At M x kc ks (pc + 2) lv (.int v :: st) f) : ac_At M x kc ks pc lv st f := fun o H locs ls hw hS hl => lv_ldc o.1 o.2.1 o.2.2.2.1 (o.2.2.2.2.1 _ hc) hd (k o H locs ls hw hS hl)
theorem ac_ldcw {index : Nat} {v : Int32} (hc : Jvm.Cond.constant M.2.2 index v ∈ T0_) (hd : decode M.1 pc = .ok (.ldc_w index, 3)) (k : ac_At M x kc ks (pc + 3) lv (.int v :: st) f) : ac_At M x kc ks pc lv st f := fun o H locs ls hw hS hl => lv_ldcw o.1 o.2.1 o.2.2.2.1 (o.2.2.2.2.1 _ hc) hd (k o H locs ls hw hS hl)
theorem ac_ldc2 {index : Nat} {v : Int64} (hc : Jvm.Cond.constantLong M.2.2 index v ∈ T0_) (hd : decode M.1 pc = .ok (.ldc2_w index, 3)) (k : ac_At M x kc ks (pc + 3) lv (.long v :: st) f) : ac_At M x kc ks pc lv st f := fun o H locs ls hw hS hl => lv_ldc2 o.1 o.2.1 o.2.2.2.1 (o.2.2.2.2.1 _ hc) hd (k o H locs ls hw hS hl)
-- locals
theorem ac_iload_n {k0 : Fin 4} {i : Nat} {v : Int32} (j : Nat) (hd : decode M.1 pc = .ok (.iload_n k0, 1)) (hi : (k0 : Nat) = i) (hj : lv[j]? = some (i, .int v)) (k : ac_At M x kc ks (pc + 1) lv (.int v :: st) f) : ac_At M x kc ks pc lv st f := fun o H locs ls hw hS hl => lv_iload_n o.1 o.2.1 hd hi (lv_at hl j hj) (k o H locs ls hw hS hl)
theorem ac_iload {i : Nat} {v : Int32} (j : Nat) (hd : decode M.1 pc = .ok (.iload i, 2)) (hj : lv[j]? = some (i, .int v)) (k : ac_At M x kc ks (pc + 2) lv (.int v :: st) f) : ac_At M x kc ks pc lv st f := fun o H locs ls hw hS hl => lv_iload o.1 o.2.1 hd (lv_at hl j hj) (k o H locs ls hw hS hl)
theorem ac_lload_n {k0 : Fin 4} {i : Nat} {v : Int64} (j : Nat) (hd : decode M.1 pc = .ok (.lload_n k0, 1)) (hi : (k0 : Nat) = i) (hj : lv[j]? = some (i, .long v)) (k : ac_At M x kc ks (pc + 1) lv (.long v :: st) f) : ac_At M x kc ks pc lv st f := fun o H locs ls hw hS hl => lv_lload_n o.1 o.2.1 hd hi (lv_at hl j hj) (k o H locs ls hw hS hl)
theorem ac_lload {i : Nat} {v : Int64} (j : Nat) (hd : decode M.1 pc = .ok (.lload i, 2)) (hj : lv[j]? = some (i, .long v)) (k : ac_At M x kc ks (pc + 2) lv (.long v :: st) f) : ac_At M x kc ks pc lv st f := fun o H locs ls hw hS hl => lv_lload o.1 o.2.1 hd (lv_at hl j hj) (k o H locs ls hw hS hl)
theorem ac_aload_n {k0 : Fin 4} {i v : Nat} (j : Nat) (hd : decode M.1 pc = .ok (.aload_n k0, 1)) (hi : (k0 : Nat) = i) (hj : lv[j]? = some (i, .ref v)) (k : ac_At M x kc ks (pc + 1) lv (.ref v :: st) f) : ac_At M x kc ks pc lv st f := fun o H locs ls hw hS hl => lv_aload_n o.1 o.2.1 hd hi (lv_at hl j hj) (k o H locs ls hw hS hl)
theorem ac_aload {i v : Nat} (j : Nat) (hd : decode M.1 pc = .ok (.aload i, 2)) (hj : lv[j]? = some (i, .ref v)) (k : ac_At M x kc ks (pc + 2) lv (.ref v :: st) f) : ac_At M x kc ks pc lv st f := fun o H locs ls hw hS hl => lv_aload o.1 o.2.1 hd (lv_at hl j hj) (k o H locs ls hw hS hl)
theorem ac_istore_n {k0 : Fin 4} {i : Nat} {v : Int32} {lv' : List (Nat × Value)} (hd : decode M.1 pc = .ok (.istore_n k0, 1)) (hi : (k0 : Nat) = i) (hn : i < M.2.1) (hl' : (i, Value.int v) :: lv.filter (fun q => !(q.1 == i) && !(q.1 + 1 == i && q.2.category == 2)) = lv') (k : ac_At M x kc ks (pc + 1) lv' st f) : ac_At M x kc ks pc lv (.int v :: st) f := fun o H locs ls hw hS hl => lv_istore_n o.1 o.2.1 hd hi hl hn hl' (fun ls' hl2 => k o H locs ls' hw hS hl2)
theorem ac_istore {i : Nat} {v : Int32} {lv' : List (Nat × Value)} (hd : decode M.1 pc = .ok (.istore i, 2)) (hn : i < M.2.1) (hl' : (i, Value.int v) :: lv.filter (fun q => !(q.1 == i) && !(q.1 + 1 == i && q.2.category == 2)) = lv') (k : ac_At M x kc ks (pc + 2) lv' st f) : ac_At M x kc ks pc lv (.int v :: st) f := fun o H locs ls hw hS hl => lv_istore o.1 o.2.1 hd hl hn hl' (fun ls' hl2 => k o H locs ls' hw hS hl2)
theorem ac_lstore_n {k0 : Fin 4} {i : Nat} {v : Int64} {lv' : List (Nat × Value)} (hd : decode M.1 pc = .ok (.lstore_n k0, 1)) (hi : (k0 : Nat) = i) (hn : i + 1 < M.2.1) (hl' : (i, Value.long v) :: lv.filter (fun q => !(q.1 == i) && (!(q.1 == i + 1) && !(q.1 + 1 == i && q.2.category == 2))) = lv') (k : ac_At M x kc ks (pc + 1) lv' st f) : ac_At M x kc ks pc lv (.long v :: st) f := fun o H locs ls hw hS hl => lv_lstore_n o.1 o.2.1 hd hi hl hn hl' (fun ls' hl2 => k o H locs ls' hw hS hl2)
theorem ac_lstore {i : Nat} {v : Int64} {lv' : List (Nat × Value)} (hd : decode M.1 pc = .ok (.lstore i, 2)) (hn : i + 1 < M.2.1) (hl' : (i, Value.long v) :: lv.filter (fun q => !(q.1 == i) && (!(q.1 == i + 1) && !(q.1 + 1 == i && q.2.category == 2))) = lv') (k : ac_At M x kc ks (pc + 2) lv' st f) : ac_At M x kc ks pc lv (.long v :: st) f := fun o H locs ls hw hS hl => lv_lstore o.1 o.2.1 hd hl hn hl' (fun ls' hl2 => k o H locs ls' hw hS hl2)
theorem ac_astore_n {k0 : Fin 4} {i v : Nat} {lv' : List (Nat × Value)} (hd : decode M.1 pc = .ok (.astore_n k0, 1)) (hi : (k0 : Nat) = i) (hn : i < M.2.1) (hl' : (i, Value.ref v) :: lv.filter (fun q => !(q.1 == i) && !(q.1 + 1 == i && q.2.category == 2)) = lv') (k : ac_At M x kc ks (pc + 1) lv' st f) : ac_At M x kc ks pc lv (.ref v :: st) f := fun o H locs ls hw hS hl => lv_astore_n o.1 o.2.1 hd hi hl hn hl' (fun ls' hl2 => k o H locs ls' hw hS hl2)
theorem ac_astore {i v : Nat} {lv' : List (Nat × Value)} (hd : decode M.1 pc = .ok (.astore i, 2)) (hn : i < M.2.1) (hl' : (i, Value.ref v) :: lv.filter (fun q => !(q.1 == i) && !(q.1 + 1 == i && q.2.category == 2)) = lv') (k : ac_At M x kc ks (pc + 2) lv' st f) : ac_At M x kc ks pc lv (.ref v :: st) f := fun o H locs ls hw hS hl => lv_astore o.1 o.2.1 hd hl hn hl' (fun ls' hl2 => k o H locs ls' hw hS hl2)
theorem ac_iinc {i j : Nat} {n : Int} {v w : Int32} {lv' : List (Nat × Value)} (hd : decode M.1 pc = .ok (.iinc i n, 3)) (hj : lv[j]? = some (i, .int v)) (hv : v + Int32.ofInt n = w) (hn : i < M.2.1) (hl' : (i, Value.int w) :: lv.filter (fun q => !(q.1 == i) && !(q.1 + 1 == i && q.2.category == 2)) = lv') (k : ac_At M x kc ks (pc + 3) lv' st f) : ac_At M x kc ks pc lv st f := fun o H locs ls hw hS hl => lv_iinc o.1 o.2.1 hd hl hj hv hn hl' (fun ls' hl2 => k o H locs ls' hw hS hl2)
-- arithmetic
theorem ac_iadd {a b : Int32} (hd : decode M.1 pc = .ok (.iadd, 1)) (k : ac_At M x kc ks (pc + 1) lv (.int (a + b) :: st) f) : ac_At M x kc ks pc lv (.int b :: .int a :: st) f := fun o H locs ls hw hS hl => lv_iadd o.1 o.2.1 hd (k o H locs ls hw hS hl)
theorem ac_isub {a b : Int32} (hd : decode M.1 pc = .ok (.isub, 1)) (k : ac_At M x kc ks (pc + 1) lv (.int (a - b) :: st) f) : ac_At M x kc ks pc lv (.int b :: .int a :: st) f := fun o H locs ls hw hS hl => lv_isub o.1 o.2.1 hd (k o H locs ls hw hS hl)
theorem ac_imul {a b : Int32} (hd : decode M.1 pc = .ok (.imul, 1)) (k : ac_At M x kc ks (pc + 1) lv (.int (a * b) :: st) f) : ac_At M x kc ks pc lv (.int b :: .int a :: st) f := fun o H locs ls hw hS hl => lv_imul o.1 o.2.1 hd (k o H locs ls hw hS hl)
theorem ac_iand {a b : Int32} (hd : decode M.1 pc = .ok (.iand, 1)) (k : ac_At M x kc ks (pc + 1) lv (.int (a &&& b) :: st) f) : ac_At M x kc ks pc lv (.int b :: .int a :: st) f := fun o H locs ls hw hS hl => lv_iand o.1 o.2.1 hd (k o H locs ls hw hS hl)
theorem ac_ior {a b : Int32} (hd : decode M.1 pc = .ok (.ior, 1)) (k : ac_At M x kc ks (pc + 1) lv (.int (a ||| b) :: st) f) : ac_At M x kc ks pc lv (.int b :: .int a :: st) f := fun o H locs ls hw hS hl => lv_ior o.1 o.2.1 hd (k o H locs ls hw hS hl)
theorem ac_ixor {a b : Int32} (hd : decode M.1 pc = .ok (.ixor, 1)) (k : ac_At M x kc ks (pc + 1) lv (.int (a ^^^ b) :: st) f) : ac_At M x kc ks pc lv (.int b :: .int a :: st) f := fun o H locs ls hw hS hl => lv_ixor o.1 o.2.1 hd (k o H locs ls hw hS hl)
theorem ac_idiv {a b : Int32} (hd : decode M.1 pc = .ok (.idiv, 1)) (hn : ¬ b = 0) (k : ac_At M x kc ks (pc + 1) lv (.int (a / b) :: st) f) : ac_At M x kc ks pc lv (.int b :: .int a :: st) f := fun o H locs ls hw hS hl => lv_idiv o.1 o.2.1 hd hn (k o H locs ls hw hS hl)
theorem ac_irem {a b : Int32} (hd : decode M.1 pc = .ok (.irem, 1)) (hn : ¬ b = 0) (k : ac_At M x kc ks (pc + 1) lv (.int (a - a / b * b) :: st) f) : ac_At M x kc ks pc lv (.int b :: .int a :: st) f := fun o H locs ls hw hS hl => lv_irem o.1 o.2.1 hd hn (k o H locs ls hw hS hl)
theorem ac_ishl {a b : Int32} (hd : decode M.1 pc = .ok (.ishl, 1)) (k : ac_At M x kc ks (pc + 1) lv (.int (a <<< (b &&& 31)) :: st) f) : ac_At M x kc ks pc lv (.int b :: .int a :: st) f := fun o H locs ls hw hS hl => lv_ishl o.1 o.2.1 hd (k o H locs ls hw hS hl)
theorem ac_ishr {a b : Int32} (hd : decode M.1 pc = .ok (.ishr, 1)) (k : ac_At M x kc ks (pc + 1) lv (.int (a >>> (b &&& 31)) :: st) f) : ac_At M x kc ks pc lv (.int b :: .int a :: st) f := fun o H locs ls hw hS hl => lv_ishr o.1 o.2.1 hd (k o H locs ls hw hS hl)
theorem ac_iushr {a b : Int32} (hd : decode M.1 pc = .ok (.iushr, 1)) (k : ac_At M x kc ks (pc + 1) lv (.int (a.toUInt32 >>> (b.toUInt32 &&& Int32.toUInt32 31)).toInt32 :: st) f) : ac_At M x kc ks pc lv (.int b :: .int a :: st) f := fun o H locs ls hw hS hl => lv_iushr o.1 o.2.1 hd rfl (k o H locs ls hw hS hl)
theorem ac_ineg {a : Int32} (hd : decode M.1 pc = .ok (.ineg, 1)) (k : ac_At M x kc ks (pc + 1) lv (.int (-a) :: st) f) : ac_At M x kc ks pc lv (.int a :: st) f := fun o H locs ls hw hS hl => lv_ineg o.1 o.2.1 hd (k o H locs ls hw hS hl)
theorem ac_i2l {a : Int32} (hd : decode M.1 pc = .ok (.i2l, 1)) (k : ac_At M x kc ks (pc + 1) lv (.long a.toInt64 :: st) f) : ac_At M x kc ks pc lv (.int a :: st) f := fun o H locs ls hw hS hl => lv_i2l o.1 o.2.1 hd rfl (k o H locs ls hw hS hl)
theorem ac_l2i {a : Int64} (hd : decode M.1 pc = .ok (.l2i, 1)) (k : ac_At M x kc ks (pc + 1) lv (.int a.toInt32 :: st) f) : ac_At M x kc ks pc lv (.long a :: st) f := fun o H locs ls hw hS hl => lv_l2i o.1 o.2.1 hd rfl (k o H locs ls hw hS hl)
theorem ac_ladd {a b : Int64} (hd : decode M.1 pc = .ok (.ladd, 1)) (k : ac_At M x kc ks (pc + 1) lv (.long (a + b) :: st) f) : ac_At M x kc ks pc lv (.long b :: .long a :: st) f := fun o H locs ls hw hS hl => lv_ladd o.1 o.2.1 hd (k o H locs ls hw hS hl)
theorem ac_lmul {a b : Int64} (hd : decode M.1 pc = .ok (.lmul, 1)) (k : ac_At M x kc ks (pc + 1) lv (.long (a * b) :: st) f) : ac_At M x kc ks pc lv (.long b :: .long a :: st) f := fun o H locs ls hw hS hl => lv_lmul o.1 o.2.1 hd (k o H locs ls hw hS hl)
theorem ac_lcmp {a b : Int64} (hd : decode M.1 pc = .ok (.lcmp, 1)) (k : ac_At M x kc ks (pc + 1) lv (.int (lg_cmp a b) :: st) f) : ac_At M x kc ks pc lv (.long b :: .long a :: st) f := fun o H locs ls hw hS hl => W.lcmp o.1 o.2.1 hd (k o H locs ls hw hS hl)
-- stack
theorem ac_dup {v : Value} (hd : decode M.1 pc = .ok (.dup, 1)) (hv : v.category = 1) (k : ac_At M x kc ks (pc + 1) lv (v :: v :: st) f) : ac_At M x kc ks pc lv (v :: st) f := fun o H locs ls hw hS hl => lv_dup o.1 o.2.1 hd hv (k o H locs ls hw hS hl)
theorem ac_pop {v : Value} (hd : decode M.1 pc = .ok (.pop, 1)) (hv : v.category = 1) (k : ac_At M x kc ks (pc + 1) lv st f) : ac_At M x kc ks pc lv (v :: st) f := fun o H locs ls hw hS hl => lv_pop o.1 o.2.1 hd hv (k o H locs ls hw hS hl)
theorem ac_dup_x1 {v w : Value} (hd : decode M.1 pc = .ok (.dup_x1, 1)) (hv : v.category = 1) (hw' : w.category = 1) (k : ac_At M x kc ks (pc + 1) lv (v :: w :: v :: st) f) : ac_At M x kc ks pc lv (v :: w :: st) f := fun o H locs ls hw hS hl => lv_dup_x1 o.1 o.2.1 hd hv hw' (k o H locs ls hw hS hl)
theorem ac_dup2 {v w : Value} (hd : decode M.1 pc = .ok (.dup2, 1)) (hv : v.category = 1) (hw' : w.category = 1) (k : ac_At M x kc ks (pc + 1) lv (v :: w :: v :: w :: st) f) : ac_At M x kc ks pc lv (v :: w :: st) f := fun o H locs ls hw hS hl => lv_dup2_11 o.1 o.2.1 hd hv hw' (k o H locs ls hw hS hl)
-- branches
theorem ac_goto {off : Int} {tgt : Nat} (hd : decode M.1 pc = .ok (.goto off, 3)) (ht : (pc : Int) + off = (tgt : Int)) (k : ac_At M x kc ks tgt lv st f) : ac_At M x kc ks pc lv st f := fun o H locs ls hw hS hl => lv_goto o.1 o.2.1 hd ht (k o H locs ls hw hS hl)
theorem ac_if_eq {a : Int32} {off : Int} {tgt : Nat} (hd : decode M.1 pc = .ok (.ifCond .eq off, 3)) (ht : (pc : Int) + off = (tgt : Int)) (kt : a = 0 → ac_At M x kc ks tgt lv st f) (kf : ¬ a = 0 → ac_At M x kc ks (pc + 3) lv st f) : ac_At M x kc ks pc lv (.int a :: st) f := fun o H locs ls hw hS hl => lv_if_eq o.1 o.2.1 hd ht (fun h => kt h o H locs ls hw hS hl) (fun h => kf h o H locs ls hw hS hl)
theorem ac_if_ne {a : Int32} {off : Int} {tgt : Nat} (hd : decode M.1 pc = .ok (.ifCond .ne off, 3)) (ht : (pc : Int) + off = (tgt : Int)) (kt : ¬ a = 0 → ac_At M x kc ks tgt lv st f) (kf : a = 0 → ac_At M x kc ks (pc + 3) lv st f) : ac_At M x kc ks pc lv (.int a :: st) f := fun o H locs ls hw hS hl => lv_if_ne o.1 o.2.1 hd ht (fun h => kt h o H locs ls hw hS hl) (fun h => kf h o H locs ls hw hS hl)
theorem ac_if_lt {a : Int32} {off : Int} {tgt : Nat} (hd : decode M.1 pc = .ok (.ifCond .lt off, 3)) (ht : (pc : Int) + off = (tgt : Int)) (kt : a < 0 → ac_At M x kc ks tgt lv st f) (kf : ¬ a < 0 → ac_At M x kc ks (pc + 3) lv st f) : ac_At M x kc ks pc lv (.int a :: st) f := fun o H locs ls hw hS hl => lv_if_lt o.1 o.2.1 hd ht (fun h => kt h o H locs ls hw hS hl) (fun h => kf h o H locs ls hw hS hl)
theorem ac_if_ge {a : Int32} {off : Int} {tgt : Nat} (hd : decode M.1 pc = .ok (.ifCond .ge off, 3)) (ht : (pc : Int) + off = (tgt : Int)) (kt : 0 ≤ a → ac_At M x kc ks tgt lv st f) (kf : ¬ 0 ≤ a → ac_At M x kc ks (pc + 3) lv st f) : ac_At M x kc ks pc lv (.int a :: st) f := fun o H locs ls hw hS hl => lv_if_ge o.1 o.2.1 hd ht (fun h => kt h o H locs ls hw hS hl) (fun h => kf h o H locs ls hw hS hl)
theorem ac_if_gt {a : Int32} {off : Int} {tgt : Nat} (hd : decode M.1 pc = .ok (.ifCond .gt off, 3)) (ht : (pc : Int) + off = (tgt : Int)) (kt : 0 < a → ac_At M x kc ks tgt lv st f) (kf : ¬ 0 < a → ac_At M x kc ks (pc + 3) lv st f) : ac_At M x kc ks pc lv (.int a :: st) f := fun o H locs ls hw hS hl => lv_if_gt o.1 o.2.1 hd ht (fun h => kt h o H locs ls hw hS hl) (fun h => kf h o H locs ls hw hS hl)
theorem ac_if_le {a : Int32} {off : Int} {tgt : Nat} (hd : decode M.1 pc = .ok (.ifCond .le off, 3)) (ht : (pc : Int) + off = (tgt : Int)) (kt : a ≤ 0 → ac_At M x kc ks tgt lv st f) (kf : ¬ a ≤ 0 → ac_At M x kc ks (pc + 3) lv st f) : ac_At M x kc ks pc lv (.int a :: st) f := fun o H locs ls hw hS hl => lv_if_le o.1 o.2.1 hd ht (fun h => kt h o H locs ls hw hS hl) (fun h => kf h o H locs ls hw hS hl)
theorem ac_icmp_eq {a b : Int32} {off : Int} {tgt : Nat} (hd : decode M.1 pc = .ok (.if_icmp .eq off, 3)) (ht : (pc : Int) + off = (tgt : Int)) (kt : a = b → ac_At M x kc ks tgt lv st f) (kf : ¬ a = b → ac_At M x kc ks (pc + 3) lv st f) : ac_At M x kc ks pc lv (.int b :: .int a :: st) f := fun o H locs ls hw hS hl => lv_icmp_eq o.1 o.2.1 hd ht (fun h => kt h o H locs ls hw hS hl) (fun h => kf h o H locs ls hw hS hl)
theorem ac_icmp_ne {a b : Int32} {off : Int} {tgt : Nat} (hd : decode M.1 pc = .ok (.if_icmp .ne off, 3)) (ht : (pc : Int) + off = (tgt : Int)) (kt : ¬ a = b → ac_At M x kc ks tgt lv st f) (kf : a = b → ac_At M x kc ks (pc + 3) lv st f) : ac_At M x kc ks pc lv (.int b :: .int a :: st) f := fun o H locs ls hw hS hl => lv_icmp_ne o.1 o.2.1 hd ht (fun h => kt h o H locs ls hw hS hl) (fun h => kf h o H locs ls hw hS hl)
theorem ac_icmp_lt {a b : Int32} {off : Int} {tgt : Nat} (hd : decode M.1 pc = .ok (.if_icmp .lt off, 3)) (ht : (pc : Int) + off = (tgt : Int)) (kt : a < b → ac_At M x kc ks tgt lv st f) (kf : ¬ a < b → ac_At M x kc ks (pc + 3) lv st f) : ac_At M x kc ks pc lv (.int b :: .int a :: st) f := fun o H locs ls hw hS hl => lv_icmp_lt o.1 o.2.1 hd ht (fun h => kt h o H locs ls hw hS hl) (fun h => kf h o H locs ls hw hS hl)
theorem ac_icmp_ge {a b : Int32} {off : Int} {tgt : Nat} (hd : decode M.1 pc = .ok (.if_icmp .ge off, 3)) (ht : (pc : Int) + off = (tgt : Int)) (kt : b ≤ a → ac_At M x kc ks tgt lv st f) (kf : ¬ b ≤ a → ac_At M x kc ks (pc + 3) lv st f) : ac_At M x kc ks pc lv (.int b :: .int a :: st) f := fun o H locs ls hw hS hl => lv_icmp_ge o.1 o.2.1 hd ht (fun h => kt h o H locs ls hw hS hl) (fun h => kf h o H locs ls hw hS hl)
theorem ac_icmp_gt {a b : Int32} {off : Int} {tgt : Nat} (hd : decode M.1 pc = .ok (.if_icmp .gt off, 3)) (ht : (pc : Int) + off = (tgt : Int)) (kt : b < a → ac_At M x kc ks tgt lv st f) (kf : ¬ b < a → ac_At M x kc ks (pc + 3) lv st f) : ac_At M x kc ks pc lv (.int b :: .int a :: st) f := fun o H locs ls hw hS hl => lv_icmp_gt o.1 o.2.1 hd ht (fun h => kt h o H locs ls hw hS hl) (fun h => kf h o H locs ls hw hS hl)
theorem ac_icmp_le {a b : Int32} {off : Int} {tgt : Nat} (hd : decode M.1 pc = .ok (.if_icmp .le off, 3)) (ht : (pc : Int) + off = (tgt : Int)) (kt : a ≤ b → ac_At M x kc ks tgt lv st f) (kf : ¬ a ≤ b → ac_At M x kc ks (pc + 3) lv st f) : ac_At M x kc ks pc lv (.int b :: .int a :: st) f := fun o H locs ls hw hS hl => lv_icmp_le o.1 o.2.1 hd ht (fun h => kt h o H locs ls hw hS hl) (fun h => kf h o H locs ls hw hS hl)
end AC
/-! fields and arrays -/
/-- own's pool entry index names field k of class number ci -/
def ac_fl (own : String) (index ci k : Nat) : Prop := ∃ (C : String) (T : u_T) (N : Nat), cl_[ci]? = some (C, T, N) ∧ (∀ w ∈ u_ws C T N, w ∈ T0_) ∧ k < N ∧ Cond.fieldLink own index (T k).1 (T k).2.1 (T k).2.2.1 ∈ T0_
/-- .. and may be written: not final, of type ty -/
def ac_fp (own : String) (index ci k : Nat) (ty : FieldType) (fin : Bool) : Prop := ∃ (C : String) (T : u_T) (N : Nat) (ty0 : Nat → FieldType), cl_[ci]? = some (C, T, N) ∧ (∀ w ∈ u_ws C T N, w ∈ T0_) ∧ k < N ∧ Cond.fieldLink own index (T k).1 (T k).2.1 (T k).2.2.1 ∈ T0_ ∧ (∀ k, k < N → parseFieldDescriptor (T k).2.2.1 = some (ty0 k)) ∧ (∀ a, a < N → ∀ b, b < N → a ≠ b → (T a).2.1 ≠ (T b).2.1) ∧ (T k).2.2.2 = fin ∧ parseFieldDescriptor (T k).2.2.1 = some ty ∧ (fin = true → (T k).1 = own)
section AH
variable {M : ac_M} {x : ac_X} {kc ks pc : Nat} {lv : List (Nat × Value)} {st : List Value} {f : ac_hp}
theorem ac_getf {index ci k a : Nat} {fs : List Value} {v : Value} (hl0 : ac_fl M.2.2 index ci k) (hf : f a = some (.inr (ci, fs))) (hv : fs[k]? = some v) (hd : decode M.1 pc = .ok (.getfield index, 3)) (kk : ac_At M x kc ks (pc + 3) lv (v :: st) f) : ac_At M x kc ks pc lv (.ref a :: st) f := by
  intro o H locs ls hw hS hl
  obtain ⟨C, T, N, hc, hin, hk, hlink⟩ := hl0
  obtain ⟨ws, q0, hP, hD, hq, -, -⟩ := ac_get hw hf
  exact va_get o.1 o.2.1 o.2.2.2.2.1 hin o.2.2.2.1 o.2.2.2.2.2.1 hP q0 hq hc k hk (o.2.2.2.2.1 _ hlink) (fun _ h => h) hv hd (kk o H locs ls hw hS hl)
theorem ac_putf {index ci k a : Nat} {fs : List Value} {v : Value} {ty : FieldType} (hl0 : ac_fp M.2.2 index ci k ty false) (hf : f a = some (.inr (ci, fs))) (hlen : k < fs.length) (hn : narrow ty v = v) (hfit : fits ty v = true) (hd : decode M.1 pc = .ok (.putfield index, 3)) (kk : ac_At M x kc ks (pc + 3) lv st (ac_up f a (.inr (ci, fs.set k v)))) : ac_At M x kc ks pc lv (v :: .ref a :: st) f := by
  intro o H locs ls hw hS hl
  obtain ⟨C, T, N, ty0, hc, hin, hk, hlink, hty, hnm, hfin, hpar, -⟩ := hl0
  obtain ⟨ws, q0, hP, hD, hq, hset, -⟩ := ac_get hw hf
  exact va_put o.1 o.2.1 o.2.2.2.2.1 hin ty0 hty hnm o.2.2.2.1 o.2.2.2.2.2.1 hP hD hS q0 hq hc k hk (o.2.2.2.2.1 _ hlink) (fun _ h => h) hfin hpar hn hfit hlen hd (fun H1 locs1 hP1 hD1 hS1 => kk o H1 locs1 ls (hset _ _ hP1 hD1) hS1 hl)
theorem ac_putF {index ci k a : Nat} {fs : List Value} {v : Value} {ty : FieldType} (hl0 : ac_fp M.2.2 index ci k ty true) (hname : (ac_meth x).name = "<init>") (hf : f a = some (.inr (ci, fs))) (hlen : k < fs.length) (hn : narrow ty v = v) (hfit : fits ty v = true) (hd : decode M.1 pc = .ok (.putfield index, 3)) (kk : ac_At M x kc ks (pc + 3) lv st (ac_up f a (.inr (ci, fs.set k v)))) : ac_At M x kc ks pc lv (v :: .ref a :: st) f := by
  intro o H locs ls hw hS hl
  obtain ⟨C, T, N, ty0, hc, hin, hk, hlink, hty, hnm, hfin, hpar, hown⟩ := hl0
  obtain ⟨ws, q0, hP, hD, hq, hset, -⟩ := ac_get hw hf
  exact va_putF o.1 o.2.1 o.2.2.2.2.1 hin ty0 hty hnm o.2.2.2.1 o.2.2.2.2.2.1 hP hD hS q0 hq hc k hk (o.2.2.2.2.1 _ hlink) (fun _ h => h) hfin hname (hown rfl) hpar hn hfit hlen hd (fun H1 locs1 hP1 hD1 hS1 => kk o H1 locs1 ls (hset _ _ hP1 hD1) hS1 hl)
theorem ac_iald {a n t0 : Nat} {g : Nat → Int32} {i : Int32} (ht : (tys_ (ac_ki x))[t0]? = some (ac_ki x t0, .int)) (hf : f a = some (.inl (ac_ki x t0, n, .inl g))) (hin : vp_in i n) (hd : decode M.1 pc = .ok (.iaload, 1)) (kk : ac_At M x kc ks (pc + 1) lv (.int (g i.toNatClampNeg) :: st) f) : ac_At M x kc ks pc lv (.int i :: .ref a :: st) f := by
  intro o H locs ls hw hS hl
  obtain ⟨ws, q0, hP, hD, hq, -, -⟩ := ac_get hw hf
  exact va_iald o.1 o.2.1 o.2.2.2.2.2.1 hP q0 t0 hq ht hin hd (kk o H locs ls hw hS hl)
theorem ac_zald {a n t0 : Nat} {g : Nat → Int32} {i : Int32} (ht : (tys_ (ac_ki x))[t0]? = some (ac_ki x t0, .boolean)) (hf : f a = some (.inl (ac_ki x t0, n, .inl g))) (hin : vp_in i n) (hd : decode M.1 pc = .ok (.baload, 1)) (kk : ac_At M x kc ks (pc + 1) lv (.int (g i.toNatClampNeg) :: st) f) : ac_At M x kc ks pc lv (.int i :: .ref a :: st) f := by
  intro o H locs ls hw hS hl
  obtain ⟨ws, q0, hP, hD, hq, -, -⟩ := ac_get hw hf
  exact va_zald o.1 o.2.1 o.2.2.2.2.2.1 hP q0 t0 hq ht hin hd (kk o H locs ls hw hS hl)
theorem ac_lald {a n t0 : Nat} {g : Nat → Int64} {i : Int32} (ht : (tys_ (ac_ki x))[t0]? = some (ac_ki x t0, .long)) (hf : f a = some (.inl (ac_ki x t0, n, .inr (.inl g)))) (hin : vp_in i n) (hd : decode M.1 pc = .ok (.laload, 1)) (kk : ac_At M x kc ks (pc + 1) lv (.long (g i.toNatClampNeg) :: st) f) : ac_At M x kc ks pc lv (.int i :: .ref a :: st) f := by
  intro o H locs ls hw hS hl
  obtain ⟨ws, q0, hP, hD, hq, -, -⟩ := ac_get hw hf
  exact va_lald o.1 o.2.1 o.2.2.2.2.2.1 hP q0 t0 hq ht hin hd (kk o H locs ls hw hS hl)
theorem ac_aald {a n t0 r : Nat} {g : Nat → Option Nat} {i : Int32} {C : String} (ht : (tys_ (ac_ki x))[t0]? = some (ac_ki x t0, .object C)) (hf : f a = some (.inl (ac_ki x t0, n, .inr (.inr (.inr (.inr g)))))) (hin : vp_in i n) (hg : g i.toNatClampNeg = some r) (hd : decode M.1 pc = .ok (.aaload, 1)) (kk : ac_At M x kc ks (pc + 1) lv (.ref r :: st) f) : ac_At M x kc ks pc lv (.int i :: .ref a :: st) f := by
  intro o H locs ls hw hS hl
  obtain ⟨ws, q0, hP, hD, hq, -, -⟩ := ac_get hw hf
  exact va_aldq o.1 o.2.1 o.2.2.2.2.2.1 hP q0 t0 hq ht hin hd (by rw [hg]; exact kk o H locs ls hw hS hl)
theorem ac_iast {a n t0 : Nat} {g : Nat → Int32} {i v : Int32} (ht : (tys_ (ac_ki x))[t0]? = some (ac_ki x t0, .int)) (hf : f a = some (.inl (ac_ki x t0, n, .inl g))) (hin : vp_in i n) (hd : decode M.1 pc = .ok (.iastore, 1)) (kk : ac_At M x kc ks (pc + 1) lv st (ac_up f a (.inl (ac_ki x t0, n, .inl (upd g i.toNatClampNeg v))))) : ac_At M x kc ks pc lv (.int v :: .int i :: .ref a :: st) f := by
  intro o H locs ls hw hS hl
  obtain ⟨ws, q0, hP, hD, hq, hset, -⟩ := ac_get hw hf
  exact va_iast o.1 o.2.1 o.2.2.2.2.2.1 hP hD hS q0 t0 hq ht hin hd (fun H1 locs1 hP1 hD1 hS1 => kk o H1 locs1 ls (hset _ _ hP1 hD1) hS1 hl)
theorem ac_zast {a n t0 : Nat} {g : Nat → Int32} {i v : Int32} (ht : (tys_ (ac_ki x))[t0]? = some (ac_ki x t0, .boolean)) (hf : f a = some (.inl (ac_ki x t0, n, .inl g))) (hin : vp_in i n) (hd : decode M.1 pc = .ok (.bastore, 1)) (kk : ac_At M x kc ks (pc + 1) lv st (ac_up f a (.inl (ac_ki x t0, n, .inl (upd g i.toNatClampNeg (vp_nar .boolean v)))))) : ac_At M x kc ks pc lv (.int v :: .int i :: .ref a :: st) f := by
  intro o H locs ls hw hS hl
  obtain ⟨ws, q0, hP, hD, hq, hset, -⟩ := ac_get hw hf
  exact va_zast o.1 o.2.1 o.2.2.2.2.2.1 hP hD hS q0 t0 hq ht hin hd (fun H1 locs1 hP1 hD1 hS1 => kk o H1 locs1 ls (hset _ _ hP1 hD1) hS1 hl)
theorem ac_last {a n t0 : Nat} {g : Nat → Int64} {i : Int32} {v : Int64} (ht : (tys_ (ac_ki x))[t0]? = some (ac_ki x t0, .long)) (hf : f a = some (.inl (ac_ki x t0, n, .inr (.inl g)))) (hin : vp_in i n) (hd : decode M.1 pc = .ok (.lastore, 1)) (kk : ac_At M x kc ks (pc + 1) lv st (ac_up f a (.inl (ac_ki x t0, n, .inr (.inl (vp_updL g i.toNatClampNeg v)))))) : ac_At M x kc ks pc lv (.long v :: .int i :: .ref a :: st) f := by
  intro o H locs ls hw hS hl
  obtain ⟨ws, q0, hP, hD, hq, hset, -⟩ := ac_get hw hf
  exact va_last o.1 o.2.1 o.2.2.2.2.2.1 hP hD hS q0 t0 hq ht hin hd (fun H1 locs1 hP1 hD1 hS1 => kk o H1 locs1 ls (hset _ _ hP1 hD1) hS1 hl)
theorem ac_aast {a n t0 v ci : Nat} {g : Nat → Option Nat} {i : Int32} {r : vw_C} {vs : List Value} (ht : (tys_ (ac_ki x))[t0]? = some (ac_ki x t0, .object r.1)) (hc : cl_[ci]? = some r) (hf : f a = some (.inl (ac_ki x t0, n, .inr (.inr (.inr (.inr g)))))) (hv : f v = some (.inr (ci, vs))) (hin : vp_in i n) (hd : decode M.1 pc = .ok (.aastore, 1)) (kk : ac_At M x kc ks (pc + 1) lv st (ac_up f a (.inl (ac_ki x t0, n, .inr (.inr (.inr (.inr (va_up g i.toNatClampNeg (some v))))))))) : ac_At M x kc ks pc lv (.ref v :: .int i :: .ref a :: st) f := by
  intro o H locs ls hw hS hl
  obtain ⟨ws, q0, hP, hD, hq, hset, hall⟩ := ac_get hw hf
  obtain ⟨qk, hqk⟩ := hall v _ hv
  exact va_astq o.1 o.2.1 o.2.2.2.2.2.1 hP hD hS q0 t0 qk ci hq ht hqk hc hin hd (fun H1 locs1 hP1 hD1 hS1 => kk o H1 locs1 ls (hset _ _ hP1 hD1) hS1 hl)
theorem ac_alen {a t0 : Nat} {v : vp_A} {ty : FieldType} (ht : (tys_ (ac_ki x))[t0]? = some (ac_ki x t0, ty)) (hf : f a = some (.inl (ac_ki x t0, v))) (hd : decode M.1 pc = .ok (.arraylength, 1)) (kk : ac_At M x kc ks (pc + 1) lv (.int (Int32.ofNat v.1) :: st) f) : ac_At M x kc ks pc lv (.ref a :: st) f := by
  intro o H locs ls hw hS hl
  obtain ⟨ws, q0, hP, hD, hq, -, -⟩ := ac_get hw hf
  exact va_alen o.1 o.2.1 o.2.2.2.2.2.1 hP q0 t0 hq ht rfl hd (kk o H locs ls hw hS hl)
theorem ac_copyi {index a0 a n0 n1 t0 : Nat} {g0 g1 : Nat → Int32} {sp dp n : Int32} {ty : FieldType} (hlink : Cond.methodLink M.2.2 index arraycopyName ∈ T0_) (hnat : Cond.native arraycopyName ∈ T0_) (hstat : Cond.static arraycopyName ∈ T0_) (hini : Cond.initialized "java/lang/System" ∈ T0_) (ht : (tys_ (ac_ki x))[t0]? = some (ac_ki x t0, ty)) (hprim : refKind ty = false) (hf0 : f a0 = some (.inl (ac_ki x t0, n0, .inl g0))) (hf1 : f a = some (.inl (ac_ki x t0, n1, .inl g1)))
    (h1 : ¬ sp < 0) (h2 : ¬ dp < 0) (h3 : ¬ n < 0) (h4 : sp.toNatClampNeg + n.toNatClampNeg ≤ n0) (h5 : dp.toNatClampNeg + n.toNatClampNeg ≤ n1) (hfit : ∀ i, i < n.toNatClampNeg → fits ty (.int (g0 (sp.toNatClampNeg + i))) = true) (hfr : 1 ≤ (ac_R x).frames) (hlo : (st.map fun v => v.category).sum + (nativeFrameWords "java/lang/System" "arraycopy" 5 + 11) ≤ (ac_R x).locals)
    (hd : decode M.1 pc = .ok (.invokestatic index, 3)) (kk : ac_At M x kc ks (pc + 3) lv st (ac_up f a (.inl (ac_ki x t0, n1, .inl (va_cpy g0 g1 sp.toNatClampNeg dp.toNatClampNeg n.toNatClampNeg))))) : ac_At M x kc ks pc lv (.int n :: .int dp :: .ref a :: .int sp :: .ref a0 :: st) f := by
  intro o H locs ls hw hS hl
  obtain ⟨ws, q1, hP, hD, hq, hset, hall⟩ := ac_get hw hf1
  obtain ⟨q0, hq0⟩ := hall a0 _ hf0
  exact va_copyi o.1 o.2.1 (o.2.2.1.trans hl.1.symm) o.2.2.2.1 (o.2.2.2.2.1 _ hlink) (o.2.2.2.2.1 _ hnat) (o.2.2.2.2.1 _ hstat) (o.2.2.2.2.1 _ hini) o.2.2.2.2.2.1 hP hD hS q0 q1 t0 t0 hq0 hq ht ht hprim h1 h2 h3 h4 h5 hfit hfr hlo hd (fun H1 locs1 hP1 hD1 hS1 => kk o H1 locs1 ls (hset _ _ hP1 hD1) hS1 hl)
end AH
/-! new cells, returns, calls, a method's start -/
theorem ac_ra_inj {U : State} {c1 c2 : ClassId} {ty : FieldType} (h1 : va_RA U c1 ty) (h2 : va_RA U c2 ty) : c1 = c2 := by
  cases ty with
  | object C =>
    obtain ⟨-, -, -, -, -, e1⟩ := h1
    obtain ⟨-, -, -, -, -, e2⟩ := h2
    exact Option.some.inj (e1.symm.trans e2)
  | _ => exact Option.some.inj (Eq.trans (Eq.symm h1) h2)
theorem ac_kadd {D : va_G} {tys : List (ClassId × FieldType)} {U : State} {c1 c2 : ClassId} {ty : FieldType} {t0 : Nat} (h : va_K D cl_ (tys ++ [(c2, ty)]) U) (ht : tys[t0]? = some (c1, ty)) : c2 = c1 := by
  have hlt : t0 < tys.length := (List.getElem?_eq_some_iff.mp ht).1
  have h1 := (h.2 t0 (c1, ty) (by rw [List.getElem?_append_left hlt]; exact ht)).2
  have h2 := (h.2 tys.length (c2, ty) (by rw [List.getElem?_append_right (Nat.le_refl _), Nat.sub_self]; rfl)).2
  exact ac_ra_inj h2 h1
/-- own's pool entry index names class number ci, which can be made; dv: its fields' first values -/
def ac_cn (own : String) (index ci N : Nat) (dv : List Value) : Prop := ∃ (C : String) (T : u_T) (ty : Nat → FieldType), cl_[ci]? = some (C, T, N) ∧ (∀ w ∈ u_ws C T N, w ∈ T0_) ∧ (∀ k, k < N → parseFieldDescriptor (T k).2.2.1 = some (ty k)) ∧ Cond.classLink own index C ∈ T0_ ∧ Cond.instantiable C N ∈ T0_ ∧ Cond.initialized C ∈ T0_ ∧ ∀ j, j < N → defaultValue (ty j) = vp_V dv j
section AN
variable {M : ac_M} {x : ac_X} {kc ks pc : Nat} {lv : List (Nat × Value)} {st : List Value} {f : ac_hp}
theorem ac_newo {index ci N : Nat} {dv : List Value} (hl0 : ac_cn M.2.2 index ci N dv) (h1 : kc + 1 ≤ (ac_R x).cells) (h2 : ks + N ≤ (ac_R x).slots) (hd : decode M.1 pc = .ok (.new index, 3)) (kk : ∀ q, f q = none → ac_At M x (kc + 1) (ks + N) (pc + 3) lv (.ref q :: st) (ac_up f q (.inr (ci, dv)))) : ac_At M x kc ks pc lv st f := by
  intro o H locs ls hw hS hl
  obtain ⟨C, T, ty, hc, hin, hty, hcl, hinst, hini, hdv⟩ := hl0
  obtain ⟨ws, hP, hD, hnew⟩ := ac_new hw
  exact va_new o.1 o.2.1 o.2.2.2.2.1 hin ty hty o.2.2.2.1 (o.2.2.2.2.1 _ hcl) (o.2.2.2.2.1 _ hinst) (o.2.2.2.2.1 _ hini) o.2.2.2.2.2.1 hP hD hS o.2.2.2.2.2.2.2 hc hdv h1 h2 hd (fun q H1 hP1 hD1 hS1 => kk q (hnew q _ H1 hP1 hD1).1 o H1 locs ls (hnew q _ H1 hP1 hD1).2 hS1 hl)
theorem ac_newa {at0 : ArrayType} {ty : FieldType} {t0 N : Nat} {n : Int32} {a0 : vp_A} (harr : Cond.arrayClass ty ∈ T0_) (hty : newarray.typeOf at0 = ty) (ht : (tys_ (ac_ki x))[t0]? = some (ac_ki x t0, ty)) (ha : ∀ cA : ClassId, vp_cell cA a0 = arrV cA N (fun _ => defaultValue ty)) (hn : ¬ n < 0) (hN : n.toNatClampNeg = N) (hb : N * componentBytes ty ≤ 536870912) (h1 : kc + 1 ≤ (ac_R x).cells) (h2 : ks + N ≤ (ac_R x).slots) (hd : decode M.1 pc = .ok (.newarray at0, 2)) (kk : ∀ q, f q = none → ac_At M x (kc + 1) (ks + N) (pc + 2) lv (.ref q :: st) (ac_up f q (.inl (ac_ki x t0, a0)))) : ac_At M x kc ks pc lv (.int n :: st) f := by
  intro o H locs ls hw hS hl
  obtain ⟨ws, hP, hD, hnew⟩ := ac_new hw
  subst hty
  exact va_newa o.1 o.2.1 (o.2.2.2.2.1 _ harr) rfl o.2.2.2.2.2.1 hP hD hS o.2.2.2.2.2.2.2 ha hn hN hb h1 h2 hd (fun q cA H1 hK1 hP1 hD1 hS1 => by
    have e := ac_kadd hK1 ht
    subst e
    exact kk q (hnew q _ H1 hP1 hD1).1 o H1 locs ls (hnew q _ H1 hP1 hD1).2 hS1 hl)
theorem ac_newq {index t0 N : Nat} {C : String} {n : Int32} (hcl : Cond.classLink M.2.2 index C ∈ T0_) (hao : C ∈ AO_) (ht : (tys_ (ac_ki x))[t0]? = some (ac_ki x t0, .object C)) (hn : ¬ n < 0) (hN : n.toNatClampNeg = N) (hb : N * 4 ≤ 536870912) (h1 : kc + 1 ≤ (ac_R x).cells) (h2 : ks + N ≤ (ac_R x).slots) (hd : decode M.1 pc = .ok (.anewarray index, 3)) (kk : ∀ q, f q = none → ac_At M x (kc + 1) (ks + N) (pc + 3) lv (.ref q :: st) (ac_up f q (.inl (ac_ki x t0, N, .inr (.inr (.inr (.inr (fun _ => none)))))))) : ac_At M x kc ks pc lv (.int n :: st) f := by
  intro o H locs ls hw hS hl
  obtain ⟨ws, hP, hD, hnew⟩ := ac_new hw
  exact va_newq o.1 o.2.1 o.2.2.2.1 (o.2.2.2.2.1 _ hcl) (o.2.2.2.2.2.2.1.2 C hao) o.2.2.2.2.2.1 hP hD hS o.2.2.2.2.2.2.2 hn hN hb h1 h2 hd (fun q cA H1 hK1 hP1 hD1 hS1 => by
    have e := ac_kadd hK1 ht
    subst e
    exact kk q (hnew q _ H1 hP1 hD1).1 o H1 locs ls (hnew q _ H1 hP1 hD1).2 hS1 hl)
/-- what a return must show: Qr answer world -/
def ac_rt (x : ac_X) (ret : Option FieldType) (Qr : Option Value → ac_hp → Prop) (mc ms : Nat) : Prop :=
  (ac_meth x).sig.returnType = ret ∧ (ac_meth x).locks = false ∧ ∃ (Qc : Array Value → State → Outcome → State → Prop) (free : Addr → Prop), x.2.2.2 = MQ x.2.1.2.2.1 Qc (ac_args x) (ac_s x) mc ms free ∧ (∀ q, ac_AA x q → free q) ∧ ∀ (v : Option Value) (f : ac_hp) (H : Heap) (locs : List Loc) (t : State), Qr v f → ac_wd (ac_D x) (ac_AA x) f H → va_S (ac_AA x) (ac_s x).heap H locs → t.heap = H → Qc (ac_args x) (ac_s x) (.returned v) t
theorem ac_ireturn {Qr : Option Value → ac_hp → Prop} {mc ms : Nat} {v : Int32} {ty : FieldType} (hR : ac_rt x (some ty) Qr mc ms) (hnar : narrow ty (.int v) = .int v) (hq : Qr (some (.int v)) f) (h1 : kc ≤ mc) (h2 : ks ≤ ms) (hd : decode M.1 pc = .ok (.ireturn, 1)) : ac_At M x kc ks pc lv [.int v] f := by
  intro o H locs ls hw hS hl
  obtain ⟨hr, hlk, Qc, free, hQ, hf, hret⟩ := hR
  rw [hQ]
  refine W.widen h1 h2 ?_
  exact W.zret o.1 o.2.1 hr hnar (fun t ht hW => hret _ _ _ _ _ hq hw hS ht) (fun q hq => hf _ (hS.2.2 q hq)) hd hlk
theorem ac_lreturn {Qr : Option Value → ac_hp → Prop} {mc ms : Nat} {v : Int64} (hR : ac_rt x (some .long) Qr mc ms) (hq : Qr (some (.long v)) f) (h1 : kc ≤ mc) (h2 : ks ≤ ms) (hd : decode M.1 pc = .ok (.lreturn, 1)) : ac_At M x kc ks pc lv [.long v] f := by
  intro o H locs ls hw hS hl
  obtain ⟨hr, hlk, Qc, free, hQ, hf, hret⟩ := hR
  rw [hQ]
  refine W.widen h1 h2 ?_
  exact W.lret o.1 o.2.1 hr (fun t ht hW => hret _ _ _ _ _ hq hw hS ht) (fun q hq => hf _ (hS.2.2 q hq)) hd hlk
theorem ac_vreturn {Qr : Option Value → ac_hp → Prop} {mc ms : Nat} (hR : ac_rt x none Qr mc ms) (hq : Qr none f) (h1 : kc ≤ mc) (h2 : ks ≤ ms) (hd : decode M.1 pc = .ok (.return_, 1)) : ac_At M x kc ks pc lv [] f := by
  intro o H locs ls hw hS hl
  obtain ⟨hr, hlk, Qc, free, hQ, hf, hret⟩ := hR
  rw [hQ]
  refine W.widen h1 h2 ?_
  exact W.vret o.1 o.2.1 hr (fun t ht hW => hret _ _ _ _ _ hq hw hS ht) (fun q hq => hf _ (hS.2.2 q hq)) hd hlk
theorem ac_areturn {Qr : Option Value → ac_hp → Prop} {mc ms v : Nat} {rt : FieldType} (hR : ac_rt x (some rt) Qr mc ms) (hrt : (∃ n, rt = .object n) ∨ ∃ t, rt = .array t) (hq : Qr (some (.ref v)) f) (h1 : kc ≤ mc) (h2 : ks ≤ ms) (hd : decode M.1 pc = .ok (.areturn, 1)) : ac_At M x kc ks pc lv [.ref v] f := by
  intro o H locs ls hw hS hl
  obtain ⟨hr, hlk, Qc, free, hQ, hf, hret⟩ := hR
  rw [hQ]
  refine W.widen h1 h2 ?_
  exact W.aret o.1 o.2.1 hr hrt (Or.inr ⟨v, rfl⟩) (fun t ht hW => hret _ _ _ _ _ hq hw hS ht) (fun q hq => hf _ (hS.2.2 q hq)) hd hlk
/-- a contract's start: the world f, whole -/
def ac_Pc (D : va_G) (ki : Nat → ClassId) (av : List Value) (f : ac_hp) (sz : Nat) : Array Value → State → Prop := fun v U => v = av.toArray ∧ U.heap.size = sz ∧ ac_wd D (fun _ => True) f U.heap ∧ va_K D cl_ (tys_ ki) U ∧ ac_nw U
/-- .. and its end -/
def ac_Qc (D : va_G) (Qr : Option Value → ac_hp → Prop) (f : ac_hp) (sz : Nat) : Array Value → State → Outcome → State → Prop := fun _ st oc t => ∃ (v : Option Value) (f' : ac_hp), oc = .returned v ∧ Qr v f' ∧ ac_wd D (ac_A f sz) f' t.heap ∧ va_F (ac_A f sz) st t
def ac_w (y : MethodName) (cc : ByteArray) (maxL : Nat) (ret : Option FieldType) : List Cond := Cond.code y cc maxL ret :: T0_
def ac_met (l : Launch) (D : va_G) (ki : Nat → ClassId) (y : MethodName) (cc : ByteArray) (maxL : Nat) (ret : Option FieldType) (rm : Room) (av : List Value) (f : ac_hp) (Qr : Option Value → ac_hp → Prop) (mc ms : Nat) : Prop := ∀ sz, Met l y (ac_w y cc maxL ret) rm (ac_Pc D ki av f sz) (ac_Qc D Qr f sz) mc ms (ac_A f sz)
theorem ac_pc_blind {D : va_G} {ki : Nat → ClassId} {av : List Value} {f : ac_hp} {sz : Nat} : FrameBlind (ac_Pc D ki av f sz) := fun a U g mk h => ⟨h.1, h.2.1, h.2.2.1, va_K.moved (u := U) (U := U.calling g mk a) (Vm.Alike.refl U.vm) h.2.2.2.1, ac_nw.same rfl h.2.2.2.2⟩
/-- behind a call -/
theorem ac_after {H : Heap} {locs : List Loc} {ls : Array Slot} {mc ms : Nat} {rest st0 : List Value} {a : Array Value} {Qr : Option Value → ac_hp → Prop} (o : ac_ok M x) (hw : ac_wd (ac_D x) (ac_AA x) f H) (hS : va_S (ac_AA x) (ac_s x).heap H locs) (hl : lv_has ls M.2.1 lv)
    (hr : va_Run x.1.1 x.1.2.1 x.1.2.2.1 x.1.2.2.2.1 x.1.2.2.2.2 x.2.1.1 x.2.1.2.1 x.2.1.2.2.1 x.2.1.2.2.2.1 x.2.1.2.2.2.2 H locs kc ks mc ms (F0 x.2.1.1 pc ls st0) rest (ac_Qc (ac_D x) Qr f H.size a) (ac_A f H.size))
    (kk : ∀ v f', Qr v f' → ac_At M x (kc + mc) (ks + ms) (pc + 3) lv (v.toList ++ rest) f') : W x.1.1 x.1.2.1 x.1.2.2.1 x.1.2.2.2.1 x.1.2.2.2.2 x.2.1.1 x.2.1.2.1 x.2.1.2.2.1 x.2.1.2.2.2.1 x.2.1.2.2.2.2 H locs kc ks x.2.2.2 (F0 x.2.1.1 pc ls st0) := by
  intro T hT X
  obtain ⟨v, st₀, t, T', L, h0, X', hL, e1, e2, ⟨v', f', hv, hq, hwd, hz, hk⟩, st⟩ := hr T hT X
  cases hv
  rw [h0] at hz hk
  have hsub : ∀ q, ac_A f H.size q → ac_AA x q := fun q h => by
    rcases h with ⟨e, he⟩ | h
    · exact hw.inA he
    · exact o.2.2.2.2.2.2.2 q (Nat.le_trans hS.1 h)
  obtain ⟨t2, a1, b1⟩ := kk v f' hq o T'.heap (locs ++ L) ls (by rw [e1]; exact hwd.weak hsub)
    ⟨Nat.le_trans hS.1 (by rw [e1]; exact hz), fun q h1 h2 => by rw [e1, hk q (Nat.lt_of_lt_of_le h1 hS.1) (fun z => h2 (hsub q z))]; exact hS.2.1 q h1 h2, fun q hq => by
      rcases List.mem_append.mp hq with h | h
      · exact hS.2.2 q h
      · exact hsub _ (hL q h)⟩ hl T' rfl X'
  exact ⟨t2, st t2 a1, b1⟩
/-- what the tables say of a callee -/
def ac_cd (y : MethodName) (cc : ByteArray) (maxL : Nat) (ret : Option FieldType) (n : Nat) : Prop := Cond.code y cc maxL ret ∈ T0_ ∧ Cond.initialized y.cls ∈ T0_ ∧ (y.cls ≠ "java/lang/invoke/MethodHandle" ∧ y.cls ≠ "java/lang/invoke/VarHandle" ∧ (parseMethodDescriptor y.desc).map (fun d => d.parameters.length) = some n)
theorem ac_ws_good {y : MethodName} {cc : ByteArray} {maxL : Nat} {ret : Option FieldType} (h : Cond.code y cc maxL ret ∈ T0_) : GoodIn T0_ (ac_w y cc maxL ret) := by
  intro w hw
  rcases List.mem_cons.mp hw with rfl | hw
  · exact ⟨h, T0_good _ h⟩
  · exact ⟨hw, T0_good _ hw⟩
theorem ac_callS {y : MethodName} {cc : ByteArray} {maxL n index mc ms : Nat} {ret : Option FieldType} {rm : Room} {As rest : List Value} {Qr : Option Value → ac_hp → Prop} (hc : ac_cd y cc maxL ret n) (hlink : Cond.methodLink M.2.2 index y ∈ T0_) (hstat : Cond.static y ∈ T0_) (hM : ac_met (ac_l x) (ac_D x) (ac_ki x) y cc maxL ret rm As f Qr mc ms) (hrc : rm.cells = mc) (hrs : rm.slots = ms) (hR : rm.frames + 1 ≤ (ac_R x).frames ∧ 8 + (maxL + 11) + rm.locals ≤ (ac_R x).locals) (hn : As.length = n) (hst : st = As.reverse ++ rest) (hW : (rest.map fun v => v.category).sum ≤ 8) (hf : kc + mc ≤ (ac_R x).cells ∧ ks + ms ≤ (ac_R x).slots) (hd : decode M.1 pc = .ok (.invokestatic index, 3))
    (kk : ∀ v f', Qr v f' → ac_At M x (kc + mc) (ks + ms) (pc + 3) lv (v.toList ++ rest) f') : ac_At M x kc ks pc lv st f := by
  intro o H locs ls hw hS hl
  refine ac_after o hw hS hl (va_runS (As := As) (n := n) ⟨o.1, o.2.1, o.2.2.1, o.2.2.2.1, o.2.2.2.2.1⟩ (hM H.size) ⟨callB_of n o.2.2.2.2.1 (ac_ws_good hc.1) rfl hrc hrs (o.2.2.2.2.1 _ hc.2.1) (o.2.2.2.2.1 _ hlink) hc.2.2 hR, o.2.2.2.2.1 _ hstat⟩ ⟨ac_pc_blind, fun U hU hW' => ⟨rfl, by rw [hU], by rw [hU]; exact hw.weak (fun _ _ => trivial), va_K.moved hW'.alike o.2.2.2.2.2.1, ac_nw.warm hW' o.2.2.2.2.2.2.1⟩⟩ rfl hn hl.1 hst (lv_room hW) hd hf) kk
theorem ac_callV {y : MethodName} {cc : ByteArray} {maxL n index mc ms b ci : Nat} {ret : Option FieldType} {rm : Room} {As rest fs : List Value} {r : vw_C} {Qr : Option Value → ac_hp → Prop} (hc : ac_cd y cc maxL ret n) (hlink : Cond.methodLink M.2.2 index y ∈ T0_) (hinst : Cond.instanceMethod y ∈ T0_) (hsel : Cond.selects r.1 y y ∈ T0_) (hr : cl_[ci]? = some r) (hb : f b = some (.inr (ci, fs))) (hM : ac_met (ac_l x) (ac_D x) (ac_ki x) y cc maxL ret rm (.ref b :: As) f Qr mc ms) (hrc : rm.cells = mc) (hrs : rm.slots = ms) (hR : rm.frames + 1 ≤ (ac_R x).frames ∧ 8 + (maxL + 11) + rm.locals ≤ (ac_R x).locals) (hn : As.length = n) (hst : st = As.reverse ++ .ref b :: rest) (hW : (rest.map fun v => v.category).sum ≤ 8) (hf : kc + mc ≤ (ac_R x).cells ∧ ks + ms ≤ (ac_R x).slots) (hd : decode M.1 pc = .ok (.invokevirtual index, 3))
    (kk : ∀ v f', Qr v f' → ac_At M x (kc + mc) (ks + ms) (pc + 3) lv (v.toList ++ rest) f') : ac_At M x kc ks pc lv st f := by
  intro o H locs ls hw hS hl
  obtain ⟨ws, q0, hP, hD, hq, -, -⟩ := ac_get hw hb
  refine ac_after o hw hS hl (va_runV (As := As) (n := n) (C := r.1) ⟨o.1, o.2.1, o.2.2.1, o.2.2.2.1, o.2.2.2.2.1⟩ (hM H.size) ⟨callB_of n o.2.2.2.2.1 (ac_ws_good hc.1) rfl hrc hrs (o.2.2.2.2.1 _ hc.2.1) (o.2.2.2.2.1 _ hlink) hc.2.2 hR, o.2.2.2.2.1 _ hinst, o.2.2.2.2.1 _ hsel⟩ ⟨ac_pc_blind, va_recv o.2.2.2.2.2.1 hP hr hq, fun U hU hW' => ⟨rfl, by rw [hU], by rw [hU]; exact hw.weak (fun _ _ => trivial), va_K.moved hW'.alike o.2.2.2.2.2.1, ac_nw.warm hW' o.2.2.2.2.2.2.1⟩⟩ rfl hn hl.1 hst (lv_room hW) hd hf) kk
theorem ac_callI {y : MethodName} {cc : ByteArray} {maxL n index mc ms b : Nat} {rm : Room} {As rest : List Value} {Qr : Option Value → ac_hp → Prop} (hc : ac_cd y cc maxL none n) (hlink : Cond.methodLink M.2.2 index y ∈ T0_) (hinst : Cond.instanceMethod y ∈ T0_) (hy1 : y.name = "<init>") (hM : ac_met (ac_l x) (ac_D x) (ac_ki x) y cc maxL none rm (.ref b :: As) f Qr mc ms) (hrc : rm.cells = mc) (hrs : rm.slots = ms) (hR : rm.frames + 1 ≤ (ac_R x).frames ∧ 8 + (maxL + 11) + rm.locals ≤ (ac_R x).locals) (hn : As.length = n) (hst : st = As.reverse ++ .ref b :: rest) (hW : (rest.map fun v => v.category).sum ≤ 8) (hf : kc + mc ≤ (ac_R x).cells ∧ ks + ms ≤ (ac_R x).slots) (hd : decode M.1 pc = .ok (.invokespecial index, 3))
    (kk : ∀ v f', Qr v f' → ac_At M x (kc + mc) (ks + ms) (pc + 3) lv (v.toList ++ rest) f') : ac_At M x kc ks pc lv st f := by
  intro o H locs ls hw hS hl
  refine ac_after o hw hS hl (va_runI (As := As) (n := n) ⟨o.1, o.2.1, o.2.2.1, o.2.2.2.1, o.2.2.2.2.1⟩ (hM H.size) ⟨callB_of n o.2.2.2.2.1 (ac_ws_good hc.1) rfl hrc hrs (o.2.2.2.2.1 _ hc.2.1) (o.2.2.2.2.1 _ hlink) hc.2.2 hR, hy1, o.2.2.2.2.1 _ hinst⟩ ⟨ac_pc_blind, fun U hU hW' => ⟨rfl, by rw [hU], by rw [hU]; exact hw.weak (fun _ _ => trivial), va_K.moved hW'.alike o.2.2.2.2.2.1, ac_nw.warm hW' o.2.2.2.2.2.2.1⟩⟩ rfl hn hl.1 hst (lv_room hW) hd hf) kk
-- the same between nest mates
theorem ac_cn_of {y : MethodName} {cc : ByteArray} {maxL n index mc ms : Nat} {ret : Option FieldType} {rm : Room} {host : String} (o : ac_ok M x) (hc : ac_cd y cc maxL ret n) (hlink : (M.2.2, index, y, host) ∈ NM_) (hrc : rm.cells = mc) (hrs : rm.slots = ms) (hR : rm.frames + 1 ≤ (ac_R x).frames ∧ 8 + (maxL + 11) + rm.locals ≤ (ac_R x).locals) : va_CN (ac_R x) (ac_s x) (ac_args x) M.2.2 index y host cc maxL ret (ac_w y cc maxL ret) rm mc ms n :=
  va_cnB n o.2.2.2.2.1 (ac_ws_good hc.1) rfl hrc hrs (o.2.2.2.2.2.2.1.1 _ hlink) (o.2.2.2.2.1 _ hc.2.1) hc.2.2 hR
theorem ac_callSN {y : MethodName} {cc : ByteArray} {maxL n index mc ms : Nat} {ret : Option FieldType} {rm : Room} {host : String} {As rest : List Value} {Qr : Option Value → ac_hp → Prop} (hc : ac_cd y cc maxL ret n) (hlink : (M.2.2, index, y, host) ∈ NM_) (hstat : Cond.static y ∈ T0_) (hM : ac_met (ac_l x) (ac_D x) (ac_ki x) y cc maxL ret rm As f Qr mc ms) (hrc : rm.cells = mc) (hrs : rm.slots = ms) (hR : rm.frames + 1 ≤ (ac_R x).frames ∧ 8 + (maxL + 11) + rm.locals ≤ (ac_R x).locals) (hn : As.length = n) (hst : st = As.reverse ++ rest) (hW : (rest.map fun v => v.category).sum ≤ 8) (hf : kc + mc ≤ (ac_R x).cells ∧ ks + ms ≤ (ac_R x).slots) (hd : decode M.1 pc = .ok (.invokestatic index, 3))
    (kk : ∀ v f', Qr v f' → ac_At M x (kc + mc) (ks + ms) (pc + 3) lv (v.toList ++ rest) f') : ac_At M x kc ks pc lv st f := by
  intro o H locs ls hw hS hl
  refine ac_after o hw hS hl (va_runSN (As := As) (n := n) ⟨o.1, o.2.1, o.2.2.1, o.2.2.2.1, o.2.2.2.2.1⟩ (hM H.size) ⟨ac_cn_of o hc hlink hrc hrs hR, o.2.2.2.2.1 _ hstat, trivial⟩ ⟨ac_pc_blind, fun U hU hW' => ⟨rfl, by rw [hU], by rw [hU]; exact hw.weak (fun _ _ => trivial), va_K.moved hW'.alike o.2.2.2.2.2.1, ac_nw.warm hW' o.2.2.2.2.2.2.1⟩⟩ rfl hn hl.1 hst (lv_room hW) hd hf) kk
theorem ac_callVN {y : MethodName} {cc : ByteArray} {maxL n index mc ms b ci : Nat} {ret : Option FieldType} {rm : Room} {host : String} {As rest fs : List Value} {r : vw_C} {Qr : Option Value → ac_hp → Prop} (hc : ac_cd y cc maxL ret n) (hlink : (M.2.2, index, y, host) ∈ NM_) (hinst : Cond.instanceMethod y ∈ T0_) (hsel : Cond.selects r.1 y y ∈ T0_) (hr : cl_[ci]? = some r) (hb : f b = some (.inr (ci, fs))) (hM : ac_met (ac_l x) (ac_D x) (ac_ki x) y cc maxL ret rm (.ref b :: As) f Qr mc ms) (hrc : rm.cells = mc) (hrs : rm.slots = ms) (hR : rm.frames + 1 ≤ (ac_R x).frames ∧ 8 + (maxL + 11) + rm.locals ≤ (ac_R x).locals) (hn : As.length = n) (hst : st = As.reverse ++ .ref b :: rest) (hW : (rest.map fun v => v.category).sum ≤ 8) (hf : kc + mc ≤ (ac_R x).cells ∧ ks + ms ≤ (ac_R x).slots) (hd : decode M.1 pc = .ok (.invokevirtual index, 3))
    (kk : ∀ v f', Qr v f' → ac_At M x (kc + mc) (ks + ms) (pc + 3) lv (v.toList ++ rest) f') : ac_At M x kc ks pc lv st f := by
  intro o H locs ls hw hS hl
  obtain ⟨ws, q0, hP, hD, hq, -, -⟩ := ac_get hw hb
  refine ac_after o hw hS hl (va_runVN (As := As) (n := n) (C := r.1) ⟨o.1, o.2.1, o.2.2.1, o.2.2.2.1, o.2.2.2.2.1⟩ (hM H.size) ⟨ac_cn_of o hc hlink hrc hrs hR, o.2.2.2.2.1 _ hinst, o.2.2.2.2.1 _ hsel⟩ ⟨ac_pc_blind, va_recv o.2.2.2.2.2.1 hP hr hq, fun U hU hW' => ⟨rfl, by rw [hU], by rw [hU]; exact hw.weak (fun _ _ => trivial), va_K.moved hW'.alike o.2.2.2.2.2.1, ac_nw.warm hW' o.2.2.2.2.2.2.1⟩⟩ rfl hn hl.1 hst (lv_room hW) hd hf) kk
theorem ac_callIN {y : MethodName} {cc : ByteArray} {maxL n index mc ms b : Nat} {rm : Room} {host : String} {As rest : List Value} {Qr : Option Value → ac_hp → Prop} (hc : ac_cd y cc maxL none n) (hlink : (M.2.2, index, y, host) ∈ NM_) (hinst : Cond.instanceMethod y ∈ T0_) (hy1 : y.name = "<init>") (hM : ac_met (ac_l x) (ac_D x) (ac_ki x) y cc maxL none rm (.ref b :: As) f Qr mc ms) (hrc : rm.cells = mc) (hrs : rm.slots = ms) (hR : rm.frames + 1 ≤ (ac_R x).frames ∧ 8 + (maxL + 11) + rm.locals ≤ (ac_R x).locals) (hn : As.length = n) (hst : st = As.reverse ++ .ref b :: rest) (hW : (rest.map fun v => v.category).sum ≤ 8) (hf : kc + mc ≤ (ac_R x).cells ∧ ks + ms ≤ (ac_R x).slots) (hd : decode M.1 pc = .ok (.invokespecial index, 3))
    (kk : ∀ v f', Qr v f' → ac_At M x (kc + mc) (ks + ms) (pc + 3) lv (v.toList ++ rest) f') : ac_At M x kc ks pc lv st f := by
  intro o H locs ls hw hS hl
  refine ac_after o hw hS hl (va_runIN (As := As) (n := n) ⟨o.1, o.2.1, o.2.2.1, o.2.2.2.1, o.2.2.2.2.1⟩ (hM H.size) ⟨ac_cn_of o hc hlink hrc hrs hR, hy1, o.2.2.2.2.1 _ hinst⟩ ⟨ac_pc_blind, fun U hU hW' => ⟨rfl, by rw [hU], by rw [hU]; exact hw.weak (fun _ _ => trivial), va_K.moved hW'.alike o.2.2.2.2.2.1, ac_nw.warm hW' o.2.2.2.2.2.2.1⟩⟩ rfl hn hl.1 hst (lv_room hW) hd hf) kk
theorem ac_objInit {index a : Nat} (hlink : Cond.methodLink M.2.2 index objectInit ∈ T0_) (hinst : Cond.instanceMethod objectInit ∈ T0_) (hcode : Cond.code objectInit ⟨#[0xb1]⟩ 1 none ∈ T0_) (hfr : 1 ≤ (ac_R x).frames) (hlo : (st.map fun v => v.category).sum + 12 ≤ (ac_R x).locals) (hd : decode M.1 pc = .ok (.invokespecial index, 3)) (kk : ac_At M x kc ks (pc + 3) lv st f) : ac_At M x kc ks pc lv (.ref a :: st) f := by
  intro o H locs ls hw hS hl
  refine W.objInit o.1 o.2.1 o.2.2.2.1 (o.2.2.2.2.1 _ hlink) (o.2.2.2.2.1 _ hinst) (o.2.2.2.2.1 _ hcode) rfl (hl.1.trans o.2.2.1.symm) rfl hd hfr (by show 2 * (0 : Nat) + _ + 12 ≤ _; simpa using hlo) ?_
  exact kk o H locs ls hw hS hl
end AN
/-- a method's contract out of the walk of its body -/
theorem ac_enter {l : Launch} {D : va_G} {ki : Nat → ClassId} {y : MethodName} {cc : ByteArray} {maxL mc ms : Nat} {ret : Option FieldType} {rm : Room} {av : List Value} {f : ac_hp} {Qr : Option Value → ac_hp → Prop} (P : (Nat → ClassId) → Prop) (hy : plainName y.cls = true) (hav : (lg_sl av).length ≤ maxL) (h : P ki)
    (body : ∀ x : ac_X, ac_R x = rm → ac_rt x ret Qr mc ms → (ac_meth x).name = y.name → P (ac_ki x) → ac_At (cc, maxL, y.cls) x 0 0 0 (lv_args 0 av) [] f) : ac_met l D ki y cc maxL ret rm av f Qr mc ms := by
  intro sz
  refine Met.ofW (cc := cc) (maxL := maxL) (ret := ret) hy rfl ?_
  intro p e s m args below meth c s₁ B hml hv
  obtain ⟨rfl, hsz, hw, hK, hN⟩ := hv
  have hts := atoms_spec (ws := ac_w y cc maxL ret) B.pre
  have hown : s.vm.findClass y.cls = some m.cls := findClass_of_methodNamed B.named
  subst hsz
  have hl := lv_entry av (n := maxL) hav
  rw [lg_entry_eq]
  refine body ((p, l, e, rm, s), (m, av.toArray, below, meth, c), (D, ki, ac_A f s.heap.size), MQ below (ac_Qc D Qr f s.heap.size) av.toArray s mc ms (ac_A f s.heap.size)) rfl ⟨B.returns, B.notSynchronized, _, _, rfl, fun _ h => h, fun v f' H locs t hq hwd hS ht => ⟨v, f', rfl, hq, by rw [ht]; exact hwd, hS.F ht⟩⟩ (name_of_methodNamed B.named B.method).1 h
    ⟨B.exec, B.bytes, hml, hown, fun w hw => hts w (List.mem_cons_of_mem _ hw), hK, hN, fun q hq => Or.inr hq⟩ s.heap [] _ hw.self va_S.rf hl
/-! the words of the printed pictures: a read, a write, by what the world's map says -/
def hr_f (f : ac_hp) (a ci k : Nat) (v : Value) : Prop := ∃ fs, f a = some (.inr (ci, fs)) ∧ fs[k]? = some v
def hw_f (f : ac_hp) (a ci k : Nat) (v : Value) (f' : ac_hp) : Prop := ∃ fs, f a = some (.inr (ci, fs)) ∧ k < fs.length ∧ f' = ac_up f a (.inr (ci, fs.set k v))
def hr_o (f : ac_hp) (a ci : Nat) : Prop := ∃ fs, f a = some (.inr (ci, fs))
def hr_i (c : ClassId) (f : ac_hp) (a : Nat) (i v : Int32) : Prop := ∃ n g, f a = some (.inl (c, n, .inl g)) ∧ vp_in i n ∧ v = g i.toNatClampNeg
def hw_i (c : ClassId) (f : ac_hp) (a : Nat) (i v : Int32) (f' : ac_hp) : Prop := ∃ n g, f a = some (.inl (c, n, .inl g)) ∧ vp_in i n ∧ f' = ac_up f a (.inl (c, n, .inl (upd g i.toNatClampNeg v)))
def hr_l (c : ClassId) (f : ac_hp) (a : Nat) (i : Int32) (v : Int64) : Prop := ∃ n g, f a = some (.inl (c, n, .inr (.inl g))) ∧ vp_in i n ∧ v = g i.toNatClampNeg
def hw_l (c : ClassId) (f : ac_hp) (a : Nat) (i : Int32) (v : Int64) (f' : ac_hp) : Prop := ∃ n g, f a = some (.inl (c, n, .inr (.inl g))) ∧ vp_in i n ∧ f' = ac_up f a (.inl (c, n, .inr (.inl (vp_updL g i.toNatClampNeg v))))
def hr_q (c : ClassId) (f : ac_hp) (a : Nat) (i : Int32) (r : Nat) : Prop := ∃ n g, f a = some (.inl (c, n, .inr (.inr (.inr (.inr g))))) ∧ vp_in i n ∧ g i.toNatClampNeg = some r
def hw_q (c : ClassId) (ci : Nat) (f : ac_hp) (a : Nat) (i : Int32) (r : Nat) (f' : ac_hp) : Prop := ∃ n g vs, f a = some (.inl (c, n, .inr (.inr (.inr (.inr g))))) ∧ f r = some (.inr (ci, vs)) ∧ vp_in i n ∧ f' = ac_up f a (.inl (c, n, .inr (.inr (.inr (.inr (va_up g i.toNatClampNeg (some r)))))))
def hr_n (c : ClassId) (f : ac_hp) (a : Nat) (v : Int32) : Prop := ∃ w : vp_A, f a = some (.inl (c, w)) ∧ v = Int32.ofNat w.1
def hw_c (c : ClassId) (f : ac_hp) (a0 : Nat) (sp : Int32) (a : Nat) (dp n : Int32) (f' : ac_hp) : Prop := ∃ n0 n1 g0 g1, f a0 = some (.inl (c, n0, .inl g0)) ∧ f a = some (.inl (c, n1, .inl g1)) ∧ ¬ sp < 0 ∧ ¬ dp < 0 ∧ ¬ n < 0 ∧ sp.toNatClampNeg + n.toNatClampNeg ≤ n0 ∧ dp.toNatClampNeg + n.toNatClampNeg ≤ n1 ∧ f' = ac_up f a (.inl (c, n1, .inl (va_cpy g0 g1 sp.toNatClampNeg dp.toNatClampNeg n.toNatClampNeg)))
def hw_d (c : ClassId) (f : ac_hp) (a0 : Nat) (sp : Int32) (a : Nat) (dp n : Int32) (f' : ac_hp) : Prop := ∃ n0 n1 g0 g1, f a0 = some (.inl (c, n0, .inr (.inl g0))) ∧ f a = some (.inl (c, n1, .inr (.inl g1))) ∧ ¬ sp < 0 ∧ ¬ dp < 0 ∧ ¬ n < 0 ∧ sp.toNatClampNeg + n.toNatClampNeg ≤ n0 ∧ dp.toNatClampNeg + n.toNatClampNeg ≤ n1 ∧ f' = ac_up f a (.inl (c, n1, .inr (.inl (va_cpy g0 g1 sp.toNatClampNeg dp.toNatClampNeg n.toNatClampNeg))))
section AK
variable {M : ac_M} {x : ac_X} {kc ks pc : Nat} {lv : List (Nat × Value)} {st : List Value} {f : ac_hp}
theorem ak_topi {a : Int32} (k : ∀ y : Int32, y = a → ac_At M x kc ks pc lv (.int y :: st) f) : ac_At M x kc ks pc lv (.int a :: st) f := k a rfl
theorem ak_topl {a : Int64} (k : ∀ y : Int64, y = a → ac_At M x kc ks pc lv (.long y :: st) f) : ac_At M x kc ks pc lv (.long a :: st) f := k a rfl
theorem ak_getf {index ci k a : Nat} {v : Value} (hr : hr_f f a ci k v) (hl0 : ac_fl M.2.2 index ci k) (hd : decode M.1 pc = .ok (.getfield index, 3)) (kk : ac_At M x kc ks (pc + 3) lv (v :: st) f) : ac_At M x kc ks pc lv (.ref a :: st) f := by
  obtain ⟨fs, h1, h2⟩ := hr
  exact ac_getf hl0 h1 h2 hd kk
theorem ak_putf {index ci k a : Nat} {v : Value} {ty : FieldType} {f' : ac_hp} (hr : hw_f f a ci k v f') (hl0 : ac_fp M.2.2 index ci k ty false) (hn : narrow ty v = v) (hfit : fits ty v = true) (hd : decode M.1 pc = .ok (.putfield index, 3)) (kk : ac_At M x kc ks (pc + 3) lv st f') : ac_At M x kc ks pc lv (v :: .ref a :: st) f := by
  obtain ⟨fs, h1, h2, rfl⟩ := hr
  exact ac_putf hl0 h1 h2 hn hfit hd kk
theorem ak_putF {index ci k a : Nat} {v : Value} {ty : FieldType} {f' : ac_hp} (hr : hw_f f a ci k v f') (hl0 : ac_fp M.2.2 index ci k ty true) (hname : (ac_meth x).name = "<init>") (hn : narrow ty v = v) (hfit : fits ty v = true) (hd : decode M.1 pc = .ok (.putfield index, 3)) (kk : ac_At M x kc ks (pc + 3) lv st f') : ac_At M x kc ks pc lv (v :: .ref a :: st) f := by
  obtain ⟨fs, h1, h2, rfl⟩ := hr
  exact ac_putF hl0 hname h1 h2 hn hfit hd kk
theorem ak_iald {a : Nat} {i v : Int32} (t0 : Nat) (hr : hr_i (ac_ki x t0) f a i v) (ht : (tys_ (ac_ki x))[t0]? = some (ac_ki x t0, .int)) (hd : decode M.1 pc = .ok (.iaload, 1)) (kk : ac_At M x kc ks (pc + 1) lv (.int v :: st) f) : ac_At M x kc ks pc lv (.int i :: .ref a :: st) f := by
  obtain ⟨n, g, h1, h2, rfl⟩ := hr
  exact ac_iald ht h1 h2 hd kk
theorem ak_zald {a : Nat} {i v : Int32} (t0 : Nat) (hr : hr_i (ac_ki x t0) f a i v) (ht : (tys_ (ac_ki x))[t0]? = some (ac_ki x t0, .boolean)) (hd : decode M.1 pc = .ok (.baload, 1)) (kk : ac_At M x kc ks (pc + 1) lv (.int v :: st) f) : ac_At M x kc ks pc lv (.int i :: .ref a :: st) f := by
  obtain ⟨n, g, h1, h2, rfl⟩ := hr
  exact ac_zald ht h1 h2 hd kk
theorem ak_lald {a : Nat} {i : Int32} {v : Int64} (t0 : Nat) (hr : hr_l (ac_ki x t0) f a i v) (ht : (tys_ (ac_ki x))[t0]? = some (ac_ki x t0, .long)) (hd : decode M.1 pc = .ok (.laload, 1)) (kk : ac_At M x kc ks (pc + 1) lv (.long v :: st) f) : ac_At M x kc ks pc lv (.int i :: .ref a :: st) f := by
  obtain ⟨n, g, h1, h2, rfl⟩ := hr
  exact ac_lald ht h1 h2 hd kk
theorem ak_aald {a r : Nat} {i : Int32} {C : String} (t0 : Nat) (hr : hr_q (ac_ki x t0) f a i r) (ht : (tys_ (ac_ki x))[t0]? = some (ac_ki x t0, .object C)) (hd : decode M.1 pc = .ok (.aaload, 1)) (kk : ac_At M x kc ks (pc + 1) lv (.ref r :: st) f) : ac_At M x kc ks pc lv (.int i :: .ref a :: st) f := by
  obtain ⟨n, g, h1, h2, h3⟩ := hr
  exact ac_aald ht h1 h2 h3 hd kk
theorem ak_iast {a : Nat} {i v : Int32} {f' : ac_hp} (t0 : Nat) (hr : hw_i (ac_ki x t0) f a i v f') (ht : (tys_ (ac_ki x))[t0]? = some (ac_ki x t0, .int)) (hd : decode M.1 pc = .ok (.iastore, 1)) (kk : ac_At M x kc ks (pc + 1) lv st f') : ac_At M x kc ks pc lv (.int v :: .int i :: .ref a :: st) f := by
  obtain ⟨n, g, h1, h2, rfl⟩ := hr
  exact ac_iast ht h1 h2 hd kk
theorem ak_zast {a : Nat} {i v : Int32} {f' : ac_hp} (t0 : Nat) (hr : hw_i (ac_ki x t0) f a i (vp_nar .boolean v) f') (ht : (tys_ (ac_ki x))[t0]? = some (ac_ki x t0, .boolean)) (hd : decode M.1 pc = .ok (.bastore, 1)) (kk : ac_At M x kc ks (pc + 1) lv st f') : ac_At M x kc ks pc lv (.int v :: .int i :: .ref a :: st) f := by
  obtain ⟨n, g, h1, h2, rfl⟩ := hr
  exact ac_zast ht h1 h2 hd kk
theorem ak_last {a : Nat} {i : Int32} {v : Int64} {f' : ac_hp} (t0 : Nat) (hr : hw_l (ac_ki x t0) f a i v f') (ht : (tys_ (ac_ki x))[t0]? = some (ac_ki x t0, .long)) (hd : decode M.1 pc = .ok (.lastore, 1)) (kk : ac_At M x kc ks (pc + 1) lv st f') : ac_At M x kc ks pc lv (.long v :: .int i :: .ref a :: st) f := by
  obtain ⟨n, g, h1, h2, rfl⟩ := hr
  exact ac_last ht h1 h2 hd kk
theorem ak_aast {a v ci : Nat} {i : Int32} {r : vw_C} {f' : ac_hp} (t0 : Nat) (hr : hw_q (ac_ki x t0) ci f a i v f') (ht : (tys_ (ac_ki x))[t0]? = some (ac_ki x t0, .object r.1)) (hc : cl_[ci]? = some r) (hd : decode M.1 pc = .ok (.aastore, 1)) (kk : ac_At M x kc ks (pc + 1) lv st f') : ac_At M x kc ks pc lv (.ref v :: .int i :: .ref a :: st) f := by
  obtain ⟨n, g, vs, h1, h2, h3, rfl⟩ := hr
  exact ac_aast ht hc h1 h2 h3 hd kk
theorem ak_alen {a : Nat} {v : Int32} {ty : FieldType} (t0 : Nat) (hr : hr_n (ac_ki x t0) f a v) (ht : (tys_ (ac_ki x))[t0]? = some (ac_ki x t0, ty)) (hd : decode M.1 pc = .ok (.arraylength, 1)) (kk : ac_At M x kc ks (pc + 1) lv (.int v :: st) f) : ac_At M x kc ks pc lv (.ref a :: st) f := by
  obtain ⟨w, h1, rfl⟩ := hr
  exact ac_alen ht h1 hd kk
theorem ak_copyi {index a0 a : Nat} {sp dp n : Int32} {f' : ac_hp} (t0 : Nat) (hr : hw_c (ac_ki x t0) f a0 sp a dp n f') (hlink : Cond.methodLink M.2.2 index arraycopyName ∈ T0_) (hnat : Cond.native arraycopyName ∈ T0_) (hstat : Cond.static arraycopyName ∈ T0_) (hini : Cond.initialized "java/lang/System" ∈ T0_) (ht : (tys_ (ac_ki x))[t0]? = some (ac_ki x t0, .int)) (hfr : 1 ≤ (ac_R x).frames) (hlo : (st.map fun v => v.category).sum + (nativeFrameWords "java/lang/System" "arraycopy" 5 + 11) ≤ (ac_R x).locals)
    (hd : decode M.1 pc = .ok (.invokestatic index, 3)) (kk : ac_At M x kc ks (pc + 3) lv st f') : ac_At M x kc ks pc lv (.int n :: .int dp :: .ref a :: .int sp :: .ref a0 :: st) f := by
  obtain ⟨n0, n1, g0, g1, h1, h2, h3, h4, h5, h6, h7, rfl⟩ := hr
  exact ac_copyi hlink hnat hstat hini ht rfl h1 h2 h3 h4 h5 h6 h7 (fun _ _ => rfl) hfr hlo hd kk
end AK
/-! answers by their kinds; calls of methods that make nothing; rooms by levels -/
def ro_ (k mc ms : Nat) : Room := { frames := k, cells := mc, slots := ms, locals := 64 * k }
def qr_I (Q : Int32 → ac_hp → Prop) : Option Value → ac_hp → Prop := fun v f => ∃ r : Int32, v = some (.int r) ∧ Q r f
def qr_J (Q : Int64 → ac_hp → Prop) : Option Value → ac_hp → Prop := fun v f => ∃ r : Int64, v = some (.long r) ∧ Q r f
def qr_R (Q : Nat → ac_hp → Prop) : Option Value → ac_hp → Prop := fun v f => ∃ r : Nat, v = some (.ref r) ∧ Q r f
def qr_V (Q : ac_hp → Prop) : Option Value → ac_hp → Prop := fun v f => v = none ∧ Q f
section AQ
variable {M : ac_M} {x : ac_X} {kc ks pc : Nat} {lv : List (Nat × Value)} {st rest : List Value} {f : ac_hp}
theorem ac_I {Q : Int32 → ac_hp → Prop} (kk : ∀ r f', Q r f' → ac_At M x kc ks pc lv (.int r :: rest) f') : ∀ v f', qr_I Q v f' → ac_At M x kc ks pc lv (v.toList ++ rest) f' := by
  rintro v f' ⟨r, rfl, h⟩
  exact kk r f' h
theorem ac_J {Q : Int64 → ac_hp → Prop} (kk : ∀ r f', Q r f' → ac_At M x kc ks pc lv (.long r :: rest) f') : ∀ v f', qr_J Q v f' → ac_At M x kc ks pc lv (v.toList ++ rest) f' := by
  rintro v f' ⟨r, rfl, h⟩
  exact kk r f' h
theorem ac_Rf {Q : Nat → ac_hp → Prop} (kk : ∀ r f', Q r f' → ac_At M x kc ks pc lv (.ref r :: rest) f') : ∀ v f', qr_R Q v f' → ac_At M x kc ks pc lv (v.toList ++ rest) f' := by
  rintro v f' ⟨r, rfl, h⟩
  exact kk r f' h
theorem ac_V {Q : ac_hp → Prop} (kk : ∀ f', Q f' → ac_At M x kc ks pc lv rest f') : ∀ v f', qr_V Q v f' → ac_At M x kc ks pc lv (v.toList ++ rest) f' := by
  rintro v f' ⟨rfl, h⟩
  exact kk f' h
theorem ac_callS0 {y : MethodName} {cc : ByteArray} {maxL n index : Nat} {ret : Option FieldType} {rm : Room} {As : List Value} {Qr : Option Value → ac_hp → Prop} (hc : ac_cd y cc maxL ret n) (hlink : Cond.methodLink M.2.2 index y ∈ T0_) (hstat : Cond.static y ∈ T0_) (hM : ac_met (ac_l x) (ac_D x) (ac_ki x) y cc maxL ret rm As f Qr 0 0) (hrc : rm.cells = 0) (hrs : rm.slots = 0) (hR : rm.frames + 1 ≤ (ac_R x).frames ∧ 8 + (maxL + 11) + rm.locals ≤ (ac_R x).locals) (hn : As.length = n) (hst : st = As.reverse ++ rest) (hW : (rest.map fun v => v.category).sum ≤ 8) (hf : kc + 0 ≤ (ac_R x).cells ∧ ks + 0 ≤ (ac_R x).slots) (hd : decode M.1 pc = .ok (.invokestatic index, 3))
    (kk : ∀ v f', Qr v f' → ac_At M x kc ks (pc + 3) lv (v.toList ++ rest) f') : ac_At M x kc ks pc lv st f := ac_callS hc hlink hstat hM hrc hrs hR hn hst hW hf hd kk
theorem ac_callV0 {y : MethodName} {cc : ByteArray} {maxL n index b ci : Nat} {ret : Option FieldType} {rm : Room} {As fs : List Value} {r : vw_C} {Qr : Option Value → ac_hp → Prop} (hc : ac_cd y cc maxL ret n) (hlink : Cond.methodLink M.2.2 index y ∈ T0_) (hinst : Cond.instanceMethod y ∈ T0_) (hsel : Cond.selects r.1 y y ∈ T0_) (hr : cl_[ci]? = some r) (hb : f b = some (.inr (ci, fs))) (hM : ac_met (ac_l x) (ac_D x) (ac_ki x) y cc maxL ret rm (.ref b :: As) f Qr 0 0) (hrc : rm.cells = 0) (hrs : rm.slots = 0) (hR : rm.frames + 1 ≤ (ac_R x).frames ∧ 8 + (maxL + 11) + rm.locals ≤ (ac_R x).locals) (hn : As.length = n) (hst : st = As.reverse ++ .ref b :: rest) (hW : (rest.map fun v => v.category).sum ≤ 8) (hf : kc + 0 ≤ (ac_R x).cells ∧ ks + 0 ≤ (ac_R x).slots) (hd : decode M.1 pc = .ok (.invokevirtual index, 3))
    (kk : ∀ v f', Qr v f' → ac_At M x kc ks (pc + 3) lv (v.toList ++ rest) f') : ac_At M x kc ks pc lv st f := ac_callV hc hlink hinst hsel hr hb hM hrc hrs hR hn hst hW hf hd kk
theorem ac_callI0 {y : MethodName} {cc : ByteArray} {maxL n index b : Nat} {rm : Room} {As : List Value} {Qr : Option Value → ac_hp → Prop} (hc : ac_cd y cc maxL none n) (hlink : Cond.methodLink M.2.2 index y ∈ T0_) (hinst : Cond.instanceMethod y ∈ T0_) (hy1 : y.name = "<init>") (hM : ac_met (ac_l x) (ac_D x) (ac_ki x) y cc maxL none rm (.ref b :: As) f Qr 0 0) (hrc : rm.cells = 0) (hrs : rm.slots = 0) (hR : rm.frames + 1 ≤ (ac_R x).frames ∧ 8 + (maxL + 11) + rm.locals ≤ (ac_R x).locals) (hn : As.length = n) (hst : st = As.reverse ++ .ref b :: rest) (hW : (rest.map fun v => v.category).sum ≤ 8) (hf : kc + 0 ≤ (ac_R x).cells ∧ ks + 0 ≤ (ac_R x).slots) (hd : decode M.1 pc = .ok (.invokespecial index, 3))
    (kk : ∀ v f', Qr v f' → ac_At M x kc ks (pc + 3) lv (v.toList ++ rest) f') : ac_At M x kc ks pc lv st f := ac_callI hc hlink hinst hy1 hM hrc hrs hR hn hst hW hf hd kk
theorem ac_callSN0 {y : MethodName} {cc : ByteArray} {maxL n index : Nat} {ret : Option FieldType} {rm : Room} {host : String} {As : List Value} {Qr : Option Value → ac_hp → Prop} (hc : ac_cd y cc maxL ret n) (hlink : (M.2.2, index, y, host) ∈ NM_) (hstat : Cond.static y ∈ T0_) (hM : ac_met (ac_l x) (ac_D x) (ac_ki x) y cc maxL ret rm As f Qr 0 0) (hrc : rm.cells = 0) (hrs : rm.slots = 0) (hR : rm.frames + 1 ≤ (ac_R x).frames ∧ 8 + (maxL + 11) + rm.locals ≤ (ac_R x).locals) (hn : As.length = n) (hst : st = As.reverse ++ rest) (hW : (rest.map fun v => v.category).sum ≤ 8) (hf : kc + 0 ≤ (ac_R x).cells ∧ ks + 0 ≤ (ac_R x).slots) (hd : decode M.1 pc = .ok (.invokestatic index, 3))
    (kk : ∀ v f', Qr v f' → ac_At M x kc ks (pc + 3) lv (v.toList ++ rest) f') : ac_At M x kc ks pc lv st f := ac_callSN hc hlink hstat hM hrc hrs hR hn hst hW hf hd kk
theorem ac_callVN0 {y : MethodName} {cc : ByteArray} {maxL n index b ci : Nat} {ret : Option FieldType} {rm : Room} {host : String} {As fs : List Value} {r : vw_C} {Qr : Option Value → ac_hp → Prop} (hc : ac_cd y cc maxL ret n) (hlink : (M.2.2, index, y, host) ∈ NM_) (hinst : Cond.instanceMethod y ∈ T0_) (hsel : Cond.selects r.1 y y ∈ T0_) (hr : cl_[ci]? = some r) (hb : f b = some (.inr (ci, fs))) (hM : ac_met (ac_l x) (ac_D x) (ac_ki x) y cc maxL ret rm (.ref b :: As) f Qr 0 0) (hrc : rm.cells = 0) (hrs : rm.slots = 0) (hR : rm.frames + 1 ≤ (ac_R x).frames ∧ 8 + (maxL + 11) + rm.locals ≤ (ac_R x).locals) (hn : As.length = n) (hst : st = As.reverse ++ .ref b :: rest) (hW : (rest.map fun v => v.category).sum ≤ 8) (hf : kc + 0 ≤ (ac_R x).cells ∧ ks + 0 ≤ (ac_R x).slots) (hd : decode M.1 pc = .ok (.invokevirtual index, 3))
    (kk : ∀ v f', Qr v f' → ac_At M x kc ks (pc + 3) lv (v.toList ++ rest) f') : ac_At M x kc ks pc lv st f := ac_callVN hc hlink hinst hsel hr hb hM hrc hrs hR hn hst hW hf hd kk
theorem ac_callIN0 {y : MethodName} {cc : ByteArray} {maxL n index b : Nat} {rm : Room} {host : String} {As : List Value} {Qr : Option Value → ac_hp → Prop} (hc : ac_cd y cc maxL none n) (hlink : (M.2.2, index, y, host) ∈ NM_) (hinst : Cond.instanceMethod y ∈ T0_) (hy1 : y.name = "<init>") (hM : ac_met (ac_l x) (ac_D x) (ac_ki x) y cc maxL none rm (.ref b :: As) f Qr 0 0) (hrc : rm.cells = 0) (hrs : rm.slots = 0) (hR : rm.frames + 1 ≤ (ac_R x).frames ∧ 8 + (maxL + 11) + rm.locals ≤ (ac_R x).locals) (hn : As.length = n) (hst : st = As.reverse ++ .ref b :: rest) (hW : (rest.map fun v => v.category).sum ≤ 8) (hf : kc + 0 ≤ (ac_R x).cells ∧ ks + 0 ≤ (ac_R x).slots) (hd : decode M.1 pc = .ok (.invokespecial index, 3))
    (kk : ∀ v f', Qr v f' → ac_At M x kc ks (pc + 3) lv (v.toList ++ rest) f') : ac_At M x kc ks pc lv st f := ac_callIN hc hlink hinst hy1 hM hrc hrs hR hn hst hW hf hd kk
end AQ
end
section
abbrev y_X0_init : MethodName := ⟨"VirtualRewrite", "<init>", "()V"⟩
theorem d_X0_init_0 : decode prog_1_method_1_code 0 = .ok (.aload_n 0, 1) := by decide +kernel
theorem d_X0_init_1 : decode prog_1_method_1_code 1 = .ok (.invokespecial 3, 3) := by decide +kernel
theorem d_X0_init_4 : decode prog_1_method_1_code 4 = .ok (.aload_n 0, 1) := by decide +kernel
theorem d_X0_init_5 : decode prog_1_method_1_code 5 = .ok (.new 9, 3) := by decide +kernel
theorem d_X0_init_8 : decode prog_1_method_1_code 8 = .ok (.dup, 1) := by decide +kernel
theorem d_X0_init_9 : decode prog_1_method_1_code 9 = .ok (.invokespecial 11, 3) := by decide +kernel
theorem d_X0_init_12 : decode prog_1_method_1_code 12 = .ok (.putfield 12, 3) := by decide +kernel
theorem d_X0_init_15 : decode prog_1_method_1_code 15 = .ok (.aload_n 0, 1) := by decide +kernel
theorem d_X0_init_16 : decode prog_1_method_1_code 16 = .ok (.new 16, 3) := by decide +kernel
theorem d_X0_init_19 : decode prog_1_method_1_code 19 = .ok (.dup, 1) := by decide +kernel
theorem d_X0_init_20 : decode prog_1_method_1_code 20 = .ok (.invokespecial 18, 3) := by decide +kernel
theorem d_X0_init_23 : decode prog_1_method_1_code 23 = .ok (.putfield 19, 3) := by decide +kernel
theorem d_X0_init_26 : decode prog_1_method_1_code 26 = .ok (.aload_n 0, 1) := by decide +kernel
theorem d_X0_init_27 : decode prog_1_method_1_code 27 = .ok (.new 23, 3) := by decide +kernel
theorem d_X0_init_30 : decode prog_1_method_1_code 30 = .ok (.dup, 1) := by decide +kernel
theorem d_X0_init_31 : decode prog_1_method_1_code 31 = .ok (.aload_n 0, 1) := by decide +kernel
theorem d_X0_init_32 : decode prog_1_method_1_code 32 = .ok (.getfield 12, 3) := by decide +kernel
theorem d_X0_init_35 : decode prog_1_method_1_code 35 = .ok (.aload_n 0, 1) := by decide +kernel
theorem d_X0_init_36 : decode prog_1_method_1_code 36 = .ok (.getfield 19, 3) := by decide +kernel
theorem d_X0_init_39 : decode prog_1_method_1_code 39 = .ok (.invokespecial 25, 3) := by decide +kernel
theorem d_X0_init_42 : decode prog_1_method_1_code 42 = .ok (.putfield 28, 3) := by decide +kernel
theorem d_X0_init_45 : decode prog_1_method_1_code 45 = .ok (.aload_n 0, 1) := by decide +kernel
theorem d_X0_init_46 : decode prog_1_method_1_code 46 = .ok (.new 32, 3) := by decide +kernel
theorem d_X0_init_49 : decode prog_1_method_1_code 49 = .ok (.dup, 1) := by decide +kernel
theorem d_X0_init_50 : decode prog_1_method_1_code 50 = .ok (.aload_n 0, 1) := by decide +kernel
theorem d_X0_init_51 : decode prog_1_method_1_code 51 = .ok (.getfield 12, 3) := by decide +kernel
theorem d_X0_init_54 : decode prog_1_method_1_code 54 = .ok (.aload_n 0, 1) := by decide +kernel
theorem d_X0_init_55 : decode prog_1_method_1_code 55 = .ok (.getfield 19, 3) := by decide +kernel
theorem d_X0_init_58 : decode prog_1_method_1_code 58 = .ok (.aload_n 0, 1) := by decide +kernel
theorem d_X0_init_59 : decode prog_1_method_1_code 59 = .ok (.getfield 28, 3) := by decide +kernel
theorem d_X0_init_62 : decode prog_1_method_1_code 62 = .ok (.invokespecial 34, 3) := by decide +kernel
theorem d_X0_init_65 : decode prog_1_method_1_code 65 = .ok (.putfield 37, 3) := by decide +kernel
theorem d_X0_init_68 : decode prog_1_method_1_code 68 = .ok (.aload_n 0, 1) := by decide +kernel
theorem d_X0_init_69 : decode prog_1_method_1_code 69 = .ok (.new 41, 3) := by decide +kernel
theorem d_X0_init_72 : decode prog_1_method_1_code 72 = .ok (.dup, 1) := by decide +kernel
theorem d_X0_init_73 : decode prog_1_method_1_code 73 = .ok (.invokespecial 43, 3) := by decide +kernel
theorem d_X0_init_76 : decode prog_1_method_1_code 76 = .ok (.putfield 44, 3) := by decide +kernel
theorem d_X0_init_79 : decode prog_1_method_1_code 79 = .ok (.aload_n 0, 1) := by decide +kernel
theorem d_X0_init_80 : decode prog_1_method_1_code 80 = .ok (.new 48, 3) := by decide +kernel
theorem d_X0_init_83 : decode prog_1_method_1_code 83 = .ok (.dup, 1) := by decide +kernel
theorem d_X0_init_84 : decode prog_1_method_1_code 84 = .ok (.aload_n 0, 1) := by decide +kernel
theorem d_X0_init_85 : decode prog_1_method_1_code 85 = .ok (.getfield 19, 3) := by decide +kernel
theorem d_X0_init_88 : decode prog_1_method_1_code 88 = .ok (.aload_n 0, 1) := by decide +kernel
theorem d_X0_init_89 : decode prog_1_method_1_code 89 = .ok (.getfield 28, 3) := by decide +kernel
theorem d_X0_init_92 : decode prog_1_method_1_code 92 = .ok (.aload_n 0, 1) := by decide +kernel
theorem d_X0_init_93 : decode prog_1_method_1_code 93 = .ok (.getfield 37, 3) := by decide +kernel
theorem d_X0_init_96 : decode prog_1_method_1_code 96 = .ok (.aload_n 0, 1) := by decide +kernel
theorem d_X0_init_97 : decode prog_1_method_1_code 97 = .ok (.getfield 44, 3) := by decide +kernel
theorem d_X0_init_100 : decode prog_1_method_1_code 100 = .ok (.invokespecial 50, 3) := by decide +kernel
theorem d_X0_init_103 : decode prog_1_method_1_code 103 = .ok (.putfield 53, 3) := by decide +kernel
theorem d_X0_init_106 : decode prog_1_method_1_code 106 = .ok (.return_, 1) := by decide +kernel
abbrev y_X1_init : MethodName := ⟨"VirtualRewrite$Catalog", "<init>", "()V"⟩
theorem d_X1_init_0 : decode prog_3_method_1_code 0 = .ok (.aload_n 0, 1) := by decide +kernel
theorem d_X1_init_1 : decode prog_3_method_1_code 1 = .ok (.invokespecial 3, 3) := by decide +kernel
theorem d_X1_init_4 : decode prog_3_method_1_code 4 = .ok (.aload_n 0, 1) := by decide +kernel
theorem d_X1_init_5 : decode prog_3_method_1_code 5 = .ok (.iconst 4, 1) := by decide +kernel
theorem d_X1_init_6 : decode prog_3_method_1_code 6 = .ok (.anewarray 9, 3) := by decide +kernel
theorem d_X1_init_9 : decode prog_3_method_1_code 9 = .ok (.putfield 11, 3) := by decide +kernel
theorem d_X1_init_12 : decode prog_3_method_1_code 12 = .ok (.aload_n 0, 1) := by decide +kernel
theorem d_X1_init_13 : decode prog_3_method_1_code 13 = .ok (.bipush 12, 2) := by decide +kernel
theorem d_X1_init_15 : decode prog_3_method_1_code 15 = .ok (.anewarray 17, 3) := by decide +kernel
theorem d_X1_init_18 : decode prog_3_method_1_code 18 = .ok (.putfield 19, 3) := by decide +kernel
theorem d_X1_init_21 : decode prog_3_method_1_code 21 = .ok (.aload_n 0, 1) := by decide +kernel
theorem d_X1_init_22 : decode prog_3_method_1_code 22 = .ok (.sipush 240, 3) := by decide +kernel
theorem d_X1_init_25 : decode prog_3_method_1_code 25 = .ok (.newarray .long, 2) := by decide +kernel
theorem d_X1_init_27 : decode prog_3_method_1_code 27 = .ok (.putfield 23, 3) := by decide +kernel
theorem d_X1_init_30 : decode prog_3_method_1_code 30 = .ok (.aload_n 0, 1) := by decide +kernel
theorem d_X1_init_31 : decode prog_3_method_1_code 31 = .ok (.iconst 0, 1) := by decide +kernel
theorem d_X1_init_32 : decode prog_3_method_1_code 32 = .ok (.putfield 27, 3) := by decide +kernel
theorem d_X1_init_35 : decode prog_3_method_1_code 35 = .ok (.aload_n 0, 1) := by decide +kernel
theorem d_X1_init_36 : decode prog_3_method_1_code 36 = .ok (.iconst 0, 1) := by decide +kernel
theorem d_X1_init_37 : decode prog_3_method_1_code 37 = .ok (.putfield 31, 3) := by decide +kernel
theorem d_X1_init_40 : decode prog_3_method_1_code 40 = .ok (.iconst 0, 1) := by decide +kernel
theorem d_X1_init_41 : decode prog_3_method_1_code 41 = .ok (.istore_n 1, 1) := by decide +kernel
theorem d_X1_init_42 : decode prog_3_method_1_code 42 = .ok (.iload_n 1, 1) := by decide +kernel
theorem d_X1_init_43 : decode prog_3_method_1_code 43 = .ok (.iconst 4, 1) := by decide +kernel
theorem d_X1_init_44 : decode prog_3_method_1_code 44 = .ok (.if_icmp .ge 22, 3) := by decide +kernel
theorem d_X1_init_47 : decode prog_3_method_1_code 47 = .ok (.aload_n 0, 1) := by decide +kernel
theorem d_X1_init_48 : decode prog_3_method_1_code 48 = .ok (.getfield 11, 3) := by decide +kernel
theorem d_X1_init_51 : decode prog_3_method_1_code 51 = .ok (.iload_n 1, 1) := by decide +kernel
theorem d_X1_init_52 : decode prog_3_method_1_code 52 = .ok (.new 9, 3) := by decide +kernel
theorem d_X1_init_55 : decode prog_3_method_1_code 55 = .ok (.dup, 1) := by decide +kernel
theorem d_X1_init_56 : decode prog_3_method_1_code 56 = .ok (.invokespecial 34, 3) := by decide +kernel
theorem d_X1_init_59 : decode prog_3_method_1_code 59 = .ok (.aastore, 1) := by decide +kernel
theorem d_X1_init_60 : decode prog_3_method_1_code 60 = .ok (.iinc 1 1, 3) := by decide +kernel
theorem d_X1_init_63 : decode prog_3_method_1_code 63 = .ok (.goto (-21), 3) := by decide +kernel
theorem d_X1_init_66 : decode prog_3_method_1_code 66 = .ok (.iconst 0, 1) := by decide +kernel
theorem d_X1_init_67 : decode prog_3_method_1_code 67 = .ok (.istore_n 1, 1) := by decide +kernel
theorem d_X1_init_68 : decode prog_3_method_1_code 68 = .ok (.iload_n 1, 1) := by decide +kernel
theorem d_X1_init_69 : decode prog_3_method_1_code 69 = .ok (.bipush 12, 2) := by decide +kernel
theorem d_X1_init_71 : decode prog_3_method_1_code 71 = .ok (.if_icmp .ge 22, 3) := by decide +kernel
theorem d_X1_init_74 : decode prog_3_method_1_code 74 = .ok (.aload_n 0, 1) := by decide +kernel
theorem d_X1_init_75 : decode prog_3_method_1_code 75 = .ok (.getfield 19, 3) := by decide +kernel
theorem d_X1_init_78 : decode prog_3_method_1_code 78 = .ok (.iload_n 1, 1) := by decide +kernel
theorem d_X1_init_79 : decode prog_3_method_1_code 79 = .ok (.new 17, 3) := by decide +kernel
theorem d_X1_init_82 : decode prog_3_method_1_code 82 = .ok (.dup, 1) := by decide +kernel
theorem d_X1_init_83 : decode prog_3_method_1_code 83 = .ok (.invokespecial 35, 3) := by decide +kernel
theorem d_X1_init_86 : decode prog_3_method_1_code 86 = .ok (.aastore, 1) := by decide +kernel
theorem d_X1_init_87 : decode prog_3_method_1_code 87 = .ok (.iinc 1 1, 3) := by decide +kernel
theorem d_X1_init_90 : decode prog_3_method_1_code 90 = .ok (.goto (-22), 3) := by decide +kernel
theorem d_X1_init_93 : decode prog_3_method_1_code 93 = .ok (.return_, 1) := by decide +kernel
abbrev y_X2_init : MethodName := ⟨"VirtualRewrite$Table", "<init>", "()V"⟩
theorem d_X2_init_0 : decode prog_9_method_1_code 0 = .ok (.aload_n 0, 1) := by decide +kernel
theorem d_X2_init_1 : decode prog_9_method_1_code 1 = .ok (.invokespecial 3, 3) := by decide +kernel
theorem d_X2_init_4 : decode prog_9_method_1_code 4 = .ok (.aload_n 0, 1) := by decide +kernel
theorem d_X2_init_5 : decode prog_9_method_1_code 5 = .ok (.bipush 60, 2) := by decide +kernel
theorem d_X2_init_7 : decode prog_9_method_1_code 7 = .ok (.newarray .int, 2) := by decide +kernel
theorem d_X2_init_9 : decode prog_9_method_1_code 9 = .ok (.putfield 9, 3) := by decide +kernel
theorem d_X2_init_12 : decode prog_9_method_1_code 12 = .ok (.aload_n 0, 1) := by decide +kernel
theorem d_X2_init_13 : decode prog_9_method_1_code 13 = .ok (.iconst 3, 1) := by decide +kernel
theorem d_X2_init_14 : decode prog_9_method_1_code 14 = .ok (.newarray .boolean, 2) := by decide +kernel
theorem d_X2_init_16 : decode prog_9_method_1_code 16 = .ok (.putfield 15, 3) := by decide +kernel
theorem d_X2_init_19 : decode prog_9_method_1_code 19 = .ok (.aload_n 0, 1) := by decide +kernel
theorem d_X2_init_20 : decode prog_9_method_1_code 20 = .ok (.iconst 0, 1) := by decide +kernel
theorem d_X2_init_21 : decode prog_9_method_1_code 21 = .ok (.putfield 19, 3) := by decide +kernel
theorem d_X2_init_24 : decode prog_9_method_1_code 24 = .ok (.return_, 1) := by decide +kernel
abbrev y_X3_init : MethodName := ⟨"VirtualRewrite$Mapping", "<init>", "()V"⟩
theorem d_X3_init_0 : decode prog_5_method_1_code 0 = .ok (.aload_n 0, 1) := by decide +kernel
theorem d_X3_init_1 : decode prog_5_method_1_code 1 = .ok (.invokespecial 3, 3) := by decide +kernel
theorem d_X3_init_4 : decode prog_5_method_1_code 4 = .ok (.aload_n 0, 1) := by decide +kernel
theorem d_X3_init_5 : decode prog_5_method_1_code 5 = .ok (.iconst 2, 1) := by decide +kernel
theorem d_X3_init_6 : decode prog_5_method_1_code 6 = .ok (.newarray .int, 2) := by decide +kernel
theorem d_X3_init_8 : decode prog_5_method_1_code 8 = .ok (.putfield 9, 3) := by decide +kernel
theorem d_X3_init_11 : decode prog_5_method_1_code 11 = .ok (.aload_n 0, 1) := by decide +kernel
theorem d_X3_init_12 : decode prog_5_method_1_code 12 = .ok (.iconst 2, 1) := by decide +kernel
theorem d_X3_init_13 : decode prog_5_method_1_code 13 = .ok (.newarray .int, 2) := by decide +kernel
theorem d_X3_init_15 : decode prog_5_method_1_code 15 = .ok (.putfield 15, 3) := by decide +kernel
theorem d_X3_init_18 : decode prog_5_method_1_code 18 = .ok (.aload_n 0, 1) := by decide +kernel
theorem d_X3_init_19 : decode prog_5_method_1_code 19 = .ok (.iconst 0, 1) := by decide +kernel
theorem d_X3_init_20 : decode prog_5_method_1_code 20 = .ok (.putfield 18, 3) := by decide +kernel
theorem d_X3_init_23 : decode prog_5_method_1_code 23 = .ok (.aload_n 0, 1) := by decide +kernel
theorem d_X3_init_24 : decode prog_5_method_1_code 24 = .ok (.iconst 0, 1) := by decide +kernel
theorem d_X3_init_25 : decode prog_5_method_1_code 25 = .ok (.putfield 22, 3) := by decide +kernel
theorem d_X3_init_28 : decode prog_5_method_1_code 28 = .ok (.return_, 1) := by decide +kernel
abbrev y_X4_init : MethodName := ⟨"VirtualRewrite$Question", "<init>", "()V"⟩
theorem d_X4_init_0 : decode prog_6_method_1_code 0 = .ok (.aload_n 0, 1) := by decide +kernel
theorem d_X4_init_1 : decode prog_6_method_1_code 1 = .ok (.invokespecial 3, 3) := by decide +kernel
theorem d_X4_init_4 : decode prog_6_method_1_code 4 = .ok (.aload_n 0, 1) := by decide +kernel
theorem d_X4_init_5 : decode prog_6_method_1_code 5 = .ok (.iconst 4, 1) := by decide +kernel
theorem d_X4_init_6 : decode prog_6_method_1_code 6 = .ok (.newarray .int, 2) := by decide +kernel
theorem d_X4_init_8 : decode prog_6_method_1_code 8 = .ok (.putfield 9, 3) := by decide +kernel
theorem d_X4_init_11 : decode prog_6_method_1_code 11 = .ok (.aload_n 0, 1) := by decide +kernel
theorem d_X4_init_12 : decode prog_6_method_1_code 12 = .ok (.bipush 8, 2) := by decide +kernel
theorem d_X4_init_14 : decode prog_6_method_1_code 14 = .ok (.newarray .int, 2) := by decide +kernel
theorem d_X4_init_16 : decode prog_6_method_1_code 16 = .ok (.putfield 15, 3) := by decide +kernel
theorem d_X4_init_19 : decode prog_6_method_1_code 19 = .ok (.aload_n 0, 1) := by decide +kernel
theorem d_X4_init_20 : decode prog_6_method_1_code 20 = .ok (.bipush 6, 2) := by decide +kernel
theorem d_X4_init_22 : decode prog_6_method_1_code 22 = .ok (.newarray .int, 2) := by decide +kernel
theorem d_X4_init_24 : decode prog_6_method_1_code 24 = .ok (.putfield 18, 3) := by decide +kernel
theorem d_X4_init_27 : decode prog_6_method_1_code 27 = .ok (.aload_n 0, 1) := by decide +kernel
theorem d_X4_init_28 : decode prog_6_method_1_code 28 = .ok (.bipush 6, 2) := by decide +kernel
theorem d_X4_init_30 : decode prog_6_method_1_code 30 = .ok (.newarray .int, 2) := by decide +kernel
theorem d_X4_init_32 : decode prog_6_method_1_code 32 = .ok (.putfield 21, 3) := by decide +kernel
theorem d_X4_init_35 : decode prog_6_method_1_code 35 = .ok (.aload_n 0, 1) := by decide +kernel
theorem d_X4_init_36 : decode prog_6_method_1_code 36 = .ok (.iconst 0, 1) := by decide +kernel
theorem d_X4_init_37 : decode prog_6_method_1_code 37 = .ok (.putfield 24, 3) := by decide +kernel
theorem d_X4_init_40 : decode prog_6_method_1_code 40 = .ok (.aload_n 0, 1) := by decide +kernel
theorem d_X4_init_41 : decode prog_6_method_1_code 41 = .ok (.iconst 0, 1) := by decide +kernel
theorem d_X4_init_42 : decode prog_6_method_1_code 42 = .ok (.putfield 28, 3) := by decide +kernel
theorem d_X4_init_45 : decode prog_6_method_1_code 45 = .ok (.iconst 0, 1) := by decide +kernel
theorem d_X4_init_46 : decode prog_6_method_1_code 46 = .ok (.istore_n 1, 1) := by decide +kernel
theorem d_X4_init_47 : decode prog_6_method_1_code 47 = .ok (.iload_n 1, 1) := by decide +kernel
theorem d_X4_init_48 : decode prog_6_method_1_code 48 = .ok (.bipush 6, 2) := by decide +kernel
theorem d_X4_init_50 : decode prog_6_method_1_code 50 = .ok (.if_icmp .ge 18, 3) := by decide +kernel
theorem d_X4_init_53 : decode prog_6_method_1_code 53 = .ok (.aload_n 0, 1) := by decide +kernel
theorem d_X4_init_54 : decode prog_6_method_1_code 54 = .ok (.getfield 21, 3) := by decide +kernel
theorem d_X4_init_57 : decode prog_6_method_1_code 57 = .ok (.iload_n 1, 1) := by decide +kernel
theorem d_X4_init_58 : decode prog_6_method_1_code 58 = .ok (.sipush 9999, 3) := by decide +kernel
theorem d_X4_init_61 : decode prog_6_method_1_code 61 = .ok (.iastore, 1) := by decide +kernel
theorem d_X4_init_62 : decode prog_6_method_1_code 62 = .ok (.iinc 1 1, 3) := by decide +kernel
theorem d_X4_init_65 : decode prog_6_method_1_code 65 = .ok (.goto (-18), 3) := by decide +kernel
theorem d_X4_init_68 : decode prog_6_method_1_code 68 = .ok (.return_, 1) := by decide +kernel
abbrev y_X5_init : MethodName := ⟨"VirtualRewrite$Rewriting", "<init>", "(LVirtualRewrite$Catalog;LVirtualRewrite$Question;)V"⟩
theorem d_X5_init_0 : decode prog_7_method_1_code 0 = .ok (.aload_n 0, 1) := by decide +kernel
theorem d_X5_init_1 : decode prog_7_method_1_code 1 = .ok (.invokespecial 3, 3) := by decide +kernel
theorem d_X5_init_4 : decode prog_7_method_1_code 4 = .ok (.aload_n 0, 1) := by decide +kernel
theorem d_X5_init_5 : decode prog_7_method_1_code 5 = .ok (.sipush 600, 3) := by decide +kernel
theorem d_X5_init_8 : decode prog_7_method_1_code 8 = .ok (.newarray .int, 2) := by decide +kernel
theorem d_X5_init_10 : decode prog_7_method_1_code 10 = .ok (.putfield 9, 3) := by decide +kernel
theorem d_X5_init_13 : decode prog_7_method_1_code 13 = .ok (.aload_n 0, 1) := by decide +kernel
theorem d_X5_init_14 : decode prog_7_method_1_code 14 = .ok (.iconst 4, 1) := by decide +kernel
theorem d_X5_init_15 : decode prog_7_method_1_code 15 = .ok (.newarray .int, 2) := by decide +kernel
theorem d_X5_init_17 : decode prog_7_method_1_code 17 = .ok (.putfield 15, 3) := by decide +kernel
theorem d_X5_init_20 : decode prog_7_method_1_code 20 = .ok (.aload_n 0, 1) := by decide +kernel
theorem d_X5_init_21 : decode prog_7_method_1_code 21 = .ok (.bipush 6, 2) := by decide +kernel
theorem d_X5_init_23 : decode prog_7_method_1_code 23 = .ok (.newarray .int, 2) := by decide +kernel
theorem d_X5_init_25 : decode prog_7_method_1_code 25 = .ok (.putfield 18, 3) := by decide +kernel
theorem d_X5_init_28 : decode prog_7_method_1_code 28 = .ok (.aload_n 0, 1) := by decide +kernel
theorem d_X5_init_29 : decode prog_7_method_1_code 29 = .ok (.iconst 0, 1) := by decide +kernel
theorem d_X5_init_30 : decode prog_7_method_1_code 30 = .ok (.putfield 21, 3) := by decide +kernel
theorem d_X5_init_33 : decode prog_7_method_1_code 33 = .ok (.aload_n 0, 1) := by decide +kernel
theorem d_X5_init_34 : decode prog_7_method_1_code 34 = .ok (.iconst 0, 1) := by decide +kernel
theorem d_X5_init_35 : decode prog_7_method_1_code 35 = .ok (.putfield 25, 3) := by decide +kernel
theorem d_X5_init_38 : decode prog_7_method_1_code 38 = .ok (.aload_n 0, 1) := by decide +kernel
theorem d_X5_init_39 : decode prog_7_method_1_code 39 = .ok (.iconst 0, 1) := by decide +kernel
theorem d_X5_init_40 : decode prog_7_method_1_code 40 = .ok (.putfield 29, 3) := by decide +kernel
theorem d_X5_init_43 : decode prog_7_method_1_code 43 = .ok (.aload_n 0, 1) := by decide +kernel
theorem d_X5_init_44 : decode prog_7_method_1_code 44 = .ok (.aload_n 1, 1) := by decide +kernel
theorem d_X5_init_45 : decode prog_7_method_1_code 45 = .ok (.putfield 32, 3) := by decide +kernel
theorem d_X5_init_48 : decode prog_7_method_1_code 48 = .ok (.aload_n 0, 1) := by decide +kernel
theorem d_X5_init_49 : decode prog_7_method_1_code 49 = .ok (.aload_n 2, 1) := by decide +kernel
theorem d_X5_init_50 : decode prog_7_method_1_code 50 = .ok (.putfield 36, 3) := by decide +kernel
theorem d_X5_init_53 : decode prog_7_method_1_code 53 = .ok (.return_, 1) := by decide +kernel
abbrev y_X6_init : MethodName := ⟨"VirtualRewrite$Slots", "<init>", "(LVirtualRewrite$Catalog;LVirtualRewrite$Question;LVirtualRewrite$Rewriting;)V"⟩
theorem d_X6_init_0 : decode prog_8_method_1_code 0 = .ok (.aload_n 0, 1) := by decide +kernel
theorem d_X6_init_1 : decode prog_8_method_1_code 1 = .ok (.invokespecial 3, 3) := by decide +kernel
theorem d_X6_init_4 : decode prog_8_method_1_code 4 = .ok (.aload_n 0, 1) := by decide +kernel
theorem d_X6_init_5 : decode prog_8_method_1_code 5 = .ok (.iconst 4, 1) := by decide +kernel
theorem d_X6_init_6 : decode prog_8_method_1_code 6 = .ok (.newarray .int, 2) := by decide +kernel
theorem d_X6_init_8 : decode prog_8_method_1_code 8 = .ok (.putfield 9, 3) := by decide +kernel
theorem d_X6_init_11 : decode prog_8_method_1_code 11 = .ok (.aload_n 0, 1) := by decide +kernel
theorem d_X6_init_12 : decode prog_8_method_1_code 12 = .ok (.iconst 0, 1) := by decide +kernel
theorem d_X6_init_13 : decode prog_8_method_1_code 13 = .ok (.putfield 15, 3) := by decide +kernel
theorem d_X6_init_16 : decode prog_8_method_1_code 16 = .ok (.aload_n 0, 1) := by decide +kernel
theorem d_X6_init_17 : decode prog_8_method_1_code 17 = .ok (.aload_n 1, 1) := by decide +kernel
theorem d_X6_init_18 : decode prog_8_method_1_code 18 = .ok (.putfield 19, 3) := by decide +kernel
theorem d_X6_init_21 : decode prog_8_method_1_code 21 = .ok (.aload_n 0, 1) := by decide +kernel
theorem d_X6_init_22 : decode prog_8_method_1_code 22 = .ok (.aload_n 2, 1) := by decide +kernel
theorem d_X6_init_23 : decode prog_8_method_1_code 23 = .ok (.putfield 23, 3) := by decide +kernel
theorem d_X6_init_26 : decode prog_8_method_1_code 26 = .ok (.aload_n 0, 1) := by decide +kernel
theorem d_X6_init_27 : decode prog_8_method_1_code 27 = .ok (.aload_n 3, 1) := by decide +kernel
theorem d_X6_init_28 : decode prog_8_method_1_code 28 = .ok (.putfield 27, 3) := by decide +kernel
theorem d_X6_init_31 : decode prog_8_method_1_code 31 = .ok (.return_, 1) := by decide +kernel
abbrev y_X7_init : MethodName := ⟨"VirtualRewrite$Answers", "<init>", "()V"⟩
theorem d_X7_init_0 : decode prog_2_method_1_code 0 = .ok (.aload_n 0, 1) := by decide +kernel
theorem d_X7_init_1 : decode prog_2_method_1_code 1 = .ok (.invokespecial 3, 3) := by decide +kernel
theorem d_X7_init_4 : decode prog_2_method_1_code 4 = .ok (.aload_n 0, 1) := by decide +kernel
theorem d_X7_init_5 : decode prog_2_method_1_code 5 = .ok (.sipush 1800, 3) := by decide +kernel
theorem d_X7_init_8 : decode prog_2_method_1_code 8 = .ok (.newarray .int, 2) := by decide +kernel
theorem d_X7_init_10 : decode prog_2_method_1_code 10 = .ok (.putfield 9, 3) := by decide +kernel
theorem d_X7_init_13 : decode prog_2_method_1_code 13 = .ok (.aload_n 0, 1) := by decide +kernel
theorem d_X7_init_14 : decode prog_2_method_1_code 14 = .ok (.sipush 300, 3) := by decide +kernel
theorem d_X7_init_17 : decode prog_2_method_1_code 17 = .ok (.newarray .int, 2) := by decide +kernel
theorem d_X7_init_19 : decode prog_2_method_1_code 19 = .ok (.putfield 15, 3) := by decide +kernel
theorem d_X7_init_22 : decode prog_2_method_1_code 22 = .ok (.aload_n 0, 1) := by decide +kernel
theorem d_X7_init_23 : decode prog_2_method_1_code 23 = .ok (.sipush 300, 3) := by decide +kernel
theorem d_X7_init_26 : decode prog_2_method_1_code 26 = .ok (.newarray .int, 2) := by decide +kernel
theorem d_X7_init_28 : decode prog_2_method_1_code 28 = .ok (.putfield 18, 3) := by decide +kernel
theorem d_X7_init_31 : decode prog_2_method_1_code 31 = .ok (.aload_n 0, 1) := by decide +kernel
theorem d_X7_init_32 : decode prog_2_method_1_code 32 = .ok (.sipush 300, 3) := by decide +kernel
theorem d_X7_init_35 : decode prog_2_method_1_code 35 = .ok (.newarray .int, 2) := by decide +kernel
theorem d_X7_init_37 : decode prog_2_method_1_code 37 = .ok (.putfield 21, 3) := by decide +kernel
theorem d_X7_init_40 : decode prog_2_method_1_code 40 = .ok (.aload_n 0, 1) := by decide +kernel
theorem d_X7_init_41 : decode prog_2_method_1_code 41 = .ok (.iconst 0, 1) := by decide +kernel
theorem d_X7_init_42 : decode prog_2_method_1_code 42 = .ok (.putfield 24, 3) := by decide +kernel
theorem d_X7_init_45 : decode prog_2_method_1_code 45 = .ok (.aload_n 0, 1) := by decide +kernel
theorem d_X7_init_46 : decode prog_2_method_1_code 46 = .ok (.iconst 0, 1) := by decide +kernel
theorem d_X7_init_47 : decode prog_2_method_1_code 47 = .ok (.putfield 28, 3) := by decide +kernel
theorem d_X7_init_50 : decode prog_2_method_1_code 50 = .ok (.aload_n 0, 1) := by decide +kernel
theorem d_X7_init_51 : decode prog_2_method_1_code 51 = .ok (.iconst 0, 1) := by decide +kernel
theorem d_X7_init_52 : decode prog_2_method_1_code 52 = .ok (.putfield 31, 3) := by decide +kernel
theorem d_X7_init_55 : decode prog_2_method_1_code 55 = .ok (.return_, 1) := by decide +kernel
abbrev y_X8_init : MethodName := ⟨"VirtualRewrite$Finder", "<init>", "(LVirtualRewrite$Question;LVirtualRewrite$Rewriting;LVirtualRewrite$Slots;LVirtualRewrite$Answers;)V"⟩
theorem d_X8_init_0 : decode prog_4_method_1_code 0 = .ok (.aload_n 0, 1) := by decide +kernel
theorem d_X8_init_1 : decode prog_4_method_1_code 1 = .ok (.invokespecial 3, 3) := by decide +kernel
theorem d_X8_init_4 : decode prog_4_method_1_code 4 = .ok (.aload_n 0, 1) := by decide +kernel
theorem d_X8_init_5 : decode prog_4_method_1_code 5 = .ok (.iconst 4, 1) := by decide +kernel
theorem d_X8_init_6 : decode prog_4_method_1_code 6 = .ok (.newarray .int, 2) := by decide +kernel
theorem d_X8_init_8 : decode prog_4_method_1_code 8 = .ok (.putfield 9, 3) := by decide +kernel
theorem d_X8_init_11 : decode prog_4_method_1_code 11 = .ok (.aload_n 0, 1) := by decide +kernel
theorem d_X8_init_12 : decode prog_4_method_1_code 12 = .ok (.iconst 4, 1) := by decide +kernel
theorem d_X8_init_13 : decode prog_4_method_1_code 13 = .ok (.newarray .int, 2) := by decide +kernel
theorem d_X8_init_15 : decode prog_4_method_1_code 15 = .ok (.putfield 15, 3) := by decide +kernel
theorem d_X8_init_18 : decode prog_4_method_1_code 18 = .ok (.aload_n 0, 1) := by decide +kernel
theorem d_X8_init_19 : decode prog_4_method_1_code 19 = .ok (.bipush 24, 2) := by decide +kernel
theorem d_X8_init_21 : decode prog_4_method_1_code 21 = .ok (.newarray .int, 2) := by decide +kernel
theorem d_X8_init_23 : decode prog_4_method_1_code 23 = .ok (.putfield 18, 3) := by decide +kernel
theorem d_X8_init_26 : decode prog_4_method_1_code 26 = .ok (.aload_n 0, 1) := by decide +kernel
theorem d_X8_init_27 : decode prog_4_method_1_code 27 = .ok (.bipush 80, 2) := by decide +kernel
theorem d_X8_init_29 : decode prog_4_method_1_code 29 = .ok (.newarray .int, 2) := by decide +kernel
theorem d_X8_init_31 : decode prog_4_method_1_code 31 = .ok (.putfield 21, 3) := by decide +kernel
theorem d_X8_init_34 : decode prog_4_method_1_code 34 = .ok (.aload_n 0, 1) := by decide +kernel
theorem d_X8_init_35 : decode prog_4_method_1_code 35 = .ok (.iconst 4, 1) := by decide +kernel
theorem d_X8_init_36 : decode prog_4_method_1_code 36 = .ok (.newarray .int, 2) := by decide +kernel
theorem d_X8_init_38 : decode prog_4_method_1_code 38 = .ok (.putfield 24, 3) := by decide +kernel
theorem d_X8_init_41 : decode prog_4_method_1_code 41 = .ok (.aload_n 0, 1) := by decide +kernel
theorem d_X8_init_42 : decode prog_4_method_1_code 42 = .ok (.iconst 4, 1) := by decide +kernel
theorem d_X8_init_43 : decode prog_4_method_1_code 43 = .ok (.newarray .int, 2) := by decide +kernel
theorem d_X8_init_45 : decode prog_4_method_1_code 45 = .ok (.putfield 27, 3) := by decide +kernel
theorem d_X8_init_48 : decode prog_4_method_1_code 48 = .ok (.aload_n 0, 1) := by decide +kernel
theorem d_X8_init_49 : decode prog_4_method_1_code 49 = .ok (.bipush 6, 2) := by decide +kernel
theorem d_X8_init_51 : decode prog_4_method_1_code 51 = .ok (.newarray .int, 2) := by decide +kernel
theorem d_X8_init_53 : decode prog_4_method_1_code 53 = .ok (.putfield 30, 3) := by decide +kernel
theorem d_X8_init_56 : decode prog_4_method_1_code 56 = .ok (.aload_n 0, 1) := by decide +kernel
theorem d_X8_init_57 : decode prog_4_method_1_code 57 = .ok (.bipush 6, 2) := by decide +kernel
theorem d_X8_init_59 : decode prog_4_method_1_code 59 = .ok (.newarray .int, 2) := by decide +kernel
theorem d_X8_init_61 : decode prog_4_method_1_code 61 = .ok (.putfield 33, 3) := by decide +kernel
theorem d_X8_init_64 : decode prog_4_method_1_code 64 = .ok (.aload_n 0, 1) := by decide +kernel
theorem d_X8_init_65 : decode prog_4_method_1_code 65 = .ok (.iconst 0, 1) := by decide +kernel
theorem d_X8_init_66 : decode prog_4_method_1_code 66 = .ok (.putfield 36, 3) := by decide +kernel
theorem d_X8_init_69 : decode prog_4_method_1_code 69 = .ok (.aload_n 0, 1) := by decide +kernel
theorem d_X8_init_70 : decode prog_4_method_1_code 70 = .ok (.aload_n 1, 1) := by decide +kernel
theorem d_X8_init_71 : decode prog_4_method_1_code 71 = .ok (.putfield 40, 3) := by decide +kernel
theorem d_X8_init_74 : decode prog_4_method_1_code 74 = .ok (.aload_n 0, 1) := by decide +kernel
theorem d_X8_init_75 : decode prog_4_method_1_code 75 = .ok (.aload_n 2, 1) := by decide +kernel
theorem d_X8_init_76 : decode prog_4_method_1_code 76 = .ok (.putfield 44, 3) := by decide +kernel
theorem d_X8_init_79 : decode prog_4_method_1_code 79 = .ok (.aload_n 0, 1) := by decide +kernel
theorem d_X8_init_80 : decode prog_4_method_1_code 80 = .ok (.aload_n 3, 1) := by decide +kernel
theorem d_X8_init_81 : decode prog_4_method_1_code 81 = .ok (.putfield 48, 3) := by decide +kernel
theorem d_X8_init_84 : decode prog_4_method_1_code 84 = .ok (.aload_n 0, 1) := by decide +kernel
theorem d_X8_init_85 : decode prog_4_method_1_code 85 = .ok (.aload 4, 2) := by decide +kernel
theorem d_X8_init_87 : decode prog_4_method_1_code 87 = .ok (.putfield 52, 3) := by decide +kernel
theorem d_X8_init_90 : decode prog_4_method_1_code 90 = .ok (.return_, 1) := by decide +kernel
abbrev y_X0_key : MethodName := ⟨"VirtualRewrite", "key", "(IIZ)I"⟩
theorem d_X0_key_0 : decode prog_1_method_2_code 0 = .ok (.iload_n 1, 1) := by decide +kernel
theorem d_X0_key_1 : decode prog_1_method_2_code 1 = .ok (.iconst 4, 1) := by decide +kernel
theorem d_X0_key_2 : decode prog_1_method_2_code 2 = .ok (.invokestatic 57, 3) := by decide +kernel
theorem d_X0_key_5 : decode prog_1_method_2_code 5 = .ok (.ifCond .eq 11, 3) := by decide +kernel
theorem d_X0_key_8 : decode prog_1_method_2_code 8 = .ok (.iload_n 2, 1) := by decide +kernel
theorem d_X0_key_9 : decode prog_1_method_2_code 9 = .ok (.iconst 3, 1) := by decide +kernel
theorem d_X0_key_10 : decode prog_1_method_2_code 10 = .ok (.invokestatic 57, 3) := by decide +kernel
theorem d_X0_key_13 : decode prog_1_method_2_code 13 = .ok (.ifCond .ne 5, 3) := by decide +kernel
theorem d_X0_key_16 : decode prog_1_method_2_code 16 = .ok (.iconst (-1), 1) := by decide +kernel
theorem d_X0_key_17 : decode prog_1_method_2_code 17 = .ok (.ireturn, 1) := by decide +kernel
theorem d_X0_key_18 : decode prog_1_method_2_code 18 = .ok (.aload_n 0, 1) := by decide +kernel
theorem d_X0_key_19 : decode prog_1_method_2_code 19 = .ok (.getfield 12, 3) := by decide +kernel
theorem d_X0_key_22 : decode prog_1_method_2_code 22 = .ok (.getfield 61, 3) := by decide +kernel
theorem d_X0_key_25 : decode prog_1_method_2_code 25 = .ok (.iload_n 1, 1) := by decide +kernel
theorem d_X0_key_26 : decode prog_1_method_2_code 26 = .ok (.aaload, 1) := by decide +kernel
theorem d_X0_key_27 : decode prog_1_method_2_code 27 = .ok (.astore 4, 2) := by decide +kernel
theorem d_X0_key_29 : decode prog_1_method_2_code 29 = .ok (.aload 4, 2) := by decide +kernel
theorem d_X0_key_31 : decode prog_1_method_2_code 31 = .ok (.getfield 65, 3) := by decide +kernel
theorem d_X0_key_34 : decode prog_1_method_2_code 34 = .ok (.iload_n 2, 1) := by decide +kernel
theorem d_X0_key_35 : decode prog_1_method_2_code 35 = .ok (.baload, 1) := by decide +kernel
theorem d_X0_key_36 : decode prog_1_method_2_code 36 = .ok (.iload_n 3, 1) := by decide +kernel
theorem d_X0_key_37 : decode prog_1_method_2_code 37 = .ok (.if_icmp .ne 5, 3) := by decide +kernel
theorem d_X0_key_40 : decode prog_1_method_2_code 40 = .ok (.iconst 0, 1) := by decide +kernel
theorem d_X0_key_41 : decode prog_1_method_2_code 41 = .ok (.ireturn, 1) := by decide +kernel
theorem d_X0_key_42 : decode prog_1_method_2_code 42 = .ok (.iload_n 3, 1) := by decide +kernel
theorem d_X0_key_43 : decode prog_1_method_2_code 43 = .ok (.ifCond .eq 15, 3) := by decide +kernel
theorem d_X0_key_46 : decode prog_1_method_2_code 46 = .ok (.aload 4, 2) := by decide +kernel
theorem d_X0_key_48 : decode prog_1_method_2_code 48 = .ok (.iload_n 2, 1) := by decide +kernel
theorem d_X0_key_49 : decode prog_1_method_2_code 49 = .ok (.invokevirtual 71, 3) := by decide +kernel
theorem d_X0_key_52 : decode prog_1_method_2_code 52 = .ok (.ifCond .eq 6, 3) := by decide +kernel
theorem d_X0_key_55 : decode prog_1_method_2_code 55 = .ok (.bipush (-4), 2) := by decide +kernel
theorem d_X0_key_57 : decode prog_1_method_2_code 57 = .ok (.ireturn, 1) := by decide +kernel
theorem d_X0_key_58 : decode prog_1_method_2_code 58 = .ok (.aload 4, 2) := by decide +kernel
theorem d_X0_key_60 : decode prog_1_method_2_code 60 = .ok (.getfield 65, 3) := by decide +kernel
theorem d_X0_key_63 : decode prog_1_method_2_code 63 = .ok (.iload_n 2, 1) := by decide +kernel
theorem d_X0_key_64 : decode prog_1_method_2_code 64 = .ok (.iload_n 3, 1) := by decide +kernel
theorem d_X0_key_65 : decode prog_1_method_2_code 65 = .ok (.bastore, 1) := by decide +kernel
theorem d_X0_key_66 : decode prog_1_method_2_code 66 = .ok (.iconst 1, 1) := by decide +kernel
theorem d_X0_key_67 : decode prog_1_method_2_code 67 = .ok (.ireturn, 1) := by decide +kernel
abbrev y_X0_isBelow : MethodName := ⟨"VirtualRewrite", "isBelow", "(II)Z"⟩
theorem d_X0_isBelow_0 : decode prog_1_method_18_code 0 = .ok (.iload_n 0, 1) := by decide +kernel
theorem d_X0_isBelow_1 : decode prog_1_method_18_code 1 = .ok (.ifCond .lt 12, 3) := by decide +kernel
theorem d_X0_isBelow_4 : decode prog_1_method_18_code 4 = .ok (.iload_n 0, 1) := by decide +kernel
theorem d_X0_isBelow_5 : decode prog_1_method_18_code 5 = .ok (.iload_n 1, 1) := by decide +kernel
theorem d_X0_isBelow_6 : decode prog_1_method_18_code 6 = .ok (.if_icmp .ge 7, 3) := by decide +kernel
theorem d_X0_isBelow_9 : decode prog_1_method_18_code 9 = .ok (.iconst 1, 1) := by decide +kernel
theorem d_X0_isBelow_10 : decode prog_1_method_18_code 10 = .ok (.goto 4, 3) := by decide +kernel
theorem d_X0_isBelow_13 : decode prog_1_method_18_code 13 = .ok (.iconst 0, 1) := by decide +kernel
theorem d_X0_isBelow_14 : decode prog_1_method_18_code 14 = .ok (.ireturn, 1) := by decide +kernel
abbrev y_X2_repeats : MethodName := ⟨"VirtualRewrite$Table", "repeats", "(I)Z"⟩
theorem d_X2_repeats_0 : decode prog_9_method_4_code 0 = .ok (.iconst 1, 1) := by decide +kernel
theorem d_X2_repeats_1 : decode prog_9_method_4_code 1 = .ok (.istore_n 2, 1) := by decide +kernel
theorem d_X2_repeats_2 : decode prog_9_method_4_code 2 = .ok (.iload_n 2, 1) := by decide +kernel
theorem d_X2_repeats_3 : decode prog_9_method_4_code 3 = .ok (.aload_n 0, 1) := by decide +kernel
theorem d_X2_repeats_4 : decode prog_9_method_4_code 4 = .ok (.getfield 19, 3) := by decide +kernel
theorem d_X2_repeats_7 : decode prog_9_method_4_code 7 = .ok (.if_icmp .ge 26, 3) := by decide +kernel
theorem d_X2_repeats_10 : decode prog_9_method_4_code 10 = .ok (.aload_n 0, 1) := by decide +kernel
theorem d_X2_repeats_11 : decode prog_9_method_4_code 11 = .ok (.iload_n 1, 1) := by decide +kernel
theorem d_X2_repeats_12 : decode prog_9_method_4_code 12 = .ok (.aload_n 0, 1) := by decide +kernel
theorem d_X2_repeats_13 : decode prog_9_method_4_code 13 = .ok (.iload_n 2, 1) := by decide +kernel
theorem d_X2_repeats_14 : decode prog_9_method_4_code 14 = .ok (.iload_n 1, 1) := by decide +kernel
theorem d_X2_repeats_15 : decode prog_9_method_4_code 15 = .ok (.invokevirtual 23, 3) := by decide +kernel
theorem d_X2_repeats_18 : decode prog_9_method_4_code 18 = .ok (.iload_n 2, 1) := by decide +kernel
theorem d_X2_repeats_19 : decode prog_9_method_4_code 19 = .ok (.invokevirtual 27, 3) := by decide +kernel
theorem d_X2_repeats_22 : decode prog_9_method_4_code 22 = .ok (.ifCond .eq 5, 3) := by decide +kernel
theorem d_X2_repeats_25 : decode prog_9_method_4_code 25 = .ok (.iconst 1, 1) := by decide +kernel
theorem d_X2_repeats_26 : decode prog_9_method_4_code 26 = .ok (.ireturn, 1) := by decide +kernel
theorem d_X2_repeats_27 : decode prog_9_method_4_code 27 = .ok (.iinc 2 1, 3) := by decide +kernel
theorem d_X2_repeats_30 : decode prog_9_method_4_code 30 = .ok (.goto (-28), 3) := by decide +kernel
theorem d_X2_repeats_33 : decode prog_9_method_4_code 33 = .ok (.iconst 0, 1) := by decide +kernel
theorem d_X2_repeats_34 : decode prog_9_method_4_code 34 = .ok (.ireturn, 1) := by decide +kernel
abbrev y_X2_cell : MethodName := ⟨"VirtualRewrite$Table", "cell", "(II)I"⟩
theorem d_X2_cell_0 : decode prog_9_method_2_code 0 = .ok (.aload_n 0, 1) := by decide +kernel
theorem d_X2_cell_1 : decode prog_9_method_2_code 1 = .ok (.getfield 9, 3) := by decide +kernel
theorem d_X2_cell_4 : decode prog_9_method_2_code 4 = .ok (.iload_n 1, 1) := by decide +kernel
theorem d_X2_cell_5 : decode prog_9_method_2_code 5 = .ok (.iconst 3, 1) := by decide +kernel
theorem d_X2_cell_6 : decode prog_9_method_2_code 6 = .ok (.imul, 1) := by decide +kernel
theorem d_X2_cell_7 : decode prog_9_method_2_code 7 = .ok (.iload_n 2, 1) := by decide +kernel
theorem d_X2_cell_8 : decode prog_9_method_2_code 8 = .ok (.iadd, 1) := by decide +kernel
theorem d_X2_cell_9 : decode prog_9_method_2_code 9 = .ok (.iaload, 1) := by decide +kernel
theorem d_X2_cell_10 : decode prog_9_method_2_code 10 = .ok (.ireturn, 1) := by decide +kernel
abbrev y_X2_holds : MethodName := ⟨"VirtualRewrite$Table", "holds", "(III)Z"⟩
theorem d_X2_holds_0 : decode prog_9_method_3_code 0 = .ok (.iconst 0, 1) := by decide +kernel
theorem d_X2_holds_1 : decode prog_9_method_3_code 1 = .ok (.istore 4, 2) := by decide +kernel
theorem d_X2_holds_3 : decode prog_9_method_3_code 3 = .ok (.iload 4, 2) := by decide +kernel
theorem d_X2_holds_5 : decode prog_9_method_3_code 5 = .ok (.iload_n 3, 1) := by decide +kernel
theorem d_X2_holds_6 : decode prog_9_method_3_code 6 = .ok (.if_icmp .ge 22, 3) := by decide +kernel
theorem d_X2_holds_9 : decode prog_9_method_3_code 9 = .ok (.aload_n 0, 1) := by decide +kernel
theorem d_X2_holds_10 : decode prog_9_method_3_code 10 = .ok (.iload 4, 2) := by decide +kernel
theorem d_X2_holds_12 : decode prog_9_method_3_code 12 = .ok (.iload_n 1, 1) := by decide +kernel
theorem d_X2_holds_13 : decode prog_9_method_3_code 13 = .ok (.invokevirtual 23, 3) := by decide +kernel
theorem d_X2_holds_16 : decode prog_9_method_3_code 16 = .ok (.iload_n 2, 1) := by decide +kernel
theorem d_X2_holds_17 : decode prog_9_method_3_code 17 = .ok (.if_icmp .ne 5, 3) := by decide +kernel
theorem d_X2_holds_20 : decode prog_9_method_3_code 20 = .ok (.iconst 1, 1) := by decide +kernel
theorem d_X2_holds_21 : decode prog_9_method_3_code 21 = .ok (.ireturn, 1) := by decide +kernel
theorem d_X2_holds_22 : decode prog_9_method_3_code 22 = .ok (.iinc 4 1, 3) := by decide +kernel
theorem d_X2_holds_25 : decode prog_9_method_3_code 25 = .ok (.goto (-22), 3) := by decide +kernel
theorem d_X2_holds_28 : decode prog_9_method_3_code 28 = .ok (.iconst 0, 1) := by decide +kernel
theorem d_X2_holds_29 : decode prog_9_method_3_code 29 = .ok (.ireturn, 1) := by decide +kernel
abbrev y_X0_row : MethodName := ⟨"VirtualRewrite", "row", "(IIII)I"⟩
theorem d_X0_row_0 : decode prog_1_method_3_code 0 = .ok (.iload_n 1, 1) := by decide +kernel
theorem d_X0_row_1 : decode prog_1_method_3_code 1 = .ok (.iconst 4, 1) := by decide +kernel
theorem d_X0_row_2 : decode prog_1_method_3_code 2 = .ok (.invokestatic 57, 3) := by decide +kernel
theorem d_X0_row_5 : decode prog_1_method_3_code 5 = .ok (.ifCond .eq 34, 3) := by decide +kernel
theorem d_X0_row_8 : decode prog_1_method_3_code 8 = .ok (.iload_n 2, 1) := by decide +kernel
theorem d_X0_row_9 : decode prog_1_method_3_code 9 = .ok (.sipush 10000, 3) := by decide +kernel
theorem d_X0_row_12 : decode prog_1_method_3_code 12 = .ok (.invokestatic 57, 3) := by decide +kernel
theorem d_X0_row_15 : decode prog_1_method_3_code 15 = .ok (.ifCond .eq 24, 3) := by decide +kernel
theorem d_X0_row_18 : decode prog_1_method_3_code 18 = .ok (.iload_n 3, 1) := by decide +kernel
theorem d_X0_row_19 : decode prog_1_method_3_code 19 = .ok (.sipush 10000, 3) := by decide +kernel
theorem d_X0_row_22 : decode prog_1_method_3_code 22 = .ok (.invokestatic 57, 3) := by decide +kernel
theorem d_X0_row_25 : decode prog_1_method_3_code 25 = .ok (.ifCond .eq 14, 3) := by decide +kernel
theorem d_X0_row_28 : decode prog_1_method_3_code 28 = .ok (.iload 4, 2) := by decide +kernel
theorem d_X0_row_30 : decode prog_1_method_3_code 30 = .ok (.sipush 10000, 3) := by decide +kernel
theorem d_X0_row_33 : decode prog_1_method_3_code 33 = .ok (.invokestatic 57, 3) := by decide +kernel
theorem d_X0_row_36 : decode prog_1_method_3_code 36 = .ok (.ifCond .ne 5, 3) := by decide +kernel
theorem d_X0_row_39 : decode prog_1_method_3_code 39 = .ok (.iconst (-1), 1) := by decide +kernel
theorem d_X0_row_40 : decode prog_1_method_3_code 40 = .ok (.ireturn, 1) := by decide +kernel
theorem d_X0_row_41 : decode prog_1_method_3_code 41 = .ok (.aload_n 0, 1) := by decide +kernel
theorem d_X0_row_42 : decode prog_1_method_3_code 42 = .ok (.getfield 12, 3) := by decide +kernel
theorem d_X0_row_45 : decode prog_1_method_3_code 45 = .ok (.getfield 61, 3) := by decide +kernel
theorem d_X0_row_48 : decode prog_1_method_3_code 48 = .ok (.iload_n 1, 1) := by decide +kernel
theorem d_X0_row_49 : decode prog_1_method_3_code 49 = .ok (.aaload, 1) := by decide +kernel
theorem d_X0_row_50 : decode prog_1_method_3_code 50 = .ok (.astore 5, 2) := by decide +kernel
theorem d_X0_row_52 : decode prog_1_method_3_code 52 = .ok (.aload 5, 2) := by decide +kernel
theorem d_X0_row_54 : decode prog_1_method_3_code 54 = .ok (.iconst 0, 1) := by decide +kernel
theorem d_X0_row_55 : decode prog_1_method_3_code 55 = .ok (.iload_n 2, 1) := by decide +kernel
theorem d_X0_row_56 : decode prog_1_method_3_code 56 = .ok (.invokevirtual 75, 3) := by decide +kernel
theorem d_X0_row_59 : decode prog_1_method_3_code 59 = .ok (.ifCond .ne 24, 3) := by decide +kernel
theorem d_X0_row_62 : decode prog_1_method_3_code 62 = .ok (.aload 5, 2) := by decide +kernel
theorem d_X0_row_64 : decode prog_1_method_3_code 64 = .ok (.iconst 1, 1) := by decide +kernel
theorem d_X0_row_65 : decode prog_1_method_3_code 65 = .ok (.iload_n 3, 1) := by decide +kernel
theorem d_X0_row_66 : decode prog_1_method_3_code 66 = .ok (.invokevirtual 75, 3) := by decide +kernel
theorem d_X0_row_69 : decode prog_1_method_3_code 69 = .ok (.ifCond .ne 14, 3) := by decide +kernel
theorem d_X0_row_72 : decode prog_1_method_3_code 72 = .ok (.aload 5, 2) := by decide +kernel
theorem d_X0_row_74 : decode prog_1_method_3_code 74 = .ok (.iconst 2, 1) := by decide +kernel
theorem d_X0_row_75 : decode prog_1_method_3_code 75 = .ok (.iload 4, 2) := by decide +kernel
theorem d_X0_row_77 : decode prog_1_method_3_code 77 = .ok (.invokevirtual 75, 3) := by decide +kernel
theorem d_X0_row_80 : decode prog_1_method_3_code 80 = .ok (.ifCond .eq 6, 3) := by decide +kernel
theorem d_X0_row_83 : decode prog_1_method_3_code 83 = .ok (.bipush (-4), 2) := by decide +kernel
theorem d_X0_row_85 : decode prog_1_method_3_code 85 = .ok (.ireturn, 1) := by decide +kernel
theorem d_X0_row_86 : decode prog_1_method_3_code 86 = .ok (.aload 5, 2) := by decide +kernel
theorem d_X0_row_88 : decode prog_1_method_3_code 88 = .ok (.getfield 78, 3) := by decide +kernel
theorem d_X0_row_91 : decode prog_1_method_3_code 91 = .ok (.bipush 20, 2) := by decide +kernel
theorem d_X0_row_93 : decode prog_1_method_3_code 93 = .ok (.if_icmp .lt 6, 3) := by decide +kernel
theorem d_X0_row_96 : decode prog_1_method_3_code 96 = .ok (.bipush (-2), 2) := by decide +kernel
theorem d_X0_row_98 : decode prog_1_method_3_code 98 = .ok (.ireturn, 1) := by decide +kernel
theorem d_X0_row_99 : decode prog_1_method_3_code 99 = .ok (.aload 5, 2) := by decide +kernel
theorem d_X0_row_101 : decode prog_1_method_3_code 101 = .ok (.iload_n 2, 1) := by decide +kernel
theorem d_X0_row_102 : decode prog_1_method_3_code 102 = .ok (.iload_n 3, 1) := by decide +kernel
theorem d_X0_row_103 : decode prog_1_method_3_code 103 = .ok (.iload 4, 2) := by decide +kernel
theorem d_X0_row_105 : decode prog_1_method_3_code 105 = .ok (.invokevirtual 82, 3) := by decide +kernel
theorem d_X0_row_108 : decode prog_1_method_3_code 108 = .ok (.aload 5, 2) := by decide +kernel
theorem d_X0_row_110 : decode prog_1_method_3_code 110 = .ok (.getfield 78, 3) := by decide +kernel
theorem d_X0_row_113 : decode prog_1_method_3_code 113 = .ok (.ireturn, 1) := by decide +kernel
abbrev y_X2_refuses : MethodName := ⟨"VirtualRewrite$Table", "refuses", "(II)Z"⟩
theorem d_X2_refuses_0 : decode prog_9_method_5_code 0 = .ok (.aload_n 0, 1) := by decide +kernel
theorem d_X2_refuses_1 : decode prog_9_method_5_code 1 = .ok (.getfield 15, 3) := by decide +kernel
theorem d_X2_refuses_4 : decode prog_9_method_5_code 4 = .ok (.iload_n 1, 1) := by decide +kernel
theorem d_X2_refuses_5 : decode prog_9_method_5_code 5 = .ok (.baload, 1) := by decide +kernel
theorem d_X2_refuses_6 : decode prog_9_method_5_code 6 = .ok (.ifCond .eq 20, 3) := by decide +kernel
theorem d_X2_refuses_9 : decode prog_9_method_5_code 9 = .ok (.aload_n 0, 1) := by decide +kernel
theorem d_X2_refuses_10 : decode prog_9_method_5_code 10 = .ok (.iload_n 1, 1) := by decide +kernel
theorem d_X2_refuses_11 : decode prog_9_method_5_code 11 = .ok (.iload_n 2, 1) := by decide +kernel
theorem d_X2_refuses_12 : decode prog_9_method_5_code 12 = .ok (.aload_n 0, 1) := by decide +kernel
theorem d_X2_refuses_13 : decode prog_9_method_5_code 13 = .ok (.getfield 19, 3) := by decide +kernel
theorem d_X2_refuses_16 : decode prog_9_method_5_code 16 = .ok (.invokevirtual 27, 3) := by decide +kernel
theorem d_X2_refuses_19 : decode prog_9_method_5_code 19 = .ok (.ifCond .eq 7, 3) := by decide +kernel
theorem d_X2_refuses_22 : decode prog_9_method_5_code 22 = .ok (.iconst 1, 1) := by decide +kernel
theorem d_X2_refuses_23 : decode prog_9_method_5_code 23 = .ok (.goto 4, 3) := by decide +kernel
theorem d_X2_refuses_26 : decode prog_9_method_5_code 26 = .ok (.iconst 0, 1) := by decide +kernel
theorem d_X2_refuses_27 : decode prog_9_method_5_code 27 = .ok (.ireturn, 1) := by decide +kernel
end
section
abbrev y_X2_append : MethodName := ⟨"VirtualRewrite$Table", "append", "(III)V"⟩
theorem d_X2_append_0 : decode prog_9_method_6_code 0 = .ok (.aload_n 0, 1) := by decide +kernel
theorem d_X2_append_1 : decode prog_9_method_6_code 1 = .ok (.getfield 19, 3) := by decide +kernel
theorem d_X2_append_4 : decode prog_9_method_6_code 4 = .ok (.iconst 3, 1) := by decide +kernel
theorem d_X2_append_5 : decode prog_9_method_6_code 5 = .ok (.imul, 1) := by decide +kernel
theorem d_X2_append_6 : decode prog_9_method_6_code 6 = .ok (.istore 4, 2) := by decide +kernel
theorem d_X2_append_8 : decode prog_9_method_6_code 8 = .ok (.aload_n 0, 1) := by decide +kernel
theorem d_X2_append_9 : decode prog_9_method_6_code 9 = .ok (.getfield 9, 3) := by decide +kernel
theorem d_X2_append_12 : decode prog_9_method_6_code 12 = .ok (.iload 4, 2) := by decide +kernel
theorem d_X2_append_14 : decode prog_9_method_6_code 14 = .ok (.iload_n 1, 1) := by decide +kernel
theorem d_X2_append_15 : decode prog_9_method_6_code 15 = .ok (.iastore, 1) := by decide +kernel
theorem d_X2_append_16 : decode prog_9_method_6_code 16 = .ok (.aload_n 0, 1) := by decide +kernel
theorem d_X2_append_17 : decode prog_9_method_6_code 17 = .ok (.getfield 9, 3) := by decide +kernel
theorem d_X2_append_20 : decode prog_9_method_6_code 20 = .ok (.iload 4, 2) := by decide +kernel
theorem d_X2_append_22 : decode prog_9_method_6_code 22 = .ok (.iconst 1, 1) := by decide +kernel
theorem d_X2_append_23 : decode prog_9_method_6_code 23 = .ok (.iadd, 1) := by decide +kernel
theorem d_X2_append_24 : decode prog_9_method_6_code 24 = .ok (.iload_n 2, 1) := by decide +kernel
theorem d_X2_append_25 : decode prog_9_method_6_code 25 = .ok (.iastore, 1) := by decide +kernel
theorem d_X2_append_26 : decode prog_9_method_6_code 26 = .ok (.aload_n 0, 1) := by decide +kernel
theorem d_X2_append_27 : decode prog_9_method_6_code 27 = .ok (.getfield 9, 3) := by decide +kernel
theorem d_X2_append_30 : decode prog_9_method_6_code 30 = .ok (.iload 4, 2) := by decide +kernel
theorem d_X2_append_32 : decode prog_9_method_6_code 32 = .ok (.iconst 2, 1) := by decide +kernel
theorem d_X2_append_33 : decode prog_9_method_6_code 33 = .ok (.iadd, 1) := by decide +kernel
theorem d_X2_append_34 : decode prog_9_method_6_code 34 = .ok (.iload_n 3, 1) := by decide +kernel
theorem d_X2_append_35 : decode prog_9_method_6_code 35 = .ok (.iastore, 1) := by decide +kernel
theorem d_X2_append_36 : decode prog_9_method_6_code 36 = .ok (.aload_n 0, 1) := by decide +kernel
theorem d_X2_append_37 : decode prog_9_method_6_code 37 = .ok (.dup, 1) := by decide +kernel
theorem d_X2_append_38 : decode prog_9_method_6_code 38 = .ok (.getfield 19, 3) := by decide +kernel
theorem d_X2_append_41 : decode prog_9_method_6_code 41 = .ok (.iconst 1, 1) := by decide +kernel
theorem d_X2_append_42 : decode prog_9_method_6_code 42 = .ok (.iadd, 1) := by decide +kernel
theorem d_X2_append_43 : decode prog_9_method_6_code 43 = .ok (.putfield 19, 3) := by decide +kernel
theorem d_X2_append_46 : decode prog_9_method_6_code 46 = .ok (.return_, 1) := by decide +kernel
abbrev y_X0_drop : MethodName := ⟨"VirtualRewrite", "drop", "(II)I"⟩
theorem d_X0_drop_0 : decode prog_1_method_4_code 0 = .ok (.iload_n 1, 1) := by decide +kernel
theorem d_X0_drop_1 : decode prog_1_method_4_code 1 = .ok (.iconst 4, 1) := by decide +kernel
theorem d_X0_drop_2 : decode prog_1_method_4_code 2 = .ok (.invokestatic 57, 3) := by decide +kernel
theorem d_X0_drop_5 : decode prog_1_method_4_code 5 = .ok (.ifCond .eq 22, 3) := by decide +kernel
theorem d_X0_drop_8 : decode prog_1_method_4_code 8 = .ok (.iload_n 2, 1) := by decide +kernel
theorem d_X0_drop_9 : decode prog_1_method_4_code 9 = .ok (.aload_n 0, 1) := by decide +kernel
theorem d_X0_drop_10 : decode prog_1_method_4_code 10 = .ok (.getfield 12, 3) := by decide +kernel
theorem d_X0_drop_13 : decode prog_1_method_4_code 13 = .ok (.getfield 61, 3) := by decide +kernel
theorem d_X0_drop_16 : decode prog_1_method_4_code 16 = .ok (.iload_n 1, 1) := by decide +kernel
theorem d_X0_drop_17 : decode prog_1_method_4_code 17 = .ok (.aaload, 1) := by decide +kernel
theorem d_X0_drop_18 : decode prog_1_method_4_code 18 = .ok (.getfield 78, 3) := by decide +kernel
theorem d_X0_drop_21 : decode prog_1_method_4_code 21 = .ok (.invokestatic 57, 3) := by decide +kernel
theorem d_X0_drop_24 : decode prog_1_method_4_code 24 = .ok (.ifCond .ne 5, 3) := by decide +kernel
theorem d_X0_drop_27 : decode prog_1_method_4_code 27 = .ok (.iconst (-1), 1) := by decide +kernel
theorem d_X0_drop_28 : decode prog_1_method_4_code 28 = .ok (.ireturn, 1) := by decide +kernel
theorem d_X0_drop_29 : decode prog_1_method_4_code 29 = .ok (.aload_n 0, 1) := by decide +kernel
theorem d_X0_drop_30 : decode prog_1_method_4_code 30 = .ok (.getfield 12, 3) := by decide +kernel
theorem d_X0_drop_33 : decode prog_1_method_4_code 33 = .ok (.getfield 61, 3) := by decide +kernel
theorem d_X0_drop_36 : decode prog_1_method_4_code 36 = .ok (.iload_n 1, 1) := by decide +kernel
theorem d_X0_drop_37 : decode prog_1_method_4_code 37 = .ok (.aaload, 1) := by decide +kernel
theorem d_X0_drop_38 : decode prog_1_method_4_code 38 = .ok (.iload_n 2, 1) := by decide +kernel
theorem d_X0_drop_39 : decode prog_1_method_4_code 39 = .ok (.invokevirtual 86, 3) := by decide +kernel
theorem d_X0_drop_42 : decode prog_1_method_4_code 42 = .ok (.aload_n 0, 1) := by decide +kernel
theorem d_X0_drop_43 : decode prog_1_method_4_code 43 = .ok (.getfield 12, 3) := by decide +kernel
theorem d_X0_drop_46 : decode prog_1_method_4_code 46 = .ok (.getfield 61, 3) := by decide +kernel
theorem d_X0_drop_49 : decode prog_1_method_4_code 49 = .ok (.iload_n 1, 1) := by decide +kernel
theorem d_X0_drop_50 : decode prog_1_method_4_code 50 = .ok (.aaload, 1) := by decide +kernel
theorem d_X0_drop_51 : decode prog_1_method_4_code 51 = .ok (.getfield 78, 3) := by decide +kernel
theorem d_X0_drop_54 : decode prog_1_method_4_code 54 = .ok (.ireturn, 1) := by decide +kernel
abbrev y_X2_remove : MethodName := ⟨"VirtualRewrite$Table", "remove", "(I)V"⟩
theorem d_X2_remove_0 : decode prog_9_method_7_code 0 = .ok (.aload_n 0, 1) := by decide +kernel
theorem d_X2_remove_1 : decode prog_9_method_7_code 1 = .ok (.getfield 19, 3) := by decide +kernel
theorem d_X2_remove_4 : decode prog_9_method_7_code 4 = .ok (.iload_n 1, 1) := by decide +kernel
theorem d_X2_remove_5 : decode prog_9_method_7_code 5 = .ok (.isub, 1) := by decide +kernel
theorem d_X2_remove_6 : decode prog_9_method_7_code 6 = .ok (.iconst 1, 1) := by decide +kernel
theorem d_X2_remove_7 : decode prog_9_method_7_code 7 = .ok (.isub, 1) := by decide +kernel
theorem d_X2_remove_8 : decode prog_9_method_7_code 8 = .ok (.istore_n 2, 1) := by decide +kernel
theorem d_X2_remove_9 : decode prog_9_method_7_code 9 = .ok (.aload_n 0, 1) := by decide +kernel
theorem d_X2_remove_10 : decode prog_9_method_7_code 10 = .ok (.getfield 9, 3) := by decide +kernel
theorem d_X2_remove_13 : decode prog_9_method_7_code 13 = .ok (.iload_n 1, 1) := by decide +kernel
theorem d_X2_remove_14 : decode prog_9_method_7_code 14 = .ok (.iconst 1, 1) := by decide +kernel
theorem d_X2_remove_15 : decode prog_9_method_7_code 15 = .ok (.iadd, 1) := by decide +kernel
theorem d_X2_remove_16 : decode prog_9_method_7_code 16 = .ok (.iconst 3, 1) := by decide +kernel
theorem d_X2_remove_17 : decode prog_9_method_7_code 17 = .ok (.imul, 1) := by decide +kernel
theorem d_X2_remove_18 : decode prog_9_method_7_code 18 = .ok (.aload_n 0, 1) := by decide +kernel
theorem d_X2_remove_19 : decode prog_9_method_7_code 19 = .ok (.getfield 9, 3) := by decide +kernel
theorem d_X2_remove_22 : decode prog_9_method_7_code 22 = .ok (.iload_n 1, 1) := by decide +kernel
theorem d_X2_remove_23 : decode prog_9_method_7_code 23 = .ok (.iconst 3, 1) := by decide +kernel
theorem d_X2_remove_24 : decode prog_9_method_7_code 24 = .ok (.imul, 1) := by decide +kernel
theorem d_X2_remove_25 : decode prog_9_method_7_code 25 = .ok (.iload_n 2, 1) := by decide +kernel
theorem d_X2_remove_26 : decode prog_9_method_7_code 26 = .ok (.iconst 3, 1) := by decide +kernel
theorem d_X2_remove_27 : decode prog_9_method_7_code 27 = .ok (.imul, 1) := by decide +kernel
theorem d_X2_remove_28 : decode prog_9_method_7_code 28 = .ok (.invokestatic 31, 3) := by decide +kernel
theorem d_X2_remove_31 : decode prog_9_method_7_code 31 = .ok (.aload_n 0, 1) := by decide +kernel
theorem d_X2_remove_32 : decode prog_9_method_7_code 32 = .ok (.dup, 1) := by decide +kernel
theorem d_X2_remove_33 : decode prog_9_method_7_code 33 = .ok (.getfield 19, 3) := by decide +kernel
theorem d_X2_remove_36 : decode prog_9_method_7_code 36 = .ok (.iconst 1, 1) := by decide +kernel
theorem d_X2_remove_37 : decode prog_9_method_7_code 37 = .ok (.isub, 1) := by decide +kernel
theorem d_X2_remove_38 : decode prog_9_method_7_code 38 = .ok (.putfield 19, 3) := by decide +kernel
theorem d_X2_remove_41 : decode prog_9_method_7_code 41 = .ok (.return_, 1) := by decide +kernel
abbrev y_X0_mapping : MethodName := ⟨"VirtualRewrite", "mapping", "(IIIIII)I"⟩
theorem d_X0_mapping_0 : decode prog_1_method_5_code 0 = .ok (.iload_n 1, 1) := by decide +kernel
theorem d_X0_mapping_1 : decode prog_1_method_5_code 1 = .ok (.iconst 4, 1) := by decide +kernel
theorem d_X0_mapping_2 : decode prog_1_method_5_code 2 = .ok (.invokestatic 57, 3) := by decide +kernel
theorem d_X0_mapping_5 : decode prog_1_method_5_code 5 = .ok (.ifCond .eq 12, 3) := by decide +kernel
theorem d_X0_mapping_8 : decode prog_1_method_5_code 8 = .ok (.iload_n 2, 1) := by decide +kernel
theorem d_X0_mapping_9 : decode prog_1_method_5_code 9 = .ok (.bipush 8, 2) := by decide +kernel
theorem d_X0_mapping_11 : decode prog_1_method_5_code 11 = .ok (.invokestatic 57, 3) := by decide +kernel
theorem d_X0_mapping_14 : decode prog_1_method_5_code 14 = .ok (.ifCond .ne 5, 3) := by decide +kernel
theorem d_X0_mapping_17 : decode prog_1_method_5_code 17 = .ok (.iconst (-1), 1) := by decide +kernel
theorem d_X0_mapping_18 : decode prog_1_method_5_code 18 = .ok (.ireturn, 1) := by decide +kernel
theorem d_X0_mapping_19 : decode prog_1_method_5_code 19 = .ok (.iload_n 3, 1) := by decide +kernel
theorem d_X0_mapping_20 : decode prog_1_method_5_code 20 = .ok (.bipush 6, 2) := by decide +kernel
theorem d_X0_mapping_22 : decode prog_1_method_5_code 22 = .ok (.invokestatic 57, 3) := by decide +kernel
theorem d_X0_mapping_25 : decode prog_1_method_5_code 25 = .ok (.ifCond .eq 12, 3) := by decide +kernel
theorem d_X0_mapping_28 : decode prog_1_method_5_code 28 = .ok (.iload 4, 2) := by decide +kernel
theorem d_X0_mapping_30 : decode prog_1_method_5_code 30 = .ok (.iconst 3, 1) := by decide +kernel
theorem d_X0_mapping_31 : decode prog_1_method_5_code 31 = .ok (.invokestatic 57, 3) := by decide +kernel
theorem d_X0_mapping_34 : decode prog_1_method_5_code 34 = .ok (.ifCond .ne 5, 3) := by decide +kernel
theorem d_X0_mapping_37 : decode prog_1_method_5_code 37 = .ok (.iconst (-1), 1) := by decide +kernel
theorem d_X0_mapping_38 : decode prog_1_method_5_code 38 = .ok (.ireturn, 1) := by decide +kernel
theorem d_X0_mapping_39 : decode prog_1_method_5_code 39 = .ok (.iload 5, 2) := by decide +kernel
theorem d_X0_mapping_41 : decode prog_1_method_5_code 41 = .ok (.bipush 6, 2) := by decide +kernel
theorem d_X0_mapping_43 : decode prog_1_method_5_code 43 = .ok (.invokestatic 57, 3) := by decide +kernel
theorem d_X0_mapping_46 : decode prog_1_method_5_code 46 = .ok (.ifCond .eq 12, 3) := by decide +kernel
theorem d_X0_mapping_49 : decode prog_1_method_5_code 49 = .ok (.iload 6, 2) := by decide +kernel
theorem d_X0_mapping_51 : decode prog_1_method_5_code 51 = .ok (.iconst 3, 1) := by decide +kernel
theorem d_X0_mapping_52 : decode prog_1_method_5_code 52 = .ok (.invokestatic 57, 3) := by decide +kernel
theorem d_X0_mapping_55 : decode prog_1_method_5_code 55 = .ok (.ifCond .ne 5, 3) := by decide +kernel
theorem d_X0_mapping_58 : decode prog_1_method_5_code 58 = .ok (.iconst (-1), 1) := by decide +kernel
theorem d_X0_mapping_59 : decode prog_1_method_5_code 59 = .ok (.ireturn, 1) := by decide +kernel
theorem d_X0_mapping_60 : decode prog_1_method_5_code 60 = .ok (.aload_n 0, 1) := by decide +kernel
theorem d_X0_mapping_61 : decode prog_1_method_5_code 61 = .ok (.getfield 12, 3) := by decide +kernel
theorem d_X0_mapping_64 : decode prog_1_method_5_code 64 = .ok (.getfield 90, 3) := by decide +kernel
theorem d_X0_mapping_67 : decode prog_1_method_5_code 67 = .ok (.bipush 12, 2) := by decide +kernel
theorem d_X0_mapping_69 : decode prog_1_method_5_code 69 = .ok (.if_icmp .lt 6, 3) := by decide +kernel
theorem d_X0_mapping_72 : decode prog_1_method_5_code 72 = .ok (.bipush (-2), 2) := by decide +kernel
theorem d_X0_mapping_74 : decode prog_1_method_5_code 74 = .ok (.ireturn, 1) := by decide +kernel
theorem d_X0_mapping_75 : decode prog_1_method_5_code 75 = .ok (.aload_n 0, 1) := by decide +kernel
theorem d_X0_mapping_76 : decode prog_1_method_5_code 76 = .ok (.getfield 12, 3) := by decide +kernel
theorem d_X0_mapping_79 : decode prog_1_method_5_code 79 = .ok (.getfield 91, 3) := by decide +kernel
theorem d_X0_mapping_82 : decode prog_1_method_5_code 82 = .ok (.aload_n 0, 1) := by decide +kernel
theorem d_X0_mapping_83 : decode prog_1_method_5_code 83 = .ok (.getfield 12, 3) := by decide +kernel
theorem d_X0_mapping_86 : decode prog_1_method_5_code 86 = .ok (.getfield 90, 3) := by decide +kernel
theorem d_X0_mapping_89 : decode prog_1_method_5_code 89 = .ok (.aaload, 1) := by decide +kernel
theorem d_X0_mapping_90 : decode prog_1_method_5_code 90 = .ok (.astore 7, 2) := by decide +kernel
theorem d_X0_mapping_92 : decode prog_1_method_5_code 92 = .ok (.aload 7, 2) := by decide +kernel
theorem d_X0_mapping_94 : decode prog_1_method_5_code 94 = .ok (.iload_n 1, 1) := by decide +kernel
theorem d_X0_mapping_95 : decode prog_1_method_5_code 95 = .ok (.putfield 95, 3) := by decide +kernel
theorem d_X0_mapping_98 : decode prog_1_method_5_code 98 = .ok (.aload 7, 2) := by decide +kernel
theorem d_X0_mapping_100 : decode prog_1_method_5_code 100 = .ok (.iload_n 2, 1) := by decide +kernel
theorem d_X0_mapping_101 : decode prog_1_method_5_code 101 = .ok (.putfield 100, 3) := by decide +kernel
theorem d_X0_mapping_104 : decode prog_1_method_5_code 104 = .ok (.aload 7, 2) := by decide +kernel
theorem d_X0_mapping_106 : decode prog_1_method_5_code 106 = .ok (.iconst 0, 1) := by decide +kernel
theorem d_X0_mapping_107 : decode prog_1_method_5_code 107 = .ok (.iload_n 3, 1) := by decide +kernel
theorem d_X0_mapping_108 : decode prog_1_method_5_code 108 = .ok (.iload 4, 2) := by decide +kernel
theorem d_X0_mapping_110 : decode prog_1_method_5_code 110 = .ok (.invokevirtual 103, 3) := by decide +kernel
theorem d_X0_mapping_113 : decode prog_1_method_5_code 113 = .ok (.aload 7, 2) := by decide +kernel
theorem d_X0_mapping_115 : decode prog_1_method_5_code 115 = .ok (.iconst 1, 1) := by decide +kernel
theorem d_X0_mapping_116 : decode prog_1_method_5_code 116 = .ok (.iload 5, 2) := by decide +kernel
theorem d_X0_mapping_118 : decode prog_1_method_5_code 118 = .ok (.iload 6, 2) := by decide +kernel
theorem d_X0_mapping_120 : decode prog_1_method_5_code 120 = .ok (.invokevirtual 103, 3) := by decide +kernel
theorem d_X0_mapping_123 : decode prog_1_method_5_code 123 = .ok (.aload_n 0, 1) := by decide +kernel
theorem d_X0_mapping_124 : decode prog_1_method_5_code 124 = .ok (.getfield 12, 3) := by decide +kernel
theorem d_X0_mapping_127 : decode prog_1_method_5_code 127 = .ok (.dup, 1) := by decide +kernel
theorem d_X0_mapping_128 : decode prog_1_method_5_code 128 = .ok (.getfield 90, 3) := by decide +kernel
theorem d_X0_mapping_131 : decode prog_1_method_5_code 131 = .ok (.iconst 1, 1) := by decide +kernel
theorem d_X0_mapping_132 : decode prog_1_method_5_code 132 = .ok (.iadd, 1) := by decide +kernel
theorem d_X0_mapping_133 : decode prog_1_method_5_code 133 = .ok (.putfield 90, 3) := by decide +kernel
theorem d_X0_mapping_136 : decode prog_1_method_5_code 136 = .ok (.aload_n 0, 1) := by decide +kernel
theorem d_X0_mapping_137 : decode prog_1_method_5_code 137 = .ok (.getfield 28, 3) := by decide +kernel
theorem d_X0_mapping_140 : decode prog_1_method_5_code 140 = .ok (.invokevirtual 106, 3) := by decide +kernel
theorem d_X0_mapping_143 : decode prog_1_method_5_code 143 = .ok (.aload_n 0, 1) := by decide +kernel
theorem d_X0_mapping_144 : decode prog_1_method_5_code 144 = .ok (.getfield 12, 3) := by decide +kernel
theorem d_X0_mapping_147 : decode prog_1_method_5_code 147 = .ok (.getfield 90, 3) := by decide +kernel
theorem d_X0_mapping_150 : decode prog_1_method_5_code 150 = .ok (.iconst 1, 1) := by decide +kernel
theorem d_X0_mapping_151 : decode prog_1_method_5_code 151 = .ok (.isub, 1) := by decide +kernel
theorem d_X0_mapping_152 : decode prog_1_method_5_code 152 = .ok (.ireturn, 1) := by decide +kernel
abbrev y_X3_describe : MethodName := ⟨"VirtualRewrite$Mapping", "describe", "(III)V"⟩
theorem d_X3_describe_0 : decode prog_5_method_2_code 0 = .ok (.aload_n 0, 1) := by decide +kernel
theorem d_X3_describe_1 : decode prog_5_method_2_code 1 = .ok (.getfield 9, 3) := by decide +kernel
theorem d_X3_describe_4 : decode prog_5_method_2_code 4 = .ok (.iload_n 1, 1) := by decide +kernel
theorem d_X3_describe_5 : decode prog_5_method_2_code 5 = .ok (.iload_n 2, 1) := by decide +kernel
theorem d_X3_describe_6 : decode prog_5_method_2_code 6 = .ok (.iastore, 1) := by decide +kernel
theorem d_X3_describe_7 : decode prog_5_method_2_code 7 = .ok (.aload_n 0, 1) := by decide +kernel
theorem d_X3_describe_8 : decode prog_5_method_2_code 8 = .ok (.getfield 15, 3) := by decide +kernel
theorem d_X3_describe_11 : decode prog_5_method_2_code 11 = .ok (.iload_n 1, 1) := by decide +kernel
theorem d_X3_describe_12 : decode prog_5_method_2_code 12 = .ok (.iload_n 3, 1) := by decide +kernel
theorem d_X3_describe_13 : decode prog_5_method_2_code 13 = .ok (.iastore, 1) := by decide +kernel
theorem d_X3_describe_14 : decode prog_5_method_2_code 14 = .ok (.return_, 1) := by decide +kernel
abbrev y_X5_forget : MethodName := ⟨"VirtualRewrite$Rewriting", "forget", "()V"⟩
theorem d_X5_forget_0 : decode prog_7_method_5_code 0 = .ok (.aload_n 0, 1) := by decide +kernel
theorem d_X5_forget_1 : decode prog_7_method_5_code 1 = .ok (.iconst 0, 1) := by decide +kernel
theorem d_X5_forget_2 : decode prog_7_method_5_code 2 = .ok (.putfield 29, 3) := by decide +kernel
theorem d_X5_forget_5 : decode prog_7_method_5_code 5 = .ok (.return_, 1) := by decide +kernel
abbrev y_X0_triples : MethodName := ⟨"VirtualRewrite", "triples", "()I"⟩
theorem d_X0_triples_0 : decode prog_1_method_6_code 0 = .ok (.aload_n 0, 1) := by decide +kernel
theorem d_X0_triples_1 : decode prog_1_method_6_code 1 = .ok (.getfield 12, 3) := by decide +kernel
theorem d_X0_triples_4 : decode prog_1_method_6_code 4 = .ok (.invokevirtual 109, 3) := by decide +kernel
theorem d_X0_triples_7 : decode prog_1_method_6_code 7 = .ok (.ireturn, 1) := by decide +kernel
abbrev y_X1_countTriples : MethodName := ⟨"VirtualRewrite$Catalog", "countTriples", "()I"⟩
theorem d_X1_countTriples_0 : decode prog_3_method_3_code 0 = .ok (.aload_n 0, 1) := by decide +kernel
theorem d_X1_countTriples_1 : decode prog_3_method_3_code 1 = .ok (.iconst 0, 1) := by decide +kernel
theorem d_X1_countTriples_2 : decode prog_3_method_3_code 2 = .ok (.putfield 31, 3) := by decide +kernel
theorem d_X1_countTriples_5 : decode prog_3_method_3_code 5 = .ok (.iconst 0, 1) := by decide +kernel
theorem d_X1_countTriples_6 : decode prog_3_method_3_code 6 = .ok (.istore_n 1, 1) := by decide +kernel
theorem d_X1_countTriples_7 : decode prog_3_method_3_code 7 = .ok (.iload_n 1, 1) := by decide +kernel
theorem d_X1_countTriples_8 : decode prog_3_method_3_code 8 = .ok (.aload_n 0, 1) := by decide +kernel
theorem d_X1_countTriples_9 : decode prog_3_method_3_code 9 = .ok (.getfield 27, 3) := by decide +kernel
theorem d_X1_countTriples_12 : decode prog_3_method_3_code 12 = .ok (.if_icmp .ge 51, 3) := by decide +kernel
theorem d_X1_countTriples_15 : decode prog_3_method_3_code 15 = .ok (.aload_n 0, 1) := by decide +kernel
theorem d_X1_countTriples_16 : decode prog_3_method_3_code 16 = .ok (.aload_n 0, 1) := by decide +kernel
theorem d_X1_countTriples_17 : decode prog_3_method_3_code 17 = .ok (.getfield 19, 3) := by decide +kernel
theorem d_X1_countTriples_20 : decode prog_3_method_3_code 20 = .ok (.iload_n 1, 1) := by decide +kernel
theorem d_X1_countTriples_21 : decode prog_3_method_3_code 21 = .ok (.aaload, 1) := by decide +kernel
theorem d_X1_countTriples_22 : decode prog_3_method_3_code 22 = .ok (.invokevirtual 39, 3) := by decide +kernel
theorem d_X1_countTriples_25 : decode prog_3_method_3_code 25 = .ok (.getfield 43, 3) := by decide +kernel
theorem d_X1_countTriples_28 : decode prog_3_method_3_code 28 = .ok (.istore_n 2, 1) := by decide +kernel
theorem d_X1_countTriples_29 : decode prog_3_method_3_code 29 = .ok (.iconst 0, 1) := by decide +kernel
theorem d_X1_countTriples_30 : decode prog_3_method_3_code 30 = .ok (.istore_n 3, 1) := by decide +kernel
theorem d_X1_countTriples_31 : decode prog_3_method_3_code 31 = .ok (.iload_n 3, 1) := by decide +kernel
theorem d_X1_countTriples_32 : decode prog_3_method_3_code 32 = .ok (.iload_n 2, 1) := by decide +kernel
theorem d_X1_countTriples_33 : decode prog_3_method_3_code 33 = .ok (.if_icmp .ge 24, 3) := by decide +kernel
theorem d_X1_countTriples_36 : decode prog_3_method_3_code 36 = .ok (.aload_n 0, 1) := by decide +kernel
theorem d_X1_countTriples_37 : decode prog_3_method_3_code 37 = .ok (.aload_n 0, 1) := by decide +kernel
theorem d_X1_countTriples_38 : decode prog_3_method_3_code 38 = .ok (.aload_n 0, 1) := by decide +kernel
theorem d_X1_countTriples_39 : decode prog_3_method_3_code 39 = .ok (.getfield 19, 3) := by decide +kernel
theorem d_X1_countTriples_42 : decode prog_3_method_3_code 42 = .ok (.iload_n 1, 1) := by decide +kernel
theorem d_X1_countTriples_43 : decode prog_3_method_3_code 43 = .ok (.aaload, 1) := by decide +kernel
theorem d_X1_countTriples_44 : decode prog_3_method_3_code 44 = .ok (.iload_n 3, 1) := by decide +kernel
theorem d_X1_countTriples_45 : decode prog_3_method_3_code 45 = .ok (.invokevirtual 44, 3) := by decide +kernel
theorem d_X1_countTriples_48 : decode prog_3_method_3_code 48 = .ok (.invokevirtual 48, 3) := by decide +kernel
theorem d_X1_countTriples_51 : decode prog_3_method_3_code 51 = .ok (.iinc 3 1, 3) := by decide +kernel
theorem d_X1_countTriples_54 : decode prog_3_method_3_code 54 = .ok (.goto (-23), 3) := by decide +kernel
theorem d_X1_countTriples_57 : decode prog_3_method_3_code 57 = .ok (.iinc 1 1, 3) := by decide +kernel
theorem d_X1_countTriples_60 : decode prog_3_method_3_code 60 = .ok (.goto (-53), 3) := by decide +kernel
theorem d_X1_countTriples_63 : decode prog_3_method_3_code 63 = .ok (.aload_n 0, 1) := by decide +kernel
theorem d_X1_countTriples_64 : decode prog_3_method_3_code 64 = .ok (.getfield 31, 3) := by decide +kernel
theorem d_X1_countTriples_67 : decode prog_3_method_3_code 67 = .ok (.ireturn, 1) := by decide +kernel
abbrev y_X1_tableOf : MethodName := ⟨"VirtualRewrite$Catalog", "tableOf", "(LVirtualRewrite$Mapping;)LVirtualRewrite$Table;"⟩
theorem d_X1_tableOf_0 : decode prog_3_method_2_code 0 = .ok (.aload_n 0, 1) := by decide +kernel
theorem d_X1_tableOf_1 : decode prog_3_method_2_code 1 = .ok (.getfield 11, 3) := by decide +kernel
theorem d_X1_tableOf_4 : decode prog_3_method_2_code 4 = .ok (.aload_n 1, 1) := by decide +kernel
theorem d_X1_tableOf_5 : decode prog_3_method_2_code 5 = .ok (.getfield 36, 3) := by decide +kernel
theorem d_X1_tableOf_8 : decode prog_3_method_2_code 8 = .ok (.aaload, 1) := by decide +kernel
theorem d_X1_tableOf_9 : decode prog_3_method_2_code 9 = .ok (.areturn, 1) := by decide +kernel
abbrev y_X1_packedTriple : MethodName := ⟨"VirtualRewrite$Catalog", "packedTriple", "(LVirtualRewrite$Mapping;I)J"⟩
theorem d_X1_packedTriple_0 : decode prog_3_method_4_code 0 = .ok (.aload_n 1, 1) := by decide +kernel
theorem d_X1_packedTriple_1 : decode prog_3_method_4_code 1 = .ok (.getfield 52, 3) := by decide +kernel
theorem d_X1_packedTriple_4 : decode prog_3_method_4_code 4 = .ok (.i2l, 1) := by decide +kernel
theorem d_X1_packedTriple_5 : decode prog_3_method_4_code 5 = .ok (.lstore_n 3, 1) := by decide +kernel
theorem d_X1_packedTriple_6 : decode prog_3_method_4_code 6 = .ok (.iconst 0, 1) := by decide +kernel
theorem d_X1_packedTriple_7 : decode prog_3_method_4_code 7 = .ok (.istore 5, 2) := by decide +kernel
theorem d_X1_packedTriple_9 : decode prog_3_method_4_code 9 = .ok (.iload 5, 2) := by decide +kernel
theorem d_X1_packedTriple_11 : decode prog_3_method_4_code 11 = .ok (.iconst 2, 1) := by decide +kernel
theorem d_X1_packedTriple_12 : decode prog_3_method_4_code 12 = .ok (.if_icmp .ge 50, 3) := by decide +kernel
theorem d_X1_packedTriple_15 : decode prog_3_method_4_code 15 = .ok (.aload_n 0, 1) := by decide +kernel
theorem d_X1_packedTriple_16 : decode prog_3_method_4_code 16 = .ok (.aload_n 1, 1) := by decide +kernel
theorem d_X1_packedTriple_17 : decode prog_3_method_4_code 17 = .ok (.invokevirtual 39, 3) := by decide +kernel
theorem d_X1_packedTriple_20 : decode prog_3_method_4_code 20 = .ok (.iload_n 2, 1) := by decide +kernel
theorem d_X1_packedTriple_21 : decode prog_3_method_4_code 21 = .ok (.aload_n 1, 1) := by decide +kernel
theorem d_X1_packedTriple_22 : decode prog_3_method_4_code 22 = .ok (.getfield 55, 3) := by decide +kernel
theorem d_X1_packedTriple_25 : decode prog_3_method_4_code 25 = .ok (.iload 5, 2) := by decide +kernel
theorem d_X1_packedTriple_27 : decode prog_3_method_4_code 27 = .ok (.iaload, 1) := by decide +kernel
theorem d_X1_packedTriple_28 : decode prog_3_method_4_code 28 = .ok (.invokevirtual 59, 3) := by decide +kernel
theorem d_X1_packedTriple_31 : decode prog_3_method_4_code 31 = .ok (.istore 6, 2) := by decide +kernel
theorem d_X1_packedTriple_33 : decode prog_3_method_4_code 33 = .ok (.lload_n 3, 1) := by decide +kernel
theorem d_X1_packedTriple_34 : decode prog_3_method_4_code 34 = .ok (.ldc2_w 63, 3) := by decide +kernel
theorem d_X1_packedTriple_37 : decode prog_3_method_4_code 37 = .ok (.lmul, 1) := by decide +kernel
theorem d_X1_packedTriple_38 : decode prog_3_method_4_code 38 = .ok (.aload_n 1, 1) := by decide +kernel
theorem d_X1_packedTriple_39 : decode prog_3_method_4_code 39 = .ok (.getfield 65, 3) := by decide +kernel
theorem d_X1_packedTriple_42 : decode prog_3_method_4_code 42 = .ok (.iload 5, 2) := by decide +kernel
theorem d_X1_packedTriple_44 : decode prog_3_method_4_code 44 = .ok (.iaload, 1) := by decide +kernel
theorem d_X1_packedTriple_45 : decode prog_3_method_4_code 45 = .ok (.sipush 10000, 3) := by decide +kernel
theorem d_X1_packedTriple_48 : decode prog_3_method_4_code 48 = .ok (.imul, 1) := by decide +kernel
theorem d_X1_packedTriple_49 : decode prog_3_method_4_code 49 = .ok (.i2l, 1) := by decide +kernel
theorem d_X1_packedTriple_50 : decode prog_3_method_4_code 50 = .ok (.ladd, 1) := by decide +kernel
theorem d_X1_packedTriple_51 : decode prog_3_method_4_code 51 = .ok (.iload 6, 2) := by decide +kernel
theorem d_X1_packedTriple_53 : decode prog_3_method_4_code 53 = .ok (.i2l, 1) := by decide +kernel
theorem d_X1_packedTriple_54 : decode prog_3_method_4_code 54 = .ok (.ladd, 1) := by decide +kernel
theorem d_X1_packedTriple_55 : decode prog_3_method_4_code 55 = .ok (.lstore_n 3, 1) := by decide +kernel
theorem d_X1_packedTriple_56 : decode prog_3_method_4_code 56 = .ok (.iinc 5 1, 3) := by decide +kernel
theorem d_X1_packedTriple_59 : decode prog_3_method_4_code 59 = .ok (.goto (-50), 3) := by decide +kernel
theorem d_X1_packedTriple_62 : decode prog_3_method_4_code 62 = .ok (.lload_n 3, 1) := by decide +kernel
theorem d_X1_packedTriple_63 : decode prog_3_method_4_code 63 = .ok (.lreturn, 1) := by decide +kernel
abbrev y_X1_keepTriple : MethodName := ⟨"VirtualRewrite$Catalog", "keepTriple", "(J)V"⟩
theorem d_X1_keepTriple_0 : decode prog_3_method_5_code 0 = .ok (.iconst 0, 1) := by decide +kernel
theorem d_X1_keepTriple_1 : decode prog_3_method_5_code 1 = .ok (.istore_n 3, 1) := by decide +kernel
theorem d_X1_keepTriple_2 : decode prog_3_method_5_code 2 = .ok (.aload_n 0, 1) := by decide +kernel
theorem d_X1_keepTriple_3 : decode prog_3_method_5_code 3 = .ok (.getfield 31, 3) := by decide +kernel
theorem d_X1_keepTriple_6 : decode prog_3_method_5_code 6 = .ok (.istore 4, 2) := by decide +kernel
theorem d_X1_keepTriple_8 : decode prog_3_method_5_code 8 = .ok (.iload_n 3, 1) := by decide +kernel
theorem d_X1_keepTriple_9 : decode prog_3_method_5_code 9 = .ok (.iload 4, 2) := by decide +kernel
theorem d_X1_keepTriple_11 : decode prog_3_method_5_code 11 = .ok (.if_icmp .ge 38, 3) := by decide +kernel
theorem d_X1_keepTriple_14 : decode prog_3_method_5_code 14 = .ok (.iload_n 3, 1) := by decide +kernel
theorem d_X1_keepTriple_15 : decode prog_3_method_5_code 15 = .ok (.iload 4, 2) := by decide +kernel
theorem d_X1_keepTriple_17 : decode prog_3_method_5_code 17 = .ok (.iadd, 1) := by decide +kernel
theorem d_X1_keepTriple_18 : decode prog_3_method_5_code 18 = .ok (.iconst 1, 1) := by decide +kernel
theorem d_X1_keepTriple_19 : decode prog_3_method_5_code 19 = .ok (.iushr, 1) := by decide +kernel
theorem d_X1_keepTriple_20 : decode prog_3_method_5_code 20 = .ok (.istore 5, 2) := by decide +kernel
theorem d_X1_keepTriple_22 : decode prog_3_method_5_code 22 = .ok (.aload_n 0, 1) := by decide +kernel
theorem d_X1_keepTriple_23 : decode prog_3_method_5_code 23 = .ok (.getfield 23, 3) := by decide +kernel
theorem d_X1_keepTriple_26 : decode prog_3_method_5_code 26 = .ok (.iload 5, 2) := by decide +kernel
theorem d_X1_keepTriple_28 : decode prog_3_method_5_code 28 = .ok (.laload, 1) := by decide +kernel
theorem d_X1_keepTriple_29 : decode prog_3_method_5_code 29 = .ok (.lload_n 1, 1) := by decide +kernel
theorem d_X1_keepTriple_30 : decode prog_3_method_5_code 30 = .ok (.lcmp, 1) := by decide +kernel
theorem d_X1_keepTriple_31 : decode prog_3_method_5_code 31 = .ok (.ifCond .ge 11, 3) := by decide +kernel
theorem d_X1_keepTriple_34 : decode prog_3_method_5_code 34 = .ok (.iload 5, 2) := by decide +kernel
theorem d_X1_keepTriple_36 : decode prog_3_method_5_code 36 = .ok (.iconst 1, 1) := by decide +kernel
theorem d_X1_keepTriple_37 : decode prog_3_method_5_code 37 = .ok (.iadd, 1) := by decide +kernel
theorem d_X1_keepTriple_38 : decode prog_3_method_5_code 38 = .ok (.istore_n 3, 1) := by decide +kernel
theorem d_X1_keepTriple_39 : decode prog_3_method_5_code 39 = .ok (.goto 7, 3) := by decide +kernel
theorem d_X1_keepTriple_42 : decode prog_3_method_5_code 42 = .ok (.iload 5, 2) := by decide +kernel
theorem d_X1_keepTriple_44 : decode prog_3_method_5_code 44 = .ok (.istore 4, 2) := by decide +kernel
theorem d_X1_keepTriple_46 : decode prog_3_method_5_code 46 = .ok (.goto (-38), 3) := by decide +kernel
theorem d_X1_keepTriple_49 : decode prog_3_method_5_code 49 = .ok (.iload_n 3, 1) := by decide +kernel
theorem d_X1_keepTriple_50 : decode prog_3_method_5_code 50 = .ok (.aload_n 0, 1) := by decide +kernel
theorem d_X1_keepTriple_51 : decode prog_3_method_5_code 51 = .ok (.getfield 31, 3) := by decide +kernel
theorem d_X1_keepTriple_54 : decode prog_3_method_5_code 54 = .ok (.if_icmp .ge 15, 3) := by decide +kernel
theorem d_X1_keepTriple_57 : decode prog_3_method_5_code 57 = .ok (.aload_n 0, 1) := by decide +kernel
theorem d_X1_keepTriple_58 : decode prog_3_method_5_code 58 = .ok (.getfield 23, 3) := by decide +kernel
theorem d_X1_keepTriple_61 : decode prog_3_method_5_code 61 = .ok (.iload_n 3, 1) := by decide +kernel
theorem d_X1_keepTriple_62 : decode prog_3_method_5_code 62 = .ok (.laload, 1) := by decide +kernel
theorem d_X1_keepTriple_63 : decode prog_3_method_5_code 63 = .ok (.lload_n 1, 1) := by decide +kernel
theorem d_X1_keepTriple_64 : decode prog_3_method_5_code 64 = .ok (.lcmp, 1) := by decide +kernel
theorem d_X1_keepTriple_65 : decode prog_3_method_5_code 65 = .ok (.ifCond .ne 4, 3) := by decide +kernel
theorem d_X1_keepTriple_68 : decode prog_3_method_5_code 68 = .ok (.return_, 1) := by decide +kernel
theorem d_X1_keepTriple_69 : decode prog_3_method_5_code 69 = .ok (.aload_n 0, 1) := by decide +kernel
theorem d_X1_keepTriple_70 : decode prog_3_method_5_code 70 = .ok (.getfield 23, 3) := by decide +kernel
theorem d_X1_keepTriple_73 : decode prog_3_method_5_code 73 = .ok (.iload_n 3, 1) := by decide +kernel
theorem d_X1_keepTriple_74 : decode prog_3_method_5_code 74 = .ok (.aload_n 0, 1) := by decide +kernel
theorem d_X1_keepTriple_75 : decode prog_3_method_5_code 75 = .ok (.getfield 23, 3) := by decide +kernel
theorem d_X1_keepTriple_78 : decode prog_3_method_5_code 78 = .ok (.iload_n 3, 1) := by decide +kernel
theorem d_X1_keepTriple_79 : decode prog_3_method_5_code 79 = .ok (.iconst 1, 1) := by decide +kernel
theorem d_X1_keepTriple_80 : decode prog_3_method_5_code 80 = .ok (.iadd, 1) := by decide +kernel
theorem d_X1_keepTriple_81 : decode prog_3_method_5_code 81 = .ok (.aload_n 0, 1) := by decide +kernel
theorem d_X1_keepTriple_82 : decode prog_3_method_5_code 82 = .ok (.getfield 31, 3) := by decide +kernel
theorem d_X1_keepTriple_85 : decode prog_3_method_5_code 85 = .ok (.iload_n 3, 1) := by decide +kernel
theorem d_X1_keepTriple_86 : decode prog_3_method_5_code 86 = .ok (.isub, 1) := by decide +kernel
theorem d_X1_keepTriple_87 : decode prog_3_method_5_code 87 = .ok (.invokestatic 68, 3) := by decide +kernel
theorem d_X1_keepTriple_90 : decode prog_3_method_5_code 90 = .ok (.aload_n 0, 1) := by decide +kernel
theorem d_X1_keepTriple_91 : decode prog_3_method_5_code 91 = .ok (.getfield 23, 3) := by decide +kernel
theorem d_X1_keepTriple_94 : decode prog_3_method_5_code 94 = .ok (.iload_n 3, 1) := by decide +kernel
theorem d_X1_keepTriple_95 : decode prog_3_method_5_code 95 = .ok (.lload_n 1, 1) := by decide +kernel
theorem d_X1_keepTriple_96 : decode prog_3_method_5_code 96 = .ok (.lastore, 1) := by decide +kernel
theorem d_X1_keepTriple_97 : decode prog_3_method_5_code 97 = .ok (.aload_n 0, 1) := by decide +kernel
theorem d_X1_keepTriple_98 : decode prog_3_method_5_code 98 = .ok (.dup, 1) := by decide +kernel
theorem d_X1_keepTriple_99 : decode prog_3_method_5_code 99 = .ok (.getfield 31, 3) := by decide +kernel
theorem d_X1_keepTriple_102 : decode prog_3_method_5_code 102 = .ok (.iconst 1, 1) := by decide +kernel
theorem d_X1_keepTriple_103 : decode prog_3_method_5_code 103 = .ok (.iadd, 1) := by decide +kernel
theorem d_X1_keepTriple_104 : decode prog_3_method_5_code 104 = .ok (.putfield 31, 3) := by decide +kernel
theorem d_X1_keepTriple_107 : decode prog_3_method_5_code 107 = .ok (.return_, 1) := by decide +kernel
abbrev y_X0_atom : MethodName := ⟨"VirtualRewrite", "atom", "(III)I"⟩
theorem d_X0_atom_0 : decode prog_1_method_7_code 0 = .ok (.iload_n 1, 1) := by decide +kernel
theorem d_X0_atom_1 : decode prog_1_method_7_code 1 = .ok (.bipush 8, 2) := by decide +kernel
theorem d_X0_atom_3 : decode prog_1_method_7_code 3 = .ok (.invokestatic 57, 3) := by decide +kernel
theorem d_X0_atom_6 : decode prog_1_method_7_code 6 = .ok (.ifCond .eq 17, 3) := by decide +kernel
theorem d_X0_atom_9 : decode prog_1_method_7_code 9 = .ok (.iload_n 2, 1) := by decide +kernel
theorem d_X0_atom_10 : decode prog_1_method_7_code 10 = .ok (.invokestatic 113, 3) := by decide +kernel
theorem d_X0_atom_13 : decode prog_1_method_7_code 13 = .ok (.ifCond .eq 10, 3) := by decide +kernel
theorem d_X0_atom_16 : decode prog_1_method_7_code 16 = .ok (.iload_n 3, 1) := by decide +kernel
theorem d_X0_atom_17 : decode prog_1_method_7_code 17 = .ok (.invokestatic 113, 3) := by decide +kernel
theorem d_X0_atom_20 : decode prog_1_method_7_code 20 = .ok (.ifCond .ne 5, 3) := by decide +kernel
theorem d_X0_atom_23 : decode prog_1_method_7_code 23 = .ok (.iconst (-1), 1) := by decide +kernel
theorem d_X0_atom_24 : decode prog_1_method_7_code 24 = .ok (.ireturn, 1) := by decide +kernel
theorem d_X0_atom_25 : decode prog_1_method_7_code 25 = .ok (.aload_n 0, 1) := by decide +kernel
theorem d_X0_atom_26 : decode prog_1_method_7_code 26 = .ok (.getfield 19, 3) := by decide +kernel
theorem d_X0_atom_29 : decode prog_1_method_7_code 29 = .ok (.getfield 116, 3) := by decide +kernel
theorem d_X0_atom_32 : decode prog_1_method_7_code 32 = .ok (.iconst 4, 1) := by decide +kernel
theorem d_X0_atom_33 : decode prog_1_method_7_code 33 = .ok (.if_icmp .lt 6, 3) := by decide +kernel
theorem d_X0_atom_36 : decode prog_1_method_7_code 36 = .ok (.bipush (-2), 2) := by decide +kernel
theorem d_X0_atom_38 : decode prog_1_method_7_code 38 = .ok (.ireturn, 1) := by decide +kernel
theorem d_X0_atom_39 : decode prog_1_method_7_code 39 = .ok (.aload_n 0, 1) := by decide +kernel
theorem d_X0_atom_40 : decode prog_1_method_7_code 40 = .ok (.getfield 19, 3) := by decide +kernel
theorem d_X0_atom_43 : decode prog_1_method_7_code 43 = .ok (.iload_n 1, 1) := by decide +kernel
theorem d_X0_atom_44 : decode prog_1_method_7_code 44 = .ok (.iload_n 2, 1) := by decide +kernel
theorem d_X0_atom_45 : decode prog_1_method_7_code 45 = .ok (.iload_n 3, 1) := by decide +kernel
theorem d_X0_atom_46 : decode prog_1_method_7_code 46 = .ok (.invokevirtual 119, 3) := by decide +kernel
theorem d_X0_atom_49 : decode prog_1_method_7_code 49 = .ok (.aload_n 0, 1) := by decide +kernel
theorem d_X0_atom_50 : decode prog_1_method_7_code 50 = .ok (.getfield 28, 3) := by decide +kernel
theorem d_X0_atom_53 : decode prog_1_method_7_code 53 = .ok (.invokevirtual 106, 3) := by decide +kernel
theorem d_X0_atom_56 : decode prog_1_method_7_code 56 = .ok (.aload_n 0, 1) := by decide +kernel
theorem d_X0_atom_57 : decode prog_1_method_7_code 57 = .ok (.getfield 19, 3) := by decide +kernel
theorem d_X0_atom_60 : decode prog_1_method_7_code 60 = .ok (.getfield 116, 3) := by decide +kernel
theorem d_X0_atom_63 : decode prog_1_method_7_code 63 = .ok (.ireturn, 1) := by decide +kernel
abbrev y_X0_isPlace : MethodName := ⟨"VirtualRewrite", "isPlace", "(I)Z"⟩
theorem d_X0_isPlace_0 : decode prog_1_method_19_code 0 = .ok (.iload_n 0, 1) := by decide +kernel
theorem d_X0_isPlace_1 : decode prog_1_method_19_code 1 = .ok (.bipush (-6), 2) := by decide +kernel
theorem d_X0_isPlace_3 : decode prog_1_method_19_code 3 = .ok (.if_icmp .lt 13, 3) := by decide +kernel
theorem d_X0_isPlace_6 : decode prog_1_method_19_code 6 = .ok (.iload_n 0, 1) := by decide +kernel
theorem d_X0_isPlace_7 : decode prog_1_method_19_code 7 = .ok (.ldc 193, 2) := by decide +kernel
theorem d_X0_isPlace_9 : decode prog_1_method_19_code 9 = .ok (.if_icmp .ge 7, 3) := by decide +kernel
theorem d_X0_isPlace_12 : decode prog_1_method_19_code 12 = .ok (.iconst 1, 1) := by decide +kernel
theorem d_X0_isPlace_13 : decode prog_1_method_19_code 13 = .ok (.goto 4, 3) := by decide +kernel
theorem d_X0_isPlace_16 : decode prog_1_method_19_code 16 = .ok (.iconst 0, 1) := by decide +kernel
theorem d_X0_isPlace_17 : decode prog_1_method_19_code 17 = .ok (.ireturn, 1) := by decide +kernel
abbrev y_X4_append : MethodName := ⟨"VirtualRewrite$Question", "append", "(III)V"⟩
theorem d_X4_append_0 : decode prog_6_method_2_code 0 = .ok (.aload_n 0, 1) := by decide +kernel
theorem d_X4_append_1 : decode prog_6_method_2_code 1 = .ok (.getfield 9, 3) := by decide +kernel
theorem d_X4_append_4 : decode prog_6_method_2_code 4 = .ok (.aload_n 0, 1) := by decide +kernel
theorem d_X4_append_5 : decode prog_6_method_2_code 5 = .ok (.getfield 24, 3) := by decide +kernel
theorem d_X4_append_8 : decode prog_6_method_2_code 8 = .ok (.iload_n 1, 1) := by decide +kernel
theorem d_X4_append_9 : decode prog_6_method_2_code 9 = .ok (.iastore, 1) := by decide +kernel
theorem d_X4_append_10 : decode prog_6_method_2_code 10 = .ok (.aload_n 0, 1) := by decide +kernel
theorem d_X4_append_11 : decode prog_6_method_2_code 11 = .ok (.getfield 15, 3) := by decide +kernel
theorem d_X4_append_14 : decode prog_6_method_2_code 14 = .ok (.aload_n 0, 1) := by decide +kernel
theorem d_X4_append_15 : decode prog_6_method_2_code 15 = .ok (.getfield 24, 3) := by decide +kernel
theorem d_X4_append_18 : decode prog_6_method_2_code 18 = .ok (.iconst 2, 1) := by decide +kernel
theorem d_X4_append_19 : decode prog_6_method_2_code 19 = .ok (.imul, 1) := by decide +kernel
theorem d_X4_append_20 : decode prog_6_method_2_code 20 = .ok (.iload_n 2, 1) := by decide +kernel
theorem d_X4_append_21 : decode prog_6_method_2_code 21 = .ok (.iastore, 1) := by decide +kernel
theorem d_X4_append_22 : decode prog_6_method_2_code 22 = .ok (.aload_n 0, 1) := by decide +kernel
theorem d_X4_append_23 : decode prog_6_method_2_code 23 = .ok (.getfield 15, 3) := by decide +kernel
theorem d_X4_append_26 : decode prog_6_method_2_code 26 = .ok (.aload_n 0, 1) := by decide +kernel
theorem d_X4_append_27 : decode prog_6_method_2_code 27 = .ok (.getfield 24, 3) := by decide +kernel
theorem d_X4_append_30 : decode prog_6_method_2_code 30 = .ok (.iconst 2, 1) := by decide +kernel
theorem d_X4_append_31 : decode prog_6_method_2_code 31 = .ok (.imul, 1) := by decide +kernel
theorem d_X4_append_32 : decode prog_6_method_2_code 32 = .ok (.iconst 1, 1) := by decide +kernel
theorem d_X4_append_33 : decode prog_6_method_2_code 33 = .ok (.iadd, 1) := by decide +kernel
theorem d_X4_append_34 : decode prog_6_method_2_code 34 = .ok (.iload_n 3, 1) := by decide +kernel
theorem d_X4_append_35 : decode prog_6_method_2_code 35 = .ok (.iastore, 1) := by decide +kernel
theorem d_X4_append_36 : decode prog_6_method_2_code 36 = .ok (.aload_n 0, 1) := by decide +kernel
theorem d_X4_append_37 : decode prog_6_method_2_code 37 = .ok (.dup, 1) := by decide +kernel
theorem d_X4_append_38 : decode prog_6_method_2_code 38 = .ok (.getfield 24, 3) := by decide +kernel
theorem d_X4_append_41 : decode prog_6_method_2_code 41 = .ok (.iconst 1, 1) := by decide +kernel
theorem d_X4_append_42 : decode prog_6_method_2_code 42 = .ok (.iadd, 1) := by decide +kernel
theorem d_X4_append_43 : decode prog_6_method_2_code 43 = .ok (.putfield 24, 3) := by decide +kernel
theorem d_X4_append_46 : decode prog_6_method_2_code 46 = .ok (.return_, 1) := by decide +kernel
abbrev y_X0_span : MethodName := ⟨"VirtualRewrite", "span", "(III)I"⟩
theorem d_X0_span_0 : decode prog_1_method_8_code 0 = .ok (.iload_n 1, 1) := by decide +kernel
theorem d_X0_span_1 : decode prog_1_method_8_code 1 = .ok (.bipush 6, 2) := by decide +kernel
theorem d_X0_span_3 : decode prog_1_method_8_code 3 = .ok (.invokestatic 57, 3) := by decide +kernel
theorem d_X0_span_6 : decode prog_1_method_8_code 6 = .ok (.ifCond .ne 5, 3) := by decide +kernel
theorem d_X0_span_9 : decode prog_1_method_8_code 9 = .ok (.iconst (-1), 1) := by decide +kernel
theorem d_X0_span_10 : decode prog_1_method_8_code 10 = .ok (.ireturn, 1) := by decide +kernel
theorem d_X0_span_11 : decode prog_1_method_8_code 11 = .ok (.aload_n 0, 1) := by decide +kernel
theorem d_X0_span_12 : decode prog_1_method_8_code 12 = .ok (.getfield 19, 3) := by decide +kernel
theorem d_X0_span_15 : decode prog_1_method_8_code 15 = .ok (.getfield 120, 3) := by decide +kernel
theorem d_X0_span_18 : decode prog_1_method_8_code 18 = .ok (.iconst 4, 1) := by decide +kernel
theorem d_X0_span_19 : decode prog_1_method_8_code 19 = .ok (.if_icmp .lt 6, 3) := by decide +kernel
theorem d_X0_span_22 : decode prog_1_method_8_code 22 = .ok (.bipush (-2), 2) := by decide +kernel
theorem d_X0_span_24 : decode prog_1_method_8_code 24 = .ok (.ireturn, 1) := by decide +kernel
theorem d_X0_span_25 : decode prog_1_method_8_code 25 = .ok (.aload_n 0, 1) := by decide +kernel
theorem d_X0_span_26 : decode prog_1_method_8_code 26 = .ok (.getfield 19, 3) := by decide +kernel
theorem d_X0_span_29 : decode prog_1_method_8_code 29 = .ok (.iload_n 1, 1) := by decide +kernel
theorem d_X0_span_30 : decode prog_1_method_8_code 30 = .ok (.iload_n 2, 1) := by decide +kernel
theorem d_X0_span_31 : decode prog_1_method_8_code 31 = .ok (.iload_n 3, 1) := by decide +kernel
theorem d_X0_span_32 : decode prog_1_method_8_code 32 = .ok (.invokevirtual 123, 3) := by decide +kernel
theorem d_X0_span_35 : decode prog_1_method_8_code 35 = .ok (.aload_n 0, 1) := by decide +kernel
theorem d_X0_span_36 : decode prog_1_method_8_code 36 = .ok (.getfield 19, 3) := by decide +kernel
theorem d_X0_span_39 : decode prog_1_method_8_code 39 = .ok (.getfield 120, 3) := by decide +kernel
theorem d_X0_span_42 : decode prog_1_method_8_code 42 = .ok (.ireturn, 1) := by decide +kernel
abbrev y_X4_narrow : MethodName := ⟨"VirtualRewrite$Question", "narrow", "(III)V"⟩
theorem d_X4_narrow_0 : decode prog_6_method_3_code 0 = .ok (.aload_n 0, 1) := by decide +kernel
theorem d_X4_narrow_1 : decode prog_6_method_3_code 1 = .ok (.getfield 18, 3) := by decide +kernel
theorem d_X4_narrow_4 : decode prog_6_method_3_code 4 = .ok (.iload_n 1, 1) := by decide +kernel
theorem d_X4_narrow_5 : decode prog_6_method_3_code 5 = .ok (.aload_n 0, 1) := by decide +kernel
theorem d_X4_narrow_6 : decode prog_6_method_3_code 6 = .ok (.getfield 18, 3) := by decide +kernel
theorem d_X4_narrow_9 : decode prog_6_method_3_code 9 = .ok (.iload_n 1, 1) := by decide +kernel
theorem d_X4_narrow_10 : decode prog_6_method_3_code 10 = .ok (.iaload, 1) := by decide +kernel
theorem d_X4_narrow_11 : decode prog_6_method_3_code 11 = .ok (.iload_n 2, 1) := by decide +kernel
theorem d_X4_narrow_12 : decode prog_6_method_3_code 12 = .ok (.invokestatic 31, 3) := by decide +kernel
theorem d_X4_narrow_15 : decode prog_6_method_3_code 15 = .ok (.iastore, 1) := by decide +kernel
theorem d_X4_narrow_16 : decode prog_6_method_3_code 16 = .ok (.aload_n 0, 1) := by decide +kernel
theorem d_X4_narrow_17 : decode prog_6_method_3_code 17 = .ok (.getfield 21, 3) := by decide +kernel
theorem d_X4_narrow_20 : decode prog_6_method_3_code 20 = .ok (.iload_n 1, 1) := by decide +kernel
theorem d_X4_narrow_21 : decode prog_6_method_3_code 21 = .ok (.aload_n 0, 1) := by decide +kernel
theorem d_X4_narrow_22 : decode prog_6_method_3_code 22 = .ok (.getfield 21, 3) := by decide +kernel
theorem d_X4_narrow_25 : decode prog_6_method_3_code 25 = .ok (.iload_n 1, 1) := by decide +kernel
theorem d_X4_narrow_26 : decode prog_6_method_3_code 26 = .ok (.iaload, 1) := by decide +kernel
theorem d_X4_narrow_27 : decode prog_6_method_3_code 27 = .ok (.iload_n 3, 1) := by decide +kernel
theorem d_X4_narrow_28 : decode prog_6_method_3_code 28 = .ok (.invokestatic 37, 3) := by decide +kernel
theorem d_X4_narrow_31 : decode prog_6_method_3_code 31 = .ok (.iastore, 1) := by decide +kernel
theorem d_X4_narrow_32 : decode prog_6_method_3_code 32 = .ok (.aload_n 0, 1) := by decide +kernel
theorem d_X4_narrow_33 : decode prog_6_method_3_code 33 = .ok (.dup, 1) := by decide +kernel
theorem d_X4_narrow_34 : decode prog_6_method_3_code 34 = .ok (.getfield 28, 3) := by decide +kernel
theorem d_X4_narrow_37 : decode prog_6_method_3_code 37 = .ok (.iconst 1, 1) := by decide +kernel
theorem d_X4_narrow_38 : decode prog_6_method_3_code 38 = .ok (.iadd, 1) := by decide +kernel
theorem d_X4_narrow_39 : decode prog_6_method_3_code 39 = .ok (.putfield 28, 3) := by decide +kernel
theorem d_X4_narrow_42 : decode prog_6_method_3_code 42 = .ok (.return_, 1) := by decide +kernel
end
section
abbrev y_JMath_max : MethodName := ⟨"java/lang/Math", "max", "(II)I"⟩
theorem d_JMath_max_0 : decode prog_15_method_65_code 0 = .ok (.iload_n 0, 1) := by decide +kernel
theorem d_JMath_max_1 : decode prog_15_method_65_code 1 = .ok (.iload_n 1, 1) := by decide +kernel
theorem d_JMath_max_2 : decode prog_15_method_65_code 2 = .ok (.if_icmp .lt 7, 3) := by decide +kernel
theorem d_JMath_max_5 : decode prog_15_method_65_code 5 = .ok (.iload_n 0, 1) := by decide +kernel
theorem d_JMath_max_6 : decode prog_15_method_65_code 6 = .ok (.goto 4, 3) := by decide +kernel
theorem d_JMath_max_9 : decode prog_15_method_65_code 9 = .ok (.iload_n 1, 1) := by decide +kernel
theorem d_JMath_max_10 : decode prog_15_method_65_code 10 = .ok (.ireturn, 1) := by decide +kernel
abbrev y_JMath_min : MethodName := ⟨"java/lang/Math", "min", "(II)I"⟩
theorem d_JMath_min_0 : decode prog_15_method_69_code 0 = .ok (.iload_n 0, 1) := by decide +kernel
theorem d_JMath_min_1 : decode prog_15_method_69_code 1 = .ok (.iload_n 1, 1) := by decide +kernel
theorem d_JMath_min_2 : decode prog_15_method_69_code 2 = .ok (.if_icmp .gt 7, 3) := by decide +kernel
theorem d_JMath_min_5 : decode prog_15_method_69_code 5 = .ok (.iload_n 0, 1) := by decide +kernel
theorem d_JMath_min_6 : decode prog_15_method_69_code 6 = .ok (.goto 4, 3) := by decide +kernel
theorem d_JMath_min_9 : decode prog_15_method_69_code 9 = .ok (.iload_n 1, 1) := by decide +kernel
theorem d_JMath_min_10 : decode prog_15_method_69_code 10 = .ok (.ireturn, 1) := by decide +kernel
abbrev y_X0_clear : MethodName := ⟨"VirtualRewrite", "clear", "()I"⟩
theorem d_X0_clear_0 : decode prog_1_method_9_code 0 = .ok (.aload_n 0, 1) := by decide +kernel
theorem d_X0_clear_1 : decode prog_1_method_9_code 1 = .ok (.getfield 19, 3) := by decide +kernel
theorem d_X0_clear_4 : decode prog_1_method_9_code 4 = .ok (.getfield 116, 3) := by decide +kernel
theorem d_X0_clear_7 : decode prog_1_method_9_code 7 = .ok (.istore_n 1, 1) := by decide +kernel
theorem d_X0_clear_8 : decode prog_1_method_9_code 8 = .ok (.aload_n 0, 1) := by decide +kernel
theorem d_X0_clear_9 : decode prog_1_method_9_code 9 = .ok (.getfield 19, 3) := by decide +kernel
theorem d_X0_clear_12 : decode prog_1_method_9_code 12 = .ok (.invokevirtual 126, 3) := by decide +kernel
theorem d_X0_clear_15 : decode prog_1_method_9_code 15 = .ok (.aload_n 0, 1) := by decide +kernel
theorem d_X0_clear_16 : decode prog_1_method_9_code 16 = .ok (.getfield 28, 3) := by decide +kernel
theorem d_X0_clear_19 : decode prog_1_method_9_code 19 = .ok (.invokevirtual 106, 3) := by decide +kernel
theorem d_X0_clear_22 : decode prog_1_method_9_code 22 = .ok (.iload_n 1, 1) := by decide +kernel
theorem d_X0_clear_23 : decode prog_1_method_9_code 23 = .ok (.ireturn, 1) := by decide +kernel
abbrev y_X4_reset : MethodName := ⟨"VirtualRewrite$Question", "reset", "()V"⟩
theorem d_X4_reset_0 : decode prog_6_method_4_code 0 = .ok (.aload_n 0, 1) := by decide +kernel
theorem d_X4_reset_1 : decode prog_6_method_4_code 1 = .ok (.iconst 0, 1) := by decide +kernel
theorem d_X4_reset_2 : decode prog_6_method_4_code 2 = .ok (.putfield 24, 3) := by decide +kernel
theorem d_X4_reset_5 : decode prog_6_method_4_code 5 = .ok (.aload_n 0, 1) := by decide +kernel
theorem d_X4_reset_6 : decode prog_6_method_4_code 6 = .ok (.iconst 0, 1) := by decide +kernel
theorem d_X4_reset_7 : decode prog_6_method_4_code 7 = .ok (.putfield 28, 3) := by decide +kernel
theorem d_X4_reset_10 : decode prog_6_method_4_code 10 = .ok (.iconst 0, 1) := by decide +kernel
theorem d_X4_reset_11 : decode prog_6_method_4_code 11 = .ok (.istore_n 1, 1) := by decide +kernel
theorem d_X4_reset_12 : decode prog_6_method_4_code 12 = .ok (.iload_n 1, 1) := by decide +kernel
theorem d_X4_reset_13 : decode prog_6_method_4_code 13 = .ok (.bipush 6, 2) := by decide +kernel
theorem d_X4_reset_15 : decode prog_6_method_4_code 15 = .ok (.if_icmp .ge 25, 3) := by decide +kernel
theorem d_X4_reset_18 : decode prog_6_method_4_code 18 = .ok (.aload_n 0, 1) := by decide +kernel
theorem d_X4_reset_19 : decode prog_6_method_4_code 19 = .ok (.getfield 18, 3) := by decide +kernel
theorem d_X4_reset_22 : decode prog_6_method_4_code 22 = .ok (.iload_n 1, 1) := by decide +kernel
theorem d_X4_reset_23 : decode prog_6_method_4_code 23 = .ok (.iconst 0, 1) := by decide +kernel
theorem d_X4_reset_24 : decode prog_6_method_4_code 24 = .ok (.iastore, 1) := by decide +kernel
theorem d_X4_reset_25 : decode prog_6_method_4_code 25 = .ok (.aload_n 0, 1) := by decide +kernel
theorem d_X4_reset_26 : decode prog_6_method_4_code 26 = .ok (.getfield 21, 3) := by decide +kernel
theorem d_X4_reset_29 : decode prog_6_method_4_code 29 = .ok (.iload_n 1, 1) := by decide +kernel
theorem d_X4_reset_30 : decode prog_6_method_4_code 30 = .ok (.sipush 9999, 3) := by decide +kernel
theorem d_X4_reset_33 : decode prog_6_method_4_code 33 = .ok (.iastore, 1) := by decide +kernel
theorem d_X4_reset_34 : decode prog_6_method_4_code 34 = .ok (.iinc 1 1, 3) := by decide +kernel
theorem d_X4_reset_37 : decode prog_6_method_4_code 37 = .ok (.goto (-25), 3) := by decide +kernel
theorem d_X4_reset_40 : decode prog_6_method_4_code 40 = .ok (.return_, 1) := by decide +kernel
abbrev y_X0_unions : MethodName := ⟨"VirtualRewrite", "unions", "()I"⟩
theorem d_X0_unions_0 : decode prog_1_method_10_code 0 = .ok (.aload_n 0, 1) := by decide +kernel
theorem d_X0_unions_1 : decode prog_1_method_10_code 1 = .ok (.getfield 19, 3) := by decide +kernel
theorem d_X0_unions_4 : decode prog_1_method_10_code 4 = .ok (.getfield 116, 3) := by decide +kernel
theorem d_X0_unions_7 : decode prog_1_method_10_code 7 = .ok (.ifCond .ne 5, 3) := by decide +kernel
theorem d_X0_unions_10 : decode prog_1_method_10_code 10 = .ok (.iconst (-1), 1) := by decide +kernel
theorem d_X0_unions_11 : decode prog_1_method_10_code 11 = .ok (.ireturn, 1) := by decide +kernel
theorem d_X0_unions_12 : decode prog_1_method_10_code 12 = .ok (.aload_n 0, 1) := by decide +kernel
theorem d_X0_unions_13 : decode prog_1_method_10_code 13 = .ok (.getfield 28, 3) := by decide +kernel
theorem d_X0_unions_16 : decode prog_1_method_10_code 16 = .ok (.invokevirtual 129, 3) := by decide +kernel
theorem d_X0_unions_19 : decode prog_1_method_10_code 19 = .ok (.aload_n 0, 1) := by decide +kernel
theorem d_X0_unions_20 : decode prog_1_method_10_code 20 = .ok (.getfield 28, 3) := by decide +kernel
theorem d_X0_unions_23 : decode prog_1_method_10_code 23 = .ok (.getfield 132, 3) := by decide +kernel
theorem d_X0_unions_26 : decode prog_1_method_10_code 26 = .ok (.ifCond .eq 8, 3) := by decide +kernel
theorem d_X0_unions_29 : decode prog_1_method_10_code 29 = .ok (.bipush (-3), 2) := by decide +kernel
theorem d_X0_unions_31 : decode prog_1_method_10_code 31 = .ok (.goto 10, 3) := by decide +kernel
theorem d_X0_unions_34 : decode prog_1_method_10_code 34 = .ok (.aload_n 0, 1) := by decide +kernel
theorem d_X0_unions_35 : decode prog_1_method_10_code 35 = .ok (.getfield 28, 3) := by decide +kernel
theorem d_X0_unions_38 : decode prog_1_method_10_code 38 = .ok (.getfield 136, 3) := by decide +kernel
theorem d_X0_unions_41 : decode prog_1_method_10_code 41 = .ok (.ireturn, 1) := by decide +kernel
abbrev y_X5_refresh : MethodName := ⟨"VirtualRewrite$Rewriting", "refresh", "()V"⟩
theorem d_X5_refresh_0 : decode prog_7_method_6_code 0 = .ok (.aload_n 0, 1) := by decide +kernel
theorem d_X5_refresh_1 : decode prog_7_method_6_code 1 = .ok (.getfield 29, 3) := by decide +kernel
theorem d_X5_refresh_4 : decode prog_7_method_6_code 4 = .ok (.ifCond .eq 4, 3) := by decide +kernel
theorem d_X5_refresh_7 : decode prog_7_method_6_code 7 = .ok (.return_, 1) := by decide +kernel
theorem d_X5_refresh_8 : decode prog_7_method_6_code 8 = .ok (.aload_n 0, 1) := by decide +kernel
theorem d_X5_refresh_9 : decode prog_7_method_6_code 9 = .ok (.iconst 0, 1) := by decide +kernel
theorem d_X5_refresh_10 : decode prog_7_method_6_code 10 = .ok (.putfield 21, 3) := by decide +kernel
theorem d_X5_refresh_13 : decode prog_7_method_6_code 13 = .ok (.aload_n 0, 1) := by decide +kernel
theorem d_X5_refresh_14 : decode prog_7_method_6_code 14 = .ok (.iconst 0, 1) := by decide +kernel
theorem d_X5_refresh_15 : decode prog_7_method_6_code 15 = .ok (.putfield 25, 3) := by decide +kernel
theorem d_X5_refresh_18 : decode prog_7_method_6_code 18 = .ok (.aload_n 0, 1) := by decide +kernel
theorem d_X5_refresh_19 : decode prog_7_method_6_code 19 = .ok (.iconst 0, 1) := by decide +kernel
theorem d_X5_refresh_20 : decode prog_7_method_6_code 20 = .ok (.iconst 0, 1) := by decide +kernel
theorem d_X5_refresh_21 : decode prog_7_method_6_code 21 = .ok (.invokevirtual 58, 3) := by decide +kernel
theorem d_X5_refresh_24 : decode prog_7_method_6_code 24 = .ok (.aload_n 0, 1) := by decide +kernel
theorem d_X5_refresh_25 : decode prog_7_method_6_code 25 = .ok (.iconst 1, 1) := by decide +kernel
theorem d_X5_refresh_26 : decode prog_7_method_6_code 26 = .ok (.putfield 29, 3) := by decide +kernel
theorem d_X5_refresh_29 : decode prog_7_method_6_code 29 = .ok (.return_, 1) := by decide +kernel
abbrev y_X5_extend : MethodName := ⟨"VirtualRewrite$Rewriting", "extend", "(II)V"⟩
theorem d_X5_extend_0 : decode prog_7_method_7_code 0 = .ok (.iload_n 1, 1) := by decide +kernel
theorem d_X5_extend_1 : decode prog_7_method_7_code 1 = .ok (.aload_n 0, 1) := by decide +kernel
theorem d_X5_extend_2 : decode prog_7_method_7_code 2 = .ok (.getfield 36, 3) := by decide +kernel
theorem d_X5_extend_5 : decode prog_7_method_7_code 5 = .ok (.getfield 62, 3) := by decide +kernel
theorem d_X5_extend_8 : decode prog_7_method_7_code 8 = .ok (.if_icmp .lt 8, 3) := by decide +kernel
theorem d_X5_extend_11 : decode prog_7_method_7_code 11 = .ok (.aload_n 0, 1) := by decide +kernel
theorem d_X5_extend_12 : decode prog_7_method_7_code 12 = .ok (.invokevirtual 67, 3) := by decide +kernel
theorem d_X5_extend_15 : decode prog_7_method_7_code 15 = .ok (.return_, 1) := by decide +kernel
theorem d_X5_extend_16 : decode prog_7_method_7_code 16 = .ok (.iconst 0, 1) := by decide +kernel
theorem d_X5_extend_17 : decode prog_7_method_7_code 17 = .ok (.istore_n 3, 1) := by decide +kernel
theorem d_X5_extend_18 : decode prog_7_method_7_code 18 = .ok (.iload_n 3, 1) := by decide +kernel
theorem d_X5_extend_19 : decode prog_7_method_7_code 19 = .ok (.aload_n 0, 1) := by decide +kernel
theorem d_X5_extend_20 : decode prog_7_method_7_code 20 = .ok (.getfield 32, 3) := by decide +kernel
theorem d_X5_extend_23 : decode prog_7_method_7_code 23 = .ok (.getfield 70, 3) := by decide +kernel
theorem d_X5_extend_26 : decode prog_7_method_7_code 26 = .ok (.if_icmp .ge 79, 3) := by decide +kernel
theorem d_X5_extend_29 : decode prog_7_method_7_code 29 = .ok (.aload_n 0, 1) := by decide +kernel
theorem d_X5_extend_30 : decode prog_7_method_7_code 30 = .ok (.getfield 25, 3) := by decide +kernel
theorem d_X5_extend_33 : decode prog_7_method_7_code 33 = .ok (.ifCond .ne 72, 3) := by decide +kernel
theorem d_X5_extend_36 : decode prog_7_method_7_code 36 = .ok (.aload_n 0, 1) := by decide +kernel
theorem d_X5_extend_37 : decode prog_7_method_7_code 37 = .ok (.getfield 32, 3) := by decide +kernel
theorem d_X5_extend_40 : decode prog_7_method_7_code 40 = .ok (.getfield 40, 3) := by decide +kernel
theorem d_X5_extend_43 : decode prog_7_method_7_code 43 = .ok (.iload_n 3, 1) := by decide +kernel
theorem d_X5_extend_44 : decode prog_7_method_7_code 44 = .ok (.aaload, 1) := by decide +kernel
theorem d_X5_extend_45 : decode prog_7_method_7_code 45 = .ok (.getfield 71, 3) := by decide +kernel
theorem d_X5_extend_48 : decode prog_7_method_7_code 48 = .ok (.aload_n 0, 1) := by decide +kernel
theorem d_X5_extend_49 : decode prog_7_method_7_code 49 = .ok (.getfield 36, 3) := by decide +kernel
theorem d_X5_extend_52 : decode prog_7_method_7_code 52 = .ok (.getfield 76, 3) := by decide +kernel
theorem d_X5_extend_55 : decode prog_7_method_7_code 55 = .ok (.iload_n 1, 1) := by decide +kernel
theorem d_X5_extend_56 : decode prog_7_method_7_code 56 = .ok (.iaload, 1) := by decide +kernel
theorem d_X5_extend_57 : decode prog_7_method_7_code 57 = .ok (.if_icmp .ne 42, 3) := by decide +kernel
theorem d_X5_extend_60 : decode prog_7_method_7_code 60 = .ok (.aload_n 0, 1) := by decide +kernel
theorem d_X5_extend_61 : decode prog_7_method_7_code 61 = .ok (.iload_n 1, 1) := by decide +kernel
theorem d_X5_extend_62 : decode prog_7_method_7_code 62 = .ok (.aload_n 0, 1) := by decide +kernel
theorem d_X5_extend_63 : decode prog_7_method_7_code 63 = .ok (.getfield 32, 3) := by decide +kernel
theorem d_X5_extend_66 : decode prog_7_method_7_code 66 = .ok (.getfield 40, 3) := by decide +kernel
theorem d_X5_extend_69 : decode prog_7_method_7_code 69 = .ok (.iload_n 3, 1) := by decide +kernel
theorem d_X5_extend_70 : decode prog_7_method_7_code 70 = .ok (.aaload, 1) := by decide +kernel
theorem d_X5_extend_71 : decode prog_7_method_7_code 71 = .ok (.iload_n 2, 1) := by decide +kernel
theorem d_X5_extend_72 : decode prog_7_method_7_code 72 = .ok (.invokevirtual 79, 3) := by decide +kernel
theorem d_X5_extend_75 : decode prog_7_method_7_code 75 = .ok (.istore 4, 2) := by decide +kernel
theorem d_X5_extend_77 : decode prog_7_method_7_code 77 = .ok (.iload 4, 2) := by decide +kernel
theorem d_X5_extend_79 : decode prog_7_method_7_code 79 = .ok (.iconst (-1), 1) := by decide +kernel
theorem d_X5_extend_80 : decode prog_7_method_7_code 80 = .ok (.if_icmp .eq 19, 3) := by decide +kernel
theorem d_X5_extend_83 : decode prog_7_method_7_code 83 = .ok (.aload_n 0, 1) := by decide +kernel
theorem d_X5_extend_84 : decode prog_7_method_7_code 84 = .ok (.getfield 15, 3) := by decide +kernel
theorem d_X5_extend_87 : decode prog_7_method_7_code 87 = .ok (.iload_n 1, 1) := by decide +kernel
theorem d_X5_extend_88 : decode prog_7_method_7_code 88 = .ok (.iload_n 3, 1) := by decide +kernel
theorem d_X5_extend_89 : decode prog_7_method_7_code 89 = .ok (.iastore, 1) := by decide +kernel
theorem d_X5_extend_90 : decode prog_7_method_7_code 90 = .ok (.aload_n 0, 1) := by decide +kernel
theorem d_X5_extend_91 : decode prog_7_method_7_code 91 = .ok (.iload_n 1, 1) := by decide +kernel
theorem d_X5_extend_92 : decode prog_7_method_7_code 92 = .ok (.iconst 1, 1) := by decide +kernel
theorem d_X5_extend_93 : decode prog_7_method_7_code 93 = .ok (.iadd, 1) := by decide +kernel
theorem d_X5_extend_94 : decode prog_7_method_7_code 94 = .ok (.iload 4, 2) := by decide +kernel
theorem d_X5_extend_96 : decode prog_7_method_7_code 96 = .ok (.invokevirtual 58, 3) := by decide +kernel
theorem d_X5_extend_99 : decode prog_7_method_7_code 99 = .ok (.iinc 3 1, 3) := by decide +kernel
theorem d_X5_extend_102 : decode prog_7_method_7_code 102 = .ok (.goto (-84), 3) := by decide +kernel
theorem d_X5_extend_105 : decode prog_7_method_7_code 105 = .ok (.return_, 1) := by decide +kernel
abbrev y_X5_keep : MethodName := ⟨"VirtualRewrite$Rewriting", "keep", "()V"⟩
theorem d_X5_keep_0 : decode prog_7_method_8_code 0 = .ok (.aload_n 0, 1) := by decide +kernel
theorem d_X5_keep_1 : decode prog_7_method_8_code 1 = .ok (.getfield 21, 3) := by decide +kernel
theorem d_X5_keep_4 : decode prog_7_method_8_code 4 = .ok (.sipush 150, 3) := by decide +kernel
theorem d_X5_keep_7 : decode prog_7_method_8_code 7 = .ok (.if_icmp .lt 9, 3) := by decide +kernel
theorem d_X5_keep_10 : decode prog_7_method_8_code 10 = .ok (.aload_n 0, 1) := by decide +kernel
theorem d_X5_keep_11 : decode prog_7_method_8_code 11 = .ok (.iconst 1, 1) := by decide +kernel
theorem d_X5_keep_12 : decode prog_7_method_8_code 12 = .ok (.putfield 25, 3) := by decide +kernel
theorem d_X5_keep_15 : decode prog_7_method_8_code 15 = .ok (.return_, 1) := by decide +kernel
theorem d_X5_keep_16 : decode prog_7_method_8_code 16 = .ok (.aload_n 0, 1) := by decide +kernel
theorem d_X5_keep_17 : decode prog_7_method_8_code 17 = .ok (.getfield 15, 3) := by decide +kernel
theorem d_X5_keep_20 : decode prog_7_method_8_code 20 = .ok (.iconst 0, 1) := by decide +kernel
theorem d_X5_keep_21 : decode prog_7_method_8_code 21 = .ok (.aload_n 0, 1) := by decide +kernel
theorem d_X5_keep_22 : decode prog_7_method_8_code 22 = .ok (.getfield 9, 3) := by decide +kernel
theorem d_X5_keep_25 : decode prog_7_method_8_code 25 = .ok (.aload_n 0, 1) := by decide +kernel
theorem d_X5_keep_26 : decode prog_7_method_8_code 26 = .ok (.getfield 21, 3) := by decide +kernel
theorem d_X5_keep_29 : decode prog_7_method_8_code 29 = .ok (.iconst 4, 1) := by decide +kernel
theorem d_X5_keep_30 : decode prog_7_method_8_code 30 = .ok (.imul, 1) := by decide +kernel
theorem d_X5_keep_31 : decode prog_7_method_8_code 31 = .ok (.iconst 4, 1) := by decide +kernel
theorem d_X5_keep_32 : decode prog_7_method_8_code 32 = .ok (.invokestatic 83, 3) := by decide +kernel
theorem d_X5_keep_35 : decode prog_7_method_8_code 35 = .ok (.aload_n 0, 1) := by decide +kernel
theorem d_X5_keep_36 : decode prog_7_method_8_code 36 = .ok (.dup, 1) := by decide +kernel
theorem d_X5_keep_37 : decode prog_7_method_8_code 37 = .ok (.getfield 21, 3) := by decide +kernel
theorem d_X5_keep_40 : decode prog_7_method_8_code 40 = .ok (.iconst 1, 1) := by decide +kernel
theorem d_X5_keep_41 : decode prog_7_method_8_code 41 = .ok (.iadd, 1) := by decide +kernel
theorem d_X5_keep_42 : decode prog_7_method_8_code 42 = .ok (.putfield 21, 3) := by decide +kernel
theorem d_X5_keep_45 : decode prog_7_method_8_code 45 = .ok (.return_, 1) := by decide +kernel
abbrev y_X5_settle : MethodName := ⟨"VirtualRewrite$Rewriting", "settle", "(ILVirtualRewrite$Mapping;I)I"⟩
theorem d_X5_settle_0 : decode prog_7_method_9_code 0 = .ok (.iload_n 3, 1) := by decide +kernel
theorem d_X5_settle_1 : decode prog_7_method_9_code 1 = .ok (.istore 4, 2) := by decide +kernel
theorem d_X5_settle_3 : decode prog_7_method_9_code 3 = .ok (.iconst 0, 1) := by decide +kernel
theorem d_X5_settle_4 : decode prog_7_method_9_code 4 = .ok (.istore 5, 2) := by decide +kernel
theorem d_X5_settle_6 : decode prog_7_method_9_code 6 = .ok (.iload 5, 2) := by decide +kernel
theorem d_X5_settle_8 : decode prog_7_method_9_code 8 = .ok (.iconst 2, 1) := by decide +kernel
theorem d_X5_settle_9 : decode prog_7_method_9_code 9 = .ok (.if_icmp .ge 108, 3) := by decide +kernel
theorem d_X5_settle_12 : decode prog_7_method_9_code 12 = .ok (.aload_n 0, 1) := by decide +kernel
theorem d_X5_settle_13 : decode prog_7_method_9_code 13 = .ok (.getfield 36, 3) := by decide +kernel
theorem d_X5_settle_16 : decode prog_7_method_9_code 16 = .ok (.iload_n 1, 1) := by decide +kernel
theorem d_X5_settle_17 : decode prog_7_method_9_code 17 = .ok (.iload 5, 2) := by decide +kernel
theorem d_X5_settle_19 : decode prog_7_method_9_code 19 = .ok (.invokevirtual 89, 3) := by decide +kernel
theorem d_X5_settle_22 : decode prog_7_method_9_code 22 = .ok (.istore 6, 2) := by decide +kernel
theorem d_X5_settle_24 : decode prog_7_method_9_code 24 = .ok (.aload_n 2, 1) := by decide +kernel
theorem d_X5_settle_25 : decode prog_7_method_9_code 25 = .ok (.getfield 92, 3) := by decide +kernel
theorem d_X5_settle_28 : decode prog_7_method_9_code 28 = .ok (.iload 5, 2) := by decide +kernel
theorem d_X5_settle_30 : decode prog_7_method_9_code 30 = .ok (.iaload, 1) := by decide +kernel
theorem d_X5_settle_31 : decode prog_7_method_9_code 31 = .ok (.istore 7, 2) := by decide +kernel
theorem d_X5_settle_33 : decode prog_7_method_9_code 33 = .ok (.iload 6, 2) := by decide +kernel
theorem d_X5_settle_35 : decode prog_7_method_9_code 35 = .ok (.invokestatic 93, 3) := by decide +kernel
theorem d_X5_settle_38 : decode prog_7_method_9_code 38 = .ok (.ifCond .ne 16, 3) := by decide +kernel
theorem d_X5_settle_41 : decode prog_7_method_9_code 41 = .ok (.iload 6, 2) := by decide +kernel
theorem d_X5_settle_43 : decode prog_7_method_9_code 43 = .ok (.sipush 10000, 3) := by decide +kernel
theorem d_X5_settle_46 : decode prog_7_method_9_code 46 = .ok (.idiv, 1) := by decide +kernel
theorem d_X5_settle_47 : decode prog_7_method_9_code 47 = .ok (.iload 7, 2) := by decide +kernel
theorem d_X5_settle_49 : decode prog_7_method_9_code 49 = .ok (.if_icmp .eq 62, 3) := by decide +kernel
theorem d_X5_settle_52 : decode prog_7_method_9_code 52 = .ok (.iconst (-1), 1) := by decide +kernel
theorem d_X5_settle_53 : decode prog_7_method_9_code 53 = .ok (.ireturn, 1) := by decide +kernel
theorem d_X5_settle_54 : decode prog_7_method_9_code 54 = .ok (.iload 4, 2) := by decide +kernel
theorem d_X5_settle_56 : decode prog_7_method_9_code 56 = .ok (.iload 6, 2) := by decide +kernel
theorem d_X5_settle_58 : decode prog_7_method_9_code 58 = .ok (.invokestatic 97, 3) := by decide +kernel
theorem d_X5_settle_61 : decode prog_7_method_9_code 61 = .ok (.invokestatic 101, 3) := by decide +kernel
theorem d_X5_settle_64 : decode prog_7_method_9_code 64 = .ok (.ifCond .ne 30, 3) := by decide +kernel
theorem d_X5_settle_67 : decode prog_7_method_9_code 67 = .ok (.aload_n 0, 1) := by decide +kernel
theorem d_X5_settle_68 : decode prog_7_method_9_code 68 = .ok (.getfield 18, 3) := by decide +kernel
theorem d_X5_settle_71 : decode prog_7_method_9_code 71 = .ok (.iload 6, 2) := by decide +kernel
theorem d_X5_settle_73 : decode prog_7_method_9_code 73 = .ok (.invokestatic 97, 3) := by decide +kernel
theorem d_X5_settle_76 : decode prog_7_method_9_code 76 = .ok (.iload 7, 2) := by decide +kernel
theorem d_X5_settle_78 : decode prog_7_method_9_code 78 = .ok (.iastore, 1) := by decide +kernel
theorem d_X5_settle_79 : decode prog_7_method_9_code 79 = .ok (.iload 4, 2) := by decide +kernel
theorem d_X5_settle_81 : decode prog_7_method_9_code 81 = .ok (.iload 6, 2) := by decide +kernel
theorem d_X5_settle_83 : decode prog_7_method_9_code 83 = .ok (.invokestatic 97, 3) := by decide +kernel
theorem d_X5_settle_86 : decode prog_7_method_9_code 86 = .ok (.invokestatic 105, 3) := by decide +kernel
theorem d_X5_settle_89 : decode prog_7_method_9_code 89 = .ok (.istore 4, 2) := by decide +kernel
theorem d_X5_settle_91 : decode prog_7_method_9_code 91 = .ok (.goto 20, 3) := by decide +kernel
theorem d_X5_settle_94 : decode prog_7_method_9_code 94 = .ok (.aload_n 0, 1) := by decide +kernel
theorem d_X5_settle_95 : decode prog_7_method_9_code 95 = .ok (.getfield 18, 3) := by decide +kernel
theorem d_X5_settle_98 : decode prog_7_method_9_code 98 = .ok (.iload 6, 2) := by decide +kernel
theorem d_X5_settle_100 : decode prog_7_method_9_code 100 = .ok (.invokestatic 97, 3) := by decide +kernel
theorem d_X5_settle_103 : decode prog_7_method_9_code 103 = .ok (.iaload, 1) := by decide +kernel
theorem d_X5_settle_104 : decode prog_7_method_9_code 104 = .ok (.iload 7, 2) := by decide +kernel
theorem d_X5_settle_106 : decode prog_7_method_9_code 106 = .ok (.if_icmp .eq 5, 3) := by decide +kernel
theorem d_X5_settle_109 : decode prog_7_method_9_code 109 = .ok (.iconst (-1), 1) := by decide +kernel
theorem d_X5_settle_110 : decode prog_7_method_9_code 110 = .ok (.ireturn, 1) := by decide +kernel
theorem d_X5_settle_111 : decode prog_7_method_9_code 111 = .ok (.iinc 5 1, 3) := by decide +kernel
theorem d_X5_settle_114 : decode prog_7_method_9_code 114 = .ok (.goto (-108), 3) := by decide +kernel
theorem d_X5_settle_117 : decode prog_7_method_9_code 117 = .ok (.iload 4, 2) := by decide +kernel
theorem d_X5_settle_119 : decode prog_7_method_9_code 119 = .ok (.ireturn, 1) := by decide +kernel
abbrev y_X4_told : MethodName := ⟨"VirtualRewrite$Question", "told", "(II)I"⟩
theorem d_X4_told_0 : decode prog_6_method_5_code 0 = .ok (.aload_n 0, 1) := by decide +kernel
theorem d_X4_told_1 : decode prog_6_method_5_code 1 = .ok (.getfield 15, 3) := by decide +kernel
theorem d_X4_told_4 : decode prog_6_method_5_code 4 = .ok (.iload_n 1, 1) := by decide +kernel
theorem d_X4_told_5 : decode prog_6_method_5_code 5 = .ok (.iconst 2, 1) := by decide +kernel
theorem d_X4_told_6 : decode prog_6_method_5_code 6 = .ok (.imul, 1) := by decide +kernel
theorem d_X4_told_7 : decode prog_6_method_5_code 7 = .ok (.iload_n 2, 1) := by decide +kernel
theorem d_X4_told_8 : decode prog_6_method_5_code 8 = .ok (.iadd, 1) := by decide +kernel
theorem d_X4_told_9 : decode prog_6_method_5_code 9 = .ok (.iaload, 1) := by decide +kernel
theorem d_X4_told_10 : decode prog_6_method_5_code 10 = .ok (.ireturn, 1) := by decide +kernel
abbrev y_X0_isVariable : MethodName := ⟨"VirtualRewrite", "isVariable", "(I)Z"⟩
theorem d_X0_isVariable_0 : decode prog_1_method_20_code 0 = .ok (.iload_n 0, 1) := by decide +kernel
theorem d_X0_isVariable_1 : decode prog_1_method_20_code 1 = .ok (.ifCond .ge 7, 3) := by decide +kernel
theorem d_X0_isVariable_4 : decode prog_1_method_20_code 4 = .ok (.iconst 1, 1) := by decide +kernel
theorem d_X0_isVariable_5 : decode prog_1_method_20_code 5 = .ok (.goto 4, 3) := by decide +kernel
theorem d_X0_isVariable_8 : decode prog_1_method_20_code 8 = .ok (.iconst 0, 1) := by decide +kernel
theorem d_X0_isVariable_9 : decode prog_1_method_20_code 9 = .ok (.ireturn, 1) := by decide +kernel
abbrev y_X0_variableOf : MethodName := ⟨"VirtualRewrite", "variableOf", "(I)I"⟩
theorem d_X0_variableOf_0 : decode prog_1_method_21_code 0 = .ok (.iconst (-1), 1) := by decide +kernel
theorem d_X0_variableOf_1 : decode prog_1_method_21_code 1 = .ok (.iload_n 0, 1) := by decide +kernel
theorem d_X0_variableOf_2 : decode prog_1_method_21_code 2 = .ok (.isub, 1) := by decide +kernel
theorem d_X0_variableOf_3 : decode prog_1_method_21_code 3 = .ok (.ireturn, 1) := by decide +kernel
abbrev y_X0_has : MethodName := ⟨"VirtualRewrite", "has", "(II)Z"⟩
theorem d_X0_has_0 : decode prog_1_method_22_code 0 = .ok (.iload_n 0, 1) := by decide +kernel
theorem d_X0_has_1 : decode prog_1_method_22_code 1 = .ok (.iload_n 1, 1) := by decide +kernel
theorem d_X0_has_2 : decode prog_1_method_22_code 2 = .ok (.ishr, 1) := by decide +kernel
theorem d_X0_has_3 : decode prog_1_method_22_code 3 = .ok (.iconst 1, 1) := by decide +kernel
theorem d_X0_has_4 : decode prog_1_method_22_code 4 = .ok (.iand, 1) := by decide +kernel
theorem d_X0_has_5 : decode prog_1_method_22_code 5 = .ok (.ifCond .eq 7, 3) := by decide +kernel
theorem d_X0_has_8 : decode prog_1_method_22_code 8 = .ok (.iconst 1, 1) := by decide +kernel
theorem d_X0_has_9 : decode prog_1_method_22_code 9 = .ok (.goto 4, 3) := by decide +kernel
theorem d_X0_has_12 : decode prog_1_method_22_code 12 = .ok (.iconst 0, 1) := by decide +kernel
theorem d_X0_has_13 : decode prog_1_method_22_code 13 = .ok (.ireturn, 1) := by decide +kernel
abbrev y_X0_with : MethodName := ⟨"VirtualRewrite", "with", "(II)I"⟩
theorem d_X0_with_0 : decode prog_1_method_23_code 0 = .ok (.iload_n 0, 1) := by decide +kernel
theorem d_X0_with_1 : decode prog_1_method_23_code 1 = .ok (.iconst 1, 1) := by decide +kernel
theorem d_X0_with_2 : decode prog_1_method_23_code 2 = .ok (.iload_n 1, 1) := by decide +kernel
theorem d_X0_with_3 : decode prog_1_method_23_code 3 = .ok (.ishl, 1) := by decide +kernel
theorem d_X0_with_4 : decode prog_1_method_23_code 4 = .ok (.ior, 1) := by decide +kernel
theorem d_X0_with_5 : decode prog_1_method_23_code 5 = .ok (.ireturn, 1) := by decide +kernel
abbrev y_X0_union : MethodName := ⟨"VirtualRewrite", "union", "(II)I"⟩
theorem d_X0_union_0 : decode prog_1_method_11_code 0 = .ok (.aload_n 0, 1) := by decide +kernel
theorem d_X0_union_1 : decode prog_1_method_11_code 1 = .ok (.iload_n 2, 1) := by decide +kernel
theorem d_X0_union_2 : decode prog_1_method_11_code 2 = .ok (.invokevirtual 137, 3) := by decide +kernel
theorem d_X0_union_5 : decode prog_1_method_11_code 5 = .ok (.ifCond .ne 5, 3) := by decide +kernel
theorem d_X0_union_8 : decode prog_1_method_11_code 8 = .ok (.iconst (-1), 1) := by decide +kernel
theorem d_X0_union_9 : decode prog_1_method_11_code 9 = .ok (.ireturn, 1) := by decide +kernel
theorem d_X0_union_10 : decode prog_1_method_11_code 10 = .ok (.aload_n 0, 1) := by decide +kernel
theorem d_X0_union_11 : decode prog_1_method_11_code 11 = .ok (.iload_n 1, 1) := by decide +kernel
theorem d_X0_union_12 : decode prog_1_method_11_code 12 = .ok (.invokevirtual 140, 3) := by decide +kernel
theorem d_X0_union_15 : decode prog_1_method_11_code 15 = .ok (.istore_n 3, 1) := by decide +kernel
theorem d_X0_union_16 : decode prog_1_method_11_code 16 = .ok (.iload_n 3, 1) := by decide +kernel
theorem d_X0_union_17 : decode prog_1_method_11_code 17 = .ok (.ifCond .eq 5, 3) := by decide +kernel
theorem d_X0_union_20 : decode prog_1_method_11_code 20 = .ok (.iload_n 3, 1) := by decide +kernel
theorem d_X0_union_21 : decode prog_1_method_11_code 21 = .ok (.ireturn, 1) := by decide +kernel
theorem d_X0_union_22 : decode prog_1_method_11_code 22 = .ok (.iload_n 2, 1) := by decide +kernel
theorem d_X0_union_23 : decode prog_1_method_11_code 23 = .ok (.iconst 4, 1) := by decide +kernel
theorem d_X0_union_24 : decode prog_1_method_11_code 24 = .ok (.if_icmp .ge 13, 3) := by decide +kernel
theorem d_X0_union_27 : decode prog_1_method_11_code 27 = .ok (.aload_n 0, 1) := by decide +kernel
theorem d_X0_union_28 : decode prog_1_method_11_code 28 = .ok (.getfield 28, 3) := by decide +kernel
theorem d_X0_union_31 : decode prog_1_method_11_code 31 = .ok (.iload_n 1, 1) := by decide +kernel
theorem d_X0_union_32 : decode prog_1_method_11_code 32 = .ok (.iload_n 2, 1) := by decide +kernel
theorem d_X0_union_33 : decode prog_1_method_11_code 33 = .ok (.invokevirtual 144, 3) := by decide +kernel
theorem d_X0_union_36 : decode prog_1_method_11_code 36 = .ok (.ireturn, 1) := by decide +kernel
theorem d_X0_union_37 : decode prog_1_method_11_code 37 = .ok (.aload_n 0, 1) := by decide +kernel
theorem d_X0_union_38 : decode prog_1_method_11_code 38 = .ok (.getfield 37, 3) := by decide +kernel
theorem d_X0_union_41 : decode prog_1_method_11_code 41 = .ok (.iload_n 1, 1) := by decide +kernel
theorem d_X0_union_42 : decode prog_1_method_11_code 42 = .ok (.invokevirtual 148, 3) := by decide +kernel
theorem d_X0_union_45 : decode prog_1_method_11_code 45 = .ok (.iload_n 2, 1) := by decide +kernel
theorem d_X0_union_46 : decode prog_1_method_11_code 46 = .ok (.bipush 8, 2) := by decide +kernel
theorem d_X0_union_48 : decode prog_1_method_11_code 48 = .ok (.if_icmp .ge 17, 3) := by decide +kernel
theorem d_X0_union_51 : decode prog_1_method_11_code 51 = .ok (.aload_n 0, 1) := by decide +kernel
theorem d_X0_union_52 : decode prog_1_method_11_code 52 = .ok (.getfield 37, 3) := by decide +kernel
theorem d_X0_union_55 : decode prog_1_method_11_code 55 = .ok (.getfield 151, 3) := by decide +kernel
theorem d_X0_union_58 : decode prog_1_method_11_code 58 = .ok (.iload_n 2, 1) := by decide +kernel
theorem d_X0_union_59 : decode prog_1_method_11_code 59 = .ok (.iconst 4, 1) := by decide +kernel
theorem d_X0_union_60 : decode prog_1_method_11_code 60 = .ok (.isub, 1) := by decide +kernel
theorem d_X0_union_61 : decode prog_1_method_11_code 61 = .ok (.iaload, 1) := by decide +kernel
theorem d_X0_union_62 : decode prog_1_method_11_code 62 = .ok (.goto 10, 3) := by decide +kernel
theorem d_X0_union_65 : decode prog_1_method_11_code 65 = .ok (.aload_n 0, 1) := by decide +kernel
theorem d_X0_union_66 : decode prog_1_method_11_code 66 = .ok (.getfield 37, 3) := by decide +kernel
theorem d_X0_union_69 : decode prog_1_method_11_code 69 = .ok (.getfield 155, 3) := by decide +kernel
theorem d_X0_union_72 : decode prog_1_method_11_code 72 = .ok (.ireturn, 1) := by decide +kernel
abbrev y_X0_isAsked : MethodName := ⟨"VirtualRewrite", "isAsked", "(I)Z"⟩
theorem d_X0_isAsked_0 : decode prog_1_method_16_code 0 = .ok (.iload_n 1, 1) := by decide +kernel
theorem d_X0_isAsked_1 : decode prog_1_method_16_code 1 = .ok (.bipush 8, 2) := by decide +kernel
theorem d_X0_isAsked_3 : decode prog_1_method_16_code 3 = .ok (.if_icmp .ne 5, 3) := by decide +kernel
theorem d_X0_isAsked_6 : decode prog_1_method_16_code 6 = .ok (.iconst 1, 1) := by decide +kernel
theorem d_X0_isAsked_7 : decode prog_1_method_16_code 7 = .ok (.ireturn, 1) := by decide +kernel
theorem d_X0_isAsked_8 : decode prog_1_method_16_code 8 = .ok (.iload_n 1, 1) := by decide +kernel
theorem d_X0_isAsked_9 : decode prog_1_method_16_code 9 = .ok (.bipush 8, 2) := by decide +kernel
theorem d_X0_isAsked_11 : decode prog_1_method_16_code 11 = .ok (.invokestatic 57, 3) := by decide +kernel
theorem d_X0_isAsked_14 : decode prog_1_method_16_code 14 = .ok (.ifCond .eq 20, 3) := by decide +kernel
theorem d_X0_isAsked_17 : decode prog_1_method_16_code 17 = .ok (.iload_n 1, 1) := by decide +kernel
theorem d_X0_isAsked_18 : decode prog_1_method_16_code 18 = .ok (.iconst 4, 1) := by decide +kernel
theorem d_X0_isAsked_19 : decode prog_1_method_16_code 19 = .ok (.irem, 1) := by decide +kernel
theorem d_X0_isAsked_20 : decode prog_1_method_16_code 20 = .ok (.aload_n 0, 1) := by decide +kernel
theorem d_X0_isAsked_21 : decode prog_1_method_16_code 21 = .ok (.getfield 19, 3) := by decide +kernel
theorem d_X0_isAsked_24 : decode prog_1_method_16_code 24 = .ok (.getfield 116, 3) := by decide +kernel
theorem d_X0_isAsked_27 : decode prog_1_method_16_code 27 = .ok (.if_icmp .ge 7, 3) := by decide +kernel
theorem d_X0_isAsked_30 : decode prog_1_method_16_code 30 = .ok (.iconst 1, 1) := by decide +kernel
theorem d_X0_isAsked_31 : decode prog_1_method_16_code 31 = .ok (.goto 4, 3) := by decide +kernel
theorem d_X0_isAsked_34 : decode prog_1_method_16_code 34 = .ok (.iconst 0, 1) := by decide +kernel
theorem d_X0_isAsked_35 : decode prog_1_method_16_code 35 = .ok (.ireturn, 1) := by decide +kernel
abbrev y_X0_troubleWith : MethodName := ⟨"VirtualRewrite", "troubleWith", "(I)I"⟩
theorem d_X0_troubleWith_0 : decode prog_1_method_17_code 0 = .ok (.iload_n 1, 1) := by decide +kernel
theorem d_X0_troubleWith_1 : decode prog_1_method_17_code 1 = .ok (.ifCond .lt 13, 3) := by decide +kernel
theorem d_X0_troubleWith_4 : decode prog_1_method_17_code 4 = .ok (.aload_n 0, 1) := by decide +kernel
theorem d_X0_troubleWith_5 : decode prog_1_method_17_code 5 = .ok (.getfield 19, 3) := by decide +kernel
theorem d_X0_troubleWith_8 : decode prog_1_method_17_code 8 = .ok (.getfield 116, 3) := by decide +kernel
theorem d_X0_troubleWith_11 : decode prog_1_method_17_code 11 = .ok (.ifCond .ne 5, 3) := by decide +kernel
theorem d_X0_troubleWith_14 : decode prog_1_method_17_code 14 = .ok (.iconst (-1), 1) := by decide +kernel
theorem d_X0_troubleWith_15 : decode prog_1_method_17_code 15 = .ok (.ireturn, 1) := by decide +kernel
theorem d_X0_troubleWith_16 : decode prog_1_method_17_code 16 = .ok (.aload_n 0, 1) := by decide +kernel
theorem d_X0_troubleWith_17 : decode prog_1_method_17_code 17 = .ok (.getfield 28, 3) := by decide +kernel
theorem d_X0_troubleWith_20 : decode prog_1_method_17_code 20 = .ok (.invokevirtual 129, 3) := by decide +kernel
theorem d_X0_troubleWith_23 : decode prog_1_method_17_code 23 = .ok (.aload_n 0, 1) := by decide +kernel
theorem d_X0_troubleWith_24 : decode prog_1_method_17_code 24 = .ok (.getfield 28, 3) := by decide +kernel
theorem d_X0_troubleWith_27 : decode prog_1_method_17_code 27 = .ok (.getfield 132, 3) := by decide +kernel
theorem d_X0_troubleWith_30 : decode prog_1_method_17_code 30 = .ok (.ifCond .eq 6, 3) := by decide +kernel
theorem d_X0_troubleWith_33 : decode prog_1_method_17_code 33 = .ok (.bipush (-3), 2) := by decide +kernel
theorem d_X0_troubleWith_35 : decode prog_1_method_17_code 35 = .ok (.ireturn, 1) := by decide +kernel
theorem d_X0_troubleWith_36 : decode prog_1_method_17_code 36 = .ok (.iload_n 1, 1) := by decide +kernel
theorem d_X0_troubleWith_37 : decode prog_1_method_17_code 37 = .ok (.aload_n 0, 1) := by decide +kernel
theorem d_X0_troubleWith_38 : decode prog_1_method_17_code 38 = .ok (.getfield 28, 3) := by decide +kernel
theorem d_X0_troubleWith_41 : decode prog_1_method_17_code 41 = .ok (.getfield 136, 3) := by decide +kernel
theorem d_X0_troubleWith_44 : decode prog_1_method_17_code 44 = .ok (.if_icmp .ge 7, 3) := by decide +kernel
theorem d_X0_troubleWith_47 : decode prog_1_method_17_code 47 = .ok (.iconst 0, 1) := by decide +kernel
theorem d_X0_troubleWith_48 : decode prog_1_method_17_code 48 = .ok (.goto 4, 3) := by decide +kernel
theorem d_X0_troubleWith_51 : decode prog_1_method_17_code 51 = .ok (.iconst (-1), 1) := by decide +kernel
theorem d_X0_troubleWith_52 : decode prog_1_method_17_code 52 = .ok (.ireturn, 1) := by decide +kernel
abbrev y_X5_chosen : MethodName := ⟨"VirtualRewrite$Rewriting", "chosen", "(II)I"⟩
theorem d_X5_chosen_0 : decode prog_7_method_2_code 0 = .ok (.aload_n 0, 1) := by decide +kernel
theorem d_X5_chosen_1 : decode prog_7_method_2_code 1 = .ok (.getfield 9, 3) := by decide +kernel
theorem d_X5_chosen_4 : decode prog_7_method_2_code 4 = .ok (.iload_n 1, 1) := by decide +kernel
theorem d_X5_chosen_5 : decode prog_7_method_2_code 5 = .ok (.iconst 4, 1) := by decide +kernel
theorem d_X5_chosen_6 : decode prog_7_method_2_code 6 = .ok (.imul, 1) := by decide +kernel
theorem d_X5_chosen_7 : decode prog_7_method_2_code 7 = .ok (.iload_n 2, 1) := by decide +kernel
theorem d_X5_chosen_8 : decode prog_7_method_2_code 8 = .ok (.iadd, 1) := by decide +kernel
theorem d_X5_chosen_9 : decode prog_7_method_2_code 9 = .ok (.iaload, 1) := by decide +kernel
theorem d_X5_chosen_10 : decode prog_7_method_2_code 10 = .ok (.ireturn, 1) := by decide +kernel
abbrev y_X6_assign : MethodName := ⟨"VirtualRewrite$Slots", "assign", "(I)V"⟩
theorem d_X6_assign_0 : decode prog_8_method_2_code 0 = .ok (.aload_n 0, 1) := by decide +kernel
theorem d_X6_assign_1 : decode prog_8_method_2_code 1 = .ok (.iconst 0, 1) := by decide +kernel
theorem d_X6_assign_2 : decode prog_8_method_2_code 2 = .ok (.putfield 15, 3) := by decide +kernel
theorem d_X6_assign_5 : decode prog_8_method_2_code 5 = .ok (.iconst 0, 1) := by decide +kernel
theorem d_X6_assign_6 : decode prog_8_method_2_code 6 = .ok (.istore_n 2, 1) := by decide +kernel
theorem d_X6_assign_7 : decode prog_8_method_2_code 7 = .ok (.iload_n 2, 1) := by decide +kernel
theorem d_X6_assign_8 : decode prog_8_method_2_code 8 = .ok (.aload_n 0, 1) := by decide +kernel
theorem d_X6_assign_9 : decode prog_8_method_2_code 9 = .ok (.getfield 23, 3) := by decide +kernel
theorem d_X6_assign_12 : decode prog_8_method_2_code 12 = .ok (.getfield 31, 3) := by decide +kernel
theorem d_X6_assign_15 : decode prog_8_method_2_code 15 = .ok (.if_icmp .ge 56, 3) := by decide +kernel
theorem d_X6_assign_18 : decode prog_8_method_2_code 18 = .ok (.aload_n 0, 1) := by decide +kernel
theorem d_X6_assign_19 : decode prog_8_method_2_code 19 = .ok (.iload_n 1, 1) := by decide +kernel
theorem d_X6_assign_20 : decode prog_8_method_2_code 20 = .ok (.iload_n 2, 1) := by decide +kernel
theorem d_X6_assign_21 : decode prog_8_method_2_code 21 = .ok (.invokevirtual 36, 3) := by decide +kernel
theorem d_X6_assign_24 : decode prog_8_method_2_code 24 = .ok (.istore_n 3, 1) := by decide +kernel
theorem d_X6_assign_25 : decode prog_8_method_2_code 25 = .ok (.iload_n 3, 1) := by decide +kernel
theorem d_X6_assign_26 : decode prog_8_method_2_code 26 = .ok (.iload_n 2, 1) := by decide +kernel
theorem d_X6_assign_27 : decode prog_8_method_2_code 27 = .ok (.if_icmp .ge 18, 3) := by decide +kernel
theorem d_X6_assign_30 : decode prog_8_method_2_code 30 = .ok (.aload_n 0, 1) := by decide +kernel
theorem d_X6_assign_31 : decode prog_8_method_2_code 31 = .ok (.getfield 9, 3) := by decide +kernel
theorem d_X6_assign_34 : decode prog_8_method_2_code 34 = .ok (.iload_n 2, 1) := by decide +kernel
theorem d_X6_assign_35 : decode prog_8_method_2_code 35 = .ok (.aload_n 0, 1) := by decide +kernel
theorem d_X6_assign_36 : decode prog_8_method_2_code 36 = .ok (.getfield 9, 3) := by decide +kernel
theorem d_X6_assign_39 : decode prog_8_method_2_code 39 = .ok (.iload_n 3, 1) := by decide +kernel
theorem d_X6_assign_40 : decode prog_8_method_2_code 40 = .ok (.iaload, 1) := by decide +kernel
theorem d_X6_assign_41 : decode prog_8_method_2_code 41 = .ok (.iastore, 1) := by decide +kernel
theorem d_X6_assign_42 : decode prog_8_method_2_code 42 = .ok (.goto 23, 3) := by decide +kernel
theorem d_X6_assign_45 : decode prog_8_method_2_code 45 = .ok (.aload_n 0, 1) := by decide +kernel
theorem d_X6_assign_46 : decode prog_8_method_2_code 46 = .ok (.getfield 9, 3) := by decide +kernel
theorem d_X6_assign_49 : decode prog_8_method_2_code 49 = .ok (.iload_n 2, 1) := by decide +kernel
theorem d_X6_assign_50 : decode prog_8_method_2_code 50 = .ok (.aload_n 0, 1) := by decide +kernel
theorem d_X6_assign_51 : decode prog_8_method_2_code 51 = .ok (.getfield 15, 3) := by decide +kernel
theorem d_X6_assign_54 : decode prog_8_method_2_code 54 = .ok (.iastore, 1) := by decide +kernel
theorem d_X6_assign_55 : decode prog_8_method_2_code 55 = .ok (.aload_n 0, 1) := by decide +kernel
theorem d_X6_assign_56 : decode prog_8_method_2_code 56 = .ok (.dup, 1) := by decide +kernel
theorem d_X6_assign_57 : decode prog_8_method_2_code 57 = .ok (.getfield 15, 3) := by decide +kernel
theorem d_X6_assign_60 : decode prog_8_method_2_code 60 = .ok (.iconst 1, 1) := by decide +kernel
theorem d_X6_assign_61 : decode prog_8_method_2_code 61 = .ok (.iadd, 1) := by decide +kernel
theorem d_X6_assign_62 : decode prog_8_method_2_code 62 = .ok (.putfield 15, 3) := by decide +kernel
theorem d_X6_assign_65 : decode prog_8_method_2_code 65 = .ok (.iinc 2 1, 3) := by decide +kernel
theorem d_X6_assign_68 : decode prog_8_method_2_code 68 = .ok (.goto (-61), 3) := by decide +kernel
theorem d_X6_assign_71 : decode prog_8_method_2_code 71 = .ok (.return_, 1) := by decide +kernel
abbrev y_X6_leastOfOneRow : MethodName := ⟨"VirtualRewrite$Slots", "leastOfOneRow", "(II)I"⟩
theorem d_X6_leastOfOneRow_0 : decode prog_8_method_3_code 0 = .ok (.iconst 0, 1) := by decide +kernel
theorem d_X6_leastOfOneRow_1 : decode prog_8_method_3_code 1 = .ok (.istore_n 3, 1) := by decide +kernel
theorem d_X6_leastOfOneRow_2 : decode prog_8_method_3_code 2 = .ok (.iload_n 3, 1) := by decide +kernel
theorem d_X6_leastOfOneRow_3 : decode prog_8_method_3_code 3 = .ok (.iload_n 2, 1) := by decide +kernel
theorem d_X6_leastOfOneRow_4 : decode prog_8_method_3_code 4 = .ok (.if_icmp .ge 21, 3) := by decide +kernel
theorem d_X6_leastOfOneRow_7 : decode prog_8_method_3_code 7 = .ok (.aload_n 0, 1) := by decide +kernel
theorem d_X6_leastOfOneRow_8 : decode prog_8_method_3_code 8 = .ok (.iload_n 1, 1) := by decide +kernel
theorem d_X6_leastOfOneRow_9 : decode prog_8_method_3_code 9 = .ok (.iload_n 3, 1) := by decide +kernel
theorem d_X6_leastOfOneRow_10 : decode prog_8_method_3_code 10 = .ok (.iload_n 2, 1) := by decide +kernel
theorem d_X6_leastOfOneRow_11 : decode prog_8_method_3_code 11 = .ok (.invokevirtual 40, 3) := by decide +kernel
theorem d_X6_leastOfOneRow_14 : decode prog_8_method_3_code 14 = .ok (.ifCond .eq 5, 3) := by decide +kernel
theorem d_X6_leastOfOneRow_17 : decode prog_8_method_3_code 17 = .ok (.iload_n 3, 1) := by decide +kernel
theorem d_X6_leastOfOneRow_18 : decode prog_8_method_3_code 18 = .ok (.ireturn, 1) := by decide +kernel
theorem d_X6_leastOfOneRow_19 : decode prog_8_method_3_code 19 = .ok (.iinc 3 1, 3) := by decide +kernel
theorem d_X6_leastOfOneRow_22 : decode prog_8_method_3_code 22 = .ok (.goto (-20), 3) := by decide +kernel
theorem d_X6_leastOfOneRow_25 : decode prog_8_method_3_code 25 = .ok (.iload_n 2, 1) := by decide +kernel
theorem d_X6_leastOfOneRow_26 : decode prog_8_method_3_code 26 = .ok (.ireturn, 1) := by decide +kernel
abbrev y_X6_areOfOneRow : MethodName := ⟨"VirtualRewrite$Slots", "areOfOneRow", "(III)Z"⟩
theorem d_X6_areOfOneRow_0 : decode prog_8_method_4_code 0 = .ok (.aload_n 0, 1) := by decide +kernel
theorem d_X6_areOfOneRow_1 : decode prog_8_method_4_code 1 = .ok (.getfield 27, 3) := by decide +kernel
theorem d_X6_areOfOneRow_4 : decode prog_8_method_4_code 4 = .ok (.iload_n 1, 1) := by decide +kernel
theorem d_X6_areOfOneRow_5 : decode prog_8_method_4_code 5 = .ok (.iload_n 2, 1) := by decide +kernel
theorem d_X6_areOfOneRow_6 : decode prog_8_method_4_code 6 = .ok (.invokevirtual 44, 3) := by decide +kernel
theorem d_X6_areOfOneRow_9 : decode prog_8_method_4_code 9 = .ok (.astore 4, 2) := by decide +kernel
theorem d_X6_areOfOneRow_11 : decode prog_8_method_4_code 11 = .ok (.aload_n 0, 1) := by decide +kernel
theorem d_X6_areOfOneRow_12 : decode prog_8_method_4_code 12 = .ok (.getfield 27, 3) := by decide +kernel
theorem d_X6_areOfOneRow_15 : decode prog_8_method_4_code 15 = .ok (.iload_n 1, 1) := by decide +kernel
theorem d_X6_areOfOneRow_16 : decode prog_8_method_4_code 16 = .ok (.iload_n 3, 1) := by decide +kernel
theorem d_X6_areOfOneRow_17 : decode prog_8_method_4_code 17 = .ok (.invokevirtual 44, 3) := by decide +kernel
theorem d_X6_areOfOneRow_20 : decode prog_8_method_4_code 20 = .ok (.astore 5, 2) := by decide +kernel
theorem d_X6_areOfOneRow_22 : decode prog_8_method_4_code 22 = .ok (.aload 4, 2) := by decide +kernel
theorem d_X6_areOfOneRow_24 : decode prog_8_method_4_code 24 = .ok (.getfield 50, 3) := by decide +kernel
theorem d_X6_areOfOneRow_27 : decode prog_8_method_4_code 27 = .ok (.aload 5, 2) := by decide +kernel
theorem d_X6_areOfOneRow_29 : decode prog_8_method_4_code 29 = .ok (.getfield 50, 3) := by decide +kernel
theorem d_X6_areOfOneRow_32 : decode prog_8_method_4_code 32 = .ok (.if_icmp .eq 5, 3) := by decide +kernel
theorem d_X6_areOfOneRow_35 : decode prog_8_method_4_code 35 = .ok (.iconst 0, 1) := by decide +kernel
theorem d_X6_areOfOneRow_36 : decode prog_8_method_4_code 36 = .ok (.ireturn, 1) := by decide +kernel
theorem d_X6_areOfOneRow_37 : decode prog_8_method_4_code 37 = .ok (.aload_n 0, 1) := by decide +kernel
theorem d_X6_areOfOneRow_38 : decode prog_8_method_4_code 38 = .ok (.getfield 19, 3) := by decide +kernel
theorem d_X6_areOfOneRow_41 : decode prog_8_method_4_code 41 = .ok (.aload 4, 2) := by decide +kernel
theorem d_X6_areOfOneRow_43 : decode prog_8_method_4_code 43 = .ok (.invokevirtual 55, 3) := by decide +kernel
theorem d_X6_areOfOneRow_46 : decode prog_8_method_4_code 46 = .ok (.getfield 61, 3) := by decide +kernel
theorem d_X6_areOfOneRow_49 : decode prog_8_method_4_code 49 = .ok (.astore 6, 2) := by decide +kernel
theorem d_X6_areOfOneRow_51 : decode prog_8_method_4_code 51 = .ok (.iconst 0, 1) := by decide +kernel
theorem d_X6_areOfOneRow_52 : decode prog_8_method_4_code 52 = .ok (.istore 7, 2) := by decide +kernel
theorem d_X6_areOfOneRow_54 : decode prog_8_method_4_code 54 = .ok (.iload 7, 2) := by decide +kernel
theorem d_X6_areOfOneRow_56 : decode prog_8_method_4_code 56 = .ok (.iconst 2, 1) := by decide +kernel
theorem d_X6_areOfOneRow_57 : decode prog_8_method_4_code 57 = .ok (.if_icmp .ge 94, 3) := by decide +kernel
theorem d_X6_areOfOneRow_60 : decode prog_8_method_4_code 60 = .ok (.iconst 0, 1) := by decide +kernel
theorem d_X6_areOfOneRow_61 : decode prog_8_method_4_code 61 = .ok (.istore 8, 2) := by decide +kernel
theorem d_X6_areOfOneRow_63 : decode prog_8_method_4_code 63 = .ok (.iload 8, 2) := by decide +kernel
theorem d_X6_areOfOneRow_65 : decode prog_8_method_4_code 65 = .ok (.iconst 2, 1) := by decide +kernel
theorem d_X6_areOfOneRow_66 : decode prog_8_method_4_code 66 = .ok (.if_icmp .ge 79, 3) := by decide +kernel
theorem d_X6_areOfOneRow_69 : decode prog_8_method_4_code 69 = .ok (.aload 4, 2) := by decide +kernel
theorem d_X6_areOfOneRow_71 : decode prog_8_method_4_code 71 = .ok (.getfield 67, 3) := by decide +kernel
theorem d_X6_areOfOneRow_74 : decode prog_8_method_4_code 74 = .ok (.iload 7, 2) := by decide +kernel
theorem d_X6_areOfOneRow_76 : decode prog_8_method_4_code 76 = .ok (.iaload, 1) := by decide +kernel
theorem d_X6_areOfOneRow_77 : decode prog_8_method_4_code 77 = .ok (.aload 5, 2) := by decide +kernel
theorem d_X6_areOfOneRow_79 : decode prog_8_method_4_code 79 = .ok (.getfield 67, 3) := by decide +kernel
theorem d_X6_areOfOneRow_82 : decode prog_8_method_4_code 82 = .ok (.iload 8, 2) := by decide +kernel
theorem d_X6_areOfOneRow_84 : decode prog_8_method_4_code 84 = .ok (.iaload, 1) := by decide +kernel
theorem d_X6_areOfOneRow_85 : decode prog_8_method_4_code 85 = .ok (.if_icmp .ne 21, 3) := by decide +kernel
theorem d_X6_areOfOneRow_88 : decode prog_8_method_4_code 88 = .ok (.aload 6, 2) := by decide +kernel
theorem d_X6_areOfOneRow_90 : decode prog_8_method_4_code 90 = .ok (.aload 4, 2) := by decide +kernel
theorem d_X6_areOfOneRow_92 : decode prog_8_method_4_code 92 = .ok (.getfield 67, 3) := by decide +kernel
theorem d_X6_areOfOneRow_95 : decode prog_8_method_4_code 95 = .ok (.iload 7, 2) := by decide +kernel
theorem d_X6_areOfOneRow_97 : decode prog_8_method_4_code 97 = .ok (.iaload, 1) := by decide +kernel
theorem d_X6_areOfOneRow_98 : decode prog_8_method_4_code 98 = .ok (.baload, 1) := by decide +kernel
theorem d_X6_areOfOneRow_99 : decode prog_8_method_4_code 99 = .ok (.ifCond .eq 7, 3) := by decide +kernel
theorem d_X6_areOfOneRow_102 : decode prog_8_method_4_code 102 = .ok (.iconst 1, 1) := by decide +kernel
theorem d_X6_areOfOneRow_103 : decode prog_8_method_4_code 103 = .ok (.goto 4, 3) := by decide +kernel
theorem d_X6_areOfOneRow_106 : decode prog_8_method_4_code 106 = .ok (.iconst 0, 1) := by decide +kernel
theorem d_X6_areOfOneRow_107 : decode prog_8_method_4_code 107 = .ok (.istore 9, 2) := by decide +kernel
theorem d_X6_areOfOneRow_109 : decode prog_8_method_4_code 109 = .ok (.iload 9, 2) := by decide +kernel
theorem d_X6_areOfOneRow_111 : decode prog_8_method_4_code 111 = .ok (.ifCond .eq 28, 3) := by decide +kernel
theorem d_X6_areOfOneRow_114 : decode prog_8_method_4_code 114 = .ok (.aload_n 0, 1) := by decide +kernel
theorem d_X6_areOfOneRow_115 : decode prog_8_method_4_code 115 = .ok (.getfield 23, 3) := by decide +kernel
theorem d_X6_areOfOneRow_118 : decode prog_8_method_4_code 118 = .ok (.iload_n 2, 1) := by decide +kernel
theorem d_X6_areOfOneRow_119 : decode prog_8_method_4_code 119 = .ok (.iload 7, 2) := by decide +kernel
theorem d_X6_areOfOneRow_121 : decode prog_8_method_4_code 121 = .ok (.invokevirtual 70, 3) := by decide +kernel
theorem d_X6_areOfOneRow_124 : decode prog_8_method_4_code 124 = .ok (.aload_n 0, 1) := by decide +kernel
theorem d_X6_areOfOneRow_125 : decode prog_8_method_4_code 125 = .ok (.getfield 23, 3) := by decide +kernel
theorem d_X6_areOfOneRow_128 : decode prog_8_method_4_code 128 = .ok (.iload_n 3, 1) := by decide +kernel
theorem d_X6_areOfOneRow_129 : decode prog_8_method_4_code 129 = .ok (.iload 8, 2) := by decide +kernel
theorem d_X6_areOfOneRow_131 : decode prog_8_method_4_code 131 = .ok (.invokevirtual 70, 3) := by decide +kernel
theorem d_X6_areOfOneRow_134 : decode prog_8_method_4_code 134 = .ok (.if_icmp .ne 5, 3) := by decide +kernel
theorem d_X6_areOfOneRow_137 : decode prog_8_method_4_code 137 = .ok (.iconst 1, 1) := by decide +kernel
theorem d_X6_areOfOneRow_138 : decode prog_8_method_4_code 138 = .ok (.ireturn, 1) := by decide +kernel
theorem d_X6_areOfOneRow_139 : decode prog_8_method_4_code 139 = .ok (.iinc 8 1, 3) := by decide +kernel
theorem d_X6_areOfOneRow_142 : decode prog_8_method_4_code 142 = .ok (.goto (-79), 3) := by decide +kernel
theorem d_X6_areOfOneRow_145 : decode prog_8_method_4_code 145 = .ok (.iinc 7 1, 3) := by decide +kernel
theorem d_X6_areOfOneRow_148 : decode prog_8_method_4_code 148 = .ok (.goto (-94), 3) := by decide +kernel
theorem d_X6_areOfOneRow_151 : decode prog_8_method_4_code 151 = .ok (.iconst 0, 1) := by decide +kernel
theorem d_X6_areOfOneRow_152 : decode prog_8_method_4_code 152 = .ok (.ireturn, 1) := by decide +kernel
end
section
abbrev y_X5_mappingOf : MethodName := ⟨"VirtualRewrite$Rewriting", "mappingOf", "(II)LVirtualRewrite$Mapping;"⟩
theorem d_X5_mappingOf_0 : decode prog_7_method_3_code 0 = .ok (.aload_n 0, 1) := by decide +kernel
theorem d_X5_mappingOf_1 : decode prog_7_method_3_code 1 = .ok (.getfield 32, 3) := by decide +kernel
theorem d_X5_mappingOf_4 : decode prog_7_method_3_code 4 = .ok (.getfield 40, 3) := by decide +kernel
theorem d_X5_mappingOf_7 : decode prog_7_method_3_code 7 = .ok (.aload_n 0, 1) := by decide +kernel
theorem d_X5_mappingOf_8 : decode prog_7_method_3_code 8 = .ok (.iload_n 1, 1) := by decide +kernel
theorem d_X5_mappingOf_9 : decode prog_7_method_3_code 9 = .ok (.iload_n 2, 1) := by decide +kernel
theorem d_X5_mappingOf_10 : decode prog_7_method_3_code 10 = .ok (.invokevirtual 46, 3) := by decide +kernel
theorem d_X5_mappingOf_13 : decode prog_7_method_3_code 13 = .ok (.aaload, 1) := by decide +kernel
theorem d_X5_mappingOf_14 : decode prog_7_method_3_code 14 = .ok (.areturn, 1) := by decide +kernel
abbrev y_X0_estimate : MethodName := ⟨"VirtualRewrite", "estimate", "(I)I"⟩
theorem d_X0_estimate_0 : decode prog_1_method_12_code 0 = .ok (.aload_n 0, 1) := by decide +kernel
theorem d_X0_estimate_1 : decode prog_1_method_12_code 1 = .ok (.iload_n 1, 1) := by decide +kernel
theorem d_X0_estimate_2 : decode prog_1_method_12_code 2 = .ok (.invokevirtual 140, 3) := by decide +kernel
theorem d_X0_estimate_5 : decode prog_1_method_12_code 5 = .ok (.istore_n 2, 1) := by decide +kernel
theorem d_X0_estimate_6 : decode prog_1_method_12_code 6 = .ok (.iload_n 2, 1) := by decide +kernel
theorem d_X0_estimate_7 : decode prog_1_method_12_code 7 = .ok (.ifCond .eq 5, 3) := by decide +kernel
theorem d_X0_estimate_10 : decode prog_1_method_12_code 10 = .ok (.iload_n 2, 1) := by decide +kernel
theorem d_X0_estimate_11 : decode prog_1_method_12_code 11 = .ok (.ireturn, 1) := by decide +kernel
theorem d_X0_estimate_12 : decode prog_1_method_12_code 12 = .ok (.aload_n 0, 1) := by decide +kernel
theorem d_X0_estimate_13 : decode prog_1_method_12_code 13 = .ok (.getfield 37, 3) := by decide +kernel
theorem d_X0_estimate_16 : decode prog_1_method_12_code 16 = .ok (.iload_n 1, 1) := by decide +kernel
theorem d_X0_estimate_17 : decode prog_1_method_12_code 17 = .ok (.invokevirtual 148, 3) := by decide +kernel
theorem d_X0_estimate_20 : decode prog_1_method_12_code 20 = .ok (.aload_n 0, 1) := by decide +kernel
theorem d_X0_estimate_21 : decode prog_1_method_12_code 21 = .ok (.getfield 37, 3) := by decide +kernel
theorem d_X0_estimate_24 : decode prog_1_method_12_code 24 = .ok (.iload_n 1, 1) := by decide +kernel
theorem d_X0_estimate_25 : decode prog_1_method_12_code 25 = .ok (.invokevirtual 158, 3) := by decide +kernel
theorem d_X0_estimate_28 : decode prog_1_method_12_code 28 = .ok (.ireturn, 1) := by decide +kernel
abbrev y_X6_productOfRows : MethodName := ⟨"VirtualRewrite$Slots", "productOfRows", "(I)I"⟩
theorem d_X6_productOfRows_0 : decode prog_8_method_5_code 0 = .ok (.iconst 1, 1) := by decide +kernel
theorem d_X6_productOfRows_1 : decode prog_8_method_5_code 1 = .ok (.istore_n 2, 1) := by decide +kernel
theorem d_X6_productOfRows_2 : decode prog_8_method_5_code 2 = .ok (.iconst 0, 1) := by decide +kernel
theorem d_X6_productOfRows_3 : decode prog_8_method_5_code 3 = .ok (.istore_n 3, 1) := by decide +kernel
theorem d_X6_productOfRows_4 : decode prog_8_method_5_code 4 = .ok (.iconst 0, 1) := by decide +kernel
theorem d_X6_productOfRows_5 : decode prog_8_method_5_code 5 = .ok (.istore 4, 2) := by decide +kernel
theorem d_X6_productOfRows_7 : decode prog_8_method_5_code 7 = .ok (.iload 4, 2) := by decide +kernel
theorem d_X6_productOfRows_9 : decode prog_8_method_5_code 9 = .ok (.aload_n 0, 1) := by decide +kernel
theorem d_X6_productOfRows_10 : decode prog_8_method_5_code 10 = .ok (.getfield 23, 3) := by decide +kernel
theorem d_X6_productOfRows_13 : decode prog_8_method_5_code 13 = .ok (.getfield 31, 3) := by decide +kernel
theorem d_X6_productOfRows_16 : decode prog_8_method_5_code 16 = .ok (.if_icmp .ge 39, 3) := by decide +kernel
theorem d_X6_productOfRows_19 : decode prog_8_method_5_code 19 = .ok (.aload_n 0, 1) := by decide +kernel
theorem d_X6_productOfRows_20 : decode prog_8_method_5_code 20 = .ok (.getfield 9, 3) := by decide +kernel
theorem d_X6_productOfRows_23 : decode prog_8_method_5_code 23 = .ok (.iload 4, 2) := by decide +kernel
theorem d_X6_productOfRows_25 : decode prog_8_method_5_code 25 = .ok (.iaload, 1) := by decide +kernel
theorem d_X6_productOfRows_26 : decode prog_8_method_5_code 26 = .ok (.iload_n 3, 1) := by decide +kernel
theorem d_X6_productOfRows_27 : decode prog_8_method_5_code 27 = .ok (.if_icmp .ne 22, 3) := by decide +kernel
theorem d_X6_productOfRows_30 : decode prog_8_method_5_code 30 = .ok (.iload_n 2, 1) := by decide +kernel
theorem d_X6_productOfRows_31 : decode prog_8_method_5_code 31 = .ok (.aload_n 0, 1) := by decide +kernel
theorem d_X6_productOfRows_32 : decode prog_8_method_5_code 32 = .ok (.getfield 27, 3) := by decide +kernel
theorem d_X6_productOfRows_35 : decode prog_8_method_5_code 35 = .ok (.iload_n 1, 1) := by decide +kernel
theorem d_X6_productOfRows_36 : decode prog_8_method_5_code 36 = .ok (.iload 4, 2) := by decide +kernel
theorem d_X6_productOfRows_38 : decode prog_8_method_5_code 38 = .ok (.invokevirtual 73, 3) := by decide +kernel
theorem d_X6_productOfRows_41 : decode prog_8_method_5_code 41 = .ok (.getfield 76, 3) := by decide +kernel
theorem d_X6_productOfRows_44 : decode prog_8_method_5_code 44 = .ok (.imul, 1) := by decide +kernel
theorem d_X6_productOfRows_45 : decode prog_8_method_5_code 45 = .ok (.istore_n 2, 1) := by decide +kernel
theorem d_X6_productOfRows_46 : decode prog_8_method_5_code 46 = .ok (.iinc 3 1, 3) := by decide +kernel
theorem d_X6_productOfRows_49 : decode prog_8_method_5_code 49 = .ok (.iinc 4 1, 3) := by decide +kernel
theorem d_X6_productOfRows_52 : decode prog_8_method_5_code 52 = .ok (.goto (-45), 3) := by decide +kernel
theorem d_X6_productOfRows_55 : decode prog_8_method_5_code 55 = .ok (.iload_n 2, 1) := by decide +kernel
theorem d_X6_productOfRows_56 : decode prog_8_method_5_code 56 = .ok (.ireturn, 1) := by decide +kernel
abbrev y_X5_tableOf : MethodName := ⟨"VirtualRewrite$Rewriting", "tableOf", "(II)LVirtualRewrite$Table;"⟩
theorem d_X5_tableOf_0 : decode prog_7_method_4_code 0 = .ok (.aload_n 0, 1) := by decide +kernel
theorem d_X5_tableOf_1 : decode prog_7_method_4_code 1 = .ok (.getfield 32, 3) := by decide +kernel
theorem d_X5_tableOf_4 : decode prog_7_method_4_code 4 = .ok (.aload_n 0, 1) := by decide +kernel
theorem d_X5_tableOf_5 : decode prog_7_method_4_code 5 = .ok (.iload_n 1, 1) := by decide +kernel
theorem d_X5_tableOf_6 : decode prog_7_method_4_code 6 = .ok (.iload_n 2, 1) := by decide +kernel
theorem d_X5_tableOf_7 : decode prog_7_method_4_code 7 = .ok (.invokevirtual 50, 3) := by decide +kernel
theorem d_X5_tableOf_10 : decode prog_7_method_4_code 10 = .ok (.invokevirtual 54, 3) := by decide +kernel
theorem d_X5_tableOf_13 : decode prog_7_method_4_code 13 = .ok (.areturn, 1) := by decide +kernel
abbrev y_X0_run : MethodName := ⟨"VirtualRewrite", "run", "()I"⟩
theorem d_X0_run_0 : decode prog_1_method_13_code 0 = .ok (.aload_n 0, 1) := by decide +kernel
theorem d_X0_run_1 : decode prog_1_method_13_code 1 = .ok (.getfield 44, 3) := by decide +kernel
theorem d_X0_run_4 : decode prog_1_method_13_code 4 = .ok (.aload_n 0, 1) := by decide +kernel
theorem d_X0_run_5 : decode prog_1_method_13_code 5 = .ok (.getfield 19, 3) := by decide +kernel
theorem d_X0_run_8 : decode prog_1_method_13_code 8 = .ok (.invokevirtual 161, 3) := by decide +kernel
theorem d_X0_run_11 : decode prog_1_method_13_code 11 = .ok (.invokevirtual 164, 3) := by decide +kernel
theorem d_X0_run_14 : decode prog_1_method_13_code 14 = .ok (.aload_n 0, 1) := by decide +kernel
theorem d_X0_run_15 : decode prog_1_method_13_code 15 = .ok (.getfield 19, 3) := by decide +kernel
theorem d_X0_run_18 : decode prog_1_method_13_code 18 = .ok (.getfield 116, 3) := by decide +kernel
theorem d_X0_run_21 : decode prog_1_method_13_code 21 = .ok (.ifCond .ne 5, 3) := by decide +kernel
theorem d_X0_run_24 : decode prog_1_method_13_code 24 = .ok (.iconst (-1), 1) := by decide +kernel
theorem d_X0_run_25 : decode prog_1_method_13_code 25 = .ok (.ireturn, 1) := by decide +kernel
theorem d_X0_run_26 : decode prog_1_method_13_code 26 = .ok (.aload_n 0, 1) := by decide +kernel
theorem d_X0_run_27 : decode prog_1_method_13_code 27 = .ok (.getfield 28, 3) := by decide +kernel
theorem d_X0_run_30 : decode prog_1_method_13_code 30 = .ok (.invokevirtual 129, 3) := by decide +kernel
theorem d_X0_run_33 : decode prog_1_method_13_code 33 = .ok (.aload_n 0, 1) := by decide +kernel
theorem d_X0_run_34 : decode prog_1_method_13_code 34 = .ok (.getfield 28, 3) := by decide +kernel
theorem d_X0_run_37 : decode prog_1_method_13_code 37 = .ok (.getfield 132, 3) := by decide +kernel
theorem d_X0_run_40 : decode prog_1_method_13_code 40 = .ok (.ifCond .eq 6, 3) := by decide +kernel
theorem d_X0_run_43 : decode prog_1_method_13_code 43 = .ok (.bipush (-3), 2) := by decide +kernel
theorem d_X0_run_45 : decode prog_1_method_13_code 45 = .ok (.ireturn, 1) := by decide +kernel
theorem d_X0_run_46 : decode prog_1_method_13_code 46 = .ok (.iconst 0, 1) := by decide +kernel
theorem d_X0_run_47 : decode prog_1_method_13_code 47 = .ok (.istore_n 1, 1) := by decide +kernel
theorem d_X0_run_48 : decode prog_1_method_13_code 48 = .ok (.iload_n 1, 1) := by decide +kernel
theorem d_X0_run_49 : decode prog_1_method_13_code 49 = .ok (.aload_n 0, 1) := by decide +kernel
theorem d_X0_run_50 : decode prog_1_method_13_code 50 = .ok (.getfield 28, 3) := by decide +kernel
theorem d_X0_run_53 : decode prog_1_method_13_code 53 = .ok (.getfield 136, 3) := by decide +kernel
theorem d_X0_run_56 : decode prog_1_method_13_code 56 = .ok (.if_icmp .ge 27, 3) := by decide +kernel
theorem d_X0_run_59 : decode prog_1_method_13_code 59 = .ok (.aload_n 0, 1) := by decide +kernel
theorem d_X0_run_60 : decode prog_1_method_13_code 60 = .ok (.getfield 44, 3) := by decide +kernel
theorem d_X0_run_63 : decode prog_1_method_13_code 63 = .ok (.getfield 167, 3) := by decide +kernel
theorem d_X0_run_66 : decode prog_1_method_13_code 66 = .ok (.ifCond .ne 17, 3) := by decide +kernel
theorem d_X0_run_69 : decode prog_1_method_13_code 69 = .ok (.aload_n 0, 1) := by decide +kernel
theorem d_X0_run_70 : decode prog_1_method_13_code 70 = .ok (.getfield 53, 3) := by decide +kernel
theorem d_X0_run_73 : decode prog_1_method_13_code 73 = .ok (.iload_n 1, 1) := by decide +kernel
theorem d_X0_run_74 : decode prog_1_method_13_code 74 = .ok (.invokevirtual 168, 3) := by decide +kernel
theorem d_X0_run_77 : decode prog_1_method_13_code 77 = .ok (.iinc 1 1, 3) := by decide +kernel
theorem d_X0_run_80 : decode prog_1_method_13_code 80 = .ok (.goto (-32), 3) := by decide +kernel
theorem d_X0_run_83 : decode prog_1_method_13_code 83 = .ok (.aload_n 0, 1) := by decide +kernel
theorem d_X0_run_84 : decode prog_1_method_13_code 84 = .ok (.getfield 44, 3) := by decide +kernel
theorem d_X0_run_87 : decode prog_1_method_13_code 87 = .ok (.getfield 167, 3) := by decide +kernel
theorem d_X0_run_90 : decode prog_1_method_13_code 90 = .ok (.ifCond .eq 14, 3) := by decide +kernel
theorem d_X0_run_93 : decode prog_1_method_13_code 93 = .ok (.aload_n 0, 1) := by decide +kernel
theorem d_X0_run_94 : decode prog_1_method_13_code 94 = .ok (.getfield 44, 3) := by decide +kernel
theorem d_X0_run_97 : decode prog_1_method_13_code 97 = .ok (.iconst 0, 1) := by decide +kernel
theorem d_X0_run_98 : decode prog_1_method_13_code 98 = .ok (.putfield 171, 3) := by decide +kernel
theorem d_X0_run_101 : decode prog_1_method_13_code 101 = .ok (.bipush (-3), 2) := by decide +kernel
theorem d_X0_run_103 : decode prog_1_method_13_code 103 = .ok (.ireturn, 1) := by decide +kernel
theorem d_X0_run_104 : decode prog_1_method_13_code 104 = .ok (.aload_n 0, 1) := by decide +kernel
theorem d_X0_run_105 : decode prog_1_method_13_code 105 = .ok (.getfield 44, 3) := by decide +kernel
theorem d_X0_run_108 : decode prog_1_method_13_code 108 = .ok (.getfield 171, 3) := by decide +kernel
theorem d_X0_run_111 : decode prog_1_method_13_code 111 = .ok (.ireturn, 1) := by decide +kernel
abbrev y_X4_variables : MethodName := ⟨"VirtualRewrite$Question", "variables", "()I"⟩
theorem d_X4_variables_0 : decode prog_6_method_7_code 0 = .ok (.iconst 0, 1) := by decide +kernel
theorem d_X4_variables_1 : decode prog_6_method_7_code 1 = .ok (.istore_n 1, 1) := by decide +kernel
theorem d_X4_variables_2 : decode prog_6_method_7_code 2 = .ok (.iconst 0, 1) := by decide +kernel
theorem d_X4_variables_3 : decode prog_6_method_7_code 3 = .ok (.istore_n 2, 1) := by decide +kernel
theorem d_X4_variables_4 : decode prog_6_method_7_code 4 = .ok (.iload_n 2, 1) := by decide +kernel
theorem d_X4_variables_5 : decode prog_6_method_7_code 5 = .ok (.aload_n 0, 1) := by decide +kernel
theorem d_X4_variables_6 : decode prog_6_method_7_code 6 = .ok (.getfield 24, 3) := by decide +kernel
theorem d_X4_variables_9 : decode prog_6_method_7_code 9 = .ok (.iconst 2, 1) := by decide +kernel
theorem d_X4_variables_10 : decode prog_6_method_7_code 10 = .ok (.imul, 1) := by decide +kernel
theorem d_X4_variables_11 : decode prog_6_method_7_code 11 = .ok (.if_icmp .ge 35, 3) := by decide +kernel
theorem d_X4_variables_14 : decode prog_6_method_7_code 14 = .ok (.aload_n 0, 1) := by decide +kernel
theorem d_X4_variables_15 : decode prog_6_method_7_code 15 = .ok (.getfield 15, 3) := by decide +kernel
theorem d_X4_variables_18 : decode prog_6_method_7_code 18 = .ok (.iload_n 2, 1) := by decide +kernel
theorem d_X4_variables_19 : decode prog_6_method_7_code 19 = .ok (.iaload, 1) := by decide +kernel
theorem d_X4_variables_20 : decode prog_6_method_7_code 20 = .ok (.invokestatic 40, 3) := by decide +kernel
theorem d_X4_variables_23 : decode prog_6_method_7_code 23 = .ok (.ifCond .eq 17, 3) := by decide +kernel
theorem d_X4_variables_26 : decode prog_6_method_7_code 26 = .ok (.iload_n 1, 1) := by decide +kernel
theorem d_X4_variables_27 : decode prog_6_method_7_code 27 = .ok (.aload_n 0, 1) := by decide +kernel
theorem d_X4_variables_28 : decode prog_6_method_7_code 28 = .ok (.getfield 15, 3) := by decide +kernel
theorem d_X4_variables_31 : decode prog_6_method_7_code 31 = .ok (.iload_n 2, 1) := by decide +kernel
theorem d_X4_variables_32 : decode prog_6_method_7_code 32 = .ok (.iaload, 1) := by decide +kernel
theorem d_X4_variables_33 : decode prog_6_method_7_code 33 = .ok (.invokestatic 44, 3) := by decide +kernel
theorem d_X4_variables_36 : decode prog_6_method_7_code 36 = .ok (.invokestatic 48, 3) := by decide +kernel
theorem d_X4_variables_39 : decode prog_6_method_7_code 39 = .ok (.istore_n 1, 1) := by decide +kernel
theorem d_X4_variables_40 : decode prog_6_method_7_code 40 = .ok (.iinc 2 1, 3) := by decide +kernel
theorem d_X4_variables_43 : decode prog_6_method_7_code 43 = .ok (.goto (-39), 3) := by decide +kernel
theorem d_X4_variables_46 : decode prog_6_method_7_code 46 = .ok (.iload_n 1, 1) := by decide +kernel
theorem d_X4_variables_47 : decode prog_6_method_7_code 47 = .ok (.ireturn, 1) := by decide +kernel
abbrev y_X7_begin : MethodName := ⟨"VirtualRewrite$Answers", "begin", "(I)V"⟩
theorem d_X7_begin_0 : decode prog_2_method_2_code 0 = .ok (.aload_n 0, 1) := by decide +kernel
theorem d_X7_begin_1 : decode prog_2_method_2_code 1 = .ok (.iconst 0, 1) := by decide +kernel
theorem d_X7_begin_2 : decode prog_2_method_2_code 2 = .ok (.putfield 24, 3) := by decide +kernel
theorem d_X7_begin_5 : decode prog_2_method_2_code 5 = .ok (.aload_n 0, 1) := by decide +kernel
theorem d_X7_begin_6 : decode prog_2_method_2_code 6 = .ok (.iload_n 1, 1) := by decide +kernel
theorem d_X7_begin_7 : decode prog_2_method_2_code 7 = .ok (.putfield 28, 3) := by decide +kernel
theorem d_X7_begin_10 : decode prog_2_method_2_code 10 = .ok (.aload_n 0, 1) := by decide +kernel
theorem d_X7_begin_11 : decode prog_2_method_2_code 11 = .ok (.iconst 0, 1) := by decide +kernel
theorem d_X7_begin_12 : decode prog_2_method_2_code 12 = .ok (.putfield 31, 3) := by decide +kernel
theorem d_X7_begin_15 : decode prog_2_method_2_code 15 = .ok (.return_, 1) := by decide +kernel
abbrev y_X8_find : MethodName := ⟨"VirtualRewrite$Finder", "find", "(I)V"⟩
theorem d_X8_find_0 : decode prog_4_method_2_code 0 = .ok (.aload_n 0, 1) := by decide +kernel
theorem d_X8_find_1 : decode prog_4_method_2_code 1 = .ok (.iload_n 1, 1) := by decide +kernel
theorem d_X8_find_2 : decode prog_4_method_2_code 2 = .ok (.putfield 36, 3) := by decide +kernel
theorem d_X8_find_5 : decode prog_4_method_2_code 5 = .ok (.aload_n 0, 1) := by decide +kernel
theorem d_X8_find_6 : decode prog_4_method_2_code 6 = .ok (.getfield 48, 3) := by decide +kernel
theorem d_X8_find_9 : decode prog_4_method_2_code 9 = .ok (.iload_n 1, 1) := by decide +kernel
theorem d_X8_find_10 : decode prog_4_method_2_code 10 = .ok (.invokevirtual 56, 3) := by decide +kernel
theorem d_X8_find_13 : decode prog_4_method_2_code 13 = .ok (.aload_n 0, 1) := by decide +kernel
theorem d_X8_find_14 : decode prog_4_method_2_code 14 = .ok (.invokevirtual 62, 3) := by decide +kernel
theorem d_X8_find_17 : decode prog_4_method_2_code 17 = .ok (.iconst 1, 1) := by decide +kernel
theorem d_X8_find_18 : decode prog_4_method_2_code 18 = .ok (.istore_n 2, 1) := by decide +kernel
theorem d_X8_find_19 : decode prog_4_method_2_code 19 = .ok (.iconst 0, 1) := by decide +kernel
theorem d_X8_find_20 : decode prog_4_method_2_code 20 = .ok (.istore_n 3, 1) := by decide +kernel
theorem d_X8_find_21 : decode prog_4_method_2_code 21 = .ok (.iload_n 3, 1) := by decide +kernel
theorem d_X8_find_22 : decode prog_4_method_2_code 22 = .ok (.aload_n 0, 1) := by decide +kernel
theorem d_X8_find_23 : decode prog_4_method_2_code 23 = .ok (.getfield 48, 3) := by decide +kernel
theorem d_X8_find_26 : decode prog_4_method_2_code 26 = .ok (.getfield 65, 3) := by decide +kernel
theorem d_X8_find_29 : decode prog_4_method_2_code 29 = .ok (.if_icmp .ge 33, 3) := by decide +kernel
theorem d_X8_find_32 : decode prog_4_method_2_code 32 = .ok (.iload_n 2, 1) := by decide +kernel
theorem d_X8_find_33 : decode prog_4_method_2_code 33 = .ok (.ifCond .eq 29, 3) := by decide +kernel
theorem d_X8_find_36 : decode prog_4_method_2_code 36 = .ok (.aload_n 0, 1) := by decide +kernel
theorem d_X8_find_37 : decode prog_4_method_2_code 37 = .ok (.iload_n 3, 1) := by decide +kernel
theorem d_X8_find_38 : decode prog_4_method_2_code 38 = .ok (.invokevirtual 68, 3) := by decide +kernel
theorem d_X8_find_41 : decode prog_4_method_2_code 41 = .ok (.aload_n 0, 1) := by decide +kernel
theorem d_X8_find_42 : decode prog_4_method_2_code 42 = .ok (.getfield 24, 3) := by decide +kernel
theorem d_X8_find_45 : decode prog_4_method_2_code 45 = .ok (.iload_n 3, 1) := by decide +kernel
theorem d_X8_find_46 : decode prog_4_method_2_code 46 = .ok (.iaload, 1) := by decide +kernel
theorem d_X8_find_47 : decode prog_4_method_2_code 47 = .ok (.ifCond .le 7, 3) := by decide +kernel
theorem d_X8_find_50 : decode prog_4_method_2_code 50 = .ok (.iconst 1, 1) := by decide +kernel
theorem d_X8_find_51 : decode prog_4_method_2_code 51 = .ok (.goto 4, 3) := by decide +kernel
theorem d_X8_find_54 : decode prog_4_method_2_code 54 = .ok (.iconst 0, 1) := by decide +kernel
theorem d_X8_find_55 : decode prog_4_method_2_code 55 = .ok (.istore_n 2, 1) := by decide +kernel
theorem d_X8_find_56 : decode prog_4_method_2_code 56 = .ok (.iinc 3 1, 3) := by decide +kernel
theorem d_X8_find_59 : decode prog_4_method_2_code 59 = .ok (.goto (-38), 3) := by decide +kernel
theorem d_X8_find_62 : decode prog_4_method_2_code 62 = .ok (.iload_n 2, 1) := by decide +kernel
theorem d_X8_find_63 : decode prog_4_method_2_code 63 = .ok (.ifCond .eq 14, 3) := by decide +kernel
theorem d_X8_find_66 : decode prog_4_method_2_code 66 = .ok (.aload_n 0, 1) := by decide +kernel
theorem d_X8_find_67 : decode prog_4_method_2_code 67 = .ok (.invokevirtual 71, 3) := by decide +kernel
theorem d_X8_find_70 : decode prog_4_method_2_code 70 = .ok (.aload_n 0, 1) := by decide +kernel
theorem d_X8_find_71 : decode prog_4_method_2_code 71 = .ok (.iconst 0, 1) := by decide +kernel
theorem d_X8_find_72 : decode prog_4_method_2_code 72 = .ok (.iconst 0, 1) := by decide +kernel
theorem d_X8_find_73 : decode prog_4_method_2_code 73 = .ok (.invokevirtual 74, 3) := by decide +kernel
theorem d_X8_find_76 : decode prog_4_method_2_code 76 = .ok (.pop, 1) := by decide +kernel
theorem d_X8_find_77 : decode prog_4_method_2_code 77 = .ok (.return_, 1) := by decide +kernel
abbrev y_X8_layOut : MethodName := ⟨"VirtualRewrite$Finder", "layOut", "()V"⟩
theorem d_X8_layOut_0 : decode prog_4_method_3_code 0 = .ok (.iconst 0, 1) := by decide +kernel
theorem d_X8_layOut_1 : decode prog_4_method_3_code 1 = .ok (.istore_n 1, 1) := by decide +kernel
theorem d_X8_layOut_2 : decode prog_4_method_3_code 2 = .ok (.iload_n 1, 1) := by decide +kernel
theorem d_X8_layOut_3 : decode prog_4_method_3_code 3 = .ok (.bipush 6, 2) := by decide +kernel
theorem d_X8_layOut_5 : decode prog_4_method_3_code 5 = .ok (.if_icmp .ge 16, 3) := by decide +kernel
theorem d_X8_layOut_8 : decode prog_4_method_3_code 8 = .ok (.aload_n 0, 1) := by decide +kernel
theorem d_X8_layOut_9 : decode prog_4_method_3_code 9 = .ok (.getfield 33, 3) := by decide +kernel
theorem d_X8_layOut_12 : decode prog_4_method_3_code 12 = .ok (.iload_n 1, 1) := by decide +kernel
theorem d_X8_layOut_13 : decode prog_4_method_3_code 13 = .ok (.iconst 0, 1) := by decide +kernel
theorem d_X8_layOut_14 : decode prog_4_method_3_code 14 = .ok (.iastore, 1) := by decide +kernel
theorem d_X8_layOut_15 : decode prog_4_method_3_code 15 = .ok (.iinc 1 1, 3) := by decide +kernel
theorem d_X8_layOut_18 : decode prog_4_method_3_code 18 = .ok (.goto (-16), 3) := by decide +kernel
theorem d_X8_layOut_21 : decode prog_4_method_3_code 21 = .ok (.iconst 0, 1) := by decide +kernel
theorem d_X8_layOut_22 : decode prog_4_method_3_code 22 = .ok (.istore_n 1, 1) := by decide +kernel
theorem d_X8_layOut_23 : decode prog_4_method_3_code 23 = .ok (.iload_n 1, 1) := by decide +kernel
theorem d_X8_layOut_24 : decode prog_4_method_3_code 24 = .ok (.bipush 24, 2) := by decide +kernel
theorem d_X8_layOut_26 : decode prog_4_method_3_code 26 = .ok (.if_icmp .ge 16, 3) := by decide +kernel
theorem d_X8_layOut_29 : decode prog_4_method_3_code 29 = .ok (.aload_n 0, 1) := by decide +kernel
theorem d_X8_layOut_30 : decode prog_4_method_3_code 30 = .ok (.getfield 18, 3) := by decide +kernel
theorem d_X8_layOut_33 : decode prog_4_method_3_code 33 = .ok (.iload_n 1, 1) := by decide +kernel
theorem d_X8_layOut_34 : decode prog_4_method_3_code 34 = .ok (.iconst (-1), 1) := by decide +kernel
theorem d_X8_layOut_35 : decode prog_4_method_3_code 35 = .ok (.iastore, 1) := by decide +kernel
theorem d_X8_layOut_36 : decode prog_4_method_3_code 36 = .ok (.iinc 1 1, 3) := by decide +kernel
theorem d_X8_layOut_39 : decode prog_4_method_3_code 39 = .ok (.goto (-16), 3) := by decide +kernel
theorem d_X8_layOut_42 : decode prog_4_method_3_code 42 = .ok (.iconst 0, 1) := by decide +kernel
theorem d_X8_layOut_43 : decode prog_4_method_3_code 43 = .ok (.istore_n 1, 1) := by decide +kernel
theorem d_X8_layOut_44 : decode prog_4_method_3_code 44 = .ok (.iload_n 1, 1) := by decide +kernel
theorem d_X8_layOut_45 : decode prog_4_method_3_code 45 = .ok (.iconst 4, 1) := by decide +kernel
theorem d_X8_layOut_46 : decode prog_4_method_3_code 46 = .ok (.if_icmp .ge 16, 3) := by decide +kernel
theorem d_X8_layOut_49 : decode prog_4_method_3_code 49 = .ok (.aload_n 0, 1) := by decide +kernel
theorem d_X8_layOut_50 : decode prog_4_method_3_code 50 = .ok (.getfield 15, 3) := by decide +kernel
theorem d_X8_layOut_53 : decode prog_4_method_3_code 53 = .ok (.iload_n 1, 1) := by decide +kernel
theorem d_X8_layOut_54 : decode prog_4_method_3_code 54 = .ok (.iconst 0, 1) := by decide +kernel
theorem d_X8_layOut_55 : decode prog_4_method_3_code 55 = .ok (.iastore, 1) := by decide +kernel
theorem d_X8_layOut_56 : decode prog_4_method_3_code 56 = .ok (.iinc 1 1, 3) := by decide +kernel
theorem d_X8_layOut_59 : decode prog_4_method_3_code 59 = .ok (.goto (-15), 3) := by decide +kernel
theorem d_X8_layOut_62 : decode prog_4_method_3_code 62 = .ok (.iconst 0, 1) := by decide +kernel
theorem d_X8_layOut_63 : decode prog_4_method_3_code 63 = .ok (.istore_n 1, 1) := by decide +kernel
theorem d_X8_layOut_64 : decode prog_4_method_3_code 64 = .ok (.iload_n 1, 1) := by decide +kernel
theorem d_X8_layOut_65 : decode prog_4_method_3_code 65 = .ok (.aload_n 0, 1) := by decide +kernel
theorem d_X8_layOut_66 : decode prog_4_method_3_code 66 = .ok (.getfield 40, 3) := by decide +kernel
theorem d_X8_layOut_69 : decode prog_4_method_3_code 69 = .ok (.getfield 78, 3) := by decide +kernel
theorem d_X8_layOut_72 : decode prog_4_method_3_code 72 = .ok (.if_icmp .ge 58, 3) := by decide +kernel
theorem d_X8_layOut_75 : decode prog_4_method_3_code 75 = .ok (.aload_n 0, 1) := by decide +kernel
theorem d_X8_layOut_76 : decode prog_4_method_3_code 76 = .ok (.getfield 9, 3) := by decide +kernel
theorem d_X8_layOut_79 : decode prog_4_method_3_code 79 = .ok (.aload_n 0, 1) := by decide +kernel
theorem d_X8_layOut_80 : decode prog_4_method_3_code 80 = .ok (.getfield 48, 3) := by decide +kernel
theorem d_X8_layOut_83 : decode prog_4_method_3_code 83 = .ok (.getfield 83, 3) := by decide +kernel
theorem d_X8_layOut_86 : decode prog_4_method_3_code 86 = .ok (.iload_n 1, 1) := by decide +kernel
theorem d_X8_layOut_87 : decode prog_4_method_3_code 87 = .ok (.iaload, 1) := by decide +kernel
theorem d_X8_layOut_88 : decode prog_4_method_3_code 88 = .ok (.iload_n 1, 1) := by decide +kernel
theorem d_X8_layOut_89 : decode prog_4_method_3_code 89 = .ok (.iastore, 1) := by decide +kernel
theorem d_X8_layOut_90 : decode prog_4_method_3_code 90 = .ok (.iconst 0, 1) := by decide +kernel
theorem d_X8_layOut_91 : decode prog_4_method_3_code 91 = .ok (.istore_n 2, 1) := by decide +kernel
theorem d_X8_layOut_92 : decode prog_4_method_3_code 92 = .ok (.iload_n 2, 1) := by decide +kernel
theorem d_X8_layOut_93 : decode prog_4_method_3_code 93 = .ok (.iconst 2, 1) := by decide +kernel
theorem d_X8_layOut_94 : decode prog_4_method_3_code 94 = .ok (.if_icmp .ge 30, 3) := by decide +kernel
theorem d_X8_layOut_97 : decode prog_4_method_3_code 97 = .ok (.aload_n 0, 1) := by decide +kernel
theorem d_X8_layOut_98 : decode prog_4_method_3_code 98 = .ok (.getfield 40, 3) := by decide +kernel
theorem d_X8_layOut_101 : decode prog_4_method_3_code 101 = .ok (.iload_n 1, 1) := by decide +kernel
theorem d_X8_layOut_102 : decode prog_4_method_3_code 102 = .ok (.iload_n 2, 1) := by decide +kernel
theorem d_X8_layOut_103 : decode prog_4_method_3_code 103 = .ok (.invokevirtual 86, 3) := by decide +kernel
theorem d_X8_layOut_106 : decode prog_4_method_3_code 106 = .ok (.invokestatic 89, 3) := by decide +kernel
theorem d_X8_layOut_109 : decode prog_4_method_3_code 109 = .ok (.ifCond .eq 9, 3) := by decide +kernel
theorem d_X8_layOut_112 : decode prog_4_method_3_code 112 = .ok (.aload_n 0, 1) := by decide +kernel
theorem d_X8_layOut_113 : decode prog_4_method_3_code 113 = .ok (.iload_n 1, 1) := by decide +kernel
theorem d_X8_layOut_114 : decode prog_4_method_3_code 114 = .ok (.iload_n 2, 1) := by decide +kernel
theorem d_X8_layOut_115 : decode prog_4_method_3_code 115 = .ok (.invokevirtual 93, 3) := by decide +kernel
theorem d_X8_layOut_118 : decode prog_4_method_3_code 118 = .ok (.iinc 2 1, 3) := by decide +kernel
theorem d_X8_layOut_121 : decode prog_4_method_3_code 121 = .ok (.goto (-29), 3) := by decide +kernel
theorem d_X8_layOut_124 : decode prog_4_method_3_code 124 = .ok (.iinc 1 1, 3) := by decide +kernel
theorem d_X8_layOut_127 : decode prog_4_method_3_code 127 = .ok (.goto (-63), 3) := by decide +kernel
theorem d_X8_layOut_130 : decode prog_4_method_3_code 130 = .ok (.return_, 1) := by decide +kernel
abbrev y_X8_layOutVariable : MethodName := ⟨"VirtualRewrite$Finder", "layOutVariable", "(II)V"⟩
theorem d_X8_layOutVariable_0 : decode prog_4_method_4_code 0 = .ok (.aload_n 0, 1) := by decide +kernel
theorem d_X8_layOutVariable_1 : decode prog_4_method_4_code 1 = .ok (.getfield 40, 3) := by decide +kernel
theorem d_X8_layOutVariable_4 : decode prog_4_method_4_code 4 = .ok (.iload_n 1, 1) := by decide +kernel
theorem d_X8_layOutVariable_5 : decode prog_4_method_4_code 5 = .ok (.iload_n 2, 1) := by decide +kernel
theorem d_X8_layOutVariable_6 : decode prog_4_method_4_code 6 = .ok (.invokevirtual 86, 3) := by decide +kernel
theorem d_X8_layOutVariable_9 : decode prog_4_method_4_code 9 = .ok (.invokestatic 97, 3) := by decide +kernel
theorem d_X8_layOutVariable_12 : decode prog_4_method_4_code 12 = .ok (.istore_n 3, 1) := by decide +kernel
theorem d_X8_layOutVariable_13 : decode prog_4_method_4_code 13 = .ok (.aload_n 0, 1) := by decide +kernel
theorem d_X8_layOutVariable_14 : decode prog_4_method_4_code 14 = .ok (.getfield 48, 3) := by decide +kernel
theorem d_X8_layOutVariable_17 : decode prog_4_method_4_code 17 = .ok (.getfield 83, 3) := by decide +kernel
theorem d_X8_layOutVariable_20 : decode prog_4_method_4_code 20 = .ok (.iload_n 1, 1) := by decide +kernel
theorem d_X8_layOutVariable_21 : decode prog_4_method_4_code 21 = .ok (.iaload, 1) := by decide +kernel
theorem d_X8_layOutVariable_22 : decode prog_4_method_4_code 22 = .ok (.istore 4, 2) := by decide +kernel
theorem d_X8_layOutVariable_24 : decode prog_4_method_4_code 24 = .ok (.aload_n 0, 1) := by decide +kernel
theorem d_X8_layOutVariable_25 : decode prog_4_method_4_code 25 = .ok (.getfield 44, 3) := by decide +kernel
theorem d_X8_layOutVariable_28 : decode prog_4_method_4_code 28 = .ok (.aload_n 0, 1) := by decide +kernel
theorem d_X8_layOutVariable_29 : decode prog_4_method_4_code 29 = .ok (.getfield 36, 3) := by decide +kernel
theorem d_X8_layOutVariable_32 : decode prog_4_method_4_code 32 = .ok (.iload_n 1, 1) := by decide +kernel
theorem d_X8_layOutVariable_33 : decode prog_4_method_4_code 33 = .ok (.invokevirtual 101, 3) := by decide +kernel
theorem d_X8_layOutVariable_36 : decode prog_4_method_4_code 36 = .ok (.astore 5, 2) := by decide +kernel
theorem d_X8_layOutVariable_38 : decode prog_4_method_4_code 38 = .ok (.aload_n 0, 1) := by decide +kernel
theorem d_X8_layOutVariable_39 : decode prog_4_method_4_code 39 = .ok (.getfield 30, 3) := by decide +kernel
theorem d_X8_layOutVariable_42 : decode prog_4_method_4_code 42 = .ok (.iload_n 3, 1) := by decide +kernel
theorem d_X8_layOutVariable_43 : decode prog_4_method_4_code 43 = .ok (.aload 5, 2) := by decide +kernel
theorem d_X8_layOutVariable_45 : decode prog_4_method_4_code 45 = .ok (.getfield 107, 3) := by decide +kernel
theorem d_X8_layOutVariable_48 : decode prog_4_method_4_code 48 = .ok (.iload_n 2, 1) := by decide +kernel
theorem d_X8_layOutVariable_49 : decode prog_4_method_4_code 49 = .ok (.iaload, 1) := by decide +kernel
theorem d_X8_layOutVariable_50 : decode prog_4_method_4_code 50 = .ok (.iastore, 1) := by decide +kernel
theorem d_X8_layOutVariable_51 : decode prog_4_method_4_code 51 = .ok (.aload_n 0, 1) := by decide +kernel
theorem d_X8_layOutVariable_52 : decode prog_4_method_4_code 52 = .ok (.getfield 18, 3) := by decide +kernel
theorem d_X8_layOutVariable_55 : decode prog_4_method_4_code 55 = .ok (.iload 4, 2) := by decide +kernel
theorem d_X8_layOutVariable_57 : decode prog_4_method_4_code 57 = .ok (.bipush 6, 2) := by decide +kernel
theorem d_X8_layOutVariable_59 : decode prog_4_method_4_code 59 = .ok (.imul, 1) := by decide +kernel
theorem d_X8_layOutVariable_60 : decode prog_4_method_4_code 60 = .ok (.iload_n 3, 1) := by decide +kernel
theorem d_X8_layOutVariable_61 : decode prog_4_method_4_code 61 = .ok (.iadd, 1) := by decide +kernel
theorem d_X8_layOutVariable_62 : decode prog_4_method_4_code 62 = .ok (.aload 5, 2) := by decide +kernel
theorem d_X8_layOutVariable_64 : decode prog_4_method_4_code 64 = .ok (.getfield 110, 3) := by decide +kernel
theorem d_X8_layOutVariable_67 : decode prog_4_method_4_code 67 = .ok (.iload_n 2, 1) := by decide +kernel
theorem d_X8_layOutVariable_68 : decode prog_4_method_4_code 68 = .ok (.iaload, 1) := by decide +kernel
theorem d_X8_layOutVariable_69 : decode prog_4_method_4_code 69 = .ok (.iastore, 1) := by decide +kernel
theorem d_X8_layOutVariable_70 : decode prog_4_method_4_code 70 = .ok (.aload_n 0, 1) := by decide +kernel
theorem d_X8_layOutVariable_71 : decode prog_4_method_4_code 71 = .ok (.getfield 15, 3) := by decide +kernel
theorem d_X8_layOutVariable_74 : decode prog_4_method_4_code 74 = .ok (.iload 4, 2) := by decide +kernel
theorem d_X8_layOutVariable_76 : decode prog_4_method_4_code 76 = .ok (.aload_n 0, 1) := by decide +kernel
theorem d_X8_layOutVariable_77 : decode prog_4_method_4_code 77 = .ok (.getfield 15, 3) := by decide +kernel
theorem d_X8_layOutVariable_80 : decode prog_4_method_4_code 80 = .ok (.iload 4, 2) := by decide +kernel
theorem d_X8_layOutVariable_82 : decode prog_4_method_4_code 82 = .ok (.iaload, 1) := by decide +kernel
theorem d_X8_layOutVariable_83 : decode prog_4_method_4_code 83 = .ok (.iload_n 3, 1) := by decide +kernel
theorem d_X8_layOutVariable_84 : decode prog_4_method_4_code 84 = .ok (.invokestatic 111, 3) := by decide +kernel
theorem d_X8_layOutVariable_87 : decode prog_4_method_4_code 87 = .ok (.iastore, 1) := by decide +kernel
theorem d_X8_layOutVariable_88 : decode prog_4_method_4_code 88 = .ok (.return_, 1) := by decide +kernel
abbrev y_X8_gatherRows : MethodName := ⟨"VirtualRewrite$Finder", "gatherRows", "(I)V"⟩
theorem d_X8_gatherRows_0 : decode prog_4_method_6_code 0 = .ok (.aload_n 0, 1) := by decide +kernel
theorem d_X8_gatherRows_1 : decode prog_4_method_6_code 1 = .ok (.iload_n 1, 1) := by decide +kernel
theorem d_X8_gatherRows_2 : decode prog_4_method_6_code 2 = .ok (.invokevirtual 118, 3) := by decide +kernel
theorem d_X8_gatherRows_5 : decode prog_4_method_6_code 5 = .ok (.astore_n 2, 1) := by decide +kernel
theorem d_X8_gatherRows_6 : decode prog_4_method_6_code 6 = .ok (.iconst 0, 1) := by decide +kernel
theorem d_X8_gatherRows_7 : decode prog_4_method_6_code 7 = .ok (.istore_n 3, 1) := by decide +kernel
theorem d_X8_gatherRows_8 : decode prog_4_method_6_code 8 = .ok (.iconst 0, 1) := by decide +kernel
theorem d_X8_gatherRows_9 : decode prog_4_method_6_code 9 = .ok (.istore 4, 2) := by decide +kernel
theorem d_X8_gatherRows_11 : decode prog_4_method_6_code 11 = .ok (.iload 4, 2) := by decide +kernel
theorem d_X8_gatherRows_13 : decode prog_4_method_6_code 13 = .ok (.aload_n 2, 1) := by decide +kernel
theorem d_X8_gatherRows_14 : decode prog_4_method_6_code 14 = .ok (.getfield 121, 3) := by decide +kernel
theorem d_X8_gatherRows_17 : decode prog_4_method_6_code 17 = .ok (.if_icmp .ge 48, 3) := by decide +kernel
theorem d_X8_gatherRows_20 : decode prog_4_method_6_code 20 = .ok (.aload_n 0, 1) := by decide +kernel
theorem d_X8_gatherRows_21 : decode prog_4_method_6_code 21 = .ok (.iload_n 1, 1) := by decide +kernel
theorem d_X8_gatherRows_22 : decode prog_4_method_6_code 22 = .ok (.aload_n 2, 1) := by decide +kernel
theorem d_X8_gatherRows_23 : decode prog_4_method_6_code 23 = .ok (.iload 4, 2) := by decide +kernel
theorem d_X8_gatherRows_25 : decode prog_4_method_6_code 25 = .ok (.invokevirtual 126, 3) := by decide +kernel
theorem d_X8_gatherRows_28 : decode prog_4_method_6_code 28 = .ok (.ifCond .eq 31, 3) := by decide +kernel
theorem d_X8_gatherRows_31 : decode prog_4_method_6_code 31 = .ok (.aload_n 0, 1) := by decide +kernel
theorem d_X8_gatherRows_32 : decode prog_4_method_6_code 32 = .ok (.iload_n 1, 1) := by decide +kernel
theorem d_X8_gatherRows_33 : decode prog_4_method_6_code 33 = .ok (.aload_n 2, 1) := by decide +kernel
theorem d_X8_gatherRows_34 : decode prog_4_method_6_code 34 = .ok (.iload 4, 2) := by decide +kernel
theorem d_X8_gatherRows_36 : decode prog_4_method_6_code 36 = .ok (.iload_n 3, 1) := by decide +kernel
theorem d_X8_gatherRows_37 : decode prog_4_method_6_code 37 = .ok (.invokevirtual 130, 3) := by decide +kernel
theorem d_X8_gatherRows_40 : decode prog_4_method_6_code 40 = .ok (.ifCond .ne 19, 3) := by decide +kernel
theorem d_X8_gatherRows_43 : decode prog_4_method_6_code 43 = .ok (.aload_n 0, 1) := by decide +kernel
theorem d_X8_gatherRows_44 : decode prog_4_method_6_code 44 = .ok (.getfield 21, 3) := by decide +kernel
theorem d_X8_gatherRows_47 : decode prog_4_method_6_code 47 = .ok (.iload_n 1, 1) := by decide +kernel
theorem d_X8_gatherRows_48 : decode prog_4_method_6_code 48 = .ok (.bipush 20, 2) := by decide +kernel
theorem d_X8_gatherRows_50 : decode prog_4_method_6_code 50 = .ok (.imul, 1) := by decide +kernel
theorem d_X8_gatherRows_51 : decode prog_4_method_6_code 51 = .ok (.iload_n 3, 1) := by decide +kernel
theorem d_X8_gatherRows_52 : decode prog_4_method_6_code 52 = .ok (.iadd, 1) := by decide +kernel
theorem d_X8_gatherRows_53 : decode prog_4_method_6_code 53 = .ok (.iload 4, 2) := by decide +kernel
theorem d_X8_gatherRows_55 : decode prog_4_method_6_code 55 = .ok (.iastore, 1) := by decide +kernel
theorem d_X8_gatherRows_56 : decode prog_4_method_6_code 56 = .ok (.iinc 3 1, 3) := by decide +kernel
theorem d_X8_gatherRows_59 : decode prog_4_method_6_code 59 = .ok (.iinc 4 1, 3) := by decide +kernel
theorem d_X8_gatherRows_62 : decode prog_4_method_6_code 62 = .ok (.goto (-51), 3) := by decide +kernel
theorem d_X8_gatherRows_65 : decode prog_4_method_6_code 65 = .ok (.aload_n 0, 1) := by decide +kernel
theorem d_X8_gatherRows_66 : decode prog_4_method_6_code 66 = .ok (.getfield 24, 3) := by decide +kernel
theorem d_X8_gatherRows_69 : decode prog_4_method_6_code 69 = .ok (.iload_n 1, 1) := by decide +kernel
theorem d_X8_gatherRows_70 : decode prog_4_method_6_code 70 = .ok (.iload_n 3, 1) := by decide +kernel
theorem d_X8_gatherRows_71 : decode prog_4_method_6_code 71 = .ok (.iastore, 1) := by decide +kernel
theorem d_X8_gatherRows_72 : decode prog_4_method_6_code 72 = .ok (.return_, 1) := by decide +kernel
abbrev y_X8_tableOf : MethodName := ⟨"VirtualRewrite$Finder", "tableOf", "(I)LVirtualRewrite$Table;"⟩
theorem d_X8_tableOf_0 : decode prog_4_method_5_code 0 = .ok (.aload_n 0, 1) := by decide +kernel
theorem d_X8_tableOf_1 : decode prog_4_method_5_code 1 = .ok (.getfield 44, 3) := by decide +kernel
theorem d_X8_tableOf_4 : decode prog_4_method_5_code 4 = .ok (.aload_n 0, 1) := by decide +kernel
theorem d_X8_tableOf_5 : decode prog_4_method_5_code 5 = .ok (.getfield 36, 3) := by decide +kernel
theorem d_X8_tableOf_8 : decode prog_4_method_5_code 8 = .ok (.aload_n 0, 1) := by decide +kernel
theorem d_X8_tableOf_9 : decode prog_4_method_5_code 9 = .ok (.getfield 9, 3) := by decide +kernel
theorem d_X8_tableOf_12 : decode prog_4_method_5_code 12 = .ok (.iload_n 1, 1) := by decide +kernel
theorem d_X8_tableOf_13 : decode prog_4_method_5_code 13 = .ok (.iaload, 1) := by decide +kernel
theorem d_X8_tableOf_14 : decode prog_4_method_5_code 14 = .ok (.invokevirtual 114, 3) := by decide +kernel
theorem d_X8_tableOf_17 : decode prog_4_method_5_code 17 = .ok (.areturn, 1) := by decide +kernel
abbrev y_X8_suits : MethodName := ⟨"VirtualRewrite$Finder", "suits", "(ILVirtualRewrite$Table;I)Z"⟩
theorem d_X8_suits_0 : decode prog_4_method_7_code 0 = .ok (.iconst 0, 1) := by decide +kernel
theorem d_X8_suits_1 : decode prog_4_method_7_code 1 = .ok (.istore 4, 2) := by decide +kernel
theorem d_X8_suits_3 : decode prog_4_method_7_code 3 = .ok (.iload 4, 2) := by decide +kernel
theorem d_X8_suits_5 : decode prog_4_method_7_code 5 = .ok (.aload_n 0, 1) := by decide +kernel
theorem d_X8_suits_6 : decode prog_4_method_7_code 6 = .ok (.getfield 40, 3) := by decide +kernel
theorem d_X8_suits_9 : decode prog_4_method_7_code 9 = .ok (.getfield 78, 3) := by decide +kernel
theorem d_X8_suits_12 : decode prog_4_method_7_code 12 = .ok (.if_icmp .ge 36, 3) := by decide +kernel
theorem d_X8_suits_15 : decode prog_4_method_7_code 15 = .ok (.aload_n 0, 1) := by decide +kernel
theorem d_X8_suits_16 : decode prog_4_method_7_code 16 = .ok (.getfield 48, 3) := by decide +kernel
theorem d_X8_suits_19 : decode prog_4_method_7_code 19 = .ok (.getfield 83, 3) := by decide +kernel
theorem d_X8_suits_22 : decode prog_4_method_7_code 22 = .ok (.iload 4, 2) := by decide +kernel
theorem d_X8_suits_24 : decode prog_4_method_7_code 24 = .ok (.iaload, 1) := by decide +kernel
theorem d_X8_suits_25 : decode prog_4_method_7_code 25 = .ok (.iload_n 1, 1) := by decide +kernel
theorem d_X8_suits_26 : decode prog_4_method_7_code 26 = .ok (.if_icmp .ne 16, 3) := by decide +kernel
theorem d_X8_suits_29 : decode prog_4_method_7_code 29 = .ok (.aload_n 0, 1) := by decide +kernel
theorem d_X8_suits_30 : decode prog_4_method_7_code 30 = .ok (.iload 4, 2) := by decide +kernel
theorem d_X8_suits_32 : decode prog_4_method_7_code 32 = .ok (.aload_n 2, 1) := by decide +kernel
theorem d_X8_suits_33 : decode prog_4_method_7_code 33 = .ok (.iload_n 3, 1) := by decide +kernel
theorem d_X8_suits_34 : decode prog_4_method_7_code 34 = .ok (.invokevirtual 134, 3) := by decide +kernel
theorem d_X8_suits_37 : decode prog_4_method_7_code 37 = .ok (.ifCond .ne 5, 3) := by decide +kernel
theorem d_X8_suits_40 : decode prog_4_method_7_code 40 = .ok (.iconst 0, 1) := by decide +kernel
theorem d_X8_suits_41 : decode prog_4_method_7_code 41 = .ok (.ireturn, 1) := by decide +kernel
theorem d_X8_suits_42 : decode prog_4_method_7_code 42 = .ok (.iinc 4 1, 3) := by decide +kernel
theorem d_X8_suits_45 : decode prog_4_method_7_code 45 = .ok (.goto (-42), 3) := by decide +kernel
theorem d_X8_suits_48 : decode prog_4_method_7_code 48 = .ok (.iconst 1, 1) := by decide +kernel
theorem d_X8_suits_49 : decode prog_4_method_7_code 49 = .ok (.ireturn, 1) := by decide +kernel
abbrev y_X8_suitsAtom : MethodName := ⟨"VirtualRewrite$Finder", "suitsAtom", "(ILVirtualRewrite$Table;I)Z"⟩
theorem d_X8_suitsAtom_0 : decode prog_4_method_8_code 0 = .ok (.aload_n 0, 1) := by decide +kernel
theorem d_X8_suitsAtom_1 : decode prog_4_method_8_code 1 = .ok (.getfield 44, 3) := by decide +kernel
theorem d_X8_suitsAtom_4 : decode prog_4_method_8_code 4 = .ok (.aload_n 0, 1) := by decide +kernel
theorem d_X8_suitsAtom_5 : decode prog_4_method_8_code 5 = .ok (.getfield 36, 3) := by decide +kernel
theorem d_X8_suitsAtom_8 : decode prog_4_method_8_code 8 = .ok (.iload_n 1, 1) := by decide +kernel
theorem d_X8_suitsAtom_9 : decode prog_4_method_8_code 9 = .ok (.invokevirtual 101, 3) := by decide +kernel
theorem d_X8_suitsAtom_12 : decode prog_4_method_8_code 12 = .ok (.astore 4, 2) := by decide +kernel
theorem d_X8_suitsAtom_14 : decode prog_4_method_8_code 14 = .ok (.iconst 0, 1) := by decide +kernel
theorem d_X8_suitsAtom_15 : decode prog_4_method_8_code 15 = .ok (.istore 5, 2) := by decide +kernel
theorem d_X8_suitsAtom_17 : decode prog_4_method_8_code 17 = .ok (.iload 5, 2) := by decide +kernel
theorem d_X8_suitsAtom_19 : decode prog_4_method_8_code 19 = .ok (.iconst 2, 1) := by decide +kernel
theorem d_X8_suitsAtom_20 : decode prog_4_method_8_code 20 = .ok (.if_icmp .ge 114, 3) := by decide +kernel
theorem d_X8_suitsAtom_23 : decode prog_4_method_8_code 23 = .ok (.aload_n 0, 1) := by decide +kernel
theorem d_X8_suitsAtom_24 : decode prog_4_method_8_code 24 = .ok (.getfield 40, 3) := by decide +kernel
theorem d_X8_suitsAtom_27 : decode prog_4_method_8_code 27 = .ok (.iload_n 1, 1) := by decide +kernel
theorem d_X8_suitsAtom_28 : decode prog_4_method_8_code 28 = .ok (.iload 5, 2) := by decide +kernel
theorem d_X8_suitsAtom_30 : decode prog_4_method_8_code 30 = .ok (.invokevirtual 86, 3) := by decide +kernel
theorem d_X8_suitsAtom_33 : decode prog_4_method_8_code 33 = .ok (.istore 6, 2) := by decide +kernel
theorem d_X8_suitsAtom_35 : decode prog_4_method_8_code 35 = .ok (.aload_n 2, 1) := by decide +kernel
theorem d_X8_suitsAtom_36 : decode prog_4_method_8_code 36 = .ok (.iload_n 3, 1) := by decide +kernel
theorem d_X8_suitsAtom_37 : decode prog_4_method_8_code 37 = .ok (.aload 4, 2) := by decide +kernel
theorem d_X8_suitsAtom_39 : decode prog_4_method_8_code 39 = .ok (.getfield 110, 3) := by decide +kernel
theorem d_X8_suitsAtom_42 : decode prog_4_method_8_code 42 = .ok (.iload 5, 2) := by decide +kernel
theorem d_X8_suitsAtom_44 : decode prog_4_method_8_code 44 = .ok (.iaload, 1) := by decide +kernel
theorem d_X8_suitsAtom_45 : decode prog_4_method_8_code 45 = .ok (.invokevirtual 137, 3) := by decide +kernel
theorem d_X8_suitsAtom_48 : decode prog_4_method_8_code 48 = .ok (.istore 7, 2) := by decide +kernel
theorem d_X8_suitsAtom_50 : decode prog_4_method_8_code 50 = .ok (.iload 6, 2) := by decide +kernel
theorem d_X8_suitsAtom_52 : decode prog_4_method_8_code 52 = .ok (.invokestatic 89, 3) := by decide +kernel
theorem d_X8_suitsAtom_55 : decode prog_4_method_8_code 55 = .ok (.ifCond .ne 16, 3) := by decide +kernel
theorem d_X8_suitsAtom_58 : decode prog_4_method_8_code 58 = .ok (.iload 6, 2) := by decide +kernel
theorem d_X8_suitsAtom_60 : decode prog_4_method_8_code 60 = .ok (.sipush 10000, 3) := by decide +kernel
theorem d_X8_suitsAtom_63 : decode prog_4_method_8_code 63 = .ok (.irem, 1) := by decide +kernel
theorem d_X8_suitsAtom_64 : decode prog_4_method_8_code 64 = .ok (.iload 7, 2) := by decide +kernel
theorem d_X8_suitsAtom_66 : decode prog_4_method_8_code 66 = .ok (.if_icmp .eq 62, 3) := by decide +kernel
theorem d_X8_suitsAtom_69 : decode prog_4_method_8_code 69 = .ok (.iconst 0, 1) := by decide +kernel
theorem d_X8_suitsAtom_70 : decode prog_4_method_8_code 70 = .ok (.ireturn, 1) := by decide +kernel
theorem d_X8_suitsAtom_71 : decode prog_4_method_8_code 71 = .ok (.iload 6, 2) := by decide +kernel
theorem d_X8_suitsAtom_73 : decode prog_4_method_8_code 73 = .ok (.invokestatic 97, 3) := by decide +kernel
theorem d_X8_suitsAtom_76 : decode prog_4_method_8_code 76 = .ok (.istore 8, 2) := by decide +kernel
theorem d_X8_suitsAtom_78 : decode prog_4_method_8_code 78 = .ok (.aload_n 0, 1) := by decide +kernel
theorem d_X8_suitsAtom_79 : decode prog_4_method_8_code 79 = .ok (.getfield 18, 3) := by decide +kernel
theorem d_X8_suitsAtom_82 : decode prog_4_method_8_code 82 = .ok (.aload_n 0, 1) := by decide +kernel
theorem d_X8_suitsAtom_83 : decode prog_4_method_8_code 83 = .ok (.getfield 48, 3) := by decide +kernel
theorem d_X8_suitsAtom_86 : decode prog_4_method_8_code 86 = .ok (.getfield 83, 3) := by decide +kernel
theorem d_X8_suitsAtom_89 : decode prog_4_method_8_code 89 = .ok (.iload_n 1, 1) := by decide +kernel
theorem d_X8_suitsAtom_90 : decode prog_4_method_8_code 90 = .ok (.iaload, 1) := by decide +kernel
theorem d_X8_suitsAtom_91 : decode prog_4_method_8_code 91 = .ok (.bipush 6, 2) := by decide +kernel
theorem d_X8_suitsAtom_93 : decode prog_4_method_8_code 93 = .ok (.imul, 1) := by decide +kernel
theorem d_X8_suitsAtom_94 : decode prog_4_method_8_code 94 = .ok (.iload 8, 2) := by decide +kernel
theorem d_X8_suitsAtom_96 : decode prog_4_method_8_code 96 = .ok (.iadd, 1) := by decide +kernel
theorem d_X8_suitsAtom_97 : decode prog_4_method_8_code 97 = .ok (.iaload, 1) := by decide +kernel
theorem d_X8_suitsAtom_98 : decode prog_4_method_8_code 98 = .ok (.istore 9, 2) := by decide +kernel
theorem d_X8_suitsAtom_100 : decode prog_4_method_8_code 100 = .ok (.iload 7, 2) := by decide +kernel
theorem d_X8_suitsAtom_102 : decode prog_4_method_8_code 102 = .ok (.aload_n 2, 1) := by decide +kernel
theorem d_X8_suitsAtom_103 : decode prog_4_method_8_code 103 = .ok (.iload_n 3, 1) := by decide +kernel
theorem d_X8_suitsAtom_104 : decode prog_4_method_8_code 104 = .ok (.iload 9, 2) := by decide +kernel
theorem d_X8_suitsAtom_106 : decode prog_4_method_8_code 106 = .ok (.invokevirtual 137, 3) := by decide +kernel
theorem d_X8_suitsAtom_109 : decode prog_4_method_8_code 109 = .ok (.if_icmp .ne 17, 3) := by decide +kernel
theorem d_X8_suitsAtom_112 : decode prog_4_method_8_code 112 = .ok (.aload_n 0, 1) := by decide +kernel
theorem d_X8_suitsAtom_113 : decode prog_4_method_8_code 113 = .ok (.getfield 40, 3) := by decide +kernel
theorem d_X8_suitsAtom_116 : decode prog_4_method_8_code 116 = .ok (.iload 8, 2) := by decide +kernel
theorem d_X8_suitsAtom_118 : decode prog_4_method_8_code 118 = .ok (.iload 7, 2) := by decide +kernel
theorem d_X8_suitsAtom_120 : decode prog_4_method_8_code 120 = .ok (.invokevirtual 140, 3) := by decide +kernel
theorem d_X8_suitsAtom_123 : decode prog_4_method_8_code 123 = .ok (.ifCond .ne 5, 3) := by decide +kernel
theorem d_X8_suitsAtom_126 : decode prog_4_method_8_code 126 = .ok (.iconst 0, 1) := by decide +kernel
theorem d_X8_suitsAtom_127 : decode prog_4_method_8_code 127 = .ok (.ireturn, 1) := by decide +kernel
theorem d_X8_suitsAtom_128 : decode prog_4_method_8_code 128 = .ok (.iinc 5 1, 3) := by decide +kernel
theorem d_X8_suitsAtom_131 : decode prog_4_method_8_code 131 = .ok (.goto (-114), 3) := by decide +kernel
theorem d_X8_suitsAtom_134 : decode prog_4_method_8_code 134 = .ok (.iconst 1, 1) := by decide +kernel
theorem d_X8_suitsAtom_135 : decode prog_4_method_8_code 135 = .ok (.ireturn, 1) := by decide +kernel
end
section
abbrev y_X4_allows : MethodName := ⟨"VirtualRewrite$Question", "allows", "(II)Z"⟩
theorem d_X4_allows_0 : decode prog_6_method_6_code 0 = .ok (.iload_n 2, 1) := by decide +kernel
theorem d_X4_allows_1 : decode prog_6_method_6_code 1 = .ok (.aload_n 0, 1) := by decide +kernel
theorem d_X4_allows_2 : decode prog_6_method_6_code 2 = .ok (.getfield 18, 3) := by decide +kernel
theorem d_X4_allows_5 : decode prog_6_method_6_code 5 = .ok (.iload_n 1, 1) := by decide +kernel
theorem d_X4_allows_6 : decode prog_6_method_6_code 6 = .ok (.iaload, 1) := by decide +kernel
theorem d_X4_allows_7 : decode prog_6_method_6_code 7 = .ok (.if_icmp .lt 17, 3) := by decide +kernel
theorem d_X4_allows_10 : decode prog_6_method_6_code 10 = .ok (.iload_n 2, 1) := by decide +kernel
theorem d_X4_allows_11 : decode prog_6_method_6_code 11 = .ok (.aload_n 0, 1) := by decide +kernel
theorem d_X4_allows_12 : decode prog_6_method_6_code 12 = .ok (.getfield 21, 3) := by decide +kernel
theorem d_X4_allows_15 : decode prog_6_method_6_code 15 = .ok (.iload_n 1, 1) := by decide +kernel
theorem d_X4_allows_16 : decode prog_6_method_6_code 16 = .ok (.iaload, 1) := by decide +kernel
theorem d_X4_allows_17 : decode prog_6_method_6_code 17 = .ok (.if_icmp .gt 7, 3) := by decide +kernel
theorem d_X4_allows_20 : decode prog_6_method_6_code 20 = .ok (.iconst 1, 1) := by decide +kernel
theorem d_X4_allows_21 : decode prog_6_method_6_code 21 = .ok (.goto 4, 3) := by decide +kernel
theorem d_X4_allows_24 : decode prog_6_method_6_code 24 = .ok (.iconst 0, 1) := by decide +kernel
theorem d_X4_allows_25 : decode prog_6_method_6_code 25 = .ok (.ireturn, 1) := by decide +kernel
abbrev y_X8_isTold : MethodName := ⟨"VirtualRewrite$Finder", "isTold", "(ILVirtualRewrite$Table;II)Z"⟩
theorem d_X8_isTold_0 : decode prog_4_method_9_code 0 = .ok (.iconst 0, 1) := by decide +kernel
theorem d_X8_isTold_1 : decode prog_4_method_9_code 1 = .ok (.istore 5, 2) := by decide +kernel
theorem d_X8_isTold_3 : decode prog_4_method_9_code 3 = .ok (.iload 5, 2) := by decide +kernel
theorem d_X8_isTold_5 : decode prog_4_method_9_code 5 = .ok (.iload 4, 2) := by decide +kernel
theorem d_X8_isTold_7 : decode prog_4_method_9_code 7 = .ok (.if_icmp .ge 33, 3) := by decide +kernel
theorem d_X8_isTold_10 : decode prog_4_method_9_code 10 = .ok (.aload_n 0, 1) := by decide +kernel
theorem d_X8_isTold_11 : decode prog_4_method_9_code 11 = .ok (.iload_n 1, 1) := by decide +kernel
theorem d_X8_isTold_12 : decode prog_4_method_9_code 12 = .ok (.aload_n 2, 1) := by decide +kernel
theorem d_X8_isTold_13 : decode prog_4_method_9_code 13 = .ok (.iload_n 3, 1) := by decide +kernel
theorem d_X8_isTold_14 : decode prog_4_method_9_code 14 = .ok (.aload_n 0, 1) := by decide +kernel
theorem d_X8_isTold_15 : decode prog_4_method_9_code 15 = .ok (.getfield 21, 3) := by decide +kernel
theorem d_X8_isTold_18 : decode prog_4_method_9_code 18 = .ok (.iload_n 1, 1) := by decide +kernel
theorem d_X8_isTold_19 : decode prog_4_method_9_code 19 = .ok (.bipush 20, 2) := by decide +kernel
theorem d_X8_isTold_21 : decode prog_4_method_9_code 21 = .ok (.imul, 1) := by decide +kernel
theorem d_X8_isTold_22 : decode prog_4_method_9_code 22 = .ok (.iload 5, 2) := by decide +kernel
theorem d_X8_isTold_24 : decode prog_4_method_9_code 24 = .ok (.iadd, 1) := by decide +kernel
theorem d_X8_isTold_25 : decode prog_4_method_9_code 25 = .ok (.iaload, 1) := by decide +kernel
theorem d_X8_isTold_26 : decode prog_4_method_9_code 26 = .ok (.invokevirtual 144, 3) := by decide +kernel
theorem d_X8_isTold_29 : decode prog_4_method_9_code 29 = .ok (.ifCond .eq 5, 3) := by decide +kernel
theorem d_X8_isTold_32 : decode prog_4_method_9_code 32 = .ok (.iconst 1, 1) := by decide +kernel
theorem d_X8_isTold_33 : decode prog_4_method_9_code 33 = .ok (.ireturn, 1) := by decide +kernel
theorem d_X8_isTold_34 : decode prog_4_method_9_code 34 = .ok (.iinc 5 1, 3) := by decide +kernel
theorem d_X8_isTold_37 : decode prog_4_method_9_code 37 = .ok (.goto (-34), 3) := by decide +kernel
theorem d_X8_isTold_40 : decode prog_4_method_9_code 40 = .ok (.iconst 0, 1) := by decide +kernel
theorem d_X8_isTold_41 : decode prog_4_method_9_code 41 = .ok (.ireturn, 1) := by decide +kernel
abbrev y_X8_areAlike : MethodName := ⟨"VirtualRewrite$Finder", "areAlike", "(ILVirtualRewrite$Table;II)Z"⟩
theorem d_X8_areAlike_0 : decode prog_4_method_10_code 0 = .ok (.iconst 0, 1) := by decide +kernel
theorem d_X8_areAlike_1 : decode prog_4_method_10_code 1 = .ok (.istore 5, 2) := by decide +kernel
theorem d_X8_areAlike_3 : decode prog_4_method_10_code 3 = .ok (.iload 5, 2) := by decide +kernel
theorem d_X8_areAlike_5 : decode prog_4_method_10_code 5 = .ok (.bipush 6, 2) := by decide +kernel
theorem d_X8_areAlike_7 : decode prog_4_method_10_code 7 = .ok (.if_icmp .ge 49, 3) := by decide +kernel
theorem d_X8_areAlike_10 : decode prog_4_method_10_code 10 = .ok (.aload_n 0, 1) := by decide +kernel
theorem d_X8_areAlike_11 : decode prog_4_method_10_code 11 = .ok (.getfield 18, 3) := by decide +kernel
theorem d_X8_areAlike_14 : decode prog_4_method_10_code 14 = .ok (.iload_n 1, 1) := by decide +kernel
theorem d_X8_areAlike_15 : decode prog_4_method_10_code 15 = .ok (.bipush 6, 2) := by decide +kernel
theorem d_X8_areAlike_17 : decode prog_4_method_10_code 17 = .ok (.imul, 1) := by decide +kernel
theorem d_X8_areAlike_18 : decode prog_4_method_10_code 18 = .ok (.iload 5, 2) := by decide +kernel
theorem d_X8_areAlike_20 : decode prog_4_method_10_code 20 = .ok (.iadd, 1) := by decide +kernel
theorem d_X8_areAlike_21 : decode prog_4_method_10_code 21 = .ok (.iaload, 1) := by decide +kernel
theorem d_X8_areAlike_22 : decode prog_4_method_10_code 22 = .ok (.istore 6, 2) := by decide +kernel
theorem d_X8_areAlike_24 : decode prog_4_method_10_code 24 = .ok (.iload 6, 2) := by decide +kernel
theorem d_X8_areAlike_26 : decode prog_4_method_10_code 26 = .ok (.iconst (-1), 1) := by decide +kernel
theorem d_X8_areAlike_27 : decode prog_4_method_10_code 27 = .ok (.if_icmp .eq 23, 3) := by decide +kernel
theorem d_X8_areAlike_30 : decode prog_4_method_10_code 30 = .ok (.aload_n 2, 1) := by decide +kernel
theorem d_X8_areAlike_31 : decode prog_4_method_10_code 31 = .ok (.iload_n 3, 1) := by decide +kernel
theorem d_X8_areAlike_32 : decode prog_4_method_10_code 32 = .ok (.iload 6, 2) := by decide +kernel
theorem d_X8_areAlike_34 : decode prog_4_method_10_code 34 = .ok (.invokevirtual 137, 3) := by decide +kernel
theorem d_X8_areAlike_37 : decode prog_4_method_10_code 37 = .ok (.aload_n 2, 1) := by decide +kernel
theorem d_X8_areAlike_38 : decode prog_4_method_10_code 38 = .ok (.iload 4, 2) := by decide +kernel
theorem d_X8_areAlike_40 : decode prog_4_method_10_code 40 = .ok (.iload 6, 2) := by decide +kernel
theorem d_X8_areAlike_42 : decode prog_4_method_10_code 42 = .ok (.invokevirtual 137, 3) := by decide +kernel
theorem d_X8_areAlike_45 : decode prog_4_method_10_code 45 = .ok (.if_icmp .eq 5, 3) := by decide +kernel
theorem d_X8_areAlike_48 : decode prog_4_method_10_code 48 = .ok (.iconst 0, 1) := by decide +kernel
theorem d_X8_areAlike_49 : decode prog_4_method_10_code 49 = .ok (.ireturn, 1) := by decide +kernel
theorem d_X8_areAlike_50 : decode prog_4_method_10_code 50 = .ok (.iinc 5 1, 3) := by decide +kernel
theorem d_X8_areAlike_53 : decode prog_4_method_10_code 53 = .ok (.goto (-50), 3) := by decide +kernel
theorem d_X8_areAlike_56 : decode prog_4_method_10_code 56 = .ok (.iconst 1, 1) := by decide +kernel
theorem d_X8_areAlike_57 : decode prog_4_method_10_code 57 = .ok (.ireturn, 1) := by decide +kernel
abbrev y_X8_orderSlots : MethodName := ⟨"VirtualRewrite$Finder", "orderSlots", "()V"⟩
theorem d_X8_orderSlots_0 : decode prog_4_method_11_code 0 = .ok (.iconst 0, 1) := by decide +kernel
theorem d_X8_orderSlots_1 : decode prog_4_method_11_code 1 = .ok (.istore_n 1, 1) := by decide +kernel
theorem d_X8_orderSlots_2 : decode prog_4_method_11_code 2 = .ok (.iload_n 1, 1) := by decide +kernel
theorem d_X8_orderSlots_3 : decode prog_4_method_11_code 3 = .ok (.aload_n 0, 1) := by decide +kernel
theorem d_X8_orderSlots_4 : decode prog_4_method_11_code 4 = .ok (.getfield 48, 3) := by decide +kernel
theorem d_X8_orderSlots_7 : decode prog_4_method_11_code 7 = .ok (.getfield 65, 3) := by decide +kernel
theorem d_X8_orderSlots_10 : decode prog_4_method_11_code 10 = .ok (.if_icmp .ge 16, 3) := by decide +kernel
theorem d_X8_orderSlots_13 : decode prog_4_method_11_code 13 = .ok (.aload_n 0, 1) := by decide +kernel
theorem d_X8_orderSlots_14 : decode prog_4_method_11_code 14 = .ok (.getfield 27, 3) := by decide +kernel
theorem d_X8_orderSlots_17 : decode prog_4_method_11_code 17 = .ok (.iload_n 1, 1) := by decide +kernel
theorem d_X8_orderSlots_18 : decode prog_4_method_11_code 18 = .ok (.iload_n 1, 1) := by decide +kernel
theorem d_X8_orderSlots_19 : decode prog_4_method_11_code 19 = .ok (.iastore, 1) := by decide +kernel
theorem d_X8_orderSlots_20 : decode prog_4_method_11_code 20 = .ok (.iinc 1 1, 3) := by decide +kernel
theorem d_X8_orderSlots_23 : decode prog_4_method_11_code 23 = .ok (.goto (-21), 3) := by decide +kernel
theorem d_X8_orderSlots_26 : decode prog_4_method_11_code 26 = .ok (.iconst 0, 1) := by decide +kernel
theorem d_X8_orderSlots_27 : decode prog_4_method_11_code 27 = .ok (.istore_n 1, 1) := by decide +kernel
theorem d_X8_orderSlots_28 : decode prog_4_method_11_code 28 = .ok (.iconst 0, 1) := by decide +kernel
theorem d_X8_orderSlots_29 : decode prog_4_method_11_code 29 = .ok (.istore_n 2, 1) := by decide +kernel
theorem d_X8_orderSlots_30 : decode prog_4_method_11_code 30 = .ok (.iload_n 2, 1) := by decide +kernel
theorem d_X8_orderSlots_31 : decode prog_4_method_11_code 31 = .ok (.aload_n 0, 1) := by decide +kernel
theorem d_X8_orderSlots_32 : decode prog_4_method_11_code 32 = .ok (.getfield 48, 3) := by decide +kernel
theorem d_X8_orderSlots_35 : decode prog_4_method_11_code 35 = .ok (.getfield 65, 3) := by decide +kernel
theorem d_X8_orderSlots_38 : decode prog_4_method_11_code 38 = .ok (.if_icmp .ge 96, 3) := by decide +kernel
theorem d_X8_orderSlots_41 : decode prog_4_method_11_code 41 = .ok (.iload_n 2, 1) := by decide +kernel
theorem d_X8_orderSlots_42 : decode prog_4_method_11_code 42 = .ok (.istore_n 3, 1) := by decide +kernel
theorem d_X8_orderSlots_43 : decode prog_4_method_11_code 43 = .ok (.iload_n 2, 1) := by decide +kernel
theorem d_X8_orderSlots_44 : decode prog_4_method_11_code 44 = .ok (.iconst 1, 1) := by decide +kernel
theorem d_X8_orderSlots_45 : decode prog_4_method_11_code 45 = .ok (.iadd, 1) := by decide +kernel
theorem d_X8_orderSlots_46 : decode prog_4_method_11_code 46 = .ok (.istore 4, 2) := by decide +kernel
theorem d_X8_orderSlots_48 : decode prog_4_method_11_code 48 = .ok (.iload 4, 2) := by decide +kernel
theorem d_X8_orderSlots_50 : decode prog_4_method_11_code 50 = .ok (.aload_n 0, 1) := by decide +kernel
theorem d_X8_orderSlots_51 : decode prog_4_method_11_code 51 = .ok (.getfield 48, 3) := by decide +kernel
theorem d_X8_orderSlots_54 : decode prog_4_method_11_code 54 = .ok (.getfield 65, 3) := by decide +kernel
theorem d_X8_orderSlots_57 : decode prog_4_method_11_code 57 = .ok (.if_icmp .ge 33, 3) := by decide +kernel
theorem d_X8_orderSlots_60 : decode prog_4_method_11_code 60 = .ok (.aload_n 0, 1) := by decide +kernel
theorem d_X8_orderSlots_61 : decode prog_4_method_11_code 61 = .ok (.aload_n 0, 1) := by decide +kernel
theorem d_X8_orderSlots_62 : decode prog_4_method_11_code 62 = .ok (.getfield 27, 3) := by decide +kernel
theorem d_X8_orderSlots_65 : decode prog_4_method_11_code 65 = .ok (.iload 4, 2) := by decide +kernel
theorem d_X8_orderSlots_67 : decode prog_4_method_11_code 67 = .ok (.iaload, 1) := by decide +kernel
theorem d_X8_orderSlots_68 : decode prog_4_method_11_code 68 = .ok (.aload_n 0, 1) := by decide +kernel
theorem d_X8_orderSlots_69 : decode prog_4_method_11_code 69 = .ok (.getfield 27, 3) := by decide +kernel
theorem d_X8_orderSlots_72 : decode prog_4_method_11_code 72 = .ok (.iload_n 3, 1) := by decide +kernel
theorem d_X8_orderSlots_73 : decode prog_4_method_11_code 73 = .ok (.iaload, 1) := by decide +kernel
theorem d_X8_orderSlots_74 : decode prog_4_method_11_code 74 = .ok (.iload_n 1, 1) := by decide +kernel
theorem d_X8_orderSlots_75 : decode prog_4_method_11_code 75 = .ok (.invokevirtual 147, 3) := by decide +kernel
theorem d_X8_orderSlots_78 : decode prog_4_method_11_code 78 = .ok (.ifCond .eq 6, 3) := by decide +kernel
theorem d_X8_orderSlots_81 : decode prog_4_method_11_code 81 = .ok (.iload 4, 2) := by decide +kernel
theorem d_X8_orderSlots_83 : decode prog_4_method_11_code 83 = .ok (.istore_n 3, 1) := by decide +kernel
theorem d_X8_orderSlots_84 : decode prog_4_method_11_code 84 = .ok (.iinc 4 1, 3) := by decide +kernel
theorem d_X8_orderSlots_87 : decode prog_4_method_11_code 87 = .ok (.goto (-39), 3) := by decide +kernel
theorem d_X8_orderSlots_90 : decode prog_4_method_11_code 90 = .ok (.aload_n 0, 1) := by decide +kernel
theorem d_X8_orderSlots_91 : decode prog_4_method_11_code 91 = .ok (.getfield 27, 3) := by decide +kernel
theorem d_X8_orderSlots_94 : decode prog_4_method_11_code 94 = .ok (.iload_n 3, 1) := by decide +kernel
theorem d_X8_orderSlots_95 : decode prog_4_method_11_code 95 = .ok (.iaload, 1) := by decide +kernel
theorem d_X8_orderSlots_96 : decode prog_4_method_11_code 96 = .ok (.istore 4, 2) := by decide +kernel
theorem d_X8_orderSlots_98 : decode prog_4_method_11_code 98 = .ok (.aload_n 0, 1) := by decide +kernel
theorem d_X8_orderSlots_99 : decode prog_4_method_11_code 99 = .ok (.getfield 27, 3) := by decide +kernel
theorem d_X8_orderSlots_102 : decode prog_4_method_11_code 102 = .ok (.iload_n 3, 1) := by decide +kernel
theorem d_X8_orderSlots_103 : decode prog_4_method_11_code 103 = .ok (.aload_n 0, 1) := by decide +kernel
theorem d_X8_orderSlots_104 : decode prog_4_method_11_code 104 = .ok (.getfield 27, 3) := by decide +kernel
theorem d_X8_orderSlots_107 : decode prog_4_method_11_code 107 = .ok (.iload_n 2, 1) := by decide +kernel
theorem d_X8_orderSlots_108 : decode prog_4_method_11_code 108 = .ok (.iaload, 1) := by decide +kernel
theorem d_X8_orderSlots_109 : decode prog_4_method_11_code 109 = .ok (.iastore, 1) := by decide +kernel
theorem d_X8_orderSlots_110 : decode prog_4_method_11_code 110 = .ok (.aload_n 0, 1) := by decide +kernel
theorem d_X8_orderSlots_111 : decode prog_4_method_11_code 111 = .ok (.getfield 27, 3) := by decide +kernel
theorem d_X8_orderSlots_114 : decode prog_4_method_11_code 114 = .ok (.iload_n 2, 1) := by decide +kernel
theorem d_X8_orderSlots_115 : decode prog_4_method_11_code 115 = .ok (.iload 4, 2) := by decide +kernel
theorem d_X8_orderSlots_117 : decode prog_4_method_11_code 117 = .ok (.iastore, 1) := by decide +kernel
theorem d_X8_orderSlots_118 : decode prog_4_method_11_code 118 = .ok (.iload_n 1, 1) := by decide +kernel
theorem d_X8_orderSlots_119 : decode prog_4_method_11_code 119 = .ok (.aload_n 0, 1) := by decide +kernel
theorem d_X8_orderSlots_120 : decode prog_4_method_11_code 120 = .ok (.getfield 15, 3) := by decide +kernel
theorem d_X8_orderSlots_123 : decode prog_4_method_11_code 123 = .ok (.iload 4, 2) := by decide +kernel
theorem d_X8_orderSlots_125 : decode prog_4_method_11_code 125 = .ok (.iaload, 1) := by decide +kernel
theorem d_X8_orderSlots_126 : decode prog_4_method_11_code 126 = .ok (.ior, 1) := by decide +kernel
theorem d_X8_orderSlots_127 : decode prog_4_method_11_code 127 = .ok (.istore_n 1, 1) := by decide +kernel
theorem d_X8_orderSlots_128 : decode prog_4_method_11_code 128 = .ok (.iinc 2 1, 3) := by decide +kernel
theorem d_X8_orderSlots_131 : decode prog_4_method_11_code 131 = .ok (.goto (-101), 3) := by decide +kernel
theorem d_X8_orderSlots_134 : decode prog_4_method_11_code 134 = .ok (.return_, 1) := by decide +kernel
abbrev y_X8_isBetter : MethodName := ⟨"VirtualRewrite$Finder", "isBetter", "(III)Z"⟩
theorem d_X8_isBetter_0 : decode prog_4_method_12_code 0 = .ok (.aload_n 0, 1) := by decide +kernel
theorem d_X8_isBetter_1 : decode prog_4_method_12_code 1 = .ok (.getfield 15, 3) := by decide +kernel
theorem d_X8_isBetter_4 : decode prog_4_method_12_code 4 = .ok (.iload_n 1, 1) := by decide +kernel
theorem d_X8_isBetter_5 : decode prog_4_method_12_code 5 = .ok (.iaload, 1) := by decide +kernel
theorem d_X8_isBetter_6 : decode prog_4_method_12_code 6 = .ok (.iload_n 3, 1) := by decide +kernel
theorem d_X8_isBetter_7 : decode prog_4_method_12_code 7 = .ok (.iand, 1) := by decide +kernel
theorem d_X8_isBetter_8 : decode prog_4_method_12_code 8 = .ok (.invokestatic 151, 3) := by decide +kernel
theorem d_X8_isBetter_11 : decode prog_4_method_12_code 11 = .ok (.istore 4, 2) := by decide +kernel
theorem d_X8_isBetter_13 : decode prog_4_method_12_code 13 = .ok (.aload_n 0, 1) := by decide +kernel
theorem d_X8_isBetter_14 : decode prog_4_method_12_code 14 = .ok (.getfield 15, 3) := by decide +kernel
theorem d_X8_isBetter_17 : decode prog_4_method_12_code 17 = .ok (.iload_n 2, 1) := by decide +kernel
theorem d_X8_isBetter_18 : decode prog_4_method_12_code 18 = .ok (.iaload, 1) := by decide +kernel
theorem d_X8_isBetter_19 : decode prog_4_method_12_code 19 = .ok (.iload_n 3, 1) := by decide +kernel
theorem d_X8_isBetter_20 : decode prog_4_method_12_code 20 = .ok (.iand, 1) := by decide +kernel
theorem d_X8_isBetter_21 : decode prog_4_method_12_code 21 = .ok (.invokestatic 151, 3) := by decide +kernel
theorem d_X8_isBetter_24 : decode prog_4_method_12_code 24 = .ok (.istore 5, 2) := by decide +kernel
theorem d_X8_isBetter_26 : decode prog_4_method_12_code 26 = .ok (.iload 4, 2) := by decide +kernel
theorem d_X8_isBetter_28 : decode prog_4_method_12_code 28 = .ok (.iload 5, 2) := by decide +kernel
theorem d_X8_isBetter_30 : decode prog_4_method_12_code 30 = .ok (.if_icmp .eq 18, 3) := by decide +kernel
theorem d_X8_isBetter_33 : decode prog_4_method_12_code 33 = .ok (.iload 4, 2) := by decide +kernel
theorem d_X8_isBetter_35 : decode prog_4_method_12_code 35 = .ok (.iload 5, 2) := by decide +kernel
theorem d_X8_isBetter_37 : decode prog_4_method_12_code 37 = .ok (.if_icmp .le 7, 3) := by decide +kernel
theorem d_X8_isBetter_40 : decode prog_4_method_12_code 40 = .ok (.iconst 1, 1) := by decide +kernel
theorem d_X8_isBetter_41 : decode prog_4_method_12_code 41 = .ok (.goto 27, 3) := by decide +kernel
theorem d_X8_isBetter_44 : decode prog_4_method_12_code 44 = .ok (.iconst 0, 1) := by decide +kernel
theorem d_X8_isBetter_45 : decode prog_4_method_12_code 45 = .ok (.goto 23, 3) := by decide +kernel
theorem d_X8_isBetter_48 : decode prog_4_method_12_code 48 = .ok (.aload_n 0, 1) := by decide +kernel
theorem d_X8_isBetter_49 : decode prog_4_method_12_code 49 = .ok (.getfield 24, 3) := by decide +kernel
theorem d_X8_isBetter_52 : decode prog_4_method_12_code 52 = .ok (.iload_n 1, 1) := by decide +kernel
theorem d_X8_isBetter_53 : decode prog_4_method_12_code 53 = .ok (.iaload, 1) := by decide +kernel
theorem d_X8_isBetter_54 : decode prog_4_method_12_code 54 = .ok (.aload_n 0, 1) := by decide +kernel
theorem d_X8_isBetter_55 : decode prog_4_method_12_code 55 = .ok (.getfield 24, 3) := by decide +kernel
theorem d_X8_isBetter_58 : decode prog_4_method_12_code 58 = .ok (.iload_n 2, 1) := by decide +kernel
theorem d_X8_isBetter_59 : decode prog_4_method_12_code 59 = .ok (.iaload, 1) := by decide +kernel
theorem d_X8_isBetter_60 : decode prog_4_method_12_code 60 = .ok (.if_icmp .ge 7, 3) := by decide +kernel
theorem d_X8_isBetter_63 : decode prog_4_method_12_code 63 = .ok (.iconst 1, 1) := by decide +kernel
theorem d_X8_isBetter_64 : decode prog_4_method_12_code 64 = .ok (.goto 4, 3) := by decide +kernel
theorem d_X8_isBetter_67 : decode prog_4_method_12_code 67 = .ok (.iconst 0, 1) := by decide +kernel
theorem d_X8_isBetter_68 : decode prog_4_method_12_code 68 = .ok (.ireturn, 1) := by decide +kernel
abbrev y_JInteger_bitCount : MethodName := ⟨"java/lang/Integer", "bitCount", "(I)I"⟩
theorem d_JInteger_bitCount_0 : decode prog_14_method_49_code 0 = .ok (.iload_n 0, 1) := by decide +kernel
theorem d_JInteger_bitCount_1 : decode prog_14_method_49_code 1 = .ok (.iload_n 0, 1) := by decide +kernel
theorem d_JInteger_bitCount_2 : decode prog_14_method_49_code 2 = .ok (.iconst 1, 1) := by decide +kernel
theorem d_JInteger_bitCount_3 : decode prog_14_method_49_code 3 = .ok (.iushr, 1) := by decide +kernel
theorem d_JInteger_bitCount_4 : decode prog_14_method_49_code 4 = .ok (.ldc_w 265, 3) := by decide +kernel
theorem d_JInteger_bitCount_7 : decode prog_14_method_49_code 7 = .ok (.iand, 1) := by decide +kernel
theorem d_JInteger_bitCount_8 : decode prog_14_method_49_code 8 = .ok (.isub, 1) := by decide +kernel
theorem d_JInteger_bitCount_9 : decode prog_14_method_49_code 9 = .ok (.istore_n 0, 1) := by decide +kernel
theorem d_JInteger_bitCount_10 : decode prog_14_method_49_code 10 = .ok (.iload_n 0, 1) := by decide +kernel
theorem d_JInteger_bitCount_11 : decode prog_14_method_49_code 11 = .ok (.ldc_w 266, 3) := by decide +kernel
theorem d_JInteger_bitCount_14 : decode prog_14_method_49_code 14 = .ok (.iand, 1) := by decide +kernel
theorem d_JInteger_bitCount_15 : decode prog_14_method_49_code 15 = .ok (.iload_n 0, 1) := by decide +kernel
theorem d_JInteger_bitCount_16 : decode prog_14_method_49_code 16 = .ok (.iconst 2, 1) := by decide +kernel
theorem d_JInteger_bitCount_17 : decode prog_14_method_49_code 17 = .ok (.iushr, 1) := by decide +kernel
theorem d_JInteger_bitCount_18 : decode prog_14_method_49_code 18 = .ok (.ldc_w 266, 3) := by decide +kernel
theorem d_JInteger_bitCount_21 : decode prog_14_method_49_code 21 = .ok (.iand, 1) := by decide +kernel
theorem d_JInteger_bitCount_22 : decode prog_14_method_49_code 22 = .ok (.iadd, 1) := by decide +kernel
theorem d_JInteger_bitCount_23 : decode prog_14_method_49_code 23 = .ok (.istore_n 0, 1) := by decide +kernel
theorem d_JInteger_bitCount_24 : decode prog_14_method_49_code 24 = .ok (.iload_n 0, 1) := by decide +kernel
theorem d_JInteger_bitCount_25 : decode prog_14_method_49_code 25 = .ok (.iload_n 0, 1) := by decide +kernel
theorem d_JInteger_bitCount_26 : decode prog_14_method_49_code 26 = .ok (.iconst 4, 1) := by decide +kernel
theorem d_JInteger_bitCount_27 : decode prog_14_method_49_code 27 = .ok (.iushr, 1) := by decide +kernel
theorem d_JInteger_bitCount_28 : decode prog_14_method_49_code 28 = .ok (.iadd, 1) := by decide +kernel
theorem d_JInteger_bitCount_29 : decode prog_14_method_49_code 29 = .ok (.ldc_w 267, 3) := by decide +kernel
theorem d_JInteger_bitCount_32 : decode prog_14_method_49_code 32 = .ok (.iand, 1) := by decide +kernel
theorem d_JInteger_bitCount_33 : decode prog_14_method_49_code 33 = .ok (.istore_n 0, 1) := by decide +kernel
theorem d_JInteger_bitCount_34 : decode prog_14_method_49_code 34 = .ok (.iload_n 0, 1) := by decide +kernel
theorem d_JInteger_bitCount_35 : decode prog_14_method_49_code 35 = .ok (.iload_n 0, 1) := by decide +kernel
theorem d_JInteger_bitCount_36 : decode prog_14_method_49_code 36 = .ok (.bipush 8, 2) := by decide +kernel
theorem d_JInteger_bitCount_38 : decode prog_14_method_49_code 38 = .ok (.iushr, 1) := by decide +kernel
theorem d_JInteger_bitCount_39 : decode prog_14_method_49_code 39 = .ok (.iadd, 1) := by decide +kernel
theorem d_JInteger_bitCount_40 : decode prog_14_method_49_code 40 = .ok (.istore_n 0, 1) := by decide +kernel
theorem d_JInteger_bitCount_41 : decode prog_14_method_49_code 41 = .ok (.iload_n 0, 1) := by decide +kernel
theorem d_JInteger_bitCount_42 : decode prog_14_method_49_code 42 = .ok (.iload_n 0, 1) := by decide +kernel
theorem d_JInteger_bitCount_43 : decode prog_14_method_49_code 43 = .ok (.bipush 16, 2) := by decide +kernel
theorem d_JInteger_bitCount_45 : decode prog_14_method_49_code 45 = .ok (.iushr, 1) := by decide +kernel
theorem d_JInteger_bitCount_46 : decode prog_14_method_49_code 46 = .ok (.iadd, 1) := by decide +kernel
theorem d_JInteger_bitCount_47 : decode prog_14_method_49_code 47 = .ok (.istore_n 0, 1) := by decide +kernel
theorem d_JInteger_bitCount_48 : decode prog_14_method_49_code 48 = .ok (.iload_n 0, 1) := by decide +kernel
theorem d_JInteger_bitCount_49 : decode prog_14_method_49_code 49 = .ok (.bipush 63, 2) := by decide +kernel
theorem d_JInteger_bitCount_51 : decode prog_14_method_49_code 51 = .ok (.iand, 1) := by decide +kernel
theorem d_JInteger_bitCount_52 : decode prog_14_method_49_code 52 = .ok (.ireturn, 1) := by decide +kernel
abbrev y_X8_search : MethodName := ⟨"VirtualRewrite$Finder", "search", "(II)I"⟩
theorem d_X8_search_0 : decode prog_4_method_13_code 0 = .ok (.iload_n 1, 1) := by decide +kernel
theorem d_X8_search_1 : decode prog_4_method_13_code 1 = .ok (.aload_n 0, 1) := by decide +kernel
theorem d_X8_search_2 : decode prog_4_method_13_code 2 = .ok (.getfield 48, 3) := by decide +kernel
theorem d_X8_search_5 : decode prog_4_method_13_code 5 = .ok (.getfield 65, 3) := by decide +kernel
theorem d_X8_search_8 : decode prog_4_method_13_code 8 = .ok (.if_icmp .lt 20, 3) := by decide +kernel
theorem d_X8_search_11 : decode prog_4_method_13_code 11 = .ok (.aload_n 0, 1) := by decide +kernel
theorem d_X8_search_12 : decode prog_4_method_13_code 12 = .ok (.getfield 52, 3) := by decide +kernel
theorem d_X8_search_15 : decode prog_4_method_13_code 15 = .ok (.aload_n 0, 1) := by decide +kernel
theorem d_X8_search_16 : decode prog_4_method_13_code 16 = .ok (.getfield 33, 3) := by decide +kernel
theorem d_X8_search_19 : decode prog_4_method_13_code 19 = .ok (.aload_n 0, 1) := by decide +kernel
theorem d_X8_search_20 : decode prog_4_method_13_code 20 = .ok (.getfield 36, 3) := by decide +kernel
theorem d_X8_search_23 : decode prog_4_method_13_code 23 = .ok (.invokevirtual 156, 3) := by decide +kernel
theorem d_X8_search_26 : decode prog_4_method_13_code 26 = .ok (.iconst (-1), 1) := by decide +kernel
theorem d_X8_search_27 : decode prog_4_method_13_code 27 = .ok (.ireturn, 1) := by decide +kernel
theorem d_X8_search_28 : decode prog_4_method_13_code 28 = .ok (.aload_n 0, 1) := by decide +kernel
theorem d_X8_search_29 : decode prog_4_method_13_code 29 = .ok (.getfield 27, 3) := by decide +kernel
theorem d_X8_search_32 : decode prog_4_method_13_code 32 = .ok (.iload_n 1, 1) := by decide +kernel
theorem d_X8_search_33 : decode prog_4_method_13_code 33 = .ok (.iaload, 1) := by decide +kernel
theorem d_X8_search_34 : decode prog_4_method_13_code 34 = .ok (.istore_n 3, 1) := by decide +kernel
theorem d_X8_search_35 : decode prog_4_method_13_code 35 = .ok (.aload_n 0, 1) := by decide +kernel
theorem d_X8_search_36 : decode prog_4_method_13_code 36 = .ok (.iload_n 3, 1) := by decide +kernel
theorem d_X8_search_37 : decode prog_4_method_13_code 37 = .ok (.invokevirtual 118, 3) := by decide +kernel
theorem d_X8_search_40 : decode prog_4_method_13_code 40 = .ok (.astore 4, 2) := by decide +kernel
theorem d_X8_search_42 : decode prog_4_method_13_code 42 = .ok (.iload_n 2, 1) := by decide +kernel
theorem d_X8_search_43 : decode prog_4_method_13_code 43 = .ok (.aload_n 0, 1) := by decide +kernel
theorem d_X8_search_44 : decode prog_4_method_13_code 44 = .ok (.getfield 15, 3) := by decide +kernel
theorem d_X8_search_47 : decode prog_4_method_13_code 47 = .ok (.iload_n 3, 1) := by decide +kernel
theorem d_X8_search_48 : decode prog_4_method_13_code 48 = .ok (.iaload, 1) := by decide +kernel
theorem d_X8_search_49 : decode prog_4_method_13_code 49 = .ok (.ior, 1) := by decide +kernel
theorem d_X8_search_50 : decode prog_4_method_13_code 50 = .ok (.istore 5, 2) := by decide +kernel
theorem d_X8_search_52 : decode prog_4_method_13_code 52 = .ok (.iload_n 2, 1) := by decide +kernel
theorem d_X8_search_53 : decode prog_4_method_13_code 53 = .ok (.aload_n 0, 1) := by decide +kernel
theorem d_X8_search_54 : decode prog_4_method_13_code 54 = .ok (.getfield 15, 3) := by decide +kernel
theorem d_X8_search_57 : decode prog_4_method_13_code 57 = .ok (.iload_n 3, 1) := by decide +kernel
theorem d_X8_search_58 : decode prog_4_method_13_code 58 = .ok (.iaload, 1) := by decide +kernel
theorem d_X8_search_59 : decode prog_4_method_13_code 59 = .ok (.iand, 1) := by decide +kernel
theorem d_X8_search_60 : decode prog_4_method_13_code 60 = .ok (.istore 6, 2) := by decide +kernel
theorem d_X8_search_62 : decode prog_4_method_13_code 62 = .ok (.iconst 0, 1) := by decide +kernel
theorem d_X8_search_63 : decode prog_4_method_13_code 63 = .ok (.istore 7, 2) := by decide +kernel
theorem d_X8_search_65 : decode prog_4_method_13_code 65 = .ok (.iconst 0, 1) := by decide +kernel
theorem d_X8_search_66 : decode prog_4_method_13_code 66 = .ok (.istore 8, 2) := by decide +kernel
theorem d_X8_search_68 : decode prog_4_method_13_code 68 = .ok (.iload 8, 2) := by decide +kernel
theorem d_X8_search_70 : decode prog_4_method_13_code 70 = .ok (.aload_n 0, 1) := by decide +kernel
theorem d_X8_search_71 : decode prog_4_method_13_code 71 = .ok (.getfield 24, 3) := by decide +kernel
theorem d_X8_search_74 : decode prog_4_method_13_code 74 = .ok (.iload_n 3, 1) := by decide +kernel
theorem d_X8_search_75 : decode prog_4_method_13_code 75 = .ok (.iaload, 1) := by decide +kernel
theorem d_X8_search_76 : decode prog_4_method_13_code 76 = .ok (.if_icmp .ge 97, 3) := by decide +kernel
theorem d_X8_search_79 : decode prog_4_method_13_code 79 = .ok (.aload_n 0, 1) := by decide +kernel
theorem d_X8_search_80 : decode prog_4_method_13_code 80 = .ok (.getfield 52, 3) := by decide +kernel
theorem d_X8_search_83 : decode prog_4_method_13_code 83 = .ok (.getfield 162, 3) := by decide +kernel
theorem d_X8_search_86 : decode prog_4_method_13_code 86 = .ok (.ifCond .ne 87, 3) := by decide +kernel
theorem d_X8_search_89 : decode prog_4_method_13_code 89 = .ok (.aload_n 0, 1) := by decide +kernel
theorem d_X8_search_90 : decode prog_4_method_13_code 90 = .ok (.getfield 21, 3) := by decide +kernel
theorem d_X8_search_93 : decode prog_4_method_13_code 93 = .ok (.iload_n 3, 1) := by decide +kernel
theorem d_X8_search_94 : decode prog_4_method_13_code 94 = .ok (.bipush 20, 2) := by decide +kernel
theorem d_X8_search_96 : decode prog_4_method_13_code 96 = .ok (.imul, 1) := by decide +kernel
theorem d_X8_search_97 : decode prog_4_method_13_code 97 = .ok (.iload 8, 2) := by decide +kernel
theorem d_X8_search_99 : decode prog_4_method_13_code 99 = .ok (.iadd, 1) := by decide +kernel
theorem d_X8_search_100 : decode prog_4_method_13_code 100 = .ok (.iaload, 1) := by decide +kernel
theorem d_X8_search_101 : decode prog_4_method_13_code 101 = .ok (.istore 9, 2) := by decide +kernel
theorem d_X8_search_103 : decode prog_4_method_13_code 103 = .ok (.aload_n 0, 1) := by decide +kernel
theorem d_X8_search_104 : decode prog_4_method_13_code 104 = .ok (.iload_n 3, 1) := by decide +kernel
theorem d_X8_search_105 : decode prog_4_method_13_code 105 = .ok (.aload 4, 2) := by decide +kernel
theorem d_X8_search_107 : decode prog_4_method_13_code 107 = .ok (.iload 9, 2) := by decide +kernel
theorem d_X8_search_109 : decode prog_4_method_13_code 109 = .ok (.iload_n 2, 1) := by decide +kernel
theorem d_X8_search_110 : decode prog_4_method_13_code 110 = .ok (.invokevirtual 166, 3) := by decide +kernel
theorem d_X8_search_113 : decode prog_4_method_13_code 113 = .ok (.ifCond .eq 54, 3) := by decide +kernel
theorem d_X8_search_116 : decode prog_4_method_13_code 116 = .ok (.aload_n 0, 1) := by decide +kernel
theorem d_X8_search_117 : decode prog_4_method_13_code 117 = .ok (.iload_n 3, 1) := by decide +kernel
theorem d_X8_search_118 : decode prog_4_method_13_code 118 = .ok (.aload 4, 2) := by decide +kernel
theorem d_X8_search_120 : decode prog_4_method_13_code 120 = .ok (.iload 9, 2) := by decide +kernel
theorem d_X8_search_122 : decode prog_4_method_13_code 122 = .ok (.invokevirtual 169, 3) := by decide +kernel
theorem d_X8_search_125 : decode prog_4_method_13_code 125 = .ok (.aload_n 0, 1) := by decide +kernel
theorem d_X8_search_126 : decode prog_4_method_13_code 126 = .ok (.iload_n 1, 1) := by decide +kernel
theorem d_X8_search_127 : decode prog_4_method_13_code 127 = .ok (.iconst 1, 1) := by decide +kernel
theorem d_X8_search_128 : decode prog_4_method_13_code 128 = .ok (.iadd, 1) := by decide +kernel
theorem d_X8_search_129 : decode prog_4_method_13_code 129 = .ok (.iload 5, 2) := by decide +kernel
theorem d_X8_search_131 : decode prog_4_method_13_code 131 = .ok (.invokevirtual 74, 3) := by decide +kernel
theorem d_X8_search_134 : decode prog_4_method_13_code 134 = .ok (.istore 10, 2) := by decide +kernel
theorem d_X8_search_136 : decode prog_4_method_13_code 136 = .ok (.iload 10, 2) := by decide +kernel
theorem d_X8_search_138 : decode prog_4_method_13_code 138 = .ok (.iconst (-1), 1) := by decide +kernel
theorem d_X8_search_139 : decode prog_4_method_13_code 139 = .ok (.if_icmp .ne 9, 3) := by decide +kernel
theorem d_X8_search_142 : decode prog_4_method_13_code 142 = .ok (.iconst 1, 1) := by decide +kernel
theorem d_X8_search_143 : decode prog_4_method_13_code 143 = .ok (.istore 7, 2) := by decide +kernel
theorem d_X8_search_145 : decode prog_4_method_13_code 145 = .ok (.goto 22, 3) := by decide +kernel
theorem d_X8_search_148 : decode prog_4_method_13_code 148 = .ok (.iload 10, 2) := by decide +kernel
theorem d_X8_search_150 : decode prog_4_method_13_code 150 = .ok (.iload_n 2, 1) := by decide +kernel
theorem d_X8_search_151 : decode prog_4_method_13_code 151 = .ok (.iconst (-1), 1) := by decide +kernel
theorem d_X8_search_152 : decode prog_4_method_13_code 152 = .ok (.ixor, 1) := by decide +kernel
theorem d_X8_search_153 : decode prog_4_method_13_code 153 = .ok (.iand, 1) := by decide +kernel
theorem d_X8_search_154 : decode prog_4_method_13_code 154 = .ok (.ifCond .ne 6, 3) := by decide +kernel
theorem d_X8_search_157 : decode prog_4_method_13_code 157 = .ok (.iload 10, 2) := by decide +kernel
theorem d_X8_search_159 : decode prog_4_method_13_code 159 = .ok (.ireturn, 1) := by decide +kernel
theorem d_X8_search_160 : decode prog_4_method_13_code 160 = .ok (.iload 6, 2) := by decide +kernel
theorem d_X8_search_162 : decode prog_4_method_13_code 162 = .ok (.iload 10, 2) := by decide +kernel
theorem d_X8_search_164 : decode prog_4_method_13_code 164 = .ok (.ior, 1) := by decide +kernel
theorem d_X8_search_165 : decode prog_4_method_13_code 165 = .ok (.istore 6, 2) := by decide +kernel
theorem d_X8_search_167 : decode prog_4_method_13_code 167 = .ok (.iinc 8 1, 3) := by decide +kernel
theorem d_X8_search_170 : decode prog_4_method_13_code 170 = .ok (.goto (-102), 3) := by decide +kernel
theorem d_X8_search_173 : decode prog_4_method_13_code 173 = .ok (.iload 7, 2) := by decide +kernel
theorem d_X8_search_175 : decode prog_4_method_13_code 175 = .ok (.ifCond .eq 7, 3) := by decide +kernel
theorem d_X8_search_178 : decode prog_4_method_13_code 178 = .ok (.iconst (-1), 1) := by decide +kernel
theorem d_X8_search_179 : decode prog_4_method_13_code 179 = .ok (.goto 7, 3) := by decide +kernel
theorem d_X8_search_182 : decode prog_4_method_13_code 182 = .ok (.iload 6, 2) := by decide +kernel
theorem d_X8_search_184 : decode prog_4_method_13_code 184 = .ok (.iload_n 2, 1) := by decide +kernel
theorem d_X8_search_185 : decode prog_4_method_13_code 185 = .ok (.iand, 1) := by decide +kernel
theorem d_X8_search_186 : decode prog_4_method_13_code 186 = .ok (.ireturn, 1) := by decide +kernel
abbrev y_X7_take : MethodName := ⟨"VirtualRewrite$Answers", "take", "([II)V"⟩
theorem d_X7_take_0 : decode prog_2_method_6_code 0 = .ok (.aload_n 0, 1) := by decide +kernel
theorem d_X7_take_1 : decode prog_2_method_6_code 1 = .ok (.aload_n 1, 1) := by decide +kernel
theorem d_X7_take_2 : decode prog_2_method_6_code 2 = .ok (.invokevirtual 35, 3) := by decide +kernel
theorem d_X7_take_5 : decode prog_2_method_6_code 5 = .ok (.istore_n 3, 1) := by decide +kernel
theorem d_X7_take_6 : decode prog_2_method_6_code 6 = .ok (.iload_n 3, 1) := by decide +kernel
theorem d_X7_take_7 : decode prog_2_method_6_code 7 = .ok (.aload_n 0, 1) := by decide +kernel
theorem d_X7_take_8 : decode prog_2_method_6_code 8 = .ok (.getfield 24, 3) := by decide +kernel
theorem d_X7_take_11 : decode prog_2_method_6_code 11 = .ok (.if_icmp .ge 30, 3) := by decide +kernel
theorem d_X7_take_14 : decode prog_2_method_6_code 14 = .ok (.aload_n 0, 1) := by decide +kernel
theorem d_X7_take_15 : decode prog_2_method_6_code 15 = .ok (.iload_n 3, 1) := by decide +kernel
theorem d_X7_take_16 : decode prog_2_method_6_code 16 = .ok (.aload_n 1, 1) := by decide +kernel
theorem d_X7_take_17 : decode prog_2_method_6_code 17 = .ok (.invokevirtual 39, 3) := by decide +kernel
theorem d_X7_take_20 : decode prog_2_method_6_code 20 = .ok (.ifCond .ne 21, 3) := by decide +kernel
theorem d_X7_take_23 : decode prog_2_method_6_code 23 = .ok (.aload_n 0, 1) := by decide +kernel
theorem d_X7_take_24 : decode prog_2_method_6_code 24 = .ok (.getfield 18, 3) := by decide +kernel
theorem d_X7_take_27 : decode prog_2_method_6_code 27 = .ok (.aload_n 0, 1) := by decide +kernel
theorem d_X7_take_28 : decode prog_2_method_6_code 28 = .ok (.getfield 15, 3) := by decide +kernel
theorem d_X7_take_31 : decode prog_2_method_6_code 31 = .ok (.iload_n 3, 1) := by decide +kernel
theorem d_X7_take_32 : decode prog_2_method_6_code 32 = .ok (.iaload, 1) := by decide +kernel
theorem d_X7_take_33 : decode prog_2_method_6_code 33 = .ok (.dup2, 1) := by decide +kernel
theorem d_X7_take_34 : decode prog_2_method_6_code 34 = .ok (.iaload, 1) := by decide +kernel
theorem d_X7_take_35 : decode prog_2_method_6_code 35 = .ok (.iconst 1, 1) := by decide +kernel
theorem d_X7_take_36 : decode prog_2_method_6_code 36 = .ok (.iadd, 1) := by decide +kernel
theorem d_X7_take_37 : decode prog_2_method_6_code 37 = .ok (.iastore, 1) := by decide +kernel
theorem d_X7_take_38 : decode prog_2_method_6_code 38 = .ok (.goto 28, 3) := by decide +kernel
theorem d_X7_take_41 : decode prog_2_method_6_code 41 = .ok (.aload_n 0, 1) := by decide +kernel
theorem d_X7_take_42 : decode prog_2_method_6_code 42 = .ok (.getfield 24, 3) := by decide +kernel
theorem d_X7_take_45 : decode prog_2_method_6_code 45 = .ok (.sipush 300, 3) := by decide +kernel
theorem d_X7_take_48 : decode prog_2_method_6_code 48 = .ok (.if_icmp .lt 11, 3) := by decide +kernel
theorem d_X7_take_51 : decode prog_2_method_6_code 51 = .ok (.aload_n 0, 1) := by decide +kernel
theorem d_X7_take_52 : decode prog_2_method_6_code 52 = .ok (.iconst 1, 1) := by decide +kernel
theorem d_X7_take_53 : decode prog_2_method_6_code 53 = .ok (.putfield 31, 3) := by decide +kernel
theorem d_X7_take_56 : decode prog_2_method_6_code 56 = .ok (.goto 10, 3) := by decide +kernel
theorem d_X7_take_59 : decode prog_2_method_6_code 59 = .ok (.aload_n 0, 1) := by decide +kernel
theorem d_X7_take_60 : decode prog_2_method_6_code 60 = .ok (.iload_n 3, 1) := by decide +kernel
theorem d_X7_take_61 : decode prog_2_method_6_code 61 = .ok (.aload_n 1, 1) := by decide +kernel
theorem d_X7_take_62 : decode prog_2_method_6_code 62 = .ok (.iload_n 2, 1) := by decide +kernel
theorem d_X7_take_63 : decode prog_2_method_6_code 63 = .ok (.invokevirtual 43, 3) := by decide +kernel
theorem d_X7_take_66 : decode prog_2_method_6_code 66 = .ok (.return_, 1) := by decide +kernel
abbrev y_X7_firstNotBefore : MethodName := ⟨"VirtualRewrite$Answers", "firstNotBefore", "([I)I"⟩
theorem d_X7_firstNotBefore_0 : decode prog_2_method_8_code 0 = .ok (.iconst 0, 1) := by decide +kernel
theorem d_X7_firstNotBefore_1 : decode prog_2_method_8_code 1 = .ok (.istore_n 2, 1) := by decide +kernel
theorem d_X7_firstNotBefore_2 : decode prog_2_method_8_code 2 = .ok (.aload_n 0, 1) := by decide +kernel
theorem d_X7_firstNotBefore_3 : decode prog_2_method_8_code 3 = .ok (.getfield 24, 3) := by decide +kernel
theorem d_X7_firstNotBefore_6 : decode prog_2_method_8_code 6 = .ok (.istore_n 3, 1) := by decide +kernel
theorem d_X7_firstNotBefore_7 : decode prog_2_method_8_code 7 = .ok (.iload_n 2, 1) := by decide +kernel
theorem d_X7_firstNotBefore_8 : decode prog_2_method_8_code 8 = .ok (.iload_n 3, 1) := by decide +kernel
theorem d_X7_firstNotBefore_9 : decode prog_2_method_8_code 9 = .ok (.if_icmp .ge 34, 3) := by decide +kernel
theorem d_X7_firstNotBefore_12 : decode prog_2_method_8_code 12 = .ok (.iload_n 2, 1) := by decide +kernel
theorem d_X7_firstNotBefore_13 : decode prog_2_method_8_code 13 = .ok (.iload_n 3, 1) := by decide +kernel
theorem d_X7_firstNotBefore_14 : decode prog_2_method_8_code 14 = .ok (.iadd, 1) := by decide +kernel
theorem d_X7_firstNotBefore_15 : decode prog_2_method_8_code 15 = .ok (.iconst 1, 1) := by decide +kernel
theorem d_X7_firstNotBefore_16 : decode prog_2_method_8_code 16 = .ok (.iushr, 1) := by decide +kernel
theorem d_X7_firstNotBefore_17 : decode prog_2_method_8_code 17 = .ok (.istore 4, 2) := by decide +kernel
theorem d_X7_firstNotBefore_19 : decode prog_2_method_8_code 19 = .ok (.aload_n 0, 1) := by decide +kernel
theorem d_X7_firstNotBefore_20 : decode prog_2_method_8_code 20 = .ok (.iload 4, 2) := by decide +kernel
theorem d_X7_firstNotBefore_22 : decode prog_2_method_8_code 22 = .ok (.aload_n 1, 1) := by decide +kernel
theorem d_X7_firstNotBefore_23 : decode prog_2_method_8_code 23 = .ok (.invokevirtual 39, 3) := by decide +kernel
theorem d_X7_firstNotBefore_26 : decode prog_2_method_8_code 26 = .ok (.ifCond .ge 11, 3) := by decide +kernel
theorem d_X7_firstNotBefore_29 : decode prog_2_method_8_code 29 = .ok (.iload 4, 2) := by decide +kernel
theorem d_X7_firstNotBefore_31 : decode prog_2_method_8_code 31 = .ok (.iconst 1, 1) := by decide +kernel
theorem d_X7_firstNotBefore_32 : decode prog_2_method_8_code 32 = .ok (.iadd, 1) := by decide +kernel
theorem d_X7_firstNotBefore_33 : decode prog_2_method_8_code 33 = .ok (.istore_n 2, 1) := by decide +kernel
theorem d_X7_firstNotBefore_34 : decode prog_2_method_8_code 34 = .ok (.goto 6, 3) := by decide +kernel
theorem d_X7_firstNotBefore_37 : decode prog_2_method_8_code 37 = .ok (.iload 4, 2) := by decide +kernel
theorem d_X7_firstNotBefore_39 : decode prog_2_method_8_code 39 = .ok (.istore_n 3, 1) := by decide +kernel
theorem d_X7_firstNotBefore_40 : decode prog_2_method_8_code 40 = .ok (.goto (-33), 3) := by decide +kernel
theorem d_X7_firstNotBefore_43 : decode prog_2_method_8_code 43 = .ok (.iload_n 2, 1) := by decide +kernel
theorem d_X7_firstNotBefore_44 : decode prog_2_method_8_code 44 = .ok (.ireturn, 1) := by decide +kernel
abbrev y_X7_compare : MethodName := ⟨"VirtualRewrite$Answers", "compare", "(I[I)I"⟩
theorem d_X7_compare_0 : decode prog_2_method_9_code 0 = .ok (.iconst 0, 1) := by decide +kernel
theorem d_X7_compare_1 : decode prog_2_method_9_code 1 = .ok (.istore_n 3, 1) := by decide +kernel
theorem d_X7_compare_2 : decode prog_2_method_9_code 2 = .ok (.iload_n 3, 1) := by decide +kernel
theorem d_X7_compare_3 : decode prog_2_method_9_code 3 = .ok (.bipush 6, 2) := by decide +kernel
theorem d_X7_compare_5 : decode prog_2_method_9_code 5 = .ok (.if_icmp .ge 29, 3) := by decide +kernel
theorem d_X7_compare_8 : decode prog_2_method_9_code 8 = .ok (.aload_n 0, 1) := by decide +kernel
theorem d_X7_compare_9 : decode prog_2_method_9_code 9 = .ok (.iload_n 1, 1) := by decide +kernel
theorem d_X7_compare_10 : decode prog_2_method_9_code 10 = .ok (.iload_n 3, 1) := by decide +kernel
theorem d_X7_compare_11 : decode prog_2_method_9_code 11 = .ok (.invokevirtual 53, 3) := by decide +kernel
theorem d_X7_compare_14 : decode prog_2_method_9_code 14 = .ok (.aload_n 2, 1) := by decide +kernel
theorem d_X7_compare_15 : decode prog_2_method_9_code 15 = .ok (.iload_n 3, 1) := by decide +kernel
theorem d_X7_compare_16 : decode prog_2_method_9_code 16 = .ok (.iaload, 1) := by decide +kernel
theorem d_X7_compare_17 : decode prog_2_method_9_code 17 = .ok (.isub, 1) := by decide +kernel
theorem d_X7_compare_18 : decode prog_2_method_9_code 18 = .ok (.istore 4, 2) := by decide +kernel
theorem d_X7_compare_20 : decode prog_2_method_9_code 20 = .ok (.iload 4, 2) := by decide +kernel
theorem d_X7_compare_22 : decode prog_2_method_9_code 22 = .ok (.ifCond .eq 6, 3) := by decide +kernel
theorem d_X7_compare_25 : decode prog_2_method_9_code 25 = .ok (.iload 4, 2) := by decide +kernel
theorem d_X7_compare_27 : decode prog_2_method_9_code 27 = .ok (.ireturn, 1) := by decide +kernel
theorem d_X7_compare_28 : decode prog_2_method_9_code 28 = .ok (.iinc 3 1, 3) := by decide +kernel
theorem d_X7_compare_31 : decode prog_2_method_9_code 31 = .ok (.goto (-29), 3) := by decide +kernel
theorem d_X7_compare_34 : decode prog_2_method_9_code 34 = .ok (.iconst 0, 1) := by decide +kernel
theorem d_X7_compare_35 : decode prog_2_method_9_code 35 = .ok (.ireturn, 1) := by decide +kernel
abbrev y_X7_code : MethodName := ⟨"VirtualRewrite$Answers", "code", "(II)I"⟩
theorem d_X7_code_0 : decode prog_2_method_3_code 0 = .ok (.aload_n 0, 1) := by decide +kernel
theorem d_X7_code_1 : decode prog_2_method_3_code 1 = .ok (.getfield 9, 3) := by decide +kernel
theorem d_X7_code_4 : decode prog_2_method_3_code 4 = .ok (.aload_n 0, 1) := by decide +kernel
theorem d_X7_code_5 : decode prog_2_method_3_code 5 = .ok (.getfield 15, 3) := by decide +kernel
theorem d_X7_code_8 : decode prog_2_method_3_code 8 = .ok (.iload_n 1, 1) := by decide +kernel
theorem d_X7_code_9 : decode prog_2_method_3_code 9 = .ok (.iaload, 1) := by decide +kernel
theorem d_X7_code_10 : decode prog_2_method_3_code 10 = .ok (.bipush 6, 2) := by decide +kernel
theorem d_X7_code_12 : decode prog_2_method_3_code 12 = .ok (.imul, 1) := by decide +kernel
theorem d_X7_code_13 : decode prog_2_method_3_code 13 = .ok (.iload_n 2, 1) := by decide +kernel
theorem d_X7_code_14 : decode prog_2_method_3_code 14 = .ok (.iadd, 1) := by decide +kernel
theorem d_X7_code_15 : decode prog_2_method_3_code 15 = .ok (.iaload, 1) := by decide +kernel
theorem d_X7_code_16 : decode prog_2_method_3_code 16 = .ok (.ireturn, 1) := by decide +kernel
abbrev y_X7_insert : MethodName := ⟨"VirtualRewrite$Answers", "insert", "(I[II)V"⟩
theorem d_X7_insert_0 : decode prog_2_method_7_code 0 = .ok (.aload_n 2, 1) := by decide +kernel
theorem d_X7_insert_1 : decode prog_2_method_7_code 1 = .ok (.iconst 0, 1) := by decide +kernel
theorem d_X7_insert_2 : decode prog_2_method_7_code 2 = .ok (.aload_n 0, 1) := by decide +kernel
theorem d_X7_insert_3 : decode prog_2_method_7_code 3 = .ok (.getfield 9, 3) := by decide +kernel
theorem d_X7_insert_6 : decode prog_2_method_7_code 6 = .ok (.aload_n 0, 1) := by decide +kernel
theorem d_X7_insert_7 : decode prog_2_method_7_code 7 = .ok (.getfield 24, 3) := by decide +kernel
theorem d_X7_insert_10 : decode prog_2_method_7_code 10 = .ok (.bipush 6, 2) := by decide +kernel
theorem d_X7_insert_12 : decode prog_2_method_7_code 12 = .ok (.imul, 1) := by decide +kernel
theorem d_X7_insert_13 : decode prog_2_method_7_code 13 = .ok (.bipush 6, 2) := by decide +kernel
theorem d_X7_insert_15 : decode prog_2_method_7_code 15 = .ok (.invokestatic 47, 3) := by decide +kernel
theorem d_X7_insert_18 : decode prog_2_method_7_code 18 = .ok (.aload_n 0, 1) := by decide +kernel
theorem d_X7_insert_19 : decode prog_2_method_7_code 19 = .ok (.getfield 18, 3) := by decide +kernel
theorem d_X7_insert_22 : decode prog_2_method_7_code 22 = .ok (.aload_n 0, 1) := by decide +kernel
theorem d_X7_insert_23 : decode prog_2_method_7_code 23 = .ok (.getfield 24, 3) := by decide +kernel
theorem d_X7_insert_26 : decode prog_2_method_7_code 26 = .ok (.iconst 1, 1) := by decide +kernel
theorem d_X7_insert_27 : decode prog_2_method_7_code 27 = .ok (.iastore, 1) := by decide +kernel
theorem d_X7_insert_28 : decode prog_2_method_7_code 28 = .ok (.aload_n 0, 1) := by decide +kernel
theorem d_X7_insert_29 : decode prog_2_method_7_code 29 = .ok (.getfield 21, 3) := by decide +kernel
theorem d_X7_insert_32 : decode prog_2_method_7_code 32 = .ok (.aload_n 0, 1) := by decide +kernel
theorem d_X7_insert_33 : decode prog_2_method_7_code 33 = .ok (.getfield 24, 3) := by decide +kernel
theorem d_X7_insert_36 : decode prog_2_method_7_code 36 = .ok (.iload_n 3, 1) := by decide +kernel
theorem d_X7_insert_37 : decode prog_2_method_7_code 37 = .ok (.iastore, 1) := by decide +kernel
theorem d_X7_insert_38 : decode prog_2_method_7_code 38 = .ok (.aload_n 0, 1) := by decide +kernel
theorem d_X7_insert_39 : decode prog_2_method_7_code 39 = .ok (.getfield 15, 3) := by decide +kernel
theorem d_X7_insert_42 : decode prog_2_method_7_code 42 = .ok (.iload_n 1, 1) := by decide +kernel
theorem d_X7_insert_43 : decode prog_2_method_7_code 43 = .ok (.aload_n 0, 1) := by decide +kernel
theorem d_X7_insert_44 : decode prog_2_method_7_code 44 = .ok (.getfield 15, 3) := by decide +kernel
theorem d_X7_insert_47 : decode prog_2_method_7_code 47 = .ok (.iload_n 1, 1) := by decide +kernel
theorem d_X7_insert_48 : decode prog_2_method_7_code 48 = .ok (.iconst 1, 1) := by decide +kernel
theorem d_X7_insert_49 : decode prog_2_method_7_code 49 = .ok (.iadd, 1) := by decide +kernel
theorem d_X7_insert_50 : decode prog_2_method_7_code 50 = .ok (.aload_n 0, 1) := by decide +kernel
theorem d_X7_insert_51 : decode prog_2_method_7_code 51 = .ok (.getfield 24, 3) := by decide +kernel
theorem d_X7_insert_54 : decode prog_2_method_7_code 54 = .ok (.iload_n 1, 1) := by decide +kernel
theorem d_X7_insert_55 : decode prog_2_method_7_code 55 = .ok (.isub, 1) := by decide +kernel
theorem d_X7_insert_56 : decode prog_2_method_7_code 56 = .ok (.invokestatic 47, 3) := by decide +kernel
theorem d_X7_insert_59 : decode prog_2_method_7_code 59 = .ok (.aload_n 0, 1) := by decide +kernel
theorem d_X7_insert_60 : decode prog_2_method_7_code 60 = .ok (.getfield 15, 3) := by decide +kernel
theorem d_X7_insert_63 : decode prog_2_method_7_code 63 = .ok (.iload_n 1, 1) := by decide +kernel
theorem d_X7_insert_64 : decode prog_2_method_7_code 64 = .ok (.aload_n 0, 1) := by decide +kernel
theorem d_X7_insert_65 : decode prog_2_method_7_code 65 = .ok (.getfield 24, 3) := by decide +kernel
theorem d_X7_insert_68 : decode prog_2_method_7_code 68 = .ok (.iastore, 1) := by decide +kernel
theorem d_X7_insert_69 : decode prog_2_method_7_code 69 = .ok (.aload_n 0, 1) := by decide +kernel
theorem d_X7_insert_70 : decode prog_2_method_7_code 70 = .ok (.dup, 1) := by decide +kernel
theorem d_X7_insert_71 : decode prog_2_method_7_code 71 = .ok (.getfield 24, 3) := by decide +kernel
theorem d_X7_insert_74 : decode prog_2_method_7_code 74 = .ok (.iconst 1, 1) := by decide +kernel
theorem d_X7_insert_75 : decode prog_2_method_7_code 75 = .ok (.iadd, 1) := by decide +kernel
theorem d_X7_insert_76 : decode prog_2_method_7_code 76 = .ok (.putfield 24, 3) := by decide +kernel
theorem d_X7_insert_79 : decode prog_2_method_7_code 79 = .ok (.return_, 1) := by decide +kernel
end
section
abbrev y_X8_agrees : MethodName := ⟨"VirtualRewrite$Finder", "agrees", "(ILVirtualRewrite$Table;II)Z"⟩
theorem d_X8_agrees_0 : decode prog_4_method_14_code 0 = .ok (.iconst 0, 1) := by decide +kernel
theorem d_X8_agrees_1 : decode prog_4_method_14_code 1 = .ok (.istore 5, 2) := by decide +kernel
theorem d_X8_agrees_3 : decode prog_4_method_14_code 3 = .ok (.iload 5, 2) := by decide +kernel
theorem d_X8_agrees_5 : decode prog_4_method_14_code 5 = .ok (.bipush 6, 2) := by decide +kernel
theorem d_X8_agrees_7 : decode prog_4_method_14_code 7 = .ok (.if_icmp .ge 62, 3) := by decide +kernel
theorem d_X8_agrees_10 : decode prog_4_method_14_code 10 = .ok (.aload_n 0, 1) := by decide +kernel
theorem d_X8_agrees_11 : decode prog_4_method_14_code 11 = .ok (.getfield 18, 3) := by decide +kernel
theorem d_X8_agrees_14 : decode prog_4_method_14_code 14 = .ok (.iload_n 1, 1) := by decide +kernel
theorem d_X8_agrees_15 : decode prog_4_method_14_code 15 = .ok (.bipush 6, 2) := by decide +kernel
theorem d_X8_agrees_17 : decode prog_4_method_14_code 17 = .ok (.imul, 1) := by decide +kernel
theorem d_X8_agrees_18 : decode prog_4_method_14_code 18 = .ok (.iload 5, 2) := by decide +kernel
theorem d_X8_agrees_20 : decode prog_4_method_14_code 20 = .ok (.iadd, 1) := by decide +kernel
theorem d_X8_agrees_21 : decode prog_4_method_14_code 21 = .ok (.iaload, 1) := by decide +kernel
theorem d_X8_agrees_22 : decode prog_4_method_14_code 22 = .ok (.istore 6, 2) := by decide +kernel
theorem d_X8_agrees_24 : decode prog_4_method_14_code 24 = .ok (.iload 6, 2) := by decide +kernel
theorem d_X8_agrees_26 : decode prog_4_method_14_code 26 = .ok (.iconst (-1), 1) := by decide +kernel
theorem d_X8_agrees_27 : decode prog_4_method_14_code 27 = .ok (.if_icmp .eq 36, 3) := by decide +kernel
theorem d_X8_agrees_30 : decode prog_4_method_14_code 30 = .ok (.iload 4, 2) := by decide +kernel
theorem d_X8_agrees_32 : decode prog_4_method_14_code 32 = .ok (.iload 5, 2) := by decide +kernel
theorem d_X8_agrees_34 : decode prog_4_method_14_code 34 = .ok (.invokestatic 173, 3) := by decide +kernel
theorem d_X8_agrees_37 : decode prog_4_method_14_code 37 = .ok (.ifCond .eq 26, 3) := by decide +kernel
theorem d_X8_agrees_40 : decode prog_4_method_14_code 40 = .ok (.aload_n 0, 1) := by decide +kernel
theorem d_X8_agrees_41 : decode prog_4_method_14_code 41 = .ok (.getfield 33, 3) := by decide +kernel
theorem d_X8_agrees_44 : decode prog_4_method_14_code 44 = .ok (.iload 5, 2) := by decide +kernel
theorem d_X8_agrees_46 : decode prog_4_method_14_code 46 = .ok (.iaload, 1) := by decide +kernel
theorem d_X8_agrees_47 : decode prog_4_method_14_code 47 = .ok (.sipush 10000, 3) := by decide +kernel
theorem d_X8_agrees_50 : decode prog_4_method_14_code 50 = .ok (.irem, 1) := by decide +kernel
theorem d_X8_agrees_51 : decode prog_4_method_14_code 51 = .ok (.aload_n 2, 1) := by decide +kernel
theorem d_X8_agrees_52 : decode prog_4_method_14_code 52 = .ok (.iload_n 3, 1) := by decide +kernel
theorem d_X8_agrees_53 : decode prog_4_method_14_code 53 = .ok (.iload 6, 2) := by decide +kernel
theorem d_X8_agrees_55 : decode prog_4_method_14_code 55 = .ok (.invokevirtual 137, 3) := by decide +kernel
theorem d_X8_agrees_58 : decode prog_4_method_14_code 58 = .ok (.if_icmp .eq 5, 3) := by decide +kernel
theorem d_X8_agrees_61 : decode prog_4_method_14_code 61 = .ok (.iconst 0, 1) := by decide +kernel
theorem d_X8_agrees_62 : decode prog_4_method_14_code 62 = .ok (.ireturn, 1) := by decide +kernel
theorem d_X8_agrees_63 : decode prog_4_method_14_code 63 = .ok (.iinc 5 1, 3) := by decide +kernel
theorem d_X8_agrees_66 : decode prog_4_method_14_code 66 = .ok (.goto (-63), 3) := by decide +kernel
theorem d_X8_agrees_69 : decode prog_4_method_14_code 69 = .ok (.iconst 1, 1) := by decide +kernel
theorem d_X8_agrees_70 : decode prog_4_method_14_code 70 = .ok (.ireturn, 1) := by decide +kernel
abbrev y_X8_settleVariables : MethodName := ⟨"VirtualRewrite$Finder", "settleVariables", "(ILVirtualRewrite$Table;I)V"⟩
theorem d_X8_settleVariables_0 : decode prog_4_method_15_code 0 = .ok (.iconst 0, 1) := by decide +kernel
theorem d_X8_settleVariables_1 : decode prog_4_method_15_code 1 = .ok (.istore 4, 2) := by decide +kernel
theorem d_X8_settleVariables_3 : decode prog_4_method_15_code 3 = .ok (.iload 4, 2) := by decide +kernel
theorem d_X8_settleVariables_5 : decode prog_4_method_15_code 5 = .ok (.bipush 6, 2) := by decide +kernel
theorem d_X8_settleVariables_7 : decode prog_4_method_15_code 7 = .ok (.if_icmp .ge 55, 3) := by decide +kernel
theorem d_X8_settleVariables_10 : decode prog_4_method_15_code 10 = .ok (.aload_n 0, 1) := by decide +kernel
theorem d_X8_settleVariables_11 : decode prog_4_method_15_code 11 = .ok (.getfield 18, 3) := by decide +kernel
theorem d_X8_settleVariables_14 : decode prog_4_method_15_code 14 = .ok (.iload_n 1, 1) := by decide +kernel
theorem d_X8_settleVariables_15 : decode prog_4_method_15_code 15 = .ok (.bipush 6, 2) := by decide +kernel
theorem d_X8_settleVariables_17 : decode prog_4_method_15_code 17 = .ok (.imul, 1) := by decide +kernel
theorem d_X8_settleVariables_18 : decode prog_4_method_15_code 18 = .ok (.iload 4, 2) := by decide +kernel
theorem d_X8_settleVariables_20 : decode prog_4_method_15_code 20 = .ok (.iadd, 1) := by decide +kernel
theorem d_X8_settleVariables_21 : decode prog_4_method_15_code 21 = .ok (.iaload, 1) := by decide +kernel
theorem d_X8_settleVariables_22 : decode prog_4_method_15_code 22 = .ok (.istore 5, 2) := by decide +kernel
theorem d_X8_settleVariables_24 : decode prog_4_method_15_code 24 = .ok (.iload 5, 2) := by decide +kernel
theorem d_X8_settleVariables_26 : decode prog_4_method_15_code 26 = .ok (.iconst (-1), 1) := by decide +kernel
theorem d_X8_settleVariables_27 : decode prog_4_method_15_code 27 = .ok (.if_icmp .eq 29, 3) := by decide +kernel
theorem d_X8_settleVariables_30 : decode prog_4_method_15_code 30 = .ok (.aload_n 0, 1) := by decide +kernel
theorem d_X8_settleVariables_31 : decode prog_4_method_15_code 31 = .ok (.getfield 33, 3) := by decide +kernel
theorem d_X8_settleVariables_34 : decode prog_4_method_15_code 34 = .ok (.iload 4, 2) := by decide +kernel
theorem d_X8_settleVariables_36 : decode prog_4_method_15_code 36 = .ok (.aload_n 0, 1) := by decide +kernel
theorem d_X8_settleVariables_37 : decode prog_4_method_15_code 37 = .ok (.getfield 30, 3) := by decide +kernel
theorem d_X8_settleVariables_40 : decode prog_4_method_15_code 40 = .ok (.iload 4, 2) := by decide +kernel
theorem d_X8_settleVariables_42 : decode prog_4_method_15_code 42 = .ok (.iaload, 1) := by decide +kernel
theorem d_X8_settleVariables_43 : decode prog_4_method_15_code 43 = .ok (.sipush 10000, 3) := by decide +kernel
theorem d_X8_settleVariables_46 : decode prog_4_method_15_code 46 = .ok (.imul, 1) := by decide +kernel
theorem d_X8_settleVariables_47 : decode prog_4_method_15_code 47 = .ok (.aload_n 2, 1) := by decide +kernel
theorem d_X8_settleVariables_48 : decode prog_4_method_15_code 48 = .ok (.iload_n 3, 1) := by decide +kernel
theorem d_X8_settleVariables_49 : decode prog_4_method_15_code 49 = .ok (.iload 5, 2) := by decide +kernel
theorem d_X8_settleVariables_51 : decode prog_4_method_15_code 51 = .ok (.invokevirtual 137, 3) := by decide +kernel
theorem d_X8_settleVariables_54 : decode prog_4_method_15_code 54 = .ok (.iadd, 1) := by decide +kernel
theorem d_X8_settleVariables_55 : decode prog_4_method_15_code 55 = .ok (.iastore, 1) := by decide +kernel
theorem d_X8_settleVariables_56 : decode prog_4_method_15_code 56 = .ok (.iinc 4 1, 3) := by decide +kernel
theorem d_X8_settleVariables_59 : decode prog_4_method_15_code 59 = .ok (.goto (-56), 3) := by decide +kernel
theorem d_X8_settleVariables_62 : decode prog_4_method_15_code 62 = .ok (.return_, 1) := by decide +kernel
abbrev y_X0_found : MethodName := ⟨"VirtualRewrite", "found", "(II)I"⟩
theorem d_X0_found_0 : decode prog_1_method_15_code 0 = .ok (.iload_n 1, 1) := by decide +kernel
theorem d_X0_found_1 : decode prog_1_method_15_code 1 = .ok (.aload_n 0, 1) := by decide +kernel
theorem d_X0_found_2 : decode prog_1_method_15_code 2 = .ok (.getfield 44, 3) := by decide +kernel
theorem d_X0_found_5 : decode prog_1_method_15_code 5 = .ok (.getfield 171, 3) := by decide +kernel
theorem d_X0_found_8 : decode prog_1_method_15_code 8 = .ok (.invokestatic 57, 3) := by decide +kernel
theorem d_X0_found_11 : decode prog_1_method_15_code 11 = .ok (.ifCond .eq 11, 3) := by decide +kernel
theorem d_X0_found_14 : decode prog_1_method_15_code 14 = .ok (.iload_n 2, 1) := by decide +kernel
theorem d_X0_found_15 : decode prog_1_method_15_code 15 = .ok (.iconst 2, 1) := by decide +kernel
theorem d_X0_found_16 : decode prog_1_method_15_code 16 = .ok (.invokestatic 57, 3) := by decide +kernel
theorem d_X0_found_19 : decode prog_1_method_15_code 19 = .ok (.ifCond .ne 5, 3) := by decide +kernel
theorem d_X0_found_22 : decode prog_1_method_15_code 22 = .ok (.iconst (-1), 1) := by decide +kernel
theorem d_X0_found_23 : decode prog_1_method_15_code 23 = .ok (.ireturn, 1) := by decide +kernel
theorem d_X0_found_24 : decode prog_1_method_15_code 24 = .ok (.iload_n 2, 1) := by decide +kernel
theorem d_X0_found_25 : decode prog_1_method_15_code 25 = .ok (.ifCond .ne 14, 3) := by decide +kernel
theorem d_X0_found_28 : decode prog_1_method_15_code 28 = .ok (.aload_n 0, 1) := by decide +kernel
theorem d_X0_found_29 : decode prog_1_method_15_code 29 = .ok (.getfield 44, 3) := by decide +kernel
theorem d_X0_found_32 : decode prog_1_method_15_code 32 = .ok (.iload_n 1, 1) := by decide +kernel
theorem d_X0_found_33 : decode prog_1_method_15_code 33 = .ok (.invokevirtual 187, 3) := by decide +kernel
theorem d_X0_found_36 : decode prog_1_method_15_code 36 = .ok (.goto 11, 3) := by decide +kernel
theorem d_X0_found_39 : decode prog_1_method_15_code 39 = .ok (.aload_n 0, 1) := by decide +kernel
theorem d_X0_found_40 : decode prog_1_method_15_code 40 = .ok (.getfield 44, 3) := by decide +kernel
theorem d_X0_found_43 : decode prog_1_method_15_code 43 = .ok (.iload_n 1, 1) := by decide +kernel
theorem d_X0_found_44 : decode prog_1_method_15_code 44 = .ok (.invokevirtual 190, 3) := by decide +kernel
theorem d_X0_found_47 : decode prog_1_method_15_code 47 = .ok (.ireturn, 1) := by decide +kernel
abbrev y_X7_finders : MethodName := ⟨"VirtualRewrite$Answers", "finders", "(I)I"⟩
theorem d_X7_finders_0 : decode prog_2_method_4_code 0 = .ok (.aload_n 0, 1) := by decide +kernel
theorem d_X7_finders_1 : decode prog_2_method_4_code 1 = .ok (.getfield 18, 3) := by decide +kernel
theorem d_X7_finders_4 : decode prog_2_method_4_code 4 = .ok (.aload_n 0, 1) := by decide +kernel
theorem d_X7_finders_5 : decode prog_2_method_4_code 5 = .ok (.getfield 15, 3) := by decide +kernel
theorem d_X7_finders_8 : decode prog_2_method_4_code 8 = .ok (.iload_n 1, 1) := by decide +kernel
theorem d_X7_finders_9 : decode prog_2_method_4_code 9 = .ok (.iaload, 1) := by decide +kernel
theorem d_X7_finders_10 : decode prog_2_method_4_code 10 = .ok (.iaload, 1) := by decide +kernel
theorem d_X7_finders_11 : decode prog_2_method_4_code 11 = .ok (.ireturn, 1) := by decide +kernel
abbrev y_X7_firstFinder : MethodName := ⟨"VirtualRewrite$Answers", "firstFinder", "(I)I"⟩
theorem d_X7_firstFinder_0 : decode prog_2_method_5_code 0 = .ok (.aload_n 0, 1) := by decide +kernel
theorem d_X7_firstFinder_1 : decode prog_2_method_5_code 1 = .ok (.getfield 21, 3) := by decide +kernel
theorem d_X7_firstFinder_4 : decode prog_2_method_5_code 4 = .ok (.aload_n 0, 1) := by decide +kernel
theorem d_X7_firstFinder_5 : decode prog_2_method_5_code 5 = .ok (.getfield 15, 3) := by decide +kernel
theorem d_X7_firstFinder_8 : decode prog_2_method_5_code 8 = .ok (.iload_n 1, 1) := by decide +kernel
theorem d_X7_firstFinder_9 : decode prog_2_method_5_code 9 = .ok (.iaload, 1) := by decide +kernel
theorem d_X7_firstFinder_10 : decode prog_2_method_5_code 10 = .ok (.iaload, 1) := by decide +kernel
theorem d_X7_firstFinder_11 : decode prog_2_method_5_code 11 = .ok (.ireturn, 1) := by decide +kernel
abbrev y_X0_value : MethodName := ⟨"VirtualRewrite", "value", "(II)I"⟩
theorem d_X0_value_0 : decode prog_1_method_14_code 0 = .ok (.iload_n 1, 1) := by decide +kernel
theorem d_X0_value_1 : decode prog_1_method_14_code 1 = .ok (.aload_n 0, 1) := by decide +kernel
theorem d_X0_value_2 : decode prog_1_method_14_code 2 = .ok (.getfield 44, 3) := by decide +kernel
theorem d_X0_value_5 : decode prog_1_method_14_code 5 = .ok (.getfield 171, 3) := by decide +kernel
theorem d_X0_value_8 : decode prog_1_method_14_code 8 = .ok (.invokestatic 57, 3) := by decide +kernel
theorem d_X0_value_11 : decode prog_1_method_14_code 11 = .ok (.ifCond .eq 12, 3) := by decide +kernel
theorem d_X0_value_14 : decode prog_1_method_14_code 14 = .ok (.iload_n 2, 1) := by decide +kernel
theorem d_X0_value_15 : decode prog_1_method_14_code 15 = .ok (.bipush 6, 2) := by decide +kernel
theorem d_X0_value_17 : decode prog_1_method_14_code 17 = .ok (.invokestatic 57, 3) := by decide +kernel
theorem d_X0_value_20 : decode prog_1_method_14_code 20 = .ok (.ifCond .ne 5, 3) := by decide +kernel
theorem d_X0_value_23 : decode prog_1_method_14_code 23 = .ok (.iconst (-1), 1) := by decide +kernel
theorem d_X0_value_24 : decode prog_1_method_14_code 24 = .ok (.ireturn, 1) := by decide +kernel
theorem d_X0_value_25 : decode prog_1_method_14_code 25 = .ok (.aload_n 0, 1) := by decide +kernel
theorem d_X0_value_26 : decode prog_1_method_14_code 26 = .ok (.getfield 44, 3) := by decide +kernel
theorem d_X0_value_29 : decode prog_1_method_14_code 29 = .ok (.getfield 172, 3) := by decide +kernel
theorem d_X0_value_32 : decode prog_1_method_14_code 32 = .ok (.iload_n 2, 1) := by decide +kernel
theorem d_X0_value_33 : decode prog_1_method_14_code 33 = .ok (.invokestatic 174, 3) := by decide +kernel
theorem d_X0_value_36 : decode prog_1_method_14_code 36 = .ok (.ifCond .ne 13, 3) := by decide +kernel
theorem d_X0_value_39 : decode prog_1_method_14_code 39 = .ok (.new 177, 3) := by decide +kernel
theorem d_X0_value_42 : decode prog_1_method_14_code 42 = .ok (.dup, 1) := by decide +kernel
theorem d_X0_value_43 : decode prog_1_method_14_code 43 = .ok (.ldc 179, 2) := by decide +kernel
theorem d_X0_value_45 : decode prog_1_method_14_code 45 = .ok (.invokespecial 181, 3) := by decide +kernel
theorem d_X0_value_48 : decode prog_1_method_14_code 48 = .ok (.athrow, 1) := by decide +kernel
theorem d_X0_value_49 : decode prog_1_method_14_code 49 = .ok (.aload_n 0, 1) := by decide +kernel
theorem d_X0_value_50 : decode prog_1_method_14_code 50 = .ok (.getfield 44, 3) := by decide +kernel
theorem d_X0_value_53 : decode prog_1_method_14_code 53 = .ok (.iload_n 1, 1) := by decide +kernel
theorem d_X0_value_54 : decode prog_1_method_14_code 54 = .ok (.iload_n 2, 1) := by decide +kernel
theorem d_X0_value_55 : decode prog_1_method_14_code 55 = .ok (.invokevirtual 184, 3) := by decide +kernel
theorem d_X0_value_58 : decode prog_1_method_14_code 58 = .ok (.ireturn, 1) := by decide +kernel
end
section
theorem cd_X0_init : ac_cd y_X0_init prog_1_method_1_code 1 none 0 := ⟨mem_T0 57 (by decide +kernel) (by decide +kernel), mem_T0 36 (by decide +kernel) (by decide +kernel), by decide, by decide, by decide +kernel⟩
theorem in_X0_init : Cond.instanceMethod y_X0_init ∈ T0_ := mem_T0 56 (by decide +kernel) (by decide +kernel)
theorem cd_X1_init : ac_cd y_X1_init prog_3_method_1_code 2 none 0 := ⟨mem_T0 65 (by decide +kernel) (by decide +kernel), mem_T0 37 (by decide +kernel) (by decide +kernel), by decide, by decide, by decide +kernel⟩
theorem in_X1_init : Cond.instanceMethod y_X1_init ∈ T0_ := mem_T0 64 (by decide +kernel) (by decide +kernel)
theorem cd_X2_init : ac_cd y_X2_init prog_9_method_1_code 1 none 0 := ⟨mem_T0 74 (by decide +kernel) (by decide +kernel), mem_T0 38 (by decide +kernel) (by decide +kernel), by decide, by decide, by decide +kernel⟩
theorem in_X2_init : Cond.instanceMethod y_X2_init ∈ T0_ := mem_T0 73 (by decide +kernel) (by decide +kernel)
theorem cd_X3_init : ac_cd y_X3_init prog_5_method_1_code 1 none 0 := ⟨mem_T0 98 (by decide +kernel) (by decide +kernel), mem_T0 39 (by decide +kernel) (by decide +kernel), by decide, by decide, by decide +kernel⟩
theorem in_X3_init : Cond.instanceMethod y_X3_init ∈ T0_ := mem_T0 97 (by decide +kernel) (by decide +kernel)
theorem cd_X4_init : ac_cd y_X4_init prog_6_method_1_code 2 none 0 := ⟨mem_T0 150 (by decide +kernel) (by decide +kernel), mem_T0 40 (by decide +kernel) (by decide +kernel), by decide, by decide, by decide +kernel⟩
theorem in_X4_init : Cond.instanceMethod y_X4_init ∈ T0_ := mem_T0 149 (by decide +kernel) (by decide +kernel)
theorem cd_X5_init : ac_cd y_X5_init prog_7_method_1_code 3 none 2 := ⟨mem_T0 181 (by decide +kernel) (by decide +kernel), mem_T0 41 (by decide +kernel) (by decide +kernel), by decide, by decide, by decide +kernel⟩
theorem in_X5_init : Cond.instanceMethod y_X5_init ∈ T0_ := mem_T0 180 (by decide +kernel) (by decide +kernel)
theorem cd_X6_init : ac_cd y_X6_init prog_8_method_1_code 4 none 3 := ⟨mem_T0 214 (by decide +kernel) (by decide +kernel), mem_T0 42 (by decide +kernel) (by decide +kernel), by decide, by decide, by decide +kernel⟩
theorem in_X6_init : Cond.instanceMethod y_X6_init ∈ T0_ := mem_T0 213 (by decide +kernel) (by decide +kernel)
theorem cd_X7_init : ac_cd y_X7_init prog_2_method_1_code 1 none 0 := ⟨mem_T0 240 (by decide +kernel) (by decide +kernel), mem_T0 43 (by decide +kernel) (by decide +kernel), by decide, by decide, by decide +kernel⟩
theorem in_X7_init : Cond.instanceMethod y_X7_init ∈ T0_ := mem_T0 239 (by decide +kernel) (by decide +kernel)
theorem cd_X8_init : ac_cd y_X8_init prog_4_method_1_code 5 none 4 := ⟨mem_T0 272 (by decide +kernel) (by decide +kernel), mem_T0 44 (by decide +kernel) (by decide +kernel), by decide, by decide, by decide +kernel⟩
theorem in_X8_init : Cond.instanceMethod y_X8_init ∈ T0_ := mem_T0 271 (by decide +kernel) (by decide +kernel)
theorem cd_X0_key : ac_cd y_X0_key prog_1_method_2_code 5 (some .int) 3 := ⟨mem_T0 336 (by decide +kernel) (by decide +kernel), mem_T0 36 (by decide +kernel) (by decide +kernel), by decide, by decide, by decide +kernel⟩
theorem in_X0_key : Cond.instanceMethod y_X0_key ∈ T0_ := mem_T0 334 (by decide +kernel) (by decide +kernel)
theorem se_X0_key : Cond.selects "VirtualRewrite" y_X0_key y_X0_key ∈ T0_ := mem_T0 335 (by decide +kernel) (by decide +kernel)
theorem cd_X0_isBelow : ac_cd y_X0_isBelow prog_1_method_18_code 2 (some .boolean) 2 := ⟨mem_T0 339 (by decide +kernel) (by decide +kernel), mem_T0 36 (by decide +kernel) (by decide +kernel), by decide, by decide, by decide +kernel⟩
theorem st_X0_isBelow : Cond.static y_X0_isBelow ∈ T0_ := mem_T0 338 (by decide +kernel) (by decide +kernel)
theorem cd_X2_repeats : ac_cd y_X2_repeats prog_9_method_4_code 3 (some .boolean) 1 := ⟨mem_T0 343 (by decide +kernel) (by decide +kernel), mem_T0 38 (by decide +kernel) (by decide +kernel), by decide, by decide, by decide +kernel⟩
theorem in_X2_repeats : Cond.instanceMethod y_X2_repeats ∈ T0_ := mem_T0 341 (by decide +kernel) (by decide +kernel)
theorem se_X2_repeats : Cond.selects "VirtualRewrite$Table" y_X2_repeats y_X2_repeats ∈ T0_ := mem_T0 342 (by decide +kernel) (by decide +kernel)
theorem cd_X2_cell : ac_cd y_X2_cell prog_9_method_2_code 3 (some .int) 2 := ⟨mem_T0 347 (by decide +kernel) (by decide +kernel), mem_T0 38 (by decide +kernel) (by decide +kernel), by decide, by decide, by decide +kernel⟩
theorem in_X2_cell : Cond.instanceMethod y_X2_cell ∈ T0_ := mem_T0 345 (by decide +kernel) (by decide +kernel)
theorem se_X2_cell : Cond.selects "VirtualRewrite$Table" y_X2_cell y_X2_cell ∈ T0_ := mem_T0 346 (by decide +kernel) (by decide +kernel)
theorem cd_X2_holds : ac_cd y_X2_holds prog_9_method_3_code 5 (some .boolean) 3 := ⟨mem_T0 351 (by decide +kernel) (by decide +kernel), mem_T0 38 (by decide +kernel) (by decide +kernel), by decide, by decide, by decide +kernel⟩
theorem in_X2_holds : Cond.instanceMethod y_X2_holds ∈ T0_ := mem_T0 349 (by decide +kernel) (by decide +kernel)
theorem se_X2_holds : Cond.selects "VirtualRewrite$Table" y_X2_holds y_X2_holds ∈ T0_ := mem_T0 350 (by decide +kernel) (by decide +kernel)
theorem cd_X0_row : ac_cd y_X0_row prog_1_method_3_code 6 (some .int) 4 := ⟨mem_T0 355 (by decide +kernel) (by decide +kernel), mem_T0 36 (by decide +kernel) (by decide +kernel), by decide, by decide, by decide +kernel⟩
theorem in_X0_row : Cond.instanceMethod y_X0_row ∈ T0_ := mem_T0 353 (by decide +kernel) (by decide +kernel)
theorem se_X0_row : Cond.selects "VirtualRewrite" y_X0_row y_X0_row ∈ T0_ := mem_T0 354 (by decide +kernel) (by decide +kernel)
theorem cd_X2_refuses : ac_cd y_X2_refuses prog_9_method_5_code 3 (some .boolean) 2 := ⟨mem_T0 359 (by decide +kernel) (by decide +kernel), mem_T0 38 (by decide +kernel) (by decide +kernel), by decide, by decide, by decide +kernel⟩
theorem in_X2_refuses : Cond.instanceMethod y_X2_refuses ∈ T0_ := mem_T0 357 (by decide +kernel) (by decide +kernel)
theorem se_X2_refuses : Cond.selects "VirtualRewrite$Table" y_X2_refuses y_X2_refuses ∈ T0_ := mem_T0 358 (by decide +kernel) (by decide +kernel)
theorem cd_X2_append : ac_cd y_X2_append prog_9_method_6_code 5 none 3 := ⟨mem_T0 363 (by decide +kernel) (by decide +kernel), mem_T0 38 (by decide +kernel) (by decide +kernel), by decide, by decide, by decide +kernel⟩
theorem in_X2_append : Cond.instanceMethod y_X2_append ∈ T0_ := mem_T0 361 (by decide +kernel) (by decide +kernel)
theorem se_X2_append : Cond.selects "VirtualRewrite$Table" y_X2_append y_X2_append ∈ T0_ := mem_T0 362 (by decide +kernel) (by decide +kernel)
theorem cd_X0_drop : ac_cd y_X0_drop prog_1_method_4_code 3 (some .int) 2 := ⟨mem_T0 367 (by decide +kernel) (by decide +kernel), mem_T0 36 (by decide +kernel) (by decide +kernel), by decide, by decide, by decide +kernel⟩
theorem in_X0_drop : Cond.instanceMethod y_X0_drop ∈ T0_ := mem_T0 365 (by decide +kernel) (by decide +kernel)
theorem se_X0_drop : Cond.selects "VirtualRewrite" y_X0_drop y_X0_drop ∈ T0_ := mem_T0 366 (by decide +kernel) (by decide +kernel)
theorem cd_X2_remove : ac_cd y_X2_remove prog_9_method_7_code 3 none 1 := ⟨mem_T0 371 (by decide +kernel) (by decide +kernel), mem_T0 38 (by decide +kernel) (by decide +kernel), by decide, by decide, by decide +kernel⟩
theorem in_X2_remove : Cond.instanceMethod y_X2_remove ∈ T0_ := mem_T0 369 (by decide +kernel) (by decide +kernel)
theorem se_X2_remove : Cond.selects "VirtualRewrite$Table" y_X2_remove y_X2_remove ∈ T0_ := mem_T0 370 (by decide +kernel) (by decide +kernel)
theorem cd_X0_mapping : ac_cd y_X0_mapping prog_1_method_5_code 8 (some .int) 6 := ⟨mem_T0 378 (by decide +kernel) (by decide +kernel), mem_T0 36 (by decide +kernel) (by decide +kernel), by decide, by decide, by decide +kernel⟩
theorem in_X0_mapping : Cond.instanceMethod y_X0_mapping ∈ T0_ := mem_T0 376 (by decide +kernel) (by decide +kernel)
theorem se_X0_mapping : Cond.selects "VirtualRewrite" y_X0_mapping y_X0_mapping ∈ T0_ := mem_T0 377 (by decide +kernel) (by decide +kernel)
theorem cd_X3_describe : ac_cd y_X3_describe prog_5_method_2_code 4 none 3 := ⟨mem_T0 382 (by decide +kernel) (by decide +kernel), mem_T0 39 (by decide +kernel) (by decide +kernel), by decide, by decide, by decide +kernel⟩
theorem in_X3_describe : Cond.instanceMethod y_X3_describe ∈ T0_ := mem_T0 380 (by decide +kernel) (by decide +kernel)
theorem se_X3_describe : Cond.selects "VirtualRewrite$Mapping" y_X3_describe y_X3_describe ∈ T0_ := mem_T0 381 (by decide +kernel) (by decide +kernel)
theorem cd_X5_forget : ac_cd y_X5_forget prog_7_method_5_code 1 none 0 := ⟨mem_T0 386 (by decide +kernel) (by decide +kernel), mem_T0 41 (by decide +kernel) (by decide +kernel), by decide, by decide, by decide +kernel⟩
theorem in_X5_forget : Cond.instanceMethod y_X5_forget ∈ T0_ := mem_T0 384 (by decide +kernel) (by decide +kernel)
theorem se_X5_forget : Cond.selects "VirtualRewrite$Rewriting" y_X5_forget y_X5_forget ∈ T0_ := mem_T0 385 (by decide +kernel) (by decide +kernel)
theorem cd_X0_triples : ac_cd y_X0_triples prog_1_method_6_code 1 (some .int) 0 := ⟨mem_T0 390 (by decide +kernel) (by decide +kernel), mem_T0 36 (by decide +kernel) (by decide +kernel), by decide, by decide, by decide +kernel⟩
theorem in_X0_triples : Cond.instanceMethod y_X0_triples ∈ T0_ := mem_T0 388 (by decide +kernel) (by decide +kernel)
theorem se_X0_triples : Cond.selects "VirtualRewrite" y_X0_triples y_X0_triples ∈ T0_ := mem_T0 389 (by decide +kernel) (by decide +kernel)
theorem cd_X1_countTriples : ac_cd y_X1_countTriples prog_3_method_3_code 4 (some .int) 0 := ⟨mem_T0 394 (by decide +kernel) (by decide +kernel), mem_T0 37 (by decide +kernel) (by decide +kernel), by decide, by decide, by decide +kernel⟩
theorem in_X1_countTriples : Cond.instanceMethod y_X1_countTriples ∈ T0_ := mem_T0 392 (by decide +kernel) (by decide +kernel)
theorem se_X1_countTriples : Cond.selects "VirtualRewrite$Catalog" y_X1_countTriples y_X1_countTriples ∈ T0_ := mem_T0 393 (by decide +kernel) (by decide +kernel)
theorem cd_X1_tableOf : ac_cd y_X1_tableOf prog_3_method_2_code 2 (some (.object "VirtualRewrite$Table")) 1 := ⟨mem_T0 398 (by decide +kernel) (by decide +kernel), mem_T0 37 (by decide +kernel) (by decide +kernel), by decide, by decide, by decide +kernel⟩
theorem in_X1_tableOf : Cond.instanceMethod y_X1_tableOf ∈ T0_ := mem_T0 396 (by decide +kernel) (by decide +kernel)
theorem se_X1_tableOf : Cond.selects "VirtualRewrite$Catalog" y_X1_tableOf y_X1_tableOf ∈ T0_ := mem_T0 397 (by decide +kernel) (by decide +kernel)
theorem cd_X1_packedTriple : ac_cd y_X1_packedTriple prog_3_method_4_code 7 (some .long) 2 := ⟨mem_T0 402 (by decide +kernel) (by decide +kernel), mem_T0 37 (by decide +kernel) (by decide +kernel), by decide, by decide, by decide +kernel⟩
theorem in_X1_packedTriple : Cond.instanceMethod y_X1_packedTriple ∈ T0_ := mem_T0 400 (by decide +kernel) (by decide +kernel)
theorem se_X1_packedTriple : Cond.selects "VirtualRewrite$Catalog" y_X1_packedTriple y_X1_packedTriple ∈ T0_ := mem_T0 401 (by decide +kernel) (by decide +kernel)
theorem cd_X1_keepTriple : ac_cd y_X1_keepTriple prog_3_method_5_code 6 none 1 := ⟨mem_T0 408 (by decide +kernel) (by decide +kernel), mem_T0 37 (by decide +kernel) (by decide +kernel), by decide, by decide, by decide +kernel⟩
theorem in_X1_keepTriple : Cond.instanceMethod y_X1_keepTriple ∈ T0_ := mem_T0 406 (by decide +kernel) (by decide +kernel)
theorem se_X1_keepTriple : Cond.selects "VirtualRewrite$Catalog" y_X1_keepTriple y_X1_keepTriple ∈ T0_ := mem_T0 407 (by decide +kernel) (by decide +kernel)
theorem cd_X0_atom : ac_cd y_X0_atom prog_1_method_7_code 4 (some .int) 3 := ⟨mem_T0 413 (by decide +kernel) (by decide +kernel), mem_T0 36 (by decide +kernel) (by decide +kernel), by decide, by decide, by decide +kernel⟩
theorem in_X0_atom : Cond.instanceMethod y_X0_atom ∈ T0_ := mem_T0 411 (by decide +kernel) (by decide +kernel)
theorem se_X0_atom : Cond.selects "VirtualRewrite" y_X0_atom y_X0_atom ∈ T0_ := mem_T0 412 (by decide +kernel) (by decide +kernel)
theorem cd_X0_isPlace : ac_cd y_X0_isPlace prog_1_method_19_code 1 (some .boolean) 1 := ⟨mem_T0 416 (by decide +kernel) (by decide +kernel), mem_T0 36 (by decide +kernel) (by decide +kernel), by decide, by decide, by decide +kernel⟩
theorem st_X0_isPlace : Cond.static y_X0_isPlace ∈ T0_ := mem_T0 415 (by decide +kernel) (by decide +kernel)
theorem cd_X4_append : ac_cd y_X4_append prog_6_method_2_code 4 none 3 := ⟨mem_T0 421 (by decide +kernel) (by decide +kernel), mem_T0 40 (by decide +kernel) (by decide +kernel), by decide, by decide, by decide +kernel⟩
theorem in_X4_append : Cond.instanceMethod y_X4_append ∈ T0_ := mem_T0 419 (by decide +kernel) (by decide +kernel)
theorem se_X4_append : Cond.selects "VirtualRewrite$Question" y_X4_append y_X4_append ∈ T0_ := mem_T0 420 (by decide +kernel) (by decide +kernel)
theorem cd_X0_span : ac_cd y_X0_span prog_1_method_8_code 4 (some .int) 3 := ⟨mem_T0 425 (by decide +kernel) (by decide +kernel), mem_T0 36 (by decide +kernel) (by decide +kernel), by decide, by decide, by decide +kernel⟩
theorem in_X0_span : Cond.instanceMethod y_X0_span ∈ T0_ := mem_T0 423 (by decide +kernel) (by decide +kernel)
theorem se_X0_span : Cond.selects "VirtualRewrite" y_X0_span y_X0_span ∈ T0_ := mem_T0 424 (by decide +kernel) (by decide +kernel)
theorem cd_X4_narrow : ac_cd y_X4_narrow prog_6_method_3_code 4 none 3 := ⟨mem_T0 429 (by decide +kernel) (by decide +kernel), mem_T0 40 (by decide +kernel) (by decide +kernel), by decide, by decide, by decide +kernel⟩
theorem in_X4_narrow : Cond.instanceMethod y_X4_narrow ∈ T0_ := mem_T0 427 (by decide +kernel) (by decide +kernel)
theorem se_X4_narrow : Cond.selects "VirtualRewrite$Question" y_X4_narrow y_X4_narrow ∈ T0_ := mem_T0 428 (by decide +kernel) (by decide +kernel)
theorem cd_JMath_max : ac_cd y_JMath_max prog_15_method_65_code 2 (some .int) 2 := ⟨mem_T0 432 (by decide +kernel) (by decide +kernel), mem_T0 47 (by decide +kernel) (by decide +kernel), by decide, by decide, by decide +kernel⟩
theorem st_JMath_max : Cond.static y_JMath_max ∈ T0_ := mem_T0 431 (by decide +kernel) (by decide +kernel)
theorem cd_JMath_min : ac_cd y_JMath_min prog_15_method_69_code 2 (some .int) 2 := ⟨mem_T0 435 (by decide +kernel) (by decide +kernel), mem_T0 47 (by decide +kernel) (by decide +kernel), by decide, by decide, by decide +kernel⟩
theorem st_JMath_min : Cond.static y_JMath_min ∈ T0_ := mem_T0 434 (by decide +kernel) (by decide +kernel)
theorem cd_X0_clear : ac_cd y_X0_clear prog_1_method_9_code 2 (some .int) 0 := ⟨mem_T0 439 (by decide +kernel) (by decide +kernel), mem_T0 36 (by decide +kernel) (by decide +kernel), by decide, by decide, by decide +kernel⟩
theorem in_X0_clear : Cond.instanceMethod y_X0_clear ∈ T0_ := mem_T0 437 (by decide +kernel) (by decide +kernel)
theorem se_X0_clear : Cond.selects "VirtualRewrite" y_X0_clear y_X0_clear ∈ T0_ := mem_T0 438 (by decide +kernel) (by decide +kernel)
theorem cd_X4_reset : ac_cd y_X4_reset prog_6_method_4_code 2 none 0 := ⟨mem_T0 443 (by decide +kernel) (by decide +kernel), mem_T0 40 (by decide +kernel) (by decide +kernel), by decide, by decide, by decide +kernel⟩
theorem in_X4_reset : Cond.instanceMethod y_X4_reset ∈ T0_ := mem_T0 441 (by decide +kernel) (by decide +kernel)
theorem se_X4_reset : Cond.selects "VirtualRewrite$Question" y_X4_reset y_X4_reset ∈ T0_ := mem_T0 442 (by decide +kernel) (by decide +kernel)
theorem cd_X0_unions : ac_cd y_X0_unions prog_1_method_10_code 1 (some .int) 0 := ⟨mem_T0 447 (by decide +kernel) (by decide +kernel), mem_T0 36 (by decide +kernel) (by decide +kernel), by decide, by decide, by decide +kernel⟩
theorem in_X0_unions : Cond.instanceMethod y_X0_unions ∈ T0_ := mem_T0 445 (by decide +kernel) (by decide +kernel)
theorem se_X0_unions : Cond.selects "VirtualRewrite" y_X0_unions y_X0_unions ∈ T0_ := mem_T0 446 (by decide +kernel) (by decide +kernel)
theorem cd_X5_refresh : ac_cd y_X5_refresh prog_7_method_6_code 1 none 0 := ⟨mem_T0 451 (by decide +kernel) (by decide +kernel), mem_T0 41 (by decide +kernel) (by decide +kernel), by decide, by decide, by decide +kernel⟩
theorem in_X5_refresh : Cond.instanceMethod y_X5_refresh ∈ T0_ := mem_T0 449 (by decide +kernel) (by decide +kernel)
theorem se_X5_refresh : Cond.selects "VirtualRewrite$Rewriting" y_X5_refresh y_X5_refresh ∈ T0_ := mem_T0 450 (by decide +kernel) (by decide +kernel)
theorem cd_X5_extend : ac_cd y_X5_extend prog_7_method_7_code 5 none 2 := ⟨mem_T0 455 (by decide +kernel) (by decide +kernel), mem_T0 41 (by decide +kernel) (by decide +kernel), by decide, by decide, by decide +kernel⟩
theorem in_X5_extend : Cond.instanceMethod y_X5_extend ∈ T0_ := mem_T0 454 (by decide +kernel) (by decide +kernel)
theorem se_X5_extend : Cond.selects "VirtualRewrite$Rewriting" y_X5_extend y_X5_extend ∈ T0_ := mem_T0 0 (by decide +kernel) (by decide +kernel)
theorem cd_X5_keep : ac_cd y_X5_keep prog_7_method_8_code 1 none 0 := ⟨mem_T0 459 (by decide +kernel) (by decide +kernel), mem_T0 41 (by decide +kernel) (by decide +kernel), by decide, by decide, by decide +kernel⟩
theorem in_X5_keep : Cond.instanceMethod y_X5_keep ∈ T0_ := mem_T0 458 (by decide +kernel) (by decide +kernel)
theorem se_X5_keep : Cond.selects "VirtualRewrite$Rewriting" y_X5_keep y_X5_keep ∈ T0_ := mem_T0 1 (by decide +kernel) (by decide +kernel)
theorem cd_X5_settle : ac_cd y_X5_settle prog_7_method_9_code 8 (some .int) 3 := ⟨mem_T0 464 (by decide +kernel) (by decide +kernel), mem_T0 41 (by decide +kernel) (by decide +kernel), by decide, by decide, by decide +kernel⟩
theorem in_X5_settle : Cond.instanceMethod y_X5_settle ∈ T0_ := mem_T0 463 (by decide +kernel) (by decide +kernel)
theorem se_X5_settle : Cond.selects "VirtualRewrite$Rewriting" y_X5_settle y_X5_settle ∈ T0_ := mem_T0 2 (by decide +kernel) (by decide +kernel)
theorem cd_X4_told : ac_cd y_X4_told prog_6_method_5_code 3 (some .int) 2 := ⟨mem_T0 468 (by decide +kernel) (by decide +kernel), mem_T0 40 (by decide +kernel) (by decide +kernel), by decide, by decide, by decide +kernel⟩
theorem in_X4_told : Cond.instanceMethod y_X4_told ∈ T0_ := mem_T0 466 (by decide +kernel) (by decide +kernel)
theorem se_X4_told : Cond.selects "VirtualRewrite$Question" y_X4_told y_X4_told ∈ T0_ := mem_T0 467 (by decide +kernel) (by decide +kernel)
theorem cd_X0_isVariable : ac_cd y_X0_isVariable prog_1_method_20_code 1 (some .boolean) 1 := ⟨mem_T0 471 (by decide +kernel) (by decide +kernel), mem_T0 36 (by decide +kernel) (by decide +kernel), by decide, by decide, by decide +kernel⟩
theorem st_X0_isVariable : Cond.static y_X0_isVariable ∈ T0_ := mem_T0 470 (by decide +kernel) (by decide +kernel)
theorem cd_X0_variableOf : ac_cd y_X0_variableOf prog_1_method_21_code 1 (some .int) 1 := ⟨mem_T0 474 (by decide +kernel) (by decide +kernel), mem_T0 36 (by decide +kernel) (by decide +kernel), by decide, by decide, by decide +kernel⟩
theorem st_X0_variableOf : Cond.static y_X0_variableOf ∈ T0_ := mem_T0 473 (by decide +kernel) (by decide +kernel)
theorem cd_X0_has : ac_cd y_X0_has prog_1_method_22_code 2 (some .boolean) 2 := ⟨mem_T0 477 (by decide +kernel) (by decide +kernel), mem_T0 36 (by decide +kernel) (by decide +kernel), by decide, by decide, by decide +kernel⟩
theorem st_X0_has : Cond.static y_X0_has ∈ T0_ := mem_T0 476 (by decide +kernel) (by decide +kernel)
theorem cd_X0_with : ac_cd y_X0_with prog_1_method_23_code 2 (some .int) 2 := ⟨mem_T0 480 (by decide +kernel) (by decide +kernel), mem_T0 36 (by decide +kernel) (by decide +kernel), by decide, by decide, by decide +kernel⟩
theorem st_X0_with : Cond.static y_X0_with ∈ T0_ := mem_T0 479 (by decide +kernel) (by decide +kernel)
theorem cd_X0_union : ac_cd y_X0_union prog_1_method_11_code 4 (some .int) 2 := ⟨mem_T0 484 (by decide +kernel) (by decide +kernel), mem_T0 36 (by decide +kernel) (by decide +kernel), by decide, by decide, by decide +kernel⟩
theorem in_X0_union : Cond.instanceMethod y_X0_union ∈ T0_ := mem_T0 482 (by decide +kernel) (by decide +kernel)
theorem se_X0_union : Cond.selects "VirtualRewrite" y_X0_union y_X0_union ∈ T0_ := mem_T0 483 (by decide +kernel) (by decide +kernel)
theorem cd_X0_isAsked : ac_cd y_X0_isAsked prog_1_method_16_code 2 (some .boolean) 1 := ⟨mem_T0 488 (by decide +kernel) (by decide +kernel), mem_T0 36 (by decide +kernel) (by decide +kernel), by decide, by decide, by decide +kernel⟩
theorem in_X0_isAsked : Cond.instanceMethod y_X0_isAsked ∈ T0_ := mem_T0 487 (by decide +kernel) (by decide +kernel)
theorem se_X0_isAsked : Cond.selects "VirtualRewrite" y_X0_isAsked y_X0_isAsked ∈ T0_ := mem_T0 3 (by decide +kernel) (by decide +kernel)
theorem cd_X0_troubleWith : ac_cd y_X0_troubleWith prog_1_method_17_code 2 (some .int) 1 := ⟨mem_T0 492 (by decide +kernel) (by decide +kernel), mem_T0 36 (by decide +kernel) (by decide +kernel), by decide, by decide, by decide +kernel⟩
theorem in_X0_troubleWith : Cond.instanceMethod y_X0_troubleWith ∈ T0_ := mem_T0 491 (by decide +kernel) (by decide +kernel)
theorem se_X0_troubleWith : Cond.selects "VirtualRewrite" y_X0_troubleWith y_X0_troubleWith ∈ T0_ := mem_T0 4 (by decide +kernel) (by decide +kernel)
theorem cd_X5_chosen : ac_cd y_X5_chosen prog_7_method_2_code 3 (some .int) 2 := ⟨mem_T0 496 (by decide +kernel) (by decide +kernel), mem_T0 41 (by decide +kernel) (by decide +kernel), by decide, by decide, by decide +kernel⟩
theorem in_X5_chosen : Cond.instanceMethod y_X5_chosen ∈ T0_ := mem_T0 494 (by decide +kernel) (by decide +kernel)
theorem se_X5_chosen : Cond.selects "VirtualRewrite$Rewriting" y_X5_chosen y_X5_chosen ∈ T0_ := mem_T0 495 (by decide +kernel) (by decide +kernel)
theorem cd_X6_assign : ac_cd y_X6_assign prog_8_method_2_code 4 none 1 := ⟨mem_T0 500 (by decide +kernel) (by decide +kernel), mem_T0 42 (by decide +kernel) (by decide +kernel), by decide, by decide, by decide +kernel⟩
theorem in_X6_assign : Cond.instanceMethod y_X6_assign ∈ T0_ := mem_T0 498 (by decide +kernel) (by decide +kernel)
theorem se_X6_assign : Cond.selects "VirtualRewrite$Slots" y_X6_assign y_X6_assign ∈ T0_ := mem_T0 499 (by decide +kernel) (by decide +kernel)
theorem cd_X6_leastOfOneRow : ac_cd y_X6_leastOfOneRow prog_8_method_3_code 4 (some .int) 2 := ⟨mem_T0 504 (by decide +kernel) (by decide +kernel), mem_T0 42 (by decide +kernel) (by decide +kernel), by decide, by decide, by decide +kernel⟩
theorem in_X6_leastOfOneRow : Cond.instanceMethod y_X6_leastOfOneRow ∈ T0_ := mem_T0 503 (by decide +kernel) (by decide +kernel)
theorem se_X6_leastOfOneRow : Cond.selects "VirtualRewrite$Slots" y_X6_leastOfOneRow y_X6_leastOfOneRow ∈ T0_ := mem_T0 5 (by decide +kernel) (by decide +kernel)
theorem cd_X6_areOfOneRow : ac_cd y_X6_areOfOneRow prog_8_method_4_code 10 (some .boolean) 3 := ⟨mem_T0 508 (by decide +kernel) (by decide +kernel), mem_T0 42 (by decide +kernel) (by decide +kernel), by decide, by decide, by decide +kernel⟩
theorem in_X6_areOfOneRow : Cond.instanceMethod y_X6_areOfOneRow ∈ T0_ := mem_T0 507 (by decide +kernel) (by decide +kernel)
theorem se_X6_areOfOneRow : Cond.selects "VirtualRewrite$Slots" y_X6_areOfOneRow y_X6_areOfOneRow ∈ T0_ := mem_T0 6 (by decide +kernel) (by decide +kernel)
theorem cd_X5_mappingOf : ac_cd y_X5_mappingOf prog_7_method_3_code 3 (some (.object "VirtualRewrite$Mapping")) 2 := ⟨mem_T0 512 (by decide +kernel) (by decide +kernel), mem_T0 41 (by decide +kernel) (by decide +kernel), by decide, by decide, by decide +kernel⟩
theorem in_X5_mappingOf : Cond.instanceMethod y_X5_mappingOf ∈ T0_ := mem_T0 510 (by decide +kernel) (by decide +kernel)
theorem se_X5_mappingOf : Cond.selects "VirtualRewrite$Rewriting" y_X5_mappingOf y_X5_mappingOf ∈ T0_ := mem_T0 511 (by decide +kernel) (by decide +kernel)
theorem cd_X0_estimate : ac_cd y_X0_estimate prog_1_method_12_code 3 (some .int) 1 := ⟨mem_T0 519 (by decide +kernel) (by decide +kernel), mem_T0 36 (by decide +kernel) (by decide +kernel), by decide, by decide, by decide +kernel⟩
theorem in_X0_estimate : Cond.instanceMethod y_X0_estimate ∈ T0_ := mem_T0 517 (by decide +kernel) (by decide +kernel)
theorem se_X0_estimate : Cond.selects "VirtualRewrite" y_X0_estimate y_X0_estimate ∈ T0_ := mem_T0 518 (by decide +kernel) (by decide +kernel)
theorem cd_X6_productOfRows : ac_cd y_X6_productOfRows prog_8_method_5_code 5 (some .int) 1 := ⟨mem_T0 523 (by decide +kernel) (by decide +kernel), mem_T0 42 (by decide +kernel) (by decide +kernel), by decide, by decide, by decide +kernel⟩
theorem in_X6_productOfRows : Cond.instanceMethod y_X6_productOfRows ∈ T0_ := mem_T0 521 (by decide +kernel) (by decide +kernel)
theorem se_X6_productOfRows : Cond.selects "VirtualRewrite$Slots" y_X6_productOfRows y_X6_productOfRows ∈ T0_ := mem_T0 522 (by decide +kernel) (by decide +kernel)
theorem cd_X5_tableOf : ac_cd y_X5_tableOf prog_7_method_4_code 3 (some (.object "VirtualRewrite$Table")) 2 := ⟨mem_T0 527 (by decide +kernel) (by decide +kernel), mem_T0 41 (by decide +kernel) (by decide +kernel), by decide, by decide, by decide +kernel⟩
theorem in_X5_tableOf : Cond.instanceMethod y_X5_tableOf ∈ T0_ := mem_T0 525 (by decide +kernel) (by decide +kernel)
theorem se_X5_tableOf : Cond.selects "VirtualRewrite$Rewriting" y_X5_tableOf y_X5_tableOf ∈ T0_ := mem_T0 526 (by decide +kernel) (by decide +kernel)
theorem cd_X0_run : ac_cd y_X0_run prog_1_method_13_code 2 (some .int) 0 := ⟨mem_T0 533 (by decide +kernel) (by decide +kernel), mem_T0 36 (by decide +kernel) (by decide +kernel), by decide, by decide, by decide +kernel⟩
theorem in_X0_run : Cond.instanceMethod y_X0_run ∈ T0_ := mem_T0 531 (by decide +kernel) (by decide +kernel)
theorem se_X0_run : Cond.selects "VirtualRewrite" y_X0_run y_X0_run ∈ T0_ := mem_T0 532 (by decide +kernel) (by decide +kernel)
theorem cd_X4_variables : ac_cd y_X4_variables prog_6_method_7_code 3 (some .int) 0 := ⟨mem_T0 537 (by decide +kernel) (by decide +kernel), mem_T0 40 (by decide +kernel) (by decide +kernel), by decide, by decide, by decide +kernel⟩
theorem in_X4_variables : Cond.instanceMethod y_X4_variables ∈ T0_ := mem_T0 535 (by decide +kernel) (by decide +kernel)
theorem se_X4_variables : Cond.selects "VirtualRewrite$Question" y_X4_variables y_X4_variables ∈ T0_ := mem_T0 536 (by decide +kernel) (by decide +kernel)
theorem cd_X7_begin : ac_cd y_X7_begin prog_2_method_2_code 2 none 1 := ⟨mem_T0 544 (by decide +kernel) (by decide +kernel), mem_T0 43 (by decide +kernel) (by decide +kernel), by decide, by decide, by decide +kernel⟩
theorem in_X7_begin : Cond.instanceMethod y_X7_begin ∈ T0_ := mem_T0 542 (by decide +kernel) (by decide +kernel)
theorem se_X7_begin : Cond.selects "VirtualRewrite$Answers" y_X7_begin y_X7_begin ∈ T0_ := mem_T0 543 (by decide +kernel) (by decide +kernel)
theorem cd_X8_find : ac_cd y_X8_find prog_4_method_2_code 4 none 1 := ⟨mem_T0 548 (by decide +kernel) (by decide +kernel), mem_T0 44 (by decide +kernel) (by decide +kernel), by decide, by decide, by decide +kernel⟩
theorem in_X8_find : Cond.instanceMethod y_X8_find ∈ T0_ := mem_T0 546 (by decide +kernel) (by decide +kernel)
theorem se_X8_find : Cond.selects "VirtualRewrite$Finder" y_X8_find y_X8_find ∈ T0_ := mem_T0 547 (by decide +kernel) (by decide +kernel)
theorem cd_X8_layOut : ac_cd y_X8_layOut prog_4_method_3_code 3 none 0 := ⟨mem_T0 553 (by decide +kernel) (by decide +kernel), mem_T0 44 (by decide +kernel) (by decide +kernel), by decide, by decide, by decide +kernel⟩
theorem in_X8_layOut : Cond.instanceMethod y_X8_layOut ∈ T0_ := mem_T0 552 (by decide +kernel) (by decide +kernel)
theorem se_X8_layOut : Cond.selects "VirtualRewrite$Finder" y_X8_layOut y_X8_layOut ∈ T0_ := mem_T0 7 (by decide +kernel) (by decide +kernel)
theorem cd_X8_layOutVariable : ac_cd y_X8_layOutVariable prog_4_method_4_code 6 none 2 := ⟨mem_T0 559 (by decide +kernel) (by decide +kernel), mem_T0 44 (by decide +kernel) (by decide +kernel), by decide, by decide, by decide +kernel⟩
theorem in_X8_layOutVariable : Cond.instanceMethod y_X8_layOutVariable ∈ T0_ := mem_T0 558 (by decide +kernel) (by decide +kernel)
theorem se_X8_layOutVariable : Cond.selects "VirtualRewrite$Finder" y_X8_layOutVariable y_X8_layOutVariable ∈ T0_ := mem_T0 8 (by decide +kernel) (by decide +kernel)
theorem cd_X8_gatherRows : ac_cd y_X8_gatherRows prog_4_method_6_code 5 none 1 := ⟨mem_T0 566 (by decide +kernel) (by decide +kernel), mem_T0 44 (by decide +kernel) (by decide +kernel), by decide, by decide, by decide +kernel⟩
theorem in_X8_gatherRows : Cond.instanceMethod y_X8_gatherRows ∈ T0_ := mem_T0 565 (by decide +kernel) (by decide +kernel)
theorem se_X8_gatherRows : Cond.selects "VirtualRewrite$Finder" y_X8_gatherRows y_X8_gatherRows ∈ T0_ := mem_T0 9 (by decide +kernel) (by decide +kernel)
theorem cd_X8_tableOf : ac_cd y_X8_tableOf prog_4_method_5_code 2 (some (.object "VirtualRewrite$Table")) 1 := ⟨mem_T0 570 (by decide +kernel) (by decide +kernel), mem_T0 44 (by decide +kernel) (by decide +kernel), by decide, by decide, by decide +kernel⟩
theorem in_X8_tableOf : Cond.instanceMethod y_X8_tableOf ∈ T0_ := mem_T0 569 (by decide +kernel) (by decide +kernel)
theorem se_X8_tableOf : Cond.selects "VirtualRewrite$Finder" y_X8_tableOf y_X8_tableOf ∈ T0_ := mem_T0 10 (by decide +kernel) (by decide +kernel)
theorem cd_X8_suits : ac_cd y_X8_suits prog_4_method_7_code 5 (some .boolean) 3 := ⟨mem_T0 575 (by decide +kernel) (by decide +kernel), mem_T0 44 (by decide +kernel) (by decide +kernel), by decide, by decide, by decide +kernel⟩
theorem in_X8_suits : Cond.instanceMethod y_X8_suits ∈ T0_ := mem_T0 574 (by decide +kernel) (by decide +kernel)
theorem se_X8_suits : Cond.selects "VirtualRewrite$Finder" y_X8_suits y_X8_suits ∈ T0_ := mem_T0 11 (by decide +kernel) (by decide +kernel)
theorem cd_X8_suitsAtom : ac_cd y_X8_suitsAtom prog_4_method_8_code 10 (some .boolean) 3 := ⟨mem_T0 579 (by decide +kernel) (by decide +kernel), mem_T0 44 (by decide +kernel) (by decide +kernel), by decide, by decide, by decide +kernel⟩
theorem in_X8_suitsAtom : Cond.instanceMethod y_X8_suitsAtom ∈ T0_ := mem_T0 578 (by decide +kernel) (by decide +kernel)
theorem se_X8_suitsAtom : Cond.selects "VirtualRewrite$Finder" y_X8_suitsAtom y_X8_suitsAtom ∈ T0_ := mem_T0 12 (by decide +kernel) (by decide +kernel)
theorem cd_X4_allows : ac_cd y_X4_allows prog_6_method_6_code 3 (some .boolean) 2 := ⟨mem_T0 584 (by decide +kernel) (by decide +kernel), mem_T0 40 (by decide +kernel) (by decide +kernel), by decide, by decide, by decide +kernel⟩
theorem in_X4_allows : Cond.instanceMethod y_X4_allows ∈ T0_ := mem_T0 582 (by decide +kernel) (by decide +kernel)
theorem se_X4_allows : Cond.selects "VirtualRewrite$Question" y_X4_allows y_X4_allows ∈ T0_ := mem_T0 583 (by decide +kernel) (by decide +kernel)
theorem cd_X8_isTold : ac_cd y_X8_isTold prog_4_method_9_code 6 (some .boolean) 4 := ⟨mem_T0 588 (by decide +kernel) (by decide +kernel), mem_T0 44 (by decide +kernel) (by decide +kernel), by decide, by decide, by decide +kernel⟩
theorem in_X8_isTold : Cond.instanceMethod y_X8_isTold ∈ T0_ := mem_T0 587 (by decide +kernel) (by decide +kernel)
theorem se_X8_isTold : Cond.selects "VirtualRewrite$Finder" y_X8_isTold y_X8_isTold ∈ T0_ := mem_T0 13 (by decide +kernel) (by decide +kernel)
theorem cd_X8_areAlike : ac_cd y_X8_areAlike prog_4_method_10_code 7 (some .boolean) 4 := ⟨mem_T0 592 (by decide +kernel) (by decide +kernel), mem_T0 44 (by decide +kernel) (by decide +kernel), by decide, by decide, by decide +kernel⟩
theorem in_X8_areAlike : Cond.instanceMethod y_X8_areAlike ∈ T0_ := mem_T0 591 (by decide +kernel) (by decide +kernel)
theorem se_X8_areAlike : Cond.selects "VirtualRewrite$Finder" y_X8_areAlike y_X8_areAlike ∈ T0_ := mem_T0 14 (by decide +kernel) (by decide +kernel)
theorem cd_X8_orderSlots : ac_cd y_X8_orderSlots prog_4_method_11_code 5 none 0 := ⟨mem_T0 596 (by decide +kernel) (by decide +kernel), mem_T0 44 (by decide +kernel) (by decide +kernel), by decide, by decide, by decide +kernel⟩
theorem in_X8_orderSlots : Cond.instanceMethod y_X8_orderSlots ∈ T0_ := mem_T0 595 (by decide +kernel) (by decide +kernel)
theorem se_X8_orderSlots : Cond.selects "VirtualRewrite$Finder" y_X8_orderSlots y_X8_orderSlots ∈ T0_ := mem_T0 15 (by decide +kernel) (by decide +kernel)
theorem cd_X8_isBetter : ac_cd y_X8_isBetter prog_4_method_12_code 6 (some .boolean) 3 := ⟨mem_T0 600 (by decide +kernel) (by decide +kernel), mem_T0 44 (by decide +kernel) (by decide +kernel), by decide, by decide, by decide +kernel⟩
theorem in_X8_isBetter : Cond.instanceMethod y_X8_isBetter ∈ T0_ := mem_T0 599 (by decide +kernel) (by decide +kernel)
theorem se_X8_isBetter : Cond.selects "VirtualRewrite$Finder" y_X8_isBetter y_X8_isBetter ∈ T0_ := mem_T0 16 (by decide +kernel) (by decide +kernel)
theorem cd_JInteger_bitCount : ac_cd y_JInteger_bitCount prog_14_method_49_code 1 (some .int) 1 := ⟨mem_T0 603 (by decide +kernel) (by decide +kernel), mem_T0 48 (by decide +kernel) (by decide +kernel), by decide, by decide, by decide +kernel⟩
theorem st_JInteger_bitCount : Cond.static y_JInteger_bitCount ∈ T0_ := mem_T0 602 (by decide +kernel) (by decide +kernel)
theorem cd_X8_search : ac_cd y_X8_search prog_4_method_13_code 11 (some .int) 2 := ⟨mem_T0 610 (by decide +kernel) (by decide +kernel), mem_T0 44 (by decide +kernel) (by decide +kernel), by decide, by decide, by decide +kernel⟩
theorem in_X8_search : Cond.instanceMethod y_X8_search ∈ T0_ := mem_T0 609 (by decide +kernel) (by decide +kernel)
theorem se_X8_search : Cond.selects "VirtualRewrite$Finder" y_X8_search y_X8_search ∈ T0_ := mem_T0 17 (by decide +kernel) (by decide +kernel)
theorem cd_X7_take : ac_cd y_X7_take prog_2_method_6_code 4 none 2 := ⟨mem_T0 614 (by decide +kernel) (by decide +kernel), mem_T0 43 (by decide +kernel) (by decide +kernel), by decide, by decide, by decide +kernel⟩
theorem in_X7_take : Cond.instanceMethod y_X7_take ∈ T0_ := mem_T0 612 (by decide +kernel) (by decide +kernel)
theorem se_X7_take : Cond.selects "VirtualRewrite$Answers" y_X7_take y_X7_take ∈ T0_ := mem_T0 613 (by decide +kernel) (by decide +kernel)
theorem cd_X7_firstNotBefore : ac_cd y_X7_firstNotBefore prog_2_method_8_code 5 (some .int) 1 := ⟨mem_T0 618 (by decide +kernel) (by decide +kernel), mem_T0 43 (by decide +kernel) (by decide +kernel), by decide, by decide, by decide +kernel⟩
theorem in_X7_firstNotBefore : Cond.instanceMethod y_X7_firstNotBefore ∈ T0_ := mem_T0 617 (by decide +kernel) (by decide +kernel)
theorem se_X7_firstNotBefore : Cond.selects "VirtualRewrite$Answers" y_X7_firstNotBefore y_X7_firstNotBefore ∈ T0_ := mem_T0 18 (by decide +kernel) (by decide +kernel)
theorem cd_X7_compare : ac_cd y_X7_compare prog_2_method_9_code 5 (some .int) 2 := ⟨mem_T0 622 (by decide +kernel) (by decide +kernel), mem_T0 43 (by decide +kernel) (by decide +kernel), by decide, by decide, by decide +kernel⟩
theorem in_X7_compare : Cond.instanceMethod y_X7_compare ∈ T0_ := mem_T0 621 (by decide +kernel) (by decide +kernel)
theorem se_X7_compare : Cond.selects "VirtualRewrite$Answers" y_X7_compare y_X7_compare ∈ T0_ := mem_T0 19 (by decide +kernel) (by decide +kernel)
theorem cd_X7_code : ac_cd y_X7_code prog_2_method_3_code 3 (some .int) 2 := ⟨mem_T0 626 (by decide +kernel) (by decide +kernel), mem_T0 43 (by decide +kernel) (by decide +kernel), by decide, by decide, by decide +kernel⟩
theorem in_X7_code : Cond.instanceMethod y_X7_code ∈ T0_ := mem_T0 624 (by decide +kernel) (by decide +kernel)
theorem se_X7_code : Cond.selects "VirtualRewrite$Answers" y_X7_code y_X7_code ∈ T0_ := mem_T0 625 (by decide +kernel) (by decide +kernel)
theorem cd_X7_insert : ac_cd y_X7_insert prog_2_method_7_code 4 none 3 := ⟨mem_T0 630 (by decide +kernel) (by decide +kernel), mem_T0 43 (by decide +kernel) (by decide +kernel), by decide, by decide, by decide +kernel⟩
theorem in_X7_insert : Cond.instanceMethod y_X7_insert ∈ T0_ := mem_T0 629 (by decide +kernel) (by decide +kernel)
theorem se_X7_insert : Cond.selects "VirtualRewrite$Answers" y_X7_insert y_X7_insert ∈ T0_ := mem_T0 20 (by decide +kernel) (by decide +kernel)
theorem cd_X8_agrees : ac_cd y_X8_agrees prog_4_method_14_code 7 (some .boolean) 4 := ⟨mem_T0 635 (by decide +kernel) (by decide +kernel), mem_T0 44 (by decide +kernel) (by decide +kernel), by decide, by decide, by decide +kernel⟩
theorem in_X8_agrees : Cond.instanceMethod y_X8_agrees ∈ T0_ := mem_T0 634 (by decide +kernel) (by decide +kernel)
theorem se_X8_agrees : Cond.selects "VirtualRewrite$Finder" y_X8_agrees y_X8_agrees ∈ T0_ := mem_T0 21 (by decide +kernel) (by decide +kernel)
theorem cd_X8_settleVariables : ac_cd y_X8_settleVariables prog_4_method_15_code 6 none 3 := ⟨mem_T0 640 (by decide +kernel) (by decide +kernel), mem_T0 44 (by decide +kernel) (by decide +kernel), by decide, by decide, by decide +kernel⟩
theorem in_X8_settleVariables : Cond.instanceMethod y_X8_settleVariables ∈ T0_ := mem_T0 639 (by decide +kernel) (by decide +kernel)
theorem se_X8_settleVariables : Cond.selects "VirtualRewrite$Finder" y_X8_settleVariables y_X8_settleVariables ∈ T0_ := mem_T0 22 (by decide +kernel) (by decide +kernel)
theorem cd_X0_found : ac_cd y_X0_found prog_1_method_15_code 3 (some .int) 2 := ⟨mem_T0 644 (by decide +kernel) (by decide +kernel), mem_T0 36 (by decide +kernel) (by decide +kernel), by decide, by decide, by decide +kernel⟩
theorem in_X0_found : Cond.instanceMethod y_X0_found ∈ T0_ := mem_T0 642 (by decide +kernel) (by decide +kernel)
theorem se_X0_found : Cond.selects "VirtualRewrite" y_X0_found y_X0_found ∈ T0_ := mem_T0 643 (by decide +kernel) (by decide +kernel)
theorem cd_X7_finders : ac_cd y_X7_finders prog_2_method_4_code 2 (some .int) 1 := ⟨mem_T0 648 (by decide +kernel) (by decide +kernel), mem_T0 43 (by decide +kernel) (by decide +kernel), by decide, by decide, by decide +kernel⟩
theorem in_X7_finders : Cond.instanceMethod y_X7_finders ∈ T0_ := mem_T0 646 (by decide +kernel) (by decide +kernel)
theorem se_X7_finders : Cond.selects "VirtualRewrite$Answers" y_X7_finders y_X7_finders ∈ T0_ := mem_T0 647 (by decide +kernel) (by decide +kernel)
theorem cd_X7_firstFinder : ac_cd y_X7_firstFinder prog_2_method_5_code 2 (some .int) 1 := ⟨mem_T0 652 (by decide +kernel) (by decide +kernel), mem_T0 43 (by decide +kernel) (by decide +kernel), by decide, by decide, by decide +kernel⟩
theorem in_X7_firstFinder : Cond.instanceMethod y_X7_firstFinder ∈ T0_ := mem_T0 650 (by decide +kernel) (by decide +kernel)
theorem se_X7_firstFinder : Cond.selects "VirtualRewrite$Answers" y_X7_firstFinder y_X7_firstFinder ∈ T0_ := mem_T0 651 (by decide +kernel) (by decide +kernel)
theorem cd_X0_value : ac_cd y_X0_value prog_1_method_14_code 3 (some .int) 2 := ⟨mem_T0 660 (by decide +kernel) (by decide +kernel), mem_T0 36 (by decide +kernel) (by decide +kernel), by decide, by decide, by decide +kernel⟩
theorem in_X0_value : Cond.instanceMethod y_X0_value ∈ T0_ := mem_T0 658 (by decide +kernel) (by decide +kernel)
theorem se_X0_value : Cond.selects "VirtualRewrite" y_X0_value y_X0_value ∈ T0_ := mem_T0 659 (by decide +kernel) (by decide +kernel)
theorem oi_code : Cond.code objectInit ⟨#[0xb1]⟩ 1 none ∈ T0_ := mem_T0 60 (by decide +kernel) (by decide +kernel)
theorem oi_inst : Cond.instanceMethod objectInit ∈ T0_ := mem_T0 59 (by decide +kernel) (by decide +kernel)
theorem sc_nat : Cond.native arraycopyName ∈ T0_ := mem_T0 374 (by decide +kernel) (by decide +kernel)
theorem sc_stat : Cond.static arraycopyName ∈ T0_ := mem_T0 373 (by decide +kernel) (by decide +kernel)
theorem sc_ini : Cond.initialized "java/lang/System" ∈ T0_ := mem_T0 46 (by decide +kernel) (by decide +kernel)
theorem ka_I : Cond.arrayClass .int ∈ T0_ := mem_T0 93 (by decide +kernel) (by decide +kernel)
theorem ka_Z : Cond.arrayClass .boolean ∈ T0_ := mem_T0 94 (by decide +kernel) (by decide +kernel)
theorem ka_J : Cond.arrayClass .long ∈ T0_ := mem_T0 92 (by decide +kernel) (by decide +kernel)
theorem oi_X2_3 : Cond.methodLink "VirtualRewrite$Table" 3 objectInit ∈ T0_ := mem_T0 75 (by decide +kernel) (by decide +kernel)
theorem fp_X2_9 : ac_fp "VirtualRewrite$Table" 9 2 0 (.array .int) true := ⟨_, _, _, t_X2, rfl, uw_X2, by decide, mem_T0 76 (by decide +kernel) (by decide +kernel), ty_X2, nm_X2, rfl, by decide +kernel, fun _ => rfl⟩
theorem fp_X2_15 : ac_fp "VirtualRewrite$Table" 15 2 1 (.array .boolean) true := ⟨_, _, _, t_X2, rfl, uw_X2, by decide, mem_T0 77 (by decide +kernel) (by decide +kernel), ty_X2, nm_X2, rfl, by decide +kernel, fun _ => rfl⟩
theorem fp_X2_19 : ac_fp "VirtualRewrite$Table" 19 2 2 .int false := ⟨_, _, _, t_X2, rfl, uw_X2, by decide, mem_T0 80 (by decide +kernel) (by decide +kernel), ty_X2, nm_X2, rfl, by decide +kernel, fun h => by cases h⟩
theorem oi_X3_3 : Cond.methodLink "VirtualRewrite$Mapping" 3 objectInit ∈ T0_ := mem_T0 99 (by decide +kernel) (by decide +kernel)
theorem fp_X3_9 : ac_fp "VirtualRewrite$Mapping" 9 3 0 (.array .int) true := ⟨_, _, _, t_X3, rfl, uw_X3, by decide, mem_T0 100 (by decide +kernel) (by decide +kernel), ty_X3, nm_X3, rfl, by decide +kernel, fun _ => rfl⟩
theorem fp_X3_15 : ac_fp "VirtualRewrite$Mapping" 15 3 1 (.array .int) true := ⟨_, _, _, t_X3, rfl, uw_X3, by decide, mem_T0 104 (by decide +kernel) (by decide +kernel), ty_X3, nm_X3, rfl, by decide +kernel, fun _ => rfl⟩
theorem fp_X3_18 : ac_fp "VirtualRewrite$Mapping" 18 3 2 .int false := ⟨_, _, _, t_X3, rfl, uw_X3, by decide, mem_T0 108 (by decide +kernel) (by decide +kernel), ty_X3, nm_X3, rfl, by decide +kernel, fun h => by cases h⟩
theorem fp_X3_22 : ac_fp "VirtualRewrite$Mapping" 22 3 3 .int false := ⟨_, _, _, t_X3, rfl, uw_X3, by decide, mem_T0 112 (by decide +kernel) (by decide +kernel), ty_X3, nm_X3, rfl, by decide +kernel, fun h => by cases h⟩
theorem oi_X4_3 : Cond.methodLink "VirtualRewrite$Question" 3 objectInit ∈ T0_ := mem_T0 151 (by decide +kernel) (by decide +kernel)
theorem fp_X4_9 : ac_fp "VirtualRewrite$Question" 9 4 0 (.array .int) true := ⟨_, _, _, t_X4, rfl, uw_X4, by decide, mem_T0 152 (by decide +kernel) (by decide +kernel), ty_X4, nm_X4, rfl, by decide +kernel, fun _ => rfl⟩
theorem fp_X4_15 : ac_fp "VirtualRewrite$Question" 15 4 1 (.array .int) true := ⟨_, _, _, t_X4, rfl, uw_X4, by decide, mem_T0 154 (by decide +kernel) (by decide +kernel), ty_X4, nm_X4, rfl, by decide +kernel, fun _ => rfl⟩
theorem fp_X4_18 : ac_fp "VirtualRewrite$Question" 18 4 2 (.array .int) true := ⟨_, _, _, t_X4, rfl, uw_X4, by decide, mem_T0 155 (by decide +kernel) (by decide +kernel), ty_X4, nm_X4, rfl, by decide +kernel, fun _ => rfl⟩
theorem fp_X4_21 : ac_fp "VirtualRewrite$Question" 21 4 3 (.array .int) true := ⟨_, _, _, t_X4, rfl, uw_X4, by decide, mem_T0 156 (by decide +kernel) (by decide +kernel), ty_X4, nm_X4, rfl, by decide +kernel, fun _ => rfl⟩
theorem fp_X4_24 : ac_fp "VirtualRewrite$Question" 24 4 4 .int false := ⟨_, _, _, t_X4, rfl, uw_X4, by decide, mem_T0 157 (by decide +kernel) (by decide +kernel), ty_X4, nm_X4, rfl, by decide +kernel, fun h => by cases h⟩
theorem fp_X4_28 : ac_fp "VirtualRewrite$Question" 28 4 5 .int false := ⟨_, _, _, t_X4, rfl, uw_X4, by decide, mem_T0 162 (by decide +kernel) (by decide +kernel), ty_X4, nm_X4, rfl, by decide +kernel, fun h => by cases h⟩
theorem fl_X4_21 : ac_fl "VirtualRewrite$Question" 21 4 3 := ⟨_, _, _, rfl, uw_X4, by decide, mem_T0 156 (by decide +kernel) (by decide +kernel)⟩
theorem oi_X5_3 : Cond.methodLink "VirtualRewrite$Rewriting" 3 objectInit ∈ T0_ := mem_T0 182 (by decide +kernel) (by decide +kernel)
theorem fp_X5_9 : ac_fp "VirtualRewrite$Rewriting" 9 5 2 (.array .int) true := ⟨_, _, _, t_X5, rfl, uw_X5, by decide, mem_T0 185 (by decide +kernel) (by decide +kernel), ty_X5, nm_X5, rfl, by decide +kernel, fun _ => rfl⟩
theorem fp_X5_15 : ac_fp "VirtualRewrite$Rewriting" 15 5 3 (.array .int) true := ⟨_, _, _, t_X5, rfl, uw_X5, by decide, mem_T0 186 (by decide +kernel) (by decide +kernel), ty_X5, nm_X5, rfl, by decide +kernel, fun _ => rfl⟩
theorem fp_X5_18 : ac_fp "VirtualRewrite$Rewriting" 18 5 4 (.array .int) true := ⟨_, _, _, t_X5, rfl, uw_X5, by decide, mem_T0 187 (by decide +kernel) (by decide +kernel), ty_X5, nm_X5, rfl, by decide +kernel, fun _ => rfl⟩
theorem fp_X5_21 : ac_fp "VirtualRewrite$Rewriting" 21 5 5 .int false := ⟨_, _, _, t_X5, rfl, uw_X5, by decide, mem_T0 188 (by decide +kernel) (by decide +kernel), ty_X5, nm_X5, rfl, by decide +kernel, fun h => by cases h⟩
theorem fp_X5_25 : ac_fp "VirtualRewrite$Rewriting" 25 5 6 .boolean false := ⟨_, _, _, t_X5, rfl, uw_X5, by decide, mem_T0 190 (by decide +kernel) (by decide +kernel), ty_X5, nm_X5, rfl, by decide +kernel, fun h => by cases h⟩
theorem fp_X5_29 : ac_fp "VirtualRewrite$Rewriting" 29 5 7 .boolean false := ⟨_, _, _, t_X5, rfl, uw_X5, by decide, mem_T0 192 (by decide +kernel) (by decide +kernel), ty_X5, nm_X5, rfl, by decide +kernel, fun h => by cases h⟩
theorem fp_X5_32 : ac_fp "VirtualRewrite$Rewriting" 32 5 0 (.object "VirtualRewrite$Catalog") true := ⟨_, _, _, t_X5, rfl, uw_X5, by decide, mem_T0 183 (by decide +kernel) (by decide +kernel), ty_X5, nm_X5, rfl, by decide +kernel, fun _ => rfl⟩
theorem fp_X5_36 : ac_fp "VirtualRewrite$Rewriting" 36 5 1 (.object "VirtualRewrite$Question") true := ⟨_, _, _, t_X5, rfl, uw_X5, by decide, mem_T0 184 (by decide +kernel) (by decide +kernel), ty_X5, nm_X5, rfl, by decide +kernel, fun _ => rfl⟩
theorem oi_X6_3 : Cond.methodLink "VirtualRewrite$Slots" 3 objectInit ∈ T0_ := mem_T0 215 (by decide +kernel) (by decide +kernel)
theorem fp_X6_9 : ac_fp "VirtualRewrite$Slots" 9 6 3 (.array .int) true := ⟨_, _, _, t_X6, rfl, uw_X6, by decide, mem_T0 219 (by decide +kernel) (by decide +kernel), ty_X6, nm_X6, rfl, by decide +kernel, fun _ => rfl⟩
theorem fp_X6_15 : ac_fp "VirtualRewrite$Slots" 15 6 4 .int false := ⟨_, _, _, t_X6, rfl, uw_X6, by decide, mem_T0 222 (by decide +kernel) (by decide +kernel), ty_X6, nm_X6, rfl, by decide +kernel, fun h => by cases h⟩
theorem fp_X6_19 : ac_fp "VirtualRewrite$Slots" 19 6 0 (.object "VirtualRewrite$Catalog") true := ⟨_, _, _, t_X6, rfl, uw_X6, by decide, mem_T0 216 (by decide +kernel) (by decide +kernel), ty_X6, nm_X6, rfl, by decide +kernel, fun _ => rfl⟩
theorem fp_X6_23 : ac_fp "VirtualRewrite$Slots" 23 6 1 (.object "VirtualRewrite$Question") true := ⟨_, _, _, t_X6, rfl, uw_X6, by decide, mem_T0 217 (by decide +kernel) (by decide +kernel), ty_X6, nm_X6, rfl, by decide +kernel, fun _ => rfl⟩
theorem fp_X6_27 : ac_fp "VirtualRewrite$Slots" 27 6 2 (.object "VirtualRewrite$Rewriting") true := ⟨_, _, _, t_X6, rfl, uw_X6, by decide, mem_T0 218 (by decide +kernel) (by decide +kernel), ty_X6, nm_X6, rfl, by decide +kernel, fun _ => rfl⟩
theorem oi_X7_3 : Cond.methodLink "VirtualRewrite$Answers" 3 objectInit ∈ T0_ := mem_T0 241 (by decide +kernel) (by decide +kernel)
theorem fp_X7_9 : ac_fp "VirtualRewrite$Answers" 9 7 0 (.array .int) true := ⟨_, _, _, t_X7, rfl, uw_X7, by decide, mem_T0 242 (by decide +kernel) (by decide +kernel), ty_X7, nm_X7, rfl, by decide +kernel, fun _ => rfl⟩
theorem fp_X7_15 : ac_fp "VirtualRewrite$Answers" 15 7 1 (.array .int) true := ⟨_, _, _, t_X7, rfl, uw_X7, by decide, mem_T0 243 (by decide +kernel) (by decide +kernel), ty_X7, nm_X7, rfl, by decide +kernel, fun _ => rfl⟩
theorem fp_X7_18 : ac_fp "VirtualRewrite$Answers" 18 7 2 (.array .int) true := ⟨_, _, _, t_X7, rfl, uw_X7, by decide, mem_T0 244 (by decide +kernel) (by decide +kernel), ty_X7, nm_X7, rfl, by decide +kernel, fun _ => rfl⟩
theorem fp_X7_21 : ac_fp "VirtualRewrite$Answers" 21 7 3 (.array .int) true := ⟨_, _, _, t_X7, rfl, uw_X7, by decide, mem_T0 245 (by decide +kernel) (by decide +kernel), ty_X7, nm_X7, rfl, by decide +kernel, fun _ => rfl⟩
theorem fp_X7_24 : ac_fp "VirtualRewrite$Answers" 24 7 4 .int false := ⟨_, _, _, t_X7, rfl, uw_X7, by decide, mem_T0 246 (by decide +kernel) (by decide +kernel), ty_X7, nm_X7, rfl, by decide +kernel, fun h => by cases h⟩
theorem fp_X7_28 : ac_fp "VirtualRewrite$Answers" 28 7 5 .int false := ⟨_, _, _, t_X7, rfl, uw_X7, by decide, mem_T0 248 (by decide +kernel) (by decide +kernel), ty_X7, nm_X7, rfl, by decide +kernel, fun h => by cases h⟩
theorem fp_X7_31 : ac_fp "VirtualRewrite$Answers" 31 7 6 .boolean false := ⟨_, _, _, t_X7, rfl, uw_X7, by decide, mem_T0 250 (by decide +kernel) (by decide +kernel), ty_X7, nm_X7, rfl, by decide +kernel, fun h => by cases h⟩
theorem oi_X8_3 : Cond.methodLink "VirtualRewrite$Finder" 3 objectInit ∈ T0_ := mem_T0 273 (by decide +kernel) (by decide +kernel)
theorem fp_X8_9 : ac_fp "VirtualRewrite$Finder" 9 8 4 (.array .int) true := ⟨_, _, _, t_X8, rfl, uw_X8, by decide, mem_T0 278 (by decide +kernel) (by decide +kernel), ty_X8, nm_X8, rfl, by decide +kernel, fun _ => rfl⟩
theorem fp_X8_15 : ac_fp "VirtualRewrite$Finder" 15 8 5 (.array .int) true := ⟨_, _, _, t_X8, rfl, uw_X8, by decide, mem_T0 279 (by decide +kernel) (by decide +kernel), ty_X8, nm_X8, rfl, by decide +kernel, fun _ => rfl⟩
theorem fp_X8_18 : ac_fp "VirtualRewrite$Finder" 18 8 6 (.array .int) true := ⟨_, _, _, t_X8, rfl, uw_X8, by decide, mem_T0 280 (by decide +kernel) (by decide +kernel), ty_X8, nm_X8, rfl, by decide +kernel, fun _ => rfl⟩
theorem fp_X8_21 : ac_fp "VirtualRewrite$Finder" 21 8 7 (.array .int) true := ⟨_, _, _, t_X8, rfl, uw_X8, by decide, mem_T0 281 (by decide +kernel) (by decide +kernel), ty_X8, nm_X8, rfl, by decide +kernel, fun _ => rfl⟩
theorem fp_X8_24 : ac_fp "VirtualRewrite$Finder" 24 8 8 (.array .int) true := ⟨_, _, _, t_X8, rfl, uw_X8, by decide, mem_T0 282 (by decide +kernel) (by decide +kernel), ty_X8, nm_X8, rfl, by decide +kernel, fun _ => rfl⟩
theorem fp_X8_27 : ac_fp "VirtualRewrite$Finder" 27 8 9 (.array .int) true := ⟨_, _, _, t_X8, rfl, uw_X8, by decide, mem_T0 283 (by decide +kernel) (by decide +kernel), ty_X8, nm_X8, rfl, by decide +kernel, fun _ => rfl⟩
theorem fp_X8_30 : ac_fp "VirtualRewrite$Finder" 30 8 10 (.array .int) true := ⟨_, _, _, t_X8, rfl, uw_X8, by decide, mem_T0 284 (by decide +kernel) (by decide +kernel), ty_X8, nm_X8, rfl, by decide +kernel, fun _ => rfl⟩
theorem fp_X8_33 : ac_fp "VirtualRewrite$Finder" 33 8 11 (.array .int) true := ⟨_, _, _, t_X8, rfl, uw_X8, by decide, mem_T0 285 (by decide +kernel) (by decide +kernel), ty_X8, nm_X8, rfl, by decide +kernel, fun _ => rfl⟩
theorem fp_X8_36 : ac_fp "VirtualRewrite$Finder" 36 8 12 .int false := ⟨_, _, _, t_X8, rfl, uw_X8, by decide, mem_T0 286 (by decide +kernel) (by decide +kernel), ty_X8, nm_X8, rfl, by decide +kernel, fun h => by cases h⟩
theorem fp_X8_40 : ac_fp "VirtualRewrite$Finder" 40 8 0 (.object "VirtualRewrite$Question") true := ⟨_, _, _, t_X8, rfl, uw_X8, by decide, mem_T0 274 (by decide +kernel) (by decide +kernel), ty_X8, nm_X8, rfl, by decide +kernel, fun _ => rfl⟩
theorem fp_X8_44 : ac_fp "VirtualRewrite$Finder" 44 8 1 (.object "VirtualRewrite$Rewriting") true := ⟨_, _, _, t_X8, rfl, uw_X8, by decide, mem_T0 275 (by decide +kernel) (by decide +kernel), ty_X8, nm_X8, rfl, by decide +kernel, fun _ => rfl⟩
theorem fp_X8_48 : ac_fp "VirtualRewrite$Finder" 48 8 2 (.object "VirtualRewrite$Slots") true := ⟨_, _, _, t_X8, rfl, uw_X8, by decide, mem_T0 276 (by decide +kernel) (by decide +kernel), ty_X8, nm_X8, rfl, by decide +kernel, fun _ => rfl⟩
theorem fp_X8_52 : ac_fp "VirtualRewrite$Finder" 52 8 3 (.object "VirtualRewrite$Answers") true := ⟨_, _, _, t_X8, rfl, uw_X8, by decide, mem_T0 277 (by decide +kernel) (by decide +kernel), ty_X8, nm_X8, rfl, by decide +kernel, fun _ => rfl⟩
theorem fl_X2_9 : ac_fl "VirtualRewrite$Table" 9 2 0 := ⟨_, _, _, rfl, uw_X2, by decide, mem_T0 76 (by decide +kernel) (by decide +kernel)⟩
theorem fl_X2_19 : ac_fl "VirtualRewrite$Table" 19 2 2 := ⟨_, _, _, rfl, uw_X2, by decide, mem_T0 80 (by decide +kernel) (by decide +kernel)⟩
theorem sc_X2_31 : Cond.methodLink "VirtualRewrite$Table" 31 arraycopyName ∈ T0_ := mem_T0 372 (by decide +kernel) (by decide +kernel)
theorem fl_X3_9 : ac_fl "VirtualRewrite$Mapping" 9 3 0 := ⟨_, _, _, rfl, uw_X3, by decide, mem_T0 100 (by decide +kernel) (by decide +kernel)⟩
theorem fl_X3_15 : ac_fl "VirtualRewrite$Mapping" 15 3 1 := ⟨_, _, _, rfl, uw_X3, by decide, mem_T0 104 (by decide +kernel) (by decide +kernel)⟩
theorem fl_X1_11 : ac_fl "VirtualRewrite$Catalog" 11 1 0 := ⟨_, _, _, rfl, uw_X1, by decide, mem_T0 125 (by decide +kernel) (by decide +kernel)⟩
theorem fl_X1_36 : ac_fl "VirtualRewrite$Catalog" 36 3 2 := ⟨_, _, _, rfl, uw_X3, by decide, mem_T0 109 (by decide +kernel) (by decide +kernel)⟩
theorem fl_X1_31 : ac_fl "VirtualRewrite$Catalog" 31 1 4 := ⟨_, _, _, rfl, uw_X1, by decide, mem_T0 134 (by decide +kernel) (by decide +kernel)⟩
theorem fl_X1_23 : ac_fl "VirtualRewrite$Catalog" 23 1 2 := ⟨_, _, _, rfl, uw_X1, by decide, mem_T0 130 (by decide +kernel) (by decide +kernel)⟩
theorem sc_X1_68 : Cond.methodLink "VirtualRewrite$Catalog" 68 arraycopyName ∈ T0_ := mem_T0 409 (by decide +kernel) (by decide +kernel)
theorem fp_X1_31 : ac_fp "VirtualRewrite$Catalog" 31 1 4 .int false := ⟨_, _, _, t_X1, rfl, uw_X1, by decide, mem_T0 134 (by decide +kernel) (by decide +kernel), ty_X1, nm_X1, rfl, by decide +kernel, fun h => by cases h⟩
theorem kc_X0_193 : Jvm.Cond.constant "VirtualRewrite" 193 (60000) ∈ T0_ := mem_T0 417 (by decide +kernel) (by decide +kernel)
theorem fl_X4_9 : ac_fl "VirtualRewrite$Question" 9 4 0 := ⟨_, _, _, rfl, uw_X4, by decide, mem_T0 152 (by decide +kernel) (by decide +kernel)⟩
theorem fl_X4_24 : ac_fl "VirtualRewrite$Question" 24 4 4 := ⟨_, _, _, rfl, uw_X4, by decide, mem_T0 157 (by decide +kernel) (by decide +kernel)⟩
theorem fl_X4_15 : ac_fl "VirtualRewrite$Question" 15 4 1 := ⟨_, _, _, rfl, uw_X4, by decide, mem_T0 154 (by decide +kernel) (by decide +kernel)⟩
theorem fl_X4_18 : ac_fl "VirtualRewrite$Question" 18 4 2 := ⟨_, _, _, rfl, uw_X4, by decide, mem_T0 155 (by decide +kernel) (by decide +kernel)⟩
theorem fl_X5_21 : ac_fl "VirtualRewrite$Rewriting" 21 5 5 := ⟨_, _, _, rfl, uw_X5, by decide, mem_T0 188 (by decide +kernel) (by decide +kernel)⟩
theorem fl_X5_15 : ac_fl "VirtualRewrite$Rewriting" 15 5 3 := ⟨_, _, _, rfl, uw_X5, by decide, mem_T0 186 (by decide +kernel) (by decide +kernel)⟩
theorem fl_X5_9 : ac_fl "VirtualRewrite$Rewriting" 9 5 2 := ⟨_, _, _, rfl, uw_X5, by decide, mem_T0 185 (by decide +kernel) (by decide +kernel)⟩
theorem sc_X5_83 : Cond.methodLink "VirtualRewrite$Rewriting" 83 arraycopyName ∈ T0_ := mem_T0 460 (by decide +kernel) (by decide +kernel)
theorem kc_JInteger_265 : Jvm.Cond.constant "java/lang/Integer" 265 (1431655765) ∈ T0_ := mem_T0 604 (by decide +kernel) (by decide +kernel)
theorem kc_JInteger_266 : Jvm.Cond.constant "java/lang/Integer" 266 (858993459) ∈ T0_ := mem_T0 605 (by decide +kernel) (by decide +kernel)
theorem kc_JInteger_267 : Jvm.Cond.constant "java/lang/Integer" 267 (252645135) ∈ T0_ := mem_T0 606 (by decide +kernel) (by decide +kernel)
theorem fl_X7_9 : ac_fl "VirtualRewrite$Answers" 9 7 0 := ⟨_, _, _, rfl, uw_X7, by decide, mem_T0 242 (by decide +kernel) (by decide +kernel)⟩
theorem fl_X7_15 : ac_fl "VirtualRewrite$Answers" 15 7 1 := ⟨_, _, _, rfl, uw_X7, by decide, mem_T0 243 (by decide +kernel) (by decide +kernel)⟩
theorem fl_X7_24 : ac_fl "VirtualRewrite$Answers" 24 7 4 := ⟨_, _, _, rfl, uw_X7, by decide, mem_T0 246 (by decide +kernel) (by decide +kernel)⟩
theorem sc_X7_47 : Cond.methodLink "VirtualRewrite$Answers" 47 arraycopyName ∈ T0_ := mem_T0 631 (by decide +kernel) (by decide +kernel)
theorem fl_X7_18 : ac_fl "VirtualRewrite$Answers" 18 7 2 := ⟨_, _, _, rfl, uw_X7, by decide, mem_T0 244 (by decide +kernel) (by decide +kernel)⟩
theorem fl_X7_21 : ac_fl "VirtualRewrite$Answers" 21 7 3 := ⟨_, _, _, rfl, uw_X7, by decide, mem_T0 245 (by decide +kernel) (by decide +kernel)⟩
theorem oi_X1_3 : Cond.methodLink "VirtualRewrite$Catalog" 3 objectInit ∈ T0_ := mem_T0 66 (by decide +kernel) (by decide +kernel)
theorem cq_X1_9 : Cond.classLink "VirtualRewrite$Catalog" 9 "VirtualRewrite$Table" ∈ T0_ := mem_T0 67 (by decide +kernel) (by decide +kernel)
theorem fp_X1_11 : ac_fp "VirtualRewrite$Catalog" 11 1 0 (.array (.object "VirtualRewrite$Table")) true := ⟨_, _, _, t_X1, rfl, uw_X1, by decide, mem_T0 125 (by decide +kernel) (by decide +kernel), ty_X1, nm_X1, rfl, by decide +kernel, fun _ => rfl⟩
theorem cq_X1_17 : Cond.classLink "VirtualRewrite$Catalog" 17 "VirtualRewrite$Mapping" ∈ T0_ := mem_T0 69 (by decide +kernel) (by decide +kernel)
theorem fp_X1_19 : ac_fp "VirtualRewrite$Catalog" 19 1 1 (.array (.object "VirtualRewrite$Mapping")) true := ⟨_, _, _, t_X1, rfl, uw_X1, by decide, mem_T0 127 (by decide +kernel) (by decide +kernel), ty_X1, nm_X1, rfl, by decide +kernel, fun _ => rfl⟩
theorem fp_X1_23 : ac_fp "VirtualRewrite$Catalog" 23 1 2 (.array .long) true := ⟨_, _, _, t_X1, rfl, uw_X1, by decide, mem_T0 130 (by decide +kernel) (by decide +kernel), ty_X1, nm_X1, rfl, by decide +kernel, fun _ => rfl⟩
theorem fp_X1_27 : ac_fp "VirtualRewrite$Catalog" 27 1 3 .int false := ⟨_, _, _, t_X1, rfl, uw_X1, by decide, mem_T0 131 (by decide +kernel) (by decide +kernel), ty_X1, nm_X1, rfl, by decide +kernel, fun h => by cases h⟩
theorem cn_X1_9 : ac_cn "VirtualRewrite$Catalog" 9 2 3 [.null, .null, .int 0] := ⟨_, _, t_X2, rfl, uw_X2, ty_X2, mem_T0 67 (by decide +kernel) (by decide +kernel), mem_T0 71 (by decide +kernel) (by decide +kernel), mem_T0 38 (by decide +kernel) (by decide +kernel), by decide +kernel⟩
theorem ml_X1_34 : ("VirtualRewrite$Catalog", 34, y_X2_init, "VirtualRewrite") ∈ NM_ := by decide +kernel
theorem fl_X1_19 : ac_fl "VirtualRewrite$Catalog" 19 1 1 := ⟨_, _, _, rfl, uw_X1, by decide, mem_T0 127 (by decide +kernel) (by decide +kernel)⟩
theorem cn_X1_17 : ac_cn "VirtualRewrite$Catalog" 17 3 4 [.null, .null, .int 0, .int 0] := ⟨_, _, t_X3, rfl, uw_X3, ty_X3, mem_T0 69 (by decide +kernel) (by decide +kernel), mem_T0 95 (by decide +kernel) (by decide +kernel), mem_T0 39 (by decide +kernel) (by decide +kernel), by decide +kernel⟩
theorem ml_X1_35 : ("VirtualRewrite$Catalog", 35, y_X3_init, "VirtualRewrite") ∈ NM_ := by decide +kernel
theorem ml_X2_23 : Cond.methodLink "VirtualRewrite$Table" 23 y_X2_cell ∈ T0_ := mem_T0 344 (by decide +kernel) (by decide +kernel)
theorem ml_X0_57 : Cond.methodLink "VirtualRewrite" 57 y_X0_isBelow ∈ T0_ := mem_T0 337 (by decide +kernel) (by decide +kernel)
theorem fl_X0_12 : ac_fl "VirtualRewrite" 12 0 0 := ⟨_, _, _, rfl, uw_X0, by decide, mem_T0 314 (by decide +kernel) (by decide +kernel)⟩
theorem fl_X0_61 : ac_fl "VirtualRewrite" 61 1 0 := ⟨_, _, _, rfl, uw_X1, by decide, mem_T0 126 (by decide +kernel) (by decide +kernel)⟩
theorem fl_X0_78 : ac_fl "VirtualRewrite" 78 2 2 := ⟨_, _, _, rfl, uw_X2, by decide, mem_T0 82 (by decide +kernel) (by decide +kernel)⟩
theorem ml_X0_86 : Cond.methodLink "VirtualRewrite" 86 y_X2_remove ∈ T0_ := mem_T0 368 (by decide +kernel) (by decide +kernel)
theorem fl_X0_90 : ac_fl "VirtualRewrite" 90 1 3 := ⟨_, _, _, rfl, uw_X1, by decide, mem_T0 132 (by decide +kernel) (by decide +kernel)⟩
theorem fl_X0_91 : ac_fl "VirtualRewrite" 91 1 1 := ⟨_, _, _, rfl, uw_X1, by decide, mem_T0 129 (by decide +kernel) (by decide +kernel)⟩
theorem fp_X0_95 : ac_fp "VirtualRewrite" 95 3 2 .int false := ⟨_, _, _, t_X3, rfl, uw_X3, by decide, mem_T0 111 (by decide +kernel) (by decide +kernel), ty_X3, nm_X3, rfl, by decide +kernel, fun h => by cases h⟩
theorem fp_X0_100 : ac_fp "VirtualRewrite" 100 3 3 .int false := ⟨_, _, _, t_X3, rfl, uw_X3, by decide, mem_T0 114 (by decide +kernel) (by decide +kernel), ty_X3, nm_X3, rfl, by decide +kernel, fun h => by cases h⟩
theorem ml_X0_103 : Cond.methodLink "VirtualRewrite" 103 y_X3_describe ∈ T0_ := mem_T0 379 (by decide +kernel) (by decide +kernel)
theorem fp_X0_90 : ac_fp "VirtualRewrite" 90 1 3 .int false := ⟨_, _, _, t_X1, rfl, uw_X1, by decide, mem_T0 132 (by decide +kernel) (by decide +kernel), ty_X1, nm_X1, rfl, by decide +kernel, fun h => by cases h⟩
theorem fl_X0_28 : ac_fl "VirtualRewrite" 28 0 2 := ⟨_, _, _, rfl, uw_X0, by decide, mem_T0 316 (by decide +kernel) (by decide +kernel)⟩
theorem ml_X0_106 : Cond.methodLink "VirtualRewrite" 106 y_X5_forget ∈ T0_ := mem_T0 383 (by decide +kernel) (by decide +kernel)
theorem fl_X1_52 : ac_fl "VirtualRewrite$Catalog" 52 3 3 := ⟨_, _, _, rfl, uw_X3, by decide, mem_T0 113 (by decide +kernel) (by decide +kernel)⟩
theorem ml_X1_39 : Cond.methodLink "VirtualRewrite$Catalog" 39 y_X1_tableOf ∈ T0_ := mem_T0 395 (by decide +kernel) (by decide +kernel)
theorem fl_X1_55 : ac_fl "VirtualRewrite$Catalog" 55 3 1 := ⟨_, _, _, rfl, uw_X3, by decide, mem_T0 105 (by decide +kernel) (by decide +kernel)⟩
theorem ml_X1_59 : Cond.methodLink "VirtualRewrite$Catalog" 59 y_X2_cell ∈ T0_ := mem_T0 403 (by decide +kernel) (by decide +kernel)
theorem kl_X1_63 : Jvm.Cond.constantLong "VirtualRewrite$Catalog" 63 (60000) ∈ T0_ := mem_T0 404 (by decide +kernel) (by decide +kernel)
theorem fl_X1_65 : ac_fl "VirtualRewrite$Catalog" 65 3 0 := ⟨_, _, _, rfl, uw_X3, by decide, mem_T0 101 (by decide +kernel) (by decide +kernel)⟩
theorem ml_X0_113 : Cond.methodLink "VirtualRewrite" 113 y_X0_isPlace ∈ T0_ := mem_T0 414 (by decide +kernel) (by decide +kernel)
theorem fl_X0_19 : ac_fl "VirtualRewrite" 19 0 1 := ⟨_, _, _, rfl, uw_X0, by decide, mem_T0 315 (by decide +kernel) (by decide +kernel)⟩
theorem fl_X0_116 : ac_fl "VirtualRewrite" 116 4 4 := ⟨_, _, _, rfl, uw_X4, by decide, mem_T0 161 (by decide +kernel) (by decide +kernel)⟩
theorem ml_X0_119 : Cond.methodLink "VirtualRewrite" 119 y_X4_append ∈ T0_ := mem_T0 418 (by decide +kernel) (by decide +kernel)
theorem ml_X4_31 : Cond.methodLink "VirtualRewrite$Question" 31 y_JMath_max ∈ T0_ := mem_T0 430 (by decide +kernel) (by decide +kernel)
theorem ml_X4_37 : Cond.methodLink "VirtualRewrite$Question" 37 y_JMath_min ∈ T0_ := mem_T0 433 (by decide +kernel) (by decide +kernel)
theorem fl_X4_28 : ac_fl "VirtualRewrite$Question" 28 4 5 := ⟨_, _, _, rfl, uw_X4, by decide, mem_T0 162 (by decide +kernel) (by decide +kernel)⟩
theorem ml_X0_126 : Cond.methodLink "VirtualRewrite" 126 y_X4_reset ∈ T0_ := mem_T0 440 (by decide +kernel) (by decide +kernel)
theorem fl_X5_36 : ac_fl "VirtualRewrite$Rewriting" 36 5 1 := ⟨_, _, _, rfl, uw_X5, by decide, mem_T0 184 (by decide +kernel) (by decide +kernel)⟩
theorem ml_X5_89 : Cond.methodLink "VirtualRewrite$Rewriting" 89 y_X4_told ∈ T0_ := mem_T0 465 (by decide +kernel) (by decide +kernel)
theorem fl_X5_92 : ac_fl "VirtualRewrite$Rewriting" 92 3 0 := ⟨_, _, _, rfl, uw_X3, by decide, mem_T0 103 (by decide +kernel) (by decide +kernel)⟩
theorem ml_X5_93 : ("VirtualRewrite$Rewriting", 93, y_X0_isVariable, "VirtualRewrite") ∈ NM_ := by decide +kernel
theorem ml_X5_97 : ("VirtualRewrite$Rewriting", 97, y_X0_variableOf, "VirtualRewrite") ∈ NM_ := by decide +kernel
theorem ml_X5_101 : ("VirtualRewrite$Rewriting", 101, y_X0_has, "VirtualRewrite") ∈ NM_ := by decide +kernel
theorem fl_X5_18 : ac_fl "VirtualRewrite$Rewriting" 18 5 4 := ⟨_, _, _, rfl, uw_X5, by decide, mem_T0 187 (by decide +kernel) (by decide +kernel)⟩
theorem ml_X5_105 : ("VirtualRewrite$Rewriting", 105, y_X0_with, "VirtualRewrite") ∈ NM_ := by decide +kernel
theorem fl_X5_32 : ac_fl "VirtualRewrite$Rewriting" 32 5 0 := ⟨_, _, _, rfl, uw_X5, by decide, mem_T0 183 (by decide +kernel) (by decide +kernel)⟩
theorem fl_X5_40 : ac_fl "VirtualRewrite$Rewriting" 40 1 1 := ⟨_, _, _, rfl, uw_X1, by decide, mem_T0 128 (by decide +kernel) (by decide +kernel)⟩
theorem ml_X5_46 : Cond.methodLink "VirtualRewrite$Rewriting" 46 y_X5_chosen ∈ T0_ := mem_T0 513 (by decide +kernel) (by decide +kernel)
theorem ml_X4_40 : ("VirtualRewrite$Question", 40, y_X0_isVariable, "VirtualRewrite") ∈ NM_ := by decide +kernel
theorem ml_X4_44 : ("VirtualRewrite$Question", 44, y_X0_variableOf, "VirtualRewrite") ∈ NM_ := by decide +kernel
theorem ml_X4_48 : ("VirtualRewrite$Question", 48, y_X0_with, "VirtualRewrite") ∈ NM_ := by decide +kernel
theorem fl_X8_18 : ac_fl "VirtualRewrite$Finder" 18 8 6 := ⟨_, _, _, rfl, uw_X8, by decide, mem_T0 280 (by decide +kernel) (by decide +kernel)⟩
theorem ml_X8_137 : Cond.methodLink "VirtualRewrite$Finder" 137 y_X2_cell ∈ T0_ := mem_T0 580 (by decide +kernel) (by decide +kernel)
theorem fl_X8_15 : ac_fl "VirtualRewrite$Finder" 15 8 5 := ⟨_, _, _, rfl, uw_X8, by decide, mem_T0 279 (by decide +kernel) (by decide +kernel)⟩
theorem ml_X8_151 : Cond.methodLink "VirtualRewrite$Finder" 151 y_JInteger_bitCount ∈ T0_ := mem_T0 601 (by decide +kernel) (by decide +kernel)
theorem fl_X8_24 : ac_fl "VirtualRewrite$Finder" 24 8 8 := ⟨_, _, _, rfl, uw_X8, by decide, mem_T0 282 (by decide +kernel) (by decide +kernel)⟩
theorem ml_X7_53 : Cond.methodLink "VirtualRewrite$Answers" 53 y_X7_code ∈ T0_ := mem_T0 623 (by decide +kernel) (by decide +kernel)
theorem ml_X8_173 : ("VirtualRewrite$Finder", 173, y_X0_has, "VirtualRewrite") ∈ NM_ := by decide +kernel
theorem fl_X8_33 : ac_fl "VirtualRewrite$Finder" 33 8 11 := ⟨_, _, _, rfl, uw_X8, by decide, mem_T0 285 (by decide +kernel) (by decide +kernel)⟩
theorem fl_X8_30 : ac_fl "VirtualRewrite$Finder" 30 8 10 := ⟨_, _, _, rfl, uw_X8, by decide, mem_T0 284 (by decide +kernel) (by decide +kernel)⟩
theorem fl_X0_44 : ac_fl "VirtualRewrite" 44 0 4 := ⟨_, _, _, rfl, uw_X0, by decide, mem_T0 318 (by decide +kernel) (by decide +kernel)⟩
theorem fl_X0_171 : ac_fl "VirtualRewrite" 171 7 4 := ⟨_, _, _, rfl, uw_X7, by decide, mem_T0 247 (by decide +kernel) (by decide +kernel)⟩
theorem ml_X0_190 : Cond.methodLink "VirtualRewrite" 190 y_X7_firstFinder ∈ T0_ := mem_T0 649 (by decide +kernel) (by decide +kernel)
theorem ml_X0_187 : Cond.methodLink "VirtualRewrite" 187 y_X7_finders ∈ T0_ := mem_T0 645 (by decide +kernel) (by decide +kernel)
theorem fl_X0_172 : ac_fl "VirtualRewrite" 172 7 5 := ⟨_, _, _, rfl, uw_X7, by decide, mem_T0 249 (by decide +kernel) (by decide +kernel)⟩
theorem ml_X0_174 : Cond.methodLink "VirtualRewrite" 174 y_X0_has ∈ T0_ := mem_T0 661 (by decide +kernel) (by decide +kernel)
theorem ml_X0_184 : Cond.methodLink "VirtualRewrite" 184 y_X7_code ∈ T0_ := mem_T0 728 (by decide +kernel) (by decide +kernel)
theorem oi_X0_3 : Cond.methodLink "VirtualRewrite" 3 objectInit ∈ T0_ := mem_T0 58 (by decide +kernel) (by decide +kernel)
theorem cn_X0_9 : ac_cn "VirtualRewrite" 9 1 5 [.null, .null, .null, .int 0, .int 0] := ⟨_, _, t_X1, rfl, uw_X1, ty_X1, mem_T0 61 (by decide +kernel) (by decide +kernel), mem_T0 62 (by decide +kernel) (by decide +kernel), mem_T0 37 (by decide +kernel) (by decide +kernel), by decide +kernel⟩
theorem ml_X0_11 : Cond.methodLink "VirtualRewrite" 11 y_X1_init ∈ T0_ := mem_T0 63 (by decide +kernel) (by decide +kernel)
theorem fp_X0_12 : ac_fp "VirtualRewrite" 12 0 0 (.object "VirtualRewrite$Catalog") true := ⟨_, _, _, t_X0, rfl, uw_X0, by decide, mem_T0 314 (by decide +kernel) (by decide +kernel), ty_X0, nm_X0, rfl, by decide +kernel, fun _ => rfl⟩
theorem cn_X0_16 : ac_cn "VirtualRewrite" 16 4 6 [.null, .null, .null, .null, .int 0, .int 0] := ⟨_, _, t_X4, rfl, uw_X4, ty_X4, mem_T0 146 (by decide +kernel) (by decide +kernel), mem_T0 147 (by decide +kernel) (by decide +kernel), mem_T0 40 (by decide +kernel) (by decide +kernel), by decide +kernel⟩
theorem ml_X0_18 : Cond.methodLink "VirtualRewrite" 18 y_X4_init ∈ T0_ := mem_T0 148 (by decide +kernel) (by decide +kernel)
theorem fp_X0_19 : ac_fp "VirtualRewrite" 19 0 1 (.object "VirtualRewrite$Question") true := ⟨_, _, _, t_X0, rfl, uw_X0, by decide, mem_T0 315 (by decide +kernel) (by decide +kernel), ty_X0, nm_X0, rfl, by decide +kernel, fun _ => rfl⟩
theorem cn_X0_23 : ac_cn "VirtualRewrite" 23 5 8 [.null, .null, .null, .null, .null, .int 0, .int 0, .int 0] := ⟨_, _, t_X5, rfl, uw_X5, ty_X5, mem_T0 177 (by decide +kernel) (by decide +kernel), mem_T0 178 (by decide +kernel) (by decide +kernel), mem_T0 41 (by decide +kernel) (by decide +kernel), by decide +kernel⟩
theorem ml_X0_25 : Cond.methodLink "VirtualRewrite" 25 y_X5_init ∈ T0_ := mem_T0 179 (by decide +kernel) (by decide +kernel)
theorem fp_X0_28 : ac_fp "VirtualRewrite" 28 0 2 (.object "VirtualRewrite$Rewriting") true := ⟨_, _, _, t_X0, rfl, uw_X0, by decide, mem_T0 316 (by decide +kernel) (by decide +kernel), ty_X0, nm_X0, rfl, by decide +kernel, fun _ => rfl⟩
theorem cn_X0_32 : ac_cn "VirtualRewrite" 32 6 5 [.null, .null, .null, .null, .int 0] := ⟨_, _, t_X6, rfl, uw_X6, ty_X6, mem_T0 210 (by decide +kernel) (by decide +kernel), mem_T0 211 (by decide +kernel) (by decide +kernel), mem_T0 42 (by decide +kernel) (by decide +kernel), by decide +kernel⟩
theorem ml_X0_34 : Cond.methodLink "VirtualRewrite" 34 y_X6_init ∈ T0_ := mem_T0 212 (by decide +kernel) (by decide +kernel)
theorem fp_X0_37 : ac_fp "VirtualRewrite" 37 0 3 (.object "VirtualRewrite$Slots") true := ⟨_, _, _, t_X0, rfl, uw_X0, by decide, mem_T0 317 (by decide +kernel) (by decide +kernel), ty_X0, nm_X0, rfl, by decide +kernel, fun _ => rfl⟩
theorem cn_X0_41 : ac_cn "VirtualRewrite" 41 7 7 [.null, .null, .null, .null, .int 0, .int 0, .int 0] := ⟨_, _, t_X7, rfl, uw_X7, ty_X7, mem_T0 236 (by decide +kernel) (by decide +kernel), mem_T0 237 (by decide +kernel) (by decide +kernel), mem_T0 43 (by decide +kernel) (by decide +kernel), by decide +kernel⟩
theorem ml_X0_43 : ("VirtualRewrite", 43, y_X7_init, "VirtualRewrite") ∈ NM_ := by decide +kernel
theorem fp_X0_44 : ac_fp "VirtualRewrite" 44 0 4 (.object "VirtualRewrite$Answers") true := ⟨_, _, _, t_X0, rfl, uw_X0, by decide, mem_T0 318 (by decide +kernel) (by decide +kernel), ty_X0, nm_X0, rfl, by decide +kernel, fun _ => rfl⟩
theorem cn_X0_48 : ac_cn "VirtualRewrite" 48 8 13 [.null, .null, .null, .null, .null, .null, .null, .null, .null, .null, .null, .null, .int 0] := ⟨_, _, t_X8, rfl, uw_X8, ty_X8, mem_T0 268 (by decide +kernel) (by decide +kernel), mem_T0 269 (by decide +kernel) (by decide +kernel), mem_T0 44 (by decide +kernel) (by decide +kernel), by decide +kernel⟩
theorem fl_X0_37 : ac_fl "VirtualRewrite" 37 0 3 := ⟨_, _, _, rfl, uw_X0, by decide, mem_T0 317 (by decide +kernel) (by decide +kernel)⟩
theorem ml_X0_50 : Cond.methodLink "VirtualRewrite" 50 y_X8_init ∈ T0_ := mem_T0 270 (by decide +kernel) (by decide +kernel)
theorem fp_X0_53 : ac_fp "VirtualRewrite" 53 0 5 (.object "VirtualRewrite$Finder") true := ⟨_, _, _, t_X0, rfl, uw_X0, by decide, mem_T0 319 (by decide +kernel) (by decide +kernel), ty_X0, nm_X0, rfl, by decide +kernel, fun _ => rfl⟩
theorem ml_X2_27 : Cond.methodLink "VirtualRewrite$Table" 27 y_X2_holds ∈ T0_ := mem_T0 348 (by decide +kernel) (by decide +kernel)
theorem fl_X2_15 : ac_fl "VirtualRewrite$Table" 15 2 1 := ⟨_, _, _, rfl, uw_X2, by decide, mem_T0 77 (by decide +kernel) (by decide +kernel)⟩
theorem fl_X1_27 : ac_fl "VirtualRewrite$Catalog" 27 1 3 := ⟨_, _, _, rfl, uw_X1, by decide, mem_T0 131 (by decide +kernel) (by decide +kernel)⟩
theorem fl_X1_43 : ac_fl "VirtualRewrite$Catalog" 43 2 2 := ⟨_, _, _, rfl, uw_X2, by decide, mem_T0 81 (by decide +kernel) (by decide +kernel)⟩
theorem ml_X1_44 : Cond.methodLink "VirtualRewrite$Catalog" 44 y_X1_packedTriple ∈ T0_ := mem_T0 399 (by decide +kernel) (by decide +kernel)
theorem ml_X1_48 : Cond.methodLink "VirtualRewrite$Catalog" 48 y_X1_keepTriple ∈ T0_ := mem_T0 405 (by decide +kernel) (by decide +kernel)
theorem fl_X0_120 : ac_fl "VirtualRewrite" 120 4 5 := ⟨_, _, _, rfl, uw_X4, by decide, mem_T0 163 (by decide +kernel) (by decide +kernel)⟩
theorem ml_X0_123 : Cond.methodLink "VirtualRewrite" 123 y_X4_narrow ∈ T0_ := mem_T0 426 (by decide +kernel) (by decide +kernel)
theorem fl_X5_62 : ac_fl "VirtualRewrite$Rewriting" 62 4 4 := ⟨_, _, _, rfl, uw_X4, by decide, mem_T0 160 (by decide +kernel) (by decide +kernel)⟩
theorem fl_X5_70 : ac_fl "VirtualRewrite$Rewriting" 70 1 3 := ⟨_, _, _, rfl, uw_X1, by decide, mem_T0 133 (by decide +kernel) (by decide +kernel)⟩
theorem fl_X5_25 : ac_fl "VirtualRewrite$Rewriting" 25 5 6 := ⟨_, _, _, rfl, uw_X5, by decide, mem_T0 190 (by decide +kernel) (by decide +kernel)⟩
theorem fl_X5_71 : ac_fl "VirtualRewrite$Rewriting" 71 3 3 := ⟨_, _, _, rfl, uw_X3, by decide, mem_T0 115 (by decide +kernel) (by decide +kernel)⟩
theorem fl_X5_76 : ac_fl "VirtualRewrite$Rewriting" 76 4 0 := ⟨_, _, _, rfl, uw_X4, by decide, mem_T0 153 (by decide +kernel) (by decide +kernel)⟩
theorem ml_X5_79 : Cond.methodLink "VirtualRewrite$Rewriting" 79 y_X5_settle ∈ T0_ := mem_T0 461 (by decide +kernel) (by decide +kernel)
theorem ml_X5_58 : Cond.methodLink "VirtualRewrite$Rewriting" 58 y_X5_extend ∈ T0_ := mem_T0 452 (by decide +kernel) (by decide +kernel)
theorem ml_X5_67 : Cond.methodLink "VirtualRewrite$Rewriting" 67 y_X5_keep ∈ T0_ := mem_T0 456 (by decide +kernel) (by decide +kernel)
theorem fl_X6_27 : ac_fl "VirtualRewrite$Slots" 27 6 2 := ⟨_, _, _, rfl, uw_X6, by decide, mem_T0 218 (by decide +kernel) (by decide +kernel)⟩
theorem ml_X6_44 : Cond.methodLink "VirtualRewrite$Slots" 44 y_X5_mappingOf ∈ T0_ := mem_T0 509 (by decide +kernel) (by decide +kernel)
theorem fl_X6_50 : ac_fl "VirtualRewrite$Slots" 50 3 2 := ⟨_, _, _, rfl, uw_X3, by decide, mem_T0 110 (by decide +kernel) (by decide +kernel)⟩
theorem fl_X6_19 : ac_fl "VirtualRewrite$Slots" 19 6 0 := ⟨_, _, _, rfl, uw_X6, by decide, mem_T0 216 (by decide +kernel) (by decide +kernel)⟩
theorem ml_X6_55 : Cond.methodLink "VirtualRewrite$Slots" 55 y_X1_tableOf ∈ T0_ := mem_T0 514 (by decide +kernel) (by decide +kernel)
theorem fl_X6_61 : ac_fl "VirtualRewrite$Slots" 61 2 1 := ⟨_, _, _, rfl, uw_X2, by decide, mem_T0 79 (by decide +kernel) (by decide +kernel)⟩
theorem fl_X6_67 : ac_fl "VirtualRewrite$Slots" 67 3 1 := ⟨_, _, _, rfl, uw_X3, by decide, mem_T0 107 (by decide +kernel) (by decide +kernel)⟩
theorem fl_X6_23 : ac_fl "VirtualRewrite$Slots" 23 6 1 := ⟨_, _, _, rfl, uw_X6, by decide, mem_T0 217 (by decide +kernel) (by decide +kernel)⟩
theorem ml_X6_70 : Cond.methodLink "VirtualRewrite$Slots" 70 y_X4_told ∈ T0_ := mem_T0 515 (by decide +kernel) (by decide +kernel)
theorem ml_X5_50 : Cond.methodLink "VirtualRewrite$Rewriting" 50 y_X5_mappingOf ∈ T0_ := mem_T0 528 (by decide +kernel) (by decide +kernel)
theorem ml_X5_54 : Cond.methodLink "VirtualRewrite$Rewriting" 54 y_X1_tableOf ∈ T0_ := mem_T0 529 (by decide +kernel) (by decide +kernel)
theorem fl_X8_40 : ac_fl "VirtualRewrite$Finder" 40 8 0 := ⟨_, _, _, rfl, uw_X8, by decide, mem_T0 274 (by decide +kernel) (by decide +kernel)⟩
theorem ml_X8_86 : Cond.methodLink "VirtualRewrite$Finder" 86 y_X4_told ∈ T0_ := mem_T0 554 (by decide +kernel) (by decide +kernel)
theorem ml_X8_97 : ("VirtualRewrite$Finder", 97, y_X0_variableOf, "VirtualRewrite") ∈ NM_ := by decide +kernel
theorem fl_X8_48 : ac_fl "VirtualRewrite$Finder" 48 8 2 := ⟨_, _, _, rfl, uw_X8, by decide, mem_T0 276 (by decide +kernel) (by decide +kernel)⟩
theorem fl_X8_83 : ac_fl "VirtualRewrite$Finder" 83 6 3 := ⟨_, _, _, rfl, uw_X6, by decide, mem_T0 220 (by decide +kernel) (by decide +kernel)⟩
theorem fl_X8_44 : ac_fl "VirtualRewrite$Finder" 44 8 1 := ⟨_, _, _, rfl, uw_X8, by decide, mem_T0 275 (by decide +kernel) (by decide +kernel)⟩
theorem fl_X8_36 : ac_fl "VirtualRewrite$Finder" 36 8 12 := ⟨_, _, _, rfl, uw_X8, by decide, mem_T0 286 (by decide +kernel) (by decide +kernel)⟩
theorem ml_X8_101 : Cond.methodLink "VirtualRewrite$Finder" 101 y_X5_mappingOf ∈ T0_ := mem_T0 561 (by decide +kernel) (by decide +kernel)
theorem fl_X8_107 : ac_fl "VirtualRewrite$Finder" 107 3 0 := ⟨_, _, _, rfl, uw_X3, by decide, mem_T0 102 (by decide +kernel) (by decide +kernel)⟩
theorem fl_X8_110 : ac_fl "VirtualRewrite$Finder" 110 3 1 := ⟨_, _, _, rfl, uw_X3, by decide, mem_T0 106 (by decide +kernel) (by decide +kernel)⟩
theorem ml_X8_111 : ("VirtualRewrite$Finder", 111, y_X0_with, "VirtualRewrite") ∈ NM_ := by decide +kernel
theorem ml_X8_89 : ("VirtualRewrite$Finder", 89, y_X0_isVariable, "VirtualRewrite") ∈ NM_ := by decide +kernel
theorem ml_X8_140 : Cond.methodLink "VirtualRewrite$Finder" 140 y_X4_allows ∈ T0_ := mem_T0 581 (by decide +kernel) (by decide +kernel)
theorem fl_X8_21 : ac_fl "VirtualRewrite$Finder" 21 8 7 := ⟨_, _, _, rfl, uw_X8, by decide, mem_T0 281 (by decide +kernel) (by decide +kernel)⟩
theorem ml_X8_144 : Cond.methodLink "VirtualRewrite$Finder" 144 y_X8_areAlike ∈ T0_ := mem_T0 589 (by decide +kernel) (by decide +kernel)
theorem fl_X8_65 : ac_fl "VirtualRewrite$Finder" 65 6 4 := ⟨_, _, _, rfl, uw_X6, by decide, mem_T0 223 (by decide +kernel) (by decide +kernel)⟩
theorem fl_X8_27 : ac_fl "VirtualRewrite$Finder" 27 8 9 := ⟨_, _, _, rfl, uw_X8, by decide, mem_T0 283 (by decide +kernel) (by decide +kernel)⟩
theorem ml_X8_147 : Cond.methodLink "VirtualRewrite$Finder" 147 y_X8_isBetter ∈ T0_ := mem_T0 597 (by decide +kernel) (by decide +kernel)
theorem ml_X7_39 : Cond.methodLink "VirtualRewrite$Answers" 39 y_X7_compare ∈ T0_ := mem_T0 619 (by decide +kernel) (by decide +kernel)
theorem fl_X0_65 : ac_fl "VirtualRewrite" 65 2 1 := ⟨_, _, _, rfl, uw_X2, by decide, mem_T0 78 (by decide +kernel) (by decide +kernel)⟩
theorem ml_X0_71 : Cond.methodLink "VirtualRewrite" 71 y_X2_repeats ∈ T0_ := mem_T0 340 (by decide +kernel) (by decide +kernel)
theorem ml_X0_75 : Cond.methodLink "VirtualRewrite" 75 y_X2_refuses ∈ T0_ := mem_T0 356 (by decide +kernel) (by decide +kernel)
theorem ml_X0_82 : Cond.methodLink "VirtualRewrite" 82 y_X2_append ∈ T0_ := mem_T0 360 (by decide +kernel) (by decide +kernel)
theorem ml_X0_109 : Cond.methodLink "VirtualRewrite" 109 y_X1_countTriples ∈ T0_ := mem_T0 391 (by decide +kernel) (by decide +kernel)
theorem ml_X6_40 : Cond.methodLink "VirtualRewrite$Slots" 40 y_X6_areOfOneRow ∈ T0_ := mem_T0 505 (by decide +kernel) (by decide +kernel)
theorem fl_X6_31 : ac_fl "VirtualRewrite$Slots" 31 4 4 := ⟨_, _, _, rfl, uw_X4, by decide, mem_T0 158 (by decide +kernel) (by decide +kernel)⟩
theorem fl_X6_9 : ac_fl "VirtualRewrite$Slots" 9 6 3 := ⟨_, _, _, rfl, uw_X6, by decide, mem_T0 219 (by decide +kernel) (by decide +kernel)⟩
theorem ml_X6_73 : Cond.methodLink "VirtualRewrite$Slots" 73 y_X5_tableOf ∈ T0_ := mem_T0 524 (by decide +kernel) (by decide +kernel)
theorem fl_X6_76 : ac_fl "VirtualRewrite$Slots" 76 2 2 := ⟨_, _, _, rfl, uw_X2, by decide, mem_T0 83 (by decide +kernel) (by decide +kernel)⟩
theorem fl_X8_78 : ac_fl "VirtualRewrite$Finder" 78 4 4 := ⟨_, _, _, rfl, uw_X4, by decide, mem_T0 159 (by decide +kernel) (by decide +kernel)⟩
theorem fl_X8_9 : ac_fl "VirtualRewrite$Finder" 9 8 4 := ⟨_, _, _, rfl, uw_X8, by decide, mem_T0 278 (by decide +kernel) (by decide +kernel)⟩
theorem ml_X8_93 : Cond.methodLink "VirtualRewrite$Finder" 93 y_X8_layOutVariable ∈ T0_ := mem_T0 556 (by decide +kernel) (by decide +kernel)
theorem ml_X8_114 : Cond.methodLink "VirtualRewrite$Finder" 114 y_X5_tableOf ∈ T0_ := mem_T0 571 (by decide +kernel) (by decide +kernel)
theorem ml_X8_134 : Cond.methodLink "VirtualRewrite$Finder" 134 y_X8_suitsAtom ∈ T0_ := mem_T0 576 (by decide +kernel) (by decide +kernel)
theorem ml_X7_35 : Cond.methodLink "VirtualRewrite$Answers" 35 y_X7_firstNotBefore ∈ T0_ := mem_T0 615 (by decide +kernel) (by decide +kernel)
theorem ml_X7_43 : Cond.methodLink "VirtualRewrite$Answers" 43 y_X7_insert ∈ T0_ := mem_T0 627 (by decide +kernel) (by decide +kernel)
theorem ml_X6_36 : Cond.methodLink "VirtualRewrite$Slots" 36 y_X6_leastOfOneRow ∈ T0_ := mem_T0 501 (by decide +kernel) (by decide +kernel)
theorem fl_X6_15 : ac_fl "VirtualRewrite$Slots" 15 6 4 := ⟨_, _, _, rfl, uw_X6, by decide, mem_T0 222 (by decide +kernel) (by decide +kernel)⟩
theorem ml_X8_118 : Cond.methodLink "VirtualRewrite$Finder" 118 y_X8_tableOf ∈ T0_ := mem_T0 567 (by decide +kernel) (by decide +kernel)
theorem fl_X8_121 : ac_fl "VirtualRewrite$Finder" 121 2 2 := ⟨_, _, _, rfl, uw_X2, by decide, mem_T0 84 (by decide +kernel) (by decide +kernel)⟩
theorem ml_X8_126 : Cond.methodLink "VirtualRewrite$Finder" 126 y_X8_suits ∈ T0_ := mem_T0 572 (by decide +kernel) (by decide +kernel)
theorem ml_X8_130 : Cond.methodLink "VirtualRewrite$Finder" 130 y_X8_isTold ∈ T0_ := mem_T0 585 (by decide +kernel) (by decide +kernel)
theorem fl_X8_52 : ac_fl "VirtualRewrite$Finder" 52 8 3 := ⟨_, _, _, rfl, uw_X8, by decide, mem_T0 277 (by decide +kernel) (by decide +kernel)⟩
theorem fl_X8_162 : ac_fl "VirtualRewrite$Finder" 162 7 6 := ⟨_, _, _, rfl, uw_X7, by decide, mem_T0 252 (by decide +kernel) (by decide +kernel)⟩
theorem ml_X8_166 : Cond.methodLink "VirtualRewrite$Finder" 166 y_X8_agrees ∈ T0_ := mem_T0 632 (by decide +kernel) (by decide +kernel)
theorem ml_X8_169 : Cond.methodLink "VirtualRewrite$Finder" 169 y_X8_settleVariables ∈ T0_ := mem_T0 637 (by decide +kernel) (by decide +kernel)
theorem ml_X8_74 : Cond.methodLink "VirtualRewrite$Finder" 74 y_X8_search ∈ T0_ := mem_T0 607 (by decide +kernel) (by decide +kernel)
theorem ml_X8_156 : Cond.methodLink "VirtualRewrite$Finder" 156 y_X7_take ∈ T0_ := mem_T0 611 (by decide +kernel) (by decide +kernel)
theorem fl_X5_29 : ac_fl "VirtualRewrite$Rewriting" 29 5 7 := ⟨_, _, _, rfl, uw_X5, by decide, mem_T0 192 (by decide +kernel) (by decide +kernel)⟩
theorem ml_X0_129 : Cond.methodLink "VirtualRewrite" 129 y_X5_refresh ∈ T0_ := mem_T0 448 (by decide +kernel) (by decide +kernel)
theorem fl_X0_132 : ac_fl "VirtualRewrite" 132 5 6 := ⟨_, _, _, rfl, uw_X5, by decide, mem_T0 191 (by decide +kernel) (by decide +kernel)⟩
theorem fl_X0_136 : ac_fl "VirtualRewrite" 136 5 5 := ⟨_, _, _, rfl, uw_X5, by decide, mem_T0 189 (by decide +kernel) (by decide +kernel)⟩
theorem ml_X0_137 : Cond.methodLink "VirtualRewrite" 137 y_X0_isAsked ∈ T0_ := mem_T0 485 (by decide +kernel) (by decide +kernel)
theorem ml_X0_140 : Cond.methodLink "VirtualRewrite" 140 y_X0_troubleWith ∈ T0_ := mem_T0 489 (by decide +kernel) (by decide +kernel)
theorem ml_X0_148 : Cond.methodLink "VirtualRewrite" 148 y_X6_assign ∈ T0_ := mem_T0 497 (by decide +kernel) (by decide +kernel)
theorem fl_X0_155 : ac_fl "VirtualRewrite" 155 6 4 := ⟨_, _, _, rfl, uw_X6, by decide, mem_T0 224 (by decide +kernel) (by decide +kernel)⟩
theorem fl_X0_151 : ac_fl "VirtualRewrite" 151 6 3 := ⟨_, _, _, rfl, uw_X6, by decide, mem_T0 221 (by decide +kernel) (by decide +kernel)⟩
theorem ml_X0_144 : Cond.methodLink "VirtualRewrite" 144 y_X5_chosen ∈ T0_ := mem_T0 493 (by decide +kernel) (by decide +kernel)
theorem ml_X0_158 : Cond.methodLink "VirtualRewrite" 158 y_X6_productOfRows ∈ T0_ := mem_T0 520 (by decide +kernel) (by decide +kernel)
theorem ml_X8_56 : Cond.methodLink "VirtualRewrite$Finder" 56 y_X6_assign ∈ T0_ := mem_T0 549 (by decide +kernel) (by decide +kernel)
theorem ml_X8_62 : Cond.methodLink "VirtualRewrite$Finder" 62 y_X8_layOut ∈ T0_ := mem_T0 550 (by decide +kernel) (by decide +kernel)
theorem ml_X8_68 : Cond.methodLink "VirtualRewrite$Finder" 68 y_X8_gatherRows ∈ T0_ := mem_T0 563 (by decide +kernel) (by decide +kernel)
theorem ml_X8_71 : Cond.methodLink "VirtualRewrite$Finder" 71 y_X8_orderSlots ∈ T0_ := mem_T0 593 (by decide +kernel) (by decide +kernel)
theorem ml_X0_161 : Cond.methodLink "VirtualRewrite" 161 y_X4_variables ∈ T0_ := mem_T0 534 (by decide +kernel) (by decide +kernel)
theorem ml_X0_164 : Cond.methodLink "VirtualRewrite" 164 y_X7_begin ∈ T0_ := mem_T0 541 (by decide +kernel) (by decide +kernel)
theorem fl_X0_167 : ac_fl "VirtualRewrite" 167 7 6 := ⟨_, _, _, rfl, uw_X7, by decide, mem_T0 251 (by decide +kernel) (by decide +kernel)⟩
theorem fl_X0_53 : ac_fl "VirtualRewrite" 53 0 5 := ⟨_, _, _, rfl, uw_X0, by decide, mem_T0 319 (by decide +kernel) (by decide +kernel)⟩
theorem ml_X0_168 : Cond.methodLink "VirtualRewrite" 168 y_X8_find ∈ T0_ := mem_T0 545 (by decide +kernel) (by decide +kernel)
theorem fp_X0_171 : ac_fp "VirtualRewrite" 171 7 4 .int false := ⟨_, _, _, t_X7, rfl, uw_X7, by decide, mem_T0 247 (by decide +kernel) (by decide +kernel), ty_X7, nm_X7, rfl, by decide +kernel, fun h => by cases h⟩
end
section
def wp_X2_init (ki : Nat → ClassId) (r0 : Nat) (f : ac_hp) (Q : ac_hp → Prop) : Prop := (0 + 1 ≤ 2 ∧ 0 + 60 ≤ 63) ∧ ∀ q1, f q1 = none → ∀ f2, f2 = ac_up f q1 (.inl (ki 0, 60, .inl (fun _ => 0))) → ∃ f3, hw_f f2 r0 2 0 (.ref q1) f3 ∧ (0 + 1 + 1 ≤ 2 ∧ 0 + 60 + 3 ≤ 63) ∧ ∀ q4, f3 q4 = none → ∀ f5, f5 = ac_up f3 q4 (.inl (ki 1, 3, .inl (fun _ => 0))) → ∃ f6, hw_f f5 r0 2 1 (.ref q4) f6 ∧ ∃ f7, hw_f f6 r0 2 2 (.int 0) f7 ∧ (0 + 1 + 1 ≤ 2 ∧ 0 + 60 + 3 ≤ 63) ∧ Q f7

set_option maxRecDepth 20000 in
set_option maxHeartbeats 4000000 in
theorem c_X2_init (l : Launch) (D : va_G) (ki : Nat → ClassId) (r0 : Nat) (f : ac_hp) (Q : ac_hp → Prop) (h : wp_X2_init ki r0 f Q) : ac_met l D ki y_X2_init prog_9_method_1_code 1 none (ro_ 1 2 63) [.ref r0] f (qr_V Q) 2 63 := by
  refine ac_enter (fun ki => wp_X2_init ki r0 f Q) (by decide) (Nat.le_of_ble_eq_true rfl) h ?_
  intro x hro hR hnm h
  unfold wp_X2_init at h
  refine ac_aload_n 0 d_X2_init_0 rfl rfl ?_
  refine ac_objInit oi_X2_3 oi_inst oi_code (by rw [hro]; decide) (by rw [hro]; decide) d_X2_init_1 ?_
  refine ac_aload_n 0 d_X2_init_4 rfl rfl ?_
  refine ac_bipush (v := 60) d_X2_init_5 rfl ?_
  have hk := h.1
  have h := h.2
  refine ac_newa (a0 := (60, .inl (fun _ => 0))) (t0 := 0) ka_I rfl rfl (fun _ => rfl) (by decide) (by decide) (by decide) (by rw [hro]; exact hk.1) (by rw [hro]; exact hk.2) d_X2_init_7 (fun q1 hq => ?_)
  have h := h q1 hq
  obtain ⟨f2, ef2⟩ : ∃ z, z = ac_up f q1 (.inl (ac_ki x 0, 60, .inl (fun _ => 0))) := ⟨_, rfl⟩
  have h := h f2 ef2
  rw [← ef2]
  obtain ⟨f3, hr, h⟩ := h
  refine ak_putF hr fp_X2_9 hnm rfl rfl d_X2_init_9 ?_
  refine ac_aload_n 0 d_X2_init_12 rfl rfl ?_
  refine ac_iconst (v := 3) d_X2_init_13 rfl ?_
  have hk := h.1
  have h := h.2
  refine ac_newa (a0 := (3, .inl (fun _ => 0))) (t0 := 1) ka_Z rfl rfl (fun _ => rfl) (by decide) (by decide) (by decide) (by rw [hro]; exact hk.1) (by rw [hro]; exact hk.2) d_X2_init_14 (fun q4 hq => ?_)
  have h := h q4 hq
  obtain ⟨f5, ef5⟩ : ∃ z, z = ac_up f3 q4 (.inl (ac_ki x 1, 3, .inl (fun _ => 0))) := ⟨_, rfl⟩
  have h := h f5 ef5
  rw [← ef5]
  obtain ⟨f6, hr, h⟩ := h
  refine ak_putF hr fp_X2_15 hnm rfl rfl d_X2_init_16 ?_
  refine ac_aload_n 0 d_X2_init_19 rfl rfl ?_
  refine ac_iconst (v := 0) d_X2_init_20 rfl ?_
  obtain ⟨f7, hr, h⟩ := h
  refine ak_putf hr fp_X2_19 rfl rfl d_X2_init_21 ?_
  have hk := h.1
  have h := h.2
  exact ac_vreturn hR ⟨rfl, h⟩ hk.1 hk.2 d_X2_init_24

def wp_X3_init (ki : Nat → ClassId) (r0 : Nat) (f : ac_hp) (Q : ac_hp → Prop) : Prop := (0 + 1 ≤ 2 ∧ 0 + 2 ≤ 4) ∧ ∀ q1, f q1 = none → ∀ f2, f2 = ac_up f q1 (.inl (ki 0, 2, .inl (fun _ => 0))) → ∃ f3, hw_f f2 r0 3 0 (.ref q1) f3 ∧ (0 + 1 + 1 ≤ 2 ∧ 0 + 2 + 2 ≤ 4) ∧ ∀ q4, f3 q4 = none → ∀ f5, f5 = ac_up f3 q4 (.inl (ki 0, 2, .inl (fun _ => 0))) → ∃ f6, hw_f f5 r0 3 1 (.ref q4) f6 ∧ ∃ f7, hw_f f6 r0 3 2 (.int 0) f7 ∧ ∃ f8, hw_f f7 r0 3 3 (.int 0) f8 ∧ (0 + 1 + 1 ≤ 2 ∧ 0 + 2 + 2 ≤ 4) ∧ Q f8

set_option maxRecDepth 20000 in
set_option maxHeartbeats 4000000 in
theorem c_X3_init (l : Launch) (D : va_G) (ki : Nat → ClassId) (r0 : Nat) (f : ac_hp) (Q : ac_hp → Prop) (h : wp_X3_init ki r0 f Q) : ac_met l D ki y_X3_init prog_5_method_1_code 1 none (ro_ 1 2 4) [.ref r0] f (qr_V Q) 2 4 := by
  refine ac_enter (fun ki => wp_X3_init ki r0 f Q) (by decide) (Nat.le_of_ble_eq_true rfl) h ?_
  intro x hro hR hnm h
  unfold wp_X3_init at h
  refine ac_aload_n 0 d_X3_init_0 rfl rfl ?_
  refine ac_objInit oi_X3_3 oi_inst oi_code (by rw [hro]; decide) (by rw [hro]; decide) d_X3_init_1 ?_
  refine ac_aload_n 0 d_X3_init_4 rfl rfl ?_
  refine ac_iconst (v := 2) d_X3_init_5 rfl ?_
  have hk := h.1
  have h := h.2
  refine ac_newa (a0 := (2, .inl (fun _ => 0))) (t0 := 0) ka_I rfl rfl (fun _ => rfl) (by decide) (by decide) (by decide) (by rw [hro]; exact hk.1) (by rw [hro]; exact hk.2) d_X3_init_6 (fun q1 hq => ?_)
  have h := h q1 hq
  obtain ⟨f2, ef2⟩ : ∃ z, z = ac_up f q1 (.inl (ac_ki x 0, 2, .inl (fun _ => 0))) := ⟨_, rfl⟩
  have h := h f2 ef2
  rw [← ef2]
  obtain ⟨f3, hr, h⟩ := h
  refine ak_putF hr fp_X3_9 hnm rfl rfl d_X3_init_8 ?_
  refine ac_aload_n 0 d_X3_init_11 rfl rfl ?_
  refine ac_iconst (v := 2) d_X3_init_12 rfl ?_
  have hk := h.1
  have h := h.2
  refine ac_newa (a0 := (2, .inl (fun _ => 0))) (t0 := 0) ka_I rfl rfl (fun _ => rfl) (by decide) (by decide) (by decide) (by rw [hro]; exact hk.1) (by rw [hro]; exact hk.2) d_X3_init_13 (fun q4 hq => ?_)
  have h := h q4 hq
  obtain ⟨f5, ef5⟩ : ∃ z, z = ac_up f3 q4 (.inl (ac_ki x 0, 2, .inl (fun _ => 0))) := ⟨_, rfl⟩
  have h := h f5 ef5
  rw [← ef5]
  obtain ⟨f6, hr, h⟩ := h
  refine ak_putF hr fp_X3_15 hnm rfl rfl d_X3_init_15 ?_
  refine ac_aload_n 0 d_X3_init_18 rfl rfl ?_
  refine ac_iconst (v := 0) d_X3_init_19 rfl ?_
  obtain ⟨f7, hr, h⟩ := h
  refine ak_putf hr fp_X3_18 rfl rfl d_X3_init_20 ?_
  refine ac_aload_n 0 d_X3_init_23 rfl rfl ?_
  refine ac_iconst (v := 0) d_X3_init_24 rfl ?_
  obtain ⟨f8, hr, h⟩ := h
  refine ak_putf hr fp_X3_22 rfl rfl d_X3_init_25 ?_
  have hk := h.1
  have h := h.2
  exact ac_vreturn hR ⟨rfl, h⟩ hk.1 hk.2 d_X3_init_28

def wp_X4_init_L47 (ki : Nat → ClassId) (r0 : Nat) (E68 : Nat → Nat → ac_hp → Prop) : Nat → Int32 → Nat → Nat → ac_hp → Prop
  | 0, _, _, _, _ => False
  | n + 1, x1, kc, ks, f => ((6 ≤ x1 → E68 kc ks f) ∧ (¬ 6 ≤ x1 → ∃ r15 : Nat, hr_f f r0 4 3 (.ref r15) ∧ ∃ f16, hw_i (ki 0) f r15 x1 9999 f16 ∧ ∀ v17 : Int32, v17 = x1 + 1 → wp_X4_init_L47 ki r0 E68 n v17 kc ks f16))

def wp_X4_init (ki : Nat → ClassId) (r0 : Nat) (f : ac_hp) (Q : ac_hp → Prop) : Prop := (0 + 1 ≤ 4 ∧ 0 + 4 ≤ 24) ∧ ∀ q1, f q1 = none → ∀ f2, f2 = ac_up f q1 (.inl (ki 0, 4, .inl (fun _ => 0))) → ∃ f3, hw_f f2 r0 4 0 (.ref q1) f3 ∧ (0 + 1 + 1 ≤ 4 ∧ 0 + 4 + 8 ≤ 24) ∧ ∀ q4, f3 q4 = none → ∀ f5, f5 = ac_up f3 q4 (.inl (ki 0, 8, .inl (fun _ => 0))) → ∃ f6, hw_f f5 r0 4 1 (.ref q4) f6 ∧ (0 + 1 + 1 + 1 ≤ 4 ∧ 0 + 4 + 8 + 6 ≤ 24) ∧ ∀ q7, f6 q7 = none → ∀ f8, f8 = ac_up f6 q7 (.inl (ki 0, 6, .inl (fun _ => 0))) → ∃ f9, hw_f f8 r0 4 2 (.ref q7) f9 ∧ (0 + 1 + 1 + 1 + 1 ≤ 4 ∧ 0 + 4 + 8 + 6 + 6 ≤ 24) ∧ ∀ q10, f9 q10 = none → ∀ f11, f11 = ac_up f9 q10 (.inl (ki 0, 6, .inl (fun _ => 0))) → ∃ f12, hw_f f11 r0 4 3 (.ref q10) f12 ∧ ∃ f13, hw_f f12 r0 4 4 (.int 0) f13 ∧ ∃ f14, hw_f f13 r0 4 5 (.int 0) f14 ∧ ∃ n18, wp_X4_init_L47 ki r0 (fun kc20 ks21 f19 => (kc20 ≤ 4 ∧ ks21 ≤ 24) ∧ Q f19) n18 0 0 + 1 + 1 + 1 + 1 0 + 4 + 8 + 6 + 6 f14

set_option maxRecDepth 20000 in
set_option maxHeartbeats 4000000 in
theorem ok_X4_init_L47 {x : ac_X} (hro : ac_R x = (ro_ 1 4 24)) (hnm : (ac_meth x).name = "<init>") (r0 : Nat) (E68 : Nat → Nat → ac_hp → Prop) (hE68 : ∀ (kc ks : Nat) (f : ac_hp), E68 kc ks f → ac_At (prog_6_method_1_code, 2, "VirtualRewrite$Question") x kc ks 68 [] [] f) : ∀ (n : Nat) (x1 : Int32) (kc ks : Nat) (f : ac_hp), wp_X4_init_L47 (ac_ki x) r0 E68 n x1 kc ks f → ac_At (prog_6_method_1_code, 2, "VirtualRewrite$Question") x kc ks 47 [(0, .ref r0), (1, .int x1)] [] f := by
  intro n
  induction n with
  | zero => intro _ _ _ _ h; exact h.elim
  | succ n ih =>
    intro x1 kc ks f h
    rw [wp_X4_init_L47] at h
    refine ac_iload_n 1 d_X4_init_47 rfl rfl ?_
    refine ac_bipush (v := 6) d_X4_init_48 rfl ?_
    refine ac_icmp_ge (tgt := 68) d_X4_init_50 (by decide) (fun hc => ?_) (fun hc => ?_)
    · have h := h.1 hc
      refine ac_weak [] rfl ?_
      exact hE68 kc ks f h
    · have h := h.2 hc
      refine ac_aload_n 0 d_X4_init_53 rfl rfl ?_
      obtain ⟨r15, hr, h⟩ := h
      refine ak_getf hr fl_X4_21 d_X4_init_54 ?_
      refine ac_iload_n 1 d_X4_init_57 rfl rfl ?_
      refine ac_sipush (v := 9999) d_X4_init_58 rfl ?_
      obtain ⟨f16, hr, h⟩ := h
      refine ak_iast 0 hr rfl d_X4_init_61 ?_
      obtain ⟨v17, ev17⟩ : ∃ y : Int32, y = x1 + 1 := ⟨_, rfl⟩
      have h := h v17 ev17
      refine ac_iinc (j := 1) (lv' := [(1, .int v17), (0, .ref r0)]) d_X4_init_62 rfl (by rw [ev17]; rfl) (by decide) rfl ?_
      refine ac_goto (tgt := 47) d_X4_init_65 (by decide) ?_
      refine ac_weak [1, 0] rfl ?_
      exact ih v17 kc ks f16 h

set_option maxRecDepth 20000 in
set_option maxHeartbeats 4000000 in
theorem c_X4_init (l : Launch) (D : va_G) (ki : Nat → ClassId) (r0 : Nat) (f : ac_hp) (Q : ac_hp → Prop) (h : wp_X4_init ki r0 f Q) : ac_met l D ki y_X4_init prog_6_method_1_code 2 none (ro_ 1 4 24) [.ref r0] f (qr_V Q) 4 24 := by
  refine ac_enter (fun ki => wp_X4_init ki r0 f Q) (by decide) (Nat.le_of_ble_eq_true rfl) h ?_
  intro x hro hR hnm h
  unfold wp_X4_init at h
  refine ac_aload_n 0 d_X4_init_0 rfl rfl ?_
  refine ac_objInit oi_X4_3 oi_inst oi_code (by rw [hro]; decide) (by rw [hro]; decide) d_X4_init_1 ?_
  refine ac_aload_n 0 d_X4_init_4 rfl rfl ?_
  refine ac_iconst (v := 4) d_X4_init_5 rfl ?_
  have hk := h.1
  have h := h.2
  refine ac_newa (a0 := (4, .inl (fun _ => 0))) (t0 := 0) ka_I rfl rfl (fun _ => rfl) (by decide) (by decide) (by decide) (by rw [hro]; exact hk.1) (by rw [hro]; exact hk.2) d_X4_init_6 (fun q1 hq => ?_)
  have h := h q1 hq
  obtain ⟨f2, ef2⟩ : ∃ z, z = ac_up f q1 (.inl (ac_ki x 0, 4, .inl (fun _ => 0))) := ⟨_, rfl⟩
  have h := h f2 ef2
  rw [← ef2]
  obtain ⟨f3, hr, h⟩ := h
  refine ak_putF hr fp_X4_9 hnm rfl rfl d_X4_init_8 ?_
  refine ac_aload_n 0 d_X4_init_11 rfl rfl ?_
  refine ac_bipush (v := 8) d_X4_init_12 rfl ?_
  have hk := h.1
  have h := h.2
  refine ac_newa (a0 := (8, .inl (fun _ => 0))) (t0 := 0) ka_I rfl rfl (fun _ => rfl) (by decide) (by decide) (by decide) (by rw [hro]; exact hk.1) (by rw [hro]; exact hk.2) d_X4_init_14 (fun q4 hq => ?_)
  have h := h q4 hq
  obtain ⟨f5, ef5⟩ : ∃ z, z = ac_up f3 q4 (.inl (ac_ki x 0, 8, .inl (fun _ => 0))) := ⟨_, rfl⟩
  have h := h f5 ef5
  rw [← ef5]
  obtain ⟨f6, hr, h⟩ := h
  refine ak_putF hr fp_X4_15 hnm rfl rfl d_X4_init_16 ?_
  refine ac_aload_n 0 d_X4_init_19 rfl rfl ?_
  refine ac_bipush (v := 6) d_X4_init_20 rfl ?_
  have hk := h.1
  have h := h.2
  refine ac_newa (a0 := (6, .inl (fun _ => 0))) (t0 := 0) ka_I rfl rfl (fun _ => rfl) (by decide) (by decide) (by decide) (by rw [hro]; exact hk.1) (by rw [hro]; exact hk.2) d_X4_init_22 (fun q7 hq => ?_)
  have h := h q7 hq
  obtain ⟨f8, ef8⟩ : ∃ z, z = ac_up f6 q7 (.inl (ac_ki x 0, 6, .inl (fun _ => 0))) := ⟨_, rfl⟩
  have h := h f8 ef8
  rw [← ef8]
  obtain ⟨f9, hr, h⟩ := h
  refine ak_putF hr fp_X4_18 hnm rfl rfl d_X4_init_24 ?_
  refine ac_aload_n 0 d_X4_init_27 rfl rfl ?_
  refine ac_bipush (v := 6) d_X4_init_28 rfl ?_
  have hk := h.1
  have h := h.2
  refine ac_newa (a0 := (6, .inl (fun _ => 0))) (t0 := 0) ka_I rfl rfl (fun _ => rfl) (by decide) (by decide) (by decide) (by rw [hro]; exact hk.1) (by rw [hro]; exact hk.2) d_X4_init_30 (fun q10 hq => ?_)
  have h := h q10 hq
  obtain ⟨f11, ef11⟩ : ∃ z, z = ac_up f9 q10 (.inl (ac_ki x 0, 6, .inl (fun _ => 0))) := ⟨_, rfl⟩
  have h := h f11 ef11
  rw [← ef11]
  obtain ⟨f12, hr, h⟩ := h
  refine ak_putF hr fp_X4_21 hnm rfl rfl d_X4_init_32 ?_
  refine ac_aload_n 0 d_X4_init_35 rfl rfl ?_
  refine ac_iconst (v := 0) d_X4_init_36 rfl ?_
  obtain ⟨f13, hr, h⟩ := h
  refine ak_putf hr fp_X4_24 rfl rfl d_X4_init_37 ?_
  refine ac_aload_n 0 d_X4_init_40 rfl rfl ?_
  refine ac_iconst (v := 0) d_X4_init_41 rfl ?_
  obtain ⟨f14, hr, h⟩ := h
  refine ak_putf hr fp_X4_28 rfl rfl d_X4_init_42 ?_
  refine ac_iconst (v := 0) d_X4_init_45 rfl ?_
  refine ac_istore_n (lv' := [(1, .int 0), (0, .ref r0)]) d_X4_init_46 rfl (by decide) rfl ?_
  obtain ⟨n18, h⟩ := h
  refine ac_weak [1, 0] rfl ?_
  refine ok_X4_init_L47 hro hnm r0 _ (fun kc20 ks21 f19 h => ?_) n18 0 0 + 1 + 1 + 1 + 1 0 + 4 + 8 + 6 + 6 f14 h
  · skip
    have hk := h.1
    have h := h.2
    exact ac_vreturn hR ⟨rfl, h⟩ hk.1 hk.2 d_X4_init_68

def wp_X5_init (ki : Nat → ClassId) (r0 : Nat) (r1 : Nat) (r2 : Nat) (f : ac_hp) (Q : ac_hp → Prop) : Prop := (0 + 1 ≤ 3 ∧ 0 + 600 ≤ 610) ∧ ∀ q1, f q1 = none → ∀ f2, f2 = ac_up f q1 (.inl (ki 0, 600, .inl (fun _ => 0))) → ∃ f3, hw_f f2 r0 5 2 (.ref q1) f3 ∧ (0 + 1 + 1 ≤ 3 ∧ 0 + 600 + 4 ≤ 610) ∧ ∀ q4, f3 q4 = none → ∀ f5, f5 = ac_up f3 q4 (.inl (ki 0, 4, .inl (fun _ => 0))) → ∃ f6, hw_f f5 r0 5 3 (.ref q4) f6 ∧ (0 + 1 + 1 + 1 ≤ 3 ∧ 0 + 600 + 4 + 6 ≤ 610) ∧ ∀ q7, f6 q7 = none → ∀ f8, f8 = ac_up f6 q7 (.inl (ki 0, 6, .inl (fun _ => 0))) → ∃ f9, hw_f f8 r0 5 4 (.ref q7) f9 ∧ ∃ f10, hw_f f9 r0 5 5 (.int 0) f10 ∧ ∃ f11, hw_f f10 r0 5 6 (.int 0) f11 ∧ ∃ f12, hw_f f11 r0 5 7 (.int 0) f12 ∧ ∃ f13, hw_f f12 r0 5 0 (.ref r1) f13 ∧ ∃ f14, hw_f f13 r0 5 1 (.ref r2) f14 ∧ (0 + 1 + 1 + 1 ≤ 3 ∧ 0 + 600 + 4 + 6 ≤ 610) ∧ Q f14

set_option maxRecDepth 20000 in
set_option maxHeartbeats 4000000 in
theorem c_X5_init (l : Launch) (D : va_G) (ki : Nat → ClassId) (r0 : Nat) (r1 : Nat) (r2 : Nat) (f : ac_hp) (Q : ac_hp → Prop) (h : wp_X5_init ki r0 r1 r2 f Q) : ac_met l D ki y_X5_init prog_7_method_1_code 3 none (ro_ 1 3 610) [.ref r0, .ref r1, .ref r2] f (qr_V Q) 3 610 := by
  refine ac_enter (fun ki => wp_X5_init ki r0 r1 r2 f Q) (by decide) (Nat.le_of_ble_eq_true rfl) h ?_
  intro x hro hR hnm h
  unfold wp_X5_init at h
  refine ac_aload_n 0 d_X5_init_0 rfl rfl ?_
  refine ac_objInit oi_X5_3 oi_inst oi_code (by rw [hro]; decide) (by rw [hro]; decide) d_X5_init_1 ?_
  refine ac_aload_n 0 d_X5_init_4 rfl rfl ?_
  refine ac_sipush (v := 600) d_X5_init_5 rfl ?_
  have hk := h.1
  have h := h.2
  refine ac_newa (a0 := (600, .inl (fun _ => 0))) (t0 := 0) ka_I rfl rfl (fun _ => rfl) (by decide) (by decide) (by decide) (by rw [hro]; exact hk.1) (by rw [hro]; exact hk.2) d_X5_init_8 (fun q1 hq => ?_)
  have h := h q1 hq
  obtain ⟨f2, ef2⟩ : ∃ z, z = ac_up f q1 (.inl (ac_ki x 0, 600, .inl (fun _ => 0))) := ⟨_, rfl⟩
  have h := h f2 ef2
  rw [← ef2]
  obtain ⟨f3, hr, h⟩ := h
  refine ak_putF hr fp_X5_9 hnm rfl rfl d_X5_init_10 ?_
  refine ac_aload_n 0 d_X5_init_13 rfl rfl ?_
  refine ac_iconst (v := 4) d_X5_init_14 rfl ?_
  have hk := h.1
  have h := h.2
  refine ac_newa (a0 := (4, .inl (fun _ => 0))) (t0 := 0) ka_I rfl rfl (fun _ => rfl) (by decide) (by decide) (by decide) (by rw [hro]; exact hk.1) (by rw [hro]; exact hk.2) d_X5_init_15 (fun q4 hq => ?_)
  have h := h q4 hq
  obtain ⟨f5, ef5⟩ : ∃ z, z = ac_up f3 q4 (.inl (ac_ki x 0, 4, .inl (fun _ => 0))) := ⟨_, rfl⟩
  have h := h f5 ef5
  rw [← ef5]
  obtain ⟨f6, hr, h⟩ := h
  refine ak_putF hr fp_X5_15 hnm rfl rfl d_X5_init_17 ?_
  refine ac_aload_n 0 d_X5_init_20 rfl rfl ?_
  refine ac_bipush (v := 6) d_X5_init_21 rfl ?_
  have hk := h.1
  have h := h.2
  refine ac_newa (a0 := (6, .inl (fun _ => 0))) (t0 := 0) ka_I rfl rfl (fun _ => rfl) (by decide) (by decide) (by decide) (by rw [hro]; exact hk.1) (by rw [hro]; exact hk.2) d_X5_init_23 (fun q7 hq => ?_)
  have h := h q7 hq
  obtain ⟨f8, ef8⟩ : ∃ z, z = ac_up f6 q7 (.inl (ac_ki x 0, 6, .inl (fun _ => 0))) := ⟨_, rfl⟩
  have h := h f8 ef8
  rw [← ef8]
  obtain ⟨f9, hr, h⟩ := h
  refine ak_putF hr fp_X5_18 hnm rfl rfl d_X5_init_25 ?_
  refine ac_aload_n 0 d_X5_init_28 rfl rfl ?_
  refine ac_iconst (v := 0) d_X5_init_29 rfl ?_
  obtain ⟨f10, hr, h⟩ := h
  refine ak_putf hr fp_X5_21 rfl rfl d_X5_init_30 ?_
  refine ac_aload_n 0 d_X5_init_33 rfl rfl ?_
  refine ac_iconst (v := 0) d_X5_init_34 rfl ?_
  obtain ⟨f11, hr, h⟩ := h
  refine ak_putf hr fp_X5_25 rfl rfl d_X5_init_35 ?_
  refine ac_aload_n 0 d_X5_init_38 rfl rfl ?_
  refine ac_iconst (v := 0) d_X5_init_39 rfl ?_
  obtain ⟨f12, hr, h⟩ := h
  refine ak_putf hr fp_X5_29 rfl rfl d_X5_init_40 ?_
  refine ac_aload_n 0 d_X5_init_43 rfl rfl ?_
  refine ac_aload_n 1 d_X5_init_44 rfl rfl ?_
  obtain ⟨f13, hr, h⟩ := h
  refine ak_putF hr fp_X5_32 hnm rfl rfl d_X5_init_45 ?_
  refine ac_aload_n 0 d_X5_init_48 rfl rfl ?_
  refine ac_aload_n 2 d_X5_init_49 rfl rfl ?_
  obtain ⟨f14, hr, h⟩ := h
  refine ak_putF hr fp_X5_36 hnm rfl rfl d_X5_init_50 ?_
  have hk := h.1
  have h := h.2
  exact ac_vreturn hR ⟨rfl, h⟩ hk.1 hk.2 d_X5_init_53

def wp_X6_init (ki : Nat → ClassId) (r0 : Nat) (r1 : Nat) (r2 : Nat) (r3 : Nat) (f : ac_hp) (Q : ac_hp → Prop) : Prop := (0 + 1 ≤ 1 ∧ 0 + 4 ≤ 4) ∧ ∀ q1, f q1 = none → ∀ f2, f2 = ac_up f q1 (.inl (ki 0, 4, .inl (fun _ => 0))) → ∃ f3, hw_f f2 r0 6 3 (.ref q1) f3 ∧ ∃ f4, hw_f f3 r0 6 4 (.int 0) f4 ∧ ∃ f5, hw_f f4 r0 6 0 (.ref r1) f5 ∧ ∃ f6, hw_f f5 r0 6 1 (.ref r2) f6 ∧ ∃ f7, hw_f f6 r0 6 2 (.ref r3) f7 ∧ (0 + 1 ≤ 1 ∧ 0 + 4 ≤ 4) ∧ Q f7

set_option maxRecDepth 20000 in
set_option maxHeartbeats 4000000 in
theorem c_X6_init (l : Launch) (D : va_G) (ki : Nat → ClassId) (r0 : Nat) (r1 : Nat) (r2 : Nat) (r3 : Nat) (f : ac_hp) (Q : ac_hp → Prop) (h : wp_X6_init ki r0 r1 r2 r3 f Q) : ac_met l D ki y_X6_init prog_8_method_1_code 4 none (ro_ 1 1 4) [.ref r0, .ref r1, .ref r2, .ref r3] f (qr_V Q) 1 4 := by
  refine ac_enter (fun ki => wp_X6_init ki r0 r1 r2 r3 f Q) (by decide) (Nat.le_of_ble_eq_true rfl) h ?_
  intro x hro hR hnm h
  unfold wp_X6_init at h
  refine ac_aload_n 0 d_X6_init_0 rfl rfl ?_
  refine ac_objInit oi_X6_3 oi_inst oi_code (by rw [hro]; decide) (by rw [hro]; decide) d_X6_init_1 ?_
  refine ac_aload_n 0 d_X6_init_4 rfl rfl ?_
  refine ac_iconst (v := 4) d_X6_init_5 rfl ?_
  have hk := h.1
  have h := h.2
  refine ac_newa (a0 := (4, .inl (fun _ => 0))) (t0 := 0) ka_I rfl rfl (fun _ => rfl) (by decide) (by decide) (by decide) (by rw [hro]; exact hk.1) (by rw [hro]; exact hk.2) d_X6_init_6 (fun q1 hq => ?_)
  have h := h q1 hq
  obtain ⟨f2, ef2⟩ : ∃ z, z = ac_up f q1 (.inl (ac_ki x 0, 4, .inl (fun _ => 0))) := ⟨_, rfl⟩
  have h := h f2 ef2
  rw [← ef2]
  obtain ⟨f3, hr, h⟩ := h
  refine ak_putF hr fp_X6_9 hnm rfl rfl d_X6_init_8 ?_
  refine ac_aload_n 0 d_X6_init_11 rfl rfl ?_
  refine ac_iconst (v := 0) d_X6_init_12 rfl ?_
  obtain ⟨f4, hr, h⟩ := h
  refine ak_putf hr fp_X6_15 rfl rfl d_X6_init_13 ?_
  refine ac_aload_n 0 d_X6_init_16 rfl rfl ?_
  refine ac_aload_n 1 d_X6_init_17 rfl rfl ?_
  obtain ⟨f5, hr, h⟩ := h
  refine ak_putF hr fp_X6_19 hnm rfl rfl d_X6_init_18 ?_
  refine ac_aload_n 0 d_X6_init_21 rfl rfl ?_
  refine ac_aload_n 2 d_X6_init_22 rfl rfl ?_
  obtain ⟨f6, hr, h⟩ := h
  refine ak_putF hr fp_X6_23 hnm rfl rfl d_X6_init_23 ?_
  refine ac_aload_n 0 d_X6_init_26 rfl rfl ?_
  refine ac_aload_n 3 d_X6_init_27 rfl rfl ?_
  obtain ⟨f7, hr, h⟩ := h
  refine ak_putF hr fp_X6_27 hnm rfl rfl d_X6_init_28 ?_
  have hk := h.1
  have h := h.2
  exact ac_vreturn hR ⟨rfl, h⟩ hk.1 hk.2 d_X6_init_31

def wp_X7_init (ki : Nat → ClassId) (r0 : Nat) (f : ac_hp) (Q : ac_hp → Prop) : Prop := (0 + 1 ≤ 4 ∧ 0 + 1800 ≤ 2700) ∧ ∀ q1, f q1 = none → ∀ f2, f2 = ac_up f q1 (.inl (ki 0, 1800, .inl (fun _ => 0))) → ∃ f3, hw_f f2 r0 7 0 (.ref q1) f3 ∧ (0 + 1 + 1 ≤ 4 ∧ 0 + 1800 + 300 ≤ 2700) ∧ ∀ q4, f3 q4 = none → ∀ f5, f5 = ac_up f3 q4 (.inl (ki 0, 300, .inl (fun _ => 0))) → ∃ f6, hw_f f5 r0 7 1 (.ref q4) f6 ∧ (0 + 1 + 1 + 1 ≤ 4 ∧ 0 + 1800 + 300 + 300 ≤ 2700) ∧ ∀ q7, f6 q7 = none → ∀ f8, f8 = ac_up f6 q7 (.inl (ki 0, 300, .inl (fun _ => 0))) → ∃ f9, hw_f f8 r0 7 2 (.ref q7) f9 ∧ (0 + 1 + 1 + 1 + 1 ≤ 4 ∧ 0 + 1800 + 300 + 300 + 300 ≤ 2700) ∧ ∀ q10, f9 q10 = none → ∀ f11, f11 = ac_up f9 q10 (.inl (ki 0, 300, .inl (fun _ => 0))) → ∃ f12, hw_f f11 r0 7 3 (.ref q10) f12 ∧ ∃ f13, hw_f f12 r0 7 4 (.int 0) f13 ∧ ∃ f14, hw_f f13 r0 7 5 (.int 0) f14 ∧ ∃ f15, hw_f f14 r0 7 6 (.int 0) f15 ∧ (0 + 1 + 1 + 1 + 1 ≤ 4 ∧ 0 + 1800 + 300 + 300 + 300 ≤ 2700) ∧ Q f15

set_option maxRecDepth 20000 in
set_option maxHeartbeats 4000000 in
theorem c_X7_init (l : Launch) (D : va_G) (ki : Nat → ClassId) (r0 : Nat) (f : ac_hp) (Q : ac_hp → Prop) (h : wp_X7_init ki r0 f Q) : ac_met l D ki y_X7_init prog_2_method_1_code 1 none (ro_ 1 4 2700) [.ref r0] f (qr_V Q) 4 2700 := by
  refine ac_enter (fun ki => wp_X7_init ki r0 f Q) (by decide) (Nat.le_of_ble_eq_true rfl) h ?_
  intro x hro hR hnm h
  unfold wp_X7_init at h
  refine ac_aload_n 0 d_X7_init_0 rfl rfl ?_
  refine ac_objInit oi_X7_3 oi_inst oi_code (by rw [hro]; decide) (by rw [hro]; decide) d_X7_init_1 ?_
  refine ac_aload_n 0 d_X7_init_4 rfl rfl ?_
  refine ac_sipush (v := 1800) d_X7_init_5 rfl ?_
  have hk := h.1
  have h := h.2
  refine ac_newa (a0 := (1800, .inl (fun _ => 0))) (t0 := 0) ka_I rfl rfl (fun _ => rfl) (by decide) (by decide) (by decide) (by rw [hro]; exact hk.1) (by rw [hro]; exact hk.2) d_X7_init_8 (fun q1 hq => ?_)
  have h := h q1 hq
  obtain ⟨f2, ef2⟩ : ∃ z, z = ac_up f q1 (.inl (ac_ki x 0, 1800, .inl (fun _ => 0))) := ⟨_, rfl⟩
  have h := h f2 ef2
  rw [← ef2]
  obtain ⟨f3, hr, h⟩ := h
  refine ak_putF hr fp_X7_9 hnm rfl rfl d_X7_init_10 ?_
  refine ac_aload_n 0 d_X7_init_13 rfl rfl ?_
  refine ac_sipush (v := 300) d_X7_init_14 rfl ?_
  have hk := h.1
  have h := h.2
  refine ac_newa (a0 := (300, .inl (fun _ => 0))) (t0 := 0) ka_I rfl rfl (fun _ => rfl) (by decide) (by decide) (by decide) (by rw [hro]; exact hk.1) (by rw [hro]; exact hk.2) d_X7_init_17 (fun q4 hq => ?_)
  have h := h q4 hq
  obtain ⟨f5, ef5⟩ : ∃ z, z = ac_up f3 q4 (.inl (ac_ki x 0, 300, .inl (fun _ => 0))) := ⟨_, rfl⟩
  have h := h f5 ef5
  rw [← ef5]
  obtain ⟨f6, hr, h⟩ := h
  refine ak_putF hr fp_X7_15 hnm rfl rfl d_X7_init_19 ?_
  refine ac_aload_n 0 d_X7_init_22 rfl rfl ?_
  refine ac_sipush (v := 300) d_X7_init_23 rfl ?_
  have hk := h.1
  have h := h.2
  refine ac_newa (a0 := (300, .inl (fun _ => 0))) (t0 := 0) ka_I rfl rfl (fun _ => rfl) (by decide) (by decide) (by decide) (by rw [hro]; exact hk.1) (by rw [hro]; exact hk.2) d_X7_init_26 (fun q7 hq => ?_)
  have h := h q7 hq
  obtain ⟨f8, ef8⟩ : ∃ z, z = ac_up f6 q7 (.inl (ac_ki x 0, 300, .inl (fun _ => 0))) := ⟨_, rfl⟩
  have h := h f8 ef8
  rw [← ef8]
  obtain ⟨f9, hr, h⟩ := h
  refine ak_putF hr fp_X7_18 hnm rfl rfl d_X7_init_28 ?_
  refine ac_aload_n 0 d_X7_init_31 rfl rfl ?_
  refine ac_sipush (v := 300) d_X7_init_32 rfl ?_
  have hk := h.1
  have h := h.2
  refine ac_newa (a0 := (300, .inl (fun _ => 0))) (t0 := 0) ka_I rfl rfl (fun _ => rfl) (by decide) (by decide) (by decide) (by rw [hro]; exact hk.1) (by rw [hro]; exact hk.2) d_X7_init_35 (fun q10 hq => ?_)
  have h := h q10 hq
  obtain ⟨f11, ef11⟩ : ∃ z, z = ac_up f9 q10 (.inl (ac_ki x 0, 300, .inl (fun _ => 0))) := ⟨_, rfl⟩
  have h := h f11 ef11
  rw [← ef11]
  obtain ⟨f12, hr, h⟩ := h
  refine ak_putF hr fp_X7_21 hnm rfl rfl d_X7_init_37 ?_
  refine ac_aload_n 0 d_X7_init_40 rfl rfl ?_
  refine ac_iconst (v := 0) d_X7_init_41 rfl ?_
  obtain ⟨f13, hr, h⟩ := h
  refine ak_putf hr fp_X7_24 rfl rfl d_X7_init_42 ?_
  refine ac_aload_n 0 d_X7_init_45 rfl rfl ?_
  refine ac_iconst (v := 0) d_X7_init_46 rfl ?_
  obtain ⟨f14, hr, h⟩ := h
  refine ak_putf hr fp_X7_28 rfl rfl d_X7_init_47 ?_
  refine ac_aload_n 0 d_X7_init_50 rfl rfl ?_
  refine ac_iconst (v := 0) d_X7_init_51 rfl ?_
  obtain ⟨f15, hr, h⟩ := h
  refine ak_putf hr fp_X7_31 rfl rfl d_X7_init_52 ?_
  have hk := h.1
  have h := h.2
  exact ac_vreturn hR ⟨rfl, h⟩ hk.1 hk.2 d_X7_init_55

def wp_X8_init (ki : Nat → ClassId) (r0 : Nat) (r1 : Nat) (r2 : Nat) (r3 : Nat) (r4 : Nat) (f : ac_hp) (Q : ac_hp → Prop) : Prop := (0 + 1 ≤ 8 ∧ 0 + 4 ≤ 132) ∧ ∀ q1, f q1 = none → ∀ f2, f2 = ac_up f q1 (.inl (ki 0, 4, .inl (fun _ => 0))) → ∃ f3, hw_f f2 r0 8 4 (.ref q1) f3 ∧ (0 + 1 + 1 ≤ 8 ∧ 0 + 4 + 4 ≤ 132) ∧ ∀ q4, f3 q4 = none → ∀ f5, f5 = ac_up f3 q4 (.inl (ki 0, 4, .inl (fun _ => 0))) → ∃ f6, hw_f f5 r0 8 5 (.ref q4) f6 ∧ (0 + 1 + 1 + 1 ≤ 8 ∧ 0 + 4 + 4 + 24 ≤ 132) ∧ ∀ q7, f6 q7 = none → ∀ f8, f8 = ac_up f6 q7 (.inl (ki 0, 24, .inl (fun _ => 0))) → ∃ f9, hw_f f8 r0 8 6 (.ref q7) f9 ∧ (0 + 1 + 1 + 1 + 1 ≤ 8 ∧ 0 + 4 + 4 + 24 + 80 ≤ 132) ∧ ∀ q10, f9 q10 = none → ∀ f11, f11 = ac_up f9 q10 (.inl (ki 0, 80, .inl (fun _ => 0))) → ∃ f12, hw_f f11 r0 8 7 (.ref q10) f12 ∧ (0 + 1 + 1 + 1 + 1 + 1 ≤ 8 ∧ 0 + 4 + 4 + 24 + 80 + 4 ≤ 132) ∧ ∀ q13, f12 q13 = none → ∀ f14, f14 = ac_up f12 q13 (.inl (ki 0, 4, .inl (fun _ => 0))) → ∃ f15, hw_f f14 r0 8 8 (.ref q13) f15 ∧ (0 + 1 + 1 + 1 + 1 + 1 + 1 ≤ 8 ∧ 0 + 4 + 4 + 24 + 80 + 4 + 4 ≤ 132) ∧ ∀ q16, f15 q16 = none → ∀ f17, f17 = ac_up f15 q16 (.inl (ki 0, 4, .inl (fun _ => 0))) → ∃ f18, hw_f f17 r0 8 9 (.ref q16) f18 ∧ (0 + 1 + 1 + 1 + 1 + 1 + 1 + 1 ≤ 8 ∧ 0 + 4 + 4 + 24 + 80 + 4 + 4 + 6 ≤ 132) ∧ ∀ q19, f18 q19 = none → ∀ f20, f20 = ac_up f18 q19 (.inl (ki 0, 6, .inl (fun _ => 0))) → ∃ f21, hw_f f20 r0 8 10 (.ref q19) f21 ∧ (0 + 1 + 1 + 1 + 1 + 1 + 1 + 1 + 1 ≤ 8 ∧ 0 + 4 + 4 + 24 + 80 + 4 + 4 + 6 + 6 ≤ 132) ∧ ∀ q22, f21 q22 = none → ∀ f23, f23 = ac_up f21 q22 (.inl (ki 0, 6, .inl (fun _ => 0))) → ∃ f24, hw_f f23 r0 8 11 (.ref q22) f24 ∧ ∃ f25, hw_f f24 r0 8 12 (.int 0) f25 ∧ ∃ f26, hw_f f25 r0 8 0 (.ref r1) f26 ∧ ∃ f27, hw_f f26 r0 8 1 (.ref r2) f27 ∧ ∃ f28, hw_f f27 r0 8 2 (.ref r3) f28 ∧ ∃ f29, hw_f f28 r0 8 3 (.ref r4) f29 ∧ (0 + 1 + 1 + 1 + 1 + 1 + 1 + 1 + 1 ≤ 8 ∧ 0 + 4 + 4 + 24 + 80 + 4 + 4 + 6 + 6 ≤ 132) ∧ Q f29

set_option maxRecDepth 20000 in
set_option maxHeartbeats 4000000 in
theorem c_X8_init (l : Launch) (D : va_G) (ki : Nat → ClassId) (r0 : Nat) (r1 : Nat) (r2 : Nat) (r3 : Nat) (r4 : Nat) (f : ac_hp) (Q : ac_hp → Prop) (h : wp_X8_init ki r0 r1 r2 r3 r4 f Q) : ac_met l D ki y_X8_init prog_4_method_1_code 5 none (ro_ 1 8 132) [.ref r0, .ref r1, .ref r2, .ref r3, .ref r4] f (qr_V Q) 8 132 := by
  refine ac_enter (fun ki => wp_X8_init ki r0 r1 r2 r3 r4 f Q) (by decide) (Nat.le_of_ble_eq_true rfl) h ?_
  intro x hro hR hnm h
  unfold wp_X8_init at h
  refine ac_aload_n 0 d_X8_init_0 rfl rfl ?_
  refine ac_objInit oi_X8_3 oi_inst oi_code (by rw [hro]; decide) (by rw [hro]; decide) d_X8_init_1 ?_
  refine ac_aload_n 0 d_X8_init_4 rfl rfl ?_
  refine ac_iconst (v := 4) d_X8_init_5 rfl ?_
  have hk := h.1
  have h := h.2
  refine ac_newa (a0 := (4, .inl (fun _ => 0))) (t0 := 0) ka_I rfl rfl (fun _ => rfl) (by decide) (by decide) (by decide) (by rw [hro]; exact hk.1) (by rw [hro]; exact hk.2) d_X8_init_6 (fun q1 hq => ?_)
  have h := h q1 hq
  obtain ⟨f2, ef2⟩ : ∃ z, z = ac_up f q1 (.inl (ac_ki x 0, 4, .inl (fun _ => 0))) := ⟨_, rfl⟩
  have h := h f2 ef2
  rw [← ef2]
  obtain ⟨f3, hr, h⟩ := h
  refine ak_putF hr fp_X8_9 hnm rfl rfl d_X8_init_8 ?_
  refine ac_aload_n 0 d_X8_init_11 rfl rfl ?_
  refine ac_iconst (v := 4) d_X8_init_12 rfl ?_
  have hk := h.1
  have h := h.2
  refine ac_newa (a0 := (4, .inl (fun _ => 0))) (t0 := 0) ka_I rfl rfl (fun _ => rfl) (by decide) (by decide) (by decide) (by rw [hro]; exact hk.1) (by rw [hro]; exact hk.2) d_X8_init_13 (fun q4 hq => ?_)
  have h := h q4 hq
  obtain ⟨f5, ef5⟩ : ∃ z, z = ac_up f3 q4 (.inl (ac_ki x 0, 4, .inl (fun _ => 0))) := ⟨_, rfl⟩
  have h := h f5 ef5
  rw [← ef5]
  obtain ⟨f6, hr, h⟩ := h
  refine ak_putF hr fp_X8_15 hnm rfl rfl d_X8_init_15 ?_
  refine ac_aload_n 0 d_X8_init_18 rfl rfl ?_
  refine ac_bipush (v := 24) d_X8_init_19 rfl ?_
  have hk := h.1
  have h := h.2
  refine ac_newa (a0 := (24, .inl (fun _ => 0))) (t0 := 0) ka_I rfl rfl (fun _ => rfl) (by decide) (by decide) (by decide) (by rw [hro]; exact hk.1) (by rw [hro]; exact hk.2) d_X8_init_21 (fun q7 hq => ?_)
  have h := h q7 hq
  obtain ⟨f8, ef8⟩ : ∃ z, z = ac_up f6 q7 (.inl (ac_ki x 0, 24, .inl (fun _ => 0))) := ⟨_, rfl⟩
  have h := h f8 ef8
  rw [← ef8]
  obtain ⟨f9, hr, h⟩ := h
  refine ak_putF hr fp_X8_18 hnm rfl rfl d_X8_init_23 ?_
  refine ac_aload_n 0 d_X8_init_26 rfl rfl ?_
  refine ac_bipush (v := 80) d_X8_init_27 rfl ?_
  have hk := h.1
  have h := h.2
  refine ac_newa (a0 := (80, .inl (fun _ => 0))) (t0 := 0) ka_I rfl rfl (fun _ => rfl) (by decide) (by decide) (by decide) (by rw [hro]; exact hk.1) (by rw [hro]; exact hk.2) d_X8_init_29 (fun q10 hq => ?_)
  have h := h q10 hq
  obtain ⟨f11, ef11⟩ : ∃ z, z = ac_up f9 q10 (.inl (ac_ki x 0, 80, .inl (fun _ => 0))) := ⟨_, rfl⟩
  have h := h f11 ef11
  rw [← ef11]
  obtain ⟨f12, hr, h⟩ := h
  refine ak_putF hr fp_X8_21 hnm rfl rfl d_X8_init_31 ?_
  refine ac_aload_n 0 d_X8_init_34 rfl rfl ?_
  refine ac_iconst (v := 4) d_X8_init_35 rfl ?_
  have hk := h.1
  have h := h.2
  refine ac_newa (a0 := (4, .inl (fun _ => 0))) (t0 := 0) ka_I rfl rfl (fun _ => rfl) (by decide) (by decide) (by decide) (by rw [hro]; exact hk.1) (by rw [hro]; exact hk.2) d_X8_init_36 (fun q13 hq => ?_)
  have h := h q13 hq
  obtain ⟨f14, ef14⟩ : ∃ z, z = ac_up f12 q13 (.inl (ac_ki x 0, 4, .inl (fun _ => 0))) := ⟨_, rfl⟩
  have h := h f14 ef14
  rw [← ef14]
  obtain ⟨f15, hr, h⟩ := h
  refine ak_putF hr fp_X8_24 hnm rfl rfl d_X8_init_38 ?_
  refine ac_aload_n 0 d_X8_init_41 rfl rfl ?_
  refine ac_iconst (v := 4) d_X8_init_42 rfl ?_
  have hk := h.1
  have h := h.2
  refine ac_newa (a0 := (4, .inl (fun _ => 0))) (t0 := 0) ka_I rfl rfl (fun _ => rfl) (by decide) (by decide) (by decide) (by rw [hro]; exact hk.1) (by rw [hro]; exact hk.2) d_X8_init_43 (fun q16 hq => ?_)
  have h := h q16 hq
  obtain ⟨f17, ef17⟩ : ∃ z, z = ac_up f15 q16 (.inl (ac_ki x 0, 4, .inl (fun _ => 0))) := ⟨_, rfl⟩
  have h := h f17 ef17
  rw [← ef17]
  obtain ⟨f18, hr, h⟩ := h
  refine ak_putF hr fp_X8_27 hnm rfl rfl d_X8_init_45 ?_
  refine ac_aload_n 0 d_X8_init_48 rfl rfl ?_
  refine ac_bipush (v := 6) d_X8_init_49 rfl ?_
  have hk := h.1
  have h := h.2
  refine ac_newa (a0 := (6, .inl (fun _ => 0))) (t0 := 0) ka_I rfl rfl (fun _ => rfl) (by decide) (by decide) (by decide) (by rw [hro]; exact hk.1) (by rw [hro]; exact hk.2) d_X8_init_51 (fun q19 hq => ?_)
  have h := h q19 hq
  obtain ⟨f20, ef20⟩ : ∃ z, z = ac_up f18 q19 (.inl (ac_ki x 0, 6, .inl (fun _ => 0))) := ⟨_, rfl⟩
  have h := h f20 ef20
  rw [← ef20]
  obtain ⟨f21, hr, h⟩ := h
  refine ak_putF hr fp_X8_30 hnm rfl rfl d_X8_init_53 ?_
  refine ac_aload_n 0 d_X8_init_56 rfl rfl ?_
  refine ac_bipush (v := 6) d_X8_init_57 rfl ?_
  have hk := h.1
  have h := h.2
  refine ac_newa (a0 := (6, .inl (fun _ => 0))) (t0 := 0) ka_I rfl rfl (fun _ => rfl) (by decide) (by decide) (by decide) (by rw [hro]; exact hk.1) (by rw [hro]; exact hk.2) d_X8_init_59 (fun q22 hq => ?_)
  have h := h q22 hq
  obtain ⟨f23, ef23⟩ : ∃ z, z = ac_up f21 q22 (.inl (ac_ki x 0, 6, .inl (fun _ => 0))) := ⟨_, rfl⟩
  have h := h f23 ef23
  rw [← ef23]
  obtain ⟨f24, hr, h⟩ := h
  refine ak_putF hr fp_X8_33 hnm rfl rfl d_X8_init_61 ?_
  refine ac_aload_n 0 d_X8_init_64 rfl rfl ?_
  refine ac_iconst (v := 0) d_X8_init_65 rfl ?_
  obtain ⟨f25, hr, h⟩ := h
  refine ak_putf hr fp_X8_36 rfl rfl d_X8_init_66 ?_
  refine ac_aload_n 0 d_X8_init_69 rfl rfl ?_
  refine ac_aload_n 1 d_X8_init_70 rfl rfl ?_
  obtain ⟨f26, hr, h⟩ := h
  refine ak_putF hr fp_X8_40 hnm rfl rfl d_X8_init_71 ?_
  refine ac_aload_n 0 d_X8_init_74 rfl rfl ?_
  refine ac_aload_n 2 d_X8_init_75 rfl rfl ?_
  obtain ⟨f27, hr, h⟩ := h
  refine ak_putF hr fp_X8_44 hnm rfl rfl d_X8_init_76 ?_
  refine ac_aload_n 0 d_X8_init_79 rfl rfl ?_
  refine ac_aload_n 3 d_X8_init_80 rfl rfl ?_
  obtain ⟨f28, hr, h⟩ := h
  refine ak_putF hr fp_X8_48 hnm rfl rfl d_X8_init_81 ?_
  refine ac_aload_n 0 d_X8_init_84 rfl rfl ?_
  refine ac_aload 4 d_X8_init_85 rfl ?_
  obtain ⟨f29, hr, h⟩ := h
  refine ak_putF hr fp_X8_52 hnm rfl rfl d_X8_init_87 ?_
  have hk := h.1
  have h := h.2
  exact ac_vreturn hR ⟨rfl, h⟩ hk.1 hk.2 d_X8_init_90

def wp_X0_isBelow (ki : Nat → ClassId) (x0 : Int32) (x1 : Int32) (f : ac_hp) (Q : Int32 → ac_hp → Prop) : Prop := ((x0 < 0 → Q 0 f) ∧ (¬ x0 < 0 → ((x1 ≤ x0 → Q 0 f) ∧ (¬ x1 ≤ x0 → Q 1 f))))

set_option maxRecDepth 20000 in
set_option maxHeartbeats 4000000 in
theorem c_X0_isBelow (l : Launch) (D : va_G) (ki : Nat → ClassId) (x0 : Int32) (x1 : Int32) (f : ac_hp) (Q : Int32 → ac_hp → Prop) (h : wp_X0_isBelow ki x0 x1 f Q) : ac_met l D ki y_X0_isBelow prog_1_method_18_code 2 (some .boolean) (ro_ 1 0 0) [.int x0, .int x1] f (qr_I Q) 0 0 := by
  refine ac_enter (fun ki => wp_X0_isBelow ki x0 x1 f Q) (by decide) (Nat.le_of_ble_eq_true rfl) h ?_
  intro x hro hR hnm h
  unfold wp_X0_isBelow at h
  refine ac_iload_n 0 d_X0_isBelow_0 rfl rfl ?_
  refine ac_if_lt (tgt := 13) d_X0_isBelow_1 (by decide) (fun hc => ?_) (fun hc => ?_)
  · have h := h.1 hc
    refine ac_iconst (v := 0) d_X0_isBelow_13 rfl ?_
    exact ac_ireturn hR rfl ⟨_, rfl, h⟩ (by decide) (by decide) d_X0_isBelow_14
  · have h := h.2 hc
    refine ac_iload_n 0 d_X0_isBelow_4 rfl rfl ?_
    refine ac_iload_n 1 d_X0_isBelow_5 rfl rfl ?_
    refine ac_icmp_ge (tgt := 13) d_X0_isBelow_6 (by decide) (fun hc => ?_) (fun hc => ?_)
    · have h := h.1 hc
      refine ac_iconst (v := 0) d_X0_isBelow_13 rfl ?_
      exact ac_ireturn hR rfl ⟨_, rfl, h⟩ (by decide) (by decide) d_X0_isBelow_14
    · have h := h.2 hc
      refine ac_iconst (v := 1) d_X0_isBelow_9 rfl ?_
      refine ac_goto (tgt := 14) d_X0_isBelow_10 (by decide) ?_
      exact ac_ireturn hR rfl ⟨_, rfl, h⟩ (by decide) (by decide) d_X0_isBelow_14
end
