section
-- ===== PART A: goes FIRST, ahead of the names: the tables' words, and 'selects' of the private methods out of them =====
/-- a private method of a class that the tables say can be made, by its rows of tables_1 -/
def lw_okq (q : MethodName × Nat) : Prop := (q.1.cls ≠ "java/lang/invoke/MethodHandle" ∧ q.1.cls ≠ "java/lang/invoke/VarHandle") ∧ Cond.instantiable q.1.cls q.2 ∈ tables_1 ∧ Cond.privateMethod q.1 ∈ tables_1 ∧ Cond.instanceMethod q.1 ∈ tables_1
theorem lw_p0 : lw_okq (⟨"VirtualRewrite$Rewriting", "extend", "(II)V"⟩, 8) := ⟨⟨by decide +kernel, by decide +kernel⟩, List.mem_of_getElem? (i := 143) (by decide +kernel), List.mem_of_getElem? (i := 418) (by decide +kernel), List.mem_of_getElem? (i := 419) (by decide +kernel)⟩
theorem lw_p1 : lw_okq (⟨"VirtualRewrite$Rewriting", "keep", "()V"⟩, 8) := ⟨⟨by decide +kernel, by decide +kernel⟩, List.mem_of_getElem? (i := 143) (by decide +kernel), List.mem_of_getElem? (i := 422) (by decide +kernel), List.mem_of_getElem? (i := 423) (by decide +kernel)⟩
theorem lw_p2 : lw_okq (⟨"VirtualRewrite$Rewriting", "settle", "(ILVirtualRewrite$Mapping;I)I"⟩, 8) := ⟨⟨by decide +kernel, by decide +kernel⟩, List.mem_of_getElem? (i := 143) (by decide +kernel), List.mem_of_getElem? (i := 427) (by decide +kernel), List.mem_of_getElem? (i := 428) (by decide +kernel)⟩
theorem lw_p3 : lw_okq (⟨"VirtualRewrite", "isAsked", "(I)Z"⟩, 6) := ⟨⟨by decide +kernel, by decide +kernel⟩, List.mem_of_getElem? (i := 19) (by decide +kernel), List.mem_of_getElem? (i := 451) (by decide +kernel), List.mem_of_getElem? (i := 452) (by decide +kernel)⟩
theorem lw_p4 : lw_okq (⟨"VirtualRewrite", "troubleWith", "(I)I"⟩, 6) := ⟨⟨by decide +kernel, by decide +kernel⟩, List.mem_of_getElem? (i := 19) (by decide +kernel), List.mem_of_getElem? (i := 455) (by decide +kernel), List.mem_of_getElem? (i := 456) (by decide +kernel)⟩
theorem lw_p5 : lw_okq (⟨"VirtualRewrite$Slots", "leastOfOneRow", "(II)I"⟩, 5) := ⟨⟨by decide +kernel, by decide +kernel⟩, List.mem_of_getElem? (i := 176) (by decide +kernel), List.mem_of_getElem? (i := 467) (by decide +kernel), List.mem_of_getElem? (i := 468) (by decide +kernel)⟩
theorem lw_p6 : lw_okq (⟨"VirtualRewrite$Slots", "areOfOneRow", "(III)Z"⟩, 5) := ⟨⟨by decide +kernel, by decide +kernel⟩, List.mem_of_getElem? (i := 176) (by decide +kernel), List.mem_of_getElem? (i := 471) (by decide +kernel), List.mem_of_getElem? (i := 472) (by decide +kernel)⟩
theorem lw_p7 : lw_okq (⟨"VirtualRewrite$Finder", "layOut", "()V"⟩, 13) := ⟨⟨by decide +kernel, by decide +kernel⟩, List.mem_of_getElem? (i := 234) (by decide +kernel), List.mem_of_getElem? (i := 516) (by decide +kernel), List.mem_of_getElem? (i := 517) (by decide +kernel)⟩
theorem lw_p8 : lw_okq (⟨"VirtualRewrite$Finder", "layOutVariable", "(II)V"⟩, 13) := ⟨⟨by decide +kernel, by decide +kernel⟩, List.mem_of_getElem? (i := 234) (by decide +kernel), List.mem_of_getElem? (i := 522) (by decide +kernel), List.mem_of_getElem? (i := 523) (by decide +kernel)⟩
theorem lw_p9 : lw_okq (⟨"VirtualRewrite$Finder", "gatherRows", "(I)V"⟩, 13) := ⟨⟨by decide +kernel, by decide +kernel⟩, List.mem_of_getElem? (i := 234) (by decide +kernel), List.mem_of_getElem? (i := 529) (by decide +kernel), List.mem_of_getElem? (i := 530) (by decide +kernel)⟩
theorem lw_p10 : lw_okq (⟨"VirtualRewrite$Finder", "tableOf", "(I)LVirtualRewrite$Table;"⟩, 13) := ⟨⟨by decide +kernel, by decide +kernel⟩, List.mem_of_getElem? (i := 234) (by decide +kernel), List.mem_of_getElem? (i := 533) (by decide +kernel), List.mem_of_getElem? (i := 534) (by decide +kernel)⟩
theorem lw_p11 : lw_okq (⟨"VirtualRewrite$Finder", "suits", "(ILVirtualRewrite$Table;I)Z"⟩, 13) := ⟨⟨by decide +kernel, by decide +kernel⟩, List.mem_of_getElem? (i := 234) (by decide +kernel), List.mem_of_getElem? (i := 538) (by decide +kernel), List.mem_of_getElem? (i := 539) (by decide +kernel)⟩
theorem lw_p12 : lw_okq (⟨"VirtualRewrite$Finder", "suitsAtom", "(ILVirtualRewrite$Table;I)Z"⟩, 13) := ⟨⟨by decide +kernel, by decide +kernel⟩, List.mem_of_getElem? (i := 234) (by decide +kernel), List.mem_of_getElem? (i := 542) (by decide +kernel), List.mem_of_getElem? (i := 543) (by decide +kernel)⟩
theorem lw_p13 : lw_okq (⟨"VirtualRewrite$Finder", "isTold", "(ILVirtualRewrite$Table;II)Z"⟩, 13) := ⟨⟨by decide +kernel, by decide +kernel⟩, List.mem_of_getElem? (i := 234) (by decide +kernel), List.mem_of_getElem? (i := 551) (by decide +kernel), List.mem_of_getElem? (i := 552) (by decide +kernel)⟩
theorem lw_p14 : lw_okq (⟨"VirtualRewrite$Finder", "areAlike", "(ILVirtualRewrite$Table;II)Z"⟩, 13) := ⟨⟨by decide +kernel, by decide +kernel⟩, List.mem_of_getElem? (i := 234) (by decide +kernel), List.mem_of_getElem? (i := 555) (by decide +kernel), List.mem_of_getElem? (i := 556) (by decide +kernel)⟩
theorem lw_p15 : lw_okq (⟨"VirtualRewrite$Finder", "orderSlots", "()V"⟩, 13) := ⟨⟨by decide +kernel, by decide +kernel⟩, List.mem_of_getElem? (i := 234) (by decide +kernel), List.mem_of_getElem? (i := 559) (by decide +kernel), List.mem_of_getElem? (i := 560) (by decide +kernel)⟩
def lw_privs_1 : List (MethodName × Nat) := [(⟨"VirtualRewrite$Rewriting", "extend", "(II)V"⟩, 8), (⟨"VirtualRewrite$Rewriting", "keep", "()V"⟩, 8), (⟨"VirtualRewrite$Rewriting", "settle", "(ILVirtualRewrite$Mapping;I)I"⟩, 8), (⟨"VirtualRewrite", "isAsked", "(I)Z"⟩, 6), (⟨"VirtualRewrite", "troubleWith", "(I)I"⟩, 6), (⟨"VirtualRewrite$Slots", "leastOfOneRow", "(II)I"⟩, 5), (⟨"VirtualRewrite$Slots", "areOfOneRow", "(III)Z"⟩, 5), (⟨"VirtualRewrite$Finder", "layOut", "()V"⟩, 13), (⟨"VirtualRewrite$Finder", "layOutVariable", "(II)V"⟩, 13), (⟨"VirtualRewrite$Finder", "gatherRows", "(I)V"⟩, 13), (⟨"VirtualRewrite$Finder", "tableOf", "(I)LVirtualRewrite$Table;"⟩, 13), (⟨"VirtualRewrite$Finder", "suits", "(ILVirtualRewrite$Table;I)Z"⟩, 13), (⟨"VirtualRewrite$Finder", "suitsAtom", "(ILVirtualRewrite$Table;I)Z"⟩, 13), (⟨"VirtualRewrite$Finder", "isTold", "(ILVirtualRewrite$Table;II)Z"⟩, 13), (⟨"VirtualRewrite$Finder", "areAlike", "(ILVirtualRewrite$Table;II)Z"⟩, 13), (⟨"VirtualRewrite$Finder", "orderSlots", "()V"⟩, 13)]
theorem lw_r1 : ∀ q ∈ lw_privs_1, lw_okq q := List.forall_mem_cons.mpr ⟨lw_p0, List.forall_mem_cons.mpr ⟨lw_p1, List.forall_mem_cons.mpr ⟨lw_p2, List.forall_mem_cons.mpr ⟨lw_p3, List.forall_mem_cons.mpr ⟨lw_p4, List.forall_mem_cons.mpr ⟨lw_p5, List.forall_mem_cons.mpr ⟨lw_p6, List.forall_mem_cons.mpr ⟨lw_p7, List.forall_mem_cons.mpr ⟨lw_p8, List.forall_mem_cons.mpr ⟨lw_p9, List.forall_mem_cons.mpr ⟨lw_p10, List.forall_mem_cons.mpr ⟨lw_p11, List.forall_mem_cons.mpr ⟨lw_p12, List.forall_mem_cons.mpr ⟨lw_p13, List.forall_mem_cons.mpr ⟨lw_p14, List.forall_mem_cons.mpr ⟨lw_p15, fun _ h => absurd h List.not_mem_nil⟩⟩⟩⟩⟩⟩⟩⟩⟩⟩⟩⟩⟩⟩⟩⟩
theorem lw_p16 : lw_okq (⟨"VirtualRewrite$Finder", "isBetter", "(III)Z"⟩, 13) := ⟨⟨by decide +kernel, by decide +kernel⟩, List.mem_of_getElem? (i := 234) (by decide +kernel), List.mem_of_getElem? (i := 563) (by decide +kernel), List.mem_of_getElem? (i := 564) (by decide +kernel)⟩
theorem lw_p17 : lw_okq (⟨"VirtualRewrite$Finder", "search", "(II)I"⟩, 13) := ⟨⟨by decide +kernel, by decide +kernel⟩, List.mem_of_getElem? (i := 234) (by decide +kernel), List.mem_of_getElem? (i := 573) (by decide +kernel), List.mem_of_getElem? (i := 574) (by decide +kernel)⟩
theorem lw_p18 : lw_okq (⟨"VirtualRewrite$Answers", "firstNotBefore", "([I)I"⟩, 7) := ⟨⟨by decide +kernel, by decide +kernel⟩, List.mem_of_getElem? (i := 202) (by decide +kernel), List.mem_of_getElem? (i := 581) (by decide +kernel), List.mem_of_getElem? (i := 582) (by decide +kernel)⟩
theorem lw_p19 : lw_okq (⟨"VirtualRewrite$Answers", "compare", "(I[I)I"⟩, 7) := ⟨⟨by decide +kernel, by decide +kernel⟩, List.mem_of_getElem? (i := 202) (by decide +kernel), List.mem_of_getElem? (i := 585) (by decide +kernel), List.mem_of_getElem? (i := 586) (by decide +kernel)⟩
theorem lw_p20 : lw_okq (⟨"VirtualRewrite$Answers", "insert", "(I[II)V"⟩, 7) := ⟨⟨by decide +kernel, by decide +kernel⟩, List.mem_of_getElem? (i := 202) (by decide +kernel), List.mem_of_getElem? (i := 593) (by decide +kernel), List.mem_of_getElem? (i := 594) (by decide +kernel)⟩
theorem lw_p21 : lw_okq (⟨"VirtualRewrite$Finder", "agrees", "(ILVirtualRewrite$Table;II)Z"⟩, 13) := ⟨⟨by decide +kernel, by decide +kernel⟩, List.mem_of_getElem? (i := 234) (by decide +kernel), List.mem_of_getElem? (i := 598) (by decide +kernel), List.mem_of_getElem? (i := 599) (by decide +kernel)⟩
theorem lw_p22 : lw_okq (⟨"VirtualRewrite$Finder", "settleVariables", "(ILVirtualRewrite$Table;I)V"⟩, 13) := ⟨⟨by decide +kernel, by decide +kernel⟩, List.mem_of_getElem? (i := 234) (by decide +kernel), List.mem_of_getElem? (i := 603) (by decide +kernel), List.mem_of_getElem? (i := 604) (by decide +kernel)⟩
theorem lw_p23 : lw_okq (⟨"java/lang/Throwable", "fillInStackTrace", "(I)Ljava/lang/Throwable;"⟩, 6) := ⟨⟨by decide +kernel, by decide +kernel⟩, List.mem_of_getElem? (i := 664) (by decide +kernel), List.mem_of_getElem? (i := 662) (by decide +kernel), List.mem_of_getElem? (i := 663) (by decide +kernel)⟩
theorem lw_p24 : lw_okq (⟨"VirtualRewriteModel", "count", "(III)I"⟩, 29) := ⟨⟨by decide +kernel, by decide +kernel⟩, List.mem_of_getElem? (i := 695) (by decide +kernel), List.mem_of_getElem? (i := 796) (by decide +kernel), List.mem_of_getElem? (i := 797) (by decide +kernel)⟩
theorem lw_p25 : lw_okq (⟨"VirtualRewriteModel", "code", "(III)I"⟩, 29) := ⟨⟨by decide +kernel, by decide +kernel⟩, List.mem_of_getElem? (i := 695) (by decide +kernel), List.mem_of_getElem? (i := 816) (by decide +kernel), List.mem_of_getElem? (i := 817) (by decide +kernel)⟩
theorem lw_p26 : lw_okq (⟨"VirtualRewriteModel", "makeUnions", "()Z"⟩, 29) := ⟨⟨by decide +kernel, by decide +kernel⟩, List.mem_of_getElem? (i := 695) (by decide +kernel), List.mem_of_getElem? (i := 840) (by decide +kernel), List.mem_of_getElem? (i := 841) (by decide +kernel)⟩
theorem lw_p27 : lw_okq (⟨"VirtualRewriteModel", "canMeet", "(I)Z"⟩, 29) := ⟨⟨by decide +kernel, by decide +kernel⟩, List.mem_of_getElem? (i := 695) (by decide +kernel), List.mem_of_getElem? (i := 844) (by decide +kernel), List.mem_of_getElem? (i := 845) (by decide +kernel)⟩
theorem lw_p28 : lw_okq (⟨"VirtualRewriteModel", "giveSlots", "(I)V"⟩, 29) := ⟨⟨by decide +kernel, by decide +kernel⟩, List.mem_of_getElem? (i := 695) (by decide +kernel), List.mem_of_getElem? (i := 848) (by decide +kernel), List.mem_of_getElem? (i := 849) (by decide +kernel)⟩
theorem lw_p29 : lw_okq (⟨"VirtualRewriteModel", "isOneRow", "(III)Z"⟩, 29) := ⟨⟨by decide +kernel, by decide +kernel⟩, List.mem_of_getElem? (i := 695) (by decide +kernel), List.mem_of_getElem? (i := 852) (by decide +kernel), List.mem_of_getElem? (i := 853) (by decide +kernel)⟩
theorem lw_p30 : lw_okq (⟨"VirtualRewriteModel", "tableOf", "(II)I"⟩, 29) := ⟨⟨by decide +kernel, by decide +kernel⟩, List.mem_of_getElem? (i := 695) (by decide +kernel), List.mem_of_getElem? (i := 864) (by decide +kernel), List.mem_of_getElem? (i := 865) (by decide +kernel)⟩
theorem lw_p31 : lw_okq (⟨"VirtualRewriteModel", "find", "(I)V"⟩, 29) := ⟨⟨by decide +kernel, by decide +kernel⟩, List.mem_of_getElem? (i := 695) (by decide +kernel), List.mem_of_getElem? (i := 872) (by decide +kernel), List.mem_of_getElem? (i := 873) (by decide +kernel)⟩
def lw_privs_2 : List (MethodName × Nat) := [(⟨"VirtualRewrite$Finder", "isBetter", "(III)Z"⟩, 13), (⟨"VirtualRewrite$Finder", "search", "(II)I"⟩, 13), (⟨"VirtualRewrite$Answers", "firstNotBefore", "([I)I"⟩, 7), (⟨"VirtualRewrite$Answers", "compare", "(I[I)I"⟩, 7), (⟨"VirtualRewrite$Answers", "insert", "(I[II)V"⟩, 7), (⟨"VirtualRewrite$Finder", "agrees", "(ILVirtualRewrite$Table;II)Z"⟩, 13), (⟨"VirtualRewrite$Finder", "settleVariables", "(ILVirtualRewrite$Table;I)V"⟩, 13), (⟨"java/lang/Throwable", "fillInStackTrace", "(I)Ljava/lang/Throwable;"⟩, 6), (⟨"VirtualRewriteModel", "count", "(III)I"⟩, 29), (⟨"VirtualRewriteModel", "code", "(III)I"⟩, 29), (⟨"VirtualRewriteModel", "makeUnions", "()Z"⟩, 29), (⟨"VirtualRewriteModel", "canMeet", "(I)Z"⟩, 29), (⟨"VirtualRewriteModel", "giveSlots", "(I)V"⟩, 29), (⟨"VirtualRewriteModel", "isOneRow", "(III)Z"⟩, 29), (⟨"VirtualRewriteModel", "tableOf", "(II)I"⟩, 29), (⟨"VirtualRewriteModel", "find", "(I)V"⟩, 29)]
theorem lw_r2 : ∀ q ∈ lw_privs_2, lw_okq q := List.forall_mem_cons.mpr ⟨lw_p16, List.forall_mem_cons.mpr ⟨lw_p17, List.forall_mem_cons.mpr ⟨lw_p18, List.forall_mem_cons.mpr ⟨lw_p19, List.forall_mem_cons.mpr ⟨lw_p20, List.forall_mem_cons.mpr ⟨lw_p21, List.forall_mem_cons.mpr ⟨lw_p22, List.forall_mem_cons.mpr ⟨lw_p23, List.forall_mem_cons.mpr ⟨lw_p24, List.forall_mem_cons.mpr ⟨lw_p25, List.forall_mem_cons.mpr ⟨lw_p26, List.forall_mem_cons.mpr ⟨lw_p27, List.forall_mem_cons.mpr ⟨lw_p28, List.forall_mem_cons.mpr ⟨lw_p29, List.forall_mem_cons.mpr ⟨lw_p30, List.forall_mem_cons.mpr ⟨lw_p31, fun _ h => absurd h List.not_mem_nil⟩⟩⟩⟩⟩⟩⟩⟩⟩⟩⟩⟩⟩⟩⟩⟩
theorem lw_p32 : lw_okq (⟨"VirtualRewriteModel", "agree", "(II)Z"⟩, 29) := ⟨⟨by decide +kernel, by decide +kernel⟩, List.mem_of_getElem? (i := 695) (by decide +kernel), List.mem_of_getElem? (i := 876) (by decide +kernel), List.mem_of_getElem? (i := 877) (by decide +kernel)⟩
theorem lw_p33 : lw_okq (⟨"VirtualRewriteModel", "keep", "(I)V"⟩, 29) := ⟨⟨by decide +kernel, by decide +kernel⟩, List.mem_of_getElem? (i := 695) (by decide +kernel), List.mem_of_getElem? (i := 880) (by decide +kernel), List.mem_of_getElem? (i := 881) (by decide +kernel)⟩
theorem lw_p34 : lw_okq (⟨"VirtualRewriteModel", "compare", "(I)I"⟩, 29) := ⟨⟨by decide +kernel, by decide +kernel⟩, List.mem_of_getElem? (i := 695) (by decide +kernel), List.mem_of_getElem? (i := 884) (by decide +kernel), List.mem_of_getElem? (i := 885) (by decide +kernel)⟩
def lw_privs_3 : List (MethodName × Nat) := [(⟨"VirtualRewriteModel", "agree", "(II)Z"⟩, 29), (⟨"VirtualRewriteModel", "keep", "(I)V"⟩, 29), (⟨"VirtualRewriteModel", "compare", "(I)I"⟩, 29)]
theorem lw_r3 : ∀ q ∈ lw_privs_3, lw_okq q := List.forall_mem_cons.mpr ⟨lw_p32, List.forall_mem_cons.mpr ⟨lw_p33, List.forall_mem_cons.mpr ⟨lw_p34, fun _ h => absurd h List.not_mem_nil⟩⟩⟩
def lw_privs : List (MethodName × Nat) := lw_privs_1 ++ (lw_privs_2 ++ (lw_privs_3))
def lw_tbl : List Cond := k2_sels lw_privs ++ tables_1
theorem lw_privs_ok : ∀ q ∈ lw_privs, lw_okq q := by
  show ∀ q ∈ lw_privs_1 ++ (lw_privs_2 ++ (lw_privs_3)), lw_okq q
  exact List.forall_mem_append.mpr ⟨lw_r1, List.forall_mem_append.mpr ⟨lw_r2, lw_r3⟩⟩
end
section
def T_X0 : u_T := fun k => match k with
  | 0 => ("VirtualRewrite", "catalog", "LVirtualRewrite$Catalog;", true)
  | 1 => ("VirtualRewrite", "question", "LVirtualRewrite$Question;", true)
  | 2 => ("VirtualRewrite", "rewriting", "LVirtualRewrite$Rewriting;", true)
  | 3 => ("VirtualRewrite", "slots", "LVirtualRewrite$Slots;", true)
  | 4 => ("VirtualRewrite", "answers", "LVirtualRewrite$Answers;", true)
  | _ => ("VirtualRewrite", "finder", "LVirtualRewrite$Finder;", true)
def t_X0 : Nat → FieldType := fun k => match k with
  | 0 => (.object "VirtualRewrite$Catalog")
  | 1 => (.object "VirtualRewrite$Question")
  | 2 => (.object "VirtualRewrite$Rewriting")
  | 3 => (.object "VirtualRewrite$Slots")
  | 4 => (.object "VirtualRewrite$Answers")
  | _ => (.object "VirtualRewrite$Finder")
theorem nm_X0 : ∀ a, a < 6 → ∀ b, b < 6 → a ≠ b → (T_X0 a).2.1 ≠ (T_X0 b).2.1 := by decide +kernel
theorem ty_X0 : ∀ k, k < 6 → parseFieldDescriptor (T_X0 k).2.2.1 = some (t_X0 k) := by decide +kernel
def T_X1 : u_T := fun k => match k with
  | 0 => ("VirtualRewrite$Catalog", "tables", "[LVirtualRewrite$Table;", true)
  | 1 => ("VirtualRewrite$Catalog", "mappings", "[LVirtualRewrite$Mapping;", true)
  | 2 => ("VirtualRewrite$Catalog", "triples", "[J", true)
  | 3 => ("VirtualRewrite$Catalog", "size", "I", false)
  | _ => ("VirtualRewrite$Catalog", "tripleCount", "I", false)
def t_X1 : Nat → FieldType := fun k => match k with
  | 0 => (.array (.object "VirtualRewrite$Table"))
  | 1 => (.array (.object "VirtualRewrite$Mapping"))
  | 2 => (.array .long)
  | 3 => .int
  | _ => .int
theorem nm_X1 : ∀ a, a < 5 → ∀ b, b < 5 → a ≠ b → (T_X1 a).2.1 ≠ (T_X1 b).2.1 := by decide +kernel
theorem ty_X1 : ∀ k, k < 5 → parseFieldDescriptor (T_X1 k).2.2.1 = some (t_X1 k) := by decide +kernel
def T_X2 : u_T := fun k => match k with
  | 0 => ("VirtualRewrite$Table", "cells", "[I", true)
  | 1 => ("VirtualRewrite$Table", "isKey", "[Z", true)
  | _ => ("VirtualRewrite$Table", "size", "I", false)
def t_X2 : Nat → FieldType := fun k => match k with
  | 0 => (.array .int)
  | 1 => (.array .boolean)
  | _ => .int
theorem nm_X2 : ∀ a, a < 3 → ∀ b, b < 3 → a ≠ b → (T_X2 a).2.1 ≠ (T_X2 b).2.1 := by decide +kernel
theorem ty_X2 : ∀ k, k < 3 → parseFieldDescriptor (T_X2 k).2.2.1 = some (t_X2 k) := by decide +kernel
def T_X3 : u_T := fun k => match k with
  | 0 => ("VirtualRewrite$Mapping", "templates", "[I", true)
  | 1 => ("VirtualRewrite$Mapping", "columns", "[I", true)
  | 2 => ("VirtualRewrite$Mapping", "table", "I", false)
  | _ => ("VirtualRewrite$Mapping", "predicate", "I", false)
def t_X3 : Nat → FieldType := fun k => match k with
  | 0 => (.array .int)
  | 1 => (.array .int)
  | 2 => .int
  | _ => .int
theorem nm_X3 : ∀ a, a < 4 → ∀ b, b < 4 → a ≠ b → (T_X3 a).2.1 ≠ (T_X3 b).2.1 := by decide +kernel
theorem ty_X3 : ∀ k, k < 4 → parseFieldDescriptor (T_X3 k).2.2.1 = some (t_X3 k) := by decide +kernel
def T_X4 : u_T := fun k => match k with
  | 0 => ("VirtualRewrite$Question", "predicates", "[I", true)
  | 1 => ("VirtualRewrite$Question", "places", "[I", true)
  | 2 => ("VirtualRewrite$Question", "least", "[I", true)
  | 3 => ("VirtualRewrite$Question", "most", "[I", true)
  | 4 => ("VirtualRewrite$Question", "atoms", "I", false)
  | _ => ("VirtualRewrite$Question", "spans", "I", false)
def t_X4 : Nat → FieldType := fun k => match k with
  | 0 => (.array .int)
  | 1 => (.array .int)
  | 2 => (.array .int)
  | 3 => (.array .int)
  | 4 => .int
  | _ => .int
theorem nm_X4 : ∀ a, a < 6 → ∀ b, b < 6 → a ≠ b → (T_X4 a).2.1 ≠ (T_X4 b).2.1 := by decide +kernel
theorem ty_X4 : ∀ k, k < 6 → parseFieldDescriptor (T_X4 k).2.2.1 = some (t_X4 k) := by decide +kernel
def T_X5 : u_T := fun k => match k with
  | 0 => ("VirtualRewrite$Rewriting", "catalog", "LVirtualRewrite$Catalog;", true)
  | 1 => ("VirtualRewrite$Rewriting", "question", "LVirtualRewrite$Question;", true)
  | 2 => ("VirtualRewrite$Rewriting", "kept", "[I", true)
  | 3 => ("VirtualRewrite$Rewriting", "trial", "[I", true)
  | 4 => ("VirtualRewrite$Rewriting", "templates", "[I", true)
  | 5 => ("VirtualRewrite$Rewriting", "size", "I", false)
  | 6 => ("VirtualRewrite$Rewriting", "large", "Z", false)
  | _ => ("VirtualRewrite$Rewriting", "known", "Z", false)
def t_X5 : Nat → FieldType := fun k => match k with
  | 0 => (.object "VirtualRewrite$Catalog")
  | 1 => (.object "VirtualRewrite$Question")
  | 2 => (.array .int)
  | 3 => (.array .int)
  | 4 => (.array .int)
  | 5 => .int
  | 6 => .boolean
  | _ => .boolean
theorem nm_X5 : ∀ a, a < 8 → ∀ b, b < 8 → a ≠ b → (T_X5 a).2.1 ≠ (T_X5 b).2.1 := by decide +kernel
theorem ty_X5 : ∀ k, k < 8 → parseFieldDescriptor (T_X5 k).2.2.1 = some (t_X5 k) := by decide +kernel
def T_X6 : u_T := fun k => match k with
  | 0 => ("VirtualRewrite$Slots", "catalog", "LVirtualRewrite$Catalog;", true)
  | 1 => ("VirtualRewrite$Slots", "question", "LVirtualRewrite$Question;", true)
  | 2 => ("VirtualRewrite$Slots", "rewriting", "LVirtualRewrite$Rewriting;", true)
  | 3 => ("VirtualRewrite$Slots", "slotOf", "[I", true)
  | _ => ("VirtualRewrite$Slots", "count", "I", false)
def t_X6 : Nat → FieldType := fun k => match k with
  | 0 => (.object "VirtualRewrite$Catalog")
  | 1 => (.object "VirtualRewrite$Question")
  | 2 => (.object "VirtualRewrite$Rewriting")
  | 3 => (.array .int)
  | _ => .int
theorem nm_X6 : ∀ a, a < 5 → ∀ b, b < 5 → a ≠ b → (T_X6 a).2.1 ≠ (T_X6 b).2.1 := by decide +kernel
theorem ty_X6 : ∀ k, k < 5 → parseFieldDescriptor (T_X6 k).2.2.1 = some (t_X6 k) := by decide +kernel
def T_X7 : u_T := fun k => match k with
  | 0 => ("VirtualRewrite$Answers", "codes", "[I", true)
  | 1 => ("VirtualRewrite$Answers", "order", "[I", true)
  | 2 => ("VirtualRewrite$Answers", "finders", "[I", true)
  | 3 => ("VirtualRewrite$Answers", "firsts", "[I", true)
  | 4 => ("VirtualRewrite$Answers", "size", "I", false)
  | 5 => ("VirtualRewrite$Answers", "variables", "I", false)
  | _ => ("VirtualRewrite$Answers", "large", "Z", false)
def t_X7 : Nat → FieldType := fun k => match k with
  | 0 => (.array .int)
  | 1 => (.array .int)
  | 2 => (.array .int)
  | 3 => (.array .int)
  | 4 => .int
  | 5 => .int
  | _ => .boolean
theorem nm_X7 : ∀ a, a < 7 → ∀ b, b < 7 → a ≠ b → (T_X7 a).2.1 ≠ (T_X7 b).2.1 := by decide +kernel
theorem ty_X7 : ∀ k, k < 7 → parseFieldDescriptor (T_X7 k).2.2.1 = some (t_X7 k) := by decide +kernel
def T_X8 : u_T := fun k => match k with
  | 0 => ("VirtualRewrite$Finder", "question", "LVirtualRewrite$Question;", true)
  | 1 => ("VirtualRewrite$Finder", "rewriting", "LVirtualRewrite$Rewriting;", true)
  | 2 => ("VirtualRewrite$Finder", "slots", "LVirtualRewrite$Slots;", true)
  | 3 => ("VirtualRewrite$Finder", "answers", "LVirtualRewrite$Answers;", true)
  | 4 => ("VirtualRewrite$Finder", "atomOf", "[I", true)
  | 5 => ("VirtualRewrite$Finder", "variables", "[I", true)
  | 6 => ("VirtualRewrite$Finder", "columns", "[I", true)
  | 7 => ("VirtualRewrite$Finder", "rows", "[I", true)
  | 8 => ("VirtualRewrite$Finder", "rowCounts", "[I", true)
  | 9 => ("VirtualRewrite$Finder", "order", "[I", true)
  | 10 => ("VirtualRewrite$Finder", "templates", "[I", true)
  | 11 => ("VirtualRewrite$Finder", "codes", "[I", true)
  | _ => ("VirtualRewrite$Finder", "union", "I", false)
def t_X8 : Nat → FieldType := fun k => match k with
  | 0 => (.object "VirtualRewrite$Question")
  | 1 => (.object "VirtualRewrite$Rewriting")
  | 2 => (.object "VirtualRewrite$Slots")
  | 3 => (.object "VirtualRewrite$Answers")
  | 4 => (.array .int)
  | 5 => (.array .int)
  | 6 => (.array .int)
  | 7 => (.array .int)
  | 8 => (.array .int)
  | 9 => (.array .int)
  | 10 => (.array .int)
  | 11 => (.array .int)
  | _ => .int
theorem nm_X8 : ∀ a, a < 13 → ∀ b, b < 13 → a ≠ b → (T_X8 a).2.1 ≠ (T_X8 b).2.1 := by decide +kernel
theorem ty_X8 : ∀ k, k < 13 → parseFieldDescriptor (T_X8 k).2.2.1 = some (t_X8 k) := by decide +kernel
abbrev cl_ : List vw_C := [("VirtualRewrite", T_X0, 6), ("VirtualRewrite$Catalog", T_X1, 5), ("VirtualRewrite$Table", T_X2, 3), ("VirtualRewrite$Mapping", T_X3, 4), ("VirtualRewrite$Question", T_X4, 6), ("VirtualRewrite$Rewriting", T_X5, 8), ("VirtualRewrite$Slots", T_X6, 5), ("VirtualRewrite$Answers", T_X7, 7), ("VirtualRewrite$Finder", T_X8, 13)]
abbrev tys_ (ki : Nat → ClassId) : List (ClassId × FieldType) := [(ki 0, .int), (ki 1, .boolean), (ki 2, .long), (ki 3, (.object "VirtualRewrite$Table")), (ki 4, (.object "VirtualRewrite$Mapping"))]
def T0_ : List Cond := lw_tbl.filter goodWord
theorem T0_good : ∀ w ∈ T0_, (w.onTables && w.keeps) = true ∨ ∃ ty, w = .arrayClass ty := fun w hw => good_of_word (List.mem_filter.mp hw).2
theorem T0_in : ∀ w ∈ T0_, w ∈ lw_tbl := fun w hw => (List.mem_filter.mp hw).1
theorem mem_T0 {w : Cond} (i : Nat) (h : lw_tbl[i]? = some w) (hg : goodWord w = true) : w ∈ T0_ := List.mem_filter.mpr ⟨List.mem_of_getElem? h, hg⟩
def NM_ : List (String × Nat × MethodName × String) := [("VirtualRewrite$Catalog", 34, (⟨"VirtualRewrite$Table", "<init>", "()V"⟩ : MethodName), "VirtualRewrite"), ("VirtualRewrite$Catalog", 35, (⟨"VirtualRewrite$Mapping", "<init>", "()V"⟩ : MethodName), "VirtualRewrite"), ("VirtualRewrite", 43, (⟨"VirtualRewrite$Answers", "<init>", "()V"⟩ : MethodName), "VirtualRewrite"), ("VirtualRewrite$Rewriting", 93, (⟨"VirtualRewrite", "isVariable", "(I)Z"⟩ : MethodName), "VirtualRewrite"), ("VirtualRewrite$Rewriting", 97, (⟨"VirtualRewrite", "variableOf", "(I)I"⟩ : MethodName), "VirtualRewrite"), ("VirtualRewrite$Rewriting", 101, (⟨"VirtualRewrite", "has", "(II)Z"⟩ : MethodName), "VirtualRewrite"), ("VirtualRewrite$Rewriting", 105, (⟨"VirtualRewrite", "with", "(II)I"⟩ : MethodName), "VirtualRewrite"), ("VirtualRewrite$Question", 40, (⟨"VirtualRewrite", "isVariable", "(I)Z"⟩ : MethodName), "VirtualRewrite"), ("VirtualRewrite$Question", 44, (⟨"VirtualRewrite", "variableOf", "(I)I"⟩ : MethodName), "VirtualRewrite"), ("VirtualRewrite$Question", 48, (⟨"VirtualRewrite", "with", "(II)I"⟩ : MethodName), "VirtualRewrite"), ("VirtualRewrite$Finder", 89, (⟨"VirtualRewrite", "isVariable", "(I)Z"⟩ : MethodName), "VirtualRewrite"), ("VirtualRewrite$Finder", 97, (⟨"VirtualRewrite", "variableOf", "(I)I"⟩ : MethodName), "VirtualRewrite"), ("VirtualRewrite$Finder", 111, (⟨"VirtualRewrite", "with", "(II)I"⟩ : MethodName), "VirtualRewrite"), ("VirtualRewrite$Finder", 173, (⟨"VirtualRewrite", "has", "(II)Z"⟩ : MethodName), "VirtualRewrite")]
def AO_ : List String := ["VirtualRewrite$Table", "VirtualRewrite$Mapping"]
theorem uw_X0 : ∀ w ∈ u_ws "VirtualRewrite" T_X0 6, w ∈ T0_ := by decide +kernel
theorem uw_X1 : ∀ w ∈ u_ws "VirtualRewrite$Catalog" T_X1 5, w ∈ T0_ := by decide +kernel
theorem uw_X2 : ∀ w ∈ u_ws "VirtualRewrite$Table" T_X2 3, w ∈ T0_ := by decide +kernel
theorem uw_X3 : ∀ w ∈ u_ws "VirtualRewrite$Mapping" T_X3 4, w ∈ T0_ := by decide +kernel
theorem uw_X4 : ∀ w ∈ u_ws "VirtualRewrite$Question" T_X4 6, w ∈ T0_ := by decide +kernel
theorem uw_X5 : ∀ w ∈ u_ws "VirtualRewrite$Rewriting" T_X5 8, w ∈ T0_ := by decide +kernel
theorem uw_X6 : ∀ w ∈ u_ws "VirtualRewrite$Slots" T_X6 5, w ∈ T0_ := by decide +kernel
theorem uw_X7 : ∀ w ∈ u_ws "VirtualRewrite$Answers" T_X7 7, w ∈ T0_ := by decide +kernel
theorem uw_X8 : ∀ w ∈ u_ws "VirtualRewrite$Finder" T_X8 13, w ∈ T0_ := by decide +kernel
end
section
/-! THE WALK'S OWN JUDGEMENT: the world is ONE map from addresses to cells, handed whole to every call. cl_ (the classes), T0_ (the words), NM_ (the nest links) are named in the part before. -/
abbrev ac_hp : Type := Nat → Option va_E
def ac_e0 : va_E := .inr (0, [])
def ac_up (f : ac_hp) (a : Nat) (e : va_E) : ac_hp := fun q => if q = a then some e else f q
theorem ac_up_self (f : ac_hp) (a : Nat) (e : va_E) : ac_up f a e a = some e := by simp [ac_up]
theorem ac_up_ne (f : ac_hp) {a q : Nat} (e : va_E) (h : q ≠ a) : ac_up f a e q = f q := by simp [ac_up, h]
def ac_ws (L : List Nat) (f : ac_hp) : va_W := va_pl L (fun a => (f a).getD ac_e0)
def ac_wd (D : va_G) (A : Nat → Prop) (f : ac_hp) (H : Heap) : Prop :=
  ∃ L : List Nat, (∀ a, a ∈ L ↔ ∃ e, f a = some e) ∧ va_P D cl_ (ac_ws L f) H ∧ va_D A (ac_ws L f)
theorem ac_pos {f : ac_hp} {L : List Nat} {a : Nat} {e : va_E} (hm : a ∈ L) (ha : f a = some e) : ∃ k : Nat, (ac_ws L f)[k]? = some (a, e) := by
  obtain ⟨k, hk⟩ := va_pl_get (X := []) (f := fun a => (f a).getD ac_e0) hm
  refine ⟨k, ?_⟩
  have e1 : (f a).getD ac_e0 = e := by rw [ha]; rfl
  rw [e1] at hk
  exact hk
theorem ac_ws_set {A : Nat → Prop} {f : ac_hp} {L : List Nat} {a k : Nat} {e e' : va_E} (hD : va_D A (ac_ws L f)) (hm : a ∈ L) (ha : f a = some e) (hk : (ac_ws L f)[k]? = some (a, e)) : (ac_ws L f).set k (a, e') = ac_ws L (ac_up f a e') := by
  have e1 : (f a).getD ac_e0 = e := by rw [ha]; rfl
  have h1 := va_pl_set (A := A) (X := []) (L := L) (f := fun a => (f a).getD ac_e0) (a := a) (k := k) (e := e') hD hm (by show (ac_ws L f)[k]? = some (a, (f a).getD ac_e0); rw [e1]; exact hk)
  have h2 : va_pl L (va_up (fun a => (f a).getD ac_e0) a e') = ac_ws L (ac_up f a e') := by
    unfold ac_ws
    apply va_pl_congr
    intro q
    by_cases hq : q = a
    · subst hq; simp [va_up, ac_up]
    · simp [va_up, ac_up, hq]
  rw [← h2]
  exact h1
theorem ac_get {D : va_G} {A : Nat → Prop} {f : ac_hp} {H : Heap} {a : Nat} {e : va_E} (h : ac_wd D A f H) (ha : f a = some e) :
    ∃ (ws : va_W) (k : Nat), va_P D cl_ ws H ∧ va_D A ws ∧ ws[k]? = some (a, e) ∧ (∀ (e' : va_E) (H1 : Heap), va_P D cl_ (ws.set k (a, e')) H1 → va_D A (ws.set k (a, e')) → ac_wd D A (ac_up f a e') H1) ∧ ∀ (b : Nat) (e2 : va_E), f b = some e2 → ∃ k2 : Nat, ws[k2]? = some (b, e2) := by
  obtain ⟨L, hL, hP, hD⟩ := h
  have hm : a ∈ L := (hL a).mpr ⟨e, ha⟩
  obtain ⟨k, hk⟩ := ac_pos hm ha
  refine ⟨ac_ws L f, k, hP, hD, hk, ?_, fun b e2 hb => ac_pos ((hL b).mpr ⟨e2, hb⟩) hb⟩
  intro e' H1 hP1 hD1
  rw [ac_ws_set hD hm ha hk] at hP1 hD1
  refine ⟨L, fun b => ?_, hP1, hD1⟩
  by_cases hb : b = a
  · subst hb; simp [ac_up, hm]
  · simp [ac_up, hb, hL b]
theorem ac_new {D : va_G} {A : Nat → Prop} {f : ac_hp} {H : Heap} (h : ac_wd D A f H) :
    ∃ ws : va_W, va_P D cl_ ws H ∧ va_D A ws ∧ ∀ (q : Nat) (e' : va_E) (H1 : Heap), va_P D cl_ (ws ++ [(q, e')]) H1 → va_D A (ws ++ [(q, e')]) → f q = none ∧ ac_wd D A (ac_up f q e') H1 := by
  obtain ⟨L, hL, hP, hD⟩ := h
  refine ⟨ac_ws L f, hP, hD, fun q e' H1 hP1 hD1 => ?_⟩
  have hq : q ∉ L := va_pl_fresh2 (X := []) (f := fun a => (f a).getD ac_e0) hD1
  have hn : f q = none := by
    cases hf : f q with
    | none => rfl
    | some e => exact absurd ((hL q).mpr ⟨e, hf⟩) hq
  have h2 : ac_ws L f ++ [(q, e')] = ac_ws (L ++ [q]) (ac_up f q e') := by
    unfold ac_ws
    rw [va_pl_push hq]
    apply va_pl_congr
    intro b
    by_cases hb : b = q
    · subst hb; simp [va_up, ac_up]
    · simp [va_up, ac_up, hb]
  rw [h2] at hP1 hD1
  refine ⟨hn, L ++ [q], fun b => ?_, hP1, hD1⟩
  by_cases hb : b = q
  · subst hb; simp [ac_up]
  · simp [ac_up, hb, hL b]
theorem ac_wd.weak {D : va_G} {A B : Nat → Prop} {f : ac_hp} {H : Heap} (h : ac_wd D A f H) (hAB : ∀ q, A q → B q) : ac_wd D B f H := by
  obtain ⟨L, hL, hP, hD⟩ := h
  exact ⟨L, hL, hP, hD.weaken (fun _ q _ hq => hAB _ hq)⟩
theorem ac_wd.inA {D : va_G} {A : Nat → Prop} {f : ac_hp} {H : Heap} (h : ac_wd D A f H) {a : Nat} {e : va_E} (ha : f a = some e) : A a := by
  obtain ⟨ws, k, -, hD, hk, -⟩ := ac_get h ha
  exact hD.2 k _ hk
def ac_A (f : ac_hp) (sz : Nat) : Nat → Prop := fun q => (∃ e, f q = some e) ∨ sz ≤ q
theorem ac_wd.self {D : va_G} {A : Nat → Prop} {f : ac_hp} {H : Heap} {sz : Nat} (h : ac_wd D A f H) : ac_wd D (ac_A f sz) f H := by
  obtain ⟨L, hL, hP, hD⟩ := h
  refine ⟨L, hL, hP, hD.1, fun k q hk => ?_⟩
  have h1 : q ∈ ac_ws L f := List.mem_of_getElem? hk
  obtain ⟨b, hb, rfl⟩ := List.mem_map.mp h1
  exact Or.inl ((hL b).mp hb)
/-! the context of a walk: (program, launch, env, room, state at entry), (method, args, frames below, method, code), (the classes' numbers, the array classes, which cells may change), the goal -/
abbrev ac_X : Type := (Program × Launch × Env × Room × State) × (MethodId × Array Value × List Frame × Method × Code) × (va_G × (Nat → ClassId) × (Nat → Prop)) × (State → Prop)
/-- a method's code, its locals, its class -/
abbrev ac_M : Type := ByteArray × Nat × String
abbrev ac_l (x : ac_X) : Launch := x.1.2.1
abbrev ac_R (x : ac_X) : Room := x.1.2.2.2.1
abbrev ac_s (x : ac_X) : State := x.1.2.2.2.2
abbrev ac_args (x : ac_X) : Array Value := x.2.1.2.1
abbrev ac_meth (x : ac_X) : Method := x.2.1.2.2.2.1
abbrev ac_c (x : ac_X) : Code := x.2.1.2.2.2.2
abbrev ac_D (x : ac_X) : va_G := x.2.2.1.1
abbrev ac_ki (x : ac_X) : Nat → ClassId := x.2.2.1.2.1
abbrev ac_AA (x : ac_X) : Nat → Prop := x.2.2.1.2.2
/-- what isn't kept by a word of a contract: the nest links, the classes of arrays of references -/
def ac_nw (U : State) : Prop := (∀ q ∈ NM_, va_Nw (.methodLinkNest q.1 q.2.1 q.2.2.1 q.2.2.2) U) ∧ ∀ C ∈ AO_, va_AO C U
theorem ac_nw.same {u U : State} (h : u.vm = U.vm) (hn : ac_nw u) : ac_nw U := ⟨fun q hq => va_Nw.same rfl h (hn.1 q hq), fun C hC => va_AO.moved (by rw [h]; exact Vm.Alike.refl _) (hn.2 C hC)⟩
theorem ac_nw.warm {s U : State} (hW : s.WarmedH U.vm) (hn : ac_nw s) : ac_nw U := ⟨fun q hq => va_Nw.warmM hW (hn.1 q hq), fun C hC => va_AO.moved hW.alike (hn.2 C hC)⟩
def ac_ok (M : ac_M) (x : ac_X) : Prop := x.1.1.tables.exec = Jvm.exec ∧ (ac_c x).code = M.1 ∧ (ac_c x).maxLocals = M.2.1 ∧ (ac_s x).vm.findClass M.2.2 = some x.2.1.1.cls ∧ (∀ w ∈ T0_, w.before (ac_args x) (ac_s x) = true) ∧ va_K (ac_D x) cl_ (tys_ (ac_ki x)) (ac_s x) ∧ ac_nw (ac_s x) ∧ ∀ q, (ac_s x).heap.size ≤ q → ac_AA x q
def ac_At (M : ac_M) (x : ac_X) (kc ks pc : Nat) (lv : List (Nat × Value)) (st : List Value) (f : ac_hp) : Prop :=
  ac_ok M x → ∀ (H : Heap) (locs : List Loc) (ls : Array Slot), ac_wd (ac_D x) (ac_AA x) f H → va_S (ac_AA x) (ac_s x).heap H locs → lv_has ls M.2.1 lv → W x.1.1 x.1.2.1 x.1.2.2.1 x.1.2.2.2.1 x.1.2.2.2.2 x.2.1.1 x.2.1.2.1 x.2.1.2.2.1 x.2.1.2.2.2.1 x.2.1.2.2.2.2 H locs kc ks x.2.2.2 (F0 x.2.1.1 pc ls st)
section AC
variable {M : ac_M} {x : ac_X} {kc ks pc : Nat} {lv : List (Nat × Value)} {st : List Value} {f : ac_hp}
theorem ac_weak {lv' : List (Nat × Value)} (ps : List Nat) (hp : lv_pick lv ps = lv') (k : ac_At M x kc ks pc lv' st f) : ac_At M x kc ks pc lv st f := fun o H locs ls hw hS hl => k o H locs ls hw hS (lv_sub hl ps hp)
theorem ac_widen {k2 n2 : Nat} (h1 : kc ≤ k2) (h2 : ks ≤ n2) (k : ac_At M x k2 n2 pc lv st f) : ac_At M x kc ks pc lv st f := fun o H locs ls hw hS hl => W.widen h1 h2 (k o H locs ls hw hS hl)
-- constants
theorem ac_iconst {n : Int} {v : Int32} (hd : decode M.1 pc = .ok (.iconst n, 1)) (hv : Int32.ofInt n = v) (k : ac_At M x kc ks (pc + 1) lv (.int v :: st) f) : ac_At M x kc ks pc lv st f := fun o H locs ls hw hS hl => lv_iconst o.1 o.2.1 hd hv (k o H locs ls hw hS hl)
theorem ac_bipush {n : Int} {v : Int32} (hd : decode M.1 pc = .ok (.bipush n, 2)) (hv : (Int8.ofInt n).toInt32 = v) (k : ac_At M x kc ks (pc + 2) lv (.int v :: st) f) : ac_At M x kc ks pc lv st f := fun o H locs ls hw hS hl => lv_bipush o.1 o.2.1 hd hv (k o H locs ls hw hS hl)
theorem ac_sipush {n : Int} {v : Int32} (hd : decode M.1 pc = .ok (.sipush n, 3)) (hv : (Int16.ofInt n).toInt32 = v) (k : ac_At M x kc ks (pc + 3) lv (.int v :: st) f) : ac_At M x kc ks pc lv st f := fun o H locs ls hw hS hl => lv_sipush o.1 o.2.1 hd hv (k o H locs ls hw hS hl)
theorem ac_lconst {n : Fin 2} {v : Int64} (hd : decode M.1 pc = .ok (.lconst n, 1)) (hv : Int64.ofNat (n : Nat) = v) (k : ac_At M x kc ks (pc + 1) lv (.long v :: st) f) : ac_At M x kc ks pc lv st f := fun o H locs ls hw hS hl => lv_lconst o.1 o.2.1 hd hv (k o H locs ls hw hS hl)
theorem ac_ldc {index : Nat} {v : Int32} (hc : Jvm.Cond.constant M.2.2 index v ∈ T0_) (hd : decode M.1 pc = .ok (.ldc index, 2)) (k : ac_At M x kc ks (pc + 2) lv (.int v :: st) f) : ac_At M x kc ks pc lv st f := fun o H locs ls hw hS hl => lv_ldc o.1 o.2.1 o.2.2.2.1 (o.2.2.2.2.1 _ hc) hd (k o H locs ls hw hS hl)
theorem ac_ldcw {index : Nat} {v : Int32} (hc : Jvm.Cond.constant M.2.2 index v ∈ T0_) (hd : decode M.1 pc = .ok (.ldc_w index, 3)) (k : ac_At M x kc ks (pc + 3) lv (.int v :: st) f) : ac_At M x kc ks pc lv st f := fun o H locs ls hw hS hl => lv_ldcw o.1 o.2.1 o.2.2.2.1 (o.2.2.2.2.1 _ hc) hd (k o H locs ls hw hS hl)
theorem ac_ldc2 {index : Nat} {v : Int64} (hc : Jvm.Cond.constantLong M.2.2 index v ∈ T0_) (hd : decode M.1 pc = .ok (.ldc2_w index, 3)) (k : ac_At M x kc ks (pc + 3) lv (.long v :: st) f) : ac_At M x kc ks pc lv st f := fun o H locs ls hw hS hl => lv_ldc2 o.1 o.2.1 o.2.2.2.1 (o.2.2.2.2.1 _ hc) hd (k o H locs ls hw hS hl)
-- locals
theorem ac_iload_n {k0 : Fin 4} {i : Nat} {v : Int32} (j : Nat) (hd : decode M.1 pc = .ok (.iload_n k0, 1)) (hi : (k0 : Nat) = i) (hj : lv[j]? = some (i, .int v)) (k : ac_At M x kc ks (pc + 1) lv (.int v :: st) f) : ac_At M x kc ks pc lv st f := fun o H locs ls hw hS hl => lv_iload_n o.1 o.2.1 hd hi (lv_at hl j hj) (k o H locs ls hw hS hl)
theorem ac_iload {i : Nat} {v : Int32} (j : Nat) (hd : decode M.1 pc = .ok (.iload i, 2)) (hj : lv[j]? = some (i, .int v)) (k : ac_At M x kc ks (pc + 2) lv (.int v :: st) f) : ac_At M x kc ks pc lv st f := fun o H locs ls hw hS hl => lv_iload o.1 o.2.1 hd (lv_at hl j hj) (k o H locs ls hw hS hl)
theorem ac_lload_n {k0 : Fin 4} {i : Nat} {v : Int64} (j : Nat) (hd : decode M.1 pc = .ok (.lload_n k0, 1)) (hi : (k0 : Nat) = i) (hj : lv[j]? = some (i, .long v)) (k : ac_At M x kc ks (pc + 1) lv (.long v :: st) f) : ac_At M x kc ks pc lv st f := fun o H locs ls hw hS hl => lv_lload_n o.1 o.2.1 hd hi (lv_at hl j hj) (k o H locs ls hw hS hl)
theorem ac_lload {i : Nat} {v : Int64} (j : Nat) (hd : decode M.1 pc = .ok (.lload i, 2)) (hj : lv[j]? = some (i, .long v)) (k : ac_At M x kc ks (pc + 2) lv (.long v :: st) f) : ac_At M x kc ks pc lv st f := fun o H locs ls hw hS hl => lv_lload o.1 o.2.1 hd (lv_at hl j hj) (k o H locs ls hw hS hl)
theorem ac_aload_n {k0 : Fin 4} {i v : Nat} (j : Nat) (hd : decode M.1 pc = .ok (.aload_n k0, 1)) (hi : (k0 : Nat) = i) (hj : lv[j]? = some (i, .ref v)) (k : ac_At M x kc ks (pc + 1) lv (.ref v :: st) f) : ac_At M x kc ks pc lv st f := fun o H locs ls hw hS hl => lv_aload_n o.1 o.2.1 hd hi (lv_at hl j hj) (k o H locs ls hw hS hl)
theorem ac_aload {i v : Nat} (j : Nat) (hd : decode M.1 pc = .ok (.aload i, 2)) (hj : lv[j]? = some (i, .ref v)) (k : ac_At M x kc ks (pc + 2) lv (.ref v :: st) f) : ac_At M x kc ks pc lv st f := fun o H locs ls hw hS hl => lv_aload o.1 o.2.1 hd (lv_at hl j hj) (k o H locs ls hw hS hl)
theorem ac_istore_n {k0 : Fin 4} {i : Nat} {v : Int32} {lv' : List (Nat × Value)} (hd : decode M.1 pc = .ok (.istore_n k0, 1)) (hi : (k0 : Nat) = i) (hn : i < M.2.1) (hl' : (i, Value.int v) :: lv.filter (fun q => !(q.1 == i) && !(q.1 + 1 == i && q.2.category == 2)) = lv') (k : ac_At M x kc ks (pc + 1) lv' st f) : ac_At M x kc ks pc lv (.int v :: st) f := fun o H locs ls hw hS hl => lv_istore_n o.1 o.2.1 hd hi hl hn hl' (fun ls' hl2 => k o H locs ls' hw hS hl2)
theorem ac_istore {i : Nat} {v : Int32} {lv' : List (Nat × Value)} (hd : decode M.1 pc = .ok (.istore i, 2)) (hn : i < M.2.1) (hl' : (i, Value.int v) :: lv.filter (fun q => !(q.1 == i) && !(q.1 + 1 == i && q.2.category == 2)) = lv') (k : ac_At M x kc ks (pc + 2) lv' st f) : ac_At M x kc ks pc lv (.int v :: st) f := fun o H locs ls hw hS hl => lv_istore o.1 o.2.1 hd hl hn hl' (fun ls' hl2 => k o H locs ls' hw hS hl2)
theorem ac_lstore_n {k0 : Fin 4} {i : Nat} {v : Int64} {lv' : List (Nat × Value)} (hd : decode M.1 pc = .ok (.lstore_n k0, 1)) (hi : (k0 : Nat) = i) (hn : i + 1 < M.2.1) (hl' : (i, Value.long v) :: lv.filter (fun q => !(q.1 == i) && (!(q.1 == i + 1) && !(q.1 + 1 == i && q.2.category == 2))) = lv') (k : ac_At M x kc ks (pc + 1) lv' st f) : ac_At M x kc ks pc lv (.long v :: st) f := fun o H locs ls hw hS hl => lv_lstore_n o.1 o.2.1 hd hi hl hn hl' (fun ls' hl2 => k o H locs ls' hw hS hl2)
theorem ac_lstore {i : Nat} {v : Int64} {lv' : List (Nat × Value)} (hd : decode M.1 pc = .ok (.lstore i, 2)) (hn : i + 1 < M.2.1) (hl' : (i, Value.long v) :: lv.filter (fun q => !(q.1 == i) && (!(q.1 == i + 1) && !(q.1 + 1 == i && q.2.category == 2))) = lv') (k : ac_At M x kc ks (pc + 2) lv' st f) : ac_At M x kc ks pc lv (.long v :: st) f := fun o H locs ls hw hS hl => lv_lstore o.1 o.2.1 hd hl hn hl' (fun ls' hl2 => k o H locs ls' hw hS hl2)
theorem ac_astore_n {k0 : Fin 4} {i v : Nat} {lv' : List (Nat × Value)} (hd : decode M.1 pc = .ok (.astore_n k0, 1)) (hi : (k0 : Nat) = i) (hn : i < M.2.1) (hl' : (i, Value.ref v) :: lv.filter (fun q => !(q.1 == i) && !(q.1 + 1 == i && q.2.category == 2)) = lv') (k : ac_At M x kc ks (pc + 1) lv' st f) : ac_At M x kc ks pc lv (.ref v :: st) f := fun o H locs ls hw hS hl => lv_astore_n o.1 o.2.1 hd hi hl hn hl' (fun ls' hl2 => k o H locs ls' hw hS hl2)
theorem ac_astore {i v : Nat} {lv' : List (Nat × Value)} (hd : decode M.1 pc = .ok (.astore i, 2)) (hn : i < M.2.1) (hl' : (i, Value.ref v) :: lv.filter (fun q => !(q.1 == i) && !(q.1 + 1 == i && q.2.category == 2)) = lv') (k : ac_At M x kc ks (pc + 2) lv' st f) : ac_At M x kc ks pc lv (.ref v :: st) f := fun o H locs ls hw hS hl => lv_astore o.1 o.2.1 hd hl hn hl' (fun ls' hl2 => k o H locs ls' hw hS hl2)
theorem ac_iinc {i j : Nat} {n : Int} {v w : Int32} {lv' : List (Nat × Value)} (hd : decode M.1 pc = .ok (.iinc i n, 3)) (hj : lv[j]? = some (i, .int v)) (hv : v + Int32.ofInt n = w) (hn : i < M.2.1) (hl' : (i, Value.int w) :: lv.filter (fun q => !(q.1 == i) && !(q.1 + 1 == i && q.2.category == 2)) = lv') (k : ac_At M x kc ks (pc + 3) lv' st f) : ac_At M x kc ks pc lv st f := fun o H locs ls hw hS hl => lv_iinc o.1 o.2.1 hd hl hj hv hn hl' (fun ls' hl2 => k o H locs ls' hw hS hl2)
-- arithmetic
theorem ac_iadd {a b : Int32} (hd : decode M.1 pc = .ok (.iadd, 1)) (k : ac_At M x kc ks (pc + 1) lv (.int (a + b) :: st) f) : ac_At M x kc ks pc lv (.int b :: .int a :: st) f := fun o H locs ls hw hS hl => lv_iadd o.1 o.2.1 hd (k o H locs ls hw hS hl)
theorem ac_isub {a b : Int32} (hd : decode M.1 pc = .ok (.isub, 1)) (k : ac_At M x kc ks (pc + 1) lv (.int (a - b) :: st) f) : ac_At M x kc ks pc lv (.int b :: .int a :: st) f := fun o H locs ls hw hS hl => lv_isub o.1 o.2.1 hd (k o H locs ls hw hS hl)
theorem ac_imul {a b : Int32} (hd : decode M.1 pc = .ok (.imul, 1)) (k : ac_At M x kc ks (pc + 1) lv (.int (a * b) :: st) f) : ac_At M x kc ks pc lv (.int b :: .int a :: st) f := fun o H locs ls hw hS hl => lv_imul o.1 o.2.1 hd (k o H locs ls hw hS hl)
theorem ac_iand {a b : Int32} (hd : decode M.1 pc = .ok (.iand, 1)) (k : ac_At M x kc ks (pc + 1) lv (.int (a &&& b) :: st) f) : ac_At M x kc ks pc lv (.int b :: .int a :: st) f := fun o H locs ls hw hS hl => lv_iand o.1 o.2.1 hd (k o H locs ls hw hS hl)
theorem ac_ior {a b : Int32} (hd : decode M.1 pc = .ok (.ior, 1)) (k : ac_At M x kc ks (pc + 1) lv (.int (a ||| b) :: st) f) : ac_At M x kc ks pc lv (.int b :: .int a :: st) f := fun o H locs ls hw hS hl => lv_ior o.1 o.2.1 hd (k o H locs ls hw hS hl)
theorem ac_ixor {a b : Int32} (hd : decode M.1 pc = .ok (.ixor, 1)) (k : ac_At M x kc ks (pc + 1) lv (.int (a ^^^ b) :: st) f) : ac_At M x kc ks pc lv (.int b :: .int a :: st) f := fun o H locs ls hw hS hl => lv_ixor o.1 o.2.1 hd (k o H locs ls hw hS hl)
theorem ac_idiv {a b : Int32} (hd : decode M.1 pc = .ok (.idiv, 1)) (hn : ¬ b = 0) (k : ac_At M x kc ks (pc + 1) lv (.int (a / b) :: st) f) : ac_At M x kc ks pc lv (.int b :: .int a :: st) f := fun o H locs ls hw hS hl => lv_idiv o.1 o.2.1 hd hn (k o H locs ls hw hS hl)
theorem ac_irem {a b : Int32} (hd : decode M.1 pc = .ok (.irem, 1)) (hn : ¬ b = 0) (k : ac_At M x kc ks (pc + 1) lv (.int (a - a / b * b) :: st) f) : ac_At M x kc ks pc lv (.int b :: .int a :: st) f := fun o H locs ls hw hS hl => lv_irem o.1 o.2.1 hd hn (k o H locs ls hw hS hl)
theorem ac_ishl {a b : Int32} (hd : decode M.1 pc = .ok (.ishl, 1)) (k : ac_At M x kc ks (pc + 1) lv (.int (a <<< (b &&& 31)) :: st) f) : ac_At M x kc ks pc lv (.int b :: .int a :: st) f := fun o H locs ls hw hS hl => lv_ishl o.1 o.2.1 hd (k o H locs ls hw hS hl)
theorem ac_ishr {a b : Int32} (hd : decode M.1 pc = .ok (.ishr, 1)) (k : ac_At M x kc ks (pc + 1) lv (.int (a >>> (b &&& 31)) :: st) f) : ac_At M x kc ks pc lv (.int b :: .int a :: st) f := fun o H locs ls hw hS hl => lv_ishr o.1 o.2.1 hd (k o H locs ls hw hS hl)
theorem ac_iushr {a b : Int32} (hd : decode M.1 pc = .ok (.iushr, 1)) (k : ac_At M x kc ks (pc + 1) lv (.int (a.toUInt32 >>> (b.toUInt32 &&& Int32.toUInt32 31)).toInt32 :: st) f) : ac_At M x kc ks pc lv (.int b :: .int a :: st) f := fun o H locs ls hw hS hl => lv_iushr o.1 o.2.1 hd rfl (k o H locs ls hw hS hl)
theorem ac_ineg {a : Int32} (hd : decode M.1 pc = .ok (.ineg, 1)) (k : ac_At M x kc ks (pc + 1) lv (.int (-a) :: st) f) : ac_At M x kc ks pc lv (.int a :: st) f := fun o H locs ls hw hS hl => lv_ineg o.1 o.2.1 hd (k o H locs ls hw hS hl)
theorem ac_i2l {a : Int32} (hd : decode M.1 pc = .ok (.i2l, 1)) (k : ac_At M x kc ks (pc + 1) lv (.long a.toInt64 :: st) f) : ac_At M x kc ks pc lv (.int a :: st) f := fun o H locs ls hw hS hl => lv_i2l o.1 o.2.1 hd rfl (k o H locs ls hw hS hl)
theorem ac_l2i {a : Int64} (hd : decode M.1 pc = .ok (.l2i, 1)) (k : ac_At M x kc ks (pc + 1) lv (.int a.toInt32 :: st) f) : ac_At M x kc ks pc lv (.long a :: st) f := fun o H locs ls hw hS hl => lv_l2i o.1 o.2.1 hd rfl (k o H locs ls hw hS hl)
theorem ac_ladd {a b : Int64} (hd : decode M.1 pc = .ok (.ladd, 1)) (k : ac_At M x kc ks (pc + 1) lv (.long (a + b) :: st) f) : ac_At M x kc ks pc lv (.long b :: .long a :: st) f := fun o H locs ls hw hS hl => lv_ladd o.1 o.2.1 hd (k o H locs ls hw hS hl)
theorem ac_lmul {a b : Int64} (hd : decode M.1 pc = .ok (.lmul, 1)) (k : ac_At M x kc ks (pc + 1) lv (.long (a * b) :: st) f) : ac_At M x kc ks pc lv (.long b :: .long a :: st) f := fun o H locs ls hw hS hl => lv_lmul o.1 o.2.1 hd (k o H locs ls hw hS hl)
theorem ac_lcmp {a b : Int64} (hd : decode M.1 pc = .ok (.lcmp, 1)) (k : ac_At M x kc ks (pc + 1) lv (.int (lg_cmp a b) :: st) f) : ac_At M x kc ks pc lv (.long b :: .long a :: st) f := fun o H locs ls hw hS hl => W.lcmp o.1 o.2.1 hd (k o H locs ls hw hS hl)
-- stack
theorem ac_dup {v : Value} (hd : decode M.1 pc = .ok (.dup, 1)) (hv : v.category = 1) (k : ac_At M x kc ks (pc + 1) lv (v :: v :: st) f) : ac_At M x kc ks pc lv (v :: st) f := fun o H locs ls hw hS hl => lv_dup o.1 o.2.1 hd hv (k o H locs ls hw hS hl)
theorem ac_pop {v : Value} (hd : decode M.1 pc = .ok (.pop, 1)) (hv : v.category = 1) (k : ac_At M x kc ks (pc + 1) lv st f) : ac_At M x kc ks pc lv (v :: st) f := fun o H locs ls hw hS hl => lv_pop o.1 o.2.1 hd hv (k o H locs ls hw hS hl)
theorem ac_dup_x1 {v w : Value} (hd : decode M.1 pc = .ok (.dup_x1, 1)) (hv : v.category = 1) (hw' : w.category = 1) (k : ac_At M x kc ks (pc + 1) lv (v :: w :: v :: st) f) : ac_At M x kc ks pc lv (v :: w :: st) f := fun o H locs ls hw hS hl => lv_dup_x1 o.1 o.2.1 hd hv hw' (k o H locs ls hw hS hl)
theorem ac_dup2 {v w : Value} (hd : decode M.1 pc = .ok (.dup2, 1)) (hv : v.category = 1) (hw' : w.category = 1) (k : ac_At M x kc ks (pc + 1) lv (v :: w :: v :: w :: st) f) : ac_At M x kc ks pc lv (v :: w :: st) f := fun o H locs ls hw hS hl => lv_dup2_11 o.1 o.2.1 hd hv hw' (k o H locs ls hw hS hl)
-- branches
theorem ac_goto {off : Int} {tgt : Nat} (hd : decode M.1 pc = .ok (.goto off, 3)) (ht : (pc : Int) + off = (tgt : Int)) (k : ac_At M x kc ks tgt lv st f) : ac_At M x kc ks pc lv st f := fun o H locs ls hw hS hl => lv_goto o.1 o.2.1 hd ht (k o H locs ls hw hS hl)
theorem ac_if_eq {a : Int32} {off : Int} {tgt : Nat} (hd : decode M.1 pc = .ok (.ifCond .eq off, 3)) (ht : (pc : Int) + off = (tgt : Int)) (kt : a = 0 → ac_At M x kc ks tgt lv st f) (kf : ¬ a = 0 → ac_At M x kc ks (pc + 3) lv st f) : ac_At M x kc ks pc lv (.int a :: st) f := fun o H locs ls hw hS hl => lv_if_eq o.1 o.2.1 hd ht (fun h => kt h o H locs ls hw hS hl) (fun h => kf h o H locs ls hw hS hl)
theorem ac_if_ne {a : Int32} {off : Int} {tgt : Nat} (hd : decode M.1 pc = .ok (.ifCond .ne off, 3)) (ht : (pc : Int) + off = (tgt : Int)) (kt : ¬ a = 0 → ac_At M x kc ks tgt lv st f) (kf : a = 0 → ac_At M x kc ks (pc + 3) lv st f) : ac_At M x kc ks pc lv (.int a :: st) f := fun o H locs ls hw hS hl => lv_if_ne o.1 o.2.1 hd ht (fun h => kt h o H locs ls hw hS hl) (fun h => kf h o H locs ls hw hS hl)
theorem ac_if_lt {a : Int32} {off : Int} {tgt : Nat} (hd : decode M.1 pc = .ok (.ifCond .lt off, 3)) (ht : (pc : Int) + off = (tgt : Int)) (kt : a < 0 → ac_At M x kc ks tgt lv st f) (kf : ¬ a < 0 → ac_At M x kc ks (pc + 3) lv st f) : ac_At M x kc ks pc lv (.int a :: st) f := fun o H locs ls hw hS hl => lv_if_lt o.1 o.2.1 hd ht (fun h => kt h o H locs ls hw hS hl) (fun h => kf h o H locs ls hw hS hl)
theorem ac_if_ge {a : Int32} {off : Int} {tgt : Nat} (hd : decode M.1 pc = .ok (.ifCond .ge off, 3)) (ht : (pc : Int) + off = (tgt : Int)) (kt : 0 ≤ a → ac_At M x kc ks tgt lv st f) (kf : ¬ 0 ≤ a → ac_At M x kc ks (pc + 3) lv st f) : ac_At M x kc ks pc lv (.int a :: st) f := fun o H locs ls hw hS hl => lv_if_ge o.1 o.2.1 hd ht (fun h => kt h o H locs ls hw hS hl) (fun h => kf h o H locs ls hw hS hl)
theorem ac_if_gt {a : Int32} {off : Int} {tgt : Nat} (hd : decode M.1 pc = .ok (.ifCond .gt off, 3)) (ht : (pc : Int) + off = (tgt : Int)) (kt : 0 < a → ac_At M x kc ks tgt lv st f) (kf : ¬ 0 < a → ac_At M x kc ks (pc + 3) lv st f) : ac_At M x kc ks pc lv (.int a :: st) f := fun o H locs ls hw hS hl => lv_if_gt o.1 o.2.1 hd ht (fun h => kt h o H locs ls hw hS hl) (fun h => kf h o H locs ls hw hS hl)
theorem ac_if_le {a : Int32} {off : Int} {tgt : Nat} (hd : decode M.1 pc = .ok (.ifCond .le off, 3)) (ht : (pc : Int) + off = (tgt : Int)) (kt : a ≤ 0 → ac_At M x kc ks tgt lv st f) (kf : ¬ a ≤ 0 → ac_At M x kc ks (pc + 3) lv st f) : ac_At M x kc ks pc lv (.int a :: st) f := fun o H locs ls hw hS hl => lv_if_le o.1 o.2.1 hd ht (fun h => kt h o H locs ls hw hS hl) (fun h => kf h o H locs ls hw hS hl)
theorem ac_icmp_eq {a b : Int32} {off : Int} {tgt : Nat} (hd : decode M.1 pc = .ok (.if_icmp .eq off, 3)) (ht : (pc : Int) + off = (tgt : Int)) (kt : a = b → ac_At M x kc ks tgt lv st f) (kf : ¬ a = b → ac_At M x kc ks (pc + 3) lv st f) : ac_At M x kc ks pc lv (.int b :: .int a :: st) f := fun o H locs ls hw hS hl => lv_icmp_eq o.1 o.2.1 hd ht (fun h => kt h o H locs ls hw hS hl) (fun h => kf h o H locs ls hw hS hl)
theorem ac_icmp_ne {a b : Int32} {off : Int} {tgt : Nat} (hd : decode M.1 pc = .ok (.if_icmp .ne off, 3)) (ht : (pc : Int) + off = (tgt : Int)) (kt : ¬ a = b → ac_At M x kc ks tgt lv st f) (kf : a = b → ac_At M x kc ks (pc + 3) lv st f) : ac_At M x kc ks pc lv (.int b :: .int a :: st) f := fun o H locs ls hw hS hl => lv_icmp_ne o.1 o.2.1 hd ht (fun h => kt h o H locs ls hw hS hl) (fun h => kf h o H locs ls hw hS hl)
theorem ac_icmp_lt {a b : Int32} {off : Int} {tgt : Nat} (hd : decode M.1 pc = .ok (.if_icmp .lt off, 3)) (ht : (pc : Int) + off = (tgt : Int)) (kt : a < b → ac_At M x kc ks tgt lv st f) (kf : ¬ a < b → ac_At M x kc ks (pc + 3) lv st f) : ac_At M x kc ks pc lv (.int b :: .int a :: st) f := fun o H locs ls hw hS hl => lv_icmp_lt o.1 o.2.1 hd ht (fun h => kt h o H locs ls hw hS hl) (fun h => kf h o H locs ls hw hS hl)
theorem ac_icmp_ge {a b : Int32} {off : Int} {tgt : Nat} (hd : decode M.1 pc = .ok (.if_icmp .ge off, 3)) (ht : (pc : Int) + off = (tgt : Int)) (kt : b ≤ a → ac_At M x kc ks tgt lv st f) (kf : ¬ b ≤ a → ac_At M x kc ks (pc + 3) lv st f) : ac_At M x kc ks pc lv (.int b :: .int a :: st) f := fun o H locs ls hw hS hl => lv_icmp_ge o.1 o.2.1 hd ht (fun h => kt h o H locs ls hw hS hl) (fun h => kf h o H locs ls hw hS hl)
theorem ac_icmp_gt {a b : Int32} {off : Int} {tgt : Nat} (hd : decode M.1 pc = .ok (.if_icmp .gt off, 3)) (ht : (pc : Int) + off = (tgt : Int)) (kt : b < a → ac_At M x kc ks tgt lv st f) (kf : ¬ b < a → ac_At M x kc ks (pc + 3) lv st f) : ac_At M x kc ks pc lv (.int b :: .int a :: st) f := fun o H locs ls hw hS hl => lv_icmp_gt o.1 o.2.1 hd ht (fun h => kt h o H locs ls hw hS hl) (fun h => kf h o H locs ls hw hS hl)
theorem ac_icmp_le {a b : Int32} {off : Int} {tgt : Nat} (hd : decode M.1 pc = .ok (.if_icmp .le off, 3)) (ht : (pc : Int) + off = (tgt : Int)) (kt : a ≤ b → ac_At M x kc ks tgt lv st f) (kf : ¬ a ≤ b → ac_At M x kc ks (pc + 3) lv st f) : ac_At M x kc ks pc lv (.int b :: .int a :: st) f := fun o H locs ls hw hS hl => lv_icmp_le o.1 o.2.1 hd ht (fun h => kt h o H locs ls hw hS hl) (fun h => kf h o H locs ls hw hS hl)
end AC
/-! fields and arrays -/
/-- own's pool entry index names field k of class number ci -/
def ac_fl (own : String) (index ci k : Nat) : Prop := ∃ (C : String) (T : u_T) (N : Nat), cl_[ci]? = some (C, T, N) ∧ (∀ w ∈ u_ws C T N, w ∈ T0_) ∧ k < N ∧ Cond.fieldLink own index (T k).1 (T k).2.1 (T k).2.2.1 ∈ T0_
/-- .. and may be written: not final, of type ty -/
def ac_fp (own : String) (index ci k : Nat) (ty : FieldType) (fin : Bool) : Prop := ∃ (C : String) (T : u_T) (N : Nat) (ty0 : Nat → FieldType), cl_[ci]? = some (C, T, N) ∧ (∀ w ∈ u_ws C T N, w ∈ T0_) ∧ k < N ∧ Cond.fieldLink own index (T k).1 (T k).2.1 (T k).2.2.1 ∈ T0_ ∧ (∀ k, k < N → parseFieldDescriptor (T k).2.2.1 = some (ty0 k)) ∧ (∀ a, a < N → ∀ b, b < N → a ≠ b → (T a).2.1 ≠ (T b).2.1) ∧ (T k).2.2.2 = fin ∧ parseFieldDescriptor (T k).2.2.1 = some ty ∧ (fin = true → (T k).1 = own)
section AH
variable {M : ac_M} {x : ac_X} {kc ks pc : Nat} {lv : List (Nat × Value)} {st : List Value} {f : ac_hp}
theorem ac_getf {index ci k a : Nat} {fs : List Value} {v : Value} (hl0 : ac_fl M.2.2 index ci k) (hf : f a = some (.inr (ci, fs))) (hv : fs[k]? = some v) (hd : decode M.1 pc = .ok (.getfield index, 3)) (kk : ac_At M x kc ks (pc + 3) lv (v :: st) f) : ac_At M x kc ks pc lv (.ref a :: st) f := by
  intro o H locs ls hw hS hl
  obtain ⟨C, T, N, hc, hin, hk, hlink⟩ := hl0
  obtain ⟨ws, q0, hP, hD, hq, -, -⟩ := ac_get hw hf
  exact va_get o.1 o.2.1 o.2.2.2.2.1 hin o.2.2.2.1 o.2.2.2.2.2.1 hP q0 hq hc k hk (o.2.2.2.2.1 _ hlink) (fun _ h => h) hv hd (kk o H locs ls hw hS hl)
theorem ac_putf {index ci k a : Nat} {fs : List Value} {v : Value} {ty : FieldType} (hl0 : ac_fp M.2.2 index ci k ty false) (hf : f a = some (.inr (ci, fs))) (hlen : k < fs.length) (hn : narrow ty v = v) (hfit : fits ty v = true) (hd : decode M.1 pc = .ok (.putfield index, 3)) (kk : ac_At M x kc ks (pc + 3) lv st (ac_up f a (.inr (ci, fs.set k v)))) : ac_At M x kc ks pc lv (v :: .ref a :: st) f := by
  intro o H locs ls hw hS hl
  obtain ⟨C, T, N, ty0, hc, hin, hk, hlink, hty, hnm, hfin, hpar, -⟩ := hl0
  obtain ⟨ws, q0, hP, hD, hq, hset, -⟩ := ac_get hw hf
  exact va_put o.1 o.2.1 o.2.2.2.2.1 hin ty0 hty hnm o.2.2.2.1 o.2.2.2.2.2.1 hP hD hS q0 hq hc k hk (o.2.2.2.2.1 _ hlink) (fun _ h => h) hfin hpar hn hfit hlen hd (fun H1 locs1 hP1 hD1 hS1 => kk o H1 locs1 ls (hset _ _ hP1 hD1) hS1 hl)
theorem ac_putF {index ci k a : Nat} {fs : List Value} {v : Value} {ty : FieldType} (hl0 : ac_fp M.2.2 index ci k ty true) (hname : (ac_meth x).name = "<init>") (hf : f a = some (.inr (ci, fs))) (hlen : k < fs.length) (hn : narrow ty v = v) (hfit : fits ty v = true) (hd : decode M.1 pc = .ok (.putfield index, 3)) (kk : ac_At M x kc ks (pc + 3) lv st (ac_up f a (.inr (ci, fs.set k v)))) : ac_At M x kc ks pc lv (v :: .ref a :: st) f := by
  intro o H locs ls hw hS hl
  obtain ⟨C, T, N, ty0, hc, hin, hk, hlink, hty, hnm, hfin, hpar, hown⟩ := hl0
  obtain ⟨ws, q0, hP, hD, hq, hset, -⟩ := ac_get hw hf
  exact va_putF o.1 o.2.1 o.2.2.2.2.1 hin ty0 hty hnm o.2.2.2.1 o.2.2.2.2.2.1 hP hD hS q0 hq hc k hk (o.2.2.2.2.1 _ hlink) (fun _ h => h) hfin hname (hown rfl) hpar hn hfit hlen hd (fun H1 locs1 hP1 hD1 hS1 => kk o H1 locs1 ls (hset _ _ hP1 hD1) hS1 hl)
theorem ac_iald {a n t0 : Nat} {g : Nat → Int32} {i : Int32} (ht : (tys_ (ac_ki x))[t0]? = some (ac_ki x t0, .int)) (hf : f a = some (.inl (ac_ki x t0, n, .inl g))) (hin : vp_in i n) (hd : decode M.1 pc = .ok (.iaload, 1)) (kk : ac_At M x kc ks (pc + 1) lv (.int (g i.toNatClampNeg) :: st) f) : ac_At M x kc ks pc lv (.int i :: .ref a :: st) f := by
  intro o H locs ls hw hS hl
  obtain ⟨ws, q0, hP, hD, hq, -, -⟩ := ac_get hw hf
  exact va_iald o.1 o.2.1 o.2.2.2.2.2.1 hP q0 t0 hq ht hin hd (kk o H locs ls hw hS hl)
theorem ac_zald {a n t0 : Nat} {g : Nat → Int32} {i : Int32} (ht : (tys_ (ac_ki x))[t0]? = some (ac_ki x t0, .boolean)) (hf : f a = some (.inl (ac_ki x t0, n, .inl g))) (hin : vp_in i n) (hd : decode M.1 pc = .ok (.baload, 1)) (kk : ac_At M x kc ks (pc + 1) lv (.int (g i.toNatClampNeg) :: st) f) : ac_At M x kc ks pc lv (.int i :: .ref a :: st) f := by
  intro o H locs ls hw hS hl
  obtain ⟨ws, q0, hP, hD, hq, -, -⟩ := ac_get hw hf
  exact va_zald o.1 o.2.1 o.2.2.2.2.2.1 hP q0 t0 hq ht hin hd (kk o H locs ls hw hS hl)
theorem ac_lald {a n t0 : Nat} {g : Nat → Int64} {i : Int32} (ht : (tys_ (ac_ki x))[t0]? = some (ac_ki x t0, .long)) (hf : f a = some (.inl (ac_ki x t0, n, .inr (.inl g)))) (hin : vp_in i n) (hd : decode M.1 pc = .ok (.laload, 1)) (kk : ac_At M x kc ks (pc + 1) lv (.long (g i.toNatClampNeg) :: st) f) : ac_At M x kc ks pc lv (.int i :: .ref a :: st) f := by
  intro o H locs ls hw hS hl
  obtain ⟨ws, q0, hP, hD, hq, -, -⟩ := ac_get hw hf
  exact va_lald o.1 o.2.1 o.2.2.2.2.2.1 hP q0 t0 hq ht hin hd (kk o H locs ls hw hS hl)
theorem ac_aald {a n t0 r : Nat} {g : Nat → Option Nat} {i : Int32} {C : String} (ht : (tys_ (ac_ki x))[t0]? = some (ac_ki x t0, .object C)) (hf : f a = some (.inl (ac_ki x t0, n, .inr (.inr (.inr (.inr g)))))) (hin : vp_in i n) (hg : g i.toNatClampNeg = some r) (hd : decode M.1 pc = .ok (.aaload, 1)) (kk : ac_At M x kc ks (pc + 1) lv (.ref r :: st) f) : ac_At M x kc ks pc lv (.int i :: .ref a :: st) f := by
  intro o H locs ls hw hS hl
  obtain ⟨ws, q0, hP, hD, hq, -, -⟩ := ac_get hw hf
  exact va_aldq o.1 o.2.1 o.2.2.2.2.2.1 hP q0 t0 hq ht hin hd (by rw [hg]; exact kk o H locs ls hw hS hl)
theorem ac_iast {a n t0 : Nat} {g : Nat → Int32} {i v : Int32} (ht : (tys_ (ac_ki x))[t0]? = some (ac_ki x t0, .int)) (hf : f a = some (.inl (ac_ki x t0, n, .inl g))) (hin : vp_in i n) (hd : decode M.1 pc = .ok (.iastore, 1)) (kk : ac_At M x kc ks (pc + 1) lv st (ac_up f a (.inl (ac_ki x t0, n, .inl (upd g i.toNatClampNeg v))))) : ac_At M x kc ks pc lv (.int v :: .int i :: .ref a :: st) f := by
  intro o H locs ls hw hS hl
  obtain ⟨ws, q0, hP, hD, hq, hset, -⟩ := ac_get hw hf
  exact va_iast o.1 o.2.1 o.2.2.2.2.2.1 hP hD hS q0 t0 hq ht hin hd (fun H1 locs1 hP1 hD1 hS1 => kk o H1 locs1 ls (hset _ _ hP1 hD1) hS1 hl)
theorem ac_zast {a n t0 : Nat} {g : Nat → Int32} {i v : Int32} (ht : (tys_ (ac_ki x))[t0]? = some (ac_ki x t0, .boolean)) (hf : f a = some (.inl (ac_ki x t0, n, .inl g))) (hin : vp_in i n) (hd : decode M.1 pc = .ok (.bastore, 1)) (kk : ac_At M x kc ks (pc + 1) lv st (ac_up f a (.inl (ac_ki x t0, n, .inl (upd g i.toNatClampNeg (vp_nar .boolean v)))))) : ac_At M x kc ks pc lv (.int v :: .int i :: .ref a :: st) f := by
  intro o H locs ls hw hS hl
  obtain ⟨ws, q0, hP, hD, hq, hset, -⟩ := ac_get hw hf
  exact va_zast o.1 o.2.1 o.2.2.2.2.2.1 hP hD hS q0 t0 hq ht hin hd (fun H1 locs1 hP1 hD1 hS1 => kk o H1 locs1 ls (hset _ _ hP1 hD1) hS1 hl)
theorem ac_last {a n t0 : Nat} {g : Nat → Int64} {i : Int32} {v : Int64} (ht : (tys_ (ac_ki x))[t0]? = some (ac_ki x t0, .long)) (hf : f a = some (.inl (ac_ki x t0, n, .inr (.inl g)))) (hin : vp_in i n) (hd : decode M.1 pc = .ok (.lastore, 1)) (kk : ac_At M x kc ks (pc + 1) lv st (ac_up f a (.inl (ac_ki x t0, n, .inr (.inl (vp_updL g i.toNatClampNeg v)))))) : ac_At M x kc ks pc lv (.long v :: .int i :: .ref a :: st) f := by
  intro o H locs ls hw hS hl
  obtain ⟨ws, q0, hP, hD, hq, hset, -⟩ := ac_get hw hf
  exact va_last o.1 o.2.1 o.2.2.2.2.2.1 hP hD hS q0 t0 hq ht hin hd (fun H1 locs1 hP1 hD1 hS1 => kk o H1 locs1 ls (hset _ _ hP1 hD1) hS1 hl)
theorem ac_aast {a n t0 v ci : Nat} {g : Nat → Option Nat} {i : Int32} {r : vw_C} {vs : List Value} (ht : (tys_ (ac_ki x))[t0]? = some (ac_ki x t0, .object r.1)) (hc : cl_[ci]? = some r) (hf : f a = some (.inl (ac_ki x t0, n, .inr (.inr (.inr (.inr g)))))) (hv : f v = some (.inr (ci, vs))) (hin : vp_in i n) (hd : decode M.1 pc = .ok (.aastore, 1)) (kk : ac_At M x kc ks (pc + 1) lv st (ac_up f a (.inl (ac_ki x t0, n, .inr (.inr (.inr (.inr (va_up g i.toNatClampNeg (some v))))))))) : ac_At M x kc ks pc lv (.ref v :: .int i :: .ref a :: st) f := by
  intro o H locs ls hw hS hl
  obtain ⟨ws, q0, hP, hD, hq, hset, hall⟩ := ac_get hw hf
  obtain ⟨qk, hqk⟩ := hall v _ hv
  exact va_astq o.1 o.2.1 o.2.2.2.2.2.1 hP hD hS q0 t0 qk ci hq ht hqk hc hin hd (fun H1 locs1 hP1 hD1 hS1 => kk o H1 locs1 ls (hset _ _ hP1 hD1) hS1 hl)
theorem ac_alen {a t0 : Nat} {v : vp_A} {ty : FieldType} (ht : (tys_ (ac_ki x))[t0]? = some (ac_ki x t0, ty)) (hf : f a = some (.inl (ac_ki x t0, v))) (hd : decode M.1 pc = .ok (.arraylength, 1)) (kk : ac_At M x kc ks (pc + 1) lv (.int (Int32.ofNat v.1) :: st) f) : ac_At M x kc ks pc lv (.ref a :: st) f := by
  intro o H locs ls hw hS hl
  obtain ⟨ws, q0, hP, hD, hq, -, -⟩ := ac_get hw hf
  exact va_alen o.1 o.2.1 o.2.2.2.2.2.1 hP q0 t0 hq ht rfl hd (kk o H locs ls hw hS hl)
theorem ac_copyi {index a0 a n0 n1 t0 : Nat} {g0 g1 : Nat → Int32} {sp dp n : Int32} {ty : FieldType} (hlink : Cond.methodLink M.2.2 index arraycopyName ∈ T0_) (hnat : Cond.native arraycopyName ∈ T0_) (hstat : Cond.static arraycopyName ∈ T0_) (hini : Cond.initialized "java/lang/System" ∈ T0_) (ht : (tys_ (ac_ki x))[t0]? = some (ac_ki x t0, ty)) (hprim : refKind ty = false) (hf0 : f a0 = some (.inl (ac_ki x t0, n0, .inl g0))) (hf1 : f a = some (.inl (ac_ki x t0, n1, .inl g1)))
    (h1 : ¬ sp < 0) (h2 : ¬ dp < 0) (h3 : ¬ n < 0) (h4 : sp.toNatClampNeg + n.toNatClampNeg ≤ n0) (h5 : dp.toNatClampNeg + n.toNatClampNeg ≤ n1) (hfit : ∀ i, i < n.toNatClampNeg → fits ty (.int (g0 (sp.toNatClampNeg + i))) = true) (hfr : 1 ≤ (ac_R x).frames) (hlo : (st.map fun v => v.category).sum + (nativeFrameWords "java/lang/System" "arraycopy" 5 + 11) ≤ (ac_R x).locals)
    (hd : decode M.1 pc = .ok (.invokestatic index, 3)) (kk : ac_At M x kc ks (pc + 3) lv st (ac_up f a (.inl (ac_ki x t0, n1, .inl (va_cpy g0 g1 sp.toNatClampNeg dp.toNatClampNeg n.toNatClampNeg))))) : ac_At M x kc ks pc lv (.int n :: .int dp :: .ref a :: .int sp :: .ref a0 :: st) f := by
  intro o H locs ls hw hS hl
  obtain ⟨ws, q1, hP, hD, hq, hset, hall⟩ := ac_get hw hf1
  obtain ⟨q0, hq0⟩ := hall a0 _ hf0
  exact va_copyi o.1 o.2.1 (o.2.2.1.trans hl.1.symm) o.2.2.2.1 (o.2.2.2.2.1 _ hlink) (o.2.2.2.2.1 _ hnat) (o.2.2.2.2.1 _ hstat) (o.2.2.2.2.1 _ hini) o.2.2.2.2.2.1 hP hD hS q0 q1 t0 t0 hq0 hq ht ht hprim h1 h2 h3 h4 h5 hfit hfr hlo hd (fun H1 locs1 hP1 hD1 hS1 => kk o H1 locs1 ls (hset _ _ hP1 hD1) hS1 hl)
theorem ac_copyl {index a0 a n0 n1 t0 : Nat} {g0 g1 : Nat → Int64} {sp dp n : Int32} {ty : FieldType} (hlink : Cond.methodLink M.2.2 index arraycopyName ∈ T0_) (hnat : Cond.native arraycopyName ∈ T0_) (hstat : Cond.static arraycopyName ∈ T0_) (hini : Cond.initialized "java/lang/System" ∈ T0_) (ht : (tys_ (ac_ki x))[t0]? = some (ac_ki x t0, ty)) (hprim : refKind ty = false) (hf0 : f a0 = some (.inl (ac_ki x t0, n0, .inr (.inl g0)))) (hf1 : f a = some (.inl (ac_ki x t0, n1, .inr (.inl g1))))
    (h1 : ¬ sp < 0) (h2 : ¬ dp < 0) (h3 : ¬ n < 0) (h4 : sp.toNatClampNeg + n.toNatClampNeg ≤ n0) (h5 : dp.toNatClampNeg + n.toNatClampNeg ≤ n1) (hfit : ∀ i, i < n.toNatClampNeg → fits ty (.long (g0 (sp.toNatClampNeg + i))) = true) (hfr : 1 ≤ (ac_R x).frames) (hlo : (st.map fun v => v.category).sum + (nativeFrameWords "java/lang/System" "arraycopy" 5 + 11) ≤ (ac_R x).locals)
    (hd : decode M.1 pc = .ok (.invokestatic index, 3)) (kk : ac_At M x kc ks (pc + 3) lv st (ac_up f a (.inl (ac_ki x t0, n1, .inr (.inl (va_cpy g0 g1 sp.toNatClampNeg dp.toNatClampNeg n.toNatClampNeg)))))) : ac_At M x kc ks pc lv (.int n :: .int dp :: .ref a :: .int sp :: .ref a0 :: st) f := by
  intro o H locs ls hw hS hl
  obtain ⟨ws, q1, hP, hD, hq, hset, hall⟩ := ac_get hw hf1
  obtain ⟨q0, hq0⟩ := hall a0 _ hf0
  exact va_copyl o.1 o.2.1 (o.2.2.1.trans hl.1.symm) o.2.2.2.1 (o.2.2.2.2.1 _ hlink) (o.2.2.2.2.1 _ hnat) (o.2.2.2.2.1 _ hstat) (o.2.2.2.2.1 _ hini) o.2.2.2.2.2.1 hP hD hS q0 q1 t0 t0 hq0 hq ht ht hprim h1 h2 h3 h4 h5 hfit hfr hlo hd (fun H1 locs1 hP1 hD1 hS1 => kk o H1 locs1 ls (hset _ _ hP1 hD1) hS1 hl)
end AH
/-! new cells, returns, calls, a method's start -/
theorem ac_ra_inj {U : State} {c1 c2 : ClassId} {ty : FieldType} (h1 : va_RA U c1 ty) (h2 : va_RA U c2 ty) : c1 = c2 := by
  cases ty with
  | object C =>
    obtain ⟨-, -, -, -, -, e1⟩ := h1
    obtain ⟨-, -, -, -, -, e2⟩ := h2
    exact Option.some.inj (e1.symm.trans e2)
  | _ => exact Option.some.inj (Eq.trans (Eq.symm h1) h2)
theorem ac_kadd {D : va_G} {tys : List (ClassId × FieldType)} {U : State} {c1 c2 : ClassId} {ty : FieldType} {t0 : Nat} (h : va_K D cl_ (tys ++ [(c2, ty)]) U) (ht : tys[t0]? = some (c1, ty)) : c2 = c1 := by
  have hlt : t0 < tys.length := (List.getElem?_eq_some_iff.mp ht).1
  have h1 := (h.2 t0 (c1, ty) (by rw [List.getElem?_append_left hlt]; exact ht)).2
  have h2 := (h.2 tys.length (c2, ty) (by rw [List.getElem?_append_right (Nat.le_refl _), Nat.sub_self]; rfl)).2
  exact ac_ra_inj h2 h1
/-- own's pool entry index names class number ci, which can be made; dv: its fields' first values -/
def ac_cn (own : String) (index ci N : Nat) (dv : List Value) : Prop := ∃ (C : String) (T : u_T) (ty : Nat → FieldType), cl_[ci]? = some (C, T, N) ∧ (∀ w ∈ u_ws C T N, w ∈ T0_) ∧ (∀ k, k < N → parseFieldDescriptor (T k).2.2.1 = some (ty k)) ∧ Cond.classLink own index C ∈ T0_ ∧ Cond.instantiable C N ∈ T0_ ∧ Cond.initialized C ∈ T0_ ∧ ∀ j, j < N → defaultValue (ty j) = vp_V dv j
section AN
variable {M : ac_M} {x : ac_X} {kc ks pc : Nat} {lv : List (Nat × Value)} {st : List Value} {f : ac_hp}
theorem ac_newo {index ci N : Nat} {dv : List Value} (hl0 : ac_cn M.2.2 index ci N dv) (h1 : kc + 1 ≤ (ac_R x).cells) (h2 : ks + N ≤ (ac_R x).slots) (hd : decode M.1 pc = .ok (.new index, 3)) (kk : ∀ q, f q = none → ac_At M x (kc + 1) (ks + N) (pc + 3) lv (.ref q :: st) (ac_up f q (.inr (ci, dv)))) : ac_At M x kc ks pc lv st f := by
  intro o H locs ls hw hS hl
  obtain ⟨C, T, ty, hc, hin, hty, hcl, hinst, hini, hdv⟩ := hl0
  obtain ⟨ws, hP, hD, hnew⟩ := ac_new hw
  exact va_new o.1 o.2.1 o.2.2.2.2.1 hin ty hty o.2.2.2.1 (o.2.2.2.2.1 _ hcl) (o.2.2.2.2.1 _ hinst) (o.2.2.2.2.1 _ hini) o.2.2.2.2.2.1 hP hD hS o.2.2.2.2.2.2.2 hc hdv h1 h2 hd (fun q H1 hP1 hD1 hS1 => kk q (hnew q _ H1 hP1 hD1).1 o H1 locs ls (hnew q _ H1 hP1 hD1).2 hS1 hl)
theorem ac_newa {at0 : ArrayType} {ty : FieldType} {t0 N : Nat} {n : Int32} {a0 : vp_A} (harr : Cond.arrayClass ty ∈ T0_) (hty : newarray.typeOf at0 = ty) (ht : (tys_ (ac_ki x))[t0]? = some (ac_ki x t0, ty)) (ha : ∀ cA : ClassId, vp_cell cA a0 = arrV cA N (fun _ => defaultValue ty)) (hn : ¬ n < 0) (hN : n.toNatClampNeg = N) (hb : N * componentBytes ty ≤ 536870912) (h1 : kc + 1 ≤ (ac_R x).cells) (h2 : ks + N ≤ (ac_R x).slots) (hd : decode M.1 pc = .ok (.newarray at0, 2)) (kk : ∀ q, f q = none → ac_At M x (kc + 1) (ks + N) (pc + 2) lv (.ref q :: st) (ac_up f q (.inl (ac_ki x t0, a0)))) : ac_At M x kc ks pc lv (.int n :: st) f := by
  intro o H locs ls hw hS hl
  obtain ⟨ws, hP, hD, hnew⟩ := ac_new hw
  subst hty
  exact va_newa o.1 o.2.1 (o.2.2.2.2.1 _ harr) rfl o.2.2.2.2.2.1 hP hD hS o.2.2.2.2.2.2.2 ha hn hN hb h1 h2 hd (fun q cA H1 hK1 hP1 hD1 hS1 => by
    have e := ac_kadd hK1 ht
    subst e
    exact kk q (hnew q _ H1 hP1 hD1).1 o H1 locs ls (hnew q _ H1 hP1 hD1).2 hS1 hl)
theorem ac_newq {index t0 N : Nat} {C : String} {n : Int32} (hcl : Cond.classLink M.2.2 index C ∈ T0_) (hao : C ∈ AO_) (ht : (tys_ (ac_ki x))[t0]? = some (ac_ki x t0, .object C)) (hn : ¬ n < 0) (hN : n.toNatClampNeg = N) (hb : N * 4 ≤ 536870912) (h1 : kc + 1 ≤ (ac_R x).cells) (h2 : ks + N ≤ (ac_R x).slots) (hd : decode M.1 pc = .ok (.anewarray index, 3)) (kk : ∀ q, f q = none → ac_At M x (kc + 1) (ks + N) (pc + 3) lv (.ref q :: st) (ac_up f q (.inl (ac_ki x t0, N, .inr (.inr (.inr (.inr (fun _ => none)))))))) : ac_At M x kc ks pc lv (.int n :: st) f := by
  intro o H locs ls hw hS hl
  obtain ⟨ws, hP, hD, hnew⟩ := ac_new hw
  exact va_newq o.1 o.2.1 o.2.2.2.1 (o.2.2.2.2.1 _ hcl) (o.2.2.2.2.2.2.1.2 C hao) o.2.2.2.2.2.1 hP hD hS o.2.2.2.2.2.2.2 hn hN hb h1 h2 hd (fun q cA H1 hK1 hP1 hD1 hS1 => by
    have e := ac_kadd hK1 ht
    subst e
    exact kk q (hnew q _ H1 hP1 hD1).1 o H1 locs ls (hnew q _ H1 hP1 hD1).2 hS1 hl)
/-- what a return must show: Qr answer world -/
def ac_rt (x : ac_X) (ret : Option FieldType) (Qr : Option Value → ac_hp → Prop) (mc ms : Nat) : Prop :=
  (ac_meth x).sig.returnType = ret ∧ (ac_meth x).locks = false ∧ ∃ (Qc : Array Value → State → Outcome → State → Prop) (free : Addr → Prop), x.2.2.2 = MQ x.2.1.2.2.1 Qc (ac_args x) (ac_s x) mc ms free ∧ (∀ q, ac_AA x q → free q) ∧ ∀ (v : Option Value) (f : ac_hp) (H : Heap) (locs : List Loc) (t : State), Qr v f → ac_wd (ac_D x) (ac_AA x) f H → va_S (ac_AA x) (ac_s x).heap H locs → t.heap = H → Qc (ac_args x) (ac_s x) (.returned v) t
theorem ac_ireturn {Qr : Option Value → ac_hp → Prop} {mc ms : Nat} {v : Int32} {ty : FieldType} (hR : ac_rt x (some ty) Qr mc ms) (hnar : narrow ty (.int v) = .int v) (hq : Qr (some (.int v)) f) (h1 : kc ≤ mc) (h2 : ks ≤ ms) (hd : decode M.1 pc = .ok (.ireturn, 1)) : ac_At M x kc ks pc lv [.int v] f := by
  intro o H locs ls hw hS hl
  obtain ⟨hr, hlk, Qc, free, hQ, hf, hret⟩ := hR
  rw [hQ]
  refine W.widen h1 h2 ?_
  exact W.zret o.1 o.2.1 hr hnar (fun t ht hW => hret _ _ _ _ _ hq hw hS ht) (fun q hq => hf _ (hS.2.2 q hq)) hd hlk
theorem ac_lreturn {Qr : Option Value → ac_hp → Prop} {mc ms : Nat} {v : Int64} (hR : ac_rt x (some .long) Qr mc ms) (hq : Qr (some (.long v)) f) (h1 : kc ≤ mc) (h2 : ks ≤ ms) (hd : decode M.1 pc = .ok (.lreturn, 1)) : ac_At M x kc ks pc lv [.long v] f := by
  intro o H locs ls hw hS hl
  obtain ⟨hr, hlk, Qc, free, hQ, hf, hret⟩ := hR
  rw [hQ]
  refine W.widen h1 h2 ?_
  exact W.lret o.1 o.2.1 hr (fun t ht hW => hret _ _ _ _ _ hq hw hS ht) (fun q hq => hf _ (hS.2.2 q hq)) hd hlk
theorem ac_vreturn {Qr : Option Value → ac_hp → Prop} {mc ms : Nat} (hR : ac_rt x none Qr mc ms) (hq : Qr none f) (h1 : kc ≤ mc) (h2 : ks ≤ ms) (hd : decode M.1 pc = .ok (.return_, 1)) : ac_At M x kc ks pc lv [] f := by
  intro o H locs ls hw hS hl
  obtain ⟨hr, hlk, Qc, free, hQ, hf, hret⟩ := hR
  rw [hQ]
  refine W.widen h1 h2 ?_
  exact W.vret o.1 o.2.1 hr (fun t ht hW => hret _ _ _ _ _ hq hw hS ht) (fun q hq => hf _ (hS.2.2 q hq)) hd hlk
theorem ac_areturn {Qr : Option Value → ac_hp → Prop} {mc ms v : Nat} {rt : FieldType} (hR : ac_rt x (some rt) Qr mc ms) (hrt : (∃ n, rt = .object n) ∨ ∃ t, rt = .array t) (hq : Qr (some (.ref v)) f) (h1 : kc ≤ mc) (h2 : ks ≤ ms) (hd : decode M.1 pc = .ok (.areturn, 1)) : ac_At M x kc ks pc lv [.ref v] f := by
  intro o H locs ls hw hS hl
  obtain ⟨hr, hlk, Qc, free, hQ, hf, hret⟩ := hR
  rw [hQ]
  refine W.widen h1 h2 ?_
  exact W.aret o.1 o.2.1 hr hrt (Or.inr ⟨v, rfl⟩) (fun t ht hW => hret _ _ _ _ _ hq hw hS ht) (fun q hq => hf _ (hS.2.2 q hq)) hd hlk
/-- a contract's start: the world f, whole -/
def ac_Pc (D : va_G) (ki : Nat → ClassId) (av : List Value) (f : ac_hp) (sz : Nat) : Array Value → State → Prop := fun v U => v = av.toArray ∧ U.heap.size = sz ∧ ac_wd D (fun _ => True) f U.heap ∧ va_K D cl_ (tys_ ki) U ∧ ac_nw U
/-- .. and its end -/
def ac_Qc (D : va_G) (Qr : Option Value → ac_hp → Prop) (f : ac_hp) (sz : Nat) : Array Value → State → Outcome → State → Prop := fun _ st oc t => ∃ (v : Option Value) (f' : ac_hp), oc = .returned v ∧ Qr v f' ∧ ac_wd D (ac_A f sz) f' t.heap ∧ va_F (ac_A f sz) st t
def ac_w (y : MethodName) (cc : ByteArray) (maxL : Nat) (ret : Option FieldType) : List Cond := Cond.code y cc maxL ret :: T0_
def ac_met (l : Launch) (D : va_G) (ki : Nat → ClassId) (y : MethodName) (cc : ByteArray) (maxL : Nat) (ret : Option FieldType) (rm : Room) (av : List Value) (f : ac_hp) (Qr : Option Value → ac_hp → Prop) (mc ms : Nat) : Prop := ∀ sz, Met l y (ac_w y cc maxL ret) rm (ac_Pc D ki av f sz) (ac_Qc D Qr f sz) mc ms (ac_A f sz)
theorem ac_pc_blind {D : va_G} {ki : Nat → ClassId} {av : List Value} {f : ac_hp} {sz : Nat} : FrameBlind (ac_Pc D ki av f sz) := fun a U g mk h => ⟨h.1, h.2.1, h.2.2.1, va_K.moved (u := U) (U := U.calling g mk a) (Vm.Alike.refl U.vm) h.2.2.2.1, ac_nw.same rfl h.2.2.2.2⟩
/-- behind a call -/
theorem ac_after {H : Heap} {locs : List Loc} {ls : Array Slot} {mc ms : Nat} {rest st0 : List Value} {a : Array Value} {Qr : Option Value → ac_hp → Prop} (o : ac_ok M x) (hw : ac_wd (ac_D x) (ac_AA x) f H) (hS : va_S (ac_AA x) (ac_s x).heap H locs) (hl : lv_has ls M.2.1 lv)
    (hr : va_Run x.1.1 x.1.2.1 x.1.2.2.1 x.1.2.2.2.1 x.1.2.2.2.2 x.2.1.1 x.2.1.2.1 x.2.1.2.2.1 x.2.1.2.2.2.1 x.2.1.2.2.2.2 H locs kc ks mc ms (F0 x.2.1.1 pc ls st0) rest (ac_Qc (ac_D x) Qr f H.size a) (ac_A f H.size))
    (kk : ∀ v f', Qr v f' → ac_At M x (kc + mc) (ks + ms) (pc + 3) lv (v.toList ++ rest) f') : W x.1.1 x.1.2.1 x.1.2.2.1 x.1.2.2.2.1 x.1.2.2.2.2 x.2.1.1 x.2.1.2.1 x.2.1.2.2.1 x.2.1.2.2.2.1 x.2.1.2.2.2.2 H locs kc ks x.2.2.2 (F0 x.2.1.1 pc ls st0) := by
  intro T hT X
  obtain ⟨v, st₀, t, T', L, h0, X', hL, e1, e2, ⟨v', f', hv, hq, hwd, hz, hk⟩, st⟩ := hr T hT X
  cases hv
  rw [h0] at hz hk
  have hsub : ∀ q, ac_A f H.size q → ac_AA x q := fun q h => by
    rcases h with ⟨e, he⟩ | h
    · exact hw.inA he
    · exact o.2.2.2.2.2.2.2 q (Nat.le_trans hS.1 h)
  obtain ⟨t2, a1, b1⟩ := kk v f' hq o T'.heap (locs ++ L) ls (by rw [e1]; exact hwd.weak hsub)
    ⟨Nat.le_trans hS.1 (by rw [e1]; exact hz), fun q h1 h2 => by rw [e1, hk q (Nat.lt_of_lt_of_le h1 hS.1) (fun z => h2 (hsub q z))]; exact hS.2.1 q h1 h2, fun q hq => by
      rcases List.mem_append.mp hq with h | h
      · exact hS.2.2 q h
      · exact hsub _ (hL q h)⟩ hl T' rfl X'
  exact ⟨t2, st t2 a1, b1⟩
/-- what the tables say of a callee -/
def ac_cd (y : MethodName) (cc : ByteArray) (maxL : Nat) (ret : Option FieldType) (n : Nat) : Prop := Cond.code y cc maxL ret ∈ T0_ ∧ Cond.initialized y.cls ∈ T0_ ∧ (y.cls ≠ "java/lang/invoke/MethodHandle" ∧ y.cls ≠ "java/lang/invoke/VarHandle" ∧ (parseMethodDescriptor y.desc).map (fun d => d.parameters.length) = some n)
theorem ac_ws_good {y : MethodName} {cc : ByteArray} {maxL : Nat} {ret : Option FieldType} (h : Cond.code y cc maxL ret ∈ T0_) : GoodIn T0_ (ac_w y cc maxL ret) := by
  intro w hw
  rcases List.mem_cons.mp hw with rfl | hw
  · exact ⟨h, T0_good _ h⟩
  · exact ⟨hw, T0_good _ hw⟩
theorem ac_callS {y : MethodName} {cc : ByteArray} {maxL n index mc ms : Nat} {ret : Option FieldType} {rm : Room} {As rest : List Value} {Qr : Option Value → ac_hp → Prop} (hc : ac_cd y cc maxL ret n) (hlink : Cond.methodLink M.2.2 index y ∈ T0_) (hstat : Cond.static y ∈ T0_) (hM : ac_met (ac_l x) (ac_D x) (ac_ki x) y cc maxL ret rm As f Qr mc ms) (hrc : rm.cells = mc) (hrs : rm.slots = ms) (hR : rm.frames + 1 ≤ (ac_R x).frames ∧ 8 + (maxL + 11) + rm.locals ≤ (ac_R x).locals) (hn : As.length = n) (hst : st = As.reverse ++ rest) (hW : (rest.map fun v => v.category).sum ≤ 8) (hf : kc + mc ≤ (ac_R x).cells ∧ ks + ms ≤ (ac_R x).slots) (hd : decode M.1 pc = .ok (.invokestatic index, 3))
    (kk : ∀ v f', Qr v f' → ac_At M x (kc + mc) (ks + ms) (pc + 3) lv (v.toList ++ rest) f') : ac_At M x kc ks pc lv st f := by
  intro o H locs ls hw hS hl
  refine ac_after o hw hS hl (va_runS (As := As) (n := n) ⟨o.1, o.2.1, o.2.2.1, o.2.2.2.1, o.2.2.2.2.1⟩ (hM H.size) ⟨callB_of n o.2.2.2.2.1 (ac_ws_good hc.1) rfl hrc hrs (o.2.2.2.2.1 _ hc.2.1) (o.2.2.2.2.1 _ hlink) hc.2.2 hR, o.2.2.2.2.1 _ hstat⟩ ⟨ac_pc_blind, fun U hU hW' => ⟨rfl, by rw [hU], by rw [hU]; exact hw.weak (fun _ _ => trivial), va_K.moved hW'.alike o.2.2.2.2.2.1, ac_nw.warm hW' o.2.2.2.2.2.2.1⟩⟩ rfl hn hl.1 hst (lv_room hW) hd hf) kk
theorem ac_callV {y : MethodName} {cc : ByteArray} {maxL n index mc ms b ci : Nat} {ret : Option FieldType} {rm : Room} {As rest fs : List Value} {r : vw_C} {Qr : Option Value → ac_hp → Prop} (hc : ac_cd y cc maxL ret n) (hlink : Cond.methodLink M.2.2 index y ∈ T0_) (hinst : Cond.instanceMethod y ∈ T0_) (hsel : Cond.selects r.1 y y ∈ T0_) (hr : cl_[ci]? = some r) (hb : f b = some (.inr (ci, fs))) (hM : ac_met (ac_l x) (ac_D x) (ac_ki x) y cc maxL ret rm (.ref b :: As) f Qr mc ms) (hrc : rm.cells = mc) (hrs : rm.slots = ms) (hR : rm.frames + 1 ≤ (ac_R x).frames ∧ 8 + (maxL + 11) + rm.locals ≤ (ac_R x).locals) (hn : As.length = n) (hst : st = As.reverse ++ .ref b :: rest) (hW : (rest.map fun v => v.category).sum ≤ 8) (hf : kc + mc ≤ (ac_R x).cells ∧ ks + ms ≤ (ac_R x).slots) (hd : decode M.1 pc = .ok (.invokevirtual index, 3))
    (kk : ∀ v f', Qr v f' → ac_At M x (kc + mc) (ks + ms) (pc + 3) lv (v.toList ++ rest) f') : ac_At M x kc ks pc lv st f := by
  intro o H locs ls hw hS hl
  obtain ⟨ws, q0, hP, hD, hq, -, -⟩ := ac_get hw hb
  refine ac_after o hw hS hl (va_runV (As := As) (n := n) (C := r.1) ⟨o.1, o.2.1, o.2.2.1, o.2.2.2.1, o.2.2.2.2.1⟩ (hM H.size) ⟨callB_of n o.2.2.2.2.1 (ac_ws_good hc.1) rfl hrc hrs (o.2.2.2.2.1 _ hc.2.1) (o.2.2.2.2.1 _ hlink) hc.2.2 hR, o.2.2.2.2.1 _ hinst, o.2.2.2.2.1 _ hsel⟩ ⟨ac_pc_blind, va_recv o.2.2.2.2.2.1 hP hr hq, fun U hU hW' => ⟨rfl, by rw [hU], by rw [hU]; exact hw.weak (fun _ _ => trivial), va_K.moved hW'.alike o.2.2.2.2.2.1, ac_nw.warm hW' o.2.2.2.2.2.2.1⟩⟩ rfl hn hl.1 hst (lv_room hW) hd hf) kk
theorem ac_callI {y : MethodName} {cc : ByteArray} {maxL n index mc ms b : Nat} {rm : Room} {As rest : List Value} {Qr : Option Value → ac_hp → Prop} (hc : ac_cd y cc maxL none n) (hlink : Cond.methodLink M.2.2 index y ∈ T0_) (hinst : Cond.instanceMethod y ∈ T0_) (hy1 : y.name = "<init>") (hM : ac_met (ac_l x) (ac_D x) (ac_ki x) y cc maxL none rm (.ref b :: As) f Qr mc ms) (hrc : rm.cells = mc) (hrs : rm.slots = ms) (hR : rm.frames + 1 ≤ (ac_R x).frames ∧ 8 + (maxL + 11) + rm.locals ≤ (ac_R x).locals) (hn : As.length = n) (hst : st = As.reverse ++ .ref b :: rest) (hW : (rest.map fun v => v.category).sum ≤ 8) (hf : kc + mc ≤ (ac_R x).cells ∧ ks + ms ≤ (ac_R x).slots) (hd : decode M.1 pc = .ok (.invokespecial index, 3))
    (kk : ∀ v f', Qr v f' → ac_At M x (kc + mc) (ks + ms) (pc + 3) lv (v.toList ++ rest) f') : ac_At M x kc ks pc lv st f := by
  intro o H locs ls hw hS hl
  refine ac_after o hw hS hl (va_runI (As := As) (n := n) ⟨o.1, o.2.1, o.2.2.1, o.2.2.2.1, o.2.2.2.2.1⟩ (hM H.size) ⟨callB_of n o.2.2.2.2.1 (ac_ws_good hc.1) rfl hrc hrs (o.2.2.2.2.1 _ hc.2.1) (o.2.2.2.2.1 _ hlink) hc.2.2 hR, hy1, o.2.2.2.2.1 _ hinst⟩ ⟨ac_pc_blind, fun U hU hW' => ⟨rfl, by rw [hU], by rw [hU]; exact hw.weak (fun _ _ => trivial), va_K.moved hW'.alike o.2.2.2.2.2.1, ac_nw.warm hW' o.2.2.2.2.2.2.1⟩⟩ rfl hn hl.1 hst (lv_room hW) hd hf) kk
-- the same between nest mates
theorem ac_cn_of {y : MethodName} {cc : ByteArray} {maxL n index mc ms : Nat} {ret : Option FieldType} {rm : Room} {host : String} (o : ac_ok M x) (hc : ac_cd y cc maxL ret n) (hlink : (M.2.2, index, y, host) ∈ NM_) (hrc : rm.cells = mc) (hrs : rm.slots = ms) (hR : rm.frames + 1 ≤ (ac_R x).frames ∧ 8 + (maxL + 11) + rm.locals ≤ (ac_R x).locals) : va_CN (ac_R x) (ac_s x) (ac_args x) M.2.2 index y host cc maxL ret (ac_w y cc maxL ret) rm mc ms n :=
  va_cnB n o.2.2.2.2.1 (ac_ws_good hc.1) rfl hrc hrs (o.2.2.2.2.2.2.1.1 _ hlink) (o.2.2.2.2.1 _ hc.2.1) hc.2.2 hR
theorem ac_callSN {y : MethodName} {cc : ByteArray} {maxL n index mc ms : Nat} {ret : Option FieldType} {rm : Room} {host : String} {As rest : List Value} {Qr : Option Value → ac_hp → Prop} (hc : ac_cd y cc maxL ret n) (hlink : (M.2.2, index, y, host) ∈ NM_) (hstat : Cond.static y ∈ T0_) (hM : ac_met (ac_l x) (ac_D x) (ac_ki x) y cc maxL ret rm As f Qr mc ms) (hrc : rm.cells = mc) (hrs : rm.slots = ms) (hR : rm.frames + 1 ≤ (ac_R x).frames ∧ 8 + (maxL + 11) + rm.locals ≤ (ac_R x).locals) (hn : As.length = n) (hst : st = As.reverse ++ rest) (hW : (rest.map fun v => v.category).sum ≤ 8) (hf : kc + mc ≤ (ac_R x).cells ∧ ks + ms ≤ (ac_R x).slots) (hd : decode M.1 pc = .ok (.invokestatic index, 3))
    (kk : ∀ v f', Qr v f' → ac_At M x (kc + mc) (ks + ms) (pc + 3) lv (v.toList ++ rest) f') : ac_At M x kc ks pc lv st f := by
  intro o H locs ls hw hS hl
  refine ac_after o hw hS hl (va_runSN (As := As) (n := n) ⟨o.1, o.2.1, o.2.2.1, o.2.2.2.1, o.2.2.2.2.1⟩ (hM H.size) ⟨ac_cn_of o hc hlink hrc hrs hR, o.2.2.2.2.1 _ hstat, trivial⟩ ⟨ac_pc_blind, fun U hU hW' => ⟨rfl, by rw [hU], by rw [hU]; exact hw.weak (fun _ _ => trivial), va_K.moved hW'.alike o.2.2.2.2.2.1, ac_nw.warm hW' o.2.2.2.2.2.2.1⟩⟩ rfl hn hl.1 hst (lv_room hW) hd hf) kk
theorem ac_callVN {y : MethodName} {cc : ByteArray} {maxL n index mc ms b ci : Nat} {ret : Option FieldType} {rm : Room} {host : String} {As rest fs : List Value} {r : vw_C} {Qr : Option Value → ac_hp → Prop} (hc : ac_cd y cc maxL ret n) (hlink : (M.2.2, index, y, host) ∈ NM_) (hinst : Cond.instanceMethod y ∈ T0_) (hsel : Cond.selects r.1 y y ∈ T0_) (hr : cl_[ci]? = some r) (hb : f b = some (.inr (ci, fs))) (hM : ac_met (ac_l x) (ac_D x) (ac_ki x) y cc maxL ret rm (.ref b :: As) f Qr mc ms) (hrc : rm.cells = mc) (hrs : rm.slots = ms) (hR : rm.frames + 1 ≤ (ac_R x).frames ∧ 8 + (maxL + 11) + rm.locals ≤ (ac_R x).locals) (hn : As.length = n) (hst : st = As.reverse ++ .ref b :: rest) (hW : (rest.map fun v => v.category).sum ≤ 8) (hf : kc + mc ≤ (ac_R x).cells ∧ ks + ms ≤ (ac_R x).slots) (hd : decode M.1 pc = .ok (.invokevirtual index, 3))
    (kk : ∀ v f', Qr v f' → ac_At M x (kc + mc) (ks + ms) (pc + 3) lv (v.toList ++ rest) f') : ac_At M x kc ks pc lv st f := by
  intro o H locs ls hw hS hl
  obtain ⟨ws, q0, hP, hD, hq, -, -⟩ := ac_get hw hb
  refine ac_after o hw hS hl (va_runVN (As := As) (n := n) (C := r.1) ⟨o.1, o.2.1, o.2.2.1, o.2.2.2.1, o.2.2.2.2.1⟩ (hM H.size) ⟨ac_cn_of o hc hlink hrc hrs hR, o.2.2.2.2.1 _ hinst, o.2.2.2.2.1 _ hsel⟩ ⟨ac_pc_blind, va_recv o.2.2.2.2.2.1 hP hr hq, fun U hU hW' => ⟨rfl, by rw [hU], by rw [hU]; exact hw.weak (fun _ _ => trivial), va_K.moved hW'.alike o.2.2.2.2.2.1, ac_nw.warm hW' o.2.2.2.2.2.2.1⟩⟩ rfl hn hl.1 hst (lv_room hW) hd hf) kk
theorem ac_callIN {y : MethodName} {cc : ByteArray} {maxL n index mc ms b : Nat} {rm : Room} {host : String} {As rest : List Value} {Qr : Option Value → ac_hp → Prop} (hc : ac_cd y cc maxL none n) (hlink : (M.2.2, index, y, host) ∈ NM_) (hinst : Cond.instanceMethod y ∈ T0_) (hy1 : y.name = "<init>") (hM : ac_met (ac_l x) (ac_D x) (ac_ki x) y cc maxL none rm (.ref b :: As) f Qr mc ms) (hrc : rm.cells = mc) (hrs : rm.slots = ms) (hR : rm.frames + 1 ≤ (ac_R x).frames ∧ 8 + (maxL + 11) + rm.locals ≤ (ac_R x).locals) (hn : As.length = n) (hst : st = As.reverse ++ .ref b :: rest) (hW : (rest.map fun v => v.category).sum ≤ 8) (hf : kc + mc ≤ (ac_R x).cells ∧ ks + ms ≤ (ac_R x).slots) (hd : decode M.1 pc = .ok (.invokespecial index, 3))
    (kk : ∀ v f', Qr v f' → ac_At M x (kc + mc) (ks + ms) (pc + 3) lv (v.toList ++ rest) f') : ac_At M x kc ks pc lv st f := by
  intro o H locs ls hw hS hl
  refine ac_after o hw hS hl (va_runIN (As := As) (n := n) ⟨o.1, o.2.1, o.2.2.1, o.2.2.2.1, o.2.2.2.2.1⟩ (hM H.size) ⟨ac_cn_of o hc hlink hrc hrs hR, hy1, o.2.2.2.2.1 _ hinst⟩ ⟨ac_pc_blind, fun U hU hW' => ⟨rfl, by rw [hU], by rw [hU]; exact hw.weak (fun _ _ => trivial), va_K.moved hW'.alike o.2.2.2.2.2.1, ac_nw.warm hW' o.2.2.2.2.2.2.1⟩⟩ rfl hn hl.1 hst (lv_room hW) hd hf) kk
theorem ac_objInit {index a : Nat} (hlink : Cond.methodLink M.2.2 index objectInit ∈ T0_) (hinst : Cond.instanceMethod objectInit ∈ T0_) (hcode : Cond.code objectInit ⟨#[0xb1]⟩ 1 none ∈ T0_) (hfr : 1 ≤ (ac_R x).frames) (hlo : (st.map fun v => v.category).sum + 12 ≤ (ac_R x).locals) (hd : decode M.1 pc = .ok (.invokespecial index, 3)) (kk : ac_At M x kc ks (pc + 3) lv st f) : ac_At M x kc ks pc lv (.ref a :: st) f := by
  intro o H locs ls hw hS hl
  refine W.objInit o.1 o.2.1 o.2.2.2.1 (o.2.2.2.2.1 _ hlink) (o.2.2.2.2.1 _ hinst) (o.2.2.2.2.1 _ hcode) rfl (hl.1.trans o.2.2.1.symm) rfl hd hfr (by show 2 * (0 : Nat) + _ + 12 ≤ _; simpa using hlo) ?_
  exact kk o H locs ls hw hS hl
end AN
/-- a method's contract out of the walk of its body -/
theorem ac_enter {l : Launch} {D : va_G} {ki : Nat → ClassId} {y : MethodName} {cc : ByteArray} {maxL mc ms : Nat} {ret : Option FieldType} {rm : Room} {av : List Value} {f : ac_hp} {Qr : Option Value → ac_hp → Prop} (P : (Nat → ClassId) → Prop) (hy : plainName y.cls = true) (hav : (lg_sl av).length ≤ maxL) (h : P ki)
    (body : ∀ x : ac_X, ac_R x = rm → ac_rt x ret Qr mc ms → (ac_meth x).name = y.name → P (ac_ki x) → ac_At (cc, maxL, y.cls) x 0 0 0 (lv_args 0 av) [] f) : ac_met l D ki y cc maxL ret rm av f Qr mc ms := by
  intro sz
  refine Met.ofW (cc := cc) (maxL := maxL) (ret := ret) hy rfl ?_
  intro p e s m args below meth c s₁ B hml hv
  obtain ⟨rfl, hsz, hw, hK, hN⟩ := hv
  have hts := atoms_spec (ws := ac_w y cc maxL ret) B.pre
  have hown : s.vm.findClass y.cls = some m.cls := findClass_of_methodNamed B.named
  subst hsz
  have hl := lv_entry av (n := maxL) hav
  rw [lg_entry_eq]
  refine body ((p, l, e, rm, s), (m, av.toArray, below, meth, c), (D, ki, ac_A f s.heap.size), MQ below (ac_Qc D Qr f s.heap.size) av.toArray s mc ms (ac_A f s.heap.size)) rfl ⟨B.returns, B.notSynchronized, _, _, rfl, fun _ h => h, fun v f' H locs t hq hwd hS ht => ⟨v, f', rfl, hq, by rw [ht]; exact hwd, hS.F ht⟩⟩ (name_of_methodNamed B.named B.method).1 h
    ⟨B.exec, B.bytes, hml, hown, fun w hw => hts w (List.mem_cons_of_mem _ hw), hK, hN, fun q hq => Or.inr hq⟩ s.heap [] _ hw.self va_S.rf hl
/-- a method of the JDK's: its contract out of the walk of its body -/
theorem ac_enterF {l : Launch} {D : va_G} {ki : Nat → ClassId} {y : MethodName} {cc : ByteArray} {maxL mc ms : Nat} {ret : Option FieldType} {rm : Room} {av : List Value} {f : ac_hp} {Qr : Option Value → ac_hp → Prop} (P : (Nat → ClassId) → Prop) (hy : plainFor y = true) (hav : (lg_sl av).length ≤ maxL) (h : P ki)
    (body : ∀ x : ac_X, ac_R x = rm → ac_rt x ret Qr mc ms → (ac_meth x).name = y.name → P (ac_ki x) → ac_At (cc, maxL, y.cls) x 0 0 0 (lv_args 0 av) [] f) : ac_met l D ki y cc maxL ret rm av f Qr mc ms := by
  intro sz
  refine va_MetF (cc := cc) (maxL := maxL) (ret := ret) hy rfl ?_
  intro p e s m args below meth c s₁ B hml hv
  obtain ⟨rfl, hsz, hw, hK, hN⟩ := hv
  have hts := atoms_spec (ws := ac_w y cc maxL ret) B.pre
  have hown : s.vm.findClass y.cls = some m.cls := findClass_of_methodNamed B.named
  subst hsz
  have hl := lv_entry av (n := maxL) hav
  rw [lg_entry_eq]
  refine body ((p, l, e, rm, s), (m, av.toArray, below, meth, c), (D, ki, ac_A f s.heap.size), MQ below (ac_Qc D Qr f s.heap.size) av.toArray s mc ms (ac_A f s.heap.size)) rfl ⟨B.returns, B.notSynchronized, _, _, rfl, fun _ h => h, fun v f' H locs t hq hwd hS ht => ⟨v, f', rfl, hq, by rw [ht]; exact hwd, hS.F ht⟩⟩ (name_of_methodNamed B.named B.method).1 h
    ⟨B.exec, B.bytes, hml, hown, fun w hw => hts w (List.mem_cons_of_mem _ hw), hK, hN, fun q hq => Or.inr hq⟩ s.heap [] _ hw.self va_S.rf hl
/-! the words of the printed pictures: a read, a write, by what the world's map says -/
def hr_f (f : ac_hp) (a ci k : Nat) (v : Value) : Prop := ∃ fs, f a = some (.inr (ci, fs)) ∧ fs[k]? = some v
def hw_f (f : ac_hp) (a ci k : Nat) (v : Value) (f' : ac_hp) : Prop := ∃ fs, f a = some (.inr (ci, fs)) ∧ k < fs.length ∧ f' = ac_up f a (.inr (ci, fs.set k v))
def hr_o (f : ac_hp) (a ci : Nat) : Prop := ∃ fs, f a = some (.inr (ci, fs))
def hr_i (c : ClassId) (f : ac_hp) (a : Nat) (i v : Int32) : Prop := ∃ n g, f a = some (.inl (c, n, .inl g)) ∧ vp_in i n ∧ v = g i.toNatClampNeg
def hw_i (c : ClassId) (f : ac_hp) (a : Nat) (i v : Int32) (f' : ac_hp) : Prop := ∃ n g, f a = some (.inl (c, n, .inl g)) ∧ vp_in i n ∧ f' = ac_up f a (.inl (c, n, .inl (upd g i.toNatClampNeg v)))
def hr_l (c : ClassId) (f : ac_hp) (a : Nat) (i : Int32) (v : Int64) : Prop := ∃ n g, f a = some (.inl (c, n, .inr (.inl g))) ∧ vp_in i n ∧ v = g i.toNatClampNeg
def hw_l (c : ClassId) (f : ac_hp) (a : Nat) (i : Int32) (v : Int64) (f' : ac_hp) : Prop := ∃ n g, f a = some (.inl (c, n, .inr (.inl g))) ∧ vp_in i n ∧ f' = ac_up f a (.inl (c, n, .inr (.inl (vp_updL g i.toNatClampNeg v))))
def hr_q (c : ClassId) (f : ac_hp) (a : Nat) (i : Int32) (r : Nat) : Prop := ∃ n g, f a = some (.inl (c, n, .inr (.inr (.inr (.inr g))))) ∧ vp_in i n ∧ g i.toNatClampNeg = some r
def hw_q (c : ClassId) (ci : Nat) (f : ac_hp) (a : Nat) (i : Int32) (r : Nat) (f' : ac_hp) : Prop := ∃ n g vs, f a = some (.inl (c, n, .inr (.inr (.inr (.inr g))))) ∧ f r = some (.inr (ci, vs)) ∧ vp_in i n ∧ f' = ac_up f a (.inl (c, n, .inr (.inr (.inr (.inr (va_up g i.toNatClampNeg (some r)))))))
def hr_n (c : ClassId) (f : ac_hp) (a : Nat) (v : Int32) : Prop := ∃ w : vp_A, f a = some (.inl (c, w)) ∧ v = Int32.ofNat w.1
def hw_c (c : ClassId) (f : ac_hp) (a0 : Nat) (sp : Int32) (a : Nat) (dp n : Int32) (f' : ac_hp) : Prop := ∃ n0 n1 g0 g1, f a0 = some (.inl (c, n0, .inl g0)) ∧ f a = some (.inl (c, n1, .inl g1)) ∧ ¬ sp < 0 ∧ ¬ dp < 0 ∧ ¬ n < 0 ∧ sp.toNatClampNeg + n.toNatClampNeg ≤ n0 ∧ dp.toNatClampNeg + n.toNatClampNeg ≤ n1 ∧ f' = ac_up f a (.inl (c, n1, .inl (va_cpy g0 g1 sp.toNatClampNeg dp.toNatClampNeg n.toNatClampNeg)))
def hw_d (c : ClassId) (f : ac_hp) (a0 : Nat) (sp : Int32) (a : Nat) (dp n : Int32) (f' : ac_hp) : Prop := ∃ n0 n1 g0 g1, f a0 = some (.inl (c, n0, .inr (.inl g0))) ∧ f a = some (.inl (c, n1, .inr (.inl g1))) ∧ ¬ sp < 0 ∧ ¬ dp < 0 ∧ ¬ n < 0 ∧ sp.toNatClampNeg + n.toNatClampNeg ≤ n0 ∧ dp.toNatClampNeg + n.toNatClampNeg ≤ n1 ∧ f' = ac_up f a (.inl (c, n1, .inr (.inl (va_cpy g0 g1 sp.toNatClampNeg dp.toNatClampNeg n.toNatClampNeg))))
section AK
variable {M : ac_M} {x : ac_X} {kc ks pc : Nat} {lv : List (Nat × Value)} {st : List Value} {f : ac_hp}
theorem ak_topi {a : Int32} (k : ∀ y : Int32, y = a → ac_At M x kc ks pc lv (.int y :: st) f) : ac_At M x kc ks pc lv (.int a :: st) f := k a rfl
theorem ak_topl {a : Int64} (k : ∀ y : Int64, y = a → ac_At M x kc ks pc lv (.long y :: st) f) : ac_At M x kc ks pc lv (.long a :: st) f := k a rfl
theorem ak_getf {index ci k a : Nat} {v : Value} (hr : hr_f f a ci k v) (hl0 : ac_fl M.2.2 index ci k) (hd : decode M.1 pc = .ok (.getfield index, 3)) (kk : ac_At M x kc ks (pc + 3) lv (v :: st) f) : ac_At M x kc ks pc lv (.ref a :: st) f := by
  obtain ⟨fs, h1, h2⟩ := hr
  exact ac_getf hl0 h1 h2 hd kk
theorem ak_putf {index ci k a : Nat} {v : Value} {ty : FieldType} {f' : ac_hp} (hr : hw_f f a ci k v f') (hl0 : ac_fp M.2.2 index ci k ty false) (hn : narrow ty v = v) (hfit : fits ty v = true) (hd : decode M.1 pc = .ok (.putfield index, 3)) (kk : ac_At M x kc ks (pc + 3) lv st f') : ac_At M x kc ks pc lv (v :: .ref a :: st) f := by
  obtain ⟨fs, h1, h2, rfl⟩ := hr
  exact ac_putf hl0 h1 h2 hn hfit hd kk
theorem ak_putF {index ci k a : Nat} {v : Value} {ty : FieldType} {f' : ac_hp} (hr : hw_f f a ci k v f') (hl0 : ac_fp M.2.2 index ci k ty true) (hname : (ac_meth x).name = "<init>") (hn : narrow ty v = v) (hfit : fits ty v = true) (hd : decode M.1 pc = .ok (.putfield index, 3)) (kk : ac_At M x kc ks (pc + 3) lv st f') : ac_At M x kc ks pc lv (v :: .ref a :: st) f := by
  obtain ⟨fs, h1, h2, rfl⟩ := hr
  exact ac_putF hl0 hname h1 h2 hn hfit hd kk
theorem ak_iald {a : Nat} {i v : Int32} (t0 : Nat) (hr : hr_i (ac_ki x t0) f a i v) (ht : (tys_ (ac_ki x))[t0]? = some (ac_ki x t0, .int)) (hd : decode M.1 pc = .ok (.iaload, 1)) (kk : ac_At M x kc ks (pc + 1) lv (.int v :: st) f) : ac_At M x kc ks pc lv (.int i :: .ref a :: st) f := by
  obtain ⟨n, g, h1, h2, rfl⟩ := hr
  exact ac_iald ht h1 h2 hd kk
theorem ak_zald {a : Nat} {i v : Int32} (t0 : Nat) (hr : hr_i (ac_ki x t0) f a i v) (ht : (tys_ (ac_ki x))[t0]? = some (ac_ki x t0, .boolean)) (hd : decode M.1 pc = .ok (.baload, 1)) (kk : ac_At M x kc ks (pc + 1) lv (.int v :: st) f) : ac_At M x kc ks pc lv (.int i :: .ref a :: st) f := by
  obtain ⟨n, g, h1, h2, rfl⟩ := hr
  exact ac_zald ht h1 h2 hd kk
theorem ak_lald {a : Nat} {i : Int32} {v : Int64} (t0 : Nat) (hr : hr_l (ac_ki x t0) f a i v) (ht : (tys_ (ac_ki x))[t0]? = some (ac_ki x t0, .long)) (hd : decode M.1 pc = .ok (.laload, 1)) (kk : ac_At M x kc ks (pc + 1) lv (.long v :: st) f) : ac_At M x kc ks pc lv (.int i :: .ref a :: st) f := by
  obtain ⟨n, g, h1, h2, rfl⟩ := hr
  exact ac_lald ht h1 h2 hd kk
theorem ak_aald {a r : Nat} {i : Int32} {C : String} (t0 : Nat) (hr : hr_q (ac_ki x t0) f a i r) (ht : (tys_ (ac_ki x))[t0]? = some (ac_ki x t0, .object C)) (hd : decode M.1 pc = .ok (.aaload, 1)) (kk : ac_At M x kc ks (pc + 1) lv (.ref r :: st) f) : ac_At M x kc ks pc lv (.int i :: .ref a :: st) f := by
  obtain ⟨n, g, h1, h2, h3⟩ := hr
  exact ac_aald ht h1 h2 h3 hd kk
theorem ak_iast {a : Nat} {i v : Int32} {f' : ac_hp} (t0 : Nat) (hr : hw_i (ac_ki x t0) f a i v f') (ht : (tys_ (ac_ki x))[t0]? = some (ac_ki x t0, .int)) (hd : decode M.1 pc = .ok (.iastore, 1)) (kk : ac_At M x kc ks (pc + 1) lv st f') : ac_At M x kc ks pc lv (.int v :: .int i :: .ref a :: st) f := by
  obtain ⟨n, g, h1, h2, rfl⟩ := hr
  exact ac_iast ht h1 h2 hd kk
theorem ak_zast {a : Nat} {i v : Int32} {f' : ac_hp} (t0 : Nat) (hr : hw_i (ac_ki x t0) f a i (vp_nar .boolean v) f') (ht : (tys_ (ac_ki x))[t0]? = some (ac_ki x t0, .boolean)) (hd : decode M.1 pc = .ok (.bastore, 1)) (kk : ac_At M x kc ks (pc + 1) lv st f') : ac_At M x kc ks pc lv (.int v :: .int i :: .ref a :: st) f := by
  obtain ⟨n, g, h1, h2, rfl⟩ := hr
  exact ac_zast ht h1 h2 hd kk
theorem ak_last {a : Nat} {i : Int32} {v : Int64} {f' : ac_hp} (t0 : Nat) (hr : hw_l (ac_ki x t0) f a i v f') (ht : (tys_ (ac_ki x))[t0]? = some (ac_ki x t0, .long)) (hd : decode M.1 pc = .ok (.lastore, 1)) (kk : ac_At M x kc ks (pc + 1) lv st f') : ac_At M x kc ks pc lv (.long v :: .int i :: .ref a :: st) f := by
  obtain ⟨n, g, h1, h2, rfl⟩ := hr
  exact ac_last ht h1 h2 hd kk
theorem ak_aast {a v ci : Nat} {i : Int32} {r : vw_C} {f' : ac_hp} (t0 : Nat) (hr : hw_q (ac_ki x t0) ci f a i v f') (ht : (tys_ (ac_ki x))[t0]? = some (ac_ki x t0, .object r.1)) (hc : cl_[ci]? = some r) (hd : decode M.1 pc = .ok (.aastore, 1)) (kk : ac_At M x kc ks (pc + 1) lv st f') : ac_At M x kc ks pc lv (.ref v :: .int i :: .ref a :: st) f := by
  obtain ⟨n, g, vs, h1, h2, h3, rfl⟩ := hr
  exact ac_aast ht hc h1 h2 h3 hd kk
theorem ak_alen {a : Nat} {v : Int32} {ty : FieldType} (t0 : Nat) (hr : hr_n (ac_ki x t0) f a v) (ht : (tys_ (ac_ki x))[t0]? = some (ac_ki x t0, ty)) (hd : decode M.1 pc = .ok (.arraylength, 1)) (kk : ac_At M x kc ks (pc + 1) lv (.int v :: st) f) : ac_At M x kc ks pc lv (.ref a :: st) f := by
  obtain ⟨w, h1, rfl⟩ := hr
  exact ac_alen ht h1 hd kk
theorem ak_copyi {index a0 a : Nat} {sp dp n : Int32} {f' : ac_hp} (t0 : Nat) (hr : hw_c (ac_ki x t0) f a0 sp a dp n f') (hlink : Cond.methodLink M.2.2 index arraycopyName ∈ T0_) (hnat : Cond.native arraycopyName ∈ T0_) (hstat : Cond.static arraycopyName ∈ T0_) (hini : Cond.initialized "java/lang/System" ∈ T0_) (ht : (tys_ (ac_ki x))[t0]? = some (ac_ki x t0, .int)) (hfr : 1 ≤ (ac_R x).frames) (hlo : (st.map fun v => v.category).sum + (nativeFrameWords "java/lang/System" "arraycopy" 5 + 11) ≤ (ac_R x).locals)
    (hd : decode M.1 pc = .ok (.invokestatic index, 3)) (kk : ac_At M x kc ks (pc + 3) lv st f') : ac_At M x kc ks pc lv (.int n :: .int dp :: .ref a :: .int sp :: .ref a0 :: st) f := by
  obtain ⟨n0, n1, g0, g1, h1, h2, h3, h4, h5, h6, h7, rfl⟩ := hr
  exact ac_copyi hlink hnat hstat hini ht rfl h1 h2 h3 h4 h5 h6 h7 (fun _ _ => rfl) hfr hlo hd kk
theorem ak_copyl {index a0 a : Nat} {sp dp n : Int32} {f' : ac_hp} (t0 : Nat) (hr : hw_d (ac_ki x t0) f a0 sp a dp n f') (hlink : Cond.methodLink M.2.2 index arraycopyName ∈ T0_) (hnat : Cond.native arraycopyName ∈ T0_) (hstat : Cond.static arraycopyName ∈ T0_) (hini : Cond.initialized "java/lang/System" ∈ T0_) (ht : (tys_ (ac_ki x))[t0]? = some (ac_ki x t0, .long)) (hfr : 1 ≤ (ac_R x).frames) (hlo : (st.map fun v => v.category).sum + (nativeFrameWords "java/lang/System" "arraycopy" 5 + 11) ≤ (ac_R x).locals)
    (hd : decode M.1 pc = .ok (.invokestatic index, 3)) (kk : ac_At M x kc ks (pc + 3) lv st f') : ac_At M x kc ks pc lv (.int n :: .int dp :: .ref a :: .int sp :: .ref a0 :: st) f := by
  obtain ⟨n0, n1, g0, g1, h1, h2, h3, h4, h5, h6, h7, rfl⟩ := hr
  exact ac_copyl hlink hnat hstat hini ht rfl h1 h2 h3 h4 h5 h6 h7 (fun _ _ => rfl) hfr hlo hd kk
end AK
/-! answers by their kinds; calls of methods that make nothing; rooms by levels -/
def ro_ (k mc ms : Nat) : Room := { frames := k, cells := mc, slots := ms, locals := 64 * k }
def qr_I (Q : Int32 → ac_hp → Prop) : Option Value → ac_hp → Prop := fun v f => ∃ r : Int32, v = some (.int r) ∧ Q r f
def qr_J (Q : Int64 → ac_hp → Prop) : Option Value → ac_hp → Prop := fun v f => ∃ r : Int64, v = some (.long r) ∧ Q r f
def qr_R (Q : Nat → ac_hp → Prop) : Option Value → ac_hp → Prop := fun v f => ∃ r : Nat, v = some (.ref r) ∧ Q r f
def qr_V (Q : ac_hp → Prop) : Option Value → ac_hp → Prop := fun v f => v = none ∧ Q f
section AQ
variable {M : ac_M} {x : ac_X} {kc ks pc : Nat} {lv : List (Nat × Value)} {st rest : List Value} {f : ac_hp}
theorem ac_I {Q : Int32 → ac_hp → Prop} (kk : ∀ r f', Q r f' → ac_At M x kc ks pc lv (.int r :: rest) f') : ∀ v f', qr_I Q v f' → ac_At M x kc ks pc lv (v.toList ++ rest) f' := by
  rintro v f' ⟨r, rfl, h⟩
  exact kk r f' h
theorem ac_J {Q : Int64 → ac_hp → Prop} (kk : ∀ r f', Q r f' → ac_At M x kc ks pc lv (.long r :: rest) f') : ∀ v f', qr_J Q v f' → ac_At M x kc ks pc lv (v.toList ++ rest) f' := by
  rintro v f' ⟨r, rfl, h⟩
  exact kk r f' h
theorem ac_Rf {Q : Nat → ac_hp → Prop} (kk : ∀ r f', Q r f' → ac_At M x kc ks pc lv (.ref r :: rest) f') : ∀ v f', qr_R Q v f' → ac_At M x kc ks pc lv (v.toList ++ rest) f' := by
  rintro v f' ⟨r, rfl, h⟩
  exact kk r f' h
theorem ac_V {Q : ac_hp → Prop} (kk : ∀ f', Q f' → ac_At M x kc ks pc lv rest f') : ∀ v f', qr_V Q v f' → ac_At M x kc ks pc lv (v.toList ++ rest) f' := by
  rintro v f' ⟨rfl, h⟩
  exact kk f' h
theorem ac_callS0 {y : MethodName} {cc : ByteArray} {maxL n index : Nat} {ret : Option FieldType} {rm : Room} {As : List Value} {Qr : Option Value → ac_hp → Prop} (hc : ac_cd y cc maxL ret n) (hlink : Cond.methodLink M.2.2 index y ∈ T0_) (hstat : Cond.static y ∈ T0_) (hM : ac_met (ac_l x) (ac_D x) (ac_ki x) y cc maxL ret rm As f Qr 0 0) (hrc : rm.cells = 0) (hrs : rm.slots = 0) (hR : rm.frames + 1 ≤ (ac_R x).frames ∧ 8 + (maxL + 11) + rm.locals ≤ (ac_R x).locals) (hn : As.length = n) (hst : st = As.reverse ++ rest) (hW : (rest.map fun v => v.category).sum ≤ 8) (hf : kc + 0 ≤ (ac_R x).cells ∧ ks + 0 ≤ (ac_R x).slots) (hd : decode M.1 pc = .ok (.invokestatic index, 3))
    (kk : ∀ v f', Qr v f' → ac_At M x kc ks (pc + 3) lv (v.toList ++ rest) f') : ac_At M x kc ks pc lv st f := ac_callS hc hlink hstat hM hrc hrs hR hn hst hW hf hd kk
theorem ac_callV0 {y : MethodName} {cc : ByteArray} {maxL n index b ci : Nat} {ret : Option FieldType} {rm : Room} {As fs : List Value} {r : vw_C} {Qr : Option Value → ac_hp → Prop} (hc : ac_cd y cc maxL ret n) (hlink : Cond.methodLink M.2.2 index y ∈ T0_) (hinst : Cond.instanceMethod y ∈ T0_) (hsel : Cond.selects r.1 y y ∈ T0_) (hr : cl_[ci]? = some r) (hb : f b = some (.inr (ci, fs))) (hM : ac_met (ac_l x) (ac_D x) (ac_ki x) y cc maxL ret rm (.ref b :: As) f Qr 0 0) (hrc : rm.cells = 0) (hrs : rm.slots = 0) (hR : rm.frames + 1 ≤ (ac_R x).frames ∧ 8 + (maxL + 11) + rm.locals ≤ (ac_R x).locals) (hn : As.length = n) (hst : st = As.reverse ++ .ref b :: rest) (hW : (rest.map fun v => v.category).sum ≤ 8) (hf : kc + 0 ≤ (ac_R x).cells ∧ ks + 0 ≤ (ac_R x).slots) (hd : decode M.1 pc = .ok (.invokevirtual index, 3))
    (kk : ∀ v f', Qr v f' → ac_At M x kc ks (pc + 3) lv (v.toList ++ rest) f') : ac_At M x kc ks pc lv st f := ac_callV hc hlink hinst hsel hr hb hM hrc hrs hR hn hst hW hf hd kk
theorem ac_callI0 {y : MethodName} {cc : ByteArray} {maxL n index b : Nat} {rm : Room} {As : List Value} {Qr : Option Value → ac_hp → Prop} (hc : ac_cd y cc maxL none n) (hlink : Cond.methodLink M.2.2 index y ∈ T0_) (hinst : Cond.instanceMethod y ∈ T0_) (hy1 : y.name = "<init>") (hM : ac_met (ac_l x) (ac_D x) (ac_ki x) y cc maxL none rm (.ref b :: As) f Qr 0 0) (hrc : rm.cells = 0) (hrs : rm.slots = 0) (hR : rm.frames + 1 ≤ (ac_R x).frames ∧ 8 + (maxL + 11) + rm.locals ≤ (ac_R x).locals) (hn : As.length = n) (hst : st = As.reverse ++ .ref b :: rest) (hW : (rest.map fun v => v.category).sum ≤ 8) (hf : kc + 0 ≤ (ac_R x).cells ∧ ks + 0 ≤ (ac_R x).slots) (hd : decode M.1 pc = .ok (.invokespecial index, 3))
    (kk : ∀ v f', Qr v f' → ac_At M x kc ks (pc + 3) lv (v.toList ++ rest) f') : ac_At M x kc ks pc lv st f := ac_callI hc hlink hinst hy1 hM hrc hrs hR hn hst hW hf hd kk
theorem ac_callSN0 {y : MethodName} {cc : ByteArray} {maxL n index : Nat} {ret : Option FieldType} {rm : Room} {host : String} {As : List Value} {Qr : Option Value → ac_hp → Prop} (hc : ac_cd y cc maxL ret n) (hlink : (M.2.2, index, y, host) ∈ NM_) (hstat : Cond.static y ∈ T0_) (hM : ac_met (ac_l x) (ac_D x) (ac_ki x) y cc maxL ret rm As f Qr 0 0) (hrc : rm.cells = 0) (hrs : rm.slots = 0) (hR : rm.frames + 1 ≤ (ac_R x).frames ∧ 8 + (maxL + 11) + rm.locals ≤ (ac_R x).locals) (hn : As.length = n) (hst : st = As.reverse ++ rest) (hW : (rest.map fun v => v.category).sum ≤ 8) (hf : kc + 0 ≤ (ac_R x).cells ∧ ks + 0 ≤ (ac_R x).slots) (hd : decode M.1 pc = .ok (.invokestatic index, 3))
    (kk : ∀ v f', Qr v f' → ac_At M x kc ks (pc + 3) lv (v.toList ++ rest) f') : ac_At M x kc ks pc lv st f := ac_callSN hc hlink hstat hM hrc hrs hR hn hst hW hf hd kk
theorem ac_callVN0 {y : MethodName} {cc : ByteArray} {maxL n index b ci : Nat} {ret : Option FieldType} {rm : Room} {host : String} {As fs : List Value} {r : vw_C} {Qr : Option Value → ac_hp → Prop} (hc : ac_cd y cc maxL ret n) (hlink : (M.2.2, index, y, host) ∈ NM_) (hinst : Cond.instanceMethod y ∈ T0_) (hsel : Cond.selects r.1 y y ∈ T0_) (hr : cl_[ci]? = some r) (hb : f b = some (.inr (ci, fs))) (hM : ac_met (ac_l x) (ac_D x) (ac_ki x) y cc maxL ret rm (.ref b :: As) f Qr 0 0) (hrc : rm.cells = 0) (hrs : rm.slots = 0) (hR : rm.frames + 1 ≤ (ac_R x).frames ∧ 8 + (maxL + 11) + rm.locals ≤ (ac_R x).locals) (hn : As.length = n) (hst : st = As.reverse ++ .ref b :: rest) (hW : (rest.map fun v => v.category).sum ≤ 8) (hf : kc + 0 ≤ (ac_R x).cells ∧ ks + 0 ≤ (ac_R x).slots) (hd : decode M.1 pc = .ok (.invokevirtual index, 3))
    (kk : ∀ v f', Qr v f' → ac_At M x kc ks (pc + 3) lv (v.toList ++ rest) f') : ac_At M x kc ks pc lv st f := ac_callVN hc hlink hinst hsel hr hb hM hrc hrs hR hn hst hW hf hd kk
theorem ac_callIN0 {y : MethodName} {cc : ByteArray} {maxL n index b : Nat} {rm : Room} {host : String} {As : List Value} {Qr : Option Value → ac_hp → Prop} (hc : ac_cd y cc maxL none n) (hlink : (M.2.2, index, y, host) ∈ NM_) (hinst : Cond.instanceMethod y ∈ T0_) (hy1 : y.name = "<init>") (hM : ac_met (ac_l x) (ac_D x) (ac_ki x) y cc maxL none rm (.ref b :: As) f Qr 0 0) (hrc : rm.cells = 0) (hrs : rm.slots = 0) (hR : rm.frames + 1 ≤ (ac_R x).frames ∧ 8 + (maxL + 11) + rm.locals ≤ (ac_R x).locals) (hn : As.length = n) (hst : st = As.reverse ++ .ref b :: rest) (hW : (rest.map fun v => v.category).sum ≤ 8) (hf : kc + 0 ≤ (ac_R x).cells ∧ ks + 0 ≤ (ac_R x).slots) (hd : decode M.1 pc = .ok (.invokespecial index, 3))
    (kk : ∀ v f', Qr v f' → ac_At M x kc ks (pc + 3) lv (v.toList ++ rest) f') : ac_At M x kc ks pc lv st f := ac_callIN hc hlink hinst hy1 hM hrc hrs hR hn hst hW hf hd kk
end AQ
end
section
abbrev y_X0_init : MethodName := ⟨"VirtualRewrite", "<init>", "()V"⟩
theorem d_X0_init_0 : decode prog_1_method_1_code 0 = .ok (.aload_n 0, 1) := by decide +kernel
theorem d_X0_init_1 : decode prog_1_method_1_code 1 = .ok (.invokespecial 3, 3) := by decide +kernel
theorem d_X0_init_4 : decode prog_1_method_1_code 4 = .ok (.aload_n 0, 1) := by decide +kernel
theorem d_X0_init_5 : decode prog_1_method_1_code 5 = .ok (.new 9, 3) := by decide +kernel
theorem d_X0_init_8 : decode prog_1_method_1_code 8 = .ok (.dup, 1) := by decide +kernel
theorem d_X0_init_9 : decode prog_1_method_1_code 9 = .ok (.invokespecial 11, 3) := by decide +kernel
theorem d_X0_init_12 : decode prog_1_method_1_code 12 = .ok (.putfield 12, 3) := by decide +kernel
theorem d_X0_init_15 : decode prog_1_method_1_code 15 = .ok (.aload_n 0, 1) := by decide +kernel
theorem d_X0_init_16 : decode prog_1_method_1_code 16 = .ok (.new 16, 3) := by decide +kernel
theorem d_X0_init_19 : decode prog_1_method_1_code 19 = .ok (.dup, 1) := by decide +kernel
theorem d_X0_init_20 : decode prog_1_method_1_code 20 = .ok (.invokespecial 18, 3) := by decide +kernel
theorem d_X0_init_23 : decode prog_1_method_1_code 23 = .ok (.putfield 19, 3) := by decide +kernel
theorem d_X0_init_26 : decode prog_1_method_1_code 26 = .ok (.aload_n 0, 1) := by decide +kernel
theorem d_X0_init_27 : decode prog_1_method_1_code 27 = .ok (.new 23, 3) := by decide +kernel
theorem d_X0_init_30 : decode prog_1_method_1_code 30 = .ok (.dup, 1) := by decide +kernel
theorem d_X0_init_31 : decode prog_1_method_1_code 31 = .ok (.aload_n 0, 1) := by decide +kernel
theorem d_X0_init_32 : decode prog_1_method_1_code 32 = .ok (.getfield 12, 3) := by decide +kernel
theorem d_X0_init_35 : decode prog_1_method_1_code 35 = .ok (.aload_n 0, 1) := by decide +kernel
theorem d_X0_init_36 : decode prog_1_method_1_code 36 = .ok (.getfield 19, 3) := by decide +kernel
theorem d_X0_init_39 : decode prog_1_method_1_code 39 = .ok (.invokespecial 25, 3) := by decide +kernel
theorem d_X0_init_42 : decode prog_1_method_1_code 42 = .ok (.putfield 28, 3) := by decide +kernel
theorem d_X0_init_45 : decode prog_1_method_1_code 45 = .ok (.aload_n 0, 1) := by decide +kernel
theorem d_X0_init_46 : decode prog_1_method_1_code 46 = .ok (.new 32, 3) := by decide +kernel
theorem d_X0_init_49 : decode prog_1_method_1_code 49 = .ok (.dup, 1) := by decide +kernel
theorem d_X0_init_50 : decode prog_1_method_1_code 50 = .ok (.aload_n 0, 1) := by decide +kernel
theorem d_X0_init_51 : decode prog_1_method_1_code 51 = .ok (.getfield 12, 3) := by decide +kernel
theorem d_X0_init_54 : decode prog_1_method_1_code 54 = .ok (.aload_n 0, 1) := by decide +kernel
theorem d_X0_init_55 : decode prog_1_method_1_code 55 = .ok (.getfield 19, 3) := by decide +kernel
theorem d_X0_init_58 : decode prog_1_method_1_code 58 = .ok (.aload_n 0, 1) := by decide +kernel
theorem d_X0_init_59 : decode prog_1_method_1_code 59 = .ok (.getfield 28, 3) := by decide +kernel
theorem d_X0_init_62 : decode prog_1_method_1_code 62 = .ok (.invokespecial 34, 3) := by decide +kernel
theorem d_X0_init_65 : decode prog_1_method_1_code 65 = .ok (.putfield 37, 3) := by decide +kernel
theorem d_X0_init_68 : decode prog_1_method_1_code 68 = .ok (.aload_n 0, 1) := by decide +kernel
theorem d_X0_init_69 : decode prog_1_method_1_code 69 = .ok (.new 41, 3) := by decide +kernel
theorem d_X0_init_72 : decode prog_1_method_1_code 72 = .ok (.dup, 1) := by decide +kernel
theorem d_X0_init_73 : decode prog_1_method_1_code 73 = .ok (.invokespecial 43, 3) := by decide +kernel
theorem d_X0_init_76 : decode prog_1_method_1_code 76 = .ok (.putfield 44, 3) := by decide +kernel
theorem d_X0_init_79 : decode prog_1_method_1_code 79 = .ok (.aload_n 0, 1) := by decide +kernel
theorem d_X0_init_80 : decode prog_1_method_1_code 80 = .ok (.new 48, 3) := by decide +kernel
theorem d_X0_init_83 : decode prog_1_method_1_code 83 = .ok (.dup, 1) := by decide +kernel
theorem d_X0_init_84 : decode prog_1_method_1_code 84 = .ok (.aload_n 0, 1) := by decide +kernel
theorem d_X0_init_85 : decode prog_1_method_1_code 85 = .ok (.getfield 19, 3) := by decide +kernel
theorem d_X0_init_88 : decode prog_1_method_1_code 88 = .ok (.aload_n 0, 1) := by decide +kernel
theorem d_X0_init_89 : decode prog_1_method_1_code 89 = .ok (.getfield 28, 3) := by decide +kernel
theorem d_X0_init_92 : decode prog_1_method_1_code 92 = .ok (.aload_n 0, 1) := by decide +kernel
theorem d_X0_init_93 : decode prog_1_method_1_code 93 = .ok (.getfield 37, 3) := by decide +kernel
theorem d_X0_init_96 : decode prog_1_method_1_code 96 = .ok (.aload_n 0, 1) := by decide +kernel
theorem d_X0_init_97 : decode prog_1_method_1_code 97 = .ok (.getfield 44, 3) := by decide +kernel
theorem d_X0_init_100 : decode prog_1_method_1_code 100 = .ok (.invokespecial 50, 3) := by decide +kernel
theorem d_X0_init_103 : decode prog_1_method_1_code 103 = .ok (.putfield 53, 3) := by decide +kernel
theorem d_X0_init_106 : decode prog_1_method_1_code 106 = .ok (.return_, 1) := by decide +kernel
abbrev y_X1_init : MethodName := ⟨"VirtualRewrite$Catalog", "<init>", "()V"⟩
theorem d_X1_init_0 : decode prog_3_method_1_code 0 = .ok (.aload_n 0, 1) := by decide +kernel
theorem d_X1_init_1 : decode prog_3_method_1_code 1 = .ok (.invokespecial 3, 3) := by decide +kernel
theorem d_X1_init_4 : decode prog_3_method_1_code 4 = .ok (.aload_n 0, 1) := by decide +kernel
theorem d_X1_init_5 : decode prog_3_method_1_code 5 = .ok (.iconst 4, 1) := by decide +kernel
theorem d_X1_init_6 : decode prog_3_method_1_code 6 = .ok (.anewarray 9, 3) := by decide +kernel
theorem d_X1_init_9 : decode prog_3_method_1_code 9 = .ok (.putfield 11, 3) := by decide +kernel
theorem d_X1_init_12 : decode prog_3_method_1_code 12 = .ok (.aload_n 0, 1) := by decide +kernel
theorem d_X1_init_13 : decode prog_3_method_1_code 13 = .ok (.bipush 12, 2) := by decide +kernel
theorem d_X1_init_15 : decode prog_3_method_1_code 15 = .ok (.anewarray 17, 3) := by decide +kernel
theorem d_X1_init_18 : decode prog_3_method_1_code 18 = .ok (.putfield 19, 3) := by decide +kernel
theorem d_X1_init_21 : decode prog_3_method_1_code 21 = .ok (.aload_n 0, 1) := by decide +kernel
theorem d_X1_init_22 : decode prog_3_method_1_code 22 = .ok (.sipush 240, 3) := by decide +kernel
theorem d_X1_init_25 : decode prog_3_method_1_code 25 = .ok (.newarray .long, 2) := by decide +kernel
theorem d_X1_init_27 : decode prog_3_method_1_code 27 = .ok (.putfield 23, 3) := by decide +kernel
theorem d_X1_init_30 : decode prog_3_method_1_code 30 = .ok (.aload_n 0, 1) := by decide +kernel
theorem d_X1_init_31 : decode prog_3_method_1_code 31 = .ok (.iconst 0, 1) := by decide +kernel
theorem d_X1_init_32 : decode prog_3_method_1_code 32 = .ok (.putfield 27, 3) := by decide +kernel
theorem d_X1_init_35 : decode prog_3_method_1_code 35 = .ok (.aload_n 0, 1) := by decide +kernel
theorem d_X1_init_36 : decode prog_3_method_1_code 36 = .ok (.iconst 0, 1) := by decide +kernel
theorem d_X1_init_37 : decode prog_3_method_1_code 37 = .ok (.putfield 31, 3) := by decide +kernel
theorem d_X1_init_40 : decode prog_3_method_1_code 40 = .ok (.iconst 0, 1) := by decide +kernel
theorem d_X1_init_41 : decode prog_3_method_1_code 41 = .ok (.istore_n 1, 1) := by decide +kernel
theorem d_X1_init_42 : decode prog_3_method_1_code 42 = .ok (.iload_n 1, 1) := by decide +kernel
theorem d_X1_init_43 : decode prog_3_method_1_code 43 = .ok (.iconst 4, 1) := by decide +kernel
theorem d_X1_init_44 : decode prog_3_method_1_code 44 = .ok (.if_icmp .ge 22, 3) := by decide +kernel
theorem d_X1_init_47 : decode prog_3_method_1_code 47 = .ok (.aload_n 0, 1) := by decide +kernel
theorem d_X1_init_48 : decode prog_3_method_1_code 48 = .ok (.getfield 11, 3) := by decide +kernel
theorem d_X1_init_51 : decode prog_3_method_1_code 51 = .ok (.iload_n 1, 1) := by decide +kernel
theorem d_X1_init_52 : decode prog_3_method_1_code 52 = .ok (.new 9, 3) := by decide +kernel
theorem d_X1_init_55 : decode prog_3_method_1_code 55 = .ok (.dup, 1) := by decide +kernel
theorem d_X1_init_56 : decode prog_3_method_1_code 56 = .ok (.invokespecial 34, 3) := by decide +kernel
theorem d_X1_init_59 : decode prog_3_method_1_code 59 = .ok (.aastore, 1) := by decide +kernel
theorem d_X1_init_60 : decode prog_3_method_1_code 60 = .ok (.iinc 1 1, 3) := by decide +kernel
theorem d_X1_init_63 : decode prog_3_method_1_code 63 = .ok (.goto (-21), 3) := by decide +kernel
theorem d_X1_init_66 : decode prog_3_method_1_code 66 = .ok (.iconst 0, 1) := by decide +kernel
theorem d_X1_init_67 : decode prog_3_method_1_code 67 = .ok (.istore_n 1, 1) := by decide +kernel
theorem d_X1_init_68 : decode prog_3_method_1_code 68 = .ok (.iload_n 1, 1) := by decide +kernel
theorem d_X1_init_69 : decode prog_3_method_1_code 69 = .ok (.bipush 12, 2) := by decide +kernel
theorem d_X1_init_71 : decode prog_3_method_1_code 71 = .ok (.if_icmp .ge 22, 3) := by decide +kernel
theorem d_X1_init_74 : decode prog_3_method_1_code 74 = .ok (.aload_n 0, 1) := by decide +kernel
theorem d_X1_init_75 : decode prog_3_method_1_code 75 = .ok (.getfield 19, 3) := by decide +kernel
theorem d_X1_init_78 : decode prog_3_method_1_code 78 = .ok (.iload_n 1, 1) := by decide +kernel
theorem d_X1_init_79 : decode prog_3_method_1_code 79 = .ok (.new 17, 3) := by decide +kernel
theorem d_X1_init_82 : decode prog_3_method_1_code 82 = .ok (.dup, 1) := by decide +kernel
theorem d_X1_init_83 : decode prog_3_method_1_code 83 = .ok (.invokespecial 35, 3) := by decide +kernel
theorem d_X1_init_86 : decode prog_3_method_1_code 86 = .ok (.aastore, 1) := by decide +kernel
theorem d_X1_init_87 : decode prog_3_method_1_code 87 = .ok (.iinc 1 1, 3) := by decide +kernel
theorem d_X1_init_90 : decode prog_3_method_1_code 90 = .ok (.goto (-22), 3) := by decide +kernel
theorem d_X1_init_93 : decode prog_3_method_1_code 93 = .ok (.return_, 1) := by decide +kernel
abbrev y_X2_init : MethodName := ⟨"VirtualRewrite$Table", "<init>", "()V"⟩
theorem d_X2_init_0 : decode prog_9_method_1_code 0 = .ok (.aload_n 0, 1) := by decide +kernel
theorem d_X2_init_1 : decode prog_9_method_1_code 1 = .ok (.invokespecial 3, 3) := by decide +kernel
theorem d_X2_init_4 : decode prog_9_method_1_code 4 = .ok (.aload_n 0, 1) := by decide +kernel
theorem d_X2_init_5 : decode prog_9_method_1_code 5 = .ok (.bipush 60, 2) := by decide +kernel
theorem d_X2_init_7 : decode prog_9_method_1_code 7 = .ok (.newarray .int, 2) := by decide +kernel
theorem d_X2_init_9 : decode prog_9_method_1_code 9 = .ok (.putfield 9, 3) := by decide +kernel
theorem d_X2_init_12 : decode prog_9_method_1_code 12 = .ok (.aload_n 0, 1) := by decide +kernel
theorem d_X2_init_13 : decode prog_9_method_1_code 13 = .ok (.iconst 3, 1) := by decide +kernel
theorem d_X2_init_14 : decode prog_9_method_1_code 14 = .ok (.newarray .boolean, 2) := by decide +kernel
theorem d_X2_init_16 : decode prog_9_method_1_code 16 = .ok (.putfield 15, 3) := by decide +kernel
theorem d_X2_init_19 : decode prog_9_method_1_code 19 = .ok (.aload_n 0, 1) := by decide +kernel
theorem d_X2_init_20 : decode prog_9_method_1_code 20 = .ok (.iconst 0, 1) := by decide +kernel
theorem d_X2_init_21 : decode prog_9_method_1_code 21 = .ok (.putfield 19, 3) := by decide +kernel
theorem d_X2_init_24 : decode prog_9_method_1_code 24 = .ok (.return_, 1) := by decide +kernel
abbrev y_X3_init : MethodName := ⟨"VirtualRewrite$Mapping", "<init>", "()V"⟩
theorem d_X3_init_0 : decode prog_5_method_1_code 0 = .ok (.aload_n 0, 1) := by decide +kernel
theorem d_X3_init_1 : decode prog_5_method_1_code 1 = .ok (.invokespecial 3, 3) := by decide +kernel
theorem d_X3_init_4 : decode prog_5_method_1_code 4 = .ok (.aload_n 0, 1) := by decide +kernel
theorem d_X3_init_5 : decode prog_5_method_1_code 5 = .ok (.iconst 2, 1) := by decide +kernel
theorem d_X3_init_6 : decode prog_5_method_1_code 6 = .ok (.newarray .int, 2) := by decide +kernel
theorem d_X3_init_8 : decode prog_5_method_1_code 8 = .ok (.putfield 9, 3) := by decide +kernel
theorem d_X3_init_11 : decode prog_5_method_1_code 11 = .ok (.aload_n 0, 1) := by decide +kernel
theorem d_X3_init_12 : decode prog_5_method_1_code 12 = .ok (.iconst 2, 1) := by decide +kernel
theorem d_X3_init_13 : decode prog_5_method_1_code 13 = .ok (.newarray .int, 2) := by decide +kernel
theorem d_X3_init_15 : decode prog_5_method_1_code 15 = .ok (.putfield 15, 3) := by decide +kernel
theorem d_X3_init_18 : decode prog_5_method_1_code 18 = .ok (.aload_n 0, 1) := by decide +kernel
theorem d_X3_init_19 : decode prog_5_method_1_code 19 = .ok (.iconst 0, 1) := by decide +kernel
theorem d_X3_init_20 : decode prog_5_method_1_code 20 = .ok (.putfield 18, 3) := by decide +kernel
theorem d_X3_init_23 : decode prog_5_method_1_code 23 = .ok (.aload_n 0, 1) := by decide +kernel
theorem d_X3_init_24 : decode prog_5_method_1_code 24 = .ok (.iconst 0, 1) := by decide +kernel
theorem d_X3_init_25 : decode prog_5_method_1_code 25 = .ok (.putfield 22, 3) := by decide +kernel
theorem d_X3_init_28 : decode prog_5_method_1_code 28 = .ok (.return_, 1) := by decide +kernel
abbrev y_X4_init : MethodName := ⟨"VirtualRewrite$Question", "<init>", "()V"⟩
theorem d_X4_init_0 : decode prog_6_method_1_code 0 = .ok (.aload_n 0, 1) := by decide +kernel
theorem d_X4_init_1 : decode prog_6_method_1_code 1 = .ok (.invokespecial 3, 3) := by decide +kernel
theorem d_X4_init_4 : decode prog_6_method_1_code 4 = .ok (.aload_n 0, 1) := by decide +kernel
theorem d_X4_init_5 : decode prog_6_method_1_code 5 = .ok (.iconst 4, 1) := by decide +kernel
theorem d_X4_init_6 : decode prog_6_method_1_code 6 = .ok (.newarray .int, 2) := by decide +kernel
theorem d_X4_init_8 : decode prog_6_method_1_code 8 = .ok (.putfield 9, 3) := by decide +kernel
theorem d_X4_init_11 : decode prog_6_method_1_code 11 = .ok (.aload_n 0, 1) := by decide +kernel
theorem d_X4_init_12 : decode prog_6_method_1_code 12 = .ok (.bipush 8, 2) := by decide +kernel
theorem d_X4_init_14 : decode prog_6_method_1_code 14 = .ok (.newarray .int, 2) := by decide +kernel
theorem d_X4_init_16 : decode prog_6_method_1_code 16 = .ok (.putfield 15, 3) := by decide +kernel
theorem d_X4_init_19 : decode prog_6_method_1_code 19 = .ok (.aload_n 0, 1) := by decide +kernel
theorem d_X4_init_20 : decode prog_6_method_1_code 20 = .ok (.bipush 6, 2) := by decide +kernel
theorem d_X4_init_22 : decode prog_6_method_1_code 22 = .ok (.newarray .int, 2) := by decide +kernel
theorem d_X4_init_24 : decode prog_6_method_1_code 24 = .ok (.putfield 18, 3) := by decide +kernel
theorem d_X4_init_27 : decode prog_6_method_1_code 27 = .ok (.aload_n 0, 1) := by decide +kernel
theorem d_X4_init_28 : decode prog_6_method_1_code 28 = .ok (.bipush 6, 2) := by decide +kernel
theorem d_X4_init_30 : decode prog_6_method_1_code 30 = .ok (.newarray .int, 2) := by decide +kernel
theorem d_X4_init_32 : decode prog_6_method_1_code 32 = .ok (.putfield 21, 3) := by decide +kernel
theorem d_X4_init_35 : decode prog_6_method_1_code 35 = .ok (.aload_n 0, 1) := by decide +kernel
theorem d_X4_init_36 : decode prog_6_method_1_code 36 = .ok (.iconst 0, 1) := by decide +kernel
theorem d_X4_init_37 : decode prog_6_method_1_code 37 = .ok (.putfield 24, 3) := by decide +kernel
theorem d_X4_init_40 : decode prog_6_method_1_code 40 = .ok (.aload_n 0, 1) := by decide +kernel
theorem d_X4_init_41 : decode prog_6_method_1_code 41 = .ok (.iconst 0, 1) := by decide +kernel
theorem d_X4_init_42 : decode prog_6_method_1_code 42 = .ok (.putfield 28, 3) := by decide +kernel
theorem d_X4_init_45 : decode prog_6_method_1_code 45 = .ok (.iconst 0, 1) := by decide +kernel
theorem d_X4_init_46 : decode prog_6_method_1_code 46 = .ok (.istore_n 1, 1) := by decide +kernel
theorem d_X4_init_47 : decode prog_6_method_1_code 47 = .ok (.iload_n 1, 1) := by decide +kernel
theorem d_X4_init_48 : decode prog_6_method_1_code 48 = .ok (.bipush 6, 2) := by decide +kernel
theorem d_X4_init_50 : decode prog_6_method_1_code 50 = .ok (.if_icmp .ge 18, 3) := by decide +kernel
theorem d_X4_init_53 : decode prog_6_method_1_code 53 = .ok (.aload_n 0, 1) := by decide +kernel
theorem d_X4_init_54 : decode prog_6_method_1_code 54 = .ok (.getfield 21, 3) := by decide +kernel
theorem d_X4_init_57 : decode prog_6_method_1_code 57 = .ok (.iload_n 1, 1) := by decide +kernel
theorem d_X4_init_58 : decode prog_6_method_1_code 58 = .ok (.sipush 9999, 3) := by decide +kernel
theorem d_X4_init_61 : decode prog_6_method_1_code 61 = .ok (.iastore, 1) := by decide +kernel
theorem d_X4_init_62 : decode prog_6_method_1_code 62 = .ok (.iinc 1 1, 3) := by decide +kernel
theorem d_X4_init_65 : decode prog_6_method_1_code 65 = .ok (.goto (-18), 3) := by decide +kernel
theorem d_X4_init_68 : decode prog_6_method_1_code 68 = .ok (.return_, 1) := by decide +kernel
abbrev y_X5_init : MethodName := ⟨"VirtualRewrite$Rewriting", "<init>", "(LVirtualRewrite$Catalog;LVirtualRewrite$Question;)V"⟩
theorem d_X5_init_0 : decode prog_7_method_1_code 0 = .ok (.aload_n 0, 1) := by decide +kernel
theorem d_X5_init_1 : decode prog_7_method_1_code 1 = .ok (.invokespecial 3, 3) := by decide +kernel
theorem d_X5_init_4 : decode prog_7_method_1_code 4 = .ok (.aload_n 0, 1) := by decide +kernel
theorem d_X5_init_5 : decode prog_7_method_1_code 5 = .ok (.sipush 600, 3) := by decide +kernel
theorem d_X5_init_8 : decode prog_7_method_1_code 8 = .ok (.newarray .int, 2) := by decide +kernel
theorem d_X5_init_10 : decode prog_7_method_1_code 10 = .ok (.putfield 9, 3) := by decide +kernel
theorem d_X5_init_13 : decode prog_7_method_1_code 13 = .ok (.aload_n 0, 1) := by decide +kernel
theorem d_X5_init_14 : decode prog_7_method_1_code 14 = .ok (.iconst 4, 1) := by decide +kernel
theorem d_X5_init_15 : decode prog_7_method_1_code 15 = .ok (.newarray .int, 2) := by decide +kernel
theorem d_X5_init_17 : decode prog_7_method_1_code 17 = .ok (.putfield 15, 3) := by decide +kernel
theorem d_X5_init_20 : decode prog_7_method_1_code 20 = .ok (.aload_n 0, 1) := by decide +kernel
theorem d_X5_init_21 : decode prog_7_method_1_code 21 = .ok (.bipush 6, 2) := by decide +kernel
theorem d_X5_init_23 : decode prog_7_method_1_code 23 = .ok (.newarray .int, 2) := by decide +kernel
theorem d_X5_init_25 : decode prog_7_method_1_code 25 = .ok (.putfield 18, 3) := by decide +kernel
theorem d_X5_init_28 : decode prog_7_method_1_code 28 = .ok (.aload_n 0, 1) := by decide +kernel
theorem d_X5_init_29 : decode prog_7_method_1_code 29 = .ok (.iconst 0, 1) := by decide +kernel
theorem d_X5_init_30 : decode prog_7_method_1_code 30 = .ok (.putfield 21, 3) := by decide +kernel
theorem d_X5_init_33 : decode prog_7_method_1_code 33 = .ok (.aload_n 0, 1) := by decide +kernel
theorem d_X5_init_34 : decode prog_7_method_1_code 34 = .ok (.iconst 0, 1) := by decide +kernel
theorem d_X5_init_35 : decode prog_7_method_1_code 35 = .ok (.putfield 25, 3) := by decide +kernel
theorem d_X5_init_38 : decode prog_7_method_1_code 38 = .ok (.aload_n 0, 1) := by decide +kernel
theorem d_X5_init_39 : decode prog_7_method_1_code 39 = .ok (.iconst 0, 1) := by decide +kernel
theorem d_X5_init_40 : decode prog_7_method_1_code 40 = .ok (.putfield 29, 3) := by decide +kernel
theorem d_X5_init_43 : decode prog_7_method_1_code 43 = .ok (.aload_n 0, 1) := by decide +kernel
theorem d_X5_init_44 : decode prog_7_method_1_code 44 = .ok (.aload_n 1, 1) := by decide +kernel
theorem d_X5_init_45 : decode prog_7_method_1_code 45 = .ok (.putfield 32, 3) := by decide +kernel
theorem d_X5_init_48 : decode prog_7_method_1_code 48 = .ok (.aload_n 0, 1) := by decide +kernel
theorem d_X5_init_49 : decode prog_7_method_1_code 49 = .ok (.aload_n 2, 1) := by decide +kernel
theorem d_X5_init_50 : decode prog_7_method_1_code 50 = .ok (.putfield 36, 3) := by decide +kernel
theorem d_X5_init_53 : decode prog_7_method_1_code 53 = .ok (.return_, 1) := by decide +kernel
abbrev y_X6_init : MethodName := ⟨"VirtualRewrite$Slots", "<init>", "(LVirtualRewrite$Catalog;LVirtualRewrite$Question;LVirtualRewrite$Rewriting;)V"⟩
theorem d_X6_init_0 : decode prog_8_method_1_code 0 = .ok (.aload_n 0, 1) := by decide +kernel
theorem d_X6_init_1 : decode prog_8_method_1_code 1 = .ok (.invokespecial 3, 3) := by decide +kernel
theorem d_X6_init_4 : decode prog_8_method_1_code 4 = .ok (.aload_n 0, 1) := by decide +kernel
theorem d_X6_init_5 : decode prog_8_method_1_code 5 = .ok (.iconst 4, 1) := by decide +kernel
theorem d_X6_init_6 : decode prog_8_method_1_code 6 = .ok (.newarray .int, 2) := by decide +kernel
theorem d_X6_init_8 : decode prog_8_method_1_code 8 = .ok (.putfield 9, 3) := by decide +kernel
theorem d_X6_init_11 : decode prog_8_method_1_code 11 = .ok (.aload_n 0, 1) := by decide +kernel
theorem d_X6_init_12 : decode prog_8_method_1_code 12 = .ok (.iconst 0, 1) := by decide +kernel
theorem d_X6_init_13 : decode prog_8_method_1_code 13 = .ok (.putfield 15, 3) := by decide +kernel
theorem d_X6_init_16 : decode prog_8_method_1_code 16 = .ok (.aload_n 0, 1) := by decide +kernel
theorem d_X6_init_17 : decode prog_8_method_1_code 17 = .ok (.aload_n 1, 1) := by decide +kernel
theorem d_X6_init_18 : decode prog_8_method_1_code 18 = .ok (.putfield 19, 3) := by decide +kernel
theorem d_X6_init_21 : decode prog_8_method_1_code 21 = .ok (.aload_n 0, 1) := by decide +kernel
theorem d_X6_init_22 : decode prog_8_method_1_code 22 = .ok (.aload_n 2, 1) := by decide +kernel
theorem d_X6_init_23 : decode prog_8_method_1_code 23 = .ok (.putfield 23, 3) := by decide +kernel
theorem d_X6_init_26 : decode prog_8_method_1_code 26 = .ok (.aload_n 0, 1) := by decide +kernel
theorem d_X6_init_27 : decode prog_8_method_1_code 27 = .ok (.aload_n 3, 1) := by decide +kernel
theorem d_X6_init_28 : decode prog_8_method_1_code 28 = .ok (.putfield 27, 3) := by decide +kernel
theorem d_X6_init_31 : decode prog_8_method_1_code 31 = .ok (.return_, 1) := by decide +kernel
abbrev y_X7_init : MethodName := ⟨"VirtualRewrite$Answers", "<init>", "()V"⟩
theorem d_X7_init_0 : decode prog_2_method_1_code 0 = .ok (.aload_n 0, 1) := by decide +kernel
theorem d_X7_init_1 : decode prog_2_method_1_code 1 = .ok (.invokespecial 3, 3) := by decide +kernel
theorem d_X7_init_4 : decode prog_2_method_1_code 4 = .ok (.aload_n 0, 1) := by decide +kernel
theorem d_X7_init_5 : decode prog_2_method_1_code 5 = .ok (.sipush 1800, 3) := by decide +kernel
theorem d_X7_init_8 : decode prog_2_method_1_code 8 = .ok (.newarray .int, 2) := by decide +kernel
theorem d_X7_init_10 : decode prog_2_method_1_code 10 = .ok (.putfield 9, 3) := by decide +kernel
theorem d_X7_init_13 : decode prog_2_method_1_code 13 = .ok (.aload_n 0, 1) := by decide +kernel
theorem d_X7_init_14 : decode prog_2_method_1_code 14 = .ok (.sipush 300, 3) := by decide +kernel
theorem d_X7_init_17 : decode prog_2_method_1_code 17 = .ok (.newarray .int, 2) := by decide +kernel
theorem d_X7_init_19 : decode prog_2_method_1_code 19 = .ok (.putfield 15, 3) := by decide +kernel
theorem d_X7_init_22 : decode prog_2_method_1_code 22 = .ok (.aload_n 0, 1) := by decide +kernel
theorem d_X7_init_23 : decode prog_2_method_1_code 23 = .ok (.sipush 300, 3) := by decide +kernel
theorem d_X7_init_26 : decode prog_2_method_1_code 26 = .ok (.newarray .int, 2) := by decide +kernel
theorem d_X7_init_28 : decode prog_2_method_1_code 28 = .ok (.putfield 18, 3) := by decide +kernel
theorem d_X7_init_31 : decode prog_2_method_1_code 31 = .ok (.aload_n 0, 1) := by decide +kernel
theorem d_X7_init_32 : decode prog_2_method_1_code 32 = .ok (.sipush 300, 3) := by decide +kernel
theorem d_X7_init_35 : decode prog_2_method_1_code 35 = .ok (.newarray .int, 2) := by decide +kernel
theorem d_X7_init_37 : decode prog_2_method_1_code 37 = .ok (.putfield 21, 3) := by decide +kernel
theorem d_X7_init_40 : decode prog_2_method_1_code 40 = .ok (.aload_n 0, 1) := by decide +kernel
theorem d_X7_init_41 : decode prog_2_method_1_code 41 = .ok (.iconst 0, 1) := by decide +kernel
theorem d_X7_init_42 : decode prog_2_method_1_code 42 = .ok (.putfield 24, 3) := by decide +kernel
theorem d_X7_init_45 : decode prog_2_method_1_code 45 = .ok (.aload_n 0, 1) := by decide +kernel
theorem d_X7_init_46 : decode prog_2_method_1_code 46 = .ok (.iconst 0, 1) := by decide +kernel
theorem d_X7_init_47 : decode prog_2_method_1_code 47 = .ok (.putfield 28, 3) := by decide +kernel
theorem d_X7_init_50 : decode prog_2_method_1_code 50 = .ok (.aload_n 0, 1) := by decide +kernel
theorem d_X7_init_51 : decode prog_2_method_1_code 51 = .ok (.iconst 0, 1) := by decide +kernel
theorem d_X7_init_52 : decode prog_2_method_1_code 52 = .ok (.putfield 31, 3) := by decide +kernel
theorem d_X7_init_55 : decode prog_2_method_1_code 55 = .ok (.return_, 1) := by decide +kernel
abbrev y_X8_init : MethodName := ⟨"VirtualRewrite$Finder", "<init>", "(LVirtualRewrite$Question;LVirtualRewrite$Rewriting;LVirtualRewrite$Slots;LVirtualRewrite$Answers;)V"⟩
theorem d_X8_init_0 : decode prog_4_method_1_code 0 = .ok (.aload_n 0, 1) := by decide +kernel
theorem d_X8_init_1 : decode prog_4_method_1_code 1 = .ok (.invokespecial 3, 3) := by decide +kernel
theorem d_X8_init_4 : decode prog_4_method_1_code 4 = .ok (.aload_n 0, 1) := by decide +kernel
theorem d_X8_init_5 : decode prog_4_method_1_code 5 = .ok (.iconst 4, 1) := by decide +kernel
theorem d_X8_init_6 : decode prog_4_method_1_code 6 = .ok (.newarray .int, 2) := by decide +kernel
theorem d_X8_init_8 : decode prog_4_method_1_code 8 = .ok (.putfield 9, 3) := by decide +kernel
theorem d_X8_init_11 : decode prog_4_method_1_code 11 = .ok (.aload_n 0, 1) := by decide +kernel
theorem d_X8_init_12 : decode prog_4_method_1_code 12 = .ok (.iconst 4, 1) := by decide +kernel
theorem d_X8_init_13 : decode prog_4_method_1_code 13 = .ok (.newarray .int, 2) := by decide +kernel
theorem d_X8_init_15 : decode prog_4_method_1_code 15 = .ok (.putfield 15, 3) := by decide +kernel
theorem d_X8_init_18 : decode prog_4_method_1_code 18 = .ok (.aload_n 0, 1) := by decide +kernel
theorem d_X8_init_19 : decode prog_4_method_1_code 19 = .ok (.bipush 24, 2) := by decide +kernel
theorem d_X8_init_21 : decode prog_4_method_1_code 21 = .ok (.newarray .int, 2) := by decide +kernel
theorem d_X8_init_23 : decode prog_4_method_1_code 23 = .ok (.putfield 18, 3) := by decide +kernel
theorem d_X8_init_26 : decode prog_4_method_1_code 26 = .ok (.aload_n 0, 1) := by decide +kernel
theorem d_X8_init_27 : decode prog_4_method_1_code 27 = .ok (.bipush 80, 2) := by decide +kernel
theorem d_X8_init_29 : decode prog_4_method_1_code 29 = .ok (.newarray .int, 2) := by decide +kernel
theorem d_X8_init_31 : decode prog_4_method_1_code 31 = .ok (.putfield 21, 3) := by decide +kernel
theorem d_X8_init_34 : decode prog_4_method_1_code 34 = .ok (.aload_n 0, 1) := by decide +kernel
theorem d_X8_init_35 : decode prog_4_method_1_code 35 = .ok (.iconst 4, 1) := by decide +kernel
theorem d_X8_init_36 : decode prog_4_method_1_code 36 = .ok (.newarray .int, 2) := by decide +kernel
theorem d_X8_init_38 : decode prog_4_method_1_code 38 = .ok (.putfield 24, 3) := by decide +kernel
theorem d_X8_init_41 : decode prog_4_method_1_code 41 = .ok (.aload_n 0, 1) := by decide +kernel
theorem d_X8_init_42 : decode prog_4_method_1_code 42 = .ok (.iconst 4, 1) := by decide +kernel
theorem d_X8_init_43 : decode prog_4_method_1_code 43 = .ok (.newarray .int, 2) := by decide +kernel
theorem d_X8_init_45 : decode prog_4_method_1_code 45 = .ok (.putfield 27, 3) := by decide +kernel
theorem d_X8_init_48 : decode prog_4_method_1_code 48 = .ok (.aload_n 0, 1) := by decide +kernel
theorem d_X8_init_49 : decode prog_4_method_1_code 49 = .ok (.bipush 6, 2) := by decide +kernel
theorem d_X8_init_51 : decode prog_4_method_1_code 51 = .ok (.newarray .int, 2) := by decide +kernel
theorem d_X8_init_53 : decode prog_4_method_1_code 53 = .ok (.putfield 30, 3) := by decide +kernel
theorem d_X8_init_56 : decode prog_4_method_1_code 56 = .ok (.aload_n 0, 1) := by decide +kernel
theorem d_X8_init_57 : decode prog_4_method_1_code 57 = .ok (.bipush 6, 2) := by decide +kernel
theorem d_X8_init_59 : decode prog_4_method_1_code 59 = .ok (.newarray .int, 2) := by decide +kernel
theorem d_X8_init_61 : decode prog_4_method_1_code 61 = .ok (.putfield 33, 3) := by decide +kernel
theorem d_X8_init_64 : decode prog_4_method_1_code 64 = .ok (.aload_n 0, 1) := by decide +kernel
theorem d_X8_init_65 : decode prog_4_method_1_code 65 = .ok (.iconst 0, 1) := by decide +kernel
theorem d_X8_init_66 : decode prog_4_method_1_code 66 = .ok (.putfield 36, 3) := by decide +kernel
theorem d_X8_init_69 : decode prog_4_method_1_code 69 = .ok (.aload_n 0, 1) := by decide +kernel
theorem d_X8_init_70 : decode prog_4_method_1_code 70 = .ok (.aload_n 1, 1) := by decide +kernel
theorem d_X8_init_71 : decode prog_4_method_1_code 71 = .ok (.putfield 40, 3) := by decide +kernel
theorem d_X8_init_74 : decode prog_4_method_1_code 74 = .ok (.aload_n 0, 1) := by decide +kernel
theorem d_X8_init_75 : decode prog_4_method_1_code 75 = .ok (.aload_n 2, 1) := by decide +kernel
theorem d_X8_init_76 : decode prog_4_method_1_code 76 = .ok (.putfield 44, 3) := by decide +kernel
theorem d_X8_init_79 : decode prog_4_method_1_code 79 = .ok (.aload_n 0, 1) := by decide +kernel
theorem d_X8_init_80 : decode prog_4_method_1_code 80 = .ok (.aload_n 3, 1) := by decide +kernel
theorem d_X8_init_81 : decode prog_4_method_1_code 81 = .ok (.putfield 48, 3) := by decide +kernel
theorem d_X8_init_84 : decode prog_4_method_1_code 84 = .ok (.aload_n 0, 1) := by decide +kernel
theorem d_X8_init_85 : decode prog_4_method_1_code 85 = .ok (.aload 4, 2) := by decide +kernel
theorem d_X8_init_87 : decode prog_4_method_1_code 87 = .ok (.putfield 52, 3) := by decide +kernel
theorem d_X8_init_90 : decode prog_4_method_1_code 90 = .ok (.return_, 1) := by decide +kernel
abbrev y_X0_key : MethodName := ⟨"VirtualRewrite", "key", "(IIZ)I"⟩
theorem d_X0_key_0 : decode prog_1_method_2_code 0 = .ok (.iload_n 1, 1) := by decide +kernel
theorem d_X0_key_1 : decode prog_1_method_2_code 1 = .ok (.iconst 4, 1) := by decide +kernel
theorem d_X0_key_2 : decode prog_1_method_2_code 2 = .ok (.invokestatic 57, 3) := by decide +kernel
theorem d_X0_key_5 : decode prog_1_method_2_code 5 = .ok (.ifCond .eq 11, 3) := by decide +kernel
theorem d_X0_key_8 : decode prog_1_method_2_code 8 = .ok (.iload_n 2, 1) := by decide +kernel
theorem d_X0_key_9 : decode prog_1_method_2_code 9 = .ok (.iconst 3, 1) := by decide +kernel
theorem d_X0_key_10 : decode prog_1_method_2_code 10 = .ok (.invokestatic 57, 3) := by decide +kernel
theorem d_X0_key_13 : decode prog_1_method_2_code 13 = .ok (.ifCond .ne 5, 3) := by decide +kernel
theorem d_X0_key_16 : decode prog_1_method_2_code 16 = .ok (.iconst (-1), 1) := by decide +kernel
theorem d_X0_key_17 : decode prog_1_method_2_code 17 = .ok (.ireturn, 1) := by decide +kernel
theorem d_X0_key_18 : decode prog_1_method_2_code 18 = .ok (.aload_n 0, 1) := by decide +kernel
theorem d_X0_key_19 : decode prog_1_method_2_code 19 = .ok (.getfield 12, 3) := by decide +kernel
theorem d_X0_key_22 : decode prog_1_method_2_code 22 = .ok (.getfield 61, 3) := by decide +kernel
theorem d_X0_key_25 : decode prog_1_method_2_code 25 = .ok (.iload_n 1, 1) := by decide +kernel
theorem d_X0_key_26 : decode prog_1_method_2_code 26 = .ok (.aaload, 1) := by decide +kernel
theorem d_X0_key_27 : decode prog_1_method_2_code 27 = .ok (.astore 4, 2) := by decide +kernel
theorem d_X0_key_29 : decode prog_1_method_2_code 29 = .ok (.aload 4, 2) := by decide +kernel
theorem d_X0_key_31 : decode prog_1_method_2_code 31 = .ok (.getfield 65, 3) := by decide +kernel
theorem d_X0_key_34 : decode prog_1_method_2_code 34 = .ok (.iload_n 2, 1) := by decide +kernel
theorem d_X0_key_35 : decode prog_1_method_2_code 35 = .ok (.baload, 1) := by decide +kernel
theorem d_X0_key_36 : decode prog_1_method_2_code 36 = .ok (.iload_n 3, 1) := by decide +kernel
theorem d_X0_key_37 : decode prog_1_method_2_code 37 = .ok (.if_icmp .ne 5, 3) := by decide +kernel
theorem d_X0_key_40 : decode prog_1_method_2_code 40 = .ok (.iconst 0, 1) := by decide +kernel
theorem d_X0_key_41 : decode prog_1_method_2_code 41 = .ok (.ireturn, 1) := by decide +kernel
theorem d_X0_key_42 : decode prog_1_method_2_code 42 = .ok (.iload_n 3, 1) := by decide +kernel
theorem d_X0_key_43 : decode prog_1_method_2_code 43 = .ok (.ifCond .eq 15, 3) := by decide +kernel
theorem d_X0_key_46 : decode prog_1_method_2_code 46 = .ok (.aload 4, 2) := by decide +kernel
theorem d_X0_key_48 : decode prog_1_method_2_code 48 = .ok (.iload_n 2, 1) := by decide +kernel
theorem d_X0_key_49 : decode prog_1_method_2_code 49 = .ok (.invokevirtual 71, 3) := by decide +kernel
theorem d_X0_key_52 : decode prog_1_method_2_code 52 = .ok (.ifCond .eq 6, 3) := by decide +kernel
theorem d_X0_key_55 : decode prog_1_method_2_code 55 = .ok (.bipush (-4), 2) := by decide +kernel
theorem d_X0_key_57 : decode prog_1_method_2_code 57 = .ok (.ireturn, 1) := by decide +kernel
theorem d_X0_key_58 : decode prog_1_method_2_code 58 = .ok (.aload 4, 2) := by decide +kernel
theorem d_X0_key_60 : decode prog_1_method_2_code 60 = .ok (.getfield 65, 3) := by decide +kernel
theorem d_X0_key_63 : decode prog_1_method_2_code 63 = .ok (.iload_n 2, 1) := by decide +kernel
theorem d_X0_key_64 : decode prog_1_method_2_code 64 = .ok (.iload_n 3, 1) := by decide +kernel
theorem d_X0_key_65 : decode prog_1_method_2_code 65 = .ok (.bastore, 1) := by decide +kernel
theorem d_X0_key_66 : decode prog_1_method_2_code 66 = .ok (.iconst 1, 1) := by decide +kernel
theorem d_X0_key_67 : decode prog_1_method_2_code 67 = .ok (.ireturn, 1) := by decide +kernel
abbrev y_X0_isBelow : MethodName := ⟨"VirtualRewrite", "isBelow", "(II)Z"⟩
theorem d_X0_isBelow_0 : decode prog_1_method_18_code 0 = .ok (.iload_n 0, 1) := by decide +kernel
theorem d_X0_isBelow_1 : decode prog_1_method_18_code 1 = .ok (.ifCond .lt 12, 3) := by decide +kernel
theorem d_X0_isBelow_4 : decode prog_1_method_18_code 4 = .ok (.iload_n 0, 1) := by decide +kernel
theorem d_X0_isBelow_5 : decode prog_1_method_18_code 5 = .ok (.iload_n 1, 1) := by decide +kernel
theorem d_X0_isBelow_6 : decode prog_1_method_18_code 6 = .ok (.if_icmp .ge 7, 3) := by decide +kernel
theorem d_X0_isBelow_9 : decode prog_1_method_18_code 9 = .ok (.iconst 1, 1) := by decide +kernel
theorem d_X0_isBelow_10 : decode prog_1_method_18_code 10 = .ok (.goto 4, 3) := by decide +kernel
theorem d_X0_isBelow_13 : decode prog_1_method_18_code 13 = .ok (.iconst 0, 1) := by decide +kernel
theorem d_X0_isBelow_14 : decode prog_1_method_18_code 14 = .ok (.ireturn, 1) := by decide +kernel
abbrev y_X2_repeats : MethodName := ⟨"VirtualRewrite$Table", "repeats", "(I)Z"⟩
theorem d_X2_repeats_0 : decode prog_9_method_4_code 0 = .ok (.iconst 1, 1) := by decide +kernel
theorem d_X2_repeats_1 : decode prog_9_method_4_code 1 = .ok (.istore_n 2, 1) := by decide +kernel
theorem d_X2_repeats_2 : decode prog_9_method_4_code 2 = .ok (.iload_n 2, 1) := by decide +kernel
theorem d_X2_repeats_3 : decode prog_9_method_4_code 3 = .ok (.aload_n 0, 1) := by decide +kernel
theorem d_X2_repeats_4 : decode prog_9_method_4_code 4 = .ok (.getfield 19, 3) := by decide +kernel
theorem d_X2_repeats_7 : decode prog_9_method_4_code 7 = .ok (.if_icmp .ge 26, 3) := by decide +kernel
theorem d_X2_repeats_10 : decode prog_9_method_4_code 10 = .ok (.aload_n 0, 1) := by decide +kernel
theorem d_X2_repeats_11 : decode prog_9_method_4_code 11 = .ok (.iload_n 1, 1) := by decide +kernel
theorem d_X2_repeats_12 : decode prog_9_method_4_code 12 = .ok (.aload_n 0, 1) := by decide +kernel
theorem d_X2_repeats_13 : decode prog_9_method_4_code 13 = .ok (.iload_n 2, 1) := by decide +kernel
theorem d_X2_repeats_14 : decode prog_9_method_4_code 14 = .ok (.iload_n 1, 1) := by decide +kernel
theorem d_X2_repeats_15 : decode prog_9_method_4_code 15 = .ok (.invokevirtual 23, 3) := by decide +kernel
theorem d_X2_repeats_18 : decode prog_9_method_4_code 18 = .ok (.iload_n 2, 1) := by decide +kernel
theorem d_X2_repeats_19 : decode prog_9_method_4_code 19 = .ok (.invokevirtual 27, 3) := by decide +kernel
theorem d_X2_repeats_22 : decode prog_9_method_4_code 22 = .ok (.ifCond .eq 5, 3) := by decide +kernel
theorem d_X2_repeats_25 : decode prog_9_method_4_code 25 = .ok (.iconst 1, 1) := by decide +kernel
theorem d_X2_repeats_26 : decode prog_9_method_4_code 26 = .ok (.ireturn, 1) := by decide +kernel
theorem d_X2_repeats_27 : decode prog_9_method_4_code 27 = .ok (.iinc 2 1, 3) := by decide +kernel
theorem d_X2_repeats_30 : decode prog_9_method_4_code 30 = .ok (.goto (-28), 3) := by decide +kernel
theorem d_X2_repeats_33 : decode prog_9_method_4_code 33 = .ok (.iconst 0, 1) := by decide +kernel
theorem d_X2_repeats_34 : decode prog_9_method_4_code 34 = .ok (.ireturn, 1) := by decide +kernel
abbrev y_X2_cell : MethodName := ⟨"VirtualRewrite$Table", "cell", "(II)I"⟩
theorem d_X2_cell_0 : decode prog_9_method_2_code 0 = .ok (.aload_n 0, 1) := by decide +kernel
theorem d_X2_cell_1 : decode prog_9_method_2_code 1 = .ok (.getfield 9, 3) := by decide +kernel
theorem d_X2_cell_4 : decode prog_9_method_2_code 4 = .ok (.iload_n 1, 1) := by decide +kernel
theorem d_X2_cell_5 : decode prog_9_method_2_code 5 = .ok (.iconst 3, 1) := by decide +kernel
theorem d_X2_cell_6 : decode prog_9_method_2_code 6 = .ok (.imul, 1) := by decide +kernel
theorem d_X2_cell_7 : decode prog_9_method_2_code 7 = .ok (.iload_n 2, 1) := by decide +kernel
theorem d_X2_cell_8 : decode prog_9_method_2_code 8 = .ok (.iadd, 1) := by decide +kernel
theorem d_X2_cell_9 : decode prog_9_method_2_code 9 = .ok (.iaload, 1) := by decide +kernel
theorem d_X2_cell_10 : decode prog_9_method_2_code 10 = .ok (.ireturn, 1) := by decide +kernel
abbrev y_X2_holds : MethodName := ⟨"VirtualRewrite$Table", "holds", "(III)Z"⟩
theorem d_X2_holds_0 : decode prog_9_method_3_code 0 = .ok (.iconst 0, 1) := by decide +kernel
theorem d_X2_holds_1 : decode prog_9_method_3_code 1 = .ok (.istore 4, 2) := by decide +kernel
theorem d_X2_holds_3 : decode prog_9_method_3_code 3 = .ok (.iload 4, 2) := by decide +kernel
theorem d_X2_holds_5 : decode prog_9_method_3_code 5 = .ok (.iload_n 3, 1) := by decide +kernel
theorem d_X2_holds_6 : decode prog_9_method_3_code 6 = .ok (.if_icmp .ge 22, 3) := by decide +kernel
theorem d_X2_holds_9 : decode prog_9_method_3_code 9 = .ok (.aload_n 0, 1) := by decide +kernel
theorem d_X2_holds_10 : decode prog_9_method_3_code 10 = .ok (.iload 4, 2) := by decide +kernel
theorem d_X2_holds_12 : decode prog_9_method_3_code 12 = .ok (.iload_n 1, 1) := by decide +kernel
theorem d_X2_holds_13 : decode prog_9_method_3_code 13 = .ok (.invokevirtual 23, 3) := by decide +kernel
theorem d_X2_holds_16 : decode prog_9_method_3_code 16 = .ok (.iload_n 2, 1) := by decide +kernel
theorem d_X2_holds_17 : decode prog_9_method_3_code 17 = .ok (.if_icmp .ne 5, 3) := by decide +kernel
theorem d_X2_holds_20 : decode prog_9_method_3_code 20 = .ok (.iconst 1, 1) := by decide +kernel
theorem d_X2_holds_21 : decode prog_9_method_3_code 21 = .ok (.ireturn, 1) := by decide +kernel
theorem d_X2_holds_22 : decode prog_9_method_3_code 22 = .ok (.iinc 4 1, 3) := by decide +kernel
theorem d_X2_holds_25 : decode prog_9_method_3_code 25 = .ok (.goto (-22), 3) := by decide +kernel
theorem d_X2_holds_28 : decode prog_9_method_3_code 28 = .ok (.iconst 0, 1) := by decide +kernel
theorem d_X2_holds_29 : decode prog_9_method_3_code 29 = .ok (.ireturn, 1) := by decide +kernel
abbrev y_X0_row : MethodName := ⟨"VirtualRewrite", "row", "(IIII)I"⟩
theorem d_X0_row_0 : decode prog_1_method_3_code 0 = .ok (.iload_n 1, 1) := by decide +kernel
theorem d_X0_row_1 : decode prog_1_method_3_code 1 = .ok (.iconst 4, 1) := by decide +kernel
theorem d_X0_row_2 : decode prog_1_method_3_code 2 = .ok (.invokestatic 57, 3) := by decide +kernel
theorem d_X0_row_5 : decode prog_1_method_3_code 5 = .ok (.ifCond .eq 34, 3) := by decide +kernel
theorem d_X0_row_8 : decode prog_1_method_3_code 8 = .ok (.iload_n 2, 1) := by decide +kernel
theorem d_X0_row_9 : decode prog_1_method_3_code 9 = .ok (.sipush 10000, 3) := by decide +kernel
theorem d_X0_row_12 : decode prog_1_method_3_code 12 = .ok (.invokestatic 57, 3) := by decide +kernel
theorem d_X0_row_15 : decode prog_1_method_3_code 15 = .ok (.ifCond .eq 24, 3) := by decide +kernel
theorem d_X0_row_18 : decode prog_1_method_3_code 18 = .ok (.iload_n 3, 1) := by decide +kernel
theorem d_X0_row_19 : decode prog_1_method_3_code 19 = .ok (.sipush 10000, 3) := by decide +kernel
theorem d_X0_row_22 : decode prog_1_method_3_code 22 = .ok (.invokestatic 57, 3) := by decide +kernel
theorem d_X0_row_25 : decode prog_1_method_3_code 25 = .ok (.ifCond .eq 14, 3) := by decide +kernel
theorem d_X0_row_28 : decode prog_1_method_3_code 28 = .ok (.iload 4, 2) := by decide +kernel
theorem d_X0_row_30 : decode prog_1_method_3_code 30 = .ok (.sipush 10000, 3) := by decide +kernel
theorem d_X0_row_33 : decode prog_1_method_3_code 33 = .ok (.invokestatic 57, 3) := by decide +kernel
theorem d_X0_row_36 : decode prog_1_method_3_code 36 = .ok (.ifCond .ne 5, 3) := by decide +kernel
theorem d_X0_row_39 : decode prog_1_method_3_code 39 = .ok (.iconst (-1), 1) := by decide +kernel
theorem d_X0_row_40 : decode prog_1_method_3_code 40 = .ok (.ireturn, 1) := by decide +kernel
theorem d_X0_row_41 : decode prog_1_method_3_code 41 = .ok (.aload_n 0, 1) := by decide +kernel
theorem d_X0_row_42 : decode prog_1_method_3_code 42 = .ok (.getfield 12, 3) := by decide +kernel
theorem d_X0_row_45 : decode prog_1_method_3_code 45 = .ok (.getfield 61, 3) := by decide +kernel
theorem d_X0_row_48 : decode prog_1_method_3_code 48 = .ok (.iload_n 1, 1) := by decide +kernel
theorem d_X0_row_49 : decode prog_1_method_3_code 49 = .ok (.aaload, 1) := by decide +kernel
theorem d_X0_row_50 : decode prog_1_method_3_code 50 = .ok (.astore 5, 2) := by decide +kernel
theorem d_X0_row_52 : decode prog_1_method_3_code 52 = .ok (.aload 5, 2) := by decide +kernel
theorem d_X0_row_54 : decode prog_1_method_3_code 54 = .ok (.iconst 0, 1) := by decide +kernel
theorem d_X0_row_55 : decode prog_1_method_3_code 55 = .ok (.iload_n 2, 1) := by decide +kernel
theorem d_X0_row_56 : decode prog_1_method_3_code 56 = .ok (.invokevirtual 75, 3) := by decide +kernel
theorem d_X0_row_59 : decode prog_1_method_3_code 59 = .ok (.ifCond .ne 24, 3) := by decide +kernel
theorem d_X0_row_62 : decode prog_1_method_3_code 62 = .ok (.aload 5, 2) := by decide +kernel
theorem d_X0_row_64 : decode prog_1_method_3_code 64 = .ok (.iconst 1, 1) := by decide +kernel
theorem d_X0_row_65 : decode prog_1_method_3_code 65 = .ok (.iload_n 3, 1) := by decide +kernel
theorem d_X0_row_66 : decode prog_1_method_3_code 66 = .ok (.invokevirtual 75, 3) := by decide +kernel
theorem d_X0_row_69 : decode prog_1_method_3_code 69 = .ok (.ifCond .ne 14, 3) := by decide +kernel
theorem d_X0_row_72 : decode prog_1_method_3_code 72 = .ok (.aload 5, 2) := by decide +kernel
theorem d_X0_row_74 : decode prog_1_method_3_code 74 = .ok (.iconst 2, 1) := by decide +kernel
theorem d_X0_row_75 : decode prog_1_method_3_code 75 = .ok (.iload 4, 2) := by decide +kernel
theorem d_X0_row_77 : decode prog_1_method_3_code 77 = .ok (.invokevirtual 75, 3) := by decide +kernel
theorem d_X0_row_80 : decode prog_1_method_3_code 80 = .ok (.ifCond .eq 6, 3) := by decide +kernel
theorem d_X0_row_83 : decode prog_1_method_3_code 83 = .ok (.bipush (-4), 2) := by decide +kernel
theorem d_X0_row_85 : decode prog_1_method_3_code 85 = .ok (.ireturn, 1) := by decide +kernel
theorem d_X0_row_86 : decode prog_1_method_3_code 86 = .ok (.aload 5, 2) := by decide +kernel
theorem d_X0_row_88 : decode prog_1_method_3_code 88 = .ok (.getfield 78, 3) := by decide +kernel
theorem d_X0_row_91 : decode prog_1_method_3_code 91 = .ok (.bipush 20, 2) := by decide +kernel
theorem d_X0_row_93 : decode prog_1_method_3_code 93 = .ok (.if_icmp .lt 6, 3) := by decide +kernel
theorem d_X0_row_96 : decode prog_1_method_3_code 96 = .ok (.bipush (-2), 2) := by decide +kernel
theorem d_X0_row_98 : decode prog_1_method_3_code 98 = .ok (.ireturn, 1) := by decide +kernel
theorem d_X0_row_99 : decode prog_1_method_3_code 99 = .ok (.aload 5, 2) := by decide +kernel
theorem d_X0_row_101 : decode prog_1_method_3_code 101 = .ok (.iload_n 2, 1) := by decide +kernel
theorem d_X0_row_102 : decode prog_1_method_3_code 102 = .ok (.iload_n 3, 1) := by decide +kernel
theorem d_X0_row_103 : decode prog_1_method_3_code 103 = .ok (.iload 4, 2) := by decide +kernel
theorem d_X0_row_105 : decode prog_1_method_3_code 105 = .ok (.invokevirtual 82, 3) := by decide +kernel
theorem d_X0_row_108 : decode prog_1_method_3_code 108 = .ok (.aload 5, 2) := by decide +kernel
theorem d_X0_row_110 : decode prog_1_method_3_code 110 = .ok (.getfield 78, 3) := by decide +kernel
theorem d_X0_row_113 : decode prog_1_method_3_code 113 = .ok (.ireturn, 1) := by decide +kernel
abbrev y_X2_refuses : MethodName := ⟨"VirtualRewrite$Table", "refuses", "(II)Z"⟩
theorem d_X2_refuses_0 : decode prog_9_method_5_code 0 = .ok (.aload_n 0, 1) := by decide +kernel
theorem d_X2_refuses_1 : decode prog_9_method_5_code 1 = .ok (.getfield 15, 3) := by decide +kernel
theorem d_X2_refuses_4 : decode prog_9_method_5_code 4 = .ok (.iload_n 1, 1) := by decide +kernel
theorem d_X2_refuses_5 : decode prog_9_method_5_code 5 = .ok (.baload, 1) := by decide +kernel
theorem d_X2_refuses_6 : decode prog_9_method_5_code 6 = .ok (.ifCond .eq 20, 3) := by decide +kernel
theorem d_X2_refuses_9 : decode prog_9_method_5_code 9 = .ok (.aload_n 0, 1) := by decide +kernel
theorem d_X2_refuses_10 : decode prog_9_method_5_code 10 = .ok (.iload_n 1, 1) := by decide +kernel
theorem d_X2_refuses_11 : decode prog_9_method_5_code 11 = .ok (.iload_n 2, 1) := by decide +kernel
theorem d_X2_refuses_12 : decode prog_9_method_5_code 12 = .ok (.aload_n 0, 1) := by decide +kernel
theorem d_X2_refuses_13 : decode prog_9_method_5_code 13 = .ok (.getfield 19, 3) := by decide +kernel
theorem d_X2_refuses_16 : decode prog_9_method_5_code 16 = .ok (.invokevirtual 27, 3) := by decide +kernel
theorem d_X2_refuses_19 : decode prog_9_method_5_code 19 = .ok (.ifCond .eq 7, 3) := by decide +kernel
theorem d_X2_refuses_22 : decode prog_9_method_5_code 22 = .ok (.iconst 1, 1) := by decide +kernel
theorem d_X2_refuses_23 : decode prog_9_method_5_code 23 = .ok (.goto 4, 3) := by decide +kernel
theorem d_X2_refuses_26 : decode prog_9_method_5_code 26 = .ok (.iconst 0, 1) := by decide +kernel
theorem d_X2_refuses_27 : decode prog_9_method_5_code 27 = .ok (.ireturn, 1) := by decide +kernel
end
section
abbrev y_X2_append : MethodName := ⟨"VirtualRewrite$Table", "append", "(III)V"⟩
theorem d_X2_append_0 : decode prog_9_method_6_code 0 = .ok (.aload_n 0, 1) := by decide +kernel
theorem d_X2_append_1 : decode prog_9_method_6_code 1 = .ok (.getfield 19, 3) := by decide +kernel
theorem d_X2_append_4 : decode prog_9_method_6_code 4 = .ok (.iconst 3, 1) := by decide +kernel
theorem d_X2_append_5 : decode prog_9_method_6_code 5 = .ok (.imul, 1) := by decide +kernel
theorem d_X2_append_6 : decode prog_9_method_6_code 6 = .ok (.istore 4, 2) := by decide +kernel
theorem d_X2_append_8 : decode prog_9_method_6_code 8 = .ok (.aload_n 0, 1) := by decide +kernel
theorem d_X2_append_9 : decode prog_9_method_6_code 9 = .ok (.getfield 9, 3) := by decide +kernel
theorem d_X2_append_12 : decode prog_9_method_6_code 12 = .ok (.iload 4, 2) := by decide +kernel
theorem d_X2_append_14 : decode prog_9_method_6_code 14 = .ok (.iload_n 1, 1) := by decide +kernel
theorem d_X2_append_15 : decode prog_9_method_6_code 15 = .ok (.iastore, 1) := by decide +kernel
theorem d_X2_append_16 : decode prog_9_method_6_code 16 = .ok (.aload_n 0, 1) := by decide +kernel
theorem d_X2_append_17 : decode prog_9_method_6_code 17 = .ok (.getfield 9, 3) := by decide +kernel
theorem d_X2_append_20 : decode prog_9_method_6_code 20 = .ok (.iload 4, 2) := by decide +kernel
theorem d_X2_append_22 : decode prog_9_method_6_code 22 = .ok (.iconst 1, 1) := by decide +kernel
theorem d_X2_append_23 : decode prog_9_method_6_code 23 = .ok (.iadd, 1) := by decide +kernel
theorem d_X2_append_24 : decode prog_9_method_6_code 24 = .ok (.iload_n 2, 1) := by decide +kernel
theorem d_X2_append_25 : decode prog_9_method_6_code 25 = .ok (.iastore, 1) := by decide +kernel
theorem d_X2_append_26 : decode prog_9_method_6_code 26 = .ok (.aload_n 0, 1) := by decide +kernel
theorem d_X2_append_27 : decode prog_9_method_6_code 27 = .ok (.getfield 9, 3) := by decide +kernel
theorem d_X2_append_30 : decode prog_9_method_6_code 30 = .ok (.iload 4, 2) := by decide +kernel
theorem d_X2_append_32 : decode prog_9_method_6_code 32 = .ok (.iconst 2, 1) := by decide +kernel
theorem d_X2_append_33 : decode prog_9_method_6_code 33 = .ok (.iadd, 1) := by decide +kernel
theorem d_X2_append_34 : decode prog_9_method_6_code 34 = .ok (.iload_n 3, 1) := by decide +kernel
theorem d_X2_append_35 : decode prog_9_method_6_code 35 = .ok (.iastore, 1) := by decide +kernel
theorem d_X2_append_36 : decode prog_9_method_6_code 36 = .ok (.aload_n 0, 1) := by decide +kernel
theorem d_X2_append_37 : decode prog_9_method_6_code 37 = .ok (.dup, 1) := by decide +kernel
theorem d_X2_append_38 : decode prog_9_method_6_code 38 = .ok (.getfield 19, 3) := by decide +kernel
theorem d_X2_append_41 : decode prog_9_method_6_code 41 = .ok (.iconst 1, 1) := by decide +kernel
theorem d_X2_append_42 : decode prog_9_method_6_code 42 = .ok (.iadd, 1) := by decide +kernel
theorem d_X2_append_43 : decode prog_9_method_6_code 43 = .ok (.putfield 19, 3) := by decide +kernel
theorem d_X2_append_46 : decode prog_9_method_6_code 46 = .ok (.return_, 1) := by decide +kernel
abbrev y_X0_drop : MethodName := ⟨"VirtualRewrite", "drop", "(II)I"⟩
theorem d_X0_drop_0 : decode prog_1_method_4_code 0 = .ok (.iload_n 1, 1) := by decide +kernel
theorem d_X0_drop_1 : decode prog_1_method_4_code 1 = .ok (.iconst 4, 1) := by decide +kernel
theorem d_X0_drop_2 : decode prog_1_method_4_code 2 = .ok (.invokestatic 57, 3) := by decide +kernel
theorem d_X0_drop_5 : decode prog_1_method_4_code 5 = .ok (.ifCond .eq 22, 3) := by decide +kernel
theorem d_X0_drop_8 : decode prog_1_method_4_code 8 = .ok (.iload_n 2, 1) := by decide +kernel
theorem d_X0_drop_9 : decode prog_1_method_4_code 9 = .ok (.aload_n 0, 1) := by decide +kernel
theorem d_X0_drop_10 : decode prog_1_method_4_code 10 = .ok (.getfield 12, 3) := by decide +kernel
theorem d_X0_drop_13 : decode prog_1_method_4_code 13 = .ok (.getfield 61, 3) := by decide +kernel
theorem d_X0_drop_16 : decode prog_1_method_4_code 16 = .ok (.iload_n 1, 1) := by decide +kernel
theorem d_X0_drop_17 : decode prog_1_method_4_code 17 = .ok (.aaload, 1) := by decide +kernel
theorem d_X0_drop_18 : decode prog_1_method_4_code 18 = .ok (.getfield 78, 3) := by decide +kernel
theorem d_X0_drop_21 : decode prog_1_method_4_code 21 = .ok (.invokestatic 57, 3) := by decide +kernel
theorem d_X0_drop_24 : decode prog_1_method_4_code 24 = .ok (.ifCond .ne 5, 3) := by decide +kernel
theorem d_X0_drop_27 : decode prog_1_method_4_code 27 = .ok (.iconst (-1), 1) := by decide +kernel
theorem d_X0_drop_28 : decode prog_1_method_4_code 28 = .ok (.ireturn, 1) := by decide +kernel
theorem d_X0_drop_29 : decode prog_1_method_4_code 29 = .ok (.aload_n 0, 1) := by decide +kernel
theorem d_X0_drop_30 : decode prog_1_method_4_code 30 = .ok (.getfield 12, 3) := by decide +kernel
theorem d_X0_drop_33 : decode prog_1_method_4_code 33 = .ok (.getfield 61, 3) := by decide +kernel
theorem d_X0_drop_36 : decode prog_1_method_4_code 36 = .ok (.iload_n 1, 1) := by decide +kernel
theorem d_X0_drop_37 : decode prog_1_method_4_code 37 = .ok (.aaload, 1) := by decide +kernel
theorem d_X0_drop_38 : decode prog_1_method_4_code 38 = .ok (.iload_n 2, 1) := by decide +kernel
theorem d_X0_drop_39 : decode prog_1_method_4_code 39 = .ok (.invokevirtual 86, 3) := by decide +kernel
theorem d_X0_drop_42 : decode prog_1_method_4_code 42 = .ok (.aload_n 0, 1) := by decide +kernel
theorem d_X0_drop_43 : decode prog_1_method_4_code 43 = .ok (.getfield 12, 3) := by decide +kernel
theorem d_X0_drop_46 : decode prog_1_method_4_code 46 = .ok (.getfield 61, 3) := by decide +kernel
theorem d_X0_drop_49 : decode prog_1_method_4_code 49 = .ok (.iload_n 1, 1) := by decide +kernel
theorem d_X0_drop_50 : decode prog_1_method_4_code 50 = .ok (.aaload, 1) := by decide +kernel
theorem d_X0_drop_51 : decode prog_1_method_4_code 51 = .ok (.getfield 78, 3) := by decide +kernel
theorem d_X0_drop_54 : decode prog_1_method_4_code 54 = .ok (.ireturn, 1) := by decide +kernel
abbrev y_X2_remove : MethodName := ⟨"VirtualRewrite$Table", "remove", "(I)V"⟩
theorem d_X2_remove_0 : decode prog_9_method_7_code 0 = .ok (.aload_n 0, 1) := by decide +kernel
theorem d_X2_remove_1 : decode prog_9_method_7_code 1 = .ok (.getfield 19, 3) := by decide +kernel
theorem d_X2_remove_4 : decode prog_9_method_7_code 4 = .ok (.iload_n 1, 1) := by decide +kernel
theorem d_X2_remove_5 : decode prog_9_method_7_code 5 = .ok (.isub, 1) := by decide +kernel
theorem d_X2_remove_6 : decode prog_9_method_7_code 6 = .ok (.iconst 1, 1) := by decide +kernel
theorem d_X2_remove_7 : decode prog_9_method_7_code 7 = .ok (.isub, 1) := by decide +kernel
theorem d_X2_remove_8 : decode prog_9_method_7_code 8 = .ok (.istore_n 2, 1) := by decide +kernel
theorem d_X2_remove_9 : decode prog_9_method_7_code 9 = .ok (.aload_n 0, 1) := by decide +kernel
theorem d_X2_remove_10 : decode prog_9_method_7_code 10 = .ok (.getfield 9, 3) := by decide +kernel
theorem d_X2_remove_13 : decode prog_9_method_7_code 13 = .ok (.iload_n 1, 1) := by decide +kernel
theorem d_X2_remove_14 : decode prog_9_method_7_code 14 = .ok (.iconst 1, 1) := by decide +kernel
theorem d_X2_remove_15 : decode prog_9_method_7_code 15 = .ok (.iadd, 1) := by decide +kernel
theorem d_X2_remove_16 : decode prog_9_method_7_code 16 = .ok (.iconst 3, 1) := by decide +kernel
theorem d_X2_remove_17 : decode prog_9_method_7_code 17 = .ok (.imul, 1) := by decide +kernel
theorem d_X2_remove_18 : decode prog_9_method_7_code 18 = .ok (.aload_n 0, 1) := by decide +kernel
theorem d_X2_remove_19 : decode prog_9_method_7_code 19 = .ok (.getfield 9, 3) := by decide +kernel
theorem d_X2_remove_22 : decode prog_9_method_7_code 22 = .ok (.iload_n 1, 1) := by decide +kernel
theorem d_X2_remove_23 : decode prog_9_method_7_code 23 = .ok (.iconst 3, 1) := by decide +kernel
theorem d_X2_remove_24 : decode prog_9_method_7_code 24 = .ok (.imul, 1) := by decide +kernel
theorem d_X2_remove_25 : decode prog_9_method_7_code 25 = .ok (.iload_n 2, 1) := by decide +kernel
theorem d_X2_remove_26 : decode prog_9_method_7_code 26 = .ok (.iconst 3, 1) := by decide +kernel
theorem d_X2_remove_27 : decode prog_9_method_7_code 27 = .ok (.imul, 1) := by decide +kernel
theorem d_X2_remove_28 : decode prog_9_method_7_code 28 = .ok (.invokestatic 31, 3) := by decide +kernel
theorem d_X2_remove_31 : decode prog_9_method_7_code 31 = .ok (.aload_n 0, 1) := by decide +kernel
theorem d_X2_remove_32 : decode prog_9_method_7_code 32 = .ok (.dup, 1) := by decide +kernel
theorem d_X2_remove_33 : decode prog_9_method_7_code 33 = .ok (.getfield 19, 3) := by decide +kernel
theorem d_X2_remove_36 : decode prog_9_method_7_code 36 = .ok (.iconst 1, 1) := by decide +kernel
theorem d_X2_remove_37 : decode prog_9_method_7_code 37 = .ok (.isub, 1) := by decide +kernel
theorem d_X2_remove_38 : decode prog_9_method_7_code 38 = .ok (.putfield 19, 3) := by decide +kernel
theorem d_X2_remove_41 : decode prog_9_method_7_code 41 = .ok (.return_, 1) := by decide +kernel
abbrev y_X0_mapping : MethodName := ⟨"VirtualRewrite", "mapping", "(IIIIII)I"⟩
theorem d_X0_mapping_0 : decode prog_1_method_5_code 0 = .ok (.iload_n 1, 1) := by decide +kernel
theorem d_X0_mapping_1 : decode prog_1_method_5_code 1 = .ok (.iconst 4, 1) := by decide +kernel
theorem d_X0_mapping_2 : decode prog_1_method_5_code 2 = .ok (.invokestatic 57, 3) := by decide +kernel
theorem d_X0_mapping_5 : decode prog_1_method_5_code 5 = .ok (.ifCond .eq 12, 3) := by decide +kernel
theorem d_X0_mapping_8 : decode prog_1_method_5_code 8 = .ok (.iload_n 2, 1) := by decide +kernel
theorem d_X0_mapping_9 : decode prog_1_method_5_code 9 = .ok (.bipush 8, 2) := by decide +kernel
theorem d_X0_mapping_11 : decode prog_1_method_5_code 11 = .ok (.invokestatic 57, 3) := by decide +kernel
theorem d_X0_mapping_14 : decode prog_1_method_5_code 14 = .ok (.ifCond .ne 5, 3) := by decide +kernel
theorem d_X0_mapping_17 : decode prog_1_method_5_code 17 = .ok (.iconst (-1), 1) := by decide +kernel
theorem d_X0_mapping_18 : decode prog_1_method_5_code 18 = .ok (.ireturn, 1) := by decide +kernel
theorem d_X0_mapping_19 : decode prog_1_method_5_code 19 = .ok (.iload_n 3, 1) := by decide +kernel
theorem d_X0_mapping_20 : decode prog_1_method_5_code 20 = .ok (.bipush 6, 2) := by decide +kernel
theorem d_X0_mapping_22 : decode prog_1_method_5_code 22 = .ok (.invokestatic 57, 3) := by decide +kernel
theorem d_X0_mapping_25 : decode prog_1_method_5_code 25 = .ok (.ifCond .eq 12, 3) := by decide +kernel
theorem d_X0_mapping_28 : decode prog_1_method_5_code 28 = .ok (.iload 4, 2) := by decide +kernel
theorem d_X0_mapping_30 : decode prog_1_method_5_code 30 = .ok (.iconst 3, 1) := by decide +kernel
theorem d_X0_mapping_31 : decode prog_1_method_5_code 31 = .ok (.invokestatic 57, 3) := by decide +kernel
theorem d_X0_mapping_34 : decode prog_1_method_5_code 34 = .ok (.ifCond .ne 5, 3) := by decide +kernel
theorem d_X0_mapping_37 : decode prog_1_method_5_code 37 = .ok (.iconst (-1), 1) := by decide +kernel
theorem d_X0_mapping_38 : decode prog_1_method_5_code 38 = .ok (.ireturn, 1) := by decide +kernel
theorem d_X0_mapping_39 : decode prog_1_method_5_code 39 = .ok (.iload 5, 2) := by decide +kernel
theorem d_X0_mapping_41 : decode prog_1_method_5_code 41 = .ok (.bipush 6, 2) := by decide +kernel
theorem d_X0_mapping_43 : decode prog_1_method_5_code 43 = .ok (.invokestatic 57, 3) := by decide +kernel
theorem d_X0_mapping_46 : decode prog_1_method_5_code 46 = .ok (.ifCond .eq 12, 3) := by decide +kernel
theorem d_X0_mapping_49 : decode prog_1_method_5_code 49 = .ok (.iload 6, 2) := by decide +kernel
theorem d_X0_mapping_51 : decode prog_1_method_5_code 51 = .ok (.iconst 3, 1) := by decide +kernel
theorem d_X0_mapping_52 : decode prog_1_method_5_code 52 = .ok (.invokestatic 57, 3) := by decide +kernel
theorem d_X0_mapping_55 : decode prog_1_method_5_code 55 = .ok (.ifCond .ne 5, 3) := by decide +kernel
theorem d_X0_mapping_58 : decode prog_1_method_5_code 58 = .ok (.iconst (-1), 1) := by decide +kernel
theorem d_X0_mapping_59 : decode prog_1_method_5_code 59 = .ok (.ireturn, 1) := by decide +kernel
theorem d_X0_mapping_60 : decode prog_1_method_5_code 60 = .ok (.aload_n 0, 1) := by decide +kernel
theorem d_X0_mapping_61 : decode prog_1_method_5_code 61 = .ok (.getfield 12, 3) := by decide +kernel
theorem d_X0_mapping_64 : decode prog_1_method_5_code 64 = .ok (.getfield 90, 3) := by decide +kernel
theorem d_X0_mapping_67 : decode prog_1_method_5_code 67 = .ok (.bipush 12, 2) := by decide +kernel
theorem d_X0_mapping_69 : decode prog_1_method_5_code 69 = .ok (.if_icmp .lt 6, 3) := by decide +kernel
theorem d_X0_mapping_72 : decode prog_1_method_5_code 72 = .ok (.bipush (-2), 2) := by decide +kernel
theorem d_X0_mapping_74 : decode prog_1_method_5_code 74 = .ok (.ireturn, 1) := by decide +kernel
theorem d_X0_mapping_75 : decode prog_1_method_5_code 75 = .ok (.aload_n 0, 1) := by decide +kernel
theorem d_X0_mapping_76 : decode prog_1_method_5_code 76 = .ok (.getfield 12, 3) := by decide +kernel
theorem d_X0_mapping_79 : decode prog_1_method_5_code 79 = .ok (.getfield 91, 3) := by decide +kernel
theorem d_X0_mapping_82 : decode prog_1_method_5_code 82 = .ok (.aload_n 0, 1) := by decide +kernel
theorem d_X0_mapping_83 : decode prog_1_method_5_code 83 = .ok (.getfield 12, 3) := by decide +kernel
theorem d_X0_mapping_86 : decode prog_1_method_5_code 86 = .ok (.getfield 90, 3) := by decide +kernel
theorem d_X0_mapping_89 : decode prog_1_method_5_code 89 = .ok (.aaload, 1) := by decide +kernel
theorem d_X0_mapping_90 : decode prog_1_method_5_code 90 = .ok (.astore 7, 2) := by decide +kernel
theorem d_X0_mapping_92 : decode prog_1_method_5_code 92 = .ok (.aload 7, 2) := by decide +kernel
theorem d_X0_mapping_94 : decode prog_1_method_5_code 94 = .ok (.iload_n 1, 1) := by decide +kernel
theorem d_X0_mapping_95 : decode prog_1_method_5_code 95 = .ok (.putfield 95, 3) := by decide +kernel
theorem d_X0_mapping_98 : decode prog_1_method_5_code 98 = .ok (.aload 7, 2) := by decide +kernel
theorem d_X0_mapping_100 : decode prog_1_method_5_code 100 = .ok (.iload_n 2, 1) := by decide +kernel
theorem d_X0_mapping_101 : decode prog_1_method_5_code 101 = .ok (.putfield 100, 3) := by decide +kernel
theorem d_X0_mapping_104 : decode prog_1_method_5_code 104 = .ok (.aload 7, 2) := by decide +kernel
theorem d_X0_mapping_106 : decode prog_1_method_5_code 106 = .ok (.iconst 0, 1) := by decide +kernel
theorem d_X0_mapping_107 : decode prog_1_method_5_code 107 = .ok (.iload_n 3, 1) := by decide +kernel
theorem d_X0_mapping_108 : decode prog_1_method_5_code 108 = .ok (.iload 4, 2) := by decide +kernel
theorem d_X0_mapping_110 : decode prog_1_method_5_code 110 = .ok (.invokevirtual 103, 3) := by decide +kernel
theorem d_X0_mapping_113 : decode prog_1_method_5_code 113 = .ok (.aload 7, 2) := by decide +kernel
theorem d_X0_mapping_115 : decode prog_1_method_5_code 115 = .ok (.iconst 1, 1) := by decide +kernel
theorem d_X0_mapping_116 : decode prog_1_method_5_code 116 = .ok (.iload 5, 2) := by decide +kernel
theorem d_X0_mapping_118 : decode prog_1_method_5_code 118 = .ok (.iload 6, 2) := by decide +kernel
theorem d_X0_mapping_120 : decode prog_1_method_5_code 120 = .ok (.invokevirtual 103, 3) := by decide +kernel
theorem d_X0_mapping_123 : decode prog_1_method_5_code 123 = .ok (.aload_n 0, 1) := by decide +kernel
theorem d_X0_mapping_124 : decode prog_1_method_5_code 124 = .ok (.getfield 12, 3) := by decide +kernel
theorem d_X0_mapping_127 : decode prog_1_method_5_code 127 = .ok (.dup, 1) := by decide +kernel
theorem d_X0_mapping_128 : decode prog_1_method_5_code 128 = .ok (.getfield 90, 3) := by decide +kernel
theorem d_X0_mapping_131 : decode prog_1_method_5_code 131 = .ok (.iconst 1, 1) := by decide +kernel
theorem d_X0_mapping_132 : decode prog_1_method_5_code 132 = .ok (.iadd, 1) := by decide +kernel
theorem d_X0_mapping_133 : decode prog_1_method_5_code 133 = .ok (.putfield 90, 3) := by decide +kernel
theorem d_X0_mapping_136 : decode prog_1_method_5_code 136 = .ok (.aload_n 0, 1) := by decide +kernel
theorem d_X0_mapping_137 : decode prog_1_method_5_code 137 = .ok (.getfield 28, 3) := by decide +kernel
theorem d_X0_mapping_140 : decode prog_1_method_5_code 140 = .ok (.invokevirtual 106, 3) := by decide +kernel
theorem d_X0_mapping_143 : decode prog_1_method_5_code 143 = .ok (.aload_n 0, 1) := by decide +kernel
theorem d_X0_mapping_144 : decode prog_1_method_5_code 144 = .ok (.getfield 12, 3) := by decide +kernel
theorem d_X0_mapping_147 : decode prog_1_method_5_code 147 = .ok (.getfield 90, 3) := by decide +kernel
theorem d_X0_mapping_150 : decode prog_1_method_5_code 150 = .ok (.iconst 1, 1) := by decide +kernel
theorem d_X0_mapping_151 : decode prog_1_method_5_code 151 = .ok (.isub, 1) := by decide +kernel
theorem d_X0_mapping_152 : decode prog_1_method_5_code 152 = .ok (.ireturn, 1) := by decide +kernel
abbrev y_X3_describe : MethodName := ⟨"VirtualRewrite$Mapping", "describe", "(III)V"⟩
theorem d_X3_describe_0 : decode prog_5_method_2_code 0 = .ok (.aload_n 0, 1) := by decide +kernel
theorem d_X3_describe_1 : decode prog_5_method_2_code 1 = .ok (.getfield 9, 3) := by decide +kernel
theorem d_X3_describe_4 : decode prog_5_method_2_code 4 = .ok (.iload_n 1, 1) := by decide +kernel
theorem d_X3_describe_5 : decode prog_5_method_2_code 5 = .ok (.iload_n 2, 1) := by decide +kernel
theorem d_X3_describe_6 : decode prog_5_method_2_code 6 = .ok (.iastore, 1) := by decide +kernel
theorem d_X3_describe_7 : decode prog_5_method_2_code 7 = .ok (.aload_n 0, 1) := by decide +kernel
theorem d_X3_describe_8 : decode prog_5_method_2_code 8 = .ok (.getfield 15, 3) := by decide +kernel
theorem d_X3_describe_11 : decode prog_5_method_2_code 11 = .ok (.iload_n 1, 1) := by decide +kernel
theorem d_X3_describe_12 : decode prog_5_method_2_code 12 = .ok (.iload_n 3, 1) := by decide +kernel
theorem d_X3_describe_13 : decode prog_5_method_2_code 13 = .ok (.iastore, 1) := by decide +kernel
theorem d_X3_describe_14 : decode prog_5_method_2_code 14 = .ok (.return_, 1) := by decide +kernel
abbrev y_X5_forget : MethodName := ⟨"VirtualRewrite$Rewriting", "forget", "()V"⟩
theorem d_X5_forget_0 : decode prog_7_method_5_code 0 = .ok (.aload_n 0, 1) := by decide +kernel
theorem d_X5_forget_1 : decode prog_7_method_5_code 1 = .ok (.iconst 0, 1) := by decide +kernel
theorem d_X5_forget_2 : decode prog_7_method_5_code 2 = .ok (.putfield 29, 3) := by decide +kernel
theorem d_X5_forget_5 : decode prog_7_method_5_code 5 = .ok (.return_, 1) := by decide +kernel
abbrev y_X0_triples : MethodName := ⟨"VirtualRewrite", "triples", "()I"⟩
theorem d_X0_triples_0 : decode prog_1_method_6_code 0 = .ok (.aload_n 0, 1) := by decide +kernel
theorem d_X0_triples_1 : decode prog_1_method_6_code 1 = .ok (.getfield 12, 3) := by decide +kernel
theorem d_X0_triples_4 : decode prog_1_method_6_code 4 = .ok (.invokevirtual 109, 3) := by decide +kernel
theorem d_X0_triples_7 : decode prog_1_method_6_code 7 = .ok (.ireturn, 1) := by decide +kernel
abbrev y_X1_countTriples : MethodName := ⟨"VirtualRewrite$Catalog", "countTriples", "()I"⟩
theorem d_X1_countTriples_0 : decode prog_3_method_3_code 0 = .ok (.aload_n 0, 1) := by decide +kernel
theorem d_X1_countTriples_1 : decode prog_3_method_3_code 1 = .ok (.iconst 0, 1) := by decide +kernel
theorem d_X1_countTriples_2 : decode prog_3_method_3_code 2 = .ok (.putfield 31, 3) := by decide +kernel
theorem d_X1_countTriples_5 : decode prog_3_method_3_code 5 = .ok (.iconst 0, 1) := by decide +kernel
theorem d_X1_countTriples_6 : decode prog_3_method_3_code 6 = .ok (.istore_n 1, 1) := by decide +kernel
theorem d_X1_countTriples_7 : decode prog_3_method_3_code 7 = .ok (.iload_n 1, 1) := by decide +kernel
theorem d_X1_countTriples_8 : decode prog_3_method_3_code 8 = .ok (.aload_n 0, 1) := by decide +kernel
theorem d_X1_countTriples_9 : decode prog_3_method_3_code 9 = .ok (.getfield 27, 3) := by decide +kernel
theorem d_X1_countTriples_12 : decode prog_3_method_3_code 12 = .ok (.if_icmp .ge 51, 3) := by decide +kernel
theorem d_X1_countTriples_15 : decode prog_3_method_3_code 15 = .ok (.aload_n 0, 1) := by decide +kernel
theorem d_X1_countTriples_16 : decode prog_3_method_3_code 16 = .ok (.aload_n 0, 1) := by decide +kernel
theorem d_X1_countTriples_17 : decode prog_3_method_3_code 17 = .ok (.getfield 19, 3) := by decide +kernel
theorem d_X1_countTriples_20 : decode prog_3_method_3_code 20 = .ok (.iload_n 1, 1) := by decide +kernel
theorem d_X1_countTriples_21 : decode prog_3_method_3_code 21 = .ok (.aaload, 1) := by decide +kernel
theorem d_X1_countTriples_22 : decode prog_3_method_3_code 22 = .ok (.invokevirtual 39, 3) := by decide +kernel
theorem d_X1_countTriples_25 : decode prog_3_method_3_code 25 = .ok (.getfield 43, 3) := by decide +kernel
theorem d_X1_countTriples_28 : decode prog_3_method_3_code 28 = .ok (.istore_n 2, 1) := by decide +kernel
theorem d_X1_countTriples_29 : decode prog_3_method_3_code 29 = .ok (.iconst 0, 1) := by decide +kernel
theorem d_X1_countTriples_30 : decode prog_3_method_3_code 30 = .ok (.istore_n 3, 1) := by decide +kernel
theorem d_X1_countTriples_31 : decode prog_3_method_3_code 31 = .ok (.iload_n 3, 1) := by decide +kernel
theorem d_X1_countTriples_32 : decode prog_3_method_3_code 32 = .ok (.iload_n 2, 1) := by decide +kernel
theorem d_X1_countTriples_33 : decode prog_3_method_3_code 33 = .ok (.if_icmp .ge 24, 3) := by decide +kernel
theorem d_X1_countTriples_36 : decode prog_3_method_3_code 36 = .ok (.aload_n 0, 1) := by decide +kernel
theorem d_X1_countTriples_37 : decode prog_3_method_3_code 37 = .ok (.aload_n 0, 1) := by decide +kernel
theorem d_X1_countTriples_38 : decode prog_3_method_3_code 38 = .ok (.aload_n 0, 1) := by decide +kernel
theorem d_X1_countTriples_39 : decode prog_3_method_3_code 39 = .ok (.getfield 19, 3) := by decide +kernel
theorem d_X1_countTriples_42 : decode prog_3_method_3_code 42 = .ok (.iload_n 1, 1) := by decide +kernel
theorem d_X1_countTriples_43 : decode prog_3_method_3_code 43 = .ok (.aaload, 1) := by decide +kernel
theorem d_X1_countTriples_44 : decode prog_3_method_3_code 44 = .ok (.iload_n 3, 1) := by decide +kernel
theorem d_X1_countTriples_45 : decode prog_3_method_3_code 45 = .ok (.invokevirtual 44, 3) := by decide +kernel
theorem d_X1_countTriples_48 : decode prog_3_method_3_code 48 = .ok (.invokevirtual 48, 3) := by decide +kernel
theorem d_X1_countTriples_51 : decode prog_3_method_3_code 51 = .ok (.iinc 3 1, 3) := by decide +kernel
theorem d_X1_countTriples_54 : decode prog_3_method_3_code 54 = .ok (.goto (-23), 3) := by decide +kernel
theorem d_X1_countTriples_57 : decode prog_3_method_3_code 57 = .ok (.iinc 1 1, 3) := by decide +kernel
theorem d_X1_countTriples_60 : decode prog_3_method_3_code 60 = .ok (.goto (-53), 3) := by decide +kernel
theorem d_X1_countTriples_63 : decode prog_3_method_3_code 63 = .ok (.aload_n 0, 1) := by decide +kernel
theorem d_X1_countTriples_64 : decode prog_3_method_3_code 64 = .ok (.getfield 31, 3) := by decide +kernel
theorem d_X1_countTriples_67 : decode prog_3_method_3_code 67 = .ok (.ireturn, 1) := by decide +kernel
abbrev y_X1_tableOf : MethodName := ⟨"VirtualRewrite$Catalog", "tableOf", "(LVirtualRewrite$Mapping;)LVirtualRewrite$Table;"⟩
theorem d_X1_tableOf_0 : decode prog_3_method_2_code 0 = .ok (.aload_n 0, 1) := by decide +kernel
theorem d_X1_tableOf_1 : decode prog_3_method_2_code 1 = .ok (.getfield 11, 3) := by decide +kernel
theorem d_X1_tableOf_4 : decode prog_3_method_2_code 4 = .ok (.aload_n 1, 1) := by decide +kernel
theorem d_X1_tableOf_5 : decode prog_3_method_2_code 5 = .ok (.getfield 36, 3) := by decide +kernel
theorem d_X1_tableOf_8 : decode prog_3_method_2_code 8 = .ok (.aaload, 1) := by decide +kernel
theorem d_X1_tableOf_9 : decode prog_3_method_2_code 9 = .ok (.areturn, 1) := by decide +kernel
abbrev y_X1_packedTriple : MethodName := ⟨"VirtualRewrite$Catalog", "packedTriple", "(LVirtualRewrite$Mapping;I)J"⟩
theorem d_X1_packedTriple_0 : decode prog_3_method_4_code 0 = .ok (.aload_n 1, 1) := by decide +kernel
theorem d_X1_packedTriple_1 : decode prog_3_method_4_code 1 = .ok (.getfield 52, 3) := by decide +kernel
theorem d_X1_packedTriple_4 : decode prog_3_method_4_code 4 = .ok (.i2l, 1) := by decide +kernel
theorem d_X1_packedTriple_5 : decode prog_3_method_4_code 5 = .ok (.lstore_n 3, 1) := by decide +kernel
theorem d_X1_packedTriple_6 : decode prog_3_method_4_code 6 = .ok (.iconst 0, 1) := by decide +kernel
theorem d_X1_packedTriple_7 : decode prog_3_method_4_code 7 = .ok (.istore 5, 2) := by decide +kernel
theorem d_X1_packedTriple_9 : decode prog_3_method_4_code 9 = .ok (.iload 5, 2) := by decide +kernel
theorem d_X1_packedTriple_11 : decode prog_3_method_4_code 11 = .ok (.iconst 2, 1) := by decide +kernel
theorem d_X1_packedTriple_12 : decode prog_3_method_4_code 12 = .ok (.if_icmp .ge 50, 3) := by decide +kernel
theorem d_X1_packedTriple_15 : decode prog_3_method_4_code 15 = .ok (.aload_n 0, 1) := by decide +kernel
theorem d_X1_packedTriple_16 : decode prog_3_method_4_code 16 = .ok (.aload_n 1, 1) := by decide +kernel
theorem d_X1_packedTriple_17 : decode prog_3_method_4_code 17 = .ok (.invokevirtual 39, 3) := by decide +kernel
theorem d_X1_packedTriple_20 : decode prog_3_method_4_code 20 = .ok (.iload_n 2, 1) := by decide +kernel
theorem d_X1_packedTriple_21 : decode prog_3_method_4_code 21 = .ok (.aload_n 1, 1) := by decide +kernel
theorem d_X1_packedTriple_22 : decode prog_3_method_4_code 22 = .ok (.getfield 55, 3) := by decide +kernel
theorem d_X1_packedTriple_25 : decode prog_3_method_4_code 25 = .ok (.iload 5, 2) := by decide +kernel
theorem d_X1_packedTriple_27 : decode prog_3_method_4_code 27 = .ok (.iaload, 1) := by decide +kernel
theorem d_X1_packedTriple_28 : decode prog_3_method_4_code 28 = .ok (.invokevirtual 59, 3) := by decide +kernel
theorem d_X1_packedTriple_31 : decode prog_3_method_4_code 31 = .ok (.istore 6, 2) := by decide +kernel
theorem d_X1_packedTriple_33 : decode prog_3_method_4_code 33 = .ok (.lload_n 3, 1) := by decide +kernel
theorem d_X1_packedTriple_34 : decode prog_3_method_4_code 34 = .ok (.ldc2_w 63, 3) := by decide +kernel
theorem d_X1_packedTriple_37 : decode prog_3_method_4_code 37 = .ok (.lmul, 1) := by decide +kernel
theorem d_X1_packedTriple_38 : decode prog_3_method_4_code 38 = .ok (.aload_n 1, 1) := by decide +kernel
theorem d_X1_packedTriple_39 : decode prog_3_method_4_code 39 = .ok (.getfield 65, 3) := by decide +kernel
theorem d_X1_packedTriple_42 : decode prog_3_method_4_code 42 = .ok (.iload 5, 2) := by decide +kernel
theorem d_X1_packedTriple_44 : decode prog_3_method_4_code 44 = .ok (.iaload, 1) := by decide +kernel
theorem d_X1_packedTriple_45 : decode prog_3_method_4_code 45 = .ok (.sipush 10000, 3) := by decide +kernel
theorem d_X1_packedTriple_48 : decode prog_3_method_4_code 48 = .ok (.imul, 1) := by decide +kernel
theorem d_X1_packedTriple_49 : decode prog_3_method_4_code 49 = .ok (.i2l, 1) := by decide +kernel
theorem d_X1_packedTriple_50 : decode prog_3_method_4_code 50 = .ok (.ladd, 1) := by decide +kernel
theorem d_X1_packedTriple_51 : decode prog_3_method_4_code 51 = .ok (.iload 6, 2) := by decide +kernel
theorem d_X1_packedTriple_53 : decode prog_3_method_4_code 53 = .ok (.i2l, 1) := by decide +kernel
theorem d_X1_packedTriple_54 : decode prog_3_method_4_code 54 = .ok (.ladd, 1) := by decide +kernel
theorem d_X1_packedTriple_55 : decode prog_3_method_4_code 55 = .ok (.lstore_n 3, 1) := by decide +kernel
theorem d_X1_packedTriple_56 : decode prog_3_method_4_code 56 = .ok (.iinc 5 1, 3) := by decide +kernel
theorem d_X1_packedTriple_59 : decode prog_3_method_4_code 59 = .ok (.goto (-50), 3) := by decide +kernel
theorem d_X1_packedTriple_62 : decode prog_3_method_4_code 62 = .ok (.lload_n 3, 1) := by decide +kernel
theorem d_X1_packedTriple_63 : decode prog_3_method_4_code 63 = .ok (.lreturn, 1) := by decide +kernel
abbrev y_X1_keepTriple : MethodName := ⟨"VirtualRewrite$Catalog", "keepTriple", "(J)V"⟩
theorem d_X1_keepTriple_0 : decode prog_3_method_5_code 0 = .ok (.iconst 0, 1) := by decide +kernel
theorem d_X1_keepTriple_1 : decode prog_3_method_5_code 1 = .ok (.istore_n 3, 1) := by decide +kernel
theorem d_X1_keepTriple_2 : decode prog_3_method_5_code 2 = .ok (.aload_n 0, 1) := by decide +kernel
theorem d_X1_keepTriple_3 : decode prog_3_method_5_code 3 = .ok (.getfield 31, 3) := by decide +kernel
theorem d_X1_keepTriple_6 : decode prog_3_method_5_code 6 = .ok (.istore 4, 2) := by decide +kernel
theorem d_X1_keepTriple_8 : decode prog_3_method_5_code 8 = .ok (.iload_n 3, 1) := by decide +kernel
theorem d_X1_keepTriple_9 : decode prog_3_method_5_code 9 = .ok (.iload 4, 2) := by decide +kernel
theorem d_X1_keepTriple_11 : decode prog_3_method_5_code 11 = .ok (.if_icmp .ge 38, 3) := by decide +kernel
theorem d_X1_keepTriple_14 : decode prog_3_method_5_code 14 = .ok (.iload_n 3, 1) := by decide +kernel
theorem d_X1_keepTriple_15 : decode prog_3_method_5_code 15 = .ok (.iload 4, 2) := by decide +kernel
theorem d_X1_keepTriple_17 : decode prog_3_method_5_code 17 = .ok (.iadd, 1) := by decide +kernel
theorem d_X1_keepTriple_18 : decode prog_3_method_5_code 18 = .ok (.iconst 1, 1) := by decide +kernel
theorem d_X1_keepTriple_19 : decode prog_3_method_5_code 19 = .ok (.iushr, 1) := by decide +kernel
theorem d_X1_keepTriple_20 : decode prog_3_method_5_code 20 = .ok (.istore 5, 2) := by decide +kernel
theorem d_X1_keepTriple_22 : decode prog_3_method_5_code 22 = .ok (.aload_n 0, 1) := by decide +kernel
theorem d_X1_keepTriple_23 : decode prog_3_method_5_code 23 = .ok (.getfield 23, 3) := by decide +kernel
theorem d_X1_keepTriple_26 : decode prog_3_method_5_code 26 = .ok (.iload 5, 2) := by decide +kernel
theorem d_X1_keepTriple_28 : decode prog_3_method_5_code 28 = .ok (.laload, 1) := by decide +kernel
theorem d_X1_keepTriple_29 : decode prog_3_method_5_code 29 = .ok (.lload_n 1, 1) := by decide +kernel
theorem d_X1_keepTriple_30 : decode prog_3_method_5_code 30 = .ok (.lcmp, 1) := by decide +kernel
theorem d_X1_keepTriple_31 : decode prog_3_method_5_code 31 = .ok (.ifCond .ge 11, 3) := by decide +kernel
theorem d_X1_keepTriple_34 : decode prog_3_method_5_code 34 = .ok (.iload 5, 2) := by decide +kernel
theorem d_X1_keepTriple_36 : decode prog_3_method_5_code 36 = .ok (.iconst 1, 1) := by decide +kernel
theorem d_X1_keepTriple_37 : decode prog_3_method_5_code 37 = .ok (.iadd, 1) := by decide +kernel
theorem d_X1_keepTriple_38 : decode prog_3_method_5_code 38 = .ok (.istore_n 3, 1) := by decide +kernel
theorem d_X1_keepTriple_39 : decode prog_3_method_5_code 39 = .ok (.goto 7, 3) := by decide +kernel
theorem d_X1_keepTriple_42 : decode prog_3_method_5_code 42 = .ok (.iload 5, 2) := by decide +kernel
theorem d_X1_keepTriple_44 : decode prog_3_method_5_code 44 = .ok (.istore 4, 2) := by decide +kernel
theorem d_X1_keepTriple_46 : decode prog_3_method_5_code 46 = .ok (.goto (-38), 3) := by decide +kernel
theorem d_X1_keepTriple_49 : decode prog_3_method_5_code 49 = .ok (.iload_n 3, 1) := by decide +kernel
theorem d_X1_keepTriple_50 : decode prog_3_method_5_code 50 = .ok (.aload_n 0, 1) := by decide +kernel
theorem d_X1_keepTriple_51 : decode prog_3_method_5_code 51 = .ok (.getfield 31, 3) := by decide +kernel
theorem d_X1_keepTriple_54 : decode prog_3_method_5_code 54 = .ok (.if_icmp .ge 15, 3) := by decide +kernel
theorem d_X1_keepTriple_57 : decode prog_3_method_5_code 57 = .ok (.aload_n 0, 1) := by decide +kernel
theorem d_X1_keepTriple_58 : decode prog_3_method_5_code 58 = .ok (.getfield 23, 3) := by decide +kernel
theorem d_X1_keepTriple_61 : decode prog_3_method_5_code 61 = .ok (.iload_n 3, 1) := by decide +kernel
theorem d_X1_keepTriple_62 : decode prog_3_method_5_code 62 = .ok (.laload, 1) := by decide +kernel
theorem d_X1_keepTriple_63 : decode prog_3_method_5_code 63 = .ok (.lload_n 1, 1) := by decide +kernel
theorem d_X1_keepTriple_64 : decode prog_3_method_5_code 64 = .ok (.lcmp, 1) := by decide +kernel
theorem d_X1_keepTriple_65 : decode prog_3_method_5_code 65 = .ok (.ifCond .ne 4, 3) := by decide +kernel
theorem d_X1_keepTriple_68 : decode prog_3_method_5_code 68 = .ok (.return_, 1) := by decide +kernel
theorem d_X1_keepTriple_69 : decode prog_3_method_5_code 69 = .ok (.aload_n 0, 1) := by decide +kernel
theorem d_X1_keepTriple_70 : decode prog_3_method_5_code 70 = .ok (.getfield 23, 3) := by decide +kernel
theorem d_X1_keepTriple_73 : decode prog_3_method_5_code 73 = .ok (.iload_n 3, 1) := by decide +kernel
theorem d_X1_keepTriple_74 : decode prog_3_method_5_code 74 = .ok (.aload_n 0, 1) := by decide +kernel
theorem d_X1_keepTriple_75 : decode prog_3_method_5_code 75 = .ok (.getfield 23, 3) := by decide +kernel
theorem d_X1_keepTriple_78 : decode prog_3_method_5_code 78 = .ok (.iload_n 3, 1) := by decide +kernel
theorem d_X1_keepTriple_79 : decode prog_3_method_5_code 79 = .ok (.iconst 1, 1) := by decide +kernel
theorem d_X1_keepTriple_80 : decode prog_3_method_5_code 80 = .ok (.iadd, 1) := by decide +kernel
theorem d_X1_keepTriple_81 : decode prog_3_method_5_code 81 = .ok (.aload_n 0, 1) := by decide +kernel
theorem d_X1_keepTriple_82 : decode prog_3_method_5_code 82 = .ok (.getfield 31, 3) := by decide +kernel
theorem d_X1_keepTriple_85 : decode prog_3_method_5_code 85 = .ok (.iload_n 3, 1) := by decide +kernel
theorem d_X1_keepTriple_86 : decode prog_3_method_5_code 86 = .ok (.isub, 1) := by decide +kernel
theorem d_X1_keepTriple_87 : decode prog_3_method_5_code 87 = .ok (.invokestatic 68, 3) := by decide +kernel
theorem d_X1_keepTriple_90 : decode prog_3_method_5_code 90 = .ok (.aload_n 0, 1) := by decide +kernel
theorem d_X1_keepTriple_91 : decode prog_3_method_5_code 91 = .ok (.getfield 23, 3) := by decide +kernel
theorem d_X1_keepTriple_94 : decode prog_3_method_5_code 94 = .ok (.iload_n 3, 1) := by decide +kernel
theorem d_X1_keepTriple_95 : decode prog_3_method_5_code 95 = .ok (.lload_n 1, 1) := by decide +kernel
theorem d_X1_keepTriple_96 : decode prog_3_method_5_code 96 = .ok (.lastore, 1) := by decide +kernel
theorem d_X1_keepTriple_97 : decode prog_3_method_5_code 97 = .ok (.aload_n 0, 1) := by decide +kernel
theorem d_X1_keepTriple_98 : decode prog_3_method_5_code 98 = .ok (.dup, 1) := by decide +kernel
theorem d_X1_keepTriple_99 : decode prog_3_method_5_code 99 = .ok (.getfield 31, 3) := by decide +kernel
theorem d_X1_keepTriple_102 : decode prog_3_method_5_code 102 = .ok (.iconst 1, 1) := by decide +kernel
theorem d_X1_keepTriple_103 : decode prog_3_method_5_code 103 = .ok (.iadd, 1) := by decide +kernel
theorem d_X1_keepTriple_104 : decode prog_3_method_5_code 104 = .ok (.putfield 31, 3) := by decide +kernel
theorem d_X1_keepTriple_107 : decode prog_3_method_5_code 107 = .ok (.return_, 1) := by decide +kernel
abbrev y_X0_atom : MethodName := ⟨"VirtualRewrite", "atom", "(III)I"⟩
theorem d_X0_atom_0 : decode prog_1_method_7_code 0 = .ok (.iload_n 1, 1) := by decide +kernel
theorem d_X0_atom_1 : decode prog_1_method_7_code 1 = .ok (.bipush 8, 2) := by decide +kernel
theorem d_X0_atom_3 : decode prog_1_method_7_code 3 = .ok (.invokestatic 57, 3) := by decide +kernel
theorem d_X0_atom_6 : decode prog_1_method_7_code 6 = .ok (.ifCond .eq 17, 3) := by decide +kernel
theorem d_X0_atom_9 : decode prog_1_method_7_code 9 = .ok (.iload_n 2, 1) := by decide +kernel
theorem d_X0_atom_10 : decode prog_1_method_7_code 10 = .ok (.invokestatic 113, 3) := by decide +kernel
theorem d_X0_atom_13 : decode prog_1_method_7_code 13 = .ok (.ifCond .eq 10, 3) := by decide +kernel
theorem d_X0_atom_16 : decode prog_1_method_7_code 16 = .ok (.iload_n 3, 1) := by decide +kernel
theorem d_X0_atom_17 : decode prog_1_method_7_code 17 = .ok (.invokestatic 113, 3) := by decide +kernel
theorem d_X0_atom_20 : decode prog_1_method_7_code 20 = .ok (.ifCond .ne 5, 3) := by decide +kernel
theorem d_X0_atom_23 : decode prog_1_method_7_code 23 = .ok (.iconst (-1), 1) := by decide +kernel
theorem d_X0_atom_24 : decode prog_1_method_7_code 24 = .ok (.ireturn, 1) := by decide +kernel
theorem d_X0_atom_25 : decode prog_1_method_7_code 25 = .ok (.aload_n 0, 1) := by decide +kernel
theorem d_X0_atom_26 : decode prog_1_method_7_code 26 = .ok (.getfield 19, 3) := by decide +kernel
theorem d_X0_atom_29 : decode prog_1_method_7_code 29 = .ok (.getfield 116, 3) := by decide +kernel
theorem d_X0_atom_32 : decode prog_1_method_7_code 32 = .ok (.iconst 4, 1) := by decide +kernel
theorem d_X0_atom_33 : decode prog_1_method_7_code 33 = .ok (.if_icmp .lt 6, 3) := by decide +kernel
theorem d_X0_atom_36 : decode prog_1_method_7_code 36 = .ok (.bipush (-2), 2) := by decide +kernel
theorem d_X0_atom_38 : decode prog_1_method_7_code 38 = .ok (.ireturn, 1) := by decide +kernel
theorem d_X0_atom_39 : decode prog_1_method_7_code 39 = .ok (.aload_n 0, 1) := by decide +kernel
theorem d_X0_atom_40 : decode prog_1_method_7_code 40 = .ok (.getfield 19, 3) := by decide +kernel
theorem d_X0_atom_43 : decode prog_1_method_7_code 43 = .ok (.iload_n 1, 1) := by decide +kernel
theorem d_X0_atom_44 : decode prog_1_method_7_code 44 = .ok (.iload_n 2, 1) := by decide +kernel
theorem d_X0_atom_45 : decode prog_1_method_7_code 45 = .ok (.iload_n 3, 1) := by decide +kernel
theorem d_X0_atom_46 : decode prog_1_method_7_code 46 = .ok (.invokevirtual 119, 3) := by decide +kernel
theorem d_X0_atom_49 : decode prog_1_method_7_code 49 = .ok (.aload_n 0, 1) := by decide +kernel
theorem d_X0_atom_50 : decode prog_1_method_7_code 50 = .ok (.getfield 28, 3) := by decide +kernel
theorem d_X0_atom_53 : decode prog_1_method_7_code 53 = .ok (.invokevirtual 106, 3) := by decide +kernel
theorem d_X0_atom_56 : decode prog_1_method_7_code 56 = .ok (.aload_n 0, 1) := by decide +kernel
theorem d_X0_atom_57 : decode prog_1_method_7_code 57 = .ok (.getfield 19, 3) := by decide +kernel
theorem d_X0_atom_60 : decode prog_1_method_7_code 60 = .ok (.getfield 116, 3) := by decide +kernel
theorem d_X0_atom_63 : decode prog_1_method_7_code 63 = .ok (.ireturn, 1) := by decide +kernel
abbrev y_X0_isPlace : MethodName := ⟨"VirtualRewrite", "isPlace", "(I)Z"⟩
theorem d_X0_isPlace_0 : decode prog_1_method_19_code 0 = .ok (.iload_n 0, 1) := by decide +kernel
theorem d_X0_isPlace_1 : decode prog_1_method_19_code 1 = .ok (.bipush (-6), 2) := by decide +kernel
theorem d_X0_isPlace_3 : decode prog_1_method_19_code 3 = .ok (.if_icmp .lt 13, 3) := by decide +kernel
theorem d_X0_isPlace_6 : decode prog_1_method_19_code 6 = .ok (.iload_n 0, 1) := by decide +kernel
theorem d_X0_isPlace_7 : decode prog_1_method_19_code 7 = .ok (.ldc 193, 2) := by decide +kernel
theorem d_X0_isPlace_9 : decode prog_1_method_19_code 9 = .ok (.if_icmp .ge 7, 3) := by decide +kernel
theorem d_X0_isPlace_12 : decode prog_1_method_19_code 12 = .ok (.iconst 1, 1) := by decide +kernel
theorem d_X0_isPlace_13 : decode prog_1_method_19_code 13 = .ok (.goto 4, 3) := by decide +kernel
theorem d_X0_isPlace_16 : decode prog_1_method_19_code 16 = .ok (.iconst 0, 1) := by decide +kernel
theorem d_X0_isPlace_17 : decode prog_1_method_19_code 17 = .ok (.ireturn, 1) := by decide +kernel
abbrev y_X4_append : MethodName := ⟨"VirtualRewrite$Question", "append", "(III)V"⟩
theorem d_X4_append_0 : decode prog_6_method_2_code 0 = .ok (.aload_n 0, 1) := by decide +kernel
theorem d_X4_append_1 : decode prog_6_method_2_code 1 = .ok (.getfield 9, 3) := by decide +kernel
theorem d_X4_append_4 : decode prog_6_method_2_code 4 = .ok (.aload_n 0, 1) := by decide +kernel
theorem d_X4_append_5 : decode prog_6_method_2_code 5 = .ok (.getfield 24, 3) := by decide +kernel
theorem d_X4_append_8 : decode prog_6_method_2_code 8 = .ok (.iload_n 1, 1) := by decide +kernel
theorem d_X4_append_9 : decode prog_6_method_2_code 9 = .ok (.iastore, 1) := by decide +kernel
theorem d_X4_append_10 : decode prog_6_method_2_code 10 = .ok (.aload_n 0, 1) := by decide +kernel
theorem d_X4_append_11 : decode prog_6_method_2_code 11 = .ok (.getfield 15, 3) := by decide +kernel
theorem d_X4_append_14 : decode prog_6_method_2_code 14 = .ok (.aload_n 0, 1) := by decide +kernel
theorem d_X4_append_15 : decode prog_6_method_2_code 15 = .ok (.getfield 24, 3) := by decide +kernel
theorem d_X4_append_18 : decode prog_6_method_2_code 18 = .ok (.iconst 2, 1) := by decide +kernel
theorem d_X4_append_19 : decode prog_6_method_2_code 19 = .ok (.imul, 1) := by decide +kernel
theorem d_X4_append_20 : decode prog_6_method_2_code 20 = .ok (.iload_n 2, 1) := by decide +kernel
theorem d_X4_append_21 : decode prog_6_method_2_code 21 = .ok (.iastore, 1) := by decide +kernel
theorem d_X4_append_22 : decode prog_6_method_2_code 22 = .ok (.aload_n 0, 1) := by decide +kernel
theorem d_X4_append_23 : decode prog_6_method_2_code 23 = .ok (.getfield 15, 3) := by decide +kernel
theorem d_X4_append_26 : decode prog_6_method_2_code 26 = .ok (.aload_n 0, 1) := by decide +kernel
theorem d_X4_append_27 : decode prog_6_method_2_code 27 = .ok (.getfield 24, 3) := by decide +kernel
theorem d_X4_append_30 : decode prog_6_method_2_code 30 = .ok (.iconst 2, 1) := by decide +kernel
theorem d_X4_append_31 : decode prog_6_method_2_code 31 = .ok (.imul, 1) := by decide +kernel
theorem d_X4_append_32 : decode prog_6_method_2_code 32 = .ok (.iconst 1, 1) := by decide +kernel
theorem d_X4_append_33 : decode prog_6_method_2_code 33 = .ok (.iadd, 1) := by decide +kernel
theorem d_X4_append_34 : decode prog_6_method_2_code 34 = .ok (.iload_n 3, 1) := by decide +kernel
theorem d_X4_append_35 : decode prog_6_method_2_code 35 = .ok (.iastore, 1) := by decide +kernel
theorem d_X4_append_36 : decode prog_6_method_2_code 36 = .ok (.aload_n 0, 1) := by decide +kernel
theorem d_X4_append_37 : decode prog_6_method_2_code 37 = .ok (.dup, 1) := by decide +kernel
theorem d_X4_append_38 : decode prog_6_method_2_code 38 = .ok (.getfield 24, 3) := by decide +kernel
theorem d_X4_append_41 : decode prog_6_method_2_code 41 = .ok (.iconst 1, 1) := by decide +kernel
theorem d_X4_append_42 : decode prog_6_method_2_code 42 = .ok (.iadd, 1) := by decide +kernel
theorem d_X4_append_43 : decode prog_6_method_2_code 43 = .ok (.putfield 24, 3) := by decide +kernel
theorem d_X4_append_46 : decode prog_6_method_2_code 46 = .ok (.return_, 1) := by decide +kernel
abbrev y_X0_span : MethodName := ⟨"VirtualRewrite", "span", "(III)I"⟩
theorem d_X0_span_0 : decode prog_1_method_8_code 0 = .ok (.iload_n 1, 1) := by decide +kernel
theorem d_X0_span_1 : decode prog_1_method_8_code 1 = .ok (.bipush 6, 2) := by decide +kernel
theorem d_X0_span_3 : decode prog_1_method_8_code 3 = .ok (.invokestatic 57, 3) := by decide +kernel
theorem d_X0_span_6 : decode prog_1_method_8_code 6 = .ok (.ifCond .ne 5, 3) := by decide +kernel
theorem d_X0_span_9 : decode prog_1_method_8_code 9 = .ok (.iconst (-1), 1) := by decide +kernel
theorem d_X0_span_10 : decode prog_1_method_8_code 10 = .ok (.ireturn, 1) := by decide +kernel
theorem d_X0_span_11 : decode prog_1_method_8_code 11 = .ok (.aload_n 0, 1) := by decide +kernel
theorem d_X0_span_12 : decode prog_1_method_8_code 12 = .ok (.getfield 19, 3) := by decide +kernel
theorem d_X0_span_15 : decode prog_1_method_8_code 15 = .ok (.getfield 120, 3) := by decide +kernel
theorem d_X0_span_18 : decode prog_1_method_8_code 18 = .ok (.iconst 4, 1) := by decide +kernel
theorem d_X0_span_19 : decode prog_1_method_8_code 19 = .ok (.if_icmp .lt 6, 3) := by decide +kernel
theorem d_X0_span_22 : decode prog_1_method_8_code 22 = .ok (.bipush (-2), 2) := by decide +kernel
theorem d_X0_span_24 : decode prog_1_method_8_code 24 = .ok (.ireturn, 1) := by decide +kernel
theorem d_X0_span_25 : decode prog_1_method_8_code 25 = .ok (.aload_n 0, 1) := by decide +kernel
theorem d_X0_span_26 : decode prog_1_method_8_code 26 = .ok (.getfield 19, 3) := by decide +kernel
theorem d_X0_span_29 : decode prog_1_method_8_code 29 = .ok (.iload_n 1, 1) := by decide +kernel
theorem d_X0_span_30 : decode prog_1_method_8_code 30 = .ok (.iload_n 2, 1) := by decide +kernel
theorem d_X0_span_31 : decode prog_1_method_8_code 31 = .ok (.iload_n 3, 1) := by decide +kernel
theorem d_X0_span_32 : decode prog_1_method_8_code 32 = .ok (.invokevirtual 123, 3) := by decide +kernel
theorem d_X0_span_35 : decode prog_1_method_8_code 35 = .ok (.aload_n 0, 1) := by decide +kernel
theorem d_X0_span_36 : decode prog_1_method_8_code 36 = .ok (.getfield 19, 3) := by decide +kernel
theorem d_X0_span_39 : decode prog_1_method_8_code 39 = .ok (.getfield 120, 3) := by decide +kernel
theorem d_X0_span_42 : decode prog_1_method_8_code 42 = .ok (.ireturn, 1) := by decide +kernel
abbrev y_X4_narrow : MethodName := ⟨"VirtualRewrite$Question", "narrow", "(III)V"⟩
theorem d_X4_narrow_0 : decode prog_6_method_3_code 0 = .ok (.aload_n 0, 1) := by decide +kernel
theorem d_X4_narrow_1 : decode prog_6_method_3_code 1 = .ok (.getfield 18, 3) := by decide +kernel
theorem d_X4_narrow_4 : decode prog_6_method_3_code 4 = .ok (.iload_n 1, 1) := by decide +kernel
theorem d_X4_narrow_5 : decode prog_6_method_3_code 5 = .ok (.aload_n 0, 1) := by decide +kernel
theorem d_X4_narrow_6 : decode prog_6_method_3_code 6 = .ok (.getfield 18, 3) := by decide +kernel
theorem d_X4_narrow_9 : decode prog_6_method_3_code 9 = .ok (.iload_n 1, 1) := by decide +kernel
theorem d_X4_narrow_10 : decode prog_6_method_3_code 10 = .ok (.iaload, 1) := by decide +kernel
theorem d_X4_narrow_11 : decode prog_6_method_3_code 11 = .ok (.iload_n 2, 1) := by decide +kernel
theorem d_X4_narrow_12 : decode prog_6_method_3_code 12 = .ok (.invokestatic 31, 3) := by decide +kernel
theorem d_X4_narrow_15 : decode prog_6_method_3_code 15 = .ok (.iastore, 1) := by decide +kernel
theorem d_X4_narrow_16 : decode prog_6_method_3_code 16 = .ok (.aload_n 0, 1) := by decide +kernel
theorem d_X4_narrow_17 : decode prog_6_method_3_code 17 = .ok (.getfield 21, 3) := by decide +kernel
theorem d_X4_narrow_20 : decode prog_6_method_3_code 20 = .ok (.iload_n 1, 1) := by decide +kernel
theorem d_X4_narrow_21 : decode prog_6_method_3_code 21 = .ok (.aload_n 0, 1) := by decide +kernel
theorem d_X4_narrow_22 : decode prog_6_method_3_code 22 = .ok (.getfield 21, 3) := by decide +kernel
theorem d_X4_narrow_25 : decode prog_6_method_3_code 25 = .ok (.iload_n 1, 1) := by decide +kernel
theorem d_X4_narrow_26 : decode prog_6_method_3_code 26 = .ok (.iaload, 1) := by decide +kernel
theorem d_X4_narrow_27 : decode prog_6_method_3_code 27 = .ok (.iload_n 3, 1) := by decide +kernel
theorem d_X4_narrow_28 : decode prog_6_method_3_code 28 = .ok (.invokestatic 37, 3) := by decide +kernel
theorem d_X4_narrow_31 : decode prog_6_method_3_code 31 = .ok (.iastore, 1) := by decide +kernel
theorem d_X4_narrow_32 : decode prog_6_method_3_code 32 = .ok (.aload_n 0, 1) := by decide +kernel
theorem d_X4_narrow_33 : decode prog_6_method_3_code 33 = .ok (.dup, 1) := by decide +kernel
theorem d_X4_narrow_34 : decode prog_6_method_3_code 34 = .ok (.getfield 28, 3) := by decide +kernel
theorem d_X4_narrow_37 : decode prog_6_method_3_code 37 = .ok (.iconst 1, 1) := by decide +kernel
theorem d_X4_narrow_38 : decode prog_6_method_3_code 38 = .ok (.iadd, 1) := by decide +kernel
theorem d_X4_narrow_39 : decode prog_6_method_3_code 39 = .ok (.putfield 28, 3) := by decide +kernel
theorem d_X4_narrow_42 : decode prog_6_method_3_code 42 = .ok (.return_, 1) := by decide +kernel
end
section
abbrev y_JMath_max : MethodName := ⟨"java/lang/Math", "max", "(II)I"⟩
theorem d_JMath_max_0 : decode prog_15_method_65_code 0 = .ok (.iload_n 0, 1) := by decide +kernel
theorem d_JMath_max_1 : decode prog_15_method_65_code 1 = .ok (.iload_n 1, 1) := by decide +kernel
theorem d_JMath_max_2 : decode prog_15_method_65_code 2 = .ok (.if_icmp .lt 7, 3) := by decide +kernel
theorem d_JMath_max_5 : decode prog_15_method_65_code 5 = .ok (.iload_n 0, 1) := by decide +kernel
theorem d_JMath_max_6 : decode prog_15_method_65_code 6 = .ok (.goto 4, 3) := by decide +kernel
theorem d_JMath_max_9 : decode prog_15_method_65_code 9 = .ok (.iload_n 1, 1) := by decide +kernel
theorem d_JMath_max_10 : decode prog_15_method_65_code 10 = .ok (.ireturn, 1) := by decide +kernel
abbrev y_JMath_min : MethodName := ⟨"java/lang/Math", "min", "(II)I"⟩
theorem d_JMath_min_0 : decode prog_15_method_69_code 0 = .ok (.iload_n 0, 1) := by decide +kernel
theorem d_JMath_min_1 : decode prog_15_method_69_code 1 = .ok (.iload_n 1, 1) := by decide +kernel
theorem d_JMath_min_2 : decode prog_15_method_69_code 2 = .ok (.if_icmp .gt 7, 3) := by decide +kernel
theorem d_JMath_min_5 : decode prog_15_method_69_code 5 = .ok (.iload_n 0, 1) := by decide +kernel
theorem d_JMath_min_6 : decode prog_15_method_69_code 6 = .ok (.goto 4, 3) := by decide +kernel
theorem d_JMath_min_9 : decode prog_15_method_69_code 9 = .ok (.iload_n 1, 1) := by decide +kernel
theorem d_JMath_min_10 : decode prog_15_method_69_code 10 = .ok (.ireturn, 1) := by decide +kernel
abbrev y_X0_clear : MethodName := ⟨"VirtualRewrite", "clear", "()I"⟩
theorem d_X0_clear_0 : decode prog_1_method_9_code 0 = .ok (.aload_n 0, 1) := by decide +kernel
theorem d_X0_clear_1 : decode prog_1_method_9_code 1 = .ok (.getfield 19, 3) := by decide +kernel
theorem d_X0_clear_4 : decode prog_1_method_9_code 4 = .ok (.getfield 116, 3) := by decide +kernel
theorem d_X0_clear_7 : decode prog_1_method_9_code 7 = .ok (.istore_n 1, 1) := by decide +kernel
theorem d_X0_clear_8 : decode prog_1_method_9_code 8 = .ok (.aload_n 0, 1) := by decide +kernel
theorem d_X0_clear_9 : decode prog_1_method_9_code 9 = .ok (.getfield 19, 3) := by decide +kernel
theorem d_X0_clear_12 : decode prog_1_method_9_code 12 = .ok (.invokevirtual 126, 3) := by decide +kernel
theorem d_X0_clear_15 : decode prog_1_method_9_code 15 = .ok (.aload_n 0, 1) := by decide +kernel
theorem d_X0_clear_16 : decode prog_1_method_9_code 16 = .ok (.getfield 28, 3) := by decide +kernel
theorem d_X0_clear_19 : decode prog_1_method_9_code 19 = .ok (.invokevirtual 106, 3) := by decide +kernel
theorem d_X0_clear_22 : decode prog_1_method_9_code 22 = .ok (.iload_n 1, 1) := by decide +kernel
theorem d_X0_clear_23 : decode prog_1_method_9_code 23 = .ok (.ireturn, 1) := by decide +kernel
abbrev y_X4_reset : MethodName := ⟨"VirtualRewrite$Question", "reset", "()V"⟩
theorem d_X4_reset_0 : decode prog_6_method_4_code 0 = .ok (.aload_n 0, 1) := by decide +kernel
theorem d_X4_reset_1 : decode prog_6_method_4_code 1 = .ok (.iconst 0, 1) := by decide +kernel
theorem d_X4_reset_2 : decode prog_6_method_4_code 2 = .ok (.putfield 24, 3) := by decide +kernel
theorem d_X4_reset_5 : decode prog_6_method_4_code 5 = .ok (.aload_n 0, 1) := by decide +kernel
theorem d_X4_reset_6 : decode prog_6_method_4_code 6 = .ok (.iconst 0, 1) := by decide +kernel
theorem d_X4_reset_7 : decode prog_6_method_4_code 7 = .ok (.putfield 28, 3) := by decide +kernel
theorem d_X4_reset_10 : decode prog_6_method_4_code 10 = .ok (.iconst 0, 1) := by decide +kernel
theorem d_X4_reset_11 : decode prog_6_method_4_code 11 = .ok (.istore_n 1, 1) := by decide +kernel
theorem d_X4_reset_12 : decode prog_6_method_4_code 12 = .ok (.iload_n 1, 1) := by decide +kernel
theorem d_X4_reset_13 : decode prog_6_method_4_code 13 = .ok (.bipush 6, 2) := by decide +kernel
theorem d_X4_reset_15 : decode prog_6_method_4_code 15 = .ok (.if_icmp .ge 25, 3) := by decide +kernel
theorem d_X4_reset_18 : decode prog_6_method_4_code 18 = .ok (.aload_n 0, 1) := by decide +kernel
theorem d_X4_reset_19 : decode prog_6_method_4_code 19 = .ok (.getfield 18, 3) := by decide +kernel
theorem d_X4_reset_22 : decode prog_6_method_4_code 22 = .ok (.iload_n 1, 1) := by decide +kernel
theorem d_X4_reset_23 : decode prog_6_method_4_code 23 = .ok (.iconst 0, 1) := by decide +kernel
theorem d_X4_reset_24 : decode prog_6_method_4_code 24 = .ok (.iastore, 1) := by decide +kernel
theorem d_X4_reset_25 : decode prog_6_method_4_code 25 = .ok (.aload_n 0, 1) := by decide +kernel
theorem d_X4_reset_26 : decode prog_6_method_4_code 26 = .ok (.getfield 21, 3) := by decide +kernel
theorem d_X4_reset_29 : decode prog_6_method_4_code 29 = .ok (.iload_n 1, 1) := by decide +kernel
theorem d_X4_reset_30 : decode prog_6_method_4_code 30 = .ok (.sipush 9999, 3) := by decide +kernel
theorem d_X4_reset_33 : decode prog_6_method_4_code 33 = .ok (.iastore, 1) := by decide +kernel
theorem d_X4_reset_34 : decode prog_6_method_4_code 34 = .ok (.iinc 1 1, 3) := by decide +kernel
theorem d_X4_reset_37 : decode prog_6_method_4_code 37 = .ok (.goto (-25), 3) := by decide +kernel
theorem d_X4_reset_40 : decode prog_6_method_4_code 40 = .ok (.return_, 1) := by decide +kernel
abbrev y_X0_unions : MethodName := ⟨"VirtualRewrite", "unions", "()I"⟩
theorem d_X0_unions_0 : decode prog_1_method_10_code 0 = .ok (.aload_n 0, 1) := by decide +kernel
theorem d_X0_unions_1 : decode prog_1_method_10_code 1 = .ok (.getfield 19, 3) := by decide +kernel
theorem d_X0_unions_4 : decode prog_1_method_10_code 4 = .ok (.getfield 116, 3) := by decide +kernel
theorem d_X0_unions_7 : decode prog_1_method_10_code 7 = .ok (.ifCond .ne 5, 3) := by decide +kernel
theorem d_X0_unions_10 : decode prog_1_method_10_code 10 = .ok (.iconst (-1), 1) := by decide +kernel
theorem d_X0_unions_11 : decode prog_1_method_10_code 11 = .ok (.ireturn, 1) := by decide +kernel
theorem d_X0_unions_12 : decode prog_1_method_10_code 12 = .ok (.aload_n 0, 1) := by decide +kernel
theorem d_X0_unions_13 : decode prog_1_method_10_code 13 = .ok (.getfield 28, 3) := by decide +kernel
theorem d_X0_unions_16 : decode prog_1_method_10_code 16 = .ok (.invokevirtual 129, 3) := by decide +kernel
theorem d_X0_unions_19 : decode prog_1_method_10_code 19 = .ok (.aload_n 0, 1) := by decide +kernel
theorem d_X0_unions_20 : decode prog_1_method_10_code 20 = .ok (.getfield 28, 3) := by decide +kernel
theorem d_X0_unions_23 : decode prog_1_method_10_code 23 = .ok (.getfield 132, 3) := by decide +kernel
theorem d_X0_unions_26 : decode prog_1_method_10_code 26 = .ok (.ifCond .eq 8, 3) := by decide +kernel
theorem d_X0_unions_29 : decode prog_1_method_10_code 29 = .ok (.bipush (-3), 2) := by decide +kernel
theorem d_X0_unions_31 : decode prog_1_method_10_code 31 = .ok (.goto 10, 3) := by decide +kernel
theorem d_X0_unions_34 : decode prog_1_method_10_code 34 = .ok (.aload_n 0, 1) := by decide +kernel
theorem d_X0_unions_35 : decode prog_1_method_10_code 35 = .ok (.getfield 28, 3) := by decide +kernel
theorem d_X0_unions_38 : decode prog_1_method_10_code 38 = .ok (.getfield 136, 3) := by decide +kernel
theorem d_X0_unions_41 : decode prog_1_method_10_code 41 = .ok (.ireturn, 1) := by decide +kernel
abbrev y_X5_refresh : MethodName := ⟨"VirtualRewrite$Rewriting", "refresh", "()V"⟩
theorem d_X5_refresh_0 : decode prog_7_method_6_code 0 = .ok (.aload_n 0, 1) := by decide +kernel
theorem d_X5_refresh_1 : decode prog_7_method_6_code 1 = .ok (.getfield 29, 3) := by decide +kernel
theorem d_X5_refresh_4 : decode prog_7_method_6_code 4 = .ok (.ifCond .eq 4, 3) := by decide +kernel
theorem d_X5_refresh_7 : decode prog_7_method_6_code 7 = .ok (.return_, 1) := by decide +kernel
theorem d_X5_refresh_8 : decode prog_7_method_6_code 8 = .ok (.aload_n 0, 1) := by decide +kernel
theorem d_X5_refresh_9 : decode prog_7_method_6_code 9 = .ok (.iconst 0, 1) := by decide +kernel
theorem d_X5_refresh_10 : decode prog_7_method_6_code 10 = .ok (.putfield 21, 3) := by decide +kernel
theorem d_X5_refresh_13 : decode prog_7_method_6_code 13 = .ok (.aload_n 0, 1) := by decide +kernel
theorem d_X5_refresh_14 : decode prog_7_method_6_code 14 = .ok (.iconst 0, 1) := by decide +kernel
theorem d_X5_refresh_15 : decode prog_7_method_6_code 15 = .ok (.putfield 25, 3) := by decide +kernel
theorem d_X5_refresh_18 : decode prog_7_method_6_code 18 = .ok (.aload_n 0, 1) := by decide +kernel
theorem d_X5_refresh_19 : decode prog_7_method_6_code 19 = .ok (.iconst 0, 1) := by decide +kernel
theorem d_X5_refresh_20 : decode prog_7_method_6_code 20 = .ok (.iconst 0, 1) := by decide +kernel
theorem d_X5_refresh_21 : decode prog_7_method_6_code 21 = .ok (.invokevirtual 58, 3) := by decide +kernel
theorem d_X5_refresh_24 : decode prog_7_method_6_code 24 = .ok (.aload_n 0, 1) := by decide +kernel
theorem d_X5_refresh_25 : decode prog_7_method_6_code 25 = .ok (.iconst 1, 1) := by decide +kernel
theorem d_X5_refresh_26 : decode prog_7_method_6_code 26 = .ok (.putfield 29, 3) := by decide +kernel
theorem d_X5_refresh_29 : decode prog_7_method_6_code 29 = .ok (.return_, 1) := by decide +kernel
abbrev y_X5_extend : MethodName := ⟨"VirtualRewrite$Rewriting", "extend", "(II)V"⟩
theorem d_X5_extend_0 : decode prog_7_method_7_code 0 = .ok (.iload_n 1, 1) := by decide +kernel
theorem d_X5_extend_1 : decode prog_7_method_7_code 1 = .ok (.aload_n 0, 1) := by decide +kernel
theorem d_X5_extend_2 : decode prog_7_method_7_code 2 = .ok (.getfield 36, 3) := by decide +kernel
theorem d_X5_extend_5 : decode prog_7_method_7_code 5 = .ok (.getfield 62, 3) := by decide +kernel
theorem d_X5_extend_8 : decode prog_7_method_7_code 8 = .ok (.if_icmp .lt 8, 3) := by decide +kernel
theorem d_X5_extend_11 : decode prog_7_method_7_code 11 = .ok (.aload_n 0, 1) := by decide +kernel
theorem d_X5_extend_12 : decode prog_7_method_7_code 12 = .ok (.invokevirtual 67, 3) := by decide +kernel
theorem d_X5_extend_15 : decode prog_7_method_7_code 15 = .ok (.return_, 1) := by decide +kernel
theorem d_X5_extend_16 : decode prog_7_method_7_code 16 = .ok (.iconst 0, 1) := by decide +kernel
theorem d_X5_extend_17 : decode prog_7_method_7_code 17 = .ok (.istore_n 3, 1) := by decide +kernel
theorem d_X5_extend_18 : decode prog_7_method_7_code 18 = .ok (.iload_n 3, 1) := by decide +kernel
theorem d_X5_extend_19 : decode prog_7_method_7_code 19 = .ok (.aload_n 0, 1) := by decide +kernel
theorem d_X5_extend_20 : decode prog_7_method_7_code 20 = .ok (.getfield 32, 3) := by decide +kernel
theorem d_X5_extend_23 : decode prog_7_method_7_code 23 = .ok (.getfield 70, 3) := by decide +kernel
theorem d_X5_extend_26 : decode prog_7_method_7_code 26 = .ok (.if_icmp .ge 79, 3) := by decide +kernel
theorem d_X5_extend_29 : decode prog_7_method_7_code 29 = .ok (.aload_n 0, 1) := by decide +kernel
theorem d_X5_extend_30 : decode prog_7_method_7_code 30 = .ok (.getfield 25, 3) := by decide +kernel
theorem d_X5_extend_33 : decode prog_7_method_7_code 33 = .ok (.ifCond .ne 72, 3) := by decide +kernel
theorem d_X5_extend_36 : decode prog_7_method_7_code 36 = .ok (.aload_n 0, 1) := by decide +kernel
theorem d_X5_extend_37 : decode prog_7_method_7_code 37 = .ok (.getfield 32, 3) := by decide +kernel
theorem d_X5_extend_40 : decode prog_7_method_7_code 40 = .ok (.getfield 40, 3) := by decide +kernel
theorem d_X5_extend_43 : decode prog_7_method_7_code 43 = .ok (.iload_n 3, 1) := by decide +kernel
theorem d_X5_extend_44 : decode prog_7_method_7_code 44 = .ok (.aaload, 1) := by decide +kernel
theorem d_X5_extend_45 : decode prog_7_method_7_code 45 = .ok (.getfield 71, 3) := by decide +kernel
theorem d_X5_extend_48 : decode prog_7_method_7_code 48 = .ok (.aload_n 0, 1) := by decide +kernel
theorem d_X5_extend_49 : decode prog_7_method_7_code 49 = .ok (.getfield 36, 3) := by decide +kernel
theorem d_X5_extend_52 : decode prog_7_method_7_code 52 = .ok (.getfield 76, 3) := by decide +kernel
theorem d_X5_extend_55 : decode prog_7_method_7_code 55 = .ok (.iload_n 1, 1) := by decide +kernel
theorem d_X5_extend_56 : decode prog_7_method_7_code 56 = .ok (.iaload, 1) := by decide +kernel
theorem d_X5_extend_57 : decode prog_7_method_7_code 57 = .ok (.if_icmp .ne 42, 3) := by decide +kernel
theorem d_X5_extend_60 : decode prog_7_method_7_code 60 = .ok (.aload_n 0, 1) := by decide +kernel
theorem d_X5_extend_61 : decode prog_7_method_7_code 61 = .ok (.iload_n 1, 1) := by decide +kernel
theorem d_X5_extend_62 : decode prog_7_method_7_code 62 = .ok (.aload_n 0, 1) := by decide +kernel
theorem d_X5_extend_63 : decode prog_7_method_7_code 63 = .ok (.getfield 32, 3) := by decide +kernel
theorem d_X5_extend_66 : decode prog_7_method_7_code 66 = .ok (.getfield 40, 3) := by decide +kernel
theorem d_X5_extend_69 : decode prog_7_method_7_code 69 = .ok (.iload_n 3, 1) := by decide +kernel
theorem d_X5_extend_70 : decode prog_7_method_7_code 70 = .ok (.aaload, 1) := by decide +kernel
theorem d_X5_extend_71 : decode prog_7_method_7_code 71 = .ok (.iload_n 2, 1) := by decide +kernel
theorem d_X5_extend_72 : decode prog_7_method_7_code 72 = .ok (.invokevirtual 79, 3) := by decide +kernel
theorem d_X5_extend_75 : decode prog_7_method_7_code 75 = .ok (.istore 4, 2) := by decide +kernel
theorem d_X5_extend_77 : decode prog_7_method_7_code 77 = .ok (.iload 4, 2) := by decide +kernel
theorem d_X5_extend_79 : decode prog_7_method_7_code 79 = .ok (.iconst (-1), 1) := by decide +kernel
theorem d_X5_extend_80 : decode prog_7_method_7_code 80 = .ok (.if_icmp .eq 19, 3) := by decide +kernel
theorem d_X5_extend_83 : decode prog_7_method_7_code 83 = .ok (.aload_n 0, 1) := by decide +kernel
theorem d_X5_extend_84 : decode prog_7_method_7_code 84 = .ok (.getfield 15, 3) := by decide +kernel
theorem d_X5_extend_87 : decode prog_7_method_7_code 87 = .ok (.iload_n 1, 1) := by decide +kernel
theorem d_X5_extend_88 : decode prog_7_method_7_code 88 = .ok (.iload_n 3, 1) := by decide +kernel
theorem d_X5_extend_89 : decode prog_7_method_7_code 89 = .ok (.iastore, 1) := by decide +kernel
theorem d_X5_extend_90 : decode prog_7_method_7_code 90 = .ok (.aload_n 0, 1) := by decide +kernel
theorem d_X5_extend_91 : decode prog_7_method_7_code 91 = .ok (.iload_n 1, 1) := by decide +kernel
theorem d_X5_extend_92 : decode prog_7_method_7_code 92 = .ok (.iconst 1, 1) := by decide +kernel
theorem d_X5_extend_93 : decode prog_7_method_7_code 93 = .ok (.iadd, 1) := by decide +kernel
theorem d_X5_extend_94 : decode prog_7_method_7_code 94 = .ok (.iload 4, 2) := by decide +kernel
theorem d_X5_extend_96 : decode prog_7_method_7_code 96 = .ok (.invokevirtual 58, 3) := by decide +kernel
theorem d_X5_extend_99 : decode prog_7_method_7_code 99 = .ok (.iinc 3 1, 3) := by decide +kernel
theorem d_X5_extend_102 : decode prog_7_method_7_code 102 = .ok (.goto (-84), 3) := by decide +kernel
theorem d_X5_extend_105 : decode prog_7_method_7_code 105 = .ok (.return_, 1) := by decide +kernel
abbrev y_X5_keep : MethodName := ⟨"VirtualRewrite$Rewriting", "keep", "()V"⟩
theorem d_X5_keep_0 : decode prog_7_method_8_code 0 = .ok (.aload_n 0, 1) := by decide +kernel
theorem d_X5_keep_1 : decode prog_7_method_8_code 1 = .ok (.getfield 21, 3) := by decide +kernel
theorem d_X5_keep_4 : decode prog_7_method_8_code 4 = .ok (.sipush 150, 3) := by decide +kernel
theorem d_X5_keep_7 : decode prog_7_method_8_code 7 = .ok (.if_icmp .lt 9, 3) := by decide +kernel
theorem d_X5_keep_10 : decode prog_7_method_8_code 10 = .ok (.aload_n 0, 1) := by decide +kernel
theorem d_X5_keep_11 : decode prog_7_method_8_code 11 = .ok (.iconst 1, 1) := by decide +kernel
theorem d_X5_keep_12 : decode prog_7_method_8_code 12 = .ok (.putfield 25, 3) := by decide +kernel
theorem d_X5_keep_15 : decode prog_7_method_8_code 15 = .ok (.return_, 1) := by decide +kernel
theorem d_X5_keep_16 : decode prog_7_method_8_code 16 = .ok (.aload_n 0, 1) := by decide +kernel
theorem d_X5_keep_17 : decode prog_7_method_8_code 17 = .ok (.getfield 15, 3) := by decide +kernel
theorem d_X5_keep_20 : decode prog_7_method_8_code 20 = .ok (.iconst 0, 1) := by decide +kernel
theorem d_X5_keep_21 : decode prog_7_method_8_code 21 = .ok (.aload_n 0, 1) := by decide +kernel
theorem d_X5_keep_22 : decode prog_7_method_8_code 22 = .ok (.getfield 9, 3) := by decide +kernel
theorem d_X5_keep_25 : decode prog_7_method_8_code 25 = .ok (.aload_n 0, 1) := by decide +kernel
theorem d_X5_keep_26 : decode prog_7_method_8_code 26 = .ok (.getfield 21, 3) := by decide +kernel
theorem d_X5_keep_29 : decode prog_7_method_8_code 29 = .ok (.iconst 4, 1) := by decide +kernel
theorem d_X5_keep_30 : decode prog_7_method_8_code 30 = .ok (.imul, 1) := by decide +kernel
theorem d_X5_keep_31 : decode prog_7_method_8_code 31 = .ok (.iconst 4, 1) := by decide +kernel
theorem d_X5_keep_32 : decode prog_7_method_8_code 32 = .ok (.invokestatic 83, 3) := by decide +kernel
theorem d_X5_keep_35 : decode prog_7_method_8_code 35 = .ok (.aload_n 0, 1) := by decide +kernel
theorem d_X5_keep_36 : decode prog_7_method_8_code 36 = .ok (.dup, 1) := by decide +kernel
theorem d_X5_keep_37 : decode prog_7_method_8_code 37 = .ok (.getfield 21, 3) := by decide +kernel
theorem d_X5_keep_40 : decode prog_7_method_8_code 40 = .ok (.iconst 1, 1) := by decide +kernel
theorem d_X5_keep_41 : decode prog_7_method_8_code 41 = .ok (.iadd, 1) := by decide +kernel
theorem d_X5_keep_42 : decode prog_7_method_8_code 42 = .ok (.putfield 21, 3) := by decide +kernel
theorem d_X5_keep_45 : decode prog_7_method_8_code 45 = .ok (.return_, 1) := by decide +kernel
abbrev y_X5_settle : MethodName := ⟨"VirtualRewrite$Rewriting", "settle", "(ILVirtualRewrite$Mapping;I)I"⟩
theorem d_X5_settle_0 : decode prog_7_method_9_code 0 = .ok (.iload_n 3, 1) := by decide +kernel
theorem d_X5_settle_1 : decode prog_7_method_9_code 1 = .ok (.istore 4, 2) := by decide +kernel
theorem d_X5_settle_3 : decode prog_7_method_9_code 3 = .ok (.iconst 0, 1) := by decide +kernel
theorem d_X5_settle_4 : decode prog_7_method_9_code 4 = .ok (.istore 5, 2) := by decide +kernel
theorem d_X5_settle_6 : decode prog_7_method_9_code 6 = .ok (.iload 5, 2) := by decide +kernel
theorem d_X5_settle_8 : decode prog_7_method_9_code 8 = .ok (.iconst 2, 1) := by decide +kernel
theorem d_X5_settle_9 : decode prog_7_method_9_code 9 = .ok (.if_icmp .ge 108, 3) := by decide +kernel
theorem d_X5_settle_12 : decode prog_7_method_9_code 12 = .ok (.aload_n 0, 1) := by decide +kernel
theorem d_X5_settle_13 : decode prog_7_method_9_code 13 = .ok (.getfield 36, 3) := by decide +kernel
theorem d_X5_settle_16 : decode prog_7_method_9_code 16 = .ok (.iload_n 1, 1) := by decide +kernel
theorem d_X5_settle_17 : decode prog_7_method_9_code 17 = .ok (.iload 5, 2) := by decide +kernel
theorem d_X5_settle_19 : decode prog_7_method_9_code 19 = .ok (.invokevirtual 89, 3) := by decide +kernel
theorem d_X5_settle_22 : decode prog_7_method_9_code 22 = .ok (.istore 6, 2) := by decide +kernel
theorem d_X5_settle_24 : decode prog_7_method_9_code 24 = .ok (.aload_n 2, 1) := by decide +kernel
theorem d_X5_settle_25 : decode prog_7_method_9_code 25 = .ok (.getfield 92, 3) := by decide +kernel
theorem d_X5_settle_28 : decode prog_7_method_9_code 28 = .ok (.iload 5, 2) := by decide +kernel
theorem d_X5_settle_30 : decode prog_7_method_9_code 30 = .ok (.iaload, 1) := by decide +kernel
theorem d_X5_settle_31 : decode prog_7_method_9_code 31 = .ok (.istore 7, 2) := by decide +kernel
theorem d_X5_settle_33 : decode prog_7_method_9_code 33 = .ok (.iload 6, 2) := by decide +kernel
theorem d_X5_settle_35 : decode prog_7_method_9_code 35 = .ok (.invokestatic 93, 3) := by decide +kernel
theorem d_X5_settle_38 : decode prog_7_method_9_code 38 = .ok (.ifCond .ne 16, 3) := by decide +kernel
theorem d_X5_settle_41 : decode prog_7_method_9_code 41 = .ok (.iload 6, 2) := by decide +kernel
theorem d_X5_settle_43 : decode prog_7_method_9_code 43 = .ok (.sipush 10000, 3) := by decide +kernel
theorem d_X5_settle_46 : decode prog_7_method_9_code 46 = .ok (.idiv, 1) := by decide +kernel
theorem d_X5_settle_47 : decode prog_7_method_9_code 47 = .ok (.iload 7, 2) := by decide +kernel
theorem d_X5_settle_49 : decode prog_7_method_9_code 49 = .ok (.if_icmp .eq 62, 3) := by decide +kernel
theorem d_X5_settle_52 : decode prog_7_method_9_code 52 = .ok (.iconst (-1), 1) := by decide +kernel
theorem d_X5_settle_53 : decode prog_7_method_9_code 53 = .ok (.ireturn, 1) := by decide +kernel
theorem d_X5_settle_54 : decode prog_7_method_9_code 54 = .ok (.iload 4, 2) := by decide +kernel
theorem d_X5_settle_56 : decode prog_7_method_9_code 56 = .ok (.iload 6, 2) := by decide +kernel
theorem d_X5_settle_58 : decode prog_7_method_9_code 58 = .ok (.invokestatic 97, 3) := by decide +kernel
theorem d_X5_settle_61 : decode prog_7_method_9_code 61 = .ok (.invokestatic 101, 3) := by decide +kernel
theorem d_X5_settle_64 : decode prog_7_method_9_code 64 = .ok (.ifCond .ne 30, 3) := by decide +kernel
theorem d_X5_settle_67 : decode prog_7_method_9_code 67 = .ok (.aload_n 0, 1) := by decide +kernel
theorem d_X5_settle_68 : decode prog_7_method_9_code 68 = .ok (.getfield 18, 3) := by decide +kernel
theorem d_X5_settle_71 : decode prog_7_method_9_code 71 = .ok (.iload 6, 2) := by decide +kernel
theorem d_X5_settle_73 : decode prog_7_method_9_code 73 = .ok (.invokestatic 97, 3) := by decide +kernel
theorem d_X5_settle_76 : decode prog_7_method_9_code 76 = .ok (.iload 7, 2) := by decide +kernel
theorem d_X5_settle_78 : decode prog_7_method_9_code 78 = .ok (.iastore, 1) := by decide +kernel
theorem d_X5_settle_79 : decode prog_7_method_9_code 79 = .ok (.iload 4, 2) := by decide +kernel
theorem d_X5_settle_81 : decode prog_7_method_9_code 81 = .ok (.iload 6, 2) := by decide +kernel
theorem d_X5_settle_83 : decode prog_7_method_9_code 83 = .ok (.invokestatic 97, 3) := by decide +kernel
theorem d_X5_settle_86 : decode prog_7_method_9_code 86 = .ok (.invokestatic 105, 3) := by decide +kernel
theorem d_X5_settle_89 : decode prog_7_method_9_code 89 = .ok (.istore 4, 2) := by decide +kernel
theorem d_X5_settle_91 : decode prog_7_method_9_code 91 = .ok (.goto 20, 3) := by decide +kernel
theorem d_X5_settle_94 : decode prog_7_method_9_code 94 = .ok (.aload_n 0, 1) := by decide +kernel
theorem d_X5_settle_95 : decode prog_7_method_9_code 95 = .ok (.getfield 18, 3) := by decide +kernel
theorem d_X5_settle_98 : decode prog_7_method_9_code 98 = .ok (.iload 6, 2) := by decide +kernel
theorem d_X5_settle_100 : decode prog_7_method_9_code 100 = .ok (.invokestatic 97, 3) := by decide +kernel
theorem d_X5_settle_103 : decode prog_7_method_9_code 103 = .ok (.iaload, 1) := by decide +kernel
theorem d_X5_settle_104 : decode prog_7_method_9_code 104 = .ok (.iload 7, 2) := by decide +kernel
theorem d_X5_settle_106 : decode prog_7_method_9_code 106 = .ok (.if_icmp .eq 5, 3) := by decide +kernel
theorem d_X5_settle_109 : decode prog_7_method_9_code 109 = .ok (.iconst (-1), 1) := by decide +kernel
theorem d_X5_settle_110 : decode prog_7_method_9_code 110 = .ok (.ireturn, 1) := by decide +kernel
theorem d_X5_settle_111 : decode prog_7_method_9_code 111 = .ok (.iinc 5 1, 3) := by decide +kernel
theorem d_X5_settle_114 : decode prog_7_method_9_code 114 = .ok (.goto (-108), 3) := by decide +kernel
theorem d_X5_settle_117 : decode prog_7_method_9_code 117 = .ok (.iload 4, 2) := by decide +kernel
theorem d_X5_settle_119 : decode prog_7_method_9_code 119 = .ok (.ireturn, 1) := by decide +kernel
abbrev y_X4_told : MethodName := ⟨"VirtualRewrite$Question", "told", "(II)I"⟩
theorem d_X4_told_0 : decode prog_6_method_5_code 0 = .ok (.aload_n 0, 1) := by decide +kernel
theorem d_X4_told_1 : decode prog_6_method_5_code 1 = .ok (.getfield 15, 3) := by decide +kernel
theorem d_X4_told_4 : decode prog_6_method_5_code 4 = .ok (.iload_n 1, 1) := by decide +kernel
theorem d_X4_told_5 : decode prog_6_method_5_code 5 = .ok (.iconst 2, 1) := by decide +kernel
theorem d_X4_told_6 : decode prog_6_method_5_code 6 = .ok (.imul, 1) := by decide +kernel
theorem d_X4_told_7 : decode prog_6_method_5_code 7 = .ok (.iload_n 2, 1) := by decide +kernel
theorem d_X4_told_8 : decode prog_6_method_5_code 8 = .ok (.iadd, 1) := by decide +kernel
theorem d_X4_told_9 : decode prog_6_method_5_code 9 = .ok (.iaload, 1) := by decide +kernel
theorem d_X4_told_10 : decode prog_6_method_5_code 10 = .ok (.ireturn, 1) := by decide +kernel
abbrev y_X0_isVariable : MethodName := ⟨"VirtualRewrite", "isVariable", "(I)Z"⟩
theorem d_X0_isVariable_0 : decode prog_1_method_20_code 0 = .ok (.iload_n 0, 1) := by decide +kernel
theorem d_X0_isVariable_1 : decode prog_1_method_20_code 1 = .ok (.ifCond .ge 7, 3) := by decide +kernel
theorem d_X0_isVariable_4 : decode prog_1_method_20_code 4 = .ok (.iconst 1, 1) := by decide +kernel
theorem d_X0_isVariable_5 : decode prog_1_method_20_code 5 = .ok (.goto 4, 3) := by decide +kernel
theorem d_X0_isVariable_8 : decode prog_1_method_20_code 8 = .ok (.iconst 0, 1) := by decide +kernel
theorem d_X0_isVariable_9 : decode prog_1_method_20_code 9 = .ok (.ireturn, 1) := by decide +kernel
abbrev y_X0_variableOf : MethodName := ⟨"VirtualRewrite", "variableOf", "(I)I"⟩
theorem d_X0_variableOf_0 : decode prog_1_method_21_code 0 = .ok (.iconst (-1), 1) := by decide +kernel
theorem d_X0_variableOf_1 : decode prog_1_method_21_code 1 = .ok (.iload_n 0, 1) := by decide +kernel
theorem d_X0_variableOf_2 : decode prog_1_method_21_code 2 = .ok (.isub, 1) := by decide +kernel
theorem d_X0_variableOf_3 : decode prog_1_method_21_code 3 = .ok (.ireturn, 1) := by decide +kernel
abbrev y_X0_has : MethodName := ⟨"VirtualRewrite", "has", "(II)Z"⟩
theorem d_X0_has_0 : decode prog_1_method_22_code 0 = .ok (.iload_n 0, 1) := by decide +kernel
theorem d_X0_has_1 : decode prog_1_method_22_code 1 = .ok (.iload_n 1, 1) := by decide +kernel
theorem d_X0_has_2 : decode prog_1_method_22_code 2 = .ok (.ishr, 1) := by decide +kernel
theorem d_X0_has_3 : decode prog_1_method_22_code 3 = .ok (.iconst 1, 1) := by decide +kernel
theorem d_X0_has_4 : decode prog_1_method_22_code 4 = .ok (.iand, 1) := by decide +kernel
theorem d_X0_has_5 : decode prog_1_method_22_code 5 = .ok (.ifCond .eq 7, 3) := by decide +kernel
theorem d_X0_has_8 : decode prog_1_method_22_code 8 = .ok (.iconst 1, 1) := by decide +kernel
theorem d_X0_has_9 : decode prog_1_method_22_code 9 = .ok (.goto 4, 3) := by decide +kernel
theorem d_X0_has_12 : decode prog_1_method_22_code 12 = .ok (.iconst 0, 1) := by decide +kernel
theorem d_X0_has_13 : decode prog_1_method_22_code 13 = .ok (.ireturn, 1) := by decide +kernel
abbrev y_X0_with : MethodName := ⟨"VirtualRewrite", "with", "(II)I"⟩
theorem d_X0_with_0 : decode prog_1_method_23_code 0 = .ok (.iload_n 0, 1) := by decide +kernel
theorem d_X0_with_1 : decode prog_1_method_23_code 1 = .ok (.iconst 1, 1) := by decide +kernel
theorem d_X0_with_2 : decode prog_1_method_23_code 2 = .ok (.iload_n 1, 1) := by decide +kernel
theorem d_X0_with_3 : decode prog_1_method_23_code 3 = .ok (.ishl, 1) := by decide +kernel
theorem d_X0_with_4 : decode prog_1_method_23_code 4 = .ok (.ior, 1) := by decide +kernel
theorem d_X0_with_5 : decode prog_1_method_23_code 5 = .ok (.ireturn, 1) := by decide +kernel
abbrev y_X0_union : MethodName := ⟨"VirtualRewrite", "union", "(II)I"⟩
theorem d_X0_union_0 : decode prog_1_method_11_code 0 = .ok (.aload_n 0, 1) := by decide +kernel
theorem d_X0_union_1 : decode prog_1_method_11_code 1 = .ok (.iload_n 2, 1) := by decide +kernel
theorem d_X0_union_2 : decode prog_1_method_11_code 2 = .ok (.invokevirtual 137, 3) := by decide +kernel
theorem d_X0_union_5 : decode prog_1_method_11_code 5 = .ok (.ifCond .ne 5, 3) := by decide +kernel
theorem d_X0_union_8 : decode prog_1_method_11_code 8 = .ok (.iconst (-1), 1) := by decide +kernel
theorem d_X0_union_9 : decode prog_1_method_11_code 9 = .ok (.ireturn, 1) := by decide +kernel
theorem d_X0_union_10 : decode prog_1_method_11_code 10 = .ok (.aload_n 0, 1) := by decide +kernel
theorem d_X0_union_11 : decode prog_1_method_11_code 11 = .ok (.iload_n 1, 1) := by decide +kernel
theorem d_X0_union_12 : decode prog_1_method_11_code 12 = .ok (.invokevirtual 140, 3) := by decide +kernel
theorem d_X0_union_15 : decode prog_1_method_11_code 15 = .ok (.istore_n 3, 1) := by decide +kernel
theorem d_X0_union_16 : decode prog_1_method_11_code 16 = .ok (.iload_n 3, 1) := by decide +kernel
theorem d_X0_union_17 : decode prog_1_method_11_code 17 = .ok (.ifCond .eq 5, 3) := by decide +kernel
theorem d_X0_union_20 : decode prog_1_method_11_code 20 = .ok (.iload_n 3, 1) := by decide +kernel
theorem d_X0_union_21 : decode prog_1_method_11_code 21 = .ok (.ireturn, 1) := by decide +kernel
theorem d_X0_union_22 : decode prog_1_method_11_code 22 = .ok (.iload_n 2, 1) := by decide +kernel
theorem d_X0_union_23 : decode prog_1_method_11_code 23 = .ok (.iconst 4, 1) := by decide +kernel
theorem d_X0_union_24 : decode prog_1_method_11_code 24 = .ok (.if_icmp .ge 13, 3) := by decide +kernel
theorem d_X0_union_27 : decode prog_1_method_11_code 27 = .ok (.aload_n 0, 1) := by decide +kernel
theorem d_X0_union_28 : decode prog_1_method_11_code 28 = .ok (.getfield 28, 3) := by decide +kernel
theorem d_X0_union_31 : decode prog_1_method_11_code 31 = .ok (.iload_n 1, 1) := by decide +kernel
theorem d_X0_union_32 : decode prog_1_method_11_code 32 = .ok (.iload_n 2, 1) := by decide +kernel
theorem d_X0_union_33 : decode prog_1_method_11_code 33 = .ok (.invokevirtual 144, 3) := by decide +kernel
theorem d_X0_union_36 : decode prog_1_method_11_code 36 = .ok (.ireturn, 1) := by decide +kernel
theorem d_X0_union_37 : decode prog_1_method_11_code 37 = .ok (.aload_n 0, 1) := by decide +kernel
theorem d_X0_union_38 : decode prog_1_method_11_code 38 = .ok (.getfield 37, 3) := by decide +kernel
theorem d_X0_union_41 : decode prog_1_method_11_code 41 = .ok (.iload_n 1, 1) := by decide +kernel
theorem d_X0_union_42 : decode prog_1_method_11_code 42 = .ok (.invokevirtual 148, 3) := by decide +kernel
theorem d_X0_union_45 : decode prog_1_method_11_code 45 = .ok (.iload_n 2, 1) := by decide +kernel
theorem d_X0_union_46 : decode prog_1_method_11_code 46 = .ok (.bipush 8, 2) := by decide +kernel
theorem d_X0_union_48 : decode prog_1_method_11_code 48 = .ok (.if_icmp .ge 17, 3) := by decide +kernel
theorem d_X0_union_51 : decode prog_1_method_11_code 51 = .ok (.aload_n 0, 1) := by decide +kernel
theorem d_X0_union_52 : decode prog_1_method_11_code 52 = .ok (.getfield 37, 3) := by decide +kernel
theorem d_X0_union_55 : decode prog_1_method_11_code 55 = .ok (.getfield 151, 3) := by decide +kernel
theorem d_X0_union_58 : decode prog_1_method_11_code 58 = .ok (.iload_n 2, 1) := by decide +kernel
theorem d_X0_union_59 : decode prog_1_method_11_code 59 = .ok (.iconst 4, 1) := by decide +kernel
theorem d_X0_union_60 : decode prog_1_method_11_code 60 = .ok (.isub, 1) := by decide +kernel
theorem d_X0_union_61 : decode prog_1_method_11_code 61 = .ok (.iaload, 1) := by decide +kernel
theorem d_X0_union_62 : decode prog_1_method_11_code 62 = .ok (.goto 10, 3) := by decide +kernel
theorem d_X0_union_65 : decode prog_1_method_11_code 65 = .ok (.aload_n 0, 1) := by decide +kernel
theorem d_X0_union_66 : decode prog_1_method_11_code 66 = .ok (.getfield 37, 3) := by decide +kernel
theorem d_X0_union_69 : decode prog_1_method_11_code 69 = .ok (.getfield 155, 3) := by decide +kernel
theorem d_X0_union_72 : decode prog_1_method_11_code 72 = .ok (.ireturn, 1) := by decide +kernel
abbrev y_X0_isAsked : MethodName := ⟨"VirtualRewrite", "isAsked", "(I)Z"⟩
theorem d_X0_isAsked_0 : decode prog_1_method_16_code 0 = .ok (.iload_n 1, 1) := by decide +kernel
theorem d_X0_isAsked_1 : decode prog_1_method_16_code 1 = .ok (.bipush 8, 2) := by decide +kernel
theorem d_X0_isAsked_3 : decode prog_1_method_16_code 3 = .ok (.if_icmp .ne 5, 3) := by decide +kernel
theorem d_X0_isAsked_6 : decode prog_1_method_16_code 6 = .ok (.iconst 1, 1) := by decide +kernel
theorem d_X0_isAsked_7 : decode prog_1_method_16_code 7 = .ok (.ireturn, 1) := by decide +kernel
theorem d_X0_isAsked_8 : decode prog_1_method_16_code 8 = .ok (.iload_n 1, 1) := by decide +kernel
theorem d_X0_isAsked_9 : decode prog_1_method_16_code 9 = .ok (.bipush 8, 2) := by decide +kernel
theorem d_X0_isAsked_11 : decode prog_1_method_16_code 11 = .ok (.invokestatic 57, 3) := by decide +kernel
theorem d_X0_isAsked_14 : decode prog_1_method_16_code 14 = .ok (.ifCond .eq 20, 3) := by decide +kernel
theorem d_X0_isAsked_17 : decode prog_1_method_16_code 17 = .ok (.iload_n 1, 1) := by decide +kernel
theorem d_X0_isAsked_18 : decode prog_1_method_16_code 18 = .ok (.iconst 4, 1) := by decide +kernel
theorem d_X0_isAsked_19 : decode prog_1_method_16_code 19 = .ok (.irem, 1) := by decide +kernel
theorem d_X0_isAsked_20 : decode prog_1_method_16_code 20 = .ok (.aload_n 0, 1) := by decide +kernel
theorem d_X0_isAsked_21 : decode prog_1_method_16_code 21 = .ok (.getfield 19, 3) := by decide +kernel
theorem d_X0_isAsked_24 : decode prog_1_method_16_code 24 = .ok (.getfield 116, 3) := by decide +kernel
theorem d_X0_isAsked_27 : decode prog_1_method_16_code 27 = .ok (.if_icmp .ge 7, 3) := by decide +kernel
theorem d_X0_isAsked_30 : decode prog_1_method_16_code 30 = .ok (.iconst 1, 1) := by decide +kernel
theorem d_X0_isAsked_31 : decode prog_1_method_16_code 31 = .ok (.goto 4, 3) := by decide +kernel
theorem d_X0_isAsked_34 : decode prog_1_method_16_code 34 = .ok (.iconst 0, 1) := by decide +kernel
theorem d_X0_isAsked_35 : decode prog_1_method_16_code 35 = .ok (.ireturn, 1) := by decide +kernel
abbrev y_X0_troubleWith : MethodName := ⟨"VirtualRewrite", "troubleWith", "(I)I"⟩
theorem d_X0_troubleWith_0 : decode prog_1_method_17_code 0 = .ok (.iload_n 1, 1) := by decide +kernel
theorem d_X0_troubleWith_1 : decode prog_1_method_17_code 1 = .ok (.ifCond .lt 13, 3) := by decide +kernel
theorem d_X0_troubleWith_4 : decode prog_1_method_17_code 4 = .ok (.aload_n 0, 1) := by decide +kernel
theorem d_X0_troubleWith_5 : decode prog_1_method_17_code 5 = .ok (.getfield 19, 3) := by decide +kernel
theorem d_X0_troubleWith_8 : decode prog_1_method_17_code 8 = .ok (.getfield 116, 3) := by decide +kernel
theorem d_X0_troubleWith_11 : decode prog_1_method_17_code 11 = .ok (.ifCond .ne 5, 3) := by decide +kernel
theorem d_X0_troubleWith_14 : decode prog_1_method_17_code 14 = .ok (.iconst (-1), 1) := by decide +kernel
theorem d_X0_troubleWith_15 : decode prog_1_method_17_code 15 = .ok (.ireturn, 1) := by decide +kernel
theorem d_X0_troubleWith_16 : decode prog_1_method_17_code 16 = .ok (.aload_n 0, 1) := by decide +kernel
theorem d_X0_troubleWith_17 : decode prog_1_method_17_code 17 = .ok (.getfield 28, 3) := by decide +kernel
theorem d_X0_troubleWith_20 : decode prog_1_method_17_code 20 = .ok (.invokevirtual 129, 3) := by decide +kernel
theorem d_X0_troubleWith_23 : decode prog_1_method_17_code 23 = .ok (.aload_n 0, 1) := by decide +kernel
theorem d_X0_troubleWith_24 : decode prog_1_method_17_code 24 = .ok (.getfield 28, 3) := by decide +kernel
theorem d_X0_troubleWith_27 : decode prog_1_method_17_code 27 = .ok (.getfield 132, 3) := by decide +kernel
theorem d_X0_troubleWith_30 : decode prog_1_method_17_code 30 = .ok (.ifCond .eq 6, 3) := by decide +kernel
theorem d_X0_troubleWith_33 : decode prog_1_method_17_code 33 = .ok (.bipush (-3), 2) := by decide +kernel
theorem d_X0_troubleWith_35 : decode prog_1_method_17_code 35 = .ok (.ireturn, 1) := by decide +kernel
theorem d_X0_troubleWith_36 : decode prog_1_method_17_code 36 = .ok (.iload_n 1, 1) := by decide +kernel
theorem d_X0_troubleWith_37 : decode prog_1_method_17_code 37 = .ok (.aload_n 0, 1) := by decide +kernel
theorem d_X0_troubleWith_38 : decode prog_1_method_17_code 38 = .ok (.getfield 28, 3) := by decide +kernel
theorem d_X0_troubleWith_41 : decode prog_1_method_17_code 41 = .ok (.getfield 136, 3) := by decide +kernel
theorem d_X0_troubleWith_44 : decode prog_1_method_17_code 44 = .ok (.if_icmp .ge 7, 3) := by decide +kernel
theorem d_X0_troubleWith_47 : decode prog_1_method_17_code 47 = .ok (.iconst 0, 1) := by decide +kernel
theorem d_X0_troubleWith_48 : decode prog_1_method_17_code 48 = .ok (.goto 4, 3) := by decide +kernel
theorem d_X0_troubleWith_51 : decode prog_1_method_17_code 51 = .ok (.iconst (-1), 1) := by decide +kernel
theorem d_X0_troubleWith_52 : decode prog_1_method_17_code 52 = .ok (.ireturn, 1) := by decide +kernel
abbrev y_X5_chosen : MethodName := ⟨"VirtualRewrite$Rewriting", "chosen", "(II)I"⟩
theorem d_X5_chosen_0 : decode prog_7_method_2_code 0 = .ok (.aload_n 0, 1) := by decide +kernel
theorem d_X5_chosen_1 : decode prog_7_method_2_code 1 = .ok (.getfield 9, 3) := by decide +kernel
theorem d_X5_chosen_4 : decode prog_7_method_2_code 4 = .ok (.iload_n 1, 1) := by decide +kernel
theorem d_X5_chosen_5 : decode prog_7_method_2_code 5 = .ok (.iconst 4, 1) := by decide +kernel
theorem d_X5_chosen_6 : decode prog_7_method_2_code 6 = .ok (.imul, 1) := by decide +kernel
theorem d_X5_chosen_7 : decode prog_7_method_2_code 7 = .ok (.iload_n 2, 1) := by decide +kernel
theorem d_X5_chosen_8 : decode prog_7_method_2_code 8 = .ok (.iadd, 1) := by decide +kernel
theorem d_X5_chosen_9 : decode prog_7_method_2_code 9 = .ok (.iaload, 1) := by decide +kernel
theorem d_X5_chosen_10 : decode prog_7_method_2_code 10 = .ok (.ireturn, 1) := by decide +kernel
abbrev y_X6_assign : MethodName := ⟨"VirtualRewrite$Slots", "assign", "(I)V"⟩
theorem d_X6_assign_0 : decode prog_8_method_2_code 0 = .ok (.aload_n 0, 1) := by decide +kernel
theorem d_X6_assign_1 : decode prog_8_method_2_code 1 = .ok (.iconst 0, 1) := by decide +kernel
theorem d_X6_assign_2 : decode prog_8_method_2_code 2 = .ok (.putfield 15, 3) := by decide +kernel
theorem d_X6_assign_5 : decode prog_8_method_2_code 5 = .ok (.iconst 0, 1) := by decide +kernel
theorem d_X6_assign_6 : decode prog_8_method_2_code 6 = .ok (.istore_n 2, 1) := by decide +kernel
theorem d_X6_assign_7 : decode prog_8_method_2_code 7 = .ok (.iload_n 2, 1) := by decide +kernel
theorem d_X6_assign_8 : decode prog_8_method_2_code 8 = .ok (.aload_n 0, 1) := by decide +kernel
theorem d_X6_assign_9 : decode prog_8_method_2_code 9 = .ok (.getfield 23, 3) := by decide +kernel
theorem d_X6_assign_12 : decode prog_8_method_2_code 12 = .ok (.getfield 31, 3) := by decide +kernel
theorem d_X6_assign_15 : decode prog_8_method_2_code 15 = .ok (.if_icmp .ge 56, 3) := by decide +kernel
theorem d_X6_assign_18 : decode prog_8_method_2_code 18 = .ok (.aload_n 0, 1) := by decide +kernel
theorem d_X6_assign_19 : decode prog_8_method_2_code 19 = .ok (.iload_n 1, 1) := by decide +kernel
theorem d_X6_assign_20 : decode prog_8_method_2_code 20 = .ok (.iload_n 2, 1) := by decide +kernel
theorem d_X6_assign_21 : decode prog_8_method_2_code 21 = .ok (.invokevirtual 36, 3) := by decide +kernel
theorem d_X6_assign_24 : decode prog_8_method_2_code 24 = .ok (.istore_n 3, 1) := by decide +kernel
theorem d_X6_assign_25 : decode prog_8_method_2_code 25 = .ok (.iload_n 3, 1) := by decide +kernel
theorem d_X6_assign_26 : decode prog_8_method_2_code 26 = .ok (.iload_n 2, 1) := by decide +kernel
theorem d_X6_assign_27 : decode prog_8_method_2_code 27 = .ok (.if_icmp .ge 18, 3) := by decide +kernel
theorem d_X6_assign_30 : decode prog_8_method_2_code 30 = .ok (.aload_n 0, 1) := by decide +kernel
theorem d_X6_assign_31 : decode prog_8_method_2_code 31 = .ok (.getfield 9, 3) := by decide +kernel
theorem d_X6_assign_34 : decode prog_8_method_2_code 34 = .ok (.iload_n 2, 1) := by decide +kernel
theorem d_X6_assign_35 : decode prog_8_method_2_code 35 = .ok (.aload_n 0, 1) := by decide +kernel
theorem d_X6_assign_36 : decode prog_8_method_2_code 36 = .ok (.getfield 9, 3) := by decide +kernel
theorem d_X6_assign_39 : decode prog_8_method_2_code 39 = .ok (.iload_n 3, 1) := by decide +kernel
theorem d_X6_assign_40 : decode prog_8_method_2_code 40 = .ok (.iaload, 1) := by decide +kernel
theorem d_X6_assign_41 : decode prog_8_method_2_code 41 = .ok (.iastore, 1) := by decide +kernel
theorem d_X6_assign_42 : decode prog_8_method_2_code 42 = .ok (.goto 23, 3) := by decide +kernel
theorem d_X6_assign_45 : decode prog_8_method_2_code 45 = .ok (.aload_n 0, 1) := by decide +kernel
theorem d_X6_assign_46 : decode prog_8_method_2_code 46 = .ok (.getfield 9, 3) := by decide +kernel
theorem d_X6_assign_49 : decode prog_8_method_2_code 49 = .ok (.iload_n 2, 1) := by decide +kernel
theorem d_X6_assign_50 : decode prog_8_method_2_code 50 = .ok (.aload_n 0, 1) := by decide +kernel
theorem d_X6_assign_51 : decode prog_8_method_2_code 51 = .ok (.getfield 15, 3) := by decide +kernel
theorem d_X6_assign_54 : decode prog_8_method_2_code 54 = .ok (.iastore, 1) := by decide +kernel
theorem d_X6_assign_55 : decode prog_8_method_2_code 55 = .ok (.aload_n 0, 1) := by decide +kernel
theorem d_X6_assign_56 : decode prog_8_method_2_code 56 = .ok (.dup, 1) := by decide +kernel
theorem d_X6_assign_57 : decode prog_8_method_2_code 57 = .ok (.getfield 15, 3) := by decide +kernel
theorem d_X6_assign_60 : decode prog_8_method_2_code 60 = .ok (.iconst 1, 1) := by decide +kernel
theorem d_X6_assign_61 : decode prog_8_method_2_code 61 = .ok (.iadd, 1) := by decide +kernel
theorem d_X6_assign_62 : decode prog_8_method_2_code 62 = .ok (.putfield 15, 3) := by decide +kernel
theorem d_X6_assign_65 : decode prog_8_method_2_code 65 = .ok (.iinc 2 1, 3) := by decide +kernel
theorem d_X6_assign_68 : decode prog_8_method_2_code 68 = .ok (.goto (-61), 3) := by decide +kernel
theorem d_X6_assign_71 : decode prog_8_method_2_code 71 = .ok (.return_, 1) := by decide +kernel
abbrev y_X6_leastOfOneRow : MethodName := ⟨"VirtualRewrite$Slots", "leastOfOneRow", "(II)I"⟩
theorem d_X6_leastOfOneRow_0 : decode prog_8_method_3_code 0 = .ok (.iconst 0, 1) := by decide +kernel
theorem d_X6_leastOfOneRow_1 : decode prog_8_method_3_code 1 = .ok (.istore_n 3, 1) := by decide +kernel
theorem d_X6_leastOfOneRow_2 : decode prog_8_method_3_code 2 = .ok (.iload_n 3, 1) := by decide +kernel
theorem d_X6_leastOfOneRow_3 : decode prog_8_method_3_code 3 = .ok (.iload_n 2, 1) := by decide +kernel
theorem d_X6_leastOfOneRow_4 : decode prog_8_method_3_code 4 = .ok (.if_icmp .ge 21, 3) := by decide +kernel
theorem d_X6_leastOfOneRow_7 : decode prog_8_method_3_code 7 = .ok (.aload_n 0, 1) := by decide +kernel
theorem d_X6_leastOfOneRow_8 : decode prog_8_method_3_code 8 = .ok (.iload_n 1, 1) := by decide +kernel
theorem d_X6_leastOfOneRow_9 : decode prog_8_method_3_code 9 = .ok (.iload_n 3, 1) := by decide +kernel
theorem d_X6_leastOfOneRow_10 : decode prog_8_method_3_code 10 = .ok (.iload_n 2, 1) := by decide +kernel
theorem d_X6_leastOfOneRow_11 : decode prog_8_method_3_code 11 = .ok (.invokevirtual 40, 3) := by decide +kernel
theorem d_X6_leastOfOneRow_14 : decode prog_8_method_3_code 14 = .ok (.ifCond .eq 5, 3) := by decide +kernel
theorem d_X6_leastOfOneRow_17 : decode prog_8_method_3_code 17 = .ok (.iload_n 3, 1) := by decide +kernel
theorem d_X6_leastOfOneRow_18 : decode prog_8_method_3_code 18 = .ok (.ireturn, 1) := by decide +kernel
theorem d_X6_leastOfOneRow_19 : decode prog_8_method_3_code 19 = .ok (.iinc 3 1, 3) := by decide +kernel
theorem d_X6_leastOfOneRow_22 : decode prog_8_method_3_code 22 = .ok (.goto (-20), 3) := by decide +kernel
theorem d_X6_leastOfOneRow_25 : decode prog_8_method_3_code 25 = .ok (.iload_n 2, 1) := by decide +kernel
theorem d_X6_leastOfOneRow_26 : decode prog_8_method_3_code 26 = .ok (.ireturn, 1) := by decide +kernel
abbrev y_X6_areOfOneRow : MethodName := ⟨"VirtualRewrite$Slots", "areOfOneRow", "(III)Z"⟩
theorem d_X6_areOfOneRow_0 : decode prog_8_method_4_code 0 = .ok (.aload_n 0, 1) := by decide +kernel
theorem d_X6_areOfOneRow_1 : decode prog_8_method_4_code 1 = .ok (.getfield 27, 3) := by decide +kernel
theorem d_X6_areOfOneRow_4 : decode prog_8_method_4_code 4 = .ok (.iload_n 1, 1) := by decide +kernel
theorem d_X6_areOfOneRow_5 : decode prog_8_method_4_code 5 = .ok (.iload_n 2, 1) := by decide +kernel
theorem d_X6_areOfOneRow_6 : decode prog_8_method_4_code 6 = .ok (.invokevirtual 44, 3) := by decide +kernel
theorem d_X6_areOfOneRow_9 : decode prog_8_method_4_code 9 = .ok (.astore 4, 2) := by decide +kernel
theorem d_X6_areOfOneRow_11 : decode prog_8_method_4_code 11 = .ok (.aload_n 0, 1) := by decide +kernel
theorem d_X6_areOfOneRow_12 : decode prog_8_method_4_code 12 = .ok (.getfield 27, 3) := by decide +kernel
theorem d_X6_areOfOneRow_15 : decode prog_8_method_4_code 15 = .ok (.iload_n 1, 1) := by decide +kernel
theorem d_X6_areOfOneRow_16 : decode prog_8_method_4_code 16 = .ok (.iload_n 3, 1) := by decide +kernel
theorem d_X6_areOfOneRow_17 : decode prog_8_method_4_code 17 = .ok (.invokevirtual 44, 3) := by decide +kernel
theorem d_X6_areOfOneRow_20 : decode prog_8_method_4_code 20 = .ok (.astore 5, 2) := by decide +kernel
theorem d_X6_areOfOneRow_22 : decode prog_8_method_4_code 22 = .ok (.aload 4, 2) := by decide +kernel
theorem d_X6_areOfOneRow_24 : decode prog_8_method_4_code 24 = .ok (.getfield 50, 3) := by decide +kernel
theorem d_X6_areOfOneRow_27 : decode prog_8_method_4_code 27 = .ok (.aload 5, 2) := by decide +kernel
theorem d_X6_areOfOneRow_29 : decode prog_8_method_4_code 29 = .ok (.getfield 50, 3) := by decide +kernel
theorem d_X6_areOfOneRow_32 : decode prog_8_method_4_code 32 = .ok (.if_icmp .eq 5, 3) := by decide +kernel
theorem d_X6_areOfOneRow_35 : decode prog_8_method_4_code 35 = .ok (.iconst 0, 1) := by decide +kernel
theorem d_X6_areOfOneRow_36 : decode prog_8_method_4_code 36 = .ok (.ireturn, 1) := by decide +kernel
theorem d_X6_areOfOneRow_37 : decode prog_8_method_4_code 37 = .ok (.aload_n 0, 1) := by decide +kernel
theorem d_X6_areOfOneRow_38 : decode prog_8_method_4_code 38 = .ok (.getfield 19, 3) := by decide +kernel
theorem d_X6_areOfOneRow_41 : decode prog_8_method_4_code 41 = .ok (.aload 4, 2) := by decide +kernel
theorem d_X6_areOfOneRow_43 : decode prog_8_method_4_code 43 = .ok (.invokevirtual 55, 3) := by decide +kernel
theorem d_X6_areOfOneRow_46 : decode prog_8_method_4_code 46 = .ok (.getfield 61, 3) := by decide +kernel
theorem d_X6_areOfOneRow_49 : decode prog_8_method_4_code 49 = .ok (.astore 6, 2) := by decide +kernel
theorem d_X6_areOfOneRow_51 : decode prog_8_method_4_code 51 = .ok (.iconst 0, 1) := by decide +kernel
theorem d_X6_areOfOneRow_52 : decode prog_8_method_4_code 52 = .ok (.istore 7, 2) := by decide +kernel
theorem d_X6_areOfOneRow_54 : decode prog_8_method_4_code 54 = .ok (.iload 7, 2) := by decide +kernel
theorem d_X6_areOfOneRow_56 : decode prog_8_method_4_code 56 = .ok (.iconst 2, 1) := by decide +kernel
theorem d_X6_areOfOneRow_57 : decode prog_8_method_4_code 57 = .ok (.if_icmp .ge 94, 3) := by decide +kernel
theorem d_X6_areOfOneRow_60 : decode prog_8_method_4_code 60 = .ok (.iconst 0, 1) := by decide +kernel
theorem d_X6_areOfOneRow_61 : decode prog_8_method_4_code 61 = .ok (.istore 8, 2) := by decide +kernel
theorem d_X6_areOfOneRow_63 : decode prog_8_method_4_code 63 = .ok (.iload 8, 2) := by decide +kernel
theorem d_X6_areOfOneRow_65 : decode prog_8_method_4_code 65 = .ok (.iconst 2, 1) := by decide +kernel
theorem d_X6_areOfOneRow_66 : decode prog_8_method_4_code 66 = .ok (.if_icmp .ge 79, 3) := by decide +kernel
theorem d_X6_areOfOneRow_69 : decode prog_8_method_4_code 69 = .ok (.aload 4, 2) := by decide +kernel
theorem d_X6_areOfOneRow_71 : decode prog_8_method_4_code 71 = .ok (.getfield 67, 3) := by decide +kernel
theorem d_X6_areOfOneRow_74 : decode prog_8_method_4_code 74 = .ok (.iload 7, 2) := by decide +kernel
theorem d_X6_areOfOneRow_76 : decode prog_8_method_4_code 76 = .ok (.iaload, 1) := by decide +kernel
theorem d_X6_areOfOneRow_77 : decode prog_8_method_4_code 77 = .ok (.aload 5, 2) := by decide +kernel
theorem d_X6_areOfOneRow_79 : decode prog_8_method_4_code 79 = .ok (.getfield 67, 3) := by decide +kernel
theorem d_X6_areOfOneRow_82 : decode prog_8_method_4_code 82 = .ok (.iload 8, 2) := by decide +kernel
theorem d_X6_areOfOneRow_84 : decode prog_8_method_4_code 84 = .ok (.iaload, 1) := by decide +kernel
theorem d_X6_areOfOneRow_85 : decode prog_8_method_4_code 85 = .ok (.if_icmp .ne 21, 3) := by decide +kernel
theorem d_X6_areOfOneRow_88 : decode prog_8_method_4_code 88 = .ok (.aload 6, 2) := by decide +kernel
theorem d_X6_areOfOneRow_90 : decode prog_8_method_4_code 90 = .ok (.aload 4, 2) := by decide +kernel
theorem d_X6_areOfOneRow_92 : decode prog_8_method_4_code 92 = .ok (.getfield 67, 3) := by decide +kernel
theorem d_X6_areOfOneRow_95 : decode prog_8_method_4_code 95 = .ok (.iload 7, 2) := by decide +kernel
theorem d_X6_areOfOneRow_97 : decode prog_8_method_4_code 97 = .ok (.iaload, 1) := by decide +kernel
theorem d_X6_areOfOneRow_98 : decode prog_8_method_4_code 98 = .ok (.baload, 1) := by decide +kernel
theorem d_X6_areOfOneRow_99 : decode prog_8_method_4_code 99 = .ok (.ifCond .eq 7, 3) := by decide +kernel
theorem d_X6_areOfOneRow_102 : decode prog_8_method_4_code 102 = .ok (.iconst 1, 1) := by decide +kernel
theorem d_X6_areOfOneRow_103 : decode prog_8_method_4_code 103 = .ok (.goto 4, 3) := by decide +kernel
theorem d_X6_areOfOneRow_106 : decode prog_8_method_4_code 106 = .ok (.iconst 0, 1) := by decide +kernel
theorem d_X6_areOfOneRow_107 : decode prog_8_method_4_code 107 = .ok (.istore 9, 2) := by decide +kernel
theorem d_X6_areOfOneRow_109 : decode prog_8_method_4_code 109 = .ok (.iload 9, 2) := by decide +kernel
theorem d_X6_areOfOneRow_111 : decode prog_8_method_4_code 111 = .ok (.ifCond .eq 28, 3) := by decide +kernel
theorem d_X6_areOfOneRow_114 : decode prog_8_method_4_code 114 = .ok (.aload_n 0, 1) := by decide +kernel
theorem d_X6_areOfOneRow_115 : decode prog_8_method_4_code 115 = .ok (.getfield 23, 3) := by decide +kernel
theorem d_X6_areOfOneRow_118 : decode prog_8_method_4_code 118 = .ok (.iload_n 2, 1) := by decide +kernel
theorem d_X6_areOfOneRow_119 : decode prog_8_method_4_code 119 = .ok (.iload 7, 2) := by decide +kernel
theorem d_X6_areOfOneRow_121 : decode prog_8_method_4_code 121 = .ok (.invokevirtual 70, 3) := by decide +kernel
theorem d_X6_areOfOneRow_124 : decode prog_8_method_4_code 124 = .ok (.aload_n 0, 1) := by decide +kernel
theorem d_X6_areOfOneRow_125 : decode prog_8_method_4_code 125 = .ok (.getfield 23, 3) := by decide +kernel
theorem d_X6_areOfOneRow_128 : decode prog_8_method_4_code 128 = .ok (.iload_n 3, 1) := by decide +kernel
theorem d_X6_areOfOneRow_129 : decode prog_8_method_4_code 129 = .ok (.iload 8, 2) := by decide +kernel
theorem d_X6_areOfOneRow_131 : decode prog_8_method_4_code 131 = .ok (.invokevirtual 70, 3) := by decide +kernel
theorem d_X6_areOfOneRow_134 : decode prog_8_method_4_code 134 = .ok (.if_icmp .ne 5, 3) := by decide +kernel
theorem d_X6_areOfOneRow_137 : decode prog_8_method_4_code 137 = .ok (.iconst 1, 1) := by decide +kernel
theorem d_X6_areOfOneRow_138 : decode prog_8_method_4_code 138 = .ok (.ireturn, 1) := by decide +kernel
theorem d_X6_areOfOneRow_139 : decode prog_8_method_4_code 139 = .ok (.iinc 8 1, 3) := by decide +kernel
theorem d_X6_areOfOneRow_142 : decode prog_8_method_4_code 142 = .ok (.goto (-79), 3) := by decide +kernel
theorem d_X6_areOfOneRow_145 : decode prog_8_method_4_code 145 = .ok (.iinc 7 1, 3) := by decide +kernel
theorem d_X6_areOfOneRow_148 : decode prog_8_method_4_code 148 = .ok (.goto (-94), 3) := by decide +kernel
theorem d_X6_areOfOneRow_151 : decode prog_8_method_4_code 151 = .ok (.iconst 0, 1) := by decide +kernel
theorem d_X6_areOfOneRow_152 : decode prog_8_method_4_code 152 = .ok (.ireturn, 1) := by decide +kernel
end
section
abbrev y_X5_mappingOf : MethodName := ⟨"VirtualRewrite$Rewriting", "mappingOf", "(II)LVirtualRewrite$Mapping;"⟩
theorem d_X5_mappingOf_0 : decode prog_7_method_3_code 0 = .ok (.aload_n 0, 1) := by decide +kernel
theorem d_X5_mappingOf_1 : decode prog_7_method_3_code 1 = .ok (.getfield 32, 3) := by decide +kernel
theorem d_X5_mappingOf_4 : decode prog_7_method_3_code 4 = .ok (.getfield 40, 3) := by decide +kernel
theorem d_X5_mappingOf_7 : decode prog_7_method_3_code 7 = .ok (.aload_n 0, 1) := by decide +kernel
theorem d_X5_mappingOf_8 : decode prog_7_method_3_code 8 = .ok (.iload_n 1, 1) := by decide +kernel
theorem d_X5_mappingOf_9 : decode prog_7_method_3_code 9 = .ok (.iload_n 2, 1) := by decide +kernel
theorem d_X5_mappingOf_10 : decode prog_7_method_3_code 10 = .ok (.invokevirtual 46, 3) := by decide +kernel
theorem d_X5_mappingOf_13 : decode prog_7_method_3_code 13 = .ok (.aaload, 1) := by decide +kernel
theorem d_X5_mappingOf_14 : decode prog_7_method_3_code 14 = .ok (.areturn, 1) := by decide +kernel
abbrev y_X0_estimate : MethodName := ⟨"VirtualRewrite", "estimate", "(I)I"⟩
theorem d_X0_estimate_0 : decode prog_1_method_12_code 0 = .ok (.aload_n 0, 1) := by decide +kernel
theorem d_X0_estimate_1 : decode prog_1_method_12_code 1 = .ok (.iload_n 1, 1) := by decide +kernel
theorem d_X0_estimate_2 : decode prog_1_method_12_code 2 = .ok (.invokevirtual 140, 3) := by decide +kernel
theorem d_X0_estimate_5 : decode prog_1_method_12_code 5 = .ok (.istore_n 2, 1) := by decide +kernel
theorem d_X0_estimate_6 : decode prog_1_method_12_code 6 = .ok (.iload_n 2, 1) := by decide +kernel
theorem d_X0_estimate_7 : decode prog_1_method_12_code 7 = .ok (.ifCond .eq 5, 3) := by decide +kernel
theorem d_X0_estimate_10 : decode prog_1_method_12_code 10 = .ok (.iload_n 2, 1) := by decide +kernel
theorem d_X0_estimate_11 : decode prog_1_method_12_code 11 = .ok (.ireturn, 1) := by decide +kernel
theorem d_X0_estimate_12 : decode prog_1_method_12_code 12 = .ok (.aload_n 0, 1) := by decide +kernel
theorem d_X0_estimate_13 : decode prog_1_method_12_code 13 = .ok (.getfield 37, 3) := by decide +kernel
theorem d_X0_estimate_16 : decode prog_1_method_12_code 16 = .ok (.iload_n 1, 1) := by decide +kernel
theorem d_X0_estimate_17 : decode prog_1_method_12_code 17 = .ok (.invokevirtual 148, 3) := by decide +kernel
theorem d_X0_estimate_20 : decode prog_1_method_12_code 20 = .ok (.aload_n 0, 1) := by decide +kernel
theorem d_X0_estimate_21 : decode prog_1_method_12_code 21 = .ok (.getfield 37, 3) := by decide +kernel
theorem d_X0_estimate_24 : decode prog_1_method_12_code 24 = .ok (.iload_n 1, 1) := by decide +kernel
theorem d_X0_estimate_25 : decode prog_1_method_12_code 25 = .ok (.invokevirtual 158, 3) := by decide +kernel
theorem d_X0_estimate_28 : decode prog_1_method_12_code 28 = .ok (.ireturn, 1) := by decide +kernel
abbrev y_X6_productOfRows : MethodName := ⟨"VirtualRewrite$Slots", "productOfRows", "(I)I"⟩
theorem d_X6_productOfRows_0 : decode prog_8_method_5_code 0 = .ok (.iconst 1, 1) := by decide +kernel
theorem d_X6_productOfRows_1 : decode prog_8_method_5_code 1 = .ok (.istore_n 2, 1) := by decide +kernel
theorem d_X6_productOfRows_2 : decode prog_8_method_5_code 2 = .ok (.iconst 0, 1) := by decide +kernel
theorem d_X6_productOfRows_3 : decode prog_8_method_5_code 3 = .ok (.istore_n 3, 1) := by decide +kernel
theorem d_X6_productOfRows_4 : decode prog_8_method_5_code 4 = .ok (.iconst 0, 1) := by decide +kernel
theorem d_X6_productOfRows_5 : decode prog_8_method_5_code 5 = .ok (.istore 4, 2) := by decide +kernel
theorem d_X6_productOfRows_7 : decode prog_8_method_5_code 7 = .ok (.iload 4, 2) := by decide +kernel
theorem d_X6_productOfRows_9 : decode prog_8_method_5_code 9 = .ok (.aload_n 0, 1) := by decide +kernel
theorem d_X6_productOfRows_10 : decode prog_8_method_5_code 10 = .ok (.getfield 23, 3) := by decide +kernel
theorem d_X6_productOfRows_13 : decode prog_8_method_5_code 13 = .ok (.getfield 31, 3) := by decide +kernel
theorem d_X6_productOfRows_16 : decode prog_8_method_5_code 16 = .ok (.if_icmp .ge 39, 3) := by decide +kernel
theorem d_X6_productOfRows_19 : decode prog_8_method_5_code 19 = .ok (.aload_n 0, 1) := by decide +kernel
theorem d_X6_productOfRows_20 : decode prog_8_method_5_code 20 = .ok (.getfield 9, 3) := by decide +kernel
theorem d_X6_productOfRows_23 : decode prog_8_method_5_code 23 = .ok (.iload 4, 2) := by decide +kernel
theorem d_X6_productOfRows_25 : decode prog_8_method_5_code 25 = .ok (.iaload, 1) := by decide +kernel
theorem d_X6_productOfRows_26 : decode prog_8_method_5_code 26 = .ok (.iload_n 3, 1) := by decide +kernel
theorem d_X6_productOfRows_27 : decode prog_8_method_5_code 27 = .ok (.if_icmp .ne 22, 3) := by decide +kernel
theorem d_X6_productOfRows_30 : decode prog_8_method_5_code 30 = .ok (.iload_n 2, 1) := by decide +kernel
theorem d_X6_productOfRows_31 : decode prog_8_method_5_code 31 = .ok (.aload_n 0, 1) := by decide +kernel
theorem d_X6_productOfRows_32 : decode prog_8_method_5_code 32 = .ok (.getfield 27, 3) := by decide +kernel
theorem d_X6_productOfRows_35 : decode prog_8_method_5_code 35 = .ok (.iload_n 1, 1) := by decide +kernel
theorem d_X6_productOfRows_36 : decode prog_8_method_5_code 36 = .ok (.iload 4, 2) := by decide +kernel
theorem d_X6_productOfRows_38 : decode prog_8_method_5_code 38 = .ok (.invokevirtual 73, 3) := by decide +kernel
theorem d_X6_productOfRows_41 : decode prog_8_method_5_code 41 = .ok (.getfield 76, 3) := by decide +kernel
theorem d_X6_productOfRows_44 : decode prog_8_method_5_code 44 = .ok (.imul, 1) := by decide +kernel
theorem d_X6_productOfRows_45 : decode prog_8_method_5_code 45 = .ok (.istore_n 2, 1) := by decide +kernel
theorem d_X6_productOfRows_46 : decode prog_8_method_5_code 46 = .ok (.iinc 3 1, 3) := by decide +kernel
theorem d_X6_productOfRows_49 : decode prog_8_method_5_code 49 = .ok (.iinc 4 1, 3) := by decide +kernel
theorem d_X6_productOfRows_52 : decode prog_8_method_5_code 52 = .ok (.goto (-45), 3) := by decide +kernel
theorem d_X6_productOfRows_55 : decode prog_8_method_5_code 55 = .ok (.iload_n 2, 1) := by decide +kernel
theorem d_X6_productOfRows_56 : decode prog_8_method_5_code 56 = .ok (.ireturn, 1) := by decide +kernel
abbrev y_X5_tableOf : MethodName := ⟨"VirtualRewrite$Rewriting", "tableOf", "(II)LVirtualRewrite$Table;"⟩
theorem d_X5_tableOf_0 : decode prog_7_method_4_code 0 = .ok (.aload_n 0, 1) := by decide +kernel
theorem d_X5_tableOf_1 : decode prog_7_method_4_code 1 = .ok (.getfield 32, 3) := by decide +kernel
theorem d_X5_tableOf_4 : decode prog_7_method_4_code 4 = .ok (.aload_n 0, 1) := by decide +kernel
theorem d_X5_tableOf_5 : decode prog_7_method_4_code 5 = .ok (.iload_n 1, 1) := by decide +kernel
theorem d_X5_tableOf_6 : decode prog_7_method_4_code 6 = .ok (.iload_n 2, 1) := by decide +kernel
theorem d_X5_tableOf_7 : decode prog_7_method_4_code 7 = .ok (.invokevirtual 50, 3) := by decide +kernel
theorem d_X5_tableOf_10 : decode prog_7_method_4_code 10 = .ok (.invokevirtual 54, 3) := by decide +kernel
theorem d_X5_tableOf_13 : decode prog_7_method_4_code 13 = .ok (.areturn, 1) := by decide +kernel
abbrev y_X0_run : MethodName := ⟨"VirtualRewrite", "run", "()I"⟩
theorem d_X0_run_0 : decode prog_1_method_13_code 0 = .ok (.aload_n 0, 1) := by decide +kernel
theorem d_X0_run_1 : decode prog_1_method_13_code 1 = .ok (.getfield 44, 3) := by decide +kernel
theorem d_X0_run_4 : decode prog_1_method_13_code 4 = .ok (.aload_n 0, 1) := by decide +kernel
theorem d_X0_run_5 : decode prog_1_method_13_code 5 = .ok (.getfield 19, 3) := by decide +kernel
theorem d_X0_run_8 : decode prog_1_method_13_code 8 = .ok (.invokevirtual 161, 3) := by decide +kernel
theorem d_X0_run_11 : decode prog_1_method_13_code 11 = .ok (.invokevirtual 164, 3) := by decide +kernel
theorem d_X0_run_14 : decode prog_1_method_13_code 14 = .ok (.aload_n 0, 1) := by decide +kernel
theorem d_X0_run_15 : decode prog_1_method_13_code 15 = .ok (.getfield 19, 3) := by decide +kernel
theorem d_X0_run_18 : decode prog_1_method_13_code 18 = .ok (.getfield 116, 3) := by decide +kernel
theorem d_X0_run_21 : decode prog_1_method_13_code 21 = .ok (.ifCond .ne 5, 3) := by decide +kernel
theorem d_X0_run_24 : decode prog_1_method_13_code 24 = .ok (.iconst (-1), 1) := by decide +kernel
theorem d_X0_run_25 : decode prog_1_method_13_code 25 = .ok (.ireturn, 1) := by decide +kernel
theorem d_X0_run_26 : decode prog_1_method_13_code 26 = .ok (.aload_n 0, 1) := by decide +kernel
theorem d_X0_run_27 : decode prog_1_method_13_code 27 = .ok (.getfield 28, 3) := by decide +kernel
theorem d_X0_run_30 : decode prog_1_method_13_code 30 = .ok (.invokevirtual 129, 3) := by decide +kernel
theorem d_X0_run_33 : decode prog_1_method_13_code 33 = .ok (.aload_n 0, 1) := by decide +kernel
theorem d_X0_run_34 : decode prog_1_method_13_code 34 = .ok (.getfield 28, 3) := by decide +kernel
theorem d_X0_run_37 : decode prog_1_method_13_code 37 = .ok (.getfield 132, 3) := by decide +kernel
theorem d_X0_run_40 : decode prog_1_method_13_code 40 = .ok (.ifCond .eq 6, 3) := by decide +kernel
theorem d_X0_run_43 : decode prog_1_method_13_code 43 = .ok (.bipush (-3), 2) := by decide +kernel
theorem d_X0_run_45 : decode prog_1_method_13_code 45 = .ok (.ireturn, 1) := by decide +kernel
theorem d_X0_run_46 : decode prog_1_method_13_code 46 = .ok (.iconst 0, 1) := by decide +kernel
theorem d_X0_run_47 : decode prog_1_method_13_code 47 = .ok (.istore_n 1, 1) := by decide +kernel
theorem d_X0_run_48 : decode prog_1_method_13_code 48 = .ok (.iload_n 1, 1) := by decide +kernel
theorem d_X0_run_49 : decode prog_1_method_13_code 49 = .ok (.aload_n 0, 1) := by decide +kernel
theorem d_X0_run_50 : decode prog_1_method_13_code 50 = .ok (.getfield 28, 3) := by decide +kernel
theorem d_X0_run_53 : decode prog_1_method_13_code 53 = .ok (.getfield 136, 3) := by decide +kernel
theorem d_X0_run_56 : decode prog_1_method_13_code 56 = .ok (.if_icmp .ge 27, 3) := by decide +kernel
theorem d_X0_run_59 : decode prog_1_method_13_code 59 = .ok (.aload_n 0, 1) := by decide +kernel
theorem d_X0_run_60 : decode prog_1_method_13_code 60 = .ok (.getfield 44, 3) := by decide +kernel
theorem d_X0_run_63 : decode prog_1_method_13_code 63 = .ok (.getfield 167, 3) := by decide +kernel
theorem d_X0_run_66 : decode prog_1_method_13_code 66 = .ok (.ifCond .ne 17, 3) := by decide +kernel
theorem d_X0_run_69 : decode prog_1_method_13_code 69 = .ok (.aload_n 0, 1) := by decide +kernel
theorem d_X0_run_70 : decode prog_1_method_13_code 70 = .ok (.getfield 53, 3) := by decide +kernel
theorem d_X0_run_73 : decode prog_1_method_13_code 73 = .ok (.iload_n 1, 1) := by decide +kernel
theorem d_X0_run_74 : decode prog_1_method_13_code 74 = .ok (.invokevirtual 168, 3) := by decide +kernel
theorem d_X0_run_77 : decode prog_1_method_13_code 77 = .ok (.iinc 1 1, 3) := by decide +kernel
theorem d_X0_run_80 : decode prog_1_method_13_code 80 = .ok (.goto (-32), 3) := by decide +kernel
theorem d_X0_run_83 : decode prog_1_method_13_code 83 = .ok (.aload_n 0, 1) := by decide +kernel
theorem d_X0_run_84 : decode prog_1_method_13_code 84 = .ok (.getfield 44, 3) := by decide +kernel
theorem d_X0_run_87 : decode prog_1_method_13_code 87 = .ok (.getfield 167, 3) := by decide +kernel
theorem d_X0_run_90 : decode prog_1_method_13_code 90 = .ok (.ifCond .eq 14, 3) := by decide +kernel
theorem d_X0_run_93 : decode prog_1_method_13_code 93 = .ok (.aload_n 0, 1) := by decide +kernel
theorem d_X0_run_94 : decode prog_1_method_13_code 94 = .ok (.getfield 44, 3) := by decide +kernel
theorem d_X0_run_97 : decode prog_1_method_13_code 97 = .ok (.iconst 0, 1) := by decide +kernel
theorem d_X0_run_98 : decode prog_1_method_13_code 98 = .ok (.putfield 171, 3) := by decide +kernel
theorem d_X0_run_101 : decode prog_1_method_13_code 101 = .ok (.bipush (-3), 2) := by decide +kernel
theorem d_X0_run_103 : decode prog_1_method_13_code 103 = .ok (.ireturn, 1) := by decide +kernel
theorem d_X0_run_104 : decode prog_1_method_13_code 104 = .ok (.aload_n 0, 1) := by decide +kernel
theorem d_X0_run_105 : decode prog_1_method_13_code 105 = .ok (.getfield 44, 3) := by decide +kernel
theorem d_X0_run_108 : decode prog_1_method_13_code 108 = .ok (.getfield 171, 3) := by decide +kernel
theorem d_X0_run_111 : decode prog_1_method_13_code 111 = .ok (.ireturn, 1) := by decide +kernel
abbrev y_X4_variables : MethodName := ⟨"VirtualRewrite$Question", "variables", "()I"⟩
theorem d_X4_variables_0 : decode prog_6_method_7_code 0 = .ok (.iconst 0, 1) := by decide +kernel
theorem d_X4_variables_1 : decode prog_6_method_7_code 1 = .ok (.istore_n 1, 1) := by decide +kernel
theorem d_X4_variables_2 : decode prog_6_method_7_code 2 = .ok (.iconst 0, 1) := by decide +kernel
theorem d_X4_variables_3 : decode prog_6_method_7_code 3 = .ok (.istore_n 2, 1) := by decide +kernel
theorem d_X4_variables_4 : decode prog_6_method_7_code 4 = .ok (.iload_n 2, 1) := by decide +kernel
theorem d_X4_variables_5 : decode prog_6_method_7_code 5 = .ok (.aload_n 0, 1) := by decide +kernel
theorem d_X4_variables_6 : decode prog_6_method_7_code 6 = .ok (.getfield 24, 3) := by decide +kernel
theorem d_X4_variables_9 : decode prog_6_method_7_code 9 = .ok (.iconst 2, 1) := by decide +kernel
theorem d_X4_variables_10 : decode prog_6_method_7_code 10 = .ok (.imul, 1) := by decide +kernel
theorem d_X4_variables_11 : decode prog_6_method_7_code 11 = .ok (.if_icmp .ge 35, 3) := by decide +kernel
theorem d_X4_variables_14 : decode prog_6_method_7_code 14 = .ok (.aload_n 0, 1) := by decide +kernel
theorem d_X4_variables_15 : decode prog_6_method_7_code 15 = .ok (.getfield 15, 3) := by decide +kernel
theorem d_X4_variables_18 : decode prog_6_method_7_code 18 = .ok (.iload_n 2, 1) := by decide +kernel
theorem d_X4_variables_19 : decode prog_6_method_7_code 19 = .ok (.iaload, 1) := by decide +kernel
theorem d_X4_variables_20 : decode prog_6_method_7_code 20 = .ok (.invokestatic 40, 3) := by decide +kernel
theorem d_X4_variables_23 : decode prog_6_method_7_code 23 = .ok (.ifCond .eq 17, 3) := by decide +kernel
theorem d_X4_variables_26 : decode prog_6_method_7_code 26 = .ok (.iload_n 1, 1) := by decide +kernel
theorem d_X4_variables_27 : decode prog_6_method_7_code 27 = .ok (.aload_n 0, 1) := by decide +kernel
theorem d_X4_variables_28 : decode prog_6_method_7_code 28 = .ok (.getfield 15, 3) := by decide +kernel
theorem d_X4_variables_31 : decode prog_6_method_7_code 31 = .ok (.iload_n 2, 1) := by decide +kernel
theorem d_X4_variables_32 : decode prog_6_method_7_code 32 = .ok (.iaload, 1) := by decide +kernel
theorem d_X4_variables_33 : decode prog_6_method_7_code 33 = .ok (.invokestatic 44, 3) := by decide +kernel
theorem d_X4_variables_36 : decode prog_6_method_7_code 36 = .ok (.invokestatic 48, 3) := by decide +kernel
theorem d_X4_variables_39 : decode prog_6_method_7_code 39 = .ok (.istore_n 1, 1) := by decide +kernel
theorem d_X4_variables_40 : decode prog_6_method_7_code 40 = .ok (.iinc 2 1, 3) := by decide +kernel
theorem d_X4_variables_43 : decode prog_6_method_7_code 43 = .ok (.goto (-39), 3) := by decide +kernel
theorem d_X4_variables_46 : decode prog_6_method_7_code 46 = .ok (.iload_n 1, 1) := by decide +kernel
theorem d_X4_variables_47 : decode prog_6_method_7_code 47 = .ok (.ireturn, 1) := by decide +kernel
abbrev y_X7_begin : MethodName := ⟨"VirtualRewrite$Answers", "begin", "(I)V"⟩
theorem d_X7_begin_0 : decode prog_2_method_2_code 0 = .ok (.aload_n 0, 1) := by decide +kernel
theorem d_X7_begin_1 : decode prog_2_method_2_code 1 = .ok (.iconst 0, 1) := by decide +kernel
theorem d_X7_begin_2 : decode prog_2_method_2_code 2 = .ok (.putfield 24, 3) := by decide +kernel
theorem d_X7_begin_5 : decode prog_2_method_2_code 5 = .ok (.aload_n 0, 1) := by decide +kernel
theorem d_X7_begin_6 : decode prog_2_method_2_code 6 = .ok (.iload_n 1, 1) := by decide +kernel
theorem d_X7_begin_7 : decode prog_2_method_2_code 7 = .ok (.putfield 28, 3) := by decide +kernel
theorem d_X7_begin_10 : decode prog_2_method_2_code 10 = .ok (.aload_n 0, 1) := by decide +kernel
theorem d_X7_begin_11 : decode prog_2_method_2_code 11 = .ok (.iconst 0, 1) := by decide +kernel
theorem d_X7_begin_12 : decode prog_2_method_2_code 12 = .ok (.putfield 31, 3) := by decide +kernel
theorem d_X7_begin_15 : decode prog_2_method_2_code 15 = .ok (.return_, 1) := by decide +kernel
abbrev y_X8_find : MethodName := ⟨"VirtualRewrite$Finder", "find", "(I)V"⟩
theorem d_X8_find_0 : decode prog_4_method_2_code 0 = .ok (.aload_n 0, 1) := by decide +kernel
theorem d_X8_find_1 : decode prog_4_method_2_code 1 = .ok (.iload_n 1, 1) := by decide +kernel
theorem d_X8_find_2 : decode prog_4_method_2_code 2 = .ok (.putfield 36, 3) := by decide +kernel
theorem d_X8_find_5 : decode prog_4_method_2_code 5 = .ok (.aload_n 0, 1) := by decide +kernel
theorem d_X8_find_6 : decode prog_4_method_2_code 6 = .ok (.getfield 48, 3) := by decide +kernel
theorem d_X8_find_9 : decode prog_4_method_2_code 9 = .ok (.iload_n 1, 1) := by decide +kernel
theorem d_X8_find_10 : decode prog_4_method_2_code 10 = .ok (.invokevirtual 56, 3) := by decide +kernel
theorem d_X8_find_13 : decode prog_4_method_2_code 13 = .ok (.aload_n 0, 1) := by decide +kernel
theorem d_X8_find_14 : decode prog_4_method_2_code 14 = .ok (.invokevirtual 62, 3) := by decide +kernel
theorem d_X8_find_17 : decode prog_4_method_2_code 17 = .ok (.iconst 1, 1) := by decide +kernel
theorem d_X8_find_18 : decode prog_4_method_2_code 18 = .ok (.istore_n 2, 1) := by decide +kernel
theorem d_X8_find_19 : decode prog_4_method_2_code 19 = .ok (.iconst 0, 1) := by decide +kernel
theorem d_X8_find_20 : decode prog_4_method_2_code 20 = .ok (.istore_n 3, 1) := by decide +kernel
theorem d_X8_find_21 : decode prog_4_method_2_code 21 = .ok (.iload_n 3, 1) := by decide +kernel
theorem d_X8_find_22 : decode prog_4_method_2_code 22 = .ok (.aload_n 0, 1) := by decide +kernel
theorem d_X8_find_23 : decode prog_4_method_2_code 23 = .ok (.getfield 48, 3) := by decide +kernel
theorem d_X8_find_26 : decode prog_4_method_2_code 26 = .ok (.getfield 65, 3) := by decide +kernel
theorem d_X8_find_29 : decode prog_4_method_2_code 29 = .ok (.if_icmp .ge 33, 3) := by decide +kernel
theorem d_X8_find_32 : decode prog_4_method_2_code 32 = .ok (.iload_n 2, 1) := by decide +kernel
theorem d_X8_find_33 : decode prog_4_method_2_code 33 = .ok (.ifCond .eq 29, 3) := by decide +kernel
theorem d_X8_find_36 : decode prog_4_method_2_code 36 = .ok (.aload_n 0, 1) := by decide +kernel
theorem d_X8_find_37 : decode prog_4_method_2_code 37 = .ok (.iload_n 3, 1) := by decide +kernel
theorem d_X8_find_38 : decode prog_4_method_2_code 38 = .ok (.invokevirtual 68, 3) := by decide +kernel
theorem d_X8_find_41 : decode prog_4_method_2_code 41 = .ok (.aload_n 0, 1) := by decide +kernel
theorem d_X8_find_42 : decode prog_4_method_2_code 42 = .ok (.getfield 24, 3) := by decide +kernel
theorem d_X8_find_45 : decode prog_4_method_2_code 45 = .ok (.iload_n 3, 1) := by decide +kernel
theorem d_X8_find_46 : decode prog_4_method_2_code 46 = .ok (.iaload, 1) := by decide +kernel
theorem d_X8_find_47 : decode prog_4_method_2_code 47 = .ok (.ifCond .le 7, 3) := by decide +kernel
theorem d_X8_find_50 : decode prog_4_method_2_code 50 = .ok (.iconst 1, 1) := by decide +kernel
theorem d_X8_find_51 : decode prog_4_method_2_code 51 = .ok (.goto 4, 3) := by decide +kernel
theorem d_X8_find_54 : decode prog_4_method_2_code 54 = .ok (.iconst 0, 1) := by decide +kernel
theorem d_X8_find_55 : decode prog_4_method_2_code 55 = .ok (.istore_n 2, 1) := by decide +kernel
theorem d_X8_find_56 : decode prog_4_method_2_code 56 = .ok (.iinc 3 1, 3) := by decide +kernel
theorem d_X8_find_59 : decode prog_4_method_2_code 59 = .ok (.goto (-38), 3) := by decide +kernel
theorem d_X8_find_62 : decode prog_4_method_2_code 62 = .ok (.iload_n 2, 1) := by decide +kernel
theorem d_X8_find_63 : decode prog_4_method_2_code 63 = .ok (.ifCond .eq 14, 3) := by decide +kernel
theorem d_X8_find_66 : decode prog_4_method_2_code 66 = .ok (.aload_n 0, 1) := by decide +kernel
theorem d_X8_find_67 : decode prog_4_method_2_code 67 = .ok (.invokevirtual 71, 3) := by decide +kernel
theorem d_X8_find_70 : decode prog_4_method_2_code 70 = .ok (.aload_n 0, 1) := by decide +kernel
theorem d_X8_find_71 : decode prog_4_method_2_code 71 = .ok (.iconst 0, 1) := by decide +kernel
theorem d_X8_find_72 : decode prog_4_method_2_code 72 = .ok (.iconst 0, 1) := by decide +kernel
theorem d_X8_find_73 : decode prog_4_method_2_code 73 = .ok (.invokevirtual 74, 3) := by decide +kernel
theorem d_X8_find_76 : decode prog_4_method_2_code 76 = .ok (.pop, 1) := by decide +kernel
theorem d_X8_find_77 : decode prog_4_method_2_code 77 = .ok (.return_, 1) := by decide +kernel
abbrev y_X8_layOut : MethodName := ⟨"VirtualRewrite$Finder", "layOut", "()V"⟩
theorem d_X8_layOut_0 : decode prog_4_method_3_code 0 = .ok (.iconst 0, 1) := by decide +kernel
theorem d_X8_layOut_1 : decode prog_4_method_3_code 1 = .ok (.istore_n 1, 1) := by decide +kernel
theorem d_X8_layOut_2 : decode prog_4_method_3_code 2 = .ok (.iload_n 1, 1) := by decide +kernel
theorem d_X8_layOut_3 : decode prog_4_method_3_code 3 = .ok (.bipush 6, 2) := by decide +kernel
theorem d_X8_layOut_5 : decode prog_4_method_3_code 5 = .ok (.if_icmp .ge 16, 3) := by decide +kernel
theorem d_X8_layOut_8 : decode prog_4_method_3_code 8 = .ok (.aload_n 0, 1) := by decide +kernel
theorem d_X8_layOut_9 : decode prog_4_method_3_code 9 = .ok (.getfield 33, 3) := by decide +kernel
theorem d_X8_layOut_12 : decode prog_4_method_3_code 12 = .ok (.iload_n 1, 1) := by decide +kernel
theorem d_X8_layOut_13 : decode prog_4_method_3_code 13 = .ok (.iconst 0, 1) := by decide +kernel
theorem d_X8_layOut_14 : decode prog_4_method_3_code 14 = .ok (.iastore, 1) := by decide +kernel
theorem d_X8_layOut_15 : decode prog_4_method_3_code 15 = .ok (.iinc 1 1, 3) := by decide +kernel
theorem d_X8_layOut_18 : decode prog_4_method_3_code 18 = .ok (.goto (-16), 3) := by decide +kernel
theorem d_X8_layOut_21 : decode prog_4_method_3_code 21 = .ok (.iconst 0, 1) := by decide +kernel
theorem d_X8_layOut_22 : decode prog_4_method_3_code 22 = .ok (.istore_n 1, 1) := by decide +kernel
theorem d_X8_layOut_23 : decode prog_4_method_3_code 23 = .ok (.iload_n 1, 1) := by decide +kernel
theorem d_X8_layOut_24 : decode prog_4_method_3_code 24 = .ok (.bipush 24, 2) := by decide +kernel
theorem d_X8_layOut_26 : decode prog_4_method_3_code 26 = .ok (.if_icmp .ge 16, 3) := by decide +kernel
theorem d_X8_layOut_29 : decode prog_4_method_3_code 29 = .ok (.aload_n 0, 1) := by decide +kernel
theorem d_X8_layOut_30 : decode prog_4_method_3_code 30 = .ok (.getfield 18, 3) := by decide +kernel
theorem d_X8_layOut_33 : decode prog_4_method_3_code 33 = .ok (.iload_n 1, 1) := by decide +kernel
theorem d_X8_layOut_34 : decode prog_4_method_3_code 34 = .ok (.iconst (-1), 1) := by decide +kernel
theorem d_X8_layOut_35 : decode prog_4_method_3_code 35 = .ok (.iastore, 1) := by decide +kernel
theorem d_X8_layOut_36 : decode prog_4_method_3_code 36 = .ok (.iinc 1 1, 3) := by decide +kernel
theorem d_X8_layOut_39 : decode prog_4_method_3_code 39 = .ok (.goto (-16), 3) := by decide +kernel
theorem d_X8_layOut_42 : decode prog_4_method_3_code 42 = .ok (.iconst 0, 1) := by decide +kernel
theorem d_X8_layOut_43 : decode prog_4_method_3_code 43 = .ok (.istore_n 1, 1) := by decide +kernel
theorem d_X8_layOut_44 : decode prog_4_method_3_code 44 = .ok (.iload_n 1, 1) := by decide +kernel
theorem d_X8_layOut_45 : decode prog_4_method_3_code 45 = .ok (.iconst 4, 1) := by decide +kernel
theorem d_X8_layOut_46 : decode prog_4_method_3_code 46 = .ok (.if_icmp .ge 16, 3) := by decide +kernel
theorem d_X8_layOut_49 : decode prog_4_method_3_code 49 = .ok (.aload_n 0, 1) := by decide +kernel
theorem d_X8_layOut_50 : decode prog_4_method_3_code 50 = .ok (.getfield 15, 3) := by decide +kernel
theorem d_X8_layOut_53 : decode prog_4_method_3_code 53 = .ok (.iload_n 1, 1) := by decide +kernel
theorem d_X8_layOut_54 : decode prog_4_method_3_code 54 = .ok (.iconst 0, 1) := by decide +kernel
theorem d_X8_layOut_55 : decode prog_4_method_3_code 55 = .ok (.iastore, 1) := by decide +kernel
theorem d_X8_layOut_56 : decode prog_4_method_3_code 56 = .ok (.iinc 1 1, 3) := by decide +kernel
theorem d_X8_layOut_59 : decode prog_4_method_3_code 59 = .ok (.goto (-15), 3) := by decide +kernel
theorem d_X8_layOut_62 : decode prog_4_method_3_code 62 = .ok (.iconst 0, 1) := by decide +kernel
theorem d_X8_layOut_63 : decode prog_4_method_3_code 63 = .ok (.istore_n 1, 1) := by decide +kernel
theorem d_X8_layOut_64 : decode prog_4_method_3_code 64 = .ok (.iload_n 1, 1) := by decide +kernel
theorem d_X8_layOut_65 : decode prog_4_method_3_code 65 = .ok (.aload_n 0, 1) := by decide +kernel
theorem d_X8_layOut_66 : decode prog_4_method_3_code 66 = .ok (.getfield 40, 3) := by decide +kernel
theorem d_X8_layOut_69 : decode prog_4_method_3_code 69 = .ok (.getfield 78, 3) := by decide +kernel
theorem d_X8_layOut_72 : decode prog_4_method_3_code 72 = .ok (.if_icmp .ge 58, 3) := by decide +kernel
theorem d_X8_layOut_75 : decode prog_4_method_3_code 75 = .ok (.aload_n 0, 1) := by decide +kernel
theorem d_X8_layOut_76 : decode prog_4_method_3_code 76 = .ok (.getfield 9, 3) := by decide +kernel
theorem d_X8_layOut_79 : decode prog_4_method_3_code 79 = .ok (.aload_n 0, 1) := by decide +kernel
theorem d_X8_layOut_80 : decode prog_4_method_3_code 80 = .ok (.getfield 48, 3) := by decide +kernel
theorem d_X8_layOut_83 : decode prog_4_method_3_code 83 = .ok (.getfield 83, 3) := by decide +kernel
theorem d_X8_layOut_86 : decode prog_4_method_3_code 86 = .ok (.iload_n 1, 1) := by decide +kernel
theorem d_X8_layOut_87 : decode prog_4_method_3_code 87 = .ok (.iaload, 1) := by decide +kernel
theorem d_X8_layOut_88 : decode prog_4_method_3_code 88 = .ok (.iload_n 1, 1) := by decide +kernel
theorem d_X8_layOut_89 : decode prog_4_method_3_code 89 = .ok (.iastore, 1) := by decide +kernel
theorem d_X8_layOut_90 : decode prog_4_method_3_code 90 = .ok (.iconst 0, 1) := by decide +kernel
theorem d_X8_layOut_91 : decode prog_4_method_3_code 91 = .ok (.istore_n 2, 1) := by decide +kernel
theorem d_X8_layOut_92 : decode prog_4_method_3_code 92 = .ok (.iload_n 2, 1) := by decide +kernel
theorem d_X8_layOut_93 : decode prog_4_method_3_code 93 = .ok (.iconst 2, 1) := by decide +kernel
theorem d_X8_layOut_94 : decode prog_4_method_3_code 94 = .ok (.if_icmp .ge 30, 3) := by decide +kernel
theorem d_X8_layOut_97 : decode prog_4_method_3_code 97 = .ok (.aload_n 0, 1) := by decide +kernel
theorem d_X8_layOut_98 : decode prog_4_method_3_code 98 = .ok (.getfield 40, 3) := by decide +kernel
theorem d_X8_layOut_101 : decode prog_4_method_3_code 101 = .ok (.iload_n 1, 1) := by decide +kernel
theorem d_X8_layOut_102 : decode prog_4_method_3_code 102 = .ok (.iload_n 2, 1) := by decide +kernel
theorem d_X8_layOut_103 : decode prog_4_method_3_code 103 = .ok (.invokevirtual 86, 3) := by decide +kernel
theorem d_X8_layOut_106 : decode prog_4_method_3_code 106 = .ok (.invokestatic 89, 3) := by decide +kernel
theorem d_X8_layOut_109 : decode prog_4_method_3_code 109 = .ok (.ifCond .eq 9, 3) := by decide +kernel
theorem d_X8_layOut_112 : decode prog_4_method_3_code 112 = .ok (.aload_n 0, 1) := by decide +kernel
theorem d_X8_layOut_113 : decode prog_4_method_3_code 113 = .ok (.iload_n 1, 1) := by decide +kernel
theorem d_X8_layOut_114 : decode prog_4_method_3_code 114 = .ok (.iload_n 2, 1) := by decide +kernel
theorem d_X8_layOut_115 : decode prog_4_method_3_code 115 = .ok (.invokevirtual 93, 3) := by decide +kernel
theorem d_X8_layOut_118 : decode prog_4_method_3_code 118 = .ok (.iinc 2 1, 3) := by decide +kernel
theorem d_X8_layOut_121 : decode prog_4_method_3_code 121 = .ok (.goto (-29), 3) := by decide +kernel
theorem d_X8_layOut_124 : decode prog_4_method_3_code 124 = .ok (.iinc 1 1, 3) := by decide +kernel
theorem d_X8_layOut_127 : decode prog_4_method_3_code 127 = .ok (.goto (-63), 3) := by decide +kernel
theorem d_X8_layOut_130 : decode prog_4_method_3_code 130 = .ok (.return_, 1) := by decide +kernel
abbrev y_X8_layOutVariable : MethodName := ⟨"VirtualRewrite$Finder", "layOutVariable", "(II)V"⟩
theorem d_X8_layOutVariable_0 : decode prog_4_method_4_code 0 = .ok (.aload_n 0, 1) := by decide +kernel
theorem d_X8_layOutVariable_1 : decode prog_4_method_4_code 1 = .ok (.getfield 40, 3) := by decide +kernel
theorem d_X8_layOutVariable_4 : decode prog_4_method_4_code 4 = .ok (.iload_n 1, 1) := by decide +kernel
theorem d_X8_layOutVariable_5 : decode prog_4_method_4_code 5 = .ok (.iload_n 2, 1) := by decide +kernel
theorem d_X8_layOutVariable_6 : decode prog_4_method_4_code 6 = .ok (.invokevirtual 86, 3) := by decide +kernel
theorem d_X8_layOutVariable_9 : decode prog_4_method_4_code 9 = .ok (.invokestatic 97, 3) := by decide +kernel
theorem d_X8_layOutVariable_12 : decode prog_4_method_4_code 12 = .ok (.istore_n 3, 1) := by decide +kernel
theorem d_X8_layOutVariable_13 : decode prog_4_method_4_code 13 = .ok (.aload_n 0, 1) := by decide +kernel
theorem d_X8_layOutVariable_14 : decode prog_4_method_4_code 14 = .ok (.getfield 48, 3) := by decide +kernel
theorem d_X8_layOutVariable_17 : decode prog_4_method_4_code 17 = .ok (.getfield 83, 3) := by decide +kernel
theorem d_X8_layOutVariable_20 : decode prog_4_method_4_code 20 = .ok (.iload_n 1, 1) := by decide +kernel
theorem d_X8_layOutVariable_21 : decode prog_4_method_4_code 21 = .ok (.iaload, 1) := by decide +kernel
theorem d_X8_layOutVariable_22 : decode prog_4_method_4_code 22 = .ok (.istore 4, 2) := by decide +kernel
theorem d_X8_layOutVariable_24 : decode prog_4_method_4_code 24 = .ok (.aload_n 0, 1) := by decide +kernel
theorem d_X8_layOutVariable_25 : decode prog_4_method_4_code 25 = .ok (.getfield 44, 3) := by decide +kernel
theorem d_X8_layOutVariable_28 : decode prog_4_method_4_code 28 = .ok (.aload_n 0, 1) := by decide +kernel
theorem d_X8_layOutVariable_29 : decode prog_4_method_4_code 29 = .ok (.getfield 36, 3) := by decide +kernel
theorem d_X8_layOutVariable_32 : decode prog_4_method_4_code 32 = .ok (.iload_n 1, 1) := by decide +kernel
theorem d_X8_layOutVariable_33 : decode prog_4_method_4_code 33 = .ok (.invokevirtual 101, 3) := by decide +kernel
theorem d_X8_layOutVariable_36 : decode prog_4_method_4_code 36 = .ok (.astore 5, 2) := by decide +kernel
theorem d_X8_layOutVariable_38 : decode prog_4_method_4_code 38 = .ok (.aload_n 0, 1) := by decide +kernel
theorem d_X8_layOutVariable_39 : decode prog_4_method_4_code 39 = .ok (.getfield 30, 3) := by decide +kernel
theorem d_X8_layOutVariable_42 : decode prog_4_method_4_code 42 = .ok (.iload_n 3, 1) := by decide +kernel
theorem d_X8_layOutVariable_43 : decode prog_4_method_4_code 43 = .ok (.aload 5, 2) := by decide +kernel
theorem d_X8_layOutVariable_45 : decode prog_4_method_4_code 45 = .ok (.getfield 107, 3) := by decide +kernel
theorem d_X8_layOutVariable_48 : decode prog_4_method_4_code 48 = .ok (.iload_n 2, 1) := by decide +kernel
theorem d_X8_layOutVariable_49 : decode prog_4_method_4_code 49 = .ok (.iaload, 1) := by decide +kernel
theorem d_X8_layOutVariable_50 : decode prog_4_method_4_code 50 = .ok (.iastore, 1) := by decide +kernel
theorem d_X8_layOutVariable_51 : decode prog_4_method_4_code 51 = .ok (.aload_n 0, 1) := by decide +kernel
theorem d_X8_layOutVariable_52 : decode prog_4_method_4_code 52 = .ok (.getfield 18, 3) := by decide +kernel
theorem d_X8_layOutVariable_55 : decode prog_4_method_4_code 55 = .ok (.iload 4, 2) := by decide +kernel
theorem d_X8_layOutVariable_57 : decode prog_4_method_4_code 57 = .ok (.bipush 6, 2) := by decide +kernel
theorem d_X8_layOutVariable_59 : decode prog_4_method_4_code 59 = .ok (.imul, 1) := by decide +kernel
theorem d_X8_layOutVariable_60 : decode prog_4_method_4_code 60 = .ok (.iload_n 3, 1) := by decide +kernel
theorem d_X8_layOutVariable_61 : decode prog_4_method_4_code 61 = .ok (.iadd, 1) := by decide +kernel
theorem d_X8_layOutVariable_62 : decode prog_4_method_4_code 62 = .ok (.aload 5, 2) := by decide +kernel
theorem d_X8_layOutVariable_64 : decode prog_4_method_4_code 64 = .ok (.getfield 110, 3) := by decide +kernel
theorem d_X8_layOutVariable_67 : decode prog_4_method_4_code 67 = .ok (.iload_n 2, 1) := by decide +kernel
theorem d_X8_layOutVariable_68 : decode prog_4_method_4_code 68 = .ok (.iaload, 1) := by decide +kernel
theorem d_X8_layOutVariable_69 : decode prog_4_method_4_code 69 = .ok (.iastore, 1) := by decide +kernel
theorem d_X8_layOutVariable_70 : decode prog_4_method_4_code 70 = .ok (.aload_n 0, 1) := by decide +kernel
theorem d_X8_layOutVariable_71 : decode prog_4_method_4_code 71 = .ok (.getfield 15, 3) := by decide +kernel
theorem d_X8_layOutVariable_74 : decode prog_4_method_4_code 74 = .ok (.iload 4, 2) := by decide +kernel
theorem d_X8_layOutVariable_76 : decode prog_4_method_4_code 76 = .ok (.aload_n 0, 1) := by decide +kernel
theorem d_X8_layOutVariable_77 : decode prog_4_method_4_code 77 = .ok (.getfield 15, 3) := by decide +kernel
theorem d_X8_layOutVariable_80 : decode prog_4_method_4_code 80 = .ok (.iload 4, 2) := by decide +kernel
theorem d_X8_layOutVariable_82 : decode prog_4_method_4_code 82 = .ok (.iaload, 1) := by decide +kernel
theorem d_X8_layOutVariable_83 : decode prog_4_method_4_code 83 = .ok (.iload_n 3, 1) := by decide +kernel
theorem d_X8_layOutVariable_84 : decode prog_4_method_4_code 84 = .ok (.invokestatic 111, 3) := by decide +kernel
theorem d_X8_layOutVariable_87 : decode prog_4_method_4_code 87 = .ok (.iastore, 1) := by decide +kernel
theorem d_X8_layOutVariable_88 : decode prog_4_method_4_code 88 = .ok (.return_, 1) := by decide +kernel
abbrev y_X8_gatherRows : MethodName := ⟨"VirtualRewrite$Finder", "gatherRows", "(I)V"⟩
theorem d_X8_gatherRows_0 : decode prog_4_method_6_code 0 = .ok (.aload_n 0, 1) := by decide +kernel
theorem d_X8_gatherRows_1 : decode prog_4_method_6_code 1 = .ok (.iload_n 1, 1) := by decide +kernel
theorem d_X8_gatherRows_2 : decode prog_4_method_6_code 2 = .ok (.invokevirtual 118, 3) := by decide +kernel
theorem d_X8_gatherRows_5 : decode prog_4_method_6_code 5 = .ok (.astore_n 2, 1) := by decide +kernel
theorem d_X8_gatherRows_6 : decode prog_4_method_6_code 6 = .ok (.iconst 0, 1) := by decide +kernel
theorem d_X8_gatherRows_7 : decode prog_4_method_6_code 7 = .ok (.istore_n 3, 1) := by decide +kernel
theorem d_X8_gatherRows_8 : decode prog_4_method_6_code 8 = .ok (.iconst 0, 1) := by decide +kernel
theorem d_X8_gatherRows_9 : decode prog_4_method_6_code 9 = .ok (.istore 4, 2) := by decide +kernel
theorem d_X8_gatherRows_11 : decode prog_4_method_6_code 11 = .ok (.iload 4, 2) := by decide +kernel
theorem d_X8_gatherRows_13 : decode prog_4_method_6_code 13 = .ok (.aload_n 2, 1) := by decide +kernel
theorem d_X8_gatherRows_14 : decode prog_4_method_6_code 14 = .ok (.getfield 121, 3) := by decide +kernel
theorem d_X8_gatherRows_17 : decode prog_4_method_6_code 17 = .ok (.if_icmp .ge 48, 3) := by decide +kernel
theorem d_X8_gatherRows_20 : decode prog_4_method_6_code 20 = .ok (.aload_n 0, 1) := by decide +kernel
theorem d_X8_gatherRows_21 : decode prog_4_method_6_code 21 = .ok (.iload_n 1, 1) := by decide +kernel
theorem d_X8_gatherRows_22 : decode prog_4_method_6_code 22 = .ok (.aload_n 2, 1) := by decide +kernel
theorem d_X8_gatherRows_23 : decode prog_4_method_6_code 23 = .ok (.iload 4, 2) := by decide +kernel
theorem d_X8_gatherRows_25 : decode prog_4_method_6_code 25 = .ok (.invokevirtual 126, 3) := by decide +kernel
theorem d_X8_gatherRows_28 : decode prog_4_method_6_code 28 = .ok (.ifCond .eq 31, 3) := by decide +kernel
theorem d_X8_gatherRows_31 : decode prog_4_method_6_code 31 = .ok (.aload_n 0, 1) := by decide +kernel
theorem d_X8_gatherRows_32 : decode prog_4_method_6_code 32 = .ok (.iload_n 1, 1) := by decide +kernel
theorem d_X8_gatherRows_33 : decode prog_4_method_6_code 33 = .ok (.aload_n 2, 1) := by decide +kernel
theorem d_X8_gatherRows_34 : decode prog_4_method_6_code 34 = .ok (.iload 4, 2) := by decide +kernel
theorem d_X8_gatherRows_36 : decode prog_4_method_6_code 36 = .ok (.iload_n 3, 1) := by decide +kernel
theorem d_X8_gatherRows_37 : decode prog_4_method_6_code 37 = .ok (.invokevirtual 130, 3) := by decide +kernel
theorem d_X8_gatherRows_40 : decode prog_4_method_6_code 40 = .ok (.ifCond .ne 19, 3) := by decide +kernel
theorem d_X8_gatherRows_43 : decode prog_4_method_6_code 43 = .ok (.aload_n 0, 1) := by decide +kernel
theorem d_X8_gatherRows_44 : decode prog_4_method_6_code 44 = .ok (.getfield 21, 3) := by decide +kernel
theorem d_X8_gatherRows_47 : decode prog_4_method_6_code 47 = .ok (.iload_n 1, 1) := by decide +kernel
theorem d_X8_gatherRows_48 : decode prog_4_method_6_code 48 = .ok (.bipush 20, 2) := by decide +kernel
theorem d_X8_gatherRows_50 : decode prog_4_method_6_code 50 = .ok (.imul, 1) := by decide +kernel
theorem d_X8_gatherRows_51 : decode prog_4_method_6_code 51 = .ok (.iload_n 3, 1) := by decide +kernel
theorem d_X8_gatherRows_52 : decode prog_4_method_6_code 52 = .ok (.iadd, 1) := by decide +kernel
theorem d_X8_gatherRows_53 : decode prog_4_method_6_code 53 = .ok (.iload 4, 2) := by decide +kernel
theorem d_X8_gatherRows_55 : decode prog_4_method_6_code 55 = .ok (.iastore, 1) := by decide +kernel
theorem d_X8_gatherRows_56 : decode prog_4_method_6_code 56 = .ok (.iinc 3 1, 3) := by decide +kernel
theorem d_X8_gatherRows_59 : decode prog_4_method_6_code 59 = .ok (.iinc 4 1, 3) := by decide +kernel
theorem d_X8_gatherRows_62 : decode prog_4_method_6_code 62 = .ok (.goto (-51), 3) := by decide +kernel
theorem d_X8_gatherRows_65 : decode prog_4_method_6_code 65 = .ok (.aload_n 0, 1) := by decide +kernel
theorem d_X8_gatherRows_66 : decode prog_4_method_6_code 66 = .ok (.getfield 24, 3) := by decide +kernel
theorem d_X8_gatherRows_69 : decode prog_4_method_6_code 69 = .ok (.iload_n 1, 1) := by decide +kernel
theorem d_X8_gatherRows_70 : decode prog_4_method_6_code 70 = .ok (.iload_n 3, 1) := by decide +kernel
theorem d_X8_gatherRows_71 : decode prog_4_method_6_code 71 = .ok (.iastore, 1) := by decide +kernel
theorem d_X8_gatherRows_72 : decode prog_4_method_6_code 72 = .ok (.return_, 1) := by decide +kernel
abbrev y_X8_tableOf : MethodName := ⟨"VirtualRewrite$Finder", "tableOf", "(I)LVirtualRewrite$Table;"⟩
theorem d_X8_tableOf_0 : decode prog_4_method_5_code 0 = .ok (.aload_n 0, 1) := by decide +kernel
theorem d_X8_tableOf_1 : decode prog_4_method_5_code 1 = .ok (.getfield 44, 3) := by decide +kernel
theorem d_X8_tableOf_4 : decode prog_4_method_5_code 4 = .ok (.aload_n 0, 1) := by decide +kernel
theorem d_X8_tableOf_5 : decode prog_4_method_5_code 5 = .ok (.getfield 36, 3) := by decide +kernel
theorem d_X8_tableOf_8 : decode prog_4_method_5_code 8 = .ok (.aload_n 0, 1) := by decide +kernel
theorem d_X8_tableOf_9 : decode prog_4_method_5_code 9 = .ok (.getfield 9, 3) := by decide +kernel
theorem d_X8_tableOf_12 : decode prog_4_method_5_code 12 = .ok (.iload_n 1, 1) := by decide +kernel
theorem d_X8_tableOf_13 : decode prog_4_method_5_code 13 = .ok (.iaload, 1) := by decide +kernel
theorem d_X8_tableOf_14 : decode prog_4_method_5_code 14 = .ok (.invokevirtual 114, 3) := by decide +kernel
theorem d_X8_tableOf_17 : decode prog_4_method_5_code 17 = .ok (.areturn, 1) := by decide +kernel
abbrev y_X8_suits : MethodName := ⟨"VirtualRewrite$Finder", "suits", "(ILVirtualRewrite$Table;I)Z"⟩
theorem d_X8_suits_0 : decode prog_4_method_7_code 0 = .ok (.iconst 0, 1) := by decide +kernel
theorem d_X8_suits_1 : decode prog_4_method_7_code 1 = .ok (.istore 4, 2) := by decide +kernel
theorem d_X8_suits_3 : decode prog_4_method_7_code 3 = .ok (.iload 4, 2) := by decide +kernel
theorem d_X8_suits_5 : decode prog_4_method_7_code 5 = .ok (.aload_n 0, 1) := by decide +kernel
theorem d_X8_suits_6 : decode prog_4_method_7_code 6 = .ok (.getfield 40, 3) := by decide +kernel
theorem d_X8_suits_9 : decode prog_4_method_7_code 9 = .ok (.getfield 78, 3) := by decide +kernel
theorem d_X8_suits_12 : decode prog_4_method_7_code 12 = .ok (.if_icmp .ge 36, 3) := by decide +kernel
theorem d_X8_suits_15 : decode prog_4_method_7_code 15 = .ok (.aload_n 0, 1) := by decide +kernel
theorem d_X8_suits_16 : decode prog_4_method_7_code 16 = .ok (.getfield 48, 3) := by decide +kernel
theorem d_X8_suits_19 : decode prog_4_method_7_code 19 = .ok (.getfield 83, 3) := by decide +kernel
theorem d_X8_suits_22 : decode prog_4_method_7_code 22 = .ok (.iload 4, 2) := by decide +kernel
theorem d_X8_suits_24 : decode prog_4_method_7_code 24 = .ok (.iaload, 1) := by decide +kernel
theorem d_X8_suits_25 : decode prog_4_method_7_code 25 = .ok (.iload_n 1, 1) := by decide +kernel
theorem d_X8_suits_26 : decode prog_4_method_7_code 26 = .ok (.if_icmp .ne 16, 3) := by decide +kernel
theorem d_X8_suits_29 : decode prog_4_method_7_code 29 = .ok (.aload_n 0, 1) := by decide +kernel
theorem d_X8_suits_30 : decode prog_4_method_7_code 30 = .ok (.iload 4, 2) := by decide +kernel
theorem d_X8_suits_32 : decode prog_4_method_7_code 32 = .ok (.aload_n 2, 1) := by decide +kernel
theorem d_X8_suits_33 : decode prog_4_method_7_code 33 = .ok (.iload_n 3, 1) := by decide +kernel
theorem d_X8_suits_34 : decode prog_4_method_7_code 34 = .ok (.invokevirtual 134, 3) := by decide +kernel
theorem d_X8_suits_37 : decode prog_4_method_7_code 37 = .ok (.ifCond .ne 5, 3) := by decide +kernel
theorem d_X8_suits_40 : decode prog_4_method_7_code 40 = .ok (.iconst 0, 1) := by decide +kernel
theorem d_X8_suits_41 : decode prog_4_method_7_code 41 = .ok (.ireturn, 1) := by decide +kernel
theorem d_X8_suits_42 : decode prog_4_method_7_code 42 = .ok (.iinc 4 1, 3) := by decide +kernel
theorem d_X8_suits_45 : decode prog_4_method_7_code 45 = .ok (.goto (-42), 3) := by decide +kernel
theorem d_X8_suits_48 : decode prog_4_method_7_code 48 = .ok (.iconst 1, 1) := by decide +kernel
theorem d_X8_suits_49 : decode prog_4_method_7_code 49 = .ok (.ireturn, 1) := by decide +kernel
abbrev y_X8_suitsAtom : MethodName := ⟨"VirtualRewrite$Finder", "suitsAtom", "(ILVirtualRewrite$Table;I)Z"⟩
theorem d_X8_suitsAtom_0 : decode prog_4_method_8_code 0 = .ok (.aload_n 0, 1) := by decide +kernel
theorem d_X8_suitsAtom_1 : decode prog_4_method_8_code 1 = .ok (.getfield 44, 3) := by decide +kernel
theorem d_X8_suitsAtom_4 : decode prog_4_method_8_code 4 = .ok (.aload_n 0, 1) := by decide +kernel
theorem d_X8_suitsAtom_5 : decode prog_4_method_8_code 5 = .ok (.getfield 36, 3) := by decide +kernel
theorem d_X8_suitsAtom_8 : decode prog_4_method_8_code 8 = .ok (.iload_n 1, 1) := by decide +kernel
theorem d_X8_suitsAtom_9 : decode prog_4_method_8_code 9 = .ok (.invokevirtual 101, 3) := by decide +kernel
theorem d_X8_suitsAtom_12 : decode prog_4_method_8_code 12 = .ok (.astore 4, 2) := by decide +kernel
theorem d_X8_suitsAtom_14 : decode prog_4_method_8_code 14 = .ok (.iconst 0, 1) := by decide +kernel
theorem d_X8_suitsAtom_15 : decode prog_4_method_8_code 15 = .ok (.istore 5, 2) := by decide +kernel
theorem d_X8_suitsAtom_17 : decode prog_4_method_8_code 17 = .ok (.iload 5, 2) := by decide +kernel
theorem d_X8_suitsAtom_19 : decode prog_4_method_8_code 19 = .ok (.iconst 2, 1) := by decide +kernel
theorem d_X8_suitsAtom_20 : decode prog_4_method_8_code 20 = .ok (.if_icmp .ge 114, 3) := by decide +kernel
theorem d_X8_suitsAtom_23 : decode prog_4_method_8_code 23 = .ok (.aload_n 0, 1) := by decide +kernel
theorem d_X8_suitsAtom_24 : decode prog_4_method_8_code 24 = .ok (.getfield 40, 3) := by decide +kernel
theorem d_X8_suitsAtom_27 : decode prog_4_method_8_code 27 = .ok (.iload_n 1, 1) := by decide +kernel
theorem d_X8_suitsAtom_28 : decode prog_4_method_8_code 28 = .ok (.iload 5, 2) := by decide +kernel
theorem d_X8_suitsAtom_30 : decode prog_4_method_8_code 30 = .ok (.invokevirtual 86, 3) := by decide +kernel
theorem d_X8_suitsAtom_33 : decode prog_4_method_8_code 33 = .ok (.istore 6, 2) := by decide +kernel
theorem d_X8_suitsAtom_35 : decode prog_4_method_8_code 35 = .ok (.aload_n 2, 1) := by decide +kernel
theorem d_X8_suitsAtom_36 : decode prog_4_method_8_code 36 = .ok (.iload_n 3, 1) := by decide +kernel
theorem d_X8_suitsAtom_37 : decode prog_4_method_8_code 37 = .ok (.aload 4, 2) := by decide +kernel
theorem d_X8_suitsAtom_39 : decode prog_4_method_8_code 39 = .ok (.getfield 110, 3) := by decide +kernel
theorem d_X8_suitsAtom_42 : decode prog_4_method_8_code 42 = .ok (.iload 5, 2) := by decide +kernel
theorem d_X8_suitsAtom_44 : decode prog_4_method_8_code 44 = .ok (.iaload, 1) := by decide +kernel
theorem d_X8_suitsAtom_45 : decode prog_4_method_8_code 45 = .ok (.invokevirtual 137, 3) := by decide +kernel
theorem d_X8_suitsAtom_48 : decode prog_4_method_8_code 48 = .ok (.istore 7, 2) := by decide +kernel
theorem d_X8_suitsAtom_50 : decode prog_4_method_8_code 50 = .ok (.iload 6, 2) := by decide +kernel
theorem d_X8_suitsAtom_52 : decode prog_4_method_8_code 52 = .ok (.invokestatic 89, 3) := by decide +kernel
theorem d_X8_suitsAtom_55 : decode prog_4_method_8_code 55 = .ok (.ifCond .ne 16, 3) := by decide +kernel
theorem d_X8_suitsAtom_58 : decode prog_4_method_8_code 58 = .ok (.iload 6, 2) := by decide +kernel
theorem d_X8_suitsAtom_60 : decode prog_4_method_8_code 60 = .ok (.sipush 10000, 3) := by decide +kernel
theorem d_X8_suitsAtom_63 : decode prog_4_method_8_code 63 = .ok (.irem, 1) := by decide +kernel
theorem d_X8_suitsAtom_64 : decode prog_4_method_8_code 64 = .ok (.iload 7, 2) := by decide +kernel
theorem d_X8_suitsAtom_66 : decode prog_4_method_8_code 66 = .ok (.if_icmp .eq 62, 3) := by decide +kernel
theorem d_X8_suitsAtom_69 : decode prog_4_method_8_code 69 = .ok (.iconst 0, 1) := by decide +kernel
theorem d_X8_suitsAtom_70 : decode prog_4_method_8_code 70 = .ok (.ireturn, 1) := by decide +kernel
theorem d_X8_suitsAtom_71 : decode prog_4_method_8_code 71 = .ok (.iload 6, 2) := by decide +kernel
theorem d_X8_suitsAtom_73 : decode prog_4_method_8_code 73 = .ok (.invokestatic 97, 3) := by decide +kernel
theorem d_X8_suitsAtom_76 : decode prog_4_method_8_code 76 = .ok (.istore 8, 2) := by decide +kernel
theorem d_X8_suitsAtom_78 : decode prog_4_method_8_code 78 = .ok (.aload_n 0, 1) := by decide +kernel
theorem d_X8_suitsAtom_79 : decode prog_4_method_8_code 79 = .ok (.getfield 18, 3) := by decide +kernel
theorem d_X8_suitsAtom_82 : decode prog_4_method_8_code 82 = .ok (.aload_n 0, 1) := by decide +kernel
theorem d_X8_suitsAtom_83 : decode prog_4_method_8_code 83 = .ok (.getfield 48, 3) := by decide +kernel
theorem d_X8_suitsAtom_86 : decode prog_4_method_8_code 86 = .ok (.getfield 83, 3) := by decide +kernel
theorem d_X8_suitsAtom_89 : decode prog_4_method_8_code 89 = .ok (.iload_n 1, 1) := by decide +kernel
theorem d_X8_suitsAtom_90 : decode prog_4_method_8_code 90 = .ok (.iaload, 1) := by decide +kernel
theorem d_X8_suitsAtom_91 : decode prog_4_method_8_code 91 = .ok (.bipush 6, 2) := by decide +kernel
theorem d_X8_suitsAtom_93 : decode prog_4_method_8_code 93 = .ok (.imul, 1) := by decide +kernel
theorem d_X8_suitsAtom_94 : decode prog_4_method_8_code 94 = .ok (.iload 8, 2) := by decide +kernel
theorem d_X8_suitsAtom_96 : decode prog_4_method_8_code 96 = .ok (.iadd, 1) := by decide +kernel
theorem d_X8_suitsAtom_97 : decode prog_4_method_8_code 97 = .ok (.iaload, 1) := by decide +kernel
theorem d_X8_suitsAtom_98 : decode prog_4_method_8_code 98 = .ok (.istore 9, 2) := by decide +kernel
theorem d_X8_suitsAtom_100 : decode prog_4_method_8_code 100 = .ok (.iload 7, 2) := by decide +kernel
theorem d_X8_suitsAtom_102 : decode prog_4_method_8_code 102 = .ok (.aload_n 2, 1) := by decide +kernel
theorem d_X8_suitsAtom_103 : decode prog_4_method_8_code 103 = .ok (.iload_n 3, 1) := by decide +kernel
theorem d_X8_suitsAtom_104 : decode prog_4_method_8_code 104 = .ok (.iload 9, 2) := by decide +kernel
theorem d_X8_suitsAtom_106 : decode prog_4_method_8_code 106 = .ok (.invokevirtual 137, 3) := by decide +kernel
theorem d_X8_suitsAtom_109 : decode prog_4_method_8_code 109 = .ok (.if_icmp .ne 17, 3) := by decide +kernel
theorem d_X8_suitsAtom_112 : decode prog_4_method_8_code 112 = .ok (.aload_n 0, 1) := by decide +kernel
theorem d_X8_suitsAtom_113 : decode prog_4_method_8_code 113 = .ok (.getfield 40, 3) := by decide +kernel
theorem d_X8_suitsAtom_116 : decode prog_4_method_8_code 116 = .ok (.iload 8, 2) := by decide +kernel
theorem d_X8_suitsAtom_118 : decode prog_4_method_8_code 118 = .ok (.iload 7, 2) := by decide +kernel
theorem d_X8_suitsAtom_120 : decode prog_4_method_8_code 120 = .ok (.invokevirtual 140, 3) := by decide +kernel
theorem d_X8_suitsAtom_123 : decode prog_4_method_8_code 123 = .ok (.ifCond .ne 5, 3) := by decide +kernel
theorem d_X8_suitsAtom_126 : decode prog_4_method_8_code 126 = .ok (.iconst 0, 1) := by decide +kernel
theorem d_X8_suitsAtom_127 : decode prog_4_method_8_code 127 = .ok (.ireturn, 1) := by decide +kernel
theorem d_X8_suitsAtom_128 : decode prog_4_method_8_code 128 = .ok (.iinc 5 1, 3) := by decide +kernel
theorem d_X8_suitsAtom_131 : decode prog_4_method_8_code 131 = .ok (.goto (-114), 3) := by decide +kernel
theorem d_X8_suitsAtom_134 : decode prog_4_method_8_code 134 = .ok (.iconst 1, 1) := by decide +kernel
theorem d_X8_suitsAtom_135 : decode prog_4_method_8_code 135 = .ok (.ireturn, 1) := by decide +kernel
end
section
abbrev y_X4_allows : MethodName := ⟨"VirtualRewrite$Question", "allows", "(II)Z"⟩
theorem d_X4_allows_0 : decode prog_6_method_6_code 0 = .ok (.iload_n 2, 1) := by decide +kernel
theorem d_X4_allows_1 : decode prog_6_method_6_code 1 = .ok (.aload_n 0, 1) := by decide +kernel
theorem d_X4_allows_2 : decode prog_6_method_6_code 2 = .ok (.getfield 18, 3) := by decide +kernel
theorem d_X4_allows_5 : decode prog_6_method_6_code 5 = .ok (.iload_n 1, 1) := by decide +kernel
theorem d_X4_allows_6 : decode prog_6_method_6_code 6 = .ok (.iaload, 1) := by decide +kernel
theorem d_X4_allows_7 : decode prog_6_method_6_code 7 = .ok (.if_icmp .lt 17, 3) := by decide +kernel
theorem d_X4_allows_10 : decode prog_6_method_6_code 10 = .ok (.iload_n 2, 1) := by decide +kernel
theorem d_X4_allows_11 : decode prog_6_method_6_code 11 = .ok (.aload_n 0, 1) := by decide +kernel
theorem d_X4_allows_12 : decode prog_6_method_6_code 12 = .ok (.getfield 21, 3) := by decide +kernel
theorem d_X4_allows_15 : decode prog_6_method_6_code 15 = .ok (.iload_n 1, 1) := by decide +kernel
theorem d_X4_allows_16 : decode prog_6_method_6_code 16 = .ok (.iaload, 1) := by decide +kernel
theorem d_X4_allows_17 : decode prog_6_method_6_code 17 = .ok (.if_icmp .gt 7, 3) := by decide +kernel
theorem d_X4_allows_20 : decode prog_6_method_6_code 20 = .ok (.iconst 1, 1) := by decide +kernel
theorem d_X4_allows_21 : decode prog_6_method_6_code 21 = .ok (.goto 4, 3) := by decide +kernel
theorem d_X4_allows_24 : decode prog_6_method_6_code 24 = .ok (.iconst 0, 1) := by decide +kernel
theorem d_X4_allows_25 : decode prog_6_method_6_code 25 = .ok (.ireturn, 1) := by decide +kernel
abbrev y_X8_isTold : MethodName := ⟨"VirtualRewrite$Finder", "isTold", "(ILVirtualRewrite$Table;II)Z"⟩
theorem d_X8_isTold_0 : decode prog_4_method_9_code 0 = .ok (.iconst 0, 1) := by decide +kernel
theorem d_X8_isTold_1 : decode prog_4_method_9_code 1 = .ok (.istore 5, 2) := by decide +kernel
theorem d_X8_isTold_3 : decode prog_4_method_9_code 3 = .ok (.iload 5, 2) := by decide +kernel
theorem d_X8_isTold_5 : decode prog_4_method_9_code 5 = .ok (.iload 4, 2) := by decide +kernel
theorem d_X8_isTold_7 : decode prog_4_method_9_code 7 = .ok (.if_icmp .ge 33, 3) := by decide +kernel
theorem d_X8_isTold_10 : decode prog_4_method_9_code 10 = .ok (.aload_n 0, 1) := by decide +kernel
theorem d_X8_isTold_11 : decode prog_4_method_9_code 11 = .ok (.iload_n 1, 1) := by decide +kernel
theorem d_X8_isTold_12 : decode prog_4_method_9_code 12 = .ok (.aload_n 2, 1) := by decide +kernel
theorem d_X8_isTold_13 : decode prog_4_method_9_code 13 = .ok (.iload_n 3, 1) := by decide +kernel
theorem d_X8_isTold_14 : decode prog_4_method_9_code 14 = .ok (.aload_n 0, 1) := by decide +kernel
theorem d_X8_isTold_15 : decode prog_4_method_9_code 15 = .ok (.getfield 21, 3) := by decide +kernel
theorem d_X8_isTold_18 : decode prog_4_method_9_code 18 = .ok (.iload_n 1, 1) := by decide +kernel
theorem d_X8_isTold_19 : decode prog_4_method_9_code 19 = .ok (.bipush 20, 2) := by decide +kernel
theorem d_X8_isTold_21 : decode prog_4_method_9_code 21 = .ok (.imul, 1) := by decide +kernel
theorem d_X8_isTold_22 : decode prog_4_method_9_code 22 = .ok (.iload 5, 2) := by decide +kernel
theorem d_X8_isTold_24 : decode prog_4_method_9_code 24 = .ok (.iadd, 1) := by decide +kernel
theorem d_X8_isTold_25 : decode prog_4_method_9_code 25 = .ok (.iaload, 1) := by decide +kernel
theorem d_X8_isTold_26 : decode prog_4_method_9_code 26 = .ok (.invokevirtual 144, 3) := by decide +kernel
theorem d_X8_isTold_29 : decode prog_4_method_9_code 29 = .ok (.ifCond .eq 5, 3) := by decide +kernel
theorem d_X8_isTold_32 : decode prog_4_method_9_code 32 = .ok (.iconst 1, 1) := by decide +kernel
theorem d_X8_isTold_33 : decode prog_4_method_9_code 33 = .ok (.ireturn, 1) := by decide +kernel
theorem d_X8_isTold_34 : decode prog_4_method_9_code 34 = .ok (.iinc 5 1, 3) := by decide +kernel
theorem d_X8_isTold_37 : decode prog_4_method_9_code 37 = .ok (.goto (-34), 3) := by decide +kernel
theorem d_X8_isTold_40 : decode prog_4_method_9_code 40 = .ok (.iconst 0, 1) := by decide +kernel
theorem d_X8_isTold_41 : decode prog_4_method_9_code 41 = .ok (.ireturn, 1) := by decide +kernel
abbrev y_X8_areAlike : MethodName := ⟨"VirtualRewrite$Finder", "areAlike", "(ILVirtualRewrite$Table;II)Z"⟩
theorem d_X8_areAlike_0 : decode prog_4_method_10_code 0 = .ok (.iconst 0, 1) := by decide +kernel
theorem d_X8_areAlike_1 : decode prog_4_method_10_code 1 = .ok (.istore 5, 2) := by decide +kernel
theorem d_X8_areAlike_3 : decode prog_4_method_10_code 3 = .ok (.iload 5, 2) := by decide +kernel
theorem d_X8_areAlike_5 : decode prog_4_method_10_code 5 = .ok (.bipush 6, 2) := by decide +kernel
theorem d_X8_areAlike_7 : decode prog_4_method_10_code 7 = .ok (.if_icmp .ge 49, 3) := by decide +kernel
theorem d_X8_areAlike_10 : decode prog_4_method_10_code 10 = .ok (.aload_n 0, 1) := by decide +kernel
theorem d_X8_areAlike_11 : decode prog_4_method_10_code 11 = .ok (.getfield 18, 3) := by decide +kernel
theorem d_X8_areAlike_14 : decode prog_4_method_10_code 14 = .ok (.iload_n 1, 1) := by decide +kernel
theorem d_X8_areAlike_15 : decode prog_4_method_10_code 15 = .ok (.bipush 6, 2) := by decide +kernel
theorem d_X8_areAlike_17 : decode prog_4_method_10_code 17 = .ok (.imul, 1) := by decide +kernel
theorem d_X8_areAlike_18 : decode prog_4_method_10_code 18 = .ok (.iload 5, 2) := by decide +kernel
theorem d_X8_areAlike_20 : decode prog_4_method_10_code 20 = .ok (.iadd, 1) := by decide +kernel
theorem d_X8_areAlike_21 : decode prog_4_method_10_code 21 = .ok (.iaload, 1) := by decide +kernel
theorem d_X8_areAlike_22 : decode prog_4_method_10_code 22 = .ok (.istore 6, 2) := by decide +kernel
theorem d_X8_areAlike_24 : decode prog_4_method_10_code 24 = .ok (.iload 6, 2) := by decide +kernel
theorem d_X8_areAlike_26 : decode prog_4_method_10_code 26 = .ok (.iconst (-1), 1) := by decide +kernel
theorem d_X8_areAlike_27 : decode prog_4_method_10_code 27 = .ok (.if_icmp .eq 23, 3) := by decide +kernel
theorem d_X8_areAlike_30 : decode prog_4_method_10_code 30 = .ok (.aload_n 2, 1) := by decide +kernel
theorem d_X8_areAlike_31 : decode prog_4_method_10_code 31 = .ok (.iload_n 3, 1) := by decide +kernel
theorem d_X8_areAlike_32 : decode prog_4_method_10_code 32 = .ok (.iload 6, 2) := by decide +kernel
theorem d_X8_areAlike_34 : decode prog_4_method_10_code 34 = .ok (.invokevirtual 137, 3) := by decide +kernel
theorem d_X8_areAlike_37 : decode prog_4_method_10_code 37 = .ok (.aload_n 2, 1) := by decide +kernel
theorem d_X8_areAlike_38 : decode prog_4_method_10_code 38 = .ok (.iload 4, 2) := by decide +kernel
theorem d_X8_areAlike_40 : decode prog_4_method_10_code 40 = .ok (.iload 6, 2) := by decide +kernel
theorem d_X8_areAlike_42 : decode prog_4_method_10_code 42 = .ok (.invokevirtual 137, 3) := by decide +kernel
theorem d_X8_areAlike_45 : decode prog_4_method_10_code 45 = .ok (.if_icmp .eq 5, 3) := by decide +kernel
theorem d_X8_areAlike_48 : decode prog_4_method_10_code 48 = .ok (.iconst 0, 1) := by decide +kernel
theorem d_X8_areAlike_49 : decode prog_4_method_10_code 49 = .ok (.ireturn, 1) := by decide +kernel
theorem d_X8_areAlike_50 : decode prog_4_method_10_code 50 = .ok (.iinc 5 1, 3) := by decide +kernel
theorem d_X8_areAlike_53 : decode prog_4_method_10_code 53 = .ok (.goto (-50), 3) := by decide +kernel
theorem d_X8_areAlike_56 : decode prog_4_method_10_code 56 = .ok (.iconst 1, 1) := by decide +kernel
theorem d_X8_areAlike_57 : decode prog_4_method_10_code 57 = .ok (.ireturn, 1) := by decide +kernel
abbrev y_X8_orderSlots : MethodName := ⟨"VirtualRewrite$Finder", "orderSlots", "()V"⟩
theorem d_X8_orderSlots_0 : decode prog_4_method_11_code 0 = .ok (.iconst 0, 1) := by decide +kernel
theorem d_X8_orderSlots_1 : decode prog_4_method_11_code 1 = .ok (.istore_n 1, 1) := by decide +kernel
theorem d_X8_orderSlots_2 : decode prog_4_method_11_code 2 = .ok (.iload_n 1, 1) := by decide +kernel
theorem d_X8_orderSlots_3 : decode prog_4_method_11_code 3 = .ok (.aload_n 0, 1) := by decide +kernel
theorem d_X8_orderSlots_4 : decode prog_4_method_11_code 4 = .ok (.getfield 48, 3) := by decide +kernel
theorem d_X8_orderSlots_7 : decode prog_4_method_11_code 7 = .ok (.getfield 65, 3) := by decide +kernel
theorem d_X8_orderSlots_10 : decode prog_4_method_11_code 10 = .ok (.if_icmp .ge 16, 3) := by decide +kernel
theorem d_X8_orderSlots_13 : decode prog_4_method_11_code 13 = .ok (.aload_n 0, 1) := by decide +kernel
theorem d_X8_orderSlots_14 : decode prog_4_method_11_code 14 = .ok (.getfield 27, 3) := by decide +kernel
theorem d_X8_orderSlots_17 : decode prog_4_method_11_code 17 = .ok (.iload_n 1, 1) := by decide +kernel
theorem d_X8_orderSlots_18 : decode prog_4_method_11_code 18 = .ok (.iload_n 1, 1) := by decide +kernel
theorem d_X8_orderSlots_19 : decode prog_4_method_11_code 19 = .ok (.iastore, 1) := by decide +kernel
theorem d_X8_orderSlots_20 : decode prog_4_method_11_code 20 = .ok (.iinc 1 1, 3) := by decide +kernel
theorem d_X8_orderSlots_23 : decode prog_4_method_11_code 23 = .ok (.goto (-21), 3) := by decide +kernel
theorem d_X8_orderSlots_26 : decode prog_4_method_11_code 26 = .ok (.iconst 0, 1) := by decide +kernel
theorem d_X8_orderSlots_27 : decode prog_4_method_11_code 27 = .ok (.istore_n 1, 1) := by decide +kernel
theorem d_X8_orderSlots_28 : decode prog_4_method_11_code 28 = .ok (.iconst 0, 1) := by decide +kernel
theorem d_X8_orderSlots_29 : decode prog_4_method_11_code 29 = .ok (.istore_n 2, 1) := by decide +kernel
theorem d_X8_orderSlots_30 : decode prog_4_method_11_code 30 = .ok (.iload_n 2, 1) := by decide +kernel
theorem d_X8_orderSlots_31 : decode prog_4_method_11_code 31 = .ok (.aload_n 0, 1) := by decide +kernel
theorem d_X8_orderSlots_32 : decode prog_4_method_11_code 32 = .ok (.getfield 48, 3) := by decide +kernel
theorem d_X8_orderSlots_35 : decode prog_4_method_11_code 35 = .ok (.getfield 65, 3) := by decide +kernel
theorem d_X8_orderSlots_38 : decode prog_4_method_11_code 38 = .ok (.if_icmp .ge 96, 3) := by decide +kernel
theorem d_X8_orderSlots_41 : decode prog_4_method_11_code 41 = .ok (.iload_n 2, 1) := by decide +kernel
theorem d_X8_orderSlots_42 : decode prog_4_method_11_code 42 = .ok (.istore_n 3, 1) := by decide +kernel
theorem d_X8_orderSlots_43 : decode prog_4_method_11_code 43 = .ok (.iload_n 2, 1) := by decide +kernel
theorem d_X8_orderSlots_44 : decode prog_4_method_11_code 44 = .ok (.iconst 1, 1) := by decide +kernel
theorem d_X8_orderSlots_45 : decode prog_4_method_11_code 45 = .ok (.iadd, 1) := by decide +kernel
theorem d_X8_orderSlots_46 : decode prog_4_method_11_code 46 = .ok (.istore 4, 2) := by decide +kernel
theorem d_X8_orderSlots_48 : decode prog_4_method_11_code 48 = .ok (.iload 4, 2) := by decide +kernel
theorem d_X8_orderSlots_50 : decode prog_4_method_11_code 50 = .ok (.aload_n 0, 1) := by decide +kernel
theorem d_X8_orderSlots_51 : decode prog_4_method_11_code 51 = .ok (.getfield 48, 3) := by decide +kernel
theorem d_X8_orderSlots_54 : decode prog_4_method_11_code 54 = .ok (.getfield 65, 3) := by decide +kernel
theorem d_X8_orderSlots_57 : decode prog_4_method_11_code 57 = .ok (.if_icmp .ge 33, 3) := by decide +kernel
theorem d_X8_orderSlots_60 : decode prog_4_method_11_code 60 = .ok (.aload_n 0, 1) := by decide +kernel
theorem d_X8_orderSlots_61 : decode prog_4_method_11_code 61 = .ok (.aload_n 0, 1) := by decide +kernel
theorem d_X8_orderSlots_62 : decode prog_4_method_11_code 62 = .ok (.getfield 27, 3) := by decide +kernel
theorem d_X8_orderSlots_65 : decode prog_4_method_11_code 65 = .ok (.iload 4, 2) := by decide +kernel
theorem d_X8_orderSlots_67 : decode prog_4_method_11_code 67 = .ok (.iaload, 1) := by decide +kernel
theorem d_X8_orderSlots_68 : decode prog_4_method_11_code 68 = .ok (.aload_n 0, 1) := by decide +kernel
theorem d_X8_orderSlots_69 : decode prog_4_method_11_code 69 = .ok (.getfield 27, 3) := by decide +kernel
theorem d_X8_orderSlots_72 : decode prog_4_method_11_code 72 = .ok (.iload_n 3, 1) := by decide +kernel
theorem d_X8_orderSlots_73 : decode prog_4_method_11_code 73 = .ok (.iaload, 1) := by decide +kernel
theorem d_X8_orderSlots_74 : decode prog_4_method_11_code 74 = .ok (.iload_n 1, 1) := by decide +kernel
theorem d_X8_orderSlots_75 : decode prog_4_method_11_code 75 = .ok (.invokevirtual 147, 3) := by decide +kernel
theorem d_X8_orderSlots_78 : decode prog_4_method_11_code 78 = .ok (.ifCond .eq 6, 3) := by decide +kernel
theorem d_X8_orderSlots_81 : decode prog_4_method_11_code 81 = .ok (.iload 4, 2) := by decide +kernel
theorem d_X8_orderSlots_83 : decode prog_4_method_11_code 83 = .ok (.istore_n 3, 1) := by decide +kernel
theorem d_X8_orderSlots_84 : decode prog_4_method_11_code 84 = .ok (.iinc 4 1, 3) := by decide +kernel
theorem d_X8_orderSlots_87 : decode prog_4_method_11_code 87 = .ok (.goto (-39), 3) := by decide +kernel
theorem d_X8_orderSlots_90 : decode prog_4_method_11_code 90 = .ok (.aload_n 0, 1) := by decide +kernel
theorem d_X8_orderSlots_91 : decode prog_4_method_11_code 91 = .ok (.getfield 27, 3) := by decide +kernel
theorem d_X8_orderSlots_94 : decode prog_4_method_11_code 94 = .ok (.iload_n 3, 1) := by decide +kernel
theorem d_X8_orderSlots_95 : decode prog_4_method_11_code 95 = .ok (.iaload, 1) := by decide +kernel
theorem d_X8_orderSlots_96 : decode prog_4_method_11_code 96 = .ok (.istore 4, 2) := by decide +kernel
theorem d_X8_orderSlots_98 : decode prog_4_method_11_code 98 = .ok (.aload_n 0, 1) := by decide +kernel
theorem d_X8_orderSlots_99 : decode prog_4_method_11_code 99 = .ok (.getfield 27, 3) := by decide +kernel
theorem d_X8_orderSlots_102 : decode prog_4_method_11_code 102 = .ok (.iload_n 3, 1) := by decide +kernel
theorem d_X8_orderSlots_103 : decode prog_4_method_11_code 103 = .ok (.aload_n 0, 1) := by decide +kernel
theorem d_X8_orderSlots_104 : decode prog_4_method_11_code 104 = .ok (.getfield 27, 3) := by decide +kernel
theorem d_X8_orderSlots_107 : decode prog_4_method_11_code 107 = .ok (.iload_n 2, 1) := by decide +kernel
theorem d_X8_orderSlots_108 : decode prog_4_method_11_code 108 = .ok (.iaload, 1) := by decide +kernel
theorem d_X8_orderSlots_109 : decode prog_4_method_11_code 109 = .ok (.iastore, 1) := by decide +kernel
theorem d_X8_orderSlots_110 : decode prog_4_method_11_code 110 = .ok (.aload_n 0, 1) := by decide +kernel
theorem d_X8_orderSlots_111 : decode prog_4_method_11_code 111 = .ok (.getfield 27, 3) := by decide +kernel
theorem d_X8_orderSlots_114 : decode prog_4_method_11_code 114 = .ok (.iload_n 2, 1) := by decide +kernel
theorem d_X8_orderSlots_115 : decode prog_4_method_11_code 115 = .ok (.iload 4, 2) := by decide +kernel
theorem d_X8_orderSlots_117 : decode prog_4_method_11_code 117 = .ok (.iastore, 1) := by decide +kernel
theorem d_X8_orderSlots_118 : decode prog_4_method_11_code 118 = .ok (.iload_n 1, 1) := by decide +kernel
theorem d_X8_orderSlots_119 : decode prog_4_method_11_code 119 = .ok (.aload_n 0, 1) := by decide +kernel
theorem d_X8_orderSlots_120 : decode prog_4_method_11_code 120 = .ok (.getfield 15, 3) := by decide +kernel
theorem d_X8_orderSlots_123 : decode prog_4_method_11_code 123 = .ok (.iload 4, 2) := by decide +kernel
theorem d_X8_orderSlots_125 : decode prog_4_method_11_code 125 = .ok (.iaload, 1) := by decide +kernel
theorem d_X8_orderSlots_126 : decode prog_4_method_11_code 126 = .ok (.ior, 1) := by decide +kernel
theorem d_X8_orderSlots_127 : decode prog_4_method_11_code 127 = .ok (.istore_n 1, 1) := by decide +kernel
theorem d_X8_orderSlots_128 : decode prog_4_method_11_code 128 = .ok (.iinc 2 1, 3) := by decide +kernel
theorem d_X8_orderSlots_131 : decode prog_4_method_11_code 131 = .ok (.goto (-101), 3) := by decide +kernel
theorem d_X8_orderSlots_134 : decode prog_4_method_11_code 134 = .ok (.return_, 1) := by decide +kernel
abbrev y_X8_isBetter : MethodName := ⟨"VirtualRewrite$Finder", "isBetter", "(III)Z"⟩
theorem d_X8_isBetter_0 : decode prog_4_method_12_code 0 = .ok (.aload_n 0, 1) := by decide +kernel
theorem d_X8_isBetter_1 : decode prog_4_method_12_code 1 = .ok (.getfield 15, 3) := by decide +kernel
theorem d_X8_isBetter_4 : decode prog_4_method_12_code 4 = .ok (.iload_n 1, 1) := by decide +kernel
theorem d_X8_isBetter_5 : decode prog_4_method_12_code 5 = .ok (.iaload, 1) := by decide +kernel
theorem d_X8_isBetter_6 : decode prog_4_method_12_code 6 = .ok (.iload_n 3, 1) := by decide +kernel
theorem d_X8_isBetter_7 : decode prog_4_method_12_code 7 = .ok (.iand, 1) := by decide +kernel
theorem d_X8_isBetter_8 : decode prog_4_method_12_code 8 = .ok (.invokestatic 151, 3) := by decide +kernel
theorem d_X8_isBetter_11 : decode prog_4_method_12_code 11 = .ok (.istore 4, 2) := by decide +kernel
theorem d_X8_isBetter_13 : decode prog_4_method_12_code 13 = .ok (.aload_n 0, 1) := by decide +kernel
theorem d_X8_isBetter_14 : decode prog_4_method_12_code 14 = .ok (.getfield 15, 3) := by decide +kernel
theorem d_X8_isBetter_17 : decode prog_4_method_12_code 17 = .ok (.iload_n 2, 1) := by decide +kernel
theorem d_X8_isBetter_18 : decode prog_4_method_12_code 18 = .ok (.iaload, 1) := by decide +kernel
theorem d_X8_isBetter_19 : decode prog_4_method_12_code 19 = .ok (.iload_n 3, 1) := by decide +kernel
theorem d_X8_isBetter_20 : decode prog_4_method_12_code 20 = .ok (.iand, 1) := by decide +kernel
theorem d_X8_isBetter_21 : decode prog_4_method_12_code 21 = .ok (.invokestatic 151, 3) := by decide +kernel
theorem d_X8_isBetter_24 : decode prog_4_method_12_code 24 = .ok (.istore 5, 2) := by decide +kernel
theorem d_X8_isBetter_26 : decode prog_4_method_12_code 26 = .ok (.iload 4, 2) := by decide +kernel
theorem d_X8_isBetter_28 : decode prog_4_method_12_code 28 = .ok (.iload 5, 2) := by decide +kernel
theorem d_X8_isBetter_30 : decode prog_4_method_12_code 30 = .ok (.if_icmp .eq 18, 3) := by decide +kernel
theorem d_X8_isBetter_33 : decode prog_4_method_12_code 33 = .ok (.iload 4, 2) := by decide +kernel
theorem d_X8_isBetter_35 : decode prog_4_method_12_code 35 = .ok (.iload 5, 2) := by decide +kernel
theorem d_X8_isBetter_37 : decode prog_4_method_12_code 37 = .ok (.if_icmp .le 7, 3) := by decide +kernel
theorem d_X8_isBetter_40 : decode prog_4_method_12_code 40 = .ok (.iconst 1, 1) := by decide +kernel
theorem d_X8_isBetter_41 : decode prog_4_method_12_code 41 = .ok (.goto 27, 3) := by decide +kernel
theorem d_X8_isBetter_44 : decode prog_4_method_12_code 44 = .ok (.iconst 0, 1) := by decide +kernel
theorem d_X8_isBetter_45 : decode prog_4_method_12_code 45 = .ok (.goto 23, 3) := by decide +kernel
theorem d_X8_isBetter_48 : decode prog_4_method_12_code 48 = .ok (.aload_n 0, 1) := by decide +kernel
theorem d_X8_isBetter_49 : decode prog_4_method_12_code 49 = .ok (.getfield 24, 3) := by decide +kernel
theorem d_X8_isBetter_52 : decode prog_4_method_12_code 52 = .ok (.iload_n 1, 1) := by decide +kernel
theorem d_X8_isBetter_53 : decode prog_4_method_12_code 53 = .ok (.iaload, 1) := by decide +kernel
theorem d_X8_isBetter_54 : decode prog_4_method_12_code 54 = .ok (.aload_n 0, 1) := by decide +kernel
theorem d_X8_isBetter_55 : decode prog_4_method_12_code 55 = .ok (.getfield 24, 3) := by decide +kernel
theorem d_X8_isBetter_58 : decode prog_4_method_12_code 58 = .ok (.iload_n 2, 1) := by decide +kernel
theorem d_X8_isBetter_59 : decode prog_4_method_12_code 59 = .ok (.iaload, 1) := by decide +kernel
theorem d_X8_isBetter_60 : decode prog_4_method_12_code 60 = .ok (.if_icmp .ge 7, 3) := by decide +kernel
theorem d_X8_isBetter_63 : decode prog_4_method_12_code 63 = .ok (.iconst 1, 1) := by decide +kernel
theorem d_X8_isBetter_64 : decode prog_4_method_12_code 64 = .ok (.goto 4, 3) := by decide +kernel
theorem d_X8_isBetter_67 : decode prog_4_method_12_code 67 = .ok (.iconst 0, 1) := by decide +kernel
theorem d_X8_isBetter_68 : decode prog_4_method_12_code 68 = .ok (.ireturn, 1) := by decide +kernel
abbrev y_JInteger_bitCount : MethodName := ⟨"java/lang/Integer", "bitCount", "(I)I"⟩
theorem d_JInteger_bitCount_0 : decode prog_14_method_49_code 0 = .ok (.iload_n 0, 1) := by decide +kernel
theorem d_JInteger_bitCount_1 : decode prog_14_method_49_code 1 = .ok (.iload_n 0, 1) := by decide +kernel
theorem d_JInteger_bitCount_2 : decode prog_14_method_49_code 2 = .ok (.iconst 1, 1) := by decide +kernel
theorem d_JInteger_bitCount_3 : decode prog_14_method_49_code 3 = .ok (.iushr, 1) := by decide +kernel
theorem d_JInteger_bitCount_4 : decode prog_14_method_49_code 4 = .ok (.ldc_w 265, 3) := by decide +kernel
theorem d_JInteger_bitCount_7 : decode prog_14_method_49_code 7 = .ok (.iand, 1) := by decide +kernel
theorem d_JInteger_bitCount_8 : decode prog_14_method_49_code 8 = .ok (.isub, 1) := by decide +kernel
theorem d_JInteger_bitCount_9 : decode prog_14_method_49_code 9 = .ok (.istore_n 0, 1) := by decide +kernel
theorem d_JInteger_bitCount_10 : decode prog_14_method_49_code 10 = .ok (.iload_n 0, 1) := by decide +kernel
theorem d_JInteger_bitCount_11 : decode prog_14_method_49_code 11 = .ok (.ldc_w 266, 3) := by decide +kernel
theorem d_JInteger_bitCount_14 : decode prog_14_method_49_code 14 = .ok (.iand, 1) := by decide +kernel
theorem d_JInteger_bitCount_15 : decode prog_14_method_49_code 15 = .ok (.iload_n 0, 1) := by decide +kernel
theorem d_JInteger_bitCount_16 : decode prog_14_method_49_code 16 = .ok (.iconst 2, 1) := by decide +kernel
theorem d_JInteger_bitCount_17 : decode prog_14_method_49_code 17 = .ok (.iushr, 1) := by decide +kernel
theorem d_JInteger_bitCount_18 : decode prog_14_method_49_code 18 = .ok (.ldc_w 266, 3) := by decide +kernel
theorem d_JInteger_bitCount_21 : decode prog_14_method_49_code 21 = .ok (.iand, 1) := by decide +kernel
theorem d_JInteger_bitCount_22 : decode prog_14_method_49_code 22 = .ok (.iadd, 1) := by decide +kernel
theorem d_JInteger_bitCount_23 : decode prog_14_method_49_code 23 = .ok (.istore_n 0, 1) := by decide +kernel
theorem d_JInteger_bitCount_24 : decode prog_14_method_49_code 24 = .ok (.iload_n 0, 1) := by decide +kernel
theorem d_JInteger_bitCount_25 : decode prog_14_method_49_code 25 = .ok (.iload_n 0, 1) := by decide +kernel
theorem d_JInteger_bitCount_26 : decode prog_14_method_49_code 26 = .ok (.iconst 4, 1) := by decide +kernel
theorem d_JInteger_bitCount_27 : decode prog_14_method_49_code 27 = .ok (.iushr, 1) := by decide +kernel
theorem d_JInteger_bitCount_28 : decode prog_14_method_49_code 28 = .ok (.iadd, 1) := by decide +kernel
theorem d_JInteger_bitCount_29 : decode prog_14_method_49_code 29 = .ok (.ldc_w 267, 3) := by decide +kernel
theorem d_JInteger_bitCount_32 : decode prog_14_method_49_code 32 = .ok (.iand, 1) := by decide +kernel
theorem d_JInteger_bitCount_33 : decode prog_14_method_49_code 33 = .ok (.istore_n 0, 1) := by decide +kernel
theorem d_JInteger_bitCount_34 : decode prog_14_method_49_code 34 = .ok (.iload_n 0, 1) := by decide +kernel
theorem d_JInteger_bitCount_35 : decode prog_14_method_49_code 35 = .ok (.iload_n 0, 1) := by decide +kernel
theorem d_JInteger_bitCount_36 : decode prog_14_method_49_code 36 = .ok (.bipush 8, 2) := by decide +kernel
theorem d_JInteger_bitCount_38 : decode prog_14_method_49_code 38 = .ok (.iushr, 1) := by decide +kernel
theorem d_JInteger_bitCount_39 : decode prog_14_method_49_code 39 = .ok (.iadd, 1) := by decide +kernel
theorem d_JInteger_bitCount_40 : decode prog_14_method_49_code 40 = .ok (.istore_n 0, 1) := by decide +kernel
theorem d_JInteger_bitCount_41 : decode prog_14_method_49_code 41 = .ok (.iload_n 0, 1) := by decide +kernel
theorem d_JInteger_bitCount_42 : decode prog_14_method_49_code 42 = .ok (.iload_n 0, 1) := by decide +kernel
theorem d_JInteger_bitCount_43 : decode prog_14_method_49_code 43 = .ok (.bipush 16, 2) := by decide +kernel
theorem d_JInteger_bitCount_45 : decode prog_14_method_49_code 45 = .ok (.iushr, 1) := by decide +kernel
theorem d_JInteger_bitCount_46 : decode prog_14_method_49_code 46 = .ok (.iadd, 1) := by decide +kernel
theorem d_JInteger_bitCount_47 : decode prog_14_method_49_code 47 = .ok (.istore_n 0, 1) := by decide +kernel
theorem d_JInteger_bitCount_48 : decode prog_14_method_49_code 48 = .ok (.iload_n 0, 1) := by decide +kernel
theorem d_JInteger_bitCount_49 : decode prog_14_method_49_code 49 = .ok (.bipush 63, 2) := by decide +kernel
theorem d_JInteger_bitCount_51 : decode prog_14_method_49_code 51 = .ok (.iand, 1) := by decide +kernel
theorem d_JInteger_bitCount_52 : decode prog_14_method_49_code 52 = .ok (.ireturn, 1) := by decide +kernel
abbrev y_X8_search : MethodName := ⟨"VirtualRewrite$Finder", "search", "(II)I"⟩
theorem d_X8_search_0 : decode prog_4_method_13_code 0 = .ok (.iload_n 1, 1) := by decide +kernel
theorem d_X8_search_1 : decode prog_4_method_13_code 1 = .ok (.aload_n 0, 1) := by decide +kernel
theorem d_X8_search_2 : decode prog_4_method_13_code 2 = .ok (.getfield 48, 3) := by decide +kernel
theorem d_X8_search_5 : decode prog_4_method_13_code 5 = .ok (.getfield 65, 3) := by decide +kernel
theorem d_X8_search_8 : decode prog_4_method_13_code 8 = .ok (.if_icmp .lt 20, 3) := by decide +kernel
theorem d_X8_search_11 : decode prog_4_method_13_code 11 = .ok (.aload_n 0, 1) := by decide +kernel
theorem d_X8_search_12 : decode prog_4_method_13_code 12 = .ok (.getfield 52, 3) := by decide +kernel
theorem d_X8_search_15 : decode prog_4_method_13_code 15 = .ok (.aload_n 0, 1) := by decide +kernel
theorem d_X8_search_16 : decode prog_4_method_13_code 16 = .ok (.getfield 33, 3) := by decide +kernel
theorem d_X8_search_19 : decode prog_4_method_13_code 19 = .ok (.aload_n 0, 1) := by decide +kernel
theorem d_X8_search_20 : decode prog_4_method_13_code 20 = .ok (.getfield 36, 3) := by decide +kernel
theorem d_X8_search_23 : decode prog_4_method_13_code 23 = .ok (.invokevirtual 156, 3) := by decide +kernel
theorem d_X8_search_26 : decode prog_4_method_13_code 26 = .ok (.iconst (-1), 1) := by decide +kernel
theorem d_X8_search_27 : decode prog_4_method_13_code 27 = .ok (.ireturn, 1) := by decide +kernel
theorem d_X8_search_28 : decode prog_4_method_13_code 28 = .ok (.aload_n 0, 1) := by decide +kernel
theorem d_X8_search_29 : decode prog_4_method_13_code 29 = .ok (.getfield 27, 3) := by decide +kernel
theorem d_X8_search_32 : decode prog_4_method_13_code 32 = .ok (.iload_n 1, 1) := by decide +kernel
theorem d_X8_search_33 : decode prog_4_method_13_code 33 = .ok (.iaload, 1) := by decide +kernel
theorem d_X8_search_34 : decode prog_4_method_13_code 34 = .ok (.istore_n 3, 1) := by decide +kernel
theorem d_X8_search_35 : decode prog_4_method_13_code 35 = .ok (.aload_n 0, 1) := by decide +kernel
theorem d_X8_search_36 : decode prog_4_method_13_code 36 = .ok (.iload_n 3, 1) := by decide +kernel
theorem d_X8_search_37 : decode prog_4_method_13_code 37 = .ok (.invokevirtual 118, 3) := by decide +kernel
theorem d_X8_search_40 : decode prog_4_method_13_code 40 = .ok (.astore 4, 2) := by decide +kernel
theorem d_X8_search_42 : decode prog_4_method_13_code 42 = .ok (.iload_n 2, 1) := by decide +kernel
theorem d_X8_search_43 : decode prog_4_method_13_code 43 = .ok (.aload_n 0, 1) := by decide +kernel
theorem d_X8_search_44 : decode prog_4_method_13_code 44 = .ok (.getfield 15, 3) := by decide +kernel
theorem d_X8_search_47 : decode prog_4_method_13_code 47 = .ok (.iload_n 3, 1) := by decide +kernel
theorem d_X8_search_48 : decode prog_4_method_13_code 48 = .ok (.iaload, 1) := by decide +kernel
theorem d_X8_search_49 : decode prog_4_method_13_code 49 = .ok (.ior, 1) := by decide +kernel
theorem d_X8_search_50 : decode prog_4_method_13_code 50 = .ok (.istore 5, 2) := by decide +kernel
theorem d_X8_search_52 : decode prog_4_method_13_code 52 = .ok (.iload_n 2, 1) := by decide +kernel
theorem d_X8_search_53 : decode prog_4_method_13_code 53 = .ok (.aload_n 0, 1) := by decide +kernel
theorem d_X8_search_54 : decode prog_4_method_13_code 54 = .ok (.getfield 15, 3) := by decide +kernel
theorem d_X8_search_57 : decode prog_4_method_13_code 57 = .ok (.iload_n 3, 1) := by decide +kernel
theorem d_X8_search_58 : decode prog_4_method_13_code 58 = .ok (.iaload, 1) := by decide +kernel
theorem d_X8_search_59 : decode prog_4_method_13_code 59 = .ok (.iand, 1) := by decide +kernel
theorem d_X8_search_60 : decode prog_4_method_13_code 60 = .ok (.istore 6, 2) := by decide +kernel
theorem d_X8_search_62 : decode prog_4_method_13_code 62 = .ok (.iconst 0, 1) := by decide +kernel
theorem d_X8_search_63 : decode prog_4_method_13_code 63 = .ok (.istore 7, 2) := by decide +kernel
theorem d_X8_search_65 : decode prog_4_method_13_code 65 = .ok (.iconst 0, 1) := by decide +kernel
theorem d_X8_search_66 : decode prog_4_method_13_code 66 = .ok (.istore 8, 2) := by decide +kernel
theorem d_X8_search_68 : decode prog_4_method_13_code 68 = .ok (.iload 8, 2) := by decide +kernel
theorem d_X8_search_70 : decode prog_4_method_13_code 70 = .ok (.aload_n 0, 1) := by decide +kernel
theorem d_X8_search_71 : decode prog_4_method_13_code 71 = .ok (.getfield 24, 3) := by decide +kernel
theorem d_X8_search_74 : decode prog_4_method_13_code 74 = .ok (.iload_n 3, 1) := by decide +kernel
theorem d_X8_search_75 : decode prog_4_method_13_code 75 = .ok (.iaload, 1) := by decide +kernel
theorem d_X8_search_76 : decode prog_4_method_13_code 76 = .ok (.if_icmp .ge 97, 3) := by decide +kernel
theorem d_X8_search_79 : decode prog_4_method_13_code 79 = .ok (.aload_n 0, 1) := by decide +kernel
theorem d_X8_search_80 : decode prog_4_method_13_code 80 = .ok (.getfield 52, 3) := by decide +kernel
theorem d_X8_search_83 : decode prog_4_method_13_code 83 = .ok (.getfield 162, 3) := by decide +kernel
theorem d_X8_search_86 : decode prog_4_method_13_code 86 = .ok (.ifCond .ne 87, 3) := by decide +kernel
theorem d_X8_search_89 : decode prog_4_method_13_code 89 = .ok (.aload_n 0, 1) := by decide +kernel
theorem d_X8_search_90 : decode prog_4_method_13_code 90 = .ok (.getfield 21, 3) := by decide +kernel
theorem d_X8_search_93 : decode prog_4_method_13_code 93 = .ok (.iload_n 3, 1) := by decide +kernel
theorem d_X8_search_94 : decode prog_4_method_13_code 94 = .ok (.bipush 20, 2) := by decide +kernel
theorem d_X8_search_96 : decode prog_4_method_13_code 96 = .ok (.imul, 1) := by decide +kernel
theorem d_X8_search_97 : decode prog_4_method_13_code 97 = .ok (.iload 8, 2) := by decide +kernel
theorem d_X8_search_99 : decode prog_4_method_13_code 99 = .ok (.iadd, 1) := by decide +kernel
theorem d_X8_search_100 : decode prog_4_method_13_code 100 = .ok (.iaload, 1) := by decide +kernel
theorem d_X8_search_101 : decode prog_4_method_13_code 101 = .ok (.istore 9, 2) := by decide +kernel
theorem d_X8_search_103 : decode prog_4_method_13_code 103 = .ok (.aload_n 0, 1) := by decide +kernel
theorem d_X8_search_104 : decode prog_4_method_13_code 104 = .ok (.iload_n 3, 1) := by decide +kernel
theorem d_X8_search_105 : decode prog_4_method_13_code 105 = .ok (.aload 4, 2) := by decide +kernel
theorem d_X8_search_107 : decode prog_4_method_13_code 107 = .ok (.iload 9, 2) := by decide +kernel
theorem d_X8_search_109 : decode prog_4_method_13_code 109 = .ok (.iload_n 2, 1) := by decide +kernel
theorem d_X8_search_110 : decode prog_4_method_13_code 110 = .ok (.invokevirtual 166, 3) := by decide +kernel
theorem d_X8_search_113 : decode prog_4_method_13_code 113 = .ok (.ifCond .eq 54, 3) := by decide +kernel
theorem d_X8_search_116 : decode prog_4_method_13_code 116 = .ok (.aload_n 0, 1) := by decide +kernel
theorem d_X8_search_117 : decode prog_4_method_13_code 117 = .ok (.iload_n 3, 1) := by decide +kernel
theorem d_X8_search_118 : decode prog_4_method_13_code 118 = .ok (.aload 4, 2) := by decide +kernel
theorem d_X8_search_120 : decode prog_4_method_13_code 120 = .ok (.iload 9, 2) := by decide +kernel
theorem d_X8_search_122 : decode prog_4_method_13_code 122 = .ok (.invokevirtual 169, 3) := by decide +kernel
theorem d_X8_search_125 : decode prog_4_method_13_code 125 = .ok (.aload_n 0, 1) := by decide +kernel
theorem d_X8_search_126 : decode prog_4_method_13_code 126 = .ok (.iload_n 1, 1) := by decide +kernel
theorem d_X8_search_127 : decode prog_4_method_13_code 127 = .ok (.iconst 1, 1) := by decide +kernel
theorem d_X8_search_128 : decode prog_4_method_13_code 128 = .ok (.iadd, 1) := by decide +kernel
theorem d_X8_search_129 : decode prog_4_method_13_code 129 = .ok (.iload 5, 2) := by decide +kernel
theorem d_X8_search_131 : decode prog_4_method_13_code 131 = .ok (.invokevirtual 74, 3) := by decide +kernel
theorem d_X8_search_134 : decode prog_4_method_13_code 134 = .ok (.istore 10, 2) := by decide +kernel
theorem d_X8_search_136 : decode prog_4_method_13_code 136 = .ok (.iload 10, 2) := by decide +kernel
theorem d_X8_search_138 : decode prog_4_method_13_code 138 = .ok (.iconst (-1), 1) := by decide +kernel
theorem d_X8_search_139 : decode prog_4_method_13_code 139 = .ok (.if_icmp .ne 9, 3) := by decide +kernel
theorem d_X8_search_142 : decode prog_4_method_13_code 142 = .ok (.iconst 1, 1) := by decide +kernel
theorem d_X8_search_143 : decode prog_4_method_13_code 143 = .ok (.istore 7, 2) := by decide +kernel
theorem d_X8_search_145 : decode prog_4_method_13_code 145 = .ok (.goto 22, 3) := by decide +kernel
theorem d_X8_search_148 : decode prog_4_method_13_code 148 = .ok (.iload 10, 2) := by decide +kernel
theorem d_X8_search_150 : decode prog_4_method_13_code 150 = .ok (.iload_n 2, 1) := by decide +kernel
theorem d_X8_search_151 : decode prog_4_method_13_code 151 = .ok (.iconst (-1), 1) := by decide +kernel
theorem d_X8_search_152 : decode prog_4_method_13_code 152 = .ok (.ixor, 1) := by decide +kernel
theorem d_X8_search_153 : decode prog_4_method_13_code 153 = .ok (.iand, 1) := by decide +kernel
theorem d_X8_search_154 : decode prog_4_method_13_code 154 = .ok (.ifCond .ne 6, 3) := by decide +kernel
theorem d_X8_search_157 : decode prog_4_method_13_code 157 = .ok (.iload 10, 2) := by decide +kernel
theorem d_X8_search_159 : decode prog_4_method_13_code 159 = .ok (.ireturn, 1) := by decide +kernel
theorem d_X8_search_160 : decode prog_4_method_13_code 160 = .ok (.iload 6, 2) := by decide +kernel
theorem d_X8_search_162 : decode prog_4_method_13_code 162 = .ok (.iload 10, 2) := by decide +kernel
theorem d_X8_search_164 : decode prog_4_method_13_code 164 = .ok (.ior, 1) := by decide +kernel
theorem d_X8_search_165 : decode prog_4_method_13_code 165 = .ok (.istore 6, 2) := by decide +kernel
theorem d_X8_search_167 : decode prog_4_method_13_code 167 = .ok (.iinc 8 1, 3) := by decide +kernel
theorem d_X8_search_170 : decode prog_4_method_13_code 170 = .ok (.goto (-102), 3) := by decide +kernel
theorem d_X8_search_173 : decode prog_4_method_13_code 173 = .ok (.iload 7, 2) := by decide +kernel
theorem d_X8_search_175 : decode prog_4_method_13_code 175 = .ok (.ifCond .eq 7, 3) := by decide +kernel
theorem d_X8_search_178 : decode prog_4_method_13_code 178 = .ok (.iconst (-1), 1) := by decide +kernel
theorem d_X8_search_179 : decode prog_4_method_13_code 179 = .ok (.goto 7, 3) := by decide +kernel
theorem d_X8_search_182 : decode prog_4_method_13_code 182 = .ok (.iload 6, 2) := by decide +kernel
theorem d_X8_search_184 : decode prog_4_method_13_code 184 = .ok (.iload_n 2, 1) := by decide +kernel
theorem d_X8_search_185 : decode prog_4_method_13_code 185 = .ok (.iand, 1) := by decide +kernel
theorem d_X8_search_186 : decode prog_4_method_13_code 186 = .ok (.ireturn, 1) := by decide +kernel
abbrev y_X7_take : MethodName := ⟨"VirtualRewrite$Answers", "take", "([II)V"⟩
theorem d_X7_take_0 : decode prog_2_method_6_code 0 = .ok (.aload_n 0, 1) := by decide +kernel
theorem d_X7_take_1 : decode prog_2_method_6_code 1 = .ok (.aload_n 1, 1) := by decide +kernel
theorem d_X7_take_2 : decode prog_2_method_6_code 2 = .ok (.invokevirtual 35, 3) := by decide +kernel
theorem d_X7_take_5 : decode prog_2_method_6_code 5 = .ok (.istore_n 3, 1) := by decide +kernel
theorem d_X7_take_6 : decode prog_2_method_6_code 6 = .ok (.iload_n 3, 1) := by decide +kernel
theorem d_X7_take_7 : decode prog_2_method_6_code 7 = .ok (.aload_n 0, 1) := by decide +kernel
theorem d_X7_take_8 : decode prog_2_method_6_code 8 = .ok (.getfield 24, 3) := by decide +kernel
theorem d_X7_take_11 : decode prog_2_method_6_code 11 = .ok (.if_icmp .ge 30, 3) := by decide +kernel
theorem d_X7_take_14 : decode prog_2_method_6_code 14 = .ok (.aload_n 0, 1) := by decide +kernel
theorem d_X7_take_15 : decode prog_2_method_6_code 15 = .ok (.iload_n 3, 1) := by decide +kernel
theorem d_X7_take_16 : decode prog_2_method_6_code 16 = .ok (.aload_n 1, 1) := by decide +kernel
theorem d_X7_take_17 : decode prog_2_method_6_code 17 = .ok (.invokevirtual 39, 3) := by decide +kernel
theorem d_X7_take_20 : decode prog_2_method_6_code 20 = .ok (.ifCond .ne 21, 3) := by decide +kernel
theorem d_X7_take_23 : decode prog_2_method_6_code 23 = .ok (.aload_n 0, 1) := by decide +kernel
theorem d_X7_take_24 : decode prog_2_method_6_code 24 = .ok (.getfield 18, 3) := by decide +kernel
theorem d_X7_take_27 : decode prog_2_method_6_code 27 = .ok (.aload_n 0, 1) := by decide +kernel
theorem d_X7_take_28 : decode prog_2_method_6_code 28 = .ok (.getfield 15, 3) := by decide +kernel
theorem d_X7_take_31 : decode prog_2_method_6_code 31 = .ok (.iload_n 3, 1) := by decide +kernel
theorem d_X7_take_32 : decode prog_2_method_6_code 32 = .ok (.iaload, 1) := by decide +kernel
theorem d_X7_take_33 : decode prog_2_method_6_code 33 = .ok (.dup2, 1) := by decide +kernel
theorem d_X7_take_34 : decode prog_2_method_6_code 34 = .ok (.iaload, 1) := by decide +kernel
theorem d_X7_take_35 : decode prog_2_method_6_code 35 = .ok (.iconst 1, 1) := by decide +kernel
theorem d_X7_take_36 : decode prog_2_method_6_code 36 = .ok (.iadd, 1) := by decide +kernel
theorem d_X7_take_37 : decode prog_2_method_6_code 37 = .ok (.iastore, 1) := by decide +kernel
theorem d_X7_take_38 : decode prog_2_method_6_code 38 = .ok (.goto 28, 3) := by decide +kernel
theorem d_X7_take_41 : decode prog_2_method_6_code 41 = .ok (.aload_n 0, 1) := by decide +kernel
theorem d_X7_take_42 : decode prog_2_method_6_code 42 = .ok (.getfield 24, 3) := by decide +kernel
theorem d_X7_take_45 : decode prog_2_method_6_code 45 = .ok (.sipush 300, 3) := by decide +kernel
theorem d_X7_take_48 : decode prog_2_method_6_code 48 = .ok (.if_icmp .lt 11, 3) := by decide +kernel
theorem d_X7_take_51 : decode prog_2_method_6_code 51 = .ok (.aload_n 0, 1) := by decide +kernel
theorem d_X7_take_52 : decode prog_2_method_6_code 52 = .ok (.iconst 1, 1) := by decide +kernel
theorem d_X7_take_53 : decode prog_2_method_6_code 53 = .ok (.putfield 31, 3) := by decide +kernel
theorem d_X7_take_56 : decode prog_2_method_6_code 56 = .ok (.goto 10, 3) := by decide +kernel
theorem d_X7_take_59 : decode prog_2_method_6_code 59 = .ok (.aload_n 0, 1) := by decide +kernel
theorem d_X7_take_60 : decode prog_2_method_6_code 60 = .ok (.iload_n 3, 1) := by decide +kernel
theorem d_X7_take_61 : decode prog_2_method_6_code 61 = .ok (.aload_n 1, 1) := by decide +kernel
theorem d_X7_take_62 : decode prog_2_method_6_code 62 = .ok (.iload_n 2, 1) := by decide +kernel
theorem d_X7_take_63 : decode prog_2_method_6_code 63 = .ok (.invokevirtual 43, 3) := by decide +kernel
theorem d_X7_take_66 : decode prog_2_method_6_code 66 = .ok (.return_, 1) := by decide +kernel
abbrev y_X7_firstNotBefore : MethodName := ⟨"VirtualRewrite$Answers", "firstNotBefore", "([I)I"⟩
theorem d_X7_firstNotBefore_0 : decode prog_2_method_8_code 0 = .ok (.iconst 0, 1) := by decide +kernel
theorem d_X7_firstNotBefore_1 : decode prog_2_method_8_code 1 = .ok (.istore_n 2, 1) := by decide +kernel
theorem d_X7_firstNotBefore_2 : decode prog_2_method_8_code 2 = .ok (.aload_n 0, 1) := by decide +kernel
theorem d_X7_firstNotBefore_3 : decode prog_2_method_8_code 3 = .ok (.getfield 24, 3) := by decide +kernel
theorem d_X7_firstNotBefore_6 : decode prog_2_method_8_code 6 = .ok (.istore_n 3, 1) := by decide +kernel
theorem d_X7_firstNotBefore_7 : decode prog_2_method_8_code 7 = .ok (.iload_n 2, 1) := by decide +kernel
theorem d_X7_firstNotBefore_8 : decode prog_2_method_8_code 8 = .ok (.iload_n 3, 1) := by decide +kernel
theorem d_X7_firstNotBefore_9 : decode prog_2_method_8_code 9 = .ok (.if_icmp .ge 34, 3) := by decide +kernel
theorem d_X7_firstNotBefore_12 : decode prog_2_method_8_code 12 = .ok (.iload_n 2, 1) := by decide +kernel
theorem d_X7_firstNotBefore_13 : decode prog_2_method_8_code 13 = .ok (.iload_n 3, 1) := by decide +kernel
theorem d_X7_firstNotBefore_14 : decode prog_2_method_8_code 14 = .ok (.iadd, 1) := by decide +kernel
theorem d_X7_firstNotBefore_15 : decode prog_2_method_8_code 15 = .ok (.iconst 1, 1) := by decide +kernel
theorem d_X7_firstNotBefore_16 : decode prog_2_method_8_code 16 = .ok (.iushr, 1) := by decide +kernel
theorem d_X7_firstNotBefore_17 : decode prog_2_method_8_code 17 = .ok (.istore 4, 2) := by decide +kernel
theorem d_X7_firstNotBefore_19 : decode prog_2_method_8_code 19 = .ok (.aload_n 0, 1) := by decide +kernel
theorem d_X7_firstNotBefore_20 : decode prog_2_method_8_code 20 = .ok (.iload 4, 2) := by decide +kernel
theorem d_X7_firstNotBefore_22 : decode prog_2_method_8_code 22 = .ok (.aload_n 1, 1) := by decide +kernel
theorem d_X7_firstNotBefore_23 : decode prog_2_method_8_code 23 = .ok (.invokevirtual 39, 3) := by decide +kernel
theorem d_X7_firstNotBefore_26 : decode prog_2_method_8_code 26 = .ok (.ifCond .ge 11, 3) := by decide +kernel
theorem d_X7_firstNotBefore_29 : decode prog_2_method_8_code 29 = .ok (.iload 4, 2) := by decide +kernel
theorem d_X7_firstNotBefore_31 : decode prog_2_method_8_code 31 = .ok (.iconst 1, 1) := by decide +kernel
theorem d_X7_firstNotBefore_32 : decode prog_2_method_8_code 32 = .ok (.iadd, 1) := by decide +kernel
theorem d_X7_firstNotBefore_33 : decode prog_2_method_8_code 33 = .ok (.istore_n 2, 1) := by decide +kernel
theorem d_X7_firstNotBefore_34 : decode prog_2_method_8_code 34 = .ok (.goto 6, 3) := by decide +kernel
theorem d_X7_firstNotBefore_37 : decode prog_2_method_8_code 37 = .ok (.iload 4, 2) := by decide +kernel
theorem d_X7_firstNotBefore_39 : decode prog_2_method_8_code 39 = .ok (.istore_n 3, 1) := by decide +kernel
theorem d_X7_firstNotBefore_40 : decode prog_2_method_8_code 40 = .ok (.goto (-33), 3) := by decide +kernel
theorem d_X7_firstNotBefore_43 : decode prog_2_method_8_code 43 = .ok (.iload_n 2, 1) := by decide +kernel
theorem d_X7_firstNotBefore_44 : decode prog_2_method_8_code 44 = .ok (.ireturn, 1) := by decide +kernel
abbrev y_X7_compare : MethodName := ⟨"VirtualRewrite$Answers", "compare", "(I[I)I"⟩
theorem d_X7_compare_0 : decode prog_2_method_9_code 0 = .ok (.iconst 0, 1) := by decide +kernel
theorem d_X7_compare_1 : decode prog_2_method_9_code 1 = .ok (.istore_n 3, 1) := by decide +kernel
theorem d_X7_compare_2 : decode prog_2_method_9_code 2 = .ok (.iload_n 3, 1) := by decide +kernel
theorem d_X7_compare_3 : decode prog_2_method_9_code 3 = .ok (.bipush 6, 2) := by decide +kernel
theorem d_X7_compare_5 : decode prog_2_method_9_code 5 = .ok (.if_icmp .ge 29, 3) := by decide +kernel
theorem d_X7_compare_8 : decode prog_2_method_9_code 8 = .ok (.aload_n 0, 1) := by decide +kernel
theorem d_X7_compare_9 : decode prog_2_method_9_code 9 = .ok (.iload_n 1, 1) := by decide +kernel
theorem d_X7_compare_10 : decode prog_2_method_9_code 10 = .ok (.iload_n 3, 1) := by decide +kernel
theorem d_X7_compare_11 : decode prog_2_method_9_code 11 = .ok (.invokevirtual 53, 3) := by decide +kernel
theorem d_X7_compare_14 : decode prog_2_method_9_code 14 = .ok (.aload_n 2, 1) := by decide +kernel
theorem d_X7_compare_15 : decode prog_2_method_9_code 15 = .ok (.iload_n 3, 1) := by decide +kernel
theorem d_X7_compare_16 : decode prog_2_method_9_code 16 = .ok (.iaload, 1) := by decide +kernel
theorem d_X7_compare_17 : decode prog_2_method_9_code 17 = .ok (.isub, 1) := by decide +kernel
theorem d_X7_compare_18 : decode prog_2_method_9_code 18 = .ok (.istore 4, 2) := by decide +kernel
theorem d_X7_compare_20 : decode prog_2_method_9_code 20 = .ok (.iload 4, 2) := by decide +kernel
theorem d_X7_compare_22 : decode prog_2_method_9_code 22 = .ok (.ifCond .eq 6, 3) := by decide +kernel
theorem d_X7_compare_25 : decode prog_2_method_9_code 25 = .ok (.iload 4, 2) := by decide +kernel
theorem d_X7_compare_27 : decode prog_2_method_9_code 27 = .ok (.ireturn, 1) := by decide +kernel
theorem d_X7_compare_28 : decode prog_2_method_9_code 28 = .ok (.iinc 3 1, 3) := by decide +kernel
theorem d_X7_compare_31 : decode prog_2_method_9_code 31 = .ok (.goto (-29), 3) := by decide +kernel
theorem d_X7_compare_34 : decode prog_2_method_9_code 34 = .ok (.iconst 0, 1) := by decide +kernel
theorem d_X7_compare_35 : decode prog_2_method_9_code 35 = .ok (.ireturn, 1) := by decide +kernel
abbrev y_X7_code : MethodName := ⟨"VirtualRewrite$Answers", "code", "(II)I"⟩
theorem d_X7_code_0 : decode prog_2_method_3_code 0 = .ok (.aload_n 0, 1) := by decide +kernel
theorem d_X7_code_1 : decode prog_2_method_3_code 1 = .ok (.getfield 9, 3) := by decide +kernel
theorem d_X7_code_4 : decode prog_2_method_3_code 4 = .ok (.aload_n 0, 1) := by decide +kernel
theorem d_X7_code_5 : decode prog_2_method_3_code 5 = .ok (.getfield 15, 3) := by decide +kernel
theorem d_X7_code_8 : decode prog_2_method_3_code 8 = .ok (.iload_n 1, 1) := by decide +kernel
theorem d_X7_code_9 : decode prog_2_method_3_code 9 = .ok (.iaload, 1) := by decide +kernel
theorem d_X7_code_10 : decode prog_2_method_3_code 10 = .ok (.bipush 6, 2) := by decide +kernel
theorem d_X7_code_12 : decode prog_2_method_3_code 12 = .ok (.imul, 1) := by decide +kernel
theorem d_X7_code_13 : decode prog_2_method_3_code 13 = .ok (.iload_n 2, 1) := by decide +kernel
theorem d_X7_code_14 : decode prog_2_method_3_code 14 = .ok (.iadd, 1) := by decide +kernel
theorem d_X7_code_15 : decode prog_2_method_3_code 15 = .ok (.iaload, 1) := by decide +kernel
theorem d_X7_code_16 : decode prog_2_method_3_code 16 = .ok (.ireturn, 1) := by decide +kernel
abbrev y_X7_insert : MethodName := ⟨"VirtualRewrite$Answers", "insert", "(I[II)V"⟩
theorem d_X7_insert_0 : decode prog_2_method_7_code 0 = .ok (.aload_n 2, 1) := by decide +kernel
theorem d_X7_insert_1 : decode prog_2_method_7_code 1 = .ok (.iconst 0, 1) := by decide +kernel
theorem d_X7_insert_2 : decode prog_2_method_7_code 2 = .ok (.aload_n 0, 1) := by decide +kernel
theorem d_X7_insert_3 : decode prog_2_method_7_code 3 = .ok (.getfield 9, 3) := by decide +kernel
theorem d_X7_insert_6 : decode prog_2_method_7_code 6 = .ok (.aload_n 0, 1) := by decide +kernel
theorem d_X7_insert_7 : decode prog_2_method_7_code 7 = .ok (.getfield 24, 3) := by decide +kernel
theorem d_X7_insert_10 : decode prog_2_method_7_code 10 = .ok (.bipush 6, 2) := by decide +kernel
theorem d_X7_insert_12 : decode prog_2_method_7_code 12 = .ok (.imul, 1) := by decide +kernel
theorem d_X7_insert_13 : decode prog_2_method_7_code 13 = .ok (.bipush 6, 2) := by decide +kernel
theorem d_X7_insert_15 : decode prog_2_method_7_code 15 = .ok (.invokestatic 47, 3) := by decide +kernel
theorem d_X7_insert_18 : decode prog_2_method_7_code 18 = .ok (.aload_n 0, 1) := by decide +kernel
theorem d_X7_insert_19 : decode prog_2_method_7_code 19 = .ok (.getfield 18, 3) := by decide +kernel
theorem d_X7_insert_22 : decode prog_2_method_7_code 22 = .ok (.aload_n 0, 1) := by decide +kernel
theorem d_X7_insert_23 : decode prog_2_method_7_code 23 = .ok (.getfield 24, 3) := by decide +kernel
theorem d_X7_insert_26 : decode prog_2_method_7_code 26 = .ok (.iconst 1, 1) := by decide +kernel
theorem d_X7_insert_27 : decode prog_2_method_7_code 27 = .ok (.iastore, 1) := by decide +kernel
theorem d_X7_insert_28 : decode prog_2_method_7_code 28 = .ok (.aload_n 0, 1) := by decide +kernel
theorem d_X7_insert_29 : decode prog_2_method_7_code 29 = .ok (.getfield 21, 3) := by decide +kernel
theorem d_X7_insert_32 : decode prog_2_method_7_code 32 = .ok (.aload_n 0, 1) := by decide +kernel
theorem d_X7_insert_33 : decode prog_2_method_7_code 33 = .ok (.getfield 24, 3) := by decide +kernel
theorem d_X7_insert_36 : decode prog_2_method_7_code 36 = .ok (.iload_n 3, 1) := by decide +kernel
theorem d_X7_insert_37 : decode prog_2_method_7_code 37 = .ok (.iastore, 1) := by decide +kernel
theorem d_X7_insert_38 : decode prog_2_method_7_code 38 = .ok (.aload_n 0, 1) := by decide +kernel
theorem d_X7_insert_39 : decode prog_2_method_7_code 39 = .ok (.getfield 15, 3) := by decide +kernel
theorem d_X7_insert_42 : decode prog_2_method_7_code 42 = .ok (.iload_n 1, 1) := by decide +kernel
theorem d_X7_insert_43 : decode prog_2_method_7_code 43 = .ok (.aload_n 0, 1) := by decide +kernel
theorem d_X7_insert_44 : decode prog_2_method_7_code 44 = .ok (.getfield 15, 3) := by decide +kernel
theorem d_X7_insert_47 : decode prog_2_method_7_code 47 = .ok (.iload_n 1, 1) := by decide +kernel
theorem d_X7_insert_48 : decode prog_2_method_7_code 48 = .ok (.iconst 1, 1) := by decide +kernel
theorem d_X7_insert_49 : decode prog_2_method_7_code 49 = .ok (.iadd, 1) := by decide +kernel
theorem d_X7_insert_50 : decode prog_2_method_7_code 50 = .ok (.aload_n 0, 1) := by decide +kernel
theorem d_X7_insert_51 : decode prog_2_method_7_code 51 = .ok (.getfield 24, 3) := by decide +kernel
theorem d_X7_insert_54 : decode prog_2_method_7_code 54 = .ok (.iload_n 1, 1) := by decide +kernel
theorem d_X7_insert_55 : decode prog_2_method_7_code 55 = .ok (.isub, 1) := by decide +kernel
theorem d_X7_insert_56 : decode prog_2_method_7_code 56 = .ok (.invokestatic 47, 3) := by decide +kernel
theorem d_X7_insert_59 : decode prog_2_method_7_code 59 = .ok (.aload_n 0, 1) := by decide +kernel
theorem d_X7_insert_60 : decode prog_2_method_7_code 60 = .ok (.getfield 15, 3) := by decide +kernel
theorem d_X7_insert_63 : decode prog_2_method_7_code 63 = .ok (.iload_n 1, 1) := by decide +kernel
theorem d_X7_insert_64 : decode prog_2_method_7_code 64 = .ok (.aload_n 0, 1) := by decide +kernel
theorem d_X7_insert_65 : decode prog_2_method_7_code 65 = .ok (.getfield 24, 3) := by decide +kernel
theorem d_X7_insert_68 : decode prog_2_method_7_code 68 = .ok (.iastore, 1) := by decide +kernel
theorem d_X7_insert_69 : decode prog_2_method_7_code 69 = .ok (.aload_n 0, 1) := by decide +kernel
theorem d_X7_insert_70 : decode prog_2_method_7_code 70 = .ok (.dup, 1) := by decide +kernel
theorem d_X7_insert_71 : decode prog_2_method_7_code 71 = .ok (.getfield 24, 3) := by decide +kernel
theorem d_X7_insert_74 : decode prog_2_method_7_code 74 = .ok (.iconst 1, 1) := by decide +kernel
theorem d_X7_insert_75 : decode prog_2_method_7_code 75 = .ok (.iadd, 1) := by decide +kernel
theorem d_X7_insert_76 : decode prog_2_method_7_code 76 = .ok (.putfield 24, 3) := by decide +kernel
theorem d_X7_insert_79 : decode prog_2_method_7_code 79 = .ok (.return_, 1) := by decide +kernel
end
section
abbrev y_X8_agrees : MethodName := ⟨"VirtualRewrite$Finder", "agrees", "(ILVirtualRewrite$Table;II)Z"⟩
theorem d_X8_agrees_0 : decode prog_4_method_14_code 0 = .ok (.iconst 0, 1) := by decide +kernel
theorem d_X8_agrees_1 : decode prog_4_method_14_code 1 = .ok (.istore 5, 2) := by decide +kernel
theorem d_X8_agrees_3 : decode prog_4_method_14_code 3 = .ok (.iload 5, 2) := by decide +kernel
theorem d_X8_agrees_5 : decode prog_4_method_14_code 5 = .ok (.bipush 6, 2) := by decide +kernel
theorem d_X8_agrees_7 : decode prog_4_method_14_code 7 = .ok (.if_icmp .ge 62, 3) := by decide +kernel
theorem d_X8_agrees_10 : decode prog_4_method_14_code 10 = .ok (.aload_n 0, 1) := by decide +kernel
theorem d_X8_agrees_11 : decode prog_4_method_14_code 11 = .ok (.getfield 18, 3) := by decide +kernel
theorem d_X8_agrees_14 : decode prog_4_method_14_code 14 = .ok (.iload_n 1, 1) := by decide +kernel
theorem d_X8_agrees_15 : decode prog_4_method_14_code 15 = .ok (.bipush 6, 2) := by decide +kernel
theorem d_X8_agrees_17 : decode prog_4_method_14_code 17 = .ok (.imul, 1) := by decide +kernel
theorem d_X8_agrees_18 : decode prog_4_method_14_code 18 = .ok (.iload 5, 2) := by decide +kernel
theorem d_X8_agrees_20 : decode prog_4_method_14_code 20 = .ok (.iadd, 1) := by decide +kernel
theorem d_X8_agrees_21 : decode prog_4_method_14_code 21 = .ok (.iaload, 1) := by decide +kernel
theorem d_X8_agrees_22 : decode prog_4_method_14_code 22 = .ok (.istore 6, 2) := by decide +kernel
theorem d_X8_agrees_24 : decode prog_4_method_14_code 24 = .ok (.iload 6, 2) := by decide +kernel
theorem d_X8_agrees_26 : decode prog_4_method_14_code 26 = .ok (.iconst (-1), 1) := by decide +kernel
theorem d_X8_agrees_27 : decode prog_4_method_14_code 27 = .ok (.if_icmp .eq 36, 3) := by decide +kernel
theorem d_X8_agrees_30 : decode prog_4_method_14_code 30 = .ok (.iload 4, 2) := by decide +kernel
theorem d_X8_agrees_32 : decode prog_4_method_14_code 32 = .ok (.iload 5, 2) := by decide +kernel
theorem d_X8_agrees_34 : decode prog_4_method_14_code 34 = .ok (.invokestatic 173, 3) := by decide +kernel
theorem d_X8_agrees_37 : decode prog_4_method_14_code 37 = .ok (.ifCond .eq 26, 3) := by decide +kernel
theorem d_X8_agrees_40 : decode prog_4_method_14_code 40 = .ok (.aload_n 0, 1) := by decide +kernel
theorem d_X8_agrees_41 : decode prog_4_method_14_code 41 = .ok (.getfield 33, 3) := by decide +kernel
theorem d_X8_agrees_44 : decode prog_4_method_14_code 44 = .ok (.iload 5, 2) := by decide +kernel
theorem d_X8_agrees_46 : decode prog_4_method_14_code 46 = .ok (.iaload, 1) := by decide +kernel
theorem d_X8_agrees_47 : decode prog_4_method_14_code 47 = .ok (.sipush 10000, 3) := by decide +kernel
theorem d_X8_agrees_50 : decode prog_4_method_14_code 50 = .ok (.irem, 1) := by decide +kernel
theorem d_X8_agrees_51 : decode prog_4_method_14_code 51 = .ok (.aload_n 2, 1) := by decide +kernel
theorem d_X8_agrees_52 : decode prog_4_method_14_code 52 = .ok (.iload_n 3, 1) := by decide +kernel
theorem d_X8_agrees_53 : decode prog_4_method_14_code 53 = .ok (.iload 6, 2) := by decide +kernel
theorem d_X8_agrees_55 : decode prog_4_method_14_code 55 = .ok (.invokevirtual 137, 3) := by decide +kernel
theorem d_X8_agrees_58 : decode prog_4_method_14_code 58 = .ok (.if_icmp .eq 5, 3) := by decide +kernel
theorem d_X8_agrees_61 : decode prog_4_method_14_code 61 = .ok (.iconst 0, 1) := by decide +kernel
theorem d_X8_agrees_62 : decode prog_4_method_14_code 62 = .ok (.ireturn, 1) := by decide +kernel
theorem d_X8_agrees_63 : decode prog_4_method_14_code 63 = .ok (.iinc 5 1, 3) := by decide +kernel
theorem d_X8_agrees_66 : decode prog_4_method_14_code 66 = .ok (.goto (-63), 3) := by decide +kernel
theorem d_X8_agrees_69 : decode prog_4_method_14_code 69 = .ok (.iconst 1, 1) := by decide +kernel
theorem d_X8_agrees_70 : decode prog_4_method_14_code 70 = .ok (.ireturn, 1) := by decide +kernel
abbrev y_X8_settleVariables : MethodName := ⟨"VirtualRewrite$Finder", "settleVariables", "(ILVirtualRewrite$Table;I)V"⟩
theorem d_X8_settleVariables_0 : decode prog_4_method_15_code 0 = .ok (.iconst 0, 1) := by decide +kernel
theorem d_X8_settleVariables_1 : decode prog_4_method_15_code 1 = .ok (.istore 4, 2) := by decide +kernel
theorem d_X8_settleVariables_3 : decode prog_4_method_15_code 3 = .ok (.iload 4, 2) := by decide +kernel
theorem d_X8_settleVariables_5 : decode prog_4_method_15_code 5 = .ok (.bipush 6, 2) := by decide +kernel
theorem d_X8_settleVariables_7 : decode prog_4_method_15_code 7 = .ok (.if_icmp .ge 55, 3) := by decide +kernel
theorem d_X8_settleVariables_10 : decode prog_4_method_15_code 10 = .ok (.aload_n 0, 1) := by decide +kernel
theorem d_X8_settleVariables_11 : decode prog_4_method_15_code 11 = .ok (.getfield 18, 3) := by decide +kernel
theorem d_X8_settleVariables_14 : decode prog_4_method_15_code 14 = .ok (.iload_n 1, 1) := by decide +kernel
theorem d_X8_settleVariables_15 : decode prog_4_method_15_code 15 = .ok (.bipush 6, 2) := by decide +kernel
theorem d_X8_settleVariables_17 : decode prog_4_method_15_code 17 = .ok (.imul, 1) := by decide +kernel
theorem d_X8_settleVariables_18 : decode prog_4_method_15_code 18 = .ok (.iload 4, 2) := by decide +kernel
theorem d_X8_settleVariables_20 : decode prog_4_method_15_code 20 = .ok (.iadd, 1) := by decide +kernel
theorem d_X8_settleVariables_21 : decode prog_4_method_15_code 21 = .ok (.iaload, 1) := by decide +kernel
theorem d_X8_settleVariables_22 : decode prog_4_method_15_code 22 = .ok (.istore 5, 2) := by decide +kernel
theorem d_X8_settleVariables_24 : decode prog_4_method_15_code 24 = .ok (.iload 5, 2) := by decide +kernel
theorem d_X8_settleVariables_26 : decode prog_4_method_15_code 26 = .ok (.iconst (-1), 1) := by decide +kernel
theorem d_X8_settleVariables_27 : decode prog_4_method_15_code 27 = .ok (.if_icmp .eq 29, 3) := by decide +kernel
theorem d_X8_settleVariables_30 : decode prog_4_method_15_code 30 = .ok (.aload_n 0, 1) := by decide +kernel
theorem d_X8_settleVariables_31 : decode prog_4_method_15_code 31 = .ok (.getfield 33, 3) := by decide +kernel
theorem d_X8_settleVariables_34 : decode prog_4_method_15_code 34 = .ok (.iload 4, 2) := by decide +kernel
theorem d_X8_settleVariables_36 : decode prog_4_method_15_code 36 = .ok (.aload_n 0, 1) := by decide +kernel
theorem d_X8_settleVariables_37 : decode prog_4_method_15_code 37 = .ok (.getfield 30, 3) := by decide +kernel
theorem d_X8_settleVariables_40 : decode prog_4_method_15_code 40 = .ok (.iload 4, 2) := by decide +kernel
theorem d_X8_settleVariables_42 : decode prog_4_method_15_code 42 = .ok (.iaload, 1) := by decide +kernel
theorem d_X8_settleVariables_43 : decode prog_4_method_15_code 43 = .ok (.sipush 10000, 3) := by decide +kernel
theorem d_X8_settleVariables_46 : decode prog_4_method_15_code 46 = .ok (.imul, 1) := by decide +kernel
theorem d_X8_settleVariables_47 : decode prog_4_method_15_code 47 = .ok (.aload_n 2, 1) := by decide +kernel
theorem d_X8_settleVariables_48 : decode prog_4_method_15_code 48 = .ok (.iload_n 3, 1) := by decide +kernel
theorem d_X8_settleVariables_49 : decode prog_4_method_15_code 49 = .ok (.iload 5, 2) := by decide +kernel
theorem d_X8_settleVariables_51 : decode prog_4_method_15_code 51 = .ok (.invokevirtual 137, 3) := by decide +kernel
theorem d_X8_settleVariables_54 : decode prog_4_method_15_code 54 = .ok (.iadd, 1) := by decide +kernel
theorem d_X8_settleVariables_55 : decode prog_4_method_15_code 55 = .ok (.iastore, 1) := by decide +kernel
theorem d_X8_settleVariables_56 : decode prog_4_method_15_code 56 = .ok (.iinc 4 1, 3) := by decide +kernel
theorem d_X8_settleVariables_59 : decode prog_4_method_15_code 59 = .ok (.goto (-56), 3) := by decide +kernel
theorem d_X8_settleVariables_62 : decode prog_4_method_15_code 62 = .ok (.return_, 1) := by decide +kernel
abbrev y_X0_found : MethodName := ⟨"VirtualRewrite", "found", "(II)I"⟩
theorem d_X0_found_0 : decode prog_1_method_15_code 0 = .ok (.iload_n 1, 1) := by decide +kernel
theorem d_X0_found_1 : decode prog_1_method_15_code 1 = .ok (.aload_n 0, 1) := by decide +kernel
theorem d_X0_found_2 : decode prog_1_method_15_code 2 = .ok (.getfield 44, 3) := by decide +kernel
theorem d_X0_found_5 : decode prog_1_method_15_code 5 = .ok (.getfield 171, 3) := by decide +kernel
theorem d_X0_found_8 : decode prog_1_method_15_code 8 = .ok (.invokestatic 57, 3) := by decide +kernel
theorem d_X0_found_11 : decode prog_1_method_15_code 11 = .ok (.ifCond .eq 11, 3) := by decide +kernel
theorem d_X0_found_14 : decode prog_1_method_15_code 14 = .ok (.iload_n 2, 1) := by decide +kernel
theorem d_X0_found_15 : decode prog_1_method_15_code 15 = .ok (.iconst 2, 1) := by decide +kernel
theorem d_X0_found_16 : decode prog_1_method_15_code 16 = .ok (.invokestatic 57, 3) := by decide +kernel
theorem d_X0_found_19 : decode prog_1_method_15_code 19 = .ok (.ifCond .ne 5, 3) := by decide +kernel
theorem d_X0_found_22 : decode prog_1_method_15_code 22 = .ok (.iconst (-1), 1) := by decide +kernel
theorem d_X0_found_23 : decode prog_1_method_15_code 23 = .ok (.ireturn, 1) := by decide +kernel
theorem d_X0_found_24 : decode prog_1_method_15_code 24 = .ok (.iload_n 2, 1) := by decide +kernel
theorem d_X0_found_25 : decode prog_1_method_15_code 25 = .ok (.ifCond .ne 14, 3) := by decide +kernel
theorem d_X0_found_28 : decode prog_1_method_15_code 28 = .ok (.aload_n 0, 1) := by decide +kernel
theorem d_X0_found_29 : decode prog_1_method_15_code 29 = .ok (.getfield 44, 3) := by decide +kernel
theorem d_X0_found_32 : decode prog_1_method_15_code 32 = .ok (.iload_n 1, 1) := by decide +kernel
theorem d_X0_found_33 : decode prog_1_method_15_code 33 = .ok (.invokevirtual 187, 3) := by decide +kernel
theorem d_X0_found_36 : decode prog_1_method_15_code 36 = .ok (.goto 11, 3) := by decide +kernel
theorem d_X0_found_39 : decode prog_1_method_15_code 39 = .ok (.aload_n 0, 1) := by decide +kernel
theorem d_X0_found_40 : decode prog_1_method_15_code 40 = .ok (.getfield 44, 3) := by decide +kernel
theorem d_X0_found_43 : decode prog_1_method_15_code 43 = .ok (.iload_n 1, 1) := by decide +kernel
theorem d_X0_found_44 : decode prog_1_method_15_code 44 = .ok (.invokevirtual 190, 3) := by decide +kernel
theorem d_X0_found_47 : decode prog_1_method_15_code 47 = .ok (.ireturn, 1) := by decide +kernel
abbrev y_X7_finders : MethodName := ⟨"VirtualRewrite$Answers", "finders", "(I)I"⟩
theorem d_X7_finders_0 : decode prog_2_method_4_code 0 = .ok (.aload_n 0, 1) := by decide +kernel
theorem d_X7_finders_1 : decode prog_2_method_4_code 1 = .ok (.getfield 18, 3) := by decide +kernel
theorem d_X7_finders_4 : decode prog_2_method_4_code 4 = .ok (.aload_n 0, 1) := by decide +kernel
theorem d_X7_finders_5 : decode prog_2_method_4_code 5 = .ok (.getfield 15, 3) := by decide +kernel
theorem d_X7_finders_8 : decode prog_2_method_4_code 8 = .ok (.iload_n 1, 1) := by decide +kernel
theorem d_X7_finders_9 : decode prog_2_method_4_code 9 = .ok (.iaload, 1) := by decide +kernel
theorem d_X7_finders_10 : decode prog_2_method_4_code 10 = .ok (.iaload, 1) := by decide +kernel
theorem d_X7_finders_11 : decode prog_2_method_4_code 11 = .ok (.ireturn, 1) := by decide +kernel
abbrev y_X7_firstFinder : MethodName := ⟨"VirtualRewrite$Answers", "firstFinder", "(I)I"⟩
theorem d_X7_firstFinder_0 : decode prog_2_method_5_code 0 = .ok (.aload_n 0, 1) := by decide +kernel
theorem d_X7_firstFinder_1 : decode prog_2_method_5_code 1 = .ok (.getfield 21, 3) := by decide +kernel
theorem d_X7_firstFinder_4 : decode prog_2_method_5_code 4 = .ok (.aload_n 0, 1) := by decide +kernel
theorem d_X7_firstFinder_5 : decode prog_2_method_5_code 5 = .ok (.getfield 15, 3) := by decide +kernel
theorem d_X7_firstFinder_8 : decode prog_2_method_5_code 8 = .ok (.iload_n 1, 1) := by decide +kernel
theorem d_X7_firstFinder_9 : decode prog_2_method_5_code 9 = .ok (.iaload, 1) := by decide +kernel
theorem d_X7_firstFinder_10 : decode prog_2_method_5_code 10 = .ok (.iaload, 1) := by decide +kernel
theorem d_X7_firstFinder_11 : decode prog_2_method_5_code 11 = .ok (.ireturn, 1) := by decide +kernel
abbrev y_X0_value : MethodName := ⟨"VirtualRewrite", "value", "(II)I"⟩
theorem d_X0_value_0 : decode prog_1_method_14_code 0 = .ok (.iload_n 1, 1) := by decide +kernel
theorem d_X0_value_1 : decode prog_1_method_14_code 1 = .ok (.aload_n 0, 1) := by decide +kernel
theorem d_X0_value_2 : decode prog_1_method_14_code 2 = .ok (.getfield 44, 3) := by decide +kernel
theorem d_X0_value_5 : decode prog_1_method_14_code 5 = .ok (.getfield 171, 3) := by decide +kernel
theorem d_X0_value_8 : decode prog_1_method_14_code 8 = .ok (.invokestatic 57, 3) := by decide +kernel
theorem d_X0_value_11 : decode prog_1_method_14_code 11 = .ok (.ifCond .eq 12, 3) := by decide +kernel
theorem d_X0_value_14 : decode prog_1_method_14_code 14 = .ok (.iload_n 2, 1) := by decide +kernel
theorem d_X0_value_15 : decode prog_1_method_14_code 15 = .ok (.bipush 6, 2) := by decide +kernel
theorem d_X0_value_17 : decode prog_1_method_14_code 17 = .ok (.invokestatic 57, 3) := by decide +kernel
theorem d_X0_value_20 : decode prog_1_method_14_code 20 = .ok (.ifCond .ne 5, 3) := by decide +kernel
theorem d_X0_value_23 : decode prog_1_method_14_code 23 = .ok (.iconst (-1), 1) := by decide +kernel
theorem d_X0_value_24 : decode prog_1_method_14_code 24 = .ok (.ireturn, 1) := by decide +kernel
theorem d_X0_value_25 : decode prog_1_method_14_code 25 = .ok (.aload_n 0, 1) := by decide +kernel
theorem d_X0_value_26 : decode prog_1_method_14_code 26 = .ok (.getfield 44, 3) := by decide +kernel
theorem d_X0_value_29 : decode prog_1_method_14_code 29 = .ok (.getfield 172, 3) := by decide +kernel
theorem d_X0_value_32 : decode prog_1_method_14_code 32 = .ok (.iload_n 2, 1) := by decide +kernel
theorem d_X0_value_33 : decode prog_1_method_14_code 33 = .ok (.invokestatic 174, 3) := by decide +kernel
theorem d_X0_value_36 : decode prog_1_method_14_code 36 = .ok (.ifCond .ne 13, 3) := by decide +kernel
theorem d_X0_value_39 : decode prog_1_method_14_code 39 = .ok (.new 177, 3) := by decide +kernel
theorem d_X0_value_42 : decode prog_1_method_14_code 42 = .ok (.dup, 1) := by decide +kernel
theorem d_X0_value_43 : decode prog_1_method_14_code 43 = .ok (.ldc 179, 2) := by decide +kernel
theorem d_X0_value_45 : decode prog_1_method_14_code 45 = .ok (.invokespecial 181, 3) := by decide +kernel
theorem d_X0_value_48 : decode prog_1_method_14_code 48 = .ok (.athrow, 1) := by decide +kernel
theorem d_X0_value_49 : decode prog_1_method_14_code 49 = .ok (.aload_n 0, 1) := by decide +kernel
theorem d_X0_value_50 : decode prog_1_method_14_code 50 = .ok (.getfield 44, 3) := by decide +kernel
theorem d_X0_value_53 : decode prog_1_method_14_code 53 = .ok (.iload_n 1, 1) := by decide +kernel
theorem d_X0_value_54 : decode prog_1_method_14_code 54 = .ok (.iload_n 2, 1) := by decide +kernel
theorem d_X0_value_55 : decode prog_1_method_14_code 55 = .ok (.invokevirtual 184, 3) := by decide +kernel
theorem d_X0_value_58 : decode prog_1_method_14_code 58 = .ok (.ireturn, 1) := by decide +kernel
end
section
theorem cd_X0_init : ac_cd y_X0_init prog_1_method_1_code 1 none 0 := ⟨mem_T0 57 (by decide +kernel) (by decide +kernel), mem_T0 36 (by decide +kernel) (by decide +kernel), by decide, by decide, by decide +kernel⟩
theorem in_X0_init : Cond.instanceMethod y_X0_init ∈ T0_ := mem_T0 56 (by decide +kernel) (by decide +kernel)
theorem cd_X1_init : ac_cd y_X1_init prog_3_method_1_code 2 none 0 := ⟨mem_T0 65 (by decide +kernel) (by decide +kernel), mem_T0 37 (by decide +kernel) (by decide +kernel), by decide, by decide, by decide +kernel⟩
theorem in_X1_init : Cond.instanceMethod y_X1_init ∈ T0_ := mem_T0 64 (by decide +kernel) (by decide +kernel)
theorem cd_X2_init : ac_cd y_X2_init prog_9_method_1_code 1 none 0 := ⟨mem_T0 74 (by decide +kernel) (by decide +kernel), mem_T0 38 (by decide +kernel) (by decide +kernel), by decide, by decide, by decide +kernel⟩
theorem in_X2_init : Cond.instanceMethod y_X2_init ∈ T0_ := mem_T0 73 (by decide +kernel) (by decide +kernel)
theorem cd_X3_init : ac_cd y_X3_init prog_5_method_1_code 1 none 0 := ⟨mem_T0 98 (by decide +kernel) (by decide +kernel), mem_T0 39 (by decide +kernel) (by decide +kernel), by decide, by decide, by decide +kernel⟩
theorem in_X3_init : Cond.instanceMethod y_X3_init ∈ T0_ := mem_T0 97 (by decide +kernel) (by decide +kernel)
theorem cd_X4_init : ac_cd y_X4_init prog_6_method_1_code 2 none 0 := ⟨mem_T0 150 (by decide +kernel) (by decide +kernel), mem_T0 40 (by decide +kernel) (by decide +kernel), by decide, by decide, by decide +kernel⟩
theorem in_X4_init : Cond.instanceMethod y_X4_init ∈ T0_ := mem_T0 149 (by decide +kernel) (by decide +kernel)
theorem cd_X5_init : ac_cd y_X5_init prog_7_method_1_code 3 none 2 := ⟨mem_T0 181 (by decide +kernel) (by decide +kernel), mem_T0 41 (by decide +kernel) (by decide +kernel), by decide, by decide, by decide +kernel⟩
theorem in_X5_init : Cond.instanceMethod y_X5_init ∈ T0_ := mem_T0 180 (by decide +kernel) (by decide +kernel)
theorem cd_X6_init : ac_cd y_X6_init prog_8_method_1_code 4 none 3 := ⟨mem_T0 214 (by decide +kernel) (by decide +kernel), mem_T0 42 (by decide +kernel) (by decide +kernel), by decide, by decide, by decide +kernel⟩
theorem in_X6_init : Cond.instanceMethod y_X6_init ∈ T0_ := mem_T0 213 (by decide +kernel) (by decide +kernel)
theorem cd_X7_init : ac_cd y_X7_init prog_2_method_1_code 1 none 0 := ⟨mem_T0 240 (by decide +kernel) (by decide +kernel), mem_T0 43 (by decide +kernel) (by decide +kernel), by decide, by decide, by decide +kernel⟩
theorem in_X7_init : Cond.instanceMethod y_X7_init ∈ T0_ := mem_T0 239 (by decide +kernel) (by decide +kernel)
theorem cd_X8_init : ac_cd y_X8_init prog_4_method_1_code 5 none 4 := ⟨mem_T0 272 (by decide +kernel) (by decide +kernel), mem_T0 44 (by decide +kernel) (by decide +kernel), by decide, by decide, by decide +kernel⟩
theorem in_X8_init : Cond.instanceMethod y_X8_init ∈ T0_ := mem_T0 271 (by decide +kernel) (by decide +kernel)
theorem cd_X0_key : ac_cd y_X0_key prog_1_method_2_code 5 (some .int) 3 := ⟨mem_T0 336 (by decide +kernel) (by decide +kernel), mem_T0 36 (by decide +kernel) (by decide +kernel), by decide, by decide, by decide +kernel⟩
theorem in_X0_key : Cond.instanceMethod y_X0_key ∈ T0_ := mem_T0 334 (by decide +kernel) (by decide +kernel)
theorem se_X0_key : Cond.selects "VirtualRewrite" y_X0_key y_X0_key ∈ T0_ := mem_T0 335 (by decide +kernel) (by decide +kernel)
theorem cd_X0_isBelow : ac_cd y_X0_isBelow prog_1_method_18_code 2 (some .boolean) 2 := ⟨mem_T0 339 (by decide +kernel) (by decide +kernel), mem_T0 36 (by decide +kernel) (by decide +kernel), by decide, by decide, by decide +kernel⟩
theorem st_X0_isBelow : Cond.static y_X0_isBelow ∈ T0_ := mem_T0 338 (by decide +kernel) (by decide +kernel)
theorem cd_X2_repeats : ac_cd y_X2_repeats prog_9_method_4_code 3 (some .boolean) 1 := ⟨mem_T0 343 (by decide +kernel) (by decide +kernel), mem_T0 38 (by decide +kernel) (by decide +kernel), by decide, by decide, by decide +kernel⟩
theorem in_X2_repeats : Cond.instanceMethod y_X2_repeats ∈ T0_ := mem_T0 341 (by decide +kernel) (by decide +kernel)
theorem se_X2_repeats : Cond.selects "VirtualRewrite$Table" y_X2_repeats y_X2_repeats ∈ T0_ := mem_T0 342 (by decide +kernel) (by decide +kernel)
theorem cd_X2_cell : ac_cd y_X2_cell prog_9_method_2_code 3 (some .int) 2 := ⟨mem_T0 347 (by decide +kernel) (by decide +kernel), mem_T0 38 (by decide +kernel) (by decide +kernel), by decide, by decide, by decide +kernel⟩
theorem in_X2_cell : Cond.instanceMethod y_X2_cell ∈ T0_ := mem_T0 345 (by decide +kernel) (by decide +kernel)
theorem se_X2_cell : Cond.selects "VirtualRewrite$Table" y_X2_cell y_X2_cell ∈ T0_ := mem_T0 346 (by decide +kernel) (by decide +kernel)
theorem cd_X2_holds : ac_cd y_X2_holds prog_9_method_3_code 5 (some .boolean) 3 := ⟨mem_T0 351 (by decide +kernel) (by decide +kernel), mem_T0 38 (by decide +kernel) (by decide +kernel), by decide, by decide, by decide +kernel⟩
theorem in_X2_holds : Cond.instanceMethod y_X2_holds ∈ T0_ := mem_T0 349 (by decide +kernel) (by decide +kernel)
theorem se_X2_holds : Cond.selects "VirtualRewrite$Table" y_X2_holds y_X2_holds ∈ T0_ := mem_T0 350 (by decide +kernel) (by decide +kernel)
theorem cd_X0_row : ac_cd y_X0_row prog_1_method_3_code 6 (some .int) 4 := ⟨mem_T0 355 (by decide +kernel) (by decide +kernel), mem_T0 36 (by decide +kernel) (by decide +kernel), by decide, by decide, by decide +kernel⟩
theorem in_X0_row : Cond.instanceMethod y_X0_row ∈ T0_ := mem_T0 353 (by decide +kernel) (by decide +kernel)
theorem se_X0_row : Cond.selects "VirtualRewrite" y_X0_row y_X0_row ∈ T0_ := mem_T0 354 (by decide +kernel) (by decide +kernel)
theorem cd_X2_refuses : ac_cd y_X2_refuses prog_9_method_5_code 3 (some .boolean) 2 := ⟨mem_T0 359 (by decide +kernel) (by decide +kernel), mem_T0 38 (by decide +kernel) (by decide +kernel), by decide, by decide, by decide +kernel⟩
theorem in_X2_refuses : Cond.instanceMethod y_X2_refuses ∈ T0_ := mem_T0 357 (by decide +kernel) (by decide +kernel)
theorem se_X2_refuses : Cond.selects "VirtualRewrite$Table" y_X2_refuses y_X2_refuses ∈ T0_ := mem_T0 358 (by decide +kernel) (by decide +kernel)
theorem cd_X2_append : ac_cd y_X2_append prog_9_method_6_code 5 none 3 := ⟨mem_T0 363 (by decide +kernel) (by decide +kernel), mem_T0 38 (by decide +kernel) (by decide +kernel), by decide, by decide, by decide +kernel⟩
theorem in_X2_append : Cond.instanceMethod y_X2_append ∈ T0_ := mem_T0 361 (by decide +kernel) (by decide +kernel)
theorem se_X2_append : Cond.selects "VirtualRewrite$Table" y_X2_append y_X2_append ∈ T0_ := mem_T0 362 (by decide +kernel) (by decide +kernel)
theorem cd_X0_drop : ac_cd y_X0_drop prog_1_method_4_code 3 (some .int) 2 := ⟨mem_T0 367 (by decide +kernel) (by decide +kernel), mem_T0 36 (by decide +kernel) (by decide +kernel), by decide, by decide, by decide +kernel⟩
theorem in_X0_drop : Cond.instanceMethod y_X0_drop ∈ T0_ := mem_T0 365 (by decide +kernel) (by decide +kernel)
theorem se_X0_drop : Cond.selects "VirtualRewrite" y_X0_drop y_X0_drop ∈ T0_ := mem_T0 366 (by decide +kernel) (by decide +kernel)
theorem cd_X2_remove : ac_cd y_X2_remove prog_9_method_7_code 3 none 1 := ⟨mem_T0 371 (by decide +kernel) (by decide +kernel), mem_T0 38 (by decide +kernel) (by decide +kernel), by decide, by decide, by decide +kernel⟩
theorem in_X2_remove : Cond.instanceMethod y_X2_remove ∈ T0_ := mem_T0 369 (by decide +kernel) (by decide +kernel)
theorem se_X2_remove : Cond.selects "VirtualRewrite$Table" y_X2_remove y_X2_remove ∈ T0_ := mem_T0 370 (by decide +kernel) (by decide +kernel)
theorem cd_X0_mapping : ac_cd y_X0_mapping prog_1_method_5_code 8 (some .int) 6 := ⟨mem_T0 378 (by decide +kernel) (by decide +kernel), mem_T0 36 (by decide +kernel) (by decide +kernel), by decide, by decide, by decide +kernel⟩
theorem in_X0_mapping : Cond.instanceMethod y_X0_mapping ∈ T0_ := mem_T0 376 (by decide +kernel) (by decide +kernel)
theorem se_X0_mapping : Cond.selects "VirtualRewrite" y_X0_mapping y_X0_mapping ∈ T0_ := mem_T0 377 (by decide +kernel) (by decide +kernel)
theorem cd_X3_describe : ac_cd y_X3_describe prog_5_method_2_code 4 none 3 := ⟨mem_T0 382 (by decide +kernel) (by decide +kernel), mem_T0 39 (by decide +kernel) (by decide +kernel), by decide, by decide, by decide +kernel⟩
theorem in_X3_describe : Cond.instanceMethod y_X3_describe ∈ T0_ := mem_T0 380 (by decide +kernel) (by decide +kernel)
theorem se_X3_describe : Cond.selects "VirtualRewrite$Mapping" y_X3_describe y_X3_describe ∈ T0_ := mem_T0 381 (by decide +kernel) (by decide +kernel)
theorem cd_X5_forget : ac_cd y_X5_forget prog_7_method_5_code 1 none 0 := ⟨mem_T0 386 (by decide +kernel) (by decide +kernel), mem_T0 41 (by decide +kernel) (by decide +kernel), by decide, by decide, by decide +kernel⟩
theorem in_X5_forget : Cond.instanceMethod y_X5_forget ∈ T0_ := mem_T0 384 (by decide +kernel) (by decide +kernel)
theorem se_X5_forget : Cond.selects "VirtualRewrite$Rewriting" y_X5_forget y_X5_forget ∈ T0_ := mem_T0 385 (by decide +kernel) (by decide +kernel)
theorem cd_X0_triples : ac_cd y_X0_triples prog_1_method_6_code 1 (some .int) 0 := ⟨mem_T0 390 (by decide +kernel) (by decide +kernel), mem_T0 36 (by decide +kernel) (by decide +kernel), by decide, by decide, by decide +kernel⟩
theorem in_X0_triples : Cond.instanceMethod y_X0_triples ∈ T0_ := mem_T0 388 (by decide +kernel) (by decide +kernel)
theorem se_X0_triples : Cond.selects "VirtualRewrite" y_X0_triples y_X0_triples ∈ T0_ := mem_T0 389 (by decide +kernel) (by decide +kernel)
theorem cd_X1_countTriples : ac_cd y_X1_countTriples prog_3_method_3_code 4 (some .int) 0 := ⟨mem_T0 394 (by decide +kernel) (by decide +kernel), mem_T0 37 (by decide +kernel) (by decide +kernel), by decide, by decide, by decide +kernel⟩
theorem in_X1_countTriples : Cond.instanceMethod y_X1_countTriples ∈ T0_ := mem_T0 392 (by decide +kernel) (by decide +kernel)
theorem se_X1_countTriples : Cond.selects "VirtualRewrite$Catalog" y_X1_countTriples y_X1_countTriples ∈ T0_ := mem_T0 393 (by decide +kernel) (by decide +kernel)
theorem cd_X1_tableOf : ac_cd y_X1_tableOf prog_3_method_2_code 2 (some (.object "VirtualRewrite$Table")) 1 := ⟨mem_T0 398 (by decide +kernel) (by decide +kernel), mem_T0 37 (by decide +kernel) (by decide +kernel), by decide, by decide, by decide +kernel⟩
theorem in_X1_tableOf : Cond.instanceMethod y_X1_tableOf ∈ T0_ := mem_T0 396 (by decide +kernel) (by decide +kernel)
theorem se_X1_tableOf : Cond.selects "VirtualRewrite$Catalog" y_X1_tableOf y_X1_tableOf ∈ T0_ := mem_T0 397 (by decide +kernel) (by decide +kernel)
theorem cd_X1_packedTriple : ac_cd y_X1_packedTriple prog_3_method_4_code 7 (some .long) 2 := ⟨mem_T0 402 (by decide +kernel) (by decide +kernel), mem_T0 37 (by decide +kernel) (by decide +kernel), by decide, by decide, by decide +kernel⟩
theorem in_X1_packedTriple : Cond.instanceMethod y_X1_packedTriple ∈ T0_ := mem_T0 400 (by decide +kernel) (by decide +kernel)
theorem se_X1_packedTriple : Cond.selects "VirtualRewrite$Catalog" y_X1_packedTriple y_X1_packedTriple ∈ T0_ := mem_T0 401 (by decide +kernel) (by decide +kernel)
theorem cd_X1_keepTriple : ac_cd y_X1_keepTriple prog_3_method_5_code 6 none 1 := ⟨mem_T0 408 (by decide +kernel) (by decide +kernel), mem_T0 37 (by decide +kernel) (by decide +kernel), by decide, by decide, by decide +kernel⟩
theorem in_X1_keepTriple : Cond.instanceMethod y_X1_keepTriple ∈ T0_ := mem_T0 406 (by decide +kernel) (by decide +kernel)
theorem se_X1_keepTriple : Cond.selects "VirtualRewrite$Catalog" y_X1_keepTriple y_X1_keepTriple ∈ T0_ := mem_T0 407 (by decide +kernel) (by decide +kernel)
theorem cd_X0_atom : ac_cd y_X0_atom prog_1_method_7_code 4 (some .int) 3 := ⟨mem_T0 413 (by decide +kernel) (by decide +kernel), mem_T0 36 (by decide +kernel) (by decide +kernel), by decide, by decide, by decide +kernel⟩
theorem in_X0_atom : Cond.instanceMethod y_X0_atom ∈ T0_ := mem_T0 411 (by decide +kernel) (by decide +kernel)
theorem se_X0_atom : Cond.selects "VirtualRewrite" y_X0_atom y_X0_atom ∈ T0_ := mem_T0 412 (by decide +kernel) (by decide +kernel)
theorem cd_X0_isPlace : ac_cd y_X0_isPlace prog_1_method_19_code 1 (some .boolean) 1 := ⟨mem_T0 416 (by decide +kernel) (by decide +kernel), mem_T0 36 (by decide +kernel) (by decide +kernel), by decide, by decide, by decide +kernel⟩
theorem st_X0_isPlace : Cond.static y_X0_isPlace ∈ T0_ := mem_T0 415 (by decide +kernel) (by decide +kernel)
theorem cd_X4_append : ac_cd y_X4_append prog_6_method_2_code 4 none 3 := ⟨mem_T0 421 (by decide +kernel) (by decide +kernel), mem_T0 40 (by decide +kernel) (by decide +kernel), by decide, by decide, by decide +kernel⟩
theorem in_X4_append : Cond.instanceMethod y_X4_append ∈ T0_ := mem_T0 419 (by decide +kernel) (by decide +kernel)
theorem se_X4_append : Cond.selects "VirtualRewrite$Question" y_X4_append y_X4_append ∈ T0_ := mem_T0 420 (by decide +kernel) (by decide +kernel)
theorem cd_X0_span : ac_cd y_X0_span prog_1_method_8_code 4 (some .int) 3 := ⟨mem_T0 425 (by decide +kernel) (by decide +kernel), mem_T0 36 (by decide +kernel) (by decide +kernel), by decide, by decide, by decide +kernel⟩
theorem in_X0_span : Cond.instanceMethod y_X0_span ∈ T0_ := mem_T0 423 (by decide +kernel) (by decide +kernel)
theorem se_X0_span : Cond.selects "VirtualRewrite" y_X0_span y_X0_span ∈ T0_ := mem_T0 424 (by decide +kernel) (by decide +kernel)
theorem cd_X4_narrow : ac_cd y_X4_narrow prog_6_method_3_code 4 none 3 := ⟨mem_T0 429 (by decide +kernel) (by decide +kernel), mem_T0 40 (by decide +kernel) (by decide +kernel), by decide, by decide, by decide +kernel⟩
theorem in_X4_narrow : Cond.instanceMethod y_X4_narrow ∈ T0_ := mem_T0 427 (by decide +kernel) (by decide +kernel)
theorem se_X4_narrow : Cond.selects "VirtualRewrite$Question" y_X4_narrow y_X4_narrow ∈ T0_ := mem_T0 428 (by decide +kernel) (by decide +kernel)
theorem cd_JMath_max : ac_cd y_JMath_max prog_15_method_65_code 2 (some .int) 2 := ⟨mem_T0 432 (by decide +kernel) (by decide +kernel), mem_T0 47 (by decide +kernel) (by decide +kernel), by decide, by decide, by decide +kernel⟩
theorem st_JMath_max : Cond.static y_JMath_max ∈ T0_ := mem_T0 431 (by decide +kernel) (by decide +kernel)
theorem cd_JMath_min : ac_cd y_JMath_min prog_15_method_69_code 2 (some .int) 2 := ⟨mem_T0 435 (by decide +kernel) (by decide +kernel), mem_T0 47 (by decide +kernel) (by decide +kernel), by decide, by decide, by decide +kernel⟩
theorem st_JMath_min : Cond.static y_JMath_min ∈ T0_ := mem_T0 434 (by decide +kernel) (by decide +kernel)
theorem cd_X0_clear : ac_cd y_X0_clear prog_1_method_9_code 2 (some .int) 0 := ⟨mem_T0 439 (by decide +kernel) (by decide +kernel), mem_T0 36 (by decide +kernel) (by decide +kernel), by decide, by decide, by decide +kernel⟩
theorem in_X0_clear : Cond.instanceMethod y_X0_clear ∈ T0_ := mem_T0 437 (by decide +kernel) (by decide +kernel)
theorem se_X0_clear : Cond.selects "VirtualRewrite" y_X0_clear y_X0_clear ∈ T0_ := mem_T0 438 (by decide +kernel) (by decide +kernel)
theorem cd_X4_reset : ac_cd y_X4_reset prog_6_method_4_code 2 none 0 := ⟨mem_T0 443 (by decide +kernel) (by decide +kernel), mem_T0 40 (by decide +kernel) (by decide +kernel), by decide, by decide, by decide +kernel⟩
theorem in_X4_reset : Cond.instanceMethod y_X4_reset ∈ T0_ := mem_T0 441 (by decide +kernel) (by decide +kernel)
theorem se_X4_reset : Cond.selects "VirtualRewrite$Question" y_X4_reset y_X4_reset ∈ T0_ := mem_T0 442 (by decide +kernel) (by decide +kernel)
theorem cd_X0_unions : ac_cd y_X0_unions prog_1_method_10_code 1 (some .int) 0 := ⟨mem_T0 447 (by decide +kernel) (by decide +kernel), mem_T0 36 (by decide +kernel) (by decide +kernel), by decide, by decide, by decide +kernel⟩
theorem in_X0_unions : Cond.instanceMethod y_X0_unions ∈ T0_ := mem_T0 445 (by decide +kernel) (by decide +kernel)
theorem se_X0_unions : Cond.selects "VirtualRewrite" y_X0_unions y_X0_unions ∈ T0_ := mem_T0 446 (by decide +kernel) (by decide +kernel)
theorem cd_X5_refresh : ac_cd y_X5_refresh prog_7_method_6_code 1 none 0 := ⟨mem_T0 451 (by decide +kernel) (by decide +kernel), mem_T0 41 (by decide +kernel) (by decide +kernel), by decide, by decide, by decide +kernel⟩
theorem in_X5_refresh : Cond.instanceMethod y_X5_refresh ∈ T0_ := mem_T0 449 (by decide +kernel) (by decide +kernel)
theorem se_X5_refresh : Cond.selects "VirtualRewrite$Rewriting" y_X5_refresh y_X5_refresh ∈ T0_ := mem_T0 450 (by decide +kernel) (by decide +kernel)
theorem cd_X5_extend : ac_cd y_X5_extend prog_7_method_7_code 5 none 2 := ⟨mem_T0 455 (by decide +kernel) (by decide +kernel), mem_T0 41 (by decide +kernel) (by decide +kernel), by decide, by decide, by decide +kernel⟩
theorem in_X5_extend : Cond.instanceMethod y_X5_extend ∈ T0_ := mem_T0 454 (by decide +kernel) (by decide +kernel)
theorem se_X5_extend : Cond.selects "VirtualRewrite$Rewriting" y_X5_extend y_X5_extend ∈ T0_ := mem_T0 0 (by decide +kernel) (by decide +kernel)
theorem cd_X5_keep : ac_cd y_X5_keep prog_7_method_8_code 1 none 0 := ⟨mem_T0 459 (by decide +kernel) (by decide +kernel), mem_T0 41 (by decide +kernel) (by decide +kernel), by decide, by decide, by decide +kernel⟩
theorem in_X5_keep : Cond.instanceMethod y_X5_keep ∈ T0_ := mem_T0 458 (by decide +kernel) (by decide +kernel)
theorem se_X5_keep : Cond.selects "VirtualRewrite$Rewriting" y_X5_keep y_X5_keep ∈ T0_ := mem_T0 1 (by decide +kernel) (by decide +kernel)
theorem cd_X5_settle : ac_cd y_X5_settle prog_7_method_9_code 8 (some .int) 3 := ⟨mem_T0 464 (by decide +kernel) (by decide +kernel), mem_T0 41 (by decide +kernel) (by decide +kernel), by decide, by decide, by decide +kernel⟩
theorem in_X5_settle : Cond.instanceMethod y_X5_settle ∈ T0_ := mem_T0 463 (by decide +kernel) (by decide +kernel)
theorem se_X5_settle : Cond.selects "VirtualRewrite$Rewriting" y_X5_settle y_X5_settle ∈ T0_ := mem_T0 2 (by decide +kernel) (by decide +kernel)
theorem cd_X4_told : ac_cd y_X4_told prog_6_method_5_code 3 (some .int) 2 := ⟨mem_T0 468 (by decide +kernel) (by decide +kernel), mem_T0 40 (by decide +kernel) (by decide +kernel), by decide, by decide, by decide +kernel⟩
theorem in_X4_told : Cond.instanceMethod y_X4_told ∈ T0_ := mem_T0 466 (by decide +kernel) (by decide +kernel)
theorem se_X4_told : Cond.selects "VirtualRewrite$Question" y_X4_told y_X4_told ∈ T0_ := mem_T0 467 (by decide +kernel) (by decide +kernel)
theorem cd_X0_isVariable : ac_cd y_X0_isVariable prog_1_method_20_code 1 (some .boolean) 1 := ⟨mem_T0 471 (by decide +kernel) (by decide +kernel), mem_T0 36 (by decide +kernel) (by decide +kernel), by decide, by decide, by decide +kernel⟩
theorem st_X0_isVariable : Cond.static y_X0_isVariable ∈ T0_ := mem_T0 470 (by decide +kernel) (by decide +kernel)
theorem cd_X0_variableOf : ac_cd y_X0_variableOf prog_1_method_21_code 1 (some .int) 1 := ⟨mem_T0 474 (by decide +kernel) (by decide +kernel), mem_T0 36 (by decide +kernel) (by decide +kernel), by decide, by decide, by decide +kernel⟩
theorem st_X0_variableOf : Cond.static y_X0_variableOf ∈ T0_ := mem_T0 473 (by decide +kernel) (by decide +kernel)
theorem cd_X0_has : ac_cd y_X0_has prog_1_method_22_code 2 (some .boolean) 2 := ⟨mem_T0 477 (by decide +kernel) (by decide +kernel), mem_T0 36 (by decide +kernel) (by decide +kernel), by decide, by decide, by decide +kernel⟩
theorem st_X0_has : Cond.static y_X0_has ∈ T0_ := mem_T0 476 (by decide +kernel) (by decide +kernel)
theorem cd_X0_with : ac_cd y_X0_with prog_1_method_23_code 2 (some .int) 2 := ⟨mem_T0 480 (by decide +kernel) (by decide +kernel), mem_T0 36 (by decide +kernel) (by decide +kernel), by decide, by decide, by decide +kernel⟩
theorem st_X0_with : Cond.static y_X0_with ∈ T0_ := mem_T0 479 (by decide +kernel) (by decide +kernel)
theorem cd_X0_union : ac_cd y_X0_union prog_1_method_11_code 4 (some .int) 2 := ⟨mem_T0 484 (by decide +kernel) (by decide +kernel), mem_T0 36 (by decide +kernel) (by decide +kernel), by decide, by decide, by decide +kernel⟩
theorem in_X0_union : Cond.instanceMethod y_X0_union ∈ T0_ := mem_T0 482 (by decide +kernel) (by decide +kernel)
theorem se_X0_union : Cond.selects "VirtualRewrite" y_X0_union y_X0_union ∈ T0_ := mem_T0 483 (by decide +kernel) (by decide +kernel)
theorem cd_X0_isAsked : ac_cd y_X0_isAsked prog_1_method_16_code 2 (some .boolean) 1 := ⟨mem_T0 488 (by decide +kernel) (by decide +kernel), mem_T0 36 (by decide +kernel) (by decide +kernel), by decide, by decide, by decide +kernel⟩
theorem in_X0_isAsked : Cond.instanceMethod y_X0_isAsked ∈ T0_ := mem_T0 487 (by decide +kernel) (by decide +kernel)
theorem se_X0_isAsked : Cond.selects "VirtualRewrite" y_X0_isAsked y_X0_isAsked ∈ T0_ := mem_T0 3 (by decide +kernel) (by decide +kernel)
theorem cd_X0_troubleWith : ac_cd y_X0_troubleWith prog_1_method_17_code 2 (some .int) 1 := ⟨mem_T0 492 (by decide +kernel) (by decide +kernel), mem_T0 36 (by decide +kernel) (by decide +kernel), by decide, by decide, by decide +kernel⟩
theorem in_X0_troubleWith : Cond.instanceMethod y_X0_troubleWith ∈ T0_ := mem_T0 491 (by decide +kernel) (by decide +kernel)
theorem se_X0_troubleWith : Cond.selects "VirtualRewrite" y_X0_troubleWith y_X0_troubleWith ∈ T0_ := mem_T0 4 (by decide +kernel) (by decide +kernel)
theorem cd_X5_chosen : ac_cd y_X5_chosen prog_7_method_2_code 3 (some .int) 2 := ⟨mem_T0 496 (by decide +kernel) (by decide +kernel), mem_T0 41 (by decide +kernel) (by decide +kernel), by decide, by decide, by decide +kernel⟩
theorem in_X5_chosen : Cond.instanceMethod y_X5_chosen ∈ T0_ := mem_T0 494 (by decide +kernel) (by decide +kernel)
theorem se_X5_chosen : Cond.selects "VirtualRewrite$Rewriting" y_X5_chosen y_X5_chosen ∈ T0_ := mem_T0 495 (by decide +kernel) (by decide +kernel)
theorem cd_X6_assign : ac_cd y_X6_assign prog_8_method_2_code 4 none 1 := ⟨mem_T0 500 (by decide +kernel) (by decide +kernel), mem_T0 42 (by decide +kernel) (by decide +kernel), by decide, by decide, by decide +kernel⟩
theorem in_X6_assign : Cond.instanceMethod y_X6_assign ∈ T0_ := mem_T0 498 (by decide +kernel) (by decide +kernel)
theorem se_X6_assign : Cond.selects "VirtualRewrite$Slots" y_X6_assign y_X6_assign ∈ T0_ := mem_T0 499 (by decide +kernel) (by decide +kernel)
theorem cd_X6_leastOfOneRow : ac_cd y_X6_leastOfOneRow prog_8_method_3_code 4 (some .int) 2 := ⟨mem_T0 504 (by decide +kernel) (by decide +kernel), mem_T0 42 (by decide +kernel) (by decide +kernel), by decide, by decide, by decide +kernel⟩
theorem in_X6_leastOfOneRow : Cond.instanceMethod y_X6_leastOfOneRow ∈ T0_ := mem_T0 503 (by decide +kernel) (by decide +kernel)
theorem se_X6_leastOfOneRow : Cond.selects "VirtualRewrite$Slots" y_X6_leastOfOneRow y_X6_leastOfOneRow ∈ T0_ := mem_T0 5 (by decide +kernel) (by decide +kernel)
theorem cd_X6_areOfOneRow : ac_cd y_X6_areOfOneRow prog_8_method_4_code 10 (some .boolean) 3 := ⟨mem_T0 508 (by decide +kernel) (by decide +kernel), mem_T0 42 (by decide +kernel) (by decide +kernel), by decide, by decide, by decide +kernel⟩
theorem in_X6_areOfOneRow : Cond.instanceMethod y_X6_areOfOneRow ∈ T0_ := mem_T0 507 (by decide +kernel) (by decide +kernel)
theorem se_X6_areOfOneRow : Cond.selects "VirtualRewrite$Slots" y_X6_areOfOneRow y_X6_areOfOneRow ∈ T0_ := mem_T0 6 (by decide +kernel) (by decide +kernel)
theorem cd_X5_mappingOf : ac_cd y_X5_mappingOf prog_7_method_3_code 3 (some (.object "VirtualRewrite$Mapping")) 2 := ⟨mem_T0 512 (by decide +kernel) (by decide +kernel), mem_T0 41 (by decide +kernel) (by decide +kernel), by decide, by decide, by decide +kernel⟩
theorem in_X5_mappingOf : Cond.instanceMethod y_X5_mappingOf ∈ T0_ := mem_T0 510 (by decide +kernel) (by decide +kernel)
theorem se_X5_mappingOf : Cond.selects "VirtualRewrite$Rewriting" y_X5_mappingOf y_X5_mappingOf ∈ T0_ := mem_T0 511 (by decide +kernel) (by decide +kernel)
theorem cd_X0_estimate : ac_cd y_X0_estimate prog_1_method_12_code 3 (some .int) 1 := ⟨mem_T0 519 (by decide +kernel) (by decide +kernel), mem_T0 36 (by decide +kernel) (by decide +kernel), by decide, by decide, by decide +kernel⟩
theorem in_X0_estimate : Cond.instanceMethod y_X0_estimate ∈ T0_ := mem_T0 517 (by decide +kernel) (by decide +kernel)
theorem se_X0_estimate : Cond.selects "VirtualRewrite" y_X0_estimate y_X0_estimate ∈ T0_ := mem_T0 518 (by decide +kernel) (by decide +kernel)
theorem cd_X6_productOfRows : ac_cd y_X6_productOfRows prog_8_method_5_code 5 (some .int) 1 := ⟨mem_T0 523 (by decide +kernel) (by decide +kernel), mem_T0 42 (by decide +kernel) (by decide +kernel), by decide, by decide, by decide +kernel⟩
theorem in_X6_productOfRows : Cond.instanceMethod y_X6_productOfRows ∈ T0_ := mem_T0 521 (by decide +kernel) (by decide +kernel)
theorem se_X6_productOfRows : Cond.selects "VirtualRewrite$Slots" y_X6_productOfRows y_X6_productOfRows ∈ T0_ := mem_T0 522 (by decide +kernel) (by decide +kernel)
theorem cd_X5_tableOf : ac_cd y_X5_tableOf prog_7_method_4_code 3 (some (.object "VirtualRewrite$Table")) 2 := ⟨mem_T0 527 (by decide +kernel) (by decide +kernel), mem_T0 41 (by decide +kernel) (by decide +kernel), by decide, by decide, by decide +kernel⟩
theorem in_X5_tableOf : Cond.instanceMethod y_X5_tableOf ∈ T0_ := mem_T0 525 (by decide +kernel) (by decide +kernel)
theorem se_X5_tableOf : Cond.selects "VirtualRewrite$Rewriting" y_X5_tableOf y_X5_tableOf ∈ T0_ := mem_T0 526 (by decide +kernel) (by decide +kernel)
theorem cd_X0_run : ac_cd y_X0_run prog_1_method_13_code 2 (some .int) 0 := ⟨mem_T0 533 (by decide +kernel) (by decide +kernel), mem_T0 36 (by decide +kernel) (by decide +kernel), by decide, by decide, by decide +kernel⟩
theorem in_X0_run : Cond.instanceMethod y_X0_run ∈ T0_ := mem_T0 531 (by decide +kernel) (by decide +kernel)
theorem se_X0_run : Cond.selects "VirtualRewrite" y_X0_run y_X0_run ∈ T0_ := mem_T0 532 (by decide +kernel) (by decide +kernel)
theorem cd_X4_variables : ac_cd y_X4_variables prog_6_method_7_code 3 (some .int) 0 := ⟨mem_T0 537 (by decide +kernel) (by decide +kernel), mem_T0 40 (by decide +kernel) (by decide +kernel), by decide, by decide, by decide +kernel⟩
theorem in_X4_variables : Cond.instanceMethod y_X4_variables ∈ T0_ := mem_T0 535 (by decide +kernel) (by decide +kernel)
theorem se_X4_variables : Cond.selects "VirtualRewrite$Question" y_X4_variables y_X4_variables ∈ T0_ := mem_T0 536 (by decide +kernel) (by decide +kernel)
theorem cd_X7_begin : ac_cd y_X7_begin prog_2_method_2_code 2 none 1 := ⟨mem_T0 544 (by decide +kernel) (by decide +kernel), mem_T0 43 (by decide +kernel) (by decide +kernel), by decide, by decide, by decide +kernel⟩
theorem in_X7_begin : Cond.instanceMethod y_X7_begin ∈ T0_ := mem_T0 542 (by decide +kernel) (by decide +kernel)
theorem se_X7_begin : Cond.selects "VirtualRewrite$Answers" y_X7_begin y_X7_begin ∈ T0_ := mem_T0 543 (by decide +kernel) (by decide +kernel)
theorem cd_X8_find : ac_cd y_X8_find prog_4_method_2_code 4 none 1 := ⟨mem_T0 548 (by decide +kernel) (by decide +kernel), mem_T0 44 (by decide +kernel) (by decide +kernel), by decide, by decide, by decide +kernel⟩
theorem in_X8_find : Cond.instanceMethod y_X8_find ∈ T0_ := mem_T0 546 (by decide +kernel) (by decide +kernel)
theorem se_X8_find : Cond.selects "VirtualRewrite$Finder" y_X8_find y_X8_find ∈ T0_ := mem_T0 547 (by decide +kernel) (by decide +kernel)
theorem cd_X8_layOut : ac_cd y_X8_layOut prog_4_method_3_code 3 none 0 := ⟨mem_T0 553 (by decide +kernel) (by decide +kernel), mem_T0 44 (by decide +kernel) (by decide +kernel), by decide, by decide, by decide +kernel⟩
theorem in_X8_layOut : Cond.instanceMethod y_X8_layOut ∈ T0_ := mem_T0 552 (by decide +kernel) (by decide +kernel)
theorem se_X8_layOut : Cond.selects "VirtualRewrite$Finder" y_X8_layOut y_X8_layOut ∈ T0_ := mem_T0 7 (by decide +kernel) (by decide +kernel)
theorem cd_X8_layOutVariable : ac_cd y_X8_layOutVariable prog_4_method_4_code 6 none 2 := ⟨mem_T0 559 (by decide +kernel) (by decide +kernel), mem_T0 44 (by decide +kernel) (by decide +kernel), by decide, by decide, by decide +kernel⟩
theorem in_X8_layOutVariable : Cond.instanceMethod y_X8_layOutVariable ∈ T0_ := mem_T0 558 (by decide +kernel) (by decide +kernel)
theorem se_X8_layOutVariable : Cond.selects "VirtualRewrite$Finder" y_X8_layOutVariable y_X8_layOutVariable ∈ T0_ := mem_T0 8 (by decide +kernel) (by decide +kernel)
theorem cd_X8_gatherRows : ac_cd y_X8_gatherRows prog_4_method_6_code 5 none 1 := ⟨mem_T0 566 (by decide +kernel) (by decide +kernel), mem_T0 44 (by decide +kernel) (by decide +kernel), by decide, by decide, by decide +kernel⟩
theorem in_X8_gatherRows : Cond.instanceMethod y_X8_gatherRows ∈ T0_ := mem_T0 565 (by decide +kernel) (by decide +kernel)
theorem se_X8_gatherRows : Cond.selects "VirtualRewrite$Finder" y_X8_gatherRows y_X8_gatherRows ∈ T0_ := mem_T0 9 (by decide +kernel) (by decide +kernel)
theorem cd_X8_tableOf : ac_cd y_X8_tableOf prog_4_method_5_code 2 (some (.object "VirtualRewrite$Table")) 1 := ⟨mem_T0 570 (by decide +kernel) (by decide +kernel), mem_T0 44 (by decide +kernel) (by decide +kernel), by decide, by decide, by decide +kernel⟩
theorem in_X8_tableOf : Cond.instanceMethod y_X8_tableOf ∈ T0_ := mem_T0 569 (by decide +kernel) (by decide +kernel)
theorem se_X8_tableOf : Cond.selects "VirtualRewrite$Finder" y_X8_tableOf y_X8_tableOf ∈ T0_ := mem_T0 10 (by decide +kernel) (by decide +kernel)
theorem cd_X8_suits : ac_cd y_X8_suits prog_4_method_7_code 5 (some .boolean) 3 := ⟨mem_T0 575 (by decide +kernel) (by decide +kernel), mem_T0 44 (by decide +kernel) (by decide +kernel), by decide, by decide, by decide +kernel⟩
theorem in_X8_suits : Cond.instanceMethod y_X8_suits ∈ T0_ := mem_T0 574 (by decide +kernel) (by decide +kernel)
theorem se_X8_suits : Cond.selects "VirtualRewrite$Finder" y_X8_suits y_X8_suits ∈ T0_ := mem_T0 11 (by decide +kernel) (by decide +kernel)
theorem cd_X8_suitsAtom : ac_cd y_X8_suitsAtom prog_4_method_8_code 10 (some .boolean) 3 := ⟨mem_T0 579 (by decide +kernel) (by decide +kernel), mem_T0 44 (by decide +kernel) (by decide +kernel), by decide, by decide, by decide +kernel⟩
theorem in_X8_suitsAtom : Cond.instanceMethod y_X8_suitsAtom ∈ T0_ := mem_T0 578 (by decide +kernel) (by decide +kernel)
theorem se_X8_suitsAtom : Cond.selects "VirtualRewrite$Finder" y_X8_suitsAtom y_X8_suitsAtom ∈ T0_ := mem_T0 12 (by decide +kernel) (by decide +kernel)
theorem cd_X4_allows : ac_cd y_X4_allows prog_6_method_6_code 3 (some .boolean) 2 := ⟨mem_T0 584 (by decide +kernel) (by decide +kernel), mem_T0 40 (by decide +kernel) (by decide +kernel), by decide, by decide, by decide +kernel⟩
theorem in_X4_allows : Cond.instanceMethod y_X4_allows ∈ T0_ := mem_T0 582 (by decide +kernel) (by decide +kernel)
theorem se_X4_allows : Cond.selects "VirtualRewrite$Question" y_X4_allows y_X4_allows ∈ T0_ := mem_T0 583 (by decide +kernel) (by decide +kernel)
theorem cd_X8_isTold : ac_cd y_X8_isTold prog_4_method_9_code 6 (some .boolean) 4 := ⟨mem_T0 588 (by decide +kernel) (by decide +kernel), mem_T0 44 (by decide +kernel) (by decide +kernel), by decide, by decide, by decide +kernel⟩
theorem in_X8_isTold : Cond.instanceMethod y_X8_isTold ∈ T0_ := mem_T0 587 (by decide +kernel) (by decide +kernel)
theorem se_X8_isTold : Cond.selects "VirtualRewrite$Finder" y_X8_isTold y_X8_isTold ∈ T0_ := mem_T0 13 (by decide +kernel) (by decide +kernel)
theorem cd_X8_areAlike : ac_cd y_X8_areAlike prog_4_method_10_code 7 (some .boolean) 4 := ⟨mem_T0 592 (by decide +kernel) (by decide +kernel), mem_T0 44 (by decide +kernel) (by decide +kernel), by decide, by decide, by decide +kernel⟩
theorem in_X8_areAlike : Cond.instanceMethod y_X8_areAlike ∈ T0_ := mem_T0 591 (by decide +kernel) (by decide +kernel)
theorem se_X8_areAlike : Cond.selects "VirtualRewrite$Finder" y_X8_areAlike y_X8_areAlike ∈ T0_ := mem_T0 14 (by decide +kernel) (by decide +kernel)
theorem cd_X8_orderSlots : ac_cd y_X8_orderSlots prog_4_method_11_code 5 none 0 := ⟨mem_T0 596 (by decide +kernel) (by decide +kernel), mem_T0 44 (by decide +kernel) (by decide +kernel), by decide, by decide, by decide +kernel⟩
theorem in_X8_orderSlots : Cond.instanceMethod y_X8_orderSlots ∈ T0_ := mem_T0 595 (by decide +kernel) (by decide +kernel)
theorem se_X8_orderSlots : Cond.selects "VirtualRewrite$Finder" y_X8_orderSlots y_X8_orderSlots ∈ T0_ := mem_T0 15 (by decide +kernel) (by decide +kernel)
theorem cd_X8_isBetter : ac_cd y_X8_isBetter prog_4_method_12_code 6 (some .boolean) 3 := ⟨mem_T0 600 (by decide +kernel) (by decide +kernel), mem_T0 44 (by decide +kernel) (by decide +kernel), by decide, by decide, by decide +kernel⟩
theorem in_X8_isBetter : Cond.instanceMethod y_X8_isBetter ∈ T0_ := mem_T0 599 (by decide +kernel) (by decide +kernel)
theorem se_X8_isBetter : Cond.selects "VirtualRewrite$Finder" y_X8_isBetter y_X8_isBetter ∈ T0_ := mem_T0 16 (by decide +kernel) (by decide +kernel)
theorem cd_JInteger_bitCount : ac_cd y_JInteger_bitCount prog_14_method_49_code 1 (some .int) 1 := ⟨mem_T0 603 (by decide +kernel) (by decide +kernel), mem_T0 48 (by decide +kernel) (by decide +kernel), by decide, by decide, by decide +kernel⟩
theorem st_JInteger_bitCount : Cond.static y_JInteger_bitCount ∈ T0_ := mem_T0 602 (by decide +kernel) (by decide +kernel)
theorem cd_X8_search : ac_cd y_X8_search prog_4_method_13_code 11 (some .int) 2 := ⟨mem_T0 610 (by decide +kernel) (by decide +kernel), mem_T0 44 (by decide +kernel) (by decide +kernel), by decide, by decide, by decide +kernel⟩
theorem in_X8_search : Cond.instanceMethod y_X8_search ∈ T0_ := mem_T0 609 (by decide +kernel) (by decide +kernel)
theorem se_X8_search : Cond.selects "VirtualRewrite$Finder" y_X8_search y_X8_search ∈ T0_ := mem_T0 17 (by decide +kernel) (by decide +kernel)
theorem cd_X7_take : ac_cd y_X7_take prog_2_method_6_code 4 none 2 := ⟨mem_T0 614 (by decide +kernel) (by decide +kernel), mem_T0 43 (by decide +kernel) (by decide +kernel), by decide, by decide, by decide +kernel⟩
theorem in_X7_take : Cond.instanceMethod y_X7_take ∈ T0_ := mem_T0 612 (by decide +kernel) (by decide +kernel)
theorem se_X7_take : Cond.selects "VirtualRewrite$Answers" y_X7_take y_X7_take ∈ T0_ := mem_T0 613 (by decide +kernel) (by decide +kernel)
theorem cd_X7_firstNotBefore : ac_cd y_X7_firstNotBefore prog_2_method_8_code 5 (some .int) 1 := ⟨mem_T0 618 (by decide +kernel) (by decide +kernel), mem_T0 43 (by decide +kernel) (by decide +kernel), by decide, by decide, by decide +kernel⟩
theorem in_X7_firstNotBefore : Cond.instanceMethod y_X7_firstNotBefore ∈ T0_ := mem_T0 617 (by decide +kernel) (by decide +kernel)
theorem se_X7_firstNotBefore : Cond.selects "VirtualRewrite$Answers" y_X7_firstNotBefore y_X7_firstNotBefore ∈ T0_ := mem_T0 18 (by decide +kernel) (by decide +kernel)
theorem cd_X7_compare : ac_cd y_X7_compare prog_2_method_9_code 5 (some .int) 2 := ⟨mem_T0 622 (by decide +kernel) (by decide +kernel), mem_T0 43 (by decide +kernel) (by decide +kernel), by decide, by decide, by decide +kernel⟩
theorem in_X7_compare : Cond.instanceMethod y_X7_compare ∈ T0_ := mem_T0 621 (by decide +kernel) (by decide +kernel)
theorem se_X7_compare : Cond.selects "VirtualRewrite$Answers" y_X7_compare y_X7_compare ∈ T0_ := mem_T0 19 (by decide +kernel) (by decide +kernel)
theorem cd_X7_code : ac_cd y_X7_code prog_2_method_3_code 3 (some .int) 2 := ⟨mem_T0 626 (by decide +kernel) (by decide +kernel), mem_T0 43 (by decide +kernel) (by decide +kernel), by decide, by decide, by decide +kernel⟩
theorem in_X7_code : Cond.instanceMethod y_X7_code ∈ T0_ := mem_T0 624 (by decide +kernel) (by decide +kernel)
theorem se_X7_code : Cond.selects "VirtualRewrite$Answers" y_X7_code y_X7_code ∈ T0_ := mem_T0 625 (by decide +kernel) (by decide +kernel)
theorem cd_X7_insert : ac_cd y_X7_insert prog_2_method_7_code 4 none 3 := ⟨mem_T0 630 (by decide +kernel) (by decide +kernel), mem_T0 43 (by decide +kernel) (by decide +kernel), by decide, by decide, by decide +kernel⟩
theorem in_X7_insert : Cond.instanceMethod y_X7_insert ∈ T0_ := mem_T0 629 (by decide +kernel) (by decide +kernel)
theorem se_X7_insert : Cond.selects "VirtualRewrite$Answers" y_X7_insert y_X7_insert ∈ T0_ := mem_T0 20 (by decide +kernel) (by decide +kernel)
theorem cd_X8_agrees : ac_cd y_X8_agrees prog_4_method_14_code 7 (some .boolean) 4 := ⟨mem_T0 635 (by decide +kernel) (by decide +kernel), mem_T0 44 (by decide +kernel) (by decide +kernel), by decide, by decide, by decide +kernel⟩
theorem in_X8_agrees : Cond.instanceMethod y_X8_agrees ∈ T0_ := mem_T0 634 (by decide +kernel) (by decide +kernel)
theorem se_X8_agrees : Cond.selects "VirtualRewrite$Finder" y_X8_agrees y_X8_agrees ∈ T0_ := mem_T0 21 (by decide +kernel) (by decide +kernel)
theorem cd_X8_settleVariables : ac_cd y_X8_settleVariables prog_4_method_15_code 6 none 3 := ⟨mem_T0 640 (by decide +kernel) (by decide +kernel), mem_T0 44 (by decide +kernel) (by decide +kernel), by decide, by decide, by decide +kernel⟩
theorem in_X8_settleVariables : Cond.instanceMethod y_X8_settleVariables ∈ T0_ := mem_T0 639 (by decide +kernel) (by decide +kernel)
theorem se_X8_settleVariables : Cond.selects "VirtualRewrite$Finder" y_X8_settleVariables y_X8_settleVariables ∈ T0_ := mem_T0 22 (by decide +kernel) (by decide +kernel)
theorem cd_X0_found : ac_cd y_X0_found prog_1_method_15_code 3 (some .int) 2 := ⟨mem_T0 644 (by decide +kernel) (by decide +kernel), mem_T0 36 (by decide +kernel) (by decide +kernel), by decide, by decide, by decide +kernel⟩
theorem in_X0_found : Cond.instanceMethod y_X0_found ∈ T0_ := mem_T0 642 (by decide +kernel) (by decide +kernel)
theorem se_X0_found : Cond.selects "VirtualRewrite" y_X0_found y_X0_found ∈ T0_ := mem_T0 643 (by decide +kernel) (by decide +kernel)
theorem cd_X7_finders : ac_cd y_X7_finders prog_2_method_4_code 2 (some .int) 1 := ⟨mem_T0 648 (by decide +kernel) (by decide +kernel), mem_T0 43 (by decide +kernel) (by decide +kernel), by decide, by decide, by decide +kernel⟩
theorem in_X7_finders : Cond.instanceMethod y_X7_finders ∈ T0_ := mem_T0 646 (by decide +kernel) (by decide +kernel)
theorem se_X7_finders : Cond.selects "VirtualRewrite$Answers" y_X7_finders y_X7_finders ∈ T0_ := mem_T0 647 (by decide +kernel) (by decide +kernel)
theorem cd_X7_firstFinder : ac_cd y_X7_firstFinder prog_2_method_5_code 2 (some .int) 1 := ⟨mem_T0 652 (by decide +kernel) (by decide +kernel), mem_T0 43 (by decide +kernel) (by decide +kernel), by decide, by decide, by decide +kernel⟩
theorem in_X7_firstFinder : Cond.instanceMethod y_X7_firstFinder ∈ T0_ := mem_T0 650 (by decide +kernel) (by decide +kernel)
theorem se_X7_firstFinder : Cond.selects "VirtualRewrite$Answers" y_X7_firstFinder y_X7_firstFinder ∈ T0_ := mem_T0 651 (by decide +kernel) (by decide +kernel)
theorem cd_X0_value : ac_cd y_X0_value prog_1_method_14_code 3 (some .int) 2 := ⟨mem_T0 660 (by decide +kernel) (by decide +kernel), mem_T0 36 (by decide +kernel) (by decide +kernel), by decide, by decide, by decide +kernel⟩
theorem in_X0_value : Cond.instanceMethod y_X0_value ∈ T0_ := mem_T0 658 (by decide +kernel) (by decide +kernel)
theorem se_X0_value : Cond.selects "VirtualRewrite" y_X0_value y_X0_value ∈ T0_ := mem_T0 659 (by decide +kernel) (by decide +kernel)
theorem oi_code : Cond.code objectInit ⟨#[0xb1]⟩ 1 none ∈ T0_ := mem_T0 60 (by decide +kernel) (by decide +kernel)
theorem oi_inst : Cond.instanceMethod objectInit ∈ T0_ := mem_T0 59 (by decide +kernel) (by decide +kernel)
theorem sc_nat : Cond.native arraycopyName ∈ T0_ := mem_T0 374 (by decide +kernel) (by decide +kernel)
theorem sc_stat : Cond.static arraycopyName ∈ T0_ := mem_T0 373 (by decide +kernel) (by decide +kernel)
theorem sc_ini : Cond.initialized "java/lang/System" ∈ T0_ := mem_T0 46 (by decide +kernel) (by decide +kernel)
theorem ka_I : Cond.arrayClass .int ∈ T0_ := mem_T0 93 (by decide +kernel) (by decide +kernel)
theorem ka_Z : Cond.arrayClass .boolean ∈ T0_ := mem_T0 94 (by decide +kernel) (by decide +kernel)
theorem ka_J : Cond.arrayClass .long ∈ T0_ := mem_T0 92 (by decide +kernel) (by decide +kernel)
theorem oi_X2_3 : Cond.methodLink "VirtualRewrite$Table" 3 objectInit ∈ T0_ := mem_T0 75 (by decide +kernel) (by decide +kernel)
theorem fp_X2_9 : ac_fp "VirtualRewrite$Table" 9 2 0 (.array .int) true := ⟨_, _, _, t_X2, rfl, uw_X2, by decide, mem_T0 76 (by decide +kernel) (by decide +kernel), ty_X2, nm_X2, rfl, by decide +kernel, fun _ => rfl⟩
theorem fp_X2_15 : ac_fp "VirtualRewrite$Table" 15 2 1 (.array .boolean) true := ⟨_, _, _, t_X2, rfl, uw_X2, by decide, mem_T0 77 (by decide +kernel) (by decide +kernel), ty_X2, nm_X2, rfl, by decide +kernel, fun _ => rfl⟩
theorem fp_X2_19 : ac_fp "VirtualRewrite$Table" 19 2 2 .int false := ⟨_, _, _, t_X2, rfl, uw_X2, by decide, mem_T0 80 (by decide +kernel) (by decide +kernel), ty_X2, nm_X2, rfl, by decide +kernel, fun h => by cases h⟩
theorem oi_X3_3 : Cond.methodLink "VirtualRewrite$Mapping" 3 objectInit ∈ T0_ := mem_T0 99 (by decide +kernel) (by decide +kernel)
theorem fp_X3_9 : ac_fp "VirtualRewrite$Mapping" 9 3 0 (.array .int) true := ⟨_, _, _, t_X3, rfl, uw_X3, by decide, mem_T0 100 (by decide +kernel) (by decide +kernel), ty_X3, nm_X3, rfl, by decide +kernel, fun _ => rfl⟩
theorem fp_X3_15 : ac_fp "VirtualRewrite$Mapping" 15 3 1 (.array .int) true := ⟨_, _, _, t_X3, rfl, uw_X3, by decide, mem_T0 104 (by decide +kernel) (by decide +kernel), ty_X3, nm_X3, rfl, by decide +kernel, fun _ => rfl⟩
theorem fp_X3_18 : ac_fp "VirtualRewrite$Mapping" 18 3 2 .int false := ⟨_, _, _, t_X3, rfl, uw_X3, by decide, mem_T0 108 (by decide +kernel) (by decide +kernel), ty_X3, nm_X3, rfl, by decide +kernel, fun h => by cases h⟩
theorem fp_X3_22 : ac_fp "VirtualRewrite$Mapping" 22 3 3 .int false := ⟨_, _, _, t_X3, rfl, uw_X3, by decide, mem_T0 112 (by decide +kernel) (by decide +kernel), ty_X3, nm_X3, rfl, by decide +kernel, fun h => by cases h⟩
theorem oi_X4_3 : Cond.methodLink "VirtualRewrite$Question" 3 objectInit ∈ T0_ := mem_T0 151 (by decide +kernel) (by decide +kernel)
theorem fp_X4_9 : ac_fp "VirtualRewrite$Question" 9 4 0 (.array .int) true := ⟨_, _, _, t_X4, rfl, uw_X4, by decide, mem_T0 152 (by decide +kernel) (by decide +kernel), ty_X4, nm_X4, rfl, by decide +kernel, fun _ => rfl⟩
theorem fp_X4_15 : ac_fp "VirtualRewrite$Question" 15 4 1 (.array .int) true := ⟨_, _, _, t_X4, rfl, uw_X4, by decide, mem_T0 154 (by decide +kernel) (by decide +kernel), ty_X4, nm_X4, rfl, by decide +kernel, fun _ => rfl⟩
theorem fp_X4_18 : ac_fp "VirtualRewrite$Question" 18 4 2 (.array .int) true := ⟨_, _, _, t_X4, rfl, uw_X4, by decide, mem_T0 155 (by decide +kernel) (by decide +kernel), ty_X4, nm_X4, rfl, by decide +kernel, fun _ => rfl⟩
theorem fp_X4_21 : ac_fp "VirtualRewrite$Question" 21 4 3 (.array .int) true := ⟨_, _, _, t_X4, rfl, uw_X4, by decide, mem_T0 156 (by decide +kernel) (by decide +kernel), ty_X4, nm_X4, rfl, by decide +kernel, fun _ => rfl⟩
theorem fp_X4_24 : ac_fp "VirtualRewrite$Question" 24 4 4 .int false := ⟨_, _, _, t_X4, rfl, uw_X4, by decide, mem_T0 157 (by decide +kernel) (by decide +kernel), ty_X4, nm_X4, rfl, by decide +kernel, fun h => by cases h⟩
theorem fp_X4_28 : ac_fp "VirtualRewrite$Question" 28 4 5 .int false := ⟨_, _, _, t_X4, rfl, uw_X4, by decide, mem_T0 162 (by decide +kernel) (by decide +kernel), ty_X4, nm_X4, rfl, by decide +kernel, fun h => by cases h⟩
theorem fl_X4_21 : ac_fl "VirtualRewrite$Question" 21 4 3 := ⟨_, _, _, rfl, uw_X4, by decide, mem_T0 156 (by decide +kernel) (by decide +kernel)⟩
theorem oi_X5_3 : Cond.methodLink "VirtualRewrite$Rewriting" 3 objectInit ∈ T0_ := mem_T0 182 (by decide +kernel) (by decide +kernel)
theorem fp_X5_9 : ac_fp "VirtualRewrite$Rewriting" 9 5 2 (.array .int) true := ⟨_, _, _, t_X5, rfl, uw_X5, by decide, mem_T0 185 (by decide +kernel) (by decide +kernel), ty_X5, nm_X5, rfl, by decide +kernel, fun _ => rfl⟩
theorem fp_X5_15 : ac_fp "VirtualRewrite$Rewriting" 15 5 3 (.array .int) true := ⟨_, _, _, t_X5, rfl, uw_X5, by decide, mem_T0 186 (by decide +kernel) (by decide +kernel), ty_X5, nm_X5, rfl, by decide +kernel, fun _ => rfl⟩
theorem fp_X5_18 : ac_fp "VirtualRewrite$Rewriting" 18 5 4 (.array .int) true := ⟨_, _, _, t_X5, rfl, uw_X5, by decide, mem_T0 187 (by decide +kernel) (by decide +kernel), ty_X5, nm_X5, rfl, by decide +kernel, fun _ => rfl⟩
theorem fp_X5_21 : ac_fp "VirtualRewrite$Rewriting" 21 5 5 .int false := ⟨_, _, _, t_X5, rfl, uw_X5, by decide, mem_T0 188 (by decide +kernel) (by decide +kernel), ty_X5, nm_X5, rfl, by decide +kernel, fun h => by cases h⟩
theorem fp_X5_25 : ac_fp "VirtualRewrite$Rewriting" 25 5 6 .boolean false := ⟨_, _, _, t_X5, rfl, uw_X5, by decide, mem_T0 190 (by decide +kernel) (by decide +kernel), ty_X5, nm_X5, rfl, by decide +kernel, fun h => by cases h⟩
theorem fp_X5_29 : ac_fp "VirtualRewrite$Rewriting" 29 5 7 .boolean false := ⟨_, _, _, t_X5, rfl, uw_X5, by decide, mem_T0 192 (by decide +kernel) (by decide +kernel), ty_X5, nm_X5, rfl, by decide +kernel, fun h => by cases h⟩
theorem fp_X5_32 : ac_fp "VirtualRewrite$Rewriting" 32 5 0 (.object "VirtualRewrite$Catalog") true := ⟨_, _, _, t_X5, rfl, uw_X5, by decide, mem_T0 183 (by decide +kernel) (by decide +kernel), ty_X5, nm_X5, rfl, by decide +kernel, fun _ => rfl⟩
theorem fp_X5_36 : ac_fp "VirtualRewrite$Rewriting" 36 5 1 (.object "VirtualRewrite$Question") true := ⟨_, _, _, t_X5, rfl, uw_X5, by decide, mem_T0 184 (by decide +kernel) (by decide +kernel), ty_X5, nm_X5, rfl, by decide +kernel, fun _ => rfl⟩
theorem oi_X6_3 : Cond.methodLink "VirtualRewrite$Slots" 3 objectInit ∈ T0_ := mem_T0 215 (by decide +kernel) (by decide +kernel)
theorem fp_X6_9 : ac_fp "VirtualRewrite$Slots" 9 6 3 (.array .int) true := ⟨_, _, _, t_X6, rfl, uw_X6, by decide, mem_T0 219 (by decide +kernel) (by decide +kernel), ty_X6, nm_X6, rfl, by decide +kernel, fun _ => rfl⟩
theorem fp_X6_15 : ac_fp "VirtualRewrite$Slots" 15 6 4 .int false := ⟨_, _, _, t_X6, rfl, uw_X6, by decide, mem_T0 222 (by decide +kernel) (by decide +kernel), ty_X6, nm_X6, rfl, by decide +kernel, fun h => by cases h⟩
theorem fp_X6_19 : ac_fp "VirtualRewrite$Slots" 19 6 0 (.object "VirtualRewrite$Catalog") true := ⟨_, _, _, t_X6, rfl, uw_X6, by decide, mem_T0 216 (by decide +kernel) (by decide +kernel), ty_X6, nm_X6, rfl, by decide +kernel, fun _ => rfl⟩
theorem fp_X6_23 : ac_fp "VirtualRewrite$Slots" 23 6 1 (.object "VirtualRewrite$Question") true := ⟨_, _, _, t_X6, rfl, uw_X6, by decide, mem_T0 217 (by decide +kernel) (by decide +kernel), ty_X6, nm_X6, rfl, by decide +kernel, fun _ => rfl⟩
theorem fp_X6_27 : ac_fp "VirtualRewrite$Slots" 27 6 2 (.object "VirtualRewrite$Rewriting") true := ⟨_, _, _, t_X6, rfl, uw_X6, by decide, mem_T0 218 (by decide +kernel) (by decide +kernel), ty_X6, nm_X6, rfl, by decide +kernel, fun _ => rfl⟩
theorem oi_X7_3 : Cond.methodLink "VirtualRewrite$Answers" 3 objectInit ∈ T0_ := mem_T0 241 (by decide +kernel) (by decide +kernel)
theorem fp_X7_9 : ac_fp "VirtualRewrite$Answers" 9 7 0 (.array .int) true := ⟨_, _, _, t_X7, rfl, uw_X7, by decide, mem_T0 242 (by decide +kernel) (by decide +kernel), ty_X7, nm_X7, rfl, by decide +kernel, fun _ => rfl⟩
theorem fp_X7_15 : ac_fp "VirtualRewrite$Answers" 15 7 1 (.array .int) true := ⟨_, _, _, t_X7, rfl, uw_X7, by decide, mem_T0 243 (by decide +kernel) (by decide +kernel), ty_X7, nm_X7, rfl, by decide +kernel, fun _ => rfl⟩
theorem fp_X7_18 : ac_fp "VirtualRewrite$Answers" 18 7 2 (.array .int) true := ⟨_, _, _, t_X7, rfl, uw_X7, by decide, mem_T0 244 (by decide +kernel) (by decide +kernel), ty_X7, nm_X7, rfl, by decide +kernel, fun _ => rfl⟩
theorem fp_X7_21 : ac_fp "VirtualRewrite$Answers" 21 7 3 (.array .int) true := ⟨_, _, _, t_X7, rfl, uw_X7, by decide, mem_T0 245 (by decide +kernel) (by decide +kernel), ty_X7, nm_X7, rfl, by decide +kernel, fun _ => rfl⟩
theorem fp_X7_24 : ac_fp "VirtualRewrite$Answers" 24 7 4 .int false := ⟨_, _, _, t_X7, rfl, uw_X7, by decide, mem_T0 246 (by decide +kernel) (by decide +kernel), ty_X7, nm_X7, rfl, by decide +kernel, fun h => by cases h⟩
theorem fp_X7_28 : ac_fp "VirtualRewrite$Answers" 28 7 5 .int false := ⟨_, _, _, t_X7, rfl, uw_X7, by decide, mem_T0 248 (by decide +kernel) (by decide +kernel), ty_X7, nm_X7, rfl, by decide +kernel, fun h => by cases h⟩
theorem fp_X7_31 : ac_fp "VirtualRewrite$Answers" 31 7 6 .boolean false := ⟨_, _, _, t_X7, rfl, uw_X7, by decide, mem_T0 250 (by decide +kernel) (by decide +kernel), ty_X7, nm_X7, rfl, by decide +kernel, fun h => by cases h⟩
theorem oi_X8_3 : Cond.methodLink "VirtualRewrite$Finder" 3 objectInit ∈ T0_ := mem_T0 273 (by decide +kernel) (by decide +kernel)
theorem fp_X8_9 : ac_fp "VirtualRewrite$Finder" 9 8 4 (.array .int) true := ⟨_, _, _, t_X8, rfl, uw_X8, by decide, mem_T0 278 (by decide +kernel) (by decide +kernel), ty_X8, nm_X8, rfl, by decide +kernel, fun _ => rfl⟩
theorem fp_X8_15 : ac_fp "VirtualRewrite$Finder" 15 8 5 (.array .int) true := ⟨_, _, _, t_X8, rfl, uw_X8, by decide, mem_T0 279 (by decide +kernel) (by decide +kernel), ty_X8, nm_X8, rfl, by decide +kernel, fun _ => rfl⟩
theorem fp_X8_18 : ac_fp "VirtualRewrite$Finder" 18 8 6 (.array .int) true := ⟨_, _, _, t_X8, rfl, uw_X8, by decide, mem_T0 280 (by decide +kernel) (by decide +kernel), ty_X8, nm_X8, rfl, by decide +kernel, fun _ => rfl⟩
theorem fp_X8_21 : ac_fp "VirtualRewrite$Finder" 21 8 7 (.array .int) true := ⟨_, _, _, t_X8, rfl, uw_X8, by decide, mem_T0 281 (by decide +kernel) (by decide +kernel), ty_X8, nm_X8, rfl, by decide +kernel, fun _ => rfl⟩
theorem fp_X8_24 : ac_fp "VirtualRewrite$Finder" 24 8 8 (.array .int) true := ⟨_, _, _, t_X8, rfl, uw_X8, by decide, mem_T0 282 (by decide +kernel) (by decide +kernel), ty_X8, nm_X8, rfl, by decide +kernel, fun _ => rfl⟩
theorem fp_X8_27 : ac_fp "VirtualRewrite$Finder" 27 8 9 (.array .int) true := ⟨_, _, _, t_X8, rfl, uw_X8, by decide, mem_T0 283 (by decide +kernel) (by decide +kernel), ty_X8, nm_X8, rfl, by decide +kernel, fun _ => rfl⟩
theorem fp_X8_30 : ac_fp "VirtualRewrite$Finder" 30 8 10 (.array .int) true := ⟨_, _, _, t_X8, rfl, uw_X8, by decide, mem_T0 284 (by decide +kernel) (by decide +kernel), ty_X8, nm_X8, rfl, by decide +kernel, fun _ => rfl⟩
theorem fp_X8_33 : ac_fp "VirtualRewrite$Finder" 33 8 11 (.array .int) true := ⟨_, _, _, t_X8, rfl, uw_X8, by decide, mem_T0 285 (by decide +kernel) (by decide +kernel), ty_X8, nm_X8, rfl, by decide +kernel, fun _ => rfl⟩
theorem fp_X8_36 : ac_fp "VirtualRewrite$Finder" 36 8 12 .int false := ⟨_, _, _, t_X8, rfl, uw_X8, by decide, mem_T0 286 (by decide +kernel) (by decide +kernel), ty_X8, nm_X8, rfl, by decide +kernel, fun h => by cases h⟩
theorem fp_X8_40 : ac_fp "VirtualRewrite$Finder" 40 8 0 (.object "VirtualRewrite$Question") true := ⟨_, _, _, t_X8, rfl, uw_X8, by decide, mem_T0 274 (by decide +kernel) (by decide +kernel), ty_X8, nm_X8, rfl, by decide +kernel, fun _ => rfl⟩
theorem fp_X8_44 : ac_fp "VirtualRewrite$Finder" 44 8 1 (.object "VirtualRewrite$Rewriting") true := ⟨_, _, _, t_X8, rfl, uw_X8, by decide, mem_T0 275 (by decide +kernel) (by decide +kernel), ty_X8, nm_X8, rfl, by decide +kernel, fun _ => rfl⟩
theorem fp_X8_48 : ac_fp "VirtualRewrite$Finder" 48 8 2 (.object "VirtualRewrite$Slots") true := ⟨_, _, _, t_X8, rfl, uw_X8, by decide, mem_T0 276 (by decide +kernel) (by decide +kernel), ty_X8, nm_X8, rfl, by decide +kernel, fun _ => rfl⟩
theorem fp_X8_52 : ac_fp "VirtualRewrite$Finder" 52 8 3 (.object "VirtualRewrite$Answers") true := ⟨_, _, _, t_X8, rfl, uw_X8, by decide, mem_T0 277 (by decide +kernel) (by decide +kernel), ty_X8, nm_X8, rfl, by decide +kernel, fun _ => rfl⟩
theorem fl_X2_9 : ac_fl "VirtualRewrite$Table" 9 2 0 := ⟨_, _, _, rfl, uw_X2, by decide, mem_T0 76 (by decide +kernel) (by decide +kernel)⟩
theorem fl_X2_19 : ac_fl "VirtualRewrite$Table" 19 2 2 := ⟨_, _, _, rfl, uw_X2, by decide, mem_T0 80 (by decide +kernel) (by decide +kernel)⟩
theorem sc_X2_31 : Cond.methodLink "VirtualRewrite$Table" 31 arraycopyName ∈ T0_ := mem_T0 372 (by decide +kernel) (by decide +kernel)
theorem fl_X3_9 : ac_fl "VirtualRewrite$Mapping" 9 3 0 := ⟨_, _, _, rfl, uw_X3, by decide, mem_T0 100 (by decide +kernel) (by decide +kernel)⟩
theorem fl_X3_15 : ac_fl "VirtualRewrite$Mapping" 15 3 1 := ⟨_, _, _, rfl, uw_X3, by decide, mem_T0 104 (by decide +kernel) (by decide +kernel)⟩
theorem fl_X1_11 : ac_fl "VirtualRewrite$Catalog" 11 1 0 := ⟨_, _, _, rfl, uw_X1, by decide, mem_T0 125 (by decide +kernel) (by decide +kernel)⟩
theorem fl_X1_36 : ac_fl "VirtualRewrite$Catalog" 36 3 2 := ⟨_, _, _, rfl, uw_X3, by decide, mem_T0 109 (by decide +kernel) (by decide +kernel)⟩
theorem fl_X1_31 : ac_fl "VirtualRewrite$Catalog" 31 1 4 := ⟨_, _, _, rfl, uw_X1, by decide, mem_T0 134 (by decide +kernel) (by decide +kernel)⟩
theorem fl_X1_23 : ac_fl "VirtualRewrite$Catalog" 23 1 2 := ⟨_, _, _, rfl, uw_X1, by decide, mem_T0 130 (by decide +kernel) (by decide +kernel)⟩
theorem sc_X1_68 : Cond.methodLink "VirtualRewrite$Catalog" 68 arraycopyName ∈ T0_ := mem_T0 409 (by decide +kernel) (by decide +kernel)
theorem fp_X1_31 : ac_fp "VirtualRewrite$Catalog" 31 1 4 .int false := ⟨_, _, _, t_X1, rfl, uw_X1, by decide, mem_T0 134 (by decide +kernel) (by decide +kernel), ty_X1, nm_X1, rfl, by decide +kernel, fun h => by cases h⟩
theorem kc_X0_193 : Jvm.Cond.constant "VirtualRewrite" 193 (60000) ∈ T0_ := mem_T0 417 (by decide +kernel) (by decide +kernel)
theorem fl_X4_9 : ac_fl "VirtualRewrite$Question" 9 4 0 := ⟨_, _, _, rfl, uw_X4, by decide, mem_T0 152 (by decide +kernel) (by decide +kernel)⟩
theorem fl_X4_24 : ac_fl "VirtualRewrite$Question" 24 4 4 := ⟨_, _, _, rfl, uw_X4, by decide, mem_T0 157 (by decide +kernel) (by decide +kernel)⟩
theorem fl_X4_15 : ac_fl "VirtualRewrite$Question" 15 4 1 := ⟨_, _, _, rfl, uw_X4, by decide, mem_T0 154 (by decide +kernel) (by decide +kernel)⟩
theorem fl_X4_18 : ac_fl "VirtualRewrite$Question" 18 4 2 := ⟨_, _, _, rfl, uw_X4, by decide, mem_T0 155 (by decide +kernel) (by decide +kernel)⟩
theorem fl_X5_21 : ac_fl "VirtualRewrite$Rewriting" 21 5 5 := ⟨_, _, _, rfl, uw_X5, by decide, mem_T0 188 (by decide +kernel) (by decide +kernel)⟩
theorem fl_X5_15 : ac_fl "VirtualRewrite$Rewriting" 15 5 3 := ⟨_, _, _, rfl, uw_X5, by decide, mem_T0 186 (by decide +kernel) (by decide +kernel)⟩
theorem fl_X5_9 : ac_fl "VirtualRewrite$Rewriting" 9 5 2 := ⟨_, _, _, rfl, uw_X5, by decide, mem_T0 185 (by decide +kernel) (by decide +kernel)⟩
theorem sc_X5_83 : Cond.methodLink "VirtualRewrite$Rewriting" 83 arraycopyName ∈ T0_ := mem_T0 460 (by decide +kernel) (by decide +kernel)
theorem kc_JInteger_265 : Jvm.Cond.constant "java/lang/Integer" 265 (1431655765) ∈ T0_ := mem_T0 604 (by decide +kernel) (by decide +kernel)
theorem kc_JInteger_266 : Jvm.Cond.constant "java/lang/Integer" 266 (858993459) ∈ T0_ := mem_T0 605 (by decide +kernel) (by decide +kernel)
theorem kc_JInteger_267 : Jvm.Cond.constant "java/lang/Integer" 267 (252645135) ∈ T0_ := mem_T0 606 (by decide +kernel) (by decide +kernel)
theorem fl_X7_9 : ac_fl "VirtualRewrite$Answers" 9 7 0 := ⟨_, _, _, rfl, uw_X7, by decide, mem_T0 242 (by decide +kernel) (by decide +kernel)⟩
theorem fl_X7_15 : ac_fl "VirtualRewrite$Answers" 15 7 1 := ⟨_, _, _, rfl, uw_X7, by decide, mem_T0 243 (by decide +kernel) (by decide +kernel)⟩
theorem fl_X7_24 : ac_fl "VirtualRewrite$Answers" 24 7 4 := ⟨_, _, _, rfl, uw_X7, by decide, mem_T0 246 (by decide +kernel) (by decide +kernel)⟩
theorem sc_X7_47 : Cond.methodLink "VirtualRewrite$Answers" 47 arraycopyName ∈ T0_ := mem_T0 631 (by decide +kernel) (by decide +kernel)
theorem fl_X7_18 : ac_fl "VirtualRewrite$Answers" 18 7 2 := ⟨_, _, _, rfl, uw_X7, by decide, mem_T0 244 (by decide +kernel) (by decide +kernel)⟩
theorem fl_X7_21 : ac_fl "VirtualRewrite$Answers" 21 7 3 := ⟨_, _, _, rfl, uw_X7, by decide, mem_T0 245 (by decide +kernel) (by decide +kernel)⟩
theorem oi_X1_3 : Cond.methodLink "VirtualRewrite$Catalog" 3 objectInit ∈ T0_ := mem_T0 66 (by decide +kernel) (by decide +kernel)
theorem cq_X1_9 : Cond.classLink "VirtualRewrite$Catalog" 9 "VirtualRewrite$Table" ∈ T0_ := mem_T0 67 (by decide +kernel) (by decide +kernel)
theorem fp_X1_11 : ac_fp "VirtualRewrite$Catalog" 11 1 0 (.array (.object "VirtualRewrite$Table")) true := ⟨_, _, _, t_X1, rfl, uw_X1, by decide, mem_T0 125 (by decide +kernel) (by decide +kernel), ty_X1, nm_X1, rfl, by decide +kernel, fun _ => rfl⟩
theorem cq_X1_17 : Cond.classLink "VirtualRewrite$Catalog" 17 "VirtualRewrite$Mapping" ∈ T0_ := mem_T0 69 (by decide +kernel) (by decide +kernel)
theorem fp_X1_19 : ac_fp "VirtualRewrite$Catalog" 19 1 1 (.array (.object "VirtualRewrite$Mapping")) true := ⟨_, _, _, t_X1, rfl, uw_X1, by decide, mem_T0 127 (by decide +kernel) (by decide +kernel), ty_X1, nm_X1, rfl, by decide +kernel, fun _ => rfl⟩
theorem fp_X1_23 : ac_fp "VirtualRewrite$Catalog" 23 1 2 (.array .long) true := ⟨_, _, _, t_X1, rfl, uw_X1, by decide, mem_T0 130 (by decide +kernel) (by decide +kernel), ty_X1, nm_X1, rfl, by decide +kernel, fun _ => rfl⟩
theorem fp_X1_27 : ac_fp "VirtualRewrite$Catalog" 27 1 3 .int false := ⟨_, _, _, t_X1, rfl, uw_X1, by decide, mem_T0 131 (by decide +kernel) (by decide +kernel), ty_X1, nm_X1, rfl, by decide +kernel, fun h => by cases h⟩
theorem cn_X1_9 : ac_cn "VirtualRewrite$Catalog" 9 2 3 [.null, .null, .int 0] := ⟨_, _, t_X2, rfl, uw_X2, ty_X2, mem_T0 67 (by decide +kernel) (by decide +kernel), mem_T0 71 (by decide +kernel) (by decide +kernel), mem_T0 38 (by decide +kernel) (by decide +kernel), by decide +kernel⟩
theorem ml_X1_34 : ("VirtualRewrite$Catalog", 34, y_X2_init, "VirtualRewrite") ∈ NM_ := by decide +kernel
theorem fl_X1_19 : ac_fl "VirtualRewrite$Catalog" 19 1 1 := ⟨_, _, _, rfl, uw_X1, by decide, mem_T0 127 (by decide +kernel) (by decide +kernel)⟩
theorem cn_X1_17 : ac_cn "VirtualRewrite$Catalog" 17 3 4 [.null, .null, .int 0, .int 0] := ⟨_, _, t_X3, rfl, uw_X3, ty_X3, mem_T0 69 (by decide +kernel) (by decide +kernel), mem_T0 95 (by decide +kernel) (by decide +kernel), mem_T0 39 (by decide +kernel) (by decide +kernel), by decide +kernel⟩
theorem ml_X1_35 : ("VirtualRewrite$Catalog", 35, y_X3_init, "VirtualRewrite") ∈ NM_ := by decide +kernel
theorem ml_X2_23 : Cond.methodLink "VirtualRewrite$Table" 23 y_X2_cell ∈ T0_ := mem_T0 344 (by decide +kernel) (by decide +kernel)
theorem ml_X0_57 : Cond.methodLink "VirtualRewrite" 57 y_X0_isBelow ∈ T0_ := mem_T0 337 (by decide +kernel) (by decide +kernel)
theorem fl_X0_12 : ac_fl "VirtualRewrite" 12 0 0 := ⟨_, _, _, rfl, uw_X0, by decide, mem_T0 314 (by decide +kernel) (by decide +kernel)⟩
theorem fl_X0_61 : ac_fl "VirtualRewrite" 61 1 0 := ⟨_, _, _, rfl, uw_X1, by decide, mem_T0 126 (by decide +kernel) (by decide +kernel)⟩
theorem fl_X0_78 : ac_fl "VirtualRewrite" 78 2 2 := ⟨_, _, _, rfl, uw_X2, by decide, mem_T0 82 (by decide +kernel) (by decide +kernel)⟩
theorem ml_X0_86 : Cond.methodLink "VirtualRewrite" 86 y_X2_remove ∈ T0_ := mem_T0 368 (by decide +kernel) (by decide +kernel)
theorem fl_X0_90 : ac_fl "VirtualRewrite" 90 1 3 := ⟨_, _, _, rfl, uw_X1, by decide, mem_T0 132 (by decide +kernel) (by decide +kernel)⟩
theorem fl_X0_91 : ac_fl "VirtualRewrite" 91 1 1 := ⟨_, _, _, rfl, uw_X1, by decide, mem_T0 129 (by decide +kernel) (by decide +kernel)⟩
theorem fp_X0_95 : ac_fp "VirtualRewrite" 95 3 2 .int false := ⟨_, _, _, t_X3, rfl, uw_X3, by decide, mem_T0 111 (by decide +kernel) (by decide +kernel), ty_X3, nm_X3, rfl, by decide +kernel, fun h => by cases h⟩
theorem fp_X0_100 : ac_fp "VirtualRewrite" 100 3 3 .int false := ⟨_, _, _, t_X3, rfl, uw_X3, by decide, mem_T0 114 (by decide +kernel) (by decide +kernel), ty_X3, nm_X3, rfl, by decide +kernel, fun h => by cases h⟩
theorem ml_X0_103 : Cond.methodLink "VirtualRewrite" 103 y_X3_describe ∈ T0_ := mem_T0 379 (by decide +kernel) (by decide +kernel)
theorem fp_X0_90 : ac_fp "VirtualRewrite" 90 1 3 .int false := ⟨_, _, _, t_X1, rfl, uw_X1, by decide, mem_T0 132 (by decide +kernel) (by decide +kernel), ty_X1, nm_X1, rfl, by decide +kernel, fun h => by cases h⟩
theorem fl_X0_28 : ac_fl "VirtualRewrite" 28 0 2 := ⟨_, _, _, rfl, uw_X0, by decide, mem_T0 316 (by decide +kernel) (by decide +kernel)⟩
theorem ml_X0_106 : Cond.methodLink "VirtualRewrite" 106 y_X5_forget ∈ T0_ := mem_T0 383 (by decide +kernel) (by decide +kernel)
theorem fl_X1_52 : ac_fl "VirtualRewrite$Catalog" 52 3 3 := ⟨_, _, _, rfl, uw_X3, by decide, mem_T0 113 (by decide +kernel) (by decide +kernel)⟩
theorem ml_X1_39 : Cond.methodLink "VirtualRewrite$Catalog" 39 y_X1_tableOf ∈ T0_ := mem_T0 395 (by decide +kernel) (by decide +kernel)
theorem fl_X1_55 : ac_fl "VirtualRewrite$Catalog" 55 3 1 := ⟨_, _, _, rfl, uw_X3, by decide, mem_T0 105 (by decide +kernel) (by decide +kernel)⟩
theorem ml_X1_59 : Cond.methodLink "VirtualRewrite$Catalog" 59 y_X2_cell ∈ T0_ := mem_T0 403 (by decide +kernel) (by decide +kernel)
theorem kl_X1_63 : Jvm.Cond.constantLong "VirtualRewrite$Catalog" 63 (60000) ∈ T0_ := mem_T0 404 (by decide +kernel) (by decide +kernel)
theorem fl_X1_65 : ac_fl "VirtualRewrite$Catalog" 65 3 0 := ⟨_, _, _, rfl, uw_X3, by decide, mem_T0 101 (by decide +kernel) (by decide +kernel)⟩
theorem ml_X0_113 : Cond.methodLink "VirtualRewrite" 113 y_X0_isPlace ∈ T0_ := mem_T0 414 (by decide +kernel) (by decide +kernel)
theorem fl_X0_19 : ac_fl "VirtualRewrite" 19 0 1 := ⟨_, _, _, rfl, uw_X0, by decide, mem_T0 315 (by decide +kernel) (by decide +kernel)⟩
theorem fl_X0_116 : ac_fl "VirtualRewrite" 116 4 4 := ⟨_, _, _, rfl, uw_X4, by decide, mem_T0 161 (by decide +kernel) (by decide +kernel)⟩
theorem ml_X0_119 : Cond.methodLink "VirtualRewrite" 119 y_X4_append ∈ T0_ := mem_T0 418 (by decide +kernel) (by decide +kernel)
theorem ml_X4_31 : Cond.methodLink "VirtualRewrite$Question" 31 y_JMath_max ∈ T0_ := mem_T0 430 (by decide +kernel) (by decide +kernel)
theorem ml_X4_37 : Cond.methodLink "VirtualRewrite$Question" 37 y_JMath_min ∈ T0_ := mem_T0 433 (by decide +kernel) (by decide +kernel)
theorem fl_X4_28 : ac_fl "VirtualRewrite$Question" 28 4 5 := ⟨_, _, _, rfl, uw_X4, by decide, mem_T0 162 (by decide +kernel) (by decide +kernel)⟩
theorem ml_X0_126 : Cond.methodLink "VirtualRewrite" 126 y_X4_reset ∈ T0_ := mem_T0 440 (by decide +kernel) (by decide +kernel)
theorem fl_X5_36 : ac_fl "VirtualRewrite$Rewriting" 36 5 1 := ⟨_, _, _, rfl, uw_X5, by decide, mem_T0 184 (by decide +kernel) (by decide +kernel)⟩
theorem ml_X5_89 : Cond.methodLink "VirtualRewrite$Rewriting" 89 y_X4_told ∈ T0_ := mem_T0 465 (by decide +kernel) (by decide +kernel)
theorem fl_X5_92 : ac_fl "VirtualRewrite$Rewriting" 92 3 0 := ⟨_, _, _, rfl, uw_X3, by decide, mem_T0 103 (by decide +kernel) (by decide +kernel)⟩
theorem ml_X5_93 : ("VirtualRewrite$Rewriting", 93, y_X0_isVariable, "VirtualRewrite") ∈ NM_ := by decide +kernel
theorem ml_X5_97 : ("VirtualRewrite$Rewriting", 97, y_X0_variableOf, "VirtualRewrite") ∈ NM_ := by decide +kernel
theorem ml_X5_101 : ("VirtualRewrite$Rewriting", 101, y_X0_has, "VirtualRewrite") ∈ NM_ := by decide +kernel
theorem fl_X5_18 : ac_fl "VirtualRewrite$Rewriting" 18 5 4 := ⟨_, _, _, rfl, uw_X5, by decide, mem_T0 187 (by decide +kernel) (by decide +kernel)⟩
theorem ml_X5_105 : ("VirtualRewrite$Rewriting", 105, y_X0_with, "VirtualRewrite") ∈ NM_ := by decide +kernel
theorem fl_X5_32 : ac_fl "VirtualRewrite$Rewriting" 32 5 0 := ⟨_, _, _, rfl, uw_X5, by decide, mem_T0 183 (by decide +kernel) (by decide +kernel)⟩
theorem fl_X5_40 : ac_fl "VirtualRewrite$Rewriting" 40 1 1 := ⟨_, _, _, rfl, uw_X1, by decide, mem_T0 128 (by decide +kernel) (by decide +kernel)⟩
theorem ml_X5_46 : Cond.methodLink "VirtualRewrite$Rewriting" 46 y_X5_chosen ∈ T0_ := mem_T0 513 (by decide +kernel) (by decide +kernel)
theorem ml_X4_40 : ("VirtualRewrite$Question", 40, y_X0_isVariable, "VirtualRewrite") ∈ NM_ := by decide +kernel
theorem ml_X4_44 : ("VirtualRewrite$Question", 44, y_X0_variableOf, "VirtualRewrite") ∈ NM_ := by decide +kernel
theorem ml_X4_48 : ("VirtualRewrite$Question", 48, y_X0_with, "VirtualRewrite") ∈ NM_ := by decide +kernel
theorem fl_X8_18 : ac_fl "VirtualRewrite$Finder" 18 8 6 := ⟨_, _, _, rfl, uw_X8, by decide, mem_T0 280 (by decide +kernel) (by decide +kernel)⟩
theorem ml_X8_137 : Cond.methodLink "VirtualRewrite$Finder" 137 y_X2_cell ∈ T0_ := mem_T0 580 (by decide +kernel) (by decide +kernel)
theorem fl_X8_15 : ac_fl "VirtualRewrite$Finder" 15 8 5 := ⟨_, _, _, rfl, uw_X8, by decide, mem_T0 279 (by decide +kernel) (by decide +kernel)⟩
theorem ml_X8_151 : Cond.methodLink "VirtualRewrite$Finder" 151 y_JInteger_bitCount ∈ T0_ := mem_T0 601 (by decide +kernel) (by decide +kernel)
theorem fl_X8_24 : ac_fl "VirtualRewrite$Finder" 24 8 8 := ⟨_, _, _, rfl, uw_X8, by decide, mem_T0 282 (by decide +kernel) (by decide +kernel)⟩
theorem ml_X7_53 : Cond.methodLink "VirtualRewrite$Answers" 53 y_X7_code ∈ T0_ := mem_T0 623 (by decide +kernel) (by decide +kernel)
theorem ml_X8_173 : ("VirtualRewrite$Finder", 173, y_X0_has, "VirtualRewrite") ∈ NM_ := by decide +kernel
theorem fl_X8_33 : ac_fl "VirtualRewrite$Finder" 33 8 11 := ⟨_, _, _, rfl, uw_X8, by decide, mem_T0 285 (by decide +kernel) (by decide +kernel)⟩
theorem fl_X8_30 : ac_fl "VirtualRewrite$Finder" 30 8 10 := ⟨_, _, _, rfl, uw_X8, by decide, mem_T0 284 (by decide +kernel) (by decide +kernel)⟩
theorem fl_X0_44 : ac_fl "VirtualRewrite" 44 0 4 := ⟨_, _, _, rfl, uw_X0, by decide, mem_T0 318 (by decide +kernel) (by decide +kernel)⟩
theorem fl_X0_171 : ac_fl "VirtualRewrite" 171 7 4 := ⟨_, _, _, rfl, uw_X7, by decide, mem_T0 247 (by decide +kernel) (by decide +kernel)⟩
theorem ml_X0_190 : Cond.methodLink "VirtualRewrite" 190 y_X7_firstFinder ∈ T0_ := mem_T0 649 (by decide +kernel) (by decide +kernel)
theorem ml_X0_187 : Cond.methodLink "VirtualRewrite" 187 y_X7_finders ∈ T0_ := mem_T0 645 (by decide +kernel) (by decide +kernel)
theorem fl_X0_172 : ac_fl "VirtualRewrite" 172 7 5 := ⟨_, _, _, rfl, uw_X7, by decide, mem_T0 249 (by decide +kernel) (by decide +kernel)⟩
theorem ml_X0_174 : Cond.methodLink "VirtualRewrite" 174 y_X0_has ∈ T0_ := mem_T0 661 (by decide +kernel) (by decide +kernel)
theorem ml_X0_184 : Cond.methodLink "VirtualRewrite" 184 y_X7_code ∈ T0_ := mem_T0 728 (by decide +kernel) (by decide +kernel)
theorem oi_X0_3 : Cond.methodLink "VirtualRewrite" 3 objectInit ∈ T0_ := mem_T0 58 (by decide +kernel) (by decide +kernel)
theorem cn_X0_9 : ac_cn "VirtualRewrite" 9 1 5 [.null, .null, .null, .int 0, .int 0] := ⟨_, _, t_X1, rfl, uw_X1, ty_X1, mem_T0 61 (by decide +kernel) (by decide +kernel), mem_T0 62 (by decide +kernel) (by decide +kernel), mem_T0 37 (by decide +kernel) (by decide +kernel), by decide +kernel⟩
theorem ml_X0_11 : Cond.methodLink "VirtualRewrite" 11 y_X1_init ∈ T0_ := mem_T0 63 (by decide +kernel) (by decide +kernel)
theorem fp_X0_12 : ac_fp "VirtualRewrite" 12 0 0 (.object "VirtualRewrite$Catalog") true := ⟨_, _, _, t_X0, rfl, uw_X0, by decide, mem_T0 314 (by decide +kernel) (by decide +kernel), ty_X0, nm_X0, rfl, by decide +kernel, fun _ => rfl⟩
theorem cn_X0_16 : ac_cn "VirtualRewrite" 16 4 6 [.null, .null, .null, .null, .int 0, .int 0] := ⟨_, _, t_X4, rfl, uw_X4, ty_X4, mem_T0 146 (by decide +kernel) (by decide +kernel), mem_T0 147 (by decide +kernel) (by decide +kernel), mem_T0 40 (by decide +kernel) (by decide +kernel), by decide +kernel⟩
theorem ml_X0_18 : Cond.methodLink "VirtualRewrite" 18 y_X4_init ∈ T0_ := mem_T0 148 (by decide +kernel) (by decide +kernel)
theorem fp_X0_19 : ac_fp "VirtualRewrite" 19 0 1 (.object "VirtualRewrite$Question") true := ⟨_, _, _, t_X0, rfl, uw_X0, by decide, mem_T0 315 (by decide +kernel) (by decide +kernel), ty_X0, nm_X0, rfl, by decide +kernel, fun _ => rfl⟩
theorem cn_X0_23 : ac_cn "VirtualRewrite" 23 5 8 [.null, .null, .null, .null, .null, .int 0, .int 0, .int 0] := ⟨_, _, t_X5, rfl, uw_X5, ty_X5, mem_T0 177 (by decide +kernel) (by decide +kernel), mem_T0 178 (by decide +kernel) (by decide +kernel), mem_T0 41 (by decide +kernel) (by decide +kernel), by decide +kernel⟩
theorem ml_X0_25 : Cond.methodLink "VirtualRewrite" 25 y_X5_init ∈ T0_ := mem_T0 179 (by decide +kernel) (by decide +kernel)
theorem fp_X0_28 : ac_fp "VirtualRewrite" 28 0 2 (.object "VirtualRewrite$Rewriting") true := ⟨_, _, _, t_X0, rfl, uw_X0, by decide, mem_T0 316 (by decide +kernel) (by decide +kernel), ty_X0, nm_X0, rfl, by decide +kernel, fun _ => rfl⟩
theorem cn_X0_32 : ac_cn "VirtualRewrite" 32 6 5 [.null, .null, .null, .null, .int 0] := ⟨_, _, t_X6, rfl, uw_X6, ty_X6, mem_T0 210 (by decide +kernel) (by decide +kernel), mem_T0 211 (by decide +kernel) (by decide +kernel), mem_T0 42 (by decide +kernel) (by decide +kernel), by decide +kernel⟩
theorem ml_X0_34 : Cond.methodLink "VirtualRewrite" 34 y_X6_init ∈ T0_ := mem_T0 212 (by decide +kernel) (by decide +kernel)
theorem fp_X0_37 : ac_fp "VirtualRewrite" 37 0 3 (.object "VirtualRewrite$Slots") true := ⟨_, _, _, t_X0, rfl, uw_X0, by decide, mem_T0 317 (by decide +kernel) (by decide +kernel), ty_X0, nm_X0, rfl, by decide +kernel, fun _ => rfl⟩
theorem cn_X0_41 : ac_cn "VirtualRewrite" 41 7 7 [.null, .null, .null, .null, .int 0, .int 0, .int 0] := ⟨_, _, t_X7, rfl, uw_X7, ty_X7, mem_T0 236 (by decide +kernel) (by decide +kernel), mem_T0 237 (by decide +kernel) (by decide +kernel), mem_T0 43 (by decide +kernel) (by decide +kernel), by decide +kernel⟩
theorem ml_X0_43 : ("VirtualRewrite", 43, y_X7_init, "VirtualRewrite") ∈ NM_ := by decide +kernel
theorem fp_X0_44 : ac_fp "VirtualRewrite" 44 0 4 (.object "VirtualRewrite$Answers") true := ⟨_, _, _, t_X0, rfl, uw_X0, by decide, mem_T0 318 (by decide +kernel) (by decide +kernel), ty_X0, nm_X0, rfl, by decide +kernel, fun _ => rfl⟩
theorem cn_X0_48 : ac_cn "VirtualRewrite" 48 8 13 [.null, .null, .null, .null, .null, .null, .null, .null, .null, .null, .null, .null, .int 0] := ⟨_, _, t_X8, rfl, uw_X8, ty_X8, mem_T0 268 (by decide +kernel) (by decide +kernel), mem_T0 269 (by decide +kernel) (by decide +kernel), mem_T0 44 (by decide +kernel) (by decide +kernel), by decide +kernel⟩
theorem fl_X0_37 : ac_fl "VirtualRewrite" 37 0 3 := ⟨_, _, _, rfl, uw_X0, by decide, mem_T0 317 (by decide +kernel) (by decide +kernel)⟩
theorem ml_X0_50 : Cond.methodLink "VirtualRewrite" 50 y_X8_init ∈ T0_ := mem_T0 270 (by decide +kernel) (by decide +kernel)
theorem fp_X0_53 : ac_fp "VirtualRewrite" 53 0 5 (.object "VirtualRewrite$Finder") true := ⟨_, _, _, t_X0, rfl, uw_X0, by decide, mem_T0 319 (by decide +kernel) (by decide +kernel), ty_X0, nm_X0, rfl, by decide +kernel, fun _ => rfl⟩
theorem ml_X2_27 : Cond.methodLink "VirtualRewrite$Table" 27 y_X2_holds ∈ T0_ := mem_T0 348 (by decide +kernel) (by decide +kernel)
theorem fl_X2_15 : ac_fl "VirtualRewrite$Table" 15 2 1 := ⟨_, _, _, rfl, uw_X2, by decide, mem_T0 77 (by decide +kernel) (by decide +kernel)⟩
theorem fl_X1_27 : ac_fl "VirtualRewrite$Catalog" 27 1 3 := ⟨_, _, _, rfl, uw_X1, by decide, mem_T0 131 (by decide +kernel) (by decide +kernel)⟩
theorem fl_X1_43 : ac_fl "VirtualRewrite$Catalog" 43 2 2 := ⟨_, _, _, rfl, uw_X2, by decide, mem_T0 81 (by decide +kernel) (by decide +kernel)⟩
theorem ml_X1_44 : Cond.methodLink "VirtualRewrite$Catalog" 44 y_X1_packedTriple ∈ T0_ := mem_T0 399 (by decide +kernel) (by decide +kernel)
theorem ml_X1_48 : Cond.methodLink "VirtualRewrite$Catalog" 48 y_X1_keepTriple ∈ T0_ := mem_T0 405 (by decide +kernel) (by decide +kernel)
theorem fl_X0_120 : ac_fl "VirtualRewrite" 120 4 5 := ⟨_, _, _, rfl, uw_X4, by decide, mem_T0 163 (by decide +kernel) (by decide +kernel)⟩
theorem ml_X0_123 : Cond.methodLink "VirtualRewrite" 123 y_X4_narrow ∈ T0_ := mem_T0 426 (by decide +kernel) (by decide +kernel)
theorem fl_X5_62 : ac_fl "VirtualRewrite$Rewriting" 62 4 4 := ⟨_, _, _, rfl, uw_X4, by decide, mem_T0 160 (by decide +kernel) (by decide +kernel)⟩
theorem fl_X5_70 : ac_fl "VirtualRewrite$Rewriting" 70 1 3 := ⟨_, _, _, rfl, uw_X1, by decide, mem_T0 133 (by decide +kernel) (by decide +kernel)⟩
theorem fl_X5_25 : ac_fl "VirtualRewrite$Rewriting" 25 5 6 := ⟨_, _, _, rfl, uw_X5, by decide, mem_T0 190 (by decide +kernel) (by decide +kernel)⟩
theorem fl_X5_71 : ac_fl "VirtualRewrite$Rewriting" 71 3 3 := ⟨_, _, _, rfl, uw_X3, by decide, mem_T0 115 (by decide +kernel) (by decide +kernel)⟩
theorem fl_X5_76 : ac_fl "VirtualRewrite$Rewriting" 76 4 0 := ⟨_, _, _, rfl, uw_X4, by decide, mem_T0 153 (by decide +kernel) (by decide +kernel)⟩
theorem ml_X5_79 : Cond.methodLink "VirtualRewrite$Rewriting" 79 y_X5_settle ∈ T0_ := mem_T0 461 (by decide +kernel) (by decide +kernel)
theorem ml_X5_58 : Cond.methodLink "VirtualRewrite$Rewriting" 58 y_X5_extend ∈ T0_ := mem_T0 452 (by decide +kernel) (by decide +kernel)
theorem ml_X5_67 : Cond.methodLink "VirtualRewrite$Rewriting" 67 y_X5_keep ∈ T0_ := mem_T0 456 (by decide +kernel) (by decide +kernel)
theorem fl_X6_27 : ac_fl "VirtualRewrite$Slots" 27 6 2 := ⟨_, _, _, rfl, uw_X6, by decide, mem_T0 218 (by decide +kernel) (by decide +kernel)⟩
theorem ml_X6_44 : Cond.methodLink "VirtualRewrite$Slots" 44 y_X5_mappingOf ∈ T0_ := mem_T0 509 (by decide +kernel) (by decide +kernel)
theorem fl_X6_50 : ac_fl "VirtualRewrite$Slots" 50 3 2 := ⟨_, _, _, rfl, uw_X3, by decide, mem_T0 110 (by decide +kernel) (by decide +kernel)⟩
theorem fl_X6_19 : ac_fl "VirtualRewrite$Slots" 19 6 0 := ⟨_, _, _, rfl, uw_X6, by decide, mem_T0 216 (by decide +kernel) (by decide +kernel)⟩
theorem ml_X6_55 : Cond.methodLink "VirtualRewrite$Slots" 55 y_X1_tableOf ∈ T0_ := mem_T0 514 (by decide +kernel) (by decide +kernel)
theorem fl_X6_61 : ac_fl "VirtualRewrite$Slots" 61 2 1 := ⟨_, _, _, rfl, uw_X2, by decide, mem_T0 79 (by decide +kernel) (by decide +kernel)⟩
theorem fl_X6_67 : ac_fl "VirtualRewrite$Slots" 67 3 1 := ⟨_, _, _, rfl, uw_X3, by decide, mem_T0 107 (by decide +kernel) (by decide +kernel)⟩
theorem fl_X6_23 : ac_fl "VirtualRewrite$Slots" 23 6 1 := ⟨_, _, _, rfl, uw_X6, by decide, mem_T0 217 (by decide +kernel) (by decide +kernel)⟩
theorem ml_X6_70 : Cond.methodLink "VirtualRewrite$Slots" 70 y_X4_told ∈ T0_ := mem_T0 515 (by decide +kernel) (by decide +kernel)
theorem ml_X5_50 : Cond.methodLink "VirtualRewrite$Rewriting" 50 y_X5_mappingOf ∈ T0_ := mem_T0 528 (by decide +kernel) (by decide +kernel)
theorem ml_X5_54 : Cond.methodLink "VirtualRewrite$Rewriting" 54 y_X1_tableOf ∈ T0_ := mem_T0 529 (by decide +kernel) (by decide +kernel)
theorem fl_X8_40 : ac_fl "VirtualRewrite$Finder" 40 8 0 := ⟨_, _, _, rfl, uw_X8, by decide, mem_T0 274 (by decide +kernel) (by decide +kernel)⟩
theorem ml_X8_86 : Cond.methodLink "VirtualRewrite$Finder" 86 y_X4_told ∈ T0_ := mem_T0 554 (by decide +kernel) (by decide +kernel)
theorem ml_X8_97 : ("VirtualRewrite$Finder", 97, y_X0_variableOf, "VirtualRewrite") ∈ NM_ := by decide +kernel
theorem fl_X8_48 : ac_fl "VirtualRewrite$Finder" 48 8 2 := ⟨_, _, _, rfl, uw_X8, by decide, mem_T0 276 (by decide +kernel) (by decide +kernel)⟩
theorem fl_X8_83 : ac_fl "VirtualRewrite$Finder" 83 6 3 := ⟨_, _, _, rfl, uw_X6, by decide, mem_T0 220 (by decide +kernel) (by decide +kernel)⟩
theorem fl_X8_44 : ac_fl "VirtualRewrite$Finder" 44 8 1 := ⟨_, _, _, rfl, uw_X8, by decide, mem_T0 275 (by decide +kernel) (by decide +kernel)⟩
theorem fl_X8_36 : ac_fl "VirtualRewrite$Finder" 36 8 12 := ⟨_, _, _, rfl, uw_X8, by decide, mem_T0 286 (by decide +kernel) (by decide +kernel)⟩
theorem ml_X8_101 : Cond.methodLink "VirtualRewrite$Finder" 101 y_X5_mappingOf ∈ T0_ := mem_T0 561 (by decide +kernel) (by decide +kernel)
theorem fl_X8_107 : ac_fl "VirtualRewrite$Finder" 107 3 0 := ⟨_, _, _, rfl, uw_X3, by decide, mem_T0 102 (by decide +kernel) (by decide +kernel)⟩
theorem fl_X8_110 : ac_fl "VirtualRewrite$Finder" 110 3 1 := ⟨_, _, _, rfl, uw_X3, by decide, mem_T0 106 (by decide +kernel) (by decide +kernel)⟩
theorem ml_X8_111 : ("VirtualRewrite$Finder", 111, y_X0_with, "VirtualRewrite") ∈ NM_ := by decide +kernel
theorem ml_X8_89 : ("VirtualRewrite$Finder", 89, y_X0_isVariable, "VirtualRewrite") ∈ NM_ := by decide +kernel
theorem ml_X8_140 : Cond.methodLink "VirtualRewrite$Finder" 140 y_X4_allows ∈ T0_ := mem_T0 581 (by decide +kernel) (by decide +kernel)
theorem fl_X8_21 : ac_fl "VirtualRewrite$Finder" 21 8 7 := ⟨_, _, _, rfl, uw_X8, by decide, mem_T0 281 (by decide +kernel) (by decide +kernel)⟩
theorem ml_X8_144 : Cond.methodLink "VirtualRewrite$Finder" 144 y_X8_areAlike ∈ T0_ := mem_T0 589 (by decide +kernel) (by decide +kernel)
theorem fl_X8_65 : ac_fl "VirtualRewrite$Finder" 65 6 4 := ⟨_, _, _, rfl, uw_X6, by decide, mem_T0 223 (by decide +kernel) (by decide +kernel)⟩
theorem fl_X8_27 : ac_fl "VirtualRewrite$Finder" 27 8 9 := ⟨_, _, _, rfl, uw_X8, by decide, mem_T0 283 (by decide +kernel) (by decide +kernel)⟩
theorem ml_X8_147 : Cond.methodLink "VirtualRewrite$Finder" 147 y_X8_isBetter ∈ T0_ := mem_T0 597 (by decide +kernel) (by decide +kernel)
theorem ml_X7_39 : Cond.methodLink "VirtualRewrite$Answers" 39 y_X7_compare ∈ T0_ := mem_T0 619 (by decide +kernel) (by decide +kernel)
theorem fl_X0_65 : ac_fl "VirtualRewrite" 65 2 1 := ⟨_, _, _, rfl, uw_X2, by decide, mem_T0 78 (by decide +kernel) (by decide +kernel)⟩
theorem ml_X0_71 : Cond.methodLink "VirtualRewrite" 71 y_X2_repeats ∈ T0_ := mem_T0 340 (by decide +kernel) (by decide +kernel)
theorem ml_X0_75 : Cond.methodLink "VirtualRewrite" 75 y_X2_refuses ∈ T0_ := mem_T0 356 (by decide +kernel) (by decide +kernel)
theorem ml_X0_82 : Cond.methodLink "VirtualRewrite" 82 y_X2_append ∈ T0_ := mem_T0 360 (by decide +kernel) (by decide +kernel)
theorem ml_X0_109 : Cond.methodLink "VirtualRewrite" 109 y_X1_countTriples ∈ T0_ := mem_T0 391 (by decide +kernel) (by decide +kernel)
theorem ml_X6_40 : Cond.methodLink "VirtualRewrite$Slots" 40 y_X6_areOfOneRow ∈ T0_ := mem_T0 505 (by decide +kernel) (by decide +kernel)
theorem fl_X6_31 : ac_fl "VirtualRewrite$Slots" 31 4 4 := ⟨_, _, _, rfl, uw_X4, by decide, mem_T0 158 (by decide +kernel) (by decide +kernel)⟩
theorem fl_X6_9 : ac_fl "VirtualRewrite$Slots" 9 6 3 := ⟨_, _, _, rfl, uw_X6, by decide, mem_T0 219 (by decide +kernel) (by decide +kernel)⟩
theorem ml_X6_73 : Cond.methodLink "VirtualRewrite$Slots" 73 y_X5_tableOf ∈ T0_ := mem_T0 524 (by decide +kernel) (by decide +kernel)
theorem fl_X6_76 : ac_fl "VirtualRewrite$Slots" 76 2 2 := ⟨_, _, _, rfl, uw_X2, by decide, mem_T0 83 (by decide +kernel) (by decide +kernel)⟩
theorem fl_X8_78 : ac_fl "VirtualRewrite$Finder" 78 4 4 := ⟨_, _, _, rfl, uw_X4, by decide, mem_T0 159 (by decide +kernel) (by decide +kernel)⟩
theorem fl_X8_9 : ac_fl "VirtualRewrite$Finder" 9 8 4 := ⟨_, _, _, rfl, uw_X8, by decide, mem_T0 278 (by decide +kernel) (by decide +kernel)⟩
theorem ml_X8_93 : Cond.methodLink "VirtualRewrite$Finder" 93 y_X8_layOutVariable ∈ T0_ := mem_T0 556 (by decide +kernel) (by decide +kernel)
theorem ml_X8_114 : Cond.methodLink "VirtualRewrite$Finder" 114 y_X5_tableOf ∈ T0_ := mem_T0 571 (by decide +kernel) (by decide +kernel)
theorem ml_X8_134 : Cond.methodLink "VirtualRewrite$Finder" 134 y_X8_suitsAtom ∈ T0_ := mem_T0 576 (by decide +kernel) (by decide +kernel)
theorem ml_X7_35 : Cond.methodLink "VirtualRewrite$Answers" 35 y_X7_firstNotBefore ∈ T0_ := mem_T0 615 (by decide +kernel) (by decide +kernel)
theorem ml_X7_43 : Cond.methodLink "VirtualRewrite$Answers" 43 y_X7_insert ∈ T0_ := mem_T0 627 (by decide +kernel) (by decide +kernel)
theorem ml_X6_36 : Cond.methodLink "VirtualRewrite$Slots" 36 y_X6_leastOfOneRow ∈ T0_ := mem_T0 501 (by decide +kernel) (by decide +kernel)
theorem fl_X6_15 : ac_fl "VirtualRewrite$Slots" 15 6 4 := ⟨_, _, _, rfl, uw_X6, by decide, mem_T0 222 (by decide +kernel) (by decide +kernel)⟩
theorem ml_X8_118 : Cond.methodLink "VirtualRewrite$Finder" 118 y_X8_tableOf ∈ T0_ := mem_T0 567 (by decide +kernel) (by decide +kernel)
theorem fl_X8_121 : ac_fl "VirtualRewrite$Finder" 121 2 2 := ⟨_, _, _, rfl, uw_X2, by decide, mem_T0 84 (by decide +kernel) (by decide +kernel)⟩
theorem ml_X8_126 : Cond.methodLink "VirtualRewrite$Finder" 126 y_X8_suits ∈ T0_ := mem_T0 572 (by decide +kernel) (by decide +kernel)
theorem ml_X8_130 : Cond.methodLink "VirtualRewrite$Finder" 130 y_X8_isTold ∈ T0_ := mem_T0 585 (by decide +kernel) (by decide +kernel)
theorem fl_X8_52 : ac_fl "VirtualRewrite$Finder" 52 8 3 := ⟨_, _, _, rfl, uw_X8, by decide, mem_T0 277 (by decide +kernel) (by decide +kernel)⟩
theorem fl_X8_162 : ac_fl "VirtualRewrite$Finder" 162 7 6 := ⟨_, _, _, rfl, uw_X7, by decide, mem_T0 252 (by decide +kernel) (by decide +kernel)⟩
theorem ml_X8_166 : Cond.methodLink "VirtualRewrite$Finder" 166 y_X8_agrees ∈ T0_ := mem_T0 632 (by decide +kernel) (by decide +kernel)
theorem ml_X8_169 : Cond.methodLink "VirtualRewrite$Finder" 169 y_X8_settleVariables ∈ T0_ := mem_T0 637 (by decide +kernel) (by decide +kernel)
theorem ml_X8_74 : Cond.methodLink "VirtualRewrite$Finder" 74 y_X8_search ∈ T0_ := mem_T0 607 (by decide +kernel) (by decide +kernel)
theorem ml_X8_156 : Cond.methodLink "VirtualRewrite$Finder" 156 y_X7_take ∈ T0_ := mem_T0 611 (by decide +kernel) (by decide +kernel)
theorem fl_X5_29 : ac_fl "VirtualRewrite$Rewriting" 29 5 7 := ⟨_, _, _, rfl, uw_X5, by decide, mem_T0 192 (by decide +kernel) (by decide +kernel)⟩
theorem ml_X0_129 : Cond.methodLink "VirtualRewrite" 129 y_X5_refresh ∈ T0_ := mem_T0 448 (by decide +kernel) (by decide +kernel)
theorem fl_X0_132 : ac_fl "VirtualRewrite" 132 5 6 := ⟨_, _, _, rfl, uw_X5, by decide, mem_T0 191 (by decide +kernel) (by decide +kernel)⟩
theorem fl_X0_136 : ac_fl "VirtualRewrite" 136 5 5 := ⟨_, _, _, rfl, uw_X5, by decide, mem_T0 189 (by decide +kernel) (by decide +kernel)⟩
theorem ml_X0_137 : Cond.methodLink "VirtualRewrite" 137 y_X0_isAsked ∈ T0_ := mem_T0 485 (by decide +kernel) (by decide +kernel)
theorem ml_X0_140 : Cond.methodLink "VirtualRewrite" 140 y_X0_troubleWith ∈ T0_ := mem_T0 489 (by decide +kernel) (by decide +kernel)
theorem ml_X0_148 : Cond.methodLink "VirtualRewrite" 148 y_X6_assign ∈ T0_ := mem_T0 497 (by decide +kernel) (by decide +kernel)
theorem fl_X0_155 : ac_fl "VirtualRewrite" 155 6 4 := ⟨_, _, _, rfl, uw_X6, by decide, mem_T0 224 (by decide +kernel) (by decide +kernel)⟩
theorem fl_X0_151 : ac_fl "VirtualRewrite" 151 6 3 := ⟨_, _, _, rfl, uw_X6, by decide, mem_T0 221 (by decide +kernel) (by decide +kernel)⟩
theorem ml_X0_144 : Cond.methodLink "VirtualRewrite" 144 y_X5_chosen ∈ T0_ := mem_T0 493 (by decide +kernel) (by decide +kernel)
theorem ml_X0_158 : Cond.methodLink "VirtualRewrite" 158 y_X6_productOfRows ∈ T0_ := mem_T0 520 (by decide +kernel) (by decide +kernel)
theorem ml_X8_56 : Cond.methodLink "VirtualRewrite$Finder" 56 y_X6_assign ∈ T0_ := mem_T0 549 (by decide +kernel) (by decide +kernel)
theorem ml_X8_62 : Cond.methodLink "VirtualRewrite$Finder" 62 y_X8_layOut ∈ T0_ := mem_T0 550 (by decide +kernel) (by decide +kernel)
theorem ml_X8_68 : Cond.methodLink "VirtualRewrite$Finder" 68 y_X8_gatherRows ∈ T0_ := mem_T0 563 (by decide +kernel) (by decide +kernel)
theorem ml_X8_71 : Cond.methodLink "VirtualRewrite$Finder" 71 y_X8_orderSlots ∈ T0_ := mem_T0 593 (by decide +kernel) (by decide +kernel)
theorem ml_X0_161 : Cond.methodLink "VirtualRewrite" 161 y_X4_variables ∈ T0_ := mem_T0 534 (by decide +kernel) (by decide +kernel)
theorem ml_X0_164 : Cond.methodLink "VirtualRewrite" 164 y_X7_begin ∈ T0_ := mem_T0 541 (by decide +kernel) (by decide +kernel)
theorem fl_X0_167 : ac_fl "VirtualRewrite" 167 7 6 := ⟨_, _, _, rfl, uw_X7, by decide, mem_T0 251 (by decide +kernel) (by decide +kernel)⟩
theorem fl_X0_53 : ac_fl "VirtualRewrite" 53 0 5 := ⟨_, _, _, rfl, uw_X0, by decide, mem_T0 319 (by decide +kernel) (by decide +kernel)⟩
theorem ml_X0_168 : Cond.methodLink "VirtualRewrite" 168 y_X8_find ∈ T0_ := mem_T0 545 (by decide +kernel) (by decide +kernel)
theorem fp_X0_171 : ac_fp "VirtualRewrite" 171 7 4 .int false := ⟨_, _, _, t_X7, rfl, uw_X7, by decide, mem_T0 247 (by decide +kernel) (by decide +kernel), ty_X7, nm_X7, rfl, by decide +kernel, fun h => by cases h⟩
end
section
def wp_X2_init (ki : Nat → ClassId) (r0 : Nat) (f : ac_hp) (Q : ac_hp → Prop) : Prop := (0 + 1 ≤ 2 ∧ 0 + 60 ≤ 63) ∧ ∀ q1, f q1 = none → ∀ f2, f2 = ac_up f q1 (.inl (ki 0, 60, .inl (fun _ => 0))) → ∃ f3, hw_f f2 r0 2 0 (.ref q1) f3 ∧ (0 + 1 + 1 ≤ 2 ∧ 0 + 60 + 3 ≤ 63) ∧ ∀ q4, f3 q4 = none → ∀ f5, f5 = ac_up f3 q4 (.inl (ki 1, 3, .inl (fun _ => 0))) → ∃ f6, hw_f f5 r0 2 1 (.ref q4) f6 ∧ ∃ f7, hw_f f6 r0 2 2 (.int 0) f7 ∧ (0 + 1 + 1 ≤ 2 ∧ 0 + 60 + 3 ≤ 63) ∧ Q f7

set_option maxRecDepth 20000 in
set_option maxHeartbeats 4000000 in
theorem c_X2_init (l : Launch) (D : va_G) (ki : Nat → ClassId) (r0 : Nat) (f : ac_hp) (Q : ac_hp → Prop) (h : wp_X2_init ki r0 f Q) : ac_met l D ki y_X2_init prog_9_method_1_code 1 none (ro_ 1 2 63) [.ref r0] f (qr_V Q) 2 63 := by
  refine ac_enter (fun ki => wp_X2_init ki r0 f Q) (by decide) (Nat.le_of_ble_eq_true rfl) h ?_
  intro x hro hR hnm h
  unfold wp_X2_init at h
  refine ac_aload_n 0 d_X2_init_0 rfl rfl ?_
  refine ac_objInit oi_X2_3 oi_inst oi_code (by rw [hro]; decide) (by rw [hro]; decide) d_X2_init_1 ?_
  refine ac_aload_n 0 d_X2_init_4 rfl rfl ?_
  refine ac_bipush (v := 60) d_X2_init_5 rfl ?_
  have hk := h.1
  have h := h.2
  refine ac_newa (a0 := (60, .inl (fun _ => 0))) (t0 := 0) ka_I rfl rfl (fun _ => rfl) (by decide) (by decide) (by decide) (by rw [hro]; exact hk.1) (by rw [hro]; exact hk.2) d_X2_init_7 (fun q1 hq => ?_)
  have h := h q1 hq
  obtain ⟨f2, ef2⟩ : ∃ z, z = ac_up f q1 (.inl (ac_ki x 0, 60, .inl (fun _ => 0))) := ⟨_, rfl⟩
  have h := h f2 ef2
  rw [← ef2]
  obtain ⟨f3, hr, h⟩ := h
  refine ak_putF hr fp_X2_9 hnm rfl rfl d_X2_init_9 ?_
  refine ac_aload_n 0 d_X2_init_12 rfl rfl ?_
  refine ac_iconst (v := 3) d_X2_init_13 rfl ?_
  have hk := h.1
  have h := h.2
  refine ac_newa (a0 := (3, .inl (fun _ => 0))) (t0 := 1) ka_Z rfl rfl (fun _ => rfl) (by decide) (by decide) (by decide) (by rw [hro]; exact hk.1) (by rw [hro]; exact hk.2) d_X2_init_14 (fun q4 hq => ?_)
  have h := h q4 hq
  obtain ⟨f5, ef5⟩ : ∃ z, z = ac_up f3 q4 (.inl (ac_ki x 1, 3, .inl (fun _ => 0))) := ⟨_, rfl⟩
  have h := h f5 ef5
  rw [← ef5]
  obtain ⟨f6, hr, h⟩ := h
  refine ak_putF hr fp_X2_15 hnm rfl rfl d_X2_init_16 ?_
  refine ac_aload_n 0 d_X2_init_19 rfl rfl ?_
  refine ac_iconst (v := 0) d_X2_init_20 rfl ?_
  obtain ⟨f7, hr, h⟩ := h
  refine ak_putf hr fp_X2_19 rfl rfl d_X2_init_21 ?_
  have hk := h.1
  have h := h.2
  exact ac_vreturn hR ⟨rfl, h⟩ hk.1 hk.2 d_X2_init_24

def wp_X3_init (ki : Nat → ClassId) (r0 : Nat) (f : ac_hp) (Q : ac_hp → Prop) : Prop := (0 + 1 ≤ 2 ∧ 0 + 2 ≤ 4) ∧ ∀ q1, f q1 = none → ∀ f2, f2 = ac_up f q1 (.inl (ki 0, 2, .inl (fun _ => 0))) → ∃ f3, hw_f f2 r0 3 0 (.ref q1) f3 ∧ (0 + 1 + 1 ≤ 2 ∧ 0 + 2 + 2 ≤ 4) ∧ ∀ q4, f3 q4 = none → ∀ f5, f5 = ac_up f3 q4 (.inl (ki 0, 2, .inl (fun _ => 0))) → ∃ f6, hw_f f5 r0 3 1 (.ref q4) f6 ∧ ∃ f7, hw_f f6 r0 3 2 (.int 0) f7 ∧ ∃ f8, hw_f f7 r0 3 3 (.int 0) f8 ∧ (0 + 1 + 1 ≤ 2 ∧ 0 + 2 + 2 ≤ 4) ∧ Q f8

set_option maxRecDepth 20000 in
set_option maxHeartbeats 4000000 in
theorem c_X3_init (l : Launch) (D : va_G) (ki : Nat → ClassId) (r0 : Nat) (f : ac_hp) (Q : ac_hp → Prop) (h : wp_X3_init ki r0 f Q) : ac_met l D ki y_X3_init prog_5_method_1_code 1 none (ro_ 1 2 4) [.ref r0] f (qr_V Q) 2 4 := by
  refine ac_enter (fun ki => wp_X3_init ki r0 f Q) (by decide) (Nat.le_of_ble_eq_true rfl) h ?_
  intro x hro hR hnm h
  unfold wp_X3_init at h
  refine ac_aload_n 0 d_X3_init_0 rfl rfl ?_
  refine ac_objInit oi_X3_3 oi_inst oi_code (by rw [hro]; decide) (by rw [hro]; decide) d_X3_init_1 ?_
  refine ac_aload_n 0 d_X3_init_4 rfl rfl ?_
  refine ac_iconst (v := 2) d_X3_init_5 rfl ?_
  have hk := h.1
  have h := h.2
  refine ac_newa (a0 := (2, .inl (fun _ => 0))) (t0 := 0) ka_I rfl rfl (fun _ => rfl) (by decide) (by decide) (by decide) (by rw [hro]; exact hk.1) (by rw [hro]; exact hk.2) d_X3_init_6 (fun q1 hq => ?_)
  have h := h q1 hq
  obtain ⟨f2, ef2⟩ : ∃ z, z = ac_up f q1 (.inl (ac_ki x 0, 2, .inl (fun _ => 0))) := ⟨_, rfl⟩
  have h := h f2 ef2
  rw [← ef2]
  obtain ⟨f3, hr, h⟩ := h
  refine ak_putF hr fp_X3_9 hnm rfl rfl d_X3_init_8 ?_
  refine ac_aload_n 0 d_X3_init_11 rfl rfl ?_
  refine ac_iconst (v := 2) d_X3_init_12 rfl ?_
  have hk := h.1
  have h := h.2
  refine ac_newa (a0 := (2, .inl (fun _ => 0))) (t0 := 0) ka_I rfl rfl (fun _ => rfl) (by decide) (by decide) (by decide) (by rw [hro]; exact hk.1) (by rw [hro]; exact hk.2) d_X3_init_13 (fun q4 hq => ?_)
  have h := h q4 hq
  obtain ⟨f5, ef5⟩ : ∃ z, z = ac_up f3 q4 (.inl (ac_ki x 0, 2, .inl (fun _ => 0))) := ⟨_, rfl⟩
  have h := h f5 ef5
  rw [← ef5]
  obtain ⟨f6, hr, h⟩ := h
  refine ak_putF hr fp_X3_15 hnm rfl rfl d_X3_init_15 ?_
  refine ac_aload_n 0 d_X3_init_18 rfl rfl ?_
  refine ac_iconst (v := 0) d_X3_init_19 rfl ?_
  obtain ⟨f7, hr, h⟩ := h
  refine ak_putf hr fp_X3_18 rfl rfl d_X3_init_20 ?_
  refine ac_aload_n 0 d_X3_init_23 rfl rfl ?_
  refine ac_iconst (v := 0) d_X3_init_24 rfl ?_
  obtain ⟨f8, hr, h⟩ := h
  refine ak_putf hr fp_X3_22 rfl rfl d_X3_init_25 ?_
  have hk := h.1
  have h := h.2
  exact ac_vreturn hR ⟨rfl, h⟩ hk.1 hk.2 d_X3_init_28

def wp_X4_init_L47 (ki : Nat → ClassId) (r0 : Nat) (E68 : Nat → Nat → ac_hp → Prop) : Nat → Int32 → Nat → Nat → ac_hp → Prop
  | 0, _, _, _, _ => False
  | n + 1, x1, kc, ks, f => ((6 ≤ x1 → E68 kc ks f) ∧ (¬ 6 ≤ x1 → ∃ o15 : Nat, hr_f f r0 4 3 (.ref o15) ∧ ∃ f16, hw_i (ki 0) f o15 x1 9999 f16 ∧ ∀ v17 : Int32, v17 = x1 + 1 → wp_X4_init_L47 ki r0 E68 n v17 kc ks f16))

def wp_X4_init (ki : Nat → ClassId) (r0 : Nat) (f : ac_hp) (Q : ac_hp → Prop) : Prop := (0 + 1 ≤ 4 ∧ 0 + 4 ≤ 24) ∧ ∀ q1, f q1 = none → ∀ f2, f2 = ac_up f q1 (.inl (ki 0, 4, .inl (fun _ => 0))) → ∃ f3, hw_f f2 r0 4 0 (.ref q1) f3 ∧ (0 + 1 + 1 ≤ 4 ∧ 0 + 4 + 8 ≤ 24) ∧ ∀ q4, f3 q4 = none → ∀ f5, f5 = ac_up f3 q4 (.inl (ki 0, 8, .inl (fun _ => 0))) → ∃ f6, hw_f f5 r0 4 1 (.ref q4) f6 ∧ (0 + 1 + 1 + 1 ≤ 4 ∧ 0 + 4 + 8 + 6 ≤ 24) ∧ ∀ q7, f6 q7 = none → ∀ f8, f8 = ac_up f6 q7 (.inl (ki 0, 6, .inl (fun _ => 0))) → ∃ f9, hw_f f8 r0 4 2 (.ref q7) f9 ∧ (0 + 1 + 1 + 1 + 1 ≤ 4 ∧ 0 + 4 + 8 + 6 + 6 ≤ 24) ∧ ∀ q10, f9 q10 = none → ∀ f11, f11 = ac_up f9 q10 (.inl (ki 0, 6, .inl (fun _ => 0))) → ∃ f12, hw_f f11 r0 4 3 (.ref q10) f12 ∧ ∃ f13, hw_f f12 r0 4 4 (.int 0) f13 ∧ ∃ f14, hw_f f13 r0 4 5 (.int 0) f14 ∧ ∃ n18, wp_X4_init_L47 ki r0 (fun kc20 ks21 f19 => (kc20 ≤ 4 ∧ ks21 ≤ 24) ∧ Q f19) n18 0 (0 + 1 + 1 + 1 + 1) (0 + 4 + 8 + 6 + 6) f14

set_option maxRecDepth 20000 in
set_option maxHeartbeats 4000000 in
theorem ok_X4_init_L47 {x : ac_X} (hro : ac_R x = (ro_ 1 4 24)) (hnm : (ac_meth x).name = "<init>") (r0 : Nat) (E68 : Nat → Nat → ac_hp → Prop) (hE68 : ∀ (kc ks : Nat) (f : ac_hp), E68 kc ks f → ac_At (prog_6_method_1_code, 2, "VirtualRewrite$Question") x kc ks 68 [] [] f) : ∀ (n : Nat) (x1 : Int32) (kc ks : Nat) (f : ac_hp), wp_X4_init_L47 (ac_ki x) r0 E68 n x1 kc ks f → ac_At (prog_6_method_1_code, 2, "VirtualRewrite$Question") x kc ks 47 [(0, .ref r0), (1, .int x1)] [] f := by
  intro n
  induction n with
  | zero => intro _ _ _ _ h; exact h.elim
  | succ n ih =>
    intro x1 kc ks f h
    rw [wp_X4_init_L47] at h
    refine ac_iload_n 1 d_X4_init_47 rfl rfl ?_
    refine ac_bipush (v := 6) d_X4_init_48 rfl ?_
    refine ac_icmp_ge (tgt := 68) d_X4_init_50 (by decide) (fun hc => ?_) (fun hc => ?_)
    · have h := h.1 hc
      refine ac_weak [] rfl ?_
      exact hE68 kc ks f h
    · have h := h.2 hc
      refine ac_aload_n 0 d_X4_init_53 rfl rfl ?_
      obtain ⟨o15, hr, h⟩ := h
      refine ak_getf hr fl_X4_21 d_X4_init_54 ?_
      refine ac_iload_n 1 d_X4_init_57 rfl rfl ?_
      refine ac_sipush (v := 9999) d_X4_init_58 rfl ?_
      obtain ⟨f16, hr, h⟩ := h
      refine ak_iast 0 hr rfl d_X4_init_61 ?_
      obtain ⟨v17, ev17⟩ : ∃ y : Int32, y = x1 + 1 := ⟨_, rfl⟩
      have h := h v17 ev17
      refine ac_iinc (j := 1) (lv' := [(1, .int v17), (0, .ref r0)]) d_X4_init_62 rfl (by rw [ev17]; rfl) (by decide) rfl ?_
      refine ac_goto (tgt := 47) d_X4_init_65 (by decide) ?_
      refine ac_weak [1, 0] rfl ?_
      exact ih v17 kc ks f16 h

set_option maxRecDepth 20000 in
set_option maxHeartbeats 4000000 in
theorem c_X4_init (l : Launch) (D : va_G) (ki : Nat → ClassId) (r0 : Nat) (f : ac_hp) (Q : ac_hp → Prop) (h : wp_X4_init ki r0 f Q) : ac_met l D ki y_X4_init prog_6_method_1_code 2 none (ro_ 1 4 24) [.ref r0] f (qr_V Q) 4 24 := by
  refine ac_enter (fun ki => wp_X4_init ki r0 f Q) (by decide) (Nat.le_of_ble_eq_true rfl) h ?_
  intro x hro hR hnm h
  unfold wp_X4_init at h
  refine ac_aload_n 0 d_X4_init_0 rfl rfl ?_
  refine ac_objInit oi_X4_3 oi_inst oi_code (by rw [hro]; decide) (by rw [hro]; decide) d_X4_init_1 ?_
  refine ac_aload_n 0 d_X4_init_4 rfl rfl ?_
  refine ac_iconst (v := 4) d_X4_init_5 rfl ?_
  have hk := h.1
  have h := h.2
  refine ac_newa (a0 := (4, .inl (fun _ => 0))) (t0 := 0) ka_I rfl rfl (fun _ => rfl) (by decide) (by decide) (by decide) (by rw [hro]; exact hk.1) (by rw [hro]; exact hk.2) d_X4_init_6 (fun q1 hq => ?_)
  have h := h q1 hq
  obtain ⟨f2, ef2⟩ : ∃ z, z = ac_up f q1 (.inl (ac_ki x 0, 4, .inl (fun _ => 0))) := ⟨_, rfl⟩
  have h := h f2 ef2
  rw [← ef2]
  obtain ⟨f3, hr, h⟩ := h
  refine ak_putF hr fp_X4_9 hnm rfl rfl d_X4_init_8 ?_
  refine ac_aload_n 0 d_X4_init_11 rfl rfl ?_
  refine ac_bipush (v := 8) d_X4_init_12 rfl ?_
  have hk := h.1
  have h := h.2
  refine ac_newa (a0 := (8, .inl (fun _ => 0))) (t0 := 0) ka_I rfl rfl (fun _ => rfl) (by decide) (by decide) (by decide) (by rw [hro]; exact hk.1) (by rw [hro]; exact hk.2) d_X4_init_14 (fun q4 hq => ?_)
  have h := h q4 hq
  obtain ⟨f5, ef5⟩ : ∃ z, z = ac_up f3 q4 (.inl (ac_ki x 0, 8, .inl (fun _ => 0))) := ⟨_, rfl⟩
  have h := h f5 ef5
  rw [← ef5]
  obtain ⟨f6, hr, h⟩ := h
  refine ak_putF hr fp_X4_15 hnm rfl rfl d_X4_init_16 ?_
  refine ac_aload_n 0 d_X4_init_19 rfl rfl ?_
  refine ac_bipush (v := 6) d_X4_init_20 rfl ?_
  have hk := h.1
  have h := h.2
  refine ac_newa (a0 := (6, .inl (fun _ => 0))) (t0 := 0) ka_I rfl rfl (fun _ => rfl) (by decide) (by decide) (by decide) (by rw [hro]; exact hk.1) (by rw [hro]; exact hk.2) d_X4_init_22 (fun q7 hq => ?_)
  have h := h q7 hq
  obtain ⟨f8, ef8⟩ : ∃ z, z = ac_up f6 q7 (.inl (ac_ki x 0, 6, .inl (fun _ => 0))) := ⟨_, rfl⟩
  have h := h f8 ef8
  rw [← ef8]
  obtain ⟨f9, hr, h⟩ := h
  refine ak_putF hr fp_X4_18 hnm rfl rfl d_X4_init_24 ?_
  refine ac_aload_n 0 d_X4_init_27 rfl rfl ?_
  refine ac_bipush (v := 6) d_X4_init_28 rfl ?_
  have hk := h.1
  have h := h.2
  refine ac_newa (a0 := (6, .inl (fun _ => 0))) (t0 := 0) ka_I rfl rfl (fun _ => rfl) (by decide) (by decide) (by decide) (by rw [hro]; exact hk.1) (by rw [hro]; exact hk.2) d_X4_init_30 (fun q10 hq => ?_)
  have h := h q10 hq
  obtain ⟨f11, ef11⟩ : ∃ z, z = ac_up f9 q10 (.inl (ac_ki x 0, 6, .inl (fun _ => 0))) := ⟨_, rfl⟩
  have h := h f11 ef11
  rw [← ef11]
  obtain ⟨f12, hr, h⟩ := h
  refine ak_putF hr fp_X4_21 hnm rfl rfl d_X4_init_32 ?_
  refine ac_aload_n 0 d_X4_init_35 rfl rfl ?_
  refine ac_iconst (v := 0) d_X4_init_36 rfl ?_
  obtain ⟨f13, hr, h⟩ := h
  refine ak_putf hr fp_X4_24 rfl rfl d_X4_init_37 ?_
  refine ac_aload_n 0 d_X4_init_40 rfl rfl ?_
  refine ac_iconst (v := 0) d_X4_init_41 rfl ?_
  obtain ⟨f14, hr, h⟩ := h
  refine ak_putf hr fp_X4_28 rfl rfl d_X4_init_42 ?_
  refine ac_iconst (v := 0) d_X4_init_45 rfl ?_
  refine ac_istore_n (lv' := [(1, .int 0), (0, .ref r0)]) d_X4_init_46 rfl (by decide) rfl ?_
  obtain ⟨n18, h⟩ := h
  refine ac_weak [1, 0] rfl ?_
  refine ok_X4_init_L47 hro hnm r0 _ (fun kc20 ks21 f19 h => ?_) n18 0 (0 + 1 + 1 + 1 + 1) (0 + 4 + 8 + 6 + 6) f14 h
  · skip
    have hk := h.1
    have h := h.2
    exact ac_vreturn hR ⟨rfl, h⟩ hk.1 hk.2 d_X4_init_68

def wp_X5_init (ki : Nat → ClassId) (r0 : Nat) (r1 : Nat) (r2 : Nat) (f : ac_hp) (Q : ac_hp → Prop) : Prop := (0 + 1 ≤ 3 ∧ 0 + 600 ≤ 610) ∧ ∀ q1, f q1 = none → ∀ f2, f2 = ac_up f q1 (.inl (ki 0, 600, .inl (fun _ => 0))) → ∃ f3, hw_f f2 r0 5 2 (.ref q1) f3 ∧ (0 + 1 + 1 ≤ 3 ∧ 0 + 600 + 4 ≤ 610) ∧ ∀ q4, f3 q4 = none → ∀ f5, f5 = ac_up f3 q4 (.inl (ki 0, 4, .inl (fun _ => 0))) → ∃ f6, hw_f f5 r0 5 3 (.ref q4) f6 ∧ (0 + 1 + 1 + 1 ≤ 3 ∧ 0 + 600 + 4 + 6 ≤ 610) ∧ ∀ q7, f6 q7 = none → ∀ f8, f8 = ac_up f6 q7 (.inl (ki 0, 6, .inl (fun _ => 0))) → ∃ f9, hw_f f8 r0 5 4 (.ref q7) f9 ∧ ∃ f10, hw_f f9 r0 5 5 (.int 0) f10 ∧ ∃ f11, hw_f f10 r0 5 6 (.int 0) f11 ∧ ∃ f12, hw_f f11 r0 5 7 (.int 0) f12 ∧ ∃ f13, hw_f f12 r0 5 0 (.ref r1) f13 ∧ ∃ f14, hw_f f13 r0 5 1 (.ref r2) f14 ∧ (0 + 1 + 1 + 1 ≤ 3 ∧ 0 + 600 + 4 + 6 ≤ 610) ∧ Q f14

set_option maxRecDepth 20000 in
set_option maxHeartbeats 4000000 in
theorem c_X5_init (l : Launch) (D : va_G) (ki : Nat → ClassId) (r0 : Nat) (r1 : Nat) (r2 : Nat) (f : ac_hp) (Q : ac_hp → Prop) (h : wp_X5_init ki r0 r1 r2 f Q) : ac_met l D ki y_X5_init prog_7_method_1_code 3 none (ro_ 1 3 610) [.ref r0, .ref r1, .ref r2] f (qr_V Q) 3 610 := by
  refine ac_enter (fun ki => wp_X5_init ki r0 r1 r2 f Q) (by decide) (Nat.le_of_ble_eq_true rfl) h ?_
  intro x hro hR hnm h
  unfold wp_X5_init at h
  refine ac_aload_n 0 d_X5_init_0 rfl rfl ?_
  refine ac_objInit oi_X5_3 oi_inst oi_code (by rw [hro]; decide) (by rw [hro]; decide) d_X5_init_1 ?_
  refine ac_aload_n 0 d_X5_init_4 rfl rfl ?_
  refine ac_sipush (v := 600) d_X5_init_5 rfl ?_
  have hk := h.1
  have h := h.2
  refine ac_newa (a0 := (600, .inl (fun _ => 0))) (t0 := 0) ka_I rfl rfl (fun _ => rfl) (by decide) (by decide) (by decide) (by rw [hro]; exact hk.1) (by rw [hro]; exact hk.2) d_X5_init_8 (fun q1 hq => ?_)
  have h := h q1 hq
  obtain ⟨f2, ef2⟩ : ∃ z, z = ac_up f q1 (.inl (ac_ki x 0, 600, .inl (fun _ => 0))) := ⟨_, rfl⟩
  have h := h f2 ef2
  rw [← ef2]
  obtain ⟨f3, hr, h⟩ := h
  refine ak_putF hr fp_X5_9 hnm rfl rfl d_X5_init_10 ?_
  refine ac_aload_n 0 d_X5_init_13 rfl rfl ?_
  refine ac_iconst (v := 4) d_X5_init_14 rfl ?_
  have hk := h.1
  have h := h.2
  refine ac_newa (a0 := (4, .inl (fun _ => 0))) (t0 := 0) ka_I rfl rfl (fun _ => rfl) (by decide) (by decide) (by decide) (by rw [hro]; exact hk.1) (by rw [hro]; exact hk.2) d_X5_init_15 (fun q4 hq => ?_)
  have h := h q4 hq
  obtain ⟨f5, ef5⟩ : ∃ z, z = ac_up f3 q4 (.inl (ac_ki x 0, 4, .inl (fun _ => 0))) := ⟨_, rfl⟩
  have h := h f5 ef5
  rw [← ef5]
  obtain ⟨f6, hr, h⟩ := h
  refine ak_putF hr fp_X5_15 hnm rfl rfl d_X5_init_17 ?_
  refine ac_aload_n 0 d_X5_init_20 rfl rfl ?_
  refine ac_bipush (v := 6) d_X5_init_21 rfl ?_
  have hk := h.1
  have h := h.2
  refine ac_newa (a0 := (6, .inl (fun _ => 0))) (t0 := 0) ka_I rfl rfl (fun _ => rfl) (by decide) (by decide) (by decide) (by rw [hro]; exact hk.1) (by rw [hro]; exact hk.2) d_X5_init_23 (fun q7 hq => ?_)
  have h := h q7 hq
  obtain ⟨f8, ef8⟩ : ∃ z, z = ac_up f6 q7 (.inl (ac_ki x 0, 6, .inl (fun _ => 0))) := ⟨_, rfl⟩
  have h := h f8 ef8
  rw [← ef8]
  obtain ⟨f9, hr, h⟩ := h
  refine ak_putF hr fp_X5_18 hnm rfl rfl d_X5_init_25 ?_
  refine ac_aload_n 0 d_X5_init_28 rfl rfl ?_
  refine ac_iconst (v := 0) d_X5_init_29 rfl ?_
  obtain ⟨f10, hr, h⟩ := h
  refine ak_putf hr fp_X5_21 rfl rfl d_X5_init_30 ?_
  refine ac_aload_n 0 d_X5_init_33 rfl rfl ?_
  refine ac_iconst (v := 0) d_X5_init_34 rfl ?_
  obtain ⟨f11, hr, h⟩ := h
  refine ak_putf hr fp_X5_25 rfl rfl d_X5_init_35 ?_
  refine ac_aload_n 0 d_X5_init_38 rfl rfl ?_
  refine ac_iconst (v := 0) d_X5_init_39 rfl ?_
  obtain ⟨f12, hr, h⟩ := h
  refine ak_putf hr fp_X5_29 rfl rfl d_X5_init_40 ?_
  refine ac_aload_n 0 d_X5_init_43 rfl rfl ?_
  refine ac_aload_n 1 d_X5_init_44 rfl rfl ?_
  obtain ⟨f13, hr, h⟩ := h
  refine ak_putF hr fp_X5_32 hnm rfl rfl d_X5_init_45 ?_
  refine ac_aload_n 0 d_X5_init_48 rfl rfl ?_
  refine ac_aload_n 2 d_X5_init_49 rfl rfl ?_
  obtain ⟨f14, hr, h⟩ := h
  refine ak_putF hr fp_X5_36 hnm rfl rfl d_X5_init_50 ?_
  have hk := h.1
  have h := h.2
  exact ac_vreturn hR ⟨rfl, h⟩ hk.1 hk.2 d_X5_init_53

def wp_X6_init (ki : Nat → ClassId) (r0 : Nat) (r1 : Nat) (r2 : Nat) (r3 : Nat) (f : ac_hp) (Q : ac_hp → Prop) : Prop := (0 + 1 ≤ 1 ∧ 0 + 4 ≤ 4) ∧ ∀ q1, f q1 = none → ∀ f2, f2 = ac_up f q1 (.inl (ki 0, 4, .inl (fun _ => 0))) → ∃ f3, hw_f f2 r0 6 3 (.ref q1) f3 ∧ ∃ f4, hw_f f3 r0 6 4 (.int 0) f4 ∧ ∃ f5, hw_f f4 r0 6 0 (.ref r1) f5 ∧ ∃ f6, hw_f f5 r0 6 1 (.ref r2) f6 ∧ ∃ f7, hw_f f6 r0 6 2 (.ref r3) f7 ∧ (0 + 1 ≤ 1 ∧ 0 + 4 ≤ 4) ∧ Q f7

set_option maxRecDepth 20000 in
set_option maxHeartbeats 4000000 in
theorem c_X6_init (l : Launch) (D : va_G) (ki : Nat → ClassId) (r0 : Nat) (r1 : Nat) (r2 : Nat) (r3 : Nat) (f : ac_hp) (Q : ac_hp → Prop) (h : wp_X6_init ki r0 r1 r2 r3 f Q) : ac_met l D ki y_X6_init prog_8_method_1_code 4 none (ro_ 1 1 4) [.ref r0, .ref r1, .ref r2, .ref r3] f (qr_V Q) 1 4 := by
  refine ac_enter (fun ki => wp_X6_init ki r0 r1 r2 r3 f Q) (by decide) (Nat.le_of_ble_eq_true rfl) h ?_
  intro x hro hR hnm h
  unfold wp_X6_init at h
  refine ac_aload_n 0 d_X6_init_0 rfl rfl ?_
  refine ac_objInit oi_X6_3 oi_inst oi_code (by rw [hro]; decide) (by rw [hro]; decide) d_X6_init_1 ?_
  refine ac_aload_n 0 d_X6_init_4 rfl rfl ?_
  refine ac_iconst (v := 4) d_X6_init_5 rfl ?_
  have hk := h.1
  have h := h.2
  refine ac_newa (a0 := (4, .inl (fun _ => 0))) (t0 := 0) ka_I rfl rfl (fun _ => rfl) (by decide) (by decide) (by decide) (by rw [hro]; exact hk.1) (by rw [hro]; exact hk.2) d_X6_init_6 (fun q1 hq => ?_)
  have h := h q1 hq
  obtain ⟨f2, ef2⟩ : ∃ z, z = ac_up f q1 (.inl (ac_ki x 0, 4, .inl (fun _ => 0))) := ⟨_, rfl⟩
  have h := h f2 ef2
  rw [← ef2]
  obtain ⟨f3, hr, h⟩ := h
  refine ak_putF hr fp_X6_9 hnm rfl rfl d_X6_init_8 ?_
  refine ac_aload_n 0 d_X6_init_11 rfl rfl ?_
  refine ac_iconst (v := 0) d_X6_init_12 rfl ?_
  obtain ⟨f4, hr, h⟩ := h
  refine ak_putf hr fp_X6_15 rfl rfl d_X6_init_13 ?_
  refine ac_aload_n 0 d_X6_init_16 rfl rfl ?_
  refine ac_aload_n 1 d_X6_init_17 rfl rfl ?_
  obtain ⟨f5, hr, h⟩ := h
  refine ak_putF hr fp_X6_19 hnm rfl rfl d_X6_init_18 ?_
  refine ac_aload_n 0 d_X6_init_21 rfl rfl ?_
  refine ac_aload_n 2 d_X6_init_22 rfl rfl ?_
  obtain ⟨f6, hr, h⟩ := h
  refine ak_putF hr fp_X6_23 hnm rfl rfl d_X6_init_23 ?_
  refine ac_aload_n 0 d_X6_init_26 rfl rfl ?_
  refine ac_aload_n 3 d_X6_init_27 rfl rfl ?_
  obtain ⟨f7, hr, h⟩ := h
  refine ak_putF hr fp_X6_27 hnm rfl rfl d_X6_init_28 ?_
  have hk := h.1
  have h := h.2
  exact ac_vreturn hR ⟨rfl, h⟩ hk.1 hk.2 d_X6_init_31

def wp_X7_init (ki : Nat → ClassId) (r0 : Nat) (f : ac_hp) (Q : ac_hp → Prop) : Prop := (0 + 1 ≤ 4 ∧ 0 + 1800 ≤ 2700) ∧ ∀ q1, f q1 = none → ∀ f2, f2 = ac_up f q1 (.inl (ki 0, 1800, .inl (fun _ => 0))) → ∃ f3, hw_f f2 r0 7 0 (.ref q1) f3 ∧ (0 + 1 + 1 ≤ 4 ∧ 0 + 1800 + 300 ≤ 2700) ∧ ∀ q4, f3 q4 = none → ∀ f5, f5 = ac_up f3 q4 (.inl (ki 0, 300, .inl (fun _ => 0))) → ∃ f6, hw_f f5 r0 7 1 (.ref q4) f6 ∧ (0 + 1 + 1 + 1 ≤ 4 ∧ 0 + 1800 + 300 + 300 ≤ 2700) ∧ ∀ q7, f6 q7 = none → ∀ f8, f8 = ac_up f6 q7 (.inl (ki 0, 300, .inl (fun _ => 0))) → ∃ f9, hw_f f8 r0 7 2 (.ref q7) f9 ∧ (0 + 1 + 1 + 1 + 1 ≤ 4 ∧ 0 + 1800 + 300 + 300 + 300 ≤ 2700) ∧ ∀ q10, f9 q10 = none → ∀ f11, f11 = ac_up f9 q10 (.inl (ki 0, 300, .inl (fun _ => 0))) → ∃ f12, hw_f f11 r0 7 3 (.ref q10) f12 ∧ ∃ f13, hw_f f12 r0 7 4 (.int 0) f13 ∧ ∃ f14, hw_f f13 r0 7 5 (.int 0) f14 ∧ ∃ f15, hw_f f14 r0 7 6 (.int 0) f15 ∧ (0 + 1 + 1 + 1 + 1 ≤ 4 ∧ 0 + 1800 + 300 + 300 + 300 ≤ 2700) ∧ Q f15

set_option maxRecDepth 20000 in
set_option maxHeartbeats 4000000 in
theorem c_X7_init (l : Launch) (D : va_G) (ki : Nat → ClassId) (r0 : Nat) (f : ac_hp) (Q : ac_hp → Prop) (h : wp_X7_init ki r0 f Q) : ac_met l D ki y_X7_init prog_2_method_1_code 1 none (ro_ 1 4 2700) [.ref r0] f (qr_V Q) 4 2700 := by
  refine ac_enter (fun ki => wp_X7_init ki r0 f Q) (by decide) (Nat.le_of_ble_eq_true rfl) h ?_
  intro x hro hR hnm h
  unfold wp_X7_init at h
  refine ac_aload_n 0 d_X7_init_0 rfl rfl ?_
  refine ac_objInit oi_X7_3 oi_inst oi_code (by rw [hro]; decide) (by rw [hro]; decide) d_X7_init_1 ?_
  refine ac_aload_n 0 d_X7_init_4 rfl rfl ?_
  refine ac_sipush (v := 1800) d_X7_init_5 rfl ?_
  have hk := h.1
  have h := h.2
  refine ac_newa (a0 := (1800, .inl (fun _ => 0))) (t0 := 0) ka_I rfl rfl (fun _ => rfl) (by decide) (by decide) (by decide) (by rw [hro]; exact hk.1) (by rw [hro]; exact hk.2) d_X7_init_8 (fun q1 hq => ?_)
  have h := h q1 hq
  obtain ⟨f2, ef2⟩ : ∃ z, z = ac_up f q1 (.inl (ac_ki x 0, 1800, .inl (fun _ => 0))) := ⟨_, rfl⟩
  have h := h f2 ef2
  rw [← ef2]
  obtain ⟨f3, hr, h⟩ := h
  refine ak_putF hr fp_X7_9 hnm rfl rfl d_X7_init_10 ?_
  refine ac_aload_n 0 d_X7_init_13 rfl rfl ?_
  refine ac_sipush (v := 300) d_X7_init_14 rfl ?_
  have hk := h.1
  have h := h.2
  refine ac_newa (a0 := (300, .inl (fun _ => 0))) (t0 := 0) ka_I rfl rfl (fun _ => rfl) (by decide) (by decide) (by decide) (by rw [hro]; exact hk.1) (by rw [hro]; exact hk.2) d_X7_init_17 (fun q4 hq => ?_)
  have h := h q4 hq
  obtain ⟨f5, ef5⟩ : ∃ z, z = ac_up f3 q4 (.inl (ac_ki x 0, 300, .inl (fun _ => 0))) := ⟨_, rfl⟩
  have h := h f5 ef5
  rw [← ef5]
  obtain ⟨f6, hr, h⟩ := h
  refine ak_putF hr fp_X7_15 hnm rfl rfl d_X7_init_19 ?_
  refine ac_aload_n 0 d_X7_init_22 rfl rfl ?_
  refine ac_sipush (v := 300) d_X7_init_23 rfl ?_
  have hk := h.1
  have h := h.2
  refine ac_newa (a0 := (300, .inl (fun _ => 0))) (t0 := 0) ka_I rfl rfl (fun _ => rfl) (by decide) (by decide) (by decide) (by rw [hro]; exact hk.1) (by rw [hro]; exact hk.2) d_X7_init_26 (fun q7 hq => ?_)
  have h := h q7 hq
  obtain ⟨f8, ef8⟩ : ∃ z, z = ac_up f6 q7 (.inl (ac_ki x 0, 300, .inl (fun _ => 0))) := ⟨_, rfl⟩
  have h := h f8 ef8
  rw [← ef8]
  obtain ⟨f9, hr, h⟩ := h
  refine ak_putF hr fp_X7_18 hnm rfl rfl d_X7_init_28 ?_
  refine ac_aload_n 0 d_X7_init_31 rfl rfl ?_
  refine ac_sipush (v := 300) d_X7_init_32 rfl ?_
  have hk := h.1
  have h := h.2
  refine ac_newa (a0 := (300, .inl (fun _ => 0))) (t0 := 0) ka_I rfl rfl (fun _ => rfl) (by decide) (by decide) (by decide) (by rw [hro]; exact hk.1) (by rw [hro]; exact hk.2) d_X7_init_35 (fun q10 hq => ?_)
  have h := h q10 hq
  obtain ⟨f11, ef11⟩ : ∃ z, z = ac_up f9 q10 (.inl (ac_ki x 0, 300, .inl (fun _ => 0))) := ⟨_, rfl⟩
  have h := h f11 ef11
  rw [← ef11]
  obtain ⟨f12, hr, h⟩ := h
  refine ak_putF hr fp_X7_21 hnm rfl rfl d_X7_init_37 ?_
  refine ac_aload_n 0 d_X7_init_40 rfl rfl ?_
  refine ac_iconst (v := 0) d_X7_init_41 rfl ?_
  obtain ⟨f13, hr, h⟩ := h
  refine ak_putf hr fp_X7_24 rfl rfl d_X7_init_42 ?_
  refine ac_aload_n 0 d_X7_init_45 rfl rfl ?_
  refine ac_iconst (v := 0) d_X7_init_46 rfl ?_
  obtain ⟨f14, hr, h⟩ := h
  refine ak_putf hr fp_X7_28 rfl rfl d_X7_init_47 ?_
  refine ac_aload_n 0 d_X7_init_50 rfl rfl ?_
  refine ac_iconst (v := 0) d_X7_init_51 rfl ?_
  obtain ⟨f15, hr, h⟩ := h
  refine ak_putf hr fp_X7_31 rfl rfl d_X7_init_52 ?_
  have hk := h.1
  have h := h.2
  exact ac_vreturn hR ⟨rfl, h⟩ hk.1 hk.2 d_X7_init_55

def wp_X8_init (ki : Nat → ClassId) (r0 : Nat) (r1 : Nat) (r2 : Nat) (r3 : Nat) (r4 : Nat) (f : ac_hp) (Q : ac_hp → Prop) : Prop := (0 + 1 ≤ 8 ∧ 0 + 4 ≤ 132) ∧ ∀ q1, f q1 = none → ∀ f2, f2 = ac_up f q1 (.inl (ki 0, 4, .inl (fun _ => 0))) → ∃ f3, hw_f f2 r0 8 4 (.ref q1) f3 ∧ (0 + 1 + 1 ≤ 8 ∧ 0 + 4 + 4 ≤ 132) ∧ ∀ q4, f3 q4 = none → ∀ f5, f5 = ac_up f3 q4 (.inl (ki 0, 4, .inl (fun _ => 0))) → ∃ f6, hw_f f5 r0 8 5 (.ref q4) f6 ∧ (0 + 1 + 1 + 1 ≤ 8 ∧ 0 + 4 + 4 + 24 ≤ 132) ∧ ∀ q7, f6 q7 = none → ∀ f8, f8 = ac_up f6 q7 (.inl (ki 0, 24, .inl (fun _ => 0))) → ∃ f9, hw_f f8 r0 8 6 (.ref q7) f9 ∧ (0 + 1 + 1 + 1 + 1 ≤ 8 ∧ 0 + 4 + 4 + 24 + 80 ≤ 132) ∧ ∀ q10, f9 q10 = none → ∀ f11, f11 = ac_up f9 q10 (.inl (ki 0, 80, .inl (fun _ => 0))) → ∃ f12, hw_f f11 r0 8 7 (.ref q10) f12 ∧ (0 + 1 + 1 + 1 + 1 + 1 ≤ 8 ∧ 0 + 4 + 4 + 24 + 80 + 4 ≤ 132) ∧ ∀ q13, f12 q13 = none → ∀ f14, f14 = ac_up f12 q13 (.inl (ki 0, 4, .inl (fun _ => 0))) → ∃ f15, hw_f f14 r0 8 8 (.ref q13) f15 ∧ (0 + 1 + 1 + 1 + 1 + 1 + 1 ≤ 8 ∧ 0 + 4 + 4 + 24 + 80 + 4 + 4 ≤ 132) ∧ ∀ q16, f15 q16 = none → ∀ f17, f17 = ac_up f15 q16 (.inl (ki 0, 4, .inl (fun _ => 0))) → ∃ f18, hw_f f17 r0 8 9 (.ref q16) f18 ∧ (0 + 1 + 1 + 1 + 1 + 1 + 1 + 1 ≤ 8 ∧ 0 + 4 + 4 + 24 + 80 + 4 + 4 + 6 ≤ 132) ∧ ∀ q19, f18 q19 = none → ∀ f20, f20 = ac_up f18 q19 (.inl (ki 0, 6, .inl (fun _ => 0))) → ∃ f21, hw_f f20 r0 8 10 (.ref q19) f21 ∧ (0 + 1 + 1 + 1 + 1 + 1 + 1 + 1 + 1 ≤ 8 ∧ 0 + 4 + 4 + 24 + 80 + 4 + 4 + 6 + 6 ≤ 132) ∧ ∀ q22, f21 q22 = none → ∀ f23, f23 = ac_up f21 q22 (.inl (ki 0, 6, .inl (fun _ => 0))) → ∃ f24, hw_f f23 r0 8 11 (.ref q22) f24 ∧ ∃ f25, hw_f f24 r0 8 12 (.int 0) f25 ∧ ∃ f26, hw_f f25 r0 8 0 (.ref r1) f26 ∧ ∃ f27, hw_f f26 r0 8 1 (.ref r2) f27 ∧ ∃ f28, hw_f f27 r0 8 2 (.ref r3) f28 ∧ ∃ f29, hw_f f28 r0 8 3 (.ref r4) f29 ∧ (0 + 1 + 1 + 1 + 1 + 1 + 1 + 1 + 1 ≤ 8 ∧ 0 + 4 + 4 + 24 + 80 + 4 + 4 + 6 + 6 ≤ 132) ∧ Q f29

set_option maxRecDepth 20000 in
set_option maxHeartbeats 4000000 in
theorem c_X8_init (l : Launch) (D : va_G) (ki : Nat → ClassId) (r0 : Nat) (r1 : Nat) (r2 : Nat) (r3 : Nat) (r4 : Nat) (f : ac_hp) (Q : ac_hp → Prop) (h : wp_X8_init ki r0 r1 r2 r3 r4 f Q) : ac_met l D ki y_X8_init prog_4_method_1_code 5 none (ro_ 1 8 132) [.ref r0, .ref r1, .ref r2, .ref r3, .ref r4] f (qr_V Q) 8 132 := by
  refine ac_enter (fun ki => wp_X8_init ki r0 r1 r2 r3 r4 f Q) (by decide) (Nat.le_of_ble_eq_true rfl) h ?_
  intro x hro hR hnm h
  unfold wp_X8_init at h
  refine ac_aload_n 0 d_X8_init_0 rfl rfl ?_
  refine ac_objInit oi_X8_3 oi_inst oi_code (by rw [hro]; decide) (by rw [hro]; decide) d_X8_init_1 ?_
  refine ac_aload_n 0 d_X8_init_4 rfl rfl ?_
  refine ac_iconst (v := 4) d_X8_init_5 rfl ?_
  have hk := h.1
  have h := h.2
  refine ac_newa (a0 := (4, .inl (fun _ => 0))) (t0 := 0) ka_I rfl rfl (fun _ => rfl) (by decide) (by decide) (by decide) (by rw [hro]; exact hk.1) (by rw [hro]; exact hk.2) d_X8_init_6 (fun q1 hq => ?_)
  have h := h q1 hq
  obtain ⟨f2, ef2⟩ : ∃ z, z = ac_up f q1 (.inl (ac_ki x 0, 4, .inl (fun _ => 0))) := ⟨_, rfl⟩
  have h := h f2 ef2
  rw [← ef2]
  obtain ⟨f3, hr, h⟩ := h
  refine ak_putF hr fp_X8_9 hnm rfl rfl d_X8_init_8 ?_
  refine ac_aload_n 0 d_X8_init_11 rfl rfl ?_
  refine ac_iconst (v := 4) d_X8_init_12 rfl ?_
  have hk := h.1
  have h := h.2
  refine ac_newa (a0 := (4, .inl (fun _ => 0))) (t0 := 0) ka_I rfl rfl (fun _ => rfl) (by decide) (by decide) (by decide) (by rw [hro]; exact hk.1) (by rw [hro]; exact hk.2) d_X8_init_13 (fun q4 hq => ?_)
  have h := h q4 hq
  obtain ⟨f5, ef5⟩ : ∃ z, z = ac_up f3 q4 (.inl (ac_ki x 0, 4, .inl (fun _ => 0))) := ⟨_, rfl⟩
  have h := h f5 ef5
  rw [← ef5]
  obtain ⟨f6, hr, h⟩ := h
  refine ak_putF hr fp_X8_15 hnm rfl rfl d_X8_init_15 ?_
  refine ac_aload_n 0 d_X8_init_18 rfl rfl ?_
  refine ac_bipush (v := 24) d_X8_init_19 rfl ?_
  have hk := h.1
  have h := h.2
  refine ac_newa (a0 := (24, .inl (fun _ => 0))) (t0 := 0) ka_I rfl rfl (fun _ => rfl) (by decide) (by decide) (by decide) (by rw [hro]; exact hk.1) (by rw [hro]; exact hk.2) d_X8_init_21 (fun q7 hq => ?_)
  have h := h q7 hq
  obtain ⟨f8, ef8⟩ : ∃ z, z = ac_up f6 q7 (.inl (ac_ki x 0, 24, .inl (fun _ => 0))) := ⟨_, rfl⟩
  have h := h f8 ef8
  rw [← ef8]
  obtain ⟨f9, hr, h⟩ := h
  refine ak_putF hr fp_X8_18 hnm rfl rfl d_X8_init_23 ?_
  refine ac_aload_n 0 d_X8_init_26 rfl rfl ?_
  refine ac_bipush (v := 80) d_X8_init_27 rfl ?_
  have hk := h.1
  have h := h.2
  refine ac_newa (a0 := (80, .inl (fun _ => 0))) (t0 := 0) ka_I rfl rfl (fun _ => rfl) (by decide) (by decide) (by decide) (by rw [hro]; exact hk.1) (by rw [hro]; exact hk.2) d_X8_init_29 (fun q10 hq => ?_)
  have h := h q10 hq
  obtain ⟨f11, ef11⟩ : ∃ z, z = ac_up f9 q10 (.inl (ac_ki x 0, 80, .inl (fun _ => 0))) := ⟨_, rfl⟩
  have h := h f11 ef11
  rw [← ef11]
  obtain ⟨f12, hr, h⟩ := h
  refine ak_putF hr fp_X8_21 hnm rfl rfl d_X8_init_31 ?_
  refine ac_aload_n 0 d_X8_init_34 rfl rfl ?_
  refine ac_iconst (v := 4) d_X8_init_35 rfl ?_
  have hk := h.1
  have h := h.2
  refine ac_newa (a0 := (4, .inl (fun _ => 0))) (t0 := 0) ka_I rfl rfl (fun _ => rfl) (by decide) (by decide) (by decide) (by rw [hro]; exact hk.1) (by rw [hro]; exact hk.2) d_X8_init_36 (fun q13 hq => ?_)
  have h := h q13 hq
  obtain ⟨f14, ef14⟩ : ∃ z, z = ac_up f12 q13 (.inl (ac_ki x 0, 4, .inl (fun _ => 0))) := ⟨_, rfl⟩
  have h := h f14 ef14
  rw [← ef14]
  obtain ⟨f15, hr, h⟩ := h
  refine ak_putF hr fp_X8_24 hnm rfl rfl d_X8_init_38 ?_
  refine ac_aload_n 0 d_X8_init_41 rfl rfl ?_
  refine ac_iconst (v := 4) d_X8_init_42 rfl ?_
  have hk := h.1
  have h := h.2
  refine ac_newa (a0 := (4, .inl (fun _ => 0))) (t0 := 0) ka_I rfl rfl (fun _ => rfl) (by decide) (by decide) (by decide) (by rw [hro]; exact hk.1) (by rw [hro]; exact hk.2) d_X8_init_43 (fun q16 hq => ?_)
  have h := h q16 hq
  obtain ⟨f17, ef17⟩ : ∃ z, z = ac_up f15 q16 (.inl (ac_ki x 0, 4, .inl (fun _ => 0))) := ⟨_, rfl⟩
  have h := h f17 ef17
  rw [← ef17]
  obtain ⟨f18, hr, h⟩ := h
  refine ak_putF hr fp_X8_27 hnm rfl rfl d_X8_init_45 ?_
  refine ac_aload_n 0 d_X8_init_48 rfl rfl ?_
  refine ac_bipush (v := 6) d_X8_init_49 rfl ?_
  have hk := h.1
  have h := h.2
  refine ac_newa (a0 := (6, .inl (fun _ => 0))) (t0 := 0) ka_I rfl rfl (fun _ => rfl) (by decide) (by decide) (by decide) (by rw [hro]; exact hk.1) (by rw [hro]; exact hk.2) d_X8_init_51 (fun q19 hq => ?_)
  have h := h q19 hq
  obtain ⟨f20, ef20⟩ : ∃ z, z = ac_up f18 q19 (.inl (ac_ki x 0, 6, .inl (fun _ => 0))) := ⟨_, rfl⟩
  have h := h f20 ef20
  rw [← ef20]
  obtain ⟨f21, hr, h⟩ := h
  refine ak_putF hr fp_X8_30 hnm rfl rfl d_X8_init_53 ?_
  refine ac_aload_n 0 d_X8_init_56 rfl rfl ?_
  refine ac_bipush (v := 6) d_X8_init_57 rfl ?_
  have hk := h.1
  have h := h.2
  refine ac_newa (a0 := (6, .inl (fun _ => 0))) (t0 := 0) ka_I rfl rfl (fun _ => rfl) (by decide) (by decide) (by decide) (by rw [hro]; exact hk.1) (by rw [hro]; exact hk.2) d_X8_init_59 (fun q22 hq => ?_)
  have h := h q22 hq
  obtain ⟨f23, ef23⟩ : ∃ z, z = ac_up f21 q22 (.inl (ac_ki x 0, 6, .inl (fun _ => 0))) := ⟨_, rfl⟩
  have h := h f23 ef23
  rw [← ef23]
  obtain ⟨f24, hr, h⟩ := h
  refine ak_putF hr fp_X8_33 hnm rfl rfl d_X8_init_61 ?_
  refine ac_aload_n 0 d_X8_init_64 rfl rfl ?_
  refine ac_iconst (v := 0) d_X8_init_65 rfl ?_
  obtain ⟨f25, hr, h⟩ := h
  refine ak_putf hr fp_X8_36 rfl rfl d_X8_init_66 ?_
  refine ac_aload_n 0 d_X8_init_69 rfl rfl ?_
  refine ac_aload_n 1 d_X8_init_70 rfl rfl ?_
  obtain ⟨f26, hr, h⟩ := h
  refine ak_putF hr fp_X8_40 hnm rfl rfl d_X8_init_71 ?_
  refine ac_aload_n 0 d_X8_init_74 rfl rfl ?_
  refine ac_aload_n 2 d_X8_init_75 rfl rfl ?_
  obtain ⟨f27, hr, h⟩ := h
  refine ak_putF hr fp_X8_44 hnm rfl rfl d_X8_init_76 ?_
  refine ac_aload_n 0 d_X8_init_79 rfl rfl ?_
  refine ac_aload_n 3 d_X8_init_80 rfl rfl ?_
  obtain ⟨f28, hr, h⟩ := h
  refine ak_putF hr fp_X8_48 hnm rfl rfl d_X8_init_81 ?_
  refine ac_aload_n 0 d_X8_init_84 rfl rfl ?_
  refine ac_aload 4 d_X8_init_85 rfl ?_
  obtain ⟨f29, hr, h⟩ := h
  refine ak_putF hr fp_X8_52 hnm rfl rfl d_X8_init_87 ?_
  have hk := h.1
  have h := h.2
  exact ac_vreturn hR ⟨rfl, h⟩ hk.1 hk.2 d_X8_init_90

def wp_X0_isBelow (ki : Nat → ClassId) (x0 : Int32) (x1 : Int32) (f : ac_hp) (Q : Int32 → ac_hp → Prop) : Prop := ((x0 < 0 → Q 0 f) ∧ (¬ x0 < 0 → ((x1 ≤ x0 → Q 0 f) ∧ (¬ x1 ≤ x0 → Q 1 f))))

set_option maxRecDepth 20000 in
set_option maxHeartbeats 4000000 in
theorem c_X0_isBelow (l : Launch) (D : va_G) (ki : Nat → ClassId) (x0 : Int32) (x1 : Int32) (f : ac_hp) (Q : Int32 → ac_hp → Prop) (h : wp_X0_isBelow ki x0 x1 f Q) : ac_met l D ki y_X0_isBelow prog_1_method_18_code 2 (some .boolean) (ro_ 1 0 0) [.int x0, .int x1] f (qr_I Q) 0 0 := by
  refine ac_enter (fun ki => wp_X0_isBelow ki x0 x1 f Q) (by decide) (Nat.le_of_ble_eq_true rfl) h ?_
  intro x hro hR hnm h
  unfold wp_X0_isBelow at h
  refine ac_iload_n 0 d_X0_isBelow_0 rfl rfl ?_
  refine ac_if_lt (tgt := 13) d_X0_isBelow_1 (by decide) (fun hc => ?_) (fun hc => ?_)
  · have h := h.1 hc
    refine ac_iconst (v := 0) d_X0_isBelow_13 rfl ?_
    exact ac_ireturn hR rfl ⟨_, rfl, h⟩ (by decide) (by decide) d_X0_isBelow_14
  · have h := h.2 hc
    refine ac_iload_n 0 d_X0_isBelow_4 rfl rfl ?_
    refine ac_iload_n 1 d_X0_isBelow_5 rfl rfl ?_
    refine ac_icmp_ge (tgt := 13) d_X0_isBelow_6 (by decide) (fun hc => ?_) (fun hc => ?_)
    · have h := h.1 hc
      refine ac_iconst (v := 0) d_X0_isBelow_13 rfl ?_
      exact ac_ireturn hR rfl ⟨_, rfl, h⟩ (by decide) (by decide) d_X0_isBelow_14
    · have h := h.2 hc
      refine ac_iconst (v := 1) d_X0_isBelow_9 rfl ?_
      refine ac_goto (tgt := 14) d_X0_isBelow_10 (by decide) ?_
      exact ac_ireturn hR rfl ⟨_, rfl, h⟩ (by decide) (by decide) d_X0_isBelow_14
end
section
def wp_X2_cell (ki : Nat → ClassId) (r0 : Nat) (x1 : Int32) (x2 : Int32) (f : ac_hp) (Q : Int32 → ac_hp → Prop) : Prop := ∃ o1 : Nat, hr_f f r0 2 0 (.ref o1) ∧ ∃ v2 : Int32, hr_i (ki 0) f o1 ((x1 * 3) + x2) v2 ∧ Q v2 f

set_option maxRecDepth 20000 in
set_option maxHeartbeats 4000000 in
theorem c_X2_cell (l : Launch) (D : va_G) (ki : Nat → ClassId) (r0 : Nat) (x1 : Int32) (x2 : Int32) (f : ac_hp) (Q : Int32 → ac_hp → Prop) (h : wp_X2_cell ki r0 x1 x2 f Q) : ac_met l D ki y_X2_cell prog_9_method_2_code 3 (some .int) (ro_ 1 0 0) [.ref r0, .int x1, .int x2] f (qr_I Q) 0 0 := by
  refine ac_enter (fun ki => wp_X2_cell ki r0 x1 x2 f Q) (by decide) (Nat.le_of_ble_eq_true rfl) h ?_
  intro x hro hR hnm h
  unfold wp_X2_cell at h
  refine ac_aload_n 0 d_X2_cell_0 rfl rfl ?_
  obtain ⟨o1, hr, h⟩ := h
  refine ak_getf hr fl_X2_9 d_X2_cell_1 ?_
  refine ac_iload_n 1 d_X2_cell_4 rfl rfl ?_
  refine ac_iconst (v := 3) d_X2_cell_5 rfl ?_
  refine ac_imul d_X2_cell_6 ?_
  refine ac_iload_n 2 d_X2_cell_7 rfl rfl ?_
  refine ac_iadd d_X2_cell_8 ?_
  obtain ⟨v2, hr, h⟩ := h
  refine ak_iald 0 hr rfl d_X2_cell_9 ?_
  exact ac_ireturn hR rfl ⟨_, rfl, h⟩ (by decide) (by decide) d_X2_cell_10

def wp_X2_append (ki : Nat → ClassId) (r0 : Nat) (x1 : Int32) (x2 : Int32) (x3 : Int32) (f : ac_hp) (Q : ac_hp → Prop) : Prop := ∃ v1 : Int32, hr_f f r0 2 2 (.int v1) ∧ ∀ v2 : Int32, v2 = v1 * 3 → ∃ o3 : Nat, hr_f f r0 2 0 (.ref o3) ∧ ∃ f4, hw_i (ki 0) f o3 v2 x1 f4 ∧ ∃ o5 : Nat, hr_f f4 r0 2 0 (.ref o5) ∧ ∃ f6, hw_i (ki 0) f4 o5 (v2 + 1) x2 f6 ∧ ∃ o7 : Nat, hr_f f6 r0 2 0 (.ref o7) ∧ ∃ f8, hw_i (ki 0) f6 o7 (v2 + 2) x3 f8 ∧ ∃ v9 : Int32, hr_f f8 r0 2 2 (.int v9) ∧ ∃ f10, hw_f f8 r0 2 2 (.int (v9 + 1)) f10 ∧ Q f10

set_option maxRecDepth 20000 in
set_option maxHeartbeats 4000000 in
theorem c_X2_append (l : Launch) (D : va_G) (ki : Nat → ClassId) (r0 : Nat) (x1 : Int32) (x2 : Int32) (x3 : Int32) (f : ac_hp) (Q : ac_hp → Prop) (h : wp_X2_append ki r0 x1 x2 x3 f Q) : ac_met l D ki y_X2_append prog_9_method_6_code 5 none (ro_ 1 0 0) [.ref r0, .int x1, .int x2, .int x3] f (qr_V Q) 0 0 := by
  refine ac_enter (fun ki => wp_X2_append ki r0 x1 x2 x3 f Q) (by decide) (Nat.le_of_ble_eq_true rfl) h ?_
  intro x hro hR hnm h
  unfold wp_X2_append at h
  refine ac_aload_n 0 d_X2_append_0 rfl rfl ?_
  obtain ⟨v1, hr, h⟩ := h
  refine ak_getf hr fl_X2_19 d_X2_append_1 ?_
  refine ac_iconst (v := 3) d_X2_append_4 rfl ?_
  refine ac_imul d_X2_append_5 ?_
  refine ak_topi (fun v2 ev2 => ?_)
  have h := h v2 ev2
  refine ac_istore (lv' := [(4, .int v2), (0, .ref r0), (1, .int x1), (2, .int x2), (3, .int x3)]) d_X2_append_6 (by decide) rfl ?_
  refine ac_aload_n 1 d_X2_append_8 rfl rfl ?_
  obtain ⟨o3, hr, h⟩ := h
  refine ak_getf hr fl_X2_9 d_X2_append_9 ?_
  refine ac_iload 0 d_X2_append_12 rfl ?_
  refine ac_iload_n 2 d_X2_append_14 rfl rfl ?_
  obtain ⟨f4, hr, h⟩ := h
  refine ak_iast 0 hr rfl d_X2_append_15 ?_
  refine ac_aload_n 1 d_X2_append_16 rfl rfl ?_
  obtain ⟨o5, hr, h⟩ := h
  refine ak_getf hr fl_X2_9 d_X2_append_17 ?_
  refine ac_iload 0 d_X2_append_20 rfl ?_
  refine ac_iconst (v := 1) d_X2_append_22 rfl ?_
  refine ac_iadd d_X2_append_23 ?_
  refine ac_iload_n 3 d_X2_append_24 rfl rfl ?_
  obtain ⟨f6, hr, h⟩ := h
  refine ak_iast 0 hr rfl d_X2_append_25 ?_
  refine ac_aload_n 1 d_X2_append_26 rfl rfl ?_
  obtain ⟨o7, hr, h⟩ := h
  refine ak_getf hr fl_X2_9 d_X2_append_27 ?_
  refine ac_iload 0 d_X2_append_30 rfl ?_
  refine ac_iconst (v := 2) d_X2_append_32 rfl ?_
  refine ac_iadd d_X2_append_33 ?_
  refine ac_iload_n 4 d_X2_append_34 rfl rfl ?_
  obtain ⟨f8, hr, h⟩ := h
  refine ak_iast 0 hr rfl d_X2_append_35 ?_
  refine ac_aload_n 1 d_X2_append_36 rfl rfl ?_
  refine ac_dup d_X2_append_37 rfl ?_
  obtain ⟨v9, hr, h⟩ := h
  refine ak_getf hr fl_X2_19 d_X2_append_38 ?_
  refine ac_iconst (v := 1) d_X2_append_41 rfl ?_
  refine ac_iadd d_X2_append_42 ?_
  obtain ⟨f10, hr, h⟩ := h
  refine ak_putf hr fp_X2_19 rfl rfl d_X2_append_43 ?_
  exact ac_vreturn hR ⟨rfl, h⟩ (by decide) (by decide) d_X2_append_46

def wp_X2_remove (ki : Nat → ClassId) (r0 : Nat) (x1 : Int32) (f : ac_hp) (Q : ac_hp → Prop) : Prop := ∃ v1 : Int32, hr_f f r0 2 2 (.int v1) ∧ ∀ v2 : Int32, v2 = (v1 - x1) - 1 → ∃ o3 : Nat, hr_f f r0 2 0 (.ref o3) ∧ ∃ o4 : Nat, hr_f f r0 2 0 (.ref o4) ∧ ∃ f5, hw_c (ki 0) f o3 ((x1 + 1) * 3) o4 (x1 * 3) (v2 * 3) f5 ∧ ∃ v6 : Int32, hr_f f5 r0 2 2 (.int v6) ∧ ∃ f7, hw_f f5 r0 2 2 (.int (v6 - 1)) f7 ∧ Q f7

set_option maxRecDepth 20000 in
set_option maxHeartbeats 4000000 in
theorem c_X2_remove (l : Launch) (D : va_G) (ki : Nat → ClassId) (r0 : Nat) (x1 : Int32) (f : ac_hp) (Q : ac_hp → Prop) (h : wp_X2_remove ki r0 x1 f Q) : ac_met l D ki y_X2_remove prog_9_method_7_code 3 none (ro_ 1 0 0) [.ref r0, .int x1] f (qr_V Q) 0 0 := by
  refine ac_enter (fun ki => wp_X2_remove ki r0 x1 f Q) (by decide) (Nat.le_of_ble_eq_true rfl) h ?_
  intro x hro hR hnm h
  unfold wp_X2_remove at h
  refine ac_aload_n 0 d_X2_remove_0 rfl rfl ?_
  obtain ⟨v1, hr, h⟩ := h
  refine ak_getf hr fl_X2_19 d_X2_remove_1 ?_
  refine ac_iload_n 1 d_X2_remove_4 rfl rfl ?_
  refine ac_isub d_X2_remove_5 ?_
  refine ac_iconst (v := 1) d_X2_remove_6 rfl ?_
  refine ac_isub d_X2_remove_7 ?_
  refine ak_topi (fun v2 ev2 => ?_)
  have h := h v2 ev2
  refine ac_istore_n (lv' := [(2, .int v2), (0, .ref r0), (1, .int x1)]) d_X2_remove_8 rfl (by decide) rfl ?_
  refine ac_aload_n 1 d_X2_remove_9 rfl rfl ?_
  obtain ⟨o3, hr, h⟩ := h
  refine ak_getf hr fl_X2_9 d_X2_remove_10 ?_
  refine ac_iload_n 2 d_X2_remove_13 rfl rfl ?_
  refine ac_iconst (v := 1) d_X2_remove_14 rfl ?_
  refine ac_iadd d_X2_remove_15 ?_
  refine ac_iconst (v := 3) d_X2_remove_16 rfl ?_
  refine ac_imul d_X2_remove_17 ?_
  refine ac_aload_n 1 d_X2_remove_18 rfl rfl ?_
  obtain ⟨o4, hr, h⟩ := h
  refine ak_getf hr fl_X2_9 d_X2_remove_19 ?_
  refine ac_iload_n 2 d_X2_remove_22 rfl rfl ?_
  refine ac_iconst (v := 3) d_X2_remove_23 rfl ?_
  refine ac_imul d_X2_remove_24 ?_
  refine ac_iload_n 0 d_X2_remove_25 rfl rfl ?_
  refine ac_iconst (v := 3) d_X2_remove_26 rfl ?_
  refine ac_imul d_X2_remove_27 ?_
  obtain ⟨f5, hr, h⟩ := h
  refine ak_copyi 0 hr sc_X2_31 sc_nat sc_stat sc_ini rfl (by rw [hro]; decide) (by rw [hro]; decide) d_X2_remove_28 ?_
  refine ac_aload_n 1 d_X2_remove_31 rfl rfl ?_
  refine ac_dup d_X2_remove_32 rfl ?_
  obtain ⟨v6, hr, h⟩ := h
  refine ak_getf hr fl_X2_19 d_X2_remove_33 ?_
  refine ac_iconst (v := 1) d_X2_remove_36 rfl ?_
  refine ac_isub d_X2_remove_37 ?_
  obtain ⟨f7, hr, h⟩ := h
  refine ak_putf hr fp_X2_19 rfl rfl d_X2_remove_38 ?_
  exact ac_vreturn hR ⟨rfl, h⟩ (by decide) (by decide) d_X2_remove_41

def wp_X3_describe (ki : Nat → ClassId) (r0 : Nat) (x1 : Int32) (x2 : Int32) (x3 : Int32) (f : ac_hp) (Q : ac_hp → Prop) : Prop := ∃ o1 : Nat, hr_f f r0 3 0 (.ref o1) ∧ ∃ f2, hw_i (ki 0) f o1 x1 x2 f2 ∧ ∃ o3 : Nat, hr_f f2 r0 3 1 (.ref o3) ∧ ∃ f4, hw_i (ki 0) f2 o3 x1 x3 f4 ∧ Q f4

set_option maxRecDepth 20000 in
set_option maxHeartbeats 4000000 in
theorem c_X3_describe (l : Launch) (D : va_G) (ki : Nat → ClassId) (r0 : Nat) (x1 : Int32) (x2 : Int32) (x3 : Int32) (f : ac_hp) (Q : ac_hp → Prop) (h : wp_X3_describe ki r0 x1 x2 x3 f Q) : ac_met l D ki y_X3_describe prog_5_method_2_code 4 none (ro_ 1 0 0) [.ref r0, .int x1, .int x2, .int x3] f (qr_V Q) 0 0 := by
  refine ac_enter (fun ki => wp_X3_describe ki r0 x1 x2 x3 f Q) (by decide) (Nat.le_of_ble_eq_true rfl) h ?_
  intro x hro hR hnm h
  unfold wp_X3_describe at h
  refine ac_aload_n 0 d_X3_describe_0 rfl rfl ?_
  obtain ⟨o1, hr, h⟩ := h
  refine ak_getf hr fl_X3_9 d_X3_describe_1 ?_
  refine ac_iload_n 1 d_X3_describe_4 rfl rfl ?_
  refine ac_iload_n 2 d_X3_describe_5 rfl rfl ?_
  obtain ⟨f2, hr, h⟩ := h
  refine ak_iast 0 hr rfl d_X3_describe_6 ?_
  refine ac_aload_n 0 d_X3_describe_7 rfl rfl ?_
  obtain ⟨o3, hr, h⟩ := h
  refine ak_getf hr fl_X3_15 d_X3_describe_8 ?_
  refine ac_iload_n 1 d_X3_describe_11 rfl rfl ?_
  refine ac_iload_n 3 d_X3_describe_12 rfl rfl ?_
  obtain ⟨f4, hr, h⟩ := h
  refine ak_iast 0 hr rfl d_X3_describe_13 ?_
  exact ac_vreturn hR ⟨rfl, h⟩ (by decide) (by decide) d_X3_describe_14

def wp_X5_forget (ki : Nat → ClassId) (r0 : Nat) (f : ac_hp) (Q : ac_hp → Prop) : Prop := ∃ f1, hw_f f r0 5 7 (.int 0) f1 ∧ Q f1

set_option maxRecDepth 20000 in
set_option maxHeartbeats 4000000 in
theorem c_X5_forget (l : Launch) (D : va_G) (ki : Nat → ClassId) (r0 : Nat) (f : ac_hp) (Q : ac_hp → Prop) (h : wp_X5_forget ki r0 f Q) : ac_met l D ki y_X5_forget prog_7_method_5_code 1 none (ro_ 1 0 0) [.ref r0] f (qr_V Q) 0 0 := by
  refine ac_enter (fun ki => wp_X5_forget ki r0 f Q) (by decide) (Nat.le_of_ble_eq_true rfl) h ?_
  intro x hro hR hnm h
  unfold wp_X5_forget at h
  refine ac_aload_n 0 d_X5_forget_0 rfl rfl ?_
  refine ac_iconst (v := 0) d_X5_forget_1 rfl ?_
  obtain ⟨f1, hr, h⟩ := h
  refine ak_putf hr fp_X5_29 rfl rfl d_X5_forget_2 ?_
  exact ac_vreturn hR ⟨rfl, h⟩ (by decide) (by decide) d_X5_forget_5

def wp_X1_tableOf (ki : Nat → ClassId) (r0 : Nat) (r1 : Nat) (f : ac_hp) (Q : Nat → ac_hp → Prop) : Prop := ∃ o1 : Nat, hr_f f r0 1 0 (.ref o1) ∧ ∃ v2 : Int32, hr_f f r1 3 2 (.int v2) ∧ ∃ o3 : Nat, hr_q (ki 3) f o1 v2 o3 ∧ Q o3 f

set_option maxRecDepth 20000 in
set_option maxHeartbeats 4000000 in
theorem c_X1_tableOf (l : Launch) (D : va_G) (ki : Nat → ClassId) (r0 : Nat) (r1 : Nat) (f : ac_hp) (Q : Nat → ac_hp → Prop) (h : wp_X1_tableOf ki r0 r1 f Q) : ac_met l D ki y_X1_tableOf prog_3_method_2_code 2 (some (.object "VirtualRewrite$Table")) (ro_ 1 0 0) [.ref r0, .ref r1] f (qr_R Q) 0 0 := by
  refine ac_enter (fun ki => wp_X1_tableOf ki r0 r1 f Q) (by decide) (Nat.le_of_ble_eq_true rfl) h ?_
  intro x hro hR hnm h
  unfold wp_X1_tableOf at h
  refine ac_aload_n 0 d_X1_tableOf_0 rfl rfl ?_
  obtain ⟨o1, hr, h⟩ := h
  refine ak_getf hr fl_X1_11 d_X1_tableOf_1 ?_
  refine ac_aload_n 1 d_X1_tableOf_4 rfl rfl ?_
  obtain ⟨v2, hr, h⟩ := h
  refine ak_getf hr fl_X1_36 d_X1_tableOf_5 ?_
  obtain ⟨o3, hr, h⟩ := h
  refine ak_aald 3 hr rfl d_X1_tableOf_8 ?_
  exact ac_areturn hR (Or.inl ⟨_, rfl⟩) ⟨_, rfl, h⟩ (by decide) (by decide) d_X1_tableOf_9

def wp_X1_keepTriple_L8 (ki : Nat → ClassId) (r0 : Nat) (x1 : Int64) (E49 : Int32 → ac_hp → Prop) : Nat → Int32 → Int32 → ac_hp → Prop
  | 0, _, _, _ => False
  | n + 1, x3, x4, f => ((x4 ≤ x3 → E49 x3 f) ∧ (¬ x4 ≤ x3 → ∀ v2 : Int32, v2 = ((x3 + x4).toUInt32 >>> ((1 : Int32).toUInt32 &&& Int32.toUInt32 31)).toInt32 → ∃ o3 : Nat, hr_f f r0 1 2 (.ref o3) ∧ ∃ v4 : Int64, hr_l (ki 2) f o3 v2 v4 ∧ ((0 ≤ (lg_cmp v4 x1) → wp_X1_keepTriple_L8 ki r0 x1 E49 n x3 v2 f) ∧ (¬ 0 ≤ (lg_cmp v4 x1) → ∀ v5 : Int32, v5 = v2 + 1 → wp_X1_keepTriple_L8 ki r0 x1 E49 n v5 x4 f))))

def wp_X1_keepTriple (ki : Nat → ClassId) (r0 : Nat) (x1 : Int64) (f : ac_hp) (Q : ac_hp → Prop) : Prop := ∃ v1 : Int32, hr_f f r0 1 4 (.int v1) ∧ ∃ n6, wp_X1_keepTriple_L8 ki r0 x1 (fun y7 f8 => ∃ v9 : Int32, hr_f f8 r0 1 4 (.int v9) ∧ ((v9 ≤ y7 → ∃ o10 : Nat, hr_f f8 r0 1 2 (.ref o10) ∧ ∃ o11 : Nat, hr_f f8 r0 1 2 (.ref o11) ∧ ∃ v12 : Int32, hr_f f8 r0 1 4 (.int v12) ∧ ∃ f13, hw_d (ki 2) f8 o10 y7 o11 (y7 + 1) (v12 - y7) f13 ∧ ∃ o14 : Nat, hr_f f13 r0 1 2 (.ref o14) ∧ ∃ f15, hw_l (ki 2) f13 o14 y7 x1 f15 ∧ ∃ v16 : Int32, hr_f f15 r0 1 4 (.int v16) ∧ ∃ f17, hw_f f15 r0 1 4 (.int (v16 + 1)) f17 ∧ Q f17) ∧ (¬ v9 ≤ y7 → ∃ o18 : Nat, hr_f f8 r0 1 2 (.ref o18) ∧ ∃ v19 : Int64, hr_l (ki 2) f8 o18 y7 v19 ∧ ((¬ (lg_cmp v19 x1) = 0 → ∃ o20 : Nat, hr_f f8 r0 1 2 (.ref o20) ∧ ∃ o21 : Nat, hr_f f8 r0 1 2 (.ref o21) ∧ ∃ v22 : Int32, hr_f f8 r0 1 4 (.int v22) ∧ ∃ f23, hw_d (ki 2) f8 o20 y7 o21 (y7 + 1) (v22 - y7) f23 ∧ ∃ o24 : Nat, hr_f f23 r0 1 2 (.ref o24) ∧ ∃ f25, hw_l (ki 2) f23 o24 y7 x1 f25 ∧ ∃ v26 : Int32, hr_f f25 r0 1 4 (.int v26) ∧ ∃ f27, hw_f f25 r0 1 4 (.int (v26 + 1)) f27 ∧ Q f27) ∧ ((lg_cmp v19 x1) = 0 → Q f8))))) n6 0 v1 f

set_option maxRecDepth 20000 in
set_option maxHeartbeats 4000000 in
theorem ok_X1_keepTriple_L8 {x : ac_X} (hro : ac_R x = (ro_ 1 0 0)) (r0 : Nat) (x1 : Int64) (E49 : Int32 → ac_hp → Prop) (hE49 : ∀ (y3 : Int32) (f : ac_hp), E49 y3 f → ac_At (prog_3_method_5_code, 6, "VirtualRewrite$Catalog") x 0 0 49 [(0, .ref r0), (1, .long x1), (3, .int y3)] [] f) : ∀ (n : Nat) (x3 : Int32) (x4 : Int32) (f : ac_hp), wp_X1_keepTriple_L8 (ac_ki x) r0 x1 E49 n x3 x4 f → ac_At (prog_3_method_5_code, 6, "VirtualRewrite$Catalog") x 0 0 8 [(0, .ref r0), (1, .long x1), (3, .int x3), (4, .int x4)] [] f := by
  intro n
  induction n with
  | zero => intro _ _ _ h; exact h.elim
  | succ n ih =>
    intro x3 x4 f h
    rw [wp_X1_keepTriple_L8] at h
    refine ac_iload_n 2 d_X1_keepTriple_8 rfl rfl ?_
    refine ac_iload 3 d_X1_keepTriple_9 rfl ?_
    refine ac_icmp_ge (tgt := 49) d_X1_keepTriple_11 (by decide) (fun hc => ?_) (fun hc => ?_)
    · have h := h.1 hc
      refine ac_weak [0, 1, 2] rfl ?_
      exact hE49 x3 f h
    · have h := h.2 hc
      refine ac_iload_n 2 d_X1_keepTriple_14 rfl rfl ?_
      refine ac_iload 3 d_X1_keepTriple_15 rfl ?_
      refine ac_iadd d_X1_keepTriple_17 ?_
      refine ac_iconst (v := 1) d_X1_keepTriple_18 rfl ?_
      refine ac_iushr d_X1_keepTriple_19 ?_
      refine ak_topi (fun v2 ev2 => ?_)
      have h := h v2 ev2
      refine ac_istore (lv' := [(5, .int v2), (0, .ref r0), (1, .long x1), (3, .int x3), (4, .int x4)]) d_X1_keepTriple_20 (by decide) rfl ?_
      refine ac_aload_n 1 d_X1_keepTriple_22 rfl rfl ?_
      obtain ⟨o3, hr, h⟩ := h
      refine ak_getf hr fl_X1_23 d_X1_keepTriple_23 ?_
      refine ac_iload 0 d_X1_keepTriple_26 rfl ?_
      obtain ⟨v4, hr, h⟩ := h
      refine ak_lald 2 hr rfl d_X1_keepTriple_28 ?_
      refine ac_lload_n 2 d_X1_keepTriple_29 rfl rfl ?_
      refine ac_lcmp d_X1_keepTriple_30 ?_
      refine ac_if_ge (tgt := 42) d_X1_keepTriple_31 (by decide) (fun hc => ?_) (fun hc => ?_)
      · have h := h.1 hc
        refine ac_iload 0 d_X1_keepTriple_42 rfl ?_
        refine ac_istore (lv' := [(4, .int v2), (5, .int v2), (0, .ref r0), (1, .long x1), (3, .int x3)]) d_X1_keepTriple_44 (by decide) rfl ?_
        refine ac_goto (tgt := 8) d_X1_keepTriple_46 (by decide) ?_
        refine ac_weak [2, 3, 4, 0] rfl ?_
        exact ih x3 v2 f h
      · have h := h.2 hc
        refine ac_iload 0 d_X1_keepTriple_34 rfl ?_
        refine ac_iconst (v := 1) d_X1_keepTriple_36 rfl ?_
        refine ac_iadd d_X1_keepTriple_37 ?_
        refine ak_topi (fun v5 ev5 => ?_)
        have h := h v5 ev5
        refine ac_istore_n (lv' := [(3, .int v5), (5, .int v2), (0, .ref r0), (1, .long x1), (4, .int x4)]) d_X1_keepTriple_38 rfl (by decide) rfl ?_
        refine ac_goto (tgt := 46) d_X1_keepTriple_39 (by decide) ?_
        refine ac_goto (tgt := 8) d_X1_keepTriple_46 (by decide) ?_
        refine ac_weak [2, 3, 0, 4] rfl ?_
        exact ih v5 x4 f h

set_option maxRecDepth 20000 in
set_option maxHeartbeats 4000000 in
theorem c_X1_keepTriple (l : Launch) (D : va_G) (ki : Nat → ClassId) (r0 : Nat) (x1 : Int64) (f : ac_hp) (Q : ac_hp → Prop) (h : wp_X1_keepTriple ki r0 x1 f Q) : ac_met l D ki y_X1_keepTriple prog_3_method_5_code 6 none (ro_ 1 0 0) [.ref r0, .long x1] f (qr_V Q) 0 0 := by
  refine ac_enter (fun ki => wp_X1_keepTriple ki r0 x1 f Q) (by decide) (Nat.le_of_ble_eq_true rfl) h ?_
  intro x hro hR hnm h
  unfold wp_X1_keepTriple at h
  refine ac_iconst (v := 0) d_X1_keepTriple_0 rfl ?_
  refine ac_istore_n (lv' := [(3, .int 0), (0, .ref r0), (1, .long x1)]) d_X1_keepTriple_1 rfl (by decide) rfl ?_
  refine ac_aload_n 1 d_X1_keepTriple_2 rfl rfl ?_
  obtain ⟨v1, hr, h⟩ := h
  refine ak_getf hr fl_X1_31 d_X1_keepTriple_3 ?_
  refine ac_istore (lv' := [(4, .int v1), (3, .int 0), (0, .ref r0), (1, .long x1)]) d_X1_keepTriple_6 (by decide) rfl ?_
  obtain ⟨n6, h⟩ := h
  refine ac_weak [2, 3, 1, 0] rfl ?_
  refine ok_X1_keepTriple_L8 hro r0 x1 _ (fun y7 f8 h => ?_) n6 0 v1 f h
  · skip
    refine ac_iload_n 2 d_X1_keepTriple_49 rfl rfl ?_
    refine ac_aload_n 0 d_X1_keepTriple_50 rfl rfl ?_
    obtain ⟨v9, hr, h⟩ := h
    refine ak_getf hr fl_X1_31 d_X1_keepTriple_51 ?_
    refine ac_icmp_ge (tgt := 69) d_X1_keepTriple_54 (by decide) (fun hc => ?_) (fun hc => ?_)
    · have h := h.1 hc
      refine ac_aload_n 0 d_X1_keepTriple_69 rfl rfl ?_
      obtain ⟨o10, hr, h⟩ := h
      refine ak_getf hr fl_X1_23 d_X1_keepTriple_70 ?_
      refine ac_iload_n 2 d_X1_keepTriple_73 rfl rfl ?_
      refine ac_aload_n 0 d_X1_keepTriple_74 rfl rfl ?_
      obtain ⟨o11, hr, h⟩ := h
      refine ak_getf hr fl_X1_23 d_X1_keepTriple_75 ?_
      refine ac_iload_n 2 d_X1_keepTriple_78 rfl rfl ?_
      refine ac_iconst (v := 1) d_X1_keepTriple_79 rfl ?_
      refine ac_iadd d_X1_keepTriple_80 ?_
      refine ac_aload_n 0 d_X1_keepTriple_81 rfl rfl ?_
      obtain ⟨v12, hr, h⟩ := h
      refine ak_getf hr fl_X1_31 d_X1_keepTriple_82 ?_
      refine ac_iload_n 2 d_X1_keepTriple_85 rfl rfl ?_
      refine ac_isub d_X1_keepTriple_86 ?_
      obtain ⟨f13, hr, h⟩ := h
      refine ak_copyl 2 hr sc_X1_68 sc_nat sc_stat sc_ini rfl (by rw [hro]; decide) (by rw [hro]; decide) d_X1_keepTriple_87 ?_
      refine ac_aload_n 0 d_X1_keepTriple_90 rfl rfl ?_
      obtain ⟨o14, hr, h⟩ := h
      refine ak_getf hr fl_X1_23 d_X1_keepTriple_91 ?_
      refine ac_iload_n 2 d_X1_keepTriple_94 rfl rfl ?_
      refine ac_lload_n 1 d_X1_keepTriple_95 rfl rfl ?_
      obtain ⟨f15, hr, h⟩ := h
      refine ak_last 2 hr rfl d_X1_keepTriple_96 ?_
      refine ac_aload_n 0 d_X1_keepTriple_97 rfl rfl ?_
      refine ac_dup d_X1_keepTriple_98 rfl ?_
      obtain ⟨v16, hr, h⟩ := h
      refine ak_getf hr fl_X1_31 d_X1_keepTriple_99 ?_
      refine ac_iconst (v := 1) d_X1_keepTriple_102 rfl ?_
      refine ac_iadd d_X1_keepTriple_103 ?_
      obtain ⟨f17, hr, h⟩ := h
      refine ak_putf hr fp_X1_31 rfl rfl d_X1_keepTriple_104 ?_
      exact ac_vreturn hR ⟨rfl, h⟩ (by decide) (by decide) d_X1_keepTriple_107
    · have h := h.2 hc
      refine ac_aload_n 0 d_X1_keepTriple_57 rfl rfl ?_
      obtain ⟨o18, hr, h⟩ := h
      refine ak_getf hr fl_X1_23 d_X1_keepTriple_58 ?_
      refine ac_iload_n 2 d_X1_keepTriple_61 rfl rfl ?_
      obtain ⟨v19, hr, h⟩ := h
      refine ak_lald 2 hr rfl d_X1_keepTriple_62 ?_
      refine ac_lload_n 1 d_X1_keepTriple_63 rfl rfl ?_
      refine ac_lcmp d_X1_keepTriple_64 ?_
      refine ac_if_ne (tgt := 69) d_X1_keepTriple_65 (by decide) (fun hc => ?_) (fun hc => ?_)
      · have h := h.1 hc
        refine ac_aload_n 0 d_X1_keepTriple_69 rfl rfl ?_
        obtain ⟨o20, hr, h⟩ := h
        refine ak_getf hr fl_X1_23 d_X1_keepTriple_70 ?_
        refine ac_iload_n 2 d_X1_keepTriple_73 rfl rfl ?_
        refine ac_aload_n 0 d_X1_keepTriple_74 rfl rfl ?_
        obtain ⟨o21, hr, h⟩ := h
        refine ak_getf hr fl_X1_23 d_X1_keepTriple_75 ?_
        refine ac_iload_n 2 d_X1_keepTriple_78 rfl rfl ?_
        refine ac_iconst (v := 1) d_X1_keepTriple_79 rfl ?_
        refine ac_iadd d_X1_keepTriple_80 ?_
        refine ac_aload_n 0 d_X1_keepTriple_81 rfl rfl ?_
        obtain ⟨v22, hr, h⟩ := h
        refine ak_getf hr fl_X1_31 d_X1_keepTriple_82 ?_
        refine ac_iload_n 2 d_X1_keepTriple_85 rfl rfl ?_
        refine ac_isub d_X1_keepTriple_86 ?_
        obtain ⟨f23, hr, h⟩ := h
        refine ak_copyl 2 hr sc_X1_68 sc_nat sc_stat sc_ini rfl (by rw [hro]; decide) (by rw [hro]; decide) d_X1_keepTriple_87 ?_
        refine ac_aload_n 0 d_X1_keepTriple_90 rfl rfl ?_
        obtain ⟨o24, hr, h⟩ := h
        refine ak_getf hr fl_X1_23 d_X1_keepTriple_91 ?_
        refine ac_iload_n 2 d_X1_keepTriple_94 rfl rfl ?_
        refine ac_lload_n 1 d_X1_keepTriple_95 rfl rfl ?_
        obtain ⟨f25, hr, h⟩ := h
        refine ak_last 2 hr rfl d_X1_keepTriple_96 ?_
        refine ac_aload_n 0 d_X1_keepTriple_97 rfl rfl ?_
        refine ac_dup d_X1_keepTriple_98 rfl ?_
        obtain ⟨v26, hr, h⟩ := h
        refine ak_getf hr fl_X1_31 d_X1_keepTriple_99 ?_
        refine ac_iconst (v := 1) d_X1_keepTriple_102 rfl ?_
        refine ac_iadd d_X1_keepTriple_103 ?_
        obtain ⟨f27, hr, h⟩ := h
        refine ak_putf hr fp_X1_31 rfl rfl d_X1_keepTriple_104 ?_
        exact ac_vreturn hR ⟨rfl, h⟩ (by decide) (by decide) d_X1_keepTriple_107
      · have h := h.2 hc
        exact ac_vreturn hR ⟨rfl, h⟩ (by decide) (by decide) d_X1_keepTriple_68

def wp_X0_isPlace (ki : Nat → ClassId) (x0 : Int32) (f : ac_hp) (Q : Int32 → ac_hp → Prop) : Prop := ((x0 < (-6) → Q 0 f) ∧ (¬ x0 < (-6) → ((60000 ≤ x0 → Q 0 f) ∧ (¬ 60000 ≤ x0 → Q 1 f))))

set_option maxRecDepth 20000 in
set_option maxHeartbeats 4000000 in
theorem c_X0_isPlace (l : Launch) (D : va_G) (ki : Nat → ClassId) (x0 : Int32) (f : ac_hp) (Q : Int32 → ac_hp → Prop) (h : wp_X0_isPlace ki x0 f Q) : ac_met l D ki y_X0_isPlace prog_1_method_19_code 1 (some .boolean) (ro_ 1 0 0) [.int x0] f (qr_I Q) 0 0 := by
  refine ac_enter (fun ki => wp_X0_isPlace ki x0 f Q) (by decide) (Nat.le_of_ble_eq_true rfl) h ?_
  intro x hro hR hnm h
  unfold wp_X0_isPlace at h
  refine ac_iload_n 0 d_X0_isPlace_0 rfl rfl ?_
  refine ac_bipush (v := -6) d_X0_isPlace_1 rfl ?_
  refine ac_icmp_lt (tgt := 16) d_X0_isPlace_3 (by decide) (fun hc => ?_) (fun hc => ?_)
  · have h := h.1 hc
    refine ac_iconst (v := 0) d_X0_isPlace_16 rfl ?_
    exact ac_ireturn hR rfl ⟨_, rfl, h⟩ (by decide) (by decide) d_X0_isPlace_17
  · have h := h.2 hc
    refine ac_iload_n 0 d_X0_isPlace_6 rfl rfl ?_
    refine ac_ldc (v := 60000) kc_X0_193 d_X0_isPlace_7 ?_
    refine ac_icmp_ge (tgt := 16) d_X0_isPlace_9 (by decide) (fun hc => ?_) (fun hc => ?_)
    · have h := h.1 hc
      refine ac_iconst (v := 0) d_X0_isPlace_16 rfl ?_
      exact ac_ireturn hR rfl ⟨_, rfl, h⟩ (by decide) (by decide) d_X0_isPlace_17
    · have h := h.2 hc
      refine ac_iconst (v := 1) d_X0_isPlace_12 rfl ?_
      refine ac_goto (tgt := 17) d_X0_isPlace_13 (by decide) ?_
      exact ac_ireturn hR rfl ⟨_, rfl, h⟩ (by decide) (by decide) d_X0_isPlace_17

def wp_X4_append (ki : Nat → ClassId) (r0 : Nat) (x1 : Int32) (x2 : Int32) (x3 : Int32) (f : ac_hp) (Q : ac_hp → Prop) : Prop := ∃ o1 : Nat, hr_f f r0 4 0 (.ref o1) ∧ ∃ v2 : Int32, hr_f f r0 4 4 (.int v2) ∧ ∃ f3, hw_i (ki 0) f o1 v2 x1 f3 ∧ ∃ o4 : Nat, hr_f f3 r0 4 1 (.ref o4) ∧ ∃ v5 : Int32, hr_f f3 r0 4 4 (.int v5) ∧ ∃ f6, hw_i (ki 0) f3 o4 (v5 * 2) x2 f6 ∧ ∃ o7 : Nat, hr_f f6 r0 4 1 (.ref o7) ∧ ∃ v8 : Int32, hr_f f6 r0 4 4 (.int v8) ∧ ∃ f9, hw_i (ki 0) f6 o7 ((v8 * 2) + 1) x3 f9 ∧ ∃ v10 : Int32, hr_f f9 r0 4 4 (.int v10) ∧ ∃ f11, hw_f f9 r0 4 4 (.int (v10 + 1)) f11 ∧ Q f11

set_option maxRecDepth 20000 in
set_option maxHeartbeats 4000000 in
theorem c_X4_append (l : Launch) (D : va_G) (ki : Nat → ClassId) (r0 : Nat) (x1 : Int32) (x2 : Int32) (x3 : Int32) (f : ac_hp) (Q : ac_hp → Prop) (h : wp_X4_append ki r0 x1 x2 x3 f Q) : ac_met l D ki y_X4_append prog_6_method_2_code 4 none (ro_ 1 0 0) [.ref r0, .int x1, .int x2, .int x3] f (qr_V Q) 0 0 := by
  refine ac_enter (fun ki => wp_X4_append ki r0 x1 x2 x3 f Q) (by decide) (Nat.le_of_ble_eq_true rfl) h ?_
  intro x hro hR hnm h
  unfold wp_X4_append at h
  refine ac_aload_n 0 d_X4_append_0 rfl rfl ?_
  obtain ⟨o1, hr, h⟩ := h
  refine ak_getf hr fl_X4_9 d_X4_append_1 ?_
  refine ac_aload_n 0 d_X4_append_4 rfl rfl ?_
  obtain ⟨v2, hr, h⟩ := h
  refine ak_getf hr fl_X4_24 d_X4_append_5 ?_
  refine ac_iload_n 1 d_X4_append_8 rfl rfl ?_
  obtain ⟨f3, hr, h⟩ := h
  refine ak_iast 0 hr rfl d_X4_append_9 ?_
  refine ac_aload_n 0 d_X4_append_10 rfl rfl ?_
  obtain ⟨o4, hr, h⟩ := h
  refine ak_getf hr fl_X4_15 d_X4_append_11 ?_
  refine ac_aload_n 0 d_X4_append_14 rfl rfl ?_
  obtain ⟨v5, hr, h⟩ := h
  refine ak_getf hr fl_X4_24 d_X4_append_15 ?_
  refine ac_iconst (v := 2) d_X4_append_18 rfl ?_
  refine ac_imul d_X4_append_19 ?_
  refine ac_iload_n 2 d_X4_append_20 rfl rfl ?_
  obtain ⟨f6, hr, h⟩ := h
  refine ak_iast 0 hr rfl d_X4_append_21 ?_
  refine ac_aload_n 0 d_X4_append_22 rfl rfl ?_
  obtain ⟨o7, hr, h⟩ := h
  refine ak_getf hr fl_X4_15 d_X4_append_23 ?_
  refine ac_aload_n 0 d_X4_append_26 rfl rfl ?_
  obtain ⟨v8, hr, h⟩ := h
  refine ak_getf hr fl_X4_24 d_X4_append_27 ?_
  refine ac_iconst (v := 2) d_X4_append_30 rfl ?_
  refine ac_imul d_X4_append_31 ?_
  refine ac_iconst (v := 1) d_X4_append_32 rfl ?_
  refine ac_iadd d_X4_append_33 ?_
  refine ac_iload_n 3 d_X4_append_34 rfl rfl ?_
  obtain ⟨f9, hr, h⟩ := h
  refine ak_iast 0 hr rfl d_X4_append_35 ?_
  refine ac_aload_n 0 d_X4_append_36 rfl rfl ?_
  refine ac_dup d_X4_append_37 rfl ?_
  obtain ⟨v10, hr, h⟩ := h
  refine ak_getf hr fl_X4_24 d_X4_append_38 ?_
  refine ac_iconst (v := 1) d_X4_append_41 rfl ?_
  refine ac_iadd d_X4_append_42 ?_
  obtain ⟨f11, hr, h⟩ := h
  refine ak_putf hr fp_X4_24 rfl rfl d_X4_append_43 ?_
  exact ac_vreturn hR ⟨rfl, h⟩ (by decide) (by decide) d_X4_append_46

def wp_JMath_max (ki : Nat → ClassId) (x0 : Int32) (x1 : Int32) (f : ac_hp) (Q : Int32 → ac_hp → Prop) : Prop := ((x0 < x1 → Q x1 f) ∧ (¬ x0 < x1 → Q x0 f))

set_option maxRecDepth 20000 in
set_option maxHeartbeats 4000000 in
theorem c_JMath_max (l : Launch) (D : va_G) (ki : Nat → ClassId) (x0 : Int32) (x1 : Int32) (f : ac_hp) (Q : Int32 → ac_hp → Prop) (h : wp_JMath_max ki x0 x1 f Q) : ac_met l D ki y_JMath_max prog_15_method_65_code 2 (some .int) (ro_ 1 0 0) [.int x0, .int x1] f (qr_I Q) 0 0 := by
  refine ac_enterF (fun ki => wp_JMath_max ki x0 x1 f Q) (by decide +kernel) (Nat.le_of_ble_eq_true rfl) h ?_
  intro x hro hR hnm h
  unfold wp_JMath_max at h
  refine ac_iload_n 0 d_JMath_max_0 rfl rfl ?_
  refine ac_iload_n 1 d_JMath_max_1 rfl rfl ?_
  refine ac_icmp_lt (tgt := 9) d_JMath_max_2 (by decide) (fun hc => ?_) (fun hc => ?_)
  · have h := h.1 hc
    refine ac_iload_n 1 d_JMath_max_9 rfl rfl ?_
    exact ac_ireturn hR rfl ⟨_, rfl, h⟩ (by decide) (by decide) d_JMath_max_10
  · have h := h.2 hc
    refine ac_iload_n 0 d_JMath_max_5 rfl rfl ?_
    refine ac_goto (tgt := 10) d_JMath_max_6 (by decide) ?_
    exact ac_ireturn hR rfl ⟨_, rfl, h⟩ (by decide) (by decide) d_JMath_max_10

def wp_JMath_min (ki : Nat → ClassId) (x0 : Int32) (x1 : Int32) (f : ac_hp) (Q : Int32 → ac_hp → Prop) : Prop := ((x1 < x0 → Q x1 f) ∧ (¬ x1 < x0 → Q x0 f))

set_option maxRecDepth 20000 in
set_option maxHeartbeats 4000000 in
theorem c_JMath_min (l : Launch) (D : va_G) (ki : Nat → ClassId) (x0 : Int32) (x1 : Int32) (f : ac_hp) (Q : Int32 → ac_hp → Prop) (h : wp_JMath_min ki x0 x1 f Q) : ac_met l D ki y_JMath_min prog_15_method_69_code 2 (some .int) (ro_ 1 0 0) [.int x0, .int x1] f (qr_I Q) 0 0 := by
  refine ac_enterF (fun ki => wp_JMath_min ki x0 x1 f Q) (by decide +kernel) (Nat.le_of_ble_eq_true rfl) h ?_
  intro x hro hR hnm h
  unfold wp_JMath_min at h
  refine ac_iload_n 0 d_JMath_min_0 rfl rfl ?_
  refine ac_iload_n 1 d_JMath_min_1 rfl rfl ?_
  refine ac_icmp_gt (tgt := 9) d_JMath_min_2 (by decide) (fun hc => ?_) (fun hc => ?_)
  · have h := h.1 hc
    refine ac_iload_n 1 d_JMath_min_9 rfl rfl ?_
    exact ac_ireturn hR rfl ⟨_, rfl, h⟩ (by decide) (by decide) d_JMath_min_10
  · have h := h.2 hc
    refine ac_iload_n 0 d_JMath_min_5 rfl rfl ?_
    refine ac_goto (tgt := 10) d_JMath_min_6 (by decide) ?_
    exact ac_ireturn hR rfl ⟨_, rfl, h⟩ (by decide) (by decide) d_JMath_min_10

def wp_X4_reset_L12 (ki : Nat → ClassId) (r0 : Nat) (E40 : ac_hp → Prop) : Nat → Int32 → ac_hp → Prop
  | 0, _, _ => False
  | n + 1, x1, f => ((6 ≤ x1 → E40  f) ∧ (¬ 6 ≤ x1 → ∃ o3 : Nat, hr_f f r0 4 2 (.ref o3) ∧ ∃ f4, hw_i (ki 0) f o3 x1 0 f4 ∧ ∃ o5 : Nat, hr_f f4 r0 4 3 (.ref o5) ∧ ∃ f6, hw_i (ki 0) f4 o5 x1 9999 f6 ∧ ∀ v7 : Int32, v7 = x1 + 1 → wp_X4_reset_L12 ki r0 E40 n v7 f6))

def wp_X4_reset (ki : Nat → ClassId) (r0 : Nat) (f : ac_hp) (Q : ac_hp → Prop) : Prop := ∃ f1, hw_f f r0 4 4 (.int 0) f1 ∧ ∃ f2, hw_f f1 r0 4 5 (.int 0) f2 ∧ ∃ n8, wp_X4_reset_L12 ki r0 (fun f9 => Q f9) n8 0 f2

set_option maxRecDepth 20000 in
set_option maxHeartbeats 4000000 in
theorem ok_X4_reset_L12 {x : ac_X} (hro : ac_R x = (ro_ 1 0 0)) (r0 : Nat) (E40 : ac_hp → Prop) (hE40 : ∀ (f : ac_hp), E40 f → ac_At (prog_6_method_4_code, 2, "VirtualRewrite$Question") x 0 0 40 [] [] f) : ∀ (n : Nat) (x1 : Int32) (f : ac_hp), wp_X4_reset_L12 (ac_ki x) r0 E40 n x1 f → ac_At (prog_6_method_4_code, 2, "VirtualRewrite$Question") x 0 0 12 [(0, .ref r0), (1, .int x1)] [] f := by
  intro n
  induction n with
  | zero => intro _ _ h; exact h.elim
  | succ n ih =>
    intro x1 f h
    rw [wp_X4_reset_L12] at h
    refine ac_iload_n 1 d_X4_reset_12 rfl rfl ?_
    refine ac_bipush (v := 6) d_X4_reset_13 rfl ?_
    refine ac_icmp_ge (tgt := 40) d_X4_reset_15 (by decide) (fun hc => ?_) (fun hc => ?_)
    · have h := h.1 hc
      refine ac_weak [] rfl ?_
      exact hE40  f h
    · have h := h.2 hc
      refine ac_aload_n 0 d_X4_reset_18 rfl rfl ?_
      obtain ⟨o3, hr, h⟩ := h
      refine ak_getf hr fl_X4_18 d_X4_reset_19 ?_
      refine ac_iload_n 1 d_X4_reset_22 rfl rfl ?_
      refine ac_iconst (v := 0) d_X4_reset_23 rfl ?_
      obtain ⟨f4, hr, h⟩ := h
      refine ak_iast 0 hr rfl d_X4_reset_24 ?_
      refine ac_aload_n 0 d_X4_reset_25 rfl rfl ?_
      obtain ⟨o5, hr, h⟩ := h
      refine ak_getf hr fl_X4_21 d_X4_reset_26 ?_
      refine ac_iload_n 1 d_X4_reset_29 rfl rfl ?_
      refine ac_sipush (v := 9999) d_X4_reset_30 rfl ?_
      obtain ⟨f6, hr, h⟩ := h
      refine ak_iast 0 hr rfl d_X4_reset_33 ?_
      obtain ⟨v7, ev7⟩ : ∃ y : Int32, y = x1 + 1 := ⟨_, rfl⟩
      have h := h v7 ev7
      refine ac_iinc (j := 1) (lv' := [(1, .int v7), (0, .ref r0)]) d_X4_reset_34 rfl (by rw [ev7]; rfl) (by decide) rfl ?_
      refine ac_goto (tgt := 12) d_X4_reset_37 (by decide) ?_
      refine ac_weak [1, 0] rfl ?_
      exact ih v7 f6 h

set_option maxRecDepth 20000 in
set_option maxHeartbeats 4000000 in
theorem c_X4_reset (l : Launch) (D : va_G) (ki : Nat → ClassId) (r0 : Nat) (f : ac_hp) (Q : ac_hp → Prop) (h : wp_X4_reset ki r0 f Q) : ac_met l D ki y_X4_reset prog_6_method_4_code 2 none (ro_ 1 0 0) [.ref r0] f (qr_V Q) 0 0 := by
  refine ac_enter (fun ki => wp_X4_reset ki r0 f Q) (by decide) (Nat.le_of_ble_eq_true rfl) h ?_
  intro x hro hR hnm h
  unfold wp_X4_reset at h
  refine ac_aload_n 0 d_X4_reset_0 rfl rfl ?_
  refine ac_iconst (v := 0) d_X4_reset_1 rfl ?_
  obtain ⟨f1, hr, h⟩ := h
  refine ak_putf hr fp_X4_24 rfl rfl d_X4_reset_2 ?_
  refine ac_aload_n 0 d_X4_reset_5 rfl rfl ?_
  refine ac_iconst (v := 0) d_X4_reset_6 rfl ?_
  obtain ⟨f2, hr, h⟩ := h
  refine ak_putf hr fp_X4_28 rfl rfl d_X4_reset_7 ?_
  refine ac_iconst (v := 0) d_X4_reset_10 rfl ?_
  refine ac_istore_n (lv' := [(1, .int 0), (0, .ref r0)]) d_X4_reset_11 rfl (by decide) rfl ?_
  obtain ⟨n8, h⟩ := h
  refine ac_weak [1, 0] rfl ?_
  refine ok_X4_reset_L12 hro r0 _ (fun f9 h => ?_) n8 0 f2 h
  · skip
    exact ac_vreturn hR ⟨rfl, h⟩ (by decide) (by decide) d_X4_reset_40
end
section
def wp_X5_keep (ki : Nat → ClassId) (r0 : Nat) (f : ac_hp) (Q : ac_hp → Prop) : Prop := ∃ v1 : Int32, hr_f f r0 5 5 (.int v1) ∧ ((v1 < 150 → ∃ o2 : Nat, hr_f f r0 5 3 (.ref o2) ∧ ∃ o3 : Nat, hr_f f r0 5 2 (.ref o3) ∧ ∃ v4 : Int32, hr_f f r0 5 5 (.int v4) ∧ ∃ f5, hw_c (ki 0) f o2 0 o3 (v4 * 4) 4 f5 ∧ ∃ v6 : Int32, hr_f f5 r0 5 5 (.int v6) ∧ ∃ f7, hw_f f5 r0 5 5 (.int (v6 + 1)) f7 ∧ Q f7) ∧ (¬ v1 < 150 → ∃ f8, hw_f f r0 5 6 (.int 1) f8 ∧ Q f8))

set_option maxRecDepth 20000 in
set_option maxHeartbeats 4000000 in
theorem c_X5_keep (l : Launch) (D : va_G) (ki : Nat → ClassId) (r0 : Nat) (f : ac_hp) (Q : ac_hp → Prop) (h : wp_X5_keep ki r0 f Q) : ac_met l D ki y_X5_keep prog_7_method_8_code 1 none (ro_ 1 0 0) [.ref r0] f (qr_V Q) 0 0 := by
  refine ac_enter (fun ki => wp_X5_keep ki r0 f Q) (by decide) (Nat.le_of_ble_eq_true rfl) h ?_
  intro x hro hR hnm h
  unfold wp_X5_keep at h
  refine ac_aload_n 0 d_X5_keep_0 rfl rfl ?_
  obtain ⟨v1, hr, h⟩ := h
  refine ak_getf hr fl_X5_21 d_X5_keep_1 ?_
  refine ac_sipush (v := 150) d_X5_keep_4 rfl ?_
  refine ac_icmp_lt (tgt := 16) d_X5_keep_7 (by decide) (fun hc => ?_) (fun hc => ?_)
  · have h := h.1 hc
    refine ac_aload_n 0 d_X5_keep_16 rfl rfl ?_
    obtain ⟨o2, hr, h⟩ := h
    refine ak_getf hr fl_X5_15 d_X5_keep_17 ?_
    refine ac_iconst (v := 0) d_X5_keep_20 rfl ?_
    refine ac_aload_n 0 d_X5_keep_21 rfl rfl ?_
    obtain ⟨o3, hr, h⟩ := h
    refine ak_getf hr fl_X5_9 d_X5_keep_22 ?_
    refine ac_aload_n 0 d_X5_keep_25 rfl rfl ?_
    obtain ⟨v4, hr, h⟩ := h
    refine ak_getf hr fl_X5_21 d_X5_keep_26 ?_
    refine ac_iconst (v := 4) d_X5_keep_29 rfl ?_
    refine ac_imul d_X5_keep_30 ?_
    refine ac_iconst (v := 4) d_X5_keep_31 rfl ?_
    obtain ⟨f5, hr, h⟩ := h
    refine ak_copyi 0 hr sc_X5_83 sc_nat sc_stat sc_ini rfl (by rw [hro]; decide) (by rw [hro]; decide) d_X5_keep_32 ?_
    refine ac_aload_n 0 d_X5_keep_35 rfl rfl ?_
    refine ac_dup d_X5_keep_36 rfl ?_
    obtain ⟨v6, hr, h⟩ := h
    refine ak_getf hr fl_X5_21 d_X5_keep_37 ?_
    refine ac_iconst (v := 1) d_X5_keep_40 rfl ?_
    refine ac_iadd d_X5_keep_41 ?_
    obtain ⟨f7, hr, h⟩ := h
    refine ak_putf hr fp_X5_21 rfl rfl d_X5_keep_42 ?_
    exact ac_vreturn hR ⟨rfl, h⟩ (by decide) (by decide) d_X5_keep_45
  · have h := h.2 hc
    refine ac_aload_n 0 d_X5_keep_10 rfl rfl ?_
    refine ac_iconst (v := 1) d_X5_keep_11 rfl ?_
    obtain ⟨f8, hr, h⟩ := h
    refine ak_putf hr fp_X5_25 rfl rfl d_X5_keep_12 ?_
    exact ac_vreturn hR ⟨rfl, h⟩ (by decide) (by decide) d_X5_keep_15

def wp_X4_told (ki : Nat → ClassId) (r0 : Nat) (x1 : Int32) (x2 : Int32) (f : ac_hp) (Q : Int32 → ac_hp → Prop) : Prop := ∃ o1 : Nat, hr_f f r0 4 1 (.ref o1) ∧ ∃ v2 : Int32, hr_i (ki 0) f o1 ((x1 * 2) + x2) v2 ∧ Q v2 f

set_option maxRecDepth 20000 in
set_option maxHeartbeats 4000000 in
theorem c_X4_told (l : Launch) (D : va_G) (ki : Nat → ClassId) (r0 : Nat) (x1 : Int32) (x2 : Int32) (f : ac_hp) (Q : Int32 → ac_hp → Prop) (h : wp_X4_told ki r0 x1 x2 f Q) : ac_met l D ki y_X4_told prog_6_method_5_code 3 (some .int) (ro_ 1 0 0) [.ref r0, .int x1, .int x2] f (qr_I Q) 0 0 := by
  refine ac_enter (fun ki => wp_X4_told ki r0 x1 x2 f Q) (by decide) (Nat.le_of_ble_eq_true rfl) h ?_
  intro x hro hR hnm h
  unfold wp_X4_told at h
  refine ac_aload_n 0 d_X4_told_0 rfl rfl ?_
  obtain ⟨o1, hr, h⟩ := h
  refine ak_getf hr fl_X4_15 d_X4_told_1 ?_
  refine ac_iload_n 1 d_X4_told_4 rfl rfl ?_
  refine ac_iconst (v := 2) d_X4_told_5 rfl ?_
  refine ac_imul d_X4_told_6 ?_
  refine ac_iload_n 2 d_X4_told_7 rfl rfl ?_
  refine ac_iadd d_X4_told_8 ?_
  obtain ⟨v2, hr, h⟩ := h
  refine ak_iald 0 hr rfl d_X4_told_9 ?_
  exact ac_ireturn hR rfl ⟨_, rfl, h⟩ (by decide) (by decide) d_X4_told_10

def wp_X0_isVariable (ki : Nat → ClassId) (x0 : Int32) (f : ac_hp) (Q : Int32 → ac_hp → Prop) : Prop := ((0 ≤ x0 → Q 0 f) ∧ (¬ 0 ≤ x0 → Q 1 f))

set_option maxRecDepth 20000 in
set_option maxHeartbeats 4000000 in
theorem c_X0_isVariable (l : Launch) (D : va_G) (ki : Nat → ClassId) (x0 : Int32) (f : ac_hp) (Q : Int32 → ac_hp → Prop) (h : wp_X0_isVariable ki x0 f Q) : ac_met l D ki y_X0_isVariable prog_1_method_20_code 1 (some .boolean) (ro_ 1 0 0) [.int x0] f (qr_I Q) 0 0 := by
  refine ac_enter (fun ki => wp_X0_isVariable ki x0 f Q) (by decide) (Nat.le_of_ble_eq_true rfl) h ?_
  intro x hro hR hnm h
  unfold wp_X0_isVariable at h
  refine ac_iload_n 0 d_X0_isVariable_0 rfl rfl ?_
  refine ac_if_ge (tgt := 8) d_X0_isVariable_1 (by decide) (fun hc => ?_) (fun hc => ?_)
  · have h := h.1 hc
    refine ac_iconst (v := 0) d_X0_isVariable_8 rfl ?_
    exact ac_ireturn hR rfl ⟨_, rfl, h⟩ (by decide) (by decide) d_X0_isVariable_9
  · have h := h.2 hc
    refine ac_iconst (v := 1) d_X0_isVariable_4 rfl ?_
    refine ac_goto (tgt := 9) d_X0_isVariable_5 (by decide) ?_
    exact ac_ireturn hR rfl ⟨_, rfl, h⟩ (by decide) (by decide) d_X0_isVariable_9

def wp_X0_variableOf (ki : Nat → ClassId) (x0 : Int32) (f : ac_hp) (Q : Int32 → ac_hp → Prop) : Prop := Q ((-1) - x0) f

set_option maxRecDepth 20000 in
set_option maxHeartbeats 4000000 in
theorem c_X0_variableOf (l : Launch) (D : va_G) (ki : Nat → ClassId) (x0 : Int32) (f : ac_hp) (Q : Int32 → ac_hp → Prop) (h : wp_X0_variableOf ki x0 f Q) : ac_met l D ki y_X0_variableOf prog_1_method_21_code 1 (some .int) (ro_ 1 0 0) [.int x0] f (qr_I Q) 0 0 := by
  refine ac_enter (fun ki => wp_X0_variableOf ki x0 f Q) (by decide) (Nat.le_of_ble_eq_true rfl) h ?_
  intro x hro hR hnm h
  unfold wp_X0_variableOf at h
  refine ac_iconst (v := -1) d_X0_variableOf_0 rfl ?_
  refine ac_iload_n 0 d_X0_variableOf_1 rfl rfl ?_
  refine ac_isub d_X0_variableOf_2 ?_
  exact ac_ireturn hR rfl ⟨_, rfl, h⟩ (by decide) (by decide) d_X0_variableOf_3

def wp_X0_has (ki : Nat → ClassId) (x0 : Int32) (x1 : Int32) (f : ac_hp) (Q : Int32 → ac_hp → Prop) : Prop := ((((x0 >>> (x1 &&& 31)) &&& 1) = 0 → Q 0 f) ∧ (¬ ((x0 >>> (x1 &&& 31)) &&& 1) = 0 → Q 1 f))

set_option maxRecDepth 20000 in
set_option maxHeartbeats 4000000 in
theorem c_X0_has (l : Launch) (D : va_G) (ki : Nat → ClassId) (x0 : Int32) (x1 : Int32) (f : ac_hp) (Q : Int32 → ac_hp → Prop) (h : wp_X0_has ki x0 x1 f Q) : ac_met l D ki y_X0_has prog_1_method_22_code 2 (some .boolean) (ro_ 1 0 0) [.int x0, .int x1] f (qr_I Q) 0 0 := by
  refine ac_enter (fun ki => wp_X0_has ki x0 x1 f Q) (by decide) (Nat.le_of_ble_eq_true rfl) h ?_
  intro x hro hR hnm h
  unfold wp_X0_has at h
  refine ac_iload_n 0 d_X0_has_0 rfl rfl ?_
  refine ac_iload_n 1 d_X0_has_1 rfl rfl ?_
  refine ac_ishr d_X0_has_2 ?_
  refine ac_iconst (v := 1) d_X0_has_3 rfl ?_
  refine ac_iand d_X0_has_4 ?_
  refine ac_if_eq (tgt := 12) d_X0_has_5 (by decide) (fun hc => ?_) (fun hc => ?_)
  · have h := h.1 hc
    refine ac_iconst (v := 0) d_X0_has_12 rfl ?_
    exact ac_ireturn hR rfl ⟨_, rfl, h⟩ (by decide) (by decide) d_X0_has_13
  · have h := h.2 hc
    refine ac_iconst (v := 1) d_X0_has_8 rfl ?_
    refine ac_goto (tgt := 13) d_X0_has_9 (by decide) ?_
    exact ac_ireturn hR rfl ⟨_, rfl, h⟩ (by decide) (by decide) d_X0_has_13

def wp_X0_with (ki : Nat → ClassId) (x0 : Int32) (x1 : Int32) (f : ac_hp) (Q : Int32 → ac_hp → Prop) : Prop := Q (x0 ||| ((1 : Int32) <<< (x1 &&& 31))) f

set_option maxRecDepth 20000 in
set_option maxHeartbeats 4000000 in
theorem c_X0_with (l : Launch) (D : va_G) (ki : Nat → ClassId) (x0 : Int32) (x1 : Int32) (f : ac_hp) (Q : Int32 → ac_hp → Prop) (h : wp_X0_with ki x0 x1 f Q) : ac_met l D ki y_X0_with prog_1_method_23_code 2 (some .int) (ro_ 1 0 0) [.int x0, .int x1] f (qr_I Q) 0 0 := by
  refine ac_enter (fun ki => wp_X0_with ki x0 x1 f Q) (by decide) (Nat.le_of_ble_eq_true rfl) h ?_
  intro x hro hR hnm h
  unfold wp_X0_with at h
  refine ac_iload_n 0 d_X0_with_0 rfl rfl ?_
  refine ac_iconst (v := 1) d_X0_with_1 rfl ?_
  refine ac_iload_n 1 d_X0_with_2 rfl rfl ?_
  refine ac_ishl d_X0_with_3 ?_
  refine ac_ior d_X0_with_4 ?_
  exact ac_ireturn hR rfl ⟨_, rfl, h⟩ (by decide) (by decide) d_X0_with_5

def wp_X5_chosen (ki : Nat → ClassId) (r0 : Nat) (x1 : Int32) (x2 : Int32) (f : ac_hp) (Q : Int32 → ac_hp → Prop) : Prop := ∃ o1 : Nat, hr_f f r0 5 2 (.ref o1) ∧ ∃ v2 : Int32, hr_i (ki 0) f o1 ((x1 * 4) + x2) v2 ∧ Q v2 f

set_option maxRecDepth 20000 in
set_option maxHeartbeats 4000000 in
theorem c_X5_chosen (l : Launch) (D : va_G) (ki : Nat → ClassId) (r0 : Nat) (x1 : Int32) (x2 : Int32) (f : ac_hp) (Q : Int32 → ac_hp → Prop) (h : wp_X5_chosen ki r0 x1 x2 f Q) : ac_met l D ki y_X5_chosen prog_7_method_2_code 3 (some .int) (ro_ 1 0 0) [.ref r0, .int x1, .int x2] f (qr_I Q) 0 0 := by
  refine ac_enter (fun ki => wp_X5_chosen ki r0 x1 x2 f Q) (by decide) (Nat.le_of_ble_eq_true rfl) h ?_
  intro x hro hR hnm h
  unfold wp_X5_chosen at h
  refine ac_aload_n 0 d_X5_chosen_0 rfl rfl ?_
  obtain ⟨o1, hr, h⟩ := h
  refine ak_getf hr fl_X5_9 d_X5_chosen_1 ?_
  refine ac_iload_n 1 d_X5_chosen_4 rfl rfl ?_
  refine ac_iconst (v := 4) d_X5_chosen_5 rfl ?_
  refine ac_imul d_X5_chosen_6 ?_
  refine ac_iload_n 2 d_X5_chosen_7 rfl rfl ?_
  refine ac_iadd d_X5_chosen_8 ?_
  obtain ⟨v2, hr, h⟩ := h
  refine ak_iald 0 hr rfl d_X5_chosen_9 ?_
  exact ac_ireturn hR rfl ⟨_, rfl, h⟩ (by decide) (by decide) d_X5_chosen_10

def wp_X7_begin (ki : Nat → ClassId) (r0 : Nat) (x1 : Int32) (f : ac_hp) (Q : ac_hp → Prop) : Prop := ∃ f1, hw_f f r0 7 4 (.int 0) f1 ∧ ∃ f2, hw_f f1 r0 7 5 (.int x1) f2 ∧ ∃ f3, hw_f f2 r0 7 6 (.int 0) f3 ∧ Q f3

set_option maxRecDepth 20000 in
set_option maxHeartbeats 4000000 in
theorem c_X7_begin (l : Launch) (D : va_G) (ki : Nat → ClassId) (r0 : Nat) (x1 : Int32) (f : ac_hp) (Q : ac_hp → Prop) (h : wp_X7_begin ki r0 x1 f Q) : ac_met l D ki y_X7_begin prog_2_method_2_code 2 none (ro_ 1 0 0) [.ref r0, .int x1] f (qr_V Q) 0 0 := by
  refine ac_enter (fun ki => wp_X7_begin ki r0 x1 f Q) (by decide) (Nat.le_of_ble_eq_true rfl) h ?_
  intro x hro hR hnm h
  unfold wp_X7_begin at h
  refine ac_aload_n 0 d_X7_begin_0 rfl rfl ?_
  refine ac_iconst (v := 0) d_X7_begin_1 rfl ?_
  obtain ⟨f1, hr, h⟩ := h
  refine ak_putf hr fp_X7_24 rfl rfl d_X7_begin_2 ?_
  refine ac_aload_n 0 d_X7_begin_5 rfl rfl ?_
  refine ac_iload_n 1 d_X7_begin_6 rfl rfl ?_
  obtain ⟨f2, hr, h⟩ := h
  refine ak_putf hr fp_X7_28 rfl rfl d_X7_begin_7 ?_
  refine ac_aload_n 0 d_X7_begin_10 rfl rfl ?_
  refine ac_iconst (v := 0) d_X7_begin_11 rfl ?_
  obtain ⟨f3, hr, h⟩ := h
  refine ak_putf hr fp_X7_31 rfl rfl d_X7_begin_12 ?_
  exact ac_vreturn hR ⟨rfl, h⟩ (by decide) (by decide) d_X7_begin_15

def wp_X4_allows (ki : Nat → ClassId) (r0 : Nat) (x1 : Int32) (x2 : Int32) (f : ac_hp) (Q : Int32 → ac_hp → Prop) : Prop := ∃ o1 : Nat, hr_f f r0 4 2 (.ref o1) ∧ ∃ v2 : Int32, hr_i (ki 0) f o1 x1 v2 ∧ ((x2 < v2 → Q 0 f) ∧ (¬ x2 < v2 → ∃ o3 : Nat, hr_f f r0 4 3 (.ref o3) ∧ ∃ v4 : Int32, hr_i (ki 0) f o3 x1 v4 ∧ ((v4 < x2 → Q 0 f) ∧ (¬ v4 < x2 → Q 1 f))))

set_option maxRecDepth 20000 in
set_option maxHeartbeats 4000000 in
theorem c_X4_allows (l : Launch) (D : va_G) (ki : Nat → ClassId) (r0 : Nat) (x1 : Int32) (x2 : Int32) (f : ac_hp) (Q : Int32 → ac_hp → Prop) (h : wp_X4_allows ki r0 x1 x2 f Q) : ac_met l D ki y_X4_allows prog_6_method_6_code 3 (some .boolean) (ro_ 1 0 0) [.ref r0, .int x1, .int x2] f (qr_I Q) 0 0 := by
  refine ac_enter (fun ki => wp_X4_allows ki r0 x1 x2 f Q) (by decide) (Nat.le_of_ble_eq_true rfl) h ?_
  intro x hro hR hnm h
  unfold wp_X4_allows at h
  refine ac_iload_n 2 d_X4_allows_0 rfl rfl ?_
  refine ac_aload_n 0 d_X4_allows_1 rfl rfl ?_
  obtain ⟨o1, hr, h⟩ := h
  refine ak_getf hr fl_X4_18 d_X4_allows_2 ?_
  refine ac_iload_n 1 d_X4_allows_5 rfl rfl ?_
  obtain ⟨v2, hr, h⟩ := h
  refine ak_iald 0 hr rfl d_X4_allows_6 ?_
  refine ac_icmp_lt (tgt := 24) d_X4_allows_7 (by decide) (fun hc => ?_) (fun hc => ?_)
  · have h := h.1 hc
    refine ac_iconst (v := 0) d_X4_allows_24 rfl ?_
    exact ac_ireturn hR rfl ⟨_, rfl, h⟩ (by decide) (by decide) d_X4_allows_25
  · have h := h.2 hc
    refine ac_iload_n 2 d_X4_allows_10 rfl rfl ?_
    refine ac_aload_n 0 d_X4_allows_11 rfl rfl ?_
    obtain ⟨o3, hr, h⟩ := h
    refine ak_getf hr fl_X4_21 d_X4_allows_12 ?_
    refine ac_iload_n 1 d_X4_allows_15 rfl rfl ?_
    obtain ⟨v4, hr, h⟩ := h
    refine ak_iald 0 hr rfl d_X4_allows_16 ?_
    refine ac_icmp_gt (tgt := 24) d_X4_allows_17 (by decide) (fun hc => ?_) (fun hc => ?_)
    · have h := h.1 hc
      refine ac_iconst (v := 0) d_X4_allows_24 rfl ?_
      exact ac_ireturn hR rfl ⟨_, rfl, h⟩ (by decide) (by decide) d_X4_allows_25
    · have h := h.2 hc
      refine ac_iconst (v := 1) d_X4_allows_20 rfl ?_
      refine ac_goto (tgt := 25) d_X4_allows_21 (by decide) ?_
      exact ac_ireturn hR rfl ⟨_, rfl, h⟩ (by decide) (by decide) d_X4_allows_25

def wp_JInteger_bitCount (ki : Nat → ClassId) (x0 : Int32) (f : ac_hp) (Q : Int32 → ac_hp → Prop) : Prop := ∀ v1 : Int32, v1 = x0 - (((x0.toUInt32 >>> ((1 : Int32).toUInt32 &&& Int32.toUInt32 31)).toInt32) &&& 1431655765) → ∀ v2 : Int32, v2 = (v1 &&& 858993459) + (((v1.toUInt32 >>> ((2 : Int32).toUInt32 &&& Int32.toUInt32 31)).toInt32) &&& 858993459) → ∀ v3 : Int32, v3 = (v2 + ((v2.toUInt32 >>> ((4 : Int32).toUInt32 &&& Int32.toUInt32 31)).toInt32)) &&& 252645135 → ∀ v4 : Int32, v4 = v3 + ((v3.toUInt32 >>> ((8 : Int32).toUInt32 &&& Int32.toUInt32 31)).toInt32) → ∀ v5 : Int32, v5 = v4 + ((v4.toUInt32 >>> ((16 : Int32).toUInt32 &&& Int32.toUInt32 31)).toInt32) → Q (v5 &&& 63) f

set_option maxRecDepth 20000 in
set_option maxHeartbeats 4000000 in
theorem c_JInteger_bitCount (l : Launch) (D : va_G) (ki : Nat → ClassId) (x0 : Int32) (f : ac_hp) (Q : Int32 → ac_hp → Prop) (h : wp_JInteger_bitCount ki x0 f Q) : ac_met l D ki y_JInteger_bitCount prog_14_method_49_code 1 (some .int) (ro_ 1 0 0) [.int x0] f (qr_I Q) 0 0 := by
  refine ac_enterF (fun ki => wp_JInteger_bitCount ki x0 f Q) (by decide +kernel) (Nat.le_of_ble_eq_true rfl) h ?_
  intro x hro hR hnm h
  unfold wp_JInteger_bitCount at h
  refine ac_iload_n 0 d_JInteger_bitCount_0 rfl rfl ?_
  refine ac_iload_n 0 d_JInteger_bitCount_1 rfl rfl ?_
  refine ac_iconst (v := 1) d_JInteger_bitCount_2 rfl ?_
  refine ac_iushr d_JInteger_bitCount_3 ?_
  refine ac_ldcw (v := 1431655765) kc_JInteger_265 d_JInteger_bitCount_4 ?_
  refine ac_iand d_JInteger_bitCount_7 ?_
  refine ac_isub d_JInteger_bitCount_8 ?_
  refine ak_topi (fun v1 ev1 => ?_)
  have h := h v1 ev1
  refine ac_istore_n (lv' := [(0, .int v1)]) d_JInteger_bitCount_9 rfl (by decide) rfl ?_
  refine ac_iload_n 0 d_JInteger_bitCount_10 rfl rfl ?_
  refine ac_ldcw (v := 858993459) kc_JInteger_266 d_JInteger_bitCount_11 ?_
  refine ac_iand d_JInteger_bitCount_14 ?_
  refine ac_iload_n 0 d_JInteger_bitCount_15 rfl rfl ?_
  refine ac_iconst (v := 2) d_JInteger_bitCount_16 rfl ?_
  refine ac_iushr d_JInteger_bitCount_17 ?_
  refine ac_ldcw (v := 858993459) kc_JInteger_266 d_JInteger_bitCount_18 ?_
  refine ac_iand d_JInteger_bitCount_21 ?_
  refine ac_iadd d_JInteger_bitCount_22 ?_
  refine ak_topi (fun v2 ev2 => ?_)
  have h := h v2 ev2
  refine ac_istore_n (lv' := [(0, .int v2)]) d_JInteger_bitCount_23 rfl (by decide) rfl ?_
  refine ac_iload_n 0 d_JInteger_bitCount_24 rfl rfl ?_
  refine ac_iload_n 0 d_JInteger_bitCount_25 rfl rfl ?_
  refine ac_iconst (v := 4) d_JInteger_bitCount_26 rfl ?_
  refine ac_iushr d_JInteger_bitCount_27 ?_
  refine ac_iadd d_JInteger_bitCount_28 ?_
  refine ac_ldcw (v := 252645135) kc_JInteger_267 d_JInteger_bitCount_29 ?_
  refine ac_iand d_JInteger_bitCount_32 ?_
  refine ak_topi (fun v3 ev3 => ?_)
  have h := h v3 ev3
  refine ac_istore_n (lv' := [(0, .int v3)]) d_JInteger_bitCount_33 rfl (by decide) rfl ?_
  refine ac_iload_n 0 d_JInteger_bitCount_34 rfl rfl ?_
  refine ac_iload_n 0 d_JInteger_bitCount_35 rfl rfl ?_
  refine ac_bipush (v := 8) d_JInteger_bitCount_36 rfl ?_
  refine ac_iushr d_JInteger_bitCount_38 ?_
  refine ac_iadd d_JInteger_bitCount_39 ?_
  refine ak_topi (fun v4 ev4 => ?_)
  have h := h v4 ev4
  refine ac_istore_n (lv' := [(0, .int v4)]) d_JInteger_bitCount_40 rfl (by decide) rfl ?_
  refine ac_iload_n 0 d_JInteger_bitCount_41 rfl rfl ?_
  refine ac_iload_n 0 d_JInteger_bitCount_42 rfl rfl ?_
  refine ac_bipush (v := 16) d_JInteger_bitCount_43 rfl ?_
  refine ac_iushr d_JInteger_bitCount_45 ?_
  refine ac_iadd d_JInteger_bitCount_46 ?_
  refine ak_topi (fun v5 ev5 => ?_)
  have h := h v5 ev5
  refine ac_istore_n (lv' := [(0, .int v5)]) d_JInteger_bitCount_47 rfl (by decide) rfl ?_
  refine ac_iload_n 0 d_JInteger_bitCount_48 rfl rfl ?_
  refine ac_bipush (v := 63) d_JInteger_bitCount_49 rfl ?_
  refine ac_iand d_JInteger_bitCount_51 ?_
  exact ac_ireturn hR rfl ⟨_, rfl, h⟩ (by decide) (by decide) d_JInteger_bitCount_52

def wp_X7_code (ki : Nat → ClassId) (r0 : Nat) (x1 : Int32) (x2 : Int32) (f : ac_hp) (Q : Int32 → ac_hp → Prop) : Prop := ∃ o1 : Nat, hr_f f r0 7 0 (.ref o1) ∧ ∃ o2 : Nat, hr_f f r0 7 1 (.ref o2) ∧ ∃ v3 : Int32, hr_i (ki 0) f o2 x1 v3 ∧ ∃ v4 : Int32, hr_i (ki 0) f o1 ((v3 * 6) + x2) v4 ∧ Q v4 f

set_option maxRecDepth 20000 in
set_option maxHeartbeats 4000000 in
theorem c_X7_code (l : Launch) (D : va_G) (ki : Nat → ClassId) (r0 : Nat) (x1 : Int32) (x2 : Int32) (f : ac_hp) (Q : Int32 → ac_hp → Prop) (h : wp_X7_code ki r0 x1 x2 f Q) : ac_met l D ki y_X7_code prog_2_method_3_code 3 (some .int) (ro_ 1 0 0) [.ref r0, .int x1, .int x2] f (qr_I Q) 0 0 := by
  refine ac_enter (fun ki => wp_X7_code ki r0 x1 x2 f Q) (by decide) (Nat.le_of_ble_eq_true rfl) h ?_
  intro x hro hR hnm h
  unfold wp_X7_code at h
  refine ac_aload_n 0 d_X7_code_0 rfl rfl ?_
  obtain ⟨o1, hr, h⟩ := h
  refine ak_getf hr fl_X7_9 d_X7_code_1 ?_
  refine ac_aload_n 0 d_X7_code_4 rfl rfl ?_
  obtain ⟨o2, hr, h⟩ := h
  refine ak_getf hr fl_X7_15 d_X7_code_5 ?_
  refine ac_iload_n 1 d_X7_code_8 rfl rfl ?_
  obtain ⟨v3, hr, h⟩ := h
  refine ak_iald 0 hr rfl d_X7_code_9 ?_
  refine ac_bipush (v := 6) d_X7_code_10 rfl ?_
  refine ac_imul d_X7_code_12 ?_
  refine ac_iload_n 2 d_X7_code_13 rfl rfl ?_
  refine ac_iadd d_X7_code_14 ?_
  obtain ⟨v4, hr, h⟩ := h
  refine ak_iald 0 hr rfl d_X7_code_15 ?_
  exact ac_ireturn hR rfl ⟨_, rfl, h⟩ (by decide) (by decide) d_X7_code_16

def wp_X7_insert (ki : Nat → ClassId) (r0 : Nat) (x1 : Int32) (r2 : Nat) (x3 : Int32) (f : ac_hp) (Q : ac_hp → Prop) : Prop := ∃ o1 : Nat, hr_f f r0 7 0 (.ref o1) ∧ ∃ v2 : Int32, hr_f f r0 7 4 (.int v2) ∧ ∃ f3, hw_c (ki 0) f r2 0 o1 (v2 * 6) 6 f3 ∧ ∃ o4 : Nat, hr_f f3 r0 7 2 (.ref o4) ∧ ∃ v5 : Int32, hr_f f3 r0 7 4 (.int v5) ∧ ∃ f6, hw_i (ki 0) f3 o4 v5 1 f6 ∧ ∃ o7 : Nat, hr_f f6 r0 7 3 (.ref o7) ∧ ∃ v8 : Int32, hr_f f6 r0 7 4 (.int v8) ∧ ∃ f9, hw_i (ki 0) f6 o7 v8 x3 f9 ∧ ∃ o10 : Nat, hr_f f9 r0 7 1 (.ref o10) ∧ ∃ o11 : Nat, hr_f f9 r0 7 1 (.ref o11) ∧ ∃ v12 : Int32, hr_f f9 r0 7 4 (.int v12) ∧ ∃ f13, hw_c (ki 0) f9 o10 x1 o11 (x1 + 1) (v12 - x1) f13 ∧ ∃ o14 : Nat, hr_f f13 r0 7 1 (.ref o14) ∧ ∃ v15 : Int32, hr_f f13 r0 7 4 (.int v15) ∧ ∃ f16, hw_i (ki 0) f13 o14 x1 v15 f16 ∧ ∃ v17 : Int32, hr_f f16 r0 7 4 (.int v17) ∧ ∃ f18, hw_f f16 r0 7 4 (.int (v17 + 1)) f18 ∧ Q f18

set_option maxRecDepth 20000 in
set_option maxHeartbeats 4000000 in
theorem c_X7_insert (l : Launch) (D : va_G) (ki : Nat → ClassId) (r0 : Nat) (x1 : Int32) (r2 : Nat) (x3 : Int32) (f : ac_hp) (Q : ac_hp → Prop) (h : wp_X7_insert ki r0 x1 r2 x3 f Q) : ac_met l D ki y_X7_insert prog_2_method_7_code 4 none (ro_ 1 0 0) [.ref r0, .int x1, .ref r2, .int x3] f (qr_V Q) 0 0 := by
  refine ac_enter (fun ki => wp_X7_insert ki r0 x1 r2 x3 f Q) (by decide) (Nat.le_of_ble_eq_true rfl) h ?_
  intro x hro hR hnm h
  unfold wp_X7_insert at h
  refine ac_aload_n 2 d_X7_insert_0 rfl rfl ?_
  refine ac_iconst (v := 0) d_X7_insert_1 rfl ?_
  refine ac_aload_n 0 d_X7_insert_2 rfl rfl ?_
  obtain ⟨o1, hr, h⟩ := h
  refine ak_getf hr fl_X7_9 d_X7_insert_3 ?_
  refine ac_aload_n 0 d_X7_insert_6 rfl rfl ?_
  obtain ⟨v2, hr, h⟩ := h
  refine ak_getf hr fl_X7_24 d_X7_insert_7 ?_
  refine ac_bipush (v := 6) d_X7_insert_10 rfl ?_
  refine ac_imul d_X7_insert_12 ?_
  refine ac_bipush (v := 6) d_X7_insert_13 rfl ?_
  obtain ⟨f3, hr, h⟩ := h
  refine ak_copyi 0 hr sc_X7_47 sc_nat sc_stat sc_ini rfl (by rw [hro]; decide) (by rw [hro]; decide) d_X7_insert_15 ?_
  refine ac_aload_n 0 d_X7_insert_18 rfl rfl ?_
  obtain ⟨o4, hr, h⟩ := h
  refine ak_getf hr fl_X7_18 d_X7_insert_19 ?_
  refine ac_aload_n 0 d_X7_insert_22 rfl rfl ?_
  obtain ⟨v5, hr, h⟩ := h
  refine ak_getf hr fl_X7_24 d_X7_insert_23 ?_
  refine ac_iconst (v := 1) d_X7_insert_26 rfl ?_
  obtain ⟨f6, hr, h⟩ := h
  refine ak_iast 0 hr rfl d_X7_insert_27 ?_
  refine ac_aload_n 0 d_X7_insert_28 rfl rfl ?_
  obtain ⟨o7, hr, h⟩ := h
  refine ak_getf hr fl_X7_21 d_X7_insert_29 ?_
  refine ac_aload_n 0 d_X7_insert_32 rfl rfl ?_
  obtain ⟨v8, hr, h⟩ := h
  refine ak_getf hr fl_X7_24 d_X7_insert_33 ?_
  refine ac_iload_n 3 d_X7_insert_36 rfl rfl ?_
  obtain ⟨f9, hr, h⟩ := h
  refine ak_iast 0 hr rfl d_X7_insert_37 ?_
  refine ac_aload_n 0 d_X7_insert_38 rfl rfl ?_
  obtain ⟨o10, hr, h⟩ := h
  refine ak_getf hr fl_X7_15 d_X7_insert_39 ?_
  refine ac_iload_n 1 d_X7_insert_42 rfl rfl ?_
  refine ac_aload_n 0 d_X7_insert_43 rfl rfl ?_
  obtain ⟨o11, hr, h⟩ := h
  refine ak_getf hr fl_X7_15 d_X7_insert_44 ?_
  refine ac_iload_n 1 d_X7_insert_47 rfl rfl ?_
  refine ac_iconst (v := 1) d_X7_insert_48 rfl ?_
  refine ac_iadd d_X7_insert_49 ?_
  refine ac_aload_n 0 d_X7_insert_50 rfl rfl ?_
  obtain ⟨v12, hr, h⟩ := h
  refine ak_getf hr fl_X7_24 d_X7_insert_51 ?_
  refine ac_iload_n 1 d_X7_insert_54 rfl rfl ?_
  refine ac_isub d_X7_insert_55 ?_
  obtain ⟨f13, hr, h⟩ := h
  refine ak_copyi 0 hr sc_X7_47 sc_nat sc_stat sc_ini rfl (by rw [hro]; decide) (by rw [hro]; decide) d_X7_insert_56 ?_
  refine ac_aload_n 0 d_X7_insert_59 rfl rfl ?_
  obtain ⟨o14, hr, h⟩ := h
  refine ak_getf hr fl_X7_15 d_X7_insert_60 ?_
  refine ac_iload_n 1 d_X7_insert_63 rfl rfl ?_
  refine ac_aload_n 0 d_X7_insert_64 rfl rfl ?_
  obtain ⟨v15, hr, h⟩ := h
  refine ak_getf hr fl_X7_24 d_X7_insert_65 ?_
  obtain ⟨f16, hr, h⟩ := h
  refine ak_iast 0 hr rfl d_X7_insert_68 ?_
  refine ac_aload_n 0 d_X7_insert_69 rfl rfl ?_
  refine ac_dup d_X7_insert_70 rfl ?_
  obtain ⟨v17, hr, h⟩ := h
  refine ak_getf hr fl_X7_24 d_X7_insert_71 ?_
  refine ac_iconst (v := 1) d_X7_insert_74 rfl ?_
  refine ac_iadd d_X7_insert_75 ?_
  obtain ⟨f18, hr, h⟩ := h
  refine ak_putf hr fp_X7_24 rfl rfl d_X7_insert_76 ?_
  exact ac_vreturn hR ⟨rfl, h⟩ (by decide) (by decide) d_X7_insert_79

def wp_X7_finders (ki : Nat → ClassId) (r0 : Nat) (x1 : Int32) (f : ac_hp) (Q : Int32 → ac_hp → Prop) : Prop := ∃ o1 : Nat, hr_f f r0 7 2 (.ref o1) ∧ ∃ o2 : Nat, hr_f f r0 7 1 (.ref o2) ∧ ∃ v3 : Int32, hr_i (ki 0) f o2 x1 v3 ∧ ∃ v4 : Int32, hr_i (ki 0) f o1 v3 v4 ∧ Q v4 f

set_option maxRecDepth 20000 in
set_option maxHeartbeats 4000000 in
theorem c_X7_finders (l : Launch) (D : va_G) (ki : Nat → ClassId) (r0 : Nat) (x1 : Int32) (f : ac_hp) (Q : Int32 → ac_hp → Prop) (h : wp_X7_finders ki r0 x1 f Q) : ac_met l D ki y_X7_finders prog_2_method_4_code 2 (some .int) (ro_ 1 0 0) [.ref r0, .int x1] f (qr_I Q) 0 0 := by
  refine ac_enter (fun ki => wp_X7_finders ki r0 x1 f Q) (by decide) (Nat.le_of_ble_eq_true rfl) h ?_
  intro x hro hR hnm h
  unfold wp_X7_finders at h
  refine ac_aload_n 0 d_X7_finders_0 rfl rfl ?_
  obtain ⟨o1, hr, h⟩ := h
  refine ak_getf hr fl_X7_18 d_X7_finders_1 ?_
  refine ac_aload_n 0 d_X7_finders_4 rfl rfl ?_
  obtain ⟨o2, hr, h⟩ := h
  refine ak_getf hr fl_X7_15 d_X7_finders_5 ?_
  refine ac_iload_n 1 d_X7_finders_8 rfl rfl ?_
  obtain ⟨v3, hr, h⟩ := h
  refine ak_iald 0 hr rfl d_X7_finders_9 ?_
  obtain ⟨v4, hr, h⟩ := h
  refine ak_iald 0 hr rfl d_X7_finders_10 ?_
  exact ac_ireturn hR rfl ⟨_, rfl, h⟩ (by decide) (by decide) d_X7_finders_11

def wp_X7_firstFinder (ki : Nat → ClassId) (r0 : Nat) (x1 : Int32) (f : ac_hp) (Q : Int32 → ac_hp → Prop) : Prop := ∃ o1 : Nat, hr_f f r0 7 3 (.ref o1) ∧ ∃ o2 : Nat, hr_f f r0 7 1 (.ref o2) ∧ ∃ v3 : Int32, hr_i (ki 0) f o2 x1 v3 ∧ ∃ v4 : Int32, hr_i (ki 0) f o1 v3 v4 ∧ Q v4 f

set_option maxRecDepth 20000 in
set_option maxHeartbeats 4000000 in
theorem c_X7_firstFinder (l : Launch) (D : va_G) (ki : Nat → ClassId) (r0 : Nat) (x1 : Int32) (f : ac_hp) (Q : Int32 → ac_hp → Prop) (h : wp_X7_firstFinder ki r0 x1 f Q) : ac_met l D ki y_X7_firstFinder prog_2_method_5_code 2 (some .int) (ro_ 1 0 0) [.ref r0, .int x1] f (qr_I Q) 0 0 := by
  refine ac_enter (fun ki => wp_X7_firstFinder ki r0 x1 f Q) (by decide) (Nat.le_of_ble_eq_true rfl) h ?_
  intro x hro hR hnm h
  unfold wp_X7_firstFinder at h
  refine ac_aload_n 0 d_X7_firstFinder_0 rfl rfl ?_
  obtain ⟨o1, hr, h⟩ := h
  refine ak_getf hr fl_X7_21 d_X7_firstFinder_1 ?_
  refine ac_aload_n 0 d_X7_firstFinder_4 rfl rfl ?_
  obtain ⟨o2, hr, h⟩ := h
  refine ak_getf hr fl_X7_15 d_X7_firstFinder_5 ?_
  refine ac_iload_n 1 d_X7_firstFinder_8 rfl rfl ?_
  obtain ⟨v3, hr, h⟩ := h
  refine ak_iald 0 hr rfl d_X7_firstFinder_9 ?_
  obtain ⟨v4, hr, h⟩ := h
  refine ak_iald 0 hr rfl d_X7_firstFinder_10 ?_
  exact ac_ireturn hR rfl ⟨_, rfl, h⟩ (by decide) (by decide) d_X7_firstFinder_11

def wp_X1_init_L42 (ki : Nat → ClassId) (r0 : Nat) (E66 : Nat → Nat → ac_hp → Prop) : Nat → Int32 → Nat → Nat → ac_hp → Prop
  | 0, _, _, _, _ => False
  | n + 1, x1, kc, ks, f => ((4 ≤ x1 → E66 kc ks f) ∧ (¬ 4 ≤ x1 → ∃ o12 : Nat, hr_f f r0 1 0 (.ref o12) ∧ (kc + 1 ≤ 51 ∧ ks + 3 ≤ 616) ∧ ∀ q13, f q13 = none → ∀ f14, f14 = ac_up f q13 (.inr (2, [.null, .null, .int 0])) → (kc + 1 + 2 ≤ 51 ∧ ks + 3 + 63 ≤ 616) ∧ wp_X2_init ki q13 f14 (fun f15 => ∃ f16, hw_q (ki 3) 2 f15 o12 x1 q13 f16 ∧ ∀ v17 : Int32, v17 = x1 + 1 → wp_X1_init_L42 ki r0 E66 n v17 (kc + 1 + 2) (ks + 3 + 63) f16)))

def wp_X1_init_L68 (ki : Nat → ClassId) (r0 : Nat) (E93 : Nat → Nat → ac_hp → Prop) : Nat → Int32 → Nat → Nat → ac_hp → Prop
  | 0, _, _, _, _ => False
  | n + 1, x1, kc, ks, f => ((12 ≤ x1 → E93 kc ks f) ∧ (¬ 12 ≤ x1 → ∃ o22 : Nat, hr_f f r0 1 1 (.ref o22) ∧ (kc + 1 ≤ 51 ∧ ks + 4 ≤ 616) ∧ ∀ q23, f q23 = none → ∀ f24, f24 = ac_up f q23 (.inr (3, [.null, .null, .int 0, .int 0])) → (kc + 1 + 2 ≤ 51 ∧ ks + 4 + 4 ≤ 616) ∧ wp_X3_init ki q23 f24 (fun f25 => ∃ f26, hw_q (ki 4) 3 f25 o22 x1 q23 f26 ∧ ∀ v27 : Int32, v27 = x1 + 1 → wp_X1_init_L68 ki r0 E93 n v27 (kc + 1 + 2) (ks + 4 + 4) f26)))

def wp_X1_init (ki : Nat → ClassId) (r0 : Nat) (f : ac_hp) (Q : ac_hp → Prop) : Prop := (0 + 1 ≤ 51 ∧ 0 + 4 ≤ 616) ∧ ∀ q1, f q1 = none → ∀ f2, f2 = ac_up f q1 (.inl (ki 3, 4, .inr (.inr (.inr (.inr (fun _ => none)))))) → ∃ f3, hw_f f2 r0 1 0 (.ref q1) f3 ∧ (0 + 1 + 1 ≤ 51 ∧ 0 + 4 + 12 ≤ 616) ∧ ∀ q4, f3 q4 = none → ∀ f5, f5 = ac_up f3 q4 (.inl (ki 4, 12, .inr (.inr (.inr (.inr (fun _ => none)))))) → ∃ f6, hw_f f5 r0 1 1 (.ref q4) f6 ∧ (0 + 1 + 1 + 1 ≤ 51 ∧ 0 + 4 + 12 + 240 ≤ 616) ∧ ∀ q7, f6 q7 = none → ∀ f8, f8 = ac_up f6 q7 (.inl (ki 2, 240, .inr (.inl (fun _ => 0)))) → ∃ f9, hw_f f8 r0 1 2 (.ref q7) f9 ∧ ∃ f10, hw_f f9 r0 1 3 (.int 0) f10 ∧ ∃ f11, hw_f f10 r0 1 4 (.int 0) f11 ∧ ∃ n18, wp_X1_init_L42 ki r0 (fun kc20 ks21 f19 => ∃ n28, wp_X1_init_L68 ki r0 (fun kc30 ks31 f29 => (kc30 ≤ 51 ∧ ks31 ≤ 616) ∧ Q f29) n28 0 kc20 ks21 f19) n18 0 (0 + 1 + 1 + 1) (0 + 4 + 12 + 240) f11

set_option maxRecDepth 20000 in
set_option maxHeartbeats 4000000 in
theorem ok_X1_init_L42 {x : ac_X} (hro : ac_R x = (ro_ 2 51 616)) (hnm : (ac_meth x).name = "<init>") (r0 : Nat) (E66 : Nat → Nat → ac_hp → Prop) (hE66 : ∀ (kc ks : Nat) (f : ac_hp), E66 kc ks f → ac_At (prog_3_method_1_code, 2, "VirtualRewrite$Catalog") x kc ks 66 [(0, .ref r0)] [] f) : ∀ (n : Nat) (x1 : Int32) (kc ks : Nat) (f : ac_hp), wp_X1_init_L42 (ac_ki x) r0 E66 n x1 kc ks f → ac_At (prog_3_method_1_code, 2, "VirtualRewrite$Catalog") x kc ks 42 [(0, .ref r0), (1, .int x1)] [] f := by
  intro n
  induction n with
  | zero => intro _ _ _ _ h; exact h.elim
  | succ n ih =>
    intro x1 kc ks f h
    rw [wp_X1_init_L42] at h
    refine ac_iload_n 1 d_X1_init_42 rfl rfl ?_
    refine ac_iconst (v := 4) d_X1_init_43 rfl ?_
    refine ac_icmp_ge (tgt := 66) d_X1_init_44 (by decide) (fun hc => ?_) (fun hc => ?_)
    · have h := h.1 hc
      refine ac_weak [0] rfl ?_
      exact hE66 kc ks f h
    · have h := h.2 hc
      refine ac_aload_n 0 d_X1_init_47 rfl rfl ?_
      obtain ⟨o12, hr, h⟩ := h
      refine ak_getf hr fl_X1_11 d_X1_init_48 ?_
      refine ac_iload_n 1 d_X1_init_51 rfl rfl ?_
      have hk := h.1
      have h := h.2
      refine ac_newo cn_X1_9 (by rw [hro]; exact hk.1) (by rw [hro]; exact hk.2) d_X1_init_52 (fun q13 hq => ?_)
      have h := h q13 hq
      obtain ⟨f14, ef14⟩ : ∃ z, z = ac_up f q13 (.inr (2, [.null, .null, .int 0])) := ⟨_, rfl⟩
      have h := h f14 ef14
      rw [← ef14]
      refine ac_dup d_X1_init_55 rfl ?_
      have hk := h.1
      have h := h.2
      refine ac_callIN cd_X2_init ml_X1_34 in_X2_init rfl (c_X2_init _ _ _ q13 f14 _ h) rfl rfl (by rw [hro]; constructor <;> simp only [ro_] <;> omega) rfl (rest := [.ref q13, .int x1, .ref o12]) rfl (Nat.le_of_ble_eq_true rfl) (by rw [hro]; exact hk) d_X1_init_56 (ac_V (fun f15 h => ?_))
      obtain ⟨f16, hr, h⟩ := h
      refine ak_aast 3 hr rfl rfl d_X1_init_59 ?_
      obtain ⟨v17, ev17⟩ : ∃ y : Int32, y = x1 + 1 := ⟨_, rfl⟩
      have h := h v17 ev17
      refine ac_iinc (j := 1) (lv' := [(1, .int v17), (0, .ref r0)]) d_X1_init_60 rfl (by rw [ev17]; rfl) (by decide) rfl ?_
      refine ac_goto (tgt := 42) d_X1_init_63 (by decide) ?_
      refine ac_weak [1, 0] rfl ?_
      exact ih v17 (kc + 1 + 2) (ks + 3 + 63) f16 h

set_option maxRecDepth 20000 in
set_option maxHeartbeats 4000000 in
theorem ok_X1_init_L68 {x : ac_X} (hro : ac_R x = (ro_ 2 51 616)) (hnm : (ac_meth x).name = "<init>") (r0 : Nat) (E93 : Nat → Nat → ac_hp → Prop) (hE93 : ∀ (kc ks : Nat) (f : ac_hp), E93 kc ks f → ac_At (prog_3_method_1_code, 2, "VirtualRewrite$Catalog") x kc ks 93 [] [] f) : ∀ (n : Nat) (x1 : Int32) (kc ks : Nat) (f : ac_hp), wp_X1_init_L68 (ac_ki x) r0 E93 n x1 kc ks f → ac_At (prog_3_method_1_code, 2, "VirtualRewrite$Catalog") x kc ks 68 [(0, .ref r0), (1, .int x1)] [] f := by
  intro n
  induction n with
  | zero => intro _ _ _ _ h; exact h.elim
  | succ n ih =>
    intro x1 kc ks f h
    rw [wp_X1_init_L68] at h
    refine ac_iload_n 1 d_X1_init_68 rfl rfl ?_
    refine ac_bipush (v := 12) d_X1_init_69 rfl ?_
    refine ac_icmp_ge (tgt := 93) d_X1_init_71 (by decide) (fun hc => ?_) (fun hc => ?_)
    · have h := h.1 hc
      refine ac_weak [] rfl ?_
      exact hE93 kc ks f h
    · have h := h.2 hc
      refine ac_aload_n 0 d_X1_init_74 rfl rfl ?_
      obtain ⟨o22, hr, h⟩ := h
      refine ak_getf hr fl_X1_19 d_X1_init_75 ?_
      refine ac_iload_n 1 d_X1_init_78 rfl rfl ?_
      have hk := h.1
      have h := h.2
      refine ac_newo cn_X1_17 (by rw [hro]; exact hk.1) (by rw [hro]; exact hk.2) d_X1_init_79 (fun q23 hq => ?_)
      have h := h q23 hq
      obtain ⟨f24, ef24⟩ : ∃ z, z = ac_up f q23 (.inr (3, [.null, .null, .int 0, .int 0])) := ⟨_, rfl⟩
      have h := h f24 ef24
      rw [← ef24]
      refine ac_dup d_X1_init_82 rfl ?_
      have hk := h.1
      have h := h.2
      refine ac_callIN cd_X3_init ml_X1_35 in_X3_init rfl (c_X3_init _ _ _ q23 f24 _ h) rfl rfl (by rw [hro]; constructor <;> simp only [ro_] <;> omega) rfl (rest := [.ref q23, .int x1, .ref o22]) rfl (Nat.le_of_ble_eq_true rfl) (by rw [hro]; exact hk) d_X1_init_83 (ac_V (fun f25 h => ?_))
      obtain ⟨f26, hr, h⟩ := h
      refine ak_aast 4 hr rfl rfl d_X1_init_86 ?_
      obtain ⟨v27, ev27⟩ : ∃ y : Int32, y = x1 + 1 := ⟨_, rfl⟩
      have h := h v27 ev27
      refine ac_iinc (j := 1) (lv' := [(1, .int v27), (0, .ref r0)]) d_X1_init_87 rfl (by rw [ev27]; rfl) (by decide) rfl ?_
      refine ac_goto (tgt := 68) d_X1_init_90 (by decide) ?_
      refine ac_weak [1, 0] rfl ?_
      exact ih v27 (kc + 1 + 2) (ks + 4 + 4) f26 h

set_option maxRecDepth 20000 in
set_option maxHeartbeats 4000000 in
theorem c_X1_init (l : Launch) (D : va_G) (ki : Nat → ClassId) (r0 : Nat) (f : ac_hp) (Q : ac_hp → Prop) (h : wp_X1_init ki r0 f Q) : ac_met l D ki y_X1_init prog_3_method_1_code 2 none (ro_ 2 51 616) [.ref r0] f (qr_V Q) 51 616 := by
  refine ac_enter (fun ki => wp_X1_init ki r0 f Q) (by decide) (Nat.le_of_ble_eq_true rfl) h ?_
  intro x hro hR hnm h
  unfold wp_X1_init at h
  refine ac_aload_n 0 d_X1_init_0 rfl rfl ?_
  refine ac_objInit oi_X1_3 oi_inst oi_code (by rw [hro]; decide) (by rw [hro]; decide) d_X1_init_1 ?_
  refine ac_aload_n 0 d_X1_init_4 rfl rfl ?_
  refine ac_iconst (v := 4) d_X1_init_5 rfl ?_
  have hk := h.1
  have h := h.2
  refine ac_newq (N := 4) (t0 := 3) cq_X1_9 (by decide) rfl (by decide) (by decide) (by decide) (by rw [hro]; exact hk.1) (by rw [hro]; exact hk.2) d_X1_init_6 (fun q1 hq => ?_)
  have h := h q1 hq
  obtain ⟨f2, ef2⟩ : ∃ z, z = ac_up f q1 (.inl (ac_ki x 3, 4, .inr (.inr (.inr (.inr (fun _ => none)))))) := ⟨_, rfl⟩
  have h := h f2 ef2
  rw [← ef2]
  obtain ⟨f3, hr, h⟩ := h
  refine ak_putF hr fp_X1_11 hnm rfl rfl d_X1_init_9 ?_
  refine ac_aload_n 0 d_X1_init_12 rfl rfl ?_
  refine ac_bipush (v := 12) d_X1_init_13 rfl ?_
  have hk := h.1
  have h := h.2
  refine ac_newq (N := 12) (t0 := 4) cq_X1_17 (by decide) rfl (by decide) (by decide) (by decide) (by rw [hro]; exact hk.1) (by rw [hro]; exact hk.2) d_X1_init_15 (fun q4 hq => ?_)
  have h := h q4 hq
  obtain ⟨f5, ef5⟩ : ∃ z, z = ac_up f3 q4 (.inl (ac_ki x 4, 12, .inr (.inr (.inr (.inr (fun _ => none)))))) := ⟨_, rfl⟩
  have h := h f5 ef5
  rw [← ef5]
  obtain ⟨f6, hr, h⟩ := h
  refine ak_putF hr fp_X1_19 hnm rfl rfl d_X1_init_18 ?_
  refine ac_aload_n 0 d_X1_init_21 rfl rfl ?_
  refine ac_sipush (v := 240) d_X1_init_22 rfl ?_
  have hk := h.1
  have h := h.2
  refine ac_newa (a0 := (240, .inr (.inl (fun _ => 0)))) (t0 := 2) ka_J rfl rfl (fun _ => rfl) (by decide) (by decide) (by decide) (by rw [hro]; exact hk.1) (by rw [hro]; exact hk.2) d_X1_init_25 (fun q7 hq => ?_)
  have h := h q7 hq
  obtain ⟨f8, ef8⟩ : ∃ z, z = ac_up f6 q7 (.inl (ac_ki x 2, 240, .inr (.inl (fun _ => 0)))) := ⟨_, rfl⟩
  have h := h f8 ef8
  rw [← ef8]
  obtain ⟨f9, hr, h⟩ := h
  refine ak_putF hr fp_X1_23 hnm rfl rfl d_X1_init_27 ?_
  refine ac_aload_n 0 d_X1_init_30 rfl rfl ?_
  refine ac_iconst (v := 0) d_X1_init_31 rfl ?_
  obtain ⟨f10, hr, h⟩ := h
  refine ak_putf hr fp_X1_27 rfl rfl d_X1_init_32 ?_
  refine ac_aload_n 0 d_X1_init_35 rfl rfl ?_
  refine ac_iconst (v := 0) d_X1_init_36 rfl ?_
  obtain ⟨f11, hr, h⟩ := h
  refine ak_putf hr fp_X1_31 rfl rfl d_X1_init_37 ?_
  refine ac_iconst (v := 0) d_X1_init_40 rfl ?_
  refine ac_istore_n (lv' := [(1, .int 0), (0, .ref r0)]) d_X1_init_41 rfl (by decide) rfl ?_
  obtain ⟨n18, h⟩ := h
  refine ac_weak [1, 0] rfl ?_
  refine ok_X1_init_L42 hro hnm r0 _ (fun kc20 ks21 f19 h => ?_) n18 0 (0 + 1 + 1 + 1) (0 + 4 + 12 + 240) f11 h
  · skip
    refine ac_iconst (v := 0) d_X1_init_66 rfl ?_
    refine ac_istore_n (lv' := [(1, .int 0), (0, .ref r0)]) d_X1_init_67 rfl (by decide) rfl ?_
    obtain ⟨n28, h⟩ := h
    refine ac_weak [1, 0] rfl ?_
    refine ok_X1_init_L68 hro hnm r0 _ (fun kc30 ks31 f29 h => ?_) n28 0 kc20 ks21 f19 h
    · skip
      have hk := h.1
      have h := h.2
      exact ac_vreturn hR ⟨rfl, h⟩ hk.1 hk.2 d_X1_init_93
end
section
def wp_X2_holds_L3 (ki : Nat → ClassId) (r0 : Nat) (x1 : Int32) (x2 : Int32) (x3 : Int32) (Q : Int32 → ac_hp → Prop) (E28 : ac_hp → Prop) : Nat → Int32 → ac_hp → Prop
  | 0, _, _ => False
  | n + 1, x4, f => ((x3 ≤ x4 → E28  f) ∧ (¬ x3 ≤ x4 → hr_o f r0 2 ∧ wp_X2_cell ki r0 x4 x1 f (fun v2 f1 => ((¬ v2 = x2 → ∀ v3 : Int32, v3 = x4 + 1 → wp_X2_holds_L3 ki r0 x1 x2 x3 Q E28 n v3 f1) ∧ (v2 = x2 → Q 1 f1)))))

def wp_X2_holds (ki : Nat → ClassId) (r0 : Nat) (x1 : Int32) (x2 : Int32) (x3 : Int32) (f : ac_hp) (Q : Int32 → ac_hp → Prop) : Prop := ∃ n4, wp_X2_holds_L3 ki r0 x1 x2 x3 Q (fun f5 => Q 0 f5) n4 0 f

set_option maxRecDepth 20000 in
set_option maxHeartbeats 4000000 in
theorem ok_X2_holds_L3 {x : ac_X} (hro : ac_R x = (ro_ 2 0 0)) (r0 : Nat) (x1 : Int32) (x2 : Int32) (x3 : Int32) (Q : Int32 → ac_hp → Prop) (hR : ac_rt x (some .boolean) (qr_I Q) 0 0) (E28 : ac_hp → Prop) (hE28 : ∀ (f : ac_hp), E28 f → ac_At (prog_9_method_3_code, 5, "VirtualRewrite$Table") x 0 0 28 [] [] f) : ∀ (n : Nat) (x4 : Int32) (f : ac_hp), wp_X2_holds_L3 (ac_ki x) r0 x1 x2 x3 Q E28 n x4 f → ac_At (prog_9_method_3_code, 5, "VirtualRewrite$Table") x 0 0 3 [(0, .ref r0), (1, .int x1), (2, .int x2), (3, .int x3), (4, .int x4)] [] f := by
  intro n
  induction n with
  | zero => intro _ _ h; exact h.elim
  | succ n ih =>
    intro x4 f h
    rw [wp_X2_holds_L3] at h
    refine ac_iload 4 d_X2_holds_3 rfl ?_
    refine ac_iload_n 3 d_X2_holds_5 rfl rfl ?_
    refine ac_icmp_ge (tgt := 28) d_X2_holds_6 (by decide) (fun hc => ?_) (fun hc => ?_)
    · have h := h.1 hc
      refine ac_weak [] rfl ?_
      exact hE28  f h
    · have h := h.2 hc
      refine ac_aload_n 0 d_X2_holds_9 rfl rfl ?_
      refine ac_iload 4 d_X2_holds_10 rfl ?_
      refine ac_iload_n 1 d_X2_holds_12 rfl rfl ?_
      obtain ⟨⟨fs, hb⟩, h⟩ := h
      refine ac_callV0 cd_X2_cell ml_X2_23 in_X2_cell se_X2_cell rfl hb (c_X2_cell _ _ _ r0 x4 x1 f _ h) rfl rfl (by rw [hro]; decide) rfl (rest := []) rfl (Nat.le_of_ble_eq_true rfl) (by rw [hro]; decide) d_X2_holds_13 (ac_I (fun v2 f1 h => ?_))
      refine ac_iload_n 2 d_X2_holds_16 rfl rfl ?_
      refine ac_icmp_ne (tgt := 22) d_X2_holds_17 (by decide) (fun hc => ?_) (fun hc => ?_)
      · have h := h.1 hc
        obtain ⟨v3, ev3⟩ : ∃ y : Int32, y = x4 + 1 := ⟨_, rfl⟩
        have h := h v3 ev3
        refine ac_iinc (j := 4) (lv' := [(4, .int v3), (0, .ref r0), (1, .int x1), (2, .int x2), (3, .int x3)]) d_X2_holds_22 rfl (by rw [ev3]; rfl) (by decide) rfl ?_
        refine ac_goto (tgt := 3) d_X2_holds_25 (by decide) ?_
        refine ac_weak [1, 2, 3, 4, 0] rfl ?_
        exact ih v3 f1 h
      · have h := h.2 hc
        refine ac_iconst (v := 1) d_X2_holds_20 rfl ?_
        exact ac_ireturn hR rfl ⟨_, rfl, h⟩ (by decide) (by decide) d_X2_holds_21

set_option maxRecDepth 20000 in
set_option maxHeartbeats 4000000 in
theorem c_X2_holds (l : Launch) (D : va_G) (ki : Nat → ClassId) (r0 : Nat) (x1 : Int32) (x2 : Int32) (x3 : Int32) (f : ac_hp) (Q : Int32 → ac_hp → Prop) (h : wp_X2_holds ki r0 x1 x2 x3 f Q) : ac_met l D ki y_X2_holds prog_9_method_3_code 5 (some .boolean) (ro_ 2 0 0) [.ref r0, .int x1, .int x2, .int x3] f (qr_I Q) 0 0 := by
  refine ac_enter (fun ki => wp_X2_holds ki r0 x1 x2 x3 f Q) (by decide) (Nat.le_of_ble_eq_true rfl) h ?_
  intro x hro hR hnm h
  unfold wp_X2_holds at h
  refine ac_iconst (v := 0) d_X2_holds_0 rfl ?_
  refine ac_istore (lv' := [(4, .int 0), (0, .ref r0), (1, .int x1), (2, .int x2), (3, .int x3)]) d_X2_holds_1 (by decide) rfl ?_
  obtain ⟨n4, h⟩ := h
  refine ac_weak [1, 2, 3, 4, 0] rfl ?_
  refine ok_X2_holds_L3 hro r0 x1 x2 x3 Q hR _ (fun f5 h => ?_) n4 0 f h
  · skip
    refine ac_iconst (v := 0) d_X2_holds_28 rfl ?_
    exact ac_ireturn hR rfl ⟨_, rfl, h⟩ (by decide) (by decide) d_X2_holds_29

def wp_X0_drop (ki : Nat → ClassId) (r0 : Nat) (x1 : Int32) (x2 : Int32) (f : ac_hp) (Q : Int32 → ac_hp → Prop) : Prop := wp_X0_isBelow ki x1 4 f (fun v2 f1 => ((v2 = 0 → Q (-1) f1) ∧ (¬ v2 = 0 → ∃ o3 : Nat, hr_f f1 r0 0 0 (.ref o3) ∧ ∃ o4 : Nat, hr_f f1 o3 1 0 (.ref o4) ∧ ∃ o5 : Nat, hr_q (ki 3) f1 o4 x1 o5 ∧ ∃ v6 : Int32, hr_f f1 o5 2 2 (.int v6) ∧ wp_X0_isBelow ki x2 v6 f1 (fun v8 f7 => ((¬ v8 = 0 → ∃ o9 : Nat, hr_f f7 r0 0 0 (.ref o9) ∧ ∃ o10 : Nat, hr_f f7 o9 1 0 (.ref o10) ∧ ∃ o11 : Nat, hr_q (ki 3) f7 o10 x1 o11 ∧ hr_o f7 o11 2 ∧ wp_X2_remove ki o11 x2 f7 (fun f12 => ∃ o13 : Nat, hr_f f12 r0 0 0 (.ref o13) ∧ ∃ o14 : Nat, hr_f f12 o13 1 0 (.ref o14) ∧ ∃ o15 : Nat, hr_q (ki 3) f12 o14 x1 o15 ∧ ∃ v16 : Int32, hr_f f12 o15 2 2 (.int v16) ∧ Q v16 f12)) ∧ (v8 = 0 → Q (-1) f7))))))

set_option maxRecDepth 20000 in
set_option maxHeartbeats 4000000 in
theorem c_X0_drop (l : Launch) (D : va_G) (ki : Nat → ClassId) (r0 : Nat) (x1 : Int32) (x2 : Int32) (f : ac_hp) (Q : Int32 → ac_hp → Prop) (h : wp_X0_drop ki r0 x1 x2 f Q) : ac_met l D ki y_X0_drop prog_1_method_4_code 3 (some .int) (ro_ 2 0 0) [.ref r0, .int x1, .int x2] f (qr_I Q) 0 0 := by
  refine ac_enter (fun ki => wp_X0_drop ki r0 x1 x2 f Q) (by decide) (Nat.le_of_ble_eq_true rfl) h ?_
  intro x hro hR hnm h
  unfold wp_X0_drop at h
  refine ac_iload_n 1 d_X0_drop_0 rfl rfl ?_
  refine ac_iconst (v := 4) d_X0_drop_1 rfl ?_
  refine ac_callS0 cd_X0_isBelow ml_X0_57 st_X0_isBelow (c_X0_isBelow _ _ _ x1 4 f _ h) rfl rfl (by rw [hro]; decide) rfl (rest := []) rfl (Nat.le_of_ble_eq_true rfl) (by rw [hro]; decide) d_X0_drop_2 (ac_I (fun v2 f1 h => ?_))
  refine ac_if_eq (tgt := 27) d_X0_drop_5 (by decide) (fun hc => ?_) (fun hc => ?_)
  · have h := h.1 hc
    refine ac_iconst (v := -1) d_X0_drop_27 rfl ?_
    exact ac_ireturn hR rfl ⟨_, rfl, h⟩ (by decide) (by decide) d_X0_drop_28
  · have h := h.2 hc
    refine ac_iload_n 2 d_X0_drop_8 rfl rfl ?_
    refine ac_aload_n 0 d_X0_drop_9 rfl rfl ?_
    obtain ⟨o3, hr, h⟩ := h
    refine ak_getf hr fl_X0_12 d_X0_drop_10 ?_
    obtain ⟨o4, hr, h⟩ := h
    refine ak_getf hr fl_X0_61 d_X0_drop_13 ?_
    refine ac_iload_n 1 d_X0_drop_16 rfl rfl ?_
    obtain ⟨o5, hr, h⟩ := h
    refine ak_aald 3 hr rfl d_X0_drop_17 ?_
    obtain ⟨v6, hr, h⟩ := h
    refine ak_getf hr fl_X0_78 d_X0_drop_18 ?_
    refine ac_callS0 cd_X0_isBelow ml_X0_57 st_X0_isBelow (c_X0_isBelow _ _ _ x2 v6 f1 _ h) rfl rfl (by rw [hro]; decide) rfl (rest := []) rfl (Nat.le_of_ble_eq_true rfl) (by rw [hro]; decide) d_X0_drop_21 (ac_I (fun v8 f7 h => ?_))
    refine ac_if_ne (tgt := 29) d_X0_drop_24 (by decide) (fun hc => ?_) (fun hc => ?_)
    · have h := h.1 hc
      refine ac_aload_n 0 d_X0_drop_29 rfl rfl ?_
      obtain ⟨o9, hr, h⟩ := h
      refine ak_getf hr fl_X0_12 d_X0_drop_30 ?_
      obtain ⟨o10, hr, h⟩ := h
      refine ak_getf hr fl_X0_61 d_X0_drop_33 ?_
      refine ac_iload_n 1 d_X0_drop_36 rfl rfl ?_
      obtain ⟨o11, hr, h⟩ := h
      refine ak_aald 3 hr rfl d_X0_drop_37 ?_
      refine ac_iload_n 2 d_X0_drop_38 rfl rfl ?_
      obtain ⟨⟨fs, hb⟩, h⟩ := h
      refine ac_callV0 cd_X2_remove ml_X0_86 in_X2_remove se_X2_remove rfl hb (c_X2_remove _ _ _ o11 x2 f7 _ h) rfl rfl (by rw [hro]; decide) rfl (rest := []) rfl (Nat.le_of_ble_eq_true rfl) (by rw [hro]; decide) d_X0_drop_39 (ac_V (fun f12 h => ?_))
      refine ac_aload_n 0 d_X0_drop_42 rfl rfl ?_
      obtain ⟨o13, hr, h⟩ := h
      refine ak_getf hr fl_X0_12 d_X0_drop_43 ?_
      obtain ⟨o14, hr, h⟩ := h
      refine ak_getf hr fl_X0_61 d_X0_drop_46 ?_
      refine ac_iload_n 1 d_X0_drop_49 rfl rfl ?_
      obtain ⟨o15, hr, h⟩ := h
      refine ak_aald 3 hr rfl d_X0_drop_50 ?_
      obtain ⟨v16, hr, h⟩ := h
      refine ak_getf hr fl_X0_78 d_X0_drop_51 ?_
      exact ac_ireturn hR rfl ⟨_, rfl, h⟩ (by decide) (by decide) d_X0_drop_54
    · have h := h.2 hc
      refine ac_iconst (v := -1) d_X0_drop_27 rfl ?_
      exact ac_ireturn hR rfl ⟨_, rfl, h⟩ (by decide) (by decide) d_X0_drop_28

def wp_X0_mapping (ki : Nat → ClassId) (r0 : Nat) (x1 : Int32) (x2 : Int32) (x3 : Int32) (x4 : Int32) (x5 : Int32) (x6 : Int32) (f : ac_hp) (Q : Int32 → ac_hp → Prop) : Prop := wp_X0_isBelow ki x1 4 f (fun v2 f1 => ((v2 = 0 → Q (-1) f1) ∧ (¬ v2 = 0 → wp_X0_isBelow ki x2 8 f1 (fun v4 f3 => ((¬ v4 = 0 → wp_X0_isBelow ki x3 6 f3 (fun v6 f5 => ((v6 = 0 → Q (-1) f5) ∧ (¬ v6 = 0 → wp_X0_isBelow ki x4 3 f5 (fun v8 f7 => ((¬ v8 = 0 → wp_X0_isBelow ki x5 6 f7 (fun v10 f9 => ((v10 = 0 → Q (-1) f9) ∧ (¬ v10 = 0 → wp_X0_isBelow ki x6 3 f9 (fun v12 f11 => ((¬ v12 = 0 → ∃ o13 : Nat, hr_f f11 r0 0 0 (.ref o13) ∧ ∃ v14 : Int32, hr_f f11 o13 1 3 (.int v14) ∧ ((v14 < 12 → ∃ o15 : Nat, hr_f f11 r0 0 0 (.ref o15) ∧ ∃ o16 : Nat, hr_f f11 o15 1 1 (.ref o16) ∧ ∃ o17 : Nat, hr_f f11 r0 0 0 (.ref o17) ∧ ∃ v18 : Int32, hr_f f11 o17 1 3 (.int v18) ∧ ∃ o19 : Nat, hr_q (ki 4) f11 o16 v18 o19 ∧ ∃ f20, hw_f f11 o19 3 2 (.int x1) f20 ∧ ∃ f21, hw_f f20 o19 3 3 (.int x2) f21 ∧ hr_o f21 o19 3 ∧ wp_X3_describe ki o19 0 x3 x4 f21 (fun f22 => hr_o f22 o19 3 ∧ wp_X3_describe ki o19 1 x5 x6 f22 (fun f23 => ∃ o24 : Nat, hr_f f23 r0 0 0 (.ref o24) ∧ ∃ v25 : Int32, hr_f f23 o24 1 3 (.int v25) ∧ ∃ f26, hw_f f23 o24 1 3 (.int (v25 + 1)) f26 ∧ ∃ o27 : Nat, hr_f f26 r0 0 2 (.ref o27) ∧ hr_o f26 o27 5 ∧ wp_X5_forget ki o27 f26 (fun f28 => ∃ o29 : Nat, hr_f f28 r0 0 0 (.ref o29) ∧ ∃ v30 : Int32, hr_f f28 o29 1 3 (.int v30) ∧ Q (v30 - 1) f28)))) ∧ (¬ v14 < 12 → Q (-2) f11))) ∧ (v12 = 0 → Q (-1) f11))))))) ∧ (v8 = 0 → Q (-1) f7))))))) ∧ (v4 = 0 → Q (-1) f3))))))

set_option maxRecDepth 20000 in
set_option maxHeartbeats 4000000 in
theorem c_X0_mapping (l : Launch) (D : va_G) (ki : Nat → ClassId) (r0 : Nat) (x1 : Int32) (x2 : Int32) (x3 : Int32) (x4 : Int32) (x5 : Int32) (x6 : Int32) (f : ac_hp) (Q : Int32 → ac_hp → Prop) (h : wp_X0_mapping ki r0 x1 x2 x3 x4 x5 x6 f Q) : ac_met l D ki y_X0_mapping prog_1_method_5_code 8 (some .int) (ro_ 2 0 0) [.ref r0, .int x1, .int x2, .int x3, .int x4, .int x5, .int x6] f (qr_I Q) 0 0 := by
  refine ac_enter (fun ki => wp_X0_mapping ki r0 x1 x2 x3 x4 x5 x6 f Q) (by decide) (Nat.le_of_ble_eq_true rfl) h ?_
  intro x hro hR hnm h
  unfold wp_X0_mapping at h
  refine ac_iload_n 1 d_X0_mapping_0 rfl rfl ?_
  refine ac_iconst (v := 4) d_X0_mapping_1 rfl ?_
  refine ac_callS0 cd_X0_isBelow ml_X0_57 st_X0_isBelow (c_X0_isBelow _ _ _ x1 4 f _ h) rfl rfl (by rw [hro]; decide) rfl (rest := []) rfl (Nat.le_of_ble_eq_true rfl) (by rw [hro]; decide) d_X0_mapping_2 (ac_I (fun v2 f1 h => ?_))
  refine ac_if_eq (tgt := 17) d_X0_mapping_5 (by decide) (fun hc => ?_) (fun hc => ?_)
  · have h := h.1 hc
    refine ac_iconst (v := -1) d_X0_mapping_17 rfl ?_
    exact ac_ireturn hR rfl ⟨_, rfl, h⟩ (by decide) (by decide) d_X0_mapping_18
  · have h := h.2 hc
    refine ac_iload_n 2 d_X0_mapping_8 rfl rfl ?_
    refine ac_bipush (v := 8) d_X0_mapping_9 rfl ?_
    refine ac_callS0 cd_X0_isBelow ml_X0_57 st_X0_isBelow (c_X0_isBelow _ _ _ x2 8 f1 _ h) rfl rfl (by rw [hro]; decide) rfl (rest := []) rfl (Nat.le_of_ble_eq_true rfl) (by rw [hro]; decide) d_X0_mapping_11 (ac_I (fun v4 f3 h => ?_))
    refine ac_if_ne (tgt := 19) d_X0_mapping_14 (by decide) (fun hc => ?_) (fun hc => ?_)
    · have h := h.1 hc
      refine ac_iload_n 3 d_X0_mapping_19 rfl rfl ?_
      refine ac_bipush (v := 6) d_X0_mapping_20 rfl ?_
      refine ac_callS0 cd_X0_isBelow ml_X0_57 st_X0_isBelow (c_X0_isBelow _ _ _ x3 6 f3 _ h) rfl rfl (by rw [hro]; decide) rfl (rest := []) rfl (Nat.le_of_ble_eq_true rfl) (by rw [hro]; decide) d_X0_mapping_22 (ac_I (fun v6 f5 h => ?_))
      refine ac_if_eq (tgt := 37) d_X0_mapping_25 (by decide) (fun hc => ?_) (fun hc => ?_)
      · have h := h.1 hc
        refine ac_iconst (v := -1) d_X0_mapping_37 rfl ?_
        exact ac_ireturn hR rfl ⟨_, rfl, h⟩ (by decide) (by decide) d_X0_mapping_38
      · have h := h.2 hc
        refine ac_iload 4 d_X0_mapping_28 rfl ?_
        refine ac_iconst (v := 3) d_X0_mapping_30 rfl ?_
        refine ac_callS0 cd_X0_isBelow ml_X0_57 st_X0_isBelow (c_X0_isBelow _ _ _ x4 3 f5 _ h) rfl rfl (by rw [hro]; decide) rfl (rest := []) rfl (Nat.le_of_ble_eq_true rfl) (by rw [hro]; decide) d_X0_mapping_31 (ac_I (fun v8 f7 h => ?_))
        refine ac_if_ne (tgt := 39) d_X0_mapping_34 (by decide) (fun hc => ?_) (fun hc => ?_)
        · have h := h.1 hc
          refine ac_iload 5 d_X0_mapping_39 rfl ?_
          refine ac_bipush (v := 6) d_X0_mapping_41 rfl ?_
          refine ac_callS0 cd_X0_isBelow ml_X0_57 st_X0_isBelow (c_X0_isBelow _ _ _ x5 6 f7 _ h) rfl rfl (by rw [hro]; decide) rfl (rest := []) rfl (Nat.le_of_ble_eq_true rfl) (by rw [hro]; decide) d_X0_mapping_43 (ac_I (fun v10 f9 h => ?_))
          refine ac_if_eq (tgt := 58) d_X0_mapping_46 (by decide) (fun hc => ?_) (fun hc => ?_)
          · have h := h.1 hc
            refine ac_iconst (v := -1) d_X0_mapping_58 rfl ?_
            exact ac_ireturn hR rfl ⟨_, rfl, h⟩ (by decide) (by decide) d_X0_mapping_59
          · have h := h.2 hc
            refine ac_iload 6 d_X0_mapping_49 rfl ?_
            refine ac_iconst (v := 3) d_X0_mapping_51 rfl ?_
            refine ac_callS0 cd_X0_isBelow ml_X0_57 st_X0_isBelow (c_X0_isBelow _ _ _ x6 3 f9 _ h) rfl rfl (by rw [hro]; decide) rfl (rest := []) rfl (Nat.le_of_ble_eq_true rfl) (by rw [hro]; decide) d_X0_mapping_52 (ac_I (fun v12 f11 h => ?_))
            refine ac_if_ne (tgt := 60) d_X0_mapping_55 (by decide) (fun hc => ?_) (fun hc => ?_)
            · have h := h.1 hc
              refine ac_aload_n 0 d_X0_mapping_60 rfl rfl ?_
              obtain ⟨o13, hr, h⟩ := h
              refine ak_getf hr fl_X0_12 d_X0_mapping_61 ?_
              obtain ⟨v14, hr, h⟩ := h
              refine ak_getf hr fl_X0_90 d_X0_mapping_64 ?_
              refine ac_bipush (v := 12) d_X0_mapping_67 rfl ?_
              refine ac_icmp_lt (tgt := 75) d_X0_mapping_69 (by decide) (fun hc => ?_) (fun hc => ?_)
              · have h := h.1 hc
                refine ac_aload_n 0 d_X0_mapping_75 rfl rfl ?_
                obtain ⟨o15, hr, h⟩ := h
                refine ak_getf hr fl_X0_12 d_X0_mapping_76 ?_
                obtain ⟨o16, hr, h⟩ := h
                refine ak_getf hr fl_X0_91 d_X0_mapping_79 ?_
                refine ac_aload_n 0 d_X0_mapping_82 rfl rfl ?_
                obtain ⟨o17, hr, h⟩ := h
                refine ak_getf hr fl_X0_12 d_X0_mapping_83 ?_
                obtain ⟨v18, hr, h⟩ := h
                refine ak_getf hr fl_X0_90 d_X0_mapping_86 ?_
                obtain ⟨o19, hr, h⟩ := h
                refine ak_aald 4 hr rfl d_X0_mapping_89 ?_
                refine ac_astore (lv' := [(7, .ref o19), (0, .ref r0), (1, .int x1), (2, .int x2), (3, .int x3), (4, .int x4), (5, .int x5), (6, .int x6)]) d_X0_mapping_90 (by decide) rfl ?_
                refine ac_aload 0 d_X0_mapping_92 rfl ?_
                refine ac_iload_n 2 d_X0_mapping_94 rfl rfl ?_
                obtain ⟨f20, hr, h⟩ := h
                refine ak_putf hr fp_X0_95 rfl rfl d_X0_mapping_95 ?_
                refine ac_aload 0 d_X0_mapping_98 rfl ?_
                refine ac_iload_n 3 d_X0_mapping_100 rfl rfl ?_
                obtain ⟨f21, hr, h⟩ := h
                refine ak_putf hr fp_X0_100 rfl rfl d_X0_mapping_101 ?_
                refine ac_aload 0 d_X0_mapping_104 rfl ?_
                refine ac_iconst (v := 0) d_X0_mapping_106 rfl ?_
                refine ac_iload_n 4 d_X0_mapping_107 rfl rfl ?_
                refine ac_iload 5 d_X0_mapping_108 rfl ?_
                obtain ⟨⟨fs, hb⟩, h⟩ := h
                refine ac_callV0 cd_X3_describe ml_X0_103 in_X3_describe se_X3_describe rfl hb (c_X3_describe _ _ _ o19 0 x3 x4 f21 _ h) rfl rfl (by rw [hro]; decide) rfl (rest := []) rfl (Nat.le_of_ble_eq_true rfl) (by rw [hro]; decide) d_X0_mapping_110 (ac_V (fun f22 h => ?_))
                refine ac_aload 0 d_X0_mapping_113 rfl ?_
                refine ac_iconst (v := 1) d_X0_mapping_115 rfl ?_
                refine ac_iload 6 d_X0_mapping_116 rfl ?_
                refine ac_iload 7 d_X0_mapping_118 rfl ?_
                obtain ⟨⟨fs, hb⟩, h⟩ := h
                refine ac_callV0 cd_X3_describe ml_X0_103 in_X3_describe se_X3_describe rfl hb (c_X3_describe _ _ _ o19 1 x5 x6 f22 _ h) rfl rfl (by rw [hro]; decide) rfl (rest := []) rfl (Nat.le_of_ble_eq_true rfl) (by rw [hro]; decide) d_X0_mapping_120 (ac_V (fun f23 h => ?_))
                refine ac_aload_n 1 d_X0_mapping_123 rfl rfl ?_
                obtain ⟨o24, hr, h⟩ := h
                refine ak_getf hr fl_X0_12 d_X0_mapping_124 ?_
                refine ac_dup d_X0_mapping_127 rfl ?_
                obtain ⟨v25, hr, h⟩ := h
                refine ak_getf hr fl_X0_90 d_X0_mapping_128 ?_
                refine ac_iconst (v := 1) d_X0_mapping_131 rfl ?_
                refine ac_iadd d_X0_mapping_132 ?_
                obtain ⟨f26, hr, h⟩ := h
                refine ak_putf hr fp_X0_90 rfl rfl d_X0_mapping_133 ?_
                refine ac_aload_n 1 d_X0_mapping_136 rfl rfl ?_
                obtain ⟨o27, hr, h⟩ := h
                refine ak_getf hr fl_X0_28 d_X0_mapping_137 ?_
                obtain ⟨⟨fs, hb⟩, h⟩ := h
                refine ac_callV0 cd_X5_forget ml_X0_106 in_X5_forget se_X5_forget rfl hb (c_X5_forget _ _ _ o27 f26 _ h) rfl rfl (by rw [hro]; decide) rfl (rest := []) rfl (Nat.le_of_ble_eq_true rfl) (by rw [hro]; decide) d_X0_mapping_140 (ac_V (fun f28 h => ?_))
                refine ac_aload_n 1 d_X0_mapping_143 rfl rfl ?_
                obtain ⟨o29, hr, h⟩ := h
                refine ak_getf hr fl_X0_12 d_X0_mapping_144 ?_
                obtain ⟨v30, hr, h⟩ := h
                refine ak_getf hr fl_X0_90 d_X0_mapping_147 ?_
                refine ac_iconst (v := 1) d_X0_mapping_150 rfl ?_
                refine ac_isub d_X0_mapping_151 ?_
                exact ac_ireturn hR rfl ⟨_, rfl, h⟩ (by decide) (by decide) d_X0_mapping_152
              · have h := h.2 hc
                refine ac_bipush (v := -2) d_X0_mapping_72 rfl ?_
                exact ac_ireturn hR rfl ⟨_, rfl, h⟩ (by decide) (by decide) d_X0_mapping_74
            · have h := h.2 hc
              refine ac_iconst (v := -1) d_X0_mapping_58 rfl ?_
              exact ac_ireturn hR rfl ⟨_, rfl, h⟩ (by decide) (by decide) d_X0_mapping_59
        · have h := h.2 hc
          refine ac_iconst (v := -1) d_X0_mapping_37 rfl ?_
          exact ac_ireturn hR rfl ⟨_, rfl, h⟩ (by decide) (by decide) d_X0_mapping_38
    · have h := h.2 hc
      refine ac_iconst (v := -1) d_X0_mapping_17 rfl ?_
      exact ac_ireturn hR rfl ⟨_, rfl, h⟩ (by decide) (by decide) d_X0_mapping_18

def wp_X1_packedTriple_L9 (ki : Nat → ClassId) (r0 : Nat) (r1 : Nat) (x2 : Int32) (E62 : Int64 → ac_hp → Prop) : Nat → Int64 → Int32 → ac_hp → Prop
  | 0, _, _, _ => False
  | n + 1, x3, x5, f => ((2 ≤ x5 → E62 x3 f) ∧ (¬ 2 ≤ x5 → hr_o f r0 1 ∧ wp_X1_tableOf ki r0 r1 f (fun o4 f3 => ∃ o5 : Nat, hr_f f3 r1 3 1 (.ref o5) ∧ ∃ v6 : Int32, hr_i (ki 0) f3 o5 x5 v6 ∧ hr_o f3 o4 2 ∧ wp_X2_cell ki o4 x2 v6 f3 (fun v8 f7 => ∃ o9 : Nat, hr_f f7 r1 3 0 (.ref o9) ∧ ∃ v10 : Int32, hr_i (ki 0) f7 o9 x5 v10 ∧ ∀ v11 : Int64, v11 = ((x3 * 60000) + ((v10 * 10000).toInt64)) + (v8.toInt64) → ∀ v12 : Int32, v12 = x5 + 1 → wp_X1_packedTriple_L9 ki r0 r1 x2 E62 n v11 v12 f7))))

def wp_X1_packedTriple (ki : Nat → ClassId) (r0 : Nat) (r1 : Nat) (x2 : Int32) (f : ac_hp) (Q : Int64 → ac_hp → Prop) : Prop := ∃ v1 : Int32, hr_f f r1 3 3 (.int v1) ∧ ∀ v2 : Int64, v2 = v1.toInt64 → ∃ n13, wp_X1_packedTriple_L9 ki r0 r1 x2 (fun y14 f15 => Q y14 f15) n13 v2 0 f

set_option maxRecDepth 20000 in
set_option maxHeartbeats 4000000 in
theorem ok_X1_packedTriple_L9 {x : ac_X} (hro : ac_R x = (ro_ 2 0 0)) (r0 : Nat) (r1 : Nat) (x2 : Int32) (E62 : Int64 → ac_hp → Prop) (hE62 : ∀ (y3 : Int64) (f : ac_hp), E62 y3 f → ac_At (prog_3_method_4_code, 7, "VirtualRewrite$Catalog") x 0 0 62 [(3, .long y3)] [] f) : ∀ (n : Nat) (x3 : Int64) (x5 : Int32) (f : ac_hp), wp_X1_packedTriple_L9 (ac_ki x) r0 r1 x2 E62 n x3 x5 f → ac_At (prog_3_method_4_code, 7, "VirtualRewrite$Catalog") x 0 0 9 [(0, .ref r0), (1, .ref r1), (2, .int x2), (3, .long x3), (5, .int x5)] [] f := by
  intro n
  induction n with
  | zero => intro _ _ _ h; exact h.elim
  | succ n ih =>
    intro x3 x5 f h
    rw [wp_X1_packedTriple_L9] at h
    refine ac_iload 4 d_X1_packedTriple_9 rfl ?_
    refine ac_iconst (v := 2) d_X1_packedTriple_11 rfl ?_
    refine ac_icmp_ge (tgt := 62) d_X1_packedTriple_12 (by decide) (fun hc => ?_) (fun hc => ?_)
    · have h := h.1 hc
      refine ac_weak [3] rfl ?_
      exact hE62 x3 f h
    · have h := h.2 hc
      refine ac_aload_n 0 d_X1_packedTriple_15 rfl rfl ?_
      refine ac_aload_n 1 d_X1_packedTriple_16 rfl rfl ?_
      obtain ⟨⟨fs, hb⟩, h⟩ := h
      refine ac_callV0 cd_X1_tableOf ml_X1_39 in_X1_tableOf se_X1_tableOf rfl hb (c_X1_tableOf _ _ _ r0 r1 f _ h) rfl rfl (by rw [hro]; decide) rfl (rest := []) rfl (Nat.le_of_ble_eq_true rfl) (by rw [hro]; decide) d_X1_packedTriple_17 (ac_Rf (fun o4 f3 h => ?_))
      refine ac_iload_n 2 d_X1_packedTriple_20 rfl rfl ?_
      refine ac_aload_n 1 d_X1_packedTriple_21 rfl rfl ?_
      obtain ⟨o5, hr, h⟩ := h
      refine ak_getf hr fl_X1_55 d_X1_packedTriple_22 ?_
      refine ac_iload 4 d_X1_packedTriple_25 rfl ?_
      obtain ⟨v6, hr, h⟩ := h
      refine ak_iald 0 hr rfl d_X1_packedTriple_27 ?_
      obtain ⟨⟨fs, hb⟩, h⟩ := h
      refine ac_callV0 cd_X2_cell ml_X1_59 in_X2_cell se_X2_cell rfl hb (c_X2_cell _ _ _ o4 x2 v6 f3 _ h) rfl rfl (by rw [hro]; decide) rfl (rest := []) rfl (Nat.le_of_ble_eq_true rfl) (by rw [hro]; decide) d_X1_packedTriple_28 (ac_I (fun v8 f7 h => ?_))
      refine ac_istore (lv' := [(6, .int v8), (0, .ref r0), (1, .ref r1), (2, .int x2), (3, .long x3), (5, .int x5)]) d_X1_packedTriple_31 (by decide) rfl ?_
      refine ac_lload_n 4 d_X1_packedTriple_33 rfl rfl ?_
      refine ac_ldc2 (v := 60000) kl_X1_63 d_X1_packedTriple_34 ?_
      refine ac_lmul d_X1_packedTriple_37 ?_
      refine ac_aload_n 2 d_X1_packedTriple_38 rfl rfl ?_
      obtain ⟨o9, hr, h⟩ := h
      refine ak_getf hr fl_X1_65 d_X1_packedTriple_39 ?_
      refine ac_iload 5 d_X1_packedTriple_42 rfl ?_
      obtain ⟨v10, hr, h⟩ := h
      refine ak_iald 0 hr rfl d_X1_packedTriple_44 ?_
      refine ac_sipush (v := 10000) d_X1_packedTriple_45 rfl ?_
      refine ac_imul d_X1_packedTriple_48 ?_
      refine ac_i2l d_X1_packedTriple_49 ?_
      refine ac_ladd d_X1_packedTriple_50 ?_
      refine ac_iload 0 d_X1_packedTriple_51 rfl ?_
      refine ac_i2l d_X1_packedTriple_53 ?_
      refine ac_ladd d_X1_packedTriple_54 ?_
      refine ak_topl (fun v11 ev11 => ?_)
      have h := h v11 ev11
      refine ac_lstore_n (lv' := [(3, .long v11), (6, .int v8), (0, .ref r0), (1, .ref r1), (2, .int x2), (5, .int x5)]) d_X1_packedTriple_55 rfl (by decide) rfl ?_
      obtain ⟨v12, ev12⟩ : ∃ y : Int32, y = x5 + 1 := ⟨_, rfl⟩
      have h := h v12 ev12
      refine ac_iinc (j := 5) (lv' := [(5, .int v12), (3, .long v11), (6, .int v8), (0, .ref r0), (1, .ref r1), (2, .int x2)]) d_X1_packedTriple_56 rfl (by rw [ev12]; rfl) (by decide) rfl ?_
      refine ac_goto (tgt := 9) d_X1_packedTriple_59 (by decide) ?_
      refine ac_weak [3, 4, 5, 1, 0] rfl ?_
      exact ih v11 v12 f7 h

set_option maxRecDepth 20000 in
set_option maxHeartbeats 4000000 in
theorem c_X1_packedTriple (l : Launch) (D : va_G) (ki : Nat → ClassId) (r0 : Nat) (r1 : Nat) (x2 : Int32) (f : ac_hp) (Q : Int64 → ac_hp → Prop) (h : wp_X1_packedTriple ki r0 r1 x2 f Q) : ac_met l D ki y_X1_packedTriple prog_3_method_4_code 7 (some .long) (ro_ 2 0 0) [.ref r0, .ref r1, .int x2] f (qr_J Q) 0 0 := by
  refine ac_enter (fun ki => wp_X1_packedTriple ki r0 r1 x2 f Q) (by decide) (Nat.le_of_ble_eq_true rfl) h ?_
  intro x hro hR hnm h
  unfold wp_X1_packedTriple at h
  refine ac_aload_n 1 d_X1_packedTriple_0 rfl rfl ?_
  obtain ⟨v1, hr, h⟩ := h
  refine ak_getf hr fl_X1_52 d_X1_packedTriple_1 ?_
  refine ac_i2l d_X1_packedTriple_4 ?_
  refine ak_topl (fun v2 ev2 => ?_)
  have h := h v2 ev2
  refine ac_lstore_n (lv' := [(3, .long v2), (0, .ref r0), (1, .ref r1), (2, .int x2)]) d_X1_packedTriple_5 rfl (by decide) rfl ?_
  refine ac_iconst (v := 0) d_X1_packedTriple_6 rfl ?_
  refine ac_istore (lv' := [(5, .int 0), (3, .long v2), (0, .ref r0), (1, .ref r1), (2, .int x2)]) d_X1_packedTriple_7 (by decide) rfl ?_
  obtain ⟨n13, h⟩ := h
  refine ac_weak [2, 3, 4, 1, 0] rfl ?_
  refine ok_X1_packedTriple_L9 hro r0 r1 x2 _ (fun y14 f15 h => ?_) n13 v2 0 f h
  · skip
    refine ac_lload_n 0 d_X1_packedTriple_62 rfl rfl ?_
    exact ac_lreturn hR ⟨_, rfl, h⟩ (by decide) (by decide) d_X1_packedTriple_63

def wp_X0_atom (ki : Nat → ClassId) (r0 : Nat) (x1 : Int32) (x2 : Int32) (x3 : Int32) (f : ac_hp) (Q : Int32 → ac_hp → Prop) : Prop := wp_X0_isBelow ki x1 8 f (fun v2 f1 => ((v2 = 0 → Q (-1) f1) ∧ (¬ v2 = 0 → wp_X0_isPlace ki x2 f1 (fun v4 f3 => ((v4 = 0 → Q (-1) f3) ∧ (¬ v4 = 0 → wp_X0_isPlace ki x3 f3 (fun v6 f5 => ((¬ v6 = 0 → ∃ o7 : Nat, hr_f f5 r0 0 1 (.ref o7) ∧ ∃ v8 : Int32, hr_f f5 o7 4 4 (.int v8) ∧ ((v8 < 4 → ∃ o9 : Nat, hr_f f5 r0 0 1 (.ref o9) ∧ hr_o f5 o9 4 ∧ wp_X4_append ki o9 x1 x2 x3 f5 (fun f10 => ∃ o11 : Nat, hr_f f10 r0 0 2 (.ref o11) ∧ hr_o f10 o11 5 ∧ wp_X5_forget ki o11 f10 (fun f12 => ∃ o13 : Nat, hr_f f12 r0 0 1 (.ref o13) ∧ ∃ v14 : Int32, hr_f f12 o13 4 4 (.int v14) ∧ Q v14 f12))) ∧ (¬ v8 < 4 → Q (-2) f5))) ∧ (v6 = 0 → Q (-1) f5)))))))))

set_option maxRecDepth 20000 in
set_option maxHeartbeats 4000000 in
theorem c_X0_atom (l : Launch) (D : va_G) (ki : Nat → ClassId) (r0 : Nat) (x1 : Int32) (x2 : Int32) (x3 : Int32) (f : ac_hp) (Q : Int32 → ac_hp → Prop) (h : wp_X0_atom ki r0 x1 x2 x3 f Q) : ac_met l D ki y_X0_atom prog_1_method_7_code 4 (some .int) (ro_ 2 0 0) [.ref r0, .int x1, .int x2, .int x3] f (qr_I Q) 0 0 := by
  refine ac_enter (fun ki => wp_X0_atom ki r0 x1 x2 x3 f Q) (by decide) (Nat.le_of_ble_eq_true rfl) h ?_
  intro x hro hR hnm h
  unfold wp_X0_atom at h
  refine ac_iload_n 1 d_X0_atom_0 rfl rfl ?_
  refine ac_bipush (v := 8) d_X0_atom_1 rfl ?_
  refine ac_callS0 cd_X0_isBelow ml_X0_57 st_X0_isBelow (c_X0_isBelow _ _ _ x1 8 f _ h) rfl rfl (by rw [hro]; decide) rfl (rest := []) rfl (Nat.le_of_ble_eq_true rfl) (by rw [hro]; decide) d_X0_atom_3 (ac_I (fun v2 f1 h => ?_))
  refine ac_if_eq (tgt := 23) d_X0_atom_6 (by decide) (fun hc => ?_) (fun hc => ?_)
  · have h := h.1 hc
    refine ac_iconst (v := -1) d_X0_atom_23 rfl ?_
    exact ac_ireturn hR rfl ⟨_, rfl, h⟩ (by decide) (by decide) d_X0_atom_24
  · have h := h.2 hc
    refine ac_iload_n 2 d_X0_atom_9 rfl rfl ?_
    refine ac_callS0 cd_X0_isPlace ml_X0_113 st_X0_isPlace (c_X0_isPlace _ _ _ x2 f1 _ h) rfl rfl (by rw [hro]; decide) rfl (rest := []) rfl (Nat.le_of_ble_eq_true rfl) (by rw [hro]; decide) d_X0_atom_10 (ac_I (fun v4 f3 h => ?_))
    refine ac_if_eq (tgt := 23) d_X0_atom_13 (by decide) (fun hc => ?_) (fun hc => ?_)
    · have h := h.1 hc
      refine ac_iconst (v := -1) d_X0_atom_23 rfl ?_
      exact ac_ireturn hR rfl ⟨_, rfl, h⟩ (by decide) (by decide) d_X0_atom_24
    · have h := h.2 hc
      refine ac_iload_n 3 d_X0_atom_16 rfl rfl ?_
      refine ac_callS0 cd_X0_isPlace ml_X0_113 st_X0_isPlace (c_X0_isPlace _ _ _ x3 f3 _ h) rfl rfl (by rw [hro]; decide) rfl (rest := []) rfl (Nat.le_of_ble_eq_true rfl) (by rw [hro]; decide) d_X0_atom_17 (ac_I (fun v6 f5 h => ?_))
      refine ac_if_ne (tgt := 25) d_X0_atom_20 (by decide) (fun hc => ?_) (fun hc => ?_)
      · have h := h.1 hc
        refine ac_aload_n 0 d_X0_atom_25 rfl rfl ?_
        obtain ⟨o7, hr, h⟩ := h
        refine ak_getf hr fl_X0_19 d_X0_atom_26 ?_
        obtain ⟨v8, hr, h⟩ := h
        refine ak_getf hr fl_X0_116 d_X0_atom_29 ?_
        refine ac_iconst (v := 4) d_X0_atom_32 rfl ?_
        refine ac_icmp_lt (tgt := 39) d_X0_atom_33 (by decide) (fun hc => ?_) (fun hc => ?_)
        · have h := h.1 hc
          refine ac_aload_n 0 d_X0_atom_39 rfl rfl ?_
          obtain ⟨o9, hr, h⟩ := h
          refine ak_getf hr fl_X0_19 d_X0_atom_40 ?_
          refine ac_iload_n 1 d_X0_atom_43 rfl rfl ?_
          refine ac_iload_n 2 d_X0_atom_44 rfl rfl ?_
          refine ac_iload_n 3 d_X0_atom_45 rfl rfl ?_
          obtain ⟨⟨fs, hb⟩, h⟩ := h
          refine ac_callV0 cd_X4_append ml_X0_119 in_X4_append se_X4_append rfl hb (c_X4_append _ _ _ o9 x1 x2 x3 f5 _ h) rfl rfl (by rw [hro]; decide) rfl (rest := []) rfl (Nat.le_of_ble_eq_true rfl) (by rw [hro]; decide) d_X0_atom_46 (ac_V (fun f10 h => ?_))
          refine ac_aload_n 0 d_X0_atom_49 rfl rfl ?_
          obtain ⟨o11, hr, h⟩ := h
          refine ak_getf hr fl_X0_28 d_X0_atom_50 ?_
          obtain ⟨⟨fs, hb⟩, h⟩ := h
          refine ac_callV0 cd_X5_forget ml_X0_106 in_X5_forget se_X5_forget rfl hb (c_X5_forget _ _ _ o11 f10 _ h) rfl rfl (by rw [hro]; decide) rfl (rest := []) rfl (Nat.le_of_ble_eq_true rfl) (by rw [hro]; decide) d_X0_atom_53 (ac_V (fun f12 h => ?_))
          refine ac_aload_n 0 d_X0_atom_56 rfl rfl ?_
          obtain ⟨o13, hr, h⟩ := h
          refine ak_getf hr fl_X0_19 d_X0_atom_57 ?_
          obtain ⟨v14, hr, h⟩ := h
          refine ak_getf hr fl_X0_116 d_X0_atom_60 ?_
          exact ac_ireturn hR rfl ⟨_, rfl, h⟩ (by decide) (by decide) d_X0_atom_63
        · have h := h.2 hc
          refine ac_bipush (v := -2) d_X0_atom_36 rfl ?_
          exact ac_ireturn hR rfl ⟨_, rfl, h⟩ (by decide) (by decide) d_X0_atom_38
      · have h := h.2 hc
        refine ac_iconst (v := -1) d_X0_atom_23 rfl ?_
        exact ac_ireturn hR rfl ⟨_, rfl, h⟩ (by decide) (by decide) d_X0_atom_24

def wp_X4_narrow (ki : Nat → ClassId) (r0 : Nat) (x1 : Int32) (x2 : Int32) (x3 : Int32) (f : ac_hp) (Q : ac_hp → Prop) : Prop := ∃ o1 : Nat, hr_f f r0 4 2 (.ref o1) ∧ ∃ o2 : Nat, hr_f f r0 4 2 (.ref o2) ∧ ∃ v3 : Int32, hr_i (ki 0) f o2 x1 v3 ∧ wp_JMath_max ki v3 x2 f (fun v5 f4 => ∃ f6, hw_i (ki 0) f4 o1 x1 v5 f6 ∧ ∃ o7 : Nat, hr_f f6 r0 4 3 (.ref o7) ∧ ∃ o8 : Nat, hr_f f6 r0 4 3 (.ref o8) ∧ ∃ v9 : Int32, hr_i (ki 0) f6 o8 x1 v9 ∧ wp_JMath_min ki v9 x3 f6 (fun v11 f10 => ∃ f12, hw_i (ki 0) f10 o7 x1 v11 f12 ∧ ∃ v13 : Int32, hr_f f12 r0 4 5 (.int v13) ∧ ∃ f14, hw_f f12 r0 4 5 (.int (v13 + 1)) f14 ∧ Q f14))

set_option maxRecDepth 20000 in
set_option maxHeartbeats 4000000 in
theorem c_X4_narrow (l : Launch) (D : va_G) (ki : Nat → ClassId) (r0 : Nat) (x1 : Int32) (x2 : Int32) (x3 : Int32) (f : ac_hp) (Q : ac_hp → Prop) (h : wp_X4_narrow ki r0 x1 x2 x3 f Q) : ac_met l D ki y_X4_narrow prog_6_method_3_code 4 none (ro_ 2 0 0) [.ref r0, .int x1, .int x2, .int x3] f (qr_V Q) 0 0 := by
  refine ac_enter (fun ki => wp_X4_narrow ki r0 x1 x2 x3 f Q) (by decide) (Nat.le_of_ble_eq_true rfl) h ?_
  intro x hro hR hnm h
  unfold wp_X4_narrow at h
  refine ac_aload_n 0 d_X4_narrow_0 rfl rfl ?_
  obtain ⟨o1, hr, h⟩ := h
  refine ak_getf hr fl_X4_18 d_X4_narrow_1 ?_
  refine ac_iload_n 1 d_X4_narrow_4 rfl rfl ?_
  refine ac_aload_n 0 d_X4_narrow_5 rfl rfl ?_
  obtain ⟨o2, hr, h⟩ := h
  refine ak_getf hr fl_X4_18 d_X4_narrow_6 ?_
  refine ac_iload_n 1 d_X4_narrow_9 rfl rfl ?_
  obtain ⟨v3, hr, h⟩ := h
  refine ak_iald 0 hr rfl d_X4_narrow_10 ?_
  refine ac_iload_n 2 d_X4_narrow_11 rfl rfl ?_
  refine ac_callS0 cd_JMath_max ml_X4_31 st_JMath_max (c_JMath_max _ _ _ v3 x2 f _ h) rfl rfl (by rw [hro]; decide) rfl (rest := [.int x1, .ref o1]) rfl (Nat.le_of_ble_eq_true rfl) (by rw [hro]; decide) d_X4_narrow_12 (ac_I (fun v5 f4 h => ?_))
  obtain ⟨f6, hr, h⟩ := h
  refine ak_iast 0 hr rfl d_X4_narrow_15 ?_
  refine ac_aload_n 0 d_X4_narrow_16 rfl rfl ?_
  obtain ⟨o7, hr, h⟩ := h
  refine ak_getf hr fl_X4_21 d_X4_narrow_17 ?_
  refine ac_iload_n 1 d_X4_narrow_20 rfl rfl ?_
  refine ac_aload_n 0 d_X4_narrow_21 rfl rfl ?_
  obtain ⟨o8, hr, h⟩ := h
  refine ak_getf hr fl_X4_21 d_X4_narrow_22 ?_
  refine ac_iload_n 1 d_X4_narrow_25 rfl rfl ?_
  obtain ⟨v9, hr, h⟩ := h
  refine ak_iald 0 hr rfl d_X4_narrow_26 ?_
  refine ac_iload_n 3 d_X4_narrow_27 rfl rfl ?_
  refine ac_callS0 cd_JMath_min ml_X4_37 st_JMath_min (c_JMath_min _ _ _ v9 x3 f6 _ h) rfl rfl (by rw [hro]; decide) rfl (rest := [.int x1, .ref o7]) rfl (Nat.le_of_ble_eq_true rfl) (by rw [hro]; decide) d_X4_narrow_28 (ac_I (fun v11 f10 h => ?_))
  obtain ⟨f12, hr, h⟩ := h
  refine ak_iast 0 hr rfl d_X4_narrow_31 ?_
  refine ac_aload_n 0 d_X4_narrow_32 rfl rfl ?_
  refine ac_dup d_X4_narrow_33 rfl ?_
  obtain ⟨v13, hr, h⟩ := h
  refine ak_getf hr fl_X4_28 d_X4_narrow_34 ?_
  refine ac_iconst (v := 1) d_X4_narrow_37 rfl ?_
  refine ac_iadd d_X4_narrow_38 ?_
  obtain ⟨f14, hr, h⟩ := h
  refine ak_putf hr fp_X4_28 rfl rfl d_X4_narrow_39 ?_
  exact ac_vreturn hR ⟨rfl, h⟩ (by decide) (by decide) d_X4_narrow_42

def wp_X0_clear (ki : Nat → ClassId) (r0 : Nat) (f : ac_hp) (Q : Int32 → ac_hp → Prop) : Prop := ∃ o1 : Nat, hr_f f r0 0 1 (.ref o1) ∧ ∃ v2 : Int32, hr_f f o1 4 4 (.int v2) ∧ ∃ o3 : Nat, hr_f f r0 0 1 (.ref o3) ∧ hr_o f o3 4 ∧ wp_X4_reset ki o3 f (fun f4 => ∃ o5 : Nat, hr_f f4 r0 0 2 (.ref o5) ∧ hr_o f4 o5 5 ∧ wp_X5_forget ki o5 f4 (fun f6 => Q v2 f6))

set_option maxRecDepth 20000 in
set_option maxHeartbeats 4000000 in
theorem c_X0_clear (l : Launch) (D : va_G) (ki : Nat → ClassId) (r0 : Nat) (f : ac_hp) (Q : Int32 → ac_hp → Prop) (h : wp_X0_clear ki r0 f Q) : ac_met l D ki y_X0_clear prog_1_method_9_code 2 (some .int) (ro_ 2 0 0) [.ref r0] f (qr_I Q) 0 0 := by
  refine ac_enter (fun ki => wp_X0_clear ki r0 f Q) (by decide) (Nat.le_of_ble_eq_true rfl) h ?_
  intro x hro hR hnm h
  unfold wp_X0_clear at h
  refine ac_aload_n 0 d_X0_clear_0 rfl rfl ?_
  obtain ⟨o1, hr, h⟩ := h
  refine ak_getf hr fl_X0_19 d_X0_clear_1 ?_
  obtain ⟨v2, hr, h⟩ := h
  refine ak_getf hr fl_X0_116 d_X0_clear_4 ?_
  refine ac_istore_n (lv' := [(1, .int v2), (0, .ref r0)]) d_X0_clear_7 rfl (by decide) rfl ?_
  refine ac_aload_n 1 d_X0_clear_8 rfl rfl ?_
  obtain ⟨o3, hr, h⟩ := h
  refine ak_getf hr fl_X0_19 d_X0_clear_9 ?_
  obtain ⟨⟨fs, hb⟩, h⟩ := h
  refine ac_callV0 cd_X4_reset ml_X0_126 in_X4_reset se_X4_reset rfl hb (c_X4_reset _ _ _ o3 f _ h) rfl rfl (by rw [hro]; decide) rfl (rest := []) rfl (Nat.le_of_ble_eq_true rfl) (by rw [hro]; decide) d_X0_clear_12 (ac_V (fun f4 h => ?_))
  refine ac_aload_n 1 d_X0_clear_15 rfl rfl ?_
  obtain ⟨o5, hr, h⟩ := h
  refine ak_getf hr fl_X0_28 d_X0_clear_16 ?_
  obtain ⟨⟨fs, hb⟩, h⟩ := h
  refine ac_callV0 cd_X5_forget ml_X0_106 in_X5_forget se_X5_forget rfl hb (c_X5_forget _ _ _ o5 f4 _ h) rfl rfl (by rw [hro]; decide) rfl (rest := []) rfl (Nat.le_of_ble_eq_true rfl) (by rw [hro]; decide) d_X0_clear_19 (ac_V (fun f6 h => ?_))
  refine ac_iload_n 0 d_X0_clear_22 rfl rfl ?_
  exact ac_ireturn hR rfl ⟨_, rfl, h⟩ (by decide) (by decide) d_X0_clear_23

def wp_X5_settle_L6 (ki : Nat → ClassId) (r0 : Nat) (x1 : Int32) (r2 : Nat) (Q : Int32 → ac_hp → Prop) (E117 : Int32 → ac_hp → Prop) : Nat → Int32 → Int32 → ac_hp → Prop
  | 0, _, _, _ => False
  | n + 1, x4, x5, f => ((2 ≤ x5 → E117 x4 f) ∧ (¬ 2 ≤ x5 → ∃ o1 : Nat, hr_f f r0 5 1 (.ref o1) ∧ hr_o f o1 4 ∧ wp_X4_told ki o1 x1 x5 f (fun v3 f2 => ∃ o4 : Nat, hr_f f2 r2 3 0 (.ref o4) ∧ ∃ v5 : Int32, hr_i (ki 0) f2 o4 x5 v5 ∧ wp_X0_isVariable ki v3 f2 (fun v7 f6 => ((¬ v7 = 0 → wp_X0_variableOf ki v3 f6 (fun v9 f8 => wp_X0_has ki x4 v9 f8 (fun v11 f10 => ((¬ v11 = 0 → ∃ o12 : Nat, hr_f f10 r0 5 4 (.ref o12) ∧ wp_X0_variableOf ki v3 f10 (fun v14 f13 => ∃ v15 : Int32, hr_i (ki 0) f13 o12 v14 v15 ∧ ((v15 = v5 → ∀ v16 : Int32, v16 = x5 + 1 → wp_X5_settle_L6 ki r0 x1 r2 Q E117 n x4 v16 f13) ∧ (¬ v15 = v5 → Q (-1) f13)))) ∧ (v11 = 0 → ∃ o17 : Nat, hr_f f10 r0 5 4 (.ref o17) ∧ wp_X0_variableOf ki v3 f10 (fun v19 f18 => ∃ f20, hw_i (ki 0) f18 o17 v19 v5 f20 ∧ wp_X0_variableOf ki v3 f20 (fun v22 f21 => wp_X0_with ki x4 v22 f21 (fun v24 f23 => ∀ v25 : Int32, v25 = x5 + 1 → wp_X5_settle_L6 ki r0 x1 r2 Q E117 n v24 v25 f23)))))))) ∧ (v7 = 0 → (((v3 / 10000) = v5 → ∀ v26 : Int32, v26 = x5 + 1 → wp_X5_settle_L6 ki r0 x1 r2 Q E117 n x4 v26 f6) ∧ (¬ (v3 / 10000) = v5 → Q (-1) f6))))))))

def wp_X5_settle (ki : Nat → ClassId) (r0 : Nat) (x1 : Int32) (r2 : Nat) (x3 : Int32) (f : ac_hp) (Q : Int32 → ac_hp → Prop) : Prop := ∃ n27, wp_X5_settle_L6 ki r0 x1 r2 Q (fun y28 f29 => Q y28 f29) n27 x3 0 f

set_option maxRecDepth 20000 in
set_option maxHeartbeats 4000000 in
theorem ok_X5_settle_L6 {x : ac_X} (hro : ac_R x = (ro_ 2 0 0)) (r0 : Nat) (x1 : Int32) (r2 : Nat) (Q : Int32 → ac_hp → Prop) (hR : ac_rt x (some .int) (qr_I Q) 0 0) (E117 : Int32 → ac_hp → Prop) (hE117 : ∀ (y4 : Int32) (f : ac_hp), E117 y4 f → ac_At (prog_7_method_9_code, 8, "VirtualRewrite$Rewriting") x 0 0 117 [(4, .int y4)] [] f) : ∀ (n : Nat) (x4 : Int32) (x5 : Int32) (f : ac_hp), wp_X5_settle_L6 (ac_ki x) r0 x1 r2 Q E117 n x4 x5 f → ac_At (prog_7_method_9_code, 8, "VirtualRewrite$Rewriting") x 0 0 6 [(0, .ref r0), (1, .int x1), (2, .ref r2), (4, .int x4), (5, .int x5)] [] f := by
  intro n
  induction n with
  | zero => intro _ _ _ h; exact h.elim
  | succ n ih =>
    intro x4 x5 f h
    rw [wp_X5_settle_L6] at h
    refine ac_iload 4 d_X5_settle_6 rfl ?_
    refine ac_iconst (v := 2) d_X5_settle_8 rfl ?_
    refine ac_icmp_ge (tgt := 117) d_X5_settle_9 (by decide) (fun hc => ?_) (fun hc => ?_)
    · have h := h.1 hc
      refine ac_weak [3] rfl ?_
      exact hE117 x4 f h
    · have h := h.2 hc
      refine ac_aload_n 0 d_X5_settle_12 rfl rfl ?_
      obtain ⟨o1, hr, h⟩ := h
      refine ak_getf hr fl_X5_36 d_X5_settle_13 ?_
      refine ac_iload_n 1 d_X5_settle_16 rfl rfl ?_
      refine ac_iload 4 d_X5_settle_17 rfl ?_
      obtain ⟨⟨fs, hb⟩, h⟩ := h
      refine ac_callV0 cd_X4_told ml_X5_89 in_X4_told se_X4_told rfl hb (c_X4_told _ _ _ o1 x1 x5 f _ h) rfl rfl (by rw [hro]; decide) rfl (rest := []) rfl (Nat.le_of_ble_eq_true rfl) (by rw [hro]; decide) d_X5_settle_19 (ac_I (fun v3 f2 h => ?_))
      refine ac_istore (lv' := [(6, .int v3), (0, .ref r0), (1, .int x1), (2, .ref r2), (4, .int x4), (5, .int x5)]) d_X5_settle_22 (by decide) rfl ?_
      refine ac_aload_n 3 d_X5_settle_24 rfl rfl ?_
      obtain ⟨o4, hr, h⟩ := h
      refine ak_getf hr fl_X5_92 d_X5_settle_25 ?_
      refine ac_iload 5 d_X5_settle_28 rfl ?_
      obtain ⟨v5, hr, h⟩ := h
      refine ak_iald 0 hr rfl d_X5_settle_30 ?_
      refine ac_istore (lv' := [(7, .int v5), (6, .int v3), (0, .ref r0), (1, .int x1), (2, .ref r2), (4, .int x4), (5, .int x5)]) d_X5_settle_31 (by decide) rfl ?_
      refine ac_iload 1 d_X5_settle_33 rfl ?_
      refine ac_callSN0 cd_X0_isVariable ml_X5_93 st_X0_isVariable (c_X0_isVariable _ _ _ v3 f2 _ h) rfl rfl (by rw [hro]; decide) rfl (rest := []) rfl (Nat.le_of_ble_eq_true rfl) (by rw [hro]; decide) d_X5_settle_35 (ac_I (fun v7 f6 h => ?_))
      refine ac_if_ne (tgt := 54) d_X5_settle_38 (by decide) (fun hc => ?_) (fun hc => ?_)
      · have h := h.1 hc
        refine ac_iload 5 d_X5_settle_54 rfl ?_
        refine ac_iload 1 d_X5_settle_56 rfl ?_
        refine ac_callSN0 cd_X0_variableOf ml_X5_97 st_X0_variableOf (c_X0_variableOf _ _ _ v3 f6 _ h) rfl rfl (by rw [hro]; decide) rfl (rest := [.int x4]) rfl (Nat.le_of_ble_eq_true rfl) (by rw [hro]; decide) d_X5_settle_58 (ac_I (fun v9 f8 h => ?_))
        refine ac_callSN0 cd_X0_has ml_X5_101 st_X0_has (c_X0_has _ _ _ x4 v9 f8 _ h) rfl rfl (by rw [hro]; decide) rfl (rest := []) rfl (Nat.le_of_ble_eq_true rfl) (by rw [hro]; decide) d_X5_settle_61 (ac_I (fun v11 f10 h => ?_))
        refine ac_if_ne (tgt := 94) d_X5_settle_64 (by decide) (fun hc => ?_) (fun hc => ?_)
        · have h := h.1 hc
          refine ac_aload_n 2 d_X5_settle_94 rfl rfl ?_
          obtain ⟨o12, hr, h⟩ := h
          refine ak_getf hr fl_X5_18 d_X5_settle_95 ?_
          refine ac_iload 1 d_X5_settle_98 rfl ?_
          refine ac_callSN0 cd_X0_variableOf ml_X5_97 st_X0_variableOf (c_X0_variableOf _ _ _ v3 f10 _ h) rfl rfl (by rw [hro]; decide) rfl (rest := [.ref o12]) rfl (Nat.le_of_ble_eq_true rfl) (by rw [hro]; decide) d_X5_settle_100 (ac_I (fun v14 f13 h => ?_))
          obtain ⟨v15, hr, h⟩ := h
          refine ak_iald 0 hr rfl d_X5_settle_103 ?_
          refine ac_iload 0 d_X5_settle_104 rfl ?_
          refine ac_icmp_eq (tgt := 111) d_X5_settle_106 (by decide) (fun hc => ?_) (fun hc => ?_)
          · have h := h.1 hc
            obtain ⟨v16, ev16⟩ : ∃ y : Int32, y = x5 + 1 := ⟨_, rfl⟩
            have h := h v16 ev16
            refine ac_iinc (j := 6) (lv' := [(5, .int v16), (7, .int v5), (6, .int v3), (0, .ref r0), (1, .int x1), (2, .ref r2), (4, .int x4)]) d_X5_settle_111 rfl (by rw [ev16]; rfl) (by decide) rfl ?_
            refine ac_goto (tgt := 6) d_X5_settle_114 (by decide) ?_
            refine ac_weak [3, 4, 5, 6, 0] rfl ?_
            exact ih x4 v16 f13 h
          · have h := h.2 hc
            refine ac_iconst (v := -1) d_X5_settle_109 rfl ?_
            exact ac_ireturn hR rfl ⟨_, rfl, h⟩ (by decide) (by decide) d_X5_settle_110
        · have h := h.2 hc
          refine ac_aload_n 2 d_X5_settle_67 rfl rfl ?_
          obtain ⟨o17, hr, h⟩ := h
          refine ak_getf hr fl_X5_18 d_X5_settle_68 ?_
          refine ac_iload 1 d_X5_settle_71 rfl ?_
          refine ac_callSN0 cd_X0_variableOf ml_X5_97 st_X0_variableOf (c_X0_variableOf _ _ _ v3 f10 _ h) rfl rfl (by rw [hro]; decide) rfl (rest := [.ref o17]) rfl (Nat.le_of_ble_eq_true rfl) (by rw [hro]; decide) d_X5_settle_73 (ac_I (fun v19 f18 h => ?_))
          refine ac_iload 0 d_X5_settle_76 rfl ?_
          obtain ⟨f20, hr, h⟩ := h
          refine ak_iast 0 hr rfl d_X5_settle_78 ?_
          refine ac_iload 5 d_X5_settle_79 rfl ?_
          refine ac_iload 1 d_X5_settle_81 rfl ?_
          refine ac_callSN0 cd_X0_variableOf ml_X5_97 st_X0_variableOf (c_X0_variableOf _ _ _ v3 f20 _ h) rfl rfl (by rw [hro]; decide) rfl (rest := [.int x4]) rfl (Nat.le_of_ble_eq_true rfl) (by rw [hro]; decide) d_X5_settle_83 (ac_I (fun v22 f21 h => ?_))
          refine ac_callSN0 cd_X0_with ml_X5_105 st_X0_with (c_X0_with _ _ _ x4 v22 f21 _ h) rfl rfl (by rw [hro]; decide) rfl (rest := []) rfl (Nat.le_of_ble_eq_true rfl) (by rw [hro]; decide) d_X5_settle_86 (ac_I (fun v24 f23 h => ?_))
          refine ac_istore (lv' := [(4, .int v24), (7, .int v5), (6, .int v3), (0, .ref r0), (1, .int x1), (2, .ref r2), (5, .int x5)]) d_X5_settle_89 (by decide) rfl ?_
          refine ac_goto (tgt := 111) d_X5_settle_91 (by decide) ?_
          obtain ⟨v25, ev25⟩ : ∃ y : Int32, y = x5 + 1 := ⟨_, rfl⟩
          have h := h v25 ev25
          refine ac_iinc (j := 6) (lv' := [(5, .int v25), (4, .int v24), (7, .int v5), (6, .int v3), (0, .ref r0), (1, .int x1), (2, .ref r2)]) d_X5_settle_111 rfl (by rw [ev25]; rfl) (by decide) rfl ?_
          refine ac_goto (tgt := 6) d_X5_settle_114 (by decide) ?_
          refine ac_weak [4, 5, 6, 1, 0] rfl ?_
          exact ih v24 v25 f23 h
      · have h := h.2 hc
        refine ac_iload 1 d_X5_settle_41 rfl ?_
        refine ac_sipush (v := 10000) d_X5_settle_43 rfl ?_
        refine ac_idiv d_X5_settle_46 (by decide) ?_
        refine ac_iload 0 d_X5_settle_47 rfl ?_
        refine ac_icmp_eq (tgt := 111) d_X5_settle_49 (by decide) (fun hc => ?_) (fun hc => ?_)
        · have h := h.1 hc
          obtain ⟨v26, ev26⟩ : ∃ y : Int32, y = x5 + 1 := ⟨_, rfl⟩
          have h := h v26 ev26
          refine ac_iinc (j := 6) (lv' := [(5, .int v26), (7, .int v5), (6, .int v3), (0, .ref r0), (1, .int x1), (2, .ref r2), (4, .int x4)]) d_X5_settle_111 rfl (by rw [ev26]; rfl) (by decide) rfl ?_
          refine ac_goto (tgt := 6) d_X5_settle_114 (by decide) ?_
          refine ac_weak [3, 4, 5, 6, 0] rfl ?_
          exact ih x4 v26 f6 h
        · have h := h.2 hc
          refine ac_iconst (v := -1) d_X5_settle_52 rfl ?_
          exact ac_ireturn hR rfl ⟨_, rfl, h⟩ (by decide) (by decide) d_X5_settle_53

set_option maxRecDepth 20000 in
set_option maxHeartbeats 4000000 in
theorem c_X5_settle (l : Launch) (D : va_G) (ki : Nat → ClassId) (r0 : Nat) (x1 : Int32) (r2 : Nat) (x3 : Int32) (f : ac_hp) (Q : Int32 → ac_hp → Prop) (h : wp_X5_settle ki r0 x1 r2 x3 f Q) : ac_met l D ki y_X5_settle prog_7_method_9_code 8 (some .int) (ro_ 2 0 0) [.ref r0, .int x1, .ref r2, .int x3] f (qr_I Q) 0 0 := by
  refine ac_enter (fun ki => wp_X5_settle ki r0 x1 r2 x3 f Q) (by decide) (Nat.le_of_ble_eq_true rfl) h ?_
  intro x hro hR hnm h
  unfold wp_X5_settle at h
  refine ac_iload_n 3 d_X5_settle_0 rfl rfl ?_
  refine ac_istore (lv' := [(4, .int x3), (0, .ref r0), (1, .int x1), (2, .ref r2), (3, .int x3)]) d_X5_settle_1 (by decide) rfl ?_
  refine ac_iconst (v := 0) d_X5_settle_3 rfl ?_
  refine ac_istore (lv' := [(5, .int 0), (4, .int x3), (0, .ref r0), (1, .int x1), (2, .ref r2), (3, .int x3)]) d_X5_settle_4 (by decide) rfl ?_
  obtain ⟨n27, h⟩ := h
  refine ac_weak [2, 3, 4, 1, 0] rfl ?_
  refine ok_X5_settle_L6 hro r0 x1 r2 Q hR _ (fun y28 f29 h => ?_) n27 x3 0 f h
  · skip
    refine ac_iload 0 d_X5_settle_117 rfl ?_
    exact ac_ireturn hR rfl ⟨_, rfl, h⟩ (by decide) (by decide) d_X5_settle_119
end
section
def wp_X0_isAsked (ki : Nat → ClassId) (r0 : Nat) (x1 : Int32) (f : ac_hp) (Q : Int32 → ac_hp → Prop) : Prop := ((¬ x1 = 8 → wp_X0_isBelow ki x1 8 f (fun v2 f1 => ((v2 = 0 → Q 0 f1) ∧ (¬ v2 = 0 → ∃ o3 : Nat, hr_f f1 r0 0 1 (.ref o3) ∧ ∃ v4 : Int32, hr_f f1 o3 4 4 (.int v4) ∧ ((v4 ≤ (x1 - x1 / 4 * 4) → Q 0 f1) ∧ (¬ v4 ≤ (x1 - x1 / 4 * 4) → Q 1 f1)))))) ∧ (x1 = 8 → Q 1 f))

set_option maxRecDepth 20000 in
set_option maxHeartbeats 4000000 in
theorem c_X0_isAsked (l : Launch) (D : va_G) (ki : Nat → ClassId) (r0 : Nat) (x1 : Int32) (f : ac_hp) (Q : Int32 → ac_hp → Prop) (h : wp_X0_isAsked ki r0 x1 f Q) : ac_met l D ki y_X0_isAsked prog_1_method_16_code 2 (some .boolean) (ro_ 2 0 0) [.ref r0, .int x1] f (qr_I Q) 0 0 := by
  refine ac_enter (fun ki => wp_X0_isAsked ki r0 x1 f Q) (by decide) (Nat.le_of_ble_eq_true rfl) h ?_
  intro x hro hR hnm h
  unfold wp_X0_isAsked at h
  refine ac_iload_n 1 d_X0_isAsked_0 rfl rfl ?_
  refine ac_bipush (v := 8) d_X0_isAsked_1 rfl ?_
  refine ac_icmp_ne (tgt := 8) d_X0_isAsked_3 (by decide) (fun hc => ?_) (fun hc => ?_)
  · have h := h.1 hc
    refine ac_iload_n 1 d_X0_isAsked_8 rfl rfl ?_
    refine ac_bipush (v := 8) d_X0_isAsked_9 rfl ?_
    refine ac_callS0 cd_X0_isBelow ml_X0_57 st_X0_isBelow (c_X0_isBelow _ _ _ x1 8 f _ h) rfl rfl (by rw [hro]; decide) rfl (rest := []) rfl (Nat.le_of_ble_eq_true rfl) (by rw [hro]; decide) d_X0_isAsked_11 (ac_I (fun v2 f1 h => ?_))
    refine ac_if_eq (tgt := 34) d_X0_isAsked_14 (by decide) (fun hc => ?_) (fun hc => ?_)
    · have h := h.1 hc
      refine ac_iconst (v := 0) d_X0_isAsked_34 rfl ?_
      exact ac_ireturn hR rfl ⟨_, rfl, h⟩ (by decide) (by decide) d_X0_isAsked_35
    · have h := h.2 hc
      refine ac_iload_n 1 d_X0_isAsked_17 rfl rfl ?_
      refine ac_iconst (v := 4) d_X0_isAsked_18 rfl ?_
      refine ac_irem d_X0_isAsked_19 (by decide) ?_
      refine ac_aload_n 0 d_X0_isAsked_20 rfl rfl ?_
      obtain ⟨o3, hr, h⟩ := h
      refine ak_getf hr fl_X0_19 d_X0_isAsked_21 ?_
      obtain ⟨v4, hr, h⟩ := h
      refine ak_getf hr fl_X0_116 d_X0_isAsked_24 ?_
      refine ac_icmp_ge (tgt := 34) d_X0_isAsked_27 (by decide) (fun hc => ?_) (fun hc => ?_)
      · have h := h.1 hc
        refine ac_iconst (v := 0) d_X0_isAsked_34 rfl ?_
        exact ac_ireturn hR rfl ⟨_, rfl, h⟩ (by decide) (by decide) d_X0_isAsked_35
      · have h := h.2 hc
        refine ac_iconst (v := 1) d_X0_isAsked_30 rfl ?_
        refine ac_goto (tgt := 35) d_X0_isAsked_31 (by decide) ?_
        exact ac_ireturn hR rfl ⟨_, rfl, h⟩ (by decide) (by decide) d_X0_isAsked_35
  · have h := h.2 hc
    refine ac_iconst (v := 1) d_X0_isAsked_6 rfl ?_
    exact ac_ireturn hR rfl ⟨_, rfl, h⟩ (by decide) (by decide) d_X0_isAsked_7

def wp_X5_mappingOf (ki : Nat → ClassId) (r0 : Nat) (x1 : Int32) (x2 : Int32) (f : ac_hp) (Q : Nat → ac_hp → Prop) : Prop := ∃ o1 : Nat, hr_f f r0 5 0 (.ref o1) ∧ ∃ o2 : Nat, hr_f f o1 1 1 (.ref o2) ∧ hr_o f r0 5 ∧ wp_X5_chosen ki r0 x1 x2 f (fun v4 f3 => ∃ o5 : Nat, hr_q (ki 4) f3 o2 v4 o5 ∧ Q o5 f3)

set_option maxRecDepth 20000 in
set_option maxHeartbeats 4000000 in
theorem c_X5_mappingOf (l : Launch) (D : va_G) (ki : Nat → ClassId) (r0 : Nat) (x1 : Int32) (x2 : Int32) (f : ac_hp) (Q : Nat → ac_hp → Prop) (h : wp_X5_mappingOf ki r0 x1 x2 f Q) : ac_met l D ki y_X5_mappingOf prog_7_method_3_code 3 (some (.object "VirtualRewrite$Mapping")) (ro_ 2 0 0) [.ref r0, .int x1, .int x2] f (qr_R Q) 0 0 := by
  refine ac_enter (fun ki => wp_X5_mappingOf ki r0 x1 x2 f Q) (by decide) (Nat.le_of_ble_eq_true rfl) h ?_
  intro x hro hR hnm h
  unfold wp_X5_mappingOf at h
  refine ac_aload_n 0 d_X5_mappingOf_0 rfl rfl ?_
  obtain ⟨o1, hr, h⟩ := h
  refine ak_getf hr fl_X5_32 d_X5_mappingOf_1 ?_
  obtain ⟨o2, hr, h⟩ := h
  refine ak_getf hr fl_X5_40 d_X5_mappingOf_4 ?_
  refine ac_aload_n 0 d_X5_mappingOf_7 rfl rfl ?_
  refine ac_iload_n 1 d_X5_mappingOf_8 rfl rfl ?_
  refine ac_iload_n 2 d_X5_mappingOf_9 rfl rfl ?_
  obtain ⟨⟨fs, hb⟩, h⟩ := h
  refine ac_callV0 cd_X5_chosen ml_X5_46 in_X5_chosen se_X5_chosen rfl hb (c_X5_chosen _ _ _ r0 x1 x2 f _ h) rfl rfl (by rw [hro]; decide) rfl (rest := [.ref o2]) rfl (Nat.le_of_ble_eq_true rfl) (by rw [hro]; decide) d_X5_mappingOf_10 (ac_I (fun v4 f3 h => ?_))
  obtain ⟨o5, hr, h⟩ := h
  refine ak_aald 4 hr rfl d_X5_mappingOf_13 ?_
  exact ac_areturn hR (Or.inl ⟨_, rfl⟩) ⟨_, rfl, h⟩ (by decide) (by decide) d_X5_mappingOf_14

def wp_X4_variables_L4 (ki : Nat → ClassId) (r0 : Nat) (E46 : Int32 → ac_hp → Prop) : Nat → Int32 → Int32 → ac_hp → Prop
  | 0, _, _, _ => False
  | n + 1, x1, x2, f => ∃ v1 : Int32, hr_f f r0 4 4 (.int v1) ∧ (((v1 * 2) ≤ x2 → E46 x1 f) ∧ (¬ (v1 * 2) ≤ x2 → ∃ o2 : Nat, hr_f f r0 4 1 (.ref o2) ∧ ∃ v3 : Int32, hr_i (ki 0) f o2 x2 v3 ∧ wp_X0_isVariable ki v3 f (fun v5 f4 => ((v5 = 0 → ∀ v6 : Int32, v6 = x2 + 1 → wp_X4_variables_L4 ki r0 E46 n x1 v6 f4) ∧ (¬ v5 = 0 → ∃ o7 : Nat, hr_f f4 r0 4 1 (.ref o7) ∧ ∃ v8 : Int32, hr_i (ki 0) f4 o7 x2 v8 ∧ wp_X0_variableOf ki v8 f4 (fun v10 f9 => wp_X0_with ki x1 v10 f9 (fun v12 f11 => ∀ v13 : Int32, v13 = x2 + 1 → wp_X4_variables_L4 ki r0 E46 n v12 v13 f11)))))))

def wp_X4_variables (ki : Nat → ClassId) (r0 : Nat) (f : ac_hp) (Q : Int32 → ac_hp → Prop) : Prop := ∃ n14, wp_X4_variables_L4 ki r0 (fun y15 f16 => Q y15 f16) n14 0 0 f

set_option maxRecDepth 20000 in
set_option maxHeartbeats 4000000 in
theorem ok_X4_variables_L4 {x : ac_X} (hro : ac_R x = (ro_ 2 0 0)) (r0 : Nat) (E46 : Int32 → ac_hp → Prop) (hE46 : ∀ (y1 : Int32) (f : ac_hp), E46 y1 f → ac_At (prog_6_method_7_code, 3, "VirtualRewrite$Question") x 0 0 46 [(1, .int y1)] [] f) : ∀ (n : Nat) (x1 : Int32) (x2 : Int32) (f : ac_hp), wp_X4_variables_L4 (ac_ki x) r0 E46 n x1 x2 f → ac_At (prog_6_method_7_code, 3, "VirtualRewrite$Question") x 0 0 4 [(0, .ref r0), (1, .int x1), (2, .int x2)] [] f := by
  intro n
  induction n with
  | zero => intro _ _ _ h; exact h.elim
  | succ n ih =>
    intro x1 x2 f h
    rw [wp_X4_variables_L4] at h
    refine ac_iload_n 2 d_X4_variables_4 rfl rfl ?_
    refine ac_aload_n 0 d_X4_variables_5 rfl rfl ?_
    obtain ⟨v1, hr, h⟩ := h
    refine ak_getf hr fl_X4_24 d_X4_variables_6 ?_
    refine ac_iconst (v := 2) d_X4_variables_9 rfl ?_
    refine ac_imul d_X4_variables_10 ?_
    refine ac_icmp_ge (tgt := 46) d_X4_variables_11 (by decide) (fun hc => ?_) (fun hc => ?_)
    · have h := h.1 hc
      refine ac_weak [1] rfl ?_
      exact hE46 x1 f h
    · have h := h.2 hc
      refine ac_aload_n 0 d_X4_variables_14 rfl rfl ?_
      obtain ⟨o2, hr, h⟩ := h
      refine ak_getf hr fl_X4_15 d_X4_variables_15 ?_
      refine ac_iload_n 2 d_X4_variables_18 rfl rfl ?_
      obtain ⟨v3, hr, h⟩ := h
      refine ak_iald 0 hr rfl d_X4_variables_19 ?_
      refine ac_callSN0 cd_X0_isVariable ml_X4_40 st_X0_isVariable (c_X0_isVariable _ _ _ v3 f _ h) rfl rfl (by rw [hro]; decide) rfl (rest := []) rfl (Nat.le_of_ble_eq_true rfl) (by rw [hro]; decide) d_X4_variables_20 (ac_I (fun v5 f4 h => ?_))
      refine ac_if_eq (tgt := 40) d_X4_variables_23 (by decide) (fun hc => ?_) (fun hc => ?_)
      · have h := h.1 hc
        obtain ⟨v6, ev6⟩ : ∃ y : Int32, y = x2 + 1 := ⟨_, rfl⟩
        have h := h v6 ev6
        refine ac_iinc (j := 2) (lv' := [(2, .int v6), (0, .ref r0), (1, .int x1)]) d_X4_variables_40 rfl (by rw [ev6]; rfl) (by decide) rfl ?_
        refine ac_goto (tgt := 4) d_X4_variables_43 (by decide) ?_
        refine ac_weak [1, 2, 0] rfl ?_
        exact ih x1 v6 f4 h
      · have h := h.2 hc
        refine ac_iload_n 1 d_X4_variables_26 rfl rfl ?_
        refine ac_aload_n 0 d_X4_variables_27 rfl rfl ?_
        obtain ⟨o7, hr, h⟩ := h
        refine ak_getf hr fl_X4_15 d_X4_variables_28 ?_
        refine ac_iload_n 2 d_X4_variables_31 rfl rfl ?_
        obtain ⟨v8, hr, h⟩ := h
        refine ak_iald 0 hr rfl d_X4_variables_32 ?_
        refine ac_callSN0 cd_X0_variableOf ml_X4_44 st_X0_variableOf (c_X0_variableOf _ _ _ v8 f4 _ h) rfl rfl (by rw [hro]; decide) rfl (rest := [.int x1]) rfl (Nat.le_of_ble_eq_true rfl) (by rw [hro]; decide) d_X4_variables_33 (ac_I (fun v10 f9 h => ?_))
        refine ac_callSN0 cd_X0_with ml_X4_48 st_X0_with (c_X0_with _ _ _ x1 v10 f9 _ h) rfl rfl (by rw [hro]; decide) rfl (rest := []) rfl (Nat.le_of_ble_eq_true rfl) (by rw [hro]; decide) d_X4_variables_36 (ac_I (fun v12 f11 h => ?_))
        refine ac_istore_n (lv' := [(1, .int v12), (0, .ref r0), (2, .int x2)]) d_X4_variables_39 rfl (by decide) rfl ?_
        obtain ⟨v13, ev13⟩ : ∃ y : Int32, y = x2 + 1 := ⟨_, rfl⟩
        have h := h v13 ev13
        refine ac_iinc (j := 2) (lv' := [(2, .int v13), (1, .int v12), (0, .ref r0)]) d_X4_variables_40 rfl (by rw [ev13]; rfl) (by decide) rfl ?_
        refine ac_goto (tgt := 4) d_X4_variables_43 (by decide) ?_
        refine ac_weak [2, 1, 0] rfl ?_
        exact ih v12 v13 f11 h

set_option maxRecDepth 20000 in
set_option maxHeartbeats 4000000 in
theorem c_X4_variables (l : Launch) (D : va_G) (ki : Nat → ClassId) (r0 : Nat) (f : ac_hp) (Q : Int32 → ac_hp → Prop) (h : wp_X4_variables ki r0 f Q) : ac_met l D ki y_X4_variables prog_6_method_7_code 3 (some .int) (ro_ 2 0 0) [.ref r0] f (qr_I Q) 0 0 := by
  refine ac_enter (fun ki => wp_X4_variables ki r0 f Q) (by decide) (Nat.le_of_ble_eq_true rfl) h ?_
  intro x hro hR hnm h
  unfold wp_X4_variables at h
  refine ac_iconst (v := 0) d_X4_variables_0 rfl ?_
  refine ac_istore_n (lv' := [(1, .int 0), (0, .ref r0)]) d_X4_variables_1 rfl (by decide) rfl ?_
  refine ac_iconst (v := 0) d_X4_variables_2 rfl ?_
  refine ac_istore_n (lv' := [(2, .int 0), (1, .int 0), (0, .ref r0)]) d_X4_variables_3 rfl (by decide) rfl ?_
  obtain ⟨n14, h⟩ := h
  refine ac_weak [2, 1, 0] rfl ?_
  refine ok_X4_variables_L4 hro r0 _ (fun y15 f16 h => ?_) n14 0 0 f h
  · skip
    refine ac_iload_n 0 d_X4_variables_46 rfl rfl ?_
    exact ac_ireturn hR rfl ⟨_, rfl, h⟩ (by decide) (by decide) d_X4_variables_47

def wp_X8_areAlike_L3 (ki : Nat → ClassId) (r0 : Nat) (x1 : Int32) (r2 : Nat) (x3 : Int32) (x4 : Int32) (Q : Int32 → ac_hp → Prop) (E56 : ac_hp → Prop) : Nat → Int32 → ac_hp → Prop
  | 0, _, _ => False
  | n + 1, x5, f => ((6 ≤ x5 → E56  f) ∧ (¬ 6 ≤ x5 → ∃ o1 : Nat, hr_f f r0 8 6 (.ref o1) ∧ ∃ v2 : Int32, hr_i (ki 0) f o1 ((x1 * 6) + x5) v2 ∧ ((v2 = (-1) → ∀ v3 : Int32, v3 = x5 + 1 → wp_X8_areAlike_L3 ki r0 x1 r2 x3 x4 Q E56 n v3 f) ∧ (¬ v2 = (-1) → hr_o f r2 2 ∧ wp_X2_cell ki r2 x3 v2 f (fun v5 f4 => hr_o f4 r2 2 ∧ wp_X2_cell ki r2 x4 v2 f4 (fun v7 f6 => ((v5 = v7 → ∀ v8 : Int32, v8 = x5 + 1 → wp_X8_areAlike_L3 ki r0 x1 r2 x3 x4 Q E56 n v8 f6) ∧ (¬ v5 = v7 → Q 0 f6))))))))

def wp_X8_areAlike (ki : Nat → ClassId) (r0 : Nat) (x1 : Int32) (r2 : Nat) (x3 : Int32) (x4 : Int32) (f : ac_hp) (Q : Int32 → ac_hp → Prop) : Prop := ∃ n9, wp_X8_areAlike_L3 ki r0 x1 r2 x3 x4 Q (fun f10 => Q 1 f10) n9 0 f

set_option maxRecDepth 20000 in
set_option maxHeartbeats 4000000 in
theorem ok_X8_areAlike_L3 {x : ac_X} (hro : ac_R x = (ro_ 2 0 0)) (r0 : Nat) (x1 : Int32) (r2 : Nat) (x3 : Int32) (x4 : Int32) (Q : Int32 → ac_hp → Prop) (hR : ac_rt x (some .boolean) (qr_I Q) 0 0) (E56 : ac_hp → Prop) (hE56 : ∀ (f : ac_hp), E56 f → ac_At (prog_4_method_10_code, 7, "VirtualRewrite$Finder") x 0 0 56 [] [] f) : ∀ (n : Nat) (x5 : Int32) (f : ac_hp), wp_X8_areAlike_L3 (ac_ki x) r0 x1 r2 x3 x4 Q E56 n x5 f → ac_At (prog_4_method_10_code, 7, "VirtualRewrite$Finder") x 0 0 3 [(0, .ref r0), (1, .int x1), (2, .ref r2), (3, .int x3), (4, .int x4), (5, .int x5)] [] f := by
  intro n
  induction n with
  | zero => intro _ _ h; exact h.elim
  | succ n ih =>
    intro x5 f h
    rw [wp_X8_areAlike_L3] at h
    refine ac_iload 5 d_X8_areAlike_3 rfl ?_
    refine ac_bipush (v := 6) d_X8_areAlike_5 rfl ?_
    refine ac_icmp_ge (tgt := 56) d_X8_areAlike_7 (by decide) (fun hc => ?_) (fun hc => ?_)
    · have h := h.1 hc
      refine ac_weak [] rfl ?_
      exact hE56  f h
    · have h := h.2 hc
      refine ac_aload_n 0 d_X8_areAlike_10 rfl rfl ?_
      obtain ⟨o1, hr, h⟩ := h
      refine ak_getf hr fl_X8_18 d_X8_areAlike_11 ?_
      refine ac_iload_n 1 d_X8_areAlike_14 rfl rfl ?_
      refine ac_bipush (v := 6) d_X8_areAlike_15 rfl ?_
      refine ac_imul d_X8_areAlike_17 ?_
      refine ac_iload 5 d_X8_areAlike_18 rfl ?_
      refine ac_iadd d_X8_areAlike_20 ?_
      obtain ⟨v2, hr, h⟩ := h
      refine ak_iald 0 hr rfl d_X8_areAlike_21 ?_
      refine ac_istore (lv' := [(6, .int v2), (0, .ref r0), (1, .int x1), (2, .ref r2), (3, .int x3), (4, .int x4), (5, .int x5)]) d_X8_areAlike_22 (by decide) rfl ?_
      refine ac_iload 0 d_X8_areAlike_24 rfl ?_
      refine ac_iconst (v := -1) d_X8_areAlike_26 rfl ?_
      refine ac_icmp_eq (tgt := 50) d_X8_areAlike_27 (by decide) (fun hc => ?_) (fun hc => ?_)
      · have h := h.1 hc
        obtain ⟨v3, ev3⟩ : ∃ y : Int32, y = x5 + 1 := ⟨_, rfl⟩
        have h := h v3 ev3
        refine ac_iinc (j := 6) (lv' := [(5, .int v3), (6, .int v2), (0, .ref r0), (1, .int x1), (2, .ref r2), (3, .int x3), (4, .int x4)]) d_X8_areAlike_50 rfl (by rw [ev3]; rfl) (by decide) rfl ?_
        refine ac_goto (tgt := 3) d_X8_areAlike_53 (by decide) ?_
        refine ac_weak [2, 3, 4, 5, 6, 0] rfl ?_
        exact ih v3 f h
      · have h := h.2 hc
        refine ac_aload_n 3 d_X8_areAlike_30 rfl rfl ?_
        refine ac_iload_n 4 d_X8_areAlike_31 rfl rfl ?_
        refine ac_iload 0 d_X8_areAlike_32 rfl ?_
        obtain ⟨⟨fs, hb⟩, h⟩ := h
        refine ac_callV0 cd_X2_cell ml_X8_137 in_X2_cell se_X2_cell rfl hb (c_X2_cell _ _ _ r2 x3 v2 f _ h) rfl rfl (by rw [hro]; decide) rfl (rest := []) rfl (Nat.le_of_ble_eq_true rfl) (by rw [hro]; decide) d_X8_areAlike_34 (ac_I (fun v5 f4 h => ?_))
        refine ac_aload_n 3 d_X8_areAlike_37 rfl rfl ?_
        refine ac_iload 5 d_X8_areAlike_38 rfl ?_
        refine ac_iload 0 d_X8_areAlike_40 rfl ?_
        obtain ⟨⟨fs, hb⟩, h⟩ := h
        refine ac_callV0 cd_X2_cell ml_X8_137 in_X2_cell se_X2_cell rfl hb (c_X2_cell _ _ _ r2 x4 v2 f4 _ h) rfl rfl (by rw [hro]; decide) rfl (rest := [.int v5]) rfl (Nat.le_of_ble_eq_true rfl) (by rw [hro]; decide) d_X8_areAlike_42 (ac_I (fun v7 f6 h => ?_))
        refine ac_icmp_eq (tgt := 50) d_X8_areAlike_45 (by decide) (fun hc => ?_) (fun hc => ?_)
        · have h := h.1 hc
          obtain ⟨v8, ev8⟩ : ∃ y : Int32, y = x5 + 1 := ⟨_, rfl⟩
          have h := h v8 ev8
          refine ac_iinc (j := 6) (lv' := [(5, .int v8), (6, .int v2), (0, .ref r0), (1, .int x1), (2, .ref r2), (3, .int x3), (4, .int x4)]) d_X8_areAlike_50 rfl (by rw [ev8]; rfl) (by decide) rfl ?_
          refine ac_goto (tgt := 3) d_X8_areAlike_53 (by decide) ?_
          refine ac_weak [2, 3, 4, 5, 6, 0] rfl ?_
          exact ih v8 f6 h
        · have h := h.2 hc
          refine ac_iconst (v := 0) d_X8_areAlike_48 rfl ?_
          exact ac_ireturn hR rfl ⟨_, rfl, h⟩ (by decide) (by decide) d_X8_areAlike_49

set_option maxRecDepth 20000 in
set_option maxHeartbeats 4000000 in
theorem c_X8_areAlike (l : Launch) (D : va_G) (ki : Nat → ClassId) (r0 : Nat) (x1 : Int32) (r2 : Nat) (x3 : Int32) (x4 : Int32) (f : ac_hp) (Q : Int32 → ac_hp → Prop) (h : wp_X8_areAlike ki r0 x1 r2 x3 x4 f Q) : ac_met l D ki y_X8_areAlike prog_4_method_10_code 7 (some .boolean) (ro_ 2 0 0) [.ref r0, .int x1, .ref r2, .int x3, .int x4] f (qr_I Q) 0 0 := by
  refine ac_enter (fun ki => wp_X8_areAlike ki r0 x1 r2 x3 x4 f Q) (by decide) (Nat.le_of_ble_eq_true rfl) h ?_
  intro x hro hR hnm h
  unfold wp_X8_areAlike at h
  refine ac_iconst (v := 0) d_X8_areAlike_0 rfl ?_
  refine ac_istore (lv' := [(5, .int 0), (0, .ref r0), (1, .int x1), (2, .ref r2), (3, .int x3), (4, .int x4)]) d_X8_areAlike_1 (by decide) rfl ?_
  obtain ⟨n9, h⟩ := h
  refine ac_weak [1, 2, 3, 4, 5, 0] rfl ?_
  refine ok_X8_areAlike_L3 hro r0 x1 r2 x3 x4 Q hR _ (fun f10 h => ?_) n9 0 f h
  · skip
    refine ac_iconst (v := 1) d_X8_areAlike_56 rfl ?_
    exact ac_ireturn hR rfl ⟨_, rfl, h⟩ (by decide) (by decide) d_X8_areAlike_57

def wp_X8_isBetter (ki : Nat → ClassId) (r0 : Nat) (x1 : Int32) (x2 : Int32) (x3 : Int32) (f : ac_hp) (Q : Int32 → ac_hp → Prop) : Prop := ∃ o1 : Nat, hr_f f r0 8 5 (.ref o1) ∧ ∃ v2 : Int32, hr_i (ki 0) f o1 x1 v2 ∧ wp_JInteger_bitCount ki (v2 &&& x3) f (fun v4 f3 => ∃ o5 : Nat, hr_f f3 r0 8 5 (.ref o5) ∧ ∃ v6 : Int32, hr_i (ki 0) f3 o5 x2 v6 ∧ wp_JInteger_bitCount ki (v6 &&& x3) f3 (fun v8 f7 => ((v4 = v8 → ∃ o9 : Nat, hr_f f7 r0 8 8 (.ref o9) ∧ ∃ v10 : Int32, hr_i (ki 0) f7 o9 x1 v10 ∧ ∃ o11 : Nat, hr_f f7 r0 8 8 (.ref o11) ∧ ∃ v12 : Int32, hr_i (ki 0) f7 o11 x2 v12 ∧ ((v12 ≤ v10 → Q 0 f7) ∧ (¬ v12 ≤ v10 → Q 1 f7))) ∧ (¬ v4 = v8 → ((v4 ≤ v8 → Q 0 f7) ∧ (¬ v4 ≤ v8 → Q 1 f7))))))

set_option maxRecDepth 20000 in
set_option maxHeartbeats 4000000 in
theorem c_X8_isBetter (l : Launch) (D : va_G) (ki : Nat → ClassId) (r0 : Nat) (x1 : Int32) (x2 : Int32) (x3 : Int32) (f : ac_hp) (Q : Int32 → ac_hp → Prop) (h : wp_X8_isBetter ki r0 x1 x2 x3 f Q) : ac_met l D ki y_X8_isBetter prog_4_method_12_code 6 (some .boolean) (ro_ 2 0 0) [.ref r0, .int x1, .int x2, .int x3] f (qr_I Q) 0 0 := by
  refine ac_enter (fun ki => wp_X8_isBetter ki r0 x1 x2 x3 f Q) (by decide) (Nat.le_of_ble_eq_true rfl) h ?_
  intro x hro hR hnm h
  unfold wp_X8_isBetter at h
  refine ac_aload_n 0 d_X8_isBetter_0 rfl rfl ?_
  obtain ⟨o1, hr, h⟩ := h
  refine ak_getf hr fl_X8_15 d_X8_isBetter_1 ?_
  refine ac_iload_n 1 d_X8_isBetter_4 rfl rfl ?_
  obtain ⟨v2, hr, h⟩ := h
  refine ak_iald 0 hr rfl d_X8_isBetter_5 ?_
  refine ac_iload_n 3 d_X8_isBetter_6 rfl rfl ?_
  refine ac_iand d_X8_isBetter_7 ?_
  refine ac_callS0 cd_JInteger_bitCount ml_X8_151 st_JInteger_bitCount (c_JInteger_bitCount _ _ _ (v2 &&& x3) f _ h) rfl rfl (by rw [hro]; decide) rfl (rest := []) rfl (Nat.le_of_ble_eq_true rfl) (by rw [hro]; decide) d_X8_isBetter_8 (ac_I (fun v4 f3 h => ?_))
  refine ac_istore (lv' := [(4, .int v4), (0, .ref r0), (1, .int x1), (2, .int x2), (3, .int x3)]) d_X8_isBetter_11 (by decide) rfl ?_
  refine ac_aload_n 1 d_X8_isBetter_13 rfl rfl ?_
  obtain ⟨o5, hr, h⟩ := h
  refine ak_getf hr fl_X8_15 d_X8_isBetter_14 ?_
  refine ac_iload_n 3 d_X8_isBetter_17 rfl rfl ?_
  obtain ⟨v6, hr, h⟩ := h
  refine ak_iald 0 hr rfl d_X8_isBetter_18 ?_
  refine ac_iload_n 4 d_X8_isBetter_19 rfl rfl ?_
  refine ac_iand d_X8_isBetter_20 ?_
  refine ac_callS0 cd_JInteger_bitCount ml_X8_151 st_JInteger_bitCount (c_JInteger_bitCount _ _ _ (v6 &&& x3) f3 _ h) rfl rfl (by rw [hro]; decide) rfl (rest := []) rfl (Nat.le_of_ble_eq_true rfl) (by rw [hro]; decide) d_X8_isBetter_21 (ac_I (fun v8 f7 h => ?_))
  refine ac_istore (lv' := [(5, .int v8), (4, .int v4), (0, .ref r0), (1, .int x1), (2, .int x2), (3, .int x3)]) d_X8_isBetter_24 (by decide) rfl ?_
  refine ac_iload 1 d_X8_isBetter_26 rfl ?_
  refine ac_iload 0 d_X8_isBetter_28 rfl ?_
  refine ac_icmp_eq (tgt := 48) d_X8_isBetter_30 (by decide) (fun hc => ?_) (fun hc => ?_)
  · have h := h.1 hc
    refine ac_aload_n 2 d_X8_isBetter_48 rfl rfl ?_
    obtain ⟨o9, hr, h⟩ := h
    refine ak_getf hr fl_X8_24 d_X8_isBetter_49 ?_
    refine ac_iload_n 3 d_X8_isBetter_52 rfl rfl ?_
    obtain ⟨v10, hr, h⟩ := h
    refine ak_iald 0 hr rfl d_X8_isBetter_53 ?_
    refine ac_aload_n 2 d_X8_isBetter_54 rfl rfl ?_
    obtain ⟨o11, hr, h⟩ := h
    refine ak_getf hr fl_X8_24 d_X8_isBetter_55 ?_
    refine ac_iload_n 4 d_X8_isBetter_58 rfl rfl ?_
    obtain ⟨v12, hr, h⟩ := h
    refine ak_iald 0 hr rfl d_X8_isBetter_59 ?_
    refine ac_icmp_ge (tgt := 67) d_X8_isBetter_60 (by decide) (fun hc => ?_) (fun hc => ?_)
    · have h := h.1 hc
      refine ac_iconst (v := 0) d_X8_isBetter_67 rfl ?_
      exact ac_ireturn hR rfl ⟨_, rfl, h⟩ (by decide) (by decide) d_X8_isBetter_68
    · have h := h.2 hc
      refine ac_iconst (v := 1) d_X8_isBetter_63 rfl ?_
      refine ac_goto (tgt := 68) d_X8_isBetter_64 (by decide) ?_
      exact ac_ireturn hR rfl ⟨_, rfl, h⟩ (by decide) (by decide) d_X8_isBetter_68
  · have h := h.2 hc
    refine ac_iload 1 d_X8_isBetter_33 rfl ?_
    refine ac_iload 0 d_X8_isBetter_35 rfl ?_
    refine ac_icmp_le (tgt := 44) d_X8_isBetter_37 (by decide) (fun hc => ?_) (fun hc => ?_)
    · have h := h.1 hc
      refine ac_iconst (v := 0) d_X8_isBetter_44 rfl ?_
      refine ac_goto (tgt := 68) d_X8_isBetter_45 (by decide) ?_
      exact ac_ireturn hR rfl ⟨_, rfl, h⟩ (by decide) (by decide) d_X8_isBetter_68
    · have h := h.2 hc
      refine ac_iconst (v := 1) d_X8_isBetter_40 rfl ?_
      refine ac_goto (tgt := 68) d_X8_isBetter_41 (by decide) ?_
      exact ac_ireturn hR rfl ⟨_, rfl, h⟩ (by decide) (by decide) d_X8_isBetter_68

def wp_X7_compare_L2 (ki : Nat → ClassId) (r0 : Nat) (x1 : Int32) (r2 : Nat) (Q : Int32 → ac_hp → Prop) (E34 : ac_hp → Prop) : Nat → Int32 → ac_hp → Prop
  | 0, _, _ => False
  | n + 1, x3, f => ((6 ≤ x3 → E34  f) ∧ (¬ 6 ≤ x3 → hr_o f r0 7 ∧ wp_X7_code ki r0 x1 x3 f (fun v2 f1 => ∃ v3 : Int32, hr_i (ki 0) f1 r2 x3 v3 ∧ ∀ v4 : Int32, v4 = v2 - v3 → ((v4 = 0 → ∀ v5 : Int32, v5 = x3 + 1 → wp_X7_compare_L2 ki r0 x1 r2 Q E34 n v5 f1) ∧ (¬ v4 = 0 → Q v4 f1)))))

def wp_X7_compare (ki : Nat → ClassId) (r0 : Nat) (x1 : Int32) (r2 : Nat) (f : ac_hp) (Q : Int32 → ac_hp → Prop) : Prop := ∃ n6, wp_X7_compare_L2 ki r0 x1 r2 Q (fun f7 => Q 0 f7) n6 0 f

set_option maxRecDepth 20000 in
set_option maxHeartbeats 4000000 in
theorem ok_X7_compare_L2 {x : ac_X} (hro : ac_R x = (ro_ 2 0 0)) (r0 : Nat) (x1 : Int32) (r2 : Nat) (Q : Int32 → ac_hp → Prop) (hR : ac_rt x (some .int) (qr_I Q) 0 0) (E34 : ac_hp → Prop) (hE34 : ∀ (f : ac_hp), E34 f → ac_At (prog_2_method_9_code, 5, "VirtualRewrite$Answers") x 0 0 34 [] [] f) : ∀ (n : Nat) (x3 : Int32) (f : ac_hp), wp_X7_compare_L2 (ac_ki x) r0 x1 r2 Q E34 n x3 f → ac_At (prog_2_method_9_code, 5, "VirtualRewrite$Answers") x 0 0 2 [(0, .ref r0), (1, .int x1), (2, .ref r2), (3, .int x3)] [] f := by
  intro n
  induction n with
  | zero => intro _ _ h; exact h.elim
  | succ n ih =>
    intro x3 f h
    rw [wp_X7_compare_L2] at h
    refine ac_iload_n 3 d_X7_compare_2 rfl rfl ?_
    refine ac_bipush (v := 6) d_X7_compare_3 rfl ?_
    refine ac_icmp_ge (tgt := 34) d_X7_compare_5 (by decide) (fun hc => ?_) (fun hc => ?_)
    · have h := h.1 hc
      refine ac_weak [] rfl ?_
      exact hE34  f h
    · have h := h.2 hc
      refine ac_aload_n 0 d_X7_compare_8 rfl rfl ?_
      refine ac_iload_n 1 d_X7_compare_9 rfl rfl ?_
      refine ac_iload_n 3 d_X7_compare_10 rfl rfl ?_
      obtain ⟨⟨fs, hb⟩, h⟩ := h
      refine ac_callV0 cd_X7_code ml_X7_53 in_X7_code se_X7_code rfl hb (c_X7_code _ _ _ r0 x1 x3 f _ h) rfl rfl (by rw [hro]; decide) rfl (rest := []) rfl (Nat.le_of_ble_eq_true rfl) (by rw [hro]; decide) d_X7_compare_11 (ac_I (fun v2 f1 h => ?_))
      refine ac_aload_n 2 d_X7_compare_14 rfl rfl ?_
      refine ac_iload_n 3 d_X7_compare_15 rfl rfl ?_
      obtain ⟨v3, hr, h⟩ := h
      refine ak_iald 0 hr rfl d_X7_compare_16 ?_
      refine ac_isub d_X7_compare_17 ?_
      refine ak_topi (fun v4 ev4 => ?_)
      have h := h v4 ev4
      refine ac_istore (lv' := [(4, .int v4), (0, .ref r0), (1, .int x1), (2, .ref r2), (3, .int x3)]) d_X7_compare_18 (by decide) rfl ?_
      refine ac_iload 0 d_X7_compare_20 rfl ?_
      refine ac_if_eq (tgt := 28) d_X7_compare_22 (by decide) (fun hc => ?_) (fun hc => ?_)
      · have h := h.1 hc
        obtain ⟨v5, ev5⟩ : ∃ y : Int32, y = x3 + 1 := ⟨_, rfl⟩
        have h := h v5 ev5
        refine ac_iinc (j := 4) (lv' := [(3, .int v5), (4, .int v4), (0, .ref r0), (1, .int x1), (2, .ref r2)]) d_X7_compare_28 rfl (by rw [ev5]; rfl) (by decide) rfl ?_
        refine ac_goto (tgt := 2) d_X7_compare_31 (by decide) ?_
        refine ac_weak [2, 3, 4, 0] rfl ?_
        exact ih v5 f1 h
      · have h := h.2 hc
        refine ac_iload 0 d_X7_compare_25 rfl ?_
        exact ac_ireturn hR rfl ⟨_, rfl, h⟩ (by decide) (by decide) d_X7_compare_27

set_option maxRecDepth 20000 in
set_option maxHeartbeats 4000000 in
theorem c_X7_compare (l : Launch) (D : va_G) (ki : Nat → ClassId) (r0 : Nat) (x1 : Int32) (r2 : Nat) (f : ac_hp) (Q : Int32 → ac_hp → Prop) (h : wp_X7_compare ki r0 x1 r2 f Q) : ac_met l D ki y_X7_compare prog_2_method_9_code 5 (some .int) (ro_ 2 0 0) [.ref r0, .int x1, .ref r2] f (qr_I Q) 0 0 := by
  refine ac_enter (fun ki => wp_X7_compare ki r0 x1 r2 f Q) (by decide) (Nat.le_of_ble_eq_true rfl) h ?_
  intro x hro hR hnm h
  unfold wp_X7_compare at h
  refine ac_iconst (v := 0) d_X7_compare_0 rfl ?_
  refine ac_istore_n (lv' := [(3, .int 0), (0, .ref r0), (1, .int x1), (2, .ref r2)]) d_X7_compare_1 rfl (by decide) rfl ?_
  obtain ⟨n6, h⟩ := h
  refine ac_weak [1, 2, 3, 0] rfl ?_
  refine ok_X7_compare_L2 hro r0 x1 r2 Q hR _ (fun f7 h => ?_) n6 0 f h
  · skip
    refine ac_iconst (v := 0) d_X7_compare_34 rfl ?_
    exact ac_ireturn hR rfl ⟨_, rfl, h⟩ (by decide) (by decide) d_X7_compare_35

def wp_X8_agrees_L3 (ki : Nat → ClassId) (r0 : Nat) (x1 : Int32) (r2 : Nat) (x3 : Int32) (x4 : Int32) (Q : Int32 → ac_hp → Prop) (E69 : ac_hp → Prop) : Nat → Int32 → ac_hp → Prop
  | 0, _, _ => False
  | n + 1, x5, f => ((6 ≤ x5 → E69  f) ∧ (¬ 6 ≤ x5 → ∃ o1 : Nat, hr_f f r0 8 6 (.ref o1) ∧ ∃ v2 : Int32, hr_i (ki 0) f o1 ((x1 * 6) + x5) v2 ∧ ((v2 = (-1) → ∀ v3 : Int32, v3 = x5 + 1 → wp_X8_agrees_L3 ki r0 x1 r2 x3 x4 Q E69 n v3 f) ∧ (¬ v2 = (-1) → wp_X0_has ki x4 x5 f (fun v5 f4 => ((v5 = 0 → ∀ v6 : Int32, v6 = x5 + 1 → wp_X8_agrees_L3 ki r0 x1 r2 x3 x4 Q E69 n v6 f4) ∧ (¬ v5 = 0 → ∃ o7 : Nat, hr_f f4 r0 8 11 (.ref o7) ∧ ∃ v8 : Int32, hr_i (ki 0) f4 o7 x5 v8 ∧ hr_o f4 r2 2 ∧ wp_X2_cell ki r2 x3 v2 f4 (fun v10 f9 => (((v8 - v8 / 10000 * 10000) = v10 → ∀ v11 : Int32, v11 = x5 + 1 → wp_X8_agrees_L3 ki r0 x1 r2 x3 x4 Q E69 n v11 f9) ∧ (¬ (v8 - v8 / 10000 * 10000) = v10 → Q 0 f9))))))))))

def wp_X8_agrees (ki : Nat → ClassId) (r0 : Nat) (x1 : Int32) (r2 : Nat) (x3 : Int32) (x4 : Int32) (f : ac_hp) (Q : Int32 → ac_hp → Prop) : Prop := ∃ n12, wp_X8_agrees_L3 ki r0 x1 r2 x3 x4 Q (fun f13 => Q 1 f13) n12 0 f

set_option maxRecDepth 20000 in
set_option maxHeartbeats 4000000 in
theorem ok_X8_agrees_L3 {x : ac_X} (hro : ac_R x = (ro_ 2 0 0)) (r0 : Nat) (x1 : Int32) (r2 : Nat) (x3 : Int32) (x4 : Int32) (Q : Int32 → ac_hp → Prop) (hR : ac_rt x (some .boolean) (qr_I Q) 0 0) (E69 : ac_hp → Prop) (hE69 : ∀ (f : ac_hp), E69 f → ac_At (prog_4_method_14_code, 7, "VirtualRewrite$Finder") x 0 0 69 [] [] f) : ∀ (n : Nat) (x5 : Int32) (f : ac_hp), wp_X8_agrees_L3 (ac_ki x) r0 x1 r2 x3 x4 Q E69 n x5 f → ac_At (prog_4_method_14_code, 7, "VirtualRewrite$Finder") x 0 0 3 [(0, .ref r0), (1, .int x1), (2, .ref r2), (3, .int x3), (4, .int x4), (5, .int x5)] [] f := by
  intro n
  induction n with
  | zero => intro _ _ h; exact h.elim
  | succ n ih =>
    intro x5 f h
    rw [wp_X8_agrees_L3] at h
    refine ac_iload 5 d_X8_agrees_3 rfl ?_
    refine ac_bipush (v := 6) d_X8_agrees_5 rfl ?_
    refine ac_icmp_ge (tgt := 69) d_X8_agrees_7 (by decide) (fun hc => ?_) (fun hc => ?_)
    · have h := h.1 hc
      refine ac_weak [] rfl ?_
      exact hE69  f h
    · have h := h.2 hc
      refine ac_aload_n 0 d_X8_agrees_10 rfl rfl ?_
      obtain ⟨o1, hr, h⟩ := h
      refine ak_getf hr fl_X8_18 d_X8_agrees_11 ?_
      refine ac_iload_n 1 d_X8_agrees_14 rfl rfl ?_
      refine ac_bipush (v := 6) d_X8_agrees_15 rfl ?_
      refine ac_imul d_X8_agrees_17 ?_
      refine ac_iload 5 d_X8_agrees_18 rfl ?_
      refine ac_iadd d_X8_agrees_20 ?_
      obtain ⟨v2, hr, h⟩ := h
      refine ak_iald 0 hr rfl d_X8_agrees_21 ?_
      refine ac_istore (lv' := [(6, .int v2), (0, .ref r0), (1, .int x1), (2, .ref r2), (3, .int x3), (4, .int x4), (5, .int x5)]) d_X8_agrees_22 (by decide) rfl ?_
      refine ac_iload 0 d_X8_agrees_24 rfl ?_
      refine ac_iconst (v := -1) d_X8_agrees_26 rfl ?_
      refine ac_icmp_eq (tgt := 63) d_X8_agrees_27 (by decide) (fun hc => ?_) (fun hc => ?_)
      · have h := h.1 hc
        obtain ⟨v3, ev3⟩ : ∃ y : Int32, y = x5 + 1 := ⟨_, rfl⟩
        have h := h v3 ev3
        refine ac_iinc (j := 6) (lv' := [(5, .int v3), (6, .int v2), (0, .ref r0), (1, .int x1), (2, .ref r2), (3, .int x3), (4, .int x4)]) d_X8_agrees_63 rfl (by rw [ev3]; rfl) (by decide) rfl ?_
        refine ac_goto (tgt := 3) d_X8_agrees_66 (by decide) ?_
        refine ac_weak [2, 3, 4, 5, 6, 0] rfl ?_
        exact ih v3 f h
      · have h := h.2 hc
        refine ac_iload 5 d_X8_agrees_30 rfl ?_
        refine ac_iload 6 d_X8_agrees_32 rfl ?_
        refine ac_callSN0 cd_X0_has ml_X8_173 st_X0_has (c_X0_has _ _ _ x4 x5 f _ h) rfl rfl (by rw [hro]; decide) rfl (rest := []) rfl (Nat.le_of_ble_eq_true rfl) (by rw [hro]; decide) d_X8_agrees_34 (ac_I (fun v5 f4 h => ?_))
        refine ac_if_eq (tgt := 63) d_X8_agrees_37 (by decide) (fun hc => ?_) (fun hc => ?_)
        · have h := h.1 hc
          obtain ⟨v6, ev6⟩ : ∃ y : Int32, y = x5 + 1 := ⟨_, rfl⟩
          have h := h v6 ev6
          refine ac_iinc (j := 6) (lv' := [(5, .int v6), (6, .int v2), (0, .ref r0), (1, .int x1), (2, .ref r2), (3, .int x3), (4, .int x4)]) d_X8_agrees_63 rfl (by rw [ev6]; rfl) (by decide) rfl ?_
          refine ac_goto (tgt := 3) d_X8_agrees_66 (by decide) ?_
          refine ac_weak [2, 3, 4, 5, 6, 0] rfl ?_
          exact ih v6 f4 h
        · have h := h.2 hc
          refine ac_aload_n 1 d_X8_agrees_40 rfl rfl ?_
          obtain ⟨o7, hr, h⟩ := h
          refine ak_getf hr fl_X8_33 d_X8_agrees_41 ?_
          refine ac_iload 6 d_X8_agrees_44 rfl ?_
          obtain ⟨v8, hr, h⟩ := h
          refine ak_iald 0 hr rfl d_X8_agrees_46 ?_
          refine ac_sipush (v := 10000) d_X8_agrees_47 rfl ?_
          refine ac_irem d_X8_agrees_50 (by decide) ?_
          refine ac_aload_n 3 d_X8_agrees_51 rfl rfl ?_
          refine ac_iload_n 4 d_X8_agrees_52 rfl rfl ?_
          refine ac_iload 0 d_X8_agrees_53 rfl ?_
          obtain ⟨⟨fs, hb⟩, h⟩ := h
          refine ac_callV0 cd_X2_cell ml_X8_137 in_X2_cell se_X2_cell rfl hb (c_X2_cell _ _ _ r2 x3 v2 f4 _ h) rfl rfl (by rw [hro]; decide) rfl (rest := [.int (v8 - v8 / 10000 * 10000)]) rfl (Nat.le_of_ble_eq_true rfl) (by rw [hro]; decide) d_X8_agrees_55 (ac_I (fun v10 f9 h => ?_))
          refine ac_icmp_eq (tgt := 63) d_X8_agrees_58 (by decide) (fun hc => ?_) (fun hc => ?_)
          · have h := h.1 hc
            obtain ⟨v11, ev11⟩ : ∃ y : Int32, y = x5 + 1 := ⟨_, rfl⟩
            have h := h v11 ev11
            refine ac_iinc (j := 6) (lv' := [(5, .int v11), (6, .int v2), (0, .ref r0), (1, .int x1), (2, .ref r2), (3, .int x3), (4, .int x4)]) d_X8_agrees_63 rfl (by rw [ev11]; rfl) (by decide) rfl ?_
            refine ac_goto (tgt := 3) d_X8_agrees_66 (by decide) ?_
            refine ac_weak [2, 3, 4, 5, 6, 0] rfl ?_
            exact ih v11 f9 h
          · have h := h.2 hc
            refine ac_iconst (v := 0) d_X8_agrees_61 rfl ?_
            exact ac_ireturn hR rfl ⟨_, rfl, h⟩ (by decide) (by decide) d_X8_agrees_62

set_option maxRecDepth 20000 in
set_option maxHeartbeats 4000000 in
theorem c_X8_agrees (l : Launch) (D : va_G) (ki : Nat → ClassId) (r0 : Nat) (x1 : Int32) (r2 : Nat) (x3 : Int32) (x4 : Int32) (f : ac_hp) (Q : Int32 → ac_hp → Prop) (h : wp_X8_agrees ki r0 x1 r2 x3 x4 f Q) : ac_met l D ki y_X8_agrees prog_4_method_14_code 7 (some .boolean) (ro_ 2 0 0) [.ref r0, .int x1, .ref r2, .int x3, .int x4] f (qr_I Q) 0 0 := by
  refine ac_enter (fun ki => wp_X8_agrees ki r0 x1 r2 x3 x4 f Q) (by decide) (Nat.le_of_ble_eq_true rfl) h ?_
  intro x hro hR hnm h
  unfold wp_X8_agrees at h
  refine ac_iconst (v := 0) d_X8_agrees_0 rfl ?_
  refine ac_istore (lv' := [(5, .int 0), (0, .ref r0), (1, .int x1), (2, .ref r2), (3, .int x3), (4, .int x4)]) d_X8_agrees_1 (by decide) rfl ?_
  obtain ⟨n12, h⟩ := h
  refine ac_weak [1, 2, 3, 4, 5, 0] rfl ?_
  refine ok_X8_agrees_L3 hro r0 x1 r2 x3 x4 Q hR _ (fun f13 h => ?_) n12 0 f h
  · skip
    refine ac_iconst (v := 1) d_X8_agrees_69 rfl ?_
    exact ac_ireturn hR rfl ⟨_, rfl, h⟩ (by decide) (by decide) d_X8_agrees_70

def wp_X8_settleVariables_L3 (ki : Nat → ClassId) (r0 : Nat) (x1 : Int32) (r2 : Nat) (x3 : Int32) (E62 : ac_hp → Prop) : Nat → Int32 → ac_hp → Prop
  | 0, _, _ => False
  | n + 1, x4, f => ((6 ≤ x4 → E62  f) ∧ (¬ 6 ≤ x4 → ∃ o1 : Nat, hr_f f r0 8 6 (.ref o1) ∧ ∃ v2 : Int32, hr_i (ki 0) f o1 ((x1 * 6) + x4) v2 ∧ ((v2 = (-1) → ∀ v3 : Int32, v3 = x4 + 1 → wp_X8_settleVariables_L3 ki r0 x1 r2 x3 E62 n v3 f) ∧ (¬ v2 = (-1) → ∃ o4 : Nat, hr_f f r0 8 11 (.ref o4) ∧ ∃ o5 : Nat, hr_f f r0 8 10 (.ref o5) ∧ ∃ v6 : Int32, hr_i (ki 0) f o5 x4 v6 ∧ hr_o f r2 2 ∧ wp_X2_cell ki r2 x3 v2 f (fun v8 f7 => ∃ f9, hw_i (ki 0) f7 o4 x4 ((v6 * 10000) + v8) f9 ∧ ∀ v10 : Int32, v10 = x4 + 1 → wp_X8_settleVariables_L3 ki r0 x1 r2 x3 E62 n v10 f9)))))

def wp_X8_settleVariables (ki : Nat → ClassId) (r0 : Nat) (x1 : Int32) (r2 : Nat) (x3 : Int32) (f : ac_hp) (Q : ac_hp → Prop) : Prop := ∃ n11, wp_X8_settleVariables_L3 ki r0 x1 r2 x3 (fun f12 => Q f12) n11 0 f

set_option maxRecDepth 20000 in
set_option maxHeartbeats 4000000 in
theorem ok_X8_settleVariables_L3 {x : ac_X} (hro : ac_R x = (ro_ 2 0 0)) (r0 : Nat) (x1 : Int32) (r2 : Nat) (x3 : Int32) (E62 : ac_hp → Prop) (hE62 : ∀ (f : ac_hp), E62 f → ac_At (prog_4_method_15_code, 6, "VirtualRewrite$Finder") x 0 0 62 [] [] f) : ∀ (n : Nat) (x4 : Int32) (f : ac_hp), wp_X8_settleVariables_L3 (ac_ki x) r0 x1 r2 x3 E62 n x4 f → ac_At (prog_4_method_15_code, 6, "VirtualRewrite$Finder") x 0 0 3 [(0, .ref r0), (1, .int x1), (2, .ref r2), (3, .int x3), (4, .int x4)] [] f := by
  intro n
  induction n with
  | zero => intro _ _ h; exact h.elim
  | succ n ih =>
    intro x4 f h
    rw [wp_X8_settleVariables_L3] at h
    refine ac_iload 4 d_X8_settleVariables_3 rfl ?_
    refine ac_bipush (v := 6) d_X8_settleVariables_5 rfl ?_
    refine ac_icmp_ge (tgt := 62) d_X8_settleVariables_7 (by decide) (fun hc => ?_) (fun hc => ?_)
    · have h := h.1 hc
      refine ac_weak [] rfl ?_
      exact hE62  f h
    · have h := h.2 hc
      refine ac_aload_n 0 d_X8_settleVariables_10 rfl rfl ?_
      obtain ⟨o1, hr, h⟩ := h
      refine ak_getf hr fl_X8_18 d_X8_settleVariables_11 ?_
      refine ac_iload_n 1 d_X8_settleVariables_14 rfl rfl ?_
      refine ac_bipush (v := 6) d_X8_settleVariables_15 rfl ?_
      refine ac_imul d_X8_settleVariables_17 ?_
      refine ac_iload 4 d_X8_settleVariables_18 rfl ?_
      refine ac_iadd d_X8_settleVariables_20 ?_
      obtain ⟨v2, hr, h⟩ := h
      refine ak_iald 0 hr rfl d_X8_settleVariables_21 ?_
      refine ac_istore (lv' := [(5, .int v2), (0, .ref r0), (1, .int x1), (2, .ref r2), (3, .int x3), (4, .int x4)]) d_X8_settleVariables_22 (by decide) rfl ?_
      refine ac_iload 0 d_X8_settleVariables_24 rfl ?_
      refine ac_iconst (v := -1) d_X8_settleVariables_26 rfl ?_
      refine ac_icmp_eq (tgt := 56) d_X8_settleVariables_27 (by decide) (fun hc => ?_) (fun hc => ?_)
      · have h := h.1 hc
        obtain ⟨v3, ev3⟩ : ∃ y : Int32, y = x4 + 1 := ⟨_, rfl⟩
        have h := h v3 ev3
        refine ac_iinc (j := 5) (lv' := [(4, .int v3), (5, .int v2), (0, .ref r0), (1, .int x1), (2, .ref r2), (3, .int x3)]) d_X8_settleVariables_56 rfl (by rw [ev3]; rfl) (by decide) rfl ?_
        refine ac_goto (tgt := 3) d_X8_settleVariables_59 (by decide) ?_
        refine ac_weak [2, 3, 4, 5, 0] rfl ?_
        exact ih v3 f h
      · have h := h.2 hc
        refine ac_aload_n 1 d_X8_settleVariables_30 rfl rfl ?_
        obtain ⟨o4, hr, h⟩ := h
        refine ak_getf hr fl_X8_33 d_X8_settleVariables_31 ?_
        refine ac_iload 5 d_X8_settleVariables_34 rfl ?_
        refine ac_aload_n 1 d_X8_settleVariables_36 rfl rfl ?_
        obtain ⟨o5, hr, h⟩ := h
        refine ak_getf hr fl_X8_30 d_X8_settleVariables_37 ?_
        refine ac_iload 5 d_X8_settleVariables_40 rfl ?_
        obtain ⟨v6, hr, h⟩ := h
        refine ak_iald 0 hr rfl d_X8_settleVariables_42 ?_
        refine ac_sipush (v := 10000) d_X8_settleVariables_43 rfl ?_
        refine ac_imul d_X8_settleVariables_46 ?_
        refine ac_aload_n 3 d_X8_settleVariables_47 rfl rfl ?_
        refine ac_iload_n 4 d_X8_settleVariables_48 rfl rfl ?_
        refine ac_iload 0 d_X8_settleVariables_49 rfl ?_
        obtain ⟨⟨fs, hb⟩, h⟩ := h
        refine ac_callV0 cd_X2_cell ml_X8_137 in_X2_cell se_X2_cell rfl hb (c_X2_cell _ _ _ r2 x3 v2 f _ h) rfl rfl (by rw [hro]; decide) rfl (rest := [.int (v6 * 10000), .int x4, .ref o4]) rfl (Nat.le_of_ble_eq_true rfl) (by rw [hro]; decide) d_X8_settleVariables_51 (ac_I (fun v8 f7 h => ?_))
        refine ac_iadd d_X8_settleVariables_54 ?_
        obtain ⟨f9, hr, h⟩ := h
        refine ak_iast 0 hr rfl d_X8_settleVariables_55 ?_
        obtain ⟨v10, ev10⟩ : ∃ y : Int32, y = x4 + 1 := ⟨_, rfl⟩
        have h := h v10 ev10
        refine ac_iinc (j := 5) (lv' := [(4, .int v10), (5, .int v2), (0, .ref r0), (1, .int x1), (2, .ref r2), (3, .int x3)]) d_X8_settleVariables_56 rfl (by rw [ev10]; rfl) (by decide) rfl ?_
        refine ac_goto (tgt := 3) d_X8_settleVariables_59 (by decide) ?_
        refine ac_weak [2, 3, 4, 5, 0] rfl ?_
        exact ih v10 f9 h

set_option maxRecDepth 20000 in
set_option maxHeartbeats 4000000 in
theorem c_X8_settleVariables (l : Launch) (D : va_G) (ki : Nat → ClassId) (r0 : Nat) (x1 : Int32) (r2 : Nat) (x3 : Int32) (f : ac_hp) (Q : ac_hp → Prop) (h : wp_X8_settleVariables ki r0 x1 r2 x3 f Q) : ac_met l D ki y_X8_settleVariables prog_4_method_15_code 6 none (ro_ 2 0 0) [.ref r0, .int x1, .ref r2, .int x3] f (qr_V Q) 0 0 := by
  refine ac_enter (fun ki => wp_X8_settleVariables ki r0 x1 r2 x3 f Q) (by decide) (Nat.le_of_ble_eq_true rfl) h ?_
  intro x hro hR hnm h
  unfold wp_X8_settleVariables at h
  refine ac_iconst (v := 0) d_X8_settleVariables_0 rfl ?_
  refine ac_istore (lv' := [(4, .int 0), (0, .ref r0), (1, .int x1), (2, .ref r2), (3, .int x3)]) d_X8_settleVariables_1 (by decide) rfl ?_
  obtain ⟨n11, h⟩ := h
  refine ac_weak [1, 2, 3, 4, 0] rfl ?_
  refine ok_X8_settleVariables_L3 hro r0 x1 r2 x3 _ (fun f12 h => ?_) n11 0 f h
  · skip
    exact ac_vreturn hR ⟨rfl, h⟩ (by decide) (by decide) d_X8_settleVariables_62
end
section
def wp_X0_found (ki : Nat → ClassId) (r0 : Nat) (x1 : Int32) (x2 : Int32) (f : ac_hp) (Q : Int32 → ac_hp → Prop) : Prop := ∃ o1 : Nat, hr_f f r0 0 4 (.ref o1) ∧ ∃ v2 : Int32, hr_f f o1 7 4 (.int v2) ∧ wp_X0_isBelow ki x1 v2 f (fun v4 f3 => ((v4 = 0 → Q (-1) f3) ∧ (¬ v4 = 0 → wp_X0_isBelow ki x2 2 f3 (fun v6 f5 => ((¬ v6 = 0 → ((¬ x2 = 0 → ∃ o7 : Nat, hr_f f5 r0 0 4 (.ref o7) ∧ hr_o f5 o7 7 ∧ wp_X7_firstFinder ki o7 x1 f5 (fun v9 f8 => Q v9 f8)) ∧ (x2 = 0 → ∃ o10 : Nat, hr_f f5 r0 0 4 (.ref o10) ∧ hr_o f5 o10 7 ∧ wp_X7_finders ki o10 x1 f5 (fun v12 f11 => Q v12 f11)))) ∧ (v6 = 0 → Q (-1) f5))))))

set_option maxRecDepth 20000 in
set_option maxHeartbeats 4000000 in
theorem c_X0_found (l : Launch) (D : va_G) (ki : Nat → ClassId) (r0 : Nat) (x1 : Int32) (x2 : Int32) (f : ac_hp) (Q : Int32 → ac_hp → Prop) (h : wp_X0_found ki r0 x1 x2 f Q) : ac_met l D ki y_X0_found prog_1_method_15_code 3 (some .int) (ro_ 2 0 0) [.ref r0, .int x1, .int x2] f (qr_I Q) 0 0 := by
  refine ac_enter (fun ki => wp_X0_found ki r0 x1 x2 f Q) (by decide) (Nat.le_of_ble_eq_true rfl) h ?_
  intro x hro hR hnm h
  unfold wp_X0_found at h
  refine ac_iload_n 1 d_X0_found_0 rfl rfl ?_
  refine ac_aload_n 0 d_X0_found_1 rfl rfl ?_
  obtain ⟨o1, hr, h⟩ := h
  refine ak_getf hr fl_X0_44 d_X0_found_2 ?_
  obtain ⟨v2, hr, h⟩ := h
  refine ak_getf hr fl_X0_171 d_X0_found_5 ?_
  refine ac_callS0 cd_X0_isBelow ml_X0_57 st_X0_isBelow (c_X0_isBelow _ _ _ x1 v2 f _ h) rfl rfl (by rw [hro]; decide) rfl (rest := []) rfl (Nat.le_of_ble_eq_true rfl) (by rw [hro]; decide) d_X0_found_8 (ac_I (fun v4 f3 h => ?_))
  refine ac_if_eq (tgt := 22) d_X0_found_11 (by decide) (fun hc => ?_) (fun hc => ?_)
  · have h := h.1 hc
    refine ac_iconst (v := -1) d_X0_found_22 rfl ?_
    exact ac_ireturn hR rfl ⟨_, rfl, h⟩ (by decide) (by decide) d_X0_found_23
  · have h := h.2 hc
    refine ac_iload_n 2 d_X0_found_14 rfl rfl ?_
    refine ac_iconst (v := 2) d_X0_found_15 rfl ?_
    refine ac_callS0 cd_X0_isBelow ml_X0_57 st_X0_isBelow (c_X0_isBelow _ _ _ x2 2 f3 _ h) rfl rfl (by rw [hro]; decide) rfl (rest := []) rfl (Nat.le_of_ble_eq_true rfl) (by rw [hro]; decide) d_X0_found_16 (ac_I (fun v6 f5 h => ?_))
    refine ac_if_ne (tgt := 24) d_X0_found_19 (by decide) (fun hc => ?_) (fun hc => ?_)
    · have h := h.1 hc
      refine ac_iload_n 2 d_X0_found_24 rfl rfl ?_
      refine ac_if_ne (tgt := 39) d_X0_found_25 (by decide) (fun hc => ?_) (fun hc => ?_)
      · have h := h.1 hc
        refine ac_aload_n 0 d_X0_found_39 rfl rfl ?_
        obtain ⟨o7, hr, h⟩ := h
        refine ak_getf hr fl_X0_44 d_X0_found_40 ?_
        refine ac_iload_n 1 d_X0_found_43 rfl rfl ?_
        obtain ⟨⟨fs, hb⟩, h⟩ := h
        refine ac_callV0 cd_X7_firstFinder ml_X0_190 in_X7_firstFinder se_X7_firstFinder rfl hb (c_X7_firstFinder _ _ _ o7 x1 f5 _ h) rfl rfl (by rw [hro]; decide) rfl (rest := []) rfl (Nat.le_of_ble_eq_true rfl) (by rw [hro]; decide) d_X0_found_44 (ac_I (fun v9 f8 h => ?_))
        exact ac_ireturn hR rfl ⟨_, rfl, h⟩ (by decide) (by decide) d_X0_found_47
      · have h := h.2 hc
        refine ac_aload_n 0 d_X0_found_28 rfl rfl ?_
        obtain ⟨o10, hr, h⟩ := h
        refine ak_getf hr fl_X0_44 d_X0_found_29 ?_
        refine ac_iload_n 1 d_X0_found_32 rfl rfl ?_
        obtain ⟨⟨fs, hb⟩, h⟩ := h
        refine ac_callV0 cd_X7_finders ml_X0_187 in_X7_finders se_X7_finders rfl hb (c_X7_finders _ _ _ o10 x1 f5 _ h) rfl rfl (by rw [hro]; decide) rfl (rest := []) rfl (Nat.le_of_ble_eq_true rfl) (by rw [hro]; decide) d_X0_found_33 (ac_I (fun v12 f11 h => ?_))
        refine ac_goto (tgt := 47) d_X0_found_36 (by decide) ?_
        exact ac_ireturn hR rfl ⟨_, rfl, h⟩ (by decide) (by decide) d_X0_found_47
    · have h := h.2 hc
      refine ac_iconst (v := -1) d_X0_found_22 rfl ?_
      exact ac_ireturn hR rfl ⟨_, rfl, h⟩ (by decide) (by decide) d_X0_found_23

def wp_X0_init (ki : Nat → ClassId) (r0 : Nat) (f : ac_hp) (Q : ac_hp → Prop) : Prop := (0 + 1 ≤ 77 ∧ 0 + 5 ≤ 4130) ∧ ∀ q1, f q1 = none → ∀ f2, f2 = ac_up f q1 (.inr (1, [.null, .null, .null, .int 0, .int 0])) → (0 + 1 + 51 ≤ 77 ∧ 0 + 5 + 616 ≤ 4130) ∧ wp_X1_init ki q1 f2 (fun f3 => ∃ f4, hw_f f3 r0 0 0 (.ref q1) f4 ∧ (0 + 1 + 51 + 1 ≤ 77 ∧ 0 + 5 + 616 + 6 ≤ 4130) ∧ ∀ q5, f4 q5 = none → ∀ f6, f6 = ac_up f4 q5 (.inr (4, [.null, .null, .null, .null, .int 0, .int 0])) → (0 + 1 + 51 + 1 + 4 ≤ 77 ∧ 0 + 5 + 616 + 6 + 24 ≤ 4130) ∧ wp_X4_init ki q5 f6 (fun f7 => ∃ f8, hw_f f7 r0 0 1 (.ref q5) f8 ∧ (0 + 1 + 51 + 1 + 4 + 1 ≤ 77 ∧ 0 + 5 + 616 + 6 + 24 + 8 ≤ 4130) ∧ ∀ q9, f8 q9 = none → ∀ f10, f10 = ac_up f8 q9 (.inr (5, [.null, .null, .null, .null, .null, .int 0, .int 0, .int 0])) → ∃ o11 : Nat, hr_f f10 r0 0 0 (.ref o11) ∧ ∃ o12 : Nat, hr_f f10 r0 0 1 (.ref o12) ∧ (0 + 1 + 51 + 1 + 4 + 1 + 3 ≤ 77 ∧ 0 + 5 + 616 + 6 + 24 + 8 + 610 ≤ 4130) ∧ wp_X5_init ki q9 o11 o12 f10 (fun f13 => ∃ f14, hw_f f13 r0 0 2 (.ref q9) f14 ∧ (0 + 1 + 51 + 1 + 4 + 1 + 3 + 1 ≤ 77 ∧ 0 + 5 + 616 + 6 + 24 + 8 + 610 + 5 ≤ 4130) ∧ ∀ q15, f14 q15 = none → ∀ f16, f16 = ac_up f14 q15 (.inr (6, [.null, .null, .null, .null, .int 0])) → ∃ o17 : Nat, hr_f f16 r0 0 0 (.ref o17) ∧ ∃ o18 : Nat, hr_f f16 r0 0 1 (.ref o18) ∧ ∃ o19 : Nat, hr_f f16 r0 0 2 (.ref o19) ∧ (0 + 1 + 51 + 1 + 4 + 1 + 3 + 1 + 1 ≤ 77 ∧ 0 + 5 + 616 + 6 + 24 + 8 + 610 + 5 + 4 ≤ 4130) ∧ wp_X6_init ki q15 o17 o18 o19 f16 (fun f20 => ∃ f21, hw_f f20 r0 0 3 (.ref q15) f21 ∧ (0 + 1 + 51 + 1 + 4 + 1 + 3 + 1 + 1 + 1 ≤ 77 ∧ 0 + 5 + 616 + 6 + 24 + 8 + 610 + 5 + 4 + 7 ≤ 4130) ∧ ∀ q22, f21 q22 = none → ∀ f23, f23 = ac_up f21 q22 (.inr (7, [.null, .null, .null, .null, .int 0, .int 0, .int 0])) → (0 + 1 + 51 + 1 + 4 + 1 + 3 + 1 + 1 + 1 + 4 ≤ 77 ∧ 0 + 5 + 616 + 6 + 24 + 8 + 610 + 5 + 4 + 7 + 2700 ≤ 4130) ∧ wp_X7_init ki q22 f23 (fun f24 => ∃ f25, hw_f f24 r0 0 4 (.ref q22) f25 ∧ (0 + 1 + 51 + 1 + 4 + 1 + 3 + 1 + 1 + 1 + 4 + 1 ≤ 77 ∧ 0 + 5 + 616 + 6 + 24 + 8 + 610 + 5 + 4 + 7 + 2700 + 13 ≤ 4130) ∧ ∀ q26, f25 q26 = none → ∀ f27, f27 = ac_up f25 q26 (.inr (8, [.null, .null, .null, .null, .null, .null, .null, .null, .null, .null, .null, .null, .int 0])) → ∃ o28 : Nat, hr_f f27 r0 0 1 (.ref o28) ∧ ∃ o29 : Nat, hr_f f27 r0 0 2 (.ref o29) ∧ ∃ o30 : Nat, hr_f f27 r0 0 3 (.ref o30) ∧ ∃ o31 : Nat, hr_f f27 r0 0 4 (.ref o31) ∧ (0 + 1 + 51 + 1 + 4 + 1 + 3 + 1 + 1 + 1 + 4 + 1 + 8 ≤ 77 ∧ 0 + 5 + 616 + 6 + 24 + 8 + 610 + 5 + 4 + 7 + 2700 + 13 + 132 ≤ 4130) ∧ wp_X8_init ki q26 o28 o29 o30 o31 f27 (fun f32 => ∃ f33, hw_f f32 r0 0 5 (.ref q26) f33 ∧ (0 + 1 + 51 + 1 + 4 + 1 + 3 + 1 + 1 + 1 + 4 + 1 + 8 ≤ 77 ∧ 0 + 5 + 616 + 6 + 24 + 8 + 610 + 5 + 4 + 7 + 2700 + 13 + 132 ≤ 4130) ∧ Q f33))))))

set_option maxRecDepth 20000 in
set_option maxHeartbeats 4000000 in
theorem c_X0_init (l : Launch) (D : va_G) (ki : Nat → ClassId) (r0 : Nat) (f : ac_hp) (Q : ac_hp → Prop) (h : wp_X0_init ki r0 f Q) : ac_met l D ki y_X0_init prog_1_method_1_code 1 none (ro_ 3 77 4130) [.ref r0] f (qr_V Q) 77 4130 := by
  refine ac_enter (fun ki => wp_X0_init ki r0 f Q) (by decide) (Nat.le_of_ble_eq_true rfl) h ?_
  intro x hro hR hnm h
  unfold wp_X0_init at h
  refine ac_aload_n 0 d_X0_init_0 rfl rfl ?_
  refine ac_objInit oi_X0_3 oi_inst oi_code (by rw [hro]; decide) (by rw [hro]; decide) d_X0_init_1 ?_
  refine ac_aload_n 0 d_X0_init_4 rfl rfl ?_
  have hk := h.1
  have h := h.2
  refine ac_newo cn_X0_9 (by rw [hro]; exact hk.1) (by rw [hro]; exact hk.2) d_X0_init_5 (fun q1 hq => ?_)
  have h := h q1 hq
  obtain ⟨f2, ef2⟩ : ∃ z, z = ac_up f q1 (.inr (1, [.null, .null, .null, .int 0, .int 0])) := ⟨_, rfl⟩
  have h := h f2 ef2
  rw [← ef2]
  refine ac_dup d_X0_init_8 rfl ?_
  have hk := h.1
  have h := h.2
  refine ac_callI cd_X1_init ml_X0_11 in_X1_init rfl (c_X1_init _ _ _ q1 f2 _ h) rfl rfl (by rw [hro]; constructor <;> simp only [ro_] <;> omega) rfl (rest := [.ref q1, .ref r0]) rfl (Nat.le_of_ble_eq_true rfl) (by rw [hro]; exact hk) d_X0_init_9 (ac_V (fun f3 h => ?_))
  obtain ⟨f4, hr, h⟩ := h
  refine ak_putF hr fp_X0_12 hnm rfl rfl d_X0_init_12 ?_
  refine ac_aload_n 0 d_X0_init_15 rfl rfl ?_
  have hk := h.1
  have h := h.2
  refine ac_newo cn_X0_16 (by rw [hro]; exact hk.1) (by rw [hro]; exact hk.2) d_X0_init_16 (fun q5 hq => ?_)
  have h := h q5 hq
  obtain ⟨f6, ef6⟩ : ∃ z, z = ac_up f4 q5 (.inr (4, [.null, .null, .null, .null, .int 0, .int 0])) := ⟨_, rfl⟩
  have h := h f6 ef6
  rw [← ef6]
  refine ac_dup d_X0_init_19 rfl ?_
  have hk := h.1
  have h := h.2
  refine ac_callI cd_X4_init ml_X0_18 in_X4_init rfl (c_X4_init _ _ _ q5 f6 _ h) rfl rfl (by rw [hro]; constructor <;> simp only [ro_] <;> omega) rfl (rest := [.ref q5, .ref r0]) rfl (Nat.le_of_ble_eq_true rfl) (by rw [hro]; exact hk) d_X0_init_20 (ac_V (fun f7 h => ?_))
  obtain ⟨f8, hr, h⟩ := h
  refine ak_putF hr fp_X0_19 hnm rfl rfl d_X0_init_23 ?_
  refine ac_aload_n 0 d_X0_init_26 rfl rfl ?_
  have hk := h.1
  have h := h.2
  refine ac_newo cn_X0_23 (by rw [hro]; exact hk.1) (by rw [hro]; exact hk.2) d_X0_init_27 (fun q9 hq => ?_)
  have h := h q9 hq
  obtain ⟨f10, ef10⟩ : ∃ z, z = ac_up f8 q9 (.inr (5, [.null, .null, .null, .null, .null, .int 0, .int 0, .int 0])) := ⟨_, rfl⟩
  have h := h f10 ef10
  rw [← ef10]
  refine ac_dup d_X0_init_30 rfl ?_
  refine ac_aload_n 0 d_X0_init_31 rfl rfl ?_
  obtain ⟨o11, hr, h⟩ := h
  refine ak_getf hr fl_X0_12 d_X0_init_32 ?_
  refine ac_aload_n 0 d_X0_init_35 rfl rfl ?_
  obtain ⟨o12, hr, h⟩ := h
  refine ak_getf hr fl_X0_19 d_X0_init_36 ?_
  have hk := h.1
  have h := h.2
  refine ac_callI cd_X5_init ml_X0_25 in_X5_init rfl (c_X5_init _ _ _ q9 o11 o12 f10 _ h) rfl rfl (by rw [hro]; constructor <;> simp only [ro_] <;> omega) rfl (rest := [.ref q9, .ref r0]) rfl (Nat.le_of_ble_eq_true rfl) (by rw [hro]; exact hk) d_X0_init_39 (ac_V (fun f13 h => ?_))
  obtain ⟨f14, hr, h⟩ := h
  refine ak_putF hr fp_X0_28 hnm rfl rfl d_X0_init_42 ?_
  refine ac_aload_n 0 d_X0_init_45 rfl rfl ?_
  have hk := h.1
  have h := h.2
  refine ac_newo cn_X0_32 (by rw [hro]; exact hk.1) (by rw [hro]; exact hk.2) d_X0_init_46 (fun q15 hq => ?_)
  have h := h q15 hq
  obtain ⟨f16, ef16⟩ : ∃ z, z = ac_up f14 q15 (.inr (6, [.null, .null, .null, .null, .int 0])) := ⟨_, rfl⟩
  have h := h f16 ef16
  rw [← ef16]
  refine ac_dup d_X0_init_49 rfl ?_
  refine ac_aload_n 0 d_X0_init_50 rfl rfl ?_
  obtain ⟨o17, hr, h⟩ := h
  refine ak_getf hr fl_X0_12 d_X0_init_51 ?_
  refine ac_aload_n 0 d_X0_init_54 rfl rfl ?_
  obtain ⟨o18, hr, h⟩ := h
  refine ak_getf hr fl_X0_19 d_X0_init_55 ?_
  refine ac_aload_n 0 d_X0_init_58 rfl rfl ?_
  obtain ⟨o19, hr, h⟩ := h
  refine ak_getf hr fl_X0_28 d_X0_init_59 ?_
  have hk := h.1
  have h := h.2
  refine ac_callI cd_X6_init ml_X0_34 in_X6_init rfl (c_X6_init _ _ _ q15 o17 o18 o19 f16 _ h) rfl rfl (by rw [hro]; constructor <;> simp only [ro_] <;> omega) rfl (rest := [.ref q15, .ref r0]) rfl (Nat.le_of_ble_eq_true rfl) (by rw [hro]; exact hk) d_X0_init_62 (ac_V (fun f20 h => ?_))
  obtain ⟨f21, hr, h⟩ := h
  refine ak_putF hr fp_X0_37 hnm rfl rfl d_X0_init_65 ?_
  refine ac_aload_n 0 d_X0_init_68 rfl rfl ?_
  have hk := h.1
  have h := h.2
  refine ac_newo cn_X0_41 (by rw [hro]; exact hk.1) (by rw [hro]; exact hk.2) d_X0_init_69 (fun q22 hq => ?_)
  have h := h q22 hq
  obtain ⟨f23, ef23⟩ : ∃ z, z = ac_up f21 q22 (.inr (7, [.null, .null, .null, .null, .int 0, .int 0, .int 0])) := ⟨_, rfl⟩
  have h := h f23 ef23
  rw [← ef23]
  refine ac_dup d_X0_init_72 rfl ?_
  have hk := h.1
  have h := h.2
  refine ac_callIN cd_X7_init ml_X0_43 in_X7_init rfl (c_X7_init _ _ _ q22 f23 _ h) rfl rfl (by rw [hro]; constructor <;> simp only [ro_] <;> omega) rfl (rest := [.ref q22, .ref r0]) rfl (Nat.le_of_ble_eq_true rfl) (by rw [hro]; exact hk) d_X0_init_73 (ac_V (fun f24 h => ?_))
  obtain ⟨f25, hr, h⟩ := h
  refine ak_putF hr fp_X0_44 hnm rfl rfl d_X0_init_76 ?_
  refine ac_aload_n 0 d_X0_init_79 rfl rfl ?_
  have hk := h.1
  have h := h.2
  refine ac_newo cn_X0_48 (by rw [hro]; exact hk.1) (by rw [hro]; exact hk.2) d_X0_init_80 (fun q26 hq => ?_)
  have h := h q26 hq
  obtain ⟨f27, ef27⟩ : ∃ z, z = ac_up f25 q26 (.inr (8, [.null, .null, .null, .null, .null, .null, .null, .null, .null, .null, .null, .null, .int 0])) := ⟨_, rfl⟩
  have h := h f27 ef27
  rw [← ef27]
  refine ac_dup d_X0_init_83 rfl ?_
  refine ac_aload_n 0 d_X0_init_84 rfl rfl ?_
  obtain ⟨o28, hr, h⟩ := h
  refine ak_getf hr fl_X0_19 d_X0_init_85 ?_
  refine ac_aload_n 0 d_X0_init_88 rfl rfl ?_
  obtain ⟨o29, hr, h⟩ := h
  refine ak_getf hr fl_X0_28 d_X0_init_89 ?_
  refine ac_aload_n 0 d_X0_init_92 rfl rfl ?_
  obtain ⟨o30, hr, h⟩ := h
  refine ak_getf hr fl_X0_37 d_X0_init_93 ?_
  refine ac_aload_n 0 d_X0_init_96 rfl rfl ?_
  obtain ⟨o31, hr, h⟩ := h
  refine ak_getf hr fl_X0_44 d_X0_init_97 ?_
  have hk := h.1
  have h := h.2
  refine ac_callI cd_X8_init ml_X0_50 in_X8_init rfl (c_X8_init _ _ _ q26 o28 o29 o30 o31 f27 _ h) rfl rfl (by rw [hro]; constructor <;> simp only [ro_] <;> omega) rfl (rest := [.ref q26, .ref r0]) rfl (Nat.le_of_ble_eq_true rfl) (by rw [hro]; exact hk) d_X0_init_100 (ac_V (fun f32 h => ?_))
  obtain ⟨f33, hr, h⟩ := h
  refine ak_putF hr fp_X0_53 hnm rfl rfl d_X0_init_103 ?_
  have hk := h.1
  have h := h.2
  exact ac_vreturn hR ⟨rfl, h⟩ hk.1 hk.2 d_X0_init_106

def wp_X2_repeats_L2 (ki : Nat → ClassId) (r0 : Nat) (x1 : Int32) (Q : Int32 → ac_hp → Prop) (E33 : ac_hp → Prop) : Nat → Int32 → ac_hp → Prop
  | 0, _, _ => False
  | n + 1, x2, f => ∃ v1 : Int32, hr_f f r0 2 2 (.int v1) ∧ ((v1 ≤ x2 → E33  f) ∧ (¬ v1 ≤ x2 → hr_o f r0 2 ∧ wp_X2_cell ki r0 x2 x1 f (fun v3 f2 => hr_o f2 r0 2 ∧ wp_X2_holds ki r0 x1 v3 x2 f2 (fun v5 f4 => ((v5 = 0 → ∀ v6 : Int32, v6 = x2 + 1 → wp_X2_repeats_L2 ki r0 x1 Q E33 n v6 f4) ∧ (¬ v5 = 0 → Q 1 f4))))))

def wp_X2_repeats (ki : Nat → ClassId) (r0 : Nat) (x1 : Int32) (f : ac_hp) (Q : Int32 → ac_hp → Prop) : Prop := ∃ n7, wp_X2_repeats_L2 ki r0 x1 Q (fun f8 => Q 0 f8) n7 1 f

set_option maxRecDepth 20000 in
set_option maxHeartbeats 4000000 in
theorem ok_X2_repeats_L2 {x : ac_X} (hro : ac_R x = (ro_ 3 0 0)) (r0 : Nat) (x1 : Int32) (Q : Int32 → ac_hp → Prop) (hR : ac_rt x (some .boolean) (qr_I Q) 0 0) (E33 : ac_hp → Prop) (hE33 : ∀ (f : ac_hp), E33 f → ac_At (prog_9_method_4_code, 3, "VirtualRewrite$Table") x 0 0 33 [] [] f) : ∀ (n : Nat) (x2 : Int32) (f : ac_hp), wp_X2_repeats_L2 (ac_ki x) r0 x1 Q E33 n x2 f → ac_At (prog_9_method_4_code, 3, "VirtualRewrite$Table") x 0 0 2 [(0, .ref r0), (1, .int x1), (2, .int x2)] [] f := by
  intro n
  induction n with
  | zero => intro _ _ h; exact h.elim
  | succ n ih =>
    intro x2 f h
    rw [wp_X2_repeats_L2] at h
    refine ac_iload_n 2 d_X2_repeats_2 rfl rfl ?_
    refine ac_aload_n 0 d_X2_repeats_3 rfl rfl ?_
    obtain ⟨v1, hr, h⟩ := h
    refine ak_getf hr fl_X2_19 d_X2_repeats_4 ?_
    refine ac_icmp_ge (tgt := 33) d_X2_repeats_7 (by decide) (fun hc => ?_) (fun hc => ?_)
    · have h := h.1 hc
      refine ac_weak [] rfl ?_
      exact hE33  f h
    · have h := h.2 hc
      refine ac_aload_n 0 d_X2_repeats_10 rfl rfl ?_
      refine ac_iload_n 1 d_X2_repeats_11 rfl rfl ?_
      refine ac_aload_n 0 d_X2_repeats_12 rfl rfl ?_
      refine ac_iload_n 2 d_X2_repeats_13 rfl rfl ?_
      refine ac_iload_n 1 d_X2_repeats_14 rfl rfl ?_
      obtain ⟨⟨fs, hb⟩, h⟩ := h
      refine ac_callV0 cd_X2_cell ml_X2_23 in_X2_cell se_X2_cell rfl hb (c_X2_cell _ _ _ r0 x2 x1 f _ h) rfl rfl (by rw [hro]; decide) rfl (rest := [.int x1, .ref r0]) rfl (Nat.le_of_ble_eq_true rfl) (by rw [hro]; decide) d_X2_repeats_15 (ac_I (fun v3 f2 h => ?_))
      refine ac_iload_n 2 d_X2_repeats_18 rfl rfl ?_
      obtain ⟨⟨fs, hb⟩, h⟩ := h
      refine ac_callV0 cd_X2_holds ml_X2_27 in_X2_holds se_X2_holds rfl hb (c_X2_holds _ _ _ r0 x1 v3 x2 f2 _ h) rfl rfl (by rw [hro]; decide) rfl (rest := []) rfl (Nat.le_of_ble_eq_true rfl) (by rw [hro]; decide) d_X2_repeats_19 (ac_I (fun v5 f4 h => ?_))
      refine ac_if_eq (tgt := 27) d_X2_repeats_22 (by decide) (fun hc => ?_) (fun hc => ?_)
      · have h := h.1 hc
        obtain ⟨v6, ev6⟩ : ∃ y : Int32, y = x2 + 1 := ⟨_, rfl⟩
        have h := h v6 ev6
        refine ac_iinc (j := 2) (lv' := [(2, .int v6), (0, .ref r0), (1, .int x1)]) d_X2_repeats_27 rfl (by rw [ev6]; rfl) (by decide) rfl ?_
        refine ac_goto (tgt := 2) d_X2_repeats_30 (by decide) ?_
        refine ac_weak [1, 2, 0] rfl ?_
        exact ih v6 f4 h
      · have h := h.2 hc
        refine ac_iconst (v := 1) d_X2_repeats_25 rfl ?_
        exact ac_ireturn hR rfl ⟨_, rfl, h⟩ (by decide) (by decide) d_X2_repeats_26

set_option maxRecDepth 20000 in
set_option maxHeartbeats 4000000 in
theorem c_X2_repeats (l : Launch) (D : va_G) (ki : Nat → ClassId) (r0 : Nat) (x1 : Int32) (f : ac_hp) (Q : Int32 → ac_hp → Prop) (h : wp_X2_repeats ki r0 x1 f Q) : ac_met l D ki y_X2_repeats prog_9_method_4_code 3 (some .boolean) (ro_ 3 0 0) [.ref r0, .int x1] f (qr_I Q) 0 0 := by
  refine ac_enter (fun ki => wp_X2_repeats ki r0 x1 f Q) (by decide) (Nat.le_of_ble_eq_true rfl) h ?_
  intro x hro hR hnm h
  unfold wp_X2_repeats at h
  refine ac_iconst (v := 1) d_X2_repeats_0 rfl ?_
  refine ac_istore_n (lv' := [(2, .int 1), (0, .ref r0), (1, .int x1)]) d_X2_repeats_1 rfl (by decide) rfl ?_
  obtain ⟨n7, h⟩ := h
  refine ac_weak [1, 2, 0] rfl ?_
  refine ok_X2_repeats_L2 hro r0 x1 Q hR _ (fun f8 h => ?_) n7 1 f h
  · skip
    refine ac_iconst (v := 0) d_X2_repeats_33 rfl ?_
    exact ac_ireturn hR rfl ⟨_, rfl, h⟩ (by decide) (by decide) d_X2_repeats_34

def wp_X2_refuses (ki : Nat → ClassId) (r0 : Nat) (x1 : Int32) (x2 : Int32) (f : ac_hp) (Q : Int32 → ac_hp → Prop) : Prop := ∃ o1 : Nat, hr_f f r0 2 1 (.ref o1) ∧ ∃ v2 : Int32, hr_i (ki 1) f o1 x1 v2 ∧ ((v2 = 0 → Q 0 f) ∧ (¬ v2 = 0 → ∃ v3 : Int32, hr_f f r0 2 2 (.int v3) ∧ hr_o f r0 2 ∧ wp_X2_holds ki r0 x1 x2 v3 f (fun v5 f4 => ((v5 = 0 → Q 0 f4) ∧ (¬ v5 = 0 → Q 1 f4)))))

set_option maxRecDepth 20000 in
set_option maxHeartbeats 4000000 in
theorem c_X2_refuses (l : Launch) (D : va_G) (ki : Nat → ClassId) (r0 : Nat) (x1 : Int32) (x2 : Int32) (f : ac_hp) (Q : Int32 → ac_hp → Prop) (h : wp_X2_refuses ki r0 x1 x2 f Q) : ac_met l D ki y_X2_refuses prog_9_method_5_code 3 (some .boolean) (ro_ 3 0 0) [.ref r0, .int x1, .int x2] f (qr_I Q) 0 0 := by
  refine ac_enter (fun ki => wp_X2_refuses ki r0 x1 x2 f Q) (by decide) (Nat.le_of_ble_eq_true rfl) h ?_
  intro x hro hR hnm h
  unfold wp_X2_refuses at h
  refine ac_aload_n 0 d_X2_refuses_0 rfl rfl ?_
  obtain ⟨o1, hr, h⟩ := h
  refine ak_getf hr fl_X2_15 d_X2_refuses_1 ?_
  refine ac_iload_n 1 d_X2_refuses_4 rfl rfl ?_
  obtain ⟨v2, hr, h⟩ := h
  refine ak_zald 1 hr rfl d_X2_refuses_5 ?_
  refine ac_if_eq (tgt := 26) d_X2_refuses_6 (by decide) (fun hc => ?_) (fun hc => ?_)
  · have h := h.1 hc
    refine ac_iconst (v := 0) d_X2_refuses_26 rfl ?_
    exact ac_ireturn hR rfl ⟨_, rfl, h⟩ (by decide) (by decide) d_X2_refuses_27
  · have h := h.2 hc
    refine ac_aload_n 0 d_X2_refuses_9 rfl rfl ?_
    refine ac_iload_n 1 d_X2_refuses_10 rfl rfl ?_
    refine ac_iload_n 2 d_X2_refuses_11 rfl rfl ?_
    refine ac_aload_n 0 d_X2_refuses_12 rfl rfl ?_
    obtain ⟨v3, hr, h⟩ := h
    refine ak_getf hr fl_X2_19 d_X2_refuses_13 ?_
    obtain ⟨⟨fs, hb⟩, h⟩ := h
    refine ac_callV0 cd_X2_holds ml_X2_27 in_X2_holds se_X2_holds rfl hb (c_X2_holds _ _ _ r0 x1 x2 v3 f _ h) rfl rfl (by rw [hro]; decide) rfl (rest := []) rfl (Nat.le_of_ble_eq_true rfl) (by rw [hro]; decide) d_X2_refuses_16 (ac_I (fun v5 f4 h => ?_))
    refine ac_if_eq (tgt := 26) d_X2_refuses_19 (by decide) (fun hc => ?_) (fun hc => ?_)
    · have h := h.1 hc
      refine ac_iconst (v := 0) d_X2_refuses_26 rfl ?_
      exact ac_ireturn hR rfl ⟨_, rfl, h⟩ (by decide) (by decide) d_X2_refuses_27
    · have h := h.2 hc
      refine ac_iconst (v := 1) d_X2_refuses_22 rfl ?_
      refine ac_goto (tgt := 27) d_X2_refuses_23 (by decide) ?_
      exact ac_ireturn hR rfl ⟨_, rfl, h⟩ (by decide) (by decide) d_X2_refuses_27

def wp_X1_countTriples_L31 (ki : Nat → ClassId) (r0 : Nat) (x1 : Int32) (x2 : Int32) (E57 : ac_hp → Prop) : Nat → Int32 → ac_hp → Prop
  | 0, _, _ => False
  | n + 1, x3, f => ((x2 ≤ x3 → E57  f) ∧ (¬ x2 ≤ x3 → ∃ o8 : Nat, hr_f f r0 1 1 (.ref o8) ∧ ∃ o9 : Nat, hr_q (ki 4) f o8 x1 o9 ∧ hr_o f r0 1 ∧ wp_X1_packedTriple ki r0 o9 x3 f (fun v11 f10 => hr_o f10 r0 1 ∧ wp_X1_keepTriple ki r0 v11 f10 (fun f12 => ∀ v13 : Int32, v13 = x3 + 1 → wp_X1_countTriples_L31 ki r0 x1 x2 E57 n v13 f12))))

def wp_X1_countTriples_L7 (ki : Nat → ClassId) (r0 : Nat) (E63 : ac_hp → Prop) : Nat → Int32 → ac_hp → Prop
  | 0, _, _ => False
  | n + 1, x1, f => ∃ v2 : Int32, hr_f f r0 1 3 (.int v2) ∧ ((v2 ≤ x1 → E63  f) ∧ (¬ v2 ≤ x1 → ∃ o3 : Nat, hr_f f r0 1 1 (.ref o3) ∧ ∃ o4 : Nat, hr_q (ki 4) f o3 x1 o4 ∧ hr_o f r0 1 ∧ wp_X1_tableOf ki r0 o4 f (fun o6 f5 => ∃ v7 : Int32, hr_f f5 o6 2 2 (.int v7) ∧ ∃ n14, wp_X1_countTriples_L31 ki r0 x1 v7 (fun f15 => ∀ v16 : Int32, v16 = x1 + 1 → wp_X1_countTriples_L7 ki r0 E63 n v16 f15) n14 0 f5)))

def wp_X1_countTriples (ki : Nat → ClassId) (r0 : Nat) (f : ac_hp) (Q : Int32 → ac_hp → Prop) : Prop := ∃ f1, hw_f f r0 1 4 (.int 0) f1 ∧ ∃ n17, wp_X1_countTriples_L7 ki r0 (fun f18 => ∃ v19 : Int32, hr_f f18 r0 1 4 (.int v19) ∧ Q v19 f18) n17 0 f1

set_option maxRecDepth 20000 in
set_option maxHeartbeats 4000000 in
theorem ok_X1_countTriples_L31 {x : ac_X} (hro : ac_R x = (ro_ 3 0 0)) (r0 : Nat) (x1 : Int32) (x2 : Int32) (E57 : ac_hp → Prop) (hE57 : ∀ (f : ac_hp), E57 f → ac_At (prog_3_method_3_code, 4, "VirtualRewrite$Catalog") x 0 0 57 [(0, .ref r0), (1, .int x1)] [] f) : ∀ (n : Nat) (x3 : Int32) (f : ac_hp), wp_X1_countTriples_L31 (ac_ki x) r0 x1 x2 E57 n x3 f → ac_At (prog_3_method_3_code, 4, "VirtualRewrite$Catalog") x 0 0 31 [(0, .ref r0), (1, .int x1), (2, .int x2), (3, .int x3)] [] f := by
  intro n
  induction n with
  | zero => intro _ _ h; exact h.elim
  | succ n ih =>
    intro x3 f h
    rw [wp_X1_countTriples_L31] at h
    refine ac_iload_n 3 d_X1_countTriples_31 rfl rfl ?_
    refine ac_iload_n 2 d_X1_countTriples_32 rfl rfl ?_
    refine ac_icmp_ge (tgt := 57) d_X1_countTriples_33 (by decide) (fun hc => ?_) (fun hc => ?_)
    · have h := h.1 hc
      refine ac_weak [0, 1] rfl ?_
      exact hE57  f h
    · have h := h.2 hc
      refine ac_aload_n 0 d_X1_countTriples_36 rfl rfl ?_
      refine ac_aload_n 0 d_X1_countTriples_37 rfl rfl ?_
      refine ac_aload_n 0 d_X1_countTriples_38 rfl rfl ?_
      obtain ⟨o8, hr, h⟩ := h
      refine ak_getf hr fl_X1_19 d_X1_countTriples_39 ?_
      refine ac_iload_n 1 d_X1_countTriples_42 rfl rfl ?_
      obtain ⟨o9, hr, h⟩ := h
      refine ak_aald 4 hr rfl d_X1_countTriples_43 ?_
      refine ac_iload_n 3 d_X1_countTriples_44 rfl rfl ?_
      obtain ⟨⟨fs, hb⟩, h⟩ := h
      refine ac_callV0 cd_X1_packedTriple ml_X1_44 in_X1_packedTriple se_X1_packedTriple rfl hb (c_X1_packedTriple _ _ _ r0 o9 x3 f _ h) rfl rfl (by rw [hro]; decide) rfl (rest := [.ref r0]) rfl (Nat.le_of_ble_eq_true rfl) (by rw [hro]; decide) d_X1_countTriples_45 (ac_J (fun v11 f10 h => ?_))
      obtain ⟨⟨fs, hb⟩, h⟩ := h
      refine ac_callV0 cd_X1_keepTriple ml_X1_48 in_X1_keepTriple se_X1_keepTriple rfl hb (c_X1_keepTriple _ _ _ r0 v11 f10 _ h) rfl rfl (by rw [hro]; decide) rfl (rest := []) rfl (Nat.le_of_ble_eq_true rfl) (by rw [hro]; decide) d_X1_countTriples_48 (ac_V (fun f12 h => ?_))
      obtain ⟨v13, ev13⟩ : ∃ y : Int32, y = x3 + 1 := ⟨_, rfl⟩
      have h := h v13 ev13
      refine ac_iinc (j := 3) (lv' := [(3, .int v13), (0, .ref r0), (1, .int x1), (2, .int x2)]) d_X1_countTriples_51 rfl (by rw [ev13]; rfl) (by decide) rfl ?_
      refine ac_goto (tgt := 31) d_X1_countTriples_54 (by decide) ?_
      refine ac_weak [1, 2, 3, 0] rfl ?_
      exact ih v13 f12 h

set_option maxRecDepth 20000 in
set_option maxHeartbeats 4000000 in
theorem ok_X1_countTriples_L7 {x : ac_X} (hro : ac_R x = (ro_ 3 0 0)) (r0 : Nat) (E63 : ac_hp → Prop) (hE63 : ∀ (f : ac_hp), E63 f → ac_At (prog_3_method_3_code, 4, "VirtualRewrite$Catalog") x 0 0 63 [(0, .ref r0)] [] f) : ∀ (n : Nat) (x1 : Int32) (f : ac_hp), wp_X1_countTriples_L7 (ac_ki x) r0 E63 n x1 f → ac_At (prog_3_method_3_code, 4, "VirtualRewrite$Catalog") x 0 0 7 [(0, .ref r0), (1, .int x1)] [] f := by
  intro n
  induction n with
  | zero => intro _ _ h; exact h.elim
  | succ n ih =>
    intro x1 f h
    rw [wp_X1_countTriples_L7] at h
    refine ac_iload_n 1 d_X1_countTriples_7 rfl rfl ?_
    refine ac_aload_n 0 d_X1_countTriples_8 rfl rfl ?_
    obtain ⟨v2, hr, h⟩ := h
    refine ak_getf hr fl_X1_27 d_X1_countTriples_9 ?_
    refine ac_icmp_ge (tgt := 63) d_X1_countTriples_12 (by decide) (fun hc => ?_) (fun hc => ?_)
    · have h := h.1 hc
      refine ac_weak [0] rfl ?_
      exact hE63  f h
    · have h := h.2 hc
      refine ac_aload_n 0 d_X1_countTriples_15 rfl rfl ?_
      refine ac_aload_n 0 d_X1_countTriples_16 rfl rfl ?_
      obtain ⟨o3, hr, h⟩ := h
      refine ak_getf hr fl_X1_19 d_X1_countTriples_17 ?_
      refine ac_iload_n 1 d_X1_countTriples_20 rfl rfl ?_
      obtain ⟨o4, hr, h⟩ := h
      refine ak_aald 4 hr rfl d_X1_countTriples_21 ?_
      obtain ⟨⟨fs, hb⟩, h⟩ := h
      refine ac_callV0 cd_X1_tableOf ml_X1_39 in_X1_tableOf se_X1_tableOf rfl hb (c_X1_tableOf _ _ _ r0 o4 f _ h) rfl rfl (by rw [hro]; decide) rfl (rest := []) rfl (Nat.le_of_ble_eq_true rfl) (by rw [hro]; decide) d_X1_countTriples_22 (ac_Rf (fun o6 f5 h => ?_))
      obtain ⟨v7, hr, h⟩ := h
      refine ak_getf hr fl_X1_43 d_X1_countTriples_25 ?_
      refine ac_istore_n (lv' := [(2, .int v7), (0, .ref r0), (1, .int x1)]) d_X1_countTriples_28 rfl (by decide) rfl ?_
      refine ac_iconst (v := 0) d_X1_countTriples_29 rfl ?_
      refine ac_istore_n (lv' := [(3, .int 0), (2, .int v7), (0, .ref r0), (1, .int x1)]) d_X1_countTriples_30 rfl (by decide) rfl ?_
      obtain ⟨n14, h⟩ := h
      refine ac_weak [2, 3, 1, 0] rfl ?_
      refine ok_X1_countTriples_L31 hro r0 x1 v7 _ (fun f15 h => ?_) n14 0 f5 h
      · skip
        obtain ⟨v16, ev16⟩ : ∃ y : Int32, y = x1 + 1 := ⟨_, rfl⟩
        have h := h v16 ev16
        refine ac_iinc (j := 1) (lv' := [(1, .int v16), (0, .ref r0)]) d_X1_countTriples_57 rfl (by rw [ev16]; rfl) (by decide) rfl ?_
        refine ac_goto (tgt := 7) d_X1_countTriples_60 (by decide) ?_
        refine ac_weak [1, 0] rfl ?_
        exact ih v16 f15 h

set_option maxRecDepth 20000 in
set_option maxHeartbeats 4000000 in
theorem c_X1_countTriples (l : Launch) (D : va_G) (ki : Nat → ClassId) (r0 : Nat) (f : ac_hp) (Q : Int32 → ac_hp → Prop) (h : wp_X1_countTriples ki r0 f Q) : ac_met l D ki y_X1_countTriples prog_3_method_3_code 4 (some .int) (ro_ 3 0 0) [.ref r0] f (qr_I Q) 0 0 := by
  refine ac_enter (fun ki => wp_X1_countTriples ki r0 f Q) (by decide) (Nat.le_of_ble_eq_true rfl) h ?_
  intro x hro hR hnm h
  unfold wp_X1_countTriples at h
  refine ac_aload_n 0 d_X1_countTriples_0 rfl rfl ?_
  refine ac_iconst (v := 0) d_X1_countTriples_1 rfl ?_
  obtain ⟨f1, hr, h⟩ := h
  refine ak_putf hr fp_X1_31 rfl rfl d_X1_countTriples_2 ?_
  refine ac_iconst (v := 0) d_X1_countTriples_5 rfl ?_
  refine ac_istore_n (lv' := [(1, .int 0), (0, .ref r0)]) d_X1_countTriples_6 rfl (by decide) rfl ?_
  obtain ⟨n17, h⟩ := h
  refine ac_weak [1, 0] rfl ?_
  refine ok_X1_countTriples_L7 hro r0 _ (fun f18 h => ?_) n17 0 f1 h
  · skip
    refine ac_aload_n 0 d_X1_countTriples_63 rfl rfl ?_
    obtain ⟨v19, hr, h⟩ := h
    refine ak_getf hr fl_X1_31 d_X1_countTriples_64 ?_
    exact ac_ireturn hR rfl ⟨_, rfl, h⟩ (by decide) (by decide) d_X1_countTriples_67

def wp_X0_span (ki : Nat → ClassId) (r0 : Nat) (x1 : Int32) (x2 : Int32) (x3 : Int32) (f : ac_hp) (Q : Int32 → ac_hp → Prop) : Prop := wp_X0_isBelow ki x1 6 f (fun v2 f1 => ((¬ v2 = 0 → ∃ o3 : Nat, hr_f f1 r0 0 1 (.ref o3) ∧ ∃ v4 : Int32, hr_f f1 o3 4 5 (.int v4) ∧ ((v4 < 4 → ∃ o5 : Nat, hr_f f1 r0 0 1 (.ref o5) ∧ hr_o f1 o5 4 ∧ wp_X4_narrow ki o5 x1 x2 x3 f1 (fun f6 => ∃ o7 : Nat, hr_f f6 r0 0 1 (.ref o7) ∧ ∃ v8 : Int32, hr_f f6 o7 4 5 (.int v8) ∧ Q v8 f6)) ∧ (¬ v4 < 4 → Q (-2) f1))) ∧ (v2 = 0 → Q (-1) f1)))

set_option maxRecDepth 20000 in
set_option maxHeartbeats 4000000 in
theorem c_X0_span (l : Launch) (D : va_G) (ki : Nat → ClassId) (r0 : Nat) (x1 : Int32) (x2 : Int32) (x3 : Int32) (f : ac_hp) (Q : Int32 → ac_hp → Prop) (h : wp_X0_span ki r0 x1 x2 x3 f Q) : ac_met l D ki y_X0_span prog_1_method_8_code 4 (some .int) (ro_ 3 0 0) [.ref r0, .int x1, .int x2, .int x3] f (qr_I Q) 0 0 := by
  refine ac_enter (fun ki => wp_X0_span ki r0 x1 x2 x3 f Q) (by decide) (Nat.le_of_ble_eq_true rfl) h ?_
  intro x hro hR hnm h
  unfold wp_X0_span at h
  refine ac_iload_n 1 d_X0_span_0 rfl rfl ?_
  refine ac_bipush (v := 6) d_X0_span_1 rfl ?_
  refine ac_callS0 cd_X0_isBelow ml_X0_57 st_X0_isBelow (c_X0_isBelow _ _ _ x1 6 f _ h) rfl rfl (by rw [hro]; decide) rfl (rest := []) rfl (Nat.le_of_ble_eq_true rfl) (by rw [hro]; decide) d_X0_span_3 (ac_I (fun v2 f1 h => ?_))
  refine ac_if_ne (tgt := 11) d_X0_span_6 (by decide) (fun hc => ?_) (fun hc => ?_)
  · have h := h.1 hc
    refine ac_aload_n 0 d_X0_span_11 rfl rfl ?_
    obtain ⟨o3, hr, h⟩ := h
    refine ak_getf hr fl_X0_19 d_X0_span_12 ?_
    obtain ⟨v4, hr, h⟩ := h
    refine ak_getf hr fl_X0_120 d_X0_span_15 ?_
    refine ac_iconst (v := 4) d_X0_span_18 rfl ?_
    refine ac_icmp_lt (tgt := 25) d_X0_span_19 (by decide) (fun hc => ?_) (fun hc => ?_)
    · have h := h.1 hc
      refine ac_aload_n 0 d_X0_span_25 rfl rfl ?_
      obtain ⟨o5, hr, h⟩ := h
      refine ak_getf hr fl_X0_19 d_X0_span_26 ?_
      refine ac_iload_n 1 d_X0_span_29 rfl rfl ?_
      refine ac_iload_n 2 d_X0_span_30 rfl rfl ?_
      refine ac_iload_n 3 d_X0_span_31 rfl rfl ?_
      obtain ⟨⟨fs, hb⟩, h⟩ := h
      refine ac_callV0 cd_X4_narrow ml_X0_123 in_X4_narrow se_X4_narrow rfl hb (c_X4_narrow _ _ _ o5 x1 x2 x3 f1 _ h) rfl rfl (by rw [hro]; decide) rfl (rest := []) rfl (Nat.le_of_ble_eq_true rfl) (by rw [hro]; decide) d_X0_span_32 (ac_V (fun f6 h => ?_))
      refine ac_aload_n 0 d_X0_span_35 rfl rfl ?_
      obtain ⟨o7, hr, h⟩ := h
      refine ak_getf hr fl_X0_19 d_X0_span_36 ?_
      obtain ⟨v8, hr, h⟩ := h
      refine ak_getf hr fl_X0_120 d_X0_span_39 ?_
      exact ac_ireturn hR rfl ⟨_, rfl, h⟩ (by decide) (by decide) d_X0_span_42
    · have h := h.2 hc
      refine ac_bipush (v := -2) d_X0_span_22 rfl ?_
      exact ac_ireturn hR rfl ⟨_, rfl, h⟩ (by decide) (by decide) d_X0_span_24
  · have h := h.2 hc
    refine ac_iconst (v := -1) d_X0_span_9 rfl ?_
    exact ac_ireturn hR rfl ⟨_, rfl, h⟩ (by decide) (by decide) d_X0_span_10

def wp_X5_extend_L18 (ki : Nat → ClassId) (r0 : Nat) (x1 : Int32) (x2 : Int32) (E105 : ac_hp → Prop) (rec : Nat → Int32 → Int32 → ac_hp → (ac_hp → Prop) → Prop) : Nat → Int32 → ac_hp → Prop
  | 0, _, _ => False
  | n + 1, x3, f => ∃ o3 : Nat, hr_f f r0 5 0 (.ref o3) ∧ ∃ v4 : Int32, hr_f f o3 1 3 (.int v4) ∧ ((v4 ≤ x3 → E105  f) ∧ (¬ v4 ≤ x3 → ∃ v5 : Int32, hr_f f r0 5 6 (.int v5) ∧ ((¬ v5 = 0 → E105  f) ∧ (v5 = 0 → ∃ o6 : Nat, hr_f f r0 5 0 (.ref o6) ∧ ∃ o7 : Nat, hr_f f o6 1 1 (.ref o7) ∧ ∃ o8 : Nat, hr_q (ki 4) f o7 x3 o8 ∧ ∃ v9 : Int32, hr_f f o8 3 3 (.int v9) ∧ ∃ o10 : Nat, hr_f f r0 5 1 (.ref o10) ∧ ∃ o11 : Nat, hr_f f o10 4 0 (.ref o11) ∧ ∃ v12 : Int32, hr_i (ki 0) f o11 x1 v12 ∧ ((¬ v9 = v12 → ∀ v13 : Int32, v13 = x3 + 1 → wp_X5_extend_L18 ki r0 x1 x2 E105 rec n v13 f) ∧ (v9 = v12 → ∃ o14 : Nat, hr_f f r0 5 0 (.ref o14) ∧ ∃ o15 : Nat, hr_f f o14 1 1 (.ref o15) ∧ ∃ o16 : Nat, hr_q (ki 4) f o15 x3 o16 ∧ hr_o f r0 5 ∧ wp_X5_settle ki r0 x1 o16 x2 f (fun v18 f17 => ((v18 = (-1) → ∀ v19 : Int32, v19 = x3 + 1 → wp_X5_extend_L18 ki r0 x1 x2 E105 rec n v19 f17) ∧ (¬ v18 = (-1) → ∃ o20 : Nat, hr_f f17 r0 5 3 (.ref o20) ∧ ∃ f21, hw_i (ki 0) f17 o20 x1 x3 f21 ∧ hr_o f21 r0 5 ∧ rec r0 (x1 + 1) v18 f21 (fun f22 => ∀ v23 : Int32, v23 = x3 + 1 → wp_X5_extend_L18 ki r0 x1 x2 E105 rec n v23 f22))))))))))

def wp_X5_extend (ki : Nat → ClassId) : Nat → Nat → Int32 → Int32 → ac_hp → (ac_hp → Prop) → Prop
  | 0, _, _, _, _, _ => False
  | d + 1, r0, x1, x2, f, Q => ∃ o1 : Nat, hr_f f r0 5 1 (.ref o1) ∧ ∃ v2 : Int32, hr_f f o1 4 4 (.int v2) ∧ ((x1 < v2 → ∃ n24, wp_X5_extend_L18 ki r0 x1 x2 (fun f25 => Q f25) (wp_X5_extend ki d) n24 0 f) ∧ (¬ x1 < v2 → hr_o f r0 5 ∧ wp_X5_keep ki r0 f (fun f26 => Q f26)))

set_option maxRecDepth 20000 in
set_option maxHeartbeats 4000000 in
theorem ok_X5_extend_L18 {x : ac_X} {d : Nat} (hro : ac_R x = (ro_ (3 + (d + 1)) 0 0)) (r0 : Nat) (x1 : Int32) (x2 : Int32) (E105 : ac_hp → Prop) (hE105 : ∀ (f : ac_hp), E105 f → ac_At (prog_7_method_7_code, 5, "VirtualRewrite$Rewriting") x 0 0 105 [] [] f) (rec : Nat → Int32 → Int32 → ac_hp → (ac_hp → Prop) → Prop) (hrec : ∀ (r0 : Nat) (x1 : Int32) (x2 : Int32) (f : ac_hp) (Q : ac_hp → Prop), rec r0 x1 x2 f Q → ac_met (ac_l x) (ac_D x) (ac_ki x) y_X5_extend prog_7_method_7_code 5 none (ro_ (3 + d) 0 0) [.ref r0, .int x1, .int x2] f (qr_V Q) 0 0) : ∀ (n : Nat) (x3 : Int32) (f : ac_hp), wp_X5_extend_L18 (ac_ki x) r0 x1 x2 E105 rec n x3 f → ac_At (prog_7_method_7_code, 5, "VirtualRewrite$Rewriting") x 0 0 18 [(0, .ref r0), (1, .int x1), (2, .int x2), (3, .int x3)] [] f := by
  intro n
  induction n with
  | zero => intro _ _ h; exact h.elim
  | succ n ih =>
    intro x3 f h
    rw [wp_X5_extend_L18] at h
    refine ac_iload_n 3 d_X5_extend_18 rfl rfl ?_
    refine ac_aload_n 0 d_X5_extend_19 rfl rfl ?_
    obtain ⟨o3, hr, h⟩ := h
    refine ak_getf hr fl_X5_32 d_X5_extend_20 ?_
    obtain ⟨v4, hr, h⟩ := h
    refine ak_getf hr fl_X5_70 d_X5_extend_23 ?_
    refine ac_icmp_ge (tgt := 105) d_X5_extend_26 (by decide) (fun hc => ?_) (fun hc => ?_)
    · have h := h.1 hc
      refine ac_weak [] rfl ?_
      exact hE105  f h
    · have h := h.2 hc
      refine ac_aload_n 0 d_X5_extend_29 rfl rfl ?_
      obtain ⟨v5, hr, h⟩ := h
      refine ak_getf hr fl_X5_25 d_X5_extend_30 ?_
      refine ac_if_ne (tgt := 105) d_X5_extend_33 (by decide) (fun hc => ?_) (fun hc => ?_)
      · have h := h.1 hc
        refine ac_weak [] rfl ?_
        exact hE105  f h
      · have h := h.2 hc
        refine ac_aload_n 0 d_X5_extend_36 rfl rfl ?_
        obtain ⟨o6, hr, h⟩ := h
        refine ak_getf hr fl_X5_32 d_X5_extend_37 ?_
        obtain ⟨o7, hr, h⟩ := h
        refine ak_getf hr fl_X5_40 d_X5_extend_40 ?_
        refine ac_iload_n 3 d_X5_extend_43 rfl rfl ?_
        obtain ⟨o8, hr, h⟩ := h
        refine ak_aald 4 hr rfl d_X5_extend_44 ?_
        obtain ⟨v9, hr, h⟩ := h
        refine ak_getf hr fl_X5_71 d_X5_extend_45 ?_
        refine ac_aload_n 0 d_X5_extend_48 rfl rfl ?_
        obtain ⟨o10, hr, h⟩ := h
        refine ak_getf hr fl_X5_36 d_X5_extend_49 ?_
        obtain ⟨o11, hr, h⟩ := h
        refine ak_getf hr fl_X5_76 d_X5_extend_52 ?_
        refine ac_iload_n 1 d_X5_extend_55 rfl rfl ?_
        obtain ⟨v12, hr, h⟩ := h
        refine ak_iald 0 hr rfl d_X5_extend_56 ?_
        refine ac_icmp_ne (tgt := 99) d_X5_extend_57 (by decide) (fun hc => ?_) (fun hc => ?_)
        · have h := h.1 hc
          obtain ⟨v13, ev13⟩ : ∃ y : Int32, y = x3 + 1 := ⟨_, rfl⟩
          have h := h v13 ev13
          refine ac_iinc (j := 3) (lv' := [(3, .int v13), (0, .ref r0), (1, .int x1), (2, .int x2)]) d_X5_extend_99 rfl (by rw [ev13]; rfl) (by decide) rfl ?_
          refine ac_goto (tgt := 18) d_X5_extend_102 (by decide) ?_
          refine ac_weak [1, 2, 3, 0] rfl ?_
          exact ih v13 f h
        · have h := h.2 hc
          refine ac_aload_n 0 d_X5_extend_60 rfl rfl ?_
          refine ac_iload_n 1 d_X5_extend_61 rfl rfl ?_
          refine ac_aload_n 0 d_X5_extend_62 rfl rfl ?_
          obtain ⟨o14, hr, h⟩ := h
          refine ak_getf hr fl_X5_32 d_X5_extend_63 ?_
          obtain ⟨o15, hr, h⟩ := h
          refine ak_getf hr fl_X5_40 d_X5_extend_66 ?_
          refine ac_iload_n 3 d_X5_extend_69 rfl rfl ?_
          obtain ⟨o16, hr, h⟩ := h
          refine ak_aald 4 hr rfl d_X5_extend_70 ?_
          refine ac_iload_n 2 d_X5_extend_71 rfl rfl ?_
          obtain ⟨⟨fs, hb⟩, h⟩ := h
          refine ac_callV0 cd_X5_settle ml_X5_79 in_X5_settle se_X5_settle rfl hb (c_X5_settle _ _ _ r0 x1 o16 x2 f _ h) rfl rfl (by rw [hro]; constructor <;> simp only [ro_] <;> omega) rfl (rest := []) rfl (Nat.le_of_ble_eq_true rfl) (by rw [hro]; constructor <;> simp only [ro_] <;> omega) d_X5_extend_72 (ac_I (fun v18 f17 h => ?_))
          refine ac_istore (lv' := [(4, .int v18), (0, .ref r0), (1, .int x1), (2, .int x2), (3, .int x3)]) d_X5_extend_75 (by decide) rfl ?_
          refine ac_iload 0 d_X5_extend_77 rfl ?_
          refine ac_iconst (v := -1) d_X5_extend_79 rfl ?_
          refine ac_icmp_eq (tgt := 99) d_X5_extend_80 (by decide) (fun hc => ?_) (fun hc => ?_)
          · have h := h.1 hc
            obtain ⟨v19, ev19⟩ : ∃ y : Int32, y = x3 + 1 := ⟨_, rfl⟩
            have h := h v19 ev19
            refine ac_iinc (j := 4) (lv' := [(3, .int v19), (4, .int v18), (0, .ref r0), (1, .int x1), (2, .int x2)]) d_X5_extend_99 rfl (by rw [ev19]; rfl) (by decide) rfl ?_
            refine ac_goto (tgt := 18) d_X5_extend_102 (by decide) ?_
            refine ac_weak [2, 3, 4, 0] rfl ?_
            exact ih v19 f17 h
          · have h := h.2 hc
            refine ac_aload_n 1 d_X5_extend_83 rfl rfl ?_
            obtain ⟨o20, hr, h⟩ := h
            refine ak_getf hr fl_X5_15 d_X5_extend_84 ?_
            refine ac_iload_n 2 d_X5_extend_87 rfl rfl ?_
            refine ac_iload_n 4 d_X5_extend_88 rfl rfl ?_
            obtain ⟨f21, hr, h⟩ := h
            refine ak_iast 0 hr rfl d_X5_extend_89 ?_
            refine ac_aload_n 1 d_X5_extend_90 rfl rfl ?_
            refine ac_iload_n 2 d_X5_extend_91 rfl rfl ?_
            refine ac_iconst (v := 1) d_X5_extend_92 rfl ?_
            refine ac_iadd d_X5_extend_93 ?_
            refine ac_iload 0 d_X5_extend_94 rfl ?_
            obtain ⟨⟨fs, hb⟩, h⟩ := h
            refine ac_callV0 cd_X5_extend ml_X5_58 in_X5_extend se_X5_extend rfl hb (hrec r0 (x1 + 1) v18 f21 _ h) rfl rfl (by rw [hro]; constructor <;> simp only [ro_] <;> omega) rfl (rest := []) rfl (Nat.le_of_ble_eq_true rfl) (by rw [hro]; constructor <;> simp only [ro_] <;> omega) d_X5_extend_96 (ac_V (fun f22 h => ?_))
            obtain ⟨v23, ev23⟩ : ∃ y : Int32, y = x3 + 1 := ⟨_, rfl⟩
            have h := h v23 ev23
            refine ac_iinc (j := 4) (lv' := [(3, .int v23), (4, .int v18), (0, .ref r0), (1, .int x1), (2, .int x2)]) d_X5_extend_99 rfl (by rw [ev23]; rfl) (by decide) rfl ?_
            refine ac_goto (tgt := 18) d_X5_extend_102 (by decide) ?_
            refine ac_weak [2, 3, 4, 0] rfl ?_
            exact ih v23 f22 h

set_option maxRecDepth 20000 in
set_option maxHeartbeats 4000000 in
theorem c_X5_extend : ∀ (d : Nat) (l : Launch) (D : va_G) (ki : Nat → ClassId) (r0 : Nat) (x1 : Int32) (x2 : Int32) (f : ac_hp) (Q : ac_hp → Prop) (h : wp_X5_extend ki d r0 x1 x2 f Q), ac_met l D ki y_X5_extend prog_7_method_7_code 5 none (ro_ (3 + d) 0 0) [.ref r0, .int x1, .int x2] f (qr_V Q) 0 0 := by
  intro d
  induction d with
  | zero => intro _ _ _ _ _ _ _ _ h; exact h.elim
  | succ d ihd =>
    intro l D ki r0 x1 x2 f Q h
    refine ac_enter (fun ki => wp_X5_extend ki (d + 1) r0 x1 x2 f Q) (by decide) (Nat.le_of_ble_eq_true rfl) h ?_
    intro x hro hR hnm h
    have hrec := ihd (ac_l x) (ac_D x) (ac_ki x)
    rw [wp_X5_extend] at h
    refine ac_iload_n 1 d_X5_extend_0 rfl rfl ?_
    refine ac_aload_n 0 d_X5_extend_1 rfl rfl ?_
    obtain ⟨o1, hr, h⟩ := h
    refine ak_getf hr fl_X5_36 d_X5_extend_2 ?_
    obtain ⟨v2, hr, h⟩ := h
    refine ak_getf hr fl_X5_62 d_X5_extend_5 ?_
    refine ac_icmp_lt (tgt := 16) d_X5_extend_8 (by decide) (fun hc => ?_) (fun hc => ?_)
    · have h := h.1 hc
      refine ac_iconst (v := 0) d_X5_extend_16 rfl ?_
      refine ac_istore_n (lv' := [(3, .int 0), (0, .ref r0), (1, .int x1), (2, .int x2)]) d_X5_extend_17 rfl (by decide) rfl ?_
      obtain ⟨n24, h⟩ := h
      refine ac_weak [1, 2, 3, 0] rfl ?_
      refine ok_X5_extend_L18 hro r0 x1 x2 _ (fun f25 h => ?_) _ hrec n24 0 f h
      · skip
        exact ac_vreturn hR ⟨rfl, h⟩ (by decide) (by decide) d_X5_extend_105
    · have h := h.2 hc
      refine ac_aload_n 0 d_X5_extend_11 rfl rfl ?_
      obtain ⟨⟨fs, hb⟩, h⟩ := h
      refine ac_callV0 cd_X5_keep ml_X5_67 in_X5_keep se_X5_keep rfl hb (c_X5_keep _ _ _ r0 f _ h) rfl rfl (by rw [hro]; constructor <;> simp only [ro_] <;> omega) rfl (rest := []) rfl (Nat.le_of_ble_eq_true rfl) (by rw [hro]; constructor <;> simp only [ro_] <;> omega) d_X5_extend_12 (ac_V (fun f26 h => ?_))
      exact ac_vreturn hR ⟨rfl, h⟩ (by decide) (by decide) d_X5_extend_15
end
section
def wp_X6_areOfOneRow_L63 (ki : Nat → ClassId) (r0 : Nat) (x2 : Int32) (x3 : Int32) (r4 : Nat) (r5 : Nat) (r6 : Nat) (x7 : Int32) (Q : Int32 → ac_hp → Prop) (E145 : ac_hp → Prop) : Nat → Int32 → ac_hp → Prop
  | 0, _, _ => False
  | n + 1, x8, f => ((2 ≤ x8 → E145  f) ∧ (¬ 2 ≤ x8 → ∃ o13 : Nat, hr_f f r4 3 1 (.ref o13) ∧ ∃ v14 : Int32, hr_i (ki 0) f o13 x7 v14 ∧ ∃ o15 : Nat, hr_f f r5 3 1 (.ref o15) ∧ ∃ v16 : Int32, hr_i (ki 0) f o15 x8 v16 ∧ ((¬ v14 = v16 → ∀ v17 : Int32, v17 = x8 + 1 → wp_X6_areOfOneRow_L63 ki r0 x2 x3 r4 r5 r6 x7 Q E145 n v17 f) ∧ (v14 = v16 → ∃ o18 : Nat, hr_f f r4 3 1 (.ref o18) ∧ ∃ v19 : Int32, hr_i (ki 0) f o18 x7 v19 ∧ ∃ v20 : Int32, hr_i (ki 1) f r6 v19 v20 ∧ ((v20 = 0 → ∀ v21 : Int32, v21 = x8 + 1 → wp_X6_areOfOneRow_L63 ki r0 x2 x3 r4 r5 r6 x7 Q E145 n v21 f) ∧ (¬ v20 = 0 → ∃ o22 : Nat, hr_f f r0 6 1 (.ref o22) ∧ hr_o f o22 4 ∧ wp_X4_told ki o22 x2 x7 f (fun v24 f23 => ∃ o25 : Nat, hr_f f23 r0 6 1 (.ref o25) ∧ hr_o f23 o25 4 ∧ wp_X4_told ki o25 x3 x8 f23 (fun v27 f26 => ((¬ v24 = v27 → ∀ v28 : Int32, v28 = x8 + 1 → wp_X6_areOfOneRow_L63 ki r0 x2 x3 r4 r5 r6 x7 Q E145 n v28 f26) ∧ (v24 = v27 → Q 1 f26))))))))))

def wp_X6_areOfOneRow_L54 (ki : Nat → ClassId) (r0 : Nat) (x2 : Int32) (x3 : Int32) (r4 : Nat) (r5 : Nat) (r6 : Nat) (Q : Int32 → ac_hp → Prop) (E151 : ac_hp → Prop) : Nat → Int32 → ac_hp → Prop
  | 0, _, _ => False
  | n + 1, x7, f => ((2 ≤ x7 → E151  f) ∧ (¬ 2 ≤ x7 → ∃ n29, wp_X6_areOfOneRow_L63 ki r0 x2 x3 r4 r5 r6 x7 Q (fun f30 => ∀ v31 : Int32, v31 = x7 + 1 → wp_X6_areOfOneRow_L54 ki r0 x2 x3 r4 r5 r6 Q E151 n v31 f30) n29 0 f))

def wp_X6_areOfOneRow (ki : Nat → ClassId) (r0 : Nat) (x1 : Int32) (x2 : Int32) (x3 : Int32) (f : ac_hp) (Q : Int32 → ac_hp → Prop) : Prop := ∃ o1 : Nat, hr_f f r0 6 2 (.ref o1) ∧ hr_o f o1 5 ∧ wp_X5_mappingOf ki o1 x1 x2 f (fun o3 f2 => ∃ o4 : Nat, hr_f f2 r0 6 2 (.ref o4) ∧ hr_o f2 o4 5 ∧ wp_X5_mappingOf ki o4 x1 x3 f2 (fun o6 f5 => ∃ v7 : Int32, hr_f f5 o3 3 2 (.int v7) ∧ ∃ v8 : Int32, hr_f f5 o6 3 2 (.int v8) ∧ ((v7 = v8 → ∃ o9 : Nat, hr_f f5 r0 6 0 (.ref o9) ∧ hr_o f5 o9 1 ∧ wp_X1_tableOf ki o9 o3 f5 (fun o11 f10 => ∃ o12 : Nat, hr_f f10 o11 2 1 (.ref o12) ∧ ∃ n32, wp_X6_areOfOneRow_L54 ki r0 x2 x3 o3 o6 o12 Q (fun f33 => Q 0 f33) n32 0 f10)) ∧ (¬ v7 = v8 → Q 0 f5))))

set_option maxRecDepth 20000 in
set_option maxHeartbeats 4000000 in
theorem ok_X6_areOfOneRow_L63 {x : ac_X} (hro : ac_R x = (ro_ 3 0 0)) (r0 : Nat) (x2 : Int32) (x3 : Int32) (r4 : Nat) (r5 : Nat) (r6 : Nat) (x7 : Int32) (Q : Int32 → ac_hp → Prop) (hR : ac_rt x (some .boolean) (qr_I Q) 0 0) (E145 : ac_hp → Prop) (hE145 : ∀ (f : ac_hp), E145 f → ac_At (prog_8_method_4_code, 10, "VirtualRewrite$Slots") x 0 0 145 [(0, .ref r0), (2, .int x2), (3, .int x3), (4, .ref r4), (5, .ref r5), (6, .ref r6), (7, .int x7)] [] f) : ∀ (n : Nat) (x8 : Int32) (f : ac_hp), wp_X6_areOfOneRow_L63 (ac_ki x) r0 x2 x3 r4 r5 r6 x7 Q E145 n x8 f → ac_At (prog_8_method_4_code, 10, "VirtualRewrite$Slots") x 0 0 63 [(0, .ref r0), (2, .int x2), (3, .int x3), (4, .ref r4), (5, .ref r5), (6, .ref r6), (7, .int x7), (8, .int x8)] [] f := by
  intro n
  induction n with
  | zero => intro _ _ h; exact h.elim
  | succ n ih =>
    intro x8 f h
    rw [wp_X6_areOfOneRow_L63] at h
    refine ac_iload 7 d_X6_areOfOneRow_63 rfl ?_
    refine ac_iconst (v := 2) d_X6_areOfOneRow_65 rfl ?_
    refine ac_icmp_ge (tgt := 145) d_X6_areOfOneRow_66 (by decide) (fun hc => ?_) (fun hc => ?_)
    · have h := h.1 hc
      refine ac_weak [0, 1, 2, 3, 4, 5, 6] rfl ?_
      exact hE145  f h
    · have h := h.2 hc
      refine ac_aload 3 d_X6_areOfOneRow_69 rfl ?_
      obtain ⟨o13, hr, h⟩ := h
      refine ak_getf hr fl_X6_67 d_X6_areOfOneRow_71 ?_
      refine ac_iload 6 d_X6_areOfOneRow_74 rfl ?_
      obtain ⟨v14, hr, h⟩ := h
      refine ak_iald 0 hr rfl d_X6_areOfOneRow_76 ?_
      refine ac_aload 4 d_X6_areOfOneRow_77 rfl ?_
      obtain ⟨o15, hr, h⟩ := h
      refine ak_getf hr fl_X6_67 d_X6_areOfOneRow_79 ?_
      refine ac_iload 7 d_X6_areOfOneRow_82 rfl ?_
      obtain ⟨v16, hr, h⟩ := h
      refine ak_iald 0 hr rfl d_X6_areOfOneRow_84 ?_
      refine ac_icmp_ne (tgt := 106) d_X6_areOfOneRow_85 (by decide) (fun hc => ?_) (fun hc => ?_)
      · have h := h.1 hc
        refine ac_iconst (v := 0) d_X6_areOfOneRow_106 rfl ?_
        refine ac_istore (lv' := [(9, .int 0), (0, .ref r0), (2, .int x2), (3, .int x3), (4, .ref r4), (5, .ref r5), (6, .ref r6), (7, .int x7), (8, .int x8)]) d_X6_areOfOneRow_107 (by decide) rfl ?_
        refine ac_iload 0 d_X6_areOfOneRow_109 rfl ?_
        refine ac_if_eq (tgt := 139) d_X6_areOfOneRow_111 (by decide) (fun hc => ?_) (fun hc => absurd hc (by decide))
        obtain ⟨v17, ev17⟩ : ∃ y : Int32, y = x8 + 1 := ⟨_, rfl⟩
        have h := h v17 ev17
        refine ac_iinc (j := 8) (lv' := [(8, .int v17), (9, .int 0), (0, .ref r0), (2, .int x2), (3, .int x3), (4, .ref r4), (5, .ref r5), (6, .ref r6), (7, .int x7)]) d_X6_areOfOneRow_139 rfl (by rw [ev17]; rfl) (by decide) rfl ?_
        refine ac_goto (tgt := 63) d_X6_areOfOneRow_142 (by decide) ?_
        refine ac_weak [2, 3, 4, 5, 6, 7, 8, 0] rfl ?_
        exact ih v17 f h
      · have h := h.2 hc
        refine ac_aload 5 d_X6_areOfOneRow_88 rfl ?_
        refine ac_aload 3 d_X6_areOfOneRow_90 rfl ?_
        obtain ⟨o18, hr, h⟩ := h
        refine ak_getf hr fl_X6_67 d_X6_areOfOneRow_92 ?_
        refine ac_iload 6 d_X6_areOfOneRow_95 rfl ?_
        obtain ⟨v19, hr, h⟩ := h
        refine ak_iald 0 hr rfl d_X6_areOfOneRow_97 ?_
        obtain ⟨v20, hr, h⟩ := h
        refine ak_zald 1 hr rfl d_X6_areOfOneRow_98 ?_
        refine ac_if_eq (tgt := 106) d_X6_areOfOneRow_99 (by decide) (fun hc => ?_) (fun hc => ?_)
        · have h := h.1 hc
          refine ac_iconst (v := 0) d_X6_areOfOneRow_106 rfl ?_
          refine ac_istore (lv' := [(9, .int 0), (0, .ref r0), (2, .int x2), (3, .int x3), (4, .ref r4), (5, .ref r5), (6, .ref r6), (7, .int x7), (8, .int x8)]) d_X6_areOfOneRow_107 (by decide) rfl ?_
          refine ac_iload 0 d_X6_areOfOneRow_109 rfl ?_
          refine ac_if_eq (tgt := 139) d_X6_areOfOneRow_111 (by decide) (fun hc => ?_) (fun hc => absurd hc (by decide))
          obtain ⟨v21, ev21⟩ : ∃ y : Int32, y = x8 + 1 := ⟨_, rfl⟩
          have h := h v21 ev21
          refine ac_iinc (j := 8) (lv' := [(8, .int v21), (9, .int 0), (0, .ref r0), (2, .int x2), (3, .int x3), (4, .ref r4), (5, .ref r5), (6, .ref r6), (7, .int x7)]) d_X6_areOfOneRow_139 rfl (by rw [ev21]; rfl) (by decide) rfl ?_
          refine ac_goto (tgt := 63) d_X6_areOfOneRow_142 (by decide) ?_
          refine ac_weak [2, 3, 4, 5, 6, 7, 8, 0] rfl ?_
          exact ih v21 f h
        · have h := h.2 hc
          refine ac_iconst (v := 1) d_X6_areOfOneRow_102 rfl ?_
          refine ac_goto (tgt := 107) d_X6_areOfOneRow_103 (by decide) ?_
          refine ac_istore (lv' := [(9, .int 1), (0, .ref r0), (2, .int x2), (3, .int x3), (4, .ref r4), (5, .ref r5), (6, .ref r6), (7, .int x7), (8, .int x8)]) d_X6_areOfOneRow_107 (by decide) rfl ?_
          refine ac_iload 0 d_X6_areOfOneRow_109 rfl ?_
          refine ac_if_eq (tgt := 139) d_X6_areOfOneRow_111 (by decide) (fun hc => absurd hc (by decide)) (fun hc => ?_)
          refine ac_aload_n 1 d_X6_areOfOneRow_114 rfl rfl ?_
          obtain ⟨o22, hr, h⟩ := h
          refine ak_getf hr fl_X6_23 d_X6_areOfOneRow_115 ?_
          refine ac_iload_n 2 d_X6_areOfOneRow_118 rfl rfl ?_
          refine ac_iload 7 d_X6_areOfOneRow_119 rfl ?_
          obtain ⟨⟨fs, hb⟩, h⟩ := h
          refine ac_callV0 cd_X4_told ml_X6_70 in_X4_told se_X4_told rfl hb (c_X4_told _ _ _ o22 x2 x7 f _ h) rfl rfl (by rw [hro]; decide) rfl (rest := []) rfl (Nat.le_of_ble_eq_true rfl) (by rw [hro]; decide) d_X6_areOfOneRow_121 (ac_I (fun v24 f23 h => ?_))
          refine ac_aload_n 1 d_X6_areOfOneRow_124 rfl rfl ?_
          obtain ⟨o25, hr, h⟩ := h
          refine ak_getf hr fl_X6_23 d_X6_areOfOneRow_125 ?_
          refine ac_iload_n 3 d_X6_areOfOneRow_128 rfl rfl ?_
          refine ac_iload 8 d_X6_areOfOneRow_129 rfl ?_
          obtain ⟨⟨fs, hb⟩, h⟩ := h
          refine ac_callV0 cd_X4_told ml_X6_70 in_X4_told se_X4_told rfl hb (c_X4_told _ _ _ o25 x3 x8 f23 _ h) rfl rfl (by rw [hro]; decide) rfl (rest := [.int v24]) rfl (Nat.le_of_ble_eq_true rfl) (by rw [hro]; decide) d_X6_areOfOneRow_131 (ac_I (fun v27 f26 h => ?_))
          refine ac_icmp_ne (tgt := 139) d_X6_areOfOneRow_134 (by decide) (fun hc => ?_) (fun hc => ?_)
          · have h := h.1 hc
            obtain ⟨v28, ev28⟩ : ∃ y : Int32, y = x8 + 1 := ⟨_, rfl⟩
            have h := h v28 ev28
            refine ac_iinc (j := 8) (lv' := [(8, .int v28), (9, .int 1), (0, .ref r0), (2, .int x2), (3, .int x3), (4, .ref r4), (5, .ref r5), (6, .ref r6), (7, .int x7)]) d_X6_areOfOneRow_139 rfl (by rw [ev28]; rfl) (by decide) rfl ?_
            refine ac_goto (tgt := 63) d_X6_areOfOneRow_142 (by decide) ?_
            refine ac_weak [2, 3, 4, 5, 6, 7, 8, 0] rfl ?_
            exact ih v28 f26 h
          · have h := h.2 hc
            refine ac_iconst (v := 1) d_X6_areOfOneRow_137 rfl ?_
            exact ac_ireturn hR rfl ⟨_, rfl, h⟩ (by decide) (by decide) d_X6_areOfOneRow_138

set_option maxRecDepth 20000 in
set_option maxHeartbeats 4000000 in
theorem ok_X6_areOfOneRow_L54 {x : ac_X} (hro : ac_R x = (ro_ 3 0 0)) (r0 : Nat) (x2 : Int32) (x3 : Int32) (r4 : Nat) (r5 : Nat) (r6 : Nat) (Q : Int32 → ac_hp → Prop) (hR : ac_rt x (some .boolean) (qr_I Q) 0 0) (E151 : ac_hp → Prop) (hE151 : ∀ (f : ac_hp), E151 f → ac_At (prog_8_method_4_code, 10, "VirtualRewrite$Slots") x 0 0 151 [] [] f) : ∀ (n : Nat) (x7 : Int32) (f : ac_hp), wp_X6_areOfOneRow_L54 (ac_ki x) r0 x2 x3 r4 r5 r6 Q E151 n x7 f → ac_At (prog_8_method_4_code, 10, "VirtualRewrite$Slots") x 0 0 54 [(0, .ref r0), (2, .int x2), (3, .int x3), (4, .ref r4), (5, .ref r5), (6, .ref r6), (7, .int x7)] [] f := by
  intro n
  induction n with
  | zero => intro _ _ h; exact h.elim
  | succ n ih =>
    intro x7 f h
    rw [wp_X6_areOfOneRow_L54] at h
    refine ac_iload 6 d_X6_areOfOneRow_54 rfl ?_
    refine ac_iconst (v := 2) d_X6_areOfOneRow_56 rfl ?_
    refine ac_icmp_ge (tgt := 151) d_X6_areOfOneRow_57 (by decide) (fun hc => ?_) (fun hc => ?_)
    · have h := h.1 hc
      refine ac_weak [] rfl ?_
      exact hE151  f h
    · have h := h.2 hc
      refine ac_iconst (v := 0) d_X6_areOfOneRow_60 rfl ?_
      refine ac_istore (lv' := [(8, .int 0), (0, .ref r0), (2, .int x2), (3, .int x3), (4, .ref r4), (5, .ref r5), (6, .ref r6), (7, .int x7)]) d_X6_areOfOneRow_61 (by decide) rfl ?_
      obtain ⟨n29, h⟩ := h
      refine ac_weak [1, 2, 3, 4, 5, 6, 7, 0] rfl ?_
      refine ok_X6_areOfOneRow_L63 hro r0 x2 x3 r4 r5 r6 x7 Q hR _ (fun f30 h => ?_) n29 0 f h
      · skip
        obtain ⟨v31, ev31⟩ : ∃ y : Int32, y = x7 + 1 := ⟨_, rfl⟩
        have h := h v31 ev31
        refine ac_iinc (j := 6) (lv' := [(7, .int v31), (0, .ref r0), (2, .int x2), (3, .int x3), (4, .ref r4), (5, .ref r5), (6, .ref r6)]) d_X6_areOfOneRow_145 rfl (by rw [ev31]; rfl) (by decide) rfl ?_
        refine ac_goto (tgt := 54) d_X6_areOfOneRow_148 (by decide) ?_
        refine ac_weak [1, 2, 3, 4, 5, 6, 0] rfl ?_
        exact ih v31 f30 h

set_option maxRecDepth 20000 in
set_option maxHeartbeats 4000000 in
theorem c_X6_areOfOneRow (l : Launch) (D : va_G) (ki : Nat → ClassId) (r0 : Nat) (x1 : Int32) (x2 : Int32) (x3 : Int32) (f : ac_hp) (Q : Int32 → ac_hp → Prop) (h : wp_X6_areOfOneRow ki r0 x1 x2 x3 f Q) : ac_met l D ki y_X6_areOfOneRow prog_8_method_4_code 10 (some .boolean) (ro_ 3 0 0) [.ref r0, .int x1, .int x2, .int x3] f (qr_I Q) 0 0 := by
  refine ac_enter (fun ki => wp_X6_areOfOneRow ki r0 x1 x2 x3 f Q) (by decide) (Nat.le_of_ble_eq_true rfl) h ?_
  intro x hro hR hnm h
  unfold wp_X6_areOfOneRow at h
  refine ac_aload_n 0 d_X6_areOfOneRow_0 rfl rfl ?_
  obtain ⟨o1, hr, h⟩ := h
  refine ak_getf hr fl_X6_27 d_X6_areOfOneRow_1 ?_
  refine ac_iload_n 1 d_X6_areOfOneRow_4 rfl rfl ?_
  refine ac_iload_n 2 d_X6_areOfOneRow_5 rfl rfl ?_
  obtain ⟨⟨fs, hb⟩, h⟩ := h
  refine ac_callV0 cd_X5_mappingOf ml_X6_44 in_X5_mappingOf se_X5_mappingOf rfl hb (c_X5_mappingOf _ _ _ o1 x1 x2 f _ h) rfl rfl (by rw [hro]; decide) rfl (rest := []) rfl (Nat.le_of_ble_eq_true rfl) (by rw [hro]; decide) d_X6_areOfOneRow_6 (ac_Rf (fun o3 f2 h => ?_))
  refine ac_astore (lv' := [(4, .ref o3), (0, .ref r0), (1, .int x1), (2, .int x2), (3, .int x3)]) d_X6_areOfOneRow_9 (by decide) rfl ?_
  refine ac_aload_n 1 d_X6_areOfOneRow_11 rfl rfl ?_
  obtain ⟨o4, hr, h⟩ := h
  refine ak_getf hr fl_X6_27 d_X6_areOfOneRow_12 ?_
  refine ac_iload_n 2 d_X6_areOfOneRow_15 rfl rfl ?_
  refine ac_iload_n 4 d_X6_areOfOneRow_16 rfl rfl ?_
  obtain ⟨⟨fs, hb⟩, h⟩ := h
  refine ac_callV0 cd_X5_mappingOf ml_X6_44 in_X5_mappingOf se_X5_mappingOf rfl hb (c_X5_mappingOf _ _ _ o4 x1 x3 f2 _ h) rfl rfl (by rw [hro]; decide) rfl (rest := []) rfl (Nat.le_of_ble_eq_true rfl) (by rw [hro]; decide) d_X6_areOfOneRow_17 (ac_Rf (fun o6 f5 h => ?_))
  refine ac_astore (lv' := [(5, .ref o6), (4, .ref o3), (0, .ref r0), (1, .int x1), (2, .int x2), (3, .int x3)]) d_X6_areOfOneRow_20 (by decide) rfl ?_
  refine ac_aload 1 d_X6_areOfOneRow_22 rfl ?_
  obtain ⟨v7, hr, h⟩ := h
  refine ak_getf hr fl_X6_50 d_X6_areOfOneRow_24 ?_
  refine ac_aload 0 d_X6_areOfOneRow_27 rfl ?_
  obtain ⟨v8, hr, h⟩ := h
  refine ak_getf hr fl_X6_50 d_X6_areOfOneRow_29 ?_
  refine ac_icmp_eq (tgt := 37) d_X6_areOfOneRow_32 (by decide) (fun hc => ?_) (fun hc => ?_)
  · have h := h.1 hc
    refine ac_aload_n 2 d_X6_areOfOneRow_37 rfl rfl ?_
    obtain ⟨o9, hr, h⟩ := h
    refine ak_getf hr fl_X6_19 d_X6_areOfOneRow_38 ?_
    refine ac_aload 1 d_X6_areOfOneRow_41 rfl ?_
    obtain ⟨⟨fs, hb⟩, h⟩ := h
    refine ac_callV0 cd_X1_tableOf ml_X6_55 in_X1_tableOf se_X1_tableOf rfl hb (c_X1_tableOf _ _ _ o9 o3 f5 _ h) rfl rfl (by rw [hro]; decide) rfl (rest := []) rfl (Nat.le_of_ble_eq_true rfl) (by rw [hro]; decide) d_X6_areOfOneRow_43 (ac_Rf (fun o11 f10 h => ?_))
    obtain ⟨o12, hr, h⟩ := h
    refine ak_getf hr fl_X6_61 d_X6_areOfOneRow_46 ?_
    refine ac_astore (lv' := [(6, .ref o12), (5, .ref o6), (4, .ref o3), (0, .ref r0), (1, .int x1), (2, .int x2), (3, .int x3)]) d_X6_areOfOneRow_49 (by decide) rfl ?_
    refine ac_iconst (v := 0) d_X6_areOfOneRow_51 rfl ?_
    refine ac_istore (lv' := [(7, .int 0), (6, .ref o12), (5, .ref o6), (4, .ref o3), (0, .ref r0), (1, .int x1), (2, .int x2), (3, .int x3)]) d_X6_areOfOneRow_52 (by decide) rfl ?_
    obtain ⟨n32, h⟩ := h
    refine ac_weak [4, 6, 7, 3, 2, 1, 0] rfl ?_
    refine ok_X6_areOfOneRow_L54 hro r0 x2 x3 o3 o6 o12 Q hR _ (fun f33 h => ?_) n32 0 f10 h
    · skip
      refine ac_iconst (v := 0) d_X6_areOfOneRow_151 rfl ?_
      exact ac_ireturn hR rfl ⟨_, rfl, h⟩ (by decide) (by decide) d_X6_areOfOneRow_152
  · have h := h.2 hc
    refine ac_iconst (v := 0) d_X6_areOfOneRow_35 rfl ?_
    exact ac_ireturn hR rfl ⟨_, rfl, h⟩ (by decide) (by decide) d_X6_areOfOneRow_36

def wp_X5_tableOf (ki : Nat → ClassId) (r0 : Nat) (x1 : Int32) (x2 : Int32) (f : ac_hp) (Q : Nat → ac_hp → Prop) : Prop := ∃ o1 : Nat, hr_f f r0 5 0 (.ref o1) ∧ hr_o f r0 5 ∧ wp_X5_mappingOf ki r0 x1 x2 f (fun o3 f2 => hr_o f2 o1 1 ∧ wp_X1_tableOf ki o1 o3 f2 (fun o5 f4 => Q o5 f4))

set_option maxRecDepth 20000 in
set_option maxHeartbeats 4000000 in
theorem c_X5_tableOf (l : Launch) (D : va_G) (ki : Nat → ClassId) (r0 : Nat) (x1 : Int32) (x2 : Int32) (f : ac_hp) (Q : Nat → ac_hp → Prop) (h : wp_X5_tableOf ki r0 x1 x2 f Q) : ac_met l D ki y_X5_tableOf prog_7_method_4_code 3 (some (.object "VirtualRewrite$Table")) (ro_ 3 0 0) [.ref r0, .int x1, .int x2] f (qr_R Q) 0 0 := by
  refine ac_enter (fun ki => wp_X5_tableOf ki r0 x1 x2 f Q) (by decide) (Nat.le_of_ble_eq_true rfl) h ?_
  intro x hro hR hnm h
  unfold wp_X5_tableOf at h
  refine ac_aload_n 0 d_X5_tableOf_0 rfl rfl ?_
  obtain ⟨o1, hr, h⟩ := h
  refine ak_getf hr fl_X5_32 d_X5_tableOf_1 ?_
  refine ac_aload_n 0 d_X5_tableOf_4 rfl rfl ?_
  refine ac_iload_n 1 d_X5_tableOf_5 rfl rfl ?_
  refine ac_iload_n 2 d_X5_tableOf_6 rfl rfl ?_
  obtain ⟨⟨fs, hb⟩, h⟩ := h
  refine ac_callV0 cd_X5_mappingOf ml_X5_50 in_X5_mappingOf se_X5_mappingOf rfl hb (c_X5_mappingOf _ _ _ r0 x1 x2 f _ h) rfl rfl (by rw [hro]; decide) rfl (rest := [.ref o1]) rfl (Nat.le_of_ble_eq_true rfl) (by rw [hro]; decide) d_X5_tableOf_7 (ac_Rf (fun o3 f2 h => ?_))
  obtain ⟨⟨fs, hb⟩, h⟩ := h
  refine ac_callV0 cd_X1_tableOf ml_X5_54 in_X1_tableOf se_X1_tableOf rfl hb (c_X1_tableOf _ _ _ o1 o3 f2 _ h) rfl rfl (by rw [hro]; decide) rfl (rest := []) rfl (Nat.le_of_ble_eq_true rfl) (by rw [hro]; decide) d_X5_tableOf_10 (ac_Rf (fun o5 f4 h => ?_))
  exact ac_areturn hR (Or.inl ⟨_, rfl⟩) ⟨_, rfl, h⟩ (by decide) (by decide) d_X5_tableOf_13

def wp_X8_layOutVariable (ki : Nat → ClassId) (r0 : Nat) (x1 : Int32) (x2 : Int32) (f : ac_hp) (Q : ac_hp → Prop) : Prop := ∃ o1 : Nat, hr_f f r0 8 0 (.ref o1) ∧ hr_o f o1 4 ∧ wp_X4_told ki o1 x1 x2 f (fun v3 f2 => wp_X0_variableOf ki v3 f2 (fun v5 f4 => ∃ o6 : Nat, hr_f f4 r0 8 2 (.ref o6) ∧ ∃ o7 : Nat, hr_f f4 o6 6 3 (.ref o7) ∧ ∃ v8 : Int32, hr_i (ki 0) f4 o7 x1 v8 ∧ ∃ o9 : Nat, hr_f f4 r0 8 1 (.ref o9) ∧ ∃ v10 : Int32, hr_f f4 r0 8 12 (.int v10) ∧ hr_o f4 o9 5 ∧ wp_X5_mappingOf ki o9 v10 x1 f4 (fun o12 f11 => ∃ o13 : Nat, hr_f f11 r0 8 10 (.ref o13) ∧ ∃ o14 : Nat, hr_f f11 o12 3 0 (.ref o14) ∧ ∃ v15 : Int32, hr_i (ki 0) f11 o14 x2 v15 ∧ ∃ f16, hw_i (ki 0) f11 o13 v5 v15 f16 ∧ ∃ o17 : Nat, hr_f f16 r0 8 6 (.ref o17) ∧ ∃ o18 : Nat, hr_f f16 o12 3 1 (.ref o18) ∧ ∃ v19 : Int32, hr_i (ki 0) f16 o18 x2 v19 ∧ ∃ f20, hw_i (ki 0) f16 o17 ((v8 * 6) + v5) v19 f20 ∧ ∃ o21 : Nat, hr_f f20 r0 8 5 (.ref o21) ∧ ∃ o22 : Nat, hr_f f20 r0 8 5 (.ref o22) ∧ ∃ v23 : Int32, hr_i (ki 0) f20 o22 v8 v23 ∧ wp_X0_with ki v23 v5 f20 (fun v25 f24 => ∃ f26, hw_i (ki 0) f24 o21 v8 v25 f26 ∧ Q f26))))

set_option maxRecDepth 20000 in
set_option maxHeartbeats 4000000 in
theorem c_X8_layOutVariable (l : Launch) (D : va_G) (ki : Nat → ClassId) (r0 : Nat) (x1 : Int32) (x2 : Int32) (f : ac_hp) (Q : ac_hp → Prop) (h : wp_X8_layOutVariable ki r0 x1 x2 f Q) : ac_met l D ki y_X8_layOutVariable prog_4_method_4_code 6 none (ro_ 3 0 0) [.ref r0, .int x1, .int x2] f (qr_V Q) 0 0 := by
  refine ac_enter (fun ki => wp_X8_layOutVariable ki r0 x1 x2 f Q) (by decide) (Nat.le_of_ble_eq_true rfl) h ?_
  intro x hro hR hnm h
  unfold wp_X8_layOutVariable at h
  refine ac_aload_n 0 d_X8_layOutVariable_0 rfl rfl ?_
  obtain ⟨o1, hr, h⟩ := h
  refine ak_getf hr fl_X8_40 d_X8_layOutVariable_1 ?_
  refine ac_iload_n 1 d_X8_layOutVariable_4 rfl rfl ?_
  refine ac_iload_n 2 d_X8_layOutVariable_5 rfl rfl ?_
  obtain ⟨⟨fs, hb⟩, h⟩ := h
  refine ac_callV0 cd_X4_told ml_X8_86 in_X4_told se_X4_told rfl hb (c_X4_told _ _ _ o1 x1 x2 f _ h) rfl rfl (by rw [hro]; decide) rfl (rest := []) rfl (Nat.le_of_ble_eq_true rfl) (by rw [hro]; decide) d_X8_layOutVariable_6 (ac_I (fun v3 f2 h => ?_))
  refine ac_callSN0 cd_X0_variableOf ml_X8_97 st_X0_variableOf (c_X0_variableOf _ _ _ v3 f2 _ h) rfl rfl (by rw [hro]; decide) rfl (rest := []) rfl (Nat.le_of_ble_eq_true rfl) (by rw [hro]; decide) d_X8_layOutVariable_9 (ac_I (fun v5 f4 h => ?_))
  refine ac_istore_n (lv' := [(3, .int v5), (0, .ref r0), (1, .int x1), (2, .int x2)]) d_X8_layOutVariable_12 rfl (by decide) rfl ?_
  refine ac_aload_n 1 d_X8_layOutVariable_13 rfl rfl ?_
  obtain ⟨o6, hr, h⟩ := h
  refine ak_getf hr fl_X8_48 d_X8_layOutVariable_14 ?_
  obtain ⟨o7, hr, h⟩ := h
  refine ak_getf hr fl_X8_83 d_X8_layOutVariable_17 ?_
  refine ac_iload_n 2 d_X8_layOutVariable_20 rfl rfl ?_
  obtain ⟨v8, hr, h⟩ := h
  refine ak_iald 0 hr rfl d_X8_layOutVariable_21 ?_
  refine ac_istore (lv' := [(4, .int v8), (3, .int v5), (0, .ref r0), (1, .int x1), (2, .int x2)]) d_X8_layOutVariable_22 (by decide) rfl ?_
  refine ac_aload_n 2 d_X8_layOutVariable_24 rfl rfl ?_
  obtain ⟨o9, hr, h⟩ := h
  refine ak_getf hr fl_X8_44 d_X8_layOutVariable_25 ?_
  refine ac_aload_n 2 d_X8_layOutVariable_28 rfl rfl ?_
  obtain ⟨v10, hr, h⟩ := h
  refine ak_getf hr fl_X8_36 d_X8_layOutVariable_29 ?_
  refine ac_iload_n 3 d_X8_layOutVariable_32 rfl rfl ?_
  obtain ⟨⟨fs, hb⟩, h⟩ := h
  refine ac_callV0 cd_X5_mappingOf ml_X8_101 in_X5_mappingOf se_X5_mappingOf rfl hb (c_X5_mappingOf _ _ _ o9 v10 x1 f4 _ h) rfl rfl (by rw [hro]; decide) rfl (rest := []) rfl (Nat.le_of_ble_eq_true rfl) (by rw [hro]; decide) d_X8_layOutVariable_33 (ac_Rf (fun o12 f11 h => ?_))
  refine ac_astore (lv' := [(5, .ref o12), (4, .int v8), (3, .int v5), (0, .ref r0), (1, .int x1), (2, .int x2)]) d_X8_layOutVariable_36 (by decide) rfl ?_
  refine ac_aload_n 3 d_X8_layOutVariable_38 rfl rfl ?_
  obtain ⟨o13, hr, h⟩ := h
  refine ak_getf hr fl_X8_30 d_X8_layOutVariable_39 ?_
  refine ac_iload_n 2 d_X8_layOutVariable_42 rfl rfl ?_
  refine ac_aload 0 d_X8_layOutVariable_43 rfl ?_
  obtain ⟨o14, hr, h⟩ := h
  refine ak_getf hr fl_X8_107 d_X8_layOutVariable_45 ?_
  refine ac_iload_n 5 d_X8_layOutVariable_48 rfl rfl ?_
  obtain ⟨v15, hr, h⟩ := h
  refine ak_iald 0 hr rfl d_X8_layOutVariable_49 ?_
  obtain ⟨f16, hr, h⟩ := h
  refine ak_iast 0 hr rfl d_X8_layOutVariable_50 ?_
  refine ac_aload_n 3 d_X8_layOutVariable_51 rfl rfl ?_
  obtain ⟨o17, hr, h⟩ := h
  refine ak_getf hr fl_X8_18 d_X8_layOutVariable_52 ?_
  refine ac_iload 1 d_X8_layOutVariable_55 rfl ?_
  refine ac_bipush (v := 6) d_X8_layOutVariable_57 rfl ?_
  refine ac_imul d_X8_layOutVariable_59 ?_
  refine ac_iload_n 2 d_X8_layOutVariable_60 rfl rfl ?_
  refine ac_iadd d_X8_layOutVariable_61 ?_
  refine ac_aload 0 d_X8_layOutVariable_62 rfl ?_
  obtain ⟨o18, hr, h⟩ := h
  refine ak_getf hr fl_X8_110 d_X8_layOutVariable_64 ?_
  refine ac_iload_n 5 d_X8_layOutVariable_67 rfl rfl ?_
  obtain ⟨v19, hr, h⟩ := h
  refine ak_iald 0 hr rfl d_X8_layOutVariable_68 ?_
  obtain ⟨f20, hr, h⟩ := h
  refine ak_iast 0 hr rfl d_X8_layOutVariable_69 ?_
  refine ac_aload_n 3 d_X8_layOutVariable_70 rfl rfl ?_
  obtain ⟨o21, hr, h⟩ := h
  refine ak_getf hr fl_X8_15 d_X8_layOutVariable_71 ?_
  refine ac_iload 1 d_X8_layOutVariable_74 rfl ?_
  refine ac_aload_n 3 d_X8_layOutVariable_76 rfl rfl ?_
  obtain ⟨o22, hr, h⟩ := h
  refine ak_getf hr fl_X8_15 d_X8_layOutVariable_77 ?_
  refine ac_iload 1 d_X8_layOutVariable_80 rfl ?_
  obtain ⟨v23, hr, h⟩ := h
  refine ak_iald 0 hr rfl d_X8_layOutVariable_82 ?_
  refine ac_iload_n 2 d_X8_layOutVariable_83 rfl rfl ?_
  refine ac_callSN0 cd_X0_with ml_X8_111 st_X0_with (c_X0_with _ _ _ v23 v5 f20 _ h) rfl rfl (by rw [hro]; decide) rfl (rest := [.int v8, .ref o21]) rfl (Nat.le_of_ble_eq_true rfl) (by rw [hro]; decide) d_X8_layOutVariable_84 (ac_I (fun v25 f24 h => ?_))
  obtain ⟨f26, hr, h⟩ := h
  refine ak_iast 0 hr rfl d_X8_layOutVariable_87 ?_
  exact ac_vreturn hR ⟨rfl, h⟩ (by decide) (by decide) d_X8_layOutVariable_88

def wp_X8_suitsAtom_L17 (ki : Nat → ClassId) (r0 : Nat) (x1 : Int32) (r2 : Nat) (x3 : Int32) (r4 : Nat) (Q : Int32 → ac_hp → Prop) (E134 : ac_hp → Prop) : Nat → Int32 → ac_hp → Prop
  | 0, _, _ => False
  | n + 1, x5, f => ((2 ≤ x5 → E134  f) ∧ (¬ 2 ≤ x5 → ∃ o5 : Nat, hr_f f r0 8 0 (.ref o5) ∧ hr_o f o5 4 ∧ wp_X4_told ki o5 x1 x5 f (fun v7 f6 => ∃ o8 : Nat, hr_f f6 r4 3 1 (.ref o8) ∧ ∃ v9 : Int32, hr_i (ki 0) f6 o8 x5 v9 ∧ hr_o f6 r2 2 ∧ wp_X2_cell ki r2 x3 v9 f6 (fun v11 f10 => wp_X0_isVariable ki v7 f10 (fun v13 f12 => ((¬ v13 = 0 → wp_X0_variableOf ki v7 f12 (fun v15 f14 => ∃ o16 : Nat, hr_f f14 r0 8 6 (.ref o16) ∧ ∃ o17 : Nat, hr_f f14 r0 8 2 (.ref o17) ∧ ∃ o18 : Nat, hr_f f14 o17 6 3 (.ref o18) ∧ ∃ v19 : Int32, hr_i (ki 0) f14 o18 x1 v19 ∧ ∃ v20 : Int32, hr_i (ki 0) f14 o16 ((v19 * 6) + v15) v20 ∧ hr_o f14 r2 2 ∧ wp_X2_cell ki r2 x3 v20 f14 (fun v22 f21 => ((¬ v11 = v22 → Q 0 f21) ∧ (v11 = v22 → ∃ o23 : Nat, hr_f f21 r0 8 0 (.ref o23) ∧ hr_o f21 o23 4 ∧ wp_X4_allows ki o23 v15 v11 f21 (fun v25 f24 => ((¬ v25 = 0 → ∀ v26 : Int32, v26 = x5 + 1 → wp_X8_suitsAtom_L17 ki r0 x1 r2 x3 r4 Q E134 n v26 f24) ∧ (v25 = 0 → Q 0 f24)))))))) ∧ (v13 = 0 → (((v7 - v7 / 10000 * 10000) = v11 → ∀ v27 : Int32, v27 = x5 + 1 → wp_X8_suitsAtom_L17 ki r0 x1 r2 x3 r4 Q E134 n v27 f12) ∧ (¬ (v7 - v7 / 10000 * 10000) = v11 → Q 0 f12)))))))))

def wp_X8_suitsAtom (ki : Nat → ClassId) (r0 : Nat) (x1 : Int32) (r2 : Nat) (x3 : Int32) (f : ac_hp) (Q : Int32 → ac_hp → Prop) : Prop := ∃ o1 : Nat, hr_f f r0 8 1 (.ref o1) ∧ ∃ v2 : Int32, hr_f f r0 8 12 (.int v2) ∧ hr_o f o1 5 ∧ wp_X5_mappingOf ki o1 v2 x1 f (fun o4 f3 => ∃ n28, wp_X8_suitsAtom_L17 ki r0 x1 r2 x3 o4 Q (fun f29 => Q 1 f29) n28 0 f3)

set_option maxRecDepth 20000 in
set_option maxHeartbeats 4000000 in
theorem ok_X8_suitsAtom_L17 {x : ac_X} (hro : ac_R x = (ro_ 3 0 0)) (r0 : Nat) (x1 : Int32) (r2 : Nat) (x3 : Int32) (r4 : Nat) (Q : Int32 → ac_hp → Prop) (hR : ac_rt x (some .boolean) (qr_I Q) 0 0) (E134 : ac_hp → Prop) (hE134 : ∀ (f : ac_hp), E134 f → ac_At (prog_4_method_8_code, 10, "VirtualRewrite$Finder") x 0 0 134 [] [] f) : ∀ (n : Nat) (x5 : Int32) (f : ac_hp), wp_X8_suitsAtom_L17 (ac_ki x) r0 x1 r2 x3 r4 Q E134 n x5 f → ac_At (prog_4_method_8_code, 10, "VirtualRewrite$Finder") x 0 0 17 [(0, .ref r0), (1, .int x1), (2, .ref r2), (3, .int x3), (4, .ref r4), (5, .int x5)] [] f := by
  intro n
  induction n with
  | zero => intro _ _ h; exact h.elim
  | succ n ih =>
    intro x5 f h
    rw [wp_X8_suitsAtom_L17] at h
    refine ac_iload 5 d_X8_suitsAtom_17 rfl ?_
    refine ac_iconst (v := 2) d_X8_suitsAtom_19 rfl ?_
    refine ac_icmp_ge (tgt := 134) d_X8_suitsAtom_20 (by decide) (fun hc => ?_) (fun hc => ?_)
    · have h := h.1 hc
      refine ac_weak [] rfl ?_
      exact hE134  f h
    · have h := h.2 hc
      refine ac_aload_n 0 d_X8_suitsAtom_23 rfl rfl ?_
      obtain ⟨o5, hr, h⟩ := h
      refine ak_getf hr fl_X8_40 d_X8_suitsAtom_24 ?_
      refine ac_iload_n 1 d_X8_suitsAtom_27 rfl rfl ?_
      refine ac_iload 5 d_X8_suitsAtom_28 rfl ?_
      obtain ⟨⟨fs, hb⟩, h⟩ := h
      refine ac_callV0 cd_X4_told ml_X8_86 in_X4_told se_X4_told rfl hb (c_X4_told _ _ _ o5 x1 x5 f _ h) rfl rfl (by rw [hro]; decide) rfl (rest := []) rfl (Nat.le_of_ble_eq_true rfl) (by rw [hro]; decide) d_X8_suitsAtom_30 (ac_I (fun v7 f6 h => ?_))
      refine ac_istore (lv' := [(6, .int v7), (0, .ref r0), (1, .int x1), (2, .ref r2), (3, .int x3), (4, .ref r4), (5, .int x5)]) d_X8_suitsAtom_33 (by decide) rfl ?_
      refine ac_aload_n 3 d_X8_suitsAtom_35 rfl rfl ?_
      refine ac_iload_n 4 d_X8_suitsAtom_36 rfl rfl ?_
      refine ac_aload 5 d_X8_suitsAtom_37 rfl ?_
      obtain ⟨o8, hr, h⟩ := h
      refine ak_getf hr fl_X8_110 d_X8_suitsAtom_39 ?_
      refine ac_iload 6 d_X8_suitsAtom_42 rfl ?_
      obtain ⟨v9, hr, h⟩ := h
      refine ak_iald 0 hr rfl d_X8_suitsAtom_44 ?_
      obtain ⟨⟨fs, hb⟩, h⟩ := h
      refine ac_callV0 cd_X2_cell ml_X8_137 in_X2_cell se_X2_cell rfl hb (c_X2_cell _ _ _ r2 x3 v9 f6 _ h) rfl rfl (by rw [hro]; decide) rfl (rest := []) rfl (Nat.le_of_ble_eq_true rfl) (by rw [hro]; decide) d_X8_suitsAtom_45 (ac_I (fun v11 f10 h => ?_))
      refine ac_istore (lv' := [(7, .int v11), (6, .int v7), (0, .ref r0), (1, .int x1), (2, .ref r2), (3, .int x3), (4, .ref r4), (5, .int x5)]) d_X8_suitsAtom_48 (by decide) rfl ?_
      refine ac_iload 1 d_X8_suitsAtom_50 rfl ?_
      refine ac_callSN0 cd_X0_isVariable ml_X8_89 st_X0_isVariable (c_X0_isVariable _ _ _ v7 f10 _ h) rfl rfl (by rw [hro]; decide) rfl (rest := []) rfl (Nat.le_of_ble_eq_true rfl) (by rw [hro]; decide) d_X8_suitsAtom_52 (ac_I (fun v13 f12 h => ?_))
      refine ac_if_ne (tgt := 71) d_X8_suitsAtom_55 (by decide) (fun hc => ?_) (fun hc => ?_)
      · have h := h.1 hc
        refine ac_iload 1 d_X8_suitsAtom_71 rfl ?_
        refine ac_callSN0 cd_X0_variableOf ml_X8_97 st_X0_variableOf (c_X0_variableOf _ _ _ v7 f12 _ h) rfl rfl (by rw [hro]; decide) rfl (rest := []) rfl (Nat.le_of_ble_eq_true rfl) (by rw [hro]; decide) d_X8_suitsAtom_73 (ac_I (fun v15 f14 h => ?_))
        refine ac_istore (lv' := [(8, .int v15), (7, .int v11), (6, .int v7), (0, .ref r0), (1, .int x1), (2, .ref r2), (3, .int x3), (4, .ref r4), (5, .int x5)]) d_X8_suitsAtom_76 (by decide) rfl ?_
        refine ac_aload_n 3 d_X8_suitsAtom_78 rfl rfl ?_
        obtain ⟨o16, hr, h⟩ := h
        refine ak_getf hr fl_X8_18 d_X8_suitsAtom_79 ?_
        refine ac_aload_n 3 d_X8_suitsAtom_82 rfl rfl ?_
        obtain ⟨o17, hr, h⟩ := h
        refine ak_getf hr fl_X8_48 d_X8_suitsAtom_83 ?_
        obtain ⟨o18, hr, h⟩ := h
        refine ak_getf hr fl_X8_83 d_X8_suitsAtom_86 ?_
        refine ac_iload_n 4 d_X8_suitsAtom_89 rfl rfl ?_
        obtain ⟨v19, hr, h⟩ := h
        refine ak_iald 0 hr rfl d_X8_suitsAtom_90 ?_
        refine ac_bipush (v := 6) d_X8_suitsAtom_91 rfl ?_
        refine ac_imul d_X8_suitsAtom_93 ?_
        refine ac_iload 0 d_X8_suitsAtom_94 rfl ?_
        refine ac_iadd d_X8_suitsAtom_96 ?_
        obtain ⟨v20, hr, h⟩ := h
        refine ak_iald 0 hr rfl d_X8_suitsAtom_97 ?_
        refine ac_istore (lv' := [(9, .int v20), (8, .int v15), (7, .int v11), (6, .int v7), (0, .ref r0), (1, .int x1), (2, .ref r2), (3, .int x3), (4, .ref r4), (5, .int x5)]) d_X8_suitsAtom_98 (by decide) rfl ?_
        refine ac_iload 2 d_X8_suitsAtom_100 rfl ?_
        refine ac_aload_n 6 d_X8_suitsAtom_102 rfl rfl ?_
        refine ac_iload_n 7 d_X8_suitsAtom_103 rfl rfl ?_
        refine ac_iload 0 d_X8_suitsAtom_104 rfl ?_
        obtain ⟨⟨fs, hb⟩, h⟩ := h
        refine ac_callV0 cd_X2_cell ml_X8_137 in_X2_cell se_X2_cell rfl hb (c_X2_cell _ _ _ r2 x3 v20 f14 _ h) rfl rfl (by rw [hro]; decide) rfl (rest := [.int v11]) rfl (Nat.le_of_ble_eq_true rfl) (by rw [hro]; decide) d_X8_suitsAtom_106 (ac_I (fun v22 f21 h => ?_))
        refine ac_icmp_ne (tgt := 126) d_X8_suitsAtom_109 (by decide) (fun hc => ?_) (fun hc => ?_)
        · have h := h.1 hc
          refine ac_iconst (v := 0) d_X8_suitsAtom_126 rfl ?_
          exact ac_ireturn hR rfl ⟨_, rfl, h⟩ (by decide) (by decide) d_X8_suitsAtom_127
        · have h := h.2 hc
          refine ac_aload_n 4 d_X8_suitsAtom_112 rfl rfl ?_
          obtain ⟨o23, hr, h⟩ := h
          refine ak_getf hr fl_X8_40 d_X8_suitsAtom_113 ?_
          refine ac_iload 1 d_X8_suitsAtom_116 rfl ?_
          refine ac_iload 2 d_X8_suitsAtom_118 rfl ?_
          obtain ⟨⟨fs, hb⟩, h⟩ := h
          refine ac_callV0 cd_X4_allows ml_X8_140 in_X4_allows se_X4_allows rfl hb (c_X4_allows _ _ _ o23 v15 v11 f21 _ h) rfl rfl (by rw [hro]; decide) rfl (rest := []) rfl (Nat.le_of_ble_eq_true rfl) (by rw [hro]; decide) d_X8_suitsAtom_120 (ac_I (fun v25 f24 h => ?_))
          refine ac_if_ne (tgt := 128) d_X8_suitsAtom_123 (by decide) (fun hc => ?_) (fun hc => ?_)
          · have h := h.1 hc
            obtain ⟨v26, ev26⟩ : ∃ y : Int32, y = x5 + 1 := ⟨_, rfl⟩
            have h := h v26 ev26
            refine ac_iinc (j := 9) (lv' := [(5, .int v26), (9, .int v20), (8, .int v15), (7, .int v11), (6, .int v7), (0, .ref r0), (1, .int x1), (2, .ref r2), (3, .int x3), (4, .ref r4)]) d_X8_suitsAtom_128 rfl (by rw [ev26]; rfl) (by decide) rfl ?_
            refine ac_goto (tgt := 17) d_X8_suitsAtom_131 (by decide) ?_
            refine ac_weak [5, 6, 7, 8, 9, 0] rfl ?_
            exact ih v26 f24 h
          · have h := h.2 hc
            refine ac_iconst (v := 0) d_X8_suitsAtom_126 rfl ?_
            exact ac_ireturn hR rfl ⟨_, rfl, h⟩ (by decide) (by decide) d_X8_suitsAtom_127
      · have h := h.2 hc
        refine ac_iload 1 d_X8_suitsAtom_58 rfl ?_
        refine ac_sipush (v := 10000) d_X8_suitsAtom_60 rfl ?_
        refine ac_irem d_X8_suitsAtom_63 (by decide) ?_
        refine ac_iload 0 d_X8_suitsAtom_64 rfl ?_
        refine ac_icmp_eq (tgt := 128) d_X8_suitsAtom_66 (by decide) (fun hc => ?_) (fun hc => ?_)
        · have h := h.1 hc
          obtain ⟨v27, ev27⟩ : ∃ y : Int32, y = x5 + 1 := ⟨_, rfl⟩
          have h := h v27 ev27
          refine ac_iinc (j := 7) (lv' := [(5, .int v27), (7, .int v11), (6, .int v7), (0, .ref r0), (1, .int x1), (2, .ref r2), (3, .int x3), (4, .ref r4)]) d_X8_suitsAtom_128 rfl (by rw [ev27]; rfl) (by decide) rfl ?_
          refine ac_goto (tgt := 17) d_X8_suitsAtom_131 (by decide) ?_
          refine ac_weak [3, 4, 5, 6, 7, 0] rfl ?_
          exact ih v27 f12 h
        · have h := h.2 hc
          refine ac_iconst (v := 0) d_X8_suitsAtom_69 rfl ?_
          exact ac_ireturn hR rfl ⟨_, rfl, h⟩ (by decide) (by decide) d_X8_suitsAtom_70

set_option maxRecDepth 20000 in
set_option maxHeartbeats 4000000 in
theorem c_X8_suitsAtom (l : Launch) (D : va_G) (ki : Nat → ClassId) (r0 : Nat) (x1 : Int32) (r2 : Nat) (x3 : Int32) (f : ac_hp) (Q : Int32 → ac_hp → Prop) (h : wp_X8_suitsAtom ki r0 x1 r2 x3 f Q) : ac_met l D ki y_X8_suitsAtom prog_4_method_8_code 10 (some .boolean) (ro_ 3 0 0) [.ref r0, .int x1, .ref r2, .int x3] f (qr_I Q) 0 0 := by
  refine ac_enter (fun ki => wp_X8_suitsAtom ki r0 x1 r2 x3 f Q) (by decide) (Nat.le_of_ble_eq_true rfl) h ?_
  intro x hro hR hnm h
  unfold wp_X8_suitsAtom at h
  refine ac_aload_n 0 d_X8_suitsAtom_0 rfl rfl ?_
  obtain ⟨o1, hr, h⟩ := h
  refine ak_getf hr fl_X8_44 d_X8_suitsAtom_1 ?_
  refine ac_aload_n 0 d_X8_suitsAtom_4 rfl rfl ?_
  obtain ⟨v2, hr, h⟩ := h
  refine ak_getf hr fl_X8_36 d_X8_suitsAtom_5 ?_
  refine ac_iload_n 1 d_X8_suitsAtom_8 rfl rfl ?_
  obtain ⟨⟨fs, hb⟩, h⟩ := h
  refine ac_callV0 cd_X5_mappingOf ml_X8_101 in_X5_mappingOf se_X5_mappingOf rfl hb (c_X5_mappingOf _ _ _ o1 v2 x1 f _ h) rfl rfl (by rw [hro]; decide) rfl (rest := []) rfl (Nat.le_of_ble_eq_true rfl) (by rw [hro]; decide) d_X8_suitsAtom_9 (ac_Rf (fun o4 f3 h => ?_))
  refine ac_astore (lv' := [(4, .ref o4), (0, .ref r0), (1, .int x1), (2, .ref r2), (3, .int x3)]) d_X8_suitsAtom_12 (by decide) rfl ?_
  refine ac_iconst (v := 0) d_X8_suitsAtom_14 rfl ?_
  refine ac_istore (lv' := [(5, .int 0), (4, .ref o4), (0, .ref r0), (1, .int x1), (2, .ref r2), (3, .int x3)]) d_X8_suitsAtom_15 (by decide) rfl ?_
  obtain ⟨n28, h⟩ := h
  refine ac_weak [2, 3, 4, 5, 1, 0] rfl ?_
  refine ok_X8_suitsAtom_L17 hro r0 x1 r2 x3 o4 Q hR _ (fun f29 h => ?_) n28 0 f3 h
  · skip
    refine ac_iconst (v := 1) d_X8_suitsAtom_134 rfl ?_
    exact ac_ireturn hR rfl ⟨_, rfl, h⟩ (by decide) (by decide) d_X8_suitsAtom_135

def wp_X8_isTold_L3 (ki : Nat → ClassId) (r0 : Nat) (x1 : Int32) (r2 : Nat) (x3 : Int32) (x4 : Int32) (Q : Int32 → ac_hp → Prop) (E40 : ac_hp → Prop) : Nat → Int32 → ac_hp → Prop
  | 0, _, _ => False
  | n + 1, x5, f => ((x4 ≤ x5 → E40  f) ∧ (¬ x4 ≤ x5 → ∃ o1 : Nat, hr_f f r0 8 7 (.ref o1) ∧ ∃ v2 : Int32, hr_i (ki 0) f o1 ((x1 * 20) + x5) v2 ∧ hr_o f r0 8 ∧ wp_X8_areAlike ki r0 x1 r2 x3 v2 f (fun v4 f3 => ((v4 = 0 → ∀ v5 : Int32, v5 = x5 + 1 → wp_X8_isTold_L3 ki r0 x1 r2 x3 x4 Q E40 n v5 f3) ∧ (¬ v4 = 0 → Q 1 f3)))))

def wp_X8_isTold (ki : Nat → ClassId) (r0 : Nat) (x1 : Int32) (r2 : Nat) (x3 : Int32) (x4 : Int32) (f : ac_hp) (Q : Int32 → ac_hp → Prop) : Prop := ∃ n6, wp_X8_isTold_L3 ki r0 x1 r2 x3 x4 Q (fun f7 => Q 0 f7) n6 0 f

set_option maxRecDepth 20000 in
set_option maxHeartbeats 4000000 in
theorem ok_X8_isTold_L3 {x : ac_X} (hro : ac_R x = (ro_ 3 0 0)) (r0 : Nat) (x1 : Int32) (r2 : Nat) (x3 : Int32) (x4 : Int32) (Q : Int32 → ac_hp → Prop) (hR : ac_rt x (some .boolean) (qr_I Q) 0 0) (E40 : ac_hp → Prop) (hE40 : ∀ (f : ac_hp), E40 f → ac_At (prog_4_method_9_code, 6, "VirtualRewrite$Finder") x 0 0 40 [] [] f) : ∀ (n : Nat) (x5 : Int32) (f : ac_hp), wp_X8_isTold_L3 (ac_ki x) r0 x1 r2 x3 x4 Q E40 n x5 f → ac_At (prog_4_method_9_code, 6, "VirtualRewrite$Finder") x 0 0 3 [(0, .ref r0), (1, .int x1), (2, .ref r2), (3, .int x3), (4, .int x4), (5, .int x5)] [] f := by
  intro n
  induction n with
  | zero => intro _ _ h; exact h.elim
  | succ n ih =>
    intro x5 f h
    rw [wp_X8_isTold_L3] at h
    refine ac_iload 5 d_X8_isTold_3 rfl ?_
    refine ac_iload 4 d_X8_isTold_5 rfl ?_
    refine ac_icmp_ge (tgt := 40) d_X8_isTold_7 (by decide) (fun hc => ?_) (fun hc => ?_)
    · have h := h.1 hc
      refine ac_weak [] rfl ?_
      exact hE40  f h
    · have h := h.2 hc
      refine ac_aload_n 0 d_X8_isTold_10 rfl rfl ?_
      refine ac_iload_n 1 d_X8_isTold_11 rfl rfl ?_
      refine ac_aload_n 2 d_X8_isTold_12 rfl rfl ?_
      refine ac_iload_n 3 d_X8_isTold_13 rfl rfl ?_
      refine ac_aload_n 0 d_X8_isTold_14 rfl rfl ?_
      obtain ⟨o1, hr, h⟩ := h
      refine ak_getf hr fl_X8_21 d_X8_isTold_15 ?_
      refine ac_iload_n 1 d_X8_isTold_18 rfl rfl ?_
      refine ac_bipush (v := 20) d_X8_isTold_19 rfl ?_
      refine ac_imul d_X8_isTold_21 ?_
      refine ac_iload 5 d_X8_isTold_22 rfl ?_
      refine ac_iadd d_X8_isTold_24 ?_
      obtain ⟨v2, hr, h⟩ := h
      refine ak_iald 0 hr rfl d_X8_isTold_25 ?_
      obtain ⟨⟨fs, hb⟩, h⟩ := h
      refine ac_callV0 cd_X8_areAlike ml_X8_144 in_X8_areAlike se_X8_areAlike rfl hb (c_X8_areAlike _ _ _ r0 x1 r2 x3 v2 f _ h) rfl rfl (by rw [hro]; decide) rfl (rest := []) rfl (Nat.le_of_ble_eq_true rfl) (by rw [hro]; decide) d_X8_isTold_26 (ac_I (fun v4 f3 h => ?_))
      refine ac_if_eq (tgt := 34) d_X8_isTold_29 (by decide) (fun hc => ?_) (fun hc => ?_)
      · have h := h.1 hc
        obtain ⟨v5, ev5⟩ : ∃ y : Int32, y = x5 + 1 := ⟨_, rfl⟩
        have h := h v5 ev5
        refine ac_iinc (j := 5) (lv' := [(5, .int v5), (0, .ref r0), (1, .int x1), (2, .ref r2), (3, .int x3), (4, .int x4)]) d_X8_isTold_34 rfl (by rw [ev5]; rfl) (by decide) rfl ?_
        refine ac_goto (tgt := 3) d_X8_isTold_37 (by decide) ?_
        refine ac_weak [1, 2, 3, 4, 5, 0] rfl ?_
        exact ih v5 f3 h
      · have h := h.2 hc
        refine ac_iconst (v := 1) d_X8_isTold_32 rfl ?_
        exact ac_ireturn hR rfl ⟨_, rfl, h⟩ (by decide) (by decide) d_X8_isTold_33

set_option maxRecDepth 20000 in
set_option maxHeartbeats 4000000 in
theorem c_X8_isTold (l : Launch) (D : va_G) (ki : Nat → ClassId) (r0 : Nat) (x1 : Int32) (r2 : Nat) (x3 : Int32) (x4 : Int32) (f : ac_hp) (Q : Int32 → ac_hp → Prop) (h : wp_X8_isTold ki r0 x1 r2 x3 x4 f Q) : ac_met l D ki y_X8_isTold prog_4_method_9_code 6 (some .boolean) (ro_ 3 0 0) [.ref r0, .int x1, .ref r2, .int x3, .int x4] f (qr_I Q) 0 0 := by
  refine ac_enter (fun ki => wp_X8_isTold ki r0 x1 r2 x3 x4 f Q) (by decide) (Nat.le_of_ble_eq_true rfl) h ?_
  intro x hro hR hnm h
  unfold wp_X8_isTold at h
  refine ac_iconst (v := 0) d_X8_isTold_0 rfl ?_
  refine ac_istore (lv' := [(5, .int 0), (0, .ref r0), (1, .int x1), (2, .ref r2), (3, .int x3), (4, .int x4)]) d_X8_isTold_1 (by decide) rfl ?_
  obtain ⟨n6, h⟩ := h
  refine ac_weak [1, 2, 3, 4, 5, 0] rfl ?_
  refine ok_X8_isTold_L3 hro r0 x1 r2 x3 x4 Q hR _ (fun f7 h => ?_) n6 0 f h
  · skip
    refine ac_iconst (v := 0) d_X8_isTold_40 rfl ?_
    exact ac_ireturn hR rfl ⟨_, rfl, h⟩ (by decide) (by decide) d_X8_isTold_41

def wp_X8_orderSlots_L2 (ki : Nat → ClassId) (r0 : Nat) (E26 : ac_hp → Prop) : Nat → Int32 → ac_hp → Prop
  | 0, _, _ => False
  | n + 1, x1, f => ∃ o1 : Nat, hr_f f r0 8 2 (.ref o1) ∧ ∃ v2 : Int32, hr_f f o1 6 4 (.int v2) ∧ ((v2 ≤ x1 → E26  f) ∧ (¬ v2 ≤ x1 → ∃ o3 : Nat, hr_f f r0 8 9 (.ref o3) ∧ ∃ f4, hw_i (ki 0) f o3 x1 x1 f4 ∧ ∀ v5 : Int32, v5 = x1 + 1 → wp_X8_orderSlots_L2 ki r0 E26 n v5 f4))

def wp_X8_orderSlots_L48 (ki : Nat → ClassId) (r0 : Nat) (x1 : Int32) (x2 : Int32) (E90 : Int32 → ac_hp → Prop) : Nat → Int32 → Int32 → ac_hp → Prop
  | 0, _, _, _ => False
  | n + 1, x3, x4, f => ∃ o11 : Nat, hr_f f r0 8 2 (.ref o11) ∧ ∃ v12 : Int32, hr_f f o11 6 4 (.int v12) ∧ ((v12 ≤ x4 → E90 x3 f) ∧ (¬ v12 ≤ x4 → ∃ o13 : Nat, hr_f f r0 8 9 (.ref o13) ∧ ∃ v14 : Int32, hr_i (ki 0) f o13 x4 v14 ∧ ∃ o15 : Nat, hr_f f r0 8 9 (.ref o15) ∧ ∃ v16 : Int32, hr_i (ki 0) f o15 x3 v16 ∧ hr_o f r0 8 ∧ wp_X8_isBetter ki r0 v14 v16 x1 f (fun v18 f17 => ((v18 = 0 → ∀ v19 : Int32, v19 = x4 + 1 → wp_X8_orderSlots_L48 ki r0 x1 x2 E90 n x3 v19 f17) ∧ (¬ v18 = 0 → ∀ v20 : Int32, v20 = x4 + 1 → wp_X8_orderSlots_L48 ki r0 x1 x2 E90 n x4 v20 f17)))))

def wp_X8_orderSlots_L30 (ki : Nat → ClassId) (r0 : Nat) (E134 : ac_hp → Prop) : Nat → Int32 → Int32 → ac_hp → Prop
  | 0, _, _, _ => False
  | n + 1, x1, x2, f => ∃ o8 : Nat, hr_f f r0 8 2 (.ref o8) ∧ ∃ v9 : Int32, hr_f f o8 6 4 (.int v9) ∧ ((v9 ≤ x2 → E134  f) ∧ (¬ v9 ≤ x2 → ∀ v10 : Int32, v10 = x2 + 1 → ∃ n21, wp_X8_orderSlots_L48 ki r0 x1 x2 (fun y22 f23 => ∃ o24 : Nat, hr_f f23 r0 8 9 (.ref o24) ∧ ∃ v25 : Int32, hr_i (ki 0) f23 o24 y22 v25 ∧ ∃ o26 : Nat, hr_f f23 r0 8 9 (.ref o26) ∧ ∃ o27 : Nat, hr_f f23 r0 8 9 (.ref o27) ∧ ∃ v28 : Int32, hr_i (ki 0) f23 o27 x2 v28 ∧ ∃ f29, hw_i (ki 0) f23 o26 y22 v28 f29 ∧ ∃ o30 : Nat, hr_f f29 r0 8 9 (.ref o30) ∧ ∃ f31, hw_i (ki 0) f29 o30 x2 v25 f31 ∧ ∃ o32 : Nat, hr_f f31 r0 8 5 (.ref o32) ∧ ∃ v33 : Int32, hr_i (ki 0) f31 o32 v25 v33 ∧ ∀ v34 : Int32, v34 = x1 ||| v33 → ∀ v35 : Int32, v35 = x2 + 1 → wp_X8_orderSlots_L30 ki r0 E134 n v34 v35 f31) n21 x2 v10 f))

def wp_X8_orderSlots (ki : Nat → ClassId) (r0 : Nat) (f : ac_hp) (Q : ac_hp → Prop) : Prop := ∃ n6, wp_X8_orderSlots_L2 ki r0 (fun f7 => ∃ n36, wp_X8_orderSlots_L30 ki r0 (fun f37 => Q f37) n36 0 0 f7) n6 0 f

set_option maxRecDepth 20000 in
set_option maxHeartbeats 4000000 in
theorem ok_X8_orderSlots_L2 {x : ac_X} (hro : ac_R x = (ro_ 3 0 0)) (r0 : Nat) (E26 : ac_hp → Prop) (hE26 : ∀ (f : ac_hp), E26 f → ac_At (prog_4_method_11_code, 5, "VirtualRewrite$Finder") x 0 0 26 [(0, .ref r0)] [] f) : ∀ (n : Nat) (x1 : Int32) (f : ac_hp), wp_X8_orderSlots_L2 (ac_ki x) r0 E26 n x1 f → ac_At (prog_4_method_11_code, 5, "VirtualRewrite$Finder") x 0 0 2 [(0, .ref r0), (1, .int x1)] [] f := by
  intro n
  induction n with
  | zero => intro _ _ h; exact h.elim
  | succ n ih =>
    intro x1 f h
    rw [wp_X8_orderSlots_L2] at h
    refine ac_iload_n 1 d_X8_orderSlots_2 rfl rfl ?_
    refine ac_aload_n 0 d_X8_orderSlots_3 rfl rfl ?_
    obtain ⟨o1, hr, h⟩ := h
    refine ak_getf hr fl_X8_48 d_X8_orderSlots_4 ?_
    obtain ⟨v2, hr, h⟩ := h
    refine ak_getf hr fl_X8_65 d_X8_orderSlots_7 ?_
    refine ac_icmp_ge (tgt := 26) d_X8_orderSlots_10 (by decide) (fun hc => ?_) (fun hc => ?_)
    · have h := h.1 hc
      refine ac_weak [0] rfl ?_
      exact hE26  f h
    · have h := h.2 hc
      refine ac_aload_n 0 d_X8_orderSlots_13 rfl rfl ?_
      obtain ⟨o3, hr, h⟩ := h
      refine ak_getf hr fl_X8_27 d_X8_orderSlots_14 ?_
      refine ac_iload_n 1 d_X8_orderSlots_17 rfl rfl ?_
      refine ac_iload_n 1 d_X8_orderSlots_18 rfl rfl ?_
      obtain ⟨f4, hr, h⟩ := h
      refine ak_iast 0 hr rfl d_X8_orderSlots_19 ?_
      obtain ⟨v5, ev5⟩ : ∃ y : Int32, y = x1 + 1 := ⟨_, rfl⟩
      have h := h v5 ev5
      refine ac_iinc (j := 1) (lv' := [(1, .int v5), (0, .ref r0)]) d_X8_orderSlots_20 rfl (by rw [ev5]; rfl) (by decide) rfl ?_
      refine ac_goto (tgt := 2) d_X8_orderSlots_23 (by decide) ?_
      refine ac_weak [1, 0] rfl ?_
      exact ih v5 f4 h

set_option maxRecDepth 20000 in
set_option maxHeartbeats 4000000 in
theorem ok_X8_orderSlots_L48 {x : ac_X} (hro : ac_R x = (ro_ 3 0 0)) (r0 : Nat) (x1 : Int32) (x2 : Int32) (E90 : Int32 → ac_hp → Prop) (hE90 : ∀ (y3 : Int32) (f : ac_hp), E90 y3 f → ac_At (prog_4_method_11_code, 5, "VirtualRewrite$Finder") x 0 0 90 [(0, .ref r0), (1, .int x1), (2, .int x2), (3, .int y3)] [] f) : ∀ (n : Nat) (x3 : Int32) (x4 : Int32) (f : ac_hp), wp_X8_orderSlots_L48 (ac_ki x) r0 x1 x2 E90 n x3 x4 f → ac_At (prog_4_method_11_code, 5, "VirtualRewrite$Finder") x 0 0 48 [(0, .ref r0), (1, .int x1), (2, .int x2), (3, .int x3), (4, .int x4)] [] f := by
  intro n
  induction n with
  | zero => intro _ _ _ h; exact h.elim
  | succ n ih =>
    intro x3 x4 f h
    rw [wp_X8_orderSlots_L48] at h
    refine ac_iload 4 d_X8_orderSlots_48 rfl ?_
    refine ac_aload_n 0 d_X8_orderSlots_50 rfl rfl ?_
    obtain ⟨o11, hr, h⟩ := h
    refine ak_getf hr fl_X8_48 d_X8_orderSlots_51 ?_
    obtain ⟨v12, hr, h⟩ := h
    refine ak_getf hr fl_X8_65 d_X8_orderSlots_54 ?_
    refine ac_icmp_ge (tgt := 90) d_X8_orderSlots_57 (by decide) (fun hc => ?_) (fun hc => ?_)
    · have h := h.1 hc
      refine ac_weak [0, 1, 2, 3] rfl ?_
      exact hE90 x3 f h
    · have h := h.2 hc
      refine ac_aload_n 0 d_X8_orderSlots_60 rfl rfl ?_
      refine ac_aload_n 0 d_X8_orderSlots_61 rfl rfl ?_
      obtain ⟨o13, hr, h⟩ := h
      refine ak_getf hr fl_X8_27 d_X8_orderSlots_62 ?_
      refine ac_iload 4 d_X8_orderSlots_65 rfl ?_
      obtain ⟨v14, hr, h⟩ := h
      refine ak_iald 0 hr rfl d_X8_orderSlots_67 ?_
      refine ac_aload_n 0 d_X8_orderSlots_68 rfl rfl ?_
      obtain ⟨o15, hr, h⟩ := h
      refine ak_getf hr fl_X8_27 d_X8_orderSlots_69 ?_
      refine ac_iload_n 3 d_X8_orderSlots_72 rfl rfl ?_
      obtain ⟨v16, hr, h⟩ := h
      refine ak_iald 0 hr rfl d_X8_orderSlots_73 ?_
      refine ac_iload_n 1 d_X8_orderSlots_74 rfl rfl ?_
      obtain ⟨⟨fs, hb⟩, h⟩ := h
      refine ac_callV0 cd_X8_isBetter ml_X8_147 in_X8_isBetter se_X8_isBetter rfl hb (c_X8_isBetter _ _ _ r0 v14 v16 x1 f _ h) rfl rfl (by rw [hro]; decide) rfl (rest := []) rfl (Nat.le_of_ble_eq_true rfl) (by rw [hro]; decide) d_X8_orderSlots_75 (ac_I (fun v18 f17 h => ?_))
      refine ac_if_eq (tgt := 84) d_X8_orderSlots_78 (by decide) (fun hc => ?_) (fun hc => ?_)
      · have h := h.1 hc
        obtain ⟨v19, ev19⟩ : ∃ y : Int32, y = x4 + 1 := ⟨_, rfl⟩
        have h := h v19 ev19
        refine ac_iinc (j := 4) (lv' := [(4, .int v19), (0, .ref r0), (1, .int x1), (2, .int x2), (3, .int x3)]) d_X8_orderSlots_84 rfl (by rw [ev19]; rfl) (by decide) rfl ?_
        refine ac_goto (tgt := 48) d_X8_orderSlots_87 (by decide) ?_
        refine ac_weak [1, 2, 3, 4, 0] rfl ?_
        exact ih x3 v19 f17 h
      · have h := h.2 hc
        refine ac_iload 4 d_X8_orderSlots_81 rfl ?_
        refine ac_istore_n (lv' := [(3, .int x4), (0, .ref r0), (1, .int x1), (2, .int x2), (4, .int x4)]) d_X8_orderSlots_83 rfl (by decide) rfl ?_
        obtain ⟨v20, ev20⟩ : ∃ y : Int32, y = x4 + 1 := ⟨_, rfl⟩
        have h := h v20 ev20
        refine ac_iinc (j := 4) (lv' := [(4, .int v20), (3, .int x4), (0, .ref r0), (1, .int x1), (2, .int x2)]) d_X8_orderSlots_84 rfl (by rw [ev20]; rfl) (by decide) rfl ?_
        refine ac_goto (tgt := 48) d_X8_orderSlots_87 (by decide) ?_
        refine ac_weak [2, 3, 4, 1, 0] rfl ?_
        exact ih x4 v20 f17 h

set_option maxRecDepth 20000 in
set_option maxHeartbeats 4000000 in
theorem ok_X8_orderSlots_L30 {x : ac_X} (hro : ac_R x = (ro_ 3 0 0)) (r0 : Nat) (E134 : ac_hp → Prop) (hE134 : ∀ (f : ac_hp), E134 f → ac_At (prog_4_method_11_code, 5, "VirtualRewrite$Finder") x 0 0 134 [] [] f) : ∀ (n : Nat) (x1 : Int32) (x2 : Int32) (f : ac_hp), wp_X8_orderSlots_L30 (ac_ki x) r0 E134 n x1 x2 f → ac_At (prog_4_method_11_code, 5, "VirtualRewrite$Finder") x 0 0 30 [(0, .ref r0), (1, .int x1), (2, .int x2)] [] f := by
  intro n
  induction n with
  | zero => intro _ _ _ h; exact h.elim
  | succ n ih =>
    intro x1 x2 f h
    rw [wp_X8_orderSlots_L30] at h
    refine ac_iload_n 2 d_X8_orderSlots_30 rfl rfl ?_
    refine ac_aload_n 0 d_X8_orderSlots_31 rfl rfl ?_
    obtain ⟨o8, hr, h⟩ := h
    refine ak_getf hr fl_X8_48 d_X8_orderSlots_32 ?_
    obtain ⟨v9, hr, h⟩ := h
    refine ak_getf hr fl_X8_65 d_X8_orderSlots_35 ?_
    refine ac_icmp_ge (tgt := 134) d_X8_orderSlots_38 (by decide) (fun hc => ?_) (fun hc => ?_)
    · have h := h.1 hc
      refine ac_weak [] rfl ?_
      exact hE134  f h
    · have h := h.2 hc
      refine ac_iload_n 2 d_X8_orderSlots_41 rfl rfl ?_
      refine ac_istore_n (lv' := [(3, .int x2), (0, .ref r0), (1, .int x1), (2, .int x2)]) d_X8_orderSlots_42 rfl (by decide) rfl ?_
      refine ac_iload_n 3 d_X8_orderSlots_43 rfl rfl ?_
      refine ac_iconst (v := 1) d_X8_orderSlots_44 rfl ?_
      refine ac_iadd d_X8_orderSlots_45 ?_
      refine ak_topi (fun v10 ev10 => ?_)
      have h := h v10 ev10
      refine ac_istore (lv' := [(4, .int v10), (3, .int x2), (0, .ref r0), (1, .int x1), (2, .int x2)]) d_X8_orderSlots_46 (by decide) rfl ?_
      obtain ⟨n21, h⟩ := h
      refine ac_weak [2, 3, 4, 1, 0] rfl ?_
      refine ok_X8_orderSlots_L48 hro r0 x1 x2 _ (fun y22 f23 h => ?_) n21 x2 v10 f h
      · skip
        refine ac_aload_n 0 d_X8_orderSlots_90 rfl rfl ?_
        obtain ⟨o24, hr, h⟩ := h
        refine ak_getf hr fl_X8_27 d_X8_orderSlots_91 ?_
        refine ac_iload_n 3 d_X8_orderSlots_94 rfl rfl ?_
        obtain ⟨v25, hr, h⟩ := h
        refine ak_iald 0 hr rfl d_X8_orderSlots_95 ?_
        refine ac_istore (lv' := [(4, .int v25), (0, .ref r0), (1, .int x1), (2, .int x2), (3, .int y22)]) d_X8_orderSlots_96 (by decide) rfl ?_
        refine ac_aload_n 1 d_X8_orderSlots_98 rfl rfl ?_
        obtain ⟨o26, hr, h⟩ := h
        refine ak_getf hr fl_X8_27 d_X8_orderSlots_99 ?_
        refine ac_iload_n 4 d_X8_orderSlots_102 rfl rfl ?_
        refine ac_aload_n 1 d_X8_orderSlots_103 rfl rfl ?_
        obtain ⟨o27, hr, h⟩ := h
        refine ak_getf hr fl_X8_27 d_X8_orderSlots_104 ?_
        refine ac_iload_n 3 d_X8_orderSlots_107 rfl rfl ?_
        obtain ⟨v28, hr, h⟩ := h
        refine ak_iald 0 hr rfl d_X8_orderSlots_108 ?_
        obtain ⟨f29, hr, h⟩ := h
        refine ak_iast 0 hr rfl d_X8_orderSlots_109 ?_
        refine ac_aload_n 1 d_X8_orderSlots_110 rfl rfl ?_
        obtain ⟨o30, hr, h⟩ := h
        refine ak_getf hr fl_X8_27 d_X8_orderSlots_111 ?_
        refine ac_iload_n 3 d_X8_orderSlots_114 rfl rfl ?_
        refine ac_iload 0 d_X8_orderSlots_115 rfl ?_
        obtain ⟨f31, hr, h⟩ := h
        refine ak_iast 0 hr rfl d_X8_orderSlots_117 ?_
        refine ac_iload_n 2 d_X8_orderSlots_118 rfl rfl ?_
        refine ac_aload_n 1 d_X8_orderSlots_119 rfl rfl ?_
        obtain ⟨o32, hr, h⟩ := h
        refine ak_getf hr fl_X8_15 d_X8_orderSlots_120 ?_
        refine ac_iload 0 d_X8_orderSlots_123 rfl ?_
        obtain ⟨v33, hr, h⟩ := h
        refine ak_iald 0 hr rfl d_X8_orderSlots_125 ?_
        refine ac_ior d_X8_orderSlots_126 ?_
        refine ak_topi (fun v34 ev34 => ?_)
        have h := h v34 ev34
        refine ac_istore_n (lv' := [(1, .int v34), (4, .int v25), (0, .ref r0), (2, .int x2), (3, .int y22)]) d_X8_orderSlots_127 rfl (by decide) rfl ?_
        obtain ⟨v35, ev35⟩ : ∃ y : Int32, y = x2 + 1 := ⟨_, rfl⟩
        have h := h v35 ev35
        refine ac_iinc (j := 3) (lv' := [(2, .int v35), (1, .int v34), (4, .int v25), (0, .ref r0), (3, .int y22)]) d_X8_orderSlots_128 rfl (by rw [ev35]; rfl) (by decide) rfl ?_
        refine ac_goto (tgt := 30) d_X8_orderSlots_131 (by decide) ?_
        refine ac_weak [3, 1, 0] rfl ?_
        exact ih v34 v35 f31 h

set_option maxRecDepth 20000 in
set_option maxHeartbeats 4000000 in
theorem c_X8_orderSlots (l : Launch) (D : va_G) (ki : Nat → ClassId) (r0 : Nat) (f : ac_hp) (Q : ac_hp → Prop) (h : wp_X8_orderSlots ki r0 f Q) : ac_met l D ki y_X8_orderSlots prog_4_method_11_code 5 none (ro_ 3 0 0) [.ref r0] f (qr_V Q) 0 0 := by
  refine ac_enter (fun ki => wp_X8_orderSlots ki r0 f Q) (by decide) (Nat.le_of_ble_eq_true rfl) h ?_
  intro x hro hR hnm h
  unfold wp_X8_orderSlots at h
  refine ac_iconst (v := 0) d_X8_orderSlots_0 rfl ?_
  refine ac_istore_n (lv' := [(1, .int 0), (0, .ref r0)]) d_X8_orderSlots_1 rfl (by decide) rfl ?_
  obtain ⟨n6, h⟩ := h
  refine ac_weak [1, 0] rfl ?_
  refine ok_X8_orderSlots_L2 hro r0 _ (fun f7 h => ?_) n6 0 f h
  · skip
    refine ac_iconst (v := 0) d_X8_orderSlots_26 rfl ?_
    refine ac_istore_n (lv' := [(1, .int 0), (0, .ref r0)]) d_X8_orderSlots_27 rfl (by decide) rfl ?_
    refine ac_iconst (v := 0) d_X8_orderSlots_28 rfl ?_
    refine ac_istore_n (lv' := [(2, .int 0), (1, .int 0), (0, .ref r0)]) d_X8_orderSlots_29 rfl (by decide) rfl ?_
    obtain ⟨n36, h⟩ := h
    refine ac_weak [2, 1, 0] rfl ?_
    refine ok_X8_orderSlots_L30 hro r0 _ (fun f37 h => ?_) n36 0 0 f7 h
    · skip
      exact ac_vreturn hR ⟨rfl, h⟩ (by decide) (by decide) d_X8_orderSlots_134
end
section
def wp_X7_firstNotBefore_L7 (ki : Nat → ClassId) (r0 : Nat) (r1 : Nat) (E43 : Int32 → ac_hp → Prop) : Nat → Int32 → Int32 → ac_hp → Prop
  | 0, _, _, _ => False
  | n + 1, x2, x3, f => ((x3 ≤ x2 → E43 x2 f) ∧ (¬ x3 ≤ x2 → ∀ v2 : Int32, v2 = ((x2 + x3).toUInt32 >>> ((1 : Int32).toUInt32 &&& Int32.toUInt32 31)).toInt32 → hr_o f r0 7 ∧ wp_X7_compare ki r0 v2 r1 f (fun v4 f3 => ((0 ≤ v4 → wp_X7_firstNotBefore_L7 ki r0 r1 E43 n x2 v2 f3) ∧ (¬ 0 ≤ v4 → ∀ v5 : Int32, v5 = v2 + 1 → wp_X7_firstNotBefore_L7 ki r0 r1 E43 n v5 x3 f3)))))

def wp_X7_firstNotBefore (ki : Nat → ClassId) (r0 : Nat) (r1 : Nat) (f : ac_hp) (Q : Int32 → ac_hp → Prop) : Prop := ∃ v1 : Int32, hr_f f r0 7 4 (.int v1) ∧ ∃ n6, wp_X7_firstNotBefore_L7 ki r0 r1 (fun y7 f8 => Q y7 f8) n6 0 v1 f

set_option maxRecDepth 20000 in
set_option maxHeartbeats 4000000 in
theorem ok_X7_firstNotBefore_L7 {x : ac_X} (hro : ac_R x = (ro_ 3 0 0)) (r0 : Nat) (r1 : Nat) (E43 : Int32 → ac_hp → Prop) (hE43 : ∀ (y2 : Int32) (f : ac_hp), E43 y2 f → ac_At (prog_2_method_8_code, 5, "VirtualRewrite$Answers") x 0 0 43 [(2, .int y2)] [] f) : ∀ (n : Nat) (x2 : Int32) (x3 : Int32) (f : ac_hp), wp_X7_firstNotBefore_L7 (ac_ki x) r0 r1 E43 n x2 x3 f → ac_At (prog_2_method_8_code, 5, "VirtualRewrite$Answers") x 0 0 7 [(0, .ref r0), (1, .ref r1), (2, .int x2), (3, .int x3)] [] f := by
  intro n
  induction n with
  | zero => intro _ _ _ h; exact h.elim
  | succ n ih =>
    intro x2 x3 f h
    rw [wp_X7_firstNotBefore_L7] at h
    refine ac_iload_n 2 d_X7_firstNotBefore_7 rfl rfl ?_
    refine ac_iload_n 3 d_X7_firstNotBefore_8 rfl rfl ?_
    refine ac_icmp_ge (tgt := 43) d_X7_firstNotBefore_9 (by decide) (fun hc => ?_) (fun hc => ?_)
    · have h := h.1 hc
      refine ac_weak [2] rfl ?_
      exact hE43 x2 f h
    · have h := h.2 hc
      refine ac_iload_n 2 d_X7_firstNotBefore_12 rfl rfl ?_
      refine ac_iload_n 3 d_X7_firstNotBefore_13 rfl rfl ?_
      refine ac_iadd d_X7_firstNotBefore_14 ?_
      refine ac_iconst (v := 1) d_X7_firstNotBefore_15 rfl ?_
      refine ac_iushr d_X7_firstNotBefore_16 ?_
      refine ak_topi (fun v2 ev2 => ?_)
      have h := h v2 ev2
      refine ac_istore (lv' := [(4, .int v2), (0, .ref r0), (1, .ref r1), (2, .int x2), (3, .int x3)]) d_X7_firstNotBefore_17 (by decide) rfl ?_
      refine ac_aload_n 1 d_X7_firstNotBefore_19 rfl rfl ?_
      refine ac_iload 0 d_X7_firstNotBefore_20 rfl ?_
      refine ac_aload_n 2 d_X7_firstNotBefore_22 rfl rfl ?_
      obtain ⟨⟨fs, hb⟩, h⟩ := h
      refine ac_callV0 cd_X7_compare ml_X7_39 in_X7_compare se_X7_compare rfl hb (c_X7_compare _ _ _ r0 v2 r1 f _ h) rfl rfl (by rw [hro]; decide) rfl (rest := []) rfl (Nat.le_of_ble_eq_true rfl) (by rw [hro]; decide) d_X7_firstNotBefore_23 (ac_I (fun v4 f3 h => ?_))
      refine ac_if_ge (tgt := 37) d_X7_firstNotBefore_26 (by decide) (fun hc => ?_) (fun hc => ?_)
      · have h := h.1 hc
        refine ac_iload 0 d_X7_firstNotBefore_37 rfl ?_
        refine ac_istore_n (lv' := [(3, .int v2), (4, .int v2), (0, .ref r0), (1, .ref r1), (2, .int x2)]) d_X7_firstNotBefore_39 rfl (by decide) rfl ?_
        refine ac_goto (tgt := 7) d_X7_firstNotBefore_40 (by decide) ?_
        refine ac_weak [2, 3, 4, 0] rfl ?_
        exact ih x2 v2 f3 h
      · have h := h.2 hc
        refine ac_iload 0 d_X7_firstNotBefore_29 rfl ?_
        refine ac_iconst (v := 1) d_X7_firstNotBefore_31 rfl ?_
        refine ac_iadd d_X7_firstNotBefore_32 ?_
        refine ak_topi (fun v5 ev5 => ?_)
        have h := h v5 ev5
        refine ac_istore_n (lv' := [(2, .int v5), (4, .int v2), (0, .ref r0), (1, .ref r1), (3, .int x3)]) d_X7_firstNotBefore_33 rfl (by decide) rfl ?_
        refine ac_goto (tgt := 40) d_X7_firstNotBefore_34 (by decide) ?_
        refine ac_goto (tgt := 7) d_X7_firstNotBefore_40 (by decide) ?_
        refine ac_weak [2, 3, 0, 4] rfl ?_
        exact ih v5 x3 f3 h

set_option maxRecDepth 20000 in
set_option maxHeartbeats 4000000 in
theorem c_X7_firstNotBefore (l : Launch) (D : va_G) (ki : Nat → ClassId) (r0 : Nat) (r1 : Nat) (f : ac_hp) (Q : Int32 → ac_hp → Prop) (h : wp_X7_firstNotBefore ki r0 r1 f Q) : ac_met l D ki y_X7_firstNotBefore prog_2_method_8_code 5 (some .int) (ro_ 3 0 0) [.ref r0, .ref r1] f (qr_I Q) 0 0 := by
  refine ac_enter (fun ki => wp_X7_firstNotBefore ki r0 r1 f Q) (by decide) (Nat.le_of_ble_eq_true rfl) h ?_
  intro x hro hR hnm h
  unfold wp_X7_firstNotBefore at h
  refine ac_iconst (v := 0) d_X7_firstNotBefore_0 rfl ?_
  refine ac_istore_n (lv' := [(2, .int 0), (0, .ref r0), (1, .ref r1)]) d_X7_firstNotBefore_1 rfl (by decide) rfl ?_
  refine ac_aload_n 1 d_X7_firstNotBefore_2 rfl rfl ?_
  obtain ⟨v1, hr, h⟩ := h
  refine ak_getf hr fl_X7_24 d_X7_firstNotBefore_3 ?_
  refine ac_istore_n (lv' := [(3, .int v1), (2, .int 0), (0, .ref r0), (1, .ref r1)]) d_X7_firstNotBefore_6 rfl (by decide) rfl ?_
  obtain ⟨n6, h⟩ := h
  refine ac_weak [2, 3, 1, 0] rfl ?_
  refine ok_X7_firstNotBefore_L7 hro r0 r1 _ (fun y7 f8 h => ?_) n6 0 v1 f h
  · skip
    refine ac_iload_n 0 d_X7_firstNotBefore_43 rfl rfl ?_
    exact ac_ireturn hR rfl ⟨_, rfl, h⟩ (by decide) (by decide) d_X7_firstNotBefore_44

def wp_X0_key (ki : Nat → ClassId) (r0 : Nat) (x1 : Int32) (x2 : Int32) (x3 : Int32) (f : ac_hp) (Q : Int32 → ac_hp → Prop) : Prop := wp_X0_isBelow ki x1 4 f (fun v2 f1 => ((v2 = 0 → Q (-1) f1) ∧ (¬ v2 = 0 → wp_X0_isBelow ki x2 3 f1 (fun v4 f3 => ((¬ v4 = 0 → ∃ o5 : Nat, hr_f f3 r0 0 0 (.ref o5) ∧ ∃ o6 : Nat, hr_f f3 o5 1 0 (.ref o6) ∧ ∃ o7 : Nat, hr_q (ki 3) f3 o6 x1 o7 ∧ ∃ o8 : Nat, hr_f f3 o7 2 1 (.ref o8) ∧ ∃ v9 : Int32, hr_i (ki 1) f3 o8 x2 v9 ∧ ((¬ v9 = x3 → ((x3 = 0 → ∃ o10 : Nat, hr_f f3 o7 2 1 (.ref o10) ∧ ∃ f11, hw_i (ki 1) f3 o10 x2 (vp_nar .boolean x3) f11 ∧ Q 1 f11) ∧ (¬ x3 = 0 → hr_o f3 o7 2 ∧ wp_X2_repeats ki o7 x2 f3 (fun v13 f12 => ((v13 = 0 → ∃ o14 : Nat, hr_f f12 o7 2 1 (.ref o14) ∧ ∃ f15, hw_i (ki 1) f12 o14 x2 (vp_nar .boolean x3) f15 ∧ Q 1 f15) ∧ (¬ v13 = 0 → Q (-4) f12)))))) ∧ (v9 = x3 → Q 0 f3))) ∧ (v4 = 0 → Q (-1) f3))))))

set_option maxRecDepth 20000 in
set_option maxHeartbeats 4000000 in
theorem c_X0_key (l : Launch) (D : va_G) (ki : Nat → ClassId) (r0 : Nat) (x1 : Int32) (x2 : Int32) (x3 : Int32) (f : ac_hp) (Q : Int32 → ac_hp → Prop) (h : wp_X0_key ki r0 x1 x2 x3 f Q) : ac_met l D ki y_X0_key prog_1_method_2_code 5 (some .int) (ro_ 4 0 0) [.ref r0, .int x1, .int x2, .int x3] f (qr_I Q) 0 0 := by
  refine ac_enter (fun ki => wp_X0_key ki r0 x1 x2 x3 f Q) (by decide) (Nat.le_of_ble_eq_true rfl) h ?_
  intro x hro hR hnm h
  unfold wp_X0_key at h
  refine ac_iload_n 1 d_X0_key_0 rfl rfl ?_
  refine ac_iconst (v := 4) d_X0_key_1 rfl ?_
  refine ac_callS0 cd_X0_isBelow ml_X0_57 st_X0_isBelow (c_X0_isBelow _ _ _ x1 4 f _ h) rfl rfl (by rw [hro]; decide) rfl (rest := []) rfl (Nat.le_of_ble_eq_true rfl) (by rw [hro]; decide) d_X0_key_2 (ac_I (fun v2 f1 h => ?_))
  refine ac_if_eq (tgt := 16) d_X0_key_5 (by decide) (fun hc => ?_) (fun hc => ?_)
  · have h := h.1 hc
    refine ac_iconst (v := -1) d_X0_key_16 rfl ?_
    exact ac_ireturn hR rfl ⟨_, rfl, h⟩ (by decide) (by decide) d_X0_key_17
  · have h := h.2 hc
    refine ac_iload_n 2 d_X0_key_8 rfl rfl ?_
    refine ac_iconst (v := 3) d_X0_key_9 rfl ?_
    refine ac_callS0 cd_X0_isBelow ml_X0_57 st_X0_isBelow (c_X0_isBelow _ _ _ x2 3 f1 _ h) rfl rfl (by rw [hro]; decide) rfl (rest := []) rfl (Nat.le_of_ble_eq_true rfl) (by rw [hro]; decide) d_X0_key_10 (ac_I (fun v4 f3 h => ?_))
    refine ac_if_ne (tgt := 18) d_X0_key_13 (by decide) (fun hc => ?_) (fun hc => ?_)
    · have h := h.1 hc
      refine ac_aload_n 0 d_X0_key_18 rfl rfl ?_
      obtain ⟨o5, hr, h⟩ := h
      refine ak_getf hr fl_X0_12 d_X0_key_19 ?_
      obtain ⟨o6, hr, h⟩ := h
      refine ak_getf hr fl_X0_61 d_X0_key_22 ?_
      refine ac_iload_n 1 d_X0_key_25 rfl rfl ?_
      obtain ⟨o7, hr, h⟩ := h
      refine ak_aald 3 hr rfl d_X0_key_26 ?_
      refine ac_astore (lv' := [(4, .ref o7), (0, .ref r0), (1, .int x1), (2, .int x2), (3, .int x3)]) d_X0_key_27 (by decide) rfl ?_
      refine ac_aload 0 d_X0_key_29 rfl ?_
      obtain ⟨o8, hr, h⟩ := h
      refine ak_getf hr fl_X0_65 d_X0_key_31 ?_
      refine ac_iload_n 3 d_X0_key_34 rfl rfl ?_
      obtain ⟨v9, hr, h⟩ := h
      refine ak_zald 1 hr rfl d_X0_key_35 ?_
      refine ac_iload_n 4 d_X0_key_36 rfl rfl ?_
      refine ac_icmp_ne (tgt := 42) d_X0_key_37 (by decide) (fun hc => ?_) (fun hc => ?_)
      · have h := h.1 hc
        refine ac_iload_n 4 d_X0_key_42 rfl rfl ?_
        refine ac_if_eq (tgt := 58) d_X0_key_43 (by decide) (fun hc => ?_) (fun hc => ?_)
        · have h := h.1 hc
          refine ac_aload 0 d_X0_key_58 rfl ?_
          obtain ⟨o10, hr, h⟩ := h
          refine ak_getf hr fl_X0_65 d_X0_key_60 ?_
          refine ac_iload_n 3 d_X0_key_63 rfl rfl ?_
          refine ac_iload_n 4 d_X0_key_64 rfl rfl ?_
          obtain ⟨f11, hr, h⟩ := h
          refine ak_zast 1 hr rfl d_X0_key_65 ?_
          refine ac_iconst (v := 1) d_X0_key_66 rfl ?_
          exact ac_ireturn hR rfl ⟨_, rfl, h⟩ (by decide) (by decide) d_X0_key_67
        · have h := h.2 hc
          refine ac_aload 0 d_X0_key_46 rfl ?_
          refine ac_iload_n 3 d_X0_key_48 rfl rfl ?_
          obtain ⟨⟨fs, hb⟩, h⟩ := h
          refine ac_callV0 cd_X2_repeats ml_X0_71 in_X2_repeats se_X2_repeats rfl hb (c_X2_repeats _ _ _ o7 x2 f3 _ h) rfl rfl (by rw [hro]; decide) rfl (rest := []) rfl (Nat.le_of_ble_eq_true rfl) (by rw [hro]; decide) d_X0_key_49 (ac_I (fun v13 f12 h => ?_))
          refine ac_if_eq (tgt := 58) d_X0_key_52 (by decide) (fun hc => ?_) (fun hc => ?_)
          · have h := h.1 hc
            refine ac_aload 0 d_X0_key_58 rfl ?_
            obtain ⟨o14, hr, h⟩ := h
            refine ak_getf hr fl_X0_65 d_X0_key_60 ?_
            refine ac_iload_n 3 d_X0_key_63 rfl rfl ?_
            refine ac_iload_n 4 d_X0_key_64 rfl rfl ?_
            obtain ⟨f15, hr, h⟩ := h
            refine ak_zast 1 hr rfl d_X0_key_65 ?_
            refine ac_iconst (v := 1) d_X0_key_66 rfl ?_
            exact ac_ireturn hR rfl ⟨_, rfl, h⟩ (by decide) (by decide) d_X0_key_67
          · have h := h.2 hc
            refine ac_bipush (v := -4) d_X0_key_55 rfl ?_
            exact ac_ireturn hR rfl ⟨_, rfl, h⟩ (by decide) (by decide) d_X0_key_57
      · have h := h.2 hc
        refine ac_iconst (v := 0) d_X0_key_40 rfl ?_
        exact ac_ireturn hR rfl ⟨_, rfl, h⟩ (by decide) (by decide) d_X0_key_41
    · have h := h.2 hc
      refine ac_iconst (v := -1) d_X0_key_16 rfl ?_
      exact ac_ireturn hR rfl ⟨_, rfl, h⟩ (by decide) (by decide) d_X0_key_17

def wp_X0_row (ki : Nat → ClassId) (r0 : Nat) (x1 : Int32) (x2 : Int32) (x3 : Int32) (x4 : Int32) (f : ac_hp) (Q : Int32 → ac_hp → Prop) : Prop := wp_X0_isBelow ki x1 4 f (fun v2 f1 => ((v2 = 0 → Q (-1) f1) ∧ (¬ v2 = 0 → wp_X0_isBelow ki x2 10000 f1 (fun v4 f3 => ((v4 = 0 → Q (-1) f3) ∧ (¬ v4 = 0 → wp_X0_isBelow ki x3 10000 f3 (fun v6 f5 => ((v6 = 0 → Q (-1) f5) ∧ (¬ v6 = 0 → wp_X0_isBelow ki x4 10000 f5 (fun v8 f7 => ((¬ v8 = 0 → ∃ o9 : Nat, hr_f f7 r0 0 0 (.ref o9) ∧ ∃ o10 : Nat, hr_f f7 o9 1 0 (.ref o10) ∧ ∃ o11 : Nat, hr_q (ki 3) f7 o10 x1 o11 ∧ hr_o f7 o11 2 ∧ wp_X2_refuses ki o11 0 x2 f7 (fun v13 f12 => ((¬ v13 = 0 → Q (-4) f12) ∧ (v13 = 0 → hr_o f12 o11 2 ∧ wp_X2_refuses ki o11 1 x3 f12 (fun v15 f14 => ((¬ v15 = 0 → Q (-4) f14) ∧ (v15 = 0 → hr_o f14 o11 2 ∧ wp_X2_refuses ki o11 2 x4 f14 (fun v17 f16 => ((v17 = 0 → ∃ v18 : Int32, hr_f f16 o11 2 2 (.int v18) ∧ ((v18 < 20 → hr_o f16 o11 2 ∧ wp_X2_append ki o11 x2 x3 x4 f16 (fun f19 => ∃ v20 : Int32, hr_f f19 o11 2 2 (.int v20) ∧ Q v20 f19)) ∧ (¬ v18 < 20 → Q (-2) f16))) ∧ (¬ v17 = 0 → Q (-4) f16)))))))))) ∧ (v8 = 0 → Q (-1) f7))))))))))))

set_option maxRecDepth 20000 in
set_option maxHeartbeats 4000000 in
theorem c_X0_row (l : Launch) (D : va_G) (ki : Nat → ClassId) (r0 : Nat) (x1 : Int32) (x2 : Int32) (x3 : Int32) (x4 : Int32) (f : ac_hp) (Q : Int32 → ac_hp → Prop) (h : wp_X0_row ki r0 x1 x2 x3 x4 f Q) : ac_met l D ki y_X0_row prog_1_method_3_code 6 (some .int) (ro_ 4 0 0) [.ref r0, .int x1, .int x2, .int x3, .int x4] f (qr_I Q) 0 0 := by
  refine ac_enter (fun ki => wp_X0_row ki r0 x1 x2 x3 x4 f Q) (by decide) (Nat.le_of_ble_eq_true rfl) h ?_
  intro x hro hR hnm h
  unfold wp_X0_row at h
  refine ac_iload_n 1 d_X0_row_0 rfl rfl ?_
  refine ac_iconst (v := 4) d_X0_row_1 rfl ?_
  refine ac_callS0 cd_X0_isBelow ml_X0_57 st_X0_isBelow (c_X0_isBelow _ _ _ x1 4 f _ h) rfl rfl (by rw [hro]; decide) rfl (rest := []) rfl (Nat.le_of_ble_eq_true rfl) (by rw [hro]; decide) d_X0_row_2 (ac_I (fun v2 f1 h => ?_))
  refine ac_if_eq (tgt := 39) d_X0_row_5 (by decide) (fun hc => ?_) (fun hc => ?_)
  · have h := h.1 hc
    refine ac_iconst (v := -1) d_X0_row_39 rfl ?_
    exact ac_ireturn hR rfl ⟨_, rfl, h⟩ (by decide) (by decide) d_X0_row_40
  · have h := h.2 hc
    refine ac_iload_n 2 d_X0_row_8 rfl rfl ?_
    refine ac_sipush (v := 10000) d_X0_row_9 rfl ?_
    refine ac_callS0 cd_X0_isBelow ml_X0_57 st_X0_isBelow (c_X0_isBelow _ _ _ x2 10000 f1 _ h) rfl rfl (by rw [hro]; decide) rfl (rest := []) rfl (Nat.le_of_ble_eq_true rfl) (by rw [hro]; decide) d_X0_row_12 (ac_I (fun v4 f3 h => ?_))
    refine ac_if_eq (tgt := 39) d_X0_row_15 (by decide) (fun hc => ?_) (fun hc => ?_)
    · have h := h.1 hc
      refine ac_iconst (v := -1) d_X0_row_39 rfl ?_
      exact ac_ireturn hR rfl ⟨_, rfl, h⟩ (by decide) (by decide) d_X0_row_40
    · have h := h.2 hc
      refine ac_iload_n 3 d_X0_row_18 rfl rfl ?_
      refine ac_sipush (v := 10000) d_X0_row_19 rfl ?_
      refine ac_callS0 cd_X0_isBelow ml_X0_57 st_X0_isBelow (c_X0_isBelow _ _ _ x3 10000 f3 _ h) rfl rfl (by rw [hro]; decide) rfl (rest := []) rfl (Nat.le_of_ble_eq_true rfl) (by rw [hro]; decide) d_X0_row_22 (ac_I (fun v6 f5 h => ?_))
      refine ac_if_eq (tgt := 39) d_X0_row_25 (by decide) (fun hc => ?_) (fun hc => ?_)
      · have h := h.1 hc
        refine ac_iconst (v := -1) d_X0_row_39 rfl ?_
        exact ac_ireturn hR rfl ⟨_, rfl, h⟩ (by decide) (by decide) d_X0_row_40
      · have h := h.2 hc
        refine ac_iload 4 d_X0_row_28 rfl ?_
        refine ac_sipush (v := 10000) d_X0_row_30 rfl ?_
        refine ac_callS0 cd_X0_isBelow ml_X0_57 st_X0_isBelow (c_X0_isBelow _ _ _ x4 10000 f5 _ h) rfl rfl (by rw [hro]; decide) rfl (rest := []) rfl (Nat.le_of_ble_eq_true rfl) (by rw [hro]; decide) d_X0_row_33 (ac_I (fun v8 f7 h => ?_))
        refine ac_if_ne (tgt := 41) d_X0_row_36 (by decide) (fun hc => ?_) (fun hc => ?_)
        · have h := h.1 hc
          refine ac_aload_n 0 d_X0_row_41 rfl rfl ?_
          obtain ⟨o9, hr, h⟩ := h
          refine ak_getf hr fl_X0_12 d_X0_row_42 ?_
          obtain ⟨o10, hr, h⟩ := h
          refine ak_getf hr fl_X0_61 d_X0_row_45 ?_
          refine ac_iload_n 1 d_X0_row_48 rfl rfl ?_
          obtain ⟨o11, hr, h⟩ := h
          refine ak_aald 3 hr rfl d_X0_row_49 ?_
          refine ac_astore (lv' := [(5, .ref o11), (0, .ref r0), (1, .int x1), (2, .int x2), (3, .int x3), (4, .int x4)]) d_X0_row_50 (by decide) rfl ?_
          refine ac_aload 0 d_X0_row_52 rfl ?_
          refine ac_iconst (v := 0) d_X0_row_54 rfl ?_
          refine ac_iload_n 3 d_X0_row_55 rfl rfl ?_
          obtain ⟨⟨fs, hb⟩, h⟩ := h
          refine ac_callV0 cd_X2_refuses ml_X0_75 in_X2_refuses se_X2_refuses rfl hb (c_X2_refuses _ _ _ o11 0 x2 f7 _ h) rfl rfl (by rw [hro]; decide) rfl (rest := []) rfl (Nat.le_of_ble_eq_true rfl) (by rw [hro]; decide) d_X0_row_56 (ac_I (fun v13 f12 h => ?_))
          refine ac_if_ne (tgt := 83) d_X0_row_59 (by decide) (fun hc => ?_) (fun hc => ?_)
          · have h := h.1 hc
            refine ac_bipush (v := -4) d_X0_row_83 rfl ?_
            exact ac_ireturn hR rfl ⟨_, rfl, h⟩ (by decide) (by decide) d_X0_row_85
          · have h := h.2 hc
            refine ac_aload 0 d_X0_row_62 rfl ?_
            refine ac_iconst (v := 1) d_X0_row_64 rfl ?_
            refine ac_iload_n 4 d_X0_row_65 rfl rfl ?_
            obtain ⟨⟨fs, hb⟩, h⟩ := h
            refine ac_callV0 cd_X2_refuses ml_X0_75 in_X2_refuses se_X2_refuses rfl hb (c_X2_refuses _ _ _ o11 1 x3 f12 _ h) rfl rfl (by rw [hro]; decide) rfl (rest := []) rfl (Nat.le_of_ble_eq_true rfl) (by rw [hro]; decide) d_X0_row_66 (ac_I (fun v15 f14 h => ?_))
            refine ac_if_ne (tgt := 83) d_X0_row_69 (by decide) (fun hc => ?_) (fun hc => ?_)
            · have h := h.1 hc
              refine ac_bipush (v := -4) d_X0_row_83 rfl ?_
              exact ac_ireturn hR rfl ⟨_, rfl, h⟩ (by decide) (by decide) d_X0_row_85
            · have h := h.2 hc
              refine ac_aload 0 d_X0_row_72 rfl ?_
              refine ac_iconst (v := 2) d_X0_row_74 rfl ?_
              refine ac_iload 5 d_X0_row_75 rfl ?_
              obtain ⟨⟨fs, hb⟩, h⟩ := h
              refine ac_callV0 cd_X2_refuses ml_X0_75 in_X2_refuses se_X2_refuses rfl hb (c_X2_refuses _ _ _ o11 2 x4 f14 _ h) rfl rfl (by rw [hro]; decide) rfl (rest := []) rfl (Nat.le_of_ble_eq_true rfl) (by rw [hro]; decide) d_X0_row_77 (ac_I (fun v17 f16 h => ?_))
              refine ac_if_eq (tgt := 86) d_X0_row_80 (by decide) (fun hc => ?_) (fun hc => ?_)
              · have h := h.1 hc
                refine ac_aload 0 d_X0_row_86 rfl ?_
                obtain ⟨v18, hr, h⟩ := h
                refine ak_getf hr fl_X0_78 d_X0_row_88 ?_
                refine ac_bipush (v := 20) d_X0_row_91 rfl ?_
                refine ac_icmp_lt (tgt := 99) d_X0_row_93 (by decide) (fun hc => ?_) (fun hc => ?_)
                · have h := h.1 hc
                  refine ac_aload 0 d_X0_row_99 rfl ?_
                  refine ac_iload_n 3 d_X0_row_101 rfl rfl ?_
                  refine ac_iload_n 4 d_X0_row_102 rfl rfl ?_
                  refine ac_iload 5 d_X0_row_103 rfl ?_
                  obtain ⟨⟨fs, hb⟩, h⟩ := h
                  refine ac_callV0 cd_X2_append ml_X0_82 in_X2_append se_X2_append rfl hb (c_X2_append _ _ _ o11 x2 x3 x4 f16 _ h) rfl rfl (by rw [hro]; decide) rfl (rest := []) rfl (Nat.le_of_ble_eq_true rfl) (by rw [hro]; decide) d_X0_row_105 (ac_V (fun f19 h => ?_))
                  refine ac_aload 0 d_X0_row_108 rfl ?_
                  obtain ⟨v20, hr, h⟩ := h
                  refine ak_getf hr fl_X0_78 d_X0_row_110 ?_
                  exact ac_ireturn hR rfl ⟨_, rfl, h⟩ (by decide) (by decide) d_X0_row_113
                · have h := h.2 hc
                  refine ac_bipush (v := -2) d_X0_row_96 rfl ?_
                  exact ac_ireturn hR rfl ⟨_, rfl, h⟩ (by decide) (by decide) d_X0_row_98
              · have h := h.2 hc
                refine ac_bipush (v := -4) d_X0_row_83 rfl ?_
                exact ac_ireturn hR rfl ⟨_, rfl, h⟩ (by decide) (by decide) d_X0_row_85
        · have h := h.2 hc
          refine ac_iconst (v := -1) d_X0_row_39 rfl ?_
          exact ac_ireturn hR rfl ⟨_, rfl, h⟩ (by decide) (by decide) d_X0_row_40

def wp_X0_triples (ki : Nat → ClassId) (r0 : Nat) (f : ac_hp) (Q : Int32 → ac_hp → Prop) : Prop := ∃ o1 : Nat, hr_f f r0 0 0 (.ref o1) ∧ hr_o f o1 1 ∧ wp_X1_countTriples ki o1 f (fun v3 f2 => Q v3 f2)

set_option maxRecDepth 20000 in
set_option maxHeartbeats 4000000 in
theorem c_X0_triples (l : Launch) (D : va_G) (ki : Nat → ClassId) (r0 : Nat) (f : ac_hp) (Q : Int32 → ac_hp → Prop) (h : wp_X0_triples ki r0 f Q) : ac_met l D ki y_X0_triples prog_1_method_6_code 1 (some .int) (ro_ 4 0 0) [.ref r0] f (qr_I Q) 0 0 := by
  refine ac_enter (fun ki => wp_X0_triples ki r0 f Q) (by decide) (Nat.le_of_ble_eq_true rfl) h ?_
  intro x hro hR hnm h
  unfold wp_X0_triples at h
  refine ac_aload_n 0 d_X0_triples_0 rfl rfl ?_
  obtain ⟨o1, hr, h⟩ := h
  refine ak_getf hr fl_X0_12 d_X0_triples_1 ?_
  obtain ⟨⟨fs, hb⟩, h⟩ := h
  refine ac_callV0 cd_X1_countTriples ml_X0_109 in_X1_countTriples se_X1_countTriples rfl hb (c_X1_countTriples _ _ _ o1 f _ h) rfl rfl (by rw [hro]; decide) rfl (rest := []) rfl (Nat.le_of_ble_eq_true rfl) (by rw [hro]; decide) d_X0_triples_4 (ac_I (fun v3 f2 h => ?_))
  exact ac_ireturn hR rfl ⟨_, rfl, h⟩ (by decide) (by decide) d_X0_triples_7

def wp_X6_leastOfOneRow_L2 (ki : Nat → ClassId) (r0 : Nat) (x1 : Int32) (x2 : Int32) (Q : Int32 → ac_hp → Prop) (E25 : ac_hp → Prop) : Nat → Int32 → ac_hp → Prop
  | 0, _, _ => False
  | n + 1, x3, f => ((x2 ≤ x3 → E25  f) ∧ (¬ x2 ≤ x3 → hr_o f r0 6 ∧ wp_X6_areOfOneRow ki r0 x1 x3 x2 f (fun v2 f1 => ((v2 = 0 → ∀ v3 : Int32, v3 = x3 + 1 → wp_X6_leastOfOneRow_L2 ki r0 x1 x2 Q E25 n v3 f1) ∧ (¬ v2 = 0 → Q x3 f1)))))

def wp_X6_leastOfOneRow (ki : Nat → ClassId) (r0 : Nat) (x1 : Int32) (x2 : Int32) (f : ac_hp) (Q : Int32 → ac_hp → Prop) : Prop := ∃ n4, wp_X6_leastOfOneRow_L2 ki r0 x1 x2 Q (fun f5 => Q x2 f5) n4 0 f

set_option maxRecDepth 20000 in
set_option maxHeartbeats 4000000 in
theorem ok_X6_leastOfOneRow_L2 {x : ac_X} (hro : ac_R x = (ro_ 4 0 0)) (r0 : Nat) (x1 : Int32) (x2 : Int32) (Q : Int32 → ac_hp → Prop) (hR : ac_rt x (some .int) (qr_I Q) 0 0) (E25 : ac_hp → Prop) (hE25 : ∀ (f : ac_hp), E25 f → ac_At (prog_8_method_3_code, 4, "VirtualRewrite$Slots") x 0 0 25 [(2, .int x2)] [] f) : ∀ (n : Nat) (x3 : Int32) (f : ac_hp), wp_X6_leastOfOneRow_L2 (ac_ki x) r0 x1 x2 Q E25 n x3 f → ac_At (prog_8_method_3_code, 4, "VirtualRewrite$Slots") x 0 0 2 [(0, .ref r0), (1, .int x1), (2, .int x2), (3, .int x3)] [] f := by
  intro n
  induction n with
  | zero => intro _ _ h; exact h.elim
  | succ n ih =>
    intro x3 f h
    rw [wp_X6_leastOfOneRow_L2] at h
    refine ac_iload_n 3 d_X6_leastOfOneRow_2 rfl rfl ?_
    refine ac_iload_n 2 d_X6_leastOfOneRow_3 rfl rfl ?_
    refine ac_icmp_ge (tgt := 25) d_X6_leastOfOneRow_4 (by decide) (fun hc => ?_) (fun hc => ?_)
    · have h := h.1 hc
      refine ac_weak [2] rfl ?_
      exact hE25  f h
    · have h := h.2 hc
      refine ac_aload_n 0 d_X6_leastOfOneRow_7 rfl rfl ?_
      refine ac_iload_n 1 d_X6_leastOfOneRow_8 rfl rfl ?_
      refine ac_iload_n 3 d_X6_leastOfOneRow_9 rfl rfl ?_
      refine ac_iload_n 2 d_X6_leastOfOneRow_10 rfl rfl ?_
      obtain ⟨⟨fs, hb⟩, h⟩ := h
      refine ac_callV0 cd_X6_areOfOneRow ml_X6_40 in_X6_areOfOneRow se_X6_areOfOneRow rfl hb (c_X6_areOfOneRow _ _ _ r0 x1 x3 x2 f _ h) rfl rfl (by rw [hro]; decide) rfl (rest := []) rfl (Nat.le_of_ble_eq_true rfl) (by rw [hro]; decide) d_X6_leastOfOneRow_11 (ac_I (fun v2 f1 h => ?_))
      refine ac_if_eq (tgt := 19) d_X6_leastOfOneRow_14 (by decide) (fun hc => ?_) (fun hc => ?_)
      · have h := h.1 hc
        obtain ⟨v3, ev3⟩ : ∃ y : Int32, y = x3 + 1 := ⟨_, rfl⟩
        have h := h v3 ev3
        refine ac_iinc (j := 3) (lv' := [(3, .int v3), (0, .ref r0), (1, .int x1), (2, .int x2)]) d_X6_leastOfOneRow_19 rfl (by rw [ev3]; rfl) (by decide) rfl ?_
        refine ac_goto (tgt := 2) d_X6_leastOfOneRow_22 (by decide) ?_
        refine ac_weak [1, 2, 3, 0] rfl ?_
        exact ih v3 f1 h
      · have h := h.2 hc
        refine ac_iload_n 3 d_X6_leastOfOneRow_17 rfl rfl ?_
        exact ac_ireturn hR rfl ⟨_, rfl, h⟩ (by decide) (by decide) d_X6_leastOfOneRow_18

set_option maxRecDepth 20000 in
set_option maxHeartbeats 4000000 in
theorem c_X6_leastOfOneRow (l : Launch) (D : va_G) (ki : Nat → ClassId) (r0 : Nat) (x1 : Int32) (x2 : Int32) (f : ac_hp) (Q : Int32 → ac_hp → Prop) (h : wp_X6_leastOfOneRow ki r0 x1 x2 f Q) : ac_met l D ki y_X6_leastOfOneRow prog_8_method_3_code 4 (some .int) (ro_ 4 0 0) [.ref r0, .int x1, .int x2] f (qr_I Q) 0 0 := by
  refine ac_enter (fun ki => wp_X6_leastOfOneRow ki r0 x1 x2 f Q) (by decide) (Nat.le_of_ble_eq_true rfl) h ?_
  intro x hro hR hnm h
  unfold wp_X6_leastOfOneRow at h
  refine ac_iconst (v := 0) d_X6_leastOfOneRow_0 rfl ?_
  refine ac_istore_n (lv' := [(3, .int 0), (0, .ref r0), (1, .int x1), (2, .int x2)]) d_X6_leastOfOneRow_1 rfl (by decide) rfl ?_
  obtain ⟨n4, h⟩ := h
  refine ac_weak [1, 2, 3, 0] rfl ?_
  refine ok_X6_leastOfOneRow_L2 hro r0 x1 x2 Q hR _ (fun f5 h => ?_) n4 0 f h
  · skip
    refine ac_iload_n 0 d_X6_leastOfOneRow_25 rfl rfl ?_
    exact ac_ireturn hR rfl ⟨_, rfl, h⟩ (by decide) (by decide) d_X6_leastOfOneRow_26

def wp_X6_productOfRows_L7 (ki : Nat → ClassId) (r0 : Nat) (x1 : Int32) (E55 : Int32 → ac_hp → Prop) : Nat → Int32 → Int32 → Int32 → ac_hp → Prop
  | 0, _, _, _, _ => False
  | n + 1, x2, x3, x4, f => ∃ o1 : Nat, hr_f f r0 6 1 (.ref o1) ∧ ∃ v2 : Int32, hr_f f o1 4 4 (.int v2) ∧ ((v2 ≤ x4 → E55 x2 f) ∧ (¬ v2 ≤ x4 → ∃ o3 : Nat, hr_f f r0 6 3 (.ref o3) ∧ ∃ v4 : Int32, hr_i (ki 0) f o3 x4 v4 ∧ ((¬ v4 = x3 → ∀ v5 : Int32, v5 = x4 + 1 → wp_X6_productOfRows_L7 ki r0 x1 E55 n x2 x3 v5 f) ∧ (v4 = x3 → ∃ o6 : Nat, hr_f f r0 6 2 (.ref o6) ∧ hr_o f o6 5 ∧ wp_X5_tableOf ki o6 x1 x4 f (fun o8 f7 => ∃ v9 : Int32, hr_f f7 o8 2 2 (.int v9) ∧ ∀ v10 : Int32, v10 = x2 * v9 → ∀ v11 : Int32, v11 = x3 + 1 → ∀ v12 : Int32, v12 = x4 + 1 → wp_X6_productOfRows_L7 ki r0 x1 E55 n v10 v11 v12 f7)))))

def wp_X6_productOfRows (ki : Nat → ClassId) (r0 : Nat) (x1 : Int32) (f : ac_hp) (Q : Int32 → ac_hp → Prop) : Prop := ∃ n13, wp_X6_productOfRows_L7 ki r0 x1 (fun y14 f15 => Q y14 f15) n13 1 0 0 f

set_option maxRecDepth 20000 in
set_option maxHeartbeats 4000000 in
theorem ok_X6_productOfRows_L7 {x : ac_X} (hro : ac_R x = (ro_ 4 0 0)) (r0 : Nat) (x1 : Int32) (E55 : Int32 → ac_hp → Prop) (hE55 : ∀ (y2 : Int32) (f : ac_hp), E55 y2 f → ac_At (prog_8_method_5_code, 5, "VirtualRewrite$Slots") x 0 0 55 [(2, .int y2)] [] f) : ∀ (n : Nat) (x2 : Int32) (x3 : Int32) (x4 : Int32) (f : ac_hp), wp_X6_productOfRows_L7 (ac_ki x) r0 x1 E55 n x2 x3 x4 f → ac_At (prog_8_method_5_code, 5, "VirtualRewrite$Slots") x 0 0 7 [(0, .ref r0), (1, .int x1), (2, .int x2), (3, .int x3), (4, .int x4)] [] f := by
  intro n
  induction n with
  | zero => intro _ _ _ _ h; exact h.elim
  | succ n ih =>
    intro x2 x3 x4 f h
    rw [wp_X6_productOfRows_L7] at h
    refine ac_iload 4 d_X6_productOfRows_7 rfl ?_
    refine ac_aload_n 0 d_X6_productOfRows_9 rfl rfl ?_
    obtain ⟨o1, hr, h⟩ := h
    refine ak_getf hr fl_X6_23 d_X6_productOfRows_10 ?_
    obtain ⟨v2, hr, h⟩ := h
    refine ak_getf hr fl_X6_31 d_X6_productOfRows_13 ?_
    refine ac_icmp_ge (tgt := 55) d_X6_productOfRows_16 (by decide) (fun hc => ?_) (fun hc => ?_)
    · have h := h.1 hc
      refine ac_weak [2] rfl ?_
      exact hE55 x2 f h
    · have h := h.2 hc
      refine ac_aload_n 0 d_X6_productOfRows_19 rfl rfl ?_
      obtain ⟨o3, hr, h⟩ := h
      refine ak_getf hr fl_X6_9 d_X6_productOfRows_20 ?_
      refine ac_iload 4 d_X6_productOfRows_23 rfl ?_
      obtain ⟨v4, hr, h⟩ := h
      refine ak_iald 0 hr rfl d_X6_productOfRows_25 ?_
      refine ac_iload_n 3 d_X6_productOfRows_26 rfl rfl ?_
      refine ac_icmp_ne (tgt := 49) d_X6_productOfRows_27 (by decide) (fun hc => ?_) (fun hc => ?_)
      · have h := h.1 hc
        obtain ⟨v5, ev5⟩ : ∃ y : Int32, y = x4 + 1 := ⟨_, rfl⟩
        have h := h v5 ev5
        refine ac_iinc (j := 4) (lv' := [(4, .int v5), (0, .ref r0), (1, .int x1), (2, .int x2), (3, .int x3)]) d_X6_productOfRows_49 rfl (by rw [ev5]; rfl) (by decide) rfl ?_
        refine ac_goto (tgt := 7) d_X6_productOfRows_52 (by decide) ?_
        refine ac_weak [1, 2, 3, 4, 0] rfl ?_
        exact ih x2 x3 v5 f h
      · have h := h.2 hc
        refine ac_iload_n 2 d_X6_productOfRows_30 rfl rfl ?_
        refine ac_aload_n 0 d_X6_productOfRows_31 rfl rfl ?_
        obtain ⟨o6, hr, h⟩ := h
        refine ak_getf hr fl_X6_27 d_X6_productOfRows_32 ?_
        refine ac_iload_n 1 d_X6_productOfRows_35 rfl rfl ?_
        refine ac_iload 4 d_X6_productOfRows_36 rfl ?_
        obtain ⟨⟨fs, hb⟩, h⟩ := h
        refine ac_callV0 cd_X5_tableOf ml_X6_73 in_X5_tableOf se_X5_tableOf rfl hb (c_X5_tableOf _ _ _ o6 x1 x4 f _ h) rfl rfl (by rw [hro]; decide) rfl (rest := [.int x2]) rfl (Nat.le_of_ble_eq_true rfl) (by rw [hro]; decide) d_X6_productOfRows_38 (ac_Rf (fun o8 f7 h => ?_))
        obtain ⟨v9, hr, h⟩ := h
        refine ak_getf hr fl_X6_76 d_X6_productOfRows_41 ?_
        refine ac_imul d_X6_productOfRows_44 ?_
        refine ak_topi (fun v10 ev10 => ?_)
        have h := h v10 ev10
        refine ac_istore_n (lv' := [(2, .int v10), (0, .ref r0), (1, .int x1), (3, .int x3), (4, .int x4)]) d_X6_productOfRows_45 rfl (by decide) rfl ?_
        obtain ⟨v11, ev11⟩ : ∃ y : Int32, y = x3 + 1 := ⟨_, rfl⟩
        have h := h v11 ev11
        refine ac_iinc (j := 3) (lv' := [(3, .int v11), (2, .int v10), (0, .ref r0), (1, .int x1), (4, .int x4)]) d_X6_productOfRows_46 rfl (by rw [ev11]; rfl) (by decide) rfl ?_
        obtain ⟨v12, ev12⟩ : ∃ y : Int32, y = x4 + 1 := ⟨_, rfl⟩
        have h := h v12 ev12
        refine ac_iinc (j := 4) (lv' := [(4, .int v12), (3, .int v11), (2, .int v10), (0, .ref r0), (1, .int x1)]) d_X6_productOfRows_49 rfl (by rw [ev12]; rfl) (by decide) rfl ?_
        refine ac_goto (tgt := 7) d_X6_productOfRows_52 (by decide) ?_
        refine ac_weak [3, 4, 2, 1, 0] rfl ?_
        exact ih v10 v11 v12 f7 h

set_option maxRecDepth 20000 in
set_option maxHeartbeats 4000000 in
theorem c_X6_productOfRows (l : Launch) (D : va_G) (ki : Nat → ClassId) (r0 : Nat) (x1 : Int32) (f : ac_hp) (Q : Int32 → ac_hp → Prop) (h : wp_X6_productOfRows ki r0 x1 f Q) : ac_met l D ki y_X6_productOfRows prog_8_method_5_code 5 (some .int) (ro_ 4 0 0) [.ref r0, .int x1] f (qr_I Q) 0 0 := by
  refine ac_enter (fun ki => wp_X6_productOfRows ki r0 x1 f Q) (by decide) (Nat.le_of_ble_eq_true rfl) h ?_
  intro x hro hR hnm h
  unfold wp_X6_productOfRows at h
  refine ac_iconst (v := 1) d_X6_productOfRows_0 rfl ?_
  refine ac_istore_n (lv' := [(2, .int 1), (0, .ref r0), (1, .int x1)]) d_X6_productOfRows_1 rfl (by decide) rfl ?_
  refine ac_iconst (v := 0) d_X6_productOfRows_2 rfl ?_
  refine ac_istore_n (lv' := [(3, .int 0), (2, .int 1), (0, .ref r0), (1, .int x1)]) d_X6_productOfRows_3 rfl (by decide) rfl ?_
  refine ac_iconst (v := 0) d_X6_productOfRows_4 rfl ?_
  refine ac_istore (lv' := [(4, .int 0), (3, .int 0), (2, .int 1), (0, .ref r0), (1, .int x1)]) d_X6_productOfRows_5 (by decide) rfl ?_
  obtain ⟨n13, h⟩ := h
  refine ac_weak [3, 4, 2, 1, 0] rfl ?_
  refine ok_X6_productOfRows_L7 hro r0 x1 _ (fun y14 f15 h => ?_) n13 1 0 0 f h
  · skip
    refine ac_iload_n 0 d_X6_productOfRows_55 rfl rfl ?_
    exact ac_ireturn hR rfl ⟨_, rfl, h⟩ (by decide) (by decide) d_X6_productOfRows_56

def wp_X8_layOut_L2 (ki : Nat → ClassId) (r0 : Nat) (E21 : ac_hp → Prop) : Nat → Int32 → ac_hp → Prop
  | 0, _, _ => False
  | n + 1, x1, f => ((6 ≤ x1 → E21  f) ∧ (¬ 6 ≤ x1 → ∃ o1 : Nat, hr_f f r0 8 11 (.ref o1) ∧ ∃ f2, hw_i (ki 0) f o1 x1 0 f2 ∧ ∀ v3 : Int32, v3 = x1 + 1 → wp_X8_layOut_L2 ki r0 E21 n v3 f2))

def wp_X8_layOut_L23 (ki : Nat → ClassId) (r0 : Nat) (E42 : ac_hp → Prop) : Nat → Int32 → ac_hp → Prop
  | 0, _, _ => False
  | n + 1, x1, f => ((24 ≤ x1 → E42  f) ∧ (¬ 24 ≤ x1 → ∃ o6 : Nat, hr_f f r0 8 6 (.ref o6) ∧ ∃ f7, hw_i (ki 0) f o6 x1 (-1) f7 ∧ ∀ v8 : Int32, v8 = x1 + 1 → wp_X8_layOut_L23 ki r0 E42 n v8 f7))

def wp_X8_layOut_L44 (ki : Nat → ClassId) (r0 : Nat) (E62 : ac_hp → Prop) : Nat → Int32 → ac_hp → Prop
  | 0, _, _ => False
  | n + 1, x1, f => ((4 ≤ x1 → E62  f) ∧ (¬ 4 ≤ x1 → ∃ o11 : Nat, hr_f f r0 8 5 (.ref o11) ∧ ∃ f12, hw_i (ki 0) f o11 x1 0 f12 ∧ ∀ v13 : Int32, v13 = x1 + 1 → wp_X8_layOut_L44 ki r0 E62 n v13 f12))

def wp_X8_layOut_L92 (ki : Nat → ClassId) (r0 : Nat) (x1 : Int32) (E124 : ac_hp → Prop) : Nat → Int32 → ac_hp → Prop
  | 0, _, _ => False
  | n + 1, x2, f => ((2 ≤ x2 → E124  f) ∧ (¬ 2 ≤ x2 → ∃ o23 : Nat, hr_f f r0 8 0 (.ref o23) ∧ hr_o f o23 4 ∧ wp_X4_told ki o23 x1 x2 f (fun v25 f24 => wp_X0_isVariable ki v25 f24 (fun v27 f26 => ((v27 = 0 → ∀ v28 : Int32, v28 = x2 + 1 → wp_X8_layOut_L92 ki r0 x1 E124 n v28 f26) ∧ (¬ v27 = 0 → hr_o f26 r0 8 ∧ wp_X8_layOutVariable ki r0 x1 x2 f26 (fun f29 => ∀ v30 : Int32, v30 = x2 + 1 → wp_X8_layOut_L92 ki r0 x1 E124 n v30 f29)))))))

def wp_X8_layOut_L64 (ki : Nat → ClassId) (r0 : Nat) (E130 : ac_hp → Prop) : Nat → Int32 → ac_hp → Prop
  | 0, _, _ => False
  | n + 1, x1, f => ∃ o16 : Nat, hr_f f r0 8 0 (.ref o16) ∧ ∃ v17 : Int32, hr_f f o16 4 4 (.int v17) ∧ ((v17 ≤ x1 → E130  f) ∧ (¬ v17 ≤ x1 → ∃ o18 : Nat, hr_f f r0 8 4 (.ref o18) ∧ ∃ o19 : Nat, hr_f f r0 8 2 (.ref o19) ∧ ∃ o20 : Nat, hr_f f o19 6 3 (.ref o20) ∧ ∃ v21 : Int32, hr_i (ki 0) f o20 x1 v21 ∧ ∃ f22, hw_i (ki 0) f o18 v21 x1 f22 ∧ ∃ n31, wp_X8_layOut_L92 ki r0 x1 (fun f32 => ∀ v33 : Int32, v33 = x1 + 1 → wp_X8_layOut_L64 ki r0 E130 n v33 f32) n31 0 f22))

def wp_X8_layOut (ki : Nat → ClassId) (r0 : Nat) (f : ac_hp) (Q : ac_hp → Prop) : Prop := ∃ n4, wp_X8_layOut_L2 ki r0 (fun f5 => ∃ n9, wp_X8_layOut_L23 ki r0 (fun f10 => ∃ n14, wp_X8_layOut_L44 ki r0 (fun f15 => ∃ n34, wp_X8_layOut_L64 ki r0 (fun f35 => Q f35) n34 0 f15) n14 0 f10) n9 0 f5) n4 0 f

set_option maxRecDepth 20000 in
set_option maxHeartbeats 4000000 in
theorem ok_X8_layOut_L2 {x : ac_X} (hro : ac_R x = (ro_ 4 0 0)) (r0 : Nat) (E21 : ac_hp → Prop) (hE21 : ∀ (f : ac_hp), E21 f → ac_At (prog_4_method_3_code, 3, "VirtualRewrite$Finder") x 0 0 21 [(0, .ref r0)] [] f) : ∀ (n : Nat) (x1 : Int32) (f : ac_hp), wp_X8_layOut_L2 (ac_ki x) r0 E21 n x1 f → ac_At (prog_4_method_3_code, 3, "VirtualRewrite$Finder") x 0 0 2 [(0, .ref r0), (1, .int x1)] [] f := by
  intro n
  induction n with
  | zero => intro _ _ h; exact h.elim
  | succ n ih =>
    intro x1 f h
    rw [wp_X8_layOut_L2] at h
    refine ac_iload_n 1 d_X8_layOut_2 rfl rfl ?_
    refine ac_bipush (v := 6) d_X8_layOut_3 rfl ?_
    refine ac_icmp_ge (tgt := 21) d_X8_layOut_5 (by decide) (fun hc => ?_) (fun hc => ?_)
    · have h := h.1 hc
      refine ac_weak [0] rfl ?_
      exact hE21  f h
    · have h := h.2 hc
      refine ac_aload_n 0 d_X8_layOut_8 rfl rfl ?_
      obtain ⟨o1, hr, h⟩ := h
      refine ak_getf hr fl_X8_33 d_X8_layOut_9 ?_
      refine ac_iload_n 1 d_X8_layOut_12 rfl rfl ?_
      refine ac_iconst (v := 0) d_X8_layOut_13 rfl ?_
      obtain ⟨f2, hr, h⟩ := h
      refine ak_iast 0 hr rfl d_X8_layOut_14 ?_
      obtain ⟨v3, ev3⟩ : ∃ y : Int32, y = x1 + 1 := ⟨_, rfl⟩
      have h := h v3 ev3
      refine ac_iinc (j := 1) (lv' := [(1, .int v3), (0, .ref r0)]) d_X8_layOut_15 rfl (by rw [ev3]; rfl) (by decide) rfl ?_
      refine ac_goto (tgt := 2) d_X8_layOut_18 (by decide) ?_
      refine ac_weak [1, 0] rfl ?_
      exact ih v3 f2 h

set_option maxRecDepth 20000 in
set_option maxHeartbeats 4000000 in
theorem ok_X8_layOut_L23 {x : ac_X} (hro : ac_R x = (ro_ 4 0 0)) (r0 : Nat) (E42 : ac_hp → Prop) (hE42 : ∀ (f : ac_hp), E42 f → ac_At (prog_4_method_3_code, 3, "VirtualRewrite$Finder") x 0 0 42 [(0, .ref r0)] [] f) : ∀ (n : Nat) (x1 : Int32) (f : ac_hp), wp_X8_layOut_L23 (ac_ki x) r0 E42 n x1 f → ac_At (prog_4_method_3_code, 3, "VirtualRewrite$Finder") x 0 0 23 [(0, .ref r0), (1, .int x1)] [] f := by
  intro n
  induction n with
  | zero => intro _ _ h; exact h.elim
  | succ n ih =>
    intro x1 f h
    rw [wp_X8_layOut_L23] at h
    refine ac_iload_n 1 d_X8_layOut_23 rfl rfl ?_
    refine ac_bipush (v := 24) d_X8_layOut_24 rfl ?_
    refine ac_icmp_ge (tgt := 42) d_X8_layOut_26 (by decide) (fun hc => ?_) (fun hc => ?_)
    · have h := h.1 hc
      refine ac_weak [0] rfl ?_
      exact hE42  f h
    · have h := h.2 hc
      refine ac_aload_n 0 d_X8_layOut_29 rfl rfl ?_
      obtain ⟨o6, hr, h⟩ := h
      refine ak_getf hr fl_X8_18 d_X8_layOut_30 ?_
      refine ac_iload_n 1 d_X8_layOut_33 rfl rfl ?_
      refine ac_iconst (v := -1) d_X8_layOut_34 rfl ?_
      obtain ⟨f7, hr, h⟩ := h
      refine ak_iast 0 hr rfl d_X8_layOut_35 ?_
      obtain ⟨v8, ev8⟩ : ∃ y : Int32, y = x1 + 1 := ⟨_, rfl⟩
      have h := h v8 ev8
      refine ac_iinc (j := 1) (lv' := [(1, .int v8), (0, .ref r0)]) d_X8_layOut_36 rfl (by rw [ev8]; rfl) (by decide) rfl ?_
      refine ac_goto (tgt := 23) d_X8_layOut_39 (by decide) ?_
      refine ac_weak [1, 0] rfl ?_
      exact ih v8 f7 h

set_option maxRecDepth 20000 in
set_option maxHeartbeats 4000000 in
theorem ok_X8_layOut_L44 {x : ac_X} (hro : ac_R x = (ro_ 4 0 0)) (r0 : Nat) (E62 : ac_hp → Prop) (hE62 : ∀ (f : ac_hp), E62 f → ac_At (prog_4_method_3_code, 3, "VirtualRewrite$Finder") x 0 0 62 [(0, .ref r0)] [] f) : ∀ (n : Nat) (x1 : Int32) (f : ac_hp), wp_X8_layOut_L44 (ac_ki x) r0 E62 n x1 f → ac_At (prog_4_method_3_code, 3, "VirtualRewrite$Finder") x 0 0 44 [(0, .ref r0), (1, .int x1)] [] f := by
  intro n
  induction n with
  | zero => intro _ _ h; exact h.elim
  | succ n ih =>
    intro x1 f h
    rw [wp_X8_layOut_L44] at h
    refine ac_iload_n 1 d_X8_layOut_44 rfl rfl ?_
    refine ac_iconst (v := 4) d_X8_layOut_45 rfl ?_
    refine ac_icmp_ge (tgt := 62) d_X8_layOut_46 (by decide) (fun hc => ?_) (fun hc => ?_)
    · have h := h.1 hc
      refine ac_weak [0] rfl ?_
      exact hE62  f h
    · have h := h.2 hc
      refine ac_aload_n 0 d_X8_layOut_49 rfl rfl ?_
      obtain ⟨o11, hr, h⟩ := h
      refine ak_getf hr fl_X8_15 d_X8_layOut_50 ?_
      refine ac_iload_n 1 d_X8_layOut_53 rfl rfl ?_
      refine ac_iconst (v := 0) d_X8_layOut_54 rfl ?_
      obtain ⟨f12, hr, h⟩ := h
      refine ak_iast 0 hr rfl d_X8_layOut_55 ?_
      obtain ⟨v13, ev13⟩ : ∃ y : Int32, y = x1 + 1 := ⟨_, rfl⟩
      have h := h v13 ev13
      refine ac_iinc (j := 1) (lv' := [(1, .int v13), (0, .ref r0)]) d_X8_layOut_56 rfl (by rw [ev13]; rfl) (by decide) rfl ?_
      refine ac_goto (tgt := 44) d_X8_layOut_59 (by decide) ?_
      refine ac_weak [1, 0] rfl ?_
      exact ih v13 f12 h

set_option maxRecDepth 20000 in
set_option maxHeartbeats 4000000 in
theorem ok_X8_layOut_L92 {x : ac_X} (hro : ac_R x = (ro_ 4 0 0)) (r0 : Nat) (x1 : Int32) (E124 : ac_hp → Prop) (hE124 : ∀ (f : ac_hp), E124 f → ac_At (prog_4_method_3_code, 3, "VirtualRewrite$Finder") x 0 0 124 [(0, .ref r0), (1, .int x1)] [] f) : ∀ (n : Nat) (x2 : Int32) (f : ac_hp), wp_X8_layOut_L92 (ac_ki x) r0 x1 E124 n x2 f → ac_At (prog_4_method_3_code, 3, "VirtualRewrite$Finder") x 0 0 92 [(0, .ref r0), (1, .int x1), (2, .int x2)] [] f := by
  intro n
  induction n with
  | zero => intro _ _ h; exact h.elim
  | succ n ih =>
    intro x2 f h
    rw [wp_X8_layOut_L92] at h
    refine ac_iload_n 2 d_X8_layOut_92 rfl rfl ?_
    refine ac_iconst (v := 2) d_X8_layOut_93 rfl ?_
    refine ac_icmp_ge (tgt := 124) d_X8_layOut_94 (by decide) (fun hc => ?_) (fun hc => ?_)
    · have h := h.1 hc
      refine ac_weak [0, 1] rfl ?_
      exact hE124  f h
    · have h := h.2 hc
      refine ac_aload_n 0 d_X8_layOut_97 rfl rfl ?_
      obtain ⟨o23, hr, h⟩ := h
      refine ak_getf hr fl_X8_40 d_X8_layOut_98 ?_
      refine ac_iload_n 1 d_X8_layOut_101 rfl rfl ?_
      refine ac_iload_n 2 d_X8_layOut_102 rfl rfl ?_
      obtain ⟨⟨fs, hb⟩, h⟩ := h
      refine ac_callV0 cd_X4_told ml_X8_86 in_X4_told se_X4_told rfl hb (c_X4_told _ _ _ o23 x1 x2 f _ h) rfl rfl (by rw [hro]; decide) rfl (rest := []) rfl (Nat.le_of_ble_eq_true rfl) (by rw [hro]; decide) d_X8_layOut_103 (ac_I (fun v25 f24 h => ?_))
      refine ac_callSN0 cd_X0_isVariable ml_X8_89 st_X0_isVariable (c_X0_isVariable _ _ _ v25 f24 _ h) rfl rfl (by rw [hro]; decide) rfl (rest := []) rfl (Nat.le_of_ble_eq_true rfl) (by rw [hro]; decide) d_X8_layOut_106 (ac_I (fun v27 f26 h => ?_))
      refine ac_if_eq (tgt := 118) d_X8_layOut_109 (by decide) (fun hc => ?_) (fun hc => ?_)
      · have h := h.1 hc
        obtain ⟨v28, ev28⟩ : ∃ y : Int32, y = x2 + 1 := ⟨_, rfl⟩
        have h := h v28 ev28
        refine ac_iinc (j := 2) (lv' := [(2, .int v28), (0, .ref r0), (1, .int x1)]) d_X8_layOut_118 rfl (by rw [ev28]; rfl) (by decide) rfl ?_
        refine ac_goto (tgt := 92) d_X8_layOut_121 (by decide) ?_
        refine ac_weak [1, 2, 0] rfl ?_
        exact ih v28 f26 h
      · have h := h.2 hc
        refine ac_aload_n 0 d_X8_layOut_112 rfl rfl ?_
        refine ac_iload_n 1 d_X8_layOut_113 rfl rfl ?_
        refine ac_iload_n 2 d_X8_layOut_114 rfl rfl ?_
        obtain ⟨⟨fs, hb⟩, h⟩ := h
        refine ac_callV0 cd_X8_layOutVariable ml_X8_93 in_X8_layOutVariable se_X8_layOutVariable rfl hb (c_X8_layOutVariable _ _ _ r0 x1 x2 f26 _ h) rfl rfl (by rw [hro]; decide) rfl (rest := []) rfl (Nat.le_of_ble_eq_true rfl) (by rw [hro]; decide) d_X8_layOut_115 (ac_V (fun f29 h => ?_))
        obtain ⟨v30, ev30⟩ : ∃ y : Int32, y = x2 + 1 := ⟨_, rfl⟩
        have h := h v30 ev30
        refine ac_iinc (j := 2) (lv' := [(2, .int v30), (0, .ref r0), (1, .int x1)]) d_X8_layOut_118 rfl (by rw [ev30]; rfl) (by decide) rfl ?_
        refine ac_goto (tgt := 92) d_X8_layOut_121 (by decide) ?_
        refine ac_weak [1, 2, 0] rfl ?_
        exact ih v30 f29 h

set_option maxRecDepth 20000 in
set_option maxHeartbeats 4000000 in
theorem ok_X8_layOut_L64 {x : ac_X} (hro : ac_R x = (ro_ 4 0 0)) (r0 : Nat) (E130 : ac_hp → Prop) (hE130 : ∀ (f : ac_hp), E130 f → ac_At (prog_4_method_3_code, 3, "VirtualRewrite$Finder") x 0 0 130 [] [] f) : ∀ (n : Nat) (x1 : Int32) (f : ac_hp), wp_X8_layOut_L64 (ac_ki x) r0 E130 n x1 f → ac_At (prog_4_method_3_code, 3, "VirtualRewrite$Finder") x 0 0 64 [(0, .ref r0), (1, .int x1)] [] f := by
  intro n
  induction n with
  | zero => intro _ _ h; exact h.elim
  | succ n ih =>
    intro x1 f h
    rw [wp_X8_layOut_L64] at h
    refine ac_iload_n 1 d_X8_layOut_64 rfl rfl ?_
    refine ac_aload_n 0 d_X8_layOut_65 rfl rfl ?_
    obtain ⟨o16, hr, h⟩ := h
    refine ak_getf hr fl_X8_40 d_X8_layOut_66 ?_
    obtain ⟨v17, hr, h⟩ := h
    refine ak_getf hr fl_X8_78 d_X8_layOut_69 ?_
    refine ac_icmp_ge (tgt := 130) d_X8_layOut_72 (by decide) (fun hc => ?_) (fun hc => ?_)
    · have h := h.1 hc
      refine ac_weak [] rfl ?_
      exact hE130  f h
    · have h := h.2 hc
      refine ac_aload_n 0 d_X8_layOut_75 rfl rfl ?_
      obtain ⟨o18, hr, h⟩ := h
      refine ak_getf hr fl_X8_9 d_X8_layOut_76 ?_
      refine ac_aload_n 0 d_X8_layOut_79 rfl rfl ?_
      obtain ⟨o19, hr, h⟩ := h
      refine ak_getf hr fl_X8_48 d_X8_layOut_80 ?_
      obtain ⟨o20, hr, h⟩ := h
      refine ak_getf hr fl_X8_83 d_X8_layOut_83 ?_
      refine ac_iload_n 1 d_X8_layOut_86 rfl rfl ?_
      obtain ⟨v21, hr, h⟩ := h
      refine ak_iald 0 hr rfl d_X8_layOut_87 ?_
      refine ac_iload_n 1 d_X8_layOut_88 rfl rfl ?_
      obtain ⟨f22, hr, h⟩ := h
      refine ak_iast 0 hr rfl d_X8_layOut_89 ?_
      refine ac_iconst (v := 0) d_X8_layOut_90 rfl ?_
      refine ac_istore_n (lv' := [(2, .int 0), (0, .ref r0), (1, .int x1)]) d_X8_layOut_91 rfl (by decide) rfl ?_
      obtain ⟨n31, h⟩ := h
      refine ac_weak [1, 2, 0] rfl ?_
      refine ok_X8_layOut_L92 hro r0 x1 _ (fun f32 h => ?_) n31 0 f22 h
      · skip
        obtain ⟨v33, ev33⟩ : ∃ y : Int32, y = x1 + 1 := ⟨_, rfl⟩
        have h := h v33 ev33
        refine ac_iinc (j := 1) (lv' := [(1, .int v33), (0, .ref r0)]) d_X8_layOut_124 rfl (by rw [ev33]; rfl) (by decide) rfl ?_
        refine ac_goto (tgt := 64) d_X8_layOut_127 (by decide) ?_
        refine ac_weak [1, 0] rfl ?_
        exact ih v33 f32 h

set_option maxRecDepth 20000 in
set_option maxHeartbeats 4000000 in
theorem c_X8_layOut (l : Launch) (D : va_G) (ki : Nat → ClassId) (r0 : Nat) (f : ac_hp) (Q : ac_hp → Prop) (h : wp_X8_layOut ki r0 f Q) : ac_met l D ki y_X8_layOut prog_4_method_3_code 3 none (ro_ 4 0 0) [.ref r0] f (qr_V Q) 0 0 := by
  refine ac_enter (fun ki => wp_X8_layOut ki r0 f Q) (by decide) (Nat.le_of_ble_eq_true rfl) h ?_
  intro x hro hR hnm h
  unfold wp_X8_layOut at h
  refine ac_iconst (v := 0) d_X8_layOut_0 rfl ?_
  refine ac_istore_n (lv' := [(1, .int 0), (0, .ref r0)]) d_X8_layOut_1 rfl (by decide) rfl ?_
  obtain ⟨n4, h⟩ := h
  refine ac_weak [1, 0] rfl ?_
  refine ok_X8_layOut_L2 hro r0 _ (fun f5 h => ?_) n4 0 f h
  · skip
    refine ac_iconst (v := 0) d_X8_layOut_21 rfl ?_
    refine ac_istore_n (lv' := [(1, .int 0), (0, .ref r0)]) d_X8_layOut_22 rfl (by decide) rfl ?_
    obtain ⟨n9, h⟩ := h
    refine ac_weak [1, 0] rfl ?_
    refine ok_X8_layOut_L23 hro r0 _ (fun f10 h => ?_) n9 0 f5 h
    · skip
      refine ac_iconst (v := 0) d_X8_layOut_42 rfl ?_
      refine ac_istore_n (lv' := [(1, .int 0), (0, .ref r0)]) d_X8_layOut_43 rfl (by decide) rfl ?_
      obtain ⟨n14, h⟩ := h
      refine ac_weak [1, 0] rfl ?_
      refine ok_X8_layOut_L44 hro r0 _ (fun f15 h => ?_) n14 0 f10 h
      · skip
        refine ac_iconst (v := 0) d_X8_layOut_62 rfl ?_
        refine ac_istore_n (lv' := [(1, .int 0), (0, .ref r0)]) d_X8_layOut_63 rfl (by decide) rfl ?_
        obtain ⟨n34, h⟩ := h
        refine ac_weak [1, 0] rfl ?_
        refine ok_X8_layOut_L64 hro r0 _ (fun f35 h => ?_) n34 0 f15 h
        · skip
          exact ac_vreturn hR ⟨rfl, h⟩ (by decide) (by decide) d_X8_layOut_130
end
section
def wp_X8_tableOf (ki : Nat → ClassId) (r0 : Nat) (x1 : Int32) (f : ac_hp) (Q : Nat → ac_hp → Prop) : Prop := ∃ o1 : Nat, hr_f f r0 8 1 (.ref o1) ∧ ∃ v2 : Int32, hr_f f r0 8 12 (.int v2) ∧ ∃ o3 : Nat, hr_f f r0 8 4 (.ref o3) ∧ ∃ v4 : Int32, hr_i (ki 0) f o3 x1 v4 ∧ hr_o f o1 5 ∧ wp_X5_tableOf ki o1 v2 v4 f (fun o6 f5 => Q o6 f5)

set_option maxRecDepth 20000 in
set_option maxHeartbeats 4000000 in
theorem c_X8_tableOf (l : Launch) (D : va_G) (ki : Nat → ClassId) (r0 : Nat) (x1 : Int32) (f : ac_hp) (Q : Nat → ac_hp → Prop) (h : wp_X8_tableOf ki r0 x1 f Q) : ac_met l D ki y_X8_tableOf prog_4_method_5_code 2 (some (.object "VirtualRewrite$Table")) (ro_ 4 0 0) [.ref r0, .int x1] f (qr_R Q) 0 0 := by
  refine ac_enter (fun ki => wp_X8_tableOf ki r0 x1 f Q) (by decide) (Nat.le_of_ble_eq_true rfl) h ?_
  intro x hro hR hnm h
  unfold wp_X8_tableOf at h
  refine ac_aload_n 0 d_X8_tableOf_0 rfl rfl ?_
  obtain ⟨o1, hr, h⟩ := h
  refine ak_getf hr fl_X8_44 d_X8_tableOf_1 ?_
  refine ac_aload_n 0 d_X8_tableOf_4 rfl rfl ?_
  obtain ⟨v2, hr, h⟩ := h
  refine ak_getf hr fl_X8_36 d_X8_tableOf_5 ?_
  refine ac_aload_n 0 d_X8_tableOf_8 rfl rfl ?_
  obtain ⟨o3, hr, h⟩ := h
  refine ak_getf hr fl_X8_9 d_X8_tableOf_9 ?_
  refine ac_iload_n 1 d_X8_tableOf_12 rfl rfl ?_
  obtain ⟨v4, hr, h⟩ := h
  refine ak_iald 0 hr rfl d_X8_tableOf_13 ?_
  obtain ⟨⟨fs, hb⟩, h⟩ := h
  refine ac_callV0 cd_X5_tableOf ml_X8_114 in_X5_tableOf se_X5_tableOf rfl hb (c_X5_tableOf _ _ _ o1 v2 v4 f _ h) rfl rfl (by rw [hro]; decide) rfl (rest := []) rfl (Nat.le_of_ble_eq_true rfl) (by rw [hro]; decide) d_X8_tableOf_14 (ac_Rf (fun o6 f5 h => ?_))
  exact ac_areturn hR (Or.inl ⟨_, rfl⟩) ⟨_, rfl, h⟩ (by decide) (by decide) d_X8_tableOf_17

def wp_X8_suits_L3 (ki : Nat → ClassId) (r0 : Nat) (x1 : Int32) (r2 : Nat) (x3 : Int32) (Q : Int32 → ac_hp → Prop) (E48 : ac_hp → Prop) : Nat → Int32 → ac_hp → Prop
  | 0, _, _ => False
  | n + 1, x4, f => ∃ o1 : Nat, hr_f f r0 8 0 (.ref o1) ∧ ∃ v2 : Int32, hr_f f o1 4 4 (.int v2) ∧ ((v2 ≤ x4 → E48  f) ∧ (¬ v2 ≤ x4 → ∃ o3 : Nat, hr_f f r0 8 2 (.ref o3) ∧ ∃ o4 : Nat, hr_f f o3 6 3 (.ref o4) ∧ ∃ v5 : Int32, hr_i (ki 0) f o4 x4 v5 ∧ ((¬ v5 = x1 → ∀ v6 : Int32, v6 = x4 + 1 → wp_X8_suits_L3 ki r0 x1 r2 x3 Q E48 n v6 f) ∧ (v5 = x1 → hr_o f r0 8 ∧ wp_X8_suitsAtom ki r0 x4 r2 x3 f (fun v8 f7 => ((¬ v8 = 0 → ∀ v9 : Int32, v9 = x4 + 1 → wp_X8_suits_L3 ki r0 x1 r2 x3 Q E48 n v9 f7) ∧ (v8 = 0 → Q 0 f7)))))))

def wp_X8_suits (ki : Nat → ClassId) (r0 : Nat) (x1 : Int32) (r2 : Nat) (x3 : Int32) (f : ac_hp) (Q : Int32 → ac_hp → Prop) : Prop := ∃ n10, wp_X8_suits_L3 ki r0 x1 r2 x3 Q (fun f11 => Q 1 f11) n10 0 f

set_option maxRecDepth 20000 in
set_option maxHeartbeats 4000000 in
theorem ok_X8_suits_L3 {x : ac_X} (hro : ac_R x = (ro_ 4 0 0)) (r0 : Nat) (x1 : Int32) (r2 : Nat) (x3 : Int32) (Q : Int32 → ac_hp → Prop) (hR : ac_rt x (some .boolean) (qr_I Q) 0 0) (E48 : ac_hp → Prop) (hE48 : ∀ (f : ac_hp), E48 f → ac_At (prog_4_method_7_code, 5, "VirtualRewrite$Finder") x 0 0 48 [] [] f) : ∀ (n : Nat) (x4 : Int32) (f : ac_hp), wp_X8_suits_L3 (ac_ki x) r0 x1 r2 x3 Q E48 n x4 f → ac_At (prog_4_method_7_code, 5, "VirtualRewrite$Finder") x 0 0 3 [(0, .ref r0), (1, .int x1), (2, .ref r2), (3, .int x3), (4, .int x4)] [] f := by
  intro n
  induction n with
  | zero => intro _ _ h; exact h.elim
  | succ n ih =>
    intro x4 f h
    rw [wp_X8_suits_L3] at h
    refine ac_iload 4 d_X8_suits_3 rfl ?_
    refine ac_aload_n 0 d_X8_suits_5 rfl rfl ?_
    obtain ⟨o1, hr, h⟩ := h
    refine ak_getf hr fl_X8_40 d_X8_suits_6 ?_
    obtain ⟨v2, hr, h⟩ := h
    refine ak_getf hr fl_X8_78 d_X8_suits_9 ?_
    refine ac_icmp_ge (tgt := 48) d_X8_suits_12 (by decide) (fun hc => ?_) (fun hc => ?_)
    · have h := h.1 hc
      refine ac_weak [] rfl ?_
      exact hE48  f h
    · have h := h.2 hc
      refine ac_aload_n 0 d_X8_suits_15 rfl rfl ?_
      obtain ⟨o3, hr, h⟩ := h
      refine ak_getf hr fl_X8_48 d_X8_suits_16 ?_
      obtain ⟨o4, hr, h⟩ := h
      refine ak_getf hr fl_X8_83 d_X8_suits_19 ?_
      refine ac_iload 4 d_X8_suits_22 rfl ?_
      obtain ⟨v5, hr, h⟩ := h
      refine ak_iald 0 hr rfl d_X8_suits_24 ?_
      refine ac_iload_n 1 d_X8_suits_25 rfl rfl ?_
      refine ac_icmp_ne (tgt := 42) d_X8_suits_26 (by decide) (fun hc => ?_) (fun hc => ?_)
      · have h := h.1 hc
        obtain ⟨v6, ev6⟩ : ∃ y : Int32, y = x4 + 1 := ⟨_, rfl⟩
        have h := h v6 ev6
        refine ac_iinc (j := 4) (lv' := [(4, .int v6), (0, .ref r0), (1, .int x1), (2, .ref r2), (3, .int x3)]) d_X8_suits_42 rfl (by rw [ev6]; rfl) (by decide) rfl ?_
        refine ac_goto (tgt := 3) d_X8_suits_45 (by decide) ?_
        refine ac_weak [1, 2, 3, 4, 0] rfl ?_
        exact ih v6 f h
      · have h := h.2 hc
        refine ac_aload_n 0 d_X8_suits_29 rfl rfl ?_
        refine ac_iload 4 d_X8_suits_30 rfl ?_
        refine ac_aload_n 2 d_X8_suits_32 rfl rfl ?_
        refine ac_iload_n 3 d_X8_suits_33 rfl rfl ?_
        obtain ⟨⟨fs, hb⟩, h⟩ := h
        refine ac_callV0 cd_X8_suitsAtom ml_X8_134 in_X8_suitsAtom se_X8_suitsAtom rfl hb (c_X8_suitsAtom _ _ _ r0 x4 r2 x3 f _ h) rfl rfl (by rw [hro]; decide) rfl (rest := []) rfl (Nat.le_of_ble_eq_true rfl) (by rw [hro]; decide) d_X8_suits_34 (ac_I (fun v8 f7 h => ?_))
        refine ac_if_ne (tgt := 42) d_X8_suits_37 (by decide) (fun hc => ?_) (fun hc => ?_)
        · have h := h.1 hc
          obtain ⟨v9, ev9⟩ : ∃ y : Int32, y = x4 + 1 := ⟨_, rfl⟩
          have h := h v9 ev9
          refine ac_iinc (j := 4) (lv' := [(4, .int v9), (0, .ref r0), (1, .int x1), (2, .ref r2), (3, .int x3)]) d_X8_suits_42 rfl (by rw [ev9]; rfl) (by decide) rfl ?_
          refine ac_goto (tgt := 3) d_X8_suits_45 (by decide) ?_
          refine ac_weak [1, 2, 3, 4, 0] rfl ?_
          exact ih v9 f7 h
        · have h := h.2 hc
          refine ac_iconst (v := 0) d_X8_suits_40 rfl ?_
          exact ac_ireturn hR rfl ⟨_, rfl, h⟩ (by decide) (by decide) d_X8_suits_41

set_option maxRecDepth 20000 in
set_option maxHeartbeats 4000000 in
theorem c_X8_suits (l : Launch) (D : va_G) (ki : Nat → ClassId) (r0 : Nat) (x1 : Int32) (r2 : Nat) (x3 : Int32) (f : ac_hp) (Q : Int32 → ac_hp → Prop) (h : wp_X8_suits ki r0 x1 r2 x3 f Q) : ac_met l D ki y_X8_suits prog_4_method_7_code 5 (some .boolean) (ro_ 4 0 0) [.ref r0, .int x1, .ref r2, .int x3] f (qr_I Q) 0 0 := by
  refine ac_enter (fun ki => wp_X8_suits ki r0 x1 r2 x3 f Q) (by decide) (Nat.le_of_ble_eq_true rfl) h ?_
  intro x hro hR hnm h
  unfold wp_X8_suits at h
  refine ac_iconst (v := 0) d_X8_suits_0 rfl ?_
  refine ac_istore (lv' := [(4, .int 0), (0, .ref r0), (1, .int x1), (2, .ref r2), (3, .int x3)]) d_X8_suits_1 (by decide) rfl ?_
  obtain ⟨n10, h⟩ := h
  refine ac_weak [1, 2, 3, 4, 0] rfl ?_
  refine ok_X8_suits_L3 hro r0 x1 r2 x3 Q hR _ (fun f11 h => ?_) n10 0 f h
  · skip
    refine ac_iconst (v := 1) d_X8_suits_48 rfl ?_
    exact ac_ireturn hR rfl ⟨_, rfl, h⟩ (by decide) (by decide) d_X8_suits_49

def wp_X7_take (ki : Nat → ClassId) (r0 : Nat) (r1 : Nat) (x2 : Int32) (f : ac_hp) (Q : ac_hp → Prop) : Prop := hr_o f r0 7 ∧ wp_X7_firstNotBefore ki r0 r1 f (fun v2 f1 => ∃ v3 : Int32, hr_f f1 r0 7 4 (.int v3) ∧ ((v3 ≤ v2 → ∃ v4 : Int32, hr_f f1 r0 7 4 (.int v4) ∧ ((v4 < 300 → hr_o f1 r0 7 ∧ wp_X7_insert ki r0 v2 r1 x2 f1 (fun f5 => Q f5)) ∧ (¬ v4 < 300 → ∃ f6, hw_f f1 r0 7 6 (.int 1) f6 ∧ Q f6))) ∧ (¬ v3 ≤ v2 → hr_o f1 r0 7 ∧ wp_X7_compare ki r0 v2 r1 f1 (fun v8 f7 => ((¬ v8 = 0 → ∃ v9 : Int32, hr_f f7 r0 7 4 (.int v9) ∧ ((v9 < 300 → hr_o f7 r0 7 ∧ wp_X7_insert ki r0 v2 r1 x2 f7 (fun f10 => Q f10)) ∧ (¬ v9 < 300 → ∃ f11, hw_f f7 r0 7 6 (.int 1) f11 ∧ Q f11))) ∧ (v8 = 0 → ∃ o12 : Nat, hr_f f7 r0 7 2 (.ref o12) ∧ ∃ o13 : Nat, hr_f f7 r0 7 1 (.ref o13) ∧ ∃ v14 : Int32, hr_i (ki 0) f7 o13 v2 v14 ∧ ∃ v15 : Int32, hr_i (ki 0) f7 o12 v14 v15 ∧ ∃ f16, hw_i (ki 0) f7 o12 v14 (v15 + 1) f16 ∧ Q f16))))))

set_option maxRecDepth 20000 in
set_option maxHeartbeats 4000000 in
theorem c_X7_take (l : Launch) (D : va_G) (ki : Nat → ClassId) (r0 : Nat) (r1 : Nat) (x2 : Int32) (f : ac_hp) (Q : ac_hp → Prop) (h : wp_X7_take ki r0 r1 x2 f Q) : ac_met l D ki y_X7_take prog_2_method_6_code 4 none (ro_ 4 0 0) [.ref r0, .ref r1, .int x2] f (qr_V Q) 0 0 := by
  refine ac_enter (fun ki => wp_X7_take ki r0 r1 x2 f Q) (by decide) (Nat.le_of_ble_eq_true rfl) h ?_
  intro x hro hR hnm h
  unfold wp_X7_take at h
  refine ac_aload_n 0 d_X7_take_0 rfl rfl ?_
  refine ac_aload_n 1 d_X7_take_1 rfl rfl ?_
  obtain ⟨⟨fs, hb⟩, h⟩ := h
  refine ac_callV0 cd_X7_firstNotBefore ml_X7_35 in_X7_firstNotBefore se_X7_firstNotBefore rfl hb (c_X7_firstNotBefore _ _ _ r0 r1 f _ h) rfl rfl (by rw [hro]; decide) rfl (rest := []) rfl (Nat.le_of_ble_eq_true rfl) (by rw [hro]; decide) d_X7_take_2 (ac_I (fun v2 f1 h => ?_))
  refine ac_istore_n (lv' := [(3, .int v2), (0, .ref r0), (1, .ref r1), (2, .int x2)]) d_X7_take_5 rfl (by decide) rfl ?_
  refine ac_iload_n 0 d_X7_take_6 rfl rfl ?_
  refine ac_aload_n 1 d_X7_take_7 rfl rfl ?_
  obtain ⟨v3, hr, h⟩ := h
  refine ak_getf hr fl_X7_24 d_X7_take_8 ?_
  refine ac_icmp_ge (tgt := 41) d_X7_take_11 (by decide) (fun hc => ?_) (fun hc => ?_)
  · have h := h.1 hc
    refine ac_aload_n 1 d_X7_take_41 rfl rfl ?_
    obtain ⟨v4, hr, h⟩ := h
    refine ak_getf hr fl_X7_24 d_X7_take_42 ?_
    refine ac_sipush (v := 300) d_X7_take_45 rfl ?_
    refine ac_icmp_lt (tgt := 59) d_X7_take_48 (by decide) (fun hc => ?_) (fun hc => ?_)
    · have h := h.1 hc
      refine ac_aload_n 1 d_X7_take_59 rfl rfl ?_
      refine ac_iload_n 0 d_X7_take_60 rfl rfl ?_
      refine ac_aload_n 2 d_X7_take_61 rfl rfl ?_
      refine ac_iload_n 3 d_X7_take_62 rfl rfl ?_
      obtain ⟨⟨fs, hb⟩, h⟩ := h
      refine ac_callV0 cd_X7_insert ml_X7_43 in_X7_insert se_X7_insert rfl hb (c_X7_insert _ _ _ r0 v2 r1 x2 f1 _ h) rfl rfl (by rw [hro]; decide) rfl (rest := []) rfl (Nat.le_of_ble_eq_true rfl) (by rw [hro]; decide) d_X7_take_63 (ac_V (fun f5 h => ?_))
      exact ac_vreturn hR ⟨rfl, h⟩ (by decide) (by decide) d_X7_take_66
    · have h := h.2 hc
      refine ac_aload_n 1 d_X7_take_51 rfl rfl ?_
      refine ac_iconst (v := 1) d_X7_take_52 rfl ?_
      obtain ⟨f6, hr, h⟩ := h
      refine ak_putf hr fp_X7_31 rfl rfl d_X7_take_53 ?_
      refine ac_goto (tgt := 66) d_X7_take_56 (by decide) ?_
      exact ac_vreturn hR ⟨rfl, h⟩ (by decide) (by decide) d_X7_take_66
  · have h := h.2 hc
    refine ac_aload_n 1 d_X7_take_14 rfl rfl ?_
    refine ac_iload_n 0 d_X7_take_15 rfl rfl ?_
    refine ac_aload_n 2 d_X7_take_16 rfl rfl ?_
    obtain ⟨⟨fs, hb⟩, h⟩ := h
    refine ac_callV0 cd_X7_compare ml_X7_39 in_X7_compare se_X7_compare rfl hb (c_X7_compare _ _ _ r0 v2 r1 f1 _ h) rfl rfl (by rw [hro]; decide) rfl (rest := []) rfl (Nat.le_of_ble_eq_true rfl) (by rw [hro]; decide) d_X7_take_17 (ac_I (fun v8 f7 h => ?_))
    refine ac_if_ne (tgt := 41) d_X7_take_20 (by decide) (fun hc => ?_) (fun hc => ?_)
    · have h := h.1 hc
      refine ac_aload_n 1 d_X7_take_41 rfl rfl ?_
      obtain ⟨v9, hr, h⟩ := h
      refine ak_getf hr fl_X7_24 d_X7_take_42 ?_
      refine ac_sipush (v := 300) d_X7_take_45 rfl ?_
      refine ac_icmp_lt (tgt := 59) d_X7_take_48 (by decide) (fun hc => ?_) (fun hc => ?_)
      · have h := h.1 hc
        refine ac_aload_n 1 d_X7_take_59 rfl rfl ?_
        refine ac_iload_n 0 d_X7_take_60 rfl rfl ?_
        refine ac_aload_n 2 d_X7_take_61 rfl rfl ?_
        refine ac_iload_n 3 d_X7_take_62 rfl rfl ?_
        obtain ⟨⟨fs, hb⟩, h⟩ := h
        refine ac_callV0 cd_X7_insert ml_X7_43 in_X7_insert se_X7_insert rfl hb (c_X7_insert _ _ _ r0 v2 r1 x2 f7 _ h) rfl rfl (by rw [hro]; decide) rfl (rest := []) rfl (Nat.le_of_ble_eq_true rfl) (by rw [hro]; decide) d_X7_take_63 (ac_V (fun f10 h => ?_))
        exact ac_vreturn hR ⟨rfl, h⟩ (by decide) (by decide) d_X7_take_66
      · have h := h.2 hc
        refine ac_aload_n 1 d_X7_take_51 rfl rfl ?_
        refine ac_iconst (v := 1) d_X7_take_52 rfl ?_
        obtain ⟨f11, hr, h⟩ := h
        refine ak_putf hr fp_X7_31 rfl rfl d_X7_take_53 ?_
        refine ac_goto (tgt := 66) d_X7_take_56 (by decide) ?_
        exact ac_vreturn hR ⟨rfl, h⟩ (by decide) (by decide) d_X7_take_66
    · have h := h.2 hc
      refine ac_aload_n 1 d_X7_take_23 rfl rfl ?_
      obtain ⟨o12, hr, h⟩ := h
      refine ak_getf hr fl_X7_18 d_X7_take_24 ?_
      refine ac_aload_n 1 d_X7_take_27 rfl rfl ?_
      obtain ⟨o13, hr, h⟩ := h
      refine ak_getf hr fl_X7_15 d_X7_take_28 ?_
      refine ac_iload_n 0 d_X7_take_31 rfl rfl ?_
      obtain ⟨v14, hr, h⟩ := h
      refine ak_iald 0 hr rfl d_X7_take_32 ?_
      refine ac_dup2 d_X7_take_33 rfl rfl ?_
      obtain ⟨v15, hr, h⟩ := h
      refine ak_iald 0 hr rfl d_X7_take_34 ?_
      refine ac_iconst (v := 1) d_X7_take_35 rfl ?_
      refine ac_iadd d_X7_take_36 ?_
      obtain ⟨f16, hr, h⟩ := h
      refine ak_iast 0 hr rfl d_X7_take_37 ?_
      refine ac_goto (tgt := 66) d_X7_take_38 (by decide) ?_
      exact ac_vreturn hR ⟨rfl, h⟩ (by decide) (by decide) d_X7_take_66

def wp_X6_assign_L7 (ki : Nat → ClassId) (r0 : Nat) (x1 : Int32) (E71 : ac_hp → Prop) : Nat → Int32 → ac_hp → Prop
  | 0, _, _ => False
  | n + 1, x2, f => ∃ o2 : Nat, hr_f f r0 6 1 (.ref o2) ∧ ∃ v3 : Int32, hr_f f o2 4 4 (.int v3) ∧ ((v3 ≤ x2 → E71  f) ∧ (¬ v3 ≤ x2 → hr_o f r0 6 ∧ wp_X6_leastOfOneRow ki r0 x1 x2 f (fun v5 f4 => ((x2 ≤ v5 → ∃ o6 : Nat, hr_f f4 r0 6 3 (.ref o6) ∧ ∃ v7 : Int32, hr_f f4 r0 6 4 (.int v7) ∧ ∃ f8, hw_i (ki 0) f4 o6 x2 v7 f8 ∧ ∃ v9 : Int32, hr_f f8 r0 6 4 (.int v9) ∧ ∃ f10, hw_f f8 r0 6 4 (.int (v9 + 1)) f10 ∧ ∀ v11 : Int32, v11 = x2 + 1 → wp_X6_assign_L7 ki r0 x1 E71 n v11 f10) ∧ (¬ x2 ≤ v5 → ∃ o12 : Nat, hr_f f4 r0 6 3 (.ref o12) ∧ ∃ o13 : Nat, hr_f f4 r0 6 3 (.ref o13) ∧ ∃ v14 : Int32, hr_i (ki 0) f4 o13 v5 v14 ∧ ∃ f15, hw_i (ki 0) f4 o12 x2 v14 f15 ∧ ∀ v16 : Int32, v16 = x2 + 1 → wp_X6_assign_L7 ki r0 x1 E71 n v16 f15)))))

def wp_X6_assign (ki : Nat → ClassId) (r0 : Nat) (x1 : Int32) (f : ac_hp) (Q : ac_hp → Prop) : Prop := ∃ f1, hw_f f r0 6 4 (.int 0) f1 ∧ ∃ n17, wp_X6_assign_L7 ki r0 x1 (fun f18 => Q f18) n17 0 f1

set_option maxRecDepth 20000 in
set_option maxHeartbeats 4000000 in
theorem ok_X6_assign_L7 {x : ac_X} (hro : ac_R x = (ro_ 5 0 0)) (r0 : Nat) (x1 : Int32) (E71 : ac_hp → Prop) (hE71 : ∀ (f : ac_hp), E71 f → ac_At (prog_8_method_2_code, 4, "VirtualRewrite$Slots") x 0 0 71 [] [] f) : ∀ (n : Nat) (x2 : Int32) (f : ac_hp), wp_X6_assign_L7 (ac_ki x) r0 x1 E71 n x2 f → ac_At (prog_8_method_2_code, 4, "VirtualRewrite$Slots") x 0 0 7 [(0, .ref r0), (1, .int x1), (2, .int x2)] [] f := by
  intro n
  induction n with
  | zero => intro _ _ h; exact h.elim
  | succ n ih =>
    intro x2 f h
    rw [wp_X6_assign_L7] at h
    refine ac_iload_n 2 d_X6_assign_7 rfl rfl ?_
    refine ac_aload_n 0 d_X6_assign_8 rfl rfl ?_
    obtain ⟨o2, hr, h⟩ := h
    refine ak_getf hr fl_X6_23 d_X6_assign_9 ?_
    obtain ⟨v3, hr, h⟩ := h
    refine ak_getf hr fl_X6_31 d_X6_assign_12 ?_
    refine ac_icmp_ge (tgt := 71) d_X6_assign_15 (by decide) (fun hc => ?_) (fun hc => ?_)
    · have h := h.1 hc
      refine ac_weak [] rfl ?_
      exact hE71  f h
    · have h := h.2 hc
      refine ac_aload_n 0 d_X6_assign_18 rfl rfl ?_
      refine ac_iload_n 1 d_X6_assign_19 rfl rfl ?_
      refine ac_iload_n 2 d_X6_assign_20 rfl rfl ?_
      obtain ⟨⟨fs, hb⟩, h⟩ := h
      refine ac_callV0 cd_X6_leastOfOneRow ml_X6_36 in_X6_leastOfOneRow se_X6_leastOfOneRow rfl hb (c_X6_leastOfOneRow _ _ _ r0 x1 x2 f _ h) rfl rfl (by rw [hro]; decide) rfl (rest := []) rfl (Nat.le_of_ble_eq_true rfl) (by rw [hro]; decide) d_X6_assign_21 (ac_I (fun v5 f4 h => ?_))
      refine ac_istore_n (lv' := [(3, .int v5), (0, .ref r0), (1, .int x1), (2, .int x2)]) d_X6_assign_24 rfl (by decide) rfl ?_
      refine ac_iload_n 0 d_X6_assign_25 rfl rfl ?_
      refine ac_iload_n 3 d_X6_assign_26 rfl rfl ?_
      refine ac_icmp_ge (tgt := 45) d_X6_assign_27 (by decide) (fun hc => ?_) (fun hc => ?_)
      · have h := h.1 hc
        refine ac_aload_n 1 d_X6_assign_45 rfl rfl ?_
        obtain ⟨o6, hr, h⟩ := h
        refine ak_getf hr fl_X6_9 d_X6_assign_46 ?_
        refine ac_iload_n 3 d_X6_assign_49 rfl rfl ?_
        refine ac_aload_n 1 d_X6_assign_50 rfl rfl ?_
        obtain ⟨v7, hr, h⟩ := h
        refine ak_getf hr fl_X6_15 d_X6_assign_51 ?_
        obtain ⟨f8, hr, h⟩ := h
        refine ak_iast 0 hr rfl d_X6_assign_54 ?_
        refine ac_aload_n 1 d_X6_assign_55 rfl rfl ?_
        refine ac_dup d_X6_assign_56 rfl ?_
        obtain ⟨v9, hr, h⟩ := h
        refine ak_getf hr fl_X6_15 d_X6_assign_57 ?_
        refine ac_iconst (v := 1) d_X6_assign_60 rfl ?_
        refine ac_iadd d_X6_assign_61 ?_
        obtain ⟨f10, hr, h⟩ := h
        refine ak_putf hr fp_X6_15 rfl rfl d_X6_assign_62 ?_
        obtain ⟨v11, ev11⟩ : ∃ y : Int32, y = x2 + 1 := ⟨_, rfl⟩
        have h := h v11 ev11
        refine ac_iinc (j := 3) (lv' := [(2, .int v11), (3, .int v5), (0, .ref r0), (1, .int x1)]) d_X6_assign_65 rfl (by rw [ev11]; rfl) (by decide) rfl ?_
        refine ac_goto (tgt := 7) d_X6_assign_68 (by decide) ?_
        refine ac_weak [2, 3, 0] rfl ?_
        exact ih v11 f10 h
      · have h := h.2 hc
        refine ac_aload_n 1 d_X6_assign_30 rfl rfl ?_
        obtain ⟨o12, hr, h⟩ := h
        refine ak_getf hr fl_X6_9 d_X6_assign_31 ?_
        refine ac_iload_n 3 d_X6_assign_34 rfl rfl ?_
        refine ac_aload_n 1 d_X6_assign_35 rfl rfl ?_
        obtain ⟨o13, hr, h⟩ := h
        refine ak_getf hr fl_X6_9 d_X6_assign_36 ?_
        refine ac_iload_n 0 d_X6_assign_39 rfl rfl ?_
        obtain ⟨v14, hr, h⟩ := h
        refine ak_iald 0 hr rfl d_X6_assign_40 ?_
        obtain ⟨f15, hr, h⟩ := h
        refine ak_iast 0 hr rfl d_X6_assign_41 ?_
        refine ac_goto (tgt := 65) d_X6_assign_42 (by decide) ?_
        obtain ⟨v16, ev16⟩ : ∃ y : Int32, y = x2 + 1 := ⟨_, rfl⟩
        have h := h v16 ev16
        refine ac_iinc (j := 3) (lv' := [(2, .int v16), (3, .int v5), (0, .ref r0), (1, .int x1)]) d_X6_assign_65 rfl (by rw [ev16]; rfl) (by decide) rfl ?_
        refine ac_goto (tgt := 7) d_X6_assign_68 (by decide) ?_
        refine ac_weak [2, 3, 0] rfl ?_
        exact ih v16 f15 h

set_option maxRecDepth 20000 in
set_option maxHeartbeats 4000000 in
theorem c_X6_assign (l : Launch) (D : va_G) (ki : Nat → ClassId) (r0 : Nat) (x1 : Int32) (f : ac_hp) (Q : ac_hp → Prop) (h : wp_X6_assign ki r0 x1 f Q) : ac_met l D ki y_X6_assign prog_8_method_2_code 4 none (ro_ 5 0 0) [.ref r0, .int x1] f (qr_V Q) 0 0 := by
  refine ac_enter (fun ki => wp_X6_assign ki r0 x1 f Q) (by decide) (Nat.le_of_ble_eq_true rfl) h ?_
  intro x hro hR hnm h
  unfold wp_X6_assign at h
  refine ac_aload_n 0 d_X6_assign_0 rfl rfl ?_
  refine ac_iconst (v := 0) d_X6_assign_1 rfl ?_
  obtain ⟨f1, hr, h⟩ := h
  refine ak_putf hr fp_X6_15 rfl rfl d_X6_assign_2 ?_
  refine ac_iconst (v := 0) d_X6_assign_5 rfl ?_
  refine ac_istore_n (lv' := [(2, .int 0), (0, .ref r0), (1, .int x1)]) d_X6_assign_6 rfl (by decide) rfl ?_
  obtain ⟨n17, h⟩ := h
  refine ac_weak [1, 2, 0] rfl ?_
  refine ok_X6_assign_L7 hro r0 x1 _ (fun f18 h => ?_) n17 0 f1 h
  · skip
    exact ac_vreturn hR ⟨rfl, h⟩ (by decide) (by decide) d_X6_assign_71

def wp_X8_gatherRows_L11 (ki : Nat → ClassId) (r0 : Nat) (x1 : Int32) (r2 : Nat) (E65 : Int32 → ac_hp → Prop) : Nat → Int32 → Int32 → ac_hp → Prop
  | 0, _, _, _ => False
  | n + 1, x3, x4, f => ∃ v3 : Int32, hr_f f r2 2 2 (.int v3) ∧ ((v3 ≤ x4 → E65 x3 f) ∧ (¬ v3 ≤ x4 → hr_o f r0 8 ∧ wp_X8_suits ki r0 x1 r2 x4 f (fun v5 f4 => ((v5 = 0 → ∀ v6 : Int32, v6 = x4 + 1 → wp_X8_gatherRows_L11 ki r0 x1 r2 E65 n x3 v6 f4) ∧ (¬ v5 = 0 → hr_o f4 r0 8 ∧ wp_X8_isTold ki r0 x1 r2 x4 x3 f4 (fun v8 f7 => ((¬ v8 = 0 → ∀ v9 : Int32, v9 = x4 + 1 → wp_X8_gatherRows_L11 ki r0 x1 r2 E65 n x3 v9 f7) ∧ (v8 = 0 → ∃ o10 : Nat, hr_f f7 r0 8 7 (.ref o10) ∧ ∃ f11, hw_i (ki 0) f7 o10 ((x1 * 20) + x3) x4 f11 ∧ ∀ v12 : Int32, v12 = x3 + 1 → ∀ v13 : Int32, v13 = x4 + 1 → wp_X8_gatherRows_L11 ki r0 x1 r2 E65 n v12 v13 f11))))))))

def wp_X8_gatherRows (ki : Nat → ClassId) (r0 : Nat) (x1 : Int32) (f : ac_hp) (Q : ac_hp → Prop) : Prop := hr_o f r0 8 ∧ wp_X8_tableOf ki r0 x1 f (fun o2 f1 => ∃ n14, wp_X8_gatherRows_L11 ki r0 x1 o2 (fun y15 f16 => ∃ o17 : Nat, hr_f f16 r0 8 8 (.ref o17) ∧ ∃ f18, hw_i (ki 0) f16 o17 x1 y15 f18 ∧ Q f18) n14 0 0 f1)

set_option maxRecDepth 20000 in
set_option maxHeartbeats 4000000 in
theorem ok_X8_gatherRows_L11 {x : ac_X} (hro : ac_R x = (ro_ 5 0 0)) (r0 : Nat) (x1 : Int32) (r2 : Nat) (E65 : Int32 → ac_hp → Prop) (hE65 : ∀ (y3 : Int32) (f : ac_hp), E65 y3 f → ac_At (prog_4_method_6_code, 5, "VirtualRewrite$Finder") x 0 0 65 [(0, .ref r0), (1, .int x1), (3, .int y3)] [] f) : ∀ (n : Nat) (x3 : Int32) (x4 : Int32) (f : ac_hp), wp_X8_gatherRows_L11 (ac_ki x) r0 x1 r2 E65 n x3 x4 f → ac_At (prog_4_method_6_code, 5, "VirtualRewrite$Finder") x 0 0 11 [(0, .ref r0), (1, .int x1), (2, .ref r2), (3, .int x3), (4, .int x4)] [] f := by
  intro n
  induction n with
  | zero => intro _ _ _ h; exact h.elim
  | succ n ih =>
    intro x3 x4 f h
    rw [wp_X8_gatherRows_L11] at h
    refine ac_iload 4 d_X8_gatherRows_11 rfl ?_
    refine ac_aload_n 2 d_X8_gatherRows_13 rfl rfl ?_
    obtain ⟨v3, hr, h⟩ := h
    refine ak_getf hr fl_X8_121 d_X8_gatherRows_14 ?_
    refine ac_icmp_ge (tgt := 65) d_X8_gatherRows_17 (by decide) (fun hc => ?_) (fun hc => ?_)
    · have h := h.1 hc
      refine ac_weak [0, 1, 3] rfl ?_
      exact hE65 x3 f h
    · have h := h.2 hc
      refine ac_aload_n 0 d_X8_gatherRows_20 rfl rfl ?_
      refine ac_iload_n 1 d_X8_gatherRows_21 rfl rfl ?_
      refine ac_aload_n 2 d_X8_gatherRows_22 rfl rfl ?_
      refine ac_iload 4 d_X8_gatherRows_23 rfl ?_
      obtain ⟨⟨fs, hb⟩, h⟩ := h
      refine ac_callV0 cd_X8_suits ml_X8_126 in_X8_suits se_X8_suits rfl hb (c_X8_suits _ _ _ r0 x1 r2 x4 f _ h) rfl rfl (by rw [hro]; decide) rfl (rest := []) rfl (Nat.le_of_ble_eq_true rfl) (by rw [hro]; decide) d_X8_gatherRows_25 (ac_I (fun v5 f4 h => ?_))
      refine ac_if_eq (tgt := 59) d_X8_gatherRows_28 (by decide) (fun hc => ?_) (fun hc => ?_)
      · have h := h.1 hc
        obtain ⟨v6, ev6⟩ : ∃ y : Int32, y = x4 + 1 := ⟨_, rfl⟩
        have h := h v6 ev6
        refine ac_iinc (j := 4) (lv' := [(4, .int v6), (0, .ref r0), (1, .int x1), (2, .ref r2), (3, .int x3)]) d_X8_gatherRows_59 rfl (by rw [ev6]; rfl) (by decide) rfl ?_
        refine ac_goto (tgt := 11) d_X8_gatherRows_62 (by decide) ?_
        refine ac_weak [1, 2, 3, 4, 0] rfl ?_
        exact ih x3 v6 f4 h
      · have h := h.2 hc
        refine ac_aload_n 0 d_X8_gatherRows_31 rfl rfl ?_
        refine ac_iload_n 1 d_X8_gatherRows_32 rfl rfl ?_
        refine ac_aload_n 2 d_X8_gatherRows_33 rfl rfl ?_
        refine ac_iload 4 d_X8_gatherRows_34 rfl ?_
        refine ac_iload_n 3 d_X8_gatherRows_36 rfl rfl ?_
        obtain ⟨⟨fs, hb⟩, h⟩ := h
        refine ac_callV0 cd_X8_isTold ml_X8_130 in_X8_isTold se_X8_isTold rfl hb (c_X8_isTold _ _ _ r0 x1 r2 x4 x3 f4 _ h) rfl rfl (by rw [hro]; decide) rfl (rest := []) rfl (Nat.le_of_ble_eq_true rfl) (by rw [hro]; decide) d_X8_gatherRows_37 (ac_I (fun v8 f7 h => ?_))
        refine ac_if_ne (tgt := 59) d_X8_gatherRows_40 (by decide) (fun hc => ?_) (fun hc => ?_)
        · have h := h.1 hc
          obtain ⟨v9, ev9⟩ : ∃ y : Int32, y = x4 + 1 := ⟨_, rfl⟩
          have h := h v9 ev9
          refine ac_iinc (j := 4) (lv' := [(4, .int v9), (0, .ref r0), (1, .int x1), (2, .ref r2), (3, .int x3)]) d_X8_gatherRows_59 rfl (by rw [ev9]; rfl) (by decide) rfl ?_
          refine ac_goto (tgt := 11) d_X8_gatherRows_62 (by decide) ?_
          refine ac_weak [1, 2, 3, 4, 0] rfl ?_
          exact ih x3 v9 f7 h
        · have h := h.2 hc
          refine ac_aload_n 0 d_X8_gatherRows_43 rfl rfl ?_
          obtain ⟨o10, hr, h⟩ := h
          refine ak_getf hr fl_X8_21 d_X8_gatherRows_44 ?_
          refine ac_iload_n 1 d_X8_gatherRows_47 rfl rfl ?_
          refine ac_bipush (v := 20) d_X8_gatherRows_48 rfl ?_
          refine ac_imul d_X8_gatherRows_50 ?_
          refine ac_iload_n 3 d_X8_gatherRows_51 rfl rfl ?_
          refine ac_iadd d_X8_gatherRows_52 ?_
          refine ac_iload 4 d_X8_gatherRows_53 rfl ?_
          obtain ⟨f11, hr, h⟩ := h
          refine ak_iast 0 hr rfl d_X8_gatherRows_55 ?_
          obtain ⟨v12, ev12⟩ : ∃ y : Int32, y = x3 + 1 := ⟨_, rfl⟩
          have h := h v12 ev12
          refine ac_iinc (j := 3) (lv' := [(3, .int v12), (0, .ref r0), (1, .int x1), (2, .ref r2), (4, .int x4)]) d_X8_gatherRows_56 rfl (by rw [ev12]; rfl) (by decide) rfl ?_
          obtain ⟨v13, ev13⟩ : ∃ y : Int32, y = x4 + 1 := ⟨_, rfl⟩
          have h := h v13 ev13
          refine ac_iinc (j := 4) (lv' := [(4, .int v13), (3, .int v12), (0, .ref r0), (1, .int x1), (2, .ref r2)]) d_X8_gatherRows_59 rfl (by rw [ev13]; rfl) (by decide) rfl ?_
          refine ac_goto (tgt := 11) d_X8_gatherRows_62 (by decide) ?_
          refine ac_weak [2, 3, 4, 1, 0] rfl ?_
          exact ih v12 v13 f11 h

set_option maxRecDepth 20000 in
set_option maxHeartbeats 4000000 in
theorem c_X8_gatherRows (l : Launch) (D : va_G) (ki : Nat → ClassId) (r0 : Nat) (x1 : Int32) (f : ac_hp) (Q : ac_hp → Prop) (h : wp_X8_gatherRows ki r0 x1 f Q) : ac_met l D ki y_X8_gatherRows prog_4_method_6_code 5 none (ro_ 5 0 0) [.ref r0, .int x1] f (qr_V Q) 0 0 := by
  refine ac_enter (fun ki => wp_X8_gatherRows ki r0 x1 f Q) (by decide) (Nat.le_of_ble_eq_true rfl) h ?_
  intro x hro hR hnm h
  unfold wp_X8_gatherRows at h
  refine ac_aload_n 0 d_X8_gatherRows_0 rfl rfl ?_
  refine ac_iload_n 1 d_X8_gatherRows_1 rfl rfl ?_
  obtain ⟨⟨fs, hb⟩, h⟩ := h
  refine ac_callV0 cd_X8_tableOf ml_X8_118 in_X8_tableOf se_X8_tableOf rfl hb (c_X8_tableOf _ _ _ r0 x1 f _ h) rfl rfl (by rw [hro]; decide) rfl (rest := []) rfl (Nat.le_of_ble_eq_true rfl) (by rw [hro]; decide) d_X8_gatherRows_2 (ac_Rf (fun o2 f1 h => ?_))
  refine ac_astore_n (lv' := [(2, .ref o2), (0, .ref r0), (1, .int x1)]) d_X8_gatherRows_5 rfl (by decide) rfl ?_
  refine ac_iconst (v := 0) d_X8_gatherRows_6 rfl ?_
  refine ac_istore_n (lv' := [(3, .int 0), (2, .ref o2), (0, .ref r0), (1, .int x1)]) d_X8_gatherRows_7 rfl (by decide) rfl ?_
  refine ac_iconst (v := 0) d_X8_gatherRows_8 rfl ?_
  refine ac_istore (lv' := [(4, .int 0), (3, .int 0), (2, .ref o2), (0, .ref r0), (1, .int x1)]) d_X8_gatherRows_9 (by decide) rfl ?_
  obtain ⟨n14, h⟩ := h
  refine ac_weak [3, 4, 2, 1, 0] rfl ?_
  refine ok_X8_gatherRows_L11 hro r0 x1 o2 _ (fun y15 f16 h => ?_) n14 0 0 f1 h
  · skip
    refine ac_aload_n 0 d_X8_gatherRows_65 rfl rfl ?_
    obtain ⟨o17, hr, h⟩ := h
    refine ak_getf hr fl_X8_24 d_X8_gatherRows_66 ?_
    refine ac_iload_n 1 d_X8_gatherRows_69 rfl rfl ?_
    refine ac_iload_n 2 d_X8_gatherRows_70 rfl rfl ?_
    obtain ⟨f18, hr, h⟩ := h
    refine ak_iast 0 hr rfl d_X8_gatherRows_71 ?_
    exact ac_vreturn hR ⟨rfl, h⟩ (by decide) (by decide) d_X8_gatherRows_72

def wp_X8_search_L68 (ki : Nat → ClassId) (r0 : Nat) (x1 : Int32) (x2 : Int32) (x3 : Int32) (r4 : Nat) (x5 : Int32) (Q : Int32 → ac_hp → Prop) (E173 : Int32 → Int32 → ac_hp → Prop) (rec : Nat → Int32 → Int32 → ac_hp → (Int32 → ac_hp → Prop) → Prop) : Nat → Int32 → Int32 → Int32 → ac_hp → Prop
  | 0, _, _, _, _ => False
  | n + 1, x6, x7, x8, f => ∃ o13 : Nat, hr_f f r0 8 8 (.ref o13) ∧ ∃ v14 : Int32, hr_i (ki 0) f o13 x3 v14 ∧ ((v14 ≤ x8 → E173 x6 x7 f) ∧ (¬ v14 ≤ x8 → ∃ o15 : Nat, hr_f f r0 8 3 (.ref o15) ∧ ∃ v16 : Int32, hr_f f o15 7 6 (.int v16) ∧ ((¬ v16 = 0 → E173 x6 x7 f) ∧ (v16 = 0 → ∃ o17 : Nat, hr_f f r0 8 7 (.ref o17) ∧ ∃ v18 : Int32, hr_i (ki 0) f o17 ((x3 * 20) + x8) v18 ∧ hr_o f r0 8 ∧ wp_X8_agrees ki r0 x3 r4 v18 x2 f (fun v20 f19 => ((v20 = 0 → ∀ v21 : Int32, v21 = x8 + 1 → wp_X8_search_L68 ki r0 x1 x2 x3 r4 x5 Q E173 rec n x6 x7 v21 f19) ∧ (¬ v20 = 0 → hr_o f19 r0 8 ∧ wp_X8_settleVariables ki r0 x3 r4 v18 f19 (fun f22 => hr_o f22 r0 8 ∧ rec r0 (x1 + 1) x5 f22 (fun v24 f23 => ((¬ v24 = (-1) → ((¬ (v24 &&& (x2 ^^^ (-1))) = 0 → ∀ v25 : Int32, v25 = x6 ||| v24 → ∀ v26 : Int32, v26 = x8 + 1 → wp_X8_search_L68 ki r0 x1 x2 x3 r4 x5 Q E173 rec n v25 x7 v26 f23) ∧ ((v24 &&& (x2 ^^^ (-1))) = 0 → Q v24 f23))) ∧ (v24 = (-1) → ∀ v27 : Int32, v27 = x8 + 1 → wp_X8_search_L68 ki r0 x1 x2 x3 r4 x5 Q E173 rec n x6 1 v27 f23)))))))))))

def wp_X8_search (ki : Nat → ClassId) : Nat → Nat → Int32 → Int32 → ac_hp → (Int32 → ac_hp → Prop) → Prop
  | 0, _, _, _, _, _ => False
  | d + 1, r0, x1, x2, f, Q => ∃ o1 : Nat, hr_f f r0 8 2 (.ref o1) ∧ ∃ v2 : Int32, hr_f f o1 6 4 (.int v2) ∧ ((x1 < v2 → ∃ o3 : Nat, hr_f f r0 8 9 (.ref o3) ∧ ∃ v4 : Int32, hr_i (ki 0) f o3 x1 v4 ∧ hr_o f r0 8 ∧ wp_X8_tableOf ki r0 v4 f (fun o6 f5 => ∃ o7 : Nat, hr_f f5 r0 8 5 (.ref o7) ∧ ∃ v8 : Int32, hr_i (ki 0) f5 o7 v4 v8 ∧ ∀ v9 : Int32, v9 = x2 ||| v8 → ∃ o10 : Nat, hr_f f5 r0 8 5 (.ref o10) ∧ ∃ v11 : Int32, hr_i (ki 0) f5 o10 v4 v11 ∧ ∀ v12 : Int32, v12 = x2 &&& v11 → ∃ n28, wp_X8_search_L68 ki r0 x1 x2 v4 o6 v9 Q (fun y29 y30 f31 => ((y30 = 0 → Q (y29 &&& x2) f31) ∧ (¬ y30 = 0 → Q (-1) f31))) (wp_X8_search ki d) n28 v12 0 0 f5)) ∧ (¬ x1 < v2 → ∃ o32 : Nat, hr_f f r0 8 3 (.ref o32) ∧ ∃ o33 : Nat, hr_f f r0 8 11 (.ref o33) ∧ ∃ v34 : Int32, hr_f f r0 8 12 (.int v34) ∧ hr_o f o32 7 ∧ wp_X7_take ki o32 o33 v34 f (fun f35 => Q (-1) f35)))

set_option maxRecDepth 20000 in
set_option maxHeartbeats 4000000 in
theorem ok_X8_search_L68 {x : ac_X} {d : Nat} (hro : ac_R x = (ro_ (5 + (d + 1)) 0 0)) (r0 : Nat) (x1 : Int32) (x2 : Int32) (x3 : Int32) (r4 : Nat) (x5 : Int32) (Q : Int32 → ac_hp → Prop) (hR : ac_rt x (some .int) (qr_I Q) 0 0) (E173 : Int32 → Int32 → ac_hp → Prop) (hE173 : ∀ (y6 : Int32) (y7 : Int32) (f : ac_hp), E173 y6 y7 f → ac_At (prog_4_method_13_code, 11, "VirtualRewrite$Finder") x 0 0 173 [(2, .int x2), (6, .int y6), (7, .int y7)] [] f) (rec : Nat → Int32 → Int32 → ac_hp → (Int32 → ac_hp → Prop) → Prop) (hrec : ∀ (r0 : Nat) (x1 : Int32) (x2 : Int32) (f : ac_hp) (Q : Int32 → ac_hp → Prop), rec r0 x1 x2 f Q → ac_met (ac_l x) (ac_D x) (ac_ki x) y_X8_search prog_4_method_13_code 11 (some .int) (ro_ (5 + d) 0 0) [.ref r0, .int x1, .int x2] f (qr_I Q) 0 0) : ∀ (n : Nat) (x6 : Int32) (x7 : Int32) (x8 : Int32) (f : ac_hp), wp_X8_search_L68 (ac_ki x) r0 x1 x2 x3 r4 x5 Q E173 rec n x6 x7 x8 f → ac_At (prog_4_method_13_code, 11, "VirtualRewrite$Finder") x 0 0 68 [(0, .ref r0), (1, .int x1), (2, .int x2), (3, .int x3), (4, .ref r4), (5, .int x5), (6, .int x6), (7, .int x7), (8, .int x8)] [] f := by
  intro n
  induction n with
  | zero => intro _ _ _ _ h; exact h.elim
  | succ n ih =>
    intro x6 x7 x8 f h
    rw [wp_X8_search_L68] at h
    refine ac_iload 8 d_X8_search_68 rfl ?_
    refine ac_aload_n 0 d_X8_search_70 rfl rfl ?_
    obtain ⟨o13, hr, h⟩ := h
    refine ak_getf hr fl_X8_24 d_X8_search_71 ?_
    refine ac_iload_n 3 d_X8_search_74 rfl rfl ?_
    obtain ⟨v14, hr, h⟩ := h
    refine ak_iald 0 hr rfl d_X8_search_75 ?_
    refine ac_icmp_ge (tgt := 173) d_X8_search_76 (by decide) (fun hc => ?_) (fun hc => ?_)
    · have h := h.1 hc
      refine ac_weak [2, 6, 7] rfl ?_
      exact hE173 x6 x7 f h
    · have h := h.2 hc
      refine ac_aload_n 0 d_X8_search_79 rfl rfl ?_
      obtain ⟨o15, hr, h⟩ := h
      refine ak_getf hr fl_X8_52 d_X8_search_80 ?_
      obtain ⟨v16, hr, h⟩ := h
      refine ak_getf hr fl_X8_162 d_X8_search_83 ?_
      refine ac_if_ne (tgt := 173) d_X8_search_86 (by decide) (fun hc => ?_) (fun hc => ?_)
      · have h := h.1 hc
        refine ac_weak [2, 6, 7] rfl ?_
        exact hE173 x6 x7 f h
      · have h := h.2 hc
        refine ac_aload_n 0 d_X8_search_89 rfl rfl ?_
        obtain ⟨o17, hr, h⟩ := h
        refine ak_getf hr fl_X8_21 d_X8_search_90 ?_
        refine ac_iload_n 3 d_X8_search_93 rfl rfl ?_
        refine ac_bipush (v := 20) d_X8_search_94 rfl ?_
        refine ac_imul d_X8_search_96 ?_
        refine ac_iload 8 d_X8_search_97 rfl ?_
        refine ac_iadd d_X8_search_99 ?_
        obtain ⟨v18, hr, h⟩ := h
        refine ak_iald 0 hr rfl d_X8_search_100 ?_
        refine ac_istore (lv' := [(9, .int v18), (0, .ref r0), (1, .int x1), (2, .int x2), (3, .int x3), (4, .ref r4), (5, .int x5), (6, .int x6), (7, .int x7), (8, .int x8)]) d_X8_search_101 (by decide) rfl ?_
        refine ac_aload_n 1 d_X8_search_103 rfl rfl ?_
        refine ac_iload_n 4 d_X8_search_104 rfl rfl ?_
        refine ac_aload 5 d_X8_search_105 rfl ?_
        refine ac_iload 0 d_X8_search_107 rfl ?_
        refine ac_iload_n 3 d_X8_search_109 rfl rfl ?_
        obtain ⟨⟨fs, hb⟩, h⟩ := h
        refine ac_callV0 cd_X8_agrees ml_X8_166 in_X8_agrees se_X8_agrees rfl hb (c_X8_agrees _ _ _ r0 x3 r4 v18 x2 f _ h) rfl rfl (by rw [hro]; constructor <;> simp only [ro_] <;> omega) rfl (rest := []) rfl (Nat.le_of_ble_eq_true rfl) (by rw [hro]; constructor <;> simp only [ro_] <;> omega) d_X8_search_110 (ac_I (fun v20 f19 h => ?_))
        refine ac_if_eq (tgt := 167) d_X8_search_113 (by decide) (fun hc => ?_) (fun hc => ?_)
        · have h := h.1 hc
          obtain ⟨v21, ev21⟩ : ∃ y : Int32, y = x8 + 1 := ⟨_, rfl⟩
          have h := h v21 ev21
          refine ac_iinc (j := 9) (lv' := [(8, .int v21), (9, .int v18), (0, .ref r0), (1, .int x1), (2, .int x2), (3, .int x3), (4, .ref r4), (5, .int x5), (6, .int x6), (7, .int x7)]) d_X8_search_167 rfl (by rw [ev21]; rfl) (by decide) rfl ?_
          refine ac_goto (tgt := 68) d_X8_search_170 (by decide) ?_
          refine ac_weak [2, 3, 4, 5, 6, 7, 8, 9, 0] rfl ?_
          exact ih x6 x7 v21 f19 h
        · have h := h.2 hc
          refine ac_aload_n 1 d_X8_search_116 rfl rfl ?_
          refine ac_iload_n 4 d_X8_search_117 rfl rfl ?_
          refine ac_aload 5 d_X8_search_118 rfl ?_
          refine ac_iload 0 d_X8_search_120 rfl ?_
          obtain ⟨⟨fs, hb⟩, h⟩ := h
          refine ac_callV0 cd_X8_settleVariables ml_X8_169 in_X8_settleVariables se_X8_settleVariables rfl hb (c_X8_settleVariables _ _ _ r0 x3 r4 v18 f19 _ h) rfl rfl (by rw [hro]; constructor <;> simp only [ro_] <;> omega) rfl (rest := []) rfl (Nat.le_of_ble_eq_true rfl) (by rw [hro]; constructor <;> simp only [ro_] <;> omega) d_X8_search_122 (ac_V (fun f22 h => ?_))
          refine ac_aload_n 1 d_X8_search_125 rfl rfl ?_
          refine ac_iload_n 2 d_X8_search_126 rfl rfl ?_
          refine ac_iconst (v := 1) d_X8_search_127 rfl ?_
          refine ac_iadd d_X8_search_128 ?_
          refine ac_iload 6 d_X8_search_129 rfl ?_
          obtain ⟨⟨fs, hb⟩, h⟩ := h
          refine ac_callV0 cd_X8_search ml_X8_74 in_X8_search se_X8_search rfl hb (hrec r0 (x1 + 1) x5 f22 _ h) rfl rfl (by rw [hro]; constructor <;> simp only [ro_] <;> omega) rfl (rest := []) rfl (Nat.le_of_ble_eq_true rfl) (by rw [hro]; constructor <;> simp only [ro_] <;> omega) d_X8_search_131 (ac_I (fun v24 f23 h => ?_))
          refine ac_istore (lv' := [(10, .int v24), (9, .int v18), (0, .ref r0), (1, .int x1), (2, .int x2), (3, .int x3), (4, .ref r4), (5, .int x5), (6, .int x6), (7, .int x7), (8, .int x8)]) d_X8_search_134 (by decide) rfl ?_
          refine ac_iload 0 d_X8_search_136 rfl ?_
          refine ac_iconst (v := -1) d_X8_search_138 rfl ?_
          refine ac_icmp_ne (tgt := 148) d_X8_search_139 (by decide) (fun hc => ?_) (fun hc => ?_)
          · have h := h.1 hc
            refine ac_iload 0 d_X8_search_148 rfl ?_
            refine ac_iload_n 4 d_X8_search_150 rfl rfl ?_
            refine ac_iconst (v := -1) d_X8_search_151 rfl ?_
            refine ac_ixor d_X8_search_152 ?_
            refine ac_iand d_X8_search_153 ?_
            refine ac_if_ne (tgt := 160) d_X8_search_154 (by decide) (fun hc => ?_) (fun hc => ?_)
            · have h := h.1 hc
              refine ac_iload 8 d_X8_search_160 rfl ?_
              refine ac_iload 0 d_X8_search_162 rfl ?_
              refine ac_ior d_X8_search_164 ?_
              refine ak_topi (fun v25 ev25 => ?_)
              have h := h v25 ev25
              refine ac_istore (lv' := [(6, .int v25), (10, .int v24), (9, .int v18), (0, .ref r0), (1, .int x1), (2, .int x2), (3, .int x3), (4, .ref r4), (5, .int x5), (7, .int x7), (8, .int x8)]) d_X8_search_165 (by decide) rfl ?_
              obtain ⟨v26, ev26⟩ : ∃ y : Int32, y = x8 + 1 := ⟨_, rfl⟩
              have h := h v26 ev26
              refine ac_iinc (j := 10) (lv' := [(8, .int v26), (6, .int v25), (10, .int v24), (9, .int v18), (0, .ref r0), (1, .int x1), (2, .int x2), (3, .int x3), (4, .ref r4), (5, .int x5), (7, .int x7)]) d_X8_search_167 rfl (by rw [ev26]; rfl) (by decide) rfl ?_
              refine ac_goto (tgt := 68) d_X8_search_170 (by decide) ?_
              refine ac_weak [4, 5, 6, 7, 8, 9, 1, 10, 0] rfl ?_
              exact ih v25 x7 v26 f23 h
            · have h := h.2 hc
              refine ac_iload 0 d_X8_search_157 rfl ?_
              exact ac_ireturn hR rfl ⟨_, rfl, h⟩ (by decide) (by decide) d_X8_search_159
          · have h := h.2 hc
            refine ac_iconst (v := 1) d_X8_search_142 rfl ?_
            refine ac_istore (lv' := [(7, .int 1), (10, .int v24), (9, .int v18), (0, .ref r0), (1, .int x1), (2, .int x2), (3, .int x3), (4, .ref r4), (5, .int x5), (6, .int x6), (8, .int x8)]) d_X8_search_143 (by decide) rfl ?_
            refine ac_goto (tgt := 167) d_X8_search_145 (by decide) ?_
            obtain ⟨v27, ev27⟩ : ∃ y : Int32, y = x8 + 1 := ⟨_, rfl⟩
            have h := h v27 ev27
            refine ac_iinc (j := 10) (lv' := [(8, .int v27), (7, .int 1), (10, .int v24), (9, .int v18), (0, .ref r0), (1, .int x1), (2, .int x2), (3, .int x3), (4, .ref r4), (5, .int x5), (6, .int x6)]) d_X8_search_167 rfl (by rw [ev27]; rfl) (by decide) rfl ?_
            refine ac_goto (tgt := 68) d_X8_search_170 (by decide) ?_
            refine ac_weak [4, 5, 6, 7, 8, 9, 10, 1, 0] rfl ?_
            exact ih x6 1 v27 f23 h

set_option maxRecDepth 20000 in
set_option maxHeartbeats 4000000 in
theorem c_X8_search : ∀ (d : Nat) (l : Launch) (D : va_G) (ki : Nat → ClassId) (r0 : Nat) (x1 : Int32) (x2 : Int32) (f : ac_hp) (Q : Int32 → ac_hp → Prop) (h : wp_X8_search ki d r0 x1 x2 f Q), ac_met l D ki y_X8_search prog_4_method_13_code 11 (some .int) (ro_ (5 + d) 0 0) [.ref r0, .int x1, .int x2] f (qr_I Q) 0 0 := by
  intro d
  induction d with
  | zero => intro _ _ _ _ _ _ _ _ h; exact h.elim
  | succ d ihd =>
    intro l D ki r0 x1 x2 f Q h
    refine ac_enter (fun ki => wp_X8_search ki (d + 1) r0 x1 x2 f Q) (by decide) (Nat.le_of_ble_eq_true rfl) h ?_
    intro x hro hR hnm h
    have hrec := ihd (ac_l x) (ac_D x) (ac_ki x)
    rw [wp_X8_search] at h
    refine ac_iload_n 1 d_X8_search_0 rfl rfl ?_
    refine ac_aload_n 0 d_X8_search_1 rfl rfl ?_
    obtain ⟨o1, hr, h⟩ := h
    refine ak_getf hr fl_X8_48 d_X8_search_2 ?_
    obtain ⟨v2, hr, h⟩ := h
    refine ak_getf hr fl_X8_65 d_X8_search_5 ?_
    refine ac_icmp_lt (tgt := 28) d_X8_search_8 (by decide) (fun hc => ?_) (fun hc => ?_)
    · have h := h.1 hc
      refine ac_aload_n 0 d_X8_search_28 rfl rfl ?_
      obtain ⟨o3, hr, h⟩ := h
      refine ak_getf hr fl_X8_27 d_X8_search_29 ?_
      refine ac_iload_n 1 d_X8_search_32 rfl rfl ?_
      obtain ⟨v4, hr, h⟩ := h
      refine ak_iald 0 hr rfl d_X8_search_33 ?_
      refine ac_istore_n (lv' := [(3, .int v4), (0, .ref r0), (1, .int x1), (2, .int x2)]) d_X8_search_34 rfl (by decide) rfl ?_
      refine ac_aload_n 1 d_X8_search_35 rfl rfl ?_
      refine ac_iload_n 0 d_X8_search_36 rfl rfl ?_
      obtain ⟨⟨fs, hb⟩, h⟩ := h
      refine ac_callV0 cd_X8_tableOf ml_X8_118 in_X8_tableOf se_X8_tableOf rfl hb (c_X8_tableOf _ _ _ r0 v4 f _ h) rfl rfl (by rw [hro]; constructor <;> simp only [ro_] <;> omega) rfl (rest := []) rfl (Nat.le_of_ble_eq_true rfl) (by rw [hro]; constructor <;> simp only [ro_] <;> omega) d_X8_search_37 (ac_Rf (fun o6 f5 h => ?_))
      refine ac_astore (lv' := [(4, .ref o6), (3, .int v4), (0, .ref r0), (1, .int x1), (2, .int x2)]) d_X8_search_40 (by decide) rfl ?_
      refine ac_iload_n 4 d_X8_search_42 rfl rfl ?_
      refine ac_aload_n 2 d_X8_search_43 rfl rfl ?_
      obtain ⟨o7, hr, h⟩ := h
      refine ak_getf hr fl_X8_15 d_X8_search_44 ?_
      refine ac_iload_n 1 d_X8_search_47 rfl rfl ?_
      obtain ⟨v8, hr, h⟩ := h
      refine ak_iald 0 hr rfl d_X8_search_48 ?_
      refine ac_ior d_X8_search_49 ?_
      refine ak_topi (fun v9 ev9 => ?_)
      have h := h v9 ev9
      refine ac_istore (lv' := [(5, .int v9), (4, .ref o6), (3, .int v4), (0, .ref r0), (1, .int x1), (2, .int x2)]) d_X8_search_50 (by decide) rfl ?_
      refine ac_iload_n 5 d_X8_search_52 rfl rfl ?_
      refine ac_aload_n 3 d_X8_search_53 rfl rfl ?_
      obtain ⟨o10, hr, h⟩ := h
      refine ak_getf hr fl_X8_15 d_X8_search_54 ?_
      refine ac_iload_n 2 d_X8_search_57 rfl rfl ?_
      obtain ⟨v11, hr, h⟩ := h
      refine ak_iald 0 hr rfl d_X8_search_58 ?_
      refine ac_iand d_X8_search_59 ?_
      refine ak_topi (fun v12 ev12 => ?_)
      have h := h v12 ev12
      refine ac_istore (lv' := [(6, .int v12), (5, .int v9), (4, .ref o6), (3, .int v4), (0, .ref r0), (1, .int x1), (2, .int x2)]) d_X8_search_60 (by decide) rfl ?_
      refine ac_iconst (v := 0) d_X8_search_62 rfl ?_
      refine ac_istore (lv' := [(7, .int 0), (6, .int v12), (5, .int v9), (4, .ref o6), (3, .int v4), (0, .ref r0), (1, .int x1), (2, .int x2)]) d_X8_search_63 (by decide) rfl ?_
      refine ac_iconst (v := 0) d_X8_search_65 rfl ?_
      refine ac_istore (lv' := [(8, .int 0), (7, .int 0), (6, .int v12), (5, .int v9), (4, .ref o6), (3, .int v4), (0, .ref r0), (1, .int x1), (2, .int x2)]) d_X8_search_66 (by decide) rfl ?_
      obtain ⟨n28, h⟩ := h
      refine ac_weak [6, 7, 8, 5, 4, 3, 2, 1, 0] rfl ?_
      refine ok_X8_search_L68 hro r0 x1 x2 v4 o6 v9 Q hR _ (fun y29 y30 f31 h => ?_) _ hrec n28 v12 0 0 f5 h
      · skip
        refine ac_iload 2 d_X8_search_173 rfl ?_
        refine ac_if_eq (tgt := 182) d_X8_search_175 (by decide) (fun hc => ?_) (fun hc => ?_)
        · have h := h.1 hc
          refine ac_iload 1 d_X8_search_182 rfl ?_
          refine ac_iload_n 0 d_X8_search_184 rfl rfl ?_
          refine ac_iand d_X8_search_185 ?_
          exact ac_ireturn hR rfl ⟨_, rfl, h⟩ (by decide) (by decide) d_X8_search_186
        · have h := h.2 hc
          refine ac_iconst (v := -1) d_X8_search_178 rfl ?_
          refine ac_goto (tgt := 186) d_X8_search_179 (by decide) ?_
          exact ac_ireturn hR rfl ⟨_, rfl, h⟩ (by decide) (by decide) d_X8_search_186
    · have h := h.2 hc
      refine ac_aload_n 0 d_X8_search_11 rfl rfl ?_
      obtain ⟨o32, hr, h⟩ := h
      refine ak_getf hr fl_X8_52 d_X8_search_12 ?_
      refine ac_aload_n 0 d_X8_search_15 rfl rfl ?_
      obtain ⟨o33, hr, h⟩ := h
      refine ak_getf hr fl_X8_33 d_X8_search_16 ?_
      refine ac_aload_n 0 d_X8_search_19 rfl rfl ?_
      obtain ⟨v34, hr, h⟩ := h
      refine ak_getf hr fl_X8_36 d_X8_search_20 ?_
      obtain ⟨⟨fs, hb⟩, h⟩ := h
      refine ac_callV0 cd_X7_take ml_X8_156 in_X7_take se_X7_take rfl hb (c_X7_take _ _ _ o32 o33 v34 f _ h) rfl rfl (by rw [hro]; constructor <;> simp only [ro_] <;> omega) rfl (rest := []) rfl (Nat.le_of_ble_eq_true rfl) (by rw [hro]; constructor <;> simp only [ro_] <;> omega) d_X8_search_23 (ac_V (fun f35 h => ?_))
      refine ac_iconst (v := -1) d_X8_search_26 rfl ?_
      exact ac_ireturn hR rfl ⟨_, rfl, h⟩ (by decide) (by decide) d_X8_search_27
end
section
def wp_X5_refresh (ki : Nat → ClassId) (r0 : Nat) (f : ac_hp) (Q : ac_hp → Prop) : Prop := ∃ v1 : Int32, hr_f f r0 5 7 (.int v1) ∧ ((v1 = 0 → ∃ f2, hw_f f r0 5 5 (.int 0) f2 ∧ ∃ f3, hw_f f2 r0 5 6 (.int 0) f3 ∧ hr_o f3 r0 5 ∧ ∃ d, d ≤ 6 ∧ wp_X5_extend ki d r0 0 0 f3 (fun f4 => ∃ f5, hw_f f4 r0 5 7 (.int 1) f5 ∧ Q f5)) ∧ (¬ v1 = 0 → Q f))

set_option maxRecDepth 20000 in
set_option maxHeartbeats 4000000 in
theorem c_X5_refresh (l : Launch) (D : va_G) (ki : Nat → ClassId) (r0 : Nat) (f : ac_hp) (Q : ac_hp → Prop) (h : wp_X5_refresh ki r0 f Q) : ac_met l D ki y_X5_refresh prog_7_method_6_code 1 none (ro_ 10 0 0) [.ref r0] f (qr_V Q) 0 0 := by
  refine ac_enter (fun ki => wp_X5_refresh ki r0 f Q) (by decide) (Nat.le_of_ble_eq_true rfl) h ?_
  intro x hro hR hnm h
  unfold wp_X5_refresh at h
  refine ac_aload_n 0 d_X5_refresh_0 rfl rfl ?_
  obtain ⟨v1, hr, h⟩ := h
  refine ak_getf hr fl_X5_29 d_X5_refresh_1 ?_
  refine ac_if_eq (tgt := 8) d_X5_refresh_4 (by decide) (fun hc => ?_) (fun hc => ?_)
  · have h := h.1 hc
    refine ac_aload_n 0 d_X5_refresh_8 rfl rfl ?_
    refine ac_iconst (v := 0) d_X5_refresh_9 rfl ?_
    obtain ⟨f2, hr, h⟩ := h
    refine ak_putf hr fp_X5_21 rfl rfl d_X5_refresh_10 ?_
    refine ac_aload_n 0 d_X5_refresh_13 rfl rfl ?_
    refine ac_iconst (v := 0) d_X5_refresh_14 rfl ?_
    obtain ⟨f3, hr, h⟩ := h
    refine ak_putf hr fp_X5_25 rfl rfl d_X5_refresh_15 ?_
    refine ac_aload_n 0 d_X5_refresh_18 rfl rfl ?_
    refine ac_iconst (v := 0) d_X5_refresh_19 rfl ?_
    refine ac_iconst (v := 0) d_X5_refresh_20 rfl ?_
    obtain ⟨⟨fs, hb⟩, h⟩ := h
    obtain ⟨d, hd6, h⟩ := h
    refine ac_callV0 cd_X5_extend ml_X5_58 in_X5_extend se_X5_extend rfl hb (c_X5_extend d _ _ _ r0 0 0 f3 _ h) rfl rfl (by rw [hro]; constructor <;> simp only [ro_] <;> omega) rfl (rest := []) rfl (Nat.le_of_ble_eq_true rfl) (by rw [hro]; constructor <;> simp only [ro_] <;> omega) d_X5_refresh_21 (ac_V (fun f4 h => ?_))
    refine ac_aload_n 0 d_X5_refresh_24 rfl rfl ?_
    refine ac_iconst (v := 1) d_X5_refresh_25 rfl ?_
    obtain ⟨f5, hr, h⟩ := h
    refine ak_putf hr fp_X5_29 rfl rfl d_X5_refresh_26 ?_
    exact ac_vreturn hR ⟨rfl, h⟩ (by decide) (by decide) d_X5_refresh_29
  · have h := h.2 hc
    exact ac_vreturn hR ⟨rfl, h⟩ (by decide) (by decide) d_X5_refresh_7

def wp_X0_unions (ki : Nat → ClassId) (r0 : Nat) (f : ac_hp) (Q : Int32 → ac_hp → Prop) : Prop := ∃ o1 : Nat, hr_f f r0 0 1 (.ref o1) ∧ ∃ v2 : Int32, hr_f f o1 4 4 (.int v2) ∧ ((¬ v2 = 0 → ∃ o3 : Nat, hr_f f r0 0 2 (.ref o3) ∧ hr_o f o3 5 ∧ wp_X5_refresh ki o3 f (fun f4 => ∃ o5 : Nat, hr_f f4 r0 0 2 (.ref o5) ∧ ∃ v6 : Int32, hr_f f4 o5 5 6 (.int v6) ∧ ((v6 = 0 → ∃ o7 : Nat, hr_f f4 r0 0 2 (.ref o7) ∧ ∃ v8 : Int32, hr_f f4 o7 5 5 (.int v8) ∧ Q v8 f4) ∧ (¬ v6 = 0 → Q (-3) f4)))) ∧ (v2 = 0 → Q (-1) f))

set_option maxRecDepth 20000 in
set_option maxHeartbeats 4000000 in
theorem c_X0_unions (l : Launch) (D : va_G) (ki : Nat → ClassId) (r0 : Nat) (f : ac_hp) (Q : Int32 → ac_hp → Prop) (h : wp_X0_unions ki r0 f Q) : ac_met l D ki y_X0_unions prog_1_method_10_code 1 (some .int) (ro_ 11 0 0) [.ref r0] f (qr_I Q) 0 0 := by
  refine ac_enter (fun ki => wp_X0_unions ki r0 f Q) (by decide) (Nat.le_of_ble_eq_true rfl) h ?_
  intro x hro hR hnm h
  unfold wp_X0_unions at h
  refine ac_aload_n 0 d_X0_unions_0 rfl rfl ?_
  obtain ⟨o1, hr, h⟩ := h
  refine ak_getf hr fl_X0_19 d_X0_unions_1 ?_
  obtain ⟨v2, hr, h⟩ := h
  refine ak_getf hr fl_X0_116 d_X0_unions_4 ?_
  refine ac_if_ne (tgt := 12) d_X0_unions_7 (by decide) (fun hc => ?_) (fun hc => ?_)
  · have h := h.1 hc
    refine ac_aload_n 0 d_X0_unions_12 rfl rfl ?_
    obtain ⟨o3, hr, h⟩ := h
    refine ak_getf hr fl_X0_28 d_X0_unions_13 ?_
    obtain ⟨⟨fs, hb⟩, h⟩ := h
    refine ac_callV0 cd_X5_refresh ml_X0_129 in_X5_refresh se_X5_refresh rfl hb (c_X5_refresh _ _ _ o3 f _ h) rfl rfl (by rw [hro]; decide) rfl (rest := []) rfl (Nat.le_of_ble_eq_true rfl) (by rw [hro]; decide) d_X0_unions_16 (ac_V (fun f4 h => ?_))
    refine ac_aload_n 0 d_X0_unions_19 rfl rfl ?_
    obtain ⟨o5, hr, h⟩ := h
    refine ak_getf hr fl_X0_28 d_X0_unions_20 ?_
    obtain ⟨v6, hr, h⟩ := h
    refine ak_getf hr fl_X0_132 d_X0_unions_23 ?_
    refine ac_if_eq (tgt := 34) d_X0_unions_26 (by decide) (fun hc => ?_) (fun hc => ?_)
    · have h := h.1 hc
      refine ac_aload_n 0 d_X0_unions_34 rfl rfl ?_
      obtain ⟨o7, hr, h⟩ := h
      refine ak_getf hr fl_X0_28 d_X0_unions_35 ?_
      obtain ⟨v8, hr, h⟩ := h
      refine ak_getf hr fl_X0_136 d_X0_unions_38 ?_
      exact ac_ireturn hR rfl ⟨_, rfl, h⟩ (by decide) (by decide) d_X0_unions_41
    · have h := h.2 hc
      refine ac_bipush (v := -3) d_X0_unions_29 rfl ?_
      refine ac_goto (tgt := 41) d_X0_unions_31 (by decide) ?_
      exact ac_ireturn hR rfl ⟨_, rfl, h⟩ (by decide) (by decide) d_X0_unions_41
  · have h := h.2 hc
    refine ac_iconst (v := -1) d_X0_unions_10 rfl ?_
    exact ac_ireturn hR rfl ⟨_, rfl, h⟩ (by decide) (by decide) d_X0_unions_11

def wp_X0_troubleWith (ki : Nat → ClassId) (r0 : Nat) (x1 : Int32) (f : ac_hp) (Q : Int32 → ac_hp → Prop) : Prop := ((x1 < 0 → Q (-1) f) ∧ (¬ x1 < 0 → ∃ o1 : Nat, hr_f f r0 0 1 (.ref o1) ∧ ∃ v2 : Int32, hr_f f o1 4 4 (.int v2) ∧ ((¬ v2 = 0 → ∃ o3 : Nat, hr_f f r0 0 2 (.ref o3) ∧ hr_o f o3 5 ∧ wp_X5_refresh ki o3 f (fun f4 => ∃ o5 : Nat, hr_f f4 r0 0 2 (.ref o5) ∧ ∃ v6 : Int32, hr_f f4 o5 5 6 (.int v6) ∧ ((v6 = 0 → ∃ o7 : Nat, hr_f f4 r0 0 2 (.ref o7) ∧ ∃ v8 : Int32, hr_f f4 o7 5 5 (.int v8) ∧ ((v8 ≤ x1 → Q (-1) f4) ∧ (¬ v8 ≤ x1 → Q 0 f4))) ∧ (¬ v6 = 0 → Q (-3) f4)))) ∧ (v2 = 0 → Q (-1) f))))

set_option maxRecDepth 20000 in
set_option maxHeartbeats 4000000 in
theorem c_X0_troubleWith (l : Launch) (D : va_G) (ki : Nat → ClassId) (r0 : Nat) (x1 : Int32) (f : ac_hp) (Q : Int32 → ac_hp → Prop) (h : wp_X0_troubleWith ki r0 x1 f Q) : ac_met l D ki y_X0_troubleWith prog_1_method_17_code 2 (some .int) (ro_ 11 0 0) [.ref r0, .int x1] f (qr_I Q) 0 0 := by
  refine ac_enter (fun ki => wp_X0_troubleWith ki r0 x1 f Q) (by decide) (Nat.le_of_ble_eq_true rfl) h ?_
  intro x hro hR hnm h
  unfold wp_X0_troubleWith at h
  refine ac_iload_n 1 d_X0_troubleWith_0 rfl rfl ?_
  refine ac_if_lt (tgt := 14) d_X0_troubleWith_1 (by decide) (fun hc => ?_) (fun hc => ?_)
  · have h := h.1 hc
    refine ac_iconst (v := -1) d_X0_troubleWith_14 rfl ?_
    exact ac_ireturn hR rfl ⟨_, rfl, h⟩ (by decide) (by decide) d_X0_troubleWith_15
  · have h := h.2 hc
    refine ac_aload_n 0 d_X0_troubleWith_4 rfl rfl ?_
    obtain ⟨o1, hr, h⟩ := h
    refine ak_getf hr fl_X0_19 d_X0_troubleWith_5 ?_
    obtain ⟨v2, hr, h⟩ := h
    refine ak_getf hr fl_X0_116 d_X0_troubleWith_8 ?_
    refine ac_if_ne (tgt := 16) d_X0_troubleWith_11 (by decide) (fun hc => ?_) (fun hc => ?_)
    · have h := h.1 hc
      refine ac_aload_n 0 d_X0_troubleWith_16 rfl rfl ?_
      obtain ⟨o3, hr, h⟩ := h
      refine ak_getf hr fl_X0_28 d_X0_troubleWith_17 ?_
      obtain ⟨⟨fs, hb⟩, h⟩ := h
      refine ac_callV0 cd_X5_refresh ml_X0_129 in_X5_refresh se_X5_refresh rfl hb (c_X5_refresh _ _ _ o3 f _ h) rfl rfl (by rw [hro]; decide) rfl (rest := []) rfl (Nat.le_of_ble_eq_true rfl) (by rw [hro]; decide) d_X0_troubleWith_20 (ac_V (fun f4 h => ?_))
      refine ac_aload_n 0 d_X0_troubleWith_23 rfl rfl ?_
      obtain ⟨o5, hr, h⟩ := h
      refine ak_getf hr fl_X0_28 d_X0_troubleWith_24 ?_
      obtain ⟨v6, hr, h⟩ := h
      refine ak_getf hr fl_X0_132 d_X0_troubleWith_27 ?_
      refine ac_if_eq (tgt := 36) d_X0_troubleWith_30 (by decide) (fun hc => ?_) (fun hc => ?_)
      · have h := h.1 hc
        refine ac_iload_n 1 d_X0_troubleWith_36 rfl rfl ?_
        refine ac_aload_n 0 d_X0_troubleWith_37 rfl rfl ?_
        obtain ⟨o7, hr, h⟩ := h
        refine ak_getf hr fl_X0_28 d_X0_troubleWith_38 ?_
        obtain ⟨v8, hr, h⟩ := h
        refine ak_getf hr fl_X0_136 d_X0_troubleWith_41 ?_
        refine ac_icmp_ge (tgt := 51) d_X0_troubleWith_44 (by decide) (fun hc => ?_) (fun hc => ?_)
        · have h := h.1 hc
          refine ac_iconst (v := -1) d_X0_troubleWith_51 rfl ?_
          exact ac_ireturn hR rfl ⟨_, rfl, h⟩ (by decide) (by decide) d_X0_troubleWith_52
        · have h := h.2 hc
          refine ac_iconst (v := 0) d_X0_troubleWith_47 rfl ?_
          refine ac_goto (tgt := 52) d_X0_troubleWith_48 (by decide) ?_
          exact ac_ireturn hR rfl ⟨_, rfl, h⟩ (by decide) (by decide) d_X0_troubleWith_52
      · have h := h.2 hc
        refine ac_bipush (v := -3) d_X0_troubleWith_33 rfl ?_
        exact ac_ireturn hR rfl ⟨_, rfl, h⟩ (by decide) (by decide) d_X0_troubleWith_35
    · have h := h.2 hc
      refine ac_iconst (v := -1) d_X0_troubleWith_14 rfl ?_
      exact ac_ireturn hR rfl ⟨_, rfl, h⟩ (by decide) (by decide) d_X0_troubleWith_15

def wp_X0_union (ki : Nat → ClassId) (r0 : Nat) (x1 : Int32) (x2 : Int32) (f : ac_hp) (Q : Int32 → ac_hp → Prop) : Prop := hr_o f r0 0 ∧ wp_X0_isAsked ki r0 x2 f (fun v2 f1 => ((¬ v2 = 0 → hr_o f1 r0 0 ∧ wp_X0_troubleWith ki r0 x1 f1 (fun v4 f3 => ((v4 = 0 → ((4 ≤ x2 → ∃ o5 : Nat, hr_f f3 r0 0 3 (.ref o5) ∧ hr_o f3 o5 6 ∧ wp_X6_assign ki o5 x1 f3 (fun f6 => ((8 ≤ x2 → ∃ o7 : Nat, hr_f f6 r0 0 3 (.ref o7) ∧ ∃ v8 : Int32, hr_f f6 o7 6 4 (.int v8) ∧ Q v8 f6) ∧ (¬ 8 ≤ x2 → ∃ o9 : Nat, hr_f f6 r0 0 3 (.ref o9) ∧ ∃ o10 : Nat, hr_f f6 o9 6 3 (.ref o10) ∧ ∃ v11 : Int32, hr_i (ki 0) f6 o10 (x2 - 4) v11 ∧ Q v11 f6)))) ∧ (¬ 4 ≤ x2 → ∃ o12 : Nat, hr_f f3 r0 0 2 (.ref o12) ∧ hr_o f3 o12 5 ∧ wp_X5_chosen ki o12 x1 x2 f3 (fun v14 f13 => Q v14 f13)))) ∧ (¬ v4 = 0 → Q v4 f3)))) ∧ (v2 = 0 → Q (-1) f1)))

set_option maxRecDepth 20000 in
set_option maxHeartbeats 4000000 in
theorem c_X0_union (l : Launch) (D : va_G) (ki : Nat → ClassId) (r0 : Nat) (x1 : Int32) (x2 : Int32) (f : ac_hp) (Q : Int32 → ac_hp → Prop) (h : wp_X0_union ki r0 x1 x2 f Q) : ac_met l D ki y_X0_union prog_1_method_11_code 4 (some .int) (ro_ 12 0 0) [.ref r0, .int x1, .int x2] f (qr_I Q) 0 0 := by
  refine ac_enter (fun ki => wp_X0_union ki r0 x1 x2 f Q) (by decide) (Nat.le_of_ble_eq_true rfl) h ?_
  intro x hro hR hnm h
  unfold wp_X0_union at h
  refine ac_aload_n 0 d_X0_union_0 rfl rfl ?_
  refine ac_iload_n 2 d_X0_union_1 rfl rfl ?_
  obtain ⟨⟨fs, hb⟩, h⟩ := h
  refine ac_callV0 cd_X0_isAsked ml_X0_137 in_X0_isAsked se_X0_isAsked rfl hb (c_X0_isAsked _ _ _ r0 x2 f _ h) rfl rfl (by rw [hro]; decide) rfl (rest := []) rfl (Nat.le_of_ble_eq_true rfl) (by rw [hro]; decide) d_X0_union_2 (ac_I (fun v2 f1 h => ?_))
  refine ac_if_ne (tgt := 10) d_X0_union_5 (by decide) (fun hc => ?_) (fun hc => ?_)
  · have h := h.1 hc
    refine ac_aload_n 0 d_X0_union_10 rfl rfl ?_
    refine ac_iload_n 1 d_X0_union_11 rfl rfl ?_
    obtain ⟨⟨fs, hb⟩, h⟩ := h
    refine ac_callV0 cd_X0_troubleWith ml_X0_140 in_X0_troubleWith se_X0_troubleWith rfl hb (c_X0_troubleWith _ _ _ r0 x1 f1 _ h) rfl rfl (by rw [hro]; decide) rfl (rest := []) rfl (Nat.le_of_ble_eq_true rfl) (by rw [hro]; decide) d_X0_union_12 (ac_I (fun v4 f3 h => ?_))
    refine ac_istore_n (lv' := [(3, .int v4), (0, .ref r0), (1, .int x1), (2, .int x2)]) d_X0_union_15 rfl (by decide) rfl ?_
    refine ac_iload_n 0 d_X0_union_16 rfl rfl ?_
    refine ac_if_eq (tgt := 22) d_X0_union_17 (by decide) (fun hc => ?_) (fun hc => ?_)
    · have h := h.1 hc
      refine ac_iload_n 3 d_X0_union_22 rfl rfl ?_
      refine ac_iconst (v := 4) d_X0_union_23 rfl ?_
      refine ac_icmp_ge (tgt := 37) d_X0_union_24 (by decide) (fun hc => ?_) (fun hc => ?_)
      · have h := h.1 hc
        refine ac_aload_n 1 d_X0_union_37 rfl rfl ?_
        obtain ⟨o5, hr, h⟩ := h
        refine ak_getf hr fl_X0_37 d_X0_union_38 ?_
        refine ac_iload_n 2 d_X0_union_41 rfl rfl ?_
        obtain ⟨⟨fs, hb⟩, h⟩ := h
        refine ac_callV0 cd_X6_assign ml_X0_148 in_X6_assign se_X6_assign rfl hb (c_X6_assign _ _ _ o5 x1 f3 _ h) rfl rfl (by rw [hro]; decide) rfl (rest := []) rfl (Nat.le_of_ble_eq_true rfl) (by rw [hro]; decide) d_X0_union_42 (ac_V (fun f6 h => ?_))
        refine ac_iload_n 3 d_X0_union_45 rfl rfl ?_
        refine ac_bipush (v := 8) d_X0_union_46 rfl ?_
        refine ac_icmp_ge (tgt := 65) d_X0_union_48 (by decide) (fun hc => ?_) (fun hc => ?_)
        · have h := h.1 hc
          refine ac_aload_n 1 d_X0_union_65 rfl rfl ?_
          obtain ⟨o7, hr, h⟩ := h
          refine ak_getf hr fl_X0_37 d_X0_union_66 ?_
          obtain ⟨v8, hr, h⟩ := h
          refine ak_getf hr fl_X0_155 d_X0_union_69 ?_
          exact ac_ireturn hR rfl ⟨_, rfl, h⟩ (by decide) (by decide) d_X0_union_72
        · have h := h.2 hc
          refine ac_aload_n 1 d_X0_union_51 rfl rfl ?_
          obtain ⟨o9, hr, h⟩ := h
          refine ak_getf hr fl_X0_37 d_X0_union_52 ?_
          obtain ⟨o10, hr, h⟩ := h
          refine ak_getf hr fl_X0_151 d_X0_union_55 ?_
          refine ac_iload_n 3 d_X0_union_58 rfl rfl ?_
          refine ac_iconst (v := 4) d_X0_union_59 rfl ?_
          refine ac_isub d_X0_union_60 ?_
          obtain ⟨v11, hr, h⟩ := h
          refine ak_iald 0 hr rfl d_X0_union_61 ?_
          refine ac_goto (tgt := 72) d_X0_union_62 (by decide) ?_
          exact ac_ireturn hR rfl ⟨_, rfl, h⟩ (by decide) (by decide) d_X0_union_72
      · have h := h.2 hc
        refine ac_aload_n 1 d_X0_union_27 rfl rfl ?_
        obtain ⟨o12, hr, h⟩ := h
        refine ak_getf hr fl_X0_28 d_X0_union_28 ?_
        refine ac_iload_n 2 d_X0_union_31 rfl rfl ?_
        refine ac_iload_n 3 d_X0_union_32 rfl rfl ?_
        obtain ⟨⟨fs, hb⟩, h⟩ := h
        refine ac_callV0 cd_X5_chosen ml_X0_144 in_X5_chosen se_X5_chosen rfl hb (c_X5_chosen _ _ _ o12 x1 x2 f3 _ h) rfl rfl (by rw [hro]; decide) rfl (rest := []) rfl (Nat.le_of_ble_eq_true rfl) (by rw [hro]; decide) d_X0_union_33 (ac_I (fun v14 f13 h => ?_))
        exact ac_ireturn hR rfl ⟨_, rfl, h⟩ (by decide) (by decide) d_X0_union_36
    · have h := h.2 hc
      refine ac_iload_n 0 d_X0_union_20 rfl rfl ?_
      exact ac_ireturn hR rfl ⟨_, rfl, h⟩ (by decide) (by decide) d_X0_union_21
  · have h := h.2 hc
    refine ac_iconst (v := -1) d_X0_union_8 rfl ?_
    exact ac_ireturn hR rfl ⟨_, rfl, h⟩ (by decide) (by decide) d_X0_union_9

def wp_X0_estimate (ki : Nat → ClassId) (r0 : Nat) (x1 : Int32) (f : ac_hp) (Q : Int32 → ac_hp → Prop) : Prop := hr_o f r0 0 ∧ wp_X0_troubleWith ki r0 x1 f (fun v2 f1 => ((v2 = 0 → ∃ o3 : Nat, hr_f f1 r0 0 3 (.ref o3) ∧ hr_o f1 o3 6 ∧ wp_X6_assign ki o3 x1 f1 (fun f4 => ∃ o5 : Nat, hr_f f4 r0 0 3 (.ref o5) ∧ hr_o f4 o5 6 ∧ wp_X6_productOfRows ki o5 x1 f4 (fun v7 f6 => Q v7 f6))) ∧ (¬ v2 = 0 → Q v2 f1)))

set_option maxRecDepth 20000 in
set_option maxHeartbeats 4000000 in
theorem c_X0_estimate (l : Launch) (D : va_G) (ki : Nat → ClassId) (r0 : Nat) (x1 : Int32) (f : ac_hp) (Q : Int32 → ac_hp → Prop) (h : wp_X0_estimate ki r0 x1 f Q) : ac_met l D ki y_X0_estimate prog_1_method_12_code 3 (some .int) (ro_ 12 0 0) [.ref r0, .int x1] f (qr_I Q) 0 0 := by
  refine ac_enter (fun ki => wp_X0_estimate ki r0 x1 f Q) (by decide) (Nat.le_of_ble_eq_true rfl) h ?_
  intro x hro hR hnm h
  unfold wp_X0_estimate at h
  refine ac_aload_n 0 d_X0_estimate_0 rfl rfl ?_
  refine ac_iload_n 1 d_X0_estimate_1 rfl rfl ?_
  obtain ⟨⟨fs, hb⟩, h⟩ := h
  refine ac_callV0 cd_X0_troubleWith ml_X0_140 in_X0_troubleWith se_X0_troubleWith rfl hb (c_X0_troubleWith _ _ _ r0 x1 f _ h) rfl rfl (by rw [hro]; decide) rfl (rest := []) rfl (Nat.le_of_ble_eq_true rfl) (by rw [hro]; decide) d_X0_estimate_2 (ac_I (fun v2 f1 h => ?_))
  refine ac_istore_n (lv' := [(2, .int v2), (0, .ref r0), (1, .int x1)]) d_X0_estimate_5 rfl (by decide) rfl ?_
  refine ac_iload_n 0 d_X0_estimate_6 rfl rfl ?_
  refine ac_if_eq (tgt := 12) d_X0_estimate_7 (by decide) (fun hc => ?_) (fun hc => ?_)
  · have h := h.1 hc
    refine ac_aload_n 1 d_X0_estimate_12 rfl rfl ?_
    obtain ⟨o3, hr, h⟩ := h
    refine ak_getf hr fl_X0_37 d_X0_estimate_13 ?_
    refine ac_iload_n 2 d_X0_estimate_16 rfl rfl ?_
    obtain ⟨⟨fs, hb⟩, h⟩ := h
    refine ac_callV0 cd_X6_assign ml_X0_148 in_X6_assign se_X6_assign rfl hb (c_X6_assign _ _ _ o3 x1 f1 _ h) rfl rfl (by rw [hro]; decide) rfl (rest := []) rfl (Nat.le_of_ble_eq_true rfl) (by rw [hro]; decide) d_X0_estimate_17 (ac_V (fun f4 h => ?_))
    refine ac_aload_n 1 d_X0_estimate_20 rfl rfl ?_
    obtain ⟨o5, hr, h⟩ := h
    refine ak_getf hr fl_X0_37 d_X0_estimate_21 ?_
    refine ac_iload_n 2 d_X0_estimate_24 rfl rfl ?_
    obtain ⟨⟨fs, hb⟩, h⟩ := h
    refine ac_callV0 cd_X6_productOfRows ml_X0_158 in_X6_productOfRows se_X6_productOfRows rfl hb (c_X6_productOfRows _ _ _ o5 x1 f4 _ h) rfl rfl (by rw [hro]; decide) rfl (rest := []) rfl (Nat.le_of_ble_eq_true rfl) (by rw [hro]; decide) d_X0_estimate_25 (ac_I (fun v7 f6 h => ?_))
    exact ac_ireturn hR rfl ⟨_, rfl, h⟩ (by decide) (by decide) d_X0_estimate_28
  · have h := h.2 hc
    refine ac_iload_n 0 d_X0_estimate_10 rfl rfl ?_
    exact ac_ireturn hR rfl ⟨_, rfl, h⟩ (by decide) (by decide) d_X0_estimate_11

def wp_X8_find_L21 (ki : Nat → ClassId) (r0 : Nat) (E62 : Int32 → ac_hp → Prop) : Nat → Int32 → Int32 → ac_hp → Prop
  | 0, _, _, _ => False
  | n + 1, x2, x3, f => ∃ o5 : Nat, hr_f f r0 8 2 (.ref o5) ∧ ∃ v6 : Int32, hr_f f o5 6 4 (.int v6) ∧ ((v6 ≤ x3 → E62 x2 f) ∧ (¬ v6 ≤ x3 → ((x2 = 0 → E62 x2 f) ∧ (¬ x2 = 0 → hr_o f r0 8 ∧ wp_X8_gatherRows ki r0 x3 f (fun f7 => ∃ o8 : Nat, hr_f f7 r0 8 8 (.ref o8) ∧ ∃ v9 : Int32, hr_i (ki 0) f7 o8 x3 v9 ∧ ((v9 ≤ 0 → ∀ v10 : Int32, v10 = x3 + 1 → wp_X8_find_L21 ki r0 E62 n 0 v10 f7) ∧ (¬ v9 ≤ 0 → ∀ v11 : Int32, v11 = x3 + 1 → wp_X8_find_L21 ki r0 E62 n 1 v11 f7)))))))

def wp_X8_find (ki : Nat → ClassId) (r0 : Nat) (x1 : Int32) (f : ac_hp) (Q : ac_hp → Prop) : Prop := ∃ f1, hw_f f r0 8 12 (.int x1) f1 ∧ ∃ o2 : Nat, hr_f f1 r0 8 2 (.ref o2) ∧ hr_o f1 o2 6 ∧ wp_X6_assign ki o2 x1 f1 (fun f3 => hr_o f3 r0 8 ∧ wp_X8_layOut ki r0 f3 (fun f4 => ∃ n12, wp_X8_find_L21 ki r0 (fun y13 f14 => ((y13 = 0 → Q f14) ∧ (¬ y13 = 0 → hr_o f14 r0 8 ∧ wp_X8_orderSlots ki r0 f14 (fun f15 => hr_o f15 r0 8 ∧ ∃ d, d ≤ 6 ∧ wp_X8_search ki d r0 0 0 f15 (fun v17 f16 => Q f16))))) n12 1 0 f4))

set_option maxRecDepth 20000 in
set_option maxHeartbeats 4000000 in
theorem ok_X8_find_L21 {x : ac_X} (hro : ac_R x = (ro_ 12 0 0)) (r0 : Nat) (E62 : Int32 → ac_hp → Prop) (hE62 : ∀ (y2 : Int32) (f : ac_hp), E62 y2 f → ac_At (prog_4_method_2_code, 4, "VirtualRewrite$Finder") x 0 0 62 [(0, .ref r0), (2, .int y2)] [] f) : ∀ (n : Nat) (x2 : Int32) (x3 : Int32) (f : ac_hp), wp_X8_find_L21 (ac_ki x) r0 E62 n x2 x3 f → ac_At (prog_4_method_2_code, 4, "VirtualRewrite$Finder") x 0 0 21 [(0, .ref r0), (2, .int x2), (3, .int x3)] [] f := by
  intro n
  induction n with
  | zero => intro _ _ _ h; exact h.elim
  | succ n ih =>
    intro x2 x3 f h
    rw [wp_X8_find_L21] at h
    refine ac_iload_n 2 d_X8_find_21 rfl rfl ?_
    refine ac_aload_n 0 d_X8_find_22 rfl rfl ?_
    obtain ⟨o5, hr, h⟩ := h
    refine ak_getf hr fl_X8_48 d_X8_find_23 ?_
    obtain ⟨v6, hr, h⟩ := h
    refine ak_getf hr fl_X8_65 d_X8_find_26 ?_
    refine ac_icmp_ge (tgt := 62) d_X8_find_29 (by decide) (fun hc => ?_) (fun hc => ?_)
    · have h := h.1 hc
      refine ac_weak [0, 1] rfl ?_
      exact hE62 x2 f h
    · have h := h.2 hc
      refine ac_iload_n 1 d_X8_find_32 rfl rfl ?_
      refine ac_if_eq (tgt := 62) d_X8_find_33 (by decide) (fun hc => ?_) (fun hc => ?_)
      · have h := h.1 hc
        refine ac_weak [0, 1] rfl ?_
        exact hE62 x2 f h
      · have h := h.2 hc
        refine ac_aload_n 0 d_X8_find_36 rfl rfl ?_
        refine ac_iload_n 2 d_X8_find_37 rfl rfl ?_
        obtain ⟨⟨fs, hb⟩, h⟩ := h
        refine ac_callV0 cd_X8_gatherRows ml_X8_68 in_X8_gatherRows se_X8_gatherRows rfl hb (c_X8_gatherRows _ _ _ r0 x3 f _ h) rfl rfl (by rw [hro]; decide) rfl (rest := []) rfl (Nat.le_of_ble_eq_true rfl) (by rw [hro]; decide) d_X8_find_38 (ac_V (fun f7 h => ?_))
        refine ac_aload_n 0 d_X8_find_41 rfl rfl ?_
        obtain ⟨o8, hr, h⟩ := h
        refine ak_getf hr fl_X8_24 d_X8_find_42 ?_
        refine ac_iload_n 2 d_X8_find_45 rfl rfl ?_
        obtain ⟨v9, hr, h⟩ := h
        refine ak_iald 0 hr rfl d_X8_find_46 ?_
        refine ac_if_le (tgt := 54) d_X8_find_47 (by decide) (fun hc => ?_) (fun hc => ?_)
        · have h := h.1 hc
          refine ac_iconst (v := 0) d_X8_find_54 rfl ?_
          refine ac_istore_n (lv' := [(2, .int 0), (0, .ref r0), (3, .int x3)]) d_X8_find_55 rfl (by decide) rfl ?_
          obtain ⟨v10, ev10⟩ : ∃ y : Int32, y = x3 + 1 := ⟨_, rfl⟩
          have h := h v10 ev10
          refine ac_iinc (j := 2) (lv' := [(3, .int v10), (2, .int 0), (0, .ref r0)]) d_X8_find_56 rfl (by rw [ev10]; rfl) (by decide) rfl ?_
          refine ac_goto (tgt := 21) d_X8_find_59 (by decide) ?_
          refine ac_weak [2, 1, 0] rfl ?_
          exact ih 0 v10 f7 h
        · have h := h.2 hc
          refine ac_iconst (v := 1) d_X8_find_50 rfl ?_
          refine ac_goto (tgt := 55) d_X8_find_51 (by decide) ?_
          refine ac_istore_n (lv' := [(2, .int 1), (0, .ref r0), (3, .int x3)]) d_X8_find_55 rfl (by decide) rfl ?_
          obtain ⟨v11, ev11⟩ : ∃ y : Int32, y = x3 + 1 := ⟨_, rfl⟩
          have h := h v11 ev11
          refine ac_iinc (j := 2) (lv' := [(3, .int v11), (2, .int 1), (0, .ref r0)]) d_X8_find_56 rfl (by rw [ev11]; rfl) (by decide) rfl ?_
          refine ac_goto (tgt := 21) d_X8_find_59 (by decide) ?_
          refine ac_weak [2, 1, 0] rfl ?_
          exact ih 1 v11 f7 h

set_option maxRecDepth 20000 in
set_option maxHeartbeats 4000000 in
theorem c_X8_find (l : Launch) (D : va_G) (ki : Nat → ClassId) (r0 : Nat) (x1 : Int32) (f : ac_hp) (Q : ac_hp → Prop) (h : wp_X8_find ki r0 x1 f Q) : ac_met l D ki y_X8_find prog_4_method_2_code 4 none (ro_ 12 0 0) [.ref r0, .int x1] f (qr_V Q) 0 0 := by
  refine ac_enter (fun ki => wp_X8_find ki r0 x1 f Q) (by decide) (Nat.le_of_ble_eq_true rfl) h ?_
  intro x hro hR hnm h
  unfold wp_X8_find at h
  refine ac_aload_n 0 d_X8_find_0 rfl rfl ?_
  refine ac_iload_n 1 d_X8_find_1 rfl rfl ?_
  obtain ⟨f1, hr, h⟩ := h
  refine ak_putf hr fp_X8_36 rfl rfl d_X8_find_2 ?_
  refine ac_aload_n 0 d_X8_find_5 rfl rfl ?_
  obtain ⟨o2, hr, h⟩ := h
  refine ak_getf hr fl_X8_48 d_X8_find_6 ?_
  refine ac_iload_n 1 d_X8_find_9 rfl rfl ?_
  obtain ⟨⟨fs, hb⟩, h⟩ := h
  refine ac_callV0 cd_X6_assign ml_X8_56 in_X6_assign se_X6_assign rfl hb (c_X6_assign _ _ _ o2 x1 f1 _ h) rfl rfl (by rw [hro]; decide) rfl (rest := []) rfl (Nat.le_of_ble_eq_true rfl) (by rw [hro]; decide) d_X8_find_10 (ac_V (fun f3 h => ?_))
  refine ac_aload_n 0 d_X8_find_13 rfl rfl ?_
  obtain ⟨⟨fs, hb⟩, h⟩ := h
  refine ac_callV0 cd_X8_layOut ml_X8_62 in_X8_layOut se_X8_layOut rfl hb (c_X8_layOut _ _ _ r0 f3 _ h) rfl rfl (by rw [hro]; decide) rfl (rest := []) rfl (Nat.le_of_ble_eq_true rfl) (by rw [hro]; decide) d_X8_find_14 (ac_V (fun f4 h => ?_))
  refine ac_iconst (v := 1) d_X8_find_17 rfl ?_
  refine ac_istore_n (lv' := [(2, .int 1), (0, .ref r0), (1, .int x1)]) d_X8_find_18 rfl (by decide) rfl ?_
  refine ac_iconst (v := 0) d_X8_find_19 rfl ?_
  refine ac_istore_n (lv' := [(3, .int 0), (2, .int 1), (0, .ref r0), (1, .int x1)]) d_X8_find_20 rfl (by decide) rfl ?_
  obtain ⟨n12, h⟩ := h
  refine ac_weak [2, 1, 0] rfl ?_
  refine ok_X8_find_L21 hro r0 _ (fun y13 f14 h => ?_) n12 1 0 f4 h
  · skip
    refine ac_iload_n 1 d_X8_find_62 rfl rfl ?_
    refine ac_if_eq (tgt := 77) d_X8_find_63 (by decide) (fun hc => ?_) (fun hc => ?_)
    · have h := h.1 hc
      exact ac_vreturn hR ⟨rfl, h⟩ (by decide) (by decide) d_X8_find_77
    · have h := h.2 hc
      refine ac_aload_n 0 d_X8_find_66 rfl rfl ?_
      obtain ⟨⟨fs, hb⟩, h⟩ := h
      refine ac_callV0 cd_X8_orderSlots ml_X8_71 in_X8_orderSlots se_X8_orderSlots rfl hb (c_X8_orderSlots _ _ _ r0 f14 _ h) rfl rfl (by rw [hro]; decide) rfl (rest := []) rfl (Nat.le_of_ble_eq_true rfl) (by rw [hro]; decide) d_X8_find_67 (ac_V (fun f15 h => ?_))
      refine ac_aload_n 0 d_X8_find_70 rfl rfl ?_
      refine ac_iconst (v := 0) d_X8_find_71 rfl ?_
      refine ac_iconst (v := 0) d_X8_find_72 rfl ?_
      obtain ⟨⟨fs, hb⟩, h⟩ := h
      obtain ⟨d, hd6, h⟩ := h
      refine ac_callV0 cd_X8_search ml_X8_74 in_X8_search se_X8_search rfl hb (c_X8_search d _ _ _ r0 0 0 f15 _ h) rfl rfl (by rw [hro]; constructor <;> simp only [ro_] <;> omega) rfl (rest := []) rfl (Nat.le_of_ble_eq_true rfl) (by rw [hro]; constructor <;> simp only [ro_] <;> omega) d_X8_find_73 (ac_I (fun v17 f16 h => ?_))
      refine ac_pop d_X8_find_76 rfl ?_
      exact ac_vreturn hR ⟨rfl, h⟩ (by decide) (by decide) d_X8_find_77

def wp_X0_run_L48 (ki : Nat → ClassId) (r0 : Nat) (E83 : ac_hp → Prop) : Nat → Int32 → ac_hp → Prop
  | 0, _, _ => False
  | n + 1, x1, f => ∃ o12 : Nat, hr_f f r0 0 2 (.ref o12) ∧ ∃ v13 : Int32, hr_f f o12 5 5 (.int v13) ∧ ((v13 ≤ x1 → E83  f) ∧ (¬ v13 ≤ x1 → ∃ o14 : Nat, hr_f f r0 0 4 (.ref o14) ∧ ∃ v15 : Int32, hr_f f o14 7 6 (.int v15) ∧ ((¬ v15 = 0 → E83  f) ∧ (v15 = 0 → ∃ o16 : Nat, hr_f f r0 0 5 (.ref o16) ∧ hr_o f o16 8 ∧ wp_X8_find ki o16 x1 f (fun f17 => ∀ v18 : Int32, v18 = x1 + 1 → wp_X0_run_L48 ki r0 E83 n v18 f17)))))

def wp_X0_run (ki : Nat → ClassId) (r0 : Nat) (f : ac_hp) (Q : Int32 → ac_hp → Prop) : Prop := ∃ o1 : Nat, hr_f f r0 0 4 (.ref o1) ∧ ∃ o2 : Nat, hr_f f r0 0 1 (.ref o2) ∧ hr_o f o2 4 ∧ wp_X4_variables ki o2 f (fun v4 f3 => hr_o f3 o1 7 ∧ wp_X7_begin ki o1 v4 f3 (fun f5 => ∃ o6 : Nat, hr_f f5 r0 0 1 (.ref o6) ∧ ∃ v7 : Int32, hr_f f5 o6 4 4 (.int v7) ∧ ((¬ v7 = 0 → ∃ o8 : Nat, hr_f f5 r0 0 2 (.ref o8) ∧ hr_o f5 o8 5 ∧ wp_X5_refresh ki o8 f5 (fun f9 => ∃ o10 : Nat, hr_f f9 r0 0 2 (.ref o10) ∧ ∃ v11 : Int32, hr_f f9 o10 5 6 (.int v11) ∧ ((v11 = 0 → ∃ n19, wp_X0_run_L48 ki r0 (fun f20 => ∃ o21 : Nat, hr_f f20 r0 0 4 (.ref o21) ∧ ∃ v22 : Int32, hr_f f20 o21 7 6 (.int v22) ∧ ((v22 = 0 → ∃ o23 : Nat, hr_f f20 r0 0 4 (.ref o23) ∧ ∃ v24 : Int32, hr_f f20 o23 7 4 (.int v24) ∧ Q v24 f20) ∧ (¬ v22 = 0 → ∃ o25 : Nat, hr_f f20 r0 0 4 (.ref o25) ∧ ∃ f26, hw_f f20 o25 7 4 (.int 0) f26 ∧ Q (-3) f26))) n19 0 f9) ∧ (¬ v11 = 0 → Q (-3) f9)))) ∧ (v7 = 0 → Q (-1) f5))))

set_option maxRecDepth 20000 in
set_option maxHeartbeats 4000000 in
theorem ok_X0_run_L48 {x : ac_X} (hro : ac_R x = (ro_ 13 0 0)) (r0 : Nat) (E83 : ac_hp → Prop) (hE83 : ∀ (f : ac_hp), E83 f → ac_At (prog_1_method_13_code, 2, "VirtualRewrite") x 0 0 83 [(0, .ref r0)] [] f) : ∀ (n : Nat) (x1 : Int32) (f : ac_hp), wp_X0_run_L48 (ac_ki x) r0 E83 n x1 f → ac_At (prog_1_method_13_code, 2, "VirtualRewrite") x 0 0 48 [(0, .ref r0), (1, .int x1)] [] f := by
  intro n
  induction n with
  | zero => intro _ _ h; exact h.elim
  | succ n ih =>
    intro x1 f h
    rw [wp_X0_run_L48] at h
    refine ac_iload_n 1 d_X0_run_48 rfl rfl ?_
    refine ac_aload_n 0 d_X0_run_49 rfl rfl ?_
    obtain ⟨o12, hr, h⟩ := h
    refine ak_getf hr fl_X0_28 d_X0_run_50 ?_
    obtain ⟨v13, hr, h⟩ := h
    refine ak_getf hr fl_X0_136 d_X0_run_53 ?_
    refine ac_icmp_ge (tgt := 83) d_X0_run_56 (by decide) (fun hc => ?_) (fun hc => ?_)
    · have h := h.1 hc
      refine ac_weak [0] rfl ?_
      exact hE83  f h
    · have h := h.2 hc
      refine ac_aload_n 0 d_X0_run_59 rfl rfl ?_
      obtain ⟨o14, hr, h⟩ := h
      refine ak_getf hr fl_X0_44 d_X0_run_60 ?_
      obtain ⟨v15, hr, h⟩ := h
      refine ak_getf hr fl_X0_167 d_X0_run_63 ?_
      refine ac_if_ne (tgt := 83) d_X0_run_66 (by decide) (fun hc => ?_) (fun hc => ?_)
      · have h := h.1 hc
        refine ac_weak [0] rfl ?_
        exact hE83  f h
      · have h := h.2 hc
        refine ac_aload_n 0 d_X0_run_69 rfl rfl ?_
        obtain ⟨o16, hr, h⟩ := h
        refine ak_getf hr fl_X0_53 d_X0_run_70 ?_
        refine ac_iload_n 1 d_X0_run_73 rfl rfl ?_
        obtain ⟨⟨fs, hb⟩, h⟩ := h
        refine ac_callV0 cd_X8_find ml_X0_168 in_X8_find se_X8_find rfl hb (c_X8_find _ _ _ o16 x1 f _ h) rfl rfl (by rw [hro]; decide) rfl (rest := []) rfl (Nat.le_of_ble_eq_true rfl) (by rw [hro]; decide) d_X0_run_74 (ac_V (fun f17 h => ?_))
        obtain ⟨v18, ev18⟩ : ∃ y : Int32, y = x1 + 1 := ⟨_, rfl⟩
        have h := h v18 ev18
        refine ac_iinc (j := 1) (lv' := [(1, .int v18), (0, .ref r0)]) d_X0_run_77 rfl (by rw [ev18]; rfl) (by decide) rfl ?_
        refine ac_goto (tgt := 48) d_X0_run_80 (by decide) ?_
        refine ac_weak [1, 0] rfl ?_
        exact ih v18 f17 h

set_option maxRecDepth 20000 in
set_option maxHeartbeats 4000000 in
theorem c_X0_run (l : Launch) (D : va_G) (ki : Nat → ClassId) (r0 : Nat) (f : ac_hp) (Q : Int32 → ac_hp → Prop) (h : wp_X0_run ki r0 f Q) : ac_met l D ki y_X0_run prog_1_method_13_code 2 (some .int) (ro_ 13 0 0) [.ref r0] f (qr_I Q) 0 0 := by
  refine ac_enter (fun ki => wp_X0_run ki r0 f Q) (by decide) (Nat.le_of_ble_eq_true rfl) h ?_
  intro x hro hR hnm h
  unfold wp_X0_run at h
  refine ac_aload_n 0 d_X0_run_0 rfl rfl ?_
  obtain ⟨o1, hr, h⟩ := h
  refine ak_getf hr fl_X0_44 d_X0_run_1 ?_
  refine ac_aload_n 0 d_X0_run_4 rfl rfl ?_
  obtain ⟨o2, hr, h⟩ := h
  refine ak_getf hr fl_X0_19 d_X0_run_5 ?_
  obtain ⟨⟨fs, hb⟩, h⟩ := h
  refine ac_callV0 cd_X4_variables ml_X0_161 in_X4_variables se_X4_variables rfl hb (c_X4_variables _ _ _ o2 f _ h) rfl rfl (by rw [hro]; decide) rfl (rest := [.ref o1]) rfl (Nat.le_of_ble_eq_true rfl) (by rw [hro]; decide) d_X0_run_8 (ac_I (fun v4 f3 h => ?_))
  obtain ⟨⟨fs, hb⟩, h⟩ := h
  refine ac_callV0 cd_X7_begin ml_X0_164 in_X7_begin se_X7_begin rfl hb (c_X7_begin _ _ _ o1 v4 f3 _ h) rfl rfl (by rw [hro]; decide) rfl (rest := []) rfl (Nat.le_of_ble_eq_true rfl) (by rw [hro]; decide) d_X0_run_11 (ac_V (fun f5 h => ?_))
  refine ac_aload_n 0 d_X0_run_14 rfl rfl ?_
  obtain ⟨o6, hr, h⟩ := h
  refine ak_getf hr fl_X0_19 d_X0_run_15 ?_
  obtain ⟨v7, hr, h⟩ := h
  refine ak_getf hr fl_X0_116 d_X0_run_18 ?_
  refine ac_if_ne (tgt := 26) d_X0_run_21 (by decide) (fun hc => ?_) (fun hc => ?_)
  · have h := h.1 hc
    refine ac_aload_n 0 d_X0_run_26 rfl rfl ?_
    obtain ⟨o8, hr, h⟩ := h
    refine ak_getf hr fl_X0_28 d_X0_run_27 ?_
    obtain ⟨⟨fs, hb⟩, h⟩ := h
    refine ac_callV0 cd_X5_refresh ml_X0_129 in_X5_refresh se_X5_refresh rfl hb (c_X5_refresh _ _ _ o8 f5 _ h) rfl rfl (by rw [hro]; decide) rfl (rest := []) rfl (Nat.le_of_ble_eq_true rfl) (by rw [hro]; decide) d_X0_run_30 (ac_V (fun f9 h => ?_))
    refine ac_aload_n 0 d_X0_run_33 rfl rfl ?_
    obtain ⟨o10, hr, h⟩ := h
    refine ak_getf hr fl_X0_28 d_X0_run_34 ?_
    obtain ⟨v11, hr, h⟩ := h
    refine ak_getf hr fl_X0_132 d_X0_run_37 ?_
    refine ac_if_eq (tgt := 46) d_X0_run_40 (by decide) (fun hc => ?_) (fun hc => ?_)
    · have h := h.1 hc
      refine ac_iconst (v := 0) d_X0_run_46 rfl ?_
      refine ac_istore_n (lv' := [(1, .int 0), (0, .ref r0)]) d_X0_run_47 rfl (by decide) rfl ?_
      obtain ⟨n19, h⟩ := h
      refine ac_weak [1, 0] rfl ?_
      refine ok_X0_run_L48 hro r0 _ (fun f20 h => ?_) n19 0 f9 h
      · skip
        refine ac_aload_n 0 d_X0_run_83 rfl rfl ?_
        obtain ⟨o21, hr, h⟩ := h
        refine ak_getf hr fl_X0_44 d_X0_run_84 ?_
        obtain ⟨v22, hr, h⟩ := h
        refine ak_getf hr fl_X0_167 d_X0_run_87 ?_
        refine ac_if_eq (tgt := 104) d_X0_run_90 (by decide) (fun hc => ?_) (fun hc => ?_)
        · have h := h.1 hc
          refine ac_aload_n 0 d_X0_run_104 rfl rfl ?_
          obtain ⟨o23, hr, h⟩ := h
          refine ak_getf hr fl_X0_44 d_X0_run_105 ?_
          obtain ⟨v24, hr, h⟩ := h
          refine ak_getf hr fl_X0_171 d_X0_run_108 ?_
          exact ac_ireturn hR rfl ⟨_, rfl, h⟩ (by decide) (by decide) d_X0_run_111
        · have h := h.2 hc
          refine ac_aload_n 0 d_X0_run_93 rfl rfl ?_
          obtain ⟨o25, hr, h⟩ := h
          refine ak_getf hr fl_X0_44 d_X0_run_94 ?_
          refine ac_iconst (v := 0) d_X0_run_97 rfl ?_
          obtain ⟨f26, hr, h⟩ := h
          refine ak_putf hr fp_X0_171 rfl rfl d_X0_run_98 ?_
          refine ac_bipush (v := -3) d_X0_run_101 rfl ?_
          exact ac_ireturn hR rfl ⟨_, rfl, h⟩ (by decide) (by decide) d_X0_run_103
    · have h := h.2 hc
      refine ac_bipush (v := -3) d_X0_run_43 rfl ?_
      exact ac_ireturn hR rfl ⟨_, rfl, h⟩ (by decide) (by decide) d_X0_run_45
  · have h := h.2 hc
    refine ac_iconst (v := -1) d_X0_run_24 rfl ?_
    exact ac_ireturn hR rfl ⟨_, rfl, h⟩ (by decide) (by decide) d_X0_run_25
end
