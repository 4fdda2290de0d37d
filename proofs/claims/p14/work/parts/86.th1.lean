/-! A THROW, AND ITS CATCH: what must hold of the start; a catch type that isn't resolved yet -/
def xISE : String := "java/lang/IllegalStateException"
def upISE : List String := ["java/lang/RuntimeException", "java/lang/Exception"]
def txISE : String := "the question that was run has not that variable"
/-- the words that a new exception needs and that no contract's words keep -/
def zl_ : List Cond := [.isRef (.static Bundle.tN "UNASSIGNED_STACK" Bundle.steD), .isRef (.static Bundle.tN "SUPPRESSED_SENTINEL" Bundle.listD), .laysStatic Bundle.tN "UNASSIGNED_STACK" Bundle.steD, .laysStatic Bundle.tN "SUPPRESSED_SENTINEL" Bundle.listD, .castable xISE xISE, .declares ⟨"java/lang/RuntimeException", "<init>", "(Ljava/lang/String;)V"⟩, .declares ⟨"java/lang/Exception", "<init>", "(Ljava/lang/String;)V"⟩, .declares ⟨"java/lang/Throwable", "<init>", "(Ljava/lang/String;)V"⟩]
def zs (U : State) : Prop := (∀ a ∈ zl_, ∀ A : Array Value, a.before A U = true) ∧ ∃ q : Nat, vk_R "VirtualRewrite" 179 txISE q U
theorem zs_static {C n d : String} {s U : State} {args args' : Array Value} (hW : s.WarmedH U.vm) (hq : ∀ q : Nat, q < s.heap.size → U.heap[q]? = s.heap[q]?) (h : (Cond.isRef (.static C n d)).before args s = true) : (Cond.isRef (.static C n d)).before args' U = true := by
  have h1 : (Cond.isRef (.static C n d)).before args (s.setVm U.vm) = true := Cond.before_shiftedFace (State.Shifted.of_warmed hW) _ rfl h
  simp only [Cond.before, Cond.holds, Cond.value, Term.eval] at h1 ⊢
  have e : (s.setVm U.vm).fieldNamed? C n d true = U.fieldNamed? C n d true := rfl
  rw [e] at h1
  cases hf : U.fieldNamed? C n d true with
  | none => simp [hf] at h1
  | some x =>
    obtain ⟨c, k, slot⟩ := x
    cases hs : k.statics with
    | none => simp [hf, hs] at h1
    | some a =>
      cases ha : s.heap[a]? with
      | none => simp [hf, hs, ha] at h1
      | some cell =>
        have hU : U.heap[a]? = some cell := by rw [hq a (Array.getElem?_eq_some_iff.mp ha).1]; exact ha
        simpa [hf, hs, ha, hU] using h1
theorem zs_lays {C n d : String} {s U : State} {args args' : Array Value} (hW : s.WarmedH U.vm) (hq : ∀ q : Nat, q < s.heap.size → U.heap[q]? = s.heap[q]?) (h : (Cond.laysStatic C n d).before args s = true) : (Cond.laysStatic C n d).before args' U = true := by
  obtain ⟨c, k, i, f, a, cell, hc, hi, hst, ha, hcell, hs, hcls, hlt, hty⟩ := Cond.laysStatic_spec (Cond.laysStatic_setVm hW.alike h)
  have hcell : s.heap[a]? = some cell := hcell
  exact Cond.laysStatic_of (s := U) hc hi hst ha (by rw [hq a (Array.getElem?_eq_some_iff.mp hcell).1]; exact hcell) hs hcls hlt hty
theorem zs_move {s U : State} (hW : s.WarmedH U.vm) (hq : ∀ q : Nat, q < s.heap.size → U.heap[q]? = s.heap[q]?) (h : zs s) : zs U := by
  refine ⟨fun a ha A => ?_, h.2.imp (fun _ hq => hq.warm hW)⟩
  have h0 := fun A => h.1 a ha A
  simp only [zl_, List.mem_cons, List.not_mem_nil, or_false] at ha
  rcases ha with rfl | rfl | rfl | rfl | rfl | rfl | rfl | rfl
  · exact zs_static hW hq (h0 A)
  · exact zs_static hW hq (h0 A)
  · exact zs_lays hW hq (h0 A)
  · exact zs_lays hW hq (h0 A)
  · exact va_Nw.use rfl (va_Nw.warmC hW (va_Nw.of rfl (h0 A)))
  · exact va_Nw.use rfl (va_Nw.warmD hW (va_Nw.of rfl (h0 A)))
  · exact va_Nw.use rfl (va_Nw.warmD hW (va_Nw.of rfl (h0 A)))
  · exact va_Nw.use rfl (va_Nw.warmD hW (va_Nw.of rfl (h0 A)))
section TH
variable {e : Env} {s : State} {f : JFrame} {a : Addr}
theorem th_go_cold {x : ExceptionTableEntry} {t : List ExceptionTableEntry} {c : ClassId} {cell : Cell} {vm' : Vm} {Q : Handler → Pre} {E : CtlPost} {d : Bool} {acts : List Action} (hx : covers x f.pc = true) (h0 : x.catchType ≠ 0)
    (hg : (Jvm.resolveClass f.method.cls x.catchType).Gives e.toSetting s.vm (.ok c) vm') (hsz : vm'.classes.size ≤ s.vm.classes.size) (hcell : s.heap[a]? = some cell) (hobj : ∀ k, cell.vm ≠ .statics k)
    (hk : ∃ k, vm'.classes[cell.cls]? = some k) (hc : ∃ k, vm'.classes[c]? = some k) (hfit : vm'.assignable cell.cls c = true) :
    wp (findHandler.go f a (x :: t)) Q E e d acts s ↔ Q (.found x.handlerPc) d acts (s.setVm vm') := by
  simp only [covers] at hx
  obtain ⟨ha, ht⟩ := hg.op (op := VmOp.resolveClass f.method.cls x.catchType) rfl
  simp [findHandler.go, hx, h0, ha, ht, hsz, hcell, hobj, hk, hc, hfit, VmOp.dirties, VmOp.acts]
end TH
