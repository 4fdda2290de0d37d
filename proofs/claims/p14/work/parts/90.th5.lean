/-! a call whose callee throws, and the catch in the caller -/
section TH5
variable {p : Program} {l : Launch} {e : Env} {R : Room} {s : State} {m : MethodId} {args : Array Value} {below : List Frame} {meth : Method} {c : Code} {D : va_G} {ki : Nat → ClassId}
theorem th_same {s t : State} {k n : Nat} (h : s.sameButNew t [] k n) {q : Nat} (hq : q < s.heap.size) : t.heap[q]? = s.heap[q]? := by
  have hs : s.heap[q]? = some s.heap[q] := Array.getElem?_eq_getElem hq
  obtain ⟨c', h1, h2, h3, h4⟩ := h.2.2.2.2.2 q _ hs
  rw [h1, hs]
  have e1 : c'.slots = (s.heap[q]).slots := by
    apply Array.ext_getElem?
    intro i
    exact h4 i (by simp)
  rw [h2, e1]
theorem th_back {y : MethodName} {ws : List Cond} {rm : Room} {Pc : Array Value → State → Prop} {bytes : ByteArray} {maxL : Nat} {ret : Option FieldType} {U : State} {g : JFrame} {ig : Instr} {len kc ks : Nat} {mk : MethodId} {a : Array Value}
    (X : Stand p l e R s m args below meth c U [] kc ks) (hM : MetFree l y (headSpec ws rm) Pc (fun _ _ _ _ _ => True) (fun _ st o t => TQ st o t)) (hg : g.method = m) (hsize : g.locals.size = c.maxLocals) (hdg : decode c.code g.pc = .ok (ig, len)) (hn : U.methodNamed? y = some mk)
    (hws : ∀ w ∈ ws, w.before a U = true) (hcode : (Cond.code y bytes maxL ret).before a U = true) (hini : (Cond.initialized y.cls).before a U = true) (hfr : rm.frames + 1 ≤ R.frames) (hlo : 8 + (maxL + 11) + rm.locals ≤ R.locals) (hW : 2 * g.monitorRoom + (g.stack.map fun v => v.category).sum ≤ 8) (hc1 : kc + rm.cells ≤ R.cells) (hc2 : ks + rm.slots ≤ R.slots) (hPc : Pc a (U.calling g mk a)) :
    ∃ (xa : Addr) (ce : Cell) (B : State), Stand p l e R s m args below meth c B [] (kc + 1) (ks + 6) ∧ Steps p.tables e below (doInvoke e (U.setTop g) [] mk a).1 ((B.setTop g).pushFrame (.throwing xa)) ∧ B.heap[xa]? = some ce ∧ s.vm.findClass xISE = some ce.cls ∧ ce.vm = .none ∧ U.heap.size ≤ B.heap.size ∧ ∀ q : Nat, q < U.heap.size → B.heap[q]? = U.heap[q]? := by
  obtain ⟨methY, cY, hmY, hcY, -, hlY, -⟩ := Cond.code_spec hn hcode
  obtain ⟨kY, hkY, -⟩ := className_of_methodNamed hn
  have hinit : kY.init = .initialized := Cond.initialized_spec (findClass_of_methodNamed hn) hkY hini
  have hat : At U g.method c below := by rw [hg]; exact X.here
  have happ : (headSpec ws rm).appliesLoose y e.platform (U.calling g mk a) = true := Spec.appliesLoose_calling (g := g) hat hdg hn hkY hinit (X.room_calling (g := g) (R' := rm) hsize hmY hcY hfr (by rw [hlY]; omega) hc1 hc2) (atoms_intro hws)
  obtain ⟨mid, hmid⟩ := hat.above
  have hfrm : (U.setTop g).frames = (.java g :: mid) ++ below := by rw [State.frames_setTop' g hat.top, hmid]; rfl
  obtain ⟨o, t, hsteps, -, hend, hq⟩ := Steps.callFree hM p X.admits X.cas X.clock (acts := []) hfrm happ hPc trivial
  obtain ⟨xa, ce, rfl, hwm, hsame, hce, hcls, hvm⟩ := (show TQ (U.calling g mk a) o t from hq)
  rw [State.frames_setTop' g hat.top] at hend
  have hft : t.frames = .throwing xa :: .java g :: U.frames.tail := hend
  obtain ⟨g0, hg0⟩ := Option.isSome_iff_exists.mp hat.top
  obtain ⟨r, hr⟩ := State.topJava?_eq_some.mp hg0
  have hwm' : U.WarmedH t.vm := hwm
  have hold := hsame
  obtain ⟨e2, z1, z2, z3, z4, z5⟩ := hsame
  have et : t = ((({ U with heap := t.heap, slotsUsed := t.slotsUsed } : State).setVm t.vm).setTop g).pushFrame (.throwing xa) := by
    have hr' : (({ U with heap := t.heap, slotsUsed := t.slotsUsed } : State).setVm t.vm).frames = .java g0 :: r := hr
    have e3 : t = ({ (U.calling g mk a).setFrames t.frames with heap := t.heap, slotsUsed := t.slotsUsed } : State).setVm t.vm := by
      have e4 : t = ({ t with vm := (U.calling g mk a).vm } : State).setVm t.vm := rfl
      rw [e2] at e4
      exact e4
    refine e3.trans ?_
    rw [hft, State.calling_eq hat.top, State.setFrames_setFrames, State.pushFrame, State.frames_setTop _ hr', State.setTop_of_frames _ hr', State.setFrames_setFrames, hr]
    rfl
  have hkeep : U.sameButNew ({ U with heap := t.heap, slotsUsed := t.slotsUsed } : State) [] 1 6 := by
    refine ⟨?_, z1, z2, z3, z4, z5⟩
    obtain ⟨t0, ht0, -⟩ := State.frames_cons hr
    show ({ U with heap := t.heap, slotsUsed := t.slotsUsed } : State) = { U.setFrames U.frames with heap := t.heap, slotsUsed := t.slotsUsed }
    rw [State.setFrames_self ht0]
  refine ⟨xa, ce, ({ U with heap := t.heap, slotsUsed := t.slotsUsed } : State).setVm t.vm, ⟨X.admits, X.cas, X.clock, X.frames, X.room, X.hears, X.method, X.code, (X.here.setHeapUsed t.heap t.slotsUsed).setVm hwm'.alike, X.tail, State.WarmedH.trans X.warmed hwm', X.limits, X.bytes, X.same.trans (hkeep.setVm s.vm)⟩, ?_, hce, ?_, hvm, z1, fun q hq => th_same hkeep hq⟩
  · rw [← et]
    exact hsteps
  · have h1 : U.vm.findClass xISE = some ce.cls := hcls
    rw [X.warmed.alike.findClass] at h1
    exact h1
/-- the catch: its class may be resolved there for the first time -/
theorem th_catch {B : State} {g : JFrame} {xa : Addr} {ce : Cell} {own : String} {idx st en hpc kc ks : Nat} {locs : List Loc} (X : Stand p l e R s m args below meth c B locs kc ks) (hg : g.method = m) (hown : s.vm.findClass own = some m.cls) (hlink : (Cond.classLink own idx xISE).before args s = true) (hcast : (Cond.castable xISE xISE).before args s = true)
    (htab : c.exceptionTable.toList.map (fun h => (h.startPc, h.endPc, h.handlerPc, h.catchType)) = [(st, en, hpc, idx)]) (h1 : st ≤ g.pc) (h2 : g.pc < en) (hidx : idx ≠ 0) (hce : B.heap[xa]? = some ce) (hcls : s.vm.findClass xISE = some ce.cls) (hvm : ce.vm = .none) :
    ∃ vm', Stand p l e R s m args below meth c (B.setVm vm') locs kc ks ∧ ∀ target, Steps p.tables e below ((B.setVm vm').setTop { g with pc := hpc, stack := [.ref xa] }) target → Steps p.tables e below ((B.setTop g).pushFrame (.throwing xa)) target := by
  subst hg
  have hpl : e.platform.magicAccessors = ({} : Platform).magicAccessors := by rw [X.admits.platform]
  obtain ⟨cT, hcT, hcl⟩ := Cond.classLink_spec hown hlink e.platform hpl
  obtain ⟨dk, _, _, kt, hd, _, _, _, _, hkt, _, hopen⟩ := hcl.here
  have hcl0 := X.warmed.classLinks hcl
  have hW' : s.WarmedH (B.vm.noted g.method.cls idx (.cls cT)) := X.warmed.noted hd hopen (State.rightAt_cls hcl)
  obtain ⟨c3, t3, w1, w2, w3⟩ := Cond.castable_spec hcast
  cases hcls.symm.trans w1
  cases hcT.symm.trans w2
  have hkc : ∃ k, s.vm.classes[ce.cls]? = some k := Vm.classAt_of_findClass hcls
  obtain ⟨kc0, hkc0⟩ := hkc
  obtain ⟨kc1, hkc1, -⟩ := hW'.alike.2.2 _ _ hkc0
  obtain ⟨kt1, hkt1, -⟩ := hW'.alike.2.2 _ _ hkt
  refine ⟨_, X.noted hW', fun target hrest => ?_⟩
  obtain ⟨x, hx1, hx2⟩ : ∃ x, c.exceptionTable.toList = [x] ∧ (x.startPc, x.endPc, x.handlerPc, x.catchType) = (st, en, hpc, idx) := by
    cases hL : c.exceptionTable.toList with
    | nil => rw [hL] at htab; simp at htab
    | cons x t =>
      rw [hL] at htab
      cases t with
      | nil => simp only [List.map_cons, List.map_nil, List.cons.injEq, and_true] at htab; exact ⟨x, rfl, htab⟩
      | cons y t => simp at htab
  obtain ⟨x1, x2, x3, x4⟩ : x.startPc = st ∧ x.endPc = en ∧ x.handlerPc = hpc ∧ x.catchType = idx := by
    simpa only [Prod.mk.injEq] using hx2
  refine th_caught (pc := hpc) (vm' := B.vm.noted g.method.cls idx (.cls cT)) X.here ?_ hrest
  intro Q E d acts
  have hvm0 : ((B.setTop g).pushFrame (.throwing xa)).vm = B.vm := Stand.throwing_vm B g xa
  have hh0 : ((B.setTop g).pushFrame (.throwing xa)).heap = B.heap := Stand.throwing_heap B g xa
  rw [W.findHandler_eq (meth := meth) (code := c) (by rw [hvm0]; exact X.method') X.code, hx1, ← x3]
  refine th_go_cold (c := cT) (cell := ce) (by simp [covers, x1, x2, h1, h2]) (by rw [x4]; exact hidx) (by rw [x4, hvm0]; exact resolveClass_links e.toSetting hcl0) (by rw [hvm0]; exact Nat.le_of_eq (Vm.size_noted _ _ _ _)) (by rw [hh0]; exact hce) (by intro k z; rw [hvm] at z; cases z) ⟨kc1, hkc1⟩ ⟨kt1, hkt1⟩ (by rw [hW'.alike.assignable]; exact w3)
end TH5
