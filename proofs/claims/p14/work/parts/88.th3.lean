/-! value, on the road that throws -/
theorem own_in : ∀ a ∈ Bundle.ownAtoms "VirtualRewrite" 181 xISE upISE, a ∈ T0_ ∨ a ∈ zl_ := by decide +kernel
theorem cl_ISE : Cond.classLink "VirtualRewrite" 177 xISE ∈ T0_ := by decide +kernel
theorem it_ISE : Cond.instantiable xISE 6 ∈ T0_ := by decide +kernel
theorem ii_ISE : Cond.initialized xISE ∈ T0_ := by decide +kernel
/-- it threw: one new cell, all else as it was -/
def TQ (s : State) (o : Outcome) (t : State) : Prop := ∃ (xa : Addr) (ce : Cell), o = .threw xa ∧ s.WarmedH t.vm ∧ s.sameButNew ({ t with vm := s.vm } : State) [] 1 6 ∧ t.heap[xa]? = some ce ∧ s.vm.findClass xISE = some ce.cls ∧ ce.vm = .none
def TZ (below : List Frame) (s : State) : State → Prop := fun t => ∃ o, t.status = .running ∧ Ended t below o ∧ TQ s o t
section TH3
variable {p : Program} {l : Launch} {e : Env} {R : Room} {s : State} {m : MethodId} {args : Array Value} {below : List Frame} {meth : Method} {c : Code} {H : Heap} {D : va_G} {ki : Nat → ClassId}
theorem th_end {ls : Array Slot} (hx : p.tables.exec = Jvm.exec) (hb : c.code = prog_1_method_14_code) (hown : s.vm.findClass "VirtualRewrite" = some m.cls) (hts : ∀ w ∈ T0_, w.before args s = true) (hZ : zs s) (htr : e.platform.stackTraces = false) (hlocks : meth.locks = false) (hout : ∀ x ∈ c.exceptionTable.toList, covers x 48 = false) (hsz : ls.size = c.maxLocals) (hR1 : 1 ≤ R.cells) (hR2 : 6 ≤ R.slots) (hR3 : 5 < R.frames) (hR4 : 200 ≤ R.locals) :
    W p l e R s m args below meth c H [] 0 0 (TZ below s) (F0 m 39 ls []) := by
  intro T hT X
  obtain ⟨vm₁, cX, kX, hfX, hkX, -, -, X₁, st1⟩ := X.newCold hx (own := "VirtualRewrite") (C := xISE) (index := 177) (n := 6) hown (hts _ cl_ISE) (hts _ it_ISE) (hts _ ii_ISE) (g := F0 m 39 ls []) rfl (by rw [hb]; exact d_X0_value_39) (by omega) (by omega)
  generalize hT1 : (T.setVm vm₁).pushCell { cls := cX, slots := kX.instanceTypes.map defaultValue, vm := .none } = T1 at X₁ st1
  have hcellA : T1.heap[T.heap.size]? = some (freshCell cX kX) := by rw [← hT1]; exact State.heap_pushCell_size _ _
  have hnew : s.heap.size ≤ T.heap.size := by have := X.same.2.1; exact this
  obtain ⟨q, hq⟩ := hZ.2
  have W1 : W p l e R s m args below meth c T1.heap [] 1 6 (TZ below s) (F0 m 42 ls [.ref T.heap.size]) := by
    refine lv_dup hx hb d_X0_value_42 rfl ?_
    refine va_ldcS hx hb hown hq d_X0_value_43 ?_
    intro T2 hT2 X2
    obtain ⟨U, hsteps, hrun, hend, hW, hsame, ce, hce, K⟩ := X2.ctorThrowS hx htr (own := "VirtualRewrite") (cls := xISE) (names := upISE) (ic := 181) hown (by decide +kernel) (by decide +kernel)
      (fun a ha => by
        rcases own_in a ha with h | h
        · exact hts _ h
        · exact hZ.1 a h _) (fun y hy => by cases hy) hfX hkX (by rw [hT2]; exact hcellA) hnew (msg := .ref q) rfl
      (g := F0 m 45 ls [.ref q, .ref T.heap.size, .ref T.heap.size]) rfl hsz rfl rfl (rest := []) rfl (by rw [hb]; exact d_X0_value_45) (by rw [hb]; exact d_X0_value_48) hout (by simp [upISE]; omega) (by have h0 : (F0 m 45 ls [.ref q, .ref T.heap.size, .ref T.heap.size]).monitorRoom = 0 := rfl; rw [h0]; simp [upISE, Value.category]; omega) hlocks
    exact ⟨U, hsteps, .threw T.heap.size, hrun, hend, T.heap.size, ce, rfl, hW, hsame, hce, K.cls, K.vm⟩
  obtain ⟨t, a1, b1⟩ := W1 T1 rfl X₁
  exact ⟨t, st1 t a1, b1⟩
/-- a call of a method that changes nothing -/
theorem pu_callS {cc cc0 : ByteArray} {nL maxL n index pc : Nat} {own : String} {y : MethodName} {ret : Option FieldType} {rm : Room} {As rest st0 : List Value} {v : Int32} {Q : State → Prop} {ls : Array Slot} {kc ks : Nat} (hx : p.tables.exec = Jvm.exec) (hb : c.code = cc) (hml : c.maxLocals = nL) (hown : s.vm.findClass own = some m.cls) (hts : ∀ w ∈ T0_, w.before args s = true) (hK : va_K D cl_ (tys_ ki) s) (hN : ac_nw s)
    (hc : ac_cd y cc0 maxL ret n) (hlink : Cond.methodLink own index y ∈ T0_) (hstat : Cond.static y ∈ T0_) (hM : ac_met l D ki y cc0 maxL ret rm As (fun _ => none) (qr_I (fun r _ => r = v)) 0 0) (hrc : rm.cells = 0) (hrs : rm.slots = 0) (hRm : rm.frames + 1 ≤ R.frames ∧ 8 + (maxL + 11) + rm.locals ≤ R.locals) (hn : As.length = n) (hl : ls.size = nL) (hst : st0 = As.reverse ++ rest) (hW : (rest.map fun v => v.category).sum ≤ 8) (hk1 : kc ≤ R.cells) (hk2 : ks ≤ R.slots) (hd : decode cc pc = .ok (.invokestatic index, 3)) (hsz : s.heap.size ≤ H.size)
    (kk : ∀ H' : Heap, H.size ≤ H'.size → (∀ q : Nat, q < H.size → H'[q]? = H[q]?) → W p l e R s m args below meth c H' [] kc ks Q (F0 m (pc + 3) ls (.int v :: rest))) : W p l e R s m args below meth c H [] kc ks Q (F0 m pc ls st0) := by
  have hwd : ac_wd D (fun _ => True) (fun _ => none) H := ⟨[], fun a => by simp, fun k q h => by simp [ac_ws, va_pl] at h, ⟨fun i j p q h => by simp [ac_ws, va_pl] at h, fun k q h => by simp [ac_ws, va_pl] at h⟩⟩
  have hr := va_runS (l := l) (e := e) (R := R) (below := below) (meth := meth) (locs := []) (cells := kc) (slots := ks) (rest := rest) (g := F0 m pc ls st0) (As := As) (n := n) (own := own) ⟨hx, hb, hml, hown, hts⟩ (hM H.size) ⟨callB_of n hts (ac_ws_good hc.1) rfl hrc hrs (hts _ hc.2.1) (hts _ hlink) hc.2.2 hRm, hts _ hstat⟩ ⟨ac_pc_blind, fun U hU hW' => ⟨rfl, by rw [hU], by rw [hU]; exact hwd, va_K.moved hW'.alike hK, ac_nw.warm hW' hN⟩⟩ rfl hn hl hst (lv_room hW) hd ⟨by omega, by omega⟩
  intro T hT X
  obtain ⟨v', st₀, t, T', L, h0, X', hL, e1, e2, ⟨v1, f', hv, ⟨r, hr1, hr2⟩, hwd', hz, hk⟩, st⟩ := hr T hT X
  cases hv
  subst hr1
  subst hr2
  have hA : ∀ q, ac_A (fun _ => none) H.size q → H.size ≤ q := fun q h => by
    rcases h with ⟨z, hz⟩ | h
    · cases hz
    · exact h
  rw [h0] at hz hk
  obtain ⟨t2, a1, b1⟩ := kk T'.heap (by rw [e1]; exact hz) (fun q hq => by rw [e1]; exact hk q hq (fun z => absurd (hA q z) (by omega))) T' rfl (Stand.forget (locs := []) X' (fun q hq => Nat.le_trans hsz (hA _ (hL q (by simpa using hq)))))
  exact ⟨t2, st t2 a1, b1⟩
end TH3
