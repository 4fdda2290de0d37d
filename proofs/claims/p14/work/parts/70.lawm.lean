/-! THE LAW'S OWN ROWS: a callee with an exception table (on a road where none of it is taken), a switch, the script, the start -/
section LW1
variable {p : Program} {l : Launch} {e : Env} {R : Room} {s : State} {m : MethodId} {args : Array Value} {below : List Frame} {meth : Method} {c : Code} {H : Heap} {locs : List Loc} {cells slots : Nat} {Q : State → Prop}
theorem lw_callS {T : State} (X : Stand p l e R s m args below meth c T locs cells slots) (hexec : p.tables.exec = Jvm.exec) {own : String} {index : Nat} {y : MethodName} {bytes : ByteArray} {maxL : Nat} {ret : Option FieldType} {hh : List (Nat × Nat × Nat × Nat)}
    (hown : s.vm.findClass own = some m.cls) (hlink : (Cond.methodLink own index y).before args s = true) (hstat : (Cond.static y).before args s = true) (hinit : (Cond.initialized y.cls).before args s = true)
    (hcode : (Cond.codeWith y bytes maxL ret hh).before args s = true) (hy : y.cls ≠ "java/lang/invoke/MethodHandle" ∧ y.cls ≠ "java/lang/invoke/VarHandle")
    {W : Nat} {Pre : Pt → Array Value → Prop} {Post : Pt → Array Value → Option Value → Pt → Prop} (hK : Back l R p e below s args y 3 W Pre Post)
    {g : JFrame} (hg : g.method = m) (hsize : g.locals.size = c.maxLocals) {argsL rest : List Value} (hlen : ∀ sig, parseMethodDescriptor y.desc = some sig → argsL.length = sig.parameters.length)
    (hstack : g.stack = argsL.reverse ++ rest) (hW : 2 * g.monitorRoom + (rest.map fun v => v.category).sum ≤ W) (hdg : decode c.code g.pc = .ok (.invokestatic index, 3))
    (hpre : ∀ vm₁, s.WarmedH vm₁ → Pre ⟨T.setVm vm₁, locs, cells, slots⟩ argsL.toArray) :
    ∃ (v : Option Value) (vm₁ : Vm) (B : Pt), s.WarmedH vm₁ ∧ Stand p l e R s m args below meth c B.U B.locs B.cells B.slots ∧ Post ⟨T.setVm vm₁, locs, cells, slots⟩ argsL.toArray v B ∧
      ∀ target, Steps p.tables e below (B.U.setTop { g with pc := g.pc + 3, stack := v.toList ++ rest }) target → Steps p.tables e below (T.setTop g) target := by
  obtain ⟨mk, methM, cM, hnamed, hmethM, -, -, -, -, -, -, hsigM⟩ := Cond.codeWith_spec hcode
  have hstatic : methM.isStatic = true := Cond.static_spec hnamed hmethM hstat
  obtain ⟨kP, hkP, -⟩ := className_of_methodNamed hnamed
  have hinitP : kP.init = .initialized := Cond.initialized_spec (findClass_of_methodNamed hnamed) hkP hinit
  obtain ⟨vm₁, X₁, hstep₁⟩ := X.invokestatic hexec hown hlink hnamed hmethM hstatic hkP hinitP hy (g := g) hg (argsL := argsL) (rest := rest) (hlen _ hsigM) hstack hdg
  obtain ⟨v, B, X', hpost, hsteps⟩ := hK m meth c ⟨T.setVm vm₁, locs, cells, slots⟩ { g with stack := rest } (.invokestatic index) mk argsL.toArray X₁ hg hsize hdg hW (X₁.named hnamed) (hpre vm₁ X₁.warmed)
  exact ⟨v, vm₁, B, X₁.warmed, X', hpost, fun target h => hstep₁ _ fun acts => by rw [doInvoke_state]; exact hsteps.trans h⟩
theorem lw_runS {y : MethodName} {bytes cc : ByteArray} {maxL nL mc ms n index : Nat} {ret : Option FieldType} {hh : List (Nat × Nat × Nat × Nat)} {ws : List Cond} {rm : Room} {Pc : Array Value → State → Prop} {Qc : Array Value → State → Outcome → State → Prop} {free : Addr → Prop} {Ts : List Cond} {own : String} {As rest : List Value} {g : JFrame}
    (S : CallFix p m c cc nL s args Ts own) (hM : Met l y ws rm Pc Qc mc ms free) (hrc : rm.cells = mc) (hrs : rm.slots = ms) (hfr : rm.frames + 1 ≤ R.frames) (hlo : 8 + (maxL + 11) + rm.locals ≤ R.locals) (hws : ∀ w ∈ ws, ∀ (a' : Array Value) (U : State), s.WarmedH U.vm → w.before a' U = true) (hcw : Cond.codeWith y bytes maxL ret hh ∈ ws)
    (hcode : (Cond.codeWith y bytes maxL ret hh).before args s = true) (hini : (Cond.initialized y.cls).before args s = true) (hy : y.cls ≠ "java/lang/invoke/MethodHandle" ∧ y.cls ≠ "java/lang/invoke/VarHandle") (hlen : ∀ sig, parseMethodDescriptor y.desc = some sig → n = sig.parameters.length) (hl : (Cond.methodLink own index y).before args s = true) (hstt : (Cond.static y).before args s = true) (hp : PreS s H Pc As)
    (hg : g.method = m) (hn : As.length = n) (hsize : g.locals.size = nL) (hstack : g.stack = As.reverse ++ rest) (hW : 2 * g.monitorRoom + (rest.map fun v => v.category).sum ≤ 8) (hdg : decode cc g.pc = .ok (.invokestatic index, 3)) (hf : cells + mc ≤ R.cells ∧ slots + ms ≤ R.slots) :
    va_Run p l e R s m args below meth c H locs cells slots mc ms g rest (Qc As.toArray) (free) := by
  have hK : Back l R p e below s args y 3 8 (PreOf R mc ms Pc) (PostOf Qc mc ms free) := va_backW (hh := hh) (bytes := bytes) (maxL := maxL) (ret := ret) hM hp.1 hrc hrs hfr hlo hws hcw (fun a' U hW => word_at hW (Or.inl (by first | rfl | simp [Cond.onTables, Cond.keeps, Cond.steady])) hini)
  obtain ⟨hx, hb, hml, ho, -⟩ := S
  intro T hT X
  obtain ⟨v, vm₁, ⟨U', l2, c2, s2⟩, hW₁, X', ⟨g', mk, t, L, e1, e2, hq, h1, hL, h2, h3⟩, st⟩ := lw_callS X hx (bytes := bytes) (maxL := maxL) (ret := ret) (hh := hh) ho hl hstt hini hcode hy hK hg (hsize.trans hml.symm) (argsL := As) (rest := rest) (fun sig h => hn.trans (hlen sig h)) hstack hW (by rw [hb]; exact hdg)
    (fun vm₁ hW₁ => ⟨hf.1, hf.2, hp.2 (T.setVm vm₁) hT hW₁⟩)
  dsimp only [Pt.U, Pt.locs, Pt.cells, Pt.slots] at X' e1 e2 h1 h2 h3 st
  subst h1; subst h2; subst h3
  exact ⟨v, (T.setVm vm₁).calling g' mk As.toArray, t, U', L, hT, X', hL, e1, e2, hq, st⟩
end LW1
def ac_ww (y : MethodName) (cc : ByteArray) (maxL : Nat) (ret : Option FieldType) (hh : List (Nat × Nat × Nat × Nat)) : List Cond := Cond.codeWith y cc maxL ret hh :: T0_
def ac_metW (l : Launch) (D : va_G) (ki : Nat → ClassId) (y : MethodName) (cc : ByteArray) (maxL : Nat) (ret : Option FieldType) (hh : List (Nat × Nat × Nat × Nat)) (rm : Room) (av : List Value) (f : ac_hp) (Qr : Option Value → ac_hp → Prop) (mc ms : Nat) : Prop := ∀ sz, Met l y (ac_ww y cc maxL ret hh) rm (ac_Pc D ki av f sz) (ac_Qc D Qr f sz) mc ms (ac_A f sz)
theorem ac_enterW {l : Launch} {D : va_G} {ki : Nat → ClassId} {y : MethodName} {cc : ByteArray} {maxL mc ms : Nat} {ret : Option FieldType} {hh : List (Nat × Nat × Nat × Nat)} {rm : Room} {av : List Value} {f : ac_hp} {Qr : Option Value → ac_hp → Prop} (P : (Nat → ClassId) → Prop) (hy : plainName y.cls = true) (hav : (lg_sl av).length ≤ maxL) (h : P ki)
    (body : ∀ x : ac_X, ac_R x = rm → ac_rt x ret Qr mc ms → (ac_meth x).name = y.name → P (ac_ki x) → ac_At (cc, maxL, y.cls) x 0 0 0 (lv_args 0 av) [] f) : ac_metW l D ki y cc maxL ret hh rm av f Qr mc ms := by
  intro sz
  refine va_MetW (cc := cc) (maxL := maxL) (ret := ret) (hh := hh) hy rfl ?_
  intro p e s m args below meth c s₁ B hml hv
  obtain ⟨rfl, hsz, hw, hK, hN⟩ := hv
  have hts := atoms_spec (ws := ac_ww y cc maxL ret hh) B.pre
  have hown : s.vm.findClass y.cls = some m.cls := findClass_of_methodNamed B.named
  subst hsz
  have hl := lv_entry av (n := maxL) hav
  rw [lg_entry_eq]
  refine body ((p, l, e, rm, s), (m, av.toArray, below, meth, c), (D, ki, ac_A f s.heap.size), MQ below (ac_Qc D Qr f s.heap.size) av.toArray s mc ms (ac_A f s.heap.size)) rfl ⟨B.returns, B.notSynchronized, _, _, rfl, fun _ h => h, fun v f' H locs t hq hwd hS ht => ⟨v, f', rfl, hq, by rw [ht]; exact hwd, hS.F ht⟩⟩ (name_of_methodNamed B.named B.method).1 h
    ⟨B.exec, B.bytes, hml, hown, fun w hw => hts w (List.mem_cons_of_mem _ hw), hK, hN, fun q hq => Or.inr hq⟩ s.heap [] _ hw.self va_S.rf hl
def ac_cdw (y : MethodName) (cc : ByteArray) (maxL : Nat) (ret : Option FieldType) (hh : List (Nat × Nat × Nat × Nat)) (n : Nat) : Prop := Cond.codeWith y cc maxL ret hh ∈ T0_ ∧ Cond.initialized y.cls ∈ T0_ ∧ (y.cls ≠ "java/lang/invoke/MethodHandle" ∧ y.cls ≠ "java/lang/invoke/VarHandle" ∧ (parseMethodDescriptor y.desc).map (fun d => d.parameters.length) = some n)
section LW2
variable {M : ac_M} {x : ac_X} {kc ks pc : Nat} {lv : List (Nat × Value)} {st : List Value} {f : ac_hp}
theorem ac_callSW {y : MethodName} {cc : ByteArray} {maxL n index mc ms : Nat} {ret : Option FieldType} {hh : List (Nat × Nat × Nat × Nat)} {rm : Room} {As rest : List Value} {Qr : Option Value → ac_hp → Prop} (hc : ac_cdw y cc maxL ret hh n) (hlink : Cond.methodLink M.2.2 index y ∈ T0_) (hstat : Cond.static y ∈ T0_) (hM : ac_metW (ac_l x) (ac_D x) (ac_ki x) y cc maxL ret hh rm As f Qr mc ms) (hrc : rm.cells = mc) (hrs : rm.slots = ms) (hR : rm.frames + 1 ≤ (ac_R x).frames ∧ 8 + (maxL + 11) + rm.locals ≤ (ac_R x).locals) (hn : As.length = n) (hst : st = As.reverse ++ rest) (hW : (rest.map fun v => v.category).sum ≤ 8) (hf : kc + mc ≤ (ac_R x).cells ∧ ks + ms ≤ (ac_R x).slots) (hd : decode M.1 pc = .ok (.invokestatic index, 3))
    (kk : ∀ v f', Qr v f' → ac_At M x (kc + mc) (ks + ms) (pc + 3) lv (v.toList ++ rest) f') : ac_At M x kc ks pc lv st f := by
  intro o H locs ls hw hS hl
  have hG : GoodIn T0_ (ac_ww y cc maxL ret hh) := by
    intro w hw
    rcases List.mem_cons.mp hw with rfl | hw
    · exact ⟨hc.1, T0_good _ hc.1⟩
    · exact ⟨hw, T0_good _ hw⟩
  refine ac_after o hw hS hl (lw_runS (As := As) (n := n) ⟨o.1, o.2.1, o.2.2.1, o.2.2.2.1, o.2.2.2.2.1⟩ (hM H.size) hrc hrs hR.1 hR.2 (pay_in o.2.2.2.2.1 hG) List.mem_cons_self (o.2.2.2.2.1 _ hc.1) (o.2.2.2.2.1 _ hc.2.1) ⟨hc.2.2.1, hc.2.2.2.1⟩ (fun sig h => by have h2 := hc.2.2.2.2; rw [h] at h2; exact (Option.some.inj h2).symm) (o.2.2.2.2.1 _ hlink) (o.2.2.2.2.1 _ hstat) ⟨ac_pc_blind, fun U hU hW' => ⟨rfl, by rw [hU], by rw [hU]; exact hw.weak (fun _ _ => trivial), va_K.moved hW'.alike o.2.2.2.2.2.1, ac_nw.warm hW' o.2.2.2.2.2.2.1⟩⟩ rfl hn hl.1 hst (lv_room hW) hd hf) kk
theorem ac_callSW0 {y : MethodName} {cc : ByteArray} {maxL n index : Nat} {ret : Option FieldType} {hh : List (Nat × Nat × Nat × Nat)} {rm : Room} {As rest : List Value} {Qr : Option Value → ac_hp → Prop} (hc : ac_cdw y cc maxL ret hh n) (hlink : Cond.methodLink M.2.2 index y ∈ T0_) (hstat : Cond.static y ∈ T0_) (hM : ac_metW (ac_l x) (ac_D x) (ac_ki x) y cc maxL ret hh rm As f Qr 0 0) (hrc : rm.cells = 0) (hrs : rm.slots = 0) (hR : rm.frames + 1 ≤ (ac_R x).frames ∧ 8 + (maxL + 11) + rm.locals ≤ (ac_R x).locals) (hn : As.length = n) (hst : st = As.reverse ++ rest) (hW : (rest.map fun v => v.category).sum ≤ 8) (hf : kc + 0 ≤ (ac_R x).cells ∧ ks + 0 ≤ (ac_R x).slots) (hd : decode M.1 pc = .ok (.invokestatic index, 3))
    (kk : ∀ v f', Qr v f' → ac_At M x kc ks (pc + 3) lv (v.toList ++ rest) f') : ac_At M x kc ks pc lv st f := ac_callSW hc hlink hstat hM hrc hrs hR hn hst hW hf hd kk
/-- a switch over 0 .. n - 1 -/
theorem ac_tsw {v : Int32} {dflt hi : Int} {offs : Array Int} {len tgd : Nat} (hd : decode M.1 pc = .ok (.tableswitch dflt 0 hi offs, len)) (n : Nat) (tg : Nat → Nat) (hn : n < 1000) (hhi : hi = (n : Int) - 1) (ht : ∀ j, j < n → ∃ off, offs[j]? = some off ∧ (pc : Int) + off = (tg j : Int)) (hdf : (pc : Int) + dflt = (tgd : Int))
    (kin : ∀ j, j < n → v = nI j → ac_At M x kc ks (tg j) lv st f) (kout : (∀ j, j < n → v ≠ nI j) → ac_At M x kc ks tgd lv st f) : ac_At M x kc ks pc lv (.int v :: st) f := by
  intro o H locs ls hw hS hl
  by_cases hin : ∃ j, j < n ∧ v = nI j
  · obtain ⟨j, hj, rfl⟩ := hin
    have e1 : (nI j).toInt = (j : Int) := by
      rw [nI_toInt (by omega)]
    obtain ⟨off, h1, h2⟩ := ht j hj
    refine lv_tableIn o.1 o.2.1 hd (by rw [e1]; omega) (by rw [e1]; omega) (by rw [e1]; simpa using h1) h2 (kin j hj rfl o H locs ls hw hS hl)
  · have hout : v.toInt < 0 ∨ hi < v.toInt := by
      by_cases h0 : v.toInt < 0
      · exact Or.inl h0
      · refine Or.inr ?_
        by_cases h3 : hi < v.toInt
        · exact h3
        · exact absurd ⟨v.toInt.toNat, by omega, by
            apply Int32.toInt_inj.mp
            rw [nI_toInt (by omega)]
            omega⟩ hin
    exact lv_tableOut o.1 o.2.1 hd hout hdf (kout (fun j hj e => hin ⟨j, hj, e⟩) o H locs ls hw hS hl)
theorem ac_sld {b L : Nat} {xs : Nat → Int32} {i : Int32} (hX : va_X b L xs (ac_s x) (ac_s x).heap) (hbl : b < (ac_s x).heap.size) (hbA : ¬ ac_AA x b) (hin : vp_in i L) (hd : decode M.1 pc = .ok (.iaload, 1)) (kk : ac_At M x kc ks (pc + 1) lv (.int (xs i.toNatClampNeg) :: st) f) : ac_At M x kc ks pc lv (.int i :: .ref b :: st) f :=
  fun o H locs ls hw hS hl => va_sld o.1 o.2.1 hX hbl hbA hS hin hd (kk o H locs ls hw hS hl)
theorem ac_slen {b L : Nat} {xs : Nat → Int32} (hX : va_X b L xs (ac_s x) (ac_s x).heap) (hbl : b < (ac_s x).heap.size) (hbA : ¬ ac_AA x b) (hd : decode M.1 pc = .ok (.arraylength, 1)) (kk : ac_At M x kc ks (pc + 1) lv (.int (Int32.ofNat L) :: st) f) : ac_At M x kc ks pc lv (.ref b :: st) f :=
  fun o H locs ls hw hS hl => va_slen o.1 o.2.1 hX hbl hbA hS hd (kk o H locs ls hw hS hl)
end LW2
theorem lk_arr {s : State} {args : Array Value} {ty : FieldType} (h : (Cond.arrayClass ty).before args s = true) : ∃ c : ClassId, ArrOfT s c ty ∧ s.vm.findClass ("[" ++ ty.toString) = some c := by
  obtain ⟨c, k, comp, h1, h2, h3⟩ := Cond.arrayClass_spec h
  exact ⟨c, fun N z => ⟨(fun k h => by cases h), k, h2, comp, h3⟩, h1⟩
theorem lk_ref {s : State} {args : Array Value} {C : String} (h : (Cond.arrayOver (.object C)).before args s = true) : ∃ c : ClassId, ArrOfT s c (.object C) ∧ va_RA s c (.object C) := by
  obtain ⟨comp, c, k, h1, -, h2, h3, h4⟩ := Cond.arrayOver_spec h
  exact ⟨c, fun N z => ⟨(fun k h => by cases h), k, h2, comp, h3⟩, k, comp, h2, h3, h1, h4⟩
