/-! THE WALK'S OWN JUDGEMENT: the world is ONE map from addresses to cells, handed whole to every call. cl_ (the classes), T0_ (the words), NM_ (the nest links) are named in the part before. -/
abbrev ac_hp : Type := Nat → Option va_E
def ac_e0 : va_E := .inr (0, [])
def ac_up (f : ac_hp) (a : Nat) (e : va_E) : ac_hp := fun q => if q = a then some e else f q
theorem ac_up_self (f : ac_hp) (a : Nat) (e : va_E) : ac_up f a e a = some e := by simp [ac_up]
theorem ac_up_ne (f : ac_hp) {a q : Nat} (e : va_E) (h : q ≠ a) : ac_up f a e q = f q := by simp [ac_up, h]
def ac_ws (L : List Nat) (f : ac_hp) : va_W := va_pl L (fun a => (f a).getD ac_e0)
def ac_wd (D : va_G) (A : Nat → Prop) (f : ac_hp) (H : Heap) : Prop :=
  ∃ L : List Nat, (∀ a, a ∈ L ↔ ∃ e, f a = some e) ∧ va_P D cl_ (ac_ws L f) H ∧ va_D A (ac_ws L f)
theorem ac_pos {f : ac_hp} {L : List Nat} {a : Nat} {e : va_E} (hm : a ∈ L) (ha : f a = some e) : ∃ k : Nat, (ac_ws L f)[k]? = some (a, e) := by
  obtain ⟨k, hk⟩ := va_pl_get (X := []) (f := fun a => (f a).getD ac_e0) hm
  refine ⟨k, ?_⟩
  have e1 : (f a).getD ac_e0 = e := by rw [ha]; rfl
  rw [e1] at hk
  exact hk
theorem ac_ws_set {A : Nat → Prop} {f : ac_hp} {L : List Nat} {a k : Nat} {e e' : va_E} (hD : va_D A (ac_ws L f)) (hm : a ∈ L) (ha : f a = some e) (hk : (ac_ws L f)[k]? = some (a, e)) : (ac_ws L f).set k (a, e') = ac_ws L (ac_up f a e') := by
  have e1 : (f a).getD ac_e0 = e := by rw [ha]; rfl
  have h1 := va_pl_set (A := A) (X := []) (L := L) (f := fun a => (f a).getD ac_e0) (a := a) (k := k) (e := e') hD hm (by show (ac_ws L f)[k]? = some (a, (f a).getD ac_e0); rw [e1]; exact hk)
  have h2 : va_pl L (va_up (fun a => (f a).getD ac_e0) a e') = ac_ws L (ac_up f a e') := by
    unfold ac_ws
    apply va_pl_congr
    intro q
    by_cases hq : q = a
    · subst hq; simp [va_up, ac_up]
    · simp [va_up, ac_up, hq]
  rw [← h2]
  exact h1
theorem ac_get {D : va_G} {A : Nat → Prop} {f : ac_hp} {H : Heap} {a : Nat} {e : va_E} (h : ac_wd D A f H) (ha : f a = some e) :
    ∃ (ws : va_W) (k : Nat), va_P D cl_ ws H ∧ va_D A ws ∧ ws[k]? = some (a, e) ∧ (∀ (e' : va_E) (H1 : Heap), va_P D cl_ (ws.set k (a, e')) H1 → va_D A (ws.set k (a, e')) → ac_wd D A (ac_up f a e') H1) ∧ ∀ (b : Nat) (e2 : va_E), f b = some e2 → ∃ k2 : Nat, ws[k2]? = some (b, e2) := by
  obtain ⟨L, hL, hP, hD⟩ := h
  have hm : a ∈ L := (hL a).mpr ⟨e, ha⟩
  obtain ⟨k, hk⟩ := ac_pos hm ha
  refine ⟨ac_ws L f, k, hP, hD, hk, ?_, fun b e2 hb => ac_pos ((hL b).mpr ⟨e2, hb⟩) hb⟩
  intro e' H1 hP1 hD1
  rw [ac_ws_set hD hm ha hk] at hP1 hD1
  refine ⟨L, fun b => ?_, hP1, hD1⟩
  by_cases hb : b = a
  · subst hb; simp [ac_up, hm]
  · simp [ac_up, hb, hL b]
theorem ac_new {D : va_G} {A : Nat → Prop} {f : ac_hp} {H : Heap} (h : ac_wd D A f H) :
    ∃ ws : va_W, va_P D cl_ ws H ∧ va_D A ws ∧ ∀ (q : Nat) (e' : va_E) (H1 : Heap), va_P D cl_ (ws ++ [(q, e')]) H1 → va_D A (ws ++ [(q, e')]) → f q = none ∧ ac_wd D A (ac_up f q e') H1 := by
  obtain ⟨L, hL, hP, hD⟩ := h
  refine ⟨ac_ws L f, hP, hD, fun q e' H1 hP1 hD1 => ?_⟩
  have hq : q ∉ L := va_pl_fresh2 (X := []) (f := fun a => (f a).getD ac_e0) hD1
  have hn : f q = none := by
    cases hf : f q with
    | none => rfl
    | some e => exact absurd ((hL q).mpr ⟨e, hf⟩) hq
  have h2 : ac_ws L f ++ [(q, e')] = ac_ws (L ++ [q]) (ac_up f q e') := by
    unfold ac_ws
    rw [va_pl_push hq]
    apply va_pl_congr
    intro b
    by_cases hb : b = q
    · subst hb; simp [va_up, ac_up]
    · simp [va_up, ac_up, hb]
  rw [h2] at hP1 hD1
  refine ⟨hn, L ++ [q], fun b => ?_, hP1, hD1⟩
  by_cases hb : b = q
  · subst hb; simp [ac_up]
  · simp [ac_up, hb, hL b]
theorem ac_wd.weak {D : va_G} {A B : Nat → Prop} {f : ac_hp} {H : Heap} (h : ac_wd D A f H) (hAB : ∀ q, A q → B q) : ac_wd D B f H := by
  obtain ⟨L, hL, hP, hD⟩ := h
  exact ⟨L, hL, hP, hD.weaken (fun _ q _ hq => hAB _ hq)⟩
theorem ac_wd.inA {D : va_G} {A : Nat → Prop} {f : ac_hp} {H : Heap} (h : ac_wd D A f H) {a : Nat} {e : va_E} (ha : f a = some e) : A a := by
  obtain ⟨ws, k, -, hD, hk, -⟩ := ac_get h ha
  exact hD.2 k _ hk
def ac_A (f : ac_hp) (sz : Nat) : Nat → Prop := fun q => (∃ e, f q = some e) ∨ sz ≤ q
theorem ac_wd.self {D : va_G} {A : Nat → Prop} {f : ac_hp} {H : Heap} {sz : Nat} (h : ac_wd D A f H) : ac_wd D (ac_A f sz) f H := by
  obtain ⟨L, hL, hP, hD⟩ := h
  refine ⟨L, hL, hP, hD.1, fun k q hk => ?_⟩
  have h1 : q ∈ ac_ws L f := List.mem_of_getElem? hk
  obtain ⟨b, hb, rfl⟩ := List.mem_map.mp h1
  exact Or.inl ((hL b).mp hb)
/-! the context of a walk: (program, launch, env, room, state at entry), (method, args, frames below, method, code), (the classes' numbers, the array classes, which cells may change), the goal -/
abbrev ac_X : Type := (Program × Launch × Env × Room × State) × (MethodId × Array Value × List Frame × Method × Code) × (va_G × (Nat → ClassId) × (Nat → Prop)) × (State → Prop)
/-- a method's code, its locals, its class -/
abbrev ac_M : Type := ByteArray × Nat × String
abbrev ac_l (x : ac_X) : Launch := x.1.2.1
abbrev ac_R (x : ac_X) : Room := x.1.2.2.2.1
abbrev ac_s (x : ac_X) : State := x.1.2.2.2.2
abbrev ac_args (x : ac_X) : Array Value := x.2.1.2.1
abbrev ac_meth (x : ac_X) : Method := x.2.1.2.2.2.1
abbrev ac_c (x : ac_X) : Code := x.2.1.2.2.2.2
abbrev ac_D (x : ac_X) : va_G := x.2.2.1.1
abbrev ac_ki (x : ac_X) : Nat → ClassId := x.2.2.1.2.1
abbrev ac_AA (x : ac_X) : Nat → Prop := x.2.2.1.2.2
/-- what isn't kept by a word of a contract: the nest links, the classes of arrays of references -/
def ac_nw (U : State) : Prop := (∀ q ∈ NM_, va_Nw (.methodLinkNest q.1 q.2.1 q.2.2.1 q.2.2.2) U) ∧ ∀ C ∈ AO_, va_AO C U
theorem ac_nw.same {u U : State} (h : u.vm = U.vm) (hn : ac_nw u) : ac_nw U := ⟨fun q hq => va_Nw.same rfl h (hn.1 q hq), fun C hC => va_AO.moved (by rw [h]; exact Vm.Alike.refl _) (hn.2 C hC)⟩
theorem ac_nw.warm {s U : State} (hW : s.WarmedH U.vm) (hn : ac_nw s) : ac_nw U := ⟨fun q hq => va_Nw.warmM hW (hn.1 q hq), fun C hC => va_AO.moved hW.alike (hn.2 C hC)⟩
def ac_ok (M : ac_M) (x : ac_X) : Prop := x.1.1.tables.exec = Jvm.exec ∧ (ac_c x).code = M.1 ∧ (ac_c x).maxLocals = M.2.1 ∧ (ac_s x).vm.findClass M.2.2 = some x.2.1.1.cls ∧ (∀ w ∈ T0_, w.before (ac_args x) (ac_s x) = true) ∧ va_K (ac_D x) cl_ (tys_ (ac_ki x)) (ac_s x) ∧ ac_nw (ac_s x) ∧ ∀ q, (ac_s x).heap.size ≤ q → ac_AA x q
def ac_At (M : ac_M) (x : ac_X) (kc ks pc : Nat) (lv : List (Nat × Value)) (st : List Value) (f : ac_hp) : Prop :=
  ac_ok M x → ∀ (H : Heap) (locs : List Loc) (ls : Array Slot), ac_wd (ac_D x) (ac_AA x) f H → va_S (ac_AA x) (ac_s x).heap H locs → lv_has ls M.2.1 lv → W x.1.1 x.1.2.1 x.1.2.2.1 x.1.2.2.2.1 x.1.2.2.2.2 x.2.1.1 x.2.1.2.1 x.2.1.2.2.1 x.2.1.2.2.2.1 x.2.1.2.2.2.2 H locs kc ks x.2.2.2 (F0 x.2.1.1 pc ls st)
section AC
variable {M : ac_M} {x : ac_X} {kc ks pc : Nat} {lv : List (Nat × Value)} {st : List Value} {f : ac_hp}
theorem ac_weak {lv' : List (Nat × Value)} (ps : List Nat) (hp : lv_pick lv ps = lv') (k : ac_At M x kc ks pc lv' st f) : ac_At M x kc ks pc lv st f := fun o H locs ls hw hS hl => k o H locs ls hw hS (lv_sub hl ps hp)
theorem ac_widen {k2 n2 : Nat} (h1 : kc ≤ k2) (h2 : ks ≤ n2) (k : ac_At M x k2 n2 pc lv st f) : ac_At M x kc ks pc lv st f := fun o H locs ls hw hS hl => W.widen h1 h2 (k o H locs ls hw hS hl)
-- constants
theorem ac_iconst {n : Int} {v : Int32} (hd : decode M.1 pc = .ok (.iconst n, 1)) (hv : Int32.ofInt n = v) (k : ac_At M x kc ks (pc + 1) lv (.int v :: st) f) : ac_At M x kc ks pc lv st f := fun o H locs ls hw hS hl => lv_iconst o.1 o.2.1 hd hv (k o H locs ls hw hS hl)
theorem ac_bipush {n : Int} {v : Int32} (hd : decode M.1 pc = .ok (.bipush n, 2)) (hv : (Int8.ofInt n).toInt32 = v) (k : ac_At M x kc ks (pc + 2) lv (.int v :: st) f) : ac_At M x kc ks pc lv st f := fun o H locs ls hw hS hl => lv_bipush o.1 o.2.1 hd hv (k o H locs ls hw hS hl)
theorem ac_sipush {n : Int} {v : Int32} (hd : decode M.1 pc = .ok (.sipush n, 3)) (hv : (Int16.ofInt n).toInt32 = v) (k : ac_At M x kc ks (pc + 3) lv (.int v :: st) f) : ac_At M x kc ks pc lv st f := fun o H locs ls hw hS hl => lv_sipush o.1 o.2.1 hd hv (k o H locs ls hw hS hl)
theorem ac_lconst {n : Fin 2} {v : Int64} (hd : decode M.1 pc = .ok (.lconst n, 1)) (hv : Int64.ofNat (n : Nat) = v) (k : ac_At M x kc ks (pc + 1) lv (.long v :: st) f) : ac_At M x kc ks pc lv st f := fun o H locs ls hw hS hl => lv_lconst o.1 o.2.1 hd hv (k o H locs ls hw hS hl)
theorem ac_ldc {index : Nat} {v : Int32} (hc : Jvm.Cond.constant M.2.2 index v ∈ T0_) (hd : decode M.1 pc = .ok (.ldc index, 2)) (k : ac_At M x kc ks (pc + 2) lv (.int v :: st) f) : ac_At M x kc ks pc lv st f := fun o H locs ls hw hS hl => lv_ldc o.1 o.2.1 o.2.2.2.1 (o.2.2.2.2.1 _ hc) hd (k o H locs ls hw hS hl)
theorem ac_ldcw {index : Nat} {v : Int32} (hc : Jvm.Cond.constant M.2.2 index v ∈ T0_) (hd : decode M.1 pc = .ok (.ldc_w index, 3)) (k : ac_At M x kc ks (pc + 3) lv (.int v :: st) f) : ac_At M x kc ks pc lv st f := fun o H locs ls hw hS hl => lv_ldcw o.1 o.2.1 o.2.2.2.1 (o.2.2.2.2.1 _ hc) hd (k o H locs ls hw hS hl)
theorem ac_ldc2 {index : Nat} {v : Int64} (hc : Jvm.Cond.constantLong M.2.2 index v ∈ T0_) (hd : decode M.1 pc = .ok (.ldc2_w index, 3)) (k : ac_At M x kc ks (pc + 3) lv (.long v :: st) f) : ac_At M x kc ks pc lv st f := fun o H locs ls hw hS hl => lv_ldc2 o.1 o.2.1 o.2.2.2.1 (o.2.2.2.2.1 _ hc) hd (k o H locs ls hw hS hl)
-- locals
theorem ac_iload_n {k0 : Fin 4} {i : Nat} {v : Int32} (j : Nat) (hd : decode M.1 pc = .ok (.iload_n k0, 1)) (hi : (k0 : Nat) = i) (hj : lv[j]? = some (i, .int v)) (k : ac_At M x kc ks (pc + 1) lv (.int v :: st) f) : ac_At M x kc ks pc lv st f := fun o H locs ls hw hS hl => lv_iload_n o.1 o.2.1 hd hi (lv_at hl j hj) (k o H locs ls hw hS hl)
theorem ac_iload {i : Nat} {v : Int32} (j : Nat) (hd : decode M.1 pc = .ok (.iload i, 2)) (hj : lv[j]? = some (i, .int v)) (k : ac_At M x kc ks (pc + 2) lv (.int v :: st) f) : ac_At M x kc ks pc lv st f := fun o H locs ls hw hS hl => lv_iload o.1 o.2.1 hd (lv_at hl j hj) (k o H locs ls hw hS hl)
theorem ac_lload_n {k0 : Fin 4} {i : Nat} {v : Int64} (j : Nat) (hd : decode M.1 pc = .ok (.lload_n k0, 1)) (hi : (k0 : Nat) = i) (hj : lv[j]? = some (i, .long v)) (k : ac_At M x kc ks (pc + 1) lv (.long v :: st) f) : ac_At M x kc ks pc lv st f := fun o H locs ls hw hS hl => lv_lload_n o.1 o.2.1 hd hi (lv_at hl j hj) (k o H locs ls hw hS hl)
theorem ac_lload {i : Nat} {v : Int64} (j : Nat) (hd : decode M.1 pc = .ok (.lload i, 2)) (hj : lv[j]? = some (i, .long v)) (k : ac_At M x kc ks (pc + 2) lv (.long v :: st) f) : ac_At M x kc ks pc lv st f := fun o H locs ls hw hS hl => lv_lload o.1 o.2.1 hd (lv_at hl j hj) (k o H locs ls hw hS hl)
theorem ac_aload_n {k0 : Fin 4} {i v : Nat} (j : Nat) (hd : decode M.1 pc = .ok (.aload_n k0, 1)) (hi : (k0 : Nat) = i) (hj : lv[j]? = some (i, .ref v)) (k : ac_At M x kc ks (pc + 1) lv (.ref v :: st) f) : ac_At M x kc ks pc lv st f := fun o H locs ls hw hS hl => lv_aload_n o.1 o.2.1 hd hi (lv_at hl j hj) (k o H locs ls hw hS hl)
theorem ac_aload {i v : Nat} (j : Nat) (hd : decode M.1 pc = .ok (.aload i, 2)) (hj : lv[j]? = some (i, .ref v)) (k : ac_At M x kc ks (pc + 2) lv (.ref v :: st) f) : ac_At M x kc ks pc lv st f := fun o H locs ls hw hS hl => lv_aload o.1 o.2.1 hd (lv_at hl j hj) (k o H locs ls hw hS hl)
theorem ac_istore_n {k0 : Fin 4} {i : Nat} {v : Int32} {lv' : List (Nat × Value)} (hd : decode M.1 pc = .ok (.istore_n k0, 1)) (hi : (k0 : Nat) = i) (hn : i < M.2.1) (hl' : (i, Value.int v) :: lv.filter (fun q => !(q.1 == i) && !(q.1 + 1 == i && q.2.category == 2)) = lv') (k : ac_At M x kc ks (pc + 1) lv' st f) : ac_At M x kc ks pc lv (.int v :: st) f := fun o H locs ls hw hS hl => lv_istore_n o.1 o.2.1 hd hi hl hn hl' (fun ls' hl2 => k o H locs ls' hw hS hl2)
theorem ac_istore {i : Nat} {v : Int32} {lv' : List (Nat × Value)} (hd : decode M.1 pc = .ok (.istore i, 2)) (hn : i < M.2.1) (hl' : (i, Value.int v) :: lv.filter (fun q => !(q.1 == i) && !(q.1 + 1 == i && q.2.category == 2)) = lv') (k : ac_At M x kc ks (pc + 2) lv' st f) : ac_At M x kc ks pc lv (.int v :: st) f := fun o H locs ls hw hS hl => lv_istore o.1 o.2.1 hd hl hn hl' (fun ls' hl2 => k o H locs ls' hw hS hl2)
theorem ac_lstore_n {k0 : Fin 4} {i : Nat} {v : Int64} {lv' : List (Nat × Value)} (hd : decode M.1 pc = .ok (.lstore_n k0, 1)) (hi : (k0 : Nat) = i) (hn : i + 1 < M.2.1) (hl' : (i, Value.long v) :: lv.filter (fun q => !(q.1 == i) && (!(q.1 == i + 1) && !(q.1 + 1 == i && q.2.category == 2))) = lv') (k : ac_At M x kc ks (pc + 1) lv' st f) : ac_At M x kc ks pc lv (.long v :: st) f := fun o H locs ls hw hS hl => lv_lstore_n o.1 o.2.1 hd hi hl hn hl' (fun ls' hl2 => k o H locs ls' hw hS hl2)
theorem ac_lstore {i : Nat} {v : Int64} {lv' : List (Nat × Value)} (hd : decode M.1 pc = .ok (.lstore i, 2)) (hn : i + 1 < M.2.1) (hl' : (i, Value.long v) :: lv.filter (fun q => !(q.1 == i) && (!(q.1 == i + 1) && !(q.1 + 1 == i && q.2.category == 2))) = lv') (k : ac_At M x kc ks (pc + 2) lv' st f) : ac_At M x kc ks pc lv (.long v :: st) f := fun o H locs ls hw hS hl => lv_lstore o.1 o.2.1 hd hl hn hl' (fun ls' hl2 => k o H locs ls' hw hS hl2)
theorem ac_astore_n {k0 : Fin 4} {i v : Nat} {lv' : List (Nat × Value)} (hd : decode M.1 pc = .ok (.astore_n k0, 1)) (hi : (k0 : Nat) = i) (hn : i < M.2.1) (hl' : (i, Value.ref v) :: lv.filter (fun q => !(q.1 == i) && !(q.1 + 1 == i && q.2.category == 2)) = lv') (k : ac_At M x kc ks (pc + 1) lv' st f) : ac_At M x kc ks pc lv (.ref v :: st) f := fun o H locs ls hw hS hl => lv_astore_n o.1 o.2.1 hd hi hl hn hl' (fun ls' hl2 => k o H locs ls' hw hS hl2)
theorem ac_astore {i v : Nat} {lv' : List (Nat × Value)} (hd : decode M.1 pc = .ok (.astore i, 2)) (hn : i < M.2.1) (hl' : (i, Value.ref v) :: lv.filter (fun q => !(q.1 == i) && !(q.1 + 1 == i && q.2.category == 2)) = lv') (k : ac_At M x kc ks (pc + 2) lv' st f) : ac_At M x kc ks pc lv (.ref v :: st) f := fun o H locs ls hw hS hl => lv_astore o.1 o.2.1 hd hl hn hl' (fun ls' hl2 => k o H locs ls' hw hS hl2)
theorem ac_iinc {i j : Nat} {n : Int} {v w : Int32} {lv' : List (Nat × Value)} (hd : decode M.1 pc = .ok (.iinc i n, 3)) (hj : lv[j]? = some (i, .int v)) (hv : v + Int32.ofInt n = w) (hn : i < M.2.1) (hl' : (i, Value.int w) :: lv.filter (fun q => !(q.1 == i) && !(q.1 + 1 == i && q.2.category == 2)) = lv') (k : ac_At M x kc ks (pc + 3) lv' st f) : ac_At M x kc ks pc lv st f := fun o H locs ls hw hS hl => lv_iinc o.1 o.2.1 hd hl hj hv hn hl' (fun ls' hl2 => k o H locs ls' hw hS hl2)
-- arithmetic
theorem ac_iadd {a b : Int32} (hd : decode M.1 pc = .ok (.iadd, 1)) (k : ac_At M x kc ks (pc + 1) lv (.int (a + b) :: st) f) : ac_At M x kc ks pc lv (.int b :: .int a :: st) f := fun o H locs ls hw hS hl => lv_iadd o.1 o.2.1 hd (k o H locs ls hw hS hl)
theorem ac_isub {a b : Int32} (hd : decode M.1 pc = .ok (.isub, 1)) (k : ac_At M x kc ks (pc + 1) lv (.int (a - b) :: st) f) : ac_At M x kc ks pc lv (.int b :: .int a :: st) f := fun o H locs ls hw hS hl => lv_isub o.1 o.2.1 hd (k o H locs ls hw hS hl)
theorem ac_imul {a b : Int32} (hd : decode M.1 pc = .ok (.imul, 1)) (k : ac_At M x kc ks (pc + 1) lv (.int (a * b) :: st) f) : ac_At M x kc ks pc lv (.int b :: .int a :: st) f := fun o H locs ls hw hS hl => lv_imul o.1 o.2.1 hd (k o H locs ls hw hS hl)
theorem ac_iand {a b : Int32} (hd : decode M.1 pc = .ok (.iand, 1)) (k : ac_At M x kc ks (pc + 1) lv (.int (a &&& b) :: st) f) : ac_At M x kc ks pc lv (.int b :: .int a :: st) f := fun o H locs ls hw hS hl => lv_iand o.1 o.2.1 hd (k o H locs ls hw hS hl)
theorem ac_ior {a b : Int32} (hd : decode M.1 pc = .ok (.ior, 1)) (k : ac_At M x kc ks (pc + 1) lv (.int (a ||| b) :: st) f) : ac_At M x kc ks pc lv (.int b :: .int a :: st) f := fun o H locs ls hw hS hl => lv_ior o.1 o.2.1 hd (k o H locs ls hw hS hl)
theorem ac_ixor {a b : Int32} (hd : decode M.1 pc = .ok (.ixor, 1)) (k : ac_At M x kc ks (pc + 1) lv (.int (a ^^^ b) :: st) f) : ac_At M x kc ks pc lv (.int b :: .int a :: st) f := fun o H locs ls hw hS hl => lv_ixor o.1 o.2.1 hd (k o H locs ls hw hS hl)
theorem ac_idiv {a b : Int32} (hd : decode M.1 pc = .ok (.idiv, 1)) (hn : ¬ b = 0) (k : ac_At M x kc ks (pc + 1) lv (.int (a / b) :: st) f) : ac_At M x kc ks pc lv (.int b :: .int a :: st) f := fun o H locs ls hw hS hl => lv_idiv o.1 o.2.1 hd hn (k o H locs ls hw hS hl)
theorem ac_irem {a b : Int32} (hd : decode M.1 pc = .ok (.irem, 1)) (hn : ¬ b = 0) (k : ac_At M x kc ks (pc + 1) lv (.int (a - a / b * b) :: st) f) : ac_At M x kc ks pc lv (.int b :: .int a :: st) f := fun o H locs ls hw hS hl => lv_irem o.1 o.2.1 hd hn (k o H locs ls hw hS hl)
theorem ac_ishl {a b : Int32} (hd : decode M.1 pc = .ok (.ishl, 1)) (k : ac_At M x kc ks (pc + 1) lv (.int (a <<< (b &&& 31)) :: st) f) : ac_At M x kc ks pc lv (.int b :: .int a :: st) f := fun o H locs ls hw hS hl => lv_ishl o.1 o.2.1 hd (k o H locs ls hw hS hl)
theorem ac_ishr {a b : Int32} (hd : decode M.1 pc = .ok (.ishr, 1)) (k : ac_At M x kc ks (pc + 1) lv (.int (a >>> (b &&& 31)) :: st) f) : ac_At M x kc ks pc lv (.int b :: .int a :: st) f := fun o H locs ls hw hS hl => lv_ishr o.1 o.2.1 hd (k o H locs ls hw hS hl)
theorem ac_iushr {a b : Int32} (hd : decode M.1 pc = .ok (.iushr, 1)) (k : ac_At M x kc ks (pc + 1) lv (.int (a.toUInt32 >>> (b.toUInt32 &&& Int32.toUInt32 31)).toInt32 :: st) f) : ac_At M x kc ks pc lv (.int b :: .int a :: st) f := fun o H locs ls hw hS hl => lv_iushr o.1 o.2.1 hd rfl (k o H locs ls hw hS hl)
theorem ac_ineg {a : Int32} (hd : decode M.1 pc = .ok (.ineg, 1)) (k : ac_At M x kc ks (pc + 1) lv (.int (-a) :: st) f) : ac_At M x kc ks pc lv (.int a :: st) f := fun o H locs ls hw hS hl => lv_ineg o.1 o.2.1 hd (k o H locs ls hw hS hl)
theorem ac_i2l {a : Int32} (hd : decode M.1 pc = .ok (.i2l, 1)) (k : ac_At M x kc ks (pc + 1) lv (.long a.toInt64 :: st) f) : ac_At M x kc ks pc lv (.int a :: st) f := fun o H locs ls hw hS hl => lv_i2l o.1 o.2.1 hd rfl (k o H locs ls hw hS hl)
theorem ac_l2i {a : Int64} (hd : decode M.1 pc = .ok (.l2i, 1)) (k : ac_At M x kc ks (pc + 1) lv (.int a.toInt32 :: st) f) : ac_At M x kc ks pc lv (.long a :: st) f := fun o H locs ls hw hS hl => lv_l2i o.1 o.2.1 hd rfl (k o H locs ls hw hS hl)
theorem ac_ladd {a b : Int64} (hd : decode M.1 pc = .ok (.ladd, 1)) (k : ac_At M x kc ks (pc + 1) lv (.long (a + b) :: st) f) : ac_At M x kc ks pc lv (.long b :: .long a :: st) f := fun o H locs ls hw hS hl => lv_ladd o.1 o.2.1 hd (k o H locs ls hw hS hl)
theorem ac_lmul {a b : Int64} (hd : decode M.1 pc = .ok (.lmul, 1)) (k : ac_At M x kc ks (pc + 1) lv (.long (a * b) :: st) f) : ac_At M x kc ks pc lv (.long b :: .long a :: st) f := fun o H locs ls hw hS hl => lv_lmul o.1 o.2.1 hd (k o H locs ls hw hS hl)
theorem ac_lcmp {a b : Int64} (hd : decode M.1 pc = .ok (.lcmp, 1)) (k : ac_At M x kc ks (pc + 1) lv (.int (lg_cmp a b) :: st) f) : ac_At M x kc ks pc lv (.long b :: .long a :: st) f := fun o H locs ls hw hS hl => W.lcmp o.1 o.2.1 hd (k o H locs ls hw hS hl)
-- stack
theorem ac_dup {v : Value} (hd : decode M.1 pc = .ok (.dup, 1)) (hv : v.category = 1) (k : ac_At M x kc ks (pc + 1) lv (v :: v :: st) f) : ac_At M x kc ks pc lv (v :: st) f := fun o H locs ls hw hS hl => lv_dup o.1 o.2.1 hd hv (k o H locs ls hw hS hl)
theorem ac_pop {v : Value} (hd : decode M.1 pc = .ok (.pop, 1)) (hv : v.category = 1) (k : ac_At M x kc ks (pc + 1) lv st f) : ac_At M x kc ks pc lv (v :: st) f := fun o H locs ls hw hS hl => lv_pop o.1 o.2.1 hd hv (k o H locs ls hw hS hl)
theorem ac_dup_x1 {v w : Value} (hd : decode M.1 pc = .ok (.dup_x1, 1)) (hv : v.category = 1) (hw' : w.category = 1) (k : ac_At M x kc ks (pc + 1) lv (v :: w :: v :: st) f) : ac_At M x kc ks pc lv (v :: w :: st) f := fun o H locs ls hw hS hl => lv_dup_x1 o.1 o.2.1 hd hv hw' (k o H locs ls hw hS hl)
theorem ac_dup2 {v w : Value} (hd : decode M.1 pc = .ok (.dup2, 1)) (hv : v.category = 1) (hw' : w.category = 1) (k : ac_At M x kc ks (pc + 1) lv (v :: w :: v :: w :: st) f) : ac_At M x kc ks pc lv (v :: w :: st) f := fun o H locs ls hw hS hl => lv_dup2_11 o.1 o.2.1 hd hv hw' (k o H locs ls hw hS hl)
-- branches
theorem ac_goto {off : Int} {tgt : Nat} (hd : decode M.1 pc = .ok (.goto off, 3)) (ht : (pc : Int) + off = (tgt : Int)) (k : ac_At M x kc ks tgt lv st f) : ac_At M x kc ks pc lv st f := fun o H locs ls hw hS hl => lv_goto o.1 o.2.1 hd ht (k o H locs ls hw hS hl)
theorem ac_if_eq {a : Int32} {off : Int} {tgt : Nat} (hd : decode M.1 pc = .ok (.ifCond .eq off, 3)) (ht : (pc : Int) + off = (tgt : Int)) (kt : a = 0 → ac_At M x kc ks tgt lv st f) (kf : ¬ a = 0 → ac_At M x kc ks (pc + 3) lv st f) : ac_At M x kc ks pc lv (.int a :: st) f := fun o H locs ls hw hS hl => lv_if_eq o.1 o.2.1 hd ht (fun h => kt h o H locs ls hw hS hl) (fun h => kf h o H locs ls hw hS hl)
theorem ac_if_ne {a : Int32} {off : Int} {tgt : Nat} (hd : decode M.1 pc = .ok (.ifCond .ne off, 3)) (ht : (pc : Int) + off = (tgt : Int)) (kt : ¬ a = 0 → ac_At M x kc ks tgt lv st f) (kf : a = 0 → ac_At M x kc ks (pc + 3) lv st f) : ac_At M x kc ks pc lv (.int a :: st) f := fun o H locs ls hw hS hl => lv_if_ne o.1 o.2.1 hd ht (fun h => kt h o H locs ls hw hS hl) (fun h => kf h o H locs ls hw hS hl)
theorem ac_if_lt {a : Int32} {off : Int} {tgt : Nat} (hd : decode M.1 pc = .ok (.ifCond .lt off, 3)) (ht : (pc : Int) + off = (tgt : Int)) (kt : a < 0 → ac_At M x kc ks tgt lv st f) (kf : ¬ a < 0 → ac_At M x kc ks (pc + 3) lv st f) : ac_At M x kc ks pc lv (.int a :: st) f := fun o H locs ls hw hS hl => lv_if_lt o.1 o.2.1 hd ht (fun h => kt h o H locs ls hw hS hl) (fun h => kf h o H locs ls hw hS hl)
theorem ac_if_ge {a : Int32} {off : Int} {tgt : Nat} (hd : decode M.1 pc = .ok (.ifCond .ge off, 3)) (ht : (pc : Int) + off = (tgt : Int)) (kt : 0 ≤ a → ac_At M x kc ks tgt lv st f) (kf : ¬ 0 ≤ a → ac_At M x kc ks (pc + 3) lv st f) : ac_At M x kc ks pc lv (.int a :: st) f := fun o H locs ls hw hS hl => lv_if_ge o.1 o.2.1 hd ht (fun h => kt h o H locs ls hw hS hl) (fun h => kf h o H locs ls hw hS hl)
theorem ac_if_gt {a : Int32} {off : Int} {tgt : Nat} (hd : decode M.1 pc = .ok (.ifCond .gt off, 3)) (ht : (pc : Int) + off = (tgt : Int)) (kt : 0 < a → ac_At M x kc ks tgt lv st f) (kf : ¬ 0 < a → ac_At M x kc ks (pc + 3) lv st f) : ac_At M x kc ks pc lv (.int a :: st) f := fun o H locs ls hw hS hl => lv_if_gt o.1 o.2.1 hd ht (fun h => kt h o H locs ls hw hS hl) (fun h => kf h o H locs ls hw hS hl)
theorem ac_if_le {a : Int32} {off : Int} {tgt : Nat} (hd : decode M.1 pc = .ok (.ifCond .le off, 3)) (ht : (pc : Int) + off = (tgt : Int)) (kt : a ≤ 0 → ac_At M x kc ks tgt lv st f) (kf : ¬ a ≤ 0 → ac_At M x kc ks (pc + 3) lv st f) : ac_At M x kc ks pc lv (.int a :: st) f := fun o H locs ls hw hS hl => lv_if_le o.1 o.2.1 hd ht (fun h => kt h o H locs ls hw hS hl) (fun h => kf h o H locs ls hw hS hl)
theorem ac_icmp_eq {a b : Int32} {off : Int} {tgt : Nat} (hd : decode M.1 pc = .ok (.if_icmp .eq off, 3)) (ht : (pc : Int) + off = (tgt : Int)) (kt : a = b → ac_At M x kc ks tgt lv st f) (kf : ¬ a = b → ac_At M x kc ks (pc + 3) lv st f) : ac_At M x kc ks pc lv (.int b :: .int a :: st) f := fun o H locs ls hw hS hl => lv_icmp_eq o.1 o.2.1 hd ht (fun h => kt h o H locs ls hw hS hl) (fun h => kf h o H locs ls hw hS hl)
theorem ac_icmp_ne {a b : Int32} {off : Int} {tgt : Nat} (hd : decode M.1 pc = .ok (.if_icmp .ne off, 3)) (ht : (pc : Int) + off = (tgt : Int)) (kt : ¬ a = b → ac_At M x kc ks tgt lv st f) (kf : a = b → ac_At M x kc ks (pc + 3) lv st f) : ac_At M x kc ks pc lv (.int b :: .int a :: st) f := fun o H locs ls hw hS hl => lv_icmp_ne o.1 o.2.1 hd ht (fun h => kt h o H locs ls hw hS hl) (fun h => kf h o H locs ls hw hS hl)
theorem ac_icmp_lt {a b : Int32} {off : Int} {tgt : Nat} (hd : decode M.1 pc = .ok (.if_icmp .lt off, 3)) (ht : (pc : Int) + off = (tgt : Int)) (kt : a < b → ac_At M x kc ks tgt lv st f) (kf : ¬ a < b → ac_At M x kc ks (pc + 3) lv st f) : ac_At M x kc ks pc lv (.int b :: .int a :: st) f := fun o H locs ls hw hS hl => lv_icmp_lt o.1 o.2.1 hd ht (fun h => kt h o H locs ls hw hS hl) (fun h => kf h o H locs ls hw hS hl)
theorem ac_icmp_ge {a b : Int32} {off : Int} {tgt : Nat} (hd : decode M.1 pc = .ok (.if_icmp .ge off, 3)) (ht : (pc : Int) + off = (tgt : Int)) (kt : b ≤ a → ac_At M x kc ks tgt lv st f) (kf : ¬ b ≤ a → ac_At M x kc ks (pc + 3) lv st f) : ac_At M x kc ks pc lv (.int b :: .int a :: st) f := fun o H locs ls hw hS hl => lv_icmp_ge o.1 o.2.1 hd ht (fun h => kt h o H locs ls hw hS hl) (fun h => kf h o H locs ls hw hS hl)
theorem ac_icmp_gt {a b : Int32} {off : Int} {tgt : Nat} (hd : decode M.1 pc = .ok (.if_icmp .gt off, 3)) (ht : (pc : Int) + off = (tgt : Int)) (kt : b < a → ac_At M x kc ks tgt lv st f) (kf : ¬ b < a → ac_At M x kc ks (pc + 3) lv st f) : ac_At M x kc ks pc lv (.int b :: .int a :: st) f := fun o H locs ls hw hS hl => lv_icmp_gt o.1 o.2.1 hd ht (fun h => kt h o H locs ls hw hS hl) (fun h => kf h o H locs ls hw hS hl)
theorem ac_icmp_le {a b : Int32} {off : Int} {tgt : Nat} (hd : decode M.1 pc = .ok (.if_icmp .le off, 3)) (ht : (pc : Int) + off = (tgt : Int)) (kt : a ≤ b → ac_At M x kc ks tgt lv st f) (kf : ¬ a ≤ b → ac_At M x kc ks (pc + 3) lv st f) : ac_At M x kc ks pc lv (.int b :: .int a :: st) f := fun o H locs ls hw hS hl => lv_icmp_le o.1 o.2.1 hd ht (fun h => kt h o H locs ls hw hS hl) (fun h => kf h o H locs ls hw hS hl)
end AC
/-! fields and arrays -/
/-- own's pool entry index names field k of class number ci -/
def ac_fl (own : String) (index ci k : Nat) : Prop := ∃ (C : String) (T : u_T) (N : Nat), cl_[ci]? = some (C, T, N) ∧ (∀ w ∈ u_ws C T N, w ∈ T0_) ∧ k < N ∧ Cond.fieldLink own index (T k).1 (T k).2.1 (T k).2.2.1 ∈ T0_
/-- .. and may be written: not final, of type ty -/
def ac_fp (own : String) (index ci k : Nat) (ty : FieldType) (fin : Bool) : Prop := ∃ (C : String) (T : u_T) (N : Nat) (ty0 : Nat → FieldType), cl_[ci]? = some (C, T, N) ∧ (∀ w ∈ u_ws C T N, w ∈ T0_) ∧ k < N ∧ Cond.fieldLink own index (T k).1 (T k).2.1 (T k).2.2.1 ∈ T0_ ∧ (∀ k, k < N → parseFieldDescriptor (T k).2.2.1 = some (ty0 k)) ∧ (∀ a, a < N → ∀ b, b < N → a ≠ b → (T a).2.1 ≠ (T b).2.1) ∧ (T k).2.2.2 = fin ∧ parseFieldDescriptor (T k).2.2.1 = some ty ∧ (fin = true → (T k).1 = own)
section AH
variable {M : ac_M} {x : ac_X} {kc ks pc : Nat} {lv : List (Nat × Value)} {st : List Value} {f : ac_hp}
theorem ac_getf {index ci k a : Nat} {fs : List Value} {v : Value} (hl0 : ac_fl M.2.2 index ci k) (hf : f a = some (.inr (ci, fs))) (hv : fs[k]? = some v) (hd : decode M.1 pc = .ok (.getfield index, 3)) (kk : ac_At M x kc ks (pc + 3) lv (v :: st) f) : ac_At M x kc ks pc lv (.ref a :: st) f := by
  intro o H locs ls hw hS hl
  obtain ⟨C, T, N, hc, hin, hk, hlink⟩ := hl0
  obtain ⟨ws, q0, hP, hD, hq, -, -⟩ := ac_get hw hf
  exact va_get o.1 o.2.1 o.2.2.2.2.1 hin o.2.2.2.1 o.2.2.2.2.2.1 hP q0 hq hc k hk (o.2.2.2.2.1 _ hlink) (fun _ h => h) hv hd (kk o H locs ls hw hS hl)
theorem ac_putf {index ci k a : Nat} {fs : List Value} {v : Value} {ty : FieldType} (hl0 : ac_fp M.2.2 index ci k ty false) (hf : f a = some (.inr (ci, fs))) (hlen : k < fs.length) (hn : narrow ty v = v) (hfit : fits ty v = true) (hd : decode M.1 pc = .ok (.putfield index, 3)) (kk : ac_At M x kc ks (pc + 3) lv st (ac_up f a (.inr (ci, fs.set k v)))) : ac_At M x kc ks pc lv (v :: .ref a :: st) f := by
  intro o H locs ls hw hS hl
  obtain ⟨C, T, N, ty0, hc, hin, hk, hlink, hty, hnm, hfin, hpar, -⟩ := hl0
  obtain ⟨ws, q0, hP, hD, hq, hset, -⟩ := ac_get hw hf
  exact va_put o.1 o.2.1 o.2.2.2.2.1 hin ty0 hty hnm o.2.2.2.1 o.2.2.2.2.2.1 hP hD hS q0 hq hc k hk (o.2.2.2.2.1 _ hlink) (fun _ h => h) hfin hpar hn hfit hlen hd (fun H1 locs1 hP1 hD1 hS1 => kk o H1 locs1 ls (hset _ _ hP1 hD1) hS1 hl)
theorem ac_putF {index ci k a : Nat} {fs : List Value} {v : Value} {ty : FieldType} (hl0 : ac_fp M.2.2 index ci k ty true) (hname : (ac_meth x).name = "<init>") (hf : f a = some (.inr (ci, fs))) (hlen : k < fs.length) (hn : narrow ty v = v) (hfit : fits ty v = true) (hd : decode M.1 pc = .ok (.putfield index, 3)) (kk : ac_At M x kc ks (pc + 3) lv st (ac_up f a (.inr (ci, fs.set k v)))) : ac_At M x kc ks pc lv (v :: .ref a :: st) f := by
  intro o H locs ls hw hS hl
  obtain ⟨C, T, N, ty0, hc, hin, hk, hlink, hty, hnm, hfin, hpar, hown⟩ := hl0
  obtain ⟨ws, q0, hP, hD, hq, hset, -⟩ := ac_get hw hf
  exact va_putF o.1 o.2.1 o.2.2.2.2.1 hin ty0 hty hnm o.2.2.2.1 o.2.2.2.2.2.1 hP hD hS q0 hq hc k hk (o.2.2.2.2.1 _ hlink) (fun _ h => h) hfin hname (hown rfl) hpar hn hfit hlen hd (fun H1 locs1 hP1 hD1 hS1 => kk o H1 locs1 ls (hset _ _ hP1 hD1) hS1 hl)
theorem ac_iald {a n t0 : Nat} {g : Nat → Int32} {i : Int32} (ht : (tys_ (ac_ki x))[t0]? = some (ac_ki x t0, .int)) (hf : f a = some (.inl (ac_ki x t0, n, .inl g))) (hin : vp_in i n) (hd : decode M.1 pc = .ok (.iaload, 1)) (kk : ac_At M x kc ks (pc + 1) lv (.int (g i.toNatClampNeg) :: st) f) : ac_At M x kc ks pc lv (.int i :: .ref a :: st) f := by
  intro o H locs ls hw hS hl
  obtain ⟨ws, q0, hP, hD, hq, -, -⟩ := ac_get hw hf
  exact va_iald o.1 o.2.1 o.2.2.2.2.2.1 hP q0 t0 hq ht hin hd (kk o H locs ls hw hS hl)
theorem ac_zald {a n t0 : Nat} {g : Nat → Int32} {i : Int32} (ht : (tys_ (ac_ki x))[t0]? = some (ac_ki x t0, .boolean)) (hf : f a = some (.inl (ac_ki x t0, n, .inl g))) (hin : vp_in i n) (hd : decode M.1 pc = .ok (.baload, 1)) (kk : ac_At M x kc ks (pc + 1) lv (.int (g i.toNatClampNeg) :: st) f) : ac_At M x kc ks pc lv (.int i :: .ref a :: st) f := by
  intro o H locs ls hw hS hl
  obtain ⟨ws, q0, hP, hD, hq, -, -⟩ := ac_get hw hf
  exact va_zald o.1 o.2.1 o.2.2.2.2.2.1 hP q0 t0 hq ht hin hd (kk o H locs ls hw hS hl)
theorem ac_lald {a n t0 : Nat} {g : Nat → Int64} {i : Int32} (ht : (tys_ (ac_ki x))[t0]? = some (ac_ki x t0, .long)) (hf : f a = some (.inl (ac_ki x t0, n, .inr (.inl g)))) (hin : vp_in i n) (hd : decode M.1 pc = .ok (.laload, 1)) (kk : ac_At M x kc ks (pc + 1) lv (.long (g i.toNatClampNeg) :: st) f) : ac_At M x kc ks pc lv (.int i :: .ref a :: st) f := by
  intro o H locs ls hw hS hl
  obtain ⟨ws, q0, hP, hD, hq, -, -⟩ := ac_get hw hf
  exact va_lald o.1 o.2.1 o.2.2.2.2.2.1 hP q0 t0 hq ht hin hd (kk o H locs ls hw hS hl)
theorem ac_aald {a n t0 r : Nat} {g : Nat → Option Nat} {i : Int32} {C : String} (ht : (tys_ (ac_ki x))[t0]? = some (ac_ki x t0, .object C)) (hf : f a = some (.inl (ac_ki x t0, n, .inr (.inr (.inr (.inr g)))))) (hin : vp_in i n) (hg : g i.toNatClampNeg = some r) (hd : decode M.1 pc = .ok (.aaload, 1)) (kk : ac_At M x kc ks (pc + 1) lv (.ref r :: st) f) : ac_At M x kc ks pc lv (.int i :: .ref a :: st) f := by
  intro o H locs ls hw hS hl
  obtain ⟨ws, q0, hP, hD, hq, -, -⟩ := ac_get hw hf
  exact va_aldq o.1 o.2.1 o.2.2.2.2.2.1 hP q0 t0 hq ht hin hd (by rw [hg]; exact kk o H locs ls hw hS hl)
theorem ac_iast {a n t0 : Nat} {g : Nat → Int32} {i v : Int32} (ht : (tys_ (ac_ki x))[t0]? = some (ac_ki x t0, .int)) (hf : f a = some (.inl (ac_ki x t0, n, .inl g))) (hin : vp_in i n) (hd : decode M.1 pc = .ok (.iastore, 1)) (kk : ac_At M x kc ks (pc + 1) lv st (ac_up f a (.inl (ac_ki x t0, n, .inl (upd g i.toNatClampNeg v))))) : ac_At M x kc ks pc lv (.int v :: .int i :: .ref a :: st) f := by
  intro o H locs ls hw hS hl
  obtain ⟨ws, q0, hP, hD, hq, hset, -⟩ := ac_get hw hf
  exact va_iast o.1 o.2.1 o.2.2.2.2.2.1 hP hD hS q0 t0 hq ht hin hd (fun H1 locs1 hP1 hD1 hS1 => kk o H1 locs1 ls (hset _ _ hP1 hD1) hS1 hl)
theorem ac_zast {a n t0 : Nat} {g : Nat → Int32} {i v : Int32} (ht : (tys_ (ac_ki x))[t0]? = some (ac_ki x t0, .boolean)) (hf : f a = some (.inl (ac_ki x t0, n, .inl g))) (hin : vp_in i n) (hd : decode M.1 pc = .ok (.bastore, 1)) (kk : ac_At M x kc ks (pc + 1) lv st (ac_up f a (.inl (ac_ki x t0, n, .inl (upd g i.toNatClampNeg (vp_nar .boolean v)))))) : ac_At M x kc ks pc lv (.int v :: .int i :: .ref a :: st) f := by
  intro o H locs ls hw hS hl
  obtain ⟨ws, q0, hP, hD, hq, hset, -⟩ := ac_get hw hf
  exact va_zast o.1 o.2.1 o.2.2.2.2.2.1 hP hD hS q0 t0 hq ht hin hd (fun H1 locs1 hP1 hD1 hS1 => kk o H1 locs1 ls (hset _ _ hP1 hD1) hS1 hl)
theorem ac_last {a n t0 : Nat} {g : Nat → Int64} {i : Int32} {v : Int64} (ht : (tys_ (ac_ki x))[t0]? = some (ac_ki x t0, .long)) (hf : f a = some (.inl (ac_ki x t0, n, .inr (.inl g)))) (hin : vp_in i n) (hd : decode M.1 pc = .ok (.lastore, 1)) (kk : ac_At M x kc ks (pc + 1) lv st (ac_up f a (.inl (ac_ki x t0, n, .inr (.inl (vp_updL g i.toNatClampNeg v)))))) : ac_At M x kc ks pc lv (.long v :: .int i :: .ref a :: st) f := by
  intro o H locs ls hw hS hl
  obtain ⟨ws, q0, hP, hD, hq, hset, -⟩ := ac_get hw hf
  exact va_last o.1 o.2.1 o.2.2.2.2.2.1 hP hD hS q0 t0 hq ht hin hd (fun H1 locs1 hP1 hD1 hS1 => kk o H1 locs1 ls (hset _ _ hP1 hD1) hS1 hl)
theorem ac_aast {a n t0 v ci : Nat} {g : Nat → Option Nat} {i : Int32} {r : vw_C} {vs : List Value} (ht : (tys_ (ac_ki x))[t0]? = some (ac_ki x t0, .object r.1)) (hc : cl_[ci]? = some r) (hf : f a = some (.inl (ac_ki x t0, n, .inr (.inr (.inr (.inr g)))))) (hv : f v = some (.inr (ci, vs))) (hin : vp_in i n) (hd : decode M.1 pc = .ok (.aastore, 1)) (kk : ac_At M x kc ks (pc + 1) lv st (ac_up f a (.inl (ac_ki x t0, n, .inr (.inr (.inr (.inr (va_up g i.toNatClampNeg (some v))))))))) : ac_At M x kc ks pc lv (.ref v :: .int i :: .ref a :: st) f := by
  intro o H locs ls hw hS hl
  obtain ⟨ws, q0, hP, hD, hq, hset, hall⟩ := ac_get hw hf
  obtain ⟨qk, hqk⟩ := hall v _ hv
  exact va_astq o.1 o.2.1 o.2.2.2.2.2.1 hP hD hS q0 t0 qk ci hq ht hqk hc hin hd (fun H1 locs1 hP1 hD1 hS1 => kk o H1 locs1 ls (hset _ _ hP1 hD1) hS1 hl)
theorem ac_alen {a t0 : Nat} {v : vp_A} {ty : FieldType} (ht : (tys_ (ac_ki x))[t0]? = some (ac_ki x t0, ty)) (hf : f a = some (.inl (ac_ki x t0, v))) (hd : decode M.1 pc = .ok (.arraylength, 1)) (kk : ac_At M x kc ks (pc + 1) lv (.int (Int32.ofNat v.1) :: st) f) : ac_At M x kc ks pc lv (.ref a :: st) f := by
  intro o H locs ls hw hS hl
  obtain ⟨ws, q0, hP, hD, hq, -, -⟩ := ac_get hw hf
  exact va_alen o.1 o.2.1 o.2.2.2.2.2.1 hP q0 t0 hq ht rfl hd (kk o H locs ls hw hS hl)
theorem ac_copyi {index a0 a n0 n1 t0 : Nat} {g0 g1 : Nat → Int32} {sp dp n : Int32} {ty : FieldType} (hlink : Cond.methodLink M.2.2 index arraycopyName ∈ T0_) (hnat : Cond.native arraycopyName ∈ T0_) (hstat : Cond.static arraycopyName ∈ T0_) (hini : Cond.initialized "java/lang/System" ∈ T0_) (ht : (tys_ (ac_ki x))[t0]? = some (ac_ki x t0, ty)) (hprim : refKind ty = false) (hf0 : f a0 = some (.inl (ac_ki x t0, n0, .inl g0))) (hf1 : f a = some (.inl (ac_ki x t0, n1, .inl g1)))
    (h1 : ¬ sp < 0) (h2 : ¬ dp < 0) (h3 : ¬ n < 0) (h4 : sp.toNatClampNeg + n.toNatClampNeg ≤ n0) (h5 : dp.toNatClampNeg + n.toNatClampNeg ≤ n1) (hfit : ∀ i, i < n.toNatClampNeg → fits ty (.int (g0 (sp.toNatClampNeg + i))) = true) (hfr : 1 ≤ (ac_R x).frames) (hlo : (st.map fun v => v.category).sum + (nativeFrameWords "java/lang/System" "arraycopy" 5 + 11) ≤ (ac_R x).locals)
    (hd : decode M.1 pc = .ok (.invokestatic index, 3)) (kk : ac_At M x kc ks (pc + 3) lv st (ac_up f a (.inl (ac_ki x t0, n1, .inl (va_cpy g0 g1 sp.toNatClampNeg dp.toNatClampNeg n.toNatClampNeg))))) : ac_At M x kc ks pc lv (.int n :: .int dp :: .ref a :: .int sp :: .ref a0 :: st) f := by
  intro o H locs ls hw hS hl
  obtain ⟨ws, q1, hP, hD, hq, hset, hall⟩ := ac_get hw hf1
  obtain ⟨q0, hq0⟩ := hall a0 _ hf0
  exact va_copyi o.1 o.2.1 (o.2.2.1.trans hl.1.symm) o.2.2.2.1 (o.2.2.2.2.1 _ hlink) (o.2.2.2.2.1 _ hnat) (o.2.2.2.2.1 _ hstat) (o.2.2.2.2.1 _ hini) o.2.2.2.2.2.1 hP hD hS q0 q1 t0 t0 hq0 hq ht ht hprim h1 h2 h3 h4 h5 hfit hfr hlo hd (fun H1 locs1 hP1 hD1 hS1 => kk o H1 locs1 ls (hset _ _ hP1 hD1) hS1 hl)
theorem ac_copyl {index a0 a n0 n1 t0 : Nat} {g0 g1 : Nat → Int64} {sp dp n : Int32} {ty : FieldType} (hlink : Cond.methodLink M.2.2 index arraycopyName ∈ T0_) (hnat : Cond.native arraycopyName ∈ T0_) (hstat : Cond.static arraycopyName ∈ T0_) (hini : Cond.initialized "java/lang/System" ∈ T0_) (ht : (tys_ (ac_ki x))[t0]? = some (ac_ki x t0, ty)) (hprim : refKind ty = false) (hf0 : f a0 = some (.inl (ac_ki x t0, n0, .inr (.inl g0)))) (hf1 : f a = some (.inl (ac_ki x t0, n1, .inr (.inl g1))))
    (h1 : ¬ sp < 0) (h2 : ¬ dp < 0) (h3 : ¬ n < 0) (h4 : sp.toNatClampNeg + n.toNatClampNeg ≤ n0) (h5 : dp.toNatClampNeg + n.toNatClampNeg ≤ n1) (hfit : ∀ i, i < n.toNatClampNeg → fits ty (.long (g0 (sp.toNatClampNeg + i))) = true) (hfr : 1 ≤ (ac_R x).frames) (hlo : (st.map fun v => v.category).sum + (nativeFrameWords "java/lang/System" "arraycopy" 5 + 11) ≤ (ac_R x).locals)
    (hd : decode M.1 pc = .ok (.invokestatic index, 3)) (kk : ac_At M x kc ks (pc + 3) lv st (ac_up f a (.inl (ac_ki x t0, n1, .inr (.inl (va_cpy g0 g1 sp.toNatClampNeg dp.toNatClampNeg n.toNatClampNeg)))))) : ac_At M x kc ks pc lv (.int n :: .int dp :: .ref a :: .int sp :: .ref a0 :: st) f := by
  intro o H locs ls hw hS hl
  obtain ⟨ws, q1, hP, hD, hq, hset, hall⟩ := ac_get hw hf1
  obtain ⟨q0, hq0⟩ := hall a0 _ hf0
  exact va_copyl o.1 o.2.1 (o.2.2.1.trans hl.1.symm) o.2.2.2.1 (o.2.2.2.2.1 _ hlink) (o.2.2.2.2.1 _ hnat) (o.2.2.2.2.1 _ hstat) (o.2.2.2.2.1 _ hini) o.2.2.2.2.2.1 hP hD hS q0 q1 t0 t0 hq0 hq ht ht hprim h1 h2 h3 h4 h5 hfit hfr hlo hd (fun H1 locs1 hP1 hD1 hS1 => kk o H1 locs1 ls (hset _ _ hP1 hD1) hS1 hl)
end AH
/-! new cells, returns, calls, a method's start -/
theorem ac_ra_inj {U : State} {c1 c2 : ClassId} {ty : FieldType} (h1 : va_RA U c1 ty) (h2 : va_RA U c2 ty) : c1 = c2 := by
  cases ty with
  | object C =>
    obtain ⟨-, -, -, -, -, e1⟩ := h1
    obtain ⟨-, -, -, -, -, e2⟩ := h2
    exact Option.some.inj (e1.symm.trans e2)
  | _ => exact Option.some.inj (Eq.trans (Eq.symm h1) h2)
theorem ac_kadd {D : va_G} {tys : List (ClassId × FieldType)} {U : State} {c1 c2 : ClassId} {ty : FieldType} {t0 : Nat} (h : va_K D cl_ (tys ++ [(c2, ty)]) U) (ht : tys[t0]? = some (c1, ty)) : c2 = c1 := by
  have hlt : t0 < tys.length := (List.getElem?_eq_some_iff.mp ht).1
  have h1 := (h.2 t0 (c1, ty) (by rw [List.getElem?_append_left hlt]; exact ht)).2
  have h2 := (h.2 tys.length (c2, ty) (by rw [List.getElem?_append_right (Nat.le_refl _), Nat.sub_self]; rfl)).2
  exact ac_ra_inj h2 h1
/-- own's pool entry index names class number ci, which can be made; dv: its fields' first values -/
def ac_cn (own : String) (index ci N : Nat) (dv : List Value) : Prop := ∃ (C : String) (T : u_T) (ty : Nat → FieldType), cl_[ci]? = some (C, T, N) ∧ (∀ w ∈ u_ws C T N, w ∈ T0_) ∧ (∀ k, k < N → parseFieldDescriptor (T k).2.2.1 = some (ty k)) ∧ Cond.classLink own index C ∈ T0_ ∧ Cond.instantiable C N ∈ T0_ ∧ Cond.initialized C ∈ T0_ ∧ ∀ j, j < N → defaultValue (ty j) = vp_V dv j
section AN
variable {M : ac_M} {x : ac_X} {kc ks pc : Nat} {lv : List (Nat × Value)} {st : List Value} {f : ac_hp}
theorem ac_newo {index ci N : Nat} {dv : List Value} (hl0 : ac_cn M.2.2 index ci N dv) (h1 : kc + 1 ≤ (ac_R x).cells) (h2 : ks + N ≤ (ac_R x).slots) (hd : decode M.1 pc = .ok (.new index, 3)) (kk : ∀ q, f q = none → ac_At M x (kc + 1) (ks + N) (pc + 3) lv (.ref q :: st) (ac_up f q (.inr (ci, dv)))) : ac_At M x kc ks pc lv st f := by
  intro o H locs ls hw hS hl
  obtain ⟨C, T, ty, hc, hin, hty, hcl, hinst, hini, hdv⟩ := hl0
  obtain ⟨ws, hP, hD, hnew⟩ := ac_new hw
  exact va_new o.1 o.2.1 o.2.2.2.2.1 hin ty hty o.2.2.2.1 (o.2.2.2.2.1 _ hcl) (o.2.2.2.2.1 _ hinst) (o.2.2.2.2.1 _ hini) o.2.2.2.2.2.1 hP hD hS o.2.2.2.2.2.2.2 hc hdv h1 h2 hd (fun q H1 hP1 hD1 hS1 => kk q (hnew q _ H1 hP1 hD1).1 o H1 locs ls (hnew q _ H1 hP1 hD1).2 hS1 hl)
theorem ac_newa {at0 : ArrayType} {ty : FieldType} {t0 N : Nat} {n : Int32} {a0 : vp_A} (harr : Cond.arrayClass ty ∈ T0_) (hty : newarray.typeOf at0 = ty) (ht : (tys_ (ac_ki x))[t0]? = some (ac_ki x t0, ty)) (ha : ∀ cA : ClassId, vp_cell cA a0 = arrV cA N (fun _ => defaultValue ty)) (hn : ¬ n < 0) (hN : n.toNatClampNeg = N) (hb : N * componentBytes ty ≤ 536870912) (h1 : kc + 1 ≤ (ac_R x).cells) (h2 : ks + N ≤ (ac_R x).slots) (hd : decode M.1 pc = .ok (.newarray at0, 2)) (kk : ∀ q, f q = none → ac_At M x (kc + 1) (ks + N) (pc + 2) lv (.ref q :: st) (ac_up f q (.inl (ac_ki x t0, a0)))) : ac_At M x kc ks pc lv (.int n :: st) f := by
  intro o H locs ls hw hS hl
  obtain ⟨ws, hP, hD, hnew⟩ := ac_new hw
  subst hty
  exact va_newa o.1 o.2.1 (o.2.2.2.2.1 _ harr) rfl o.2.2.2.2.2.1 hP hD hS o.2.2.2.2.2.2.2 ha hn hN hb h1 h2 hd (fun q cA H1 hK1 hP1 hD1 hS1 => by
    have e := ac_kadd hK1 ht
    subst e
    exact kk q (hnew q _ H1 hP1 hD1).1 o H1 locs ls (hnew q _ H1 hP1 hD1).2 hS1 hl)
theorem ac_newq {index t0 N : Nat} {C : String} {n : Int32} (hcl : Cond.classLink M.2.2 index C ∈ T0_) (hao : C ∈ AO_) (ht : (tys_ (ac_ki x))[t0]? = some (ac_ki x t0, .object C)) (hn : ¬ n < 0) (hN : n.toNatClampNeg = N) (hb : N * 4 ≤ 536870912) (h1 : kc + 1 ≤ (ac_R x).cells) (h2 : ks + N ≤ (ac_R x).slots) (hd : decode M.1 pc = .ok (.anewarray index, 3)) (kk : ∀ q, f q = none → ac_At M x (kc + 1) (ks + N) (pc + 3) lv (.ref q :: st) (ac_up f q (.inl (ac_ki x t0, N, .inr (.inr (.inr (.inr (fun _ => none)))))))) : ac_At M x kc ks pc lv (.int n :: st) f := by
  intro o H locs ls hw hS hl
  obtain ⟨ws, hP, hD, hnew⟩ := ac_new hw
  exact va_newq o.1 o.2.1 o.2.2.2.1 (o.2.2.2.2.1 _ hcl) (o.2.2.2.2.2.2.1.2 C hao) o.2.2.2.2.2.1 hP hD hS o.2.2.2.2.2.2.2 hn hN hb h1 h2 hd (fun q cA H1 hK1 hP1 hD1 hS1 => by
    have e := ac_kadd hK1 ht
    subst e
    exact kk q (hnew q _ H1 hP1 hD1).1 o H1 locs ls (hnew q _ H1 hP1 hD1).2 hS1 hl)
/-- what a return must show: Qr answer world -/
def ac_rt (x : ac_X) (ret : Option FieldType) (Qr : Option Value → ac_hp → Prop) (mc ms : Nat) : Prop :=
  (ac_meth x).sig.returnType = ret ∧ (ac_meth x).locks = false ∧ ∃ (Qc : Array Value → State → Outcome → State → Prop) (free : Addr → Prop), x.2.2.2 = MQ x.2.1.2.2.1 Qc (ac_args x) (ac_s x) mc ms free ∧ (∀ q, ac_AA x q → free q) ∧ ∀ (v : Option Value) (f : ac_hp) (H : Heap) (locs : List Loc) (t : State), Qr v f → ac_wd (ac_D x) (ac_AA x) f H → va_S (ac_AA x) (ac_s x).heap H locs → t.heap = H → Qc (ac_args x) (ac_s x) (.returned v) t
theorem ac_ireturn {Qr : Option Value → ac_hp → Prop} {mc ms : Nat} {v : Int32} {ty : FieldType} (hR : ac_rt x (some ty) Qr mc ms) (hnar : narrow ty (.int v) = .int v) (hq : Qr (some (.int v)) f) (h1 : kc ≤ mc) (h2 : ks ≤ ms) (hd : decode M.1 pc = .ok (.ireturn, 1)) : ac_At M x kc ks pc lv [.int v] f := by
  intro o H locs ls hw hS hl
  obtain ⟨hr, hlk, Qc, free, hQ, hf, hret⟩ := hR
  rw [hQ]
  refine W.widen h1 h2 ?_
  exact W.zret o.1 o.2.1 hr hnar (fun t ht hW => hret _ _ _ _ _ hq hw hS ht) (fun q hq => hf _ (hS.2.2 q hq)) hd hlk
theorem ac_lreturn {Qr : Option Value → ac_hp → Prop} {mc ms : Nat} {v : Int64} (hR : ac_rt x (some .long) Qr mc ms) (hq : Qr (some (.long v)) f) (h1 : kc ≤ mc) (h2 : ks ≤ ms) (hd : decode M.1 pc = .ok (.lreturn, 1)) : ac_At M x kc ks pc lv [.long v] f := by
  intro o H locs ls hw hS hl
  obtain ⟨hr, hlk, Qc, free, hQ, hf, hret⟩ := hR
  rw [hQ]
  refine W.widen h1 h2 ?_
  exact W.lret o.1 o.2.1 hr (fun t ht hW => hret _ _ _ _ _ hq hw hS ht) (fun q hq => hf _ (hS.2.2 q hq)) hd hlk
theorem ac_vreturn {Qr : Option Value → ac_hp → Prop} {mc ms : Nat} (hR : ac_rt x none Qr mc ms) (hq : Qr none f) (h1 : kc ≤ mc) (h2 : ks ≤ ms) (hd : decode M.1 pc = .ok (.return_, 1)) : ac_At M x kc ks pc lv [] f := by
  intro o H locs ls hw hS hl
  obtain ⟨hr, hlk, Qc, free, hQ, hf, hret⟩ := hR
  rw [hQ]
  refine W.widen h1 h2 ?_
  exact W.vret o.1 o.2.1 hr (fun t ht hW => hret _ _ _ _ _ hq hw hS ht) (fun q hq => hf _ (hS.2.2 q hq)) hd hlk
theorem ac_areturn {Qr : Option Value → ac_hp → Prop} {mc ms v : Nat} {rt : FieldType} (hR : ac_rt x (some rt) Qr mc ms) (hrt : (∃ n, rt = .object n) ∨ ∃ t, rt = .array t) (hq : Qr (some (.ref v)) f) (h1 : kc ≤ mc) (h2 : ks ≤ ms) (hd : decode M.1 pc = .ok (.areturn, 1)) : ac_At M x kc ks pc lv [.ref v] f := by
  intro o H locs ls hw hS hl
  obtain ⟨hr, hlk, Qc, free, hQ, hf, hret⟩ := hR
  rw [hQ]
  refine W.widen h1 h2 ?_
  exact W.aret o.1 o.2.1 hr hrt (Or.inr ⟨v, rfl⟩) (fun t ht hW => hret _ _ _ _ _ hq hw hS ht) (fun q hq => hf _ (hS.2.2 q hq)) hd hlk
/-- a contract's start: the world f, whole -/
def ac_Pc (D : va_G) (ki : Nat → ClassId) (av : List Value) (f : ac_hp) (sz : Nat) : Array Value → State → Prop := fun v U => v = av.toArray ∧ U.heap.size = sz ∧ ac_wd D (fun _ => True) f U.heap ∧ va_K D cl_ (tys_ ki) U ∧ ac_nw U
/-- .. and its end -/
def ac_Qc (D : va_G) (Qr : Option Value → ac_hp → Prop) (f : ac_hp) (sz : Nat) : Array Value → State → Outcome → State → Prop := fun _ st oc t => ∃ (v : Option Value) (f' : ac_hp), oc = .returned v ∧ Qr v f' ∧ ac_wd D (ac_A f sz) f' t.heap ∧ va_F (ac_A f sz) st t
def ac_w (y : MethodName) (cc : ByteArray) (maxL : Nat) (ret : Option FieldType) : List Cond := Cond.code y cc maxL ret :: T0_
def ac_met (l : Launch) (D : va_G) (ki : Nat → ClassId) (y : MethodName) (cc : ByteArray) (maxL : Nat) (ret : Option FieldType) (rm : Room) (av : List Value) (f : ac_hp) (Qr : Option Value → ac_hp → Prop) (mc ms : Nat) : Prop := ∀ sz, Met l y (ac_w y cc maxL ret) rm (ac_Pc D ki av f sz) (ac_Qc D Qr f sz) mc ms (ac_A f sz)
theorem ac_pc_blind {D : va_G} {ki : Nat → ClassId} {av : List Value} {f : ac_hp} {sz : Nat} : FrameBlind (ac_Pc D ki av f sz) := fun a U g mk h => ⟨h.1, h.2.1, h.2.2.1, va_K.moved (u := U) (U := U.calling g mk a) (Vm.Alike.refl U.vm) h.2.2.2.1, ac_nw.same rfl h.2.2.2.2⟩
/-- behind a call -/
theorem ac_after {H : Heap} {locs : List Loc} {ls : Array Slot} {mc ms : Nat} {rest st0 : List Value} {a : Array Value} {Qr : Option Value → ac_hp → Prop} (o : ac_ok M x) (hw : ac_wd (ac_D x) (ac_AA x) f H) (hS : va_S (ac_AA x) (ac_s x).heap H locs) (hl : lv_has ls M.2.1 lv)
    (hr : va_Run x.1.1 x.1.2.1 x.1.2.2.1 x.1.2.2.2.1 x.1.2.2.2.2 x.2.1.1 x.2.1.2.1 x.2.1.2.2.1 x.2.1.2.2.2.1 x.2.1.2.2.2.2 H locs kc ks mc ms (F0 x.2.1.1 pc ls st0) rest (ac_Qc (ac_D x) Qr f H.size a) (ac_A f H.size))
    (kk : ∀ v f', Qr v f' → ac_At M x (kc + mc) (ks + ms) (pc + 3) lv (v.toList ++ rest) f') : W x.1.1 x.1.2.1 x.1.2.2.1 x.1.2.2.2.1 x.1.2.2.2.2 x.2.1.1 x.2.1.2.1 x.2.1.2.2.1 x.2.1.2.2.2.1 x.2.1.2.2.2.2 H locs kc ks x.2.2.2 (F0 x.2.1.1 pc ls st0) := by
  intro T hT X
  obtain ⟨v, st₀, t, T', L, h0, X', hL, e1, e2, ⟨v', f', hv, hq, hwd, hz, hk⟩, st⟩ := hr T hT X
  cases hv
  rw [h0] at hz hk
  have hsub : ∀ q, ac_A f H.size q → ac_AA x q := fun q h => by
    rcases h with ⟨e, he⟩ | h
    · exact hw.inA he
    · exact o.2.2.2.2.2.2.2 q (Nat.le_trans hS.1 h)
  obtain ⟨t2, a1, b1⟩ := kk v f' hq o T'.heap (locs ++ L) ls (by rw [e1]; exact hwd.weak hsub)
    ⟨Nat.le_trans hS.1 (by rw [e1]; exact hz), fun q h1 h2 => by rw [e1, hk q (Nat.lt_of_lt_of_le h1 hS.1) (fun z => h2 (hsub q z))]; exact hS.2.1 q h1 h2, fun q hq => by
      rcases List.mem_append.mp hq with h | h
      · exact hS.2.2 q h
      · exact hsub _ (hL q h)⟩ hl T' rfl X'
  exact ⟨t2, st t2 a1, b1⟩
/-- what the tables say of a callee -/
def ac_cd (y : MethodName) (cc : ByteArray) (maxL : Nat) (ret : Option FieldType) (n : Nat) : Prop := Cond.code y cc maxL ret ∈ T0_ ∧ Cond.initialized y.cls ∈ T0_ ∧ (y.cls ≠ "java/lang/invoke/MethodHandle" ∧ y.cls ≠ "java/lang/invoke/VarHandle" ∧ (parseMethodDescriptor y.desc).map (fun d => d.parameters.length) = some n)
theorem ac_ws_good {y : MethodName} {cc : ByteArray} {maxL : Nat} {ret : Option FieldType} (h : Cond.code y cc maxL ret ∈ T0_) : GoodIn T0_ (ac_w y cc maxL ret) := by
  intro w hw
  rcases List.mem_cons.mp hw with rfl | hw
  · exact ⟨h, T0_good _ h⟩
  · exact ⟨hw, T0_good _ hw⟩
theorem ac_callS {y : MethodName} {cc : ByteArray} {maxL n index mc ms : Nat} {ret : Option FieldType} {rm : Room} {As rest : List Value} {Qr : Option Value → ac_hp → Prop} (hc : ac_cd y cc maxL ret n) (hlink : Cond.methodLink M.2.2 index y ∈ T0_) (hstat : Cond.static y ∈ T0_) (hM : ac_met (ac_l x) (ac_D x) (ac_ki x) y cc maxL ret rm As f Qr mc ms) (hrc : rm.cells = mc) (hrs : rm.slots = ms) (hR : rm.frames + 1 ≤ (ac_R x).frames ∧ 8 + (maxL + 11) + rm.locals ≤ (ac_R x).locals) (hn : As.length = n) (hst : st = As.reverse ++ rest) (hW : (rest.map fun v => v.category).sum ≤ 8) (hf : kc + mc ≤ (ac_R x).cells ∧ ks + ms ≤ (ac_R x).slots) (hd : decode M.1 pc = .ok (.invokestatic index, 3))
    (kk : ∀ v f', Qr v f' → ac_At M x (kc + mc) (ks + ms) (pc + 3) lv (v.toList ++ rest) f') : ac_At M x kc ks pc lv st f := by
  intro o H locs ls hw hS hl
  refine ac_after o hw hS hl (va_runS (As := As) (n := n) ⟨o.1, o.2.1, o.2.2.1, o.2.2.2.1, o.2.2.2.2.1⟩ (hM H.size) ⟨callB_of n o.2.2.2.2.1 (ac_ws_good hc.1) rfl hrc hrs (o.2.2.2.2.1 _ hc.2.1) (o.2.2.2.2.1 _ hlink) hc.2.2 hR, o.2.2.2.2.1 _ hstat⟩ ⟨ac_pc_blind, fun U hU hW' => ⟨rfl, by rw [hU], by rw [hU]; exact hw.weak (fun _ _ => trivial), va_K.moved hW'.alike o.2.2.2.2.2.1, ac_nw.warm hW' o.2.2.2.2.2.2.1⟩⟩ rfl hn hl.1 hst (lv_room hW) hd hf) kk
theorem ac_callV {y : MethodName} {cc : ByteArray} {maxL n index mc ms b ci : Nat} {ret : Option FieldType} {rm : Room} {As rest fs : List Value} {r : vw_C} {Qr : Option Value → ac_hp → Prop} (hc : ac_cd y cc maxL ret n) (hlink : Cond.methodLink M.2.2 index y ∈ T0_) (hinst : Cond.instanceMethod y ∈ T0_) (hsel : Cond.selects r.1 y y ∈ T0_) (hr : cl_[ci]? = some r) (hb : f b = some (.inr (ci, fs))) (hM : ac_met (ac_l x) (ac_D x) (ac_ki x) y cc maxL ret rm (.ref b :: As) f Qr mc ms) (hrc : rm.cells = mc) (hrs : rm.slots = ms) (hR : rm.frames + 1 ≤ (ac_R x).frames ∧ 8 + (maxL + 11) + rm.locals ≤ (ac_R x).locals) (hn : As.length = n) (hst : st = As.reverse ++ .ref b :: rest) (hW : (rest.map fun v => v.category).sum ≤ 8) (hf : kc + mc ≤ (ac_R x).cells ∧ ks + ms ≤ (ac_R x).slots) (hd : decode M.1 pc = .ok (.invokevirtual index, 3))
    (kk : ∀ v f', Qr v f' → ac_At M x (kc + mc) (ks + ms) (pc + 3) lv (v.toList ++ rest) f') : ac_At M x kc ks pc lv st f := by
  intro o H locs ls hw hS hl
  obtain ⟨ws, q0, hP, hD, hq, -, -⟩ := ac_get hw hb
  refine ac_after o hw hS hl (va_runV (As := As) (n := n) (C := r.1) ⟨o.1, o.2.1, o.2.2.1, o.2.2.2.1, o.2.2.2.2.1⟩ (hM H.size) ⟨callB_of n o.2.2.2.2.1 (ac_ws_good hc.1) rfl hrc hrs (o.2.2.2.2.1 _ hc.2.1) (o.2.2.2.2.1 _ hlink) hc.2.2 hR, o.2.2.2.2.1 _ hinst, o.2.2.2.2.1 _ hsel⟩ ⟨ac_pc_blind, va_recv o.2.2.2.2.2.1 hP hr hq, fun U hU hW' => ⟨rfl, by rw [hU], by rw [hU]; exact hw.weak (fun _ _ => trivial), va_K.moved hW'.alike o.2.2.2.2.2.1, ac_nw.warm hW' o.2.2.2.2.2.2.1⟩⟩ rfl hn hl.1 hst (lv_room hW) hd hf) kk
theorem ac_callI {y : MethodName} {cc : ByteArray} {maxL n index mc ms b : Nat} {rm : Room} {As rest : List Value} {Qr : Option Value → ac_hp → Prop} (hc : ac_cd y cc maxL none n) (hlink : Cond.methodLink M.2.2 index y ∈ T0_) (hinst : Cond.instanceMethod y ∈ T0_) (hy1 : y.name = "<init>") (hM : ac_met (ac_l x) (ac_D x) (ac_ki x) y cc maxL none rm (.ref b :: As) f Qr mc ms) (hrc : rm.cells = mc) (hrs : rm.slots = ms) (hR : rm.frames + 1 ≤ (ac_R x).frames ∧ 8 + (maxL + 11) + rm.locals ≤ (ac_R x).locals) (hn : As.length = n) (hst : st = As.reverse ++ .ref b :: rest) (hW : (rest.map fun v => v.category).sum ≤ 8) (hf : kc + mc ≤ (ac_R x).cells ∧ ks + ms ≤ (ac_R x).slots) (hd : decode M.1 pc = .ok (.invokespecial index, 3))
    (kk : ∀ v f', Qr v f' → ac_At M x (kc + mc) (ks + ms) (pc + 3) lv (v.toList ++ rest) f') : ac_At M x kc ks pc lv st f := by
  intro o H locs ls hw hS hl
  refine ac_after o hw hS hl (va_runI (As := As) (n := n) ⟨o.1, o.2.1, o.2.2.1, o.2.2.2.1, o.2.2.2.2.1⟩ (hM H.size) ⟨callB_of n o.2.2.2.2.1 (ac_ws_good hc.1) rfl hrc hrs (o.2.2.2.2.1 _ hc.2.1) (o.2.2.2.2.1 _ hlink) hc.2.2 hR, hy1, o.2.2.2.2.1 _ hinst⟩ ⟨ac_pc_blind, fun U hU hW' => ⟨rfl, by rw [hU], by rw [hU]; exact hw.weak (fun _ _ => trivial), va_K.moved hW'.alike o.2.2.2.2.2.1, ac_nw.warm hW' o.2.2.2.2.2.2.1⟩⟩ rfl hn hl.1 hst (lv_room hW) hd hf) kk
-- the same between nest mates
theorem ac_cn_of {y : MethodName} {cc : ByteArray} {maxL n index mc ms : Nat} {ret : Option FieldType} {rm : Room} {host : String} (o : ac_ok M x) (hc : ac_cd y cc maxL ret n) (hlink : (M.2.2, index, y, host) ∈ NM_) (hrc : rm.cells = mc) (hrs : rm.slots = ms) (hR : rm.frames + 1 ≤ (ac_R x).frames ∧ 8 + (maxL + 11) + rm.locals ≤ (ac_R x).locals) : va_CN (ac_R x) (ac_s x) (ac_args x) M.2.2 index y host cc maxL ret (ac_w y cc maxL ret) rm mc ms n :=
  va_cnB n o.2.2.2.2.1 (ac_ws_good hc.1) rfl hrc hrs (o.2.2.2.2.2.2.1.1 _ hlink) (o.2.2.2.2.1 _ hc.2.1) hc.2.2 hR
theorem ac_callSN {y : MethodName} {cc : ByteArray} {maxL n index mc ms : Nat} {ret : Option FieldType} {rm : Room} {host : String} {As rest : List Value} {Qr : Option Value → ac_hp → Prop} (hc : ac_cd y cc maxL ret n) (hlink : (M.2.2, index, y, host) ∈ NM_) (hstat : Cond.static y ∈ T0_) (hM : ac_met (ac_l x) (ac_D x) (ac_ki x) y cc maxL ret rm As f Qr mc ms) (hrc : rm.cells = mc) (hrs : rm.slots = ms) (hR : rm.frames + 1 ≤ (ac_R x).frames ∧ 8 + (maxL + 11) + rm.locals ≤ (ac_R x).locals) (hn : As.length = n) (hst : st = As.reverse ++ rest) (hW : (rest.map fun v => v.category).sum ≤ 8) (hf : kc + mc ≤ (ac_R x).cells ∧ ks + ms ≤ (ac_R x).slots) (hd : decode M.1 pc = .ok (.invokestatic index, 3))
    (kk : ∀ v f', Qr v f' → ac_At M x (kc + mc) (ks + ms) (pc + 3) lv (v.toList ++ rest) f') : ac_At M x kc ks pc lv st f := by
  intro o H locs ls hw hS hl
  refine ac_after o hw hS hl (va_runSN (As := As) (n := n) ⟨o.1, o.2.1, o.2.2.1, o.2.2.2.1, o.2.2.2.2.1⟩ (hM H.size) ⟨ac_cn_of o hc hlink hrc hrs hR, o.2.2.2.2.1 _ hstat, trivial⟩ ⟨ac_pc_blind, fun U hU hW' => ⟨rfl, by rw [hU], by rw [hU]; exact hw.weak (fun _ _ => trivial), va_K.moved hW'.alike o.2.2.2.2.2.1, ac_nw.warm hW' o.2.2.2.2.2.2.1⟩⟩ rfl hn hl.1 hst (lv_room hW) hd hf) kk
theorem ac_callVN {y : MethodName} {cc : ByteArray} {maxL n index mc ms b ci : Nat} {ret : Option FieldType} {rm : Room} {host : String} {As rest fs : List Value} {r : vw_C} {Qr : Option Value → ac_hp → Prop} (hc : ac_cd y cc maxL ret n) (hlink : (M.2.2, index, y, host) ∈ NM_) (hinst : Cond.instanceMethod y ∈ T0_) (hsel : Cond.selects r.1 y y ∈ T0_) (hr : cl_[ci]? = some r) (hb : f b = some (.inr (ci, fs))) (hM : ac_met (ac_l x) (ac_D x) (ac_ki x) y cc maxL ret rm (.ref b :: As) f Qr mc ms) (hrc : rm.cells = mc) (hrs : rm.slots = ms) (hR : rm.frames + 1 ≤ (ac_R x).frames ∧ 8 + (maxL + 11) + rm.locals ≤ (ac_R x).locals) (hn : As.length = n) (hst : st = As.reverse ++ .ref b :: rest) (hW : (rest.map fun v => v.category).sum ≤ 8) (hf : kc + mc ≤ (ac_R x).cells ∧ ks + ms ≤ (ac_R x).slots) (hd : decode M.1 pc = .ok (.invokevirtual index, 3))
    (kk : ∀ v f', Qr v f' → ac_At M x (kc + mc) (ks + ms) (pc + 3) lv (v.toList ++ rest) f') : ac_At M x kc ks pc lv st f := by
  intro o H locs ls hw hS hl
  obtain ⟨ws, q0, hP, hD, hq, -, -⟩ := ac_get hw hb
  refine ac_after o hw hS hl (va_runVN (As := As) (n := n) (C := r.1) ⟨o.1, o.2.1, o.2.2.1, o.2.2.2.1, o.2.2.2.2.1⟩ (hM H.size) ⟨ac_cn_of o hc hlink hrc hrs hR, o.2.2.2.2.1 _ hinst, o.2.2.2.2.1 _ hsel⟩ ⟨ac_pc_blind, va_recv o.2.2.2.2.2.1 hP hr hq, fun U hU hW' => ⟨rfl, by rw [hU], by rw [hU]; exact hw.weak (fun _ _ => trivial), va_K.moved hW'.alike o.2.2.2.2.2.1, ac_nw.warm hW' o.2.2.2.2.2.2.1⟩⟩ rfl hn hl.1 hst (lv_room hW) hd hf) kk
theorem ac_callIN {y : MethodName} {cc : ByteArray} {maxL n index mc ms b : Nat} {rm : Room} {host : String} {As rest : List Value} {Qr : Option Value → ac_hp → Prop} (hc : ac_cd y cc maxL none n) (hlink : (M.2.2, index, y, host) ∈ NM_) (hinst : Cond.instanceMethod y ∈ T0_) (hy1 : y.name = "<init>") (hM : ac_met (ac_l x) (ac_D x) (ac_ki x) y cc maxL none rm (.ref b :: As) f Qr mc ms) (hrc : rm.cells = mc) (hrs : rm.slots = ms) (hR : rm.frames + 1 ≤ (ac_R x).frames ∧ 8 + (maxL + 11) + rm.locals ≤ (ac_R x).locals) (hn : As.length = n) (hst : st = As.reverse ++ .ref b :: rest) (hW : (rest.map fun v => v.category).sum ≤ 8) (hf : kc + mc ≤ (ac_R x).cells ∧ ks + ms ≤ (ac_R x).slots) (hd : decode M.1 pc = .ok (.invokespecial index, 3))
    (kk : ∀ v f', Qr v f' → ac_At M x (kc + mc) (ks + ms) (pc + 3) lv (v.toList ++ rest) f') : ac_At M x kc ks pc lv st f := by
  intro o H locs ls hw hS hl
  refine ac_after o hw hS hl (va_runIN (As := As) (n := n) ⟨o.1, o.2.1, o.2.2.1, o.2.2.2.1, o.2.2.2.2.1⟩ (hM H.size) ⟨ac_cn_of o hc hlink hrc hrs hR, hy1, o.2.2.2.2.1 _ hinst⟩ ⟨ac_pc_blind, fun U hU hW' => ⟨rfl, by rw [hU], by rw [hU]; exact hw.weak (fun _ _ => trivial), va_K.moved hW'.alike o.2.2.2.2.2.1, ac_nw.warm hW' o.2.2.2.2.2.2.1⟩⟩ rfl hn hl.1 hst (lv_room hW) hd hf) kk
theorem ac_objInit {index a : Nat} (hlink : Cond.methodLink M.2.2 index objectInit ∈ T0_) (hinst : Cond.instanceMethod objectInit ∈ T0_) (hcode : Cond.code objectInit ⟨#[0xb1]⟩ 1 none ∈ T0_) (hfr : 1 ≤ (ac_R x).frames) (hlo : (st.map fun v => v.category).sum + 12 ≤ (ac_R x).locals) (hd : decode M.1 pc = .ok (.invokespecial index, 3)) (kk : ac_At M x kc ks (pc + 3) lv st f) : ac_At M x kc ks pc lv (.ref a :: st) f := by
  intro o H locs ls hw hS hl
  refine W.objInit o.1 o.2.1 o.2.2.2.1 (o.2.2.2.2.1 _ hlink) (o.2.2.2.2.1 _ hinst) (o.2.2.2.2.1 _ hcode) rfl (hl.1.trans o.2.2.1.symm) rfl hd hfr (by show 2 * (0 : Nat) + _ + 12 ≤ _; simpa using hlo) ?_
  exact kk o H locs ls hw hS hl
end AN
/-- a method's contract out of the walk of its body -/
theorem ac_enter {l : Launch} {D : va_G} {ki : Nat → ClassId} {y : MethodName} {cc : ByteArray} {maxL mc ms : Nat} {ret : Option FieldType} {rm : Room} {av : List Value} {f : ac_hp} {Qr : Option Value → ac_hp → Prop} (P : (Nat → ClassId) → Prop) (hy : plainName y.cls = true) (hav : (lg_sl av).length ≤ maxL) (h : P ki)
    (body : ∀ x : ac_X, ac_R x = rm → ac_rt x ret Qr mc ms → (ac_meth x).name = y.name → P (ac_ki x) → ac_At (cc, maxL, y.cls) x 0 0 0 (lv_args 0 av) [] f) : ac_met l D ki y cc maxL ret rm av f Qr mc ms := by
  intro sz
  refine Met.ofW (cc := cc) (maxL := maxL) (ret := ret) hy rfl ?_
  intro p e s m args below meth c s₁ B hml hv
  obtain ⟨rfl, hsz, hw, hK, hN⟩ := hv
  have hts := atoms_spec (ws := ac_w y cc maxL ret) B.pre
  have hown : s.vm.findClass y.cls = some m.cls := findClass_of_methodNamed B.named
  subst hsz
  have hl := lv_entry av (n := maxL) hav
  rw [lg_entry_eq]
  refine body ((p, l, e, rm, s), (m, av.toArray, below, meth, c), (D, ki, ac_A f s.heap.size), MQ below (ac_Qc D Qr f s.heap.size) av.toArray s mc ms (ac_A f s.heap.size)) rfl ⟨B.returns, B.notSynchronized, _, _, rfl, fun _ h => h, fun v f' H locs t hq hwd hS ht => ⟨v, f', rfl, hq, by rw [ht]; exact hwd, hS.F ht⟩⟩ (name_of_methodNamed B.named B.method).1 h
    ⟨B.exec, B.bytes, hml, hown, fun w hw => hts w (List.mem_cons_of_mem _ hw), hK, hN, fun q hq => Or.inr hq⟩ s.heap [] _ hw.self va_S.rf hl
/-- a method of the JDK's: its contract out of the walk of its body -/
theorem ac_enterF {l : Launch} {D : va_G} {ki : Nat → ClassId} {y : MethodName} {cc : ByteArray} {maxL mc ms : Nat} {ret : Option FieldType} {rm : Room} {av : List Value} {f : ac_hp} {Qr : Option Value → ac_hp → Prop} (P : (Nat → ClassId) → Prop) (hy : plainFor y = true) (hav : (lg_sl av).length ≤ maxL) (h : P ki)
    (body : ∀ x : ac_X, ac_R x = rm → ac_rt x ret Qr mc ms → (ac_meth x).name = y.name → P (ac_ki x) → ac_At (cc, maxL, y.cls) x 0 0 0 (lv_args 0 av) [] f) : ac_met l D ki y cc maxL ret rm av f Qr mc ms := by
  intro sz
  refine va_MetF (cc := cc) (maxL := maxL) (ret := ret) hy rfl ?_
  intro p e s m args below meth c s₁ B hml hv
  obtain ⟨rfl, hsz, hw, hK, hN⟩ := hv
  have hts := atoms_spec (ws := ac_w y cc maxL ret) B.pre
  have hown : s.vm.findClass y.cls = some m.cls := findClass_of_methodNamed B.named
  subst hsz
  have hl := lv_entry av (n := maxL) hav
  rw [lg_entry_eq]
  refine body ((p, l, e, rm, s), (m, av.toArray, below, meth, c), (D, ki, ac_A f s.heap.size), MQ below (ac_Qc D Qr f s.heap.size) av.toArray s mc ms (ac_A f s.heap.size)) rfl ⟨B.returns, B.notSynchronized, _, _, rfl, fun _ h => h, fun v f' H locs t hq hwd hS ht => ⟨v, f', rfl, hq, by rw [ht]; exact hwd, hS.F ht⟩⟩ (name_of_methodNamed B.named B.method).1 h
    ⟨B.exec, B.bytes, hml, hown, fun w hw => hts w (List.mem_cons_of_mem _ hw), hK, hN, fun q hq => Or.inr hq⟩ s.heap [] _ hw.self va_S.rf hl
/-! the words of the printed pictures: a read, a write, by what the world's map says -/
def hr_f (f : ac_hp) (a ci k : Nat) (v : Value) : Prop := ∃ fs, f a = some (.inr (ci, fs)) ∧ fs[k]? = some v
def hw_f (f : ac_hp) (a ci k : Nat) (v : Value) (f' : ac_hp) : Prop := ∃ fs, f a = some (.inr (ci, fs)) ∧ k < fs.length ∧ f' = ac_up f a (.inr (ci, fs.set k v))
def hr_o (f : ac_hp) (a ci : Nat) : Prop := ∃ fs, f a = some (.inr (ci, fs))
def hr_i (c : ClassId) (f : ac_hp) (a : Nat) (i v : Int32) : Prop := ∃ n g, f a = some (.inl (c, n, .inl g)) ∧ vp_in i n ∧ v = g i.toNatClampNeg
def hw_i (c : ClassId) (f : ac_hp) (a : Nat) (i v : Int32) (f' : ac_hp) : Prop := ∃ n g, f a = some (.inl (c, n, .inl g)) ∧ vp_in i n ∧ f' = ac_up f a (.inl (c, n, .inl (upd g i.toNatClampNeg v)))
def hr_l (c : ClassId) (f : ac_hp) (a : Nat) (i : Int32) (v : Int64) : Prop := ∃ n g, f a = some (.inl (c, n, .inr (.inl g))) ∧ vp_in i n ∧ v = g i.toNatClampNeg
def hw_l (c : ClassId) (f : ac_hp) (a : Nat) (i : Int32) (v : Int64) (f' : ac_hp) : Prop := ∃ n g, f a = some (.inl (c, n, .inr (.inl g))) ∧ vp_in i n ∧ f' = ac_up f a (.inl (c, n, .inr (.inl (vp_updL g i.toNatClampNeg v))))
def hr_q (c : ClassId) (f : ac_hp) (a : Nat) (i : Int32) (r : Nat) : Prop := ∃ n g, f a = some (.inl (c, n, .inr (.inr (.inr (.inr g))))) ∧ vp_in i n ∧ g i.toNatClampNeg = some r
def hw_q (c : ClassId) (ci : Nat) (f : ac_hp) (a : Nat) (i : Int32) (r : Nat) (f' : ac_hp) : Prop := ∃ n g vs, f a = some (.inl (c, n, .inr (.inr (.inr (.inr g))))) ∧ f r = some (.inr (ci, vs)) ∧ vp_in i n ∧ f' = ac_up f a (.inl (c, n, .inr (.inr (.inr (.inr (va_up g i.toNatClampNeg (some r)))))))
def hr_n (c : ClassId) (f : ac_hp) (a : Nat) (v : Int32) : Prop := ∃ w : vp_A, f a = some (.inl (c, w)) ∧ v = Int32.ofNat w.1
def hw_c (c : ClassId) (f : ac_hp) (a0 : Nat) (sp : Int32) (a : Nat) (dp n : Int32) (f' : ac_hp) : Prop := ∃ n0 n1 g0 g1, f a0 = some (.inl (c, n0, .inl g0)) ∧ f a = some (.inl (c, n1, .inl g1)) ∧ ¬ sp < 0 ∧ ¬ dp < 0 ∧ ¬ n < 0 ∧ sp.toNatClampNeg + n.toNatClampNeg ≤ n0 ∧ dp.toNatClampNeg + n.toNatClampNeg ≤ n1 ∧ f' = ac_up f a (.inl (c, n1, .inl (va_cpy g0 g1 sp.toNatClampNeg dp.toNatClampNeg n.toNatClampNeg)))
def hw_d (c : ClassId) (f : ac_hp) (a0 : Nat) (sp : Int32) (a : Nat) (dp n : Int32) (f' : ac_hp) : Prop := ∃ n0 n1 g0 g1, f a0 = some (.inl (c, n0, .inr (.inl g0))) ∧ f a = some (.inl (c, n1, .inr (.inl g1))) ∧ ¬ sp < 0 ∧ ¬ dp < 0 ∧ ¬ n < 0 ∧ sp.toNatClampNeg + n.toNatClampNeg ≤ n0 ∧ dp.toNatClampNeg + n.toNatClampNeg ≤ n1 ∧ f' = ac_up f a (.inl (c, n1, .inr (.inl (va_cpy g0 g1 sp.toNatClampNeg dp.toNatClampNeg n.toNatClampNeg))))
section AK
variable {M : ac_M} {x : ac_X} {kc ks pc : Nat} {lv : List (Nat × Value)} {st : List Value} {f : ac_hp}
theorem ak_topi {a : Int32} (k : ∀ y : Int32, y = a → ac_At M x kc ks pc lv (.int y :: st) f) : ac_At M x kc ks pc lv (.int a :: st) f := k a rfl
theorem ak_topl {a : Int64} (k : ∀ y : Int64, y = a → ac_At M x kc ks pc lv (.long y :: st) f) : ac_At M x kc ks pc lv (.long a :: st) f := k a rfl
theorem ak_getf {index ci k a : Nat} {v : Value} (hr : hr_f f a ci k v) (hl0 : ac_fl M.2.2 index ci k) (hd : decode M.1 pc = .ok (.getfield index, 3)) (kk : ac_At M x kc ks (pc + 3) lv (v :: st) f) : ac_At M x kc ks pc lv (.ref a :: st) f := by
  obtain ⟨fs, h1, h2⟩ := hr
  exact ac_getf hl0 h1 h2 hd kk
theorem ak_putf {index ci k a : Nat} {v : Value} {ty : FieldType} {f' : ac_hp} (hr : hw_f f a ci k v f') (hl0 : ac_fp M.2.2 index ci k ty false) (hn : narrow ty v = v) (hfit : fits ty v = true) (hd : decode M.1 pc = .ok (.putfield index, 3)) (kk : ac_At M x kc ks (pc + 3) lv st f') : ac_At M x kc ks pc lv (v :: .ref a :: st) f := by
  obtain ⟨fs, h1, h2, rfl⟩ := hr
  exact ac_putf hl0 h1 h2 hn hfit hd kk
theorem ak_putF {index ci k a : Nat} {v : Value} {ty : FieldType} {f' : ac_hp} (hr : hw_f f a ci k v f') (hl0 : ac_fp M.2.2 index ci k ty true) (hname : (ac_meth x).name = "<init>") (hn : narrow ty v = v) (hfit : fits ty v = true) (hd : decode M.1 pc = .ok (.putfield index, 3)) (kk : ac_At M x kc ks (pc + 3) lv st f') : ac_At M x kc ks pc lv (v :: .ref a :: st) f := by
  obtain ⟨fs, h1, h2, rfl⟩ := hr
  exact ac_putF hl0 hname h1 h2 hn hfit hd kk
theorem ak_iald {a : Nat} {i v : Int32} (t0 : Nat) (hr : hr_i (ac_ki x t0) f a i v) (ht : (tys_ (ac_ki x))[t0]? = some (ac_ki x t0, .int)) (hd : decode M.1 pc = .ok (.iaload, 1)) (kk : ac_At M x kc ks (pc + 1) lv (.int v :: st) f) : ac_At M x kc ks pc lv (.int i :: .ref a :: st) f := by
  obtain ⟨n, g, h1, h2, rfl⟩ := hr
  exact ac_iald ht h1 h2 hd kk
theorem ak_zald {a : Nat} {i v : Int32} (t0 : Nat) (hr : hr_i (ac_ki x t0) f a i v) (ht : (tys_ (ac_ki x))[t0]? = some (ac_ki x t0, .boolean)) (hd : decode M.1 pc = .ok (.baload, 1)) (kk : ac_At M x kc ks (pc + 1) lv (.int v :: st) f) : ac_At M x kc ks pc lv (.int i :: .ref a :: st) f := by
  obtain ⟨n, g, h1, h2, rfl⟩ := hr
  exact ac_zald ht h1 h2 hd kk
theorem ak_lald {a : Nat} {i : Int32} {v : Int64} (t0 : Nat) (hr : hr_l (ac_ki x t0) f a i v) (ht : (tys_ (ac_ki x))[t0]? = some (ac_ki x t0, .long)) (hd : decode M.1 pc = .ok (.laload, 1)) (kk : ac_At M x kc ks (pc + 1) lv (.long v :: st) f) : ac_At M x kc ks pc lv (.int i :: .ref a :: st) f := by
  obtain ⟨n, g, h1, h2, rfl⟩ := hr
  exact ac_lald ht h1 h2 hd kk
theorem ak_aald {a r : Nat} {i : Int32} {C : String} (t0 : Nat) (hr : hr_q (ac_ki x t0) f a i r) (ht : (tys_ (ac_ki x))[t0]? = some (ac_ki x t0, .object C)) (hd : decode M.1 pc = .ok (.aaload, 1)) (kk : ac_At M x kc ks (pc + 1) lv (.ref r :: st) f) : ac_At M x kc ks pc lv (.int i :: .ref a :: st) f := by
  obtain ⟨n, g, h1, h2, h3⟩ := hr
  exact ac_aald ht h1 h2 h3 hd kk
theorem ak_iast {a : Nat} {i v : Int32} {f' : ac_hp} (t0 : Nat) (hr : hw_i (ac_ki x t0) f a i v f') (ht : (tys_ (ac_ki x))[t0]? = some (ac_ki x t0, .int)) (hd : decode M.1 pc = .ok (.iastore, 1)) (kk : ac_At M x kc ks (pc + 1) lv st f') : ac_At M x kc ks pc lv (.int v :: .int i :: .ref a :: st) f := by
  obtain ⟨n, g, h1, h2, rfl⟩ := hr
  exact ac_iast ht h1 h2 hd kk
theorem ak_zast {a : Nat} {i v : Int32} {f' : ac_hp} (t0 : Nat) (hr : hw_i (ac_ki x t0) f a i (vp_nar .boolean v) f') (ht : (tys_ (ac_ki x))[t0]? = some (ac_ki x t0, .boolean)) (hd : decode M.1 pc = .ok (.bastore, 1)) (kk : ac_At M x kc ks (pc + 1) lv st f') : ac_At M x kc ks pc lv (.int v :: .int i :: .ref a :: st) f := by
  obtain ⟨n, g, h1, h2, rfl⟩ := hr
  exact ac_zast ht h1 h2 hd kk
theorem ak_last {a : Nat} {i : Int32} {v : Int64} {f' : ac_hp} (t0 : Nat) (hr : hw_l (ac_ki x t0) f a i v f') (ht : (tys_ (ac_ki x))[t0]? = some (ac_ki x t0, .long)) (hd : decode M.1 pc = .ok (.lastore, 1)) (kk : ac_At M x kc ks (pc + 1) lv st f') : ac_At M x kc ks pc lv (.long v :: .int i :: .ref a :: st) f := by
  obtain ⟨n, g, h1, h2, rfl⟩ := hr
  exact ac_last ht h1 h2 hd kk
theorem ak_aast {a v ci : Nat} {i : Int32} {r : vw_C} {f' : ac_hp} (t0 : Nat) (hr : hw_q (ac_ki x t0) ci f a i v f') (ht : (tys_ (ac_ki x))[t0]? = some (ac_ki x t0, .object r.1)) (hc : cl_[ci]? = some r) (hd : decode M.1 pc = .ok (.aastore, 1)) (kk : ac_At M x kc ks (pc + 1) lv st f') : ac_At M x kc ks pc lv (.ref v :: .int i :: .ref a :: st) f := by
  obtain ⟨n, g, vs, h1, h2, h3, rfl⟩ := hr
  exact ac_aast ht hc h1 h2 h3 hd kk
theorem ak_alen {a : Nat} {v : Int32} {ty : FieldType} (t0 : Nat) (hr : hr_n (ac_ki x t0) f a v) (ht : (tys_ (ac_ki x))[t0]? = some (ac_ki x t0, ty)) (hd : decode M.1 pc = .ok (.arraylength, 1)) (kk : ac_At M x kc ks (pc + 1) lv (.int v :: st) f) : ac_At M x kc ks pc lv (.ref a :: st) f := by
  obtain ⟨w, h1, rfl⟩ := hr
  exact ac_alen ht h1 hd kk
theorem ak_copyi {index a0 a : Nat} {sp dp n : Int32} {f' : ac_hp} (t0 : Nat) (hr : hw_c (ac_ki x t0) f a0 sp a dp n f') (hlink : Cond.methodLink M.2.2 index arraycopyName ∈ T0_) (hnat : Cond.native arraycopyName ∈ T0_) (hstat : Cond.static arraycopyName ∈ T0_) (hini : Cond.initialized "java/lang/System" ∈ T0_) (ht : (tys_ (ac_ki x))[t0]? = some (ac_ki x t0, .int)) (hfr : 1 ≤ (ac_R x).frames) (hlo : (st.map fun v => v.category).sum + (nativeFrameWords "java/lang/System" "arraycopy" 5 + 11) ≤ (ac_R x).locals)
    (hd : decode M.1 pc = .ok (.invokestatic index, 3)) (kk : ac_At M x kc ks (pc + 3) lv st f') : ac_At M x kc ks pc lv (.int n :: .int dp :: .ref a :: .int sp :: .ref a0 :: st) f := by
  obtain ⟨n0, n1, g0, g1, h1, h2, h3, h4, h5, h6, h7, rfl⟩ := hr
  exact ac_copyi hlink hnat hstat hini ht rfl h1 h2 h3 h4 h5 h6 h7 (fun _ _ => rfl) hfr hlo hd kk
theorem ak_copyl {index a0 a : Nat} {sp dp n : Int32} {f' : ac_hp} (t0 : Nat) (hr : hw_d (ac_ki x t0) f a0 sp a dp n f') (hlink : Cond.methodLink M.2.2 index arraycopyName ∈ T0_) (hnat : Cond.native arraycopyName ∈ T0_) (hstat : Cond.static arraycopyName ∈ T0_) (hini : Cond.initialized "java/lang/System" ∈ T0_) (ht : (tys_ (ac_ki x))[t0]? = some (ac_ki x t0, .long)) (hfr : 1 ≤ (ac_R x).frames) (hlo : (st.map fun v => v.category).sum + (nativeFrameWords "java/lang/System" "arraycopy" 5 + 11) ≤ (ac_R x).locals)
    (hd : decode M.1 pc = .ok (.invokestatic index, 3)) (kk : ac_At M x kc ks (pc + 3) lv st f') : ac_At M x kc ks pc lv (.int n :: .int dp :: .ref a :: .int sp :: .ref a0 :: st) f := by
  obtain ⟨n0, n1, g0, g1, h1, h2, h3, h4, h5, h6, h7, rfl⟩ := hr
  exact ac_copyl hlink hnat hstat hini ht rfl h1 h2 h3 h4 h5 h6 h7 (fun _ _ => rfl) hfr hlo hd kk
end AK
/-! answers by their kinds; calls of methods that make nothing; rooms by levels -/
def ro_ (k mc ms : Nat) : Room := { frames := k, cells := mc, slots := ms, locals := 64 * k }
def qr_I (Q : Int32 → ac_hp → Prop) : Option Value → ac_hp → Prop := fun v f => ∃ r : Int32, v = some (.int r) ∧ Q r f
def qr_J (Q : Int64 → ac_hp → Prop) : Option Value → ac_hp → Prop := fun v f => ∃ r : Int64, v = some (.long r) ∧ Q r f
def qr_R (Q : Nat → ac_hp → Prop) : Option Value → ac_hp → Prop := fun v f => ∃ r : Nat, v = some (.ref r) ∧ Q r f
def qr_V (Q : ac_hp → Prop) : Option Value → ac_hp → Prop := fun v f => v = none ∧ Q f
section AQ
variable {M : ac_M} {x : ac_X} {kc ks pc : Nat} {lv : List (Nat × Value)} {st rest : List Value} {f : ac_hp}
theorem ac_I {Q : Int32 → ac_hp → Prop} (kk : ∀ r f', Q r f' → ac_At M x kc ks pc lv (.int r :: rest) f') : ∀ v f', qr_I Q v f' → ac_At M x kc ks pc lv (v.toList ++ rest) f' := by
  rintro v f' ⟨r, rfl, h⟩
  exact kk r f' h
theorem ac_J {Q : Int64 → ac_hp → Prop} (kk : ∀ r f', Q r f' → ac_At M x kc ks pc lv (.long r :: rest) f') : ∀ v f', qr_J Q v f' → ac_At M x kc ks pc lv (v.toList ++ rest) f' := by
  rintro v f' ⟨r, rfl, h⟩
  exact kk r f' h
theorem ac_Rf {Q : Nat → ac_hp → Prop} (kk : ∀ r f', Q r f' → ac_At M x kc ks pc lv (.ref r :: rest) f') : ∀ v f', qr_R Q v f' → ac_At M x kc ks pc lv (v.toList ++ rest) f' := by
  rintro v f' ⟨r, rfl, h⟩
  exact kk r f' h
theorem ac_V {Q : ac_hp → Prop} (kk : ∀ f', Q f' → ac_At M x kc ks pc lv rest f') : ∀ v f', qr_V Q v f' → ac_At M x kc ks pc lv (v.toList ++ rest) f' := by
  rintro v f' ⟨rfl, h⟩
  exact kk f' h
theorem ac_callS0 {y : MethodName} {cc : ByteArray} {maxL n index : Nat} {ret : Option FieldType} {rm : Room} {As : List Value} {Qr : Option Value → ac_hp → Prop} (hc : ac_cd y cc maxL ret n) (hlink : Cond.methodLink M.2.2 index y ∈ T0_) (hstat : Cond.static y ∈ T0_) (hM : ac_met (ac_l x) (ac_D x) (ac_ki x) y cc maxL ret rm As f Qr 0 0) (hrc : rm.cells = 0) (hrs : rm.slots = 0) (hR : rm.frames + 1 ≤ (ac_R x).frames ∧ 8 + (maxL + 11) + rm.locals ≤ (ac_R x).locals) (hn : As.length = n) (hst : st = As.reverse ++ rest) (hW : (rest.map fun v => v.category).sum ≤ 8) (hf : kc + 0 ≤ (ac_R x).cells ∧ ks + 0 ≤ (ac_R x).slots) (hd : decode M.1 pc = .ok (.invokestatic index, 3))
    (kk : ∀ v f', Qr v f' → ac_At M x kc ks (pc + 3) lv (v.toList ++ rest) f') : ac_At M x kc ks pc lv st f := ac_callS hc hlink hstat hM hrc hrs hR hn hst hW hf hd kk
theorem ac_callV0 {y : MethodName} {cc : ByteArray} {maxL n index b ci : Nat} {ret : Option FieldType} {rm : Room} {As fs : List Value} {r : vw_C} {Qr : Option Value → ac_hp → Prop} (hc : ac_cd y cc maxL ret n) (hlink : Cond.methodLink M.2.2 index y ∈ T0_) (hinst : Cond.instanceMethod y ∈ T0_) (hsel : Cond.selects r.1 y y ∈ T0_) (hr : cl_[ci]? = some r) (hb : f b = some (.inr (ci, fs))) (hM : ac_met (ac_l x) (ac_D x) (ac_ki x) y cc maxL ret rm (.ref b :: As) f Qr 0 0) (hrc : rm.cells = 0) (hrs : rm.slots = 0) (hR : rm.frames + 1 ≤ (ac_R x).frames ∧ 8 + (maxL + 11) + rm.locals ≤ (ac_R x).locals) (hn : As.length = n) (hst : st = As.reverse ++ .ref b :: rest) (hW : (rest.map fun v => v.category).sum ≤ 8) (hf : kc + 0 ≤ (ac_R x).cells ∧ ks + 0 ≤ (ac_R x).slots) (hd : decode M.1 pc = .ok (.invokevirtual index, 3))
    (kk : ∀ v f', Qr v f' → ac_At M x kc ks (pc + 3) lv (v.toList ++ rest) f') : ac_At M x kc ks pc lv st f := ac_callV hc hlink hinst hsel hr hb hM hrc hrs hR hn hst hW hf hd kk
theorem ac_callI0 {y : MethodName} {cc : ByteArray} {maxL n index b : Nat} {rm : Room} {As : List Value} {Qr : Option Value → ac_hp → Prop} (hc : ac_cd y cc maxL none n) (hlink : Cond.methodLink M.2.2 index y ∈ T0_) (hinst : Cond.instanceMethod y ∈ T0_) (hy1 : y.name = "<init>") (hM : ac_met (ac_l x) (ac_D x) (ac_ki x) y cc maxL none rm (.ref b :: As) f Qr 0 0) (hrc : rm.cells = 0) (hrs : rm.slots = 0) (hR : rm.frames + 1 ≤ (ac_R x).frames ∧ 8 + (maxL + 11) + rm.locals ≤ (ac_R x).locals) (hn : As.length = n) (hst : st = As.reverse ++ .ref b :: rest) (hW : (rest.map fun v => v.category).sum ≤ 8) (hf : kc + 0 ≤ (ac_R x).cells ∧ ks + 0 ≤ (ac_R x).slots) (hd : decode M.1 pc = .ok (.invokespecial index, 3))
    (kk : ∀ v f', Qr v f' → ac_At M x kc ks (pc + 3) lv (v.toList ++ rest) f') : ac_At M x kc ks pc lv st f := ac_callI hc hlink hinst hy1 hM hrc hrs hR hn hst hW hf hd kk
theorem ac_callSN0 {y : MethodName} {cc : ByteArray} {maxL n index : Nat} {ret : Option FieldType} {rm : Room} {host : String} {As : List Value} {Qr : Option Value → ac_hp → Prop} (hc : ac_cd y cc maxL ret n) (hlink : (M.2.2, index, y, host) ∈ NM_) (hstat : Cond.static y ∈ T0_) (hM : ac_met (ac_l x) (ac_D x) (ac_ki x) y cc maxL ret rm As f Qr 0 0) (hrc : rm.cells = 0) (hrs : rm.slots = 0) (hR : rm.frames + 1 ≤ (ac_R x).frames ∧ 8 + (maxL + 11) + rm.locals ≤ (ac_R x).locals) (hn : As.length = n) (hst : st = As.reverse ++ rest) (hW : (rest.map fun v => v.category).sum ≤ 8) (hf : kc + 0 ≤ (ac_R x).cells ∧ ks + 0 ≤ (ac_R x).slots) (hd : decode M.1 pc = .ok (.invokestatic index, 3))
    (kk : ∀ v f', Qr v f' → ac_At M x kc ks (pc + 3) lv (v.toList ++ rest) f') : ac_At M x kc ks pc lv st f := ac_callSN hc hlink hstat hM hrc hrs hR hn hst hW hf hd kk
theorem ac_callVN0 {y : MethodName} {cc : ByteArray} {maxL n index b ci : Nat} {ret : Option FieldType} {rm : Room} {host : String} {As fs : List Value} {r : vw_C} {Qr : Option Value → ac_hp → Prop} (hc : ac_cd y cc maxL ret n) (hlink : (M.2.2, index, y, host) ∈ NM_) (hinst : Cond.instanceMethod y ∈ T0_) (hsel : Cond.selects r.1 y y ∈ T0_) (hr : cl_[ci]? = some r) (hb : f b = some (.inr (ci, fs))) (hM : ac_met (ac_l x) (ac_D x) (ac_ki x) y cc maxL ret rm (.ref b :: As) f Qr 0 0) (hrc : rm.cells = 0) (hrs : rm.slots = 0) (hR : rm.frames + 1 ≤ (ac_R x).frames ∧ 8 + (maxL + 11) + rm.locals ≤ (ac_R x).locals) (hn : As.length = n) (hst : st = As.reverse ++ .ref b :: rest) (hW : (rest.map fun v => v.category).sum ≤ 8) (hf : kc + 0 ≤ (ac_R x).cells ∧ ks + 0 ≤ (ac_R x).slots) (hd : decode M.1 pc = .ok (.invokevirtual index, 3))
    (kk : ∀ v f', Qr v f' → ac_At M x kc ks (pc + 3) lv (v.toList ++ rest) f') : ac_At M x kc ks pc lv st f := ac_callVN hc hlink hinst hsel hr hb hM hrc hrs hR hn hst hW hf hd kk
theorem ac_callIN0 {y : MethodName} {cc : ByteArray} {maxL n index b : Nat} {rm : Room} {host : String} {As : List Value} {Qr : Option Value → ac_hp → Prop} (hc : ac_cd y cc maxL none n) (hlink : (M.2.2, index, y, host) ∈ NM_) (hinst : Cond.instanceMethod y ∈ T0_) (hy1 : y.name = "<init>") (hM : ac_met (ac_l x) (ac_D x) (ac_ki x) y cc maxL none rm (.ref b :: As) f Qr 0 0) (hrc : rm.cells = 0) (hrs : rm.slots = 0) (hR : rm.frames + 1 ≤ (ac_R x).frames ∧ 8 + (maxL + 11) + rm.locals ≤ (ac_R x).locals) (hn : As.length = n) (hst : st = As.reverse ++ .ref b :: rest) (hW : (rest.map fun v => v.category).sum ≤ 8) (hf : kc + 0 ≤ (ac_R x).cells ∧ ks + 0 ≤ (ac_R x).slots) (hd : decode M.1 pc = .ok (.invokespecial index, 3))
    (kk : ∀ v f', Qr v f' → ac_At M x kc ks (pc + 3) lv (v.toList ++ rest) f') : ac_At M x kc ks pc lv st f := ac_callIN hc hlink hinst hy1 hM hrc hrs hR hn hst hW hf hd kk
end AQ
