/-! value's contract where it throws -/
def ac_metT (l : Launch) (D : va_G) (ki : Nat → ClassId) (y : MethodName) (cc : ByteArray) (maxL : Nat) (ret : Option FieldType) (rm : Room) (av : List Value) (f : ac_hp) : Prop := ∀ sz, MetFree l y (headSpec (ac_w y cc maxL ret) rm) (fun v U => ac_Pc D ki av f sz v U ∧ zs U) (fun _ _ _ _ _ => True) (fun _ st o t => TQ st o t)
/-- the road that throws: such an answer, and not that variable -/
def thr_X0 (f : ac_hp) (r0 : Nat) (x1 x2 : Int32) : Prop := ∃ (o1 : Nat) (v2 v8 : Int32), hr_f f r0 0 4 (.ref o1) ∧ hr_f f o1 7 4 (.int v2) ∧ hr_f f o1 7 5 (.int v8) ∧ ¬ x1 < 0 ∧ ¬ v2 ≤ x1 ∧ ¬ x2 < 0 ∧ ¬ 6 ≤ x2 ∧ (v8 >>> (x2 &&& 31)) &&& 1 = 0
section TH4
variable {p : Program} {l : Launch} {e : Env} {R : Room} {s : State} {m : MethodId} {args : Array Value} {below : List Frame} {meth : Method} {c : Code} {H : Heap} {D : va_G} {ki : Nat → ClassId}
theorem tk_getf {cc : ByteArray} {ws : va_W} {own : String} {index ci k a q0 pc : Nat} {fs : List Value} {v : Value} {locs : List Loc} {kc ks : Nat} {Q : State → Prop} {ls : Array Slot} {rest : List Value} (hx : p.tables.exec = Jvm.exec) (hb : c.code = cc) (hown : s.vm.findClass own = some m.cls) (hts : ∀ w ∈ T0_, w.before args s = true) (hK : va_K D cl_ (tys_ ki) s) (hP : va_P D cl_ ws H) (hl0 : ac_fl own index ci k) (hq : ws[q0]? = some (a, .inr (ci, fs))) (hv : fs[k]? = some v) (hd : decode cc pc = .ok (.getfield index, 3))
    (kk : W p l e R s m args below meth c H locs kc ks Q (F0 m (pc + 3) ls (v :: rest))) : W p l e R s m args below meth c H locs kc ks Q (F0 m pc ls (.ref a :: rest)) := by
  obtain ⟨C, T, N, hc, hin, hk, hlink⟩ := hl0
  exact va_get hx hb hts hin hown hK hP q0 hq hc k hk (hts _ hlink) (fun _ h => h) hv hd kk
theorem tw_value {ws : va_W} {k0 k1 r0 o1 : Nat} {fs0 fs1 : List Value} {x1 x2 v2 v8 : Int32} {ls : Array Slot} (hx : p.tables.exec = Jvm.exec) (hb : c.code = prog_1_method_14_code) (hml : c.maxLocals = 3) (hown : s.vm.findClass "VirtualRewrite" = some m.cls) (hts : ∀ w ∈ T0_, w.before args s = true) (hK : va_K D cl_ (tys_ ki) s) (hN : ac_nw s) (hP : va_P D cl_ ws s.heap) (hk0 : ws[k0]? = some (r0, .inr (0, fs0))) (hk1 : ws[k1]? = some (o1, .inr (7, fs1)))
    (hf0 : fs0[4]? = some (.ref o1)) (hf1 : fs1[4]? = some (.int v2)) (hf2 : fs1[5]? = some (.int v8)) (c1 : ¬ x1 < 0) (c2 : ¬ v2 ≤ x1) (c3 : ¬ x2 < 0) (c4 : ¬ 6 ≤ x2) (c5 : (v8 >>> (x2 &&& 31)) &&& 1 = 0)
    (hZ : zs s) (htr : e.platform.stackTraces = false) (hlocks : meth.locks = false) (hout : ∀ x ∈ c.exceptionTable.toList, covers x 48 = false) (hl : lv_has ls 3 [(0, .ref r0), (1, .int x1), (2, .int x2)]) :
    W p l e (ro_ 6 1 6) s m args below meth c s.heap [] 0 0 (TZ below s) (F0 m 0 ls []) := by
  refine lv_iload_n hx hb d_X0_value_0 rfl (lv_at hl 1 rfl) ?_
  refine lv_aload_n hx hb d_X0_value_1 rfl (lv_at hl 0 rfl) ?_
  refine tk_getf hx hb hown hts hK hP fl_X0_44 hk0 hf0 d_X0_value_2 ?_
  refine tk_getf hx hb hown hts hK hP fl_X0_171 hk1 hf1 d_X0_value_5 ?_
  refine pu_callS (v := 1) (rest := []) (As := [.int x1, .int v2]) hx hb hml hown hts hK hN cd_X0_isBelow ml_X0_57 st_X0_isBelow (c_X0_isBelow l D ki x1 v2 (fun _ => none) _ ⟨fun z => absurd z c1, fun _ => ⟨fun z => absurd z c2, fun _ => rfl⟩⟩) rfl rfl (by decide) rfl hl.1 rfl (Nat.le_of_ble_eq_true rfl) (Nat.zero_le _) (Nat.zero_le _) d_X0_value_8 (Nat.le_refl _) (fun H1 z1 u1 => ?_)
  refine lv_if_eq (tgt := 23) hx hb d_X0_value_11 (by decide) (fun z => absurd z ne10) (fun _ => ?_)
  refine lv_iload_n hx hb d_X0_value_14 rfl (lv_at hl 2 rfl) ?_
  refine lv_bipush (v := 6) hx hb d_X0_value_15 rfl ?_
  refine pu_callS (v := 1) (rest := []) (As := [.int x2, .int 6]) hx hb hml hown hts hK hN cd_X0_isBelow ml_X0_57 st_X0_isBelow (c_X0_isBelow l D ki x2 6 (fun _ => none) _ ⟨fun z => absurd z c3, fun _ => ⟨fun z => absurd z c4, fun _ => rfl⟩⟩) rfl rfl (by decide) rfl hl.1 rfl (Nat.le_of_ble_eq_true rfl) (Nat.zero_le _) (Nat.zero_le _) d_X0_value_17 z1 (fun H2 z2 u2 => ?_)
  refine lv_if_ne (tgt := 25) hx hb d_X0_value_20 (by decide) (fun _ => ?_) (fun z => absurd z ne10)
  have u3 : ∀ q : Nat, q < s.heap.size → H2[q]? = s.heap[q]? := fun q hq => (u2 q (by omega)).trans (u1 q hq)
  have hP2 : va_P D cl_ ws H2 := hP.kept (fun k q hk => u3 q.1 ((hP k q hk).lt))
  refine lv_aload_n hx hb d_X0_value_25 rfl (lv_at hl 0 rfl) ?_
  refine tk_getf hx hb hown hts hK hP2 fl_X0_44 hk0 hf0 d_X0_value_26 ?_
  refine tk_getf hx hb hown hts hK hP2 fl_X0_172 hk1 hf2 d_X0_value_29 ?_
  refine lv_iload_n hx hb d_X0_value_32 rfl (lv_at hl 2 rfl) ?_
  refine pu_callS (v := 0) (rest := []) (As := [.int v8, .int x2]) hx hb hml hown hts hK hN cd_X0_has ml_X0_174 st_X0_has (c_X0_has l D ki v8 x2 (fun _ => none) _ ⟨fun _ => rfl, fun z => absurd c5 z⟩) rfl rfl (by decide) rfl hl.1 rfl (Nat.le_of_ble_eq_true rfl) (Nat.zero_le _) (Nat.zero_le _) d_X0_value_33 (by omega) (fun H3 z3 u4 => ?_)
  refine lv_if_ne (tgt := 49) hx hb d_X0_value_36 (by decide) (fun z => absurd rfl z) (fun _ => ?_)
  exact th_end hx hb hown hts hZ htr hlocks hout (hl.1.trans hml.symm) (Nat.le_refl _) (Nat.le_refl _) (by decide) (by decide)
end TH4
theorem t_X0_value (l : Launch) (hfl : l.flags = pinnedFlags ++ [noTraceFlag]) (D : va_G) (ki : Nat → ClassId) (r0 : Nat) (x1 x2 : Int32) (f : ac_hp) (ht : thr_X0 f r0 x1 x2) : ac_metT l D ki y_X0_value prog_1_method_14_code 3 (some .int) (ro_ 6 1 6) [.ref r0, .int x1, .int x2] f := by
  obtain ⟨o1, v2, v8, ⟨fs0, g0, q0⟩, ⟨fs1, g1, q1⟩, ⟨fs2, g2, q2⟩, c1, c2, c3, c4, c5⟩ := ht
  have e21 : fs2 = fs1 := by rw [g1] at g2; cases g2; rfl
  subst e21
  intro sz
  refine MetFree.of_bodyS (code := prog_1_method_14_code) (maxLocals := 3) (ret := some .int) (by decide) ?_ ?_
  · intro args s m h hn
    obtain ⟨meth, c, h1, h2, h3, h4, h5, h6, -, -⟩ := Cond.code_spec hn (atoms_spec (ws := ac_w y_X0_value prog_1_method_14_code 3 (some .int)) h _ List.mem_cons_self)
    exact ⟨meth, c, h1, h2, h3, h4, h5, h6⟩
  · intro p e s m args below meth c s₁ B hml hPc _
    obtain ⟨⟨rfl, hsz, hw, hK, hN⟩, hZ⟩ := hPc
    have hts := atoms_spec (ws := ac_w y_X0_value prog_1_method_14_code 3 (some .int)) B.pre
    have hts0 : ∀ w ∈ T0_, w.before [.ref r0, .int x1, .int x2].toArray s = true := fun w hw => hts w (List.mem_cons_of_mem _ hw)
    have hown : s.vm.findClass "VirtualRewrite" = some m.cls := findClass_of_methodNamed B.named
    have hh0 : s₁.heap = s.heap := by rw [B.state]; rfl
    have htr : e.platform.stackTraces = false := Launch.traces_off hfl (Stand.of_body B).admits
    have hout := covers_of_empty (B.noHandlers (hts _ List.mem_cons_self)) 48
    obtain ⟨ws, k0, hP, -, hk0, -, hall⟩ := ac_get hw g0
    obtain ⟨k1, hk1⟩ := hall _ _ g1
    have hl := lv_entry ([.ref r0, .int x1, .int x2]) (n := 3) (Nat.le_of_ble_eq_true rfl)
    have K : W p l e (ro_ 6 1 6) s m [.ref r0, .int x1, .int x2].toArray below meth c s.heap [] 0 0 (TZ below s) (entryFrame m ([.ref r0, .int x1, .int x2] : List Value).toArray 3) := by
      rw [lg_entry_eq]
      exact tw_value B.exec B.bytes hml hown hts0 hK hN hP hk0 hk1 q0 q1 q2 c1 c2 c3 c4 c5 hZ htr B.notSynchronized hout hl
    obtain ⟨t, a1, o, b1, b2, b3⟩ := K s₁ hh0 (Stand.of_body B)
    exact ⟨t, o, a1, b1, b2, b3⟩
