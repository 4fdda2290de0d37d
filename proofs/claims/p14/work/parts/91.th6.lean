/-! the law's own value: it answers 0, or catches and answers 1 -/
abbrev hhL : List (Nat × Nat × Nat × Nat) := [(0, 10, 13, 13)]
def ac_metZ (l : Launch) (D : va_G) (ki : Nat → ClassId) (y : MethodName) (cc : ByteArray) (maxL : Nat) (ret : Option FieldType) (hh : List (Nat × Nat × Nat × Nat)) (rm : Room) (av : List Value) (f : ac_hp) (Qr : Option Value → ac_hp → Prop) (mc ms : Nat) : Prop := ∀ sz, Met l y (ac_ww y cc maxL ret hh) rm (fun v U => ac_Pc D ki av f sz v U ∧ zs U) (ac_Qc D Qr f sz) mc ms (ac_A f sz)
theorem ac_metZ.of {l : Launch} {D : va_G} {ki : Nat → ClassId} {y : MethodName} {cc : ByteArray} {maxL : Nat} {ret : Option FieldType} {hh : List (Nat × Nat × Nat × Nat)} {rm : Room} {av : List Value} {f : ac_hp} {Qr : Option Value → ac_hp → Prop} {mc ms : Nat} (h : ac_metW l D ki y cc maxL ret hh rm av f Qr mc ms) : ac_metZ l D ki y cc maxL ret hh rm av f Qr mc ms :=
  fun sz p e ha hc hk s m args below hf happ hP hK => h sz p e ha hc hk s m args below hf happ hP.1 hK
theorem cl_L13 : Cond.classLink "VirtualRewriteLaw" 13 xISE ∈ T0_ := by decide +kernel
theorem ml_L7 : Cond.methodLink "VirtualRewriteLaw" 7 y_X0_value ∈ T0_ := by decide +kernel
theorem zs_blind {U : State} {g : JFrame} {mk : MethodId} {a : Array Value} (h : zs U) : zs (U.calling g mk a) := zs_move (s := U) (State.WarmedH.refl U) (fun _ _ => rfl) h
theorem xl_thr (l : Launch) (hfl : l.flags = pinnedFlags ++ [noTraceFlag]) (D : va_G) (ki : Nat → ClassId) (r0 : Nat) (x1 x2 : Int32) (r3 : Nat) (f : ac_hp) (Q : Int32 → ac_hp → Prop) (ho : hr_o f r0 0) (ht : thr_X0 f r0 x1 x2) (hq : Q 1 f) : ac_metZ l D ki y_XL_value method_3_code 5 (some .int) hhL (ro_ 8 1 6) [.ref r0, .int x1, .int x2, .ref r3] f (qr_I Q) 1 6 := by
  intro sz
  refine va_MetW (cc := method_3_code) (maxL := 5) (ret := some .int) (hh := hhL) (by decide) rfl ?_
  intro p e s m args below meth c s₁ B hml hv
  obtain ⟨⟨rfl, hsz, hw, hK, hN⟩, hZ⟩ := hv
  have hts1 := atoms_spec (ws := ac_ww y_XL_value method_3_code 5 (some .int) hhL) B.pre
  have hts : ∀ w ∈ T0_, w.before [.ref r0, .int x1, .int x2, .ref r3].toArray s = true := fun w hw => hts1 w (List.mem_cons_of_mem _ hw)
  have hown : s.vm.findClass "VirtualRewriteLaw" = some m.cls := findClass_of_methodNamed B.named
  have htab : c.exceptionTable.toList.map (fun h => (h.startPc, h.endPc, h.handlerPc, h.catchType)) = [(0, 10, 13, 13)] := by
    obtain ⟨m9, meth9, c9, hn9, hm9, hc9, -, -, ht9, -⟩ := Cond.codeWith_spec (hts1 _ List.mem_cons_self)
    cases B.named.symm.trans hn9
    cases B.method.symm.trans hm9
    have h1 := (Stand.of_body B).code
    cases h1.symm.trans hc9
    exact ht9
  subst hsz
  obtain ⟨fs0, hfo⟩ := ho
  obtain ⟨ws, k0, hP, -, hk0, -, -⟩ := ac_get hw hfo
  have hl := lv_entry ([.ref r0, .int x1, .int x2, .ref r3]) (n := 5) (Nat.le_of_ble_eq_true rfl)
  rw [lg_entry_eq]
  generalize (lg_sl ([.ref r0, .int x1, .int x2, .ref r3]) ++ List.replicate (5 - (lg_sl ([.ref r0, .int x1, .int x2, .ref r3])).length) Slot.unset).toArray = ls at hl ⊢
  have hl : lv_has ls 5 [(0, .ref r0), (1, .int x1), (2, .int x2), (3, .ref r3)] := hl
  refine lv_aload_n B.exec B.bytes d_XL_value_0 rfl (lv_at hl 3 rfl) ?_
  refine lv_iconst (v := 0) B.exec B.bytes d_XL_value_1 rfl ?_
  refine lv_aload_n B.exec B.bytes d_XL_value_2 rfl (lv_at hl 0 rfl) ?_
  refine lv_iload_n B.exec B.bytes d_XL_value_3 rfl (lv_at hl 1 rfl) ?_
  refine lv_iload_n B.exec B.bytes d_XL_value_4 rfl (lv_at hl 2 rfl) ?_
  intro T hT X
  obtain ⟨cellB, hcB, hoB, hclB⟩ := va_recv (ci := 0) hK hP rfl hk0
  have hy : y_X0_value.cls ≠ "java/lang/invoke/MethodHandle" ∧ y_X0_value.cls ≠ "java/lang/invoke/VarHandle" := ⟨cd_X0_value.2.2.1, cd_X0_value.2.2.2.1⟩
  obtain ⟨mk, methM, hnamed, hmethM, hstM, habM⟩ := Cond.instanceMethod_spec (hts _ in_X0_value)
  obtain ⟨methM', cM, hmethM', -, -, -, -, -, -, hsigM⟩ := Cond.code_spec hnamed (hts _ cd_X0_value.1)
  cases hmethM.symm.trans hmethM'
  obtain ⟨c2, r2, m2, q1, q2, q3, q4, kP, hkP, hkPi⟩ := Cond.selects_spec (hts _ se_X0_value)
  cases hclB.symm.trans q1
  cases (State.methodFound?_of_named hnamed hy).symm.trans q2
  cases hnamed.symm.trans q3
  have hselP : selectMethod e.platform s.vm cellB.cls mk = .method mk := by rw [Launch.admits_selectMethod X.admits]; exact q4
  have hlen : ([.int x1, .int x2] : List Value).length = methM.sig.parameters.length := by
    have h2 := cd_X0_value.2.2.2.2
    rw [hsigM] at h2
    exact (Option.some.inj h2).symm
  obtain ⟨vm₁, X₁, hstep₁⟩ := X.invokevirtual B.exec hown (hts _ ml_L7) hnamed hmethM hstM hkP hkPi hy (a := r0) (cell := cellB) (by rw [hT]; exact hcB) (fun z h => by rw [h] at hoB; cases hoB) hselP hmethM habM hkP hkPi (g := F0 m 5 ls [.int x2, .int x1, .ref r0, .int 0, .ref r3]) rfl (argsL := [.int x1, .int x2]) (rest := [.int 0, .ref r3]) hlen rfl (by rw [B.bytes]; exact d_XL_value_5)
  have hU : (T.setVm vm₁).heap = s.heap := hT
  have hWm : s.WarmedH (T.setVm vm₁).vm := X₁.warmed
  have hZ1 : zs (T.setVm vm₁) := zs_move hWm (fun q _ => by rw [hU]) hZ
  have hPc0 : ac_Pc D ki [.ref r0, .int x1, .int x2] f s.heap.size [.ref r0, .int x1, .int x2].toArray (T.setVm vm₁) := ⟨rfl, by rw [hU], by rw [hU]; exact hw, va_K.moved hWm.alike hK, ac_nw.warm hWm hN⟩
  have hpay := pay_in hts (ac_ws_good cd_X0_value.1)
  obtain ⟨xa, ce, Bk, X2, hst2, hce, hcls, hvm, hz, hkeep⟩ := th_back (bytes := prog_1_method_14_code) (maxL := 3) (ret := some .int) (g := { F0 m 5 ls [.int x2, .int x1, .ref r0, .int 0, .ref r3] with stack := [.int 0, .ref r3] }) X₁ (t_X0_value l hfl D ki r0 x1 x2 f ht s.heap.size) rfl (hl.1.trans hml.symm) (by rw [B.bytes]; exact d_XL_value_5) (X₁.named hnamed) (fun w hw => hpay w hw _ _ hWm) (hpay _ List.mem_cons_self _ _ hWm) (word_at hWm (Or.inl (by first | rfl | simp [Cond.onTables, Cond.keeps, Cond.steady])) (hts _ cd_X0_value.2.1)) (by decide) (by decide) (by show 2 * 0 + _ ≤ 8; simp [Value.category]) (by decide) (by decide) ⟨ac_pc_blind _ _ _ _ hPc0, zs_blind hZ1⟩
  obtain ⟨vm', X3, hst3⟩ := th_catch (idx := 13) (st := 0) (en := 10) (hpc := 13) (g := { F0 m 5 ls [.int x2, .int x1, .ref r0, .int 0, .ref r3] with stack := [.int 0, .ref r3] }) X2 rfl hown (hts _ cl_L13) (hZ.1 _ (by simp [zl_]) _) htab (Nat.zero_le _) (by show 5 < 10; decide) (by decide) hce hcls hvm
  have hsame : ∀ q : Nat, q < s.heap.size → Bk.heap[q]? = s.heap[q]? := fun q hq => by rw [hkeep q (by rw [hU]; exact hq), hU]
  have hwB : ac_wd D (fun _ => True) f Bk.heap := by
    obtain ⟨L, hL, hPL, hDL⟩ := hw
    exact ⟨L, hL, hPL.kept (fun k q hk => hsame q.1 ((hPL k q hk).lt)), hDL⟩
  have W3 : W p l e (ro_ 8 1 6) s m [.ref r0, .int x1, .int x2, .ref r3].toArray below meth c Bk.heap [] 1 6 (MQ below (ac_Qc D (qr_I Q) f s.heap.size) [.ref r0, .int x1, .int x2, .ref r3].toArray s 1 6 (ac_A f s.heap.size)) (F0 m 13 ls [.ref xa]) := by
    refine lv_astore (lv' := [(4, .ref xa), (0, .ref r0), (1, .int x1), (2, .int x2), (3, .ref r3)]) B.exec B.bytes d_XL_value_13 hl (by decide) rfl (fun ls' hl' => ?_)
    refine lv_iconst (v := 1) B.exec B.bytes d_XL_value_15 rfl ?_
    refine W.iret B.exec B.bytes B.returns (fun t ht hWt => ⟨_, f, rfl, ⟨_, rfl, hq⟩, by rw [ht]; exact hwB.self, by rw [ht]; rw [hU] at hz; exact hz, fun q h1 _ => by rw [ht]; exact hsame q h1⟩) (fun q hq => by cases hq) d_XL_value_16 B.notSynchronized
  obtain ⟨t, a1, b1⟩ := W3 (Bk.setVm vm') rfl X3
  exact ⟨t, hstep₁ _ (fun acts => by rw [doInvoke_state]; exact hst2.trans (hst3 _ a1)), b1⟩
def wq_XL_value (ki : Nat → ClassId) (r0 : Nat) (x1 : Int32) (x2 : Int32) (r3 : Nat) (f : ac_hp) (Q : Int32 → ac_hp → Prop) : Prop := wp_XL_value ki r0 x1 x2 r3 f Q ∨ (hr_o f r0 0 ∧ thr_X0 f r0 x1 x2 ∧ Q 1 f)
theorem cz_XL_value (l : Launch) (hfl : l.flags = pinnedFlags ++ [noTraceFlag]) (D : va_G) (ki : Nat → ClassId) (r0 : Nat) (x1 x2 : Int32) (r3 : Nat) (f : ac_hp) (Q : Int32 → ac_hp → Prop) (h : wq_XL_value ki r0 x1 x2 r3 f Q) : ac_metZ l D ki y_XL_value method_3_code 5 (some .int) hhL (ro_ 8 1 6) [.ref r0, .int x1, .int x2, .ref r3] f (qr_I Q) 1 6 := by
  rcases h with h | ⟨ho, ht, hq⟩
  · exact ac_metZ.of (c_XL_value l D ki r0 x1 x2 r3 f Q h)
  · exact xl_thr l hfl D ki r0 x1 x2 r3 f Q ho ht hq
section TH6
variable {M : ac_M} {x : ac_X} {kc ks pc : Nat} {lv : List (Nat × Value)} {st : List Value} {f : ac_hp}
theorem ac_callSZ {y : MethodName} {cc : ByteArray} {maxL n index mc ms : Nat} {ret : Option FieldType} {hh : List (Nat × Nat × Nat × Nat)} {rm : Room} {As rest : List Value} {Qr : Option Value → ac_hp → Prop} (hZ : zs (ac_s x)) (hAq : ∀ q, ac_AA x q → (ac_s x).heap.size ≤ q) (hc : ac_cdw y cc maxL ret hh n) (hlink : Cond.methodLink M.2.2 index y ∈ T0_) (hstat : Cond.static y ∈ T0_) (hM : ac_metZ (ac_l x) (ac_D x) (ac_ki x) y cc maxL ret hh rm As f Qr mc ms) (hrc : rm.cells = mc) (hrs : rm.slots = ms) (hR : rm.frames + 1 ≤ (ac_R x).frames ∧ 8 + (maxL + 11) + rm.locals ≤ (ac_R x).locals) (hn : As.length = n) (hst : st = As.reverse ++ rest) (hW : (rest.map fun v => v.category).sum ≤ 8) (hf : kc + mc ≤ (ac_R x).cells ∧ ks + ms ≤ (ac_R x).slots) (hd : decode M.1 pc = .ok (.invokestatic index, 3))
    (kk : ∀ v f', Qr v f' → ac_At M x (kc + mc) (ks + ms) (pc + 3) lv (v.toList ++ rest) f') : ac_At M x kc ks pc lv st f := by
  intro o H locs ls hw hS hl
  have hG : GoodIn T0_ (ac_ww y cc maxL ret hh) := by
    intro w hw
    rcases List.mem_cons.mp hw with rfl | hw
    · exact ⟨hc.1, T0_good _ hc.1⟩
    · exact ⟨hw, T0_good _ hw⟩
  refine ac_after o hw hS hl (lw_runS (As := As) (n := n) ⟨o.1, o.2.1, o.2.2.1, o.2.2.2.1, o.2.2.2.2.1⟩ (hM H.size) hrc hrs hR.1 hR.2 (pay_in o.2.2.2.2.1 hG) List.mem_cons_self (o.2.2.2.2.1 _ hc.1) (o.2.2.2.2.1 _ hc.2.1) ⟨hc.2.2.1, hc.2.2.2.1⟩ (fun sig h => by have h2 := hc.2.2.2.2; rw [h] at h2; exact (Option.some.inj h2).symm) (o.2.2.2.2.1 _ hlink) (o.2.2.2.2.1 _ hstat) ⟨fun a U g mk h => ⟨ac_pc_blind _ _ _ _ h.1, zs_blind h.2⟩, fun U hU hW' => ⟨⟨rfl, by rw [hU], by rw [hU]; exact hw.weak (fun _ _ => trivial), va_K.moved hW'.alike o.2.2.2.2.2.1, ac_nw.warm hW' o.2.2.2.2.2.2.1⟩, zs_move hW' (fun q hq => by rw [hU]; exact hS.2.1 q hq (fun z => absurd (hAq q z) (Nat.not_le.mpr hq))) hZ⟩⟩ rfl hn hl.1 hst (lv_room hW) hd hf) kk
end TH6
