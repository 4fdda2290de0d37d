/-! THE LAW OF A PART, from its entry -/
theorem law_part {ki : Nat → ClassId} {L : Nat} {xs : Nat → Int32} (hL : L ≤ 3584) : wp_law ki L xs (fun _ => none) := by
  unfold wp_law
  refine st_new (by decide) (by decide) (fun q1 f2 e1 h1 => ⟨⟨by decide, by decide⟩, in_X0 h1 (fun ad f3 ea hv hF => ?_)⟩)
  refine st_new (by decide) (by decide) (fun q4 f5 e4 h4 => ⟨⟨by decide, by decide⟩, in_X9 h4 (fun am f6 em hm hG => ?_)⟩)
  refine st_new (by decide) (by decide) (fun q7 f8 e7 h7 => ⟨L / 7 + 1, ?_⟩)
  have d1 : ∀ i j, i < 78 → j < 24 → ad i ≠ am j := fun i j hi hj e => by
    have a := hG j hj
    rw [← e, hv.1 i hi] at a
    cases a
  have k3 : ∀ i, i < 78 → f6 (ad i) = some (vr_lay ki ad vs0 (fun _ => 0) i) := fun i hi => by
    rw [hm.2.2 (ad i) (fun j hj e => d1 i j hi hj e.symm)]
    exact hv.1 i hi
  have d2 : ∀ i, i < 78 → ad i ≠ q7 := fun i hi e => by
    have a := k3 i hi
    rw [e, e7] at a
    cases a
  have d3 : ∀ j, j < 24 → am j ≠ q7 := fun j hj e => by
    have a := hm.1 j hj
    rw [e, e7] at a
    cases a
  have k8 : ∀ q, q ≠ q7 → f8 q = f6 q := fun q hq => h7.2.2 q (by simpa using hq)
  have hja : JA ki ad am q7 vs0 (fun _ => 0) ms0 f8 := ⟨⟨fun i hi => by rw [k8 _ (d2 i hi)]; exact k3 i hi, hv.2.1, fun _ _ => rfl⟩, ⟨fun j hj => by rw [k8 _ (d3 j hj)]; exact hm.1 j hj, hm.2.1, fun _ _ => rfl⟩, d1, d2, d3, _, nwl_get (k := 0) h7 rfl⟩
  rw [← ea, ← em]
  exact lw_loop (by omega) (JJ6 ki ad am q7) (fun _ _ _ a b => ⟨a, b⟩) (fun f hI => x_all hI) (L / 7) 0 _ _ f8 (by omega) (by omega) (by omega) ⟨vs0, fun _ => 0, ms0, _, _, _, 0, 0, 0, hja, CI_0, RI_0, MA_0⟩
theorem zs_in : ∀ w ∈ zl_.drop 2, w ∈ lw_tbl := by decide +kernel
theorem zs_str : Cond.stringRef "VirtualRewrite" 179 txISE ∈ lw_tbl := by decide +kernel
theorem zs_start {s : State} {A0 : Array Value} (hts : ∀ w ∈ lw_tbl, w.before A0 s = true) (hgv : (Jvm.Cond.and given_1 narrow_1).before A0 s = true) : zs s := by
  have hs := flat_of_before _ hgv
  have hW := State.WarmedH.refl s
  have u1 : (Cond.isRef (.static Bundle.tN "UNASSIGNED_STACK" Bundle.steD)).before A0 s = true := hs _ (by decide +kernel)
  have u2 : (Cond.isRef (.static Bundle.tN "SUPPRESSED_SENTINEL" Bundle.listD)).before A0 s = true := hs _ (by decide +kernel)
  refine ⟨fun a ha A => ?_, ?_⟩
  · have ht : a ∈ zl_.drop 2 → a.before A0 s = true := fun z => hts _ (zs_in a z)
    simp only [zl_, List.mem_cons, List.not_mem_nil, or_false] at ha
    rcases ha with rfl | rfl | rfl | rfl | rfl | rfl | rfl | rfl
    · exact zs_static hW (fun _ _ => rfl) u1
    · exact zs_static hW (fun _ _ => rfl) u2
    · exact zs_lays hW (fun _ _ => rfl) (ht (by simp [zl_]))
    · exact zs_lays hW (fun _ _ => rfl) (ht (by simp [zl_]))
    · exact va_Nw.use rfl (va_Nw.warmC hW (va_Nw.of rfl (ht (by simp [zl_]))))
    · exact va_Nw.use rfl (va_Nw.warmD hW (va_Nw.of rfl (ht (by simp [zl_]))))
    · exact va_Nw.use rfl (va_Nw.warmD hW (va_Nw.of rfl (ht (by simp [zl_]))))
    · exact va_Nw.use rfl (va_Nw.warmD hW (va_Nw.of rfl (ht (by simp [zl_]))))
  · have h := hts _ zs_str
    cases hf : s.vm.findClass "VirtualRewrite" with
    | none => simp [Cond.before, Cond.holds, Cond.value, hf] at h
    | some cur =>
      obtain ⟨-, -, -, sa, -, -, -, -, -, hev⟩ := Cond.stringRef_spec hf h
      exact ⟨sa, vk_R.of h hev⟩
set_option maxHeartbeats 4000000 in
set_option maxRecDepth 100000 in
theorem whole_start {p : Program} {e : Env} {s : State} {m : MethodId} {below : List Frame} {meth : Method} {c : Code} (l : Launch) (hfl : l.flags = flags0) {b L : Nat} {xs : Nat → Int32} (hL : L ≤ 3584) (C0 : lw_At p s m meth c b L xs) : W p l e room_1 s m #[Value.ref b] below meth c s.heap [] 0 0 (lw_Z below #[Value.ref b] s) (entryFrame m ([Value.ref b] : List Value).toArray 7) := by
  obtain ⟨hx, hb, hr, hml, hown, hts, hX, hbl, hlocks, hgv⟩ := id C0
  obtain ⟨D, ki, hK⟩ := lk_K hts
  have hl := lv_entry ([.ref b]) (n := 7) (Nat.le_of_ble_eq_true rfl)
  rw [lg_entry_eq]
  generalize (lg_sl ([.ref b]) ++ List.replicate (7 - (lg_sl ([.ref b])).length) Slot.unset).toArray = ls at hl ⊢
  have hl : lv_has ls 7 [(0, .ref b)] := hl
  have hw : ac_wd D (fun q : Nat => s.heap.size ≤ q) (fun _ => none) s.heap := ⟨[], fun a => by simp, fun k q h => by simp [ac_ws, va_pl] at h, ⟨fun i j p q h => by simp [ac_ws, va_pl] at h, fun k q h => by simp [ac_ws, va_pl] at h⟩⟩
  have hN : ac_nw s := ⟨fun q hq => va_Nw.of rfl (hts _ (nm_in q hq)), fun C hC => va_AO.of (hts _ (ao_in C hC))⟩
  exact c_law (x := ((p, l, e, room_1, s), (m, #[Value.ref b], below, meth, c), (D, ki, fun q : Nat => s.heap.size ≤ q), lw_Z below #[Value.ref b] s)) rfl hX hbl (Nat.not_le.mpr hbl) hfl (zs_start hts hgv) (fun q hq => hq)
    (fun kc ks pc lv f hd h1 h2 o H locs ls hw hS hl => va_forget (fun q hq => hS.2.2 q hq) (W.widen h1 h2 (lw_ret hx hb hr hlocks hd)))
    (law_part hL) ⟨hx, hb, hml, hown, fun w hw => hts w (T0_in w hw), hK, hN, fun _ h => h⟩ s.heap [] ls hw va_S.rf hl
