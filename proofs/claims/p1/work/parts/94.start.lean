/-! THE LAW OF p1, from its entry -/
theorem law_p1 {ki : Nat → ClassId} {L : Nat} {xs : Nat → Int32} (hL : L ≤ 7) : wp_law ki L xs (fun _ => none) := by
  unfold wp_law
  refine st_new (by decide) (by decide) (fun q1 f2 e1 h1 => ⟨⟨by decide, by decide⟩, in_X0 h1 (fun ad f3 ea hv hF => ?_)⟩)
  refine st_new (by decide) (by decide) (fun q4 f5 e4 h4 => ⟨⟨by decide, by decide⟩, in_X9 h4 (fun am f6 em hm hG => ?_)⟩)
  refine st_new (by decide) (by decide) (fun q7 f8 e7 h7 => ⟨L / 7 + 1, ?_⟩)
  have d1 : ∀ i j, i < 78 → j < 24 → ad i ≠ am j := fun i j hi hj e => by
    have a := hG j hj
    rw [← e, hv.1 i hi] at a
    cases a
  have k3 : ∀ i, i < 78 → f6 (ad i) = some (vr_lay ki ad vs0 (fun _ => 0) i) := fun i hi => by
    rw [hm.2.2 (ad i) (fun j hj e => d1 i j hi hj e.symm)]
    exact hv.1 i hi
  have d2 : ∀ i, i < 78 → ad i ≠ q7 := fun i hi e => by
    have a := k3 i hi
    rw [e, e7] at a
    cases a
  have d3 : ∀ j, j < 24 → am j ≠ q7 := fun j hj e => by
    have a := hm.1 j hj
    rw [e, e7] at a
    cases a
  have k8 : ∀ q, q ≠ q7 → f8 q = f6 q := fun q hq => h7.2.2 q (by simpa using hq)
  have hfs : FS ki ad am q7 f8 := ⟨⟨fun i hi => by rw [k8 _ (d2 i hi)]; exact k3 i hi, hv.2.1, fun _ _ => rfl⟩, ⟨⟨fun j hj => by rw [k8 _ (d3 j hj)]; exact hm.1 j hj, hm.2.1, fun _ _ => rfl⟩, d3, _, nwl_get (k := 0) h7 rfl⟩, d1, d2⟩
  rw [← ea, ← em]
  exact lw_loop ⟨by decide, by decide⟩ (by omega) (fun j f => j = 0 → FS ki ad am q7 f) (fun _ _ _ => ⟨by decide, by decide⟩) (fun j f hj hI => a_all (hI (by omega)) (fun f z => absurd z (by omega))) (L / 7) 0 f8 (by omega) (fun _ => hfs)
set_option maxHeartbeats 4000000 in
set_option maxRecDepth 100000 in
theorem whole_start {p : Program} {e : Env} {s : State} {m : MethodId} {below : List Frame} {meth : Method} {c : Code} (l : Launch) {b L : Nat} {xs : Nat → Int32} (hL : L ≤ 7) (C0 : lw_At p s m meth c b L xs) : W p l e room_1 s m #[Value.ref b] below meth c s.heap [] 0 0 (lw_Z below #[Value.ref b] s) (entryFrame m ([Value.ref b] : List Value).toArray 7) := by
  obtain ⟨hx, hb, hr, hml, hown, hts, hX, hbl, hlocks, hgv⟩ := id C0
  obtain ⟨D, ki, hK⟩ := lk_K hts
  have hl := lv_entry ([.ref b]) (n := 7) (Nat.le_of_ble_eq_true rfl)
  rw [lg_entry_eq]
  generalize (lg_sl ([.ref b]) ++ List.replicate (7 - (lg_sl ([.ref b])).length) Slot.unset).toArray = ls at hl ⊢
  have hl : lv_has ls 7 [(0, .ref b)] := hl
  have hw : ac_wd D (fun q : Nat => s.heap.size ≤ q) (fun _ => none) s.heap := ⟨[], fun a => by simp, fun k q h => by simp [ac_ws, va_pl] at h, ⟨fun i j p q h => by simp [ac_ws, va_pl] at h, fun k q h => by simp [ac_ws, va_pl] at h⟩⟩
  have hN : ac_nw s := ⟨fun q hq => va_Nw.of rfl (hts _ (nm_in q hq)), fun C hC => va_AO.of (hts _ (ao_in C hC))⟩
  exact c_law (x := ((p, l, e, room_1, s), (m, #[Value.ref b], below, meth, c), (D, ki, fun q : Nat => s.heap.size ≤ q), lw_Z below #[Value.ref b] s)) rfl hX hbl (Nat.not_le.mpr hbl)
    (fun kc ks pc lv f hd h1 h2 o H locs ls hw hS hl => va_forget (fun q hq => hS.2.2 q hq) (W.widen h1 h2 (lw_ret hx hb hr hlocks hd)))
    (law_p1 hL) ⟨hx, hb, hml, hown, fun w hw => hts w (T0_in w hw), hK, hN, fun _ h => h⟩ s.heap [] ls hw va_S.rf hl
