/-! the class's looks keep tables, mappings, question -/
def SK (s s' : Nat → Nat → Int32) : Prop := s' 1 3 = s 1 3 ∧ ∀ j, (5 ≤ j ∧ j ≤ 9) ∨ 30 ≤ j → s' j = s j
section IV5
variable {F : ac_hp} {ki : Nat → ClassId} {ad : Nat → Nat} {s s' : Nat → Nat → Int32} {tl : Nat → Int64} {f : ac_hp}
variable {sz : Nat → Nat} {nn : Nat → Nat → Nat → Nat} {kk : Nat → Nat → Int32} {mc n sp : Nat}
theorem SK.rfl' : SK s s := ⟨rfl, fun _ _ => rfl⟩
theorem SK.trans {s1 s2 s3 : Nat → Nat → Int32} (h : SK s1 s2) (h' : SK s2 s3) : SK s1 s3 := ⟨h'.1.trans h.1, fun j hj => (h'.2 j hj).trans (h.2 j hj)⟩
theorem SK.rfd (h : rfd s s' n mc) : SK s s' := ⟨by rw [h.1 1 (by omega)], fun j hj => h.1 j (by omega)⟩
theorem SK.keeps (h : keeps s s') : SK s s' := ⟨by rw [h 1 (by omega)], fun j hj => h j (by omega)⟩
theorem SK.up {i : Nat} {w : Nat → Int32} (h1 : 10 ≤ i) (h2 : i < 30) : SK s (va_up s i w) := ⟨by rw [va_up_ne _ _ (by omega)], fun j hj => va_up_ne _ _ (by omega)⟩
theorem SK.one {v : Int32} : SK s (va_up s 1 (upd (s 1) 4 v)) := ⟨by rw [va_up_self, pk_un (by omega)], fun j hj => va_up_ne _ _ (by omega)⟩
theorem SK.sl {w : Nat → Int32} {ct : Nat} : SK s (vs_sl s w ct) := (SK.up (i := 15) (by omega) (by omega)).trans (SK.up (by omega) (by omega))
theorem ck_unions {Q : Int32 → ac_hp → Prop} (h : vr_R F ki ad s tl f) (hc : CI s sz nn kk mc n sp) (hq : ∀ v s' tl' f', SK s s' → CI s' sz nn kk mc n sp → vr_R F ki ad s' tl' f' → Q v f') : wp_X0_unions ki (ad 0) f Q := by
  obtain ⟨VM, mt, ml, mtm, A, TP, h1, h2, h3, h4, h5, h6, h7, h8, h9, h10⟩ := id hc
  exact sp_unions h h1 (fun _ => hq _ _ tl f SK.rfl' hc h) (fun _ _ s' f' hr h' => hq _ s' tl f' (SK.rfd hr) (CI_rfd hc hr) h') (fun _ _ s' f' hr h' => hq _ s' tl f' (SK.rfd hr) (CI_rfd hc hr) h')
theorem ck_union {x y : Int32} {Q : Int32 → ac_hp → Prop} (h : vr_R F ki ad s tl f) (hc : CI s sz nn kk mc n sp) (hq : ∀ v s' tl' f', SK s s' → CI s' sz nn kk mc n sp → vr_R F ki ad s' tl' f' → Q v f') : wp_X0_union ki (ad 0) x y f Q := by
  obtain ⟨VM, mt, ml, mtm, A, TP, h1, h2, h3, h4, h5, h6, h7, h8, h9, h10⟩ := id hc
  refine sp_union h h1 (fun _ => hq _ _ tl f SK.rfl' hc h) (fun _ _ => hq _ _ tl f SK.rfl' hc h) (fun _ _ _ _ s' f' hr h' => hq _ s' tl f' (SK.rfd hr) (CI_rfd hc hr) h') (fun _ _ _ _ _ s' f' hr h' => hq _ s' tl f' (SK.rfd hr) (CI_rfd hc hr) h') (fun u k _ _ hl hu _ s1 f1 hr hv => ⟨fun _ => hq _ s1 tl f1 (SK.rfd hr) (CI_rfd hc hr) hv, fun _ => ?_⟩)
  obtain ⟨m, t, c, hm⟩ := ci_uok hc hr hl hu
  exact ⟨m, t, c, hm, fun g ct w f' _ h' => ⟨fun _ => hq _ _ tl f' ((SK.rfd hr).trans SK.sl) (CI_sl (CI_rfd hc hr)) h', fun _ => hq _ _ tl f' ((SK.rfd hr).trans SK.sl) (CI_sl (CI_rfd hc hr)) h'⟩⟩
theorem ck_estimate {x : Int32} {Q : Int32 → ac_hp → Prop} (h : vr_R F ki ad s tl f) (hc : CI s sz nn kk mc n sp) (hq : ∀ v s' tl' f', SK s s' → CI s' sz nn kk mc n sp → vr_R F ki ad s' tl' f' → Q v f') : wp_X0_estimate ki (ad 0) x f Q := by
  obtain ⟨VM, mt, ml, mtm, A, TP, h1, h2, h3, h4, h5, h6, h7, h8, h9, h10⟩ := id hc
  refine sp_estimate h h1 (fun _ => hq _ _ tl f SK.rfl' hc h) (fun _ _ _ s' f' hr h' => hq _ s' tl f' (SK.rfd hr) (CI_rfd hc hr) h') (fun _ _ _ _ s' f' hr h' => hq _ s' tl f' (SK.rfd hr) (CI_rfd hc hr) h') (fun u _ hl hu _ s1 f1 hr hv => ?_)
  obtain ⟨m, t, c, hm⟩ := ci_uok hc hr hl hu
  exact ⟨m, t, c, sz, hm, fun k hk => by rw [hr.1 _ (by omega)]; exact (h2.1 k hk).2, fun g ct w f' _ h' => hq _ _ tl f' ((SK.rfd hr).trans SK.sl) (CI_sl (CI_rfd hc hr)) h'⟩
theorem ck_run {Q : Int32 → ac_hp → Prop} (h : vr_R F ki ad s tl f) (hc : CI s sz nn kk mc n sp) (hq : ∀ v s' tl' f', SK s s' → CI s' sz nn kk mc n sp → vr_R F ki ad s' tl' f' → Q v f') : wp_X0_run ki (ad 0) f Q := by
  obtain ⟨VM, mt, ml, mtm, A, TP, h1, h2, h3, h4, h5, h6, h7, h8, h9, h10⟩ := id hc
  refine sp_run (mm := fun u => unm s n mc u) (tt := fun u a => mt (unm s n mc u a)) (cc := fun u a => ml (unm s n mc u a)) (tmm := fun u a => mtm (unm s n mc u a)) h h1 h2 h8 (fun s2 e hk hl u hu => ?_) (fun VM' f' hV _ _ h' => hq _ _ tl f' (SK.up (by omega) (by omega)) (CI_16 hc hV) h') (fun VM' s2 f' hV _ _ _ hr h' => hq _ s2 tl f' ((SK.up (by omega) (by omega)).trans (SK.rfd hr)) (CI_rfd (CI_16 hc hV) hr) h') (fun VM' s2 s3 f' A' TP' hV _ _ _ hr hkp e5 _ hA _ hT h' => hq _ s3 tl f' (((SK.up (by omega) (by omega)).trans (SK.rfd hr)).trans (SK.keeps hkp)) (CI_find (CI_rfd (CI_16 hc hV) hr) hkp hV e5 hA hT) h') (fun VM' s2 s3 f' A' TP' hV _ _ _ hr hkp e5 _ hA _ hT h' => hq _ _ tl f' ((((SK.up (by omega) (by omega)).trans (SK.rfd hr)).trans (SK.keeps hkp)).trans (SK.up (by omega) (by omega))) (CI_none (CI_find (CI_rfd (CI_16 hc hV) hr) hkp hV e5 hA hT)) h')
  have eu : unions s2 n mc = unions s n mc := unions_s2 (fun i hi => e i (by omega))
  have e2 : ∀ a, unm s2 n mc u a = unm s n mc u a := fun a => by unfold unm; rw [eu]
  have := ud_of (u := u) (mps_c h4 (fun i hi => e i (by omega))) hk (by rw [eu]; exact hl) (by rw [eu]; exact hu)
  simp only [show unm s2 n mc u = unm s n mc u from funext e2] at this
  exact this
end IV5
