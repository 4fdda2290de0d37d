/-! atom, span, clear, and the calls that only look -/
section IV2
variable {s s' : Nat → Nat → Int32} {sz : Nat → Nat} {nn : Nat → Nat → Nat → Nat} {kk : Nat → Nat → Int32} {mc n sp : Nat}
theorem CI_atom {x1 x2 x3 : Int32} (h : CI s sz nn kk mc n sp) (hn : n < 4) (p2 : ¬ x2 < (-6) ∧ x2 < 60000) (p3 : ¬ x3 < (-6) ∧ x3 < 60000) : CI (va_up (vs_atom s n x1 x2 x3) 10 (upd (s 10) 7 0)) sz nn kk mc (n + 1) sp := by
  obtain ⟨VM, mt, ml, mtm, A, TP, h1, h2, h3, h4, h5, h6, h7, h8, h9, h10⟩ := h
  have e : ∀ j, j ≠ 5 → j ≠ 6 → j ≠ 7 → j ≠ 10 → va_up (vs_atom s n x1 x2 x3) 10 (upd (s 10) 7 0) j = s j := fun j q1 q2 q3 q4 => by unfold vs_atom; rw [va_up_ne _ _ q4, va_up_ne _ _ q1, va_up_ne _ _ q3, va_up_ne _ _ q2]
  have e5 : va_up (vs_atom s n x1 x2 x3) 10 (upd (s 10) 7 0) 5 = upd (s 5) 4 (nI (n + 1)) := by unfold vs_atom; rw [va_up_ne _ _ (by omega), va_up_self]
  have e7 : va_up (vs_atom s n x1 x2 x3) 10 (upd (s 10) 7 0) 7 = upd (upd (s 7) (n * 2) x2) (n * 2 + 1) x3 := by unfold vs_atom; rw [va_up_ne _ _ (by omega), va_up_ne _ _ (by omega), va_up_self]
  refine ⟨VM, mt, ml, mtm, A, TP, ⟨by omega, h1.2.1, by rw [e 1 (by omega) (by omega) (by omega) (by omega)]; exact h1.2.2.1, by rw [e5]; simp [upd], fun a ha p hp => ?_, fun z => absurd ?_ z⟩, tbs_c h2 (fun k _ _ => e k (by omega) (by omega) (by omega) (by omega)), fun t' c' ht' hc' => by rw [e _ (by omega) (by omega) (by omega) (by omega)]; exact h3 t' c' ht' hc', mps_c h4 (fun i hi => e i (by omega) (by omega) (by omega) (by omega)), aA_c h5 (by rw [e 16 (by omega) (by omega) (by omega) (by omega)]) (fun j _ _ => e j (by omega) (by omega) (by omega) (by omega)), h6, by rw [e 16 (by omega) (by omega) (by omega) (by omega)]; exact h7, by rw [e 28 (by omega) (by omega) (by omega) (by omega)]; exact h8, h9, by rw [e5]; simp [upd, h10]⟩
  · rw [e7]
    unfold upd
    by_cases q1 : a * 2 + p = n * 2 + 1
    · rw [if_pos q1]; exact p3
    · rw [if_neg q1]
      by_cases q2 : a * 2 + p = n * 2
      · rw [if_pos q2]; exact p2
      · rw [if_neg q2]; exact h1.2.2.2.2.1 a (by omega) p hp
  · rw [va_up_self]; simp [upd]
theorem CI_span {v : Nat} {a b : Int32} (h : CI s sz nn kk mc n sp) (hn : sp < 4) : CI (vs_span s v sp a b) sz nn kk mc n (sp + 1) := by
  obtain ⟨VM, mt, ml, mtm, A, TP, h1, h2, h3, h4, h5, h6, h7, h8, h9, h10⟩ := h
  have e : ∀ j, j ≠ 5 → j ≠ 8 → j ≠ 9 → vs_span s v sp a b j = s j := fun j q1 q2 q3 => by unfold vs_span; rw [va_up_ne _ _ q1, va_up_ne _ _ q3, va_up_ne _ _ q2]
  have e5 : vs_span s v sp a b 5 = upd (s 5) 5 (nI (sp + 1)) := by unfold vs_span; rw [va_up_self]
  exact ⟨VM, mt, ml, mtm, A, TP, qok_c h1 (by rw [e 1 (by omega) (by omega) (by omega)]) (by rw [e5]; simp [upd]) (e 6 (by omega) (by omega) (by omega)) (e 7 (by omega) (by omega) (by omega)) (e 10 (by omega) (by omega) (by omega)) (e 11 (by omega) (by omega) (by omega)) (fun i hi => e i (by omega) (by omega) (by omega)), tbs_c h2 (fun k _ _ => e k (by omega) (by omega) (by omega)), fun t' c' ht' hc' => by rw [e _ (by omega) (by omega) (by omega)]; exact h3 t' c' ht' hc', mps_c h4 (fun i hi => e i (by omega) (by omega) (by omega)), aA_c h5 (by rw [e 16 (by omega) (by omega) (by omega)]) (fun j _ _ => e j (by omega) (by omega) (by omega)), h6, by rw [e 16 (by omega) (by omega) (by omega)]; exact h7, by rw [e 28 (by omega) (by omega) (by omega)]; exact h8, by omega, by rw [e5]; simp [upd]⟩
theorem CI_clear (h : CI s sz nn kk mc n sp) : CI (vs_clear s) sz nn kk mc 0 0 := by
  obtain ⟨VM, mt, ml, mtm, A, TP, h1, h2, h3, h4, h5, h6, h7, h8, h9, h10⟩ := h
  have e : ∀ j, j ≠ 5 → j ≠ 8 → j ≠ 9 → j ≠ 10 → vs_clear s j = s j := fun j q1 q2 q3 q4 => by unfold vs_clear; rw [va_up_ne _ _ q4, va_up_ne _ _ q3, va_up_ne _ _ q2, va_up_ne _ _ q1]
  have e5 : vs_clear s 5 = upd (upd (s 5) 4 0) 5 0 := by unfold vs_clear; rw [va_up_ne _ _ (by omega), va_up_ne _ _ (by omega), va_up_ne _ _ (by omega), va_up_self]
  exact ⟨VM, mt, ml, mtm, A, TP, ⟨by omega, h1.2.1, by rw [e 1 (by omega) (by omega) (by omega) (by omega)]; exact h1.2.2.1, by rw [e5]; simp [upd, nI_0], fun a ha => absurd ha (by omega), fun z => absurd (by unfold vs_clear; rw [va_up_self]; simp [upd]) z⟩, tbs_c h2 (fun k _ _ => e k (by omega) (by omega) (by omega) (by omega)), fun t' c' ht' hc' => by rw [e _ (by omega) (by omega) (by omega) (by omega)]; exact h3 t' c' ht' hc', mps_c h4 (fun i hi => e i (by omega) (by omega) (by omega) (by omega)), aA_c h5 (by rw [e 16 (by omega) (by omega) (by omega) (by omega)]) (fun j _ _ => e j (by omega) (by omega) (by omega) (by omega)), h6, by rw [e 16 (by omega) (by omega) (by omega) (by omega)]; exact h7, by rw [e 28 (by omega) (by omega) (by omega) (by omega)]; exact h8, by omega, by rw [e5]; simp [upd, nI_0]⟩
theorem CI_rfd (h : CI s sz nn kk mc n sp) (hr : rfd s s' n mc) : CI s' sz nn kk mc n sp := by
  obtain ⟨VM, mt, ml, mtm, A, TP, h1, h2, h3, h4, h5, h6, h7, h8, h9, h10⟩ := h
  obtain ⟨e, -, hk⟩ := hr
  exact ⟨VM, mt, ml, mtm, A, TP, ⟨h1.1, h1.2.1, by rw [e 1 (by omega)]; exact h1.2.2.1, by rw [e 5 (by omega)]; exact h1.2.2.2.1, fun a ha p hp => by rw [e 7 (by omega)]; exact h1.2.2.2.2.1 a ha p hp, fun _ => hk⟩, tbs_c h2 (fun k _ _ => e k (by omega)), fun t' c' ht' hc' => by rw [e _ (by omega)]; exact h3 t' c' ht' hc', mps_c h4 (fun i hi => e i (by omega)), aA_c h5 (by rw [e 16 (by omega)]) (fun j _ _ => e j (by omega)), h6, by rw [e 16 (by omega)]; exact h7, by rw [e 28 (by omega)]; exact h8, h9, by rw [e 5 (by omega)]; exact h10⟩
theorem CI_sl {w : Nat → Int32} {ct : Nat} (h : CI s sz nn kk mc n sp) : CI (vs_sl s w ct) sz nn kk mc n sp := by
  have e : ∀ j, j ≠ 14 → j ≠ 15 → vs_sl s w ct j = s j := fun j q1 q2 => by unfold vs_sl; rw [va_up_ne _ _ q1, va_up_ne _ _ q2]
  exact CI_c h (by rw [e 1 (by omega) (by omega)]) (e 5 (by omega) (by omega)) (e 6 (by omega) (by omega)) (e 7 (by omega) (by omega)) (e 10 (by omega) (by omega)) (e 11 (by omega) (by omega)) (fun i hi => e i (by omega) (by omega)) (e 16 (by omega) (by omega)) (fun j _ _ => e j (by omega) (by omega)) (e 28 (by omega) (by omega))
theorem CI_1 {v : Int32} (h : CI s sz nn kk mc n sp) : CI (va_up s 1 (upd (s 1) 4 v)) sz nn kk mc n sp := by
  have e : ∀ j, j ≠ 1 → va_up s 1 (upd (s 1) 4 v) j = s j := fun j q1 => va_up_ne _ _ q1
  exact CI_c h (by rw [va_up_self]; simp [upd]) (e 5 (by omega)) (e 6 (by omega)) (e 7 (by omega)) (e 10 (by omega)) (e 11 (by omega)) (fun i hi => e i (by omega)) (e 16 (by omega)) (fun j _ _ => e j (by omega)) (e 28 (by omega))
end IV2
section IV3
variable {F : ac_hp} {ki : Nat → ClassId} {ad : Nat → Nat} {s : Nat → Nat → Int32} {tl : Nat → Int64} {f : ac_hp}
variable {sz : Nat → Nat} {nn : Nat → Nat → Nat → Nat} {kk : Nat → Nat → Int32} {mc n sp : Nat}
theorem CI_sz (h : CI s sz nn kk mc n sp) : vs_sz s := by
  obtain ⟨VM, mt, ml, mtm, A, TP, h1, h2, h3, h4, h5, h6, h7, h8, h9, h10⟩ := h
  exact fun t ht => ⟨sz t, h2.1 t ht⟩
theorem cs_triples {Q : Int32 → ac_hp → Prop} (h : vr_R F ki ad s tl f) (hc : CI s sz nn kk mc n sp) (hq : ∀ v s' tl' f', CI s' sz nn kk mc n sp → vr_R F ki ad s' tl' f' → Q v f') : wp_X0_triples ki (ad 0) f Q := by
  obtain ⟨VM, mt, ml, mtm, A, TP, h1, h2, h3, h4, h5, h6, h7, h8, h9, h10⟩ := id hc
  exact sp_triples h h1.2.1 h1.2.2.1 (fun j hj => (h4 j hj).1) (fun k hk => h2.1 k hk) (fun tl' m f' _ _ h' => hq _ _ tl' f' (CI_1 hc) h')
theorem cs_unions {Q : Int32 → ac_hp → Prop} (h : vr_R F ki ad s tl f) (hc : CI s sz nn kk mc n sp) (hq : ∀ v s' tl' f', CI s' sz nn kk mc n sp → vr_R F ki ad s' tl' f' → Q v f') : wp_X0_unions ki (ad 0) f Q := by
  obtain ⟨VM, mt, ml, mtm, A, TP, h1, h2, h3, h4, h5, h6, h7, h8, h9, h10⟩ := id hc
  exact sp_unions h h1 (fun _ => hq _ _ tl f hc h) (fun _ _ s' f' hr h' => hq _ s' tl f' (CI_rfd hc hr) h') (fun _ _ s' f' hr h' => hq _ s' tl f' (CI_rfd hc hr) h')
theorem ci_uok {u : Nat} {s1 : Nat → Nat → Int32} (hc : CI s sz nn kk mc n sp) (hr : rfd s s1 n mc) (hl : (unions s n mc).length ≤ 150) (hu : u < (unions s n mc).length) : ∃ m t c, uok s1 u n m t c := by
  obtain ⟨VM, mt, ml, mtm, A, TP, h1, h2, h3, h4, h5, h6, h7, h8, h9, h10⟩ := hc
  have eu : unions s1 n mc = unions s n mc := unions_s2 (fun i hi => hr.1 i (by omega))
  have := ud_of (mps_c h4 (fun i hi => hr.1 i (by omega))) hr.2.2 (by rw [eu]; exact hl) (by rw [eu]; exact hu)
  exact ⟨_, _, _, this.1⟩
theorem cs_union {x y : Int32} {Q : Int32 → ac_hp → Prop} (h : vr_R F ki ad s tl f) (hc : CI s sz nn kk mc n sp) (hq : ∀ v s' tl' f', CI s' sz nn kk mc n sp → vr_R F ki ad s' tl' f' → Q v f') : wp_X0_union ki (ad 0) x y f Q := by
  obtain ⟨VM, mt, ml, mtm, A, TP, h1, h2, h3, h4, h5, h6, h7, h8, h9, h10⟩ := id hc
  refine sp_union h h1 (fun _ => hq _ _ tl f hc h) (fun _ _ => hq _ _ tl f hc h) (fun _ _ _ _ s' f' hr h' => hq _ s' tl f' (CI_rfd hc hr) h') (fun _ _ _ _ _ s' f' hr h' => hq _ s' tl f' (CI_rfd hc hr) h') (fun u k _ _ hl hu _ s1 f1 hr hv => ⟨fun _ => hq _ s1 tl f1 (CI_rfd hc hr) hv, fun _ => ?_⟩)
  obtain ⟨m, t, c, hm⟩ := ci_uok hc hr hl hu
  exact ⟨m, t, c, hm, fun g ct w f' _ h' => ⟨fun _ => hq _ _ tl f' (CI_sl (CI_rfd hc hr)) h', fun _ => hq _ _ tl f' (CI_sl (CI_rfd hc hr)) h'⟩⟩
theorem cs_estimate {x : Int32} {Q : Int32 → ac_hp → Prop} (h : vr_R F ki ad s tl f) (hc : CI s sz nn kk mc n sp) (hq : ∀ v s' tl' f', CI s' sz nn kk mc n sp → vr_R F ki ad s' tl' f' → Q v f') : wp_X0_estimate ki (ad 0) x f Q := by
  obtain ⟨VM, mt, ml, mtm, A, TP, h1, h2, h3, h4, h5, h6, h7, h8, h9, h10⟩ := id hc
  refine sp_estimate h h1 (fun _ => hq _ _ tl f hc h) (fun _ _ _ s' f' hr h' => hq _ s' tl f' (CI_rfd hc hr) h') (fun _ _ _ _ s' f' hr h' => hq _ s' tl f' (CI_rfd hc hr) h') (fun u _ hl hu _ s1 f1 hr hv => ?_)
  obtain ⟨m, t, c, hm⟩ := ci_uok hc hr hl hu
  exact ⟨m, t, c, sz, hm, fun k hk => by rw [hr.1 _ (by omega)]; exact (h2.1 k hk).2, fun g ct w f' _ h' => hq _ _ tl f' (CI_sl (CI_rfd hc hr)) h'⟩
end IV3
