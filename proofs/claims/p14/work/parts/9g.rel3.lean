/-! side by side: mapping, atom, span, clear; the looks; a new pair -/
section RL3
variable {ki : Nat → ClassId} {ad am : Nat → Nat} {r3 : Nat} {s : Nat → Nat → Int32} {tl : Nat → Int64} {t : Nat → Nat → Int32} {f f' : ac_hp}
variable {sz : Nat → Nat} {nn : Nat → Nat → Nat → Nat} {kk : Nat → Nat → Int32} {mc n sp : Nat}
theorem CI.qk (hc : CI s sz nn kk mc n sp) : n ≤ 4 ∧ mc ≤ 12 ∧ s 1 3 = nI mc ∧ s 5 4 = nI n ∧ sp ≤ 4 ∧ s 5 5 = nI sp := by
  obtain ⟨VM, mt, ml, mtm, A, TP, ⟨q1, q2, q3, q4, -⟩, -, -, -, -, -, -, -, h9, h10⟩ := hc
  exact ⟨q1, q2, q3, q4, h9, h10⟩
theorem j_mapping (h : JA ki ad am r3 s tl t f) (hc : CI s sz nn kk mc n sp) (hi : RI t sz nn kk mc n sp) (a b c d e g : Int32) : ag (am 0) (wp_X0_mapping ki (ad 0) a b c d e g f) (fun f' => wp_X9_mapping ki (am 0) a b c d e g f') (JJ ki ad am r3) := by
  obtain ⟨q1, q2, q3, q4, q5, q6⟩ := hc.qk
  have r4 : t 0 4 = nI mc := hi.1.2.2.1.2.1
  by_cases hp : (∃ t : Nat, t < 4 ∧ a = nI t) ∧ (∃ p : Nat, p < 8 ∧ b = nI p) ∧ (∃ x : Nat, x < 6 ∧ c = nI x) ∧ (∃ x : Nat, x < 3 ∧ d = nI x) ∧ (∃ x : Nat, x < 6 ∧ e = nI x) ∧ (∃ x : Nat, x < 3 ∧ g = nI x)
  · by_cases c1 : mc = 12
    · exact ag_same h hc hi (fun P hP => sp_mapping h.1 q3 q2 (fun z => absurd hp z) (fun _ _ _ _ _ _ => ⟨fun _ => hP, fun z => absurd z (by omega)⟩)) (fun f' hm Q hQ => sm_mapping hm r4 q2 (fun z => absurd hp z) (fun _ _ _ _ _ _ => ⟨fun _ => hQ, fun z => absurd z (by omega)⟩))
    · obtain ⟨p1, p2, p3, p4, p5, p6⟩ := id hp
      exact ag_new h (CI_map (x2 := b) hc (by omega) p1 p3 p4 p5 p6) (RI_map (x2 := b) (x3 := c) (x5 := e) (RI_t0 hi) (by omega) p1 p4 p6) (fun P hP => sp_mapping h.1 q3 q2 (fun z => absurd hp z) (fun _ _ _ _ _ _ => ⟨fun z => absurd z c1, fun _ => hP⟩)) (fun f' hm Q hQ => sm_mapping hm r4 q2 (fun z => absurd hp z) (fun _ _ _ _ _ _ => ⟨fun z => absurd z c1, fun _ => hQ⟩))
  · exact ag_same h hc hi (fun P hP => sp_mapping h.1 q3 q2 (fun _ => hP) (fun h1 h2 h3 h4 h5 h6 => absurd ⟨h1, h2, h3, h4, h5, h6⟩ hp)) (fun f' hm Q hQ => sm_mapping hm r4 q2 (fun _ => hQ) (fun h1 h2 h3 h4 h5 h6 => absurd ⟨h1, h2, h3, h4, h5, h6⟩ hp))
theorem j_atom (h : JA ki ad am r3 s tl t f) (hc : CI s sz nn kk mc n sp) (hi : RI t sz nn kk mc n sp) (a b c : Int32) : ag (am 0) (wp_X0_atom ki (ad 0) a b c f) (fun f' => wp_X9_atom ki (am 0) a b c f') (JJ ki ad am r3) := by
  obtain ⟨q1, q2, q3, q4, q5, q6⟩ := hc.qk
  have r4 : t 0 9 = nI n := hi.1.2.2.2.1.2.1
  by_cases hp : (∃ p : Nat, p < 8 ∧ a = nI p) ∧ (¬ b < (-6) ∧ b < 60000) ∧ (¬ c < (-6) ∧ c < 60000)
  · by_cases c1 : n = 4
    · exact ag_same h hc hi (fun P hP => sp_atom h.1 q4 q1 (fun z => absurd hp z) (fun _ _ _ => ⟨fun _ => hP, fun z => absurd z (by omega)⟩)) (fun f' hm Q hQ => sm_atom hm r4 q1 (fun z => absurd hp z) (fun _ _ _ => ⟨fun _ => hQ, fun z => absurd z (by omega)⟩))
    · exact ag_new h (CI_atom (x1 := a) hc (by omega) hp.2.1 hp.2.2) (RI_atom (x1 := a) (RI_t0 hi) (by omega) hp.2.1 hp.2.2) (fun P hP => sp_atom h.1 q4 q1 (fun z => absurd hp z) (fun _ _ _ => ⟨fun z => absurd z c1, fun _ => hP⟩)) (fun f' hm Q hQ => sm_atom hm r4 q1 (fun z => absurd hp z) (fun _ _ _ => ⟨fun z => absurd z c1, fun _ => hQ⟩))
  · exact ag_same h hc hi (fun P hP => sp_atom h.1 q4 q1 (fun _ => hP) (fun h1 h2 h3 => absurd ⟨h1, h2, h3⟩ hp)) (fun f' hm Q hQ => sm_atom hm r4 q1 (fun _ => hQ) (fun h1 h2 h3 => absurd ⟨h1, h2, h3⟩ hp))
theorem j_span (h : JA ki ad am r3 s tl t f) (hc : CI s sz nn kk mc n sp) (hi : RI t sz nn kk mc n sp) (a b c : Int32) : ag (am 0) (wp_X0_span ki (ad 0) a b c f) (fun f' => wp_X9_span ki (am 0) a b c f') (JJ ki ad am r3) := by
  obtain ⟨q1, q2, q3, q4, q5, q6⟩ := hc.qk
  have r4 : t 0 12 = nI sp := hi.1.2.2.2.2.2.1
  by_cases hp : ∃ v : Nat, v < 6 ∧ a = nI v
  · by_cases c1 : sp = 4
    · exact ag_same h hc hi (fun P hP => sp_span h.1 q6 q5 (fun z => absurd hp z) (fun _ _ _ => ⟨fun _ => hP, fun z => absurd z (by omega)⟩)) (fun f' hm Q hQ => sm_span hm r4 q5 (fun z => absurd hp z) (fun _ _ _ => ⟨fun _ => hQ, fun z => absurd z (by omega)⟩))
    · obtain ⟨v, hv, e1⟩ := id hp
      have hR : RI (ms_span (th0 t) sp a b c) sz nn kk mc n (sp + 1) := by rw [e1]; exact RI_span (RI_t0 hi) (by omega) hv
      exact ag_new h (CI_span (v := v) (a := b) (b := c) hc (by omega)) hR (fun P hP => sp_span h.1 q6 q5 (fun z => absurd hp z) (fun v' hv' e1' => by
        have q : v' = v := nI_inj20 (by omega) (by omega) (e1'.symm.trans e1)
        subst q
        exact ⟨fun z => absurd z c1, fun _ => hP⟩)) (fun f' hm Q hQ => sm_span hm r4 q5 (fun z => absurd hp z) (fun _ _ _ => ⟨fun z => absurd z c1, fun _ => hQ⟩))
  · exact ag_same h hc hi (fun P hP => sp_span h.1 q6 q5 (fun _ => hP) (fun v h1 h2 => absurd ⟨v, h1, h2⟩ hp)) (fun f' hm Q hQ => sm_span hm r4 q5 (fun _ => hQ) (fun v h1 h2 => absurd ⟨v, h1, h2⟩ hp))
theorem j_clear (h : JA ki ad am r3 s tl t f) (hc : CI s sz nn kk mc n sp) (hi : RI t sz nn kk mc n sp) : ag (am 0) (wp_X0_clear ki (ad 0) f) (fun f' => wp_X9_clear ki (am 0) f') (JJ ki ad am r3) :=
  ag_new (v := nI n) h (CI_clear hc) (RI_clear (RI_t0 hi)) (fun P hP => sp_clear h.1 (fun f' h' => by rw [hc.qk.2.2.2.1]; exact hP f' h')) (fun f' hm Q hQ => sm_clear hm hi.1.2.2.2.1.2.1 hQ)
theorem j_triples (h : JA ki ad am r3 s tl t f) (hc : CI s sz nn kk mc n sp) (hi : RI t sz nn kk mc n sp) : go (am 0) (wp_X0_triples ki (ad 0) f) (fun f' => wp_X9_triples ki (am 0) f') (JJ ki ad am r3) :=
  go_any h hi (fun P hP => cs_triples h.1 hc hP) (fun f' hm Q hQ => rs_triples hm hi hQ)
theorem j_unions (h : JA ki ad am r3 s tl t f) (hc : CI s sz nn kk mc n sp) (hi : RI t sz nn kk mc n sp) : go (am 0) (wp_X0_unions ki (ad 0) f) (fun f' => wp_X9_unions ki (am 0) f') (JJ ki ad am r3) :=
  go_any h hi (fun P hP => cs_unions h.1 hc hP) (fun f' hm Q hQ => rs_unions hm hi hQ)
theorem j_union (h : JA ki ad am r3 s tl t f) (hc : CI s sz nn kk mc n sp) (hi : RI t sz nn kk mc n sp) (a b : Int32) : go (am 0) (wp_X0_union ki (ad 0) a b f) (fun f' => wp_X9_union ki (am 0) a b f') (JJ ki ad am r3) :=
  go_any h hi (fun P hP => cs_union h.1 hc hP) (fun f' hm Q hQ => rs_union hm hi hQ)
theorem j_estimate (h : JA ki ad am r3 s tl t f) (hc : CI s sz nn kk mc n sp) (hi : RI t sz nn kk mc n sp) (a : Int32) : go (am 0) (wp_X0_estimate ki (ad 0) a f) (fun f' => wp_X9_estimate ki (am 0) a f') (JJ ki ad am r3) :=
  go_any h hi (fun P hP => cs_estimate h.1 hc hP) (fun f' hm Q hQ => rs_estimate hm hi hQ)
theorem j_run (h : JA ki ad am r3 s tl t f) (hc : CI s sz nn kk mc n sp) (hi : RI t sz nn kk mc n sp) : go (am 0) (wp_X0_run ki (ad 0) f) (fun f' => wp_X9_run ki (am 0) f') (JJ ki ad am r3) :=
  go_any h hi (fun P hP => cs_run h.1 hc hP) (fun f' hm Q hQ => rs_run hm hi hQ)
theorem j_found (h : JA ki ad am r3 s tl t f) (hc : CI s sz nn kk mc n sp) (hi : RI t sz nn kk mc n sp) (a b : Int32) : go (am 0) (wp_X0_found ki (ad 0) a b f) (fun f' => wp_X9_found ki (am 0) a b f') (JJ ki ad am r3) :=
  go_any h hi (fun P hP => cs_found h.1 hc (fun v => hP v s tl f hc h.1)) (fun f' hm Q hQ => rs_found hm hi hQ)
theorem j_value (h : JA ki ad am r3 s tl t f) (hc : CI s sz nn kk mc n sp) (hi : RI t sz nn kk mc n sp) (a b : Int32) : go (am 0) (wq_XL_value ki (ad 0) a b r3 f) (fun f' => wp_X9_value ki (am 0) a b f') (JJ ki ad am r3) := by
  refine ⟨fun f' => JA ki ad am r3 s tl t f', fun P hP => ?_, fun f' hM => ⟨rm_o hM.2.1, fun Q hQ => rs_value hM.2.1 hi (fun v t' f'' hi' h'' => hQ v f'' ⟨s, tl, t', sz, nn, kk, mc, n, sp, hM.m h'', hc, hi'⟩)⟩⟩
  have ho : hr_o f (ad 0) 0 := rd_o (i := 0) h.1 (by omega) rfl
  rcases cs_value (x := a) (y := b) h.1 hc with z | z
  · refine Or.inl ⟨ho, z _ (fun v => ?_)⟩
    obtain ⟨g, hg⟩ := h.2.2.2.2.2
    exact ⟨_, ⟨1, g, hg, vp_in_nI (n := 0) (by omega) (by omega), rfl⟩, hP 0 _ h.o⟩
  · exact Or.inr ⟨ho, z, hP 1 f h⟩
/-- what every call of a part asks -/
def agree_part (ki : Nat → ClassId) (r1 r2 r3 : Nat) (f : ac_hp) (N : ac_hp → Prop) : Prop := hr_o f r1 0 ∧ N f
  ∧ (∀ a b c : Int32, c = 0 ∨ c = 1 → ag r2 (wp_X0_key ki r1 a b c f) (fun f' => wp_X9_key ki r2 a b c f') N)
  ∧ (∀ a b c d : Int32, ag r2 (wp_X0_row ki r1 a b c d f) (fun f' => wp_X9_row ki r2 a b c d f') N)
  ∧ (∀ a b : Int32, ag r2 (wp_X0_drop ki r1 a b f) (fun f' => wp_X9_drop ki r2 a b f') N)
  ∧ (∀ a b c d e g : Int32, ag r2 (wp_X0_mapping ki r1 a b c d e g f) (fun f' => wp_X9_mapping ki r2 a b c d e g f') N)
  ∧ (go r2 (wp_X0_triples ki r1 f) (fun f' => wp_X9_triples ki r2 f') N)
  ∧ (∀ a b c : Int32, ag r2 (wp_X0_atom ki r1 a b c f) (fun f' => wp_X9_atom ki r2 a b c f') N)
  ∧ (∀ a b c : Int32, ag r2 (wp_X0_span ki r1 a b c f) (fun f' => wp_X9_span ki r2 a b c f') N)
  ∧ (ag r2 (wp_X0_clear ki r1 f) (fun f' => wp_X9_clear ki r2 f') N)
  ∧ (go r2 (wp_X0_unions ki r1 f) (fun f' => wp_X9_unions ki r2 f') N)
  ∧ (∀ a b : Int32, go r2 (wp_X0_union ki r1 a b f) (fun f' => wp_X9_union ki r2 a b f') N)
  ∧ (∀ a : Int32, go r2 (wp_X0_estimate ki r1 a f) (fun f' => wp_X9_estimate ki r2 a f') N)
  ∧ (go r2 (wp_X0_run ki r1 f) (fun f' => wp_X9_run ki r2 f') N)
  ∧ (∀ a b : Int32, go r2 (wq_XL_value ki r1 a b r3 f) (fun f' => wp_X9_value ki r2 a b f') N)
  ∧ (∀ a b : Int32, go r2 (wp_X0_found ki r1 a b f) (fun f' => wp_X9_found ki r2 a b f') N)
theorem j_all (hj : JJ ki ad am r3 f) : agree_part ki (ad 0) (am 0) r3 f (JJ ki ad am r3) := by
  obtain ⟨s, tl, t, sz, nn, kk, mc, n, sp, h, hc, hi⟩ := id hj
  exact ⟨rd_o (i := 0) h.1 (by omega) rfl, hj, j_key h hc hi, j_row h hc hi, j_drop h hc hi, j_mapping h hc hi, j_triples h hc hi, j_atom h hc hi, j_span h hc hi, j_clear h hc hi, j_unions h hc hi, j_union h hc hi, j_estimate h hc hi, j_run h hc hi, j_value h hc hi, j_found h hc hi⟩
theorem vs0_ne {i k : Nat} (h : i ≠ 9) : vs0 i k = 0 := by
  unfold vs0
  rw [if_neg h]
theorem CI_0 : CI vs0 (fun _ => 0) (fun _ _ _ => 0) (fun _ _ => 0) 0 0 0 :=
  ⟨0, fun _ => 0, fun _ _ => 0, fun _ _ => 0, A00, fun _ => 0, ⟨by omega, by omega, (vs0_ne (by omega)).trans nI_0.symm, (vs0_ne (by omega)).trans nI_0.symm, fun a ha => absurd ha (by omega), fun z => absurd (vs0_ne (by omega)) z⟩, ⟨fun k hk => ⟨Nat.zero_le _, (vs0_ne (by omega)).trans nI_0.symm⟩, fun k r j hk hr => absurd hr (Nat.not_lt_zero _)⟩, fun t c ht hc => ⟨Or.inl rfl, vs0_ne (by omega)⟩, fun i hi => absurd hi (by omega), aA_00 (vs0_ne (by omega)), by omega, (vs0_ne (by omega)).trans nI_0.symm, fun v hv => ⟨Nat.succ_pos 5, (vs0_ne (by omega)).trans nI_0.symm⟩, by omega, (vs0_ne (by omega)).trans nI_0.symm⟩
theorem RI_0 : RI ms0 (fun _ => 0) (fun _ _ _ => 0) (fun _ _ => 0) 0 0 0 :=
  ⟨⟨⟨fun t ht => ⟨Nat.zero_le _, nI_0.symm⟩, fun t r c ht hr => absurd hr (Nat.not_lt_zero _)⟩, fun t c ht hc => ⟨Or.inl rfl, rfl⟩, ⟨by omega, nI_0.symm, fun m hm => absurd hm (by omega)⟩, ⟨by omega, nI_0.symm, fun j hj => absurd hj (by omega)⟩, by omega, nI_0.symm, fun q hq => absurd hq (by omega)⟩, 0, by omega, nI_0.symm⟩
end RL3
