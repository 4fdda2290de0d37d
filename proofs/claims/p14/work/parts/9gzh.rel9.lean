/-! side by side: value, and where it throws -/
abbrev JJ6 := @JJ5
theorem lg_cmp_self (v : Int64) : lg_cmp v v = 0 := by
  unfold lg_cmp
  simp
/-- value: k = 1 where both throw, else v from both, and the law has written it down -/
def agw (ki : Nat → ClassId) (r1 r2 r3 : Nat) (a b : Int32) (f : ac_hp) (N : ac_hp → Prop) : Prop := ∃ (k v : Int32) (M : ac_hp → Prop), (∀ P : Int32 → ac_hp → Prop, (∀ f', M f' → P k f') → wq_XL_value ki r1 a b r3 f P) ∧ ∀ f', M f' → hr_o f' r2 9 ∧ ∀ Q : Int32 → ac_hp → Prop, (∀ v' f'', N f'' → hr_o f'' r2 9 → hr_f f'' r2 9 0 (.int k) → (k = 0 → v' = v ∧ hr_l (ki 2) f'' r3 0 v.toInt64) → Q v' f'') → wp_X9_value ki r2 a b f' Q
section RL9
variable {ki : Nat → ClassId} {ad am : Nat → Nat} {r3 : Nat} {s : Nat → Nat → Int32} {tl : Nat → Int64} {t : Nat → Nat → Int32} {f f' : ac_hp}
variable {sz : Nat → Nat} {nn : Nat → Nat → Nat → Nat} {kk : Nat → Nat → Int32} {mc n sp : Nat} {a b : Int32}
theorem x_v0 {v : Int32} (h : JA ki ad am r3 s tl t f) (hc : CI s sz nn kk mc n sp) (hi : RI t sz nn kk mc n sp) (hl : MA s t mc n sp) (hA : ∀ Q : Int32 → ac_hp → Prop, Q v f → wp_X0_value ki (ad 0) a b f Q) (hB : ∀ f', mr_R f' ki am t f' → ∀ Q : Int32 → ac_hp → Prop, (∀ f'', mr_R f' ki am (th0 t) f'' → Q v f'') → wp_X9_value ki (am 0) a b f' Q) : agw ki (ad 0) (am 0) r3 a b f (JJ5 ki ad am r3) := by
  obtain ⟨g, hg⟩ := h.2.2.2.2.2
  refine ⟨0, v, fun f' => JA ki ad am r3 s tl t f' ∧ hr_l (ki 2) f' r3 0 v.toInt64, fun P hP => Or.inl ⟨rd_o (i := 0) h.1 (by omega) rfl, hA _ ⟨_, ⟨1, g, hg, vp_in_nI (n := 0) (by omega) (by omega), rfl⟩, hP _ ⟨h.o, 1, _, ac_up_self _ _ _, vp_in_nI (n := 0) (by omega) (by omega), by simp [vp_updL]⟩⟩⟩, fun f' hM => ⟨rm_o hM.1.2.1, fun Q hQ => hB f' hM.1.2.1 Q (fun f'' h'' => hQ v f'' ⟨s, tl, th0 t, sz, nn, kk, mc, n, sp, hM.1.m h'', hc, RI_t0 hi, hl.t0⟩ (rm_o h'') ?_ (fun _ => ⟨rfl, ?_⟩))⟩⟩
  · have r : hr_f f'' (am 0) 9 0 (.int (th0 t 0 0)) := rm_f h'' rfl
    have e : th0 t 0 0 = 0 := by unfold th0; rw [va_up_self, upd_self]
    rw [e] at r
    exact r
  · obtain ⟨m, g', hg', x1, x2⟩ := hM.2
    exact ⟨m, g', by rw [h''.2.2 r3 (fun i hi => hM.1.2.2.2.2.1 i hi)]; exact hg', x1, x2⟩
theorem x_v1 (h : JA ki ad am r3 s tl t f) (hc : CI s sz nn kk mc n sp) (hi : RI t sz nn kk mc n sp) (hl : MA s t mc n sp) (hA : thr_X0 f (ad 0) a b) (hB : ∀ f', mr_R f' ki am t f' → ∀ Q : Int32 → ac_hp → Prop, (∀ f'', mr_R f' ki am (va_up (th0 t) 0 (upd (th0 t 0) 0 1)) f'' → Q 0 f'') → wp_X9_value ki (am 0) a b f' Q) : agw ki (ad 0) (am 0) r3 a b f (JJ5 ki ad am r3) := by
  refine ⟨1, 0, fun f' => JA ki ad am r3 s tl t f', fun P hP => Or.inr ⟨rd_o (i := 0) h.1 (by omega) rfl, hA, hP f h⟩, fun f' hM => ⟨rm_o hM.2.1, fun Q hQ => hB f' hM.2.1 Q (fun f'' h'' => hQ 0 f'' ⟨s, tl, _, sz, nn, kk, mc, n, sp, hM.m h'', hc, (RI_t0 hi).sc (SC.fld (by omega) (by omega) (by omega)) (by rw [va_up_self, pk_un (by omega)]), hl.t0.k SK2.rfl' SC2.f0⟩ (rm_o h'') ?_ (fun z => absurd z ne10))⟩⟩
  have r : hr_f f'' (am 0) 9 0 (.int (va_up (th0 t) 0 (upd (th0 t 0) 0 1) 0 0)) := rm_f h'' rfl
  have e : va_up (th0 t) 0 (upd (th0 t 0) 0 1) 0 0 = 1 := by rw [va_up_self, upd_self]
  rw [e] at r
  exact r
theorem x_value (h : JA ki ad am r3 s tl t f) (hc : CI s sz nn kk mc n sp) (hi : RI t sz nn kk mc n sp) (hl : MA s t mc n sp) (x y : Int32) : agw ki (ad 0) (am 0) r3 x y f (JJ5 ki ad am r3) := by
  obtain ⟨A, B, VB, ls, VM, ⟨o, a1⟩, a2, a3, a4, a5, a6, a7⟩ := id hl.2
  have h300 := a1.1
  have h19 : 0 < B.1 → ∀ v, v < 6 → (t 19 v ≠ 0 ↔ VB v = true) := fun z v hv => (a7 (by omega) v hv).2
  by_cases hp : (∃ a, a < A.1 ∧ x = nI a) ∧ ∃ b, b < 6 ∧ y = nI b
  · obtain ⟨⟨i, hi2, ex⟩, v, hv, ey⟩ := id hp
    have hpB : (∃ a, a < B.1 ∧ x = nI a) ∧ ∃ b, b < 6 ∧ y = nI b := by rw [← a3]; exact hp
    have ua : ∀ a', a' ≤ 300 → x = nI a' → a' = i := fun a' ha' e => (nI_eq (by omega) (by omega)).mp (e.symm.trans ex)
    have ub : ∀ b', b' < 6 → y = nI b' → b' = v := fun b' hb' e => (nI_eq (by omega) (by omega)).mp (e.symm.trans ey)
    obtain ⟨e0, -⟩ := a4 i hi2
    have hbit := (a7 (by omega) v hv).1
    cases hV : VM.testBit v with
    | true =>
      have hVB := hbit.mp hV
      refine x_v0 (v := nI (A.2.1 i v)) h hc hi hl (fun Q hQ => sp_value h.1 a1 a5 a6 (fun z => absurd hp z) (fun a' b' ha' ea hb' eb => by rw [ub b' hb' eb]; exact hV) (fun a' b' ha' ea hb' eb _ => by rw [ua a' (by omega) ea, ub b' hb' eb]; exact hQ)) (fun f' hm Q hQ => rj_value hm a2 (by omega) h19 (fun z => absurd hpB z) (fun a' b' ha' ea hb' eb _ f'' h'' => ?_) (fun a' b' ha' ea hb' eb z => ?_))
      · rw [ua a' (by omega) ea, ub b' hb' eb, e0 v hv]; exact hQ f'' h''
      · rw [ub b' hb' eb, hVB] at z; cases z
    | false =>
      have hVB : VB v = false := by
        cases z : VB v with
        | false => rfl
        | true => rw [hbit.mpr z] at hV; cases hV
      refine x_v1 h hc hi hl ?_ (fun f' hm Q hQ => rj_value hm a2 (by omega) h19 (fun z => absurd hpB z) (fun a' b' ha' ea hb' eb z => ?_) (fun a' b' ha' ea hb' eb _ f'' h'' => hQ f'' h''))
      · refine ⟨ad 16, nI A.1, nI VM, rd_f (i := 0) h.1 (by omega) rfl rfl, ?_, ?_, ?_, ?_, ?_, ?_, ?_⟩
        · rw [← a1.2.1]; exact rd_f (i := 16) h.1 (by omega) rfl rfl
        · rw [← a6]; exact rd_f (i := 16) h.1 (by omega) rfl rfl
        · rw [ex]; exact nI_pos (by omega)
        · rw [ex]; exact nI_ge hi2 (by omega)
        · rw [ey]; exact nI_pos (by omega)
        · rw [ey]; exact nI_ge (b := 6) hv (by omega)
        · rw [ey]; exact (bt_has VM a5 v hv).mpr hV
      · rw [ub b' hb' eb, hVB] at z; cases z
  · have hpB : ¬ ((∃ a, a < B.1 ∧ x = nI a) ∧ ∃ b, b < 6 ∧ y = nI b) := by rw [← a3]; exact hp
    exact x_v0 (v := -1) h hc hi hl (fun Q hQ => sp_value h.1 a1 a5 a6 (fun _ => hQ) (fun a' b' ha' ea hb' eb => absurd ⟨⟨a', ha', ea⟩, b', hb', eb⟩ hp) (fun a' b' ha' ea hb' eb => absurd ⟨⟨a', ha', ea⟩, b', hb', eb⟩ hp)) (fun f' hm Q hQ => rj_value hm a2 (by omega) h19 (fun _ => hQ) (fun a' b' ha' ea hb' eb => absurd ⟨⟨a', ha', ea⟩, b', hb', eb⟩ hpB) (fun a' b' ha' ea hb' eb => absurd ⟨⟨a', ha', ea⟩, b', hb', eb⟩ hpB))
/-- what every call of a part asks -/
def agree_part6 (ki : Nat → ClassId) (r1 r2 r3 : Nat) (f : ac_hp) (N : ac_hp → Prop) : Prop := hr_o f r1 0 ∧ N f
  ∧ (∀ a b c : Int32, c = 0 ∨ c = 1 → ag r2 (wp_X0_key ki r1 a b c f) (fun f' => wp_X9_key ki r2 a b c f') N)
  ∧ (∀ a b c d : Int32, ag r2 (wp_X0_row ki r1 a b c d f) (fun f' => wp_X9_row ki r2 a b c d f') N)
  ∧ (∀ a b : Int32, ag r2 (wp_X0_drop ki r1 a b f) (fun f' => wp_X9_drop ki r2 a b f') N)
  ∧ (∀ a b c d e g : Int32, ag r2 (wp_X0_mapping ki r1 a b c d e g f) (fun f' => wp_X9_mapping ki r2 a b c d e g f') N)
  ∧ (ag r2 (wp_X0_triples ki r1 f) (fun f' => wp_X9_triples ki r2 f') N)
  ∧ (∀ a b c : Int32, ag r2 (wp_X0_atom ki r1 a b c f) (fun f' => wp_X9_atom ki r2 a b c f') N)
  ∧ (∀ a b c : Int32, ag r2 (wp_X0_span ki r1 a b c f) (fun f' => wp_X9_span ki r2 a b c f') N)
  ∧ (ag r2 (wp_X0_clear ki r1 f) (fun f' => wp_X9_clear ki r2 f') N)
  ∧ (go r2 (wp_X0_unions ki r1 f) (fun f' => wp_X9_unions ki r2 f') N)
  ∧ (∀ a b : Int32, go r2 (wp_X0_union ki r1 a b f) (fun f' => wp_X9_union ki r2 a b f') N)
  ∧ (∀ a : Int32, go r2 (wp_X0_estimate ki r1 a f) (fun f' => wp_X9_estimate ki r2 a f') N)
  ∧ (ag r2 (wp_X0_run ki r1 f) (fun f' => wp_X9_run ki r2 f') N)
  ∧ (∀ a b : Int32, agw ki r1 r2 r3 a b f N)
  ∧ (∀ a b : Int32, ag r2 (wp_X0_found ki r1 a b f) (fun f' => wp_X9_found ki r2 a b f') N)
theorem x_all (hj : JJ6 ki ad am r3 f) : agree_part6 ki (ad 0) (am 0) r3 f (JJ6 ki ad am r3) := by
  obtain ⟨s, tl, t, sz, nn, kk, mc, n, sp, h, hc, hi, hl⟩ := id hj
  exact ⟨rd_o (i := 0) h.1 (by omega) rfl, hj, w_key h hc hi hl, w_row h hc hi hl, w_drop h hc hi hl, w_mapping h hc hi hl, w_triples h hc hi hl, w_atom h hc hi hl, w_span h hc hi hl, w_clear h hc hi hl, w_unions h hc hi hl, w_union h hc hi hl, w_estimate h hc hi hl, w_run h hc hi hl, x_value h hc hi hl, w_found h hc hi hl⟩
end RL9
