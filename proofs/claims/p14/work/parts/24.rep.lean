/-! THE CLASS'S WORLD: mapping, atom, span, clear -/
section VR5
variable {F : ac_hp} {ki : Nat → ClassId} {ad : Nat → Nat} {s : Nat → Nat → Int32} {tl : Nat → Int64} {f : ac_hp}
theorem Q_eq {Q : Int32 → ac_hp → Prop} {a b : Int32} (e : a = b) (h : Q b f) : Q a f := e ▸ h
theorem R_eq {s' : Nat → Nat → Int32} (h : vr_R F ki ad s tl f) (e : s = s') : vr_R F ki ad s' tl f := e ▸ h
def vs_map (s : Nat → Nat → Int32) (m : Nat) (x1 x2 x3 x4 x5 x6 : Int32) : Nat → Nat → Int32 :=
  va_up (va_up (va_up (va_up (va_up s (42 + 3 * m) (upd (upd (s (42 + 3 * m)) 2 x1) 3 x2)) (43 + 3 * m) (upd (upd (s (43 + 3 * m)) 0 x3) 1 x5)) (44 + 3 * m) (upd (upd (s (44 + 3 * m)) 0 x4) 1 x6)) 1 (upd (s 1) 3 (nI (m + 1)))) 10 (upd (s 10) 7 0)
theorem sp_mapping {x1 x2 x3 x4 x5 x6 : Int32} {m : Nat} {Q : Int32 → ac_hp → Prop} (h : vr_R F ki ad s tl f) (hm : s 1 3 = nI m) (hm12 : m ≤ 12)
    (hbad : ¬ ((∃ t : Nat, t < 4 ∧ x1 = nI t) ∧ (∃ p : Nat, p < 8 ∧ x2 = nI p) ∧ (∃ a : Nat, a < 6 ∧ x3 = nI a) ∧ (∃ c : Nat, c < 3 ∧ x4 = nI c) ∧ (∃ a : Nat, a < 6 ∧ x5 = nI a) ∧ (∃ c : Nat, c < 3 ∧ x6 = nI c)) → Q (-1) f)
    (hgo : (∃ t : Nat, t < 4 ∧ x1 = nI t) → (∃ p : Nat, p < 8 ∧ x2 = nI p) → (∃ a : Nat, a < 6 ∧ x3 = nI a) → (∃ c : Nat, c < 3 ∧ x4 = nI c) → (∃ a : Nat, a < 6 ∧ x5 = nI a) → (∃ c : Nat, c < 3 ∧ x6 = nI c) →
      (m = 12 → Q (-2) f) ∧ (m < 12 → ∀ f', vr_R F ki ad (vs_map s m x1 x2 x3 x4 x5 x6) tl f' → Q (nI m) f')) : wp_X0_mapping ki (ad 0) x1 x2 x3 x4 x5 x6 f Q := by
  unfold wp_X0_mapping
  refine pb_below 4 rfl (by omega) (fun t ht e1 => ⟨fun z => absurd z ne10, fun _ => ?_⟩) (fun hn => ⟨fun _ => hbad (fun q => hn q.1), fun z => absurd rfl z⟩)
  refine pb_below 8 rfl (by omega) (fun p hp e2 => ⟨fun _ => ?_, fun z => absurd z ne10⟩) (fun hn => ⟨fun z => absurd rfl z, fun _ => hbad (fun q => hn q.2.1)⟩)
  refine pb_below 6 rfl (by omega) (fun a ha e3 => ⟨fun z => absurd z ne10, fun _ => ?_⟩) (fun hn => ⟨fun _ => hbad (fun q => hn q.2.2.1), fun z => absurd rfl z⟩)
  refine pb_below 3 rfl (by omega) (fun c hc e4 => ⟨fun _ => ?_, fun z => absurd z ne10⟩) (fun hn => ⟨fun z => absurd rfl z, fun _ => hbad (fun q => hn q.2.2.2.1)⟩)
  refine pb_below 6 rfl (by omega) (fun b hb e5 => ⟨fun z => absurd z ne10, fun _ => ?_⟩) (fun hn => ⟨fun _ => hbad (fun q => hn q.2.2.2.2.1), fun z => absurd rfl z⟩)
  refine pb_below 3 rfl (by omega) (fun d hd e6 => ⟨fun _ => ?_, fun z => absurd z ne10⟩) (fun hn => ⟨fun z => absurd rfl z, fun _ => hbad (fun q => hn q.2.2.2.2.2)⟩)
  obtain ⟨g0, g1⟩ := hgo ⟨t, ht, e1⟩ ⟨p, hp, e2⟩ ⟨a, ha, e3⟩ ⟨c, hc, e4⟩ ⟨b, hb, e5⟩ ⟨d, hd, e6⟩
  refine ⟨_, rd_f h (by omega) rfl rfl, _, rd_f (i := 1) h (by omega) rfl rfl, ?_⟩
  rw [hm]
  refine ⟨fun hlt => ?_, fun hge => ?_⟩
  · have hm2 : m < 12 := by
      rcases Nat.lt_or_ge m 12 with z | z
      · exact z
      · exact absurd hlt (by rw [show (12 : Int32) = nI 12 from rfl]; exact nI_nlt z (by omega))
    refine ⟨_, rd_f h (by omega) rfl rfl, _, rd_f (i := 1) h (by omega) rfl rfl, _, rd_f h (by omega) rfl rfl, _, rd_f (i := 1) h (by omega) rfl rfl, _, by rw [hm]; exact rd_map h hm2, ?_⟩
    refine wr_n (fun w => [.ref (ad (43 + 3 * m)), .ref (ad (44 + 3 * m)), .int (w 2), .int (w 3)]) h (by omega) (fun s' => lay_M hm2) (Nat.le_of_ble_eq_true rfl) (by simp [upd]) (fun f20 h20 => ?_)
    refine wr_n (fun w => [.ref (ad (43 + 3 * m)), .ref (ad (44 + 3 * m)), .int (w 2), .int (w 3)]) h20 (by omega) (fun s' => lay_M hm2) (Nat.le_of_ble_eq_true rfl) (by simp [upd]) (fun f21 h21 => ?_)
    refine ⟨rd_o h21 (by omega) (lay_M hm2), sp_describe (p := 0) h21 hm2 (by omega) (fun f22 h22 => ⟨rd_o h22 (by omega) (lay_M hm2), sp_describe (p := 1) h22 hm2 (by omega) (fun f23 h23 => ?_)⟩)⟩
    have h23 := R_eq (s' := va_up (va_up (va_up s (42 + 3 * m) (upd (upd (s (42 + 3 * m)) 2 x1) 3 x2)) (43 + 3 * m) (upd (upd (s (43 + 3 * m)) 0 x3) 1 x5)) (44 + 3 * m) (upd (upd (s (44 + 3 * m)) 0 x4) 1 x6)) h23 (by
      funext i
      by_cases i1 : i = 44 + 3 * m
      · subst i1; simp (disch := omega) only [va_up_self, va_up_ne]
      · by_cases i2 : i = 43 + 3 * m
        · subst i2; simp (disch := omega) only [va_up_self, va_up_ne]
        · by_cases i3 : i = 42 + 3 * m
          · subst i3; simp (disch := omega) only [va_up_self, va_up_ne]
          · simp (disch := omega) only [va_up_self, va_up_ne])
    refine ⟨_, rd_f h23 (by omega) rfl rfl, _, rd_f (i := 1) h23 (by omega) rfl rfl, ?_⟩
    have e1c : (va_up (va_up (va_up s (42 + 3 * m) (upd (upd (s (42 + 3 * m)) 2 x1) 3 x2)) (43 + 3 * m) (upd (upd (s (43 + 3 * m)) 0 x3) 1 x5)) (44 + 3 * m) (upd (upd (s (44 + 3 * m)) 0 x4) 1 x6)) 1 = s 1 := by simp (disch := omega) only [va_up_self, va_up_ne]
    rw [e1c, hm, nI_1]
    refine wr_f (i := 1) h23 (by omega) rfl (Nat.le_of_ble_eq_true rfl) rfl (fun f26 h26 => ?_)
    refine ⟨_, rd_f h26 (by omega) rfl rfl, rd_o (i := 10) h26 (by omega) rfl, sp_forget h26 (fun f28 h28 => ?_)⟩
    refine ⟨_, rd_f h28 (by omega) rfl rfl, _, rd_f (i := 1) h28 (by omega) rfl rfl, ?_⟩
    refine Q_eq (b := nI m) ?_ (g1 hm2 f28 ?_)
    · simp (disch := omega) only [va_up_self, va_up_ne]
      simp only [upd, if_true]
      exact nI_pred m
    · rw [e1c] at h28
      have e10 : (va_up (va_up (va_up (va_up s (42 + 3 * m) (upd (upd (s (42 + 3 * m)) 2 x1) 3 x2)) (43 + 3 * m) (upd (upd (s (43 + 3 * m)) 0 x3) 1 x5)) (44 + 3 * m) (upd (upd (s (44 + 3 * m)) 0 x4) 1 x6)) 1 (upd (s 1) 3 (nI (m + 1)))) 10 = s 10 := by simp (disch := omega) only [va_up_self, va_up_ne]
      rw [e10] at h28
      exact h28
  · refine g0 ?_
    rcases Nat.lt_or_ge m 12 with z | z
    · exact absurd (by rw [show (12 : Int32) = nI 12 from rfl]; exact nI_lt z (by omega)) hge
    · omega
end VR5
