/-! run, value, found keep the class's state -/
section IV4
variable {F : ac_hp} {ki : Nat → ClassId} {ad : Nat → Nat} {s : Nat → Nat → Int32} {tl : Nat → Int64} {f : ac_hp}
variable {sz : Nat → Nat} {nn : Nat → Nat → Nat → Nat} {kk : Nat → Nat → Int32} {mc n sp : Nat}
theorem aA_00 {s : Nat → Nat → Int32} (h : s 16 4 = 0) : aA s A00 := ⟨fun _ => 0, by unfold A00; exact Nat.zero_le _, h.trans nI_0.symm, fun i hi => absurd hi (by simp [A00]), fun i j hi => absurd hi (by simp [A00]), fun i hi => absurd hi (by simp [A00]), fun i j _ hj => absurd hj (by simp [A00])⟩
theorem CI_16 {VM : Nat} (h : CI s sz nn kk mc n sp) (hV : VM < 64) : CI (va_up s 16 (upd (upd (upd (s 16) 4 0) 5 (nI VM)) 6 0)) sz nn kk mc n sp := by
  obtain ⟨VM0, mt, ml, mtm, A, TP, h1, h2, h3, h4, h5, h6, h7, h8, h9, h10⟩ := h
  have e : ∀ j, j ≠ 16 → va_up s 16 (upd (upd (upd (s 16) 4 0) 5 (nI VM)) 6 0) j = s j := fun j q1 => va_up_ne _ _ q1
  exact ⟨VM, mt, ml, mtm, A00, TP, qok_16 h1, tbs_c h2 (fun k _ _ => e k (by omega)), fun t' c' ht' hc' => by rw [e _ (by omega)]; exact h3 t' c' ht' hc', mps_c h4 (fun i hi => e i (by omega)), aA_00 (by rw [va_up_self]; simp [upd]), hV, by rw [va_up_self]; simp [upd], by rw [e 28 (by omega)]; exact h8, h9, by rw [e 5 (by omega)]; exact h10⟩
theorem CI_find {s2 s3 : Nat → Nat → Int32} {A : AS} {VM : Nat} {TP : Nat → Nat} (h : CI s2 sz nn kk mc n sp) (e : keeps s2 s3) (hV : VM < 64) (h5 : s3 16 5 = nI VM) (hA : aA s3 A) (hT : ∀ v, v < 6 → TP v < 6 ∧ s3 28 v = nI (TP v)) : CI s3 sz nn kk mc n sp := by
  obtain ⟨VM0, mt, ml, mtm, A0, TP0, h1, h2, h3, h4, -, -, -, -, h9, h10⟩ := h
  exact ⟨VM, mt, ml, mtm, A, TP, qok_c h1 (by rw [e 1 (by omega)]) (by rw [e 5 (by omega)]) (e 6 (by omega)) (e 7 (by omega)) (e 10 (by omega)) (e 11 (by omega)) (fun i hi => e i (by omega)), tbs_c h2 (fun k _ _ => e k (by omega)), fun t' c' ht' hc' => by rw [e _ (by omega)]; exact h3 t' c' ht' hc', mps_c h4 (fun i hi => e i (by omega)), hA, hV, h5, hT, h9, by rw [e 5 (by omega)]; exact h10⟩
theorem CI_none (h : CI s sz nn kk mc n sp) : CI (va_up s 16 (upd (s 16) 4 0)) sz nn kk mc n sp := by
  obtain ⟨VM0, mt, ml, mtm, A, TP, h1, h2, h3, h4, h5, h6, h7, h8, h9, h10⟩ := h
  have e : ∀ j, j ≠ 16 → va_up s 16 (upd (s 16) 4 0) j = s j := fun j q1 => va_up_ne _ _ q1
  exact ⟨VM0, mt, ml, mtm, A00, TP, qok_16 h1, tbs_c h2 (fun k _ _ => e k (by omega)), fun t' c' ht' hc' => by rw [e _ (by omega)]; exact h3 t' c' ht' hc', mps_c h4 (fun i hi => e i (by omega)), aA_00 (by rw [va_up_self]; simp [upd]), h6, by rw [va_up_self]; simp [upd, h7], by rw [e 28 (by omega)]; exact h8, h9, by rw [e 5 (by omega)]; exact h10⟩
theorem cs_run {Q : Int32 → ac_hp → Prop} (h : vr_R F ki ad s tl f) (hc : CI s sz nn kk mc n sp) (hq : ∀ v s' tl' f', CI s' sz nn kk mc n sp → vr_R F ki ad s' tl' f' → Q v f') : wp_X0_run ki (ad 0) f Q := by
  obtain ⟨VM, mt, ml, mtm, A, TP, h1, h2, h3, h4, h5, h6, h7, h8, h9, h10⟩ := id hc
  refine sp_run (mm := fun u => unm s n mc u) (tt := fun u a => mt (unm s n mc u a)) (cc := fun u a => ml (unm s n mc u a)) (tmm := fun u a => mtm (unm s n mc u a)) h h1 h2 h8 (fun s2 e hk hl u hu => ?_) (fun VM' f' hV _ _ h' => hq _ _ tl f' (CI_16 hc hV) h') (fun VM' s2 f' hV _ _ _ hr h' => hq _ s2 tl f' (CI_rfd (CI_16 hc hV) hr) h') (fun VM' s2 s3 f' A' TP' hV _ _ _ hr hkp e5 _ hA _ hT h' => hq _ s3 tl f' (CI_find (CI_rfd (CI_16 hc hV) hr) hkp hV e5 hA hT) h') (fun VM' s2 s3 f' A' TP' hV _ _ _ hr hkp e5 _ hA _ hT h' => hq _ _ tl f' (CI_none (CI_find (CI_rfd (CI_16 hc hV) hr) hkp hV e5 hA hT)) h')
  have eu : unions s2 n mc = unions s n mc := unions_s2 (fun i hi => e i (by omega))
  have e2 : ∀ a, unm s2 n mc u a = unm s n mc u a := fun a => by unfold unm; rw [eu]
  have := ud_of (u := u) (mps_c h4 (fun i hi => e i (by omega))) hk (by rw [eu]; exact hl) (by rw [eu]; exact hu)
  simp only [show unm s2 n mc u = unm s n mc u from funext e2] at this
  exact this
theorem cs_found {x y : Int32} {Q : Int32 → ac_hp → Prop} (h : vr_R F ki ad s tl f) (hc : CI s sz nn kk mc n sp) (hq : ∀ v, Q v f) : wp_X0_found ki (ad 0) x y f Q := by
  obtain ⟨VM, mt, ml, mtm, A, TP, h1, h2, h3, h4, ⟨o, h5⟩, h6, h7, h8, h9, h10⟩ := id hc
  exact sp_found h h5 (fun _ => hq _) (fun _ _ _ _ => hq _) (fun _ _ _ _ => hq _)
theorem cs_value {x y : Int32} (h : vr_R F ki ad s tl f) (hc : CI s sz nn kk mc n sp) : (∀ Q : Int32 → ac_hp → Prop, (∀ v, Q v f) → wp_X0_value ki (ad 0) x y f Q) ∨ thr_X0 f (ad 0) x y := by
  obtain ⟨VM, mt, ml, mtm, A, TP, h1, h2, h3, h4, ⟨o, h5⟩, h6, h7, h8, h9, h10⟩ := id hc
  by_cases hno : ∀ a b, a < A.1 → x = nI a → b < 6 → y = nI b → VM.testBit b = true
  · exact Or.inl (fun Q hq => sp_value h h5 h6 h7 (fun _ => hq _) hno (fun _ _ _ _ _ _ _ => hq _))
  · refine Or.inr ?_
    obtain ⟨a, ha⟩ := Classical.not_forall.mp hno
    obtain ⟨b, hb⟩ := Classical.not_forall.mp ha
    simp only [Classical.not_imp] at hb
    obtain ⟨hb1, hb2, hb3, hb4, hb5⟩ := hb
    have hA := h5.1
    refine ⟨ad 16, nI A.1, nI VM, rd_f (i := 0) h (by omega) rfl rfl, ?_, ?_, ?_, ?_, ?_, ?_, ?_⟩
    · rw [← h5.2.1]; exact rd_f (i := 16) h (by omega) rfl rfl
    · rw [← h7]; exact rd_f (i := 16) h (by omega) rfl rfl
    · rw [hb2]; exact nI_pos (by omega)
    · rw [hb2]; exact nI_ge hb1 (by omega)
    · rw [hb4]; exact nI_pos (by omega)
    · rw [hb4]; exact nI_ge (b := 6) hb3 (by omega)
    · rw [hb4]
      cases hq : VM.testBit b with
      | true => exact absurd hq hb5
      | false => exact (bt_has VM h6 b hb3).mpr hq
end IV4
