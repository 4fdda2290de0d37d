/-! the looks keep the answers too -/
section AN2
variable {F : ac_hp} {ki : Nat → ClassId} {ad am : Nat → Nat} {s s' : Nat → Nat → Int32} {tl : Nat → Int64} {f : ac_hp}
variable {sz : Nat → Nat} {nn : Nat → Nat → Nat → Nat} {kk : Nat → Nat → Int32} {mc n sp : Nat}
theorem ck2_unions {Q : Int32 → ac_hp → Prop} (h : vr_R F ki ad s tl f) (hc : CI s sz nn kk mc n sp) (hq : ∀ v s' tl' f', SK2 s s' → CI s' sz nn kk mc n sp → vr_R F ki ad s' tl' f' → Q v f') : wp_X0_unions ki (ad 0) f Q := by
  obtain ⟨VM, mt, ml, mtm, A, TP, h1, h2, h3, h4, h5, h6, h7, h8, h9, h10⟩ := id hc
  exact sp_unions h h1 (fun _ => hq _ _ tl f SK2.rfl' hc h) (fun _ _ s' f' hr h' => hq _ s' tl f' (SK2.rfd hr) (CI_rfd hc hr) h') (fun _ _ s' f' hr h' => hq _ s' tl f' (SK2.rfd hr) (CI_rfd hc hr) h')
theorem ck2_union {x y : Int32} {Q : Int32 → ac_hp → Prop} (h : vr_R F ki ad s tl f) (hc : CI s sz nn kk mc n sp) (hq : ∀ v s' tl' f', SK2 s s' → CI s' sz nn kk mc n sp → vr_R F ki ad s' tl' f' → Q v f') : wp_X0_union ki (ad 0) x y f Q := by
  obtain ⟨VM, mt, ml, mtm, A, TP, h1, h2, h3, h4, h5, h6, h7, h8, h9, h10⟩ := id hc
  refine sp_union h h1 (fun _ => hq _ _ tl f SK2.rfl' hc h) (fun _ _ => hq _ _ tl f SK2.rfl' hc h) (fun _ _ _ _ s' f' hr h' => hq _ s' tl f' (SK2.rfd hr) (CI_rfd hc hr) h') (fun _ _ _ _ _ s' f' hr h' => hq _ s' tl f' (SK2.rfd hr) (CI_rfd hc hr) h') (fun u k _ _ hl hu _ s1 f1 hr hv => ⟨fun _ => hq _ s1 tl f1 (SK2.rfd hr) (CI_rfd hc hr) hv, fun _ => ?_⟩)
  obtain ⟨m, t, c, hm⟩ := ci_uok hc hr hl hu
  exact ⟨m, t, c, hm, fun g ct w f' _ h' => ⟨fun _ => hq _ _ tl f' ((SK2.rfd hr).trans SK2.sl) (CI_sl (CI_rfd hc hr)) h', fun _ => hq _ _ tl f' ((SK2.rfd hr).trans SK2.sl) (CI_sl (CI_rfd hc hr)) h'⟩⟩
theorem ck2_estimate {x : Int32} {Q : Int32 → ac_hp → Prop} (h : vr_R F ki ad s tl f) (hc : CI s sz nn kk mc n sp) (hq : ∀ v s' tl' f', SK2 s s' → CI s' sz nn kk mc n sp → vr_R F ki ad s' tl' f' → Q v f') : wp_X0_estimate ki (ad 0) x f Q := by
  obtain ⟨VM, mt, ml, mtm, A, TP, h1, h2, h3, h4, h5, h6, h7, h8, h9, h10⟩ := id hc
  refine sp_estimate h h1 (fun _ => hq _ _ tl f SK2.rfl' hc h) (fun _ _ _ s' f' hr h' => hq _ s' tl f' (SK2.rfd hr) (CI_rfd hc hr) h') (fun _ _ _ _ s' f' hr h' => hq _ s' tl f' (SK2.rfd hr) (CI_rfd hc hr) h') (fun u _ hl hu _ s1 f1 hr hv => ?_)
  obtain ⟨m, t, c, hm⟩ := ci_uok hc hr hl hu
  exact ⟨m, t, c, sz, hm, fun k hk => by rw [hr.1 _ (by omega)]; exact (h2.1 k hk).2, fun g ct w f' _ h' => hq _ _ tl f' ((SK2.rfd hr).trans SK2.sl) (CI_sl (CI_rfd hc hr)) h'⟩
theorem rk2_unions {Q : Int32 → ac_hp → Prop} (h : mr_R F ki am s f) (hi : RI s sz nn kk mc n sp) (hq : ∀ v s' f', SC2 s s' → RI s' sz nn kk mc n sp → mr_R F ki am s' f' → Q v f') : wp_X9_unions ki (am 0) f Q := by
  unfold wp_X9_unions
  refine wm_0 h (fun f1 h => ?_)
  have h : mr_R F ki am (th0 s) f1 := h
  have hi1 := RI_t0 hi
  refine ⟨_, rm_f h rfl, fun hne => ⟨rm_o h, ?_⟩, fun _ => hq _ _ f1 SC2.th0 hi1 h⟩
  rw [hi1.1.2.2.2.1.2.1] at hne
  have hn : 0 < n := by
    rcases Nat.eq_zero_or_pos n with z | z
    · rw [z] at hne; exact absurd nI_0 hne
    · exact z
  refine rs_make h hi1.1 hn (fun v U s' f' hsc hU hU1 _ _ hm h23 h19 h' => ⟨fun _ => hq _ s' f' (SC2.th0.trans ⟨hsc, h23, h19⟩) (hi1.sc hsc h23) h', fun _ => ⟨_, rm_f h' rfl, hq _ s' f' (SC2.th0.trans ⟨hsc, h23, h19⟩) (hi1.sc hsc h23) h'⟩⟩)
theorem rk2_union {x y : Int32} {Q : Int32 → ac_hp → Prop} (h : mr_R F ki am s f) (hi : RI s sz nn kk mc n sp) (hq : ∀ v s' f', SC2 s s' → RI s' sz nn kk mc n sp → mr_R F ki am s' f' → Q v f') : wp_X9_union ki (am 0) x y f Q := by
  unfold wp_X9_union
  refine wm_0 h (fun f1 h => ?_)
  have h : mr_R F ki am (th0 s) f1 := h
  have hi1 := RI_t0 hi
  refine ⟨_, rm_f h rfl, fun hne => ⟨rm_o h, ?_⟩, fun _ => hq _ _ f1 SC2.th0 hi1 h⟩
  rw [hi1.1.2.2.2.1.2.1] at hne
  have hn : 0 < n := by
    rcases Nat.eq_zero_or_pos n with z | z
    · rw [z] at hne; exact absurd nI_0 hne
    · exact z
  refine rs_make h hi1.1 hn (fun v U s' f' hsc hU hU1 hv0 hv1 hm h23 h19 h' => ⟨fun hv => ⟨_, rm_f h' rfl, ?_⟩, fun _ => hq _ s' f' (SC2.th0.trans ⟨hsc, h23, h19⟩) (hi1.sc hsc h23) h'⟩)
  have hq' : ∀ v, Q v f' := fun v => hq v s' f' (SC2.th0.trans ⟨hsc, h23, h19⟩) (hi1.sc hsc h23) h'
  have hU2 : U ≤ 150 := by
    rcases Nat.lt_or_ge 150 U with z | z
    · exact absurd (hv0 z) hv
    · exact z
  rw [hU]
  refine pm_inN (by omega) (fun i hi e1 => ⟨fun z => absurd z ne10, fun _ => ?_⟩) (fun _ => ⟨fun _ => hq' _, fun z => absurd rfl z⟩)
  refine pm_in 9 (by omega) (by decide) (fun k hk e2 => ⟨fun z => absurd z ne10, fun _ => ?_⟩) (fun _ => ⟨fun _ => hq' _, fun z => absurd rfl z⟩)
  subst e1 e2
  have go : ((¬ nI k = 8 → ((4 ≤ nI k → ∃ o10 : Nat, hr_f f' (am 0) 9 18 (.ref o10) ∧ ∃ v11 : Int32, hr_i (ki 0) f' o10 (((4 * nI i) + nI k) - 4) v11 ∧ Q v11 f') ∧ (¬ 4 ≤ nI k → ∃ o12 : Nat, hr_f f' (am 0) 9 17 (.ref o12) ∧ ∃ v13 : Int32, hr_i (ki 0) f' o12 ((4 * nI i) + nI k) v13 ∧ Q v13 f'))) ∧ (nI k = 8 → ∃ o14 : Nat, hr_f f' (am 0) 9 19 (.ref o14) ∧ ∃ v15 : Int32, hr_i (ki 0) f' o14 (nI i) v15 ∧ Q v15 f')) := by
    refine ⟨fun hk8 => ⟨fun h4 => ?_, fun h4 => ?_⟩, fun _ => ⟨_, rm_f h' rfl, _, rm_i (i := 15) (j := i) h' (by omega) rfl rfl (by omega) (by omega), hq' _⟩⟩
    · have hk4 : 4 ≤ k := (nI_leI (a := 4) (by omega) (by omega)).mp h4
      have hk9 : k ≠ 8 := fun z => hk8 (by rw [z]; rfl)
      exact ⟨_, rm_f h' rfl, _, rm_i (i := 14) (j := 4 * i + k - 4) h' (by omega) rfl (by rw [pm_41, show (4 : Int32) = nI 4 from rfl, pk_sub (by omega)]) (by omega) (by omega), hq' _⟩
    · have hk4 : k < 4 := by
        rcases Nat.lt_or_ge k 4 with z | z
        · exact z
        · exact absurd (nI_le (a := 4) z (by omega)) h4
      exact ⟨_, rm_f h' rfl, _, rm_i (i := 13) (j := 4 * i + k) h' (by omega) rfl pm_41 (by omega) (by omega), hq' _⟩
  exact ⟨fun _ => go, fun _ => ⟨_, rm_f h' rfl, fun _ => go, fun _ => hq' _⟩⟩
theorem rk2_estimate {x : Int32} {Q : Int32 → ac_hp → Prop} (h : mr_R F ki am s f) (hi : RI s sz nn kk mc n sp) (hq : ∀ v s' f', SC2 s s' → RI s' sz nn kk mc n sp → mr_R F ki am s' f' → Q v f') : wp_X9_estimate ki (am 0) x f Q := by
  unfold wp_X9_estimate
  refine wm_0 h (fun f1 h => ?_)
  have h : mr_R F ki am (th0 s) f1 := h
  have hi1 := RI_t0 hi
  refine ⟨_, rm_f h rfl, fun hne => ⟨rm_o h, ?_⟩, fun _ => hq _ _ f1 SC2.th0 hi1 h⟩
  rw [hi1.1.2.2.2.1.2.1] at hne
  have hn : 0 < n := by
    rcases Nat.eq_zero_or_pos n with z | z
    · rw [z] at hne; exact absurd nI_0 hne
    · exact z
  refine rs_make h hi1.1 hn (fun v U s' f' hsc hU hU1 hv0 hv1 hm h23 h19 h' => ⟨fun hv => ⟨_, rm_f h' rfl, ?_⟩, fun _ => hq _ s' f' (SC2.th0.trans ⟨hsc, h23, h19⟩) (hi1.sc hsc h23) h'⟩)
  have hq' : ∀ v, Q v f' := fun v => hq v s' f' (SC2.th0.trans ⟨hsc, h23, h19⟩) (hi1.sc hsc h23) h'
  have hU2 : U ≤ 150 := by
    rcases Nat.lt_or_ge 150 U with z | z
    · exact absurd (hv0 z) hv
    · exact z
  rw [hU]
  refine pm_inN (by omega) (fun i hi e1 => ⟨fun _ => ?_, fun z => absurd z ne10⟩) (fun _ => ⟨fun z => absurd rfl z, fun _ => hq' _⟩)
  subst e1
  obtain ⟨hci, ct, hg, hz⟩ := hm i hi
  have hct := hg.1
  have hx' := hi1.1.sc hsc
  have hn4 := hx'.2.2.2.1.1
  refine ⟨ct + 1, ?_⟩
  have key : ∀ (d k : Nat) (y : Int32), d + k = ct → wp_X9_estimate_L44 ki (am 0) (nI i) (fun y17 f18 => Q y17 f18) (d + 1) y (nI k) f' := by
    intro d
    induction d with
    | zero =>
      intro k y hk
      rw [wp_X9_estimate_L44]
      have r15 := rm_i (i := 15) (j := i) (c := ki 0) (n := 151) (x := nI i) h' (by omega) rfl rfl (by omega) (by omega)
      rw [hz] at r15
      exact ⟨_, rm_f h' rfl, _, r15, fun _ => hq' _, fun z => absurd (nI_le (by omega) (by omega)) z⟩
    | succ d ih =>
      intro k y hk
      rw [wp_X9_estimate_L44]
      have r15 := rm_i (i := 15) (j := i) (c := ki 0) (n := 151) (x := nI i) h' (by omega) rfl rfl (by omega) (by omega)
      rw [hz] at r15
      refine ⟨_, rm_f h' rfl, _, r15, fun z => absurd z (nI_ge (by omega) (by omega)), fun _ => ⟨_, rm_f h' rfl, rm_o h', rs_table h' hx' (by omega) hci hg (by omega) (fun t ht => ⟨_, rm_i (i := 2) (j := t) h' (by omega) rfl rfl ht (by omega), fun v14 e14 v15 e15 => ?_⟩)⟩⟩
      rw [e15, nI_1]
      exact ih (k + 1) _ (by omega)
  exact key ct 0 1 (by omega)
theorem rk2_value {x y : Int32} {Q : Int32 → ac_hp → Prop} (h : mr_R F ki am s f) (hi : RI s sz nn kk mc n sp) (hq : ∀ v s' f', SC2 s s' → RI s' sz nn kk mc n sp → mr_R F ki am s' f' → Q v f') : wp_X9_value ki (am 0) x y f Q := by
  unfold wp_X9_value
  refine wm_0 h (fun f1 h => ?_)
  have h : mr_R F ki am (th0 s) f1 := h
  have hi1 := RI_t0 hi
  obtain ⟨na, hna, e23⟩ := hi1.2
  have hq' : ∀ v, Q v f1 := fun v => hq v _ f1 SC2.th0 hi1 h
  refine ⟨_, rm_f h rfl, ?_⟩
  rw [e23]
  refine pm_inN (by omega) (fun i hi2 e1 => ⟨fun z => absurd z ne10, fun _ => ?_⟩) (fun _ => ⟨fun _ => hq' _, fun z => absurd rfl z⟩)
  refine pm_in 6 (by omega) (by decide) (fun k hk e2 => ⟨fun _ => ?_, fun z => absurd z ne10⟩) (fun _ => ⟨fun z => absurd rfl z, fun _ => hq' _⟩)
  subst e1 e2
  refine ⟨_, rm_f h rfl, _, rm_i (i := 19) (j := k) h (by omega) rfl rfl (by omega) (by omega), fun _ => ⟨_, rm_f h rfl, _, rm_i (i := 20) (j := 6 * i + k) h (by omega) rfl (by rw [show (6 : Int32) = nI 6 from rfl, pk_mul, nI_add]) (by omega) (by omega), hq' _⟩, fun _ => wm_0 h (fun f2 h2 => hq _ _ f2 (SC2.th0.trans SC2.f0) (hi1.sc (SC.fld (by omega) (by omega) (by omega)) (by rw [va_up_self, pk_un (by omega)])) h2)⟩
theorem rk2_found {x y : Int32} {Q : Int32 → ac_hp → Prop} (h : mr_R F ki am s f) (hi : RI s sz nn kk mc n sp) (hq : ∀ v s' f', SC2 s s' → RI s' sz nn kk mc n sp → mr_R F ki am s' f' → Q v f') : wp_X9_found ki (am 0) x y f Q := by
  unfold wp_X9_found
  refine wm_0 h (fun f1 h => ?_)
  have h : mr_R F ki am (th0 s) f1 := h
  have hi1 := RI_t0 hi
  obtain ⟨na, hna, e23⟩ := hi1.2
  have hq' : ∀ v, Q v f1 := fun v => hq v _ f1 SC2.th0 hi1 h
  refine ⟨_, rm_f h rfl, ?_⟩
  rw [e23]
  refine pm_inN (by omega) (fun i hi2 e1 => ⟨fun z => absurd z ne10, fun _ => ?_⟩) (fun _ => ⟨fun _ => hq' _, fun z => absurd rfl z⟩)
  refine pm_in 2 (by omega) (by decide) (fun k hk e2 => ⟨fun _ => ?_, fun z => absurd z ne10⟩) (fun _ => ⟨fun z => absurd rfl z, fun _ => hq' _⟩)
  subst e1
  exact ⟨fun _ => ⟨_, rm_f h rfl, _, rm_i (i := 22) (j := i) h (by omega) rfl rfl (by omega) (by omega), hq' _⟩, fun _ => ⟨_, rm_f h rfl, _, rm_i (i := 21) (j := i) h (by omega) rfl rfl (by omega) (by omega), hq' _⟩⟩
end AN2
