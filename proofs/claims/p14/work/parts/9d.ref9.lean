/-! the reference: run -/
section R9
variable {F : ac_hp} {ki : Nat → ClassId} {am : Nat → Nat} {s : Nat → Nat → Int32} {f : ac_hp}
variable {sz : Nat → Nat} {nn : Nat → Nat → Nat → Nat} {kk : Nat → Nat → Int32} {mc n sp : Nat}
theorem rs_run {Q : Int32 → ac_hp → Prop} (h : mr_R F ki am s f) (hi : RI s sz nn kk mc n sp) (hq : ∀ v s' f', RI s' sz nn kk mc n sp → mr_R F ki am s' f' → Q v f') : wp_X9_run ki (am 0) f Q := by
  unfold wp_X9_run
  refine wm_0 h (fun f1 h1 => wm_23 h1 (fun f2 h2 => ?_))
  have c1 : SC s (va_up s 0 (upd (s 0) 0 0)) := SC.fld (by omega) (by omega) (by omega)
  generalize va_up s 0 (upd (s 0) 0 0) = s1 at h1 h2 c1
  have c2 := c1.trans (SC.fld (s := s1) (k := 23) (v := 0) (by omega) (by omega) (by omega))
  have e2 : va_up s1 0 (upd (s1 0) 23 0) 0 23 = nI 0 := by rw [va_up_self, upd_self]; rfl
  generalize va_up s1 0 (upd (s1 0) 23 0) = s2 at h2 c2 e2
  have x2 := hi.1.sc c2
  have i2 : RI s2 sz nn kk mc n sp := ⟨x2, 0, by omega, e2⟩
  obtain ⟨h7, h8, h9⟩ := id x2.2.2.2.1
  refine ⟨_, rm_f h2 rfl, fun hne => ⟨rm_o h2, ?_⟩, fun _ => hq _ s2 f2 i2 h2⟩
  rw [h8] at hne
  have hn : 0 < n := by
    rcases Nat.eq_zero_or_pos n with z | z
    · rw [z] at hne; exact absurd nI_0 hne
    · exact z
  refine rs_make h2 x2 hn (fun v U s3 f3 c3 hU hU1 hv0 hv1 hm h23 _ h3 => ⟨fun hv => ⟨7, ?_⟩, fun _ => hq _ s3 f3 (i2.sc c3 h23) h3⟩)
  have hU2 : U ≤ 150 := by
    rcases Nat.lt_or_ge 150 U with z | z
    · exact absurd (hv0 z) hv
    · exact z
  have x3 := x2.sc c3
  have e3 : s3 0 23 = nI 0 := h23.trans e2
  have L93 : ∀ (E : ac_hp → Prop), (∀ s' f' na', FP s3 s' → na' ≤ 301 → s' 0 23 = nI na' → mr_R F ki am s' f' → E f') → ∀ (d u na : Nat) (s4 : Nat → Nat → Int32) (f4 : ac_hp), d + u = U → FP s3 s4 → na ≤ 301 → s4 0 23 = nI na → mr_R F ki am s4 f4 → wp_X9_run_L93 ki (am 0) E (d + 1) (nI u) f4 := by
    intro E hE d
    induction d with
    | zero =>
      intro u na s4 f4 hu k4 hna e4 h4
      rw [wp_X9_run_L93]
      refine ⟨_, rm_f h4 rfl, ?_⟩
      rw [k4.2 16 (by omega), hU]
      exact ⟨fun _ => hE s4 f4 na k4 hna e4 h4, fun z => absurd (nI_le (by omega) (by omega)) z⟩
    | succ d ih =>
      intro u na s4 f4 hu k4 hna e4 h4
      rw [wp_X9_run_L93]
      refine ⟨_, rm_f h4 rfl, ?_⟩
      rw [k4.2 16 (by omega), hU]
      obtain ⟨hcu, ct, hg, hz⟩ := hm u (by omega)
      refine ⟨fun z => absurd z (nI_ge (by omega) (by omega)), fun _ => ⟨_, rm_f h4 rfl, fun _ => hE s4 f4 na k4 hna e4 h4, fun _ => ⟨rm_o h4, rs_find (ct := ct) h4 (x3.sc k4.sc) hn (by omega) (fun a ha => by rw [k4.1 13 (by omega) (by omega)]; exact hcu a ha) (by rw [k4.1 14 (by omega) (by omega)]; exact hg) (by rw [k4.1 15 (by omega) (by omega)]; exact hz) hna e4 (fun s5 f5 na5 k5 hna5 e5 h5 v25 e25 => ?_)⟩⟩⟩
      rw [e25, nI_1]
      exact ih (u + 1) na5 s5 f5 (by omega) (k4.trans k5) hna5 e5 h5
  have L52 : ∀ (E : ac_hp → Prop), (∀ s' f', FP s3 s' → s' 0 23 = nI 0 → mr_R F ki am s' f' → E f') → ∀ (d j : Nat) (w : Nat → Int32) (f4 : ac_hp), d + j = 2 * n → mr_R F ki am (va_up s3 19 w) f4 → wp_X9_run_L52 ki (am 0) E (d + 1) (nI j) f4 := by
    intro E hE d
    have fin : ∀ w f4, mr_R F ki am (va_up s3 19 w) f4 → E f4 := fun w f4 h4 => hE _ f4 (FP.cell (by omega)) (by rw [va_up_ne _ _ (by omega)]; exact e3) h4
    induction d with
    | zero =>
      intro j w f4 hj h4
      rw [wp_X9_run_L52]
      refine ⟨_, rm_f h4 rfl, ?_⟩
      rw [va_up_ne _ _ (by omega), x3.2.2.2.1.2.1, pm_2]
      exact ⟨fun _ => fin w f4 h4, fun z => absurd (nI_le (by omega) (by omega)) z⟩
    | succ d ih =>
      intro j w f4 hj h4
      rw [wp_X9_run_L52]
      refine ⟨_, rm_f h4 rfl, ?_⟩
      rw [va_up_ne _ _ (by omega), x3.2.2.2.1.2.1, pm_2]
      have r9 := rm_i (i := 9) (j := j) (c := ki 0) (n := 8) (x := nI j) h4 (by omega) rfl rfl (by omega) (by omega)
      rw [va_up_ne _ _ (by omega)] at r9
      refine ⟨fun z => absurd z (nI_ge (by omega) (by omega)), fun _ => ⟨_, rm_f h4 rfl, _, r9, fun _ v14 e14 => ?_, fun hlt => ⟨_, rm_f h4 rfl, _, rm_f h4 rfl, _, r9, ?_⟩⟩⟩
      · rw [e14, nI_1]
        exact ih (j + 1) w f4 (by omega) h4
      · rcases pl_cases (x3.2.2.2.1.2.2 j (by omega)) with ⟨c, hc1, hc2⟩ | ⟨v, hv1, hv2⟩
        · rw [hc2] at hlt; exact absurd (nI_le (a := 0) (by omega) (by omega)) hlt
        · rw [hv2, pm_neg]
          refine wm_i (i := 19) (j := v) h4 (by omega) (fun _ => rfl) rfl (by omega) (by omega) (fun f5 h5 v19 e19 => ?_)
          rw [bx_uu] at h5
          rw [e19, nI_1]
          exact ih (j + 1) _ f5 (by omega) h5
  have L31 : ∀ (E : ac_hp → Prop), (∀ w f', mr_R F ki am (va_up s3 19 w) f' → E f') → ∀ (d v : Nat) (w : Nat → Int32) (f4 : ac_hp), d + v = 6 → mr_R F ki am (va_up s3 19 w) f4 → wp_X9_run_L31 ki (am 0) E (d + 1) (nI v) f4 := by
    intro E hE d
    induction d with
    | zero =>
      intro v w f4 hv h4
      rw [wp_X9_run_L31]
      exact ⟨fun _ => hE w f4 h4, fun z => absurd (nI_le (a := 6) (by omega) (by omega)) z⟩
    | succ d ih =>
      intro v w f4 hv h4
      rw [wp_X9_run_L31]
      refine ⟨fun z => absurd z (nI_ge (b := 6) (by omega) (by omega)), fun _ => ⟨_, rm_f h4 rfl, wm_i (i := 19) (j := v) h4 (by omega) (fun _ => rfl) rfl (by omega) (by omega) (fun f5 h5 v8 e8 => ?_)⟩⟩
      rw [bx_uu] at h5
      rw [e8, nI_1]
      exact ih (v + 1) _ f5 (by omega) h5
  refine L31 _ (fun w f4 h4 => ⟨2 * n + 1, L52 _ (fun s5 f5 k5 e5 h5 => ⟨U + 1, L93 _ (fun s6 f6 na6 k6 hna6 e6 h6 => ?_) U 0 0 s5 f5 (by omega) k5 (by omega) e5 h5⟩) (2 * n) 0 w f4 (by omega) h4⟩) 6 0 (s3 19) f3 rfl (mr_eq h3 (va_up_id 19).symm)
  have x6 := x3.sc k6.sc
  have r23 : hr_f f6 (am 0) 9 23 (.int (nI na6)) := by rw [← e6]; exact rm_f h6 rfl
  refine ⟨_, r23, fun hle => ⟨_, r23, hq _ s6 f6 ⟨x6, na6, ?_, e6⟩ h6⟩, fun _ => wm_23 h6 (fun f7 h7 => hq _ _ f7 ⟨x6.sc (SC.fld (by omega) (by omega) (by omega)), 0, by omega, by rw [va_up_self, upd_self]; rfl⟩ h7)⟩
  exact (nI_leI (b := 300) (by omega) (by omega)).mp hle
end R9
