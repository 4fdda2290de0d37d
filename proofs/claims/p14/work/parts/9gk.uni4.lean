/-! unions answers alike -/
section UN4
variable {F : ac_hp} {ki : Nat → ClassId} {am : Nat → Nat} {s : Nat → Nat → Int32} {f : ac_hp}
variable {sz : Nat → Nat} {nn : Nat → Nat → Nat → Nat} {kk : Nat → Nat → Int32} {mc n sp : Nat} {mt pr : Nat → Nat} {ml mtm : Nat → Nat → Nat}
theorem rj_unions {Q : Int32 → ac_hp → Prop} (h : mr_R F ki am s f) (hi : RI s sz nn kk mc n sp) (hr : RM s mc mt pr ml mtm)
    (h0 : n = 0 → ∀ s' f', SC s s' → RI s' sz nn kk mc n sp → mr_R F ki am s' f' → Q (-1) f')
    (h1 : 0 < n → 150 < (mL s mc n (mc ^ n)).length → ∀ s' f', SC s s' → RI s' sz nn kk mc n sp → mr_R F ki am s' f' → Q (-3) f')
    (h2 : 0 < n → (mL s mc n (mc ^ n)).length ≤ 150 → ∀ s' f', SC s s' → RI s' sz nn kk mc n sp → mr_R F ki am s' f' → Q (nI (mL s mc n (mc ^ n)).length) f') : wp_X9_unions ki (am 0) f Q := by
  unfold wp_X9_unions
  refine wm_0 h (fun f1 h => ?_)
  have h : mr_R F ki am (th0 s) f1 := h
  have hi1 := RI_t0 hi
  have eL : mL (th0 s) mc n (mc ^ n) = mL s mc n (mc ^ n) := by unfold mL; simp only [rst_c (SC.th0 (s := s))]
  refine ⟨_, rm_f h rfl, fun hne => ⟨rm_o h, ?_⟩, fun hz => h0 ?_ _ f1 SC.th0 hi1 h⟩
  · rw [hi1.1.2.2.2.1.2.1] at hne
    have hn : 0 < n := by
      rcases Nat.eq_zero_or_pos n with z | z
      · rw [z] at hne; exact absurd nI_0 hne
      · exact z
    refine rj_make h hi1.1 (hr.sc SC.th0) hn (fun v U s' f' hsc hU hU1 hv0 hv1 hm hF h23 _ h' => ⟨fun hv => ?_, fun hv => ⟨_, rm_f h' rfl, ?_⟩⟩)
    · have hU2 : 150 < U := by
        rcases Nat.lt_or_ge 150 U with z | z
        · exact z
        · exact absurd ((hv1 z).symm.trans hv) ne10
      exact h1 hn (by rw [← eL]; exact hF.2 hU2) s' f' (SC.th0.trans hsc) (hi1.sc hsc h23) h'
    · have hU2 : U ≤ 150 := by
        rcases Nat.lt_or_ge 150 U with z | z
        · exact absurd (hv0 z) hv
        · exact z
      have e := (hF.1 hU2).1
      rw [eL] at e
      rw [hU, e]
      exact h2 hn (by omega) s' f' (SC.th0.trans hsc) (hi1.sc hsc h23) h'
  · rw [hi1.1.2.2.2.1.2.1] at hz
    have := hi1.1.2.2.2.1.1
    exact (nI_eq (b := 0) (by omega) (by omega)).mp (hz.trans nI_0.symm)
end UN4
