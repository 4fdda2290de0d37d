/-! THE TRIPLES: cell 4, of longs -/
section VR36
variable {F : ac_hp} {ki : Nat → ClassId} {ad : Nat → Nat} {s : Nat → Nat → Int32} {tl : Nat → Int64} {f : ac_hp}
theorem vr_upl {tl' : Nat → Int64} (h : vr_R F ki ad s tl f) : vr_R F ki ad s tl' (ac_up f (ad 4) (.inl (ki 2, 240, .inr (.inl tl')))) := by
  refine ⟨fun j hj => ?_, h.2.1, fun q hq => by rw [ac_up_ne _ _ (fun z => hq 4 (by omega) z.symm)]; exact h.2.2 q hq⟩
  by_cases hj4 : j = 4
  · subst hj4; rw [ac_up_self]; rfl
  · rw [ac_up_ne _ _ (fun q => hj4 (h.2.1 j 4 hj (by omega) q)), h.1 j hj, lay_congr (tl := tl) (tl' := tl') rfl (fun e => absurd e hj4)]
theorem rd_l {j : Nat} {x : Int32} (h : vr_R F ki ad s tl f) (hx : x = nI j) (hj : j < 240) : hr_l (ki 2) f (ad 4) x (tl j) := by
  subst hx
  exact ⟨240, tl, by rw [h.1 4 (by omega)]; rfl, vp_in_nI hj (by omega), by rw [nI_clamp (by omega)]⟩
theorem wr_l {j : Nat} {x : Int32} {v : Int64} {N : ac_hp → Prop} (h : vr_R F ki ad s tl f) (hx : x = nI j) (hj : j < 240) (kk : ∀ f', vr_R F ki ad s (vp_updL tl j v) f' → N f') : ∃ f', hw_l (ki 2) f (ad 4) x v f' ∧ N f' := by
  subst hx
  refine ⟨_, ⟨240, tl, by rw [h.1 4 (by omega)]; rfl, vp_in_nI hj (by omega), rfl⟩, ?_⟩
  rw [nI_clamp (by omega)]
  exact kk _ (vr_upl h)
theorem wr_d {sp dp n : Nat} {xs xd xn : Int32} {N : ac_hp → Prop} (h : vr_R F ki ad s tl f) (h1 : xs = nI sp) (h2 : xd = nI dp) (h3 : xn = nI n) (h4 : sp + n ≤ 240) (h5 : dp + n ≤ 240) (kk : ∀ f', vr_R F ki ad s (va_cpy tl tl sp dp n) f' → N f') : ∃ f', hw_d (ki 2) f (ad 4) xs (ad 4) xd xn f' ∧ N f' := by
  subst h1 h2 h3
  refine ⟨_, ⟨240, 240, tl, tl, by rw [h.1 4 (by omega)]; rfl, by rw [h.1 4 (by omega)]; rfl, nI_pos (by omega), nI_pos (by omega), nI_pos (by omega), ?_, ?_, rfl⟩, ?_⟩
  · rw [nI_clamp (by omega), nI_clamp (by omega)]; exact h4
  · rw [nI_clamp (by omega), nI_clamp (by omega)]; exact h5
  · rw [nI_clamp (by omega), nI_clamp (by omega), nI_clamp (by omega)]
    exact kk _ (vr_upl h)
end VR36
