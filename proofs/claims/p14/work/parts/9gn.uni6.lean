/-! the reference's giveSlots: the class's SL -/
def gl (s : Nat → Nat → Int32) (kk : Nat → Nat → Int32) (mt : Nat → Nat) (ml : Nat → Nat → Nat) (c : Nat → Nat) (w : Nat → Int32) (A a ct : Nat) : Prop := ∃ g : Nat → Nat, SL (oneM s kk mt ml c) a g ct ∧ ∀ b, b < a → w (A + b) = nI (g b)
section UN6
variable {F : ac_hp} {ki : Nat → ClassId} {am : Nat → Nat} {s : Nat → Nat → Int32} {f : ac_hp}
variable {sz : Nat → Nat} {nn : Nat → Nat → Nat → Nat} {kk : Nat → Nat → Int32} {mc n sp : Nat} {mt pr : Nat → Nat} {ml mtm : Nat → Nat → Nat}
theorem rj_give {U : Nat} {c : Nat → Nat} {Q : ac_hp → Prop} (h : mr_R F ki am s f) (hx : RX s sz nn kk mc n sp) (hr : RM s mc mt pr ml mtm) (hU : U ≤ 150) (hc : ∀ a, a < n → c a < mc ∧ s 13 (4 * U + a) = nI (c a))
    (hq : ∀ (w z : Nat → Int32) (ct : Nat) (f' : ac_hp), gl s kk mt ml c w (4 * U) n ct → z U = nI ct → (∀ j, (j < 4 * U ∨ 4 * U + 4 ≤ j) → w j = s 14 j) → (∀ j, j ≠ U → z j = s 15 j) → mr_R F ki am (va_up (va_up s 14 w) 15 z) f' → Q f') : wp_X9_giveSlots ki (am 0) (nI U) f Q := by
  obtain ⟨-, -, ⟨h4, h5, h6⟩, ⟨h7, h8, h9⟩, -⟩ := id hx
  unfold wp_X9_giveSlots
  intro v1 e1
  rw [show (4 : Int32) = nI 4 from rfl, pk_mul] at e1
  subst e1
  refine ⟨_, rm_f h rfl, wm_i (i := 15) (j := U) h (by omega) (fun _ => rfl) rfl (by omega) (by omega) (fun f1 h1 => ⟨n + 1, ?_⟩)⟩
  have key : ∀ (d a ct : Nat) (w z : Nat → Int32) (f : ac_hp), d + a = n → gl s kk mt ml c w (4 * U) a ct → z U = nI ct → (∀ j, (j < 4 * U ∨ 4 * U + 4 ≤ j) → w j = s 14 j) → (∀ j, j ≠ U → z j = s 15 j) → mr_R F ki am (va_up (va_up s 14 w) 15 z) f → wp_X9_giveSlots_L13 ki (am 0) (nI U) (nI (4 * U)) (fun f33 => Q f33) (d + 1) (nI a) f := by
    intro d
    induction d with
    | zero =>
      intro a ct w z f ha hg hz hw1 hz1 hf
      have e : a = n := by omega
      subst e
      rw [wp_X9_giveSlots_L13]
      refine ⟨_, rm_f hf rfl, ?_⟩
      rw [va_up_ne _ _ (by omega), va_up_ne _ _ (by omega), h8]
      exact ⟨fun _ => hq w z ct f hg hz hw1 hz1 hf, fun q => absurd (nI_le (Nat.le_refl _) (by omega)) q⟩
    | succ d ih =>
      intro a ct w z f ha hg hz hw1 hz1 hf
      obtain ⟨g, gS, gw⟩ := hg
      obtain ⟨g1, gl2⟩ := SL_le gS
      have hsc : SC s (va_up (va_up s 14 w) 15 z) := SC.trans (SC.cell (j := 14) (w := w) (by omega)) (SC.cell (by omega))
      have hxf := hx.sc hsc
      have hcf : ∀ a, a < n → c a < mc ∧ va_up (va_up s 14 w) 15 z 13 (4 * U + a) = nI (c a) := fun a ha => by rw [va_up_ne _ _ (by omega), va_up_ne _ _ (by omega)]; exact hc a ha
      rw [wp_X9_giveSlots_L13]
      refine ⟨_, rm_f hf rfl, ?_⟩
      rw [va_up_ne _ _ (by omega), va_up_ne _ _ (by omega), h8]
      refine ⟨fun q => absurd q (nI_ge (by omega) (by omega)), fun _ v5 e5 => ⟨a + 1, ?_⟩⟩
      subst e5
      -- what comes behind the inner loop
      have eo : oneM (va_up (va_up s 14 w) 15 z) kk mt ml c = oneM s kk mt ml c := by unfold oneM pkR; rw [va_up_ne _ _ (show (9 : Nat) ≠ 15 by omega), va_up_ne _ _ (show (9 : Nat) ≠ 14 by omega)]
      have fin : ∀ y : Int32, ((y = -1 ∧ ∀ q, q < a → ¬ oneM s kk mt ml c q a) ∨ ∃ b, b < a ∧ oneM s kk mt ml c b a ∧ (∀ q, q < b → ¬ oneM s kk mt ml c q a) ∧ y = nI (g b)) → ∃ o15 : Nat, hr_f f (am 0) 9 18 (.ref o15) ∧ ((0 ≤ y → ∃ f16 : ac_hp, hw_i (ki 0) f o15 (nI (4 * U) + nI a) y f16 ∧ ∃ o17 : Nat, hr_f f16 (am 0) 9 19 (.ref o17) ∧ ∃ v18 : Int32, hr_i (ki 0) f16 o17 (nI U) v18 ∧ ((0 ≤ y → ∃ f19 : ac_hp, hw_i (ki 0) f16 o17 (nI U) (v18 + 0) f19 ∧ ∀ v20 : Int32, v20 = nI a + 1 → wp_X9_giveSlots_L13 ki (am 0) (nI U) (nI (4 * U)) (fun f33 => Q f33) (d + 1) v20 f19) ∧ (¬ 0 ≤ y → ∃ f21 : ac_hp, hw_i (ki 0) f16 o17 (nI U) (v18 + 1) f21 ∧ ∀ v22 : Int32, v22 = nI a + 1 → wp_X9_giveSlots_L13 ki (am 0) (nI U) (nI (4 * U)) (fun f33 => Q f33) (d + 1) v22 f21))) ∧ (¬ 0 ≤ y → ∃ o23 : Nat, hr_f f (am 0) 9 19 (.ref o23) ∧ ∃ v24 : Int32, hr_i (ki 0) f o23 (nI U) v24 ∧ ∃ f25 : ac_hp, hw_i (ki 0) f o15 (nI (4 * U) + nI a) v24 f25 ∧ ∃ o26 : Nat, hr_f f25 (am 0) 9 19 (.ref o26) ∧ ∃ v27 : Int32, hr_i (ki 0) f25 o26 (nI U) v27 ∧ ((0 ≤ y → ∃ f28 : ac_hp, hw_i (ki 0) f25 o26 (nI U) (v27 + 0) f28 ∧ ∀ v29 : Int32, v29 = nI a + 1 → wp_X9_giveSlots_L13 ki (am 0) (nI U) (nI (4 * U)) (fun f33 => Q f33) (d + 1) v29 f28) ∧ (¬ 0 ≤ y → ∃ f30 : ac_hp, hw_i (ki 0) f25 o26 (nI U) (v27 + 1) f30 ∧ ∀ v31 : Int32, v31 = nI a + 1 → wp_X9_giveSlots_L13 ki (am 0) (nI U) (nI (4 * U)) (fun f33 => Q f33) (d + 1) v31 f30)))) := by
        intro y hy
        have r15 := rm_i (i := 15) (j := U) (c := ki 0) (n := 151) (x := nI U) hf (by omega) rfl rfl (by omega) (by omega)
        rw [va_up_self, hz] at r15
        -- slot k for atom a, then ct' slots
        have put : ∀ (k ct' : Nat) (f2 : ac_hp), SL (oneM s kk mt ml c) (a + 1) (fun b => if b = a then k else g b) ct' → mr_R F ki am (va_up (va_up s 14 (upd w (4 * U + a) (nI k))) 15 (upd z U (nI ct'))) f2 → ∀ v : Int32, v = nI a + 1 → wp_X9_giveSlots_L13 ki (am 0) (nI U) (nI (4 * U)) (fun f33 => Q f33) (d + 1) v f2 := by
          intro k ct' f2 hS hf2 v hv
          rw [hv, nI_1]
          refine ih (a + 1) ct' _ _ f2 (by omega) ⟨fun b => if b = a then k else g b, hS, fun b hb => ?_⟩ (pk_us) (fun j hj => by rw [pk_un (by omega)]; exact hw1 j hj) (fun j hj => by rw [pk_un hj]; exact hz1 j hj) hf2
          by_cases hba : b = a
          · simp only [if_pos hba]
            rw [hba]
            exact pk_us
          · simp only [if_neg hba]
            rw [pk_un (by omega)]
            exact gw b (by omega)
        have gS' : ∀ k, SL (oneM s kk mt ml c) a (fun b => if b = a then k else g b) ct := fun k => SL_congr gS (fun j hj => if_neg (by omega)) (fun _ _ => Iff.rfl)
        refine ⟨_, rm_f hf rfl, fun h0 => ?_, fun h0 => ?_⟩
        · rcases hy with ⟨rfl, -⟩ | ⟨k, hk, hk1, hk2, rfl⟩
          · exact absurd h0 (by decide)
          · refine wm_i (i := 14) (j := 4 * U + a) hf (by omega) (fun _ => rfl) (nI_add _ _) (by omega) (by omega) (fun f2 h2 => ?_)
            have r2 := rm_i (i := 15) (j := U) (c := ki 0) (n := 151) (x := nI U) h2 (by omega) rfl rfl (by omega) (by omega)
            rw [va_up_ne _ _ (by omega), va_up_self, hz] at r2
            refine ⟨_, rm_f h2 rfl, _, r2, fun _ => ?_, fun q => absurd h0 q⟩
            refine wm_i (i := 15) (j := U) h2 (by omega) (fun _ => rfl) rfl (by omega) (by omega) (fun f3 h3 => put (g k) ct f3 ⟨ct, gS' _, Or.inl ⟨k, hk, hk1, hk2, by simp only [if_pos, if_neg (show k ≠ a by omega)], rfl⟩⟩ ?_)
            refine mr_eq h3 ?_
            funext j
            by_cases j15 : j = 15
            · rw [j15, va_up_self, va_up_self, va_up_ne _ _ (by omega), va_up_self, Int32.add_zero]
            · rw [va_up_ne _ _ j15, va_up_ne _ _ j15]
              by_cases j14 : j = 14
              · rw [j14, va_up_self, va_up_self, va_up_ne _ _ (by omega), va_up_self]
              · rw [va_up_ne _ _ j14, va_up_ne _ _ j14, va_up_ne _ _ j15, va_up_ne _ _ j14]
        · have hn : ∀ q, q < a → ¬ oneM s kk mt ml c q a := by
            rcases hy with ⟨-, z⟩ | ⟨k, hk, -, -, rfl⟩
            · exact z
            · exact absurd (nI_le (a := 0) (by omega) (by have := gl2 k hk; omega)) h0
          refine ⟨_, rm_f hf rfl, _, r15, ?_⟩
          refine wm_i (i := 14) (j := 4 * U + a) hf (by omega) (fun _ => rfl) (nI_add _ _) (by omega) (by omega) (fun f2 h2 => ?_)
          have r2 := rm_i (i := 15) (j := U) (c := ki 0) (n := 151) (x := nI U) h2 (by omega) rfl rfl (by omega) (by omega)
          rw [va_up_ne _ _ (by omega), va_up_self, hz] at r2
          refine ⟨_, rm_f h2 rfl, _, r2, fun q => absurd q h0, fun _ => ?_⟩
          refine wm_i (i := 15) (j := U) h2 (by omega) (fun _ => rfl) rfl (by omega) (by omega) (fun f3 h3 => put ct (ct + 1) f3 ⟨ct, gS' _, Or.inr ⟨hn, by simp only [if_pos], rfl⟩⟩ ?_)
          refine mr_eq h3 ?_
          funext j
          by_cases j15 : j = 15
          · rw [j15, va_up_self, va_up_self, va_up_ne _ _ (by omega), va_up_self, nI_1]
          · rw [va_up_ne _ _ j15, va_up_ne _ _ j15]
            by_cases j14 : j = 14
            · rw [j14, va_up_self, va_up_self, va_up_ne _ _ (by omega), va_up_self]
            · rw [va_up_ne _ _ j14, va_up_ne _ _ j14, va_up_ne _ _ j15, va_up_ne _ _ j14]
      have L29 : ∀ (k : Nat) (y : Int32), k ≤ a → ((y = -1 ∧ ∀ q, k ≤ q → q < a → ¬ oneM s kk mt ml c q a) ∨ ∃ b, k ≤ b ∧ b < a ∧ oneM s kk mt ml c b a ∧ (∀ q, k ≤ q → q < b → ¬ oneM s kk mt ml c q a) ∧ y = nI (g b)) → wp_X9_giveSlots_L29 ki (am 0) (nI U) (nI (4 * U)) (nI a) (fun y13 f14 => ∃ o15 : Nat, hr_f f14 (am 0) 9 18 (.ref o15) ∧ ((0 ≤ y13 → ∃ f16 : ac_hp, hw_i (ki 0) f14 o15 (nI (4 * U) + nI a) y13 f16 ∧ ∃ o17 : Nat, hr_f f16 (am 0) 9 19 (.ref o17) ∧ ∃ v18 : Int32, hr_i (ki 0) f16 o17 (nI U) v18 ∧ ((0 ≤ y13 → ∃ f19 : ac_hp, hw_i (ki 0) f16 o17 (nI U) (v18 + 0) f19 ∧ ∀ v20 : Int32, v20 = nI a + 1 → wp_X9_giveSlots_L13 ki (am 0) (nI U) (nI (4 * U)) (fun f33 => Q f33) (d + 1) v20 f19) ∧ (¬ 0 ≤ y13 → ∃ f21 : ac_hp, hw_i (ki 0) f16 o17 (nI U) (v18 + 1) f21 ∧ ∀ v22 : Int32, v22 = nI a + 1 → wp_X9_giveSlots_L13 ki (am 0) (nI U) (nI (4 * U)) (fun f33 => Q f33) (d + 1) v22 f21))) ∧ (¬ 0 ≤ y13 → ∃ o23 : Nat, hr_f f14 (am 0) 9 19 (.ref o23) ∧ ∃ v24 : Int32, hr_i (ki 0) f14 o23 (nI U) v24 ∧ ∃ f25 : ac_hp, hw_i (ki 0) f14 o15 (nI (4 * U) + nI a) v24 f25 ∧ ∃ o26 : Nat, hr_f f25 (am 0) 9 19 (.ref o26) ∧ ∃ v27 : Int32, hr_i (ki 0) f25 o26 (nI U) v27 ∧ ((0 ≤ y13 → ∃ f28 : ac_hp, hw_i (ki 0) f25 o26 (nI U) (v27 + 0) f28 ∧ ∀ v29 : Int32, v29 = nI a + 1 → wp_X9_giveSlots_L13 ki (am 0) (nI U) (nI (4 * U)) (fun f33 => Q f33) (d + 1) v29 f28) ∧ (¬ 0 ≤ y13 → ∃ f30 : ac_hp, hw_i (ki 0) f25 o26 (nI U) (v27 + 1) f30 ∧ ∀ v31 : Int32, v31 = nI a + 1 → wp_X9_giveSlots_L13 ki (am 0) (nI U) (nI (4 * U)) (fun f33 => Q f33) (d + 1) v31 f30))))) (k + 1) y (nI k - 1) f := by
        intro k
        induction k with
        | zero =>
          intro y _ hy
          rw [wp_X9_giveSlots_L29]
          exact ⟨fun _ => fin y (hy.elim (fun z => Or.inl ⟨z.1, fun q hq => z.2 q (by omega) hq⟩) (fun ⟨b, _, z1, z2, z3, z4⟩ => Or.inr ⟨b, z1, z2, fun q hq => z3 q (by omega) hq, z4⟩)), fun q => absurd (by decide : nI 0 - 1 < 0) q⟩
        | succ k ihk =>
          intro y hk hy
          rw [nI_pred, wp_X9_giveSlots_L29]
          refine ⟨fun q => absurd q (nI_pos (by omega)), fun _ => ⟨rm_o hf, rj_one hf hxf (hr.sc hsc) (by omega) hcf (by omega) (by omega) (fun hone => ⟨fun q => absurd q ne10, fun _ => ?_⟩) (fun hone => ⟨fun _ v8 e8 => ?_, fun q => absurd rfl q⟩)⟩⟩
          · rw [eo] at hone
            have r14 := rm_i (i := 14) (j := 4 * U + k) (c := ki 0) (n := 604) (x := nI (4 * U) + nI k) hf (by omega) rfl (nI_add _ _) (by omega) (by omega)
            rw [va_up_ne _ _ (by omega), va_up_self, gw k (by omega)] at r14
            refine ⟨_, rm_f hf rfl, _, r14, fun v11 e11 => ?_⟩
            rw [e11, pm_m1]
            exact ihk _ (by omega) (Or.inr ⟨k, Nat.le_refl _, by omega, hone, fun q h1 h2 => absurd h1 (by omega), rfl⟩)
          · rw [eo] at hone
            rw [e8, pm_m1]
            refine ihk y (by omega) (hy.elim (fun z => Or.inl ⟨z.1, fun q h1 h2 => ?_⟩) (fun ⟨b, z0, z1, z2, z3, z4⟩ => Or.inr ⟨b, by omega, z1, z2, fun q h1 h2 => ?_, z4⟩))
            · by_cases e : q = k
              · rw [e]; exact hone
              · exact z.2 q (by omega) h2
            · by_cases e : q = k
              · rw [e]; exact hone
              · exact z3 q (by omega) h2
      exact L29 a (-1) (Nat.le_refl _) (Or.inl ⟨rfl, fun q h1 h2 => absurd h1 (by omega)⟩)
  refine key n 0 0 (s 14) (upd (s 15) U 0) f1 (by omega) ⟨fun _ => 0, rfl, fun b hb => absurd hb (by omega)⟩ (pk_us.trans nI_0.symm) (fun _ _ => rfl) (fun j hj => pk_un hj) ?_
  refine mr_eq h1 ?_
  funext j
  by_cases j15 : j = 15
  · rw [j15, va_up_self, va_up_self]
  · rw [va_up_ne _ _ j15, va_up_ne _ _ j15]
    by_cases j14 : j = 14
    · rw [j14, va_up_self]
    · rw [va_up_ne _ _ j14]
end UN6
