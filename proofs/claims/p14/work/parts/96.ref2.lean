/-! the reference: of one row; slots -/
section R2
variable {F : ac_hp} {ki : Nat → ClassId} {am : Nat → Nat} {s : Nat → Nat → Int32} {f : ac_hp}
variable {sz : Nat → Nat} {nn : Nat → Nat → Nat → Nat} {kk : Nat → Nat → Int32} {mc n sp : Nat}
theorem rs_one {A a b : Nat} {Q : Int32 → ac_hp → Prop} (h : mr_R F ki am s f) (hx : RX s sz nn kk mc n sp) (hA : A + n ≤ 604) (hc : cho s mc n A) (ha : a < n) (hb : b < n) (hq : ∀ v, (v = 0 ∨ v = 1) → Q v f) : wp_X9_isOneRow ki (am 0) (nI A) (nI a) (nI b) f Q := by
  obtain ⟨-, -, ⟨h4, h5, h6⟩, ⟨h7, h8, h9⟩, -⟩ := id hx
  obtain ⟨m, hm, em⟩ := hc a ha
  obtain ⟨k, hk, ek⟩ := hc b hb
  obtain ⟨⟨tm, htm, etm⟩, hcm⟩ := h6 m hm
  obtain ⟨⟨tk, htk, etk⟩, hck⟩ := h6 k hk
  have em' := rm_i (i := 13) (j := A + a) (c := ki 0) (n := 604) (x := nI A + nI a) h (by omega) rfl (nI_add A a) (by omega) (by omega)
  rw [em] at em'
  have ek' := rm_i (i := 13) (j := A + b) (c := ki 0) (n := 604) (x := nI A + nI b) h (by omega) rfl (nI_add A b) (by omega) (by omega)
  rw [ek] at ek'
  have et1 := rm_i (i := 4) (j := m) (c := ki 0) (n := 12) (x := nI m) h (by omega) rfl rfl (by omega) (by omega)
  rw [etm] at et1
  unfold wp_X9_isOneRow
  refine ⟨_, rm_f h rfl, _, em', _, rm_f h rfl, _, ek', 3, ?_⟩
  have L35 : ∀ (E : Int32 → ac_hp → Prop) (p : Nat), p < 2 → (∀ y, (y = 0 ∨ y = 1) → E y f) → ∀ (d q : Nat) (x6 : Int32), d + q = 2 → (x6 = 0 ∨ x6 = 1) → wp_X9_isOneRow_L35 ki (am 0) (nI a) (nI b) (nI m) (nI k) (nI p) E (d + 1) x6 (nI q) f := by
    intro E p hp hE d
    induction d with
    | zero =>
      intro q x6 hq6 hx6
      have e : q = 2 := by omega
      subst e
      rw [wp_X9_isOneRow_L35]
      exact ⟨fun _ => hE x6 hx6, fun z => absurd (nI_le (a := 2) (b := 2) (by omega) (by omega)) z⟩
    | succ d ih =>
      intro q x6 hq6 hx6
      obtain ⟨c1, hc1, ec1⟩ := hcm p hp
      have r7 := rm_i (i := 7) (j := 2 * m + p) (c := ki 0) (n := 24) (x := (2 * nI m) + nI p) h (by omega) rfl pm_12 (by omega) (by omega)
      rw [ec1] at r7
      have r7b := rm_i (i := 7) (j := 2 * k + q) (c := ki 0) (n := 24) (x := (2 * nI k) + nI q) h (by omega) rfl pm_12 (by omega) (by omega)
      have r3 := rm_i (i := 3) (j := 3 * tm + c1) (c := ki 1) (n := 12) (x := (3 * nI tm) + nI c1) h (by omega) rfl pm_3 (by omega) (by omega)
      have r9 := rm_i (i := 9) (j := 2 * a + p) (c := ki 0) (n := 8) (x := (2 * nI a) + nI p) h (by omega) rfl pm_12 (by omega) (by omega)
      have r9b := rm_i (i := 9) (j := 2 * b + q) (c := ki 0) (n := 8) (x := (2 * nI b) + nI q) h (by omega) rfl pm_12 (by omega) (by omega)
      have nx : ∀ y : Int32, (y = 0 ∨ y = 1) → ∀ v : Int32, v = nI q + 1 → wp_X9_isOneRow_L35 ki (am 0) (nI a) (nI b) (nI m) (nI k) (nI p) E (d + 1) y v f := fun y hy v hv => by
        rw [hv, nI_1]; exact ih (q + 1) y (by omega) hy
      have n0 := nx 0 (Or.inl rfl)
      have n1 := nx 1 (Or.inr rfl)
      rw [wp_X9_isOneRow_L35]
      exact ⟨fun z => absurd z (nI_ge (a := q) (b := 2) (by omega) (by omega)), fun _ => ⟨_, rm_f h rfl, _, r7, _, rm_f h rfl, _, r7b, fun _ => ⟨fun _ => n1, fun _ => n0⟩, fun _ => ⟨_, rm_f h rfl, _, rm_f h rfl, _, et1, _, rm_f h rfl, _, r7, _, r3, fun _ => ⟨fun _ => n1, fun _ => n0⟩, fun _ => ⟨fun _ => n1, fun _ => ⟨_, rm_f h rfl, _, r9, _, rm_f h rfl, _, r9b, fun _ => n0, fun _ => n1⟩⟩⟩⟩⟩
  have L26 : ∀ (d p : Nat) (x6 : Int32) (E : Int32 → ac_hp → Prop), (∀ y, (y = 0 ∨ y = 1) → E y f) → d + p = 2 → (x6 = 0 ∨ x6 = 1) → wp_X9_isOneRow_L26 ki (am 0) (nI a) (nI b) (nI m) (nI k) E (d + 1) x6 (nI p) f := by
    intro d
    induction d with
    | zero =>
      intro p x6 E hE hp hx6
      have e : p = 2 := by omega
      subst e
      rw [wp_X9_isOneRow_L26]
      exact ⟨fun _ => hE x6 hx6, fun z => absurd (nI_le (a := 2) (b := 2) (by omega) (by omega)) z⟩
    | succ d ih =>
      intro p x6 E hE hp hx6
      rw [wp_X9_isOneRow_L26]
      refine ⟨fun z => absurd z (nI_ge (a := p) (b := 2) (by omega) (by omega)), fun _ => ⟨3, L35 _ p (by omega) (fun y hy v hv => ?_) 2 0 x6 rfl hx6⟩⟩
      rw [hv, nI_1]
      exact ih (p + 1) y E hE (by omega) hy
  refine L26 2 0 0 _ (fun y hy => ⟨fun _ => hq 0 (Or.inl rfl), fun _ => ⟨_, rm_f h rfl, _, rm_i (i := 4) (j := m) h (by omega) rfl rfl (by omega) (by omega), _, rm_f h rfl, _, rm_i (i := 4) (j := k) h (by omega) rfl rfl (by omega) (by omega), fun _ => hq 0 (Or.inl rfl), fun _ => hq 1 (Or.inr rfl)⟩⟩) rfl (Or.inl rfl)
/-- slots given to the first a atoms of the choice at A -/
def gs (w : Nat → Int32) (A a ct : Nat) : Prop := ct ≤ a ∧ (0 < a → 0 < ct) ∧ ∃ g : Nat → Nat, (∀ b, b < a → g b < ct ∧ w (A + b) = nI (g b)) ∧ ∀ k, k < ct → ∃ b, b < a ∧ g b = k
theorem pm_m1 {k : Nat} : nI k + (-1) = nI k - 1 := (Int32.sub_eq_add_neg _ _).symm
theorem rs_give {U : Nat} {Q : ac_hp → Prop} (h : mr_R F ki am s f) (hx : RX s sz nn kk mc n sp) (hU : U ≤ 150) (hc : cho s mc n (4 * U))
    (hq : ∀ (w z : Nat → Int32) (ct : Nat) (f' : ac_hp), gs w (4 * U) n ct → z U = nI ct → (∀ j, (j < 4 * U ∨ 4 * U + 4 ≤ j) → w j = s 14 j) → (∀ j, j ≠ U → z j = s 15 j) → mr_R F ki am (va_up (va_up s 14 w) 15 z) f' → Q f') : wp_X9_giveSlots ki (am 0) (nI U) f Q := by
  obtain ⟨-, -, ⟨h4, h5, h6⟩, ⟨h7, h8, h9⟩, -⟩ := id hx
  unfold wp_X9_giveSlots
  intro v1 e1
  rw [show (4 : Int32) = nI 4 from rfl, pk_mul] at e1
  subst e1
  refine ⟨_, rm_f h rfl, wm_i (i := 15) (j := U) h (by omega) (fun _ => rfl) rfl (by omega) (by omega) (fun f1 h1 => ⟨n + 1, ?_⟩)⟩
  have key : ∀ (d a ct : Nat) (w z : Nat → Int32) (f : ac_hp), d + a = n → gs w (4 * U) a ct → z U = nI ct → (∀ j, (j < 4 * U ∨ 4 * U + 4 ≤ j) → w j = s 14 j) → (∀ j, j ≠ U → z j = s 15 j) → mr_R F ki am (va_up (va_up s 14 w) 15 z) f → wp_X9_giveSlots_L13 ki (am 0) (nI U) (nI (4 * U)) (fun f33 => Q f33) (d + 1) (nI a) f := by
    intro d
    induction d with
    | zero =>
      intro a ct w z f ha hg hz hw1 hz1 hf
      have e : a = n := by omega
      subst e
      rw [wp_X9_giveSlots_L13]
      refine ⟨_, rm_f hf rfl, ?_⟩
      rw [va_up_ne _ _ (by omega), va_up_ne _ _ (by omega), h8]
      exact ⟨fun _ => hq w z ct f hg hz hw1 hz1 hf, fun q => absurd (nI_le (Nat.le_refl _) (by omega)) q⟩
    | succ d ih =>
      intro a ct w z f ha hg hz hw1 hz1 hf
      obtain ⟨g1, g2, g, g3, g4⟩ := hg
      have hsc : SC s (va_up (va_up s 14 w) 15 z) := SC.trans (SC.cell (j := 14) (w := w) (by omega)) (SC.cell (by omega))
      have hxf := hx.sc hsc
      have hcf : cho (va_up (va_up s 14 w) 15 z) mc n (4 * U) := fun a ha => by rw [va_up_ne _ _ (by omega), va_up_ne _ _ (by omega)]; exact hc a ha
      rw [wp_X9_giveSlots_L13]
      refine ⟨_, rm_f hf rfl, ?_⟩
      rw [va_up_ne _ _ (by omega), va_up_ne _ _ (by omega), h8]
      refine ⟨fun q => absurd q (nI_ge (by omega) (by omega)), fun _ v5 e5 => ⟨a + 1, ?_⟩⟩
      subst e5
      -- what comes behind the inner loop
      have fin : ∀ y : Int32, (y = -1 ∨ ∃ k, k < ct ∧ y = nI k) → ∃ o15 : Nat, hr_f f (am 0) 9 18 (.ref o15) ∧ ((0 ≤ y → ∃ f16 : ac_hp, hw_i (ki 0) f o15 (nI (4 * U) + nI a) y f16 ∧ ∃ o17 : Nat, hr_f f16 (am 0) 9 19 (.ref o17) ∧ ∃ v18 : Int32, hr_i (ki 0) f16 o17 (nI U) v18 ∧ ((0 ≤ y → ∃ f19 : ac_hp, hw_i (ki 0) f16 o17 (nI U) (v18 + 0) f19 ∧ ∀ v20 : Int32, v20 = nI a + 1 → wp_X9_giveSlots_L13 ki (am 0) (nI U) (nI (4 * U)) (fun f33 => Q f33) (d + 1) v20 f19) ∧ (¬ 0 ≤ y → ∃ f21 : ac_hp, hw_i (ki 0) f16 o17 (nI U) (v18 + 1) f21 ∧ ∀ v22 : Int32, v22 = nI a + 1 → wp_X9_giveSlots_L13 ki (am 0) (nI U) (nI (4 * U)) (fun f33 => Q f33) (d + 1) v22 f21))) ∧ (¬ 0 ≤ y → ∃ o23 : Nat, hr_f f (am 0) 9 19 (.ref o23) ∧ ∃ v24 : Int32, hr_i (ki 0) f o23 (nI U) v24 ∧ ∃ f25 : ac_hp, hw_i (ki 0) f o15 (nI (4 * U) + nI a) v24 f25 ∧ ∃ o26 : Nat, hr_f f25 (am 0) 9 19 (.ref o26) ∧ ∃ v27 : Int32, hr_i (ki 0) f25 o26 (nI U) v27 ∧ ((0 ≤ y → ∃ f28 : ac_hp, hw_i (ki 0) f25 o26 (nI U) (v27 + 0) f28 ∧ ∀ v29 : Int32, v29 = nI a + 1 → wp_X9_giveSlots_L13 ki (am 0) (nI U) (nI (4 * U)) (fun f33 => Q f33) (d + 1) v29 f28) ∧ (¬ 0 ≤ y → ∃ f30 : ac_hp, hw_i (ki 0) f25 o26 (nI U) (v27 + 1) f30 ∧ ∀ v31 : Int32, v31 = nI a + 1 → wp_X9_giveSlots_L13 ki (am 0) (nI U) (nI (4 * U)) (fun f33 => Q f33) (d + 1) v31 f30)))) := by
        intro y hy
        have r15 := rm_i (i := 15) (j := U) (c := ki 0) (n := 151) (x := nI U) hf (by omega) rfl rfl (by omega) (by omega)
        rw [va_up_self, hz] at r15
        -- slot k for atom a, then ct' slots
        have put : ∀ (k ct' : Nat) (f2 : ac_hp), k < ct' → ct ≤ ct' → ct' ≤ a + 1 → (∀ j, j < ct' → j < ct ∨ j = k) → mr_R F ki am (va_up (va_up s 14 (upd w (4 * U + a) (nI k))) 15 (upd z U (nI ct'))) f2 → ∀ v : Int32, v = nI a + 1 → wp_X9_giveSlots_L13 ki (am 0) (nI U) (nI (4 * U)) (fun f33 => Q f33) (d + 1) v f2 := by
          intro k ct' f2 hk1 hk2 hk3 hk4 hf2 v hv
          rw [hv, nI_1]
          refine ih (a + 1) ct' _ _ f2 (by omega) ⟨by omega, fun _ => by omega, fun b => if b = a then k else g b, fun b hb => ?_, fun j hj => ?_⟩ (pk_us) (fun j hj => by rw [pk_un (by omega)]; exact hw1 j hj) (fun j hj => by rw [pk_un hj]; exact hz1 j hj) hf2
          · by_cases hba : b = a
            · simp only [if_pos hba]
              rw [hba]
              exact ⟨hk1, pk_us⟩
            · simp only [if_neg hba]
              rw [pk_un (by omega)]
              exact ⟨by have := (g3 b (by omega)).1; omega, (g3 b (by omega)).2⟩
          · rcases hk4 j hj with hj2 | hj2
            · obtain ⟨b, hb, eb⟩ := g4 j hj2
              exact ⟨b, by omega, by simp only [if_neg (show b ≠ a by omega)]; exact eb⟩
            · exact ⟨a, by omega, by simp only [if_pos]; exact hj2.symm⟩
        refine ⟨_, rm_f hf rfl, fun h0 => ?_, fun h0 => ?_⟩
        · rcases hy with rfl | ⟨k, hk, rfl⟩
          · exact absurd h0 (by decide)
          · refine wm_i (i := 14) (j := 4 * U + a) hf (by omega) (fun _ => rfl) (nI_add _ _) (by omega) (by omega) (fun f2 h2 => ?_)
            have r2 := rm_i (i := 15) (j := U) (c := ki 0) (n := 151) (x := nI U) h2 (by omega) rfl rfl (by omega) (by omega)
            rw [va_up_ne _ _ (by omega), va_up_self, hz] at r2
            refine ⟨_, rm_f h2 rfl, _, r2, fun _ => ?_, fun q => absurd h0 q⟩
            refine wm_i (i := 15) (j := U) h2 (by omega) (fun _ => rfl) rfl (by omega) (by omega) (fun f3 h3 => put k ct f3 hk (Nat.le_refl _) (by omega) (fun j hj => Or.inl hj) ?_)
            refine mr_eq h3 ?_
            funext j
            by_cases j15 : j = 15
            · rw [j15, va_up_self, va_up_self, va_up_ne _ _ (by omega), va_up_self, Int32.add_zero]
            · rw [va_up_ne _ _ j15, va_up_ne _ _ j15]
              by_cases j14 : j = 14
              · rw [j14, va_up_self, va_up_self, va_up_ne _ _ (by omega), va_up_self]
              · rw [va_up_ne _ _ j14, va_up_ne _ _ j14, va_up_ne _ _ j15, va_up_ne _ _ j14]
        · refine ⟨_, rm_f hf rfl, _, r15, ?_⟩
          refine wm_i (i := 14) (j := 4 * U + a) hf (by omega) (fun _ => rfl) (nI_add _ _) (by omega) (by omega) (fun f2 h2 => ?_)
          have r2 := rm_i (i := 15) (j := U) (c := ki 0) (n := 151) (x := nI U) h2 (by omega) rfl rfl (by omega) (by omega)
          rw [va_up_ne _ _ (by omega), va_up_self, hz] at r2
          refine ⟨_, rm_f h2 rfl, _, r2, fun q => absurd q h0, fun _ => ?_⟩
          refine wm_i (i := 15) (j := U) h2 (by omega) (fun _ => rfl) rfl (by omega) (by omega) (fun f3 h3 => put ct (ct + 1) f3 (by omega) (by omega) (by omega) (fun j hj => by omega) ?_)
          refine mr_eq h3 ?_
          funext j
          by_cases j15 : j = 15
          · rw [j15, va_up_self, va_up_self, va_up_ne _ _ (by omega), va_up_self, nI_1]
          · rw [va_up_ne _ _ j15, va_up_ne _ _ j15]
            by_cases j14 : j = 14
            · rw [j14, va_up_self, va_up_self, va_up_ne _ _ (by omega), va_up_self]
            · rw [va_up_ne _ _ j14, va_up_ne _ _ j14, va_up_ne _ _ j15, va_up_ne _ _ j14]
      have L29 : ∀ (k : Nat) (y : Int32), k ≤ a → (y = -1 ∨ ∃ k, k < ct ∧ y = nI k) → wp_X9_giveSlots_L29 ki (am 0) (nI U) (nI (4 * U)) (nI a) (fun y13 f14 => ∃ o15 : Nat, hr_f f14 (am 0) 9 18 (.ref o15) ∧ ((0 ≤ y13 → ∃ f16 : ac_hp, hw_i (ki 0) f14 o15 (nI (4 * U) + nI a) y13 f16 ∧ ∃ o17 : Nat, hr_f f16 (am 0) 9 19 (.ref o17) ∧ ∃ v18 : Int32, hr_i (ki 0) f16 o17 (nI U) v18 ∧ ((0 ≤ y13 → ∃ f19 : ac_hp, hw_i (ki 0) f16 o17 (nI U) (v18 + 0) f19 ∧ ∀ v20 : Int32, v20 = nI a + 1 → wp_X9_giveSlots_L13 ki (am 0) (nI U) (nI (4 * U)) (fun f33 => Q f33) (d + 1) v20 f19) ∧ (¬ 0 ≤ y13 → ∃ f21 : ac_hp, hw_i (ki 0) f16 o17 (nI U) (v18 + 1) f21 ∧ ∀ v22 : Int32, v22 = nI a + 1 → wp_X9_giveSlots_L13 ki (am 0) (nI U) (nI (4 * U)) (fun f33 => Q f33) (d + 1) v22 f21))) ∧ (¬ 0 ≤ y13 → ∃ o23 : Nat, hr_f f14 (am 0) 9 19 (.ref o23) ∧ ∃ v24 : Int32, hr_i (ki 0) f14 o23 (nI U) v24 ∧ ∃ f25 : ac_hp, hw_i (ki 0) f14 o15 (nI (4 * U) + nI a) v24 f25 ∧ ∃ o26 : Nat, hr_f f25 (am 0) 9 19 (.ref o26) ∧ ∃ v27 : Int32, hr_i (ki 0) f25 o26 (nI U) v27 ∧ ((0 ≤ y13 → ∃ f28 : ac_hp, hw_i (ki 0) f25 o26 (nI U) (v27 + 0) f28 ∧ ∀ v29 : Int32, v29 = nI a + 1 → wp_X9_giveSlots_L13 ki (am 0) (nI U) (nI (4 * U)) (fun f33 => Q f33) (d + 1) v29 f28) ∧ (¬ 0 ≤ y13 → ∃ f30 : ac_hp, hw_i (ki 0) f25 o26 (nI U) (v27 + 1) f30 ∧ ∀ v31 : Int32, v31 = nI a + 1 → wp_X9_giveSlots_L13 ki (am 0) (nI U) (nI (4 * U)) (fun f33 => Q f33) (d + 1) v31 f30))))) (k + 1) y (nI k - 1) f := by
        intro k
        induction k with
        | zero =>
          intro y _ hy
          rw [wp_X9_giveSlots_L29]
          exact ⟨fun _ => fin y hy, fun q => absurd (by decide : nI 0 - 1 < 0) q⟩
        | succ k ihk =>
          intro y hk hy
          rw [nI_pred, wp_X9_giveSlots_L29]
          refine ⟨fun q => absurd q (nI_pos (by omega)), fun _ => ⟨rm_o hf, rs_one hf hxf (by omega) hcf (by omega) (by omega) (fun v hv => ⟨fun _ v8 e8 => ?_, fun _ => ?_⟩)⟩⟩
          · rw [e8, pm_m1]; exact ihk y (by omega) hy
          · have r14 := rm_i (i := 14) (j := 4 * U + k) (c := ki 0) (n := 604) (x := nI (4 * U) + nI k) hf (by omega) rfl (nI_add _ _) (by omega) (by omega)
            rw [va_up_ne _ _ (by omega), va_up_self, (g3 k (by omega)).2] at r14
            refine ⟨_, rm_f hf rfl, _, r14, fun v11 e11 => ?_⟩
            rw [e11, pm_m1]
            exact ihk _ (by omega) (Or.inr ⟨g k, (g3 k (by omega)).1, rfl⟩)
      exact L29 a (-1) (Nat.le_refl _) (Or.inl rfl)
  refine key n 0 0 (s 14) (upd (s 15) U 0) f1 (by omega) ⟨Nat.le_refl _, fun q => absurd q (by omega), fun _ => 0, fun b hb => absurd hb (by omega), fun k hk => absurd hk (by omega)⟩ (pk_us.trans nI_0.symm) (fun _ _ => rfl) (fun j hj => pk_un hj) ?_
  refine mr_eq h1 ?_
  funext j
  by_cases j15 : j = 15
  · rw [j15, va_up_self, va_up_self]
  · rw [va_up_ne _ _ j15, va_up_ne _ _ j15]
    by_cases j14 : j = 14
    · rw [j14, va_up_self]
    · rw [va_up_ne _ _ j14]
end R2
