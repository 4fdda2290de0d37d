/-! the reference's unions with their slots -/
theorem SL_sr {one : Nat → Nat → Prop} : ∀ {k : Nat} {g : Nat → Nat} {ct : Nat}, SL one k g ct → (0 < k → 0 < ct) ∧ ∀ q, q < ct → ∃ b, b < k ∧ g b = q
  | 0, g, ct, h => ⟨fun z => absurd z (by omega), fun q hq => by rw [show ct = 0 from h] at hq; omega⟩
  | k + 1, g, ct, h => by
    obtain ⟨ct0, h1, h2⟩ := h
    obtain ⟨i1, i2⟩ := SL_sr h1
    rcases h2 with ⟨b, hb, -, -, e1, e2⟩ | ⟨-, e1, e2⟩
    · subst e2
      exact ⟨fun _ => by have := (SL_le h1).2 b hb; omega, fun q hq => by obtain ⟨b, hb, e⟩ := i2 q hq; exact ⟨b, by omega, e⟩⟩
    · subst e2
      refine ⟨fun _ => by omega, fun q hq => ?_⟩
      by_cases e : q = ct0
      · exact ⟨k, by omega, by rw [e1, e]⟩
      · obtain ⟨b, hb, e3⟩ := i2 q (by omega)
        exact ⟨b, by omega, e3⟩
section UN7
variable {F : ac_hp} {ki : Nat → ClassId} {am : Nat → Nat} {s : Nat → Nat → Int32} {f : ac_hp}
variable {sz : Nat → Nat} {nn : Nat → Nat → Nat → Nat} {kk : Nat → Nat → Int32} {mc n sp : Nat} {mt pr : Nat → Nat} {ml mtm : Nat → Nat → Nat}
theorem gl_gs {c : Nat → Nat} {w : Nat → Int32} {A a ct : Nat} (h : gl s kk mt ml c w A a ct) : gs w A a ct := by
  obtain ⟨g, h1, h2⟩ := h
  obtain ⟨a1, a2⟩ := SL_le h1
  obtain ⟨b1, b2⟩ := SL_sr h1
  exact ⟨a1, b1, g, fun b hb => ⟨a2 b hb, h2 b hb⟩, b2⟩
theorem gl_w {c : Nat → Nat} {w w' : Nat → Int32} {A a ct : Nat} (h : gl s kk mt ml c w A a ct) (e : ∀ b, b < a → w' (A + b) = w (A + b)) : gl s kk mt ml c w' A a ct := by
  obtain ⟨g, h1, h2⟩ := h
  exact ⟨g, h1, fun b hb => by rw [e b hb]; exact h2 b hb⟩
theorem gl_s {s' : Nat → Nat → Int32} {c : Nat → Nat} {w : Nat → Int32} {A a ct : Nat} (h : gl s' kk mt ml c w A a ct) (e : SC s s') : gl s kk mt ml c w A a ct := by
  obtain ⟨g, h1, h2⟩ := h
  refine ⟨g, SL_congr h1 (fun _ _ => rfl) (fun a b => ?_), h2⟩
  unfold oneM pkR
  rw [e.1 9 (by omega) (by omega)]
def MS (s s1 : Nat → Nat → Int32) (kk : Nat → Nat → Int32) (mt : Nat → Nat) (ml : Nat → Nat → Nat) (mc n U k : Nat) : Prop := ∀ u, u < U → ∃ ct, gl s kk mt ml (dg mc n ((mL s mc n k).getD u 0)) (s1 14) (4 * u) n ct ∧ s1 15 u = nI ct
theorem rj_make2 {Q : Int32 → ac_hp → Prop} (h : mr_R F ki am s f) (hx : RX s sz nn kk mc n sp) (hr : RM s mc mt pr ml mtm) (hn : 0 < n)
    (hq : ∀ (v : Int32) (U : Nat) (s' : Nat → Nat → Int32) (f' : ac_hp), SC s s' → s' 0 16 = nI U → U ≤ 151 → (150 < U → v = 0) → (U ≤ 150 → v = 1) → MU s' mc n U → MF s s' mc n U → (U ≤ 150 → MS s s' kk mt ml mc n U (mc ^ n)) → s' 0 23 = s 0 23 → (∀ j, 19 ≤ j → s' j = s j) → mr_R F ki am s' f' → Q v f') : wp_X9_makeUnions ki (am 0) f Q := by
  obtain ⟨-, -, ⟨h4, h5, h6⟩, ⟨h7, h8, h9⟩, -⟩ := id hx
  unfold wp_X9_makeUnions
  refine wm_16 h (fun f1 h1 => ⟨n + 1, ?_⟩)
  -- the state between two ways
  have L32 : ∀ (d k U : Nat) (s1 : Nat → Nat → Int32) (f : ac_hp), d + k = mc ^ n → SC s s1 → s1 0 16 = nI U → U ≤ 151 → MU s1 mc n U → MK s s1 mc n U k → MS s s1 kk mt ml mc n U k → s1 0 23 = s 0 23 → (∀ j, 19 ≤ j → s1 j = s j) → mr_R F ki am s1 f → wp_X9_makeUnions_L32 ki (am 0) (nI (mc ^ n)) (fun f31 => ∃ v32 : Int32, hr_f f31 (am 0) 9 16 (.int v32) ∧ ((150 < v32 → Q 0 f31) ∧ (¬ 150 < v32 → Q 1 f31))) (d + 1) (nI k) f := by
    have hW : mc ^ n ≤ 20736 := Nat.le_trans (Nat.pow_le_pow_left h4 n) (Nat.le_trans (Nat.pow_le_pow_right (by omega) h7) (by decide))
    intro d
    induction d with
    | zero =>
      intro k U s1 f hk hsc hU hU1 hm hF hS h23 h19 hf
      have e : k = mc ^ n := by omega
      subst e
      rw [wp_X9_makeUnions_L32]
      refine ⟨fun _ => ⟨_, rm_f hf rfl, ?_⟩, fun q => absurd (nI_le (Nat.le_refl _) (by omega)) q⟩
      rw [hU]
      exact ⟨fun q => hq 0 U s1 f hsc hU hU1 (fun _ => rfl) (fun z => absurd q (nI_nlt (a := 150) (b := U) z (by omega))) hm ⟨fun _ => hF, fun z => by rw [← hF.1]; exact z⟩ (fun _ => hS) h23 h19 hf, fun q => hq 1 U s1 f hsc hU hU1 (fun z => absurd (nI_lt (a := 150) z (by omega)) q) (fun _ => rfl) hm ⟨fun _ => hF, fun z => by rw [← hF.1]; exact z⟩ (fun _ => hS) h23 h19 hf⟩
    | succ d ih =>
      intro k U s1 f hk hsc hU hU1 hm hF hS h23 h19 hf
      have hx1 := hx.sc hsc
      rw [wp_X9_makeUnions_L32]
      refine ⟨fun q => absurd q (nI_ge (by omega) (by omega)), fun _ => ⟨_, rm_f hf rfl, ?_⟩⟩
      rw [hU]
      have fin : 150 < U → ∃ v32 : Int32, hr_f f (am 0) 9 16 (.int v32) ∧ ((150 < v32 → Q 0 f) ∧ (¬ 150 < v32 → Q 1 f)) := fun hU2 => by
        refine ⟨_, rm_f hf rfl, ?_⟩
        rw [hU]
        exact ⟨fun q => hq 0 U s1 f hsc hU hU1 (fun _ => rfl) (fun z => absurd hU2 (by omega)) hm ⟨fun z => absurd z (by omega), fun z => by have := mL_le (s := s) (mc := mc) (n := n) (k := k) (d + 1); rw [← hF.1, show k + (d + 1) = mc ^ n by omega] at this; omega⟩ (fun z => absurd z (by omega)) h23 h19 hf, fun q => absurd (nI_lt (a := 150) hU2 (by omega)) q⟩
      refine ⟨fun q => fin ((nI_ltI (a := 150) (by omega) (by omega)).mp q), fun q => ?_⟩
      have hU2 : U ≤ 150 := by
        rcases Nat.lt_or_ge 150 U with z | z
        · exact absurd (nI_lt (a := 150) z (by omega)) q
        · exact z
      have hmc : 0 < mc := by
        rcases Nat.eq_zero_or_pos mc with z | z
        · rw [z, Nat.zero_pow hn] at hk; omega
        · exact z
      obtain ⟨-, -, ⟨-, h5', -⟩, ⟨-, h8', -⟩, -⟩ := id hx1
      refine ⟨_, rm_f hf rfl, fun v11 e11 => ⟨n + 1, ?_⟩⟩
      rw [h8'] at e11
      subst e11
      have L57 : ∀ (k2 left : Nat) (w : Nat → Int32) (f : ac_hp), k2 ≤ n → left = k / mc ^ (n - k2) → left < 2 ^ 31 → (∀ j, k2 ≤ j → j < n → w (4 * U + j) = nI (dg mc n k j)) → (∀ j, (j < 4 * U ∨ 4 * U + 4 ≤ j) → w j = s1 13 j) → mr_R F ki am (va_up s1 13 w) f → wp_X9_makeUnions_L57 ki (am 0) (nI (mc ^ n)) (nI k) (fun f20 => ∃ v21 : Int32, hr_f f20 (am 0) 9 16 (.int v21) ∧ hr_o f20 (am 0) 9 ∧ wp_X9_canMeet ki (am 0) (4 * v21) f20 (fun v23 f22 => ((v23 = 0 → ∀ v24 : Int32, v24 = nI k + 1 → wp_X9_makeUnions_L32 ki (am 0) (nI (mc ^ n)) (fun f31 => ∃ v32 : Int32, hr_f f31 (am 0) 9 16 (.int v32) ∧ ((150 < v32 → Q 0 f31) ∧ (¬ 150 < v32 → Q 1 f31))) (d + 1) v24 f22) ∧ (¬ v23 = 0 → ∃ v25 : Int32, hr_f f22 (am 0) 9 16 (.int v25) ∧ hr_o f22 (am 0) 9 ∧ wp_X9_giveSlots ki (am 0) v25 f22 (fun f26 => ∃ v27 : Int32, hr_f f26 (am 0) 9 16 (.int v27) ∧ ∃ f28 : ac_hp, hw_f f26 (am 0) 9 16 (.int (v27 + 1)) f28 ∧ ∀ v29 : Int32, v29 = nI k + 1 → wp_X9_makeUnions_L32 ki (am 0) (nI (mc ^ n)) (fun f31 => ∃ v32 : Int32, hr_f f31 (am 0) 9 16 (.int v32) ∧ ((150 < v32 → Q 0 f31) ∧ (¬ 150 < v32 → Q 1 f31))) (d + 1) v29 f28))))) (k2 + 1) (nI left) (nI k2 - 1) f := by
        intro k2
        induction k2 with
        | zero =>
          intro left w f _ _ hleft hw hw1 hf
          rw [wp_X9_makeUnions_L57]
          refine ⟨fun _ => ⟨_, rm_f hf rfl, rm_o hf, ?_⟩, fun q => absurd (by decide : nI 0 - 1 < 0) q⟩
          have sc1 : SC s1 (va_up s1 13 w) := SC.cell (by omega)
          have c1 : cho (va_up s1 13 w) mc n (4 * U) := fun a ha => ⟨_, dg_lt hmc, by rw [va_up_self]; exact hw a (by omega) ha⟩
          have cu : ∀ u, u < U → cho (va_up s1 13 w) mc n (4 * u) := fun u hu a ha => by rw [va_up_self, hw1 _ (by omega)]; exact (hm u hu).1 a ha
          rw [va_up_ne _ _ (by omega), hU, show (4 : Int32) = nI 4 from rfl, pk_mul]
          refine rj_canMeet (c := dg mc n k) hf (hx1.sc sc1) (hr.sc (hsc.trans sc1)) (by omega) (fun a ha => ⟨dg_lt hmc, by rw [va_up_self]; exact hw a (by omega) ha⟩) (fun v w2 f2 hv h2 => ?_)
          rw [rst_c (hsc.trans sc1)] at hv
          have e0 : ∀ j, j ≠ 13 → j ≠ 18 → va_up (va_up s1 13 w) 18 w2 j = s1 j := fun j q1 q2 => by rw [va_up_ne _ _ q2, va_up_ne _ _ q1]
          have sc2 : SC s1 (va_up (va_up s1 13 w) 18 w2) := sc1.trans (SC.cell (by omega))
          have c2 : ∀ u, (u < U ∨ u = U) → cho (va_up (va_up s1 13 w) 18 w2) mc n (4 * u) := fun u hu a ha => by
            rw [va_up_ne _ _ (by omega)]
            rcases hu with hu | hu
            · exact cu u hu a ha
            · rw [hu]; exact c1 a ha
          have o13 : ∀ u a, u < U → a < n → w (4 * u + a) = s1 13 (4 * u + a) := fun u a hu ha => hw1 _ (by omega)
          refine ⟨fun hz0 v24 e24 => ?_, fun hz1 => ⟨_, rm_f h2 rfl, rm_o h2, ?_⟩⟩
          · rw [e24, nI_1]
            refine ih (k + 1) U _ f2 (by omega) (hsc.trans sc2) (by rw [e0 0 (by omega) (by omega)]; exact hU) hU1 (fun u hu => ⟨c2 u (Or.inl hu), ?_⟩) ?_ ?_ (by rw [e0 0 (by omega) (by omega)]; exact h23) (fun j hj => by rw [e0 j (by omega) (by omega)]; exact h19 j hj) h2
            · rw [e0 14 (by omega) (by omega), e0 15 (by omega) (by omega)]
              exact (hm u hu).2
            · have em : mL s mc n (k + 1) = mL s mc n k := by
                rcases hv with ⟨-, z⟩ | ⟨z, -⟩
                · exact mL_0 z
                · exact absurd (z.symm.trans hz0) ne10
              unfold MK
              rw [em]
              refine ⟨hF.1, fun u hu a ha => ?_⟩
              rw [va_up_ne _ _ (by omega), va_up_self, o13 u a hu ha]
              exact hF.2 u hu a ha
            · have em : mL s mc n (k + 1) = mL s mc n k := by
                rcases hv with ⟨-, z⟩ | ⟨z, -⟩
                · exact mL_0 z
                · exact absurd (z.symm.trans hz0) ne10
              unfold MS
              rw [em, e0 14 (by omega) (by omega), e0 15 (by omega) (by omega)]
              exact hS
          · rw [e0 0 (by omega) (by omega), hU]
            refine rj_give (c := dg mc n k) h2 (hx1.sc sc2) (hr.sc (hsc.trans sc2)) hU2 (fun a ha => ⟨dg_lt hmc, by rw [va_up_ne _ _ (by omega), va_up_self]; exact hw a (by omega) ha⟩) (fun w3 z3 ct f3 hg2 hz hw3 hz3 h3 => ⟨_, rm_f h3 rfl, ?_⟩)
            have hg := gl_gs hg2
            rw [va_up_ne _ _ (by omega), va_up_ne _ _ (by omega), e0 0 (by omega) (by omega), hU, nI_1]
            refine wm_16 h3 (fun f4 h4 => fun v29 e29 => ?_)
            rw [e29, nI_1]
            have e1 : ∀ j, j ≠ 0 → j ≠ 13 → j ≠ 14 → j ≠ 15 → j ≠ 18 → va_up (va_up (va_up (va_up (va_up s1 13 w) 18 w2) 14 w3) 15 z3) 0 (upd (va_up (va_up (va_up (va_up s1 13 w) 18 w2) 14 w3) 15 z3 0) 16 (nI (U + 1))) j = s1 j := fun j q0 q1 q2 q3 q4 => by rw [va_up_ne _ _ q0, va_up_ne _ _ q3, va_up_ne _ _ q2, va_up_ne _ _ q4, va_up_ne _ _ q1]
            refine ih (k + 1) (U + 1) _ f4 (by omega) (hsc.trans (((sc2.trans (SC.cell (j := 14) (w := w3) (by omega))).trans (SC.cell (j := 15) (w := z3) (by omega))).trans (SC.fld (by omega) (by omega) (by omega)))) (by rw [va_up_self]; exact pk_us) (by omega) (fun u hu => ⟨?_, ?_⟩) ?_ ?_ (by rw [va_up_self, pk_un (by omega), va_up_ne _ _ (by omega), va_up_ne _ _ (by omega), va_up_ne _ _ (by omega), va_up_ne _ _ (by omega)]; exact h23) (fun j hj => by rw [e1 j (by omega) (by omega) (by omega) (by omega) (by omega)]; exact h19 j hj) h4
            · intro a ha
              rw [va_up_ne _ _ (by omega), va_up_ne _ _ (by omega), va_up_ne _ _ (by omega)]
              exact c2 u (by omega) a ha
            · rw [show ∀ (x : Nat → Int32), va_up (va_up (va_up (va_up (va_up s1 13 w) 18 w2) 14 w3) 15 z3) 0 x 14 = w3 from fun x => by rw [va_up_ne _ _ (by omega), va_up_ne _ _ (by omega), va_up_self], show ∀ (x : Nat → Int32), va_up (va_up (va_up (va_up (va_up s1 13 w) 18 w2) 14 w3) 15 z3) 0 x 15 = z3 from fun x => by rw [va_up_ne _ _ (by omega), va_up_self]]
              by_cases huU : u = U
              · rw [huU]; exact ⟨ct, hg, hz⟩
              · obtain ⟨ct2, hg2, hz2⟩ := (hm u (by omega)).2
                refine ⟨ct2, gs_c hg2 (fun b hb => ?_), ?_⟩
                · rw [hw3 _ (by omega), e0 14 (by omega) (by omega)]
                · rw [hz3 u huU, e0 15 (by omega) (by omega)]; exact hz2
            · obtain ⟨q, hq2⟩ : ∃ q, rst s (dg mc n k) n = some q := by
                rcases hv with ⟨z, -⟩ | ⟨-, q, z, -⟩
                · exact absurd z hz1
                · exact ⟨q, z⟩
              unfold MK
              rw [mL_1 hq2, List.length_append]
              refine ⟨by rw [← hF.1]; rfl, fun u hu a ha => ?_⟩
              rw [va_up_ne _ _ (by omega), va_up_ne _ _ (by omega), va_up_ne _ _ (by omega), va_up_ne _ _ (by omega), va_up_self]
              by_cases huU : u = U
              · rw [huU, hw a (by omega) ha]
                congr 2
                rw [hF.1, List.getD_eq_getElem?_getD]
                simp
              · rw [o13 u a (by omega) ha, hF.2 u (by omega) a ha, List.getD_eq_getElem?_getD, List.getD_eq_getElem?_getD, List.getElem?_append_left (by rw [← hF.1]; omega)]
            · obtain ⟨q, hq2⟩ : ∃ q, rst s (dg mc n k) n = some q := by
                rcases hv with ⟨z, -⟩ | ⟨-, q, z, -⟩
                · exact absurd z hz1
                · exact ⟨q, z⟩
              unfold MS
              rw [mL_1 hq2, show ∀ (x : Nat → Int32), va_up (va_up (va_up (va_up (va_up s1 13 w) 18 w2) 14 w3) 15 z3) 0 x 14 = w3 from fun x => by rw [va_up_ne _ _ (by omega), va_up_ne _ _ (by omega), va_up_self], show ∀ (x : Nat → Int32), va_up (va_up (va_up (va_up (va_up s1 13 w) 18 w2) 14 w3) 15 z3) 0 x 15 = z3 from fun x => by rw [va_up_ne _ _ (by omega), va_up_self]]
              intro u hu
              by_cases huU : u = U
              · rw [huU]
                refine ⟨ct, ?_, hz⟩
                have e : (mL s mc n k ++ [k]).getD U 0 = k := by rw [hF.1, List.getD_eq_getElem?_getD]; simp
                rw [e]
                exact gl_s hg2 (hsc.trans sc2)
              · obtain ⟨ct2, hg3, hz2⟩ := hS u (by omega)
                refine ⟨ct2, ?_, ?_⟩
                · have e : (mL s mc n k ++ [k]).getD u 0 = (mL s mc n k).getD u 0 := by rw [List.getD_eq_getElem?_getD, List.getD_eq_getElem?_getD, List.getElem?_append_left (by rw [← hF.1]; omega)]
                  rw [e]
                  exact gl_w hg3 (fun b hb => by rw [hw3 _ (by omega), e0 14 (by omega) (by omega)])
                · rw [hz3 u huU, e0 15 (by omega) (by omega)]; exact hz2
        | succ k2 ih2 =>
          intro left w f hk2 hlk hleft hw hw1 hf
          rw [nI_pred, wp_X9_makeUnions_L57]
          have em : mo am (va_up s1 13 w 0) = mo am (s1 0) := by rw [va_up_ne _ _ (by omega)]
          refine ⟨fun q => absurd q (nI_pos (by omega)), fun _ => ⟨_, rm_f hf rfl, _, rm_f hf rfl, _, rm_f hf rfl, ?_⟩⟩
          rw [va_up_ne _ _ (by omega), hU, h5', pk_rem (by omega) hmc (by omega)]
          refine ⟨nI_ne0 hmc (by omega), wm_i (i := 13) (j := 4 * U + k2) hf (by omega) (fun _ => rfl) (by rw [show (4 : Int32) = nI 4 from rfl, pk_mul, nI_add]) (by omega) (by omega) (fun f2 h2 => ⟨_, rm_f h2 rfl, ?_⟩)⟩
          rw [bx_uu] at h2
          rw [va_up_ne _ _ (by omega), va_up_ne _ _ (by omega), h5']
          refine ⟨nI_ne0 hmc (by omega), fun v17 e17 v18 e18 => ?_⟩
          rw [pk_div (by omega) hmc (by omega)] at e17
          rw [e17, e18, pm_m1]
          refine ih2 (left / mc) _ f2 (by omega) (by rw [hlk, Nat.div_div_eq_div_mul, ← Nat.pow_succ, show (n - (k2 + 1)).succ = n - k2 by omega]) (Nat.lt_of_le_of_lt (Nat.div_le_self _ _) hleft) (fun j hj1 hj2 => ?_) (fun j hj => ?_) h2
          · by_cases hj3 : j = k2
            · rw [hj3, va_up_self]
              rw [upd_self, hlk]
              unfold dg
              rw [show n - 1 - k2 = n - (k2 + 1) by omega]
            · rw [va_up_self, pk_un (by omega)]
              exact hw j (by omega) hj2
          · rw [va_up_self, pk_un (by omega)]
            exact hw1 j hj
      refine L57 n k (s1 13) f (Nat.le_refl _) (by rw [Nat.sub_self, Nat.pow_zero, Nat.div_one]) (by omega) (fun j h1 h2 => absurd h1 (by omega)) (fun _ _ => rfl) ?_
      refine mr_eq hf ?_
      funext j
      by_cases hj : j = 13
      · rw [hj, va_up_self]
      · rw [va_up_ne _ _ hj]
  have L9 : ∀ (d a : Nat), d + a = n → wp_X9_makeUnions_L9 ki (am 0) (fun y7 f8 => ∃ n30 : Nat, wp_X9_makeUnions_L32 ki (am 0) y7 (fun f31 => ∃ v32 : Int32, hr_f f31 (am 0) 9 16 (.int v32) ∧ ((150 < v32 → Q 0 f31) ∧ (¬ 150 < v32 → Q 1 f31))) n30 0 f8) (d + 1) (nI (mc ^ a)) (nI a) f1 := by
    intro d
    induction d with
    | zero =>
      intro a ha
      have e : a = n := by omega
      subst e
      rw [wp_X9_makeUnions_L9]
      refine ⟨_, rm_f h1 rfl, ?_⟩
      rw [va_up_self, pk_un (by omega), h8]
      refine ⟨fun _ => ⟨mc ^ a + 1, L32 (mc ^ a) 0 0 _ f1 (by omega) (SC.fld (by omega) (by omega) (by omega)) (by rw [va_up_self, pk_us]; exact nI_0.symm) (by omega) (fun u hu => absurd hu (by omega)) ⟨rfl, fun u hu => absurd hu (by omega)⟩ (fun u hu => absurd hu (by omega)) (by rw [va_up_self, pk_un (by omega)]) (fun j hj => va_up_ne _ _ (by omega)) h1⟩, fun q => absurd (nI_le (Nat.le_refl _) (by omega)) q⟩
    | succ d ih =>
      intro a ha
      rw [wp_X9_makeUnions_L9]
      refine ⟨_, rm_f h1 rfl, ?_⟩
      rw [va_up_self, pk_un (by omega), h8]
      refine ⟨fun q => absurd q (nI_ge (by omega) (by omega)), fun _ => ⟨_, rm_f h1 rfl, fun v4 e4 v5 e5 => ?_⟩⟩
      rw [va_up_self, pk_un (by omega), h5, pk_mul] at e4
      rw [e4, e5, nI_1]
      exact ih (a + 1) (by omega)
  exact L9 n 0 (by omega)
end UN7
