/-! how many first ones there are -/
noncomputable def cR (sn : Nat → Nat → Prop) (i : Nat) : Nat → Nat
  | 0 => 0
  | r + 1 => cR sn i r + @ite Nat (sn i r) (Classical.propDecidable _) 0 1
noncomputable def cM (sn : Nat → Nat → Prop) (len : Nat → Nat) : Nat → Nat
  | 0 => 0
  | i + 1 => cM sn len i + cR sn i (len i)
theorem cR_le {sn : Nat → Nat → Prop} {i : Nat} : ∀ r, cR sn i r ≤ r
  | 0 => Nat.le_refl _
  | r + 1 => by
    rw [cR]
    have := cR_le (sn := sn) (i := i) r
    split <;> omega
theorem cM_le {sn : Nat → Nat → Prop} {len : Nat → Nat} : ∀ i, (∀ j, j < i → len j ≤ 20) → cM sn len i ≤ 20 * i
  | 0, _ => Nat.le_refl _
  | i + 1, h => by
    rw [cM]
    have := cM_le (sn := sn) (len := len) i (fun j hj => h j (by omega))
    have := cR_le (sn := sn) (i := i) (len i)
    have := h i (by omega)
    omega
theorem cR_c {sn sn' : Nat → Nat → Prop} {i : Nat} : ∀ r, (∀ q, q < r → (sn i q ↔ sn' i q)) → cR sn i r = cR sn' i r
  | 0, _ => rfl
  | r + 1, h => by
    rw [cR, cR, cR_c r (fun q hq => h q (by omega))]
    have e := h r (by omega)
    by_cases z : sn i r
    · rw [if_pos z, if_pos (e.mp z)]
    · rw [if_neg z, if_neg (fun y => z (e.mpr y))]
theorem cM_c {sn sn' : Nat → Nat → Prop} {len : Nat → Nat} : ∀ i, (∀ j q, j < i → q < len j → (sn j q ↔ sn' j q)) → cM sn len i = cM sn' len i
  | 0, _ => rfl
  | i + 1, h => by rw [cM, cM, cM_c i (fun j q hj hq => h j q (by omega) hq), cR_c _ (fun q hq => h i q (by omega) hq)]
theorem cR_1 {sn : Nat → Nat → Prop} {i r : Nat} (h : sn i r) : cR sn i (r + 1) = cR sn i r := by rw [cR, if_pos h]; rfl
theorem cR_2 {sn : Nat → Nat → Prop} {i r : Nat} (h : ¬ sn i r) : cR sn i (r + 1) = cR sn i r + 1 := by rw [cR, if_neg h]
section TR1
variable {F : ac_hp} {ki : Nat → ClassId} {ad : Nat → Nat} {s : Nat → Nat → Int32} {tl : Nat → Int64} {f : ac_hp}
variable {mc : Nat} {mt : Nat → Nat} {ml : Nat → Nat → Nat} {sz : Nat → Nat}
def snC (s : Nat → Nat → Int32) (mt : Nat → Nat) (ml : Nat → Nat → Nat) (sz : Nat → Nat) (i r : Nat) : Prop := tpl s mt ml sz i r (pkd s i (mt i) (ml i) r)
def ctJ (s : Nat → Nat → Int32) (mt : Nat → Nat) (ml : Nat → Nat → Nat) (sz : Nat → Nat) (i r : Nat) (tl : Nat → Int64) (n : Nat) : Prop := ctI s mt ml sz i r tl n ∧ n = cM (snC s mt ml sz) (fun i => sz (mt i)) i + cR (snC s mt ml sz) i r
theorem sj_ct31 {i : Nat} {E : ac_hp → Prop} (hi : i < mc) (hmc : mc ≤ 12) (hm : ∀ j, j < mc → vm_ok s j (mt j) (ml j)) (hsz : ∀ k, k < 4 → sz k ≤ 20 ∧ s (30 + 3 * k) 2 = nI (sz k))
    (hE : ∀ (tl' : Nat → Int64) (n : Nat) (f' : ac_hp), ctJ s mt ml sz i (sz (mt i)) tl' n → vr_R F ki ad (va_up s 1 (upd (s 1) 4 (nI n))) tl' f' → E f') :
    ∀ (d r : Nat) (tl : Nat → Int64) (n : Nat) (f : ac_hp), d + r = sz (mt i) → ctJ s mt ml sz i r tl n → vr_R F ki ad (va_up s 1 (upd (s 1) 4 (nI n))) tl f → wp_X1_countTriples_L31 ki (ad 1) (nI i) (nI (sz (mt i))) E (d + 1) (nI r) f := by
  have ht4 := (hm i hi).2.1
  have hs20 := (hsz _ ht4).1
  intro d
  induction d with
  | zero =>
    intro r tl n f hr hI h
    rw [wp_X1_countTriples_L31]
    have : r = sz (mt i) := by omega
    subst this
    exact ⟨fun _ => hE tl n f hI h, fun z => absurd (nI_le (Nat.le_refl _) (by omega)) z⟩
  | succ d ih =>
    intro r tl n f hr hI h
    rw [wp_X1_countTriples_L31]
    obtain ⟨⟨i1, i2, i3⟩, i4⟩ := hI
    refine ⟨fun z => absurd z (nI_ge (by omega) (by omega)), fun _ => ⟨_, rd_f (i := 1) h (by omega) rfl rfl, _, rd_map h (by omega), rd_o (i := 1) h (by omega) rfl, sp_packed h (vm_1 (hm i hi)) (by omega) ⟨rd_o (i := 1) h (by omega) rfl, ?_⟩⟩⟩
    rw [pkd_1]
    have nx : ∀ x, tpl s mt ml sz i (r + 1) x ↔ tpl s mt ml sz i r x ∨ x = pkd s i (mt i) (ml i) r := fun x => by
      constructor
      · rintro ⟨j, q, z1, z2⟩
        by_cases e : j = i ∧ q = r
        · obtain ⟨e1, e2⟩ := e; subst e1; subst e2; exact Or.inr z2
        · exact Or.inl ⟨j, q, by omega, z2⟩
      · rintro (⟨j, q, z1, z2⟩ | z)
        · exact ⟨j, q, by omega, z2⟩
        · exact ⟨i, r, by omega, z⟩
    refine sp_keepTriple (n := n) h ⟨by omega, by rw [va_up_self]; simp [upd], i2⟩ (by omega) (fun hin y hy => ?_) (fun hno a tl' f' ha hins hts h' y hy => ?_)
    · rw [hy, nI_1]
      refine ih (r + 1) tl n f (by omega) ⟨⟨by omega, i2, fun x => ?_⟩, by rw [cR_1 (show snC s mt ml sz i r from (i3 _).mp hin)]; exact i4⟩ h
      rw [nx x, i3 x]
      exact ⟨Or.inl, fun z => z.elim id (fun e => (i3 x).mp (by rw [e]; exact hin))⟩
    · rw [hy, nI_1]
      refine ih (r + 1) tl' (n + 1) f' (by omega) ⟨⟨by omega, hts.2.2, fun x => ?_⟩, by rw [cR_2 (show ¬ snC s mt ml sz i r from fun z => by obtain ⟨a, ha, e⟩ := (i3 _).mpr z; exact hno a ha e), i4]; omega⟩ (R_eq h' ?_)
      · rw [nx x, ← i3 x]
        constructor
        · rintro ⟨b, b1, b2⟩
          rw [hins b b1] at b2
          rcases Nat.lt_trichotomy b a with z | z | z
          · rw [ins_lt z] at b2; exact Or.inl ⟨b, by omega, b2⟩
          · subst z; rw [ins_eq] at b2; exact Or.inr b2.symm
          · rw [ins_gt z] at b2; exact Or.inl ⟨b - 1, by omega, b2⟩
        · rintro (⟨b, b1, b2⟩ | z)
          · rcases Nat.lt_or_ge b a with z | z
            · exact ⟨b, by omega, by rw [hins b (by omega), ins_lt z]; exact b2⟩
            · exact ⟨b + 1, by omega, by rw [hins (b + 1) (by omega), ins_gt (by omega), Nat.add_sub_cancel]; exact b2⟩
          · exact ⟨a, by omega, by rw [hins a (by omega), ins_eq]; exact z.symm⟩
      · simp only [va_up_self, bx_uu, upd_uu]
theorem sj_triples {Q : Int32 → ac_hp → Prop} (h : vr_R F ki ad s tl f) (hmc : mc ≤ 12) (h13 : s 1 3 = nI mc) (hm : ∀ j, j < mc → vm_ok s j (mt j) (ml j)) (hsz : ∀ k, k < 4 → sz k ≤ 20 ∧ s (30 + 3 * k) 2 = nI (sz k))
    (hq : ∀ (tl' : Nat → Int64) (n : Nat) (f' : ac_hp), n ≤ 240 → ctJ s mt ml sz mc 0 tl' n → vr_R F ki ad (va_up s 1 (upd (s 1) 4 (nI n))) tl' f' → Q (nI n) f') : wp_X0_triples ki (ad 0) f Q := by
  unfold wp_X0_triples wp_X1_countTriples
  refine ⟨_, rd_f (i := 0) h (by omega) rfl rfl, rd_o (i := 1) h (by omega) rfl, wr_1_4 h (fun f1 h1 => ⟨mc + 1, ?_⟩)⟩
  have key : ∀ (d i : Nat) (tl : Nat → Int64) (n : Nat) (f : ac_hp), d + i = mc → ctJ s mt ml sz i 0 tl n → vr_R F ki ad (va_up s 1 (upd (s 1) 4 (nI n))) tl f → wp_X1_countTriples_L7 ki (ad 1) (fun f18 => ∃ v19 : Int32, hr_f f18 (ad 1) 1 4 (.int v19) ∧ Q v19 f18) (d + 1) (nI i) f := by
    intro d
    induction d with
    | zero =>
      intro i tl n f hi hI h
      rw [wp_X1_countTriples_L7]
      have : i = mc := by omega
      subst this
      refine ⟨_, rd_f (i := 1) h (by omega) rfl rfl, ?_⟩
      rw [va_up_self, show upd (s 1) 4 (nI n) 3 = s 1 3 by simp [upd], h13]
      refine ⟨fun _ => ⟨_, rd_f (i := 1) h (by omega) rfl rfl, ?_⟩, fun z => absurd (nI_le (Nat.le_refl _) (by omega)) z⟩
      rw [va_up_self, show upd (s 1) 4 (nI n) 4 = nI n by simp [upd]]
      exact hq tl n f (by have := hI.1.1; omega) hI h
    | succ d ih =>
      intro i tl n f hi hI h
      rw [wp_X1_countTriples_L7]
      have himc : i < mc := by omega
      obtain ⟨m1, m2, m3, m4⟩ := hm i himc
      refine ⟨_, rd_f (i := 1) h (by omega) rfl rfl, ?_⟩
      rw [va_up_self, show upd (s 1) 4 (nI n) 3 = s 1 3 by simp [upd], h13]
      refine ⟨fun z => absurd z (nI_ge himc (by omega)), fun _ => ⟨_, rd_f (i := 1) h (by omega) rfl rfl, _, rd_map h (by omega), rd_o (i := 1) h (by omega) rfl, sp_tableOf1 h m1 m2 (by rw [va_up_ne _ _ (by omega)]; exact m3) ⟨_, rd_f h (by omega) (lay_T m2) rfl, sz (mt i) + 1, ?_⟩⟩⟩
      rw [va_up_ne _ _ (by omega), (hsz _ m2).2]
      refine sj_ct31 himc hmc hm hsz (fun tl' n' f' hI' h' y hy => ?_) (sz (mt i)) 0 tl n f (by omega) hI h
      rw [hy, nI_1]
      exact ih (i + 1) tl' n' f' (by omega) ⟨ctI_next hI'.1 (hsz _ m2).1, by rw [hI'.2, cM, cR]; omega⟩ h'
  refine key mc 0 tl 0 f1 (by omega) ⟨⟨by omega, fun a b _ hb => absurd hb (by omega), fun x => ⟨fun ⟨a, ha, _⟩ => absurd ha (by omega), fun ⟨j, q, z, _⟩ => by omega⟩⟩, rfl⟩ h1
end TR1
