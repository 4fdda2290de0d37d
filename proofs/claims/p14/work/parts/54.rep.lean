/-! union -/
theorem w_4 : ∀ k, k < 9 → ((4 : Int32) ≤ nI k ↔ 4 ≤ k) := by decide +kernel
theorem w_8 : ∀ k, k < 9 → ((8 : Int32) ≤ nI k ↔ 8 ≤ k) := by decide +kernel
theorem w_s : ∀ k, k < 8 → 4 ≤ k → nI k - 4 = nI (k - 4) := by decide +kernel
theorem w_r : ∀ k, k < 8 → nI k - nI k / 4 * 4 = nI (k % 4) := by decide +kernel
theorem w_e : ∀ k, k < 8 → ¬ nI k = (8 : Int32) := by decide +kernel
section VR35
variable {F : ac_hp} {ki : Nat → ClassId} {ad : Nat → Nat} {s : Nat → Nat → Int32} {tl : Nat → Int64} {f : ac_hp}
variable {n : Nat}
/-- what may be asked of a union -/
def askd (n : Nat) (y : Int32) (k : Nat) : Prop := k < 9 ∧ y = nI k ∧ (k = 8 ∨ k % 4 < n)
theorem sp_isAsked {y : Int32} {Q : Int32 → ac_hp → Prop} (h : vr_R F ki ad s tl f) (hn : n ≤ 4) (h5 : s 5 4 = nI n) (hy : ∀ k, askd n y k → Q 1 f) (hno : (¬ ∃ k, askd n y k) → Q 0 f) : wp_X0_isAsked ki (ad 0) y f Q := by
  unfold wp_X0_isAsked
  refine ⟨fun hne => ?_, fun he => hy 8 ⟨by omega, he, Or.inl rfl⟩⟩
  refine pb_below 8 rfl (by omega) (fun k hk e => ⟨fun z => absurd z ne10, fun _ => ⟨_, rd_f (i := 0) h (by omega) rfl rfl, _, rd_f (i := 5) h (by omega) rfl rfl, ?_⟩⟩) (fun hb => ⟨fun _ => hno ?_, fun z => absurd rfl z⟩)
  · subst e
    rw [h5, w_r k hk]
    refine ⟨fun hle => hno ?_, fun hgt => hy k ⟨by omega, rfl, Or.inr ?_⟩⟩
    · rintro ⟨j, j1, j2, j3⟩
      have : k = j := (nI_eq (by omega) (by omega)).mp j2
      subst this
      rcases j3 with z | z
      · omega
      · exact absurd hle (nI_ge z (by omega))
    · rcases Nat.lt_or_ge (k % 4) n with z | z
      · exact z
      · exact absurd (nI_le z (by omega)) hgt
  · rintro ⟨j, j1, j2, j3⟩
    by_cases e : j = 8
    · subst e; exact hne j2
    · exact hb ⟨j, by omega, j2⟩
theorem sp_union {mc : Nat} {x y : Int32} {Q : Int32 → ac_hp → Prop} (h : vr_R F ki ad s tl f) (hk : qok s n mc)
    (hA : (¬ ∃ k, askd n y k) → Q (-1) f)
    (hneg : (∃ k, askd n y k) → x < 0 ∨ n = 0 → Q (-1) f)
    (hL : (∃ k, askd n y k) → ¬ x < 0 → n ≠ 0 → 150 < (unions s n mc).length → ∀ s' f', rfd s s' n mc → vr_R F ki ad s' tl f' → Q (-3) f')
    (hB : (∃ k, askd n y k) → ¬ x < 0 → n ≠ 0 → (unions s n mc).length ≤ 150 → (¬ ∃ u, u < (unions s n mc).length ∧ x = nI u) → ∀ s' f', rfd s s' n mc → vr_R F ki ad s' tl f' → Q (-1) f')
    (hS : ∀ u k, askd n y k → n ≠ 0 → (unions s n mc).length ≤ 150 → u < (unions s n mc).length → x = nI u → ∀ s1 f1, rfd s s1 n mc → vr_R F ki ad s1 tl f1 →
      (k < 4 → Q (s1 11 (u * 4 + k)) f1) ∧ (4 ≤ k → ∃ m t c, uok s1 u n m t c ∧ ∀ g ct w f', SL (one_ s1 t c) n g ct → vr_R F ki ad (vs_sl s1 w ct) tl f' → (k < 8 → Q (nI (g (k - 4))) f') ∧ (k = 8 → Q (nI ct) f'))) : wp_X0_union ki (ad 0) x y f Q := by
  unfold wp_X0_union
  have hn := hk.1
  refine ⟨rd_o (i := 0) h (by omega) rfl, sp_isAsked h hn hk.2.2.2.1 (fun k ha => ⟨fun _ => ⟨rd_o (i := 0) h (by omega) rfl, ?_⟩, fun z => absurd z ne10⟩) (fun ha => ⟨fun z => absurd rfl z, fun _ => hA ha⟩)⟩
  refine sp_trouble h hk (fun z => ⟨fun y => absurd y (by decide), fun _ => hneg ⟨k, ha⟩ z⟩) (fun z1 z2 z3 s' f' hr h' => ⟨fun y => absurd y (by decide), fun _ => hL ⟨k, ha⟩ z1 z2 z3 s' f' hr h'⟩) (fun z1 z2 z3 z4 s' f' hr h' => ⟨fun y => absurd y (by decide), fun _ => hB ⟨k, ha⟩ z1 z2 z3 z4 s' f' hr h'⟩) (fun u z1 z2 z3 z4 s' f' hr h' => ⟨fun _ => ?_, fun y => absurd rfl y⟩)
  obtain ⟨y1, y2⟩ := hS u k ha z1 z2 z3 z4 s' f' hr h'
  obtain ⟨k9, ek, kn⟩ := ha
  subst z4
  subst ek
  have h5 : s' 5 4 = nI n := by rw [hr.1 5 (by omega)]; exact hk.2.2.2.1
  refine ⟨fun h4 => ?_, fun h4 => ?_⟩
  · have hk4 := (w_4 k k9).mp h4
    obtain ⟨m, t, c, q1, q2⟩ := y2 hk4
    refine ⟨_, rd_f (i := 0) h' (by omega) rfl rfl, rd_o (i := 14) h' (by omega) rfl, sp_assign h' q1 hn h5 (fun g ct w f2 hSL hw h2 => ?_)⟩
    obtain ⟨r1, r2⟩ := q2 g ct w f2 hSL h2
    refine ⟨fun h8 => ⟨_, rd_f (i := 0) h2 (by omega) rfl rfl, _, rd_f (i := 14) h2 (by omega) rfl rfl, ?_⟩, fun h8 => ?_⟩
    · rw [vsl_14, show upd (s' 14) 4 (nI ct) 4 = nI ct by simp [upd]]
      exact r2 (by have := (w_8 k k9).mp h8; omega)
    · have hk8 : k < 8 := by
        rcases Nat.lt_or_ge k 8 with z | z
        · exact z
        · exact absurd ((w_8 k k9).mpr z) h8
      refine ⟨_, rd_f (i := 0) h2 (by omega) rfl rfl, _, rd_f (i := 14) h2 (by omega) rfl rfl, _, rd_i (i := 15) (j := k - 4) h2 (by omega) rfl (w_s k hk8 hk4) (by omega) (by omega), ?_⟩
      rw [vsl_15, hw (k - 4) (by omega)]
      exact r1 hk8
  · have hk4 : k < 4 := by
      rcases Nat.lt_or_ge k 4 with z | z
      · exact z
      · exact absurd ((w_4 k k9).mpr z) h4
    refine ⟨_, rd_f (i := 0) h' (by omega) rfl rfl, rd_o (i := 10) h' (by omega) rfl, sp_chosen h' (by omega) (y1 hk4)⟩
end VR35
