/-! variables; run -/
section VR31
variable {F : ac_hp} {ki : Nat → ClassId} {ad : Nat → Nat} {s : Nat → Nat → Int32} {tl : Nat → Int64} {f : ac_hp}
variable {n U mc : Nat} {mm tt : Nat → Nat → Nat} {cc tmm : Nat → Nat → Nat → Nat} {nn : Nat → Nat → Nat → Nat} {sz : Nat → Nat}
theorem sp_vars_L {E : Int32 → ac_hp → Prop} (h : vr_R F ki ad s tl f) (hn : n ≤ 4) (h5 : s 5 4 = nI n) (hpl : ∀ a, a < n → vs_pl s a)
    (hE : ∀ VM, VM < 64 → (∀ v, v < 6 → (VM.testBit v = true ↔ ∃ j, j < n * 2 ∧ pl_v (s 7 j) v)) → E (nI VM) f) :
    ∀ (d i VM : Nat), d + i = n * 2 → VM < 64 → (∀ v, v < 6 → (VM.testBit v = true ↔ ∃ j, j < i ∧ pl_v (s 7 j) v)) → wp_X4_variables_L4 ki (ad 5) E (d + 1) (nI VM) (nI i) f := by
  intro d
  induction d with
  | zero =>
    intro i VM hi hV hb
    rw [wp_X4_variables_L4]
    have : i = n * 2 := by omega
    subst this
    refine ⟨_, rd_f (i := 5) h (by omega) rfl rfl, ?_⟩
    rw [h5, show (2 : Int32) = nI 2 from rfl, pk_mul]
    exact ⟨fun _ => hE VM hV hb, fun z => absurd (nI_le (Nat.le_refl _) (by omega)) z⟩
  | succ d ih =>
    intro i VM hi hV hb
    rw [wp_X4_variables_L4]
    have hi2 : i < n * 2 := by omega
    refine ⟨_, rd_f (i := 5) h (by omega) rfl rfl, ?_⟩
    rw [h5, show (2 : Int32) = nI 2 from rfl, pk_mul]
    refine ⟨fun z => absurd z (nI_ge hi2 (by omega)), fun _ => ⟨_, rd_f (i := 5) h (by omega) rfl rfl, _, rd_i (i := 7) h (by omega) rfl rfl (show i < 8 by omega) (by omega), ?_⟩⟩
    have hp := hpl (i / 2) (by omega) (i % 2) (by omega)
    rw [show i / 2 * 2 + i % 2 = i by omega] at hp
    rcases pl_cases hp with ⟨x, hx⟩ | ⟨v, hv⟩
    · have hx0 : 0 ≤ s 7 i := by rw [hx.2]; exact nI_pos' (by have := hx.1; omega)
      refine pb_isV (fun _ => ⟨fun _ y hy => ?_, fun z => absurd rfl z⟩) (fun z => absurd hx0 z)
      rw [hy, nI_1]
      refine ih (i + 1) VM (by omega) hV (fun w hw => (hb w hw).trans ⟨fun ⟨j, z1, z2⟩ => ⟨j, by omega, z2⟩, fun ⟨j, z1, z2⟩ => ⟨j, ?_, z2⟩⟩)
      by_cases e : j = i
      · subst e; exact absurd hx0 (by rw [z2.2]; exact (var_of w z2.1).2)
      · omega
    · have hneg : ¬ 0 ≤ s 7 i := by rw [hv.2]; exact (var_of v hv.1).2
      refine pb_isV (fun z => absurd z hneg) (fun _ => ⟨fun z => absurd z ne10, fun _ => ⟨_, rd_f (i := 5) h (by omega) rfl rfl, _, rd_i (i := 7) h (by omega) rfl rfl (show i < 8 by omega) (by omega), ?_⟩⟩)
      unfold wp_X0_variableOf wp_X0_with
      dsimp only
      rw [show (-1 : Int32) - s 7 i = nI v by rw [hv.2]; exact (var_of v hv.1).1, (bt_with VM hV v hv.1).1]
      intro y hy
      rw [hy, nI_1]
      refine ih (i + 1) (VM ||| 2 ^ v) (by omega) (bt_with VM hV v hv.1).2 (fun w hw => ?_)
      rw [bt_or VM hV v hv.1 w hw]
      simp only [Bool.or_eq_true, decide_eq_true_eq]
      constructor
      · rintro (z | z)
        · obtain ⟨j, z1, z2⟩ := (hb w hw).mp z
          exact ⟨j, by omega, z2⟩
        · subst z; exact ⟨i, by omega, hv⟩
      · rintro ⟨j, z1, z2⟩
        by_cases e : j = i
        · subst e; exact Or.inr (plv_inj z2 hv)
        · exact Or.inl ((hb w hw).mpr ⟨j, by omega, z2⟩)
theorem sp_vars {Q : Int32 → ac_hp → Prop} (h : vr_R F ki ad s tl f) (hn : n ≤ 4) (h5 : s 5 4 = nI n) (hpl : ∀ a, a < n → vs_pl s a)
    (hq : ∀ VM, VM < 64 → (∀ v, v < 6 → (VM.testBit v = true ↔ ∃ j, j < n * 2 ∧ pl_v (s 7 j) v)) → Q (nI VM) f) : wp_X4_variables ki (ad 5) f Q := by
  unfold wp_X4_variables
  refine ⟨n * 2 + 1, sp_vars_L h hn h5 hpl hq (n * 2) 0 0 (by omega) (by omega) (fun v hv => ⟨fun z => ?_, fun ⟨j, hj, _⟩ => absurd hj (by omega)⟩)⟩
  simp at z
end VR31
