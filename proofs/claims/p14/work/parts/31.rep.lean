/-! unions, union, estimate -/
def rfd (s s' : Nat → Nat → Int32) (n mc : Nat) : Prop := (∀ i, i < 10 ∨ 13 < i → s' i = s i) ∧ s' 10 7 ≠ 0 ∧ known s' n mc
theorem un_s {s s' : Nat → Nat → Int32} {n mc : Nat} (hs : ∀ i, i < 10 ∨ 13 < i → s' i = s i) : ∀ (d a k : Nat) (T : Nat → Int32) (pre : List Nat), un s' n mc d a k T pre = un s n mc d a k T pre := by
  intro d
  induction d with
  | zero => intros; rfl
  | succ d ih =>
    intro a k T pre
    unfold un
    by_cases h : n ≤ a
    · simp only [if_pos h]
    · simp only [if_neg h]
      congr 1
      funext i
      rw [hs (42 + 3 * i) (by omega), hs 6 (by omega), pst2_x (s := s) (s0 := s') (hs 7 (by omega)) (hs _ (by omega))]
      by_cases hp : s (42 + 3 * i) 3 = s 6 a
      · simp only [if_pos hp]
        cases pst2 s a i k T with
        | none => rfl
        | some q => exact ih _ _ _ _
      · simp only [if_neg hp]
theorem unions_s {s s' : Nat → Nat → Int32} {n mc : Nat} (hs : ∀ i, i < 10 ∨ 13 < i → s' i = s i) : unions s' n mc = unions s n mc := un_s hs _ _ _ _ _
section VR12
variable {F : ac_hp} {ki : Nat → ClassId} {ad : Nat → Nat} {s : Nat → Nat → Int32} {tl : Nat → Int64} {f : ac_hp}
/-- the question and the mappings are as they should be -/
def qok (s : Nat → Nat → Int32) (n mc : Nat) : Prop := n ≤ 4 ∧ mc ≤ 12 ∧ s 1 3 = nI mc ∧ s 5 4 = nI n ∧ (∀ a, a < n → vs_pl s a) ∧ (¬ s 10 7 = 0 → known s n mc)
theorem sp_refresh2 {n mc : Nat} {Q : ac_hp → Prop} (h : vr_R F ki ad s tl f) (hk : qok s n mc) (hq : ∀ s' f', rfd s s' n mc → vr_R F ki ad s' tl f' → Q f') : wp_X5_refresh ki (ad 10) f Q := by
  obtain ⟨h1, h2, h3, h4, h5, h6⟩ := hk
  refine sp_refresh h h1 h2 h3 h4 h5 (fun z => hq s f ⟨fun _ _ => rfl, z, h6 z⟩ h) (fun z c lg K R T f' hx h' => hq _ f' ?_ h')
  have ho : ∀ i, i < 10 ∨ 13 < i → va_up (vs_x s (nI c) lg K R T) 10 (upd (upd (upd (s 10) 5 (nI c)) 6 lg) 7 1) i = s i := fun i hi => by rw [va_up_ne _ _ (by omega), vx_o hi]
  refine ⟨ho, ?_, c, ?_, ?_⟩
  · rw [va_up_self]; simp [upd]
  · rw [va_up_self]; simp [upd]
  · rw [unions_s ho, va_up_self, va_up_ne _ _ (by omega), vx_11]
    simpa [upd] using hx
theorem sp_unions {n mc : Nat} {Q : Int32 → ac_hp → Prop} (h : vr_R F ki ad s tl f) (hk : qok s n mc)
    (h0 : n = 0 → Q (-1) f) (hL : n ≠ 0 → 150 < (unions s n mc).length → ∀ s' f', rfd s s' n mc → vr_R F ki ad s' tl f' → Q (-3) f')
    (hS : n ≠ 0 → (unions s n mc).length ≤ 150 → ∀ s' f', rfd s s' n mc → vr_R F ki ad s' tl f' → Q (nI (unions s n mc).length) f') : wp_X0_unions ki (ad 0) f Q := by
  unfold wp_X0_unions
  refine ⟨_, rd_f (i := 0) h (by omega) rfl rfl, _, rd_f (i := 5) h (by omega) rfl rfl, ?_⟩
  have hn := hk.1
  rw [hk.2.2.2.1]
  refine ⟨fun hz => ?_, fun hz => h0 ((nI_eq (b := 0) (by omega) (by omega)).mp hz)⟩
  have hn0 : n ≠ 0 := fun e => hz (by rw [e]; rfl)
  refine ⟨_, rd_f (i := 0) h (by omega) rfl rfl, rd_o (i := 10) h (by omega) rfl, sp_refresh2 h hk (fun s' f' hr h' => ?_)⟩
  refine ⟨_, rd_f (i := 0) h' (by omega) rfl rfl, _, rd_f (i := 10) h' (by omega) rfl rfl, ?_⟩
  obtain ⟨ho, h7, c, hc, hx⟩ := id hr
  rw [unions_s ho] at hx
  obtain ⟨hc150, hx⟩ := hx
  rcases hx with ⟨z1, z2, z3, -⟩ | ⟨z1, z2⟩
  · refine ⟨fun _ => ⟨_, rd_f (i := 0) h' (by omega) rfl rfl, _, rd_f (i := 10) h' (by omega) rfl rfl, ?_⟩, fun z => absurd z3 z⟩
    rw [hc, z2, Nat.zero_add]
    exact hS hn0 (by omega) s' f' hr h'
  · exact ⟨fun z => absurd (z2.symm.trans z) ne10, fun _ => hL hn0 (by omega) s' f' hr h'⟩
/-- the trouble with union number x: a refusal, or none and the union's number -/
theorem sp_trouble {n mc : Nat} {x : Int32} {Q : Int32 → ac_hp → Prop} (h : vr_R F ki ad s tl f) (hk : qok s n mc)
    (hneg : x < 0 ∨ n = 0 → Q (-1) f)
    (hL : ¬ x < 0 → n ≠ 0 → 150 < (unions s n mc).length → ∀ s' f', rfd s s' n mc → vr_R F ki ad s' tl f' → Q (-3) f')
    (hB : ¬ x < 0 → n ≠ 0 → (unions s n mc).length ≤ 150 → (¬ ∃ u, u < (unions s n mc).length ∧ x = nI u) → ∀ s' f', rfd s s' n mc → vr_R F ki ad s' tl f' → Q (-1) f')
    (hS : ∀ u, n ≠ 0 → (unions s n mc).length ≤ 150 → u < (unions s n mc).length → x = nI u → ∀ s' f', rfd s s' n mc → vr_R F ki ad s' tl f' → Q 0 f') : wp_X0_troubleWith ki (ad 0) x f Q := by
  unfold wp_X0_troubleWith
  refine ⟨fun hz => hneg (Or.inl hz), fun hx0 => ?_⟩
  refine ⟨_, rd_f (i := 0) h (by omega) rfl rfl, _, rd_f (i := 5) h (by omega) rfl rfl, ?_⟩
  have hn := hk.1
  rw [hk.2.2.2.1]
  refine ⟨fun hz => ?_, fun hz => hneg (Or.inr ((nI_eq (b := 0) (by omega) (by omega)).mp hz))⟩
  have hn0 : n ≠ 0 := fun e => hz (by rw [e]; rfl)
  refine ⟨_, rd_f (i := 0) h (by omega) rfl rfl, rd_o (i := 10) h (by omega) rfl, sp_refresh2 h hk (fun s' f' hr h' => ?_)⟩
  refine ⟨_, rd_f (i := 0) h' (by omega) rfl rfl, _, rd_f (i := 10) h' (by omega) rfl rfl, ?_⟩
  obtain ⟨ho, h7, c, hc, hx⟩ := id hr
  rw [unions_s ho] at hx
  obtain ⟨hc150, hx⟩ := hx
  rcases hx with ⟨z1, z2, z3, -⟩ | ⟨z1, z2⟩
  · refine ⟨fun _ => ⟨_, rd_f (i := 0) h' (by omega) rfl rfl, _, rd_f (i := 10) h' (by omega) rfl rfl, ?_⟩, fun z => absurd z3 z⟩
    rw [hc, z2, Nat.zero_add]
    refine ⟨fun hge => hB hx0 hn0 (by omega) ?_ s' f' hr h', fun hlt => ?_⟩
    · rintro ⟨u, hu, e⟩
      exact absurd hge (by rw [e]; exact nI_ge hu (by omega))
    · rcases pk_ix x (n := (unions s n mc).length) (by omega) with z | z | ⟨u, hu, e⟩
      · exact absurd z hx0
      · exact absurd z hlt
      · exact hS u hn0 (by omega) hu e s' f' hr h'
  · exact ⟨fun z => absurd (z2.symm.trans z) ne10, fun _ => hL hx0 hn0 (by omega) s' f' hr h'⟩
end VR12
