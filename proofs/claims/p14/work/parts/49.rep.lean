/-! run: the loop over the unions -/
def ud (s : Nat → Nat → Int32) (n u : Nat) (m t : Nat → Nat) (c tm : Nat → Nat → Nat) : Prop :=
  uok s u n m t c ∧ (∀ a, a < n → ∀ p, p < 2 → tm a p < 6 ∧ s (43 + 3 * m a) p = nI (tm a p)) ∧ ∀ a b p q v, a < n → b < n → p < 2 → q < 2 → pl_v (s 7 (a * 2 + p)) v → pl_v (s 7 (b * 2 + q)) v → tm a p = tm b q
/-- the tables: sizes and numbers -/
def tbs (s : Nat → Nat → Int32) (sz : Nat → Nat) (nn : Nat → Nat → Nat → Nat) : Prop :=
  (∀ k, k < 4 → sz k ≤ 20 ∧ s (30 + 3 * k) 2 = nI (sz k)) ∧ ∀ k r j, k < 4 → r < sz k → j < 3 → nn k r j < 10000 ∧ s (31 + 3 * k) (r * 3 + j) = nI (nn k r j)
def keeps (s s' : Nat → Nat → Int32) : Prop := ∀ j, j < 14 ∨ 29 < j → s' j = s j
theorem ud_k {s s' : Nat → Nat → Int32} {n u : Nat} {m t : Nat → Nat} {c tm : Nat → Nat → Nat} (e : keeps s s') (h : ud s n u m t c tm) : ud s' n u m t c tm := by
  obtain ⟨⟨h1, h2⟩, h3, h4⟩ := h
  refine ⟨⟨h1, fun a ha => ?_⟩, fun a ha p hp => by rw [e _ (by omega)]; exact h3 a ha p hp, by rw [e 7 (by omega)]; exact h4⟩
  obtain ⟨y1, y2, y3, y4, y5⟩ := h2 a ha
  exact ⟨by rw [e 11 (by omega)]; exact y1, y2, y3, by rw [e _ (by omega)]; exact y4, fun p hp => by rw [e _ (by omega)]; exact y5 p hp⟩
theorem tbs_k {s s' : Nat → Nat → Int32} {sz : Nat → Nat} {nn : Nat → Nat → Nat → Nat} (e : keeps s s') (h : tbs s sz nn) : tbs s' sz nn :=
  ⟨fun k hk => by rw [e _ (by omega)]; exact h.1 k hk, fun k r j h1 h2 h3 => by rw [e _ (by omega)]; exact h.2 k r j h1 h2 h3⟩
/-- L: what union u finds, each once -/
def isL (s : Nat → Nat → Int32) (n : Nat) (tt : Nat → Nat → Nat) (cc tmm : Nat → Nat → Nat → Nat) (nn : Nat → Nat → Nat → Nat) (sz : Nat → Nat) (u : Nat) (L : List (Nat → Nat)) : Prop :=
  ∃ g ct, SL (one_ s (tt u) (cc u)) n g ct ∧ L.Nodup ∧ ∀ w, w ∈ L ↔ uans s n g (tt u) (cc u) (tmm u) nn sz w
def tkall (I : Nat → List (Nat → Nat) → Prop) : Nat → AS → AS → Bool → Prop
  | 0, A, B, lg => B = A ∧ lg = false
  | u + 1, A, B, lg => (∃ C L, tkall I u A C false ∧ I u L ∧ tks u L C B lg) ∨ (tkall I u A B true ∧ lg = true)
theorem tkall_up {I : Nat → List (Nat → Nat) → Prop} {u : Nat} {A B : AS} (h : tkall I u A B true) : ∀ d, tkall I (u + d) A B true := by
  intro d
  induction d with
  | zero => exact h
  | succ d ih => exact Or.inr ⟨ih, rfl⟩
theorem SL_k {s s' : Nat → Nat → Int32} {t : Nat → Nat} {c : Nat → Nat → Nat} {n ct : Nat} {g : Nat → Nat} (e : keeps s s') (h : SL (one_ s' t c) n g ct) : SL (one_ s t c) n g ct := by
  refine SL_congr h (fun _ _ => rfl) (fun a b => ?_)
  unfold one_ oneR pr1; rw [e 7 (by omega), e (32 + 3 * t a) (by omega)]
section VR30
variable {F : ac_hp} {ki : Nat → ClassId} {ad : Nat → Nat} {s : Nat → Nat → Int32} {tl : Nat → Int64}
variable {n U : Nat} {mm tt : Nat → Nat → Nat} {cc tmm : Nat → Nat → Nat → Nat} {nn : Nat → Nat → Nat → Nat} {sz : Nat → Nat}
theorem sp_run48 {A0 : AS} {E : ac_hp → Prop} (hn : n ≤ 4) (h5 : s 5 4 = nI n) (hpl : ∀ a, a < n → vs_pl s a) (hU : U ≤ 150) (h10 : s 10 5 = nI U) (hud : ∀ u, u < U → ud s n u (mm u) (tt u) (cc u) (tmm u)) (hT : tbs s sz nn)
    (hE : ∀ (s2 : Nat → Nat → Int32) (f2 : ac_hp) (A : AS) (lg : Bool) (TP : Nat → Nat), keeps s s2 → s2 16 5 = s 16 5 → tkall (isL s n tt cc tmm nn sz) U A0 A lg → aA s2 A → (lg = true → s2 16 6 = 1) → (lg = false → s2 16 6 = 0) → (∀ v, v < 6 → TP v < 6 ∧ s2 28 v = nI (TP v)) → vr_R F ki ad s2 tl f2 → E f2) :
    ∀ (d u : Nat) (s2 : Nat → Nat → Int32) (f : ac_hp) (A : AS) (lg : Bool) (TP : Nat → Nat), d + u = U → keeps s s2 → s2 16 5 = s 16 5 → tkall (isL s n tt cc tmm nn sz) u A0 A lg → aA s2 A → (lg = true → s2 16 6 = 1) → (lg = false → s2 16 6 = 0) → (∀ v, v < 6 → TP v < 6 ∧ s2 28 v = nI (TP v)) → vr_R F ki ad s2 tl f → wp_X0_run_L48 ki (ad 0) E (d + 1) (nI u) f := by
  intro d
  induction d with
  | zero =>
    intro u s2 f A lg TP hu q1 q2 q3 q4 q5 q6 q7 h
    rw [wp_X0_run_L48]
    have : u = U := by omega
    subst this
    refine ⟨_, rd_f (i := 0) h (by omega) rfl rfl, _, rd_f (i := 10) h (by omega) rfl rfl, ?_⟩
    rw [q1 10 (by omega), h10]
    exact ⟨fun _ => hE s2 f A lg TP q1 q2 q3 q4 q5 q6 q7 h, fun z => absurd (nI_le (Nat.le_refl u) (by omega)) z⟩
  | succ d ih =>
    intro u s2 f A lg TP hu q1 q2 q3 q4 q5 q6 q7 h
    rw [wp_X0_run_L48]
    have huU : u < U := by omega
    refine ⟨_, rd_f (i := 0) h (by omega) rfl rfl, _, rd_f (i := 10) h (by omega) rfl rfl, ?_⟩
    rw [q1 10 (by omega), h10]
    refine ⟨fun z => absurd z (nI_ge huU (by omega)), fun _ => ⟨_, rd_f (i := 0) h (by omega) rfl rfl, _, rd_f (i := 16) h (by omega) rfl rfl, ?_⟩⟩
    cases lg with
    | true =>
      rw [q5 rfl]
      have e := tkall_up q3 (d + 1)
      rw [show u + (d + 1) = U by omega] at e
      exact ⟨fun _ => hE s2 f A true TP q1 q2 e q4 q5 q6 q7 h, fun z => absurd z ne10⟩
    | false =>
      rw [q6 rfl]
      refine ⟨fun z => absurd rfl z, fun _ => ⟨_, rd_f (i := 0) h (by omega) rfl rfl, rd_o (i := 21) h (by omega) rfl, ?_⟩⟩
      obtain ⟨u1, u2, u3⟩ := ud_k q1 (hud u huU)
      obtain ⟨t1, t2⟩ := tbs_k q1 hT
      refine sp_find (A := A) (TP0 := TP) h u1 hn (by rw [q1 5 (by omega)]; exact h5) (fun a ha p hp => by rw [q1 7 (by omega)]; exact hpl a ha p hp) u2 u3 t1 t2 q7 q4 (q6 rfl) (fun g ct L s3 f3 A' lg' TP' z1 z2 z3 z4 z5 z6 z7 z8 z9 z10 h3 x hx => ?_)
      rw [hx, nI_1]
      have hU2 : ∀ w, uans s2 n g (tt u) (cc u) (tmm u) nn sz w = uans s n g (tt u) (cc u) (tmm u) nn sz w := fun w => uans_eq (q1 7 (by omega)) (q1 8 (by omega)) (q1 9 (by omega))
      exact ih (u + 1) s3 f3 A' lg' TP' (by omega) (fun j hj => by rw [z8 j hj, q1 j hj]) (by rw [z9, q2]) (Or.inl ⟨A, L, q3, ⟨g, ct, SL_k q1 z1, z2, fun w => by rw [z3 w, hU2]⟩, z4⟩) z5 z6 z7 z10 h3
end VR30
