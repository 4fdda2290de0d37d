/-! run -/
theorem un_s2 {s s' : Nat → Nat → Int32} {n mc : Nat} (hs : ∀ i, i = 6 ∨ i = 7 ∨ 42 ≤ i → s' i = s i) : ∀ (d a k : Nat) (T : Nat → Int32) (pre : List Nat), un s' n mc d a k T pre = un s n mc d a k T pre := by
  intro d
  induction d with
  | zero => intros; rfl
  | succ d ih =>
    intro a k T pre
    unfold un
    by_cases h : n ≤ a
    · simp only [if_pos h]
    · simp only [if_neg h]
      congr 1
      funext i
      rw [hs (42 + 3 * i) (by omega), hs 6 (by omega), pst2_x (s := s) (s0 := s') (hs 7 (by omega)) (hs _ (by omega))]
      by_cases hp : s (42 + 3 * i) 3 = s 6 a
      · simp only [if_pos hp]
        cases pst2 s a i k T with
        | none => rfl
        | some q => exact ih _ _ _ _
      · simp only [if_neg hp]
theorem unions_s2 {s s' : Nat → Nat → Int32} {n mc : Nat} (hs : ∀ i, i = 6 ∨ i = 7 ∨ 42 ≤ i → s' i = s i) : unions s' n mc = unions s n mc := un_s2 hs _ _ _ _ _
theorem qok_16 {s : Nat → Nat → Int32} {n mc : Nat} {w : Nat → Int32} (h : qok s n mc) : qok (va_up s 16 w) n mc := by
  obtain ⟨h1, h2, h3, h4, h5, h6⟩ := h
  refine ⟨h1, h2, by rw [va_up_ne _ _ (by omega)]; exact h3, by rw [va_up_ne _ _ (by omega)]; exact h4, fun a ha p hp => by rw [va_up_ne _ _ (by omega)]; exact h5 a ha p hp, fun z => ?_⟩
  rw [va_up_ne _ _ (by omega)] at z
  obtain ⟨c, y1, y2⟩ := h6 z
  refine ⟨c, by rw [va_up_ne _ _ (by omega)]; exact y1, ?_⟩
  rw [unions_s2 (fun i hi => va_up_ne _ _ (by omega)), va_up_ne _ _ (by omega), va_up_ne _ _ (by omega)]
  exact y2
/-- no answers yet -/
def A00 : AS := (0, (fun _ _ => 0), (fun _ => 0), (fun _ => 0))
section VR32
variable {F : ac_hp} {ki : Nat → ClassId} {ad : Nat → Nat} {s : Nat → Nat → Int32} {tl : Nat → Int64} {f : ac_hp}
variable {n mc : Nat} {mm tt : Nat → Nat → Nat} {cc tmm : Nat → Nat → Nat → Nat} {nn : Nat → Nat → Nat → Nat} {sz : Nat → Nat}
theorem sp_run {TP0 : Nat → Nat} {Q : Int32 → ac_hp → Prop} (h : vr_R F ki ad s tl f) (hk : qok s n mc) (hT : tbs s sz nn) (h28 : ∀ v, v < 6 → TP0 v < 6 ∧ s 28 v = nI (TP0 v))
    (hud : ∀ s2, (∀ i, i < 10 ∨ (13 < i ∧ i ≠ 16) → s2 i = s i) → known s2 n mc → (unions s n mc).length ≤ 150 → ∀ u, u < (unions s n mc).length → ud s2 n u (mm u) (tt u) (cc u) (tmm u))
    (h0 : ∀ (VM : Nat) (f' : ac_hp), VM < 64 → (∀ v, v < 6 → (VM.testBit v = true ↔ ∃ j, j < n * 2 ∧ pl_v (s 7 j) v)) → n = 0 → vr_R F ki ad (va_up s 16 (upd (upd (upd (s 16) 4 0) 5 (nI VM)) 6 0)) tl f' → Q (-1) f')
    (hLg : ∀ (VM : Nat) (s2 : Nat → Nat → Int32) (f' : ac_hp), VM < 64 → (∀ v, v < 6 → (VM.testBit v = true ↔ ∃ j, j < n * 2 ∧ pl_v (s 7 j) v)) → n ≠ 0 → 150 < (unions s n mc).length → rfd (va_up s 16 (upd (upd (upd (s 16) 4 0) 5 (nI VM)) 6 0)) s2 n mc → vr_R F ki ad s2 tl f' → Q (-3) f')
    (hS : ∀ (VM : Nat) (s2 s3 : Nat → Nat → Int32) (f' : ac_hp) (A : AS) (TP : Nat → Nat), VM < 64 → (∀ v, v < 6 → (VM.testBit v = true ↔ ∃ j, j < n * 2 ∧ pl_v (s 7 j) v)) → n ≠ 0 → (unions s n mc).length ≤ 150 → rfd (va_up s 16 (upd (upd (upd (s 16) 4 0) 5 (nI VM)) 6 0)) s2 n mc → keeps s2 s3 → s3 16 5 = nI VM → tkall (isL s2 n tt cc tmm nn sz) (unions s n mc).length A00 A false → aA s3 A → s3 16 6 = 0 → (∀ v, v < 6 → TP v < 6 ∧ s3 28 v = nI (TP v)) → vr_R F ki ad s3 tl f' → Q (nI A.1) f')
    (hB : ∀ (VM : Nat) (s2 s3 : Nat → Nat → Int32) (f' : ac_hp) (A : AS) (TP : Nat → Nat), VM < 64 → (∀ v, v < 6 → (VM.testBit v = true ↔ ∃ j, j < n * 2 ∧ pl_v (s 7 j) v)) → n ≠ 0 → (unions s n mc).length ≤ 150 → rfd (va_up s 16 (upd (upd (upd (s 16) 4 0) 5 (nI VM)) 6 0)) s2 n mc → keeps s2 s3 → s3 16 5 = nI VM → tkall (isL s2 n tt cc tmm nn sz) (unions s n mc).length A00 A true → aA s3 A → s3 16 6 = 1 → (∀ v, v < 6 → TP v < 6 ∧ s3 28 v = nI (TP v)) → vr_R F ki ad (va_up s3 16 (upd (s3 16) 4 0)) tl f' → Q (-3) f') : wp_X0_run ki (ad 0) f Q := by
  unfold wp_X0_run
  have hn := hk.1
  refine ⟨_, rd_f (i := 0) h (by omega) rfl rfl, _, rd_f (i := 0) h (by omega) rfl rfl, rd_o (i := 5) h (by omega) rfl, sp_vars h hn hk.2.2.2.1 hk.2.2.2.2.1 (fun VM hV hb => ⟨rd_o (i := 16) h (by omega) rfl, sp_begin h (fun f1 h1 => ?_)⟩)⟩
  obtain ⟨s1, e1⟩ : ∃ s1, s1 = va_up s 16 (upd (upd (upd (s 16) 4 0) 5 (nI VM)) 6 0) := ⟨_, rfl⟩
  have hk1 : qok s1 n mc := by rw [e1]; exact qok_16 hk
  have o1 : ∀ j, j ≠ 16 → s1 j = s j := fun j hj => by rw [e1, va_up_ne _ _ hj]
  have hU1 : unions s1 n mc = unions s n mc := unions_s2 (fun i hi => o1 i (by omega))
  refine ⟨_, rd_f (i := 0) h1 (by omega) rfl rfl, _, rd_f (i := 5) h1 (by omega) rfl rfl, ?_⟩
  rw [← e1] at h1 ⊢
  rw [hk1.2.2.2.1]
  refine ⟨fun hz => ?_, fun hz => h0 VM f1 hV hb ((nI_eq (b := 0) (by omega) (by omega)).mp hz) (e1 ▸ h1)⟩
  have hn0 : n ≠ 0 := fun e => hz (by rw [e]; rfl)
  refine ⟨_, rd_f (i := 0) h1 (by omega) rfl rfl, rd_o (i := 10) h1 (by omega) rfl, sp_refresh2 h1 hk1 (fun s2 f2 hr h2 => ?_)⟩
  refine ⟨_, rd_f (i := 0) h2 (by omega) rfl rfl, _, rd_f (i := 10) h2 (by omega) rfl rfl, ?_⟩
  obtain ⟨ho, h7, hkn⟩ := id hr
  have hU2 : unions s2 n mc = unions s n mc := by rw [unions_s ho, hU1]
  obtain ⟨c, hc, hx⟩ := id hkn
  rw [hU2] at hx
  obtain ⟨hc150, hx⟩ := hx
  rcases hx with ⟨z1, z2, z3, -⟩ | ⟨z1, z2⟩
  · have hlen : (unions s n mc).length ≤ 150 := by omega
    have hcl : c = (unions s n mc).length := by omega
    refine ⟨fun _ => ⟨(unions s n mc).length + 1, ?_⟩, fun z => absurd z3 z⟩
    have h16 : ∀ k, s2 16 k = upd (upd (upd (s 16) 4 0) 5 (nI VM)) 6 0 k := fun k => by rw [ho 16 (by omega), e1, va_up_self]
    have hT2 : tbs s2 sz nn := ⟨fun k hk => by rw [ho _ (by omega), o1 _ (by omega)]; exact hT.1 k hk, fun k r j a b c => by rw [ho _ (by omega), o1 _ (by omega)]; exact hT.2 k r j a b c⟩
    refine sp_run48 (U := (unions s n mc).length) (A0 := A00) (mm := mm) (tt := tt) (cc := cc) (tmm := tmm) (nn := nn) (sz := sz) hn (by rw [ho 5 (by omega)]; exact hk1.2.2.2.1) (fun a ha p hp => by rw [ho 7 (by omega)]; exact hk1.2.2.2.2.1 a ha p hp) hlen (by rw [hc, hcl]) (hud s2 (fun i hi => by rw [ho i (by omega), o1 i (by omega)]) hkn hlen) hT2 (fun s3 f3 A lg TP q1 q2 q3 q4 q5 q6 q7 h3 => ?_) (unions s n mc).length 0 s2 f2 A00 false TP0 (by omega) (fun _ _ => rfl) rfl ⟨rfl, rfl⟩ ⟨fun _ => 0, by simp [A00], by rw [h16]; simp [upd, A00]; rfl, fun i hi => absurd hi (by simp [A00]), fun i j hi => absurd hi (by simp [A00]), fun i hi => absurd hi (by simp [A00]), fun i j _ hj => absurd hj (by simp [A00])⟩ (fun z => by cases z) (fun _ => by rw [h16]; simp [upd]) (by rw [ho 28 (by omega), o1 28 (by omega)]; exact h28) h2
    have hr' : rfd (va_up s 16 (upd (upd (upd (s 16) 4 0) 5 (nI VM)) 6 0)) s2 n mc := e1 ▸ hr
    have h165 : s3 16 5 = nI VM := by rw [q2, h16]; simp [upd]
    refine ⟨_, rd_f (i := 0) h3 (by omega) rfl rfl, _, rd_f (i := 16) h3 (by omega) rfl rfl, ?_⟩
    cases lg with
    | false =>
      rw [q6 rfl]
      refine ⟨fun _ => ⟨_, rd_f (i := 0) h3 (by omega) rfl rfl, _, rd_f (i := 16) h3 (by omega) rfl rfl, ?_⟩, fun z => absurd rfl z⟩
      obtain ⟨o, ha⟩ := id q4
      rw [ha.2.1]
      exact hS VM s2 s3 f3 A TP hV hb hn0 hlen hr' q1 h165 q3 q4 (q6 rfl) q7 h3
    | true =>
      rw [q5 rfl]
      refine ⟨fun z => absurd z ne10, fun _ => ⟨_, rd_f (i := 0) h3 (by omega) rfl rfl, ?_⟩⟩
      exact wr_16_4 h3 (fun f4 h4 => hB VM s2 s3 f4 A TP hV hb hn0 hlen hr' q1 h165 q3 q4 (q5 rfl) q7 h4)
  · exact ⟨fun z => absurd (z2.symm.trans z) ne10, fun _ => hLg VM s2 f2 hV hb hn0 (by omega) (e1 ▸ hr) h2⟩
end VR32
