/-! THE CLASS'S WORLD: atom, span, clear -/
section VR6
variable {F : ac_hp} {ki : Nat → ClassId} {ad : Nat → Nat} {s : Nat → Nat → Int32} {tl : Nat → Int64} {f : ac_hp}
theorem wr_1_3 {v : Int32} {N : ac_hp → Prop} (h : vr_R F ki ad s tl f) (kk : ∀ f', vr_R F ki ad (va_up s 1 (upd (s 1) 3 v)) tl f' → N f') : ∃ f', hw_f f (ad 1) 1 3 (.int v) f' ∧ N f' := wr_n (fun w => [.ref (ad 2), .ref (ad 3), .ref (ad 4), .int (w 3), .int (w 4)]) h (by omega) (fun s' => rfl) (Nat.le_of_ble_eq_true rfl) (by simp [upd]) kk
theorem wr_1_4 {v : Int32} {N : ac_hp → Prop} (h : vr_R F ki ad s tl f) (kk : ∀ f', vr_R F ki ad (va_up s 1 (upd (s 1) 4 v)) tl f' → N f') : ∃ f', hw_f f (ad 1) 1 4 (.int v) f' ∧ N f' := wr_n (fun w => [.ref (ad 2), .ref (ad 3), .ref (ad 4), .int (w 3), .int (w 4)]) h (by omega) (fun s' => rfl) (Nat.le_of_ble_eq_true rfl) (by simp [upd]) kk
theorem wr_5_4 {v : Int32} {N : ac_hp → Prop} (h : vr_R F ki ad s tl f) (kk : ∀ f', vr_R F ki ad (va_up s 5 (upd (s 5) 4 v)) tl f' → N f') : ∃ f', hw_f f (ad 5) 4 4 (.int v) f' ∧ N f' := wr_n (fun w => [.ref (ad 6), .ref (ad 7), .ref (ad 8), .ref (ad 9), .int (w 4), .int (w 5)]) h (by omega) (fun s' => rfl) (Nat.le_of_ble_eq_true rfl) (by simp [upd]) kk
theorem wr_5_5 {v : Int32} {N : ac_hp → Prop} (h : vr_R F ki ad s tl f) (kk : ∀ f', vr_R F ki ad (va_up s 5 (upd (s 5) 5 v)) tl f' → N f') : ∃ f', hw_f f (ad 5) 4 5 (.int v) f' ∧ N f' := wr_n (fun w => [.ref (ad 6), .ref (ad 7), .ref (ad 8), .ref (ad 9), .int (w 4), .int (w 5)]) h (by omega) (fun s' => rfl) (Nat.le_of_ble_eq_true rfl) (by simp [upd]) kk
theorem wr_10_5 {v : Int32} {N : ac_hp → Prop} (h : vr_R F ki ad s tl f) (kk : ∀ f', vr_R F ki ad (va_up s 10 (upd (s 10) 5 v)) tl f' → N f') : ∃ f', hw_f f (ad 10) 5 5 (.int v) f' ∧ N f' := wr_n (fun w => [.ref (ad 1), .ref (ad 5), .ref (ad 11), .ref (ad 12), .ref (ad 13), .int (w 5), .int (w 6), .int (w 7)]) h (by omega) (fun s' => rfl) (Nat.le_of_ble_eq_true rfl) (by simp [upd]) kk
theorem wr_10_6 {v : Int32} {N : ac_hp → Prop} (h : vr_R F ki ad s tl f) (kk : ∀ f', vr_R F ki ad (va_up s 10 (upd (s 10) 6 v)) tl f' → N f') : ∃ f', hw_f f (ad 10) 5 6 (.int v) f' ∧ N f' := wr_n (fun w => [.ref (ad 1), .ref (ad 5), .ref (ad 11), .ref (ad 12), .ref (ad 13), .int (w 5), .int (w 6), .int (w 7)]) h (by omega) (fun s' => rfl) (Nat.le_of_ble_eq_true rfl) (by simp [upd]) kk
theorem wr_10_7 {v : Int32} {N : ac_hp → Prop} (h : vr_R F ki ad s tl f) (kk : ∀ f', vr_R F ki ad (va_up s 10 (upd (s 10) 7 v)) tl f' → N f') : ∃ f', hw_f f (ad 10) 5 7 (.int v) f' ∧ N f' := wr_n (fun w => [.ref (ad 1), .ref (ad 5), .ref (ad 11), .ref (ad 12), .ref (ad 13), .int (w 5), .int (w 6), .int (w 7)]) h (by omega) (fun s' => rfl) (Nat.le_of_ble_eq_true rfl) (by simp [upd]) kk
theorem wr_14_4 {v : Int32} {N : ac_hp → Prop} (h : vr_R F ki ad s tl f) (kk : ∀ f', vr_R F ki ad (va_up s 14 (upd (s 14) 4 v)) tl f' → N f') : ∃ f', hw_f f (ad 14) 6 4 (.int v) f' ∧ N f' := wr_n (fun w => [.ref (ad 1), .ref (ad 5), .ref (ad 10), .ref (ad 15), .int (w 4)]) h (by omega) (fun s' => rfl) (Nat.le_of_ble_eq_true rfl) (by simp [upd]) kk
theorem wr_16_4 {v : Int32} {N : ac_hp → Prop} (h : vr_R F ki ad s tl f) (kk : ∀ f', vr_R F ki ad (va_up s 16 (upd (s 16) 4 v)) tl f' → N f') : ∃ f', hw_f f (ad 16) 7 4 (.int v) f' ∧ N f' := wr_n (fun w => [.ref (ad 17), .ref (ad 18), .ref (ad 19), .ref (ad 20), .int (w 4), .int (w 5), .int (w 6)]) h (by omega) (fun s' => rfl) (Nat.le_of_ble_eq_true rfl) (by simp [upd]) kk
theorem wr_16_5 {v : Int32} {N : ac_hp → Prop} (h : vr_R F ki ad s tl f) (kk : ∀ f', vr_R F ki ad (va_up s 16 (upd (s 16) 5 v)) tl f' → N f') : ∃ f', hw_f f (ad 16) 7 5 (.int v) f' ∧ N f' := wr_n (fun w => [.ref (ad 17), .ref (ad 18), .ref (ad 19), .ref (ad 20), .int (w 4), .int (w 5), .int (w 6)]) h (by omega) (fun s' => rfl) (Nat.le_of_ble_eq_true rfl) (by simp [upd]) kk
theorem wr_16_6 {v : Int32} {N : ac_hp → Prop} (h : vr_R F ki ad s tl f) (kk : ∀ f', vr_R F ki ad (va_up s 16 (upd (s 16) 6 v)) tl f' → N f') : ∃ f', hw_f f (ad 16) 7 6 (.int v) f' ∧ N f' := wr_n (fun w => [.ref (ad 17), .ref (ad 18), .ref (ad 19), .ref (ad 20), .int (w 4), .int (w 5), .int (w 6)]) h (by omega) (fun s' => rfl) (Nat.le_of_ble_eq_true rfl) (by simp [upd]) kk
theorem wr_21_12 {v : Int32} {N : ac_hp → Prop} (h : vr_R F ki ad s tl f) (kk : ∀ f', vr_R F ki ad (va_up s 21 (upd (s 21) 12 v)) tl f' → N f') : ∃ f', hw_f f (ad 21) 8 12 (.int v) f' ∧ N f' := wr_n (fun w => [.ref (ad 5), .ref (ad 10), .ref (ad 14), .ref (ad 16), .ref (ad 22), .ref (ad 23), .ref (ad 24), .ref (ad 25), .ref (ad 26), .ref (ad 27), .ref (ad 28), .ref (ad 29), .int (w 12)]) h (by omega) (fun s' => rfl) (Nat.le_of_ble_eq_true rfl) (by simp [upd]) kk
theorem pb_place {a : Int32} {Q : Int32 → ac_hp → Prop} (h1 : ¬ a < (-6) ∧ a < 60000 → Q 1 f) (h0 : ¬ (¬ a < (-6) ∧ a < 60000) → Q 0 f) : wp_X0_isPlace ki a f Q := by
  unfold wp_X0_isPlace
  exact ⟨fun h => h0 (fun q => q.1 h), fun h => ⟨fun g => h0 (fun q => absurd q.2 (Int32.not_lt.mpr g)), fun g => h1 ⟨h, Int32.not_le.mp g⟩⟩⟩
def vs_atom (s : Nat → Nat → Int32) (n : Nat) (x1 x2 x3 : Int32) : Nat → Nat → Int32 :=
  va_up (va_up (va_up s 6 (upd (s 6) n x1)) 7 (upd (upd (s 7) (n * 2) x2) (n * 2 + 1) x3)) 5 (upd (s 5) 4 (nI (n + 1)))
theorem sp_qappend {n : Nat} {x1 x2 x3 : Int32} {Q : ac_hp → Prop} (h : vr_R F ki ad s tl f) (hs : s 5 4 = nI n) (hn : n < 4) (hq : ∀ f', vr_R F ki ad (vs_atom s n x1 x2 x3) tl f' → Q f') : wp_X4_append ki (ad 5) x1 x2 x3 f Q := by
  unfold wp_X4_append
  refine ⟨_, rd_f (i := 5) h (by omega) rfl rfl, _, rd_f (i := 5) h (by omega) rfl rfl, ?_⟩
  refine wr_i (i := 6) h (by omega) (fun s' => rfl) hs hn (by omega) (fun f3 h3 => ?_)
  refine ⟨_, rd_f (i := 5) h3 (by omega) rfl rfl, _, rd_f (i := 5) h3 (by omega) rfl rfl, ?_⟩
  refine wr_i (i := 7) (j := n * 2) h3 (by omega) (fun s' => rfl) ?_ (by omega) (by omega) (fun f6 h6 => ?_)
  · simp (disch := omega) only [va_up_ne]
    rw [hs, show (2 : Int32) = nI 2 from rfl, pk_mul]
  refine ⟨_, rd_f (i := 5) h6 (by omega) rfl rfl, _, rd_f (i := 5) h6 (by omega) rfl rfl, ?_⟩
  refine wr_i (i := 7) (j := n * 2 + 1) h6 (by omega) (fun s' => rfl) ?_ (by omega) (by omega) (fun f9 h9 => ?_)
  · simp (disch := omega) only [va_up_ne]
    rw [hs, show (2 : Int32) = nI 2 from rfl, pk_mul, nI_1]
  refine ⟨_, rd_f (i := 5) h9 (by omega) rfl rfl, ?_⟩
  have h9 := R_eq (s' := va_up (va_up s 6 (upd (s 6) n x1)) 7 (upd (upd (s 7) (n * 2) x2) (n * 2 + 1) x3)) h9 (by
    simp (disch := omega) only [va_up_self, va_up_ne, bx_uu])
  refine wr_f (i := 5) h9 (by omega) rfl (Nat.le_of_ble_eq_true rfl) rfl (fun f' h' => hq f' (R_eq h' ?_))
  simp (disch := omega) only [va_up_self, va_up_ne, vs_atom]
  rw [hs, nI_1]
theorem lt_num {n k : Nat} {x : Int32} (hx : x = nI k) (hk : k < 2 ^ 31) (hn : n ≤ k) : (nI n < x → n < k) ∧ (¬ nI n < x → n = k) := by
  subst hx
  refine ⟨fun h => ?_, fun h => ?_⟩
  · rcases Nat.lt_or_ge n k with z | z
    · exact z
    · exact absurd h (nI_nlt z (by omega))
  · rcases Nat.lt_or_ge n k with z | z
    · exact absurd (nI_lt z hk) h
    · omega
theorem sp_atom {x1 x2 x3 : Int32} {n : Nat} {Q : Int32 → ac_hp → Prop} (h : vr_R F ki ad s tl f) (hs : s 5 4 = nI n) (hn : n ≤ 4)
    (hbad : ¬ ((∃ p : Nat, p < 8 ∧ x1 = nI p) ∧ (¬ x2 < (-6) ∧ x2 < 60000) ∧ (¬ x3 < (-6) ∧ x3 < 60000)) → Q (-1) f)
    (hgo : (∃ p : Nat, p < 8 ∧ x1 = nI p) → (¬ x2 < (-6) ∧ x2 < 60000) → (¬ x3 < (-6) ∧ x3 < 60000) → (n = 4 → Q (-2) f) ∧ (n < 4 → ∀ f', vr_R F ki ad (va_up (vs_atom s n x1 x2 x3) 10 (upd (s 10) 7 0)) tl f' → Q (nI (n + 1)) f')) : wp_X0_atom ki (ad 0) x1 x2 x3 f Q := by
  unfold wp_X0_atom
  refine pb_below 8 rfl (by omega) (fun p hp e1 => ⟨fun z => absurd z ne10, fun _ => ?_⟩) (fun hn => ⟨fun _ => hbad (fun q => hn q.1), fun z => absurd rfl z⟩)
  refine pb_place (fun p2 => ⟨fun z => absurd z ne10, fun _ => ?_⟩) (fun hn => ⟨fun _ => hbad (fun q => hn q.2.1), fun z => absurd rfl z⟩)
  refine pb_place (fun p3 => ⟨fun _ => ?_, fun z => absurd z ne10⟩) (fun hn => ⟨fun z => absurd rfl z, fun _ => hbad (fun q => hn q.2.2)⟩)
  obtain ⟨g0, g1⟩ := hgo ⟨p, hp, e1⟩ p2 p3
  refine ⟨_, rd_f (i := 0) h (by omega) rfl rfl, _, rd_f (i := 5) h (by omega) rfl rfl, ?_⟩
  rw [hs]
  refine ⟨fun hlt => ?_, fun hge => g0 ((lt_num (k := 4) rfl (by omega) hn).2 hge)⟩
  have hn4 := (lt_num (k := 4) rfl (by omega) hn).1 hlt
  refine ⟨_, rd_f (i := 0) h (by omega) rfl rfl, rd_o (i := 5) h (by omega) rfl, sp_qappend h hs hn4 (fun f10 h10 => ?_)⟩
  refine ⟨_, rd_f (i := 0) h10 (by omega) rfl rfl, rd_o (i := 10) h10 (by omega) rfl, sp_forget h10 (fun f12 h12 => ?_)⟩
  refine ⟨_, rd_f (i := 0) h12 (by omega) rfl rfl, _, rd_f (i := 5) h12 (by omega) rfl rfl, ?_⟩
  refine Q_eq (b := nI (n + 1)) ?_ (g1 hn4 f12 (R_eq h12 ?_))
  · simp (disch := omega) only [va_up_self, va_up_ne, vs_atom]
    simp only [upd, if_true]
  · simp (disch := omega) only [va_up_self, va_up_ne, vs_atom]
def jmax (x y : Int32) : Int32 := if x < y then y else x
def jmin (x y : Int32) : Int32 := if y < x then y else x
theorem pb_max {x y : Int32} {R : Int32 → ac_hp → Prop} (q : R (jmax x y) f) : wp_JMath_max ki x y f R := by
  unfold wp_JMath_max
  unfold jmax at q
  exact ⟨fun z => by rw [if_pos z] at q; exact q, fun z => by rw [if_neg z] at q; exact q⟩
theorem pb_min {x y : Int32} {R : Int32 → ac_hp → Prop} (q : R (jmin x y) f) : wp_JMath_min ki x y f R := by
  unfold wp_JMath_min
  unfold jmin at q
  exact ⟨fun z => by rw [if_pos z] at q; exact q, fun z => by rw [if_neg z] at q; exact q⟩
def vs_span (s : Nat → Nat → Int32) (v n : Nat) (a b : Int32) : Nat → Nat → Int32 :=
  va_up (va_up (va_up s 8 (upd (s 8) v (jmax (s 8 v) a))) 9 (upd (s 9) v (jmin (s 9 v) b))) 5 (upd (s 5) 5 (nI (n + 1)))
theorem sp_narrow {v n : Nat} {a b : Int32} {Q : ac_hp → Prop} (h : vr_R F ki ad s tl f) (hv : v < 6) (hs : s 5 5 = nI n) (hn : n < 4) (hq : ∀ f', vr_R F ki ad (vs_span s v n a b) tl f' → Q f') : wp_X4_narrow ki (ad 5) (nI v) a b f Q := by
  unfold wp_X4_narrow
  refine ⟨_, rd_f (i := 5) h (by omega) rfl rfl, _, rd_f (i := 5) h (by omega) rfl rfl, _, rd_i (i := 8) h (by omega) rfl rfl hv (by omega), ?_⟩
  refine pb_max ?_
  refine wr_i (i := 8) h (by omega) (fun s' => rfl) rfl hv (by omega) (fun f6 h6 => ?_)
  refine ⟨_, rd_f (i := 5) h6 (by omega) rfl rfl, _, rd_f (i := 5) h6 (by omega) rfl rfl, _, rd_i (i := 9) h6 (by omega) rfl rfl hv (by omega), ?_⟩
  refine pb_min ?_
  refine wr_i (i := 9) h6 (by omega) (fun s' => rfl) rfl hv (by omega) (fun f12 h12 => ?_)
  refine ⟨_, rd_f (i := 5) h12 (by omega) rfl rfl, ?_⟩
  refine wr_5_5 h12 (fun f' h' => hq f' (R_eq h' ?_))
  simp (disch := omega) only [va_up_self, va_up_ne, vs_span]
  rw [hs, nI_1]
theorem sp_span {x1 a b : Int32} {n : Nat} {Q : Int32 → ac_hp → Prop} (h : vr_R F ki ad s tl f) (hs : s 5 5 = nI n) (hn : n ≤ 4)
    (hbad : (¬ ∃ v : Nat, v < 6 ∧ x1 = nI v) → Q (-1) f)
    (hgo : ∀ v : Nat, v < 6 → x1 = nI v → (n = 4 → Q (-2) f) ∧ (n < 4 → ∀ f', vr_R F ki ad (vs_span s v n a b) tl f' → Q (nI (n + 1)) f')) : wp_X0_span ki (ad 0) x1 a b f Q := by
  unfold wp_X0_span
  refine pb_below 6 rfl (by omega) (fun v hv e1 => ⟨fun _ => ?_, fun z => absurd z ne10⟩) (fun hn => ⟨fun z => absurd rfl z, fun _ => hbad hn⟩)
  obtain ⟨g0, g1⟩ := hgo v hv e1
  subst e1
  refine ⟨_, rd_f (i := 0) h (by omega) rfl rfl, _, rd_f (i := 5) h (by omega) rfl rfl, ?_⟩
  rw [hs]
  refine ⟨fun hlt => ?_, fun hge => g0 ((lt_num (k := 4) rfl (by omega) hn).2 hge)⟩
  have hn4 := (lt_num (k := 4) rfl (by omega) hn).1 hlt
  refine ⟨_, rd_f (i := 0) h (by omega) rfl rfl, rd_o (i := 5) h (by omega) rfl, sp_narrow h hv hs hn4 (fun f6 h6 => ?_)⟩
  refine ⟨_, rd_f (i := 0) h6 (by omega) rfl rfl, _, rd_f (i := 5) h6 (by omega) rfl rfl, ?_⟩
  refine Q_eq (b := nI (n + 1)) ?_ (g1 hn4 f6 h6)
  simp (disch := omega) only [va_up_self, va_up_ne, vs_span]
  simp only [upd, if_true]
def fill (w : Nat → Int32) (n : Nat) (v : Int32) : Nat → Int32 := fun j => if j < n then v else w j
theorem fill_0 {w : Nat → Int32} {v : Int32} : fill w 0 v = w := by funext j; simp [fill]
theorem fill_s {w : Nat → Int32} {n : Nat} {v : Int32} : upd (fill w n v) n v = fill w (n + 1) v := by
  funext j
  simp only [upd, fill]
  by_cases h : j = n
  · simp [h]
  · by_cases h2 : j < n
    · simp [h, h2, Nat.lt_succ_of_lt h2]
    · have : ¬ j < n + 1 := by omega
      simp [h, h2, this]
theorem sp_reset_L {E : ac_hp → Prop} : ∀ (d v : Nat) (f : ac_hp), d + v = 6 → vr_R F ki ad (va_up (va_up s 8 (fill (s 8) v 0)) 9 (fill (s 9) v 9999)) tl f → (∀ f', vr_R F ki ad (va_up (va_up s 8 (fill (s 8) 6 0)) 9 (fill (s 9) 6 9999)) tl f' → E f') → wp_X4_reset_L12 ki (ad 5) E (d + 1) (nI v) f := by
  intro d
  induction d with
  | zero =>
    intro v f hv h hE
    rw [wp_X4_reset_L12]
    have : v = 6 := by omega
    subst this
    exact ⟨fun _ => hE f h, fun z => absurd (show (6 : Int32) ≤ nI 6 by decide) z⟩
  | succ d ih =>
    intro v f hv h hE
    rw [wp_X4_reset_L12]
    refine ⟨fun z => absurd z (by rw [show (6 : Int32) = nI 6 from rfl]; exact nI_ge (by omega) (by omega)), fun _ => ?_⟩
    refine ⟨_, rd_f (i := 5) h (by omega) rfl rfl, ?_⟩
    refine wr_i (i := 8) h (by omega) (fun s' => rfl) rfl (by omega) (by omega) (fun f4 h4 => ?_)
    refine ⟨_, rd_f (i := 5) h4 (by omega) rfl rfl, ?_⟩
    refine wr_i (i := 9) h4 (by omega) (fun s' => rfl) rfl (by omega) (by omega) (fun f6 h6 => ?_)
    intro w hw
    rw [hw, nI_1]
    refine ih (v + 1) f6 (by omega) (R_eq h6 ?_) hE
    funext i
    by_cases i1 : i = 9
    · subst i1; simp (disch := omega) only [va_up_self, va_up_ne, fill_s]
    · by_cases i2 : i = 8
      · subst i2; simp (disch := omega) only [va_up_self, va_up_ne, fill_s]
      · simp (disch := omega) only [va_up_self, va_up_ne]
def vs_clear (s : Nat → Nat → Int32) : Nat → Nat → Int32 :=
  va_up (va_up (va_up (va_up s 5 (upd (upd (s 5) 4 0) 5 0)) 8 (fill (s 8) 6 0)) 9 (fill (s 9) 6 9999)) 10 (upd (s 10) 7 0)
theorem sp_clear {Q : Int32 → ac_hp → Prop} (h : vr_R F ki ad s tl f) (hq : ∀ f', vr_R F ki ad (vs_clear s) tl f' → Q (s 5 4) f') : wp_X0_clear ki (ad 0) f Q := by
  unfold wp_X0_clear
  refine ⟨_, rd_f (i := 0) h (by omega) rfl rfl, _, rd_f (i := 5) h (by omega) rfl rfl, _, rd_f (i := 0) h (by omega) rfl rfl, rd_o (i := 5) h (by omega) rfl, ?_⟩
  unfold wp_X4_reset
  refine wr_f (i := 5) h (by omega) rfl (Nat.le_of_ble_eq_true rfl) rfl (fun f1 h1 => ?_)
  refine wr_f (i := 5) h1 (by omega) rfl (Nat.le_of_ble_eq_true rfl) rfl (fun f2 h2 => ?_)
  have h2 := R_eq (s' := va_up s 5 (upd (upd (s 5) 4 0) 5 0)) h2 (by simp (disch := omega) only [va_up_self, va_up_ne, bx_uu])
  refine ⟨7, sp_reset_L (s := va_up s 5 (upd (upd (s 5) 4 0) 5 0)) 6 0 f2 (by omega) (R_eq h2 ?_) (fun f4 h4 => ?_)⟩
  · funext i
    by_cases i1 : i = 9
    · subst i1; simp (disch := omega) only [va_up_self, va_up_ne, fill_0]
    · by_cases i2 : i = 8
      · subst i2; simp (disch := omega) only [va_up_self, va_up_ne, fill_0]
      · simp (disch := omega) only [va_up_self, va_up_ne]
  · refine ⟨_, rd_f (i := 0) h4 (by omega) rfl rfl, rd_o (i := 10) h4 (by omega) rfl, sp_forget h4 (fun f6 h6 => hq f6 (R_eq h6 ?_))⟩
    simp (disch := omega) only [va_up_self, va_up_ne, vs_clear]
end VR6
