/-! THE CLASS'S WORLD: tables -/
def bz (p : Prop) [Decidable p] : Int32 := if p then 1 else 0
theorem bz_t {p : Prop} [Decidable p] (h : p) : bz p = 1 := if_pos h
theorem bz_f {p : Prop} [Decidable p] (h : ¬ p) : bz p = 0 := if_neg h
section VR2
variable {F : ac_hp} {ki : Nat → ClassId} {ad : Nat → Nat} {s : Nat → Nat → Int32} {tl : Nat → Int64} {f : ac_hp}
theorem pb_isBelow {a b : Int32} {Q : Int32 → ac_hp → Prop} (h1 : ¬ a < 0 ∧ a < b → Q 1 f) (h0 : ¬ (¬ a < 0 ∧ a < b) → Q 0 f) : wp_X0_isBelow ki a b f Q := by
  unfold wp_X0_isBelow
  refine ⟨fun h => h0 (fun q => q.1 h), fun h => ⟨fun g => h0 (fun q => absurd q.2 (Int32.not_lt.mpr g)), fun g => h1 ⟨h, Int32.not_le.mp g⟩⟩⟩
/-- a call's test of an argument against a limit: both roads -/
theorem pb_below {a b : Int32} (n : Nat) {Q : Int32 → ac_hp → Prop} (hb : b = nI n) (hn : n < 2 ^ 31) (h1 : ∀ j : Nat, j < n → a = nI j → Q 1 f) (h0 : (¬ ∃ j : Nat, j < n ∧ a = nI j) → Q 0 f) : wp_X0_isBelow ki a b f Q := by
  subst hb
  refine pb_isBelow (fun h => ?_) (fun h => ?_)
  · rcases pk_ix a hn with z | z | ⟨j, hj, e⟩
    · exact absurd z h.1
    · exact absurd h.2 (Int32.not_lt.mpr z)
    · exact h1 j hj e
  · rcases pk_ix a hn with z | z | ⟨j, hj, e⟩
    · exact h0 (fun ⟨j, hj, e⟩ => absurd z (by rw [e]; exact nI_pos (by omega)))
    · exact h0 (fun ⟨j, hj, e⟩ => absurd z (by rw [e]; exact nI_ge hj hn))
    · exact absurd ⟨by rw [e]; exact nI_pos (by omega), by rw [e]; exact nI_lt hj hn⟩ h
theorem ne10 : ¬ (1 : Int32) = 0 := by decide
/-- two rows above each other with one number -/
def vt_rep (cells : Nat → Int32) (c n : Nat) : Prop := ∃ r, r < n ∧ vt_has cells c (cells (r * 3 + c)) r
theorem sp_repeats_L {t c n : Nat} {Q : Int32 → ac_hp → Prop} {E : ac_hp → Prop} (h : vr_R F ki ad s tl f) (ht : t < 4) (hs : s (30 + 3 * t) 2 = nI n) (hn : n ≤ 20) (hc : c < 3)
    (hy : vt_rep (s (31 + 3 * t)) c n → Q 1 f) (hno : ¬ vt_rep (s (31 + 3 * t)) c n → E f) : ∀ (d r : Nat), n ≤ d + r → r ≤ 21 → (∀ q, q < r → ¬ vt_has (s (31 + 3 * t)) c (s (31 + 3 * t) (q * 3 + c)) q) → wp_X2_repeats_L2 ki (ad (30 + 3 * t)) (nI c) Q E (d + 1) (nI r) f := by
  intro d
  induction d with
  | zero =>
    intro r hr hr2 hq
    rw [wp_X2_repeats_L2]
    refine ⟨_, rd_f h (by omega) (lay_T ht) rfl, ?_⟩
    rw [hs]
    refine ⟨fun _ => hno ?_, fun hc => absurd (nI_le (by omega) (by omega)) hc⟩
    rintro ⟨q, hq1, hq2⟩
    exact hq q (by omega) hq2
  | succ d ih =>
    intro r hr hr2 hq
    rw [wp_X2_repeats_L2]
    refine ⟨_, rd_f h (by omega) (lay_T ht) rfl, ?_⟩
    rw [hs]
    by_cases hle : n ≤ r
    · refine ⟨fun _ => hno ?_, fun hc => absurd (nI_le hle (by omega)) hc⟩
      rintro ⟨q, hq1, hq2⟩
      exact hq q (by omega) hq2
    · refine ⟨fun hle2 => absurd hle2 (nI_ge (by omega) (by omega)), fun _ => ⟨rd_o h (by omega) (lay_T ht), sp_cell h ht (by omega) ⟨rd_o h (by omega) (lay_T ht), sp_holds h ht (by omega) hc (fun hh => ⟨fun z => absurd z ne10, fun _ => hy ⟨r, by omega, hh⟩⟩) (fun hh => ⟨fun _ => ?_, fun z => absurd rfl z⟩)⟩⟩⟩
      intro w hw
      rw [hw, nI_1]
      refine ih (r + 1) (by omega) (by omega) (fun q hq1 => ?_)
      by_cases hqr : q = r
      · subst hqr; exact hh
      · exact hq q (by omega)
theorem sp_repeats {t c n : Nat} {Q : Int32 → ac_hp → Prop} (h : vr_R F ki ad s tl f) (ht : t < 4) (hs : s (30 + 3 * t) 2 = nI n) (hn : n ≤ 20) (hc : c < 3)
    (hy : vt_rep (s (31 + 3 * t)) c n → Q 1 f) (hno : ¬ vt_rep (s (31 + 3 * t)) c n → Q 0 f) : wp_X2_repeats ki (ad (30 + 3 * t)) (nI c) f Q := by
  unfold wp_X2_repeats
  refine ⟨n + 1, sp_repeats_L h ht hs hn hc hy hno n 1 (by omega) (by omega) (fun q hq => ?_)⟩
  rintro ⟨z, hz, -⟩
  omega
theorem sp_refuses {t c n : Nat} {v : Int32} {Q : Int32 → ac_hp → Prop} (h : vr_R F ki ad s tl f) (ht : t < 4) (hs : s (30 + 3 * t) 2 = nI n) (hn : n ≤ 20) (hc : c < 3)
    (hy : s (32 + 3 * t) c ≠ 0 ∧ vt_has (s (31 + 3 * t)) c v n → Q 1 f) (hno : ¬ (s (32 + 3 * t) c ≠ 0 ∧ vt_has (s (31 + 3 * t)) c v n) → Q 0 f) : wp_X2_refuses ki (ad (30 + 3 * t)) (nI c) v f Q := by
  unfold wp_X2_refuses
  refine ⟨_, rd_f h (by omega) (lay_T ht) rfl, _, rd_i h (by omega) (lay_Tk ht) rfl hc (by omega), fun hz => hno (fun q => q.1 hz), fun hz => ⟨_, rd_f h (by omega) (lay_T ht) rfl, rd_o h (by omega) (lay_T ht), ?_⟩⟩
  rw [hs]
  exact sp_holds h ht hn hc (fun hh => ⟨fun z => absurd z ne10, fun _ => hy ⟨hz, hh⟩⟩) (fun hh => ⟨fun _ => hno (fun q => hh q.2), fun z => absurd rfl z⟩)
/-- the state behind an appended row -/
def vs_append (s : Nat → Nat → Int32) (t n : Nat) (a b c : Int32) : Nat → Nat → Int32 :=
  va_up (va_up s (31 + 3 * t) (upd (upd (upd (s (31 + 3 * t)) (n * 3) a) (n * 3 + 1) b) (n * 3 + 2) c)) (30 + 3 * t) (upd (s (30 + 3 * t)) 2 (nI (n + 1)))
theorem sp_append {t n : Nat} {a b c : Int32} {Q : ac_hp → Prop} (h : vr_R F ki ad s tl f) (ht : t < 4) (hs : s (30 + 3 * t) 2 = nI n) (hn : n < 20)
    (hq : ∀ f', vr_R F ki ad (vs_append s t n a b c) tl f' → Q f') : wp_X2_append ki (ad (30 + 3 * t)) a b c f Q := by
  unfold wp_X2_append
  refine ⟨_, rd_f h (by omega) (lay_T ht) rfl, ?_⟩
  intro v2 e2
  rw [hs, show (3 : Int32) = nI 3 from rfl, pk_mul] at e2
  subst e2
  refine ⟨_, rd_f h (by omega) (lay_T ht) rfl, ?_⟩
  refine wr_i h (by omega) (fun s' => lay_Tc ht) rfl (by omega) (by omega) (fun f4 h4 => ?_)
  refine ⟨_, rd_f h4 (by omega) (lay_T ht) rfl, ?_⟩
  refine wr_i h4 (by omega) (fun s' => lay_Tc ht) (nI_1 (n * 3)) (by omega) (by omega) (fun f6 h6 => ?_)
  refine ⟨_, rd_f h6 (by omega) (lay_T ht) rfl, ?_⟩
  refine wr_i (j := n * 3 + 2) h6 (by omega) (fun s' => lay_Tc ht) (by rw [show (2 : Int32) = nI 2 from rfl, nI_add]) (by omega) (by omega) (fun f8 h8 => ?_)
  refine ⟨_, rd_f h8 (by omega) (lay_T ht) rfl, ?_⟩
  have e8 : (va_up (va_up (va_up s (31 + 3 * t) (upd (s (31 + 3 * t)) (n * 3) a)) (31 + 3 * t) (upd (va_up s (31 + 3 * t) (upd (s (31 + 3 * t)) (n * 3) a) (31 + 3 * t)) (n * 3 + 1) b)) (31 + 3 * t) (upd (va_up (va_up s (31 + 3 * t) (upd (s (31 + 3 * t)) (n * 3) a)) (31 + 3 * t) (upd (va_up s (31 + 3 * t) (upd (s (31 + 3 * t)) (n * 3) a) (31 + 3 * t)) (n * 3 + 1) b) (31 + 3 * t)) (n * 3 + 2) c)) = va_up s (31 + 3 * t) (upd (upd (upd (s (31 + 3 * t)) (n * 3) a) (n * 3 + 1) b) (n * 3 + 2) c) := by
    simp only [bx_uu, va_up_self]
  rw [e8] at h8 ⊢
  have e9 : va_up s (31 + 3 * t) (upd (upd (upd (s (31 + 3 * t)) (n * 3) a) (n * 3 + 1) b) (n * 3 + 2) c) (30 + 3 * t) = s (30 + 3 * t) := va_up_ne _ _ (by omega)
  refine wr_f h8 (by omega) (lay_T ht) (Nat.le_of_ble_eq_true rfl) ?_ (fun f' h' => hq f' ?_)
  · rw [lay_T ht]
    simp [va_up_self, upd]
  · rw [e9, hs, nI_1] at h'
    exact h'
end VR2
