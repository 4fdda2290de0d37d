/-! THE CLASS'S WORLD: key, row, drop, mapping -/
section VR3
variable {F : ac_hp} {ki : Nat → ClassId} {ad : Nat → Nat} {s : Nat → Nat → Int32} {tl : Nat → Int64} {f : ac_hp}
theorem rd_tab {t : Nat} (h : vr_R F ki ad s tl f) (ht : t < 4) : hr_q (ki 3) f (ad 2) (nI t) (ad (30 + 3 * t)) := rd_q h (by omega) rfl rfl ht (by omega) (if_pos ht)
theorem rd_map {m : Nat} (h : vr_R F ki ad s tl f) (hm : m < 12) : hr_q (ki 4) f (ad 3) (nI m) (ad (42 + 3 * m)) := rd_q h (by omega) rfl rfl hm (by omega) (if_pos hm)
/-- every table has at most 20 rows -/
def vs_sz (s : Nat → Nat → Int32) : Prop := ∀ t, t < 4 → ∃ n, n ≤ 20 ∧ s (30 + 3 * t) 2 = nI n
def vs_key (s : Nat → Nat → Int32) (t c : Nat) (v : Int32) : Nat → Nat → Int32 := va_up s (32 + 3 * t) (upd (s (32 + 3 * t)) c v)
theorem nar_b {v : Int32} (h : v = 0 ∨ v = 1) : vp_nar .boolean v = v := by
  rcases h with rfl | rfl <;> rfl
theorem sp_key {x1 x2 x3 : Int32} {Q : Int32 → ac_hp → Prop} (h : vr_R F ki ad s tl f) (hsz : vs_sz s) (hb : x3 = 0 ∨ x3 = 1)
    (hbad : (¬ ∃ t : Nat, t < 4 ∧ x1 = nI t) ∨ (¬ ∃ c : Nat, c < 3 ∧ x2 = nI c) → Q (-1) f)
    (hgo : ∀ t c n : Nat, t < 4 → c < 3 → n ≤ 20 → x1 = nI t → x2 = nI c → s (30 + 3 * t) 2 = nI n →
      (s (32 + 3 * t) c = x3 → Q 0 f) ∧ (¬ s (32 + 3 * t) c = x3 → (x3 ≠ 0 ∧ vt_rep (s (31 + 3 * t)) c n → Q (-4) f) ∧ (¬ (x3 ≠ 0 ∧ vt_rep (s (31 + 3 * t)) c n) → ∀ f', vr_R F ki ad (vs_key s t c x3) tl f' → Q 1 f'))) : wp_X0_key ki (ad 0) x1 x2 x3 f Q := by
  unfold wp_X0_key
  refine pb_below 4 rfl (by omega) (fun t ht e1 => ⟨fun z => absurd z ne10, fun _ => ?_⟩) (fun hn => ⟨fun _ => hbad (Or.inl hn), fun z => absurd rfl z⟩)
  refine pb_below 3 rfl (by omega) (fun c hc e2 => ⟨fun _ => ?_, fun z => absurd z ne10⟩) (fun hn => ⟨fun z => absurd rfl z, fun _ => hbad (Or.inr hn)⟩)
  obtain ⟨n, hn, hs⟩ := hsz t ht
  obtain ⟨g0, g1⟩ := hgo t c n ht hc hn e1 e2 hs
  subst e1 e2
  refine ⟨_, rd_f h (by omega) rfl rfl, _, rd_f h (by omega) rfl rfl, _, rd_tab h ht, _, rd_f h (by omega) (lay_T ht) rfl, _, rd_i h (by omega) (lay_Tk ht) rfl hc (by omega), fun hne => ?_, fun he => g0 he⟩
  obtain ⟨g2, g3⟩ := g1 hne
  refine ⟨fun hz => ?_, fun hz => ⟨rd_o h (by omega) (lay_T ht), sp_repeats h ht hs hn hc (fun hr => ⟨fun z => absurd z ne10, fun _ => g2 ⟨hz, hr⟩⟩) (fun hr => ⟨fun _ => ?_, fun z => absurd rfl z⟩)⟩⟩
  · refine ⟨_, rd_f h (by omega) (lay_T ht) rfl, ?_⟩
    rw [nar_b hb]
    exact wr_i h (by omega) (fun s' => lay_Tk ht) rfl hc (by omega) (fun f' h' => g3 (fun q => q.1 hz) f' h')
  · refine ⟨_, rd_f h (by omega) (lay_T ht) rfl, ?_⟩
    rw [nar_b hb]
    exact wr_i h (by omega) (fun s' => lay_Tk ht) rfl hc (by omega) (fun f' h' => g3 (fun q => hr q.2) f' h')
def vt_no (s : Nat → Nat → Int32) (t n : Nat) (c : Nat) (v : Int32) : Prop := s (32 + 3 * t) c ≠ 0 ∧ vt_has (s (31 + 3 * t)) c v n
theorem sp_row {x1 x2 x3 x4 : Int32} {Q : Int32 → ac_hp → Prop} (h : vr_R F ki ad s tl f) (hsz : vs_sz s)
    (hbad : ¬ ((∃ t : Nat, t < 4 ∧ x1 = nI t) ∧ (∃ a : Nat, a < 10000 ∧ x2 = nI a) ∧ (∃ a : Nat, a < 10000 ∧ x3 = nI a) ∧ (∃ a : Nat, a < 10000 ∧ x4 = nI a)) → Q (-1) f)
    (hgo : ∀ t a b c n : Nat, t < 4 → a < 10000 → b < 10000 → c < 10000 → n ≤ 20 → x1 = nI t → x2 = nI a → x3 = nI b → x4 = nI c → s (30 + 3 * t) 2 = nI n →
      (vt_no s t n 0 x2 ∨ vt_no s t n 1 x3 ∨ vt_no s t n 2 x4 → Q (-4) f) ∧ (¬ (vt_no s t n 0 x2 ∨ vt_no s t n 1 x3 ∨ vt_no s t n 2 x4) → (n = 20 → Q (-2) f) ∧ (n < 20 → ∀ f', vr_R F ki ad (vs_append s t n x2 x3 x4) tl f' → Q (nI (n + 1)) f'))) : wp_X0_row ki (ad 0) x1 x2 x3 x4 f Q := by
  unfold wp_X0_row
  refine pb_below 4 rfl (by omega) (fun t ht e1 => ⟨fun z => absurd z ne10, fun _ => ?_⟩) (fun hn => ⟨fun _ => hbad (fun q => hn q.1), fun z => absurd rfl z⟩)
  refine pb_below 10000 rfl (by omega) (fun a ha e2 => ⟨fun z => absurd z ne10, fun _ => ?_⟩) (fun hn => ⟨fun _ => hbad (fun q => hn q.2.1), fun z => absurd rfl z⟩)
  refine pb_below 10000 rfl (by omega) (fun b hb e3 => ⟨fun z => absurd z ne10, fun _ => ?_⟩) (fun hn => ⟨fun _ => hbad (fun q => hn q.2.2.1), fun z => absurd rfl z⟩)
  refine pb_below 10000 rfl (by omega) (fun c hc e4 => ⟨fun _ => ?_, fun z => absurd z ne10⟩) (fun hn => ⟨fun z => absurd rfl z, fun _ => hbad (fun q => hn q.2.2.2)⟩)
  obtain ⟨n, hn, hs⟩ := hsz t ht
  obtain ⟨g0, g1⟩ := hgo t a b c n ht ha hb hc hn e1 e2 e3 e4 hs
  subst e1
  refine ⟨_, rd_f h (by omega) rfl rfl, _, rd_f h (by omega) rfl rfl, _, rd_tab h ht, rd_o h (by omega) (lay_T ht), ?_⟩
  refine sp_refuses (c := 0) h ht hs hn (by omega) (fun hr => ⟨fun _ => g0 (Or.inl hr), fun z => absurd z ne10⟩) (fun hr0 => ⟨fun z => absurd rfl z, fun _ => ⟨rd_o h (by omega) (lay_T ht), ?_⟩⟩)
  refine sp_refuses (c := 1) h ht hs hn (by omega) (fun hr => ⟨fun _ => g0 (Or.inr (Or.inl hr)), fun z => absurd z ne10⟩) (fun hr1 => ⟨fun z => absurd rfl z, fun _ => ⟨rd_o h (by omega) (lay_T ht), ?_⟩⟩)
  refine sp_refuses (c := 2) h ht hs hn (by omega) (fun hr => ⟨fun z => absurd z ne10, fun _ => g0 (Or.inr (Or.inr hr))⟩) (fun hr2 => ⟨fun _ => ?_, fun z => absurd rfl z⟩)
  obtain ⟨g2, g3⟩ := g1 (fun q => by
    rcases q with q | q | q
    · exact hr0 q
    · exact hr1 q
    · exact hr2 q)
  refine ⟨_, rd_f h (by omega) (lay_T ht) rfl, ?_⟩
  rw [hs]
  refine ⟨fun hlt => ⟨rd_o h (by omega) (lay_T ht), ?_⟩, fun hge => ?_⟩
  · have hn2 : n < 20 := by
      rcases Nat.lt_or_ge n 20 with z | z
      · exact z
      · exact absurd hlt (by rw [show (20 : Int32) = nI 20 from rfl]; exact nI_nlt z (by omega))
    refine sp_append h ht hs hn2 (fun f' h' => ⟨_, rd_f h' (by omega) (lay_T ht) rfl, ?_⟩)
    have e : vs_append s t n x2 x3 x4 (30 + 3 * t) 2 = nI (n + 1) := by simp [vs_append, va_up_self, upd]
    rw [e]
    exact g3 hn2 f' h'
  · refine g2 ?_
    rcases Nat.lt_or_ge n 20 with z | z
    · exact absurd (by rw [show (20 : Int32) = nI 20 from rfl]; exact nI_lt z (by omega)) hge
    · omega
end VR3
