/-! the reference's answers of a union are the class's (uans) -/
def Wc (VB : Nat → Bool) (q : Nat × (Nat → Int32)) (N : Nat → Int32) (v : Nat) : Nat := if VB v then 10000 * (q.2 v).toNatClampNeg + (N v).toNatClampNeg else 0
section FI8
variable {s t : Nat → Nat → Int32} {sz : Nat → Nat} {nn : Nat → Nat → Nat → Nat} {kk : Nat → Nat → Int32} {mc n sp ct : Nat} {mt pr : Nat → Nat} {ml mtm : Nat → Nat → Nat} {c sl R : Nat → Nat} {VB : Nat → Bool} {q : Nat × (Nat → Int32)} {N : Nat → Int32}
theorem rem_n {d : Nat} (hd : d < 60000) : nI d - nI d / 10000 * 10000 = nI (d % 10000) := pk_rem (a := d) (d := 10000) (by omega) (by omega) (by omega)
theorem val_n (hx : RX t sz nn kk mc n sp) (hr : RM t mc mt pr ml mtm) (hc : ∀ a, a < n → c a < mc) {a p : Nat} (ha : a < n) (hp : p < 2) (hR : R (sl a) < sz (mt (c a))) : valR t mt ml c sl R a p = nI (nn (mt (c a)) (R (sl a)) (ml (c a) p)) ∧ nn (mt (c a)) (R (sl a)) (ml (c a) p) < 10000 := by
  obtain ⟨a1, -, -, -, a5⟩ := hr (c a) (hc a ha)
  obtain ⟨-, -, b3, -⟩ := a5 p hp
  obtain ⟨c1, c2⟩ := hx.1.2 (mt (c a)) (R (sl a)) (ml (c a) p) a1 hR b3
  exact ⟨c2, c1⟩
/-- what rows R and numbers N say, atom by atom -/
theorem RA_d (hx : RX t sz nn kk mc n sp) (hr : RM t mc mt pr ml mtm) (hc : ∀ a, a < n → c a < mc) (hsl : ∀ a, a < n → sl a < ct) (hq : rst t c n = some q) (h : RA t mt ml sz sp n ct c sl R N) :
    (∀ a, a < n → ∀ p, p < 2 → (∀ d, pl_c (t 9 (2 * a + p)) d → nn (mt (c a)) (R (sl a)) (ml (c a) p) = d % 10000) ∧ ∀ v, pl_v (t 9 (2 * a + p)) v → N v = nI (nn (mt (c a)) (R (sl a)) (ml (c a) p)) ∧ q.2 v = nI (mtm (c a) p)) ∧ ∀ v, v < 6 → (∀ a, a < n → ∀ p, p < 2 → ¬ pl_v (t 9 (2 * a + p)) v) → N v = -1 := by
  obtain ⟨h1, h2, h3⟩ := h
  have hpl := hx.2.2.2.1.2.2
  obtain ⟨g1, g2⟩ := ag1 hpl (fun a p ha hp _ => by rw [(val_n hx hr hc ha hp (h1 a ha)).1]; exact nI_pos (by have := (val_n hx hr hc ha hp (h1 a ha)).2; omega)) n N (Nat.le_refl _) h2
  refine ⟨fun a ha p hp => ⟨fun d hd => ?_, fun v hv => ⟨?_, ?_⟩⟩, fun v hv hno => ?_⟩
  · obtain ⟨e1, e2⟩ := val_n (p := p) hx hr hc ha hp (h1 a ha)
    have := (g1 a ha (by have := hsl a ha; omega) p hp).1 d hd
    rw [e1, rem_n hd.1] at this
    exact (nI_eq (by omega) (by omega)).mp this
  · obtain ⟨e1, e2⟩ := val_n (p := p) hx hr hc ha hp (h1 a ha)
    have := (g1 a ha (by have := hsl a ha; omega) p hp).2 v hv
    rw [this, e1]
  · have := (rst_var hpl n q (Nat.le_refl _) hq a ha p hp v hv).2
    rw [this]
    exact ((hr (c a) (hc a ha)).2.2.2.2 p hp).2.1
  · rcases g2 v hv with z | ⟨b, hb, -, p, hp, hv2, -⟩
    · exact z
    · exact absurd hv2 (hno b hb p hp)
theorem RA_F (hx : RX t sz nn kk mc n sp) (hr : RM t mc mt pr ml mtm) (hc : ∀ a, a < n → c a < mc) (hsl : ∀ a, a < n → sl a < ct) (hq : rst t c n = some q) (hVB : ∀ v, VB v = true ↔ ∃ a, a < n ∧ ∃ p, p < 2 ∧ pl_v (t 9 (2 * a + p)) v) (h : RA t mt ml sz sp n ct c sl R N) : cfit VB (Wc VB q N) ∧ ∀ w18 s2, TR q w18 → s2 18 = w18 → (∀ v, v < 6 → s2 17 v = N v) → hand s2 VB (Wc VB q N) := by
  obtain ⟨d1, d2⟩ := RA_d hx hr hc hsl hq h
  have key : ∀ v, VB v = true → ∃ x y, x < 10000 ∧ y < 6 ∧ N v = nI x ∧ q.2 v = nI y ∧ q.1.testBit v = true ∧ Wc VB q N v = 10000 * y + x := fun v hv => by
    obtain ⟨a, ha, p, hp, hpv⟩ := (hVB v).mp hv
    obtain ⟨e1, e2⟩ := (d1 a ha p hp).2 v hpv
    have hn := (val_n (p := p) hx hr hc ha hp (h.1 a ha)).2
    have hm := ((hr (c a) (hc a ha)).2.2.2.2 p hp).1
    refine ⟨_, _, hn, hm, e1, e2, (rst_var hx.2.2.2.1.2.2 n q (Nat.le_refl _) hq a ha p hp v hpv).1, ?_⟩
    unfold Wc
    rw [if_pos hv, e1, e2, nI_cl (by omega), nI_cl (by omega)]
  refine ⟨fun v hv => ⟨?_, fun hb => ?_⟩, fun w18 s2 hT e18 e17 v hv => ⟨fun hb => ?_, fun hb => ?_⟩⟩
  · cases hb : VB v with
    | true => obtain ⟨x, y, hx1, hy1, -, -, -, e⟩ := key v hb; rw [e]; omega
    | false => unfold Wc; rw [if_neg (by rw [hb]; decide)]; omega
  · unfold Wc; rw [if_neg (by rw [hb]; decide)]
  · obtain ⟨x, y, hx1, hy1, e1, e2, e3, e4⟩ := key v hb
    refine ⟨x, y, by omega, by rw [e17 v hv]; exact e1, ?_, e4⟩
    rw [e18, ((hT.2 v hv).1 e3).1]; exact e2
  · rw [e17 v hv]
    refine d2 v hv (fun a ha p hp hpv => ?_)
    have := (hVB v).mpr ⟨a, ha, p, hp, hpv⟩
    rw [hb] at this; cases this
theorem sp_le {v x : Nat} (hl : ML s t mc n sp) (hv : v < 6) (hx : x < 10000) : (¬ nI x < s 8 v ∧ ¬ s 9 v < nI x) ↔ ∀ q, q < sp → t 10 q = nI v → ¬ nI x < t 11 q ∧ ¬ t 12 q < nI x := by
  have := hl.2.2 v x hv hx
  simp only [Int32.not_lt]
  exact this
theorem RA_u (hl : ML s t mc n sp) (hx : RX t sz nn kk mc n sp) (hr : RM t mc mt pr ml mtm) (hc : ∀ a, a < n → c a < mc) (hsl : ∀ a, a < n → sl a < ct) (hq : rst t c n = some q) (hVB : ∀ v, VB v = true ↔ ∃ a, a < n ∧ ∃ p, p < 2 ∧ pl_v (t 9 (2 * a + p)) v) (h : RA t mt ml sz sp n ct c sl R N) : uans s n sl (fun a => mt (c a)) (fun a => ml (c a)) (fun a => mtm (c a)) nn sz (Wc VB q N) := by
  obtain ⟨d1, d2⟩ := RA_d hx hr hc hsl hq h
  refine ⟨R, fun a ha => ⟨h.1 a ha, fun p hp => ?_⟩, fun v hno => ?_⟩
  · obtain ⟨-, -, m3⟩ := hl.2.1 a ha
    rw [← m3 p hp]
    refine ⟨(d1 a ha p hp).1, fun v hv => ?_⟩
    obtain ⟨e1, e2⟩ := (d1 a ha p hp).2 v hv
    have hn := (val_n (p := p) hx hr hc ha hp (h.1 a ha)).2
    have hm := ((hr (c a) (hc a ha)).2.2.2.2 p hp).1
    have hb : VB v = true := (hVB v).mpr ⟨a, ha, p, hp, hv⟩
    refine ⟨?_, (sp_le hl hv.1 hn).mpr (fun q' hq' e => ?_)⟩
    · unfold Wc
      rw [if_pos hb, e1, e2, nI_cl (by omega), nI_cl (by omega), Nat.mul_comm]
    · have := h.2.2 q' hq' v hv.1 e (by rw [e1]; exact nI_pos (by omega))
      rw [e1] at this
      exact this
  · unfold Wc
    rw [if_neg]
    intro hb
    obtain ⟨a, ha, p, hp, hpv⟩ := (hVB v).mp hb
    rw [(hl.2.1 a ha).2.2 p hp] at hpv
    exact hno a ha p hp hpv
theorem u_RA {w : Nat → Nat} (hl : ML s t mc n sp) (hx : RX t sz nn kk mc n sp) (hr : RM t mc mt pr ml mtm) (hc : ∀ a, a < n → c a < mc) (hsl : ∀ a, a < n → sl a < ct) (hq : rst t c n = some q) (hVB : ∀ v, VB v = true ↔ ∃ a, a < n ∧ ∃ p, p < 2 ∧ pl_v (t 9 (2 * a + p)) v) (h : uans s n sl (fun a => mt (c a)) (fun a => ml (c a)) (fun a => mtm (c a)) nn sz w) : ∃ R N, RA t mt ml sz sp n ct c sl R N ∧ Wc VB q N = w := by
  obtain ⟨R, h1, h2⟩ := h
  have hpl := hx.2.2.2.1.2.2
  have hR : ∀ a, a < n → R (sl a) < sz (mt (c a)) := fun a ha => (h1 a ha).1
  have hok : ∀ a, a < n → ∀ p, p < 2 → (∀ d, pl_c (t 9 (2 * a + p)) d → valR t mt ml c sl R a p = nI d - nI d / 10000 * 10000) ∧ ∀ v, pl_v (t 9 (2 * a + p)) v → valR t mt ml c sl R a p = (fun v => nI (w v % 10000)) v := by
    intro a ha p hp
    refine ⟨fun d hd => ?_, fun v hv => ?_⟩
    · obtain ⟨y1, y2⟩ := val_n (p := p) hx hr hc ha hp (hR a ha)
      rw [y1, rem_n hd.1]
      rw [(hl.2.1 a ha).2.2 p hp] at hd
      exact congrArg nI (((h1 a ha).2 p hp).1 d hd)
    · obtain ⟨y1, y2⟩ := val_n (p := p) hx hr hc ha hp (hR a ha)
      rw [y1]
      rw [(hl.2.1 a ha).2.2 p hp] at hv
      have : w v = mtm (c a) p * 10000 + nn (mt (c a)) (R (sl a)) (ml (c a) p) := (((h1 a ha).2 p hp).2 v hv).1
      show _ = nI (w v % 10000)
      rw [this]
      exact congrArg nI (by omega)
  obtain ⟨N, e1, e2⟩ := ag2 (t := t) (val := valR t mt ml c sl R) (sl := sl) (la := ct - 1) (n := n) (M := fun v => nI (w v % 10000)) hpl hok n (Nat.le_refl _)
  have hspO : spO t sp N := by
    obtain ⟨g1, g2⟩ := ag1 hpl (fun a p ha hp _ => by rw [(val_n hx hr hc ha hp (hR a ha)).1]; exact nI_pos (by have := (val_n hx hr hc ha hp (hR a ha)).2; omega)) n N (Nat.le_refl _) e1
    intro q' hq' v hv ev hn
    rcases g2 v hv with z | ⟨b, hb, -, p, hp, hpv, e⟩
    · rw [z] at hn; exact absurd (by decide) hn
    · obtain ⟨y1, y2⟩ := val_n (p := p) hx hr hc hb hp (hR b hb)
      rw [e, y1]
      have hpv' := hpv
      rw [(hl.2.1 b hb).2.2 p hp] at hpv'
      exact (sp_le hl hv y2).mp (((h1 b hb).2 p hp).2 v hpv').2 q' hq' ev
  have hRA : RA t mt ml sz sp n ct c sl R N := ⟨hR, e1, hspO⟩
  obtain ⟨d1, d2⟩ := RA_d hx hr hc hsl hq hRA
  refine ⟨R, N, hRA, ?_⟩
  funext v
  unfold Wc
  cases hb : VB v with
  | true =>
    rw [if_pos rfl]
    obtain ⟨a, ha, p, hp, hpv⟩ := (hVB v).mp hb
    obtain ⟨y1, y2⟩ := (d1 a ha p hp).2 v hpv
    have hn := (val_n (p := p) hx hr hc ha hp (hR a ha)).2
    have hm := ((hr (c a) (hc a ha)).2.2.2.2 p hp).1
    have hpv' := hpv
    rw [(hl.2.1 a ha).2.2 p hp] at hpv'
    rw [y1, y2, nI_cl (by omega), nI_cl (by omega), (((h1 a ha).2 p hp).2 v hpv').1, Nat.mul_comm]
  | false =>
    rw [if_neg (by decide)]
    refine (h2 v (fun a ha p hp hpv => ?_)).symm
    rw [← (hl.2.1 a ha).2.2 p hp] at hpv
    have := (hVB v).mpr ⟨a, ha, p, hp, hpv⟩
    rw [hb] at this; cases this
end FI8
