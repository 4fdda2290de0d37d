/-! FINDER: find -/
theorem aA_eq {s s' : Nat → Nat → Int32} {A : AS} (e : ∀ j, 16 ≤ j → j ≤ 20 → s' j = s j) (h : aA s A) : aA s' A := by
  obtain ⟨o, h1, h2, h3, h4, h5, h6⟩ := h
  refine ⟨o, h1, by rw [e 16 (by omega) (by omega)]; exact h2, fun i hi => by rw [e 18 (by omega) (by omega)]; exact h3 i hi, h4, fun i hi => ?_, h6⟩
  rw [e 17 (by omega) (by omega), e 19 (by omega) (by omega), e 20 (by omega) (by omega)]
  exact h5 i hi
theorem uans_eq {s s' : Nat → Nat → Int32} {n : Nat} {g t : Nat → Nat} {c tm : Nat → Nat → Nat} {nn : Nat → Nat → Nat → Nat} {sz : Nat → Nat} {w : Nat → Nat} (h7 : s' 7 = s 7) (h8 : s' 8 = s 8) (h9 : s' 9 = s 9) : uans s' n g t c tm nn sz w = uans s n g t c tm nn sz w := by
  unfold uans; rw [h7, h8, h9]
section VR29
variable {F : ac_hp} {ki : Nat → ClassId} {ad : Nat → Nat} {s s' : Nat → Nat → Int32} {tl : Nat → Int64} {f : ac_hp}
variable {u n ct : Nat} {g m t tb : Nat → Nat} {c tm : Nat → Nat → Nat} {MK : Nat → Nat} {CL : Nat → Nat → Nat} {TP : Nat → Nat} {nn : Nat → Nat → Nat → Nat} {sz : Nat → Nat}
theorem uans_suit (hL : LI s s' g c tm n 0 MK CL TP) (hc : lc s u n g m t c tm) (hct : ct ≤ 4) (hsu : ∀ k, k < ct → ∃ a, a < n ∧ g a = k) (htb : ∀ a, a < n → tb (g a) = t a)
    (hnn : ∀ k r j, k < 4 → r < sz k → j < 3 → nn k r j < 10000 ∧ s (31 + 3 * k) (r * 3 + j) = nI (nn k r j))
    (hTM : ∀ a b p q v, a < n → b < n → p < 2 → q < 2 → pl_v (s 7 (a * 2 + p)) v → pl_v (s 7 (b * 2 + q)) v → tm a p = tm b q) {w : Nat → Nat} (hU : uans s n g t c tm nn sz w) : ∀ k, k < ct → ∃ r, r < sz (tb k) ∧ suit s' n g c tb CL k r := by
  obtain ⟨hu, hn4, c5, c21, hat⟩ := id hc
  obtain ⟨R, h1, h2⟩ := hU
  intro k hk
  have htb4 : tb k < 4 := by
    obtain ⟨a, ha, ea⟩ := hsu k hk
    rw [← ea, htb a ha]; exact (hat a ha).2.2.2.1.2.1
  have hR : R k < sz (tb k) := by
    obtain ⟨a, ha, ea⟩ := hsu k hk
    have := (h1 a ha).1
    rw [ea, ← htb a ha, ea] at this
    exact this
  refine ⟨R k, hR, (suit_nn hL hc htb hnn htb4 hR).mpr (fun a ha ea p hp => ?_)⟩
  have et : t a = tb k := by rw [← htb a ha, ea]
  obtain ⟨z1, z2⟩ := (h1 a ha).2 p hp
  rw [ea, et] at z1 z2
  refine ⟨z1, fun v hv => ?_⟩
  obtain ⟨y1, y2, y3⟩ := z2 v hv
  refine ⟨?_, y2, y3⟩
  have hb := MK_of hL ha (hat a ha).1 hp hv
  rw [ea] at hb
  obtain ⟨-, -, b, q, ⟨x1, x2, x3, x4⟩, e⟩ := ((hL.2.2.1 k (by omega)).2.2 v hv.1).1 hb
  have hbn : b < n := by omega
  have := (((h1 b hbn).2 q x1).2 v x4).1
  rw [x3, ← htb b hbn, x3, ← e, hTM b a q p v hbn ha x1 hp x4 hv] at this
  omega
theorem sp_find {A : AS} {TP0 : Nat → Nat} {Q : ac_hp → Prop} (h : vr_R F ki ad s tl f) (hu : uok s u n m t c) (hn : n ≤ 4) (h5 : s 5 4 = nI n) (hpl : ∀ a, a < n → vs_pl s a) (htm : ∀ a, a < n → ∀ p, p < 2 → tm a p < 6 ∧ s (43 + 3 * m a) p = nI (tm a p))
    (hTM : ∀ a b p q v, a < n → b < n → p < 2 → q < 2 → pl_v (s 7 (a * 2 + p)) v → pl_v (s 7 (b * 2 + q)) v → tm a p = tm b q) (hsz : ∀ k, k < 4 → sz k ≤ 20 ∧ s (30 + 3 * k) 2 = nI (sz k))
    (hnn : ∀ k r j, k < 4 → r < sz k → j < 3 → nn k r j < 10000 ∧ s (31 + 3 * k) (r * 3 + j) = nI (nn k r j)) (h28 : ∀ v, v < 6 → TP0 v < 6 ∧ s 28 v = nI (TP0 v)) (hA : aA s A) (h6 : s 16 6 = 0)
    (hq : ∀ (g : Nat → Nat) (ct : Nat) (L : List (Nat → Nat)) (s' : Nat → Nat → Int32) (f' : ac_hp) (A' : AS) (lg : Bool) (TP : Nat → Nat), SL (one_ s t c) n g ct → L.Nodup → (∀ w, w ∈ L ↔ uans s n g t c tm nn sz w) → tks u L A A' lg → aA s' A' → (lg = true → s' 16 6 = 1) → (lg = false → s' 16 6 = 0) →
      (∀ j, j < 14 ∨ 29 < j → s' j = s j) → s' 16 5 = s 16 5 → (∀ v, v < 6 → TP v < 6 ∧ s' 28 v = nI (TP v)) → vr_R F ki ad s' tl f' → Q f') : wp_X8_find ki (ad 21) (nI u) f Q := by
  unfold wp_X8_find
  refine wr_21_12 h (fun f1 h1 => ?_)
  obtain ⟨s1, e1⟩ : ∃ s1, s1 = va_up s 21 (upd (s 21) 12 (nI u)) := ⟨_, rfl⟩
  rw [← e1] at h1
  have o1 : ∀ j, j ≠ 21 → s1 j = s j := fun j hj => by rw [e1, va_up_ne _ _ hj]
  have hu1 : uok s1 u n m t c := by
    refine ⟨hu.1, fun a ha => ?_⟩
    obtain ⟨y1, y2, y3, y4, y5⟩ := hu.2 a ha
    exact ⟨by rw [o1 11 (by omega)]; exact y1, y2, y3, by rw [o1 _ (by omega)]; exact y4, fun p hp => by rw [o1 _ (by omega)]; exact y5 p hp⟩
  refine ⟨_, rd_f (i := 21) h1 (by omega) rfl rfl, rd_o (i := 14) h1 (by omega) rfl, sp_assign h1 hu1 hn (by rw [o1 5 (by omega)]; exact h5) (fun g ct w f2 hSL hw h2 => ?_)⟩
  have hone : ∀ a b, one_ s1 t c a b ↔ one_ s t c a b := fun a b => by
    unfold one_ oneR pr1; rw [o1 7 (by omega), o1 (32 + 3 * t a) (by omega)]
  have hSL : SL (one_ s t c) n g ct := SL_congr hSL (fun _ _ => rfl) hone
  obtain ⟨s2, e2⟩ : ∃ s2, s2 = vs_sl s1 w ct := ⟨_, rfl⟩
  rw [← e2] at h2
  have o2 : ∀ j, j ≠ 14 → j ≠ 15 → j ≠ 21 → s2 j = s j := fun j z1 z2 z3 => by rw [e2, vsl_o j z1 z2, o1 j z3]
  have hlt := (SL_le hSL).2
  have hctn := (SL_le hSL).1
  have hsu := SL_sur hSL
  obtain ⟨tb, htb⟩ := ex_tb (SL_tab (fun a b z => z.1) hSL)
  have hc2 : lc s2 u n g m t c tm := by
    refine ⟨hu.1, hn, by rw [o2 5 (by omega) (by omega) (by omega)]; exact h5, by rw [e2, vsl_o 21 (by omega) (by omega), e1, va_up_self]; simp [upd], fun a ha => ?_⟩
    obtain ⟨y1, y2, y3, y4, y5⟩ := hu.2 a ha
    refine ⟨by have := hlt a ha; omega, by rw [e2, vsl_15]; exact hw a ha, by rw [o2 11 (by omega) (by omega) (by omega)]; exact y1, ⟨y2, y3, by rw [o2 _ (by omega) (by omega) (by omega)]; exact y4, fun p hp => by rw [o2 _ (by omega) (by omega) (by omega)]; exact y5 p hp⟩, fun p hp => by rw [o2 7 (by omega) (by omega) (by omega)]; exact hpl a ha p hp, fun p hp => by rw [o2 _ (by omega) (by omega) (by omega)]; exact htm a ha p hp⟩
  have h14 : s2 14 4 = nI ct := by rw [e2, vsl_14]; simp [upd]
  have hnn2 : ∀ k r j, k < 4 → r < sz k → j < 3 → nn k r j < 10000 ∧ s2 (31 + 3 * k) (r * 3 + j) = nI (nn k r j) := fun k r j z1 z2 z3 => by rw [o2 _ (by omega) (by omega) (by omega)]; exact hnn k r j z1 z2 z3
  have hTM2 : ∀ a b p q v, a < n → b < n → p < 2 → q < 2 → pl_v (s2 7 (a * 2 + p)) v → pl_v (s2 7 (b * 2 + q)) v → tm a p = tm b q := by rw [o2 7 (by omega) (by omega) (by omega)]; exact hTM
  refine ⟨rd_o (i := 21) h2 (by omega) rfl, sp_layOut (TP0 := TP0) h2 hc2 (by rw [o2 28 (by omega) (by omega) (by omega)]; exact h28) (fun s3 MK CL TP f3 hL hAO h3 => ⟨ct + 1, ?_⟩)⟩
  have hf := lok_of hL hAO hc2 (by omega) h14 hsu htb
  have hl := lat_of hL hc2 hlt htb
  have htb4 : ∀ k, k < ct → tb k < 4 := fun k hk => (hf.2.2.2.2.2 k hk).1
  have o3 : ∀ j, j < 14 ∨ 29 < j ∨ (16 ≤ j ∧ j ≤ 20) → s3 j = s j := fun j hj => by rw [hL.1 j (by omega) (by omega) (by omega) (by omega) (by omega), o2 j (by omega) (by omega) (by omega)]
  have hU : ∀ w, uans s2 n g t c tm nn sz w = uans s n g t c tm nn sz w := fun w => uans_eq (o2 7 (by omega) (by omega) (by omega)) (o2 8 (by omega) (by omega) (by omega)) (o2 9 (by omega) (by omega) (by omega))
  refine sp_fl21 (sz := sz) hf hl (fun k hk => ⟨(hsz _ (htb4 k hk)).1, by have := htb4 k hk; rw [o3 _ (by omega)]; exact (hsz _ (htb4 k hk)).2⟩) (fun k s4 f4 hk hno hs h4 => ⟨fun _ => ?_, fun z => absurd rfl z⟩) (fun rc rw_ s4 f4 hG hs h4 => ⟨fun z => absurd z ne10, fun _ => ?_⟩) ct 0 (fun _ => 0) (fun _ _ => 0) s3 f3 (by omega) (fun k hk => absurd hk (by omega)) (fun _ _ _ _ => rfl) h3
  · have o4 : ∀ j, j < 14 ∨ 29 < j ∨ (16 ≤ j ∧ j ≤ 20) → s4 j = s j := fun j hj => by rw [hs j (by omega) (by omega) (by omega)]; exact o3 j hj
    refine hq g ct [] s4 f4 A false TP hSL List.nodup_nil (fun w => ⟨fun z => (by cases z), fun z => ?_⟩) ⟨rfl, rfl⟩ (aA_eq (fun j z1 z2 => o4 j (by omega)) hA) (fun z => by cases z) (fun _ => by rw [o4 16 (by omega)]; exact h6) (fun j hj => o4 j (by omega)) (by rw [o4 16 (by omega)]) (fun v hv => by rw [hs 28 (by omega) (by omega) (by omega)]; exact ⟨(hL.2.2.2 v hv).1, (hL.2.2.2 v hv).2.1⟩) h4
    rw [← hU] at z
    obtain ⟨r, z1, z2⟩ := uans_suit hL hc2 (by omega) hsu htb hnn2 hTM2 z k hk
    exact absurd z2 (hno r z1)
  · have o4 : ∀ j, j < 14 ∨ 29 < j ∨ (16 ≤ j ∧ j ≤ 20) → s4 j = s j := fun j hj => by rw [hs j (by omega) (by omega) (by omega)]; exact o3 j hj
    refine ⟨rd_o (i := 21) h4 (by omega) rfl, sp_order (ct := ct) h4 (by rw [hs 14 (by omega) (by omega) (by omega)]; exact hf.2.2.2.1) (by omega) (fun od w27 f5 hpm hw27 h5' => ?_)⟩
    have hvl := rows_vl hL (by omega) htb4 hnn2 hG
    have hne := rows_ne hL (by omega) htb4 hnn2 hG
    have hfok := fok_of (vl := fun k i v => nn (tb k) (rw_ k i) (CL k v)) hf hG hs hpm hw27 (fun k hk => (hsz _ (htb4 k hk)).1) hvl
    have o5 : ∀ j, j < 14 ∨ 29 < j ∨ (16 ≤ j ∧ j ≤ 20) → va_up s4 27 w27 j = s j := fun j hj => by rw [va_up_ne _ _ (by omega)]; exact o4 j hj
    have hbit : ∀ v, v < 6 → Nat.testBit 0 v = true → (fun _ : Nat => 0) v / 10000 = TP v := fun v _ z => by simp at z
    refine ⟨rd_o (i := 21) h5' (by omega) rfl, 5, by omega, ?_⟩
    refine sp_search (u := u) (ct := ct) 5 0 (by omega) (by omega) 0 (fun _ => 0) A _ f5 _ (by omega) hfok (fun v hv => ⟨by dsimp only; omega, ?_⟩) hbit (aA_eq (fun j z1 z2 => o5 j (by omega)) hA) (by rw [o5 16 (by omega)]; exact h6) h5' (fun r s6 f6 A' lg hp h6' => ?_)
    · rw [va_up_ne _ _ (by omega), hs 29 (by omega) (by omega) (by omega)]; exact hL.2.1 v hv
    obtain ⟨p1, p2, p3, -, p5, p6⟩ := hp
    refine hq g ct _ s6 f6 A' lg TP hSL (sols_nodup hpm (fun k i v a b c d => (hvl k i v a b c d).1) hne 5 0 0 (fun _ => 0) (by omega) hbit) (fun w => ?_) p2 p3 (fun z => (p5 z).1) (fun z => (p6 z).1) (fun j hj => by rw [p1.1 j (by omega) (by omega)]; exact o5 j (by omega)) (by rw [p1.2, o5 16 (by omega)]) (fun v hv => ?_) h6'
    · rw [sols_mem hpm (fun k i v a b c d => (hvl k i v a b c d).1) 5 0 0 (fun _ => 0) w (by omega) (by omega) hbit, ← hU]
      exact ans_iff hL hc2 hpm (by omega) hlt hsu htb hnn2 hG hTM2 w
    · rw [p1.1 28 (by omega) (by omega), va_up_ne _ _ (by omega), hs 28 (by omega) (by omega) (by omega)]
      exact ⟨(hL.2.2.2 v hv).1, (hL.2.2.2 v hv).2.1⟩
end VR29
