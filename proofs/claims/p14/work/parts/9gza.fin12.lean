/-! the reference's run: what it answers, and the answers that it keeps -/
section FI12
variable {F : ac_hp} {ki : Nat → ClassId} {am : Nat → Nat} {s z : Nat → Nat → Int32} {f : ac_hp}
variable {sz : Nat → Nat} {nn : Nat → Nat → Nat → Nat} {kk : Nat → Nat → Int32} {mc n sp : Nat} {mt pr : Nat → Nat} {ml mtm : Nat → Nat → Nat}
theorem pv_u {x : Int32} {v w : Nat} (h : pl_v x v) (h' : pl_v x w) : v = w := by
  have e := h.2.symm.trans h'.2
  have e2 : (-1 : Int32) - ((-1) - nI v) = (-1) - ((-1) - nI w) := by rw [e]
  rw [pm_neg, pm_neg] at e2
  exact (nI_eq (by have := h.1; omega) (by have := h'.1; omega)).mp e2
theorem pv_n {x : Int32} {v : Nat} (h : pl_v x v) : ¬ 0 ≤ x := by
  rw [h.2]; exact (var_of v h.1).2
theorem rj_run {Q : Int32 → ac_hp → Prop} (h : mr_R F ki am s f) (hi : RI s sz nn kk mc n sp) (hr : RM s mc mt pr ml mtm) (hl : ML z s mc n sp) (hkz : ∀ t c, t < 4 → c < 3 → z (32 + 3 * t) c = kk t c)
    (h0 : n = 0 → ∀ s' f', SC s s' → RI s' sz nn kk mc n sp → s' 0 23 = nI 0 → mr_R F ki am s' f' → Q (-1) f')
    (h1 : 0 < n → 150 < (mL s mc n (mc ^ n)).length → ∀ s' f', SC s s' → RI s' sz nn kk mc n sp → s' 0 23 = nI 0 → mr_R F ki am s' f' → Q (-3) f')
    (h2 : 0 < n → (mL s mc n (mc ^ n)).length ≤ 150 → ∀ (VB : Nat → Bool) (B : AS) (ls : Nat → Nat) s' f', (∀ v, VB v = true ↔ ∃ a, a < n ∧ ∃ p, p < 2 ∧ pl_v (s 9 (2 * a + p)) v) → KR (RT z n mc mt ml mtm nn sz (mL s mc n (mc ^ n))) (mL s mc n (mc ^ n)).length B ls → B.1 ≤ 300 → (∀ v, v < 6 → (s' 19 v ≠ 0 ↔ VB v = true)) → aR s' VB B ls → SC s s' → RI s' sz nn kk mc n sp → mr_R F ki am s' f' → Q (nI B.1) f')
    (h3 : 0 < n → (mL s mc n (mc ^ n)).length ≤ 150 → ∀ (B : AS) (ls : Nat → Nat) s' f', KR (RT z n mc mt ml mtm nn sz (mL s mc n (mc ^ n))) (mL s mc n (mc ^ n)).length B ls → 300 < B.1 → s' 0 23 = nI 0 → SC s s' → RI s' sz nn kk mc n sp → mr_R F ki am s' f' → Q (-3) f') : wp_X9_run ki (am 0) f Q := by
  unfold wp_X9_run
  refine wm_0 h (fun f1 g1 => wm_23 g1 (fun f2 g2 => ?_))
  have c1 : SC s (va_up s 0 (upd (s 0) 0 0)) := SC.fld (by omega) (by omega) (by omega)
  generalize va_up s 0 (upd (s 0) 0 0) = s1 at g1 g2 c1
  have c2 := c1.trans (SC.fld (s := s1) (k := 23) (v := 0) (by omega) (by omega) (by omega))
  have e2 : va_up s1 0 (upd (s1 0) 23 0) 0 23 = nI 0 := by rw [va_up_self, upd_self]; rfl
  generalize va_up s1 0 (upd (s1 0) 23 0) = s2 at g2 c2 e2
  have x2 := hi.1.sc c2
  have i2 : RI s2 sz nn kk mc n sp := ⟨x2, 0, by omega, e2⟩
  obtain ⟨h7, h8, h9⟩ := id x2.2.2.2.1
  refine ⟨_, rm_f g2 rfl, fun hne => ⟨rm_o g2, ?_⟩, fun hz => h0 ?_ s2 f2 c2 i2 e2 g2⟩
  rotate_left
  · rw [h8] at hz
    exact (nI_eq (b := 0) (by omega) (by omega)).mp (hz.trans nI_0.symm)
  rw [h8] at hne
  have hn : 0 < n := by
    rcases Nat.eq_zero_or_pos n with z | z
    · rw [z] at hne; exact absurd nI_0 hne
    · exact z
  have eL : mL s2 mc n (mc ^ n) = mL s mc n (mc ^ n) := by unfold mL; simp only [rst_c c2]
  refine rj_make2 g2 x2 (hr.sc c2) hn (fun v U s3 f3 c3 hU hU1 hv0 hv1 hm hF hS h23 _ g3 => ⟨fun hv => ⟨7, ?_⟩, fun hv => ?_⟩)
  rotate_left
  · have hU2 : 150 < U := by
      rcases Nat.lt_or_ge 150 U with z | z
      · exact z
      · have e := hv1 z
        rw [e] at hv
        first
          | exact absurd hv ne10
          | exact absurd ne10 hv
          | exact absurd rfl hv
    exact h1 hn (by rw [← eL]; exact hF.2 hU2) s3 f3 (c2.trans c3) (i2.sc c3 h23) (h23.trans e2) g3
  have hU2 : U ≤ 150 := by
    rcases Nat.lt_or_ge 150 U with z | z
    · exact absurd (hv0 z) hv
    · exact z
  obtain ⟨hK1, hK2⟩ := hF.1 hU2
  have hS := hS hU2
  unfold MS at hS
  rw [eL] at hK1 hK2 hS
  subst hK1
  have hmL : ∀ u, u < (mL s mc n (mc ^ n)).length → (mL s mc n (mc ^ n)).getD u 0 < mc ^ n ∧ ∃ q, rst s (dg mc n ((mL s mc n (mc ^ n)).getD u 0)) n = some q := fun u hu => mL_m hu
  have h2 := h2 hn hU2
  have h3 := h3 hn hU2
  generalize mL s mc n (mc ^ n) = K at hU hU1 hv0 hv1 hm hU2 hK2 hS hmL h2 h3
  have x3 := x2.sc c3
  have c03 := c2.trans c3
  have e3 : s3 0 23 = nI 0 := h23.trans e2
  obtain ⟨VB, hVB⟩ : ∃ VB : Nat → Bool, ∀ v, VB v = true ↔ ∃ a, a < n ∧ ∃ p, p < 2 ∧ pl_v (s 9 (2 * a + p)) v := ⟨fun v => @decide _ (Classical.propDecidable (∃ a, a < n ∧ ∃ p, p < 2 ∧ pl_v (s 9 (2 * a + p)) v)), fun v => by simp⟩
  have L93 : ∀ (E : ac_hp → Prop) (w19 : Nat → Int32), (∀ B ls s' f', FP s3 s' → s' 19 = w19 → KR (RT z n mc mt ml mtm nn sz K) K.length B ls → aR s' VB B ls → B.1 ≤ 301 → mr_R F ki am s' f' → E f') → ∀ (d u : Nat) (B : AS) (ls : Nat → Nat) (s4 : Nat → Nat → Int32) (f4 : ac_hp), d + u = K.length → FP s3 s4 → s4 19 = w19 → KR (RT z n mc mt ml mtm nn sz K) u B ls → aR s4 VB B ls → (∀ i, i < B.1 → ls i < 150) → B.1 ≤ 301 → mr_R F ki am s4 f4 → wp_X9_run_L93 ki (am 0) E (d + 1) (nI u) f4 := by
    intro E w19 hE d
    induction d with
    | zero =>
      intro u B ls s4 f4 hu k4 q19 hk ha hls hB g4
      have : u = K.length := by omega
      subst this
      rw [wp_X9_run_L93]
      refine ⟨_, rm_f g4 rfl, ?_⟩
      rw [k4.2 16 (by omega), hU]
      exact ⟨fun _ => hE B ls s4 f4 k4 q19 hk ha hB g4, fun z => absurd (nI_le (Nat.le_refl _) (by omega)) z⟩
    | succ d ih =>
      intro u B ls s4 f4 hu k4 q19 hk ha hls hB g4
      have huU : u < K.length := by omega
      rw [wp_X9_run_L93]
      refine ⟨_, rm_f g4 rfl, ?_⟩
      rw [k4.2 16 (by omega), hU]
      have r23 : hr_f f4 (am 0) 9 23 (.int (nI B.1)) := by rw [← ha.1]; exact rm_f g4 rfl
      obtain ⟨hlt, q, hq⟩ := hmL u huU
      obtain ⟨ct, ⟨sl, hsl1, hsl2⟩, h15⟩ := hS u huU
      have hmc : 0 < mc := by
        rcases Nat.eq_zero_or_pos mc with y | y
        · rw [y, Nat.zero_pow hn] at hlt; omega
        · exact y
      have k04 : SC s s4 := c03.trans k4.sc
      have x4 := hi.1.sc k04
      have r4 := hr.sc k04
      have l4 : ML z s4 mc n sp := hl.c (fun _ _ => rfl) (fun j a b => k04.1 j (by omega) b)
      have hcm : ∀ a, a < n → dg mc n (K.getD u 0) a < mc := fun a _ => dg_lt hmc
      have hslt : ∀ a, a < n → sl a < ct := fun a ha => (SL_le hsl1).2 a ha
      have hq4 : rst s4 (dg mc n (K.getD u 0)) n = some q := by rw [rst_c k04]; exact hq
      have hVB4 : ∀ v, VB v = true ↔ ∃ a, a < n ∧ ∃ p, p < 2 ∧ pl_v (s4 9 (2 * a + p)) v := by rw [k04.1 9 (by omega) (by omega)]; exact hVB
      have hS1 : SL (one_ z (fun a => mt (dg mc n (K.getD u 0) a)) (fun a => ml (dg mc n (K.getD u 0) a))) n sl ct := by
        refine SL_cg hsl1 (fun a b ha hb => ?_)
        have := one_M (c := dg mc n (K.getD u 0)) (kk := kk) (hl.c (fun _ _ => rfl) (fun j a b => c2.1 j (by omega) b)) (hr.sc c2) hkz hcm a b ha hb
        exact this
      refine ⟨fun y => absurd y (nI_ge huU (by omega)), fun _ => ⟨_, r23, fun hbig => hE B ls s4 f4 k4 q19 (KR_up hk ((nI_ltI (a := 300) (by omega) (by omega)).mp hbig) (by omega)) ha hB g4, fun _ => ⟨rm_o g4, ?_⟩⟩⟩
      refine rj_find (u := u) (ct := ct) (c := dg mc n (K.getD u 0)) (sl := sl) (VB := VB) (q := q) (W := Wc VB q) (A := B) (ls := ls) g4 x4 r4 hn (by omega) (fun a ha => ⟨hcm a ha, by rw [k4.1 13 (by omega) (by omega)]; exact hK2 u huU a ha⟩) (fun a ha => ⟨hslt a ha, by rw [k4.1 14 (by omega) (by omega)]; exact hsl2 a ha⟩) (SL_sr hsl1).2 (by have := (SL_le hsl1).1; omega) ((SL_sr hsl1).1 hn) (by rw [k4.1 15 (by omega) (by omega)]; exact h15) (SL_tab (t := fun a => mt (dg mc n (K.getD u 0) a)) (fun a b o => o.1) hsl1) hq4 (fun R N hRA => RA_F x4 r4 hcm hslt hq4 hVB4 hRA) hB ha hls (fun s5 f5 B' ls' L k5 q5 hkp hin hall ha5 hl5 hB5 g5 v25 e25 => ?_)
      rw [e25, nI_1]
      refine ih (u + 1) B' ls' s5 f5 (by omega) (k4.trans k5) (q5.trans q19) (KR_s hk hkp (fun w hw => ?_) (fun hB' w hw => ?_)) ha5 hl5 hB5 g5
      · obtain ⟨R, N, hRA, rfl⟩ := hin w hw
        exact (CU_g hS1).mpr (RA_u l4 x4 r4 hcm hslt hq4 hVB4 hRA)
      · obtain ⟨R, N, hRA, rfl⟩ := u_RA l4 x4 r4 hcm hslt hq4 hVB4 ((CU_g hS1).mp hw)
        exact hall hB' R N hRA
  have L52 : ∀ (E : ac_hp → Prop), (∀ w f', (∀ v, v < 6 → (w v ≠ 0 ↔ ∃ j, j < 2 * n ∧ pl_v (s3 9 j) v)) → mr_R F ki am (va_up s3 19 w) f' → E f') → ∀ (d j : Nat) (w : Nat → Int32) (f4 : ac_hp), d + j = 2 * n → (∀ v, v < 6 → (w v ≠ 0 ↔ ∃ j', j' < j ∧ pl_v (s3 9 j') v)) → mr_R F ki am (va_up s3 19 w) f4 → wp_X9_run_L52 ki (am 0) E (d + 1) (nI j) f4 := by
    intro E hE d
    induction d with
    | zero =>
      intro j w f4 hj hw g4
      have : j = 2 * n := by omega
      subst this
      rw [wp_X9_run_L52]
      refine ⟨_, rm_f g4 rfl, ?_⟩
      rw [va_up_ne _ _ (by omega), x3.2.2.2.1.2.1, pm_2]
      exact ⟨fun _ => hE w f4 hw g4, fun z => absurd (nI_le (by omega) (by omega)) z⟩
    | succ d ih =>
      intro j w f4 hj hw g4
      rw [wp_X9_run_L52]
      refine ⟨_, rm_f g4 rfl, ?_⟩
      rw [va_up_ne _ _ (by omega), x3.2.2.2.1.2.1, pm_2]
      have r9 := rm_i (i := 9) (j := j) (c := ki 0) (n := 8) (x := nI j) g4 (by omega) rfl rfl (by omega) (by omega)
      rw [va_up_ne _ _ (by omega)] at r9
      refine ⟨fun z => absurd z (nI_ge (by omega) (by omega)), fun _ => ⟨_, rm_f g4 rfl, _, r9, fun hge v14 e14 => ?_, fun hlt => ⟨_, rm_f g4 rfl, _, rm_f g4 rfl, _, r9, ?_⟩⟩⟩
      · rw [e14, nI_1]
        refine ih (j + 1) w f4 (by omega) (fun v hv => (hw v hv).trans ⟨fun ⟨j', y, p⟩ => ⟨j', by omega, p⟩, fun ⟨j', y, p⟩ => ⟨j', ?_, p⟩⟩) g4
        rcases Nat.lt_or_ge j' j with q | q
        · exact q
        · rw [show j' = j by omega] at p
          exact absurd hge (pv_n p)
      · rcases pl_cases (x3.2.2.2.1.2.2 j (by omega)) with ⟨c, hc1, hc2⟩ | ⟨v, hvj⟩
        · rw [hc2] at hlt; exact absurd (nI_le (a := 0) (by omega) (by omega)) hlt
        · have hv6 := hvj.1
          rw [show s3 9 j = (-1) - nI v from hvj.2, pm_neg]
          refine wm_i (i := 19) (j := v) g4 (by omega) (fun _ => rfl) rfl (by omega) (by omega) (fun f5 g5 v19 e19 => ?_)
          rw [bx_uu, va_up_self, nar_b (Or.inr rfl)] at g5
          rw [e19, nI_1]
          refine ih (j + 1) _ f5 (by omega) (fun v' hv' => ?_) g5
          by_cases q : v' = v
          · subst q
            rw [upd_self]
            exact ⟨fun _ => ⟨j, by omega, hvj⟩, fun _ => ne10⟩
          · rw [pk_un q]
            refine (hw v' hv').trans ⟨fun ⟨j', y, p⟩ => ⟨j', by omega, p⟩, fun ⟨j', y, p⟩ => ⟨j', ?_, p⟩⟩
            rcases Nat.lt_or_ge j' j with r | r
            · exact r
            · rw [show j' = j by omega] at p
              exact absurd (pv_u p hvj) q
  have L31 : ∀ (E : ac_hp → Prop), (∀ w f', (∀ v, v < 6 → w v = 0) → mr_R F ki am (va_up s3 19 w) f' → E f') → ∀ (d v : Nat) (w : Nat → Int32) (f4 : ac_hp), d + v = 6 → (∀ v', v' < v → w v' = 0) → mr_R F ki am (va_up s3 19 w) f4 → wp_X9_run_L31 ki (am 0) E (d + 1) (nI v) f4 := by
    intro E hE d
    induction d with
    | zero =>
      intro v w f4 hv hw g4
      rw [wp_X9_run_L31]
      exact ⟨fun _ => hE w f4 (fun v' hv' => hw v' (by omega)) g4, fun z => absurd (nI_le (a := 6) (by omega) (by omega)) z⟩
    | succ d ih =>
      intro v w f4 hv hw g4
      rw [wp_X9_run_L31]
      refine ⟨fun z => absurd z (nI_ge (b := 6) (by omega) (by omega)), fun _ => ⟨_, rm_f g4 rfl, wm_i (i := 19) (j := v) g4 (by omega) (fun _ => rfl) rfl (by omega) (by omega) (fun f5 g5 v8 e8 => ?_)⟩⟩
      rw [bx_uu, va_up_self, nar_b (Or.inl rfl)] at g5
      rw [e8, nI_1]
      refine ih (v + 1) _ f5 (by omega) (fun v' hv' => ?_) g5
      by_cases q : v' = v
      · subst q; rw [upd_self]
      · rw [pk_un q]; exact hw v' (by omega)
  have e39 : s3 9 = s 9 := c03.1 9 (by omega) (by omega)
  refine L31 _ (fun w f4 hw g4 => ⟨2 * n + 1, L52 _ (fun w5 f5 hw5 g5 => ⟨K.length + 1, L93 _ w5 (fun B ls s6 f6 k6 q6 hk6 ha6 hB6 g6 => ?_) K.length 0 A00 (fun _ => 0) (va_up s3 19 w5) f5 (by omega) (FP.cell (by omega)) (va_up_self _ _ _) KR_0 ⟨?_, fun i hi => absurd hi (Nat.not_lt_zero _), fun i j _ hj => absurd hj (Nat.not_lt_zero _)⟩ (fun i hi => absurd hi (Nat.not_lt_zero _)) (Nat.zero_le _) g5⟩) (2 * n) 0 w f4 (by omega) (fun v hv => ⟨fun y => absurd (hw v hv) y, fun ⟨_, y, _⟩ => absurd y (Nat.not_lt_zero _)⟩) g4⟩) 6 0 (s3 19) f3 rfl (fun _ y => absurd y (Nat.not_lt_zero _)) (mr_eq g3 (va_up_id 19).symm)
  · have x6 := x3.sc k6.sc
    have c06 := c03.trans k6.sc
    have r23 : hr_f f6 (am 0) 9 23 (.int (nI B.1)) := by rw [← ha6.1]; exact rm_f g6 rfl
    refine ⟨_, r23, fun hle => ⟨_, r23, ?_⟩, fun hgt => wm_23 g6 (fun f7 g7 => ?_)⟩
    · have hB : B.1 ≤ 300 := (nI_leI (b := 300) (by omega) (by omega)).mp hle
      refine h2 VB B ls s6 f6 hVB hk6 hB (fun v hv => ?_) ha6 c06 ⟨x6, B.1, hB, ha6.1⟩ g6
      rw [q6, hw5 v hv, hVB v, e39]
      constructor
      · rintro ⟨j, hj, p⟩
        exact ⟨j / 2, by omega, j % 2, by omega, by rw [show 2 * (j / 2) + j % 2 = j by omega]; exact p⟩
      · rintro ⟨a, ha, p, hp, y⟩
        exact ⟨2 * a + p, by omega, y⟩
    · have hB : 300 < B.1 := by
        rcases Nat.lt_or_ge 300 B.1 with y | y
        · exact y
        · exact absurd (nI_le (b := 300) y (by omega)) hgt
      exact h3 B ls _ f7 hk6 hB (by rw [va_up_self, upd_self]; rfl) (c06.trans (SC.fld (by omega) (by omega) (by omega))) ⟨x6.sc (SC.fld (by omega) (by omega) (by omega)), 0, by omega, by rw [va_up_self, upd_self]; rfl⟩ g7
  · rw [va_up_ne _ _ (by omega)]; exact e3
end FI12
