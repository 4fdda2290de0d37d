/-! the reference: find; run -/
/-- all but the search's scratch and the answers stays -/
def FP (s s' : Nat → Nat → Int32) : Prop := (∀ j, 1 ≤ j → j ≤ 15 → s' j = s j) ∧ ∀ k, k ≠ 23 → s' 0 k = s 0 k
def wt : Nat → Nat
  | 0 => 10648
  | 1 => 484
  | 2 => 22
  | _ => 1
def mu : Nat → (Nat → Nat) → Nat
  | 0, _ => 0
  | k + 1, e => mu k e + (21 - e k) * wt k
section R8
variable {F : ac_hp} {ki : Nat → ClassId} {am : Nat → Nat} {s : Nat → Nat → Int32} {f : ac_hp}
variable {sz : Nat → Nat} {nn : Nat → Nat → Nat → Nat} {kk : Nat → Nat → Int32} {mc n sp : Nat}
theorem FP.rfl' : FP s s := ⟨fun _ _ _ => rfl, fun _ _ => rfl⟩
theorem FP.trans {s1 s2 s3 : Nat → Nat → Int32} (h : FP s1 s2) (h' : FP s2 s3) : FP s1 s3 := ⟨fun j h1 h2 => (h'.1 j h1 h2).trans (h.1 j h1 h2), fun k hk => (h'.2 k hk).trans (h.2 k hk)⟩
theorem FP.cell {j : Nat} {w : Nat → Int32} (hj : 16 ≤ j) : FP s (va_up s j w) := ⟨fun i _ hi => va_up_ne _ _ (by omega), fun k _ => by rw [va_up_ne _ _ (by omega)]⟩
theorem FP.sc {s' : Nat → Nat → Int32} (h : FP s s') : SC s s' := ⟨fun j h1 h2 => h.1 j h1 (by omega), h.2 _ (by omega), h.2 _ (by omega), h.2 _ (by omega)⟩
theorem KP.fp {s' : Nat → Nat → Int32} (h : KP s s') : FP s s' := ⟨fun j h1 h2 => h.1 j h1 (by omega), h.2⟩
theorem mu_c {e e' : Nat → Nat} : ∀ k, (∀ j, j < k → e' j = e j) → mu k e' = mu k e
  | 0, _ => rfl
  | k + 1, h => by rw [mu, mu, mu_c k (fun j hj => h j (by omega)), h k (by omega)]
theorem mu_same {e e' : Nat → Nat} {k : Nat} (h : ∀ j, j < k → e' j = e j) (hk : e' k = e k + 1) (he : e k ≤ 20) : mu (k + 1) e' + 1 ≤ mu (k + 1) e := by
  rw [mu, mu, mu_c k h, hk]
  have hw : 1 ≤ wt k := by unfold wt; split <;> omega
  obtain ⟨x, hx⟩ : ∃ x, 21 - e k = x + 1 := ⟨20 - e k, by omega⟩
  rw [hx, show 21 - (e k + 1) = x by omega, Nat.succ_mul]
  omega
theorem mu_deep {e e' : Nat → Nat} {k : Nat} (h : ∀ j, j < k → e' j = e j) (hk : e' k = e k + 1) (he : e k ≤ 20) (h0 : e' (k + 1) = 0) (hk3 : k < 3) : mu (k + 2) e' + 1 ≤ mu (k + 1) e := by
  rw [mu, mu, mu, mu_c k h, hk, h0]
  have : k = 0 ∨ k = 1 ∨ k = 2 := by omega
  rcases this with rfl | rfl | rfl <;> simp only [wt] <;> omega
theorem mu_up {e : Nat → Nat} {k : Nat} (he : e k ≤ 20) : mu k e + 1 ≤ mu (k + 1) e := by
  rw [mu]
  have hw : 1 ≤ wt k := by unfold wt; split <;> omega
  obtain ⟨x, hx⟩ : ∃ x, 21 - e k = x + 1 := ⟨20 - e k, by omega⟩
  rw [hx, Nat.succ_mul]
  omega
theorem rs_find {u ct na : Nat} {Q : ac_hp → Prop} (h : mr_R F ki am s f) (hx : RX s sz nn kk mc n sp) (hn : 0 < n) (hu : u < 150) (hc : cho s mc n (4 * u)) (hg : gs (s 14) (4 * u) n ct) (h15 : s 15 u = nI ct) (hna : na ≤ 301) (e23 : s 0 23 = nI na) (hq : ∀ s' f' na', FP s s' → na' ≤ 301 → s' 0 23 = nI na' → mr_R F ki am s' f' → Q f') : wp_X9_find ki (am 0) (nI u) f Q := by
  have hct := hg.1
  have hct1 := hg.2.1 hn
  have hn4 := hx.2.2.2.1.1
  have hx1 := hx.1.1
  have main : ∀ (N K : Nat) (e : Nat → Nat) (na : Nat) (s2 : Nat → Nat → Int32) (f2 : ac_hp), mu K e ≤ N → K ≤ ct → FP s s2 → na ≤ 301 → s2 0 23 = nI na → mr_R F ki am s2 f2 → (∀ j, j < K → e j ≤ 20 ∧ s2 16 j = nI (e j) - 1) → (∀ j, j + 1 < K → 1 ≤ e j) → wp_X9_find_L17 ki (am 0) (nI u) Q (N + 1) (nI K - 1) f2 := by
    intro N
    induction N with
    | zero =>
      intro K e na s2 f2 hmu hK k2 hna e2 h2 he he1
      cases K with
      | zero =>
        rw [wp_X9_find_L17]
        exact ⟨fun _ => hq s2 f2 na k2 hna e2 h2, fun z => absurd (by decide) z⟩
      | succ k =>
        have := mu_up (he k (by omega)).1
        exact absurd hmu (by omega)
    | succ N ih =>
      intro K e na s2 f2 hmu hK k2 hna e2 h2 he he1
      cases K with
      | zero =>
        rw [wp_X9_find_L17]
        exact ⟨fun _ => hq s2 f2 na k2 hna e2 h2, fun z => absurd (by decide) z⟩
      | succ k =>
        have hek := he k (by omega)
        rw [nI_pred, wp_X9_find_L17]
        have r23 : hr_f f2 (am 0) 9 23 (.int (nI na)) := by rw [← e2]; exact rm_f h2 rfl
        refine ⟨fun z => absurd z (nI_pos (by omega)), fun _ => ⟨_, r23, fun _ => hq s2 f2 na k2 hna e2 h2, fun hle => ?_⟩⟩
        have hna' : na ≤ 300 := by
          rcases Nat.lt_or_ge 300 na with z | z
          · exact absurd (nI_lt (a := 300) z (by omega)) hle
          · exact z
        have r16 := rm_i (i := 16) (j := k) (c := ki 0) (n := 4) (x := nI k) h2 (by omega) rfl rfl (by omega) (by omega)
        rw [hek.2] at r16
        refine ⟨_, rm_f h2 rfl, _, r16, ?_⟩
        rw [Int32.sub_add_cancel]
        refine wm_i (i := 16) (j := k) h2 (by omega) (fun _ => rfl) rfl (by omega) (by omega) (fun f3 h3 => ?_)
        have k3 := k2.trans (FP.cell (s := s2) (j := 16) (w := upd (s2 16) k (nI (e k))) (by omega))
        have e3 : va_up s2 16 (upd (s2 16) k (nI (e k))) 0 23 = nI na := by rw [va_up_ne _ _ (by omega)]; exact e2
        have q3 : ∀ j, j < k → va_up s2 16 (upd (s2 16) k (nI (e k))) 16 j = nI (e j) - 1 := fun j hj => by rw [va_up_self, pk_un (by omega)]; exact (he j (by omega)).2
        have q3k : va_up s2 16 (upd (s2 16) k (nI (e k))) 16 k = nI (e k) := by rw [va_up_self, upd_self]
        generalize va_up s2 16 (upd (s2 16) k (nI (e k))) = s3 at h3 k3 e3 q3 q3k
        have x3 := hx.sc k3.sc
        have c3 : cho s3 mc n (4 * u) := fun a ha => by rw [k3.1 13 (by omega) (by omega)]; exact hc a ha
        have g3 : gs (s3 14) (4 * u) n ct := by rw [k3.1 14 (by omega) (by omega)]; exact hg
        have r16' := rm_i (i := 16) (j := k) (c := ki 0) (n := 4) (x := nI k) h3 (by omega) rfl rfl (by omega) (by omega)
        rw [q3k] at r16'
        refine ⟨_, rm_f h3 rfl, _, r16', _, rm_f h3 rfl, rm_o h3, rs_table h3 x3 (by omega) c3 g3 (by omega) (fun t ht => ?_)⟩
        have r2 := rm_i (i := 2) (j := t) (c := ki 0) (n := 4) (x := nI t) h3 (by omega) rfl rfl ht (by omega)
        rw [k3.1 2 (by omega) (by omega), (hx1 t ht).2] at r2
        have hs20 := (hx1 t ht).1
        refine ⟨_, r2, fun hlt => ⟨rm_o h3, ?_⟩, fun _ v23 e23 => ?_⟩
        · have hlt' : e k < sz t := by
            rcases Nat.lt_or_ge (e k) (sz t) with z | z
            · exact z
            · exact absurd hlt (nI_nlt z (by omega))
          refine rs_agree h3 x3 (by omega) c3 g3 (by omega) (fun j hj => ?_) (fun v w f4 hv h4 => ?_)
          · rcases Nat.lt_or_ge j k with z | z
            · have hj1 := he1 j (by omega)
              have hj2 := (he j (by omega)).1
              obtain ⟨r, hr⟩ : ∃ r, e j = r + 1 := ⟨e j - 1, by omega⟩
              exact ⟨r, by omega, by rw [q3 j z, hr, nI_pred]⟩
            · have : j = k := by omega
              subst this
              exact ⟨e j, by omega, q3k⟩
          · have k4 := k3.trans (FP.cell (s := s3) (j := 17) (w := w) (by omega))
            have e4 : va_up s3 17 w 0 23 = nI na := by rw [va_up_ne _ _ (by omega)]; exact e3
            have q4 : va_up s3 17 w 16 = s3 16 := va_up_ne _ _ (by omega)
            generalize va_up s3 17 w = s4 at h4 k4 e4 q4
            obtain ⟨e', E1, E2⟩ : ∃ e' : Nat → Nat, (∀ j, j < k → e' j = e j) ∧ e' k = e k + 1 := ⟨fun j => if j = k then e k + 1 else e j, fun j hj => if_neg (by omega), if_pos rfl⟩
            have same : ∀ (na : Nat) (s5 : Nat → Nat → Int32) (f5 : ac_hp), FP s s5 → na ≤ 301 → s5 0 23 = nI na → s5 16 = s3 16 → mr_R F ki am s5 f5 → wp_X9_find_L17 ki (am 0) (nI u) Q (N + 1) (nI k) f5 := by
              intro na s5 f5 k5 hna5 e5 q5 h5
              rw [← nI_pred k]
              have := mu_same E1 E2 hek.1
              refine ih (k + 1) e' na s5 f5 (by omega) hK k5 hna5 e5 h5 (fun j hj => ?_) (fun j hj => ?_)
              · rcases Nat.lt_or_ge j k with z | z
                · rw [E1 j z, q5]; exact ⟨(he j (by omega)).1, q3 j z⟩
                · have : j = k := by omega
                  subst this
                  rw [E2, q5, q3k, nI_pred]; exact ⟨by omega, rfl⟩
              · rw [E1 j (by omega)]; exact he1 j (by omega)
            refine ⟨fun _ => same na s4 f4 k4 hna e4 q4 h4, fun _ => ?_⟩
            have r15 := rm_i (i := 15) (j := u) (c := ki 0) (n := 151) (x := nI u) h4 (by omega) rfl rfl (by omega) (by omega)
            rw [k4.1 15 (by omega) (by omega), h15] at r15
            refine ⟨_, rm_f h4 rfl, _, r15, fun hne v19 e19 => ⟨_, rm_f h4 rfl, ?_⟩, fun _ => ⟨rm_o h4, rs_keep h4 hna' e4 (fun s5 f5 na5 kp hna5 e5 h5 => same na5 s5 f5 (k4.trans kp.fp) hna5 e5 ((kp.1 16 (by omega) (by omega)).trans q4) h5)⟩⟩
            have hk1 : k + 1 < ct := by
              rcases Nat.lt_or_ge (k + 1) ct with z | z
              · exact z
              · exact absurd (by rw [nI_1, show k + 1 = ct by omega]) hne
            rw [e19, nI_1]
            refine wm_i (i := 16) (j := k + 1) h4 (by omega) (fun _ => rfl) rfl (by omega) (by omega) (fun f5 h5 => ?_)
            rw [← nI_pred (k + 1)]
            obtain ⟨e'', G1, G2, G3⟩ : ∃ e' : Nat → Nat, (∀ j, j < k → e' j = e j) ∧ e' k = e k + 1 ∧ e' (k + 1) = 0 := ⟨fun j => if j = k then e k + 1 else if j = k + 1 then 0 else e j, fun j hj => by show (if _ then _ else _) = _; rw [if_neg (by omega), if_neg (by omega)], if_pos rfl, by show (if _ then _ else _) = _; rw [if_neg (by omega), if_pos rfl]⟩
            have := mu_deep G1 G2 hek.1 G3 (by omega)
            refine ih (k + 2) e'' na _ f5 (by omega) (by omega) (k4.trans (FP.cell (by omega))) hna (by rw [va_up_ne _ _ (by omega)]; exact e4) h5 (fun j hj => ?_) (fun j hj => ?_)
            · rw [va_up_self]
              rcases Nat.lt_or_ge j k with z | z
              · rw [G1 j z, pk_un (by omega), q4]; exact ⟨(he j (by omega)).1, q3 j z⟩
              · rcases Nat.lt_or_ge k j with y | y
                · have : j = k + 1 := by omega
                  subst this
                  rw [G3, upd_self]; exact ⟨by omega, rfl⟩
                · have : j = k := by omega
                  subst this
                  rw [G2, pk_un (by omega), q4, q3k, nI_pred]; exact ⟨by omega, rfl⟩
            · rcases Nat.lt_or_ge j k with z | z
              · rw [G1 j z]; exact he1 j (by omega)
              · have : j = k := by omega
                subst this
                rw [G2]; omega
        · rw [e23, pm_m1]
          have := mu_up hek.1
          exact ih k e na s3 f3 (by omega) (by omega) k3 hna e3 h3 (fun j hj => ⟨(he j (by omega)).1, q3 j hj⟩) (fun j hj => he1 j (by omega))
  unfold wp_X9_find
  refine ⟨rm_o h, ?_⟩
  rw [show (4 : Int32) = nI 4 from rfl, pk_mul]
  refine rs_canMeet h hx (by omega) hc (fun v w f1 _ h1 => ⟨_, rm_f h1 rfl, wm_i (i := 16) (j := 0) h1 (by omega) (fun _ => rfl) nI_0.symm (by omega) (by omega) (fun f2 h2 => ⟨mu 1 (fun _ => 0) + 1, ?_⟩)⟩)
  have := main (mu 1 (fun _ => 0)) 1 (fun _ => 0) na _ f2 (Nat.le_refl _) (by omega) (FP.trans (FP.cell (j := 18) (by omega)) (FP.cell (j := 16) (by omega))) hna (by rw [va_up_ne _ _ (by omega), va_up_ne _ _ (by omega)]; exact e23) h2 (fun j hj => ⟨by omega, by rw [show j = 0 by omega, va_up_self, upd_self]; rfl⟩) (fun j hj => absurd hj (by omega))
  exact this
end R8
