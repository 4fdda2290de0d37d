/-! side by side: run answers alike too -/
abbrev JJ4 := @JJ2
section RL7
variable {ki : Nat → ClassId} {ad am : Nat → Nat} {r3 : Nat} {s : Nat → Nat → Int32} {tl : Nat → Int64} {t : Nat → Nat → Int32} {f f' : ac_hp}
variable {sz : Nat → Nat} {nn : Nat → Nat → Nat → Nat} {kk : Nat → Nat → Int32} {mc n sp : Nat}
theorem u_run (h : JA ki ad am r3 s tl t f) (hc : CI s sz nn kk mc n sp) (hi : RI t sz nn kk mc n sp) (hl : ML s t mc n sp) : ag (am 0) (wp_X0_run ki (ad 0) f) (fun f' => wp_X9_run ki (am 0) f') (JJ2 ki ad am r3) := by
  obtain ⟨mt, pr, ml, mtm, hC, hR, hT⟩ := h_data hc hl
  by_cases hn : n = 0
  · exact ah_any (v := -1) h hl (fun P hP => cj_run h.1 hc hl hC.1 (fun _ s' f' k c _ h' => hP s' tl f' k c h') (fun z => absurd hn z) (fun z => absurd hn z) (fun z => absurd hn z)) (fun f' hm Q hQ => rj_run hm hi hR hl hc.ks (fun _ t' f'' k i _ h'' => hQ t' f'' k i h'') (fun z => absurd z (by omega)) (fun z => absurd z (by omega)) (fun z => absurd z (by omega)))
  · by_cases hg : 150 < (mL t mc n (mc ^ n)).length
    · exact ah_any (v := -3) h hl (fun P hP => cj_run h.1 hc hl hC.1 (fun z => absurd z hn) (fun _ _ s' f' k c _ h' => hP s' tl f' k c h') (fun _ z => absurd z (by omega)) (fun _ z => absurd z (by omega))) (fun f' hm Q hQ => rj_run hm hi hR hl hc.ks (fun z => absurd z hn) (fun _ _ t' f'' k i _ h'' => hQ t' f'' k i h'') (fun _ z => absurd z (by omega)) (fun _ z => absurd z (by omega)))
    · by_cases hE : ∃ A ls, Sp (HT (RT s n mc mt ml mtm nn sz (mL t mc n (mc ^ n))) (mL t mc n (mc ^ n)).length) (mL t mc n (mc ^ n)).length A ls ∧ A.1 ≤ 300
      · obtain ⟨A0, ls0, hS0, h300⟩ := hE
        exact ah_any (v := nI A0.1) h hl (fun P hP => cj_run h.1 hc hl hC.1 (fun z => absurd z hn) (fun _ z => absurd z hg) (fun _ _ VM A ls s' f' _ _ hS _ _ _ k c h' => by rw [(Sp_u hS hS0).1]; exact hP s' tl f' k c h') (fun _ _ A s' f' hb => absurd (Bg_no hb hS0) (by omega))) (fun f' hm Q hQ => rj_run hm hi hR hl hc.ks (fun z => absurd z hn) (fun _ z => absurd z hg) (fun _ _ VB B ls t' f'' _ hk hB _ _ k i h'' => by rw [(Sp_u (KR_le hk hB) hS0).1]; exact hQ t' f'' k i h'') (fun _ _ B ls t' f'' hk hB => absurd (KR_no hk hB hS0) (by omega)))
      · exact ah_any (v := -3) h hl (fun P hP => cj_run h.1 hc hl hC.1 (fun z => absurd z hn) (fun _ z => absurd z hg) (fun _ _ VM A ls s' f' _ _ hS hA => absurd ⟨A, ls, hS, hA⟩ hE) (fun _ _ A s' f' _ _ k c h' => hP s' tl f' k c h')) (fun f' hm Q hQ => rj_run hm hi hR hl hc.ks (fun z => absurd z hn) (fun _ z => absurd z hg) (fun _ _ VB B ls t' f'' _ hk hB => absurd ⟨B, ls, KR_le hk hB, hB⟩ hE) (fun _ _ B ls t' f'' _ _ _ k i h'' => hQ t' f'' k i h''))
/-- what every call of a part asks -/
def agree_part4 (ki : Nat → ClassId) (r1 r2 r3 : Nat) (f : ac_hp) (N : ac_hp → Prop) : Prop := hr_o f r1 0 ∧ N f
  ∧ (∀ a b c : Int32, c = 0 ∨ c = 1 → ag r2 (wp_X0_key ki r1 a b c f) (fun f' => wp_X9_key ki r2 a b c f') N)
  ∧ (∀ a b c d : Int32, ag r2 (wp_X0_row ki r1 a b c d f) (fun f' => wp_X9_row ki r2 a b c d f') N)
  ∧ (∀ a b : Int32, ag r2 (wp_X0_drop ki r1 a b f) (fun f' => wp_X9_drop ki r2 a b f') N)
  ∧ (∀ a b c d e g : Int32, ag r2 (wp_X0_mapping ki r1 a b c d e g f) (fun f' => wp_X9_mapping ki r2 a b c d e g f') N)
  ∧ (ag r2 (wp_X0_triples ki r1 f) (fun f' => wp_X9_triples ki r2 f') N)
  ∧ (∀ a b c : Int32, ag r2 (wp_X0_atom ki r1 a b c f) (fun f' => wp_X9_atom ki r2 a b c f') N)
  ∧ (∀ a b c : Int32, ag r2 (wp_X0_span ki r1 a b c f) (fun f' => wp_X9_span ki r2 a b c f') N)
  ∧ (ag r2 (wp_X0_clear ki r1 f) (fun f' => wp_X9_clear ki r2 f') N)
  ∧ (ag r2 (wp_X0_unions ki r1 f) (fun f' => wp_X9_unions ki r2 f') N)
  ∧ (∀ a b : Int32, go r2 (wp_X0_union ki r1 a b f) (fun f' => wp_X9_union ki r2 a b f') N)
  ∧ (∀ a : Int32, go r2 (wp_X0_estimate ki r1 a f) (fun f' => wp_X9_estimate ki r2 a f') N)
  ∧ (ag r2 (wp_X0_run ki r1 f) (fun f' => wp_X9_run ki r2 f') N)
  ∧ (∀ a b : Int32, go r2 (wq_XL_value ki r1 a b r3 f) (fun f' => wp_X9_value ki r2 a b f') N)
  ∧ (∀ a b : Int32, go r2 (wp_X0_found ki r1 a b f) (fun f' => wp_X9_found ki r2 a b f') N)
theorem v_all (hj : JJ4 ki ad am r3 f) : agree_part4 ki (ad 0) (am 0) r3 f (JJ4 ki ad am r3) := by
  obtain ⟨s, tl, t, sz, nn, kk, mc, n, sp, h, hc, hi, hl⟩ := id hj
  exact ⟨rd_o (i := 0) h.1 (by omega) rfl, hj, h_key h hc hi hl, h_row h hc hi hl, h_drop h hc hi hl, h_mapping h hc hi hl, h_triples h hc hi hl, h_atom h hc hi hl, h_span h hc hi hl, h_clear h hc hi hl, u_unions h hc hi hl, h_union h hc hi hl, h_estimate h hc hi hl, u_run h hc hi hl, h_value h hc hi hl, h_found h hc hi hl⟩
end RL7
