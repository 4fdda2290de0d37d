/-! side by side: unions answers alike too -/
abbrev JJ3 := @JJ2
section RL6
variable {ki : Nat → ClassId} {ad am : Nat → Nat} {r3 : Nat} {s : Nat → Nat → Int32} {tl : Nat → Int64} {t : Nat → Nat → Int32} {f f' : ac_hp}
variable {sz : Nat → Nat} {nn : Nat → Nat → Nat → Nat} {kk : Nat → Nat → Int32} {mc n sp : Nat}
theorem ah_any {v : Int32} {A : (Int32 → ac_hp → Prop) → Prop} {B : ac_hp → (Int32 → ac_hp → Prop) → Prop} (h : JA ki ad am r3 s tl t f) (hl : ML s t mc n sp) (hA : ∀ P : Int32 → ac_hp → Prop, (∀ s' tl' f', SK s s' → CI s' sz nn kk mc n sp → vr_R f ki ad s' tl' f' → P v f') → A P) (hB : ∀ f', mr_R f' ki am t f' → ∀ Q : Int32 → ac_hp → Prop, (∀ t' f'', SC t t' → RI t' sz nn kk mc n sp → mr_R f' ki am t' f'' → Q v f'') → B f' Q) : ag (am 0) A B (JJ2 ki ad am r3) :=
  ⟨v, fun f' => ∃ s' tl', SK s s' ∧ CI s' sz nn kk mc n sp ∧ JA ki ad am r3 s' tl' t f', fun P hP => hA P (fun s' tl' f' hk' hc' h' => hP f' ⟨s', tl', hk', hc', h.c h'⟩), fun f' ⟨s', tl', hk', hc', hM⟩ => ⟨rm_o hM.2.1, fun Q hQ => hB f' hM.2.1 Q (fun t' f'' hs' hi' h'' => hQ f'' ⟨s', tl', t', sz, nn, kk, mc, n, sp, hM.m h'', hc', hi', hl.k hk' hs'⟩)⟩⟩
theorem u_unions (h : JA ki ad am r3 s tl t f) (hc : CI s sz nn kk mc n sp) (hi : RI t sz nn kk mc n sp) (hl : ML s t mc n sp) : ag (am 0) (wp_X0_unions ki (ad 0) f) (fun f' => wp_X9_unions ki (am 0) f') (JJ2 ki ad am r3) := by
  obtain ⟨mt, pr, ml, mtm, hC, hR, hT⟩ := h_data hc hl
  obtain ⟨VM, _, _, _, A, TP, h1, -⟩ := id hc
  have e : (unions s n mc).length = (mL t mc n (mc ^ n)).length := by rw [un_eq hl h1.1, List.length_map]
  by_cases hn : n = 0
  · exact ah_any (v := -1) h hl (fun P hP => sp_unions h.1 h1 (fun _ => hP s tl f SK.rfl' hc h.1) (fun z => absurd hn z) (fun z => absurd hn z)) (fun f' hm Q hQ => rj_unions hm hi hR (fun _ => hQ) (fun z => absurd z (by omega)) (fun z => absurd z (by omega)))
  · by_cases hg : 150 < (unions s n mc).length
    · exact ah_any (v := -3) h hl (fun P hP => sp_unions h.1 h1 (fun z => absurd z hn) (fun _ _ s' f' hr h' => hP s' tl f' (SK.rfd hr) (CI_rfd hc hr) h') (fun _ z => absurd hg (by omega))) (fun f' hm Q hQ => rj_unions hm hi hR (fun z => absurd z hn) (fun _ _ => hQ) (fun _ z => absurd hg (by omega)))
    · exact ah_any (v := nI (unions s n mc).length) h hl (fun P hP => sp_unions h.1 h1 (fun z => absurd z hn) (fun _ z => absurd z hg) (fun _ _ s' f' hr h' => hP s' tl f' (SK.rfd hr) (CI_rfd hc hr) h')) (fun f' hm Q hQ => rj_unions hm hi hR (fun z => absurd z hn) (fun _ z => absurd z (by omega)) (fun _ _ => by rw [← e]; exact hQ))
/-- what every call of a part asks -/
def agree_part3 (ki : Nat → ClassId) (r1 r2 r3 : Nat) (f : ac_hp) (N : ac_hp → Prop) : Prop := hr_o f r1 0 ∧ N f
  ∧ (∀ a b c : Int32, c = 0 ∨ c = 1 → ag r2 (wp_X0_key ki r1 a b c f) (fun f' => wp_X9_key ki r2 a b c f') N)
  ∧ (∀ a b c d : Int32, ag r2 (wp_X0_row ki r1 a b c d f) (fun f' => wp_X9_row ki r2 a b c d f') N)
  ∧ (∀ a b : Int32, ag r2 (wp_X0_drop ki r1 a b f) (fun f' => wp_X9_drop ki r2 a b f') N)
  ∧ (∀ a b c d e g : Int32, ag r2 (wp_X0_mapping ki r1 a b c d e g f) (fun f' => wp_X9_mapping ki r2 a b c d e g f') N)
  ∧ (ag r2 (wp_X0_triples ki r1 f) (fun f' => wp_X9_triples ki r2 f') N)
  ∧ (∀ a b c : Int32, ag r2 (wp_X0_atom ki r1 a b c f) (fun f' => wp_X9_atom ki r2 a b c f') N)
  ∧ (∀ a b c : Int32, ag r2 (wp_X0_span ki r1 a b c f) (fun f' => wp_X9_span ki r2 a b c f') N)
  ∧ (ag r2 (wp_X0_clear ki r1 f) (fun f' => wp_X9_clear ki r2 f') N)
  ∧ (ag r2 (wp_X0_unions ki r1 f) (fun f' => wp_X9_unions ki r2 f') N)
  ∧ (∀ a b : Int32, go r2 (wp_X0_union ki r1 a b f) (fun f' => wp_X9_union ki r2 a b f') N)
  ∧ (∀ a : Int32, go r2 (wp_X0_estimate ki r1 a f) (fun f' => wp_X9_estimate ki r2 a f') N)
  ∧ (go r2 (wp_X0_run ki r1 f) (fun f' => wp_X9_run ki r2 f') N)
  ∧ (∀ a b : Int32, go r2 (wq_XL_value ki r1 a b r3 f) (fun f' => wp_X9_value ki r2 a b f') N)
  ∧ (∀ a b : Int32, go r2 (wp_X0_found ki r1 a b f) (fun f' => wp_X9_found ki r2 a b f') N)
theorem u_all (hj : JJ3 ki ad am r3 f) : agree_part3 ki (ad 0) (am 0) r3 f (JJ3 ki ad am r3) := by
  obtain ⟨s, tl, t, sz, nn, kk, mc, n, sp, h, hc, hi, hl⟩ := id hj
  exact ⟨rd_o (i := 0) h.1 (by omega) rfl, hj, h_key h hc hi hl, h_row h hc hi hl, h_drop h hc hi hl, h_mapping h hc hi hl, h_triples h hc hi hl, h_atom h hc hi hl, h_span h hc hi hl, h_clear h hc hi hl, u_unions h hc hi hl, h_union h hc hi hl, h_estimate h hc hi hl, h_run h hc hi hl, h_value h hc hi hl, h_found h hc hi hl⟩
end RL6
