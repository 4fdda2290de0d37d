/-! THE SEARCH, from any slot on -/
section VR18
variable {F : ac_hp} {ki : Nat → ClassId} {ad : Nat → Nat} {tl : Nat → Int64}
variable {u ct : Nat} {tb mk : Nat → Nat} {cl : Nat → Nat → Nat} {rc : Nat → Nat} {rw_ : Nat → Nat → Nat} {od tp : Nat → Nat} {vl : Nat → Nat → Nat → Nat}
theorem sp_search : ∀ (e dp : Nat), dp ≤ ct → ct < e + dp → ∀ (M : Nat) (W : Nat → Nat) (A : AS) (s : Nat → Nat → Int32) (f : ac_hp) (Q : Int32 → ac_hp → Prop), M < 64 → fok s u ct tb mk cl rc rw_ od tp vl → tok s W → (∀ v, v < 6 → M.testBit v = true → W v / 10000 = tp v) → aA s A → s 16 6 = 0 → vr_R F ki ad s tl f →
      (∀ r s' f' A' lg, s_post u ct mk rc od tp vl s e dp M W A r s' A' lg → vr_R F ki ad s' tl f' → Q r f') → wp_X8_search ki e (ad 21) (nI dp) (nI M) f Q := by
  intro e
  induction e with
  | zero => intro dp h1 h2; omega
  | succ e ih =>
    intro dp hd he M W A s f Q hM hf hw hwt hA h6 h hq
    have hct := hf.1
    rw [wp_X8_search]
    refine ⟨_, rd_f (i := 21) h (by omega) rfl rfl, _, rd_f (i := 14) h (by omega) rfl rfl, ?_⟩
    rw [hf.2.2.2.1]
    refine ⟨fun hlt => ?_, fun hge => ?_⟩
    · have hdp : dp < ct := (lt_num (k := ct) rfl (by omega) hd).1 hlt
      obtain ⟨-, -, -, -, -, k1, k2, -, -, -⟩ := hf.2.2.2.2.2 dp hdp
      obtain ⟨-, g2, g3, -, -, -, -, -, -, -⟩ := hf.2.2.2.2.2 (od dp) k1
      refine ⟨_, rd_f (i := 21) h (by omega) rfl rfl, _, rd_i (i := 27) h (by omega) rfl rfl (show dp < 4 by omega) (by omega), rd_o (i := 21) h (by omega) rfl, ?_⟩
      rw [k2]
      refine sp_ftable h hf k1 ?_
      refine ⟨_, rd_f (i := 21) h (by omega) rfl rfl, _, rd_i (i := 23) h (by omega) rfl rfl (show od dp < 4 by omega) (by omega), ?_⟩
      rw [g3]
      intro v9 hv9
      rw [(mk_or M hM (mk (od dp)) g2).1] at hv9
      subst hv9
      refine ⟨_, rd_f (i := 21) h (by omega) rfl rfl, _, rd_i (i := 23) h (by omega) rfl rfl (show od dp < 4 by omega) (by omega), ?_⟩
      rw [g3]
      intro v12 hv12
      rw [(mk_and M hM (mk (od dp)) g2).1] at hv12
      subst hv12
      refine ⟨rc (od dp) + 1, sp_search_L (A0 := A) rfl hf hdp (by omega) hM hwt (ih (dp + 1) (by omega) (by omega)) _ rfl hq (rc (od dp)) 0 s f A false (M &&& mk (od dp)) W 0 (by omega) ⟨fun _ _ _ => rfl, rfl⟩ ⟨rfl, rfl⟩ hA hw (fun _ _ _ => rfl) (fun z => by cases z) (fun _ => ⟨h6, Or.inl ⟨rfl, rfl⟩⟩) (mk_and M hM (mk (od dp)) g2).2 (fun v h1 h2 => by rw [Nat.testBit_and, h1, h2]; rfl) (fun _ j hj => absurd hj (by omega)) h⟩
    · have hdp : dp = ct := (lt_num (k := ct) rfl (by omega) hd).2 hge
      subst hdp
      obtain ⟨o, ha⟩ := hA
      have hS : sols dp mk rc od tp vl (e + 1) dp M W = [cut6 W] := by rw [sols]; simp
      have hwc : tok s (cut6 W) := fun v hv => by simp only [cut6, if_pos hv]; exact hw v hv
      refine ⟨_, rd_f (i := 21) h (by omega) rfl rfl, _, rd_f (i := 21) h (by omega) rfl rfl, _, rd_f (i := 21) h (by omega) rfl rfl, rd_o (i := 16) h (by omega) rfl, ?_⟩
      rw [hf.2.2.1]
      refine sp_take h ha hwc (fun i hi hv s' f' z1 z2 h' => ?_) (fun hno h300 s' f' z1 z2 h' => ?_) (fun hno hn a o' s' f' b1 b2 b3 z1 z2 z3 z4 h' => ?_)
      · refine hq _ s' f' (A.1, A.2.1, (fun j => if j = i then A.2.2.1 i + 1 else A.2.2.1 j), A.2.2.2) false ⟨⟨fun j a b => z1 j (by omega), by rw [z1 16 (by omega)]⟩, ?_, ⟨o, z2⟩, ⟨W, fun v hv => by rw [z1 29 (by omega)]; exact hw v hv, fun _ _ _ => rfl⟩, fun z => (by cases z), fun _ => ⟨by rw [z1 16 (by omega)]; exact h6, Or.inl ⟨by rw [hS]; simp, rfl⟩⟩⟩ h'
        rw [hS]
        exact Or.inr ⟨_, Or.inl ⟨i, hi, hv, rfl⟩, rfl, rfl⟩
      · refine hq _ s' f' A true ⟨⟨fun j a b => z1 j (by omega), by rw [z2]; simp [upd]⟩, ?_, ⟨o, ?_⟩, ⟨W, fun v hv => by rw [z1 29 (by omega)]; exact hw v hv, fun _ _ _ => rfl⟩, fun _ => ⟨by rw [z2]; simp [upd], rfl⟩, fun z => by cases z⟩ h'
        · rw [hS]
          exact Or.inl ⟨⟨hno, h300⟩, rfl, rfl⟩
        · obtain ⟨h1, h2, h3, h4, h5, h6'⟩ := ha
          refine ⟨h1, by rw [z2]; simp [upd]; exact h2, fun i hi => by rw [z1 18 (by omega)]; exact h3 i hi, h4, fun i hi => ?_, h6'⟩
          rw [z1 17 (by omega), z1 19 (by omega), z1 20 (by omega)]
          exact h5 i hi
      · refine hq _ s' f' (A.1 + 1, ins A.2.1 a (cut6 W), ins A.2.2.1 a 1, ins A.2.2.2 a u) false ⟨⟨fun j a b => z1 j (by omega), z2⟩, ?_, ⟨o', z4⟩, ⟨W, fun v hv => by rw [z1 29 (by omega)]; exact hw v hv, fun _ _ _ => rfl⟩, fun z => (by cases z), fun _ => ⟨by rw [z3]; exact h6, Or.inl ⟨by rw [hS]; simp, rfl⟩⟩⟩ h'
        rw [hS]
        exact Or.inr ⟨_, Or.inr ⟨hno, hn, a, b1, b2, b3, rfl⟩, rfl, rfl⟩
end VR18
