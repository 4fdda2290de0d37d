/-! FINDER: layOut: what is laid out of a variable -/
theorem SL_tab {one : Nat → Nat → Prop} {t : Nat → Nat} (ho : ∀ a b, one a b → t a = t b) : ∀ {k : Nat} {g : Nat → Nat} {ct : Nat}, SL one k g ct → ∀ a b, a < k → b < k → g a = g b → t a = t b := by
  intro k
  induction k with
  | zero => intro g ct _ a b ha; omega
  | succ k ih =>
    intro g ct h a b ha hb he
    obtain ⟨ct0, h1, h2⟩ := h
    have hI := ih h1
    have hlt := (SL_le h1).2
    rcases h2 with ⟨b0, hb0, z1, -, e1, e2⟩ | ⟨z1, e1, e2⟩
    · have hk : t k = t b0 := (ho b0 k z1).symm
      by_cases ea : a = k
      · by_cases eb : b = k
        · rw [ea, eb]
        · subst ea; rw [hk]; exact hI b0 b hb0 (by omega) (by rw [← e1, he])
      · by_cases eb : b = k
        · subst eb; rw [hk]; exact hI a b0 (by omega) hb0 (by rw [← e1, he])
        · exact hI a b (by omega) (by omega) he
    · by_cases ea : a = k
      · by_cases eb : b = k
        · rw [ea, eb]
        · subst ea; have := hlt b (by omega); omega
      · by_cases eb : b = k
        · subst eb; have := hlt a (by omega); omega
        · exact hI a b (by omega) (by omega) he
theorem SL_sur {one : Nat → Nat → Prop} : ∀ {k : Nat} {g : Nat → Nat} {ct : Nat}, SL one k g ct → ∀ j, j < ct → ∃ a, a < k ∧ g a = j := by
  intro k
  induction k with
  | zero => intro g ct h j hj; rw [show ct = 0 from h] at hj; omega
  | succ k ih =>
    intro g ct h j hj
    obtain ⟨ct0, h1, h2⟩ := h
    rcases h2 with ⟨b0, hb0, z1, -, e1, e2⟩ | ⟨z1, e1, e2⟩
    · obtain ⟨a, ha, e⟩ := ih h1 j (by omega)
      exact ⟨a, by omega, e⟩
    · by_cases e : j = ct0
      · exact ⟨k, by omega, by omega⟩
      · obtain ⟨a, ha, e⟩ := ih h1 j (by omega)
        exact ⟨a, by omega, e⟩
def ly (s s' : Nat → Nat → Int32) : Prop := ∀ j, j ≠ 22 → j ≠ 23 → j ≠ 24 → j ≠ 28 → j ≠ 29 → s' j = s j
/-- place q of atom b, of slot k, is variable v, and is before place p of atom a -/
def ppl (s : Nat → Nat → Int32) (g : Nat → Nat) (a p k v b q : Nat) : Prop := q < 2 ∧ (b < a ∨ (b = a ∧ q < p)) ∧ g b = k ∧ pl_v (s 7 (b * 2 + q)) v
/-- what is laid out, before place p of atom a -/
def LI (s s' : Nat → Nat → Int32) (g : Nat → Nat) (c tm : Nat → Nat → Nat) (a p : Nat) (MK : Nat → Nat) (CL : Nat → Nat → Nat) (TP : Nat → Nat) : Prop :=
  ly s s' ∧ (∀ v, v < 6 → s' 29 v = 0) ∧
  (∀ k, k < 4 → MK k < 64 ∧ s' 23 k = nI (MK k) ∧ ∀ v, v < 6 →
    ((MK k).testBit v = true → CL k v < 3 ∧ s' 24 (k * 6 + v) = nI (CL k v) ∧ ∃ b q, ppl s g a p k v b q ∧ CL k v = c b q) ∧
    ((MK k).testBit v = false → s' 24 (k * 6 + v) = (-1) ∧ ∀ b q, ¬ ppl s g a p k v b q)) ∧
  (∀ v, v < 6 → TP v < 6 ∧ s' 28 v = nI (TP v) ∧ ((∃ k b q, ppl s g a p k v b q ∧ TP v = tm b q) ∨ ∀ k b q, ¬ ppl s g a p k v b q))
theorem ppl_skip {s : Nat → Nat → Int32} {g : Nat → Nat} {a p k v b q : Nat} (hno : ∀ w, ¬ pl_v (s 7 (a * 2 + p)) w) : ppl s g a (p + 1) k v b q ↔ ppl s g a p k v b q := by
  constructor
  · rintro ⟨h1, h2, h3, h4⟩
    refine ⟨h1, ?_, h3, h4⟩
    rcases h2 with z | ⟨z1, z2⟩
    · exact Or.inl z
    · by_cases e : q = p
      · subst e; subst z1; exact absurd h4 (hno v)
      · exact Or.inr ⟨z1, by omega⟩
  · rintro ⟨h1, h2, h3, h4⟩
    refine ⟨h1, ?_, h3, h4⟩
    rcases h2 with z | ⟨z1, z2⟩
    · exact Or.inl z
    · exact Or.inr ⟨z1, by omega⟩
theorem ppl_next {s : Nat → Nat → Int32} {g : Nat → Nat} {a k v b q : Nat} : ppl s g a 2 k v b q ↔ ppl s g (a + 1) 0 k v b q := by
  constructor
  · rintro ⟨h1, h2, h3, h4⟩
    exact ⟨h1, by omega, h3, h4⟩
  · rintro ⟨h1, h2, h3, h4⟩
    exact ⟨h1, by omega, h3, h4⟩
theorem LI_iff {s s' : Nat → Nat → Int32} {g : Nat → Nat} {c tm : Nat → Nat → Nat} {a p a2 p2 : Nat} {MK : Nat → Nat} {CL : Nat → Nat → Nat} {TP : Nat → Nat} (h : LI s s' g c tm a p MK CL TP) (e : ∀ k v b q, ppl s g a2 p2 k v b q ↔ ppl s g a p k v b q) : LI s s' g c tm a2 p2 MK CL TP := by
  obtain ⟨h1, h2, h3, h4⟩ := h
  refine ⟨h1, h2, fun k hk => ?_, fun v hv => ?_⟩
  · obtain ⟨z1, z2, z3⟩ := h3 k hk
    refine ⟨z1, z2, fun v hv => ⟨fun hb => ?_, fun hb => ?_⟩⟩
    · obtain ⟨y1, y2, b, q, y3, y4⟩ := (z3 v hv).1 hb
      exact ⟨y1, y2, b, q, (e k v b q).mpr y3, y4⟩
    · obtain ⟨y1, y2⟩ := (z3 v hv).2 hb
      exact ⟨y1, fun b q z => y2 b q ((e k v b q).mp z)⟩
  · obtain ⟨z1, z2, z3⟩ := h4 v hv
    refine ⟨z1, z2, ?_⟩
    rcases z3 with ⟨k, b, q, y1, y2⟩ | y
    · exact Or.inl ⟨k, b, q, (e k v b q).mpr y1, y2⟩
    · exact Or.inr (fun k b q z => y k b q ((e k v b q).mp z))
theorem LI_var {s s' : Nat → Nat → Int32} {g : Nat → Nat} {c tm : Nat → Nat → Nat} {a p v : Nat} {MK : Nat → Nat} {CL : Nat → Nat → Nat} {TP : Nat → Nat} (h : LI s s' g c tm a p MK CL TP) (hp : p < 2) (hg : g a < 4) (hv : pl_v (s 7 (a * 2 + p)) v) (hc : c a p < 3) (ht : tm a p < 6) :
    LI s (va_up (va_up (va_up s' 28 (upd (s' 28) v (nI (tm a p)))) 24 (upd (s' 24) (g a * 6 + v) (nI (c a p)))) 23 (upd (s' 23) (g a) (nI (MK (g a) ||| 2 ^ v)))) g c tm a (p + 1)
      (fun k => if k = g a then MK (g a) ||| 2 ^ v else MK k) (fun k w => if k = g a ∧ w = v then c a p else CL k w) (fun w => if w = v then tm a p else TP w) := by
  obtain ⟨h1, h2, h3, h4⟩ := h
  have hv6 := hv.1
  have up : ∀ {k w b q}, ppl s g a p k w b q → ppl s g a (p + 1) k w b q := fun ⟨z1, z2, z3, z4⟩ => ⟨z1, by omega, z3, z4⟩
  have dn : ∀ {k w b q}, ppl s g a (p + 1) k w b q → ppl s g a p k w b q ∨ (k = g a ∧ w = v) := fun {k w b q} ⟨z1, z2, z3, z4⟩ => by
    by_cases e : b = a ∧ q = p
    · obtain ⟨e1, e2⟩ := e
      subst e1; subst e2
      exact Or.inr ⟨z3.symm, plv_inj z4 hv⟩
    · exact Or.inl ⟨z1, by omega, z3, z4⟩
  have me : ppl s g a (p + 1) (g a) v a p := ⟨hp, by omega, rfl, hv⟩
  refine ⟨fun j y1 y2 y3 y4 y5 => ?_, fun w hw => ?_, fun k hk => ?_, fun w hw => ?_⟩
  · rw [va_up_ne _ _ y2, va_up_ne _ _ y3, va_up_ne _ _ y4]; exact h1 j y1 y2 y3 y4 y5
  · simp (disch := omega) only [va_up_ne]; exact h2 w hw
  · simp (disch := omega) only [va_up_self, va_up_ne]
    obtain ⟨z1, z2, z3⟩ := h3 k hk
    by_cases e : k = g a
    · subst e
      simp only [if_true, true_and]
      refine ⟨(bt_with _ z1 v hv6).2, by simp [upd], fun w hw => ?_⟩
      rw [bt_or _ z1 v hv6 w hw]
      by_cases ew : w = v
      · subst ew
        simp only [if_true, decide_true, Bool.or_true]
        exact ⟨fun _ => ⟨hc, by simp [upd], a, p, me, rfl⟩, fun z => by cases z⟩
      · simp only [if_neg ew, decide_eq_false ew, Bool.or_false]
        refine ⟨fun hb => ?_, fun hb => ?_⟩
        · obtain ⟨y1, y2, b, q, y3, y4⟩ := (z3 w hw).1 hb
          exact ⟨y1, by simp only [upd, if_neg (show ¬ g a * 6 + w = g a * 6 + v by omega)]; exact y2, b, q, up y3, y4⟩
        · obtain ⟨y1, y2⟩ := (z3 w hw).2 hb
          refine ⟨by simp only [upd, if_neg (show ¬ g a * 6 + w = g a * 6 + v by omega)]; exact y1, fun b q z => ?_⟩
          rcases dn z with z | z
          · exact y2 b q z
          · exact ew z.2
    · simp only [if_neg e, eq_false e, false_and, if_false]
      refine ⟨z1, by simp only [upd, if_neg e]; exact z2, fun w hw => ⟨fun hb => ?_, fun hb => ?_⟩⟩
      · obtain ⟨y1, y2, b, q, y3, y4⟩ := (z3 w hw).1 hb
        exact ⟨y1, by simp only [upd, if_neg (show ¬ k * 6 + w = g a * 6 + v by omega)]; exact y2, b, q, up y3, y4⟩
      · obtain ⟨y1, y2⟩ := (z3 w hw).2 hb
        refine ⟨by simp only [upd, if_neg (show ¬ k * 6 + w = g a * 6 + v by omega)]; exact y1, fun b q z => ?_⟩
        rcases dn z with z | z
        · exact y2 b q z
        · exact e z.1
  · simp (disch := omega) only [va_up_self, va_up_ne]
    obtain ⟨z1, z2, z3⟩ := h4 w hw
    by_cases ew : w = v
    · subst ew
      simp only [if_true]
      exact ⟨ht, by simp [upd], Or.inl ⟨g a, a, p, me, rfl⟩⟩
    · simp only [if_neg ew]
      refine ⟨z1, by simp only [upd, if_neg ew]; exact z2, ?_⟩
      rcases z3 with ⟨k, b, q, y1, y2⟩ | y
      · exact Or.inl ⟨k, b, q, up y1, y2⟩
      · refine Or.inr (fun k b q z => ?_)
        rcases dn z with z | z
        · exact y k b q z
        · exact ew z.2
section VR23
variable {F : ac_hp} {ki : Nat → ClassId} {ad : Nat → Nat} {s : Nat → Nat → Int32} {tl : Nat → Int64} {f : ac_hp}
theorem sp_layVar {u a p v k m M T C : Nat} {Q : ac_hp → Prop} (h : vr_R F ki ad s tl f) (ha : a < 4) (hp : p < 2) (hv : pl_v (s 7 (a * 2 + p)) v) (hk : k < 4) (h15 : s 15 a = nI k) (hu : u < 150) (h21 : s 21 12 = nI u) (h11 : s 11 (u * 4 + a) = nI m) (hm : m < 12) (hM : M < 64) (h23 : s 23 k = nI M) (hT : s (43 + 3 * m) p = nI T) (hC : s (44 + 3 * m) p = nI C)
    (hq : ∀ f', vr_R F ki ad (va_up (va_up (va_up s 28 (upd (s 28) v (nI T))) 24 (upd (s 24) (k * 6 + v) (nI C))) 23 (upd (s 23) k (nI (M ||| 2 ^ v)))) tl f' → Q f') : wp_X8_layOutVariable ki (ad 21) (nI a) (nI p) f Q := by
  unfold wp_X8_layOutVariable
  have hv6 := hv.1
  refine ⟨_, rd_f (i := 21) h (by omega) rfl rfl, rd_o (i := 5) h (by omega) rfl, sp_told h (by omega) ?_⟩
  unfold wp_X0_variableOf
  rw [show (-1 : Int32) - s 7 (a * 2 + p) = nI v by rw [hv.2]; exact (var_of v hv6).1]
  refine ⟨_, rd_f (i := 21) h (by omega) rfl rfl, _, rd_f (i := 14) h (by omega) rfl rfl, _, rd_i (i := 15) h (by omega) rfl rfl ha (by omega), _, rd_f (i := 21) h (by omega) rfl rfl, _, rd_f (i := 21) h (by omega) rfl rfl, rd_o (i := 10) h (by omega) rfl, ?_⟩
  rw [h21, h15]
  refine sp_mappingOf h (by omega) hm h11 ?_
  refine ⟨_, rd_f (i := 21) h (by omega) rfl rfl, _, rd_f h (by omega) (lay_M hm) rfl, _, rd_i h (by omega) (lay_Mt hm) rfl hp (by omega), ?_⟩
  rw [hT]
  refine wr_i (i := 28) (j := v) h (by omega) (fun s' => rfl) rfl (by omega) (by omega) (fun f1 h1 => ?_)
  refine ⟨_, rd_f (i := 21) h1 (by omega) rfl rfl, _, rd_f h1 (by omega) (lay_M hm) rfl, _, rd_i h1 (by omega) (lay_Mc hm) rfl hp (by omega), ?_⟩
  rw [va_up_ne _ _ (show 44 + 3 * m ≠ 28 by omega), hC]
  refine wr_i (i := 24) (j := k * 6 + v) h1 (by omega) (fun s' => rfl) (by rw [show (6 : Int32) = nI 6 from rfl, pk_mul, nI_add]) (by omega) (by omega) (fun f2 h2 => ?_)
  refine ⟨_, rd_f (i := 21) h2 (by omega) rfl rfl, _, rd_f (i := 21) h2 (by omega) rfl rfl, _, rd_i (i := 23) h2 (by omega) rfl rfl hk (by omega), ?_⟩
  unfold wp_X0_with
  dsimp only
  rw [va_up_ne _ _ (show (23 : Nat) ≠ 24 by omega), va_up_ne _ _ (show (23 : Nat) ≠ 28 by omega), h23, (bt_with M hM v hv6).1]
  refine wr_i (i := 23) (j := k) h2 (by omega) (fun s' => rfl) rfl (by omega) (by omega) (fun f3 h3 => hq f3 (R_eq h3 ?_))
  simp (disch := omega) only [va_up_ne]
end VR23
