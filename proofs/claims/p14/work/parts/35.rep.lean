/-! THE SEARCH: what it tells to the answers, and why a jump back leaves nothing out -/
abbrev AS : Type := Nat × (Nat → Nat → Nat) × (Nat → Nat) × (Nat → Nat)
/-- union u finds w: the answers behind it -/
def tk1 (u : Nat) (w : Nat → Nat) (A B : AS) : Prop :=
  (∃ i, i < A.1 ∧ vec6 (A.2.1 i) w ∧ B = (A.1, A.2.1, (fun j => if j = i then A.2.2.1 i + 1 else A.2.2.1 j), A.2.2.2)) ∨
  ((∀ i, i < A.1 → ¬ vec6 (A.2.1 i) w) ∧ A.1 < 300 ∧ ∃ a, a ≤ A.1 ∧ (∀ i, i < a → lexl (A.2.1 i) w) ∧ (∀ i, a ≤ i → i < A.1 → lexl w (A.2.1 i)) ∧ B = (A.1 + 1, ins A.2.1 a w, ins A.2.2.1 a 1, ins A.2.2.2 a u))
def tkL (w : Nat → Nat) (A : AS) : Prop := (∀ i, i < A.1 → ¬ vec6 (A.2.1 i) w) ∧ A.1 = 300
def tks (u : Nat) : List (Nat → Nat) → AS → AS → Bool → Prop
  | [], A, B, lg => B = A ∧ lg = false
  | w :: L, A, B, lg => (tkL w A ∧ B = A ∧ lg = true) ∨ ∃ C, tk1 u w A C ∧ tks u L C B lg
theorem tks_app {u : Nat} {L2 : List (Nat → Nat)} : ∀ {L1 : List (Nat → Nat)} {A B C : AS} {lg : Bool}, tks u L1 A B false → tks u L2 B C lg → tks u (L1 ++ L2) A C lg := by
  intro L1
  induction L1 with
  | nil => intro A B C lg h1 h2; rw [h1.1] at h2; exact h2
  | cons w L ih =>
    intro A B C lg h1 h2
    rcases h1 with ⟨-, -, z⟩ | ⟨D, d1, d2⟩
    · cases z
    · exact Or.inr ⟨D, d1, ih d2 h2⟩
theorem tks_stop {u : Nat} {L2 : List (Nat → Nat)} : ∀ {L1 : List (Nat → Nat)} {A B : AS}, tks u L1 A B true → tks u (L1 ++ L2) A B true := by
  intro L1
  induction L1 with
  | nil => intro A B h; cases h.2
  | cons w L ih =>
    intro A B h
    rcases h with z | ⟨D, d1, d2⟩
    · exact Or.inl z
    · exact Or.inr ⟨D, d1, ih d2⟩
theorem tks_ne {u : Nat} {L : List (Nat → Nat)} {A B : AS} (h : tks u L A B true) : L ≠ [] := by
  intro e; subst e; cases h.2
def agrb (mk : Nat → Nat) (vl : Nat → Nat → Nat → Nat) (k i M : Nat) (W : Nat → Nat) : Bool := (List.range 6).all fun v => !(mk k).testBit v || !M.testBit v || W v % 10000 == vl k i v
theorem agrb_iff {mk : Nat → Nat} {vl : Nat → Nat → Nat → Nat} {k i M : Nat} {W : Nat → Nat} : agrb mk vl k i M W = true ↔ agr mk vl k i M W := by
  unfold agrb agr
  rw [List.all_eq_true]
  constructor
  · intro h v hv h1 h2
    have := h v (List.mem_range.mpr hv)
    simpa [h1, h2] using this
  · intro h v hv
    have hv := List.mem_range.mp hv
    cases h1 : (mk k).testBit v with
    | false => simp
    | true =>
      cases h2 : M.testBit v with
      | false => simp
      | true => simp [h v hv h1 h2]
def cut6 (W : Nat → Nat) : Nat → Nat := fun v => if v < 6 then W v else 0
section SO
variable (ct : Nat) (mk rc od tp : Nat → Nat) (vl : Nat → Nat → Nat → Nat)
/-- what the slots from dp on find -/
def sols : Nat → Nat → Nat → (Nat → Nat) → List (Nat → Nat)
  | 0, _, _, _ => []
  | e + 1, dp, M, W => if ct ≤ dp then [cut6 W] else (List.range (rc (od dp))).flatMap fun i => if agrb mk vl (od dp) i M W = true then sols e (dp + 1) (M ||| mk (od dp)) (setv mk tp vl (od dp) i W) else []
/-- W and W2 say the same of what is settled, and of what no slot from dp on has -/
def eqv (dp M : Nat) (W W2 : Nat → Nat) : Prop := ∀ v, v < 6 → (M.testBit v = true ∨ ∀ d, dp ≤ d → d < ct → (mk (od d)).testBit v = false) → W v = W2 v
end SO
section SO2
variable {ct : Nat} {mk rc od tp : Nat → Nat} {vl : Nat → Nat → Nat → Nat}
theorem agr_eq {k i M : Nat} {W W2 : Nat → Nat} (h : ∀ v, v < 6 → M.testBit v = true → (mk k).testBit v = true → W v % 10000 = W2 v % 10000) : agrb mk vl k i M W = agrb mk vl k i M W2 := by
  have : agrb mk vl k i M W = true ↔ agrb mk vl k i M W2 = true := by
    rw [agrb_iff, agrb_iff]
    exact ⟨fun q v hv h1 h2 => by rw [← h v hv h2 h1]; exact q v hv h1 h2, fun q v hv h1 h2 => by rw [h v hv h2 h1]; exact q v hv h1 h2⟩
  cases h1 : agrb mk vl k i M W <;> cases h2 : agrb mk vl k i M W2 <;> simp_all
theorem sols_eqv : ∀ (e dp M : Nat) (W W2 : Nat → Nat), ct < e + dp → eqv ct mk od dp M W W2 → sols ct mk rc od tp vl e dp M W = sols ct mk rc od tp vl e dp M W2 := by
  intro e
  induction e with
  | zero => intros; rfl
  | succ e ih =>
    intro dp M W W2 he h
    unfold sols
    by_cases hd : ct ≤ dp
    · simp only [if_pos hd]
      congr 1
      funext v
      simp only [cut6]
      by_cases hv : v < 6
      · simp only [if_pos hv]; exact h v hv (Or.inr (fun d h1 h2 => absurd h2 (by omega)))
      · simp only [if_neg hv]
    · simp only [if_neg hd]
      congr 1
      funext i
      rw [agr_eq (W := W) (W2 := W2) (fun v hv h1 _ => by rw [h v hv (Or.inl h1)])]
      by_cases ha : agrb mk vl (od dp) i M W2 = true
      · simp only [if_pos ha]
        refine ih (dp + 1) _ _ _ (by omega) (fun v hv hc => ?_)
        simp only [setv]
        by_cases hb : (mk (od dp)).testBit v = true
        · simp only [if_pos hb]
        · simp only [if_neg hb]
          refine h v hv ?_
          rcases hc with z | z
          · rw [Nat.testBit_or] at z
            left
            simpa [hb] using z
          · right
            intro d h1 h2
            by_cases e2 : d = dp
            · subst e2; simpa using hb
            · exact z d (by omega) h2
      · simp only [if_neg ha]
theorem fm_nil {α : Type} {n : Nat} {g : Nat → List α} : (List.range n).flatMap g = [] ↔ ∀ i, i < n → g i = [] := by
  rw [List.flatMap_eq_nil_iff]
  exact ⟨fun h i hi => h i (List.mem_range.mpr hi), fun h i hi => h i (List.mem_range.mp hi)⟩
end SO2
