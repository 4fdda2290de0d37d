/-! sorted answers: one set, one list -/
def srt (n : Nat) (a : Nat → Nat → Nat) : Prop := ∀ i j, i < j → j < n → lexl (a i) (a j)
theorem srt_lt {m : Nat} {b : Nat → Nat → Nat} (hb : srt m b) {j j' : Nat} (hj : j < m) (hl : lexl (b j) (b j')) (hj' : j' < m) : j < j' := by
  rcases Nat.lt_trichotomy j j' with z | z | z
  · exact z
  · subst z; exact absurd (fun _ _ => rfl) (fun y => lex_ne hl y)
  · exact (lex_irr hl (hb j' j z hj)).elim
theorem v6s {a b : Nat → Nat} (h : vec6 a b) : vec6 b a := fun j hj => (h j hj).symm
theorem emb {n m : Nat} {a b : Nat → Nat → Nat} (ha : srt n a) (hb : srt m b) (h : ∀ i, i < n → ∃ j, j < m ∧ vec6 (b j) (a i)) : n ≤ m ∧ (n = m → ∀ i, i < n → vec6 (b i) (a i)) := by
  have up : ∀ i j j', i + 1 < n → j < m → j' < m → vec6 (b j) (a i) → vec6 (b j') (a (i + 1)) → j < j' := fun i j j' hi hj hj' e e' => srt_lt hb hj (lex_lv (lex_vl e (ha i (i + 1) (by omega) hi)) (v6s e')) hj'
  have lo : ∀ i, i < n → ∀ j, j < m → vec6 (b j) (a i) → i ≤ j := by
    intro i
    induction i with
    | zero => intro _ j _ _; omega
    | succ i ih =>
      intro hi j hj e
      obtain ⟨j0, hj0, e0⟩ := h i (by omega)
      have h1 := ih (by omega) j0 hj0 e0
      have h2 := up i j0 j hi hj0 hj e0 e
      omega
  have hi : ∀ d i, d + i + 1 = n → ∀ j, j < m → vec6 (b j) (a i) → j + (n - i) ≤ m := by
    intro d
    induction d with
    | zero => intro i hd j hj _; omega
    | succ d ih =>
      intro i hd j hj e
      obtain ⟨j1, hj1, e1⟩ := h (i + 1) (by omega)
      have h1 := ih (i + 1) (by omega) j1 hj1 e1
      have h2 := up i j j1 (by omega) hj hj1 e e1
      omega
  refine ⟨?_, fun hnm i hin => ?_⟩
  · rcases Nat.eq_zero_or_pos n with z | z
    · omega
    · obtain ⟨j, hj, e⟩ := h (n - 1) (by omega)
      have := lo (n - 1) (by omega) j hj e
      omega
  · obtain ⟨j, hj, e⟩ := h i hin
    have h1 := lo i hin j hj e
    have h2 := hi (n - i - 1) i (by omega) j hj e
    rw [show i = j by omega] at e ⊢
    exact e
