/-! what the answers are, whoever tells them: H u x, union u has told x -/
def CN (H : Nat → (Nat → Nat) → Prop) : Nat → (Nat → Nat) → Nat → Prop
  | 0, _, k => k = 0
  | u + 1, x, k => (H u x ∧ ∃ k', k = k' + 1 ∧ CN H u x k') ∨ (¬ H u x ∧ CN H u x k)
theorem CN_u {H H' : Nat → (Nat → Nat) → Prop} {x x' : Nat → Nat} : ∀ {u k k' : Nat}, CN H u x k → CN H' u x' k' → (∀ q, q < u → (H q x ↔ H' q x')) → k = k'
  | 0, k, k', h, h', _ => by rw [show k = 0 from h, show k' = 0 from h']
  | u + 1, k, k', h, h', e => by
    have eu := e u (by omega)
    have e' : ∀ q, q < u → (H q x ↔ H' q x') := fun q hq => e q (by omega)
    rcases h with ⟨a, b, rfl, c⟩ | ⟨a, c⟩
    · rcases h' with ⟨a', b', rfl, c'⟩ | ⟨a', c'⟩
      · rw [CN_u c c' e']
      · exact absurd (eu.mp a) a'
    · rcases h' with ⟨a', b', rfl, c'⟩ | ⟨a', c'⟩
      · exact absurd (eu.mpr a') a
      · exact CN_u c c' e'
theorem CN_c {H H' : Nat → (Nat → Nat) → Prop} {x x' : Nat → Nat} : ∀ {u k : Nat}, CN H u x k → (∀ q, q < u → (H q x ↔ H' q x')) → CN H' u x' k
  | 0, k, h, _ => h
  | u + 1, k, h, e => by
    have eu := e u (by omega)
    have e' : ∀ q, q < u → (H q x ↔ H' q x') := fun q hq => e q (by omega)
    rcases h with ⟨a, b, rfl, c⟩ | ⟨a, c⟩
    · exact Or.inl ⟨eu.mp a, b, rfl, CN_c c e'⟩
    · exact Or.inr ⟨fun z => a (eu.mpr z), CN_c c e'⟩
theorem CN_0 {H : Nat → (Nat → Nat) → Prop} {x : Nat → Nat} : ∀ {u : Nat}, (∀ q, q < u → ¬ H q x) → CN H u x 0
  | 0, _ => rfl
  | u + 1, e => Or.inr ⟨e u (by omega), CN_0 (fun q hq => e q (by omega))⟩
/-- A, with ls the last union that told each, is just what H says -/
def Sp (H : Nat → (Nat → Nat) → Prop) (U : Nat) (A : AS) (ls : Nat → Nat) : Prop :=
  (∀ u x y, vec6 x y → H u x → H u y) ∧ (∀ u x, H u x → u < U) ∧ srt A.1 A.2.1 ∧ (∀ u x, H u x → ∃ i, i < A.1 ∧ vec6 (A.2.1 i) x) ∧
  ∀ i, i < A.1 → CN H U (A.2.1 i) (A.2.2.1 i) ∧ (H (A.2.2.2 i) (A.2.1 i) ∧ ∀ u, u < A.2.2.2 i → ¬ H u (A.2.1 i)) ∧ H (ls i) (A.2.1 i) ∧ ∀ u, ls i < u → ¬ H u (A.2.1 i)
def HU (H : Nat → (Nat → Nat) → Prop) (u : Nat) (w : Nat → Nat) (q : Nat) (x : Nat → Nat) : Prop := H q x ∨ (q = u ∧ vec6 x w)
theorem v6t {a b c : Nat → Nat} (h : vec6 a b) (h2 : vec6 b c) : vec6 a c := fun j hj => (h j hj).trans (h2 j hj)
theorem v6r {a : Nat → Nat} : vec6 a a := fun _ _ => rfl
section FI10
variable {H H' : Nat → (Nat → Nat) → Prop} {u U : Nat} {w : Nat → Nat} {A B : AS} {ls ls' : Nat → Nat}
theorem HU_n {x : Nat → Nat} (h : ¬ vec6 x w) (q : Nat) : H q x ↔ HU H u w q x := ⟨Or.inl, fun z => z.elim id (fun y => absurd y.2 h)⟩
theorem srt_inj {n : Nat} {a : Nat → Nat → Nat} (h : srt n a) {i j : Nat} (hi : i < n) (hj : j < n) (e : vec6 (a i) (a j)) : i = j := by
  rcases Nat.lt_trichotomy i j with z | z | z
  · exact (lex_ne (h i j z hj) e).elim
  · exact z
  · exact (lex_ne (h j i z hi) (v6s e)).elim
theorem Sp_kp1 (h : Sp H (u + 1) A ls) (k : kp1 u w A ls B ls') : Sp (HU H u w) (u + 1) B ls' := by
  obtain ⟨h1, h2, h3, h4, h5⟩ := h
  have g1 : ∀ q x y, vec6 x y → HU H u w q x → HU H u w q y := fun q x y e z => z.elim (fun z => Or.inl (h1 q x y e z)) (fun z => Or.inr ⟨z.1, v6t (v6s e) z.2⟩)
  have g2 : ∀ q x, HU H u w q x → q < u + 1 := fun q x z => z.elim (h2 q x) (fun z => by omega)
  rcases k with ⟨i, hi, ei, rfl, rfl⟩ | ⟨hno, a, ha, hl, hg, rfl, rfl⟩
  · refine ⟨g1, g2, h3, fun q x z => ?_, fun j hj => ?_⟩
    · rcases z with z | ⟨-, z⟩
      · exact h4 q x z
      · exact ⟨i, hi, v6t ei (v6s z)⟩
    · simp only at hj ⊢
      obtain ⟨c1, ⟨c2, c3⟩, c4, c5⟩ := h5 j hj
      by_cases e : j = i
      · subst e
        rw [if_pos rfl, if_pos rfl]
        have hlu := h2 _ _ c4
        have hfu := h2 _ _ c2
        have iff : ls j = u ↔ H u (A.2.1 j) := ⟨fun z => by rw [← z]; exact c4, fun z => by
          rcases Nat.lt_or_ge (ls j) u with y | y
          · exact absurd z (c5 u y)
          · omega⟩
        refine ⟨?_, ⟨Or.inl c2, fun q hq z => ?_⟩, Or.inr ⟨rfl, ei⟩, fun q hq z => ?_⟩
        · have low : ∀ q, q < u → (H q (A.2.1 j) ↔ HU H u w q (A.2.1 j)) := fun q hq => ⟨Or.inl, fun z => z.elim id (fun y => absurd y.1 (by omega))⟩
          rcases c1 with ⟨y1, k', y2, y3⟩ | ⟨y1, y3⟩
          · rw [if_pos (iff.mpr y1)]
            exact Or.inl ⟨Or.inl y1, k', y2, CN_c y3 low⟩
          · rw [if_neg (fun z => y1 (iff.mp z))]
            exact Or.inl ⟨Or.inr ⟨rfl, ei⟩, _, rfl, CN_c y3 low⟩
        · rcases z with z | ⟨z, -⟩
          · exact c3 q hq z
          · omega
        · have := g2 q _ z
          omega
      · rw [if_neg e, if_neg e]
        have nv : ¬ vec6 (A.2.1 j) w := fun z => e (srt_inj h3 hj hi (v6t z (v6s ei)))
        exact ⟨CN_c c1 (fun q _ => HU_n nv q), ⟨Or.inl c2, fun q hq z => c3 q hq ((HU_n nv q).mpr z)⟩, Or.inl c4, fun q hq z => c5 q hq ((HU_n nv q).mpr z)⟩
  · have at_ : ∀ j, j < A.1 + 1 → j ≠ a → ∃ j0, j0 < A.1 ∧ (∀ (α : Type) (g : Nat → α) (x : α), ins g a x j = g j0) := fun j hj e => by
      rcases Nat.lt_or_ge j a with z | z
      · exact ⟨j, by omega, fun _ _ _ => ins_lt z⟩
      · exact ⟨j - 1, by omega, fun _ _ _ => ins_gt (by omega)⟩
    refine ⟨g1, g2, ?_, fun q x z => ?_, fun j hj => ?_⟩
    · intro i j hij hj
      simp only at hj ⊢
      rcases Nat.lt_trichotomy j a with z | z | z
      · rw [ins_lt z, ins_lt (by omega)]; exact h3 i j hij (by omega)
      · subst z; rw [ins_eq, ins_lt hij]; exact hl i hij
      · rw [ins_gt z]
        rcases Nat.lt_trichotomy i a with y | y | y
        · rw [ins_lt y]; exact h3 i (j - 1) (by omega) (by omega)
        · subst y; rw [ins_eq]; exact hg (j - 1) (by omega) (by omega)
        · rw [ins_gt y]; exact h3 (i - 1) (j - 1) (by omega) (by omega)
    · simp only
      rcases z with z | ⟨-, z⟩
      · obtain ⟨i, hi, e⟩ := h4 q x z
        rcases Nat.lt_or_ge i a with y | y
        · exact ⟨i, by omega, by rw [ins_lt y]; exact e⟩
        · exact ⟨i + 1, by omega, by rw [ins_gt (by omega)]; exact e⟩
      · exact ⟨a, by omega, by rw [ins_eq]; exact v6s z⟩
    · simp only at hj ⊢
      by_cases e : j = a
      · subst e
        rw [ins_eq, ins_eq, ins_eq, ins_eq]
        have nw : ∀ q, ¬ H q w := fun q z => by
          obtain ⟨i, hi, ei⟩ := h4 q w z
          exact hno i hi ei
        have nq : ∀ q, q ≠ u → ¬ HU H u w q w := fun q hq z => z.elim (nw q) (fun y => hq y.1)
        exact ⟨Or.inl ⟨Or.inr ⟨rfl, v6r⟩, 0, rfl, CN_0 (fun q hq => nq q (by omega))⟩, ⟨Or.inr ⟨rfl, v6r⟩, fun q hq => nq q (by omega)⟩, Or.inr ⟨rfl, v6r⟩, fun q hq => nq q (by omega)⟩
      · obtain ⟨j0, hj0, ee⟩ := at_ j hj e
        rw [ee, ee, ee, ee]
        obtain ⟨c1, ⟨c2, c3⟩, c4, c5⟩ := h5 j0 hj0
        have nv := hno j0 hj0
        exact ⟨CN_c c1 (fun q _ => HU_n nv q), ⟨Or.inl c2, fun q hq z => c3 q hq ((HU_n nv q).mpr z)⟩, Or.inl c4, fun q hq z => c5 q hq ((HU_n nv q).mpr z)⟩
theorem Sp_H (h : Sp H U A ls) (e : ∀ q x, H q x ↔ H' q x) : Sp H' U A ls := by
  have : H = H' := funext fun q => funext fun x => propext (e q x)
  exact this ▸ h
theorem Sp_up (h : Sp H U A ls) : Sp H (U + 1) A ls := by
  obtain ⟨h1, h2, h3, h4, h5⟩ := h
  refine ⟨h1, fun q x z => Nat.lt_succ_of_lt (h2 q x z), h3, h4, fun i hi => ?_⟩
  obtain ⟨c1, c2⟩ := h5 i hi
  exact ⟨Or.inr ⟨fun z => absurd (h2 _ _ z) (by omega), c1⟩, c2⟩
theorem Sp_ups (h : Sp H U A ls) : ∀ d, Sp H (U + d) A ls
  | 0 => h
  | d + 1 => Sp_up (Sp_ups h d)
theorem Sp_00 : Sp (fun _ _ => False) 0 A00 ls := ⟨fun _ _ _ _ z => z, fun _ _ z => z.elim, fun i j _ hj => absurd hj (Nat.not_lt_zero _), fun _ _ z => z.elim, fun i hi => absurd hi (Nat.not_lt_zero _)⟩
def HL (H : Nat → (Nat → Nat) → Prop) (u : Nat) (L : List (Nat → Nat)) (q : Nat) (x : Nat → Nat) : Prop := H q x ∨ (q = u ∧ ∃ w, w ∈ L ∧ vec6 x w)
theorem HL_nil (q : Nat) (x : Nat → Nat) : H q x ↔ HL H u [] q x := ⟨Or.inl, fun z => z.elim id (fun ⟨_, _, y, _⟩ => by cases y)⟩
theorem HL_cons {L : List (Nat → Nat)} (q : Nat) (x : Nat → Nat) : HL (HU H u w) u L q x ↔ HL H u (w :: L) q x := by
  constructor
  · rintro ((z | ⟨z, y⟩) | ⟨z, v, y, e⟩)
    · exact Or.inl z
    · exact Or.inr ⟨z, w, by simp, y⟩
    · exact Or.inr ⟨z, v, by simp [y], e⟩
  · rintro (z | ⟨z, v, y, e⟩)
    · exact Or.inl (Or.inl z)
    · rcases List.mem_cons.mp y with y | y
      · subst y; exact Or.inl (Or.inr ⟨z, e⟩)
      · exact Or.inr ⟨z, v, y, e⟩
end FI10
theorem Sp_kps {u : Nat} : ∀ {L : List (Nat → Nat)} {H : Nat → (Nat → Nat) → Prop} {A B : AS} {ls ls' : Nat → Nat}, Sp H (u + 1) A ls → kps u L A ls B ls' → Sp (HL H u L) (u + 1) B ls' ∧ A.1 ≤ B.1
  | [], H, A, B, ls, ls', h, k => by
    obtain ⟨rfl, rfl⟩ := k
    exact ⟨Sp_H h HL_nil, Nat.le_refl _⟩
  | w :: L, H, A, B, ls, ls', h, k => by
    obtain ⟨C, lsC, k1, k2⟩ := k
    obtain ⟨i1, i2⟩ := Sp_kps (Sp_kp1 h k1) k2
    refine ⟨Sp_H i1 HL_cons, Nat.le_trans ?_ i2⟩
    rcases k1 with ⟨i, hi, -, rfl, -⟩ | ⟨-, a, ha, -, -, rfl, -⟩
    · exact Nat.le_refl _
    · exact Nat.le_succ _
/-- the class tells each answer of a union once -/
theorem Sp_tk1 {H : Nat → (Nat → Nat) → Prop} {u : Nat} {w : Nat → Nat} {A B : AS} {ls : Nat → Nat} (h : Sp H (u + 1) A ls) (hn : ¬ H u w) (k : tk1 u w A B) : ∃ ls', Sp (HU H u w) (u + 1) B ls' := by
  rcases k with ⟨i, hi, ei, rfl⟩ | ⟨hno, -, a, ha, hl, hg, rfl⟩
  · refine ⟨_, Sp_kp1 h (Or.inl ⟨i, hi, ei, ?_, rfl⟩)⟩
    have : ls i ≠ u := fun z => hn (h.1 u _ _ ei (by have := (h.2.2.2.2 i hi).2.2.1; rw [z] at this; exact this))
    rw [if_neg this]
  · exact ⟨_, Sp_kp1 h (Or.inr ⟨hno, a, ha, hl, hg, rfl, rfl⟩)⟩
theorem Sp_tks {u : Nat} : ∀ {L : List (Nat → Nat)} {H : Nat → (Nat → Nat) → Prop} {A B : AS} {ls : Nat → Nat} {lg : Bool}, Sp H (u + 1) A ls → L.Nodup → (∀ a b, a ∈ L → b ∈ L → vec6 a b → a = b) → (∀ w, w ∈ L → ¬ H u w) → tks u L A B lg →
    (lg = false → ∃ ls', Sp (HL H u L) (u + 1) B ls') ∧ (lg = true → ∃ H' ls' w, (∀ q x, H' q x → HL H u L q x) ∧ Sp H' (u + 1) B ls' ∧ B.1 = 300 ∧ w ∈ L ∧ ∀ i, i < B.1 → ¬ vec6 (B.2.1 i) w)
  | [], H, A, B, ls, lg, h, _, _, _, k => by
    obtain ⟨rfl, rfl⟩ := k
    exact ⟨fun _ => ⟨ls, Sp_H h HL_nil⟩, fun z => by cases z⟩
  | w :: L, H, A, B, ls, lg, h, hd, hj, hn, k => by
    rcases k with ⟨⟨k1, k2⟩, rfl, rfl⟩ | ⟨C, k1, k2⟩
    · exact ⟨fun z => (by cases z), fun _ => ⟨H, ls, w, fun q x z => Or.inl z, h, k2, by simp, k1⟩⟩
    · obtain ⟨lsC, hC⟩ := Sp_tk1 h (hn w (by simp)) k1
      have hd' := List.nodup_cons.mp hd
      obtain ⟨i1, i2⟩ := Sp_tks hC hd'.2 (fun a b ha hb => hj a b (by simp [ha]) (by simp [hb])) (fun x hx z => by
        rcases z with z | ⟨-, z⟩
        · exact hn x (by simp [hx]) z
        · have e := hj x w (by simp [hx]) (by simp) z
          rw [e] at hx
          exact hd'.1 hx) k2
      refine ⟨fun z => ?_, fun z => ?_⟩
      · obtain ⟨ls', y⟩ := i1 z
        exact ⟨ls', Sp_H y HL_cons⟩
      · obtain ⟨H', ls', x, y1, y2, y3, y4, y5⟩ := i2 z
        exact ⟨H', ls', x, fun q v z => (HL_cons q v).mp (y1 q v z), y2, y3, by simp [y4], y5⟩
/-- what the unions before u tell -/
def HT (T : Nat → (Nat → Nat) → Prop) (u q : Nat) (x : Nat → Nat) : Prop := q < u ∧ ∃ w, T q w ∧ vec6 x w
theorem HT_s {T : Nat → (Nat → Nat) → Prop} {u : Nat} {L : List (Nat → Nat)} (hL : ∀ w, w ∈ L ↔ T u w) (q : Nat) (x : Nat → Nat) : HL (HT T u) u L q x ↔ HT T (u + 1) q x := by
  constructor
  · rintro (⟨z, y⟩ | ⟨rfl, w, y, e⟩)
    · exact ⟨by omega, y⟩
    · exact ⟨by omega, w, (hL w).mp y, e⟩
  · rintro ⟨z, w, y, e⟩
    by_cases hq : q = u
    · subst hq; exact Or.inr ⟨rfl, w, (hL w).mpr y, e⟩
    · exact Or.inl ⟨by omega, w, y, e⟩
/-- more than can be told: 300 and one more -/
def Bg (T : Nat → (Nat → Nat) → Prop) (u : Nat) (A : AS) : Prop := ∃ H' U' ls w q, (∀ q x, H' q x → HT T u q x) ∧ Sp H' U' A ls ∧ A.1 = 300 ∧ HT T u q w ∧ ∀ i, i < A.1 → ¬ vec6 (A.2.1 i) w
theorem Sp_tkall {I : Nat → List (Nat → Nat) → Prop} {T : Nat → (Nat → Nat) → Prop} {U : Nat} (hI : ∀ u, u < U → ∀ L, I u L → L.Nodup ∧ ∀ w, w ∈ L ↔ T u w) (hT : ∀ u a b, T u a → T u b → vec6 a b → a = b) : ∀ (u : Nat) (A : AS) (lg : Bool), u ≤ U → tkall I u A00 A lg → (lg = false → ∃ ls, Sp (HT T u) u A ls) ∧ (lg = true → Bg T u A)
  | 0, A, lg, _, k => by
    obtain ⟨rfl, rfl⟩ := k
    exact ⟨fun _ => ⟨fun _ => 0, Sp_H Sp_00 (fun q x => ⟨fun z => z.elim, fun z => absurd z.1 (Nat.not_lt_zero _)⟩)⟩, fun z => by cases z⟩
  | u + 1, A, lg, hu, k => by
    rcases k with ⟨C, L, k1, k2, k3⟩ | ⟨k1, rfl⟩
    · obtain ⟨ls, hC⟩ := (Sp_tkall hI hT u C false (by omega) k1).1 rfl
      obtain ⟨n1, n2⟩ := hI u (by omega) L k2
      obtain ⟨i1, i2⟩ := Sp_tks (Sp_up hC) n1 (fun a b ha hb => hT u a b ((n2 a).mp ha) ((n2 b).mp hb)) (fun w _ z => absurd z.1 (Nat.lt_irrefl _)) k3
      refine ⟨fun z => ?_, fun z => ?_⟩
      · obtain ⟨ls', y⟩ := i1 z
        exact ⟨ls', Sp_H y (HT_s n2)⟩
      · obtain ⟨H', ls', w, y1, y2, y3, y4, y5⟩ := i2 z
        exact ⟨H', _, ls', w, u, fun q x z => (HT_s n2 q x).mp (y1 q x z), y2, y3, ⟨by omega, w, (n2 w).mp y4, v6r⟩, y5⟩
    · refine ⟨fun z => (by cases z), fun _ => ?_⟩
      obtain ⟨H', U', ls', w, q, y1, y2, y3, y4, y5⟩ := (Sp_tkall hI hT u A true (by omega) k1).2 rfl
      exact ⟨H', U', ls', w, q, fun q x z => ⟨Nat.lt_succ_of_lt (y1 q x z).1, (y1 q x z).2⟩, y2, y3, ⟨Nat.lt_succ_of_lt y4.1, y4.2⟩, y5⟩
theorem Sp_sub {H H' : Nat → (Nat → Nat) → Prop} {U U' : Nat} {A B : AS} {ls ls' : Nat → Nat} (h : Sp H U A ls) (h' : Sp H' U' B ls') (e : ∀ q x, H q x → H' q x) : ∀ i, i < A.1 → ∃ j, j < B.1 ∧ vec6 (B.2.1 j) (A.2.1 i) := fun i hi => h'.2.2.2.1 _ _ (e _ _ (h.2.2.2.2 i hi).2.1.1)
/-- one set, one list -/
theorem Sp_u {H : Nat → (Nat → Nat) → Prop} {U : Nat} {A B : AS} {ls ls' : Nat → Nat} (h : Sp H U A ls) (h' : Sp H U B ls') : A.1 = B.1 ∧ ∀ i, i < A.1 → vec6 (B.2.1 i) (A.2.1 i) ∧ A.2.2.1 i = B.2.2.1 i ∧ A.2.2.2 i = B.2.2.2 i := by
  obtain ⟨a1, a2⟩ := emb h.2.2.1 h'.2.2.1 (Sp_sub h h' (fun _ _ z => z))
  obtain ⟨b1, -⟩ := emb h'.2.2.1 h.2.2.1 (Sp_sub h' h (fun _ _ z => z))
  have e : A.1 = B.1 := by omega
  refine ⟨e, fun i hi => ?_⟩
  have v := a2 e i hi
  obtain ⟨c1, ⟨c2, c3⟩, -⟩ := h.2.2.2.2 i hi
  obtain ⟨d1, ⟨d2, d3⟩, -⟩ := h'.2.2.2.2 i (by omega)
  refine ⟨v, CN_u c1 d1 (fun q _ => ⟨h.1 q _ _ (v6s v), h.1 q _ _ v⟩), ?_⟩
  rcases Nat.lt_trichotomy (A.2.2.2 i) (B.2.2.2 i) with z | z | z
  · exact absurd (h.1 _ _ _ (v6s v) c2) (d3 _ z)
  · exact z
  · exact absurd (h.1 _ _ _ v d2) (c3 _ z)
theorem Bg_no {T : Nat → (Nat → Nat) → Prop} {U : Nat} {A B : AS} {ls : Nat → Nat} (hb : Bg T U A) (h : Sp (HT T U) U B ls) : 300 < B.1 := by
  obtain ⟨H', U', ls', w, q, y1, y2, y3, y4, y5⟩ := hb
  obtain ⟨a1, a2⟩ := emb y2.2.2.1 h.2.2.1 (Sp_sub y2 h y1)
  rcases Nat.lt_or_ge 300 B.1 with z | z
  · exact z
  · have e : A.1 = B.1 := by omega
    obtain ⟨j, hj, ej⟩ := h.2.2.2.1 q w y4
    exact absurd (v6t (v6s (a2 e j (by omega))) ej) (y5 j (by omega))
/-- the reference's answers behind the unions before u -/
def KR (T : Nat → (Nat → Nat) → Prop) (u : Nat) (B : AS) (ls : Nat → Nat) : Prop := ∃ H, Sp H u B ls ∧ (∀ q x, H q x → HT T u q x) ∧ (B.1 ≤ 300 → ∀ q x, HT T u q x → H q x)
theorem KR_0 {T : Nat → (Nat → Nat) → Prop} {ls : Nat → Nat} : KR T 0 A00 ls := ⟨_, Sp_00, fun _ _ z => z.elim, fun _ _ _ z => absurd z.1 (Nat.not_lt_zero _)⟩
theorem KR_s {T : Nat → (Nat → Nat) → Prop} {u : Nat} {L : List (Nat → Nat)} {A B : AS} {ls ls' : Nat → Nat} (h : KR T u A ls) (k : kps u L A ls B ls') (h1 : ∀ w, w ∈ L → T u w) (h2 : B.1 ≤ 300 → ∀ w, T u w → w ∈ L) : KR T (u + 1) B ls' := by
  obtain ⟨H, a1, a2, a3⟩ := h
  obtain ⟨b1, b2⟩ := Sp_kps (Sp_up a1) k
  refine ⟨_, b1, fun q x z => ?_, fun hB q x z => ?_⟩
  · rcases z with z | ⟨rfl, w, y, e⟩
    · exact ⟨Nat.lt_succ_of_lt (a2 q x z).1, (a2 q x z).2⟩
    · exact ⟨by omega, w, h1 w y, e⟩
  · obtain ⟨z, w, y, e⟩ := z
    by_cases hq : q = u
    · subst hq; exact Or.inr ⟨rfl, w, h2 hB w y, e⟩
    · exact Or.inl (a3 (by omega) q x ⟨by omega, w, y, e⟩)
theorem KR_up {T : Nat → (Nat → Nat) → Prop} {u U : Nat} {B : AS} {ls : Nat → Nat} (h : KR T u B ls) (hB : 300 < B.1) (hu : u ≤ U) : KR T U B ls := by
  obtain ⟨H, a1, a2, a3⟩ := h
  have := Sp_ups a1 (U - u)
  rw [show u + (U - u) = U by omega] at this
  exact ⟨H, this, fun q x z => ⟨by have := (a2 q x z).1; omega, (a2 q x z).2⟩, fun z => absurd z (by omega)⟩
theorem KR_le {T : Nat → (Nat → Nat) → Prop} {U : Nat} {B : AS} {ls : Nat → Nat} (h : KR T U B ls) (hB : B.1 ≤ 300) : Sp (HT T U) U B ls := by
  obtain ⟨H, a1, a2, a3⟩ := h
  exact Sp_H a1 (fun q x => ⟨a2 q x, a3 hB q x⟩)
theorem KR_no {T : Nat → (Nat → Nat) → Prop} {U : Nat} {A B : AS} {ls ls' : Nat → Nat} (h : KR T U B ls) (hB : 300 < B.1) (hA : Sp (HT T U) U A ls') : 300 < A.1 := by
  obtain ⟨H, a1, a2, a3⟩ := h
  have := (emb a1.2.2.1 hA.2.2.1 (Sp_sub a1 hA a2)).1
  omega
