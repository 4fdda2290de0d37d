/-! ANSWERS: insert, take -/
def ins {α : Type} (g : Nat → α) (a : Nat) (x : α) : Nat → α := fun i => if i < a then g i else if i = a then x else g (i - 1)
theorem ins_lt {α : Type} {g : Nat → α} {a i : Nat} {x : α} (h : i < a) : ins g a x i = g i := if_pos h
theorem ins_eq {α : Type} {g : Nat → α} {a : Nat} {x : α} : ins g a x a = x := by simp [ins]
theorem ins_gt {α : Type} {g : Nat → α} {a i : Nat} {x : α} (h : a < i) : ins g a x i = g (i - 1) := by
  simp [ins, show ¬ i < a by omega, show ¬ i = a by omega]
section VR14
variable {F : ac_hp} {ki : Nat → ClassId} {ad : Nat → Nat} {s : Nat → Nat → Int32} {tl : Nat → Int64} {f : ac_hp}
theorem aok_ins {n a : Nat} {o : Nat → Nat} {cd : Nat → Nat → Nat} {fd fs w : Nat → Nat} {u : Nat} {s' : Nat → Nat → Int32} (ha : aok s n o cd fd fs) (hw : tok s w) (hn : n < 300) (han : a ≤ n) (q1 : ∀ i, i < a → lexl (cd i) w) (q2 : ∀ i, a ≤ i → i < n → lexl w (cd i))
    (e16 : s' 16 4 = nI (n + 1)) (e17 : s' 17 = va_cpy (s 29) (s 17) 0 (n * 6) 6) (e18 : s' 18 = upd (va_cpy (s 18) (s 18) a (a + 1) (n - a)) a (nI n)) (e19 : s' 19 = upd (s 19) n (nI 1)) (e20 : s' 20 = upd (s 20) n (nI u)) : aok s' (n + 1) (ins o a n) (ins cd a w) (ins fd a 1) (ins fs a u) := by
  obtain ⟨h1, h2, h3, h4, h5, h6⟩ := ha
  have key : ∀ i, i < n + 1 → i = a ∨ ∃ j, j < n ∧ ins o a n i = o j ∧ ins cd a w i = cd j ∧ ins fd a 1 i = fd j ∧ ins fs a u i = fs j ∧ ((i = j ∧ j < a) ∨ (i = j + 1 ∧ a ≤ j)) := fun i hi => by
    rcases Nat.lt_trichotomy i a with z | z | z
    · exact Or.inr ⟨i, by omega, ins_lt z, ins_lt z, ins_lt z, ins_lt z, Or.inl ⟨rfl, z⟩⟩
    · exact Or.inl z
    · exact Or.inr ⟨i - 1, by omega, ins_gt z, ins_gt z, ins_gt z, ins_gt z, Or.inr ⟨by omega, by omega⟩⟩
  refine ⟨by omega, e16, fun i hi => ?_, fun i j hi hj hij => ?_, fun i hi => ?_, fun i j hij hj => ?_⟩
  · rcases key i hi with rfl | ⟨j, hj, e1, -, -, -, hc⟩
    · rw [ins_eq, e18]; exact ⟨by omega, by simp [upd]⟩
    · have := (h3 j hj).1
      rw [e1, e18]
      refine ⟨by omega, ?_⟩
      simp only [upd, if_neg (show ¬ i = a by omega)]
      rcases hc with ⟨z1, z2⟩ | ⟨z1, z2⟩
      · rw [pk_cpy_out (by omega), z1]; exact (h3 j hj).2
      · rw [pk_cpy_in (by omega) (by omega), show a + (i - (a + 1)) = j by omega]; exact (h3 j hj).2
  · rcases key i hi with z | ⟨i', hi', e1, -, -, -, c1⟩
    · rcases key j hj with z2 | ⟨j', hj', e2, -, -, -, c2⟩
      · omega
      · rw [z, ins_eq, e2] at hij
        have := (h3 j' hj').1; omega
    · rcases key j hj with z2 | ⟨j', hj', e2, -, -, -, c2⟩
      · rw [z2, ins_eq, e1] at hij
        have := (h3 i' hi').1; omega
      · rw [e1, e2] at hij
        have := h4 i' j' hi' hj' hij; omega
  · rcases key i hi with rfl | ⟨j, hj, e1, e2, e3, e4, hc⟩
    · rw [ins_eq, ins_eq, ins_eq, ins_eq, e17, e19, e20]
      refine ⟨fun v hv => ⟨(hw v hv).1, ?_⟩, by simp [upd], by simp [upd]⟩
      rw [pk_cpy_in (by omega) (by omega), show 0 + (n * 6 + v - n * 6) = v by omega]
      exact (hw v hv).2
    · have hoj := (h3 j hj).1
      rw [e1, e2, e3, e4, e17, e19, e20]
      refine ⟨fun v hv => ⟨((h5 j hj).1 v hv).1, ?_⟩, ?_, ?_⟩
      · rw [pk_cpy_out (by omega)]; exact ((h5 j hj).1 v hv).2
      · simp only [upd, if_neg (show ¬ o j = n by omega)]; exact (h5 j hj).2.1
      · simp only [upd, if_neg (show ¬ o j = n by omega)]; exact (h5 j hj).2.2
  · rcases key i (by omega) with rfl | ⟨i', hi', -, e1, -, -, c1⟩
    · rcases key j hj with z2 | ⟨j', hj', -, e2, -, -, c2⟩
      · omega
      · rw [ins_eq, e2]; exact q2 j' (by omega) hj'
    · rcases key j hj with rfl | ⟨j', hj', -, e2, -, -, c2⟩
      · rw [ins_eq, e1]; exact q1 i' (by omega)
      · rw [e1, e2]; exact h6 i' j' (by omega) hj'
theorem sp_insert {n a u : Nat} {o : Nat → Nat} {cd : Nat → Nat → Nat} {fd fs w : Nat → Nat} {Q : ac_hp → Prop} (h : vr_R F ki ad s tl f) (ha : aok s n o cd fd fs) (hw : tok s w) (hn : n < 300) (han : a ≤ n) (q1 : ∀ i, i < a → lexl (cd i) w) (q2 : ∀ i, a ≤ i → i < n → lexl w (cd i))
    (hq : ∀ o' s' f', (∀ j, j < 16 ∨ 20 < j → s' j = s j) → s' 16 5 = s 16 5 → s' 16 6 = s 16 6 → aok s' (n + 1) o' (ins cd a w) (ins fd a 1) (ins fs a u) → vr_R F ki ad s' tl f' → Q f') : wp_X7_insert ki (ad 16) (nI a) (ad 29) (nI u) f Q := by
  unfold wp_X7_insert
  have e4 := ha.2.1
  refine ⟨_, rd_f (i := 16) h (by omega) rfl rfl, _, rd_f (i := 16) h (by omega) rfl rfl, ?_⟩
  rw [e4]
  refine wr_c (i := 17) (j := 29) (sp := 0) (dp := n * 6) (n := 6) h (by omega) (by omega) rfl (fun s' => rfl) rfl (by rw [show (6 : Int32) = nI 6 from rfl, pk_mul]) rfl (by omega) (by omega) (by omega) (by omega) (fun f3 h3 => ?_)
  refine ⟨_, rd_f (i := 16) h3 (by omega) rfl rfl, _, rd_f (i := 16) h3 (by omega) rfl rfl, ?_⟩
  rw [va_up_ne _ _ (show (16 : Nat) ≠ 17 by omega), e4]
  refine wr_i (i := 19) h3 (by omega) (fun s' => rfl) rfl hn (by omega) (fun f6 h6 => ?_)
  refine ⟨_, rd_f (i := 16) h6 (by omega) rfl rfl, _, rd_f (i := 16) h6 (by omega) rfl rfl, ?_⟩
  rw [va_up_ne _ _ (show (16 : Nat) ≠ 19 by omega), va_up_ne _ _ (show (16 : Nat) ≠ 17 by omega), e4]
  refine wr_i (i := 20) h6 (by omega) (fun s' => rfl) rfl hn (by omega) (fun f9 h9 => ?_)
  refine ⟨_, rd_f (i := 16) h9 (by omega) rfl rfl, _, rd_f (i := 16) h9 (by omega) rfl rfl, _, rd_f (i := 16) h9 (by omega) rfl rfl, ?_⟩
  rw [va_up_ne _ _ (show (16 : Nat) ≠ 20 by omega), va_up_ne _ _ (show (16 : Nat) ≠ 19 by omega), va_up_ne _ _ (show (16 : Nat) ≠ 17 by omega), e4]
  refine wr_c (i := 18) (j := 18) (sp := a) (dp := a + 1) (n := n - a) h9 (by omega) (by omega) rfl (fun s' => rfl) rfl (nI_1 a) (pk_sub han) (by omega) (by omega) (by omega) (by omega) (fun f13 h13 => ?_)
  refine ⟨_, rd_f (i := 16) h13 (by omega) rfl rfl, _, rd_f (i := 16) h13 (by omega) rfl rfl, ?_⟩
  rw [va_up_ne _ _ (show (16 : Nat) ≠ 18 by omega), va_up_ne _ _ (show (16 : Nat) ≠ 20 by omega), va_up_ne _ _ (show (16 : Nat) ≠ 19 by omega), va_up_ne _ _ (show (16 : Nat) ≠ 17 by omega), e4]
  refine wr_i (i := 18) h13 (by omega) (fun s' => rfl) rfl (show a < 300 by omega) (by omega) (fun f16 h16 => ?_)
  refine ⟨_, rd_f (i := 16) h16 (by omega) rfl rfl, ?_⟩
  rw [va_up_ne _ _ (show (16 : Nat) ≠ 18 by omega), va_up_ne _ _ (show (16 : Nat) ≠ 18 by omega), va_up_ne _ _ (show (16 : Nat) ≠ 20 by omega), va_up_ne _ _ (show (16 : Nat) ≠ 19 by omega), va_up_ne _ _ (show (16 : Nat) ≠ 17 by omega), e4, nI_1]
  refine wr_16_4 h16 (fun f18 h18 => hq (ins o a n) _ f18 ?_ ?_ ?_ (aok_ins ha hw hn han q1 q2 ?_ ?_ ?_ ?_ ?_) h18)
  · intro j hj; simp (disch := omega) only [va_up_ne]
  · simp (disch := omega) only [va_up_self, va_up_ne]; simp [upd]
  · simp (disch := omega) only [va_up_self, va_up_ne]; simp [upd]
  · simp (disch := omega) only [va_up_self, va_up_ne]; simp [upd]
  · simp (disch := omega) only [va_up_self, va_up_ne]
  · simp (disch := omega) only [va_up_self, va_up_ne]
  · simp (disch := omega) only [va_up_self, va_up_ne]; rfl
  · simp (disch := omega) only [va_up_self, va_up_ne]
theorem sp_take {n u : Nat} {o : Nat → Nat} {cd : Nat → Nat → Nat} {fd fs w : Nat → Nat} {Q : ac_hp → Prop} (h : vr_R F ki ad s tl f) (ha : aok s n o cd fd fs) (hw : tok s w)
    (hq1 : ∀ i, i < n → vec6 (cd i) w → ∀ s' f', (∀ j, j ≠ 19 → s' j = s j) → aok s' n o cd (fun j => if j = i then fd i + 1 else fd j) fs → vr_R F ki ad s' tl f' → Q f')
    (hq2 : (∀ i, i < n → ¬ vec6 (cd i) w) → n = 300 → ∀ s' f', (∀ j, j ≠ 16 → s' j = s j) → s' 16 = upd (s 16) 6 1 → vr_R F ki ad s' tl f' → Q f')
    (hq3 : (∀ i, i < n → ¬ vec6 (cd i) w) → n < 300 → ∀ a o' s' f', a ≤ n → (∀ i, i < a → lexl (cd i) w) → (∀ i, a ≤ i → i < n → lexl w (cd i)) → (∀ j, j < 16 ∨ 20 < j → s' j = s j) → s' 16 5 = s 16 5 → s' 16 6 = s 16 6 → aok s' (n + 1) o' (ins cd a w) (ins fd a 1) (ins fs a u) → vr_R F ki ad s' tl f' → Q f') : wp_X7_take ki (ad 16) (ad 29) (nI u) f Q := by
  unfold wp_X7_take
  have hn := ha.1
  have e4 := ha.2.1
  refine ⟨rd_o (i := 16) h (by omega) rfl, sp_first h ha hw (fun a han q1 q2 => ?_)⟩
  -- no answer is this one
  have hno : (a < n → ¬ vec6 (cd a) w) → ∀ i, i < n → ¬ vec6 (cd i) w := fun z i hi hv => by
    rcases Nat.lt_trichotomy i a with y | y | y
    · exact lex_ne (q1 i y) hv
    · subst y; exact z hi hv
    · exact q2 a (Nat.le_refl a) (by omega) (lex_lv (ha.2.2.2.2.2 a i y hi) hv)
  have hgt : (a < n → ¬ vec6 (cd a) w) → ∀ i, a ≤ i → i < n → lexl w (cd i) := fun z i h1 h2 => by
    rcases lex_tri (cd i) w with y | y | y
    · exact absurd y (hno z i h2)
    · exact absurd y (q2 i h1 h2)
    · exact y
  have put : (a < n → ¬ vec6 (cd a) w) → ∃ v4 : Int32, hr_f f (ad 16) 7 4 (.int v4) ∧ ((v4 < 300 → hr_o f (ad 16) 7 ∧ wp_X7_insert ki (ad 16) (nI a) (ad 29) (nI u) f (fun f5 => Q f5)) ∧ (¬ v4 < 300 → ∃ f6 : ac_hp, hw_f f (ad 16) 7 6 (.int 1) f6 ∧ Q f6)) := fun z => by
    refine ⟨_, rd_f (i := 16) h (by omega) rfl rfl, ?_⟩
    rw [e4]
    refine ⟨fun hlt => ⟨rd_o (i := 16) h (by omega) rfl, ?_⟩, fun hge => ?_⟩
    · have hn3 := (lt_num (k := 300) rfl (by omega) hn).1 hlt
      exact sp_insert h ha hw hn3 han q1 (hgt z) (fun o' s' f' z1 z2 z3 z4 z5 => hq3 (hno z) hn3 a o' s' f' han q1 (hgt z) z1 z2 z3 z4 z5)
    · have hn3 := (lt_num (k := 300) rfl (by omega) hn).2 hge
      exact wr_16_6 h (fun f' h' => hq2 (hno z) hn3 (va_up s 16 (upd (s 16) 6 1)) f' (fun j hj => va_up_ne _ _ hj) (va_up_self _ _ _) h')
  refine ⟨_, rd_f (i := 16) h (by omega) rfl rfl, ?_⟩
  rw [e4]
  refine ⟨fun hge => ?_, fun hlt => ?_⟩
  · have : ¬ a < n := fun z => absurd hge (nI_ge z (by omega))
    exact put (fun z => absurd z this)
  · have han2 : a < n := by
      rcases Nat.lt_or_ge a n with z | z
      · exact z
      · exact absurd (nI_le z (by omega)) hlt
    refine ⟨rd_o (i := 16) h (by omega) rfl, sp_cmp h ha hw han2 (fun hv => ⟨fun z => absurd rfl z, fun _ => ?_⟩) (fun hl => absurd hl (q2 a (Nat.le_refl a) han2)) (fun hg x hx _ => ⟨fun _ => put (fun _ hv => lex_ne hg (fun j hj => (hv j hj).symm)), fun z => absurd z hx⟩)⟩
    obtain ⟨h1, h2, h3, h4, h5, h6⟩ := id ha
    have hoa := (h3 a han2).1
    refine ⟨_, rd_f (i := 16) h (by omega) rfl rfl, _, rd_f (i := 16) h (by omega) rfl rfl, _, rd_i (i := 18) h (by omega) rfl rfl (show a < 300 by omega) (by omega), ?_⟩
    rw [(h3 a han2).2]
    refine ⟨_, rd_i (i := 19) h (by omega) rfl rfl (show o a < 300 by omega) (by omega), ?_⟩
    rw [(h5 a han2).2.1, nI_1]
    refine wr_i (i := 19) h (by omega) (fun s' => rfl) rfl (show o a < 300 by omega) (by omega) (fun f' h' => hq1 a han2 hv (va_up s 19 (upd (s 19) (o a) (nI (fd a + 1)))) f' (fun j hj => va_up_ne _ _ hj) ?_ h')
    refine ⟨h1, by rw [va_up_ne _ _ (by omega)]; exact h2, fun i hi => by rw [va_up_ne _ _ (by omega)]; exact h3 i hi, h4, fun i hi => ⟨fun v hv => by rw [va_up_ne _ _ (by omega)]; exact (h5 i hi).1 v hv, ?_, by rw [va_up_ne _ _ (by omega)]; exact (h5 i hi).2.2⟩, h6⟩
    rw [va_up_self]
    by_cases e : i = a
    · subst e; simp [upd]
    · simp only [upd, if_neg e, if_neg (fun z => e (h4 i a hi han2 z))]
      exact (h5 i hi).2.1
end VR14
