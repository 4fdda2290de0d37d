/-! keepTriple: a sorted set of longs -/
theorem lg_ge {a b : Int64} : (0 : Int32) ≤ lg_cmp a b ↔ b.toInt ≤ a.toInt := by
  unfold lg_cmp
  by_cases h1 : a > b
  · rw [if_pos h1]
    have : b.toInt < a.toInt := Int64.lt_iff_toInt_lt.mp h1
    exact ⟨fun _ => by omega, fun _ => by decide⟩
  · rw [if_neg h1]
    have h1' : ¬ b.toInt < a.toInt := fun z => h1 (Int64.lt_iff_toInt_lt.mpr z)
    by_cases h2 : a = b
    · rw [if_pos h2, h2]; exact ⟨fun _ => Int.le_refl _, fun _ => by decide⟩
    · rw [if_neg h2]
      have : a.toInt ≠ b.toInt := fun z => h2 (Int64.toInt_inj.mp z)
      exact ⟨fun z => absurd z (by decide), fun z => by omega⟩
theorem lg_eq {a b : Int64} : lg_cmp a b = 0 ↔ a = b := by
  unfold lg_cmp
  by_cases h1 : a > b
  · rw [if_pos h1]
    have : b.toInt < a.toInt := Int64.lt_iff_toInt_lt.mp h1
    exact ⟨fun z => absurd z (by decide), fun z => by rw [z] at this; omega⟩
  · rw [if_neg h1]
    by_cases h2 : a = b
    · rw [if_pos h2]; exact ⟨fun _ => h2, fun _ => rfl⟩
    · rw [if_neg h2]; exact ⟨fun z => absurd z (by decide), fun z => absurd z h2⟩
def tsok (s : Nat → Nat → Int32) (tl : Nat → Int64) (n : Nat) : Prop := n ≤ 240 ∧ s 1 4 = nI n ∧ ∀ i j, i < j → j < n → (tl i).toInt < (tl j).toInt
section VR37
variable {F : ac_hp} {ki : Nat → ClassId} {ad : Nat → Nat} {s : Nat → Nat → Int32} {tl : Nat → Int64} {f : ac_hp}
theorem sp_keep_L {n : Nat} {x : Int64} {E : Int32 → ac_hp → Prop} (h : vr_R F ki ad s tl f) (ht : tsok s tl n)
    (hE : ∀ a, a ≤ n → (∀ i, i < a → (tl i).toInt < x.toInt) → (∀ i, a ≤ i → i < n → x.toInt ≤ (tl i).toInt) → E (nI a) f) :
    ∀ (d lo hi : Nat), hi - lo < d → lo ≤ hi → hi ≤ n → (∀ i, i < lo → (tl i).toInt < x.toInt) → (∀ i, hi ≤ i → i < n → x.toInt ≤ (tl i).toInt) → wp_X1_keepTriple_L8 ki (ad 1) x E d (nI lo) (nI hi) f := by
  obtain ⟨hn, h4, srt⟩ := ht
  intro d
  induction d with
  | zero => intro lo hi h1; omega
  | succ d ih =>
    intro lo hi hd hlh hhn q1 q2
    rw [wp_X1_keepTriple_L8]
    by_cases e : lo = hi
    · subst e
      exact ⟨fun _ => hE lo hhn q1 q2, fun z => absurd (nI_le (Nat.le_refl lo) (by omega)) z⟩
    · refine ⟨fun z => absurd z (nI_ge (by omega) (by omega)), fun _ => ?_⟩
      intro v hv
      rw [mid_n (by omega)] at hv
      subst hv
      have hm : (lo + hi) / 2 < hi ∧ lo ≤ (lo + hi) / 2 := by omega
      refine ⟨_, rd_f (i := 1) h (by omega) rfl rfl, _, rd_l h rfl (by omega), fun hge => ?_, fun hlt => ?_⟩
      · have hx := lg_ge.mp hge
        refine ih lo _ (by omega) (by omega) (by omega) q1 (fun i h1 h2 => ?_)
        by_cases e2 : i = (lo + hi) / 2
        · subst e2; exact hx
        · have := srt _ i (show (lo + hi) / 2 < i by omega) h2; omega
      · have hx : (tl ((lo + hi) / 2)).toInt < x.toInt := by
          rcases Int.lt_or_le (tl ((lo + hi) / 2)).toInt x.toInt with z | z
          · exact z
          · exact absurd (lg_ge.mpr z) hlt
        intro y hy
        rw [hy, nI_1]
        refine ih _ hi (by omega) (by omega) hhn (fun i h1 => ?_) q2
        by_cases e2 : i = (lo + hi) / 2
        · subst e2; exact hx
        · have := srt i _ (show i < (lo + hi) / 2 by omega) (by omega); omega
theorem sp_keepTriple {n : Nat} {x : Int64} {Q : ac_hp → Prop} (h : vr_R F ki ad s tl f) (ht : tsok s tl n) (hn : n < 240)
    (hq1 : (∃ i, i < n ∧ tl i = x) → Q f)
    (hq2 : (∀ i, i < n → tl i ≠ x) → ∀ (a : Nat) (tl' : Nat → Int64) (f' : ac_hp), a ≤ n → (∀ i, i < n + 1 → tl' i = ins tl a x i) → tsok (va_up s 1 (upd (s 1) 4 (nI (n + 1)))) tl' (n + 1) → vr_R F ki ad (va_up s 1 (upd (s 1) 4 (nI (n + 1)))) tl' f' → Q f') : wp_X1_keepTriple ki (ad 1) x f Q := by
  obtain ⟨-, h4, srt⟩ := id ht
  unfold wp_X1_keepTriple
  refine ⟨_, rd_f (i := 1) h (by omega) rfl rfl, n + 1, ?_⟩
  rw [h4]
  refine sp_keep_L h ht (fun a ha q1 q2 => ?_) (n + 1) 0 n (by omega) (by omega) (Nat.le_refl n) (fun i hi => absurd hi (by omega)) (fun i h1 h2 => absurd h1 (by omega))
  refine ⟨_, rd_f (i := 1) h (by omega) rfl rfl, ?_⟩
  rw [h4]
  have put : (a < n → tl a ≠ x) → ∃ o10 : Nat, hr_f f (ad 1) 1 2 (.ref o10) ∧ ∃ o11 : Nat, hr_f f (ad 1) 1 2 (.ref o11) ∧ ∃ v12 : Int32, hr_f f (ad 1) 1 4 (.int v12) ∧ ∃ f13 : ac_hp, hw_d (ki 2) f o10 (nI a) o11 (nI a + 1) (v12 - nI a) f13 ∧ ∃ o14 : Nat, hr_f f13 (ad 1) 1 2 (.ref o14) ∧ ∃ f15 : ac_hp, hw_l (ki 2) f13 o14 (nI a) x f15 ∧ ∃ v16 : Int32, hr_f f15 (ad 1) 1 4 (.int v16) ∧ ∃ f17 : ac_hp, hw_f f15 (ad 1) 1 4 (.int (v16 + 1)) f17 ∧ Q f17 := fun hne => by
    have hgt : ∀ i, a ≤ i → i < n → x.toInt < (tl i).toInt := fun i h1 h2 => by
      have z1 := q2 i h1 h2
      by_cases e : i = a
      · subst e
        have : (tl i).toInt ≠ x.toInt := fun z => hne h2 (Int64.toInt_inj.mp z)
        omega
      · have z2 := q2 a (Nat.le_refl a) (by omega)
        have := srt a i (by omega) h2
        omega
    have hno : ∀ i, i < n → tl i ≠ x := fun i hi z => by
      rcases Nat.lt_or_ge i a with y | y
      · have := q1 i y; rw [z] at this; omega
      · have := hgt i y hi; rw [z] at this; omega
    have hI : ∀ i, i < n + 1 → vp_updL (va_cpy tl tl a (a + 1) (n - a)) a x i = ins tl a x i := fun i hi => by
      by_cases e1 : i = a
      · subst e1; rw [ins_eq]; simp [vp_updL]
      · rcases Nat.lt_or_ge i a with y | y
        · rw [ins_lt y]
          simp only [vp_updL, if_neg e1, va_cpy]
          rw [if_neg (by omega)]
        · rw [ins_gt (show a < i by omega)]
          simp only [vp_updL, if_neg e1, va_cpy]
          rw [if_pos (by omega)]
          congr 1; omega
    refine ⟨_, rd_f (i := 1) h (by omega) rfl rfl, _, rd_f (i := 1) h (by omega) rfl rfl, _, rd_f (i := 1) h (by omega) rfl rfl, ?_⟩
    rw [h4]
    refine wr_d (sp := a) (dp := a + 1) (n := n - a) h rfl (nI_1 a) (pk_sub ha) (by omega) (by omega) (fun f1 h1 => ⟨_, rd_f (i := 1) h1 (by omega) rfl rfl, wr_l h1 rfl (by omega) (fun f2 h2 => ⟨_, rd_f (i := 1) h2 (by omega) rfl rfl, ?_⟩)⟩)
    rw [h4, nI_1]
    refine wr_1_4 h2 (fun f3 h3 => hq2 hno a _ f3 ha hI ⟨by omega, by rw [va_up_self]; simp [upd], fun i j hij hj => ?_⟩ h3)
    rw [hI i (by omega), hI j hj]
    rcases Nat.lt_trichotomy i a with y | y | y
    · rw [ins_lt y]
      rcases Nat.lt_trichotomy j a with z | z | z
      · rw [ins_lt z]; exact srt i j hij (by omega)
      · subst z; rw [ins_eq]; exact q1 i y
      · rw [ins_gt z]
        by_cases e : j - 1 = i
        · omega
        · exact srt i (j - 1) (by omega) (by omega)
    · subst y
      rw [ins_eq, ins_gt hij]
      exact hgt (j - 1) (by omega) (by omega)
    · rw [ins_gt y, ins_gt (show a < j by omega)]
      exact srt (i - 1) (j - 1) (by omega) (by omega)
  refine ⟨fun hge => put (fun z => absurd hge (nI_ge z (by omega))), fun hlt => ?_⟩
  have han : a < n := by
    rcases Nat.lt_or_ge a n with z | z
    · exact z
    · exact absurd (nI_le z (by omega)) hlt
  refine ⟨_, rd_f (i := 1) h (by omega) rfl rfl, _, rd_l h rfl (by omega), fun hne => put (fun _ z => hne (lg_eq.mpr z)), fun he => hq1 ⟨a, han, lg_eq.mp he⟩⟩
end VR37
