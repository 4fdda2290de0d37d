/-! a packed triple says predicate and both codes -/
section TR3
variable {s : Nat → Nat → Int32} {sz : Nat → Nat} {nn : Nat → Nat → Nat → Nat} {kk : Nat → Nat → Int32} {mc n sp : Nat} {mt pr : Nat → Nat} {ml mtm : Nat → Nat → Nat}
theorem tl_n {a : Nat} (h : a < 2 ^ 31) : (nI a).toInt64 = Int64.ofNat a := Int32.toInt64_ofNat' (by rw [show Int32.maxValue.toInt = 2147483647 by decide]; omega)
theorem ofN_inj {a b : Nat} (ha : a < 2 ^ 63) (hb : b < 2 ^ 63) (h : Int64.ofNat a = Int64.ofNat b) : a = b := by
  have := congrArg Int64.toInt h
  rw [Int64.toInt_ofNat_of_lt ha, Int64.toInt_ofNat_of_lt hb] at this
  omega
/-- the mappings' data, as the class has it -/
def CM (s : Nat → Nat → Int32) (mc : Nat) (mt pr : Nat → Nat) (ml mtm : Nat → Nat → Nat) : Prop := mps s mc mt ml mtm ∧ ∀ m, m < mc → pr m < 8 ∧ s (42 + 3 * m) 3 = nI (pr m)
theorem pkd_n (hm : CM s mc mt pr ml mtm) (ht : tbs s sz nn) {m i : Nat} (h1 : m < mc) (h2 : i < sz (mt m)) : pkd s m (mt m) (ml m) i = Int64.ofNat ((pr m * 60000 + cd nn mt ml mtm m 0 i) * 60000 + cd nn mt ml mtm m 1 i) ∧ cd nn mt ml mtm m 0 i < 60000 ∧ cd nn mt ml mtm m 1 i < 60000 := by
  obtain ⟨⟨a1, a2, a3, a4⟩, a5⟩ := hm.1 m h1
  obtain ⟨b1, b2⟩ := hm.2 m h1
  obtain ⟨c1, c2⟩ := ht.2 (mt m) i (ml m 0) a2 h2 (a4 0 (by omega)).1
  obtain ⟨d1, d2⟩ := ht.2 (mt m) i (ml m 1) a2 h2 (a4 1 (by omega)).1
  obtain ⟨e1, e2⟩ := a5 0 (by omega)
  obtain ⟨f1, f2⟩ := a5 1 (by omega)
  refine ⟨?_, by unfold cd; omega, by unfold cd; omega⟩
  unfold pkd cd
  rw [b2, e2, f2, c2, d2, show (10000 : Int32) = nI 10000 from rfl, pk_mul, pk_mul, tl_n (by omega), tl_n (by omega), tl_n (by omega), tl_n (by omega), tl_n (by omega), show (60000 : Int64) = Int64.ofNat 60000 from rfl]
  simp only [← Int64.ofNat_add, ← Int64.ofNat_mul]
  refine congrArg Int64.ofNat ?_
  omega
theorem pkd_eq (hm : CM s mc mt pr ml mtm) (ht : tbs s sz nn) {m i k j : Nat} (h1 : m < mc) (h2 : i < sz (mt m)) (h3 : k < mc) (h4 : j < sz (mt k)) : pkd s m (mt m) (ml m) i = pkd s k (mt k) (ml k) j ↔ eqt nn mt pr ml mtm k j m i := by
  obtain ⟨a1, a2, a3⟩ := pkd_n hm ht h1 h2
  obtain ⟨b1, b2, b3⟩ := pkd_n hm ht h3 h4
  have p1 := (hm.2 m h1).1
  have p2 := (hm.2 k h3).1
  rw [a1, b1]
  unfold eqt
  constructor
  · intro e
    have := ofN_inj (by omega) (by omega) e
    exact ⟨by omega, by omega, by omega⟩
  · rintro ⟨e1, e2, e3⟩
    rw [e1, e2, e3]
theorem sn_eq (hm : CM s mc mt pr ml mtm) (ht : tbs s sz nn) {m i : Nat} (h1 : m < mc) (h2 : i < sz (mt m)) : snC s mt ml sz m i ↔ snR nn sz mt pr ml mtm m i := by
  unfold snC tpl snR
  constructor
  · rintro ⟨k, j, z, e⟩
    have hk : k < mc := by omega
    have hj : j < sz (mt k) := by
      rcases z with ⟨_, y⟩ | ⟨y, w⟩
      · exact y
      · rw [y]; omega
    exact ⟨k, j, z, (pkd_eq hm ht h1 h2 hk hj).mp e⟩
  · rintro ⟨k, j, z, e⟩
    have hk : k < mc := by omega
    have hj : j < sz (mt k) := by
      rcases z with ⟨_, y⟩ | ⟨y, w⟩
      · exact y
      · rw [y]; omega
    exact ⟨k, j, z, (pkd_eq hm ht h1 h2 hk hj).mpr e⟩
end TR3
