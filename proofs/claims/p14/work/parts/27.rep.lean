/-! THE UNIONS: extend, keep, refresh -/
def vs_x (s : Nat → Nat → Int32) (c lg : Int32) (K R T : Nat → Int32) : Nat → Nat → Int32 :=
  va_up (va_up (va_up (va_up s 10 (upd (upd (s 10) 5 c) 6 lg)) 11 K) 12 R) 13 T
theorem vx_10 {s : Nat → Nat → Int32} {c lg : Int32} {K R T : Nat → Int32} : vs_x s c lg K R T 10 = upd (upd (s 10) 5 c) 6 lg := by
  unfold vs_x; simp (disch := omega) only [va_up_self, va_up_ne]
theorem vx_11 {s : Nat → Nat → Int32} {c lg : Int32} {K R T : Nat → Int32} : vs_x s c lg K R T 11 = K := by
  unfold vs_x; simp (disch := omega) only [va_up_self, va_up_ne]
theorem vx_12 {s : Nat → Nat → Int32} {c lg : Int32} {K R T : Nat → Int32} : vs_x s c lg K R T 12 = R := by
  unfold vs_x; simp (disch := omega) only [va_up_self, va_up_ne]
theorem vx_o {s : Nat → Nat → Int32} {c lg : Int32} {K R T : Nat → Int32} {i : Nat} (h : i < 10 ∨ 13 < i) : vs_x s c lg K R T i = s i := by
  unfold vs_x; simp (disch := omega) only [va_up_self, va_up_ne]
theorem vx_u13 {s : Nat → Nat → Int32} {c lg : Int32} {K R T T' : Nat → Int32} : va_up (vs_x s c lg K R T) 13 T' = vs_x s c lg K R T' := by
  unfold vs_x; simp only [bx_uu]
theorem vx_u12 {s : Nat → Nat → Int32} {c lg : Int32} {K R T R' : Nat → Int32} : va_up (vs_x s c lg K R T) 12 R' = vs_x s c lg K R' T := by
  funext i; unfold vs_x
  by_cases h : i = 12
  · subst h; simp (disch := omega) only [va_up_self, va_up_ne]
  · by_cases h2 : i = 13
    · subst h2; simp (disch := omega) only [va_up_self, va_up_ne]
    · simp (disch := omega) only [va_up_self, va_up_ne]
theorem vx_u11 {s : Nat → Nat → Int32} {c lg : Int32} {K R T K' : Nat → Int32} : va_up (vs_x s c lg K R T) 11 K' = vs_x s c lg K' R T := by
  funext i; unfold vs_x
  by_cases h : i = 11
  · subst h; simp (disch := omega) only [va_up_self, va_up_ne]
  · by_cases h2 : i = 13
    · subst h2; simp (disch := omega) only [va_up_self, va_up_ne]
    · by_cases h3 : i = 12
      · subst h3; simp (disch := omega) only [va_up_self, va_up_ne]
      · simp (disch := omega) only [va_up_self, va_up_ne]
theorem vx_u10 {s : Nat → Nat → Int32} {c lg c' lg' : Int32} {K R T w : Nat → Int32} (hw : w = upd (upd (s 10) 5 c') 6 lg') : va_up (vs_x s c lg K R T) 10 w = vs_x s c' lg' K R T := by
  subst hw
  funext i; unfold vs_x
  by_cases h : i = 10
  · subst h; simp (disch := omega) only [va_up_self, va_up_ne]
  · by_cases h2 : i = 13
    · subst h2; simp (disch := omega) only [va_up_self, va_up_ne]
    · by_cases h3 : i = 12
      · subst h3; simp (disch := omega) only [va_up_self, va_up_ne]
      · by_cases h4 : i = 11
        · subst h4; simp (disch := omega) only [va_up_self, va_up_ne]
        · simp (disch := omega) only [va_up_self, va_up_ne]
theorem up_5 {w : Nat → Int32} {c lg c' : Int32} : upd (upd (upd w 5 c) 6 lg) 5 c' = upd (upd w 5 c') 6 lg := by
  funext j; simp only [upd]
  by_cases h : j = 5
  · subst h; simp
  · simp [h]
theorem up_6 {w : Nat → Int32} {c lg lg' : Int32} : upd (upd (upd w 5 c) 6 lg) 6 lg' = upd (upd w 5 c) 6 lg' := by
  funext j; simp only [upd]
  by_cases h : j = 6
  · subst h; simp
  · simp [h]
/-- the unions from atom a on: k the settled variables, T their templates, pre the mappings before -/
def un (s : Nat → Nat → Int32) (n mc : Nat) : Nat → Nat → Nat → (Nat → Int32) → List Nat → List (List Nat)
  | 0, _, _, _, _ => []
  | d + 1, a, k, T, pre => if n ≤ a then [pre] else (List.range mc).flatMap fun i =>
      if s (42 + 3 * i) 3 = s 6 a then (match pst2 s a i k T with
        | none => []
        | some q => un s n mc d (a + 1) q.1 q.2 (pre ++ [i])) else []
/-- the kept unions: those of K up to c stay, then come L's -/
def kpt (n : Nat) (K : Nat → Int32) (c : Nat) (L : List (List Nat)) (K' : Nat → Int32) : Prop :=
  (∀ x, x < 4 * c → K' x = K x) ∧ ∀ u, u < L.length → ∀ j, j < n → K' (4 * (c + u) + j) = nI ((L.getD u []).getD j 0)
theorem kpt_0 {n : Nat} {K : Nat → Int32} {c : Nat} : kpt n K c [] K := ⟨fun _ _ => rfl, fun u hu => absurd hu (by simp)⟩
theorem kpt_app {n : Nat} {K K1 K2 : Nat → Int32} {c : Nat} {L1 L2 : List (List Nat)} (h1 : kpt n K c L1 K1) (h2 : kpt n K1 (c + L1.length) L2 K2) (hn : n ≤ 4) : kpt n K c (L1 ++ L2) K2 := by
  refine ⟨fun x hx => by rw [h2.1 x (by omega), h1.1 x hx], fun u hu j hj => ?_⟩
  by_cases hu1 : u < L1.length
  · rw [h2.1 _ (by omega), h1.2 u hu1 j hj]
    simp only [List.getD_eq_getElem?_getD, List.getElem?_append_left hu1]
  · have e : 4 * (c + u) + j = 4 * (c + L1.length + (u - L1.length)) + j := by omega
    rw [e, h2.2 (u - L1.length) (by rw [List.length_append] at hu; omega) j hj]
    simp only [List.getD_eq_getElem?_getD, List.getElem?_append_right (Nat.le_of_not_lt hu1)]
section VR8
variable {F : ac_hp} {ki : Nat → ClassId} {ad : Nat → Nat} {s : Nat → Nat → Int32} {tl : Nat → Int64} {f : ac_hp}
/-- what extend leaves: c' kept, or too large -/
def x_post (n : Nat) (K : Nat → Int32) (c : Nat) (L : List (List Nat)) (c' : Nat) (lg : Int32) (K' : Nat → Int32) : Prop :=
  c' ≤ 150 ∧ ((c + L.length ≤ 150 ∧ c' = c + L.length ∧ lg = 0 ∧ kpt n K c L K') ∨ (150 < c + L.length ∧ lg = 1))
theorem sp_keep {n c : Nat} {K R T : Nat → Int32} {pre : List Nat} {Q : ac_hp → Prop} (h : vr_R F ki ad (vs_x s (nI c) 0 K R T) tl f) (hc : c ≤ 150) (hn : n ≤ 4) (hR : ∀ j, j < n → R j = nI (pre.getD j 0))
    (hq : ∀ c' lg K' f', x_post n K c [pre] c' lg K' → vr_R F ki ad (vs_x s (nI c') lg K' R T) tl f' → Q f') : wp_X5_keep ki (ad 10) f Q := by
  unfold wp_X5_keep
  refine ⟨_, rd_f (i := 10) h (by omega) rfl rfl, ?_⟩
  have e5 : vs_x s (nI c) 0 K R T 10 5 = nI c := by rw [vx_10]; simp [upd]
  rw [e5]
  refine ⟨fun hlt => ?_, fun hge => ?_⟩
  · have hc2 := (lt_num (k := 150) rfl (by omega) hc).1 hlt
    refine ⟨_, rd_f (i := 10) h (by omega) rfl rfl, _, rd_f (i := 10) h (by omega) rfl rfl, _, rd_f (i := 10) h (by omega) rfl rfl, ?_⟩
    rw [e5]
    refine wr_c (i := 11) (j := 12) (sp := 0) (dp := c * 4) (n := 4) h (by omega) (by omega) rfl (fun s' => rfl) rfl (by rw [show (4 : Int32) = nI 4 from rfl, pk_mul]) rfl (by omega) (by omega) (by omega) (by omega) (fun f5 h5 => ?_)
    rw [vx_11, vx_12, vx_u11] at h5
    refine ⟨_, rd_f (i := 10) h5 (by omega) rfl rfl, ?_⟩
    have e5' : vs_x s (nI c) 0 (va_cpy R K 0 (c * 4) 4) R T 10 5 = nI c := by rw [vx_10]; simp [upd]
    rw [e5', nI_1]
    refine wr_10_5 h5 (fun f' h' => hq (c + 1) 0 _ f' ⟨by omega, Or.inl ⟨by simp; omega, rfl, rfl, ?_⟩⟩ (R_eq h' (vx_u10 (by rw [vx_10, up_5]))))
    refine ⟨fun x hx => by rw [pk_cpy_out (by omega)], fun u hu j hj => ?_⟩
    have hu0 : u = 0 := by simp at hu; exact hu
    subst hu0
    rw [pk_cpy_in (by omega) (by omega), show 0 + (4 * (c + 0) + j - c * 4) = j by omega]
    exact hR j hj
  · have hc2 := (lt_num (k := 150) rfl (by omega) hc).2 hge
    refine wr_10_6 h (fun f' h' => hq c 1 K f' ⟨hc, Or.inr ⟨by simp; omega, rfl⟩⟩ (R_eq h' (vx_u10 (by rw [vx_10, up_6]))))
end VR8
