/-! the reference's found -/
section AN3
variable {F : ac_hp} {ki : Nat → ClassId} {am : Nat → Nat} {s : Nat → Nat → Int32} {f : ac_hp}
variable {sz : Nat → Nat} {nn : Nat → Nat → Nat → Nat} {kk : Nat → Nat → Int32} {mc n sp : Nat}
theorem rj_found {x y : Int32} {VB : Nat → Bool} {B : AS} {ls : Nat → Nat} {Q : Int32 → ac_hp → Prop} (h : mr_R F ki am s f) (ha : aR s VB B ls) (hb : B.1 ≤ 300)
    (hB : ¬ ((∃ a, a < B.1 ∧ x = nI a) ∧ ∃ b, b < 2 ∧ y = nI b) → ∀ f', mr_R F ki am (th0 s) f' → Q (-1) f')
    (h0 : ∀ a, a < B.1 → x = nI a → y = 0 → ∀ f', mr_R F ki am (th0 s) f' → Q (nI (B.2.2.1 a)) f')
    (h1 : ∀ a, a < B.1 → x = nI a → y = 1 → ∀ f', mr_R F ki am (th0 s) f' → Q (nI (B.2.2.2 a)) f') : wp_X9_found ki (am 0) x y f Q := by
  unfold wp_X9_found
  refine wm_0 h (fun f1 h => ?_)
  have h : mr_R F ki am (th0 s) f1 := h
  have c : ∀ j, j ≠ 0 → th0 s j = s j := fun j hj => va_up_ne _ _ hj
  refine ⟨_, rm_f h rfl, ?_⟩
  rw [show th0 s 0 23 = nI B.1 by unfold th0; rw [va_up_self, pk_un (by omega)]; exact ha.1]
  refine pm_inN (by omega) (fun i hi2 e1 => ⟨fun z => absurd z ne10, fun _ => ?_⟩) (fun hno => ⟨fun _ => hB (fun q => hno q.1) f1 h, fun z => absurd rfl z⟩)
  refine pm_in 2 (by omega) (by decide) (fun k hk e2 => ⟨fun _ => ?_, fun z => absurd z ne10⟩) (fun hno => ⟨fun z => absurd rfl z, fun _ => hB (fun q => hno q.2) f1 h⟩)
  obtain ⟨-, -, a1, a2, -⟩ := ha.2.1 i hi2
  subst e1
  refine ⟨fun hy => ⟨_, rm_f h rfl, _, rm_i (i := 22) (j := i) h (by omega) rfl rfl (by omega) (by omega), ?_⟩, fun hy => ⟨_, rm_f h rfl, _, rm_i (i := 21) (j := i) h (by omega) rfl rfl (by omega) (by omega), ?_⟩⟩
  · rw [c 22 (by omega), a2]
    refine h1 i hi2 rfl ?_ f1 h
    rcases (show k = 0 ∨ k = 1 by omega) with rfl | rfl
    · exact absurd e2 hy
    · exact e2
  · rw [c 21 (by omega), a1]
    exact h0 i hi2 rfl hy f1 h
/-- the reference's value; 1 where it throws -/
theorem rj_value {x y : Int32} {VB : Nat → Bool} {B : AS} {ls : Nat → Nat} {Q : Int32 → ac_hp → Prop} (h : mr_R F ki am s f) (ha : aR s VB B ls) (hb : B.1 ≤ 300) (h19 : 0 < B.1 → ∀ v, v < 6 → (s 19 v ≠ 0 ↔ VB v = true))
    (hB : ¬ ((∃ a, a < B.1 ∧ x = nI a) ∧ ∃ b, b < 6 ∧ y = nI b) → ∀ f', mr_R F ki am (th0 s) f' → Q (-1) f')
    (h0 : ∀ a b, a < B.1 → x = nI a → b < 6 → y = nI b → VB b = true → ∀ f', mr_R F ki am (th0 s) f' → Q (nI (B.2.1 a b)) f')
    (h1 : ∀ a b, a < B.1 → x = nI a → b < 6 → y = nI b → VB b = false → ∀ f', mr_R F ki am (va_up (th0 s) 0 (upd (th0 s 0) 0 1)) f' → Q 0 f') : wp_X9_value ki (am 0) x y f Q := by
  unfold wp_X9_value
  refine wm_0 h (fun f1 h => ?_)
  have h : mr_R F ki am (th0 s) f1 := h
  have c : ∀ j, j ≠ 0 → th0 s j = s j := fun j hj => va_up_ne _ _ hj
  refine ⟨_, rm_f h rfl, ?_⟩
  rw [show th0 s 0 23 = nI B.1 by unfold th0; rw [va_up_self, pk_un (by omega)]; exact ha.1]
  refine pm_inN (by omega) (fun i hi2 e1 => ⟨fun z => absurd z ne10, fun _ => ?_⟩) (fun hno => ⟨fun _ => hB (fun q => hno q.1) f1 h, fun z => absurd rfl z⟩)
  refine pm_in 6 (by omega) (by decide) (fun k hk e2 => ⟨fun _ => ?_, fun z => absurd z ne10⟩) (fun hno => ⟨fun z => absurd rfl z, fun _ => hB (fun q => hno q.2) f1 h⟩)
  obtain ⟨-, a0, -⟩ := ha.2.1 i hi2
  subst e1 e2
  have hk19 := h19 (by omega) k hk
  refine ⟨_, rm_f h rfl, _, rm_i (i := 19) (j := k) h (by omega) rfl rfl (by omega) (by omega), fun hne => ⟨_, rm_f h rfl, _, rm_i (i := 20) (j := 6 * i + k) h (by omega) rfl (by rw [show (6 : Int32) = nI 6 from rfl, pk_mul, nI_add]) (by omega) (by omega), ?_⟩, fun he => wm_0 h (fun f2 h2 => ?_)⟩
  · rw [c 19 (by omega)] at hne
    have hv := hk19.mp hne
    rw [c 20 (by omega), a0 k hk]
    unfold ec
    rw [if_pos hv]
    exact h0 i k hi2 rfl hk rfl hv f1 h
  · rw [c 19 (by omega)] at he
    refine h1 i k hi2 rfl hk rfl ?_ f2 h2
    cases hv : VB k with
    | false => rfl
    | true => exact absurd he (hk19.mpr hv)
end AN3
