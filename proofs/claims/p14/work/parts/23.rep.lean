/-! THE CLASS'S WORLD: drop, mapping, atom, span, clear -/
section VR4
variable {F : ac_hp} {ki : Nat → ClassId} {ad : Nat → Nat} {s : Nat → Nat → Int32} {tl : Nat → Int64} {f : ac_hp}
theorem wr_c {i j n0 n1 sp dp n : Nat} {c : ClassId} {xs xd xn : Int32} {N : ac_hp → Prop} (h : vr_R F ki ad s tl f) (hi : i < 78) (hj : j < 78) (hlj : vr_lay ki ad s tl j = .inl (c, n0, .inl (s j))) (hl : ∀ s', vr_lay ki ad s' tl i = .inl (c, n1, .inl (s' i))) (h1 : xs = nI sp) (h2 : xd = nI dp) (h3 : xn = nI n) (h4 : sp + n ≤ n0) (h5 : dp + n ≤ n1) (hn0 : n0 < 2 ^ 31) (hn1 : n1 < 2 ^ 31)
    (kk : ∀ f', vr_R F ki ad (va_up s i (va_cpy (s j) (s i) sp dp n)) tl f' → N f') : ∃ f', hw_c c f (ad j) xs (ad i) xd xn f' ∧ N f' := by
  subst h1 h2 h3
  refine ⟨_, ⟨n0, n1, s j, s i, by rw [h.1 j hj, hlj], by rw [h.1 i hi, hl], nI_pos (by omega), nI_pos (by omega), nI_pos (by omega), ?_, ?_, rfl⟩, ?_⟩
  · rw [nI_clamp (by omega), nI_clamp (by omega)]; exact h4
  · rw [nI_clamp (by omega), nI_clamp (by omega)]; exact h5
  · rw [nI_clamp (by omega), nI_clamp (by omega), nI_clamp (by omega)]
    refine kk _ (vr_up h hi ?_)
    rw [hl, va_up_self]
/-- a field of a cell whose number is told -/
theorem wr_n {i ci k : Nat} {v : Int32} {N : ac_hp → Prop} (fs : (Nat → Int32) → List Value) (h : vr_R F ki ad s tl f) (hi : i < 78) (hl : ∀ s', vr_lay ki ad s' tl i = .inr (ci, fs (s' i))) (hk : k < (fs (s i)).length) (hs : fs (upd (s i) k v) = (fs (s i)).set k (.int v)) (kk : ∀ f', vr_R F ki ad (va_up s i (upd (s i) k v)) tl f' → N f') : ∃ f', hw_f f (ad i) ci k (.int v) f' ∧ N f' :=
  wr_f h hi (hl s) hk (by rw [hl, va_up_self, hs]) kk
def vs_drop (s : Nat → Nat → Int32) (t i n : Nat) : Nat → Nat → Int32 :=
  va_up (va_up s (31 + 3 * t) (va_cpy (s (31 + 3 * t)) (s (31 + 3 * t)) ((i + 1) * 3) (i * 3) ((n - i - 1) * 3))) (30 + 3 * t) (upd (s (30 + 3 * t)) 2 (nI (n - 1)))
theorem upd_T {w : Nat → Int32} {v : Int32} {a b : Nat} : [Value.ref a, .ref b, .int (upd w 2 v 2)] = [Value.ref a, .ref b, .int (w 2)].set 2 (.int v) := by simp [upd]
theorem sp_remove {t i n : Nat} {Q : ac_hp → Prop} (h : vr_R F ki ad s tl f) (ht : t < 4) (hs : s (30 + 3 * t) 2 = nI n) (hn : n ≤ 20) (hi : i < n) (hq : ∀ f', vr_R F ki ad (vs_drop s t i n) tl f' → Q f') : wp_X2_remove ki (ad (30 + 3 * t)) (nI i) f Q := by
  unfold wp_X2_remove
  refine ⟨_, rd_f h (by omega) (lay_T ht) rfl, ?_⟩
  intro v2 e2
  rw [hs, pk_sub (by omega), show (1 : Int32) = nI 1 from rfl, pk_sub (by omega)] at e2
  subst e2
  refine ⟨_, rd_f h (by omega) (lay_T ht) rfl, _, rd_f h (by omega) (lay_T ht) rfl, ?_⟩
  refine wr_c (sp := (i + 1) * 3) (dp := i * 3) (n := (n - i - 1) * 3) h (by omega) (by omega) (lay_Tc ht) (fun s' => lay_Tc ht) ?_ ?_ ?_ (by omega) (by omega) (by omega) (by omega) (fun f5 h5 => ?_)
  · rw [nI_1, show (3 : Int32) = nI 3 from rfl, pk_mul]
  · rw [show (3 : Int32) = nI 3 from rfl, pk_mul]
  · rw [show (3 : Int32) = nI 3 from rfl, pk_mul]
  refine ⟨_, rd_f h5 (by omega) (lay_T ht) rfl, ?_⟩
  have e9 : va_up s (31 + 3 * t) (va_cpy (s (31 + 3 * t)) (s (31 + 3 * t)) ((i + 1) * 3) (i * 3) ((n - i - 1) * 3)) (30 + 3 * t) = s (30 + 3 * t) := va_up_ne _ _ (by omega)
  refine wr_f h5 (by omega) (lay_T ht) (Nat.le_of_ble_eq_true rfl) ?_ (fun f' h' => hq f' ?_)
  · rw [lay_T ht, va_up_self]
    exact congrArg _ (congrArg _ upd_T)
  · rw [e9, hs, show (1 : Int32) = nI 1 from rfl, pk_sub (by omega)] at h'
    exact h'
theorem sp_drop {x1 x2 : Int32} {Q : Int32 → ac_hp → Prop} (h : vr_R F ki ad s tl f) (hsz : vs_sz s)
    (hbad : (¬ ∃ t : Nat, t < 4 ∧ x1 = nI t) → Q (-1) f)
    (hgo : ∀ t n : Nat, t < 4 → n ≤ 20 → x1 = nI t → s (30 + 3 * t) 2 = nI n → ((¬ ∃ i : Nat, i < n ∧ x2 = nI i) → Q (-1) f) ∧ ∀ i, i < n → x2 = nI i → ∀ f', vr_R F ki ad (vs_drop s t i n) tl f' → Q (nI (n - 1)) f') : wp_X0_drop ki (ad 0) x1 x2 f Q := by
  unfold wp_X0_drop
  refine pb_below 4 rfl (by omega) (fun t ht e1 => ⟨fun z => absurd z ne10, fun _ => ?_⟩) (fun hn => ⟨fun _ => hbad hn, fun z => absurd rfl z⟩)
  obtain ⟨n, hn, hs⟩ := hsz t ht
  obtain ⟨g0, g1⟩ := hgo t n ht hn e1 hs
  subst e1
  refine ⟨_, rd_f h (by omega) rfl rfl, _, rd_f h (by omega) rfl rfl, _, rd_tab h ht, _, rd_f h (by omega) (lay_T ht) rfl, ?_⟩
  refine pb_below n hs (by omega) (fun i hi e2 => ⟨fun _ => ?_, fun z => absurd z ne10⟩) (fun hn => ⟨fun z => absurd rfl z, fun _ => g0 hn⟩)
  have g2 := g1 i hi e2
  subst e2
  refine ⟨_, rd_f h (by omega) rfl rfl, _, rd_f h (by omega) rfl rfl, _, rd_tab h ht, rd_o h (by omega) (lay_T ht), sp_remove h ht hs hn hi (fun f' h' => ?_)⟩
  refine ⟨_, rd_f h' (by omega) rfl rfl, _, rd_f h' (by omega) rfl rfl, _, rd_tab h' ht, _, rd_f h' (by omega) (lay_T ht) rfl, ?_⟩
  have e : vs_drop s t i n (30 + 3 * t) 2 = nI (n - 1) := by simp [vs_drop, va_up_self, upd]
  rw [e]
  exact g2 f' h'
/-- 'forget' -/
theorem sp_forget {Q : ac_hp → Prop} (h : vr_R F ki ad s tl f) (hq : ∀ f', vr_R F ki ad (va_up s 10 (upd (s 10) 7 0)) tl f' → Q f') : wp_X5_forget ki (ad 10) f Q := by
  unfold wp_X5_forget
  exact wr_f (i := 10) h (by omega) rfl (Nat.le_of_ble_eq_true rfl) rfl hq
theorem sp_describe {m p : Nat} {a b : Int32} {Q : ac_hp → Prop} (h : vr_R F ki ad s tl f) (hm : m < 12) (hp : p < 2)
    (hq : ∀ f', vr_R F ki ad (va_up (va_up s (43 + 3 * m) (upd (s (43 + 3 * m)) p a)) (44 + 3 * m) (upd (s (44 + 3 * m)) p b)) tl f' → Q f') : wp_X3_describe ki (ad (42 + 3 * m)) (nI p) a b f Q := by
  unfold wp_X3_describe
  refine ⟨_, rd_f h (by omega) (lay_M hm) rfl, ?_⟩
  refine wr_i h (by omega) (fun s' => lay_Mt hm) rfl hp (by omega) (fun f2 h2 => ?_)
  refine ⟨_, rd_f h2 (by omega) (lay_M hm) rfl, ?_⟩
  refine wr_i h2 (by omega) (fun s' => lay_Mc hm) rfl hp (by omega) (fun f4 h4 => hq f4 ?_)
  rw [va_up_ne s _ (show 44 + 3 * m ≠ 43 + 3 * m by omega)] at h4
  exact h4
end VR4
