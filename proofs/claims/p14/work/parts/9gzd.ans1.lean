/-! the answers are the same on both sides -/
def AL (s t : Nat → Nat → Int32) : Prop := ∃ (A B : AS) (VB : Nat → Bool) (ls : Nat → Nat) (VM : Nat), aA s A ∧ aR t VB B ls ∧ A.1 = B.1 ∧ (∀ i, i < A.1 → vec6 (B.2.1 i) (A.2.1 i) ∧ A.2.2.1 i = B.2.2.1 i ∧ A.2.2.2 i = B.2.2.2 i) ∧ VM < 64 ∧ s 16 5 = nI VM ∧ (0 < A.1 → ∀ v, v < 6 → (VM.testBit v = true ↔ VB v = true) ∧ (t 19 v ≠ 0 ↔ VB v = true))
def SK2 (s s' : Nat → Nat → Int32) : Prop := SK s s' ∧ ∀ j, 16 ≤ j → j ≤ 20 → s' j = s j
def SC2 (t t' : Nat → Nat → Int32) : Prop := SC t t' ∧ t' 0 23 = t 0 23 ∧ ∀ j, 19 ≤ j → t' j = t j
section AN1
variable {s s' t t' : Nat → Nat → Int32} {mc n sp : Nat}
theorem SK2.rfl' : SK2 s s := ⟨SK.rfl', fun _ _ _ => rfl⟩
theorem SK2.trans {s1 s2 s3 : Nat → Nat → Int32} (h : SK2 s1 s2) (h' : SK2 s2 s3) : SK2 s1 s3 := ⟨h.1.trans h'.1, fun j a b => (h'.2 j a b).trans (h.2 j a b)⟩
theorem SK2.rfd (h : rfd s s' n mc) : SK2 s s' := ⟨SK.rfd h, fun j a b => h.1 j (by omega)⟩
theorem SK2.one {v : Int32} : SK2 s (va_up s 1 (upd (s 1) 4 v)) := ⟨SK.one, fun j a b => va_up_ne _ _ (by omega)⟩
theorem SK2.sl {w : Nat → Int32} {ct : Nat} : SK2 s (vs_sl s w ct) := ⟨SK.sl, fun j a b => by unfold vs_sl; rw [va_up_ne _ _ (by omega), va_up_ne _ _ (by omega)]⟩
theorem SC2.rfl' : SC2 t t := ⟨SC.rfl', rfl, fun _ _ => rfl⟩
theorem SC2.trans {s1 s2 s3 : Nat → Nat → Int32} (h : SC2 s1 s2) (h' : SC2 s2 s3) : SC2 s1 s3 := ⟨h.1.trans h'.1, h'.2.1.trans h.2.1, fun j a => (h'.2.2 j a).trans (h.2.2 j a)⟩
theorem SC2.f0 {v : Int32} : SC2 t (va_up t 0 (upd (t 0) 0 v)) := ⟨SC.fld (by omega) (by omega) (by omega), by rw [va_up_self, pk_un (by omega)], fun j a => va_up_ne _ _ (by omega)⟩
theorem SC2.th0 : SC2 t (th0 t) := SC2.f0
theorem AL.c (h : AL s t) (e1 : ∀ j, 16 ≤ j → j ≤ 20 → s' j = s j) (e0 : t' 0 23 = t 0 23) (e2 : ∀ j, 19 ≤ j → j ≤ 23 → t' j = t j) : AL s' t' := by
  obtain ⟨A, B, VB, ls, VM, a1, a2, a3, a4, a5, a6, a7⟩ := h
  refine ⟨A, B, VB, ls, VM, aA_c a1 (by rw [e1 16 (by omega) (by omega)]) (fun j h1 h2 => e1 j (by omega) h2), ?_, a3, a4, a5, by rw [e1 16 (by omega) (by omega)]; exact a6, fun z v hv => by rw [e2 19 (by omega) (by omega)]; exact a7 z v hv⟩
  unfold aR at a2 ⊢
  rw [e0, e2 20 (by omega) (by omega), e2 21 (by omega) (by omega), e2 22 (by omega) (by omega), e2 23 (by omega) (by omega)]
  exact a2
theorem AL_0 {VM : Nat} (h : s 16 4 = 0) (h' : t 0 23 = nI 0) (hV : VM < 64) (h5 : s 16 5 = nI VM) : AL s t :=
  ⟨A00, A00, fun _ => false, fun _ => 0, VM, aA_00 h, ⟨h', fun i hi => absurd hi (Nat.not_lt_zero _), fun i j _ hj => absurd hj (Nat.not_lt_zero _)⟩, rfl, fun i hi => absurd hi (Nat.not_lt_zero _), hV, h5, fun z => absurd z (Nat.lt_irrefl _)⟩
def MA (s t : Nat → Nat → Int32) (mc n sp : Nat) : Prop := ML s t mc n sp ∧ AL s t
theorem MA.k (h : MA s t mc n sp) (e1 : SK2 s s') (e2 : SC2 t t') : MA s' t' mc n sp := ⟨h.1.k e1.1 e2.1, h.2.c e1.2 e2.2.1 (fun j a _ => e2.2.2 j a)⟩
theorem MA.t0 (h : MA s t mc n sp) : MA s (th0 t) mc n sp := h.k SK2.rfl' SC2.th0
theorem MA_key {k c : Nat} {v w : Int32} {q : Nat} (h : MA s t mc n sp) (hk : k < 4) : MA (vs_key s k c v) (va_up t 3 (upd (t 3) q w)) mc n sp := ⟨ML_key h.1 hk, h.2.c (fun j _ _ => va_up_ne _ _ (by omega)) (by rw [va_up_ne _ _ (by omega)]) (fun j _ _ => va_up_ne _ _ (by omega))⟩
theorem MA_row {k m : Nat} {a b c : Int32} (h : MA s t mc n sp) (hk : k < 4) : MA (vs_append s k m a b c) (ms_row t k m a b c) mc n sp := ⟨ML_row h.1 hk, h.2.c (fun j _ _ => by unfold vs_append; rw [va_up_ne _ _ (by omega), va_up_ne _ _ (by omega)]) (by unfold ms_row; rw [va_up_ne _ _ (by omega), va_up_ne _ _ (by omega)]) (fun j _ _ => by unfold ms_row; rw [va_up_ne _ _ (by omega), va_up_ne _ _ (by omega)])⟩
theorem MA_drop {k i m : Nat} (h : MA s t mc n sp) (hk : k < 4) : MA (vs_drop s k i m) (ms_drop t k i m) mc n sp := ⟨ML_drop h.1 hk, h.2.c (fun j _ _ => by unfold vs_drop; rw [va_up_ne _ _ (by omega), va_up_ne _ _ (by omega)]) (by unfold ms_drop; rw [va_up_ne _ _ (by omega), va_up_ne _ _ (by omega)]) (fun j _ _ => by unfold ms_drop; rw [va_up_ne _ _ (by omega), va_up_ne _ _ (by omega)])⟩
theorem MA_map {x1 x2 x3 x4 x5 x6 : Int32} (h : MA s t mc n sp) (p2 : ∃ p : Nat, p < 8 ∧ x2 = nI p) : MA (vs_map s mc x1 x2 x3 x4 x5 x6) (ms_map t mc x1 x2 x3 x4 x5 x6) (mc + 1) n sp := ⟨ML_map h.1 p2, h.2.c (fun j _ _ => by unfold vs_map; rw [va_up_ne _ _ (by omega), va_up_ne _ _ (by omega), va_up_ne _ _ (by omega), va_up_ne _ _ (by omega), va_up_ne _ _ (by omega)]) (by unfold ms_map; rw [va_up_self, pk_un (by omega)]) (fun j _ _ => by unfold ms_map; rw [va_up_ne _ _ (by omega), va_up_ne _ _ (by omega), va_up_ne _ _ (by omega), va_up_ne _ _ (by omega), va_up_ne _ _ (by omega)])⟩
theorem MA_atom {x1 x2 x3 : Int32} (h : MA s t mc n sp) (p1 : ∃ p : Nat, p < 8 ∧ x1 = nI p) : MA (va_up (vs_atom s n x1 x2 x3) 10 (upd (s 10) 7 0)) (ms_atom t n x1 x2 x3) mc (n + 1) sp := ⟨ML_atom h.1 p1, h.2.c (fun j _ _ => by unfold vs_atom; rw [va_up_ne _ _ (by omega), va_up_ne _ _ (by omega), va_up_ne _ _ (by omega), va_up_ne _ _ (by omega)]) (by unfold ms_atom; rw [va_up_self, pk_un (by omega)]) (fun j _ _ => by unfold ms_atom; rw [va_up_ne _ _ (by omega), va_up_ne _ _ (by omega), va_up_ne _ _ (by omega)])⟩
theorem MA_span {v : Nat} {x2 x3 : Int32} (h : MA s t mc n sp) (hv6 : v < 6) : MA (vs_span s v sp x2 x3) (ms_span t sp (nI v) x2 x3) mc n (sp + 1) := ⟨ML_span h.1 hv6, h.2.c (fun j _ _ => by unfold vs_span; rw [va_up_ne _ _ (by omega), va_up_ne _ _ (by omega), va_up_ne _ _ (by omega)]) (by unfold ms_span; rw [va_up_self, pk_un (by omega)]) (fun j _ _ => by unfold ms_span; rw [va_up_ne _ _ (by omega), va_up_ne _ _ (by omega), va_up_ne _ _ (by omega), va_up_ne _ _ (by omega)])⟩
theorem MA_clear (h : MA s t mc n sp) : MA (vs_clear s) (ms_clear t) mc 0 0 := ⟨ML_clear h.1, h.2.c (fun j _ _ => by unfold vs_clear; rw [va_up_ne _ _ (by omega), va_up_ne _ _ (by omega), va_up_ne _ _ (by omega), va_up_ne _ _ (by omega)]) (by unfold ms_clear; rw [va_up_self, pk_un (by omega), pk_un (by omega)]) (fun j _ _ => by unfold ms_clear; rw [va_up_ne _ _ (by omega)])⟩
theorem MA_0 : MA vs0 ms0 0 0 0 := ⟨ML_0, AL_0 (VM := 0) (vs0_ne (by omega)) nI_0.symm (by omega) ((vs0_ne (by omega)).trans nI_0.symm)⟩
end AN1
