/-! the class's run: what it answers, and the answers that it keeps -/
section FI13
variable {F : ac_hp} {ki : Nat → ClassId} {ad : Nat → Nat} {s t : Nat → Nat → Int32} {tl : Nat → Int64} {f : ac_hp}
variable {sz : Nat → Nat} {nn : Nat → Nat → Nat → Nat} {kk : Nat → Nat → Int32} {mc n sp : Nat} {mt : Nat → Nat} {ml mtm : Nat → Nat → Nat}
theorem CI.ks (hc : CI s sz nn kk mc n sp) : ∀ t c, t < 4 → c < 3 → s (32 + 3 * t) c = kk t c := by
  obtain ⟨VM, mt, ml, mtm, A, TP, h1, h2, h3, -⟩ := hc
  exact fun t c ht hc => (h3 t c ht hc).2
theorem cj_run {Q : Int32 → ac_hp → Prop} (h : vr_R F ki ad s tl f) (hc : CI s sz nn kk mc n sp) (hl : ML s t mc n sp) (hm : mps s mc mt ml mtm)
    (h0 : n = 0 → ∀ s' f', SK s s' → CI s' sz nn kk mc n sp → s' 16 4 = 0 → vr_R F ki ad s' tl f' → Q (-1) f')
    (h1 : n ≠ 0 → 150 < (mL t mc n (mc ^ n)).length → ∀ s' f', SK s s' → CI s' sz nn kk mc n sp → s' 16 4 = 0 → vr_R F ki ad s' tl f' → Q (-3) f')
    (h2 : n ≠ 0 → (mL t mc n (mc ^ n)).length ≤ 150 → ∀ (VM : Nat) (A : AS) (ls : Nat → Nat) s' f', VM < 64 → (∀ v, v < 6 → (VM.testBit v = true ↔ ∃ j, j < n * 2 ∧ pl_v (s 7 j) v)) → Sp (HT (RT s n mc mt ml mtm nn sz (mL t mc n (mc ^ n))) (mL t mc n (mc ^ n)).length) (mL t mc n (mc ^ n)).length A ls → A.1 ≤ 300 → aA s' A → s' 16 5 = nI VM → SK s s' → CI s' sz nn kk mc n sp → vr_R F ki ad s' tl f' → Q (nI A.1) f')
    (h3 : n ≠ 0 → (mL t mc n (mc ^ n)).length ≤ 150 → ∀ (A : AS) s' f', Bg (RT s n mc mt ml mtm nn sz (mL t mc n (mc ^ n))) (mL t mc n (mc ^ n)).length A → s' 16 4 = 0 → SK s s' → CI s' sz nn kk mc n sp → vr_R F ki ad s' tl f' → Q (-3) f') : wp_X0_run ki (ad 0) f Q := by
  obtain ⟨VM, _, _, _, A, TP, k1, k2, k3, -, k5, k6, k7, k8, k9, k10⟩ := id hc
  have el : (unions s n mc).length = (mL t mc n (mc ^ n)).length := by rw [un_eq hl k1.1, List.length_map]
  have tell : ∀ (VM' : Nat) (s2 : Nat → Nat → Int32), rfd (va_up s 16 (upd (upd (upd (s 16) 4 0) 5 (nI VM')) 6 0)) s2 n mc → ∀ (A : AS) (lg : Bool), tkall (isL s2 n (fun u a => mt (unm s n mc u a)) (fun u a => ml (unm s n mc u a)) (fun u a => mtm (unm s n mc u a)) nn sz) (unions s n mc).length A00 A lg → (lg = false → ∃ ls, Sp (HT (RT s n mc mt ml mtm nn sz (mL t mc n (mc ^ n))) (mL t mc n (mc ^ n)).length) (mL t mc n (mc ^ n)).length A ls) ∧ (lg = true → Bg (RT s n mc mt ml mtm nn sz (mL t mc n (mc ^ n))) (mL t mc n (mc ^ n)).length A) := by
    intro VM' s2 hr A lg hk
    have e : ∀ i, i < 10 ∨ 13 < i → i ≠ 16 → s2 i = s i := fun i hi h16 => by rw [hr.1 i hi, va_up_ne _ _ h16]
    rw [el] at hk
    exact Sp_tkall (fun u hu L hL => isL_RT hl k1.1 hu (e 7 (by omega) (by omega)) (e 8 (by omega) (by omega)) (e 9 (by omega) (by omega)) (fun i hi => e i (by omega) (by omega)) hL) (fun u a b ha hb => CU_i ha hb) _ A lg (Nat.le_refl _) hk
  refine sp_run (mm := fun u => unm s n mc u) (tt := fun u a => mt (unm s n mc u a)) (cc := fun u a => ml (unm s n mc u a)) (tmm := fun u a => mtm (unm s n mc u a)) h k1 k2 k8 (fun s2 e hk hl u hu => ?_)
    (fun VM' f' hV _ hn h' => h0 hn _ f' (SK.up (by omega) (by omega)) (CI_16 hc hV) (by rw [va_up_self]; simp [upd]) h')
    (fun VM' s2 f' hV _ hn hg hr h' => h1 hn (by rw [← el]; exact hg) s2 f' ((SK.up (by omega) (by omega)).trans (SK.rfd hr)) (CI_rfd (CI_16 hc hV) hr) (by rw [hr.1 16 (by omega), va_up_self]; simp [upd]) h')
    (fun VM' s2 s3 f' A' TP' hV hb hn hlen hr hkp e5 hk hA _ hT h' => ?_)
    (fun VM' s2 s3 f' A' TP' hV hb hn hlen hr hkp e5 hk hA _ hT h' => ?_)
  · have eu : unions s2 n mc = unions s n mc := unions_s2 (fun i hi => e i (by omega))
    have e2 : ∀ a, unm s2 n mc u a = unm s n mc u a := fun a => by unfold unm; rw [eu]
    have := ud_of (u := u) (mps_c hm (fun i hi => e i (by omega))) hk (by rw [eu]; exact hl) (by rw [eu]; exact hu)
    simp only [show unm s2 n mc u = unm s n mc u from funext e2] at this
    exact this
  · obtain ⟨ls, hS⟩ := (tell VM' s2 hr A' false hk).1 rfl
    obtain ⟨o, ho⟩ := id hA
    exact h2 hn (by rw [← el]; exact hlen) VM' A' ls s3 f' hV hb hS ho.1 hA e5 (((SK.up (by omega) (by omega)).trans (SK.rfd hr)).trans (SK.keeps hkp)) (CI_find (CI_rfd (CI_16 hc hV) hr) hkp hV e5 hA hT) h'
  · exact h3 hn (by rw [← el]; exact hlen) A' _ f' ((tell VM' s2 hr A' true hk).2 rfl) (by rw [va_up_self, upd_self]) ((((SK.up (by omega) (by omega)).trans (SK.rfd hr)).trans (SK.keeps hkp)).trans (SK.up (by omega) (by omega))) (CI_none (CI_find (CI_rfd (CI_16 hc hV) hr) hkp hV e5 hA hT)) h'
end FI13
