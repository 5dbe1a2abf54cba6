/-! class and reference hold one spec value -/
def INW (F : AH) (n : Nat) (σ : RS9) : Prop := INV F n σ ∧ ∃ V : SPV, RC F n V ∧ RR9 σ V
theorem inw_x : HXp INW := fun F n σ h => inv_x F n σ h.1
theorem RC_tr {f f' : AH} {n n' : Nat} {V : SPV} (h : RC f n V) (hF : ∀ j, j < 181 ∨ 223 < j → f' j = f j) (hn' : n ≤ n') : RC f' n' V := by
  obtain ⟨hn, ⟨ag, hp, hag⟩, hT, ⟨hK, hV⟩, ⟨h8, ⟨h13, hI⟩, hP, hC⟩, hR⟩ := h
  have im : ∀ j, IMM n j → f' j = f j := fun j hj => hF j (by have := IMM_1 hj; omega)
  refine ⟨by omega, ⟨ag, (hF _ (by omega)).trans hp, fun q => CUT_tr (hag q) (fun i a b => hF i (by omega))⟩, rw_tr hT (hF _ (by omega)) (hF _ (by omega)), ⟨KO_tr hK (fun j hj => ?_) hn', hV⟩, ⟨SSh_tr h8 (hF _ (by omega)) (hF _ (by omega)) (hF _ (by omega)), ⟨SSh_tr h13 (hF _ (by omega)) (hF _ (by omega)) (hF _ (by omega)), fun Q hQ => ⟨STT_tr (hI Q hQ).1 (hF _ (by omega)) (hF _ (by omega)) (hF _ (by omega)) im hn', (hI Q hQ).2⟩⟩, ?_, CSh_tr hC (fun i a b => hF i (by omega))⟩, ?_⟩
  · rcases hj with q | q | q | q
    · exact hF j (by omega)
    · exact hF j (by omega)
    · exact hF j (by omega)
    · exact im j q
  · obtain ⟨p1, g, p2, p3, p4⟩ := hP
    refine ⟨p1, g, (hF _ (by omega)).trans p2, fun i hi => ?_, p4⟩
    obtain ⟨s, e1, e2, e3, e4, e5⟩ := p3 i hi
    have hs := SID_lt e2
    exact ⟨s, e1, e2, e3, SSh_tr e4 (hF _ (by omega)) (hF _ (by omega)) (hF _ (by omega)), fun Q hQ => ⟨STT_tr (e5 Q hQ).1 (hF _ (by omega)) (hF _ (by omega)) (hF _ (by omega)) im hn', (e5 Q hQ).2⟩⟩
  · show rdG (f' 178)
    rw [hF 178 (by omega)]; exact hR
theorem RC_SV {f : AH} {n : Nat} {V : SPV} (h : RC f n V) : SV V.2.1 := h.2.2.2.1.2
section OPW
variable {α β : Type} {F : AH} {n : Nat} {σ : RS9}
/-- an op that throws nothing -/
theorem op_pf {o : Option (α × HpN)} {o' : Option (β × RS9)} {S : SPV → SPV} (hI : INW F n σ) (h : ∃ r r', o = some r ∧ o' = some r' ∧ r.2.1 = rHm r.2.1 σ ∧ INV (rHm r.2.1 r'.2) r.2.2 r'.2) (hk : ∀ V, RC F n V → PQ o (fun y => RC y.2.1 y.2.2 (S V))) (hr : ∀ V, RR9 σ V → SV V.2.1 → PQ o' (fun y => RR9 y.2 (S V))) : ∃ r r', o = some r ∧ o' = some r' ∧ r.2.1 = rHm r.2.1 σ ∧ INW (rHm r.2.1 r'.2) r.2.2 r'.2 := by
  obtain ⟨r, r', e, e', h1, h2⟩ := h
  obtain ⟨-, V, hC, hR⟩ := hI
  exact ⟨r, r', e, e', h1, h2, S V, RC_tr (hk V hC r e) (fun j hj => hm_off (by omega)) (Nat.le_refl _), hr V hR (RC_SV hC) r' e'⟩
theorem coi_c {s : Int32 × SPV} {y : Int32 × HpN} (h : COI s y) : RC y.2.1 y.2.2 s.2 ∧ y.1 = s.1 := by
  obtain ⟨f', n', rfl, h1⟩ := h
  exact ⟨h1, rfl⟩
theorem cok_c {s : ANS} {y : (Int32 ⊕ String) × HpN} (h : COK s y) : RC y.2.1 y.2.2 s.2 ∧ y.1 = s.1 := by
  obtain ⟨f', n', rfl, h1⟩ := h
  exact ⟨h1, rfl⟩
theorem op_pw {o : Option (Int32 × HpN)} {o' : Option (Int32 × RS9)} {S : SPV → Int32 × SPV} (hI : INW F n σ) (h : ∃ r r', o = some r ∧ o' = some r' ∧ r.2.1 = rHm r.2.1 σ ∧ INV (rHm r.2.1 r'.2) r.2.2 r'.2) (hk : ∀ V, RC F n V → PQ o (COI (S V))) (hr : ∀ V, RR9 σ V → SV V.2.1 → PQ o' (RAI (S V))) : ∃ r r', o = some r ∧ o' = some r' ∧ r.2.1 = rHm r.2.1 σ ∧ INW (rHm r.2.1 r'.2) r.2.2 r'.2 := op_pf (S := fun V => (S V).2) hI h (fun V hC => pq_tail (hk V hC) (fun y hy => (coi_c hy).1)) (fun V hR hS => pq_tail (hr V hR hS) (fun y hy => hy.1))
theorem op_pwc {o : Option (Int32 × HpN)} {o' : Option (Int32 × RS9)} {S : SPV → Int32 × SPV} (hI : INW F n σ) (h : ∃ r r', o = some r ∧ o' = some r' ∧ r.2.1 = rHm r.2.1 σ ∧ INV (rHm r.2.1 r'.2) r.2.2 r'.2) (hk : ∀ V, RC F n V → PQ o (COI (S V))) (hr : ∀ V, RR9 σ V → SV V.2.1 → PQ o' (RAI (S V))) : ∃ r r', o = some r ∧ o' = some r' ∧ r.1 = r'.1 ∧ r.2.1 = rHm r.2.1 σ ∧ INW (rHm r.2.1 r'.2) r.2.2 r'.2 := by
  obtain ⟨r, r', e, e', h1, h2⟩ := op_pw hI h hk hr
  obtain ⟨-, V, hC, hR⟩ := hI
  exact ⟨r, r', e, e', ((coi_c (hk V hC r e)).2).trans (hr V hR (RC_SV hC) r' e').2.symm, h1, h2⟩
theorem op_pu {o : Option ((Int32 ⊕ String) × HpN)} {o' : Option (Int32 × RS9)} {S : SPV → ANS} (hI : INW F n σ) (h : ∃ r r', o = some r ∧ o' = some r' ∧ (∃ v, r.1 = .inl v) ∧ r.2.1 = rHm r.2.1 σ ∧ INV (rHm r.2.1 r'.2) r.2.2 r'.2) (hk : ∀ V, RC F n V → PQ o (COK (S V))) (hr : ∀ V, RR9 σ V → SV V.2.1 → PQ o' (fun y => ∃ v, (S V).1 = .inl v ∧ y.1 = v ∧ RR9 y.2 (S V).2)) : ∃ r r', o = some r ∧ o' = some r' ∧ (∃ v, r.1 = .inl v) ∧ r.2.1 = rHm r.2.1 σ ∧ INW (rHm r.2.1 r'.2) r.2.2 r'.2 := by
  obtain ⟨r, r', e, e', hv, h1, h2⟩ := h
  obtain ⟨-, V, hC, hR⟩ := hI
  obtain ⟨v, -, -, hR'⟩ := hr V hR (RC_SV hC) r' e'
  exact ⟨r, r', e, e', hv, h1, h2, (S V).2, RC_tr (cok_c (hk V hC r e)).1 (fun j hj => hm_off (by omega)) (Nat.le_refl _), hR'⟩
/-- a question that changes nothing of the class -/
theorem pq_po {o : Option (α × HpN)} {P : α → Prop} {V : SPV} (h : PO o (fun v f' n' => f' = F ∧ n' = n ∧ P v)) (hC : RC F n V) : PQ o (fun y => RC y.2.1 y.2.2 V) := by
  obtain ⟨v, f', n', e, rfl, rfl, -⟩ := h
  intro y hy
  have := Option.some.inj (e.symm.trans hy)
  rw [← this]; exact hC
theorem op_pq {o : Option (α × HpN)} {o' : Option (β × RS9)} {P : α → Prop} (hI : INW F n σ) (h : ∃ r r', o = some r ∧ o' = some r' ∧ r.2.1 = rHm r.2.1 σ ∧ INV (rHm r.2.1 r'.2) r.2.2 r'.2) (hk : PO o (fun v f' n' => f' = F ∧ n' = n ∧ P v)) (hr : ∀ V, RR9 σ V → SV V.2.1 → PQ o' (QF9 σ)) : ∃ r r', o = some r ∧ o' = some r' ∧ r.2.1 = rHm r.2.1 σ ∧ INW (rHm r.2.1 r'.2) r.2.2 r'.2 := op_pf (S := fun V => V) hI h (fun V hC => pq_po hk hC) (fun V hR hS => pq_tail (hr V hR hS) (fun y hy => RR_q hR hy))
/-- an op that may throw -/
theorem op_tf {o : Option ((α ⊕ String) × HpN)} {o' : Option (β × RS9)} {xs : String → Prop} {S : SPV → SPV} (hI : INW F n σ) (h : ∃ r r' g0, o = some r ∧ (∀ E : String, r.1 = .inr E → xs E) ∧ r.2.1 223 = oCell g0 ∧ o' = some r' ∧ ∀ g : Nat → Int64, va_up r.2.1 223 (oCell g) = rHm (va_up r.2.1 223 (oCell g)) σ ∧ ∀ n', r.2.2 ≤ n' → INV (rHm (va_up r.2.1 223 (oCell g)) r'.2) n' r'.2) (hk : ∀ V, RC F n V → PQ o (fun y => RC y.2.1 y.2.2 (S V))) (hr : ∀ V, RR9 σ V → SV V.2.1 → PQ o' (fun y => RR9 y.2 (S V))) : ∃ r r' g0, o = some r ∧ (∀ E : String, r.1 = .inr E → xs E) ∧ r.2.1 223 = oCell g0 ∧ o' = some r' ∧ ∀ g : Nat → Int64, va_up r.2.1 223 (oCell g) = rHm (va_up r.2.1 223 (oCell g)) σ ∧ ∀ n', r.2.2 ≤ n' → INW (rHm (va_up r.2.1 223 (oCell g)) r'.2) n' r'.2 := by
  obtain ⟨r, r', g0, e, hE, hg, e', h1⟩ := h
  obtain ⟨-, V, hC, hR⟩ := hI
  exact ⟨r, r', g0, e, hE, hg, e', fun g => ⟨(h1 g).1, fun n' hn' => ⟨(h1 g).2 n' hn', S V, RC_tr (hk V hC r e) (fun j hj => (hm_off (by omega)).trans (u_ne (by omega))) hn', hr V hR (RC_SV hC) r' e'⟩⟩⟩
theorem op_tw {o : Option ((Int32 ⊕ String) × HpN)} {o' : Option (Int32 × RS9)} {xs : String → Prop} {S : SPV → ANS} {cd : String → Int32} (hI : INW F n σ) (h : ∃ r r' g0, o = some r ∧ (∀ E : String, r.1 = .inr E → xs E) ∧ r.2.1 223 = oCell g0 ∧ o' = some r' ∧ ∀ g : Nat → Int64, va_up r.2.1 223 (oCell g) = rHm (va_up r.2.1 223 (oCell g)) σ ∧ ∀ n', r.2.2 ≤ n' → INV (rHm (va_up r.2.1 223 (oCell g)) r'.2) n' r'.2) (hk : ∀ V, RC F n V → PQ o (COK (S V))) (hr : ∀ V, RR9 σ V → SV V.2.1 → PQ o' (RAN (S V) cd)) : ∃ r r' g0, o = some r ∧ (∀ E : String, r.1 = .inr E → xs E) ∧ r.2.1 223 = oCell g0 ∧ o' = some r' ∧ ∀ g : Nat → Int64, va_up r.2.1 223 (oCell g) = rHm (va_up r.2.1 223 (oCell g)) σ ∧ ∀ n', r.2.2 ≤ n' → INW (rHm (va_up r.2.1 223 (oCell g)) r'.2) n' r'.2 := op_tf (S := fun V => (S V).2) hI h (fun V hC => pq_tail (hk V hC) (fun y hy => (cok_c hy).1)) (fun V hR hS => pq_tail (hr V hR hS) (fun y hy => hy.1))
theorem op_tq {o : Option ((α ⊕ String) × HpN)} {o' : Option (β × RS9)} {xs : String → Prop} {P : (α ⊕ String) → Prop} (hI : INW F n σ) (h : ∃ r r' g0, o = some r ∧ (∀ E : String, r.1 = .inr E → xs E) ∧ r.2.1 223 = oCell g0 ∧ o' = some r' ∧ ∀ g : Nat → Int64, va_up r.2.1 223 (oCell g) = rHm (va_up r.2.1 223 (oCell g)) σ ∧ ∀ n', r.2.2 ≤ n' → INV (rHm (va_up r.2.1 223 (oCell g)) r'.2) n' r'.2) (hk : PO o (fun v f' n' => f' = F ∧ n' = n ∧ P v)) (hr : ∀ V, RR9 σ V → SV V.2.1 → PQ o' (QF9 σ)) : ∃ r r' g0, o = some r ∧ (∀ E : String, r.1 = .inr E → xs E) ∧ r.2.1 223 = oCell g0 ∧ o' = some r' ∧ ∀ g : Nat → Int64, va_up r.2.1 223 (oCell g) = rHm (va_up r.2.1 223 (oCell g)) σ ∧ ∀ n', r.2.2 ≤ n' → INW (rHm (va_up r.2.1 223 (oCell g)) r'.2) n' r'.2 := op_tf (S := fun V => V) hI h (fun V hC => pq_po hk hC) (fun V hR hS => pq_tail (hr V hR hS) (fun y hy => RR_q hR hy))
theorem op_twc {o : Option ((Int32 ⊕ String) × HpN)} {o' : Option (Int32 × RS9)} {xs : String → Prop} {S : SPV → ANS} {cd : String → Int32} (hI : INW F n σ) (h : ∃ r r' g0, o = some r ∧ (∀ E : String, r.1 = .inr E → xs E) ∧ r.2.1 223 = oCell g0 ∧ o' = some r' ∧ ∀ g : Nat → Int64, va_up r.2.1 223 (oCell g) = rHm (va_up r.2.1 223 (oCell g)) σ ∧ ∀ n', r.2.2 ≤ n' → INV (rHm (va_up r.2.1 223 (oCell g)) r'.2) n' r'.2) (hk : ∀ V, RC F n V → PQ o (COK (S V))) (hr : ∀ V, RR9 σ V → SV V.2.1 → PQ o' (RAN (S V) cd)) (hx : ∀ E, xs E → cd E ≠ 0) : ∃ r r' g0, o = some r ∧ (∀ E : String, r.1 = .inr E → xs E) ∧ r.2.1 223 = oCell g0 ∧ o' = some r' ∧ CMPT Int32.toInt64 cd r.1 (Int32.toInt64 r'.1) (r'.2.1 0) ∧ ∀ g : Nat → Int64, va_up r.2.1 223 (oCell g) = rHm (va_up r.2.1 223 (oCell g)) σ ∧ ∀ n', r.2.2 ≤ n' → INW (rHm (va_up r.2.1 223 (oCell g)) r'.2) n' r'.2 := by
  obtain ⟨r, r', g0, e, hE, hg, e', h1⟩ := op_tw hI h hk hr
  obtain ⟨-, V, hC, hR⟩ := hI
  refine ⟨r, r', g0, e, hE, hg, e', ?_, h1⟩
  have k := (cok_c (hk V hC r e)).2
  have q := (hr V hR (RC_SV hC) r' e').2
  cases hs : (S V).1 with
  | inl v =>
    rw [hs] at q k
    rw [k]
    exact ⟨q.2, by rw [q.1]⟩
  | inr E =>
    rw [hs] at q k
    have k2 := hE E k
    rw [k]
    exact ⟨q, hx E k2⟩
theorem op_puc {o : Option ((Int32 ⊕ String) × HpN)} {o' : Option (Int32 × RS9)} {S : SPV → ANS} (hI : INW F n σ) (h : ∃ r r', o = some r ∧ o' = some r' ∧ (∃ v, r.1 = .inl v) ∧ r.2.1 = rHm r.2.1 σ ∧ INV (rHm r.2.1 r'.2) r.2.2 r'.2) (hk : ∀ V, RC F n V → PQ o (COK (S V))) (hr : ∀ V, RR9 σ V → SV V.2.1 → PQ o' (fun y => ∃ v, (S V).1 = .inl v ∧ y.1 = v ∧ RR9 y.2 (S V).2)) : ∃ r r', o = some r ∧ o' = some r' ∧ (∃ v, r.1 = .inl v) ∧ r.1 = .inl r'.1 ∧ r.2.1 = rHm r.2.1 σ ∧ INW (rHm r.2.1 r'.2) r.2.2 r'.2 := by
  obtain ⟨r, r', e, e', hv, h1, h2⟩ := op_pu hI h hk hr
  obtain ⟨-, V, hC, hR⟩ := hI
  have k := (cok_c (hk V hC r e)).2
  obtain ⟨v, q1, q2, -⟩ := hr V hR (RC_SV hC) r' e'
  exact ⟨r, r', e, e', hv, by rw [k, q1, q2], h1, h2⟩
end OPW
