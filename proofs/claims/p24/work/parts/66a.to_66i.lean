/-! part 66a.rc -/
section
/-! class and reference hold one spec value -/
def INW (F : AH) (n : Nat) (σ : RS9) : Prop := INV F n σ ∧ ∃ V : SPV, RC F n V ∧ RR9 σ V
theorem inw_x : HXp INW := fun F n σ h => inv_x F n σ h.1
theorem RC_tr {f f' : AH} {n n' : Nat} {V : SPV} (h : RC f n V) (hF : ∀ j, j < 181 ∨ 223 < j → f' j = f j) (hn' : n ≤ n') : RC f' n' V := by
  obtain ⟨hn, ⟨ag, hp, hag⟩, hT, ⟨hK, hV⟩, ⟨h8, ⟨h13, hI⟩, hP, hC⟩, hR⟩ := h
  have im : ∀ j, IMM n j → f' j = f j := fun j hj => hF j (by have := IMM_1 hj; omega)
  refine ⟨by omega, ⟨ag, (hF _ (by omega)).trans hp, fun q => CUT_tr (hag q) (fun i a b => hF i (by omega))⟩, rw_tr hT (hF _ (by omega)) (hF _ (by omega)), ⟨KO_tr hK (fun j hj => ?_) hn', hV⟩, ⟨SSh_tr h8 (hF _ (by omega)) (hF _ (by omega)) (hF _ (by omega)), ⟨SSh_tr h13 (hF _ (by omega)) (hF _ (by omega)) (hF _ (by omega)), fun Q hQ => ⟨STT_tr (hI Q hQ).1 (hF _ (by omega)) (hF _ (by omega)) (hF _ (by omega)) im hn', (hI Q hQ).2⟩⟩, ?_, CSh_tr hC (fun i a b => hF i (by omega))⟩, ?_⟩
  · rcases hj with q | q | q | q
    · exact hF j (by omega)
    · exact hF j (by omega)
    · exact hF j (by omega)
    · exact im j q
  · obtain ⟨p1, g, p2, p3, p4⟩ := hP
    refine ⟨p1, g, (hF _ (by omega)).trans p2, fun i hi => ?_, p4⟩
    obtain ⟨s, e1, e2, e3, e4, e5⟩ := p3 i hi
    have hs := SID_lt e2
    exact ⟨s, e1, e2, e3, SSh_tr e4 (hF _ (by omega)) (hF _ (by omega)) (hF _ (by omega)), fun Q hQ => ⟨STT_tr (e5 Q hQ).1 (hF _ (by omega)) (hF _ (by omega)) (hF _ (by omega)) im hn', (e5 Q hQ).2⟩⟩
  · show rdG (f' 178)
    rw [hF 178 (by omega)]; exact hR
theorem RC_SV {f : AH} {n : Nat} {V : SPV} (h : RC f n V) : SV V.2.1 := h.2.2.2.1.2
section OPW
variable {α β : Type} {F : AH} {n : Nat} {σ : RS9}
/-- an op that throws nothing -/
theorem op_pf {o : Option (α × HpN)} {o' : Option (β × RS9)} {S : SPV → SPV} (hI : INW F n σ) (h : ∃ r r', o = some r ∧ o' = some r' ∧ r.2.1 = rHm r.2.1 σ ∧ INV (rHm r.2.1 r'.2) r.2.2 r'.2) (hk : ∀ V, RC F n V → PQ o (fun y => RC y.2.1 y.2.2 (S V))) (hr : ∀ V, RR9 σ V → SV V.2.1 → PQ o' (fun y => RR9 y.2 (S V))) : ∃ r r', o = some r ∧ o' = some r' ∧ r.2.1 = rHm r.2.1 σ ∧ INW (rHm r.2.1 r'.2) r.2.2 r'.2 := by
  obtain ⟨r, r', e, e', h1, h2⟩ := h
  obtain ⟨-, V, hC, hR⟩ := hI
  exact ⟨r, r', e, e', h1, h2, S V, RC_tr (hk V hC r e) (fun j hj => hm_off (by omega)) (Nat.le_refl _), hr V hR (RC_SV hC) r' e'⟩
theorem coi_c {s : Int32 × SPV} {y : Int32 × HpN} (h : COI s y) : RC y.2.1 y.2.2 s.2 ∧ y.1 = s.1 := by
  obtain ⟨f', n', rfl, h1⟩ := h
  exact ⟨h1, rfl⟩
theorem cok_c {s : ANS} {y : (Int32 ⊕ String) × HpN} (h : COK s y) : RC y.2.1 y.2.2 s.2 ∧ y.1 = s.1 := by
  obtain ⟨f', n', rfl, h1⟩ := h
  exact ⟨h1, rfl⟩
theorem op_pw {o : Option (Int32 × HpN)} {o' : Option (Int32 × RS9)} {S : SPV → Int32 × SPV} (hI : INW F n σ) (h : ∃ r r', o = some r ∧ o' = some r' ∧ r.2.1 = rHm r.2.1 σ ∧ INV (rHm r.2.1 r'.2) r.2.2 r'.2) (hk : ∀ V, RC F n V → PQ o (COI (S V))) (hr : ∀ V, RR9 σ V → SV V.2.1 → PQ o' (RAI (S V))) : ∃ r r', o = some r ∧ o' = some r' ∧ r.2.1 = rHm r.2.1 σ ∧ INW (rHm r.2.1 r'.2) r.2.2 r'.2 := op_pf (S := fun V => (S V).2) hI h (fun V hC => pq_tail (hk V hC) (fun y hy => (coi_c hy).1)) (fun V hR hS => pq_tail (hr V hR hS) (fun y hy => hy.1))
theorem op_pwc {o : Option (Int32 × HpN)} {o' : Option (Int32 × RS9)} {S : SPV → Int32 × SPV} (hI : INW F n σ) (h : ∃ r r', o = some r ∧ o' = some r' ∧ r.2.1 = rHm r.2.1 σ ∧ INV (rHm r.2.1 r'.2) r.2.2 r'.2) (hk : ∀ V, RC F n V → PQ o (COI (S V))) (hr : ∀ V, RR9 σ V → SV V.2.1 → PQ o' (RAI (S V))) : ∃ r r', o = some r ∧ o' = some r' ∧ r.1 = r'.1 ∧ r.2.1 = rHm r.2.1 σ ∧ INW (rHm r.2.1 r'.2) r.2.2 r'.2 := by
  obtain ⟨r, r', e, e', h1, h2⟩ := op_pw hI h hk hr
  obtain ⟨-, V, hC, hR⟩ := hI
  exact ⟨r, r', e, e', ((coi_c (hk V hC r e)).2).trans (hr V hR (RC_SV hC) r' e').2.symm, h1, h2⟩
theorem op_pu {o : Option ((Int32 ⊕ String) × HpN)} {o' : Option (Int32 × RS9)} {S : SPV → ANS} (hI : INW F n σ) (h : ∃ r r', o = some r ∧ o' = some r' ∧ (∃ v, r.1 = .inl v) ∧ r.2.1 = rHm r.2.1 σ ∧ INV (rHm r.2.1 r'.2) r.2.2 r'.2) (hk : ∀ V, RC F n V → PQ o (COK (S V))) (hr : ∀ V, RR9 σ V → SV V.2.1 → PQ o' (fun y => ∃ v, (S V).1 = .inl v ∧ y.1 = v ∧ RR9 y.2 (S V).2)) : ∃ r r', o = some r ∧ o' = some r' ∧ (∃ v, r.1 = .inl v) ∧ r.2.1 = rHm r.2.1 σ ∧ INW (rHm r.2.1 r'.2) r.2.2 r'.2 := by
  obtain ⟨r, r', e, e', hv, h1, h2⟩ := h
  obtain ⟨-, V, hC, hR⟩ := hI
  obtain ⟨v, -, -, hR'⟩ := hr V hR (RC_SV hC) r' e'
  exact ⟨r, r', e, e', hv, h1, h2, (S V).2, RC_tr (cok_c (hk V hC r e)).1 (fun j hj => hm_off (by omega)) (Nat.le_refl _), hR'⟩
/-- a question that changes nothing of the class -/
theorem pq_po {o : Option (α × HpN)} {P : α → Prop} {V : SPV} (h : PO o (fun v f' n' => f' = F ∧ n' = n ∧ P v)) (hC : RC F n V) : PQ o (fun y => RC y.2.1 y.2.2 V) := by
  obtain ⟨v, f', n', e, rfl, rfl, -⟩ := h
  intro y hy
  have := Option.some.inj (e.symm.trans hy)
  rw [← this]; exact hC
theorem op_pq {o : Option (α × HpN)} {o' : Option (β × RS9)} {P : α → Prop} (hI : INW F n σ) (h : ∃ r r', o = some r ∧ o' = some r' ∧ r.2.1 = rHm r.2.1 σ ∧ INV (rHm r.2.1 r'.2) r.2.2 r'.2) (hk : PO o (fun v f' n' => f' = F ∧ n' = n ∧ P v)) (hr : ∀ V, RR9 σ V → SV V.2.1 → PQ o' (QF9 σ)) : ∃ r r', o = some r ∧ o' = some r' ∧ r.2.1 = rHm r.2.1 σ ∧ INW (rHm r.2.1 r'.2) r.2.2 r'.2 := op_pf (S := fun V => V) hI h (fun V hC => pq_po hk hC) (fun V hR hS => pq_tail (hr V hR hS) (fun y hy => RR_q hR hy))
/-- an op that may throw -/
theorem op_tf {o : Option ((α ⊕ String) × HpN)} {o' : Option (β × RS9)} {xs : String → Prop} {S : SPV → SPV} (hI : INW F n σ) (h : ∃ r r' g0, o = some r ∧ (∀ E : String, r.1 = .inr E → xs E) ∧ r.2.1 223 = oCell g0 ∧ o' = some r' ∧ ∀ g : Nat → Int64, va_up r.2.1 223 (oCell g) = rHm (va_up r.2.1 223 (oCell g)) σ ∧ ∀ n', r.2.2 ≤ n' → INV (rHm (va_up r.2.1 223 (oCell g)) r'.2) n' r'.2) (hk : ∀ V, RC F n V → PQ o (fun y => RC y.2.1 y.2.2 (S V))) (hr : ∀ V, RR9 σ V → SV V.2.1 → PQ o' (fun y => RR9 y.2 (S V))) : ∃ r r' g0, o = some r ∧ (∀ E : String, r.1 = .inr E → xs E) ∧ r.2.1 223 = oCell g0 ∧ o' = some r' ∧ ∀ g : Nat → Int64, va_up r.2.1 223 (oCell g) = rHm (va_up r.2.1 223 (oCell g)) σ ∧ ∀ n', r.2.2 ≤ n' → INW (rHm (va_up r.2.1 223 (oCell g)) r'.2) n' r'.2 := by
  obtain ⟨r, r', g0, e, hE, hg, e', h1⟩ := h
  obtain ⟨-, V, hC, hR⟩ := hI
  exact ⟨r, r', g0, e, hE, hg, e', fun g => ⟨(h1 g).1, fun n' hn' => ⟨(h1 g).2 n' hn', S V, RC_tr (hk V hC r e) (fun j hj => (hm_off (by omega)).trans (u_ne (by omega))) hn', hr V hR (RC_SV hC) r' e'⟩⟩⟩
theorem op_tw {o : Option ((Int32 ⊕ String) × HpN)} {o' : Option (Int32 × RS9)} {xs : String → Prop} {S : SPV → ANS} {cd : String → Int32} (hI : INW F n σ) (h : ∃ r r' g0, o = some r ∧ (∀ E : String, r.1 = .inr E → xs E) ∧ r.2.1 223 = oCell g0 ∧ o' = some r' ∧ ∀ g : Nat → Int64, va_up r.2.1 223 (oCell g) = rHm (va_up r.2.1 223 (oCell g)) σ ∧ ∀ n', r.2.2 ≤ n' → INV (rHm (va_up r.2.1 223 (oCell g)) r'.2) n' r'.2) (hk : ∀ V, RC F n V → PQ o (COK (S V))) (hr : ∀ V, RR9 σ V → SV V.2.1 → PQ o' (RAN (S V) cd)) : ∃ r r' g0, o = some r ∧ (∀ E : String, r.1 = .inr E → xs E) ∧ r.2.1 223 = oCell g0 ∧ o' = some r' ∧ ∀ g : Nat → Int64, va_up r.2.1 223 (oCell g) = rHm (va_up r.2.1 223 (oCell g)) σ ∧ ∀ n', r.2.2 ≤ n' → INW (rHm (va_up r.2.1 223 (oCell g)) r'.2) n' r'.2 := op_tf (S := fun V => (S V).2) hI h (fun V hC => pq_tail (hk V hC) (fun y hy => (cok_c hy).1)) (fun V hR hS => pq_tail (hr V hR hS) (fun y hy => hy.1))
theorem op_tq {o : Option ((α ⊕ String) × HpN)} {o' : Option (β × RS9)} {xs : String → Prop} {P : (α ⊕ String) → Prop} (hI : INW F n σ) (h : ∃ r r' g0, o = some r ∧ (∀ E : String, r.1 = .inr E → xs E) ∧ r.2.1 223 = oCell g0 ∧ o' = some r' ∧ ∀ g : Nat → Int64, va_up r.2.1 223 (oCell g) = rHm (va_up r.2.1 223 (oCell g)) σ ∧ ∀ n', r.2.2 ≤ n' → INV (rHm (va_up r.2.1 223 (oCell g)) r'.2) n' r'.2) (hk : PO o (fun v f' n' => f' = F ∧ n' = n ∧ P v)) (hr : ∀ V, RR9 σ V → SV V.2.1 → PQ o' (QF9 σ)) : ∃ r r' g0, o = some r ∧ (∀ E : String, r.1 = .inr E → xs E) ∧ r.2.1 223 = oCell g0 ∧ o' = some r' ∧ ∀ g : Nat → Int64, va_up r.2.1 223 (oCell g) = rHm (va_up r.2.1 223 (oCell g)) σ ∧ ∀ n', r.2.2 ≤ n' → INW (rHm (va_up r.2.1 223 (oCell g)) r'.2) n' r'.2 := op_tf (S := fun V => V) hI h (fun V hC => pq_po hk hC) (fun V hR hS => pq_tail (hr V hR hS) (fun y hy => RR_q hR hy))
theorem op_twc {o : Option ((Int32 ⊕ String) × HpN)} {o' : Option (Int32 × RS9)} {xs : String → Prop} {S : SPV → ANS} {cd : String → Int32} (hI : INW F n σ) (h : ∃ r r' g0, o = some r ∧ (∀ E : String, r.1 = .inr E → xs E) ∧ r.2.1 223 = oCell g0 ∧ o' = some r' ∧ ∀ g : Nat → Int64, va_up r.2.1 223 (oCell g) = rHm (va_up r.2.1 223 (oCell g)) σ ∧ ∀ n', r.2.2 ≤ n' → INV (rHm (va_up r.2.1 223 (oCell g)) r'.2) n' r'.2) (hk : ∀ V, RC F n V → PQ o (COK (S V))) (hr : ∀ V, RR9 σ V → SV V.2.1 → PQ o' (RAN (S V) cd)) (hx : ∀ E, xs E → cd E ≠ 0) : ∃ r r' g0, o = some r ∧ (∀ E : String, r.1 = .inr E → xs E) ∧ r.2.1 223 = oCell g0 ∧ o' = some r' ∧ CMPT Int32.toInt64 cd r.1 (Int32.toInt64 r'.1) (r'.2.1 0) ∧ ∀ g : Nat → Int64, va_up r.2.1 223 (oCell g) = rHm (va_up r.2.1 223 (oCell g)) σ ∧ ∀ n', r.2.2 ≤ n' → INW (rHm (va_up r.2.1 223 (oCell g)) r'.2) n' r'.2 := by
  obtain ⟨r, r', g0, e, hE, hg, e', h1⟩ := op_tw hI h hk hr
  obtain ⟨-, V, hC, hR⟩ := hI
  refine ⟨r, r', g0, e, hE, hg, e', ?_, h1⟩
  have k := (cok_c (hk V hC r e)).2
  have q := (hr V hR (RC_SV hC) r' e').2
  cases hs : (S V).1 with
  | inl v =>
    rw [hs] at q k
    rw [k]
    exact ⟨q.2, by rw [q.1]⟩
  | inr E =>
    rw [hs] at q k
    have k2 := hE E k
    rw [k]
    exact ⟨q, hx E k2⟩
theorem op_puc {o : Option ((Int32 ⊕ String) × HpN)} {o' : Option (Int32 × RS9)} {S : SPV → ANS} (hI : INW F n σ) (h : ∃ r r', o = some r ∧ o' = some r' ∧ (∃ v, r.1 = .inl v) ∧ r.2.1 = rHm r.2.1 σ ∧ INV (rHm r.2.1 r'.2) r.2.2 r'.2) (hk : ∀ V, RC F n V → PQ o (COK (S V))) (hr : ∀ V, RR9 σ V → SV V.2.1 → PQ o' (fun y => ∃ v, (S V).1 = .inl v ∧ y.1 = v ∧ RR9 y.2 (S V).2)) : ∃ r r', o = some r ∧ o' = some r' ∧ (∃ v, r.1 = .inl v) ∧ r.1 = .inl r'.1 ∧ r.2.1 = rHm r.2.1 σ ∧ INW (rHm r.2.1 r'.2) r.2.2 r'.2 := by
  obtain ⟨r, r', e, e', hv, h1, h2⟩ := op_pu hI h hk hr
  obtain ⟨-, V, hC, hR⟩ := hI
  have k := (cok_c (hk V hC r e)).2
  obtain ⟨v, q1, q2, -⟩ := hr V hR (RC_SV hC) r' e'
  exact ⟨r, r', e, e', hv, by rw [k, q1, q2], h1, h2⟩
end OPW
end
/-! part 66b.first -/
section
/-! at the first both hold the empty value -/
def S00 : SST := ([], (0, -1, 0, 1, []), fun _ => none, [])
def V00 : SPV := ([], S00, [], none, 0, -1)
def gOf (v : Option AE) : Nat → Option Nat := match v with
  | some (.inl (_, _, .inr (.inr g))) => g
  | _ => fun _ => none
def isP0 : Option AE → Bool
  | some (.inr (3, [.int _, .int _, .int _, .int _, .int _, .int _, .int _, .int _, .int _, .int _, .int _, .int _])) => true
  | _ => false
theorem isP0_ok {v : Option AE} (h : isP0 v = true) : okP v := by
  unfold isP0 at h
  split at h
  · exact ⟨_, _, _, _, _, _, _, _, _, _, _, _, rfl⟩
  · cases h
theorem p59_ok : (List.range 40).all (fun i => isP0 (FF (75 + i))) = true := by decide +kernel
theorem p115_ok : (List.range 40).all (fun i => isP0 (FF (131 + i))) = true := by decide +kernel
theorem g74 : ∀ i : Fin 40, gOf (FF 74) (i : Nat) = some (75 + (i : Nat)) := by decide +kernel
theorem g130 : ∀ i : Fin 40, gOf (FF 130) (i : Nat) = some (131 + (i : Nat)) := by decide +kernel
theorem nolt {P : Nat → Prop} : ∀ i, i < 0 → P i := fun i hi => absurd hi (Nat.not_lt_zero _)
theorem rw0 {j b c : Nat} (h1 : FF j = some (.inr (5, [.ref b, .int 0]))) (h2 : FF b = some (.inl (0, c, .inl (fun _ => 0)))) (hc : c ≤ 600) : isRw FF j b c [] := ⟨h1, ⟨_, h2, nolt⟩, Nat.zero_le _, hc⟩
set_option maxRecDepth 100000 in
theorem ff_ss {s : Nat} (h : s = 8 ∨ s = 13 ∨ s = 19 ∨ s = 24 ∨ s = 29 ∨ s = 34 ∨ s = 39 ∨ s = 44 ∨ s = 49 ∨ s = 54) : SSh FF s := by
  rcases h with h | h | h | h | h | h | h | h | h | h <;> subst h <;> exact ⟨⟨_, 0, -1, 0, 1, 0, none, 0, rfl⟩, ⟨_, rfl⟩, ⟨_, rfl⟩⟩
set_option maxRecDepth 100000 in
theorem ff_cs : CSh FF 115 := ⟨⟨0, rfl⟩, ⟨[], rw0 rfl rfl (by decide)⟩, ⟨[], rw0 rfl rfl (by decide)⟩, ⟨[], rw0 rfl rfl (by decide)⟩, ⟨[], rw0 rfl rfl (by decide)⟩, ⟨_, 0, 0, 0, 0, 0, 0, 0, 0, 0, rfl⟩, ⟨_, 0, 0, 0, 0, 0, 0, 0, 0, 0, rfl⟩, ⟨gOf (FF 130), rfl, fun i hi => g130 ⟨i, hi⟩⟩, fun i hi => isP0_ok (List.all_eq_true.mp p115_ok i (List.mem_range.mpr hi))⟩
set_option maxRecDepth 100000 in
theorem ff_cut : CUT FF 59 [] := ⟨⟨⟨rfl, ⟨gOf (FF 74), rfl, fun i hi => g74 ⟨i, hi⟩⟩, fun i hi => isP0_ok (List.all_eq_true.mp p59_ok i (List.mem_range.mpr hi)), nolt, by decide⟩, rw0 rfl rfl (by decide), rw0 rfl rfl (by decide), ⟨[], rw0 rfl rfl (by decide)⟩, ⟨[], rw0 rfl rfl (by decide)⟩, ⟨_, 0, 0, 0, 0, 0, 0, 0, 0, 0, rfl⟩⟩, ⟨_, 0, 0, 0, 0, 0, 0, 0, 0, 0, rfl⟩, rfl⟩
theorem cf00 : CFok (0, -1, 0, 1, []) := ⟨Or.inl rfl, Or.inl rfl, Or.inl rfl, by decide, by decide, fun w hw => by cases hw⟩
theorem pc00 : pcF S00 = [] := rfl
theorem bl00 : bltS S00 = [] := rfl
theorem sv00 : SV S00 := by
  refine ⟨(fun i t hi he => by cases he), ?_, by decide, fun i _ => rfl⟩
  rw [bl00]; decide
set_option maxRecDepth 100000 in
theorem ff_stt : STT FF 224 3 S00 := ⟨⟨4, none, rfl, ⟨5, 0, rw0 rfl rfl (by decide), by unfold IMM; omega, by unfold IMM; omega⟩, [], rfl, rfl⟩, ⟨_, rfl, fun l hl => absurd hl (Nat.not_lt_zero _)⟩, ⟨_, rfl, fun i hi => rfl⟩, cf00, by decide⟩
set_option maxRecDepth 100000 in
theorem ff_ko : KO FF 224 S00 := by
  refine ⟨ff_stt, ?_, ⟨⟨0, rfl⟩, ⟨[], rw0 rfl rfl (by decide)⟩, ⟨[], rw0 rfl rfl (by decide)⟩, ⟨[], rw0 rfl rfl (by decide)⟩⟩, ?_, fun i hi => ?_⟩
  · rw [pc00]; exact ff_cut
  · rw [bl00]; exact rw0 rfl rfl (by decide)
  · rw [pc00] at hi; exact absurd hi (Nat.not_lt_zero _)
set_option maxRecDepth 100000 in
theorem ff_pst : PST FF 224 [] := by
  refine ⟨by decide, gOf (FF 18), rfl, fun i hi => ⟨19 + 5 * i, ?_, by unfold SID; omega, by omega, ff_ss (by omega), fun Q hQ => by cases hQ⟩, fun i k hi hk => ?_⟩
  · rcases (by omega : i = 0 ∨ i = 1 ∨ i = 2 ∨ i = 3 ∨ i = 4 ∨ i = 5 ∨ i = 6 ∨ i = 7) with h | h | h | h | h | h | h | h <;> subst h <;> rfl
  · have key : ∀ i k : Fin 8, gOf (FF 18) (i : Nat) = gOf (FF 18) (k : Nat) → (i : Nat) = (k : Nat) := by decide +kernel
    exact key ⟨i, hi⟩ ⟨k, hk⟩
set_option maxRecDepth 100000 in
theorem ff_rc : RC FF 224 V00 := ⟨by decide, ⟨0, rfl, fun q => absurd rfl q⟩, rw0 rfl rfl (by decide), ⟨ff_ko, sv00⟩, ⟨ff_ss (Or.inl rfl), ⟨ff_ss (Or.inr (Or.inl rfl)), fun Q hQ => by cases hQ⟩, ff_pst, ff_cs⟩, ⟨0, 0, 0, 0, 0, none, 0, 179, rfl⟩⟩
theorem ff_rr : RR9 σ0 V00 := by
  have z0 : ∀ i, i < 443 → i ≠ 4 → i ≠ 2 → μ0 i = 0 := fun i h1 h2 h3 => μ0_0 (by omega) h2 h3
  have hM : MR9 μ0 S00 := by
    refine ⟨⟨⟨z0 0 (by omega) (by omega) (by omega), by decide⟩, nolt⟩, ⟨z0 1 (by omega) (by omega) (by omega), ?_, z0 3 (by omega) (by omega) (by omega), ?_, z0 5 (by omega) (by omega) (by omega), fun l hl => absurd hl (Nat.not_lt_zero _), cf00⟩, fun p hp => ⟨μ0_t hp, fun t ht => by cases ht⟩, z0 42 (by omega) (by omega) (by omega), by decide, fun k hk => absurd hk (Nat.not_lt_zero _)⟩
    · rw [μ0_v (by omega)]; rfl
    · rw [μ0_v (by omega)]; rfl
  refine ⟨⟨rfl, by decide, nolt⟩, ⟨hM, ?_⟩, ⟨rfl, by decide, fun i Q hq => by cases hq⟩, ⟨rfl, fun Q hQ => by cases hQ⟩, rfl, rfl⟩
  show PT σ0 _ (pcF S00)
  rw [pc00]
  exact ⟨⟨rfl, by decide⟩, ⟨rfl, by decide, rfl, nolt, nolt⟩, fun i hi => absurd hi (Nat.not_lt_zero _)⟩
theorem ff_inw : INW FF 224 σ0 := ⟨ff_inv, V00, ff_rc, ff_rr⟩
end
/-! part 66c.ask -/
section
/-! questions with their answers: one byte, one number -/
def sAt (V : SPV) (i w : Int32) : Int32 × SPV := (gt1 (if w = 0 then V.2.1.1 else bltS V.2.1) i, V)
def sMem (V : SPV) (a b c : Int32) : Int32 × SPV := (if 0 ≤ a.toInt ∧ a.toInt < (V.2.1.2.2.2.length : Int) then gt1 (if b = 0 then (V.2.1.2.2.2.getD a.toInt.toNat ([], [])).1 else (V.2.1.2.2.2.getD a.toInt.toNat ([], [])).2) c else -1, V)
def sOct (V : SPV) (p i w : Int32) : ANS := if inP V.2.1 p then (.inl (gt1 (if w = 0 then pX (pOf V.2.1 p.toInt.toNat) else nowOf V.2.1 p.toInt.toNat) i), V) else (.inr eI, V)
def ogA (S : SST) (p : Nat) (i : Int32) : Int32 := if 0 ≤ i.toInt ∧ i.toInt < ((pX (pOf S p)).length : Int) then (ogs (pcF S)).getD (tAt (pcF S) p + i.toInt.toNat) 0 else -1
def sOrg (V : SPV) (p i : Int32) : ANS := if inP V.2.1 p then (.inl (ogA V.2.1 p.toInt.toNat i), V) else (.inr eI, V)
def keA (S : SST) (p : Nat) (w : Int32) : Int32 := if S.2.1.1 = 0 then (if w = 0 then nI (pOf S p).2.2.2.2.2.1 else nI (pOf S p).2.2.2.2.2.2.1) else -1
def sKey (V : SPV) (p w : Int32) : ANS := if inP V.2.1 p then (if w = 0 ∨ w = 1 then (.inl (keA V.2.1 p.toInt.toNat w), V) else (.inr eN, V)) else (.inr eI, V)
def hlF (S : SST) (b : Int32) : Nat → Nat → Int32
  | 0, _ => -1
  | d + 1, i => if ((pOf S i).1 : Int) ≤ b.toInt ∧ b.toInt < ((pOf S i).2.1 : Int) then nI i else hlF S b d (i + 1)
def sHol (V : SPV) (b : Int32) : Int32 × SPV := (hlF V.2.1 b (pcF V.2.1).length 0, V)
def lkF (S : SST) (p : Nat) (k : Int32) : Nat → Nat → Int32 → Int32
  | 0, _, _ => -1
  | d + 1, i, m => if lkB S p i = true then (if m = k then nI i else lkF S p k d (i + 1) (m + 1)) else lkF S p k d (i + 1) m
def sLik (V : SPV) (p k : Int32) : ANS := if inP V.2.1 p then (.inl (lkF V.2.1 p.toInt.toNat k (pcF V.2.1).length 0 0), V) else (.inr eI, V)
section KQA
variable {f : AH} {n : Nat} {V : SPV}
theorem gd_takeP {L : List (BL × BL)} {i m : Nat} (h : i < m) : (L.take m).getD i ([], []) = L.getD i ([], []) := by
  rw [List.getD_eq_getElem?_getD, List.getD_eq_getElem?_getD, List.getElem?_take_of_lt h]
theorem k_at {i w : Int32} (h : RC f n V) : PQ (mX8_at 0 i w f n) (COI (sAt V i w)) := by
  obtain ⟨ag, hp⟩ := RC_p h
  have hK := h.2.2.2.1.1
  obtain ⟨⟨fr, la, e3, ⟨b, c, hr, -⟩, -⟩, -⟩ := id hK.1
  obtain ⟨qw, hb⟩ := hK.2.2.1.1
  unfold mX8_at sAt
  refine pq_eq (fun q => ?_) (fun q => ?_)
  · rw [if_pos q]
    exact pq_gR hp rfl (pq_sb (pq_gR e3 rfl (pq_sb (pq_ck (pq_is (f_get hr) (pq_ret ⟨f, n, rfl, h⟩))))))
  · rw [if_neg q]
    exact pq_gR hp rfl (pq_sb (pq_gR hb rfl (pq_sb (pq_ck (pq_is (f_get hK.2.2.2.1) (pq_ret ⟨f, n, rfl, h⟩))))))
theorem f_memL {b c : Int32} : ∀ (d : Nat) (r : List (BL × BL)) (w : Option Nat) (i a : Nat), PCH f n r w → i ≤ a → a - i < r.length → a ≤ 600 → PQ (mX8_memory_l29 d (nI a) b c w (nI i) f n) (fun y => y = (gt1 (if b = 0 then (r.getD (a - i) ([], [])).1 else (r.getD (a - i) ([], [])).2) c, f, n)) := by
  intro d
  induction d with
  | zero => intro _ _ _ _ _ _ _ _; exact pq_none
  | succ d ih =>
    intro r w i a hc hi hl ha
    cases r with
    | nil => exact absurd hl (Nat.not_lt_zero _)
    | cons p r =>
      obtain ⟨j, jt, jd, older, rfl, -, ej, ⟨b1, c1, h1, -⟩, ⟨b2, c2, h2, -⟩, hr⟩ := hc
      unfold mX8_memory_l29
      refine pq_le (nI_toInt (by omega)) (nI_toInt (by omega)) (fun q => ?_) (fun q => ?_)
      · have e : a - i = 0 := by omega
        rw [e]
        unfold mX8_memory_b53
        refine pq_oNs (pq_eq (fun q => ?_) (fun q => ?_))
        · rw [if_pos q]
          exact pq_gR ej rfl (pq_sb (pq_ck (pq_is (f_get h1) (pq_ret rfl))))
        · rw [if_neg q]
          exact pq_gR ej rfl (pq_sb (pq_ck (pq_is (f_get h2) (pq_ret rfl))))
      · refine pq_oNs (pq_gRw ej rfl ?_)
        rw [nI_1]
        have e : a - i = (a - (i + 1)) + 1 := by omega
        rw [e]
        exact ih r older (i + 1) a hr (by omega) (by have : a - i < r.length + 1 := hl; omega) ha
theorem k_mem {a b c : Int32} (h : RC f n V) : PQ (mX8_memory 0 a b c f n) (COI (sMem V a b c)) := by
  obtain ⟨ag, hp⟩ := RC_p h
  have hm12 : V.2.1.2.2.2.length ≤ 12 := h.2.2.2.1.2.2.2.1
  obtain ⟨⟨fr, la, e3, -, full, hc, hf⟩, -⟩ := id h.2.2.2.1.1.1
  unfold mX8_memory sMem
  refine pq_lt rfl kt_0 (fun q => ?_) (fun q => ?_)
  · rw [if_neg (by omega)]; exact pq_ret ⟨f, n, rfl, h⟩
  · refine pq_gR hp rfl (pq_sb (pq_gI e3 rfl (pq_lt rfl (nI_toInt (by omega)) (fun q2 => ?_) (fun q2 => ?_))))
    · obtain ⟨e1, e2⟩ := v_nI (v := a) ⟨q, q2⟩ (by omega)
      rw [if_pos ⟨q, q2⟩]
      generalize a.toInt.toNat = p at e1 e2 ⊢
      subst e1
      have hfl : V.2.1.2.2.2.length ≤ full.length := by rw [hf, List.length_take]; omega
      refine pq_gR hp rfl (pq_sb (pq_gRw e3 rfl (pq_tail (f_memL (b := b) (c := c) rFU full la 0 p hc (Nat.zero_le _) (by omega) (by omega)) (fun y hy => ?_))))
      have e : full.getD (p - 0) ([], []) = V.2.1.2.2.2.getD p ([], []) := by rw [hf]; exact (gd_takeP (by omega)).symm
      rw [e] at hy
      rw [hy]; exact ⟨f, n, rfl, h⟩
    · rw [if_neg (by omega)]; exact pq_ret ⟨f, n, rfl, h⟩
theorem f_textB {S : SST} {p : Nat} {i : Int32} (hK : KO f n S) (hp : p < (pcF S).length) : PQ (mX1_textByte 59 (some (75 + p)) i f n) (fun y => y = (gt1 (pX (pOf S p)) i, f, n)) := by
  obtain ⟨x11, ep⟩ := KO_BD hK hp
  have hT := hK.2.1.1.2.1
  have l6 := rw_6 hT
  have l1 : tAt (pcF S) p + (pX (pOf S p)).length ≤ (txs (pcF S)).length := tx_le hp
  unfold mX1_textByte gt1
  refine pq_lt rfl kt_0 (fun q => ?_) (fun q => ?_)
  · rw [if_neg (by omega)]; exact pq_ret rfl
  · refine pq_sb (pq_gI ep rfl (pq_le (nI_toInt (by omega)) rfl (fun q2 => ?_) (fun q2 => ?_)))
    · rw [if_neg (by omega)]; exact pq_ret rfl
    · obtain ⟨e1, e2⟩ := v_nI (v := i) ⟨q, q2⟩ (by omega)
      rw [if_pos ⟨q, q2⟩]
      generalize i.toInt.toNat = k at e1 e2 ⊢
      subst e1
      refine pq_gR hK.2.1.1.1.1 rfl (pq_gI ep rfl (pq_sb (pq_ck ?_)))
      rw [nI_add]
      refine pq_is (f_getN hT (i := tAt (pcF S) p + k) (by omega)) (pq_ret ?_)
      rw [tx_gd hp e2]; rfl
theorem f_nowB {S : SST} {p i hi ag pc wn fp : Int32} (hp : f 0 = some (.inr (8, pfL hi ag pc wn fp))) (hK : KO f n S) (hin : inP S p) : PQ (mX8_nowByte 0 p (some (75 + p.toInt.toNat)) i f n) (fun y => y = (gt1 (nowOf S p.toInt.toNat) i, f, n)) := by
  unfold mX8_nowByte
  refine pq_gR hp rfl (pq_sb (pq_ck (pq_call (f_toldForS (f := f) (n := n) hK.1 (inP_40 hin)) (fun y hy => ?_))))
  obtain ⟨w, rfl, hw⟩ := hy
  cases ht : S.2.2.1 p.toInt.toNat with
  | none =>
    rw [ht] at hw
    have hw : w = none := hw
    subst hw
    rw [now_n ht]
    exact pq_sb (pq_oNn (pq_gR hp rfl (pq_sb (pq_ck (pq_is (f_textB hK (tn_lt hin)) (pq_ret rfl))))))
  | some t =>
    rw [ht] at hw
    obtain ⟨j, rfl, ⟨b, c, hr, -⟩, h60⟩ := hw
    rw [now_s ht]
    exact pq_sb (pq_oNs (pq_ck (pq_is (f_get hr) (pq_ret rfl))))
theorem pq_pot {α : Type} {p : Int32} {k : (Option Nat ⊕ String) × HpN → Option α} {Q : α → Prop} (h : RC f n V) (h1 : inP V.2.1 p → PQ (k (.inl (some (75 + p.toInt.toNat)), f, n)) Q) (h2 : ¬ inP V.2.1 p → PQ (k (.inr eI, f, n)) Q) : PQ ((mX8_pieceOrThrow 0 p f n).bind k) Q := by
  obtain ⟨ag, hp⟩ := RC_p h
  have hK := h.2.2.2.1.1
  unfold mX8_pieceOrThrow
  by_cases hin : inP V.2.1 p
  · refine pq_call (Q1 := fun y => y = (.inl (some (75 + p.toInt.toNat)), f, n)) (pq_gR hp rfl (pq_sb (pq_ck (pq_is (f_cgetI hK.2.1.1.1 hin) (pq_sb (pq_oNs (pq_ret rfl))))))) (fun y hy => ?_)
    subst hy
    exact h1 hin
  · refine pq_call (Q1 := fun y => y = (.inr eI, f, n)) (pq_gR hp rfl (pq_sb (pq_ck (pq_is (f_cgetX hK.2.1.1.1 hin) (pq_sb (pq_oNn (pq_ret rfl))))))) (fun y hy => ?_)
    subst hy
    exact h2 hin
theorem k_oct {p i w : Int32} (h : RC f n V) : PQ (mX8_octet 0 p i w f n) (COK (sOct V p i w)) := by
  obtain ⟨ag, hp⟩ := RC_p h
  have hK := h.2.2.2.1.1
  unfold mX8_octet sOct
  refine pq_ck (pq_pot h (fun hin => ?_) (fun hin => ?_))
  · rw [if_pos hin, tS_l (v := some (75 + p.toInt.toNat)) rfl]
    refine pq_sb (pq_eq (fun q => ?_) (fun q => ?_))
    · rw [if_pos q]
      exact pq_gR hp rfl (pq_sb (pq_ck (pq_is (f_textB hK (tn_lt hin)) (pq_ret ⟨f, n, rfl, h⟩))))
    · rw [if_neg q]
      exact pq_ck (pq_is (f_nowB hp hK hin) (pq_ret ⟨f, n, rfl, h⟩))
  · rw [if_neg hin]; exact pq_ret ⟨f, n, rfl, h⟩
theorem k_org {p i : Int32} (h : RC f n V) : PQ (mX8_origin 0 p i f n) (COK (sOrg V p i)) := by
  obtain ⟨ag, hp⟩ := RC_p h
  have hK := h.2.2.2.1.1
  unfold mX8_origin sOrg
  refine pq_ck (pq_pot h (fun hin => ?_) (fun hin => ?_))
  · have hvN := tn_lt hin
    obtain ⟨x11, ep⟩ := KO_BD hK hvN
    have hO := hK.2.1.1.2.2.1
    have el : (ogs (pcF V.2.1)).length = (txs (pcF V.2.1)).length := hK.2.1.2.2
    have l6 := rw_6 hO
    have l1 : tAt (pcF V.2.1) p.toInt.toNat + (pX (pOf V.2.1 p.toInt.toNat)).length ≤ (txs (pcF V.2.1)).length := tx_le hvN
    rw [if_pos hin, tS_l (v := some (75 + p.toInt.toNat)) rfl]
    unfold ogA
    refine pq_sb (pq_lt rfl kt_0 (fun q => ?_) (fun q => ?_))
    · rw [if_neg (by omega)]; exact pq_ret ⟨f, n, rfl, h⟩
    · refine pq_sb (pq_gI ep rfl (pq_le (nI_toInt (by omega)) rfl (fun q2 => ?_) (fun q2 => ?_)))
      · rw [if_neg (by omega)]; exact pq_ret ⟨f, n, rfl, h⟩
      · obtain ⟨e1, e2⟩ := v_nI (v := i) ⟨q, q2⟩ (by omega)
        rw [if_pos ⟨q, q2⟩]
        generalize i.toInt.toNat = k at e1 e2 ⊢
        subst e1
        refine pq_gR hp rfl (pq_sb (pq_gR hK.2.1.1.1.1 rfl (pq_gI ep rfl (pq_sb (pq_ck ?_)))))
        rw [nI_add]
        exact pq_is (f_getN hO (i := tAt (pcF V.2.1) p.toInt.toNat + k) (by omega)) (pq_ret ⟨f, n, rfl, h⟩)
  · rw [if_neg hin]; exact pq_ret ⟨f, n, rfl, h⟩
theorem k_key {p w : Int32} (h : RC f n V) : PQ (mX8_key 0 p w f n) (COK (sKey V p w)) := by
  obtain ⟨ag, hp⟩ := RC_p h
  have hK := h.2.2.2.1.1
  obtain ⟨⟨fr, la, e3, -⟩, -⟩ := id hK.1
  unfold mX8_key sKey
  refine pq_ck (pq_pot h (fun hin => ?_) (fun hin => ?_))
  · obtain ⟨x11, ep⟩ := KO_BD hK (tn_lt hin)
    have b25 : PQ (mX8_key_b25 0 w (some (75 + p.toInt.toNat)) f n) (COK (.inl (keA V.2.1 p.toInt.toNat w), V)) := by
      unfold mX8_key_b25 keA
      refine pq_gR hp rfl (pq_sb (pq_gI e3 rfl (pq_eq (fun q => ?_) (fun q => ?_))))
      · rw [if_pos q]
        refine pq_eq (fun q2 => ?_) (fun q2 => ?_)
        · rw [if_pos q2]; exact pq_sb (pq_gI ep rfl (pq_ret ⟨f, n, rfl, h⟩))
        · rw [if_neg q2]; exact pq_sb (pq_gI ep rfl (pq_ret ⟨f, n, rfl, h⟩))
      · rw [if_neg q]; exact pq_ret ⟨f, n, rfl, h⟩
    rw [if_pos hin, tS_l (v := some (75 + p.toInt.toNat)) rfl]
    refine pq_sb (pq_eq (fun q => ?_) (fun q => pq_eq (fun q2 => ?_) (fun q2 => ?_)))
    · rw [if_pos (Or.inl q)]; exact b25
    · rw [if_pos (Or.inr q2)]; exact b25
    · rw [if_neg (fun o => o.elim q q2)]; exact pq_ret ⟨f, n, rfl, h⟩
  · rw [if_neg hin]; exact pq_ret ⟨f, n, rfl, h⟩
theorem k_hol {b : Int32} (h : RC f n V) : PQ (mX8_holder 0 b f n) (COI (sHol V b)) := by
  obtain ⟨ag, hp⟩ := RC_p h
  have hK := h.2.2.2.1.1
  have hC := hK.2.1.1.1
  have h40 : (pcF V.2.1).length ≤ 40 := pcs_40
  have key : ∀ (d e i : Nat), i + e = (pcF V.2.1).length → PQ (mX8_holder_l2 d 0 b (nI i) f n) (COI (hlF V.2.1 b e i, V)) := by
    intro d
    induction d with
    | zero => intro _ _ _; exact pq_none
    | succ d ih =>
      intro e i hi
      unfold mX8_holder_l2
      refine pq_gR hp rfl (pq_sb (pq_ck (pq_is (f_csize hC) (pq_le (nI_toInt (by omega)) (nI_toInt (by omega)) (fun q => ?_) (fun q => ?_)))))
      · obtain rfl : e = 0 := by omega
        exact pq_ret ⟨f, n, rfl, h⟩
      · obtain ⟨e, rfl⟩ : ∃ e', e = e' + 1 := ⟨e - 1, by omega⟩
        have hi' : i < (pcF V.2.1).length := by omega
        obtain ⟨x11, ep⟩ := KO_BD hK hi'
        have hord := (pcs_ord (cf := V.2.1.2.1) (L := V.2.1.1)).1 i hi'
        have h4 : V.2.1.1.length ≤ 400 := hK.1.2.2.2.2
        have l1 : (pOf V.2.1 i).2.1 ≤ 400 := Nat.le_trans hord.2.2 h4
        have l0 : (pOf V.2.1 i).1 < (pOf V.2.1 i).2.1 := hord.2.1
        have nxt : PQ (mX8_holder_b44 (fun v0 v1 v2 f n => mX8_holder_l2 d v0 v1 v2 f n) 0 b (nI i) f n) (COI (hlF V.2.1 b e (i + 1), V)) := by
          unfold mX8_holder_b44
          rw [nI_1]; exact ih e (i + 1) (by omega)
        refine pq_gR hp rfl (pq_sb (pq_ck (pq_is (f_cgetN hC hi') (pq_sb (pq_oNs (pq_gI ep rfl ?_))))))
        unfold hlF
        refine pq_lt rfl (nI_toInt (by omega)) (fun q2 => ?_) (fun q2 => pq_gI ep rfl (pq_le (nI_toInt (by omega)) rfl (fun q3 => ?_) (fun q3 => ?_)))
        · rw [if_neg (by omega)]; exact nxt
        · rw [if_neg (by omega)]; exact nxt
        · rw [if_pos ⟨q2, q3⟩]; exact pq_ret ⟨f, n, rfl, h⟩
  unfold mX8_holder sHol
  exact key rFU _ 0 (Nat.zero_add _)
theorem k_lik {p k : Int32} (h : RC f n V) : PQ (mX8_like 0 p k f n) (COK (sLik V p k)) := by
  obtain ⟨ag, hp⟩ := RC_p h
  have hK := h.2.2.2.1.1
  have hC := hK.2.1.1.1
  have h40 : (pcF V.2.1).length ≤ 40 := pcs_40
  unfold mX8_like sLik
  refine pq_ck (pq_pot h (fun hin => ?_) (fun hin => ?_))
  · have key : ∀ (d e i : Nat) (m : Int32), i + e = (pcF V.2.1).length → PQ (mX8_like_l11 d 0 p k m (nI i) f n) (COK (.inl (lkF V.2.1 p.toInt.toNat k e i m), V)) := by
      intro d
      induction d with
      | zero => intro _ _ _ _; exact pq_none
      | succ d ih =>
        intro e i m hi
        unfold mX8_like_l11
        refine pq_gR hp rfl (pq_sb (pq_ck (pq_is (f_csize hC) (pq_le (nI_toInt (by omega)) (nI_toInt (by omega)) (fun q => ?_) (fun q => ?_)))))
        · obtain rfl : e = 0 := by omega
          exact pq_ret ⟨f, n, rfl, h⟩
        · obtain ⟨e, rfl⟩ : ∃ e', e = e' + 1 := ⟨e - 1, by omega⟩
          have hi' : i < (pcF V.2.1).length := by omega
          have nxt : ∀ m : Int32, PQ (mX8_like_b47 (fun v0 v1 v2 v3 v4 f n => mX8_like_l11 d v0 v1 v2 v3 v4 f n) 0 p k m (nI i) f n) (COK (.inl (lkF V.2.1 p.toInt.toNat k e (i + 1) m), V)) := fun m => by
            unfold mX8_like_b47
            rw [nI_1]; exact ih e (i + 1) m (by omega)
          refine pq_gR hp rfl (pq_sb (pq_ck (pq_is (f_areLike (f := f) (n := n) hK.2.1 hin hi') ?_)))
          unfold lkF
          refine pq_eq (fun q2 => ?_) (fun q2 => ?_)
          · rw [if_neg (show ¬ lkB V.2.1 p.toInt.toNat i = true by rw [bI_0.mp q2]; decide)]; exact nxt m
          · rw [if_pos (show lkB V.2.1 p.toInt.toNat i = true by cases hb : lkB V.2.1 p.toInt.toNat i; exact absurd (bI_0.mpr hb) q2; rfl)]
            refine pq_eq (fun q3 => ?_) (fun q3 => ?_)
            · rw [if_pos q3]; exact pq_ret ⟨f, n, rfl, h⟩
            · rw [if_neg q3]; exact nxt (m + 1)
    rw [if_pos hin, tS_l (v := some (75 + p.toInt.toNat)) rfl]
    exact pq_sb (key rFU _ 0 0 (Nat.zero_add _))
  · rw [if_neg hin]; exact pq_ret ⟨f, n, rfl, h⟩
end KQA
end
/-! part 66d.ask -/
section
/-! questions with their answers: the reference -/
section RQA
variable {σ : RS9} {V : SPV}
theorem gt1_t {L : BL} {i : Int32} (h : 0 ≤ i.toInt ∧ i.toInt < (L.length : Int)) : gt1 L i = L.getD i.toInt.toNat 0 := if_pos h
theorem gt1_f {L : BL} {i : Int32} (h : ¬ (0 ≤ i.toInt ∧ i.toInt < (L.length : Int))) : gt1 L i = -1 := if_neg h
theorem r_inN {v : Int32} {m : Nat} (hm : m ≤ 5000) : PQ (mX9_isIn v 0 (nI m - 1) σ) (fun y => y = (bI (decide (0 ≤ v.toInt ∧ v.toInt < (m : Int))), σ)) := pq_tail r_isIn (fun y hy => by
  have e : (nI m - 1).toInt = (m : Int) - 1 := i_sub (nI_toInt (by omega)) kt_1 (by omega)
  have e2 : (0 ≤ v.toInt ∧ v.toInt ≤ (m : Int) - 1) ↔ (0 ≤ v.toInt ∧ v.toInt < (m : Int)) := by omega
  rw [hy, kt_0, e, decide_eq_decide.mpr e2])
theorem RR_pc {p : Nat} (h : RR9 σ V) (hp : p < (pcF V.2.1).length) : σ.2 34 p = nI (pOf V.2.1 p).1 ∧ σ.2 35 p = nI (pOf V.2.1 p).2.1 ∧ (V.2.1.2.1.1 = 0 → σ.2 39 p = nI (pOf V.2.1 p).2.2.2.2.2.1 ∧ σ.2 40 p = nI (pOf V.2.1 p).2.2.2.2.2.2.1) ∧ σ.2 41 p = nI (tAt (pcF V.2.1) p) ∧ σ.2 42 p = nI (pX (pOf V.2.1 p)).length := by
  obtain ⟨a34, a35, -, -, -, a39, a41, a42⟩ := h.2.1.2.2.2 p hp
  exact ⟨a34, a35, fun q => a39 (decide_eq_true q), a41, a42⟩
theorem r_at {i w : Int32} (h : RR9 σ V) (hS : SV V.2.1) : PQ (mX9_at i w σ) (RAI (sAt V i w)) := by
  have h0 := RR_f0 (x := 0) h
  have h4 := RR_4 h
  unfold mX9_at sAt
  refine pq_eq (fun q => ?_) (fun q => ?_)
  · rw [if_pos q]
    have er : rGa σ 1 (0 : Int32) = nI V.2.1.1.length := (rd_nI (k := 0) (by omega)).trans h.2.1.1.1.1.1
    refine pq_ck ?_
    rw [er]
    refine pq_isr (r_inN (by omega)) (if_01 (fun q => ?_) (fun q => ?_))
    · exact pq_ret ⟨h0, (gt1_f (of_decide_eq_false q)).symm⟩
    · have hin := of_decide_eq_true q
      obtain ⟨e1, e2⟩ := v_nI hin (by omega)
      rw [gt1_t hin]
      generalize i.toInt.toNat = k at e1 e2 ⊢
      subst e1
      refine pq_ck ?_
      have e3 : (43 : Int32) + nI k = nI (43 + k) := nI_add 43 k
      rw [e3, rd_nI (by omega)]
      exact pq_ret ⟨h0, h.2.1.1.1.2 k e2⟩
  · rw [if_neg q]
    have h6 : (bltS V.2.1).length ≤ 600 := hS.2.1
    refine pq_call (r_builds (RM_BV h0.2.1) pcs_ord (by omega) hS.1) (fun y hy => ?_)
    obtain ⟨σ', rfl, hU, g⟩ := hy
    have hR : RR9 σ' V := RR_frx h0 g (fun k hk q => by omega) (fun k hk q => by omega)
    refine pq_isr (r_inN (m := (bltS V.2.1).length) (by omega)) (if_01 (fun q => ?_) (fun q => ?_))
    · exact pq_ret ⟨hR, (gt1_f (of_decide_eq_false q)).symm⟩
    · have hin := of_decide_eq_true q
      obtain ⟨e1, e2⟩ := v_nI hin (by omega)
      rw [gt1_t hin]
      generalize i.toInt.toNat = k at e1 e2 ⊢
      subst e1
      refine pq_ck ?_
      rw [rd_nI (by omega)]
      exact pq_ret ⟨hR, hU.1 k e2⟩
theorem r_mem42 {t : BL} {a : Nat} {s0 s1 c : Int32} (hW : PW9 (σ.2 1) a t) (ha : a ≤ 5000) (es : s0 + s1 = nI a) : PQ (mX9_memory_b42 c s0 s1 σ) (fun y => y = (gt1 t c, σ)) := by
  have h60 := hW.1
  unfold mX9_memory_b42
  rw [es, rd_nI (by omega), hW.2.1]
  refine pq_ck (pq_isr (r_inN (by omega)) (if_01 (fun q => ?_) (fun q => ?_)))
  · rw [gt1_f (of_decide_eq_false q)]; exact pq_ret rfl
  · have hin := of_decide_eq_true q
    obtain ⟨e1, e2⟩ := v_nI hin (by omega)
    rw [gt1_t hin]
    generalize c.toInt.toNat = k at e1 e2 ⊢
    subst e1
    refine pq_ck ?_
    rw [nI_1, nI_add, rd_nI (by omega), hW.2.2 k e2]
    exact pq_ret rfl
theorem nI_122m {k : Nat} : (2883 : Int32) + (122 : Int32) * nI k = nI (2883 + 122 * k) := by
  have e : (122 : Int32) * nI k = nI (122 * k) := nI_mulc 122 k
  rw [e]; exact nI_add 2883 _
theorem r_mem {a b c : Int32} (h : RR9 σ V) : PQ (mX9_memory a b c σ) (RAI (sMem V a b c)) := by
  have h0 := RR_f0 (x := 0) h
  obtain ⟨p42, p12, pw⟩ := h0.2.1.1.2.2.2
  have er : rGa σ 1 (42 : Int32) = nI V.2.1.2.2.2.length := (rd_nI (k := 42) (by omega)).trans p42
  unfold mX9_memory sMem
  rw [er]
  refine pq_ck (pq_isr (r_inN (by omega)) (if_01 (fun q => ?_) (fun q => ?_)))
  · rw [if_neg (of_decide_eq_false q)]; exact pq_ret ⟨h0, rfl⟩
  · have hin := of_decide_eq_true q
    obtain ⟨e1, e2⟩ := v_nI hin (by omega)
    rw [if_pos hin]
    generalize a.toInt.toNat = k at e1 e2 ⊢
    subst e1
    obtain ⟨w1, w2⟩ := pw k e2
    rw [nI_122m]
    refine pq_eq (fun q2 => ?_) (fun q2 => ?_)
    · rw [if_pos q2]
      exact pq_tail (r_mem42 w1 (by omega) (nI_add (2883 + 122 * k) 0)) (fun y hy => by rw [hy]; exact ⟨h0, rfl⟩)
    · rw [if_neg q2]
      have e61 : nI (2883 + 122 * k) + (61 : Int32) = nI (2944 + 122 * k) := (nI_add (2883 + 122 * k) 61).trans (congrArg nI (by omega))
      exact pq_tail (r_mem42 w2 (by omega) e61) (fun y hy => by rw [hy]; exact ⟨h0, rfl⟩)
theorem r_oct {p i w : Int32} (h : RR9 σ V) : PQ (mX9_octet p i w σ) (RAN (sOct V p i w) wc_L_octet) := by
  obtain ⟨h33, h40⟩ := RM_33 h.2.1
  have h0 := RR_f0 (x := 0) h
  unfold mX9_octet sOct
  refine pq_isr (r_isPieceThere h33 h40) (if_01 (fun q => ?_) (fun q => ?_))
  · rw [if_neg (of_decide_eq_false q)]
    unfold mX9_octet_b14
    exact pq_f (show ¬ (1 : Int32) ≤ 0 by decide) (pq_ret ⟨RR_f0 h, sf_eq⟩)
  · have hin : inP V.2.1 p := of_decide_eq_true q
    rw [if_pos hin]
    obtain ⟨e1, e2⟩ := v_nI hin (by omega)
    generalize p.toInt.toNat = p' at e1 e2 ⊢
    subst e1
    have l1 : tAt (pcF V.2.1) p' + (pX (pOf V.2.1 p')).length ≤ (txs (pcF V.2.1)).length := tx_le e2
    have l6 : (txs (pcF V.2.1)).length ≤ 600 := h.2.1.2.2.1.2.1
    unfold mX9_octet_b14
    refine pq_t (show (0 : Int32) ≤ 0 by decide) (pq_eq (fun q => ?_) (fun q => ?_))
    · rw [if_pos q]
      obtain ⟨-, -, -, -, a42⟩ := RR_pc h e2
      obtain ⟨-, -, -, a41, -⟩ := RR_pc h0 e2
      refine pq_ck ?_
      rw [rd_nI (by omega), a42]
      unfold mX9_octet_b46
      refine pq_isr (r_inN (by omega)) (if_01 (fun q2 => ?_) (fun q2 => ?_))
      · exact pq_ret ⟨h0, (gt1_f (of_decide_eq_false q2)).symm, sf_eq⟩
      · have hi := of_decide_eq_true q2
        obtain ⟨e3, e4⟩ := v_nI hi (by omega)
        rw [gt1_t hi]
        generalize i.toInt.toNat = k at e3 e4 ⊢
        subst e3
        refine pq_t q (pq_ck (pq_ck ?_))
        have e5 : rGa (rSf σ 0 0) 41 (nI p') + nI k = nI (tAt (pcF V.2.1) p' + k) := by rw [rd_nI (by omega), a41, nI_add]
        have e6 : rGa (rSf σ 0 0) 43 (nI (tAt (pcF V.2.1) p' + k)) = (pX (pOf V.2.1 p')).getD k 0 := (rd_nI (by omega)).trans ((h0.2.1.2.2.1.2.2.2.1 _ (by omega)).trans (tx_gd e2 e4))
        show PQ (mX9_octet_b82 (rGa (rSf σ 0 0) 43 (rGa (rSf σ 0 0) 41 (nI p') + nI k)) (rSf σ 0 0)) _
        rw [e5, e6]
        exact pq_ret ⟨h0, rfl, sf_eq⟩
    · rw [if_neg q]
      have hl : (nowOf V.2.1 p').length ≤ 600 := by
        cases ht : V.2.1.2.2.1 p' with
        | none => rw [now_n ht]; omega
        | some t => rw [now_s ht]; have := ((h.2.1.1.2.2.1 p' (by omega)).2 t ht).1; omega
      refine pq_isr (a := nI (nowOf V.2.1 p').length) (pq_tail (r_nowMany h0.2.1.1.2.2.1 h0.2.1.2 e2) (fun y hy => by rw [hy, nw_now])) ?_
      unfold mX9_octet_b46
      refine pq_isr (r_inN (by omega)) (if_01 (fun q2 => ?_) (fun q2 => ?_))
      · exact pq_ret ⟨h0, (gt1_f (of_decide_eq_false q2)).symm, sf_eq⟩
      · have hi := of_decide_eq_true q2
        obtain ⟨e3, e4⟩ := v_nI hi (by omega)
        rw [gt1_t hi]
        generalize i.toInt.toNat = k at e3 e4 ⊢
        subst e3
        refine pq_f q (pq_isr (a := (nowOf V.2.1 p').getD k 0) (pq_tail (r_nowByte h0.2.1.1.2.2.1 h0.2.1.2 e2 (by rw [nw_now]; exact e4)) (fun y hy => by rw [hy, nw_now])) ?_)
        exact pq_ret ⟨h0, rfl, sf_eq⟩
theorem r_org {p i : Int32} (h : RR9 σ V) : PQ (mX9_origin p i σ) (RAN (sOrg V p i) wc_L_origin) := by
  obtain ⟨h33, h40⟩ := RM_33 h.2.1
  have h0 := RR_f0 (x := 0) h
  unfold mX9_origin sOrg
  refine pq_isr (r_isPieceThere h33 h40) (if_01 (fun q => ?_) (fun q => ?_))
  · rw [if_neg (of_decide_eq_false q)]
    unfold mX9_origin_b14
    exact pq_f (show ¬ (1 : Int32) ≤ 0 by decide) (pq_ret ⟨RR_f0 h, sf_eq⟩)
  · have hin : inP V.2.1 p := of_decide_eq_true q
    rw [if_pos hin]
    obtain ⟨e1, e2⟩ := v_nI hin (by omega)
    generalize p.toInt.toNat = p' at e1 e2 ⊢
    subst e1
    have l1 : tAt (pcF V.2.1) p' + (pX (pOf V.2.1 p')).length ≤ (txs (pcF V.2.1)).length := tx_le e2
    have l6 : (txs (pcF V.2.1)).length ≤ 600 := h.2.1.2.2.1.2.1
    have el : (ogs (pcF V.2.1)).length = (txs (pcF V.2.1)).length := h.2.1.2.2.1.2.2.1
    obtain ⟨-, -, -, -, a42⟩ := RR_pc h e2
    obtain ⟨-, -, -, a41, -⟩ := RR_pc h0 e2
    unfold mX9_origin_b14 ogA
    refine pq_t (show (0 : Int32) ≤ 0 by decide) (pq_ck ?_)
    rw [rd_nI (by omega), a42]
    refine pq_isr (r_inN (by omega)) (if_01 (fun q2 => ?_) (fun q2 => ?_))
    · rw [if_neg (of_decide_eq_false q2)]
      exact pq_ret ⟨h0, rfl, sf_eq⟩
    · have hi := of_decide_eq_true q2
      obtain ⟨e3, e4⟩ := v_nI hi (by omega)
      rw [if_pos hi]
      generalize i.toInt.toNat = k at e3 e4 ⊢
      subst e3
      refine pq_ck (pq_ck ?_)
      have e5 : rGa (rSf σ 0 0) 41 (nI p') + nI k = nI (tAt (pcF V.2.1) p' + k) := by rw [rd_nI (by omega), a41, nI_add]
      have e6 : rGa (rSf σ 0 0) 44 (nI (tAt (pcF V.2.1) p' + k)) = (ogs (pcF V.2.1)).getD (tAt (pcF V.2.1) p' + k) 0 := (rd_nI (by omega)).trans (h0.2.1.2.2.1.2.2.2.2 _ (by omega))
      show PQ (mX9_origin_b59 (rGa (rSf σ 0 0) 44 (rGa (rSf σ 0 0) 41 (nI p') + nI k)) (rSf σ 0 0)) _
      rw [e5, e6]
      exact pq_ret ⟨h0, rfl, sf_eq⟩
theorem in_01 {w : Int32} : (0 ≤ w.toInt ∧ w.toInt ≤ 1) ↔ (w = 0 ∨ w = 1) := by
  constructor
  · intro h
    by_cases q : w.toInt = 0
    · exact Or.inl (Int32.toInt_inj.mp (q.trans kt_0.symm))
    · exact Or.inr (Int32.toInt_inj.mp ((show w.toInt = 1 by omega).trans kt_1.symm))
  · rintro (rfl | rfl)
    · rw [kt_0]; omega
    · rw [kt_1]; omega
theorem r_key {p w : Int32} (h : RR9 σ V) : PQ (mX9_key p w σ) (RAN (sKey V p w) wc_L_key) := by
  obtain ⟨h33, h40⟩ := RM_33 h.2.1
  have h0 := RR_f0 (x := 0) h
  unfold mX9_key sKey
  refine pq_isr (r_isPieceThere h33 h40) (if_01 (fun q => ?_) (fun q => ?_))
  · rw [if_neg (of_decide_eq_false q)]
    unfold mX9_key_b27
    exact pq_f (show ¬ (1 : Int32) ≤ 0 by decide) (pq_ret ⟨RR_f0 h, sf_eq⟩)
  · have hin : inP V.2.1 p := of_decide_eq_true q
    rw [if_pos hin]
    obtain ⟨e1, e2⟩ := v_nI hin (by omega)
    generalize p.toInt.toNat = p' at e1 e2 ⊢
    subst e1
    obtain ⟨-, -, a39, -, -⟩ := RR_pc h e2
    have ek : rGa σ 1 (1 : Int32) = V.2.1.2.1.1 := (rd_nI (k := 1) (by omega)).trans h.2.1.1.2.1.1
    unfold mX9_key_b27
    refine pq_isr r_isIn (if_01 (fun q2 => ?_) (fun q2 => ?_))
    · have q2 := of_decide_eq_false q2
      rw [kt_0, kt_1] at q2
      rw [if_neg (fun o => q2 (in_01.mpr o))]
      exact pq_f (show ¬ (2 : Int32) ≤ 0 by decide) (pq_ret ⟨RR_f0 h, sf_eq⟩)
    · have q2 := of_decide_eq_true q2
      rw [kt_0, kt_1] at q2
      rw [if_pos (in_01.mp q2)]
      unfold keA
      refine pq_t (show (0 : Int32) ≤ 0 by decide) (pq_ck ?_)
      rw [ek]
      refine pq_eq (fun q3 => ?_) (fun q3 => ?_)
      · obtain ⟨b39, b40⟩ := a39 q3
        rw [if_pos q3]
        refine pq_eq (fun q4 => ?_) (fun q4 => ?_)
        · rw [if_pos q4, rd_nI (by omega), b39]
          exact pq_ck (pq_ret ⟨h0, rfl, sf_eq⟩)
        · rw [if_neg q4, rd_nI (by omega), b40]
          exact pq_ck (pq_ret ⟨h0, rfl, sf_eq⟩)
      · rw [if_neg q3]; exact pq_ret ⟨h0, rfl, sf_eq⟩
theorem r_hol {b : Int32} (h : RR9 σ V) : PQ (mX9_holder b σ) (RAI (sHol V b)) := by
  have h0 := RR_f0 (x := 0) h
  obtain ⟨h33, h40⟩ := RM_33 h0.2.1
  unfold mX9_holder sHol
  generalize rSf σ 0 0 = s at h0 h33
  have key : ∀ (d e i : Nat), i + e = (pcF V.2.1).length → PQ (mX9_holder_l7 d b (nI i) s) (RAI (hlF V.2.1 b e i, V)) := by
    intro d
    induction d with
    | zero => intro _ _ _; exact pq_none
    | succ d ih =>
      intro e i hi
      unfold mX9_holder_l7
      rw [h33]
      refine pq_le (nI_toInt (by omega)) (nI_toInt (by omega)) (fun q => ?_) (fun q => ?_)
      · obtain rfl : e = 0 := by omega
        exact pq_ret ⟨h0, rfl⟩
      · obtain ⟨e, rfl⟩ : ∃ e', e = e' + 1 := ⟨e - 1, by omega⟩
        have hi' : i < (pcF V.2.1).length := by omega
        obtain ⟨a34, a35, -⟩ := RR_pc h0 hi'
        have hord := (pcs_ord (cf := V.2.1.2.1) (L := V.2.1.1)).1 i hi'
        have h4 : V.2.1.1.length ≤ 400 := RR_4 h0
        have l1 : (pOf V.2.1 i).2.1 ≤ 400 := Nat.le_trans hord.2.2 h4
        have l0 : (pOf V.2.1 i).1 < (pOf V.2.1 i).2.1 := hord.2.1
        rw [rd_nI (by omega), rd_nI (by omega), a34, a35]
        refine pq_ck (pq_ck (pq_isr r_isIn ?_))
        have e1 : (nI (pOf V.2.1 i).2.1 - 1).toInt = ((pOf V.2.1 i).2.1 : Int) - 1 := i_sub (nI_toInt (by omega)) kt_1 (by omega)
        rw [nI_toInt (by omega), e1]
        unfold hlF
        refine if_01 (fun q2 => ?_) (fun q2 => ?_)
        · have q2 := of_decide_eq_false q2
          rw [if_neg (by omega), nI_1]
          exact ih e (i + 1) (by omega)
        · have q2 := of_decide_eq_true q2
          rw [if_pos (by omega)]
          exact pq_ret ⟨h0, rfl⟩
  exact key rFU _ 0 (Nat.zero_add _)
theorem r_lik {p k : Int32} (h : RR9 σ V) : PQ (mX9_like p k σ) (RAN (sLik V p k) wc_L_like) := by
  obtain ⟨h33, h40⟩ := RM_33 h.2.1
  unfold mX9_like sLik
  refine pq_isr (r_isPieceThere h33 h40) (if_01 (fun q => ?_) (fun q => ?_))
  · rw [if_neg (of_decide_eq_false q)]
    unfold mX9_like_b14
    exact pq_f (show ¬ (1 : Int32) ≤ 0 by decide) (pq_ret ⟨RR_f0 h, sf_eq⟩)
  · have hin : inP V.2.1 p := of_decide_eq_true q
    rw [if_pos hin]
    obtain ⟨e1, e2⟩ := v_nI hin (by omega)
    generalize p.toInt.toNat = p' at e1 e2 ⊢
    subst e1
    unfold mX9_like_b14
    refine pq_t (show (0 : Int32) ≤ 0 by decide) ?_
    have h0 := RR_f0 (x := 0) h
    have hz : (rSf σ 0 0).1 0 = 0 := sf_eq
    generalize rSf σ 0 0 = s at h0 hz
    obtain ⟨h33, -⟩ := RM_33 h0.2.1
    have key : ∀ (d e i : Nat) (m : Int32), i + e = (pcF V.2.1).length → PQ (mX9_like_l31 d (nI p') k m (nI i) s) (RAN (.inl (lkF V.2.1 p' k e i m), V) wc_L_like) := by
      intro d
      induction d with
      | zero => intro _ _ _ _; exact pq_none
      | succ d ih =>
        intro e i m hi
        unfold mX9_like_l31
        rw [h33]
        refine pq_le (nI_toInt (by omega)) (nI_toInt (by omega)) (fun q => ?_) (fun q => ?_)
        · obtain rfl : e = 0 := by omega
          exact pq_ret ⟨h0, rfl, hz⟩
        · obtain ⟨e, rfl⟩ : ∃ e', e = e' + 1 := ⟨e - 1, by omega⟩
          have hi' : i < (pcF V.2.1).length := by omega
          have nxt : ∀ m : Int32, PQ (mX9_like_b64 (fun v1 v2 v3 v4 σ => mX9_like_l31 d v1 v2 v3 v4 σ) (nI p') k m (nI i) s) (RAN (.inl (lkF V.2.1 p' k e (i + 1) m), V) wc_L_like) := fun m => by
            unfold mX9_like_b64
            rw [nI_1]; exact ih e (i + 1) m (by omega)
          refine pq_isr (a := bI (lkB V.2.1 p' i)) (r_areLike h0.2.1.2 e2 hi') ?_
          unfold lkF
          refine if_01 (fun q2 => ?_) (fun q2 => ?_)
          · rw [if_neg (by rw [q2]; decide)]; exact nxt m
          · rw [if_pos q2]
            refine pq_eq (fun q3 => ?_) (fun q3 => ?_)
            · rw [if_pos q3]; exact pq_ret ⟨h0, rfl, hz⟩
            · rw [if_neg q3]; exact nxt (m + 1)
    exact key rFU _ 0 0 (Nat.zero_add _)
end RQA
end
/-! part 66e.found -/
section
/-! found: which pieces hold the word -/
def swB (T : BL) (a : Nat) (W : BL) : Nat → Nat → Bool
  | 0, _ => true
  | d + 1, i => decide (low (T.getD (a + i) 0) = W.getD i 0) && swB T a W d (i + 1)
def hwB (T W : BL) : Nat → Nat → Bool
  | 0, _ => false
  | d + 1, i => swB T i W W.length 0 || hwB T W d (i + 1)
def hwd (T W : BL) : Bool := hwB T W (T.length + 1 - W.length) 0
def fnB (S : SST) (W : BL) : Nat → Nat → Int64 → Int64
  | 0, _, a => a
  | d + 1, i, a => if hwd (nowOf S i) W = true then fnB S W d (i + 1) (a ||| ((1 : Int64) <<< ((nI i).toInt64 &&& 63))) else fnB S W d (i + 1) a
def sFnd (V : SPV) : (Int64 ⊕ String) × SPV := if isWd V.1 = true then (.inl (fnB V.2.1 V.1 (pcF V.2.1).length 0 0), noT V) else (.inr eA, noT V)
def COG {α : Type} (s : (α ⊕ String) × SPV) (y : (α ⊕ String) × HpN) : Prop := ∃ f' n', y = (s.1, f', n') ∧ RC f' n' s.2
def RAG {α : Type} (s : (α ⊕ String) × SPV) (cd : String → Int32) (y : α × RS9) : Prop := RR9 y.2 s.2 ∧ match s.1 with
  | .inl v => y.1 = v ∧ y.2.1 0 = 0
  | .inr E => y.2.1 0 = cd E
section OPG
variable {α : Type} {F : AH} {n : Nat} {σ : RS9}
theorem op_twg {cv : α → Int64} {o : Option ((α ⊕ String) × HpN)} {o' : Option (α × RS9)} {xs : String → Prop} {S : SPV → (α ⊕ String) × SPV} {cd : String → Int32} (hI : INW F n σ) (h : ∃ r r' g0, o = some r ∧ (∀ E : String, r.1 = .inr E → xs E) ∧ r.2.1 223 = oCell g0 ∧ o' = some r' ∧ ∀ g : Nat → Int64, va_up r.2.1 223 (oCell g) = rHm (va_up r.2.1 223 (oCell g)) σ ∧ ∀ n', r.2.2 ≤ n' → INV (rHm (va_up r.2.1 223 (oCell g)) r'.2) n' r'.2) (hk : ∀ V, RC F n V → PQ o (COG (S V))) (hr : ∀ V, RR9 σ V → SV V.2.1 → PQ o' (RAG (S V) cd)) (hx : ∀ E, xs E → cd E ≠ 0) : ∃ r r' g0, o = some r ∧ (∀ E : String, r.1 = .inr E → xs E) ∧ r.2.1 223 = oCell g0 ∧ o' = some r' ∧ CMPT cv cd r.1 (cv r'.1) (r'.2.1 0) ∧ ∀ g : Nat → Int64, va_up r.2.1 223 (oCell g) = rHm (va_up r.2.1 223 (oCell g)) σ ∧ ∀ n', r.2.2 ≤ n' → INW (rHm (va_up r.2.1 223 (oCell g)) r'.2) n' r'.2 := by
  have cg : ∀ {s : (α ⊕ String) × SPV} {y : (α ⊕ String) × HpN}, COG s y → RC y.2.1 y.2.2 s.2 ∧ y.1 = s.1 := fun h => by
    obtain ⟨f', n', rfl, h1⟩ := h
    exact ⟨h1, rfl⟩
  obtain ⟨r, r', g0, e, hE, hg, e', h1⟩ := op_tf (S := fun V => (S V).2) hI h (fun V hC => pq_tail (hk V hC) (fun y hy => (cg hy).1)) (fun V hR hS => pq_tail (hr V hR hS) (fun y hy => hy.1))
  obtain ⟨-, V, hC, hR⟩ := hI
  refine ⟨r, r', g0, e, hE, hg, e', ?_, h1⟩
  have k := (cg (hk V hC r e)).2
  have q := (hr V hR (RC_SV hC) r' e').2
  cases hs : (S V).1 with
  | inl v =>
    rw [hs] at q k
    rw [k]
    exact ⟨q.2, by rw [q.1]⟩
  | inr E =>
    rw [hs] at q k
    have k2 := hE E k
    rw [k]
    exact ⟨q, hx E k2⟩
end OPG
section FNK
variable {f : AH} {n : Nat} {V : SPV} {T W R : BL} {j b c j1 b1 c1 o : Nat}
theorem f_hasSm {a : Nat} (hr : isRw f j b c R) (hw : isRw f j1 b1 c1 W) (hT : ∀ k, k < T.length → R.getD (o + k) 0 = T.getD k 0) (ho : o + T.length ≤ R.length) (ha : a + W.length ≤ T.length) : ∀ d e i, i + e = W.length → PQ (mX5_hasSmall_l2 d j (nI (o + a)) (some j1) (nI i) f n) (fun y => y = (bI (swB T a W e i), f, n)) := by
  have l1 := rw_6 hr
  have l2 := rw_6 hw
  intro d
  induction d with
  | zero => intro _ _ _; exact pq_none
  | succ d ih =>
    intro e i hi
    unfold mX5_hasSmall_l2
    refine pq_sb (pq_ck (pq_is (f_size hw) (pq_le (nI_toInt (by omega)) (nI_toInt (by omega)) (fun q => ?_) (fun q => ?_))))
    · obtain rfl : e = 0 := by omega
      exact pq_ck (pq_ret rfl)
    · obtain ⟨e, rfl⟩ : ∃ e', e = e' + 1 := ⟨e - 1, by omega⟩
      have eg : R.getD (o + a + i) 0 = T.getD (a + i) 0 := by rw [Nat.add_assoc]; exact hT _ (by omega)
      have es : swB T a W (e + 1) i = (decide (low (T.getD (a + i) 0) = W.getD i 0) && swB T a W e (i + 1)) := rfl
      rw [nI_add]
      refine pq_ck (pq_is (f_getN hr (i := o + a + i) (by omega)) (pq_is (f_small (f := f) (n := n)) (pq_ck (pq_is (f_getN hw (i := i) (by omega)) ?_))))
      rw [eg, es]
      refine pq_eq (fun q2 => ?_) (fun q2 => ?_)
      · rw [decide_eq_true q2, Bool.true_and, nI_1]
        exact ih e (i + 1) (by omega)
      · rw [decide_eq_false q2, Bool.false_and]
        exact pq_ck (pq_ret rfl)
theorem f_hasWd5 (hr : isRw f j b c R) (hw : isRw f j1 b1 c1 W) (hT : ∀ k, k < T.length → R.getD (o + k) 0 = T.getD k 0) (ho : o + T.length ≤ R.length) : PQ (mX5_hasWord j (nI o) (nI T.length) (some j1) f n) (fun y => y = (bI (hwd T W), f, n)) := by
  have l1 := rw_6 hr
  have l2 := rw_6 hw
  have key : ∀ d e i, i ≤ T.length + 1 → e = T.length + 1 - W.length - i → PQ (mX5_hasWord_l3 d j (nI o) (nI T.length) (some j1) (nI (o + i)) f n) (fun y => y = (bI (hwB T W e i), f, n)) := by
    intro d
    induction d with
    | zero => intro _ _ _ _; exact pq_none
    | succ d ih =>
      intro e i hi he
      unfold mX5_hasWord_l3
      have e1 : ((nI o + nI T.length) - nI W.length).toInt = (o : Int) + T.length - W.length := i_sub (i_add (nI_toInt (by omega)) (nI_toInt (by omega)) (by omega)) (nI_toInt (by omega)) (by omega)
      refine pq_sb (pq_ck (pq_is (f_size hw) (pq_lt e1 (nI_toInt (by omega)) (fun q => ?_) (fun q => ?_))))
      · obtain rfl : e = 0 := by omega
        exact pq_ck (pq_ret rfl)
      · obtain ⟨e, rfl⟩ : ∃ e', e = e' + 1 := ⟨e - 1, by omega⟩
        have es : hwB T W (e + 1) i = (swB T i W W.length 0 || hwB T W e (i + 1)) := rfl
        refine pq_ck (pq_is (f_hasSm (f := f) (n := n) hr hw hT ho (a := i) (by omega) rFU W.length 0 (Nat.zero_add _)) ?_)
        rw [es]
        cases hb : swB T i W W.length 0 with
        | false =>
          rw [Bool.false_or]
          refine pq_t rfl ?_
          rw [nI_1]
          exact ih e (i + 1) (by omega) (by omega)
        | true =>
          exact pq_f (show ¬ (1 : Int32) = 0 by decide) (pq_ck (pq_ret rfl))
  unfold mX5_hasWord hwd
  exact key rFU _ 0 (by omega) rfl
theorem f_cg75 {S : SST} {i : Nat} (hK : KO f n S) (hi : i < (pcF S).length) : PQ (mX1_get 59 (nI i) f n) (fun y => y = (some (75 + i), f, n)) := pq_tail (f_cgetN hK.2.1.1.1 hi) (fun y hy => by rw [hy, show 59 + 16 + i = 75 + i by omega])
theorem f_hasWd8 {S : SST} {i jw : Nat} {hi ag pc wn fp : Int32} (hp : f 0 = some (.inr (8, pfL hi ag pc wn fp))) (hK : KO f n S) (hw : isRw f jw b1 c1 W) (hi' : i < (pcF S).length) : PQ (mX8_hasWord 0 (nI i) (some jw) f n) (fun y => y = (bI (hwd (nowOf S i) W), f, n)) := by
  have h40 : (pcF S).length ≤ 40 := pcs_40
  obtain ⟨x11, ep⟩ := KO_BD hK hi'
  have e64 : ∀ x : Int32, x = bI (hwd (nowOf S i) W) → PQ (mX8_hasWord_b64 x f n) (fun y => y = (bI (hwd (nowOf S i) W), f, n)) := fun x hx => pq_ck (pq_ret (by rw [hx]))
  unfold mX8_hasWord
  refine pq_gR hp rfl (pq_sb (pq_ck (pq_is (f_cg75 hK hi') (pq_sb (pq_oNs (pq_gR hp rfl (pq_sb (pq_ck (pq_call (f_toldForS (f := f) (n := n) (v := nI i) hK.1 (by rw [nI_toInt (by omega)]; omega)) (fun y hy => ?_))))))))))
  obtain ⟨w, rfl, hwO⟩ := hy
  rw [nI_tn (by omega)] at hwO
  cases ht : S.2.2.1 i with
  | none =>
    rw [ht] at hwO
    have hwO : w = none := hwO
    subst hwO
    have hT := hK.2.1.1.2.1
    refine pq_sb (pq_oNn (pq_gR hp rfl (pq_sb (pq_gR hK.2.1.1.1.1 rfl (pq_gI ep rfl (pq_gI ep rfl (pq_sb (pq_ck (pq_is (f_hasWd5 (T := pX (pOf S i)) (o := tAt (pcF S) i) hT hw (fun k hk => tx_gd hi' hk) (tx_le hi')) (e64 _ ?_))))))))))
    rw [now_n ht]
  | some t =>
    rw [ht] at hwO
    obtain ⟨j, rfl, ⟨b, c, hr, -⟩, h60⟩ := hwO
    refine pq_sb (pq_oNs (pq_ck (pq_is (f_size hr) (pq_ck (pq_is (f_hasWd5 (T := t) (o := 0) hr hw (fun k hk => by rw [Nat.zero_add]) (by omega)) (e64 _ ?_))))))
    rw [now_s ht]
theorem k_fnd (h : RC f n V) : PQ (mX8_found 0 f n) (COG (sFnd V)) := by
  unfold mX8_found sFnd
  refine pq_ck (pq_call (f_takeWord h) (fun y hy => ?_))
  obtain ⟨f1, n1, h1, hc⟩ := hy
  rcases hc with ⟨hw, j, rfl, ⟨b, c, r, -⟩⟩ | ⟨hw, rfl⟩
  · rw [if_pos hw]
    obtain ⟨ag, hp⟩ := RC_p h1
    have hK : KO f1 n1 V.2.1 := h1.2.2.2.1.1
    have h40 : (pcF V.2.1).length ≤ 40 := pcs_40
    have key : ∀ (d e i : Nat) (a : Int64), i + e = (pcF V.2.1).length → PQ (mX8_found_l24 d 0 (some j) a (nI i) f1 n1) (COG (.inl (fnB V.2.1 V.1 e i a), noT V)) := by
      intro d
      induction d with
      | zero => intro _ _ _ _; exact pq_none
      | succ d ih =>
        intro e i a hi
        unfold mX8_found_l24 mX8_found_b53
        refine pq_gR hp rfl (pq_sb (pq_ck (pq_is (f_csize hK.2.1.1.1) (pq_le (nI_toInt (by omega)) (nI_toInt (by omega)) (fun q => ?_) (fun q => ?_)))))
        · obtain rfl : e = 0 := by omega
          exact pq_ret ⟨f1, n1, rfl, h1⟩
        · obtain ⟨e, rfl⟩ : ∃ e', e = e' + 1 := ⟨e - 1, by omega⟩
          refine pq_ck (pq_is (f_hasWd8 (f := f1) (n := n1) hp hK r (show i < (pcF V.2.1).length by omega)) ?_)
          unfold fnB
          cases hb : hwd (nowOf V.2.1 i) V.1 with
          | false =>
            rw [if_neg Bool.false_ne_true]
            refine pq_t rfl ?_
            rw [nI_1]; exact ih e (i + 1) a (by omega)
          | true =>
            rw [if_pos rfl]
            refine pq_f (show ¬ (1 : Int32) = 0 by decide) ?_
            rw [nI_1]; exact ih e (i + 1) _ (by omega)
    exact pq_sb (pq_oNs (key rFU _ 0 0 (Nat.zero_add _)))
  · rw [if_neg (by rw [hw]; exact Bool.false_ne_true)]
    exact pq_sb (pq_oNn (pq_ret ⟨f1, n1, rfl, h1⟩))
end FNK
section FNR
variable {σ : RS9} {V : SPV} {T W : BL}
theorem if_01g {β : Type} {b : Bool} {A B : Option β} {Q : β → Prop} (h1 : b = false → PQ A Q) (h2 : b = true → PQ B Q) : PQ (if bI b = 0 then A else B) Q := by
  cases b with
  | false => exact pq_t rfl (h1 rfl)
  | true => exact pq_f (show ¬ (1 : Int32) = 0 by decide) (h2 rfl)
theorem isWd_le8 (h : isWd T = true) : T.length ≤ 8 := by
  unfold isWd at h
  rw [Bool.and_eq_true, Bool.and_eq_true] at h
  exact of_decide_eq_true h.1.2
theorem r_hasSm {p a : Nat} {rec2 : Int32 → Int32 → Int32 → RS9 → Option (Int32 × RS9)} {Q : Int32 × RS9 → Prop} (hB : ∀ k, k < T.length → PQ (mX9_nowByte (nI p) (nI k) σ) (fun y => y = (T.getD k 0, σ))) (h8 : RLs σ 8 W) (hT : T.length ≤ 600) (ha : a + W.length ≤ T.length) (h1 : swB T a W W.length 0 = true → Q (1, σ)) (h0 : swB T a W W.length 0 = false → PQ (rec2 (nI p) (nI W.length) (nI (a + 1)) σ) Q) : PQ (mX9_hasWord_l19 rec2 rFU (nI p) (nI W.length) (nI a) 1 0 σ) Q := by
  have k0 : PQ (rec2 (nI p) (nI W.length) (nI (a + 1)) σ) Q → ∀ d i, PQ (mX9_hasWord_l19 rec2 d (nI p) (nI W.length) (nI a) 0 i σ) Q := by
    intro hh d i
    cases d with
    | zero => exact pq_none
    | succ d =>
      unfold mX9_hasWord_l19 mX9_hasWord_b86
      rw [nI_1]
      exact pq_ite (pq_t rfl hh) (pq_t rfl (pq_t rfl hh))
  have key : ∀ d e i, i + e = W.length → (swB T a W e i = true → Q (1, σ)) → (swB T a W e i = false → PQ (rec2 (nI p) (nI W.length) (nI (a + 1)) σ) Q) → PQ (mX9_hasWord_l19 rec2 d (nI p) (nI W.length) (nI a) 1 (nI i) σ) Q := by
    intro d
    induction d with
    | zero => intro _ _ _ _ _; exact pq_none
    | succ d ih =>
      intro e i hi g1 g0
      unfold mX9_hasWord_l19
      refine pq_le (nI_toInt (by omega)) (nI_toInt (by omega)) (fun q => ?_) (fun q => ?_)
      · obtain rfl : e = 0 := by omega
        unfold mX9_hasWord_b86
        exact pq_f (show ¬ (1 : Int32) = 0 by decide) (pq_ck (pq_ret (g1 rfl)))
      · obtain ⟨e, rfl⟩ : ∃ e', e = e' + 1 := ⟨e - 1, by omega⟩
        have es : swB T a W (e + 1) i = (decide (low (T.getD (a + i) 0) = W.getD i 0) && swB T a W e (i + 1)) := rfl
        rw [es] at g1 g0
        have e8 : rGa σ 8 (nI i) = W.getD i 0 := (rd_nI (by omega)).trans (h8 i (by omega))
        have b70 : ∀ s : Int32, s = low (T.getD (a + i) 0) → PQ (mX9_hasWord_b70 rec2 (fun v1 v2 v3 v4 v5 σ => mX9_hasWord_l19 rec2 d v1 v2 v3 v4 v5 σ) (nI p) (nI W.length) (nI a) (nI i) (W.getD i 0) s σ) Q := fun s hs => by
          subst hs
          unfold mX9_hasWord_b70 mX9_hasWord_b78
          refine pq_eq (fun q2 => ?_) (fun q2 => ?_)
          · rw [decide_eq_true q2.symm, Bool.true_and] at g1 g0
            rw [nI_1]
            exact ih e (i + 1) (by omega) g1 g0
          · rw [decide_eq_false (fun x => q2 x.symm), Bool.false_and] at g0
            exact k0 (g0 rfl) d _
        refine pq_f (show ¬ (1 : Int32) = 0 by decide) ?_
        rw [nI_add]
        refine pq_isr (hB (a + i) (by omega)) (pq_ck (pq_isr r_isIn ?_))
        rw [kt_65, kt_90, e8]
        refine if_01 (fun q2 => b70 _ ?_) (fun q2 => b70 _ ?_)
        · exact (if_neg (of_decide_eq_false q2)).symm
        · exact (if_pos (of_decide_eq_true q2)).symm
  exact key rFU W.length 0 (Nat.zero_add _) h1 h0
theorem r_hasWd {p : Nat} (h : RR9 σ V) (h8 : RLs σ 8 W) (hW : W.length ≤ 8) (hp : p < (pcF V.2.1).length) : PQ (mX9_hasWord (nI p) (nI W.length) σ) (fun y => y = (bI (hwd (nowOf V.2.1 p) W), σ)) := by
  have h40 : (pcF V.2.1).length ≤ 40 := pcs_40
  have hl : (nowOf V.2.1 p).length ≤ 600 := by
    cases ht : V.2.1.2.2.1 p with
    | none => rw [now_n ht]; have := tx_le hp; have := h.2.1.2.2.1.2.1; show (pX ((pcF V.2.1).getD p pc0)).length ≤ 600; omega
    | some t => rw [now_s ht]; have := ((h.2.1.1.2.2.1 p (by omega)).2 t ht).1; omega
  have hB : ∀ k, k < (nowOf V.2.1 p).length → PQ (mX9_nowByte (nI p) (nI k) σ) (fun y => y = ((nowOf V.2.1 p).getD k 0, σ)) := fun k hk => pq_tail (r_nowByte h.2.1.1.2.2.1 h.2.1.2 hp (by rw [nw_now]; exact hk)) (fun y hy => by rw [hy, nw_now])
  have hM : PQ (mX9_nowMany (nI p) σ) (fun y => y = (nI (nowOf V.2.1 p).length, σ)) := pq_tail (r_nowMany h.2.1.1.2.2.1 h.2.1.2 hp) (fun y hy => by rw [hy, nw_now])
  unfold hwd
  generalize nowOf V.2.1 p = T at hl hB hM ⊢
  have key : ∀ d e a, a ≤ T.length + 1 → e = T.length + 1 - W.length - a → PQ (mX9_hasWord_l2 d (nI p) (nI W.length) (nI a) σ) (fun y => y = (bI (hwB T W e a), σ)) := by
    intro d
    induction d with
    | zero => intro _ _ _ _; exact pq_none
    | succ d ih =>
      intro e a ha he
      unfold mX9_hasWord_l2
      rw [nI_add]
      refine pq_isr hM (pq_lt (nI_toInt (by omega)) (nI_toInt (by omega)) (fun q => ?_) (fun q => ?_))
      · obtain rfl : e = 0 := by omega
        exact pq_ck (pq_ret rfl)
      · obtain ⟨e, rfl⟩ : ∃ e', e = e' + 1 := ⟨e - 1, by omega⟩
        have es : hwB T W (e + 1) a = (swB T a W W.length 0 || hwB T W e (a + 1)) := rfl
        rw [es]
        refine r_hasSm (p := p) (a := a) hB h8 hl (by omega) (fun hb => ?_) (fun hb => ?_)
        · rw [hb]; rfl
        · rw [hb, Bool.false_or]; exact ih e (a + 1) (by omega) (by omega)
  unfold mX9_hasWord
  exact key rFU _ 0 (by omega) rfl
theorem r_fnd (h : RR9 σ V) : PQ (mX9_found σ) (RAG (sFnd V) wc_L_found) := by
  have h1 := RR_tape0 h
  unfold mX9_found sFnd
  refine pq_isr (r_took h) (pq_isr (r_isWord (T := V.1) h.1.2.2 h.1.2.1) ?_)
  unfold mX9_found_b19
  refine if_01g (fun q => ?_) (fun q => ?_)
  · rw [if_neg (show ¬ isWd V.1 = true by rw [q]; exact Bool.false_ne_true)]
    exact pq_f (show ¬ (1 : Int32) ≤ 0 by decide) (pq_ret ⟨RR_f0 h1, sf_eq⟩)
  · rw [if_pos q]
    refine pq_t (show (0 : Int32) ≤ 0 by decide) ?_
    have h0 := RR_f0 (x := 0) h1
    have hz : (rSf (rSf σ 9 0) 0 0).1 0 = 0 := sf_eq
    have h8 : RLs (rSf (rSf σ 9 0) 0 0) 8 V.1 := h.1.2.2
    have hW : V.1.length ≤ 8 := isWd_le8 q
    generalize rSf (rSf σ 9 0) 0 0 = s at h0 hz h8
    obtain ⟨h33, h40⟩ := RM_33 h0.2.1
    have h33 : s.1 33 = nI (pcF V.2.1).length := h33
    have h40 : (pcF V.2.1).length ≤ 40 := h40
    have key : ∀ (d e i : Nat) (a : Int64), i + e = (pcF V.2.1).length → PQ (mX9_found_l36 d (nI V.1.length) a (nI i) s) (RAG (.inl (fnB V.2.1 V.1 e i a), noT V) wc_L_found) := by
      intro d
      induction d with
      | zero => intro _ _ _ _; exact pq_none
      | succ d ih =>
        intro e i a hi
        unfold mX9_found_l36 mX9_found_b64
        rw [h33]
        refine pq_le (nI_toInt (by omega)) (nI_toInt (by omega)) (fun q => ?_) (fun q => ?_)
        · obtain rfl : e = 0 := by omega
          exact pq_ret ⟨h0, rfl, hz⟩
        · obtain ⟨e, rfl⟩ : ∃ e', e = e' + 1 := ⟨e - 1, by omega⟩
          refine pq_isr (a := bI (hwd (nowOf V.2.1 i) V.1)) (r_hasWd (V := noT V) h0 h8 hW (show i < (pcF (noT V).2.1).length from (by omega : i < (pcF V.2.1).length))) ?_
          unfold fnB
          refine if_01g (fun q2 => ?_) (fun q2 => ?_)
          · rw [if_neg (by rw [q2]; exact Bool.false_ne_true), nI_1, Int64.or_zero]
            exact ih e (i + 1) a (by omega)
          · rw [if_pos q2, nI_1]
            exact ih e (i + 1) _ (by omega)
    exact key rFU _ 0 0 (Nat.zero_add _)
end FNR
end
/-! part 66f.twice -/
section
/-! twice: cut anew, all that is now told is found again -/
theorem und_lnT {k : Int32} {q : Bool} {L : BL} {a b : Nat} : (und k q L a b).length ≤ b - a := by
  by_cases h : (und k q L a b).length = 0
  · omega
  · have := und_ch (k := k) (q := q) (L := L) (b := b) _ a (Nat.le_refl _) ((und k q L a b).length - 1) (by omega)
    omega
theorem SRT_mem {N : Nat} : ∀ {cs : List CI} {e : Nat}, SRTD N e cs → ∀ c ∈ cs, c.1 < c.2.1 ∧ c.2.1 ≤ N := by
  intro cs
  induction cs with
  | nil => intro e _ c hc; exact absurd hc List.not_mem_nil
  | cons x cs ih =>
    intro e h c hc
    rcases List.mem_cons.mp hc with rfl | hc
    · exact ⟨h.2.1, h.2.2.1⟩
    · exact ih h.2.2.2 c hc
theorem ue_gap {k : Int32} {q : Bool} {L : BL} {a b : Nat} : ∀ (d i : Nat), i + d ≤ (und k q L a b).length → ueA (und k q L a b) b i + d ≤ ueA (und k q L a b) b (i + d) := by
  intro d
  induction d with
  | zero => intro i _; exact Nat.le_refl _
  | succ d ih =>
    intro i h
    have h1 := ih i (by omega)
    have h2 := (ue_st (k := k) (q := q) (L := L) (a := a) (b := b) (i := i + d) (by omega)).1
    show _ ≤ ueA (und k q L a b) b (i + d + 1)
    omega
def PXW (x : Pc) : Prop := (pX x).length ≤ x.2.1 - x.1
theorem tk_all {cf : CFG} {P : List Pc} {x : Pc} (h : ∀ y ∈ P, PXW y) (hx : PXW x) : ∀ y ∈ tk cf P x, PXW y := by
  unfold tk
  by_cases q : okT cf (pX x) = true ∧ P.length < 40
  · rw [if_pos q]
    intro y hy
    rcases List.mem_append.mp hy with hy | hy
    · exact h y hy
    · rw [List.mem_singleton.mp hy]; exact hx
  · rw [if_neg q]; exact h
theorem tks_all {cf : CFG} : ∀ (xs : List Pc) {P : List Pc}, (∀ y ∈ P, PXW y) → (∀ x ∈ xs, PXW x) → ∀ y ∈ xs.foldl (tk cf) P, PXW y := by
  intro xs
  induction xs with
  | nil => intro P h _; exact h
  | cons x xs ih => intro P h hx; exact ih (tk_all h (hx x List.mem_cons_self)) (fun y hy => hx y (List.mem_cons_of_mem _ hy))
theorem pcC_all {cf : CFG} {L : BL} {c : CI} : ∀ x ∈ pcC cf L c, PXW x := by
  unfold pcC
  by_cases q : cf.2.1 = -1
  · rw [if_pos q]
    intro x hx
    rw [List.mem_singleton.mp hx]
    show ((und cf.1 c.2.2.1 L c.1 c.2.1).map (fun x => x.1)).length ≤ c.2.1 - c.1
    rw [List.length_map]; exact und_lnT
  · rw [if_neg q]
    intro x hx
    obtain ⟨d, hd, rfl⟩ := List.mem_map.mp hx
    obtain ⟨h1, h2⟩ := SRT_mem (cutL_srt _ 0 (Nat.le_refl _)) d hd
    rw [List.length_map] at h2
    have e1 : ueA (uOf cf L c) c.2.1 d.1 = ((uOf cf L c).getD d.1 u0).2.1 := if_pos (by omega)
    have e2 := (ue_st (k := cf.1) (q := c.2.2.1) (L := L) (a := c.1) (b := c.2.1) (i := d.2.1 - 1) (by have h2 : d.2.1 ≤ (und cf.1 c.2.2.1 L c.1 c.2.1).length := h2; omega)).2
    have e3 := ue_gap (k := cf.1) (q := c.2.2.1) (L := L) (a := c.1) (b := c.2.1) (d.2.1 - d.1) d.1 (by have h2 : d.2.1 ≤ (und cf.1 c.2.2.1 L c.1 c.2.1).length := h2; omega)
    have e4 : d.2.1 - 1 + 1 = d.2.1 := by omega
    have e5 : d.1 + (d.2.1 - d.1) = d.2.1 := by omega
    rw [e4] at e2
    rw [e5] at e3
    show ((und cf.2.1 d.2.2.1 ((uOf cf L c).map (fun x => x.1)) d.1 d.2.1).map (fun x => x.1)).length ≤ ((uOf cf L c).getD (d.2.1 - 1) u0).2.2 - ((uOf cf L c).getD d.1 u0).2.1
    rw [List.length_map]
    have h3 := und_lnT (k := cf.2.1) (q := d.2.2.1) (L := (uOf cf L c).map (fun x => x.1)) (a := d.1) (b := d.2.1)
    have e2 : ((uOf cf L c).getD (d.2.1 - 1) u0).2.2 = ueA (uOf cf L c) c.2.1 d.2.1 := e2
    have e3 : ueA (uOf cf L c) c.2.1 d.1 + (d.2.1 - d.1) ≤ ueA (uOf cf L c) c.2.1 d.2.1 := e3
    omega
theorem pcs_all {cf : CFG} {L : BL} : ∀ x ∈ pcs cf L, PXW x := by
  have key : ∀ (cs : List CI) {P : List Pc}, (∀ y ∈ P, PXW y) → ∀ y ∈ cs.foldl (tkC cf L) P, PXW y := by
    intro cs
    induction cs with
    | nil => intro P h; exact h
    | cons c cs ih =>
      intro P h
      refine ih (P := tkC cf L P c) ?_
      unfold tkC
      by_cases q : lkd cf L c = true
      · rw [if_pos q]; exact h
      · rw [if_neg q]; exact tks_all _ h pcC_all
  exact key _ (fun y hy => absurd hy List.not_mem_nil)
theorem pcs_w {cf : CFG} {L : BL} {i : Nat} (hi : i < (pcs cf L).length) : PXW ((pcs cf L).getD i pc0) := by
  have e : (pcs cf L).getD i pc0 = (pcs cf L)[i] := by rw [List.getD_eq_getElem?_getD, List.getElem?_eq_getElem hi, Option.getD_some]
  rw [e]; exact pcs_all _ (List.getElem_mem hi)
theorem escC_1 {k c : Int32} {fi : Bool} : 1 ≤ (escC k fi c).length := by
  unfold escC
  repeat' split
  all_goals exact Nat.le_of_ble_eq_true rfl
theorem escL_lnT {k : Int32} : ∀ (t : BL) (fi : Bool), t.length ≤ (escL k fi t).length := by
  intro t
  induction t with
  | nil => intro _; exact Nat.le_refl _
  | cons c t ih =>
    intro fi
    have h1 := escC_1 (k := k) (c := c) (fi := fi)
    have h2 := ih false
    show t.length + 1 ≤ (escC k fi c ++ escL k false t).length
    rw [List.length_append]; omega
theorem esc_len {k : Int32} {q fi : Bool} {t : BL} : t.length ≤ (esc k q fi t).length := by
  have h1 := escL_lnT (k := 1) t fi
  have h2 := escL_lnT (k := k) t fi
  unfold esc
  by_cases c1 : k = 1
  · rw [if_pos c1]
    by_cases c2 : q = true
    · rw [if_pos c2]; exact h1
    · rw [if_neg c2]
      by_cases c3 : sg t = true
      · rw [if_pos c3, List.length_cons, List.length_append]; omega
      · rw [if_neg c3]; exact Nat.le_refl _
  · rw [if_neg c1]; exact h2
theorem escFor_len {cf : CFG} {x : Pc} {t e : BL} (h : escFor cf x t = some e) : t.length ≤ e.length := by
  unfold escFor at h
  by_cases c : cf.2.1 ≠ -1 ∧ cf.1 = 1 ∧ x.2.2.1 = false ∧ sg (mid cf x.2.2.2.1 t) = true
  · rw [if_pos c] at h; exact absurd h (fun q => by cases q)
  · rw [if_neg c] at h
    have h := Option.some.inj h
    subst h
    refine Nat.le_trans ?_ esc_len
    unfold mid
    by_cases c2 : cf.2.1 = -1
    · rw [if_pos c2]; exact Nat.le_refl _
    · rw [if_neg c2]; exact esc_len
def nAt (S : SST) : Nat → Nat
  | 0 => 0
  | i + 1 => nAt S i + (nowOf S i).length
theorem nAt_le {S : SST} : ∀ {i k : Nat}, i ≤ k → nAt S i ≤ nAt S k := by
  intro i k h
  obtain ⟨d, rfl⟩ : ∃ d, k = i + d := ⟨k - i, by omega⟩
  clear h
  induction d with
  | zero => exact Nat.le_refl _
  | succ d ih => exact Nat.le_trans ih (Nat.le_add_right _ _)
theorem nAt_row {S : SST} (hV : VE S.2.1 S.2.2.1 (pcF S)) : ∀ i, i ≤ (pcF S).length → nAt S i ≤ (rowTo S.2.1 S.1 S.2.2.1 (pcF S) i).length := by
  have hO : ORD (pcF S) S.1.length := pcs_ord
  intro i
  induction i with
  | zero => intro _; exact Nat.zero_le _
  | succ i ih =>
    intro hi
    have h1 := ih (by omega)
    have h2 := row_sl (cf := S.2.1) (F := S.1) (told := S.2.2.1) hO (i := i) (by omega)
    have h3 : (nowOf S i).length ≤ (bOf S.2.1 S.1 S.2.2.1 i ((pcF S).getD i pc0)).length := by
      cases ht : S.2.2.1 i with
      | none =>
        rw [now_n ht]
        have e : bOf S.2.1 S.1 S.2.2.1 i ((pcF S).getD i pc0) = sl S.1 ((pcF S).getD i pc0).1 ((pcF S).getD i pc0).2.1 := by unfold bOf; rw [ht]
        rw [e, sl_len (hO.1 i (by omega)).2.2]
        exact pcs_w (show i < (pcs S.2.1 S.1).length from (by omega : i < (pcF S).length))
      | some t =>
        rw [now_s ht]
        have e : bOf S.2.1 S.1 S.2.2.1 i ((pcF S).getD i pc0) = (escFor S.2.1 ((pcF S).getD i pc0) t).getD [] := by unfold bOf; rw [ht]
        obtain ⟨z, hz⟩ := Option.isSome_iff_exists.mp (hV i t (by omega) ht)
        rw [e, hz]
        exact escFor_len hz
    show nAt S i + (nowOf S i).length ≤ _
    omega
theorem nAt_6 {S : SST} (hS : SV S) {i : Nat} (hi : i ≤ (pcF S).length) : nAt S i ≤ 600 := by
  have h1 := nAt_row hS.1 _ (Nat.le_refl _)
  have h2 : (bltS S).length ≤ 600 := hS.2.1
  have h3 : (rowTo S.2.1 S.1 S.2.2.1 (pcF S) (pcF S).length).length ≤ (bltS S).length := by
    show _ ≤ (rowTo S.2.1 S.1 S.2.2.1 (pcF S) (pcF S).length ++ _).length
    rw [List.length_append]; omega
  have := nAt_le (S := S) hi
  omega
theorem now_6 {S : SST} (hS : SV S) {i : Nat} (hi : i < (pcF S).length) : nAt S i + (nowOf S i).length ≤ 600 := nAt_6 hS (i := i + 1) hi
def rcT (S : SST) : List Pc := pcs S.2.1 (bltS S)
def twB (S : SST) : Nat → Nat → Bool
  | 0, _ => true
  | d + 1, i => decide (pX ((rcT S).getD i pc0) = nowOf S i) && twB S d (i + 1)
def sTwi (V : SPV) : Int32 × SPV := (if (rcT V.2.1).length = (pcF V.2.1).length then bI (twB V.2.1 (pcF V.2.1).length 0) else 0, V)
theorem sm_dec {L M X Y : BL} {a b m : Nat} (hm : X.length = m) (hX : ∀ z, z < m → L.getD (a + z) 0 = X.getD z 0) (hY : ∀ z, z < m → M.getD (b + z) 0 = Y.getD z 0) (hl : Y.length = m) : smF L a M b m = decide (X = Y) := by
  by_cases e : X = Y
  · rw [decide_eq_true e]
    exact (smF_all _ _ _).mpr (fun z hz => by rw [hX z hz, hY z hz, e])
  · rw [decide_eq_false e]
    cases hx : smF L a M b m with
    | false => rfl
    | true => exact absurd (bl_ext (hm.trans hl.symm) (fun z hz => by
        have := (smF_all _ _ _).mp hx z (by omega)
        rw [hX z (by omega), hY z (by omega)] at this
        exact this)) e
section TWK
variable {f : AH} {n : Nat} {V : SPV}
theorem f_isNow {S : SST} {i : Nat} {hi ag pc wn fp : Int32} (hp : f 0 = some (.inr (8, pfL hi ag pc wn fp))) (hK : KO f n S) (hC : CUT f 115 (rcT S)) (h1 : i < (pcF S).length) (h2 : i < (rcT S).length) : PQ (mX8_isNow 0 (nI i) (some (75 + i)) (some (131 + i)) f n) (fun y => y = (bI (decide (pX ((rcT S).getD i pc0) = nowOf S i)), f, n)) := by
  have h40 : (pcF S).length ≤ 40 := pcs_40
  obtain ⟨x11, ep⟩ := KO_BD hK h1
  obtain ⟨y9, y10, y11, er⟩ := hC.1.1.2.2.2.1 i h2
  have hT := hK.2.1.1.2.1
  have hR := hC.1.2.1
  have l1 := tx_le h1
  have l2 := tx_le h2
  have l3 := rw_6 hT
  have l4 := rw_6 hR
  have l1 : tAt (pcF S) i + (pX (pOf S i)).length ≤ (txs (pcF S)).length := l1
  have fin63 : ∀ x : Int32, x = bI (decide (pX ((rcT S).getD i pc0) = nowOf S i)) → PQ (mX8_isNow_b63 x f n) (fun y => y = (bI (decide (pX ((rcT S).getD i pc0) = nowOf S i)), f, n)) := fun x hx => pq_ck (pq_ret (by rw [hx]))
  have fin106 : ∀ x : Int32, x = bI (decide (pX ((rcT S).getD i pc0) = nowOf S i)) → PQ (mX8_isNow_b106 x f n) (fun y => y = (bI (decide (pX ((rcT S).getD i pc0) = nowOf S i)), f, n)) := fun x hx => pq_ck (pq_ret (by rw [hx]))
  unfold mX8_isNow mX8_isNow_b62 mX8_isNow_b105
  refine pq_gR hp rfl (pq_sb (pq_ck (pq_call (f_toldForS (f := f) (n := n) (v := nI i) hK.1 (by rw [nI_toInt (by omega)]; omega)) (fun y hy => ?_))))
  obtain ⟨w, rfl, hwO⟩ := hy
  rw [nI_tn (by omega)] at hwO
  cases ht : S.2.2.1 i with
  | none =>
    rw [ht] at hwO
    have hwO : w = none := hwO
    subst hwO
    have en := now_n ht
    refine pq_sb (pq_oNn (pq_sb (pq_gI ep rfl (pq_sb (pq_gI er rfl (pq_eqi (nI_toInt (by omega)) (nI_toInt (by omega)) (fun q => ?_) (fun q => fin63 _ ?_)))))))
    · have e := sm_dec (L := txs (pcF S)) (M := txs (rcT S)) (X := pX (pOf S i)) (Y := pX ((rcT S).getD i pc0)) (a := tAt (pcF S) i) (b := tAt (rcT S) i) rfl (fun z hz => tx_gd h1 hz) (fun z hz => tx_gd h2 (by omega)) (by omega)
      refine pq_gR hp rfl (pq_sb (pq_gR hK.2.1.1.1.1 rfl (pq_gI ep rfl (pq_gR hp rfl (pq_sb (pq_gR hC.1.1.1 rfl (pq_gI er rfl (pq_gI ep rfl (pq_sb (pq_ck (pq_is (f_same (f := f) (n := n) hT hR l1 (by omega)) ?_)))))))))))
      rw [e]
      refine pq_eq (fun q2 => fin63 _ ?_) (fun q2 => fin63 _ ?_)
      · rw [en, decide_eq_false (fun x => (decide_eq_false_iff_not.mp (bI_0.mp q2)) x.symm)]; rfl
      · rw [en, decide_eq_true (show pX ((rcT S).getD i pc0) = pX (pOf S i) from by
          by_cases x : pX (pOf S i) = pX ((rcT S).getD i pc0)
          · exact x.symm
          · exact absurd (bI_0.mpr (decide_eq_false x)) q2)]; rfl
    · rw [en, decide_eq_false (fun x => q (by rw [x]))]; rfl
  | some t =>
    rw [ht] at hwO
    obtain ⟨j, rfl, ⟨b, c, hr, -⟩, h60⟩ := hwO
    have en := now_s ht
    refine pq_sb (pq_oNs (pq_ck (pq_is (f_size hr) (pq_sb (pq_gI er rfl (pq_eqi (nI_toInt (by omega)) (nI_toInt (by omega)) (fun q => ?_) (fun q => fin106 _ ?_)))))))
    · have e := sm_dec (L := t) (M := txs (rcT S)) (X := t) (Y := pX ((rcT S).getD i pc0)) (a := 0) (b := tAt (rcT S) i) rfl (fun z hz => by rw [Nat.zero_add]) (fun z hz => tx_gd h2 (by omega)) (by omega)
      refine pq_gR hp rfl (pq_sb (pq_gR hC.1.1.1 rfl (pq_gI er rfl (pq_ck (pq_is (f_size hr) (pq_ck (pq_is (f_same (f := f) (n := n) (a := 0) hr hR (by omega) (by omega)) ?_)))))))
      rw [e]
      refine pq_eq (fun q2 => fin106 _ ?_) (fun q2 => fin106 _ ?_)
      · rw [en, decide_eq_false (fun x => (decide_eq_false_iff_not.mp (bI_0.mp q2)) x.symm)]; rfl
      · rw [en, decide_eq_true (show pX ((rcT S).getD i pc0) = t from by
          by_cases x : t = pX ((rcT S).getD i pc0)
          · exact x.symm
          · exact absurd (bI_0.mpr (decide_eq_false x)) q2)]; rfl
    · rw [en, decide_eq_false (fun x => q (by rw [x]))]; rfl
theorem k_twi (h : RC f n V) : PQ (mX8_twice 0 f n) (COI (sTwi V)) := by
  unfold mX8_twice sTwi
  refine pq_ck (pq_call (f_again h) (fun y hy => ?_))
  obtain ⟨f1, rfl, h1, hC⟩ := hy
  have hC : CUT f1 115 (rcT V.2.1) := hC
  obtain ⟨ag, hp⟩ := RC_p h1
  have hK := h1.2.2.2.1.1
  have h40 : (pcF V.2.1).length ≤ 40 := pcs_40
  have h41 : (rcT V.2.1).length ≤ 40 := pcs_40
  refine pq_gR hp rfl (pq_sb (pq_ck (pq_is (f_csize hC.1.1) (pq_gR hp rfl (pq_sb (pq_ck (pq_is (f_csize hK.2.1.1.1) (pq_eqi (nI_toInt (by omega)) (nI_toInt (by omega)) (fun q => ?_) (fun q => ?_)))))))))
  · rw [if_pos (show (rcT V.2.1).length = (pcF V.2.1).length by omega)]
    have key : ∀ (d e i : Nat), i + e = (pcF V.2.1).length → PQ (mX8_twice_l25 d 0 (nI i) f1 n) (COI (bI (twB V.2.1 e i), V)) := by
      intro d
      induction d with
      | zero => intro _ _ _; exact pq_none
      | succ d ih =>
        intro e i hi
        unfold mX8_twice_l25 mX8_twice_b72
        refine pq_gR hp rfl (pq_sb (pq_ck (pq_is (f_csize hK.2.1.1.1) (pq_le (nI_toInt (by omega)) (nI_toInt (by omega)) (fun q => ?_) (fun q => ?_)))))
        · obtain rfl : e = 0 := by omega
          exact pq_ck (pq_ret ⟨f1, n, rfl, h1⟩)
        · obtain ⟨e, rfl⟩ : ∃ e', e = e' + 1 := ⟨e - 1, by omega⟩
          have hi1 : i < (pcF V.2.1).length := by omega
          have hi2 : i < (rcT V.2.1).length := by omega
          have g2 : PQ (mX1_get 115 (nI i) f1 n) (fun y => y = (some (131 + i), f1, n)) := pq_tail (f_cgetN hC.1.1 hi2) (fun y hy => by rw [hy, show 115 + 16 + i = 131 + i by omega])
          have es : twB V.2.1 (e + 1) i = (decide (pX ((rcT V.2.1).getD i pc0) = nowOf V.2.1 i) && twB V.2.1 e (i + 1)) := rfl
          refine pq_gR hp rfl (pq_sb (pq_ck (pq_is (f_cg75 hK hi1) (pq_sb (pq_gR hp rfl (pq_sb (pq_ck (pq_is g2 (pq_sb (pq_oNs (pq_oNs (pq_ck (pq_is (f_isNow (f := f1) (n := n) hp hK hC hi1 hi2) ?_)))))))))))))
          rw [es]
          cases hb : decide (pX ((rcT V.2.1).getD i pc0) = nowOf V.2.1 i) with
          | false =>
            rw [Bool.false_and]
            exact pq_t rfl (pq_ck (pq_ret ⟨f1, n, rfl, h1⟩))
          | true =>
            rw [Bool.true_and]
            refine pq_f (show ¬ (1 : Int32) = 0 by decide) ?_
            rw [nI_1]; exact ih e (i + 1) (by omega)
    exact key rFU _ 0 (Nat.zero_add _)
  · rw [if_neg (show ¬ (rcT V.2.1).length = (pcF V.2.1).length by omega)]
    exact pq_ck (pq_ret ⟨f1, n, rfl, h1⟩)
end TWK
section TWR
variable {σ : RS9} {V : SPV}
def NW9 (σ : RS9) (S : SST) (p : Nat) : Prop := (∀ q, q < p → σ.2 51 q = nI (nAt S q)) ∧ ∀ q k, q < p → k < (nowOf S q).length → σ.2 50 (nAt S q + k) = (nowOf S q).getD k 0
def TW9 (σ σ' : RS9) (S : SST) : Prop := FRX RA8 FA8 σ σ' ∧ NW9 σ' S (pcF S).length ∧ σ'.2 51 (pcF S).length = nI (nAt S (pcF S).length) ∧ σ'.1 59 = nI (pcF S).length ∧ PT σ' (decide (S.2.1.1 = 0)) (rcT S)
theorem NW_frx {σ σ' : RS9} {S : SST} {p : Nat} {R F : Nat → Prop} (h : NW9 σ S p) (hX : FRX R F σ σ') (h1 : ¬ R 50) (h2 : ¬ R 51) : NW9 σ' S p := ⟨fun q hq => by rw [hX.1 51 h2]; exact h.1 q hq, fun q k hq hk => by rw [hX.1 50 h1]; exact h.2 q k hq hk⟩
theorem r_cutsBuilt (h : RR9 σ V) (hS : SV V.2.1) : PQ (mX9_cutsBuilt σ) (fun y => TW9 σ y.2 V.2.1) := by
  have hbl : (bltS V.2.1).length ≤ 600 := hS.2.1
  have h40 : (pcF V.2.1).length ≤ 40 := pcs_40
  obtain ⟨h33, -⟩ := RM_33 h.2.1
  unfold mX9_cutsBuilt
  refine pq_call (r_builds (RM_BV h.2.1) pcs_ord (by have := RR_4 h; omega) hS.1) (fun y hy => ?_)
  obtain ⟨σ1, rfl, hU, hF⟩ := hy
  have h49 : RLs σ1 49 (bltS V.2.1) := hU.1
  have e33 : σ1.1 33 = nI (pcF V.2.1).length := (hF.2 33 (fun q => by omega)).trans h33
  show PQ (mX9_cutsBuilt_l20 rFU (nI (bltS V.2.1).length) (σ1.1 33) (0 : Int32) (0 : Int32) (rSf σ1 59 (σ1.1 33))) _
  rw [e33]
  have hF1 : FRX (fun k => R49 k) (fun k => k = 56 ∨ k = 59) σ (rSf σ1 59 (nI (pcF V.2.1).length)) := ⟨fun k hk => hF.1 k hk, fun k hk => (sf_ne (fun q => hk (Or.inr q))).trans (hF.2 k (fun q => hk (Or.inl q)))⟩
  have h49' : RLs (rSf σ1 59 (nI (pcF V.2.1).length)) 49 (bltS V.2.1) := h49
  have h59 : (rSf σ1 59 (nI (pcF V.2.1).length)).1 59 = nI (pcF V.2.1).length := sf_eq
  generalize rSf σ1 59 (nI (pcF V.2.1).length) = s0 at hF1 h49' h59 ⊢
  have hR0 : RR9 s0 V := RR_frx h hF1 (fun k hk q => by omega) (fun k hk q => by omega)
  have hX0 : FRX RA8 FA8 σ s0 := frx_mono hF1 (fun k hk => by omega) (fun k hk => by omega)
  -- the row is read over
  have k99 : ∀ (d i : Nat) (s : RS9), i ≤ (bltS V.2.1).length → FRX RA8 FA8 σ s → s.1 16 = nI (bltS V.2.1).length → s.1 59 = nI (pcF V.2.1).length → NW9 s V.2.1 (pcF V.2.1).length → s.2 51 (pcF V.2.1).length = nI (nAt V.2.1 (pcF V.2.1).length) → RLs s 49 (bltS V.2.1) → RLs s 13 ((bltS V.2.1).take i) → PQ (mX9_cutsBuilt_l99 d (nI (bltS V.2.1).length) (nI i) s) (fun y => TW9 σ y.2 V.2.1) := by
    intro d
    induction d with
    | zero => intro i s _ _ _ _ _ _ _ _; exact pq_none
    | succ d ih =>
      intro i s hi hX h16 k59 hN h51 k49 k13
      unfold mX9_cutsBuilt_l99
      refine pq_le (nI_toInt (by omega)) (nI_toInt (by omega)) (fun q => ?_) (fun q => ?_)
      · have e : i = (bltS V.2.1).length := by omega
        rw [e, List.take_length] at k13
        refine pq_call (r_cutsAll (cf := V.2.1.2.1) (by rw [hX.1 1 (fun q => by omega)]; exact h.2.1.1.2.1) k13 h16 hbl) (fun y hy => ?_)
        obtain ⟨s2, rfl, gP, g⟩ := hy
        exact pq_ret ⟨frx_tr hX (frx_mono g (fun k hk => by omega) (fun k hk => by omega)), NW_frx hN g (fun q => by omega) (fun q => by omega), by rw [g.1 51 (fun q => by omega)]; exact h51, (g.2 59 (fun q => by omega)).trans k59, gP⟩
      · have hi' : i < (bltS V.2.1).length := by omega
        rw [rd_nI (by omega), k49 i hi', nI_1]
        have fr : FRX (fun k => k = 13) NF9 s (rSa s 13 (nI i) ((bltS V.2.1).getD i 0)) := ⟨fun k hk => sa_ne hk, fun k hk => rfl⟩
        exact pq_ck (pq_ck (ih (i + 1) _ (by omega) (frx_tr hX (frx_mono fr (fun k hk => by omega) (fun k hk => absurd hk id))) h16 k59 (NW_frx hN fr (fun q => by omega) (fun q => by omega)) (by rw [fr.1 51 (fun q => by omega)]; exact h51) (RL_frx k49 fr (fun q => by omega)) (RL_53 k13 hi' rfl (by omega))))
  have k37 : ∀ (rec20 : Int32 → Int32 → Int32 → Int32 → RS9 → Option (Int32 × RS9)) (v1 v2 : Int32) (p : Nat), p < (pcF V.2.1).length → (∀ s : RS9, FRX (fun k => k = 50 ∨ k = 51) NF9 s0 s → NW9 s V.2.1 (p + 1) → PQ (rec20 v1 v2 (nI (nAt V.2.1 (p + 1))) (nI (p + 1)) s) (fun y => TW9 σ y.2 V.2.1)) → ∀ (d k : Nat) (s : RS9), k ≤ (nowOf V.2.1 p).length → FRX (fun k => k = 50 ∨ k = 51) NF9 s0 s → NW9 s V.2.1 p → s.2 51 p = nI (nAt V.2.1 p) → (∀ z, z < k → s.2 50 (nAt V.2.1 p + z) = (nowOf V.2.1 p).getD z 0) → PQ (mX9_cutsBuilt_l37 rec20 d v1 v2 (nI (nAt V.2.1 p + k)) (nI p) (nI k) s) (fun y => TW9 σ y.2 V.2.1) := by
    intro rec20 v1 v2 p hp hr d
    have hp6 := now_6 hS hp
    induction d with
    | zero => intro _ _ _ _ _ _ _; exact pq_none
    | succ d ih =>
      intro k s hk hX hN h51 h50
      have hRs : RR9 s V := RR_frx hR0 hX (fun k hk q => by omega) (fun k hk q => q)
      unfold mX9_cutsBuilt_l37 mX9_cutsBuilt_b78
      refine pq_isr (a := nI (nowOf V.2.1 p).length) (pq_tail (r_nowMany hRs.2.1.1.2.2.1 hRs.2.1.2 hp) (fun y hy => by rw [hy, nw_now])) ?_
      refine pq_le (nI_toInt (by omega)) (nI_toInt (by omega)) (fun q => ?_) (fun q => pq_le (show (700 : Int32).toInt = 700 by decide) (nI_toInt (by omega)) (fun q2 => ?_) (fun q2 => ?_))
      · obtain rfl : k = (nowOf V.2.1 p).length := by omega
        rw [nI_1]
        exact hr s hX ⟨fun z hz => by
          by_cases ez : z = p
          · rw [ez]; exact h51
          · exact hN.1 z (by omega), fun z y hz hy => by
          by_cases ez : z = p
          · subst ez; exact h50 y hy
          · exact hN.2 z y (by omega) hy⟩
      · exact absurd q2 (by omega)
      · have hk' : k < (nowOf V.2.1 p).length := by omega
        refine pq_isr (a := (nowOf V.2.1 p).getD k 0) (pq_tail (r_nowByte hRs.2.1.1.2.2.1 hRs.2.1.2 hp (by rw [nw_now]; exact hk')) (fun y hy => by rw [hy, nw_now])) (pq_ck ?_)
        rw [nI_1, nI_1]
        have fr : FRX (fun k => k = 50 ∨ k = 51) NF9 s (rSa s 50 (nI (nAt V.2.1 p + k)) ((nowOf V.2.1 p).getD k 0)) := ⟨fun k hk => sa_ne (fun q => hk (Or.inl q)), fun k hk => rfl⟩
        have e50 : ∀ i, (rSa s 50 (nI (nAt V.2.1 p + k)) ((nowOf V.2.1 p).getD k 0)).2 50 i = if i = nAt V.2.1 p + k then (nowOf V.2.1 p).getD k 0 else s.2 50 i := fun i => sa_nI (by omega)
        have e51 : (rSa s 50 (nI (nAt V.2.1 p + k)) ((nowOf V.2.1 p).getD k 0)).2 51 = s.2 51 := sa_ne (by decide)
        refine ih (k + 1) _ (by omega) (frx_tr hX fr) ⟨fun z hz => by rw [e51]; exact hN.1 z hz, fun z y hz hy => ?_⟩ (by rw [e51]; exact h51) (fun z hz => ?_)
        · have h1 : nAt V.2.1 (z + 1) ≤ nAt V.2.1 p := nAt_le (by omega)
          have h1 : nAt V.2.1 z + (nowOf V.2.1 z).length ≤ nAt V.2.1 p := h1
          rw [e50, if_neg (by omega)]; exact hN.2 z y hz hy
        · rw [e50]
          by_cases ez : z = k
          · rw [ez, if_pos rfl]
          · rw [if_neg (by omega)]; exact h50 z (by omega)
  have k20 : ∀ (d p : Nat) (s : RS9), p ≤ (pcF V.2.1).length → FRX (fun k => k = 50 ∨ k = 51) NF9 s0 s → NW9 s V.2.1 p → PQ (mX9_cutsBuilt_l20 d (nI (bltS V.2.1).length) (nI (pcF V.2.1).length) (nI (nAt V.2.1 p)) (nI p) s) (fun y => TW9 σ y.2 V.2.1) := by
    intro d
    induction d with
    | zero => intro _ _ _ _ _; exact pq_none
    | succ d ih =>
      intro p s hp hX hN
      have fr : FRX (fun k => k = 50 ∨ k = 51) NF9 s (rSa s 51 (nI p) (nI (nAt V.2.1 p))) := ⟨fun k hk => sa_ne (fun q => hk (Or.inr q)), fun k hk => rfl⟩
      have e51 : ∀ i, (rSa s 51 (nI p) (nI (nAt V.2.1 p))).2 51 i = if i = p then nI (nAt V.2.1 p) else s.2 51 i := fun i => sa_nI (by omega)
      have e50 : (rSa s 51 (nI p) (nI (nAt V.2.1 p))).2 50 = s.2 50 := sa_ne (by decide)
      have hN2 : NW9 (rSa s 51 (nI p) (nI (nAt V.2.1 p))) V.2.1 p := ⟨fun z hz => by rw [e51, if_neg (by omega)]; exact hN.1 z hz, fun z y hz hy => by rw [e50]; exact hN.2 z y hz hy⟩
      have hX2 := frx_tr hX fr
      unfold mX9_cutsBuilt_l20
      refine pq_le (nI_toInt (by omega)) (nI_toInt (by omega)) (fun q => ?_) (fun q => ?_)
      · obtain rfl : p = (pcF V.2.1).length := by omega
        have fr2 : FRX NO9 (fun k => k = 16) (rSa s 51 (nI (pcF V.2.1).length) (nI (nAt V.2.1 (pcF V.2.1).length))) (rSf (rSa s 51 (nI (pcF V.2.1).length) (nI (nAt V.2.1 (pcF V.2.1).length))) 16 (nI (bltS V.2.1).length)) := ⟨fun _ _ => rfl, fun k hk => sf_ne hk⟩
        refine pq_ck (k99 rFU 0 _ (Nat.zero_le _) (frx_tr hX0 (frx_tr (frx_mono hX2 (fun k hk => by omega) (fun k hk => absurd hk id)) (frx_mono fr2 (fun k hk => absurd hk id) (fun k hk => by omega)))) sf_eq ?_ (NW_frx hN2 fr2 id id) ?_ (RL_frx (RL_frx h49' hX2 (fun q => by omega)) fr2 (fun q => q)) (fun i hi => absurd hi (by rw [List.take_zero]; exact Nat.not_lt_zero _)))
        · exact (sf_ne (by decide)).trans ((hX2.2 59 (fun q => q)).trans h59)
        · show (rSa s 51 (nI (pcF V.2.1).length) (nI (nAt V.2.1 (pcF V.2.1).length))).2 51 _ = _
          rw [e51, if_pos rfl]
      · have hp' : p < (pcF V.2.1).length := by omega
        exact pq_ck (k37 (fun v1 v2 v3 v4 σ => mX9_cutsBuilt_l20 d v1 v2 v3 v4 σ) _ _ p hp' (fun s2 g hN3 => ih (p + 1) s2 (by omega) g hN3) rFU 0 _ (Nat.zero_le _) hX2 hN2 (by rw [e51, if_pos rfl]) (fun z hz => absurd hz (Nat.not_lt_zero _)))
  exact k20 rFU 0 s0 (Nat.zero_le _) frx_rfl ⟨fun q hq => absurd hq (Nat.not_lt_zero _), fun q k hq _ => absurd hq (Nat.not_lt_zero _)⟩
theorem r_isNow {σ1 : RS9} {S : SST} {i : Nat} (hS : SV S) (h : TW9 σ σ1 S) (h1 : i < (pcF S).length) (h2 : i < (rcT S).length) : PQ (mX9_isNow (nI i) (nI i) σ1) (fun y => y = (bI (decide (pX ((rcT S).getD i pc0) = nowOf S i)), σ1)) := by
  obtain ⟨-, hN, h51, -, hP⟩ := h
  have h40 : (pcF S).length ≤ 40 := pcs_40
  have n6 := now_6 hS h1
  obtain ⟨-, -, -, -, -, -, a41, a42⟩ := hP.2.2 i h2
  have l1 := tx_le h2
  have l2 := hP.2.1.2.1
  have t43 := hP.2.1.2.2.2.1
  have c42 : rGa σ1 42 (nI i) = nI (pX ((rcT S).getD i pc0)).length := (rd_nI (by omega)).trans a42
  have c41 : rGa σ1 41 (nI i) = nI (tAt (rcT S) i) := (rd_nI (by omega)).trans a41
  have c51 : rGa σ1 51 (nI i) = nI (nAt S i) := (rd_nI (by omega)).trans (hN.1 i h1)
  have c52 : rGa σ1 51 (nI (i + 1)) = nI (nAt S i + (nowOf S i).length) := (rd_nI (by omega)).trans (by
    by_cases e : i + 1 = (pcF S).length
    · rw [e, h51, ← e]; rfl
    · exact hN.1 (i + 1) (by omega))
  have hn50 := fun k hk => hN.2 i k h1 hk
  generalize hX : pX ((rcT S).getD i pc0) = X at c42 l1 ⊢
  have hX43 : ∀ k, k < X.length → σ1.2 43 (tAt (rcT S) i + k) = X.getD k 0 := fun k hk => (t43 _ (by omega)).trans (by rw [tx_gd h2 (by rw [hX]; exact hk), hX])
  generalize nowOf S i = Y at n6 c52 hn50 ⊢
  unfold mX9_isNow mX9_isNow_b29
  rw [nI_1, c42, c51, c52, nI_sb (by omega) (by omega), show nAt S i + Y.length - nAt S i = Y.length by omega]
  have l33z : ∀ d k, decide (X = Y) = false → PQ (mX9_isNow_l33 d (nI i) (nI i) 0 k σ1) (fun y => y = (bI (decide (X = Y)), σ1)) := by
    intro d k hz
    cases d with
    | zero => exact pq_none
    | succ d =>
      unfold mX9_isNow_l33 mX9_isNow_b91
      rw [hz]
      exact pq_ck (pq_ite (pq_ck (pq_ret rfl)) (pq_t rfl (pq_ck (pq_ret rfl))))
  have l33 : X.length = Y.length → ∀ d k, k ≤ X.length → (∀ z, z < k → X.getD z 0 = Y.getD z 0) → PQ (mX9_isNow_l33 d (nI i) (nI i) 1 (nI k) σ1) (fun y => y = (bI (decide (X = Y)), σ1)) := by
    intro hl d
    induction d with
    | zero => intro _ _ _; exact pq_none
    | succ d ih =>
      intro k hk he
      unfold mX9_isNow_l33 mX9_isNow_b91 mX9_isNow_b84
      rw [c42, c41, c51]
      refine pq_ck (pq_le (nI_toInt (by omega)) (nI_toInt (by omega)) (fun q => ?_) (fun q => ?_))
      · have e : X = Y := bl_ext hl (fun z hz => he z (by omega))
        rw [decide_eq_true e]; exact pq_ck (pq_ret rfl)
      · have hk' : k < X.length := by omega
        rw [nI_add, nI_add, rd_nI (by omega), rd_nI (by omega), hX43 k hk', hn50 k (by omega)]
        refine pq_f (show ¬ (1 : Int32) = 0 by decide) (pq_ck (pq_ck (pq_ck (pq_ck (pq_eq (fun q2 => ?_) (fun q2 => ?_))))))
        · rw [nI_1]
          exact ih (k + 1) (by omega) (fun z hz => by
            by_cases ez : z = k
            · rw [ez]; exact q2
            · exact he z (by omega))
        · exact l33z d _ (decide_eq_false (fun e => q2 (by rw [e])))
  refine pq_ck (pq_ck (pq_ck (pq_eqi (nI_toInt (by omega)) (nI_toInt (by omega)) (fun q => ?_) (fun q => ?_))))
  · exact l33 (by omega) rFU 0 (Nat.zero_le _) (fun z hz => absurd hz (Nat.not_lt_zero _))
  · exact l33z rFU _ (decide_eq_false (fun e => q (by rw [e])))
theorem r_twi (h : RR9 σ V) (hS : SV V.2.1) : PQ (mX9_twice σ) (RAI (sTwi V)) := by
  have h0 := RR_f0 (x := 0) h
  have h40 : (pcF V.2.1).length ≤ 40 := pcs_40
  have h41 : (rcT V.2.1).length ≤ 40 := pcs_40
  unfold mX9_twice sTwi
  refine pq_call (r_cutsBuilt h0 hS) (fun y hT => ?_)
  obtain ⟨v, σ1⟩ := y
  have hT : TW9 (rSf σ 0 0) σ1 V.2.1 := hT
  have e59 : σ1.1 59 = nI (pcF V.2.1).length := hT.2.2.2.1
  have e33 : σ1.1 33 = nI (rcT V.2.1).length := hT.2.2.2.2.1.1
  have b53 : ∀ v1 : Int32, PQ (mX9_twice_b53 v1 σ1) (RAI (v1, V)) := fun v1 => by
    unfold mX9_twice_b53
    exact pq_call (RR_recut h0 hT.1) (fun y hy => pq_ck (pq_ret ⟨hy, rfl⟩))
  have l0 : ∀ (d : Nat) (k : Int32), PQ (mX9_twice_l28 d 0 k σ1) (RAI (0, V)) := by
    intro d k
    cases d with
    | zero => exact pq_none
    | succ d =>
      unfold mX9_twice_l28
      exact pq_ite (b53 0) (pq_t rfl (b53 0))
  unfold mX9_twice_b25
  show PQ (if σ1.1 33 = σ1.1 59 then _ else _) _
  rw [e33, e59]
  refine pq_eqi (nI_toInt (by omega)) (nI_toInt (by omega)) (fun q => ?_) (fun q => ?_)
  · have hl : (rcT V.2.1).length = (pcF V.2.1).length := by omega
    rw [if_pos hl]
    have key : ∀ (d e i : Nat), i + e = (pcF V.2.1).length → PQ (mX9_twice_l28 d 1 (nI i) σ1) (RAI (bI (twB V.2.1 e i), V)) := by
      intro d
      induction d with
      | zero => intro _ _ _; exact pq_none
      | succ d ih =>
        intro e i hi
        unfold mX9_twice_l28
        rw [e59]
        refine pq_le (nI_toInt (by omega)) (nI_toInt (by omega)) (fun q => ?_) (fun q => ?_)
        · obtain rfl : e = 0 := by omega
          exact b53 1
        · obtain ⟨e, rfl⟩ : ∃ e', e = e' + 1 := ⟨e - 1, by omega⟩
          have es : twB V.2.1 (e + 1) i = (decide (pX ((rcT V.2.1).getD i pc0) = nowOf V.2.1 i) && twB V.2.1 e (i + 1)) := rfl
          refine pq_f (show ¬ (1 : Int32) = 0 by decide) (pq_isr (r_isNow hS hT (by omega) (by omega)) ?_)
          rw [es, nI_1]
          cases hb : decide (pX ((rcT V.2.1).getD i pc0) = nowOf V.2.1 i) with
          | false => rw [Bool.false_and]; exact l0 d _
          | true => rw [Bool.true_and]; exact ih e (i + 1) (by omega)
    exact key rFU _ 0 (Nat.zero_add _)
  · rw [if_neg (show ¬ (rcT V.2.1).length = (pcF V.2.1).length by omega)]
    exact l0 rFU _
end TWR
end
/-! part 66g.piece -/
section
/-! what is asked of a piece, of all -/
def wcF (T : BL) : Nat → Nat → Int32 → Int32
  | 0, _, a => a
  | d + 1, i, a => wcF T d (i + 1) (if isLet (T.getD i 0) = true ∧ ¬ (0 < i ∧ isLet (T.getD (i - 1) 0) = true) then a + 1 else a)
def wds (T : BL) : Int32 := wcF T T.length 0 0
def knF (M : List (BL × BL)) (X : BL) : Nat → Nat → Int32
  | 0, _ => -1
  | d + 1, i => if (M.getD i ([], [])).1 = X then nI i else knF M X d (i + 1)
def erF (S : SST) (i : Nat) : Nat → Nat → Bool
  | 0, _ => false
  | d + 1, k => lkB S i k || erF S i d (k + 1)
def ulF (S : SST) : Nat → Nat → Int32 → Int32
  | 0, _, a => a
  | d + 1, i, a => ulF S d (i + 1) (if erF S i i 0 = true then a else a + 1)
def awF (S : SST) : Nat → Nat → Int32 → Int32
  | 0, _, a => a
  | d + 1, i, a => awF S d (i + 1) (a + wds (nowOf S i))
def lgF (S : SST) : Nat → Nat → Int32 → Int32
  | 0, _, a => a
  | d + 1, i, a => lgF S d (i + 1) (jMax a (nI (pX (pOf S i)).length))
def biF (S : SST) : Nat → Nat → Int32 → Int32
  | 0, _, a => a
  | d + 1, i, a => biF S d (i + 1) (a + (nI (pOf S i).2.1 - nI (pOf S i).1))
def pieA (S : SST) (p : Nat) (w : Int32) : Int32 := if w = 0 then nI (pOf S p).1 else if w = 1 then nI (pOf S p).2.1 else if w = 2 then nI (pX (pOf S p)).length else if w = 3 then nI (nowOf S p).length else if w = 4 then bI (S.2.2.1 p).isSome else if w = 5 then nI (lkN S p (pcF S).length) else if w = 6 then wds (nowOf S p) else if w = 7 then knF S.2.2.2 (pX (pOf S p)) S.2.2.2.length 0 else if w = 8 then nI (bsz S.2.1 S.1 S.2.2.1 (pcF S) p) else nI (bbeg S.2.1 S.1 S.2.2.1 (pcF S) p)
def sPie (V : SPV) (p w : Int32) : ANS := if inP V.2.1 p then (if 0 ≤ w.toInt ∧ w.toInt ≤ 9 then (.inl (pieA V.2.1 p.toInt.toNat w), V) else (.inr eN, V)) else (.inr eI, V)
def cntA (V : SPV) (w : Int32) : Int32 := if w = 0 then nI V.2.1.1.length else if w = 1 then V.2.1.2.1.1 else if w = 2 then V.2.1.2.1.2.1 else if w = 3 then nI (pcF V.2.1).length else if w = 4 then nI (tcnt V.2.1.2.2.1 40) else if w = 5 then nI (bltS V.2.1).length else if w = 6 then nI V.2.1.1.length - biF V.2.1 (pcF V.2.1).length 0 0 else if w = 7 then V.2.1.2.1.2.2.1 else if w = 8 then nI V.2.1.2.1.2.2.2.1 else if w = 9 then nI V.2.1.2.1.2.2.2.2.length else if w = 10 then ulF V.2.1 (pcF V.2.1).length 0 0 else if w = 11 then awF V.2.1 (pcF V.2.1).length 0 0 else if w = 12 then nI V.2.1.2.2.2.length else if w = 13 then lgF V.2.1 (pcF V.2.1).length 0 0 else if w = 14 then nI V.2.2.1.length else -1
def sCnt (V : SPV) (w : Int32) : Int32 × SPV := (cntA V w, V)
section PIK
variable {f : AH} {n : Nat} {V : SPV} {T R : BL} {j b c o : Nat}
theorem f_wds5 (hr : isRw f j b c R) (hT : ∀ k, k < T.length → R.getD (o + k) 0 = T.getD k 0) (ho : o + T.length ≤ R.length) : PQ (mX5_countWords j (nI o) (nI T.length) f n) (fun y => y = (wds T, f, n)) := by
  have l1 := rw_6 hr
  have key : ∀ (d e i : Nat) (a : Int32) (v : Bool), i + e = T.length → v = (decide (0 < i) && isLet (T.getD (i - 1) 0)) → PQ (mX5_countWords_l8 d j (nI o) (nI T.length) a (bI v) (nI (o + i)) f n) (fun y => y = (wcF T e i a, f, n)) := by
    intro d
    induction d with
    | zero => intro _ _ _ _ _ _; exact pq_none
    | succ d ih =>
      intro e i a v hi hv
      unfold mX5_countWords_l8 mX5_countWords_b40
      rw [nI_add]
      refine pq_le (nI_toInt (by omega)) (nI_toInt (by omega)) (fun q => ?_) (fun q => ?_)
      · obtain rfl : e = 0 := by omega
        exact pq_ret rfl
      · obtain ⟨e, rfl⟩ : ∃ e', e = e' + 1 := ⟨e - 1, by omega⟩
        refine pq_ck (pq_is (f_getN hr (i := o + i) (by omega)) (pq_is (f_isLetter (f := f) (n := n)) ?_))
        rw [hT i (by omega)]
        unfold wcF
        have nx : ∀ z : Int32, (if isLet (T.getD i 0) = true ∧ ¬ (0 < i ∧ isLet (T.getD (i - 1) 0) = true) then a + 1 else a) = z → PQ (mX5_countWords_l8 d j (nI o) (nI T.length) z (bI (isLet (T.getD i 0))) (nI (o + i) + 1) f n) (fun y => y = (wcF T e (i + 1) (if isLet (T.getD i 0) = true ∧ ¬ (0 < i ∧ isLet (T.getD (i - 1) 0) = true) then a + 1 else a), f, n)) := fun z hz => by
          rw [hz, nI_1]
          exact ih e (i + 1) z (isLet (T.getD i 0)) (by omega) (by rw [decide_eq_true (Nat.succ_pos i), Bool.true_and, Nat.add_sub_cancel])
        have hv2 : v = true ↔ (0 < i ∧ isLet (T.getD (i - 1) 0) = true) := by rw [hv, Bool.and_eq_true, decide_eq_true_iff]
        refine pq_eq (fun q2 => ?_) (fun q2 => pq_eq (fun q3 => ?_) (fun q3 => ?_))
        · exact nx _ (if_neg (fun x => by rw [bI_0.mp q2] at x; exact Bool.false_ne_true x.1))
        · exact nx _ (if_pos ⟨by
            cases hb : isLet (T.getD i 0)
            · exact absurd (bI_0.mpr hb) q2
            · rfl, fun x => by rw [hv2.mpr x] at q3; exact absurd q3 (by decide)⟩)
        · exact nx _ (if_neg (fun x => q3 (bI_0.mpr (by
            cases hb : v
            · rfl
            · exact absurd (hv2.mp hb) x.2))))
  unfold mX5_countWords wds
  exact key rFU _ 0 0 false (Nat.zero_add _) rfl
theorem f_wds8 {S : SST} {i : Nat} {hi ag pc wn fp : Int32} (hp : f 0 = some (.inr (8, pfL hi ag pc wn fp))) (hK : KO f n S) (hi' : i < (pcF S).length) : PQ (mX8_countWords 0 (nI i) (some (75 + i)) f n) (fun y => y = (wds (nowOf S i), f, n)) := by
  have h40 : (pcF S).length ≤ 40 := pcs_40
  obtain ⟨x11, ep⟩ := KO_BD hK hi'
  unfold mX8_countWords mX8_countWords_b43
  refine pq_gR hp rfl (pq_sb (pq_ck (pq_call (f_toldForS (f := f) (n := n) (v := nI i) hK.1 (by rw [nI_toInt (by omega)]; omega)) (fun y hy => ?_))))
  obtain ⟨w, rfl, hwO⟩ := hy
  rw [nI_tn (by omega)] at hwO
  cases ht : S.2.2.1 i with
  | none =>
    rw [ht] at hwO
    have hwO : w = none := hwO
    subst hwO
    have hT := hK.2.1.1.2.1
    rw [now_n ht]
    exact pq_sb (pq_oNn (pq_gR hp rfl (pq_sb (pq_gR hK.2.1.1.1.1 rfl (pq_sb (pq_gI ep rfl (pq_gI ep rfl (pq_sb (pq_ck (pq_is (f_wds5 (T := pX (pOf S i)) (o := tAt (pcF S) i) hT (fun k hk => tx_gd hi' hk) (tx_le hi')) (pq_ret rfl)))))))))))
  | some t =>
    rw [ht] at hwO
    obtain ⟨j, rfl, ⟨b, c, hr, -⟩, h60⟩ := hwO
    rw [now_s ht]
    exact pq_sb (pq_oNs (pq_ck (pq_is (f_size hr) (pq_ck (pq_is (f_wds5 (T := t) (o := 0) hr (fun k hk => by rw [Nat.zero_add]) (by omega)) (pq_ret rfl))))))
theorem f_known {S : SST} {p : Nat} {hi ag pc wn fp : Int32} (hp : f 0 = some (.inr (8, pfL hi ag pc wn fp))) (hK : KO f n S) (hS : SV S) (hpp : p < (pcF S).length) : PQ (mX8_knownPair 0 (some (75 + p)) f n) (fun y => y = (knF S.2.2.2 (pX (pOf S p)) S.2.2.2.length 0, f, n)) := by
  have hm12 : S.2.2.2.length ≤ 12 := hS.2.2.1
  obtain ⟨⟨fr, la, e3, -, full, hc, hf⟩, -⟩ := id hK.1
  obtain ⟨x11, ep⟩ := KO_BD hK hpp
  have hT := hK.2.1.1.2.1
  have l6 := rw_6 hT
  have l1 : tAt (pcF S) p + (pX (pOf S p)).length ≤ (txs (pcF S)).length := tx_le hpp
  have hg : ∀ k, k < S.2.2.2.length → full.getD k ([], []) = S.2.2.2.getD k ([], []) := fun k hk => by rw [hf]; exact (gd_takeP (by omega)).symm
  have hfl : S.2.2.2.length ≤ full.length := by rw [hf, List.length_take]; omega
  have key : ∀ (d e i : Nat) (r : List (BL × BL)) (w : Option Nat), i + e = S.2.2.2.length → PCH f n r w → (∀ k, i + k < S.2.2.2.length → k < r.length ∧ r.getD k ([], []) = S.2.2.2.getD (i + k) ([], [])) → PQ (mX8_knownPair_l10 d 0 (some (75 + p)) w (nI i) f n) (fun y => y = (knF S.2.2.2 (pX (pOf S p)) e i, f, n)) := by
    intro d
    induction d with
    | zero => intro _ _ _ _ _ _ _; exact pq_none
    | succ d ih =>
      intro e i r w hi hcc hr
      unfold mX8_knownPair_l10 mX8_knownPair_b78 mX8_knownPair_b67
      refine pq_gR hp rfl (pq_sb (pq_gI e3 rfl (pq_le (nI_toInt (by omega)) (nI_toInt (by omega)) (fun q => ?_) (fun q => ?_))))
      · obtain rfl : e = 0 := by omega
        exact pq_ret rfl
      · obtain ⟨e, rfl⟩ : ∃ e', e = e' + 1 := ⟨e - 1, by omega⟩
        have h0 := hr 0 (by omega)
        cases r with
        | nil => exact absurd h0.1 (Nat.not_lt_zero _)
        | cons x r =>
          obtain ⟨j, jt, jd, older, rfl, -, ej, ⟨b1, c1, h1, -⟩, -, hrr⟩ := hcc
          have hx : x = S.2.2.2.getD i ([], []) := h0.2
          have hx6 := rw_6 h1
          have nxt : PQ ((gR f j 2 2).bind fun x2 => mX8_knownPair_l10 d 0 (some (75 + p)) x2 (nI i + (1 : Int32)) f n) (fun y => y = (knF S.2.2.2 (pX (pOf S p)) e (i + 1), f, n)) := by
            refine pq_gRw ej rfl ?_
            rw [nI_1]
            exact ih e (i + 1) r older (by omega) hrr (fun k hk => by
              have hz := hr (k + 1) (by omega)
              rw [show i + (k + 1) = i + 1 + k by omega] at hz
              exact ⟨Nat.lt_of_succ_lt_succ hz.1, hz.2⟩)
          refine pq_oNs (pq_gR ej rfl (pq_sb (pq_ck (pq_is (f_size h1) (pq_sb (pq_gI ep rfl (pq_eqi (nI_toInt (by omega)) (nI_toInt (by omega)) (fun q2 => ?_) (fun q2 => ?_))))))))
          · have e9 := sm_dec (L := x.1) (M := txs (pcF S)) (X := x.1) (Y := pX (pOf S p)) (a := 0) (b := tAt (pcF S) p) (m := (pX (pOf S p)).length) (by omega) (fun z hz => by rw [Nat.zero_add]) (fun z hz => tx_gd hpp hz) rfl
            refine pq_gR ej rfl (pq_gR hp rfl (pq_sb (pq_gR hK.2.1.1.1.1 rfl (pq_gI ep rfl (pq_gI ep rfl (pq_sb (pq_ck (pq_is (f_same (f := f) (n := n) (a := 0) h1 hT (by omega) l1) ?_))))))))
            rw [e9]
            unfold knF
            rw [← hx]
            refine pq_eq (fun q3 => ?_) (fun q3 => ?_)
            · rw [if_neg (decide_eq_false_iff_not.mp (bI_0.mp q3))]
              exact pq_sb nxt
            · rw [if_pos (show x.1 = pX (pOf S p) from by
                by_cases hq : x.1 = pX (pOf S p)
                · exact hq
                · exact absurd (bI_0.mpr (decide_eq_false hq)) q3)]
              exact pq_ret rfl
          · unfold knF
            rw [← hx, if_neg (fun hq => q2 (by rw [hq]))]
            exact pq_sb nxt
  unfold mX8_knownPair
  exact pq_gR hp rfl (pq_sb (pq_gRw e3 rfl (key rFU _ 0 full la (Nat.zero_add _) hc (fun k hk => ⟨by omega, by rw [Nat.zero_add]; exact hg k (by omega)⟩))))
end PIK
end
/-! part 66h.piece -/
section
section PIC
variable {f : AH} {n : Nat} {V : SPV}
theorem f_ahead {S : SST} {i : Nat} (hC : CUT f 59 (pcF S)) (hi : i < (pcF S).length) : PQ (mX1_hasLikeAhead 59 (nI i) f n) (fun y => y = (bI (erF S i i 0), f, n)) := by
  have h40 : (pcF S).length ≤ 40 := pcs_40
  have hv : inP S (nI i) := by show 0 ≤ (nI i).toInt ∧ (nI i).toInt < ((pcF S).length : Int); rw [nI_toInt (by omega)]; omega
  have key : ∀ (d e k : Nat), k + e = i → PQ (mX1_hasLikeAhead_l2 d 59 (nI i) (nI k) f n) (fun y => y = (bI (erF S i e k), f, n)) := by
    intro d
    induction d with
    | zero => intro _ _ _; exact pq_none
    | succ d ih =>
      intro e k hk
      unfold mX1_hasLikeAhead_l2
      refine pq_le (nI_toInt (by omega)) (nI_toInt (by omega)) (fun q => ?_) (fun q => ?_)
      · obtain rfl : e = 0 := by omega
        exact pq_ck (pq_ret rfl)
      · obtain ⟨e, rfl⟩ : ∃ e', e = e' + 1 := ⟨e - 1, by omega⟩
        have es : erF S i (e + 1) k = (lkB S i k || erF S i e (k + 1)) := rfl
        refine pq_ck (pq_is (f_areLike (f := f) (n := n) hC hv (i := k) (by omega)) ?_)
        rw [nI_tn (by omega), es]
        cases hb : lkB S i k with
        | false =>
          rw [Bool.false_or]
          refine pq_t rfl ?_
          rw [nI_1]; exact ih e (k + 1) (by omega)
        | true => exact pq_f (show ¬ (1 : Int32) = 0 by decide) (pq_ck (pq_ret rfl))
  unfold mX1_hasLikeAhead
  exact key rFU i 0 (Nat.zero_add _)
theorem f_unlike {S : SST} (hC : CUT f 59 (pcF S)) : PQ (mX1_unlikeCount 59 f n) (fun y => y = (ulF S (pcF S).length 0 0, f, n)) := by
  have h40 : (pcF S).length ≤ 40 := pcs_40
  have key : ∀ (d e i : Nat) (a : Int32), i + e = (pcF S).length → PQ (mX1_unlikeCount_l4 d 59 a (nI i) f n) (fun y => y = (ulF S e i a, f, n)) := by
    intro d
    induction d with
    | zero => intro _ _ _ _; exact pq_none
    | succ d ih =>
      intro e i a hi
      unfold mX1_unlikeCount_l4 mX1_unlikeCount_b23
      refine pq_gI hC.1.1.1 rfl (pq_le (nI_toInt (by omega)) (nI_toInt (by omega)) (fun q => ?_) (fun q => ?_))
      · obtain rfl : e = 0 := by omega
        exact pq_ret rfl
      · obtain ⟨e, rfl⟩ : ∃ e', e = e' + 1 := ⟨e - 1, by omega⟩
        refine pq_ck (pq_is (f_ahead (f := f) (n := n) hC (show i < (pcF S).length by omega)) ?_)
        unfold ulF
        cases hb : erF S i i 0 with
        | false =>
          rw [if_neg Bool.false_ne_true]
          refine pq_t rfl ?_
          rw [nI_1]; exact ih e (i + 1) _ (by omega)
        | true =>
          rw [if_pos rfl]
          refine pq_f (show ¬ (1 : Int32) = 0 by decide) ?_
          rw [nI_1]; exact ih e (i + 1) _ (by omega)
  unfold mX1_unlikeCount
  exact key rFU _ 0 0 (Nat.zero_add _)
theorem f_longest {S : SST} (hK : KO f n S) : PQ (mX1_longestText 59 f n) (fun y => y = (lgF S (pcF S).length 0 0, f, n)) := by
  have h40 : (pcF S).length ≤ 40 := pcs_40
  have key : ∀ (d e i : Nat) (a : Int32), i + e = (pcF S).length → PQ (mX1_longestText_l4 d 59 a (nI i) f n) (fun y => y = (lgF S e i a, f, n)) := by
    intro d
    induction d with
    | zero => intro _ _ _ _; exact pq_none
    | succ d ih =>
      intro e i a hi
      unfold mX1_longestText_l4 mX1_longestText_b34
      refine pq_gI hK.2.1.1.1.1 rfl (pq_le (nI_toInt (by omega)) (nI_toInt (by omega)) (fun q => ?_) (fun q => ?_))
      · obtain rfl : e = 0 := by omega
        exact pq_ret rfl
      · obtain ⟨e, rfl⟩ : ∃ e', e = e' + 1 := ⟨e - 1, by omega⟩
        have hi' : i < (pcF S).length := by omega
        obtain ⟨x11, ep⟩ := KO_BD hK hi'
        unfold lgF
        refine pq_ck (pq_is (f_cg75 hK hi') (pq_sb (pq_oNs (pq_gI ep rfl ?_))))
        rw [nI_1]; exact ih e (i + 1) _ (by omega)
  unfold mX1_longestText
  exact key rFU _ 0 0 (Nat.zero_add _)
theorem f_bytes {S : SST} (hK : KO f n S) : PQ (mX1_bytesInPieces 59 f n) (fun y => y = (biF S (pcF S).length 0 0, f, n)) := by
  have h40 : (pcF S).length ≤ 40 := pcs_40
  have key : ∀ (d e i : Nat) (a : Int32), i + e = (pcF S).length → PQ (mX1_bytesInPieces_l4 d 59 a (nI i) f n) (fun y => y = (biF S e i a, f, n)) := by
    intro d
    induction d with
    | zero => intro _ _ _ _; exact pq_none
    | succ d ih =>
      intro e i a hi
      unfold mX1_bytesInPieces_l4 mX1_bytesInPieces_b36
      refine pq_gI hK.2.1.1.1.1 rfl (pq_le (nI_toInt (by omega)) (nI_toInt (by omega)) (fun q => ?_) (fun q => ?_))
      · obtain rfl : e = 0 := by omega
        exact pq_ret rfl
      · obtain ⟨e, rfl⟩ : ∃ e', e = e' + 1 := ⟨e - 1, by omega⟩
        have hi' : i < (pcF S).length := by omega
        obtain ⟨x11, ep⟩ := KO_BD hK hi'
        unfold biF
        refine pq_ck (pq_is (f_cg75 hK hi') (pq_sb (pq_oNs (pq_gI ep rfl (pq_gI ep rfl ?_)))))
        rw [nI_1]; exact ih e (i + 1) _ (by omega)
  unfold mX1_bytesInPieces
  exact key rFU _ 0 0 (Nat.zero_add _)
theorem f_allW {S : SST} {hi ag pc wn fp : Int32} (hp : f 0 = some (.inr (8, pfL hi ag pc wn fp))) (hK : KO f n S) : PQ (mX8_countAllWords 0 f n) (fun y => y = (awF S (pcF S).length 0 0, f, n)) := by
  have h40 : (pcF S).length ≤ 40 := pcs_40
  have key : ∀ (d e i : Nat) (a : Int32), i + e = (pcF S).length → PQ (mX8_countAllWords_l4 d 0 a (nI i) f n) (fun y => y = (awF S e i a, f, n)) := by
    intro d
    induction d with
    | zero => intro _ _ _ _; exact pq_none
    | succ d ih =>
      intro e i a hi
      unfold mX8_countAllWords_l4 mX8_countAllWords_b37
      refine pq_gR hp rfl (pq_sb (pq_ck (pq_is (f_csize hK.2.1.1.1) (pq_le (nI_toInt (by omega)) (nI_toInt (by omega)) (fun q => ?_) (fun q => ?_)))))
      · obtain rfl : e = 0 := by omega
        exact pq_ret rfl
      · obtain ⟨e, rfl⟩ : ∃ e', e = e' + 1 := ⟨e - 1, by omega⟩
        have hi' : i < (pcF S).length := by omega
        unfold awF
        refine pq_gR hp rfl (pq_sb (pq_ck (pq_is (f_cg75 hK hi') (pq_sb (pq_oNs (pq_ck (pq_is (f_wds8 (f := f) (n := n) hp hK hi') ?_)))))))
        rw [nI_1]; exact ih e (i + 1) _ (by omega)
  unfold mX8_countAllWords
  exact key rFU _ 0 0 (Nat.zero_add _)
theorem ne_ti {w k : Int32} {x : Int} (h : w ≠ k) (hk : k.toInt = x) : w.toInt ≠ x := fun q => h (Int32.toInt_inj.mp (q.trans hk.symm))
theorem in_09 {w : Int32} : (0 ≤ w.toInt ∧ w.toInt ≤ 9) ↔ (w = 0 ∨ w = 1 ∨ w = 2 ∨ w = 3 ∨ w = 4 ∨ w = 5 ∨ w = 6 ∨ w = 7 ∨ w = 8 ∨ w = 9) := by
  constructor
  · intro h
    have hx : w.toInt = 0 ∨ w.toInt = 1 ∨ w.toInt = 2 ∨ w.toInt = 3 ∨ w.toInt = 4 ∨ w.toInt = 5 ∨ w.toInt = 6 ∨ w.toInt = 7 ∨ w.toInt = 8 ∨ w.toInt = 9 := by omega
    have k4 : (4 : Int32).toInt = 4 := by decide
    have k5 : (5 : Int32).toInt = 5 := by decide
    have k6 : (6 : Int32).toInt = 6 := by decide
    have m : ∀ {k : Int32} {x : Int}, k.toInt = x → w.toInt = x → w = k := fun hk q => Int32.toInt_inj.mp (q.trans hk.symm)
    rcases hx with q | q | q | q | q | q | q | q | q | q
    · exact Or.inl (m kt_0 q)
    · exact Or.inr (Or.inl (m kt_1 q))
    · exact Or.inr (Or.inr (Or.inl (m kt_2 q)))
    · exact Or.inr (Or.inr (Or.inr (Or.inl (m kt_3 q))))
    · exact Or.inr (Or.inr (Or.inr (Or.inr (Or.inl (m k4 q)))))
    · exact Or.inr (Or.inr (Or.inr (Or.inr (Or.inr (Or.inl (m k5 q))))))
    · exact Or.inr (Or.inr (Or.inr (Or.inr (Or.inr (Or.inr (Or.inl (m k6 q)))))))
    · exact Or.inr (Or.inr (Or.inr (Or.inr (Or.inr (Or.inr (Or.inr (Or.inl (m kt_7 q))))))))
    · exact Or.inr (Or.inr (Or.inr (Or.inr (Or.inr (Or.inr (Or.inr (Or.inr (Or.inl (m kt_8 q)))))))))
    · exact Or.inr (Or.inr (Or.inr (Or.inr (Or.inr (Or.inr (Or.inr (Or.inr (Or.inr (m kt_9 q)))))))))
  · rintro (rfl | rfl | rfl | rfl | rfl | rfl | rfl | rfl | rfl | rfl) <;> decide
theorem k_pie {p w : Int32} (h : RC f n V) : PQ (mX8_piece 0 p w f n) (COK (sPie V p w)) := by
  obtain ⟨ag, hp⟩ := RC_p h
  have hK := h.2.2.2.1.1
  have hS := h.2.2.2.1.2
  have h40 : (pcF V.2.1).length ≤ 40 := pcs_40
  obtain ⟨⟨fr, la, e3, -⟩, -⟩ := id hK.1
  unfold mX8_piece sPie
  refine pq_ck (pq_pot h (fun hin => ?_) (fun hin => ?_))
  · rw [if_pos hin, tS_l (v := some (75 + p.toInt.toNat)) rfl]
    obtain ⟨x11, ep⟩ := KO_BD hK (tn_lt hin)
    by_cases hw : 0 ≤ w.toInt ∧ w.toInt ≤ 9
    · rw [if_pos hw]
      have ok : ∀ {z : Int32}, z = pieA V.2.1 p.toInt.toNat w → COK (.inl (pieA V.2.1 p.toInt.toNat w), V) (.inl z, f, n) := fun hz => ⟨f, n, by rw [hz], h⟩
      refine pq_sb ?_
      rcases in_09.mp hw with rfl | rfl | rfl | rfl | rfl | rfl | rfl | rfl | rfl | rfl
      · exact pq_t rfl (pq_sb (pq_gI ep rfl (pq_ret (ok rfl))))
      · exact pq_f (by decide) (pq_t rfl (pq_sb (pq_gI ep rfl (pq_ret (ok rfl)))))
      · exact pq_f (by decide) (pq_f (by decide) (pq_t rfl (pq_sb (pq_gI ep rfl (pq_ret (ok rfl))))))
      · exact pq_f (by decide) (pq_f (by decide) (pq_f (by decide) (pq_t rfl (pq_ck (pq_is (f_nowSize hp hK hin) (pq_ret (ok rfl)))))))
      · refine pq_f (by decide) (pq_f (by decide) (pq_f (by decide) (pq_f (by decide) (pq_t rfl (pq_gR hp rfl (pq_sb (pq_ck (pq_call (f_toldForS (f := f) (n := n) hK.1 (inP_40 hin)) (fun y hy => ?_)))))))))
        obtain ⟨u, rfl, hu⟩ := hy
        unfold mX8_piece_b98
        cases ht : V.2.1.2.2.1 p.toInt.toNat with
        | none =>
          rw [ht] at hu
          have hu : u = none := hu
          subst hu
          exact pq_sb (pq_oNn (pq_ret (ok (show (0 : Int32) = bI (V.2.1.2.2.1 p.toInt.toNat).isSome by rw [ht]; rfl))))
        | some t =>
          rw [ht] at hu
          obtain ⟨j, rfl, -⟩ := hu
          exact pq_sb (pq_oNs (pq_ret (ok (show (1 : Int32) = bI (V.2.1.2.2.1 p.toInt.toNat).isSome by rw [ht]; rfl))))
      · exact pq_f (by decide) (pq_f (by decide) (pq_f (by decide) (pq_f (by decide) (pq_f (by decide) (pq_t rfl (pq_gR hp rfl (pq_sb (pq_ck (pq_is (f_likeN hK.2.1 hin) (pq_ret (ok rfl)))))))))))
      · have ew : PQ (mX8_countWords 0 p (some (75 + p.toInt.toNat)) f n) (fun y => y = (wds (nowOf V.2.1 p.toInt.toNat), f, n)) := by
          have e1 := (v_nI hin (by omega)).1
          have := f_wds8 (f := f) (n := n) hp hK (tn_lt hin)
          rw [← e1] at this; exact this
        exact pq_f (by decide) (pq_f (by decide) (pq_f (by decide) (pq_f (by decide) (pq_f (by decide) (pq_f (by decide) (pq_t rfl (pq_ck (pq_is ew (pq_ret (ok rfl))))))))))
      · exact pq_f (by decide) (pq_f (by decide) (pq_f (by decide) (pq_f (by decide) (pq_f (by decide) (pq_f (by decide) (pq_f (by decide) (pq_t rfl (pq_ck (pq_is (f_known hp hK hS (tn_lt hin)) (pq_ret (ok rfl)))))))))))
      · exact pq_f (by decide) (pq_f (by decide) (pq_f (by decide) (pq_f (by decide) (pq_f (by decide) (pq_f (by decide) (pq_f (by decide) (pq_f (by decide) (pq_t rfl (pq_sb (pq_gI ep rfl (pq_ret (ok rfl))))))))))))
      · exact pq_f (by decide) (pq_f (by decide) (pq_f (by decide) (pq_f (by decide) (pq_f (by decide) (pq_f (by decide) (pq_f (by decide) (pq_f (by decide) (pq_f (by decide) (pq_t rfl (pq_sb (pq_gI ep rfl (pq_ret (ok rfl)))))))))))))
    · rw [if_neg hw]
      have ne : ∀ k : Int32, (0 ≤ k.toInt ∧ k.toInt ≤ 9) → ¬ w = k := fun k hk q => hw (by rw [q]; exact hk)
      exact pq_sb (pq_f (ne 0 (by decide)) (pq_f (ne 1 (by decide)) (pq_f (ne 2 (by decide)) (pq_f (ne 3 (by decide)) (pq_f (ne 4 (by decide)) (pq_f (ne 5 (by decide)) (pq_f (ne 6 (by decide)) (pq_f (ne 7 (by decide)) (pq_f (ne 8 (by decide)) (pq_f (ne 9 (by decide)) (pq_ret ⟨f, n, rfl, h⟩)))))))))))
  · rw [if_neg hin]; exact pq_ret ⟨f, n, rfl, h⟩
theorem k_cnt {w : Int32} (h : RC f n V) : PQ (mX8_count 0 w f n) (COI (sCnt V w)) := by
  obtain ⟨ag, hp⟩ := RC_p h
  have hK := h.2.2.2.1.1
  have hS := h.2.2.2.1.2
  obtain ⟨⟨fr, la, e3, ⟨b, c, hr, -⟩, -⟩, -⟩ := id hK.1
  obtain ⟨qw, hb⟩ := hK.2.2.1.1
  have h7 : V.2.1.2.1.2.2.1 = 0 ∨ V.2.1.2.1.2.2.1 = 1 := hK.1.2.2.2.1.2.2.1
  unfold mX8_count sCnt cntA
  refine pq_eq (fun q => ?_) (fun q => ?_)
  · rw [if_pos q]; exact pq_gR hp rfl (pq_sb (pq_gR e3 rfl (pq_sb (pq_ck (pq_is (f_size hr) (pq_ret ⟨f, n, rfl, h⟩))))))
  rw [if_neg q]
  refine pq_eq (fun q => ?_) (fun q => ?_)
  · rw [if_pos q]; exact pq_gR hp rfl (pq_sb (pq_gI e3 rfl (pq_ret ⟨f, n, rfl, h⟩)))
  rw [if_neg q]
  refine pq_eq (fun q => ?_) (fun q => ?_)
  · rw [if_pos q]; exact pq_gR hp rfl (pq_sb (pq_gI e3 rfl (pq_ret ⟨f, n, rfl, h⟩)))
  rw [if_neg q]
  refine pq_eq (fun q => ?_) (fun q => ?_)
  · rw [if_pos q]; exact pq_gR hp rfl (pq_sb (pq_ck (pq_is (f_csize hK.2.1.1.1) (pq_ret ⟨f, n, rfl, h⟩))))
  rw [if_neg q]
  refine pq_eq (fun q => ?_) (fun q => ?_)
  · rw [if_pos q]; exact pq_gR hp rfl (pq_sb (pq_ck (pq_is (f_tcount hK.1) (pq_ret ⟨f, n, rfl, h⟩))))
  rw [if_neg q]
  refine pq_eq (fun q => ?_) (fun q => ?_)
  · rw [if_pos q]; exact pq_gR hp rfl (pq_sb (pq_gR hb rfl (pq_sb (pq_ck (pq_is (f_size hK.2.2.2.1) (pq_ret ⟨f, n, rfl, h⟩))))))
  rw [if_neg q]
  refine pq_eq (fun q => ?_) (fun q => ?_)
  · rw [if_pos q]; exact pq_gR hp rfl (pq_sb (pq_gR e3 rfl (pq_sb (pq_ck (pq_is (f_size hr) (pq_gR hp rfl (pq_sb (pq_ck (pq_is (f_bytes hK) (pq_ret ⟨f, n, rfl, h⟩))))))))))
  rw [if_neg q]
  refine pq_eq (fun q => ?_) (fun q => ?_)
  · rw [if_pos q]
    unfold mX8_count_b164
    refine pq_gR hp rfl (pq_sb (pq_gI e3 rfl ?_))
    rcases h7 with h7 | h7
    · rw [h7]; exact pq_t rfl (pq_ret ⟨f, n, rfl, h⟩)
    · rw [h7]; exact pq_f (by decide) (pq_ret ⟨f, n, rfl, h⟩)
  rw [if_neg q]
  refine pq_eq (fun q => ?_) (fun q => ?_)
  · rw [if_pos q]; exact pq_gR hp rfl (pq_sb (pq_gI e3 rfl (pq_ret ⟨f, n, rfl, h⟩)))
  rw [if_neg q]
  refine pq_eq (fun q => ?_) (fun q => ?_)
  · rw [if_pos q]; exact pq_gR hp rfl (pq_sb (pq_gI e3 rfl (pq_ret ⟨f, n, rfl, h⟩)))
  rw [if_neg q]
  refine pq_eq (fun q => ?_) (fun q => ?_)
  · rw [if_pos q]; exact pq_gR hp rfl (pq_sb (pq_ck (pq_is (f_unlike hK.2.1) (pq_ret ⟨f, n, rfl, h⟩))))
  rw [if_neg q]
  refine pq_eq (fun q => ?_) (fun q => ?_)
  · rw [if_pos q]; exact pq_ck (pq_is (f_allW hp hK) (pq_ret ⟨f, n, rfl, h⟩))
  rw [if_neg q]
  refine pq_eq (fun q => ?_) (fun q => ?_)
  · rw [if_pos q]; exact pq_gR hp rfl (pq_sb (pq_gI e3 rfl (pq_ret ⟨f, n, rfl, h⟩)))
  rw [if_neg q]
  refine pq_eq (fun q => ?_) (fun q => ?_)
  · rw [if_pos q]; exact pq_gR hp rfl (pq_sb (pq_ck (pq_is (f_longest hK) (pq_ret ⟨f, n, rfl, h⟩))))
  rw [if_neg q]
  refine pq_eq (fun q => ?_) (fun q => ?_)
  · rw [if_pos q]; exact pq_gI hp rfl (pq_ret ⟨f, n, rfl, h⟩)
  · rw [if_neg q]; exact pq_ret ⟨f, n, rfl, h⟩
end PIC
end
/-! part 66i.piece -/
section
section PIR
variable {σ : RS9} {V : SPV}
theorem r_nowM {p : Nat} (h : RR9 σ V) (hp : p < (pcF V.2.1).length) : PQ (mX9_nowMany (nI p) σ) (fun y => y = (nI (nowOf V.2.1 p).length, σ)) := pq_tail (r_nowMany h.2.1.1.2.2.1 h.2.1.2 hp) (fun y hy => by rw [hy, nw_now])
theorem r_nowB {p k : Nat} (h : RR9 σ V) (hp : p < (pcF V.2.1).length) (hk : k < (nowOf V.2.1 p).length) : PQ (mX9_nowByte (nI p) (nI k) σ) (fun y => y = ((nowOf V.2.1 p).getD k 0, σ)) := pq_tail (r_nowByte h.2.1.1.2.2.1 h.2.1.2 hp (by rw [nw_now]; exact hk)) (fun y hy => by rw [hy, nw_now])
theorem RR_nl {p : Nat} (h : RR9 σ V) (hp : p < (pcF V.2.1).length) : (nowOf V.2.1 p).length ≤ 600 := by
  have h40 : (pcF V.2.1).length ≤ 40 := pcs_40
  cases ht : V.2.1.2.2.1 p with
  | none => rw [now_n ht]; have := tx_le hp; have := h.2.1.2.2.1.2.1; show (pX ((pcF V.2.1).getD p pc0)).length ≤ 600; omega
  | some t => rw [now_s ht]; have := ((h.2.1.1.2.2.1 p (by omega)).2 t ht).1; omega
theorem r_likeN {p : Nat} (h : RR9 σ V) (hp : p < (pcF V.2.1).length) : PQ (mX9_likeMany (nI p) σ) (fun y => y = (nI (lkN V.2.1 p (pcF V.2.1).length), σ)) := by
  obtain ⟨h33, -⟩ := RM_33 h.2.1
  have h40 : (pcF V.2.1).length ≤ 40 := pcs_40
  have key : ∀ (d i : Nat), i ≤ (pcF V.2.1).length → PQ (mX9_likeMany_l4 d (nI p) (nI (lkN V.2.1 p i)) (nI i) σ) (fun y => y = (nI (lkN V.2.1 p (pcF V.2.1).length), σ)) := by
    intro d
    induction d with
    | zero => intro _ _; exact pq_none
    | succ d ih =>
      intro i hi
      unfold mX9_likeMany_l4 mX9_likeMany_b27
      rw [h33]
      refine pq_le (nI_toInt (by omega)) (nI_toInt (by omega)) (fun q => ?_) (fun q => ?_)
      · obtain rfl : i = (pcF V.2.1).length := by omega
        exact pq_ret rfl
      · have hi' : i < (pcF V.2.1).length := by omega
        have e9 : lkN V.2.1 p (i + 1) = lkN V.2.1 p i + (if lkB V.2.1 p i = true then 1 else 0) := rfl
        refine pq_isr (a := bI (lkB V.2.1 p i)) (r_areLike h.2.1.2 hp hi') (if_01 (fun q2 => ?_) (fun q2 => ?_))
        · rw [if_neg (by rw [q2]; exact Bool.false_ne_true)] at e9
          have e8 : nI (lkN V.2.1 p i) + (0 : Int32) = nI (lkN V.2.1 p (i + 1)) := by rw [e9]; exact nI_add _ 0
          rw [e8, nI_1]; exact ih (i + 1) (by omega)
        · rw [if_pos q2] at e9
          rw [nI_1, nI_1, ← e9]; exact ih (i + 1) (by omega)
  unfold mX9_likeMany
  exact key rFU 0 (Nat.zero_le _)
theorem r_wds {p : Nat} (h : RR9 σ V) (hp : p < (pcF V.2.1).length) : PQ (mX9_wordsOf (nI p) σ) (fun y => y = (wds (nowOf V.2.1 p), σ)) := by
  have hl := RR_nl h hp
  have hM := r_nowM h hp
  have hB := fun k hk => r_nowB (k := k) h hp hk
  unfold wds
  generalize nowOf V.2.1 p = T at hl hM hB ⊢
  have key : ∀ (d e i : Nat) (a : Int32), i + e = T.length → PQ (mX9_wordsOf_l4 d (nI p) a (nI i) σ) (fun y => y = (wcF T e i a, σ)) := by
    intro d
    induction d with
    | zero => intro _ _ _ _; exact pq_none
    | succ d ih =>
      intro e i a hi
      unfold mX9_wordsOf_l4 mX9_wordsOf_b48 mX9_wordsOf_b44 mX9_wordsOf_b49
      refine pq_isr hM (pq_le (nI_toInt (by omega)) (nI_toInt (by omega)) (fun q => ?_) (fun q => ?_))
      · obtain rfl : e = 0 := by omega
        exact pq_ret rfl
      · obtain ⟨e, rfl⟩ : ∃ e', e = e' + 1 := ⟨e - 1, by omega⟩
        unfold wcF
        have n0 : ∀ z : Int32, (if isLet (T.getD i 0) = true ∧ ¬ (0 < i ∧ isLet (T.getD (i - 1) 0) = true) then a + 1 else a) = z → PQ (mX9_wordsOf_l4 d (nI p) z (nI i + 1) σ) (fun y => y = (wcF T e (i + 1) (if isLet (T.getD i 0) = true ∧ ¬ (0 < i ∧ isLet (T.getD (i - 1) 0) = true) then a + 1 else a), σ)) := fun z hz => by
          rw [hz, nI_1]
          exact ih e (i + 1) z (by omega)
        refine pq_isr (hB i (by omega)) (pq_isr r_isLetter (if_01 (fun q2 => ?_) (fun q2 => ?_)))
        · rw [Int32.add_zero]
          exact n0 _ (if_neg (fun x => by rw [q2] at x; exact Bool.false_ne_true x.1))
        · refine pq_eqi (nI_toInt (by omega)) kt_0 (fun q3 => ?_) (fun q3 => ?_)
          · exact n0 _ (if_pos ⟨q2, fun x => by omega⟩)
          · have e1 : nI i - (1 : Int32) = nI (i - 1) := nI_sb (a := i) (b := 1) (by omega) (by omega)
            rw [e1]
            refine pq_isr (hB (i - 1) (by omega)) (pq_isr r_isLetter (if_01 (fun q4 => ?_) (fun q4 => ?_)))
            · exact n0 _ (if_pos ⟨q2, fun x => by rw [q4] at x; exact Bool.false_ne_true x.2⟩)
            · rw [Int32.add_zero]
              exact n0 _ (if_neg (fun x => x.2 ⟨by omega, q4⟩))
  unfold mX9_wordsOf
  exact key rFU _ 0 0 (Nat.zero_add _)
theorem r_known {p : Nat} (h : RR9 σ V) (hp : p < (pcF V.2.1).length) : PQ (mX9_knownOf (nI p) σ) (fun y => y = (knF V.2.1.2.2.2 (pX (pOf V.2.1 p)) V.2.1.2.2.2.length 0, σ)) := by
  obtain ⟨p42, p12, pw⟩ := h.2.1.1.2.2.2
  have h40 : (pcF V.2.1).length ≤ 40 := pcs_40
  have e42 : rGa σ 1 (42 : Int32) = nI V.2.1.2.2.2.length := (rd_nI (k := 42) (by omega)).trans p42
  obtain ⟨-, -, -, a41, a42⟩ := RR_pc h hp
  have l1 : tAt (pcF V.2.1) p + (pX (pOf V.2.1 p)).length ≤ (txs (pcF V.2.1)).length := tx_le hp
  have l6 : (txs (pcF V.2.1)).length ≤ 600 := h.2.1.2.2.1.2.1
  have t43 := h.2.1.2.2.1.2.2.2.1
  have c42 : rGa σ 42 (nI p) = nI (pX (pOf V.2.1 p)).length := (rd_nI (by omega)).trans a42
  have c41 : rGa σ 41 (nI p) = nI (tAt (pcF V.2.1) p) := (rd_nI (by omega)).trans a41
  have hX43 : ∀ k, k < (pX (pOf V.2.1 p)).length → σ.2 43 (tAt (pcF V.2.1) p + k) = (pX (pOf V.2.1 p)).getD k 0 := fun k hk => (t43 _ (by omega)).trans (tx_gd hp hk)
  generalize pX (pOf V.2.1 p) = X at c42 l1 hX43 ⊢
  have l47z : ∀ (rec2 : Int32 → Int32 → RS9 → Option (Int32 × RS9)) (v2 v3 : Int32) (Q : Int32 × RS9 → Prop), PQ (rec2 (nI p) (v2 + 1) σ) Q → ∀ d k, PQ (mX9_knownOf_l47 rec2 d (nI p) v2 v3 0 k σ) Q := by
    intro rec2 v2 v3 Q hh d k
    cases d with
    | zero => exact pq_none
    | succ d =>
      unfold mX9_knownOf_l47 mX9_knownOf_b104
      exact pq_ck (pq_ite (pq_t rfl hh) (pq_t rfl (pq_t rfl hh)))
  have l47 : ∀ (rec2 : Int32 → Int32 → RS9 → Option (Int32 × RS9)) (v2 : Int32) (i : Nat) (t : BL) (Q : Int32 × RS9 → Prop), i < 12 → PW9 (σ.2 1) (2883 + 122 * i) t → t.length = X.length → (t ≠ X → PQ (rec2 (nI p) (v2 + 1) σ) Q) → (t = X → Q (v2, σ)) → ∀ d k, k ≤ X.length → (∀ z, z < k → t.getD z 0 = X.getD z 0) → PQ (mX9_knownOf_l47 rec2 d (nI p) v2 (nI (2883 + 122 * i)) 1 (nI k) σ) Q := by
    intro rec2 v2 i t Q hi12 hW hl g0 g1 d
    induction d with
    | zero => intro _ _ _; exact pq_none
    | succ d ih =>
      intro k hk he
      unfold mX9_knownOf_l47 mX9_knownOf_b104 mX9_knownOf_b96
      rw [c42, c41, nI_1]
      refine pq_ck (pq_le (nI_toInt (by omega)) (nI_toInt (by omega)) (fun q => ?_) (fun q => ?_))
      · exact pq_f (show ¬ (1 : Int32) = 0 by decide) (pq_ret (g1 (bl_ext hl (fun z hz => he z (by omega)))))
      · have hk' : k < X.length := by omega
        rw [nI_add, nI_add, rd_nI (by omega), rd_nI (by omega), hX43 k hk', hW.2.2 k (by omega)]
        refine pq_f (show ¬ (1 : Int32) = 0 by decide) (pq_ck (pq_ck (pq_ck (pq_eq (fun q2 => ?_) (fun q2 => ?_)))))
        · rw [nI_1]
          exact ih (k + 1) (by omega) (fun z hz => by
            by_cases ez : z = k
            · rw [ez]; exact q2
            · exact he z (by omega))
        · exact l47z rec2 _ _ Q (g0 (fun e => q2 (by rw [e]))) d _
  have key : ∀ (d e i : Nat), i + e = V.2.1.2.2.2.length → PQ (mX9_knownOf_l2 d (nI p) (nI i) σ) (fun y => y = (knF V.2.1.2.2.2 X e i, σ)) := by
    intro d
    induction d with
    | zero => intro _ _ _; exact pq_none
    | succ d ih =>
      intro e i hi
      unfold mX9_knownOf_l2 mX9_knownOf_b42
      rw [e42]
      refine pq_ck (pq_le (nI_toInt (by omega)) (nI_toInt (by omega)) (fun q => ?_) (fun q => ?_))
      · obtain rfl : e = 0 := by omega
        exact pq_ret rfl
      · obtain ⟨e, rfl⟩ : ∃ e', e = e' + 1 := ⟨e - 1, by omega⟩
        obtain ⟨w1, -⟩ := pw i (by omega)
        have e1 : rGa σ 1 (nI (2883 + 122 * i)) = nI (V.2.1.2.2.2.getD i ([], [])).1.length := (rd_nI (by omega)).trans w1.2.1
        have w60 := w1.1
        rw [nI_122m, e1, c42]
        unfold knF
        have nx : PQ (mX9_knownOf_l2 d (nI p) (nI i + 1) σ) (fun y => y = (knF V.2.1.2.2.2 X e (i + 1), σ)) := by
          rw [nI_1]; exact ih e (i + 1) (by omega)
        refine pq_ck (pq_ck (pq_eqi (nI_toInt (by omega)) (nI_toInt (by omega)) (fun q2 => ?_) (fun q2 => ?_)))
        · refine l47 _ _ i (V.2.1.2.2.2.getD i ([], [])).1 _ (by omega) w1 (by omega) (fun g => ?_) (fun g => ?_) rFU 0 (Nat.zero_le _) (fun z hz => absurd hz (Nat.not_lt_zero _))
          · rw [if_neg g]; exact nx
          · rw [if_pos g]
        · rw [if_neg (fun g => q2 (by rw [g]))]
          exact l47z _ _ _ _ nx rFU _
  unfold mX9_knownOf
  exact key rFU _ 0 (Nat.zero_add _)
theorem r_unlike (h : RR9 σ V) : PQ (mX9_unlikeTexts σ) (fun y => y = (ulF V.2.1 (pcF V.2.1).length 0 0, σ)) := by
  obtain ⟨h33, -⟩ := RM_33 h.2.1
  have h40 : (pcF V.2.1).length ≤ 40 := pcs_40
  have l17z : ∀ (rec4 : Int32 → Int32 → RS9 → Option (Int32 × RS9)) (a v2 : Int32) (Q : Int32 × RS9 → Prop), PQ (rec4 a (v2 + 1) σ) Q → ∀ d k, PQ (mX9_unlikeTexts_l17 rec4 d a v2 0 k σ) Q := by
    intro rec4 a v2 Q hh d
    induction d with
    | zero => intro _; exact pq_none
    | succ d ih =>
      intro k
      unfold mX9_unlikeTexts_l17 mX9_unlikeTexts_b41 mX9_unlikeTexts_b42 mX9_unlikeTexts_b59
      refine pq_ite (pq_t rfl ?_) (pq_t rfl (ih _))
      rw [Int32.add_zero]; exact hh
  have l17 : ∀ (rec4 : Int32 → Int32 → RS9 → Option (Int32 × RS9)) (a : Int32) (i : Nat) (Q : Int32 × RS9 → Prop), i < (pcF V.2.1).length → ∀ d e k, k + e = i → (erF V.2.1 i e k = true → PQ (rec4 a (nI i + 1) σ) Q) → (erF V.2.1 i e k = false → PQ (rec4 (a + 1) (nI i + 1) σ) Q) → PQ (mX9_unlikeTexts_l17 rec4 d a (nI i) 1 (nI k) σ) Q := by
    intro rec4 a i Q hi d
    induction d with
    | zero => intro _ _ _ _ _; exact pq_none
    | succ d ih =>
      intro e k hk g1 g0
      unfold mX9_unlikeTexts_l17 mX9_unlikeTexts_b41 mX9_unlikeTexts_b42 mX9_unlikeTexts_b59
      refine pq_le (nI_toInt (by omega)) (nI_toInt (by omega)) (fun q => ?_) (fun q => ?_)
      · obtain rfl : e = 0 := by omega
        exact pq_f (show ¬ (1 : Int32) = 0 by decide) (g0 rfl)
      · obtain ⟨e, rfl⟩ : ∃ e', e = e' + 1 := ⟨e - 1, by omega⟩
        have es : erF V.2.1 i (e + 1) k = (lkB V.2.1 i k || erF V.2.1 i e (k + 1)) := rfl
        rw [es] at g1 g0
        refine pq_f (show ¬ (1 : Int32) = 0 by decide) (pq_isr (a := bI (lkB V.2.1 i k)) (r_areLike h.2.1.2 hi (show k < (pcF V.2.1).length by omega)) (if_01 (fun q2 => ?_) (fun q2 => ?_)))
        · rw [q2, Bool.false_or] at g1 g0
          rw [nI_1]; exact ih e (k + 1) (by omega) g1 g0
        · rw [q2, Bool.true_or] at g1
          exact l17z rec4 a _ Q (g1 rfl) d _
  have key : ∀ (d e i : Nat) (a : Int32), i + e = (pcF V.2.1).length → PQ (mX9_unlikeTexts_l4 d a (nI i) σ) (fun y => y = (ulF V.2.1 e i a, σ)) := by
    intro d
    induction d with
    | zero => intro _ _ _ _; exact pq_none
    | succ d ih =>
      intro e i a hi
      unfold mX9_unlikeTexts_l4
      rw [h33]
      refine pq_le (nI_toInt (by omega)) (nI_toInt (by omega)) (fun q => ?_) (fun q => ?_)
      · obtain rfl : e = 0 := by omega
        exact pq_ret rfl
      · obtain ⟨e, rfl⟩ : ∃ e', e = e' + 1 := ⟨e - 1, by omega⟩
        unfold ulF
        refine l17 _ a i _ (by omega) rFU i 0 (Nat.zero_add _) (fun g => ?_) (fun g => ?_)
        · rw [if_pos g]; show PQ (mX9_unlikeTexts_l4 d a (nI i + 1) σ) _; rw [nI_1]; exact ih e (i + 1) _ (by omega)
        · rw [if_neg (by rw [g]; exact Bool.false_ne_true)]; show PQ (mX9_unlikeTexts_l4 d (a + 1) (nI i + 1) σ) _; rw [nI_1]; exact ih e (i + 1) _ (by omega)
  unfold mX9_unlikeTexts
  exact key rFU _ 0 0 (Nat.zero_add _)
theorem r_longest (h : RR9 σ V) : PQ (mX9_longest σ) (fun y => y = (lgF V.2.1 (pcF V.2.1).length 0 0, σ)) := by
  obtain ⟨h33, -⟩ := RM_33 h.2.1
  have h40 : (pcF V.2.1).length ≤ 40 := pcs_40
  have key : ∀ (d e i : Nat) (a : Int32), i + e = (pcF V.2.1).length → PQ (mX9_longest_l4 d a (nI i) σ) (fun y => y = (lgF V.2.1 e i a, σ)) := by
    intro d
    induction d with
    | zero => intro _ _ _ _; exact pq_none
    | succ d ih =>
      intro e i a hi
      unfold mX9_longest_l4 mX9_longest_b29
      rw [h33]
      refine pq_le (nI_toInt (by omega)) (nI_toInt (by omega)) (fun q => ?_) (fun q => ?_)
      · obtain rfl : e = 0 := by omega
        exact pq_ret rfl
      · obtain ⟨e, rfl⟩ : ∃ e', e = e' + 1 := ⟨e - 1, by omega⟩
        obtain ⟨-, -, -, -, a42⟩ := RR_pc h (show i < (pcF V.2.1).length by omega)
        have c42 : rGa σ 42 (nI i) = nI (pX (pOf V.2.1 i)).length := (rd_nI (by omega)).trans a42
        rw [c42]
        unfold lgF jMax
        refine pq_ck (pq_le rfl rfl (fun q2 => ?_) (fun q2 => pq_ck ?_))
        · rw [if_neg (fun g => by have := Int32.lt_iff_toInt_lt.mp g; omega), nI_1]; exact ih e (i + 1) _ (by omega)
        · rw [if_pos (Int32.lt_iff_toInt_lt.mpr q2), nI_1]; exact ih e (i + 1) _ (by omega)
  unfold mX9_longest
  exact key rFU _ 0 0 (Nat.zero_add _)
theorem r_skel (h : RR9 σ V) : PQ (mX9_skeleton σ) (fun y => y = (nI V.2.1.1.length - biF V.2.1 (pcF V.2.1).length 0 0, σ)) := by
  obtain ⟨h33, -⟩ := RM_33 h.2.1
  have h40 : (pcF V.2.1).length ≤ 40 := pcs_40
  have e0 : rGa σ 1 (0 : Int32) = nI V.2.1.1.length := (rd_nI (k := 0) (by omega)).trans h.2.1.1.1.1.1
  have key : ∀ (d e i : Nat) (a : Int32), i + e = (pcF V.2.1).length → PQ (mX9_skeleton_l9 d (nI V.2.1.1.length - a) (nI i) σ) (fun y => y = (nI V.2.1.1.length - biF V.2.1 e i a, σ)) := by
    intro d
    induction d with
    | zero => intro _ _ _ _; exact pq_none
    | succ d ih =>
      intro e i a hi
      unfold mX9_skeleton_l9
      rw [h33]
      refine pq_le (nI_toInt (by omega)) (nI_toInt (by omega)) (fun q => ?_) (fun q => ?_)
      · obtain rfl : e = 0 := by omega
        exact pq_ret rfl
      · obtain ⟨e, rfl⟩ : ∃ e', e = e' + 1 := ⟨e - 1, by omega⟩
        obtain ⟨a34, a35, -⟩ := RR_pc h (show i < (pcF V.2.1).length by omega)
        have c34 : rGa σ 34 (nI i) = nI (pOf V.2.1 i).1 := (rd_nI (by omega)).trans a34
        have c35 : rGa σ 35 (nI i) = nI (pOf V.2.1 i).2.1 := (rd_nI (by omega)).trans a35
        rw [c34, c35, Int32.sub_sub, nI_1]
        unfold biF
        exact pq_ck (pq_ck (ih e (i + 1) _ (by omega)))
  unfold mX9_skeleton
  rw [e0]
  have k := key rFU (pcF V.2.1).length 0 0 (Nat.zero_add _)
  rw [Int32.sub_zero] at k
  exact pq_ck k
theorem r_allW (h : RR9 σ V) : PQ (mX9_allWords σ) (fun y => y = (awF V.2.1 (pcF V.2.1).length 0 0, σ)) := by
  obtain ⟨h33, -⟩ := RM_33 h.2.1
  have h40 : (pcF V.2.1).length ≤ 40 := pcs_40
  have key : ∀ (d e i : Nat) (a : Int32), i + e = (pcF V.2.1).length → PQ (mX9_allWords_l4 d a (nI i) σ) (fun y => y = (awF V.2.1 e i a, σ)) := by
    intro d
    induction d with
    | zero => intro _ _ _ _; exact pq_none
    | succ d ih =>
      intro e i a hi
      unfold mX9_allWords_l4
      rw [h33]
      refine pq_le (nI_toInt (by omega)) (nI_toInt (by omega)) (fun q => ?_) (fun q => ?_)
      · obtain rfl : e = 0 := by omega
        exact pq_ret rfl
      · obtain ⟨e, rfl⟩ : ∃ e', e = e' + 1 := ⟨e - 1, by omega⟩
        unfold awF
        refine pq_isr (r_wds h (show i < (pcF V.2.1).length by omega)) ?_
        rw [nI_1]; exact ih e (i + 1) _ (by omega)
  unfold mX9_allWords
  exact key rFU _ 0 0 (Nat.zero_add _)
theorem r_pie {p w : Int32} (h : RR9 σ V) (hS : SV V.2.1) : PQ (mX9_piece p w σ) (RAN (sPie V p w) wc_L_piece) := by
  obtain ⟨h33, h40⟩ := RM_33 h.2.1
  have h4 := RR_4 h
  unfold mX9_piece sPie
  refine pq_isr (r_isPieceThere h33 h40) (if_01 (fun q => ?_) (fun q => ?_))
  · rw [if_neg (of_decide_eq_false q)]
    unfold mX9_piece_b28
    exact pq_f (show ¬ (1 : Int32) ≤ 0 by decide) (pq_ret ⟨RR_f0 h, sf_eq⟩)
  · have hin : inP V.2.1 p := of_decide_eq_true q
    rw [if_pos hin]
    obtain ⟨e1, e2⟩ := v_nI hin (by omega)
    generalize p.toInt.toNat = p' at e1 e2 ⊢
    subst e1
    have h0 := RR_f0 (x := 0) h
    have hz : (rSf σ 0 0).1 0 = 0 := sf_eq
    have e2' : p' < (pcF V.2.1).length := e2
    obtain ⟨a34, a35, -, -, a42⟩ := RR_pc h e2'
    unfold mX9_piece_b28
    refine pq_isr r_isIn (if_01 (fun q2 => ?_) (fun q2 => ?_))
    · have q2 := of_decide_eq_false q2
      rw [kt_0, kt_9] at q2
      rw [if_neg q2]
      exact pq_f (show ¬ (2 : Int32) ≤ 0 by decide) (pq_ret ⟨RR_f0 h, sf_eq⟩)
    · have q2 := of_decide_eq_true q2
      rw [kt_0, kt_9] at q2
      rw [if_pos q2]
      refine pq_t (show (0 : Int32) ≤ 0 by decide) ?_
      have ok : ∀ {z : Int32}, z = pieA V.2.1 p' w → RAN (.inl (pieA V.2.1 p' w), V) wc_L_piece (z, rSf σ 0 0) := fun hq => ⟨h0, hq, hz⟩
      rcases in_09.mp q2 with rfl | rfl | rfl | rfl | rfl | rfl | rfl | rfl | rfl | rfl
      · exact pq_t rfl (pq_ck (pq_ret (ok ((rd_nI (by omega)).trans a34))))
      · exact pq_f (by decide) (pq_t rfl (pq_ck (pq_ret (ok ((rd_nI (by omega)).trans a35)))))
      · exact pq_f (by decide) (pq_f (by decide) (pq_t rfl (pq_ck (pq_ret (ok ((rd_nI (by omega)).trans a42))))))
      · exact pq_f (by decide) (pq_f (by decide) (pq_f (by decide) (pq_t rfl (pq_isr (r_nowM h0 e2') (pq_ret (ok rfl))))))
      · refine pq_f (by decide) (pq_f (by decide) (pq_f (by decide) (pq_f (by decide) (pq_t rfl (pq_isr (r_toldOf h0.2.1.1.2.2.1 (by omega)) ?_)))))
        unfold mX9_piece_b133
        have ht := (h0.2.1.1.2.2.1 p' (by omega)).2
        cases hq : V.2.1.2.2.1 p' with
        | none => exact pq_t rfl (pq_ret (ok (show (0 : Int32) = bI (V.2.1.2.2.1 p').isSome by rw [hq]; rfl)))
        | some t =>
          have h60 := (ht t hq).1
          exact pq_f (nI_ne (by omega)) (pq_ret (ok (show (1 : Int32) = bI (V.2.1.2.2.1 p').isSome by rw [hq]; rfl)))
      · exact pq_f (by decide) (pq_f (by decide) (pq_f (by decide) (pq_f (by decide) (pq_f (by decide) (pq_t rfl (pq_isr (r_likeN h0 e2') (pq_ret (ok rfl))))))))
      · exact pq_f (by decide) (pq_f (by decide) (pq_f (by decide) (pq_f (by decide) (pq_f (by decide) (pq_f (by decide) (pq_t rfl (pq_isr (r_wds h0 e2') (pq_ret (ok rfl)))))))))
      · exact pq_f (by decide) (pq_f (by decide) (pq_f (by decide) (pq_f (by decide) (pq_f (by decide) (pq_f (by decide) (pq_f (by decide) (pq_t rfl (pq_isr (r_known h0 e2') (pq_ret (ok rfl))))))))))
      · refine pq_f (by decide) (pq_f (by decide) (pq_f (by decide) (pq_f (by decide) (pq_f (by decide) (pq_f (by decide) (pq_f (by decide) (pq_f (by decide) (pq_t rfl ?_))))))))
        refine pq_call (r_builtOf (p := p') h0.2.1.1.2.1 h0.2.1.1.2.2.1 h0.2.1.2 pcs_ord (by omega) hS.1 e2') (fun y hy => ?_)
        obtain ⟨σ', rfl, -, -, g⟩ := hy
        exact pq_ret ⟨RR_frx h0 g (fun k hk q => by omega) (fun k hk q => by omega), rfl, (g.2 0 (fun q => by omega)).trans hz⟩
      · refine pq_f (by decide) (pq_f (by decide) (pq_f (by decide) (pq_f (by decide) (pq_f (by decide) (pq_f (by decide) (pq_f (by decide) (pq_f (by decide) (pq_f (by decide) ?_))))))))
        unfold mX9_builtBegin
        refine pq_call (Q1 := fun y => RAN (.inl (pieA V.2.1 p' 9), V) wc_L_piece y) (pq_call (r_builds (RM_BV h0.2.1) pcs_ord (by omega) hS.1) (fun y hy => ?_)) (fun y hy => pq_ret hy)
        obtain ⟨σ', rfl, hU, g⟩ := hy
        exact pq_ck (pq_ret ⟨RR_frx h0 g (fun k hk q => by omega) (fun k hk q => by omega), (rd_nI (by omega)).trans (hU.2.2 p' e2'), (g.2 0 (fun q => by omega)).trans hz⟩)
theorem r_cnt {w : Int32} (h : RR9 σ V) (hS : SV V.2.1) : PQ (mX9_count w σ) (RAI (sCnt V w)) := by
  have h0 := RR_f0 (x := 0) h
  have hz : (rSf σ 0 0).1 0 = 0 := sf_eq
  have h4 := RR_4 h
  obtain ⟨h33, h40⟩ := RM_33 h.2.1
  have hM := h.2.1.1.2.1
  have g : ∀ {k : Nat} {x : Int32}, k < 2 ^ 31 → σ.2 1 k = x → rGa σ 1 (nI k) = x := fun hk hx => (rd_nI hk).trans hx
  unfold mX9_count sCnt cntA
  refine pq_eq (fun q => ?_) (fun q => ?_)
  · rw [if_pos q]; exact pq_ck (pq_ret ⟨h0, g (k := 0) (by omega) h.2.1.1.1.1.1⟩)
  rw [if_neg q]
  refine pq_eq (fun q => ?_) (fun q => ?_)
  · rw [if_pos q]; exact pq_ck (pq_ret ⟨h0, g (k := 1) (by omega) hM.1⟩)
  rw [if_neg q]
  refine pq_eq (fun q => ?_) (fun q => ?_)
  · rw [if_pos q]; exact pq_ck (pq_ret ⟨h0, g (k := 2) (by omega) hM.2.1⟩)
  rw [if_neg q]
  refine pq_eq (fun q => ?_) (fun q => ?_)
  · rw [if_pos q]; exact pq_ret ⟨h0, h33⟩
  rw [if_neg q]
  refine pq_eq (fun q => ?_) (fun q => ?_)
  · rw [if_pos q, tcnt_40 h.2.1 hS]; exact pq_isr (r_toldMany h0.2.1) (pq_ret ⟨h0, rfl⟩)
  rw [if_neg q]
  refine pq_eq (fun q => ?_) (fun q => ?_)
  · rw [if_pos q]
    refine pq_call (r_builtMany (RM_BV h0.2.1) pcs_ord (by omega) hS.1) (fun y hy => ?_)
    obtain ⟨σ', rfl, -, g⟩ := hy
    exact pq_ret ⟨RR_frx h0 g (fun k hk q => by omega) (fun k hk q => by omega), rfl⟩
  rw [if_neg q]
  refine pq_eq (fun q => ?_) (fun q => ?_)
  · rw [if_pos q]; exact pq_isr (r_skel h0) (pq_ret ⟨h0, rfl⟩)
  rw [if_neg q]
  refine pq_eq (fun q => ?_) (fun q => ?_)
  · rw [if_pos q]; exact pq_ck (pq_ret ⟨h0, g (k := 3) (by omega) hM.2.2.1⟩)
  rw [if_neg q]
  refine pq_eq (fun q => ?_) (fun q => ?_)
  · rw [if_pos q]; exact pq_ck (pq_ret ⟨h0, g (k := 4) (by omega) hM.2.2.2.1⟩)
  rw [if_neg q]
  refine pq_eq (fun q => ?_) (fun q => ?_)
  · rw [if_pos q]; exact pq_ck (pq_ret ⟨h0, g (k := 5) (by omega) hM.2.2.2.2.1⟩)
  rw [if_neg q]
  refine pq_eq (fun q => ?_) (fun q => ?_)
  · rw [if_pos q]; exact pq_isr (r_unlike h0) (pq_ret ⟨h0, rfl⟩)
  rw [if_neg q]
  refine pq_eq (fun q => ?_) (fun q => ?_)
  · rw [if_pos q]; exact pq_isr (r_allW h0) (pq_ret ⟨h0, rfl⟩)
  rw [if_neg q]
  refine pq_eq (fun q => ?_) (fun q => ?_)
  · rw [if_pos q]; exact pq_ck (pq_ret ⟨h0, g (k := 42) (by omega) h.2.1.1.2.2.2.1⟩)
  rw [if_neg q]
  refine pq_eq (fun q => ?_) (fun q => ?_)
  · rw [if_pos q]; exact pq_isr (r_longest h0) (pq_ret ⟨h0, rfl⟩)
  rw [if_neg q]
  refine pq_eq (fun q => ?_) (fun q => ?_)
  · rw [if_pos q]; exact pq_ret ⟨h0, h.2.2.1.1⟩
  · rw [if_neg q]; exact pq_ret ⟨h0, rfl⟩
end PIR
end
