/-! all of the class's object -/
abbrev SPV : Type := BL × SST × List SST × Option SST × Int32 × Int32
def rdG (v : Option AE) : Prop := ∃ du p a x y wd nm tx, v = some (.inr (4, [.int du, .int p, .int a, .int x, .int y, va_rf wd, .int nm, .ref tx]))
theorem rdG_of {v : Option AE} (h : rdAny v) : rdG v := by
  obtain ⟨du, p, a, x, y, wd, nm, e⟩ := h
  exact ⟨du, p, a, x, y, wd, nm, 1, e⟩
def PST (f : AH) (n : Nat) (P : List SST) : Prop := P.length ≤ 8 ∧ ∃ g : Nat → Option Nat, f 18 = some (.inl (3, 8, .inr (.inr g))) ∧ (∀ i, i < 8 → ∃ s, g i = some s ∧ SID s ∧ 19 ≤ s ∧ SSh f s ∧ ∀ Q, P[i]? = some Q → STT f n s Q ∧ SV Q) ∧ ∀ i k, i < 8 → k < 8 → g i = g k → i = k
def RS (f : AH) (n : Nat) (P : List SST) (I : Option SST) : Prop := SSh f 8 ∧ (SSh f 13 ∧ ∀ Q, I = some Q → STT f n 13 Q ∧ SV Q) ∧ PST f n P ∧ CSh f 115
theorem sid13 : SID 13 := by unfold SID; omega
theorem SSh_frb {n s : Nat} {f f' : AH} (h : SSh f s) (hs : SID s) (h3 : s ≠ 3) (hF : FRb n f f') (hn : 224 ≤ n) : SSh f' s := by
  have h1 := SID_lt hs
  have h2 : 8 ≤ s := by unfold SID at hs; omega
  exact SSh_tr h (hF _ (by omega) (by omega) (by omega) (by omega) (by omega) (by omega) (by omega) (by omega) (by omega)) (hF _ (by omega) (by omega) (by omega) (by omega) (by omega) (by omega) (by omega) (by omega) (by omega)) (hF _ (by omega) (by omega) (by omega) (by omega) (by omega) (by omega) (by omega) (by omega) (by omega))
theorem PST_frb {n n' : Nat} {f f' : AH} {P : List SST} (h : PST f n P) (hF : FRb n f f') (hn : 224 ≤ n) (hn' : n ≤ n') : PST f' n' P := by
  obtain ⟨h1, g, h2, h3, h4⟩ := h
  refine ⟨h1, g, (hF _ (by omega) (by omega) (by omega) (by omega) (by omega) (by omega) (by omega) (by omega) (by omega)).trans h2, fun i hi => ?_, h4⟩
  obtain ⟨s, e1, e2, e3, e4, e5⟩ := h3 i hi
  exact ⟨s, e1, e2, e3, SSh_frb e4 e2 (by omega) hF hn, fun Q hQ => ⟨STT_frb (e5 Q hQ).1 e2 (by omega) hF hn hn', (e5 Q hQ).2⟩⟩
theorem RS_frb {n n' : Nat} {f f' : AH} {P : List SST} {I : Option SST} (h : RS f n P I) (hF : FRb n f f') (hn : 224 ≤ n) (hn' : n ≤ n') : RS f' n' P I := ⟨SSh_frb h.1 sid8 (by omega) hF hn, ⟨SSh_frb h.2.1.1 sid13 (by omega) hF hn, fun Q hQ => ⟨STT_frb (h.2.1.2 Q hQ).1 sid13 (by omega) hF hn hn', (h.2.1.2 Q hQ).2⟩⟩, PST_frb h.2.2.1 hF hn hn', CSh_tr h.2.2.2 (fun i a b => hF i (by omega) (by omega) (by omega) (by omega) (by omega) (by omega) (by omega) (by omega) (by omega))⟩
def RC (f : AH) (n : Nat) (V : SPV) : Prop := 224 ≤ n ∧ (∃ ag, f 0 = some (.inr (8, pfL (bI V.2.2.2.1.isSome) ag (nI V.2.2.1.length) V.2.2.2.2.1 V.2.2.2.2.2)) ∧ (ag ≠ 0 → CUT f 115 (pcs V.2.1.2.1 (bltS V.2.1)))) ∧ isRw f 1 2 400 V.1 ∧ (KO f n V.2.1 ∧ SV V.2.1) ∧ RS f n V.2.2.1 V.2.2.2.1 ∧ rdG (f 178)
/-- what is remembered, one more -/
def sRem (P : List SST) (S0 : SST) : List SST := if P.length = 8 then P.drop 1 ++ [S0] else P ++ [S0]
def sCall (V : SPV) (r : Int32 × SST) : SPV := if r.1 = 0 then (V.1, r.2, sRem V.2.2.1 V.2.1, V.2.2.2.1, 0, V.2.2.2.2.2) else (V.1, V.2.1, V.2.2.1, V.2.2.2.1, r.1, V.2.2.2.2.2)
section REM
variable {n : Nat} {hi ag pc wn fp : Int32}
theorem f_oldest {f : AH} {g : Nat → Option Nat} (hp : f 0 = some (.inr (8, pfL hi ag pc wn fp))) (h18 : f 18 = some (.inl (3, 8, .inr (.inr g)))) : PQ (mX8_forgetOldest 0 f n) (fun y => ∃ f' g', y = (0, f', n) ∧ f' 18 = some (.inl (3, 8, .inr (.inr g'))) ∧ (∀ i, i < 7 → g' i = g (i + 1)) ∧ g' 7 = g 0 ∧ f' 0 = some (.inr (8, pfL hi ag 7 wn fp)) ∧ ∀ j, j ≠ 0 → j ≠ 18 → f' j = f j) := by
  have key : ∀ (d i : Nat) (f1 : AH) (g1 : Nat → Option Nat), f1 0 = some (.inr (8, pfL hi ag pc wn fp)) → f1 18 = some (.inl (3, 8, .inr (.inr g1))) → i ≤ 7 → (∀ k, k < i → g1 k = g (k + 1)) → (∀ k, i ≤ k → g1 k = g k) → (∀ j, j ≠ 0 → j ≠ 18 → f1 j = f j) → PQ (mX8_forgetOldest_l22 d 0 7 (g 0) (nI i) f1 n) (fun y => ∃ f' g', y = (0, f', n) ∧ f' 18 = some (.inl (3, 8, .inr (.inr g'))) ∧ (∀ i, i < 7 → g' i = g (i + 1)) ∧ g' 7 = g 0 ∧ f' 0 = some (.inr (8, pfL hi ag 7 wn fp)) ∧ ∀ j, j ≠ 0 → j ≠ 18 → f' j = f j) := by
    intro d
    induction d with
    | zero => intro i f1 g1 _ _ _ _ _ _; exact pq_none
    | succ d ih =>
      intro i f1 g1 h0 h8 hi7 hlo hhi hF
      unfold mX8_forgetOldest_l22
      refine pq_le kt_7 (nI_toInt (by omega)) (fun q => ?_) (fun q => ?_)
      · have e : i = 7 := by omega
        refine pq_gR h0 rfl (pq_sb (pq_pRA h8 (fun _ => ?_)))
        rw [show (7 : Int32).toNatClampNeg = 7 from rfl]
        have h02 : va_up f1 18 (some (.inl (3, 8, .inr (.inr (va_up g1 7 (g 0)))))) 0 = some (.inr (8, pfL hi ag pc wn fp)) := (u_ne (by omega)).trans h0
        refine pq_pO h02 rfl (pq_ret ⟨_, va_up g1 7 (g 0), rfl, (u_ne (by omega)).trans u_eq, fun k hk => ?_, u_eq, u_eq, fun j a b => (u_ne a).trans ((u_ne b).trans (hF j a b))⟩)
        rw [u_ne (by omega)]; exact hlo k (by omega)
      · refine pq_gR h0 rfl (pq_gR h0 rfl (pq_sb ?_))
        rw [nI_1]
        refine pq_gRA h8 (fun _ => pq_sb (pq_pRA h8 (fun _ => ?_)))
        rw [nI_clamp (by omega), nI_clamp (by omega)]
        refine ih (i + 1) _ _ ((u_ne (by omega)).trans h0) u_eq (by omega) (fun k hk => ?_) (fun k hk => ?_) (fun j a b => (u_ne b).trans (hF j a b))
        · by_cases e : k = i
          · rw [e, u_eq]; exact hhi (i + 1) (by omega)
          · rw [u_ne e]; exact hlo k (by omega)
        · rw [u_ne (by omega)]; exact hhi k (by omega)
  unfold mX8_forgetOldest
  refine pq_gR hp rfl (pq_sb (pq_gL h18 (by omega) ?_))
  rw [show nI 8 - (1 : Int32) = 7 by decide]
  refine pq_t (by decide) (pq_gR hp rfl (pq_sb (pq_gRA h18 (fun _ => ?_))))
  exact key rFU 0 f g hp h18 (by omega) (fun k hk => absurd hk (Nat.not_lt_zero _)) (fun k _ => rfl) (fun _ _ _ => rfl)
theorem f_rem16 {f : AH} {P : List SST} {S0 : SST} {m : Nat} {g : Nat → Option Nat} (hn : 224 ≤ n) (hp : f 0 = some (.inr (8, pfL hi ag (nI m) wn fp))) (hm : m < 8) (hP : P.length = m) (h18 : f 18 = some (.inl (3, 8, .inr (.inr g)))) (h3 : ∀ i, i < 8 → ∃ s, g i = some s ∧ SID s ∧ 19 ≤ s ∧ SSh f s ∧ ∀ Q, P[i]? = some Q → STT f n s Q ∧ SV Q) (h4 : ∀ i k, i < 8 → k < 8 → g i = g k → i = k) (h8 : STT f n 8 S0) (hV : SV S0) : PQ (mX8_rememberAhead_b16 0 f n) (fun y => ∃ f', y = (0, f', n) ∧ f' 0 = some (.inr (8, pfL hi ag (nI (m + 1)) wn fp)) ∧ PST f' n (P ++ [S0]) ∧ ∀ j, j ≠ 0 → (j < 18 ∨ 59 ≤ j ∨ IMM n j) → f' j = f j) := by
  obtain ⟨s, e1, e2, e3, e4, -⟩ := h3 m hm
  have hs := SID_lt e2
  unfold mX8_rememberAhead_b16
  refine pq_gI hp rfl (pq_f (nI_pos (by omega)) (pq_gI hp rfl (pq_gR hp rfl (pq_sb (pq_gL h18 (by omega) (pq_le (nI_toInt (by omega)) (nI_toInt (by omega)) (fun q => by omega) (fun _ => ?_)))))))
  refine pq_gR hp rfl (pq_gI hp rfl (pq_sb (pq_gRA h18 (fun _ => ?_))))
  rw [nI_clamp (by omega), e1]
  refine pq_oNs (pq_gR hp rfl (pq_gI hp rfl (pq_sb (pq_gRA h18 (fun _ => pq_gR hp rfl ?_)))))
  rw [nI_clamp (by omega), e1]
  refine pq_sb (pq_ck (pq_call (f_copy (f := f) (n := n) e2 sid8 (by omega) e4 h8) (fun y hy => ?_)))
  obtain ⟨f1, rfl, k1, k2⟩ := hy
  have hp1 : f1 0 = some (.inr (8, pfL hi ag (nI m) wn fp)) := (k2 0 (by omega) (by omega) (by omega)).trans hp
  refine pq_gI hp1 rfl (pq_pO hp1 rfl (pq_ret ?_))
  have hF2 : ∀ j, j ≠ 0 → va_up f1 0 (some (.inr (8, (pfL hi ag (nI m) wn fp).set 11 (.int (nI m + 1))))) j = f1 j := fun j hj => u_ne hj
  have h02 : va_up f1 0 (some (.inr (8, (pfL hi ag (nI m) wn fp).set 11 (.int (nI m + 1))))) 0 = some (.inr (8, pfL hi ag (nI (m + 1)) wn fp)) := by rw [← nI_1]; exact u_eq
  refine ⟨_, rfl, h02, ?_, fun j a b => (hF2 j a).trans ?_⟩
  rotate_left
  · rcases b with b | b | b
    · exact k2 j (by omega) (by omega) (by omega)
    · exact k2 j (by omega) (by omega) (by omega)
    · have := IMM_ne b e2
      exact k2 j this.1 this.2.1 this.2.2
  generalize va_up f1 0 (some (.inr (8, (pfL hi ag (nI m) wn fp).set 11 (.int (nI m + 1))))) = f2 at hF2 ⊢
  have im2 : ∀ j, IMM n j → f2 j = f1 j := fun j hj => hF2 j (IMM_1 hj).1
  refine ⟨by rw [List.length_append]; show P.length + 1 ≤ 8; omega, g, (hF2 _ (by omega)).trans ((k2 _ (by omega) (by omega) (by omega)).trans h18), fun i hi => ?_, h4⟩
  obtain ⟨s', c1, c2, c3, c4, c5⟩ := h3 i hi
  by_cases ei : i = m
  · subst ei
    have es : s' = s := Option.some.inj (c1.symm.trans e1)
    subst es
    refine ⟨s', c1, c2, c3, SSh_tr (STT_sh k1) (hF2 _ (by omega)) (hF2 _ (by omega)) (hF2 _ (by omega)), fun Q hQ => ?_⟩
    rw [List.getElem?_append_right (by omega), hP, Nat.sub_self] at hQ
    cases hQ
    exact ⟨STT_tr k1 (hF2 _ (by omega)) (hF2 _ (by omega)) (hF2 _ (by omega)) im2 (Nat.le_refl _), hV⟩
  · have hne : s' ≠ s := fun q => ei (h4 i m hi hm (by rw [c1, e1, q]))
    have hd := SID_ne c2 e2 hne
    have hs' := SID_lt c2
    have im1 : ∀ j, IMM n j → f1 j = f j := fun j hj => by
      have := IMM_ne hj e2
      exact k2 j this.1 this.2.1 this.2.2
    refine ⟨s', c1, c2, c3, SSh_tr c4 ((hF2 _ (by omega)).trans (k2 _ (by omega) (by omega) (by omega))) ((hF2 _ (by omega)).trans (k2 _ (by omega) (by omega) (by omega))) ((hF2 _ (by omega)).trans (k2 _ (by omega) (by omega) (by omega))), fun Q hQ => ?_⟩
    have hil : i < P.length := by
      rcases Nat.lt_or_ge i P.length with h | h
      · exact h
      · rw [List.getElem?_append_right h, List.getElem?_eq_none (by show 1 ≤ i - P.length; omega)] at hQ
        cases hQ
    rw [List.getElem?_append_left hil] at hQ
    have := c5 Q hQ
    exact ⟨STT_tr this.1 ((hF2 _ (by omega)).trans (k2 _ (by omega) (by omega) (by omega))) ((hF2 _ (by omega)).trans (k2 _ (by omega) (by omega) (by omega))) ((hF2 _ (by omega)).trans (k2 _ (by omega) (by omega) (by omega))) (fun j hj => (im2 j hj).trans (im1 j hj)) (Nat.le_refl _), this.2⟩
theorem f_remember {f : AH} {P : List SST} {S0 : SST} (hn : 224 ≤ n) (hp : f 0 = some (.inr (8, pfL hi ag (nI P.length) wn fp))) (hP : PST f n P) (h8 : STT f n 8 S0) (hV : SV S0) : PQ (mX8_rememberAhead 0 f n) (fun y => ∃ f', y = (0, f', n) ∧ f' 0 = some (.inr (8, pfL hi ag (nI (sRem P S0).length) wn fp)) ∧ PST f' n (sRem P S0) ∧ ∀ j, j ≠ 0 → (j < 18 ∨ 59 ≤ j ∨ IMM n j) → f' j = f j) := by
  obtain ⟨p1, g, p2, p3, p4⟩ := hP
  unfold mX8_rememberAhead
  refine pq_gI hp rfl (pq_gR hp rfl (pq_sb (pq_gL p2 (by omega) (pq_lt (nI_toInt (by omega)) (nI_toInt (by omega)) (fun q => ?_) (fun q => ?_)))))
  · have e : sRem P S0 = P ++ [S0] := if_neg (by omega)
    rw [e, List.length_append]
    exact f_rem16 hn hp (by omega) rfl p2 p3 p4 h8 hV
  · have e8 : P.length = 8 := by omega
    have e : sRem P S0 = P.drop 1 ++ [S0] := if_pos e8
    rw [e]
    refine pq_ck (pq_call (f_oldest (f := f) (n := n) hp p2) (fun y hy => ?_))
    obtain ⟨f1, g1, rfl, a1, a2, a3, a4, a5⟩ := hy
    have hlen : (P.drop 1).length = 7 := by rw [List.length_drop]; omega
    have im1 : ∀ j, IMM n j → f1 j = f j := fun j hj => a5 j (IMM_1 hj).1 (IMM_1 hj).2.2.2.1
    have h81 : STT f1 n 8 S0 := STT_tr h8 (a5 _ (by omega) (by omega)) (a5 _ (by omega) (by omega)) (a5 _ (by omega) (by omega)) im1 (Nat.le_refl _)
    have hg : ∀ i, i < 8 → ∃ k, k < 8 ∧ g1 i = g k ∧ ((i < 7 ∧ k = i + 1) ∨ (i = 7 ∧ k = 0)) := fun i hi => by
      by_cases h7 : i < 7
      · exact ⟨i + 1, by omega, a2 i h7, Or.inl ⟨h7, rfl⟩⟩
      · have : i = 7 := by omega
        subst this
        exact ⟨0, by omega, a3, Or.inr ⟨rfl, rfl⟩⟩
    have p31 : ∀ i, i < 8 → ∃ s, g1 i = some s ∧ SID s ∧ 19 ≤ s ∧ SSh f1 s ∧ ∀ Q, (P.drop 1)[i]? = some Q → STT f1 n s Q ∧ SV Q := fun i hi => by
      obtain ⟨k, k1, k2, k3⟩ := hg i hi
      obtain ⟨s, c1, c2, c3, c4, c5⟩ := p3 k k1
      have hs := SID_lt c2
      have hs2 : s ≠ 18 ∧ s + 3 ≠ 18 ∧ s + 4 ≠ 18 := by omega
      refine ⟨s, k2.trans c1, c2, c3, SSh_tr c4 (a5 _ (by omega) (by omega)) (a5 _ (by omega) (by omega)) (a5 _ (by omega) (by omega)), fun Q hQ => ?_⟩
      rw [List.getElem?_drop] at hQ
      have hQ2 : P[k]? = some Q := by
        rcases k3 with ⟨-, rfl⟩ | ⟨rfl, rfl⟩
        · rw [Nat.add_comm] at hQ; exact hQ
        · rw [List.getElem?_eq_none (by omega)] at hQ; cases hQ
      have := c5 Q hQ2
      exact ⟨STT_tr this.1 (a5 _ (by omega) (by omega)) (a5 _ (by omega) (by omega)) (a5 _ (by omega) (by omega)) im1 (Nat.le_refl _), this.2⟩
    have p41 : ∀ i k, i < 8 → k < 8 → g1 i = g1 k → i = k := fun i k hi hk h => by
      obtain ⟨i', i1, i2, i3⟩ := hg i hi
      obtain ⟨k', k1, k2, k3⟩ := hg k hk
      have := p4 i' k' i1 k1 (by rw [← i2, ← k2]; exact h)
      omega
    rw [List.length_append, hlen]
    refine pq_tail (f_rem16 (f := f1) (n := n) (m := 7) (P := P.drop 1) hn a4 (by omega) hlen a1 p31 p41 h81 hV) (fun y hy => ?_)
    obtain ⟨f2, rfl, b1, b2, b3⟩ := hy
    exact ⟨f2, rfl, b1, b2, fun j x1 x2 => (b3 j x1 x2).trans (a5 j x1 (by rcases x2 with q | q | q <;> first | omega | exact (IMM_1 q).2.2.2.1))⟩
end REM
