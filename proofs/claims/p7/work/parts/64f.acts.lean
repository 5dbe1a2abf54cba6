/-! the reference does a text of acts -/
def OB9 (σ : RS9) (V : SPV) : Prop := σ.1 9 = 0 ∧ PA9 σ V.2.2.1 ∧ IM9 σ V.2.2.2.1 ∧ σ.1 7 = V.2.2.2.2.1 ∧ MR9 (σ.2 2) V.2.1
theorem OB_frx {σ σ' : RS9} {V : SPV} (h : OB9 σ V) (hX : FRX RA9 FX9 σ σ') : OB9 σ' V := by
  obtain ⟨a, b, c, d, e⟩ := h
  exact ⟨(hX.2 9 (fun q => by omega)).trans a, PA_frx b hX (fun q => by omega) (fun q => by omega), IM_frx c hX (fun q => by omega) (fun q => by omega), (hX.2 7 (fun q => by omega)).trans d, by rw [hX.1 2 (fun q => by omega)]; exact e⟩
def AQ9 (V : SPV) (z : AR) (n : Nat) (y : Int32 × RS9) : Prop := match z.1 with
  | none => y.1 = nI (n + z.2.2.1) ∧ y.2.1 0 = 0 ∧ RR9 y.2 ([], z.2.2.2, [], V.2.2.2.1, (if 0 < n + z.2.2.1 then 0 else V.2.2.2.2.1), -1)
  | some w => y.2.1 0 = 1 ∧ RR9 y.2 ([], V.2.1, V.2.2.1, V.2.2.2.1, (if z.2.1 = 0 then V.2.2.2.2.1 else z.2.1), nI w)
section RAT
variable {σ : RS9} {T : BL} {V : SPV}
theorem r_here0 : PQ (mX9_here σ) (fun y => FRX NO9 K11 σ y.2) := by
  have key : ∀ (d : Nat) (σ1 : RS9), FRX NO9 K11 σ σ1 → PQ (mX9_here_l0 d σ1) (fun y => FRX NO9 K11 σ y.2) := by
    intro d
    induction d with
    | zero => intro σ1 _; exact pq_none
    | succ d ih =>
      intro σ1 hX
      have fin : PQ (mX9_here_b38 σ1) (fun y => FRX NO9 K11 σ y.2) := pq_ret hX
      unfold mX9_here_l0
      exact pq_le rfl rfl (fun _ => fin) (fun _ => pq_ck (pq_eq (fun _ => ih _ (frx_tr hX ⟨fun _ _ => rfl, fun k hk => sf_ne hk⟩)) (fun _ => fin)))
  unfold mX9_here
  exact key rFU σ frx_rfl
/-- all went well -/
theorem r_good {n : Nat} {v : Int32} {S : SST} {z : AR} (hn : n ≤ 14) (hO : OB9 σ V) (hM : RM9 σ S) (h12 : σ.1 12 = -1) : PQ (mX9_acts_b154 (nI n) v σ) (fun y => y.1 = nI n ∧ y.2.1 0 = 0 ∧ RR9 y.2 ([], S, [], V.2.2.2.1, (if 0 < n then 0 else V.2.2.2.2.1), -1)) := by
  obtain ⟨a, b, c, d, e⟩ := hO
  unfold mX9_acts_b154 mX9_acts_b168
  have fin : ∀ s1 : Int32, s1 = (if 0 < n then 0 else V.2.2.2.2.1) → PQ (mX9_acts_b191 (nI n) s1 (rSf σ 0 0)) (fun y => y.1 = nI n ∧ y.2.1 0 = 0 ∧ RR9 y.2 ([], S, [], V.2.2.2.1, (if 0 < n then 0 else V.2.2.2.2.1), -1)) := fun s1 hs => by
    unfold mX9_acts_b191
    have hX : FRX NO9 (fun k => k = 0 ∨ k = 5 ∨ k = 7) σ (rSf (rSf (rSf σ 0 0) 7 s1) 5 0) := ⟨fun _ _ => rfl, fun k hk => (sf_ne (fun q => hk (by omega))).trans ((sf_ne (fun q => hk (by omega))).trans (sf_ne (fun q => hk (by omega))))⟩
    refine pq_ret ⟨rfl, (sf_ne (by decide)).trans ((sf_ne (by decide)).trans sf_eq), ⟨(hX.2 9 (fun q => by omega)).trans a, Nat.zero_le _, fun i hi => absurd hi (Nat.not_lt_zero _)⟩, RM_frx hM hX (fun q => q) (fun k _ _ q => q) ⟨fun q => by omega, fun q => by omega⟩, PA_nil sf_eq, IM_frx c hX (fun q => q) (fun q => by omega), ?_, (hX.2 12 (fun q => by omega)).trans h12⟩
    rw [← hs]
    exact (sf_ne (by decide)).trans sf_eq
  refine pq_t h12 (pq_t rfl (pq_le (nI_toInt (by omega)) kt_0 (fun q => fin _ ?_) (fun q => fin _ ?_)))
  · rw [if_neg (by omega)]; exact d
  · rw [if_pos (by omega)]
/-- something was wrong -/
theorem r_badE {v : Int32} {c : Nat} {w : Nat} (hc : c ≤ 9) (hw : w ≤ 400) (hO : OB9 σ V) (h12 : σ.1 12 = nI w) : PQ (mX9_acts_b154 v (nI c) σ) (fun y => y.2.1 0 = 1 ∧ RR9 y.2 ([], V.2.1, V.2.2.1, V.2.2.2.1, (if nI c = 0 then V.2.2.2.2.1 else nI c), nI w)) := by
  obtain ⟨a, b, c', d, e⟩ := hO
  unfold mX9_acts_b154 mX9_acts_b168
  have fin : ∀ s1 : Int32, s1 = (if nI c = 0 then V.2.2.2.2.1 else nI c) → PQ (mX9_acts_b214 s1 (rSf σ 0 1)) (fun y => y.2.1 0 = 1 ∧ RR9 y.2 ([], V.2.1, V.2.2.1, V.2.2.2.1, (if nI c = 0 then V.2.2.2.2.1 else nI c), nI w)) := fun s1 hs => by
    unfold mX9_acts_b214
    refine pq_call (r_putsBack (S := V.2.1) (σ := rSf (rSf σ 0 1) 7 s1) e) (fun y hy => ?_)
    obtain ⟨σ2, rfl, m1, m2⟩ := hy
    have hX : FRX RA9 (fun k => k = 0 ∨ k = 7 ∨ FA9 k) σ σ2 := ⟨fun k hk => (m2.1 k hk).trans rfl, fun k hk => (m2.2 k (fun q => hk (Or.inr (Or.inr q)))).trans ((sf_ne (fun q => hk (Or.inr (Or.inl q)))).trans (sf_ne (fun q => hk (Or.inl q))))⟩
    refine pq_ret ⟨(m2.2 0 (fun q => by omega)).trans ((sf_ne (by decide)).trans sf_eq), ⟨(hX.2 9 (fun q => by omega)).trans a, Nat.zero_le _, fun i hi => absurd hi (Nat.not_lt_zero _)⟩, m1, PA_frx b hX (fun q => by omega) (fun q => by omega), IM_frx c' hX (fun q => by omega) (fun q => by omega), ?_, (hX.2 12 (fun q => by omega)).trans h12⟩
    rw [← hs]
    exact (m2.2 7 (fun q => by omega)).trans sf_eq
  refine pq_f (show ¬ σ.1 12 = -1 from fun q => nI_ne (a := w) (by omega) (h12.symm.trans q)) (pq_f (show ¬ (1 : Int32) = 0 by decide) (pq_le (nI_toInt (by omega)) kt_0 (fun q => fin _ ?_) (fun q => fin _ ?_)))
  · have : c = 0 := by omega
    subst this
    exact d.trans (if_pos rfl).symm
  · rw [if_neg (fun z => by
      have := congrArg Int32.toInt z
      rw [nI_toInt (by omega), kt_0] at this; omega)]
/-- behind what is wrong -/
theorem r_bad87 {d : Nat} {v : Int32} {c w : Nat} (hc : c ≤ 9) (hw : w ≤ 400) (hO : OB9 σ V) (h12 : σ.1 12 = nI w) : PQ (mX9_acts_b87 (fun v1 v2 v3 σ => mX9_acts_l48 d v1 v2 v3 σ) v (nI c) σ) (fun y => y.2.1 0 = 1 ∧ RR9 y.2 ([], V.2.1, V.2.2.1, V.2.2.2.1, (if nI c = 0 then V.2.2.2.2.1 else nI c), nI w)) := by
  have nm : ∀ {s : RS9}, s.1 12 = nI w → ¬ s.1 12 = -1 := fun hs q => nI_ne (a := w) (by omega) (hs.symm.trans q)
  unfold mX9_acts_b87
  refine pq_call r_here0 (fun y hX => ?_)
  obtain ⟨v1, σ1⟩ := y
  have hX : FRX NO9 K11 σ σ1 := hX
  have h121 : σ1.1 12 = nI w := (hX.2 12 (fun q => by omega)).trans h12
  have hO1 := OB_frx hO (kx_up hX)
  have l0 : ∀ s3 : Int32, PQ (mX9_acts_l48 d (v + 1) (nI c) s3 σ1) (fun y => y.2.1 0 = 1 ∧ RR9 y.2 ([], V.2.1, V.2.2.1, V.2.2.2.1, (if nI c = 0 then V.2.2.2.2.1 else nI c), nI w)) := fun s3 => by
    cases d with
    | zero => exact pq_none
    | succ d =>
      unfold mX9_acts_l48
      have fin := r_badE (v := v + 1) hc hw hO1 h121
      exact pq_eq (fun _ => fin) (fun _ => pq_f (nm h121) fin)
  unfold mX9_acts_b106
  refine pq_le rfl rfl (fun _ => pq_t rfl (l0 0)) (fun _ => pq_f (show ¬ (1 : Int32) = 0 by decide) (pq_f (nm h121) (l0 1)))
set_option maxHeartbeats 1000000 in
theorem r_loopA : ∀ (d D n p0 : Nat) (S : SST) (σ : RS9), n + D = 14 → RM9 σ S → SV S → TP9 σ T p0 → σ.1 12 = -1 → OB9 σ V → PQ (mX9_acts_l48 d (nI n) 0 1 σ) (AQ9 V (aL T D (nB T p0) S) n) := by
  intro d
  induction d with
  | zero => intro D n p0 S σ _ _ _ _ _ _; exact pq_none
  | succ d ih =>
    intro D n p0 S σ hnD hM hS hT h12 hO
    have h4 := hT.1.2.1
    unfold mX9_acts_l48
    refine pq_f (show ¬ (1 : Int32) = 0 by decide) (pq_t h12 ?_)
    refine pq_eqi (nI_toInt (by omega)) (show (14 : Int32).toInt = 14 by decide) (fun q => ?_) (fun q => ?_)
    · have eD : D = 0 := by omega
      subst eD
      refine pq_call (r_here hT) (fun y hy => ?_)
      obtain ⟨σ1, rfl, hT1, hX⟩ := hy
      have h121 : σ1.1 12 = -1 := (hX.2 12 (fun q => by omega)).trans h12
      have hbT := hT1.2.2
      refine pq_isr (r_wrong h121) ?_
      have hO2 : OB9 (rSf σ1 12 (nI (nB T p0))) V := OB_frx hO (frx_tr (kx_up hX) ⟨fun _ _ => rfl, fun k hk => sf_ne (fun q => hk (Or.inr (Or.inl q)))⟩)
      unfold mX9_acts_b74
      refine pq_f (show ¬ (rSf σ1 12 (nI (nB T p0))).1 12 = -1 from fun q => nI_ne (a := nB T p0) (by omega) (sf_eq.symm.trans q)) ?_
      refine pq_tail (r_bad87 (d := d) (v := nI n) (c := 0) (w := nB T p0) (by omega) (by omega) hO2 sf_eq) (fun y hy => ?_)
      exact hy
    · obtain ⟨D, rfl⟩ : ∃ D', D = D' + 1 := ⟨D - 1, by omega⟩
      unfold mX9_acts_b74
      refine pq_t h12 (pq_call (r_act hM hS hT h12) (fun y hy => ?_))
      have hbT : nB T p0 ≤ T.length := nx_le hT.2.2
      obtain ⟨v1, σ1⟩ := y
      obtain ⟨hX, hc⟩ := hy
      have hX : FRX RA9 FX9 σ σ1 := hX
      have hO1 := OB_frx hO hX
      have ea : aL T (D + 1) (nB T p0) S = aSt T (nB T p0) S (aL T D) (rdA T (nB T p0)) := rfl
      rw [ea]
      generalize rdA T (nB T p0) = r at hc ⊢
      cases r with
      | inl w =>
        obtain ⟨w4, e1, e12⟩ := hc
        have e1 : v1 = 0 := e1
        subst e1
        refine pq_tail (r_bad87 (d := d) (v := nI n) (c := 0) (w := w) (by omega) w4 hO1 e12) (fun y hy => ?_)
        exact hy
      | inr z =>
        obtain ⟨cg, cb⟩ := hc
        have es : aSt T (nB T p0) S (aL T D) (.inr z) = if (dAz S z).1 = 0 then (if nB T z.2.2.2.2 < T.length then (if T.getD (nB T z.2.2.2.2) 0 = 59 then (fun q : AR => (q.1, q.2.1, q.2.2.1 + 1, q.2.2.2)) (aL T D (nB T (nB T z.2.2.2.2 + 1)) (dAz S z).2) else (some (nB T z.2.2.2.2), 0, 0, S)) else (none, 0, 1, (dAz S z).2)) else (some (nB T p0), (dAz S z).1, 0, S) := rfl
        rw [es]
        by_cases h0 : (dAz S z).1 = 0
        · rw [if_pos h0]
          obtain ⟨e1, e12, hM1, hT1⟩ := cg h0
          have e1 : v1 = 0 := e1
          subst e1
          have e12 : σ1.1 12 = -1 := e12
          have hM1 : RM9 σ1 (dAz S z).2 := hM1
          have hT1 : TP9 σ1 T z.2.2.2.2 := hT1
          have hS1 : SV (dAz S z).2 := dA_SV hM.1.1.1.2 hS
          unfold mX9_acts_b87
          refine pq_call (r_here hT1) (fun y hy => ?_)
          obtain ⟨σ2, rfl, hT2, hX2⟩ := hy
          have e122 : σ2.1 12 = -1 := (hX2.2 12 (fun q => by omega)).trans e12
          have hM2 : RM9 σ2 (dAz S z).2 := RM_frx hM1 hX2 (fun q => q) (fun k _ _ q => q) ⟨fun q => by omega, fun q => by omega⟩
          have hO2 := OB_frx hO1 (kx_up hX2)
          have hb2 := hT2.2.2
          show PQ (if σ2.1 10 ≤ nI (nB T z.2.2.2.2) then mX9_acts_b106 (fun v1 v2 v3 σ => mX9_acts_l48 d v1 v2 v3 σ) (nI n + (1 : Int32)) 0 (0 : Int32) σ2 else mX9_acts_b106 (fun v1 v2 v3 σ => mX9_acts_l48 d v1 v2 v3 σ) (nI n + (1 : Int32)) 0 (1 : Int32) σ2) _
          rw [hT2.1.2.2, nI_1]
          refine pq_le (nI_toInt (by omega)) (nI_toInt (by omega)) (fun q1 => ?_) (fun q1 => ?_)
          · rw [if_neg (by omega)]
            unfold mX9_acts_b106
            refine pq_t rfl ?_
            cases d with
            | zero => exact pq_none
            | succ d =>
              unfold mX9_acts_l48
              refine pq_t rfl (pq_tail (r_good (n := n + 1) (v := 0) (z := (none, 0, 0, S)) (by omega) hO2 hM2 e122) (fun y hy => ?_))
              exact hy
          · rw [if_pos (by omega)]
            unfold mX9_acts_b106
            refine pq_f (show ¬ (1 : Int32) = 0 by decide) (pq_t e122 ?_)
            have hlt : nB T z.2.2.2.2 < T.length := by omega
            rw [hT2.2.1, rd_nI (by omega), hT2.1.1 _ hlt]
            refine pq_ck (pq_eq (fun q2 => ?_) (fun q2 => ?_))
            · rw [if_pos q2]
              unfold mX9_acts_b141
              rw [hT2.2.1, nI_1]
              have fr : FRX NO9 K11 σ2 (rSf σ2 11 (nI (nB T z.2.2.2.2 + 1))) := ⟨fun _ _ => rfl, fun k hk => sf_ne hk⟩
              refine pq_tail (ih D (n + 1) (nB T z.2.2.2.2 + 1) (dAz S z).2 _ (by omega) (RM_frx hM2 fr (fun q => q) (fun k _ _ q => q) ⟨fun q => by omega, fun q => by omega⟩) hS1 (TX_up hT2 fr (fun q => q) (fun q => by omega) sf_eq (by omega)) ((sf_ne (by decide)).trans e122) (OB_frx hO2 (kx_up fr))) (fun y hy => ?_)
              unfold AQ9 at hy ⊢
              show (match (aL T D (nB T (nB T z.2.2.2.2 + 1)) (dAz S z).2).1 with
                | none => y.1 = nI (n + ((aL T D (nB T (nB T z.2.2.2.2 + 1)) (dAz S z).2).2.2.1 + 1)) ∧ y.2.1 0 = 0 ∧ RR9 y.2 ([], (aL T D (nB T (nB T z.2.2.2.2 + 1)) (dAz S z).2).2.2.2, [], V.2.2.2.1, (if 0 < n + ((aL T D (nB T (nB T z.2.2.2.2 + 1)) (dAz S z).2).2.2.1 + 1) then 0 else V.2.2.2.2.1), -1)
                | some w => y.2.1 0 = 1 ∧ RR9 y.2 ([], V.2.1, V.2.2.1, V.2.2.2.1, (if (aL T D (nB T (nB T z.2.2.2.2 + 1)) (dAz S z).2).2.1 = 0 then V.2.2.2.2.1 else (aL T D (nB T (nB T z.2.2.2.2 + 1)) (dAz S z).2).2.1), nI w))
              generalize aL T D (nB T (nB T z.2.2.2.2 + 1)) (dAz S z).2 = g at hy ⊢
              rw [show n + (g.2.2.1 + 1) = n + 1 + g.2.2.1 by omega]
              exact hy
            · rw [if_neg q2]
              refine pq_isr (r_wrong e122) ?_
              unfold mX9_acts_b141
              have hO3 : OB9 (rSf (rSf σ2 12 (nI (nB T z.2.2.2.2))) 11 ((rSf σ2 12 (nI (nB T z.2.2.2.2))).1 11 + (1 : Int32))) V := OB_frx hO2 ⟨fun _ _ => rfl, fun k hk => (sf_ne (fun q => hk (Or.inl q))).trans (sf_ne (fun q => hk (Or.inr (Or.inl q))))⟩
              cases d with
              | zero => exact pq_none
              | succ d =>
                have e9 : (rSf (rSf σ2 12 (nI (nB T z.2.2.2.2))) 11 ((rSf σ2 12 (nI (nB T z.2.2.2.2))).1 11 + (1 : Int32))).1 12 = nI (nB T z.2.2.2.2) := (sf_ne (by decide)).trans sf_eq
                unfold mX9_acts_l48
                refine pq_f (show ¬ (1 : Int32) = 0 by decide) (pq_f (fun q => nI_ne (a := nB T z.2.2.2.2) (by omega) (e9.symm.trans q)) ?_)
                refine pq_tail (r_badE (v := nI (n + 1)) (c := 0) (w := nB T z.2.2.2.2) (by omega) (by omega) hO3 e9) (fun y hy => ?_)
                exact hy
        · rw [if_neg h0]
          obtain ⟨e1, e12⟩ := cb h0
          have e1 : v1 = (dAz S z).1 := e1
          obtain ⟨c, c9, ec⟩ := CD_d (S := S) (a := z.1) (x := z.2.1) (y := z.2.2.1) (w := z.2.2.2.1)
          have ec : (dAz S z).1 = nI c := ec
          rw [ec] at e1 ⊢
          subst e1
          refine pq_tail (r_bad87 (d := d) (v := nI n) (c := c) (w := nB T p0) c9 (by omega) hO1 e12) (fun y hy => ?_)
          exact hy
theorem r_acts (h : RR9 σ V) (hS : SV V.2.1) : PQ (mX9_acts σ) (RAN (sActs V) wc_L_acts) := by
  obtain ⟨⟨a1, a2, a3⟩, b, c, d, e, f⟩ := h
  unfold mX9_acts
  have hX0 : FRX NO9 (fun k => k = 9 ∨ k = 10 ∨ k = 11 ∨ k = 12) σ (rSf (rSf (rSf (rSf σ 12 (-1)) 10 (σ.1 9)) 9 0) 11 0) := ⟨fun _ _ => rfl, fun k hk => (sf_ne (fun q => hk (by omega))).trans ((sf_ne (fun q => hk (by omega))).trans ((sf_ne (fun q => hk (by omega))).trans (sf_ne (fun q => hk (by omega)))))⟩
  have e12 : (rSf (rSf (rSf (rSf σ 12 (-1)) 10 (σ.1 9)) 9 0) 11 0).1 12 = -1 := (sf_ne (by decide)).trans ((sf_ne (by decide)).trans ((sf_ne (by decide)).trans sf_eq))
  have e10 : (rSf (rSf (rSf (rSf σ 12 (-1)) 10 (σ.1 9)) 9 0) 11 0).1 10 = nI V.1.length := (sf_ne (by decide)).trans ((sf_ne (by decide)).trans (sf_eq.trans a1))
  have e9 : (rSf (rSf (rSf (rSf σ 12 (-1)) 10 (σ.1 9)) 9 0) 11 0).1 9 = 0 := (sf_ne (by decide)).trans sf_eq
  have e11 : (rSf (rSf (rSf (rSf σ 12 (-1)) 10 (σ.1 9)) 9 0) 11 0).1 11 = nI 0 := sf_eq
  generalize rSf (rSf (rSf (rSf σ 12 (-1)) 10 (σ.1 9)) 9 0) 11 0 = s0 at hX0 e12 e10 e9 e11 ⊢
  refine pq_call r_putsAside (fun y hy => ?_)
  obtain ⟨s1, rfl, g1, g2⟩ := hy
  have hX1 : FRX (fun k => k = 2) (fun k => k = 9 ∨ k = 10 ∨ k = 11 ∨ k = 12) σ s1 := frx_tr (frx_mono hX0 (fun k hk => absurd hk id) (fun k hk => hk)) (frx_mono g2 (fun k hk => hk) (fun k hk => absurd hk id))
  have hM1 : RM9 s1 V.2.1 := RM_frx b hX1 (fun q => by omega) (fun k h1 h2 q => by omega) ⟨fun q => by omega, fun q => by omega⟩
  have hO1 : OB9 s1 V := by
    refine ⟨(g2.2 9 (fun q => q)).trans e9, PA_frx c hX1 (fun q => by omega) (fun q => by omega), IM_frx d hX1 (fun q => by omega) (fun q => by omega), (hX1.2 7 (fun q => by omega)).trans e, MR9_ext b.1 (fun i hi => ?_)⟩
    rw [g1 i hi, hX0.1 1 (fun q => q)]
  have hT1 : TP9 s1 V.1 0 := ⟨⟨RL_frx a3 hX1 (fun q => by omega), a2, (g2.2 10 (fun q => q)).trans e10⟩, (g2.2 11 (fun q => q)).trans e11, Nat.zero_le _⟩
  have e121 : s1.1 12 = -1 := (g2.2 12 (fun q => q)).trans e12
  refine pq_call (r_here hT1) (fun y hy => ?_)
  obtain ⟨s2, rfl, hT2, hX2⟩ := hy
  have e122 : s2.1 12 = -1 := (hX2.2 12 (fun q => by omega)).trans e121
  have hM2 : RM9 s2 V.2.1 := RM_frx hM1 hX2 (fun q => q) (fun k _ _ q => q) ⟨fun q => by omega, fun q => by omega⟩
  have hO2 := OB_frx hO1 (kx_up hX2)
  have hb2 := hT2.2.2
  have fin : ∀ {y : Int32 × RS9}, AQ9 V (aTop V.1 V.2.1) 0 y → RAN (sActs V) wc_L_acts y := fun {y} hy => by
    unfold AQ9 at hy
    unfold sActs
    generalize aTop V.1 V.2.1 = g at hy ⊢
    obtain ⟨o, c1, n1, S1⟩ := g
    cases o with
    | none =>
      obtain ⟨k1, k2, k3⟩ := hy
      simp only [Nat.zero_add] at k1 k3
      exact ⟨k3, k1, k2⟩
    | some w =>
      obtain ⟨k1, k2⟩ := hy
      exact ⟨k2, k1⟩
  show PQ (if s2.1 10 ≤ nI (nB V.1 0) then mX9_acts_b47 (0 : Int32) (0 : Int32) (0 : Int32) s2 else mX9_acts_b47 (0 : Int32) (0 : Int32) (1 : Int32) s2) _
  rw [hT2.1.2.2]
  unfold mX9_acts_b47
  refine pq_le (nI_toInt (by omega)) (nI_toInt (by omega)) (fun q => ?_) (fun q => ?_)
  · have et : aTop V.1 V.2.1 = (none, 0, 0, V.2.1) := if_neg (by omega)
    have k0 : ∀ d, PQ (mX9_acts_l48 d 0 0 0 s2) (RAN (sActs V) wc_L_acts) := fun d => by
      cases d with
      | zero => exact pq_none
      | succ d =>
        unfold mX9_acts_l48
        refine pq_t rfl (pq_tail (r_good (n := 0) (v := 0) (z := (none, 0, 0, V.2.1)) (by omega) hO2 hM2 e122) (fun y hy => fin ?_))
        rw [et]
        exact hy
    exact k0 rFU
  · have et : aTop V.1 V.2.1 = aL V.1 14 (nB V.1 0) V.2.1 := if_pos (by omega)
    refine pq_tail (r_loopA (T := V.1) (V := V) rFU 14 0 (nB V.1 0) V.2.1 s2 (by omega) hM2 hS hT2 e122 hO2) (fun y hy => fin ?_)
    rw [et]
    rw [nB_id] at hy
    exact hy
end RAT
