/-! the reference takes a piece -/
abbrev RT9 : Nat → Prop := fun k => 34 ≤ k ∧ k ≤ 44
abbrev FT9 : Nat → Prop := fun k => k = 33 ∨ k = 45
def PT (σ : RS9) (kf : Bool) (P : List Pc) : Prop := (σ.1 33 = nI P.length ∧ P.length ≤ 40) ∧ (σ.1 45 = nI (txs P).length ∧ (txs P).length ≤ 600 ∧ (ogs P).length = (txs P).length ∧ RLs σ 43 (txs P) ∧ RLs σ 44 (ogs P)) ∧ ∀ i, i < P.length → σ.2 34 i = nI (P.getD i pc0).1 ∧ σ.2 35 i = nI (P.getD i pc0).2.1 ∧ σ.2 36 i = bI (P.getD i pc0).2.2.1 ∧ σ.2 37 i = bI (P.getD i pc0).2.2.2.1 ∧ σ.2 38 i = bI (P.getD i pc0).2.2.2.2.1 ∧ (kf = true → σ.2 39 i = nI (P.getD i pc0).2.2.2.2.2.1 ∧ σ.2 40 i = nI (P.getD i pc0).2.2.2.2.2.2.1) ∧ σ.2 41 i = nI (tAt P i) ∧ σ.2 42 i = nI (pX (P.getD i pc0)).length
theorem PT_frx {R F : Nat → Prop} {σ σ' : RS9} {kf : Bool} {P : List Pc} (h : PT σ kf P) (hX : FRX R F σ σ') (hR : ∀ k, 34 ≤ k → k ≤ 44 → ¬ R k) (hF : ¬ F 33 ∧ ¬ F 45) : PT σ' kf P := by
  obtain ⟨⟨a1, a2⟩, ⟨b1, b2, b3, b4, b5⟩, c⟩ := h
  refine ⟨⟨(hX.2 33 hF.1).trans a1, a2⟩, ⟨(hX.2 45 hF.2).trans b1, b2, b3, RL_frx b4 hX (hR 43 (by omega) (by omega)), RL_frx b5 hX (hR 44 (by omega) (by omega))⟩, fun i hi => ?_⟩
  rw [hX.1 34 (hR _ (by omega) (by omega)), hX.1 35 (hR _ (by omega) (by omega)), hX.1 36 (hR _ (by omega) (by omega)), hX.1 37 (hR _ (by omega) (by omega)), hX.1 38 (hR _ (by omega) (by omega)), hX.1 39 (hR _ (by omega) (by omega)), hX.1 40 (hR _ (by omega) (by omega)), hX.1 41 (hR _ (by omega) (by omega)), hX.1 42 (hR _ (by omega) (by omega))]
  exact c i hi
section RTP
variable {σ : RS9} {L : BL}
theorem r_isIn {v lo hi : Int32} : PQ (mX9_isIn v lo hi σ) (fun y => y = (bI (decide (lo.toInt ≤ v.toInt ∧ v.toInt ≤ hi.toInt)), σ)) := by
  unfold mX9_isIn
  refine pq_lt rfl rfl (fun q => ?_) (fun q => pq_lt rfl rfl (fun q2 => ?_) (fun q2 => ?_))
  · rw [decide_eq_false (by omega)]
    unfold mX9_isIn_b14 mX9_isIn_b15
    exact pq_ck (pq_ret rfl)
  · rw [decide_eq_false (by omega)]
    unfold mX9_isIn_b14 mX9_isIn_b15
    exact pq_ck (pq_ret rfl)
  · rw [decide_eq_true ⟨q, q2⟩]
    exact pq_ck (pq_ret rfl)
theorem isLet_d {c : Int32} : isLet c = (decide (97 ≤ c.toInt ∧ c.toInt ≤ 122) || decide (65 ≤ c.toInt ∧ c.toInt ≤ 90)) := by
  unfold isLet
  exact Bool.decide_or _ _
theorem r_isLetter {c : Int32} : PQ (mX9_isLetter c σ) (fun y => y = (bI (isLet c), σ)) := by
  unfold mX9_isLetter
  rw [isLet_d]
  refine pq_isr r_isIn ?_
  rw [kt_97, kt_122]
  cases h1 : decide (97 ≤ c.toInt ∧ c.toInt ≤ 122) with
  | true =>
    refine pq_f (show ¬ (1 : Int32) = 0 by decide) ?_
    unfold mX9_isLetter_b22 mX9_isLetter_b27
    exact pq_ck (pq_ret rfl)
  | false =>
    refine pq_t rfl (pq_isr r_isIn ?_)
    rw [kt_65, kt_90]
    cases h2 : decide (65 ≤ c.toInt ∧ c.toInt ≤ 90) with
    | true =>
      refine pq_f (show ¬ (1 : Int32) = 0 by decide) ?_
      unfold mX9_isLetter_b22 mX9_isLetter_b27
      exact pq_ck (pq_ret rfl)
    | false => exact pq_t rfl (pq_ck (pq_ret rfl))
theorem any_dr {X : BL} {i : Nat} (h : i < X.length) : (X.drop i).any isLet = (isLet (X.getD i 0) || (X.drop (i + 1)).any isLet) := by
  rw [dr_st h, List.any_cons]
theorem r_isPiece {cf : CFG} {t1 : Nat} {X : BL} {p : Nat} (hM : MC (σ.2 1) cf) (hX : RLs σ t1 X) (hX6 : X.length ≤ 600) (h33 : σ.1 33 = nI p) (hp : p ≤ 40) : PQ (mX9_isPiece t1 (nI X.length) σ) (fun y => y = (bI (okT cf X && decide (p < 40)), σ)) := by
  obtain ⟨m1, m2, m3, m4, m5, m6, m7⟩ := hM
  have hle := m7.2.2.2.1.2
  unfold mX9_isPiece
  have e4 : rGa σ 1 (4 : Int32) = nI cf.2.2.2.1 := m4
  have e3 : rGa σ 1 (3 : Int32) = cf.2.2.1 := m3
  rw [e4, e3, h33]
  refine pq_ck (pq_lt (nI_toInt (by omega)) (nI_toInt (by omega)) (fun q => ?_) (fun q => ?_))
  · have : okT cf X = false := by
      unfold okT
      rw [decide_eq_false (by omega), Bool.false_and]
    rw [this, Bool.false_and]
    exact pq_ck (pq_ret rfl)
  · refine pq_eqi (nI_toInt (by omega)) kt_40 (fun q1 => ?_) (fun q1 => ?_)
    · rw [decide_eq_false (show ¬ p < 40 by omega), Bool.and_false]
      exact pq_ck (pq_ret rfl)
    · rw [decide_eq_true (show p < 40 by omega), Bool.and_true]
      have eo : okT cf X = (decide (cf.2.2.1 = 0) || X.any isLet) := by
        unfold okT
        rw [decide_eq_true (by omega), Bool.true_and]
      rw [eo]
      refine pq_ck (pq_eq (fun q2 => ?_) (fun q2 => ?_))
      · rw [decide_eq_true q2, Bool.true_or]
        exact pq_ck (pq_ret rfl)
      · rw [decide_eq_false q2, Bool.false_or]
        have key : ∀ (d i : Nat), i ≤ X.length → PQ (mX9_isPiece_l34 d t1 (nI X.length) (nI i) σ) (fun y => y = (bI ((X.drop i).any isLet), σ)) := by
          intro d
          induction d with
          | zero => intro i _; exact pq_none
          | succ d ih =>
            intro i hi
            unfold mX9_isPiece_l34
            refine pq_le (nI_toInt (by omega)) (nI_toInt (by omega)) (fun q3 => ?_) (fun q3 => ?_)
            · rw [List.drop_eq_nil_of_le (by omega)]
              exact pq_ck (pq_ret rfl)
            · have hi' : i < X.length := by omega
              rw [rd_nI (by omega), hX i hi', any_dr hi']
              refine pq_ck (pq_isr r_isLetter ?_)
              cases hl : isLet (X.getD i 0) with
              | false =>
                refine pq_t rfl ?_
                rw [nI_1, Bool.false_or]
                exact ih (i + 1) (by omega)
              | true =>
                refine pq_f (show ¬ (1 : Int32) = 0 by decide) ?_
                rw [Bool.true_or]
                exact pq_ck (pq_ret rfl)
        exact key rFU 0 (Nat.zero_le _)
/-- the bytes of a piece are put behind -/
theorem r_tkL {t1 t2 : Nat} {X : BL} {O : BL} {T0 O0 : BL} {p : Nat} (ht1 : t1 ≠ 43 ∧ t1 ≠ 44) (ht2 : t2 ≠ 43 ∧ t2 ≠ 44) (hXO : O.length = X.length) (hX6 : X.length ≤ 600) (hT6 : T0.length ≤ 600) (hTO : O0.length = T0.length) (hX : RLs σ t1 X) (hO : RLs σ t2 O) (h43 : RLs σ 43 T0) (h44 : RLs σ 44 O0) (h45 : σ.1 45 = nI T0.length) (h33 : σ.1 33 = nI p) : PQ (mX9_takes_l137 rFU t1 t2 (nI X.length) 0 σ) (fun y => ∃ σ', y = (0, σ') ∧ σ'.1 33 = nI (p + 1) ∧ σ'.1 45 = nI (T0.length + X.length) ∧ T0.length + X.length ≤ 600 ∧ RLs σ' 43 (T0 ++ X) ∧ RLs σ' 44 (O0 ++ O) ∧ FRX (fun k => k = 43 ∨ k = 44) FT9 σ σ') := by
  have key : ∀ (d i : Nat) (σ1 : RS9), i ≤ X.length → FRX (fun k => k = 43 ∨ k = 44) FT9 σ σ1 → σ1.1 33 = nI p → σ1.1 45 = nI (T0.length + i) → T0.length + i ≤ 600 → (∀ z, z < T0.length → σ1.2 43 z = T0.getD z 0 ∧ σ1.2 44 z = O0.getD z 0) → (∀ z, z < i → σ1.2 43 (T0.length + z) = X.getD z 0 ∧ σ1.2 44 (T0.length + z) = O.getD z 0) → PQ (mX9_takes_l137 d t1 t2 (nI X.length) (nI i) σ1) (fun y => ∃ σ', y = (0, σ') ∧ σ'.1 33 = nI (p + 1) ∧ σ'.1 45 = nI (T0.length + X.length) ∧ T0.length + X.length ≤ 600 ∧ RLs σ' 43 (T0 ++ X) ∧ RLs σ' 44 (O0 ++ O) ∧ FRX (fun k => k = 43 ∨ k = 44) FT9 σ σ') := by
    intro d
    induction d with
    | zero => intro i σ1 _ _ _ _ _ _ _; exact pq_none
    | succ d ih =>
      intro i σ1 hi hF k33 k45 k6 hlo hhi
      unfold mX9_takes_l137
      refine pq_le (nI_toInt (by omega)) (nI_toInt (by omega)) (fun q => ?_) (fun q => ?_)
      · have e : i = X.length := by omega
        subst e
        refine pq_ret ⟨_, rfl, ?_, ?_, k6, fun z hz => ?_, fun z hz => ?_, ⟨fun z hz => hF.1 z hz, fun z hz => (sf_ne (fun h => hz (Or.inl h))).trans (hF.2 z hz)⟩⟩
        · rw [sf_eq, k33, nI_1]
        · rw [sf_ne (by decide)]; exact k45
        · rw [List.length_append] at hz
          show σ1.2 43 z = _
          rcases Nat.lt_or_ge z T0.length with h | h
          · rw [gd_app_l h]; exact (hlo z h).1
          · rw [gd_app_r h]
            have := (hhi (z - T0.length) (by omega)).1
            rw [show T0.length + (z - T0.length) = z by omega] at this
            exact this
        · rw [List.length_append] at hz
          show σ1.2 44 z = _
          rcases Nat.lt_or_ge z T0.length with h | h
          · rw [gd_app_l (by omega)]; exact (hlo z h).2
          · rw [gd_app_r (by omega), hTO]
            have := (hhi (z - T0.length) (by omega)).2
            rw [show T0.length + (z - T0.length) = z by omega] at this
            exact this
      · rw [k45]
        refine pq_ck (pq_ckb (fun hin => pq_ck (pq_ck ?_)))
        have h600 : T0.length + i < 600 := in_nI (by omega) hin
        have hx1 : rGa σ1 t1 (nI i) = X.getD i 0 := by
          rw [rd_nI (by omega), hF.1 t1 (fun h => by omega)]; exact hX i (by omega)
        rw [hx1]
        have hx2 : rGa (rSa σ1 43 (nI (T0.length + i)) (X.getD i 0)) t2 (nI i) = O.getD i 0 := by
          rw [rd_nI (by omega), sa_ne (by omega), hF.1 t2 (fun h => by omega)]; exact hO i (by omega)
        rw [hx2, nI_1, nI_1]
        have r43 : ∀ z, (rSf (rSa (rSa σ1 43 (nI (T0.length + i)) (X.getD i 0)) 44 (nI (T0.length + i)) (O.getD i 0)) 45 (nI (T0.length + i + 1))).2 43 z = if z = T0.length + i then X.getD i 0 else σ1.2 43 z := fun z => by
          show (rSa (rSa σ1 43 (nI (T0.length + i)) (X.getD i 0)) 44 (nI (T0.length + i)) (O.getD i 0)).2 43 z = _
          rw [sa_ne (by omega), sa_nI (by omega)]
        have r44 : ∀ z, (rSf (rSa (rSa σ1 43 (nI (T0.length + i)) (X.getD i 0)) 44 (nI (T0.length + i)) (O.getD i 0)) 45 (nI (T0.length + i + 1))).2 44 z = if z = T0.length + i then O.getD i 0 else σ1.2 44 z := fun z => by
          show (rSa (rSa σ1 43 (nI (T0.length + i)) (X.getD i 0)) 44 (nI (T0.length + i)) (O.getD i 0)).2 44 z = _
          rw [sa_nI (by omega), sa_ne (by omega)]
        refine ih (i + 1) _ (by omega) (frx_tr hF ⟨fun z hz => ?_, fun z hz => sf_ne (fun h => hz (Or.inr h))⟩) ((sf_ne (by decide)).trans k33) (by rw [sf_eq]; rfl) (by omega) (fun z hz => ?_) (fun z hz => ?_)
        · show (rSa (rSa σ1 43 (nI (T0.length + i)) (X.getD i 0)) 44 (nI (T0.length + i)) (O.getD i 0)).2 z = _
          rw [sa_ne (fun h => hz (Or.inr h)), sa_ne (fun h => hz (Or.inl h))]
        · rw [r43, r44, if_neg (by omega), if_neg (by omega)]; exact hlo z hz
        · rw [r43, r44]
          by_cases e : z = i
          · rw [e, if_pos rfl, if_pos rfl]; exact ⟨rfl, rfl⟩
          · rw [if_neg (by omega), if_neg (by omega)]; exact hhi z (by omega)
  exact key rFU 0 σ (Nat.zero_le _) frx_rfl h33 (by rw [h45]; rfl) (by omega) (fun z hz => ⟨h43 z hz, h44 z (by omega)⟩) (fun z hz => absurd hz (Nat.not_lt_zero _))
end RTP
