/-! the reference cuts quotes; by any kind -/
section RQT
variable {r : Nat} {L : BL} {of ti wh : Nat}
theorem cut3_no {s : Nat} (h : L.length ≤ quA L s) : cutL 3 L s = [] := by
  rcases Nat.lt_or_ge s L.length with hlt | hge
  · rw [cutL_st hlt, st_3]
    have e : stQ L s = (none, L.length + 1) := if_neg (by omega)
    rw [e]
    show [] ++ cutL 3 L (L.length + 1) = []
    rw [cutL_end (by omega)]; rfl
  · exact cutL_end hge
theorem r_quotes (hO : OFS of ti wh) (hr : NR r of ti wh) (h6 : L.length ≤ 600) : ∀ (d z s : Nat) (σ : RS9) (C : List CI), RLs σ r L → FO σ of ti wh false C → z ≤ L.length + 1 → (z < L.length → z = quA L s) → (L.length ≤ z → cutL 3 L s = []) → PQ (mX9_cutsQuotes_l12 d r (nI L.length) of ti wh (nI z) σ) (CQ σ of ti wh false (C ++ cutL 3 L s)) := by
  intro d
  induction d with
  | zero => intro z s σ C _ _ _ _ _; exact pq_none
  | succ d ih =>
    intro z s σ C hL hF hz hz1 hz2
    unfold mX9_cutsQuotes_l12
    refine pq_le (nI_toInt (by omega)) (nI_toInt (by omega)) (fun q => ?_) (fun q => ?_)
    · rw [hz2 (by omega), List.append_nil]
      exact pq_ret ⟨σ, rfl, hF, frx_rfl⟩
    have hlt : z < L.length := by omega
    have ez := hz1 hlt
    have hs : s ≤ z := by rw [ez]; exact nx_ge
    have hsl : s < L.length := by omega
    have eE : quE L s = qq L (z + 1) := by unfold quE; rw [← ez]
    have hE1 : z + 1 ≤ quE L s := by rw [eE]; exact qq_ge
    have hE2 : quE L s ≤ L.length := by rw [eE]; exact qq_le (by omega)
    have est : stQ L s = (if z + 1 < quE L s ∧ ¬ (quW L s < L.length ∧ L.getD (quW L s) 0 = 58) then some (z + 1, quE L s, false, 0, 0) else none, quE L s + 1) := by
      unfold stQ
      rw [← ez, if_pos hlt]
    have ecut : cutL 3 L s = (stQ L s).1.toList ++ cutL 3 L (quE L s + 1) := by
      rw [cutL_st hsl, st_3, est]
    have b138 : ∀ σ', FO σ' of ti wh false (C ++ (stQ L s).1.toList) → FRX (RO5 of ti wh) FO1 σ σ' → PQ (mX9_cutsQuotes_b138 (fun v1 v2 v3 v4 v5 v6 σ => mX9_cutsQuotes_l12 d v1 v2 v3 v4 v5 v6 σ) r (nI L.length) of ti wh (nI (quE L s)) σ') (CQ σ of ti wh false (C ++ cutL 3 L s)) := by
      intro σ' hF' hX
      have hL' := RL_frx hL hX (nr_not hr)
      have go : ∀ z', z' ≤ L.length + 1 → (z' < L.length → z' = quA L (quE L s + 1)) → (L.length ≤ z' → cutL 3 L (quE L s + 1) = []) → PQ (mX9_cutsQuotes_b161 (fun v1 v2 v3 v4 v5 v6 σ => mX9_cutsQuotes_l12 d v1 v2 v3 v4 v5 v6 σ) r (nI L.length) of ti wh (nI z') σ') (CQ σ of ti wh false (C ++ cutL 3 L s)) := by
        intro z' g1 g2 g3
        unfold mX9_cutsQuotes_b161
        refine pq_tail (ih z' (quE L s + 1) σ' _ hL' hF' g1 g2 g3) (fun y hy => ?_)
        obtain ⟨σ'', e1, e2, e3⟩ := hy
        refine ⟨σ'', e1, ?_, frx_tr hX e3⟩
        rw [ecut, ← List.append_assoc]
        exact e2
      unfold mX9_cutsQuotes_b138
      refine pq_le (nI_toInt (by omega)) (nI_toInt (by omega)) (fun q1 => ?_) (fun q1 => ?_)
      · exact go L.length (by omega) (fun h => by omega) (fun _ => cutL_end (by omega))
      · rw [nI_1]
        refine pq_isr (r_endOf hL' (by omega) (p := bEq 34) bEq_o (Nat.le_refl _) (by omega)) ?_
        have hn : quA L (quE L s + 1) ≤ L.length := nx_le (by omega)
        exact go (quA L (quE L s + 1)) (by omega) (fun _ => rfl) (fun h => cut3_no h)
    have hW1 : quE L s + 1 ≤ quW L s := nx_ge
    have hW2 : quW L s ≤ L.length + 1 := by
      rcases Nat.lt_or_ge (quE L s) L.length with h | h
      · have : quW L s ≤ L.length := nx_le (by omega)
        omega
      · have : quW L s = quE L s + 1 := nx_end (by omega)
        omega
    have b97 : PQ (mX9_cutsQuotes_b97 (fun v1 v2 v3 v4 v5 v6 σ => mX9_cutsQuotes_l12 d v1 v2 v3 v4 v5 v6 σ) r (nI L.length) of ti wh (nI z) (nI (quE L s)) (nI (quW L s)) σ) (CQ σ of ti wh false (C ++ cutL 3 L s)) := by
      have b112 : ¬ (quW L s < L.length ∧ L.getD (quW L s) 0 = 58) → PQ (mX9_cutsQuotes_b112 (fun v1 v2 v3 v4 v5 v6 σ => mX9_cutsQuotes_l12 d v1 v2 v3 v4 v5 v6 σ) r (nI L.length) of ti wh (nI z) (nI (quE L s)) σ) (CQ σ of ti wh false (C ++ cutL 3 L s)) := by
        intro hno
        have eo : (stQ L s).1 = if z + 1 < quE L s then some (z + 1, quE L s, false, 0, 0) else none := by
          rw [est]
          show (if z + 1 < quE L s ∧ ¬ (quW L s < L.length ∧ L.getD (quW L s) 0 = 58) then _ else _) = _
          by_cases h : z + 1 < quE L s
          · rw [if_pos ⟨h, hno⟩, if_pos h]
          · rw [if_neg (fun q => h q.1), if_neg h]
        have b134 : PQ (mX9_cutsQuotes_b134 (fun v1 v2 v3 v4 v5 v6 σ => mX9_cutsQuotes_l12 d v1 v2 v3 v4 v5 v6 σ) r (nI L.length) of ti wh (nI (quE L s)) of ti wh (nI (z + 1)) (nI (quE L s)) σ) (CQ σ of ti wh false (C ++ cutL 3 L s)) := by
          unfold mX9_cutsQuotes_b134
          exact r_find1 (w := false) hO hF (by omega) (by omega) eo (fun σ1 hF1 hX1 => b138 σ1 hF1 hX1)
        unfold mX9_cutsQuotes_b112
        rw [nI_1]
        refine pq_le (nI_toInt (by omega)) (nI_toInt (by omega)) (fun q1 => ?_) (fun q1 => b134)
        have e9 : quE L s = L.length := by omega
        rw [e9] at b134 ⊢
        exact b134
      unfold mX9_cutsQuotes_b97
      refine pq_le (nI_toInt (by omega)) (nI_toInt (by omega)) (fun q1 => b112 (by omega)) (fun q1 => ?_)
      rw [rd_nI (by omega), hL _ (by omega)]
      refine pq_ck (pq_eq (fun q2 => ?_) (fun q2 => b112 (fun h => q2 h.2)))
      have eo : (stQ L s).1 = none := by
        rw [est]
        exact if_neg (fun h => h.2 ⟨by omega, q2⟩)
      refine b138 σ ?_ frx_rfl
      rw [eo]
      show FO σ of ti wh false (C ++ [])
      rw [List.append_nil]; exact hF
    have k75 : ∀ (d2 i : Nat), quE L s + 1 ≤ i → i ≤ L.length + 1 → (∀ k, quE L s + 1 ≤ k → k < i → bNb (L.getD k 0) = false) → PQ (mX9_cutsQuotes_l75 (fun v1 v2 v3 v4 v5 v6 σ => mX9_cutsQuotes_l12 d v1 v2 v3 v4 v5 v6 σ) d2 r (nI L.length) of ti wh (nI z) (nI (quE L s)) (nI i) σ) (CQ σ of ti wh false (C ++ cutL 3 L s)) := by
      intro d2
      induction d2 with
      | zero => intro i _ _ _; exact pq_none
      | succ d2 ih2 =>
        intro i h1 h2 h3
        have stop : quW L s = i → PQ (mX9_cutsQuotes_b97 (fun v1 v2 v3 v4 v5 v6 σ => mX9_cutsQuotes_l12 d v1 v2 v3 v4 v5 v6 σ) r (nI L.length) of ti wh (nI z) (nI (quE L s)) (nI i) σ) (CQ σ of ti wh false (C ++ cutL 3 L s)) := fun h => by rw [← h]; exact b97
        unfold mX9_cutsQuotes_l75
        refine pq_le (nI_toInt (by omega)) (nI_toInt (by omega)) (fun q1 => stop ?_) (fun q1 => ?_)
        · rcases Nat.lt_or_ge (quE L s) L.length with h | h
          · by_cases e9 : i = L.length
            · exact nx_is h1 (by omega) h3 (fun h => by omega)
            · exfalso
              have := h3 L.length (by omega) (by omega)
              rw [gd_out (Nat.le_refl _)] at this
              exact absurd this (by decide)
          · have : quW L s = quE L s + 1 := nx_end (by omega)
            omega
        · rw [rd_nI (by omega), hL i (by omega)]
          refine pq_ck (pq_isr r_isBare ?_)
          cases hbr : bBare (L.getD i 0) with
          | false => exact pq_t rfl (stop (nx_is h1 (by omega) h3 (fun _ => by rw [bNb_b, hbr]; rfl)))
          | true =>
            refine pq_f (show ¬ (1 : Int32) = 0 by decide) ?_
            rw [nI_1]
            refine ih2 (i + 1) (by omega) (by omega) (fun k k1 k2 => ?_)
            by_cases e : k = i
            · rw [e, bNb_b, hbr]; rfl
            · exact h3 k k1 (by omega)
    have k24 : ∀ (d2 i : Nat), i ≤ L.length → qq L (z + 1) = qq L i → PQ (mX9_cutsQuotes_l24 (fun v1 v2 v3 v4 v5 v6 σ => mX9_cutsQuotes_l12 d v1 v2 v3 v4 v5 v6 σ) d2 r (nI L.length) of ti wh (nI z) (nI i) σ) (CQ σ of ti wh false (C ++ cutL 3 L s)) := by
      intro d2
      induction d2 with
      | zero => intro i _ _; exact pq_none
      | succ d2 ih2 =>
        intro i hi he
        have stop : qq L i = i → PQ (mX9_cutsQuotes_b69 (fun v1 v2 v3 v4 v5 v6 σ => mX9_cutsQuotes_l12 d v1 v2 v3 v4 v5 v6 σ) r (nI L.length) of ti wh (nI z) (nI i) σ) (CQ σ of ti wh false (C ++ cutL 3 L s)) := fun h => by
          have e9 : quE L s = i := by rw [eE, he, h]
          unfold mX9_cutsQuotes_b69
          rw [nI_1, ← e9]
          exact k75 rFU (quE L s + 1) (Nat.le_refl _) (by omega) (fun k k1 k2 => by omega)
        unfold mX9_cutsQuotes_l24
        refine pq_le (nI_toInt (by omega)) (nI_toInt (by omega)) (fun q2 => stop (qq_end (by omega))) (fun q2 => ?_)
        have hi' : i < L.length := by omega
        have hst := qq_st (L := L) hi'
        have one : qq L i = qq L (i + 1) → PQ (mX9_cutsQuotes_b62 (fun v1 v2 v3 v4 v5 v6 σ => mX9_cutsQuotes_l12 d v1 v2 v3 v4 v5 v6 σ) (fun v1 v2 v3 v4 v5 v6 v7 σ => mX9_cutsQuotes_l24 (fun v1 v2 v3 v4 v5 v6 σ => mX9_cutsQuotes_l12 d v1 v2 v3 v4 v5 v6 σ) d2 v1 v2 v3 v4 v5 v6 v7 σ) r (nI L.length) of ti wh (nI z) (nI i) σ) (CQ σ of ti wh false (C ++ cutL 3 L s)) := fun h => by
          unfold mX9_cutsQuotes_b62 mX9_cutsQuotes_b63
          rw [nI_1]
          exact ih2 (i + 1) (by omega) (by rw [he, h])
        rw [rd_nI (by omega), hL i hi']
        refine pq_ck (pq_eq (fun q3 => stop (by rw [hst, if_pos q3])) (fun q3 => pq_ck ?_))
        rw [if_neg q3] at hst
        refine pq_eq (fun q4 => ?_) (fun q4 => one (by rw [hst, if_neg (fun h => q4 h.1)]))
        rw [nI_1]
        refine pq_le (nI_toInt (by omega)) (nI_toInt (by omega)) (fun q5 => one (by rw [hst, if_neg (by omega)])) (fun q5 => ?_)
        rw [if_pos ⟨q4, by omega⟩] at hst
        unfold mX9_cutsQuotes_b63
        rw [show nI i + (2 : Int32) = nI (i + 2) from nI_add i 2]
        exact ih2 (i + 2) (by omega) (by rw [he, hst])
    rw [nI_1]
    exact k24 rFU (z + 1) (by omega) rfl
theorem FO_nil {σ : RS9} {kf : Bool} : FO (rSf σ 54 0) of ti wh kf [] := ⟨sf_eq, by decide, fun i hi => absurd hi (Nat.not_lt_zero _)⟩
theorem r_cuts {σ : RS9} {k : Int32} (hO : OFS of ti wh) (hr : NR r of ti wh) (h6 : L.length ≤ 600) (hk : k = 0 ∨ k = 1 ∨ k = 2 ∨ k = 3) (hL : RLs σ r L) : PQ (mX9_cuts k r (nI L.length) of ti wh σ) (fun y => ∃ σ', y = (nI (cutL k L 0).length, σ') ∧ FO σ' of ti wh (decide (of = 17) && decide (k = 0)) (cutL k L 0) ∧ FRX (RO5 of ti wh) FO1 σ σ') := by
  have hX0 : FRX (RO5 of ti wh) FO1 σ (rSf σ 54 0) := ⟨fun _ _ => rfl, fun j hj => sf_ne hj⟩
  have hL0 : RLs (rSf σ 54 0) r L := hL
  have fin : ∀ {y : Int32 × RS9} {kf : Bool}, CQ (rSf σ 54 0) of ti wh kf ([] ++ cutL k L 0) y → kf = (decide (of = 17) && decide (k = 0)) → PQ (mX9_cuts_b76 y.2) (fun y => ∃ σ', y = (nI (cutL k L 0).length, σ') ∧ FO σ' of ti wh (decide (of = 17) && decide (k = 0)) (cutL k L 0) ∧ FRX (RO5 of ti wh) FO1 σ σ') := fun hy e => by
    obtain ⟨σ', rfl, e2, e3⟩ := hy
    rw [List.nil_append] at e2
    rw [e] at e2
    refine pq_ret ⟨σ', by rw [← e2.1], e2, frx_tr hX0 e3⟩
  unfold mX9_cuts
  refine pq_eq (fun q => ?_) (fun q0 => pq_eq (fun q => ?_) (fun q1 => pq_eq (fun q => ?_) (fun q2 => ?_)))
  · subst q
    unfold mX9_cutsLines
    exact pq_call (r_lines hO hr h6 rFU 0 _ [] hL0 FO_nil (by omega)) (fun y hy => fin hy (by rw [decide_eq_true rfl, Bool.and_true]))
  · subst q
    unfold mX9_cutsTable
    exact pq_call (r_table hO hr h6 rFU 0 _ [] hL0 FO_nil (by omega)) (fun y hy => fin hy (by rw [decide_eq_false q0, Bool.and_false]))
  · subst q
    unfold mX9_cutsMarkup
    exact pq_call (r_markup hO hr h6 rFU 0 _ [] hL0 FO_nil (by omega)) (fun y hy => fin hy (by rw [decide_eq_false q0, Bool.and_false]))
  · have e3 : k = 3 := by
      rcases hk with h | h | h | h
      · exact absurd h q0
      · exact absurd h q1
      · exact absurd h q2
      · exact h
    subst e3
    unfold mX9_cutsQuotes
    have hn : quA L 0 ≤ L.length := nx_le (Nat.zero_le _)
    refine pq_call (Q1 := CQ (rSf σ 54 0) of ti wh false ([] ++ cutL 3 L 0)) ?_ (fun y hy => fin hy (by rw [decide_eq_false q0, Bool.and_false]))
    refine pq_isr (r_endOf (a := 0) hL0 (by omega) (p := bEq 34) bEq_o (Nat.le_refl _) (by omega)) ?_
    exact r_quotes hO hr h6 rFU (quA L 0) 0 _ [] hL0 FO_nil (by omega) (fun _ => rfl) (fun h => cut3_no h)
end RQT
