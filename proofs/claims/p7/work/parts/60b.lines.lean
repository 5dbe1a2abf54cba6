/-! the reference cuts lines, tables -/
theorem ln_blank {L : BL} {a : Nat} (ha : a ≤ L.length) (h : lnE L a ≤ lnK L a) : lnS L a = lnE L a := by
  have hE1 : a ≤ lnE L a := nx_ge
  have hS1 : lnS L a ≤ lnE L a := nx_le hE1
  rcases Nat.lt_or_ge (lnS L a) (lnE L a) with hlt | hge
  · exfalso
    have h1 : bEq 61 (L.getD (lnS L a) 0) = true := nx_at hlt
    have h2 : bNe 32 (L.getD (lnS L a) 0) = false := nx_no (a := a) (b := lnE L a) nx_ge (by show lnS L a < lnK L a; omega)
    unfold bEq at h1
    have h1 := of_decide_eq_true h1
    rw [h1] at h2
    exact absurd h2 (by decide)
  · omega
def NR (r of ti wh : Nat) : Prop := r ≠ of ∧ r ≠ ti ∧ r ≠ wh ∧ r ≠ 20 ∧ r ≠ 21
theorem nr_not {r of ti wh : Nat} (h : NR r of ti wh) : ¬ RO5 of ti wh r := fun q => by unfold NR at h; rcases q with q | q | q | q | q <;> omega
def CQ (σ0 : RS9) (of ti wh : Nat) (kf : Bool) (C : List CI) (y : Int32 × RS9) : Prop := ∃ σ', y = (0, σ') ∧ FO σ' of ti wh kf C ∧ FRX (RO5 of ti wh) FO1 σ0 σ'
section RLN
variable {r : Nat} {L : BL} {of ti wh : Nat}
theorem bNe_t {s c : Int32} (h : c ≠ s) : bNe s c = true := by
  unfold bNe
  rw [decide_eq_false h]; rfl
theorem bNe_f {s c : Int32} (h : c = s) : bNe s c = false := by
  unfold bNe
  rw [decide_eq_true h]; rfl
theorem r_lines (hO : OFS of ti wh) (hr : NR r of ti wh) (h6 : L.length ≤ 600) : ∀ (d a : Nat) (σ : RS9) (C : List CI), RLs σ r L → FO σ of ti wh (decide (of = 17)) C → a ≤ L.length + 1 → PQ (mX9_cutsLines_l3 d r (nI L.length) of ti wh (nI a) σ) (CQ σ of ti wh (decide (of = 17)) (C ++ cutL 0 L a)) := by
  intro d
  induction d with
  | zero => intro a σ C _ _ _; exact pq_none
  | succ d ih =>
    intro a σ C hL hF ha
    unfold mX9_cutsLines_l3
    refine pq_le (nI_toInt (by omega)) (nI_toInt (by omega)) (fun q => ?_) (fun q => ?_)
    · rw [cutL_end (by omega), List.append_nil]
      exact pq_ret ⟨σ, rfl, hF, frx_rfl⟩
    have hlt : a < L.length := by omega
    have hE1 : a ≤ lnE L a := nx_ge
    have hE2 : lnE L a ≤ L.length := nx_le (by omega)
    have hK1 : a ≤ lnK L a := nx_ge
    have hK2 : lnK L a ≤ lnE L a := nx_le hE1
    have hS1 : a ≤ lnS L a := nx_ge
    have hS2 : lnS L a ≤ lnE L a := nx_le hE1
    have ecut : cutL 0 L a = (stL L a).1.toList ++ cutL 0 L (lnE L a + 1) := cutL_st hlt
    -- the next line
    have nxt : ∀ (σ' : RS9) (o : Option CI), (stL L a).1 = o → FO σ' of ti wh (decide (of = 17)) (C ++ o.toList) → RLs σ' r L → FRX (RO5 of ti wh) FO1 σ σ' → PQ (mX9_cutsLines_b199 (fun v1 v2 v3 v4 v5 v6 σ => mX9_cutsLines_l3 d v1 v2 v3 v4 v5 v6 σ) r (nI L.length) of ti wh (nI (lnE L a)) σ') (CQ σ of ti wh (decide (of = 17)) (C ++ cutL 0 L a)) := by
      intro σ' o ho hF' hL' hX
      unfold mX9_cutsLines_b199
      rw [nI_1]
      refine pq_tail (ih (lnE L a + 1) σ' (C ++ o.toList) hL' hF' (by omega)) (fun y hy => ?_)
      obtain ⟨σ'', e1, e2, e3⟩ := hy
      refine ⟨σ'', e1, ?_, frx_tr hX e3⟩
      rw [ecut, ho, ← List.append_assoc]
      exact e2
    have non : (stL L a).1 = none → PQ (mX9_cutsLines_b199 (fun v1 v2 v3 v4 v5 v6 σ => mX9_cutsLines_l3 d v1 v2 v3 v4 v5 v6 σ) r (nI L.length) of ti wh (nI (lnE L a)) σ) (CQ σ of ti wh (decide (of = 17)) (C ++ cutL 0 L a)) := fun h => nxt σ none h (by show FO σ of ti wh _ (C ++ []); rw [List.append_nil]; exact hF) hL frx_rfl
    refine pq_isr (r_endOf hL (by omega) (p := bEq 10) bEq_o (Nat.le_refl _) (by omega)) ?_
    show PQ (mX9_cutsLines_l26 (fun v1 v2 v3 v4 v5 v6 σ => mX9_cutsLines_l3 d v1 v2 v3 v4 v5 v6 σ) rFU r (nI L.length) of ti wh (nI a) (nI (lnE L a)) (nI a) σ) _
    -- behind the blanks ahead
    have k26 : ∀ (Q : Int32 × RS9 → Prop) (rec3 : Nat → Int32 → Nat → Nat → Nat → Int32 → RS9 → Option (Int32 × RS9)), PQ (mX9_cutsLines_b48 rec3 r (nI L.length) of ti wh (nI a) (nI (lnE L a)) (nI (lnK L a)) σ) Q → ∀ (d2 i : Nat), a ≤ i → i ≤ lnE L a → (∀ k, a ≤ k → k < i → bNe 32 (L.getD k 0) = false) → PQ (mX9_cutsLines_l26 rec3 d2 r (nI L.length) of ti wh (nI a) (nI (lnE L a)) (nI i) σ) Q := by
      intro Q rec3 hQ d2
      induction d2 with
      | zero => intro i _ _ _; exact pq_none
      | succ d2 ih2 =>
        intro i h1 h2 h3
        have fin : (i < lnE L a → bNe 32 (L.getD i 0) = true) → PQ (mX9_cutsLines_b48 rec3 r (nI L.length) of ti wh (nI a) (nI (lnE L a)) (nI i) σ) Q := fun h => by
          rw [← show lnK L a = i from nx_is h1 h2 h3 h]; exact hQ
        unfold mX9_cutsLines_l26
        refine pq_le (nI_toInt (by omega)) (nI_toInt (by omega)) (fun q => fin (fun h => by omega)) (fun q => ?_)
        rw [rd_nI (by omega), hL i (by omega)]
        refine pq_ck (pq_eq (fun q1 => ?_) (fun q1 => fin (fun _ => bNe_t q1)))
        rw [nI_1]
        refine ih2 (i + 1) (by omega) (by omega) (fun k k1 k2 => ?_)
        by_cases e : k = i
        · rw [e]; exact bNe_f q1
        · exact h3 k k1 (by omega)
    refine k26 _ _ ?_ rFU a (Nat.le_refl _) hE1 (fun k k1 k2 => by omega)
    unfold mX9_cutsLines_b48
    refine pq_isr (r_endOf hL (by omega) (p := bEq 61) bEq_o hE2 (by omega)) ?_
    show PQ (if nI (lnE L a) ≤ nI (lnK L a) then mX9_cutsLines_b199 (fun v1 v2 v3 v4 v5 v6 σ => mX9_cutsLines_l3 d v1 v2 v3 v4 v5 v6 σ) r (nI L.length) of ti wh (nI (lnE L a)) σ else rCk (rIn (nI (lnK L a)) (rLen r)) ((if (rGa σ r (nI (lnK L a))) = (35 : Int32) then mX9_cutsLines_b199 (fun v1 v2 v3 v4 v5 v6 σ => mX9_cutsLines_l3 d v1 v2 v3 v4 v5 v6 σ) r (nI L.length) of ti wh (nI (lnE L a)) σ else (if nI (lnE L a) ≤ nI (lnS L a) then mX9_cutsLines_b199 (fun v1 v2 v3 v4 v5 v6 σ => mX9_cutsLines_l3 d v1 v2 v3 v4 v5 v6 σ) r (nI L.length) of ti wh (nI (lnE L a)) σ else mX9_cutsLines_l91 (fun v1 v2 v3 v4 v5 v6 σ => mX9_cutsLines_l3 d v1 v2 v3 v4 v5 v6 σ) rFU r (nI L.length) of ti wh (nI (lnE L a)) (nI (lnK L a)) (nI (lnS L a)) (nI (lnS L a) + (1 : Int32)) σ)))) _
    refine pq_le (nI_toInt (by omega)) (nI_toInt (by omega)) (fun q1 => non ?_) (fun q1 => ?_)
    · exact if_pos (Or.inl (ln_blank (by omega) (by omega)))
    rw [rd_nI (by omega), hL _ (by omega)]
    refine pq_ck (pq_eq (fun q2 => non (if_pos (Or.inr (Or.inl q2)))) (fun q2 => ?_))
    refine pq_le (nI_toInt (by omega)) (nI_toInt (by omega)) (fun q3 => non (if_pos (Or.inl (by omega)))) (fun q3 => ?_)
    have hV1 : lnS L a + 1 ≤ lnV L a := nx_ge
    have hV2 : lnV L a ≤ lnE L a := nx_le (by omega)
    have hM := bkn_ge (p := bEq 32) (L := L) (lo := lnK L a) (lnS L a)
    have hM2 := bkn_le (p := bEq 32) (L := L) (lo := lnK L a) (lnS L a)
    have hKS : lnK L a ≤ lnS L a := by
      rcases Nat.lt_or_ge (lnS L a) (lnK L a) with h | h
      · exfalso
        have h1 : bEq 61 (L.getD (lnS L a) 0) = true := nx_at (show nx (bEq 61) L a (lnE L a) < lnE L a by show lnS L a < _; omega)
        have h2 : bNe 32 (L.getD (lnS L a) 0) = false := nx_no (a := a) (b := lnE L a) hS1 (by show lnS L a < lnK L a; omega)
        have h1 := of_decide_eq_true h1
        rw [h1] at h2
        exact absurd h2 (by decide)
      · exact h
    have hM' := hM hKS
    rw [nI_1]
    -- the value's begin
    have k91 : ∀ (Q : Int32 × RS9 → Prop) (rec3 : Nat → Int32 → Nat → Nat → Nat → Int32 → RS9 → Option (Int32 × RS9)), PQ (mX9_cutsLines_b113 rec3 r (nI L.length) of ti wh (nI (lnE L a)) (nI (lnK L a)) (nI (lnS L a)) (nI (lnV L a)) σ) Q → ∀ (d2 i : Nat), lnS L a + 1 ≤ i → i ≤ lnE L a → (∀ k, lnS L a + 1 ≤ k → k < i → bNe 32 (L.getD k 0) = false) → PQ (mX9_cutsLines_l91 rec3 d2 r (nI L.length) of ti wh (nI (lnE L a)) (nI (lnK L a)) (nI (lnS L a)) (nI i) σ) Q := by
      intro Q rec3 hQ d2
      induction d2 with
      | zero => intro i _ _ _; exact pq_none
      | succ d2 ih2 =>
        intro i h1 h2 h3
        have fin : (i < lnE L a → bNe 32 (L.getD i 0) = true) → PQ (mX9_cutsLines_b113 rec3 r (nI L.length) of ti wh (nI (lnE L a)) (nI (lnK L a)) (nI (lnS L a)) (nI i) σ) Q := fun h => by
          rw [← show lnV L a = i from nx_is h1 h2 h3 h]; exact hQ
        unfold mX9_cutsLines_l91
        refine pq_le (nI_toInt (by omega)) (nI_toInt (by omega)) (fun q => fin (fun h => by omega)) (fun q => ?_)
        rw [rd_nI (by omega), hL i (by omega)]
        refine pq_ck (pq_eq (fun q1 => ?_) (fun q1 => fin (fun _ => bNe_t q1)))
        rw [nI_1]
        refine ih2 (i + 1) (by omega) (by omega) (fun k k1 k2 => ?_)
        by_cases e : k = i
        · rw [e]; exact bNe_f q1
        · exact h3 k k1 (by omega)
    refine k91 _ _ ?_ rFU (lnS L a + 1) (Nat.le_refl _) (by omega) (fun k k1 k2 => by omega)
    unfold mX9_cutsLines_b113
    -- the key's end
    have k137 : ∀ (Q : Int32 × RS9 → Prop) (rec3 : Nat → Int32 → Nat → Nat → Nat → Int32 → RS9 → Option (Int32 × RS9)) (σ1 : RS9) (v11 : Int32), RLs σ1 r L → PQ (mX9_cutsLines_b161 rec3 r (nI L.length) of ti wh (nI (lnE L a)) (nI (lnK L a)) v11 (nI (bkn (bEq 32) L (lnK L a) (lnS L a))) σ1) Q → ∀ (d2 i : Nat), lnK L a ≤ i → i ≤ lnS L a → bkn (bEq 32) L (lnK L a) (lnS L a) = bkn (bEq 32) L (lnK L a) i → PQ (mX9_cutsLines_l137 rec3 d2 r (nI L.length) of ti wh (nI (lnE L a)) (nI (lnK L a)) v11 (nI i) σ1) Q := by
      intro Q rec3 σ1 v11 hL1 hQ d2
      induction d2 with
      | zero => intro i _ _ _; exact pq_none
      | succ d2 ih2 =>
        intro i h1 h2 h3
        unfold mX9_cutsLines_l137
        refine pq_le (nI_toInt (by omega)) (nI_toInt (by omega)) (fun q => ?_) (fun q => ?_)
        · have e9 : bkn (bEq 32) L (lnK L a) i = i := bkn_st (by omega)
          rw [e9] at h3
          rw [← h3]; exact hQ
        · rw [show nI i - (1 : Int32) = nI (i - 1) from nI_sb (b := 1) (by omega) (by omega), rd_nI (by omega), hL1 _ (by omega)]
          refine pq_ck (pq_eq (fun q1 => ?_) (fun q1 => ?_))
          · rw [nI_dec (by omega) (by omega)]
            exact ih2 (i - 1) (by omega) (by omega) (by rw [h3]; exact bkn_go (by omega) (decide_eq_true q1))
          · have e9 : bkn (bEq 32) L (lnK L a) i = i := bkn_st (fun h => q1 (of_decide_eq_true h.2))
            rw [e9] at h3
            rw [← h3]; exact hQ
    refine pq_call (r_finds (w := false) hO hF (show lnV L a ≤ 700 by omega) (show lnE L a ≤ 700 by omega)) (fun y hy => ?_)
    rcases hy with ⟨g1, rfl⟩ | ⟨g1, σ1, rfl, g2, g3, g4, g5, g6, g7, g8, g9, g10⟩
    · refine k137 _ _ σ (σ.1 54) hL ?_ rFU (lnS L a) hKS (Nat.le_refl _) rfl
      unfold mX9_cutsLines_b161
      exact pq_le rfl rfl (fun _ => non (if_pos (Or.inr (Or.inr (by omega))))) (fun q => by omega)
    · have hL1 : RLs σ1 r L := RL_frx hL g2 (nr_not hr)
      refine k137 _ _ σ1 (σ.1 54) hL1 ?_ rFU (lnS L a) hKS (Nat.le_refl _) rfl
      unfold mX9_cutsLines_b161
      rw [hF.1, g6]
      refine pq_le (nI_toInt (by omega)) (nI_toInt (by omega)) (fun q => by omega) (fun _ => ?_)
      have est : (stL L a).1 = some (lnV L a, lnE L a, false, lnK L a, lnM L a) := if_neg (fun h => by rcases h with h | h | h <;> first | omega | exact q2 h)
      by_cases h17 : of = 17
      · refine pq_t h17 (pq_ck (pq_ck ?_))
        have em : nI (bkn (bEq 32) L (lnK L a) (lnS L a)) - nI (lnK L a) = nI (lnM L a) := nI_sb hM' (by omega)
        rw [em]
        have hne : of ≠ 20 ∧ of ≠ 21 ∧ ti ≠ 20 ∧ ti ≠ 21 ∧ wh ≠ 20 ∧ wh ≠ 21 := by unfold OFS at hO; omega
        have hX : FRX (RO5 of ti wh) FO1 σ1 (rSa (rSa σ1 20 (nI C.length) (nI (lnK L a))) 21 (nI C.length) (nI (lnM L a))) := ⟨fun k hk => by rw [sa_ne (fun q => hk (by omega)), sa_ne (fun q => hk (by omega))], fun k hk => rfl⟩
        have o1 : ∀ z, z ≠ 20 → z ≠ 21 → (rSa (rSa σ1 20 (nI C.length) (nI (lnK L a))) 21 (nI C.length) (nI (lnM L a))).2 z = σ1.2 z := fun z z1 z2 => by rw [sa_ne z2, sa_ne z1]
        refine nxt _ _ est (FO_ext (c := (lnV L a, lnE L a, false, lnK L a, lnM L a)) hF g5 g6 (fun i hi => ?_) ?_ ?_ ?_ (fun _ => ⟨fun i hi => ⟨?_, ?_⟩, ?_, ?_⟩)) (RL_frx hL1 hX (nr_not hr)) (frx_tr g2 hX)
        · rw [o1 _ hne.1 hne.2.1, o1 _ hne.2.2.1 hne.2.2.2.1, o1 _ hne.2.2.2.2.1 hne.2.2.2.2.2]; exact g7 i hi
        · rw [o1 _ hne.1 hne.2.1]; exact g8
        · rw [o1 _ hne.2.2.1 hne.2.2.2.1]; exact g9
        · rw [o1 _ hne.2.2.2.2.1 hne.2.2.2.2.2]; exact g10
        · rw [sa_ne (by omega), sa_nI (by omega), if_neg (by omega), g3]
        · rw [sa_nI (by omega), if_neg (by omega), sa_ne (by omega), g4]
        · rw [sa_ne (by omega), sa_nI (by omega), if_pos rfl]
        · rw [sa_nI (by omega), if_pos rfl]
      · refine pq_f h17 ?_
        exact nxt σ1 _ est (FO_ext (c := (lnV L a, lnE L a, false, lnK L a, lnM L a)) hF g5 g6 g7 g8 g9 g10 (fun q => absurd (of_decide_eq_true q) h17)) hL1 g2
end RLN
