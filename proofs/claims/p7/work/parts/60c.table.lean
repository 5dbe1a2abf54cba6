/-! the reference cuts tables, markup, quotes -/
theorem st_1 {L : BL} {a : Nat} : stepK 1 L a = stT L a := by unfold stepK; rw [if_neg (by decide), if_pos rfl]
theorem st_2 {L : BL} {a : Nat} : stepK 2 L a = stM L a := by unfold stepK; rw [if_neg (by decide), if_neg (by decide), if_pos rfl]
theorem st_3 {L : BL} {a : Nat} : stepK 3 L a = stQ L a := by unfold stepK; rw [if_neg (by decide), if_neg (by decide), if_neg (by decide)]
section RTB
variable {r : Nat} {L : BL} {of ti wh : Nat}
theorem FO_o {σ σ1 : RS9} {C : List CI} {o : Option CI} {x y : Nat} {w : Bool} (hF : FO σ of ti wh false C) (he : o = if x < y then some (x, y, w, 0, 0) else none) (hy : (y ≤ x ∧ σ1 = σ) ∨ (x < y ∧ FRX (RO5 of ti wh) FO1 σ σ1 ∧ σ1.2 20 = σ.2 20 ∧ σ1.2 21 = σ.2 21 ∧ C.length < 600 ∧ σ1.1 54 = nI (C.length + 1) ∧ (∀ i, i < C.length → σ1.2 of i = σ.2 of i ∧ σ1.2 ti i = σ.2 ti i ∧ σ1.2 wh i = σ.2 wh i) ∧ σ1.2 of C.length = nI x ∧ σ1.2 ti C.length = nI y ∧ σ1.2 wh C.length = bI w)) : FO σ1 of ti wh false (C ++ o.toList) ∧ FRX (RO5 of ti wh) FO1 σ σ1 := by
  rcases hy with ⟨g1, rfl⟩ | ⟨g1, g2, g3, g4, g5, g6, g7, g8, g9, g10⟩
  · rw [he, if_neg (by omega)]
    exact ⟨by show FO σ1 of ti wh false (C ++ []); rw [List.append_nil]; exact hF, frx_rfl⟩
  · rw [he, if_pos g1]
    exact ⟨FO_ext (c := (x, y, w, 0, 0)) hF g5 g6 g7 g8 g9 g10 (fun q => by cases q), g2⟩
theorem r_find1 {σ : RS9} {C : List CI} {x y : Nat} {w : Bool} {Q : Int32 × RS9 → Prop} {k : Int32 × RS9 → Option (Int32 × RS9)} (hO : OFS of ti wh) (hF : FO σ of ti wh false C) (hx : x ≤ 700) (hy : y ≤ 700) {o : Option CI} (he : o = if x < y then some (x, y, w, 0, 0) else none) (hk : ∀ σ1, FO σ1 of ti wh false (C ++ o.toList) → FRX (RO5 of ti wh) FO1 σ σ1 → PQ (k (0, σ1)) Q) : PQ ((mX9_finds of ti wh (nI x) (nI y) (bI w) σ).bind k) Q := by
  refine pq_call (r_finds (w := w) hO hF hx hy) (fun z hz => ?_)
  rcases hz with ⟨g1, rfl⟩ | ⟨g1, σ1, rfl, g⟩
  · have := FO_o (σ1 := σ) hF he (Or.inl ⟨g1, rfl⟩)
    exact hk σ this.1 this.2
  · have := FO_o (σ1 := σ1) hF he (Or.inr ⟨g1, g⟩)
    exact hk σ1 this.1 this.2
theorem r_table (hO : OFS of ti wh) (hr : NR r of ti wh) (h6 : L.length ≤ 600) : ∀ (d a : Nat) (σ : RS9) (C : List CI), RLs σ r L → FO σ of ti wh false C → a ≤ L.length + 1 → PQ (mX9_cutsTable_l3 d r (nI L.length) of ti wh (nI a) σ) (CQ σ of ti wh false (C ++ cutL 1 L a)) := by
  intro d
  induction d with
  | zero => intro a σ C _ _ _; exact pq_none
  | succ d ih =>
    intro a σ C hL hF ha
    unfold mX9_cutsTable_l3
    refine pq_le (nI_toInt (by omega)) (nI_toInt (by omega)) (fun q => ?_) (fun q => ?_)
    · rw [cutL_end (by omega), List.append_nil]
      exact pq_ret ⟨σ, rfl, hF, frx_rfl⟩
    have hlt : a < L.length := by omega
    have ecut : cutL 1 L a = (stT L a).1.toList ++ cutL 1 L (stT L a).2 := by rw [← st_1]; exact cutL_st hlt
    have nxt : ∀ (σ' : RS9) (b : Nat), (stT L a).2 = b + 1 → b ≤ L.length → FO σ' of ti wh false (C ++ (stT L a).1.toList) → FRX (RO5 of ti wh) FO1 σ σ' → PQ (mX9_cutsTable_b151 (fun v1 v2 v3 v4 v5 v6 σ => mX9_cutsTable_l3 d v1 v2 v3 v4 v5 v6 σ) r (nI L.length) of ti wh (nI b) σ') (CQ σ of ti wh false (C ++ cutL 1 L a)) := by
      intro σ' b hb hbL hF' hX
      unfold mX9_cutsTable_b151
      rw [nI_1]
      refine pq_tail (ih (b + 1) σ' _ (RL_frx hL hX (nr_not hr)) hF' (by omega)) (fun y hy => ?_)
      obtain ⟨σ'', e1, e2, e3⟩ := hy
      refine ⟨σ'', e1, ?_, frx_tr hX e3⟩
      rw [ecut, hb, ← List.append_assoc]
      exact e2
    have hB1 : a ≤ nx bSep L a L.length := nx_ge
    have hB2 : nx bSep L a L.length ≤ L.length := nx_le (by omega)
    refine pq_isr (r_endOf hL (by omega) (p := bSep) bSep_o (Nat.le_refl _) (by omega)) (pq_ck ?_)
    show PQ (if (rGa σ r (nI a)) = (34 : Int32) then _ else _) _
    rw [rd_nI (by omega), hL a hlt]
    refine pq_eq (fun q1 => ?_) (fun q1 => ?_)
    · have hq1 : a + 1 ≤ qe L (a + 1) := qe_ge
      have hq2 : qe L (a + 1) ≤ L.length := qe_le (by omega)
      have est : stT L a = (if a + 1 < qe L (a + 1) then some (a + 1, qe L (a + 1), true, 0, 0) else none, (if qe L (a + 1) < L.length then nx bSep L (qe L (a + 1) + 1) L.length else L.length) + 1) := if_pos q1
      have fin : PQ (mX9_cutsTable_b93 (fun v1 v2 v3 v4 v5 v6 σ => mX9_cutsTable_l3 d v1 v2 v3 v4 v5 v6 σ) r (nI L.length) of ti wh (nI a) (nI (qe L (a + 1))) σ) (CQ σ of ti wh false (C ++ cutL 1 L a)) := by
        unfold mX9_cutsTable_b93
        rw [nI_1]
        refine r_find1 (w := true) hO hF (by omega) (by omega) (o := (stT L a).1) (by rw [est]) (fun σ1 hF1 hX1 => ?_)
        have hL1 := RL_frx hL hX1 (nr_not hr)
        refine pq_le (nI_toInt (by omega)) (nI_toInt (by omega)) (fun q2 => ?_) (fun q2 => ?_)
        · exact nxt σ1 L.length (by rw [est]; show (if qe L (a + 1) < L.length then _ else L.length) + 1 = _; rw [if_neg (by omega)]) (Nat.le_refl _) hF1 hX1
        · rw [nI_1]
          refine pq_isr (r_endOf hL1 (by omega) (p := bSep) bSep_o (Nat.le_refl _) (by omega)) ?_
          have hb1 : nx bSep L (qe L (a + 1) + 1) L.length ≤ L.length := nx_le (by omega)
          exact nxt σ1 (nx bSep L (qe L (a + 1) + 1) L.length) (by rw [est]; show (if qe L (a + 1) < L.length then _ else L.length) + 1 = _; rw [if_pos (by omega)]) hb1 hF1 hX1
      have k37 : ∀ (d2 i : Nat), i ≤ L.length → qe L (a + 1) = qe L i → PQ (mX9_cutsTable_l37 (fun v1 v2 v3 v4 v5 v6 σ => mX9_cutsTable_l3 d v1 v2 v3 v4 v5 v6 σ) d2 r (nI L.length) of ti wh (nI a) (nI i) σ) (CQ σ of ti wh false (C ++ cutL 1 L a)) := by
        intro d2
        induction d2 with
        | zero => intro i _ _; exact pq_none
        | succ d2 ih2 =>
          intro i hi he
          have stop : qe L i = i → PQ (mX9_cutsTable_b93 (fun v1 v2 v3 v4 v5 v6 σ => mX9_cutsTable_l3 d v1 v2 v3 v4 v5 v6 σ) r (nI L.length) of ti wh (nI a) (nI i) σ) (CQ σ of ti wh false (C ++ cutL 1 L a)) := fun h => by
            rw [h] at he
            rw [← he]; exact fin
          unfold mX9_cutsTable_l37
          refine pq_le (nI_toInt (by omega)) (nI_toInt (by omega)) (fun q2 => stop (qe_end (by omega))) (fun q2 => ?_)
          have hi' : i < L.length := by omega
          have hs := qe_st (L := L) hi'
          rw [rd_nI (by omega), hL i hi', nI_1]
          refine pq_ck (pq_eq (fun q3 => ?_) (fun q3 => ?_))
          · rw [if_pos q3] at hs
            refine pq_le (nI_toInt (by omega)) (nI_toInt (by omega)) (fun q4 => stop ?_) (fun q4 => ?_)
            · rw [hs, if_neg (by omega)]
            · rw [rd_nI (by omega), hL (i + 1) (by omega)]
              refine pq_ck (pq_eq (fun q5 => ?_) (fun q5 => stop ?_))
              · rw [if_pos ⟨by omega, q5⟩] at hs
                unfold mX9_cutsTable_b71
                rw [rd_nI (by omega), hL i hi']
                refine pq_ck (pq_t q3 ?_)
                unfold mX9_cutsTable_b87
                rw [show nI i + (2 : Int32) = nI (i + 2) from nI_add i 2]
                exact ih2 (i + 2) (by omega) (by rw [he, hs])
              · rw [hs, if_neg (fun h => q5 h.2)]
          · rw [if_neg q3] at hs
            unfold mX9_cutsTable_b71
            rw [rd_nI (by omega), hL i hi']
            refine pq_ck (pq_f q3 ?_)
            unfold mX9_cutsTable_b87
            rw [nI_1]
            exact ih2 (i + 1) (by omega) (by rw [he, hs])
      rw [nI_1]
      exact k37 rFU (a + 1) (by omega) rfl
    · have est : stT L a = (if a < nx bSep L a L.length then some (a, nx bSep L a L.length, false, 0, 0) else none, nx bSep L a L.length + 1) := if_neg q1
      refine r_find1 (w := false) hO hF (by omega) (by omega) (o := (stT L a).1) (by rw [est]) (fun σ1 hF1 hX1 => ?_)
      exact nxt σ1 (nx bSep L a L.length) (by rw [est]) hB2 hF1 hX1
theorem bNb_b {c : Int32} : bNb c = !bBare c := rfl
theorem bkn_ee {p : Int32 → Bool} {L : BL} {a : Nat} : bkn p L a a = a := bkn_st (fun h => by omega)
theorem mk_next {L : BL} {b : Nat} (hb : b ≤ L.length) (h : b < L.length → L.getD b 0 = 60) : cutL 2 L b = cutL 2 L (nx (bEq 62) L b L.length + 1) := by
  rcases Nat.lt_or_ge b L.length with hlt | hge
  · rw [cutL_st hlt, st_2]
    have e : stM L b = (none, nx (bEq 62) L b L.length + 1) := if_pos (h hlt)
    rw [e]; rfl
  · rw [cutL_end hge, nx_end hge, cutL_end (by omega)]
theorem r_markup (hO : OFS of ti wh) (hr : NR r of ti wh) (h6 : L.length ≤ 600) : ∀ (d a : Nat) (σ : RS9) (C : List CI), RLs σ r L → FO σ of ti wh false C → a ≤ L.length + 1 → PQ (mX9_cutsMarkup_l3 d r (nI L.length) of ti wh (nI a) σ) (CQ σ of ti wh false (C ++ cutL 2 L a)) := by
  intro d
  induction d with
  | zero => intro a σ C _ _ _; exact pq_none
  | succ d ih =>
    intro a σ C hL hF ha
    unfold mX9_cutsMarkup_l3
    refine pq_le (nI_toInt (by omega)) (nI_toInt (by omega)) (fun q => ?_) (fun q => ?_)
    · rw [cutL_end (by omega), List.append_nil]
      exact pq_ret ⟨σ, rfl, hF, frx_rfl⟩
    have hlt : a < L.length := by omega
    have hb1 : a ≤ mkS L a := nx_ge
    have hb2 : mkS L a ≤ L.length := nx_le (by omega)
    have hx1 : a ≤ mkX L a := nx_ge
    have hx2 : mkX L a ≤ mkS L a := nx_le hb1
    have hy1 : mkX L a ≤ mkY L a := bkn_ge _ hx2
    have hy2 : mkY L a ≤ mkS L a := bkn_le _
    have hat : mkS L a < L.length → L.getD (mkS L a) 0 = 60 := fun h => of_decide_eq_true (nx_at (p := bEq 60) (L := L) (a := a) (b := L.length) h)
    have ecut : cutL 2 L a = (if mkX L a < mkY L a then some (mkX L a, mkY L a, false, 0, 0) else none : Option CI).toList ++ cutL 2 L (nx (bEq 62) L (mkS L a) L.length + 1) := by
      by_cases h60 : L.getD a 0 = 60
      · have es : mkS L a = a := nx_hit hlt (decide_eq_true h60)
        have ex : mkX L a = a := by unfold mkX; rw [es]; exact nx_end (Nat.le_refl _)
        have ey : mkY L a = a := by unfold mkY; rw [es, ex]; exact bkn_ee
        rw [ex, ey, if_neg (by omega), es]
        show cutL 2 L a = [] ++ _
        rw [List.nil_append]
        exact mk_next (by omega) (fun _ => h60)
      · rw [cutL_st hlt, st_2]
        have e : stM L a = (if mkX L a < mkY L a then some (mkX L a, mkY L a, false, 0, 0) else none, mkS L a) := if_neg h60
        rw [e, ← mk_next hb2 hat]
    refine pq_isr (r_endOf hL (by omega) (p := bEq 60) bEq_o (Nat.le_refl _) (by omega)) ?_
    show PQ (mX9_cutsMarkup_l30 (fun v1 v2 v3 v4 v5 v6 σ => mX9_cutsMarkup_l3 d v1 v2 v3 v4 v5 v6 σ) rFU r (nI L.length) of ti wh (nI (mkS L a)) (nI a) (nI (mkS L a)) σ) _
    have fin : PQ (mX9_cutsMarkup_b78 (fun v1 v2 v3 v4 v5 v6 σ => mX9_cutsMarkup_l3 d v1 v2 v3 v4 v5 v6 σ) r (nI L.length) of ti wh (nI (mkS L a)) (nI (mkX L a)) (nI (mkY L a)) σ) (CQ σ of ti wh false (C ++ cutL 2 L a)) := by
      unfold mX9_cutsMarkup_b78
      refine r_find1 (w := false) hO hF (by omega) (by omega) rfl (fun σ1 hF1 hX1 => ?_)
      have hL1 := RL_frx hL hX1 (nr_not hr)
      have hn : nx (bEq 62) L (mkS L a) L.length ≤ L.length := nx_le hb2
      refine pq_isr (r_endOf hL1 (by omega) (p := bEq 62) bEq_o (Nat.le_refl _) (by omega)) ?_
      show PQ (mX9_cutsMarkup_l3 d r (nI L.length) of ti wh (nI (nx (bEq 62) L (mkS L a) L.length) + 1) σ1) _
      rw [nI_1]
      refine pq_tail (ih _ σ1 _ hL1 hF1 (by omega)) (fun y hy => ?_)
      obtain ⟨σ'', e1, e2, e3⟩ := hy
      refine ⟨σ'', e1, ?_, frx_tr hX1 e3⟩
      rw [ecut, ← List.append_assoc]
      exact e2
    have k53 : ∀ (d2 i : Nat), mkX L a ≤ i → i ≤ mkS L a → mkY L a = bkn bBare L (mkX L a) i → PQ (mX9_cutsMarkup_l53 (fun v1 v2 v3 v4 v5 v6 σ => mX9_cutsMarkup_l3 d v1 v2 v3 v4 v5 v6 σ) d2 r (nI L.length) of ti wh (nI (mkS L a)) (nI (mkX L a)) (nI i) σ) (CQ σ of ti wh false (C ++ cutL 2 L a)) := by
      intro d2
      induction d2 with
      | zero => intro i _ _ _; exact pq_none
      | succ d2 ih2 =>
        intro i h1 h2 h3
        unfold mX9_cutsMarkup_l53
        refine pq_le (nI_toInt (by omega)) (nI_toInt (by omega)) (fun q1 => ?_) (fun q1 => ?_)
        · rw [bkn_st (by omega)] at h3
          rw [← h3]; exact fin
        · rw [show nI i - (1 : Int32) = nI (i - 1) from nI_sb (b := 1) (by omega) (by omega), rd_nI (by omega), hL _ (by omega)]
          refine pq_ck (pq_isr r_isBare ?_)
          cases hbr : bBare (L.getD (i - 1) 0) with
          | false =>
            refine pq_t rfl ?_
            rw [bkn_st (fun h => by rw [hbr] at h; cases h.2)] at h3
            rw [← h3]; exact fin
          | true =>
            refine pq_f (show ¬ (1 : Int32) = 0 by decide) ?_
            rw [nI_dec (by omega) (by omega)]
            exact ih2 (i - 1) (by omega) (by omega) (by rw [h3]; exact bkn_go (by omega) hbr)
    have k30 : ∀ (d2 i : Nat), a ≤ i → i ≤ mkS L a → (∀ k, a ≤ k → k < i → bNb (L.getD k 0) = false) → PQ (mX9_cutsMarkup_l30 (fun v1 v2 v3 v4 v5 v6 σ => mX9_cutsMarkup_l3 d v1 v2 v3 v4 v5 v6 σ) d2 r (nI L.length) of ti wh (nI (mkS L a)) (nI i) (nI (mkS L a)) σ) (CQ σ of ti wh false (C ++ cutL 2 L a)) := by
      intro d2
      induction d2 with
      | zero => intro i _ _ _; exact pq_none
      | succ d2 ih2 =>
        intro i h1 h2 h3
        have go : (i < mkS L a → bNb (L.getD i 0) = true) → PQ (mX9_cutsMarkup_l53 (fun v1 v2 v3 v4 v5 v6 σ => mX9_cutsMarkup_l3 d v1 v2 v3 v4 v5 v6 σ) rFU r (nI L.length) of ti wh (nI (mkS L a)) (nI i) (nI (mkS L a)) σ) (CQ σ of ti wh false (C ++ cutL 2 L a)) := fun h => by
          rw [← show mkX L a = i from nx_is h1 h2 h3 h]
          exact k53 rFU (mkS L a) hx2 (Nat.le_refl _) rfl
        unfold mX9_cutsMarkup_l30
        refine pq_le (nI_toInt (by omega)) (nI_toInt (by omega)) (fun q1 => go (fun h => by omega)) (fun q1 => ?_)
        rw [rd_nI (by omega), hL i (by omega)]
        refine pq_ck (pq_isr r_isBare ?_)
        cases hbr : bBare (L.getD i 0) with
        | false => exact pq_t rfl (go (fun _ => by rw [bNb_b, hbr]; rfl))
        | true =>
          refine pq_f (show ¬ (1 : Int32) = 0 by decide) ?_
          rw [nI_1]
          refine ih2 (i + 1) (by omega) (by omega) (fun k k1 k2 => ?_)
          by_cases e : k = i
          · rw [e, bNb_b, hbr]; rfl
          · exact h3 k k1 (by omega)
    exact k30 rFU a (Nat.le_refl _) hb1 (fun k k1 k2 => by omega)
end RTB
