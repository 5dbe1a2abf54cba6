/-! the class tells -/
theorem tx_split {P : List Pc} {i : Nat} (h : i < P.length) : ∃ R, txs P = txs (P.take i) ++ (pX (P.getD i pc0) ++ R) := by
  refine ⟨txs (P.drop (i + 1)), ?_⟩
  have e : P = P.take i ++ ([P.getD i pc0] ++ P.drop (i + 1)) := by
    conv => lhs; rw [← List.take_append_drop i P]
    rw [List.drop_eq_getElem_cons h, List.getD_eq_getElem?_getD, List.getElem?_eq_getElem h]; rfl
  conv => lhs; rw [e]
  rw [txs_app, txs_app, txs_1]
theorem tx_le {P : List Pc} {i : Nat} (h : i < P.length) : tAt P i + (pX (P.getD i pc0)).length ≤ (txs P).length := by
  obtain ⟨R, e⟩ := tx_split h
  rw [e, List.length_append, List.length_append]
  show (txs (P.take i)).length + _ ≤ _
  omega
theorem tx_gd {P : List Pc} {i k : Nat} (h : i < P.length) (hk : k < (pX (P.getD i pc0)).length) : (txs P).getD (tAt P i + k) 0 = (pX (P.getD i pc0)).getD k 0 := by
  obtain ⟨R, e⟩ := tx_split h
  rw [e, gd_app_r (by show (txs (P.take i)).length ≤ (txs (P.take i)).length + k; omega)]
  rw [show tAt P i + k - (txs (P.take i)).length = k by show (txs (P.take i)).length + k - _ = k; omega, gd_app_l hk]
theorem tx_sl {P : List Pc} {i : Nat} (h : i < P.length) : sl (txs P) (tAt P i) (tAt P i + (pX (P.getD i pc0)).length) = pX (P.getD i pc0) := by
  have hl := tx_le h
  refine bl_ext (by rw [sl_len hl]; omega) (fun k hk => ?_)
  rw [sl_len hl] at hk
  rw [sl_gd (by omega), tx_gd h (by omega)]
theorem tx_sm {P : List Pc} {i k : Nat} (hi : i < P.length) (hk : k < P.length) (hl : (pX (P.getD i pc0)).length = (pX (P.getD k pc0)).length) : smF (txs P) (tAt P i) (txs P) (tAt P k) (pX (P.getD i pc0)).length = decide (pX (P.getD i pc0) = pX (P.getD k pc0)) := by
  by_cases e : pX (P.getD i pc0) = pX (P.getD k pc0)
  · rw [decide_eq_true e]
    refine (smF_all _ _ _).mpr (fun z hz => ?_)
    rw [tx_gd hi hz, tx_gd hk (by omega), e]
  · rw [decide_eq_false e]
    cases hx : smF (txs P) (tAt P i) (txs P) (tAt P k) (pX (P.getD i pc0)).length with
    | false => rfl
    | true =>
      refine absurd (bl_ext hl (fun z hz => ?_)) e
      have := (smF_all _ _ _).mp hx z hz
      rw [tx_gd hi hz, tx_gd hk (by omega)] at this
      exact this
theorem isS_ne {α : Type} {o : Option α} (h : o ≠ none) : o.isSome = true := by
  cases o with
  | none => exact absurd rfl h
  | some _ => rfl
section CTL
variable {f : AH} {n : Nat} {S : SST} {hi ag pc wn fp : Int32}
theorem f_areLike {v : Int32} {i : Nat} (hC : CUT f 59 (pcF S)) (hv : inP S v) (hi : i < (pcF S).length) : PQ (mX1_areLike 59 v (nI i) f n) (fun y => y = (bI (lkB S v.toInt.toNat i), f, n)) := by
  have hvN := tn_lt hv
  have hT := hC.1.2.1
  have h6 := rw_6 hT
  have l1 := tx_le hvN
  have l2 := tx_le hi
  obtain ⟨a9, a10, a11, ea⟩ := hC.1.1.2.2.2.1 v.toInt.toNat hvN
  obtain ⟨b9, b10, b11, eb⟩ := hC.1.1.2.2.2.1 i hi
  have no : ∀ z : Int32, z = bI (lkB S v.toInt.toNat i) → PQ (mX1_areLike_b66 z f n) (fun y => y = (bI (lkB S v.toInt.toNat i), f, n)) := fun z hz => pq_ck (pq_ret (by rw [hz]))
  unfold mX1_areLike
  refine pq_ck (pq_is (f_cgetI hC.1.1 hv) (pq_sb (pq_ck (pq_is (f_cgetN hC.1.1 hi) (pq_sb (pq_oNs (pq_oNs (pq_gI ea rfl (pq_gI eb rfl ?_)))))))))
  refine pq_eqi (nI_toInt (by omega)) (nI_toInt (by omega)) (fun q => ?_) (fun q => ?_)
  · refine pq_gR hC.1.1.1 rfl (pq_gI ea rfl (pq_gR hC.1.1.1 rfl (pq_gI eb rfl (pq_gI ea rfl (pq_sb (pq_ck (pq_is (f_same hT hT l1 (by omega)) ?_)))))))
    rw [tx_sm hvN hi (by omega)]
    refine pq_eq (fun q2 => no _ ?_) (fun q2 => no _ ?_)
    · exact q2.symm
    · have q2 : ¬ bI (lkB S v.toInt.toNat i) = 0 := q2
      rcases bI_01 (b := lkB S v.toInt.toNat i) with h | h
      · exact absurd h q2
      · exact h.symm
  · have e : lkB S v.toInt.toNat i = false := decide_eq_false (fun h => q (by show ((pX (pOf S v.toInt.toNat)).length : Int) = ((pX (pOf S i)).length : Int); rw [h]))
    exact no _ (by rw [e]; rfl)
theorem KO_BD {i : Nat} (hK : KO f n S) (hi : i < (pcF S).length) : ∃ x11, f (75 + i) = some (.inr (3, pcV (nI (pOf S i).1) (nI (pOf S i).2.1) (nI (tAt (pcF S) i)) (nI (pX (pOf S i)).length) (nI (pOf S i).2.2.2.2.2.1) (nI (pOf S i).2.2.2.2.2.2.1) (bI (pOf S i).2.2.1) (bI (pOf S i).2.2.2.1) (bI (pOf S i).2.2.2.2.1) (nI (bbeg S.2.1 S.1 S.2.2.1 (pcF S) i)) (nI (bsz S.2.1 S.1 S.2.2.1 (pcF S) i)) x11)) := hK.2.2.2.2 i hi
theorem f_escS {i jt : Nat} {t : BL} (hK : KO f n S) (hi : i < (pcF S).length) (ht : RI1 f n jt t) (h60 : t.length ≤ 60) : PQ (mX0_escape 171 (some jt) (some (75 + i)) (some 3) f n) (fun y => ∃ f', y = (bI (escFor S.2.1 (pOf S i) t).isSome, f', n) ∧ KO f' n S ∧ (∀ E, escFor S.2.1 (pOf S i) t = some E → isRw f' 174 175 540 E) ∧ ∀ j, j < 171 ∨ 177 < j → f' j = f j) := by
  obtain ⟨⟨fr, la, a1, a2, full, a3, a4⟩, a5, a6, a7, a8⟩ := id hK.1
  obtain ⟨bt, ct, t1, t2, t3⟩ := ht
  have i1 := IMM_1 t2
  have i2 := IMM_1 t3
  have h40 : (pcF S).length ≤ 40 := pcs_40
  obtain ⟨x11, ep⟩ := KO_BD hK hi
  refine pq_tail (f_escape (x := pOf S i) a7.1 a7.2.1 ep (by omega) a1 (by omega) hK.2.2.1 t1 (by omega) (by omega) h60) (fun y hy => ?_)
  obtain ⟨f', h1, h2, h3, h4, h5⟩ := hy
  have hK' : KO f' n S := by
    refine ⟨STT_tr hK.1 (h5 _ (by omega)) (h5 _ (by omega)) (h5 _ (by omega)) (fun j hj => h5 j (by have := IMM_1 hj; omega)) (Nat.le_refl _), CUT_tr hK.2.1 (fun j a b => h5 j (by omega)), ⟨h2, ?_, h3, h4⟩, rw_tr hK.2.2.2.1 (h5 _ (by omega)) (h5 _ (by omega)), fun k hk => ?_⟩
    · obtain ⟨R, hR⟩ := hK.2.2.1.2.1
      exact ⟨R, rw_tr hR (h5 _ (by omega)) (h5 _ (by omega))⟩
    · obtain ⟨y11, ey⟩ := hK.2.2.2.2 k hk
      exact ⟨y11, (h5 _ (by omega)).trans ey⟩
  cases he : escFor S.2.1 (pOf S i) t with
  | none =>
    rw [he] at h1
    exact ⟨f', h1, hK', (fun E q => by cases q), fun j hj => h5 j (by omega)⟩
  | some E =>
    rw [he] at h1
    exact ⟨f', h1.1, hK', (fun E2 q => by cases q; exact h1.2), fun j hj => h5 j (by omega)⟩
theorem KO_up {f' : AH} {n' : Nat} (hK : KO f n S) (hn : 224 ≤ n) (h : ∀ j, j < n → f' j = f j) (hn' : n ≤ n') : KO f' n' S := KO_tr hK (fun j hj => h j (by rcases hj with q | q | q | q <;> first | omega | exact IMM_lt q hn)) hn'
theorem f_tell {v : Int32} {jw : Nat} {w : BL} (hn : 224 ≤ n) (hp : f 0 = some (.inr (8, pfL hi 0 pc wn fp))) (hK : KO f n S) (hV : SV S) (hw : RI1 f n jw w) (h60 : w.length ≤ 60) : PQ (mX8_tellPiece 0 v (some jw) f n) (AOK f n hi pc wn fp (tlA S v w)) := by
  unfold mX8_tellPiece
  refine pq_gR hp rfl (pq_sb (pq_ck ?_))
  by_cases hin : inP S v
  · have hvN := tn_lt hin
    have h40 := inP_40 hin
    have e1 : tlA S v w = if escFor S.2.1 (pOf S v.toInt.toNat) w = none then (2, S) else if 600 < (bltS (setT S (tset S.2.2.1 v.toInt.toNat (some w)))).length then (3, S) else (0, memA (setT S (tset S.2.2.1 v.toInt.toNat (some w))) (pOf S v.toInt.toNat) w) := if_pos hin
    rw [e1]
    refine pq_is (f_cgetI hK.2.1.1.1 hin) (pq_sb (pq_oNs (pq_oNs (pq_gR hp rfl (pq_gR hp rfl (pq_sb (pq_ck (pq_call (f_escS (f := f) (n := n) hK hvN hw h60) (fun y hy => ?_)))))))))
    obtain ⟨f1, rfl, hK1, -, hF1⟩ := hy
    have hp1 : f1 0 = some (.inr (8, pfL hi 0 pc wn fp)) := (hF1 0 (by omega)).trans hp
    have hFr1 : FRa n f f1 := fra_of (fun j hj => hF1 j (by omega))
    by_cases he : escFor S.2.1 (pOf S v.toInt.toNat) w = none
    · rw [if_pos he]
      refine pq_t (show bI (escFor S.2.1 (pOf S v.toInt.toNat) w).isSome = 0 by rw [he]; rfl) (pq_ret ⟨f1, n, rfl, Nat.le_refl _, hp1, hFr1, fun q => absurd (show (2 : Int32) = 3 from q) (by decide), fun _ => hK1⟩)
    · rw [if_neg he]
      refine pq_f (show ¬ bI (escFor S.2.1 (pOf S v.toInt.toNat) w).isSome = 0 by rw [isS_ne he]; decide) ?_
      have hw1 : RI1 f1 n jw w := RI1_tr hw (fun j hj => fra_imm hFr1 hn hj) (Nat.le_refl _)
      refine pq_gR hp1 rfl (pq_sb (pq_ck (pq_call (f_setTold (f := f1) (n := n) (o := some w) sid3 hK1.1 h40 ⟨jw, rfl, hw1, h60⟩) (fun y hy => ?_))))
      obtain ⟨f2, rfl, hS2, hF2⟩ := hy
      have hp2 : f2 0 = some (.inr (8, pfL hi 0 pc wn fp)) := (hF2 0 (by omega)).trans hp1
      have hFr2 : FRa n f f2 := fra_tr hFr1 (fun j a b c d e g h => hF2 j e) (Nat.le_refl _)
      have hve : VE S.2.1 (tset S.2.2.1 v.toInt.toNat (some w)) (pcF S) := VE_tset hV.1 (fun t e => by cases e; exact he)
      refine pq_gR hp2 rfl (pq_gR hp2 rfl (pq_gR hp2 rfl (pq_sb (pq_ck (pq_call (f_remake (f := f2) (n := n) (S := setT S (tset S.2.2.1 v.toInt.toNat (some w))) hS2 (CUT_tr hK1.2.1 (fun i a b => hF2 i (by omega))) (BSh_tr hK1.2.2.1 (fun i a b => hF2 i (by omega))) hve) (fun y hy => ?_))))))
      obtain ⟨f3, e3, h | h⟩ := hy
      · obtain ⟨hb, rfl, hK3⟩ := h
        have hp3 : f3 0 = some (.inr (8, pfL hi 0 pc wn fp)) := (e3 0 (by omega)).trans hp2
        have hFr3 : FRa n f f3 := fra_tr hFr2 (fra_of (n := n) e3) (Nat.le_refl _)
        rw [if_neg (show ¬ 600 < (bltS (setT S (tset S.2.2.1 v.toInt.toNat (some w)))).length by omega)]
        obtain ⟨x11, ep⟩ := KO_BD (i := v.toInt.toNat) hK3 hvN
        have hT := hK3.2.1.1.2.1
        have hT6 := rw_6 hT
        have hle := tx_le (P := pcF S) hvN
        have hle2 : tAt (pcF S) v.toInt.toNat + (pX (pOf S v.toInt.toNat)).length ≤ (txs (pcF S)).length := hle
        have hT6' : (txs (pcF S)).length ≤ 600 := hT6
        refine pq_f (show ¬ (1 : Int32) = 0 by decide) (pq_gI ep rfl ?_)
        refine pq_lt kt_60 (show (nI (pX (pOf S v.toInt.toNat)).length).toInt = _ from nI_toInt (by omega)) (fun q => ?_) (fun q => ?_)
        · have em : memA (setT S (tset S.2.2.1 v.toInt.toNat (some w))) (pOf S v.toInt.toNat) w = setT S (tset S.2.2.1 v.toInt.toNat (some w)) := if_neg (by omega)
          rw [em]
          exact pq_ret ⟨f3, n, rfl, Nat.le_refl _, hp3, hFr3, fun q => absurd (show (0 : Int32) = 3 from q) (by decide), fun _ => hK3⟩
        · have em : memA (setT S (tset S.2.2.1 v.toInt.toNat (some w))) (pOf S v.toInt.toNat) w = (S.1, S.2.1, tset S.2.2.1 v.toInt.toNat (some w), ((pX (pOf S v.toInt.toNat), w) :: S.2.2.2).take 12) := if_pos (by omega)
          rw [em]
          refine pq_gR hp3 rfl (pq_gR hp3 rfl (pq_sb (pq_gR hK3.2.1.1.1.1 rfl (pq_gI ep rfl (pq_gI ep rfl (pq_sb (pq_ck (pq_call (f_part (f := f3) (n := n) (B := 60) (i := tAt (pcF S) v.toInt.toNat) (k := (pX (pOf S v.toInt.toNat)).length) hT hle2 (by omega) (by omega)) (fun y hy => ?_)))))))))
          obtain ⟨f4, rfl, r4, hF4⟩ := hy
          have er : sl (txs (pcF S)) (tAt (pcF S) v.toInt.toNat) (tAt (pcF S) v.toInt.toNat + (pX (pOf S v.toInt.toNat)).length) = pX (pOf S v.toInt.toNat) := tx_sl hvN
          have r4 : isRw f4 n (n + 1) (pX (pOf S v.toInt.toNat)).length (sl (txs (pcF S)) (tAt (pcF S) v.toInt.toNat) (tAt (pcF S) v.toInt.toNat + (pX (pOf S v.toInt.toNat)).length)) := r4
          rw [er] at r4
          have hK4 : KO f4 (n + 2) (setT S (tset S.2.2.1 v.toInt.toNat (some w))) := KO_up hK3 hn hF4 (by omega)
          have hw4 : RI1 f4 (n + 2) jw w := RI1_tr hw (fun j hj => (hF4 j (IMM_lt hj hn)).trans (fra_imm hFr3 hn hj)) (by omega)
          have ht4 : RI1 f4 (n + 2) n (pX (pOf S v.toInt.toNat)) := ⟨n + 1, _, r4, by unfold IMM; omega, by unfold IMM; omega⟩
          refine pq_sb (pq_sb (pq_ck (pq_call (f_addPair (f := f4) (n := n + 2) sid3 (show 224 ≤ n + 2 by omega) hK4.1 hV.2.2.1 ht4 hw4) (fun y hy => ?_))))
          obtain ⟨f5, rfl, hS5, hF5⟩ := hy
          refine pq_ret ⟨f5, n + 2 + 1, rfl, by omega, ?_, fun j a b c d e g h => ?_, fun q => absurd (show (0 : Int32) = 3 from q) (by decide), fun _ => ⟨hS5, CUT_tr hK4.2.1 (fun i a b => hF5 i (by omega) (by omega)), BSh_tr hK4.2.2.1 (fun i a b => hF5 i (by omega) (by omega)), rw_tr hK4.2.2.2.1 (hF5 _ (by omega) (by omega)) (hF5 _ (by omega) (by omega)), fun k hk => ?_⟩⟩
          · exact (hF5 0 (by omega) (by omega)).trans ((hF4 0 (by omega)).trans hp3)
          · exact (hF5 j (by omega) c).trans ((hF4 j a).trans (hFr3 j a b c d e g h))
          · obtain ⟨y11, ey⟩ := hK4.2.2.2.2 k hk
            have h40' : (pcs S.2.1 S.1).length ≤ 40 := pcs_40
            have hk' : k < (pcs S.2.1 S.1).length := hk
            exact ⟨y11, (hF5 _ (by omega) (by omega)).trans ey⟩
      · obtain ⟨hb, rfl, hH⟩ := h
        rw [if_pos hb]
        exact pq_t rfl (pq_ret ⟨f3, n, rfl, Nat.le_refl _, (e3 0 (by omega)).trans hp2, fra_tr hFr2 (fra_of (n := n) e3) (Nat.le_refl _), fun _ => hH, fun q => absurd rfl q⟩)
  · have e1 : tlA S v w = (1, S) := if_neg hin
    rw [e1]
    exact pq_is (f_cgetX hK.2.1.1.1 hin) (pq_sb (pq_oNn (pq_ret (aok_no hp hK (by decide)))))
end CTL
