/-! part 57d.tell -/
section
/-! the class tells -/
theorem tx_split {P : List Pc} {i : Nat} (h : i < P.length) : ∃ R, txs P = txs (P.take i) ++ (pX (P.getD i pc0) ++ R) := by
  refine ⟨txs (P.drop (i + 1)), ?_⟩
  have e : P = P.take i ++ ([P.getD i pc0] ++ P.drop (i + 1)) := by
    conv => lhs; rw [← List.take_append_drop i P]
    rw [List.drop_eq_getElem_cons h, List.getD_eq_getElem?_getD, List.getElem?_eq_getElem h]; rfl
  conv => lhs; rw [e]
  rw [txs_app, txs_app, txs_1]
theorem tx_le {P : List Pc} {i : Nat} (h : i < P.length) : tAt P i + (pX (P.getD i pc0)).length ≤ (txs P).length := by
  obtain ⟨R, e⟩ := tx_split h
  rw [e, List.length_append, List.length_append]
  show (txs (P.take i)).length + _ ≤ _
  omega
theorem tx_gd {P : List Pc} {i k : Nat} (h : i < P.length) (hk : k < (pX (P.getD i pc0)).length) : (txs P).getD (tAt P i + k) 0 = (pX (P.getD i pc0)).getD k 0 := by
  obtain ⟨R, e⟩ := tx_split h
  rw [e, gd_app_r (by show (txs (P.take i)).length ≤ (txs (P.take i)).length + k; omega)]
  rw [show tAt P i + k - (txs (P.take i)).length = k by show (txs (P.take i)).length + k - _ = k; omega, gd_app_l hk]
theorem tx_sl {P : List Pc} {i : Nat} (h : i < P.length) : sl (txs P) (tAt P i) (tAt P i + (pX (P.getD i pc0)).length) = pX (P.getD i pc0) := by
  have hl := tx_le h
  refine bl_ext (by rw [sl_len hl]; omega) (fun k hk => ?_)
  rw [sl_len hl] at hk
  rw [sl_gd (by omega), tx_gd h (by omega)]
theorem tx_sm {P : List Pc} {i k : Nat} (hi : i < P.length) (hk : k < P.length) (hl : (pX (P.getD i pc0)).length = (pX (P.getD k pc0)).length) : smF (txs P) (tAt P i) (txs P) (tAt P k) (pX (P.getD i pc0)).length = decide (pX (P.getD i pc0) = pX (P.getD k pc0)) := by
  by_cases e : pX (P.getD i pc0) = pX (P.getD k pc0)
  · rw [decide_eq_true e]
    refine (smF_all _ _ _).mpr (fun z hz => ?_)
    rw [tx_gd hi hz, tx_gd hk (by omega), e]
  · rw [decide_eq_false e]
    cases hx : smF (txs P) (tAt P i) (txs P) (tAt P k) (pX (P.getD i pc0)).length with
    | false => rfl
    | true =>
      refine absurd (bl_ext hl (fun z hz => ?_)) e
      have := (smF_all _ _ _).mp hx z hz
      rw [tx_gd hi hz, tx_gd hk (by omega)] at this
      exact this
theorem isS_ne {α : Type} {o : Option α} (h : o ≠ none) : o.isSome = true := by
  cases o with
  | none => exact absurd rfl h
  | some _ => rfl
section CTL
variable {f : AH} {n : Nat} {S : SST} {hi ag pc wn fp : Int32}
theorem f_areLike {v : Int32} {i : Nat} (hC : CUT f 59 (pcF S)) (hv : inP S v) (hi : i < (pcF S).length) : PQ (mX1_areLike 59 v (nI i) f n) (fun y => y = (bI (lkB S v.toInt.toNat i), f, n)) := by
  have hvN := tn_lt hv
  have hT := hC.1.2.1
  have h6 := rw_6 hT
  have l1 := tx_le hvN
  have l2 := tx_le hi
  obtain ⟨a9, a10, a11, ea⟩ := hC.1.1.2.2.2.1 v.toInt.toNat hvN
  obtain ⟨b9, b10, b11, eb⟩ := hC.1.1.2.2.2.1 i hi
  have no : ∀ z : Int32, z = bI (lkB S v.toInt.toNat i) → PQ (mX1_areLike_b66 z f n) (fun y => y = (bI (lkB S v.toInt.toNat i), f, n)) := fun z hz => pq_ck (pq_ret (by rw [hz]))
  unfold mX1_areLike
  refine pq_ck (pq_is (f_cgetI hC.1.1 hv) (pq_sb (pq_ck (pq_is (f_cgetN hC.1.1 hi) (pq_sb (pq_oNs (pq_oNs (pq_gI ea rfl (pq_gI eb rfl ?_)))))))))
  refine pq_eqi (nI_toInt (by omega)) (nI_toInt (by omega)) (fun q => ?_) (fun q => ?_)
  · refine pq_gR hC.1.1.1 rfl (pq_gI ea rfl (pq_gR hC.1.1.1 rfl (pq_gI eb rfl (pq_gI ea rfl (pq_sb (pq_ck (pq_is (f_same hT hT l1 (by omega)) ?_)))))))
    rw [tx_sm hvN hi (by omega)]
    refine pq_eq (fun q2 => no _ ?_) (fun q2 => no _ ?_)
    · exact q2.symm
    · have q2 : ¬ bI (lkB S v.toInt.toNat i) = 0 := q2
      rcases bI_01 (b := lkB S v.toInt.toNat i) with h | h
      · exact absurd h q2
      · exact h.symm
  · have e : lkB S v.toInt.toNat i = false := decide_eq_false (fun h => q (by show ((pX (pOf S v.toInt.toNat)).length : Int) = ((pX (pOf S i)).length : Int); rw [h]))
    exact no _ (by rw [e]; rfl)
theorem KO_BD {i : Nat} (hK : KO f n S) (hi : i < (pcF S).length) : ∃ x11, f (75 + i) = some (.inr (3, pcV (nI (pOf S i).1) (nI (pOf S i).2.1) (nI (tAt (pcF S) i)) (nI (pX (pOf S i)).length) (nI (pOf S i).2.2.2.2.2.1) (nI (pOf S i).2.2.2.2.2.2.1) (bI (pOf S i).2.2.1) (bI (pOf S i).2.2.2.1) (bI (pOf S i).2.2.2.2.1) (nI (bbeg S.2.1 S.1 S.2.2.1 (pcF S) i)) (nI (bsz S.2.1 S.1 S.2.2.1 (pcF S) i)) x11)) := hK.2.2.2.2 i hi
theorem f_escS {i jt : Nat} {t : BL} (hK : KO f n S) (hi : i < (pcF S).length) (ht : RI1 f n jt t) (h60 : t.length ≤ 60) : PQ (mX0_escape 171 (some jt) (some (75 + i)) (some 3) f n) (fun y => ∃ f', y = (bI (escFor S.2.1 (pOf S i) t).isSome, f', n) ∧ KO f' n S ∧ (∀ E, escFor S.2.1 (pOf S i) t = some E → isRw f' 174 175 540 E) ∧ ∀ j, j < 171 ∨ 177 < j → f' j = f j) := by
  obtain ⟨⟨fr, la, a1, a2, full, a3, a4⟩, a5, a6, a7, a8⟩ := id hK.1
  obtain ⟨bt, ct, t1, t2, t3⟩ := ht
  have i1 := IMM_1 t2
  have i2 := IMM_1 t3
  have h40 : (pcF S).length ≤ 40 := pcs_40
  obtain ⟨x11, ep⟩ := KO_BD hK hi
  refine pq_tail (f_escape (x := pOf S i) a7.1 a7.2.1 ep (by omega) a1 (by omega) hK.2.2.1 t1 (by omega) (by omega) h60) (fun y hy => ?_)
  obtain ⟨f', h1, h2, h3, h4, h5⟩ := hy
  have hK' : KO f' n S := by
    refine ⟨STT_tr hK.1 (h5 _ (by omega)) (h5 _ (by omega)) (h5 _ (by omega)) (fun j hj => h5 j (by have := IMM_1 hj; omega)) (Nat.le_refl _), CUT_tr hK.2.1 (fun j a b => h5 j (by omega)), ⟨h2, ?_, h3, h4⟩, rw_tr hK.2.2.2.1 (h5 _ (by omega)) (h5 _ (by omega)), fun k hk => ?_⟩
    · obtain ⟨R, hR⟩ := hK.2.2.1.2.1
      exact ⟨R, rw_tr hR (h5 _ (by omega)) (h5 _ (by omega))⟩
    · obtain ⟨y11, ey⟩ := hK.2.2.2.2 k hk
      exact ⟨y11, (h5 _ (by omega)).trans ey⟩
  cases he : escFor S.2.1 (pOf S i) t with
  | none =>
    rw [he] at h1
    exact ⟨f', h1, hK', (fun E q => by cases q), fun j hj => h5 j (by omega)⟩
  | some E =>
    rw [he] at h1
    exact ⟨f', h1.1, hK', (fun E2 q => by cases q; exact h1.2), fun j hj => h5 j (by omega)⟩
theorem KO_up {f' : AH} {n' : Nat} (hK : KO f n S) (hn : 224 ≤ n) (h : ∀ j, j < n → f' j = f j) (hn' : n ≤ n') : KO f' n' S := KO_tr hK (fun j hj => h j (by rcases hj with q | q | q | q <;> first | omega | exact IMM_lt q hn)) hn'
theorem f_tell {v : Int32} {jw : Nat} {w : BL} (hn : 224 ≤ n) (hp : f 0 = some (.inr (8, pfL hi 0 pc wn fp))) (hK : KO f n S) (hV : SV S) (hw : RI1 f n jw w) (h60 : w.length ≤ 60) : PQ (mX8_tellPiece 0 v (some jw) f n) (AOK f n hi pc wn fp (tlA S v w)) := by
  unfold mX8_tellPiece
  refine pq_gR hp rfl (pq_sb (pq_ck ?_))
  by_cases hin : inP S v
  · have hvN := tn_lt hin
    have h40 := inP_40 hin
    have e1 : tlA S v w = if escFor S.2.1 (pOf S v.toInt.toNat) w = none then (2, S) else if 600 < (bltS (setT S (tset S.2.2.1 v.toInt.toNat (some w)))).length then (3, S) else (0, memA (setT S (tset S.2.2.1 v.toInt.toNat (some w))) (pOf S v.toInt.toNat) w) := if_pos hin
    rw [e1]
    refine pq_is (f_cgetI hK.2.1.1.1 hin) (pq_sb (pq_oNs (pq_oNs (pq_gR hp rfl (pq_gR hp rfl (pq_sb (pq_ck (pq_call (f_escS (f := f) (n := n) hK hvN hw h60) (fun y hy => ?_)))))))))
    obtain ⟨f1, rfl, hK1, -, hF1⟩ := hy
    have hp1 : f1 0 = some (.inr (8, pfL hi 0 pc wn fp)) := (hF1 0 (by omega)).trans hp
    have hFr1 : FRa n f f1 := fra_of (fun j hj => hF1 j (by omega))
    by_cases he : escFor S.2.1 (pOf S v.toInt.toNat) w = none
    · rw [if_pos he]
      refine pq_t (show bI (escFor S.2.1 (pOf S v.toInt.toNat) w).isSome = 0 by rw [he]; rfl) (pq_ret ⟨f1, n, rfl, Nat.le_refl _, hp1, hFr1, fun q => absurd (show (2 : Int32) = 3 from q) (by decide), fun _ => hK1⟩)
    · rw [if_neg he]
      refine pq_f (show ¬ bI (escFor S.2.1 (pOf S v.toInt.toNat) w).isSome = 0 by rw [isS_ne he]; decide) ?_
      have hw1 : RI1 f1 n jw w := RI1_tr hw (fun j hj => fra_imm hFr1 hn hj) (Nat.le_refl _)
      refine pq_gR hp1 rfl (pq_sb (pq_ck (pq_call (f_setTold (f := f1) (n := n) (o := some w) sid3 hK1.1 h40 ⟨jw, rfl, hw1, h60⟩) (fun y hy => ?_))))
      obtain ⟨f2, rfl, hS2, hF2⟩ := hy
      have hp2 : f2 0 = some (.inr (8, pfL hi 0 pc wn fp)) := (hF2 0 (by omega)).trans hp1
      have hFr2 : FRa n f f2 := fra_tr hFr1 (fun j a b c d e g h => hF2 j e) (Nat.le_refl _)
      have hve : VE S.2.1 (tset S.2.2.1 v.toInt.toNat (some w)) (pcF S) := VE_tset hV.1 (fun t e => by cases e; exact he)
      refine pq_gR hp2 rfl (pq_gR hp2 rfl (pq_gR hp2 rfl (pq_sb (pq_ck (pq_call (f_remake (f := f2) (n := n) (S := setT S (tset S.2.2.1 v.toInt.toNat (some w))) hS2 (CUT_tr hK1.2.1 (fun i a b => hF2 i (by omega))) (BSh_tr hK1.2.2.1 (fun i a b => hF2 i (by omega))) hve) (fun y hy => ?_))))))
      obtain ⟨f3, e3, h | h⟩ := hy
      · obtain ⟨hb, rfl, hK3⟩ := h
        have hp3 : f3 0 = some (.inr (8, pfL hi 0 pc wn fp)) := (e3 0 (by omega)).trans hp2
        have hFr3 : FRa n f f3 := fra_tr hFr2 (fra_of (n := n) e3) (Nat.le_refl _)
        rw [if_neg (show ¬ 600 < (bltS (setT S (tset S.2.2.1 v.toInt.toNat (some w)))).length by omega)]
        obtain ⟨x11, ep⟩ := KO_BD (i := v.toInt.toNat) hK3 hvN
        have hT := hK3.2.1.1.2.1
        have hT6 := rw_6 hT
        have hle := tx_le (P := pcF S) hvN
        have hle2 : tAt (pcF S) v.toInt.toNat + (pX (pOf S v.toInt.toNat)).length ≤ (txs (pcF S)).length := hle
        have hT6' : (txs (pcF S)).length ≤ 600 := hT6
        refine pq_f (show ¬ (1 : Int32) = 0 by decide) (pq_gI ep rfl ?_)
        refine pq_lt kt_60 (show (nI (pX (pOf S v.toInt.toNat)).length).toInt = _ from nI_toInt (by omega)) (fun q => ?_) (fun q => ?_)
        · have em : memA (setT S (tset S.2.2.1 v.toInt.toNat (some w))) (pOf S v.toInt.toNat) w = setT S (tset S.2.2.1 v.toInt.toNat (some w)) := if_neg (by omega)
          rw [em]
          exact pq_ret ⟨f3, n, rfl, Nat.le_refl _, hp3, hFr3, fun q => absurd (show (0 : Int32) = 3 from q) (by decide), fun _ => hK3⟩
        · have em : memA (setT S (tset S.2.2.1 v.toInt.toNat (some w))) (pOf S v.toInt.toNat) w = (S.1, S.2.1, tset S.2.2.1 v.toInt.toNat (some w), ((pX (pOf S v.toInt.toNat), w) :: S.2.2.2).take 12) := if_pos (by omega)
          rw [em]
          refine pq_gR hp3 rfl (pq_gR hp3 rfl (pq_sb (pq_gR hK3.2.1.1.1.1 rfl (pq_gI ep rfl (pq_gI ep rfl (pq_sb (pq_ck (pq_call (f_part (f := f3) (n := n) (B := 60) (i := tAt (pcF S) v.toInt.toNat) (k := (pX (pOf S v.toInt.toNat)).length) hT hle2 (by omega) (by omega)) (fun y hy => ?_)))))))))
          obtain ⟨f4, rfl, r4, hF4⟩ := hy
          have er : sl (txs (pcF S)) (tAt (pcF S) v.toInt.toNat) (tAt (pcF S) v.toInt.toNat + (pX (pOf S v.toInt.toNat)).length) = pX (pOf S v.toInt.toNat) := tx_sl hvN
          have r4 : isRw f4 n (n + 1) (pX (pOf S v.toInt.toNat)).length (sl (txs (pcF S)) (tAt (pcF S) v.toInt.toNat) (tAt (pcF S) v.toInt.toNat + (pX (pOf S v.toInt.toNat)).length)) := r4
          rw [er] at r4
          have hK4 : KO f4 (n + 2) (setT S (tset S.2.2.1 v.toInt.toNat (some w))) := KO_up hK3 hn hF4 (by omega)
          have hw4 : RI1 f4 (n + 2) jw w := RI1_tr hw (fun j hj => (hF4 j (IMM_lt hj hn)).trans (fra_imm hFr3 hn hj)) (by omega)
          have ht4 : RI1 f4 (n + 2) n (pX (pOf S v.toInt.toNat)) := ⟨n + 1, _, r4, by unfold IMM; omega, by unfold IMM; omega⟩
          refine pq_sb (pq_sb (pq_ck (pq_call (f_addPair (f := f4) (n := n + 2) sid3 (show 224 ≤ n + 2 by omega) hK4.1 hV.2.2.1 ht4 hw4) (fun y hy => ?_))))
          obtain ⟨f5, rfl, hS5, hF5⟩ := hy
          refine pq_ret ⟨f5, n + 2 + 1, rfl, by omega, ?_, fun j a b c d e g h => ?_, fun q => absurd (show (0 : Int32) = 3 from q) (by decide), fun _ => ⟨hS5, CUT_tr hK4.2.1 (fun i a b => hF5 i (by omega) (by omega)), BSh_tr hK4.2.2.1 (fun i a b => hF5 i (by omega) (by omega)), rw_tr hK4.2.2.2.1 (hF5 _ (by omega) (by omega)) (hF5 _ (by omega) (by omega)), fun k hk => ?_⟩⟩
          · exact (hF5 0 (by omega) (by omega)).trans ((hF4 0 (by omega)).trans hp3)
          · exact (hF5 j (by omega) c).trans ((hF4 j a).trans (hFr3 j a b c d e g h))
          · obtain ⟨y11, ey⟩ := hK4.2.2.2.2 k hk
            have h40' : (pcs S.2.1 S.1).length ≤ 40 := pcs_40
            have hk' : k < (pcs S.2.1 S.1).length := hk
            exact ⟨y11, (hF5 _ (by omega) (by omega)).trans ey⟩
      · obtain ⟨hb, rfl, hH⟩ := h
        rw [if_pos hb]
        exact pq_t rfl (pq_ret ⟨f3, n, rfl, Nat.le_refl _, (e3 0 (by omega)).trans hp2, fra_tr hFr2 (fra_of (n := n) e3) (Nat.le_refl _), fun _ => hH, fun q => absurd rfl q⟩)
  · have e1 : tlA S v w = (1, S) := if_neg hin
    rw [e1]
    exact pq_is (f_cgetX hK.2.1.1.1 hin) (pq_sb (pq_oNn (pq_ret (aok_no hp hK (by decide)))))
end CTL
end
/-! part 57e.swap -/
section
/-! the class spreads and swaps -/
theorem spT_0 {S : SST} {p : Nat} {t : BL} : spT S p t 0 = S.2.2.1 := by
  funext i
  exact if_neg (fun q => absurd q.1 (Nat.not_lt_zero _))
theorem spT_no {S : SST} {p m : Nat} {t : BL} (h : lkB S p m = false) : spT S p t (m + 1) = spT S p t m := by
  funext i
  unfold spT
  by_cases e : i = m
  · subst e
    rw [if_neg (by rw [h]; intro q; cases q.2), if_neg (by omega)]
  · by_cases h2 : i < m ∧ lkB S p i = true
    · rw [if_pos h2, if_pos ⟨by omega, h2.2⟩]
    · rw [if_neg h2, if_neg (fun q => h2 ⟨by omega, q.2⟩)]
theorem spT_yes {S : SST} {p m : Nat} {t : BL} (h : lkB S p m = true) : tset (spT S p t m) m (some t) = spT S p t (m + 1) := by
  funext i
  by_cases e : i = m
  · subst e
    rw [tset_eq]
    exact (if_pos ⟨by omega, h⟩).symm
  · rw [tset_ne e]
    unfold spT
    by_cases h2 : i < m ∧ lkB S p i = true
    · rw [if_pos h2, if_pos ⟨by omega, h2.2⟩]
    · rw [if_neg h2, if_neg (fun q => h2 ⟨by omega, q.2⟩)]
section CSP
variable {n : Nat} {S : SST} {hi ag pc wn fp : Int32}
theorem nI_tn {i : Nat} (h : i < 2 ^ 31) : (nI i).toInt.toNat = i := by
  rw [nI_toInt h]; exact Int.toNat_natCast i
theorem f_spread_l86 {f0 : AH} {v : Int32} {jt : Nat} {t : BL} (hn : 224 ≤ n) (hin : inP S v) (h60 : t.length ≤ 60) (hve : VE S.2.1 (spT S v.toInt.toNat t (pcF S).length) (pcF S)) : ∀ (d i : Nat) (f : AH), f 0 = some (.inr (8, pfL hi 0 pc wn fp)) → FRa n f0 f → STT f n 3 (setT S (spT S v.toInt.toNat t i)) → CUT f 59 (pcF S) → BSh f → RI1 f n jt t → i ≤ (pcF S).length → PQ (mX8_spreadPiece_l86 d 0 v (some jt) (nI i) f n) (AOK f0 n hi pc wn fp (finA S (setT S (spT S v.toInt.toNat t (pcF S).length)))) := by
  have h40 : (pcF S).length ≤ 40 := pcs_40
  intro d
  induction d with
  | zero => intro i f _ _ _ _ _ _ _; exact pq_none
  | succ d ih =>
    intro i f hp hFr hS hC hB hw hi
    unfold mX8_spreadPiece_l86
    refine pq_gR hp rfl (pq_sb (pq_ck (pq_is (f_csize hC.1.1) ?_)))
    refine pq_le (nI_toInt (by omega)) (nI_toInt (by omega)) (fun q => ?_) (fun q => ?_)
    · have e : i = (pcF S).length := by omega
      rw [e] at hS
      exact f_fin (n0 := n) (S0 := S) (g := f) (S := setT S (spT S v.toInt.toNat t (pcF S).length)) (Nat.le_refl _) hp hFr hS hC hB hve
    · refine pq_gR hp rfl (pq_sb (pq_ck (pq_is (f_areLike (f := f) (n := n) hC hin (show i < (pcF S).length by omega)) ?_)))
      cases hl : lkB S v.toInt.toNat i with
      | false =>
        refine pq_t rfl ?_
        show PQ (mX8_spreadPiece_l86 d 0 v (some jt) (nI i + 1) f n) _
        rw [nI_1]
        rw [← spT_no hl] at hS
        exact ih (i + 1) f hp hFr hS hC hB hw (by omega)
      | true =>
        refine pq_f (show ¬ (1 : Int32) = 0 by decide) ?_
        refine pq_gR hp rfl (pq_sb (pq_ck (pq_call (f_setTold (f := f) (n := n) (v := nI i) (o := some t) sid3 hS (by rw [nI_toInt (by omega)]; omega) ⟨jt, rfl, hw, h60⟩) (fun y hy => ?_))))
        obtain ⟨f2, rfl, hS2, hF2⟩ := hy
        show PQ (mX8_spreadPiece_l86 d 0 v (some jt) (nI i + 1) f2 n) _
        rw [nI_1]
        rw [nI_tn (by omega)] at hS2
        have hS2 : STT f2 n 3 (setT S (tset (spT S v.toInt.toNat t i) i (some t))) := hS2
        rw [spT_yes hl] at hS2
        exact ih (i + 1) f2 ((hF2 0 (by omega)).trans hp) (fra_tr hFr (fun j a b c d e g h => hF2 j e) (Nat.le_refl _)) hS2 (CUT_tr hC (fun i a b => hF2 i (by omega))) (BSh_tr hB (fun i a b => hF2 i (by omega))) (RI1_tr hw (fun j hj => hF2 j (by have := IMM_ne hj sid3; omega)) (Nat.le_refl _)) (by omega)
theorem f_spread_l30 {f0 : AH} {v : Int32} {jt : Nat} {t : BL} (hn : 224 ≤ n) (hin : inP S v) (hV : SV S) (h60 : t.length ≤ 60) : ∀ (d i : Nat) (f : AH), f 0 = some (.inr (8, pfL hi 0 pc wn fp)) → FRa n f0 f → KO f n S → RI1 f n jt t → i ≤ (pcF S).length → (∀ k, k < i → lkB S v.toInt.toNat k = true → escFor S.2.1 (pOf S k) t ≠ none) → PQ (mX8_spreadPiece_l30 d 0 v (some jt) (nI i) f n) (AOK f0 n hi pc wn fp (if spN S v.toInt.toNat t = true then (2, S) else finA S (setT S (spT S v.toInt.toNat t (pcF S).length)))) := by
  have h40 : (pcF S).length ≤ 40 := pcs_40
  intro d
  induction d with
  | zero => intro i f _ _ _ _ _ _; exact pq_none
  | succ d ih =>
    intro i f hp hFr hK hw hil hno
    have hC := hK.2.1
    unfold mX8_spreadPiece_l30
    refine pq_gR hp rfl (pq_sb (pq_ck (pq_is (f_csize hC.1.1) ?_)))
    refine pq_le (nI_toInt (by omega)) (nI_toInt (by omega)) (fun q => ?_) (fun q => ?_)
    · have e : i = (pcF S).length := by omega
      have en : spN S v.toInt.toNat t = false := by
        cases hx : spN S v.toInt.toNat t with
        | false => rfl
        | true =>
          unfold spN at hx
          obtain ⟨k, hk1, hk2⟩ := List.any_eq_true.mp hx
          rw [Bool.and_eq_true] at hk2
          have := hno k (by have := List.mem_range.mp hk1; omega) hk2.1
          rw [Option.isNone_iff_eq_none] at hk2
          exact absurd hk2.2 this
      rw [if_neg (by rw [en]; decide)]
      refine f_spread_l86 hn hin h60 (fun k u hk he => ?_) rFU 0 f hp hFr (by rw [spT_0]; exact hK.1) hC hK.2.2.1 hw (Nat.zero_le _)
      have he : (if k < (pcF S).length ∧ lkB S v.toInt.toNat k = true then some t else S.2.2.1 k) = some u := he
      split at he
      · rename_i hc
        cases he
        exact isS_ne (hno k (by omega) hc.2)
      · exact hV.1 k u hk he
    · have hi' : i < (pcF S).length := by omega
      refine pq_gR hp rfl (pq_sb (pq_ck (pq_is (f_areLike (f := f) (n := n) hC hin hi') ?_)))
      cases hl : lkB S v.toInt.toNat i with
      | false =>
        refine pq_t rfl ?_
        show PQ (mX8_spreadPiece_l30 d 0 v (some jt) (nI i + 1) f n) _
        rw [nI_1]
        refine ih (i + 1) f hp hFr hK hw (by omega) (fun k hk hlk => ?_)
        by_cases e : k = i
        · rw [e, hl] at hlk; cases hlk
        · exact hno k (by omega) hlk
      | true =>
        refine pq_f (show ¬ (1 : Int32) = 0 by decide) ?_
        refine pq_gR hp rfl (pq_gR hp rfl (pq_sb (pq_ck (pq_is (f_cgetN hC.1.1 hi') (pq_sb (pq_gR hp rfl (pq_sb (pq_ck (pq_call (f_escS (f := f) (n := n) hK hi' hw h60) (fun y hy => ?_)))))))))) 
        obtain ⟨f1, rfl, hK1, -, hF1⟩ := hy
        have hp1 : f1 0 = some (.inr (8, pfL hi 0 pc wn fp)) := (hF1 0 (by omega)).trans hp
        have hFr1 : FRa n f0 f1 := fra_tr hFr (fra_of (n := n) (fun j hj => hF1 j (by omega))) (Nat.le_refl _)
        by_cases he : escFor S.2.1 (pOf S i) t = none
        · have es : spN S v.toInt.toNat t = true := by
            unfold spN
            refine List.any_eq_true.mpr ⟨i, List.mem_range.mpr hi', ?_⟩
            rw [hl, he]; rfl
          rw [if_pos es]
          exact pq_t (show bI (escFor S.2.1 (pOf S i) t).isSome = 0 by rw [he]; rfl) (pq_ret ⟨f1, n, rfl, Nat.le_refl _, hp1, hFr1, fun q => absurd (show (2 : Int32) = 3 from q) (by decide), fun _ => hK1⟩)
        · refine pq_f (show ¬ bI (escFor S.2.1 (pOf S i) t).isSome = 0 by rw [isS_ne he]; decide) ?_
          show PQ (mX8_spreadPiece_l30 d 0 v (some jt) (nI i + 1) f1 n) _
          rw [nI_1]
          refine ih (i + 1) f1 hp1 hFr1 hK1 (RI1_tr hw (fun j hj => hF1 j (by have := IMM_1 hj; omega)) (Nat.le_refl _)) (by omega) (fun k hk hlk => ?_)
          by_cases e : k = i
          · rw [e]; exact he
          · exact hno k (by omega) hlk
theorem f_spread {f : AH} {v : Int32} (hn : 224 ≤ n) (hp : f 0 = some (.inr (8, pfL hi 0 pc wn fp))) (hK : KO f n S) (hV : SV S) : PQ (mX8_spreadPiece 0 v f n) (AOK f n hi pc wn fp (spA S v)) := by
  unfold mX8_spreadPiece
  refine pq_gR hp rfl (pq_sb (pq_ck ?_))
  by_cases hin : inP S v
  · have h40 := inP_40 hin
    refine pq_is (f_cgetI hK.2.1.1.1 hin) (pq_sb (pq_oNs (pq_gR hp rfl (pq_sb (pq_ck (pq_call (f_toldForS (f := f) (n := n) hK.1 h40) (fun y hy => ?_)))))))
    obtain ⟨w, rfl, hw⟩ := hy
    cases ht : S.2.2.1 v.toInt.toNat with
    | none =>
      rw [ht] at hw
      have hw : w = none := hw
      subst hw
      have e1 : spA S v = (4, S) := by
        unfold spA
        rw [if_pos hin, ht]
      rw [e1]
      exact pq_sb (pq_oNn (pq_ret (aok_no hp hK (by decide))))
    | some t =>
      rw [ht] at hw
      obtain ⟨j, rfl, hw, h60⟩ := hw
      have e1 : spA S v = if spN S v.toInt.toNat t = true then (2, S) else finA S (setT S (spT S v.toInt.toNat t (pcF S).length)) := by
        unfold spA
        rw [if_pos hin, ht]
      rw [e1]
      exact pq_sb (pq_oNs (f_spread_l30 hn hin hV h60 rFU 0 f hp fra_rfl hK hw (Nat.zero_le _) (fun k hk => absurd hk (Nat.not_lt_zero _))))
  · have e1 : spA S v = (1, S) := if_neg hin
    rw [e1]
    exact pq_is (f_cgetX hK.2.1.1.1 hin) (pq_sb (pq_oNn (pq_ret (aok_no hp hK (by decide)))))
/-! what a piece is now -/
theorem now_s {i : Nat} {t : BL} (h : S.2.2.1 i = some t) : nowOf S i = t := by
  unfold nowOf; rw [h]
theorem now_n {i : Nat} (h : S.2.2.1 i = none) : nowOf S i = pX (pOf S i) := by
  unfold nowOf; rw [h]
theorem f_nowSize {f : AH} {v : Int32} (hp : f 0 = some (.inr (8, pfL hi ag pc wn fp))) (hK : KO f n S) (hin : inP S v) : PQ (mX8_nowSize 0 v (some (75 + v.toInt.toNat)) f n) (fun y => y = (nI (nowOf S v.toInt.toNat).length, f, n)) := by
  obtain ⟨x11, ep⟩ := KO_BD hK (tn_lt hin)
  unfold mX8_nowSize
  refine pq_gR hp rfl (pq_sb (pq_ck (pq_call (f_toldForS (f := f) (n := n) hK.1 (inP_40 hin)) (fun y hy => ?_))))
  obtain ⟨w, rfl, hw⟩ := hy
  cases ht : S.2.2.1 v.toInt.toNat with
  | none =>
    rw [ht] at hw
    have hw : w = none := hw
    subst hw
    rw [now_n ht]
    exact pq_sb (pq_oNn (pq_sb (pq_gI ep rfl (pq_ret rfl))))
  | some t =>
    rw [ht] at hw
    obtain ⟨j, rfl, ⟨b, c, hr, -⟩, h60⟩ := hw
    rw [now_s ht]
    exact pq_sb (pq_oNs (pq_ck (pq_is (f_size hr) (pq_ret rfl))))
theorem f_copyNow {f : AH} {v : Int32} (hn : 224 ≤ n) (hp : f 0 = some (.inr (8, pfL hi ag pc wn fp))) (hK : KO f n S) (hin : inP S v) : PQ (mX8_copyOfNow 0 v (some (75 + v.toInt.toNat)) f n) (fun y => ∃ f' n' j, y = (some j, f', n') ∧ n ≤ n' ∧ RI1 f' n' j (nowOf S v.toInt.toNat) ∧ ∀ k, k < n → f' k = f k) := by
  have hvN := tn_lt hin
  obtain ⟨x11, ep⟩ := KO_BD hK hvN
  unfold mX8_copyOfNow
  refine pq_gR hp rfl (pq_sb (pq_ck (pq_call (f_toldForS (f := f) (n := n) hK.1 (inP_40 hin)) (fun y hy => ?_))))
  obtain ⟨w, rfl, hw⟩ := hy
  cases ht : S.2.2.1 v.toInt.toNat with
  | none =>
    rw [ht] at hw
    have hw : w = none := hw
    subst hw
    rw [now_n ht]
    have hT := hK.2.1.1.2.1
    refine pq_sb (pq_oNn (pq_gR hp rfl (pq_sb (pq_gR hK.2.1.1.1.1 rfl (pq_sb (pq_gI ep rfl (pq_gI ep rfl (pq_sb (pq_ck (pq_call (f_part (f := f) (n := n) (B := 60) (i := tAt (pcF S) v.toInt.toNat) (k := (pX (pOf S v.toInt.toNat)).length) hT (tx_le hvN) (by omega) (by omega)) (fun y hy => ?_)))))))))))
    obtain ⟨f4, rfl, r4, hF4⟩ := hy
    have er : sl (txs (pcF S)) (tAt (pcF S) v.toInt.toNat) (tAt (pcF S) v.toInt.toNat + (pX (pOf S v.toInt.toNat)).length) = pX (pOf S v.toInt.toNat) := tx_sl hvN
    rw [er] at r4
    exact pq_sb (pq_ret ⟨f4, n + 2, n, rfl, by omega, ⟨n + 1, _, r4, by unfold IMM; omega, by unfold IMM; omega⟩, hF4⟩)
  | some t =>
    rw [ht] at hw
    obtain ⟨j, rfl, hr, h60⟩ := hw
    rw [now_s ht]
    exact pq_sb (pq_oNs (pq_ret ⟨f, n, j, rfl, Nat.le_refl _, hr, fun _ _ => rfl⟩))
end CSP
end
/-! part 57f.doact -/
section
/-! swap, and each act by its number -/
section CDO
variable {f : AH} {n : Nat} {S : SST} {hi ag pc wn fp : Int32}
theorem FRa_up {n' : Nat} {f f' : AH} (h : ∀ k, k < n → f' k = f k) (hn : n' ≤ n) : FRa n' f f' := fun j a _ _ _ _ _ _ => h j (by omega)
theorem f_swap {v u : Int32} (hn : 224 ≤ n) (hp : f 0 = some (.inr (8, pfL hi 0 pc wn fp))) (hK : KO f n S) (hV : SV S) : PQ (mX8_swapPieces 0 v u f n) (AOK f n hi pc wn fp (swA S v u)) := by
  have h40' : (pcF S).length ≤ 40 := pcs_40
  have hT6 := rw_6 hK.2.1.1.2.1
  unfold mX8_swapPieces
  refine pq_gR hp rfl (pq_sb (pq_ck ?_))
  by_cases hv : inP S v
  · refine pq_is (f_cgetI hK.2.1.1.1 hv) (pq_sb (pq_gR hp rfl (pq_sb (pq_ck ?_))))
    by_cases hu : inP S u
    · refine pq_is (f_cgetI hK.2.1.1.1 hu) (pq_sb (pq_oNs (pq_oNs ?_)))
      have hvN := tn_lt hv
      have huN := tn_lt hu
      have e1 : swA S v u = if v = u then (5, S) else if 60 < (nowOf S v.toInt.toNat).length ∨ 60 < (nowOf S u.toInt.toNat).length then (8, S) else if escFor S.2.1 (pOf S v.toInt.toNat) (nowOf S u.toInt.toNat) = none ∨ escFor S.2.1 (pOf S u.toInt.toNat) (nowOf S v.toInt.toNat) = none then (2, S) else finA S (setT S (swT S v.toInt.toNat u.toInt.toNat)) := if_pos ⟨hv, hu⟩
      rw [e1]
      refine pq_eq (fun q => ?_) (fun q => ?_)
      · rw [if_pos q]
        exact pq_ret (aok_no hp hK (by decide))
      · rw [if_neg q]
        have lim : ∀ i, i < (pcF S).length → (nowOf S i).length ≤ 600 := by
          intro i hi
          cases ht : S.2.2.1 i with
          | none =>
            rw [now_n ht]
            have := tx_le hi
            show (pX ((pcF S).getD i pc0)).length ≤ 600
            omega
          | some t =>
            rw [now_s ht]
            obtain ⟨-, -, ⟨g, -, h3⟩, -⟩ := hK.1
            have h5 := h3 i (by omega)
            rw [ht] at h5
            obtain ⟨j, -, -, h60⟩ := h5
            omega
        have l1 := lim _ hvN
        have l2 := lim _ huN
        refine pq_ck (pq_is (f_nowSize (f := f) (n := n) hp hK hv) ?_)
        refine pq_lt kt_60 (nI_toInt (by omega)) (fun q1 => ?_) (fun q1 => ?_)
        · rw [if_pos (Or.inl (by omega))]
          exact pq_ret (aok_no hp hK (by decide))
        · refine pq_ck (pq_is (f_nowSize (f := f) (n := n) hp hK hu) ?_)
          refine pq_le (nI_toInt (by omega)) kt_60 (fun q2 => ?_) (fun q2 => ?_)
          · rw [if_neg (by omega)]
            refine pq_ck (pq_call (f_copyNow (f := f) (n := n) hn hp hK hv) (fun y hy => ?_))
            obtain ⟨f1, n1, j1, rfl, hn1, r1, hF1⟩ := hy
            have hp1 : f1 0 = some (.inr (8, pfL hi 0 pc wn fp)) := (hF1 0 (by omega)).trans hp
            have hK1 : KO f1 n1 S := KO_up hK hn hF1 hn1
            refine pq_sb (pq_ck (pq_call (f_copyNow (f := f1) (n := n1) (by omega) hp1 hK1 hu) (fun y hy => ?_)))
            obtain ⟨f2, n2, j2, rfl, hn2, r2, hF2⟩ := hy
            have hp2 : f2 0 = some (.inr (8, pfL hi 0 pc wn fp)) := (hF2 0 (by omega)).trans hp1
            have hK2 : KO f2 n2 S := KO_up hK1 (by omega) hF2 hn2
            have r1' : RI1 f2 n2 j1 (nowOf S v.toInt.toNat) := RI1_tr r1 (fun j hj => hF2 j (IMM_lt hj (by omega))) hn2
            have hFr2 : FRa n f f2 := fra_tr (FRa_up (n := n) hF1 (Nat.le_refl _)) (FRa_up (n := n1) hF2 (Nat.le_refl _)) hn1
            refine pq_sb (pq_gR hp2 rfl (pq_gR hp2 rfl (pq_sb (pq_ck (pq_call (f_escS (f := f2) (n := n2) hK2 hvN r2 (by omega)) (fun y hy => ?_))))))
            obtain ⟨f3, rfl, hK3, -, hF3⟩ := hy
            have hp3 : f3 0 = some (.inr (8, pfL hi 0 pc wn fp)) := (hF3 0 (by omega)).trans hp2
            have hFr3 : FRa n f f3 := fra_tr hFr2 (fra_of (n := n) (fun j hj => hF3 j (by omega))) (Nat.le_refl _)
            by_cases he : escFor S.2.1 (pOf S v.toInt.toNat) (nowOf S u.toInt.toNat) = none
            · rw [if_pos (Or.inl he)]
              exact pq_t (show bI (escFor S.2.1 (pOf S v.toInt.toNat) (nowOf S u.toInt.toNat)).isSome = 0 by rw [he]; rfl) (pq_ret ⟨f3, n2, rfl, by omega, hp3, hFr3, fun q => absurd (show (2 : Int32) = 3 from q) (by decide), fun _ => hK3⟩)
            · refine pq_f (show ¬ bI (escFor S.2.1 (pOf S v.toInt.toNat) (nowOf S u.toInt.toNat)).isSome = 0 by rw [isS_ne he]; decide) ?_
              have im3 : ∀ j, IMM n2 j → f3 j = f2 j := fun j hj => hF3 j (by have := IMM_1 hj; omega)
              have r13 := RI1_tr r1' im3 (Nat.le_refl _)
              have r23 := RI1_tr r2 im3 (Nat.le_refl _)
              refine pq_gR hp3 rfl (pq_gR hp3 rfl (pq_sb (pq_ck (pq_call (f_escS (f := f3) (n := n2) hK3 huN r13 (by omega)) (fun y hy => ?_)))))
              obtain ⟨f4, rfl, hK4, -, hF4⟩ := hy
              have hp4 : f4 0 = some (.inr (8, pfL hi 0 pc wn fp)) := (hF4 0 (by omega)).trans hp3
              have hFr4 : FRa n f f4 := fra_tr hFr3 (fra_of (n := n) (fun j hj => hF4 j (by omega))) (Nat.le_refl _)
              by_cases he2 : escFor S.2.1 (pOf S u.toInt.toNat) (nowOf S v.toInt.toNat) = none
              · rw [if_pos (Or.inr he2)]
                exact pq_t (show bI (escFor S.2.1 (pOf S u.toInt.toNat) (nowOf S v.toInt.toNat)).isSome = 0 by rw [he2]; rfl) (pq_ret ⟨f4, n2, rfl, by omega, hp4, hFr4, fun q => absurd (show (2 : Int32) = 3 from q) (by decide), fun _ => hK4⟩)
              · rw [if_neg (show ¬ (escFor S.2.1 (pOf S v.toInt.toNat) (nowOf S u.toInt.toNat) = none ∨ escFor S.2.1 (pOf S u.toInt.toNat) (nowOf S v.toInt.toNat) = none) from fun q => q.elim he he2)]
                refine pq_f (show ¬ bI (escFor S.2.1 (pOf S u.toInt.toNat) (nowOf S v.toInt.toNat)).isSome = 0 by rw [isS_ne he2]; decide) ?_
                have im4 : ∀ j, IMM n2 j → f4 j = f3 j := fun j hj => hF4 j (by have := IMM_1 hj; omega)
                have r14 := RI1_tr r13 im4 (Nat.le_refl _)
                have r24 := RI1_tr r23 im4 (Nat.le_refl _)
                refine pq_gR hp4 rfl (pq_sb (pq_ck (pq_call (f_setTold (f := f4) (n := n2) (o := some (nowOf S u.toInt.toNat)) sid3 hK4.1 (inP_40 hv) ⟨j2, rfl, r24, by omega⟩) (fun y hy => ?_))))
                obtain ⟨f5, rfl, hS5, hF5⟩ := hy
                have hp5 : f5 0 = some (.inr (8, pfL hi 0 pc wn fp)) := (hF5 0 (by omega)).trans hp4
                have r15 := RI1_tr r14 (f' := f5) (fun j hj => hF5 j (by have := IMM_ne hj sid3; omega)) (Nat.le_refl _)
                refine pq_gR hp5 rfl (pq_sb (pq_ck (pq_call (f_setTold (f := f5) (n := n2) (o := some (nowOf S v.toInt.toNat)) sid3 hS5 (inP_40 hu) ⟨j1, rfl, r15, by omega⟩) (fun y hy => ?_))))
                obtain ⟨f6, rfl, hS6, hF6⟩ := hy
                have hx : ∀ j, j ≠ 7 → f6 j = f4 j := fun j hj => (hF6 j hj).trans (hF5 j hj)
                exact f_fin (f := f) (n0 := n) (n := n2) (S0 := S) (g := f6) (S := setT S (swT S v.toInt.toNat u.toInt.toNat)) (by omega) ((hF6 0 (by omega)).trans hp5) (fra_tr hFr4 (fun j a b c d e g h => hx j e) (Nat.le_refl _)) hS6 (CUT_tr hK4.2.1 (fun i a b => hx i (by omega))) (BSh_tr hK4.2.2.1 (fun i a b => hx i (by omega))) (VE_tset (VE_tset hV.1 (fun t e => by cases e; exact he)) (fun t e => by cases e; exact he2))
          · rw [if_pos (Or.inr (by omega))]
            exact pq_ret (aok_no hp hK (by decide))
    · have e1 : swA S v u = (1, S) := if_neg (fun q => hu q.2)
      rw [e1]
      exact pq_is (f_cgetX hK.2.1.1.1 hu) (pq_sb (pq_oNs (pq_oNn (pq_ret (aok_no hp hK (by decide))))))
  · have e1 : swA S v u = (1, S) := if_neg (fun q => hv q.1)
    rw [e1]
    refine pq_is (f_cgetX hK.2.1.1.1 hv) (pq_sb (pq_gR hp rfl (pq_sb (pq_ck ?_))))
    refine pq_call (f_cget hK.2.1.1.1) (fun y hy => ?_)
    subst hy
    exact pq_sb (pq_oNn (pq_ret (aok_no hp hK (by decide))))
/-- a rule told: the state's cell changed, then cut anew -/
theorem f_rule {k : Nat} {x : Int32} {cf : CFG} {fr : Nat} {la : Option Nat} (h4 : S.1.length ≤ 400) (hp : f 0 = some (.inr (8, pfL hi 0 pc wn fp))) (hK : KO f n S) (hV : SV S) (hk : decide (k < 10) = true) (ha : f 3 = some (.inr (7, stV fr S.2.1.1 S.2.1.2.1 S.2.1.2.2.1 (nI S.2.1.2.2.2.1) (nI S.2.1.2.2.2.2.length) la (nI S.2.2.2.length) 6 7))) (hs : (stV fr S.2.1.1 S.2.1.2.1 S.2.1.2.2.1 (nI S.2.1.2.2.2.1) (nI S.2.1.2.2.2.2.length) la (nI S.2.2.2.length) 6 7).set k (.int x) = stV fr cf.1 cf.2.1 cf.2.2.1 (nI cf.2.2.2.1) (nI cf.2.2.2.2.length) la (nI S.2.2.2.length) 6 7) (hcf : CFok cf) (hlk : ∀ l, l < cf.2.2.2.2.length → l < S.2.1.2.2.2.2.length ∧ cf.2.2.2.2.getD l [] = S.2.1.2.2.2.2.getD l []) : PQ ((pO f 3 7 k (.int x)).bind fun f5 => rCk (isO f5 0 8) (((mX8_cutAnew 0 f5 n).bind fun r7 => some (r7.1, (r7.2.1, r7.2.2))))) (AOK f n hi pc wn fp (0, setC S cf)) := by
  obtain ⟨⟨fr', la', a1, a2, full, a3, a4⟩, ⟨g, b1, b2⟩, a6, a7, a8⟩ := id hK.1
  have e0 := Option.some.inj (ha.symm.trans a1)
  have e1 : fr = fr' ∧ la = la' := by
    injection e0 with e0
    injection e0 with _ e0
    injection e0 with e2 e0
    injection e2 with e2
    injection e0 with _ e0
    injection e0 with _ e0
    injection e0 with _ e0
    injection e0 with _ e0
    injection e0 with _ e0
    injection e0 with e3 _
    refine ⟨e2, ?_⟩
    cases la <;> cases la' <;> first | rfl | (cases e3; rfl) | cases e3
  obtain ⟨rfl, rfl⟩ := e1
  refine pq_pO ha hk (pq_ck ?_)
  rw [hs]
  have hx : ∀ j, j ≠ 3 → va_up f 3 (some (.inr (7, stV fr cf.1 cf.2.1 cf.2.2.1 (nI cf.2.2.2.1) (nI cf.2.2.2.2.length) la (nI S.2.2.2.length) 6 7))) j = f j := fun j hj => u_ne hj
  have hc : va_up f 3 (some (.inr (7, stV fr cf.1 cf.2.1 cf.2.2.1 (nI cf.2.2.2.1) (nI cf.2.2.2.2.length) la (nI S.2.2.2.length) 6 7))) 3 = some (.inr (7, stV fr cf.1 cf.2.1 cf.2.2.1 (nI cf.2.2.2.1) (nI cf.2.2.2.2.length) la (nI S.2.2.2.length) 6 7)) := u_eq
  generalize va_up f 3 (some (.inr (7, stV fr cf.1 cf.2.1 cf.2.2.1 (nI cf.2.2.2.1) (nI cf.2.2.2.2.length) la (nI S.2.2.2.length) 6 7))) = f2 at hx hc ⊢
  have im : ∀ j, IMM n j → f2 j = f j := fun j hj => hx j (IMM_ne hj sid3).1
  have hS2 : STT f2 n 3 (S.1, cf, S.2.2.1, S.2.2.2) := by
    have hS0 : TDA f2 n (3 + 4) S.2.2.1 := by
      obtain ⟨gt, c1, c2⟩ := a6
      refine ⟨gt, (hx _ (by omega)).trans c1, fun i hi => ?_⟩
      have h5 := c2 i hi
      cases e : S.2.2.1 i with
      | none => rw [e] at h5; exact h5
      | some t =>
        rw [e] at h5
        obtain ⟨j, e1, e2, e3⟩ := h5
        exact ⟨j, e1, RI1_tr e2 im (Nat.le_refl _), e3⟩
    refine ⟨⟨fr, la, hc, RI1_tr a2 im (Nat.le_refl _), full, PCH_tr im (Nat.le_refl _) full la a3, a4⟩, ⟨g, (hx _ (by omega)).trans b1, fun l hl => ?_⟩, hS0, hcf, a8⟩
    obtain ⟨hl1, hl2⟩ := hlk l hl
    obtain ⟨j, e1, e2⟩ := b2 l hl1
    exact ⟨j, e1, by show RI1 f2 n j (cf.2.2.2.2.getD l []); rw [hl2]; exact RI1_tr e2 im (Nat.le_refl _)⟩
  refine pq_call (f_cutAnew (f := f2) (n := n) (S := (S.1, cf, S.2.2.1, S.2.2.2)) ((hx 0 (by omega)).trans hp) hS2 (CSh_tr (CUT_sh hK.2.1) (fun i a b => hx i (by omega))) (BSh_tr hK.2.2.1 (fun i a b => hx i (by omega))) (show SV (setC S cf) from SV_C h4 hV)) (fun y hy => ?_)
  obtain ⟨f3, rfl, k1, k2, k3⟩ := hy
  exact pq_ret ⟨f3, n, rfl, Nat.le_refl _, k1, fra_tr (fun j a b c d e g h => hx j c) k3 (Nat.le_refl _), fun q => absurd (show (0 : Int32) = 3 from q) (by decide), fun _ => k2⟩
end CDO
end
/-! part 57g.doact -/
section
/-! each act by its number -/
def ARG (f : AH) (n : Nat) (a x : Int32) (jw : Option Nat) (w : BL) : Prop := (a = 0 → x = 0 ∨ x = 1 ∨ x = 2 ∨ x = 3) ∧ (a = 1 → x = -1 ∨ x = 0 ∨ x = 1 ∨ x = 2 ∨ x = 3) ∧ (a = 5 → 1 ≤ x.toInt ∧ x.toInt ≤ 40) ∧ (a = 6 → ∃ j, jw = some j ∧ RI1 f n j w ∧ w.length ≤ 8) ∧ ((a ≠ 0 ∧ a ≠ 1 ∧ a ≠ 2 ∧ a ≠ 3 ∧ a ≠ 4 ∧ a ≠ 5 ∧ a ≠ 6 ∧ a ≠ 7 ∧ a ≠ 8 ∧ a ≠ 9 ∧ a ≠ 10 ∧ a ≠ 11) → ∃ j, jw = some j ∧ RI1 f n j w ∧ w.length ≤ 60)
theorem AOK_tr {f f2 : AH} {n : Nat} {hi pc wn fp : Int32} {r : Int32 × SST} {y : Int32 × HpN} (h : AOK f2 n hi pc wn fp r y) (hF : FRa n f f2) : AOK f n hi pc wn fp r y := by
  obtain ⟨f', n', h1, h2, h3, h4, h5⟩ := h
  exact ⟨f', n', h1, h2, h3, fra_tr hF h4 (Nat.le_refl _), h5⟩
theorem f_doAct {f : AH} {n : Nat} {S : SST} {hi ag pc wn fp a x y : Int32} {jw : Option Nat} {w : BL} (hn : 224 ≤ n) (hp : f 0 = some (.inr (8, pfL hi ag pc wn fp))) (hK : KO f n S) (hV : SV S) (hA : ARG f n a x jw w) : PQ (mX8_doAct 0 a x y jw f n) (AOK f n hi pc wn fp (dA S a x y w)) := by
  unfold mX8_doAct
  refine pq_ck (pq_pO hp rfl ?_)
  have hp2 : va_up f 0 (some (.inr (8, (pfL hi ag pc wn fp).set 10 (.int 0)))) 0 = some (.inr (8, pfL hi 0 pc wn fp)) := u_eq
  have hx : ∀ j, j ≠ 0 → va_up f 0 (some (.inr (8, (pfL hi ag pc wn fp).set 10 (.int 0)))) j = f j := fun j hj => u_ne hj
  generalize va_up f 0 (some (.inr (8, (pfL hi ag pc wn fp).set 10 (.int 0)))) = f2 at hp2 hx ⊢
  have hFr : FRa n f f2 := fun j _ b _ _ _ _ _ => hx j b
  have hK2 : KO f2 n S := KO_tr hK (fun j hj => hx j (by rcases hj with q | q | q | q <;> first | omega | exact (IMM_1 q).1)) (Nat.le_refl _)
  have im : ∀ j, IMM n j → f2 j = f j := fun j hj => hx j (IMM_1 hj).1
  obtain ⟨A0, A1, A5, A6, A12⟩ := hA
  refine pq_tail (Q1 := AOK f2 n hi pc wn fp (dA S a x y w)) ?_ (fun y hy => AOK_tr hy hFr)
  clear hFr hK hp hx
  obtain ⟨⟨fr, la, a1, a2, full, a3, a4⟩, ⟨g, b1, b2⟩, a6, a7, a8⟩ := id hK2.1
  obtain ⟨c1, c2, c3, c4, c5, c6⟩ := a7
  have lk0 : ∀ l, l < S.2.1.2.2.2.2.length → l < S.2.1.2.2.2.2.length ∧ S.2.1.2.2.2.2.getD l [] = S.2.1.2.2.2.2.getD l [] := fun l hl => ⟨hl, rfl⟩
  unfold dA
  refine pq_eq (fun q => ?_) (fun q0 => ?_)
  · rw [if_pos q]
    exact pq_gR hp2 rfl (pq_sb (f_rule (cf := (x, S.2.1.2)) a8 hp2 hK2 hV rfl a1 rfl ⟨A0 q, c2, c3, c4, c5, c6⟩ lk0))
  rw [if_neg q0]
  refine pq_eq (fun q => ?_) (fun q1 => ?_)
  · rw [if_pos q]
    exact pq_gR hp2 rfl (pq_sb (f_rule (cf := (S.2.1.1, x, S.2.1.2.2)) a8 hp2 hK2 hV rfl a1 rfl ⟨c1, A1 q, c3, c4, c5, c6⟩ lk0))
  rw [if_neg q1]
  refine pq_eq (fun q => ?_) (fun q2 => ?_)
  · rw [if_pos q]
    exact pq_gR hp2 rfl (pq_sb (f_rule (cf := (S.2.1.1, -1, S.2.1.2.2)) a8 hp2 hK2 hV rfl a1 rfl ⟨c1, Or.inl rfl, c3, c4, c5, c6⟩ lk0))
  rw [if_neg q2]
  refine pq_eq (fun q => ?_) (fun q3 => ?_)
  · rw [if_pos q]
    exact pq_gR hp2 rfl (pq_sb (pq_ck (f_rule (cf := (S.2.1.1, S.2.1.2.1, 1, S.2.1.2.2.2)) a8 hp2 hK2 hV rfl a1 rfl ⟨c1, c2, Or.inr rfl, c4, c5, c6⟩ lk0)))
  rw [if_neg q3]
  refine pq_eq (fun q => ?_) (fun q4 => ?_)
  · rw [if_pos q]
    exact pq_gR hp2 rfl (pq_sb (pq_ck (f_rule (cf := (S.2.1.1, S.2.1.2.1, 0, S.2.1.2.2.2)) a8 hp2 hK2 hV rfl a1 rfl ⟨c1, c2, Or.inl rfl, c4, c5, c6⟩ lk0)))
  rw [if_neg q4]
  refine pq_eq (fun q => ?_) (fun q5 => ?_)
  · rw [if_pos q]
    have h5 := A5 q
    have ex : x = nI x.toInt.toNat := nI_x (by omega) (by omega)
    refine pq_gR hp2 rfl (pq_sb (f_rule (cf := (S.2.1.1, S.2.1.2.1, S.2.1.2.2.1, x.toInt.toNat, S.2.1.2.2.2.2)) a8 hp2 hK2 hV rfl a1 ?_ ⟨c1, c2, c3, ⟨by show 1 ≤ x.toInt.toNat; omega, by show x.toInt.toNat ≤ 40; omega⟩, c5, c6⟩ lk0))
    show stV fr S.2.1.1 S.2.1.2.1 S.2.1.2.2.1 x (nI S.2.1.2.2.2.2.length) la (nI S.2.2.2.length) 6 7 = stV fr S.2.1.1 S.2.1.2.1 S.2.1.2.2.1 (nI x.toInt.toNat) (nI S.2.1.2.2.2.2.length) la (nI S.2.2.2.length) 6 7
    rw [← ex]
  rw [if_neg q5]
  refine pq_eq (fun q => ?_) (fun q6 => ?_)
  · rw [if_pos q]
    obtain ⟨j, rfl, hw, h8⟩ := A6 q
    have hw2 := RI1_tr hw im (Nat.le_refl _)
    refine pq_gR hp2 rfl (pq_sb (pq_ck (pq_call (f_addLock (f := f2) (n := n) sid3 hK2.1 hw2 h8) (fun y hy => ?_))))
    rcases hy with ⟨k1, rfl⟩ | ⟨k1, f3, rfl, hS3, hF3⟩
    · have e : loA S w = (lkC S.2.1.2.2.2.2 w, S) := if_neg k1
      rw [e]
      refine pq_f k1 (pq_ret (aok_no hp2 hK2 ?_))
      unfold lkC
      repeat' split
      all_goals decide
    · have e : loA S w = (0, setC S (S.2.1.1, S.2.1.2.1, S.2.1.2.2.1, S.2.1.2.2.2.1, S.2.1.2.2.2.2 ++ [w])) := if_pos k1
      rw [e]
      refine pq_t rfl (pq_ck (pq_call (f_cutAnew (f := f3) (n := n) ((hF3 0 (by omega) (by omega)).trans hp2) hS3 (CSh_tr (CUT_sh hK2.2.1) (fun i a b => hF3 i (by omega) (by omega))) (BSh_tr hK2.2.2.1 (fun i a b => hF3 i (by omega) (by omega))) (show SV (setC S (S.2.1.1, S.2.1.2.1, S.2.1.2.2.1, S.2.1.2.2.2.1, S.2.1.2.2.2.2 ++ [w])) from SV_C a8 hV)) (fun y hy => ?_)))
      obtain ⟨f4, rfl, k2, k3, k4⟩ := hy
      exact pq_ret ⟨f4, n, rfl, Nat.le_refl _, k2, fra_tr (fun j a b c d e g h => hF3 j c d) k4 (Nat.le_refl _), fun q => absurd (show (0 : Int32) = 3 from q) (by decide), fun _ => k3⟩
  rw [if_neg q6]
  refine pq_eq (fun q => ?_) (fun q7 => ?_)
  · rw [if_pos q]
    exact pq_gR hp2 rfl (pq_sb (f_rule (cf := (S.2.1.1, S.2.1.2.1, S.2.1.2.2.1, S.2.1.2.2.2.1, [])) a8 hp2 hK2 hV rfl a1 rfl ⟨c1, c2, c3, c4, by show ([] : List BL).length ≤ 4; decide, fun w hw => absurd hw List.not_mem_nil⟩ (fun l hl => absurd hl (Nat.not_lt_zero _))))
  rw [if_neg q7]
  refine pq_eq (fun q => ?_) (fun q8 => ?_)
  · rw [if_pos q]
    exact pq_ck (pq_call (f_free (f := f2) (n := n) hp2 hK2 hV) (fun y hy => pq_ret hy))
  rw [if_neg q8]
  refine pq_eq (fun q => ?_) (fun q9 => ?_)
  · rw [if_pos q]
    exact pq_ck (pq_call (f_spread (f := f2) (n := n) hn hp2 hK2 hV) (fun y hy => pq_ret hy))
  rw [if_neg q9]
  refine pq_eq (fun q => ?_) (fun q10 => ?_)
  · rw [if_pos q]
    exact pq_ck (pq_call (f_swap (f := f2) (n := n) hn hp2 hK2 hV) (fun y hy => pq_ret hy))
  rw [if_neg q10]
  refine pq_eq (fun q => ?_) (fun q11 => ?_)
  · rw [if_pos q]
    exact pq_ck (pq_call (f_wipe (f := f2) (n := n) a8 hp2 hK2 hV) (fun y hy => pq_ret hy))
  rw [if_neg q11]
  obtain ⟨j, rfl, hw, h60⟩ := A12 ⟨q0, q1, q2, q3, q4, q5, q6, q7, q8, q9, q10, q11⟩
  exact pq_ck (pq_call (f_tell (f := f2) (n := n) hn hp2 hK2 hV (RI1_tr hw im (Nat.le_refl _)) h60) (fun y hy => pq_ret hy))
end
/-! part 58a.read -/
section
/-! a text of acts: how it is read -/
def bLow (c : Int32) : Bool := decide (97 ≤ c.toInt) && decide (c.toInt ≤ 122)
def bNl (c : Int32) : Bool := !bLow c
def bDig (c : Int32) : Bool := decide (48 ≤ c.toInt) && decide (c.toInt ≤ 57)
def bNd (c : Int32) : Bool := !bDig c
def nmL : List BL := [[107, 105, 110, 100], [105, 110, 110, 101, 114], [112, 108, 97, 105, 110], [108, 101, 116, 116, 101, 114, 115], [97, 110, 121], [108, 101, 97, 115, 116], [108, 111, 99, 107], [117, 110, 108, 111, 99, 107], [102, 114, 101, 101], [115, 112, 114, 101, 97, 100], [115, 119, 97, 112], [119, 105, 112, 101]]
def aNm (X : BL) : Nat → Nat → Int32
  | 0, _ => -1
  | d + 1, t => if X = nmL.getD t [] then nI t else aNm X d (t + 1)
def actOf (X : BL) : Int32 := aNm X 12 0
def nB (T : BL) (p : Nat) : Nat := nx (bNe 32) T p T.length
def nE (T : BL) (p : Nat) : Nat := nx bNd T (nB T p) T.length
def wE (T : BL) (p : Nat) : Nat := nx bNl T p T.length
def dv (T : BL) (i : Nat) : Int := (T.getD i 0).toInt - 48
def nmv (T : BL) (b k : Nat) : Int := if k = 0 then 0 else if k = 1 then dv T b else dv T b * 10 + dv T (b + 1)
def nVi (T : BL) (p : Nat) : Int := nmv T (nB T p) (nE T p - nB T p)
abbrev nOk (T : BL) (p : Nat) (lo hi : Int) : Prop := nB T p < nE T p ∧ nE T p ≤ nB T p + 2 ∧ lo ≤ nVi T p ∧ nVi T p ≤ hi
def nV (T : BL) (p : Nat) : Int32 := Int32.ofInt (nVi T p)
abbrev RA : Type := Nat ⊕ (Int32 × Int32 × Int32 × BL × Nat)
def rd1 (T : BL) (e : Nat) (a : Int32) (lo hi : Int) : RA := if nOk T e lo hi then .inr (a, nV T e, 0, [], nE T e) else .inl (nB T e)
def rd2 (T : BL) (e : Nat) : RA := if nOk T e 0 39 then (if nOk T (nE T e) 0 39 then .inr (10, nV T e, nV T (nE T e), [], nE T (nE T e)) else .inl (nB T (nE T e))) else .inl (nB T e)
def rdW (T : BL) (e : Nat) : RA := if nB T e + 1 ≤ wE T (nB T e) ∧ wE T (nB T e) ≤ nB T e + 8 then .inr (6, 0, 0, sl T (nB T e) (wE T (nB T e)), wE T (nB T e)) else .inl (nB T e)
def rdK (T : BL) (p e : Nat) (a : Int32) : RA := if a = -1 then .inl p else if a = 0 then rd1 T e a 0 3 else if a = 1 then rd1 T e a 0 3 else if a = 5 then rd1 T e a 1 40 else if a = 6 then rdW T e else if a = 8 then rd1 T e a 0 39 else if a = 9 then rd1 T e a 0 39 else if a = 10 then rd2 T e else .inr (a, 0, 0, [], e)
def rdA (T : BL) (p : Nat) : RA := rdK T p (wE T p) (actOf (sl T p (wE T p)))
theorem nE_b {T : BL} {p : Nat} (h : p ≤ T.length) : p ≤ nB T p ∧ nB T p ≤ nE T p ∧ nE T p ≤ T.length := by
  have h1 : p ≤ nB T p := nx_ge
  have h2 : nB T p ≤ T.length := nx_le h
  have h3 : nB T p ≤ nE T p := nx_ge
  have h4 : nE T p ≤ T.length := nx_le h2
  omega
theorem wE_b {T : BL} {p : Nat} (h : p ≤ T.length) : p ≤ wE T p ∧ wE T p ≤ T.length := ⟨nx_ge, nx_le h⟩
theorem dig_of {c : Int32} (h : bNd c = false) : 48 ≤ c.toInt ∧ c.toInt ≤ 57 := by
  unfold bNd bDig at h
  simp only [Bool.not_eq_false', Bool.and_eq_true, decide_eq_true_eq] at h
  exact h
theorem dig_t {c : Int32} (h1 : 48 ≤ c.toInt) (h2 : c.toInt ≤ 57) : bNd c = false := by
  unfold bNd bDig
  simp only [Bool.not_eq_false', Bool.and_eq_true, decide_eq_true_eq]
  exact ⟨h1, h2⟩
theorem dig_n {c : Int32} (h : c.toInt < 48 ∨ 57 < c.toInt) : bNd c = true := by
  cases hx : bNd c with
  | true => rfl
  | false => have := dig_of hx; omega
theorem low_of {c : Int32} (h : bNl c = false) : 97 ≤ c.toInt ∧ c.toInt ≤ 122 := by
  unfold bNl bLow at h
  simp only [Bool.not_eq_false', Bool.and_eq_true, decide_eq_true_eq] at h
  exact h
theorem low_t {c : Int32} (h1 : 97 ≤ c.toInt) (h2 : c.toInt ≤ 122) : bNl c = false := by
  unfold bNl bLow
  simp only [Bool.not_eq_false', Bool.and_eq_true, decide_eq_true_eq]
  exact ⟨h1, h2⟩
theorem low_n {c : Int32} (h : c.toInt < 97 ∨ 122 < c.toInt) : bNl c = true := by
  cases hx : bNl c with
  | true => rfl
  | false => have := low_of hx; omega
theorem nmv_b {T : BL} {b k : Nat} (h : ∀ i, b ≤ i → i < b + k → bNd (T.getD i 0) = false) : 0 ≤ nmv T b k ∧ nmv T b k ≤ 99 := by
  unfold nmv
  split
  · omega
  · have h1 := dig_of (h b (by omega) (by omega))
    split
    · unfold dv; omega
    · have h2 := dig_of (h (b + 1) (by omega) (by omega))
      unfold dv; omega
theorem nVi_b {T : BL} {p : Nat} : 0 ≤ nVi T p ∧ nVi T p ≤ 99 := by
  unfold nVi
  refine nmv_b (fun i h1 h2 => ?_)
  have h3 : nB T p ≤ nE T p := nx_ge
  exact nx_no (b := T.length) h1 (by show i < nE T p; omega)
theorem nV_t {T : BL} {p : Nat} : (nV T p).toInt = nVi T p := by
  have := nVi_b (T := T) (p := p)
  unfold nV
  rw [Int32.toInt_ofInt, show Int32.size = 4294967296 from rfl]
  exact Int.bmod_eq_of_le (by omega) (by omega)
/-! acts one behind another -/
abbrev AR : Type := Option Nat × Int32 × Nat × SST
def aSt (T : BL) (p : Nat) (S : SST) (k : Nat → SST → AR) (r : RA) : AR := match r with
  | .inl w => (some w, 0, 0, S)
  | .inr z => if (dA S z.1 z.2.1 z.2.2.1 z.2.2.2.1).1 = 0 then (if nB T z.2.2.2.2 < T.length then (if T.getD (nB T z.2.2.2.2) 0 = 59 then (fun q : AR => (q.1, q.2.1, q.2.2.1 + 1, q.2.2.2)) (k (nB T (nB T z.2.2.2.2 + 1)) (dA S z.1 z.2.1 z.2.2.1 z.2.2.2.1).2) else (some (nB T z.2.2.2.2), 0, 0, S)) else (none, 0, 1, (dA S z.1 z.2.1 z.2.2.1 z.2.2.2.1).2)) else (some p, (dA S z.1 z.2.1 z.2.2.1 z.2.2.2.1).1, 0, S)
def aL (T : BL) : Nat → Nat → SST → AR
  | 0, p, S => (some p, 0, 0, S)
  | d + 1, p, S => aSt T p S (aL T d) (rdA T p)
def aTop (T : BL) (S : SST) : AR := if nB T 0 < T.length then aL T 14 (nB T 0) S else (none, 0, 0, S)
end
/-! part 58b.read -/
section
/-! the class reads a text of acts -/
abbrev rdV (du p a x y : Int32) (wd : Option Nat) (nm : Int32) : List Value := [.int du, .int p, .int a, .int x, .int y, va_rf wd, .int nm, .ref 1]
theorem nm4_ok : ∀ t : Fin 12, sL4.getD (t : Nat) 0 = (nmL.getD (t : Nat) []).length ∧ ∀ k : Fin 8, (k : Nat) < sL4.getD (t : Nat) 0 → (sB4.getD (t : Nat) []).getD (k : Nat) 0 &&& 255 = (nmL.getD (t : Nat) []).getD (k : Nat) 0 := by decide +kernel
theorem nm4_8 : ∀ t : Fin 12, sL4.getD (t : Nat) 0 ≤ 8 := by decide +kernel
theorem nm4_l {t : Nat} (h : t < 12) : sL4.getD t 0 = (nmL.getD t []).length := (nm4_ok ⟨t, h⟩).1
theorem nm4_c {t k : Nat} (h : t < 12) (hk : k < (nmL.getD t []).length) : st4C t (nI k) = (nmL.getD t []).getD k 0 := by
  have h8 := nm4_8 ⟨t, h⟩
  have hl := nm4_l h
  have h8' : sL4.getD t 0 ≤ 8 := h8
  have := (nm4_ok ⟨t, h⟩).2 ⟨k, by omega⟩ (by show k < sL4.getD t 0; omega)
  unfold st4C
  rw [nI_clamp (by omega)]
  exact this
section RDR
variable {f : AH} {n : Nat} {T : BL} {j b c : Nat}
theorem f_isText {a m t : Nat} (hr : isRw f j b c T) (ha : a + m ≤ T.length) (ht : t < 12) : PQ (mX5_isText j (nI a) (nI m) t f n) (fun y => y = (bI (decide (sl T a (a + m) = nmL.getD t [])), f, n)) := by
  have h6 := rw_6 hr
  have hl := nm4_l ht
  have h8 : sL4.getD t 0 ≤ 8 := nm4_8 ⟨t, ht⟩
  have hsl := sl_len (L := T) (a := a) (b := a + m) ha
  unfold mX5_isText
  refine pq_eqi (nI_toInt (show m < 2 ^ 31 by omega)) (show (st4L t).toInt = _ from st4_n ht) (fun q => ?_) (fun q => ?_)
  · have hm : m = (nmL.getD t []).length := by omega
    have key : ∀ (d i : Nat), i ≤ m → (∀ k, k < i → T.getD (a + k) 0 = (nmL.getD t []).getD k 0) → PQ (mX5_isText_l13 d j (nI a) (nI m) t (nI i) f n) (fun y => y = (bI (decide (sl T a (a + m) = nmL.getD t [])), f, n)) := by
      intro d
      induction d with
      | zero => intro i _ _; exact pq_none
      | succ d ih =>
        intro i hi hk
        have fin : i = m → PQ (mX5_isText_b53 f n) (fun y => y = (bI (decide (sl T a (a + m) = nmL.getD t [])), f, n)) := fun e => by
          have e2 : sl T a (a + m) = nmL.getD t [] := bl_ext (by omega) (fun k hk2 => by
            rw [sl_gd (by omega)]
            exact hk k (by omega))
          rw [decide_eq_true e2]
          exact pq_ck (pq_ret rfl)
        unfold mX5_isText_l13
        refine pq_le (nI_toInt (by omega)) (nI_toInt (by omega)) (fun q1 => fin (by omega)) (fun q1 => ?_)
        refine pq_le (show (st4L t).toInt = _ from st4_n ht) (nI_toInt (by omega)) (fun q2 => fin (by omega)) (fun q2 => ?_)
        rw [nI_add]
        refine pq_ck (pq_is (f_getN hr (show a + i < T.length by omega)) (pq_ck ?_))
        rw [nm4_c ht (by omega), nI_1]
        refine pq_eq (fun q3 => ?_) (fun q3 => ?_)
        · refine ih (i + 1) (by omega) (fun k hk2 => ?_)
          by_cases e : k = i
          · rw [e]; exact q3
          · exact hk k (by omega)
        · have e2 : sl T a (a + m) ≠ nmL.getD t [] := fun h => q3 (by
            show T.getD (a + i) 0 = _
            rw [← h, sl_gd (by omega)])
          rw [decide_eq_false e2]
          exact pq_ck (pq_ret rfl)
    exact key rFU 0 (Nat.zero_le _) (fun k hk => absurd hk (Nat.not_lt_zero _))
  · have e2 : sl T a (a + m) ≠ nmL.getD t [] := fun h => by
      have := congrArg List.length h
      omega
    rw [decide_eq_false e2]
    exact pq_ck (pq_ret rfl)
variable {du p0 a0 x0 y0 nm : Int32} {wd : Option Nat}
theorem f_lettersEnd {p : Nat} (hr : isRw f 1 2 400 T) (hd : f 178 = some (.inr (4, rdV du (nI p) a0 x0 y0 wd nm))) (hp : p ≤ T.length) : PQ (mX4_lettersEnd 178 f n) (fun y => y = (nI (wE T p), f, n)) := by
  have h6 := rw_6 hr
  have key : ∀ (d i : Nat), p ≤ i → i ≤ T.length → (∀ k, p ≤ k → k < i → bNl (T.getD k 0) = false) → PQ (mX4_lettersEnd_l5 d 178 (nI i) f n) (fun y => y = (nI (wE T p), f, n)) := by
    intro d
    induction d with
    | zero => intro i _ _ _; exact pq_none
    | succ d ih =>
      intro i hpi hi hk
      have fin : bNl (T.getD i 0) = true → PQ (mX4_lettersEnd_b42 (nI i) f n) (fun y => y = (nI (wE T p), f, n)) := fun e => pq_ret (by rw [show wE T p = i from nx_is hpi hi hk (fun _ => e)])
      unfold mX4_lettersEnd_l5
      refine pq_gR hd rfl (pq_sb (pq_ck (pq_is (f_size hr) ?_)))
      refine pq_le (nI_toInt (by omega)) (nI_toInt (by omega)) (fun q => ?_) (fun q => ?_)
      · refine pq_gR hd rfl (pq_sb (pq_ck (pq_is (f_size hr) (pq_ret ?_))))
        have e : i = T.length := by omega
        rw [show wE T p = i from nx_is hpi hi hk (fun h => by omega), e]
      · have hi' : i < T.length := by omega
        refine pq_gR hd rfl (pq_sb (pq_ck (pq_is (f_getN hr hi') ?_)))
        refine pq_lt rfl kt_97 (fun q1 => fin (low_n (Or.inl q1))) (fun q1 => ?_)
        refine pq_gR hd rfl (pq_sb (pq_ck (pq_is (f_getN hr hi') ?_)))
        refine pq_le rfl kt_122 (fun q2 => ?_) (fun q2 => fin (low_n (Or.inr q2)))
        rw [nI_1]
        refine ih (i + 1) (by omega) (by omega) (fun k h1 h2 => ?_)
        by_cases e : k = i
        · rw [e]; exact low_t q1 q2
        · exact hk k h1 (by omega)
  unfold mX4_lettersEnd
  exact pq_gI hd rfl (key rFU p (Nat.le_refl _) hp (fun k h1 h2 => by omega))
theorem f_nameOf {t : Nat} (ht : t < 12) : PQ (mX4_nameOf (nI t) f n) (fun y => y = (t, f, n)) := by
  have h : t = 0 ∨ t = 1 ∨ t = 2 ∨ t = 3 ∨ t = 4 ∨ t = 5 ∨ t = 6 ∨ t = 7 ∨ t = 8 ∨ t = 9 ∨ t = 10 ∨ t = 11 := by omega
  rcases h with rfl | rfl | rfl | rfl | rfl | rfl | rfl | rfl | rfl | rfl | rfl | rfl <;> exact pq_ret rfl
theorem f_actNamed {p e : Nat} (hr : isRw f 1 2 400 T) (hd : f 178 = some (.inr (4, rdV du p0 a0 x0 y0 wd nm))) (hpe : p ≤ e) (he : e ≤ T.length) : PQ (mX4_actNamed 178 (nI p) (nI (e - p)) f n) (fun y => y = (actOf (sl T p e), f, n)) := by
  have key : ∀ (d t k : Nat), t + k = 12 → PQ (mX4_actNamed_l2 d 178 (nI p) (nI (e - p)) (nI t) f n) (fun y => y = (aNm (sl T p e) k t, f, n)) := by
    intro d
    induction d with
    | zero => intro t k _; exact pq_none
    | succ d ih =>
      intro t k hk
      unfold mX4_actNamed_l2
      refine pq_lt kt_11 (nI_toInt (by omega)) (fun q => ?_) (fun q => ?_)
      · have : k = 0 := by omega
        subst this
        exact pq_ret rfl
      · obtain ⟨k', rfl⟩ : ∃ k', k = k' + 1 := ⟨k - 1, by omega⟩
        refine pq_gR hd rfl (pq_is (f_nameOf (show t < 12 by omega)) (pq_sb (pq_ck (pq_ck (pq_is (f_isText hr (show p + (e - p) ≤ T.length by omega) (show t < 12 by omega)) ?_)))))
        rw [show p + (e - p) = e by omega]
        show PQ _ (fun y => y = (if sl T p e = nmL.getD t [] then nI t else aNm (sl T p e) k' (t + 1), f, n))
        by_cases h : sl T p e = nmL.getD t []
        · rw [if_pos h, decide_eq_true h]
          exact pq_f (show ¬ (1 : Int32) = 0 by decide) (pq_ret rfl)
        · rw [if_neg h, decide_eq_false h]
          refine pq_t rfl ?_
          rw [nI_1]
          exact ih (t + 1) k' (by omega)
  unfold mX4_actNamed
  exact key rFU 0 12 rfl
theorem f_readNumber {p : Nat} {lo hi : Int32} (hr : isRw f 1 2 400 T) (hd : f 178 = some (.inr (4, rdV du (nI p) a0 x0 y0 wd nm))) (hp : p ≤ T.length) : PQ (mX4_readNumber 178 lo hi f n) (fun y => ∃ f' nm', y = (if nOk T p lo.toInt hi.toInt then -1 else nI (nB T p), f', n) ∧ f' 178 = some (.inr (4, rdV du (nI (nE T p)) a0 x0 y0 wd nm')) ∧ (nE T p ≤ nB T p + 2 → nm'.toInt = nVi T p) ∧ ∀ j, j ≠ 178 → f' j = f j) := by
  have h6 := rw_6 hr
  have hb := nE_b hp
  have b116 : ∀ (k : Nat) (g : AH) (nm' : Int32), nB T p + k = nE T p → g 178 = some (.inr (4, rdV du (nI p) a0 x0 y0 wd nm')) → nm'.toInt = nmv T (nB T p) k → (∀ j, j ≠ 178 → g j = f j) → PQ (mX4_readNumber_b116 178 lo hi (nI (nB T p)) (nI k) g n) (fun y => ∃ f' nm', y = (if nOk T p lo.toInt hi.toInt then -1 else nI (nB T p), f', n) ∧ f' 178 = some (.inr (4, rdV du (nI (nE T p)) a0 x0 y0 wd nm')) ∧ (nE T p ≤ nB T p + 2 → nm'.toInt = nVi T p) ∧ ∀ j, j ≠ 178 → f' j = f j) := by
    intro k g nm' hk hg hnm hF
    have ev : nVi T p = nmv T (nB T p) k := by
      unfold nVi
      rw [show nE T p - nB T p = k by omega]
    unfold mX4_readNumber_b116
    rw [nI_add, hk]
    refine pq_pO hg rfl ?_
    have hg2 : va_up g 178 (some (.inr (4, (rdV du (nI p) a0 x0 y0 wd nm').set 1 (.int (nI (nE T p)))))) 178 = some (.inr (4, rdV du (nI (nE T p)) a0 x0 y0 wd nm')) := u_eq
    have hF2 : ∀ j, j ≠ 178 → va_up g 178 (some (.inr (4, (rdV du (nI p) a0 x0 y0 wd nm').set 1 (.int (nI (nE T p)))))) j = f j := fun j hj => (u_ne hj).trans (hF j hj)
    generalize va_up g 178 (some (.inr (4, (rdV du (nI p) a0 x0 y0 wd nm').set 1 (.int (nI (nE T p)))))) = g2 at hg2 hF2 ⊢
    have no : ¬ nOk T p lo.toInt hi.toInt → PQ (mX4_readNumber_b156 (nI (nB T p)) g2 n) (fun y => ∃ f' nm', y = (if nOk T p lo.toInt hi.toInt then -1 else nI (nB T p), f', n) ∧ f' 178 = some (.inr (4, rdV du (nI (nE T p)) a0 x0 y0 wd nm')) ∧ (nE T p ≤ nB T p + 2 → nm'.toInt = nVi T p) ∧ ∀ j, j ≠ 178 → f' j = f j) := fun h => pq_ret ⟨g2, nm', by rw [if_neg h], hg2, fun _ => by rw [ev]; exact hnm, hF2⟩
    refine pq_lt (nI_toInt (by omega)) kt_1 (fun q => no (fun h => by have := h.1; omega)) (fun q => ?_)
    refine pq_lt kt_2 (nI_toInt (by omega)) (fun q2 => no (fun h => by have := h.2.1; omega)) (fun q2 => ?_)
    refine pq_gI hg2 rfl (pq_lt hnm rfl (fun q3 => no (fun h => by have := h.2.2.1; omega)) (fun q3 => ?_))
    refine pq_gI hg2 rfl (pq_lt rfl hnm (fun q4 => no (fun h => by have := h.2.2.2; omega)) (fun q4 => ?_))
    exact pq_ret ⟨g2, nm', by rw [if_pos ⟨by omega, by omega, by omega, by omega⟩], hg2, fun _ => by rw [ev]; exact hnm, hF2⟩
  have key : ∀ (d k : Nat) (g : AH) (nm' : Int32), nB T p + k ≤ T.length → (∀ i, nB T p ≤ i → i < nB T p + k → bNd (T.getD i 0) = false) → g 178 = some (.inr (4, rdV du (nI p) a0 x0 y0 wd nm')) → nm'.toInt = nmv T (nB T p) k → (∀ j, j ≠ 178 → g j = f j) → PQ (mX4_readNumber_l30 d 178 lo hi (nI (nB T p)) (nI k) (nI (nB T p + k)) g n) (fun y => ∃ f' nm', y = (if nOk T p lo.toInt hi.toInt then -1 else nI (nB T p), f', n) ∧ f' 178 = some (.inr (4, rdV du (nI (nE T p)) a0 x0 y0 wd nm')) ∧ (nE T p ≤ nB T p + 2 → nm'.toInt = nVi T p) ∧ ∀ j, j ≠ 178 → f' j = f j) := by
    intro d
    induction d with
    | zero => intro k g nm' _ _ _ _ _; exact pq_none
    | succ d ih =>
      intro k g nm' hk hdg hg hnm hF
      have hrg : isRw g 1 2 400 T := rw_tr hr (hF _ (by omega)) (hF _ (by omega))
      have fin : (nB T p + k < T.length → bNd (T.getD (nB T p + k) 0) = true) → PQ (mX4_readNumber_b116 178 lo hi (nI (nB T p)) (nI k) g n) _ := fun h => b116 k g nm' (nx_is (by omega) hk hdg h).symm hg hnm hF
      unfold mX4_readNumber_l30
      refine pq_gR hg rfl (pq_sb (pq_ck (pq_is (f_size hrg) ?_)))
      refine pq_le (nI_toInt (by omega)) (nI_toInt (by omega)) (fun q => fin (fun h => by omega)) (fun q => ?_)
      have hi' : nB T p + k < T.length := by omega
      refine pq_gR hg rfl (pq_sb (pq_ck (pq_is (f_getN hrg hi') ?_)))
      refine pq_lt rfl kt_48 (fun q1 => fin (fun _ => dig_n (Or.inl q1))) (fun q1 => ?_)
      refine pq_gR hg rfl (pq_sb (pq_ck (pq_is (f_getN hrg hi') ?_)))
      refine pq_lt kt_57 rfl (fun q2 => fin (fun _ => dig_n (Or.inr q2))) (fun q2 => ?_)
      have hdg2 : ∀ i, nB T p ≤ i → i < nB T p + (k + 1) → bNd (T.getD i 0) = false := fun i h1 h2 => by
        by_cases e : i = nB T p + k
        · rw [e]; exact dig_t q1 q2
        · exact hdg i h1 (by omega)
      have go : ∀ nm2 : Int32, nm2.toInt = nmv T (nB T p) (k + 1) → PQ (mX4_readNumber_b107 (fun v0 v1 v2 v3 v4 v5 f n => mX4_readNumber_l30 d v0 v1 v2 v3 v4 v5 f n) 178 lo hi (nI (nB T p)) (nI (k + 1)) (nI (nB T p + k)) 178 nm2 g n) (fun y => ∃ f' nm', y = (if nOk T p lo.toInt hi.toInt then -1 else nI (nB T p), f', n) ∧ f' 178 = some (.inr (4, rdV du (nI (nE T p)) a0 x0 y0 wd nm')) ∧ (nE T p ≤ nB T p + 2 → nm'.toInt = nVi T p) ∧ ∀ j, j ≠ 178 → f' j = f j) := fun nm2 h2 => by
        unfold mX4_readNumber_b107
        refine pq_pO hg rfl ?_
        rw [nI_1]
        exact ih (k + 1) _ nm2 (by omega) hdg2 u_eq h2 (fun j hj => (u_ne hj).trans (hF j hj))
      rw [nI_1]
      refine pq_le (nI_toInt (by omega)) kt_2 (fun q3 => ?_) (fun q3 => ?_)
      · refine pq_gI hg rfl (pq_gR hg rfl (pq_sb (pq_ck (pq_is (f_getN hrg hi') (go _ ?_)))))
        have hd2 := dig_of (hdg2 (nB T p + k) (by omega) (by omega))
        have hnb := nmv_b hdg
        have hk2 : k = 0 ∨ k = 1 := by omega
        have em : (nm' * 10).toInt = nm'.toInt * 10 := by
          rw [Int32.toInt_mul, show (10 : Int32).toInt = 10 by decide]
          exact Int.bmod_eq_of_le (by omega) (by omega)
        have ea : (nm' * 10 + T.getD (nB T p + k) 0).toInt = nm'.toInt * 10 + (T.getD (nB T p + k) 0).toInt := i_add em rfl (by omega)
        have es : ((nm' * 10 + T.getD (nB T p + k) 0) - 48).toInt = nm'.toInt * 10 + (T.getD (nB T p + k) 0).toInt - 48 := i_sub ea kt_48 (by omega)
        rw [es, hnm]
        rcases hk2 with rfl | rfl
        · show (0 : Int) * 10 + (T.getD (nB T p + 0) 0).toInt - 48 = (T.getD (nB T p) 0).toInt - 48
          rw [Nat.add_zero]; omega
        · show dv T (nB T p) * 10 + (T.getD (nB T p + 1) 0).toInt - 48 = dv T (nB T p) * 10 + dv T (nB T p + 1)
          unfold dv; omega
      · refine pq_gI hg rfl (go nm' ?_)
        rw [hnm]
        obtain ⟨k2, rfl⟩ : ∃ k2, k = k2 + 2 := ⟨k - 2, by omega⟩
        unfold nmv
        rw [if_neg (by omega), if_neg (by omega), if_neg (by omega), if_neg (by omega)]
  unfold mX4_readNumber
  refine pq_gR hd rfl (pq_gI hd rfl (pq_gR hd rfl (pq_sb (pq_ck (pq_is (f_size hr) (pq_sb (pq_ck (pq_is (f_blanks hr hp (Nat.le_refl _)) (pq_pO hd rfl ?_)))))))))
  exact key rFU 0 _ 0 (by have := hb.2.1; omega) (fun i h1 h2 => by omega) u_eq rfl (fun j hj => u_ne hj)
end RDR
end
/-! part 58c.read -/
section
/-! the class reads an act -/
theorem nI_sb {a b : Nat} (h : b ≤ a) (ha : a ≤ 5000) : nI a - nI b = nI (a - b) := Int32.toInt_inj.mp (by rw [i_sub (nI_toInt (by omega)) (nI_toInt (by omega)) (by omega), nI_toInt (by omega)]; omega)
def rdAny (v : Option AE) : Prop := ∃ du p a x y wd nm, v = some (.inr (4, rdV du p a x y wd nm))
def xUsed (a : Int32) : Prop := a = 0 ∨ a = 1 ∨ a = 5 ∨ a = 8 ∨ a = 9 ∨ a = 10
def RAR (f : AH) (n : Nat) (du : Int32) (r : RA) (y : Int32 × HpN) : Prop := ∃ f' n', n ≤ n' ∧ (∀ j, j < n → j ≠ 178 → f' j = f j) ∧ (match r with
  | .inl w => y = (nI w, f', n') ∧ rdAny (f' 178)
  | .inr z => y = (-1, f', n') ∧ ∃ x1 y1 wd1 nm1, f' 178 = some (.inr (4, rdV du (nI z.2.2.2.2) z.1 x1 y1 wd1 nm1)) ∧ (xUsed z.1 → x1 = z.2.1) ∧ (z.1 = 10 → y1 = z.2.2.1) ∧ (z.1 = 6 → ∃ j, wd1 = some j ∧ RI1 f' n' j z.2.2.2.1 ∧ z.2.2.2.1.length ≤ 8))
section RDS
variable {f : AH} {n : Nat} {T : BL} {du p0 a0 x0 y0 nm : Int32} {wd : Option Nat}
theorem RAR_tr {f2 : AH} {r : RA} {y : Int32 × HpN} (h : RAR f2 n du r y) (hF : ∀ j, j ≠ 178 → f2 j = f j) : RAR f n du r y := by
  obtain ⟨f', n', h1, h2, h3⟩ := h
  exact ⟨f', n', h1, fun j a b => (h2 j a b).trans (hF j b), h3⟩
theorem f_readFirst {p : Nat} {lo hi : Int32} (hr : isRw f 1 2 400 T) (hd : f 178 = some (.inr (4, rdV du (nI p) a0 x0 y0 wd nm))) (hp : p ≤ T.length) : PQ (mX4_readFirst 178 lo hi f n) (fun y => ∃ f' nm', y = (if nOk T p lo.toInt hi.toInt then -1 else nI (nB T p), f', n) ∧ f' 178 = some (.inr (4, rdV du (nI (nE T p)) a0 nm' y0 wd nm')) ∧ (nE T p ≤ nB T p + 2 → nm'.toInt = nVi T p) ∧ ∀ j, j ≠ 178 → f' j = f j) := by
  unfold mX4_readFirst
  refine pq_ck (pq_call (f_readNumber hr hd hp) (fun y hy => ?_))
  obtain ⟨f1, nm1, rfl, h1, h2, h3⟩ := hy
  exact pq_gI h1 rfl (pq_pO h1 rfl (pq_ret ⟨_, nm1, rfl, u_eq, h2, fun j hj => (u_ne hj).trans (h3 j hj)⟩))
theorem f_readSecond {p : Nat} (hr : isRw f 1 2 400 T) (hd : f 178 = some (.inr (4, rdV du (nI p) a0 x0 y0 wd nm))) (hp : p ≤ T.length) : PQ (mX4_readSecond 178 f n) (fun y => ∃ f' nm', y = (if nOk T p 0 39 then -1 else nI (nB T p), f', n) ∧ f' 178 = some (.inr (4, rdV du (nI (nE T p)) a0 x0 nm' wd nm')) ∧ (nE T p ≤ nB T p + 2 → nm'.toInt = nVi T p) ∧ ∀ j, j ≠ 178 → f' j = f j) := by
  unfold mX4_readSecond
  refine pq_ck (pq_call (f_readNumber hr hd hp) (fun y hy => ?_))
  obtain ⟨f1, nm1, rfl, h1, h2, h3⟩ := hy
  exact pq_gI h1 rfl (pq_pO h1 rfl (pq_ret ⟨_, nm1, rfl, u_eq, h2, fun j hj => (u_ne hj).trans (h3 j hj)⟩))
theorem nm_V {p : Nat} {x : Int32} (h : x.toInt = nVi T p) : x = nV T p := Int32.toInt_inj.mp (by rw [h, nV_t])
theorem f_rd1 {e : Nat} {lo hi : Int32} {l h : Int} (hl : lo.toInt = l) (hh : hi.toInt = h) (hr : isRw f 1 2 400 T) (hd : f 178 = some (.inr (4, rdV du (nI e) a0 x0 y0 wd nm))) (he : e ≤ T.length) (h6 : a0 ≠ 6) (h10 : a0 ≠ 10) : PQ (mX4_readFirst 178 lo hi f n) (RAR f n du (rd1 T e a0 l h)) := by
  refine pq_tail (f_readFirst hr hd he) (fun y hy => ?_)
  subst hl hh
  obtain ⟨f1, nm1, rfl, k1, k2, k3⟩ := hy
  refine ⟨f1, n, Nat.le_refl _, fun j _ b => k3 j b, ?_⟩
  unfold rd1
  by_cases ok : nOk T e lo.toInt hi.toInt
  · rw [if_pos ok, if_pos ok]
    exact ⟨rfl, nm1, y0, wd, nm1, k1, fun _ => nm_V (k2 ok.2.1), fun q => absurd q h10, fun q => absurd q h6⟩
  · rw [if_neg ok, if_neg ok]
    exact ⟨rfl, _, _, _, _, _, _, _, k1⟩
theorem f_readWord {e : Nat} (hn : 224 ≤ n) (hr : isRw f 1 2 400 T) (hd : f 178 = some (.inr (4, rdV du (nI e) 6 x0 y0 wd nm))) (he : e ≤ T.length) : PQ (mX4_readWord 178 f n) (RAR f n du (rdW T e)) := by
  have h6 := rw_6 hr
  have hb := nE_b he
  have hb2 : nB T e ≤ T.length := by omega
  have hw := wE_b hb2
  unfold mX4_readWord
  refine pq_gR hd rfl (pq_gI hd rfl (pq_gR hd rfl (pq_sb (pq_ck (pq_is (f_size hr) (pq_sb (pq_ck (pq_is (f_blanks hr he (Nat.le_refl _)) (pq_pO hd rfl (pq_ck ?_))))))))))
  have hd2 : va_up f 178 (some (.inr (4, (rdV du (nI e) 6 x0 y0 wd nm).set 1 (.int (nI (nx (bNe 32) T e T.length)))))) 178 = some (.inr (4, rdV du (nI (nB T e)) 6 x0 y0 wd nm)) := u_eq
  have hF2 : ∀ j, j ≠ 178 → va_up f 178 (some (.inr (4, (rdV du (nI e) 6 x0 y0 wd nm).set 1 (.int (nI (nx (bNe 32) T e T.length)))))) j = f j := fun j hj => u_ne hj
  generalize va_up f 178 (some (.inr (4, (rdV du (nI e) 6 x0 y0 wd nm).set 1 (.int (nI (nx (bNe 32) T e T.length)))))) = f2 at hd2 hF2 ⊢
  have hr2 : isRw f2 1 2 400 T := rw_tr hr (hF2 _ (by omega)) (hF2 _ (by omega))
  refine pq_is (f_lettersEnd (f := f2) (n := n) hr2 hd2 hb2) (pq_pO hd2 rfl ?_)
  have hd3 : va_up f2 178 (some (.inr (4, (rdV du (nI (nB T e)) 6 x0 y0 wd nm).set 1 (.int (nI (wE T (nB T e))))))) 178 = some (.inr (4, rdV du (nI (wE T (nB T e))) 6 x0 y0 wd nm)) := u_eq
  have hF3 : ∀ j, j ≠ 178 → va_up f2 178 (some (.inr (4, (rdV du (nI (nB T e)) 6 x0 y0 wd nm).set 1 (.int (nI (wE T (nB T e))))))) j = f j := fun j hj => (u_ne hj).trans (hF2 j hj)
  generalize va_up f2 178 (some (.inr (4, (rdV du (nI (nB T e)) 6 x0 y0 wd nm).set 1 (.int (nI (wE T (nB T e))))))) = f3 at hd3 hF3 ⊢
  have hr3 : isRw f3 1 2 400 T := rw_tr hr (hF3 _ (by omega)) (hF3 _ (by omega))
  refine pq_gI hd3 rfl ?_
  have es : nI (wE T (nB T e)) - nI (nx (bNe 32) T e T.length) = nI (wE T (nB T e) - nB T e) := nI_sb hw.1 (by omega)
  rw [es]
  have no : ¬ (nB T e + 1 ≤ wE T (nB T e) ∧ wE T (nB T e) ≤ nB T e + 8) → PQ (mX4_readWord_b50 (nI (nB T e)) f3 n) (RAR f n du (rdW T e)) := fun h => by
    have e1 : rdW T e = .inl (nB T e) := if_neg h
    rw [e1]
    exact pq_ret ⟨f3, n, Nat.le_refl _, fun j _ b => hF3 j b, rfl, _, _, _, _, _, _, _, hd3⟩
  refine pq_lt (nI_toInt (by omega)) kt_1 (fun q => no (by omega)) (fun q => ?_)
  refine pq_le (nI_toInt (by omega)) kt_8 (fun q2 => ?_) (fun q2 => no (by omega))
  have e1 : rdW T e = .inr (6, 0, 0, sl T (nB T e) (wE T (nB T e)), wE T (nB T e)) := if_pos (by omega)
  rw [e1]
  refine pq_gR hd3 rfl (pq_sb (pq_ck (pq_call (f_part (f := f3) (n := n) (B := 8) (i := nB T e) (k := wE T (nB T e) - nB T e) hr3 (by omega) (by omega) (by omega)) (fun y hy => ?_))))
  obtain ⟨f4, rfl, r4, hF4⟩ := hy
  rw [show nB T e + (wE T (nB T e) - nB T e) = wE T (nB T e) by omega] at r4
  have hd4 : f4 178 = some (.inr (4, rdV du (nI (wE T (nB T e))) 6 x0 y0 wd nm)) := (hF4 178 (by omega)).trans hd3
  refine pq_sb (pq_pO hd4 rfl (pq_ret ⟨_, n + 2, by omega, fun j a b => (u_ne b).trans ((hF4 j a).trans (hF3 j b)), rfl, x0, y0, some n, nm, u_eq, fun q => ?_, fun q => absurd (show (6 : Int32) = 10 from q) (by decide), fun _ => ⟨n, rfl, ⟨n + 1, _, rw_tr r4 (u_ne (by omega)) (u_ne (by omega)), by unfold IMM; omega, by unfold IMM; omega⟩, ?_⟩⟩))
  · have q : xUsed 6 := q
    unfold xUsed at q
    exact absurd q (by decide)
  · show (sl T (nB T e) (wE T (nB T e))).length ≤ 8
    rw [sl_len (by omega)]; omega
theorem f_readAct {p : Nat} (hn : 224 ≤ n) (hr : isRw f 1 2 400 T) (hd : f 178 = some (.inr (4, rdV du (nI p) a0 x0 y0 wd nm))) (hp : p ≤ T.length) : PQ (mX4_readAct 178 f n) (RAR f n du (rdA T p)) := by
  have h6 := rw_6 hr
  have hw := wE_b hp
  unfold mX4_readAct
  refine pq_gI hd rfl (pq_ck (pq_is (f_lettersEnd (f := f) (n := n) hr hd hp) (pq_pO hd rfl ?_)))
  have hd2 : va_up f 178 (some (.inr (4, (rdV du (nI p) a0 x0 y0 wd nm).set 1 (.int (nI (wE T p)))))) 178 = some (.inr (4, rdV du (nI (wE T p)) a0 x0 y0 wd nm)) := u_eq
  have hF2 : ∀ j, j ≠ 178 → va_up f 178 (some (.inr (4, (rdV du (nI p) a0 x0 y0 wd nm).set 1 (.int (nI (wE T p)))))) j = f j := fun j hj => u_ne hj
  generalize va_up f 178 (some (.inr (4, (rdV du (nI p) a0 x0 y0 wd nm).set 1 (.int (nI (wE T p)))))) = f2 at hd2 hF2 ⊢
  have hr2 : isRw f2 1 2 400 T := rw_tr hr (hF2 _ (by omega)) (hF2 _ (by omega))
  refine pq_gI hd2 rfl (pq_ck ?_)
  rw [nI_sb hw.1 (by omega)]
  refine pq_is (f_actNamed (f := f2) (n := n) hr2 hd2 hw.1 hw.2) (pq_pO hd2 rfl ?_)
  have hd3 : va_up f2 178 (some (.inr (4, (rdV du (nI (wE T p)) a0 x0 y0 wd nm).set 2 (.int (actOf (sl T p (wE T p))))))) 178 = some (.inr (4, rdV du (nI (wE T p)) (actOf (sl T p (wE T p))) x0 y0 wd nm)) := u_eq
  have hF3 : ∀ j, j ≠ 178 → va_up f2 178 (some (.inr (4, (rdV du (nI (wE T p)) a0 x0 y0 wd nm).set 2 (.int (actOf (sl T p (wE T p))))))) j = f j := fun j hj => (u_ne hj).trans (hF2 j hj)
  generalize va_up f2 178 (some (.inr (4, (rdV du (nI (wE T p)) a0 x0 y0 wd nm).set 2 (.int (actOf (sl T p (wE T p))))))) = f3 at hd3 hF3 ⊢
  have hr3 : isRw f3 1 2 400 T := rw_tr hr (hF3 _ (by omega)) (hF3 _ (by omega))
  unfold rdA
  generalize actOf (sl T p (wE T p)) = a at hd3 ⊢
  refine pq_tail (Q1 := RAR f3 n du (rdK T p (wE T p) a)) ?_ (fun y hy => RAR_tr hy hF3)
  refine pq_gI hd3 rfl ?_
  have pl : xUsed a → False → True := fun _ _ => trivial
  clear pl
  have plain : ¬ xUsed a → a ≠ 10 → a ≠ 6 → PQ (mX4_readAct_b148 f3 n) (RAR f3 n du (.inr (a, 0, 0, [], wE T p))) := fun g1 g2 g3 => pq_ret ⟨f3, n, Nat.le_refl _, fun _ _ _ => rfl, rfl, x0, y0, wd, nm, hd3, fun q => absurd q g1, fun q => absurd q g2, fun q => absurd q g3⟩
  unfold rdK
  refine pq_eq (fun q => ?_) (fun qm => ?_)
  · rw [if_pos q]
    exact pq_ret ⟨f3, n, Nat.le_refl _, fun _ _ _ => rfl, rfl, _, _, _, _, _, _, _, hd3⟩
  rw [if_neg qm]
  refine pq_eq (fun q => ?_) (fun q0 => ?_)
  · rw [if_pos q]
    exact pq_ck (pq_call (f_rd1 kt_0 kt_3 hr3 hd3 hw.2 (by rw [q]; decide) (by rw [q]; decide)) (fun y hy => pq_ret hy))
  rw [if_neg q0]
  refine pq_eq (fun q => ?_) (fun q1 => ?_)
  · rw [if_pos q]
    exact pq_ck (pq_call (f_rd1 kt_0 kt_3 hr3 hd3 hw.2 (by rw [q]; decide) (by rw [q]; decide)) (fun y hy => pq_ret hy))
  rw [if_neg q1]
  refine pq_eq (fun q => ?_) (fun q2 => ?_)
  · subst q
    rw [if_neg (by decide), if_neg (by decide), if_neg (by decide), if_neg (by decide), if_neg (by decide)]
    exact plain (by unfold xUsed; decide) (by decide) (by decide)
  refine pq_eq (fun q => ?_) (fun q3 => ?_)
  · subst q
    rw [if_neg (by decide), if_neg (by decide), if_neg (by decide), if_neg (by decide), if_neg (by decide)]
    exact plain (by unfold xUsed; decide) (by decide) (by decide)
  refine pq_eq (fun q => ?_) (fun q4 => ?_)
  · subst q
    rw [if_neg (by decide), if_neg (by decide), if_neg (by decide), if_neg (by decide), if_neg (by decide)]
    exact plain (by unfold xUsed; decide) (by decide) (by decide)
  refine pq_eq (fun q => ?_) (fun q5 => ?_)
  · rw [if_pos q]
    exact pq_ck (pq_call (f_rd1 kt_1 kt_40 hr3 hd3 hw.2 (by rw [q]; decide) (by rw [q]; decide)) (fun y hy => pq_ret hy))
  rw [if_neg q5]
  refine pq_eq (fun q => ?_) (fun q6 => ?_)
  · rw [if_pos q]
    subst q
    exact pq_ck (pq_call (f_readWord hn hr3 hd3 hw.2) (fun y hy => pq_ret hy))
  rw [if_neg q6]
  refine pq_eq (fun q => ?_) (fun q7 => ?_)
  · subst q
    rw [if_neg (by decide), if_neg (by decide), if_neg (by decide)]
    exact plain (by unfold xUsed; decide) (by decide) (by decide)
  refine pq_eq (fun q => ?_) (fun q8 => ?_)
  · rw [if_pos q]
    exact pq_ck (pq_call (f_rd1 kt_0 kt_39 hr3 hd3 hw.2 (by rw [q]; decide) (by rw [q]; decide)) (fun y hy => pq_ret hy))
  rw [if_neg q8]
  refine pq_eq (fun q => ?_) (fun q9 => ?_)
  · rw [if_pos q]
    exact pq_ck (pq_call (f_rd1 kt_0 kt_39 hr3 hd3 hw.2 (by rw [q]; decide) (by rw [q]; decide)) (fun y hy => pq_ret hy))
  rw [if_neg q9]
  refine pq_eq (fun q => ?_) (fun q10 => ?_)
  · rw [if_pos q]
    subst q
    have hE := nE_b hw.2
    refine pq_ck (pq_call (f_readFirst hr3 hd3 hw.2) (fun y hy => ?_))
    obtain ⟨f4, nm4, rfl, k1, k2, k3⟩ := hy
    rw [kt_0, kt_39] at *
    unfold rd2
    by_cases ok : nOk T (wE T p) 0 39
    · rw [if_pos ok, if_pos ok]
      have hr4 : isRw f4 1 2 400 T := rw_tr hr3 (k3 _ (by omega)) (k3 _ (by omega))
      refine pq_t rfl (pq_ck (pq_call (f_readSecond (f := f4) (n := n) hr4 k1 hE.2.2) (fun y hy => ?_)))
      obtain ⟨f5, nm5, rfl, l1, l2, l3⟩ := hy
      by_cases ok2 : nOk T (nE T (wE T p)) 0 39
      · rw [if_pos ok2, if_pos ok2]
        exact pq_ret ⟨f5, n, Nat.le_refl _, fun j _ b => (l3 j b).trans (k3 j b), rfl, nm4, nm5, wd, nm5, l1, fun _ => nm_V (k2 ok.2.1), fun _ => nm_V (l2 ok2.2.1), fun q => absurd (show (10 : Int32) = 6 from q) (by decide)⟩
      · rw [if_neg ok2, if_neg ok2]
        exact pq_ret ⟨f5, n, Nat.le_refl _, fun j _ b => (l3 j b).trans (k3 j b), rfl, _, _, _, _, _, _, _, l1⟩
    · rw [if_neg ok, if_neg ok]
      refine pq_f (fun h => ?_) (pq_ret ⟨f4, n, Nat.le_refl _, fun j _ b => k3 j b, rfl, _, _, _, _, _, _, _, k1⟩)
      have h := congrArg Int32.toInt (show nI (nB T (wE T p)) = -1 from h)
      rw [nI_toInt (by omega), kt_m1] at h
      omega
  · rw [if_neg q10]
    refine plain (fun q => ?_) q10 q6
    unfold xUsed at q
    rcases q with q | q | q | q | q | q
    · exact q0 q
    · exact q1 q
    · exact q5 q
    · exact q8 q
    · exact q9 q
    · exact q10 q
end RDS
end
/-! part 58d.acts -/
section
/-! the class's text of acts, one behind another -/
def FRb (n : Nat) (f f' : AH) : Prop := ∀ j, j < n → j ≠ 0 → j ≠ 1 → j ≠ 3 → j ≠ 6 → j ≠ 7 → j ≠ 178 → (j < 59 ∨ 115 ≤ j) → (j < 171 ∨ 178 ≤ j) → f' j = f j
theorem frb_a {n : Nat} {f f' : AH} (h : FRa n f f') : FRb n f f' := fun j a b _ c d e _ g k => h j a b c d e g k
theorem frb_tr {n n' : Nat} {f f' f'' : AH} (h1 : FRb n f f') (h2 : FRb n' f' f'') (hn : n ≤ n') : FRb n f f'' := fun j a b c d e g h i k => (h2 j (by omega) b c d e g h i k).trans (h1 j a b c d e g h i k)
theorem frb_rfl {n : Nat} {f : AH} : FRb n f f := fun _ _ _ _ _ _ _ _ _ _ => rfl
theorem frb_imm {n : Nat} {f f' : AH} (h : FRb n f f') (hn : 224 ≤ n) {j : Nat} (hj : IMM n j) : f' j = f j := by
  have h1 := IMM_1 hj
  have h2 := IMM_ne hj sid3
  have h3 := IMM_lt hj hn
  exact h j h3 h1.1 h1.2.1 h2.1 h2.2.1 h2.2.2 (by omega) (by omega) (by omega)
theorem sid8 : SID 8 := by unfold SID; omega
theorem STT_frb {n n' s : Nat} {f f' : AH} {S : SST} (h : STT f n s S) (hs : SID s) (h3 : s ≠ 3) (hF : FRb n f f') (hn : 224 ≤ n) (hn' : n ≤ n') : STT f' n' s S := by
  have h1 := SID_lt hs
  have h2 : 8 ≤ s := by unfold SID at hs; omega
  exact STT_tr h (hF _ (by omega) (by omega) (by omega) (by omega) (by omega) (by omega) (by omega) (by omega) (by omega)) (hF _ (by omega) (by omega) (by omega) (by omega) (by omega) (by omega) (by omega) (by omega) (by omega)) (hF _ (by omega) (by omega) (by omega) (by omega) (by omega) (by omega) (by omega) (by omega) (by omega)) (fun i hi => frb_imm hF hn hi) hn'
section RBH
variable {f : AH} {n : Nat} {T : BL} {du a0 x0 y0 nm : Int32} {wd : Option Nat}
theorem f_behind_b73 {q : Nat} (hr : isRw f 1 2 400 T) (hd : f 178 = some (.inr (4, rdV du (nI q) a0 x0 y0 wd nm))) (hq : q ≤ T.length) : PQ (mX4_readBehindAct_b73 178 f n) (fun y => ∃ f', y = (-1, f', n) ∧ f' 178 = some (.inr (4, rdV du (nI (if q < T.length then nB T (q + 1) else T.length)) a0 x0 y0 wd nm)) ∧ ∀ j, j ≠ 178 → f' j = f j) := by
  have h6 := rw_6 hr
  unfold mX4_readBehindAct_b73
  refine pq_gR hd rfl (pq_gI hd rfl (pq_gR hd rfl (pq_sb (pq_ck (pq_is (f_size hr) (pq_sb (pq_ck ?_)))))))
  rw [nI_1]
  by_cases h : q < T.length
  · rw [if_pos h]
    exact pq_is (f_blanks hr (show q + 1 ≤ T.length by omega) (Nat.le_refl _)) (pq_pO hd rfl (pq_ret ⟨_, rfl, u_eq, fun j hj => u_ne hj⟩))
  · rw [if_neg h]
    exact pq_is (f_blanksO hr (show T.length ≤ q + 1 by omega) (by omega)) (pq_pO hd rfl (pq_ret ⟨_, rfl, u_eq, fun j hj => u_ne hj⟩))
theorem f_behind {p : Nat} (hr : isRw f 1 2 400 T) (hd : f 178 = some (.inr (4, rdV du (nI p) a0 x0 y0 wd nm))) (hp : p ≤ T.length) : PQ (mX4_readBehindAct 178 f n) (fun y => ∃ f', (∀ j, j ≠ 178 → f' j = f j) ∧ ((T.length ≤ nB T p ∧ y = (-1, f', n) ∧ f' 178 = some (.inr (4, rdV 0 (nI T.length) a0 x0 y0 wd nm))) ∨ (nB T p < T.length ∧ T.getD (nB T p) 0 = 59 ∧ y = (-1, f', n) ∧ f' 178 = some (.inr (4, rdV 1 (nI (nB T (nB T p + 1))) a0 x0 y0 wd nm))) ∨ (nB T p < T.length ∧ T.getD (nB T p) 0 ≠ 59 ∧ y = (nI (nB T p), f', n) ∧ rdAny (f' 178)))) := by
  have h6 := rw_6 hr
  have hb := nE_b hp
  have hb2 : nB T p ≤ T.length := by omega
  unfold mX4_readBehindAct
  refine pq_gR hd rfl (pq_gI hd rfl (pq_gR hd rfl (pq_sb (pq_ck (pq_is (f_size hr) (pq_sb (pq_ck (pq_is (f_blanks hr hp (Nat.le_refl _)) (pq_pO hd rfl ?_)))))))))
  have hd2 : va_up f 178 (some (.inr (4, (rdV du (nI p) a0 x0 y0 wd nm).set 1 (.int (nI (nx (bNe 32) T p T.length)))))) 178 = some (.inr (4, rdV du (nI (nB T p)) a0 x0 y0 wd nm)) := u_eq
  have hF2 : ∀ j, j ≠ 178 → va_up f 178 (some (.inr (4, (rdV du (nI p) a0 x0 y0 wd nm).set 1 (.int (nI (nx (bNe 32) T p T.length)))))) j = f j := fun j hj => u_ne hj
  generalize va_up f 178 (some (.inr (4, (rdV du (nI p) a0 x0 y0 wd nm).set 1 (.int (nI (nx (bNe 32) T p T.length)))))) = f2 at hd2 hF2 ⊢
  have hr2 : isRw f2 1 2 400 T := rw_tr hr (hF2 _ (by omega)) (hF2 _ (by omega))
  refine pq_gI hd2 rfl (pq_gR hd2 rfl (pq_sb (pq_ck (pq_is (f_size hr2) ?_))))
  refine pq_le (nI_toInt (by omega)) (nI_toInt (by omega)) (fun q => ?_) (fun q => ?_)
  · unfold mX4_readBehindAct_b42
    refine pq_ck (pq_pO hd2 rfl ?_)
    have hd3 : va_up f2 178 (some (.inr (4, (rdV du (nI (nB T p)) a0 x0 y0 wd nm).set 0 (.int 0)))) 178 = some (.inr (4, rdV 0 (nI (nB T p)) a0 x0 y0 wd nm)) := u_eq
    have hF3 : ∀ j, j ≠ 178 → va_up f2 178 (some (.inr (4, (rdV du (nI (nB T p)) a0 x0 y0 wd nm).set 0 (.int 0)))) j = f j := fun j hj => (u_ne hj).trans (hF2 j hj)
    generalize va_up f2 178 (some (.inr (4, (rdV du (nI (nB T p)) a0 x0 y0 wd nm).set 0 (.int 0)))) = f3 at hd3 hF3 ⊢
    have hr3 : isRw f3 1 2 400 T := rw_tr hr (hF3 _ (by omega)) (hF3 _ (by omega))
    refine pq_gI hd3 rfl (pq_t rfl (pq_tail (f_behind_b73 (f := f3) (n := n) hr3 hd3 hb2) (fun y hy => ?_)))
    obtain ⟨f4, rfl, k1, k2⟩ := hy
    rw [if_neg (by omega)] at k1
    exact ⟨f4, fun j hj => (k2 j hj).trans (hF3 j hj), Or.inl ⟨by omega, rfl, k1⟩⟩
  · unfold mX4_readBehindAct_b42
    refine pq_ck (pq_pO hd2 rfl ?_)
    have hd3 : va_up f2 178 (some (.inr (4, (rdV du (nI (nB T p)) a0 x0 y0 wd nm).set 0 (.int 1)))) 178 = some (.inr (4, rdV 1 (nI (nB T p)) a0 x0 y0 wd nm)) := u_eq
    have hF3 : ∀ j, j ≠ 178 → va_up f2 178 (some (.inr (4, (rdV du (nI (nB T p)) a0 x0 y0 wd nm).set 0 (.int 1)))) j = f j := fun j hj => (u_ne hj).trans (hF2 j hj)
    generalize va_up f2 178 (some (.inr (4, (rdV du (nI (nB T p)) a0 x0 y0 wd nm).set 0 (.int 1)))) = f3 at hd3 hF3 ⊢
    have hr3 : isRw f3 1 2 400 T := rw_tr hr (hF3 _ (by omega)) (hF3 _ (by omega))
    have hlt : nB T p < T.length := by omega
    refine pq_gI hd3 rfl (pq_f (by decide) (pq_gR hd3 rfl (pq_gI hd3 rfl (pq_sb (pq_ck (pq_is (f_getN hr3 hlt) ?_))))))
    refine pq_eq (fun q2 => ?_) (fun q2 => ?_)
    · refine pq_tail (f_behind_b73 (f := f3) (n := n) hr3 hd3 hb2) (fun y hy => ?_)
      obtain ⟨f4, rfl, k1, k2⟩ := hy
      rw [if_pos hlt] at k1
      exact ⟨f4, fun j hj => (k2 j hj).trans (hF3 j hj), Or.inr (Or.inl ⟨hlt, q2, rfl, k1⟩)⟩
    · exact pq_gI hd3 rfl (pq_ret ⟨f3, hF3, Or.inr (Or.inr ⟨hlt, q2, rfl, _, _, _, _, _, _, _, hd3⟩)⟩)
theorem f_start {du0 p0 : Int32} {tx : Nat} (hr : isRw f 1 2 400 T) (hd : f 178 = some (.inr (4, [.int du0, .int p0, .int a0, .int x0, .int y0, va_rf wd, .int nm, .ref tx]))) : PQ (mX4_start 178 (some 1) f n) (fun y => ∃ f', y = (0, f', n) ∧ f' 178 = some (.inr (4, rdV (bI (decide (nB T 0 < T.length))) (nI (nB T 0)) a0 x0 y0 wd nm)) ∧ ∀ j, j ≠ 178 → f' j = f j) := by
  have h6 := rw_6 hr
  have hb := nE_b (T := T) (p := 0) (Nat.zero_le _)
  unfold mX4_start
  refine pq_pO hd rfl ?_
  have hd2 : va_up f 178 (some (.inr (4, ([.int du0, .int p0, .int a0, .int x0, .int y0, va_rf wd, .int nm, .ref tx] : List Value).set 7 (va_rf (some 1))))) 178 = some (.inr (4, rdV du0 p0 a0 x0 y0 wd nm)) := u_eq
  have hF2 : ∀ j, j ≠ 178 → va_up f 178 (some (.inr (4, ([.int du0, .int p0, .int a0, .int x0, .int y0, va_rf wd, .int nm, .ref tx] : List Value).set 7 (va_rf (some 1))))) j = f j := fun j hj => u_ne hj
  generalize va_up f 178 (some (.inr (4, ([.int du0, .int p0, .int a0, .int x0, .int y0, va_rf wd, .int nm, .ref tx] : List Value).set 7 (va_rf (some 1))))) = f2 at hd2 hF2 ⊢
  have hr2 : isRw f2 1 2 400 T := rw_tr hr (hF2 _ (by omega)) (hF2 _ (by omega))
  refine pq_gR hd2 rfl (pq_gR hd2 rfl (pq_sb (pq_ck (pq_is (f_size hr2) (pq_sb (pq_ck (pq_is (f_blanks hr2 (i := 0) (Nat.zero_le _) (Nat.le_refl _)) (pq_pO hd2 rfl ?_))))))))
  have hd3 : va_up f2 178 (some (.inr (4, (rdV du0 p0 a0 x0 y0 wd nm).set 1 (.int (nI (nx (bNe 32) T 0 T.length)))))) 178 = some (.inr (4, rdV du0 (nI (nB T 0)) a0 x0 y0 wd nm)) := u_eq
  have hF3 : ∀ j, j ≠ 178 → va_up f2 178 (some (.inr (4, (rdV du0 p0 a0 x0 y0 wd nm).set 1 (.int (nI (nx (bNe 32) T 0 T.length)))))) j = f j := fun j hj => (u_ne hj).trans (hF2 j hj)
  generalize va_up f2 178 (some (.inr (4, (rdV du0 p0 a0 x0 y0 wd nm).set 1 (.int (nI (nx (bNe 32) T 0 T.length)))))) = f3 at hd3 hF3 ⊢
  have hr3 : isRw f3 1 2 400 T := rw_tr hr (hF3 _ (by omega)) (hF3 _ (by omega))
  refine pq_gI hd3 rfl (pq_gR hd3 rfl (pq_sb (pq_ck (pq_is (f_size hr3) ?_))))
  refine pq_le (nI_toInt (by omega)) (nI_toInt (by omega)) (fun q => ?_) (fun q => ?_)
  · rw [decide_eq_false (show ¬ nB T 0 < T.length by omega)]
    exact pq_ck (pq_pO hd3 rfl (pq_ret ⟨_, rfl, u_eq, fun j hj => (u_ne hj).trans (hF3 j hj)⟩))
  · rw [decide_eq_true (show nB T 0 < T.length by omega)]
    exact pq_ck (pq_pO hd3 rfl (pq_ret ⟨_, rfl, u_eq, fun j hj => (u_ne hj).trans (hF3 j hj)⟩))
end RBH
end
/-! part 58e.acts -/
section
/-! acts of a text: the class's loop -/
theorem aNm_r {X : BL} : ∀ (d t : Nat), aNm X d t = -1 ∨ ∃ k, t ≤ k ∧ k < t + d ∧ aNm X d t = nI k := by
  intro d
  induction d with
  | zero => intro t; exact Or.inl rfl
  | succ d ih =>
    intro t
    show (if X = nmL.getD t [] then nI t else aNm X d (t + 1)) = -1 ∨ _
    by_cases h : X = nmL.getD t []
    · exact Or.inr ⟨t, Nat.le_refl _, by omega, by show (if X = nmL.getD t [] then nI t else aNm X d (t + 1)) = nI t; rw [if_pos h]⟩
    · rw [if_neg h]
      rcases ih (t + 1) with e | ⟨k, h1, h2, h3⟩
      · exact Or.inl e
      · exact Or.inr ⟨k, by omega, by omega, by show (if X = nmL.getD t [] then nI t else aNm X d (t + 1)) = nI k; rw [if_neg h]; exact h3⟩
theorem actOf_r {X : BL} : actOf X = -1 ∨ ∃ k, k < 12 ∧ actOf X = nI k := by
  rcases aNm_r (X := X) 12 0 with h | ⟨k, -, h1, h2⟩
  · exact Or.inl h
  · exact Or.inr ⟨k, by omega, h2⟩
/-- what is read is right -/
def zOk (T : BL) (z : Int32 × Int32 × Int32 × BL × Nat) : Prop := (∃ k, k < 12 ∧ z.1 = nI k) ∧ (z.1 = 0 → 0 ≤ z.2.1.toInt ∧ z.2.1.toInt ≤ 3) ∧ (z.1 = 1 → 0 ≤ z.2.1.toInt ∧ z.2.1.toInt ≤ 3) ∧ (z.1 = 5 → 1 ≤ z.2.1.toInt ∧ z.2.1.toInt ≤ 40) ∧ z.2.2.2.2 ≤ T.length
theorem rd1_ok {T : BL} {e : Nat} {a : Int32} {lo hi : Int} {z : Int32 × Int32 × Int32 × BL × Nat} (he : e ≤ T.length) (h : rd1 T e a lo hi = .inr z) : z.1 = a ∧ lo ≤ z.2.1.toInt ∧ z.2.1.toInt ≤ hi ∧ z.2.2.2.2 ≤ T.length := by
  unfold rd1 at h
  split at h
  · rename_i ok
    cases h
    exact ⟨rfl, by show lo ≤ (nV T e).toInt; rw [nV_t]; exact ok.2.2.1, by show (nV T e).toInt ≤ hi; rw [nV_t]; exact ok.2.2.2, (nE_b he).2.2⟩
  · cases h
theorem rdA_ok {T : BL} {p : Nat} {z : Int32 × Int32 × Int32 × BL × Nat} (hp : p ≤ T.length) (h : rdA T p = .inr z) : zOk T z := by
  have hw := wE_b hp
  unfold rdA rdK at h
  rcases actOf_r (X := sl T p (wE T p)) with e | ⟨k, hk, e⟩
  · rw [e, if_pos rfl] at h; cases h
  · rw [e] at h
    have hr : ∃ k', k' < 12 ∧ nI k = nI k' := ⟨k, hk, rfl⟩
    rw [if_neg (fun q => by have := congrArg Int32.toInt q; rw [nI_toInt (by omega), kt_m1] at this; omega)] at h
    have one : ∀ (lo hi : Int), (nI k = 0 → lo = 0 ∧ hi = 3) → (nI k = 1 → lo = 0 ∧ hi = 3) → (nI k = 5 → lo = 1 ∧ hi = 40) → rd1 T (wE T p) (nI k) lo hi = .inr z → zOk T z := fun lo hi h0 h1 h5 hh => by
      obtain ⟨z1, z2, z3, z4⟩ := rd1_ok hw.2 hh
      refine ⟨by rw [z1]; exact hr, fun q => ?_, fun q => ?_, fun q => ?_, z4⟩
      · have := h0 (z1.symm.trans q); omega
      · have := h1 (z1.symm.trans q); omega
      · have := h5 (z1.symm.trans q); omega
    by_cases q0 : nI k = 0
    · rw [if_pos q0] at h
      exact one 0 3 (fun _ => ⟨rfl, rfl⟩) (fun _ => ⟨rfl, rfl⟩) (fun q => by rw [q0] at q; cases q) h
    rw [if_neg q0] at h
    by_cases q1 : nI k = 1
    · rw [if_pos q1] at h
      exact one 0 3 (fun _ => ⟨rfl, rfl⟩) (fun _ => ⟨rfl, rfl⟩) (fun q => by rw [q1] at q; cases q) h
    rw [if_neg q1] at h
    by_cases q5 : nI k = 5
    · rw [if_pos q5] at h
      exact one 1 40 (fun q => absurd q q0) (fun q => absurd q q1) (fun _ => ⟨rfl, rfl⟩) h
    rw [if_neg q5] at h
    by_cases q6 : nI k = 6
    · rw [if_pos q6] at h
      unfold rdW at h
      split at h
      · cases h
        have hb := nE_b hw.2
        have hb2 : nB T (wE T p) ≤ T.length := by omega
        exact ⟨⟨6, by omega, rfl⟩, fun q => absurd (show (6 : Int32) = 0 from q) (by decide), fun q => absurd (show (6 : Int32) = 1 from q) (by decide), fun q => absurd (show (6 : Int32) = 5 from q) (by decide), (wE_b hb2).2⟩
      · cases h
    rw [if_neg q6] at h
    by_cases q8 : nI k = 8
    · rw [if_pos q8] at h
      exact one 0 39 (fun q => absurd q q0) (fun q => absurd q q1) (fun q => absurd q q5) h
    rw [if_neg q8] at h
    by_cases q9 : nI k = 9
    · rw [if_pos q9] at h
      exact one 0 39 (fun q => absurd q q0) (fun q => absurd q q1) (fun q => absurd q q5) h
    rw [if_neg q9] at h
    by_cases q10 : nI k = 10
    · rw [if_pos q10] at h
      unfold rd2 at h
      split at h
      · split at h
        · cases h
          have h1 := nE_b hw.2
          exact ⟨⟨10, by omega, rfl⟩, fun q => absurd (show (10 : Int32) = 0 from q) (by decide), fun q => absurd (show (10 : Int32) = 1 from q) (by decide), fun q => absurd (show (10 : Int32) = 5 from q) (by decide), (nE_b h1.2.2).2.2⟩
        · cases h
      · cases h
    rw [if_neg q10] at h
    cases h
    exact ⟨hr, fun q => absurd q q0, fun q => absurd q q1, fun q => absurd q q5, hw.2⟩
theorem dA_ir {S : SST} {a x x' y y' : Int32} {w : BL} (ha : ∃ k, k < 12 ∧ a = nI k) (hx : xUsed a → x' = x) (hy : a = 10 → y' = y) : dA S a x' y' w = dA S a x y w := by
  unfold xUsed at hx
  unfold dA
  by_cases q0 : a = 0
  · rw [if_pos q0, if_pos q0, hx (by rw [q0]; decide)]
  rw [if_neg q0, if_neg q0]
  by_cases q1 : a = 1
  · rw [if_pos q1, if_pos q1, hx (by rw [q1]; decide)]
  rw [if_neg q1, if_neg q1]
  by_cases q2 : a = 2
  · rw [if_pos q2, if_pos q2]
  rw [if_neg q2, if_neg q2]
  by_cases q3 : a = 3
  · rw [if_pos q3, if_pos q3]
  rw [if_neg q3, if_neg q3]
  by_cases q4 : a = 4
  · rw [if_pos q4, if_pos q4]
  rw [if_neg q4, if_neg q4]
  by_cases q5 : a = 5
  · rw [if_pos q5, if_pos q5, hx (by rw [q5]; decide)]
  rw [if_neg q5, if_neg q5]
  by_cases q6 : a = 6
  · rw [if_pos q6, if_pos q6]
  rw [if_neg q6, if_neg q6]
  by_cases q7 : a = 7
  · rw [if_pos q7, if_pos q7]
  rw [if_neg q7, if_neg q7]
  by_cases q8 : a = 8
  · rw [if_pos q8, if_pos q8, hx (by rw [q8]; decide)]
  rw [if_neg q8, if_neg q8]
  by_cases q9 : a = 9
  · rw [if_pos q9, if_pos q9, hx (by rw [q9]; decide)]
  rw [if_neg q9, if_neg q9]
  by_cases q10 : a = 10
  · rw [if_pos q10, if_pos q10, hx (by rw [q10]; decide), hy q10]
  rw [if_neg q10, if_neg q10]
  by_cases q11 : a = 11
  · rw [if_pos q11, if_pos q11]
  rw [if_neg q11, if_neg q11]
  exfalso
  obtain ⟨k, hk, e⟩ := ha
  have h : k = 0 ∨ k = 1 ∨ k = 2 ∨ k = 3 ∨ k = 4 ∨ k = 5 ∨ k = 6 ∨ k = 7 ∨ k = 8 ∨ k = 9 ∨ k = 10 ∨ k = 11 := by omega
  rcases h with rfl | rfl | rfl | rfl | rfl | rfl | rfl | rfl | rfl | rfl | rfl | rfl
  · exact q0 e
  · exact q1 e
  · exact q2 e
  · exact q3 e
  · exact q4 e
  · exact q5 e
  · exact q6 e
  · exact q7 e
  · exact q8 e
  · exact q9 e
  · exact q10 e
  · exact q11 e
theorem i32_03 {x : Int32} (h : 0 ≤ x.toInt ∧ x.toInt ≤ 3) : x = 0 ∨ x = 1 ∨ x = 2 ∨ x = 3 := by
  have h1 : x.toInt = 0 ∨ x.toInt = 1 ∨ x.toInt = 2 ∨ x.toInt = 3 := by omega
  rcases h1 with e | e | e | e
  · exact Or.inl (Int32.toInt_inj.mp (by rw [e]; rfl))
  · exact Or.inr (Or.inl (Int32.toInt_inj.mp (by rw [e]; rfl)))
  · exact Or.inr (Or.inr (Or.inl (Int32.toInt_inj.mp (by rw [e]; rfl))))
  · exact Or.inr (Or.inr (Or.inr (Int32.toInt_inj.mp (by rw [e]; rfl))))
def adk (k : Nat) (z : AR) : AR := (z.1, z.2.1, z.2.2.1 + k, z.2.2.2)
def AFN (n0 : Nat) (f0 : AH) (hi pc wn : Int32) (S0 : SST) (z : AR) (y : (Int32 ⊕ String) × HpN) : Prop := ∃ f' n', n0 ≤ n' ∧ FRb n0 f0 f' ∧ isRw f' 1 2 400 [] ∧ rdAny (f' 178) ∧ (match z.1 with
  | none => y = (.inl (nI z.2.2.1), f', n') ∧ (∃ ag, f' 0 = some (.inr (8, pfL hi ag 0 (if 0 < z.2.2.1 then 0 else wn) (-1))) ∧ (0 < z.2.2.1 → ag = 0) ∧ (z.2.2.1 = 0 → ∀ g : Int32, (∃ pc' wn' fp', f0 0 = some (.inr (8, pfL hi g pc' wn' fp'))) → ag = g)) ∧ KO f' n' z.2.2.2 ∧ SV z.2.2.2
  | some w => y = (.inr eA, f', n') ∧ f' 0 = some (.inr (8, pfL hi 0 pc (if z.2.1 = 0 then wn else z.2.1) (nI w))) ∧ KO f' n' S0)
section ALP
variable {n0 : Nat} {f0 : AH} {T : BL} {hi pc wn : Int32} {S0 : SST}
theorem f_b150w {f : AH} {n w : Nat} {v1 ag wn' fp : Int32} (hn0 : n0 ≤ n) (hn : 224 ≤ n) (hFr : FRb n0 f0 f) (hp : f 0 = some (.inr (8, pfL hi ag pc wn' fp))) (hr : isRw f 1 2 400 T) (hd : rdAny (f 178)) (h8 : STT f n 8 S0) (hV0 : SV S0) (hH : SHP f) (hw : w ≤ 400) {z : AR} (hz : z.1 = some w) (hz2 : wn' = if z.2.1 = 0 then wn else z.2.1) : PQ (mX8_acts_b150 0 v1 (nI w) f n) (AFN n0 f0 hi pc wn S0 z) := by
  unfold mX8_acts_b150
  refine pq_gR hp rfl (pq_sb (pq_ck (pq_call (f_cutTo (m := 0) hr (by omega)) (fun y hy => ?_))))
  obtain ⟨f1, rfl, hr1, hF1⟩ := hy
  rw [List.take_zero] at hr1
  have hp1 : f1 0 = some (.inr (8, pfL hi ag pc wn' fp)) := (hF1 0 (by omega)).trans hp
  refine pq_pO hp1 rfl (pq_f (fun q => ?_) ?_)
  · have q := congrArg Int32.toInt q
    rw [nI_toInt (by omega), kt_m1] at q
    omega
  have hp2 : va_up f1 0 (some (.inr (8, (pfL hi ag pc wn' fp).set 13 (.int (nI w))))) 0 = some (.inr (8, pfL hi ag pc wn' (nI w))) := u_eq
  have hF2 : ∀ j, j ≠ 0 → j ≠ 1 → va_up f1 0 (some (.inr (8, (pfL hi ag pc wn' fp).set 13 (.int (nI w))))) j = f j := fun j a b => (u_ne a).trans (hF1 j b)
  have hr2 : isRw (va_up f1 0 (some (.inr (8, (pfL hi ag pc wn' fp).set 13 (.int (nI w)))))) 1 2 400 [] := rw_tr hr1 (u_ne (by omega)) (u_ne (by omega))
  generalize va_up f1 0 (some (.inr (8, (pfL hi ag pc wn' fp).set 13 (.int (nI w))))) = f2 at hp2 hF2 hr2 ⊢
  have im : ∀ j, IMM n j → f2 j = f j := fun j hj => hF2 j (IMM_1 hj).1 (IMM_1 hj).2.1
  have h82 : STT f2 n 8 S0 := STT_tr h8 (hF2 _ (by omega) (by omega)) (hF2 _ (by omega) (by omega)) (hF2 _ (by omega) (by omega)) im (Nat.le_refl _)
  have hH2 : SHP f2 := ⟨SSh_tr hH.1 (hF2 _ (by omega) (by omega)) (hF2 _ (by omega) (by omega)) (hF2 _ (by omega) (by omega)), CSh_tr hH.2.1 (fun i a b => hF2 i (by omega) (by omega)), BSh_tr hH.2.2 (fun i a b => hF2 i (by omega) (by omega))⟩
  refine pq_gR hp2 rfl (pq_ck (pq_call (f_restore (f := f2) (n := n) hp2 sid8 (by omega) h82 hH2 hV0) (fun y hy => ?_)))
  obtain ⟨f3, rfl, k1, k2, k3⟩ := hy
  refine pq_ret ⟨f3, n, hn0, frb_tr hFr (frb_tr (n' := n) (fun j a b c d e g h i k => hF2 j b c) (frb_a k3) (Nat.le_refl _)) hn0, rw_tr hr2 (k3 _ (by omega) (by omega) (by omega) (by omega) (by omega) (by omega) (by omega)) (k3 _ (by omega) (by omega) (by omega) (by omega) (by omega) (by omega) (by omega)), ?_, ?_⟩
  · rw [k3 178 (by omega) (by omega) (by omega) (by omega) (by omega) (by omega) (by omega), hF2 178 (by omega) (by omega)]; exact hd
  · rw [hz]
    exact ⟨rfl, by rw [k1, hz2], k2⟩
theorem f_b150n {f : AH} {n k : Nat} {ag wn' fp : Int32} {S : SST} (hn0 : n0 ≤ n) (hFr : FRb n0 f0 f) (hp : f 0 = some (.inr (8, pfL hi ag pc wn' fp))) (hr : isRw f 1 2 400 T) (hd : rdAny (f 178)) (hK : KO f n S) (hV : SV S) (hk : k ≤ 20) (hwn : k = 0 → wn' = wn) (hag : 0 < k → ag = 0) (hag0 : k = 0 → ∀ g : Int32, (∃ pc' wn' fp', f0 0 = some (.inr (8, pfL hi g pc' wn' fp'))) → ag = g) {z : AR} (hz : z.1 = none) (hz2 : z.2.2.1 = k) (hz3 : z.2.2.2 = S) : PQ (mX8_acts_b150 0 (nI k) (-1) f n) (AFN n0 f0 hi pc wn S0 z) := by
  unfold mX8_acts_b150
  refine pq_gR hp rfl (pq_sb (pq_ck (pq_call (f_cutTo (m := 0) hr (by omega)) (fun y hy => ?_))))
  obtain ⟨f1, rfl, hr1, hF1⟩ := hy
  rw [List.take_zero] at hr1
  have hp1 : f1 0 = some (.inr (8, pfL hi ag pc wn' fp)) := (hF1 0 (by omega)).trans hp
  refine pq_pO hp1 rfl (pq_t rfl ?_)
  have hp2 : va_up f1 0 (some (.inr (8, (pfL hi ag pc wn' fp).set 13 (.int (-1))))) 0 = some (.inr (8, pfL hi ag pc wn' (-1))) := u_eq
  have hF2 : ∀ j, j ≠ 0 → j ≠ 1 → va_up f1 0 (some (.inr (8, (pfL hi ag pc wn' fp).set 13 (.int (-1))))) j = f j := fun j a b => (u_ne a).trans (hF1 j b)
  have hr2 : isRw (va_up f1 0 (some (.inr (8, (pfL hi ag pc wn' fp).set 13 (.int (-1)))))) 1 2 400 [] := rw_tr hr1 (u_ne (by omega)) (u_ne (by omega))
  generalize va_up f1 0 (some (.inr (8, (pfL hi ag pc wn' fp).set 13 (.int (-1))))) = f2 at hp2 hF2 hr2 ⊢
  have b199 : ∀ s1 : Int32, s1 = (if 0 < k then 0 else wn) → PQ (mX8_acts_b199 0 (nI k) 0 s1 f2 n) (AFN n0 f0 hi pc wn S0 z) := by
    intro s1 hs
    unfold mX8_acts_b199
    refine pq_pO hp2 rfl (pq_pU (pfL hi ag 0 s1 (-1)) rfl rfl (pq_ret ?_))
    have hF3 : ∀ j, j ≠ 0 → j ≠ 1 → va_up f2 0 (some (.inr (8, pfL hi ag 0 s1 (-1)))) j = f j := fun j a b => (u_ne a).trans (hF2 j a b)
    refine ⟨_, n, hn0, frb_tr hFr (fun j a b c d e g h i k => hF3 j b c) hn0, rw_tr hr2 (u_ne (by omega)) (u_ne (by omega)), ?_, ?_⟩
    · rw [hF3 178 (by omega) (by omega)]; exact hd
    · rw [hz]
      refine ⟨by rw [hz2], ⟨ag, ?_, fun h => hag (by omega), fun h => hag0 (by omega)⟩, ?_, by rw [hz3]; exact hV⟩
      · rw [hz2, ← hs]; exact u_eq
      · rw [hz3]
        exact KO_tr hK (fun j hj => hF3 j (by rcases hj with q | q | q | q <;> first | omega | exact (IMM_1 q).1) (by rcases hj with q | q | q | q <;> first | omega | exact (IMM_1 q).2.1)) (Nat.le_refl _)
  refine pq_le (nI_toInt (by omega)) kt_0 (fun q => ?_) (fun q => ?_)
  · exact pq_gI hp2 rfl (b199 _ (by rw [if_neg (by omega)]; exact hwn (by omega)))
  · exact b199 _ (by rw [if_pos (by omega)])
/-- where one is wrong the loop ends -/
theorem f_stopw {d : Nat} {f : AH} {n w : Nat} {v1 v3 : Int32} {ag pc' wn' fp : Int32} {Q : (Int32 ⊕ String) × HpN → Prop} (hp : f 0 = some (.inr (8, pfL hi ag pc' wn' fp))) (hd : rdAny (f 178)) (hw : w ≤ 400) (h : PQ (mX8_acts_b150 0 v1 (nI w) f n) Q) : PQ (mX8_acts_l28 d 0 v1 (nI w) v3 f n) Q := by
  cases d with
  | zero => exact pq_none
  | succ d =>
    obtain ⟨du, p, a, x, y, wd, nm, e⟩ := hd
    unfold mX8_acts_l28
    refine pq_lt rfl rfl (fun _ => h) (fun _ => ?_)
    refine pq_gR hp rfl (pq_sb (pq_gI e rfl (pq_eq (fun _ => h) (fun _ => pq_f (fun q => ?_) h))))
    have q := congrArg Int32.toInt q
    rw [nI_toInt (by omega), kt_m1] at q
    omega
end ALP
end
/-! part 58f.acts -/
section
/-! acts of a text: the whole -/
theorem nB_le {T : BL} {p : Nat} (h : p ≤ T.length) : nB T p ≤ T.length := nx_le h
theorem rd1_w {T : BL} {e w : Nat} {a : Int32} {lo hi : Int} (he : e ≤ T.length) (h : rd1 T e a lo hi = .inl w) : w ≤ T.length := by
  unfold rd1 at h
  split at h
  · cases h
  · cases h; exact nB_le he
theorem rd2_w {T : BL} {e w : Nat} (he : e ≤ T.length) (h : rd2 T e = .inl w) : w ≤ T.length := by
  unfold rd2 at h
  split at h
  · split at h
    · cases h
    · cases h; exact nB_le (nE_b he).2.2
  · cases h; exact nB_le he
theorem rdW_w {T : BL} {e w : Nat} (he : e ≤ T.length) (h : rdW T e = .inl w) : w ≤ T.length := by
  unfold rdW at h
  split at h
  · cases h
  · cases h; exact nB_le he
theorem ite_w {c : Prop} {d : Decidable c} {A B : RA} {w N : Nat} (h1 : A = .inl w → w ≤ N) (h2 : B = .inl w → w ≤ N) (h : @ite _ c d A B = .inl w) : w ≤ N := by
  by_cases q : c
  · rw [if_pos q] at h; exact h1 h
  · rw [if_neg q] at h; exact h2 h
theorem rdA_w {T : BL} {p w : Nat} (hp : p ≤ T.length) (h : rdA T p = .inl w) : w ≤ T.length := by
  have he := (wE_b hp).2
  exact ite_w (fun h => by cases h; exact hp) (ite_w (rd1_w he) (ite_w (rd1_w he) (ite_w (rd1_w he) (ite_w (rdW_w he) (ite_w (rd1_w he) (ite_w (rd1_w he) (ite_w (rd2_w he) (fun h => by cases h)))))))) h
section ALQ
variable {n0 : Nat} {f0 : AH} {T : BL} {hi pc wn : Int32} {S0 : SST}
theorem f_stopn {d : Nat} {f : AH} {n : Nat} {v1 v3 : Int32} {ag pc' wn' fp p a x y nm : Int32} {wd : Option Nat} {Q : (Int32 ⊕ String) × HpN → Prop} (hp : f 0 = some (.inr (8, pfL hi ag pc' wn' fp))) (hd : f 178 = some (.inr (4, rdV 0 p a x y wd nm))) (h : PQ (mX8_acts_b150 0 v1 (-1) f n) Q) : PQ (mX8_acts_l28 d 0 v1 (-1) v3 f n) Q := by
  cases d with
  | zero => exact pq_none
  | succ d =>
    unfold mX8_acts_l28
    refine pq_lt rfl rfl (fun _ => h) (fun _ => ?_)
    exact pq_gR hp rfl (pq_sb (pq_gI hd rfl (pq_t rfl h)))
theorem f_acts_l (h00 : 224 ≤ n0) (hT : T.length ≤ 400) (hV0 : SV S0) : ∀ (d t p : Nat) (f : AH) (n : Nat) (S : SST) (ag fp a0 x0 y0 nm : Int32) (wd : Option Nat), t ≤ 14 → p ≤ T.length → n0 ≤ n → FRb n0 f0 f → f 0 = some (.inr (8, pfL hi ag pc wn fp)) → (0 < t → ag = 0) → (t = 0 → ∀ g : Int32, (∃ pc' wn' fp', f0 0 = some (.inr (8, pfL hi g pc' wn' fp'))) → ag = g) → isRw f 1 2 400 T → f 178 = some (.inr (4, rdV 1 (nI p) a0 x0 y0 wd nm)) → STT f n 8 S0 → KO f n S → SV S → PQ (mX8_acts_l28 d 0 (nI t) (-1) (nI t) f n) (AFN n0 f0 hi pc wn S0 (adk t (aL T (14 - t) p S))) := by
  intro d
  induction d with
  | zero => intro t p f n S ag fp a0 x0 y0 nm wd _ _ _ _ _ _ _ _ _ _ _ _; exact pq_none
  | succ d ih =>
    intro t p f n S ag fp a0 x0 y0 nm wd ht hp hn hFr h0 hag hag0 hr hd h8 hK hV
    have hn24 : 224 ≤ n := by omega
    unfold mX8_acts_l28
    refine pq_lt kt_14 (nI_toInt (by omega)) (fun q => by omega) (fun _ => ?_)
    refine pq_gR h0 rfl (pq_sb (pq_gI hd rfl (pq_f (by decide) (pq_t rfl (pq_gR h0 rfl (pq_sb (pq_gI hd rfl ?_)))))))
    have nw : ∀ w : Nat, w ≤ 400 → ¬ nI w = -1 := fun w hw q => by
      have q := congrArg Int32.toInt q
      rw [nI_toInt (by omega), kt_m1] at q
      omega
    refine pq_le kt_14 (nI_toInt (by omega)) (fun q => ?_) (fun q => ?_)
    · have e14 : t = 14 := by omega
      subst e14
      refine pq_f (nw p (by omega)) ?_
      exact f_stopw h0 ⟨_, _, _, _, _, _, _, hd⟩ (by omega) (f_b150w hn hn24 hFr h0 hr ⟨_, _, _, _, _, _, _, hd⟩ h8 hV0 (KO_shp hK) (by omega) (z := adk 14 (aL T (14 - 14) p S)) rfl rfl)
    · refine pq_gR h0 rfl (pq_sb (pq_ck (pq_call (f_readAct (f := f) (n := n) hn24 hr hd hp) (fun y hy => ?_))))
      obtain ⟨f1, n1, hn1, hF1, hm⟩ := hy
      have eA : aL T (14 - t) p S = aSt T p S (aL T (13 - t)) (rdA T p) := by rw [show 14 - t = (13 - t) + 1 by omega]; rfl
      have h01 : f1 0 = some (.inr (8, pfL hi ag pc wn fp)) := (hF1 0 (by omega) (by omega)).trans h0
      have hFr1 : FRb n0 f0 f1 := frb_tr hFr (fun j a b c d e g h i k => hF1 j a h) hn
      have hr1 : isRw f1 1 2 400 T := rw_tr hr (hF1 _ (by omega) (by omega)) (hF1 _ (by omega) (by omega))
      have im1 : ∀ j, IMM n j → f1 j = f j := fun j hj => hF1 j (IMM_lt hj hn24) (by have := IMM_1 hj; omega)
      have h81 : STT f1 n1 8 S0 := STT_tr h8 (hF1 _ (by omega) (by omega)) (hF1 _ (by omega) (by omega)) (hF1 _ (by omega) (by omega)) im1 hn1
      have hK1 : KO f1 n1 S := KO_tr hK (fun j hj => hF1 j (by rcases hj with q | q | q | q <;> first | omega | exact IMM_lt q hn24) (by rcases hj with q | q | q | q <;> first | omega | (have := IMM_1 q; omega))) hn1
      cases hA : rdA T p with
      | inl w =>
        rw [hA] at hm eA
        obtain ⟨rfl, hd1⟩ := hm
        have hw := rdA_w hp hA
        refine pq_f (nw w (by omega)) ?_
        refine f_stopw h01 hd1 (by omega) (f_b150w (by omega) (by omega) hFr1 h01 hr1 hd1 h81 hV0 (KO_shp hK1) (by omega) (z := adk t (aL T (14 - t) p S)) ?_ ?_)
        · rw [eA]; rfl
        · rw [eA]; rfl
      | inr z =>
        rw [hA] at hm eA
        obtain ⟨rfl, x1, y1, wd1, nm1, hd1, hx1, hy1, hw1⟩ := hm
        obtain ⟨zr, z0, z1, z5, zp⟩ := rdA_ok hp hA
        refine pq_t rfl ?_
        refine pq_gR h01 rfl (pq_sb (pq_gI hd1 rfl (pq_gR h01 rfl (pq_sb (pq_gI hd1 rfl (pq_gR h01 rfl (pq_sb (pq_gI hd1 rfl (pq_gR h01 rfl (pq_sb (pq_gRw hd1 rfl (pq_ck ?_))))))))))))
        have zlt : ∀ c : Nat, c < 12 → ¬ z.1 = nI c → True := fun _ _ _ => trivial
        clear zlt
        have hARG : ARG f1 n1 z.1 x1 wd1 z.2.2.2.1 := by
          refine ⟨fun q => ?_, fun q => ?_, fun q => ?_, fun q => hw1 q, fun q => ?_⟩
          · rw [hx1 (Or.inl q)]; exact i32_03 (z0 q)
          · rw [hx1 (Or.inr (Or.inl q))]; exact Or.inr (i32_03 (z1 q))
          · rw [hx1 (Or.inr (Or.inr (Or.inl q)))]; exact z5 q
          · exfalso
            obtain ⟨k, hk, e⟩ := zr
            have h : k = 0 ∨ k = 1 ∨ k = 2 ∨ k = 3 ∨ k = 4 ∨ k = 5 ∨ k = 6 ∨ k = 7 ∨ k = 8 ∨ k = 9 ∨ k = 10 ∨ k = 11 := by omega
            obtain ⟨g0, g1, g2, g3, g4, g5, g6, g7, g8, g9, g10, g11⟩ := q
            rcases h with rfl | rfl | rfl | rfl | rfl | rfl | rfl | rfl | rfl | rfl | rfl | rfl
            · exact g0 e
            · exact g1 e
            · exact g2 e
            · exact g3 e
            · exact g4 e
            · exact g5 e
            · exact g6 e
            · exact g7 e
            · exact g8 e
            · exact g9 e
            · exact g10 e
            · exact g11 e
        refine pq_call (f_doAct (f := f1) (n := n1) (S := S) (y := y1) (w := z.2.2.2.1) (by omega) h01 hK1 hV hARG) (fun y hy => ?_)
        rw [dA_ir zr hx1 hy1] at hy
        obtain ⟨f2, n2, rfl, hn2, h02, hFr2, hS2, hK2⟩ := hy
        have hFr02 : FRb n0 f0 f2 := frb_tr hFr1 (frb_a hFr2) (by omega)
        have hr2 : isRw f2 1 2 400 T := rw_tr hr1 (hFr2 _ (by omega) (by omega) (by omega) (by omega) (by omega) (by omega) (by omega)) (hFr2 _ (by omega) (by omega) (by omega) (by omega) (by omega) (by omega) (by omega))
        have hd2 : f2 178 = some (.inr (4, rdV 1 (nI z.2.2.2.2) z.1 x1 y1 wd1 nm1)) := (hFr2 _ (by omega) (by omega) (by omega) (by omega) (by omega) (by omega) (by omega)).trans hd1
        have h82 : STT f2 n2 8 S0 := STT_frb h81 sid8 (by omega) (frb_a hFr2) (by omega) hn2
        by_cases hc : (dA S z.1 z.2.1 z.2.2.1 z.2.2.2.1).1 = 0
        · have hK2' := hK2 (by rw [hc]; decide)
          have hV2 : SV (dA S z.1 z.2.1 z.2.2.1 z.2.2.2.1).2 := dA_SV hK.1.2.2.2.2 hV
          refine pq_t hc (pq_gR h02 rfl (pq_sb (pq_ck (pq_call (f_behind (f := f2) (n := n2) hr2 hd2 zp) (fun y hy => ?_)))))
          obtain ⟨f3, hF3, hcase⟩ := hy
          have h03 : f3 0 = some (.inr (8, pfL hi 0 pc wn fp)) := (hF3 0 (by omega)).trans h02
          have hFr3 : FRb n0 f0 f3 := frb_tr hFr02 (n' := n2) (fun j a b c d e g h i k => hF3 j h) (by omega)
          have hr3 : isRw f3 1 2 400 T := rw_tr hr2 (hF3 _ (by omega)) (hF3 _ (by omega))
          have im3 : ∀ j, IMM n2 j → f3 j = f2 j := fun j hj => hF3 j (by have := IMM_1 hj; omega)
          have h83 : STT f3 n2 8 S0 := STT_tr h82 (hF3 _ (by omega)) (hF3 _ (by omega)) (hF3 _ (by omega)) im3 (Nat.le_refl _)
          have hK3 : KO f3 n2 (dA S z.1 z.2.1 z.2.2.1 z.2.2.2.1).2 := KO_tr hK2' (fun j hj => hF3 j (by rcases hj with q | q | q | q <;> first | omega | (have := IMM_1 q; omega))) (Nat.le_refl _)
          have eA2 : aL T (14 - t) p S = if nB T z.2.2.2.2 < T.length then (if T.getD (nB T z.2.2.2.2) 0 = 59 then (fun q : AR => (q.1, q.2.1, q.2.2.1 + 1, q.2.2.2)) (aL T (13 - t) (nB T (nB T z.2.2.2.2 + 1)) (dA S z.1 z.2.1 z.2.2.1 z.2.2.2.1).2) else (some (nB T z.2.2.2.2), 0, 0, S)) else (none, 0, 1, (dA S z.1 z.2.1 z.2.2.1 z.2.2.2.1).2) := eA.trans (if_pos hc)
          rcases hcase with ⟨c1, rfl, hd3⟩ | ⟨c1, c2, rfl, hd3⟩ | ⟨c1, c2, rfl, hd3⟩
          · show PQ (mX8_acts_l28 d 0 (nI t + 1) (-1) (nI t + 1) f3 n2) _
            rw [nI_1]
            rw [if_neg (by omega)] at eA2
            refine f_stopn h03 hd3 (f_b150n (by omega) hFr3 h03 hr3 ⟨_, _, _, _, _, _, _, hd3⟩ hK3 hV2 (k := t + 1) (by omega) (fun q => by omega) (fun _ => rfl) (fun q => by omega) (z := adk t (aL T (14 - t) p S)) ?_ ?_ ?_)
            · rw [eA2]; rfl
            · rw [eA2]; show 1 + t = t + 1; omega
            · rw [eA2]; rfl
          · show PQ (mX8_acts_l28 d 0 (nI t + 1) (-1) (nI t + 1) f3 n2) _
            rw [nI_1]
            rw [if_pos c1, if_pos c2] at eA2
            have e9 : adk t (aL T (14 - t) p S) = adk (t + 1) (aL T (14 - (t + 1)) (nB T (nB T z.2.2.2.2 + 1)) (dA S z.1 z.2.1 z.2.2.1 z.2.2.2.1).2) := by
              rw [eA2, show 14 - (t + 1) = 13 - t by omega]
              unfold adk
              dsimp only
              rw [Nat.add_assoc, Nat.add_comm 1 t]
            rw [e9]
            exact ih (t + 1) _ f3 n2 _ 0 fp _ _ _ _ _ (by omega) (nB_le (by omega)) (by omega) hFr3 h03 (fun _ => rfl) (fun q => by omega) hr3 hd3 h83 hK3 hV2
          · show PQ (mX8_acts_l28 d 0 (nI t + 1) (nI (nB T z.2.2.2.2)) (nI t + 1) f3 n2) _
            rw [if_pos c1, if_neg c2] at eA2
            refine f_stopw h03 hd3 (by omega) (f_b150w (by omega) (by omega) hFr3 h03 hr3 hd3 h83 hV0 (KO_shp hK3) (by omega) (z := adk t (aL T (14 - t) p S)) ?_ ?_)
            · rw [eA2]; rfl
            · rw [eA2]; rfl
        · have eA2 : aL T (14 - t) p S = (some p, (dA S z.1 z.2.1 z.2.2.1 z.2.2.2.1).1, 0, S) := eA.trans (if_neg hc)
          refine pq_f hc (pq_pO h02 rfl ?_)
          have h03 : va_up f2 0 (some (.inr (8, (pfL hi 0 pc wn fp).set 12 (.int (dA S z.1 z.2.1 z.2.2.1 z.2.2.2.1).1)))) 0 = some (.inr (8, pfL hi 0 pc (dA S z.1 z.2.1 z.2.2.1 z.2.2.2.1).1 fp)) := u_eq
          have hF3 : ∀ j, j ≠ 0 → va_up f2 0 (some (.inr (8, (pfL hi 0 pc wn fp).set 12 (.int (dA S z.1 z.2.1 z.2.2.1 z.2.2.2.1).1)))) j = f2 j := fun j hj => u_ne hj
          show PQ (mX8_acts_l28 d 0 (nI t) (nI p) (nI t + 1) (va_up f2 0 (some (.inr (8, (pfL hi 0 pc wn fp).set 12 (.int (dA S z.1 z.2.1 z.2.2.1 z.2.2.2.1).1))))) n2) _
          generalize va_up f2 0 (some (.inr (8, (pfL hi 0 pc wn fp).set 12 (.int (dA S z.1 z.2.1 z.2.2.1 z.2.2.2.1).1)))) = f3 at h03 hF3 ⊢
          have hFr3 : FRb n0 f0 f3 := frb_tr hFr02 (n' := n2) (fun j a b c d e g h i k => hF3 j b) (by omega)
          have hr3 : isRw f3 1 2 400 T := rw_tr hr2 (hF3 _ (by omega)) (hF3 _ (by omega))
          have im3 : ∀ j, IMM n2 j → f3 j = f2 j := fun j hj => hF3 j (IMM_1 hj).1
          have h83 : STT f3 n2 8 S0 := STT_tr h82 (hF3 _ (by omega)) (hF3 _ (by omega)) (hF3 _ (by omega)) im3 (Nat.le_refl _)
          have hH2 : SHP f2 := by
            by_cases h3 : (dA S z.1 z.2.1 z.2.2.1 z.2.2.2.1).1 = 3
            · exact hS2 h3
            · exact KO_shp (hK2 h3)
          have hH3 : SHP f3 := ⟨SSh_tr hH2.1 (hF3 _ (by omega)) (hF3 _ (by omega)) (hF3 _ (by omega)), CSh_tr hH2.2.1 (fun i a b => hF3 i (by omega)), BSh_tr hH2.2.2 (fun i a b => hF3 i (by omega))⟩
          have hd3 : rdAny (f3 178) := by rw [hF3 178 (by omega)]; exact ⟨_, _, _, _, _, _, _, hd2⟩
          refine f_stopw h03 hd3 (by omega) (f_b150w (by omega) (by omega) hFr3 h03 hr3 hd3 h83 hV0 hH3 (by omega) (z := adk t (aL T (14 - t) p S)) ?_ ?_)
          · rw [eA2]; rfl
          · rw [eA2]; exact (if_neg hc).symm
end ALQ
end
/-! part 59a.rel -/
section
/-! all of the class's object -/
abbrev SPV : Type := BL × SST × List SST × Option SST × Int32 × Int32
def rdG (v : Option AE) : Prop := ∃ du p a x y wd nm tx, v = some (.inr (4, [.int du, .int p, .int a, .int x, .int y, va_rf wd, .int nm, .ref tx]))
theorem rdG_of {v : Option AE} (h : rdAny v) : rdG v := by
  obtain ⟨du, p, a, x, y, wd, nm, e⟩ := h
  exact ⟨du, p, a, x, y, wd, nm, 1, e⟩
def PST (f : AH) (n : Nat) (P : List SST) : Prop := P.length ≤ 8 ∧ ∃ g : Nat → Option Nat, f 18 = some (.inl (3, 8, .inr (.inr g))) ∧ (∀ i, i < 8 → ∃ s, g i = some s ∧ SID s ∧ 19 ≤ s ∧ SSh f s ∧ ∀ Q, P[i]? = some Q → STT f n s Q ∧ SV Q) ∧ ∀ i k, i < 8 → k < 8 → g i = g k → i = k
def RS (f : AH) (n : Nat) (P : List SST) (I : Option SST) : Prop := SSh f 8 ∧ (SSh f 13 ∧ ∀ Q, I = some Q → STT f n 13 Q ∧ SV Q) ∧ PST f n P ∧ CSh f 115
theorem sid13 : SID 13 := by unfold SID; omega
theorem SSh_frb {n s : Nat} {f f' : AH} (h : SSh f s) (hs : SID s) (h3 : s ≠ 3) (hF : FRb n f f') (hn : 224 ≤ n) : SSh f' s := by
  have h1 := SID_lt hs
  have h2 : 8 ≤ s := by unfold SID at hs; omega
  exact SSh_tr h (hF _ (by omega) (by omega) (by omega) (by omega) (by omega) (by omega) (by omega) (by omega) (by omega)) (hF _ (by omega) (by omega) (by omega) (by omega) (by omega) (by omega) (by omega) (by omega) (by omega)) (hF _ (by omega) (by omega) (by omega) (by omega) (by omega) (by omega) (by omega) (by omega) (by omega))
theorem PST_frb {n n' : Nat} {f f' : AH} {P : List SST} (h : PST f n P) (hF : FRb n f f') (hn : 224 ≤ n) (hn' : n ≤ n') : PST f' n' P := by
  obtain ⟨h1, g, h2, h3, h4⟩ := h
  refine ⟨h1, g, (hF _ (by omega) (by omega) (by omega) (by omega) (by omega) (by omega) (by omega) (by omega) (by omega)).trans h2, fun i hi => ?_, h4⟩
  obtain ⟨s, e1, e2, e3, e4, e5⟩ := h3 i hi
  exact ⟨s, e1, e2, e3, SSh_frb e4 e2 (by omega) hF hn, fun Q hQ => ⟨STT_frb (e5 Q hQ).1 e2 (by omega) hF hn hn', (e5 Q hQ).2⟩⟩
theorem RS_frb {n n' : Nat} {f f' : AH} {P : List SST} {I : Option SST} (h : RS f n P I) (hF : FRb n f f') (hn : 224 ≤ n) (hn' : n ≤ n') : RS f' n' P I := ⟨SSh_frb h.1 sid8 (by omega) hF hn, ⟨SSh_frb h.2.1.1 sid13 (by omega) hF hn, fun Q hQ => ⟨STT_frb (h.2.1.2 Q hQ).1 sid13 (by omega) hF hn hn', (h.2.1.2 Q hQ).2⟩⟩, PST_frb h.2.2.1 hF hn hn', CSh_tr h.2.2.2 (fun i a b => hF i (by omega) (by omega) (by omega) (by omega) (by omega) (by omega) (by omega) (by omega) (by omega))⟩
def RC (f : AH) (n : Nat) (V : SPV) : Prop := 224 ≤ n ∧ (∃ ag, f 0 = some (.inr (8, pfL (bI V.2.2.2.1.isSome) ag (nI V.2.2.1.length) V.2.2.2.2.1 V.2.2.2.2.2)) ∧ (ag ≠ 0 → CUT f 115 (pcs V.2.1.2.1 (bltS V.2.1)))) ∧ isRw f 1 2 400 V.1 ∧ (KO f n V.2.1 ∧ SV V.2.1) ∧ RS f n V.2.2.1 V.2.2.2.1 ∧ rdG (f 178)
/-- what is remembered, one more -/
def sRem (P : List SST) (S0 : SST) : List SST := if P.length = 8 then P.drop 1 ++ [S0] else P ++ [S0]
def sCall (V : SPV) (r : Int32 × SST) : SPV := if r.1 = 0 then (V.1, r.2, sRem V.2.2.1 V.2.1, V.2.2.2.1, 0, V.2.2.2.2.2) else (V.1, V.2.1, V.2.2.1, V.2.2.2.1, r.1, V.2.2.2.2.2)
section REM
variable {n : Nat} {hi ag pc wn fp : Int32}
theorem f_oldest {f : AH} {g : Nat → Option Nat} (hp : f 0 = some (.inr (8, pfL hi ag pc wn fp))) (h18 : f 18 = some (.inl (3, 8, .inr (.inr g)))) : PQ (mX8_forgetOldest 0 f n) (fun y => ∃ f' g', y = (0, f', n) ∧ f' 18 = some (.inl (3, 8, .inr (.inr g'))) ∧ (∀ i, i < 7 → g' i = g (i + 1)) ∧ g' 7 = g 0 ∧ f' 0 = some (.inr (8, pfL hi ag 7 wn fp)) ∧ ∀ j, j ≠ 0 → j ≠ 18 → f' j = f j) := by
  have key : ∀ (d i : Nat) (f1 : AH) (g1 : Nat → Option Nat), f1 0 = some (.inr (8, pfL hi ag pc wn fp)) → f1 18 = some (.inl (3, 8, .inr (.inr g1))) → i ≤ 7 → (∀ k, k < i → g1 k = g (k + 1)) → (∀ k, i ≤ k → g1 k = g k) → (∀ j, j ≠ 0 → j ≠ 18 → f1 j = f j) → PQ (mX8_forgetOldest_l22 d 0 7 (g 0) (nI i) f1 n) (fun y => ∃ f' g', y = (0, f', n) ∧ f' 18 = some (.inl (3, 8, .inr (.inr g'))) ∧ (∀ i, i < 7 → g' i = g (i + 1)) ∧ g' 7 = g 0 ∧ f' 0 = some (.inr (8, pfL hi ag 7 wn fp)) ∧ ∀ j, j ≠ 0 → j ≠ 18 → f' j = f j) := by
    intro d
    induction d with
    | zero => intro i f1 g1 _ _ _ _ _ _; exact pq_none
    | succ d ih =>
      intro i f1 g1 h0 h8 hi7 hlo hhi hF
      unfold mX8_forgetOldest_l22
      refine pq_le kt_7 (nI_toInt (by omega)) (fun q => ?_) (fun q => ?_)
      · have e : i = 7 := by omega
        refine pq_gR h0 rfl (pq_sb (pq_pRA h8 (fun _ => ?_)))
        rw [show (7 : Int32).toNatClampNeg = 7 from rfl]
        have h02 : va_up f1 18 (some (.inl (3, 8, .inr (.inr (va_up g1 7 (g 0)))))) 0 = some (.inr (8, pfL hi ag pc wn fp)) := (u_ne (by omega)).trans h0
        refine pq_pO h02 rfl (pq_ret ⟨_, va_up g1 7 (g 0), rfl, (u_ne (by omega)).trans u_eq, fun k hk => ?_, u_eq, u_eq, fun j a b => (u_ne a).trans ((u_ne b).trans (hF j a b))⟩)
        rw [u_ne (by omega)]; exact hlo k (by omega)
      · refine pq_gR h0 rfl (pq_gR h0 rfl (pq_sb ?_))
        rw [nI_1]
        refine pq_gRA h8 (fun _ => pq_sb (pq_pRA h8 (fun _ => ?_)))
        rw [nI_clamp (by omega), nI_clamp (by omega)]
        refine ih (i + 1) _ _ ((u_ne (by omega)).trans h0) u_eq (by omega) (fun k hk => ?_) (fun k hk => ?_) (fun j a b => (u_ne b).trans (hF j a b))
        · by_cases e : k = i
          · rw [e, u_eq]; exact hhi (i + 1) (by omega)
          · rw [u_ne e]; exact hlo k (by omega)
        · rw [u_ne (by omega)]; exact hhi k (by omega)
  unfold mX8_forgetOldest
  refine pq_gR hp rfl (pq_sb (pq_gL h18 (by omega) ?_))
  rw [show nI 8 - (1 : Int32) = 7 by decide]
  refine pq_t (by decide) (pq_gR hp rfl (pq_sb (pq_gRA h18 (fun _ => ?_))))
  exact key rFU 0 f g hp h18 (by omega) (fun k hk => absurd hk (Nat.not_lt_zero _)) (fun k _ => rfl) (fun _ _ _ => rfl)
theorem f_rem16 {f : AH} {P : List SST} {S0 : SST} {m : Nat} {g : Nat → Option Nat} (hn : 224 ≤ n) (hp : f 0 = some (.inr (8, pfL hi ag (nI m) wn fp))) (hm : m < 8) (hP : P.length = m) (h18 : f 18 = some (.inl (3, 8, .inr (.inr g)))) (h3 : ∀ i, i < 8 → ∃ s, g i = some s ∧ SID s ∧ 19 ≤ s ∧ SSh f s ∧ ∀ Q, P[i]? = some Q → STT f n s Q ∧ SV Q) (h4 : ∀ i k, i < 8 → k < 8 → g i = g k → i = k) (h8 : STT f n 8 S0) (hV : SV S0) : PQ (mX8_rememberAhead_b16 0 f n) (fun y => ∃ f', y = (0, f', n) ∧ f' 0 = some (.inr (8, pfL hi ag (nI (m + 1)) wn fp)) ∧ PST f' n (P ++ [S0]) ∧ ∀ j, j ≠ 0 → (j < 18 ∨ 59 ≤ j ∨ IMM n j) → f' j = f j) := by
  obtain ⟨s, e1, e2, e3, e4, -⟩ := h3 m hm
  have hs := SID_lt e2
  unfold mX8_rememberAhead_b16
  refine pq_gI hp rfl (pq_f (nI_pos (by omega)) (pq_gI hp rfl (pq_gR hp rfl (pq_sb (pq_gL h18 (by omega) (pq_le (nI_toInt (by omega)) (nI_toInt (by omega)) (fun q => by omega) (fun _ => ?_)))))))
  refine pq_gR hp rfl (pq_gI hp rfl (pq_sb (pq_gRA h18 (fun _ => ?_))))
  rw [nI_clamp (by omega), e1]
  refine pq_oNs (pq_gR hp rfl (pq_gI hp rfl (pq_sb (pq_gRA h18 (fun _ => pq_gR hp rfl ?_)))))
  rw [nI_clamp (by omega), e1]
  refine pq_sb (pq_ck (pq_call (f_copy (f := f) (n := n) e2 sid8 (by omega) e4 h8) (fun y hy => ?_)))
  obtain ⟨f1, rfl, k1, k2⟩ := hy
  have hp1 : f1 0 = some (.inr (8, pfL hi ag (nI m) wn fp)) := (k2 0 (by omega) (by omega) (by omega)).trans hp
  refine pq_gI hp1 rfl (pq_pO hp1 rfl (pq_ret ?_))
  have hF2 : ∀ j, j ≠ 0 → va_up f1 0 (some (.inr (8, (pfL hi ag (nI m) wn fp).set 11 (.int (nI m + 1))))) j = f1 j := fun j hj => u_ne hj
  have h02 : va_up f1 0 (some (.inr (8, (pfL hi ag (nI m) wn fp).set 11 (.int (nI m + 1))))) 0 = some (.inr (8, pfL hi ag (nI (m + 1)) wn fp)) := by rw [← nI_1]; exact u_eq
  refine ⟨_, rfl, h02, ?_, fun j a b => (hF2 j a).trans ?_⟩
  rotate_left
  · rcases b with b | b | b
    · exact k2 j (by omega) (by omega) (by omega)
    · exact k2 j (by omega) (by omega) (by omega)
    · have := IMM_ne b e2
      exact k2 j this.1 this.2.1 this.2.2
  generalize va_up f1 0 (some (.inr (8, (pfL hi ag (nI m) wn fp).set 11 (.int (nI m + 1))))) = f2 at hF2 ⊢
  have im2 : ∀ j, IMM n j → f2 j = f1 j := fun j hj => hF2 j (IMM_1 hj).1
  refine ⟨by rw [List.length_append]; show P.length + 1 ≤ 8; omega, g, (hF2 _ (by omega)).trans ((k2 _ (by omega) (by omega) (by omega)).trans h18), fun i hi => ?_, h4⟩
  obtain ⟨s', c1, c2, c3, c4, c5⟩ := h3 i hi
  by_cases ei : i = m
  · subst ei
    have es : s' = s := Option.some.inj (c1.symm.trans e1)
    subst es
    refine ⟨s', c1, c2, c3, SSh_tr (STT_sh k1) (hF2 _ (by omega)) (hF2 _ (by omega)) (hF2 _ (by omega)), fun Q hQ => ?_⟩
    rw [List.getElem?_append_right (by omega), hP, Nat.sub_self] at hQ
    cases hQ
    exact ⟨STT_tr k1 (hF2 _ (by omega)) (hF2 _ (by omega)) (hF2 _ (by omega)) im2 (Nat.le_refl _), hV⟩
  · have hne : s' ≠ s := fun q => ei (h4 i m hi hm (by rw [c1, e1, q]))
    have hd := SID_ne c2 e2 hne
    have hs' := SID_lt c2
    have im1 : ∀ j, IMM n j → f1 j = f j := fun j hj => by
      have := IMM_ne hj e2
      exact k2 j this.1 this.2.1 this.2.2
    refine ⟨s', c1, c2, c3, SSh_tr c4 ((hF2 _ (by omega)).trans (k2 _ (by omega) (by omega) (by omega))) ((hF2 _ (by omega)).trans (k2 _ (by omega) (by omega) (by omega))) ((hF2 _ (by omega)).trans (k2 _ (by omega) (by omega) (by omega))), fun Q hQ => ?_⟩
    have hil : i < P.length := by
      rcases Nat.lt_or_ge i P.length with h | h
      · exact h
      · rw [List.getElem?_append_right h, List.getElem?_eq_none (by show 1 ≤ i - P.length; omega)] at hQ
        cases hQ
    rw [List.getElem?_append_left hil] at hQ
    have := c5 Q hQ
    exact ⟨STT_tr this.1 ((hF2 _ (by omega)).trans (k2 _ (by omega) (by omega) (by omega))) ((hF2 _ (by omega)).trans (k2 _ (by omega) (by omega) (by omega))) ((hF2 _ (by omega)).trans (k2 _ (by omega) (by omega) (by omega))) (fun j hj => (im2 j hj).trans (im1 j hj)) (Nat.le_refl _), this.2⟩
theorem f_remember {f : AH} {P : List SST} {S0 : SST} (hn : 224 ≤ n) (hp : f 0 = some (.inr (8, pfL hi ag (nI P.length) wn fp))) (hP : PST f n P) (h8 : STT f n 8 S0) (hV : SV S0) : PQ (mX8_rememberAhead 0 f n) (fun y => ∃ f', y = (0, f', n) ∧ f' 0 = some (.inr (8, pfL hi ag (nI (sRem P S0).length) wn fp)) ∧ PST f' n (sRem P S0) ∧ ∀ j, j ≠ 0 → (j < 18 ∨ 59 ≤ j ∨ IMM n j) → f' j = f j) := by
  obtain ⟨p1, g, p2, p3, p4⟩ := hP
  unfold mX8_rememberAhead
  refine pq_gI hp rfl (pq_gR hp rfl (pq_sb (pq_gL p2 (by omega) (pq_lt (nI_toInt (by omega)) (nI_toInt (by omega)) (fun q => ?_) (fun q => ?_)))))
  · have e : sRem P S0 = P ++ [S0] := if_neg (by omega)
    rw [e, List.length_append]
    exact f_rem16 hn hp (by omega) rfl p2 p3 p4 h8 hV
  · have e8 : P.length = 8 := by omega
    have e : sRem P S0 = P.drop 1 ++ [S0] := if_pos e8
    rw [e]
    refine pq_ck (pq_call (f_oldest (f := f) (n := n) hp p2) (fun y hy => ?_))
    obtain ⟨f1, g1, rfl, a1, a2, a3, a4, a5⟩ := hy
    have hlen : (P.drop 1).length = 7 := by rw [List.length_drop]; omega
    have im1 : ∀ j, IMM n j → f1 j = f j := fun j hj => a5 j (IMM_1 hj).1 (IMM_1 hj).2.2.2.1
    have h81 : STT f1 n 8 S0 := STT_tr h8 (a5 _ (by omega) (by omega)) (a5 _ (by omega) (by omega)) (a5 _ (by omega) (by omega)) im1 (Nat.le_refl _)
    have hg : ∀ i, i < 8 → ∃ k, k < 8 ∧ g1 i = g k ∧ ((i < 7 ∧ k = i + 1) ∨ (i = 7 ∧ k = 0)) := fun i hi => by
      by_cases h7 : i < 7
      · exact ⟨i + 1, by omega, a2 i h7, Or.inl ⟨h7, rfl⟩⟩
      · have : i = 7 := by omega
        subst this
        exact ⟨0, by omega, a3, Or.inr ⟨rfl, rfl⟩⟩
    have p31 : ∀ i, i < 8 → ∃ s, g1 i = some s ∧ SID s ∧ 19 ≤ s ∧ SSh f1 s ∧ ∀ Q, (P.drop 1)[i]? = some Q → STT f1 n s Q ∧ SV Q := fun i hi => by
      obtain ⟨k, k1, k2, k3⟩ := hg i hi
      obtain ⟨s, c1, c2, c3, c4, c5⟩ := p3 k k1
      have hs := SID_lt c2
      have hs2 : s ≠ 18 ∧ s + 3 ≠ 18 ∧ s + 4 ≠ 18 := by omega
      refine ⟨s, k2.trans c1, c2, c3, SSh_tr c4 (a5 _ (by omega) (by omega)) (a5 _ (by omega) (by omega)) (a5 _ (by omega) (by omega)), fun Q hQ => ?_⟩
      rw [List.getElem?_drop] at hQ
      have hQ2 : P[k]? = some Q := by
        rcases k3 with ⟨-, rfl⟩ | ⟨rfl, rfl⟩
        · rw [Nat.add_comm] at hQ; exact hQ
        · rw [List.getElem?_eq_none (by omega)] at hQ; cases hQ
      have := c5 Q hQ2
      exact ⟨STT_tr this.1 (a5 _ (by omega) (by omega)) (a5 _ (by omega) (by omega)) (a5 _ (by omega) (by omega)) im1 (Nat.le_refl _), this.2⟩
    have p41 : ∀ i k, i < 8 → k < 8 → g1 i = g1 k → i = k := fun i k hi hk h => by
      obtain ⟨i', i1, i2, i3⟩ := hg i hi
      obtain ⟨k', k1, k2, k3⟩ := hg k hk
      have := p4 i' k' i1 k1 (by rw [← i2, ← k2]; exact h)
      omega
    rw [List.length_append, hlen]
    refine pq_tail (f_rem16 (f := f1) (n := n) (m := 7) (P := P.drop 1) hn a4 (by omega) hlen a1 p31 p41 h81 hV) (fun y hy => ?_)
    obtain ⟨f2, rfl, b1, b2, b3⟩ := hy
    exact ⟨f2, rfl, b1, b2, fun j x1 x2 => (b3 j x1 x2).trans (a5 j x1 (by rcases x2 with q | q | q <;> first | omega | exact (IMM_1 q).2.2.2.1))⟩
end REM
end
/-! part 59b.call -/
section
/-! the class's calls -/
def PRE (f : AH) (n : Nat) (V : SPV) : Prop := RC f n V ∧ STT f n 8 V.2.1
theorem rf_if {c : Prop} {d : Decidable c} {A B : Int32 × SST} {S : SST} (h1 : A.1 ≠ 0 → A.2 = S) (h2 : B.1 ≠ 0 → B.2 = S) : (@ite _ c d A B).1 ≠ 0 → (@ite _ c d A B).2 = S := by
  by_cases h : c
  · rw [if_pos h]; exact h1
  · rw [if_neg h]; exact h2
theorem rf_0 {S S' : SST} : ((0 : Int32), S').1 ≠ 0 → ((0 : Int32), S').2 = S := fun q => absurd rfl q
theorem rf_S {S : SST} {c : Int32} : (c, S).1 ≠ 0 → (c, S).2 = S := fun _ => rfl
theorem fin_ref {S S1 : SST} : (finA S S1).1 ≠ 0 → (finA S S1).2 = S := rf_if rf_S rf_0
theorem spA_ref {S : SST} {p : Int32} : (spA S p).1 ≠ 0 → (spA S p).2 = S := by
  unfold spA
  refine rf_if ?_ rf_S
  split
  · exact rf_S
  · exact rf_if rf_S fin_ref
theorem dA_ref {S : SST} {a x y : Int32} {w : BL} : (dA S a x y w).1 ≠ 0 → (dA S a x y w).2 = S := rf_if rf_0 (rf_if rf_0 (rf_if rf_0 (rf_if rf_0 (rf_if rf_0 (rf_if rf_0 (rf_if (rf_if rf_0 rf_S) (rf_if rf_0 (rf_if (rf_if (rf_if rf_S fin_ref) rf_S) (rf_if spA_ref (rf_if (rf_if (rf_if rf_S (rf_if rf_S (rf_if rf_S fin_ref))) rf_S) (rf_if (rf_if rf_S rf_0) (rf_if (rf_if rf_S (rf_if rf_S rf_0)) rf_S))))))))))))
section CLL
variable {f : AH} {n : Nat} {V : SPV}
theorem RC_p (h : RC f n V) : ∃ ag, f 0 = some (.inr (8, pfL (bI V.2.2.2.1.isSome) ag (nI V.2.2.1.length) V.2.2.2.2.1 V.2.2.2.2.2)) := by
  obtain ⟨-, ⟨ag, h1, -⟩, -⟩ := h
  exact ⟨ag, h1⟩
/-- what is ahead is put aside -/
theorem f_prep {β : Type} {Q : β → Prop} {k : Int32 × HpN → Option β} (h : RC f n V) (hk : ∀ f', PRE f' n V → (∀ j, IMM n j → f' j = f j) → PQ (k (0, f', n)) Q) : PQ ((gR f 0 8 2).bind fun x1 => ((gR f 0 8 1).bind fun x2 => ((x1).bind fun j3 => rCk (isO f j3 7) (((mX7_copyFrom j3 x2 f n).bind k))))) Q := by
  obtain ⟨hn, ⟨ag, hp, hag⟩, hT, ⟨hK, hV⟩, ⟨h8, ⟨h13, hI⟩, hP, hC⟩, hR⟩ := h
  refine pq_gR hp rfl (pq_gR hp rfl (pq_sb (pq_ck (pq_call (f_copy (f := f) (n := n) sid8 sid3 (by omega) h8 hK.1) (fun y hy => ?_)))))
  obtain ⟨f', rfl, k1, k2⟩ := hy
  have im : ∀ j, IMM n j → f' j = f j := fun j hj => by
    have := IMM_ne hj sid8
    exact k2 j this.1 this.2.1 this.2.2
  refine hk f' ⟨⟨hn, ⟨ag, (k2 _ (by omega) (by omega) (by omega)).trans hp, fun q => CUT_tr (hag q) (fun i a b => k2 i (by omega) (by omega) (by omega))⟩, rw_tr hT (k2 _ (by omega) (by omega) (by omega)) (k2 _ (by omega) (by omega) (by omega)), ⟨KO_tr hK (fun j hj => ?_) (Nat.le_refl _), hV⟩, ⟨STT_sh k1, ⟨SSh_tr h13 (k2 _ (by omega) (by omega) (by omega)) (k2 _ (by omega) (by omega) (by omega)) (k2 _ (by omega) (by omega) (by omega)), fun Q hQ => ⟨STT_tr (hI Q hQ).1 (k2 _ (by omega) (by omega) (by omega)) (k2 _ (by omega) (by omega) (by omega)) (k2 _ (by omega) (by omega) (by omega)) im (Nat.le_refl _), (hI Q hQ).2⟩⟩, ?_, CSh_tr hC (fun i a b => k2 i (by omega) (by omega) (by omega))⟩, ?_⟩, k1⟩ im
  · rcases hj with q | q | q | q
    · exact k2 j (by omega) (by omega) (by omega)
    · exact k2 j (by omega) (by omega) (by omega)
    · exact k2 j (by omega) (by omega) (by omega)
    · exact im j q
  · obtain ⟨p1, g, p2, p3, p4⟩ := hP
    refine ⟨p1, g, (k2 _ (by omega) (by omega) (by omega)).trans p2, fun i hi => ?_, p4⟩
    obtain ⟨s, e1, e2, e3, e4, e5⟩ := p3 i hi
    exact ⟨s, e1, e2, e3, SSh_tr e4 (k2 _ (by omega) (by omega) (by omega)) (k2 _ (by omega) (by omega) (by omega)) (k2 _ (by omega) (by omega) (by omega)), fun Q hQ => ⟨STT_tr (e5 Q hQ).1 (k2 _ (by omega) (by omega) (by omega)) (k2 _ (by omega) (by omega) (by omega)) (k2 _ (by omega) (by omega) (by omega)) im (Nat.le_refl _), (e5 Q hQ).2⟩⟩
  · rw [k2 178 (by omega) (by omega) (by omega)]; exact hR
/-- an act is done, then the call is finished -/
theorem f_dofin {β : Type} {Q : (β ⊕ String) × HpN → Prop} {k : (Int32 ⊕ String) × HpN → Option ((β ⊕ String) × HpN)} {a x y : Int32} {jw : Option Nat} {w : BL} (h : PRE f n V) (hA : ARG f n a x jw w) (hk : ∀ f' n', RC f' n' (sCall V (dA V.2.1 a x y w)) → PQ (k (if (dA V.2.1 a x y w).1 = 0 then .inl 0 else .inr eS, f', n')) Q) : PQ ((mX8_doAct 0 a x y jw f n).bind fun r2 => rCk (isO r2.2.1 0 8) (((mX8_finishCall 0 r2.1 r2.2.1 r2.2.2).bind k))) Q := by
  obtain ⟨⟨hn, ⟨ag, hp, hag⟩, hT, ⟨hK, hV⟩, hRS, hR⟩, h8⟩ := h
  refine pq_call (f_doAct (f := f) (n := n) (w := w) (y := y) hn hp hK hV hA) (fun y0 hy => ?_)
  have hV2 := dA_SV (a := a) (x := x) (y := y) (w := w) hK.1.2.2.2.2 hV
  have hRef := dA_ref (S := V.2.1) (a := a) (x := x) (y := y) (w := w)
  generalize dA V.2.1 a x y w = r at hy hk hV2 hRef ⊢
  obtain ⟨f1, n1, rfl, hn1, hp1, hFr1, hS1, hK1⟩ := hy
  have hRS1 := RS_frb hRS (frb_a hFr1) hn hn1
  have h81 := STT_frb h8 sid8 (by omega) (frb_a hFr1) hn hn1
  have hT1 : isRw f1 1 2 400 V.1 := rw_tr hT (hFr1 _ (by omega) (by omega) (by omega) (by omega) (by omega) (by omega) (by omega)) (hFr1 _ (by omega) (by omega) (by omega) (by omega) (by omega) (by omega) (by omega))
  have hR1 : rdG (f1 178) := by rw [hFr1 _ (by omega) (by omega) (by omega) (by omega) (by omega) (by omega) (by omega)]; exact hR
  refine pq_ck ?_
  unfold mX8_finishCall
  have hn24 : 224 ≤ n1 := by omega
  show PQ ((((pO f1 0 8 12 (.int r.1)).bind fun f1 => (if r.1 = (3 : Int32) then ((gR f1 0 8 2).bind fun x2 => rCk (isO f1 0 8) (((mX8_restore 0 x2 f1 n1).bind fun r4 => mX8_finishCall_b18 0 r.1 r4.2.1 r4.2.2))) else mX8_finishCall_b18 0 r.1 f1 n1))).bind k) Q
  refine pq_call (Q1 := fun y => ∃ f' n', y = (if r.1 = 0 then .inl 0 else .inr eS, f', n') ∧ RC f' n' (sCall V r)) ?_ (fun y hy => ?_)
  · refine pq_pO hp1 rfl ?_
    have hp2 : va_up f1 0 (some (.inr (8, (pfL (bI V.2.2.2.1.isSome) 0 (nI V.2.2.1.length) V.2.2.2.2.1 V.2.2.2.2.2).set 12 (.int r.1)))) 0 = some (.inr (8, pfL (bI V.2.2.2.1.isSome) 0 (nI V.2.2.1.length) r.1 V.2.2.2.2.2)) := u_eq
    have hF2 : ∀ j, j ≠ 0 → va_up f1 0 (some (.inr (8, (pfL (bI V.2.2.2.1.isSome) 0 (nI V.2.2.1.length) V.2.2.2.2.1 V.2.2.2.2.2).set 12 (.int r.1)))) j = f1 j := fun j hj => u_ne hj
    generalize va_up f1 0 (some (.inr (8, (pfL (bI V.2.2.2.1.isSome) 0 (nI V.2.2.1.length) V.2.2.2.2.1 V.2.2.2.2.2).set 12 (.int r.1)))) = f2 at hp2 hF2 ⊢
    have hFb2 : FRb n1 f1 f2 := fun j _ b _ _ _ _ _ _ _ => hF2 j b
    have hRS2 := RS_frb hRS1 hFb2 hn24 (Nat.le_refl _)
    have h82 := STT_frb h81 sid8 (by omega) hFb2 hn24 (Nat.le_refl _)
    have hT2 : isRw f2 1 2 400 V.1 := rw_tr hT1 (hF2 _ (by omega)) (hF2 _ (by omega))
    have hR2 : rdG (f2 178) := by rw [hF2 _ (by omega)]; exact hR1
    refine pq_eq (fun q3 => ?_) (fun q3 => ?_)
    · have hH := hS1 q3
      have hH2 : SHP f2 := ⟨SSh_tr hH.1 (hF2 _ (by omega)) (hF2 _ (by omega)) (hF2 _ (by omega)), CSh_tr hH.2.1 (fun i a b => hF2 i (by omega)), BSh_tr hH.2.2 (fun i a b => hF2 i (by omega))⟩
      refine pq_gR hp2 rfl (pq_ck (pq_call (f_restore (f := f2) (n := n1) hp2 sid8 (by omega) h82 hH2 hV) (fun y hy => ?_)))
      obtain ⟨f3, rfl, k1, k2, k3⟩ := hy
      have hc : ¬ r.1 = 0 := fun q => by rw [q] at q3; cases q3
      refine pq_f hc (pq_ret ⟨f3, n1, by rw [if_neg hc], ?_⟩)
      unfold sCall
      rw [if_neg hc]
      exact ⟨hn24, ⟨0, k1, fun q => absurd rfl q⟩, rw_tr hT2 (k3 _ (by omega) (by omega) (by omega) (by omega) (by omega) (by omega) (by omega)) (k3 _ (by omega) (by omega) (by omega) (by omega) (by omega) (by omega) (by omega)), ⟨k2, hV⟩, RS_frb hRS2 (frb_a k3) hn24 (Nat.le_refl _), by show rdG (f3 178); rw [k3 _ (by omega) (by omega) (by omega) (by omega) (by omega) (by omega) (by omega)]; exact hR2⟩
    · have hKr := hK1 q3
      have hK2 : KO f2 n1 r.2 := KO_tr hKr (fun j hj => hF2 j (by rcases hj with q | q | q | q <;> first | omega | exact (IMM_1 q).1)) (Nat.le_refl _)
      refine pq_eq (fun q0 => ?_) (fun q0 => ?_)
      · refine pq_ck (pq_call (f_remember (f := f2) (n := n1) hn24 hp2 hRS2.2.2.1 h82 hV) (fun y hy => ?_))
        obtain ⟨f3, rfl, k1, k2, k3⟩ := hy
        refine pq_ret ⟨f3, n1, by rw [if_pos q0], ?_⟩
        unfold sCall
        rw [if_pos q0]
        rw [q0] at k1
        have im3 : ∀ j, IMM n1 j → f3 j = f2 j := fun j hj => k3 j (IMM_1 hj).1 (Or.inr (Or.inr hj))
        refine ⟨hn24, ⟨0, k1, fun q => absurd rfl q⟩, rw_tr hT2 (k3 _ (by omega) (by omega)) (k3 _ (by omega) (by omega)), ⟨KO_tr hK2 (fun j hj => ?_) (Nat.le_refl _), hV2⟩, ⟨SSh_tr hRS2.1 (k3 _ (by omega) (by omega)) (k3 _ (by omega) (by omega)) (k3 _ (by omega) (by omega)), ⟨SSh_tr hRS2.2.1.1 (k3 _ (by omega) (by omega)) (k3 _ (by omega) (by omega)) (k3 _ (by omega) (by omega)), fun Q hQ => ⟨STT_tr (hRS2.2.1.2 Q hQ).1 (k3 _ (by omega) (by omega)) (k3 _ (by omega) (by omega)) (k3 _ (by omega) (by omega)) im3 (Nat.le_refl _), (hRS2.2.1.2 Q hQ).2⟩⟩, k2, CSh_tr hRS2.2.2.2 (fun i a b => k3 i (by omega) (by omega))⟩, ?_⟩
        · rcases hj with q | q | q | q
          · exact k3 j (by omega) (by omega)
          · exact k3 j (by omega) (by omega)
          · exact k3 j (by omega) (by omega)
          · exact im3 j q
        · show rdG (f3 178)
          rw [k3 178 (by omega) (by omega)]; exact hR2
      · refine pq_ret ⟨f2, n1, by rw [if_neg q0], ?_⟩
        unfold sCall
        rw [if_neg q0]
        rw [hRef q0] at hK2
        exact ⟨hn24, ⟨0, hp2, fun q => absurd rfl q⟩, hT2, ⟨hK2, hV⟩, hRS2, hR2⟩
  · obtain ⟨f', n', rfl, hh⟩ := hy
    exact hk f' n' hh
end CLL
end
/-! part 59c.ops -/
section
/-! each call of the class that changes something -/
abbrev ANS : Type := (Int32 ⊕ String) × SPV
def COK (s : ANS) (y : (Int32 ⊕ String) × HpN) : Prop := ∃ f' n', y = (s.1, f', n') ∧ RC f' n' s.2
def COI (s : Int32 × SPV) (y : Int32 × HpN) : Prop := ∃ f' n', y = (s.1, f', n') ∧ RC f' n' s.2
def sAct (V : SPV) (r : Int32 × SST) (v : Int32) : ANS := (if r.1 = 0 then .inl v else .inr eS, sCall V r)
def nPc (V : SPV) : Int32 := nI (pcF V.2.1).length
def nBl (V : SPV) : Int32 := nI (bltS V.2.1).length
def noT (V : SPV) : SPV := ([], V.2)
def sKind (V : SPV) (k i : Int32) : ANS := if k.toInt ≤ 3 ∧ (if i = 0 then (0 : Int) else -1) ≤ k.toInt then sAct V (dA V.2.1 (if i = 0 then 0 else 1) k 0 []) (nPc (sCall V (dA V.2.1 (if i = 0 then 0 else 1) k 0 []))) else (.inr eA, V)
def sRule (V : SPV) (a m : Int32) : ANS := if a = 0 then (if 0 ≤ m.toInt ∧ m.toInt ≤ 1 then sAct V (dA V.2.1 (if m = 1 then 3 else 4) 0 0 []) (nPc (sCall V (dA V.2.1 (if m = 1 then 3 else 4) 0 0 []))) else (.inr eA, V)) else if a = 1 then (if 1 ≤ m.toInt ∧ m.toInt ≤ 40 then sAct V (dA V.2.1 5 m 0 []) (nPc (sCall V (dA V.2.1 5 m 0 []))) else (.inr eA, V)) else (.inr eN, V)
def isWd (T : BL) : Bool := decide (1 ≤ T.length) && decide (T.length ≤ 8) && T.all bLow
def sLock (V : SPV) : ANS := if isWd V.1 = true then sAct (noT V) (dA V.2.1 6 0 0 V.1) (nPc (sCall (noT V) (dA V.2.1 6 0 0 V.1))) else (.inr eA, noT V)
def sUnlock (V : SPV) : ANS := sAct V (dA V.2.1 7 0 0 []) (nPc (sCall V (dA V.2.1 7 0 0 [])))
def sTell (V : SPV) (p : Int32) : ANS := if V.1.length ≤ 60 then sAct (noT V) (dA V.2.1 12 p 0 V.1) (nBl (sCall (noT V) (dA V.2.1 12 p 0 V.1))) else (.inr eA, noT V)
def sFree (V : SPV) (p : Int32) : ANS := sAct V (dA V.2.1 8 p 0 []) (nBl (sCall V (dA V.2.1 8 p 0 [])))
def lkN (S : SST) (p : Nat) : Nat → Nat
  | 0 => 0
  | i + 1 => lkN S p i + (if lkB S p i = true then 1 else 0)
def sSpread (V : SPV) (p : Int32) : ANS := sAct V (dA V.2.1 9 p 0 []) (nI (lkN V.2.1 p.toInt.toNat (pcF V.2.1).length) - 1)
def sSwap (V : SPV) (p o : Int32) : ANS := sAct V (dA V.2.1 10 p o []) (nBl (sCall V (dA V.2.1 10 p o [])))
def sWipe (V : SPV) : ANS := sAct V (dA V.2.1 11 0 0 []) (nI (tcnt V.2.1.2.2.1 40))
section COP
variable {f : AH} {n : Nat} {V : SPV}
theorem f_act1 {a x y : Int32} {jw : Option Nat} {w : BL} {v : Int32} {tail : (Int32 ⊕ String) × HpN → Int32 → Option ((Int32 ⊕ String) × HpN)} (h : PRE f n V) (hA : ARG f n a x jw w) (ht : ∀ f' n', (dA V.2.1 a x y w).1 = 0 → RC f' n' (sCall V (dA V.2.1 a x y w)) → PQ (tail (.inl 0, f', n') 0) (fun z => z = (.inl v, f', n'))) : PQ ((mX8_doAct 0 a x y jw f n).bind fun r2 => rCk (isO r2.2.1 0 8) (((mX8_finishCall 0 r2.1 r2.2.1 r2.2.2).bind fun r5 => tS r5.1 r5.2 (fun y5 => tail r5 y5)))) (COK (sAct V (dA V.2.1 a x y w) v)) := by
  refine f_dofin h hA (fun f' n' hR => ?_)
  unfold sAct
  by_cases hc : (dA V.2.1 a x y w).1 = 0
  · rw [if_pos hc, if_pos hc]
    refine pq_tail (ht f' n' hc hR) (fun z hz => ?_)
    rw [hz]
    exact ⟨f', n', rfl, hR⟩
  · rw [if_neg hc, if_neg hc]
    exact pq_ret ⟨f', n', rfl, hR⟩
theorem f_tsize (h : RC f n V) : PQ ((gR f 0 8 5).bind fun x7 => ((x7).bind fun j8 => rCk (isO f j8 1) (((mX1_size j8 f n).bind fun r10 => some ((.inl r10.1 : Int32 ⊕ String), (r10.2.1, r10.2.2)))))) (fun z => z = (.inl (nPc V), f, n)) := by
  obtain ⟨ag, hp⟩ := RC_p h
  exact pq_gR hp rfl (pq_sb (pq_ck (pq_is (f_csize h.2.2.2.1.1.2.1.1.1) (pq_ret rfl))))
theorem f_tbuilt (h : RC f n V) : PQ ((gR f 0 8 7).bind fun x13 => ((x13).bind fun j14 => ((gR f j14 0 0).bind fun x15 => ((x15).bind fun j16 => rCk (isO f j16 5) (((mX5_size j16 f n).bind fun r18 => some ((.inl r18.1 : Int32 ⊕ String), (r18.2.1, r18.2.2)))))))) (fun z => z = (.inl (nBl V), f, n)) := by
  obtain ⟨ag, hp⟩ := RC_p h
  obtain ⟨⟨qw, hb⟩, -⟩ := h.2.2.2.1.1.2.2.1
  exact pq_gR hp rfl (pq_sb (pq_gR hb rfl (pq_sb (pq_ck (pq_is (f_size h.2.2.2.1.1.2.2.2.1) (pq_ret rfl))))))
theorem arg_n {a x : Int32} (h0 : a = 0 → x = 0 ∨ x = 1 ∨ x = 2 ∨ x = 3) (h1 : a = 1 → x = -1 ∨ x = 0 ∨ x = 1 ∨ x = 2 ∨ x = 3) (h5 : a = 5 → 1 ≤ x.toInt ∧ x.toInt ≤ 40) (h6 : a ≠ 6) (h12 : a = 0 ∨ a = 1 ∨ a = 2 ∨ a = 3 ∨ a = 4 ∨ a = 5 ∨ a = 7 ∨ a = 8 ∨ a = 9 ∨ a = 10 ∨ a = 11) : ARG f n a x none [] := by
  refine ⟨h0, h1, h5, fun q => absurd q h6, fun q => ?_⟩
  exfalso
  obtain ⟨g0, g1, g2, g3, g4, g5, g6, g7, g8, g9, g10, g11⟩ := q
  rcases h12 with e | e | e | e | e | e | e | e | e | e | e
  · exact g0 e
  · exact g1 e
  · exact g2 e
  · exact g3 e
  · exact g4 e
  · exact g5 e
  · exact g7 e
  · exact g8 e
  · exact g9 e
  · exact g10 e
  · exact g11 e
theorem arg_p {a x : Int32} (h : a = 2 ∨ a = 3 ∨ a = 4 ∨ a = 7 ∨ a = 8 ∨ a = 9 ∨ a = 10 ∨ a = 11) : ARG f n a x none [] := by
  rcases h with rfl | rfl | rfl | rfl | rfl | rfl | rfl | rfl <;> exact arg_n (fun q => absurd q (by decide)) (fun q => absurd q (by decide)) (fun q => absurd q (by decide)) (by decide) (by decide)
theorem i32_m3 {x : Int32} (h : -1 ≤ x.toInt ∧ x.toInt ≤ 3) : x = -1 ∨ x = 0 ∨ x = 1 ∨ x = 2 ∨ x = 3 := by
  by_cases h0 : 0 ≤ x.toInt
  · exact Or.inr (i32_03 ⟨h0, h.2⟩)
  · exact Or.inl (Int32.toInt_inj.mp (by rw [kt_m1]; omega))
theorem k_kind (h : RC f n V) {k i : Int32} : PQ (mX8_kind 0 k i f n) (COK (sKind V k i)) := by
  unfold mX8_kind
  have bad : ¬ (k.toInt ≤ 3 ∧ (if i = 0 then (0 : Int) else -1) ≤ k.toInt) → PQ (mX8_kind_b18 f n) (COK (sKind V k i)) := fun q => by
    have e : sKind V k i = (.inr eA, V) := if_neg q
    rw [e]
    exact pq_ret ⟨f, n, rfl, h⟩
  refine pq_lt kt_3 rfl (fun q => bad (fun q2 => by omega)) (fun q => ?_)
  refine pq_eq (fun q0 => ?_) (fun q0 => ?_)
  · unfold mX8_kind_b15
    refine pq_le kt_0 rfl (fun q1 => ?_) (fun q1 => bad (fun q2 => by rw [if_pos q0] at q2; omega))
    have e : sKind V k i = sAct V (dA V.2.1 0 k 0 []) (nPc (sCall V (dA V.2.1 0 k 0 []))) := by
      unfold sKind
      rw [if_pos ⟨q, by rw [if_pos q0]; exact q1⟩, if_pos q0]
    rw [e]
    refine f_prep h (fun f' hP _ => pq_t q0 ?_)
    exact pq_ck (f_act1 hP (arg_n (fun _ => i32_03 ⟨q1, q⟩) (fun q => absurd q (by decide)) (fun q => absurd q (by decide)) (by decide) (by decide)) (fun f'' n'' _ hR => f_tsize hR))
  · unfold mX8_kind_b15
    refine pq_le kt_m1 rfl (fun q1 => ?_) (fun q1 => bad (fun q2 => by rw [if_neg q0] at q2; omega))
    have e : sKind V k i = sAct V (dA V.2.1 1 k 0 []) (nPc (sCall V (dA V.2.1 1 k 0 []))) := by
      unfold sKind
      rw [if_pos ⟨q, by rw [if_neg q0]; exact q1⟩, if_neg q0]
    rw [e]
    refine f_prep h (fun f' hP _ => pq_f q0 ?_)
    exact pq_ck (f_act1 hP (arg_n (fun q => absurd q (by decide)) (fun _ => i32_m3 ⟨q1, q⟩) (fun q => absurd q (by decide)) (by decide) (by decide)) (fun f'' n'' _ hR => f_tsize hR))
theorem k_rule (h : RC f n V) {a m : Int32} : PQ (mX8_rule 0 a m f n) (COK (sRule V a m)) := by
  unfold mX8_rule
  refine pq_eq (fun q0 => ?_) (fun q0 => ?_)
  · have e0 : sRule V a m = if 0 ≤ m.toInt ∧ m.toInt ≤ 1 then sAct V (dA V.2.1 (if m = 1 then 3 else 4) 0 0 []) (nPc (sCall V (dA V.2.1 (if m = 1 then 3 else 4) 0 0 []))) else (.inr eA, V) := if_pos q0
    rw [e0]
    unfold mX8_rule_b19
    refine pq_t q0 ?_
    have bad : ¬ (0 ≤ m.toInt ∧ m.toInt ≤ 1) → PQ (mX8_rule_b46 f n) (COK (if 0 ≤ m.toInt ∧ m.toInt ≤ 1 then sAct V (dA V.2.1 (if m = 1 then 3 else 4) 0 0 []) (nPc (sCall V (dA V.2.1 (if m = 1 then 3 else 4) 0 0 []))) else (.inr eA, V))) := fun q => by
      rw [if_neg q]
      exact pq_ret ⟨f, n, rfl, h⟩
    refine pq_lt rfl kt_0 (fun q => bad (by omega)) (fun q1 => ?_)
    refine pq_le rfl kt_1 (fun q2 => ?_) (fun q => bad (by omega))
    rw [if_pos ⟨q1, q2⟩]
    unfold mX8_rule_b56
    refine f_prep h (fun f' hP _ => pq_t q0 ?_)
    refine pq_eq (fun q3 => ?_) (fun q3 => ?_)
    · rw [if_pos q3]
      exact pq_ck (f_act1 hP (arg_p (by decide)) (fun f'' n'' _ hR => f_tsize hR))
    · rw [if_neg q3]
      exact pq_ck (f_act1 hP (arg_p (by decide)) (fun f'' n'' _ hR => f_tsize hR))
  · refine pq_eq (fun q1 => ?_) (fun q1 => ?_)
    · have e0 : sRule V a m = if 1 ≤ m.toInt ∧ m.toInt ≤ 40 then sAct V (dA V.2.1 5 m 0 []) (nPc (sCall V (dA V.2.1 5 m 0 []))) else (.inr eA, V) := (if_neg q0).trans (if_pos q1)
      rw [e0]
      unfold mX8_rule_b19
      refine pq_f q0 ?_
      have bad : ¬ (1 ≤ m.toInt ∧ m.toInt ≤ 40) → PQ (mX8_rule_b46 f n) (COK (if 1 ≤ m.toInt ∧ m.toInt ≤ 40 then sAct V (dA V.2.1 5 m 0 []) (nPc (sCall V (dA V.2.1 5 m 0 []))) else (.inr eA, V))) := fun q => by
        rw [if_neg q]
        exact pq_ret ⟨f, n, rfl, h⟩
      refine pq_lt rfl kt_1 (fun q => bad (by omega)) (fun q2 => ?_)
      refine pq_le rfl kt_40 (fun q3 => ?_) (fun q => bad (by omega))
      rw [if_pos ⟨q2, q3⟩]
      unfold mX8_rule_b56
      refine f_prep h (fun f' hP _ => pq_f q0 ?_)
      exact pq_ck (f_act1 hP (arg_n (fun q => absurd q (by decide)) (fun q => absurd q (by decide)) (fun _ => ⟨q2, q3⟩) (by decide) (by decide)) (fun f'' n'' _ hR => f_tsize hR))
    · have e0 : sRule V a m = (.inr eN, V) := (if_neg q0).trans (if_neg q1)
      rw [e0]
      exact pq_ret ⟨f, n, rfl, h⟩
theorem k_unlock (h : RC f n V) : PQ (mX8_unlock 0 f n) (COK (sUnlock V)) := by
  unfold mX8_unlock
  exact f_prep h (fun f' hP _ => pq_ck (f_act1 hP (arg_p (by decide)) (fun f'' n'' _ hR => f_tsize hR)))
theorem k_free (h : RC f n V) {p : Int32} : PQ (mX8_free 0 p f n) (COK (sFree V p)) := by
  unfold mX8_free
  exact f_prep h (fun f' hP _ => pq_ck (f_act1 hP (arg_p (by decide)) (fun f'' n'' _ hR => f_tbuilt hR)))
theorem k_swap (h : RC f n V) {p o : Int32} : PQ (mX8_swap 0 p o f n) (COK (sSwap V p o)) := by
  unfold mX8_swap
  exact f_prep h (fun f' hP _ => pq_ck (f_act1 hP (arg_p (by decide)) (fun f'' n'' _ hR => f_tbuilt hR)))
theorem k_wipe (h : RC f n V) : PQ (mX8_wipe 0 f n) (COK (sWipe V)) := by
  obtain ⟨ag, hp⟩ := RC_p h
  unfold mX8_wipe
  refine pq_gR hp rfl (pq_sb (pq_ck (pq_is (f_tcount h.2.2.2.1.1.1) ?_)))
  exact f_prep h (fun f' hP _ => pq_ck (f_act1 hP (arg_p (by decide)) (fun f'' n'' _ hR => pq_ret rfl)))
theorem f_likeN {S : SST} {v : Int32} (hC : CUT f 59 (pcF S)) (hv : inP S v) : PQ (mX1_likeCount 59 v f n) (fun y => y = (nI (lkN S v.toInt.toNat (pcF S).length), f, n)) := by
  have h40 : (pcF S).length ≤ 40 := pcs_40
  have key : ∀ (d i : Nat), i ≤ (pcF S).length → PQ (mX1_likeCount_l4 d 59 v (nI (lkN S v.toInt.toNat i)) (nI i) f n) (fun y => y = (nI (lkN S v.toInt.toNat (pcF S).length), f, n)) := by
    intro d
    induction d with
    | zero => intro i _; exact pq_none
    | succ d ih =>
      intro i hi
      unfold mX1_likeCount_l4
      refine pq_gI hC.1.1.1 rfl (pq_le (nI_toInt (by omega)) (nI_toInt (by omega)) (fun q => ?_) (fun q => ?_))
      · have e : i = (pcF S).length := by omega
        rw [e]
        exact pq_ret rfl
      · refine pq_ck (pq_is (f_areLike (f := f) (n := n) hC hv (show i < (pcF S).length by omega)) ?_)
        have e9 : lkN S v.toInt.toNat (i + 1) = lkN S v.toInt.toNat i + (if lkB S v.toInt.toNat i = true then 1 else 0) := rfl
        have hh := ih (i + 1) (by omega)
        cases hl : lkB S v.toInt.toNat i with
        | false =>
          rw [e9, hl] at hh
          refine pq_t rfl ?_
          show PQ (mX1_likeCount_l4 d 59 v (nI (lkN S v.toInt.toNat i)) (nI i + 1) f n) _
          rw [nI_1]
          exact hh
        | true =>
          rw [e9, hl, if_pos rfl] at hh
          refine pq_f (show ¬ (1 : Int32) = 0 by decide) ?_
          show PQ (mX1_likeCount_l4 d 59 v (nI (lkN S v.toInt.toNat i) + 1) (nI i + 1) f n) _
          rw [nI_1, nI_1]
          exact hh
  unfold mX1_likeCount
  exact key rFU 0 (Nat.zero_le _)
theorem spA_in {S : SST} {p : Int32} (h : (spA S p).1 = 0) : inP S p := by
  unfold spA at h
  by_cases q : inP S p
  · exact q
  · rw [if_neg q] at h; cases h
theorem spA_cf {S : SST} {p : Int32} : (spA S p).2.1 = S.1 ∧ (spA S p).2.2.1 = S.2.1 := by
  unfold spA
  split
  · split
    · exact ⟨rfl, rfl⟩
    · split
      · exact ⟨rfl, rfl⟩
      · unfold finA
        split
        · exact ⟨rfl, rfl⟩
        · exact ⟨rfl, rfl⟩
  · exact ⟨rfl, rfl⟩
theorem k_spread (h : RC f n V) {p : Int32} : PQ (mX8_spread 0 p f n) (COK (sSpread V p)) := by
  unfold mX8_spread
  refine f_prep h (fun f' hP _ => pq_ck (f_act1 hP (arg_p (by decide)) (fun f'' n'' hc hR => ?_)))
  obtain ⟨ag, hp⟩ := RC_p hR
  have hc : (spA V.2.1 p).1 = 0 := hc
  have hin := spA_in hc
  have eS : (sCall V (dA V.2.1 9 p 0 [])).2.1 = (spA V.2.1 p).2 := by
    unfold sCall
    rw [if_pos (show (dA V.2.1 9 p 0 []).1 = 0 from hc)]; rfl
  have hC := hR.2.2.2.1.1.2.1
  rw [eS] at hC
  have ep : pcF (spA V.2.1 p).2 = pcF V.2.1 := by
    unfold pcF
    rw [spA_cf.1, spA_cf.2]
  rw [ep] at hC
  exact pq_gR hp rfl (pq_sb (pq_ck (pq_is (f_likeN hC hin) (pq_ret rfl))))
end COP
end
/-! part 59d.ops -/
section
/-! the class's calls: the tape, words, what goes back -/
section COT
variable {f : AH} {n : Nat} {V : SPV}
theorem RC_tape {f' : AH} {n' : Nat} {T : BL} (h : RC f n V) (hF : ∀ j, j < n → j ≠ 1 → f' j = f j) (hT : isRw f' 1 2 400 T) (hn' : n ≤ n') : RC f' n' (T, V.2) := by
  obtain ⟨hn, ⟨ag, hp, hag⟩, -, ⟨hK, hV⟩, hRS, hR⟩ := h
  refine ⟨by omega, ⟨ag, (hF 0 (by omega) (by omega)).trans hp, fun q => CUT_tr (hag q) (fun i a b => hF i (by omega) (by omega))⟩, hT, ⟨KO_tr hK (fun j hj => hF j ?_ ?_) hn', hV⟩, RS_frb hRS (fun j a _ c _ _ _ _ _ _ => hF j a c) hn hn', ?_⟩
  · rcases hj with q | q | q | q <;> first | omega | exact IMM_lt q hn
  · rcases hj with q | q | q | q <;> first | omega | exact (IMM_1 q).2.1
  · show rdG (f' 178)
    rw [hF 178 (by omega) (by omega)]; exact hR
theorem f_take {B : Nat} (h : RC f n V) : PQ (mX5_part B 1 0 (nI V.1.length) f n) (fun y => ∃ f', y = (some n, f', n + 2) ∧ isRw f' n (n + 1) V.1.length V.1 ∧ ∀ j, j < n → f' j = f j) := by
  have hn := h.1
  refine pq_tail (f_part (B := B) (i := 0) (k := V.1.length) h.2.2.1 (by omega) (by omega) (by omega)) (fun y hy => ?_)
  obtain ⟨f', rfl, r, hF⟩ := hy
  rw [Nat.zero_add, sl_all] at r
  exact ⟨f', rfl, r, hF⟩
/-- the tape is used up -/
theorem f_used {β : Type} {Q : β → Prop} {k : Int32 × HpN → Option β} (h : RC f n V) (hk : ∀ f', RC f' n (noT V) → (∀ j, j ≠ 1 → f' j = f j) → PQ (k (0, f', n)) Q) : PQ ((gR f 0 8 0).bind fun x1 => ((x1).bind fun j2 => rCk (isO f j2 5) (((mX5_cutTo j2 (0 : Int32) f n).bind k)))) Q := by
  obtain ⟨ag, hp⟩ := RC_p h
  refine pq_gR hp rfl (pq_sb (pq_ck (pq_call (f_cutTo (m := 0) h.2.2.1 (by omega)) (fun y hy => ?_))))
  obtain ⟨f', rfl, r, hF⟩ := hy
  rw [List.take_zero] at r
  exact hk f' (RC_tape h (fun j _ b => hF j b) r (Nat.le_refl _)) hF
theorem RI1_new {f' : AH} {T : BL} {c : Nat} (hn : 224 ≤ n) (r : isRw f' n (n + 1) c T) : RI1 f' (n + 2) n T := ⟨n + 1, c, r, by unfold IMM; omega, by unfold IMM; omega⟩
theorem f_takeTold (h : RC f n V) : PQ (mX8_takeTold 0 f n) (fun y => ∃ f' n', RC f' n' (noT V) ∧ ((V.1.length ≤ 60 ∧ ∃ j, y = (some j, f', n') ∧ RI1 f' n' j V.1) ∨ (60 < V.1.length ∧ y = (none, f', n')))) := by
  obtain ⟨ag, hp⟩ := RC_p h
  have h6 := rw_6 h.2.2.1
  have hn := h.1
  unfold mX8_takeTold
  refine pq_gR hp rfl (pq_sb (pq_ck (pq_is (f_size h.2.2.1) ?_)))
  refine pq_le (nI_toInt (by omega)) kt_60 (fun q => ?_) (fun q => ?_)
  · refine pq_gR hp rfl (pq_gR hp rfl (pq_sb (pq_ck (pq_is (f_size h.2.2.1) (pq_sb (pq_ck (pq_call (f_take (f := f) (n := n) h) (fun y hy => ?_))))))))
    obtain ⟨f1, rfl, r, hF⟩ := hy
    have h1 : RC f1 (n + 2) V := RC_tape (T := V.1) h (fun j a _ => hF j a) (rw_tr h.2.2.1 (hF _ (by omega)) (hF _ (by omega))) (by omega)
    refine pq_sb ?_
    unfold mX8_takeTold_b31
    refine f_used h1 (fun f2 h2 hF2 => pq_ret ⟨f2, n + 2, h2, Or.inl ⟨by omega, n, rfl, RI1_tr (RI1_new hn r) (fun j hj => hF2 j (IMM_1 hj).2.1) (Nat.le_refl _)⟩⟩)
  · unfold mX8_takeTold_b31
    exact f_used h (fun f2 h2 hF2 => pq_ret ⟨f2, n, h2, Or.inr ⟨by omega, rfl⟩⟩)
theorem f_isWord {T : BL} (hr : isRw f 1 2 400 T) : PQ (mX5_isWord 1 f n) (fun y => y = (bI (isWd T), f, n)) := by
  have h6 := rw_6 hr
  have key : ∀ (d i : Nat), i ≤ T.length → (∀ k, k < i → bLow (T.getD k 0) = true) → PQ (mX5_isWord_l2 d 1 (nI i) f n) (fun y => y = (bI (isWd T), f, n)) := by
    intro d
    induction d with
    | zero => intro i _ _; exact pq_none
    | succ d ih =>
      intro i hi hk
      have no : i < T.length → bLow (T.getD i 0) = false → isWd T = false := fun h1 h2 => by
        unfold isWd
        have : T.all bLow = false := by
          cases hx : T.all bLow with
          | false => rfl
          | true =>
            have := List.all_eq_true.mp hx (T.getD i 0) (by rw [List.getD_eq_getElem?_getD, List.getElem?_eq_getElem h1]; exact List.getElem_mem h1)
            rw [h2] at this; cases this
        rw [this, Bool.and_false]
      unfold mX5_isWord_l2
      refine pq_rwS hr (pq_le (nI_toInt (by omega)) (nI_toInt (by omega)) (fun q => ?_) (fun q => ?_))
      · have e : i = T.length := by omega
        have ha : T.all bLow = true := List.all_eq_true.mpr (fun x hx => by
          obtain ⟨k, hk1, hk2⟩ := List.getElem_of_mem hx
          have := hk k (by omega)
          rw [List.getD_eq_getElem?_getD, List.getElem?_eq_getElem hk1] at this
          rw [← hk2]; exact this)
        have ew : isWd T = (decide (1 ≤ T.length) && decide (T.length ≤ 8)) := by
          unfold isWd
          rw [ha, Bool.and_true]
        rw [ew]
        refine pq_rwS hr (pq_lt (nI_toInt (by omega)) kt_1 (fun q1 => ?_) (fun q1 => ?_))
        · rw [decide_eq_false (show ¬ 1 ≤ T.length by omega), Bool.false_and]
          unfold mX5_isWord_b59 mX5_isWord_b60
          exact pq_ck (pq_ret rfl)
        · refine pq_rwS hr (pq_lt kt_8 (nI_toInt (by omega)) (fun q2 => ?_) (fun q2 => ?_))
          · rw [decide_eq_false (show ¬ T.length ≤ 8 by omega), Bool.and_false]
            unfold mX5_isWord_b59 mX5_isWord_b60
            exact pq_ck (pq_ret rfl)
          · rw [decide_eq_true (show 1 ≤ T.length by omega), decide_eq_true (show T.length ≤ 8 by omega)]
            exact pq_ck (pq_ret rfl)
      · have hi' : i < T.length := by omega
        have bad : bLow (T.getD i 0) = false → PQ (mX5_isWord_b30 f n) (fun y => y = (bI (isWd T), f, n)) := fun e => by
          rw [no hi' e]
          exact pq_ck (pq_ret rfl)
        have lowF : ∀ c : Int32, (c.toInt < 97 ∨ 122 < c.toInt) → bLow c = false := fun c hc => by
          have := low_n hc
          unfold bNl at this
          cases hx : bLow c with
          | false => rfl
          | true => rw [hx] at this; cases this
        have lowT : ∀ c : Int32, 97 ≤ c.toInt → c.toInt ≤ 122 → bLow c = true := fun c h1 h2 => by
          have := low_t h1 h2
          unfold bNl at this
          cases hx : bLow c with
          | true => rfl
          | false => rw [hx] at this; cases this
        refine pq_ck (pq_is (f_getN hr hi') (pq_lt rfl kt_97 (fun q1 => bad (lowF _ (Or.inl q1))) (fun q1 => ?_)))
        refine pq_ck (pq_is (f_getN hr hi') (pq_le rfl kt_122 (fun q2 => ?_) (fun q2 => bad (lowF _ (Or.inr q2)))))
        rw [nI_1]
        refine ih (i + 1) (by omega) (fun k hk2 => ?_)
        by_cases e : k = i
        · rw [e]; exact lowT _ q1 q2
        · exact hk k (by omega)
  unfold mX5_isWord
  exact key rFU 0 (Nat.zero_le _) (fun k hk => absurd hk (Nat.not_lt_zero _))
theorem isWd_8 {T : BL} (h : isWd T = true) : 1 ≤ T.length ∧ T.length ≤ 8 := by
  unfold isWd at h
  simp only [Bool.and_eq_true, decide_eq_true_eq] at h
  exact h.1
theorem f_takeWord (h : RC f n V) : PQ (mX8_takeWord 0 f n) (fun y => ∃ f' n', RC f' n' (noT V) ∧ ((isWd V.1 = true ∧ ∃ j, y = (some j, f', n') ∧ RI1 f' n' j V.1) ∨ (isWd V.1 = false ∧ y = (none, f', n')))) := by
  obtain ⟨ag, hp⟩ := RC_p h
  have h6 := rw_6 h.2.2.1
  have hn := h.1
  unfold mX8_takeWord
  refine pq_gR hp rfl (pq_sb (pq_ck (pq_is (f_isWord h.2.2.1) ?_)))
  cases hw : isWd V.1 with
  | false =>
    refine pq_t rfl ?_
    unfold mX8_takeWord_b29
    exact f_used h (fun f2 h2 hF2 => pq_ret ⟨f2, n, h2, Or.inr ⟨rfl, rfl⟩⟩)
  | true =>
    refine pq_f (show ¬ (1 : Int32) = 0 by decide) ?_
    refine pq_gR hp rfl (pq_gR hp rfl (pq_sb (pq_ck (pq_is (f_size h.2.2.1) (pq_sb (pq_ck (pq_call (f_take (f := f) (n := n) h) (fun y hy => ?_))))))))
    obtain ⟨f1, rfl, r, hF⟩ := hy
    have h1 : RC f1 (n + 2) V := RC_tape (T := V.1) h (fun j a _ => hF j a) (rw_tr h.2.2.1 (hF _ (by omega)) (hF _ (by omega))) (by omega)
    refine pq_sb ?_
    unfold mX8_takeWord_b29
    refine f_used h1 (fun f2 h2 hF2 => pq_ret ⟨f2, n + 2, h2, Or.inl ⟨rfl, n, rfl, RI1_tr (RI1_new hn r) (fun j hj => hF2 j (IMM_1 hj).2.1) (Nat.le_refl _)⟩⟩)
theorem k_lock (h : RC f n V) : PQ (mX8_lock 0 f n) (COK (sLock V)) := by
  unfold mX8_lock
  refine pq_ck (pq_call (f_takeWord h) (fun y hy => ?_))
  obtain ⟨f1, n1, h1, hc⟩ := hy
  rcases hc with ⟨hw, j, rfl, r⟩ | ⟨hw, rfl⟩
  · have e : sLock V = sAct (noT V) (dA V.2.1 6 0 0 V.1) (nPc (sCall (noT V) (dA V.2.1 6 0 0 V.1))) := if_pos hw
    rw [e]
    have h8 := isWd_8 hw
    refine pq_sb (pq_oNs (f_prep h1 (fun f' hP im => pq_ck (f_act1 (V := noT V) (w := V.1) hP ⟨fun q => absurd q (by decide), fun q => absurd q (by decide), fun q => absurd q (by decide), fun _ => ⟨j, rfl, RI1_tr r im (Nat.le_refl _), h8.2⟩, fun q => absurd rfl q.2.2.2.2.2.2.1⟩ (fun f'' n'' _ hR => f_tsize hR)))))
  · have e : sLock V = (.inr eA, noT V) := if_neg (by rw [hw]; decide)
    rw [e]
    exact pq_sb (pq_oNn (pq_ret ⟨f1, n1, rfl, h1⟩))
theorem k_tell (h : RC f n V) {p : Int32} : PQ (mX8_tell 0 p f n) (COK (sTell V p)) := by
  unfold mX8_tell
  refine pq_ck (pq_call (f_takeTold h) (fun y hy => ?_))
  obtain ⟨f1, n1, h1, hc⟩ := hy
  rcases hc with ⟨hw, j, rfl, r⟩ | ⟨hw, rfl⟩
  · have e : sTell V p = sAct (noT V) (dA V.2.1 12 p 0 V.1) (nBl (sCall (noT V) (dA V.2.1 12 p 0 V.1))) := if_pos hw
    rw [e]
    refine pq_sb (pq_oNs (f_prep h1 (fun f' hP im => pq_ck (f_act1 (V := noT V) (w := V.1) hP ⟨fun q => absurd q (by decide), fun q => absurd q (by decide), fun q => absurd q (by decide), fun q => absurd q (by decide), fun _ => ⟨j, rfl, RI1_tr r im (Nat.le_refl _), hw⟩⟩ (fun f'' n'' _ hR => f_tbuilt hR)))))
  · have e : sTell V p = (.inr eA, noT V) := if_neg (by omega)
    rw [e]
    exact pq_sb (pq_oNn (pq_ret ⟨f1, n1, rfl, h1⟩))
end COT
end
/-! part 59e.ops -/
section
/-! the class's calls: file, undo, image, back, the tape, a text -/
def sFile (V : SPV) : Int32 × SPV := (nPc ([], (V.1, V.2.1.2.1, fun _ => none, V.2.1.2.2.2), [], V.2.2.2.1, V.2.2.2.2.1, V.2.2.2.2.2), ([], (V.1, V.2.1.2.1, fun _ => none, V.2.1.2.2.2), [], V.2.2.2.1, V.2.2.2.2.1, V.2.2.2.2.2))
def lastS (V : SPV) : SST := V.2.2.1.getD (V.2.2.1.length - 1) V.2.1
def sUndo (V : SPV) : ANS := if V.2.2.1.length = 0 then (.inr eS, V) else (.inl (nI (V.2.2.1.length - 1)), (V.1, lastS V, V.2.2.1.take (V.2.2.1.length - 1), V.2.2.2.1, V.2.2.2.2.1, V.2.2.2.2.2))
def sImage (V : SPV) : Int32 × SPV := (0, (V.1, V.2.1, V.2.2.1, some V.2.1, V.2.2.2.2.1, V.2.2.2.2.2))
def sBack (V : SPV) : Int32 × SPV := match V.2.2.2.1 with
  | none => (0, V)
  | some I => (1, (V.1, I, [], some I, V.2.2.2.2.1, V.2.2.2.2.2))
def by4 (a s : Int32) : Int32 := (a.toUInt32 >>> (s.toUInt32 &&& Int32.toUInt32 31)).toInt32 &&& 255
def f4 (a : Int32) : BL := [by4 a 24, by4 a 16, by4 a 8, by4 a 0]
def sFeed (V : SPV) (a b c d e : Int32) : Int32 × SPV := if V.1.length + 20 ≤ 400 then (nI (V.1.length + 20), (V.1 ++ f4 a ++ f4 b ++ f4 c ++ f4 d ++ f4 e, V.2)) else (-1, V)
def sEnd (V : SPV) (m : Int32) : Int32 × SPV := if 0 ≤ m.toInt ∧ m.toInt ≤ V.1.length then (1, (V.1.take m.toInt.toNat, V.2)) else (0, V)
def sActs (V : SPV) : ANS := match (aTop V.1 V.2.1).1 with
  | none => (.inl (nI (aTop V.1 V.2.1).2.2.1), ([], (aTop V.1 V.2.1).2.2.2, [], V.2.2.2.1, (if 0 < (aTop V.1 V.2.1).2.2.1 then 0 else V.2.2.2.2.1), -1))
  | some w => (.inr eA, ([], V.2.1, V.2.2.1, V.2.2.2.1, (if (aTop V.1 V.2.1).2.1 = 0 then V.2.2.2.2.1 else (aTop V.1 V.2.1).2.1), nI w))
section COE
variable {f : AH} {n : Nat} {V : SPV}
theorem PST_nil {P : List SST} (h : PST f n P) : PST f n [] := by
  obtain ⟨-, g, h2, h3, h4⟩ := h
  refine ⟨by show 0 ≤ 8; omega, g, h2, fun i hi => ?_, h4⟩
  obtain ⟨s, e1, e2, e3, e4, -⟩ := h3 i hi
  exact ⟨s, e1, e2, e3, e4, fun Q hQ => by cases hQ⟩
theorem RS_nil {P : List SST} {I : Option SST} (h : RS f n P I) : RS f n [] I := ⟨h.1, h.2.1, PST_nil h.2.2.1, h.2.2.2⟩
theorem k_file (h : RC f n V) : PQ (mX8_file 0 f n) (COI (sFile V)) := by
  obtain ⟨hn, ⟨ag, hp, -⟩, hT, ⟨hK, hV⟩, hRS, hR⟩ := id h
  have h6 := rw_6 hT
  have h4 := hT.2.2.1
  unfold mX8_file
  refine pq_gR hp rfl (pq_gR hp rfl (pq_gR hp rfl (pq_sb (pq_ck (pq_is (f_size hT) (pq_sb (pq_ck (pq_call (f_take (f := f) (n := n) h) (fun y hy => ?_)))))))))
  obtain ⟨f1, rfl, r1, hF1⟩ := hy
  have hK1 : KO f1 (n + 2) V.2.1 := KO_up hK hn hF1 (by omega)
  obtain ⟨⟨fr, la, a1, a2, full, a3, a4⟩, a5, a6, a7, a8⟩ := id hK1.1
  refine pq_sb (pq_sb (pq_pO a1 rfl ?_))
  have hc2 : va_up f1 3 (some (.inr (7, (stV fr V.2.1.2.1.1 V.2.1.2.1.2.1 V.2.1.2.1.2.2.1 (nI V.2.1.2.1.2.2.2.1) (nI V.2.1.2.1.2.2.2.2.length) la (nI V.2.1.2.2.2.length) (3 + 3) (3 + 4)).set 0 (va_rf (some n))))) 3 = some (.inr (7, stV n V.2.1.2.1.1 V.2.1.2.1.2.1 V.2.1.2.1.2.2.1 (nI V.2.1.2.1.2.2.2.1) (nI V.2.1.2.1.2.2.2.2.length) la (nI V.2.1.2.2.2.length) (3 + 3) (3 + 4))) := u_eq
  have hF2 : ∀ j, j ≠ 3 → va_up f1 3 (some (.inr (7, (stV fr V.2.1.2.1.1 V.2.1.2.1.2.1 V.2.1.2.1.2.2.1 (nI V.2.1.2.1.2.2.2.1) (nI V.2.1.2.1.2.2.2.2.length) la (nI V.2.1.2.2.2.length) (3 + 3) (3 + 4)).set 0 (va_rf (some n))))) j = f1 j := fun j hj => u_ne hj
  generalize va_up f1 3 (some (.inr (7, (stV fr V.2.1.2.1.1 V.2.1.2.1.2.1 V.2.1.2.1.2.2.1 (nI V.2.1.2.1.2.2.2.1) (nI V.2.1.2.1.2.2.2.2.length) la (nI V.2.1.2.2.2.length) (3 + 3) (3 + 4)).set 0 (va_rf (some n))))) = f2 at hc2 hF2 ⊢
  have im2 : ∀ j, IMM (n + 2) j → f2 j = f1 j := fun j hj => hF2 j (IMM_ne hj sid3).1
  have hS2 : STT f2 (n + 2) 3 (V.1, V.2.1.2.1, V.2.1.2.2.1, V.2.1.2.2.2) := by
    have hs := STT_tr (f' := va_up f2 3 (f1 3)) hK1.1 u_eq ((u_ne (by omega)).trans (hF2 _ (by omega))) ((u_ne (by omega)).trans (hF2 _ (by omega))) (fun i hi => (u_ne (IMM_ne hi sid3).1).trans (im2 i hi)) (Nat.le_refl _)
    obtain ⟨⟨fr', la', b1, b2, full', b3, b4⟩, ⟨gl, c1, c2⟩, ⟨gt, d1, d2⟩, e1, e2⟩ := hs
    have R : ∀ {j : Nat} {L : BL}, RI1 (va_up f2 3 (f1 3)) (n + 2) j L → RI1 f2 (n + 2) j L := fun hh => RI1_tr hh (fun i hi => (u_ne (IMM_ne hi sid3).1).symm) (Nat.le_refl _)
    refine ⟨⟨n, la, hc2, RI1_tr (RI1_new hn r1) im2 (Nat.le_refl _), full, PCH_tr im2 (Nat.le_refl _) full la a3, a4⟩, ⟨gl, (u_ne (by omega)).symm.trans c1, fun l hl => ?_⟩, ⟨gt, (u_ne (by omega)).symm.trans d1, fun i hi => ?_⟩, e1, h4⟩
    · obtain ⟨j, q1, q2⟩ := c2 l hl
      exact ⟨j, q1, R q2⟩
    · have h5 := d2 i hi
      cases e : V.2.1.2.2.1 i with
      | none => rw [e] at h5; exact h5
      | some t =>
        rw [e] at h5
        obtain ⟨j, q1, q2, q3⟩ := h5
        exact ⟨j, q1, R q2, q3⟩
  have hp2 : f2 0 = some (.inr (8, pfL (bI V.2.2.2.1.isSome) ag (nI V.2.2.1.length) V.2.2.2.2.1 V.2.2.2.2.2)) := (hF2 0 (by omega)).trans ((hF1 0 (by omega)).trans hp)
  have hT2 : isRw f2 1 2 400 V.1 := rw_tr hT ((hF2 _ (by omega)).trans (hF1 _ (by omega))) ((hF2 _ (by omega)).trans (hF1 _ (by omega)))
  refine pq_gR hp2 rfl (pq_sb (pq_ck (pq_call (f_cutTo (f := f2) (n := n + 2) (m := 0) hT2 (by omega)) (fun y hy => ?_))))
  obtain ⟨f3, rfl, r3, hF3⟩ := hy
  rw [List.take_zero] at r3
  have hp3 : f3 0 = some (.inr (8, pfL (bI V.2.2.2.1.isSome) ag (nI V.2.2.1.length) V.2.2.2.2.1 V.2.2.2.2.2)) := (hF3 0 (by omega)).trans hp2
  refine pq_pO hp3 rfl (pq_ck ?_)
  have hp4 : va_up f3 0 (some (.inr (8, (pfL (bI V.2.2.2.1.isSome) ag (nI V.2.2.1.length) V.2.2.2.2.1 V.2.2.2.2.2).set 11 (.int 0)))) 0 = some (.inr (8, pfL (bI V.2.2.2.1.isSome) ag 0 V.2.2.2.2.1 V.2.2.2.2.2)) := u_eq
  have hF4 : ∀ j, j ≠ 0 → j ≠ 1 → j ≠ 3 → j < n → va_up f3 0 (some (.inr (8, (pfL (bI V.2.2.2.1.isSome) ag (nI V.2.2.1.length) V.2.2.2.2.1 V.2.2.2.2.2).set 11 (.int 0)))) j = f j := fun j a b c d => (u_ne a).trans ((hF3 j b).trans ((hF2 j c).trans (hF1 j d)))
  have hF42 : ∀ j, j ≠ 0 → j ≠ 1 → va_up f3 0 (some (.inr (8, (pfL (bI V.2.2.2.1.isSome) ag (nI V.2.2.1.length) V.2.2.2.2.1 V.2.2.2.2.2).set 11 (.int 0)))) j = f2 j := fun j a b => (u_ne a).trans (hF3 j b)
  have r4 : isRw (va_up f3 0 (some (.inr (8, (pfL (bI V.2.2.2.1.isSome) ag (nI V.2.2.1.length) V.2.2.2.2.1 V.2.2.2.2.2).set 11 (.int 0))))) 1 2 400 [] := rw_tr r3 (u_ne (by omega)) (u_ne (by omega))
  generalize va_up f3 0 (some (.inr (8, (pfL (bI V.2.2.2.1.isSome) ag (nI V.2.2.1.length) V.2.2.2.2.1 V.2.2.2.2.2).set 11 (.int 0)))) = f4 at hp4 hF4 hF42 r4 ⊢
  have hS4 : STT f4 (n + 2) 3 (V.1, V.2.1.2.1, V.2.1.2.2.1, V.2.1.2.2.2) := STT_tr hS2 (hF42 _ (by omega) (by omega)) (hF42 _ (by omega) (by omega)) (hF42 _ (by omega) (by omega)) (fun j hj => hF42 j (IMM_1 hj).1 (IMM_1 hj).2.1) (Nat.le_refl _)
  have hFb4 : FRb n f f4 := fun j a b c d _ _ _ _ _ => hF4 j b c d a
  refine pq_call (f_cutAnew (f := f4) (n := n + 2) (S := (V.1, V.2.1.2.1, V.2.1.2.2.1, V.2.1.2.2.2)) hp4 hS4 (CSh_tr (CUT_sh hK.2.1) (fun i a b => hF4 i (by omega) (by omega) (by omega) (by omega))) (BSh_tr hK.2.2.1 (fun i a b => hF4 i (by omega) (by omega) (by omega) (by omega))) (SV_none h4 hV.2.2.1 (fun _ => rfl))) (fun y hy => ?_)
  obtain ⟨f5, rfl, k1, k2, k3⟩ := hy
  refine pq_gR k1 rfl (pq_sb (pq_ck (pq_is (f_csize k2.2.1.1.1) (pq_ret ⟨f5, n + 2, rfl, by omega, ⟨0, k1, fun q => absurd rfl q⟩, rw_tr r4 (k3 _ (by omega) (by omega) (by omega) (by omega) (by omega) (by omega) (by omega)) (k3 _ (by omega) (by omega) (by omega) (by omega) (by omega) (by omega) (by omega)), ⟨k2, SV_none h4 hV.2.2.1 (fun _ => rfl)⟩, ?_, ?_⟩))))
  · exact RS_frb (RS_frb (RS_nil hRS) hFb4 hn (show n ≤ n + 2 by omega)) (frb_a k3) (by omega) (Nat.le_refl _)
  · show rdG (f5 178)
    rw [k3 178 (by omega) (by omega) (by omega) (by omega) (by omega) (by omega) (by omega), hF4 178 (by omega) (by omega) (by omega) (by omega)]; exact hR
theorem k_undo (h : RC f n V) : PQ (mX8_undo 0 f n) (COK (sUndo V)) := by
  obtain ⟨hn, ⟨ag, hp, -⟩, hT, ⟨hK, hV⟩, hRS, hR⟩ := id h
  obtain ⟨p1, g, p2, p3, p4⟩ := id hRS.2.2.1
  unfold mX8_undo
  refine pq_gI hp rfl (pq_lt (nI_toInt (by omega)) kt_1 (fun q => ?_) (fun q => ?_))
  · have e : sUndo V = (.inr eS, V) := if_pos (by omega)
    rw [e]
    exact pq_ret ⟨f, n, rfl, h⟩
  · have e : sUndo V = (.inl (nI (V.2.2.1.length - 1)), (V.1, lastS V, V.2.2.1.take (V.2.2.1.length - 1), V.2.2.2.1, V.2.2.2.2.1, V.2.2.2.2.2)) := if_neg (by omega)
    rw [e]
    have em : nI V.2.2.1.length - (1 : Int32) = nI (V.2.2.1.length - 1) := nI_sb (b := 1) (by omega) (by omega)
    obtain ⟨s, e1, e2, e3, e4, e5⟩ := p3 (V.2.2.1.length - 1) (by omega)
    have hlast : V.2.2.1[V.2.2.1.length - 1]? = some (lastS V) := by
      unfold lastS
      rw [List.getD_eq_getElem?_getD, List.getElem?_eq_getElem (by omega)]; rfl
    obtain ⟨hSs, hVs⟩ := e5 _ hlast
    refine pq_gI hp rfl (pq_gR hp rfl (pq_sb (pq_gL p2 (by omega) (pq_lt (nI_toInt (by omega)) (nI_toInt (by omega)) (fun q => by omega) (fun _ => ?_)))))
    refine pq_gR hp rfl (pq_gI hp rfl (pq_sb ?_))
    rw [em]
    refine pq_gRA p2 (fun _ => ?_)
    rw [nI_clamp (by omega), e1]
    refine pq_oNs (pq_gI hp rfl ?_)
    rw [em]
    refine pq_pO hp rfl ?_
    have hp2 : va_up f 0 (some (.inr (8, (pfL (bI V.2.2.2.1.isSome) ag (nI V.2.2.1.length) V.2.2.2.2.1 V.2.2.2.2.2).set 11 (.int (nI (V.2.2.1.length - 1)))))) 0 = some (.inr (8, pfL (bI V.2.2.2.1.isSome) ag (nI (V.2.2.1.length - 1)) V.2.2.2.2.1 V.2.2.2.2.2)) := u_eq
    have hF2 : ∀ j, j ≠ 0 → va_up f 0 (some (.inr (8, (pfL (bI V.2.2.2.1.isSome) ag (nI V.2.2.1.length) V.2.2.2.2.1 V.2.2.2.2.2).set 11 (.int (nI (V.2.2.1.length - 1)))))) j = f j := fun j hj => u_ne hj
    generalize va_up f 0 (some (.inr (8, (pfL (bI V.2.2.2.1.isSome) ag (nI V.2.2.1.length) V.2.2.2.2.1 V.2.2.2.2.2).set 11 (.int (nI (V.2.2.1.length - 1)))))) = f2 at hp2 hF2 ⊢
    have hFb2 : FRb n f f2 := fun j _ b _ _ _ _ _ _ _ => hF2 j b
    refine pq_gR hp2 rfl (pq_gI hp2 rfl (pq_sb (pq_gRA ((hF2 _ (by omega)).trans p2) (fun _ => ?_))))
    rw [nI_clamp (by omega), e1]
    have hH2 : SHP f2 := ⟨SSh_tr (STT_sh hK.1) (hF2 _ (by omega)) (hF2 _ (by omega)) (hF2 _ (by omega)), CSh_tr (CUT_sh hK.2.1) (fun i a b => hF2 i (by omega)), BSh_tr hK.2.2.1 (fun i a b => hF2 i (by omega))⟩
    refine pq_ck (pq_call (f_restore (f := f2) (n := n) hp2 e2 (by omega) (STT_frb hSs e2 (by omega) hFb2 hn (Nat.le_refl _)) hH2 hVs) (fun y hy => ?_))
    obtain ⟨f3, rfl, k1, k2, k3⟩ := hy
    have hlt : (V.2.2.1.take (V.2.2.1.length - 1)).length = V.2.2.1.length - 1 := by rw [List.length_take]; omega
    refine pq_gI k1 rfl (pq_ret ⟨f3, n, rfl, hn, ⟨0, by show f3 0 = some (.inr (8, pfL (bI V.2.2.2.1.isSome) 0 (nI (V.2.2.1.take (V.2.2.1.length - 1)).length) V.2.2.2.2.1 V.2.2.2.2.2)); rw [hlt]; exact k1, fun q => absurd rfl q⟩, rw_tr hT ((k3 _ (by omega) (by omega) (by omega) (by omega) (by omega) (by omega) (by omega)).trans (hF2 _ (by omega))) ((k3 _ (by omega) (by omega) (by omega) (by omega) (by omega) (by omega) (by omega)).trans (hF2 _ (by omega))), ⟨k2, hVs⟩, ?_, ?_⟩)
    · have hRS3 := RS_frb (RS_frb hRS hFb2 hn (Nat.le_refl _)) (frb_a k3) hn (Nat.le_refl _)
      refine ⟨hRS3.1, hRS3.2.1, ?_, hRS3.2.2.2⟩
      obtain ⟨c1, gg, c2, c3, c4⟩ := hRS3.2.2.1
      refine ⟨by rw [hlt]; omega, gg, c2, fun i hi => ?_, c4⟩
      obtain ⟨s', q1, q2, q3, q4, q5⟩ := c3 i hi
      refine ⟨s', q1, q2, q3, q4, fun Q hQ => q5 Q ?_⟩
      have hil : i < V.2.2.1.length - 1 := by
        rcases Nat.lt_or_ge i (V.2.2.1.length - 1) with hh | hh
        · exact hh
        · rw [List.getElem?_eq_none (by rw [hlt]; exact hh)] at hQ; cases hQ
      rw [List.getElem?_take_of_lt hil] at hQ
      exact hQ
    · show rdG (f3 178)
      rw [k3 178 (by omega) (by omega) (by omega) (by omega) (by omega) (by omega) (by omega), hF2 178 (by omega)]; exact hR
end COE
end
/-! part 59f.ops -/
section
/-! the class's calls: image, back, the tape, a text -/
section COF
variable {f : AH} {n : Nat} {V : SPV}
theorem k_image (h : RC f n V) : PQ (mX8_image 0 f n) (COI (sImage V)) := by
  obtain ⟨hn, ⟨ag, hp, hag⟩, hT, ⟨hK, hV⟩, ⟨h8, ⟨h13, hI⟩, hP, hC⟩, hR⟩ := h
  unfold mX8_image
  refine pq_gR hp rfl (pq_gR hp rfl (pq_sb (pq_ck (pq_call (f_copy (f := f) (n := n) sid13 sid3 (by omega) h13 hK.1) (fun y hy => ?_)))))
  obtain ⟨f1, rfl, k1, k2⟩ := hy
  have hp1 : f1 0 = some (.inr (8, pfL (bI V.2.2.2.1.isSome) ag (nI V.2.2.1.length) V.2.2.2.2.1 V.2.2.2.2.2)) := (k2 0 (by omega) (by omega) (by omega)).trans hp
  refine pq_ck (pq_pO hp1 rfl (pq_ret ?_))
  have hp2 : va_up f1 0 (some (.inr (8, (pfL (bI V.2.2.2.1.isSome) ag (nI V.2.2.1.length) V.2.2.2.2.1 V.2.2.2.2.2).set 9 (.int 1)))) 0 = some (.inr (8, pfL 1 ag (nI V.2.2.1.length) V.2.2.2.2.1 V.2.2.2.2.2)) := u_eq
  have hF2 : ∀ j, j ≠ 0 → va_up f1 0 (some (.inr (8, (pfL (bI V.2.2.2.1.isSome) ag (nI V.2.2.1.length) V.2.2.2.2.1 V.2.2.2.2.2).set 9 (.int 1)))) j = f1 j := fun j hj => u_ne hj
  refine ⟨_, n, rfl, ?_⟩
  show RC (va_up f1 0 (some (.inr (8, (pfL (bI V.2.2.2.1.isSome) ag (nI V.2.2.1.length) V.2.2.2.2.1 V.2.2.2.2.2).set 9 (.int 1))))) n (sImage V).2
  generalize va_up f1 0 (some (.inr (8, (pfL (bI V.2.2.2.1.isSome) ag (nI V.2.2.1.length) V.2.2.2.2.1 V.2.2.2.2.2).set 9 (.int 1)))) = f2 at hp2 hF2 ⊢
  have hF : ∀ j, j ≠ 0 → j ≠ 13 → j ≠ 16 → j ≠ 17 → f2 j = f j := fun j a b c d => (hF2 j a).trans (k2 j b (by omega) (by omega))
  have im : ∀ j, IMM n j → f2 j = f j := fun j hj => by
    have := IMM_ne hj sid13
    exact hF j (IMM_1 hj).1 this.1 this.2.1 this.2.2
  have im2 : ∀ j, IMM n j → f2 j = f1 j := fun j hj => hF2 j (IMM_1 hj).1
  refine ⟨hn, ⟨ag, hp2, fun q => CUT_tr (hag q) (fun i a b => hF i (by omega) (by omega) (by omega) (by omega))⟩, rw_tr hT (hF _ (by omega) (by omega) (by omega) (by omega)) (hF _ (by omega) (by omega) (by omega) (by omega)), ⟨KO_tr hK (fun j hj => ?_) (Nat.le_refl _), hV⟩, ⟨SSh_tr h8 (hF _ (by omega) (by omega) (by omega) (by omega)) (hF _ (by omega) (by omega) (by omega) (by omega)) (hF _ (by omega) (by omega) (by omega) (by omega)), ⟨SSh_tr (STT_sh k1) (hF2 _ (by omega)) (hF2 _ (by omega)) (hF2 _ (by omega)), fun Q hQ => ?_⟩, ?_, CSh_tr hC (fun i a b => hF i (by omega) (by omega) (by omega) (by omega))⟩, ?_⟩
  · rcases hj with q | q | q | q
    · exact hF j (by omega) (by omega) (by omega) (by omega)
    · exact hF j (by omega) (by omega) (by omega) (by omega)
    · exact hF j (by omega) (by omega) (by omega) (by omega)
    · exact im j q
  · have hQ : some V.2.1 = some Q := hQ
    cases hQ
    exact ⟨STT_tr k1 (hF2 _ (by omega)) (hF2 _ (by omega)) (hF2 _ (by omega)) im2 (Nat.le_refl _), hV⟩
  · obtain ⟨p1, g, p2, p3, p4⟩ := hP
    refine ⟨p1, g, (hF _ (by omega) (by omega) (by omega) (by omega)).trans p2, fun i hi => ?_, p4⟩
    obtain ⟨s, e1, e2, e3, e4, e5⟩ := p3 i hi
    exact ⟨s, e1, e2, e3, SSh_tr e4 (hF _ (by omega) (by omega) (by omega) (by omega)) (hF _ (by omega) (by omega) (by omega) (by omega)) (hF _ (by omega) (by omega) (by omega) (by omega)), fun Q hQ => ⟨STT_tr (e5 Q hQ).1 (hF _ (by omega) (by omega) (by omega) (by omega)) (hF _ (by omega) (by omega) (by omega) (by omega)) (hF _ (by omega) (by omega) (by omega) (by omega)) im (Nat.le_refl _), (e5 Q hQ).2⟩⟩
  · show rdG (f2 178)
    rw [hF 178 (by omega) (by omega) (by omega) (by omega)]; exact hR
theorem k_back (h : RC f n V) : PQ (mX8_back 0 f n) (COI (sBack V)) := by
  obtain ⟨hn, ⟨ag, hp, -⟩, hT, ⟨hK, hV⟩, hRS, hR⟩ := id h
  unfold mX8_back
  refine pq_gI hp rfl ?_
  cases hI : V.2.2.2.1 with
  | none =>
    have e : sBack V = (0, V) := by
      unfold sBack
      rw [hI]
    rw [e]
    exact pq_t rfl (pq_ck (pq_ret ⟨f, n, rfl, h⟩))
  | some I =>
    have e : sBack V = (1, (V.1, I, [], some I, V.2.2.2.2.1, V.2.2.2.2.2)) := by
      unfold sBack
      rw [hI]
    rw [e]
    obtain ⟨hSI, hVI⟩ := hRS.2.1.2 I hI
    rw [hI] at hp hRS
    refine pq_f (show ¬ (1 : Int32) = 0 by decide) (pq_gR hp rfl (pq_ck (pq_call (f_restore (f := f) (n := n) hp sid13 (by omega) hSI (KO_shp hK) hVI) (fun y hy => ?_))))
    obtain ⟨f1, rfl, k1, k2, k3⟩ := hy
    refine pq_pO k1 rfl (pq_ck (pq_ret ⟨_, n, rfl, ?_⟩))
    have hp2 : va_up f1 0 (some (.inr (8, (pfL (bI (some I).isSome) 0 (nI V.2.2.1.length) V.2.2.2.2.1 V.2.2.2.2.2).set 11 (.int 0)))) 0 = some (.inr (8, pfL (bI (some I).isSome) 0 0 V.2.2.2.2.1 V.2.2.2.2.2)) := u_eq
    have hF2 : ∀ j, j ≠ 0 → va_up f1 0 (some (.inr (8, (pfL (bI (some I).isSome) 0 (nI V.2.2.1.length) V.2.2.2.2.1 V.2.2.2.2.2).set 11 (.int 0)))) j = f1 j := fun j hj => u_ne hj
    show RC (va_up f1 0 (some (.inr (8, (pfL (bI (some I).isSome) 0 (nI V.2.2.1.length) V.2.2.2.2.1 V.2.2.2.2.2).set 11 (.int 0))))) n (V.1, I, [], some I, V.2.2.2.2.1, V.2.2.2.2.2)
    generalize va_up f1 0 (some (.inr (8, (pfL (bI (some I).isSome) 0 (nI V.2.2.1.length) V.2.2.2.2.1 V.2.2.2.2.2).set 11 (.int 0)))) = f2 at hp2 hF2 ⊢
    refine ⟨hn, ⟨0, hp2, fun q => absurd rfl q⟩, rw_tr hT ((hF2 _ (by omega)).trans (k3 _ (by omega) (by omega) (by omega) (by omega) (by omega) (by omega) (by omega))) ((hF2 _ (by omega)).trans (k3 _ (by omega) (by omega) (by omega) (by omega) (by omega) (by omega) (by omega))), ⟨KO_tr k2 (fun j hj => hF2 j (by rcases hj with q | q | q | q <;> first | omega | exact (IMM_1 q).1)) (Nat.le_refl _), hVI⟩, RS_frb (RS_frb (RS_nil hRS) (frb_a k3) hn (Nat.le_refl _)) (fun j _ b _ _ _ _ _ _ _ => hF2 j b) hn (Nat.le_refl _), ?_⟩
    show rdG (f2 178)
    rw [hF2 178 (by omega), k3 178 (by omega) (by omega) (by omega) (by omega) (by omega) (by omega) (by omega)]; exact hR
theorem f_four {a : Int32} (h : RC f n V) (hl : V.1.length + 4 ≤ 400) : PQ (mX8_addFour 0 a f n) (fun y => ∃ f', y = (0, f', n) ∧ RC f' n (V.1 ++ f4 a, V.2)) := by
  have one : ∀ {f : AH} {V : SPV} {s : Int32} {d : Nat} {Q : Int32 × HpN → Prop}, RC f n V → V.1.length < 400 → ¬ s < 0 → (∀ f', RC f' n (V.1 ++ [by4 a s], V.2) → PQ (mX8_addFour_l3 d 0 a (s + -8) f' n) Q) → PQ (mX8_addFour_l3 (d + 1) 0 a s f n) Q := by
    intro f V s d Q h hl hs hk
    obtain ⟨ag, hp⟩ := RC_p h
    unfold mX8_addFour_l3
    refine pq_f hs (pq_gR hp rfl (pq_sb (pq_ck (pq_call (f_add (x := by4 a s) h.2.2.1) (fun y hy => ?_)))))
    rcases hy with ⟨-, f', rfl, r, hF⟩ | ⟨q, -⟩
    · refine hk f' ?_
      have hn := h.1
      obtain ⟨hn, ⟨ag, hp, hag⟩, -, ⟨hK, hV⟩, hRS, hR⟩ := h
      exact ⟨hn, ⟨ag, (hF 0 (by omega) (by omega)).trans hp, fun q => CUT_tr (hag q) (fun i a b => hF i (by omega) (by omega))⟩, r, ⟨KO_tr hK (fun j hj => hF j (by rcases hj with q | q | q | q <;> first | omega | exact (IMM_1 q).2.1) (by rcases hj with q | q | q | q <;> first | omega | exact (IMM_1 q).2.2.1)) (Nat.le_refl _), hV⟩, by
        obtain ⟨h8, ⟨h13, hI⟩, ⟨p1, g, p2, p3, p4⟩, hC⟩ := hRS
        have im : ∀ j, IMM n j → f' j = f j := fun j hj => hF j (IMM_1 hj).2.1 (IMM_1 hj).2.2.1
        refine ⟨SSh_tr h8 (hF _ (by omega) (by omega)) (hF _ (by omega) (by omega)) (hF _ (by omega) (by omega)), ⟨SSh_tr h13 (hF _ (by omega) (by omega)) (hF _ (by omega) (by omega)) (hF _ (by omega) (by omega)), fun Q hQ => ⟨STT_tr (hI Q hQ).1 (hF _ (by omega) (by omega)) (hF _ (by omega) (by omega)) (hF _ (by omega) (by omega)) im (Nat.le_refl _), (hI Q hQ).2⟩⟩, ⟨p1, g, (hF _ (by omega) (by omega)).trans p2, fun i hi => ?_, p4⟩, CSh_tr hC (fun i a b => hF i (by omega) (by omega))⟩
        obtain ⟨s, e1, e2, e3, e4, e5⟩ := p3 i hi
        exact ⟨s, e1, e2, e3, SSh_tr e4 (hF _ (by omega) (by omega)) (hF _ (by omega) (by omega)) (hF _ (by omega) (by omega)), fun Q hQ => ⟨STT_tr (e5 Q hQ).1 (hF _ (by omega) (by omega)) (hF _ (by omega) (by omega)) (hF _ (by omega) (by omega)) im (Nat.le_refl _), (e5 Q hQ).2⟩⟩, by
        show rdG (f' 178)
        rw [hF 178 (by omega) (by omega)]; exact hR⟩
    · omega
  unfold mX8_addFour
  refine one h (by omega) (by decide) (fun f1 h1 => ?_)
  refine one (V := (V.1 ++ [by4 a 24], V.2)) h1 (by show (V.1 ++ [by4 a 24]).length < 400; rw [List.length_append]; show V.1.length + 1 < 400; omega) (by decide) (fun f2 h2 => ?_)
  refine one (V := (V.1 ++ [by4 a 24] ++ [by4 a 16], V.2)) h2 (by show (V.1 ++ [by4 a 24] ++ [by4 a 16]).length < 400; rw [List.length_append, List.length_append]; show V.1.length + 1 + 1 < 400; omega) (by decide) (fun f3 h3 => ?_)
  refine one (V := (V.1 ++ [by4 a 24] ++ [by4 a 16] ++ [by4 a 8], V.2)) h3 (by show (V.1 ++ [by4 a 24] ++ [by4 a 16] ++ [by4 a 8]).length < 400; rw [List.length_append, List.length_append, List.length_append]; show V.1.length + 1 + 1 + 1 < 400; omega) (by decide) (fun f4' h4 => ?_)
  unfold mX8_addFour_l3
  refine pq_t (by decide) (pq_ret ⟨f4', rfl, ?_⟩)
  have e : V.1 ++ [by4 a 24] ++ [by4 a 16] ++ [by4 a 8] ++ [by4 a 0] = V.1 ++ f4 a := by
    rw [List.append_assoc, List.append_assoc, List.append_assoc]; rfl
  rw [← e]
  exact h4
theorem k_feed (h : RC f n V) {a b c d e : Int32} : PQ (mX8_feed 0 a b c d e f n) (COI (sFeed V a b c d e)) := by
  obtain ⟨ag, hp⟩ := RC_p h
  have h6 := rw_6 h.2.2.1
  have l4 : ∀ x : Int32, (f4 x).length = 4 := fun _ => rfl
  unfold mX8_feed
  refine pq_gR hp rfl (pq_sb (pq_ck (pq_is (f_size h.2.2.1) ?_)))
  refine pq_le (x := nI V.1.length + (20 : Int32)) (i_add (nI_toInt (by omega)) (show (20 : Int32).toInt = 20 by decide) (by omega)) (show (400 : Int32).toInt = 400 by decide) (fun q => ?_) (fun q => ?_)
  · have es : sFeed V a b c d e = (nI (V.1.length + 20), (V.1 ++ f4 a ++ f4 b ++ f4 c ++ f4 d ++ f4 e, V.2)) := if_pos (by omega)
    rw [es]
    refine pq_ck (pq_call (f_four (f := f) (n := n) h (by omega)) (fun y hy => ?_))
    obtain ⟨f1, rfl, h1⟩ := hy
    refine pq_ck (pq_call (f_four (f := f1) (n := n) (V := (V.1 ++ f4 a, V.2)) h1 (by show (V.1 ++ f4 a).length + 4 ≤ 400; rw [List.length_append, l4]; omega)) (fun y hy => ?_))
    obtain ⟨f2, rfl, h2⟩ := hy
    refine pq_ck (pq_call (f_four (f := f2) (n := n) (V := (V.1 ++ f4 a ++ f4 b, V.2)) h2 (by show (V.1 ++ f4 a ++ f4 b).length + 4 ≤ 400; rw [List.length_append, List.length_append, l4, l4]; omega)) (fun y hy => ?_))
    obtain ⟨f3, rfl, h3⟩ := hy
    refine pq_ck (pq_call (f_four (f := f3) (n := n) (V := (V.1 ++ f4 a ++ f4 b ++ f4 c, V.2)) h3 (by show (V.1 ++ f4 a ++ f4 b ++ f4 c).length + 4 ≤ 400; rw [List.length_append, List.length_append, List.length_append, l4, l4, l4]; omega)) (fun y hy => ?_))
    obtain ⟨f4', rfl, h4⟩ := hy
    refine pq_ck (pq_call (f_four (f := f4') (n := n) (V := (V.1 ++ f4 a ++ f4 b ++ f4 c ++ f4 d, V.2)) h4 (by show (V.1 ++ f4 a ++ f4 b ++ f4 c ++ f4 d).length + 4 ≤ 400; rw [List.length_append, List.length_append, List.length_append, List.length_append, l4, l4, l4, l4]; omega)) (fun y hy => ?_))
    obtain ⟨f5, rfl, h5⟩ := hy
    obtain ⟨ag5, hp5⟩ := RC_p h5
    have hl : (V.1 ++ f4 a ++ f4 b ++ f4 c ++ f4 d ++ f4 e).length = V.1.length + 20 := by
      rw [List.length_append, List.length_append, List.length_append, List.length_append, List.length_append, l4, l4, l4, l4, l4]
    refine pq_gR hp5 rfl (pq_sb (pq_ck (pq_is (f_size h5.2.2.1) (pq_ret ⟨f5, n, ?_, h5⟩))))
    show (nI (V.1 ++ f4 a ++ f4 b ++ f4 c ++ f4 d ++ f4 e).length, f5, n) = _
    rw [hl]
  · have es : sFeed V a b c d e = (-1, V) := if_neg (by omega)
    rw [es]
    exact pq_ret ⟨f, n, rfl, h⟩
theorem k_end (h : RC f n V) {m : Int32} : PQ (mX8_end 0 m f n) (COI (sEnd V m)) := by
  obtain ⟨ag, hp⟩ := RC_p h
  have h6 := rw_6 h.2.2.1
  have bad : ¬ (0 ≤ m.toInt ∧ m.toInt ≤ V.1.length) → PQ (mX8_end_b15 f n) (COI (sEnd V m)) := fun q => by
    have e : sEnd V m = (0, V) := if_neg q
    rw [e]
    exact pq_ck (pq_ret ⟨f, n, rfl, h⟩)
  unfold mX8_end
  refine pq_lt rfl kt_0 (fun q => bad (by omega)) (fun q => ?_)
  refine pq_gR hp rfl (pq_sb (pq_ck (pq_is (f_size h.2.2.1) (pq_le rfl (nI_toInt (by omega)) (fun q2 => ?_) (fun q2 => bad (by omega))))))
  have e : sEnd V m = (1, (V.1.take m.toInt.toNat, V.2)) := if_pos ⟨q, q2⟩
  rw [e]
  have em : m = nI m.toInt.toNat := nI_x q (by omega)
  refine pq_gR hp rfl (pq_sb (pq_ck ?_))
  conv => arg 1; rw [em]
  refine pq_call (f_cutTo (f := f) (n := n) (m := m.toInt.toNat) h.2.2.1 (by omega)) (fun y hy => ?_)
  obtain ⟨f', rfl, r, hF⟩ := hy
  exact pq_ck (pq_ret ⟨f', n, rfl, RC_tape h (fun j _ b => hF j b) r (Nat.le_refl _)⟩)
theorem aL_pos {T : BL} : ∀ (d p : Nat) (S : SST), (aL T d p S).1 = none → 0 < (aL T d p S).2.2.1 := by
  intro d
  induction d with
  | zero => intro p S h; cases h
  | succ d ih =>
    intro p S h
    show 0 < (aSt T p S (aL T d) (rdA T p)).2.2.1
    have h : (aSt T p S (aL T d) (rdA T p)).1 = none := h
    revert h
    unfold aSt
    split
    · intro h; cases h
    · split
      · split
        · split
          · intro _; exact Nat.succ_pos _
          · intro h; cases h
        · intro _; exact Nat.one_pos
      · intro h; cases h
theorem k_acts (h : RC f n V) : PQ (mX8_acts 0 f n) (COK (sActs V)) := by
  unfold mX8_acts
  refine f_prep h (fun f1 hP _ => ?_)
  obtain ⟨⟨hn, ⟨ag, hp, hag⟩, hT, ⟨hK, hV⟩, hRS, hR⟩, h8⟩ := hP
  have hT4 := hT.2.2.1
  obtain ⟨du, p, a, x, y, wd, nm, tx, e178⟩ := hR
  refine pq_gR hp rfl (pq_gR hp rfl (pq_sb (pq_ck (pq_call (f_start (f := f1) (n := n) hT e178) (fun y hy => ?_)))))
  obtain ⟨f2, rfl, hd2, hF2⟩ := hy
  have hp2 : f2 0 = some (.inr (8, pfL (bI V.2.2.2.1.isSome) ag (nI V.2.2.1.length) V.2.2.2.2.1 V.2.2.2.2.2)) := (hF2 0 (by omega)).trans hp
  have hT2 : isRw f2 1 2 400 V.1 := rw_tr hT (hF2 _ (by omega)) (hF2 _ (by omega))
  have im2 : ∀ j, IMM n j → f2 j = f1 j := fun j hj => hF2 j (by have := IMM_1 hj; omega)
  have h82 : STT f2 n 8 V.2.1 := STT_tr h8 (hF2 _ (by omega)) (hF2 _ (by omega)) (hF2 _ (by omega)) im2 (Nat.le_refl _)
  have hK2 : KO f2 n V.2.1 := KO_tr hK (fun j hj => hF2 j (by rcases hj with q | q | q | q <;> first | omega | (have := IMM_1 q; omega))) (Nat.le_refl _)
  have hFb2 : FRb n f1 f2 := fun j _ _ _ _ _ _ g _ _ => hF2 j g
  have fin : ∀ z : AR, z = aTop V.1 V.2.1 → (z.1 = none → z.2.2.1 = 0 → z.2.2.2 = V.2.1) → ∀ y, AFN n f2 (bI V.2.2.2.1.isSome) (nI V.2.2.1.length) V.2.2.2.2.1 V.2.1 z y → COK (sActs V) y := by
    intro z hz hz0 y hy
    obtain ⟨f', n', a1, a2, a3, a4, a5⟩ := hy
    have hRS' := RS_frb (RS_frb hRS hFb2 hn (Nat.le_refl _)) a2 hn a1
    unfold sActs
    rw [← hz]
    cases hw : z.1 with
    | none =>
      rw [hw] at a5
      obtain ⟨rfl, ⟨ag', b1, b2, b3⟩, b4, b5⟩ := a5
      refine ⟨f', n', rfl, by omega, ⟨ag', b1, fun q => ?_⟩, a3, ⟨b4, b5⟩, RS_nil hRS', rdG_of a4⟩
      have hc0 : z.2.2.1 = 0 := by
        rcases Nat.eq_zero_or_pos z.2.2.1 with hh | hh
        · exact hh
        · exact absurd (b2 hh) q
      have e9 := b3 hc0 ag ⟨_, _, _, hp2⟩
      rw [e9] at q
      show CUT f' 115 (pcs z.2.2.2.2.1 (bltS z.2.2.2))
      rw [hz0 hw hc0]
      exact CUT_tr (hag q) (fun i x1 x2 => (a2 i (by omega) (by omega) (by omega) (by omega) (by omega) (by omega) (by omega) (by omega) (by omega)).trans (hF2 i (by omega)))
    | some w =>
      rw [hw] at a5
      obtain ⟨rfl, b1, b2⟩ := a5
      exact ⟨f', n', rfl, by omega, ⟨0, b1, fun q => absurd rfl q⟩, a3, ⟨b2, hV⟩, hRS', rdG_of a4⟩
  by_cases hb : nB V.1 0 < V.1.length
  · rw [decide_eq_true hb] at hd2
    have et : aTop V.1 V.2.1 = aL V.1 14 (nB V.1 0) V.2.1 := if_pos hb
    refine pq_tail (f_acts_l (n0 := n) (f0 := f2) (T := V.1) hn hT4 hV 17 0 (nB V.1 0) f2 n V.2.1 ag _ _ _ _ _ _ (by omega) (by omega) (Nat.le_refl _) frb_rfl hp2 (fun q => by omega) (fun _ g hg => ?_) hT2 hd2 h82 hK2 hV) (fun y hy => ?_)
    · obtain ⟨pc', wn', fp', hg⟩ := hg
      rw [hp2] at hg
      cases hg; rfl
    · refine fin (adk 0 (aL V.1 (14 - 0) (nB V.1 0) V.2.1)) ?_ (fun h1 h2 => ?_) y hy
      · rw [et]; rfl
      · exfalso
        have := aL_pos 14 (nB V.1 0) V.2.1 h1
        have h2 : (aL V.1 14 (nB V.1 0) V.2.1).2.2.1 + 0 = 0 := h2
        omega
  · rw [decide_eq_false hb] at hd2
    have et : aTop V.1 V.2.1 = (none, 0, 0, V.2.1) := if_neg hb
    refine pq_tail (f_stopn hp2 hd2 (f_b150n (n0 := n) (f0 := f2) (S0 := V.2.1) (k := 0) (Nat.le_refl _) frb_rfl hp2 hT2 ⟨_, _, _, _, _, _, _, hd2⟩ hK2 hV (by omega) (fun _ => rfl) (fun q => by omega) (fun _ g hg => ?_) (z := (none, 0, 0, V.2.1)) rfl rfl rfl)) (fun y hy => fin _ et.symm (fun _ _ => rfl) y hy)
    obtain ⟨pc', wn', fp', hg⟩ := hg
    rw [hp2] at hg
    cases hg; rfl
theorem k_fault (h : RC f n V) : PQ (mX8_fault 0 f n) (COI (V.2.2.2.2.2, V)) := by
  obtain ⟨ag, hp⟩ := RC_p h
  unfold mX8_fault
  exact pq_gI hp rfl (pq_ret ⟨f, n, rfl, h⟩)
theorem k_why (h : RC f n V) : PQ (mX8_why 0 f n) (COI (V.2.2.2.2.1, V)) := by
  obtain ⟨ag, hp⟩ := RC_p h
  unfold mX8_why
  exact pq_gI hp rfl (pq_ret ⟨f, n, rfl, h⟩)
end COF
end
/-! part 60a.ref -/
section
/-! the reference: rows hold lists; what a kind finds -/
def RLs (σ : RS9) (r : Nat) (L : BL) : Prop := ∀ i, i < L.length → σ.2 r i = L.getD i 0
def FRX (R F : Nat → Prop) (σ σ' : RS9) : Prop := (∀ k, ¬ R k → σ'.2 k = σ.2 k) ∧ ∀ k, ¬ F k → σ'.1 k = σ.1 k
theorem frx_rfl {R F : Nat → Prop} {σ : RS9} : FRX R F σ σ := ⟨fun _ _ => rfl, fun _ _ => rfl⟩
theorem frx_tr {R F : Nat → Prop} {σ σ' σ'' : RS9} (h1 : FRX R F σ σ') (h2 : FRX R F σ' σ'') : FRX R F σ σ'' := ⟨fun k hk => (h2.1 k hk).trans (h1.1 k hk), fun k hk => (h2.2 k hk).trans (h1.2 k hk)⟩
theorem frx_mono {R F R' F' : Nat → Prop} {σ σ' : RS9} (h : FRX R F σ σ') (hR : ∀ k, R k → R' k) (hF : ∀ k, F k → F' k) : FRX R' F' σ σ' := ⟨fun k hk => h.1 k (fun q => hk (hR k q)), fun k hk => h.2 k (fun q => hk (hF k q))⟩
theorem RL_frx {R F : Nat → Prop} {σ σ' : RS9} {r : Nat} {L : BL} (h : RLs σ r L) (hF : FRX R F σ σ') (hr : ¬ R r) : RLs σ' r L := fun i hi => by rw [hF.1 r hr]; exact h i hi
theorem pq_isr {α β : Type} {Q : β → Prop} {o : Option (α × RS9)} {a : α} {σ : RS9} {k : α × RS9 → Option β} (h1 : PQ o (fun r => r = (a, σ))) (h : PQ (k (a, σ)) Q) : PQ (o.bind k) Q := pq_is h1 h
section RFC
variable {σ : RS9} {r : Nat} {L : BL}
theorem r_endOf {e a : Nat} {s1 s2 : Int32} {p : Int32 → Bool} (hL : RLs σ r L) (h6 : L.length ≤ 700) (hp : ∀ c, p c = (decide (c = s1) || decide (c = s2))) (he : e ≤ L.length) (ha : a ≤ 800) : PQ (mX9_endOf r (nI e) (nI a) s1 s2 σ) (fun y => y = (nI (nx p L a e), σ)) := by
  unfold mX9_endOf
  by_cases hae : a ≤ e
  · have key : ∀ (d i : Nat), a ≤ i → i ≤ e → (∀ k, a ≤ k → k < i → p (L.getD k 0) = false) → PQ (mX9_endOf_l3 d r (nI e) s1 s2 (nI i) σ) (fun y => y = (nI (nx p L a e), σ)) := by
      intro d
      induction d with
      | zero => intro i _ _ _; exact pq_none
      | succ d ih =>
        intro i h1 h2 h3
        unfold mX9_endOf_l3
        refine pq_le (nI_toInt (by omega)) (nI_toInt (by omega)) (fun q => ?_) (fun q => ?_)
        · rw [nx_is h1 h2 h3 (fun h => by omega)]
          exact pq_ret rfl
        · rw [rd_nI (by omega), hL i (by omega)]
          have fin : p (L.getD i 0) = true → PQ (mX9_endOf_b32 (nI i) σ) (fun y => y = (nI (nx p L a e), σ)) := fun h => by
            rw [nx_is h1 h2 h3 (fun _ => h)]
            exact pq_ret rfl
          refine pq_ck (pq_eq (fun q1 => fin (by rw [hp, q1, decide_eq_true rfl]; rfl)) (fun q1 => pq_ck (pq_eq (fun q2 => fin (by rw [hp, q2, decide_eq_true rfl, Bool.or_true])) (fun q2 => ?_))))
          rw [nI_1]
          refine ih (i + 1) (by omega) (by omega) (fun k k1 k2 => ?_)
          by_cases e9 : k = i
          · rw [e9, hp, decide_eq_false q1, decide_eq_false q2]; rfl
          · exact h3 k k1 (by omega)
    exact key rFU a (Nat.le_refl _) hae (fun k h1 h2 => by omega)
  · rw [nx_end (by omega)]
    have key : ∀ d, PQ (mX9_endOf_l3 d r (nI e) s1 s2 (nI a) σ) (fun y => y = (nI a, σ)) := by
      intro d
      cases d with
      | zero => exact pq_none
      | succ d =>
        unfold mX9_endOf_l3
        exact pq_le (nI_toInt (by omega)) (nI_toInt (by omega)) (fun _ => pq_ret rfl) (fun q => by omega)
    exact key rFU
theorem bEq_o {s : Int32} : ∀ c, bEq s c = (decide (c = s) || decide (c = s)) := fun c => by
  unfold bEq
  rw [Bool.or_self]
theorem bSep_o : ∀ c, bSep c = (decide (c = 44) || decide (c = 10)) := fun _ => rfl
/-- what is found so far -/
def FO (σ : RS9) (of ti wh : Nat) (kf : Bool) (C : List CI) : Prop := σ.1 54 = nI C.length ∧ C.length ≤ 600 ∧ ∀ i, i < C.length → σ.2 of i = nI (C.getD i (0, 0, false, 0, 0)).1 ∧ σ.2 ti i = nI (C.getD i (0, 0, false, 0, 0)).2.1 ∧ σ.2 wh i = bI (C.getD i (0, 0, false, 0, 0)).2.2.1 ∧ (kf = true → σ.2 20 i = nI (C.getD i (0, 0, false, 0, 0)).2.2.2.1 ∧ σ.2 21 i = nI (C.getD i (0, 0, false, 0, 0)).2.2.2.2)
abbrev RO5 (of ti wh : Nat) : Nat → Prop := fun k => k = of ∨ k = ti ∨ k = wh ∨ k = 20 ∨ k = 21
abbrev FO1 : Nat → Prop := fun k => k = 54
def OFS (of ti wh : Nat) : Prop := (of = 17 ∧ ti = 18 ∧ wh = 19) ∨ (of = 27 ∧ ti = 28 ∧ wh = 29)
theorem cgd_l {C D : List CI} {i : Nat} (h : i < C.length) : (C ++ D).getD i (0, 0, false, 0, 0) = C.getD i (0, 0, false, 0, 0) := by
  rw [List.getD_eq_getElem?_getD, List.getD_eq_getElem?_getD, List.getElem?_append_left h]
theorem cgd_n {C : List CI} {c : CI} : (C ++ [c]).getD C.length (0, 0, false, 0, 0) = c := by
  rw [List.getD_eq_getElem?_getD, List.getElem?_append_right (Nat.le_refl _), Nat.sub_self]; rfl
theorem ofs_len {of ti wh : Nat} (h : OFS of ti wh) : rLen of = 600 ∧ rLen ti = 600 ∧ rLen wh = 600 := by
  rcases h with ⟨rfl, rfl, rfl⟩ | ⟨rfl, rfl, rfl⟩ <;> exact ⟨rfl, rfl, rfl⟩
theorem r_finds {of ti wh a b : Nat} {w : Bool} {kf : Bool} {C : List CI} (hO : OFS of ti wh) (hF : FO σ of ti wh kf C) (ha : a ≤ 700) (hb : b ≤ 700) : PQ (mX9_finds of ti wh (nI a) (nI b) (bI w) σ) (fun y => (b ≤ a ∧ y = (0, σ)) ∨ (a < b ∧ ∃ σ', y = (0, σ') ∧ FRX (RO5 of ti wh) FO1 σ σ' ∧ σ'.2 20 = σ.2 20 ∧ σ'.2 21 = σ.2 21 ∧ C.length < 600 ∧ σ'.1 54 = nI (C.length + 1) ∧ (∀ i, i < C.length → σ'.2 of i = σ.2 of i ∧ σ'.2 ti i = σ.2 ti i ∧ σ'.2 wh i = σ.2 wh i) ∧ σ'.2 of C.length = nI a ∧ σ'.2 ti C.length = nI b ∧ σ'.2 wh C.length = bI w)) := by
  obtain ⟨h1, h2, h3⟩ := hF
  have hne : of ≠ ti ∧ of ≠ wh ∧ ti ≠ wh ∧ of ≠ 20 ∧ of ≠ 21 ∧ ti ≠ 20 ∧ ti ≠ 21 ∧ wh ≠ 20 ∧ wh ≠ 21 := by unfold OFS at hO; omega
  obtain ⟨l1, l2, l3⟩ := ofs_len hO
  have fin : C.length < 600 → a < b → PQ (mX9_finds_b39 wh (σ.1 54) (bI w) (rSa (rSa σ of (σ.1 54) (nI a)) ti (σ.1 54) (nI b))) (fun y => (b ≤ a ∧ y = (0, σ)) ∨ (a < b ∧ ∃ σ', y = (0, σ') ∧ FRX (RO5 of ti wh) FO1 σ σ' ∧ σ'.2 20 = σ.2 20 ∧ σ'.2 21 = σ.2 21 ∧ C.length < 600 ∧ σ'.1 54 = nI (C.length + 1) ∧ (∀ i, i < C.length → σ'.2 of i = σ.2 of i ∧ σ'.2 ti i = σ.2 ti i ∧ σ'.2 wh i = σ.2 wh i) ∧ σ'.2 of C.length = nI a ∧ σ'.2 ti C.length = nI b ∧ σ'.2 wh C.length = bI w)) := fun hc hab => by
    unfold mX9_finds_b39
    rw [h1]
    have e54 : (rSa (rSa σ of (nI C.length) (nI a)) ti (nI C.length) (nI b)).1 54 + 1 = nI (C.length + 1) := by
      show σ.1 54 + 1 = _
      rw [h1, nI_1]
    rw [e54]
    refine pq_ck (pq_ret (Or.inr ⟨hab, _, rfl, ⟨fun k hk => ?_, fun k hk => ?_⟩, ?_, ?_, hc, sf_eq, fun i hi => ⟨?_, ?_, ?_⟩, ?_, ?_, ?_⟩))
    · show (rSa (rSa (rSa σ of (nI C.length) (nI a)) ti (nI C.length) (nI b)) wh (nI C.length) (bI w)).2 k = σ.2 k
      rw [sa_ne (by omega), sa_ne (by omega), sa_ne (by omega)]
    · exact sf_ne hk
    · show (rSa (rSa (rSa σ of (nI C.length) (nI a)) ti (nI C.length) (nI b)) wh (nI C.length) (bI w)).2 20 = σ.2 20
      rw [sa_ne (by omega), sa_ne (by omega), sa_ne (by omega)]
    · show (rSa (rSa (rSa σ of (nI C.length) (nI a)) ti (nI C.length) (nI b)) wh (nI C.length) (bI w)).2 21 = σ.2 21
      rw [sa_ne (by omega), sa_ne (by omega), sa_ne (by omega)]
    · show (rSa (rSa (rSa σ of (nI C.length) (nI a)) ti (nI C.length) (nI b)) wh (nI C.length) (bI w)).2 of i = σ.2 of i
      rw [sa_ne (by omega), sa_ne (by omega), sa_nI (by omega), if_neg (by omega)]
    · show (rSa (rSa (rSa σ of (nI C.length) (nI a)) ti (nI C.length) (nI b)) wh (nI C.length) (bI w)).2 ti i = σ.2 ti i
      rw [sa_ne (by omega), sa_nI (by omega), if_neg (by omega), sa_ne (by omega)]
    · show (rSa (rSa (rSa σ of (nI C.length) (nI a)) ti (nI C.length) (nI b)) wh (nI C.length) (bI w)).2 wh i = σ.2 wh i
      rw [sa_nI (by omega), if_neg (by omega), sa_ne (by omega), sa_ne (by omega)]
    · show (rSa (rSa (rSa σ of (nI C.length) (nI a)) ti (nI C.length) (nI b)) wh (nI C.length) (bI w)).2 of C.length = nI a
      rw [sa_ne (by omega), sa_ne (by omega), sa_nI (by omega), if_pos rfl]
    · show (rSa (rSa (rSa σ of (nI C.length) (nI a)) ti (nI C.length) (nI b)) wh (nI C.length) (bI w)).2 ti C.length = nI b
      rw [sa_ne (by omega), sa_nI (by omega), if_pos rfl]
    · show (rSa (rSa (rSa σ of (nI C.length) (nI a)) ti (nI C.length) (nI b)) wh (nI C.length) (bI w)).2 wh C.length = bI w
      rw [sa_nI (by omega), if_pos rfl]
  unfold mX9_finds
  refine pq_lt (nI_toInt (by omega)) (nI_toInt (by omega)) (fun q => ?_) (fun q => pq_ret (Or.inl ⟨by omega, rfl⟩))
  refine pq_ckb (fun hb => pq_ck ?_)
  rw [h1, l1] at hb
  have hc := in_nI (by omega) hb
  cases w with
  | false => exact pq_t rfl (fin hc (by omega))
  | true => exact pq_f (show ¬ (1 : Int32) = 0 by decide) (fin hc (by omega))
/-- found, kept as a list -/
theorem FO_ext {σ' : RS9} {of ti wh : Nat} {C : List CI} {c : CI} {kf : Bool} (hF : FO σ of ti wh kf C) (hc : C.length < 600) (h54 : σ'.1 54 = nI (C.length + 1)) (hi : ∀ i, i < C.length → σ'.2 of i = σ.2 of i ∧ σ'.2 ti i = σ.2 ti i ∧ σ'.2 wh i = σ.2 wh i) (h1 : σ'.2 of C.length = nI c.1) (h2 : σ'.2 ti C.length = nI c.2.1) (h3 : σ'.2 wh C.length = bI c.2.2.1) (hk : kf = true → (∀ i, i < C.length → σ'.2 20 i = σ.2 20 i ∧ σ'.2 21 i = σ.2 21 i) ∧ σ'.2 20 C.length = nI c.2.2.2.1 ∧ σ'.2 21 C.length = nI c.2.2.2.2) : FO σ' of ti wh kf (C ++ [c]) := by
  refine ⟨by rw [h54, List.length_append]; rfl, by rw [List.length_append]; show C.length + 1 ≤ 600; omega, fun i hi2 => ?_⟩
  rw [List.length_append] at hi2
  by_cases e : i = C.length
  · rw [e, cgd_n]
    exact ⟨h1, h2, h3, fun q => (hk q).2⟩
  · have hil : i < C.length := by have : i < C.length + 1 := hi2; omega
    rw [cgd_l hil]
    obtain ⟨g1, g2, g3, g4⟩ := hF.2.2 i hil
    obtain ⟨k1, k2, k3⟩ := hi i hil
    refine ⟨k1.trans g1, k2.trans g2, k3.trans g3, fun q => ?_⟩
    obtain ⟨m1, m2⟩ := (hk q).1 i hil
    exact ⟨m1.trans (g4 q).1, m2.trans (g4 q).2⟩
theorem r_isBare {c : Int32} : PQ (mX9_isBare c σ) (fun y => y = (bI (bBare c), σ)) := by
  unfold mX9_isBare bBare
  refine pq_eq (fun q => ?_) (fun q => pq_eq (fun q2 => ?_) (fun q2 => ?_))
  · rw [decide_eq_true q]
    unfold mX9_isBare_b12 mX9_isBare_b17
    exact pq_ck (pq_ret rfl)
  · rw [decide_eq_false q, decide_eq_true q2]
    unfold mX9_isBare_b12 mX9_isBare_b17
    exact pq_ck (pq_ret rfl)
  · rw [decide_eq_false q, decide_eq_false q2]
    exact pq_ck (pq_ret rfl)
end RFC
end
/-! part 60b.lines -/
section
/-! the reference cuts lines, tables -/
theorem ln_blank {L : BL} {a : Nat} (ha : a ≤ L.length) (h : lnE L a ≤ lnK L a) : lnS L a = lnE L a := by
  have hE1 : a ≤ lnE L a := nx_ge
  have hS1 : lnS L a ≤ lnE L a := nx_le hE1
  rcases Nat.lt_or_ge (lnS L a) (lnE L a) with hlt | hge
  · exfalso
    have h1 : bEq 61 (L.getD (lnS L a) 0) = true := nx_at hlt
    have h2 : bNe 32 (L.getD (lnS L a) 0) = false := nx_no (a := a) (b := lnE L a) nx_ge (by show lnS L a < lnK L a; omega)
    unfold bEq at h1
    have h1 := of_decide_eq_true h1
    rw [h1] at h2
    exact absurd h2 (by decide)
  · omega
def NR (r of ti wh : Nat) : Prop := r ≠ of ∧ r ≠ ti ∧ r ≠ wh ∧ r ≠ 20 ∧ r ≠ 21
theorem nr_not {r of ti wh : Nat} (h : NR r of ti wh) : ¬ RO5 of ti wh r := fun q => by unfold NR at h; rcases q with q | q | q | q | q <;> omega
def CQ (σ0 : RS9) (of ti wh : Nat) (kf : Bool) (C : List CI) (y : Int32 × RS9) : Prop := ∃ σ', y = (0, σ') ∧ FO σ' of ti wh kf C ∧ FRX (RO5 of ti wh) FO1 σ0 σ'
section RLN
variable {r : Nat} {L : BL} {of ti wh : Nat}
theorem bNe_t {s c : Int32} (h : c ≠ s) : bNe s c = true := by
  unfold bNe
  rw [decide_eq_false h]; rfl
theorem bNe_f {s c : Int32} (h : c = s) : bNe s c = false := by
  unfold bNe
  rw [decide_eq_true h]; rfl
theorem r_lines (hO : OFS of ti wh) (hr : NR r of ti wh) (h6 : L.length ≤ 600) : ∀ (d a : Nat) (σ : RS9) (C : List CI), RLs σ r L → FO σ of ti wh (decide (of = 17)) C → a ≤ L.length + 1 → PQ (mX9_cutsLines_l3 d r (nI L.length) of ti wh (nI a) σ) (CQ σ of ti wh (decide (of = 17)) (C ++ cutL 0 L a)) := by
  intro d
  induction d with
  | zero => intro a σ C _ _ _; exact pq_none
  | succ d ih =>
    intro a σ C hL hF ha
    unfold mX9_cutsLines_l3
    refine pq_le (nI_toInt (by omega)) (nI_toInt (by omega)) (fun q => ?_) (fun q => ?_)
    · rw [cutL_end (by omega), List.append_nil]
      exact pq_ret ⟨σ, rfl, hF, frx_rfl⟩
    have hlt : a < L.length := by omega
    have hE1 : a ≤ lnE L a := nx_ge
    have hE2 : lnE L a ≤ L.length := nx_le (by omega)
    have hK1 : a ≤ lnK L a := nx_ge
    have hK2 : lnK L a ≤ lnE L a := nx_le hE1
    have hS1 : a ≤ lnS L a := nx_ge
    have hS2 : lnS L a ≤ lnE L a := nx_le hE1
    have ecut : cutL 0 L a = (stL L a).1.toList ++ cutL 0 L (lnE L a + 1) := cutL_st hlt
    -- the next line
    have nxt : ∀ (σ' : RS9) (o : Option CI), (stL L a).1 = o → FO σ' of ti wh (decide (of = 17)) (C ++ o.toList) → RLs σ' r L → FRX (RO5 of ti wh) FO1 σ σ' → PQ (mX9_cutsLines_b199 (fun v1 v2 v3 v4 v5 v6 σ => mX9_cutsLines_l3 d v1 v2 v3 v4 v5 v6 σ) r (nI L.length) of ti wh (nI (lnE L a)) σ') (CQ σ of ti wh (decide (of = 17)) (C ++ cutL 0 L a)) := by
      intro σ' o ho hF' hL' hX
      unfold mX9_cutsLines_b199
      rw [nI_1]
      refine pq_tail (ih (lnE L a + 1) σ' (C ++ o.toList) hL' hF' (by omega)) (fun y hy => ?_)
      obtain ⟨σ'', e1, e2, e3⟩ := hy
      refine ⟨σ'', e1, ?_, frx_tr hX e3⟩
      rw [ecut, ho, ← List.append_assoc]
      exact e2
    have non : (stL L a).1 = none → PQ (mX9_cutsLines_b199 (fun v1 v2 v3 v4 v5 v6 σ => mX9_cutsLines_l3 d v1 v2 v3 v4 v5 v6 σ) r (nI L.length) of ti wh (nI (lnE L a)) σ) (CQ σ of ti wh (decide (of = 17)) (C ++ cutL 0 L a)) := fun h => nxt σ none h (by show FO σ of ti wh _ (C ++ []); rw [List.append_nil]; exact hF) hL frx_rfl
    refine pq_isr (r_endOf hL (by omega) (p := bEq 10) bEq_o (Nat.le_refl _) (by omega)) ?_
    show PQ (mX9_cutsLines_l26 (fun v1 v2 v3 v4 v5 v6 σ => mX9_cutsLines_l3 d v1 v2 v3 v4 v5 v6 σ) rFU r (nI L.length) of ti wh (nI a) (nI (lnE L a)) (nI a) σ) _
    -- behind the blanks ahead
    have k26 : ∀ (Q : Int32 × RS9 → Prop) (rec3 : Nat → Int32 → Nat → Nat → Nat → Int32 → RS9 → Option (Int32 × RS9)), PQ (mX9_cutsLines_b48 rec3 r (nI L.length) of ti wh (nI a) (nI (lnE L a)) (nI (lnK L a)) σ) Q → ∀ (d2 i : Nat), a ≤ i → i ≤ lnE L a → (∀ k, a ≤ k → k < i → bNe 32 (L.getD k 0) = false) → PQ (mX9_cutsLines_l26 rec3 d2 r (nI L.length) of ti wh (nI a) (nI (lnE L a)) (nI i) σ) Q := by
      intro Q rec3 hQ d2
      induction d2 with
      | zero => intro i _ _ _; exact pq_none
      | succ d2 ih2 =>
        intro i h1 h2 h3
        have fin : (i < lnE L a → bNe 32 (L.getD i 0) = true) → PQ (mX9_cutsLines_b48 rec3 r (nI L.length) of ti wh (nI a) (nI (lnE L a)) (nI i) σ) Q := fun h => by
          rw [← show lnK L a = i from nx_is h1 h2 h3 h]; exact hQ
        unfold mX9_cutsLines_l26
        refine pq_le (nI_toInt (by omega)) (nI_toInt (by omega)) (fun q => fin (fun h => by omega)) (fun q => ?_)
        rw [rd_nI (by omega), hL i (by omega)]
        refine pq_ck (pq_eq (fun q1 => ?_) (fun q1 => fin (fun _ => bNe_t q1)))
        rw [nI_1]
        refine ih2 (i + 1) (by omega) (by omega) (fun k k1 k2 => ?_)
        by_cases e : k = i
        · rw [e]; exact bNe_f q1
        · exact h3 k k1 (by omega)
    refine k26 _ _ ?_ rFU a (Nat.le_refl _) hE1 (fun k k1 k2 => by omega)
    unfold mX9_cutsLines_b48
    refine pq_isr (r_endOf hL (by omega) (p := bEq 61) bEq_o hE2 (by omega)) ?_
    show PQ (if nI (lnE L a) ≤ nI (lnK L a) then mX9_cutsLines_b199 (fun v1 v2 v3 v4 v5 v6 σ => mX9_cutsLines_l3 d v1 v2 v3 v4 v5 v6 σ) r (nI L.length) of ti wh (nI (lnE L a)) σ else rCk (rIn (nI (lnK L a)) (rLen r)) ((if (rGa σ r (nI (lnK L a))) = (35 : Int32) then mX9_cutsLines_b199 (fun v1 v2 v3 v4 v5 v6 σ => mX9_cutsLines_l3 d v1 v2 v3 v4 v5 v6 σ) r (nI L.length) of ti wh (nI (lnE L a)) σ else (if nI (lnE L a) ≤ nI (lnS L a) then mX9_cutsLines_b199 (fun v1 v2 v3 v4 v5 v6 σ => mX9_cutsLines_l3 d v1 v2 v3 v4 v5 v6 σ) r (nI L.length) of ti wh (nI (lnE L a)) σ else mX9_cutsLines_l91 (fun v1 v2 v3 v4 v5 v6 σ => mX9_cutsLines_l3 d v1 v2 v3 v4 v5 v6 σ) rFU r (nI L.length) of ti wh (nI (lnE L a)) (nI (lnK L a)) (nI (lnS L a)) (nI (lnS L a) + (1 : Int32)) σ)))) _
    refine pq_le (nI_toInt (by omega)) (nI_toInt (by omega)) (fun q1 => non ?_) (fun q1 => ?_)
    · exact if_pos (Or.inl (ln_blank (by omega) (by omega)))
    rw [rd_nI (by omega), hL _ (by omega)]
    refine pq_ck (pq_eq (fun q2 => non (if_pos (Or.inr (Or.inl q2)))) (fun q2 => ?_))
    refine pq_le (nI_toInt (by omega)) (nI_toInt (by omega)) (fun q3 => non (if_pos (Or.inl (by omega)))) (fun q3 => ?_)
    have hV1 : lnS L a + 1 ≤ lnV L a := nx_ge
    have hV2 : lnV L a ≤ lnE L a := nx_le (by omega)
    have hM := bkn_ge (p := bEq 32) (L := L) (lo := lnK L a) (lnS L a)
    have hM2 := bkn_le (p := bEq 32) (L := L) (lo := lnK L a) (lnS L a)
    have hKS : lnK L a ≤ lnS L a := by
      rcases Nat.lt_or_ge (lnS L a) (lnK L a) with h | h
      · exfalso
        have h1 : bEq 61 (L.getD (lnS L a) 0) = true := nx_at (show nx (bEq 61) L a (lnE L a) < lnE L a by show lnS L a < _; omega)
        have h2 : bNe 32 (L.getD (lnS L a) 0) = false := nx_no (a := a) (b := lnE L a) hS1 (by show lnS L a < lnK L a; omega)
        have h1 := of_decide_eq_true h1
        rw [h1] at h2
        exact absurd h2 (by decide)
      · exact h
    have hM' := hM hKS
    rw [nI_1]
    -- the value's begin
    have k91 : ∀ (Q : Int32 × RS9 → Prop) (rec3 : Nat → Int32 → Nat → Nat → Nat → Int32 → RS9 → Option (Int32 × RS9)), PQ (mX9_cutsLines_b113 rec3 r (nI L.length) of ti wh (nI (lnE L a)) (nI (lnK L a)) (nI (lnS L a)) (nI (lnV L a)) σ) Q → ∀ (d2 i : Nat), lnS L a + 1 ≤ i → i ≤ lnE L a → (∀ k, lnS L a + 1 ≤ k → k < i → bNe 32 (L.getD k 0) = false) → PQ (mX9_cutsLines_l91 rec3 d2 r (nI L.length) of ti wh (nI (lnE L a)) (nI (lnK L a)) (nI (lnS L a)) (nI i) σ) Q := by
      intro Q rec3 hQ d2
      induction d2 with
      | zero => intro i _ _ _; exact pq_none
      | succ d2 ih2 =>
        intro i h1 h2 h3
        have fin : (i < lnE L a → bNe 32 (L.getD i 0) = true) → PQ (mX9_cutsLines_b113 rec3 r (nI L.length) of ti wh (nI (lnE L a)) (nI (lnK L a)) (nI (lnS L a)) (nI i) σ) Q := fun h => by
          rw [← show lnV L a = i from nx_is h1 h2 h3 h]; exact hQ
        unfold mX9_cutsLines_l91
        refine pq_le (nI_toInt (by omega)) (nI_toInt (by omega)) (fun q => fin (fun h => by omega)) (fun q => ?_)
        rw [rd_nI (by omega), hL i (by omega)]
        refine pq_ck (pq_eq (fun q1 => ?_) (fun q1 => fin (fun _ => bNe_t q1)))
        rw [nI_1]
        refine ih2 (i + 1) (by omega) (by omega) (fun k k1 k2 => ?_)
        by_cases e : k = i
        · rw [e]; exact bNe_f q1
        · exact h3 k k1 (by omega)
    refine k91 _ _ ?_ rFU (lnS L a + 1) (Nat.le_refl _) (by omega) (fun k k1 k2 => by omega)
    unfold mX9_cutsLines_b113
    -- the key's end
    have k137 : ∀ (Q : Int32 × RS9 → Prop) (rec3 : Nat → Int32 → Nat → Nat → Nat → Int32 → RS9 → Option (Int32 × RS9)) (σ1 : RS9) (v11 : Int32), RLs σ1 r L → PQ (mX9_cutsLines_b161 rec3 r (nI L.length) of ti wh (nI (lnE L a)) (nI (lnK L a)) v11 (nI (bkn (bEq 32) L (lnK L a) (lnS L a))) σ1) Q → ∀ (d2 i : Nat), lnK L a ≤ i → i ≤ lnS L a → bkn (bEq 32) L (lnK L a) (lnS L a) = bkn (bEq 32) L (lnK L a) i → PQ (mX9_cutsLines_l137 rec3 d2 r (nI L.length) of ti wh (nI (lnE L a)) (nI (lnK L a)) v11 (nI i) σ1) Q := by
      intro Q rec3 σ1 v11 hL1 hQ d2
      induction d2 with
      | zero => intro i _ _ _; exact pq_none
      | succ d2 ih2 =>
        intro i h1 h2 h3
        unfold mX9_cutsLines_l137
        refine pq_le (nI_toInt (by omega)) (nI_toInt (by omega)) (fun q => ?_) (fun q => ?_)
        · have e9 : bkn (bEq 32) L (lnK L a) i = i := bkn_st (by omega)
          rw [e9] at h3
          rw [← h3]; exact hQ
        · rw [show nI i - (1 : Int32) = nI (i - 1) from nI_sb (b := 1) (by omega) (by omega), rd_nI (by omega), hL1 _ (by omega)]
          refine pq_ck (pq_eq (fun q1 => ?_) (fun q1 => ?_))
          · rw [nI_dec (by omega) (by omega)]
            exact ih2 (i - 1) (by omega) (by omega) (by rw [h3]; exact bkn_go (by omega) (decide_eq_true q1))
          · have e9 : bkn (bEq 32) L (lnK L a) i = i := bkn_st (fun h => q1 (of_decide_eq_true h.2))
            rw [e9] at h3
            rw [← h3]; exact hQ
    refine pq_call (r_finds (w := false) hO hF (show lnV L a ≤ 700 by omega) (show lnE L a ≤ 700 by omega)) (fun y hy => ?_)
    rcases hy with ⟨g1, rfl⟩ | ⟨g1, σ1, rfl, g2, g3, g4, g5, g6, g7, g8, g9, g10⟩
    · refine k137 _ _ σ (σ.1 54) hL ?_ rFU (lnS L a) hKS (Nat.le_refl _) rfl
      unfold mX9_cutsLines_b161
      exact pq_le rfl rfl (fun _ => non (if_pos (Or.inr (Or.inr (by omega))))) (fun q => by omega)
    · have hL1 : RLs σ1 r L := RL_frx hL g2 (nr_not hr)
      refine k137 _ _ σ1 (σ.1 54) hL1 ?_ rFU (lnS L a) hKS (Nat.le_refl _) rfl
      unfold mX9_cutsLines_b161
      rw [hF.1, g6]
      refine pq_le (nI_toInt (by omega)) (nI_toInt (by omega)) (fun q => by omega) (fun _ => ?_)
      have est : (stL L a).1 = some (lnV L a, lnE L a, false, lnK L a, lnM L a) := if_neg (fun h => by rcases h with h | h | h <;> first | omega | exact q2 h)
      by_cases h17 : of = 17
      · refine pq_t h17 (pq_ck (pq_ck ?_))
        have em : nI (bkn (bEq 32) L (lnK L a) (lnS L a)) - nI (lnK L a) = nI (lnM L a) := nI_sb hM' (by omega)
        rw [em]
        have hne : of ≠ 20 ∧ of ≠ 21 ∧ ti ≠ 20 ∧ ti ≠ 21 ∧ wh ≠ 20 ∧ wh ≠ 21 := by unfold OFS at hO; omega
        have hX : FRX (RO5 of ti wh) FO1 σ1 (rSa (rSa σ1 20 (nI C.length) (nI (lnK L a))) 21 (nI C.length) (nI (lnM L a))) := ⟨fun k hk => by rw [sa_ne (fun q => hk (by omega)), sa_ne (fun q => hk (by omega))], fun k hk => rfl⟩
        have o1 : ∀ z, z ≠ 20 → z ≠ 21 → (rSa (rSa σ1 20 (nI C.length) (nI (lnK L a))) 21 (nI C.length) (nI (lnM L a))).2 z = σ1.2 z := fun z z1 z2 => by rw [sa_ne z2, sa_ne z1]
        refine nxt _ _ est (FO_ext (c := (lnV L a, lnE L a, false, lnK L a, lnM L a)) hF g5 g6 (fun i hi => ?_) ?_ ?_ ?_ (fun _ => ⟨fun i hi => ⟨?_, ?_⟩, ?_, ?_⟩)) (RL_frx hL1 hX (nr_not hr)) (frx_tr g2 hX)
        · rw [o1 _ hne.1 hne.2.1, o1 _ hne.2.2.1 hne.2.2.2.1, o1 _ hne.2.2.2.2.1 hne.2.2.2.2.2]; exact g7 i hi
        · rw [o1 _ hne.1 hne.2.1]; exact g8
        · rw [o1 _ hne.2.2.1 hne.2.2.2.1]; exact g9
        · rw [o1 _ hne.2.2.2.2.1 hne.2.2.2.2.2]; exact g10
        · rw [sa_ne (by omega), sa_nI (by omega), if_neg (by omega), g3]
        · rw [sa_nI (by omega), if_neg (by omega), sa_ne (by omega), g4]
        · rw [sa_ne (by omega), sa_nI (by omega), if_pos rfl]
        · rw [sa_nI (by omega), if_pos rfl]
      · refine pq_f h17 ?_
        exact nxt σ1 _ est (FO_ext (c := (lnV L a, lnE L a, false, lnK L a, lnM L a)) hF g5 g6 g7 g8 g9 g10 (fun q => absurd (of_decide_eq_true q) h17)) hL1 g2
end RLN
end
/-! part 60c.table -/
section
/-! the reference cuts tables, markup, quotes -/
theorem st_1 {L : BL} {a : Nat} : stepK 1 L a = stT L a := by unfold stepK; rw [if_neg (by decide), if_pos rfl]
theorem st_2 {L : BL} {a : Nat} : stepK 2 L a = stM L a := by unfold stepK; rw [if_neg (by decide), if_neg (by decide), if_pos rfl]
theorem st_3 {L : BL} {a : Nat} : stepK 3 L a = stQ L a := by unfold stepK; rw [if_neg (by decide), if_neg (by decide), if_neg (by decide)]
section RTB
variable {r : Nat} {L : BL} {of ti wh : Nat}
theorem FO_o {σ σ1 : RS9} {C : List CI} {o : Option CI} {x y : Nat} {w : Bool} (hF : FO σ of ti wh false C) (he : o = if x < y then some (x, y, w, 0, 0) else none) (hy : (y ≤ x ∧ σ1 = σ) ∨ (x < y ∧ FRX (RO5 of ti wh) FO1 σ σ1 ∧ σ1.2 20 = σ.2 20 ∧ σ1.2 21 = σ.2 21 ∧ C.length < 600 ∧ σ1.1 54 = nI (C.length + 1) ∧ (∀ i, i < C.length → σ1.2 of i = σ.2 of i ∧ σ1.2 ti i = σ.2 ti i ∧ σ1.2 wh i = σ.2 wh i) ∧ σ1.2 of C.length = nI x ∧ σ1.2 ti C.length = nI y ∧ σ1.2 wh C.length = bI w)) : FO σ1 of ti wh false (C ++ o.toList) ∧ FRX (RO5 of ti wh) FO1 σ σ1 := by
  rcases hy with ⟨g1, rfl⟩ | ⟨g1, g2, g3, g4, g5, g6, g7, g8, g9, g10⟩
  · rw [he, if_neg (by omega)]
    exact ⟨by show FO σ1 of ti wh false (C ++ []); rw [List.append_nil]; exact hF, frx_rfl⟩
  · rw [he, if_pos g1]
    exact ⟨FO_ext (c := (x, y, w, 0, 0)) hF g5 g6 g7 g8 g9 g10 (fun q => by cases q), g2⟩
theorem r_find1 {σ : RS9} {C : List CI} {x y : Nat} {w : Bool} {Q : Int32 × RS9 → Prop} {k : Int32 × RS9 → Option (Int32 × RS9)} (hO : OFS of ti wh) (hF : FO σ of ti wh false C) (hx : x ≤ 700) (hy : y ≤ 700) {o : Option CI} (he : o = if x < y then some (x, y, w, 0, 0) else none) (hk : ∀ σ1, FO σ1 of ti wh false (C ++ o.toList) → FRX (RO5 of ti wh) FO1 σ σ1 → PQ (k (0, σ1)) Q) : PQ ((mX9_finds of ti wh (nI x) (nI y) (bI w) σ).bind k) Q := by
  refine pq_call (r_finds (w := w) hO hF hx hy) (fun z hz => ?_)
  rcases hz with ⟨g1, rfl⟩ | ⟨g1, σ1, rfl, g⟩
  · have := FO_o (σ1 := σ) hF he (Or.inl ⟨g1, rfl⟩)
    exact hk σ this.1 this.2
  · have := FO_o (σ1 := σ1) hF he (Or.inr ⟨g1, g⟩)
    exact hk σ1 this.1 this.2
theorem r_table (hO : OFS of ti wh) (hr : NR r of ti wh) (h6 : L.length ≤ 600) : ∀ (d a : Nat) (σ : RS9) (C : List CI), RLs σ r L → FO σ of ti wh false C → a ≤ L.length + 1 → PQ (mX9_cutsTable_l3 d r (nI L.length) of ti wh (nI a) σ) (CQ σ of ti wh false (C ++ cutL 1 L a)) := by
  intro d
  induction d with
  | zero => intro a σ C _ _ _; exact pq_none
  | succ d ih =>
    intro a σ C hL hF ha
    unfold mX9_cutsTable_l3
    refine pq_le (nI_toInt (by omega)) (nI_toInt (by omega)) (fun q => ?_) (fun q => ?_)
    · rw [cutL_end (by omega), List.append_nil]
      exact pq_ret ⟨σ, rfl, hF, frx_rfl⟩
    have hlt : a < L.length := by omega
    have ecut : cutL 1 L a = (stT L a).1.toList ++ cutL 1 L (stT L a).2 := by rw [← st_1]; exact cutL_st hlt
    have nxt : ∀ (σ' : RS9) (b : Nat), (stT L a).2 = b + 1 → b ≤ L.length → FO σ' of ti wh false (C ++ (stT L a).1.toList) → FRX (RO5 of ti wh) FO1 σ σ' → PQ (mX9_cutsTable_b151 (fun v1 v2 v3 v4 v5 v6 σ => mX9_cutsTable_l3 d v1 v2 v3 v4 v5 v6 σ) r (nI L.length) of ti wh (nI b) σ') (CQ σ of ti wh false (C ++ cutL 1 L a)) := by
      intro σ' b hb hbL hF' hX
      unfold mX9_cutsTable_b151
      rw [nI_1]
      refine pq_tail (ih (b + 1) σ' _ (RL_frx hL hX (nr_not hr)) hF' (by omega)) (fun y hy => ?_)
      obtain ⟨σ'', e1, e2, e3⟩ := hy
      refine ⟨σ'', e1, ?_, frx_tr hX e3⟩
      rw [ecut, hb, ← List.append_assoc]
      exact e2
    have hB1 : a ≤ nx bSep L a L.length := nx_ge
    have hB2 : nx bSep L a L.length ≤ L.length := nx_le (by omega)
    refine pq_isr (r_endOf hL (by omega) (p := bSep) bSep_o (Nat.le_refl _) (by omega)) (pq_ck ?_)
    show PQ (if (rGa σ r (nI a)) = (34 : Int32) then _ else _) _
    rw [rd_nI (by omega), hL a hlt]
    refine pq_eq (fun q1 => ?_) (fun q1 => ?_)
    · have hq1 : a + 1 ≤ qe L (a + 1) := qe_ge
      have hq2 : qe L (a + 1) ≤ L.length := qe_le (by omega)
      have est : stT L a = (if a + 1 < qe L (a + 1) then some (a + 1, qe L (a + 1), true, 0, 0) else none, (if qe L (a + 1) < L.length then nx bSep L (qe L (a + 1) + 1) L.length else L.length) + 1) := if_pos q1
      have fin : PQ (mX9_cutsTable_b93 (fun v1 v2 v3 v4 v5 v6 σ => mX9_cutsTable_l3 d v1 v2 v3 v4 v5 v6 σ) r (nI L.length) of ti wh (nI a) (nI (qe L (a + 1))) σ) (CQ σ of ti wh false (C ++ cutL 1 L a)) := by
        unfold mX9_cutsTable_b93
        rw [nI_1]
        refine r_find1 (w := true) hO hF (by omega) (by omega) (o := (stT L a).1) (by rw [est]) (fun σ1 hF1 hX1 => ?_)
        have hL1 := RL_frx hL hX1 (nr_not hr)
        refine pq_le (nI_toInt (by omega)) (nI_toInt (by omega)) (fun q2 => ?_) (fun q2 => ?_)
        · exact nxt σ1 L.length (by rw [est]; show (if qe L (a + 1) < L.length then _ else L.length) + 1 = _; rw [if_neg (by omega)]) (Nat.le_refl _) hF1 hX1
        · rw [nI_1]
          refine pq_isr (r_endOf hL1 (by omega) (p := bSep) bSep_o (Nat.le_refl _) (by omega)) ?_
          have hb1 : nx bSep L (qe L (a + 1) + 1) L.length ≤ L.length := nx_le (by omega)
          exact nxt σ1 (nx bSep L (qe L (a + 1) + 1) L.length) (by rw [est]; show (if qe L (a + 1) < L.length then _ else L.length) + 1 = _; rw [if_pos (by omega)]) hb1 hF1 hX1
      have k37 : ∀ (d2 i : Nat), i ≤ L.length → qe L (a + 1) = qe L i → PQ (mX9_cutsTable_l37 (fun v1 v2 v3 v4 v5 v6 σ => mX9_cutsTable_l3 d v1 v2 v3 v4 v5 v6 σ) d2 r (nI L.length) of ti wh (nI a) (nI i) σ) (CQ σ of ti wh false (C ++ cutL 1 L a)) := by
        intro d2
        induction d2 with
        | zero => intro i _ _; exact pq_none
        | succ d2 ih2 =>
          intro i hi he
          have stop : qe L i = i → PQ (mX9_cutsTable_b93 (fun v1 v2 v3 v4 v5 v6 σ => mX9_cutsTable_l3 d v1 v2 v3 v4 v5 v6 σ) r (nI L.length) of ti wh (nI a) (nI i) σ) (CQ σ of ti wh false (C ++ cutL 1 L a)) := fun h => by
            rw [h] at he
            rw [← he]; exact fin
          unfold mX9_cutsTable_l37
          refine pq_le (nI_toInt (by omega)) (nI_toInt (by omega)) (fun q2 => stop (qe_end (by omega))) (fun q2 => ?_)
          have hi' : i < L.length := by omega
          have hs := qe_st (L := L) hi'
          rw [rd_nI (by omega), hL i hi', nI_1]
          refine pq_ck (pq_eq (fun q3 => ?_) (fun q3 => ?_))
          · rw [if_pos q3] at hs
            refine pq_le (nI_toInt (by omega)) (nI_toInt (by omega)) (fun q4 => stop ?_) (fun q4 => ?_)
            · rw [hs, if_neg (by omega)]
            · rw [rd_nI (by omega), hL (i + 1) (by omega)]
              refine pq_ck (pq_eq (fun q5 => ?_) (fun q5 => stop ?_))
              · rw [if_pos ⟨by omega, q5⟩] at hs
                unfold mX9_cutsTable_b71
                rw [rd_nI (by omega), hL i hi']
                refine pq_ck (pq_t q3 ?_)
                unfold mX9_cutsTable_b87
                rw [show nI i + (2 : Int32) = nI (i + 2) from nI_add i 2]
                exact ih2 (i + 2) (by omega) (by rw [he, hs])
              · rw [hs, if_neg (fun h => q5 h.2)]
          · rw [if_neg q3] at hs
            unfold mX9_cutsTable_b71
            rw [rd_nI (by omega), hL i hi']
            refine pq_ck (pq_f q3 ?_)
            unfold mX9_cutsTable_b87
            rw [nI_1]
            exact ih2 (i + 1) (by omega) (by rw [he, hs])
      rw [nI_1]
      exact k37 rFU (a + 1) (by omega) rfl
    · have est : stT L a = (if a < nx bSep L a L.length then some (a, nx bSep L a L.length, false, 0, 0) else none, nx bSep L a L.length + 1) := if_neg q1
      refine r_find1 (w := false) hO hF (by omega) (by omega) (o := (stT L a).1) (by rw [est]) (fun σ1 hF1 hX1 => ?_)
      exact nxt σ1 (nx bSep L a L.length) (by rw [est]) hB2 hF1 hX1
theorem bNb_b {c : Int32} : bNb c = !bBare c := rfl
theorem bkn_ee {p : Int32 → Bool} {L : BL} {a : Nat} : bkn p L a a = a := bkn_st (fun h => by omega)
theorem mk_next {L : BL} {b : Nat} (hb : b ≤ L.length) (h : b < L.length → L.getD b 0 = 60) : cutL 2 L b = cutL 2 L (nx (bEq 62) L b L.length + 1) := by
  rcases Nat.lt_or_ge b L.length with hlt | hge
  · rw [cutL_st hlt, st_2]
    have e : stM L b = (none, nx (bEq 62) L b L.length + 1) := if_pos (h hlt)
    rw [e]; rfl
  · rw [cutL_end hge, nx_end hge, cutL_end (by omega)]
theorem r_markup (hO : OFS of ti wh) (hr : NR r of ti wh) (h6 : L.length ≤ 600) : ∀ (d a : Nat) (σ : RS9) (C : List CI), RLs σ r L → FO σ of ti wh false C → a ≤ L.length + 1 → PQ (mX9_cutsMarkup_l3 d r (nI L.length) of ti wh (nI a) σ) (CQ σ of ti wh false (C ++ cutL 2 L a)) := by
  intro d
  induction d with
  | zero => intro a σ C _ _ _; exact pq_none
  | succ d ih =>
    intro a σ C hL hF ha
    unfold mX9_cutsMarkup_l3
    refine pq_le (nI_toInt (by omega)) (nI_toInt (by omega)) (fun q => ?_) (fun q => ?_)
    · rw [cutL_end (by omega), List.append_nil]
      exact pq_ret ⟨σ, rfl, hF, frx_rfl⟩
    have hlt : a < L.length := by omega
    have hb1 : a ≤ mkS L a := nx_ge
    have hb2 : mkS L a ≤ L.length := nx_le (by omega)
    have hx1 : a ≤ mkX L a := nx_ge
    have hx2 : mkX L a ≤ mkS L a := nx_le hb1
    have hy1 : mkX L a ≤ mkY L a := bkn_ge _ hx2
    have hy2 : mkY L a ≤ mkS L a := bkn_le _
    have hat : mkS L a < L.length → L.getD (mkS L a) 0 = 60 := fun h => of_decide_eq_true (nx_at (p := bEq 60) (L := L) (a := a) (b := L.length) h)
    have ecut : cutL 2 L a = (if mkX L a < mkY L a then some (mkX L a, mkY L a, false, 0, 0) else none : Option CI).toList ++ cutL 2 L (nx (bEq 62) L (mkS L a) L.length + 1) := by
      by_cases h60 : L.getD a 0 = 60
      · have es : mkS L a = a := nx_hit hlt (decide_eq_true h60)
        have ex : mkX L a = a := by unfold mkX; rw [es]; exact nx_end (Nat.le_refl _)
        have ey : mkY L a = a := by unfold mkY; rw [es, ex]; exact bkn_ee
        rw [ex, ey, if_neg (by omega), es]
        show cutL 2 L a = [] ++ _
        rw [List.nil_append]
        exact mk_next (by omega) (fun _ => h60)
      · rw [cutL_st hlt, st_2]
        have e : stM L a = (if mkX L a < mkY L a then some (mkX L a, mkY L a, false, 0, 0) else none, mkS L a) := if_neg h60
        rw [e, ← mk_next hb2 hat]
    refine pq_isr (r_endOf hL (by omega) (p := bEq 60) bEq_o (Nat.le_refl _) (by omega)) ?_
    show PQ (mX9_cutsMarkup_l30 (fun v1 v2 v3 v4 v5 v6 σ => mX9_cutsMarkup_l3 d v1 v2 v3 v4 v5 v6 σ) rFU r (nI L.length) of ti wh (nI (mkS L a)) (nI a) (nI (mkS L a)) σ) _
    have fin : PQ (mX9_cutsMarkup_b78 (fun v1 v2 v3 v4 v5 v6 σ => mX9_cutsMarkup_l3 d v1 v2 v3 v4 v5 v6 σ) r (nI L.length) of ti wh (nI (mkS L a)) (nI (mkX L a)) (nI (mkY L a)) σ) (CQ σ of ti wh false (C ++ cutL 2 L a)) := by
      unfold mX9_cutsMarkup_b78
      refine r_find1 (w := false) hO hF (by omega) (by omega) rfl (fun σ1 hF1 hX1 => ?_)
      have hL1 := RL_frx hL hX1 (nr_not hr)
      have hn : nx (bEq 62) L (mkS L a) L.length ≤ L.length := nx_le hb2
      refine pq_isr (r_endOf hL1 (by omega) (p := bEq 62) bEq_o (Nat.le_refl _) (by omega)) ?_
      show PQ (mX9_cutsMarkup_l3 d r (nI L.length) of ti wh (nI (nx (bEq 62) L (mkS L a) L.length) + 1) σ1) _
      rw [nI_1]
      refine pq_tail (ih _ σ1 _ hL1 hF1 (by omega)) (fun y hy => ?_)
      obtain ⟨σ'', e1, e2, e3⟩ := hy
      refine ⟨σ'', e1, ?_, frx_tr hX1 e3⟩
      rw [ecut, ← List.append_assoc]
      exact e2
    have k53 : ∀ (d2 i : Nat), mkX L a ≤ i → i ≤ mkS L a → mkY L a = bkn bBare L (mkX L a) i → PQ (mX9_cutsMarkup_l53 (fun v1 v2 v3 v4 v5 v6 σ => mX9_cutsMarkup_l3 d v1 v2 v3 v4 v5 v6 σ) d2 r (nI L.length) of ti wh (nI (mkS L a)) (nI (mkX L a)) (nI i) σ) (CQ σ of ti wh false (C ++ cutL 2 L a)) := by
      intro d2
      induction d2 with
      | zero => intro i _ _ _; exact pq_none
      | succ d2 ih2 =>
        intro i h1 h2 h3
        unfold mX9_cutsMarkup_l53
        refine pq_le (nI_toInt (by omega)) (nI_toInt (by omega)) (fun q1 => ?_) (fun q1 => ?_)
        · rw [bkn_st (by omega)] at h3
          rw [← h3]; exact fin
        · rw [show nI i - (1 : Int32) = nI (i - 1) from nI_sb (b := 1) (by omega) (by omega), rd_nI (by omega), hL _ (by omega)]
          refine pq_ck (pq_isr r_isBare ?_)
          cases hbr : bBare (L.getD (i - 1) 0) with
          | false =>
            refine pq_t rfl ?_
            rw [bkn_st (fun h => by rw [hbr] at h; cases h.2)] at h3
            rw [← h3]; exact fin
          | true =>
            refine pq_f (show ¬ (1 : Int32) = 0 by decide) ?_
            rw [nI_dec (by omega) (by omega)]
            exact ih2 (i - 1) (by omega) (by omega) (by rw [h3]; exact bkn_go (by omega) hbr)
    have k30 : ∀ (d2 i : Nat), a ≤ i → i ≤ mkS L a → (∀ k, a ≤ k → k < i → bNb (L.getD k 0) = false) → PQ (mX9_cutsMarkup_l30 (fun v1 v2 v3 v4 v5 v6 σ => mX9_cutsMarkup_l3 d v1 v2 v3 v4 v5 v6 σ) d2 r (nI L.length) of ti wh (nI (mkS L a)) (nI i) (nI (mkS L a)) σ) (CQ σ of ti wh false (C ++ cutL 2 L a)) := by
      intro d2
      induction d2 with
      | zero => intro i _ _ _; exact pq_none
      | succ d2 ih2 =>
        intro i h1 h2 h3
        have go : (i < mkS L a → bNb (L.getD i 0) = true) → PQ (mX9_cutsMarkup_l53 (fun v1 v2 v3 v4 v5 v6 σ => mX9_cutsMarkup_l3 d v1 v2 v3 v4 v5 v6 σ) rFU r (nI L.length) of ti wh (nI (mkS L a)) (nI i) (nI (mkS L a)) σ) (CQ σ of ti wh false (C ++ cutL 2 L a)) := fun h => by
          rw [← show mkX L a = i from nx_is h1 h2 h3 h]
          exact k53 rFU (mkS L a) hx2 (Nat.le_refl _) rfl
        unfold mX9_cutsMarkup_l30
        refine pq_le (nI_toInt (by omega)) (nI_toInt (by omega)) (fun q1 => go (fun h => by omega)) (fun q1 => ?_)
        rw [rd_nI (by omega), hL i (by omega)]
        refine pq_ck (pq_isr r_isBare ?_)
        cases hbr : bBare (L.getD i 0) with
        | false => exact pq_t rfl (go (fun _ => by rw [bNb_b, hbr]; rfl))
        | true =>
          refine pq_f (show ¬ (1 : Int32) = 0 by decide) ?_
          rw [nI_1]
          refine ih2 (i + 1) (by omega) (by omega) (fun k k1 k2 => ?_)
          by_cases e : k = i
          · rw [e, bNb_b, hbr]; rfl
          · exact h3 k k1 (by omega)
    exact k30 rFU a (Nat.le_refl _) hb1 (fun k k1 k2 => by omega)
end RTB
end
/-! part 60d.quotes -/
section
/-! the reference cuts quotes; by any kind -/
section RQT
variable {r : Nat} {L : BL} {of ti wh : Nat}
theorem cut3_no {s : Nat} (h : L.length ≤ quA L s) : cutL 3 L s = [] := by
  rcases Nat.lt_or_ge s L.length with hlt | hge
  · rw [cutL_st hlt, st_3]
    have e : stQ L s = (none, L.length + 1) := if_neg (by omega)
    rw [e]
    show [] ++ cutL 3 L (L.length + 1) = []
    rw [cutL_end (by omega)]; rfl
  · exact cutL_end hge
theorem r_quotes (hO : OFS of ti wh) (hr : NR r of ti wh) (h6 : L.length ≤ 600) : ∀ (d z s : Nat) (σ : RS9) (C : List CI), RLs σ r L → FO σ of ti wh false C → z ≤ L.length + 1 → (z < L.length → z = quA L s) → (L.length ≤ z → cutL 3 L s = []) → PQ (mX9_cutsQuotes_l12 d r (nI L.length) of ti wh (nI z) σ) (CQ σ of ti wh false (C ++ cutL 3 L s)) := by
  intro d
  induction d with
  | zero => intro z s σ C _ _ _ _ _; exact pq_none
  | succ d ih =>
    intro z s σ C hL hF hz hz1 hz2
    unfold mX9_cutsQuotes_l12
    refine pq_le (nI_toInt (by omega)) (nI_toInt (by omega)) (fun q => ?_) (fun q => ?_)
    · rw [hz2 (by omega), List.append_nil]
      exact pq_ret ⟨σ, rfl, hF, frx_rfl⟩
    have hlt : z < L.length := by omega
    have ez := hz1 hlt
    have hs : s ≤ z := by rw [ez]; exact nx_ge
    have hsl : s < L.length := by omega
    have eE : quE L s = qq L (z + 1) := by unfold quE; rw [← ez]
    have hE1 : z + 1 ≤ quE L s := by rw [eE]; exact qq_ge
    have hE2 : quE L s ≤ L.length := by rw [eE]; exact qq_le (by omega)
    have est : stQ L s = (if z + 1 < quE L s ∧ ¬ (quW L s < L.length ∧ L.getD (quW L s) 0 = 58) then some (z + 1, quE L s, false, 0, 0) else none, quE L s + 1) := by
      unfold stQ
      rw [← ez, if_pos hlt]
    have ecut : cutL 3 L s = (stQ L s).1.toList ++ cutL 3 L (quE L s + 1) := by
      rw [cutL_st hsl, st_3, est]
    have b138 : ∀ σ', FO σ' of ti wh false (C ++ (stQ L s).1.toList) → FRX (RO5 of ti wh) FO1 σ σ' → PQ (mX9_cutsQuotes_b138 (fun v1 v2 v3 v4 v5 v6 σ => mX9_cutsQuotes_l12 d v1 v2 v3 v4 v5 v6 σ) r (nI L.length) of ti wh (nI (quE L s)) σ') (CQ σ of ti wh false (C ++ cutL 3 L s)) := by
      intro σ' hF' hX
      have hL' := RL_frx hL hX (nr_not hr)
      have go : ∀ z', z' ≤ L.length + 1 → (z' < L.length → z' = quA L (quE L s + 1)) → (L.length ≤ z' → cutL 3 L (quE L s + 1) = []) → PQ (mX9_cutsQuotes_b161 (fun v1 v2 v3 v4 v5 v6 σ => mX9_cutsQuotes_l12 d v1 v2 v3 v4 v5 v6 σ) r (nI L.length) of ti wh (nI z') σ') (CQ σ of ti wh false (C ++ cutL 3 L s)) := by
        intro z' g1 g2 g3
        unfold mX9_cutsQuotes_b161
        refine pq_tail (ih z' (quE L s + 1) σ' _ hL' hF' g1 g2 g3) (fun y hy => ?_)
        obtain ⟨σ'', e1, e2, e3⟩ := hy
        refine ⟨σ'', e1, ?_, frx_tr hX e3⟩
        rw [ecut, ← List.append_assoc]
        exact e2
      unfold mX9_cutsQuotes_b138
      refine pq_le (nI_toInt (by omega)) (nI_toInt (by omega)) (fun q1 => ?_) (fun q1 => ?_)
      · exact go L.length (by omega) (fun h => by omega) (fun _ => cutL_end (by omega))
      · rw [nI_1]
        refine pq_isr (r_endOf hL' (by omega) (p := bEq 34) bEq_o (Nat.le_refl _) (by omega)) ?_
        have hn : quA L (quE L s + 1) ≤ L.length := nx_le (by omega)
        exact go (quA L (quE L s + 1)) (by omega) (fun _ => rfl) (fun h => cut3_no h)
    have hW1 : quE L s + 1 ≤ quW L s := nx_ge
    have hW2 : quW L s ≤ L.length + 1 := by
      rcases Nat.lt_or_ge (quE L s) L.length with h | h
      · have : quW L s ≤ L.length := nx_le (by omega)
        omega
      · have : quW L s = quE L s + 1 := nx_end (by omega)
        omega
    have b97 : PQ (mX9_cutsQuotes_b97 (fun v1 v2 v3 v4 v5 v6 σ => mX9_cutsQuotes_l12 d v1 v2 v3 v4 v5 v6 σ) r (nI L.length) of ti wh (nI z) (nI (quE L s)) (nI (quW L s)) σ) (CQ σ of ti wh false (C ++ cutL 3 L s)) := by
      have b112 : ¬ (quW L s < L.length ∧ L.getD (quW L s) 0 = 58) → PQ (mX9_cutsQuotes_b112 (fun v1 v2 v3 v4 v5 v6 σ => mX9_cutsQuotes_l12 d v1 v2 v3 v4 v5 v6 σ) r (nI L.length) of ti wh (nI z) (nI (quE L s)) σ) (CQ σ of ti wh false (C ++ cutL 3 L s)) := by
        intro hno
        have eo : (stQ L s).1 = if z + 1 < quE L s then some (z + 1, quE L s, false, 0, 0) else none := by
          rw [est]
          show (if z + 1 < quE L s ∧ ¬ (quW L s < L.length ∧ L.getD (quW L s) 0 = 58) then _ else _) = _
          by_cases h : z + 1 < quE L s
          · rw [if_pos ⟨h, hno⟩, if_pos h]
          · rw [if_neg (fun q => h q.1), if_neg h]
        have b134 : PQ (mX9_cutsQuotes_b134 (fun v1 v2 v3 v4 v5 v6 σ => mX9_cutsQuotes_l12 d v1 v2 v3 v4 v5 v6 σ) r (nI L.length) of ti wh (nI (quE L s)) of ti wh (nI (z + 1)) (nI (quE L s)) σ) (CQ σ of ti wh false (C ++ cutL 3 L s)) := by
          unfold mX9_cutsQuotes_b134
          exact r_find1 (w := false) hO hF (by omega) (by omega) eo (fun σ1 hF1 hX1 => b138 σ1 hF1 hX1)
        unfold mX9_cutsQuotes_b112
        rw [nI_1]
        refine pq_le (nI_toInt (by omega)) (nI_toInt (by omega)) (fun q1 => ?_) (fun q1 => b134)
        have e9 : quE L s = L.length := by omega
        rw [e9] at b134 ⊢
        exact b134
      unfold mX9_cutsQuotes_b97
      refine pq_le (nI_toInt (by omega)) (nI_toInt (by omega)) (fun q1 => b112 (by omega)) (fun q1 => ?_)
      rw [rd_nI (by omega), hL _ (by omega)]
      refine pq_ck (pq_eq (fun q2 => ?_) (fun q2 => b112 (fun h => q2 h.2)))
      have eo : (stQ L s).1 = none := by
        rw [est]
        exact if_neg (fun h => h.2 ⟨by omega, q2⟩)
      refine b138 σ ?_ frx_rfl
      rw [eo]
      show FO σ of ti wh false (C ++ [])
      rw [List.append_nil]; exact hF
    have k75 : ∀ (d2 i : Nat), quE L s + 1 ≤ i → i ≤ L.length + 1 → (∀ k, quE L s + 1 ≤ k → k < i → bNb (L.getD k 0) = false) → PQ (mX9_cutsQuotes_l75 (fun v1 v2 v3 v4 v5 v6 σ => mX9_cutsQuotes_l12 d v1 v2 v3 v4 v5 v6 σ) d2 r (nI L.length) of ti wh (nI z) (nI (quE L s)) (nI i) σ) (CQ σ of ti wh false (C ++ cutL 3 L s)) := by
      intro d2
      induction d2 with
      | zero => intro i _ _ _; exact pq_none
      | succ d2 ih2 =>
        intro i h1 h2 h3
        have stop : quW L s = i → PQ (mX9_cutsQuotes_b97 (fun v1 v2 v3 v4 v5 v6 σ => mX9_cutsQuotes_l12 d v1 v2 v3 v4 v5 v6 σ) r (nI L.length) of ti wh (nI z) (nI (quE L s)) (nI i) σ) (CQ σ of ti wh false (C ++ cutL 3 L s)) := fun h => by rw [← h]; exact b97
        unfold mX9_cutsQuotes_l75
        refine pq_le (nI_toInt (by omega)) (nI_toInt (by omega)) (fun q1 => stop ?_) (fun q1 => ?_)
        · rcases Nat.lt_or_ge (quE L s) L.length with h | h
          · by_cases e9 : i = L.length
            · exact nx_is h1 (by omega) h3 (fun h => by omega)
            · exfalso
              have := h3 L.length (by omega) (by omega)
              rw [gd_out (Nat.le_refl _)] at this
              exact absurd this (by decide)
          · have : quW L s = quE L s + 1 := nx_end (by omega)
            omega
        · rw [rd_nI (by omega), hL i (by omega)]
          refine pq_ck (pq_isr r_isBare ?_)
          cases hbr : bBare (L.getD i 0) with
          | false => exact pq_t rfl (stop (nx_is h1 (by omega) h3 (fun _ => by rw [bNb_b, hbr]; rfl)))
          | true =>
            refine pq_f (show ¬ (1 : Int32) = 0 by decide) ?_
            rw [nI_1]
            refine ih2 (i + 1) (by omega) (by omega) (fun k k1 k2 => ?_)
            by_cases e : k = i
            · rw [e, bNb_b, hbr]; rfl
            · exact h3 k k1 (by omega)
    have k24 : ∀ (d2 i : Nat), i ≤ L.length → qq L (z + 1) = qq L i → PQ (mX9_cutsQuotes_l24 (fun v1 v2 v3 v4 v5 v6 σ => mX9_cutsQuotes_l12 d v1 v2 v3 v4 v5 v6 σ) d2 r (nI L.length) of ti wh (nI z) (nI i) σ) (CQ σ of ti wh false (C ++ cutL 3 L s)) := by
      intro d2
      induction d2 with
      | zero => intro i _ _; exact pq_none
      | succ d2 ih2 =>
        intro i hi he
        have stop : qq L i = i → PQ (mX9_cutsQuotes_b69 (fun v1 v2 v3 v4 v5 v6 σ => mX9_cutsQuotes_l12 d v1 v2 v3 v4 v5 v6 σ) r (nI L.length) of ti wh (nI z) (nI i) σ) (CQ σ of ti wh false (C ++ cutL 3 L s)) := fun h => by
          have e9 : quE L s = i := by rw [eE, he, h]
          unfold mX9_cutsQuotes_b69
          rw [nI_1, ← e9]
          exact k75 rFU (quE L s + 1) (Nat.le_refl _) (by omega) (fun k k1 k2 => by omega)
        unfold mX9_cutsQuotes_l24
        refine pq_le (nI_toInt (by omega)) (nI_toInt (by omega)) (fun q2 => stop (qq_end (by omega))) (fun q2 => ?_)
        have hi' : i < L.length := by omega
        have hst := qq_st (L := L) hi'
        have one : qq L i = qq L (i + 1) → PQ (mX9_cutsQuotes_b62 (fun v1 v2 v3 v4 v5 v6 σ => mX9_cutsQuotes_l12 d v1 v2 v3 v4 v5 v6 σ) (fun v1 v2 v3 v4 v5 v6 v7 σ => mX9_cutsQuotes_l24 (fun v1 v2 v3 v4 v5 v6 σ => mX9_cutsQuotes_l12 d v1 v2 v3 v4 v5 v6 σ) d2 v1 v2 v3 v4 v5 v6 v7 σ) r (nI L.length) of ti wh (nI z) (nI i) σ) (CQ σ of ti wh false (C ++ cutL 3 L s)) := fun h => by
          unfold mX9_cutsQuotes_b62 mX9_cutsQuotes_b63
          rw [nI_1]
          exact ih2 (i + 1) (by omega) (by rw [he, h])
        rw [rd_nI (by omega), hL i hi']
        refine pq_ck (pq_eq (fun q3 => stop (by rw [hst, if_pos q3])) (fun q3 => pq_ck ?_))
        rw [if_neg q3] at hst
        refine pq_eq (fun q4 => ?_) (fun q4 => one (by rw [hst, if_neg (fun h => q4 h.1)]))
        rw [nI_1]
        refine pq_le (nI_toInt (by omega)) (nI_toInt (by omega)) (fun q5 => one (by rw [hst, if_neg (by omega)])) (fun q5 => ?_)
        rw [if_pos ⟨q4, by omega⟩] at hst
        unfold mX9_cutsQuotes_b63
        rw [show nI i + (2 : Int32) = nI (i + 2) from nI_add i 2]
        exact ih2 (i + 2) (by omega) (by rw [he, hst])
    rw [nI_1]
    exact k24 rFU (z + 1) (by omega) rfl
theorem FO_nil {σ : RS9} {kf : Bool} : FO (rSf σ 54 0) of ti wh kf [] := ⟨sf_eq, by decide, fun i hi => absurd hi (Nat.not_lt_zero _)⟩
theorem r_cuts {σ : RS9} {k : Int32} (hO : OFS of ti wh) (hr : NR r of ti wh) (h6 : L.length ≤ 600) (hk : k = 0 ∨ k = 1 ∨ k = 2 ∨ k = 3) (hL : RLs σ r L) : PQ (mX9_cuts k r (nI L.length) of ti wh σ) (fun y => ∃ σ', y = (nI (cutL k L 0).length, σ') ∧ FO σ' of ti wh (decide (of = 17) && decide (k = 0)) (cutL k L 0) ∧ FRX (RO5 of ti wh) FO1 σ σ') := by
  have hX0 : FRX (RO5 of ti wh) FO1 σ (rSf σ 54 0) := ⟨fun _ _ => rfl, fun j hj => sf_ne hj⟩
  have hL0 : RLs (rSf σ 54 0) r L := hL
  have fin : ∀ {y : Int32 × RS9} {kf : Bool}, CQ (rSf σ 54 0) of ti wh kf ([] ++ cutL k L 0) y → kf = (decide (of = 17) && decide (k = 0)) → PQ (mX9_cuts_b76 y.2) (fun y => ∃ σ', y = (nI (cutL k L 0).length, σ') ∧ FO σ' of ti wh (decide (of = 17) && decide (k = 0)) (cutL k L 0) ∧ FRX (RO5 of ti wh) FO1 σ σ') := fun hy e => by
    obtain ⟨σ', rfl, e2, e3⟩ := hy
    rw [List.nil_append] at e2
    rw [e] at e2
    refine pq_ret ⟨σ', by rw [← e2.1], e2, frx_tr hX0 e3⟩
  unfold mX9_cuts
  refine pq_eq (fun q => ?_) (fun q0 => pq_eq (fun q => ?_) (fun q1 => pq_eq (fun q => ?_) (fun q2 => ?_)))
  · subst q
    unfold mX9_cutsLines
    exact pq_call (r_lines hO hr h6 rFU 0 _ [] hL0 FO_nil (by omega)) (fun y hy => fin hy (by rw [decide_eq_true rfl, Bool.and_true]))
  · subst q
    unfold mX9_cutsTable
    exact pq_call (r_table hO hr h6 rFU 0 _ [] hL0 FO_nil (by omega)) (fun y hy => fin hy (by rw [decide_eq_false q0, Bool.and_false]))
  · subst q
    unfold mX9_cutsMarkup
    exact pq_call (r_markup hO hr h6 rFU 0 _ [] hL0 FO_nil (by omega)) (fun y hy => fin hy (by rw [decide_eq_false q0, Bool.and_false]))
  · have e3 : k = 3 := by
      rcases hk with h | h | h | h
      · exact absurd h q0
      · exact absurd h q1
      · exact absurd h q2
      · exact h
    subst e3
    unfold mX9_cutsQuotes
    have hn : quA L 0 ≤ L.length := nx_le (Nat.zero_le _)
    refine pq_call (Q1 := CQ (rSf σ 54 0) of ti wh false ([] ++ cutL 3 L 0)) ?_ (fun y hy => fin hy (by rw [decide_eq_false q0, Bool.and_false]))
    refine pq_isr (r_endOf (a := 0) hL0 (by omega) (p := bEq 34) bEq_o (Nat.le_refl _) (by omega)) ?_
    exact r_quotes hO hr h6 rFU (quA L 0) 0 _ [] hL0 FO_nil (by omega) (fun _ => rfl) (fun h => cut3_no h)
end RQT
end
