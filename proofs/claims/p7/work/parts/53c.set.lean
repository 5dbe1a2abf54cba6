theorem f_settle {f : AH} {c0 n st fr lk td : Nat} {cf : CFG} {P : List Pc} {lc : Int32} {la : Option Nat} {pn : Int32} {r r' : Nat} {oe m w kk pp ib ie ik im mm ww kk' pp' : Int32} {oq iq : Bool} {be en b0 kf km : Nat} {t : BL} {g : List Nat} (hC : CB f c0 P) (hl : P.length < 40) (hst : f st = some (.inr (7, stV fr cf.1 cf.2.1 cf.2.2.1 (nI cf.2.2.2.1) lc la pn lk td))) (hsr : st < c0 ∨ c0 + 56 ≤ st) (hle : cf.2.2.2.1 ≤ 40) (hs : f (c0 + 9) = scE r (nI b0) oe (bI oq) (nI kf) (nI km) m w kk pp) (hi : cf.2.1 = 1 → f (c0 + 12) = scE r' ib ie (bI iq) ik im mm ww kk' pp') (hT : isRw f (c0 + 1) (c0 + 2) 600 (txs P ++ t)) (hO : isRw f (c0 + 3) (c0 + 4) 600 (ogs P ++ g.map nI)) (hL : (ogs P).length = (txs P).length) : PQ (mX1_settle c0 (some st) (nI (txs P).length) (nI be) (nI en) f n) (fun y => ∃ f', y = (0, f', n) ∧ CB f' c0 (tk cf P (be, en, oq, decide (cf.2.1 = 1) && iq, decide (nI be = nI b0), kf, km, t, g)) ∧ isRw f' (c0 + 1) (c0 + 2) 600 (txs (tk cf P (be, en, oq, decide (cf.2.1 = 1) && iq, decide (nI be = nI b0), kf, km, t, g))) ∧ isRw f' (c0 + 3) (c0 + 4) 600 (ogs (tk cf P (be, en, oq, decide (cf.2.1 = 1) && iq, decide (nI be = nI b0), kf, km, t, g))) ∧ ∀ j, (j < c0 ∨ c0 + 56 ≤ j) ∨ (c0 + 5 ≤ j ∧ j ≤ c0 + 14) → f' j = f j) := by
  have h6 := rw_6 hT
  rw [List.length_append] at h6
  obtain ⟨a1, ⟨gg, a2, a2'⟩, a3, a4, a5⟩ := id hC
  unfold mX1_settle
  refine pq_gI a1 rfl (pq_f (nI_pos (by omega)) (pq_gI a1 rfl (pq_gR a1 rfl (pq_sb (pq_gL a2 (by omega) (pq_f (nI_ge (by omega) (by omega)) (pq_gR a1 rfl (pq_gI a1 rfl (pq_sb ?_)))))))))
  refine pq_gRA a2 (fun _ => ?_)
  rw [nI_clamp (by omega), a2' _ hl]
  unfold mX1_settle_b32
  refine pq_gR a1 rfl (pq_sb (pq_ck (pq_is (f_size hT) (pq_oNs (pq_sb (pq_gI hst rfl ?_))))))
  have es : nI (txs P ++ t).length - nI (txs P).length = nI t.length := Int32.toInt_inj.mp (by
    rw [List.length_append, i_sub (nI_toInt (by omega)) (nI_toInt (by omega)) (by omega), nI_toInt (by omega)]; omega)
  rw [es]
  have no : okT cf t = false → PQ (mX1_settle_b77 c0 (nI (txs P).length) f n) (fun y => ∃ f', y = (0, f', n) ∧ CB f' c0 (tk cf P (be, en, oq, decide (cf.2.1 = 1) && iq, decide (nI be = nI b0), kf, km, t, g)) ∧ isRw f' (c0 + 1) (c0 + 2) 600 (txs (tk cf P (be, en, oq, decide (cf.2.1 = 1) && iq, decide (nI be = nI b0), kf, km, t, g))) ∧ isRw f' (c0 + 3) (c0 + 4) 600 (ogs (tk cf P (be, en, oq, decide (cf.2.1 = 1) && iq, decide (nI be = nI b0), kf, km, t, g))) ∧ ∀ j, (j < c0 ∨ c0 + 56 ≤ j) ∨ (c0 + 5 ≤ j ∧ j ≤ c0 + 14) → f' j = f j) := by
    intro hno
    have e : tk cf P (be, en, oq, decide (cf.2.1 = 1) && iq, decide (nI be = nI b0), kf, km, t, g) = P := if_neg (fun q => by have q1 : okT cf t = true := q.1; rw [hno] at q1; cases q1)
    rw [e]
    refine pq_tail (f_settle_no a1 hT hO (by omega)) (fun y hy => ?_)
    obtain ⟨f', rfl, g1, g2, g3⟩ := hy
    refine ⟨f', rfl, CB_tr hC (g3 _ (by omega) (by omega)) (fun i x1 x2 => g3 i (by omega) (by omega)), ?_, ?_, fun j hj => g3 j (by omega) (by omega)⟩
    · rw [List.take_left] at g1; exact g1
    · rw [← hL, List.take_left] at g2; exact g2
  have yes : okT cf t = true → PQ (mX1_settle_b94 c0 (some st) (nI (txs P).length) (nI be) (nI en) (some (c0 + 16 + P.length)) (nI t.length) f n) (fun y => ∃ f', y = (0, f', n) ∧ CB f' c0 (tk cf P (be, en, oq, decide (cf.2.1 = 1) && iq, decide (nI be = nI b0), kf, km, t, g)) ∧ isRw f' (c0 + 1) (c0 + 2) 600 (txs (tk cf P (be, en, oq, decide (cf.2.1 = 1) && iq, decide (nI be = nI b0), kf, km, t, g))) ∧ isRw f' (c0 + 3) (c0 + 4) 600 (ogs (tk cf P (be, en, oq, decide (cf.2.1 = 1) && iq, decide (nI be = nI b0), kf, km, t, g))) ∧ ∀ j, (j < c0 ∨ c0 + 56 ≤ j) ∨ (c0 + 5 ≤ j ∧ j ≤ c0 + 14) → f' j = f j) := by
    intro hyes
    have e : tk cf P (be, en, oq, decide (cf.2.1 = 1) && iq, decide (nI be = nI b0), kf, km, t, g) = P ++ [(be, en, oq, decide (cf.2.1 = 1) && iq, decide (nI be = nI b0), kf, km, t, g)] := if_pos ⟨hyes, hl⟩
    rw [e]
    refine pq_tail (f_settle_yes hC hl hst hsr hs hi) (fun y hy => ?_)
    obtain ⟨f', x9, x10, x11, rfl, g1, g2, g3⟩ := hy
    refine ⟨f', rfl, ⟨?_, ⟨gg, (g3 _ (by omega) (by omega)).trans a2, a2'⟩, fun i hi => ?_, fun i hi => ?_, ?_⟩, ?_, ?_, fun j hj => g3 j (by omega) (by omega)⟩
    · rw [List.length_append]; exact g1
    · by_cases ei : i = P.length
      · rw [ei]; exact ⟨_, _, _, _, _, _, _, _, _, x9, x10, x11, g2⟩
      · rw [g3 _ (by omega) (by omega)]; exact a3 i hi
    · rw [List.length_append] at hi
      by_cases ei : i = P.length
      · rw [ei, pgd_n, tAt_n]
        exact ⟨x9, x10, x11, g2⟩
      · have hi2 : i < P.length := by have : i < P.length + 1 := hi; omega
        rw [g3 _ (by omega) (by omega), pgd_l hi2, tAt_l (by omega)]
        exact a4 i hi2
    · rw [List.length_append]; show P.length + 1 ≤ 40; omega
    · rw [txs_app, txs_1]
      exact rw_tr hT (g3 _ (by omega) (by omega)) (g3 _ (by omega) (by omega))
    · rw [ogs_app, ogs_1]
      exact rw_tr hO (g3 _ (by omega) (by omega)) (g3 _ (by omega) (by omega))
  refine pq_lt (nI_toInt (by omega)) (nI_toInt (by omega)) (fun q1 => no ?_) (fun q1 => ?_)
  · unfold okT
    rw [decide_eq_false (by omega)]; rfl
  · refine pq_gI hst rfl ?_
    have e1 : decide (cf.2.2.2.1 ≤ t.length) = true := decide_eq_true (by omega)
    refine pq_eq (fun q2 => yes ?_) (fun q2 => ?_)
    · unfold okT
      rw [e1, decide_eq_true q2]; rfl
    · refine pq_gR a1 rfl (pq_sb (pq_ck (pq_is (f_hasLetter hT (by rw [List.length_append]; omega)) ?_)))
      rw [List.drop_left]
      refine pq_eq (fun q3 => no ?_) (fun q3 => yes ?_)
      · unfold okT
        rw [e1, decide_eq_false q2, bI_0.mp q3]; rfl
      · unfold okT
        rw [e1, decide_eq_false q2]
        cases hx : t.any isLet with
        | true => rfl
        | false => exact absurd (by show bI (t.any isLet) = 0; rw [hx]; rfl) q3
