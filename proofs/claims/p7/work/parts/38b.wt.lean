set_option maxHeartbeats 1000000 in
theorem tX5_isSame_l3 {G : TE} {F0 : AH} {S : Int32} {n : Nat} : ∀ (d : Nat) (v0 : Nat) (v1 : Int32) (v2 : Option Nat) (v3 : Int32) (v4 : Int32) (v5 : Int32) (f : AH), WT G F0 S f n → G.1 v0 = 5 → (∃ i, v2 = some i ∧ G.1 i = 5) → ((-700) ≤ v4.toInt ∧ v4.toInt ≤ 700) → (0 ≤ v5.toInt ∧ v5.toInt ≤ 2000) → v4.toInt - v5.toInt + 3000 < (d : Int) → PO (mX5_isSame_l3 d v0 v1 v2 v3 v4 v5 f n) (fun v f' n' => f' = f ∧ n' = n ∧ (v = 0 ∨ v = 1)) := by
  intro d
  induction d with
  | zero =>
    intro v0 v1 v2 v3 v4 v5 f hW h0 h1 h2 h3  hm
    exfalso
    obtain ⟨iv2, rfl, h1⟩ := h1
    omega
  | succ d ih =>
    intro v0 v1 v2 v3 v4 v5 f hW h0 h1 h2 h3  hm
    obtain ⟨iv2, rfl, h1⟩ := h1
    show PO (if v4 ≤ v5 then rCk (rNb (1 : Int32)) (some ((1 : Int32), (f, n))) else rCk (isO f v0 5) (((mX5_get v0 (v1 + v5) f n).bind fun r3 => (((some iv2)).bind fun j5 => rCk (isO r3.2.1 j5 5) (((mX5_get j5 (v3 + v5) r3.2.1 r3.2.2).bind fun r7 => (if r3.1 = r7.1 then mX5_isSame_l3 d v0 v1 (some j5) v3 v4 (v5 + (1 : Int32)) r7.2.1 r7.2.2 else rCk (rNb (0 : Int32)) (some ((0 : Int32), (r7.2.1, r7.2.2)))))))))) _
    refine po_le rfl rfl (fun q1 => ?_) (fun q1 => ?_)
    · refine po_ck rfl ?_
      exact po_ret ⟨rfl, rfl, (Or.inr rfl)⟩
    · refine po_ck (wt_isO hW h0 (by decide)) ?_
      refine po_ro (tX5_get hW h0) (fun y2 ex2 p2 => ?_)
      dsimp only
      refine po_some ?_
      refine po_ck (wt_isO hW h1 (by decide)) ?_
      refine po_ro (tX5_get hW h1) (fun y3 ex3 p3 => ?_)
      dsimp only
      refine po_eq (fun q4 => ?_) (fun q4 => ?_)
      · have e5 : (v5 + (1 : Int32)).toInt = v5.toInt + 1 := i_add rfl kt_1 (by omega)
        exact (ih v0 v1 (some iv2) v3 v4 (v5 + (1 : Int32)) f hW h0 ⟨_, rfl, h1⟩ (by omega) (by omega)  (by omega))
      · refine po_ck rfl ?_
        exact po_ret ⟨rfl, rfl, (Or.inl rfl)⟩
set_option maxHeartbeats 1000000 in
theorem tX5_isSame {G : TE} {F0 : AH} {S : Int32} {f : AH} {n : Nat} {v0 : Nat} {v1 : Int32} {v2 : Option Nat} {v3 : Int32} {v4 : Int32} (hW : WT G F0 S f n) (h0 : G.1 v0 = 5) (h1 : (∃ i, v2 = some i ∧ G.1 i = 5)) (h2 : ((-700) ≤ v4.toInt ∧ v4.toInt ≤ 700)) : PO (mX5_isSame v0 v1 v2 v3 v4 f n) (fun v f' n' => f' = f ∧ n' = n ∧ (v = 0 ∨ v = 1)) := by
  obtain ⟨iv2, rfl, h1⟩ := h1
  have k_kt_0 := kt_0
  unfold mX5_isSame
  exact (tX5_isSame_l3 rFU v0 v1 (some iv2) v3 v4 (0 : Int32) f hW h0 ⟨_, rfl, h1⟩ (by omega) (by omega)  (by unfold rFU; omega))
set_option maxHeartbeats 1000000 in
theorem tX7_isLocked_l2 {G : TE} {F0 : AH} {S : Int32} {n : Nat} : ∀ (d : Nat) (v0 : Nat) (v1 : Option Nat) (v2 : Int32) (f : AH), WT G F0 S f n → G.1 v0 = 7 → (∃ i, v1 = some i ∧ G.1 i = 6) → (0 ≤ v2.toInt ∧ v2.toInt ≤ 2000) → 3000 - v2.toInt < (d : Int) → PO (mX7_isLocked_l2 d v0 v1 v2 f n) (fun v f' n' => f' = f ∧ n' = n ∧ (v = 0 ∨ v = 1)) := by
  intro d
  induction d with
  | zero =>
    intro v0 v1 v2 f hW h0 h1 h2  hm
    exfalso
    obtain ⟨iv1, rfl, h1⟩ := h1
    omega
  | succ d ih =>
    intro v0 v1 v2 f hW h0 h1 h2  hm
    obtain ⟨iv1, rfl, h1⟩ := h1
    show PO ((gI f v0 7 5).bind fun x1 => (if x1 ≤ v2 then mX7_isLocked_b69 f n else ((gR f v0 7 8).bind fun x2 => ((x2).bind fun j3 => ((gL f j3).bind fun x4 => (if (nI x4) ≤ v2 then mX7_isLocked_b69 f n else ((gR f v0 7 8).bind fun x5 => ((x5).bind fun j6 => ((gRA f j6 v2).bind fun x7 => (oN x7 (mX7_isLocked_b63 (fun v0 v1 v2 f n => mX7_isLocked_l2 d v0 v1 v2 f n) v0 (some iv1) v2 f n) (fun j8 => rCk (isO f j8 5) (((mX5_size j8 f n).bind fun r10 => (((some iv1)).bind fun j12 => ((gI r10.2.1 j12 6 5).bind fun x13 => (if x13 < r10.1 then mX7_isLocked_b63 (fun v0 v1 v2 f n => mX7_isLocked_l2 d v0 v1 v2 f n) v0 (some j12) v2 r10.2.1 r10.2.2 else ((gR r10.2.1 j12 6 0).bind fun x14 => ((gI r10.2.1 j12 6 4).bind fun x15 => rCk (isO r10.2.1 j8 5) (((mX5_size j8 r10.2.1 r10.2.2).bind fun r17 => rCk (isO r17.2.1 j8 5) (((mX5_isSame j8 (0 : Int32) x14 x15 r17.1 r17.2.1 r17.2.2).bind fun r20 => (if r20.1 = (0 : Int32) then mX7_isLocked_b63 (fun v0 v1 v2 f n => mX7_isLocked_l2 d v0 v1 v2 f n) v0 (some j12) v2 r20.2.1 r20.2.2 else rCk (rNb (1 : Int32)) (some ((1 : Int32), (r20.2.1, r20.2.2)))))))))))))))))))))))))) _
    refine po_gI hW h0 rfl rfl (by decide) (fun x1x ex1 (_ : True) => ?_)
    refine po_le rfl rfl (fun q2 => ?_) (fun q2 => ?_)
    · unfold mX7_isLocked_b69
      refine po_ck rfl ?_
      exact po_ret ⟨rfl, rfl, (Or.inl rfl)⟩
    · refine po_gRn (t := 10) hW h0 rfl rfl (by decide) (fun i3 ex3 hi3 => ?_)
      refine po_some ?_
      refine po_gL (N := 4) hW hi3 rfl rfl (by decide) ?_
      refine po_le kn_4 rfl (fun q4 => ?_) (fun q4 => ?_)
      · unfold mX7_isLocked_b69
        refine po_ck rfl ?_
        exact po_ret ⟨rfl, rfl, (Or.inl rfl)⟩
      · refine po_bind ex3 ?_
        refine po_some ?_
        refine po_gRAo (N := 4) hW hi3 rfl rfl (by omega) (fun i5 hi5 => ?_)
        refine po_oN (fun q7 => ?_) (fun i6 q7 => ?_)
        · subst q7
          unfold mX7_isLocked_b63
          have e8 : (v2 + (1 : Int32)).toInt = v2.toInt + 1 := i_add rfl kt_1 (by omega)
          exact (ih v0 (some iv1) (v2 + (1 : Int32)) f hW h0 ⟨_, rfl, h1⟩ (by omega)  (by omega))
        · subst q7
          refine po_ck (wt_isO hW (hi5 i6 rfl) (by decide)) ?_
          refine po_ro (tX5_size hW (hi5 i6 rfl)) (fun y9 ex9 p9 => ?_)
          dsimp only
          refine po_some ?_
          refine po_gI hW h1 rfl rfl (by decide) (fun x10x ex10 (_ : True) => ?_)
          refine po_lt rfl rfl (fun q11 => ?_) (fun q11 => ?_)
          · unfold mX7_isLocked_b63
            have e12 : (v2 + (1 : Int32)).toInt = v2.toInt + 1 := i_add rfl kt_1 (by omega)
            exact (ih v0 (some iv1) (v2 + (1 : Int32)) f hW h0 ⟨_, rfl, h1⟩ (by omega)  (by omega))
          · refine po_gRn (t := 5) hW h1 rfl rfl (by decide) (fun i13 ex13 hi13 => ?_)
            refine po_gI hW h1 rfl rfl (by decide) (fun x14x ex14 (hx14 : 0 ≤ x14x.toInt ∧ x14x.toInt ≤ 700) => ?_)
            refine po_ck (wt_isO hW (hi5 i6 rfl) (by decide)) ?_
            refine po_bind ex9 ?_
            dsimp only
            refine po_ck (wt_isO hW (hi5 i6 rfl) (by decide)) ?_
            refine po_ro (tX5_isSame hW (hi5 i6 rfl) ⟨_, rfl, hi13⟩ (by omega)) (fun y15 ex15 p15 => ?_)
            dsimp only
            refine po_eq (fun q16 => ?_) (fun q16 => ?_)
            · unfold mX7_isLocked_b63
              have e17 : (v2 + (1 : Int32)).toInt = v2.toInt + 1 := i_add rfl kt_1 (by omega)
              exact (ih v0 (some iv1) (v2 + (1 : Int32)) f hW h0 ⟨_, rfl, h1⟩ (by omega)  (by omega))
            · refine po_ck rfl ?_
              exact po_ret ⟨rfl, rfl, (Or.inr rfl)⟩
set_option maxHeartbeats 1000000 in
theorem tX7_isLocked {G : TE} {F0 : AH} {S : Int32} {f : AH} {n : Nat} {v0 : Nat} {v1 : Option Nat} (hW : WT G F0 S f n) (h0 : G.1 v0 = 7) (h1 : (∃ i, v1 = some i ∧ G.1 i = 6)) : PO (mX7_isLocked v0 v1 f n) (fun v f' n' => f' = f ∧ n' = n ∧ (v = 0 ∨ v = 1)) := by
  obtain ⟨iv1, rfl, h1⟩ := h1
  have k_kt_0 := kt_0
  unfold mX7_isLocked
  exact (tX7_isLocked_l2 rFU v0 (some iv1) (0 : Int32) f hW h0 ⟨_, rfl, h1⟩ (by omega)  (by unfold rFU; omega))
set_option maxHeartbeats 1000000 in
theorem tX6_readMarkup {G : TE} {F0 : AH} {S : Int32} {f : AH} {n : Nat} {v0 : Nat} {v1 : Int32} (hW : WT G F0 S f n) (h0 : G.1 v0 = 6) : PO (mX6_readMarkup v0 v1 f n) (fun v f' n' => n' = n ∧ WT G F0 S f' n ∧ (True)) := by
  have k_kt_4 := kt_4
  have k_kt_5 := kt_5
  unfold mX6_readMarkup
  refine po_gRn (t := 5) hW h0 rfl rfl (by decide) (fun i1 ex1 hi1 => ?_)
  refine po_some ?_
  refine po_ck (wt_isO hW hi1 (by decide)) ?_
  refine po_ro (tX5_get hW hi1) (fun y2 ex2 p2 => ?_)
  dsimp only
  refine po_eq (fun q3 => ?_) (fun q3 => ?_)
  · refine po_gI hW h0 rfl rfl (by decide) (fun x4x ex4 (hx4 : (-1) ≤ x4x.toInt ∧ x4x.toInt ≤ 702) => ?_)
    refine po_le rfl rfl (fun q5 => ?_) (fun q5 => ?_)
    · unfold mX6_readMarkup_b154
      exact po_ret ⟨rfl, hW, trivial⟩
    · refine po_bind ex1 ?_
      refine po_some ?_
      refine po_ck (wt_isO hW hi1 (by decide)) ?_
      refine po_ro (tX5_get hW hi1) (fun y6 ex6 p6 => ?_)
      dsimp only
      refine po_eq (fun q7 => ?_) (fun q7 => ?_)
      · refine po_bind ex1 ?_
        refine po_some ?_
        refine po_ck (wt_isO hW hi1 (by decide)) ?_
        refine po_ro (tX5_get hW hi1) (fun y8 ex8 p8 => ?_)
        dsimp only
        refine po_eq (fun q9 => ?_) (fun q9 => ?_)
        · refine po_bind ex1 ?_
          refine po_some ?_
          refine po_ck (wt_isO hW hi1 (by decide)) ?_
          refine po_ro (tX5_get hW hi1) (fun y10 ex10 p10 => ?_)
          dsimp only
          refine po_eq (fun q11 => ?_) (fun q11 => ?_)
          · refine po_pI hW h0 rfl rfl (vv_i (by decide) (vi7 (by omega))) (fun g12 hW12 ex12 => ?_)
            unfold mX6_readMarkup_b154
            exact po_ret ⟨rfl, hW12, trivial⟩
          · unfold mX6_readMarkup_b154
            exact po_ret ⟨rfl, hW, trivial⟩
        · unfold mX6_readMarkup_b154
          exact po_ret ⟨rfl, hW, trivial⟩
      · unfold mX6_readMarkup_b154
        exact po_ret ⟨rfl, hW, trivial⟩
  · refine po_eq (fun q13 => ?_) (fun q13 => ?_)
    · unfold mX6_readMarkup_b92
      refine po_gI hW h0 rfl rfl (by decide) (fun x14x ex14 (hx14 : (-1) ≤ x14x.toInt ∧ x14x.toInt ≤ 702) => ?_)
      refine po_le rfl rfl (fun q15 => ?_) (fun q15 => ?_)
      · unfold mX6_readMarkup_b154
        exact po_ret ⟨rfl, hW, trivial⟩
      · refine po_bind ex1 ?_
        refine po_some ?_
        refine po_ck (wt_isO hW hi1 (by decide)) ?_
        refine po_ro (tX5_get hW hi1) (fun y16 ex16 p16 => ?_)
        dsimp only
        refine po_eq (fun q17 => ?_) (fun q17 => ?_)
        · refine po_bind ex1 ?_
          refine po_some ?_
          refine po_ck (wt_isO hW hi1 (by decide)) ?_
          refine po_ro (tX5_get hW hi1) (fun y18 ex18 p18 => ?_)
          dsimp only
          refine po_eq (fun q19 => ?_) (fun q19 => ?_)
          · refine po_eq (fun q20 => ?_) (fun q20 => ?_)
            · unfold mX6_readMarkup_b146
              refine po_pI hW h0 rfl rfl (vv_i (by decide) trivial) (fun g21 hW21 ex21 => ?_)
              refine po_pI hW21 h0 rfl rfl (vv_i (by decide) (vi7 (by omega))) (fun g22 hW22 ex22 => ?_)
              unfold mX6_readMarkup_b154
              exact po_ret ⟨rfl, hW22, trivial⟩
            · unfold mX6_readMarkup_b146
              refine po_pI hW h0 rfl rfl (vv_i (by decide) trivial) (fun g23 hW23 ex23 => ?_)
              refine po_pI hW23 h0 rfl rfl (vv_i (by decide) (vi7 (by omega))) (fun g24 hW24 ex24 => ?_)
              unfold mX6_readMarkup_b154
              exact po_ret ⟨rfl, hW24, trivial⟩
          · unfold mX6_readMarkup_b154
            exact po_ret ⟨rfl, hW, trivial⟩
        · unfold mX6_readMarkup_b154
          exact po_ret ⟨rfl, hW, trivial⟩
    · refine po_eq (fun q25 => ?_) (fun q25 => ?_)
      · unfold mX6_readMarkup_b92
        refine po_gI hW h0 rfl rfl (by decide) (fun x26x ex26 (hx26 : (-1) ≤ x26x.toInt ∧ x26x.toInt ≤ 702) => ?_)
        refine po_le rfl rfl (fun q27 => ?_) (fun q27 => ?_)
        · unfold mX6_readMarkup_b154
          exact po_ret ⟨rfl, hW, trivial⟩
        · refine po_bind ex1 ?_
          refine po_some ?_
          refine po_ck (wt_isO hW hi1 (by decide)) ?_
          refine po_ro (tX5_get hW hi1) (fun y28 ex28 p28 => ?_)
          dsimp only
          refine po_eq (fun q29 => ?_) (fun q29 => ?_)
          · refine po_bind ex1 ?_
            refine po_some ?_
            refine po_ck (wt_isO hW hi1 (by decide)) ?_
            refine po_ro (tX5_get hW hi1) (fun y30 ex30 p30 => ?_)
            dsimp only
            refine po_eq (fun q31 => ?_) (fun q31 => ?_)
            · refine po_eq (fun q32 => ?_) (fun q32 => ?_)
              · unfold mX6_readMarkup_b146
                refine po_pI hW h0 rfl rfl (vv_i (by decide) trivial) (fun g33 hW33 ex33 => ?_)
                refine po_pI hW33 h0 rfl rfl (vv_i (by decide) (vi7 (by omega))) (fun g34 hW34 ex34 => ?_)
                unfold mX6_readMarkup_b154
                exact po_ret ⟨rfl, hW34, trivial⟩
              · unfold mX6_readMarkup_b146
                refine po_pI hW h0 rfl rfl (vv_i (by decide) trivial) (fun g35 hW35 ex35 => ?_)
                refine po_pI hW35 h0 rfl rfl (vv_i (by decide) (vi7 (by omega))) (fun g36 hW36 ex36 => ?_)
                unfold mX6_readMarkup_b154
                exact po_ret ⟨rfl, hW36, trivial⟩
            · unfold mX6_readMarkup_b154
              exact po_ret ⟨rfl, hW, trivial⟩
          · unfold mX6_readMarkup_b154
            exact po_ret ⟨rfl, hW, trivial⟩
      · unfold mX6_readMarkup_b154
        exact po_ret ⟨rfl, hW, trivial⟩
set_option maxHeartbeats 1000000 in
theorem tX6_readBack {G : TE} {F0 : AH} {S : Int32} {f : AH} {n : Nat} {v0 : Nat} {v1 : Int32} (hW : WT G F0 S f n) (h0 : G.1 v0 = 6) : PO (mX6_readBack v0 v1 f n) (fun v f' n' => n' = n ∧ WT G F0 S f' n ∧ (True)) := by
  have k_kt_2 := kt_2
  unfold mX6_readBack
  refine po_gI hW h0 rfl rfl (by decide) (fun x1x ex1 (_ : True) => ?_)
  refine po_eq (fun q2 => ?_) (fun q2 => ?_)
  · unfold mX6_readBack_b14
    refine po_eq (fun q3 => ?_) (fun q3 => ?_)
    · unfold mX6_readBack_b38
      refine po_eq (fun q4 => ?_) (fun q4 => ?_)
      · unfold mX6_readBack_b62
        refine po_pI hW h0 rfl rfl (vv_i (by decide) trivial) (fun g5 hW5 ex5 => ?_)
        refine po_pI hW5 h0 rfl rfl (vv_i (by decide) (vi7 (by omega))) (fun g6 hW6 ex6 => ?_)
        unfold mX6_readBack_b70
        exact po_ret ⟨rfl, hW6, trivial⟩
      · refine po_eq (fun q7 => ?_) (fun q7 => ?_)
        · unfold mX6_readBack_b62
          refine po_pI hW h0 rfl rfl (vv_i (by decide) trivial) (fun g8 hW8 ex8 => ?_)
          refine po_pI hW8 h0 rfl rfl (vv_i (by decide) (vi7 (by omega))) (fun g9 hW9 ex9 => ?_)
          unfold mX6_readBack_b70
          exact po_ret ⟨rfl, hW9, trivial⟩
        · unfold mX6_readBack_b62
          refine po_pI hW h0 rfl rfl (vv_i (by decide) trivial) (fun g10 hW10 ex10 => ?_)
          refine po_pI hW10 h0 rfl rfl (vv_i (by decide) (vi7 (by omega))) (fun g11 hW11 ex11 => ?_)
          unfold mX6_readBack_b70
          exact po_ret ⟨rfl, hW11, trivial⟩
    · refine po_eq (fun q12 => ?_) (fun q12 => ?_)
      · unfold mX6_readBack_b38
        refine po_eq (fun q13 => ?_) (fun q13 => ?_)
        · unfold mX6_readBack_b62
          refine po_pI hW h0 rfl rfl (vv_i (by decide) trivial) (fun g14 hW14 ex14 => ?_)
          refine po_pI hW14 h0 rfl rfl (vv_i (by decide) (vi7 (by omega))) (fun g15 hW15 ex15 => ?_)
          unfold mX6_readBack_b70
          exact po_ret ⟨rfl, hW15, trivial⟩
        · refine po_eq (fun q16 => ?_) (fun q16 => ?_)
          · unfold mX6_readBack_b62
            refine po_pI hW h0 rfl rfl (vv_i (by decide) trivial) (fun g17 hW17 ex17 => ?_)
            refine po_pI hW17 h0 rfl rfl (vv_i (by decide) (vi7 (by omega))) (fun g18 hW18 ex18 => ?_)
            unfold mX6_readBack_b70
            exact po_ret ⟨rfl, hW18, trivial⟩
          · unfold mX6_readBack_b62
            refine po_pI hW h0 rfl rfl (vv_i (by decide) trivial) (fun g19 hW19 ex19 => ?_)
            refine po_pI hW19 h0 rfl rfl (vv_i (by decide) (vi7 (by omega))) (fun g20 hW20 ex20 => ?_)
            unfold mX6_readBack_b70
            exact po_ret ⟨rfl, hW20, trivial⟩
      · refine po_eq (fun q21 => ?_) (fun q21 => ?_)
        · unfold mX6_readBack_b38
          refine po_eq (fun q22 => ?_) (fun q22 => ?_)
          · unfold mX6_readBack_b62
            refine po_pI hW h0 rfl rfl (vv_i (by decide) trivial) (fun g23 hW23 ex23 => ?_)
            refine po_pI hW23 h0 rfl rfl (vv_i (by decide) (vi7 (by omega))) (fun g24 hW24 ex24 => ?_)
            unfold mX6_readBack_b70
            exact po_ret ⟨rfl, hW24, trivial⟩
          · refine po_eq (fun q25 => ?_) (fun q25 => ?_)
            · unfold mX6_readBack_b62
              refine po_pI hW h0 rfl rfl (vv_i (by decide) trivial) (fun g26 hW26 ex26 => ?_)
              refine po_pI hW26 h0 rfl rfl (vv_i (by decide) (vi7 (by omega))) (fun g27 hW27 ex27 => ?_)
              unfold mX6_readBack_b70
              exact po_ret ⟨rfl, hW27, trivial⟩
            · unfold mX6_readBack_b62
              refine po_pI hW h0 rfl rfl (vv_i (by decide) trivial) (fun g28 hW28 ex28 => ?_)
              refine po_pI hW28 h0 rfl rfl (vv_i (by decide) (vi7 (by omega))) (fun g29 hW29 ex29 => ?_)
              unfold mX6_readBack_b70
              exact po_ret ⟨rfl, hW29, trivial⟩
        · refine po_eq (fun q30 => ?_) (fun q30 => ?_)
          · unfold mX6_readBack_b38
            refine po_eq (fun q31 => ?_) (fun q31 => ?_)
            · unfold mX6_readBack_b62
              refine po_pI hW h0 rfl rfl (vv_i (by decide) trivial) (fun g32 hW32 ex32 => ?_)
              refine po_pI hW32 h0 rfl rfl (vv_i (by decide) (vi7 (by omega))) (fun g33 hW33 ex33 => ?_)
              unfold mX6_readBack_b70
              exact po_ret ⟨rfl, hW33, trivial⟩
            · refine po_eq (fun q34 => ?_) (fun q34 => ?_)
              · unfold mX6_readBack_b62
                refine po_pI hW h0 rfl rfl (vv_i (by decide) trivial) (fun g35 hW35 ex35 => ?_)
                refine po_pI hW35 h0 rfl rfl (vv_i (by decide) (vi7 (by omega))) (fun g36 hW36 ex36 => ?_)
                unfold mX6_readBack_b70
                exact po_ret ⟨rfl, hW36, trivial⟩
              · unfold mX6_readBack_b62
                refine po_pI hW h0 rfl rfl (vv_i (by decide) trivial) (fun g37 hW37 ex37 => ?_)
                refine po_pI hW37 h0 rfl rfl (vv_i (by decide) (vi7 (by omega))) (fun g38 hW38 ex38 => ?_)
                unfold mX6_readBack_b70
                exact po_ret ⟨rfl, hW38, trivial⟩
          · unfold mX6_readBack_b70
            exact po_ret ⟨rfl, hW, trivial⟩
  · unfold mX6_readBack_b14
    refine po_eq (fun q39 => ?_) (fun q39 => ?_)
    · unfold mX6_readBack_b38
      refine po_eq (fun q40 => ?_) (fun q40 => ?_)
      · unfold mX6_readBack_b62
        refine po_pI hW h0 rfl rfl (vv_i (by decide) trivial) (fun g41 hW41 ex41 => ?_)
        refine po_pI hW41 h0 rfl rfl (vv_i (by decide) (vi7 (by omega))) (fun g42 hW42 ex42 => ?_)
        unfold mX6_readBack_b70
        exact po_ret ⟨rfl, hW42, trivial⟩
      · refine po_eq (fun q43 => ?_) (fun q43 => ?_)
        · unfold mX6_readBack_b62
          refine po_pI hW h0 rfl rfl (vv_i (by decide) trivial) (fun g44 hW44 ex44 => ?_)
          refine po_pI hW44 h0 rfl rfl (vv_i (by decide) (vi7 (by omega))) (fun g45 hW45 ex45 => ?_)
          unfold mX6_readBack_b70
          exact po_ret ⟨rfl, hW45, trivial⟩
        · unfold mX6_readBack_b62
          refine po_pI hW h0 rfl rfl (vv_i (by decide) trivial) (fun g46 hW46 ex46 => ?_)
          refine po_pI hW46 h0 rfl rfl (vv_i (by decide) (vi7 (by omega))) (fun g47 hW47 ex47 => ?_)
          unfold mX6_readBack_b70
          exact po_ret ⟨rfl, hW47, trivial⟩
    · refine po_eq (fun q48 => ?_) (fun q48 => ?_)
      · unfold mX6_readBack_b38
        refine po_eq (fun q49 => ?_) (fun q49 => ?_)
        · unfold mX6_readBack_b62
          refine po_pI hW h0 rfl rfl (vv_i (by decide) trivial) (fun g50 hW50 ex50 => ?_)
          refine po_pI hW50 h0 rfl rfl (vv_i (by decide) (vi7 (by omega))) (fun g51 hW51 ex51 => ?_)
          unfold mX6_readBack_b70
          exact po_ret ⟨rfl, hW51, trivial⟩
        · refine po_eq (fun q52 => ?_) (fun q52 => ?_)
          · unfold mX6_readBack_b62
            refine po_pI hW h0 rfl rfl (vv_i (by decide) trivial) (fun g53 hW53 ex53 => ?_)
            refine po_pI hW53 h0 rfl rfl (vv_i (by decide) (vi7 (by omega))) (fun g54 hW54 ex54 => ?_)
            unfold mX6_readBack_b70
            exact po_ret ⟨rfl, hW54, trivial⟩
          · unfold mX6_readBack_b62
            refine po_pI hW h0 rfl rfl (vv_i (by decide) trivial) (fun g55 hW55 ex55 => ?_)
            refine po_pI hW55 h0 rfl rfl (vv_i (by decide) (vi7 (by omega))) (fun g56 hW56 ex56 => ?_)
            unfold mX6_readBack_b70
            exact po_ret ⟨rfl, hW56, trivial⟩
      · refine po_eq (fun q57 => ?_) (fun q57 => ?_)
        · unfold mX6_readBack_b38
          refine po_eq (fun q58 => ?_) (fun q58 => ?_)
          · unfold mX6_readBack_b62
            refine po_pI hW h0 rfl rfl (vv_i (by decide) trivial) (fun g59 hW59 ex59 => ?_)
            refine po_pI hW59 h0 rfl rfl (vv_i (by decide) (vi7 (by omega))) (fun g60 hW60 ex60 => ?_)
            unfold mX6_readBack_b70
            exact po_ret ⟨rfl, hW60, trivial⟩
          · refine po_eq (fun q61 => ?_) (fun q61 => ?_)
            · unfold mX6_readBack_b62
              refine po_pI hW h0 rfl rfl (vv_i (by decide) trivial) (fun g62 hW62 ex62 => ?_)
              refine po_pI hW62 h0 rfl rfl (vv_i (by decide) (vi7 (by omega))) (fun g63 hW63 ex63 => ?_)
              unfold mX6_readBack_b70
              exact po_ret ⟨rfl, hW63, trivial⟩
            · unfold mX6_readBack_b62
              refine po_pI hW h0 rfl rfl (vv_i (by decide) trivial) (fun g64 hW64 ex64 => ?_)
              refine po_pI hW64 h0 rfl rfl (vv_i (by decide) (vi7 (by omega))) (fun g65 hW65 ex65 => ?_)
              unfold mX6_readBack_b70
              exact po_ret ⟨rfl, hW65, trivial⟩
        · refine po_eq (fun q66 => ?_) (fun q66 => ?_)
          · unfold mX6_readBack_b38
            refine po_eq (fun q67 => ?_) (fun q67 => ?_)
            · unfold mX6_readBack_b62
              refine po_pI hW h0 rfl rfl (vv_i (by decide) trivial) (fun g68 hW68 ex68 => ?_)
              refine po_pI hW68 h0 rfl rfl (vv_i (by decide) (vi7 (by omega))) (fun g69 hW69 ex69 => ?_)
              unfold mX6_readBack_b70
              exact po_ret ⟨rfl, hW69, trivial⟩
            · refine po_eq (fun q70 => ?_) (fun q70 => ?_)
              · unfold mX6_readBack_b62
                refine po_pI hW h0 rfl rfl (vv_i (by decide) trivial) (fun g71 hW71 ex71 => ?_)
                refine po_pI hW71 h0 rfl rfl (vv_i (by decide) (vi7 (by omega))) (fun g72 hW72 ex72 => ?_)
                unfold mX6_readBack_b70
                exact po_ret ⟨rfl, hW72, trivial⟩
              · unfold mX6_readBack_b62
                refine po_pI hW h0 rfl rfl (vv_i (by decide) trivial) (fun g73 hW73 ex73 => ?_)
                refine po_pI hW73 h0 rfl rfl (vv_i (by decide) (vi7 (by omega))) (fun g74 hW74 ex74 => ?_)
                unfold mX6_readBack_b70
                exact po_ret ⟨rfl, hW74, trivial⟩
          · unfold mX6_readBack_b70
            exact po_ret ⟨rfl, hW, trivial⟩
set_option maxHeartbeats 1000000 in
theorem tX6_read {G : TE} {F0 : AH} {S : Int32} {f : AH} {n : Nat} {v0 : Nat} {v1 : Int32} (hW : WT G F0 S f n) (h0 : G.1 v0 = 6) : PO (mX6_read v0 v1 f n) (fun v f' n' => n' = n ∧ WT G F0 S f' n ∧ (True)) := by
  have k_kt_1 := kt_1
  have k_kt_2 := kt_2
  unfold mX6_read
  refine po_gRn (t := 5) hW h0 rfl rfl (by decide) (fun i1 ex1 hi1 => ?_)
  refine po_some ?_
  refine po_ck (wt_isO hW hi1 (by decide)) ?_
  refine po_ro (tX5_get hW hi1) (fun y2 ex2 p2 => ?_)
  dsimp only
  refine po_pI hW h0 rfl rfl (vv_i (by decide) trivial) (fun g3 hW3 ex3 => ?_)
  refine po_pI hW3 h0 rfl rfl (vv_i (by decide) (vi7 (by omega))) (fun g4 hW4 ex4 => ?_)
  refine po_gI hW4 h0 rfl rfl (by decide) (fun x5x ex5 (_ : True) => ?_)
  refine po_eq (fun q6 => ?_) (fun q6 => ?_)
  · refine po_gI hW4 h0 rfl rfl (by decide) (fun x7x ex7 (_ : True) => ?_)
    refine po_eq (fun q8 => ?_) (fun q8 => ?_)
    · refine po_ck (wt_isO hW4 h0 (by decide)) ?_
      refine po_w (tX6_readMarkup hW4 h0) (fun y9 g9 hW9 p9 => ?_)
      dsimp only
      unfold mX6_read_b111
      exact po_ret ⟨rfl, hW9, trivial⟩
    · unfold mX6_read_b111
      exact po_ret ⟨rfl, hW4, trivial⟩
  · refine po_bind ex5 ?_
    refine po_eq (fun q10 => ?_) (fun q10 => ?_)
    · refine po_gI hW4 h0 rfl rfl (by decide) (fun x11x ex11 (hx11 : x11x = 0 ∨ x11x = 1) => ?_)
      refine po_eq (fun q12 => ?_) (fun q12 => ?_)
      · unfold mX6_read_b71
        unfold mX6_read_b72
        refine po_pI hW4 h0 rfl rfl (vv_i (by decide) (vi7 (by omega))) (fun g13 hW13 ex13 => ?_)
        unfold mX6_read_b111
        exact po_ret ⟨rfl, hW13, trivial⟩
      · refine po_gI hW4 h0 rfl rfl (by decide) (fun x14x ex14 (_ : True) => ?_)
        refine po_eq (fun q15 => ?_) (fun q15 => ?_)
        · unfold mX6_read_b72
          refine po_pI hW4 h0 rfl rfl (vv_i (by decide) (vi7 (by omega))) (fun g16 hW16 ex16 => ?_)
          unfold mX6_read_b111
          exact po_ret ⟨rfl, hW16, trivial⟩
        · unfold mX6_read_b71
          unfold mX6_read_b72
          refine po_pI hW4 h0 rfl rfl (vv_i (by decide) (vi7 (by omega))) (fun g17 hW17 ex17 => ?_)
          unfold mX6_read_b111
          exact po_ret ⟨rfl, hW17, trivial⟩
    · refine po_gI hW4 h0 rfl rfl (by decide) (fun x18x ex18 (_ : True) => ?_)
      refine po_eq (fun q19 => ?_) (fun q19 => ?_)
      · refine po_gI hW4 h0 rfl rfl (by decide) (fun x20x ex20 (hx20 : (-1) ≤ x20x.toInt ∧ x20x.toInt ≤ 702) => ?_)
        refine po_le rfl rfl (fun q21 => ?_) (fun q21 => ?_)
        · unfold mX6_read_b111
          exact po_ret ⟨rfl, hW4, trivial⟩
        · refine po_gRn (t := 5) hW4 h0 rfl rfl (by decide) (fun i22 ex22 hi22 => ?_)
          refine po_some ?_
          refine po_ck (wt_isO hW4 hi22 (by decide)) ?_
          refine po_ro (tX5_get hW4 hi22) (fun y23 ex23 p23 => ?_)
          dsimp only
          refine po_ck (wt_isO hW4 h0 (by decide)) ?_
          refine po_w (tX6_readBack hW4 h0) (fun y24 g24 hW24 p24 => ?_)
          dsimp only
          unfold mX6_read_b111
          exact po_ret ⟨rfl, hW24, trivial⟩
      · unfold mX6_read_b111
        exact po_ret ⟨rfl, hW4, trivial⟩
set_option maxHeartbeats 1000000 in
theorem tX1_readOuter_l8 {G : TE} {F0 : AH} {S : Int32} {n : Nat} : ∀ (d : Nat) (v0 : Nat) (v1 : Option Nat) (v2 : Option Nat) (v3 : Int32) (f : AH), WT G F0 S f n → G.1 v0 = 1 → (∃ i, v1 = some i ∧ G.1 i = 5 ∧ i ≠ 1) → (∃ i, v2 = some i ∧ G.1 i = 5 ∧ i ≠ 1) → (0 ≤ v3.toInt ∧ v3.toInt ≤ 2000) → 3000 - v3.toInt < (d : Int) → PO (mX1_readOuter_l8 d v0 v1 v2 v3 f n) (fun v f' n' => n' = n ∧ WT G F0 S f' n ∧ (True)) := by
  intro d
  induction d with
  | zero =>
    intro v0 v1 v2 v3 f hW h0 h1 h2 h3  hm
    exfalso
    obtain ⟨iv1, rfl, h1, h1m⟩ := h1
    obtain ⟨iv2, rfl, h2, h2m⟩ := h2
    omega
  | succ d ih =>
    intro v0 v1 v2 v3 f hW h0 h1 h2 h3  hm
    obtain ⟨iv1, rfl, h1, h1m⟩ := h1
    obtain ⟨iv2, rfl, h2, h2m⟩ := h2
    show PO ((gR f v0 1 4).bind fun x1 => ((x1).bind fun j2 => ((gI f j2 6 2).bind fun x3 => (if x3 ≤ v3 then some ((0 : Int32), (f, n)) else ((gR f v0 1 4).bind fun x4 => ((x4).bind fun j5 => rCk (isO f j5 6) (((mX6_read j5 v3 f n).bind fun r7 => ((gR r7.2.1 v0 1 4).bind fun x9 => ((x9).bind fun j10 => ((gI r7.2.1 j10 6 6).bind fun x11 => (((some iv1)).bind fun j12 => rCk (isO r7.2.1 j12 5) (((mX5_add j12 x11 r7.2.1 r7.2.2).bind fun r14 => (((some iv2)).bind fun j16 => rCk (isO r14.2.1 j16 5) (((mX5_add j16 v3 r14.2.1 r14.2.2).bind fun r18 => ((gR r18.2.1 v0 1 4).bind fun x20 => ((x20).bind fun j21 => ((gI r18.2.1 j21 6 7).bind fun x22 => mX1_readOuter_l8 d v0 (some j12) (some j16) (v3 + (jMax (1 : Int32) x22)) r18.2.1 r18.2.2)))))))))))))))))))) _
    refine po_gRn (t := 6) hW h0 rfl rfl (by decide) (fun i1 ex1 hi1 => ?_)
    refine po_some ?_
    refine po_gI hW hi1 rfl rfl (by decide) (fun x2x ex2 (hx2 : (-1) ≤ x2x.toInt ∧ x2x.toInt ≤ 702) => ?_)
    refine po_le rfl rfl (fun q3 => ?_) (fun q3 => ?_)
    · exact po_ret ⟨rfl, hW, trivial⟩
    · refine po_bind ex1 ?_
      refine po_some ?_
      refine po_ck (wt_isO hW hi1 (by decide)) ?_
      refine po_w (tX6_read hW hi1) (fun y4 g4 hW4 p4 => ?_)
      dsimp only
      refine po_gRn (t := 6) hW4 h0 rfl rfl (by decide) (fun i5 ex5 hi5 => ?_)
      refine po_some ?_
      refine po_gI hW4 hi5 rfl rfl (by decide) (fun x6x ex6 (_ : True) => ?_)
      refine po_some ?_
      refine po_ck (wt_isO hW4 h1 (by decide)) ?_
      refine po_w (tX5_add hW4 h1 h1m) (fun y7 g7 hW7 p7 => ?_)
      dsimp only
      refine po_some ?_
      refine po_ck (wt_isO hW7 h2 (by decide)) ?_
      refine po_w (tX5_add hW7 h2 h2m) (fun y8 g8 hW8 p8 => ?_)
      dsimp only
      refine po_gRn (t := 6) hW8 h0 rfl rfl (by decide) (fun i9 ex9 hi9 => ?_)
      refine po_some ?_
      refine po_gI hW8 hi9 rfl rfl (by decide) (fun x10x ex10 (hx10 : 0 ≤ x10x.toInt ∧ x10x.toInt ≤ 5) => ?_)
      have e11 := jmax_b (a := (1 : Int32)) (b := x10x) kt_1 rfl
      have e12 : (v3 + (jMax (1 : Int32) x10x)).toInt = v3.toInt + (jMax (1 : Int32) x10x).toInt := i_add rfl rfl (by omega)
      exact (ih v0 (some iv1) (some iv2) (v3 + (jMax (1 : Int32) x10x)) g8 hW8 h0 ⟨_, rfl, h1, h1m⟩ ⟨_, rfl, h2, h2m⟩ (by omega)  (by omega))
set_option maxHeartbeats 1000000 in
theorem tX1_readOuter {G : TE} {F0 : AH} {S : Int32} {f : AH} {n : Nat} {v0 : Nat} {v1 : Option Nat} {v2 : Option Nat} (hW : WT G F0 S f n) (h0 : G.1 v0 = 1) (h1 : (∃ i, v1 = some i ∧ G.1 i = 5 ∧ i ≠ 1)) (h2 : (∃ i, v2 = some i ∧ G.1 i = 5 ∧ i ≠ 1)) : PO (mX1_readOuter v0 v1 v2 f n) (fun v f' n' => n' = n ∧ WT G F0 S f' n ∧ (True)) := by
  obtain ⟨iv1, rfl, h1, h1m⟩ := h1
  obtain ⟨iv2, rfl, h2, h2m⟩ := h2
  unfold mX1_readOuter
  refine po_gRn (t := 6) hW h0 rfl rfl (by decide) (fun i1 ex1 hi1 => ?_)
  refine po_some ?_
  refine po_gI hW hi1 rfl rfl (by decide) (fun x2x ex2 (hx2 : 0 ≤ x2x.toInt ∧ x2x.toInt ≤ 702) => ?_)
  exact (tX1_readOuter_l8 rFU v0 (some iv1) (some iv2) x2x f hW h0 ⟨_, rfl, h1, h1m⟩ ⟨_, rfl, h2, h2m⟩ (by omega)  (by unfold rFU; omega))
set_option maxHeartbeats 1000000 in
theorem tX8_isLetter {G : TE} {F0 : AH} {S : Int32} {f : AH} {n : Nat} {v0 : Int32} (hW : WT G F0 S f n)  : PO (mX8_isLetter v0 f n) (fun v f' n' => f' = f ∧ n' = n ∧ (v = 0 ∨ v = 1)) := by
  unfold mX8_isLetter
  refine po_lt rfl kt_97 (fun q1 => ?_) (fun q1 => ?_)
  · unfold mX8_isLetter_b12
    refine po_lt rfl kt_65 (fun q2 => ?_) (fun q2 => ?_)
    · unfold mX8_isLetter_b28
      unfold mX8_isLetter_b29
      refine po_ck (nb_of (Or.inl rfl)) ?_
      exact po_ret ⟨rfl, rfl, (Or.inl rfl)⟩
    · refine po_lt kt_90 rfl (fun q3 => ?_) (fun q3 => ?_)
      · unfold mX8_isLetter_b28
        unfold mX8_isLetter_b29
        refine po_ck (nb_of (Or.inl rfl)) ?_
        exact po_ret ⟨rfl, rfl, (Or.inl rfl)⟩
      · unfold mX8_isLetter_b24
        unfold mX8_isLetter_b29
        refine po_ck (nb_of (Or.inr rfl)) ?_
        exact po_ret ⟨rfl, rfl, (Or.inr rfl)⟩
  · refine po_le rfl kt_122 (fun q4 => ?_) (fun q4 => ?_)
    · unfold mX8_isLetter_b24
      unfold mX8_isLetter_b29
      refine po_ck (nb_of (Or.inr rfl)) ?_
      exact po_ret ⟨rfl, rfl, (Or.inr rfl)⟩
    · unfold mX8_isLetter_b12
      refine po_lt rfl kt_65 (fun q5 => ?_) (fun q5 => ?_)
      · unfold mX8_isLetter_b28
        unfold mX8_isLetter_b29
        refine po_ck (nb_of (Or.inl rfl)) ?_
        exact po_ret ⟨rfl, rfl, (Or.inl rfl)⟩
      · refine po_lt kt_90 rfl (fun q6 => ?_) (fun q6 => ?_)
        · unfold mX8_isLetter_b28
          unfold mX8_isLetter_b29
          refine po_ck (nb_of (Or.inl rfl)) ?_
          exact po_ret ⟨rfl, rfl, (Or.inl rfl)⟩
        · unfold mX8_isLetter_b24
          unfold mX8_isLetter_b29
          refine po_ck (nb_of (Or.inr rfl)) ?_
          exact po_ret ⟨rfl, rfl, (Or.inr rfl)⟩
set_option maxHeartbeats 1000000 in
theorem tX5_hasLetter_l2 {G : TE} {F0 : AH} {S : Int32} {n : Nat} : ∀ (d : Nat) (v0 : Nat) (v2 : Int32) (f : AH), WT G F0 S f n → G.1 v0 = 5 → (0 ≤ v2.toInt ∧ v2.toInt ≤ 2000) → 3000 - v2.toInt < (d : Int) → PO (mX5_hasLetter_l2 d v0 v2 f n) (fun v f' n' => f' = f ∧ n' = n ∧ (v = 0 ∨ v = 1)) := by
  intro d
  induction d with
  | zero =>
    intro v0 v2 f hW h0 h1  hm
    exfalso
    omega
  | succ d ih =>
    intro v0 v2 f hW h0 h1  hm
    show PO ((gI f v0 5 1).bind fun x1 => (if x1 ≤ v2 then rCk (rNb (0 : Int32)) (some ((0 : Int32), (f, n))) else rCk (isO f v0 5) (((mX5_get v0 v2 f n).bind fun r4 => ((mX8_isLetter r4.1 r4.2.1 r4.2.2).bind fun r6 => (if r6.1 = (0 : Int32) then mX5_hasLetter_l2 d v0 (v2 + (1 : Int32)) r6.2.1 r6.2.2 else rCk (rNb (1 : Int32)) (some ((1 : Int32), (r6.2.1, r6.2.2))))))))) _
    refine po_rs hW h0 (fun x1x ex1 hx1 hy1 => ?_)
    refine po_le rfl rfl (fun q2 => ?_) (fun q2 => ?_)
    · refine po_ck rfl ?_
      exact po_ret ⟨rfl, rfl, (Or.inl rfl)⟩
    · refine po_ck (wt_isO hW h0 (by decide)) ?_
      refine po_ro (tX5_get hW h0) (fun y3 ex3 p3 => ?_)
      dsimp only
      refine po_ro (tX8_isLetter hW ) (fun y4 ex4 p4 => ?_)
      dsimp only
      refine po_eq (fun q5 => ?_) (fun q5 => ?_)
      · have e6 : (v2 + (1 : Int32)).toInt = v2.toInt + 1 := i_add rfl kt_1 (by omega)
        exact (ih v0 (v2 + (1 : Int32)) f hW h0 (by omega)  (by omega))
      · refine po_ck rfl ?_
        exact po_ret ⟨rfl, rfl, (Or.inr rfl)⟩
set_option maxHeartbeats 1000000 in
theorem tX5_hasLetter {G : TE} {F0 : AH} {S : Int32} {f : AH} {n : Nat} {v0 : Nat} {v1 : Int32} (hW : WT G F0 S f n) (h0 : G.1 v0 = 5) (h1 : (0 ≤ v1.toInt ∧ v1.toInt ≤ 600)) : PO (mX5_hasLetter v0 v1 f n) (fun v f' n' => f' = f ∧ n' = n ∧ (v = 0 ∨ v = 1)) := by
  unfold mX5_hasLetter
  exact (tX5_hasLetter_l2 rFU v0 v1 f hW h0 (by omega)  (by unfold rFU; omega))
set_option maxHeartbeats 1000000 in
theorem tX1_settle {G : TE} {F0 : AH} {S : Int32} {f : AH} {n : Nat} {v0 : Nat} {v1 : Option Nat} {v2 : Int32} {v3 : Int32} {v4 : Int32} (hW : WT G F0 S f n) (h0 : G.1 v0 = 1) (h1 : (∃ i, v1 = some i ∧ G.1 i = 7)) (h2 : (0 ≤ v2.toInt ∧ v2.toInt ≤ 600)) : PO (mX1_settle v0 v1 v2 v3 v4 f n) (fun v f' n' => n' = n ∧ WT G F0 S f' n ∧ (True)) := by
  obtain ⟨iv1, rfl, h1⟩ := h1
  unfold mX1_settle
  refine po_gI hW h0 rfl rfl (by decide) (fun x1x ex1 (hx1 : 0 ≤ x1x.toInt ∧ x1x.toInt ≤ 40) => ?_)
  refine po_lt rfl kt_0 (fun q2 => ?_) (fun q2 => ?_)
  · unfold mX1_settle_b31
    unfold mX1_settle_b32
    refine po_gRm hW h0 rfl rfl (fun i3 ex3 hi3 hm3 => ?_)
    refine po_some ?_
    refine po_ck (wt_isO hW hi3 (by decide)) ?_
    refine po_ro (tX5_size hW hi3) (fun y4 ex4 p4 => ?_)
    dsimp only
    refine po_oNn ?_
    unfold mX1_settle_b77
    refine po_bind ex3 ?_
    refine po_some ?_
    refine po_ck (wt_isO hW hi3 (by decide)) ?_
    refine po_w (tX5_cutTo hW hi3 hm3) (fun y5 g5 hW5 p5 => ?_)
    dsimp only
    refine po_gRm hW5 h0 rfl rfl (fun i6 ex6 hi6 hm6 => ?_)
    refine po_some ?_
    refine po_ck (wt_isO hW5 hi6 (by decide)) ?_
    refine po_w (tX5_cutTo hW5 hi6 hm6) (fun y7 g7 hW7 p7 => ?_)
    dsimp only
    exact po_ret ⟨rfl, hW7, trivial⟩
  · refine po_bind ex1 ?_
    refine po_gRn (t := 13) hW h0 rfl rfl (by decide) (fun i8 ex8 hi8 => ?_)
    refine po_some ?_
    refine po_gL (N := 40) hW hi8 rfl rfl (by decide) ?_
    refine po_le kn_40 rfl (fun q9 => ?_) (fun q9 => ?_)
    · unfold mX1_settle_b31
      unfold mX1_settle_b32
      refine po_gRm hW h0 rfl rfl (fun i10 ex10 hi10 hm10 => ?_)
      refine po_some ?_
      refine po_ck (wt_isO hW hi10 (by decide)) ?_
      refine po_ro (tX5_size hW hi10) (fun y11 ex11 p11 => ?_)
      dsimp only
      refine po_oNn ?_
      unfold mX1_settle_b77
      refine po_bind ex10 ?_
      refine po_some ?_
      refine po_ck (wt_isO hW hi10 (by decide)) ?_
      refine po_w (tX5_cutTo hW hi10 hm10) (fun y12 g12 hW12 p12 => ?_)
      dsimp only
      refine po_gRm hW12 h0 rfl rfl (fun i13 ex13 hi13 hm13 => ?_)
      refine po_some ?_
      refine po_ck (wt_isO hW12 hi13 (by decide)) ?_
      refine po_w (tX5_cutTo hW12 hi13 hm13) (fun y14 g14 hW14 p14 => ?_)
      dsimp only
      exact po_ret ⟨rfl, hW14, trivial⟩
    · refine po_bind ex8 ?_
      refine po_bind ex1 ?_
      refine po_some ?_
      refine po_gRAn (N := 40) (T := 3) hW hi8 rfl rfl rfl (by decide) (by omega) (fun i15 hi15 => ?_)
      unfold mX1_settle_b32
      refine po_gRm hW h0 rfl rfl (fun i16 ex16 hi16 hm16 => ?_)
      refine po_some ?_
      refine po_ck (wt_isO hW hi16 (by decide)) ?_
      refine po_ro (tX5_size hW hi16) (fun y17 ex17 p17 => ?_)
      dsimp only
      refine po_oNs ?_
      refine po_some ?_
      refine po_gI hW h1 rfl rfl (by decide) (fun x18x ex18 (_ : True) => ?_)
      have e20 : (y17 - v2).toInt = y17.toInt - v2.toInt := i_sub rfl rfl (by omega)
      refine po_lt rfl rfl (fun q19 => ?_) (fun q19 => ?_)
      · unfold mX1_settle_b77
        refine po_bind ex16 ?_
        refine po_some ?_
        refine po_ck (wt_isO hW hi16 (by decide)) ?_
        refine po_w (tX5_cutTo hW hi16 hm16) (fun y21 g21 hW21 p21 => ?_)
        dsimp only
        refine po_gRm hW21 h0 rfl rfl (fun i22 ex22 hi22 hm22 => ?_)
        refine po_some ?_
        refine po_ck (wt_isO hW21 hi22 (by decide)) ?_
        refine po_w (tX5_cutTo hW21 hi22 hm22) (fun y23 g23 hW23 p23 => ?_)
        dsimp only
        exact po_ret ⟨rfl, hW23, trivial⟩
      · refine po_gI hW h1 rfl rfl (by decide) (fun x24x ex24 (hx24 : x24x = 0 ∨ x24x = 1) => ?_)
        refine po_eq (fun q25 => ?_) (fun q25 => ?_)
        · unfold mX1_settle_b94
          refine po_bind ex1 ?_
          have e27 : (x1x + (1 : Int32)).toInt = x1x.toInt + 1 := i_add rfl kt_1 (by omega)
          refine po_pI hW h0 rfl rfl (vv_i (by decide) (vi3 (by omega))) (fun g26 hW26 ex26 => ?_)
          refine po_some ?_
          refine po_pI hW26 hi15 rfl rfl (vv_i (by decide) trivial) (fun g28 hW28 ex28 => ?_)
          refine po_pI hW28 hi15 rfl rfl (vv_i (by decide) trivial) (fun g29 hW29 ex29 => ?_)
          refine po_pI hW29 hi15 rfl rfl (vv_i (by decide) (vi5 (by omega))) (fun g30 hW30 ex30 => ?_)
          refine po_pI hW30 hi15 rfl rfl (vv_i (by decide) (vi6 (by omega))) (fun g31 hW31 ex31 => ?_)
          refine po_gRn (t := 6) hW31 h0 rfl rfl (by decide) (fun i32 ex32 hi32 => ?_)
          refine po_some ?_
          refine po_gI hW31 hi32 rfl rfl (by decide) (fun x33x ex33 (hx33 : 0 ≤ x33x.toInt ∧ x33x.toInt ≤ 700) => ?_)
          refine po_pI hW31 hi15 rfl rfl (vv_i (by decide) trivial) (fun g34 hW34 ex34 => ?_)
          refine po_gRn (t := 6) hW34 h0 rfl rfl (by decide) (fun i35 ex35 hi35 => ?_)
          refine po_some ?_
          refine po_gI hW34 hi35 rfl rfl (by decide) (fun x36x ex36 (_ : True) => ?_)
          refine po_pI hW34 hi15 rfl rfl (vv_i (by decide) trivial) (fun g37 hW37 ex37 => ?_)
          refine po_gRn (t := 6) hW37 h0 rfl rfl (by decide) (fun i38 ex38 hi38 => ?_)
          refine po_some ?_
          refine po_gI hW37 hi38 rfl rfl (by decide) (fun x39x ex39 (hx39 : x39x = 0 ∨ x39x = 1) => ?_)
          refine po_ck (nb_of hx39) ?_
          refine po_pI hW37 hi15 rfl rfl (vv_i (by decide) hx39) (fun g40 hW40 ex40 => ?_)
          refine po_some ?_
          refine po_gI hW40 h1 rfl rfl (by decide) (fun x41x ex41 (_ : True) => ?_)
          refine po_eq (fun q42 => ?_) (fun q42 => ?_)
          · refine po_gRn (t := 6) hW40 h0 rfl rfl (by decide) (fun i43 ex43 hi43 => ?_)
            refine po_some ?_
            refine po_gI hW40 hi43 rfl rfl (by decide) (fun x44x ex44 (hx44 : x44x = 0 ∨ x44x = 1) => ?_)
            refine po_eq (fun q45 => ?_) (fun q45 => ?_)
            · unfold mX1_settle_b190
              unfold mX1_settle_b191
              refine po_some ?_
              refine po_ck (nb_of (Or.inl rfl)) ?_
              refine po_pI hW40 hi15 rfl rfl (vv_i (by decide) (Or.inl rfl)) (fun g46 hW46 ex46 => ?_)
              refine po_gRn (t := 6) hW46 h0 rfl rfl (by decide) (fun i47 ex47 hi47 => ?_)
              refine po_some ?_
              refine po_gI hW46 hi47 rfl rfl (by decide) (fun x48x ex48 (hx48 : 0 ≤ x48x.toInt ∧ x48x.toInt ≤ 702) => ?_)
              refine po_eq (fun q49 => ?_) (fun q49 => ?_)
              · unfold mX1_settle_b212
                refine po_some ?_
                refine po_ck (nb_of (Or.inr rfl)) ?_
                refine po_pI hW46 hi15 rfl rfl (vv_i (by decide) (Or.inr rfl)) (fun g50 hW50 ex50 => ?_)
                exact po_ret ⟨rfl, hW50, trivial⟩
              · unfold mX1_settle_b212
                refine po_some ?_
                refine po_ck (nb_of (Or.inl rfl)) ?_
                refine po_pI hW46 hi15 rfl rfl (vv_i (by decide) (Or.inl rfl)) (fun g51 hW51 ex51 => ?_)
                exact po_ret ⟨rfl, hW51, trivial⟩
            · unfold mX1_settle_b191
              refine po_some ?_
              refine po_ck (nb_of (Or.inr rfl)) ?_
              refine po_pI hW40 hi15 rfl rfl (vv_i (by decide) (Or.inr rfl)) (fun g52 hW52 ex52 => ?_)
              refine po_gRn (t := 6) hW52 h0 rfl rfl (by decide) (fun i53 ex53 hi53 => ?_)
              refine po_some ?_
              refine po_gI hW52 hi53 rfl rfl (by decide) (fun x54x ex54 (hx54 : 0 ≤ x54x.toInt ∧ x54x.toInt ≤ 702) => ?_)
              refine po_eq (fun q55 => ?_) (fun q55 => ?_)
              · unfold mX1_settle_b212
                refine po_some ?_
                refine po_ck (nb_of (Or.inr rfl)) ?_
                refine po_pI hW52 hi15 rfl rfl (vv_i (by decide) (Or.inr rfl)) (fun g56 hW56 ex56 => ?_)
                exact po_ret ⟨rfl, hW56, trivial⟩
              · unfold mX1_settle_b212
                refine po_some ?_
                refine po_ck (nb_of (Or.inl rfl)) ?_
                refine po_pI hW52 hi15 rfl rfl (vv_i (by decide) (Or.inl rfl)) (fun g57 hW57 ex57 => ?_)
                exact po_ret ⟨rfl, hW57, trivial⟩
          · unfold mX1_settle_b190
            unfold mX1_settle_b191
            refine po_some ?_
            refine po_ck (nb_of (Or.inl rfl)) ?_
            refine po_pI hW40 hi15 rfl rfl (vv_i (by decide) (Or.inl rfl)) (fun g58 hW58 ex58 => ?_)
            refine po_gRn (t := 6) hW58 h0 rfl rfl (by decide) (fun i59 ex59 hi59 => ?_)
            refine po_some ?_
            refine po_gI hW58 hi59 rfl rfl (by decide) (fun x60x ex60 (hx60 : 0 ≤ x60x.toInt ∧ x60x.toInt ≤ 702) => ?_)
            refine po_eq (fun q61 => ?_) (fun q61 => ?_)
            · unfold mX1_settle_b212
              refine po_some ?_
              refine po_ck (nb_of (Or.inr rfl)) ?_
              refine po_pI hW58 hi15 rfl rfl (vv_i (by decide) (Or.inr rfl)) (fun g62 hW62 ex62 => ?_)
              exact po_ret ⟨rfl, hW62, trivial⟩
            · unfold mX1_settle_b212
              refine po_some ?_
              refine po_ck (nb_of (Or.inl rfl)) ?_
              refine po_pI hW58 hi15 rfl rfl (vv_i (by decide) (Or.inl rfl)) (fun g63 hW63 ex63 => ?_)
              exact po_ret ⟨rfl, hW63, trivial⟩
        · refine po_bind ex16 ?_
          refine po_some ?_
          refine po_ck (wt_isO hW hi16 (by decide)) ?_
          refine po_ro (tX5_hasLetter hW hi16 (by omega)) (fun y64 ex64 p64 => ?_)
          dsimp only
          refine po_eq (fun q65 => ?_) (fun q65 => ?_)
          · unfold mX1_settle_b77
            refine po_bind ex16 ?_
            refine po_some ?_
            refine po_ck (wt_isO hW hi16 (by decide)) ?_
            refine po_w (tX5_cutTo hW hi16 hm16) (fun y66 g66 hW66 p66 => ?_)
            dsimp only
            refine po_gRm hW66 h0 rfl rfl (fun i67 ex67 hi67 hm67 => ?_)
            refine po_some ?_
            refine po_ck (wt_isO hW66 hi67 (by decide)) ?_
            refine po_w (tX5_cutTo hW66 hi67 hm67) (fun y68 g68 hW68 p68 => ?_)
            dsimp only
            exact po_ret ⟨rfl, hW68, trivial⟩
          · unfold mX1_settle_b94
            refine po_bind ex1 ?_
            have e70 : (x1x + (1 : Int32)).toInt = x1x.toInt + 1 := i_add rfl kt_1 (by omega)
            refine po_pI hW h0 rfl rfl (vv_i (by decide) (vi3 (by omega))) (fun g69 hW69 ex69 => ?_)
            refine po_some ?_
            refine po_pI hW69 hi15 rfl rfl (vv_i (by decide) trivial) (fun g71 hW71 ex71 => ?_)
            refine po_pI hW71 hi15 rfl rfl (vv_i (by decide) trivial) (fun g72 hW72 ex72 => ?_)
            refine po_pI hW72 hi15 rfl rfl (vv_i (by decide) (vi5 (by omega))) (fun g73 hW73 ex73 => ?_)
            refine po_pI hW73 hi15 rfl rfl (vv_i (by decide) (vi6 (by omega))) (fun g74 hW74 ex74 => ?_)
            refine po_gRn (t := 6) hW74 h0 rfl rfl (by decide) (fun i75 ex75 hi75 => ?_)
            refine po_some ?_
            refine po_gI hW74 hi75 rfl rfl (by decide) (fun x76x ex76 (hx76 : 0 ≤ x76x.toInt ∧ x76x.toInt ≤ 700) => ?_)
            refine po_pI hW74 hi15 rfl rfl (vv_i (by decide) trivial) (fun g77 hW77 ex77 => ?_)
            refine po_gRn (t := 6) hW77 h0 rfl rfl (by decide) (fun i78 ex78 hi78 => ?_)
            refine po_some ?_
            refine po_gI hW77 hi78 rfl rfl (by decide) (fun x79x ex79 (_ : True) => ?_)
            refine po_pI hW77 hi15 rfl rfl (vv_i (by decide) trivial) (fun g80 hW80 ex80 => ?_)
            refine po_gRn (t := 6) hW80 h0 rfl rfl (by decide) (fun i81 ex81 hi81 => ?_)
            refine po_some ?_
            refine po_gI hW80 hi81 rfl rfl (by decide) (fun x82x ex82 (hx82 : x82x = 0 ∨ x82x = 1) => ?_)
            refine po_ck (nb_of hx82) ?_
            refine po_pI hW80 hi15 rfl rfl (vv_i (by decide) hx82) (fun g83 hW83 ex83 => ?_)
            refine po_some ?_
            refine po_gI hW83 h1 rfl rfl (by decide) (fun x84x ex84 (_ : True) => ?_)
            refine po_eq (fun q85 => ?_) (fun q85 => ?_)
            · refine po_gRn (t := 6) hW83 h0 rfl rfl (by decide) (fun i86 ex86 hi86 => ?_)
              refine po_some ?_
              refine po_gI hW83 hi86 rfl rfl (by decide) (fun x87x ex87 (hx87 : x87x = 0 ∨ x87x = 1) => ?_)
              refine po_eq (fun q88 => ?_) (fun q88 => ?_)
              · unfold mX1_settle_b190
                unfold mX1_settle_b191
                refine po_some ?_
                refine po_ck (nb_of (Or.inl rfl)) ?_
                refine po_pI hW83 hi15 rfl rfl (vv_i (by decide) (Or.inl rfl)) (fun g89 hW89 ex89 => ?_)
                refine po_gRn (t := 6) hW89 h0 rfl rfl (by decide) (fun i90 ex90 hi90 => ?_)
                refine po_some ?_
                refine po_gI hW89 hi90 rfl rfl (by decide) (fun x91x ex91 (hx91 : 0 ≤ x91x.toInt ∧ x91x.toInt ≤ 702) => ?_)
                refine po_eq (fun q92 => ?_) (fun q92 => ?_)
                · unfold mX1_settle_b212
                  refine po_some ?_
                  refine po_ck (nb_of (Or.inr rfl)) ?_
                  refine po_pI hW89 hi15 rfl rfl (vv_i (by decide) (Or.inr rfl)) (fun g93 hW93 ex93 => ?_)
                  exact po_ret ⟨rfl, hW93, trivial⟩
                · unfold mX1_settle_b212
                  refine po_some ?_
                  refine po_ck (nb_of (Or.inl rfl)) ?_
                  refine po_pI hW89 hi15 rfl rfl (vv_i (by decide) (Or.inl rfl)) (fun g94 hW94 ex94 => ?_)
                  exact po_ret ⟨rfl, hW94, trivial⟩
              · unfold mX1_settle_b191
                refine po_some ?_
                refine po_ck (nb_of (Or.inr rfl)) ?_
                refine po_pI hW83 hi15 rfl rfl (vv_i (by decide) (Or.inr rfl)) (fun g95 hW95 ex95 => ?_)
                refine po_gRn (t := 6) hW95 h0 rfl rfl (by decide) (fun i96 ex96 hi96 => ?_)
                refine po_some ?_
                refine po_gI hW95 hi96 rfl rfl (by decide) (fun x97x ex97 (hx97 : 0 ≤ x97x.toInt ∧ x97x.toInt ≤ 702) => ?_)
                refine po_eq (fun q98 => ?_) (fun q98 => ?_)
                · unfold mX1_settle_b212
                  refine po_some ?_
                  refine po_ck (nb_of (Or.inr rfl)) ?_
                  refine po_pI hW95 hi15 rfl rfl (vv_i (by decide) (Or.inr rfl)) (fun g99 hW99 ex99 => ?_)
                  exact po_ret ⟨rfl, hW99, trivial⟩
                · unfold mX1_settle_b212
                  refine po_some ?_
                  refine po_ck (nb_of (Or.inl rfl)) ?_
                  refine po_pI hW95 hi15 rfl rfl (vv_i (by decide) (Or.inl rfl)) (fun g100 hW100 ex100 => ?_)
                  exact po_ret ⟨rfl, hW100, trivial⟩
            · unfold mX1_settle_b190
              unfold mX1_settle_b191
              refine po_some ?_
              refine po_ck (nb_of (Or.inl rfl)) ?_
              refine po_pI hW83 hi15 rfl rfl (vv_i (by decide) (Or.inl rfl)) (fun g101 hW101 ex101 => ?_)
              refine po_gRn (t := 6) hW101 h0 rfl rfl (by decide) (fun i102 ex102 hi102 => ?_)
              refine po_some ?_
              refine po_gI hW101 hi102 rfl rfl (by decide) (fun x103x ex103 (hx103 : 0 ≤ x103x.toInt ∧ x103x.toInt ≤ 702) => ?_)
              refine po_eq (fun q104 => ?_) (fun q104 => ?_)
              · unfold mX1_settle_b212
                refine po_some ?_
                refine po_ck (nb_of (Or.inr rfl)) ?_
                refine po_pI hW101 hi15 rfl rfl (vv_i (by decide) (Or.inr rfl)) (fun g105 hW105 ex105 => ?_)
                exact po_ret ⟨rfl, hW105, trivial⟩
              · unfold mX1_settle_b212
                refine po_some ?_
                refine po_ck (nb_of (Or.inl rfl)) ?_
                refine po_pI hW101 hi15 rfl rfl (vv_i (by decide) (Or.inl rfl)) (fun g106 hW106 ex106 => ?_)
                exact po_ret ⟨rfl, hW106, trivial⟩
set_option maxHeartbeats 1000000 in
theorem tX1_takeWithin_l63 {G : TE} {F0 : AH} {S : Int32} {n : Nat} {D : Nat} {rec17 : Nat → Option Nat → Int32 → AH → Nat → Option (Int32 × HpN)} (Hr : ∀ (v0 : Nat) (v1 : Option Nat) (v2 : Int32) (f : AH), WT G F0 S f n → G.1 v0 = 1 → (∃ i, v1 = some i ∧ G.1 i = 7) → (0 ≤ v2.toInt ∧ v2.toInt ≤ 2000) → 3000 - v2.toInt < (D : Int) → PO (rec17 v0 v1 v2 f n) (fun v f' n' => n' = n ∧ WT G F0 S f' n ∧ (True))) : ∀ (d : Nat) (v0 : Nat) (v1 : Option Nat) (v2 : Int32) (v3 : Int32) (v4 : Int32) (f : AH), WT G F0 S f n → G.1 v0 = 1 → (∃ i, v1 = some i ∧ G.1 i = 7) → (0 ≤ v2.toInt ∧ v2.toInt ≤ 2000) → (0 ≤ v3.toInt ∧ v3.toInt ≤ 600) → (0 ≤ v4.toInt ∧ v4.toInt ≤ 2000) → 2999 - v2.toInt < (D : Int) → v2.toInt ≤ 600 → 3000 - v4.toInt < (d : Int) → PO (mX1_takeWithin_l63 rec17 d v0 v1 v2 v3 v4 f n) (fun v f' n' => n' = n ∧ WT G F0 S f' n ∧ (True)) := by
  intro d
  induction d with
  | zero =>
    intro v0 v1 v2 v3 v4 f hW h0 h1 h2 h3 h4 hx0 hx1 hm
    exfalso
    obtain ⟨iv1, rfl, h1⟩ := h1
    omega
  | succ d ih =>
    intro v0 v1 v2 v3 v4 f hW h0 h1 h2 h3 h4 hx0 hx1 hm
    obtain ⟨iv1, rfl, h1⟩ := h1
    show PO ((gR f v0 1 5).bind fun x1 => ((x1).bind fun j2 => ((gI f j2 6 2).bind fun x3 => (if x3 ≤ v4 then ((gR f v0 1 5).bind fun x4 => ((x4).bind fun j5 => ((gI f j5 6 2).bind fun x6 => ((gR f v0 1 6).bind fun x7 => ((x7).bind fun j8 => rCk (isO f j8 5) (((mX5_size j8 f n).bind fun r10 => (if r10.1 ≤ x6 then ((gR r10.2.1 v0 1 4).bind fun x12 => ((x12).bind fun j13 => ((gI r10.2.1 j13 6 2).bind fun x14 => mX1_takeWithin_b176 rec17 v0 (some iv1) v2 v3 x14 r10.2.1 r10.2.2))) else ((gR r10.2.1 v0 1 7).bind fun x15 => ((gR r10.2.1 v0 1 5).bind fun x16 => ((x16).bind fun j17 => ((gI r10.2.1 j17 6 2).bind fun x18 => ((x15).bind fun j19 => rCk (isO r10.2.1 j19 5) (((mX5_get j19 x18 r10.2.1 r10.2.2).bind fun r21 => mX1_takeWithin_b176 rec17 v0 (some iv1) v2 v3 r21.1 r21.2.1 r21.2.2))))))))))))))) else ((gR f v0 1 5).bind fun x23 => ((x23).bind fun j24 => rCk (isO f j24 6) (((mX6_read j24 v4 f n).bind fun r26 => ((gR r26.2.1 v0 1 0).bind fun x28 => ((gR r26.2.1 v0 1 5).bind fun x29 => ((x29).bind fun j30 => ((gI r26.2.1 j30 6 6).bind fun x31 => ((x28).bind fun j32 => rCk (isO r26.2.1 j32 5) (((mX5_add j32 x31 r26.2.1 r26.2.2).bind fun r34 => ((gR r34.2.1 v0 1 1).bind fun x36 => ((gR r34.2.1 v0 1 7).bind fun x37 => ((x37).bind fun j38 => rCk (isO r34.2.1 j38 5) (((mX5_get j38 v4 r34.2.1 r34.2.2).bind fun r40 => ((x36).bind fun j42 => rCk (isO r40.2.1 j42 5) (((mX5_add j42 r40.1 r40.2.1 r40.2.2).bind fun r44 => ((gR r44.2.1 v0 1 5).bind fun x46 => ((x46).bind fun j47 => ((gI r44.2.1 j47 6 7).bind fun x48 => mX1_takeWithin_l63 rec17 d v0 (some iv1) v2 v3 (v4 + (jMax (1 : Int32) x48)) r44.2.1 r44.2.2)))))))))))))))))))))))))) _
    refine po_gRn (t := 6) hW h0 rfl rfl (by decide) (fun i1 ex1 hi1 => ?_)
    refine po_some ?_
    refine po_gI hW hi1 rfl rfl (by decide) (fun x2x ex2 (hx2 : (-1) ≤ x2x.toInt ∧ x2x.toInt ≤ 702) => ?_)
    refine po_le rfl rfl (fun q3 => ?_) (fun q3 => ?_)
    · refine po_bind ex1 ?_
      refine po_some ?_
      refine po_bind ex2 ?_
      refine po_gRm hW h0 rfl rfl (fun i4 ex4 hi4 hm4 => ?_)
      refine po_some ?_
      refine po_ck (wt_isO hW hi4 (by decide)) ?_
      refine po_ro (tX5_size hW hi4) (fun y5 ex5 p5 => ?_)
      dsimp only
      refine po_le rfl rfl (fun q6 => ?_) (fun q6 => ?_)
      · refine po_gRn (t := 6) hW h0 rfl rfl (by decide) (fun i7 ex7 hi7 => ?_)
        refine po_some ?_
        refine po_gI hW hi7 rfl rfl (by decide) (fun x8x ex8 (hx8 : (-1) ≤ x8x.toInt ∧ x8x.toInt ≤ 702) => ?_)
        unfold mX1_takeWithin_b176
        refine po_gRm hW h0 rfl rfl (fun i9 ex9 hi9 hm9 => ?_)
        refine po_bind ex1 ?_
        refine po_some ?_
        refine po_gI hW hi1 rfl rfl (by decide) (fun x10x ex10 (hx10 : 0 ≤ x10x.toInt ∧ x10x.toInt ≤ 702) => ?_)
        refine po_some ?_
        refine po_ck (wt_isO hW hi9 (by decide)) ?_
        refine po_ro (tX5_get hW hi9) (fun y11 ex11 p11 => ?_)
        dsimp only
        refine po_ck (wt_isO hW h0 (by decide)) ?_
        refine po_w (tX1_settle hW h0 ⟨_, rfl, h1⟩ (by omega)) (fun y12 g12 hW12 p12 => ?_)
        dsimp only
        have e13 : (v2 + (1 : Int32)).toInt = v2.toInt + 1 := i_add rfl kt_1 (by omega)
        exact (Hr v0 (some iv1) (v2 + (1 : Int32)) g12 hW12 h0 ⟨_, rfl, h1⟩ (by omega)  (by omega))
      · refine po_gRm hW h0 rfl rfl (fun i14 ex14 hi14 hm14 => ?_)
        refine po_bind ex1 ?_
        refine po_some ?_
        refine po_bind ex2 ?_
        refine po_some ?_
        refine po_ck (wt_isO hW hi14 (by decide)) ?_
        refine po_ro (tX5_get hW hi14) (fun y15 ex15 p15 => ?_)
        dsimp only
        unfold mX1_takeWithin_b176
        refine po_bind ex14 ?_
        refine po_bind ex1 ?_
        refine po_some ?_
        refine po_gI hW hi1 rfl rfl (by decide) (fun x16x ex16 (hx16 : 0 ≤ x16x.toInt ∧ x16x.toInt ≤ 702) => ?_)
        refine po_some ?_
        refine po_ck (wt_isO hW hi14 (by decide)) ?_
        refine po_ro (tX5_get hW hi14) (fun y17 ex17 p17 => ?_)
        dsimp only
        refine po_ck (wt_isO hW h0 (by decide)) ?_
        refine po_w (tX1_settle hW h0 ⟨_, rfl, h1⟩ (by omega)) (fun y18 g18 hW18 p18 => ?_)
        dsimp only
        have e19 : (v2 + (1 : Int32)).toInt = v2.toInt + 1 := i_add rfl kt_1 (by omega)
        exact (Hr v0 (some iv1) (v2 + (1 : Int32)) g18 hW18 h0 ⟨_, rfl, h1⟩ (by omega)  (by omega))
    · refine po_bind ex1 ?_
      refine po_some ?_
      refine po_ck (wt_isO hW hi1 (by decide)) ?_
      refine po_w (tX6_read hW hi1) (fun y20 g20 hW20 p20 => ?_)
      dsimp only
      refine po_gRm hW20 h0 rfl rfl (fun i21 ex21 hi21 hm21 => ?_)
      refine po_gRn (t := 6) hW20 h0 rfl rfl (by decide) (fun i22 ex22 hi22 => ?_)
      refine po_some ?_
      refine po_gI hW20 hi22 rfl rfl (by decide) (fun x23x ex23 (_ : True) => ?_)
      refine po_some ?_
      refine po_ck (wt_isO hW20 hi21 (by decide)) ?_
      refine po_w (tX5_add hW20 hi21 hm21) (fun y24 g24 hW24 p24 => ?_)
      dsimp only
      refine po_gRm hW24 h0 rfl rfl (fun i25 ex25 hi25 hm25 => ?_)
      refine po_gRm hW24 h0 rfl rfl (fun i26 ex26 hi26 hm26 => ?_)
      refine po_some ?_
      refine po_ck (wt_isO hW24 hi26 (by decide)) ?_
      refine po_ro (tX5_get hW24 hi26) (fun y27 ex27 p27 => ?_)
      dsimp only
      refine po_some ?_
      refine po_ck (wt_isO hW24 hi25 (by decide)) ?_
      refine po_w (tX5_add hW24 hi25 hm25) (fun y28 g28 hW28 p28 => ?_)
      dsimp only
      refine po_gRn (t := 6) hW28 h0 rfl rfl (by decide) (fun i29 ex29 hi29 => ?_)
      refine po_some ?_
      refine po_gI hW28 hi29 rfl rfl (by decide) (fun x30x ex30 (hx30 : 0 ≤ x30x.toInt ∧ x30x.toInt ≤ 5) => ?_)
      have e31 := jmax_b (a := (1 : Int32)) (b := x30x) kt_1 rfl
      have e32 : (v4 + (jMax (1 : Int32) x30x)).toInt = v4.toInt + (jMax (1 : Int32) x30x).toInt := i_add rfl rfl (by omega)
      exact (ih v0 (some iv1) v2 v3 (v4 + (jMax (1 : Int32) x30x)) g28 hW28 h0 ⟨_, rfl, h1⟩ (by omega) (by omega) (by omega) (by omega) (by omega) (by omega))
set_option maxHeartbeats 1000000 in
theorem tX1_takeWithin_l17 {G : TE} {F0 : AH} {S : Int32} {n : Nat} : ∀ (d : Nat) (v0 : Nat) (v1 : Option Nat) (v2 : Int32) (f : AH), WT G F0 S f n → G.1 v0 = 1 → (∃ i, v1 = some i ∧ G.1 i = 7) → (0 ≤ v2.toInt ∧ v2.toInt ≤ 2000) → 3000 - v2.toInt < (d : Int) → PO (mX1_takeWithin_l17 d v0 v1 v2 f n) (fun v f' n' => n' = n ∧ WT G F0 S f' n ∧ (True)) := by
  intro d
  induction d with
  | zero =>
    intro v0 v1 v2 f hW h0 h1 h2  hm
    exfalso
    obtain ⟨iv1, rfl, h1⟩ := h1
    omega
  | succ d ih =>
    intro v0 v1 v2 f hW h0 h1 h2  hm
    obtain ⟨iv1, rfl, h1⟩ := h1
    show PO (if (600 : Int32) < v2 then mX1_takeWithin_b206 f n else ((gI f v0 1 3).bind fun x1 => ((gR f v0 1 2).bind fun x2 => ((x2).bind fun j3 => ((gL f j3).bind fun x4 => (if (nI x4) ≤ x1 then mX1_takeWithin_b206 f n else ((gR f v0 1 5).bind fun x5 => ((x5).bind fun j6 => rCk (isO f j6 6) (((mX6_next j6 f n).bind fun r8 => (if r8.1 = (0 : Int32) then mX1_takeWithin_b206 r8.2.1 r8.2.2 else ((gR r8.2.1 v0 1 0).bind fun x10 => ((x10).bind fun j11 => rCk (isO r8.2.1 j11 5) (((mX5_size j11 r8.2.1 r8.2.2).bind fun r13 => ((gR r13.2.1 v0 1 5).bind fun x15 => ((x15).bind fun j16 => ((gI r13.2.1 j16 6 1).bind fun x17 => mX1_takeWithin_l63 (fun v0 v1 v2 f n => mX1_takeWithin_l17 d v0 v1 v2 f n) rFU v0 (some iv1) v2 r13.1 x17 r13.2.1 r13.2.2)))))))))))))))))) _
    refine po_lt kt_600 rfl (fun q1 => ?_) (fun q1 => ?_)
    · unfold mX1_takeWithin_b206
      exact po_ret ⟨rfl, hW, trivial⟩
    · refine po_gI hW h0 rfl rfl (by decide) (fun x2x ex2 (hx2 : 0 ≤ x2x.toInt ∧ x2x.toInt ≤ 40) => ?_)
      refine po_gRn (t := 13) hW h0 rfl rfl (by decide) (fun i3 ex3 hi3 => ?_)
      refine po_some ?_
      refine po_gL (N := 40) hW hi3 rfl rfl (by decide) ?_
      refine po_le kn_40 rfl (fun q4 => ?_) (fun q4 => ?_)
      · unfold mX1_takeWithin_b206
        exact po_ret ⟨rfl, hW, trivial⟩
      · refine po_gRn (t := 6) hW h0 rfl rfl (by decide) (fun i5 ex5 hi5 => ?_)
        refine po_some ?_
        refine po_ck (wt_isO hW hi5 (by decide)) ?_
        refine po_w (tX6_next hW hi5) (fun y6 g6 hW6 p6 => ?_)
        dsimp only
        refine po_eq (fun q7 => ?_) (fun q7 => ?_)
        · unfold mX1_takeWithin_b206
          exact po_ret ⟨rfl, hW6, trivial⟩
        · refine po_gRm hW6 h0 rfl rfl (fun i8 ex8 hi8 hm8 => ?_)
          refine po_some ?_
          refine po_ck (wt_isO hW6 hi8 (by decide)) ?_
          refine po_ro (tX5_size hW6 hi8) (fun y9 ex9 p9 => ?_)
          dsimp only
          refine po_gRn (t := 6) hW6 h0 rfl rfl (by decide) (fun i10 ex10 hi10 => ?_)
          refine po_some ?_
          refine po_gI hW6 hi10 rfl rfl (by decide) (fun x11x ex11 (hx11 : 0 ≤ x11x.toInt ∧ x11x.toInt ≤ 702) => ?_)
          exact (tX1_takeWithin_l63 (D := d) (fun a0 a1 a2 f hW h0 h1 h2 hm => ih a0 a1 a2 f hW h0 h1 h2 hm) rFU v0 (some iv1) v2 y9 x11x g6 hW6 h0 ⟨_, rfl, h1⟩ (by omega) (by omega) (by omega) (by omega) (by omega) (by unfold rFU; omega))
set_option maxHeartbeats 1000000 in
theorem tX1_takeWithin {G : TE} {F0 : AH} {S : Int32} {f : AH} {n : Nat} {v0 : Nat} {v1 : Option Nat} (hW : WT G F0 S f n) (h0 : G.1 v0 = 1) (h1 : (∃ i, v1 = some i ∧ G.1 i = 7)) : PO (mX1_takeWithin v0 v1 f n) (fun v f' n' => n' = n ∧ WT G F0 S f' n ∧ (True)) := by
  obtain ⟨iv1, rfl, h1⟩ := h1
  have k_kt_0 := kt_0
  unfold mX1_takeWithin
  refine po_gRn (t := 6) hW h0 rfl rfl (by decide) (fun i1 ex1 hi1 => ?_)
  refine po_gRm hW h0 rfl rfl (fun i2 ex2 hi2 hm2 => ?_)
  refine po_some ?_
  refine po_gI hW h1 rfl rfl (by decide) (fun x3x ex3 (_ : True) => ?_)
  refine po_some ?_
  refine po_ck (wt_isO hW hi1 (by decide)) ?_
  refine po_w (tX6_start hW hi1 ⟨_, rfl, hi2⟩) (fun y4 g4 hW4 p4 => ?_)
  dsimp only
  exact (tX1_takeWithin_l17 rFU v0 (some iv1) (0 : Int32) g4 hW4 h0 ⟨_, rfl, h1⟩ (by omega)  (by unfold rFU; omega))
