set_option maxHeartbeats 1000000 in
theorem tX4_start {G : TE} {F0 : AH} {S : Int32} {f : AH} {n : Nat} {v0 : Nat} {v1 : Option Nat} (hW : WT G F0 S f n) (h0 : G.1 v0 = 4) (h1 : (∃ i, v1 = some i ∧ G.1 i = 5)) : PO (mX4_start v0 v1 f n) (fun v f' n' => n' = n ∧ WT G F0 S f' n ∧ (True)) := by
  obtain ⟨iv1, rfl, h1⟩ := h1
  have k_kt_0 := kt_0
  unfold mX4_start
  refine po_pO hW h0 rfl rfl (vv_n (t := 5) (by decide) h1) (fun g1 hW1 => ?_)
  refine po_gRn (t := 5) hW1 h0 rfl rfl (by decide) (fun i2 ex2 hi2 => ?_)
  refine po_bind ex2 ?_
  refine po_some ?_
  refine po_ck (wt_isO hW1 hi2 (by decide)) ?_
  refine po_ro (tX5_size hW1 hi2) (fun y3 ex3 p3 => ?_)
  dsimp only
  refine po_some ?_
  refine po_ck (wt_isO hW1 hi2 (by decide)) ?_
  refine po_ro (tX5_behindBlanks hW1 hi2 (by omega) (by omega)) (fun y4 ex4 p4 => ?_)
  dsimp only
  refine po_pI hW1 h0 rfl rfl (vv_i (by decide) (vi8 (by omega))) (fun g5 hW5 ex5 => ?_)
  refine po_bind ex5 ?_
  refine po_gRn (t := 5) hW5 h0 rfl rfl (by decide) (fun i6 ex6 hi6 => ?_)
  refine po_some ?_
  refine po_ck (wt_isO hW5 hi6 (by decide)) ?_
  refine po_ro (tX5_size hW5 hi6) (fun y7 ex7 p7 => ?_)
  dsimp only
  refine po_le rfl rfl (fun q8 => ?_) (fun q8 => ?_)
  · unfold mX4_start_b44
    refine po_ck (nb_of (Or.inl rfl)) ?_
    refine po_pI hW5 h0 rfl rfl (vv_i (by decide) (Or.inl rfl)) (fun g9 hW9 ex9 => ?_)
    exact po_ret ⟨rfl, hW9, trivial⟩
  · unfold mX4_start_b44
    refine po_ck (nb_of (Or.inr rfl)) ?_
    refine po_pI hW5 h0 rfl rfl (vv_i (by decide) (Or.inr rfl)) (fun g10 hW10 ex10 => ?_)
    exact po_ret ⟨rfl, hW10, trivial⟩
set_option maxHeartbeats 1000000 in
theorem tX4_lettersEnd_l5 {G : TE} {F0 : AH} {S : Int32} {n : Nat} : ∀ (d : Nat) (v0 : Nat) (v1 : Int32) (f : AH), WT G F0 S f n → G.1 v0 = 4 → (0 ≤ v1.toInt ∧ v1.toInt ≤ 2000) → 3000 - v1.toInt < (d : Int) → PO (mX4_lettersEnd_l5 d v0 v1 f n) (fun v f' n' => f' = f ∧ n' = n ∧ (0 ≤ v.toInt ∧ v.toInt ≤ 600)) := by
  intro d
  induction d with
  | zero =>
    intro v0 v1 f hW h0 h1  hm
    exfalso
    omega
  | succ d ih =>
    intro v0 v1 f hW h0 h1  hm
    show PO ((gR f v0 4 7).bind fun x1 => ((x1).bind fun j2 => rCk (isO f j2 5) (((mX5_size j2 f n).bind fun r4 => (if r4.1 ≤ v1 then ((gR r4.2.1 v0 4 7).bind fun x6 => ((x6).bind fun j7 => rCk (isO r4.2.1 j7 5) (((mX5_size j7 r4.2.1 r4.2.2).bind fun r9 => some (r9.1, (r9.2.1, r9.2.2)))))) else ((gR r4.2.1 v0 4 7).bind fun x11 => ((x11).bind fun j12 => rCk (isO r4.2.1 j12 5) (((mX5_get j12 v1 r4.2.1 r4.2.2).bind fun r14 => (if r14.1 < (97 : Int32) then mX4_lettersEnd_b42 v1 r14.2.1 r14.2.2 else ((gR r14.2.1 v0 4 7).bind fun x16 => ((x16).bind fun j17 => rCk (isO r14.2.1 j17 5) (((mX5_get j17 v1 r14.2.1 r14.2.2).bind fun r19 => (if r19.1 ≤ (122 : Int32) then mX4_lettersEnd_l5 d v0 (v1 + (1 : Int32)) r19.2.1 r19.2.2 else mX4_lettersEnd_b42 v1 r19.2.1 r19.2.2))))))))))))))) _
    refine po_gRn (t := 5) hW h0 rfl rfl (by decide) (fun i1 ex1 hi1 => ?_)
    refine po_some ?_
    refine po_ck (wt_isO hW hi1 (by decide)) ?_
    refine po_ro (tX5_size hW hi1) (fun y2 ex2 p2 => ?_)
    dsimp only
    refine po_le rfl rfl (fun q3 => ?_) (fun q3 => ?_)
    · refine po_bind ex1 ?_
      refine po_some ?_
      refine po_ck (wt_isO hW hi1 (by decide)) ?_
      refine po_bind ex2 ?_
      dsimp only
      exact po_ret ⟨rfl, rfl, (by omega)⟩
    · refine po_bind ex1 ?_
      refine po_some ?_
      refine po_ck (wt_isO hW hi1 (by decide)) ?_
      refine po_ro (tX5_get hW hi1) (fun y4 ex4 p4 => ?_)
      dsimp only
      refine po_lt rfl kt_97 (fun q5 => ?_) (fun q5 => ?_)
      · unfold mX4_lettersEnd_b42
        exact po_ret ⟨rfl, rfl, (by omega)⟩
      · refine po_bind ex1 ?_
        refine po_some ?_
        refine po_ck (wt_isO hW hi1 (by decide)) ?_
        refine po_bind ex4 ?_
        dsimp only
        refine po_le rfl kt_122 (fun q6 => ?_) (fun q6 => ?_)
        · have e7 : (v1 + (1 : Int32)).toInt = v1.toInt + 1 := i_add rfl kt_1 (by omega)
          exact (ih v0 (v1 + (1 : Int32)) f hW h0 (by omega)  (by omega))
        · unfold mX4_lettersEnd_b42
          exact po_ret ⟨rfl, rfl, (by omega)⟩
set_option maxHeartbeats 1000000 in
theorem tX4_lettersEnd {G : TE} {F0 : AH} {S : Int32} {f : AH} {n : Nat} {v0 : Nat} (hW : WT G F0 S f n) (h0 : G.1 v0 = 4) : PO (mX4_lettersEnd v0 f n) (fun v f' n' => f' = f ∧ n' = n ∧ (0 ≤ v.toInt ∧ v.toInt ≤ 600)) := by
  unfold mX4_lettersEnd
  refine po_gI hW h0 rfl rfl (by decide) (fun x1x ex1 (hx1 : 0 ≤ x1x.toInt ∧ x1x.toInt ≤ 2000) => ?_)
  exact (tX4_lettersEnd_l5 rFU v0 x1x f hW h0 (by omega)  (by unfold rFU; omega))
set_option maxHeartbeats 1000000 in
theorem tX4_nameOf {G : TE} {F0 : AH} {S : Int32} {f : AH} {n : Nat} {v0 : Int32} (hW : WT G F0 S f n)  : PO (mX4_nameOf v0 f n) (fun v f' n' => f' = f ∧ n' = n ∧ (v < 12)) := by
  unfold mX4_nameOf
  refine po_eq (fun q1 => ?_) (fun q1 => ?_)
  · exact po_ret ⟨rfl, rfl, (by decide)⟩
  · refine po_eq (fun q2 => ?_) (fun q2 => ?_)
    · exact po_ret ⟨rfl, rfl, (by decide)⟩
    · refine po_eq (fun q3 => ?_) (fun q3 => ?_)
      · exact po_ret ⟨rfl, rfl, (by decide)⟩
      · refine po_eq (fun q4 => ?_) (fun q4 => ?_)
        · exact po_ret ⟨rfl, rfl, (by decide)⟩
        · refine po_eq (fun q5 => ?_) (fun q5 => ?_)
          · exact po_ret ⟨rfl, rfl, (by decide)⟩
          · refine po_eq (fun q6 => ?_) (fun q6 => ?_)
            · exact po_ret ⟨rfl, rfl, (by decide)⟩
            · refine po_eq (fun q7 => ?_) (fun q7 => ?_)
              · exact po_ret ⟨rfl, rfl, (by decide)⟩
              · refine po_eq (fun q8 => ?_) (fun q8 => ?_)
                · exact po_ret ⟨rfl, rfl, (by decide)⟩
                · refine po_eq (fun q9 => ?_) (fun q9 => ?_)
                  · exact po_ret ⟨rfl, rfl, (by decide)⟩
                  · refine po_eq (fun q10 => ?_) (fun q10 => ?_)
                    · exact po_ret ⟨rfl, rfl, (by decide)⟩
                    · refine po_eq (fun q11 => ?_) (fun q11 => ?_)
                      · exact po_ret ⟨rfl, rfl, (by decide)⟩
                      · exact po_ret ⟨rfl, rfl, (by decide)⟩
set_option maxHeartbeats 1000000 in
theorem tX5_isText_l13 {G : TE} {F0 : AH} {S : Int32} {n : Nat} : ∀ (d : Nat) (v0 : Nat) (v1 : Int32) (v2 : Int32) (v3 : Nat) (v4 : Int32) (f : AH), WT G F0 S f n → G.1 v0 = 5 → v3 < 12 → (0 ≤ v4.toInt ∧ v4.toInt ≤ 2000) → 3000 - v4.toInt < (d : Int) → PO (mX5_isText_l13 d v0 v1 v2 v3 v4 f n) (fun v f' n' => f' = f ∧ n' = n ∧ (v = 0 ∨ v = 1)) := by
  intro d
  induction d with
  | zero =>
    intro v0 v1 v2 v3 v4 f hW h0 h1 h2  hm
    exfalso
    omega
  | succ d ih =>
    intro v0 v1 v2 v3 v4 f hW h0 h1 h2  hm
    have hst := st4_b h1
    show PO (if v2 ≤ v4 then mX5_isText_b53 f n else (if (st4L v3) ≤ v4 then mX5_isText_b53 f n else rCk (isO f v0 5) (((mX5_get v0 (v1 + v4) f n).bind fun r2 => rCk (rIn v4 (sL4.getD v3 0)) ((if r2.1 = (st4C v3 v4) then mX5_isText_l13 d v0 v1 v2 v3 (v4 + (1 : Int32)) r2.2.1 r2.2.2 else rCk (rNb (0 : Int32)) (some ((0 : Int32), (r2.2.1, r2.2.2))))))))) _
    refine po_le rfl rfl (fun q1 => ?_) (fun q1 => ?_)
    · unfold mX5_isText_b53
      refine po_ck rfl ?_
      exact po_ret ⟨rfl, rfl, (Or.inr rfl)⟩
    · refine po_le rfl rfl (fun q2 => ?_) (fun q2 => ?_)
      · unfold mX5_isText_b53
        refine po_ck rfl ?_
        exact po_ret ⟨rfl, rfl, (Or.inr rfl)⟩
      · refine po_ck (wt_isO hW h0 (by decide)) ?_
        refine po_ro (tX5_get hW h0) (fun y3 ex3 p3 => ?_)
        dsimp only
        refine po_ck (in_st4 h1 (by omega)) ?_
        refine po_eq (fun q4 => ?_) (fun q4 => ?_)
        · have e5 : (v4 + (1 : Int32)).toInt = v4.toInt + 1 := i_add rfl kt_1 (by omega)
          exact (ih v0 v1 v2 v3 (v4 + (1 : Int32)) f hW h0 h1 (by omega)  (by omega))
        · refine po_ck rfl ?_
          exact po_ret ⟨rfl, rfl, (Or.inl rfl)⟩
set_option maxHeartbeats 1000000 in
theorem tX5_isText {G : TE} {F0 : AH} {S : Int32} {f : AH} {n : Nat} {v0 : Nat} {v1 : Int32} {v2 : Int32} {v3 : Nat} (hW : WT G F0 S f n) (h0 : G.1 v0 = 5) (h1 : v3 < 12) : PO (mX5_isText v0 v1 v2 v3 f n) (fun v f' n' => f' = f ∧ n' = n ∧ (v = 0 ∨ v = 1)) := by
  have k_kt_0 := kt_0
  unfold mX5_isText
  refine po_eq (fun q1 => ?_) (fun q1 => ?_)
  · exact (tX5_isText_l13 rFU v0 v1 v2 v3 (0 : Int32) f hW h0 h1 (by omega)  (by unfold rFU; omega))
  · refine po_ck rfl ?_
    exact po_ret ⟨rfl, rfl, (Or.inl rfl)⟩
set_option maxHeartbeats 1000000 in
theorem tX4_actNamed_l2 {G : TE} {F0 : AH} {S : Int32} {n : Nat} : ∀ (d : Nat) (v0 : Nat) (v1 : Int32) (v2 : Int32) (v3 : Int32) (f : AH), WT G F0 S f n → G.1 v0 = 4 → (0 ≤ v3.toInt ∧ v3.toInt ≤ 2000) → 3000 - v3.toInt < (d : Int) → PO (mX4_actNamed_l2 d v0 v1 v2 v3 f n) (fun v f' n' => f' = f ∧ n' = n ∧ (True)) := by
  intro d
  induction d with
  | zero =>
    intro v0 v1 v2 v3 f hW h0 h1  hm
    exfalso
    omega
  | succ d ih =>
    intro v0 v1 v2 v3 f hW h0 h1  hm
    show PO (if (11 : Int32) < v3 then some ((-1 : Int32), (f, n)) else ((gR f v0 4 7).bind fun x1 => ((mX4_nameOf v3 f n).bind fun r2 => ((x1).bind fun j3 => rCk (decide (r2.1 < 12)) (rCk (isO r2.2.1 j3 5) (((mX5_isText j3 v1 v2 r2.1 r2.2.1 r2.2.2).bind fun r6 => (if r6.1 = (0 : Int32) then mX4_actNamed_l2 d v0 v1 v2 (v3 + (1 : Int32)) r6.2.1 r6.2.2 else some (v3, (r6.2.1, r6.2.2)))))))))) _
    refine po_lt kt_11 rfl (fun q1 => ?_) (fun q1 => ?_)
    · exact po_ret ⟨rfl, rfl, trivial⟩
    · refine po_gRn (t := 5) hW h0 rfl rfl (by decide) (fun i2 ex2 hi2 => ?_)
      refine po_ro (tX4_nameOf hW ) (fun y3 ex3 p3 => ?_)
      dsimp only
      refine po_some ?_
      refine po_ck (decide_eq_true p3) ?_
      refine po_ck (wt_isO hW hi2 (by decide)) ?_
      refine po_ro (tX5_isText hW hi2 p3) (fun y4 ex4 p4 => ?_)
      dsimp only
      refine po_eq (fun q5 => ?_) (fun q5 => ?_)
      · have e6 : (v3 + (1 : Int32)).toInt = v3.toInt + 1 := i_add rfl kt_1 (by omega)
        exact (ih v0 v1 v2 (v3 + (1 : Int32)) f hW h0 (by omega)  (by omega))
      · exact po_ret ⟨rfl, rfl, trivial⟩
set_option maxHeartbeats 1000000 in
theorem tX4_actNamed {G : TE} {F0 : AH} {S : Int32} {f : AH} {n : Nat} {v0 : Nat} {v1 : Int32} {v2 : Int32} (hW : WT G F0 S f n) (h0 : G.1 v0 = 4) : PO (mX4_actNamed v0 v1 v2 f n) (fun v f' n' => f' = f ∧ n' = n ∧ (True)) := by
  have k_kt_0 := kt_0
  unfold mX4_actNamed
  exact (tX4_actNamed_l2 rFU v0 v1 v2 (0 : Int32) f hW h0 (by omega)  (by unfold rFU; omega))
set_option maxHeartbeats 1000000 in
theorem tX4_readNumber_l30 {G : TE} {F0 : AH} {S : Int32} {n : Nat} : ∀ (d : Nat) (v0 : Nat) (v1 : Int32) (v2 : Int32) (v3 : Int32) (v4 : Int32) (v5 : Int32) (f : AH), WT G F0 S f n → G.1 v0 = 4 → (0 ≤ v3.toInt ∧ v3.toInt ≤ 700) → (0 ≤ v4.toInt ∧ v4.toInt ≤ 1000) → (0 ≤ v5.toInt ∧ v5.toInt ≤ 2000) → v4.toInt + v3.toInt = v5.toInt → 3000 - v5.toInt < (d : Int) → PO (mX4_readNumber_l30 d v0 v1 v2 v3 v4 v5 f n) (fun v f' n' => n' = n ∧ WT G F0 S f' n ∧ (True)) := by
  intro d
  induction d with
  | zero =>
    intro v0 v1 v2 v3 v4 v5 f hW h0 h1 h2 h3 hx0 hm
    exfalso
    omega
  | succ d ih =>
    intro v0 v1 v2 v3 v4 v5 f hW h0 h1 h2 h3 hx0 hm
    show PO ((gR f v0 4 7).bind fun x1 => ((x1).bind fun j2 => rCk (isO f j2 5) (((mX5_size j2 f n).bind fun r4 => (if r4.1 ≤ v5 then mX4_readNumber_b116 v0 v1 v2 v3 v4 r4.2.1 r4.2.2 else ((gR r4.2.1 v0 4 7).bind fun x6 => ((x6).bind fun j7 => rCk (isO r4.2.1 j7 5) (((mX5_get j7 v5 r4.2.1 r4.2.2).bind fun r9 => (if r9.1 < (48 : Int32) then mX4_readNumber_b116 v0 v1 v2 v3 v4 r9.2.1 r9.2.2 else ((gR r9.2.1 v0 4 7).bind fun x11 => ((x11).bind fun j12 => rCk (isO r9.2.1 j12 5) (((mX5_get j12 v5 r9.2.1 r9.2.2).bind fun r14 => (if (57 : Int32) < r14.1 then mX4_readNumber_b116 v0 v1 v2 v3 v4 r14.2.1 r14.2.2 else (if (v4 + (1 : Int32)) ≤ (2 : Int32) then ((gI r14.2.1 v0 4 6).bind fun x16 => ((gR r14.2.1 v0 4 7).bind fun x17 => ((x17).bind fun j18 => rCk (isO r14.2.1 j18 5) (((mX5_get j18 v5 r14.2.1 r14.2.2).bind fun r20 => mX4_readNumber_b107 (fun v0 v1 v2 v3 v4 v5 f n => mX4_readNumber_l30 d v0 v1 v2 v3 v4 v5 f n) v0 v1 v2 v3 (v4 + (1 : Int32)) v5 v0 (((x16 * (10 : Int32)) + r20.1) - (48 : Int32)) r20.2.1 r20.2.2))))) else ((gI r14.2.1 v0 4 6).bind fun x22 => mX4_readNumber_b107 (fun v0 v1 v2 v3 v4 v5 f n => mX4_readNumber_l30 d v0 v1 v2 v3 v4 v5 f n) v0 v1 v2 v3 (v4 + (1 : Int32)) v5 v0 x22 r14.2.1 r14.2.2))))))))))))))))) _
    refine po_gRn (t := 5) hW h0 rfl rfl (by decide) (fun i1 ex1 hi1 => ?_)
    refine po_some ?_
    refine po_ck (wt_isO hW hi1 (by decide)) ?_
    refine po_ro (tX5_size hW hi1) (fun y2 ex2 p2 => ?_)
    dsimp only
    refine po_le rfl rfl (fun q3 => ?_) (fun q3 => ?_)
    · unfold mX4_readNumber_b116
      have e5 : (v3 + v4).toInt = v3.toInt + v4.toInt := i_add rfl rfl (by omega)
      refine po_pI hW h0 rfl rfl (vv_i (by decide) (vi8 (by omega))) (fun g4 hW4 ex4 => ?_)
      refine po_lt rfl kt_1 (fun q6 => ?_) (fun q6 => ?_)
      · unfold mX4_readNumber_b156
        unfold mX4_readNumber_b157
        exact po_ret ⟨rfl, hW4, trivial⟩
      · refine po_lt kt_2 rfl (fun q7 => ?_) (fun q7 => ?_)
        · unfold mX4_readNumber_b156
          unfold mX4_readNumber_b157
          exact po_ret ⟨rfl, hW4, trivial⟩
        · refine po_gI hW4 h0 rfl rfl (by decide) (fun x8x ex8 (_ : True) => ?_)
          refine po_lt rfl rfl (fun q9 => ?_) (fun q9 => ?_)
          · unfold mX4_readNumber_b156
            unfold mX4_readNumber_b157
            exact po_ret ⟨rfl, hW4, trivial⟩
          · refine po_bind ex8 ?_
            refine po_lt rfl rfl (fun q10 => ?_) (fun q10 => ?_)
            · unfold mX4_readNumber_b156
              unfold mX4_readNumber_b157
              exact po_ret ⟨rfl, hW4, trivial⟩
            · unfold mX4_readNumber_b157
              exact po_ret ⟨rfl, hW4, trivial⟩
    · refine po_bind ex1 ?_
      refine po_some ?_
      refine po_ck (wt_isO hW hi1 (by decide)) ?_
      refine po_ro (tX5_get hW hi1) (fun y11 ex11 p11 => ?_)
      dsimp only
      refine po_lt rfl kt_48 (fun q12 => ?_) (fun q12 => ?_)
      · unfold mX4_readNumber_b116
        have e14 : (v3 + v4).toInt = v3.toInt + v4.toInt := i_add rfl rfl (by omega)
        refine po_pI hW h0 rfl rfl (vv_i (by decide) (vi8 (by omega))) (fun g13 hW13 ex13 => ?_)
        refine po_lt rfl kt_1 (fun q15 => ?_) (fun q15 => ?_)
        · unfold mX4_readNumber_b156
          unfold mX4_readNumber_b157
          exact po_ret ⟨rfl, hW13, trivial⟩
        · refine po_lt kt_2 rfl (fun q16 => ?_) (fun q16 => ?_)
          · unfold mX4_readNumber_b156
            unfold mX4_readNumber_b157
            exact po_ret ⟨rfl, hW13, trivial⟩
          · refine po_gI hW13 h0 rfl rfl (by decide) (fun x17x ex17 (_ : True) => ?_)
            refine po_lt rfl rfl (fun q18 => ?_) (fun q18 => ?_)
            · unfold mX4_readNumber_b156
              unfold mX4_readNumber_b157
              exact po_ret ⟨rfl, hW13, trivial⟩
            · refine po_bind ex17 ?_
              refine po_lt rfl rfl (fun q19 => ?_) (fun q19 => ?_)
              · unfold mX4_readNumber_b156
                unfold mX4_readNumber_b157
                exact po_ret ⟨rfl, hW13, trivial⟩
              · unfold mX4_readNumber_b157
                exact po_ret ⟨rfl, hW13, trivial⟩
      · refine po_bind ex1 ?_
        refine po_some ?_
        refine po_ck (wt_isO hW hi1 (by decide)) ?_
        refine po_bind ex11 ?_
        dsimp only
        refine po_lt kt_57 rfl (fun q20 => ?_) (fun q20 => ?_)
        · unfold mX4_readNumber_b116
          have e22 : (v3 + v4).toInt = v3.toInt + v4.toInt := i_add rfl rfl (by omega)
          refine po_pI hW h0 rfl rfl (vv_i (by decide) (vi8 (by omega))) (fun g21 hW21 ex21 => ?_)
          refine po_lt rfl kt_1 (fun q23 => ?_) (fun q23 => ?_)
          · unfold mX4_readNumber_b156
            unfold mX4_readNumber_b157
            exact po_ret ⟨rfl, hW21, trivial⟩
          · refine po_lt kt_2 rfl (fun q24 => ?_) (fun q24 => ?_)
            · unfold mX4_readNumber_b156
              unfold mX4_readNumber_b157
              exact po_ret ⟨rfl, hW21, trivial⟩
            · refine po_gI hW21 h0 rfl rfl (by decide) (fun x25x ex25 (_ : True) => ?_)
              refine po_lt rfl rfl (fun q26 => ?_) (fun q26 => ?_)
              · unfold mX4_readNumber_b156
                unfold mX4_readNumber_b157
                exact po_ret ⟨rfl, hW21, trivial⟩
              · refine po_bind ex25 ?_
                refine po_lt rfl rfl (fun q27 => ?_) (fun q27 => ?_)
                · unfold mX4_readNumber_b156
                  unfold mX4_readNumber_b157
                  exact po_ret ⟨rfl, hW21, trivial⟩
                · unfold mX4_readNumber_b157
                  exact po_ret ⟨rfl, hW21, trivial⟩
        · have e29 : (v4 + (1 : Int32)).toInt = v4.toInt + 1 := i_add rfl kt_1 (by omega)
          refine po_le rfl kt_2 (fun q28 => ?_) (fun q28 => ?_)
          · refine po_gI hW h0 rfl rfl (by decide) (fun x30x ex30 (_ : True) => ?_)
            refine po_bind ex1 ?_
            refine po_some ?_
            refine po_ck (wt_isO hW hi1 (by decide)) ?_
            refine po_bind ex11 ?_
            dsimp only
            unfold mX4_readNumber_b107
            refine po_pI hW h0 rfl rfl (vv_i (by decide) trivial) (fun g31 hW31 ex31 => ?_)
            have e32 : (v5 + (1 : Int32)).toInt = v5.toInt + 1 := i_add rfl kt_1 (by omega)
            exact (ih v0 v1 v2 v3 (v4 + (1 : Int32)) (v5 + (1 : Int32)) g31 hW31 h0 (by omega) (by omega) (by omega) (by omega) (by omega))
          · refine po_gI hW h0 rfl rfl (by decide) (fun x33x ex33 (_ : True) => ?_)
            unfold mX4_readNumber_b107
            refine po_pI hW h0 rfl rfl (vv_i (by decide) trivial) (fun g34 hW34 ex34 => ?_)
            have e35 : (v5 + (1 : Int32)).toInt = v5.toInt + 1 := i_add rfl kt_1 (by omega)
            exact (ih v0 v1 v2 v3 (v4 + (1 : Int32)) (v5 + (1 : Int32)) g34 hW34 h0 (by omega) (by omega) (by omega) (by omega) (by omega))
set_option maxHeartbeats 1000000 in
theorem tX4_readNumber {G : TE} {F0 : AH} {S : Int32} {f : AH} {n : Nat} {v0 : Nat} {v1 : Int32} {v2 : Int32} (hW : WT G F0 S f n) (h0 : G.1 v0 = 4) : PO (mX4_readNumber v0 v1 v2 f n) (fun v f' n' => n' = n ∧ WT G F0 S f' n ∧ (True)) := by
  have k_kt_0 := kt_0
  unfold mX4_readNumber
  refine po_gRn (t := 5) hW h0 rfl rfl (by decide) (fun i1 ex1 hi1 => ?_)
  refine po_gI hW h0 rfl rfl (by decide) (fun x2x ex2 (hx2 : 0 ≤ x2x.toInt ∧ x2x.toInt ≤ 2000) => ?_)
  refine po_bind ex1 ?_
  refine po_some ?_
  refine po_ck (wt_isO hW hi1 (by decide)) ?_
  refine po_ro (tX5_size hW hi1) (fun y3 ex3 p3 => ?_)
  dsimp only
  refine po_some ?_
  refine po_ck (wt_isO hW hi1 (by decide)) ?_
  refine po_ro (tX5_behindBlanks hW hi1 (by omega) (by omega)) (fun y4 ex4 p4 => ?_)
  dsimp only
  refine po_pI hW h0 rfl rfl (vv_i (by decide) trivial) (fun g5 hW5 ex5 => ?_)
  exact (tX4_readNumber_l30 rFU v0 v1 v2 y4 (0 : Int32) y4 g5 hW5 h0 (by omega) (by omega) (by omega) (by omega) (by unfold rFU; omega))
set_option maxHeartbeats 1000000 in
theorem tX4_readFirst {G : TE} {F0 : AH} {S : Int32} {f : AH} {n : Nat} {v0 : Nat} {v1 : Int32} {v2 : Int32} (hW : WT G F0 S f n) (h0 : G.1 v0 = 4) : PO (mX4_readFirst v0 v1 v2 f n) (fun v f' n' => n' = n ∧ WT G F0 S f' n ∧ (True)) := by
  unfold mX4_readFirst
  refine po_ck (wt_isO hW h0 (by decide)) ?_
  refine po_w (tX4_readNumber hW h0) (fun y1 g1 hW1 p1 => ?_)
  dsimp only
  refine po_gI hW1 h0 rfl rfl (by decide) (fun x2x ex2 (_ : True) => ?_)
  refine po_pI hW1 h0 rfl rfl (vv_i (by decide) trivial) (fun g3 hW3 ex3 => ?_)
  exact po_ret ⟨rfl, hW3, trivial⟩
set_option maxHeartbeats 1000000 in
theorem tX4_readSecond {G : TE} {F0 : AH} {S : Int32} {f : AH} {n : Nat} {v0 : Nat} (hW : WT G F0 S f n) (h0 : G.1 v0 = 4) : PO (mX4_readSecond v0 f n) (fun v f' n' => n' = n ∧ WT G F0 S f' n ∧ (True)) := by
  unfold mX4_readSecond
  refine po_ck (wt_isO hW h0 (by decide)) ?_
  refine po_w (tX4_readNumber hW h0) (fun y1 g1 hW1 p1 => ?_)
  dsimp only
  refine po_gI hW1 h0 rfl rfl (by decide) (fun x2x ex2 (_ : True) => ?_)
  refine po_pI hW1 h0 rfl rfl (vv_i (by decide) trivial) (fun g3 hW3 ex3 => ?_)
  exact po_ret ⟨rfl, hW3, trivial⟩
set_option maxHeartbeats 1000000 in
theorem tX4_readWord {G : TE} {F0 : AH} {S : Int32} {f : AH} {n : Nat} {v0 : Nat} (hW : WT G F0 S f n) (h0 : G.1 v0 = 4) : PO (mX4_readWord v0 f n) (fun v f' n' => ∃ G', EXT G G' ∧ WT G' F0 S f' n' ∧ (True)) := by
  unfold mX4_readWord
  refine po_gRn (t := 5) hW h0 rfl rfl (by decide) (fun i1 ex1 hi1 => ?_)
  refine po_gI hW h0 rfl rfl (by decide) (fun x2x ex2 (hx2 : 0 ≤ x2x.toInt ∧ x2x.toInt ≤ 2000) => ?_)
  refine po_bind ex1 ?_
  refine po_some ?_
  refine po_ck (wt_isO hW hi1 (by decide)) ?_
  refine po_ro (tX5_size hW hi1) (fun y3 ex3 p3 => ?_)
  dsimp only
  refine po_some ?_
  refine po_ck (wt_isO hW hi1 (by decide)) ?_
  refine po_ro (tX5_behindBlanks hW hi1 (by omega) (by omega)) (fun y4 ex4 p4 => ?_)
  dsimp only
  refine po_pI hW h0 rfl rfl (vv_i (by decide) (vi8 (by omega))) (fun g5 hW5 ex5 => ?_)
  refine po_ck (wt_isO hW5 h0 (by decide)) ?_
  refine po_ro (tX4_lettersEnd hW5 h0) (fun y6 ex6 p6 => ?_)
  dsimp only
  refine po_pI hW5 h0 rfl rfl (vv_i (by decide) (vi8 (by omega))) (fun g7 hW7 ex7 => ?_)
  refine po_bind ex7 ?_
  have e9 : (y6 - y4).toInt = y6.toInt - y4.toInt := i_sub rfl rfl (by omega)
  refine po_lt rfl kt_1 (fun q8 => ?_) (fun q8 => ?_)
  · unfold mX4_readWord_b50
    exact po_ret ⟨_, EXT.rfl, hW7, trivial⟩
  · refine po_le rfl kt_8 (fun q10 => ?_) (fun q10 => ?_)
    · refine po_gRn (t := 5) hW7 h0 rfl rfl (by decide) (fun i11 ex11 hi11 => ?_)
      refine po_some ?_
      refine po_ck (wt_isO hW7 hi11 (by decide)) ?_
      refine po_a (tX5_part (B := 8) hW7 hi11 (by omega)) (fun y12 g12 n12 G12 xt12 hW12 p12 => ?_)
      dsimp only
      obtain ⟨i12, rfl, hi12⟩ := p12
      refine po_some ?_
      refine po_pO hW12 (xt12.ty h0 (by decide)) rfl rfl (vv_o (t := 5) (by decide) (fun _ hi => Option.some.inj hi ▸ hi12)) (fun g13 hW13 => ?_)
      exact po_ret ⟨_, xt12, hW13, trivial⟩
    · unfold mX4_readWord_b50
      exact po_ret ⟨_, EXT.rfl, hW7, trivial⟩
set_option maxHeartbeats 1000000 in
theorem tX4_readAct {G : TE} {F0 : AH} {S : Int32} {f : AH} {n : Nat} {v0 : Nat} (hW : WT G F0 S f n) (h0 : G.1 v0 = 4) : PO (mX4_readAct v0 f n) (fun v f' n' => ∃ G', EXT G G' ∧ WT G' F0 S f' n' ∧ (True)) := by
  unfold mX4_readAct
  refine po_gI hW h0 rfl rfl (by decide) (fun x1x ex1 (hx1 : 0 ≤ x1x.toInt ∧ x1x.toInt ≤ 2000) => ?_)
  refine po_ck (wt_isO hW h0 (by decide)) ?_
  refine po_ro (tX4_lettersEnd hW h0) (fun y2 ex2 p2 => ?_)
  dsimp only
  refine po_pI hW h0 rfl rfl (vv_i (by decide) (vi8 (by omega))) (fun g3 hW3 ex3 => ?_)
  refine po_bind ex3 ?_
  refine po_ck (wt_isO hW3 h0 (by decide)) ?_
  have e4 : (y2 - x1x).toInt = y2.toInt - x1x.toInt := i_sub rfl rfl (by omega)
  refine po_ro (tX4_actNamed hW3 h0) (fun y5 ex5 p5 => ?_)
  dsimp only
  refine po_pI hW3 h0 rfl rfl (vv_i (by decide) trivial) (fun g6 hW6 ex6 => ?_)
  refine po_bind ex6 ?_
  refine po_eq (fun q7 => ?_) (fun q7 => ?_)
  · exact po_ret ⟨_, EXT.rfl, hW6, trivial⟩
  · refine po_eq (fun q8 => ?_) (fun q8 => ?_)
    · unfold mX4_readAct_b98
      refine po_ck (wt_isO hW6 h0 (by decide)) ?_
      refine po_w (tX4_readFirst hW6 h0) (fun y9 g9 hW9 p9 => ?_)
      dsimp only
      exact po_ret ⟨_, EXT.rfl, hW9, trivial⟩
    · refine po_eq (fun q10 => ?_) (fun q10 => ?_)
      · unfold mX4_readAct_b98
        refine po_ck (wt_isO hW6 h0 (by decide)) ?_
        refine po_w (tX4_readFirst hW6 h0) (fun y11 g11 hW11 p11 => ?_)
        dsimp only
        exact po_ret ⟨_, EXT.rfl, hW11, trivial⟩
      · refine po_eq (fun q12 => ?_) (fun q12 => ?_)
        · unfold mX4_readAct_b148
          exact po_ret ⟨_, EXT.rfl, hW6, trivial⟩
        · refine po_eq (fun q13 => ?_) (fun q13 => ?_)
          · unfold mX4_readAct_b148
            exact po_ret ⟨_, EXT.rfl, hW6, trivial⟩
          · refine po_eq (fun q14 => ?_) (fun q14 => ?_)
            · unfold mX4_readAct_b148
              exact po_ret ⟨_, EXT.rfl, hW6, trivial⟩
            · refine po_eq (fun q15 => ?_) (fun q15 => ?_)
              · refine po_ck (wt_isO hW6 h0 (by decide)) ?_
                refine po_w (tX4_readFirst hW6 h0) (fun y16 g16 hW16 p16 => ?_)
                dsimp only
                exact po_ret ⟨_, EXT.rfl, hW16, trivial⟩
              · refine po_eq (fun q17 => ?_) (fun q17 => ?_)
                · refine po_ck (wt_isO hW6 h0 (by decide)) ?_
                  refine po_a (tX4_readWord hW6 h0) (fun y18 g18 n18 G18 xt18 hW18 p18 => ?_)
                  dsimp only
                  exact po_ret ⟨_, xt18, hW18, trivial⟩
                · refine po_eq (fun q19 => ?_) (fun q19 => ?_)
                  · unfold mX4_readAct_b148
                    exact po_ret ⟨_, EXT.rfl, hW6, trivial⟩
                  · refine po_eq (fun q20 => ?_) (fun q20 => ?_)
                    · unfold mX4_readAct_b113
                      refine po_ck (wt_isO hW6 h0 (by decide)) ?_
                      refine po_w (tX4_readFirst hW6 h0) (fun y21 g21 hW21 p21 => ?_)
                      dsimp only
                      exact po_ret ⟨_, EXT.rfl, hW21, trivial⟩
                    · refine po_eq (fun q22 => ?_) (fun q22 => ?_)
                      · unfold mX4_readAct_b113
                        refine po_ck (wt_isO hW6 h0 (by decide)) ?_
                        refine po_w (tX4_readFirst hW6 h0) (fun y23 g23 hW23 p23 => ?_)
                        dsimp only
                        exact po_ret ⟨_, EXT.rfl, hW23, trivial⟩
                      · refine po_eq (fun q24 => ?_) (fun q24 => ?_)
                        · refine po_ck (wt_isO hW6 h0 (by decide)) ?_
                          refine po_w (tX4_readFirst hW6 h0) (fun y25 g25 hW25 p25 => ?_)
                          dsimp only
                          refine po_eq (fun q26 => ?_) (fun q26 => ?_)
                          · refine po_ck (wt_isO hW25 h0 (by decide)) ?_
                            refine po_w (tX4_readSecond hW25 h0) (fun y27 g27 hW27 p27 => ?_)
                            dsimp only
                            unfold mX4_readAct_b142
                            exact po_ret ⟨_, EXT.rfl, hW27, trivial⟩
                          · unfold mX4_readAct_b142
                            exact po_ret ⟨_, EXT.rfl, hW25, trivial⟩
                        · unfold mX4_readAct_b148
                          exact po_ret ⟨_, EXT.rfl, hW6, trivial⟩
set_option maxHeartbeats 1000000 in
theorem tX4_readBehindAct {G : TE} {F0 : AH} {S : Int32} {f : AH} {n : Nat} {v0 : Nat} (hW : WT G F0 S f n) (h0 : G.1 v0 = 4) : PO (mX4_readBehindAct v0 f n) (fun v f' n' => n' = n ∧ WT G F0 S f' n ∧ (True)) := by
  unfold mX4_readBehindAct
  refine po_gRn (t := 5) hW h0 rfl rfl (by decide) (fun i1 ex1 hi1 => ?_)
  refine po_gI hW h0 rfl rfl (by decide) (fun x2x ex2 (hx2 : 0 ≤ x2x.toInt ∧ x2x.toInt ≤ 2000) => ?_)
  refine po_bind ex1 ?_
  refine po_some ?_
  refine po_ck (wt_isO hW hi1 (by decide)) ?_
  refine po_ro (tX5_size hW hi1) (fun y3 ex3 p3 => ?_)
  dsimp only
  refine po_some ?_
  refine po_ck (wt_isO hW hi1 (by decide)) ?_
  refine po_ro (tX5_behindBlanks hW hi1 (by omega) (by omega)) (fun y4 ex4 p4 => ?_)
  dsimp only
  refine po_pI hW h0 rfl rfl (vv_i (by decide) (vi8 (by omega))) (fun g5 hW5 ex5 => ?_)
  refine po_bind ex5 ?_
  refine po_gRn (t := 5) hW5 h0 rfl rfl (by decide) (fun i6 ex6 hi6 => ?_)
  refine po_some ?_
  refine po_ck (wt_isO hW5 hi6 (by decide)) ?_
  refine po_ro (tX5_size hW5 hi6) (fun y7 ex7 p7 => ?_)
  dsimp only
  refine po_le rfl rfl (fun q8 => ?_) (fun q8 => ?_)
  · unfold mX4_readBehindAct_b42
    refine po_ck (nb_of (Or.inl rfl)) ?_
    refine po_pI hW5 h0 rfl rfl (vv_i (by decide) (Or.inl rfl)) (fun g9 hW9 ex9 => ?_)
    refine po_bind ex9 ?_
    refine po_eq (fun q10 => ?_) (fun q10 => ?_)
    · unfold mX4_readBehindAct_b73
      refine po_gRn (t := 5) hW9 h0 rfl rfl (by decide) (fun i11 ex11 hi11 => ?_)
      refine po_gI hW9 h0 rfl rfl (by decide) (fun x12x ex12 (hx12 : 0 ≤ x12x.toInt ∧ x12x.toInt ≤ 2000) => ?_)
      refine po_bind ex11 ?_
      refine po_some ?_
      refine po_ck (wt_isO hW9 hi11 (by decide)) ?_
      refine po_ro (tX5_size hW9 hi11) (fun y13 ex13 p13 => ?_)
      dsimp only
      refine po_some ?_
      refine po_ck (wt_isO hW9 hi11 (by decide)) ?_
      have e14 : (x12x + (1 : Int32)).toInt = x12x.toInt + 1 := i_add rfl kt_1 (by omega)
      refine po_ro (tX5_behindBlanks hW9 hi11 (by omega) (by omega)) (fun y15 ex15 p15 => ?_)
      dsimp only
      refine po_pI hW9 h0 rfl rfl (vv_i (by decide) (vi8 (by omega))) (fun g16 hW16 ex16 => ?_)
      exact po_ret ⟨rfl, hW16, trivial⟩
    · refine po_gRn (t := 5) hW9 h0 rfl rfl (by decide) (fun i17 ex17 hi17 => ?_)
      refine po_gI hW9 h0 rfl rfl (by decide) (fun x18x ex18 (hx18 : 0 ≤ x18x.toInt ∧ x18x.toInt ≤ 2000) => ?_)
      refine po_some ?_
      refine po_ck (wt_isO hW9 hi17 (by decide)) ?_
      refine po_ro (tX5_get hW9 hi17) (fun y19 ex19 p19 => ?_)
      dsimp only
      refine po_eq (fun q20 => ?_) (fun q20 => ?_)
      · unfold mX4_readBehindAct_b73
        refine po_bind ex17 ?_
        refine po_bind ex18 ?_
        refine po_bind ex17 ?_
        refine po_some ?_
        refine po_ck (wt_isO hW9 hi17 (by decide)) ?_
        refine po_ro (tX5_size hW9 hi17) (fun y21 ex21 p21 => ?_)
        dsimp only
        refine po_some ?_
        refine po_ck (wt_isO hW9 hi17 (by decide)) ?_
        have e22 : (x18x + (1 : Int32)).toInt = x18x.toInt + 1 := i_add rfl kt_1 (by omega)
        refine po_ro (tX5_behindBlanks hW9 hi17 (by omega) (by omega)) (fun y23 ex23 p23 => ?_)
        dsimp only
        refine po_pI hW9 h0 rfl rfl (vv_i (by decide) (vi8 (by omega))) (fun g24 hW24 ex24 => ?_)
        exact po_ret ⟨rfl, hW24, trivial⟩
      · refine po_bind ex18 ?_
        exact po_ret ⟨rfl, hW9, trivial⟩
  · unfold mX4_readBehindAct_b42
    refine po_ck (nb_of (Or.inr rfl)) ?_
    refine po_pI hW5 h0 rfl rfl (vv_i (by decide) (Or.inr rfl)) (fun g25 hW25 ex25 => ?_)
    refine po_bind ex25 ?_
    refine po_eq (fun q26 => ?_) (fun q26 => ?_)
    · unfold mX4_readBehindAct_b73
      refine po_gRn (t := 5) hW25 h0 rfl rfl (by decide) (fun i27 ex27 hi27 => ?_)
      refine po_gI hW25 h0 rfl rfl (by decide) (fun x28x ex28 (hx28 : 0 ≤ x28x.toInt ∧ x28x.toInt ≤ 2000) => ?_)
      refine po_bind ex27 ?_
      refine po_some ?_
      refine po_ck (wt_isO hW25 hi27 (by decide)) ?_
      refine po_ro (tX5_size hW25 hi27) (fun y29 ex29 p29 => ?_)
      dsimp only
      refine po_some ?_
      refine po_ck (wt_isO hW25 hi27 (by decide)) ?_
      have e30 : (x28x + (1 : Int32)).toInt = x28x.toInt + 1 := i_add rfl kt_1 (by omega)
      refine po_ro (tX5_behindBlanks hW25 hi27 (by omega) (by omega)) (fun y31 ex31 p31 => ?_)
      dsimp only
      refine po_pI hW25 h0 rfl rfl (vv_i (by decide) (vi8 (by omega))) (fun g32 hW32 ex32 => ?_)
      exact po_ret ⟨rfl, hW32, trivial⟩
    · refine po_gRn (t := 5) hW25 h0 rfl rfl (by decide) (fun i33 ex33 hi33 => ?_)
      refine po_gI hW25 h0 rfl rfl (by decide) (fun x34x ex34 (hx34 : 0 ≤ x34x.toInt ∧ x34x.toInt ≤ 2000) => ?_)
      refine po_some ?_
      refine po_ck (wt_isO hW25 hi33 (by decide)) ?_
      refine po_ro (tX5_get hW25 hi33) (fun y35 ex35 p35 => ?_)
      dsimp only
      refine po_eq (fun q36 => ?_) (fun q36 => ?_)
      · unfold mX4_readBehindAct_b73
        refine po_bind ex33 ?_
        refine po_bind ex34 ?_
        refine po_bind ex33 ?_
        refine po_some ?_
        refine po_ck (wt_isO hW25 hi33 (by decide)) ?_
        refine po_ro (tX5_size hW25 hi33) (fun y37 ex37 p37 => ?_)
        dsimp only
        refine po_some ?_
        refine po_ck (wt_isO hW25 hi33 (by decide)) ?_
        have e38 : (x34x + (1 : Int32)).toInt = x34x.toInt + 1 := i_add rfl kt_1 (by omega)
        refine po_ro (tX5_behindBlanks hW25 hi33 (by omega) (by omega)) (fun y39 ex39 p39 => ?_)
        dsimp only
        refine po_pI hW25 h0 rfl rfl (vv_i (by decide) (vi8 (by omega))) (fun g40 hW40 ex40 => ?_)
        exact po_ret ⟨rfl, hW40, trivial⟩
      · refine po_bind ex34 ?_
        exact po_ret ⟨rfl, hW25, trivial⟩
set_option maxHeartbeats 1000000 in
theorem tX8_acts_l28 {F0 : AH} {S : Int32} : ∀ (d : Nat) (G : TE) (v0 : Nat) (v1 : Int32) (v2 : Int32) (v3 : Int32) (f : AH) (n : Nat), WT G F0 S f n → G.1 v0 = 8 → (0 ≤ v3.toInt ∧ v3.toInt ≤ 15) → 16 - v3.toInt < (d : Int) → PO (mX8_acts_l28 d v0 v1 v2 v3 f n) (fun v f' n' => ∃ G', EXT G G' ∧ WT G' F0 0 f' n' ∧ ((∀ E : String, v = .inr E → E = eA) ∧ (∀ y, v = .inl y → True))) := by
  intro d
  induction d with
  | zero =>
    intro G v0 v1 v2 v3 f n hW h0 h1  hm
    exfalso
    omega
  | succ d ih =>
    intro G v0 v1 v2 v3 f n hW h0 h1  hm
    have hT : G.1 1 = 5 := hW.2.2.2.2.2
    show PO (if (14 : Int32) < v3 then mX8_acts_b150 v0 v1 v2 f n else ((gR f v0 8 8).bind fun x1 => ((x1).bind fun j2 => ((gI f j2 4 0).bind fun x3 => (if x3 = (0 : Int32) then mX8_acts_b150 v0 v1 v2 f n else (if v2 = (-1 : Int32) then ((gR f v0 8 8).bind fun x4 => ((x4).bind fun j5 => ((gI f j5 4 1).bind fun x6 => (if (14 : Int32) ≤ v3 then mX8_acts_b76 (fun v0 v1 v2 v3 f n => mX8_acts_l28 d v0 v1 v2 v3 f n) v0 v1 v3 x6 x6 f n else ((gR f v0 8 8).bind fun x7 => ((x7).bind fun j8 => rCk (isO f j8 4) (((mX4_readAct j8 f n).bind fun r10 => mX8_acts_b76 (fun v0 v1 v2 v3 f n => mX8_acts_l28 d v0 v1 v2 v3 f n) v0 v1 v3 x6 r10.1 r10.2.1 r10.2.2)))))))) else mX8_acts_b150 v0 v1 v2 f n)))))) _
    refine po_lt kt_14 rfl (fun q1 => ?_) (fun q1 => ?_)
    · unfold mX8_acts_b150
      refine po_gR1 hW h0 (fun ex2 => ?_)
      refine po_some ?_
      refine po_ck (wt_isO hW hT (by decide)) ?_
      refine po_w (tape0 hW hT) (fun y3 g3 hW3 p3 => ?_)
      dsimp only
      refine po_pI hW3 h0 rfl rfl (vv_i (by decide) trivial) (fun g4 hW4 ex4 => ?_)
      refine po_eq (fun q5 => ?_) (fun q5 => ?_)
      · refine po_le rfl kt_0 (fun q6 => ?_) (fun q6 => ?_)
        · refine po_gI hW4 h0 rfl rfl (by decide) (fun x7x ex7 (_ : True) => ?_)
          unfold mX8_acts_b199
          refine po_pI hW4 h0 rfl rfl (vv_i (by decide) trivial) (fun g8 hW8 ex8 => ?_)
          refine po_pI hW8 h0 rfl rfl (vv_i (by decide) trivial) (fun g9 hW9 ex9 => ?_)
          exact po_ret ⟨_, EXT.rfl, hW9, ⟨fun E hE => (by cases hE), fun y hy => by cases hy; exact trivial⟩⟩
        · unfold mX8_acts_b199
          refine po_pI hW4 h0 rfl rfl (vv_i (by decide) trivial) (fun g10 hW10 ex10 => ?_)
          refine po_pI hW10 h0 rfl rfl (vv_i (by decide) trivial) (fun g11 hW11 ex11 => ?_)
          exact po_ret ⟨_, EXT.rfl, hW11, ⟨fun E hE => (by cases hE), fun y hy => by cases hy; exact trivial⟩⟩
      · refine po_gRn (t := 7) hW4 h0 rfl rfl (by decide) (fun i12 ex12 hi12 => ?_)
        refine po_ck (wt_isO hW4 h0 (by decide)) ?_
        refine po_w (tX8_restore hW4 h0 ⟨_, rfl, hi12⟩) (fun y13 g13 hW13 p13 => ?_)
        dsimp only
        exact po_ret ⟨_, EXT.rfl, hW13, ⟨fun E hE => by cases hE; first | exact rfl | exact Or.inl rfl | exact Or.inr rfl, fun y hy => (by cases hy)⟩⟩
    · refine po_gRn (t := 4) hW h0 rfl rfl (by decide) (fun i14 ex14 hi14 => ?_)
      refine po_some ?_
      refine po_gI hW hi14 rfl rfl (by decide) (fun x15x ex15 (hx15 : x15x = 0 ∨ x15x = 1) => ?_)
      refine po_eq (fun q16 => ?_) (fun q16 => ?_)
      · unfold mX8_acts_b150
        refine po_gR1 hW h0 (fun ex17 => ?_)
        refine po_some ?_
        refine po_ck (wt_isO hW hT (by decide)) ?_
        refine po_w (tape0 hW hT) (fun y18 g18 hW18 p18 => ?_)
        dsimp only
        refine po_pI hW18 h0 rfl rfl (vv_i (by decide) trivial) (fun g19 hW19 ex19 => ?_)
        refine po_eq (fun q20 => ?_) (fun q20 => ?_)
        · refine po_le rfl kt_0 (fun q21 => ?_) (fun q21 => ?_)
          · refine po_gI hW19 h0 rfl rfl (by decide) (fun x22x ex22 (_ : True) => ?_)
            unfold mX8_acts_b199
            refine po_pI hW19 h0 rfl rfl (vv_i (by decide) trivial) (fun g23 hW23 ex23 => ?_)
            refine po_pI hW23 h0 rfl rfl (vv_i (by decide) trivial) (fun g24 hW24 ex24 => ?_)
            exact po_ret ⟨_, EXT.rfl, hW24, ⟨fun E hE => (by cases hE), fun y hy => by cases hy; exact trivial⟩⟩
          · unfold mX8_acts_b199
            refine po_pI hW19 h0 rfl rfl (vv_i (by decide) trivial) (fun g25 hW25 ex25 => ?_)
            refine po_pI hW25 h0 rfl rfl (vv_i (by decide) trivial) (fun g26 hW26 ex26 => ?_)
            exact po_ret ⟨_, EXT.rfl, hW26, ⟨fun E hE => (by cases hE), fun y hy => by cases hy; exact trivial⟩⟩
        · refine po_gRn (t := 7) hW19 h0 rfl rfl (by decide) (fun i27 ex27 hi27 => ?_)
          refine po_ck (wt_isO hW19 h0 (by decide)) ?_
          refine po_w (tX8_restore hW19 h0 ⟨_, rfl, hi27⟩) (fun y28 g28 hW28 p28 => ?_)
          dsimp only
          exact po_ret ⟨_, EXT.rfl, hW28, ⟨fun E hE => by cases hE; first | exact rfl | exact Or.inl rfl | exact Or.inr rfl, fun y hy => (by cases hy)⟩⟩
      · refine po_eq (fun q29 => ?_) (fun q29 => ?_)
        · refine po_bind ex14 ?_
          refine po_some ?_
          refine po_gI hW hi14 rfl rfl (by decide) (fun x30x ex30 (hx30 : 0 ≤ x30x.toInt ∧ x30x.toInt ≤ 2000) => ?_)
          refine po_le kt_14 rfl (fun q31 => ?_) (fun q31 => ?_)
          · unfold mX8_acts_b76
            refine po_eq (fun q32 => ?_) (fun q32 => ?_)
            · refine po_bind ex14 ?_
              refine po_some ?_
              refine po_gI hW hi14 rfl rfl (by decide) (fun x33x ex33 (_ : True) => ?_)
              refine po_bind ex14 ?_
              refine po_some ?_
              refine po_gI hW hi14 rfl rfl (by decide) (fun x34x ex34 (_ : True) => ?_)
              refine po_bind ex14 ?_
              refine po_some ?_
              refine po_gI hW hi14 rfl rfl (by decide) (fun x35x ex35 (_ : True) => ?_)
              refine po_bind ex14 ?_
              refine po_some ?_
              refine po_gRo (t := 5) hW hi14 rfl rfl (by decide) (fun i36 ex36 hi36 => ?_)
              refine po_ck (wt_isO hW h0 (by decide)) ?_
              refine po_a (tX8_doAct hW h0 hi36) (fun y37 g37 n37 G37 xt37 hW37 p37 => ?_)
              dsimp only
              refine po_eq (fun q38 => ?_) (fun q38 => ?_)
              · refine po_gRn (t := 4) hW37 (xt37.ty h0 (by decide)) rfl rfl (by decide) (fun i39 ex39 hi39 => ?_)
                refine po_some ?_
                refine po_ck (wt_isO hW37 hi39 (by decide)) ?_
                refine po_w (tX4_readBehindAct hW37 hi39) (fun y40 g40 hW40 p40 => ?_)
                dsimp only
                unfold mX8_acts_b144
                have e41 : (v3 + (1 : Int32)).toInt = v3.toInt + 1 := i_add rfl kt_1 (by omega)
                refine po_tail (ih G37 v0 (v1 + (1 : Int32)) y40 (v3 + (1 : Int32)) g40 n37 hW40 (xt37.ty h0 (by decide)) (by omega)  (by omega)) (fun v f2 n2 q => ?_)
                obtain ⟨G9, x9, h9, p9⟩ := q
                exact ⟨G9, xt37.trans x9, h9, p9⟩
              · refine po_pI hW37 (xt37.ty h0 (by decide)) rfl rfl (vv_i (by decide) trivial) (fun g42 hW42 ex42 => ?_)
                unfold mX8_acts_b144
                have e43 : (v3 + (1 : Int32)).toInt = v3.toInt + 1 := i_add rfl kt_1 (by omega)
                refine po_tail (ih G37 v0 v1 x30x (v3 + (1 : Int32)) g42 n37 hW42 (xt37.ty h0 (by decide)) (by omega)  (by omega)) (fun v f2 n2 q => ?_)
                obtain ⟨G9, x9, h9, p9⟩ := q
                exact ⟨G9, xt37.trans x9, h9, p9⟩
            · unfold mX8_acts_b144
              have e44 : (v3 + (1 : Int32)).toInt = v3.toInt + 1 := i_add rfl kt_1 (by omega)
              exact (ih G v0 v1 x30x (v3 + (1 : Int32)) f n hW h0 (by omega)  (by omega))
          · refine po_bind ex14 ?_
            refine po_some ?_
            refine po_ck (wt_isO hW hi14 (by decide)) ?_
            refine po_a (tX4_readAct hW hi14) (fun y45 g45 n45 G45 xt45 hW45 p45 => ?_)
            dsimp only
            unfold mX8_acts_b76
            refine po_eq (fun q46 => ?_) (fun q46 => ?_)
            · refine po_gRn (t := 4) hW45 (xt45.ty h0 (by decide)) rfl rfl (by decide) (fun i47 ex47 hi47 => ?_)
              refine po_some ?_
              refine po_gI hW45 hi47 rfl rfl (by decide) (fun x48x ex48 (_ : True) => ?_)
              refine po_bind ex47 ?_
              refine po_some ?_
              refine po_gI hW45 hi47 rfl rfl (by decide) (fun x49x ex49 (_ : True) => ?_)
              refine po_bind ex47 ?_
              refine po_some ?_
              refine po_gI hW45 hi47 rfl rfl (by decide) (fun x50x ex50 (_ : True) => ?_)
              refine po_bind ex47 ?_
              refine po_some ?_
              refine po_gRo (t := 5) hW45 hi47 rfl rfl (by decide) (fun i51 ex51 hi51 => ?_)
              refine po_ck (wt_isO hW45 (xt45.ty h0 (by decide)) (by decide)) ?_
              refine po_a (tX8_doAct hW45 (xt45.ty h0 (by decide)) hi51) (fun y52 g52 n52 G52 xt52 hW52 p52 => ?_)
              dsimp only
              refine po_eq (fun q53 => ?_) (fun q53 => ?_)
              · refine po_gRn (t := 4) hW52 (xt52.ty (xt45.ty h0 (by decide)) (by decide)) rfl rfl (by decide) (fun i54 ex54 hi54 => ?_)
                refine po_some ?_
                refine po_ck (wt_isO hW52 hi54 (by decide)) ?_
                refine po_w (tX4_readBehindAct hW52 hi54) (fun y55 g55 hW55 p55 => ?_)
                dsimp only
                unfold mX8_acts_b144
                have e56 : (v3 + (1 : Int32)).toInt = v3.toInt + 1 := i_add rfl kt_1 (by omega)
                refine po_tail (ih G52 v0 (v1 + (1 : Int32)) y55 (v3 + (1 : Int32)) g55 n52 hW55 (xt52.ty (xt45.ty h0 (by decide)) (by decide)) (by omega)  (by omega)) (fun v f2 n2 q => ?_)
                obtain ⟨G9, x9, h9, p9⟩ := q
                exact ⟨G9, (xt45.trans xt52).trans x9, h9, p9⟩
              · refine po_pI hW52 (xt52.ty (xt45.ty h0 (by decide)) (by decide)) rfl rfl (vv_i (by decide) trivial) (fun g57 hW57 ex57 => ?_)
                unfold mX8_acts_b144
                have e58 : (v3 + (1 : Int32)).toInt = v3.toInt + 1 := i_add rfl kt_1 (by omega)
                refine po_tail (ih G52 v0 v1 x30x (v3 + (1 : Int32)) g57 n52 hW57 (xt52.ty (xt45.ty h0 (by decide)) (by decide)) (by omega)  (by omega)) (fun v f2 n2 q => ?_)
                obtain ⟨G9, x9, h9, p9⟩ := q
                exact ⟨G9, (xt45.trans xt52).trans x9, h9, p9⟩
            · unfold mX8_acts_b144
              have e59 : (v3 + (1 : Int32)).toInt = v3.toInt + 1 := i_add rfl kt_1 (by omega)
              refine po_tail (ih G45 v0 v1 y45 (v3 + (1 : Int32)) g45 n45 hW45 (xt45.ty h0 (by decide)) (by omega)  (by omega)) (fun v f2 n2 q => ?_)
              obtain ⟨G9, x9, h9, p9⟩ := q
              exact ⟨G9, xt45.trans x9, h9, p9⟩
        · unfold mX8_acts_b150
          refine po_gR1 hW h0 (fun ex60 => ?_)
          refine po_some ?_
          refine po_ck (wt_isO hW hT (by decide)) ?_
          refine po_w (tape0 hW hT) (fun y61 g61 hW61 p61 => ?_)
          dsimp only
          refine po_pI hW61 h0 rfl rfl (vv_i (by decide) trivial) (fun g62 hW62 ex62 => ?_)
          refine po_eq (fun q63 => ?_) (fun q63 => ?_)
          · refine po_le rfl kt_0 (fun q64 => ?_) (fun q64 => ?_)
            · refine po_gI hW62 h0 rfl rfl (by decide) (fun x65x ex65 (_ : True) => ?_)
              unfold mX8_acts_b199
              refine po_pI hW62 h0 rfl rfl (vv_i (by decide) trivial) (fun g66 hW66 ex66 => ?_)
              refine po_pI hW66 h0 rfl rfl (vv_i (by decide) trivial) (fun g67 hW67 ex67 => ?_)
              exact po_ret ⟨_, EXT.rfl, hW67, ⟨fun E hE => (by cases hE), fun y hy => by cases hy; exact trivial⟩⟩
            · unfold mX8_acts_b199
              refine po_pI hW62 h0 rfl rfl (vv_i (by decide) trivial) (fun g68 hW68 ex68 => ?_)
              refine po_pI hW68 h0 rfl rfl (vv_i (by decide) trivial) (fun g69 hW69 ex69 => ?_)
              exact po_ret ⟨_, EXT.rfl, hW69, ⟨fun E hE => (by cases hE), fun y hy => by cases hy; exact trivial⟩⟩
          · refine po_gRn (t := 7) hW62 h0 rfl rfl (by decide) (fun i70 ex70 hi70 => ?_)
            refine po_ck (wt_isO hW62 h0 (by decide)) ?_
            refine po_w (tX8_restore hW62 h0 ⟨_, rfl, hi70⟩) (fun y71 g71 hW71 p71 => ?_)
            dsimp only
            exact po_ret ⟨_, EXT.rfl, hW71, ⟨fun E hE => by cases hE; first | exact rfl | exact Or.inl rfl | exact Or.inr rfl, fun y hy => (by cases hy)⟩⟩
set_option maxHeartbeats 1000000 in
theorem tX8_acts {G : TE} {F0 : AH} {S : Int32} {f : AH} {n : Nat} {v0 : Nat} (hW : WT G F0 S f n) (h0 : G.1 v0 = 8) : PO (mX8_acts v0 f n) (fun v f' n' => ∃ G', EXT G G' ∧ WT G' F0 0 f' n' ∧ ((∀ E : String, v = .inr E → E = eA) ∧ (∀ y, v = .inl y → True))) := by
  have hT : G.1 1 = 5 := hW.2.2.2.2.2
  have k_kt_0 := kt_0
  unfold mX8_acts
  refine po_gRn (t := 7) hW h0 rfl rfl (by decide) (fun i1 ex1 hi1 => ?_)
  refine po_gRn (t := 7) hW h0 rfl rfl (by decide) (fun i2 ex2 hi2 => ?_)
  refine po_some ?_
  refine po_ck (wt_isO hW hi1 (by decide)) ?_
  refine po_w (tX7_copyFrom hW hi1 ⟨_, rfl, hi2⟩) (fun y3 g3 hW3 p3 => ?_)
  dsimp only
  refine po_gRn (t := 4) hW3 h0 rfl rfl (by decide) (fun i4 ex4 hi4 => ?_)
  refine po_gR1 hW3 h0 (fun ex5 => ?_)
  refine po_some ?_
  refine po_ck (wt_isO hW3 hi4 (by decide)) ?_
  refine po_w (tX4_start hW3 hi4 ⟨_, rfl, hT⟩) (fun y6 g6 hW6 p6 => ?_)
  dsimp only
  exact (tX8_acts_l28 17 G v0 (0 : Int32) (-1 : Int32) (0 : Int32) g6 n hW6 h0 (by omega)  (by omega))
set_option maxHeartbeats 1000000 in
theorem tX8_kind {G : TE} {F0 : AH} {S : Int32} {f : AH} {n : Nat} {v0 : Nat} {v1 : Int32} {v2 : Int32} (hW : WT G F0 S f n) (h0 : G.1 v0 = 8) : PO (mX8_kind v0 v1 v2 f n) (fun v f' n' => ∃ G', EXT G G' ∧ WT G' F0 S f' n' ∧ ((∀ E : String, v = .inr E → E = eA) ∧ (∀ y, v = .inl y → True))) := by
  unfold mX8_kind
  refine po_lt kt_3 rfl (fun q1 => ?_) (fun q1 => ?_)
  · unfold mX8_kind_b18
    exact po_ret ⟨_, EXT.rfl, hW, ⟨fun E hE => by cases hE; first | exact rfl | exact Or.inl rfl | exact Or.inr rfl, fun y hy => (by cases hy)⟩⟩
  · refine po_eq (fun q2 => ?_) (fun q2 => ?_)
    · unfold mX8_kind_b15
      refine po_le kt_0 rfl (fun q3 => ?_) (fun q3 => ?_)
      · refine po_gRn (t := 7) hW h0 rfl rfl (by decide) (fun i4 ex4 hi4 => ?_)
        refine po_gRn (t := 7) hW h0 rfl rfl (by decide) (fun i5 ex5 hi5 => ?_)
        refine po_some ?_
        refine po_ck (wt_isO hW hi4 (by decide)) ?_
        refine po_w (tX7_copyFrom hW hi4 ⟨_, rfl, hi5⟩) (fun y6 g6 hW6 p6 => ?_)
        dsimp only
        refine po_eq (fun q7 => ?_) (fun q7 => ?_)
        · unfold mX8_kind_b50
          refine po_ck (wt_isO hW6 h0 (by decide)) ?_
          refine po_a (tX8_doAct hW6 h0 (fun _ hi => nomatch hi)) (fun y8 g8 n8 G8 xt8 hW8 p8 => ?_)
          dsimp only
          refine po_ck (wt_isO hW8 (xt8.ty h0 (by decide)) (by decide)) ?_
          refine po_w (tX8_finishCall hW8 (xt8.ty h0 (by decide))) (fun y9 g9 hW9 p9 => ?_)
          dsimp only
          refine po_tS (fun z10 q11 => ?_) (fun E hE => ⟨_, xt8, hW9, ⟨fun E2 h2 => by cases h2; exact absurd (p8 (Or.inl ⟨by decide, by decide⟩)) (p9.1 E hE).2, fun y hy => (by cases hy)⟩⟩)
          refine po_gRn (t := 1) hW9 (xt8.ty h0 (by decide)) rfl rfl (by decide) (fun i12 ex12 hi12 => ?_)
          refine po_some ?_
          refine po_ck (wt_isO hW9 hi12 (by decide)) ?_
          refine po_ro (tX1_size hW9 hi12) (fun y13 ex13 p13 => ?_)
          dsimp only
          exact po_ret ⟨_, xt8, hW9, ⟨fun E hE => (by cases hE), fun y hy => by cases hy; exact trivial⟩⟩
        · unfold mX8_kind_b50
          refine po_ck (wt_isO hW6 h0 (by decide)) ?_
          refine po_a (tX8_doAct hW6 h0 (fun _ hi => nomatch hi)) (fun y14 g14 n14 G14 xt14 hW14 p14 => ?_)
          dsimp only
          refine po_ck (wt_isO hW14 (xt14.ty h0 (by decide)) (by decide)) ?_
          refine po_w (tX8_finishCall hW14 (xt14.ty h0 (by decide))) (fun y15 g15 hW15 p15 => ?_)
          dsimp only
          refine po_tS (fun z16 q17 => ?_) (fun E hE => ⟨_, xt14, hW15, ⟨fun E2 h2 => by cases h2; exact absurd (p14 (Or.inl ⟨by decide, by decide⟩)) (p15.1 E hE).2, fun y hy => (by cases hy)⟩⟩)
          refine po_gRn (t := 1) hW15 (xt14.ty h0 (by decide)) rfl rfl (by decide) (fun i18 ex18 hi18 => ?_)
          refine po_some ?_
          refine po_ck (wt_isO hW15 hi18 (by decide)) ?_
          refine po_ro (tX1_size hW15 hi18) (fun y19 ex19 p19 => ?_)
          dsimp only
          exact po_ret ⟨_, xt14, hW15, ⟨fun E hE => (by cases hE), fun y hy => by cases hy; exact trivial⟩⟩
      · unfold mX8_kind_b18
        exact po_ret ⟨_, EXT.rfl, hW, ⟨fun E hE => by cases hE; first | exact rfl | exact Or.inl rfl | exact Or.inr rfl, fun y hy => (by cases hy)⟩⟩
    · unfold mX8_kind_b15
      refine po_le kt_m1 rfl (fun q20 => ?_) (fun q20 => ?_)
      · refine po_gRn (t := 7) hW h0 rfl rfl (by decide) (fun i21 ex21 hi21 => ?_)
        refine po_gRn (t := 7) hW h0 rfl rfl (by decide) (fun i22 ex22 hi22 => ?_)
        refine po_some ?_
        refine po_ck (wt_isO hW hi21 (by decide)) ?_
        refine po_w (tX7_copyFrom hW hi21 ⟨_, rfl, hi22⟩) (fun y23 g23 hW23 p23 => ?_)
        dsimp only
        refine po_eq (fun q24 => ?_) (fun q24 => ?_)
        · unfold mX8_kind_b50
          refine po_ck (wt_isO hW23 h0 (by decide)) ?_
          refine po_a (tX8_doAct hW23 h0 (fun _ hi => nomatch hi)) (fun y25 g25 n25 G25 xt25 hW25 p25 => ?_)
          dsimp only
          refine po_ck (wt_isO hW25 (xt25.ty h0 (by decide)) (by decide)) ?_
          refine po_w (tX8_finishCall hW25 (xt25.ty h0 (by decide))) (fun y26 g26 hW26 p26 => ?_)
          dsimp only
          refine po_tS (fun z27 q28 => ?_) (fun E hE => ⟨_, xt25, hW26, ⟨fun E2 h2 => by cases h2; exact absurd (p25 (Or.inl ⟨by decide, by decide⟩)) (p26.1 E hE).2, fun y hy => (by cases hy)⟩⟩)
          refine po_gRn (t := 1) hW26 (xt25.ty h0 (by decide)) rfl rfl (by decide) (fun i29 ex29 hi29 => ?_)
          refine po_some ?_
          refine po_ck (wt_isO hW26 hi29 (by decide)) ?_
          refine po_ro (tX1_size hW26 hi29) (fun y30 ex30 p30 => ?_)
          dsimp only
          exact po_ret ⟨_, xt25, hW26, ⟨fun E hE => (by cases hE), fun y hy => by cases hy; exact trivial⟩⟩
        · unfold mX8_kind_b50
          refine po_ck (wt_isO hW23 h0 (by decide)) ?_
          refine po_a (tX8_doAct hW23 h0 (fun _ hi => nomatch hi)) (fun y31 g31 n31 G31 xt31 hW31 p31 => ?_)
          dsimp only
          refine po_ck (wt_isO hW31 (xt31.ty h0 (by decide)) (by decide)) ?_
          refine po_w (tX8_finishCall hW31 (xt31.ty h0 (by decide))) (fun y32 g32 hW32 p32 => ?_)
          dsimp only
          refine po_tS (fun z33 q34 => ?_) (fun E hE => ⟨_, xt31, hW32, ⟨fun E2 h2 => by cases h2; exact absurd (p31 (Or.inl ⟨by decide, by decide⟩)) (p32.1 E hE).2, fun y hy => (by cases hy)⟩⟩)
          refine po_gRn (t := 1) hW32 (xt31.ty h0 (by decide)) rfl rfl (by decide) (fun i35 ex35 hi35 => ?_)
          refine po_some ?_
          refine po_ck (wt_isO hW32 hi35 (by decide)) ?_
          refine po_ro (tX1_size hW32 hi35) (fun y36 ex36 p36 => ?_)
          dsimp only
          exact po_ret ⟨_, xt31, hW32, ⟨fun E hE => (by cases hE), fun y hy => by cases hy; exact trivial⟩⟩
      · unfold mX8_kind_b18
        exact po_ret ⟨_, EXT.rfl, hW, ⟨fun E hE => by cases hE; first | exact rfl | exact Or.inl rfl | exact Or.inr rfl, fun y hy => (by cases hy)⟩⟩
