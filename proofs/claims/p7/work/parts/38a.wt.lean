set_option maxHeartbeats 1000000 in
theorem tX8_fault {G : TE} {F0 : AH} {S : Int32} {f : AH} {n : Nat} {v0 : Nat} (hW : WT G F0 S f n) (h0 : G.1 v0 = 8) : PO (mX8_fault v0 f n) (fun v f' n' => f' = f ∧ n' = n ∧ (True)) := by
  unfold mX8_fault
  refine po_gI hW h0 rfl rfl (by decide) (fun x1x ex1 (_ : True) => ?_)
  exact po_ret ⟨rfl, rfl, trivial⟩
set_option maxHeartbeats 1000000 in
theorem tX8_why {G : TE} {F0 : AH} {S : Int32} {f : AH} {n : Nat} {v0 : Nat} (hW : WT G F0 S f n) (h0 : G.1 v0 = 8) : PO (mX8_why v0 f n) (fun v f' n' => f' = f ∧ n' = n ∧ (True)) := by
  unfold mX8_why
  refine po_gI hW h0 rfl rfl (by decide) (fun x1x ex1 (_ : True) => ?_)
  exact po_ret ⟨rfl, rfl, trivial⟩
set_option maxHeartbeats 1000000 in
theorem tX5_get {G : TE} {F0 : AH} {S : Int32} {f : AH} {n : Nat} {v0 : Nat} {v1 : Int32} (hW : WT G F0 S f n) (h0 : G.1 v0 = 5) : PO (mX5_get v0 v1 f n) (fun v f' n' => f' = f ∧ n' = n ∧ (True)) := by
  unfold mX5_get
  refine po_lt rfl kt_0 (fun q1 => ?_) (fun q1 => ?_)
  · unfold mX5_get_b30
    unfold mX5_get_b31
    exact po_ret ⟨rfl, rfl, trivial⟩
  · refine po_rs hW h0 (fun x2x ex2 hx2 hy2 => ?_)
    refine po_le rfl rfl (fun q3 => ?_) (fun q3 => ?_)
    · unfold mX5_get_b30
      unfold mX5_get_b31
      exact po_ret ⟨rfl, rfl, trivial⟩
    · refine po_rb hW h0 ?_
      refine po_some ?_
      refine po_rl hW h0 (fun N5 ha5 hb5 hc5 => ?_)
      refine po_le hc5 rfl (fun q6 => ?_) (fun q6 => ?_)
      · unfold mX5_get_b30
        unfold mX5_get_b31
        exact po_ret ⟨rfl, rfl, trivial⟩
      · refine po_rb hW h0 ?_
        refine po_some ?_
        refine po_ria hW h0 (by omega) (fun x8x => ?_)
        unfold mX5_get_b31
        exact po_ret ⟨rfl, rfl, trivial⟩
set_option maxHeartbeats 1000000 in
theorem tX7_forgetTold_l2 {G : TE} {F0 : AH} {S : Int32} {n : Nat} : ∀ (d : Nat) (v0 : Nat) (v1 : Int32) (f : AH), WT G F0 S f n → G.1 v0 = 7 → (0 ≤ v1.toInt ∧ v1.toInt ≤ 2000) → 3000 - v1.toInt < (d : Int) → PO (mX7_forgetTold_l2 d v0 v1 f n) (fun v f' n' => n' = n ∧ WT G F0 S f' n ∧ (True)) := by
  intro d
  induction d with
  | zero =>
    intro v0 v1 f hW h0 h1  hm
    exfalso
    omega
  | succ d ih =>
    intro v0 v1 f hW h0 h1  hm
    show PO ((gR f v0 7 9).bind fun x1 => ((x1).bind fun j2 => ((gL f j2).bind fun x3 => (if (nI x3) ≤ v1 then some ((0 : Int32), (f, n)) else ((gR f v0 7 9).bind fun x4 => ((x4).bind fun j5 => ((pRA f j5 v1 (none : Option Nat)).bind fun f6 => mX7_forgetTold_l2 d v0 (v1 + (1 : Int32)) f6 n))))))) _
    refine po_gRn (t := 11) hW h0 rfl rfl (by decide) (fun i1 ex1 hi1 => ?_)
    refine po_some ?_
    refine po_gL (N := 40) hW hi1 rfl rfl (by decide) ?_
    refine po_le kn_40 rfl (fun q2 => ?_) (fun q2 => ?_)
    · exact po_ret ⟨rfl, hW, trivial⟩
    · refine po_bind ex1 ?_
      refine po_some ?_
      refine po_pRAo (N := 40) hW hi1 rfl rfl (by omega) (fun _ hi => nomatch hi) (fun g3 hW3 => ?_)
      have e4 : (v1 + (1 : Int32)).toInt = v1.toInt + 1 := i_add rfl kt_1 (by omega)
      exact (ih v0 (v1 + (1 : Int32)) g3 hW3 h0 (by omega)  (by omega))
set_option maxHeartbeats 1000000 in
theorem tX7_forgetTold {G : TE} {F0 : AH} {S : Int32} {f : AH} {n : Nat} {v0 : Nat} (hW : WT G F0 S f n) (h0 : G.1 v0 = 7) : PO (mX7_forgetTold v0 f n) (fun v f' n' => n' = n ∧ WT G F0 S f' n ∧ (True)) := by
  have k_kt_0 := kt_0
  unfold mX7_forgetTold
  exact (tX7_forgetTold_l2 rFU v0 (0 : Int32) f hW h0 (by omega)  (by unfold rFU; omega))
set_option maxHeartbeats 1000000 in
theorem tX6_start {G : TE} {F0 : AH} {S : Int32} {f : AH} {n : Nat} {v0 : Nat} {v1 : Option Nat} {v2 : Int32} (hW : WT G F0 S f n) (h0 : G.1 v0 = 6) (h1 : (∃ i, v1 = some i ∧ G.1 i = 5)) : PO (mX6_start v0 v1 v2 f n) (fun v f' n' => n' = n ∧ WT G F0 S f' n ∧ (True)) := by
  obtain ⟨iv1, rfl, h1⟩ := h1
  have k_kt_0 := kt_0
  unfold mX6_start
  refine po_pO hW h0 rfl rfl (vv_n (t := 5) (by decide) h1) (fun g1 hW1 => ?_)
  refine po_pI hW1 h0 rfl rfl (vv_i (by decide) trivial) (fun g2 hW2 ex2 => ?_)
  refine po_pI hW2 h0 rfl rfl (vv_i (by decide) (vi2 (by omega))) (fun g3 hW3 ex3 => ?_)
  refine po_ck rfl ?_
  refine po_pI hW3 h0 rfl rfl (vv_i (by decide) (Or.inl rfl)) (fun g4 hW4 ex4 => ?_)
  refine po_pI hW4 h0 rfl rfl (vv_i (by decide) (vi2 (by omega))) (fun g5 hW5 ex5 => ?_)
  refine po_pI hW5 h0 rfl rfl (vv_i (by decide) trivial) (fun g6 hW6 ex6 => ?_)
  exact po_ret ⟨rfl, hW6, trivial⟩
set_option maxHeartbeats 1000000 in
theorem tX5_next_l3 {G : TE} {F0 : AH} {S : Int32} {n : Nat} : ∀ (d : Nat) (v0 : Nat) (v1 : Int32) (v3 : Int32) (v4 : Int32) (f : AH), WT G F0 S f n → G.1 v0 = 5 → (0 ≤ v3.toInt ∧ v3.toInt ≤ 700) → (0 ≤ v4.toInt ∧ v4.toInt ≤ 2500) → v3.toInt - v4.toInt + 2501 < (d : Int) → PO (mX5_next_l3 d v0 v1 v3 v4 f n) (fun v f' n' => f' = f ∧ n' = n ∧ (0 ≤ v.toInt ∧ v.toInt ≤ v3.toInt)) := by
  intro d
  induction d with
  | zero =>
    intro v0 v1 v3 v4 f hW h0 h1 h2  hm
    exfalso
    omega
  | succ d ih =>
    intro v0 v1 v3 v4 f hW h0 h1 h2  hm
    show PO (if v4 < (0 : Int32) then mX5_next_b44 v3 f n else (if v3 ≤ v4 then mX5_next_b44 v3 f n else ((gR f v0 5 0).bind fun x1 => ((x1).bind fun j2 => ((gL f j2).bind fun x3 => (if (nI x3) ≤ v4 then mX5_next_b44 v3 f n else ((gR f v0 5 0).bind fun x4 => ((x4).bind fun j5 => ((gIA f j5 v4).bind fun x6 => (if x6 = v1 then some (v4, (f, n)) else mX5_next_l3 d v0 v1 v3 (v4 + (1 : Int32)) f n)))))))))) _
    refine po_lt rfl kt_0 (fun q1 => ?_) (fun q1 => ?_)
    · unfold mX5_next_b44
      exact po_ret ⟨rfl, rfl, (by omega)⟩
    · refine po_le rfl rfl (fun q2 => ?_) (fun q2 => ?_)
      · unfold mX5_next_b44
        exact po_ret ⟨rfl, rfl, (by omega)⟩
      · refine po_rb hW h0 ?_
        refine po_some ?_
        refine po_rl hW h0 (fun N4 ha4 hb4 hc4 => ?_)
        refine po_le hc4 rfl (fun q5 => ?_) (fun q5 => ?_)
        · unfold mX5_next_b44
          exact po_ret ⟨rfl, rfl, (by omega)⟩
        · refine po_rb hW h0 ?_
          refine po_some ?_
          refine po_ria hW h0 (by omega) (fun x7x => ?_)
          refine po_eq (fun q8 => ?_) (fun q8 => ?_)
          · exact po_ret ⟨rfl, rfl, (by omega)⟩
          · have e9 : (v4 + (1 : Int32)).toInt = v4.toInt + 1 := i_add rfl kt_1 (by omega)
            exact (ih v0 v1 v3 (v4 + (1 : Int32)) f hW h0 (by omega) (by omega)  (by omega))
set_option maxHeartbeats 1000000 in
theorem tX5_next {G : TE} {F0 : AH} {S : Int32} {f : AH} {n : Nat} {v0 : Nat} {v1 : Int32} {v2 : Int32} {v3 : Int32} (hW : WT G F0 S f n) (h0 : G.1 v0 = 5) (h1 : (0 ≤ v2.toInt ∧ v2.toInt ≤ 2500)) (h2 : (0 ≤ v3.toInt ∧ v3.toInt ≤ 700)) : PO (mX5_next v0 v1 v2 v3 f n) (fun v f' n' => f' = f ∧ n' = n ∧ (0 ≤ v.toInt ∧ v.toInt ≤ v3.toInt)) := by
  unfold mX5_next
  exact (tX5_next_l3 rFU v0 v1 v3 v2 f hW h0 (by omega) (by omega)  (by unfold rFU; omega))
set_option maxHeartbeats 1000000 in
theorem tX5_behindBlanks_l2 {G : TE} {F0 : AH} {S : Int32} {n : Nat} : ∀ (d : Nat) (v0 : Nat) (v2 : Int32) (v3 : Int32) (f : AH), WT G F0 S f n → G.1 v0 = 5 → (0 ≤ v2.toInt ∧ v2.toInt ≤ 700) → (0 ≤ v3.toInt ∧ v3.toInt ≤ 2500) → v2.toInt - v3.toInt + 2501 < (d : Int) → PO (mX5_behindBlanks_l2 d v0 v2 v3 f n) (fun v f' n' => f' = f ∧ n' = n ∧ (0 ≤ v.toInt ∧ v.toInt ≤ v2.toInt)) := by
  intro d
  induction d with
  | zero =>
    intro v0 v2 v3 f hW h0 h1 h2  hm
    exfalso
    omega
  | succ d ih =>
    intro v0 v2 v3 f hW h0 h1 h2  hm
    show PO (if v3 < (0 : Int32) then mX5_behindBlanks_b39 v2 f n else (if v2 ≤ v3 then mX5_behindBlanks_b39 v2 f n else ((gR f v0 5 0).bind fun x1 => ((x1).bind fun j2 => ((gL f j2).bind fun x3 => (if (nI x3) ≤ v3 then mX5_behindBlanks_b39 v2 f n else ((gR f v0 5 0).bind fun x4 => ((x4).bind fun j5 => ((gIA f j5 v3).bind fun x6 => (if x6 = (32 : Int32) then mX5_behindBlanks_l2 d v0 v2 (v3 + (1 : Int32)) f n else some (v3, (f, n)))))))))))) _
    refine po_lt rfl kt_0 (fun q1 => ?_) (fun q1 => ?_)
    · unfold mX5_behindBlanks_b39
      exact po_ret ⟨rfl, rfl, (by omega)⟩
    · refine po_le rfl rfl (fun q2 => ?_) (fun q2 => ?_)
      · unfold mX5_behindBlanks_b39
        exact po_ret ⟨rfl, rfl, (by omega)⟩
      · refine po_rb hW h0 ?_
        refine po_some ?_
        refine po_rl hW h0 (fun N4 ha4 hb4 hc4 => ?_)
        refine po_le hc4 rfl (fun q5 => ?_) (fun q5 => ?_)
        · unfold mX5_behindBlanks_b39
          exact po_ret ⟨rfl, rfl, (by omega)⟩
        · refine po_rb hW h0 ?_
          refine po_some ?_
          refine po_ria hW h0 (by omega) (fun x7x => ?_)
          refine po_eq (fun q8 => ?_) (fun q8 => ?_)
          · have e9 : (v3 + (1 : Int32)).toInt = v3.toInt + 1 := i_add rfl kt_1 (by omega)
            exact (ih v0 v2 (v3 + (1 : Int32)) f hW h0 (by omega) (by omega)  (by omega))
          · exact po_ret ⟨rfl, rfl, (by omega)⟩
set_option maxHeartbeats 1000000 in
theorem tX5_behindBlanks {G : TE} {F0 : AH} {S : Int32} {f : AH} {n : Nat} {v0 : Nat} {v1 : Int32} {v2 : Int32} (hW : WT G F0 S f n) (h0 : G.1 v0 = 5) (h1 : (0 ≤ v1.toInt ∧ v1.toInt ≤ 2500)) (h2 : (0 ≤ v2.toInt ∧ v2.toInt ≤ 700)) : PO (mX5_behindBlanks v0 v1 v2 f n) (fun v f' n' => f' = f ∧ n' = n ∧ (0 ≤ v.toInt ∧ v.toInt ≤ v2.toInt)) := by
  unfold mX5_behindBlanks
  exact (tX5_behindBlanks_l2 rFU v0 v2 v1 f hW h0 (by omega) (by omega)  (by unfold rFU; omega))
set_option maxHeartbeats 1000000 in
theorem tX6_tryLine_l102 {G : TE} {F0 : AH} {S : Int32} {n : Nat} : ∀ (d : Nat) (v0 : Nat) (v2 : Int32) (v3 : Int32) (v4 : Int32) (f : AH), WT G F0 S f n → G.1 v0 = 6 → (0 ≤ v2.toInt ∧ v2.toInt ≤ 700) → (0 ≤ v3.toInt ∧ v3.toInt ≤ 700) → ((-1) ≤ v4.toInt ∧ v4.toInt ≤ 700) → v4.toInt + 2 < (d : Int) → PO (mX6_tryLine_l102 d v0 v2 v3 v4 f n) (fun v f' n' => n' = n ∧ WT G F0 S f' n ∧ (True)) := by
  intro d
  induction d with
  | zero =>
    intro v0 v2 v3 v4 f hW h0 h1 h2 h3  hm
    exfalso
    omega
  | succ d ih =>
    intro v0 v2 v3 v4 f hW h0 h1 h2 h3  hm
    show PO ((gI f v0 6 4).bind fun x1 => (if v4 < x1 then mX6_tryLine_b141 v0 v2 v3 f n else ((gR f v0 6 0).bind fun x2 => ((x2).bind fun j3 => rCk (isO f j3 5) (((mX5_get j3 v4 f n).bind fun r5 => (if r5.1 = (32 : Int32) then ((gI r5.2.1 v0 6 5).bind fun x7 => ((pO r5.2.1 v0 6 5 (.int (x7 - (1 : Int32)))).bind fun f8 => mX6_tryLine_l102 d v0 v2 v3 (v4 + (-1 : Int32)) f8 r5.2.2)) else mX6_tryLine_b141 v0 v2 v3 r5.2.1 r5.2.2))))))) _
    refine po_gI hW h0 rfl rfl (by decide) (fun x1x ex1 (hx1 : 0 ≤ x1x.toInt ∧ x1x.toInt ≤ 700) => ?_)
    refine po_lt rfl rfl (fun q2 => ?_) (fun q2 => ?_)
    · unfold mX6_tryLine_b141
      refine po_gRn (t := 5) hW h0 rfl rfl (by decide) (fun i3 ex3 hi3 => ?_)
      refine po_some ?_
      refine po_ck (wt_isO hW hi3 (by decide)) ?_
      have e4 : (v3 + (1 : Int32)).toInt = v3.toInt + 1 := i_add rfl kt_1 (by omega)
      refine po_ro (tX5_behindBlanks hW hi3 (by omega) (by omega)) (fun y5 ex5 p5 => ?_)
      dsimp only
      refine po_pI hW h0 rfl rfl (vv_i (by decide) (vi10 (by omega))) (fun g6 hW6 ex6 => ?_)
      exact po_ret ⟨rfl, hW6, trivial⟩
    · refine po_gRn (t := 5) hW h0 rfl rfl (by decide) (fun i7 ex7 hi7 => ?_)
      refine po_some ?_
      refine po_ck (wt_isO hW hi7 (by decide)) ?_
      refine po_ro (tX5_get hW hi7) (fun y8 ex8 p8 => ?_)
      dsimp only
      refine po_eq (fun q9 => ?_) (fun q9 => ?_)
      · refine po_gI hW h0 rfl rfl (by decide) (fun x10x ex10 (_ : True) => ?_)
        refine po_pI hW h0 rfl rfl (vv_i (by decide) trivial) (fun g11 hW11 ex11 => ?_)
        have e12 : (v4 + (-1 : Int32)).toInt = v4.toInt + (-1) := i_add rfl kt_m1 (by omega)
        exact (ih v0 v2 v3 (v4 + (-1 : Int32)) g11 hW11 h0 (by omega) (by omega) (by omega)  (by omega))
      · unfold mX6_tryLine_b141
        refine po_bind ex7 ?_
        refine po_some ?_
        refine po_ck (wt_isO hW hi7 (by decide)) ?_
        have e13 : (v3 + (1 : Int32)).toInt = v3.toInt + 1 := i_add rfl kt_1 (by omega)
        refine po_ro (tX5_behindBlanks hW hi7 (by omega) (by omega)) (fun y14 ex14 p14 => ?_)
        dsimp only
        refine po_pI hW h0 rfl rfl (vv_i (by decide) (vi10 (by omega))) (fun g15 hW15 ex15 => ?_)
        exact po_ret ⟨rfl, hW15, trivial⟩
set_option maxHeartbeats 1000000 in
theorem tX6_tryLine {G : TE} {F0 : AH} {S : Int32} {f : AH} {n : Nat} {v0 : Nat} (hW : WT G F0 S f n) (h0 : G.1 v0 = 6) : PO (mX6_tryLine v0 f n) (fun v f' n' => n' = n ∧ WT G F0 S f' n ∧ (True)) := by
  unfold mX6_tryLine
  refine po_gI hW h0 rfl rfl (by decide) (fun x1x ex1 (hx1 : 0 ≤ x1x.toInt ∧ x1x.toInt ≤ 700) => ?_)
  refine po_gRn (t := 5) hW h0 rfl rfl (by decide) (fun i2 ex2 hi2 => ?_)
  refine po_bind ex2 ?_
  refine po_some ?_
  refine po_ck (wt_isO hW hi2 (by decide)) ?_
  refine po_ro (tX5_size hW hi2) (fun y3 ex3 p3 => ?_)
  dsimp only
  refine po_some ?_
  refine po_ck (wt_isO hW hi2 (by decide)) ?_
  refine po_ro (tX5_next hW hi2 (by omega) (by omega)) (fun y4 ex4 p4 => ?_)
  dsimp only
  have e6 : (y4 + (1 : Int32)).toInt = y4.toInt + 1 := i_add rfl kt_1 (by omega)
  refine po_pI hW h0 rfl rfl (vv_i (by decide) (vi2 (by omega))) (fun g5 hW5 ex5 => ?_)
  refine po_gRn (t := 5) hW5 h0 rfl rfl (by decide) (fun i7 ex7 hi7 => ?_)
  refine po_some ?_
  refine po_ck (wt_isO hW5 hi7 (by decide)) ?_
  refine po_ro (tX5_next hW5 hi7 (by omega) (by omega)) (fun y8 ex8 p8 => ?_)
  dsimp only
  refine po_bind ex7 ?_
  refine po_some ?_
  refine po_ck (wt_isO hW5 hi7 (by decide)) ?_
  refine po_ro (tX5_behindBlanks hW5 hi7 (by omega) (by omega)) (fun y9 ex9 p9 => ?_)
  dsimp only
  refine po_pI hW5 h0 rfl rfl (vv_i (by decide) (vi2 (by omega))) (fun g10 hW10 ex10 => ?_)
  refine po_pI hW10 h0 rfl rfl (vv_i (by decide) (vi10 (by omega))) (fun g11 hW11 ex11 => ?_)
  refine po_pI hW11 h0 rfl rfl (vv_i (by decide) (vi9 (by omega))) (fun g12 hW12 ex12 => ?_)
  refine po_eq (fun q13 => ?_) (fun q13 => ?_)
  · unfold mX6_tryLine_b86
    exact po_ret ⟨rfl, hW12, trivial⟩
  · refine po_gRn (t := 5) hW12 h0 rfl rfl (by decide) (fun i14 ex14 hi14 => ?_)
    refine po_gI hW12 h0 rfl rfl (by decide) (fun x15x ex15 (hx15 : 0 ≤ x15x.toInt ∧ x15x.toInt ≤ 700) => ?_)
    refine po_some ?_
    refine po_ck (wt_isO hW12 hi14 (by decide)) ?_
    refine po_ro (tX5_get hW12 hi14) (fun y16 ex16 p16 => ?_)
    dsimp only
    refine po_eq (fun q17 => ?_) (fun q17 => ?_)
    · unfold mX6_tryLine_b86
      exact po_ret ⟨rfl, hW12, trivial⟩
    · refine po_bind ex15 ?_
      refine po_pI hW12 h0 rfl rfl (vv_i (by decide) trivial) (fun g18 hW18 ex18 => ?_)
      have e19 : (y8 - (1 : Int32)).toInt = y8.toInt - 1 := i_sub rfl kt_1 (by omega)
      exact (tX6_tryLine_l102 rFU v0 y4 y8 (y8 - (1 : Int32)) g18 hW18 h0 (by omega) (by omega) (by omega)  (by unfold rFU; omega))
set_option maxHeartbeats 1000000 in
theorem tX5_cellQuoteEnd_l4 {G : TE} {F0 : AH} {S : Int32} {n : Nat} : ∀ (d : Nat) (v0 : Nat) (v2 : Int32) (v3 : Int32) (f : AH), WT G F0 S f n → G.1 v0 = 5 → (0 ≤ v3.toInt ∧ v3.toInt ≤ 2000) → 3000 - v3.toInt < (d : Int) → PO (mX5_cellQuoteEnd_l4 d v0 v2 v3 f n) (fun v f' n' => f' = f ∧ n' = n ∧ ((-1) ≤ v.toInt ∧ v.toInt ≤ 600)) := by
  intro d
  induction d with
  | zero =>
    intro v0 v2 v3 f hW h0 h1  hm
    exfalso
    omega
  | succ d ih =>
    intro v0 v2 v3 f hW h0 h1  hm
    show PO (if v3 < (0 : Int32) then mX5_cellQuoteEnd_b63 v0 v2 f n else ((gI f v0 5 1).bind fun x1 => (if x1 ≤ v3 then mX5_cellQuoteEnd_b63 v0 v2 f n else ((gR f v0 5 0).bind fun x2 => ((x2).bind fun j3 => ((gL f j3).bind fun x4 => (if (nI x4) ≤ v3 then mX5_cellQuoteEnd_b63 v0 v2 f n else ((gR f v0 5 0).bind fun x5 => ((x5).bind fun j6 => ((gIA f j6 v3).bind fun x7 => (if x7 = (34 : Int32) then (if v2 = (0 : Int32) then mX5_cellQuoteEnd_b45 (fun v0 v2 v3 f n => mX5_cellQuoteEnd_l4 d v0 v2 v3 f n) v0 v3 (1 : Int32) f n else mX5_cellQuoteEnd_b45 (fun v0 v2 v3 f n => mX5_cellQuoteEnd_l4 d v0 v2 v3 f n) v0 v3 (0 : Int32) f n) else (if v2 = (0 : Int32) then mX5_cellQuoteEnd_b57 (fun v0 v2 v3 f n => mX5_cellQuoteEnd_l4 d v0 v2 v3 f n) v0 v2 v3 f n else some ((v3 - (1 : Int32)), (f, n)))))))))))))) _
    refine po_lt rfl kt_0 (fun q1 => ?_) (fun q1 => ?_)
    · unfold mX5_cellQuoteEnd_b63
      refine po_eq (fun q2 => ?_) (fun q2 => ?_)
      · refine po_rs hW h0 (fun x3x ex3 hx3 hy3 => ?_)
        unfold mX5_cellQuoteEnd_b80
        exact po_ret ⟨rfl, rfl, (by omega)⟩
      · refine po_rs hW h0 (fun x4x ex4 hx4 hy4 => ?_)
        unfold mX5_cellQuoteEnd_b80
        have e5 : (x4x - (1 : Int32)).toInt = x4x.toInt - 1 := i_sub rfl kt_1 (by omega)
        exact po_ret ⟨rfl, rfl, (by omega)⟩
    · refine po_rs hW h0 (fun x6x ex6 hx6 hy6 => ?_)
      refine po_le rfl rfl (fun q7 => ?_) (fun q7 => ?_)
      · unfold mX5_cellQuoteEnd_b63
        refine po_eq (fun q8 => ?_) (fun q8 => ?_)
        · refine po_bind ex6 ?_
          unfold mX5_cellQuoteEnd_b80
          exact po_ret ⟨rfl, rfl, (by omega)⟩
        · refine po_bind ex6 ?_
          unfold mX5_cellQuoteEnd_b80
          have e9 : (x6x - (1 : Int32)).toInt = x6x.toInt - 1 := i_sub rfl kt_1 (by omega)
          exact po_ret ⟨rfl, rfl, (by omega)⟩
      · refine po_rb hW h0 ?_
        refine po_some ?_
        refine po_rl hW h0 (fun N11 ha11 hb11 hc11 => ?_)
        refine po_le hc11 rfl (fun q12 => ?_) (fun q12 => ?_)
        · unfold mX5_cellQuoteEnd_b63
          refine po_eq (fun q13 => ?_) (fun q13 => ?_)
          · refine po_bind ex6 ?_
            unfold mX5_cellQuoteEnd_b80
            exact po_ret ⟨rfl, rfl, (by omega)⟩
          · refine po_bind ex6 ?_
            unfold mX5_cellQuoteEnd_b80
            have e14 : (x6x - (1 : Int32)).toInt = x6x.toInt - 1 := i_sub rfl kt_1 (by omega)
            exact po_ret ⟨rfl, rfl, (by omega)⟩
        · refine po_rb hW h0 ?_
          refine po_some ?_
          refine po_ria hW h0 (by omega) (fun x16x => ?_)
          refine po_eq (fun q17 => ?_) (fun q17 => ?_)
          · refine po_eq (fun q18 => ?_) (fun q18 => ?_)
            · unfold mX5_cellQuoteEnd_b45
              unfold mX5_cellQuoteEnd_b57
              have e19 : (v3 + (1 : Int32)).toInt = v3.toInt + 1 := i_add rfl kt_1 (by omega)
              exact (ih v0 (1 : Int32) (v3 + (1 : Int32)) f hW h0 (by omega)  (by omega))
            · unfold mX5_cellQuoteEnd_b45
              unfold mX5_cellQuoteEnd_b57
              have e20 : (v3 + (1 : Int32)).toInt = v3.toInt + 1 := i_add rfl kt_1 (by omega)
              exact (ih v0 (0 : Int32) (v3 + (1 : Int32)) f hW h0 (by omega)  (by omega))
          · refine po_eq (fun q21 => ?_) (fun q21 => ?_)
            · unfold mX5_cellQuoteEnd_b57
              have e22 : (v3 + (1 : Int32)).toInt = v3.toInt + 1 := i_add rfl kt_1 (by omega)
              exact (ih v0 v2 (v3 + (1 : Int32)) f hW h0 (by omega)  (by omega))
            · have e23 : (v3 - (1 : Int32)).toInt = v3.toInt - 1 := i_sub rfl kt_1 (by omega)
              exact po_ret ⟨rfl, rfl, (by omega)⟩
set_option maxHeartbeats 1000000 in
theorem tX5_cellQuoteEnd {G : TE} {F0 : AH} {S : Int32} {f : AH} {n : Nat} {v0 : Nat} {v1 : Int32} (hW : WT G F0 S f n) (h0 : G.1 v0 = 5) (h1 : (0 ≤ v1.toInt ∧ v1.toInt ≤ 2000)) : PO (mX5_cellQuoteEnd v0 v1 f n) (fun v f' n' => f' = f ∧ n' = n ∧ ((-1) ≤ v.toInt ∧ v.toInt ≤ 600)) := by
  unfold mX5_cellQuoteEnd
  exact (tX5_cellQuoteEnd_l4 rFU v0 (0 : Int32) v1 f hW h0 (by omega)  (by unfold rFU; omega))
set_option maxHeartbeats 1000000 in
theorem tX5_cellEnd_l2 {G : TE} {F0 : AH} {S : Int32} {n : Nat} : ∀ (d : Nat) (v0 : Nat) (v2 : Int32) (f : AH), WT G F0 S f n → G.1 v0 = 5 → (0 ≤ v2.toInt ∧ v2.toInt ≤ 2000) → 3000 - v2.toInt < (d : Int) → PO (mX5_cellEnd_l2 d v0 v2 f n) (fun v f' n' => f' = f ∧ n' = n ∧ (0 ≤ v.toInt ∧ v.toInt ≤ 600)) := by
  intro d
  induction d with
  | zero =>
    intro v0 v2 f hW h0 h1  hm
    exfalso
    omega
  | succ d ih =>
    intro v0 v2 f hW h0 h1  hm
    show PO (if v2 < (0 : Int32) then mX5_cellEnd_b53 v0 f n else ((gI f v0 5 1).bind fun x1 => (if x1 ≤ v2 then mX5_cellEnd_b53 v0 f n else ((gR f v0 5 0).bind fun x2 => ((x2).bind fun j3 => ((gL f j3).bind fun x4 => (if (nI x4) ≤ v2 then mX5_cellEnd_b53 v0 f n else ((gR f v0 5 0).bind fun x5 => ((x5).bind fun j6 => ((gIA f j6 v2).bind fun x7 => (if x7 = (44 : Int32) then mX5_cellEnd_b45 v2 f n else ((gR f v0 5 0).bind fun x8 => ((x8).bind fun j9 => ((gIA f j9 v2).bind fun x10 => (if x10 = (10 : Int32) then mX5_cellEnd_b45 v2 f n else mX5_cellEnd_l2 d v0 (v2 + (1 : Int32)) f n))))))))))))))) _
    refine po_lt rfl kt_0 (fun q1 => ?_) (fun q1 => ?_)
    · unfold mX5_cellEnd_b53
      refine po_rs hW h0 (fun x2x ex2 hx2 hy2 => ?_)
      exact po_ret ⟨rfl, rfl, (by omega)⟩
    · refine po_rs hW h0 (fun x3x ex3 hx3 hy3 => ?_)
      refine po_le rfl rfl (fun q4 => ?_) (fun q4 => ?_)
      · unfold mX5_cellEnd_b53
        refine po_bind ex3 ?_
        exact po_ret ⟨rfl, rfl, (by omega)⟩
      · refine po_rb hW h0 ?_
        refine po_some ?_
        refine po_rl hW h0 (fun N6 ha6 hb6 hc6 => ?_)
        refine po_le hc6 rfl (fun q7 => ?_) (fun q7 => ?_)
        · unfold mX5_cellEnd_b53
          refine po_bind ex3 ?_
          exact po_ret ⟨rfl, rfl, (by omega)⟩
        · refine po_rb hW h0 ?_
          refine po_some ?_
          refine po_ria hW h0 (by omega) (fun x9x => ?_)
          refine po_eq (fun q10 => ?_) (fun q10 => ?_)
          · unfold mX5_cellEnd_b45
            exact po_ret ⟨rfl, rfl, (by omega)⟩
          · refine po_rb hW h0 ?_
            refine po_some ?_
            refine po_ria hW h0 (by omega) (fun x12x => ?_)
            refine po_eq (fun q13 => ?_) (fun q13 => ?_)
            · unfold mX5_cellEnd_b45
              exact po_ret ⟨rfl, rfl, (by omega)⟩
            · have e14 : (v2 + (1 : Int32)).toInt = v2.toInt + 1 := i_add rfl kt_1 (by omega)
              exact (ih v0 (v2 + (1 : Int32)) f hW h0 (by omega)  (by omega))
set_option maxHeartbeats 1000000 in
theorem tX5_cellEnd {G : TE} {F0 : AH} {S : Int32} {f : AH} {n : Nat} {v0 : Nat} {v1 : Int32} (hW : WT G F0 S f n) (h0 : G.1 v0 = 5) (h1 : (0 ≤ v1.toInt ∧ v1.toInt ≤ 2000)) : PO (mX5_cellEnd v0 v1 f n) (fun v f' n' => f' = f ∧ n' = n ∧ (0 ≤ v.toInt ∧ v.toInt ≤ 600)) := by
  unfold mX5_cellEnd
  exact (tX5_cellEnd_l2 rFU v0 v1 f hW h0 (by omega)  (by unfold rFU; omega))
set_option maxHeartbeats 1000000 in
theorem tX6_tryCell {G : TE} {F0 : AH} {S : Int32} {f : AH} {n : Nat} {v0 : Nat} (hW : WT G F0 S f n) (h0 : G.1 v0 = 6) : PO (mX6_tryCell v0 f n) (fun v f' n' => n' = n ∧ WT G F0 S f' n ∧ (True)) := by
  unfold mX6_tryCell
  refine po_gRn (t := 5) hW h0 rfl rfl (by decide) (fun i1 ex1 hi1 => ?_)
  refine po_gI hW h0 rfl rfl (by decide) (fun x2x ex2 (hx2 : 0 ≤ x2x.toInt ∧ x2x.toInt ≤ 700) => ?_)
  refine po_some ?_
  refine po_ck (wt_isO hW hi1 (by decide)) ?_
  refine po_ro (tX5_get hW hi1) (fun y3 ex3 p3 => ?_)
  dsimp only
  refine po_eq (fun q4 => ?_) (fun q4 => ?_)
  · unfold mX6_tryCell_b22
    refine po_ck (nb_of (Or.inr rfl)) ?_
    refine po_pI hW h0 rfl rfl (vv_i (by decide) (Or.inr rfl)) (fun g5 hW5 ex5 => ?_)
    refine po_bind ex5 ?_
    refine po_eq (fun q6 => ?_) (fun q6 => ?_)
    · refine po_gI hW5 h0 rfl rfl (by decide) (fun x7x ex7 (hx7 : 0 ≤ x7x.toInt ∧ x7x.toInt ≤ 700) => ?_)
      unfold mX6_tryCell_b46
      refine po_pI hW5 h0 rfl rfl (vv_i (by decide) (vi10 (by omega))) (fun g8 hW8 ex8 => ?_)
      refine po_gI hW8 h0 rfl rfl (by decide) (fun x9x ex9 (hx9 : x9x = 0 ∨ x9x = 1) => ?_)
      refine po_eq (fun q10 => ?_) (fun q10 => ?_)
      · refine po_gRn (t := 5) hW8 h0 rfl rfl (by decide) (fun i11 ex11 hi11 => ?_)
        refine po_bind ex8 ?_
        refine po_some ?_
        refine po_ck (wt_isO hW8 hi11 (by decide)) ?_
        refine po_ro (tX5_cellEnd hW8 hi11 (by omega)) (fun y12 ex12 p12 => ?_)
        dsimp only
        unfold mX6_tryCell_b82
        refine po_pI hW8 h0 rfl rfl (vv_i (by decide) (vi9 (by omega))) (fun g13 hW13 ex13 => ?_)
        refine po_gI hW13 h0 rfl rfl (by decide) (fun x14x ex14 (hx14 : x14x = 0 ∨ x14x = 1) => ?_)
        refine po_eq (fun q15 => ?_) (fun q15 => ?_)
        · refine po_bind ex13 ?_
          unfold mX6_tryCell_b117
          have e16 : (y12 + (1 : Int32)).toInt = y12.toInt + 1 := i_add rfl kt_1 (by omega)
          refine po_pI hW13 h0 rfl rfl (vv_i (by decide) (vi2 (by omega))) (fun g17 hW17 ex17 => ?_)
          exact po_ret ⟨rfl, hW17, trivial⟩
        · refine po_gRn (t := 5) hW13 h0 rfl rfl (by decide) (fun i18 ex18 hi18 => ?_)
          refine po_bind ex13 ?_
          refine po_some ?_
          refine po_ck (wt_isO hW13 hi18 (by decide)) ?_
          have e19 : (y12 + (1 : Int32)).toInt = y12.toInt + 1 := i_add rfl kt_1 (by omega)
          refine po_ro (tX5_cellEnd hW13 hi18 (by omega)) (fun y20 ex20 p20 => ?_)
          dsimp only
          unfold mX6_tryCell_b117
          have e21 : (y20 + (1 : Int32)).toInt = y20.toInt + 1 := i_add rfl kt_1 (by omega)
          refine po_pI hW13 h0 rfl rfl (vv_i (by decide) (vi2 (by omega))) (fun g22 hW22 ex22 => ?_)
          exact po_ret ⟨rfl, hW22, trivial⟩
      · refine po_gRn (t := 5) hW8 h0 rfl rfl (by decide) (fun i23 ex23 hi23 => ?_)
        refine po_bind ex8 ?_
        refine po_some ?_
        refine po_ck (wt_isO hW8 hi23 (by decide)) ?_
        refine po_ro (tX5_cellQuoteEnd hW8 hi23 (by omega)) (fun y24 ex24 p24 => ?_)
        dsimp only
        unfold mX6_tryCell_b82
        refine po_pI hW8 h0 rfl rfl (vv_i (by decide) (vi9 (by omega))) (fun g25 hW25 ex25 => ?_)
        refine po_gI hW25 h0 rfl rfl (by decide) (fun x26x ex26 (hx26 : x26x = 0 ∨ x26x = 1) => ?_)
        refine po_eq (fun q27 => ?_) (fun q27 => ?_)
        · refine po_bind ex25 ?_
          unfold mX6_tryCell_b117
          have e28 : (y24 + (1 : Int32)).toInt = y24.toInt + 1 := i_add rfl kt_1 (by omega)
          refine po_pI hW25 h0 rfl rfl (vv_i (by decide) (vi2 (by omega))) (fun g29 hW29 ex29 => ?_)
          exact po_ret ⟨rfl, hW29, trivial⟩
        · refine po_gRn (t := 5) hW25 h0 rfl rfl (by decide) (fun i30 ex30 hi30 => ?_)
          refine po_bind ex25 ?_
          refine po_some ?_
          refine po_ck (wt_isO hW25 hi30 (by decide)) ?_
          have e31 : (y24 + (1 : Int32)).toInt = y24.toInt + 1 := i_add rfl kt_1 (by omega)
          refine po_ro (tX5_cellEnd hW25 hi30 (by omega)) (fun y32 ex32 p32 => ?_)
          dsimp only
          unfold mX6_tryCell_b117
          have e33 : (y32 + (1 : Int32)).toInt = y32.toInt + 1 := i_add rfl kt_1 (by omega)
          refine po_pI hW25 h0 rfl rfl (vv_i (by decide) (vi2 (by omega))) (fun g34 hW34 ex34 => ?_)
          exact po_ret ⟨rfl, hW34, trivial⟩
    · refine po_gI hW5 h0 rfl rfl (by decide) (fun x35x ex35 (hx35 : 0 ≤ x35x.toInt ∧ x35x.toInt ≤ 700) => ?_)
      unfold mX6_tryCell_b46
      have e36 : (x35x + (1 : Int32)).toInt = x35x.toInt + 1 := i_add rfl kt_1 (by omega)
      refine po_pI hW5 h0 rfl rfl (vv_i (by decide) (vi10 (by omega))) (fun g37 hW37 ex37 => ?_)
      refine po_gI hW37 h0 rfl rfl (by decide) (fun x38x ex38 (hx38 : x38x = 0 ∨ x38x = 1) => ?_)
      refine po_eq (fun q39 => ?_) (fun q39 => ?_)
      · refine po_gRn (t := 5) hW37 h0 rfl rfl (by decide) (fun i40 ex40 hi40 => ?_)
        refine po_bind ex37 ?_
        refine po_some ?_
        refine po_ck (wt_isO hW37 hi40 (by decide)) ?_
        refine po_ro (tX5_cellEnd hW37 hi40 (by omega)) (fun y41 ex41 p41 => ?_)
        dsimp only
        unfold mX6_tryCell_b82
        refine po_pI hW37 h0 rfl rfl (vv_i (by decide) (vi9 (by omega))) (fun g42 hW42 ex42 => ?_)
        refine po_gI hW42 h0 rfl rfl (by decide) (fun x43x ex43 (hx43 : x43x = 0 ∨ x43x = 1) => ?_)
        refine po_eq (fun q44 => ?_) (fun q44 => ?_)
        · refine po_bind ex42 ?_
          unfold mX6_tryCell_b117
          have e45 : (y41 + (1 : Int32)).toInt = y41.toInt + 1 := i_add rfl kt_1 (by omega)
          refine po_pI hW42 h0 rfl rfl (vv_i (by decide) (vi2 (by omega))) (fun g46 hW46 ex46 => ?_)
          exact po_ret ⟨rfl, hW46, trivial⟩
        · refine po_gRn (t := 5) hW42 h0 rfl rfl (by decide) (fun i47 ex47 hi47 => ?_)
          refine po_bind ex42 ?_
          refine po_some ?_
          refine po_ck (wt_isO hW42 hi47 (by decide)) ?_
          have e48 : (y41 + (1 : Int32)).toInt = y41.toInt + 1 := i_add rfl kt_1 (by omega)
          refine po_ro (tX5_cellEnd hW42 hi47 (by omega)) (fun y49 ex49 p49 => ?_)
          dsimp only
          unfold mX6_tryCell_b117
          have e50 : (y49 + (1 : Int32)).toInt = y49.toInt + 1 := i_add rfl kt_1 (by omega)
          refine po_pI hW42 h0 rfl rfl (vv_i (by decide) (vi2 (by omega))) (fun g51 hW51 ex51 => ?_)
          exact po_ret ⟨rfl, hW51, trivial⟩
      · refine po_gRn (t := 5) hW37 h0 rfl rfl (by decide) (fun i52 ex52 hi52 => ?_)
        refine po_bind ex37 ?_
        refine po_some ?_
        refine po_ck (wt_isO hW37 hi52 (by decide)) ?_
        refine po_ro (tX5_cellQuoteEnd hW37 hi52 (by omega)) (fun y53 ex53 p53 => ?_)
        dsimp only
        unfold mX6_tryCell_b82
        refine po_pI hW37 h0 rfl rfl (vv_i (by decide) (vi9 (by omega))) (fun g54 hW54 ex54 => ?_)
        refine po_gI hW54 h0 rfl rfl (by decide) (fun x55x ex55 (hx55 : x55x = 0 ∨ x55x = 1) => ?_)
        refine po_eq (fun q56 => ?_) (fun q56 => ?_)
        · refine po_bind ex54 ?_
          unfold mX6_tryCell_b117
          have e57 : (y53 + (1 : Int32)).toInt = y53.toInt + 1 := i_add rfl kt_1 (by omega)
          refine po_pI hW54 h0 rfl rfl (vv_i (by decide) (vi2 (by omega))) (fun g58 hW58 ex58 => ?_)
          exact po_ret ⟨rfl, hW58, trivial⟩
        · refine po_gRn (t := 5) hW54 h0 rfl rfl (by decide) (fun i59 ex59 hi59 => ?_)
          refine po_bind ex54 ?_
          refine po_some ?_
          refine po_ck (wt_isO hW54 hi59 (by decide)) ?_
          have e60 : (y53 + (1 : Int32)).toInt = y53.toInt + 1 := i_add rfl kt_1 (by omega)
          refine po_ro (tX5_cellEnd hW54 hi59 (by omega)) (fun y61 ex61 p61 => ?_)
          dsimp only
          unfold mX6_tryCell_b117
          have e62 : (y61 + (1 : Int32)).toInt = y61.toInt + 1 := i_add rfl kt_1 (by omega)
          refine po_pI hW54 h0 rfl rfl (vv_i (by decide) (vi2 (by omega))) (fun g63 hW63 ex63 => ?_)
          exact po_ret ⟨rfl, hW63, trivial⟩
  · unfold mX6_tryCell_b22
    refine po_ck (nb_of (Or.inl rfl)) ?_
    refine po_pI hW h0 rfl rfl (vv_i (by decide) (Or.inl rfl)) (fun g64 hW64 ex64 => ?_)
    refine po_bind ex64 ?_
    refine po_eq (fun q65 => ?_) (fun q65 => ?_)
    · refine po_gI hW64 h0 rfl rfl (by decide) (fun x66x ex66 (hx66 : 0 ≤ x66x.toInt ∧ x66x.toInt ≤ 700) => ?_)
      unfold mX6_tryCell_b46
      refine po_pI hW64 h0 rfl rfl (vv_i (by decide) (vi10 (by omega))) (fun g67 hW67 ex67 => ?_)
      refine po_gI hW67 h0 rfl rfl (by decide) (fun x68x ex68 (hx68 : x68x = 0 ∨ x68x = 1) => ?_)
      refine po_eq (fun q69 => ?_) (fun q69 => ?_)
      · refine po_gRn (t := 5) hW67 h0 rfl rfl (by decide) (fun i70 ex70 hi70 => ?_)
        refine po_bind ex67 ?_
        refine po_some ?_
        refine po_ck (wt_isO hW67 hi70 (by decide)) ?_
        refine po_ro (tX5_cellEnd hW67 hi70 (by omega)) (fun y71 ex71 p71 => ?_)
        dsimp only
        unfold mX6_tryCell_b82
        refine po_pI hW67 h0 rfl rfl (vv_i (by decide) (vi9 (by omega))) (fun g72 hW72 ex72 => ?_)
        refine po_gI hW72 h0 rfl rfl (by decide) (fun x73x ex73 (hx73 : x73x = 0 ∨ x73x = 1) => ?_)
        refine po_eq (fun q74 => ?_) (fun q74 => ?_)
        · refine po_bind ex72 ?_
          unfold mX6_tryCell_b117
          have e75 : (y71 + (1 : Int32)).toInt = y71.toInt + 1 := i_add rfl kt_1 (by omega)
          refine po_pI hW72 h0 rfl rfl (vv_i (by decide) (vi2 (by omega))) (fun g76 hW76 ex76 => ?_)
          exact po_ret ⟨rfl, hW76, trivial⟩
        · refine po_gRn (t := 5) hW72 h0 rfl rfl (by decide) (fun i77 ex77 hi77 => ?_)
          refine po_bind ex72 ?_
          refine po_some ?_
          refine po_ck (wt_isO hW72 hi77 (by decide)) ?_
          have e78 : (y71 + (1 : Int32)).toInt = y71.toInt + 1 := i_add rfl kt_1 (by omega)
          refine po_ro (tX5_cellEnd hW72 hi77 (by omega)) (fun y79 ex79 p79 => ?_)
          dsimp only
          unfold mX6_tryCell_b117
          have e80 : (y79 + (1 : Int32)).toInt = y79.toInt + 1 := i_add rfl kt_1 (by omega)
          refine po_pI hW72 h0 rfl rfl (vv_i (by decide) (vi2 (by omega))) (fun g81 hW81 ex81 => ?_)
          exact po_ret ⟨rfl, hW81, trivial⟩
      · refine po_gRn (t := 5) hW67 h0 rfl rfl (by decide) (fun i82 ex82 hi82 => ?_)
        refine po_bind ex67 ?_
        refine po_some ?_
        refine po_ck (wt_isO hW67 hi82 (by decide)) ?_
        refine po_ro (tX5_cellQuoteEnd hW67 hi82 (by omega)) (fun y83 ex83 p83 => ?_)
        dsimp only
        unfold mX6_tryCell_b82
        refine po_pI hW67 h0 rfl rfl (vv_i (by decide) (vi9 (by omega))) (fun g84 hW84 ex84 => ?_)
        refine po_gI hW84 h0 rfl rfl (by decide) (fun x85x ex85 (hx85 : x85x = 0 ∨ x85x = 1) => ?_)
        refine po_eq (fun q86 => ?_) (fun q86 => ?_)
        · refine po_bind ex84 ?_
          unfold mX6_tryCell_b117
          have e87 : (y83 + (1 : Int32)).toInt = y83.toInt + 1 := i_add rfl kt_1 (by omega)
          refine po_pI hW84 h0 rfl rfl (vv_i (by decide) (vi2 (by omega))) (fun g88 hW88 ex88 => ?_)
          exact po_ret ⟨rfl, hW88, trivial⟩
        · refine po_gRn (t := 5) hW84 h0 rfl rfl (by decide) (fun i89 ex89 hi89 => ?_)
          refine po_bind ex84 ?_
          refine po_some ?_
          refine po_ck (wt_isO hW84 hi89 (by decide)) ?_
          have e90 : (y83 + (1 : Int32)).toInt = y83.toInt + 1 := i_add rfl kt_1 (by omega)
          refine po_ro (tX5_cellEnd hW84 hi89 (by omega)) (fun y91 ex91 p91 => ?_)
          dsimp only
          unfold mX6_tryCell_b117
          have e92 : (y91 + (1 : Int32)).toInt = y91.toInt + 1 := i_add rfl kt_1 (by omega)
          refine po_pI hW84 h0 rfl rfl (vv_i (by decide) (vi2 (by omega))) (fun g93 hW93 ex93 => ?_)
          exact po_ret ⟨rfl, hW93, trivial⟩
    · refine po_gI hW64 h0 rfl rfl (by decide) (fun x94x ex94 (hx94 : 0 ≤ x94x.toInt ∧ x94x.toInt ≤ 700) => ?_)
      unfold mX6_tryCell_b46
      have e95 : (x94x + (1 : Int32)).toInt = x94x.toInt + 1 := i_add rfl kt_1 (by omega)
      refine po_pI hW64 h0 rfl rfl (vv_i (by decide) (vi10 (by omega))) (fun g96 hW96 ex96 => ?_)
      refine po_gI hW96 h0 rfl rfl (by decide) (fun x97x ex97 (hx97 : x97x = 0 ∨ x97x = 1) => ?_)
      refine po_eq (fun q98 => ?_) (fun q98 => ?_)
      · refine po_gRn (t := 5) hW96 h0 rfl rfl (by decide) (fun i99 ex99 hi99 => ?_)
        refine po_bind ex96 ?_
        refine po_some ?_
        refine po_ck (wt_isO hW96 hi99 (by decide)) ?_
        refine po_ro (tX5_cellEnd hW96 hi99 (by omega)) (fun y100 ex100 p100 => ?_)
        dsimp only
        unfold mX6_tryCell_b82
        refine po_pI hW96 h0 rfl rfl (vv_i (by decide) (vi9 (by omega))) (fun g101 hW101 ex101 => ?_)
        refine po_gI hW101 h0 rfl rfl (by decide) (fun x102x ex102 (hx102 : x102x = 0 ∨ x102x = 1) => ?_)
        refine po_eq (fun q103 => ?_) (fun q103 => ?_)
        · refine po_bind ex101 ?_
          unfold mX6_tryCell_b117
          have e104 : (y100 + (1 : Int32)).toInt = y100.toInt + 1 := i_add rfl kt_1 (by omega)
          refine po_pI hW101 h0 rfl rfl (vv_i (by decide) (vi2 (by omega))) (fun g105 hW105 ex105 => ?_)
          exact po_ret ⟨rfl, hW105, trivial⟩
        · refine po_gRn (t := 5) hW101 h0 rfl rfl (by decide) (fun i106 ex106 hi106 => ?_)
          refine po_bind ex101 ?_
          refine po_some ?_
          refine po_ck (wt_isO hW101 hi106 (by decide)) ?_
          have e107 : (y100 + (1 : Int32)).toInt = y100.toInt + 1 := i_add rfl kt_1 (by omega)
          refine po_ro (tX5_cellEnd hW101 hi106 (by omega)) (fun y108 ex108 p108 => ?_)
          dsimp only
          unfold mX6_tryCell_b117
          have e109 : (y108 + (1 : Int32)).toInt = y108.toInt + 1 := i_add rfl kt_1 (by omega)
          refine po_pI hW101 h0 rfl rfl (vv_i (by decide) (vi2 (by omega))) (fun g110 hW110 ex110 => ?_)
          exact po_ret ⟨rfl, hW110, trivial⟩
      · refine po_gRn (t := 5) hW96 h0 rfl rfl (by decide) (fun i111 ex111 hi111 => ?_)
        refine po_bind ex96 ?_
        refine po_some ?_
        refine po_ck (wt_isO hW96 hi111 (by decide)) ?_
        refine po_ro (tX5_cellQuoteEnd hW96 hi111 (by omega)) (fun y112 ex112 p112 => ?_)
        dsimp only
        unfold mX6_tryCell_b82
        refine po_pI hW96 h0 rfl rfl (vv_i (by decide) (vi9 (by omega))) (fun g113 hW113 ex113 => ?_)
        refine po_gI hW113 h0 rfl rfl (by decide) (fun x114x ex114 (hx114 : x114x = 0 ∨ x114x = 1) => ?_)
        refine po_eq (fun q115 => ?_) (fun q115 => ?_)
        · refine po_bind ex113 ?_
          unfold mX6_tryCell_b117
          have e116 : (y112 + (1 : Int32)).toInt = y112.toInt + 1 := i_add rfl kt_1 (by omega)
          refine po_pI hW113 h0 rfl rfl (vv_i (by decide) (vi2 (by omega))) (fun g117 hW117 ex117 => ?_)
          exact po_ret ⟨rfl, hW117, trivial⟩
        · refine po_gRn (t := 5) hW113 h0 rfl rfl (by decide) (fun i118 ex118 hi118 => ?_)
          refine po_bind ex113 ?_
          refine po_some ?_
          refine po_ck (wt_isO hW113 hi118 (by decide)) ?_
          have e119 : (y112 + (1 : Int32)).toInt = y112.toInt + 1 := i_add rfl kt_1 (by omega)
          refine po_ro (tX5_cellEnd hW113 hi118 (by omega)) (fun y120 ex120 p120 => ?_)
          dsimp only
          unfold mX6_tryCell_b117
          have e121 : (y120 + (1 : Int32)).toInt = y120.toInt + 1 := i_add rfl kt_1 (by omega)
          refine po_pI hW113 h0 rfl rfl (vv_i (by decide) (vi2 (by omega))) (fun g122 hW122 ex122 => ?_)
          exact po_ret ⟨rfl, hW122, trivial⟩
set_option maxHeartbeats 1000000 in
theorem tX5_behindSpace_l2 {G : TE} {F0 : AH} {S : Int32} {n : Nat} : ∀ (d : Nat) (v0 : Nat) (v2 : Int32) (v3 : Int32) (f : AH), WT G F0 S f n → G.1 v0 = 5 → (0 ≤ v2.toInt ∧ v2.toInt ≤ 700) → (0 ≤ v3.toInt ∧ v3.toInt ≤ 2500) → v2.toInt - v3.toInt + 2501 < (d : Int) → PO (mX5_behindSpace_l2 d v0 v2 v3 f n) (fun v f' n' => f' = f ∧ n' = n ∧ (0 ≤ v.toInt ∧ v.toInt ≤ v2.toInt)) := by
  intro d
  induction d with
  | zero =>
    intro v0 v2 v3 f hW h0 h1 h2  hm
    exfalso
    omega
  | succ d ih =>
    intro v0 v2 v3 f hW h0 h1 h2  hm
    show PO (if v3 < (0 : Int32) then mX5_behindSpace_b50 v2 f n else (if v2 ≤ v3 then mX5_behindSpace_b50 v2 f n else ((gR f v0 5 0).bind fun x1 => ((x1).bind fun j2 => ((gL f j2).bind fun x3 => (if (nI x3) ≤ v3 then mX5_behindSpace_b50 v2 f n else ((gR f v0 5 0).bind fun x4 => ((x4).bind fun j5 => ((gIA f j5 v3).bind fun x6 => (if x6 = (32 : Int32) then mX5_behindSpace_b44 (fun v0 v2 v3 f n => mX5_behindSpace_l2 d v0 v2 v3 f n) v0 v2 v3 f n else ((gR f v0 5 0).bind fun x7 => ((x7).bind fun j8 => ((gIA f j8 v3).bind fun x9 => (if x9 = (10 : Int32) then mX5_behindSpace_b44 (fun v0 v2 v3 f n => mX5_behindSpace_l2 d v0 v2 v3 f n) v0 v2 v3 f n else some (v3, (f, n)))))))))))))))) _
    refine po_lt rfl kt_0 (fun q1 => ?_) (fun q1 => ?_)
    · unfold mX5_behindSpace_b50
      exact po_ret ⟨rfl, rfl, (by omega)⟩
    · refine po_le rfl rfl (fun q2 => ?_) (fun q2 => ?_)
      · unfold mX5_behindSpace_b50
        exact po_ret ⟨rfl, rfl, (by omega)⟩
      · refine po_rb hW h0 ?_
        refine po_some ?_
        refine po_rl hW h0 (fun N4 ha4 hb4 hc4 => ?_)
        refine po_le hc4 rfl (fun q5 => ?_) (fun q5 => ?_)
        · unfold mX5_behindSpace_b50
          exact po_ret ⟨rfl, rfl, (by omega)⟩
        · refine po_rb hW h0 ?_
          refine po_some ?_
          refine po_ria hW h0 (by omega) (fun x7x => ?_)
          refine po_eq (fun q8 => ?_) (fun q8 => ?_)
          · unfold mX5_behindSpace_b44
            have e9 : (v3 + (1 : Int32)).toInt = v3.toInt + 1 := i_add rfl kt_1 (by omega)
            exact (ih v0 v2 (v3 + (1 : Int32)) f hW h0 (by omega) (by omega)  (by omega))
          · refine po_rb hW h0 ?_
            refine po_some ?_
            refine po_ria hW h0 (by omega) (fun x11x => ?_)
            refine po_eq (fun q12 => ?_) (fun q12 => ?_)
            · unfold mX5_behindSpace_b44
              have e13 : (v3 + (1 : Int32)).toInt = v3.toInt + 1 := i_add rfl kt_1 (by omega)
              exact (ih v0 v2 (v3 + (1 : Int32)) f hW h0 (by omega) (by omega)  (by omega))
            · exact po_ret ⟨rfl, rfl, (by omega)⟩
set_option maxHeartbeats 1000000 in
theorem tX5_behindSpace {G : TE} {F0 : AH} {S : Int32} {f : AH} {n : Nat} {v0 : Nat} {v1 : Int32} {v2 : Int32} (hW : WT G F0 S f n) (h0 : G.1 v0 = 5) (h1 : (0 ≤ v1.toInt ∧ v1.toInt ≤ 2500)) (h2 : (0 ≤ v2.toInt ∧ v2.toInt ≤ 700)) : PO (mX5_behindSpace v0 v1 v2 f n) (fun v f' n' => f' = f ∧ n' = n ∧ (0 ≤ v.toInt ∧ v.toInt ≤ v2.toInt)) := by
  unfold mX5_behindSpace
  exact (tX5_behindSpace_l2 rFU v0 v2 v1 f hW h0 (by omega) (by omega)  (by unfold rFU; omega))
set_option maxHeartbeats 1000000 in
theorem tX6_tryMarkup_l105 {G : TE} {F0 : AH} {S : Int32} {n : Nat} : ∀ (d : Nat) (v0 : Nat) (v1 : Int32) (v2 : Int32) (f : AH), WT G F0 S f n → G.1 v0 = 6 → (0 ≤ v1.toInt ∧ v1.toInt ≤ 700) → ((-1) ≤ v2.toInt ∧ v2.toInt ≤ 700) → v2.toInt + 2 < (d : Int) → PO (mX6_tryMarkup_l105 d v0 v1 v2 f n) (fun v f' n' => n' = n ∧ WT G F0 S f' n ∧ (True)) := by
  intro d
  induction d with
  | zero =>
    intro v0 v1 v2 f hW h0 h1 h2  hm
    exfalso
    omega
  | succ d ih =>
    intro v0 v1 v2 f hW h0 h1 h2  hm
    show PO ((gI f v0 6 1).bind fun x1 => (if v2 ≤ x1 then mX6_tryMarkup_b150 v0 v1 f n else ((gR f v0 6 0).bind fun x2 => ((x2).bind fun j3 => rCk (isO f j3 5) (((mX5_get j3 v2 f n).bind fun r5 => (if r5.1 = (32 : Int32) then mX6_tryMarkup_b139 (fun v0 v1 v2 f n => mX6_tryMarkup_l105 d v0 v1 v2 f n) v0 v1 v2 r5.2.1 r5.2.2 else ((gR r5.2.1 v0 6 0).bind fun x7 => ((x7).bind fun j8 => rCk (isO r5.2.1 j8 5) (((mX5_get j8 v2 r5.2.1 r5.2.2).bind fun r10 => (if r10.1 = (10 : Int32) then mX6_tryMarkup_b139 (fun v0 v1 v2 f n => mX6_tryMarkup_l105 d v0 v1 v2 f n) v0 v1 v2 r10.2.1 r10.2.2 else mX6_tryMarkup_b150 v0 v1 r10.2.1 r10.2.2)))))))))))) _
    refine po_gI hW h0 rfl rfl (by decide) (fun x1x ex1 (hx1 : 0 ≤ x1x.toInt ∧ x1x.toInt ≤ 702) => ?_)
    refine po_le rfl rfl (fun q2 => ?_) (fun q2 => ?_)
    · unfold mX6_tryMarkup_b150
      refine po_pI hW h0 rfl rfl (vv_i (by decide) (vi2 (by omega))) (fun g3 hW3 ex3 => ?_)
      exact po_ret ⟨rfl, hW3, trivial⟩
    · refine po_gRn (t := 5) hW h0 rfl rfl (by decide) (fun i4 ex4 hi4 => ?_)
      refine po_some ?_
      refine po_ck (wt_isO hW hi4 (by decide)) ?_
      refine po_ro (tX5_get hW hi4) (fun y5 ex5 p5 => ?_)
      dsimp only
      refine po_eq (fun q6 => ?_) (fun q6 => ?_)
      · unfold mX6_tryMarkup_b139
        refine po_pI hW h0 rfl rfl (vv_i (by decide) (vi9 (by omega))) (fun g7 hW7 ex7 => ?_)
        have e8 : (v2 + (-1 : Int32)).toInt = v2.toInt + (-1) := i_add rfl kt_m1 (by omega)
        exact (ih v0 v1 (v2 + (-1 : Int32)) g7 hW7 h0 (by omega) (by omega)  (by omega))
      · refine po_bind ex4 ?_
        refine po_some ?_
        refine po_ck (wt_isO hW hi4 (by decide)) ?_
        refine po_bind ex5 ?_
        dsimp only
        refine po_eq (fun q9 => ?_) (fun q9 => ?_)
        · unfold mX6_tryMarkup_b139
          refine po_pI hW h0 rfl rfl (vv_i (by decide) (vi9 (by omega))) (fun g10 hW10 ex10 => ?_)
          have e11 : (v2 + (-1 : Int32)).toInt = v2.toInt + (-1) := i_add rfl kt_m1 (by omega)
          exact (ih v0 v1 (v2 + (-1 : Int32)) g10 hW10 h0 (by omega) (by omega)  (by omega))
        · unfold mX6_tryMarkup_b150
          refine po_pI hW h0 rfl rfl (vv_i (by decide) (vi2 (by omega))) (fun g12 hW12 ex12 => ?_)
          exact po_ret ⟨rfl, hW12, trivial⟩
set_option maxHeartbeats 1000000 in
theorem tX6_tryMarkup {G : TE} {F0 : AH} {S : Int32} {f : AH} {n : Nat} {v0 : Nat} (hW : WT G F0 S f n) (h0 : G.1 v0 = 6) : PO (mX6_tryMarkup v0 f n) (fun v f' n' => n' = n ∧ WT G F0 S f' n ∧ (True)) := by
  unfold mX6_tryMarkup
  refine po_gI hW h0 rfl rfl (by decide) (fun x1x ex1 (hx1 : 0 ≤ x1x.toInt ∧ x1x.toInt ≤ 700) => ?_)
  refine po_pI hW h0 rfl rfl (vv_i (by decide) (vi10 (by omega))) (fun g2 hW2 ex2 => ?_)
  refine po_gI hW2 h0 rfl rfl (by decide) (fun x3x ex3 (hx3 : 0 ≤ x3x.toInt ∧ x3x.toInt ≤ 700) => ?_)
  refine po_pI hW2 h0 rfl rfl (vv_i (by decide) (vi9 (by omega))) (fun g4 hW4 ex4 => ?_)
  refine po_gRn (t := 5) hW4 h0 rfl rfl (by decide) (fun i5 ex5 hi5 => ?_)
  refine po_gI hW4 h0 rfl rfl (by decide) (fun x6x ex6 (hx6 : 0 ≤ x6x.toInt ∧ x6x.toInt ≤ 700) => ?_)
  refine po_some ?_
  refine po_ck (wt_isO hW4 hi5 (by decide)) ?_
  refine po_ro (tX5_get hW4 hi5) (fun y7 ex7 p7 => ?_)
  dsimp only
  refine po_eq (fun q8 => ?_) (fun q8 => ?_)
  · refine po_bind ex5 ?_
    refine po_bind ex6 ?_
    refine po_bind ex5 ?_
    refine po_some ?_
    refine po_ck (wt_isO hW4 hi5 (by decide)) ?_
    refine po_ro (tX5_size hW4 hi5) (fun y9 ex9 p9 => ?_)
    dsimp only
    refine po_some ?_
    refine po_ck (wt_isO hW4 hi5 (by decide)) ?_
    refine po_ro (tX5_next hW4 hi5 (by omega) (by omega)) (fun y10 ex10 p10 => ?_)
    dsimp only
    have e12 : (y10 + (1 : Int32)).toInt = y10.toInt + 1 := i_add rfl kt_1 (by omega)
    refine po_pI hW4 h0 rfl rfl (vv_i (by decide) (vi2 (by omega))) (fun g11 hW11 ex11 => ?_)
    exact po_ret ⟨rfl, hW11, trivial⟩
  · refine po_bind ex5 ?_
    refine po_bind ex6 ?_
    refine po_bind ex5 ?_
    refine po_some ?_
    refine po_ck (wt_isO hW4 hi5 (by decide)) ?_
    refine po_ro (tX5_size hW4 hi5) (fun y13 ex13 p13 => ?_)
    dsimp only
    refine po_some ?_
    refine po_ck (wt_isO hW4 hi5 (by decide)) ?_
    refine po_ro (tX5_next hW4 hi5 (by omega) (by omega)) (fun y14 ex14 p14 => ?_)
    dsimp only
    refine po_bind ex5 ?_
    refine po_bind ex6 ?_
    refine po_some ?_
    refine po_ck (wt_isO hW4 hi5 (by decide)) ?_
    refine po_ro (tX5_behindSpace hW4 hi5 (by omega) (by omega)) (fun y15 ex15 p15 => ?_)
    dsimp only
    refine po_pI hW4 h0 rfl rfl (vv_i (by decide) (vi10 (by omega))) (fun g16 hW16 ex16 => ?_)
    refine po_pI hW16 h0 rfl rfl (vv_i (by decide) (vi9 (by omega))) (fun g17 hW17 ex17 => ?_)
    have e18 : (y14 - (1 : Int32)).toInt = y14.toInt - 1 := i_sub rfl kt_1 (by omega)
    exact (tX6_tryMarkup_l105 rFU v0 y14 (y14 - (1 : Int32)) g17 hW17 h0 (by omega) (by omega)  (by unfold rFU; omega))
set_option maxHeartbeats 1000000 in
theorem tX5_quoteEnd_l4 {G : TE} {F0 : AH} {S : Int32} {n : Nat} : ∀ (d : Nat) (v0 : Nat) (v2 : Int32) (v3 : Int32) (f : AH), WT G F0 S f n → G.1 v0 = 5 → (0 ≤ v3.toInt ∧ v3.toInt ≤ 2000) → 3000 - v3.toInt < (d : Int) → PO (mX5_quoteEnd_l4 d v0 v2 v3 f n) (fun v f' n' => f' = f ∧ n' = n ∧ (0 ≤ v.toInt ∧ v.toInt ≤ 600)) := by
  intro d
  induction d with
  | zero =>
    intro v0 v2 v3 f hW h0 h1  hm
    exfalso
    omega
  | succ d ih =>
    intro v0 v2 v3 f hW h0 h1  hm
    show PO (if v3 < (0 : Int32) then mX5_quoteEnd_b69 v0 f n else ((gI f v0 5 1).bind fun x1 => (if x1 ≤ v3 then mX5_quoteEnd_b69 v0 f n else ((gR f v0 5 0).bind fun x2 => ((x2).bind fun j3 => ((gL f j3).bind fun x4 => (if (nI x4) ≤ v3 then mX5_quoteEnd_b69 v0 f n else ((gR f v0 5 0).bind fun x5 => ((x5).bind fun j6 => ((gIA f j6 v3).bind fun x7 => (if x7 = (34 : Int32) then (if v2 = (0 : Int32) then some (v3, (f, n)) else mX5_quoteEnd_b42 (fun v0 v2 v3 f n => mX5_quoteEnd_l4 d v0 v2 v3 f n) v0 v2 v3 f n) else mX5_quoteEnd_b42 (fun v0 v2 v3 f n => mX5_quoteEnd_l4 d v0 v2 v3 f n) v0 v2 v3 f n))))))))))) _
    refine po_lt rfl kt_0 (fun q1 => ?_) (fun q1 => ?_)
    · unfold mX5_quoteEnd_b69
      refine po_rs hW h0 (fun x2x ex2 hx2 hy2 => ?_)
      exact po_ret ⟨rfl, rfl, (by omega)⟩
    · refine po_rs hW h0 (fun x3x ex3 hx3 hy3 => ?_)
      refine po_le rfl rfl (fun q4 => ?_) (fun q4 => ?_)
      · unfold mX5_quoteEnd_b69
        refine po_bind ex3 ?_
        exact po_ret ⟨rfl, rfl, (by omega)⟩
      · refine po_rb hW h0 ?_
        refine po_some ?_
        refine po_rl hW h0 (fun N6 ha6 hb6 hc6 => ?_)
        refine po_le hc6 rfl (fun q7 => ?_) (fun q7 => ?_)
        · unfold mX5_quoteEnd_b69
          refine po_bind ex3 ?_
          exact po_ret ⟨rfl, rfl, (by omega)⟩
        · refine po_rb hW h0 ?_
          refine po_some ?_
          refine po_ria hW h0 (by omega) (fun x9x => ?_)
          refine po_eq (fun q10 => ?_) (fun q10 => ?_)
          · refine po_eq (fun q11 => ?_) (fun q11 => ?_)
            · exact po_ret ⟨rfl, rfl, (by omega)⟩
            · unfold mX5_quoteEnd_b42
              refine po_rb hW h0 ?_
              refine po_some ?_
              refine po_ria hW h0 (by omega) (fun x13x => ?_)
              refine po_eq (fun q14 => ?_) (fun q14 => ?_)
              · refine po_eq (fun q15 => ?_) (fun q15 => ?_)
                · unfold mX5_quoteEnd_b62
                  have e16 : (v3 + (1 : Int32)).toInt = v3.toInt + 1 := i_add rfl kt_1 (by omega)
                  exact (ih v0 (1 : Int32) (v3 + (1 : Int32)) f hW h0 (by omega)  (by omega))
                · unfold mX5_quoteEnd_b61
                  unfold mX5_quoteEnd_b62
                  have e17 : (v3 + (1 : Int32)).toInt = v3.toInt + 1 := i_add rfl kt_1 (by omega)
                  exact (ih v0 (0 : Int32) (v3 + (1 : Int32)) f hW h0 (by omega)  (by omega))
              · unfold mX5_quoteEnd_b61
                unfold mX5_quoteEnd_b62
                have e18 : (v3 + (1 : Int32)).toInt = v3.toInt + 1 := i_add rfl kt_1 (by omega)
                exact (ih v0 (0 : Int32) (v3 + (1 : Int32)) f hW h0 (by omega)  (by omega))
          · unfold mX5_quoteEnd_b42
            refine po_rb hW h0 ?_
            refine po_some ?_
            refine po_ria hW h0 (by omega) (fun x20x => ?_)
            refine po_eq (fun q21 => ?_) (fun q21 => ?_)
            · refine po_eq (fun q22 => ?_) (fun q22 => ?_)
              · unfold mX5_quoteEnd_b62
                have e23 : (v3 + (1 : Int32)).toInt = v3.toInt + 1 := i_add rfl kt_1 (by omega)
                exact (ih v0 (1 : Int32) (v3 + (1 : Int32)) f hW h0 (by omega)  (by omega))
              · unfold mX5_quoteEnd_b61
                unfold mX5_quoteEnd_b62
                have e24 : (v3 + (1 : Int32)).toInt = v3.toInt + 1 := i_add rfl kt_1 (by omega)
                exact (ih v0 (0 : Int32) (v3 + (1 : Int32)) f hW h0 (by omega)  (by omega))
            · unfold mX5_quoteEnd_b61
              unfold mX5_quoteEnd_b62
              have e25 : (v3 + (1 : Int32)).toInt = v3.toInt + 1 := i_add rfl kt_1 (by omega)
              exact (ih v0 (0 : Int32) (v3 + (1 : Int32)) f hW h0 (by omega)  (by omega))
set_option maxHeartbeats 1000000 in
theorem tX5_quoteEnd {G : TE} {F0 : AH} {S : Int32} {f : AH} {n : Nat} {v0 : Nat} {v1 : Int32} (hW : WT G F0 S f n) (h0 : G.1 v0 = 5) (h1 : (0 ≤ v1.toInt ∧ v1.toInt ≤ 2000)) : PO (mX5_quoteEnd v0 v1 f n) (fun v f' n' => f' = f ∧ n' = n ∧ (0 ≤ v.toInt ∧ v.toInt ≤ 600)) := by
  unfold mX5_quoteEnd
  exact (tX5_quoteEnd_l4 rFU v0 (0 : Int32) v1 f hW h0 (by omega)  (by unfold rFU; omega))
set_option maxHeartbeats 1000000 in
theorem tX6_tryQuotes {G : TE} {F0 : AH} {S : Int32} {f : AH} {n : Nat} {v0 : Nat} (hW : WT G F0 S f n) (h0 : G.1 v0 = 6) : PO (mX6_tryQuotes v0 f n) (fun v f' n' => n' = n ∧ WT G F0 S f' n ∧ (True)) := by
  unfold mX6_tryQuotes
  refine po_gRn (t := 5) hW h0 rfl rfl (by decide) (fun i1 ex1 hi1 => ?_)
  refine po_gI hW h0 rfl rfl (by decide) (fun x2x ex2 (hx2 : 0 ≤ x2x.toInt ∧ x2x.toInt ≤ 700) => ?_)
  refine po_bind ex1 ?_
  refine po_some ?_
  refine po_ck (wt_isO hW hi1 (by decide)) ?_
  refine po_ro (tX5_size hW hi1) (fun y3 ex3 p3 => ?_)
  dsimp only
  refine po_some ?_
  refine po_ck (wt_isO hW hi1 (by decide)) ?_
  refine po_ro (tX5_next hW hi1 (by omega) (by omega)) (fun y4 ex4 p4 => ?_)
  dsimp only
  have e6 : (y4 + (1 : Int32)).toInt = y4.toInt + 1 := i_add rfl kt_1 (by omega)
  refine po_pI hW h0 rfl rfl (vv_i (by decide) (vi10 (by omega))) (fun g5 hW5 ex5 => ?_)
  refine po_gRn (t := 5) hW5 h0 rfl rfl (by decide) (fun i7 ex7 hi7 => ?_)
  refine po_bind ex5 ?_
  refine po_some ?_
  refine po_ck (wt_isO hW5 hi7 (by decide)) ?_
  refine po_ro (tX5_quoteEnd hW5 hi7 (by omega)) (fun y8 ex8 p8 => ?_)
  dsimp only
  refine po_pI hW5 h0 rfl rfl (vv_i (by decide) (vi9 (by omega))) (fun g9 hW9 ex9 => ?_)
  refine po_bind ex9 ?_
  have e11 : (y8 + (1 : Int32)).toInt = y8.toInt + 1 := i_add rfl kt_1 (by omega)
  refine po_pI hW9 h0 rfl rfl (vv_i (by decide) (vi2 (by omega))) (fun g10 hW10 ex10 => ?_)
  refine po_gRn (t := 5) hW10 h0 rfl rfl (by decide) (fun i12 ex12 hi12 => ?_)
  refine po_bind ex12 ?_
  refine po_bind ex10 ?_
  refine po_bind ex12 ?_
  refine po_some ?_
  refine po_ck (wt_isO hW10 hi12 (by decide)) ?_
  refine po_ro (tX5_size hW10 hi12) (fun y13 ex13 p13 => ?_)
  dsimp only
  refine po_some ?_
  refine po_ck (wt_isO hW10 hi12 (by decide)) ?_
  refine po_ro (tX5_behindSpace hW10 hi12 (by omega) (by omega)) (fun y14 ex14 p14 => ?_)
  dsimp only
  refine po_some ?_
  refine po_ck (wt_isO hW10 hi12 (by decide)) ?_
  refine po_ro (tX5_get hW10 hi12) (fun y15 ex15 p15 => ?_)
  dsimp only
  refine po_eq (fun q16 => ?_) (fun q16 => ?_)
  · refine po_gI hW10 h0 rfl rfl (by decide) (fun x17x ex17 (hx17 : 0 ≤ x17x.toInt ∧ x17x.toInt ≤ 702) => ?_)
    refine po_pI hW10 h0 rfl rfl (vv_i (by decide) (vi9 (by omega))) (fun g18 hW18 ex18 => ?_)
    unfold mX6_tryQuotes_b89
    exact po_ret ⟨rfl, hW18, trivial⟩
  · unfold mX6_tryQuotes_b89
    exact po_ret ⟨rfl, hW10, trivial⟩
set_option maxHeartbeats 1000000 in
theorem tX6_next_l2 {G : TE} {F0 : AH} {S : Int32} {n : Nat} : ∀ (d : Nat) (v0 : Nat) (v1 : Int32) (f : AH), WT G F0 S f n → G.1 v0 = 6 → (0 ≤ v1.toInt ∧ v1.toInt ≤ 2000) → 3000 - v1.toInt < (d : Int) → PO (mX6_next_l2 d v0 v1 f n) (fun v f' n' => n' = n ∧ WT G F0 S f' n ∧ (True)) := by
  intro d
  induction d with
  | zero =>
    intro v0 v1 f hW h0 h1  hm
    exfalso
    omega
  | succ d ih =>
    intro v0 v1 f hW h0 h1  hm
    show PO (if (600 : Int32) < v1 then mX6_next_b96 f n else ((gI f v0 6 9).bind fun x1 => ((gR f v0 6 0).bind fun x2 => ((x2).bind fun j3 => rCk (isO f j3 5) (((mX5_size j3 f n).bind fun r5 => (if r5.1 ≤ x1 then mX6_next_b96 r5.2.1 r5.2.2 else ((gI r5.2.1 v0 6 8).bind fun x7 => (if x7 = (0 : Int32) then rCk (isO r5.2.1 v0 6) (((mX6_tryLine v0 r5.2.1 r5.2.2).bind fun r9 => mX6_next_b77 (fun v0 v1 f n => mX6_next_l2 d v0 v1 f n) v0 v1 r9.2.1 r9.2.2)) else if x7 = (1 : Int32) then rCk (isO r5.2.1 v0 6) (((mX6_tryCell v0 r5.2.1 r5.2.2).bind fun r12 => mX6_next_b77 (fun v0 v1 f n => mX6_next_l2 d v0 v1 f n) v0 v1 r12.2.1 r12.2.2)) else if x7 = (2 : Int32) then rCk (isO r5.2.1 v0 6) (((mX6_tryMarkup v0 r5.2.1 r5.2.2).bind fun r15 => mX6_next_b77 (fun v0 v1 f n => mX6_next_l2 d v0 v1 f n) v0 v1 r15.2.1 r15.2.2)) else rCk (isO r5.2.1 v0 6) (((mX6_tryQuotes v0 r5.2.1 r5.2.2).bind fun r18 => mX6_next_b77 (fun v0 v1 f n => mX6_next_l2 d v0 v1 f n) v0 v1 r18.2.1 r18.2.2))))))))))) _
    refine po_lt kt_600 rfl (fun q1 => ?_) (fun q1 => ?_)
    · unfold mX6_next_b96
      refine po_ck rfl ?_
      exact po_ret ⟨rfl, hW, trivial⟩
    · refine po_gI hW h0 rfl rfl (by decide) (fun x2x ex2 (hx2 : 0 ≤ x2x.toInt ∧ x2x.toInt ≤ 700) => ?_)
      refine po_gRn (t := 5) hW h0 rfl rfl (by decide) (fun i3 ex3 hi3 => ?_)
      refine po_some ?_
      refine po_ck (wt_isO hW hi3 (by decide)) ?_
      refine po_ro (tX5_size hW hi3) (fun y4 ex4 p4 => ?_)
      dsimp only
      refine po_le rfl rfl (fun q5 => ?_) (fun q5 => ?_)
      · unfold mX6_next_b96
        refine po_ck rfl ?_
        exact po_ret ⟨rfl, hW, trivial⟩
      · refine po_gI hW h0 rfl rfl (by decide) (fun x6x ex6 (_ : True) => ?_)
        refine po_eq (fun q7 => ?_) (fun q7 => ?_)
        · refine po_ck (wt_isO hW h0 (by decide)) ?_
          refine po_w (tX6_tryLine hW h0) (fun y8 g8 hW8 p8 => ?_)
          dsimp only
          unfold mX6_next_b77
          refine po_gI hW8 h0 rfl rfl (by decide) (fun x9x ex9 (hx9 : 0 ≤ x9x.toInt ∧ x9x.toInt ≤ 702) => ?_)
          refine po_gI hW8 h0 rfl rfl (by decide) (fun x10x ex10 (hx10 : (-1) ≤ x10x.toInt ∧ x10x.toInt ≤ 702) => ?_)
          refine po_le rfl rfl (fun q11 => ?_) (fun q11 => ?_)
          · have e12 : (v1 + (1 : Int32)).toInt = v1.toInt + 1 := i_add rfl kt_1 (by omega)
            exact (ih v0 (v1 + (1 : Int32)) g8 hW8 h0 (by omega)  (by omega))
          · refine po_ck rfl ?_
            exact po_ret ⟨rfl, hW8, trivial⟩
        · refine po_eq (fun q13 => ?_) (fun q13 => ?_)
          · refine po_ck (wt_isO hW h0 (by decide)) ?_
            refine po_w (tX6_tryCell hW h0) (fun y14 g14 hW14 p14 => ?_)
            dsimp only
            unfold mX6_next_b77
            refine po_gI hW14 h0 rfl rfl (by decide) (fun x15x ex15 (hx15 : 0 ≤ x15x.toInt ∧ x15x.toInt ≤ 702) => ?_)
            refine po_gI hW14 h0 rfl rfl (by decide) (fun x16x ex16 (hx16 : (-1) ≤ x16x.toInt ∧ x16x.toInt ≤ 702) => ?_)
            refine po_le rfl rfl (fun q17 => ?_) (fun q17 => ?_)
            · have e18 : (v1 + (1 : Int32)).toInt = v1.toInt + 1 := i_add rfl kt_1 (by omega)
              exact (ih v0 (v1 + (1 : Int32)) g14 hW14 h0 (by omega)  (by omega))
            · refine po_ck rfl ?_
              exact po_ret ⟨rfl, hW14, trivial⟩
          · refine po_eq (fun q19 => ?_) (fun q19 => ?_)
            · refine po_ck (wt_isO hW h0 (by decide)) ?_
              refine po_w (tX6_tryMarkup hW h0) (fun y20 g20 hW20 p20 => ?_)
              dsimp only
              unfold mX6_next_b77
              refine po_gI hW20 h0 rfl rfl (by decide) (fun x21x ex21 (hx21 : 0 ≤ x21x.toInt ∧ x21x.toInt ≤ 702) => ?_)
              refine po_gI hW20 h0 rfl rfl (by decide) (fun x22x ex22 (hx22 : (-1) ≤ x22x.toInt ∧ x22x.toInt ≤ 702) => ?_)
              refine po_le rfl rfl (fun q23 => ?_) (fun q23 => ?_)
              · have e24 : (v1 + (1 : Int32)).toInt = v1.toInt + 1 := i_add rfl kt_1 (by omega)
                exact (ih v0 (v1 + (1 : Int32)) g20 hW20 h0 (by omega)  (by omega))
              · refine po_ck rfl ?_
                exact po_ret ⟨rfl, hW20, trivial⟩
            · refine po_ck (wt_isO hW h0 (by decide)) ?_
              refine po_w (tX6_tryQuotes hW h0) (fun y25 g25 hW25 p25 => ?_)
              dsimp only
              unfold mX6_next_b77
              refine po_gI hW25 h0 rfl rfl (by decide) (fun x26x ex26 (hx26 : 0 ≤ x26x.toInt ∧ x26x.toInt ≤ 702) => ?_)
              refine po_gI hW25 h0 rfl rfl (by decide) (fun x27x ex27 (hx27 : (-1) ≤ x27x.toInt ∧ x27x.toInt ≤ 702) => ?_)
              refine po_le rfl rfl (fun q28 => ?_) (fun q28 => ?_)
              · have e29 : (v1 + (1 : Int32)).toInt = v1.toInt + 1 := i_add rfl kt_1 (by omega)
                exact (ih v0 (v1 + (1 : Int32)) g25 hW25 h0 (by omega)  (by omega))
              · refine po_ck rfl ?_
                exact po_ret ⟨rfl, hW25, trivial⟩
set_option maxHeartbeats 1000000 in
theorem tX6_next {G : TE} {F0 : AH} {S : Int32} {f : AH} {n : Nat} {v0 : Nat} (hW : WT G F0 S f n) (h0 : G.1 v0 = 6) : PO (mX6_next v0 f n) (fun v f' n' => n' = n ∧ WT G F0 S f' n ∧ (True)) := by
  have k_kt_0 := kt_0
  unfold mX6_next
  exact (tX6_next_l2 rFU v0 (0 : Int32) f hW h0 (by omega)  (by unfold rFU; omega))
