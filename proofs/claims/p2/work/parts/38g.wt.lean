set_option maxHeartbeats 1000000 in
theorem tX4_readBehindAct {G : TE} {F0 : AH} {S : Int32} {f : AH} {n : Nat} {v0 : Nat} (hW : WT G F0 S f n) (h0 : G.1 v0 = 4) : PO (mX4_readBehindAct v0 f n) (fun v f' n' => n' = n ∧ WT G F0 S f' n ∧ (True)) := by
  unfold mX4_readBehindAct
  refine po_gRn (t := 5) hW h0 rfl rfl (by decide) (fun i1 ex1 hi1 => ?_)
  refine po_gI hW h0 rfl rfl (by decide) (fun x2x ex2 (hx2 : 0 ≤ x2x.toInt ∧ x2x.toInt ≤ 2000) => ?_)
  refine po_bind ex1 ?_
  refine po_some ?_
  refine po_ck (wt_isO hW hi1 (by decide)) ?_
  refine po_ro (tX5_size hW hi1) (fun y3 ex3 p3 => ?_)
  dsimp only
  refine po_some ?_
  refine po_ck (wt_isO hW hi1 (by decide)) ?_
  refine po_ro (tX5_behindBlanks hW hi1 (by omega) (by omega)) (fun y4 ex4 p4 => ?_)
  dsimp only
  refine po_pI hW h0 rfl rfl (vv_i (by decide) (vi8 (by omega))) (fun g5 hW5 ex5 => ?_)
  refine po_bind ex5 ?_
  refine po_gRn (t := 5) hW5 h0 rfl rfl (by decide) (fun i6 ex6 hi6 => ?_)
  refine po_some ?_
  refine po_ck (wt_isO hW5 hi6 (by decide)) ?_
  refine po_ro (tX5_size hW5 hi6) (fun y7 ex7 p7 => ?_)
  dsimp only
  refine po_le rfl rfl (fun q8 => ?_) (fun q8 => ?_)
  · refine po_ck (nb_of (Or.inl rfl)) ?_
    refine po_pI hW5 h0 rfl rfl (vv_i (by decide) (Or.inl rfl)) (fun g9 hW9 ex9 => ?_)
    refine po_bind ex9 ?_
    refine po_eq (fun q10 => ?_) (fun q10 => ?_)
    · refine po_gRn (t := 5) hW9 h0 rfl rfl (by decide) (fun i11 ex11 hi11 => ?_)
      refine po_gI hW9 h0 rfl rfl (by decide) (fun x12x ex12 (hx12 : 0 ≤ x12x.toInt ∧ x12x.toInt ≤ 2000) => ?_)
      refine po_bind ex11 ?_
      refine po_some ?_
      refine po_ck (wt_isO hW9 hi11 (by decide)) ?_
      refine po_ro (tX5_size hW9 hi11) (fun y13 ex13 p13 => ?_)
      dsimp only
      refine po_some ?_
      refine po_ck (wt_isO hW9 hi11 (by decide)) ?_
      have e14 : (x12x + (1 : Int32)).toInt = x12x.toInt + 1 := i_add rfl kt_1 (by omega)
      refine po_ro (tX5_behindBlanks hW9 hi11 (by omega) (by omega)) (fun y15 ex15 p15 => ?_)
      dsimp only
      refine po_pI hW9 h0 rfl rfl (vv_i (by decide) (vi8 (by omega))) (fun g16 hW16 ex16 => ?_)
      exact po_ret ⟨rfl, hW16, trivial⟩
    · refine po_gRn (t := 5) hW9 h0 rfl rfl (by decide) (fun i17 ex17 hi17 => ?_)
      refine po_gI hW9 h0 rfl rfl (by decide) (fun x18x ex18 (hx18 : 0 ≤ x18x.toInt ∧ x18x.toInt ≤ 2000) => ?_)
      refine po_some ?_
      refine po_ck (wt_isO hW9 hi17 (by decide)) ?_
      refine po_ro (tX5_get hW9 hi17) (fun y19 ex19 p19 => ?_)
      dsimp only
      refine po_eq (fun q20 => ?_) (fun q20 => ?_)
      · refine po_bind ex17 ?_
        refine po_bind ex18 ?_
        refine po_bind ex17 ?_
        refine po_some ?_
        refine po_ck (wt_isO hW9 hi17 (by decide)) ?_
        refine po_ro (tX5_size hW9 hi17) (fun y21 ex21 p21 => ?_)
        dsimp only
        refine po_some ?_
        refine po_ck (wt_isO hW9 hi17 (by decide)) ?_
        have e22 : (x18x + (1 : Int32)).toInt = x18x.toInt + 1 := i_add rfl kt_1 (by omega)
        refine po_ro (tX5_behindBlanks hW9 hi17 (by omega) (by omega)) (fun y23 ex23 p23 => ?_)
        dsimp only
        refine po_pI hW9 h0 rfl rfl (vv_i (by decide) (vi8 (by omega))) (fun g24 hW24 ex24 => ?_)
        exact po_ret ⟨rfl, hW24, trivial⟩
      · refine po_bind ex18 ?_
        exact po_ret ⟨rfl, hW9, trivial⟩
  · refine po_ck (nb_of (Or.inr rfl)) ?_
    refine po_pI hW5 h0 rfl rfl (vv_i (by decide) (Or.inr rfl)) (fun g25 hW25 ex25 => ?_)
    refine po_bind ex25 ?_
    refine po_eq (fun q26 => ?_) (fun q26 => ?_)
    · refine po_gRn (t := 5) hW25 h0 rfl rfl (by decide) (fun i27 ex27 hi27 => ?_)
      refine po_gI hW25 h0 rfl rfl (by decide) (fun x28x ex28 (hx28 : 0 ≤ x28x.toInt ∧ x28x.toInt ≤ 2000) => ?_)
      refine po_bind ex27 ?_
      refine po_some ?_
      refine po_ck (wt_isO hW25 hi27 (by decide)) ?_
      refine po_ro (tX5_size hW25 hi27) (fun y29 ex29 p29 => ?_)
      dsimp only
      refine po_some ?_
      refine po_ck (wt_isO hW25 hi27 (by decide)) ?_
      have e30 : (x28x + (1 : Int32)).toInt = x28x.toInt + 1 := i_add rfl kt_1 (by omega)
      refine po_ro (tX5_behindBlanks hW25 hi27 (by omega) (by omega)) (fun y31 ex31 p31 => ?_)
      dsimp only
      refine po_pI hW25 h0 rfl rfl (vv_i (by decide) (vi8 (by omega))) (fun g32 hW32 ex32 => ?_)
      exact po_ret ⟨rfl, hW32, trivial⟩
    · refine po_gRn (t := 5) hW25 h0 rfl rfl (by decide) (fun i33 ex33 hi33 => ?_)
      refine po_gI hW25 h0 rfl rfl (by decide) (fun x34x ex34 (hx34 : 0 ≤ x34x.toInt ∧ x34x.toInt ≤ 2000) => ?_)
      refine po_some ?_
      refine po_ck (wt_isO hW25 hi33 (by decide)) ?_
      refine po_ro (tX5_get hW25 hi33) (fun y35 ex35 p35 => ?_)
      dsimp only
      refine po_eq (fun q36 => ?_) (fun q36 => ?_)
      · refine po_bind ex33 ?_
        refine po_bind ex34 ?_
        refine po_bind ex33 ?_
        refine po_some ?_
        refine po_ck (wt_isO hW25 hi33 (by decide)) ?_
        refine po_ro (tX5_size hW25 hi33) (fun y37 ex37 p37 => ?_)
        dsimp only
        refine po_some ?_
        refine po_ck (wt_isO hW25 hi33 (by decide)) ?_
        have e38 : (x34x + (1 : Int32)).toInt = x34x.toInt + 1 := i_add rfl kt_1 (by omega)
        refine po_ro (tX5_behindBlanks hW25 hi33 (by omega) (by omega)) (fun y39 ex39 p39 => ?_)
        dsimp only
        refine po_pI hW25 h0 rfl rfl (vv_i (by decide) (vi8 (by omega))) (fun g40 hW40 ex40 => ?_)
        exact po_ret ⟨rfl, hW40, trivial⟩
      · refine po_bind ex34 ?_
        exact po_ret ⟨rfl, hW25, trivial⟩
set_option maxHeartbeats 1000000 in
theorem tX5_isWord_l2 {G : TE} {F0 : AH} {S : Int32} {n : Nat} : ∀ (d : Nat) (v0 : Nat) (v1 : Int32) (f : AH), WT G F0 S f n → G.1 v0 = 5 → (0 ≤ v1.toInt ∧ v1.toInt ≤ 2000) → 3000 - v1.toInt < (d : Int) → PO (mX5_isWord_l2 d v0 v1 f n) (fun v f' n' => f' = f ∧ n' = n ∧ ((v = 0 ∨ v = 1) ∧ (v ≠ 0 → ∃ x : Int32, gI f v0 5 1 = some x ∧ x.toInt ≤ 8))) := by
  intro d
  induction d with
  | zero =>
    intro v0 v1 f hW h0 h1  hm
    exfalso
    omega
  | succ d ih =>
    intro v0 v1 f hW h0 h1  hm
    show PO ((gI f v0 5 1).bind fun x1 => (if x1 ≤ v1 then ((gI f v0 5 1).bind fun x2 => (if x2 < (1 : Int32) then mX5_isWord_b59 f n else ((gI f v0 5 1).bind fun x3 => (if (8 : Int32) < x3 then mX5_isWord_b59 f n else mX5_isWord_b60 (1 : Int32) f n)))) else rCk (isO f v0 5) (((mX5_get v0 v1 f n).bind fun r5 => (if r5.1 < (97 : Int32) then mX5_isWord_b30 r5.2.1 r5.2.2 else rCk (isO r5.2.1 v0 5) (((mX5_get v0 v1 r5.2.1 r5.2.2).bind fun r8 => (if r8.1 ≤ (122 : Int32) then mX5_isWord_l2 d v0 (v1 + (1 : Int32)) r8.2.1 r8.2.2 else mX5_isWord_b30 r8.2.1 r8.2.2)))))))) _
    refine po_rs hW h0 (fun x1x ex1 hx1 hy1 => ?_)
    refine po_le rfl rfl (fun q2 => ?_) (fun q2 => ?_)
    · refine po_bind ex1 ?_
      refine po_lt rfl kt_1 (fun q3 => ?_) (fun q3 => ?_)
      · refine po_ck (nb_of (Or.inl rfl)) ?_
        exact po_ret ⟨rfl, rfl, ⟨Or.inl rfl, fun h => absurd rfl h⟩⟩
      · refine po_bind ex1 ?_
        refine po_lt kt_8 rfl (fun q4 => ?_) (fun q4 => ?_)
        · refine po_ck (nb_of (Or.inl rfl)) ?_
          exact po_ret ⟨rfl, rfl, ⟨Or.inl rfl, fun h => absurd rfl h⟩⟩
        · refine po_ck (nb_of (Or.inr rfl)) ?_
          exact po_ret ⟨rfl, rfl, ⟨Or.inr rfl, fun _ => ⟨_, ex1, by omega⟩⟩⟩
    · refine po_ck (wt_isO hW h0 (by decide)) ?_
      refine po_ro (tX5_get hW h0) (fun y5 ex5 p5 => ?_)
      dsimp only
      refine po_lt rfl kt_97 (fun q6 => ?_) (fun q6 => ?_)
      · refine po_ck rfl ?_
        exact po_ret ⟨rfl, rfl, ⟨Or.inl rfl, fun h => absurd rfl h⟩⟩
      · refine po_ck (wt_isO hW h0 (by decide)) ?_
        refine po_bind ex5 ?_
        dsimp only
        refine po_le rfl kt_122 (fun q7 => ?_) (fun q7 => ?_)
        · have e8 : (v1 + (1 : Int32)).toInt = v1.toInt + 1 := i_add rfl kt_1 (by omega)
          exact (ih v0 (v1 + (1 : Int32)) f hW h0 (by omega)  (by omega))
        · refine po_ck rfl ?_
          exact po_ret ⟨rfl, rfl, ⟨Or.inl rfl, fun h => absurd rfl h⟩⟩
set_option maxHeartbeats 1000000 in
theorem tX5_isWord {G : TE} {F0 : AH} {S : Int32} {f : AH} {n : Nat} {v0 : Nat} (hW : WT G F0 S f n) (h0 : G.1 v0 = 5) : PO (mX5_isWord v0 f n) (fun v f' n' => f' = f ∧ n' = n ∧ ((v = 0 ∨ v = 1) ∧ (v ≠ 0 → ∃ x : Int32, gI f v0 5 1 = some x ∧ x.toInt ≤ 8))) := by
  have k_kt_0 := kt_0
  unfold mX5_isWord
  exact (tX5_isWord_l2 rFU v0 (0 : Int32) f hW h0 (by omega)  (by unfold rFU; omega))
set_option maxHeartbeats 1000000 in
theorem tX1_likeCount_l4 {G : TE} {F0 : AH} {S : Int32} {n : Nat} : ∀ (d : Nat) (v0 : Nat) (v1 : Int32) (v2 : Int32) (v3 : Int32) (f : AH), WT G F0 S f n → G.1 v0 = 1 → (0 ≤ v3.toInt ∧ v3.toInt ≤ 2000) → 3000 - v3.toInt < (d : Int) → PO (mX1_likeCount_l4 d v0 v1 v2 v3 f n) (fun v f' n' => f' = f ∧ n' = n ∧ (True)) := by
  intro d
  induction d with
  | zero =>
    intro v0 v1 v2 v3 f hW h0 h1  hm
    exfalso
    omega
  | succ d ih =>
    intro v0 v1 v2 v3 f hW h0 h1  hm
    show PO ((gI f v0 1 3).bind fun x1 => (if x1 ≤ v3 then some (v2, (f, n)) else rCk (isO f v0 1) (((mX1_areLike v0 v1 v3 f n).bind fun r3 => (if r3.1 = (0 : Int32) then mX1_likeCount_b24 (fun v0 v1 v2 v3 f n => mX1_likeCount_l4 d v0 v1 v2 v3 f n) v0 v1 v2 v3 r3.2.1 r3.2.2 else mX1_likeCount_b24 (fun v0 v1 v2 v3 f n => mX1_likeCount_l4 d v0 v1 v2 v3 f n) v0 v1 (v2 + (1 : Int32)) v3 r3.2.1 r3.2.2))))) _
    refine po_gI hW h0 rfl rfl (by decide) (fun x1x ex1 (hx1 : 0 ≤ x1x.toInt ∧ x1x.toInt ≤ 40) => ?_)
    refine po_le rfl rfl (fun q2 => ?_) (fun q2 => ?_)
    · exact po_ret ⟨rfl, rfl, trivial⟩
    · refine po_ck (wt_isO hW h0 (by decide)) ?_
      refine po_ro (tX1_areLike hW h0) (fun y3 ex3 p3 => ?_)
      dsimp only
      refine po_eq (fun q4 => ?_) (fun q4 => ?_)
      · have e5 : (v3 + (1 : Int32)).toInt = v3.toInt + 1 := i_add rfl kt_1 (by omega)
        exact (ih v0 v1 v2 (v3 + (1 : Int32)) f hW h0 (by omega)  (by omega))
      · have e6 : (v3 + (1 : Int32)).toInt = v3.toInt + 1 := i_add rfl kt_1 (by omega)
        exact (ih v0 v1 (v2 + (1 : Int32)) (v3 + (1 : Int32)) f hW h0 (by omega)  (by omega))
set_option maxHeartbeats 1000000 in
theorem tX1_likeCount {G : TE} {F0 : AH} {S : Int32} {f : AH} {n : Nat} {v0 : Nat} {v1 : Int32} (hW : WT G F0 S f n) (h0 : G.1 v0 = 1) : PO (mX1_likeCount v0 v1 f n) (fun v f' n' => f' = f ∧ n' = n ∧ (True)) := by
  have k_kt_0 := kt_0
  unfold mX1_likeCount
  exact (tX1_likeCount_l4 rFU v0 v1 (0 : Int32) (0 : Int32) f hW h0 (by omega)  (by unfold rFU; omega))
set_option maxHeartbeats 1000000 in
theorem tX8_knownPair_l10 {G : TE} {F0 : AH} {S : Int32} {n : Nat} : ∀ (d : Nat) (v0 : Nat) (v1 : Option Nat) (v2 : Option Nat) (v3 : Int32) (f : AH), WT G F0 S f n → G.1 v0 = 8 → (∃ i, v1 = some i ∧ G.1 i = 3) → (∀ i, v2 = some i → G.1 i = 2) → (0 ≤ v3.toInt ∧ v3.toInt ≤ 2000) → 3000 - v3.toInt < (d : Int) → PO (mX8_knownPair_l10 d v0 v1 v2 v3 f n) (fun v f' n' => f' = f ∧ n' = n ∧ (True)) := by
  intro d
  induction d with
  | zero =>
    intro v0 v1 v2 v3 f hW h0 h1 h2 h3  hm
    exfalso
    obtain ⟨iv1, rfl, h1⟩ := h1
    omega
  | succ d ih =>
    intro v0 v1 v2 v3 f hW h0 h1 h2 h3  hm
    obtain ⟨iv1, rfl, h1⟩ := h1
    show PO ((gR f v0 8 1).bind fun x1 => ((x1).bind fun j2 => ((gI f j2 7 7).bind fun x3 => (if x3 ≤ v3 then mX8_knownPair_b78 f n else (oN v2 (mX8_knownPair_b78 f n) (fun j4 => ((gR f j4 2 0).bind fun x5 => ((x5).bind fun j6 => rCk (isO f j6 5) (((mX5_size j6 f n).bind fun r8 => (((some iv1)).bind fun j10 => ((gI r8.2.1 j10 3 3).bind fun x11 => (if r8.1 = x11 then ((gR r8.2.1 j4 2 0).bind fun x12 => ((gR r8.2.1 v0 8 5).bind fun x13 => ((x13).bind fun j14 => ((gR r8.2.1 j14 1 0).bind fun x15 => ((gI r8.2.1 j10 3 2).bind fun x16 => ((gI r8.2.1 j10 3 3).bind fun x17 => ((x12).bind fun j18 => rCk (isO r8.2.1 j18 5) (((mX5_isSame j18 (0 : Int32) x15 x16 x17 r8.2.1 r8.2.2).bind fun r20 => (if r20.1 = (0 : Int32) then mX8_knownPair_b67 (fun v0 v1 v2 v3 f n => mX8_knownPair_l10 d v0 v1 v2 v3 f n) v0 (some j10) (some j4) v3 r20.2.1 r20.2.2 else some (v3, (r20.2.1, r20.2.2)))))))))))) else mX8_knownPair_b67 (fun v0 v1 v2 v3 f n => mX8_knownPair_l10 d v0 v1 v2 v3 f n) v0 (some j10) (some j4) v3 r8.2.1 r8.2.2))))))))))))) _
    refine po_gRn (t := 7) hW h0 rfl rfl (by decide) (fun i1 ex1 hi1 => ?_)
    refine po_some ?_
    refine po_gI hW hi1 rfl rfl (by decide) (fun x2x ex2 (hx2 : 0 ≤ x2x.toInt ∧ x2x.toInt ≤ 12) => ?_)
    refine po_le rfl rfl (fun q3 => ?_) (fun q3 => ?_)
    · exact po_ret ⟨rfl, rfl, trivial⟩
    · refine po_oN (fun q5 => ?_) (fun i4 q5 => ?_)
      · subst q5
        exact po_ret ⟨rfl, rfl, trivial⟩
      · subst q5
        refine po_gRn (t := 5) hW (h2 i4 rfl) rfl rfl (by decide) (fun i6 ex6 hi6 => ?_)
        refine po_some ?_
        refine po_ck (wt_isO hW hi6 (by decide)) ?_
        refine po_ro (tX5_size hW hi6) (fun y7 ex7 p7 => ?_)
        dsimp only
        refine po_some ?_
        refine po_gI hW h1 rfl rfl (by decide) (fun x8x ex8 (hx8 : (-700) ≤ x8x.toInt ∧ x8x.toInt ≤ 700) => ?_)
        refine po_eq (fun q9 => ?_) (fun q9 => ?_)
        · refine po_bind ex6 ?_
          refine po_gRn (t := 1) hW h0 rfl rfl (by decide) (fun i10 ex10 hi10 => ?_)
          refine po_some ?_
          refine po_gRm hW hi10 rfl rfl (fun i11 ex11 hi11 hm11 => ?_)
          refine po_gI hW h1 rfl rfl (by decide) (fun x12x ex12 (hx12 : 0 ≤ x12x.toInt ∧ x12x.toInt ≤ 600) => ?_)
          refine po_bind ex8 ?_
          refine po_some ?_
          refine po_ck (wt_isO hW hi6 (by decide)) ?_
          refine po_ro (tX5_isSame hW hi6 ⟨_, rfl, hi11⟩ (by omega)) (fun y13 ex13 p13 => ?_)
          dsimp only
          refine po_eq (fun q14 => ?_) (fun q14 => ?_)
          · refine po_some ?_
            refine po_gRo (t := 2) hW (h2 i4 rfl) rfl rfl (by decide) (fun i15 ex15 hi15 => ?_)
            have e16 : (v3 + (1 : Int32)).toInt = v3.toInt + 1 := i_add rfl kt_1 (by omega)
            exact (ih v0 (some iv1) i15 (v3 + (1 : Int32)) f hW h0 ⟨_, rfl, h1⟩ hi15 (by omega)  (by omega))
          · exact po_ret ⟨rfl, rfl, trivial⟩
        · refine po_some ?_
          refine po_gRo (t := 2) hW (h2 i4 rfl) rfl rfl (by decide) (fun i17 ex17 hi17 => ?_)
          have e18 : (v3 + (1 : Int32)).toInt = v3.toInt + 1 := i_add rfl kt_1 (by omega)
          exact (ih v0 (some iv1) i17 (v3 + (1 : Int32)) f hW h0 ⟨_, rfl, h1⟩ hi17 (by omega)  (by omega))
set_option maxHeartbeats 1000000 in
theorem tX8_knownPair {G : TE} {F0 : AH} {S : Int32} {f : AH} {n : Nat} {v0 : Nat} {v1 : Option Nat} (hW : WT G F0 S f n) (h0 : G.1 v0 = 8) (h1 : (∃ i, v1 = some i ∧ G.1 i = 3)) : PO (mX8_knownPair v0 v1 f n) (fun v f' n' => f' = f ∧ n' = n ∧ (True)) := by
  obtain ⟨iv1, rfl, h1⟩ := h1
  have k_kt_0 := kt_0
  unfold mX8_knownPair
  refine po_gRn (t := 7) hW h0 rfl rfl (by decide) (fun i1 ex1 hi1 => ?_)
  refine po_some ?_
  refine po_gRo (t := 2) hW hi1 rfl rfl (by decide) (fun i2 ex2 hi2 => ?_)
  exact (tX8_knownPair_l10 rFU v0 (some iv1) i2 (0 : Int32) f hW h0 ⟨_, rfl, h1⟩ hi2 (by omega)  (by unfold rFU; omega))
set_option maxHeartbeats 1000000 in
theorem tX1_textByte {G : TE} {F0 : AH} {S : Int32} {f : AH} {n : Nat} {v0 : Nat} {v1 : Option Nat} {v2 : Int32} (hW : WT G F0 S f n) (h0 : G.1 v0 = 1) (h1 : (∃ i, v1 = some i ∧ G.1 i = 3)) : PO (mX1_textByte v0 v1 v2 f n) (fun v f' n' => f' = f ∧ n' = n ∧ (True)) := by
  obtain ⟨iv1, rfl, h1⟩ := h1
  unfold mX1_textByte
  refine po_lt rfl kt_0 (fun q1 => ?_) (fun q1 => ?_)
  · exact po_ret ⟨rfl, rfl, trivial⟩
  · refine po_some ?_
    refine po_gI hW h1 rfl rfl (by decide) (fun x2x ex2 (hx2 : (-700) ≤ x2x.toInt ∧ x2x.toInt ≤ 700) => ?_)
    refine po_le rfl rfl (fun q3 => ?_) (fun q3 => ?_)
    · exact po_ret ⟨rfl, rfl, trivial⟩
    · refine po_gRm hW h0 rfl rfl (fun i4 ex4 hi4 hm4 => ?_)
      refine po_gI hW h1 rfl rfl (by decide) (fun x5x ex5 (hx5 : 0 ≤ x5x.toInt ∧ x5x.toInt ≤ 600) => ?_)
      refine po_some ?_
      refine po_ck (wt_isO hW hi4 (by decide)) ?_
      have e6 : (x5x + v2).toInt = x5x.toInt + v2.toInt := i_add rfl rfl (by omega)
      refine po_ro (tX5_get hW hi4) (fun y7 ex7 p7 => ?_)
      dsimp only
      exact po_ret ⟨rfl, rfl, trivial⟩
set_option maxHeartbeats 1000000 in
theorem tX8_nowByte {G : TE} {F0 : AH} {S : Int32} {f : AH} {n : Nat} {v0 : Nat} {v1 : Int32} {v2 : Option Nat} {v3 : Int32} (hW : WT G F0 S f n) (h0 : G.1 v0 = 8) (h1 : (∃ i, v2 = some i ∧ G.1 i = 3)) : PO (mX8_nowByte v0 v1 v2 v3 f n) (fun v f' n' => f' = f ∧ n' = n ∧ (True)) := by
  obtain ⟨iv2, rfl, h1⟩ := h1
  unfold mX8_nowByte
  refine po_gRn (t := 7) hW h0 rfl rfl (by decide) (fun i1 ex1 hi1 => ?_)
  refine po_some ?_
  refine po_ck (wt_isO hW hi1 (by decide)) ?_
  refine po_ro (tX7_toldFor hW hi1) (fun y2 ex2 p2 => ?_)
  dsimp only
  refine po_some ?_
  refine po_oN (fun q4 => ?_) (fun i3 q4 => ?_)
  · subst q4
    refine po_gRn (t := 1) hW h0 rfl rfl (by decide) (fun i5 ex5 hi5 => ?_)
    refine po_some ?_
    refine po_ck (wt_isO hW hi5 (by decide)) ?_
    refine po_ro (tX1_textByte hW hi5 ⟨_, rfl, h1⟩) (fun y6 ex6 p6 => ?_)
    dsimp only
    exact po_ret ⟨rfl, rfl, trivial⟩
  · subst q4
    refine po_ck (wt_isO hW (p2 i3 rfl) (by decide)) ?_
    refine po_ro (tX5_get hW (p2 i3 rfl)) (fun y7 ex7 p7 => ?_)
    dsimp only
    exact po_ret ⟨rfl, rfl, trivial⟩
set_option maxHeartbeats 1000000 in
theorem tX8_smallLetter {G : TE} {F0 : AH} {S : Int32} {f : AH} {n : Nat} {v0 : Int32} (hW : WT G F0 S f n)  : PO (mX8_smallLetter v0 f n) (fun v f' n' => f' = f ∧ n' = n ∧ (True)) := by
  unfold mX8_smallLetter
  refine po_lt rfl kt_65 (fun q1 => ?_) (fun q1 => ?_)
  · exact po_ret ⟨rfl, rfl, trivial⟩
  · refine po_lt kt_90 rfl (fun q2 => ?_) (fun q2 => ?_)
    · exact po_ret ⟨rfl, rfl, trivial⟩
    · have e3 : (v0 + (32 : Int32)).toInt = v0.toInt + 32 := i_add rfl kt_32 (by omega)
      exact po_ret ⟨rfl, rfl, trivial⟩
set_option maxHeartbeats 1000000 in
theorem tX5_hasSmall_l2 {G : TE} {F0 : AH} {S : Int32} {n : Nat} : ∀ (d : Nat) (v0 : Nat) (v1 : Int32) (v2 : Option Nat) (v3 : Int32) (f : AH), WT G F0 S f n → G.1 v0 = 5 → (∃ i, v2 = some i ∧ G.1 i = 5) → (0 ≤ v3.toInt ∧ v3.toInt ≤ 2000) → 3000 - v3.toInt < (d : Int) → PO (mX5_hasSmall_l2 d v0 v1 v2 v3 f n) (fun v f' n' => f' = f ∧ n' = n ∧ (v = 0 ∨ v = 1)) := by
  intro d
  induction d with
  | zero =>
    intro v0 v1 v2 v3 f hW h0 h1 h2  hm
    exfalso
    obtain ⟨iv2, rfl, h1⟩ := h1
    omega
  | succ d ih =>
    intro v0 v1 v2 v3 f hW h0 h1 h2  hm
    obtain ⟨iv2, rfl, h1⟩ := h1
    show PO (((some iv2)).bind fun j1 => rCk (isO f j1 5) (((mX5_size j1 f n).bind fun r3 => (if r3.1 ≤ v3 then rCk (rNb (1 : Int32)) (some ((1 : Int32), (r3.2.1, r3.2.2))) else rCk (isO r3.2.1 v0 5) (((mX5_get v0 (v1 + v3) r3.2.1 r3.2.2).bind fun r7 => ((mX8_smallLetter r7.1 r7.2.1 r7.2.2).bind fun r9 => rCk (isO r9.2.1 j1 5) (((mX5_get j1 v3 r9.2.1 r9.2.2).bind fun r11 => (if r9.1 = r11.1 then mX5_hasSmall_l2 d v0 v1 (some j1) (v3 + (1 : Int32)) r11.2.1 r11.2.2 else rCk (rNb (0 : Int32)) (some ((0 : Int32), (r11.2.1, r11.2.2))))))))))))) _
    refine po_some ?_
    refine po_ck (wt_isO hW h1 (by decide)) ?_
    refine po_ro (tX5_size hW h1) (fun y1 ex1 p1 => ?_)
    dsimp only
    refine po_le rfl rfl (fun q2 => ?_) (fun q2 => ?_)
    · refine po_ck rfl ?_
      exact po_ret ⟨rfl, rfl, (Or.inr rfl)⟩
    · refine po_ck (wt_isO hW h0 (by decide)) ?_
      refine po_ro (tX5_get hW h0) (fun y3 ex3 p3 => ?_)
      dsimp only
      refine po_ro (tX8_smallLetter hW ) (fun y4 ex4 p4 => ?_)
      dsimp only
      refine po_ck (wt_isO hW h1 (by decide)) ?_
      refine po_ro (tX5_get hW h1) (fun y5 ex5 p5 => ?_)
      dsimp only
      refine po_eq (fun q6 => ?_) (fun q6 => ?_)
      · have e7 : (v3 + (1 : Int32)).toInt = v3.toInt + 1 := i_add rfl kt_1 (by omega)
        exact (ih v0 v1 (some iv2) (v3 + (1 : Int32)) f hW h0 ⟨_, rfl, h1⟩ (by omega)  (by omega))
      · refine po_ck rfl ?_
        exact po_ret ⟨rfl, rfl, (Or.inl rfl)⟩
set_option maxHeartbeats 1000000 in
theorem tX5_hasSmall {G : TE} {F0 : AH} {S : Int32} {f : AH} {n : Nat} {v0 : Nat} {v1 : Int32} {v2 : Option Nat} (hW : WT G F0 S f n) (h0 : G.1 v0 = 5) (h1 : (∃ i, v2 = some i ∧ G.1 i = 5)) : PO (mX5_hasSmall v0 v1 v2 f n) (fun v f' n' => f' = f ∧ n' = n ∧ (v = 0 ∨ v = 1)) := by
  obtain ⟨iv2, rfl, h1⟩ := h1
  have k_kt_0 := kt_0
  unfold mX5_hasSmall
  exact (tX5_hasSmall_l2 rFU v0 v1 (some iv2) (0 : Int32) f hW h0 ⟨_, rfl, h1⟩ (by omega)  (by unfold rFU; omega))
set_option maxHeartbeats 1000000 in
theorem tX5_hasWord_l3 {G : TE} {F0 : AH} {S : Int32} {n : Nat} : ∀ (d : Nat) (v0 : Nat) (v1 : Int32) (v2 : Int32) (v3 : Option Nat) (v4 : Int32) (f : AH), WT G F0 S f n → G.1 v0 = 5 → (0 ≤ v1.toInt ∧ v1.toInt ≤ 600) → ((-700) ≤ v2.toInt ∧ v2.toInt ≤ 700) → (∃ i, v3 = some i ∧ G.1 i = 5) → (0 ≤ v4.toInt ∧ v4.toInt ≤ 2000) → v1.toInt + v2.toInt - v4.toInt + 4000 < (d : Int) → PO (mX5_hasWord_l3 d v0 v1 v2 v3 v4 f n) (fun v f' n' => f' = f ∧ n' = n ∧ (v = 0 ∨ v = 1)) := by
  intro d
  induction d with
  | zero =>
    intro v0 v1 v2 v3 v4 f hW h0 h1 h2 h3 h4  hm
    exfalso
    obtain ⟨iv3, rfl, h3⟩ := h3
    omega
  | succ d ih =>
    intro v0 v1 v2 v3 v4 f hW h0 h1 h2 h3 h4  hm
    obtain ⟨iv3, rfl, h3⟩ := h3
    show PO (((some iv3)).bind fun j1 => rCk (isO f j1 5) (((mX5_size j1 f n).bind fun r3 => (if ((v1 + v2) - r3.1) < v4 then rCk (rNb (0 : Int32)) (some ((0 : Int32), (r3.2.1, r3.2.2))) else rCk (isO r3.2.1 v0 5) (((mX5_hasSmall v0 v4 (some j1) r3.2.1 r3.2.2).bind fun r7 => (if r7.1 = (0 : Int32) then mX5_hasWord_l3 d v0 v1 v2 (some j1) (v4 + (1 : Int32)) r7.2.1 r7.2.2 else rCk (rNb (1 : Int32)) (some ((1 : Int32), (r7.2.1, r7.2.2)))))))))) _
    refine po_some ?_
    refine po_ck (wt_isO hW h3 (by decide)) ?_
    refine po_ro (tX5_size hW h3) (fun y1 ex1 p1 => ?_)
    dsimp only
    have e3 : (v1 + v2).toInt = v1.toInt + v2.toInt := i_add rfl rfl (by omega)
    have e4 : ((v1 + v2) - y1).toInt = (v1 + v2).toInt - y1.toInt := i_sub rfl rfl (by omega)
    refine po_lt rfl rfl (fun q2 => ?_) (fun q2 => ?_)
    · refine po_ck rfl ?_
      exact po_ret ⟨rfl, rfl, (Or.inl rfl)⟩
    · refine po_ck (wt_isO hW h0 (by decide)) ?_
      refine po_ro (tX5_hasSmall hW h0 ⟨_, rfl, h3⟩) (fun y5 ex5 p5 => ?_)
      dsimp only
      refine po_eq (fun q6 => ?_) (fun q6 => ?_)
      · have e7 : (v4 + (1 : Int32)).toInt = v4.toInt + 1 := i_add rfl kt_1 (by omega)
        exact (ih v0 v1 v2 (some iv3) (v4 + (1 : Int32)) f hW h0 (by omega) (by omega) ⟨_, rfl, h3⟩ (by omega)  (by omega))
      · refine po_ck rfl ?_
        exact po_ret ⟨rfl, rfl, (Or.inr rfl)⟩
set_option maxHeartbeats 1000000 in
theorem tX5_hasWord {G : TE} {F0 : AH} {S : Int32} {f : AH} {n : Nat} {v0 : Nat} {v1 : Int32} {v2 : Int32} {v3 : Option Nat} (hW : WT G F0 S f n) (h0 : G.1 v0 = 5) (h1 : (0 ≤ v1.toInt ∧ v1.toInt ≤ 600)) (h2 : ((-700) ≤ v2.toInt ∧ v2.toInt ≤ 700)) (h3 : (∃ i, v3 = some i ∧ G.1 i = 5)) : PO (mX5_hasWord v0 v1 v2 v3 f n) (fun v f' n' => f' = f ∧ n' = n ∧ (v = 0 ∨ v = 1)) := by
  obtain ⟨iv3, rfl, h3⟩ := h3
  unfold mX5_hasWord
  exact (tX5_hasWord_l3 rFU v0 v1 v2 (some iv3) v1 f hW h0 (by omega) (by omega) ⟨_, rfl, h3⟩ (by omega)  (by unfold rFU; omega))
set_option maxHeartbeats 1000000 in
theorem tX8_hasWord {G : TE} {F0 : AH} {S : Int32} {f : AH} {n : Nat} {v0 : Nat} {v1 : Int32} {v2 : Option Nat} (hW : WT G F0 S f n) (h0 : G.1 v0 = 8) (h1 : (∃ i, v2 = some i ∧ G.1 i = 5)) : PO (mX8_hasWord v0 v1 v2 f n) (fun v f' n' => f' = f ∧ n' = n ∧ (True)) := by
  obtain ⟨iv2, rfl, h1⟩ := h1
  have k_kt_0 := kt_0
  unfold mX8_hasWord
  refine po_gRn (t := 1) hW h0 rfl rfl (by decide) (fun i1 ex1 hi1 => ?_)
  refine po_some ?_
  refine po_ck (wt_isO hW hi1 (by decide)) ?_
  refine po_ro (tX1_get hW hi1) (fun y2 ex2 p2 => ?_)
  dsimp only
  refine po_some ?_
  refine po_oN (fun q4 => ?_) (fun i3 q4 => ?_)
  · subst q4
    refine po_ck rfl ?_
    exact po_ret ⟨rfl, rfl, trivial⟩
  · subst q4
    refine po_gRn (t := 7) hW h0 rfl rfl (by decide) (fun i5 ex5 hi5 => ?_)
    refine po_some ?_
    refine po_ck (wt_isO hW hi5 (by decide)) ?_
    refine po_ro (tX7_toldFor hW hi5) (fun y6 ex6 p6 => ?_)
    dsimp only
    refine po_some ?_
    refine po_oN (fun q8 => ?_) (fun i7 q8 => ?_)
    · subst q8
      refine po_bind ex1 ?_
      refine po_some ?_
      refine po_gRm hW hi1 rfl rfl (fun i9 ex9 hi9 hm9 => ?_)
      refine po_gI hW (p2 i3 rfl) rfl rfl (by decide) (fun x10x ex10 (hx10 : 0 ≤ x10x.toInt ∧ x10x.toInt ≤ 600) => ?_)
      refine po_gI hW (p2 i3 rfl) rfl rfl (by decide) (fun x11x ex11 (hx11 : (-700) ≤ x11x.toInt ∧ x11x.toInt ≤ 700) => ?_)
      refine po_some ?_
      refine po_ck (wt_isO hW hi9 (by decide)) ?_
      refine po_ro (tX5_hasWord hW hi9 (by omega) (by omega) ⟨_, rfl, h1⟩) (fun y12 ex12 p12 => ?_)
      dsimp only
      refine po_ck (nb_of p12) ?_
      exact po_ret ⟨rfl, rfl, trivial⟩
    · subst q8
      refine po_ck (wt_isO hW (p6 i7 rfl) (by decide)) ?_
      refine po_ro (tX5_size hW (p6 i7 rfl)) (fun y13 ex13 p13 => ?_)
      dsimp only
      refine po_ck (wt_isO hW (p6 i7 rfl) (by decide)) ?_
      refine po_ro (tX5_hasWord hW (p6 i7 rfl) (by omega) (by omega) ⟨_, rfl, h1⟩) (fun y14 ex14 p14 => ?_)
      dsimp only
      refine po_ck (nb_of p14) ?_
      exact po_ret ⟨rfl, rfl, trivial⟩
set_option maxHeartbeats 1000000 in
theorem tX3_mayBeginInBuilt {G : TE} {F0 : AH} {S : Int32} {f : AH} {n : Nat} {v0 : Nat} {v1 : Int32} (hW : WT G F0 S f n) (h0 : G.1 v0 = 3) : PO (mX3_mayBeginInBuilt v0 v1 f n) (fun v f' n' => f' = f ∧ n' = n ∧ (v = 0 ∨ v = 1)) := by
  unfold mX3_mayBeginInBuilt
  refine po_gI hW h0 rfl rfl (by decide) (fun x1x ex1 (_ : True) => ?_)
  refine po_eq (fun q2 => ?_) (fun q2 => ?_)
  · refine po_ck (nb_of (Or.inr rfl)) ?_
    exact po_ret ⟨rfl, rfl, (Or.inr rfl)⟩
  · refine po_gI hW h0 rfl rfl (by decide) (fun x3x ex3 (_ : True) => ?_)
    refine po_le rfl kt_0 (fun q4 => ?_) (fun q4 => ?_)
    · refine po_ck (nb_of (Or.inl rfl)) ?_
      exact po_ret ⟨rfl, rfl, (Or.inl rfl)⟩
    · refine po_bind ex1 ?_
      refine po_bind ex3 ?_
      refine po_eq (fun q5 => ?_) (fun q5 => ?_)
      · refine po_ck (nb_of (Or.inr rfl)) ?_
        exact po_ret ⟨rfl, rfl, (Or.inr rfl)⟩
      · refine po_ck (nb_of (Or.inl rfl)) ?_
        exact po_ret ⟨rfl, rfl, (Or.inl rfl)⟩
