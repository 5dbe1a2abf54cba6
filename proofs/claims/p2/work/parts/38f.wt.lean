set_option maxHeartbeats 1000000 in
theorem tX8_isNow {G : TE} {F0 : AH} {S : Int32} {f : AH} {n : Nat} {v0 : Nat} {v1 : Int32} {v2 : Option Nat} {v3 : Option Nat} (hW : WT G F0 S f n) (h0 : G.1 v0 = 8) (h1 : (∃ i, v2 = some i ∧ G.1 i = 3)) (h2 : (∃ i, v3 = some i ∧ G.1 i = 3)) : PO (mX8_isNow v0 v1 v2 v3 f n) (fun v f' n' => f' = f ∧ n' = n ∧ (v = 0 ∨ v = 1)) := by
  obtain ⟨iv2, rfl, h1⟩ := h1
  obtain ⟨iv3, rfl, h2⟩ := h2
  unfold mX8_isNow
  refine po_gRn (t := 7) hW h0 rfl rfl (by decide) (fun i1 ex1 hi1 => ?_)
  refine po_some ?_
  refine po_ck (wt_isO hW hi1 (by decide)) ?_
  refine po_ro (tX7_toldFor hW hi1) (fun y2 ex2 p2 => ?_)
  dsimp only
  refine po_some ?_
  refine po_oN (fun q4 => ?_) (fun i3 q4 => ?_)
  · subst q4
    refine po_some ?_
    refine po_gI hW h1 rfl rfl (by decide) (fun x5x ex5 (hx5 : (-700) ≤ x5x.toInt ∧ x5x.toInt ≤ 700) => ?_)
    refine po_some ?_
    refine po_gI hW h2 rfl rfl (by decide) (fun x6x ex6 (hx6 : (-700) ≤ x6x.toInt ∧ x6x.toInt ≤ 700) => ?_)
    refine po_eq (fun q7 => ?_) (fun q7 => ?_)
    · refine po_gRn (t := 1) hW h0 rfl rfl (by decide) (fun i8 ex8 hi8 => ?_)
      refine po_some ?_
      refine po_gRm hW hi8 rfl rfl (fun i9 ex9 hi9 hm9 => ?_)
      refine po_gI hW h1 rfl rfl (by decide) (fun x10x ex10 (hx10 : 0 ≤ x10x.toInt ∧ x10x.toInt ≤ 600) => ?_)
      refine po_gRn (t := 1) hW h0 rfl rfl (by decide) (fun i11 ex11 hi11 => ?_)
      refine po_some ?_
      refine po_gRm hW hi11 rfl rfl (fun i12 ex12 hi12 hm12 => ?_)
      refine po_gI hW h2 rfl rfl (by decide) (fun x13x ex13 (hx13 : 0 ≤ x13x.toInt ∧ x13x.toInt ≤ 600) => ?_)
      refine po_bind ex5 ?_
      refine po_some ?_
      refine po_ck (wt_isO hW hi9 (by decide)) ?_
      refine po_ro (tX5_isSame hW hi9 ⟨_, rfl, hi12⟩ (by omega)) (fun y14 ex14 p14 => ?_)
      dsimp only
      refine po_eq (fun q15 => ?_) (fun q15 => ?_)
      · refine po_ck (nb_of (Or.inl rfl)) ?_
        exact po_ret ⟨rfl, rfl, (Or.inl rfl)⟩
      · refine po_ck (nb_of (Or.inr rfl)) ?_
        exact po_ret ⟨rfl, rfl, (Or.inr rfl)⟩
    · refine po_ck (nb_of (Or.inl rfl)) ?_
      exact po_ret ⟨rfl, rfl, (Or.inl rfl)⟩
  · subst q4
    refine po_ck (wt_isO hW (p2 i3 rfl) (by decide)) ?_
    refine po_ro (tX5_size hW (p2 i3 rfl)) (fun y16 ex16 p16 => ?_)
    dsimp only
    refine po_some ?_
    refine po_gI hW h2 rfl rfl (by decide) (fun x17x ex17 (hx17 : (-700) ≤ x17x.toInt ∧ x17x.toInt ≤ 700) => ?_)
    refine po_eq (fun q18 => ?_) (fun q18 => ?_)
    · refine po_gRn (t := 1) hW h0 rfl rfl (by decide) (fun i19 ex19 hi19 => ?_)
      refine po_some ?_
      refine po_gRm hW hi19 rfl rfl (fun i20 ex20 hi20 hm20 => ?_)
      refine po_gI hW h2 rfl rfl (by decide) (fun x21x ex21 (hx21 : 0 ≤ x21x.toInt ∧ x21x.toInt ≤ 600) => ?_)
      refine po_ck (wt_isO hW (p2 i3 rfl) (by decide)) ?_
      refine po_bind ex16 ?_
      dsimp only
      refine po_ck (wt_isO hW (p2 i3 rfl) (by decide)) ?_
      refine po_ro (tX5_isSame hW (p2 i3 rfl) ⟨_, rfl, hi20⟩ (by omega)) (fun y22 ex22 p22 => ?_)
      dsimp only
      refine po_eq (fun q23 => ?_) (fun q23 => ?_)
      · refine po_ck (nb_of (Or.inl rfl)) ?_
        exact po_ret ⟨rfl, rfl, (Or.inl rfl)⟩
      · refine po_ck (nb_of (Or.inr rfl)) ?_
        exact po_ret ⟨rfl, rfl, (Or.inr rfl)⟩
    · refine po_ck (nb_of (Or.inl rfl)) ?_
      exact po_ret ⟨rfl, rfl, (Or.inl rfl)⟩
set_option maxHeartbeats 1000000 in
theorem tX8_twice_l25 {G : TE} {F0 : AH} {S : Int32} {n : Nat} : ∀ (d : Nat) (v0 : Nat) (v1 : Int32) (f : AH), WT G F0 S f n → G.1 v0 = 8 → (0 ≤ v1.toInt ∧ v1.toInt ≤ 2000) → 3000 - v1.toInt < (d : Int) → PO (mX8_twice_l25 d v0 v1 f n) (fun v f' n' => n' = n ∧ WT G F0 S f' n ∧ (v = 0 ∨ v = 1)) := by
  intro d
  induction d with
  | zero =>
    intro v0 v1 f hW h0 h1  hm
    exfalso
    omega
  | succ d ih =>
    intro v0 v1 f hW h0 h1  hm
    show PO ((gR f v0 8 5).bind fun x1 => ((x1).bind fun j2 => rCk (isO f j2 1) (((mX1_size j2 f n).bind fun r4 => (if r4.1 ≤ v1 then rCk (rNb (1 : Int32)) (some ((1 : Int32), (r4.2.1, r4.2.2))) else ((gR r4.2.1 v0 8 5).bind fun x7 => ((x7).bind fun j8 => rCk (isO r4.2.1 j8 1) (((mX1_get j8 v1 r4.2.1 r4.2.2).bind fun r10 => ((some r10.1).bind fun x12 => ((gR r10.2.1 v0 8 6).bind fun x13 => ((x13).bind fun j14 => rCk (isO r10.2.1 j14 1) (((mX1_get j14 v1 r10.2.1 r10.2.2).bind fun r16 => ((some r16.1).bind fun x18 => (oN x12 (mX8_twice_b72 r16.2.1 r16.2.2) (fun j19 => (oN x18 (mX8_twice_b72 r16.2.1 r16.2.2) (fun j20 => rCk (isO r16.2.1 v0 8) (((mX8_isNow v0 v1 (some j19) (some j20) r16.2.1 r16.2.2).bind fun r22 => (if r22.1 = (0 : Int32) then mX8_twice_b72 r22.2.1 r22.2.2 else mX8_twice_l25 d v0 (v1 + (1 : Int32)) r22.2.1 r22.2.2)))))))))))))))))))))) _
    refine po_gRn (t := 1) hW h0 rfl rfl (by decide) (fun i1 ex1 hi1 => ?_)
    refine po_some ?_
    refine po_ck (wt_isO hW hi1 (by decide)) ?_
    refine po_ro (tX1_size hW hi1) (fun y2 ex2 p2 => ?_)
    dsimp only
    refine po_le rfl rfl (fun q3 => ?_) (fun q3 => ?_)
    · refine po_ck rfl ?_
      exact po_ret ⟨rfl, hW, (Or.inr rfl)⟩
    · refine po_bind ex1 ?_
      refine po_some ?_
      refine po_ck (wt_isO hW hi1 (by decide)) ?_
      refine po_ro (tX1_get hW hi1) (fun y4 ex4 p4 => ?_)
      dsimp only
      refine po_some ?_
      refine po_gRn (t := 1) hW h0 rfl rfl (by decide) (fun i5 ex5 hi5 => ?_)
      refine po_some ?_
      refine po_ck (wt_isO hW hi5 (by decide)) ?_
      refine po_ro (tX1_get hW hi5) (fun y6 ex6 p6 => ?_)
      dsimp only
      refine po_some ?_
      refine po_oN (fun q8 => ?_) (fun i7 q8 => ?_)
      · subst q8
        refine po_ck rfl ?_
        exact po_ret ⟨rfl, hW, (Or.inl rfl)⟩
      · subst q8
        refine po_oN (fun q10 => ?_) (fun i9 q10 => ?_)
        · subst q10
          refine po_ck rfl ?_
          exact po_ret ⟨rfl, hW, (Or.inl rfl)⟩
        · subst q10
          refine po_ck (wt_isO hW h0 (by decide)) ?_
          refine po_ro (tX8_isNow hW h0 ⟨_, rfl, (p4 i7 rfl)⟩ ⟨_, rfl, (p6 i9 rfl)⟩) (fun y11 ex11 p11 => ?_)
          dsimp only
          refine po_eq (fun q12 => ?_) (fun q12 => ?_)
          · refine po_ck rfl ?_
            exact po_ret ⟨rfl, hW, (Or.inl rfl)⟩
          · have e13 : (v1 + (1 : Int32)).toInt = v1.toInt + 1 := i_add rfl kt_1 (by omega)
            exact (ih v0 (v1 + (1 : Int32)) f hW h0 (by omega)  (by omega))
set_option maxHeartbeats 1000000 in
theorem tX8_twice {G : TE} {F0 : AH} {S : Int32} {f : AH} {n : Nat} {v0 : Nat} (hW : WT G F0 S f n) (h0 : G.1 v0 = 8) : PO (mX8_twice v0 f n) (fun v f' n' => n' = n ∧ WT G F0 S f' n ∧ (v = 0 ∨ v = 1)) := by
  have k_kt_0 := kt_0
  unfold mX8_twice
  refine po_ck (wt_isO hW h0 (by decide)) ?_
  refine po_w (tX8_cutAgain hW h0) (fun y1 g1 hW1 p1 => ?_)
  dsimp only
  refine po_gRn (t := 1) hW1 h0 rfl rfl (by decide) (fun i2 ex2 hi2 => ?_)
  refine po_some ?_
  refine po_ck (wt_isO hW1 hi2 (by decide)) ?_
  refine po_ro (tX1_size hW1 hi2) (fun y3 ex3 p3 => ?_)
  dsimp only
  refine po_gRn (t := 1) hW1 h0 rfl rfl (by decide) (fun i4 ex4 hi4 => ?_)
  refine po_some ?_
  refine po_ck (wt_isO hW1 hi4 (by decide)) ?_
  refine po_ro (tX1_size hW1 hi4) (fun y5 ex5 p5 => ?_)
  dsimp only
  refine po_eq (fun q6 => ?_) (fun q6 => ?_)
  · exact (tX8_twice_l25 rFU v0 (0 : Int32) g1 hW1 h0 (by omega)  (by unfold rFU; omega))
  · refine po_ck rfl ?_
    exact po_ret ⟨rfl, hW1, (Or.inl rfl)⟩
set_option maxHeartbeats 1000000 in
theorem tX8_image {G : TE} {F0 : AH} {S : Int32} {f : AH} {n : Nat} {v0 : Nat} (hW : WT G F0 S f n) (h0 : G.1 v0 = 8) : PO (mX8_image v0 f n) (fun v f' n' => n' = n ∧ WT G F0 S f' n ∧ (True)) := by
  unfold mX8_image
  refine po_gRn (t := 7) hW h0 rfl rfl (by decide) (fun i1 ex1 hi1 => ?_)
  refine po_gRn (t := 7) hW h0 rfl rfl (by decide) (fun i2 ex2 hi2 => ?_)
  refine po_some ?_
  refine po_ck (wt_isO hW hi1 (by decide)) ?_
  refine po_w (tX7_copyFrom hW hi1 ⟨_, rfl, hi2⟩) (fun y3 g3 hW3 p3 => ?_)
  dsimp only
  refine po_ck rfl ?_
  refine po_pI hW3 h0 rfl rfl (vv_i (by decide) (Or.inr rfl)) (fun g4 hW4 ex4 => ?_)
  exact po_ret ⟨rfl, hW4, trivial⟩
set_option maxHeartbeats 1000000 in
theorem tX8_back {G : TE} {F0 : AH} {S : Int32} {f : AH} {n : Nat} {v0 : Nat} (hW : WT G F0 S f n) (h0 : G.1 v0 = 8) : PO (mX8_back v0 f n) (fun v f' n' => n' = n ∧ WT G F0 S f' n ∧ (True)) := by
  unfold mX8_back
  refine po_gI hW h0 rfl rfl (by decide) (fun x1x ex1 (hx1 : x1x = 0 ∨ x1x = 1) => ?_)
  refine po_eq (fun q2 => ?_) (fun q2 => ?_)
  · refine po_ck rfl ?_
    exact po_ret ⟨rfl, hW, trivial⟩
  · refine po_gRn (t := 7) hW h0 rfl rfl (by decide) (fun i3 ex3 hi3 => ?_)
    refine po_ck (wt_isO hW h0 (by decide)) ?_
    refine po_w (tX8_restore hW h0 ⟨_, rfl, hi3⟩) (fun y4 g4 hW4 p4 => ?_)
    dsimp only
    refine po_pI hW4 h0 rfl rfl (vv_i (by decide) trivial) (fun g5 hW5 ex5 => ?_)
    refine po_ck rfl ?_
    exact po_ret ⟨rfl, hW5, trivial⟩
set_option maxHeartbeats 1000000 in
theorem tX1_bytesInPieces_l4 {G : TE} {F0 : AH} {S : Int32} {n : Nat} : ∀ (d : Nat) (v0 : Nat) (v1 : Int32) (v2 : Int32) (f : AH), WT G F0 S f n → G.1 v0 = 1 → (0 ≤ v2.toInt ∧ v2.toInt ≤ 2000) → 3000 - v2.toInt < (d : Int) → PO (mX1_bytesInPieces_l4 d v0 v1 v2 f n) (fun v f' n' => f' = f ∧ n' = n ∧ (True)) := by
  intro d
  induction d with
  | zero =>
    intro v0 v1 v2 f hW h0 h1  hm
    exfalso
    omega
  | succ d ih =>
    intro v0 v1 v2 f hW h0 h1  hm
    show PO ((gI f v0 1 3).bind fun x1 => (if x1 ≤ v2 then some (v1, (f, n)) else rCk (isO f v0 1) (((mX1_get v0 v2 f n).bind fun r3 => ((some r3.1).bind fun x5 => (oN x5 (mX1_bytesInPieces_b36 (fun v0 v1 v2 f n => mX1_bytesInPieces_l4 d v0 v1 v2 f n) v0 v2 v1 (0 : Int32) r3.2.1 r3.2.2) (fun j6 => ((gI r3.2.1 j6 3 1).bind fun x7 => ((gI r3.2.1 j6 3 0).bind fun x8 => mX1_bytesInPieces_b36 (fun v0 v1 v2 f n => mX1_bytesInPieces_l4 d v0 v1 v2 f n) v0 v2 v1 (x7 - x8) r3.2.1 r3.2.2))))))))) _
    refine po_gI hW h0 rfl rfl (by decide) (fun x1x ex1 (hx1 : 0 ≤ x1x.toInt ∧ x1x.toInt ≤ 40) => ?_)
    refine po_le rfl rfl (fun q2 => ?_) (fun q2 => ?_)
    · exact po_ret ⟨rfl, rfl, trivial⟩
    · refine po_ck (wt_isO hW h0 (by decide)) ?_
      refine po_ro (tX1_get hW h0) (fun y3 ex3 p3 => ?_)
      dsimp only
      refine po_some ?_
      refine po_oN (fun q5 => ?_) (fun i4 q5 => ?_)
      · subst q5
        have e6 : (v2 + (1 : Int32)).toInt = v2.toInt + 1 := i_add rfl kt_1 (by omega)
        exact (ih v0 (v1 + (0 : Int32)) (v2 + (1 : Int32)) f hW h0 (by omega)  (by omega))
      · subst q5
        refine po_gI hW (p3 i4 rfl) rfl rfl (by decide) (fun x7x ex7 (_ : True) => ?_)
        refine po_gI hW (p3 i4 rfl) rfl rfl (by decide) (fun x8x ex8 (_ : True) => ?_)
        have e9 : (v2 + (1 : Int32)).toInt = v2.toInt + 1 := i_add rfl kt_1 (by omega)
        exact (ih v0 (v1 + (x7x - x8x)) (v2 + (1 : Int32)) f hW h0 (by omega)  (by omega))
set_option maxHeartbeats 1000000 in
theorem tX1_bytesInPieces {G : TE} {F0 : AH} {S : Int32} {f : AH} {n : Nat} {v0 : Nat} (hW : WT G F0 S f n) (h0 : G.1 v0 = 1) : PO (mX1_bytesInPieces v0 f n) (fun v f' n' => f' = f ∧ n' = n ∧ (True)) := by
  have k_kt_0 := kt_0
  unfold mX1_bytesInPieces
  exact (tX1_bytesInPieces_l4 rFU v0 (0 : Int32) (0 : Int32) f hW h0 (by omega)  (by unfold rFU; omega))
set_option maxHeartbeats 1000000 in
theorem tX1_hasLikeAhead_l2 {G : TE} {F0 : AH} {S : Int32} {n : Nat} : ∀ (d : Nat) (v0 : Nat) (v1 : Int32) (v2 : Int32) (f : AH), WT G F0 S f n → G.1 v0 = 1 → (0 ≤ v1.toInt ∧ v1.toInt ≤ 2000) → (0 ≤ v2.toInt ∧ v2.toInt ≤ 2000) → v1.toInt + 3000 - v2.toInt < (d : Int) → PO (mX1_hasLikeAhead_l2 d v0 v1 v2 f n) (fun v f' n' => f' = f ∧ n' = n ∧ (True)) := by
  intro d
  induction d with
  | zero =>
    intro v0 v1 v2 f hW h0 h1 h2  hm
    exfalso
    omega
  | succ d ih =>
    intro v0 v1 v2 f hW h0 h1 h2  hm
    show PO (if v1 ≤ v2 then rCk (rNb (0 : Int32)) (some ((0 : Int32), (f, n))) else rCk (isO f v0 1) (((mX1_areLike v0 v1 v2 f n).bind fun r3 => (if r3.1 = (0 : Int32) then mX1_hasLikeAhead_l2 d v0 v1 (v2 + (1 : Int32)) r3.2.1 r3.2.2 else rCk (rNb (1 : Int32)) (some ((1 : Int32), (r3.2.1, r3.2.2))))))) _
    refine po_le rfl rfl (fun q1 => ?_) (fun q1 => ?_)
    · refine po_ck rfl ?_
      exact po_ret ⟨rfl, rfl, trivial⟩
    · refine po_ck (wt_isO hW h0 (by decide)) ?_
      refine po_ro (tX1_areLike hW h0) (fun y2 ex2 p2 => ?_)
      dsimp only
      refine po_eq (fun q3 => ?_) (fun q3 => ?_)
      · have e4 : (v2 + (1 : Int32)).toInt = v2.toInt + 1 := i_add rfl kt_1 (by omega)
        exact (ih v0 v1 (v2 + (1 : Int32)) f hW h0 (by omega) (by omega)  (by omega))
      · refine po_ck rfl ?_
        exact po_ret ⟨rfl, rfl, trivial⟩
set_option maxHeartbeats 1000000 in
theorem tX1_hasLikeAhead {G : TE} {F0 : AH} {S : Int32} {f : AH} {n : Nat} {v0 : Nat} {v1 : Int32} (hW : WT G F0 S f n) (h0 : G.1 v0 = 1) (h1 : (0 ≤ v1.toInt ∧ v1.toInt ≤ 2000)) : PO (mX1_hasLikeAhead v0 v1 f n) (fun v f' n' => f' = f ∧ n' = n ∧ (True)) := by
  have k_kt_0 := kt_0
  unfold mX1_hasLikeAhead
  exact (tX1_hasLikeAhead_l2 rFU v0 v1 (0 : Int32) f hW h0 (by omega) (by omega)  (by unfold rFU; omega))
set_option maxHeartbeats 1000000 in
theorem tX1_unlikeCount_l4 {G : TE} {F0 : AH} {S : Int32} {n : Nat} : ∀ (d : Nat) (v0 : Nat) (v1 : Int32) (v2 : Int32) (f : AH), WT G F0 S f n → G.1 v0 = 1 → (0 ≤ v2.toInt ∧ v2.toInt ≤ 2000) → 3000 - v2.toInt < (d : Int) → PO (mX1_unlikeCount_l4 d v0 v1 v2 f n) (fun v f' n' => f' = f ∧ n' = n ∧ (True)) := by
  intro d
  induction d with
  | zero =>
    intro v0 v1 v2 f hW h0 h1  hm
    exfalso
    omega
  | succ d ih =>
    intro v0 v1 v2 f hW h0 h1  hm
    show PO ((gI f v0 1 3).bind fun x1 => (if x1 ≤ v2 then some (v1, (f, n)) else rCk (isO f v0 1) (((mX1_hasLikeAhead v0 v2 f n).bind fun r3 => (if r3.1 = (0 : Int32) then mX1_unlikeCount_b23 (fun v0 v1 v2 f n => mX1_unlikeCount_l4 d v0 v1 v2 f n) v0 (v1 + (1 : Int32)) v2 r3.2.1 r3.2.2 else mX1_unlikeCount_b23 (fun v0 v1 v2 f n => mX1_unlikeCount_l4 d v0 v1 v2 f n) v0 v1 v2 r3.2.1 r3.2.2))))) _
    refine po_gI hW h0 rfl rfl (by decide) (fun x1x ex1 (hx1 : 0 ≤ x1x.toInt ∧ x1x.toInt ≤ 40) => ?_)
    refine po_le rfl rfl (fun q2 => ?_) (fun q2 => ?_)
    · exact po_ret ⟨rfl, rfl, trivial⟩
    · refine po_ck (wt_isO hW h0 (by decide)) ?_
      refine po_ro (tX1_hasLikeAhead hW h0 (by omega)) (fun y3 ex3 p3 => ?_)
      dsimp only
      refine po_eq (fun q4 => ?_) (fun q4 => ?_)
      · have e5 : (v2 + (1 : Int32)).toInt = v2.toInt + 1 := i_add rfl kt_1 (by omega)
        exact (ih v0 (v1 + (1 : Int32)) (v2 + (1 : Int32)) f hW h0 (by omega)  (by omega))
      · have e6 : (v2 + (1 : Int32)).toInt = v2.toInt + 1 := i_add rfl kt_1 (by omega)
        exact (ih v0 v1 (v2 + (1 : Int32)) f hW h0 (by omega)  (by omega))
set_option maxHeartbeats 1000000 in
theorem tX1_unlikeCount {G : TE} {F0 : AH} {S : Int32} {f : AH} {n : Nat} {v0 : Nat} (hW : WT G F0 S f n) (h0 : G.1 v0 = 1) : PO (mX1_unlikeCount v0 f n) (fun v f' n' => f' = f ∧ n' = n ∧ (True)) := by
  have k_kt_0 := kt_0
  unfold mX1_unlikeCount
  exact (tX1_unlikeCount_l4 rFU v0 (0 : Int32) (0 : Int32) f hW h0 (by omega)  (by unfold rFU; omega))
set_option maxHeartbeats 1000000 in
theorem tX5_countWords_l8 {G : TE} {F0 : AH} {S : Int32} {n : Nat} : ∀ (d : Nat) (v0 : Nat) (v1 : Int32) (v2 : Int32) (v3 : Int32) (v4 : Int32) (v5 : Int32) (f : AH), WT G F0 S f n → G.1 v0 = 5 → (0 ≤ v1.toInt ∧ v1.toInt ≤ 600) → ((-700) ≤ v2.toInt ∧ v2.toInt ≤ 700) → (0 ≤ v5.toInt ∧ v5.toInt ≤ 2000) → v1.toInt + v2.toInt - v5.toInt + 4000 < (d : Int) → PO (mX5_countWords_l8 d v0 v1 v2 v3 v4 v5 f n) (fun v f' n' => f' = f ∧ n' = n ∧ (True)) := by
  intro d
  induction d with
  | zero =>
    intro v0 v1 v2 v3 v4 v5 f hW h0 h1 h2 h3  hm
    exfalso
    omega
  | succ d ih =>
    intro v0 v1 v2 v3 v4 v5 f hW h0 h1 h2 h3  hm
    show PO (if (v1 + v2) ≤ v5 then some (v3, (f, n)) else rCk (isO f v0 5) (((mX5_get v0 v5 f n).bind fun r2 => ((mX8_isLetter r2.1 r2.2.1 r2.2.2).bind fun r4 => (if r4.1 = (0 : Int32) then mX5_countWords_b40 (fun v0 v1 v2 v3 v4 v5 f n => mX5_countWords_l8 d v0 v1 v2 v3 v4 v5 f n) v0 v1 v2 v3 v5 r4.1 r4.2.1 r4.2.2 else (if v4 = (0 : Int32) then mX5_countWords_b40 (fun v0 v1 v2 v3 v4 v5 f n => mX5_countWords_l8 d v0 v1 v2 v3 v4 v5 f n) v0 v1 v2 (v3 + (1 : Int32)) v5 r4.1 r4.2.1 r4.2.2 else mX5_countWords_b40 (fun v0 v1 v2 v3 v4 v5 f n => mX5_countWords_l8 d v0 v1 v2 v3 v4 v5 f n) v0 v1 v2 v3 v5 r4.1 r4.2.1 r4.2.2)))))) _
    have e2 : (v1 + v2).toInt = v1.toInt + v2.toInt := i_add rfl rfl (by omega)
    refine po_le rfl rfl (fun q1 => ?_) (fun q1 => ?_)
    · exact po_ret ⟨rfl, rfl, trivial⟩
    · refine po_ck (wt_isO hW h0 (by decide)) ?_
      refine po_ro (tX5_get hW h0) (fun y3 ex3 p3 => ?_)
      dsimp only
      refine po_ro (tX8_isLetter hW ) (fun y4 ex4 p4 => ?_)
      dsimp only
      refine po_eq (fun q5 => ?_) (fun q5 => ?_)
      · have e6 : (v5 + (1 : Int32)).toInt = v5.toInt + 1 := i_add rfl kt_1 (by omega)
        exact (ih v0 v1 v2 v3 y4 (v5 + (1 : Int32)) f hW h0 (by omega) (by omega) (by omega)  (by omega))
      · refine po_eq (fun q7 => ?_) (fun q7 => ?_)
        · have e8 : (v5 + (1 : Int32)).toInt = v5.toInt + 1 := i_add rfl kt_1 (by omega)
          exact (ih v0 v1 v2 (v3 + (1 : Int32)) y4 (v5 + (1 : Int32)) f hW h0 (by omega) (by omega) (by omega)  (by omega))
        · have e9 : (v5 + (1 : Int32)).toInt = v5.toInt + 1 := i_add rfl kt_1 (by omega)
          exact (ih v0 v1 v2 v3 y4 (v5 + (1 : Int32)) f hW h0 (by omega) (by omega) (by omega)  (by omega))
set_option maxHeartbeats 1000000 in
theorem tX5_countWords {G : TE} {F0 : AH} {S : Int32} {f : AH} {n : Nat} {v0 : Nat} {v1 : Int32} {v2 : Int32} (hW : WT G F0 S f n) (h0 : G.1 v0 = 5) (h1 : (0 ≤ v1.toInt ∧ v1.toInt ≤ 600)) (h2 : ((-700) ≤ v2.toInt ∧ v2.toInt ≤ 700)) : PO (mX5_countWords v0 v1 v2 f n) (fun v f' n' => f' = f ∧ n' = n ∧ (True)) := by
  unfold mX5_countWords
  exact (tX5_countWords_l8 rFU v0 v1 v2 (0 : Int32) (0 : Int32) v1 f hW h0 (by omega) (by omega) (by omega)  (by unfold rFU; omega))
set_option maxHeartbeats 1000000 in
theorem tX8_countWords {G : TE} {F0 : AH} {S : Int32} {f : AH} {n : Nat} {v0 : Nat} {v1 : Int32} {v2 : Option Nat} (hW : WT G F0 S f n) (h0 : G.1 v0 = 8) (h1 : (∃ i, v2 = some i ∧ G.1 i = 3)) : PO (mX8_countWords v0 v1 v2 f n) (fun v f' n' => f' = f ∧ n' = n ∧ (True)) := by
  obtain ⟨iv2, rfl, h1⟩ := h1
  have k_kt_0 := kt_0
  unfold mX8_countWords
  refine po_gRn (t := 7) hW h0 rfl rfl (by decide) (fun i1 ex1 hi1 => ?_)
  refine po_some ?_
  refine po_ck (wt_isO hW hi1 (by decide)) ?_
  refine po_ro (tX7_toldFor hW hi1) (fun y2 ex2 p2 => ?_)
  dsimp only
  refine po_some ?_
  refine po_oN (fun q4 => ?_) (fun i3 q4 => ?_)
  · subst q4
    refine po_gRn (t := 1) hW h0 rfl rfl (by decide) (fun i5 ex5 hi5 => ?_)
    refine po_some ?_
    refine po_gRm hW hi5 rfl rfl (fun i6 ex6 hi6 hm6 => ?_)
    refine po_some ?_
    refine po_gI hW h1 rfl rfl (by decide) (fun x7x ex7 (hx7 : 0 ≤ x7x.toInt ∧ x7x.toInt ≤ 600) => ?_)
    refine po_gI hW h1 rfl rfl (by decide) (fun x8x ex8 (hx8 : (-700) ≤ x8x.toInt ∧ x8x.toInt ≤ 700) => ?_)
    refine po_some ?_
    refine po_ck (wt_isO hW hi6 (by decide)) ?_
    refine po_ro (tX5_countWords hW hi6 (by omega) (by omega)) (fun y9 ex9 p9 => ?_)
    dsimp only
    exact po_ret ⟨rfl, rfl, trivial⟩
  · subst q4
    refine po_ck (wt_isO hW (p2 i3 rfl) (by decide)) ?_
    refine po_ro (tX5_size hW (p2 i3 rfl)) (fun y10 ex10 p10 => ?_)
    dsimp only
    refine po_ck (wt_isO hW (p2 i3 rfl) (by decide)) ?_
    refine po_ro (tX5_countWords hW (p2 i3 rfl) (by omega) (by omega)) (fun y11 ex11 p11 => ?_)
    dsimp only
    exact po_ret ⟨rfl, rfl, trivial⟩
set_option maxHeartbeats 1000000 in
theorem tX8_countAllWords_l4 {G : TE} {F0 : AH} {S : Int32} {n : Nat} : ∀ (d : Nat) (v0 : Nat) (v1 : Int32) (v2 : Int32) (f : AH), WT G F0 S f n → G.1 v0 = 8 → (0 ≤ v2.toInt ∧ v2.toInt ≤ 2000) → 3000 - v2.toInt < (d : Int) → PO (mX8_countAllWords_l4 d v0 v1 v2 f n) (fun v f' n' => f' = f ∧ n' = n ∧ (True)) := by
  intro d
  induction d with
  | zero =>
    intro v0 v1 v2 f hW h0 h1  hm
    exfalso
    omega
  | succ d ih =>
    intro v0 v1 v2 f hW h0 h1  hm
    show PO ((gR f v0 8 5).bind fun x1 => ((x1).bind fun j2 => rCk (isO f j2 1) (((mX1_size j2 f n).bind fun r4 => (if r4.1 ≤ v2 then some (v1, (r4.2.1, r4.2.2)) else ((gR r4.2.1 v0 8 5).bind fun x6 => ((x6).bind fun j7 => rCk (isO r4.2.1 j7 1) (((mX1_get j7 v2 r4.2.1 r4.2.2).bind fun r9 => ((some r9.1).bind fun x11 => (oN x11 (mX8_countAllWords_b37 (fun v0 v1 v2 f n => mX8_countAllWords_l4 d v0 v1 v2 f n) v0 v1 v2 r9.2.1 r9.2.2) (fun j12 => rCk (isO r9.2.1 v0 8) (((mX8_countWords v0 v2 (some j12) r9.2.1 r9.2.2).bind fun r14 => mX8_countAllWords_b37 (fun v0 v1 v2 f n => mX8_countAllWords_l4 d v0 v1 v2 f n) v0 (v1 + r14.1) v2 r14.2.1 r14.2.2)))))))))))))) _
    refine po_gRn (t := 1) hW h0 rfl rfl (by decide) (fun i1 ex1 hi1 => ?_)
    refine po_some ?_
    refine po_ck (wt_isO hW hi1 (by decide)) ?_
    refine po_ro (tX1_size hW hi1) (fun y2 ex2 p2 => ?_)
    dsimp only
    refine po_le rfl rfl (fun q3 => ?_) (fun q3 => ?_)
    · exact po_ret ⟨rfl, rfl, trivial⟩
    · refine po_bind ex1 ?_
      refine po_some ?_
      refine po_ck (wt_isO hW hi1 (by decide)) ?_
      refine po_ro (tX1_get hW hi1) (fun y4 ex4 p4 => ?_)
      dsimp only
      refine po_some ?_
      refine po_oN (fun q6 => ?_) (fun i5 q6 => ?_)
      · subst q6
        have e7 : (v2 + (1 : Int32)).toInt = v2.toInt + 1 := i_add rfl kt_1 (by omega)
        exact (ih v0 v1 (v2 + (1 : Int32)) f hW h0 (by omega)  (by omega))
      · subst q6
        refine po_ck (wt_isO hW h0 (by decide)) ?_
        refine po_ro (tX8_countWords hW h0 ⟨_, rfl, (p4 i5 rfl)⟩) (fun y8 ex8 p8 => ?_)
        dsimp only
        have e9 : (v2 + (1 : Int32)).toInt = v2.toInt + 1 := i_add rfl kt_1 (by omega)
        exact (ih v0 (v1 + y8) (v2 + (1 : Int32)) f hW h0 (by omega)  (by omega))
set_option maxHeartbeats 1000000 in
theorem tX8_countAllWords {G : TE} {F0 : AH} {S : Int32} {f : AH} {n : Nat} {v0 : Nat} (hW : WT G F0 S f n) (h0 : G.1 v0 = 8) : PO (mX8_countAllWords v0 f n) (fun v f' n' => f' = f ∧ n' = n ∧ (True)) := by
  have k_kt_0 := kt_0
  unfold mX8_countAllWords
  exact (tX8_countAllWords_l4 rFU v0 (0 : Int32) (0 : Int32) f hW h0 (by omega)  (by unfold rFU; omega))
set_option maxHeartbeats 1000000 in
theorem tX1_longestText_l4 {G : TE} {F0 : AH} {S : Int32} {n : Nat} : ∀ (d : Nat) (v0 : Nat) (v1 : Int32) (v2 : Int32) (f : AH), WT G F0 S f n → G.1 v0 = 1 → (0 ≤ v2.toInt ∧ v2.toInt ≤ 2000) → 3000 - v2.toInt < (d : Int) → PO (mX1_longestText_l4 d v0 v1 v2 f n) (fun v f' n' => f' = f ∧ n' = n ∧ (True)) := by
  intro d
  induction d with
  | zero =>
    intro v0 v1 v2 f hW h0 h1  hm
    exfalso
    omega
  | succ d ih =>
    intro v0 v1 v2 f hW h0 h1  hm
    show PO ((gI f v0 1 3).bind fun x1 => (if x1 ≤ v2 then some (v1, (f, n)) else rCk (isO f v0 1) (((mX1_get v0 v2 f n).bind fun r3 => ((some r3.1).bind fun x5 => (oN x5 (mX1_longestText_b34 (fun v0 v1 v2 f n => mX1_longestText_l4 d v0 v1 v2 f n) v0 v2 v1 r3.2.1 r3.2.2) (fun j6 => ((gI r3.2.1 j6 3 3).bind fun x7 => mX1_longestText_b34 (fun v0 v1 v2 f n => mX1_longestText_l4 d v0 v1 v2 f n) v0 v2 (jMax v1 x7) r3.2.1 r3.2.2)))))))) _
    refine po_gI hW h0 rfl rfl (by decide) (fun x1x ex1 (hx1 : 0 ≤ x1x.toInt ∧ x1x.toInt ≤ 40) => ?_)
    refine po_le rfl rfl (fun q2 => ?_) (fun q2 => ?_)
    · exact po_ret ⟨rfl, rfl, trivial⟩
    · refine po_ck (wt_isO hW h0 (by decide)) ?_
      refine po_ro (tX1_get hW h0) (fun y3 ex3 p3 => ?_)
      dsimp only
      refine po_some ?_
      refine po_oN (fun q5 => ?_) (fun i4 q5 => ?_)
      · subst q5
        have e6 : (v2 + (1 : Int32)).toInt = v2.toInt + 1 := i_add rfl kt_1 (by omega)
        exact (ih v0 v1 (v2 + (1 : Int32)) f hW h0 (by omega)  (by omega))
      · subst q5
        refine po_gI hW (p3 i4 rfl) rfl rfl (by decide) (fun x7x ex7 (hx7 : (-700) ≤ x7x.toInt ∧ x7x.toInt ≤ 700) => ?_)
        have e8 : (v2 + (1 : Int32)).toInt = v2.toInt + 1 := i_add rfl kt_1 (by omega)
        exact (ih v0 (jMax v1 x7x) (v2 + (1 : Int32)) f hW h0 (by omega)  (by omega))
set_option maxHeartbeats 1000000 in
theorem tX1_longestText {G : TE} {F0 : AH} {S : Int32} {f : AH} {n : Nat} {v0 : Nat} (hW : WT G F0 S f n) (h0 : G.1 v0 = 1) : PO (mX1_longestText v0 f n) (fun v f' n' => f' = f ∧ n' = n ∧ (True)) := by
  have k_kt_0 := kt_0
  unfold mX1_longestText
  exact (tX1_longestText_l4 rFU v0 (0 : Int32) (0 : Int32) f hW h0 (by omega)  (by unfold rFU; omega))
set_option maxHeartbeats 1000000 in
theorem tX8_count {G : TE} {F0 : AH} {S : Int32} {f : AH} {n : Nat} {v0 : Nat} {v1 : Int32} (hW : WT G F0 S f n) (h0 : G.1 v0 = 8) : PO (mX8_count v0 v1 f n) (fun v f' n' => f' = f ∧ n' = n ∧ (True)) := by
  unfold mX8_count
  refine po_eq (fun q1 => ?_) (fun q1 => ?_)
  · refine po_gRn (t := 7) hW h0 rfl rfl (by decide) (fun i2 ex2 hi2 => ?_)
    refine po_some ?_
    refine po_gRn (t := 5) hW hi2 rfl rfl (by decide) (fun i3 ex3 hi3 => ?_)
    refine po_some ?_
    refine po_ck (wt_isO hW hi3 (by decide)) ?_
    refine po_ro (tX5_size hW hi3) (fun y4 ex4 p4 => ?_)
    dsimp only
    exact po_ret ⟨rfl, rfl, trivial⟩
  · refine po_eq (fun q5 => ?_) (fun q5 => ?_)
    · refine po_gRn (t := 7) hW h0 rfl rfl (by decide) (fun i6 ex6 hi6 => ?_)
      refine po_some ?_
      refine po_gI hW hi6 rfl rfl (by decide) (fun x7x ex7 (_ : True) => ?_)
      exact po_ret ⟨rfl, rfl, trivial⟩
    · refine po_eq (fun q8 => ?_) (fun q8 => ?_)
      · refine po_gRn (t := 7) hW h0 rfl rfl (by decide) (fun i9 ex9 hi9 => ?_)
        refine po_some ?_
        refine po_gI hW hi9 rfl rfl (by decide) (fun x10x ex10 (_ : True) => ?_)
        exact po_ret ⟨rfl, rfl, trivial⟩
      · refine po_eq (fun q11 => ?_) (fun q11 => ?_)
        · refine po_gRn (t := 1) hW h0 rfl rfl (by decide) (fun i12 ex12 hi12 => ?_)
          refine po_some ?_
          refine po_ck (wt_isO hW hi12 (by decide)) ?_
          refine po_ro (tX1_size hW hi12) (fun y13 ex13 p13 => ?_)
          dsimp only
          exact po_ret ⟨rfl, rfl, trivial⟩
        · refine po_eq (fun q14 => ?_) (fun q14 => ?_)
          · refine po_gRn (t := 7) hW h0 rfl rfl (by decide) (fun i15 ex15 hi15 => ?_)
            refine po_some ?_
            refine po_ck (wt_isO hW hi15 (by decide)) ?_
            refine po_ro (tX7_toldCount hW hi15) (fun y16 ex16 p16 => ?_)
            dsimp only
            exact po_ret ⟨rfl, rfl, trivial⟩
          · refine po_eq (fun q17 => ?_) (fun q17 => ?_)
            · refine po_gRn (t := 0) hW h0 rfl rfl (by decide) (fun i18 ex18 hi18 => ?_)
              refine po_some ?_
              refine po_gRm hW hi18 rfl rfl (fun i19 ex19 hi19 hm19 => ?_)
              refine po_some ?_
              refine po_ck (wt_isO hW hi19 (by decide)) ?_
              refine po_ro (tX5_size hW hi19) (fun y20 ex20 p20 => ?_)
              dsimp only
              exact po_ret ⟨rfl, rfl, trivial⟩
            · refine po_eq (fun q21 => ?_) (fun q21 => ?_)
              · refine po_gRn (t := 7) hW h0 rfl rfl (by decide) (fun i22 ex22 hi22 => ?_)
                refine po_some ?_
                refine po_gRn (t := 5) hW hi22 rfl rfl (by decide) (fun i23 ex23 hi23 => ?_)
                refine po_some ?_
                refine po_ck (wt_isO hW hi23 (by decide)) ?_
                refine po_ro (tX5_size hW hi23) (fun y24 ex24 p24 => ?_)
                dsimp only
                refine po_gRn (t := 1) hW h0 rfl rfl (by decide) (fun i25 ex25 hi25 => ?_)
                refine po_some ?_
                refine po_ck (wt_isO hW hi25 (by decide)) ?_
                refine po_ro (tX1_bytesInPieces hW hi25) (fun y26 ex26 p26 => ?_)
                dsimp only
                exact po_ret ⟨rfl, rfl, trivial⟩
              · refine po_eq (fun q27 => ?_) (fun q27 => ?_)
                · refine po_gRn (t := 7) hW h0 rfl rfl (by decide) (fun i28 ex28 hi28 => ?_)
                  refine po_some ?_
                  refine po_gI hW hi28 rfl rfl (by decide) (fun x29x ex29 (hx29 : x29x = 0 ∨ x29x = 1) => ?_)
                  refine po_eq (fun q30 => ?_) (fun q30 => ?_)
                  · exact po_ret ⟨rfl, rfl, trivial⟩
                  · exact po_ret ⟨rfl, rfl, trivial⟩
                · refine po_eq (fun q31 => ?_) (fun q31 => ?_)
                  · refine po_gRn (t := 7) hW h0 rfl rfl (by decide) (fun i32 ex32 hi32 => ?_)
                    refine po_some ?_
                    refine po_gI hW hi32 rfl rfl (by decide) (fun x33x ex33 (_ : True) => ?_)
                    exact po_ret ⟨rfl, rfl, trivial⟩
                  · refine po_eq (fun q34 => ?_) (fun q34 => ?_)
                    · refine po_gRn (t := 7) hW h0 rfl rfl (by decide) (fun i35 ex35 hi35 => ?_)
                      refine po_some ?_
                      refine po_gI hW hi35 rfl rfl (by decide) (fun x36x ex36 (_ : True) => ?_)
                      exact po_ret ⟨rfl, rfl, trivial⟩
                    · refine po_eq (fun q37 => ?_) (fun q37 => ?_)
                      · refine po_gRn (t := 1) hW h0 rfl rfl (by decide) (fun i38 ex38 hi38 => ?_)
                        refine po_some ?_
                        refine po_ck (wt_isO hW hi38 (by decide)) ?_
                        refine po_ro (tX1_unlikeCount hW hi38) (fun y39 ex39 p39 => ?_)
                        dsimp only
                        exact po_ret ⟨rfl, rfl, trivial⟩
                      · refine po_eq (fun q40 => ?_) (fun q40 => ?_)
                        · refine po_ck (wt_isO hW h0 (by decide)) ?_
                          refine po_ro (tX8_countAllWords hW h0) (fun y41 ex41 p41 => ?_)
                          dsimp only
                          exact po_ret ⟨rfl, rfl, trivial⟩
                        · refine po_eq (fun q42 => ?_) (fun q42 => ?_)
                          · refine po_gRn (t := 7) hW h0 rfl rfl (by decide) (fun i43 ex43 hi43 => ?_)
                            refine po_some ?_
                            refine po_gI hW hi43 rfl rfl (by decide) (fun x44x ex44 (hx44 : 0 ≤ x44x.toInt ∧ x44x.toInt ≤ 12) => ?_)
                            exact po_ret ⟨rfl, rfl, trivial⟩
                          · refine po_eq (fun q45 => ?_) (fun q45 => ?_)
                            · refine po_gRn (t := 1) hW h0 rfl rfl (by decide) (fun i46 ex46 hi46 => ?_)
                              refine po_some ?_
                              refine po_ck (wt_isO hW hi46 (by decide)) ?_
                              refine po_ro (tX1_longestText hW hi46) (fun y47 ex47 p47 => ?_)
                              dsimp only
                              exact po_ret ⟨rfl, rfl, trivial⟩
                            · refine po_eq (fun q48 => ?_) (fun q48 => ?_)
                              · refine po_gI hW h0 rfl rfl (by decide) (fun x49x ex49 (_ : True) => ?_)
                                exact po_ret ⟨rfl, rfl, trivial⟩
                              · exact po_ret ⟨rfl, rfl, trivial⟩
set_option maxHeartbeats 1000000 in
theorem tX4_start {G : TE} {F0 : AH} {S : Int32} {f : AH} {n : Nat} {v0 : Nat} {v1 : Option Nat} (hW : WT G F0 S f n) (h0 : G.1 v0 = 4) (h1 : (∃ i, v1 = some i ∧ G.1 i = 5)) : PO (mX4_start v0 v1 f n) (fun v f' n' => n' = n ∧ WT G F0 S f' n ∧ (True)) := by
  obtain ⟨iv1, rfl, h1⟩ := h1
  have k_kt_0 := kt_0
  unfold mX4_start
  refine po_pO hW h0 rfl rfl (vv_n (t := 5) (by decide) h1) (fun g1 hW1 => ?_)
  refine po_gRn (t := 5) hW1 h0 rfl rfl (by decide) (fun i2 ex2 hi2 => ?_)
  refine po_bind ex2 ?_
  refine po_some ?_
  refine po_ck (wt_isO hW1 hi2 (by decide)) ?_
  refine po_ro (tX5_size hW1 hi2) (fun y3 ex3 p3 => ?_)
  dsimp only
  refine po_some ?_
  refine po_ck (wt_isO hW1 hi2 (by decide)) ?_
  refine po_ro (tX5_behindBlanks hW1 hi2 (by omega) (by omega)) (fun y4 ex4 p4 => ?_)
  dsimp only
  refine po_pI hW1 h0 rfl rfl (vv_i (by decide) (vi8 (by omega))) (fun g5 hW5 ex5 => ?_)
  refine po_bind ex5 ?_
  refine po_gRn (t := 5) hW5 h0 rfl rfl (by decide) (fun i6 ex6 hi6 => ?_)
  refine po_some ?_
  refine po_ck (wt_isO hW5 hi6 (by decide)) ?_
  refine po_ro (tX5_size hW5 hi6) (fun y7 ex7 p7 => ?_)
  dsimp only
  refine po_le rfl rfl (fun q8 => ?_) (fun q8 => ?_)
  · refine po_ck (nb_of (Or.inl rfl)) ?_
    refine po_pI hW5 h0 rfl rfl (vv_i (by decide) (Or.inl rfl)) (fun g9 hW9 ex9 => ?_)
    exact po_ret ⟨rfl, hW9, trivial⟩
  · refine po_ck (nb_of (Or.inr rfl)) ?_
    refine po_pI hW5 h0 rfl rfl (vv_i (by decide) (Or.inr rfl)) (fun g10 hW10 ex10 => ?_)
    exact po_ret ⟨rfl, hW10, trivial⟩
set_option maxHeartbeats 1000000 in
theorem tX4_lettersEnd_l5 {G : TE} {F0 : AH} {S : Int32} {n : Nat} : ∀ (d : Nat) (v0 : Nat) (v1 : Int32) (f : AH), WT G F0 S f n → G.1 v0 = 4 → (0 ≤ v1.toInt ∧ v1.toInt ≤ 2000) → 3000 - v1.toInt < (d : Int) → PO (mX4_lettersEnd_l5 d v0 v1 f n) (fun v f' n' => f' = f ∧ n' = n ∧ (0 ≤ v.toInt ∧ v.toInt ≤ 600)) := by
  intro d
  induction d with
  | zero =>
    intro v0 v1 f hW h0 h1  hm
    exfalso
    omega
  | succ d ih =>
    intro v0 v1 f hW h0 h1  hm
    show PO ((gR f v0 4 7).bind fun x1 => ((x1).bind fun j2 => rCk (isO f j2 5) (((mX5_size j2 f n).bind fun r4 => (if r4.1 ≤ v1 then ((gR r4.2.1 v0 4 7).bind fun x6 => ((x6).bind fun j7 => rCk (isO r4.2.1 j7 5) (((mX5_size j7 r4.2.1 r4.2.2).bind fun r9 => some (r9.1, (r9.2.1, r9.2.2)))))) else ((gR r4.2.1 v0 4 7).bind fun x11 => ((x11).bind fun j12 => rCk (isO r4.2.1 j12 5) (((mX5_get j12 v1 r4.2.1 r4.2.2).bind fun r14 => (if r14.1 < (97 : Int32) then mX4_lettersEnd_b42 v1 r14.2.1 r14.2.2 else ((gR r14.2.1 v0 4 7).bind fun x16 => ((x16).bind fun j17 => rCk (isO r14.2.1 j17 5) (((mX5_get j17 v1 r14.2.1 r14.2.2).bind fun r19 => (if r19.1 ≤ (122 : Int32) then mX4_lettersEnd_l5 d v0 (v1 + (1 : Int32)) r19.2.1 r19.2.2 else mX4_lettersEnd_b42 v1 r19.2.1 r19.2.2))))))))))))))) _
    refine po_gRn (t := 5) hW h0 rfl rfl (by decide) (fun i1 ex1 hi1 => ?_)
    refine po_some ?_
    refine po_ck (wt_isO hW hi1 (by decide)) ?_
    refine po_ro (tX5_size hW hi1) (fun y2 ex2 p2 => ?_)
    dsimp only
    refine po_le rfl rfl (fun q3 => ?_) (fun q3 => ?_)
    · refine po_bind ex1 ?_
      refine po_some ?_
      refine po_ck (wt_isO hW hi1 (by decide)) ?_
      refine po_bind ex2 ?_
      dsimp only
      exact po_ret ⟨rfl, rfl, (by omega)⟩
    · refine po_bind ex1 ?_
      refine po_some ?_
      refine po_ck (wt_isO hW hi1 (by decide)) ?_
      refine po_ro (tX5_get hW hi1) (fun y4 ex4 p4 => ?_)
      dsimp only
      refine po_lt rfl kt_97 (fun q5 => ?_) (fun q5 => ?_)
      · exact po_ret ⟨rfl, rfl, (by omega)⟩
      · refine po_bind ex1 ?_
        refine po_some ?_
        refine po_ck (wt_isO hW hi1 (by decide)) ?_
        refine po_bind ex4 ?_
        dsimp only
        refine po_le rfl kt_122 (fun q6 => ?_) (fun q6 => ?_)
        · have e7 : (v1 + (1 : Int32)).toInt = v1.toInt + 1 := i_add rfl kt_1 (by omega)
          exact (ih v0 (v1 + (1 : Int32)) f hW h0 (by omega)  (by omega))
        · exact po_ret ⟨rfl, rfl, (by omega)⟩
set_option maxHeartbeats 1000000 in
theorem tX4_lettersEnd {G : TE} {F0 : AH} {S : Int32} {f : AH} {n : Nat} {v0 : Nat} (hW : WT G F0 S f n) (h0 : G.1 v0 = 4) : PO (mX4_lettersEnd v0 f n) (fun v f' n' => f' = f ∧ n' = n ∧ (0 ≤ v.toInt ∧ v.toInt ≤ 600)) := by
  unfold mX4_lettersEnd
  refine po_gI hW h0 rfl rfl (by decide) (fun x1x ex1 (hx1 : 0 ≤ x1x.toInt ∧ x1x.toInt ≤ 2000) => ?_)
  exact (tX4_lettersEnd_l5 rFU v0 x1x f hW h0 (by omega)  (by unfold rFU; omega))
set_option maxHeartbeats 1000000 in
theorem tX4_nameOf {G : TE} {F0 : AH} {S : Int32} {f : AH} {n : Nat} {v0 : Int32} (hW : WT G F0 S f n)  : PO (mX4_nameOf v0 f n) (fun v f' n' => f' = f ∧ n' = n ∧ (v < 12)) := by
  unfold mX4_nameOf
  refine po_eq (fun q1 => ?_) (fun q1 => ?_)
  · exact po_ret ⟨rfl, rfl, (by decide)⟩
  · refine po_eq (fun q2 => ?_) (fun q2 => ?_)
    · exact po_ret ⟨rfl, rfl, (by decide)⟩
    · refine po_eq (fun q3 => ?_) (fun q3 => ?_)
      · exact po_ret ⟨rfl, rfl, (by decide)⟩
      · refine po_eq (fun q4 => ?_) (fun q4 => ?_)
        · exact po_ret ⟨rfl, rfl, (by decide)⟩
        · refine po_eq (fun q5 => ?_) (fun q5 => ?_)
          · exact po_ret ⟨rfl, rfl, (by decide)⟩
          · refine po_eq (fun q6 => ?_) (fun q6 => ?_)
            · exact po_ret ⟨rfl, rfl, (by decide)⟩
            · refine po_eq (fun q7 => ?_) (fun q7 => ?_)
              · exact po_ret ⟨rfl, rfl, (by decide)⟩
              · refine po_eq (fun q8 => ?_) (fun q8 => ?_)
                · exact po_ret ⟨rfl, rfl, (by decide)⟩
                · refine po_eq (fun q9 => ?_) (fun q9 => ?_)
                  · exact po_ret ⟨rfl, rfl, (by decide)⟩
                  · refine po_eq (fun q10 => ?_) (fun q10 => ?_)
                    · exact po_ret ⟨rfl, rfl, (by decide)⟩
                    · refine po_eq (fun q11 => ?_) (fun q11 => ?_)
                      · exact po_ret ⟨rfl, rfl, (by decide)⟩
                      · exact po_ret ⟨rfl, rfl, (by decide)⟩
set_option maxHeartbeats 1000000 in
theorem tX5_isText_l13 {G : TE} {F0 : AH} {S : Int32} {n : Nat} : ∀ (d : Nat) (v0 : Nat) (v1 : Int32) (v2 : Int32) (v3 : Nat) (v4 : Int32) (f : AH), WT G F0 S f n → G.1 v0 = 5 → v3 < 12 → (0 ≤ v4.toInt ∧ v4.toInt ≤ 2000) → 3000 - v4.toInt < (d : Int) → PO (mX5_isText_l13 d v0 v1 v2 v3 v4 f n) (fun v f' n' => f' = f ∧ n' = n ∧ (v = 0 ∨ v = 1)) := by
  intro d
  induction d with
  | zero =>
    intro v0 v1 v2 v3 v4 f hW h0 h1 h2  hm
    exfalso
    omega
  | succ d ih =>
    intro v0 v1 v2 v3 v4 f hW h0 h1 h2  hm
    have hst := st4_b h1
    show PO (if v2 ≤ v4 then mX5_isText_b53 f n else (if (st4L v3) ≤ v4 then mX5_isText_b53 f n else rCk (isO f v0 5) (((mX5_get v0 (v1 + v4) f n).bind fun r2 => rCk (rIn v4 (sL4.getD v3 0)) ((if r2.1 = (st4C v3 v4) then mX5_isText_l13 d v0 v1 v2 v3 (v4 + (1 : Int32)) r2.2.1 r2.2.2 else rCk (rNb (0 : Int32)) (some ((0 : Int32), (r2.2.1, r2.2.2))))))))) _
    refine po_le rfl rfl (fun q1 => ?_) (fun q1 => ?_)
    · refine po_ck rfl ?_
      exact po_ret ⟨rfl, rfl, (Or.inr rfl)⟩
    · refine po_le rfl rfl (fun q2 => ?_) (fun q2 => ?_)
      · refine po_ck rfl ?_
        exact po_ret ⟨rfl, rfl, (Or.inr rfl)⟩
      · refine po_ck (wt_isO hW h0 (by decide)) ?_
        refine po_ro (tX5_get hW h0) (fun y3 ex3 p3 => ?_)
        dsimp only
        refine po_ck (in_st4 h1 (by omega)) ?_
        refine po_eq (fun q4 => ?_) (fun q4 => ?_)
        · have e5 : (v4 + (1 : Int32)).toInt = v4.toInt + 1 := i_add rfl kt_1 (by omega)
          exact (ih v0 v1 v2 v3 (v4 + (1 : Int32)) f hW h0 h1 (by omega)  (by omega))
        · refine po_ck rfl ?_
          exact po_ret ⟨rfl, rfl, (Or.inl rfl)⟩
set_option maxHeartbeats 1000000 in
theorem tX5_isText {G : TE} {F0 : AH} {S : Int32} {f : AH} {n : Nat} {v0 : Nat} {v1 : Int32} {v2 : Int32} {v3 : Nat} (hW : WT G F0 S f n) (h0 : G.1 v0 = 5) (h1 : v3 < 12) : PO (mX5_isText v0 v1 v2 v3 f n) (fun v f' n' => f' = f ∧ n' = n ∧ (v = 0 ∨ v = 1)) := by
  have k_kt_0 := kt_0
  unfold mX5_isText
  refine po_eq (fun q1 => ?_) (fun q1 => ?_)
  · exact (tX5_isText_l13 rFU v0 v1 v2 v3 (0 : Int32) f hW h0 h1 (by omega)  (by unfold rFU; omega))
  · refine po_ck rfl ?_
    exact po_ret ⟨rfl, rfl, (Or.inl rfl)⟩
set_option maxHeartbeats 1000000 in
theorem tX4_actNamed_l2 {G : TE} {F0 : AH} {S : Int32} {n : Nat} : ∀ (d : Nat) (v0 : Nat) (v1 : Int32) (v2 : Int32) (v3 : Int32) (f : AH), WT G F0 S f n → G.1 v0 = 4 → (0 ≤ v3.toInt ∧ v3.toInt ≤ 2000) → 3000 - v3.toInt < (d : Int) → PO (mX4_actNamed_l2 d v0 v1 v2 v3 f n) (fun v f' n' => f' = f ∧ n' = n ∧ (True)) := by
  intro d
  induction d with
  | zero =>
    intro v0 v1 v2 v3 f hW h0 h1  hm
    exfalso
    omega
  | succ d ih =>
    intro v0 v1 v2 v3 f hW h0 h1  hm
    show PO (if (11 : Int32) < v3 then some ((-1 : Int32), (f, n)) else ((gR f v0 4 7).bind fun x1 => ((mX4_nameOf v3 f n).bind fun r2 => ((x1).bind fun j3 => rCk (decide (r2.1 < 12)) (rCk (isO r2.2.1 j3 5) (((mX5_isText j3 v1 v2 r2.1 r2.2.1 r2.2.2).bind fun r6 => (if r6.1 = (0 : Int32) then mX4_actNamed_l2 d v0 v1 v2 (v3 + (1 : Int32)) r6.2.1 r6.2.2 else some (v3, (r6.2.1, r6.2.2)))))))))) _
    refine po_lt kt_11 rfl (fun q1 => ?_) (fun q1 => ?_)
    · exact po_ret ⟨rfl, rfl, trivial⟩
    · refine po_gRn (t := 5) hW h0 rfl rfl (by decide) (fun i2 ex2 hi2 => ?_)
      refine po_ro (tX4_nameOf hW ) (fun y3 ex3 p3 => ?_)
      dsimp only
      refine po_some ?_
      refine po_ck (decide_eq_true p3) ?_
      refine po_ck (wt_isO hW hi2 (by decide)) ?_
      refine po_ro (tX5_isText hW hi2 p3) (fun y4 ex4 p4 => ?_)
      dsimp only
      refine po_eq (fun q5 => ?_) (fun q5 => ?_)
      · have e6 : (v3 + (1 : Int32)).toInt = v3.toInt + 1 := i_add rfl kt_1 (by omega)
        exact (ih v0 v1 v2 (v3 + (1 : Int32)) f hW h0 (by omega)  (by omega))
      · exact po_ret ⟨rfl, rfl, trivial⟩
set_option maxHeartbeats 1000000 in
theorem tX4_actNamed {G : TE} {F0 : AH} {S : Int32} {f : AH} {n : Nat} {v0 : Nat} {v1 : Int32} {v2 : Int32} (hW : WT G F0 S f n) (h0 : G.1 v0 = 4) : PO (mX4_actNamed v0 v1 v2 f n) (fun v f' n' => f' = f ∧ n' = n ∧ (True)) := by
  have k_kt_0 := kt_0
  unfold mX4_actNamed
  exact (tX4_actNamed_l2 rFU v0 v1 v2 (0 : Int32) f hW h0 (by omega)  (by unfold rFU; omega))
set_option maxHeartbeats 1000000 in
theorem tX4_readNumber_l30 {G : TE} {F0 : AH} {S : Int32} {n : Nat} : ∀ (d : Nat) (v0 : Nat) (v1 : Int32) (v2 : Int32) (v3 : Int32) (v4 : Int32) (v5 : Int32) (f : AH), WT G F0 S f n → G.1 v0 = 4 → (0 ≤ v3.toInt ∧ v3.toInt ≤ 700) → (0 ≤ v4.toInt ∧ v4.toInt ≤ 1000) → (0 ≤ v5.toInt ∧ v5.toInt ≤ 2000) → v4.toInt + v3.toInt = v5.toInt → 3000 - v5.toInt < (d : Int) → PO (mX4_readNumber_l30 d v0 v1 v2 v3 v4 v5 f n) (fun v f' n' => n' = n ∧ WT G F0 S f' n ∧ (True)) := by
  intro d
  induction d with
  | zero =>
    intro v0 v1 v2 v3 v4 v5 f hW h0 h1 h2 h3 hx0 hm
    exfalso
    omega
  | succ d ih =>
    intro v0 v1 v2 v3 v4 v5 f hW h0 h1 h2 h3 hx0 hm
    show PO ((gR f v0 4 7).bind fun x1 => ((x1).bind fun j2 => rCk (isO f j2 5) (((mX5_size j2 f n).bind fun r4 => (if r4.1 ≤ v5 then mX4_readNumber_b116 v0 v1 v2 v3 v4 r4.2.1 r4.2.2 else ((gR r4.2.1 v0 4 7).bind fun x6 => ((x6).bind fun j7 => rCk (isO r4.2.1 j7 5) (((mX5_get j7 v5 r4.2.1 r4.2.2).bind fun r9 => (if r9.1 < (48 : Int32) then mX4_readNumber_b116 v0 v1 v2 v3 v4 r9.2.1 r9.2.2 else ((gR r9.2.1 v0 4 7).bind fun x11 => ((x11).bind fun j12 => rCk (isO r9.2.1 j12 5) (((mX5_get j12 v5 r9.2.1 r9.2.2).bind fun r14 => (if (57 : Int32) < r14.1 then mX4_readNumber_b116 v0 v1 v2 v3 v4 r14.2.1 r14.2.2 else (if (v4 + (1 : Int32)) ≤ (2 : Int32) then ((gI r14.2.1 v0 4 6).bind fun x16 => ((gR r14.2.1 v0 4 7).bind fun x17 => ((x17).bind fun j18 => rCk (isO r14.2.1 j18 5) (((mX5_get j18 v5 r14.2.1 r14.2.2).bind fun r20 => mX4_readNumber_b107 (fun v0 v1 v2 v3 v4 v5 f n => mX4_readNumber_l30 d v0 v1 v2 v3 v4 v5 f n) v0 v1 v2 v3 (v4 + (1 : Int32)) v5 v0 (((x16 * (10 : Int32)) + r20.1) - (48 : Int32)) r20.2.1 r20.2.2))))) else ((gI r14.2.1 v0 4 6).bind fun x22 => mX4_readNumber_b107 (fun v0 v1 v2 v3 v4 v5 f n => mX4_readNumber_l30 d v0 v1 v2 v3 v4 v5 f n) v0 v1 v2 v3 (v4 + (1 : Int32)) v5 v0 x22 r14.2.1 r14.2.2))))))))))))))))) _
    refine po_gRn (t := 5) hW h0 rfl rfl (by decide) (fun i1 ex1 hi1 => ?_)
    refine po_some ?_
    refine po_ck (wt_isO hW hi1 (by decide)) ?_
    refine po_ro (tX5_size hW hi1) (fun y2 ex2 p2 => ?_)
    dsimp only
    refine po_le rfl rfl (fun q3 => ?_) (fun q3 => ?_)
    · have e5 : (v3 + v4).toInt = v3.toInt + v4.toInt := i_add rfl rfl (by omega)
      refine po_pI hW h0 rfl rfl (vv_i (by decide) (vi8 (by omega))) (fun g4 hW4 ex4 => ?_)
      refine po_lt rfl kt_1 (fun q6 => ?_) (fun q6 => ?_)
      · exact po_ret ⟨rfl, hW4, trivial⟩
      · refine po_lt kt_2 rfl (fun q7 => ?_) (fun q7 => ?_)
        · exact po_ret ⟨rfl, hW4, trivial⟩
        · refine po_gI hW4 h0 rfl rfl (by decide) (fun x8x ex8 (_ : True) => ?_)
          refine po_lt rfl rfl (fun q9 => ?_) (fun q9 => ?_)
          · exact po_ret ⟨rfl, hW4, trivial⟩
          · refine po_bind ex8 ?_
            refine po_lt rfl rfl (fun q10 => ?_) (fun q10 => ?_)
            · exact po_ret ⟨rfl, hW4, trivial⟩
            · exact po_ret ⟨rfl, hW4, trivial⟩
    · refine po_bind ex1 ?_
      refine po_some ?_
      refine po_ck (wt_isO hW hi1 (by decide)) ?_
      refine po_ro (tX5_get hW hi1) (fun y11 ex11 p11 => ?_)
      dsimp only
      refine po_lt rfl kt_48 (fun q12 => ?_) (fun q12 => ?_)
      · have e14 : (v3 + v4).toInt = v3.toInt + v4.toInt := i_add rfl rfl (by omega)
        refine po_pI hW h0 rfl rfl (vv_i (by decide) (vi8 (by omega))) (fun g13 hW13 ex13 => ?_)
        refine po_lt rfl kt_1 (fun q15 => ?_) (fun q15 => ?_)
        · exact po_ret ⟨rfl, hW13, trivial⟩
        · refine po_lt kt_2 rfl (fun q16 => ?_) (fun q16 => ?_)
          · exact po_ret ⟨rfl, hW13, trivial⟩
          · refine po_gI hW13 h0 rfl rfl (by decide) (fun x17x ex17 (_ : True) => ?_)
            refine po_lt rfl rfl (fun q18 => ?_) (fun q18 => ?_)
            · exact po_ret ⟨rfl, hW13, trivial⟩
            · refine po_bind ex17 ?_
              refine po_lt rfl rfl (fun q19 => ?_) (fun q19 => ?_)
              · exact po_ret ⟨rfl, hW13, trivial⟩
              · exact po_ret ⟨rfl, hW13, trivial⟩
      · refine po_bind ex1 ?_
        refine po_some ?_
        refine po_ck (wt_isO hW hi1 (by decide)) ?_
        refine po_bind ex11 ?_
        dsimp only
        refine po_lt kt_57 rfl (fun q20 => ?_) (fun q20 => ?_)
        · have e22 : (v3 + v4).toInt = v3.toInt + v4.toInt := i_add rfl rfl (by omega)
          refine po_pI hW h0 rfl rfl (vv_i (by decide) (vi8 (by omega))) (fun g21 hW21 ex21 => ?_)
          refine po_lt rfl kt_1 (fun q23 => ?_) (fun q23 => ?_)
          · exact po_ret ⟨rfl, hW21, trivial⟩
          · refine po_lt kt_2 rfl (fun q24 => ?_) (fun q24 => ?_)
            · exact po_ret ⟨rfl, hW21, trivial⟩
            · refine po_gI hW21 h0 rfl rfl (by decide) (fun x25x ex25 (_ : True) => ?_)
              refine po_lt rfl rfl (fun q26 => ?_) (fun q26 => ?_)
              · exact po_ret ⟨rfl, hW21, trivial⟩
              · refine po_bind ex25 ?_
                refine po_lt rfl rfl (fun q27 => ?_) (fun q27 => ?_)
                · exact po_ret ⟨rfl, hW21, trivial⟩
                · exact po_ret ⟨rfl, hW21, trivial⟩
        · have e29 : (v4 + (1 : Int32)).toInt = v4.toInt + 1 := i_add rfl kt_1 (by omega)
          refine po_le rfl kt_2 (fun q28 => ?_) (fun q28 => ?_)
          · refine po_gI hW h0 rfl rfl (by decide) (fun x30x ex30 (_ : True) => ?_)
            refine po_bind ex1 ?_
            refine po_some ?_
            refine po_ck (wt_isO hW hi1 (by decide)) ?_
            refine po_bind ex11 ?_
            dsimp only
            refine po_pI hW h0 rfl rfl (vv_i (by decide) trivial) (fun g31 hW31 ex31 => ?_)
            have e32 : (v5 + (1 : Int32)).toInt = v5.toInt + 1 := i_add rfl kt_1 (by omega)
            exact (ih v0 v1 v2 v3 (v4 + (1 : Int32)) (v5 + (1 : Int32)) g31 hW31 h0 (by omega) (by omega) (by omega) (by omega) (by omega))
          · refine po_gI hW h0 rfl rfl (by decide) (fun x33x ex33 (_ : True) => ?_)
            refine po_pI hW h0 rfl rfl (vv_i (by decide) trivial) (fun g34 hW34 ex34 => ?_)
            have e35 : (v5 + (1 : Int32)).toInt = v5.toInt + 1 := i_add rfl kt_1 (by omega)
            exact (ih v0 v1 v2 v3 (v4 + (1 : Int32)) (v5 + (1 : Int32)) g34 hW34 h0 (by omega) (by omega) (by omega) (by omega) (by omega))
set_option maxHeartbeats 1000000 in
theorem tX4_readNumber {G : TE} {F0 : AH} {S : Int32} {f : AH} {n : Nat} {v0 : Nat} {v1 : Int32} {v2 : Int32} (hW : WT G F0 S f n) (h0 : G.1 v0 = 4) : PO (mX4_readNumber v0 v1 v2 f n) (fun v f' n' => n' = n ∧ WT G F0 S f' n ∧ (True)) := by
  have k_kt_0 := kt_0
  unfold mX4_readNumber
  refine po_gRn (t := 5) hW h0 rfl rfl (by decide) (fun i1 ex1 hi1 => ?_)
  refine po_gI hW h0 rfl rfl (by decide) (fun x2x ex2 (hx2 : 0 ≤ x2x.toInt ∧ x2x.toInt ≤ 2000) => ?_)
  refine po_bind ex1 ?_
  refine po_some ?_
  refine po_ck (wt_isO hW hi1 (by decide)) ?_
  refine po_ro (tX5_size hW hi1) (fun y3 ex3 p3 => ?_)
  dsimp only
  refine po_some ?_
  refine po_ck (wt_isO hW hi1 (by decide)) ?_
  refine po_ro (tX5_behindBlanks hW hi1 (by omega) (by omega)) (fun y4 ex4 p4 => ?_)
  dsimp only
  refine po_pI hW h0 rfl rfl (vv_i (by decide) trivial) (fun g5 hW5 ex5 => ?_)
  exact (tX4_readNumber_l30 rFU v0 v1 v2 y4 (0 : Int32) y4 g5 hW5 h0 (by omega) (by omega) (by omega) (by omega) (by unfold rFU; omega))
set_option maxHeartbeats 1000000 in
theorem tX4_readFirst {G : TE} {F0 : AH} {S : Int32} {f : AH} {n : Nat} {v0 : Nat} {v1 : Int32} {v2 : Int32} (hW : WT G F0 S f n) (h0 : G.1 v0 = 4) : PO (mX4_readFirst v0 v1 v2 f n) (fun v f' n' => n' = n ∧ WT G F0 S f' n ∧ (True)) := by
  unfold mX4_readFirst
  refine po_ck (wt_isO hW h0 (by decide)) ?_
  refine po_w (tX4_readNumber hW h0) (fun y1 g1 hW1 p1 => ?_)
  dsimp only
  refine po_gI hW1 h0 rfl rfl (by decide) (fun x2x ex2 (_ : True) => ?_)
  refine po_pI hW1 h0 rfl rfl (vv_i (by decide) trivial) (fun g3 hW3 ex3 => ?_)
  exact po_ret ⟨rfl, hW3, trivial⟩
set_option maxHeartbeats 1000000 in
theorem tX4_readSecond {G : TE} {F0 : AH} {S : Int32} {f : AH} {n : Nat} {v0 : Nat} (hW : WT G F0 S f n) (h0 : G.1 v0 = 4) : PO (mX4_readSecond v0 f n) (fun v f' n' => n' = n ∧ WT G F0 S f' n ∧ (True)) := by
  unfold mX4_readSecond
  refine po_ck (wt_isO hW h0 (by decide)) ?_
  refine po_w (tX4_readNumber hW h0) (fun y1 g1 hW1 p1 => ?_)
  dsimp only
  refine po_gI hW1 h0 rfl rfl (by decide) (fun x2x ex2 (_ : True) => ?_)
  refine po_pI hW1 h0 rfl rfl (vv_i (by decide) trivial) (fun g3 hW3 ex3 => ?_)
  exact po_ret ⟨rfl, hW3, trivial⟩
set_option maxHeartbeats 1000000 in
theorem tX4_readWord {G : TE} {F0 : AH} {S : Int32} {f : AH} {n : Nat} {v0 : Nat} (hW : WT G F0 S f n) (h0 : G.1 v0 = 4) : PO (mX4_readWord v0 f n) (fun v f' n' => ∃ G', EXT G G' ∧ WT G' F0 S f' n' ∧ (True)) := by
  unfold mX4_readWord
  refine po_gRn (t := 5) hW h0 rfl rfl (by decide) (fun i1 ex1 hi1 => ?_)
  refine po_gI hW h0 rfl rfl (by decide) (fun x2x ex2 (hx2 : 0 ≤ x2x.toInt ∧ x2x.toInt ≤ 2000) => ?_)
  refine po_bind ex1 ?_
  refine po_some ?_
  refine po_ck (wt_isO hW hi1 (by decide)) ?_
  refine po_ro (tX5_size hW hi1) (fun y3 ex3 p3 => ?_)
  dsimp only
  refine po_some ?_
  refine po_ck (wt_isO hW hi1 (by decide)) ?_
  refine po_ro (tX5_behindBlanks hW hi1 (by omega) (by omega)) (fun y4 ex4 p4 => ?_)
  dsimp only
  refine po_pI hW h0 rfl rfl (vv_i (by decide) (vi8 (by omega))) (fun g5 hW5 ex5 => ?_)
  refine po_ck (wt_isO hW5 h0 (by decide)) ?_
  refine po_ro (tX4_lettersEnd hW5 h0) (fun y6 ex6 p6 => ?_)
  dsimp only
  refine po_pI hW5 h0 rfl rfl (vv_i (by decide) (vi8 (by omega))) (fun g7 hW7 ex7 => ?_)
  refine po_bind ex7 ?_
  have e9 : (y6 - y4).toInt = y6.toInt - y4.toInt := i_sub rfl rfl (by omega)
  refine po_lt rfl kt_1 (fun q8 => ?_) (fun q8 => ?_)
  · exact po_ret ⟨_, EXT.rfl, hW7, trivial⟩
  · refine po_le rfl kt_8 (fun q10 => ?_) (fun q10 => ?_)
    · refine po_gRn (t := 5) hW7 h0 rfl rfl (by decide) (fun i11 ex11 hi11 => ?_)
      refine po_some ?_
      refine po_ck (wt_isO hW7 hi11 (by decide)) ?_
      refine po_a (tX5_part (B := 8) hW7 hi11 (by omega)) (fun y12 g12 n12 G12 xt12 hW12 p12 => ?_)
      dsimp only
      obtain ⟨i12, rfl, hi12⟩ := p12
      refine po_some ?_
      refine po_pO hW12 (xt12.ty h0 (by decide)) rfl rfl (vv_o (t := 5) (by decide) (fun _ hi => Option.some.inj hi ▸ hi12)) (fun g13 hW13 => ?_)
      exact po_ret ⟨_, xt12, hW13, trivial⟩
    · exact po_ret ⟨_, EXT.rfl, hW7, trivial⟩
set_option maxHeartbeats 1000000 in
theorem tX4_readAct {G : TE} {F0 : AH} {S : Int32} {f : AH} {n : Nat} {v0 : Nat} (hW : WT G F0 S f n) (h0 : G.1 v0 = 4) : PO (mX4_readAct v0 f n) (fun v f' n' => ∃ G', EXT G G' ∧ WT G' F0 S f' n' ∧ (True)) := by
  unfold mX4_readAct
  refine po_gI hW h0 rfl rfl (by decide) (fun x1x ex1 (hx1 : 0 ≤ x1x.toInt ∧ x1x.toInt ≤ 2000) => ?_)
  refine po_ck (wt_isO hW h0 (by decide)) ?_
  refine po_ro (tX4_lettersEnd hW h0) (fun y2 ex2 p2 => ?_)
  dsimp only
  refine po_pI hW h0 rfl rfl (vv_i (by decide) (vi8 (by omega))) (fun g3 hW3 ex3 => ?_)
  refine po_bind ex3 ?_
  refine po_ck (wt_isO hW3 h0 (by decide)) ?_
  have e4 : (y2 - x1x).toInt = y2.toInt - x1x.toInt := i_sub rfl rfl (by omega)
  refine po_ro (tX4_actNamed hW3 h0) (fun y5 ex5 p5 => ?_)
  dsimp only
  refine po_pI hW3 h0 rfl rfl (vv_i (by decide) trivial) (fun g6 hW6 ex6 => ?_)
  refine po_bind ex6 ?_
  refine po_eq (fun q7 => ?_) (fun q7 => ?_)
  · exact po_ret ⟨_, EXT.rfl, hW6, trivial⟩
  · refine po_eq (fun q8 => ?_) (fun q8 => ?_)
    · refine po_ck (wt_isO hW6 h0 (by decide)) ?_
      refine po_w (tX4_readFirst hW6 h0) (fun y9 g9 hW9 p9 => ?_)
      dsimp only
      exact po_ret ⟨_, EXT.rfl, hW9, trivial⟩
    · refine po_eq (fun q10 => ?_) (fun q10 => ?_)
      · refine po_ck (wt_isO hW6 h0 (by decide)) ?_
        refine po_w (tX4_readFirst hW6 h0) (fun y11 g11 hW11 p11 => ?_)
        dsimp only
        exact po_ret ⟨_, EXT.rfl, hW11, trivial⟩
      · refine po_eq (fun q12 => ?_) (fun q12 => ?_)
        · exact po_ret ⟨_, EXT.rfl, hW6, trivial⟩
        · refine po_eq (fun q13 => ?_) (fun q13 => ?_)
          · exact po_ret ⟨_, EXT.rfl, hW6, trivial⟩
          · refine po_eq (fun q14 => ?_) (fun q14 => ?_)
            · exact po_ret ⟨_, EXT.rfl, hW6, trivial⟩
            · refine po_eq (fun q15 => ?_) (fun q15 => ?_)
              · refine po_ck (wt_isO hW6 h0 (by decide)) ?_
                refine po_w (tX4_readFirst hW6 h0) (fun y16 g16 hW16 p16 => ?_)
                dsimp only
                exact po_ret ⟨_, EXT.rfl, hW16, trivial⟩
              · refine po_eq (fun q17 => ?_) (fun q17 => ?_)
                · refine po_ck (wt_isO hW6 h0 (by decide)) ?_
                  refine po_a (tX4_readWord hW6 h0) (fun y18 g18 n18 G18 xt18 hW18 p18 => ?_)
                  dsimp only
                  exact po_ret ⟨_, xt18, hW18, trivial⟩
                · refine po_eq (fun q19 => ?_) (fun q19 => ?_)
                  · exact po_ret ⟨_, EXT.rfl, hW6, trivial⟩
                  · refine po_eq (fun q20 => ?_) (fun q20 => ?_)
                    · refine po_ck (wt_isO hW6 h0 (by decide)) ?_
                      refine po_w (tX4_readFirst hW6 h0) (fun y21 g21 hW21 p21 => ?_)
                      dsimp only
                      exact po_ret ⟨_, EXT.rfl, hW21, trivial⟩
                    · refine po_eq (fun q22 => ?_) (fun q22 => ?_)
                      · refine po_ck (wt_isO hW6 h0 (by decide)) ?_
                        refine po_w (tX4_readFirst hW6 h0) (fun y23 g23 hW23 p23 => ?_)
                        dsimp only
                        exact po_ret ⟨_, EXT.rfl, hW23, trivial⟩
                      · refine po_eq (fun q24 => ?_) (fun q24 => ?_)
                        · refine po_ck (wt_isO hW6 h0 (by decide)) ?_
                          refine po_w (tX4_readFirst hW6 h0) (fun y25 g25 hW25 p25 => ?_)
                          dsimp only
                          refine po_eq (fun q26 => ?_) (fun q26 => ?_)
                          · refine po_ck (wt_isO hW25 h0 (by decide)) ?_
                            refine po_w (tX4_readSecond hW25 h0) (fun y27 g27 hW27 p27 => ?_)
                            dsimp only
                            exact po_ret ⟨_, EXT.rfl, hW27, trivial⟩
                          · exact po_ret ⟨_, EXT.rfl, hW25, trivial⟩
                        · exact po_ret ⟨_, EXT.rfl, hW6, trivial⟩
