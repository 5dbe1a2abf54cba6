set_option maxHeartbeats 1000000 in
theorem tX8_doAct {G : TE} {F0 : AH} {S : Int32} {f : AH} {n : Nat} {v0 : Nat} {v1 : Int32} {v2 : Int32} {v3 : Int32} {v4 : Option Nat} (hW : WT G F0 S f n) (h0 : G.1 v0 = 8) (h1 : (∀ i, v4 = some i → G.1 i = 5)) : PO (mX8_doAct v0 v1 v2 v3 v4 f n) (fun v f' n' => ∃ G', EXT G G' ∧ WT G' F0 S f' n' ∧ ((0 ≤ v1.toInt ∧ v1.toInt ≤ 5 ∨ v1.toInt = 7) → v = 0)) := by
  unfold mX8_doAct
  refine po_ck rfl ?_
  refine po_pI hW h0 rfl rfl (vv_i (by decide) (Or.inl rfl)) (fun g1 hW1 ex1 => ?_)
  refine po_eq (fun q2 => ?_) (fun q2 => ?_)
  · have z2 : v1.toInt = 0 := by rw [q2]; exact kt_0
    refine po_gRn (t := 7) hW1 h0 rfl rfl (by decide) (fun i3 ex3 hi3 => ?_)
    refine po_some ?_
    refine po_pI hW1 hi3 rfl rfl (vv_i (by decide) trivial) (fun g4 hW4 ex4 => ?_)
    refine po_ck (wt_isO hW4 h0 (by decide)) ?_
    refine po_w (tX8_cutAnew hW4 h0) (fun y5 g5 hW5 p5 => ?_)
    dsimp only
    exact po_ret ⟨_, EXT.rfl, hW5, (fun _ => p5)⟩
  · have z2 : v1.toInt ≠ 0 := fun h => q2 (Int32.toInt_inj.mp (h.trans kt_0.symm))
    refine po_eq (fun q6 => ?_) (fun q6 => ?_)
    · have z6 : v1.toInt = 1 := by rw [q6]; exact kt_1
      refine po_gRn (t := 7) hW1 h0 rfl rfl (by decide) (fun i7 ex7 hi7 => ?_)
      refine po_some ?_
      refine po_pI hW1 hi7 rfl rfl (vv_i (by decide) trivial) (fun g8 hW8 ex8 => ?_)
      refine po_ck (wt_isO hW8 h0 (by decide)) ?_
      refine po_w (tX8_cutAnew hW8 h0) (fun y9 g9 hW9 p9 => ?_)
      dsimp only
      exact po_ret ⟨_, EXT.rfl, hW9, (fun _ => p9)⟩
    · have z6 : v1.toInt ≠ 1 := fun h => q6 (Int32.toInt_inj.mp (h.trans kt_1.symm))
      refine po_eq (fun q10 => ?_) (fun q10 => ?_)
      · have z10 : v1.toInt = 2 := by rw [q10]; exact kt_2
        refine po_gRn (t := 7) hW1 h0 rfl rfl (by decide) (fun i11 ex11 hi11 => ?_)
        refine po_some ?_
        refine po_pI hW1 hi11 rfl rfl (vv_i (by decide) trivial) (fun g12 hW12 ex12 => ?_)
        refine po_ck (wt_isO hW12 h0 (by decide)) ?_
        refine po_w (tX8_cutAnew hW12 h0) (fun y13 g13 hW13 p13 => ?_)
        dsimp only
        exact po_ret ⟨_, EXT.rfl, hW13, (fun _ => p13)⟩
      · have z10 : v1.toInt ≠ 2 := fun h => q10 (Int32.toInt_inj.mp (h.trans kt_2.symm))
        refine po_eq (fun q14 => ?_) (fun q14 => ?_)
        · have z14 : v1.toInt = 3 := by rw [q14]; exact kt_3
          refine po_gRn (t := 7) hW1 h0 rfl rfl (by decide) (fun i15 ex15 hi15 => ?_)
          refine po_some ?_
          refine po_ck rfl ?_
          refine po_pI hW1 hi15 rfl rfl (vv_i (by decide) (Or.inr rfl)) (fun g16 hW16 ex16 => ?_)
          refine po_ck (wt_isO hW16 h0 (by decide)) ?_
          refine po_w (tX8_cutAnew hW16 h0) (fun y17 g17 hW17 p17 => ?_)
          dsimp only
          exact po_ret ⟨_, EXT.rfl, hW17, (fun _ => p17)⟩
        · have z14 : v1.toInt ≠ 3 := fun h => q14 (Int32.toInt_inj.mp (h.trans kt_3.symm))
          refine po_eq (fun q18 => ?_) (fun q18 => ?_)
          · have z18 : v1.toInt = 4 := by rw [q18]; exact kt_4
            refine po_gRn (t := 7) hW1 h0 rfl rfl (by decide) (fun i19 ex19 hi19 => ?_)
            refine po_some ?_
            refine po_ck rfl ?_
            refine po_pI hW1 hi19 rfl rfl (vv_i (by decide) (Or.inl rfl)) (fun g20 hW20 ex20 => ?_)
            refine po_ck (wt_isO hW20 h0 (by decide)) ?_
            refine po_w (tX8_cutAnew hW20 h0) (fun y21 g21 hW21 p21 => ?_)
            dsimp only
            exact po_ret ⟨_, EXT.rfl, hW21, (fun _ => p21)⟩
          · have z18 : v1.toInt ≠ 4 := fun h => q18 (Int32.toInt_inj.mp (h.trans kt_4.symm))
            refine po_eq (fun q22 => ?_) (fun q22 => ?_)
            · have z22 : v1.toInt = 5 := by rw [q22]; exact kt_5
              refine po_gRn (t := 7) hW1 h0 rfl rfl (by decide) (fun i23 ex23 hi23 => ?_)
              refine po_some ?_
              refine po_pI hW1 hi23 rfl rfl (vv_i (by decide) trivial) (fun g24 hW24 ex24 => ?_)
              refine po_ck (wt_isO hW24 h0 (by decide)) ?_
              refine po_w (tX8_cutAnew hW24 h0) (fun y25 g25 hW25 p25 => ?_)
              dsimp only
              exact po_ret ⟨_, EXT.rfl, hW25, (fun _ => p25)⟩
            · have z22 : v1.toInt ≠ 5 := fun h => q22 (Int32.toInt_inj.mp (h.trans kt_5.symm))
              refine po_eq (fun q26 => ?_) (fun q26 => ?_)
              · have z26 : v1.toInt = 6 := by rw [q26]; exact kt_6
                refine po_gRn (t := 7) hW1 h0 rfl rfl (by decide) (fun i27 ex27 hi27 => ?_)
                refine po_some ?_
                refine po_ck (wt_isO hW1 hi27 (by decide)) ?_
                refine po_w (tX7_addLock hW1 hi27 h1) (fun y28 g28 hW28 p28 => ?_)
                dsimp only
                refine po_eq (fun q29 => ?_) (fun q29 => ?_)
                · have z29 : y28.toInt = 0 := by rw [q29]; exact kt_0
                  refine po_ck (wt_isO hW28 h0 (by decide)) ?_
                  refine po_w (tX8_cutAnew hW28 h0) (fun y30 g30 hW30 p30 => ?_)
                  dsimp only
                  unfold mX8_doAct_b171
                  exact po_ret ⟨_, EXT.rfl, hW30, (fun _ => p30)⟩
                · have z29 : y28.toInt ≠ 0 := fun h => q29 (Int32.toInt_inj.mp (h.trans kt_0.symm))
                  unfold mX8_doAct_b171
                  exact po_ret ⟨_, EXT.rfl, hW28, (fun hh => by omega)⟩
              · have z26 : v1.toInt ≠ 6 := fun h => q26 (Int32.toInt_inj.mp (h.trans kt_6.symm))
                refine po_eq (fun q31 => ?_) (fun q31 => ?_)
                · have z31 : v1.toInt = 7 := by rw [q31]; exact kt_7
                  refine po_gRn (t := 7) hW1 h0 rfl rfl (by decide) (fun i32 ex32 hi32 => ?_)
                  refine po_some ?_
                  refine po_pI hW1 hi32 rfl rfl (vv_i (by decide) trivial) (fun g33 hW33 ex33 => ?_)
                  refine po_ck (wt_isO hW33 h0 (by decide)) ?_
                  refine po_w (tX8_cutAnew hW33 h0) (fun y34 g34 hW34 p34 => ?_)
                  dsimp only
                  exact po_ret ⟨_, EXT.rfl, hW34, (fun _ => p34)⟩
                · have z31 : v1.toInt ≠ 7 := fun h => q31 (Int32.toInt_inj.mp (h.trans kt_7.symm))
                  refine po_eq (fun q35 => ?_) (fun q35 => ?_)
                  · have z35 : v1.toInt = 8 := by rw [q35]; exact kt_8
                    refine po_ck (wt_isO hW1 h0 (by decide)) ?_
                    refine po_w (tX8_freePiece hW1 h0) (fun y36 g36 hW36 p36 => ?_)
                    dsimp only
                    exact po_ret ⟨_, EXT.rfl, hW36, (fun hh => by omega)⟩
                  · have z35 : v1.toInt ≠ 8 := fun h => q35 (Int32.toInt_inj.mp (h.trans kt_8.symm))
                    refine po_eq (fun q37 => ?_) (fun q37 => ?_)
                    · have z37 : v1.toInt = 9 := by rw [q37]; exact kt_9
                      refine po_ck (wt_isO hW1 h0 (by decide)) ?_
                      refine po_w (tX8_spreadPiece hW1 h0) (fun y38 g38 hW38 p38 => ?_)
                      dsimp only
                      exact po_ret ⟨_, EXT.rfl, hW38, (fun hh => by omega)⟩
                    · have z37 : v1.toInt ≠ 9 := fun h => q37 (Int32.toInt_inj.mp (h.trans kt_9.symm))
                      refine po_eq (fun q39 => ?_) (fun q39 => ?_)
                      · have z39 : v1.toInt = 10 := by rw [q39]; exact kt_10
                        refine po_ck (wt_isO hW1 h0 (by decide)) ?_
                        refine po_a (tX8_swapPieces hW1 h0) (fun y40 g40 n40 G40 xt40 hW40 p40 => ?_)
                        dsimp only
                        exact po_ret ⟨_, xt40, hW40, (fun hh => by omega)⟩
                      · have z39 : v1.toInt ≠ 10 := fun h => q39 (Int32.toInt_inj.mp (h.trans kt_10.symm))
                        refine po_eq (fun q41 => ?_) (fun q41 => ?_)
                        · have z41 : v1.toInt = 11 := by rw [q41]; exact kt_11
                          refine po_ck (wt_isO hW1 h0 (by decide)) ?_
                          refine po_w (tX8_wipePieces hW1 h0) (fun y42 g42 hW42 p42 => ?_)
                          dsimp only
                          exact po_ret ⟨_, EXT.rfl, hW42, (fun hh => by omega)⟩
                        · have z41 : v1.toInt ≠ 11 := fun h => q41 (Int32.toInt_inj.mp (h.trans kt_11.symm))
                          refine po_ck (wt_isO hW1 h0 (by decide)) ?_
                          refine po_a (tX8_tellPiece hW1 h0 h1) (fun y43 g43 n43 G43 xt43 hW43 p43 => ?_)
                          dsimp only
                          exact po_ret ⟨_, xt43, hW43, (fun hh => by omega)⟩
set_option maxHeartbeats 1000000 in
theorem tX8_restore {G : TE} {F0 : AH} {S : Int32} {f : AH} {n : Nat} {v0 : Nat} {v1 : Option Nat} (hW : WT G F0 S f n) (h0 : G.1 v0 = 8) (h1 : (∃ i, v1 = some i ∧ G.1 i = 7)) : PO (mX8_restore v0 v1 f n) (fun v f' n' => n' = n ∧ WT G F0 S f' n ∧ (True)) := by
  obtain ⟨iv1, rfl, h1⟩ := h1
  unfold mX8_restore
  refine po_ck rfl ?_
  refine po_pI hW h0 rfl rfl (vv_i (by decide) (Or.inl rfl)) (fun g1 hW1 ex1 => ?_)
  refine po_gRn (t := 7) hW1 h0 rfl rfl (by decide) (fun i2 ex2 hi2 => ?_)
  refine po_some ?_
  refine po_ck (wt_isO hW1 hi2 (by decide)) ?_
  refine po_w (tX7_copyFrom hW1 hi2 ⟨_, rfl, h1⟩) (fun y3 g3 hW3 p3 => ?_)
  dsimp only
  refine po_gRn (t := 1) hW3 h0 rfl rfl (by decide) (fun i4 ex4 hi4 => ?_)
  refine po_gRn (t := 7) hW3 h0 rfl rfl (by decide) (fun i5 ex5 hi5 => ?_)
  refine po_some ?_
  refine po_gRn (t := 5) hW3 hi5 rfl rfl (by decide) (fun i6 ex6 hi6 => ?_)
  refine po_bind ex5 ?_
  refine po_some ?_
  refine po_ck (wt_isO hW3 hi4 (by decide)) ?_
  refine po_w (tX1_find hW3 hi4 ⟨_, rfl, hi6⟩ ⟨_, rfl, hi5⟩) (fun y7 g7 hW7 p7 => ?_)
  dsimp only
  refine po_gRn (t := 0) hW7 h0 rfl rfl (by decide) (fun i8 ex8 hi8 => ?_)
  refine po_gRn (t := 7) hW7 h0 rfl rfl (by decide) (fun i9 ex9 hi9 => ?_)
  refine po_gRn (t := 1) hW7 h0 rfl rfl (by decide) (fun i10 ex10 hi10 => ?_)
  refine po_some ?_
  refine po_ck (wt_isO hW7 hi8 (by decide)) ?_
  refine po_w (tX0_make hW7 hi8 ⟨_, rfl, hi9⟩ ⟨_, rfl, hi10⟩) (fun y11 g11 hW11 p11 => ?_)
  dsimp only
  exact po_ret ⟨rfl, hW11, trivial⟩
set_option maxHeartbeats 1000000 in
theorem tX8_forgetOldest_l22 {G : TE} {F0 : AH} {S : Int32} {n : Nat} : ∀ (d : Nat) (v0 : Nat) (v1 : Int32) (v2 : Option Nat) (v3 : Int32) (f : AH), WT G F0 S f n → G.1 v0 = 8 → (7 ≤ v1.toInt ∧ v1.toInt ≤ 7) → (∃ i, v2 = some i ∧ G.1 i = 7) → (0 ≤ v3.toInt ∧ v3.toInt ≤ 7) → 3000 - v3.toInt < (d : Int) → PO (mX8_forgetOldest_l22 d v0 v1 v2 v3 f n) (fun v f' n' => n' = n ∧ WT G F0 S f' n ∧ (True)) := by
  intro d
  induction d with
  | zero =>
    intro v0 v1 v2 v3 f hW h0 h1 h2 h3  hm
    exfalso
    obtain ⟨iv2, rfl, h2⟩ := h2
    omega
  | succ d ih =>
    intro v0 v1 v2 v3 f hW h0 h1 h2 h3  hm
    obtain ⟨iv2, rfl, h2⟩ := h2
    show PO (if v1 ≤ v3 then ((gR f v0 8 4).bind fun x1 => ((x1).bind fun j2 => ((pRA f j2 v1 (some iv2)).bind fun f3 => ((pO f3 v0 8 11 (.int v1)).bind fun f4 => some ((0 : Int32), (f4, n)))))) else ((gR f v0 8 4).bind fun x5 => ((gR f v0 8 4).bind fun x6 => ((x6).bind fun j7 => ((gRA f j7 (v3 + (1 : Int32))).bind fun x8 => ((x5).bind fun j9 => ((pRA f j9 v3 x8).bind fun f10 => mX8_forgetOldest_l22 d v0 v1 (some iv2) (v3 + (1 : Int32)) f10 n))))))) _
    refine po_le rfl rfl (fun q1 => ?_) (fun q1 => ?_)
    · refine po_gRn (t := 12) hW h0 rfl rfl (by decide) (fun i2 ex2 hi2 => ?_)
      refine po_some ?_
      refine po_pRAs hW hi2 (by omega) h2 (fun g3 hW3 => ?_)
      refine po_pI hW3 h0 rfl rfl (vv_i (by decide) trivial) (fun g4 hW4 ex4 => ?_)
      exact po_ret ⟨rfl, hW4, trivial⟩
    · refine po_gRn (t := 12) hW h0 rfl rfl (by decide) (fun i5 ex5 hi5 => ?_)
      refine po_bind ex5 ?_
      refine po_some ?_
      have e6 : (v3 + (1 : Int32)).toInt = v3.toInt + 1 := i_add rfl kt_1 (by omega)
      refine po_gRAn (N := 8) (T := 7) hW hi5 rfl rfl rfl (by decide) (by omega) (fun i7 hi7 => ?_)
      refine po_some ?_
      refine po_pRAs hW hi5 (by omega) hi7 (fun g8 hW8 => ?_)
      exact (ih v0 v1 (some iv2) (v3 + (1 : Int32)) g8 hW8 h0 (by omega) ⟨_, rfl, h2⟩ (by omega)  (by omega))
set_option maxHeartbeats 1000000 in
theorem tX8_forgetOldest {G : TE} {F0 : AH} {S : Int32} {f : AH} {n : Nat} {v0 : Nat} (hW : WT G F0 S f n) (h0 : G.1 v0 = 8) : PO (mX8_forgetOldest v0 f n) (fun v f' n' => n' = n ∧ WT G F0 S f' n ∧ (True)) := by
  have k_kt_0 := kt_0
  unfold mX8_forgetOldest
  refine po_gRn (t := 12) hW h0 rfl rfl (by decide) (fun i1 ex1 hi1 => ?_)
  refine po_some ?_
  refine po_gL (N := 8) hW hi1 rfl rfl (by decide) ?_
  have e3 : ((nI 8) - (1 : Int32)).toInt = 8 - 1 := i_sub kn_8 kt_1 (by omega)
  refine po_le kt_0 rfl (fun q2 => ?_) (fun q2 => ?_)
  · refine po_bind ex1 ?_
    refine po_some ?_
    refine po_gRAn (N := 8) (T := 7) hW hi1 rfl rfl rfl (by decide) (by omega) (fun i4 hi4 => ?_)
    exact (tX8_forgetOldest_l22 rFU v0 ((nI 8) - (1 : Int32)) (some i4) (0 : Int32) f hW h0 (by omega) ⟨_, rfl, hi4⟩ (by omega)  (by unfold rFU; omega))
  · exact po_ret ⟨rfl, hW, trivial⟩
set_option maxHeartbeats 1000000 in
theorem tX8_rememberAhead {G : TE} {F0 : AH} {S : Int32} {f : AH} {n : Nat} {v0 : Nat} (hW : WT G F0 S f n) (h0 : G.1 v0 = 8) : PO (mX8_rememberAhead v0 f n) (fun v f' n' => n' = n ∧ WT G F0 S f' n ∧ (True)) := by
  unfold mX8_rememberAhead
  refine po_gI hW h0 rfl rfl (by decide) (fun x1x ex1 (_ : True) => ?_)
  refine po_gRn (t := 12) hW h0 rfl rfl (by decide) (fun i2 ex2 hi2 => ?_)
  refine po_some ?_
  refine po_gL (N := 8) hW hi2 rfl rfl (by decide) ?_
  refine po_lt rfl kn_8 (fun q3 => ?_) (fun q3 => ?_)
  · unfold mX8_rememberAhead_b16
    refine po_bind ex1 ?_
    refine po_lt rfl kt_0 (fun q4 => ?_) (fun q4 => ?_)
    · unfold mX8_rememberAhead_b73
      exact po_ret ⟨rfl, hW, trivial⟩
    · refine po_bind ex1 ?_
      refine po_bind ex2 ?_
      refine po_some ?_
      refine po_gL (N := 8) hW hi2 rfl rfl (by decide) ?_
      refine po_le kn_8 rfl (fun q5 => ?_) (fun q5 => ?_)
      · unfold mX8_rememberAhead_b73
        exact po_ret ⟨rfl, hW, trivial⟩
      · refine po_bind ex2 ?_
        refine po_bind ex1 ?_
        refine po_some ?_
        refine po_gRAn (N := 8) (T := 7) hW hi2 rfl rfl rfl (by decide) (by omega) (fun i6 hi6 => ?_)
        refine po_oNs ?_
        refine po_bind ex2 ?_
        refine po_bind ex1 ?_
        refine po_some ?_
        refine po_gRAn (N := 8) (T := 7) hW hi2 rfl rfl rfl (by decide) (by omega) (fun i7 hi7 => ?_)
        refine po_gRn (t := 7) hW h0 rfl rfl (by decide) (fun i8 ex8 hi8 => ?_)
        refine po_some ?_
        refine po_ck (wt_isO hW hi7 (by decide)) ?_
        refine po_w (tX7_copyFrom hW hi7 ⟨_, rfl, hi8⟩) (fun y9 g9 hW9 p9 => ?_)
        dsimp only
        refine po_gI hW9 h0 rfl rfl (by decide) (fun x10x ex10 (_ : True) => ?_)
        refine po_pI hW9 h0 rfl rfl (vv_i (by decide) trivial) (fun g11 hW11 ex11 => ?_)
        unfold mX8_rememberAhead_b73
        exact po_ret ⟨rfl, hW11, trivial⟩
  · refine po_ck (wt_isO hW h0 (by decide)) ?_
    refine po_w (tX8_forgetOldest hW h0) (fun y12 g12 hW12 p12 => ?_)
    dsimp only
    unfold mX8_rememberAhead_b16
    refine po_gI hW12 h0 rfl rfl (by decide) (fun x13x ex13 (_ : True) => ?_)
    refine po_lt rfl kt_0 (fun q14 => ?_) (fun q14 => ?_)
    · unfold mX8_rememberAhead_b73
      exact po_ret ⟨rfl, hW12, trivial⟩
    · refine po_bind ex13 ?_
      refine po_gRn (t := 12) hW12 h0 rfl rfl (by decide) (fun i15 ex15 hi15 => ?_)
      refine po_some ?_
      refine po_gL (N := 8) hW12 hi15 rfl rfl (by decide) ?_
      refine po_le kn_8 rfl (fun q16 => ?_) (fun q16 => ?_)
      · unfold mX8_rememberAhead_b73
        exact po_ret ⟨rfl, hW12, trivial⟩
      · refine po_bind ex15 ?_
        refine po_bind ex13 ?_
        refine po_some ?_
        refine po_gRAn (N := 8) (T := 7) hW12 hi15 rfl rfl rfl (by decide) (by omega) (fun i17 hi17 => ?_)
        refine po_oNs ?_
        refine po_bind ex15 ?_
        refine po_bind ex13 ?_
        refine po_some ?_
        refine po_gRAn (N := 8) (T := 7) hW12 hi15 rfl rfl rfl (by decide) (by omega) (fun i18 hi18 => ?_)
        refine po_gRn (t := 7) hW12 h0 rfl rfl (by decide) (fun i19 ex19 hi19 => ?_)
        refine po_some ?_
        refine po_ck (wt_isO hW12 hi18 (by decide)) ?_
        refine po_w (tX7_copyFrom hW12 hi18 ⟨_, rfl, hi19⟩) (fun y20 g20 hW20 p20 => ?_)
        dsimp only
        refine po_gI hW20 h0 rfl rfl (by decide) (fun x21x ex21 (_ : True) => ?_)
        refine po_pI hW20 h0 rfl rfl (vv_i (by decide) trivial) (fun g22 hW22 ex22 => ?_)
        unfold mX8_rememberAhead_b73
        exact po_ret ⟨rfl, hW22, trivial⟩
set_option maxHeartbeats 1000000 in
theorem tX8_finishCall {G : TE} {F0 : AH} {S : Int32} {f : AH} {n : Nat} {v0 : Nat} {v1 : Int32} (hW : WT G F0 S f n) (h0 : G.1 v0 = 8) : PO (mX8_finishCall v0 v1 f n) (fun v f' n' => n' = n ∧ WT G F0 S f' n ∧ ((∀ E : String, v = .inr E → E = eS ∧ v1 ≠ 0) ∧ (∀ y, v = .inl y → True))) := by
  unfold mX8_finishCall
  refine po_pI hW h0 rfl rfl (vv_i (by decide) trivial) (fun g1 hW1 ex1 => ?_)
  refine po_eq (fun q2 => ?_) (fun q2 => ?_)
  · refine po_gRn (t := 7) hW1 h0 rfl rfl (by decide) (fun i3 ex3 hi3 => ?_)
    refine po_ck (wt_isO hW1 h0 (by decide)) ?_
    refine po_w (tX8_restore hW1 h0 ⟨_, rfl, hi3⟩) (fun y4 g4 hW4 p4 => ?_)
    dsimp only
    unfold mX8_finishCall_b18
    refine po_eq (fun q5 => ?_) (fun q5 => ?_)
    · refine po_ck (wt_isO hW4 h0 (by decide)) ?_
      refine po_w (tX8_rememberAhead hW4 h0) (fun y6 g6 hW6 p6 => ?_)
      dsimp only
      exact po_ret ⟨rfl, hW6, ⟨fun E hE => (by cases hE), fun y hy => by cases hy; exact trivial⟩⟩
    · exact po_ret ⟨rfl, hW4, ⟨fun E hE => by cases hE; exact ⟨rfl, by assumption⟩, fun y hy => (by cases hy)⟩⟩
  · unfold mX8_finishCall_b18
    refine po_eq (fun q7 => ?_) (fun q7 => ?_)
    · refine po_ck (wt_isO hW1 h0 (by decide)) ?_
      refine po_w (tX8_rememberAhead hW1 h0) (fun y8 g8 hW8 p8 => ?_)
      dsimp only
      exact po_ret ⟨rfl, hW8, ⟨fun E hE => (by cases hE), fun y hy => by cases hy; exact trivial⟩⟩
    · exact po_ret ⟨rfl, hW1, ⟨fun E hE => by cases hE; exact ⟨rfl, by assumption⟩, fun y hy => (by cases hy)⟩⟩
set_option maxHeartbeats 1000000 in
theorem tX8_unlock {G : TE} {F0 : AH} {S : Int32} {f : AH} {n : Nat} {v0 : Nat} (hW : WT G F0 S f n) (h0 : G.1 v0 = 8) : PO (mX8_unlock v0 f n) (fun v f' n' => ∃ G', EXT G G' ∧ WT G' F0 S f' n' ∧ ((∀ E : String, v = .inr E → False) ∧ (∀ y, v = .inl y → True))) := by
  unfold mX8_unlock
  refine po_gRn (t := 7) hW h0 rfl rfl (by decide) (fun i1 ex1 hi1 => ?_)
  refine po_gRn (t := 7) hW h0 rfl rfl (by decide) (fun i2 ex2 hi2 => ?_)
  refine po_some ?_
  refine po_ck (wt_isO hW hi1 (by decide)) ?_
  refine po_w (tX7_copyFrom hW hi1 ⟨_, rfl, hi2⟩) (fun y3 g3 hW3 p3 => ?_)
  dsimp only
  refine po_ck (wt_isO hW3 h0 (by decide)) ?_
  refine po_a (tX8_doAct hW3 h0 (fun _ hi => nomatch hi)) (fun y4 g4 n4 G4 xt4 hW4 p4 => ?_)
  dsimp only
  refine po_ck (wt_isO hW4 (xt4.ty h0 (by decide)) (by decide)) ?_
  refine po_w (tX8_finishCall hW4 (xt4.ty h0 (by decide))) (fun y5 g5 hW5 p5 => ?_)
  dsimp only
  refine po_tS (fun z6 q7 => ?_) (fun E hE => ⟨_, xt4, hW5, ⟨fun E2 h2 => by cases h2; exact absurd (p4 (Or.inr (by decide))) (p5.1 E hE).2, fun y hy => (by cases hy)⟩⟩)
  refine po_gRn (t := 1) hW5 (xt4.ty h0 (by decide)) rfl rfl (by decide) (fun i8 ex8 hi8 => ?_)
  refine po_some ?_
  refine po_ck (wt_isO hW5 hi8 (by decide)) ?_
  refine po_ro (tX1_size hW5 hi8) (fun y9 ex9 p9 => ?_)
  dsimp only
  exact po_ret ⟨_, xt4, hW5, ⟨fun E hE => (by cases hE), fun y hy => by cases hy; exact trivial⟩⟩
set_option maxHeartbeats 1000000 in
theorem tX8_holder_l2 {G : TE} {F0 : AH} {S : Int32} {n : Nat} : ∀ (d : Nat) (v0 : Nat) (v1 : Int32) (v2 : Int32) (f : AH), WT G F0 S f n → G.1 v0 = 8 → (0 ≤ v2.toInt ∧ v2.toInt ≤ 2000) → 3000 - v2.toInt < (d : Int) → PO (mX8_holder_l2 d v0 v1 v2 f n) (fun v f' n' => f' = f ∧ n' = n ∧ (True)) := by
  intro d
  induction d with
  | zero =>
    intro v0 v1 v2 f hW h0 h1  hm
    exfalso
    omega
  | succ d ih =>
    intro v0 v1 v2 f hW h0 h1  hm
    show PO ((gR f v0 8 5).bind fun x1 => ((x1).bind fun j2 => rCk (isO f j2 1) (((mX1_size j2 f n).bind fun r4 => (if r4.1 ≤ v2 then some ((-1 : Int32), (r4.2.1, r4.2.2)) else ((gR r4.2.1 v0 8 5).bind fun x6 => ((x6).bind fun j7 => rCk (isO r4.2.1 j7 1) (((mX1_get j7 v2 r4.2.1 r4.2.2).bind fun r9 => ((some r9.1).bind fun x11 => (oN x11 (mX8_holder_b44 (fun v0 v1 v2 f n => mX8_holder_l2 d v0 v1 v2 f n) v0 v1 v2 r9.2.1 r9.2.2) (fun j12 => ((gI r9.2.1 j12 3 0).bind fun x13 => (if v1 < x13 then mX8_holder_b44 (fun v0 v1 v2 f n => mX8_holder_l2 d v0 v1 v2 f n) v0 v1 v2 r9.2.1 r9.2.2 else ((gI r9.2.1 j12 3 1).bind fun x14 => (if x14 ≤ v1 then mX8_holder_b44 (fun v0 v1 v2 f n => mX8_holder_l2 d v0 v1 v2 f n) v0 v1 v2 r9.2.1 r9.2.2 else some (v2, (r9.2.1, r9.2.2)))))))))))))))))) _
    refine po_gRn (t := 1) hW h0 rfl rfl (by decide) (fun i1 ex1 hi1 => ?_)
    refine po_some ?_
    refine po_ck (wt_isO hW hi1 (by decide)) ?_
    refine po_ro (tX1_size hW hi1) (fun y2 ex2 p2 => ?_)
    dsimp only
    refine po_le rfl rfl (fun q3 => ?_) (fun q3 => ?_)
    · exact po_ret ⟨rfl, rfl, trivial⟩
    · refine po_bind ex1 ?_
      refine po_some ?_
      refine po_ck (wt_isO hW hi1 (by decide)) ?_
      refine po_ro (tX1_get hW hi1) (fun y4 ex4 p4 => ?_)
      dsimp only
      refine po_some ?_
      refine po_oN (fun q6 => ?_) (fun i5 q6 => ?_)
      · subst q6
        unfold mX8_holder_b44
        have e7 : (v2 + (1 : Int32)).toInt = v2.toInt + 1 := i_add rfl kt_1 (by omega)
        exact (ih v0 v1 (v2 + (1 : Int32)) f hW h0 (by omega)  (by omega))
      · subst q6
        refine po_gI hW (p4 i5 rfl) rfl rfl (by decide) (fun x8x ex8 (_ : True) => ?_)
        refine po_lt rfl rfl (fun q9 => ?_) (fun q9 => ?_)
        · unfold mX8_holder_b44
          have e10 : (v2 + (1 : Int32)).toInt = v2.toInt + 1 := i_add rfl kt_1 (by omega)
          exact (ih v0 v1 (v2 + (1 : Int32)) f hW h0 (by omega)  (by omega))
        · refine po_gI hW (p4 i5 rfl) rfl rfl (by decide) (fun x11x ex11 (_ : True) => ?_)
          refine po_le rfl rfl (fun q12 => ?_) (fun q12 => ?_)
          · unfold mX8_holder_b44
            have e13 : (v2 + (1 : Int32)).toInt = v2.toInt + 1 := i_add rfl kt_1 (by omega)
            exact (ih v0 v1 (v2 + (1 : Int32)) f hW h0 (by omega)  (by omega))
          · exact po_ret ⟨rfl, rfl, trivial⟩
set_option maxHeartbeats 1000000 in
theorem tX8_holder {G : TE} {F0 : AH} {S : Int32} {f : AH} {n : Nat} {v0 : Nat} {v1 : Int32} (hW : WT G F0 S f n) (h0 : G.1 v0 = 8) : PO (mX8_holder v0 v1 f n) (fun v f' n' => f' = f ∧ n' = n ∧ (True)) := by
  have k_kt_0 := kt_0
  unfold mX8_holder
  exact (tX8_holder_l2 rFU v0 v1 (0 : Int32) f hW h0 (by omega)  (by unfold rFU; omega))
set_option maxHeartbeats 1000000 in
theorem tX8_at {G : TE} {F0 : AH} {S : Int32} {f : AH} {n : Nat} {v0 : Nat} {v1 : Int32} {v2 : Int32} (hW : WT G F0 S f n) (h0 : G.1 v0 = 8) : PO (mX8_at v0 v1 v2 f n) (fun v f' n' => f' = f ∧ n' = n ∧ (True)) := by
  unfold mX8_at
  refine po_eq (fun q1 => ?_) (fun q1 => ?_)
  · refine po_gRn (t := 7) hW h0 rfl rfl (by decide) (fun i2 ex2 hi2 => ?_)
    refine po_some ?_
    refine po_gRn (t := 5) hW hi2 rfl rfl (by decide) (fun i3 ex3 hi3 => ?_)
    refine po_some ?_
    refine po_ck (wt_isO hW hi3 (by decide)) ?_
    refine po_ro (tX5_get hW hi3) (fun y4 ex4 p4 => ?_)
    dsimp only
    unfold mX8_at_b29
    exact po_ret ⟨rfl, rfl, trivial⟩
  · refine po_gRn (t := 0) hW h0 rfl rfl (by decide) (fun i5 ex5 hi5 => ?_)
    refine po_some ?_
    refine po_gRm hW hi5 rfl rfl (fun i6 ex6 hi6 hm6 => ?_)
    refine po_some ?_
    refine po_ck (wt_isO hW hi6 (by decide)) ?_
    refine po_ro (tX5_get hW hi6) (fun y7 ex7 p7 => ?_)
    dsimp only
    unfold mX8_at_b29
    exact po_ret ⟨rfl, rfl, trivial⟩
set_option maxHeartbeats 1000000 in
theorem tX8_memory_l29 {G : TE} {F0 : AH} {S : Int32} {n : Nat} : ∀ (d : Nat) (v1 : Int32) (v2 : Int32) (v3 : Int32) (v4 : Option Nat) (v5 : Int32) (f : AH), WT G F0 S f n → (0 ≤ v1.toInt ∧ v1.toInt ≤ 12) → (∀ i, v4 = some i → G.1 i = 2) → (0 ≤ v5.toInt ∧ v5.toInt ≤ 2000) → 3000 - v5.toInt < (d : Int) → PO (mX8_memory_l29 d v1 v2 v3 v4 v5 f n) (fun v f' n' => f' = f ∧ n' = n ∧ (True)) := by
  intro d
  induction d with
  | zero =>
    intro v1 v2 v3 v4 v5 f hW h0 h1 h2  hm
    exfalso
    omega
  | succ d ih =>
    intro v1 v2 v3 v4 v5 f hW h0 h1 h2  hm
    show PO (if v1 ≤ v5 then mX8_memory_b53 v2 v3 v4 f n else (oN v4 (mX8_memory_b53 v2 v3 (none : Option Nat) f n) (fun j1 => ((gR f j1 2 2).bind fun x2 => mX8_memory_l29 d v1 v2 v3 x2 (v5 + (1 : Int32)) f n)))) _
    refine po_le rfl rfl (fun q1 => ?_) (fun q1 => ?_)
    · unfold mX8_memory_b53
      refine po_oN (fun q3 => ?_) (fun i2 q3 => ?_)
      · subst q3
        exact po_ret ⟨rfl, rfl, trivial⟩
      · subst q3
        refine po_eq (fun q4 => ?_) (fun q4 => ?_)
        · refine po_gRn (t := 5) hW (h1 i2 rfl) rfl rfl (by decide) (fun i5 ex5 hi5 => ?_)
          refine po_some ?_
          refine po_ck (wt_isO hW hi5 (by decide)) ?_
          refine po_ro (tX5_get hW hi5) (fun y6 ex6 p6 => ?_)
          dsimp only
          unfold mX8_memory_b85
          exact po_ret ⟨rfl, rfl, trivial⟩
        · refine po_gRn (t := 5) hW (h1 i2 rfl) rfl rfl (by decide) (fun i7 ex7 hi7 => ?_)
          refine po_some ?_
          refine po_ck (wt_isO hW hi7 (by decide)) ?_
          refine po_ro (tX5_get hW hi7) (fun y8 ex8 p8 => ?_)
          dsimp only
          unfold mX8_memory_b85
          exact po_ret ⟨rfl, rfl, trivial⟩
    · refine po_oN (fun q10 => ?_) (fun i9 q10 => ?_)
      · subst q10
        unfold mX8_memory_b53
        refine po_oNn ?_
        exact po_ret ⟨rfl, rfl, trivial⟩
      · subst q10
        refine po_gRo (t := 2) hW (h1 i9 rfl) rfl rfl (by decide) (fun i11 ex11 hi11 => ?_)
        have e12 : (v5 + (1 : Int32)).toInt = v5.toInt + 1 := i_add rfl kt_1 (by omega)
        exact (ih v1 v2 v3 i11 (v5 + (1 : Int32)) f hW (by omega) hi11 (by omega)  (by omega))
set_option maxHeartbeats 1000000 in
theorem tX8_memory {G : TE} {F0 : AH} {S : Int32} {f : AH} {n : Nat} {v0 : Nat} {v1 : Int32} {v2 : Int32} {v3 : Int32} (hW : WT G F0 S f n) (h0 : G.1 v0 = 8) : PO (mX8_memory v0 v1 v2 v3 f n) (fun v f' n' => f' = f ∧ n' = n ∧ (True)) := by
  have k_kt_0 := kt_0
  unfold mX8_memory
  refine po_lt rfl kt_0 (fun q1 => ?_) (fun q1 => ?_)
  · unfold mX8_memory_b15
    exact po_ret ⟨rfl, rfl, trivial⟩
  · refine po_gRn (t := 7) hW h0 rfl rfl (by decide) (fun i2 ex2 hi2 => ?_)
    refine po_some ?_
    refine po_gI hW hi2 rfl rfl (by decide) (fun x3x ex3 (hx3 : 0 ≤ x3x.toInt ∧ x3x.toInt ≤ 12) => ?_)
    refine po_lt rfl rfl (fun q4 => ?_) (fun q4 => ?_)
    · refine po_bind ex2 ?_
      refine po_some ?_
      refine po_gRo (t := 2) hW hi2 rfl rfl (by decide) (fun i5 ex5 hi5 => ?_)
      exact (tX8_memory_l29 rFU v1 v2 v3 i5 (0 : Int32) f hW (by omega) hi5 (by omega)  (by unfold rFU; omega))
    · unfold mX8_memory_b15
      exact po_ret ⟨rfl, rfl, trivial⟩
set_option maxHeartbeats 1000000 in
theorem tX8_cutAgain {G : TE} {F0 : AH} {S : Int32} {f : AH} {n : Nat} {v0 : Nat} (hW : WT G F0 S f n) (h0 : G.1 v0 = 8) : PO (mX8_cutAgain v0 f n) (fun v f' n' => n' = n ∧ WT G F0 S f' n ∧ (True)) := by
  unfold mX8_cutAgain
  refine po_gI hW h0 rfl rfl (by decide) (fun x1x ex1 (hx1 : x1x = 0 ∨ x1x = 1) => ?_)
  refine po_eq (fun q2 => ?_) (fun q2 => ?_)
  · refine po_gRn (t := 1) hW h0 rfl rfl (by decide) (fun i3 ex3 hi3 => ?_)
    refine po_gRn (t := 0) hW h0 rfl rfl (by decide) (fun i4 ex4 hi4 => ?_)
    refine po_some ?_
    refine po_gRm hW hi4 rfl rfl (fun i5 ex5 hi5 hm5 => ?_)
    refine po_gRn (t := 7) hW h0 rfl rfl (by decide) (fun i6 ex6 hi6 => ?_)
    refine po_some ?_
    refine po_ck (wt_isO hW hi3 (by decide)) ?_
    refine po_w (tX1_find hW hi3 ⟨_, rfl, hi5⟩ ⟨_, rfl, hi6⟩) (fun y7 g7 hW7 p7 => ?_)
    dsimp only
    refine po_ck rfl ?_
    refine po_pI hW7 h0 rfl rfl (vv_i (by decide) (Or.inr rfl)) (fun g8 hW8 ex8 => ?_)
    unfold mX8_cutAgain_b30
    exact po_ret ⟨rfl, hW8, trivial⟩
  · unfold mX8_cutAgain_b30
    exact po_ret ⟨rfl, hW, trivial⟩
set_option maxHeartbeats 1000000 in
theorem tX8_isNow {G : TE} {F0 : AH} {S : Int32} {f : AH} {n : Nat} {v0 : Nat} {v1 : Int32} {v2 : Option Nat} {v3 : Option Nat} (hW : WT G F0 S f n) (h0 : G.1 v0 = 8) (h1 : (∃ i, v2 = some i ∧ G.1 i = 3)) (h2 : (∃ i, v3 = some i ∧ G.1 i = 3)) : PO (mX8_isNow v0 v1 v2 v3 f n) (fun v f' n' => f' = f ∧ n' = n ∧ (v = 0 ∨ v = 1)) := by
  obtain ⟨iv2, rfl, h1⟩ := h1
  obtain ⟨iv3, rfl, h2⟩ := h2
  unfold mX8_isNow
  refine po_gRn (t := 7) hW h0 rfl rfl (by decide) (fun i1 ex1 hi1 => ?_)
  refine po_some ?_
  refine po_ck (wt_isO hW hi1 (by decide)) ?_
  refine po_ro (tX7_toldFor hW hi1) (fun y2 ex2 p2 => ?_)
  dsimp only
  refine po_some ?_
  refine po_oN (fun q4 => ?_) (fun i3 q4 => ?_)
  · subst q4
    refine po_some ?_
    refine po_gI hW h1 rfl rfl (by decide) (fun x5x ex5 (hx5 : (-700) ≤ x5x.toInt ∧ x5x.toInt ≤ 700) => ?_)
    refine po_some ?_
    refine po_gI hW h2 rfl rfl (by decide) (fun x6x ex6 (hx6 : (-700) ≤ x6x.toInt ∧ x6x.toInt ≤ 700) => ?_)
    refine po_eq (fun q7 => ?_) (fun q7 => ?_)
    · refine po_gRn (t := 1) hW h0 rfl rfl (by decide) (fun i8 ex8 hi8 => ?_)
      refine po_some ?_
      refine po_gRm hW hi8 rfl rfl (fun i9 ex9 hi9 hm9 => ?_)
      refine po_gI hW h1 rfl rfl (by decide) (fun x10x ex10 (hx10 : 0 ≤ x10x.toInt ∧ x10x.toInt ≤ 600) => ?_)
      refine po_gRn (t := 1) hW h0 rfl rfl (by decide) (fun i11 ex11 hi11 => ?_)
      refine po_some ?_
      refine po_gRm hW hi11 rfl rfl (fun i12 ex12 hi12 hm12 => ?_)
      refine po_gI hW h2 rfl rfl (by decide) (fun x13x ex13 (hx13 : 0 ≤ x13x.toInt ∧ x13x.toInt ≤ 600) => ?_)
      refine po_bind ex5 ?_
      refine po_some ?_
      refine po_ck (wt_isO hW hi9 (by decide)) ?_
      refine po_ro (tX5_isSame hW hi9 ⟨_, rfl, hi12⟩ (by omega)) (fun y14 ex14 p14 => ?_)
      dsimp only
      refine po_eq (fun q15 => ?_) (fun q15 => ?_)
      · unfold mX8_isNow_b62
        unfold mX8_isNow_b63
        refine po_ck (nb_of (Or.inl rfl)) ?_
        exact po_ret ⟨rfl, rfl, (Or.inl rfl)⟩
      · unfold mX8_isNow_b63
        refine po_ck (nb_of (Or.inr rfl)) ?_
        exact po_ret ⟨rfl, rfl, (Or.inr rfl)⟩
    · unfold mX8_isNow_b62
      unfold mX8_isNow_b63
      refine po_ck (nb_of (Or.inl rfl)) ?_
      exact po_ret ⟨rfl, rfl, (Or.inl rfl)⟩
  · subst q4
    refine po_ck (wt_isO hW (p2 i3 rfl) (by decide)) ?_
    refine po_ro (tX5_size hW (p2 i3 rfl)) (fun y16 ex16 p16 => ?_)
    dsimp only
    refine po_some ?_
    refine po_gI hW h2 rfl rfl (by decide) (fun x17x ex17 (hx17 : (-700) ≤ x17x.toInt ∧ x17x.toInt ≤ 700) => ?_)
    refine po_eq (fun q18 => ?_) (fun q18 => ?_)
    · refine po_gRn (t := 1) hW h0 rfl rfl (by decide) (fun i19 ex19 hi19 => ?_)
      refine po_some ?_
      refine po_gRm hW hi19 rfl rfl (fun i20 ex20 hi20 hm20 => ?_)
      refine po_gI hW h2 rfl rfl (by decide) (fun x21x ex21 (hx21 : 0 ≤ x21x.toInt ∧ x21x.toInt ≤ 600) => ?_)
      refine po_ck (wt_isO hW (p2 i3 rfl) (by decide)) ?_
      refine po_bind ex16 ?_
      dsimp only
      refine po_ck (wt_isO hW (p2 i3 rfl) (by decide)) ?_
      refine po_ro (tX5_isSame hW (p2 i3 rfl) ⟨_, rfl, hi20⟩ (by omega)) (fun y22 ex22 p22 => ?_)
      dsimp only
      refine po_eq (fun q23 => ?_) (fun q23 => ?_)
      · unfold mX8_isNow_b105
        unfold mX8_isNow_b106
        refine po_ck (nb_of (Or.inl rfl)) ?_
        exact po_ret ⟨rfl, rfl, (Or.inl rfl)⟩
      · unfold mX8_isNow_b106
        refine po_ck (nb_of (Or.inr rfl)) ?_
        exact po_ret ⟨rfl, rfl, (Or.inr rfl)⟩
    · unfold mX8_isNow_b105
      unfold mX8_isNow_b106
      refine po_ck (nb_of (Or.inl rfl)) ?_
      exact po_ret ⟨rfl, rfl, (Or.inl rfl)⟩
set_option maxHeartbeats 1000000 in
theorem tX8_twice_l25 {G : TE} {F0 : AH} {S : Int32} {n : Nat} : ∀ (d : Nat) (v0 : Nat) (v1 : Int32) (f : AH), WT G F0 S f n → G.1 v0 = 8 → (0 ≤ v1.toInt ∧ v1.toInt ≤ 2000) → 3000 - v1.toInt < (d : Int) → PO (mX8_twice_l25 d v0 v1 f n) (fun v f' n' => n' = n ∧ WT G F0 S f' n ∧ (v = 0 ∨ v = 1)) := by
  intro d
  induction d with
  | zero =>
    intro v0 v1 f hW h0 h1  hm
    exfalso
    omega
  | succ d ih =>
    intro v0 v1 f hW h0 h1  hm
    show PO ((gR f v0 8 5).bind fun x1 => ((x1).bind fun j2 => rCk (isO f j2 1) (((mX1_size j2 f n).bind fun r4 => (if r4.1 ≤ v1 then rCk (rNb (1 : Int32)) (some ((1 : Int32), (r4.2.1, r4.2.2))) else ((gR r4.2.1 v0 8 5).bind fun x7 => ((x7).bind fun j8 => rCk (isO r4.2.1 j8 1) (((mX1_get j8 v1 r4.2.1 r4.2.2).bind fun r10 => ((some r10.1).bind fun x12 => ((gR r10.2.1 v0 8 6).bind fun x13 => ((x13).bind fun j14 => rCk (isO r10.2.1 j14 1) (((mX1_get j14 v1 r10.2.1 r10.2.2).bind fun r16 => ((some r16.1).bind fun x18 => (oN x12 (mX8_twice_b72 r16.2.1 r16.2.2) (fun j19 => (oN x18 (mX8_twice_b72 r16.2.1 r16.2.2) (fun j20 => rCk (isO r16.2.1 v0 8) (((mX8_isNow v0 v1 (some j19) (some j20) r16.2.1 r16.2.2).bind fun r22 => (if r22.1 = (0 : Int32) then mX8_twice_b72 r22.2.1 r22.2.2 else mX8_twice_l25 d v0 (v1 + (1 : Int32)) r22.2.1 r22.2.2)))))))))))))))))))))) _
    refine po_gRn (t := 1) hW h0 rfl rfl (by decide) (fun i1 ex1 hi1 => ?_)
    refine po_some ?_
    refine po_ck (wt_isO hW hi1 (by decide)) ?_
    refine po_ro (tX1_size hW hi1) (fun y2 ex2 p2 => ?_)
    dsimp only
    refine po_le rfl rfl (fun q3 => ?_) (fun q3 => ?_)
    · refine po_ck rfl ?_
      exact po_ret ⟨rfl, hW, (Or.inr rfl)⟩
    · refine po_bind ex1 ?_
      refine po_some ?_
      refine po_ck (wt_isO hW hi1 (by decide)) ?_
      refine po_ro (tX1_get hW hi1) (fun y4 ex4 p4 => ?_)
      dsimp only
      refine po_some ?_
      refine po_gRn (t := 1) hW h0 rfl rfl (by decide) (fun i5 ex5 hi5 => ?_)
      refine po_some ?_
      refine po_ck (wt_isO hW hi5 (by decide)) ?_
      refine po_ro (tX1_get hW hi5) (fun y6 ex6 p6 => ?_)
      dsimp only
      refine po_some ?_
      refine po_oN (fun q8 => ?_) (fun i7 q8 => ?_)
      · subst q8
        unfold mX8_twice_b72
        refine po_ck rfl ?_
        exact po_ret ⟨rfl, hW, (Or.inl rfl)⟩
      · subst q8
        refine po_oN (fun q10 => ?_) (fun i9 q10 => ?_)
        · subst q10
          unfold mX8_twice_b72
          refine po_ck rfl ?_
          exact po_ret ⟨rfl, hW, (Or.inl rfl)⟩
        · subst q10
          refine po_ck (wt_isO hW h0 (by decide)) ?_
          refine po_ro (tX8_isNow hW h0 ⟨_, rfl, (p4 i7 rfl)⟩ ⟨_, rfl, (p6 i9 rfl)⟩) (fun y11 ex11 p11 => ?_)
          dsimp only
          refine po_eq (fun q12 => ?_) (fun q12 => ?_)
          · unfold mX8_twice_b72
            refine po_ck rfl ?_
            exact po_ret ⟨rfl, hW, (Or.inl rfl)⟩
          · have e13 : (v1 + (1 : Int32)).toInt = v1.toInt + 1 := i_add rfl kt_1 (by omega)
            exact (ih v0 (v1 + (1 : Int32)) f hW h0 (by omega)  (by omega))
set_option maxHeartbeats 1000000 in
theorem tX8_twice {G : TE} {F0 : AH} {S : Int32} {f : AH} {n : Nat} {v0 : Nat} (hW : WT G F0 S f n) (h0 : G.1 v0 = 8) : PO (mX8_twice v0 f n) (fun v f' n' => n' = n ∧ WT G F0 S f' n ∧ (v = 0 ∨ v = 1)) := by
  have k_kt_0 := kt_0
  unfold mX8_twice
  refine po_ck (wt_isO hW h0 (by decide)) ?_
  refine po_w (tX8_cutAgain hW h0) (fun y1 g1 hW1 p1 => ?_)
  dsimp only
  refine po_gRn (t := 1) hW1 h0 rfl rfl (by decide) (fun i2 ex2 hi2 => ?_)
  refine po_some ?_
  refine po_ck (wt_isO hW1 hi2 (by decide)) ?_
  refine po_ro (tX1_size hW1 hi2) (fun y3 ex3 p3 => ?_)
  dsimp only
  refine po_gRn (t := 1) hW1 h0 rfl rfl (by decide) (fun i4 ex4 hi4 => ?_)
  refine po_some ?_
  refine po_ck (wt_isO hW1 hi4 (by decide)) ?_
  refine po_ro (tX1_size hW1 hi4) (fun y5 ex5 p5 => ?_)
  dsimp only
  refine po_eq (fun q6 => ?_) (fun q6 => ?_)
  · exact (tX8_twice_l25 rFU v0 (0 : Int32) g1 hW1 h0 (by omega)  (by unfold rFU; omega))
  · refine po_ck rfl ?_
    exact po_ret ⟨rfl, hW1, (Or.inl rfl)⟩
set_option maxHeartbeats 1000000 in
theorem tX8_image {G : TE} {F0 : AH} {S : Int32} {f : AH} {n : Nat} {v0 : Nat} (hW : WT G F0 S f n) (h0 : G.1 v0 = 8) : PO (mX8_image v0 f n) (fun v f' n' => n' = n ∧ WT G F0 S f' n ∧ (True)) := by
  unfold mX8_image
  refine po_gRn (t := 7) hW h0 rfl rfl (by decide) (fun i1 ex1 hi1 => ?_)
  refine po_gRn (t := 7) hW h0 rfl rfl (by decide) (fun i2 ex2 hi2 => ?_)
  refine po_some ?_
  refine po_ck (wt_isO hW hi1 (by decide)) ?_
  refine po_w (tX7_copyFrom hW hi1 ⟨_, rfl, hi2⟩) (fun y3 g3 hW3 p3 => ?_)
  dsimp only
  refine po_ck rfl ?_
  refine po_pI hW3 h0 rfl rfl (vv_i (by decide) (Or.inr rfl)) (fun g4 hW4 ex4 => ?_)
  exact po_ret ⟨rfl, hW4, trivial⟩
set_option maxHeartbeats 1000000 in
theorem tX8_back {G : TE} {F0 : AH} {S : Int32} {f : AH} {n : Nat} {v0 : Nat} (hW : WT G F0 S f n) (h0 : G.1 v0 = 8) : PO (mX8_back v0 f n) (fun v f' n' => n' = n ∧ WT G F0 S f' n ∧ (True)) := by
  unfold mX8_back
  refine po_gI hW h0 rfl rfl (by decide) (fun x1x ex1 (hx1 : x1x = 0 ∨ x1x = 1) => ?_)
  refine po_eq (fun q2 => ?_) (fun q2 => ?_)
  · refine po_ck rfl ?_
    exact po_ret ⟨rfl, hW, trivial⟩
  · refine po_gRn (t := 7) hW h0 rfl rfl (by decide) (fun i3 ex3 hi3 => ?_)
    refine po_ck (wt_isO hW h0 (by decide)) ?_
    refine po_w (tX8_restore hW h0 ⟨_, rfl, hi3⟩) (fun y4 g4 hW4 p4 => ?_)
    dsimp only
    refine po_pI hW4 h0 rfl rfl (vv_i (by decide) trivial) (fun g5 hW5 ex5 => ?_)
    refine po_ck rfl ?_
    exact po_ret ⟨rfl, hW5, trivial⟩
set_option maxHeartbeats 1000000 in
theorem tX1_bytesInPieces_l4 {G : TE} {F0 : AH} {S : Int32} {n : Nat} : ∀ (d : Nat) (v0 : Nat) (v1 : Int32) (v2 : Int32) (f : AH), WT G F0 S f n → G.1 v0 = 1 → (0 ≤ v2.toInt ∧ v2.toInt ≤ 2000) → 3000 - v2.toInt < (d : Int) → PO (mX1_bytesInPieces_l4 d v0 v1 v2 f n) (fun v f' n' => f' = f ∧ n' = n ∧ (True)) := by
  intro d
  induction d with
  | zero =>
    intro v0 v1 v2 f hW h0 h1  hm
    exfalso
    omega
  | succ d ih =>
    intro v0 v1 v2 f hW h0 h1  hm
    show PO ((gI f v0 1 3).bind fun x1 => (if x1 ≤ v2 then some (v1, (f, n)) else rCk (isO f v0 1) (((mX1_get v0 v2 f n).bind fun r3 => ((some r3.1).bind fun x5 => (oN x5 (mX1_bytesInPieces_b36 (fun v0 v1 v2 f n => mX1_bytesInPieces_l4 d v0 v1 v2 f n) v0 v2 v1 (0 : Int32) r3.2.1 r3.2.2) (fun j6 => ((gI r3.2.1 j6 3 1).bind fun x7 => ((gI r3.2.1 j6 3 0).bind fun x8 => mX1_bytesInPieces_b36 (fun v0 v1 v2 f n => mX1_bytesInPieces_l4 d v0 v1 v2 f n) v0 v2 v1 (x7 - x8) r3.2.1 r3.2.2))))))))) _
    refine po_gI hW h0 rfl rfl (by decide) (fun x1x ex1 (hx1 : 0 ≤ x1x.toInt ∧ x1x.toInt ≤ 40) => ?_)
    refine po_le rfl rfl (fun q2 => ?_) (fun q2 => ?_)
    · exact po_ret ⟨rfl, rfl, trivial⟩
    · refine po_ck (wt_isO hW h0 (by decide)) ?_
      refine po_ro (tX1_get hW h0) (fun y3 ex3 p3 => ?_)
      dsimp only
      refine po_some ?_
      refine po_oN (fun q5 => ?_) (fun i4 q5 => ?_)
      · subst q5
        unfold mX1_bytesInPieces_b36
        have e6 : (v2 + (1 : Int32)).toInt = v2.toInt + 1 := i_add rfl kt_1 (by omega)
        exact (ih v0 (v1 + (0 : Int32)) (v2 + (1 : Int32)) f hW h0 (by omega)  (by omega))
      · subst q5
        refine po_gI hW (p3 i4 rfl) rfl rfl (by decide) (fun x7x ex7 (_ : True) => ?_)
        refine po_gI hW (p3 i4 rfl) rfl rfl (by decide) (fun x8x ex8 (_ : True) => ?_)
        unfold mX1_bytesInPieces_b36
        have e9 : (v2 + (1 : Int32)).toInt = v2.toInt + 1 := i_add rfl kt_1 (by omega)
        exact (ih v0 (v1 + (x7x - x8x)) (v2 + (1 : Int32)) f hW h0 (by omega)  (by omega))
set_option maxHeartbeats 1000000 in
theorem tX1_bytesInPieces {G : TE} {F0 : AH} {S : Int32} {f : AH} {n : Nat} {v0 : Nat} (hW : WT G F0 S f n) (h0 : G.1 v0 = 1) : PO (mX1_bytesInPieces v0 f n) (fun v f' n' => f' = f ∧ n' = n ∧ (True)) := by
  have k_kt_0 := kt_0
  unfold mX1_bytesInPieces
  exact (tX1_bytesInPieces_l4 rFU v0 (0 : Int32) (0 : Int32) f hW h0 (by omega)  (by unfold rFU; omega))
set_option maxHeartbeats 1000000 in
theorem tX1_hasLikeAhead_l2 {G : TE} {F0 : AH} {S : Int32} {n : Nat} : ∀ (d : Nat) (v0 : Nat) (v1 : Int32) (v2 : Int32) (f : AH), WT G F0 S f n → G.1 v0 = 1 → (0 ≤ v1.toInt ∧ v1.toInt ≤ 2000) → (0 ≤ v2.toInt ∧ v2.toInt ≤ 2000) → v1.toInt + 3000 - v2.toInt < (d : Int) → PO (mX1_hasLikeAhead_l2 d v0 v1 v2 f n) (fun v f' n' => f' = f ∧ n' = n ∧ (True)) := by
  intro d
  induction d with
  | zero =>
    intro v0 v1 v2 f hW h0 h1 h2  hm
    exfalso
    omega
  | succ d ih =>
    intro v0 v1 v2 f hW h0 h1 h2  hm
    show PO (if v1 ≤ v2 then rCk (rNb (0 : Int32)) (some ((0 : Int32), (f, n))) else rCk (isO f v0 1) (((mX1_areLike v0 v1 v2 f n).bind fun r3 => (if r3.1 = (0 : Int32) then mX1_hasLikeAhead_l2 d v0 v1 (v2 + (1 : Int32)) r3.2.1 r3.2.2 else rCk (rNb (1 : Int32)) (some ((1 : Int32), (r3.2.1, r3.2.2))))))) _
    refine po_le rfl rfl (fun q1 => ?_) (fun q1 => ?_)
    · refine po_ck rfl ?_
      exact po_ret ⟨rfl, rfl, trivial⟩
    · refine po_ck (wt_isO hW h0 (by decide)) ?_
      refine po_ro (tX1_areLike hW h0) (fun y2 ex2 p2 => ?_)
      dsimp only
      refine po_eq (fun q3 => ?_) (fun q3 => ?_)
      · have e4 : (v2 + (1 : Int32)).toInt = v2.toInt + 1 := i_add rfl kt_1 (by omega)
        exact (ih v0 v1 (v2 + (1 : Int32)) f hW h0 (by omega) (by omega)  (by omega))
      · refine po_ck rfl ?_
        exact po_ret ⟨rfl, rfl, trivial⟩
set_option maxHeartbeats 1000000 in
theorem tX1_hasLikeAhead {G : TE} {F0 : AH} {S : Int32} {f : AH} {n : Nat} {v0 : Nat} {v1 : Int32} (hW : WT G F0 S f n) (h0 : G.1 v0 = 1) (h1 : (0 ≤ v1.toInt ∧ v1.toInt ≤ 2000)) : PO (mX1_hasLikeAhead v0 v1 f n) (fun v f' n' => f' = f ∧ n' = n ∧ (True)) := by
  have k_kt_0 := kt_0
  unfold mX1_hasLikeAhead
  exact (tX1_hasLikeAhead_l2 rFU v0 v1 (0 : Int32) f hW h0 (by omega) (by omega)  (by unfold rFU; omega))
set_option maxHeartbeats 1000000 in
theorem tX1_unlikeCount_l4 {G : TE} {F0 : AH} {S : Int32} {n : Nat} : ∀ (d : Nat) (v0 : Nat) (v1 : Int32) (v2 : Int32) (f : AH), WT G F0 S f n → G.1 v0 = 1 → (0 ≤ v2.toInt ∧ v2.toInt ≤ 2000) → 3000 - v2.toInt < (d : Int) → PO (mX1_unlikeCount_l4 d v0 v1 v2 f n) (fun v f' n' => f' = f ∧ n' = n ∧ (True)) := by
  intro d
  induction d with
  | zero =>
    intro v0 v1 v2 f hW h0 h1  hm
    exfalso
    omega
  | succ d ih =>
    intro v0 v1 v2 f hW h0 h1  hm
    show PO ((gI f v0 1 3).bind fun x1 => (if x1 ≤ v2 then some (v1, (f, n)) else rCk (isO f v0 1) (((mX1_hasLikeAhead v0 v2 f n).bind fun r3 => (if r3.1 = (0 : Int32) then mX1_unlikeCount_b23 (fun v0 v1 v2 f n => mX1_unlikeCount_l4 d v0 v1 v2 f n) v0 (v1 + (1 : Int32)) v2 r3.2.1 r3.2.2 else mX1_unlikeCount_b23 (fun v0 v1 v2 f n => mX1_unlikeCount_l4 d v0 v1 v2 f n) v0 v1 v2 r3.2.1 r3.2.2))))) _
    refine po_gI hW h0 rfl rfl (by decide) (fun x1x ex1 (hx1 : 0 ≤ x1x.toInt ∧ x1x.toInt ≤ 40) => ?_)
    refine po_le rfl rfl (fun q2 => ?_) (fun q2 => ?_)
    · exact po_ret ⟨rfl, rfl, trivial⟩
    · refine po_ck (wt_isO hW h0 (by decide)) ?_
      refine po_ro (tX1_hasLikeAhead hW h0 (by omega)) (fun y3 ex3 p3 => ?_)
      dsimp only
      refine po_eq (fun q4 => ?_) (fun q4 => ?_)
      · unfold mX1_unlikeCount_b23
        have e5 : (v2 + (1 : Int32)).toInt = v2.toInt + 1 := i_add rfl kt_1 (by omega)
        exact (ih v0 (v1 + (1 : Int32)) (v2 + (1 : Int32)) f hW h0 (by omega)  (by omega))
      · unfold mX1_unlikeCount_b23
        have e6 : (v2 + (1 : Int32)).toInt = v2.toInt + 1 := i_add rfl kt_1 (by omega)
        exact (ih v0 v1 (v2 + (1 : Int32)) f hW h0 (by omega)  (by omega))
set_option maxHeartbeats 1000000 in
theorem tX1_unlikeCount {G : TE} {F0 : AH} {S : Int32} {f : AH} {n : Nat} {v0 : Nat} (hW : WT G F0 S f n) (h0 : G.1 v0 = 1) : PO (mX1_unlikeCount v0 f n) (fun v f' n' => f' = f ∧ n' = n ∧ (True)) := by
  have k_kt_0 := kt_0
  unfold mX1_unlikeCount
  exact (tX1_unlikeCount_l4 rFU v0 (0 : Int32) (0 : Int32) f hW h0 (by omega)  (by unfold rFU; omega))
set_option maxHeartbeats 1000000 in
theorem tX5_countWords_l8 {G : TE} {F0 : AH} {S : Int32} {n : Nat} : ∀ (d : Nat) (v0 : Nat) (v1 : Int32) (v2 : Int32) (v3 : Int32) (v4 : Int32) (v5 : Int32) (f : AH), WT G F0 S f n → G.1 v0 = 5 → (0 ≤ v1.toInt ∧ v1.toInt ≤ 600) → ((-700) ≤ v2.toInt ∧ v2.toInt ≤ 700) → (0 ≤ v5.toInt ∧ v5.toInt ≤ 2000) → v1.toInt + v2.toInt - v5.toInt + 4000 < (d : Int) → PO (mX5_countWords_l8 d v0 v1 v2 v3 v4 v5 f n) (fun v f' n' => f' = f ∧ n' = n ∧ (True)) := by
  intro d
  induction d with
  | zero =>
    intro v0 v1 v2 v3 v4 v5 f hW h0 h1 h2 h3  hm
    exfalso
    omega
  | succ d ih =>
    intro v0 v1 v2 v3 v4 v5 f hW h0 h1 h2 h3  hm
    show PO (if (v1 + v2) ≤ v5 then some (v3, (f, n)) else rCk (isO f v0 5) (((mX5_get v0 v5 f n).bind fun r2 => ((mX8_isLetter r2.1 r2.2.1 r2.2.2).bind fun r4 => (if r4.1 = (0 : Int32) then mX5_countWords_b40 (fun v0 v1 v2 v3 v4 v5 f n => mX5_countWords_l8 d v0 v1 v2 v3 v4 v5 f n) v0 v1 v2 v3 v5 r4.1 r4.2.1 r4.2.2 else (if v4 = (0 : Int32) then mX5_countWords_b40 (fun v0 v1 v2 v3 v4 v5 f n => mX5_countWords_l8 d v0 v1 v2 v3 v4 v5 f n) v0 v1 v2 (v3 + (1 : Int32)) v5 r4.1 r4.2.1 r4.2.2 else mX5_countWords_b40 (fun v0 v1 v2 v3 v4 v5 f n => mX5_countWords_l8 d v0 v1 v2 v3 v4 v5 f n) v0 v1 v2 v3 v5 r4.1 r4.2.1 r4.2.2)))))) _
    have e2 : (v1 + v2).toInt = v1.toInt + v2.toInt := i_add rfl rfl (by omega)
    refine po_le rfl rfl (fun q1 => ?_) (fun q1 => ?_)
    · exact po_ret ⟨rfl, rfl, trivial⟩
    · refine po_ck (wt_isO hW h0 (by decide)) ?_
      refine po_ro (tX5_get hW h0) (fun y3 ex3 p3 => ?_)
      dsimp only
      refine po_ro (tX8_isLetter hW ) (fun y4 ex4 p4 => ?_)
      dsimp only
      refine po_eq (fun q5 => ?_) (fun q5 => ?_)
      · unfold mX5_countWords_b40
        have e6 : (v5 + (1 : Int32)).toInt = v5.toInt + 1 := i_add rfl kt_1 (by omega)
        exact (ih v0 v1 v2 v3 y4 (v5 + (1 : Int32)) f hW h0 (by omega) (by omega) (by omega)  (by omega))
      · refine po_eq (fun q7 => ?_) (fun q7 => ?_)
        · unfold mX5_countWords_b40
          have e8 : (v5 + (1 : Int32)).toInt = v5.toInt + 1 := i_add rfl kt_1 (by omega)
          exact (ih v0 v1 v2 (v3 + (1 : Int32)) y4 (v5 + (1 : Int32)) f hW h0 (by omega) (by omega) (by omega)  (by omega))
        · unfold mX5_countWords_b40
          have e9 : (v5 + (1 : Int32)).toInt = v5.toInt + 1 := i_add rfl kt_1 (by omega)
          exact (ih v0 v1 v2 v3 y4 (v5 + (1 : Int32)) f hW h0 (by omega) (by omega) (by omega)  (by omega))
set_option maxHeartbeats 1000000 in
theorem tX5_countWords {G : TE} {F0 : AH} {S : Int32} {f : AH} {n : Nat} {v0 : Nat} {v1 : Int32} {v2 : Int32} (hW : WT G F0 S f n) (h0 : G.1 v0 = 5) (h1 : (0 ≤ v1.toInt ∧ v1.toInt ≤ 600)) (h2 : ((-700) ≤ v2.toInt ∧ v2.toInt ≤ 700)) : PO (mX5_countWords v0 v1 v2 f n) (fun v f' n' => f' = f ∧ n' = n ∧ (True)) := by
  unfold mX5_countWords
  exact (tX5_countWords_l8 rFU v0 v1 v2 (0 : Int32) (0 : Int32) v1 f hW h0 (by omega) (by omega) (by omega)  (by unfold rFU; omega))
set_option maxHeartbeats 1000000 in
theorem tX8_countWords {G : TE} {F0 : AH} {S : Int32} {f : AH} {n : Nat} {v0 : Nat} {v1 : Int32} {v2 : Option Nat} (hW : WT G F0 S f n) (h0 : G.1 v0 = 8) (h1 : (∃ i, v2 = some i ∧ G.1 i = 3)) : PO (mX8_countWords v0 v1 v2 f n) (fun v f' n' => f' = f ∧ n' = n ∧ (True)) := by
  obtain ⟨iv2, rfl, h1⟩ := h1
  have k_kt_0 := kt_0
  unfold mX8_countWords
  refine po_gRn (t := 7) hW h0 rfl rfl (by decide) (fun i1 ex1 hi1 => ?_)
  refine po_some ?_
  refine po_ck (wt_isO hW hi1 (by decide)) ?_
  refine po_ro (tX7_toldFor hW hi1) (fun y2 ex2 p2 => ?_)
  dsimp only
  refine po_some ?_
  refine po_oN (fun q4 => ?_) (fun i3 q4 => ?_)
  · subst q4
    refine po_gRn (t := 1) hW h0 rfl rfl (by decide) (fun i5 ex5 hi5 => ?_)
    refine po_some ?_
    refine po_gRm hW hi5 rfl rfl (fun i6 ex6 hi6 hm6 => ?_)
    refine po_some ?_
    refine po_gI hW h1 rfl rfl (by decide) (fun x7x ex7 (hx7 : 0 ≤ x7x.toInt ∧ x7x.toInt ≤ 600) => ?_)
    refine po_gI hW h1 rfl rfl (by decide) (fun x8x ex8 (hx8 : (-700) ≤ x8x.toInt ∧ x8x.toInt ≤ 700) => ?_)
    refine po_some ?_
    refine po_ck (wt_isO hW hi6 (by decide)) ?_
    refine po_ro (tX5_countWords hW hi6 (by omega) (by omega)) (fun y9 ex9 p9 => ?_)
    dsimp only
    unfold mX8_countWords_b43
    exact po_ret ⟨rfl, rfl, trivial⟩
  · subst q4
    refine po_ck (wt_isO hW (p2 i3 rfl) (by decide)) ?_
    refine po_ro (tX5_size hW (p2 i3 rfl)) (fun y10 ex10 p10 => ?_)
    dsimp only
    refine po_ck (wt_isO hW (p2 i3 rfl) (by decide)) ?_
    refine po_ro (tX5_countWords hW (p2 i3 rfl) (by omega) (by omega)) (fun y11 ex11 p11 => ?_)
    dsimp only
    unfold mX8_countWords_b43
    exact po_ret ⟨rfl, rfl, trivial⟩
set_option maxHeartbeats 1000000 in
theorem tX8_countAllWords_l4 {G : TE} {F0 : AH} {S : Int32} {n : Nat} : ∀ (d : Nat) (v0 : Nat) (v1 : Int32) (v2 : Int32) (f : AH), WT G F0 S f n → G.1 v0 = 8 → (0 ≤ v2.toInt ∧ v2.toInt ≤ 2000) → 3000 - v2.toInt < (d : Int) → PO (mX8_countAllWords_l4 d v0 v1 v2 f n) (fun v f' n' => f' = f ∧ n' = n ∧ (True)) := by
  intro d
  induction d with
  | zero =>
    intro v0 v1 v2 f hW h0 h1  hm
    exfalso
    omega
  | succ d ih =>
    intro v0 v1 v2 f hW h0 h1  hm
    show PO ((gR f v0 8 5).bind fun x1 => ((x1).bind fun j2 => rCk (isO f j2 1) (((mX1_size j2 f n).bind fun r4 => (if r4.1 ≤ v2 then some (v1, (r4.2.1, r4.2.2)) else ((gR r4.2.1 v0 8 5).bind fun x6 => ((x6).bind fun j7 => rCk (isO r4.2.1 j7 1) (((mX1_get j7 v2 r4.2.1 r4.2.2).bind fun r9 => ((some r9.1).bind fun x11 => (oN x11 (mX8_countAllWords_b37 (fun v0 v1 v2 f n => mX8_countAllWords_l4 d v0 v1 v2 f n) v0 v1 v2 r9.2.1 r9.2.2) (fun j12 => rCk (isO r9.2.1 v0 8) (((mX8_countWords v0 v2 (some j12) r9.2.1 r9.2.2).bind fun r14 => mX8_countAllWords_b37 (fun v0 v1 v2 f n => mX8_countAllWords_l4 d v0 v1 v2 f n) v0 (v1 + r14.1) v2 r14.2.1 r14.2.2)))))))))))))) _
    refine po_gRn (t := 1) hW h0 rfl rfl (by decide) (fun i1 ex1 hi1 => ?_)
    refine po_some ?_
    refine po_ck (wt_isO hW hi1 (by decide)) ?_
    refine po_ro (tX1_size hW hi1) (fun y2 ex2 p2 => ?_)
    dsimp only
    refine po_le rfl rfl (fun q3 => ?_) (fun q3 => ?_)
    · exact po_ret ⟨rfl, rfl, trivial⟩
    · refine po_bind ex1 ?_
      refine po_some ?_
      refine po_ck (wt_isO hW hi1 (by decide)) ?_
      refine po_ro (tX1_get hW hi1) (fun y4 ex4 p4 => ?_)
      dsimp only
      refine po_some ?_
      refine po_oN (fun q6 => ?_) (fun i5 q6 => ?_)
      · subst q6
        unfold mX8_countAllWords_b37
        have e7 : (v2 + (1 : Int32)).toInt = v2.toInt + 1 := i_add rfl kt_1 (by omega)
        exact (ih v0 v1 (v2 + (1 : Int32)) f hW h0 (by omega)  (by omega))
      · subst q6
        refine po_ck (wt_isO hW h0 (by decide)) ?_
        refine po_ro (tX8_countWords hW h0 ⟨_, rfl, (p4 i5 rfl)⟩) (fun y8 ex8 p8 => ?_)
        dsimp only
        unfold mX8_countAllWords_b37
        have e9 : (v2 + (1 : Int32)).toInt = v2.toInt + 1 := i_add rfl kt_1 (by omega)
        exact (ih v0 (v1 + y8) (v2 + (1 : Int32)) f hW h0 (by omega)  (by omega))
set_option maxHeartbeats 1000000 in
theorem tX8_countAllWords {G : TE} {F0 : AH} {S : Int32} {f : AH} {n : Nat} {v0 : Nat} (hW : WT G F0 S f n) (h0 : G.1 v0 = 8) : PO (mX8_countAllWords v0 f n) (fun v f' n' => f' = f ∧ n' = n ∧ (True)) := by
  have k_kt_0 := kt_0
  unfold mX8_countAllWords
  exact (tX8_countAllWords_l4 rFU v0 (0 : Int32) (0 : Int32) f hW h0 (by omega)  (by unfold rFU; omega))
set_option maxHeartbeats 1000000 in
theorem tX1_longestText_l4 {G : TE} {F0 : AH} {S : Int32} {n : Nat} : ∀ (d : Nat) (v0 : Nat) (v1 : Int32) (v2 : Int32) (f : AH), WT G F0 S f n → G.1 v0 = 1 → (0 ≤ v2.toInt ∧ v2.toInt ≤ 2000) → 3000 - v2.toInt < (d : Int) → PO (mX1_longestText_l4 d v0 v1 v2 f n) (fun v f' n' => f' = f ∧ n' = n ∧ (True)) := by
  intro d
  induction d with
  | zero =>
    intro v0 v1 v2 f hW h0 h1  hm
    exfalso
    omega
  | succ d ih =>
    intro v0 v1 v2 f hW h0 h1  hm
    show PO ((gI f v0 1 3).bind fun x1 => (if x1 ≤ v2 then some (v1, (f, n)) else rCk (isO f v0 1) (((mX1_get v0 v2 f n).bind fun r3 => ((some r3.1).bind fun x5 => (oN x5 (mX1_longestText_b34 (fun v0 v1 v2 f n => mX1_longestText_l4 d v0 v1 v2 f n) v0 v2 v1 r3.2.1 r3.2.2) (fun j6 => ((gI r3.2.1 j6 3 3).bind fun x7 => mX1_longestText_b34 (fun v0 v1 v2 f n => mX1_longestText_l4 d v0 v1 v2 f n) v0 v2 (jMax v1 x7) r3.2.1 r3.2.2)))))))) _
    refine po_gI hW h0 rfl rfl (by decide) (fun x1x ex1 (hx1 : 0 ≤ x1x.toInt ∧ x1x.toInt ≤ 40) => ?_)
    refine po_le rfl rfl (fun q2 => ?_) (fun q2 => ?_)
    · exact po_ret ⟨rfl, rfl, trivial⟩
    · refine po_ck (wt_isO hW h0 (by decide)) ?_
      refine po_ro (tX1_get hW h0) (fun y3 ex3 p3 => ?_)
      dsimp only
      refine po_some ?_
      refine po_oN (fun q5 => ?_) (fun i4 q5 => ?_)
      · subst q5
        unfold mX1_longestText_b34
        have e6 : (v2 + (1 : Int32)).toInt = v2.toInt + 1 := i_add rfl kt_1 (by omega)
        exact (ih v0 v1 (v2 + (1 : Int32)) f hW h0 (by omega)  (by omega))
      · subst q5
        refine po_gI hW (p3 i4 rfl) rfl rfl (by decide) (fun x7x ex7 (hx7 : (-700) ≤ x7x.toInt ∧ x7x.toInt ≤ 700) => ?_)
        unfold mX1_longestText_b34
        have e8 : (v2 + (1 : Int32)).toInt = v2.toInt + 1 := i_add rfl kt_1 (by omega)
        exact (ih v0 (jMax v1 x7x) (v2 + (1 : Int32)) f hW h0 (by omega)  (by omega))
set_option maxHeartbeats 1000000 in
theorem tX1_longestText {G : TE} {F0 : AH} {S : Int32} {f : AH} {n : Nat} {v0 : Nat} (hW : WT G F0 S f n) (h0 : G.1 v0 = 1) : PO (mX1_longestText v0 f n) (fun v f' n' => f' = f ∧ n' = n ∧ (True)) := by
  have k_kt_0 := kt_0
  unfold mX1_longestText
  exact (tX1_longestText_l4 rFU v0 (0 : Int32) (0 : Int32) f hW h0 (by omega)  (by unfold rFU; omega))
set_option maxHeartbeats 1000000 in
theorem tX8_count {G : TE} {F0 : AH} {S : Int32} {f : AH} {n : Nat} {v0 : Nat} {v1 : Int32} (hW : WT G F0 S f n) (h0 : G.1 v0 = 8) : PO (mX8_count v0 v1 f n) (fun v f' n' => f' = f ∧ n' = n ∧ (True)) := by
  unfold mX8_count
  refine po_eq (fun q1 => ?_) (fun q1 => ?_)
  · refine po_gRn (t := 7) hW h0 rfl rfl (by decide) (fun i2 ex2 hi2 => ?_)
    refine po_some ?_
    refine po_gRn (t := 5) hW hi2 rfl rfl (by decide) (fun i3 ex3 hi3 => ?_)
    refine po_some ?_
    refine po_ck (wt_isO hW hi3 (by decide)) ?_
    refine po_ro (tX5_size hW hi3) (fun y4 ex4 p4 => ?_)
    dsimp only
    exact po_ret ⟨rfl, rfl, trivial⟩
  · refine po_eq (fun q5 => ?_) (fun q5 => ?_)
    · refine po_gRn (t := 7) hW h0 rfl rfl (by decide) (fun i6 ex6 hi6 => ?_)
      refine po_some ?_
      refine po_gI hW hi6 rfl rfl (by decide) (fun x7x ex7 (_ : True) => ?_)
      exact po_ret ⟨rfl, rfl, trivial⟩
    · refine po_eq (fun q8 => ?_) (fun q8 => ?_)
      · refine po_gRn (t := 7) hW h0 rfl rfl (by decide) (fun i9 ex9 hi9 => ?_)
        refine po_some ?_
        refine po_gI hW hi9 rfl rfl (by decide) (fun x10x ex10 (_ : True) => ?_)
        exact po_ret ⟨rfl, rfl, trivial⟩
      · refine po_eq (fun q11 => ?_) (fun q11 => ?_)
        · refine po_gRn (t := 1) hW h0 rfl rfl (by decide) (fun i12 ex12 hi12 => ?_)
          refine po_some ?_
          refine po_ck (wt_isO hW hi12 (by decide)) ?_
          refine po_ro (tX1_size hW hi12) (fun y13 ex13 p13 => ?_)
          dsimp only
          exact po_ret ⟨rfl, rfl, trivial⟩
        · refine po_eq (fun q14 => ?_) (fun q14 => ?_)
          · refine po_gRn (t := 7) hW h0 rfl rfl (by decide) (fun i15 ex15 hi15 => ?_)
            refine po_some ?_
            refine po_ck (wt_isO hW hi15 (by decide)) ?_
            refine po_ro (tX7_toldCount hW hi15) (fun y16 ex16 p16 => ?_)
            dsimp only
            exact po_ret ⟨rfl, rfl, trivial⟩
          · refine po_eq (fun q17 => ?_) (fun q17 => ?_)
            · refine po_gRn (t := 0) hW h0 rfl rfl (by decide) (fun i18 ex18 hi18 => ?_)
              refine po_some ?_
              refine po_gRm hW hi18 rfl rfl (fun i19 ex19 hi19 hm19 => ?_)
              refine po_some ?_
              refine po_ck (wt_isO hW hi19 (by decide)) ?_
              refine po_ro (tX5_size hW hi19) (fun y20 ex20 p20 => ?_)
              dsimp only
              exact po_ret ⟨rfl, rfl, trivial⟩
            · refine po_eq (fun q21 => ?_) (fun q21 => ?_)
              · refine po_gRn (t := 7) hW h0 rfl rfl (by decide) (fun i22 ex22 hi22 => ?_)
                refine po_some ?_
                refine po_gRn (t := 5) hW hi22 rfl rfl (by decide) (fun i23 ex23 hi23 => ?_)
                refine po_some ?_
                refine po_ck (wt_isO hW hi23 (by decide)) ?_
                refine po_ro (tX5_size hW hi23) (fun y24 ex24 p24 => ?_)
                dsimp only
                refine po_gRn (t := 1) hW h0 rfl rfl (by decide) (fun i25 ex25 hi25 => ?_)
                refine po_some ?_
                refine po_ck (wt_isO hW hi25 (by decide)) ?_
                refine po_ro (tX1_bytesInPieces hW hi25) (fun y26 ex26 p26 => ?_)
                dsimp only
                exact po_ret ⟨rfl, rfl, trivial⟩
              · refine po_eq (fun q27 => ?_) (fun q27 => ?_)
                · refine po_gRn (t := 7) hW h0 rfl rfl (by decide) (fun i28 ex28 hi28 => ?_)
                  refine po_some ?_
                  refine po_gI hW hi28 rfl rfl (by decide) (fun x29x ex29 (hx29 : x29x = 0 ∨ x29x = 1) => ?_)
                  refine po_eq (fun q30 => ?_) (fun q30 => ?_)
                  · unfold mX8_count_b164
                    exact po_ret ⟨rfl, rfl, trivial⟩
                  · unfold mX8_count_b164
                    exact po_ret ⟨rfl, rfl, trivial⟩
                · refine po_eq (fun q31 => ?_) (fun q31 => ?_)
                  · refine po_gRn (t := 7) hW h0 rfl rfl (by decide) (fun i32 ex32 hi32 => ?_)
                    refine po_some ?_
                    refine po_gI hW hi32 rfl rfl (by decide) (fun x33x ex33 (_ : True) => ?_)
                    exact po_ret ⟨rfl, rfl, trivial⟩
                  · refine po_eq (fun q34 => ?_) (fun q34 => ?_)
                    · refine po_gRn (t := 7) hW h0 rfl rfl (by decide) (fun i35 ex35 hi35 => ?_)
                      refine po_some ?_
                      refine po_gI hW hi35 rfl rfl (by decide) (fun x36x ex36 (_ : True) => ?_)
                      exact po_ret ⟨rfl, rfl, trivial⟩
                    · refine po_eq (fun q37 => ?_) (fun q37 => ?_)
                      · refine po_gRn (t := 1) hW h0 rfl rfl (by decide) (fun i38 ex38 hi38 => ?_)
                        refine po_some ?_
                        refine po_ck (wt_isO hW hi38 (by decide)) ?_
                        refine po_ro (tX1_unlikeCount hW hi38) (fun y39 ex39 p39 => ?_)
                        dsimp only
                        exact po_ret ⟨rfl, rfl, trivial⟩
                      · refine po_eq (fun q40 => ?_) (fun q40 => ?_)
                        · refine po_ck (wt_isO hW h0 (by decide)) ?_
                          refine po_ro (tX8_countAllWords hW h0) (fun y41 ex41 p41 => ?_)
                          dsimp only
                          exact po_ret ⟨rfl, rfl, trivial⟩
                        · refine po_eq (fun q42 => ?_) (fun q42 => ?_)
                          · refine po_gRn (t := 7) hW h0 rfl rfl (by decide) (fun i43 ex43 hi43 => ?_)
                            refine po_some ?_
                            refine po_gI hW hi43 rfl rfl (by decide) (fun x44x ex44 (hx44 : 0 ≤ x44x.toInt ∧ x44x.toInt ≤ 12) => ?_)
                            exact po_ret ⟨rfl, rfl, trivial⟩
                          · refine po_eq (fun q45 => ?_) (fun q45 => ?_)
                            · refine po_gRn (t := 1) hW h0 rfl rfl (by decide) (fun i46 ex46 hi46 => ?_)
                              refine po_some ?_
                              refine po_ck (wt_isO hW hi46 (by decide)) ?_
                              refine po_ro (tX1_longestText hW hi46) (fun y47 ex47 p47 => ?_)
                              dsimp only
                              exact po_ret ⟨rfl, rfl, trivial⟩
                            · refine po_eq (fun q48 => ?_) (fun q48 => ?_)
                              · refine po_gI hW h0 rfl rfl (by decide) (fun x49x ex49 (_ : True) => ?_)
                                exact po_ret ⟨rfl, rfl, trivial⟩
                              · exact po_ret ⟨rfl, rfl, trivial⟩
