set_option maxHeartbeats 1000000 in
theorem tX0_make_l16 {G : TE} {F0 : AH} {S : Int32} {n : Nat} : ∀ (d : Nat) (v0 : Nat) (v1 : Option Nat) (v2 : Option Nat) (v3 : Int32) (v4 : Int32) (v5 : Int32) (f : AH), WT G F0 S f n → G.1 v0 = 0 → (∃ i, v1 = some i ∧ G.1 i = 7) → (∃ i, v2 = some i ∧ G.1 i = 1) → (v4 = 0 ∨ v4 = 1) → (0 ≤ v5.toInt ∧ v5.toInt ≤ 2000) → 3000 - v5.toInt < (d : Int) → PO (mX0_make_l16 d v0 v1 v2 v3 v4 v5 f n) (fun v f' n' => n' = n ∧ WT G F0 S f' n ∧ (v = 0 ∨ v = 1)) := by
  intro d
  induction d with
  | zero =>
    intro v0 v1 v2 v3 v4 v5 f hW h0 h1 h2 h3 h4  hm
    exfalso
    obtain ⟨iv1, rfl, h1⟩ := h1
    obtain ⟨iv2, rfl, h2⟩ := h2
    omega
  | succ d ih =>
    intro v0 v1 v2 v3 v4 v5 f hW h0 h1 h2 h3 h4  hm
    obtain ⟨iv1, rfl, h1⟩ := h1
    obtain ⟨iv2, rfl, h2⟩ := h2
    show PO (((some iv2)).bind fun j1 => rCk (isO f j1 1) (((mX1_size j1 f n).bind fun r3 => (if r3.1 ≤ v5 then mX0_make_b211 v0 (some iv1) v3 v4 r3.2.1 r3.2.2 else (if v4 = (0 : Int32) then mX0_make_b211 v0 (some iv1) v3 v4 r3.2.1 r3.2.2 else rCk (isO r3.2.1 j1 1) (((mX1_get j1 v5 r3.2.1 r3.2.2).bind fun r6 => ((some r6.1).bind fun x8 => (oN x8 (mX0_make_b211 v0 (some iv1) v3 v4 r6.2.1 r6.2.2) (fun j9 => ((gR r6.2.1 v0 0 0).bind fun x10 => (((some iv1)).bind fun j11 => ((gR r6.2.1 j11 7 0).bind fun x12 => ((gI r6.2.1 j9 3 0).bind fun x13 => ((x10).bind fun j14 => rCk (isO r6.2.1 j14 5) (((mX5_addPart j14 x12 v3 x13 r6.2.1 r6.2.2).bind fun r16 => ((gI r16.2.1 j9 3 1).bind fun x18 => ((gR r16.2.1 v0 0 0).bind fun x19 => ((x19).bind fun j20 => rCk (isO r16.2.1 j20 5) (((mX5_size j20 r16.2.1 r16.2.2).bind fun r22 => ((pO r22.2.1 j9 3 9 (.int r22.1)).bind fun f24 => rCk (isO f24 j11 7) (((mX7_toldFor j11 v5 f24 r22.2.2).bind fun r26 => ((some r26.1).bind fun x28 => (oN x28 (((gR r26.2.1 v0 0 0).bind fun x30 => ((gR r26.2.1 j11 7 0).bind fun x31 => ((gI r26.2.1 j9 3 0).bind fun x32 => ((gI r26.2.1 j9 3 1).bind fun x33 => ((x30).bind fun j34 => rCk (isO r26.2.1 j34 5) (((mX5_addPart j34 x31 x32 x33 r26.2.1 r26.2.2).bind fun r36 => mX0_make_b169 (fun v0 v1 v2 v3 v4 v5 f n => mX0_make_l16 d v0 v1 v2 v3 v4 v5 f n) v0 (some j11) (some j1) x18 (r16.1 &&& r36.1) v5 (some j9) (none : Option Nat) r36.2.1 r36.2.2)))))))) (fun j29 => rCk (isO r26.2.1 v0 0) (((mX0_escape v0 (some j29) (some j9) (some j11) r26.2.1 r26.2.2).bind fun r39 => (if r39.1 = (0 : Int32) then mX0_make_b165 (fun v0 v1 v2 v3 v4 v5 f n => mX0_make_l16 d v0 v1 v2 v3 v4 v5 f n) v0 (some j11) (some j1) x18 v5 (some j9) (some j29) r16.1 r39.2.1 r39.2.2 else ((gR r39.2.1 v0 0 0).bind fun x41 => ((gR r39.2.1 v0 0 1).bind fun x42 => ((gR r39.2.1 v0 0 1).bind fun x43 => ((x43).bind fun j44 => rCk (isO r39.2.1 j44 5) (((mX5_size j44 r39.2.1 r39.2.2).bind fun r46 => ((x41).bind fun j48 => rCk (isO r46.2.1 j48 5) (((mX5_addPart j48 x42 (0 : Int32) r46.1 r46.2.1 r46.2.2).bind fun r50 => (if r50.1 = (0 : Int32) then mX0_make_b165 (fun v0 v1 v2 v3 v4 v5 f n => mX0_make_l16 d v0 v1 v2 v3 v4 v5 f n) v0 (some j11) (some j1) x18 v5 (some j9) (some j29) r16.1 r50.2.1 r50.2.2 else mX0_make_b166 (fun v0 v1 v2 v3 v4 v5 f n => mX0_make_l16 d v0 v1 v2 v3 v4 v5 f n) v0 (some j11) (some j1) x18 v5 (some j9) (some j29) r16.1 (1 : Int32) r50.2.1 r50.2.2))))))))))))))))))))))))))))))))))))))))) _
    refine po_some ?_
    refine po_ck (wt_isO hW h2 (by decide)) ?_
    refine po_ro (tX1_size hW h2) (fun y1 ex1 p1 => ?_)
    dsimp only
    refine po_le rfl rfl (fun q2 => ?_) (fun q2 => ?_)
    · unfold mX0_make_b211
      refine po_eq (fun q3 => ?_) (fun q3 => ?_)
      · unfold mX0_make_b242
        unfold mX0_make_b243
        refine po_ck (nb_of (Or.inl rfl)) ?_
        exact po_ret ⟨rfl, hW, (Or.inl rfl)⟩
      · refine po_gRm hW h0 rfl rfl (fun i4 ex4 hi4 hm4 => ?_)
        refine po_some ?_
        refine po_gRn (t := 5) hW h1 rfl rfl (by decide) (fun i5 ex5 hi5 => ?_)
        refine po_bind ex5 ?_
        refine po_some ?_
        refine po_ck (wt_isO hW hi5 (by decide)) ?_
        refine po_ro (tX5_size hW hi5) (fun y6 ex6 p6 => ?_)
        dsimp only
        refine po_some ?_
        refine po_ck (wt_isO hW hi4 (by decide)) ?_
        refine po_w (tX5_addPart hW hi4 hm4 ⟨_, rfl, hi5⟩) (fun y7 g7 hW7 p7 => ?_)
        dsimp only
        refine po_eq (fun q8 => ?_) (fun q8 => ?_)
        · unfold mX0_make_b242
          unfold mX0_make_b243
          refine po_ck (nb_of (Or.inl rfl)) ?_
          exact po_ret ⟨rfl, hW7, (Or.inl rfl)⟩
        · unfold mX0_make_b243
          refine po_ck (nb_of (Or.inr rfl)) ?_
          exact po_ret ⟨rfl, hW7, (Or.inr rfl)⟩
    · refine po_eq (fun q9 => ?_) (fun q9 => ?_)
      · unfold mX0_make_b211
        refine po_eq (fun q10 => ?_) (fun q10 => ?_)
        · unfold mX0_make_b242
          unfold mX0_make_b243
          refine po_ck (nb_of (Or.inl rfl)) ?_
          exact po_ret ⟨rfl, hW, (Or.inl rfl)⟩
        · refine po_gRm hW h0 rfl rfl (fun i11 ex11 hi11 hm11 => ?_)
          refine po_some ?_
          refine po_gRn (t := 5) hW h1 rfl rfl (by decide) (fun i12 ex12 hi12 => ?_)
          refine po_bind ex12 ?_
          refine po_some ?_
          refine po_ck (wt_isO hW hi12 (by decide)) ?_
          refine po_ro (tX5_size hW hi12) (fun y13 ex13 p13 => ?_)
          dsimp only
          refine po_some ?_
          refine po_ck (wt_isO hW hi11 (by decide)) ?_
          refine po_w (tX5_addPart hW hi11 hm11 ⟨_, rfl, hi12⟩) (fun y14 g14 hW14 p14 => ?_)
          dsimp only
          refine po_eq (fun q15 => ?_) (fun q15 => ?_)
          · unfold mX0_make_b242
            unfold mX0_make_b243
            refine po_ck (nb_of (Or.inl rfl)) ?_
            exact po_ret ⟨rfl, hW14, (Or.inl rfl)⟩
          · unfold mX0_make_b243
            refine po_ck (nb_of (Or.inr rfl)) ?_
            exact po_ret ⟨rfl, hW14, (Or.inr rfl)⟩
      · refine po_ck (wt_isO hW h2 (by decide)) ?_
        refine po_ro (tX1_get hW h2) (fun y16 ex16 p16 => ?_)
        dsimp only
        refine po_some ?_
        refine po_oN (fun q18 => ?_) (fun i17 q18 => ?_)
        · subst q18
          unfold mX0_make_b211
          refine po_eq (fun q19 => ?_) (fun q19 => ?_)
          · unfold mX0_make_b242
            unfold mX0_make_b243
            refine po_ck (nb_of (Or.inl rfl)) ?_
            exact po_ret ⟨rfl, hW, (Or.inl rfl)⟩
          · refine po_gRm hW h0 rfl rfl (fun i20 ex20 hi20 hm20 => ?_)
            refine po_some ?_
            refine po_gRn (t := 5) hW h1 rfl rfl (by decide) (fun i21 ex21 hi21 => ?_)
            refine po_bind ex21 ?_
            refine po_some ?_
            refine po_ck (wt_isO hW hi21 (by decide)) ?_
            refine po_ro (tX5_size hW hi21) (fun y22 ex22 p22 => ?_)
            dsimp only
            refine po_some ?_
            refine po_ck (wt_isO hW hi20 (by decide)) ?_
            refine po_w (tX5_addPart hW hi20 hm20 ⟨_, rfl, hi21⟩) (fun y23 g23 hW23 p23 => ?_)
            dsimp only
            refine po_eq (fun q24 => ?_) (fun q24 => ?_)
            · unfold mX0_make_b242
              unfold mX0_make_b243
              refine po_ck (nb_of (Or.inl rfl)) ?_
              exact po_ret ⟨rfl, hW23, (Or.inl rfl)⟩
            · unfold mX0_make_b243
              refine po_ck (nb_of (Or.inr rfl)) ?_
              exact po_ret ⟨rfl, hW23, (Or.inr rfl)⟩
        · subst q18
          refine po_gRm hW h0 rfl rfl (fun i25 ex25 hi25 hm25 => ?_)
          refine po_some ?_
          refine po_gRn (t := 5) hW h1 rfl rfl (by decide) (fun i26 ex26 hi26 => ?_)
          refine po_gI hW (p16 i17 rfl) rfl rfl (by decide) (fun x27x ex27 (_ : True) => ?_)
          refine po_some ?_
          refine po_ck (wt_isO hW hi25 (by decide)) ?_
          refine po_w (tX5_addPart hW hi25 hm25 ⟨_, rfl, hi26⟩) (fun y28 g28 hW28 p28 => ?_)
          dsimp only
          refine po_gI hW28 (p16 i17 rfl) rfl rfl (by decide) (fun x29x ex29 (_ : True) => ?_)
          refine po_gRm hW28 h0 rfl rfl (fun i30 ex30 hi30 hm30 => ?_)
          refine po_some ?_
          refine po_ck (wt_isO hW28 hi30 (by decide)) ?_
          refine po_ro (tX5_size hW28 hi30) (fun y31 ex31 p31 => ?_)
          dsimp only
          refine po_pI hW28 (p16 i17 rfl) rfl rfl (vv_i (by decide) trivial) (fun g32 hW32 ex32 => ?_)
          refine po_ck (wt_isO hW32 h1 (by decide)) ?_
          refine po_ro (tX7_toldFor hW32 h1) (fun y33 ex33 p33 => ?_)
          dsimp only
          refine po_some ?_
          refine po_oN (fun q35 => ?_) (fun i34 q35 => ?_)
          · subst q35
            refine po_gRm hW32 h0 rfl rfl (fun i36 ex36 hi36 hm36 => ?_)
            refine po_gRn (t := 5) hW32 h1 rfl rfl (by decide) (fun i37 ex37 hi37 => ?_)
            refine po_gI hW32 (p16 i17 rfl) rfl rfl (by decide) (fun x38x ex38 (_ : True) => ?_)
            refine po_gI hW32 (p16 i17 rfl) rfl rfl (by decide) (fun x39x ex39 (_ : True) => ?_)
            refine po_some ?_
            refine po_ck (wt_isO hW32 hi36 (by decide)) ?_
            refine po_w (tX5_addPart hW32 hi36 hm36 ⟨_, rfl, hi37⟩) (fun y40 g40 hW40 p40 => ?_)
            dsimp only
            unfold mX0_make_b169
            refine po_gRm hW40 h0 rfl rfl (fun i41 ex41 hi41 hm41 => ?_)
            refine po_some ?_
            refine po_ck (wt_isO hW40 hi41 (by decide)) ?_
            refine po_ro (tX5_size hW40 hi41) (fun y42 ex42 p42 => ?_)
            dsimp only
            refine po_some ?_
            refine po_gI hW40 (p16 i17 rfl) rfl rfl (by decide) (fun x43x ex43 (_ : True) => ?_)
            refine po_pI hW40 (p16 i17 rfl) rfl rfl (vv_i (by decide) trivial) (fun g44 hW44 ex44 => ?_)
            refine po_oNn ?_
            unfold mX0_make_b202
            refine po_some ?_
            refine po_pI hW44 (p16 i17 rfl) rfl rfl (vv_i (by decide) trivial) (fun g45 hW45 ex45 => ?_)
            have e46 : (v5 + (1 : Int32)).toInt = v5.toInt + 1 := i_add rfl kt_1 (by omega)
            exact (ih v0 (some iv1) (some iv2) x29x (y28 &&& y40) (v5 + (1 : Int32)) g45 hW45 h0 ⟨_, rfl, h1⟩ ⟨_, rfl, h2⟩ (nb_and p28 p40) (by omega)  (by omega))
          · subst q35
            refine po_ck (wt_isO hW32 h0 (by decide)) ?_
            refine po_w (tX0_escape hW32 h0 ⟨_, rfl, (p33 i34 rfl)⟩ (fun _ hi => Option.some.inj hi ▸ (p16 i17 rfl)) ⟨_, rfl, h1⟩) (fun y47 g47 hW47 p47 => ?_)
            dsimp only
            refine po_eq (fun q48 => ?_) (fun q48 => ?_)
            · unfold mX0_make_b165
              unfold mX0_make_b166
              unfold mX0_make_b169
              refine po_gRm hW47 h0 rfl rfl (fun i49 ex49 hi49 hm49 => ?_)
              refine po_some ?_
              refine po_ck (wt_isO hW47 hi49 (by decide)) ?_
              refine po_ro (tX5_size hW47 hi49) (fun y50 ex50 p50 => ?_)
              dsimp only
              refine po_some ?_
              refine po_gI hW47 (p16 i17 rfl) rfl rfl (by decide) (fun x51x ex51 (_ : True) => ?_)
              refine po_pI hW47 (p16 i17 rfl) rfl rfl (vv_i (by decide) trivial) (fun g52 hW52 ex52 => ?_)
              refine po_oNs ?_
              refine po_gI hW52 h0 rfl rfl (by decide) (fun x53x ex53 (_ : True) => ?_)
              unfold mX0_make_b202
              refine po_some ?_
              refine po_pI hW52 (p16 i17 rfl) rfl rfl (vv_i (by decide) trivial) (fun g54 hW54 ex54 => ?_)
              have e55 : (v5 + (1 : Int32)).toInt = v5.toInt + 1 := i_add rfl kt_1 (by omega)
              exact (ih v0 (some iv1) (some iv2) x29x (y28 &&& (0 : Int32)) (v5 + (1 : Int32)) g54 hW54 h0 ⟨_, rfl, h1⟩ ⟨_, rfl, h2⟩ (nb_and p28 (Or.inl rfl)) (by omega)  (by omega))
            · refine po_gRm hW47 h0 rfl rfl (fun i56 ex56 hi56 hm56 => ?_)
              refine po_gRm hW47 h0 rfl rfl (fun i57 ex57 hi57 hm57 => ?_)
              refine po_bind ex57 ?_
              refine po_some ?_
              refine po_ck (wt_isO hW47 hi57 (by decide)) ?_
              refine po_ro (tX5_size hW47 hi57) (fun y58 ex58 p58 => ?_)
              dsimp only
              refine po_some ?_
              refine po_ck (wt_isO hW47 hi56 (by decide)) ?_
              refine po_w (tX5_addPart hW47 hi56 hm56 ⟨_, rfl, hi57⟩) (fun y59 g59 hW59 p59 => ?_)
              dsimp only
              refine po_eq (fun q60 => ?_) (fun q60 => ?_)
              · unfold mX0_make_b165
                unfold mX0_make_b166
                unfold mX0_make_b169
                refine po_gRm hW59 h0 rfl rfl (fun i61 ex61 hi61 hm61 => ?_)
                refine po_some ?_
                refine po_ck (wt_isO hW59 hi61 (by decide)) ?_
                refine po_ro (tX5_size hW59 hi61) (fun y62 ex62 p62 => ?_)
                dsimp only
                refine po_some ?_
                refine po_gI hW59 (p16 i17 rfl) rfl rfl (by decide) (fun x63x ex63 (_ : True) => ?_)
                refine po_pI hW59 (p16 i17 rfl) rfl rfl (vv_i (by decide) trivial) (fun g64 hW64 ex64 => ?_)
                refine po_oNs ?_
                refine po_gI hW64 h0 rfl rfl (by decide) (fun x65x ex65 (_ : True) => ?_)
                unfold mX0_make_b202
                refine po_some ?_
                refine po_pI hW64 (p16 i17 rfl) rfl rfl (vv_i (by decide) trivial) (fun g66 hW66 ex66 => ?_)
                have e67 : (v5 + (1 : Int32)).toInt = v5.toInt + 1 := i_add rfl kt_1 (by omega)
                exact (ih v0 (some iv1) (some iv2) x29x (y28 &&& (0 : Int32)) (v5 + (1 : Int32)) g66 hW66 h0 ⟨_, rfl, h1⟩ ⟨_, rfl, h2⟩ (nb_and p28 (Or.inl rfl)) (by omega)  (by omega))
              · unfold mX0_make_b166
                unfold mX0_make_b169
                refine po_gRm hW59 h0 rfl rfl (fun i68 ex68 hi68 hm68 => ?_)
                refine po_some ?_
                refine po_ck (wt_isO hW59 hi68 (by decide)) ?_
                refine po_ro (tX5_size hW59 hi68) (fun y69 ex69 p69 => ?_)
                dsimp only
                refine po_some ?_
                refine po_gI hW59 (p16 i17 rfl) rfl rfl (by decide) (fun x70x ex70 (_ : True) => ?_)
                refine po_pI hW59 (p16 i17 rfl) rfl rfl (vv_i (by decide) trivial) (fun g71 hW71 ex71 => ?_)
                refine po_oNs ?_
                refine po_gI hW71 h0 rfl rfl (by decide) (fun x72x ex72 (_ : True) => ?_)
                unfold mX0_make_b202
                refine po_some ?_
                refine po_pI hW71 (p16 i17 rfl) rfl rfl (vv_i (by decide) trivial) (fun g73 hW73 ex73 => ?_)
                have e74 : (v5 + (1 : Int32)).toInt = v5.toInt + 1 := i_add rfl kt_1 (by omega)
                exact (ih v0 (some iv1) (some iv2) x29x (y28 &&& (1 : Int32)) (v5 + (1 : Int32)) g73 hW73 h0 ⟨_, rfl, h1⟩ ⟨_, rfl, h2⟩ (nb_and p28 (Or.inr rfl)) (by omega)  (by omega))
set_option maxHeartbeats 1000000 in
theorem tX0_make {G : TE} {F0 : AH} {S : Int32} {f : AH} {n : Nat} {v0 : Nat} {v1 : Option Nat} {v2 : Option Nat} (hW : WT G F0 S f n) (h0 : G.1 v0 = 0) (h1 : (∃ i, v1 = some i ∧ G.1 i = 7)) (h2 : (∃ i, v2 = some i ∧ G.1 i = 1)) : PO (mX0_make v0 v1 v2 f n) (fun v f' n' => n' = n ∧ WT G F0 S f' n ∧ (v = 0 ∨ v = 1)) := by
  obtain ⟨iv1, rfl, h1⟩ := h1
  obtain ⟨iv2, rfl, h2⟩ := h2
  have k_kt_0 := kt_0
  unfold mX0_make
  refine po_gRm hW h0 rfl rfl (fun i1 ex1 hi1 hm1 => ?_)
  refine po_some ?_
  refine po_ck (wt_isO hW hi1 (by decide)) ?_
  refine po_w (tX5_cutTo hW hi1 hm1) (fun y2 g2 hW2 p2 => ?_)
  dsimp only
  exact (tX0_make_l16 rFU v0 (some iv1) (some iv2) (0 : Int32) (1 : Int32) (0 : Int32) g2 hW2 h0 ⟨_, rfl, h1⟩ ⟨_, rfl, h2⟩ (Or.inr rfl) (by omega)  (by unfold rFU; omega))
set_option maxHeartbeats 1000000 in
theorem tX8_cutAnew {G : TE} {F0 : AH} {S : Int32} {f : AH} {n : Nat} {v0 : Nat} (hW : WT G F0 S f n) (h0 : G.1 v0 = 8) : PO (mX8_cutAnew v0 f n) (fun v f' n' => n' = n ∧ WT G F0 S f' n ∧ (v = 0)) := by
  unfold mX8_cutAnew
  refine po_ck rfl ?_
  refine po_pI hW h0 rfl rfl (vv_i (by decide) (Or.inl rfl)) (fun g1 hW1 ex1 => ?_)
  refine po_gRn (t := 7) hW1 h0 rfl rfl (by decide) (fun i2 ex2 hi2 => ?_)
  refine po_some ?_
  refine po_ck (wt_isO hW1 hi2 (by decide)) ?_
  refine po_w (tX7_forgetTold hW1 hi2) (fun y3 g3 hW3 p3 => ?_)
  dsimp only
  refine po_gRn (t := 1) hW3 h0 rfl rfl (by decide) (fun i4 ex4 hi4 => ?_)
  refine po_gRn (t := 7) hW3 h0 rfl rfl (by decide) (fun i5 ex5 hi5 => ?_)
  refine po_some ?_
  refine po_gRn (t := 5) hW3 hi5 rfl rfl (by decide) (fun i6 ex6 hi6 => ?_)
  refine po_bind ex5 ?_
  refine po_some ?_
  refine po_ck (wt_isO hW3 hi4 (by decide)) ?_
  refine po_w (tX1_find hW3 hi4 ⟨_, rfl, hi6⟩ ⟨_, rfl, hi5⟩) (fun y7 g7 hW7 p7 => ?_)
  dsimp only
  refine po_gRn (t := 0) hW7 h0 rfl rfl (by decide) (fun i8 ex8 hi8 => ?_)
  refine po_gRn (t := 7) hW7 h0 rfl rfl (by decide) (fun i9 ex9 hi9 => ?_)
  refine po_gRn (t := 1) hW7 h0 rfl rfl (by decide) (fun i10 ex10 hi10 => ?_)
  refine po_some ?_
  refine po_ck (wt_isO hW7 hi8 (by decide)) ?_
  refine po_w (tX0_make hW7 hi8 ⟨_, rfl, hi9⟩ ⟨_, rfl, hi10⟩) (fun y11 g11 hW11 p11 => ?_)
  dsimp only
  exact po_ret ⟨rfl, hW11, rfl⟩
set_option maxHeartbeats 1000000 in
theorem tX8_file {G : TE} {F0 : AH} {S : Int32} {f : AH} {n : Nat} {v0 : Nat} (hW : WT G F0 S f n) (h0 : G.1 v0 = 8) : PO (mX8_file v0 f n) (fun v f' n' => ∃ G', EXT G G' ∧ WT G' F0 0 f' n' ∧ (True)) := by
  have hT : G.1 1 = 5 := hW.2.2.2.2.2
  unfold mX8_file
  refine po_gRn (t := 7) hW h0 rfl rfl (by decide) (fun i1 ex1 hi1 => ?_)
  refine po_gR1 hW h0 (fun ex2 => ?_)
  refine po_bind ex2 ?_
  refine po_some ?_
  refine po_ck (wt_isO hW hT (by decide)) ?_
  refine po_ro (tX5_size hW hT) (fun y3 ex3 p3 => ?_)
  dsimp only
  have hs3 := sz_tape hW ex3
  refine po_some ?_
  refine po_ck (wt_isO hW hT (by decide)) ?_
  refine po_a (tX5_part (B := 400) hW hT (by omega)) (fun y4 g4 n4 G4 xt4 hW4 p4 => ?_)
  dsimp only
  obtain ⟨i4, rfl, hi4⟩ := p4
  refine po_some ?_
  refine po_some ?_
  refine po_pO hW4 (xt4.ty hi1 (by decide)) rfl rfl (vv_n (t := 5) (by decide) hi4) (fun g5 hW5 => ?_)
  refine po_gR1 hW5 (xt4.ty h0 (by decide)) (fun ex6 => ?_)
  refine po_some ?_
  refine po_ck (wt_isO hW5 (xt4.ty hT (by decide)) (by decide)) ?_
  refine po_w (tape0 hW5 (xt4.ty hT (by decide))) (fun y7 g7 hW7 p7 => ?_)
  dsimp only
  refine po_pI hW7 (xt4.ty h0 (by decide)) rfl rfl (vv_i (by decide) trivial) (fun g8 hW8 ex8 => ?_)
  refine po_ck (wt_isO hW8 (xt4.ty h0 (by decide)) (by decide)) ?_
  refine po_w (tX8_cutAnew hW8 (xt4.ty h0 (by decide))) (fun y9 g9 hW9 p9 => ?_)
  dsimp only
  refine po_gRn (t := 1) hW9 (xt4.ty h0 (by decide)) rfl rfl (by decide) (fun i10 ex10 hi10 => ?_)
  refine po_some ?_
  refine po_ck (wt_isO hW9 hi10 (by decide)) ?_
  refine po_ro (tX1_size hW9 hi10) (fun y11 ex11 p11 => ?_)
  dsimp only
  exact po_ret ⟨_, xt4, hW9, trivial⟩
set_option maxHeartbeats 1000000 in
theorem tX7_copyFrom_l104 {G : TE} {F0 : AH} {S : Int32} {n : Nat} : ∀ (d : Nat) (v0 : Nat) (v1 : Option Nat) (v2 : Int32) (f : AH), WT G F0 S f n → G.1 v0 = 7 → (∃ i, v1 = some i ∧ G.1 i = 7) → (0 ≤ v2.toInt ∧ v2.toInt ≤ 2000) → 3000 - v2.toInt < (d : Int) → PO (mX7_copyFrom_l104 d v0 v1 v2 f n) (fun v f' n' => n' = n ∧ WT G F0 S f' n ∧ (True)) := by
  intro d
  induction d with
  | zero =>
    intro v0 v1 v2 f hW h0 h1 h2  hm
    exfalso
    obtain ⟨iv1, rfl, h1⟩ := h1
    omega
  | succ d ih =>
    intro v0 v1 v2 f hW h0 h1 h2  hm
    obtain ⟨iv1, rfl, h1⟩ := h1
    show PO ((gR f v0 7 9).bind fun x1 => ((x1).bind fun j2 => ((gL f j2).bind fun x3 => (if (nI x3) ≤ v2 then mX7_copyFrom_b140 f n else (((some iv1)).bind fun j4 => ((gR f j4 7 9).bind fun x5 => ((x5).bind fun j6 => ((gL f j6).bind fun x7 => (if (nI x7) ≤ v2 then mX7_copyFrom_b140 f n else ((gR f v0 7 9).bind fun x8 => ((gR f j4 7 9).bind fun x9 => ((x9).bind fun j10 => ((gRA f j10 v2).bind fun x11 => ((x8).bind fun j12 => ((pRA f j12 v2 x11).bind fun f13 => mX7_copyFrom_l104 d v0 (some j4) (v2 + (1 : Int32)) f13 n))))))))))))))) _
    refine po_gRn (t := 11) hW h0 rfl rfl (by decide) (fun i1 ex1 hi1 => ?_)
    refine po_some ?_
    refine po_gL (N := 40) hW hi1 rfl rfl (by decide) ?_
    refine po_le kn_40 rfl (fun q2 => ?_) (fun q2 => ?_)
    · unfold mX7_copyFrom_b140
      exact po_ret ⟨rfl, hW, trivial⟩
    · refine po_some ?_
      refine po_gRn (t := 11) hW h1 rfl rfl (by decide) (fun i3 ex3 hi3 => ?_)
      refine po_some ?_
      refine po_gL (N := 40) hW hi3 rfl rfl (by decide) ?_
      refine po_le kn_40 rfl (fun q4 => ?_) (fun q4 => ?_)
      · unfold mX7_copyFrom_b140
        exact po_ret ⟨rfl, hW, trivial⟩
      · refine po_bind ex1 ?_
        refine po_bind ex3 ?_
        refine po_some ?_
        refine po_gRAo (N := 40) hW hi3 rfl rfl (by omega) (fun i5 hi5 => ?_)
        refine po_some ?_
        refine po_pRAo (N := 40) hW hi1 rfl rfl (by omega) hi5 (fun g6 hW6 => ?_)
        have e7 : (v2 + (1 : Int32)).toInt = v2.toInt + 1 := i_add rfl kt_1 (by omega)
        exact (ih v0 (some iv1) (v2 + (1 : Int32)) g6 hW6 h0 ⟨_, rfl, h1⟩ (by omega)  (by omega))
set_option maxHeartbeats 1000000 in
theorem tX7_copyFrom_l66 {G : TE} {F0 : AH} {S : Int32} {n : Nat} : ∀ (d : Nat) (v0 : Nat) (v1 : Option Nat) (v2 : Int32) (f : AH), WT G F0 S f n → G.1 v0 = 7 → (∃ i, v1 = some i ∧ G.1 i = 7) → (0 ≤ v2.toInt ∧ v2.toInt ≤ 2000) → 3000 - v2.toInt < (d : Int) → PO (mX7_copyFrom_l66 d v0 v1 v2 f n) (fun v f' n' => n' = n ∧ WT G F0 S f' n ∧ (True)) := by
  intro d
  induction d with
  | zero =>
    intro v0 v1 v2 f hW h0 h1 h2  hm
    exfalso
    obtain ⟨iv1, rfl, h1⟩ := h1
    omega
  | succ d ih =>
    intro v0 v1 v2 f hW h0 h1 h2  hm
    obtain ⟨iv1, rfl, h1⟩ := h1
    have k_kt_0 := kt_0
    show PO ((gR f v0 7 8).bind fun x1 => ((x1).bind fun j2 => ((gL f j2).bind fun x3 => (if (nI x3) ≤ v2 then mX7_copyFrom_b102 v0 (some iv1) f n else (((some iv1)).bind fun j4 => ((gR f j4 7 8).bind fun x5 => ((x5).bind fun j6 => ((gL f j6).bind fun x7 => (if (nI x7) ≤ v2 then mX7_copyFrom_b102 v0 (some j4) f n else ((gR f v0 7 8).bind fun x8 => ((gR f j4 7 8).bind fun x9 => ((x9).bind fun j10 => ((gRA f j10 v2).bind fun x11 => ((x8).bind fun j12 => ((pRA f j12 v2 x11).bind fun f13 => mX7_copyFrom_l66 d v0 (some j4) (v2 + (1 : Int32)) f13 n))))))))))))))) _
    refine po_gRn (t := 10) hW h0 rfl rfl (by decide) (fun i1 ex1 hi1 => ?_)
    refine po_some ?_
    refine po_gL (N := 4) hW hi1 rfl rfl (by decide) ?_
    refine po_le kn_4 rfl (fun q2 => ?_) (fun q2 => ?_)
    · unfold mX7_copyFrom_b102
      exact (tX7_copyFrom_l104 rFU v0 (some iv1) (0 : Int32) f hW h0 ⟨_, rfl, h1⟩ (by omega)  (by unfold rFU; omega))
    · refine po_some ?_
      refine po_gRn (t := 10) hW h1 rfl rfl (by decide) (fun i3 ex3 hi3 => ?_)
      refine po_some ?_
      refine po_gL (N := 4) hW hi3 rfl rfl (by decide) ?_
      refine po_le kn_4 rfl (fun q4 => ?_) (fun q4 => ?_)
      · unfold mX7_copyFrom_b102
        exact (tX7_copyFrom_l104 rFU v0 (some iv1) (0 : Int32) f hW h0 ⟨_, rfl, h1⟩ (by omega)  (by unfold rFU; omega))
      · refine po_bind ex1 ?_
        refine po_bind ex3 ?_
        refine po_some ?_
        refine po_gRAo (N := 4) hW hi3 rfl rfl (by omega) (fun i5 hi5 => ?_)
        refine po_some ?_
        refine po_pRAo (N := 4) hW hi1 rfl rfl (by omega) hi5 (fun g6 hW6 => ?_)
        have e7 : (v2 + (1 : Int32)).toInt = v2.toInt + 1 := i_add rfl kt_1 (by omega)
        exact (ih v0 (some iv1) (v2 + (1 : Int32)) g6 hW6 h0 ⟨_, rfl, h1⟩ (by omega)  (by omega))
set_option maxHeartbeats 1000000 in
theorem tX7_copyFrom {G : TE} {F0 : AH} {S : Int32} {f : AH} {n : Nat} {v0 : Nat} {v1 : Option Nat} (hW : WT G F0 S f n) (h0 : G.1 v0 = 7) (h1 : (∃ i, v1 = some i ∧ G.1 i = 7)) : PO (mX7_copyFrom v0 v1 f n) (fun v f' n' => n' = n ∧ WT G F0 S f' n ∧ (True)) := by
  obtain ⟨iv1, rfl, h1⟩ := h1
  have k_kt_0 := kt_0
  unfold mX7_copyFrom
  refine po_some ?_
  refine po_gRn (t := 5) hW h1 rfl rfl (by decide) (fun i1 ex1 hi1 => ?_)
  refine po_pO hW h0 rfl rfl (vv_n (t := 5) (by decide) hi1) (fun g2 hW2 => ?_)
  refine po_gI hW2 h1 rfl rfl (by decide) (fun x3x ex3 (_ : True) => ?_)
  refine po_pI hW2 h0 rfl rfl (vv_i (by decide) trivial) (fun g4 hW4 ex4 => ?_)
  refine po_gI hW4 h1 rfl rfl (by decide) (fun x5x ex5 (_ : True) => ?_)
  refine po_pI hW4 h0 rfl rfl (vv_i (by decide) trivial) (fun g6 hW6 ex6 => ?_)
  refine po_gI hW6 h1 rfl rfl (by decide) (fun x7x ex7 (hx7 : x7x = 0 ∨ x7x = 1) => ?_)
  refine po_ck (nb_of hx7) ?_
  refine po_pI hW6 h0 rfl rfl (vv_i (by decide) hx7) (fun g8 hW8 ex8 => ?_)
  refine po_gI hW8 h1 rfl rfl (by decide) (fun x9x ex9 (_ : True) => ?_)
  refine po_pI hW8 h0 rfl rfl (vv_i (by decide) trivial) (fun g10 hW10 ex10 => ?_)
  refine po_gI hW10 h1 rfl rfl (by decide) (fun x11x ex11 (_ : True) => ?_)
  refine po_pI hW10 h0 rfl rfl (vv_i (by decide) trivial) (fun g12 hW12 ex12 => ?_)
  refine po_gRo (t := 2) hW12 h1 rfl rfl (by decide) (fun i13 ex13 hi13 => ?_)
  refine po_pO hW12 h0 rfl rfl (vv_o (t := 2) (by decide) hi13) (fun g14 hW14 => ?_)
  refine po_gI hW14 h1 rfl rfl (by decide) (fun x15x ex15 (hx15 : 0 ≤ x15x.toInt ∧ x15x.toInt ≤ 12) => ?_)
  refine po_pI hW14 h0 rfl rfl (vv_i (by decide) (vi4 (by omega))) (fun g16 hW16 ex16 => ?_)
  exact (tX7_copyFrom_l66 rFU v0 (some iv1) (0 : Int32) g16 hW16 h0 ⟨_, rfl, h1⟩ (by omega)  (by unfold rFU; omega))
set_option maxHeartbeats 1000000 in
theorem tX7_addLock_l24 {G : TE} {F0 : AH} {S : Int32} {n : Nat} : ∀ (d : Nat) (v0 : Nat) (v1 : Option Nat) (v2 : Int32) (f : AH), WT G F0 S f n → G.1 v0 = 7 → (∀ i, v1 = some i → G.1 i = 5) → (0 ≤ v2.toInt ∧ v2.toInt ≤ 2000) → (∀ x : Int32, gI f v0 7 5 = some x → 0 ≤ x.toInt ∧ x.toInt < 4) → 3000 - v2.toInt < (d : Int) → PO (mX7_addLock_l24 d v0 v1 v2 f n) (fun v f' n' => n' = n ∧ WT G F0 S f' n ∧ (True)) := by
  intro d
  induction d with
  | zero =>
    intro v0 v1 v2 f hW h0 h1 h2 hx0 hm
    exfalso
    omega
  | succ d ih =>
    intro v0 v1 v2 f hW h0 h1 h2 hx0 hm
    show PO ((gI f v0 7 5).bind fun x1 => (if x1 ≤ v2 then ((gR f v0 7 8).bind fun x2 => ((gI f v0 7 5).bind fun x3 => ((x2).bind fun j4 => ((pRA f j4 x3 v1).bind fun f5 => ((gI f5 v0 7 5).bind fun x6 => ((pO f5 v0 7 5 (.int (x6 + (1 : Int32)))).bind fun f7 => some ((0 : Int32), (f7, n)))))))) else ((gR f v0 7 8).bind fun x8 => ((x8).bind fun j9 => ((gRA f j9 v2).bind fun x10 => (oN x10 (mX7_addLock_b75 (fun v0 v1 v2 f n => mX7_addLock_l24 d v0 v1 v2 f n) v0 v1 v2 f n) (fun j11 => (oN v1 (mX7_addLock_b75 (fun v0 v1 v2 f n => mX7_addLock_l24 d v0 v1 v2 f n) v0 (none : Option Nat) v2 f n) (fun j12 => rCk (isO f j11 5) (((mX5_size j11 f n).bind fun r14 => rCk (isO r14.2.1 j12 5) (((mX5_size j12 r14.2.1 r14.2.2).bind fun r17 => (if r14.1 = r17.1 then rCk (isO r17.2.1 j11 5) (((mX5_size j11 r17.2.1 r17.2.2).bind fun r20 => rCk (isO r20.2.1 j11 5) (((mX5_isSame j11 (0 : Int32) (some j12) (0 : Int32) r20.1 r20.2.1 r20.2.2).bind fun r23 => (if r23.1 = (0 : Int32) then mX7_addLock_b75 (fun v0 v1 v2 f n => mX7_addLock_l24 d v0 v1 v2 f n) v0 (some j12) v2 r23.2.1 r23.2.2 else some ((7 : Int32), (r23.2.1, r23.2.2))))))) else mX7_addLock_b75 (fun v0 v1 v2 f n => mX7_addLock_l24 d v0 v1 v2 f n) v0 (some j12) v2 r17.2.1 r17.2.2)))))))))))))) _
    refine po_gI hW h0 rfl rfl (by decide) (fun x1x ex1 (_ : True) => ?_)
    have hr1 := hx0 _ ex1
    refine po_le rfl rfl (fun q2 => ?_) (fun q2 => ?_)
    · refine po_gRn (t := 10) hW h0 rfl rfl (by decide) (fun i3 ex3 hi3 => ?_)
      refine po_bind ex1 ?_
      refine po_some ?_
      refine po_pRAo (N := 4) hW hi3 rfl rfl (by omega) h1 (fun g4 hW4 => ?_)
      refine po_gI hW4 h0 rfl rfl (by decide) (fun x5x ex5 (_ : True) => ?_)
      refine po_pI hW4 h0 rfl rfl (vv_i (by decide) trivial) (fun g6 hW6 ex6 => ?_)
      exact po_ret ⟨rfl, hW6, trivial⟩
    · refine po_gRn (t := 10) hW h0 rfl rfl (by decide) (fun i7 ex7 hi7 => ?_)
      refine po_some ?_
      refine po_gRAo (N := 4) hW hi7 rfl rfl (by omega) (fun i8 hi8 => ?_)
      refine po_oN (fun q10 => ?_) (fun i9 q10 => ?_)
      · subst q10
        unfold mX7_addLock_b75
        have e11 : (v2 + (1 : Int32)).toInt = v2.toInt + 1 := i_add rfl kt_1 (by omega)
        exact (ih v0 v1 (v2 + (1 : Int32)) f hW h0 h1 (by omega) hx0 (by omega))
      · subst q10
        refine po_oN (fun q13 => ?_) (fun i12 q13 => ?_)
        · subst q13
          unfold mX7_addLock_b75
          have e14 : (v2 + (1 : Int32)).toInt = v2.toInt + 1 := i_add rfl kt_1 (by omega)
          exact (ih v0 (none : Option Nat) (v2 + (1 : Int32)) f hW h0 (fun _ hi => nomatch hi) (by omega) hx0 (by omega))
        · subst q13
          refine po_ck (wt_isO hW (hi8 i9 rfl) (by decide)) ?_
          refine po_ro (tX5_size hW (hi8 i9 rfl)) (fun y15 ex15 p15 => ?_)
          dsimp only
          refine po_ck (wt_isO hW (h1 i12 rfl) (by decide)) ?_
          refine po_ro (tX5_size hW (h1 i12 rfl)) (fun y16 ex16 p16 => ?_)
          dsimp only
          refine po_eq (fun q17 => ?_) (fun q17 => ?_)
          · refine po_ck (wt_isO hW (hi8 i9 rfl) (by decide)) ?_
            refine po_bind ex15 ?_
            dsimp only
            refine po_ck (wt_isO hW (hi8 i9 rfl) (by decide)) ?_
            refine po_ro (tX5_isSame hW (hi8 i9 rfl) ⟨_, rfl, (h1 i12 rfl)⟩ (by omega)) (fun y18 ex18 p18 => ?_)
            dsimp only
            refine po_eq (fun q19 => ?_) (fun q19 => ?_)
            · unfold mX7_addLock_b75
              have e20 : (v2 + (1 : Int32)).toInt = v2.toInt + 1 := i_add rfl kt_1 (by omega)
              exact (ih v0 (some i12) (v2 + (1 : Int32)) f hW h0 (fun _ hi => Option.some.inj hi ▸ (h1 i12 rfl)) (by omega) hx0 (by omega))
            · exact po_ret ⟨rfl, hW, trivial⟩
          · unfold mX7_addLock_b75
            have e21 : (v2 + (1 : Int32)).toInt = v2.toInt + 1 := i_add rfl kt_1 (by omega)
            exact (ih v0 (some i12) (v2 + (1 : Int32)) f hW h0 (fun _ hi => Option.some.inj hi ▸ (h1 i12 rfl)) (by omega) hx0 (by omega))
set_option maxHeartbeats 1000000 in
theorem tX7_addLock {G : TE} {F0 : AH} {S : Int32} {f : AH} {n : Nat} {v0 : Nat} {v1 : Option Nat} (hW : WT G F0 S f n) (h0 : G.1 v0 = 7) (h1 : (∀ i, v1 = some i → G.1 i = 5)) : PO (mX7_addLock v0 v1 f n) (fun v f' n' => n' = n ∧ WT G F0 S f' n ∧ (True)) := by
  have k_kt_0 := kt_0
  unfold mX7_addLock
  refine po_gI hW h0 rfl rfl (by decide) (fun x1x ex1 (_ : True) => ?_)
  refine po_lt rfl kt_0 (fun q2 => ?_) (fun q2 => ?_)
  · unfold mX7_addLock_b19
    exact po_ret ⟨rfl, hW, trivial⟩
  · refine po_bind ex1 ?_
    refine po_gRn (t := 10) hW h0 rfl rfl (by decide) (fun i3 ex3 hi3 => ?_)
    refine po_some ?_
    refine po_gL (N := 4) hW hi3 rfl rfl (by decide) ?_
    refine po_lt rfl kn_4 (fun q4 => ?_) (fun q4 => ?_)
    · exact (tX7_addLock_l24 rFU v0 v1 (0 : Int32) f hW h0 h1 (by omega) (fun x hx => by rw [ex1] at hx; cases hx; omega) (by unfold rFU; omega))
    · unfold mX7_addLock_b19
      exact po_ret ⟨rfl, hW, trivial⟩
set_option maxHeartbeats 1000000 in
theorem tX7_setTold {G : TE} {F0 : AH} {S : Int32} {f : AH} {n : Nat} {v0 : Nat} {v1 : Int32} {v2 : Option Nat} (hW : WT G F0 S f n) (h0 : G.1 v0 = 7) (h1 : (∀ i, v2 = some i → G.1 i = 5)) : PO (mX7_setTold v0 v1 v2 f n) (fun v f' n' => n' = n ∧ WT G F0 S f' n ∧ (True)) := by
  unfold mX7_setTold
  refine po_lt rfl kt_0 (fun q1 => ?_) (fun q1 => ?_)
  · unfold mX7_setTold_b20
    exact po_ret ⟨rfl, hW, trivial⟩
  · refine po_gRn (t := 11) hW h0 rfl rfl (by decide) (fun i2 ex2 hi2 => ?_)
    refine po_some ?_
    refine po_gL (N := 40) hW hi2 rfl rfl (by decide) ?_
    refine po_le kn_40 rfl (fun q3 => ?_) (fun q3 => ?_)
    · unfold mX7_setTold_b20
      exact po_ret ⟨rfl, hW, trivial⟩
    · refine po_bind ex2 ?_
      refine po_some ?_
      refine po_pRAo (N := 40) hW hi2 rfl rfl (by omega) h1 (fun g4 hW4 => ?_)
      unfold mX7_setTold_b20
      exact po_ret ⟨rfl, hW4, trivial⟩
set_option maxHeartbeats 1000000 in
theorem tX8_freePiece {G : TE} {F0 : AH} {S : Int32} {f : AH} {n : Nat} {v0 : Nat} {v1 : Int32} (hW : WT G F0 S f n) (h0 : G.1 v0 = 8) : PO (mX8_freePiece v0 v1 f n) (fun v f' n' => n' = n ∧ WT G F0 S f' n ∧ (True)) := by
  unfold mX8_freePiece
  refine po_gRn (t := 1) hW h0 rfl rfl (by decide) (fun i1 ex1 hi1 => ?_)
  refine po_some ?_
  refine po_ck (wt_isO hW hi1 (by decide)) ?_
  refine po_ro (tX1_get hW hi1) (fun y2 ex2 p2 => ?_)
  dsimp only
  refine po_some ?_
  refine po_oN (fun q4 => ?_) (fun i3 q4 => ?_)
  · subst q4
    exact po_ret ⟨rfl, hW, trivial⟩
  · subst q4
    refine po_gRn (t := 7) hW h0 rfl rfl (by decide) (fun i5 ex5 hi5 => ?_)
    refine po_some ?_
    refine po_ck (wt_isO hW hi5 (by decide)) ?_
    refine po_ro (tX7_toldFor hW hi5) (fun y6 ex6 p6 => ?_)
    dsimp only
    refine po_some ?_
    refine po_oN (fun q8 => ?_) (fun i7 q8 => ?_)
    · subst q8
      exact po_ret ⟨rfl, hW, trivial⟩
    · subst q8
      refine po_bind ex5 ?_
      refine po_some ?_
      refine po_ck (wt_isO hW hi5 (by decide)) ?_
      refine po_w (tX7_setTold hW hi5 (fun _ hi => nomatch hi)) (fun y9 g9 hW9 p9 => ?_)
      dsimp only
      refine po_gRn (t := 0) hW9 h0 rfl rfl (by decide) (fun i10 ex10 hi10 => ?_)
      refine po_gRn (t := 7) hW9 h0 rfl rfl (by decide) (fun i11 ex11 hi11 => ?_)
      refine po_gRn (t := 1) hW9 h0 rfl rfl (by decide) (fun i12 ex12 hi12 => ?_)
      refine po_some ?_
      refine po_ck (wt_isO hW9 hi10 (by decide)) ?_
      refine po_w (tX0_make hW9 hi10 ⟨_, rfl, hi11⟩ ⟨_, rfl, hi12⟩) (fun y13 g13 hW13 p13 => ?_)
      dsimp only
      refine po_eq (fun q14 => ?_) (fun q14 => ?_)
      · unfold mX8_freePiece_b58
        exact po_ret ⟨rfl, hW13, trivial⟩
      · unfold mX8_freePiece_b58
        exact po_ret ⟨rfl, hW13, trivial⟩
set_option maxHeartbeats 1000000 in
theorem tX1_areLike {G : TE} {F0 : AH} {S : Int32} {f : AH} {n : Nat} {v0 : Nat} {v1 : Int32} {v2 : Int32} (hW : WT G F0 S f n) (h0 : G.1 v0 = 1) : PO (mX1_areLike v0 v1 v2 f n) (fun v f' n' => f' = f ∧ n' = n ∧ (v = 0 ∨ v = 1)) := by
  unfold mX1_areLike
  refine po_ck (wt_isO hW h0 (by decide)) ?_
  refine po_ro (tX1_get hW h0) (fun y1 ex1 p1 => ?_)
  dsimp only
  refine po_some ?_
  refine po_ck (wt_isO hW h0 (by decide)) ?_
  refine po_ro (tX1_get hW h0) (fun y2 ex2 p2 => ?_)
  dsimp only
  refine po_some ?_
  refine po_oN (fun q4 => ?_) (fun i3 q4 => ?_)
  · subst q4
    unfold mX1_areLike_b65
    unfold mX1_areLike_b66
    refine po_ck (nb_of (Or.inl rfl)) ?_
    exact po_ret ⟨rfl, rfl, (Or.inl rfl)⟩
  · subst q4
    refine po_oN (fun q6 => ?_) (fun i5 q6 => ?_)
    · subst q6
      unfold mX1_areLike_b65
      unfold mX1_areLike_b66
      refine po_ck (nb_of (Or.inl rfl)) ?_
      exact po_ret ⟨rfl, rfl, (Or.inl rfl)⟩
    · subst q6
      refine po_gI hW (p1 i3 rfl) rfl rfl (by decide) (fun x7x ex7 (hx7 : (-700) ≤ x7x.toInt ∧ x7x.toInt ≤ 700) => ?_)
      refine po_gI hW (p2 i5 rfl) rfl rfl (by decide) (fun x8x ex8 (hx8 : (-700) ≤ x8x.toInt ∧ x8x.toInt ≤ 700) => ?_)
      refine po_eq (fun q9 => ?_) (fun q9 => ?_)
      · refine po_gRm hW h0 rfl rfl (fun i10 ex10 hi10 hm10 => ?_)
        refine po_gI hW (p1 i3 rfl) rfl rfl (by decide) (fun x11x ex11 (hx11 : 0 ≤ x11x.toInt ∧ x11x.toInt ≤ 600) => ?_)
        refine po_bind ex10 ?_
        refine po_gI hW (p2 i5 rfl) rfl rfl (by decide) (fun x12x ex12 (hx12 : 0 ≤ x12x.toInt ∧ x12x.toInt ≤ 600) => ?_)
        refine po_bind ex7 ?_
        refine po_some ?_
        refine po_ck (wt_isO hW hi10 (by decide)) ?_
        refine po_ro (tX5_isSame hW hi10 ⟨_, rfl, hi10⟩ (by omega)) (fun y13 ex13 p13 => ?_)
        dsimp only
        refine po_eq (fun q14 => ?_) (fun q14 => ?_)
        · unfold mX1_areLike_b65
          unfold mX1_areLike_b66
          refine po_ck (nb_of (Or.inl rfl)) ?_
          exact po_ret ⟨rfl, rfl, (Or.inl rfl)⟩
        · unfold mX1_areLike_b66
          refine po_ck (nb_of (Or.inr rfl)) ?_
          exact po_ret ⟨rfl, rfl, (Or.inr rfl)⟩
      · unfold mX1_areLike_b65
        unfold mX1_areLike_b66
        refine po_ck (nb_of (Or.inl rfl)) ?_
        exact po_ret ⟨rfl, rfl, (Or.inl rfl)⟩
set_option maxHeartbeats 1000000 in
theorem tX8_spreadPiece_l86 {G : TE} {F0 : AH} {S : Int32} {n : Nat} : ∀ (d : Nat) (v0 : Nat) (v1 : Int32) (v2 : Option Nat) (v3 : Int32) (f : AH), WT G F0 S f n → G.1 v0 = 8 → (∃ i, v2 = some i ∧ G.1 i = 5) → (0 ≤ v3.toInt ∧ v3.toInt ≤ 2000) → 3000 - v3.toInt < (d : Int) → PO (mX8_spreadPiece_l86 d v0 v1 v2 v3 f n) (fun v f' n' => n' = n ∧ WT G F0 S f' n ∧ (True)) := by
  intro d
  induction d with
  | zero =>
    intro v0 v1 v2 v3 f hW h0 h1 h2  hm
    exfalso
    obtain ⟨iv2, rfl, h1⟩ := h1
    omega
  | succ d ih =>
    intro v0 v1 v2 v3 f hW h0 h1 h2  hm
    obtain ⟨iv2, rfl, h1⟩ := h1
    show PO ((gR f v0 8 5).bind fun x1 => ((x1).bind fun j2 => rCk (isO f j2 1) (((mX1_size j2 f n).bind fun r4 => (if r4.1 ≤ v3 then ((gR r4.2.1 v0 8 7).bind fun x6 => ((gR r4.2.1 v0 8 1).bind fun x7 => ((gR r4.2.1 v0 8 5).bind fun x8 => ((x6).bind fun j9 => rCk (isO r4.2.1 j9 0) (((mX0_make j9 x7 x8 r4.2.1 r4.2.2).bind fun r11 => (if r11.1 = (0 : Int32) then mX8_spreadPiece_b147 (3 : Int32) r11.2.1 r11.2.2 else mX8_spreadPiece_b147 (0 : Int32) r11.2.1 r11.2.2))))))) else ((gR r4.2.1 v0 8 5).bind fun x13 => ((x13).bind fun j14 => rCk (isO r4.2.1 j14 1) (((mX1_areLike j14 v1 v3 r4.2.1 r4.2.2).bind fun r16 => (if r16.1 = (0 : Int32) then mX8_spreadPiece_b118 (fun v0 v1 v2 v3 f n => mX8_spreadPiece_l86 d v0 v1 v2 v3 f n) v0 v1 (some iv2) v3 r16.2.1 r16.2.2 else ((gR r16.2.1 v0 8 1).bind fun x18 => ((x18).bind fun j19 => rCk (isO r16.2.1 j19 7) (((mX7_setTold j19 v3 (some iv2) r16.2.1 r16.2.2).bind fun r21 => mX8_spreadPiece_b118 (fun v0 v1 v2 v3 f n => mX8_spreadPiece_l86 d v0 v1 v2 v3 f n) v0 v1 (some iv2) v3 r21.2.1 r21.2.2)))))))))))))) _
    refine po_gRn (t := 1) hW h0 rfl rfl (by decide) (fun i1 ex1 hi1 => ?_)
    refine po_some ?_
    refine po_ck (wt_isO hW hi1 (by decide)) ?_
    refine po_ro (tX1_size hW hi1) (fun y2 ex2 p2 => ?_)
    dsimp only
    refine po_le rfl rfl (fun q3 => ?_) (fun q3 => ?_)
    · refine po_gRn (t := 0) hW h0 rfl rfl (by decide) (fun i4 ex4 hi4 => ?_)
      refine po_gRn (t := 7) hW h0 rfl rfl (by decide) (fun i5 ex5 hi5 => ?_)
      refine po_bind ex1 ?_
      refine po_some ?_
      refine po_ck (wt_isO hW hi4 (by decide)) ?_
      refine po_w (tX0_make hW hi4 ⟨_, rfl, hi5⟩ ⟨_, rfl, hi1⟩) (fun y6 g6 hW6 p6 => ?_)
      dsimp only
      refine po_eq (fun q7 => ?_) (fun q7 => ?_)
      · unfold mX8_spreadPiece_b147
        exact po_ret ⟨rfl, hW6, trivial⟩
      · unfold mX8_spreadPiece_b147
        exact po_ret ⟨rfl, hW6, trivial⟩
    · refine po_bind ex1 ?_
      refine po_some ?_
      refine po_ck (wt_isO hW hi1 (by decide)) ?_
      refine po_ro (tX1_areLike hW hi1) (fun y8 ex8 p8 => ?_)
      dsimp only
      refine po_eq (fun q9 => ?_) (fun q9 => ?_)
      · unfold mX8_spreadPiece_b118
        have e10 : (v3 + (1 : Int32)).toInt = v3.toInt + 1 := i_add rfl kt_1 (by omega)
        exact (ih v0 v1 (some iv2) (v3 + (1 : Int32)) f hW h0 ⟨_, rfl, h1⟩ (by omega)  (by omega))
      · refine po_gRn (t := 7) hW h0 rfl rfl (by decide) (fun i11 ex11 hi11 => ?_)
        refine po_some ?_
        refine po_ck (wt_isO hW hi11 (by decide)) ?_
        refine po_w (tX7_setTold hW hi11 (fun _ hi => Option.some.inj hi ▸ h1)) (fun y12 g12 hW12 p12 => ?_)
        dsimp only
        unfold mX8_spreadPiece_b118
        have e13 : (v3 + (1 : Int32)).toInt = v3.toInt + 1 := i_add rfl kt_1 (by omega)
        exact (ih v0 v1 (some iv2) (v3 + (1 : Int32)) g12 hW12 h0 ⟨_, rfl, h1⟩ (by omega)  (by omega))
set_option maxHeartbeats 1000000 in
theorem tX8_spreadPiece_l30 {G : TE} {F0 : AH} {S : Int32} {n : Nat} : ∀ (d : Nat) (v0 : Nat) (v1 : Int32) (v2 : Option Nat) (v3 : Int32) (f : AH), WT G F0 S f n → G.1 v0 = 8 → (∃ i, v2 = some i ∧ G.1 i = 5) → (0 ≤ v3.toInt ∧ v3.toInt ≤ 2000) → 3000 - v3.toInt < (d : Int) → PO (mX8_spreadPiece_l30 d v0 v1 v2 v3 f n) (fun v f' n' => n' = n ∧ WT G F0 S f' n ∧ (True)) := by
  intro d
  induction d with
  | zero =>
    intro v0 v1 v2 v3 f hW h0 h1 h2  hm
    exfalso
    obtain ⟨iv2, rfl, h1⟩ := h1
    omega
  | succ d ih =>
    intro v0 v1 v2 v3 f hW h0 h1 h2  hm
    obtain ⟨iv2, rfl, h1⟩ := h1
    have k_kt_0 := kt_0
    show PO ((gR f v0 8 5).bind fun x1 => ((x1).bind fun j2 => rCk (isO f j2 1) (((mX1_size j2 f n).bind fun r4 => (if r4.1 ≤ v3 then mX8_spreadPiece_l86 rFU v0 v1 (some iv2) (0 : Int32) r4.2.1 r4.2.2 else ((gR r4.2.1 v0 8 5).bind fun x6 => ((x6).bind fun j7 => rCk (isO r4.2.1 j7 1) (((mX1_areLike j7 v1 v3 r4.2.1 r4.2.2).bind fun r9 => (if r9.1 = (0 : Int32) then mX8_spreadPiece_b78 (fun v0 v1 v2 v3 f n => mX8_spreadPiece_l30 d v0 v1 v2 v3 f n) v0 v1 (some iv2) v3 r9.2.1 r9.2.2 else ((gR r9.2.1 v0 8 7).bind fun x11 => ((gR r9.2.1 v0 8 5).bind fun x12 => ((x12).bind fun j13 => rCk (isO r9.2.1 j13 1) (((mX1_get j13 v3 r9.2.1 r9.2.2).bind fun r15 => ((some r15.1).bind fun x17 => ((gR r15.2.1 v0 8 1).bind fun x18 => ((x11).bind fun j19 => rCk (isO r15.2.1 j19 0) (((mX0_escape j19 (some iv2) x17 x18 r15.2.1 r15.2.2).bind fun r21 => (if r21.1 = (0 : Int32) then some ((2 : Int32), (r21.2.1, r21.2.2)) else mX8_spreadPiece_b78 (fun v0 v1 v2 v3 f n => mX8_spreadPiece_l30 d v0 v1 v2 v3 f n) v0 v1 (some iv2) v3 r21.2.1 r21.2.2))))))))))))))))))))) _
    refine po_gRn (t := 1) hW h0 rfl rfl (by decide) (fun i1 ex1 hi1 => ?_)
    refine po_some ?_
    refine po_ck (wt_isO hW hi1 (by decide)) ?_
    refine po_ro (tX1_size hW hi1) (fun y2 ex2 p2 => ?_)
    dsimp only
    refine po_le rfl rfl (fun q3 => ?_) (fun q3 => ?_)
    · exact (tX8_spreadPiece_l86 rFU v0 v1 (some iv2) (0 : Int32) f hW h0 ⟨_, rfl, h1⟩ (by omega)  (by unfold rFU; omega))
    · refine po_bind ex1 ?_
      refine po_some ?_
      refine po_ck (wt_isO hW hi1 (by decide)) ?_
      refine po_ro (tX1_areLike hW hi1) (fun y4 ex4 p4 => ?_)
      dsimp only
      refine po_eq (fun q5 => ?_) (fun q5 => ?_)
      · unfold mX8_spreadPiece_b78
        have e6 : (v3 + (1 : Int32)).toInt = v3.toInt + 1 := i_add rfl kt_1 (by omega)
        exact (ih v0 v1 (some iv2) (v3 + (1 : Int32)) f hW h0 ⟨_, rfl, h1⟩ (by omega)  (by omega))
      · refine po_gRn (t := 0) hW h0 rfl rfl (by decide) (fun i7 ex7 hi7 => ?_)
        refine po_bind ex1 ?_
        refine po_some ?_
        refine po_ck (wt_isO hW hi1 (by decide)) ?_
        refine po_ro (tX1_get hW hi1) (fun y8 ex8 p8 => ?_)
        dsimp only
        refine po_some ?_
        refine po_gRn (t := 7) hW h0 rfl rfl (by decide) (fun i9 ex9 hi9 => ?_)
        refine po_some ?_
        refine po_ck (wt_isO hW hi7 (by decide)) ?_
        refine po_w (tX0_escape hW hi7 ⟨_, rfl, h1⟩ p8 ⟨_, rfl, hi9⟩) (fun y10 g10 hW10 p10 => ?_)
        dsimp only
        refine po_eq (fun q11 => ?_) (fun q11 => ?_)
        · exact po_ret ⟨rfl, hW10, trivial⟩
        · unfold mX8_spreadPiece_b78
          have e12 : (v3 + (1 : Int32)).toInt = v3.toInt + 1 := i_add rfl kt_1 (by omega)
          exact (ih v0 v1 (some iv2) (v3 + (1 : Int32)) g10 hW10 h0 ⟨_, rfl, h1⟩ (by omega)  (by omega))
set_option maxHeartbeats 1000000 in
theorem tX8_spreadPiece {G : TE} {F0 : AH} {S : Int32} {f : AH} {n : Nat} {v0 : Nat} {v1 : Int32} (hW : WT G F0 S f n) (h0 : G.1 v0 = 8) : PO (mX8_spreadPiece v0 v1 f n) (fun v f' n' => n' = n ∧ WT G F0 S f' n ∧ (True)) := by
  have k_kt_0 := kt_0
  unfold mX8_spreadPiece
  refine po_gRn (t := 1) hW h0 rfl rfl (by decide) (fun i1 ex1 hi1 => ?_)
  refine po_some ?_
  refine po_ck (wt_isO hW hi1 (by decide)) ?_
  refine po_ro (tX1_get hW hi1) (fun y2 ex2 p2 => ?_)
  dsimp only
  refine po_some ?_
  refine po_oN (fun q4 => ?_) (fun i3 q4 => ?_)
  · subst q4
    exact po_ret ⟨rfl, hW, trivial⟩
  · subst q4
    refine po_gRn (t := 7) hW h0 rfl rfl (by decide) (fun i5 ex5 hi5 => ?_)
    refine po_some ?_
    refine po_ck (wt_isO hW hi5 (by decide)) ?_
    refine po_ro (tX7_toldFor hW hi5) (fun y6 ex6 p6 => ?_)
    dsimp only
    refine po_some ?_
    refine po_oN (fun q8 => ?_) (fun i7 q8 => ?_)
    · subst q8
      exact po_ret ⟨rfl, hW, trivial⟩
    · subst q8
      exact (tX8_spreadPiece_l30 rFU v0 v1 (some i7) (0 : Int32) f hW h0 ⟨_, rfl, (p6 i7 rfl)⟩ (by omega)  (by unfold rFU; omega))
theorem tX8_nowSize {G : TE} {F0 : AH} {S : Int32} {f : AH} {n : Nat} {v0 : Nat} {v1 : Int32} {v2 : Option Nat} (hW : WT G F0 S f n) (h0 : G.1 v0 = 8) (h1 : (∃ i, v2 = some i ∧ G.1 i = 3)) : PO (mX8_nowSize v0 v1 v2 f n) (fun v f' n' => f' = f ∧ n' = n ∧ (v.toInt ≤ 60 → ∀ p, v2 = some p → L60 f n v0 v1 p)) := by
  obtain ⟨iv2, rfl, h1⟩ := h1
  unfold mX8_nowSize
  refine po_gRn (t := 7) hW h0 rfl rfl (by decide) (fun i1 ex1 hi1 => ?_)
  refine po_some ?_
  refine po_ck (wt_isO hW hi1 (by decide)) ?_
  refine po_ro (tX7_toldFor hW hi1) (fun y4 ex4 p4 => ?_)
  dsimp only
  refine po_some ?_
  refine po_oN (fun q => ?_) (fun j q => ?_)
  · subst q
    refine po_some ?_
    refine po_gI hW h1 rfl rfl (by decide) (fun x9 ex9 (_ : -700 ≤ x9.toInt ∧ x9.toInt ≤ 700) => ?_)
    unfold mX8_nowSize_b24
    refine po_ret ⟨rfl, rfl, fun hh p hp => ?_⟩
    cases hp
    intro st x e1 e2 e3
    rw [ex9] at e3; cases e3; exact hh
  · subst q
    refine po_ck (wt_isO hW (p4 j rfl) (by decide)) ?_
    refine po_ro (tX5_size hW (p4 j rfl)) (fun y11 ex11 p11 => ?_)
    dsimp only
    unfold mX8_nowSize_b24
    refine po_ret ⟨rfl, rfl, fun hh p hp => ?_⟩
    intro st x e1 e2 e3
    rw [ex1] at e1; cases e1
    rw [ex4] at e2; cases e2
theorem tX8_copyOfNow {G : TE} {F0 : AH} {S : Int32} {f : AH} {n : Nat} {v0 : Nat} {v1 : Int32} {v2 : Option Nat} (hW : WT G F0 S f n) (h0 : G.1 v0 = 8) (h1 : (∃ i, v2 = some i ∧ G.1 i = 3)) (hL : ∀ p, v2 = some p → L60 f n v0 v1 p) : PO (mX8_copyOfNow v0 v1 v2 f n) (fun v f' n' => ∃ G', EXT G G' ∧ WT G' F0 S f' n' ∧ ((∃ i, v = some i ∧ G'.1 i = 5) ∧ ∀ j, j < n → f' j = f j)) := by
  obtain ⟨iv2, rfl, h1⟩ := h1
  unfold mX8_copyOfNow
  refine po_gRn (t := 7) hW h0 rfl rfl (by decide) (fun i1 ex1 hi1 => ?_)
  refine po_some ?_
  refine po_ck (wt_isO hW hi1 (by decide)) ?_
  refine po_ro (tX7_toldFor hW hi1) (fun y4 ex4 p4 => ?_)
  dsimp only
  refine po_some ?_
  refine po_oN (fun q => ?_) (fun j q => ?_)
  · subst q
    refine po_gRn (t := 1) hW h0 rfl rfl (by decide) (fun i8 ex8 hi8 => ?_)
    refine po_some ?_
    refine po_gRm hW hi8 rfl rfl (fun i10 ex10 hi10 hm10 => ?_)
    refine po_some ?_
    refine po_gI hW h1 rfl rfl (by decide) (fun x12 ex12 (hx12 : 0 ≤ x12.toInt ∧ x12.toInt ≤ 600) => ?_)
    refine po_gI hW h1 rfl rfl (by decide) (fun x13 ex13 (hx13 : -700 ≤ x13.toInt ∧ x13.toInt ≤ 700) => ?_)
    refine po_some ?_
    refine po_ck (wt_isO hW hi10 (by decide)) ?_
    have h60 := hL iv2 rfl i1 x13 ex1 ex4 ex13
    obtain ⟨v, g, m, e, G', a, b, ⟨i, hi, hi5⟩, d⟩ := part_x (B := 60) (v0 := i10) (v1 := x12) (v2 := x13) hW hi10 (by omega)
    refine po_bind e ?_
    dsimp only
    refine po_some ?_
    unfold mX8_copyOfNow_b35
    exact po_ret ⟨G', a, b, ⟨i, hi, hi5⟩, d⟩
  · subst q
    unfold mX8_copyOfNow_b35
    exact po_ret ⟨G, EXT.rfl, hW, ⟨j, rfl, p4 j rfl⟩, fun _ _ => rfl⟩
set_option maxHeartbeats 1000000 in
theorem tX8_swapPieces {G : TE} {F0 : AH} {S : Int32} {f : AH} {n : Nat} {v0 : Nat} {v1 : Int32} {v2 : Int32} (hW : WT G F0 S f n) (h0 : G.1 v0 = 8) : PO (mX8_swapPieces v0 v1 v2 f n) (fun v f' n' => ∃ G', EXT G G' ∧ WT G' F0 S f' n' ∧ (True)) := by
  unfold mX8_swapPieces
  refine po_gRn (t := 1) hW h0 rfl rfl (by decide) (fun i1 ex1 hi1 => ?_)
  refine po_some ?_
  refine po_ck (wt_isO hW hi1 (by decide)) ?_
  refine po_ro (tX1_get hW hi1) (fun y2 ex2 p2 => ?_)
  dsimp only
  refine po_some ?_
  refine po_bind ex1 ?_
  refine po_some ?_
  refine po_ck (wt_isO hW hi1 (by decide)) ?_
  refine po_ro (tX1_get hW hi1) (fun y3 ex3 p3 => ?_)
  dsimp only
  refine po_some ?_
  refine po_oN (fun q5 => ?_) (fun i4 q5 => ?_)
  · subst q5
    unfold mX8_swapPieces_b28
    exact po_ret ⟨_, EXT.rfl, hW, trivial⟩
  · subst q5
    refine po_oN (fun q7 => ?_) (fun i6 q7 => ?_)
    · subst q7
      unfold mX8_swapPieces_b28
      exact po_ret ⟨_, EXT.rfl, hW, trivial⟩
    · subst q7
      refine po_eq (fun q8 => ?_) (fun q8 => ?_)
      · exact po_ret ⟨_, EXT.rfl, hW, trivial⟩
      · refine po_ck (wt_isO hW h0 (by decide)) ?_
        refine po_ro (tX8_nowSize hW h0 ⟨_, rfl, (p2 i4 rfl)⟩) (fun y9 ex9 p9 => ?_)
        dsimp only
        refine po_lt kt_60 rfl (fun q10 => ?_) (fun q10 => ?_)
        · unfold mX8_swapPieces_b60
          exact po_ret ⟨_, EXT.rfl, hW, trivial⟩
        · refine po_ck (wt_isO hW h0 (by decide)) ?_
          refine po_ro (tX8_nowSize hW h0 ⟨_, rfl, (p3 i6 rfl)⟩) (fun y11 ex11 p11 => ?_)
          dsimp only
          refine po_le rfl kt_60 (fun q12 => ?_) (fun q12 => ?_)
          · refine po_ck (wt_isO hW h0 (by decide)) ?_
            refine po_af (tX8_copyOfNow hW h0 ⟨_, rfl, (p2 i4 rfl)⟩ (p9 (by omega))) (fun y13 g13 n13 G13 xt13 hW13 p13 => ?_)
            dsimp only
            obtain ⟨⟨i13, rfl, hi13⟩, fr13⟩ := p13
            refine po_some ?_
            refine po_ck (wt_isO hW13 (xt13.ty h0 (by decide)) (by decide)) ?_
            refine po_af (tX8_copyOfNow hW13 (xt13.ty h0 (by decide)) ⟨_, rfl, (xt13.ty (p3 i6 rfl) (by decide))⟩ (fun p hp => L60_fr hW fr13 h0 (by cases hp; exact (p3 i6 rfl)) (p11 (by omega) p hp))) (fun y14 g14 n14 G14 xt14 hW14 p14 => ?_)
            dsimp only
            obtain ⟨⟨i14, rfl, hi14⟩, fr14⟩ := p14
            refine po_some ?_
            refine po_gRn (t := 0) hW14 (xt14.ty (xt13.ty h0 (by decide)) (by decide)) rfl rfl (by decide) (fun i15 ex15 hi15 => ?_)
            refine po_gRn (t := 7) hW14 (xt14.ty (xt13.ty h0 (by decide)) (by decide)) rfl rfl (by decide) (fun i16 ex16 hi16 => ?_)
            refine po_some ?_
            refine po_ck (wt_isO hW14 hi15 (by decide)) ?_
            refine po_w (tX0_escape hW14 hi15 ⟨_, rfl, hi14⟩ (fun _ hi => Option.some.inj hi ▸ (xt14.ty (xt13.ty (p2 i4 rfl) (by decide)) (by decide))) ⟨_, rfl, hi16⟩) (fun y17 g17 hW17 p17 => ?_)
            dsimp only
            refine po_eq (fun q18 => ?_) (fun q18 => ?_)
            · unfold mX8_swapPieces_b115
              exact po_ret ⟨_, (xt13.trans xt14), hW17, trivial⟩
            · refine po_gRn (t := 0) hW17 (xt14.ty (xt13.ty h0 (by decide)) (by decide)) rfl rfl (by decide) (fun i19 ex19 hi19 => ?_)
              refine po_gRn (t := 7) hW17 (xt14.ty (xt13.ty h0 (by decide)) (by decide)) rfl rfl (by decide) (fun i20 ex20 hi20 => ?_)
              refine po_some ?_
              refine po_ck (wt_isO hW17 hi19 (by decide)) ?_
              refine po_w (tX0_escape hW17 hi19 ⟨_, rfl, (xt14.ty hi13 (by decide))⟩ (fun _ hi => Option.some.inj hi ▸ (xt14.ty (xt13.ty (p3 i6 rfl) (by decide)) (by decide))) ⟨_, rfl, hi20⟩) (fun y21 g21 hW21 p21 => ?_)
              dsimp only
              refine po_eq (fun q22 => ?_) (fun q22 => ?_)
              · unfold mX8_swapPieces_b115
                exact po_ret ⟨_, (xt13.trans xt14), hW21, trivial⟩
              · refine po_gRn (t := 7) hW21 (xt14.ty (xt13.ty h0 (by decide)) (by decide)) rfl rfl (by decide) (fun i23 ex23 hi23 => ?_)
                refine po_some ?_
                refine po_ck (wt_isO hW21 hi23 (by decide)) ?_
                refine po_w (tX7_setTold hW21 hi23 (fun _ hi => Option.some.inj hi ▸ hi14)) (fun y24 g24 hW24 p24 => ?_)
                dsimp only
                refine po_gRn (t := 7) hW24 (xt14.ty (xt13.ty h0 (by decide)) (by decide)) rfl rfl (by decide) (fun i25 ex25 hi25 => ?_)
                refine po_some ?_
                refine po_ck (wt_isO hW24 hi25 (by decide)) ?_
                refine po_w (tX7_setTold hW24 hi25 (fun _ hi => Option.some.inj hi ▸ (xt14.ty hi13 (by decide)))) (fun y26 g26 hW26 p26 => ?_)
                dsimp only
                refine po_gRn (t := 0) hW26 (xt14.ty (xt13.ty h0 (by decide)) (by decide)) rfl rfl (by decide) (fun i27 ex27 hi27 => ?_)
                refine po_gRn (t := 7) hW26 (xt14.ty (xt13.ty h0 (by decide)) (by decide)) rfl rfl (by decide) (fun i28 ex28 hi28 => ?_)
                refine po_gRn (t := 1) hW26 (xt14.ty (xt13.ty h0 (by decide)) (by decide)) rfl rfl (by decide) (fun i29 ex29 hi29 => ?_)
                refine po_some ?_
                refine po_ck (wt_isO hW26 hi27 (by decide)) ?_
                refine po_w (tX0_make hW26 hi27 ⟨_, rfl, hi28⟩ ⟨_, rfl, hi29⟩) (fun y30 g30 hW30 p30 => ?_)
                dsimp only
                refine po_eq (fun q31 => ?_) (fun q31 => ?_)
                · unfold mX8_swapPieces_b160
                  exact po_ret ⟨_, (xt13.trans xt14), hW30, trivial⟩
                · unfold mX8_swapPieces_b160
                  exact po_ret ⟨_, (xt13.trans xt14), hW30, trivial⟩
          · unfold mX8_swapPieces_b60
            exact po_ret ⟨_, EXT.rfl, hW, trivial⟩
set_option maxHeartbeats 1000000 in
theorem tX7_toldCount_l4 {G : TE} {F0 : AH} {S : Int32} {n : Nat} : ∀ (d : Nat) (v0 : Nat) (v1 : Int32) (v2 : Int32) (f : AH), WT G F0 S f n → G.1 v0 = 7 → (0 ≤ v2.toInt ∧ v2.toInt ≤ 2000) → 3000 - v2.toInt < (d : Int) → PO (mX7_toldCount_l4 d v0 v1 v2 f n) (fun v f' n' => f' = f ∧ n' = n ∧ (True)) := by
  intro d
  induction d with
  | zero =>
    intro v0 v1 v2 f hW h0 h1  hm
    exfalso
    omega
  | succ d ih =>
    intro v0 v1 v2 f hW h0 h1  hm
    show PO ((gR f v0 7 9).bind fun x1 => ((x1).bind fun j2 => ((gL f j2).bind fun x3 => (if (nI x3) ≤ v2 then some (v1, (f, n)) else ((gR f v0 7 9).bind fun x4 => ((x4).bind fun j5 => ((gRA f j5 v2).bind fun x6 => (oN x6 (mX7_toldCount_b25 (fun v0 v1 v2 f n => mX7_toldCount_l4 d v0 v1 v2 f n) v0 v1 v2 f n) (fun j7 => mX7_toldCount_b25 (fun v0 v1 v2 f n => mX7_toldCount_l4 d v0 v1 v2 f n) v0 (v1 + (1 : Int32)) v2 f n))))))))) _
    refine po_gRn (t := 11) hW h0 rfl rfl (by decide) (fun i1 ex1 hi1 => ?_)
    refine po_some ?_
    refine po_gL (N := 40) hW hi1 rfl rfl (by decide) ?_
    refine po_le kn_40 rfl (fun q2 => ?_) (fun q2 => ?_)
    · exact po_ret ⟨rfl, rfl, trivial⟩
    · refine po_bind ex1 ?_
      refine po_some ?_
      refine po_gRAo (N := 40) hW hi1 rfl rfl (by omega) (fun i3 hi3 => ?_)
      refine po_oN (fun q5 => ?_) (fun i4 q5 => ?_)
      · subst q5
        unfold mX7_toldCount_b25
        have e6 : (v2 + (1 : Int32)).toInt = v2.toInt + 1 := i_add rfl kt_1 (by omega)
        exact (ih v0 v1 (v2 + (1 : Int32)) f hW h0 (by omega)  (by omega))
      · subst q5
        unfold mX7_toldCount_b25
        have e7 : (v2 + (1 : Int32)).toInt = v2.toInt + 1 := i_add rfl kt_1 (by omega)
        exact (ih v0 (v1 + (1 : Int32)) (v2 + (1 : Int32)) f hW h0 (by omega)  (by omega))
set_option maxHeartbeats 1000000 in
theorem tX7_toldCount {G : TE} {F0 : AH} {S : Int32} {f : AH} {n : Nat} {v0 : Nat} (hW : WT G F0 S f n) (h0 : G.1 v0 = 7) : PO (mX7_toldCount v0 f n) (fun v f' n' => f' = f ∧ n' = n ∧ (True)) := by
  have k_kt_0 := kt_0
  unfold mX7_toldCount
  exact (tX7_toldCount_l4 rFU v0 (0 : Int32) (0 : Int32) f hW h0 (by omega)  (by unfold rFU; omega))
set_option maxHeartbeats 1000000 in
theorem tX8_wipePieces {G : TE} {F0 : AH} {S : Int32} {f : AH} {n : Nat} {v0 : Nat} (hW : WT G F0 S f n) (h0 : G.1 v0 = 8) : PO (mX8_wipePieces v0 f n) (fun v f' n' => n' = n ∧ WT G F0 S f' n ∧ (True)) := by
  unfold mX8_wipePieces
  refine po_gRn (t := 7) hW h0 rfl rfl (by decide) (fun i1 ex1 hi1 => ?_)
  refine po_some ?_
  refine po_ck (wt_isO hW hi1 (by decide)) ?_
  refine po_ro (tX7_toldCount hW hi1) (fun y2 ex2 p2 => ?_)
  dsimp only
  refine po_eq (fun q3 => ?_) (fun q3 => ?_)
  · exact po_ret ⟨rfl, hW, trivial⟩
  · refine po_bind ex1 ?_
    refine po_some ?_
    refine po_ck (wt_isO hW hi1 (by decide)) ?_
    refine po_w (tX7_forgetTold hW hi1) (fun y4 g4 hW4 p4 => ?_)
    dsimp only
    refine po_gRn (t := 0) hW4 h0 rfl rfl (by decide) (fun i5 ex5 hi5 => ?_)
    refine po_gRn (t := 7) hW4 h0 rfl rfl (by decide) (fun i6 ex6 hi6 => ?_)
    refine po_gRn (t := 1) hW4 h0 rfl rfl (by decide) (fun i7 ex7 hi7 => ?_)
    refine po_some ?_
    refine po_ck (wt_isO hW4 hi5 (by decide)) ?_
    refine po_w (tX0_make hW4 hi5 ⟨_, rfl, hi6⟩ ⟨_, rfl, hi7⟩) (fun y8 g8 hW8 p8 => ?_)
    dsimp only
    refine po_eq (fun q9 => ?_) (fun q9 => ?_)
    · unfold mX8_wipePieces_b42
      exact po_ret ⟨rfl, hW8, trivial⟩
    · unfold mX8_wipePieces_b42
      exact po_ret ⟨rfl, hW8, trivial⟩
set_option maxHeartbeats 1000000 in
theorem tX8_tellPiece {G : TE} {F0 : AH} {S : Int32} {f : AH} {n : Nat} {v0 : Nat} {v1 : Int32} {v2 : Option Nat} (hW : WT G F0 S f n) (h0 : G.1 v0 = 8) (h1 : (∀ i, v2 = some i → G.1 i = 5)) : PO (mX8_tellPiece v0 v1 v2 f n) (fun v f' n' => ∃ G', EXT G G' ∧ WT G' F0 S f' n' ∧ (True)) := by
  unfold mX8_tellPiece
  refine po_gRn (t := 1) hW h0 rfl rfl (by decide) (fun i1 ex1 hi1 => ?_)
  refine po_some ?_
  refine po_ck (wt_isO hW hi1 (by decide)) ?_
  refine po_ro (tX1_get hW hi1) (fun y2 ex2 p2 => ?_)
  dsimp only
  refine po_some ?_
  refine po_oN (fun q4 => ?_) (fun i3 q4 => ?_)
  · subst q4
    unfold mX8_tellPiece_b17
    exact po_ret ⟨_, EXT.rfl, hW, trivial⟩
  · subst q4
    refine po_oN (fun q6 => ?_) (fun i5 q6 => ?_)
    · subst q6
      unfold mX8_tellPiece_b17
      exact po_ret ⟨_, EXT.rfl, hW, trivial⟩
    · subst q6
      refine po_gRn (t := 0) hW h0 rfl rfl (by decide) (fun i7 ex7 hi7 => ?_)
      refine po_gRn (t := 7) hW h0 rfl rfl (by decide) (fun i8 ex8 hi8 => ?_)
      refine po_some ?_
      refine po_ck (wt_isO hW hi7 (by decide)) ?_
      refine po_w (tX0_escape hW hi7 ⟨_, rfl, (h1 i5 rfl)⟩ (fun _ hi => Option.some.inj hi ▸ (p2 i3 rfl)) ⟨_, rfl, hi8⟩) (fun y9 g9 hW9 p9 => ?_)
      dsimp only
      refine po_eq (fun q10 => ?_) (fun q10 => ?_)
      · exact po_ret ⟨_, EXT.rfl, hW9, trivial⟩
      · refine po_gRn (t := 7) hW9 h0 rfl rfl (by decide) (fun i11 ex11 hi11 => ?_)
        refine po_some ?_
        refine po_ck (wt_isO hW9 hi11 (by decide)) ?_
        refine po_w (tX7_setTold hW9 hi11 (fun _ hi => Option.some.inj hi ▸ (h1 i5 rfl))) (fun y12 g12 hW12 p12 => ?_)
        dsimp only
        refine po_gRn (t := 0) hW12 h0 rfl rfl (by decide) (fun i13 ex13 hi13 => ?_)
        refine po_gRn (t := 7) hW12 h0 rfl rfl (by decide) (fun i14 ex14 hi14 => ?_)
        refine po_gRn (t := 1) hW12 h0 rfl rfl (by decide) (fun i15 ex15 hi15 => ?_)
        refine po_some ?_
        refine po_ck (wt_isO hW12 hi13 (by decide)) ?_
        refine po_w (tX0_make hW12 hi13 ⟨_, rfl, hi14⟩ ⟨_, rfl, hi15⟩) (fun y16 g16 hW16 p16 => ?_)
        dsimp only
        refine po_eq (fun q17 => ?_) (fun q17 => ?_)
        · exact po_ret ⟨_, EXT.rfl, hW16, trivial⟩
        · refine po_gI hW16 (p2 i3 rfl) rfl rfl (by decide) (fun x18x ex18 (hx18 : (-700) ≤ x18x.toInt ∧ x18x.toInt ≤ 700) => ?_)
          refine po_lt kt_60 rfl (fun q19 => ?_) (fun q19 => ?_)
          · unfold mX8_tellPiece_b101
            exact po_ret ⟨_, EXT.rfl, hW16, trivial⟩
          · refine po_gRn (t := 7) hW16 h0 rfl rfl (by decide) (fun i20 ex20 hi20 => ?_)
            refine po_gRn (t := 1) hW16 h0 rfl rfl (by decide) (fun i21 ex21 hi21 => ?_)
            refine po_some ?_
            refine po_gRm hW16 hi21 rfl rfl (fun i22 ex22 hi22 hm22 => ?_)
            refine po_gI hW16 (p2 i3 rfl) rfl rfl (by decide) (fun x23x ex23 (hx23 : 0 ≤ x23x.toInt ∧ x23x.toInt ≤ 600) => ?_)
            refine po_bind ex18 ?_
            refine po_some ?_
            refine po_ck (wt_isO hW16 hi22 (by decide)) ?_
            refine po_a (tX5_part (B := 60) hW16 hi22 (by omega)) (fun y24 g24 n24 G24 xt24 hW24 p24 => ?_)
            dsimp only
            obtain ⟨i24, rfl, hi24⟩ := p24
            refine po_some ?_
            refine po_some ?_
            refine po_ck (wt_isO hW24 (xt24.ty hi20 (by decide)) (by decide)) ?_
            refine po_a (tX7_addPair hW24 (xt24.ty hi20 (by decide)) ⟨_, rfl, hi24⟩ ⟨_, rfl, (xt24.ty (h1 i5 rfl) (by decide))⟩) (fun y25 g25 n25 G25 xt25 hW25 p25 => ?_)
            dsimp only
            unfold mX8_tellPiece_b101
            exact po_ret ⟨_, (xt24.trans xt25), hW25, trivial⟩
