/-! part 38d.wt -/
section
set_option maxHeartbeats 1000000 in
theorem tX0_make_l16 {G : TE} {F0 : AH} {S : Int32} {n : Nat} : ∀ (d : Nat) (v0 : Nat) (v1 : Option Nat) (v2 : Option Nat) (v3 : Int32) (v4 : Int32) (v5 : Int32) (f : AH), WT G F0 S f n → G.1 v0 = 0 → (∃ i, v1 = some i ∧ G.1 i = 7) → (∃ i, v2 = some i ∧ G.1 i = 1) → (v4 = 0 ∨ v4 = 1) → (0 ≤ v5.toInt ∧ v5.toInt ≤ 2000) → 3000 - v5.toInt < (d : Int) → PO (mX0_make_l16 d v0 v1 v2 v3 v4 v5 f n) (fun v f' n' => n' = n ∧ WT G F0 S f' n ∧ (v = 0 ∨ v = 1)) := by
  intro d
  induction d with
  | zero =>
    intro v0 v1 v2 v3 v4 v5 f hW h0 h1 h2 h3 h4  hm
    exfalso
    obtain ⟨iv1, rfl, h1⟩ := h1
    obtain ⟨iv2, rfl, h2⟩ := h2
    omega
  | succ d ih =>
    intro v0 v1 v2 v3 v4 v5 f hW h0 h1 h2 h3 h4  hm
    obtain ⟨iv1, rfl, h1⟩ := h1
    obtain ⟨iv2, rfl, h2⟩ := h2
    show PO (((some iv2)).bind fun j1 => rCk (isO f j1 1) (((mX1_size j1 f n).bind fun r3 => (if r3.1 ≤ v5 then mX0_make_b211 v0 (some iv1) v3 v4 r3.2.1 r3.2.2 else (if v4 = (0 : Int32) then mX0_make_b211 v0 (some iv1) v3 v4 r3.2.1 r3.2.2 else rCk (isO r3.2.1 j1 1) (((mX1_get j1 v5 r3.2.1 r3.2.2).bind fun r6 => ((some r6.1).bind fun x8 => (oN x8 (mX0_make_b211 v0 (some iv1) v3 v4 r6.2.1 r6.2.2) (fun j9 => ((gR r6.2.1 v0 0 0).bind fun x10 => (((some iv1)).bind fun j11 => ((gR r6.2.1 j11 7 0).bind fun x12 => ((gI r6.2.1 j9 3 0).bind fun x13 => ((x10).bind fun j14 => rCk (isO r6.2.1 j14 5) (((mX5_addPart j14 x12 v3 x13 r6.2.1 r6.2.2).bind fun r16 => ((gI r16.2.1 j9 3 1).bind fun x18 => ((gR r16.2.1 v0 0 0).bind fun x19 => ((x19).bind fun j20 => rCk (isO r16.2.1 j20 5) (((mX5_size j20 r16.2.1 r16.2.2).bind fun r22 => ((pO r22.2.1 j9 3 9 (.int r22.1)).bind fun f24 => rCk (isO f24 j11 7) (((mX7_toldFor j11 v5 f24 r22.2.2).bind fun r26 => ((some r26.1).bind fun x28 => (oN x28 (((gR r26.2.1 v0 0 0).bind fun x30 => ((gR r26.2.1 j11 7 0).bind fun x31 => ((gI r26.2.1 j9 3 0).bind fun x32 => ((gI r26.2.1 j9 3 1).bind fun x33 => ((x30).bind fun j34 => rCk (isO r26.2.1 j34 5) (((mX5_addPart j34 x31 x32 x33 r26.2.1 r26.2.2).bind fun r36 => mX0_make_b169 (fun v0 v1 v2 v3 v4 v5 f n => mX0_make_l16 d v0 v1 v2 v3 v4 v5 f n) v0 (some j11) (some j1) x18 (r16.1 &&& r36.1) v5 (some j9) (none : Option Nat) r36.2.1 r36.2.2)))))))) (fun j29 => rCk (isO r26.2.1 v0 0) (((mX0_escape v0 (some j29) (some j9) (some j11) r26.2.1 r26.2.2).bind fun r39 => (if r39.1 = (0 : Int32) then mX0_make_b165 (fun v0 v1 v2 v3 v4 v5 f n => mX0_make_l16 d v0 v1 v2 v3 v4 v5 f n) v0 (some j11) (some j1) x18 v5 (some j9) (some j29) r16.1 r39.2.1 r39.2.2 else ((gR r39.2.1 v0 0 0).bind fun x41 => ((gR r39.2.1 v0 0 1).bind fun x42 => ((gR r39.2.1 v0 0 1).bind fun x43 => ((x43).bind fun j44 => rCk (isO r39.2.1 j44 5) (((mX5_size j44 r39.2.1 r39.2.2).bind fun r46 => ((x41).bind fun j48 => rCk (isO r46.2.1 j48 5) (((mX5_addPart j48 x42 (0 : Int32) r46.1 r46.2.1 r46.2.2).bind fun r50 => (if r50.1 = (0 : Int32) then mX0_make_b165 (fun v0 v1 v2 v3 v4 v5 f n => mX0_make_l16 d v0 v1 v2 v3 v4 v5 f n) v0 (some j11) (some j1) x18 v5 (some j9) (some j29) r16.1 r50.2.1 r50.2.2 else mX0_make_b166 (fun v0 v1 v2 v3 v4 v5 f n => mX0_make_l16 d v0 v1 v2 v3 v4 v5 f n) v0 (some j11) (some j1) x18 v5 (some j9) (some j29) r16.1 (1 : Int32) r50.2.1 r50.2.2))))))))))))))))))))))))))))))))))))))))) _
    refine po_some ?_
    refine po_ck (wt_isO hW h2 (by decide)) ?_
    refine po_ro (tX1_size hW h2) (fun y1 ex1 p1 => ?_)
    dsimp only
    refine po_le rfl rfl (fun q2 => ?_) (fun q2 => ?_)
    · unfold mX0_make_b211
      refine po_eq (fun q3 => ?_) (fun q3 => ?_)
      · unfold mX0_make_b242
        unfold mX0_make_b243
        refine po_ck (nb_of (Or.inl rfl)) ?_
        exact po_ret ⟨rfl, hW, (Or.inl rfl)⟩
      · refine po_gRm hW h0 rfl rfl (fun i4 ex4 hi4 hm4 => ?_)
        refine po_some ?_
        refine po_gRn (t := 5) hW h1 rfl rfl (by decide) (fun i5 ex5 hi5 => ?_)
        refine po_bind ex5 ?_
        refine po_some ?_
        refine po_ck (wt_isO hW hi5 (by decide)) ?_
        refine po_ro (tX5_size hW hi5) (fun y6 ex6 p6 => ?_)
        dsimp only
        refine po_some ?_
        refine po_ck (wt_isO hW hi4 (by decide)) ?_
        refine po_w (tX5_addPart hW hi4 hm4 ⟨_, rfl, hi5⟩) (fun y7 g7 hW7 p7 => ?_)
        dsimp only
        refine po_eq (fun q8 => ?_) (fun q8 => ?_)
        · unfold mX0_make_b242
          unfold mX0_make_b243
          refine po_ck (nb_of (Or.inl rfl)) ?_
          exact po_ret ⟨rfl, hW7, (Or.inl rfl)⟩
        · unfold mX0_make_b243
          refine po_ck (nb_of (Or.inr rfl)) ?_
          exact po_ret ⟨rfl, hW7, (Or.inr rfl)⟩
    · refine po_eq (fun q9 => ?_) (fun q9 => ?_)
      · unfold mX0_make_b211
        refine po_eq (fun q10 => ?_) (fun q10 => ?_)
        · unfold mX0_make_b242
          unfold mX0_make_b243
          refine po_ck (nb_of (Or.inl rfl)) ?_
          exact po_ret ⟨rfl, hW, (Or.inl rfl)⟩
        · refine po_gRm hW h0 rfl rfl (fun i11 ex11 hi11 hm11 => ?_)
          refine po_some ?_
          refine po_gRn (t := 5) hW h1 rfl rfl (by decide) (fun i12 ex12 hi12 => ?_)
          refine po_bind ex12 ?_
          refine po_some ?_
          refine po_ck (wt_isO hW hi12 (by decide)) ?_
          refine po_ro (tX5_size hW hi12) (fun y13 ex13 p13 => ?_)
          dsimp only
          refine po_some ?_
          refine po_ck (wt_isO hW hi11 (by decide)) ?_
          refine po_w (tX5_addPart hW hi11 hm11 ⟨_, rfl, hi12⟩) (fun y14 g14 hW14 p14 => ?_)
          dsimp only
          refine po_eq (fun q15 => ?_) (fun q15 => ?_)
          · unfold mX0_make_b242
            unfold mX0_make_b243
            refine po_ck (nb_of (Or.inl rfl)) ?_
            exact po_ret ⟨rfl, hW14, (Or.inl rfl)⟩
          · unfold mX0_make_b243
            refine po_ck (nb_of (Or.inr rfl)) ?_
            exact po_ret ⟨rfl, hW14, (Or.inr rfl)⟩
      · refine po_ck (wt_isO hW h2 (by decide)) ?_
        refine po_ro (tX1_get hW h2) (fun y16 ex16 p16 => ?_)
        dsimp only
        refine po_some ?_
        refine po_oN (fun q18 => ?_) (fun i17 q18 => ?_)
        · subst q18
          unfold mX0_make_b211
          refine po_eq (fun q19 => ?_) (fun q19 => ?_)
          · unfold mX0_make_b242
            unfold mX0_make_b243
            refine po_ck (nb_of (Or.inl rfl)) ?_
            exact po_ret ⟨rfl, hW, (Or.inl rfl)⟩
          · refine po_gRm hW h0 rfl rfl (fun i20 ex20 hi20 hm20 => ?_)
            refine po_some ?_
            refine po_gRn (t := 5) hW h1 rfl rfl (by decide) (fun i21 ex21 hi21 => ?_)
            refine po_bind ex21 ?_
            refine po_some ?_
            refine po_ck (wt_isO hW hi21 (by decide)) ?_
            refine po_ro (tX5_size hW hi21) (fun y22 ex22 p22 => ?_)
            dsimp only
            refine po_some ?_
            refine po_ck (wt_isO hW hi20 (by decide)) ?_
            refine po_w (tX5_addPart hW hi20 hm20 ⟨_, rfl, hi21⟩) (fun y23 g23 hW23 p23 => ?_)
            dsimp only
            refine po_eq (fun q24 => ?_) (fun q24 => ?_)
            · unfold mX0_make_b242
              unfold mX0_make_b243
              refine po_ck (nb_of (Or.inl rfl)) ?_
              exact po_ret ⟨rfl, hW23, (Or.inl rfl)⟩
            · unfold mX0_make_b243
              refine po_ck (nb_of (Or.inr rfl)) ?_
              exact po_ret ⟨rfl, hW23, (Or.inr rfl)⟩
        · subst q18
          refine po_gRm hW h0 rfl rfl (fun i25 ex25 hi25 hm25 => ?_)
          refine po_some ?_
          refine po_gRn (t := 5) hW h1 rfl rfl (by decide) (fun i26 ex26 hi26 => ?_)
          refine po_gI hW (p16 i17 rfl) rfl rfl (by decide) (fun x27x ex27 (_ : True) => ?_)
          refine po_some ?_
          refine po_ck (wt_isO hW hi25 (by decide)) ?_
          refine po_w (tX5_addPart hW hi25 hm25 ⟨_, rfl, hi26⟩) (fun y28 g28 hW28 p28 => ?_)
          dsimp only
          refine po_gI hW28 (p16 i17 rfl) rfl rfl (by decide) (fun x29x ex29 (_ : True) => ?_)
          refine po_gRm hW28 h0 rfl rfl (fun i30 ex30 hi30 hm30 => ?_)
          refine po_some ?_
          refine po_ck (wt_isO hW28 hi30 (by decide)) ?_
          refine po_ro (tX5_size hW28 hi30) (fun y31 ex31 p31 => ?_)
          dsimp only
          refine po_pI hW28 (p16 i17 rfl) rfl rfl (vv_i (by decide) trivial) (fun g32 hW32 ex32 => ?_)
          refine po_ck (wt_isO hW32 h1 (by decide)) ?_
          refine po_ro (tX7_toldFor hW32 h1) (fun y33 ex33 p33 => ?_)
          dsimp only
          refine po_some ?_
          refine po_oN (fun q35 => ?_) (fun i34 q35 => ?_)
          · subst q35
            refine po_gRm hW32 h0 rfl rfl (fun i36 ex36 hi36 hm36 => ?_)
            refine po_gRn (t := 5) hW32 h1 rfl rfl (by decide) (fun i37 ex37 hi37 => ?_)
            refine po_gI hW32 (p16 i17 rfl) rfl rfl (by decide) (fun x38x ex38 (_ : True) => ?_)
            refine po_gI hW32 (p16 i17 rfl) rfl rfl (by decide) (fun x39x ex39 (_ : True) => ?_)
            refine po_some ?_
            refine po_ck (wt_isO hW32 hi36 (by decide)) ?_
            refine po_w (tX5_addPart hW32 hi36 hm36 ⟨_, rfl, hi37⟩) (fun y40 g40 hW40 p40 => ?_)
            dsimp only
            unfold mX0_make_b169
            refine po_gRm hW40 h0 rfl rfl (fun i41 ex41 hi41 hm41 => ?_)
            refine po_some ?_
            refine po_ck (wt_isO hW40 hi41 (by decide)) ?_
            refine po_ro (tX5_size hW40 hi41) (fun y42 ex42 p42 => ?_)
            dsimp only
            refine po_some ?_
            refine po_gI hW40 (p16 i17 rfl) rfl rfl (by decide) (fun x43x ex43 (_ : True) => ?_)
            refine po_pI hW40 (p16 i17 rfl) rfl rfl (vv_i (by decide) trivial) (fun g44 hW44 ex44 => ?_)
            refine po_oNn ?_
            unfold mX0_make_b202
            refine po_some ?_
            refine po_pI hW44 (p16 i17 rfl) rfl rfl (vv_i (by decide) trivial) (fun g45 hW45 ex45 => ?_)
            have e46 : (v5 + (1 : Int32)).toInt = v5.toInt + 1 := i_add rfl kt_1 (by omega)
            exact (ih v0 (some iv1) (some iv2) x29x (y28 &&& y40) (v5 + (1 : Int32)) g45 hW45 h0 ⟨_, rfl, h1⟩ ⟨_, rfl, h2⟩ (nb_and p28 p40) (by omega)  (by omega))
          · subst q35
            refine po_ck (wt_isO hW32 h0 (by decide)) ?_
            refine po_w (tX0_escape hW32 h0 ⟨_, rfl, (p33 i34 rfl)⟩ (fun _ hi => Option.some.inj hi ▸ (p16 i17 rfl)) ⟨_, rfl, h1⟩) (fun y47 g47 hW47 p47 => ?_)
            dsimp only
            refine po_eq (fun q48 => ?_) (fun q48 => ?_)
            · unfold mX0_make_b165
              unfold mX0_make_b166
              unfold mX0_make_b169
              refine po_gRm hW47 h0 rfl rfl (fun i49 ex49 hi49 hm49 => ?_)
              refine po_some ?_
              refine po_ck (wt_isO hW47 hi49 (by decide)) ?_
              refine po_ro (tX5_size hW47 hi49) (fun y50 ex50 p50 => ?_)
              dsimp only
              refine po_some ?_
              refine po_gI hW47 (p16 i17 rfl) rfl rfl (by decide) (fun x51x ex51 (_ : True) => ?_)
              refine po_pI hW47 (p16 i17 rfl) rfl rfl (vv_i (by decide) trivial) (fun g52 hW52 ex52 => ?_)
              refine po_oNs ?_
              refine po_gI hW52 h0 rfl rfl (by decide) (fun x53x ex53 (_ : True) => ?_)
              unfold mX0_make_b202
              refine po_some ?_
              refine po_pI hW52 (p16 i17 rfl) rfl rfl (vv_i (by decide) trivial) (fun g54 hW54 ex54 => ?_)
              have e55 : (v5 + (1 : Int32)).toInt = v5.toInt + 1 := i_add rfl kt_1 (by omega)
              exact (ih v0 (some iv1) (some iv2) x29x (y28 &&& (0 : Int32)) (v5 + (1 : Int32)) g54 hW54 h0 ⟨_, rfl, h1⟩ ⟨_, rfl, h2⟩ (nb_and p28 (Or.inl rfl)) (by omega)  (by omega))
            · refine po_gRm hW47 h0 rfl rfl (fun i56 ex56 hi56 hm56 => ?_)
              refine po_gRm hW47 h0 rfl rfl (fun i57 ex57 hi57 hm57 => ?_)
              refine po_bind ex57 ?_
              refine po_some ?_
              refine po_ck (wt_isO hW47 hi57 (by decide)) ?_
              refine po_ro (tX5_size hW47 hi57) (fun y58 ex58 p58 => ?_)
              dsimp only
              refine po_some ?_
              refine po_ck (wt_isO hW47 hi56 (by decide)) ?_
              refine po_w (tX5_addPart hW47 hi56 hm56 ⟨_, rfl, hi57⟩) (fun y59 g59 hW59 p59 => ?_)
              dsimp only
              refine po_eq (fun q60 => ?_) (fun q60 => ?_)
              · unfold mX0_make_b165
                unfold mX0_make_b166
                unfold mX0_make_b169
                refine po_gRm hW59 h0 rfl rfl (fun i61 ex61 hi61 hm61 => ?_)
                refine po_some ?_
                refine po_ck (wt_isO hW59 hi61 (by decide)) ?_
                refine po_ro (tX5_size hW59 hi61) (fun y62 ex62 p62 => ?_)
                dsimp only
                refine po_some ?_
                refine po_gI hW59 (p16 i17 rfl) rfl rfl (by decide) (fun x63x ex63 (_ : True) => ?_)
                refine po_pI hW59 (p16 i17 rfl) rfl rfl (vv_i (by decide) trivial) (fun g64 hW64 ex64 => ?_)
                refine po_oNs ?_
                refine po_gI hW64 h0 rfl rfl (by decide) (fun x65x ex65 (_ : True) => ?_)
                unfold mX0_make_b202
                refine po_some ?_
                refine po_pI hW64 (p16 i17 rfl) rfl rfl (vv_i (by decide) trivial) (fun g66 hW66 ex66 => ?_)
                have e67 : (v5 + (1 : Int32)).toInt = v5.toInt + 1 := i_add rfl kt_1 (by omega)
                exact (ih v0 (some iv1) (some iv2) x29x (y28 &&& (0 : Int32)) (v5 + (1 : Int32)) g66 hW66 h0 ⟨_, rfl, h1⟩ ⟨_, rfl, h2⟩ (nb_and p28 (Or.inl rfl)) (by omega)  (by omega))
              · unfold mX0_make_b166
                unfold mX0_make_b169
                refine po_gRm hW59 h0 rfl rfl (fun i68 ex68 hi68 hm68 => ?_)
                refine po_some ?_
                refine po_ck (wt_isO hW59 hi68 (by decide)) ?_
                refine po_ro (tX5_size hW59 hi68) (fun y69 ex69 p69 => ?_)
                dsimp only
                refine po_some ?_
                refine po_gI hW59 (p16 i17 rfl) rfl rfl (by decide) (fun x70x ex70 (_ : True) => ?_)
                refine po_pI hW59 (p16 i17 rfl) rfl rfl (vv_i (by decide) trivial) (fun g71 hW71 ex71 => ?_)
                refine po_oNs ?_
                refine po_gI hW71 h0 rfl rfl (by decide) (fun x72x ex72 (_ : True) => ?_)
                unfold mX0_make_b202
                refine po_some ?_
                refine po_pI hW71 (p16 i17 rfl) rfl rfl (vv_i (by decide) trivial) (fun g73 hW73 ex73 => ?_)
                have e74 : (v5 + (1 : Int32)).toInt = v5.toInt + 1 := i_add rfl kt_1 (by omega)
                exact (ih v0 (some iv1) (some iv2) x29x (y28 &&& (1 : Int32)) (v5 + (1 : Int32)) g73 hW73 h0 ⟨_, rfl, h1⟩ ⟨_, rfl, h2⟩ (nb_and p28 (Or.inr rfl)) (by omega)  (by omega))
set_option maxHeartbeats 1000000 in
theorem tX0_make {G : TE} {F0 : AH} {S : Int32} {f : AH} {n : Nat} {v0 : Nat} {v1 : Option Nat} {v2 : Option Nat} (hW : WT G F0 S f n) (h0 : G.1 v0 = 0) (h1 : (∃ i, v1 = some i ∧ G.1 i = 7)) (h2 : (∃ i, v2 = some i ∧ G.1 i = 1)) : PO (mX0_make v0 v1 v2 f n) (fun v f' n' => n' = n ∧ WT G F0 S f' n ∧ (v = 0 ∨ v = 1)) := by
  obtain ⟨iv1, rfl, h1⟩ := h1
  obtain ⟨iv2, rfl, h2⟩ := h2
  have k_kt_0 := kt_0
  unfold mX0_make
  refine po_gRm hW h0 rfl rfl (fun i1 ex1 hi1 hm1 => ?_)
  refine po_some ?_
  refine po_ck (wt_isO hW hi1 (by decide)) ?_
  refine po_w (tX5_cutTo hW hi1 hm1) (fun y2 g2 hW2 p2 => ?_)
  dsimp only
  exact (tX0_make_l16 rFU v0 (some iv1) (some iv2) (0 : Int32) (1 : Int32) (0 : Int32) g2 hW2 h0 ⟨_, rfl, h1⟩ ⟨_, rfl, h2⟩ (Or.inr rfl) (by omega)  (by unfold rFU; omega))
set_option maxHeartbeats 1000000 in
theorem tX8_cutAnew {G : TE} {F0 : AH} {S : Int32} {f : AH} {n : Nat} {v0 : Nat} (hW : WT G F0 S f n) (h0 : G.1 v0 = 8) : PO (mX8_cutAnew v0 f n) (fun v f' n' => n' = n ∧ WT G F0 S f' n ∧ (v = 0)) := by
  unfold mX8_cutAnew
  refine po_ck rfl ?_
  refine po_pI hW h0 rfl rfl (vv_i (by decide) (Or.inl rfl)) (fun g1 hW1 ex1 => ?_)
  refine po_gRn (t := 7) hW1 h0 rfl rfl (by decide) (fun i2 ex2 hi2 => ?_)
  refine po_some ?_
  refine po_ck (wt_isO hW1 hi2 (by decide)) ?_
  refine po_w (tX7_forgetTold hW1 hi2) (fun y3 g3 hW3 p3 => ?_)
  dsimp only
  refine po_gRn (t := 1) hW3 h0 rfl rfl (by decide) (fun i4 ex4 hi4 => ?_)
  refine po_gRn (t := 7) hW3 h0 rfl rfl (by decide) (fun i5 ex5 hi5 => ?_)
  refine po_some ?_
  refine po_gRn (t := 5) hW3 hi5 rfl rfl (by decide) (fun i6 ex6 hi6 => ?_)
  refine po_bind ex5 ?_
  refine po_some ?_
  refine po_ck (wt_isO hW3 hi4 (by decide)) ?_
  refine po_w (tX1_find hW3 hi4 ⟨_, rfl, hi6⟩ ⟨_, rfl, hi5⟩) (fun y7 g7 hW7 p7 => ?_)
  dsimp only
  refine po_gRn (t := 0) hW7 h0 rfl rfl (by decide) (fun i8 ex8 hi8 => ?_)
  refine po_gRn (t := 7) hW7 h0 rfl rfl (by decide) (fun i9 ex9 hi9 => ?_)
  refine po_gRn (t := 1) hW7 h0 rfl rfl (by decide) (fun i10 ex10 hi10 => ?_)
  refine po_some ?_
  refine po_ck (wt_isO hW7 hi8 (by decide)) ?_
  refine po_w (tX0_make hW7 hi8 ⟨_, rfl, hi9⟩ ⟨_, rfl, hi10⟩) (fun y11 g11 hW11 p11 => ?_)
  dsimp only
  exact po_ret ⟨rfl, hW11, rfl⟩
set_option maxHeartbeats 1000000 in
theorem tX8_file {G : TE} {F0 : AH} {S : Int32} {f : AH} {n : Nat} {v0 : Nat} (hW : WT G F0 S f n) (h0 : G.1 v0 = 8) : PO (mX8_file v0 f n) (fun v f' n' => ∃ G', EXT G G' ∧ WT G' F0 0 f' n' ∧ (True)) := by
  have hT : G.1 1 = 5 := hW.2.2.2.2.2
  unfold mX8_file
  refine po_gRn (t := 7) hW h0 rfl rfl (by decide) (fun i1 ex1 hi1 => ?_)
  refine po_gR1 hW h0 (fun ex2 => ?_)
  refine po_bind ex2 ?_
  refine po_some ?_
  refine po_ck (wt_isO hW hT (by decide)) ?_
  refine po_ro (tX5_size hW hT) (fun y3 ex3 p3 => ?_)
  dsimp only
  have hs3 := sz_tape hW ex3
  refine po_some ?_
  refine po_ck (wt_isO hW hT (by decide)) ?_
  refine po_a (tX5_part (B := 400) hW hT (by omega)) (fun y4 g4 n4 G4 xt4 hW4 p4 => ?_)
  dsimp only
  obtain ⟨i4, rfl, hi4⟩ := p4
  refine po_some ?_
  refine po_some ?_
  refine po_pO hW4 (xt4.ty hi1 (by decide)) rfl rfl (vv_n (t := 5) (by decide) hi4) (fun g5 hW5 => ?_)
  refine po_gR1 hW5 (xt4.ty h0 (by decide)) (fun ex6 => ?_)
  refine po_some ?_
  refine po_ck (wt_isO hW5 (xt4.ty hT (by decide)) (by decide)) ?_
  refine po_w (tape0 hW5 (xt4.ty hT (by decide))) (fun y7 g7 hW7 p7 => ?_)
  dsimp only
  refine po_pI hW7 (xt4.ty h0 (by decide)) rfl rfl (vv_i (by decide) trivial) (fun g8 hW8 ex8 => ?_)
  refine po_ck (wt_isO hW8 (xt4.ty h0 (by decide)) (by decide)) ?_
  refine po_w (tX8_cutAnew hW8 (xt4.ty h0 (by decide))) (fun y9 g9 hW9 p9 => ?_)
  dsimp only
  refine po_gRn (t := 1) hW9 (xt4.ty h0 (by decide)) rfl rfl (by decide) (fun i10 ex10 hi10 => ?_)
  refine po_some ?_
  refine po_ck (wt_isO hW9 hi10 (by decide)) ?_
  refine po_ro (tX1_size hW9 hi10) (fun y11 ex11 p11 => ?_)
  dsimp only
  exact po_ret ⟨_, xt4, hW9, trivial⟩
set_option maxHeartbeats 1000000 in
theorem tX7_copyFrom_l104 {G : TE} {F0 : AH} {S : Int32} {n : Nat} : ∀ (d : Nat) (v0 : Nat) (v1 : Option Nat) (v2 : Int32) (f : AH), WT G F0 S f n → G.1 v0 = 7 → (∃ i, v1 = some i ∧ G.1 i = 7) → (0 ≤ v2.toInt ∧ v2.toInt ≤ 2000) → 3000 - v2.toInt < (d : Int) → PO (mX7_copyFrom_l104 d v0 v1 v2 f n) (fun v f' n' => n' = n ∧ WT G F0 S f' n ∧ (True)) := by
  intro d
  induction d with
  | zero =>
    intro v0 v1 v2 f hW h0 h1 h2  hm
    exfalso
    obtain ⟨iv1, rfl, h1⟩ := h1
    omega
  | succ d ih =>
    intro v0 v1 v2 f hW h0 h1 h2  hm
    obtain ⟨iv1, rfl, h1⟩ := h1
    show PO ((gR f v0 7 9).bind fun x1 => ((x1).bind fun j2 => ((gL f j2).bind fun x3 => (if (nI x3) ≤ v2 then mX7_copyFrom_b140 f n else (((some iv1)).bind fun j4 => ((gR f j4 7 9).bind fun x5 => ((x5).bind fun j6 => ((gL f j6).bind fun x7 => (if (nI x7) ≤ v2 then mX7_copyFrom_b140 f n else ((gR f v0 7 9).bind fun x8 => ((gR f j4 7 9).bind fun x9 => ((x9).bind fun j10 => ((gRA f j10 v2).bind fun x11 => ((x8).bind fun j12 => ((pRA f j12 v2 x11).bind fun f13 => mX7_copyFrom_l104 d v0 (some j4) (v2 + (1 : Int32)) f13 n))))))))))))))) _
    refine po_gRn (t := 11) hW h0 rfl rfl (by decide) (fun i1 ex1 hi1 => ?_)
    refine po_some ?_
    refine po_gL (N := 40) hW hi1 rfl rfl (by decide) ?_
    refine po_le kn_40 rfl (fun q2 => ?_) (fun q2 => ?_)
    · unfold mX7_copyFrom_b140
      exact po_ret ⟨rfl, hW, trivial⟩
    · refine po_some ?_
      refine po_gRn (t := 11) hW h1 rfl rfl (by decide) (fun i3 ex3 hi3 => ?_)
      refine po_some ?_
      refine po_gL (N := 40) hW hi3 rfl rfl (by decide) ?_
      refine po_le kn_40 rfl (fun q4 => ?_) (fun q4 => ?_)
      · unfold mX7_copyFrom_b140
        exact po_ret ⟨rfl, hW, trivial⟩
      · refine po_bind ex1 ?_
        refine po_bind ex3 ?_
        refine po_some ?_
        refine po_gRAo (N := 40) hW hi3 rfl rfl (by omega) (fun i5 hi5 => ?_)
        refine po_some ?_
        refine po_pRAo (N := 40) hW hi1 rfl rfl (by omega) hi5 (fun g6 hW6 => ?_)
        have e7 : (v2 + (1 : Int32)).toInt = v2.toInt + 1 := i_add rfl kt_1 (by omega)
        exact (ih v0 (some iv1) (v2 + (1 : Int32)) g6 hW6 h0 ⟨_, rfl, h1⟩ (by omega)  (by omega))
set_option maxHeartbeats 1000000 in
theorem tX7_copyFrom_l66 {G : TE} {F0 : AH} {S : Int32} {n : Nat} : ∀ (d : Nat) (v0 : Nat) (v1 : Option Nat) (v2 : Int32) (f : AH), WT G F0 S f n → G.1 v0 = 7 → (∃ i, v1 = some i ∧ G.1 i = 7) → (0 ≤ v2.toInt ∧ v2.toInt ≤ 2000) → 3000 - v2.toInt < (d : Int) → PO (mX7_copyFrom_l66 d v0 v1 v2 f n) (fun v f' n' => n' = n ∧ WT G F0 S f' n ∧ (True)) := by
  intro d
  induction d with
  | zero =>
    intro v0 v1 v2 f hW h0 h1 h2  hm
    exfalso
    obtain ⟨iv1, rfl, h1⟩ := h1
    omega
  | succ d ih =>
    intro v0 v1 v2 f hW h0 h1 h2  hm
    obtain ⟨iv1, rfl, h1⟩ := h1
    have k_kt_0 := kt_0
    show PO ((gR f v0 7 8).bind fun x1 => ((x1).bind fun j2 => ((gL f j2).bind fun x3 => (if (nI x3) ≤ v2 then mX7_copyFrom_b102 v0 (some iv1) f n else (((some iv1)).bind fun j4 => ((gR f j4 7 8).bind fun x5 => ((x5).bind fun j6 => ((gL f j6).bind fun x7 => (if (nI x7) ≤ v2 then mX7_copyFrom_b102 v0 (some j4) f n else ((gR f v0 7 8).bind fun x8 => ((gR f j4 7 8).bind fun x9 => ((x9).bind fun j10 => ((gRA f j10 v2).bind fun x11 => ((x8).bind fun j12 => ((pRA f j12 v2 x11).bind fun f13 => mX7_copyFrom_l66 d v0 (some j4) (v2 + (1 : Int32)) f13 n))))))))))))))) _
    refine po_gRn (t := 10) hW h0 rfl rfl (by decide) (fun i1 ex1 hi1 => ?_)
    refine po_some ?_
    refine po_gL (N := 4) hW hi1 rfl rfl (by decide) ?_
    refine po_le kn_4 rfl (fun q2 => ?_) (fun q2 => ?_)
    · unfold mX7_copyFrom_b102
      exact (tX7_copyFrom_l104 rFU v0 (some iv1) (0 : Int32) f hW h0 ⟨_, rfl, h1⟩ (by omega)  (by unfold rFU; omega))
    · refine po_some ?_
      refine po_gRn (t := 10) hW h1 rfl rfl (by decide) (fun i3 ex3 hi3 => ?_)
      refine po_some ?_
      refine po_gL (N := 4) hW hi3 rfl rfl (by decide) ?_
      refine po_le kn_4 rfl (fun q4 => ?_) (fun q4 => ?_)
      · unfold mX7_copyFrom_b102
        exact (tX7_copyFrom_l104 rFU v0 (some iv1) (0 : Int32) f hW h0 ⟨_, rfl, h1⟩ (by omega)  (by unfold rFU; omega))
      · refine po_bind ex1 ?_
        refine po_bind ex3 ?_
        refine po_some ?_
        refine po_gRAo (N := 4) hW hi3 rfl rfl (by omega) (fun i5 hi5 => ?_)
        refine po_some ?_
        refine po_pRAo (N := 4) hW hi1 rfl rfl (by omega) hi5 (fun g6 hW6 => ?_)
        have e7 : (v2 + (1 : Int32)).toInt = v2.toInt + 1 := i_add rfl kt_1 (by omega)
        exact (ih v0 (some iv1) (v2 + (1 : Int32)) g6 hW6 h0 ⟨_, rfl, h1⟩ (by omega)  (by omega))
set_option maxHeartbeats 1000000 in
theorem tX7_copyFrom {G : TE} {F0 : AH} {S : Int32} {f : AH} {n : Nat} {v0 : Nat} {v1 : Option Nat} (hW : WT G F0 S f n) (h0 : G.1 v0 = 7) (h1 : (∃ i, v1 = some i ∧ G.1 i = 7)) : PO (mX7_copyFrom v0 v1 f n) (fun v f' n' => n' = n ∧ WT G F0 S f' n ∧ (True)) := by
  obtain ⟨iv1, rfl, h1⟩ := h1
  have k_kt_0 := kt_0
  unfold mX7_copyFrom
  refine po_some ?_
  refine po_gRn (t := 5) hW h1 rfl rfl (by decide) (fun i1 ex1 hi1 => ?_)
  refine po_pO hW h0 rfl rfl (vv_n (t := 5) (by decide) hi1) (fun g2 hW2 => ?_)
  refine po_gI hW2 h1 rfl rfl (by decide) (fun x3x ex3 (_ : True) => ?_)
  refine po_pI hW2 h0 rfl rfl (vv_i (by decide) trivial) (fun g4 hW4 ex4 => ?_)
  refine po_gI hW4 h1 rfl rfl (by decide) (fun x5x ex5 (_ : True) => ?_)
  refine po_pI hW4 h0 rfl rfl (vv_i (by decide) trivial) (fun g6 hW6 ex6 => ?_)
  refine po_gI hW6 h1 rfl rfl (by decide) (fun x7x ex7 (hx7 : x7x = 0 ∨ x7x = 1) => ?_)
  refine po_ck (nb_of hx7) ?_
  refine po_pI hW6 h0 rfl rfl (vv_i (by decide) hx7) (fun g8 hW8 ex8 => ?_)
  refine po_gI hW8 h1 rfl rfl (by decide) (fun x9x ex9 (_ : True) => ?_)
  refine po_pI hW8 h0 rfl rfl (vv_i (by decide) trivial) (fun g10 hW10 ex10 => ?_)
  refine po_gI hW10 h1 rfl rfl (by decide) (fun x11x ex11 (_ : True) => ?_)
  refine po_pI hW10 h0 rfl rfl (vv_i (by decide) trivial) (fun g12 hW12 ex12 => ?_)
  refine po_gRo (t := 2) hW12 h1 rfl rfl (by decide) (fun i13 ex13 hi13 => ?_)
  refine po_pO hW12 h0 rfl rfl (vv_o (t := 2) (by decide) hi13) (fun g14 hW14 => ?_)
  refine po_gI hW14 h1 rfl rfl (by decide) (fun x15x ex15 (hx15 : 0 ≤ x15x.toInt ∧ x15x.toInt ≤ 12) => ?_)
  refine po_pI hW14 h0 rfl rfl (vv_i (by decide) (vi4 (by omega))) (fun g16 hW16 ex16 => ?_)
  exact (tX7_copyFrom_l66 rFU v0 (some iv1) (0 : Int32) g16 hW16 h0 ⟨_, rfl, h1⟩ (by omega)  (by unfold rFU; omega))
set_option maxHeartbeats 1000000 in
theorem tX7_addLock_l24 {G : TE} {F0 : AH} {S : Int32} {n : Nat} : ∀ (d : Nat) (v0 : Nat) (v1 : Option Nat) (v2 : Int32) (f : AH), WT G F0 S f n → G.1 v0 = 7 → (∀ i, v1 = some i → G.1 i = 5) → (0 ≤ v2.toInt ∧ v2.toInt ≤ 2000) → (∀ x : Int32, gI f v0 7 5 = some x → 0 ≤ x.toInt ∧ x.toInt < 4) → 3000 - v2.toInt < (d : Int) → PO (mX7_addLock_l24 d v0 v1 v2 f n) (fun v f' n' => n' = n ∧ WT G F0 S f' n ∧ (True)) := by
  intro d
  induction d with
  | zero =>
    intro v0 v1 v2 f hW h0 h1 h2 hx0 hm
    exfalso
    omega
  | succ d ih =>
    intro v0 v1 v2 f hW h0 h1 h2 hx0 hm
    show PO ((gI f v0 7 5).bind fun x1 => (if x1 ≤ v2 then ((gR f v0 7 8).bind fun x2 => ((gI f v0 7 5).bind fun x3 => ((x2).bind fun j4 => ((pRA f j4 x3 v1).bind fun f5 => ((gI f5 v0 7 5).bind fun x6 => ((pO f5 v0 7 5 (.int (x6 + (1 : Int32)))).bind fun f7 => some ((0 : Int32), (f7, n)))))))) else ((gR f v0 7 8).bind fun x8 => ((x8).bind fun j9 => ((gRA f j9 v2).bind fun x10 => (oN x10 (mX7_addLock_b75 (fun v0 v1 v2 f n => mX7_addLock_l24 d v0 v1 v2 f n) v0 v1 v2 f n) (fun j11 => (oN v1 (mX7_addLock_b75 (fun v0 v1 v2 f n => mX7_addLock_l24 d v0 v1 v2 f n) v0 (none : Option Nat) v2 f n) (fun j12 => rCk (isO f j11 5) (((mX5_size j11 f n).bind fun r14 => rCk (isO r14.2.1 j12 5) (((mX5_size j12 r14.2.1 r14.2.2).bind fun r17 => (if r14.1 = r17.1 then rCk (isO r17.2.1 j11 5) (((mX5_size j11 r17.2.1 r17.2.2).bind fun r20 => rCk (isO r20.2.1 j11 5) (((mX5_isSame j11 (0 : Int32) (some j12) (0 : Int32) r20.1 r20.2.1 r20.2.2).bind fun r23 => (if r23.1 = (0 : Int32) then mX7_addLock_b75 (fun v0 v1 v2 f n => mX7_addLock_l24 d v0 v1 v2 f n) v0 (some j12) v2 r23.2.1 r23.2.2 else some ((7 : Int32), (r23.2.1, r23.2.2))))))) else mX7_addLock_b75 (fun v0 v1 v2 f n => mX7_addLock_l24 d v0 v1 v2 f n) v0 (some j12) v2 r17.2.1 r17.2.2)))))))))))))) _
    refine po_gI hW h0 rfl rfl (by decide) (fun x1x ex1 (_ : True) => ?_)
    have hr1 := hx0 _ ex1
    refine po_le rfl rfl (fun q2 => ?_) (fun q2 => ?_)
    · refine po_gRn (t := 10) hW h0 rfl rfl (by decide) (fun i3 ex3 hi3 => ?_)
      refine po_bind ex1 ?_
      refine po_some ?_
      refine po_pRAo (N := 4) hW hi3 rfl rfl (by omega) h1 (fun g4 hW4 => ?_)
      refine po_gI hW4 h0 rfl rfl (by decide) (fun x5x ex5 (_ : True) => ?_)
      refine po_pI hW4 h0 rfl rfl (vv_i (by decide) trivial) (fun g6 hW6 ex6 => ?_)
      exact po_ret ⟨rfl, hW6, trivial⟩
    · refine po_gRn (t := 10) hW h0 rfl rfl (by decide) (fun i7 ex7 hi7 => ?_)
      refine po_some ?_
      refine po_gRAo (N := 4) hW hi7 rfl rfl (by omega) (fun i8 hi8 => ?_)
      refine po_oN (fun q10 => ?_) (fun i9 q10 => ?_)
      · subst q10
        unfold mX7_addLock_b75
        have e11 : (v2 + (1 : Int32)).toInt = v2.toInt + 1 := i_add rfl kt_1 (by omega)
        exact (ih v0 v1 (v2 + (1 : Int32)) f hW h0 h1 (by omega) hx0 (by omega))
      · subst q10
        refine po_oN (fun q13 => ?_) (fun i12 q13 => ?_)
        · subst q13
          unfold mX7_addLock_b75
          have e14 : (v2 + (1 : Int32)).toInt = v2.toInt + 1 := i_add rfl kt_1 (by omega)
          exact (ih v0 (none : Option Nat) (v2 + (1 : Int32)) f hW h0 (fun _ hi => nomatch hi) (by omega) hx0 (by omega))
        · subst q13
          refine po_ck (wt_isO hW (hi8 i9 rfl) (by decide)) ?_
          refine po_ro (tX5_size hW (hi8 i9 rfl)) (fun y15 ex15 p15 => ?_)
          dsimp only
          refine po_ck (wt_isO hW (h1 i12 rfl) (by decide)) ?_
          refine po_ro (tX5_size hW (h1 i12 rfl)) (fun y16 ex16 p16 => ?_)
          dsimp only
          refine po_eq (fun q17 => ?_) (fun q17 => ?_)
          · refine po_ck (wt_isO hW (hi8 i9 rfl) (by decide)) ?_
            refine po_bind ex15 ?_
            dsimp only
            refine po_ck (wt_isO hW (hi8 i9 rfl) (by decide)) ?_
            refine po_ro (tX5_isSame hW (hi8 i9 rfl) ⟨_, rfl, (h1 i12 rfl)⟩ (by omega)) (fun y18 ex18 p18 => ?_)
            dsimp only
            refine po_eq (fun q19 => ?_) (fun q19 => ?_)
            · unfold mX7_addLock_b75
              have e20 : (v2 + (1 : Int32)).toInt = v2.toInt + 1 := i_add rfl kt_1 (by omega)
              exact (ih v0 (some i12) (v2 + (1 : Int32)) f hW h0 (fun _ hi => Option.some.inj hi ▸ (h1 i12 rfl)) (by omega) hx0 (by omega))
            · exact po_ret ⟨rfl, hW, trivial⟩
          · unfold mX7_addLock_b75
            have e21 : (v2 + (1 : Int32)).toInt = v2.toInt + 1 := i_add rfl kt_1 (by omega)
            exact (ih v0 (some i12) (v2 + (1 : Int32)) f hW h0 (fun _ hi => Option.some.inj hi ▸ (h1 i12 rfl)) (by omega) hx0 (by omega))
set_option maxHeartbeats 1000000 in
theorem tX7_addLock {G : TE} {F0 : AH} {S : Int32} {f : AH} {n : Nat} {v0 : Nat} {v1 : Option Nat} (hW : WT G F0 S f n) (h0 : G.1 v0 = 7) (h1 : (∀ i, v1 = some i → G.1 i = 5)) : PO (mX7_addLock v0 v1 f n) (fun v f' n' => n' = n ∧ WT G F0 S f' n ∧ (True)) := by
  have k_kt_0 := kt_0
  unfold mX7_addLock
  refine po_gI hW h0 rfl rfl (by decide) (fun x1x ex1 (_ : True) => ?_)
  refine po_lt rfl kt_0 (fun q2 => ?_) (fun q2 => ?_)
  · unfold mX7_addLock_b19
    exact po_ret ⟨rfl, hW, trivial⟩
  · refine po_bind ex1 ?_
    refine po_gRn (t := 10) hW h0 rfl rfl (by decide) (fun i3 ex3 hi3 => ?_)
    refine po_some ?_
    refine po_gL (N := 4) hW hi3 rfl rfl (by decide) ?_
    refine po_lt rfl kn_4 (fun q4 => ?_) (fun q4 => ?_)
    · exact (tX7_addLock_l24 rFU v0 v1 (0 : Int32) f hW h0 h1 (by omega) (fun x hx => by rw [ex1] at hx; cases hx; omega) (by unfold rFU; omega))
    · unfold mX7_addLock_b19
      exact po_ret ⟨rfl, hW, trivial⟩
set_option maxHeartbeats 1000000 in
theorem tX7_setTold {G : TE} {F0 : AH} {S : Int32} {f : AH} {n : Nat} {v0 : Nat} {v1 : Int32} {v2 : Option Nat} (hW : WT G F0 S f n) (h0 : G.1 v0 = 7) (h1 : (∀ i, v2 = some i → G.1 i = 5)) : PO (mX7_setTold v0 v1 v2 f n) (fun v f' n' => n' = n ∧ WT G F0 S f' n ∧ (True)) := by
  unfold mX7_setTold
  refine po_lt rfl kt_0 (fun q1 => ?_) (fun q1 => ?_)
  · unfold mX7_setTold_b20
    exact po_ret ⟨rfl, hW, trivial⟩
  · refine po_gRn (t := 11) hW h0 rfl rfl (by decide) (fun i2 ex2 hi2 => ?_)
    refine po_some ?_
    refine po_gL (N := 40) hW hi2 rfl rfl (by decide) ?_
    refine po_le kn_40 rfl (fun q3 => ?_) (fun q3 => ?_)
    · unfold mX7_setTold_b20
      exact po_ret ⟨rfl, hW, trivial⟩
    · refine po_bind ex2 ?_
      refine po_some ?_
      refine po_pRAo (N := 40) hW hi2 rfl rfl (by omega) h1 (fun g4 hW4 => ?_)
      unfold mX7_setTold_b20
      exact po_ret ⟨rfl, hW4, trivial⟩
set_option maxHeartbeats 1000000 in
theorem tX8_freePiece {G : TE} {F0 : AH} {S : Int32} {f : AH} {n : Nat} {v0 : Nat} {v1 : Int32} (hW : WT G F0 S f n) (h0 : G.1 v0 = 8) : PO (mX8_freePiece v0 v1 f n) (fun v f' n' => n' = n ∧ WT G F0 S f' n ∧ (True)) := by
  unfold mX8_freePiece
  refine po_gRn (t := 1) hW h0 rfl rfl (by decide) (fun i1 ex1 hi1 => ?_)
  refine po_some ?_
  refine po_ck (wt_isO hW hi1 (by decide)) ?_
  refine po_ro (tX1_get hW hi1) (fun y2 ex2 p2 => ?_)
  dsimp only
  refine po_some ?_
  refine po_oN (fun q4 => ?_) (fun i3 q4 => ?_)
  · subst q4
    exact po_ret ⟨rfl, hW, trivial⟩
  · subst q4
    refine po_gRn (t := 7) hW h0 rfl rfl (by decide) (fun i5 ex5 hi5 => ?_)
    refine po_some ?_
    refine po_ck (wt_isO hW hi5 (by decide)) ?_
    refine po_ro (tX7_toldFor hW hi5) (fun y6 ex6 p6 => ?_)
    dsimp only
    refine po_some ?_
    refine po_oN (fun q8 => ?_) (fun i7 q8 => ?_)
    · subst q8
      exact po_ret ⟨rfl, hW, trivial⟩
    · subst q8
      refine po_bind ex5 ?_
      refine po_some ?_
      refine po_ck (wt_isO hW hi5 (by decide)) ?_
      refine po_w (tX7_setTold hW hi5 (fun _ hi => nomatch hi)) (fun y9 g9 hW9 p9 => ?_)
      dsimp only
      refine po_gRn (t := 0) hW9 h0 rfl rfl (by decide) (fun i10 ex10 hi10 => ?_)
      refine po_gRn (t := 7) hW9 h0 rfl rfl (by decide) (fun i11 ex11 hi11 => ?_)
      refine po_gRn (t := 1) hW9 h0 rfl rfl (by decide) (fun i12 ex12 hi12 => ?_)
      refine po_some ?_
      refine po_ck (wt_isO hW9 hi10 (by decide)) ?_
      refine po_w (tX0_make hW9 hi10 ⟨_, rfl, hi11⟩ ⟨_, rfl, hi12⟩) (fun y13 g13 hW13 p13 => ?_)
      dsimp only
      refine po_eq (fun q14 => ?_) (fun q14 => ?_)
      · unfold mX8_freePiece_b58
        exact po_ret ⟨rfl, hW13, trivial⟩
      · unfold mX8_freePiece_b58
        exact po_ret ⟨rfl, hW13, trivial⟩
set_option maxHeartbeats 1000000 in
theorem tX1_areLike {G : TE} {F0 : AH} {S : Int32} {f : AH} {n : Nat} {v0 : Nat} {v1 : Int32} {v2 : Int32} (hW : WT G F0 S f n) (h0 : G.1 v0 = 1) : PO (mX1_areLike v0 v1 v2 f n) (fun v f' n' => f' = f ∧ n' = n ∧ (v = 0 ∨ v = 1)) := by
  unfold mX1_areLike
  refine po_ck (wt_isO hW h0 (by decide)) ?_
  refine po_ro (tX1_get hW h0) (fun y1 ex1 p1 => ?_)
  dsimp only
  refine po_some ?_
  refine po_ck (wt_isO hW h0 (by decide)) ?_
  refine po_ro (tX1_get hW h0) (fun y2 ex2 p2 => ?_)
  dsimp only
  refine po_some ?_
  refine po_oN (fun q4 => ?_) (fun i3 q4 => ?_)
  · subst q4
    unfold mX1_areLike_b65
    unfold mX1_areLike_b66
    refine po_ck (nb_of (Or.inl rfl)) ?_
    exact po_ret ⟨rfl, rfl, (Or.inl rfl)⟩
  · subst q4
    refine po_oN (fun q6 => ?_) (fun i5 q6 => ?_)
    · subst q6
      unfold mX1_areLike_b65
      unfold mX1_areLike_b66
      refine po_ck (nb_of (Or.inl rfl)) ?_
      exact po_ret ⟨rfl, rfl, (Or.inl rfl)⟩
    · subst q6
      refine po_gI hW (p1 i3 rfl) rfl rfl (by decide) (fun x7x ex7 (hx7 : (-700) ≤ x7x.toInt ∧ x7x.toInt ≤ 700) => ?_)
      refine po_gI hW (p2 i5 rfl) rfl rfl (by decide) (fun x8x ex8 (hx8 : (-700) ≤ x8x.toInt ∧ x8x.toInt ≤ 700) => ?_)
      refine po_eq (fun q9 => ?_) (fun q9 => ?_)
      · refine po_gRm hW h0 rfl rfl (fun i10 ex10 hi10 hm10 => ?_)
        refine po_gI hW (p1 i3 rfl) rfl rfl (by decide) (fun x11x ex11 (hx11 : 0 ≤ x11x.toInt ∧ x11x.toInt ≤ 600) => ?_)
        refine po_bind ex10 ?_
        refine po_gI hW (p2 i5 rfl) rfl rfl (by decide) (fun x12x ex12 (hx12 : 0 ≤ x12x.toInt ∧ x12x.toInt ≤ 600) => ?_)
        refine po_bind ex7 ?_
        refine po_some ?_
        refine po_ck (wt_isO hW hi10 (by decide)) ?_
        refine po_ro (tX5_isSame hW hi10 ⟨_, rfl, hi10⟩ (by omega)) (fun y13 ex13 p13 => ?_)
        dsimp only
        refine po_eq (fun q14 => ?_) (fun q14 => ?_)
        · unfold mX1_areLike_b65
          unfold mX1_areLike_b66
          refine po_ck (nb_of (Or.inl rfl)) ?_
          exact po_ret ⟨rfl, rfl, (Or.inl rfl)⟩
        · unfold mX1_areLike_b66
          refine po_ck (nb_of (Or.inr rfl)) ?_
          exact po_ret ⟨rfl, rfl, (Or.inr rfl)⟩
      · unfold mX1_areLike_b65
        unfold mX1_areLike_b66
        refine po_ck (nb_of (Or.inl rfl)) ?_
        exact po_ret ⟨rfl, rfl, (Or.inl rfl)⟩
set_option maxHeartbeats 1000000 in
theorem tX8_spreadPiece_l86 {G : TE} {F0 : AH} {S : Int32} {n : Nat} : ∀ (d : Nat) (v0 : Nat) (v1 : Int32) (v2 : Option Nat) (v3 : Int32) (f : AH), WT G F0 S f n → G.1 v0 = 8 → (∃ i, v2 = some i ∧ G.1 i = 5) → (0 ≤ v3.toInt ∧ v3.toInt ≤ 2000) → 3000 - v3.toInt < (d : Int) → PO (mX8_spreadPiece_l86 d v0 v1 v2 v3 f n) (fun v f' n' => n' = n ∧ WT G F0 S f' n ∧ (True)) := by
  intro d
  induction d with
  | zero =>
    intro v0 v1 v2 v3 f hW h0 h1 h2  hm
    exfalso
    obtain ⟨iv2, rfl, h1⟩ := h1
    omega
  | succ d ih =>
    intro v0 v1 v2 v3 f hW h0 h1 h2  hm
    obtain ⟨iv2, rfl, h1⟩ := h1
    show PO ((gR f v0 8 5).bind fun x1 => ((x1).bind fun j2 => rCk (isO f j2 1) (((mX1_size j2 f n).bind fun r4 => (if r4.1 ≤ v3 then ((gR r4.2.1 v0 8 7).bind fun x6 => ((gR r4.2.1 v0 8 1).bind fun x7 => ((gR r4.2.1 v0 8 5).bind fun x8 => ((x6).bind fun j9 => rCk (isO r4.2.1 j9 0) (((mX0_make j9 x7 x8 r4.2.1 r4.2.2).bind fun r11 => (if r11.1 = (0 : Int32) then mX8_spreadPiece_b147 (3 : Int32) r11.2.1 r11.2.2 else mX8_spreadPiece_b147 (0 : Int32) r11.2.1 r11.2.2))))))) else ((gR r4.2.1 v0 8 5).bind fun x13 => ((x13).bind fun j14 => rCk (isO r4.2.1 j14 1) (((mX1_areLike j14 v1 v3 r4.2.1 r4.2.2).bind fun r16 => (if r16.1 = (0 : Int32) then mX8_spreadPiece_b118 (fun v0 v1 v2 v3 f n => mX8_spreadPiece_l86 d v0 v1 v2 v3 f n) v0 v1 (some iv2) v3 r16.2.1 r16.2.2 else ((gR r16.2.1 v0 8 1).bind fun x18 => ((x18).bind fun j19 => rCk (isO r16.2.1 j19 7) (((mX7_setTold j19 v3 (some iv2) r16.2.1 r16.2.2).bind fun r21 => mX8_spreadPiece_b118 (fun v0 v1 v2 v3 f n => mX8_spreadPiece_l86 d v0 v1 v2 v3 f n) v0 v1 (some iv2) v3 r21.2.1 r21.2.2)))))))))))))) _
    refine po_gRn (t := 1) hW h0 rfl rfl (by decide) (fun i1 ex1 hi1 => ?_)
    refine po_some ?_
    refine po_ck (wt_isO hW hi1 (by decide)) ?_
    refine po_ro (tX1_size hW hi1) (fun y2 ex2 p2 => ?_)
    dsimp only
    refine po_le rfl rfl (fun q3 => ?_) (fun q3 => ?_)
    · refine po_gRn (t := 0) hW h0 rfl rfl (by decide) (fun i4 ex4 hi4 => ?_)
      refine po_gRn (t := 7) hW h0 rfl rfl (by decide) (fun i5 ex5 hi5 => ?_)
      refine po_bind ex1 ?_
      refine po_some ?_
      refine po_ck (wt_isO hW hi4 (by decide)) ?_
      refine po_w (tX0_make hW hi4 ⟨_, rfl, hi5⟩ ⟨_, rfl, hi1⟩) (fun y6 g6 hW6 p6 => ?_)
      dsimp only
      refine po_eq (fun q7 => ?_) (fun q7 => ?_)
      · unfold mX8_spreadPiece_b147
        exact po_ret ⟨rfl, hW6, trivial⟩
      · unfold mX8_spreadPiece_b147
        exact po_ret ⟨rfl, hW6, trivial⟩
    · refine po_bind ex1 ?_
      refine po_some ?_
      refine po_ck (wt_isO hW hi1 (by decide)) ?_
      refine po_ro (tX1_areLike hW hi1) (fun y8 ex8 p8 => ?_)
      dsimp only
      refine po_eq (fun q9 => ?_) (fun q9 => ?_)
      · unfold mX8_spreadPiece_b118
        have e10 : (v3 + (1 : Int32)).toInt = v3.toInt + 1 := i_add rfl kt_1 (by omega)
        exact (ih v0 v1 (some iv2) (v3 + (1 : Int32)) f hW h0 ⟨_, rfl, h1⟩ (by omega)  (by omega))
      · refine po_gRn (t := 7) hW h0 rfl rfl (by decide) (fun i11 ex11 hi11 => ?_)
        refine po_some ?_
        refine po_ck (wt_isO hW hi11 (by decide)) ?_
        refine po_w (tX7_setTold hW hi11 (fun _ hi => Option.some.inj hi ▸ h1)) (fun y12 g12 hW12 p12 => ?_)
        dsimp only
        unfold mX8_spreadPiece_b118
        have e13 : (v3 + (1 : Int32)).toInt = v3.toInt + 1 := i_add rfl kt_1 (by omega)
        exact (ih v0 v1 (some iv2) (v3 + (1 : Int32)) g12 hW12 h0 ⟨_, rfl, h1⟩ (by omega)  (by omega))
set_option maxHeartbeats 1000000 in
theorem tX8_spreadPiece_l30 {G : TE} {F0 : AH} {S : Int32} {n : Nat} : ∀ (d : Nat) (v0 : Nat) (v1 : Int32) (v2 : Option Nat) (v3 : Int32) (f : AH), WT G F0 S f n → G.1 v0 = 8 → (∃ i, v2 = some i ∧ G.1 i = 5) → (0 ≤ v3.toInt ∧ v3.toInt ≤ 2000) → 3000 - v3.toInt < (d : Int) → PO (mX8_spreadPiece_l30 d v0 v1 v2 v3 f n) (fun v f' n' => n' = n ∧ WT G F0 S f' n ∧ (True)) := by
  intro d
  induction d with
  | zero =>
    intro v0 v1 v2 v3 f hW h0 h1 h2  hm
    exfalso
    obtain ⟨iv2, rfl, h1⟩ := h1
    omega
  | succ d ih =>
    intro v0 v1 v2 v3 f hW h0 h1 h2  hm
    obtain ⟨iv2, rfl, h1⟩ := h1
    have k_kt_0 := kt_0
    show PO ((gR f v0 8 5).bind fun x1 => ((x1).bind fun j2 => rCk (isO f j2 1) (((mX1_size j2 f n).bind fun r4 => (if r4.1 ≤ v3 then mX8_spreadPiece_l86 rFU v0 v1 (some iv2) (0 : Int32) r4.2.1 r4.2.2 else ((gR r4.2.1 v0 8 5).bind fun x6 => ((x6).bind fun j7 => rCk (isO r4.2.1 j7 1) (((mX1_areLike j7 v1 v3 r4.2.1 r4.2.2).bind fun r9 => (if r9.1 = (0 : Int32) then mX8_spreadPiece_b78 (fun v0 v1 v2 v3 f n => mX8_spreadPiece_l30 d v0 v1 v2 v3 f n) v0 v1 (some iv2) v3 r9.2.1 r9.2.2 else ((gR r9.2.1 v0 8 7).bind fun x11 => ((gR r9.2.1 v0 8 5).bind fun x12 => ((x12).bind fun j13 => rCk (isO r9.2.1 j13 1) (((mX1_get j13 v3 r9.2.1 r9.2.2).bind fun r15 => ((some r15.1).bind fun x17 => ((gR r15.2.1 v0 8 1).bind fun x18 => ((x11).bind fun j19 => rCk (isO r15.2.1 j19 0) (((mX0_escape j19 (some iv2) x17 x18 r15.2.1 r15.2.2).bind fun r21 => (if r21.1 = (0 : Int32) then some ((2 : Int32), (r21.2.1, r21.2.2)) else mX8_spreadPiece_b78 (fun v0 v1 v2 v3 f n => mX8_spreadPiece_l30 d v0 v1 v2 v3 f n) v0 v1 (some iv2) v3 r21.2.1 r21.2.2))))))))))))))))))))) _
    refine po_gRn (t := 1) hW h0 rfl rfl (by decide) (fun i1 ex1 hi1 => ?_)
    refine po_some ?_
    refine po_ck (wt_isO hW hi1 (by decide)) ?_
    refine po_ro (tX1_size hW hi1) (fun y2 ex2 p2 => ?_)
    dsimp only
    refine po_le rfl rfl (fun q3 => ?_) (fun q3 => ?_)
    · exact (tX8_spreadPiece_l86 rFU v0 v1 (some iv2) (0 : Int32) f hW h0 ⟨_, rfl, h1⟩ (by omega)  (by unfold rFU; omega))
    · refine po_bind ex1 ?_
      refine po_some ?_
      refine po_ck (wt_isO hW hi1 (by decide)) ?_
      refine po_ro (tX1_areLike hW hi1) (fun y4 ex4 p4 => ?_)
      dsimp only
      refine po_eq (fun q5 => ?_) (fun q5 => ?_)
      · unfold mX8_spreadPiece_b78
        have e6 : (v3 + (1 : Int32)).toInt = v3.toInt + 1 := i_add rfl kt_1 (by omega)
        exact (ih v0 v1 (some iv2) (v3 + (1 : Int32)) f hW h0 ⟨_, rfl, h1⟩ (by omega)  (by omega))
      · refine po_gRn (t := 0) hW h0 rfl rfl (by decide) (fun i7 ex7 hi7 => ?_)
        refine po_bind ex1 ?_
        refine po_some ?_
        refine po_ck (wt_isO hW hi1 (by decide)) ?_
        refine po_ro (tX1_get hW hi1) (fun y8 ex8 p8 => ?_)
        dsimp only
        refine po_some ?_
        refine po_gRn (t := 7) hW h0 rfl rfl (by decide) (fun i9 ex9 hi9 => ?_)
        refine po_some ?_
        refine po_ck (wt_isO hW hi7 (by decide)) ?_
        refine po_w (tX0_escape hW hi7 ⟨_, rfl, h1⟩ p8 ⟨_, rfl, hi9⟩) (fun y10 g10 hW10 p10 => ?_)
        dsimp only
        refine po_eq (fun q11 => ?_) (fun q11 => ?_)
        · exact po_ret ⟨rfl, hW10, trivial⟩
        · unfold mX8_spreadPiece_b78
          have e12 : (v3 + (1 : Int32)).toInt = v3.toInt + 1 := i_add rfl kt_1 (by omega)
          exact (ih v0 v1 (some iv2) (v3 + (1 : Int32)) g10 hW10 h0 ⟨_, rfl, h1⟩ (by omega)  (by omega))
set_option maxHeartbeats 1000000 in
theorem tX8_spreadPiece {G : TE} {F0 : AH} {S : Int32} {f : AH} {n : Nat} {v0 : Nat} {v1 : Int32} (hW : WT G F0 S f n) (h0 : G.1 v0 = 8) : PO (mX8_spreadPiece v0 v1 f n) (fun v f' n' => n' = n ∧ WT G F0 S f' n ∧ (True)) := by
  have k_kt_0 := kt_0
  unfold mX8_spreadPiece
  refine po_gRn (t := 1) hW h0 rfl rfl (by decide) (fun i1 ex1 hi1 => ?_)
  refine po_some ?_
  refine po_ck (wt_isO hW hi1 (by decide)) ?_
  refine po_ro (tX1_get hW hi1) (fun y2 ex2 p2 => ?_)
  dsimp only
  refine po_some ?_
  refine po_oN (fun q4 => ?_) (fun i3 q4 => ?_)
  · subst q4
    exact po_ret ⟨rfl, hW, trivial⟩
  · subst q4
    refine po_gRn (t := 7) hW h0 rfl rfl (by decide) (fun i5 ex5 hi5 => ?_)
    refine po_some ?_
    refine po_ck (wt_isO hW hi5 (by decide)) ?_
    refine po_ro (tX7_toldFor hW hi5) (fun y6 ex6 p6 => ?_)
    dsimp only
    refine po_some ?_
    refine po_oN (fun q8 => ?_) (fun i7 q8 => ?_)
    · subst q8
      exact po_ret ⟨rfl, hW, trivial⟩
    · subst q8
      exact (tX8_spreadPiece_l30 rFU v0 v1 (some i7) (0 : Int32) f hW h0 ⟨_, rfl, (p6 i7 rfl)⟩ (by omega)  (by unfold rFU; omega))
theorem tX8_nowSize {G : TE} {F0 : AH} {S : Int32} {f : AH} {n : Nat} {v0 : Nat} {v1 : Int32} {v2 : Option Nat} (hW : WT G F0 S f n) (h0 : G.1 v0 = 8) (h1 : (∃ i, v2 = some i ∧ G.1 i = 3)) : PO (mX8_nowSize v0 v1 v2 f n) (fun v f' n' => f' = f ∧ n' = n ∧ (v.toInt ≤ 60 → ∀ p, v2 = some p → L60 f n v0 v1 p)) := by
  obtain ⟨iv2, rfl, h1⟩ := h1
  unfold mX8_nowSize
  refine po_gRn (t := 7) hW h0 rfl rfl (by decide) (fun i1 ex1 hi1 => ?_)
  refine po_some ?_
  refine po_ck (wt_isO hW hi1 (by decide)) ?_
  refine po_ro (tX7_toldFor hW hi1) (fun y4 ex4 p4 => ?_)
  dsimp only
  refine po_some ?_
  refine po_oN (fun q => ?_) (fun j q => ?_)
  · subst q
    refine po_some ?_
    refine po_gI hW h1 rfl rfl (by decide) (fun x9 ex9 (_ : -700 ≤ x9.toInt ∧ x9.toInt ≤ 700) => ?_)
    unfold mX8_nowSize_b24
    refine po_ret ⟨rfl, rfl, fun hh p hp => ?_⟩
    cases hp
    intro st x e1 e2 e3
    rw [ex9] at e3; cases e3; exact hh
  · subst q
    refine po_ck (wt_isO hW (p4 j rfl) (by decide)) ?_
    refine po_ro (tX5_size hW (p4 j rfl)) (fun y11 ex11 p11 => ?_)
    dsimp only
    unfold mX8_nowSize_b24
    refine po_ret ⟨rfl, rfl, fun hh p hp => ?_⟩
    intro st x e1 e2 e3
    rw [ex1] at e1; cases e1
    rw [ex4] at e2; cases e2
theorem tX8_copyOfNow {G : TE} {F0 : AH} {S : Int32} {f : AH} {n : Nat} {v0 : Nat} {v1 : Int32} {v2 : Option Nat} (hW : WT G F0 S f n) (h0 : G.1 v0 = 8) (h1 : (∃ i, v2 = some i ∧ G.1 i = 3)) (hL : ∀ p, v2 = some p → L60 f n v0 v1 p) : PO (mX8_copyOfNow v0 v1 v2 f n) (fun v f' n' => ∃ G', EXT G G' ∧ WT G' F0 S f' n' ∧ ((∃ i, v = some i ∧ G'.1 i = 5) ∧ ∀ j, j < n → f' j = f j)) := by
  obtain ⟨iv2, rfl, h1⟩ := h1
  unfold mX8_copyOfNow
  refine po_gRn (t := 7) hW h0 rfl rfl (by decide) (fun i1 ex1 hi1 => ?_)
  refine po_some ?_
  refine po_ck (wt_isO hW hi1 (by decide)) ?_
  refine po_ro (tX7_toldFor hW hi1) (fun y4 ex4 p4 => ?_)
  dsimp only
  refine po_some ?_
  refine po_oN (fun q => ?_) (fun j q => ?_)
  · subst q
    refine po_gRn (t := 1) hW h0 rfl rfl (by decide) (fun i8 ex8 hi8 => ?_)
    refine po_some ?_
    refine po_gRm hW hi8 rfl rfl (fun i10 ex10 hi10 hm10 => ?_)
    refine po_some ?_
    refine po_gI hW h1 rfl rfl (by decide) (fun x12 ex12 (hx12 : 0 ≤ x12.toInt ∧ x12.toInt ≤ 600) => ?_)
    refine po_gI hW h1 rfl rfl (by decide) (fun x13 ex13 (hx13 : -700 ≤ x13.toInt ∧ x13.toInt ≤ 700) => ?_)
    refine po_some ?_
    refine po_ck (wt_isO hW hi10 (by decide)) ?_
    have h60 := hL iv2 rfl i1 x13 ex1 ex4 ex13
    obtain ⟨v, g, m, e, G', a, b, ⟨i, hi, hi5⟩, d⟩ := part_x (B := 60) (v0 := i10) (v1 := x12) (v2 := x13) hW hi10 (by omega)
    refine po_bind e ?_
    dsimp only
    refine po_some ?_
    unfold mX8_copyOfNow_b35
    exact po_ret ⟨G', a, b, ⟨i, hi, hi5⟩, d⟩
  · subst q
    unfold mX8_copyOfNow_b35
    exact po_ret ⟨G, EXT.rfl, hW, ⟨j, rfl, p4 j rfl⟩, fun _ _ => rfl⟩
set_option maxHeartbeats 1000000 in
theorem tX8_swapPieces {G : TE} {F0 : AH} {S : Int32} {f : AH} {n : Nat} {v0 : Nat} {v1 : Int32} {v2 : Int32} (hW : WT G F0 S f n) (h0 : G.1 v0 = 8) : PO (mX8_swapPieces v0 v1 v2 f n) (fun v f' n' => ∃ G', EXT G G' ∧ WT G' F0 S f' n' ∧ (True)) := by
  unfold mX8_swapPieces
  refine po_gRn (t := 1) hW h0 rfl rfl (by decide) (fun i1 ex1 hi1 => ?_)
  refine po_some ?_
  refine po_ck (wt_isO hW hi1 (by decide)) ?_
  refine po_ro (tX1_get hW hi1) (fun y2 ex2 p2 => ?_)
  dsimp only
  refine po_some ?_
  refine po_bind ex1 ?_
  refine po_some ?_
  refine po_ck (wt_isO hW hi1 (by decide)) ?_
  refine po_ro (tX1_get hW hi1) (fun y3 ex3 p3 => ?_)
  dsimp only
  refine po_some ?_
  refine po_oN (fun q5 => ?_) (fun i4 q5 => ?_)
  · subst q5
    unfold mX8_swapPieces_b28
    exact po_ret ⟨_, EXT.rfl, hW, trivial⟩
  · subst q5
    refine po_oN (fun q7 => ?_) (fun i6 q7 => ?_)
    · subst q7
      unfold mX8_swapPieces_b28
      exact po_ret ⟨_, EXT.rfl, hW, trivial⟩
    · subst q7
      refine po_eq (fun q8 => ?_) (fun q8 => ?_)
      · exact po_ret ⟨_, EXT.rfl, hW, trivial⟩
      · refine po_ck (wt_isO hW h0 (by decide)) ?_
        refine po_ro (tX8_nowSize hW h0 ⟨_, rfl, (p2 i4 rfl)⟩) (fun y9 ex9 p9 => ?_)
        dsimp only
        refine po_lt kt_60 rfl (fun q10 => ?_) (fun q10 => ?_)
        · unfold mX8_swapPieces_b60
          exact po_ret ⟨_, EXT.rfl, hW, trivial⟩
        · refine po_ck (wt_isO hW h0 (by decide)) ?_
          refine po_ro (tX8_nowSize hW h0 ⟨_, rfl, (p3 i6 rfl)⟩) (fun y11 ex11 p11 => ?_)
          dsimp only
          refine po_le rfl kt_60 (fun q12 => ?_) (fun q12 => ?_)
          · refine po_ck (wt_isO hW h0 (by decide)) ?_
            refine po_af (tX8_copyOfNow hW h0 ⟨_, rfl, (p2 i4 rfl)⟩ (p9 (by omega))) (fun y13 g13 n13 G13 xt13 hW13 p13 => ?_)
            dsimp only
            obtain ⟨⟨i13, rfl, hi13⟩, fr13⟩ := p13
            refine po_some ?_
            refine po_ck (wt_isO hW13 (xt13.ty h0 (by decide)) (by decide)) ?_
            refine po_af (tX8_copyOfNow hW13 (xt13.ty h0 (by decide)) ⟨_, rfl, (xt13.ty (p3 i6 rfl) (by decide))⟩ (fun p hp => L60_fr hW fr13 h0 (by cases hp; exact (p3 i6 rfl)) (p11 (by omega) p hp))) (fun y14 g14 n14 G14 xt14 hW14 p14 => ?_)
            dsimp only
            obtain ⟨⟨i14, rfl, hi14⟩, fr14⟩ := p14
            refine po_some ?_
            refine po_gRn (t := 0) hW14 (xt14.ty (xt13.ty h0 (by decide)) (by decide)) rfl rfl (by decide) (fun i15 ex15 hi15 => ?_)
            refine po_gRn (t := 7) hW14 (xt14.ty (xt13.ty h0 (by decide)) (by decide)) rfl rfl (by decide) (fun i16 ex16 hi16 => ?_)
            refine po_some ?_
            refine po_ck (wt_isO hW14 hi15 (by decide)) ?_
            refine po_w (tX0_escape hW14 hi15 ⟨_, rfl, hi14⟩ (fun _ hi => Option.some.inj hi ▸ (xt14.ty (xt13.ty (p2 i4 rfl) (by decide)) (by decide))) ⟨_, rfl, hi16⟩) (fun y17 g17 hW17 p17 => ?_)
            dsimp only
            refine po_eq (fun q18 => ?_) (fun q18 => ?_)
            · unfold mX8_swapPieces_b115
              exact po_ret ⟨_, (xt13.trans xt14), hW17, trivial⟩
            · refine po_gRn (t := 0) hW17 (xt14.ty (xt13.ty h0 (by decide)) (by decide)) rfl rfl (by decide) (fun i19 ex19 hi19 => ?_)
              refine po_gRn (t := 7) hW17 (xt14.ty (xt13.ty h0 (by decide)) (by decide)) rfl rfl (by decide) (fun i20 ex20 hi20 => ?_)
              refine po_some ?_
              refine po_ck (wt_isO hW17 hi19 (by decide)) ?_
              refine po_w (tX0_escape hW17 hi19 ⟨_, rfl, (xt14.ty hi13 (by decide))⟩ (fun _ hi => Option.some.inj hi ▸ (xt14.ty (xt13.ty (p3 i6 rfl) (by decide)) (by decide))) ⟨_, rfl, hi20⟩) (fun y21 g21 hW21 p21 => ?_)
              dsimp only
              refine po_eq (fun q22 => ?_) (fun q22 => ?_)
              · unfold mX8_swapPieces_b115
                exact po_ret ⟨_, (xt13.trans xt14), hW21, trivial⟩
              · refine po_gRn (t := 7) hW21 (xt14.ty (xt13.ty h0 (by decide)) (by decide)) rfl rfl (by decide) (fun i23 ex23 hi23 => ?_)
                refine po_some ?_
                refine po_ck (wt_isO hW21 hi23 (by decide)) ?_
                refine po_w (tX7_setTold hW21 hi23 (fun _ hi => Option.some.inj hi ▸ hi14)) (fun y24 g24 hW24 p24 => ?_)
                dsimp only
                refine po_gRn (t := 7) hW24 (xt14.ty (xt13.ty h0 (by decide)) (by decide)) rfl rfl (by decide) (fun i25 ex25 hi25 => ?_)
                refine po_some ?_
                refine po_ck (wt_isO hW24 hi25 (by decide)) ?_
                refine po_w (tX7_setTold hW24 hi25 (fun _ hi => Option.some.inj hi ▸ (xt14.ty hi13 (by decide)))) (fun y26 g26 hW26 p26 => ?_)
                dsimp only
                refine po_gRn (t := 0) hW26 (xt14.ty (xt13.ty h0 (by decide)) (by decide)) rfl rfl (by decide) (fun i27 ex27 hi27 => ?_)
                refine po_gRn (t := 7) hW26 (xt14.ty (xt13.ty h0 (by decide)) (by decide)) rfl rfl (by decide) (fun i28 ex28 hi28 => ?_)
                refine po_gRn (t := 1) hW26 (xt14.ty (xt13.ty h0 (by decide)) (by decide)) rfl rfl (by decide) (fun i29 ex29 hi29 => ?_)
                refine po_some ?_
                refine po_ck (wt_isO hW26 hi27 (by decide)) ?_
                refine po_w (tX0_make hW26 hi27 ⟨_, rfl, hi28⟩ ⟨_, rfl, hi29⟩) (fun y30 g30 hW30 p30 => ?_)
                dsimp only
                refine po_eq (fun q31 => ?_) (fun q31 => ?_)
                · unfold mX8_swapPieces_b160
                  exact po_ret ⟨_, (xt13.trans xt14), hW30, trivial⟩
                · unfold mX8_swapPieces_b160
                  exact po_ret ⟨_, (xt13.trans xt14), hW30, trivial⟩
          · unfold mX8_swapPieces_b60
            exact po_ret ⟨_, EXT.rfl, hW, trivial⟩
set_option maxHeartbeats 1000000 in
theorem tX7_toldCount_l4 {G : TE} {F0 : AH} {S : Int32} {n : Nat} : ∀ (d : Nat) (v0 : Nat) (v1 : Int32) (v2 : Int32) (f : AH), WT G F0 S f n → G.1 v0 = 7 → (0 ≤ v2.toInt ∧ v2.toInt ≤ 2000) → 3000 - v2.toInt < (d : Int) → PO (mX7_toldCount_l4 d v0 v1 v2 f n) (fun v f' n' => f' = f ∧ n' = n ∧ (True)) := by
  intro d
  induction d with
  | zero =>
    intro v0 v1 v2 f hW h0 h1  hm
    exfalso
    omega
  | succ d ih =>
    intro v0 v1 v2 f hW h0 h1  hm
    show PO ((gR f v0 7 9).bind fun x1 => ((x1).bind fun j2 => ((gL f j2).bind fun x3 => (if (nI x3) ≤ v2 then some (v1, (f, n)) else ((gR f v0 7 9).bind fun x4 => ((x4).bind fun j5 => ((gRA f j5 v2).bind fun x6 => (oN x6 (mX7_toldCount_b25 (fun v0 v1 v2 f n => mX7_toldCount_l4 d v0 v1 v2 f n) v0 v1 v2 f n) (fun j7 => mX7_toldCount_b25 (fun v0 v1 v2 f n => mX7_toldCount_l4 d v0 v1 v2 f n) v0 (v1 + (1 : Int32)) v2 f n))))))))) _
    refine po_gRn (t := 11) hW h0 rfl rfl (by decide) (fun i1 ex1 hi1 => ?_)
    refine po_some ?_
    refine po_gL (N := 40) hW hi1 rfl rfl (by decide) ?_
    refine po_le kn_40 rfl (fun q2 => ?_) (fun q2 => ?_)
    · exact po_ret ⟨rfl, rfl, trivial⟩
    · refine po_bind ex1 ?_
      refine po_some ?_
      refine po_gRAo (N := 40) hW hi1 rfl rfl (by omega) (fun i3 hi3 => ?_)
      refine po_oN (fun q5 => ?_) (fun i4 q5 => ?_)
      · subst q5
        unfold mX7_toldCount_b25
        have e6 : (v2 + (1 : Int32)).toInt = v2.toInt + 1 := i_add rfl kt_1 (by omega)
        exact (ih v0 v1 (v2 + (1 : Int32)) f hW h0 (by omega)  (by omega))
      · subst q5
        unfold mX7_toldCount_b25
        have e7 : (v2 + (1 : Int32)).toInt = v2.toInt + 1 := i_add rfl kt_1 (by omega)
        exact (ih v0 (v1 + (1 : Int32)) (v2 + (1 : Int32)) f hW h0 (by omega)  (by omega))
set_option maxHeartbeats 1000000 in
theorem tX7_toldCount {G : TE} {F0 : AH} {S : Int32} {f : AH} {n : Nat} {v0 : Nat} (hW : WT G F0 S f n) (h0 : G.1 v0 = 7) : PO (mX7_toldCount v0 f n) (fun v f' n' => f' = f ∧ n' = n ∧ (True)) := by
  have k_kt_0 := kt_0
  unfold mX7_toldCount
  exact (tX7_toldCount_l4 rFU v0 (0 : Int32) (0 : Int32) f hW h0 (by omega)  (by unfold rFU; omega))
set_option maxHeartbeats 1000000 in
theorem tX8_wipePieces {G : TE} {F0 : AH} {S : Int32} {f : AH} {n : Nat} {v0 : Nat} (hW : WT G F0 S f n) (h0 : G.1 v0 = 8) : PO (mX8_wipePieces v0 f n) (fun v f' n' => n' = n ∧ WT G F0 S f' n ∧ (True)) := by
  unfold mX8_wipePieces
  refine po_gRn (t := 7) hW h0 rfl rfl (by decide) (fun i1 ex1 hi1 => ?_)
  refine po_some ?_
  refine po_ck (wt_isO hW hi1 (by decide)) ?_
  refine po_ro (tX7_toldCount hW hi1) (fun y2 ex2 p2 => ?_)
  dsimp only
  refine po_eq (fun q3 => ?_) (fun q3 => ?_)
  · exact po_ret ⟨rfl, hW, trivial⟩
  · refine po_bind ex1 ?_
    refine po_some ?_
    refine po_ck (wt_isO hW hi1 (by decide)) ?_
    refine po_w (tX7_forgetTold hW hi1) (fun y4 g4 hW4 p4 => ?_)
    dsimp only
    refine po_gRn (t := 0) hW4 h0 rfl rfl (by decide) (fun i5 ex5 hi5 => ?_)
    refine po_gRn (t := 7) hW4 h0 rfl rfl (by decide) (fun i6 ex6 hi6 => ?_)
    refine po_gRn (t := 1) hW4 h0 rfl rfl (by decide) (fun i7 ex7 hi7 => ?_)
    refine po_some ?_
    refine po_ck (wt_isO hW4 hi5 (by decide)) ?_
    refine po_w (tX0_make hW4 hi5 ⟨_, rfl, hi6⟩ ⟨_, rfl, hi7⟩) (fun y8 g8 hW8 p8 => ?_)
    dsimp only
    refine po_eq (fun q9 => ?_) (fun q9 => ?_)
    · unfold mX8_wipePieces_b42
      exact po_ret ⟨rfl, hW8, trivial⟩
    · unfold mX8_wipePieces_b42
      exact po_ret ⟨rfl, hW8, trivial⟩
set_option maxHeartbeats 1000000 in
theorem tX8_tellPiece {G : TE} {F0 : AH} {S : Int32} {f : AH} {n : Nat} {v0 : Nat} {v1 : Int32} {v2 : Option Nat} (hW : WT G F0 S f n) (h0 : G.1 v0 = 8) (h1 : (∀ i, v2 = some i → G.1 i = 5)) : PO (mX8_tellPiece v0 v1 v2 f n) (fun v f' n' => ∃ G', EXT G G' ∧ WT G' F0 S f' n' ∧ (True)) := by
  unfold mX8_tellPiece
  refine po_gRn (t := 1) hW h0 rfl rfl (by decide) (fun i1 ex1 hi1 => ?_)
  refine po_some ?_
  refine po_ck (wt_isO hW hi1 (by decide)) ?_
  refine po_ro (tX1_get hW hi1) (fun y2 ex2 p2 => ?_)
  dsimp only
  refine po_some ?_
  refine po_oN (fun q4 => ?_) (fun i3 q4 => ?_)
  · subst q4
    unfold mX8_tellPiece_b17
    exact po_ret ⟨_, EXT.rfl, hW, trivial⟩
  · subst q4
    refine po_oN (fun q6 => ?_) (fun i5 q6 => ?_)
    · subst q6
      unfold mX8_tellPiece_b17
      exact po_ret ⟨_, EXT.rfl, hW, trivial⟩
    · subst q6
      refine po_gRn (t := 0) hW h0 rfl rfl (by decide) (fun i7 ex7 hi7 => ?_)
      refine po_gRn (t := 7) hW h0 rfl rfl (by decide) (fun i8 ex8 hi8 => ?_)
      refine po_some ?_
      refine po_ck (wt_isO hW hi7 (by decide)) ?_
      refine po_w (tX0_escape hW hi7 ⟨_, rfl, (h1 i5 rfl)⟩ (fun _ hi => Option.some.inj hi ▸ (p2 i3 rfl)) ⟨_, rfl, hi8⟩) (fun y9 g9 hW9 p9 => ?_)
      dsimp only
      refine po_eq (fun q10 => ?_) (fun q10 => ?_)
      · exact po_ret ⟨_, EXT.rfl, hW9, trivial⟩
      · refine po_gRn (t := 7) hW9 h0 rfl rfl (by decide) (fun i11 ex11 hi11 => ?_)
        refine po_some ?_
        refine po_ck (wt_isO hW9 hi11 (by decide)) ?_
        refine po_w (tX7_setTold hW9 hi11 (fun _ hi => Option.some.inj hi ▸ (h1 i5 rfl))) (fun y12 g12 hW12 p12 => ?_)
        dsimp only
        refine po_gRn (t := 0) hW12 h0 rfl rfl (by decide) (fun i13 ex13 hi13 => ?_)
        refine po_gRn (t := 7) hW12 h0 rfl rfl (by decide) (fun i14 ex14 hi14 => ?_)
        refine po_gRn (t := 1) hW12 h0 rfl rfl (by decide) (fun i15 ex15 hi15 => ?_)
        refine po_some ?_
        refine po_ck (wt_isO hW12 hi13 (by decide)) ?_
        refine po_w (tX0_make hW12 hi13 ⟨_, rfl, hi14⟩ ⟨_, rfl, hi15⟩) (fun y16 g16 hW16 p16 => ?_)
        dsimp only
        refine po_eq (fun q17 => ?_) (fun q17 => ?_)
        · exact po_ret ⟨_, EXT.rfl, hW16, trivial⟩
        · refine po_gI hW16 (p2 i3 rfl) rfl rfl (by decide) (fun x18x ex18 (hx18 : (-700) ≤ x18x.toInt ∧ x18x.toInt ≤ 700) => ?_)
          refine po_lt kt_60 rfl (fun q19 => ?_) (fun q19 => ?_)
          · unfold mX8_tellPiece_b101
            exact po_ret ⟨_, EXT.rfl, hW16, trivial⟩
          · refine po_gRn (t := 7) hW16 h0 rfl rfl (by decide) (fun i20 ex20 hi20 => ?_)
            refine po_gRn (t := 1) hW16 h0 rfl rfl (by decide) (fun i21 ex21 hi21 => ?_)
            refine po_some ?_
            refine po_gRm hW16 hi21 rfl rfl (fun i22 ex22 hi22 hm22 => ?_)
            refine po_gI hW16 (p2 i3 rfl) rfl rfl (by decide) (fun x23x ex23 (hx23 : 0 ≤ x23x.toInt ∧ x23x.toInt ≤ 600) => ?_)
            refine po_bind ex18 ?_
            refine po_some ?_
            refine po_ck (wt_isO hW16 hi22 (by decide)) ?_
            refine po_a (tX5_part (B := 60) hW16 hi22 (by omega)) (fun y24 g24 n24 G24 xt24 hW24 p24 => ?_)
            dsimp only
            obtain ⟨i24, rfl, hi24⟩ := p24
            refine po_some ?_
            refine po_some ?_
            refine po_ck (wt_isO hW24 (xt24.ty hi20 (by decide)) (by decide)) ?_
            refine po_a (tX7_addPair hW24 (xt24.ty hi20 (by decide)) ⟨_, rfl, hi24⟩ ⟨_, rfl, (xt24.ty (h1 i5 rfl) (by decide))⟩) (fun y25 g25 n25 G25 xt25 hW25 p25 => ?_)
            dsimp only
            unfold mX8_tellPiece_b101
            exact po_ret ⟨_, (xt24.trans xt25), hW25, trivial⟩
end
/-! part 38e.wt -/
section
set_option maxHeartbeats 1000000 in
theorem tX8_doAct {G : TE} {F0 : AH} {S : Int32} {f : AH} {n : Nat} {v0 : Nat} {v1 : Int32} {v2 : Int32} {v3 : Int32} {v4 : Option Nat} (hW : WT G F0 S f n) (h0 : G.1 v0 = 8) (h1 : (∀ i, v4 = some i → G.1 i = 5)) : PO (mX8_doAct v0 v1 v2 v3 v4 f n) (fun v f' n' => ∃ G', EXT G G' ∧ WT G' F0 S f' n' ∧ ((0 ≤ v1.toInt ∧ v1.toInt ≤ 5 ∨ v1.toInt = 7) → v = 0)) := by
  unfold mX8_doAct
  refine po_ck rfl ?_
  refine po_pI hW h0 rfl rfl (vv_i (by decide) (Or.inl rfl)) (fun g1 hW1 ex1 => ?_)
  refine po_eq (fun q2 => ?_) (fun q2 => ?_)
  · have z2 : v1.toInt = 0 := by rw [q2]; exact kt_0
    refine po_gRn (t := 7) hW1 h0 rfl rfl (by decide) (fun i3 ex3 hi3 => ?_)
    refine po_some ?_
    refine po_pI hW1 hi3 rfl rfl (vv_i (by decide) trivial) (fun g4 hW4 ex4 => ?_)
    refine po_ck (wt_isO hW4 h0 (by decide)) ?_
    refine po_w (tX8_cutAnew hW4 h0) (fun y5 g5 hW5 p5 => ?_)
    dsimp only
    exact po_ret ⟨_, EXT.rfl, hW5, (fun _ => p5)⟩
  · have z2 : v1.toInt ≠ 0 := fun h => q2 (Int32.toInt_inj.mp (h.trans kt_0.symm))
    refine po_eq (fun q6 => ?_) (fun q6 => ?_)
    · have z6 : v1.toInt = 1 := by rw [q6]; exact kt_1
      refine po_gRn (t := 7) hW1 h0 rfl rfl (by decide) (fun i7 ex7 hi7 => ?_)
      refine po_some ?_
      refine po_pI hW1 hi7 rfl rfl (vv_i (by decide) trivial) (fun g8 hW8 ex8 => ?_)
      refine po_ck (wt_isO hW8 h0 (by decide)) ?_
      refine po_w (tX8_cutAnew hW8 h0) (fun y9 g9 hW9 p9 => ?_)
      dsimp only
      exact po_ret ⟨_, EXT.rfl, hW9, (fun _ => p9)⟩
    · have z6 : v1.toInt ≠ 1 := fun h => q6 (Int32.toInt_inj.mp (h.trans kt_1.symm))
      refine po_eq (fun q10 => ?_) (fun q10 => ?_)
      · have z10 : v1.toInt = 2 := by rw [q10]; exact kt_2
        refine po_gRn (t := 7) hW1 h0 rfl rfl (by decide) (fun i11 ex11 hi11 => ?_)
        refine po_some ?_
        refine po_pI hW1 hi11 rfl rfl (vv_i (by decide) trivial) (fun g12 hW12 ex12 => ?_)
        refine po_ck (wt_isO hW12 h0 (by decide)) ?_
        refine po_w (tX8_cutAnew hW12 h0) (fun y13 g13 hW13 p13 => ?_)
        dsimp only
        exact po_ret ⟨_, EXT.rfl, hW13, (fun _ => p13)⟩
      · have z10 : v1.toInt ≠ 2 := fun h => q10 (Int32.toInt_inj.mp (h.trans kt_2.symm))
        refine po_eq (fun q14 => ?_) (fun q14 => ?_)
        · have z14 : v1.toInt = 3 := by rw [q14]; exact kt_3
          refine po_gRn (t := 7) hW1 h0 rfl rfl (by decide) (fun i15 ex15 hi15 => ?_)
          refine po_some ?_
          refine po_ck rfl ?_
          refine po_pI hW1 hi15 rfl rfl (vv_i (by decide) (Or.inr rfl)) (fun g16 hW16 ex16 => ?_)
          refine po_ck (wt_isO hW16 h0 (by decide)) ?_
          refine po_w (tX8_cutAnew hW16 h0) (fun y17 g17 hW17 p17 => ?_)
          dsimp only
          exact po_ret ⟨_, EXT.rfl, hW17, (fun _ => p17)⟩
        · have z14 : v1.toInt ≠ 3 := fun h => q14 (Int32.toInt_inj.mp (h.trans kt_3.symm))
          refine po_eq (fun q18 => ?_) (fun q18 => ?_)
          · have z18 : v1.toInt = 4 := by rw [q18]; exact kt_4
            refine po_gRn (t := 7) hW1 h0 rfl rfl (by decide) (fun i19 ex19 hi19 => ?_)
            refine po_some ?_
            refine po_ck rfl ?_
            refine po_pI hW1 hi19 rfl rfl (vv_i (by decide) (Or.inl rfl)) (fun g20 hW20 ex20 => ?_)
            refine po_ck (wt_isO hW20 h0 (by decide)) ?_
            refine po_w (tX8_cutAnew hW20 h0) (fun y21 g21 hW21 p21 => ?_)
            dsimp only
            exact po_ret ⟨_, EXT.rfl, hW21, (fun _ => p21)⟩
          · have z18 : v1.toInt ≠ 4 := fun h => q18 (Int32.toInt_inj.mp (h.trans kt_4.symm))
            refine po_eq (fun q22 => ?_) (fun q22 => ?_)
            · have z22 : v1.toInt = 5 := by rw [q22]; exact kt_5
              refine po_gRn (t := 7) hW1 h0 rfl rfl (by decide) (fun i23 ex23 hi23 => ?_)
              refine po_some ?_
              refine po_pI hW1 hi23 rfl rfl (vv_i (by decide) trivial) (fun g24 hW24 ex24 => ?_)
              refine po_ck (wt_isO hW24 h0 (by decide)) ?_
              refine po_w (tX8_cutAnew hW24 h0) (fun y25 g25 hW25 p25 => ?_)
              dsimp only
              exact po_ret ⟨_, EXT.rfl, hW25, (fun _ => p25)⟩
            · have z22 : v1.toInt ≠ 5 := fun h => q22 (Int32.toInt_inj.mp (h.trans kt_5.symm))
              refine po_eq (fun q26 => ?_) (fun q26 => ?_)
              · have z26 : v1.toInt = 6 := by rw [q26]; exact kt_6
                refine po_gRn (t := 7) hW1 h0 rfl rfl (by decide) (fun i27 ex27 hi27 => ?_)
                refine po_some ?_
                refine po_ck (wt_isO hW1 hi27 (by decide)) ?_
                refine po_w (tX7_addLock hW1 hi27 h1) (fun y28 g28 hW28 p28 => ?_)
                dsimp only
                refine po_eq (fun q29 => ?_) (fun q29 => ?_)
                · have z29 : y28.toInt = 0 := by rw [q29]; exact kt_0
                  refine po_ck (wt_isO hW28 h0 (by decide)) ?_
                  refine po_w (tX8_cutAnew hW28 h0) (fun y30 g30 hW30 p30 => ?_)
                  dsimp only
                  unfold mX8_doAct_b171
                  exact po_ret ⟨_, EXT.rfl, hW30, (fun _ => p30)⟩
                · have z29 : y28.toInt ≠ 0 := fun h => q29 (Int32.toInt_inj.mp (h.trans kt_0.symm))
                  unfold mX8_doAct_b171
                  exact po_ret ⟨_, EXT.rfl, hW28, (fun hh => by omega)⟩
              · have z26 : v1.toInt ≠ 6 := fun h => q26 (Int32.toInt_inj.mp (h.trans kt_6.symm))
                refine po_eq (fun q31 => ?_) (fun q31 => ?_)
                · have z31 : v1.toInt = 7 := by rw [q31]; exact kt_7
                  refine po_gRn (t := 7) hW1 h0 rfl rfl (by decide) (fun i32 ex32 hi32 => ?_)
                  refine po_some ?_
                  refine po_pI hW1 hi32 rfl rfl (vv_i (by decide) trivial) (fun g33 hW33 ex33 => ?_)
                  refine po_ck (wt_isO hW33 h0 (by decide)) ?_
                  refine po_w (tX8_cutAnew hW33 h0) (fun y34 g34 hW34 p34 => ?_)
                  dsimp only
                  exact po_ret ⟨_, EXT.rfl, hW34, (fun _ => p34)⟩
                · have z31 : v1.toInt ≠ 7 := fun h => q31 (Int32.toInt_inj.mp (h.trans kt_7.symm))
                  refine po_eq (fun q35 => ?_) (fun q35 => ?_)
                  · have z35 : v1.toInt = 8 := by rw [q35]; exact kt_8
                    refine po_ck (wt_isO hW1 h0 (by decide)) ?_
                    refine po_w (tX8_freePiece hW1 h0) (fun y36 g36 hW36 p36 => ?_)
                    dsimp only
                    exact po_ret ⟨_, EXT.rfl, hW36, (fun hh => by omega)⟩
                  · have z35 : v1.toInt ≠ 8 := fun h => q35 (Int32.toInt_inj.mp (h.trans kt_8.symm))
                    refine po_eq (fun q37 => ?_) (fun q37 => ?_)
                    · have z37 : v1.toInt = 9 := by rw [q37]; exact kt_9
                      refine po_ck (wt_isO hW1 h0 (by decide)) ?_
                      refine po_w (tX8_spreadPiece hW1 h0) (fun y38 g38 hW38 p38 => ?_)
                      dsimp only
                      exact po_ret ⟨_, EXT.rfl, hW38, (fun hh => by omega)⟩
                    · have z37 : v1.toInt ≠ 9 := fun h => q37 (Int32.toInt_inj.mp (h.trans kt_9.symm))
                      refine po_eq (fun q39 => ?_) (fun q39 => ?_)
                      · have z39 : v1.toInt = 10 := by rw [q39]; exact kt_10
                        refine po_ck (wt_isO hW1 h0 (by decide)) ?_
                        refine po_a (tX8_swapPieces hW1 h0) (fun y40 g40 n40 G40 xt40 hW40 p40 => ?_)
                        dsimp only
                        exact po_ret ⟨_, xt40, hW40, (fun hh => by omega)⟩
                      · have z39 : v1.toInt ≠ 10 := fun h => q39 (Int32.toInt_inj.mp (h.trans kt_10.symm))
                        refine po_eq (fun q41 => ?_) (fun q41 => ?_)
                        · have z41 : v1.toInt = 11 := by rw [q41]; exact kt_11
                          refine po_ck (wt_isO hW1 h0 (by decide)) ?_
                          refine po_w (tX8_wipePieces hW1 h0) (fun y42 g42 hW42 p42 => ?_)
                          dsimp only
                          exact po_ret ⟨_, EXT.rfl, hW42, (fun hh => by omega)⟩
                        · have z41 : v1.toInt ≠ 11 := fun h => q41 (Int32.toInt_inj.mp (h.trans kt_11.symm))
                          refine po_ck (wt_isO hW1 h0 (by decide)) ?_
                          refine po_a (tX8_tellPiece hW1 h0 h1) (fun y43 g43 n43 G43 xt43 hW43 p43 => ?_)
                          dsimp only
                          exact po_ret ⟨_, xt43, hW43, (fun hh => by omega)⟩
set_option maxHeartbeats 1000000 in
theorem tX8_restore {G : TE} {F0 : AH} {S : Int32} {f : AH} {n : Nat} {v0 : Nat} {v1 : Option Nat} (hW : WT G F0 S f n) (h0 : G.1 v0 = 8) (h1 : (∃ i, v1 = some i ∧ G.1 i = 7)) : PO (mX8_restore v0 v1 f n) (fun v f' n' => n' = n ∧ WT G F0 S f' n ∧ (True)) := by
  obtain ⟨iv1, rfl, h1⟩ := h1
  unfold mX8_restore
  refine po_ck rfl ?_
  refine po_pI hW h0 rfl rfl (vv_i (by decide) (Or.inl rfl)) (fun g1 hW1 ex1 => ?_)
  refine po_gRn (t := 7) hW1 h0 rfl rfl (by decide) (fun i2 ex2 hi2 => ?_)
  refine po_some ?_
  refine po_ck (wt_isO hW1 hi2 (by decide)) ?_
  refine po_w (tX7_copyFrom hW1 hi2 ⟨_, rfl, h1⟩) (fun y3 g3 hW3 p3 => ?_)
  dsimp only
  refine po_gRn (t := 1) hW3 h0 rfl rfl (by decide) (fun i4 ex4 hi4 => ?_)
  refine po_gRn (t := 7) hW3 h0 rfl rfl (by decide) (fun i5 ex5 hi5 => ?_)
  refine po_some ?_
  refine po_gRn (t := 5) hW3 hi5 rfl rfl (by decide) (fun i6 ex6 hi6 => ?_)
  refine po_bind ex5 ?_
  refine po_some ?_
  refine po_ck (wt_isO hW3 hi4 (by decide)) ?_
  refine po_w (tX1_find hW3 hi4 ⟨_, rfl, hi6⟩ ⟨_, rfl, hi5⟩) (fun y7 g7 hW7 p7 => ?_)
  dsimp only
  refine po_gRn (t := 0) hW7 h0 rfl rfl (by decide) (fun i8 ex8 hi8 => ?_)
  refine po_gRn (t := 7) hW7 h0 rfl rfl (by decide) (fun i9 ex9 hi9 => ?_)
  refine po_gRn (t := 1) hW7 h0 rfl rfl (by decide) (fun i10 ex10 hi10 => ?_)
  refine po_some ?_
  refine po_ck (wt_isO hW7 hi8 (by decide)) ?_
  refine po_w (tX0_make hW7 hi8 ⟨_, rfl, hi9⟩ ⟨_, rfl, hi10⟩) (fun y11 g11 hW11 p11 => ?_)
  dsimp only
  exact po_ret ⟨rfl, hW11, trivial⟩
set_option maxHeartbeats 1000000 in
theorem tX8_forgetOldest_l22 {G : TE} {F0 : AH} {S : Int32} {n : Nat} : ∀ (d : Nat) (v0 : Nat) (v1 : Int32) (v2 : Option Nat) (v3 : Int32) (f : AH), WT G F0 S f n → G.1 v0 = 8 → (7 ≤ v1.toInt ∧ v1.toInt ≤ 7) → (∃ i, v2 = some i ∧ G.1 i = 7) → (0 ≤ v3.toInt ∧ v3.toInt ≤ 7) → 3000 - v3.toInt < (d : Int) → PO (mX8_forgetOldest_l22 d v0 v1 v2 v3 f n) (fun v f' n' => n' = n ∧ WT G F0 S f' n ∧ (True)) := by
  intro d
  induction d with
  | zero =>
    intro v0 v1 v2 v3 f hW h0 h1 h2 h3  hm
    exfalso
    obtain ⟨iv2, rfl, h2⟩ := h2
    omega
  | succ d ih =>
    intro v0 v1 v2 v3 f hW h0 h1 h2 h3  hm
    obtain ⟨iv2, rfl, h2⟩ := h2
    show PO (if v1 ≤ v3 then ((gR f v0 8 4).bind fun x1 => ((x1).bind fun j2 => ((pRA f j2 v1 (some iv2)).bind fun f3 => ((pO f3 v0 8 11 (.int v1)).bind fun f4 => some ((0 : Int32), (f4, n)))))) else ((gR f v0 8 4).bind fun x5 => ((gR f v0 8 4).bind fun x6 => ((x6).bind fun j7 => ((gRA f j7 (v3 + (1 : Int32))).bind fun x8 => ((x5).bind fun j9 => ((pRA f j9 v3 x8).bind fun f10 => mX8_forgetOldest_l22 d v0 v1 (some iv2) (v3 + (1 : Int32)) f10 n))))))) _
    refine po_le rfl rfl (fun q1 => ?_) (fun q1 => ?_)
    · refine po_gRn (t := 12) hW h0 rfl rfl (by decide) (fun i2 ex2 hi2 => ?_)
      refine po_some ?_
      refine po_pRAs hW hi2 (by omega) h2 (fun g3 hW3 => ?_)
      refine po_pI hW3 h0 rfl rfl (vv_i (by decide) trivial) (fun g4 hW4 ex4 => ?_)
      exact po_ret ⟨rfl, hW4, trivial⟩
    · refine po_gRn (t := 12) hW h0 rfl rfl (by decide) (fun i5 ex5 hi5 => ?_)
      refine po_bind ex5 ?_
      refine po_some ?_
      have e6 : (v3 + (1 : Int32)).toInt = v3.toInt + 1 := i_add rfl kt_1 (by omega)
      refine po_gRAn (N := 8) (T := 7) hW hi5 rfl rfl rfl (by decide) (by omega) (fun i7 hi7 => ?_)
      refine po_some ?_
      refine po_pRAs hW hi5 (by omega) hi7 (fun g8 hW8 => ?_)
      exact (ih v0 v1 (some iv2) (v3 + (1 : Int32)) g8 hW8 h0 (by omega) ⟨_, rfl, h2⟩ (by omega)  (by omega))
set_option maxHeartbeats 1000000 in
theorem tX8_forgetOldest {G : TE} {F0 : AH} {S : Int32} {f : AH} {n : Nat} {v0 : Nat} (hW : WT G F0 S f n) (h0 : G.1 v0 = 8) : PO (mX8_forgetOldest v0 f n) (fun v f' n' => n' = n ∧ WT G F0 S f' n ∧ (True)) := by
  have k_kt_0 := kt_0
  unfold mX8_forgetOldest
  refine po_gRn (t := 12) hW h0 rfl rfl (by decide) (fun i1 ex1 hi1 => ?_)
  refine po_some ?_
  refine po_gL (N := 8) hW hi1 rfl rfl (by decide) ?_
  have e3 : ((nI 8) - (1 : Int32)).toInt = 8 - 1 := i_sub kn_8 kt_1 (by omega)
  refine po_le kt_0 rfl (fun q2 => ?_) (fun q2 => ?_)
  · refine po_bind ex1 ?_
    refine po_some ?_
    refine po_gRAn (N := 8) (T := 7) hW hi1 rfl rfl rfl (by decide) (by omega) (fun i4 hi4 => ?_)
    exact (tX8_forgetOldest_l22 rFU v0 ((nI 8) - (1 : Int32)) (some i4) (0 : Int32) f hW h0 (by omega) ⟨_, rfl, hi4⟩ (by omega)  (by unfold rFU; omega))
  · exact po_ret ⟨rfl, hW, trivial⟩
set_option maxHeartbeats 1000000 in
theorem tX8_rememberAhead {G : TE} {F0 : AH} {S : Int32} {f : AH} {n : Nat} {v0 : Nat} (hW : WT G F0 S f n) (h0 : G.1 v0 = 8) : PO (mX8_rememberAhead v0 f n) (fun v f' n' => n' = n ∧ WT G F0 S f' n ∧ (True)) := by
  unfold mX8_rememberAhead
  refine po_gI hW h0 rfl rfl (by decide) (fun x1x ex1 (_ : True) => ?_)
  refine po_gRn (t := 12) hW h0 rfl rfl (by decide) (fun i2 ex2 hi2 => ?_)
  refine po_some ?_
  refine po_gL (N := 8) hW hi2 rfl rfl (by decide) ?_
  refine po_lt rfl kn_8 (fun q3 => ?_) (fun q3 => ?_)
  · unfold mX8_rememberAhead_b16
    refine po_bind ex1 ?_
    refine po_lt rfl kt_0 (fun q4 => ?_) (fun q4 => ?_)
    · unfold mX8_rememberAhead_b73
      exact po_ret ⟨rfl, hW, trivial⟩
    · refine po_bind ex1 ?_
      refine po_bind ex2 ?_
      refine po_some ?_
      refine po_gL (N := 8) hW hi2 rfl rfl (by decide) ?_
      refine po_le kn_8 rfl (fun q5 => ?_) (fun q5 => ?_)
      · unfold mX8_rememberAhead_b73
        exact po_ret ⟨rfl, hW, trivial⟩
      · refine po_bind ex2 ?_
        refine po_bind ex1 ?_
        refine po_some ?_
        refine po_gRAn (N := 8) (T := 7) hW hi2 rfl rfl rfl (by decide) (by omega) (fun i6 hi6 => ?_)
        refine po_oNs ?_
        refine po_bind ex2 ?_
        refine po_bind ex1 ?_
        refine po_some ?_
        refine po_gRAn (N := 8) (T := 7) hW hi2 rfl rfl rfl (by decide) (by omega) (fun i7 hi7 => ?_)
        refine po_gRn (t := 7) hW h0 rfl rfl (by decide) (fun i8 ex8 hi8 => ?_)
        refine po_some ?_
        refine po_ck (wt_isO hW hi7 (by decide)) ?_
        refine po_w (tX7_copyFrom hW hi7 ⟨_, rfl, hi8⟩) (fun y9 g9 hW9 p9 => ?_)
        dsimp only
        refine po_gI hW9 h0 rfl rfl (by decide) (fun x10x ex10 (_ : True) => ?_)
        refine po_pI hW9 h0 rfl rfl (vv_i (by decide) trivial) (fun g11 hW11 ex11 => ?_)
        unfold mX8_rememberAhead_b73
        exact po_ret ⟨rfl, hW11, trivial⟩
  · refine po_ck (wt_isO hW h0 (by decide)) ?_
    refine po_w (tX8_forgetOldest hW h0) (fun y12 g12 hW12 p12 => ?_)
    dsimp only
    unfold mX8_rememberAhead_b16
    refine po_gI hW12 h0 rfl rfl (by decide) (fun x13x ex13 (_ : True) => ?_)
    refine po_lt rfl kt_0 (fun q14 => ?_) (fun q14 => ?_)
    · unfold mX8_rememberAhead_b73
      exact po_ret ⟨rfl, hW12, trivial⟩
    · refine po_bind ex13 ?_
      refine po_gRn (t := 12) hW12 h0 rfl rfl (by decide) (fun i15 ex15 hi15 => ?_)
      refine po_some ?_
      refine po_gL (N := 8) hW12 hi15 rfl rfl (by decide) ?_
      refine po_le kn_8 rfl (fun q16 => ?_) (fun q16 => ?_)
      · unfold mX8_rememberAhead_b73
        exact po_ret ⟨rfl, hW12, trivial⟩
      · refine po_bind ex15 ?_
        refine po_bind ex13 ?_
        refine po_some ?_
        refine po_gRAn (N := 8) (T := 7) hW12 hi15 rfl rfl rfl (by decide) (by omega) (fun i17 hi17 => ?_)
        refine po_oNs ?_
        refine po_bind ex15 ?_
        refine po_bind ex13 ?_
        refine po_some ?_
        refine po_gRAn (N := 8) (T := 7) hW12 hi15 rfl rfl rfl (by decide) (by omega) (fun i18 hi18 => ?_)
        refine po_gRn (t := 7) hW12 h0 rfl rfl (by decide) (fun i19 ex19 hi19 => ?_)
        refine po_some ?_
        refine po_ck (wt_isO hW12 hi18 (by decide)) ?_
        refine po_w (tX7_copyFrom hW12 hi18 ⟨_, rfl, hi19⟩) (fun y20 g20 hW20 p20 => ?_)
        dsimp only
        refine po_gI hW20 h0 rfl rfl (by decide) (fun x21x ex21 (_ : True) => ?_)
        refine po_pI hW20 h0 rfl rfl (vv_i (by decide) trivial) (fun g22 hW22 ex22 => ?_)
        unfold mX8_rememberAhead_b73
        exact po_ret ⟨rfl, hW22, trivial⟩
set_option maxHeartbeats 1000000 in
theorem tX8_finishCall {G : TE} {F0 : AH} {S : Int32} {f : AH} {n : Nat} {v0 : Nat} {v1 : Int32} (hW : WT G F0 S f n) (h0 : G.1 v0 = 8) : PO (mX8_finishCall v0 v1 f n) (fun v f' n' => n' = n ∧ WT G F0 S f' n ∧ ((∀ E : String, v = .inr E → E = eS ∧ v1 ≠ 0) ∧ (∀ y, v = .inl y → True))) := by
  unfold mX8_finishCall
  refine po_pI hW h0 rfl rfl (vv_i (by decide) trivial) (fun g1 hW1 ex1 => ?_)
  refine po_eq (fun q2 => ?_) (fun q2 => ?_)
  · refine po_gRn (t := 7) hW1 h0 rfl rfl (by decide) (fun i3 ex3 hi3 => ?_)
    refine po_ck (wt_isO hW1 h0 (by decide)) ?_
    refine po_w (tX8_restore hW1 h0 ⟨_, rfl, hi3⟩) (fun y4 g4 hW4 p4 => ?_)
    dsimp only
    unfold mX8_finishCall_b18
    refine po_eq (fun q5 => ?_) (fun q5 => ?_)
    · refine po_ck (wt_isO hW4 h0 (by decide)) ?_
      refine po_w (tX8_rememberAhead hW4 h0) (fun y6 g6 hW6 p6 => ?_)
      dsimp only
      exact po_ret ⟨rfl, hW6, ⟨fun E hE => (by cases hE), fun y hy => by cases hy; exact trivial⟩⟩
    · exact po_ret ⟨rfl, hW4, ⟨fun E hE => by cases hE; exact ⟨rfl, by assumption⟩, fun y hy => (by cases hy)⟩⟩
  · unfold mX8_finishCall_b18
    refine po_eq (fun q7 => ?_) (fun q7 => ?_)
    · refine po_ck (wt_isO hW1 h0 (by decide)) ?_
      refine po_w (tX8_rememberAhead hW1 h0) (fun y8 g8 hW8 p8 => ?_)
      dsimp only
      exact po_ret ⟨rfl, hW8, ⟨fun E hE => (by cases hE), fun y hy => by cases hy; exact trivial⟩⟩
    · exact po_ret ⟨rfl, hW1, ⟨fun E hE => by cases hE; exact ⟨rfl, by assumption⟩, fun y hy => (by cases hy)⟩⟩
set_option maxHeartbeats 1000000 in
theorem tX8_unlock {G : TE} {F0 : AH} {S : Int32} {f : AH} {n : Nat} {v0 : Nat} (hW : WT G F0 S f n) (h0 : G.1 v0 = 8) : PO (mX8_unlock v0 f n) (fun v f' n' => ∃ G', EXT G G' ∧ WT G' F0 S f' n' ∧ ((∀ E : String, v = .inr E → False) ∧ (∀ y, v = .inl y → True))) := by
  unfold mX8_unlock
  refine po_gRn (t := 7) hW h0 rfl rfl (by decide) (fun i1 ex1 hi1 => ?_)
  refine po_gRn (t := 7) hW h0 rfl rfl (by decide) (fun i2 ex2 hi2 => ?_)
  refine po_some ?_
  refine po_ck (wt_isO hW hi1 (by decide)) ?_
  refine po_w (tX7_copyFrom hW hi1 ⟨_, rfl, hi2⟩) (fun y3 g3 hW3 p3 => ?_)
  dsimp only
  refine po_ck (wt_isO hW3 h0 (by decide)) ?_
  refine po_a (tX8_doAct hW3 h0 (fun _ hi => nomatch hi)) (fun y4 g4 n4 G4 xt4 hW4 p4 => ?_)
  dsimp only
  refine po_ck (wt_isO hW4 (xt4.ty h0 (by decide)) (by decide)) ?_
  refine po_w (tX8_finishCall hW4 (xt4.ty h0 (by decide))) (fun y5 g5 hW5 p5 => ?_)
  dsimp only
  refine po_tS (fun z6 q7 => ?_) (fun E hE => ⟨_, xt4, hW5, ⟨fun E2 h2 => by cases h2; exact absurd (p4 (Or.inr (by decide))) (p5.1 E hE).2, fun y hy => (by cases hy)⟩⟩)
  refine po_gRn (t := 1) hW5 (xt4.ty h0 (by decide)) rfl rfl (by decide) (fun i8 ex8 hi8 => ?_)
  refine po_some ?_
  refine po_ck (wt_isO hW5 hi8 (by decide)) ?_
  refine po_ro (tX1_size hW5 hi8) (fun y9 ex9 p9 => ?_)
  dsimp only
  exact po_ret ⟨_, xt4, hW5, ⟨fun E hE => (by cases hE), fun y hy => by cases hy; exact trivial⟩⟩
set_option maxHeartbeats 1000000 in
theorem tX8_holder_l2 {G : TE} {F0 : AH} {S : Int32} {n : Nat} : ∀ (d : Nat) (v0 : Nat) (v1 : Int32) (v2 : Int32) (f : AH), WT G F0 S f n → G.1 v0 = 8 → (0 ≤ v2.toInt ∧ v2.toInt ≤ 2000) → 3000 - v2.toInt < (d : Int) → PO (mX8_holder_l2 d v0 v1 v2 f n) (fun v f' n' => f' = f ∧ n' = n ∧ (True)) := by
  intro d
  induction d with
  | zero =>
    intro v0 v1 v2 f hW h0 h1  hm
    exfalso
    omega
  | succ d ih =>
    intro v0 v1 v2 f hW h0 h1  hm
    show PO ((gR f v0 8 5).bind fun x1 => ((x1).bind fun j2 => rCk (isO f j2 1) (((mX1_size j2 f n).bind fun r4 => (if r4.1 ≤ v2 then some ((-1 : Int32), (r4.2.1, r4.2.2)) else ((gR r4.2.1 v0 8 5).bind fun x6 => ((x6).bind fun j7 => rCk (isO r4.2.1 j7 1) (((mX1_get j7 v2 r4.2.1 r4.2.2).bind fun r9 => ((some r9.1).bind fun x11 => (oN x11 (mX8_holder_b44 (fun v0 v1 v2 f n => mX8_holder_l2 d v0 v1 v2 f n) v0 v1 v2 r9.2.1 r9.2.2) (fun j12 => ((gI r9.2.1 j12 3 0).bind fun x13 => (if v1 < x13 then mX8_holder_b44 (fun v0 v1 v2 f n => mX8_holder_l2 d v0 v1 v2 f n) v0 v1 v2 r9.2.1 r9.2.2 else ((gI r9.2.1 j12 3 1).bind fun x14 => (if x14 ≤ v1 then mX8_holder_b44 (fun v0 v1 v2 f n => mX8_holder_l2 d v0 v1 v2 f n) v0 v1 v2 r9.2.1 r9.2.2 else some (v2, (r9.2.1, r9.2.2)))))))))))))))))) _
    refine po_gRn (t := 1) hW h0 rfl rfl (by decide) (fun i1 ex1 hi1 => ?_)
    refine po_some ?_
    refine po_ck (wt_isO hW hi1 (by decide)) ?_
    refine po_ro (tX1_size hW hi1) (fun y2 ex2 p2 => ?_)
    dsimp only
    refine po_le rfl rfl (fun q3 => ?_) (fun q3 => ?_)
    · exact po_ret ⟨rfl, rfl, trivial⟩
    · refine po_bind ex1 ?_
      refine po_some ?_
      refine po_ck (wt_isO hW hi1 (by decide)) ?_
      refine po_ro (tX1_get hW hi1) (fun y4 ex4 p4 => ?_)
      dsimp only
      refine po_some ?_
      refine po_oN (fun q6 => ?_) (fun i5 q6 => ?_)
      · subst q6
        unfold mX8_holder_b44
        have e7 : (v2 + (1 : Int32)).toInt = v2.toInt + 1 := i_add rfl kt_1 (by omega)
        exact (ih v0 v1 (v2 + (1 : Int32)) f hW h0 (by omega)  (by omega))
      · subst q6
        refine po_gI hW (p4 i5 rfl) rfl rfl (by decide) (fun x8x ex8 (_ : True) => ?_)
        refine po_lt rfl rfl (fun q9 => ?_) (fun q9 => ?_)
        · unfold mX8_holder_b44
          have e10 : (v2 + (1 : Int32)).toInt = v2.toInt + 1 := i_add rfl kt_1 (by omega)
          exact (ih v0 v1 (v2 + (1 : Int32)) f hW h0 (by omega)  (by omega))
        · refine po_gI hW (p4 i5 rfl) rfl rfl (by decide) (fun x11x ex11 (_ : True) => ?_)
          refine po_le rfl rfl (fun q12 => ?_) (fun q12 => ?_)
          · unfold mX8_holder_b44
            have e13 : (v2 + (1 : Int32)).toInt = v2.toInt + 1 := i_add rfl kt_1 (by omega)
            exact (ih v0 v1 (v2 + (1 : Int32)) f hW h0 (by omega)  (by omega))
          · exact po_ret ⟨rfl, rfl, trivial⟩
set_option maxHeartbeats 1000000 in
theorem tX8_holder {G : TE} {F0 : AH} {S : Int32} {f : AH} {n : Nat} {v0 : Nat} {v1 : Int32} (hW : WT G F0 S f n) (h0 : G.1 v0 = 8) : PO (mX8_holder v0 v1 f n) (fun v f' n' => f' = f ∧ n' = n ∧ (True)) := by
  have k_kt_0 := kt_0
  unfold mX8_holder
  exact (tX8_holder_l2 rFU v0 v1 (0 : Int32) f hW h0 (by omega)  (by unfold rFU; omega))
set_option maxHeartbeats 1000000 in
theorem tX8_at {G : TE} {F0 : AH} {S : Int32} {f : AH} {n : Nat} {v0 : Nat} {v1 : Int32} {v2 : Int32} (hW : WT G F0 S f n) (h0 : G.1 v0 = 8) : PO (mX8_at v0 v1 v2 f n) (fun v f' n' => f' = f ∧ n' = n ∧ (True)) := by
  unfold mX8_at
  refine po_eq (fun q1 => ?_) (fun q1 => ?_)
  · refine po_gRn (t := 7) hW h0 rfl rfl (by decide) (fun i2 ex2 hi2 => ?_)
    refine po_some ?_
    refine po_gRn (t := 5) hW hi2 rfl rfl (by decide) (fun i3 ex3 hi3 => ?_)
    refine po_some ?_
    refine po_ck (wt_isO hW hi3 (by decide)) ?_
    refine po_ro (tX5_get hW hi3) (fun y4 ex4 p4 => ?_)
    dsimp only
    unfold mX8_at_b29
    exact po_ret ⟨rfl, rfl, trivial⟩
  · refine po_gRn (t := 0) hW h0 rfl rfl (by decide) (fun i5 ex5 hi5 => ?_)
    refine po_some ?_
    refine po_gRm hW hi5 rfl rfl (fun i6 ex6 hi6 hm6 => ?_)
    refine po_some ?_
    refine po_ck (wt_isO hW hi6 (by decide)) ?_
    refine po_ro (tX5_get hW hi6) (fun y7 ex7 p7 => ?_)
    dsimp only
    unfold mX8_at_b29
    exact po_ret ⟨rfl, rfl, trivial⟩
set_option maxHeartbeats 1000000 in
theorem tX8_memory_l29 {G : TE} {F0 : AH} {S : Int32} {n : Nat} : ∀ (d : Nat) (v1 : Int32) (v2 : Int32) (v3 : Int32) (v4 : Option Nat) (v5 : Int32) (f : AH), WT G F0 S f n → (0 ≤ v1.toInt ∧ v1.toInt ≤ 12) → (∀ i, v4 = some i → G.1 i = 2) → (0 ≤ v5.toInt ∧ v5.toInt ≤ 2000) → 3000 - v5.toInt < (d : Int) → PO (mX8_memory_l29 d v1 v2 v3 v4 v5 f n) (fun v f' n' => f' = f ∧ n' = n ∧ (True)) := by
  intro d
  induction d with
  | zero =>
    intro v1 v2 v3 v4 v5 f hW h0 h1 h2  hm
    exfalso
    omega
  | succ d ih =>
    intro v1 v2 v3 v4 v5 f hW h0 h1 h2  hm
    show PO (if v1 ≤ v5 then mX8_memory_b53 v2 v3 v4 f n else (oN v4 (mX8_memory_b53 v2 v3 (none : Option Nat) f n) (fun j1 => ((gR f j1 2 2).bind fun x2 => mX8_memory_l29 d v1 v2 v3 x2 (v5 + (1 : Int32)) f n)))) _
    refine po_le rfl rfl (fun q1 => ?_) (fun q1 => ?_)
    · unfold mX8_memory_b53
      refine po_oN (fun q3 => ?_) (fun i2 q3 => ?_)
      · subst q3
        exact po_ret ⟨rfl, rfl, trivial⟩
      · subst q3
        refine po_eq (fun q4 => ?_) (fun q4 => ?_)
        · refine po_gRn (t := 5) hW (h1 i2 rfl) rfl rfl (by decide) (fun i5 ex5 hi5 => ?_)
          refine po_some ?_
          refine po_ck (wt_isO hW hi5 (by decide)) ?_
          refine po_ro (tX5_get hW hi5) (fun y6 ex6 p6 => ?_)
          dsimp only
          unfold mX8_memory_b85
          exact po_ret ⟨rfl, rfl, trivial⟩
        · refine po_gRn (t := 5) hW (h1 i2 rfl) rfl rfl (by decide) (fun i7 ex7 hi7 => ?_)
          refine po_some ?_
          refine po_ck (wt_isO hW hi7 (by decide)) ?_
          refine po_ro (tX5_get hW hi7) (fun y8 ex8 p8 => ?_)
          dsimp only
          unfold mX8_memory_b85
          exact po_ret ⟨rfl, rfl, trivial⟩
    · refine po_oN (fun q10 => ?_) (fun i9 q10 => ?_)
      · subst q10
        unfold mX8_memory_b53
        refine po_oNn ?_
        exact po_ret ⟨rfl, rfl, trivial⟩
      · subst q10
        refine po_gRo (t := 2) hW (h1 i9 rfl) rfl rfl (by decide) (fun i11 ex11 hi11 => ?_)
        have e12 : (v5 + (1 : Int32)).toInt = v5.toInt + 1 := i_add rfl kt_1 (by omega)
        exact (ih v1 v2 v3 i11 (v5 + (1 : Int32)) f hW (by omega) hi11 (by omega)  (by omega))
set_option maxHeartbeats 1000000 in
theorem tX8_memory {G : TE} {F0 : AH} {S : Int32} {f : AH} {n : Nat} {v0 : Nat} {v1 : Int32} {v2 : Int32} {v3 : Int32} (hW : WT G F0 S f n) (h0 : G.1 v0 = 8) : PO (mX8_memory v0 v1 v2 v3 f n) (fun v f' n' => f' = f ∧ n' = n ∧ (True)) := by
  have k_kt_0 := kt_0
  unfold mX8_memory
  refine po_lt rfl kt_0 (fun q1 => ?_) (fun q1 => ?_)
  · unfold mX8_memory_b15
    exact po_ret ⟨rfl, rfl, trivial⟩
  · refine po_gRn (t := 7) hW h0 rfl rfl (by decide) (fun i2 ex2 hi2 => ?_)
    refine po_some ?_
    refine po_gI hW hi2 rfl rfl (by decide) (fun x3x ex3 (hx3 : 0 ≤ x3x.toInt ∧ x3x.toInt ≤ 12) => ?_)
    refine po_lt rfl rfl (fun q4 => ?_) (fun q4 => ?_)
    · refine po_bind ex2 ?_
      refine po_some ?_
      refine po_gRo (t := 2) hW hi2 rfl rfl (by decide) (fun i5 ex5 hi5 => ?_)
      exact (tX8_memory_l29 rFU v1 v2 v3 i5 (0 : Int32) f hW (by omega) hi5 (by omega)  (by unfold rFU; omega))
    · unfold mX8_memory_b15
      exact po_ret ⟨rfl, rfl, trivial⟩
set_option maxHeartbeats 1000000 in
theorem tX8_cutAgain {G : TE} {F0 : AH} {S : Int32} {f : AH} {n : Nat} {v0 : Nat} (hW : WT G F0 S f n) (h0 : G.1 v0 = 8) : PO (mX8_cutAgain v0 f n) (fun v f' n' => n' = n ∧ WT G F0 S f' n ∧ (True)) := by
  unfold mX8_cutAgain
  refine po_gI hW h0 rfl rfl (by decide) (fun x1x ex1 (hx1 : x1x = 0 ∨ x1x = 1) => ?_)
  refine po_eq (fun q2 => ?_) (fun q2 => ?_)
  · refine po_gRn (t := 1) hW h0 rfl rfl (by decide) (fun i3 ex3 hi3 => ?_)
    refine po_gRn (t := 0) hW h0 rfl rfl (by decide) (fun i4 ex4 hi4 => ?_)
    refine po_some ?_
    refine po_gRm hW hi4 rfl rfl (fun i5 ex5 hi5 hm5 => ?_)
    refine po_gRn (t := 7) hW h0 rfl rfl (by decide) (fun i6 ex6 hi6 => ?_)
    refine po_some ?_
    refine po_ck (wt_isO hW hi3 (by decide)) ?_
    refine po_w (tX1_find hW hi3 ⟨_, rfl, hi5⟩ ⟨_, rfl, hi6⟩) (fun y7 g7 hW7 p7 => ?_)
    dsimp only
    refine po_ck rfl ?_
    refine po_pI hW7 h0 rfl rfl (vv_i (by decide) (Or.inr rfl)) (fun g8 hW8 ex8 => ?_)
    unfold mX8_cutAgain_b30
    exact po_ret ⟨rfl, hW8, trivial⟩
  · unfold mX8_cutAgain_b30
    exact po_ret ⟨rfl, hW, trivial⟩
set_option maxHeartbeats 1000000 in
theorem tX8_isNow {G : TE} {F0 : AH} {S : Int32} {f : AH} {n : Nat} {v0 : Nat} {v1 : Int32} {v2 : Option Nat} {v3 : Option Nat} (hW : WT G F0 S f n) (h0 : G.1 v0 = 8) (h1 : (∃ i, v2 = some i ∧ G.1 i = 3)) (h2 : (∃ i, v3 = some i ∧ G.1 i = 3)) : PO (mX8_isNow v0 v1 v2 v3 f n) (fun v f' n' => f' = f ∧ n' = n ∧ (v = 0 ∨ v = 1)) := by
  obtain ⟨iv2, rfl, h1⟩ := h1
  obtain ⟨iv3, rfl, h2⟩ := h2
  unfold mX8_isNow
  refine po_gRn (t := 7) hW h0 rfl rfl (by decide) (fun i1 ex1 hi1 => ?_)
  refine po_some ?_
  refine po_ck (wt_isO hW hi1 (by decide)) ?_
  refine po_ro (tX7_toldFor hW hi1) (fun y2 ex2 p2 => ?_)
  dsimp only
  refine po_some ?_
  refine po_oN (fun q4 => ?_) (fun i3 q4 => ?_)
  · subst q4
    refine po_some ?_
    refine po_gI hW h1 rfl rfl (by decide) (fun x5x ex5 (hx5 : (-700) ≤ x5x.toInt ∧ x5x.toInt ≤ 700) => ?_)
    refine po_some ?_
    refine po_gI hW h2 rfl rfl (by decide) (fun x6x ex6 (hx6 : (-700) ≤ x6x.toInt ∧ x6x.toInt ≤ 700) => ?_)
    refine po_eq (fun q7 => ?_) (fun q7 => ?_)
    · refine po_gRn (t := 1) hW h0 rfl rfl (by decide) (fun i8 ex8 hi8 => ?_)
      refine po_some ?_
      refine po_gRm hW hi8 rfl rfl (fun i9 ex9 hi9 hm9 => ?_)
      refine po_gI hW h1 rfl rfl (by decide) (fun x10x ex10 (hx10 : 0 ≤ x10x.toInt ∧ x10x.toInt ≤ 600) => ?_)
      refine po_gRn (t := 1) hW h0 rfl rfl (by decide) (fun i11 ex11 hi11 => ?_)
      refine po_some ?_
      refine po_gRm hW hi11 rfl rfl (fun i12 ex12 hi12 hm12 => ?_)
      refine po_gI hW h2 rfl rfl (by decide) (fun x13x ex13 (hx13 : 0 ≤ x13x.toInt ∧ x13x.toInt ≤ 600) => ?_)
      refine po_bind ex5 ?_
      refine po_some ?_
      refine po_ck (wt_isO hW hi9 (by decide)) ?_
      refine po_ro (tX5_isSame hW hi9 ⟨_, rfl, hi12⟩ (by omega)) (fun y14 ex14 p14 => ?_)
      dsimp only
      refine po_eq (fun q15 => ?_) (fun q15 => ?_)
      · unfold mX8_isNow_b62
        unfold mX8_isNow_b63
        refine po_ck (nb_of (Or.inl rfl)) ?_
        exact po_ret ⟨rfl, rfl, (Or.inl rfl)⟩
      · unfold mX8_isNow_b63
        refine po_ck (nb_of (Or.inr rfl)) ?_
        exact po_ret ⟨rfl, rfl, (Or.inr rfl)⟩
    · unfold mX8_isNow_b62
      unfold mX8_isNow_b63
      refine po_ck (nb_of (Or.inl rfl)) ?_
      exact po_ret ⟨rfl, rfl, (Or.inl rfl)⟩
  · subst q4
    refine po_ck (wt_isO hW (p2 i3 rfl) (by decide)) ?_
    refine po_ro (tX5_size hW (p2 i3 rfl)) (fun y16 ex16 p16 => ?_)
    dsimp only
    refine po_some ?_
    refine po_gI hW h2 rfl rfl (by decide) (fun x17x ex17 (hx17 : (-700) ≤ x17x.toInt ∧ x17x.toInt ≤ 700) => ?_)
    refine po_eq (fun q18 => ?_) (fun q18 => ?_)
    · refine po_gRn (t := 1) hW h0 rfl rfl (by decide) (fun i19 ex19 hi19 => ?_)
      refine po_some ?_
      refine po_gRm hW hi19 rfl rfl (fun i20 ex20 hi20 hm20 => ?_)
      refine po_gI hW h2 rfl rfl (by decide) (fun x21x ex21 (hx21 : 0 ≤ x21x.toInt ∧ x21x.toInt ≤ 600) => ?_)
      refine po_ck (wt_isO hW (p2 i3 rfl) (by decide)) ?_
      refine po_bind ex16 ?_
      dsimp only
      refine po_ck (wt_isO hW (p2 i3 rfl) (by decide)) ?_
      refine po_ro (tX5_isSame hW (p2 i3 rfl) ⟨_, rfl, hi20⟩ (by omega)) (fun y22 ex22 p22 => ?_)
      dsimp only
      refine po_eq (fun q23 => ?_) (fun q23 => ?_)
      · unfold mX8_isNow_b105
        unfold mX8_isNow_b106
        refine po_ck (nb_of (Or.inl rfl)) ?_
        exact po_ret ⟨rfl, rfl, (Or.inl rfl)⟩
      · unfold mX8_isNow_b106
        refine po_ck (nb_of (Or.inr rfl)) ?_
        exact po_ret ⟨rfl, rfl, (Or.inr rfl)⟩
    · unfold mX8_isNow_b105
      unfold mX8_isNow_b106
      refine po_ck (nb_of (Or.inl rfl)) ?_
      exact po_ret ⟨rfl, rfl, (Or.inl rfl)⟩
set_option maxHeartbeats 1000000 in
theorem tX8_twice_l25 {G : TE} {F0 : AH} {S : Int32} {n : Nat} : ∀ (d : Nat) (v0 : Nat) (v1 : Int32) (f : AH), WT G F0 S f n → G.1 v0 = 8 → (0 ≤ v1.toInt ∧ v1.toInt ≤ 2000) → 3000 - v1.toInt < (d : Int) → PO (mX8_twice_l25 d v0 v1 f n) (fun v f' n' => n' = n ∧ WT G F0 S f' n ∧ (v = 0 ∨ v = 1)) := by
  intro d
  induction d with
  | zero =>
    intro v0 v1 f hW h0 h1  hm
    exfalso
    omega
  | succ d ih =>
    intro v0 v1 f hW h0 h1  hm
    show PO ((gR f v0 8 5).bind fun x1 => ((x1).bind fun j2 => rCk (isO f j2 1) (((mX1_size j2 f n).bind fun r4 => (if r4.1 ≤ v1 then rCk (rNb (1 : Int32)) (some ((1 : Int32), (r4.2.1, r4.2.2))) else ((gR r4.2.1 v0 8 5).bind fun x7 => ((x7).bind fun j8 => rCk (isO r4.2.1 j8 1) (((mX1_get j8 v1 r4.2.1 r4.2.2).bind fun r10 => ((some r10.1).bind fun x12 => ((gR r10.2.1 v0 8 6).bind fun x13 => ((x13).bind fun j14 => rCk (isO r10.2.1 j14 1) (((mX1_get j14 v1 r10.2.1 r10.2.2).bind fun r16 => ((some r16.1).bind fun x18 => (oN x12 (mX8_twice_b72 r16.2.1 r16.2.2) (fun j19 => (oN x18 (mX8_twice_b72 r16.2.1 r16.2.2) (fun j20 => rCk (isO r16.2.1 v0 8) (((mX8_isNow v0 v1 (some j19) (some j20) r16.2.1 r16.2.2).bind fun r22 => (if r22.1 = (0 : Int32) then mX8_twice_b72 r22.2.1 r22.2.2 else mX8_twice_l25 d v0 (v1 + (1 : Int32)) r22.2.1 r22.2.2)))))))))))))))))))))) _
    refine po_gRn (t := 1) hW h0 rfl rfl (by decide) (fun i1 ex1 hi1 => ?_)
    refine po_some ?_
    refine po_ck (wt_isO hW hi1 (by decide)) ?_
    refine po_ro (tX1_size hW hi1) (fun y2 ex2 p2 => ?_)
    dsimp only
    refine po_le rfl rfl (fun q3 => ?_) (fun q3 => ?_)
    · refine po_ck rfl ?_
      exact po_ret ⟨rfl, hW, (Or.inr rfl)⟩
    · refine po_bind ex1 ?_
      refine po_some ?_
      refine po_ck (wt_isO hW hi1 (by decide)) ?_
      refine po_ro (tX1_get hW hi1) (fun y4 ex4 p4 => ?_)
      dsimp only
      refine po_some ?_
      refine po_gRn (t := 1) hW h0 rfl rfl (by decide) (fun i5 ex5 hi5 => ?_)
      refine po_some ?_
      refine po_ck (wt_isO hW hi5 (by decide)) ?_
      refine po_ro (tX1_get hW hi5) (fun y6 ex6 p6 => ?_)
      dsimp only
      refine po_some ?_
      refine po_oN (fun q8 => ?_) (fun i7 q8 => ?_)
      · subst q8
        unfold mX8_twice_b72
        refine po_ck rfl ?_
        exact po_ret ⟨rfl, hW, (Or.inl rfl)⟩
      · subst q8
        refine po_oN (fun q10 => ?_) (fun i9 q10 => ?_)
        · subst q10
          unfold mX8_twice_b72
          refine po_ck rfl ?_
          exact po_ret ⟨rfl, hW, (Or.inl rfl)⟩
        · subst q10
          refine po_ck (wt_isO hW h0 (by decide)) ?_
          refine po_ro (tX8_isNow hW h0 ⟨_, rfl, (p4 i7 rfl)⟩ ⟨_, rfl, (p6 i9 rfl)⟩) (fun y11 ex11 p11 => ?_)
          dsimp only
          refine po_eq (fun q12 => ?_) (fun q12 => ?_)
          · unfold mX8_twice_b72
            refine po_ck rfl ?_
            exact po_ret ⟨rfl, hW, (Or.inl rfl)⟩
          · have e13 : (v1 + (1 : Int32)).toInt = v1.toInt + 1 := i_add rfl kt_1 (by omega)
            exact (ih v0 (v1 + (1 : Int32)) f hW h0 (by omega)  (by omega))
set_option maxHeartbeats 1000000 in
theorem tX8_twice {G : TE} {F0 : AH} {S : Int32} {f : AH} {n : Nat} {v0 : Nat} (hW : WT G F0 S f n) (h0 : G.1 v0 = 8) : PO (mX8_twice v0 f n) (fun v f' n' => n' = n ∧ WT G F0 S f' n ∧ (v = 0 ∨ v = 1)) := by
  have k_kt_0 := kt_0
  unfold mX8_twice
  refine po_ck (wt_isO hW h0 (by decide)) ?_
  refine po_w (tX8_cutAgain hW h0) (fun y1 g1 hW1 p1 => ?_)
  dsimp only
  refine po_gRn (t := 1) hW1 h0 rfl rfl (by decide) (fun i2 ex2 hi2 => ?_)
  refine po_some ?_
  refine po_ck (wt_isO hW1 hi2 (by decide)) ?_
  refine po_ro (tX1_size hW1 hi2) (fun y3 ex3 p3 => ?_)
  dsimp only
  refine po_gRn (t := 1) hW1 h0 rfl rfl (by decide) (fun i4 ex4 hi4 => ?_)
  refine po_some ?_
  refine po_ck (wt_isO hW1 hi4 (by decide)) ?_
  refine po_ro (tX1_size hW1 hi4) (fun y5 ex5 p5 => ?_)
  dsimp only
  refine po_eq (fun q6 => ?_) (fun q6 => ?_)
  · exact (tX8_twice_l25 rFU v0 (0 : Int32) g1 hW1 h0 (by omega)  (by unfold rFU; omega))
  · refine po_ck rfl ?_
    exact po_ret ⟨rfl, hW1, (Or.inl rfl)⟩
set_option maxHeartbeats 1000000 in
theorem tX8_image {G : TE} {F0 : AH} {S : Int32} {f : AH} {n : Nat} {v0 : Nat} (hW : WT G F0 S f n) (h0 : G.1 v0 = 8) : PO (mX8_image v0 f n) (fun v f' n' => n' = n ∧ WT G F0 S f' n ∧ (True)) := by
  unfold mX8_image
  refine po_gRn (t := 7) hW h0 rfl rfl (by decide) (fun i1 ex1 hi1 => ?_)
  refine po_gRn (t := 7) hW h0 rfl rfl (by decide) (fun i2 ex2 hi2 => ?_)
  refine po_some ?_
  refine po_ck (wt_isO hW hi1 (by decide)) ?_
  refine po_w (tX7_copyFrom hW hi1 ⟨_, rfl, hi2⟩) (fun y3 g3 hW3 p3 => ?_)
  dsimp only
  refine po_ck rfl ?_
  refine po_pI hW3 h0 rfl rfl (vv_i (by decide) (Or.inr rfl)) (fun g4 hW4 ex4 => ?_)
  exact po_ret ⟨rfl, hW4, trivial⟩
set_option maxHeartbeats 1000000 in
theorem tX8_back {G : TE} {F0 : AH} {S : Int32} {f : AH} {n : Nat} {v0 : Nat} (hW : WT G F0 S f n) (h0 : G.1 v0 = 8) : PO (mX8_back v0 f n) (fun v f' n' => n' = n ∧ WT G F0 S f' n ∧ (True)) := by
  unfold mX8_back
  refine po_gI hW h0 rfl rfl (by decide) (fun x1x ex1 (hx1 : x1x = 0 ∨ x1x = 1) => ?_)
  refine po_eq (fun q2 => ?_) (fun q2 => ?_)
  · refine po_ck rfl ?_
    exact po_ret ⟨rfl, hW, trivial⟩
  · refine po_gRn (t := 7) hW h0 rfl rfl (by decide) (fun i3 ex3 hi3 => ?_)
    refine po_ck (wt_isO hW h0 (by decide)) ?_
    refine po_w (tX8_restore hW h0 ⟨_, rfl, hi3⟩) (fun y4 g4 hW4 p4 => ?_)
    dsimp only
    refine po_pI hW4 h0 rfl rfl (vv_i (by decide) trivial) (fun g5 hW5 ex5 => ?_)
    refine po_ck rfl ?_
    exact po_ret ⟨rfl, hW5, trivial⟩
set_option maxHeartbeats 1000000 in
theorem tX1_bytesInPieces_l4 {G : TE} {F0 : AH} {S : Int32} {n : Nat} : ∀ (d : Nat) (v0 : Nat) (v1 : Int32) (v2 : Int32) (f : AH), WT G F0 S f n → G.1 v0 = 1 → (0 ≤ v2.toInt ∧ v2.toInt ≤ 2000) → 3000 - v2.toInt < (d : Int) → PO (mX1_bytesInPieces_l4 d v0 v1 v2 f n) (fun v f' n' => f' = f ∧ n' = n ∧ (True)) := by
  intro d
  induction d with
  | zero =>
    intro v0 v1 v2 f hW h0 h1  hm
    exfalso
    omega
  | succ d ih =>
    intro v0 v1 v2 f hW h0 h1  hm
    show PO ((gI f v0 1 3).bind fun x1 => (if x1 ≤ v2 then some (v1, (f, n)) else rCk (isO f v0 1) (((mX1_get v0 v2 f n).bind fun r3 => ((some r3.1).bind fun x5 => (oN x5 (mX1_bytesInPieces_b36 (fun v0 v1 v2 f n => mX1_bytesInPieces_l4 d v0 v1 v2 f n) v0 v2 v1 (0 : Int32) r3.2.1 r3.2.2) (fun j6 => ((gI r3.2.1 j6 3 1).bind fun x7 => ((gI r3.2.1 j6 3 0).bind fun x8 => mX1_bytesInPieces_b36 (fun v0 v1 v2 f n => mX1_bytesInPieces_l4 d v0 v1 v2 f n) v0 v2 v1 (x7 - x8) r3.2.1 r3.2.2))))))))) _
    refine po_gI hW h0 rfl rfl (by decide) (fun x1x ex1 (hx1 : 0 ≤ x1x.toInt ∧ x1x.toInt ≤ 40) => ?_)
    refine po_le rfl rfl (fun q2 => ?_) (fun q2 => ?_)
    · exact po_ret ⟨rfl, rfl, trivial⟩
    · refine po_ck (wt_isO hW h0 (by decide)) ?_
      refine po_ro (tX1_get hW h0) (fun y3 ex3 p3 => ?_)
      dsimp only
      refine po_some ?_
      refine po_oN (fun q5 => ?_) (fun i4 q5 => ?_)
      · subst q5
        unfold mX1_bytesInPieces_b36
        have e6 : (v2 + (1 : Int32)).toInt = v2.toInt + 1 := i_add rfl kt_1 (by omega)
        exact (ih v0 (v1 + (0 : Int32)) (v2 + (1 : Int32)) f hW h0 (by omega)  (by omega))
      · subst q5
        refine po_gI hW (p3 i4 rfl) rfl rfl (by decide) (fun x7x ex7 (_ : True) => ?_)
        refine po_gI hW (p3 i4 rfl) rfl rfl (by decide) (fun x8x ex8 (_ : True) => ?_)
        unfold mX1_bytesInPieces_b36
        have e9 : (v2 + (1 : Int32)).toInt = v2.toInt + 1 := i_add rfl kt_1 (by omega)
        exact (ih v0 (v1 + (x7x - x8x)) (v2 + (1 : Int32)) f hW h0 (by omega)  (by omega))
set_option maxHeartbeats 1000000 in
theorem tX1_bytesInPieces {G : TE} {F0 : AH} {S : Int32} {f : AH} {n : Nat} {v0 : Nat} (hW : WT G F0 S f n) (h0 : G.1 v0 = 1) : PO (mX1_bytesInPieces v0 f n) (fun v f' n' => f' = f ∧ n' = n ∧ (True)) := by
  have k_kt_0 := kt_0
  unfold mX1_bytesInPieces
  exact (tX1_bytesInPieces_l4 rFU v0 (0 : Int32) (0 : Int32) f hW h0 (by omega)  (by unfold rFU; omega))
set_option maxHeartbeats 1000000 in
theorem tX1_hasLikeAhead_l2 {G : TE} {F0 : AH} {S : Int32} {n : Nat} : ∀ (d : Nat) (v0 : Nat) (v1 : Int32) (v2 : Int32) (f : AH), WT G F0 S f n → G.1 v0 = 1 → (0 ≤ v1.toInt ∧ v1.toInt ≤ 2000) → (0 ≤ v2.toInt ∧ v2.toInt ≤ 2000) → v1.toInt + 3000 - v2.toInt < (d : Int) → PO (mX1_hasLikeAhead_l2 d v0 v1 v2 f n) (fun v f' n' => f' = f ∧ n' = n ∧ (True)) := by
  intro d
  induction d with
  | zero =>
    intro v0 v1 v2 f hW h0 h1 h2  hm
    exfalso
    omega
  | succ d ih =>
    intro v0 v1 v2 f hW h0 h1 h2  hm
    show PO (if v1 ≤ v2 then rCk (rNb (0 : Int32)) (some ((0 : Int32), (f, n))) else rCk (isO f v0 1) (((mX1_areLike v0 v1 v2 f n).bind fun r3 => (if r3.1 = (0 : Int32) then mX1_hasLikeAhead_l2 d v0 v1 (v2 + (1 : Int32)) r3.2.1 r3.2.2 else rCk (rNb (1 : Int32)) (some ((1 : Int32), (r3.2.1, r3.2.2))))))) _
    refine po_le rfl rfl (fun q1 => ?_) (fun q1 => ?_)
    · refine po_ck rfl ?_
      exact po_ret ⟨rfl, rfl, trivial⟩
    · refine po_ck (wt_isO hW h0 (by decide)) ?_
      refine po_ro (tX1_areLike hW h0) (fun y2 ex2 p2 => ?_)
      dsimp only
      refine po_eq (fun q3 => ?_) (fun q3 => ?_)
      · have e4 : (v2 + (1 : Int32)).toInt = v2.toInt + 1 := i_add rfl kt_1 (by omega)
        exact (ih v0 v1 (v2 + (1 : Int32)) f hW h0 (by omega) (by omega)  (by omega))
      · refine po_ck rfl ?_
        exact po_ret ⟨rfl, rfl, trivial⟩
set_option maxHeartbeats 1000000 in
theorem tX1_hasLikeAhead {G : TE} {F0 : AH} {S : Int32} {f : AH} {n : Nat} {v0 : Nat} {v1 : Int32} (hW : WT G F0 S f n) (h0 : G.1 v0 = 1) (h1 : (0 ≤ v1.toInt ∧ v1.toInt ≤ 2000)) : PO (mX1_hasLikeAhead v0 v1 f n) (fun v f' n' => f' = f ∧ n' = n ∧ (True)) := by
  have k_kt_0 := kt_0
  unfold mX1_hasLikeAhead
  exact (tX1_hasLikeAhead_l2 rFU v0 v1 (0 : Int32) f hW h0 (by omega) (by omega)  (by unfold rFU; omega))
set_option maxHeartbeats 1000000 in
theorem tX1_unlikeCount_l4 {G : TE} {F0 : AH} {S : Int32} {n : Nat} : ∀ (d : Nat) (v0 : Nat) (v1 : Int32) (v2 : Int32) (f : AH), WT G F0 S f n → G.1 v0 = 1 → (0 ≤ v2.toInt ∧ v2.toInt ≤ 2000) → 3000 - v2.toInt < (d : Int) → PO (mX1_unlikeCount_l4 d v0 v1 v2 f n) (fun v f' n' => f' = f ∧ n' = n ∧ (True)) := by
  intro d
  induction d with
  | zero =>
    intro v0 v1 v2 f hW h0 h1  hm
    exfalso
    omega
  | succ d ih =>
    intro v0 v1 v2 f hW h0 h1  hm
    show PO ((gI f v0 1 3).bind fun x1 => (if x1 ≤ v2 then some (v1, (f, n)) else rCk (isO f v0 1) (((mX1_hasLikeAhead v0 v2 f n).bind fun r3 => (if r3.1 = (0 : Int32) then mX1_unlikeCount_b23 (fun v0 v1 v2 f n => mX1_unlikeCount_l4 d v0 v1 v2 f n) v0 (v1 + (1 : Int32)) v2 r3.2.1 r3.2.2 else mX1_unlikeCount_b23 (fun v0 v1 v2 f n => mX1_unlikeCount_l4 d v0 v1 v2 f n) v0 v1 v2 r3.2.1 r3.2.2))))) _
    refine po_gI hW h0 rfl rfl (by decide) (fun x1x ex1 (hx1 : 0 ≤ x1x.toInt ∧ x1x.toInt ≤ 40) => ?_)
    refine po_le rfl rfl (fun q2 => ?_) (fun q2 => ?_)
    · exact po_ret ⟨rfl, rfl, trivial⟩
    · refine po_ck (wt_isO hW h0 (by decide)) ?_
      refine po_ro (tX1_hasLikeAhead hW h0 (by omega)) (fun y3 ex3 p3 => ?_)
      dsimp only
      refine po_eq (fun q4 => ?_) (fun q4 => ?_)
      · unfold mX1_unlikeCount_b23
        have e5 : (v2 + (1 : Int32)).toInt = v2.toInt + 1 := i_add rfl kt_1 (by omega)
        exact (ih v0 (v1 + (1 : Int32)) (v2 + (1 : Int32)) f hW h0 (by omega)  (by omega))
      · unfold mX1_unlikeCount_b23
        have e6 : (v2 + (1 : Int32)).toInt = v2.toInt + 1 := i_add rfl kt_1 (by omega)
        exact (ih v0 v1 (v2 + (1 : Int32)) f hW h0 (by omega)  (by omega))
set_option maxHeartbeats 1000000 in
theorem tX1_unlikeCount {G : TE} {F0 : AH} {S : Int32} {f : AH} {n : Nat} {v0 : Nat} (hW : WT G F0 S f n) (h0 : G.1 v0 = 1) : PO (mX1_unlikeCount v0 f n) (fun v f' n' => f' = f ∧ n' = n ∧ (True)) := by
  have k_kt_0 := kt_0
  unfold mX1_unlikeCount
  exact (tX1_unlikeCount_l4 rFU v0 (0 : Int32) (0 : Int32) f hW h0 (by omega)  (by unfold rFU; omega))
set_option maxHeartbeats 1000000 in
theorem tX5_countWords_l8 {G : TE} {F0 : AH} {S : Int32} {n : Nat} : ∀ (d : Nat) (v0 : Nat) (v1 : Int32) (v2 : Int32) (v3 : Int32) (v4 : Int32) (v5 : Int32) (f : AH), WT G F0 S f n → G.1 v0 = 5 → (0 ≤ v1.toInt ∧ v1.toInt ≤ 600) → ((-700) ≤ v2.toInt ∧ v2.toInt ≤ 700) → (0 ≤ v5.toInt ∧ v5.toInt ≤ 2000) → v1.toInt + v2.toInt - v5.toInt + 4000 < (d : Int) → PO (mX5_countWords_l8 d v0 v1 v2 v3 v4 v5 f n) (fun v f' n' => f' = f ∧ n' = n ∧ (True)) := by
  intro d
  induction d with
  | zero =>
    intro v0 v1 v2 v3 v4 v5 f hW h0 h1 h2 h3  hm
    exfalso
    omega
  | succ d ih =>
    intro v0 v1 v2 v3 v4 v5 f hW h0 h1 h2 h3  hm
    show PO (if (v1 + v2) ≤ v5 then some (v3, (f, n)) else rCk (isO f v0 5) (((mX5_get v0 v5 f n).bind fun r2 => ((mX8_isLetter r2.1 r2.2.1 r2.2.2).bind fun r4 => (if r4.1 = (0 : Int32) then mX5_countWords_b40 (fun v0 v1 v2 v3 v4 v5 f n => mX5_countWords_l8 d v0 v1 v2 v3 v4 v5 f n) v0 v1 v2 v3 v5 r4.1 r4.2.1 r4.2.2 else (if v4 = (0 : Int32) then mX5_countWords_b40 (fun v0 v1 v2 v3 v4 v5 f n => mX5_countWords_l8 d v0 v1 v2 v3 v4 v5 f n) v0 v1 v2 (v3 + (1 : Int32)) v5 r4.1 r4.2.1 r4.2.2 else mX5_countWords_b40 (fun v0 v1 v2 v3 v4 v5 f n => mX5_countWords_l8 d v0 v1 v2 v3 v4 v5 f n) v0 v1 v2 v3 v5 r4.1 r4.2.1 r4.2.2)))))) _
    have e2 : (v1 + v2).toInt = v1.toInt + v2.toInt := i_add rfl rfl (by omega)
    refine po_le rfl rfl (fun q1 => ?_) (fun q1 => ?_)
    · exact po_ret ⟨rfl, rfl, trivial⟩
    · refine po_ck (wt_isO hW h0 (by decide)) ?_
      refine po_ro (tX5_get hW h0) (fun y3 ex3 p3 => ?_)
      dsimp only
      refine po_ro (tX8_isLetter hW ) (fun y4 ex4 p4 => ?_)
      dsimp only
      refine po_eq (fun q5 => ?_) (fun q5 => ?_)
      · unfold mX5_countWords_b40
        have e6 : (v5 + (1 : Int32)).toInt = v5.toInt + 1 := i_add rfl kt_1 (by omega)
        exact (ih v0 v1 v2 v3 y4 (v5 + (1 : Int32)) f hW h0 (by omega) (by omega) (by omega)  (by omega))
      · refine po_eq (fun q7 => ?_) (fun q7 => ?_)
        · unfold mX5_countWords_b40
          have e8 : (v5 + (1 : Int32)).toInt = v5.toInt + 1 := i_add rfl kt_1 (by omega)
          exact (ih v0 v1 v2 (v3 + (1 : Int32)) y4 (v5 + (1 : Int32)) f hW h0 (by omega) (by omega) (by omega)  (by omega))
        · unfold mX5_countWords_b40
          have e9 : (v5 + (1 : Int32)).toInt = v5.toInt + 1 := i_add rfl kt_1 (by omega)
          exact (ih v0 v1 v2 v3 y4 (v5 + (1 : Int32)) f hW h0 (by omega) (by omega) (by omega)  (by omega))
set_option maxHeartbeats 1000000 in
theorem tX5_countWords {G : TE} {F0 : AH} {S : Int32} {f : AH} {n : Nat} {v0 : Nat} {v1 : Int32} {v2 : Int32} (hW : WT G F0 S f n) (h0 : G.1 v0 = 5) (h1 : (0 ≤ v1.toInt ∧ v1.toInt ≤ 600)) (h2 : ((-700) ≤ v2.toInt ∧ v2.toInt ≤ 700)) : PO (mX5_countWords v0 v1 v2 f n) (fun v f' n' => f' = f ∧ n' = n ∧ (True)) := by
  unfold mX5_countWords
  exact (tX5_countWords_l8 rFU v0 v1 v2 (0 : Int32) (0 : Int32) v1 f hW h0 (by omega) (by omega) (by omega)  (by unfold rFU; omega))
set_option maxHeartbeats 1000000 in
theorem tX8_countWords {G : TE} {F0 : AH} {S : Int32} {f : AH} {n : Nat} {v0 : Nat} {v1 : Int32} {v2 : Option Nat} (hW : WT G F0 S f n) (h0 : G.1 v0 = 8) (h1 : (∃ i, v2 = some i ∧ G.1 i = 3)) : PO (mX8_countWords v0 v1 v2 f n) (fun v f' n' => f' = f ∧ n' = n ∧ (True)) := by
  obtain ⟨iv2, rfl, h1⟩ := h1
  have k_kt_0 := kt_0
  unfold mX8_countWords
  refine po_gRn (t := 7) hW h0 rfl rfl (by decide) (fun i1 ex1 hi1 => ?_)
  refine po_some ?_
  refine po_ck (wt_isO hW hi1 (by decide)) ?_
  refine po_ro (tX7_toldFor hW hi1) (fun y2 ex2 p2 => ?_)
  dsimp only
  refine po_some ?_
  refine po_oN (fun q4 => ?_) (fun i3 q4 => ?_)
  · subst q4
    refine po_gRn (t := 1) hW h0 rfl rfl (by decide) (fun i5 ex5 hi5 => ?_)
    refine po_some ?_
    refine po_gRm hW hi5 rfl rfl (fun i6 ex6 hi6 hm6 => ?_)
    refine po_some ?_
    refine po_gI hW h1 rfl rfl (by decide) (fun x7x ex7 (hx7 : 0 ≤ x7x.toInt ∧ x7x.toInt ≤ 600) => ?_)
    refine po_gI hW h1 rfl rfl (by decide) (fun x8x ex8 (hx8 : (-700) ≤ x8x.toInt ∧ x8x.toInt ≤ 700) => ?_)
    refine po_some ?_
    refine po_ck (wt_isO hW hi6 (by decide)) ?_
    refine po_ro (tX5_countWords hW hi6 (by omega) (by omega)) (fun y9 ex9 p9 => ?_)
    dsimp only
    unfold mX8_countWords_b43
    exact po_ret ⟨rfl, rfl, trivial⟩
  · subst q4
    refine po_ck (wt_isO hW (p2 i3 rfl) (by decide)) ?_
    refine po_ro (tX5_size hW (p2 i3 rfl)) (fun y10 ex10 p10 => ?_)
    dsimp only
    refine po_ck (wt_isO hW (p2 i3 rfl) (by decide)) ?_
    refine po_ro (tX5_countWords hW (p2 i3 rfl) (by omega) (by omega)) (fun y11 ex11 p11 => ?_)
    dsimp only
    unfold mX8_countWords_b43
    exact po_ret ⟨rfl, rfl, trivial⟩
set_option maxHeartbeats 1000000 in
theorem tX8_countAllWords_l4 {G : TE} {F0 : AH} {S : Int32} {n : Nat} : ∀ (d : Nat) (v0 : Nat) (v1 : Int32) (v2 : Int32) (f : AH), WT G F0 S f n → G.1 v0 = 8 → (0 ≤ v2.toInt ∧ v2.toInt ≤ 2000) → 3000 - v2.toInt < (d : Int) → PO (mX8_countAllWords_l4 d v0 v1 v2 f n) (fun v f' n' => f' = f ∧ n' = n ∧ (True)) := by
  intro d
  induction d with
  | zero =>
    intro v0 v1 v2 f hW h0 h1  hm
    exfalso
    omega
  | succ d ih =>
    intro v0 v1 v2 f hW h0 h1  hm
    show PO ((gR f v0 8 5).bind fun x1 => ((x1).bind fun j2 => rCk (isO f j2 1) (((mX1_size j2 f n).bind fun r4 => (if r4.1 ≤ v2 then some (v1, (r4.2.1, r4.2.2)) else ((gR r4.2.1 v0 8 5).bind fun x6 => ((x6).bind fun j7 => rCk (isO r4.2.1 j7 1) (((mX1_get j7 v2 r4.2.1 r4.2.2).bind fun r9 => ((some r9.1).bind fun x11 => (oN x11 (mX8_countAllWords_b37 (fun v0 v1 v2 f n => mX8_countAllWords_l4 d v0 v1 v2 f n) v0 v1 v2 r9.2.1 r9.2.2) (fun j12 => rCk (isO r9.2.1 v0 8) (((mX8_countWords v0 v2 (some j12) r9.2.1 r9.2.2).bind fun r14 => mX8_countAllWords_b37 (fun v0 v1 v2 f n => mX8_countAllWords_l4 d v0 v1 v2 f n) v0 (v1 + r14.1) v2 r14.2.1 r14.2.2)))))))))))))) _
    refine po_gRn (t := 1) hW h0 rfl rfl (by decide) (fun i1 ex1 hi1 => ?_)
    refine po_some ?_
    refine po_ck (wt_isO hW hi1 (by decide)) ?_
    refine po_ro (tX1_size hW hi1) (fun y2 ex2 p2 => ?_)
    dsimp only
    refine po_le rfl rfl (fun q3 => ?_) (fun q3 => ?_)
    · exact po_ret ⟨rfl, rfl, trivial⟩
    · refine po_bind ex1 ?_
      refine po_some ?_
      refine po_ck (wt_isO hW hi1 (by decide)) ?_
      refine po_ro (tX1_get hW hi1) (fun y4 ex4 p4 => ?_)
      dsimp only
      refine po_some ?_
      refine po_oN (fun q6 => ?_) (fun i5 q6 => ?_)
      · subst q6
        unfold mX8_countAllWords_b37
        have e7 : (v2 + (1 : Int32)).toInt = v2.toInt + 1 := i_add rfl kt_1 (by omega)
        exact (ih v0 v1 (v2 + (1 : Int32)) f hW h0 (by omega)  (by omega))
      · subst q6
        refine po_ck (wt_isO hW h0 (by decide)) ?_
        refine po_ro (tX8_countWords hW h0 ⟨_, rfl, (p4 i5 rfl)⟩) (fun y8 ex8 p8 => ?_)
        dsimp only
        unfold mX8_countAllWords_b37
        have e9 : (v2 + (1 : Int32)).toInt = v2.toInt + 1 := i_add rfl kt_1 (by omega)
        exact (ih v0 (v1 + y8) (v2 + (1 : Int32)) f hW h0 (by omega)  (by omega))
set_option maxHeartbeats 1000000 in
theorem tX8_countAllWords {G : TE} {F0 : AH} {S : Int32} {f : AH} {n : Nat} {v0 : Nat} (hW : WT G F0 S f n) (h0 : G.1 v0 = 8) : PO (mX8_countAllWords v0 f n) (fun v f' n' => f' = f ∧ n' = n ∧ (True)) := by
  have k_kt_0 := kt_0
  unfold mX8_countAllWords
  exact (tX8_countAllWords_l4 rFU v0 (0 : Int32) (0 : Int32) f hW h0 (by omega)  (by unfold rFU; omega))
set_option maxHeartbeats 1000000 in
theorem tX1_longestText_l4 {G : TE} {F0 : AH} {S : Int32} {n : Nat} : ∀ (d : Nat) (v0 : Nat) (v1 : Int32) (v2 : Int32) (f : AH), WT G F0 S f n → G.1 v0 = 1 → (0 ≤ v2.toInt ∧ v2.toInt ≤ 2000) → 3000 - v2.toInt < (d : Int) → PO (mX1_longestText_l4 d v0 v1 v2 f n) (fun v f' n' => f' = f ∧ n' = n ∧ (True)) := by
  intro d
  induction d with
  | zero =>
    intro v0 v1 v2 f hW h0 h1  hm
    exfalso
    omega
  | succ d ih =>
    intro v0 v1 v2 f hW h0 h1  hm
    show PO ((gI f v0 1 3).bind fun x1 => (if x1 ≤ v2 then some (v1, (f, n)) else rCk (isO f v0 1) (((mX1_get v0 v2 f n).bind fun r3 => ((some r3.1).bind fun x5 => (oN x5 (mX1_longestText_b34 (fun v0 v1 v2 f n => mX1_longestText_l4 d v0 v1 v2 f n) v0 v2 v1 r3.2.1 r3.2.2) (fun j6 => ((gI r3.2.1 j6 3 3).bind fun x7 => mX1_longestText_b34 (fun v0 v1 v2 f n => mX1_longestText_l4 d v0 v1 v2 f n) v0 v2 (jMax v1 x7) r3.2.1 r3.2.2)))))))) _
    refine po_gI hW h0 rfl rfl (by decide) (fun x1x ex1 (hx1 : 0 ≤ x1x.toInt ∧ x1x.toInt ≤ 40) => ?_)
    refine po_le rfl rfl (fun q2 => ?_) (fun q2 => ?_)
    · exact po_ret ⟨rfl, rfl, trivial⟩
    · refine po_ck (wt_isO hW h0 (by decide)) ?_
      refine po_ro (tX1_get hW h0) (fun y3 ex3 p3 => ?_)
      dsimp only
      refine po_some ?_
      refine po_oN (fun q5 => ?_) (fun i4 q5 => ?_)
      · subst q5
        unfold mX1_longestText_b34
        have e6 : (v2 + (1 : Int32)).toInt = v2.toInt + 1 := i_add rfl kt_1 (by omega)
        exact (ih v0 v1 (v2 + (1 : Int32)) f hW h0 (by omega)  (by omega))
      · subst q5
        refine po_gI hW (p3 i4 rfl) rfl rfl (by decide) (fun x7x ex7 (hx7 : (-700) ≤ x7x.toInt ∧ x7x.toInt ≤ 700) => ?_)
        unfold mX1_longestText_b34
        have e8 : (v2 + (1 : Int32)).toInt = v2.toInt + 1 := i_add rfl kt_1 (by omega)
        exact (ih v0 (jMax v1 x7x) (v2 + (1 : Int32)) f hW h0 (by omega)  (by omega))
set_option maxHeartbeats 1000000 in
theorem tX1_longestText {G : TE} {F0 : AH} {S : Int32} {f : AH} {n : Nat} {v0 : Nat} (hW : WT G F0 S f n) (h0 : G.1 v0 = 1) : PO (mX1_longestText v0 f n) (fun v f' n' => f' = f ∧ n' = n ∧ (True)) := by
  have k_kt_0 := kt_0
  unfold mX1_longestText
  exact (tX1_longestText_l4 rFU v0 (0 : Int32) (0 : Int32) f hW h0 (by omega)  (by unfold rFU; omega))
set_option maxHeartbeats 1000000 in
theorem tX8_count {G : TE} {F0 : AH} {S : Int32} {f : AH} {n : Nat} {v0 : Nat} {v1 : Int32} (hW : WT G F0 S f n) (h0 : G.1 v0 = 8) : PO (mX8_count v0 v1 f n) (fun v f' n' => f' = f ∧ n' = n ∧ (True)) := by
  unfold mX8_count
  refine po_eq (fun q1 => ?_) (fun q1 => ?_)
  · refine po_gRn (t := 7) hW h0 rfl rfl (by decide) (fun i2 ex2 hi2 => ?_)
    refine po_some ?_
    refine po_gRn (t := 5) hW hi2 rfl rfl (by decide) (fun i3 ex3 hi3 => ?_)
    refine po_some ?_
    refine po_ck (wt_isO hW hi3 (by decide)) ?_
    refine po_ro (tX5_size hW hi3) (fun y4 ex4 p4 => ?_)
    dsimp only
    exact po_ret ⟨rfl, rfl, trivial⟩
  · refine po_eq (fun q5 => ?_) (fun q5 => ?_)
    · refine po_gRn (t := 7) hW h0 rfl rfl (by decide) (fun i6 ex6 hi6 => ?_)
      refine po_some ?_
      refine po_gI hW hi6 rfl rfl (by decide) (fun x7x ex7 (_ : True) => ?_)
      exact po_ret ⟨rfl, rfl, trivial⟩
    · refine po_eq (fun q8 => ?_) (fun q8 => ?_)
      · refine po_gRn (t := 7) hW h0 rfl rfl (by decide) (fun i9 ex9 hi9 => ?_)
        refine po_some ?_
        refine po_gI hW hi9 rfl rfl (by decide) (fun x10x ex10 (_ : True) => ?_)
        exact po_ret ⟨rfl, rfl, trivial⟩
      · refine po_eq (fun q11 => ?_) (fun q11 => ?_)
        · refine po_gRn (t := 1) hW h0 rfl rfl (by decide) (fun i12 ex12 hi12 => ?_)
          refine po_some ?_
          refine po_ck (wt_isO hW hi12 (by decide)) ?_
          refine po_ro (tX1_size hW hi12) (fun y13 ex13 p13 => ?_)
          dsimp only
          exact po_ret ⟨rfl, rfl, trivial⟩
        · refine po_eq (fun q14 => ?_) (fun q14 => ?_)
          · refine po_gRn (t := 7) hW h0 rfl rfl (by decide) (fun i15 ex15 hi15 => ?_)
            refine po_some ?_
            refine po_ck (wt_isO hW hi15 (by decide)) ?_
            refine po_ro (tX7_toldCount hW hi15) (fun y16 ex16 p16 => ?_)
            dsimp only
            exact po_ret ⟨rfl, rfl, trivial⟩
          · refine po_eq (fun q17 => ?_) (fun q17 => ?_)
            · refine po_gRn (t := 0) hW h0 rfl rfl (by decide) (fun i18 ex18 hi18 => ?_)
              refine po_some ?_
              refine po_gRm hW hi18 rfl rfl (fun i19 ex19 hi19 hm19 => ?_)
              refine po_some ?_
              refine po_ck (wt_isO hW hi19 (by decide)) ?_
              refine po_ro (tX5_size hW hi19) (fun y20 ex20 p20 => ?_)
              dsimp only
              exact po_ret ⟨rfl, rfl, trivial⟩
            · refine po_eq (fun q21 => ?_) (fun q21 => ?_)
              · refine po_gRn (t := 7) hW h0 rfl rfl (by decide) (fun i22 ex22 hi22 => ?_)
                refine po_some ?_
                refine po_gRn (t := 5) hW hi22 rfl rfl (by decide) (fun i23 ex23 hi23 => ?_)
                refine po_some ?_
                refine po_ck (wt_isO hW hi23 (by decide)) ?_
                refine po_ro (tX5_size hW hi23) (fun y24 ex24 p24 => ?_)
                dsimp only
                refine po_gRn (t := 1) hW h0 rfl rfl (by decide) (fun i25 ex25 hi25 => ?_)
                refine po_some ?_
                refine po_ck (wt_isO hW hi25 (by decide)) ?_
                refine po_ro (tX1_bytesInPieces hW hi25) (fun y26 ex26 p26 => ?_)
                dsimp only
                exact po_ret ⟨rfl, rfl, trivial⟩
              · refine po_eq (fun q27 => ?_) (fun q27 => ?_)
                · refine po_gRn (t := 7) hW h0 rfl rfl (by decide) (fun i28 ex28 hi28 => ?_)
                  refine po_some ?_
                  refine po_gI hW hi28 rfl rfl (by decide) (fun x29x ex29 (hx29 : x29x = 0 ∨ x29x = 1) => ?_)
                  refine po_eq (fun q30 => ?_) (fun q30 => ?_)
                  · unfold mX8_count_b164
                    exact po_ret ⟨rfl, rfl, trivial⟩
                  · unfold mX8_count_b164
                    exact po_ret ⟨rfl, rfl, trivial⟩
                · refine po_eq (fun q31 => ?_) (fun q31 => ?_)
                  · refine po_gRn (t := 7) hW h0 rfl rfl (by decide) (fun i32 ex32 hi32 => ?_)
                    refine po_some ?_
                    refine po_gI hW hi32 rfl rfl (by decide) (fun x33x ex33 (_ : True) => ?_)
                    exact po_ret ⟨rfl, rfl, trivial⟩
                  · refine po_eq (fun q34 => ?_) (fun q34 => ?_)
                    · refine po_gRn (t := 7) hW h0 rfl rfl (by decide) (fun i35 ex35 hi35 => ?_)
                      refine po_some ?_
                      refine po_gI hW hi35 rfl rfl (by decide) (fun x36x ex36 (_ : True) => ?_)
                      exact po_ret ⟨rfl, rfl, trivial⟩
                    · refine po_eq (fun q37 => ?_) (fun q37 => ?_)
                      · refine po_gRn (t := 1) hW h0 rfl rfl (by decide) (fun i38 ex38 hi38 => ?_)
                        refine po_some ?_
                        refine po_ck (wt_isO hW hi38 (by decide)) ?_
                        refine po_ro (tX1_unlikeCount hW hi38) (fun y39 ex39 p39 => ?_)
                        dsimp only
                        exact po_ret ⟨rfl, rfl, trivial⟩
                      · refine po_eq (fun q40 => ?_) (fun q40 => ?_)
                        · refine po_ck (wt_isO hW h0 (by decide)) ?_
                          refine po_ro (tX8_countAllWords hW h0) (fun y41 ex41 p41 => ?_)
                          dsimp only
                          exact po_ret ⟨rfl, rfl, trivial⟩
                        · refine po_eq (fun q42 => ?_) (fun q42 => ?_)
                          · refine po_gRn (t := 7) hW h0 rfl rfl (by decide) (fun i43 ex43 hi43 => ?_)
                            refine po_some ?_
                            refine po_gI hW hi43 rfl rfl (by decide) (fun x44x ex44 (hx44 : 0 ≤ x44x.toInt ∧ x44x.toInt ≤ 12) => ?_)
                            exact po_ret ⟨rfl, rfl, trivial⟩
                          · refine po_eq (fun q45 => ?_) (fun q45 => ?_)
                            · refine po_gRn (t := 1) hW h0 rfl rfl (by decide) (fun i46 ex46 hi46 => ?_)
                              refine po_some ?_
                              refine po_ck (wt_isO hW hi46 (by decide)) ?_
                              refine po_ro (tX1_longestText hW hi46) (fun y47 ex47 p47 => ?_)
                              dsimp only
                              exact po_ret ⟨rfl, rfl, trivial⟩
                            · refine po_eq (fun q48 => ?_) (fun q48 => ?_)
                              · refine po_gI hW h0 rfl rfl (by decide) (fun x49x ex49 (_ : True) => ?_)
                                exact po_ret ⟨rfl, rfl, trivial⟩
                              · exact po_ret ⟨rfl, rfl, trivial⟩
end
/-! part 38f.wt -/
section
set_option maxHeartbeats 1000000 in
theorem tX4_start {G : TE} {F0 : AH} {S : Int32} {f : AH} {n : Nat} {v0 : Nat} {v1 : Option Nat} (hW : WT G F0 S f n) (h0 : G.1 v0 = 4) (h1 : (∃ i, v1 = some i ∧ G.1 i = 5)) : PO (mX4_start v0 v1 f n) (fun v f' n' => n' = n ∧ WT G F0 S f' n ∧ (True)) := by
  obtain ⟨iv1, rfl, h1⟩ := h1
  have k_kt_0 := kt_0
  unfold mX4_start
  refine po_pO hW h0 rfl rfl (vv_n (t := 5) (by decide) h1) (fun g1 hW1 => ?_)
  refine po_gRn (t := 5) hW1 h0 rfl rfl (by decide) (fun i2 ex2 hi2 => ?_)
  refine po_bind ex2 ?_
  refine po_some ?_
  refine po_ck (wt_isO hW1 hi2 (by decide)) ?_
  refine po_ro (tX5_size hW1 hi2) (fun y3 ex3 p3 => ?_)
  dsimp only
  refine po_some ?_
  refine po_ck (wt_isO hW1 hi2 (by decide)) ?_
  refine po_ro (tX5_behindBlanks hW1 hi2 (by omega) (by omega)) (fun y4 ex4 p4 => ?_)
  dsimp only
  refine po_pI hW1 h0 rfl rfl (vv_i (by decide) (vi8 (by omega))) (fun g5 hW5 ex5 => ?_)
  refine po_bind ex5 ?_
  refine po_gRn (t := 5) hW5 h0 rfl rfl (by decide) (fun i6 ex6 hi6 => ?_)
  refine po_some ?_
  refine po_ck (wt_isO hW5 hi6 (by decide)) ?_
  refine po_ro (tX5_size hW5 hi6) (fun y7 ex7 p7 => ?_)
  dsimp only
  refine po_le rfl rfl (fun q8 => ?_) (fun q8 => ?_)
  · unfold mX4_start_b44
    refine po_ck (nb_of (Or.inl rfl)) ?_
    refine po_pI hW5 h0 rfl rfl (vv_i (by decide) (Or.inl rfl)) (fun g9 hW9 ex9 => ?_)
    exact po_ret ⟨rfl, hW9, trivial⟩
  · unfold mX4_start_b44
    refine po_ck (nb_of (Or.inr rfl)) ?_
    refine po_pI hW5 h0 rfl rfl (vv_i (by decide) (Or.inr rfl)) (fun g10 hW10 ex10 => ?_)
    exact po_ret ⟨rfl, hW10, trivial⟩
set_option maxHeartbeats 1000000 in
theorem tX4_lettersEnd_l5 {G : TE} {F0 : AH} {S : Int32} {n : Nat} : ∀ (d : Nat) (v0 : Nat) (v1 : Int32) (f : AH), WT G F0 S f n → G.1 v0 = 4 → (0 ≤ v1.toInt ∧ v1.toInt ≤ 2000) → 3000 - v1.toInt < (d : Int) → PO (mX4_lettersEnd_l5 d v0 v1 f n) (fun v f' n' => f' = f ∧ n' = n ∧ (0 ≤ v.toInt ∧ v.toInt ≤ 600)) := by
  intro d
  induction d with
  | zero =>
    intro v0 v1 f hW h0 h1  hm
    exfalso
    omega
  | succ d ih =>
    intro v0 v1 f hW h0 h1  hm
    show PO ((gR f v0 4 7).bind fun x1 => ((x1).bind fun j2 => rCk (isO f j2 5) (((mX5_size j2 f n).bind fun r4 => (if r4.1 ≤ v1 then ((gR r4.2.1 v0 4 7).bind fun x6 => ((x6).bind fun j7 => rCk (isO r4.2.1 j7 5) (((mX5_size j7 r4.2.1 r4.2.2).bind fun r9 => some (r9.1, (r9.2.1, r9.2.2)))))) else ((gR r4.2.1 v0 4 7).bind fun x11 => ((x11).bind fun j12 => rCk (isO r4.2.1 j12 5) (((mX5_get j12 v1 r4.2.1 r4.2.2).bind fun r14 => (if r14.1 < (97 : Int32) then mX4_lettersEnd_b42 v1 r14.2.1 r14.2.2 else ((gR r14.2.1 v0 4 7).bind fun x16 => ((x16).bind fun j17 => rCk (isO r14.2.1 j17 5) (((mX5_get j17 v1 r14.2.1 r14.2.2).bind fun r19 => (if r19.1 ≤ (122 : Int32) then mX4_lettersEnd_l5 d v0 (v1 + (1 : Int32)) r19.2.1 r19.2.2 else mX4_lettersEnd_b42 v1 r19.2.1 r19.2.2))))))))))))))) _
    refine po_gRn (t := 5) hW h0 rfl rfl (by decide) (fun i1 ex1 hi1 => ?_)
    refine po_some ?_
    refine po_ck (wt_isO hW hi1 (by decide)) ?_
    refine po_ro (tX5_size hW hi1) (fun y2 ex2 p2 => ?_)
    dsimp only
    refine po_le rfl rfl (fun q3 => ?_) (fun q3 => ?_)
    · refine po_bind ex1 ?_
      refine po_some ?_
      refine po_ck (wt_isO hW hi1 (by decide)) ?_
      refine po_bind ex2 ?_
      dsimp only
      exact po_ret ⟨rfl, rfl, (by omega)⟩
    · refine po_bind ex1 ?_
      refine po_some ?_
      refine po_ck (wt_isO hW hi1 (by decide)) ?_
      refine po_ro (tX5_get hW hi1) (fun y4 ex4 p4 => ?_)
      dsimp only
      refine po_lt rfl kt_97 (fun q5 => ?_) (fun q5 => ?_)
      · unfold mX4_lettersEnd_b42
        exact po_ret ⟨rfl, rfl, (by omega)⟩
      · refine po_bind ex1 ?_
        refine po_some ?_
        refine po_ck (wt_isO hW hi1 (by decide)) ?_
        refine po_bind ex4 ?_
        dsimp only
        refine po_le rfl kt_122 (fun q6 => ?_) (fun q6 => ?_)
        · have e7 : (v1 + (1 : Int32)).toInt = v1.toInt + 1 := i_add rfl kt_1 (by omega)
          exact (ih v0 (v1 + (1 : Int32)) f hW h0 (by omega)  (by omega))
        · unfold mX4_lettersEnd_b42
          exact po_ret ⟨rfl, rfl, (by omega)⟩
set_option maxHeartbeats 1000000 in
theorem tX4_lettersEnd {G : TE} {F0 : AH} {S : Int32} {f : AH} {n : Nat} {v0 : Nat} (hW : WT G F0 S f n) (h0 : G.1 v0 = 4) : PO (mX4_lettersEnd v0 f n) (fun v f' n' => f' = f ∧ n' = n ∧ (0 ≤ v.toInt ∧ v.toInt ≤ 600)) := by
  unfold mX4_lettersEnd
  refine po_gI hW h0 rfl rfl (by decide) (fun x1x ex1 (hx1 : 0 ≤ x1x.toInt ∧ x1x.toInt ≤ 2000) => ?_)
  exact (tX4_lettersEnd_l5 rFU v0 x1x f hW h0 (by omega)  (by unfold rFU; omega))
set_option maxHeartbeats 1000000 in
theorem tX4_nameOf {G : TE} {F0 : AH} {S : Int32} {f : AH} {n : Nat} {v0 : Int32} (hW : WT G F0 S f n)  : PO (mX4_nameOf v0 f n) (fun v f' n' => f' = f ∧ n' = n ∧ (v < 12)) := by
  unfold mX4_nameOf
  refine po_eq (fun q1 => ?_) (fun q1 => ?_)
  · exact po_ret ⟨rfl, rfl, (by decide)⟩
  · refine po_eq (fun q2 => ?_) (fun q2 => ?_)
    · exact po_ret ⟨rfl, rfl, (by decide)⟩
    · refine po_eq (fun q3 => ?_) (fun q3 => ?_)
      · exact po_ret ⟨rfl, rfl, (by decide)⟩
      · refine po_eq (fun q4 => ?_) (fun q4 => ?_)
        · exact po_ret ⟨rfl, rfl, (by decide)⟩
        · refine po_eq (fun q5 => ?_) (fun q5 => ?_)
          · exact po_ret ⟨rfl, rfl, (by decide)⟩
          · refine po_eq (fun q6 => ?_) (fun q6 => ?_)
            · exact po_ret ⟨rfl, rfl, (by decide)⟩
            · refine po_eq (fun q7 => ?_) (fun q7 => ?_)
              · exact po_ret ⟨rfl, rfl, (by decide)⟩
              · refine po_eq (fun q8 => ?_) (fun q8 => ?_)
                · exact po_ret ⟨rfl, rfl, (by decide)⟩
                · refine po_eq (fun q9 => ?_) (fun q9 => ?_)
                  · exact po_ret ⟨rfl, rfl, (by decide)⟩
                  · refine po_eq (fun q10 => ?_) (fun q10 => ?_)
                    · exact po_ret ⟨rfl, rfl, (by decide)⟩
                    · refine po_eq (fun q11 => ?_) (fun q11 => ?_)
                      · exact po_ret ⟨rfl, rfl, (by decide)⟩
                      · exact po_ret ⟨rfl, rfl, (by decide)⟩
set_option maxHeartbeats 1000000 in
theorem tX5_isText_l13 {G : TE} {F0 : AH} {S : Int32} {n : Nat} : ∀ (d : Nat) (v0 : Nat) (v1 : Int32) (v2 : Int32) (v3 : Nat) (v4 : Int32) (f : AH), WT G F0 S f n → G.1 v0 = 5 → v3 < 12 → (0 ≤ v4.toInt ∧ v4.toInt ≤ 2000) → 3000 - v4.toInt < (d : Int) → PO (mX5_isText_l13 d v0 v1 v2 v3 v4 f n) (fun v f' n' => f' = f ∧ n' = n ∧ (v = 0 ∨ v = 1)) := by
  intro d
  induction d with
  | zero =>
    intro v0 v1 v2 v3 v4 f hW h0 h1 h2  hm
    exfalso
    omega
  | succ d ih =>
    intro v0 v1 v2 v3 v4 f hW h0 h1 h2  hm
    have hst := st4_b h1
    show PO (if v2 ≤ v4 then mX5_isText_b53 f n else (if (st4L v3) ≤ v4 then mX5_isText_b53 f n else rCk (isO f v0 5) (((mX5_get v0 (v1 + v4) f n).bind fun r2 => rCk (rIn v4 (sL4.getD v3 0)) ((if r2.1 = (st4C v3 v4) then mX5_isText_l13 d v0 v1 v2 v3 (v4 + (1 : Int32)) r2.2.1 r2.2.2 else rCk (rNb (0 : Int32)) (some ((0 : Int32), (r2.2.1, r2.2.2))))))))) _
    refine po_le rfl rfl (fun q1 => ?_) (fun q1 => ?_)
    · unfold mX5_isText_b53
      refine po_ck rfl ?_
      exact po_ret ⟨rfl, rfl, (Or.inr rfl)⟩
    · refine po_le rfl rfl (fun q2 => ?_) (fun q2 => ?_)
      · unfold mX5_isText_b53
        refine po_ck rfl ?_
        exact po_ret ⟨rfl, rfl, (Or.inr rfl)⟩
      · refine po_ck (wt_isO hW h0 (by decide)) ?_
        refine po_ro (tX5_get hW h0) (fun y3 ex3 p3 => ?_)
        dsimp only
        refine po_ck (in_st4 h1 (by omega)) ?_
        refine po_eq (fun q4 => ?_) (fun q4 => ?_)
        · have e5 : (v4 + (1 : Int32)).toInt = v4.toInt + 1 := i_add rfl kt_1 (by omega)
          exact (ih v0 v1 v2 v3 (v4 + (1 : Int32)) f hW h0 h1 (by omega)  (by omega))
        · refine po_ck rfl ?_
          exact po_ret ⟨rfl, rfl, (Or.inl rfl)⟩
set_option maxHeartbeats 1000000 in
theorem tX5_isText {G : TE} {F0 : AH} {S : Int32} {f : AH} {n : Nat} {v0 : Nat} {v1 : Int32} {v2 : Int32} {v3 : Nat} (hW : WT G F0 S f n) (h0 : G.1 v0 = 5) (h1 : v3 < 12) : PO (mX5_isText v0 v1 v2 v3 f n) (fun v f' n' => f' = f ∧ n' = n ∧ (v = 0 ∨ v = 1)) := by
  have k_kt_0 := kt_0
  unfold mX5_isText
  refine po_eq (fun q1 => ?_) (fun q1 => ?_)
  · exact (tX5_isText_l13 rFU v0 v1 v2 v3 (0 : Int32) f hW h0 h1 (by omega)  (by unfold rFU; omega))
  · refine po_ck rfl ?_
    exact po_ret ⟨rfl, rfl, (Or.inl rfl)⟩
set_option maxHeartbeats 1000000 in
theorem tX4_actNamed_l2 {G : TE} {F0 : AH} {S : Int32} {n : Nat} : ∀ (d : Nat) (v0 : Nat) (v1 : Int32) (v2 : Int32) (v3 : Int32) (f : AH), WT G F0 S f n → G.1 v0 = 4 → (0 ≤ v3.toInt ∧ v3.toInt ≤ 2000) → 3000 - v3.toInt < (d : Int) → PO (mX4_actNamed_l2 d v0 v1 v2 v3 f n) (fun v f' n' => f' = f ∧ n' = n ∧ (True)) := by
  intro d
  induction d with
  | zero =>
    intro v0 v1 v2 v3 f hW h0 h1  hm
    exfalso
    omega
  | succ d ih =>
    intro v0 v1 v2 v3 f hW h0 h1  hm
    show PO (if (11 : Int32) < v3 then some ((-1 : Int32), (f, n)) else ((gR f v0 4 7).bind fun x1 => ((mX4_nameOf v3 f n).bind fun r2 => ((x1).bind fun j3 => rCk (decide (r2.1 < 12)) (rCk (isO r2.2.1 j3 5) (((mX5_isText j3 v1 v2 r2.1 r2.2.1 r2.2.2).bind fun r6 => (if r6.1 = (0 : Int32) then mX4_actNamed_l2 d v0 v1 v2 (v3 + (1 : Int32)) r6.2.1 r6.2.2 else some (v3, (r6.2.1, r6.2.2)))))))))) _
    refine po_lt kt_11 rfl (fun q1 => ?_) (fun q1 => ?_)
    · exact po_ret ⟨rfl, rfl, trivial⟩
    · refine po_gRn (t := 5) hW h0 rfl rfl (by decide) (fun i2 ex2 hi2 => ?_)
      refine po_ro (tX4_nameOf hW ) (fun y3 ex3 p3 => ?_)
      dsimp only
      refine po_some ?_
      refine po_ck (decide_eq_true p3) ?_
      refine po_ck (wt_isO hW hi2 (by decide)) ?_
      refine po_ro (tX5_isText hW hi2 p3) (fun y4 ex4 p4 => ?_)
      dsimp only
      refine po_eq (fun q5 => ?_) (fun q5 => ?_)
      · have e6 : (v3 + (1 : Int32)).toInt = v3.toInt + 1 := i_add rfl kt_1 (by omega)
        exact (ih v0 v1 v2 (v3 + (1 : Int32)) f hW h0 (by omega)  (by omega))
      · exact po_ret ⟨rfl, rfl, trivial⟩
set_option maxHeartbeats 1000000 in
theorem tX4_actNamed {G : TE} {F0 : AH} {S : Int32} {f : AH} {n : Nat} {v0 : Nat} {v1 : Int32} {v2 : Int32} (hW : WT G F0 S f n) (h0 : G.1 v0 = 4) : PO (mX4_actNamed v0 v1 v2 f n) (fun v f' n' => f' = f ∧ n' = n ∧ (True)) := by
  have k_kt_0 := kt_0
  unfold mX4_actNamed
  exact (tX4_actNamed_l2 rFU v0 v1 v2 (0 : Int32) f hW h0 (by omega)  (by unfold rFU; omega))
set_option maxHeartbeats 1000000 in
theorem tX4_readNumber_l30 {G : TE} {F0 : AH} {S : Int32} {n : Nat} : ∀ (d : Nat) (v0 : Nat) (v1 : Int32) (v2 : Int32) (v3 : Int32) (v4 : Int32) (v5 : Int32) (f : AH), WT G F0 S f n → G.1 v0 = 4 → (0 ≤ v3.toInt ∧ v3.toInt ≤ 700) → (0 ≤ v4.toInt ∧ v4.toInt ≤ 1000) → (0 ≤ v5.toInt ∧ v5.toInt ≤ 2000) → v4.toInt + v3.toInt = v5.toInt → 3000 - v5.toInt < (d : Int) → PO (mX4_readNumber_l30 d v0 v1 v2 v3 v4 v5 f n) (fun v f' n' => n' = n ∧ WT G F0 S f' n ∧ (True)) := by
  intro d
  induction d with
  | zero =>
    intro v0 v1 v2 v3 v4 v5 f hW h0 h1 h2 h3 hx0 hm
    exfalso
    omega
  | succ d ih =>
    intro v0 v1 v2 v3 v4 v5 f hW h0 h1 h2 h3 hx0 hm
    show PO ((gR f v0 4 7).bind fun x1 => ((x1).bind fun j2 => rCk (isO f j2 5) (((mX5_size j2 f n).bind fun r4 => (if r4.1 ≤ v5 then mX4_readNumber_b116 v0 v1 v2 v3 v4 r4.2.1 r4.2.2 else ((gR r4.2.1 v0 4 7).bind fun x6 => ((x6).bind fun j7 => rCk (isO r4.2.1 j7 5) (((mX5_get j7 v5 r4.2.1 r4.2.2).bind fun r9 => (if r9.1 < (48 : Int32) then mX4_readNumber_b116 v0 v1 v2 v3 v4 r9.2.1 r9.2.2 else ((gR r9.2.1 v0 4 7).bind fun x11 => ((x11).bind fun j12 => rCk (isO r9.2.1 j12 5) (((mX5_get j12 v5 r9.2.1 r9.2.2).bind fun r14 => (if (57 : Int32) < r14.1 then mX4_readNumber_b116 v0 v1 v2 v3 v4 r14.2.1 r14.2.2 else (if (v4 + (1 : Int32)) ≤ (2 : Int32) then ((gI r14.2.1 v0 4 6).bind fun x16 => ((gR r14.2.1 v0 4 7).bind fun x17 => ((x17).bind fun j18 => rCk (isO r14.2.1 j18 5) (((mX5_get j18 v5 r14.2.1 r14.2.2).bind fun r20 => mX4_readNumber_b107 (fun v0 v1 v2 v3 v4 v5 f n => mX4_readNumber_l30 d v0 v1 v2 v3 v4 v5 f n) v0 v1 v2 v3 (v4 + (1 : Int32)) v5 v0 (((x16 * (10 : Int32)) + r20.1) - (48 : Int32)) r20.2.1 r20.2.2))))) else ((gI r14.2.1 v0 4 6).bind fun x22 => mX4_readNumber_b107 (fun v0 v1 v2 v3 v4 v5 f n => mX4_readNumber_l30 d v0 v1 v2 v3 v4 v5 f n) v0 v1 v2 v3 (v4 + (1 : Int32)) v5 v0 x22 r14.2.1 r14.2.2))))))))))))))))) _
    refine po_gRn (t := 5) hW h0 rfl rfl (by decide) (fun i1 ex1 hi1 => ?_)
    refine po_some ?_
    refine po_ck (wt_isO hW hi1 (by decide)) ?_
    refine po_ro (tX5_size hW hi1) (fun y2 ex2 p2 => ?_)
    dsimp only
    refine po_le rfl rfl (fun q3 => ?_) (fun q3 => ?_)
    · unfold mX4_readNumber_b116
      have e5 : (v3 + v4).toInt = v3.toInt + v4.toInt := i_add rfl rfl (by omega)
      refine po_pI hW h0 rfl rfl (vv_i (by decide) (vi8 (by omega))) (fun g4 hW4 ex4 => ?_)
      refine po_lt rfl kt_1 (fun q6 => ?_) (fun q6 => ?_)
      · unfold mX4_readNumber_b156
        unfold mX4_readNumber_b157
        exact po_ret ⟨rfl, hW4, trivial⟩
      · refine po_lt kt_2 rfl (fun q7 => ?_) (fun q7 => ?_)
        · unfold mX4_readNumber_b156
          unfold mX4_readNumber_b157
          exact po_ret ⟨rfl, hW4, trivial⟩
        · refine po_gI hW4 h0 rfl rfl (by decide) (fun x8x ex8 (_ : True) => ?_)
          refine po_lt rfl rfl (fun q9 => ?_) (fun q9 => ?_)
          · unfold mX4_readNumber_b156
            unfold mX4_readNumber_b157
            exact po_ret ⟨rfl, hW4, trivial⟩
          · refine po_bind ex8 ?_
            refine po_lt rfl rfl (fun q10 => ?_) (fun q10 => ?_)
            · unfold mX4_readNumber_b156
              unfold mX4_readNumber_b157
              exact po_ret ⟨rfl, hW4, trivial⟩
            · unfold mX4_readNumber_b157
              exact po_ret ⟨rfl, hW4, trivial⟩
    · refine po_bind ex1 ?_
      refine po_some ?_
      refine po_ck (wt_isO hW hi1 (by decide)) ?_
      refine po_ro (tX5_get hW hi1) (fun y11 ex11 p11 => ?_)
      dsimp only
      refine po_lt rfl kt_48 (fun q12 => ?_) (fun q12 => ?_)
      · unfold mX4_readNumber_b116
        have e14 : (v3 + v4).toInt = v3.toInt + v4.toInt := i_add rfl rfl (by omega)
        refine po_pI hW h0 rfl rfl (vv_i (by decide) (vi8 (by omega))) (fun g13 hW13 ex13 => ?_)
        refine po_lt rfl kt_1 (fun q15 => ?_) (fun q15 => ?_)
        · unfold mX4_readNumber_b156
          unfold mX4_readNumber_b157
          exact po_ret ⟨rfl, hW13, trivial⟩
        · refine po_lt kt_2 rfl (fun q16 => ?_) (fun q16 => ?_)
          · unfold mX4_readNumber_b156
            unfold mX4_readNumber_b157
            exact po_ret ⟨rfl, hW13, trivial⟩
          · refine po_gI hW13 h0 rfl rfl (by decide) (fun x17x ex17 (_ : True) => ?_)
            refine po_lt rfl rfl (fun q18 => ?_) (fun q18 => ?_)
            · unfold mX4_readNumber_b156
              unfold mX4_readNumber_b157
              exact po_ret ⟨rfl, hW13, trivial⟩
            · refine po_bind ex17 ?_
              refine po_lt rfl rfl (fun q19 => ?_) (fun q19 => ?_)
              · unfold mX4_readNumber_b156
                unfold mX4_readNumber_b157
                exact po_ret ⟨rfl, hW13, trivial⟩
              · unfold mX4_readNumber_b157
                exact po_ret ⟨rfl, hW13, trivial⟩
      · refine po_bind ex1 ?_
        refine po_some ?_
        refine po_ck (wt_isO hW hi1 (by decide)) ?_
        refine po_bind ex11 ?_
        dsimp only
        refine po_lt kt_57 rfl (fun q20 => ?_) (fun q20 => ?_)
        · unfold mX4_readNumber_b116
          have e22 : (v3 + v4).toInt = v3.toInt + v4.toInt := i_add rfl rfl (by omega)
          refine po_pI hW h0 rfl rfl (vv_i (by decide) (vi8 (by omega))) (fun g21 hW21 ex21 => ?_)
          refine po_lt rfl kt_1 (fun q23 => ?_) (fun q23 => ?_)
          · unfold mX4_readNumber_b156
            unfold mX4_readNumber_b157
            exact po_ret ⟨rfl, hW21, trivial⟩
          · refine po_lt kt_2 rfl (fun q24 => ?_) (fun q24 => ?_)
            · unfold mX4_readNumber_b156
              unfold mX4_readNumber_b157
              exact po_ret ⟨rfl, hW21, trivial⟩
            · refine po_gI hW21 h0 rfl rfl (by decide) (fun x25x ex25 (_ : True) => ?_)
              refine po_lt rfl rfl (fun q26 => ?_) (fun q26 => ?_)
              · unfold mX4_readNumber_b156
                unfold mX4_readNumber_b157
                exact po_ret ⟨rfl, hW21, trivial⟩
              · refine po_bind ex25 ?_
                refine po_lt rfl rfl (fun q27 => ?_) (fun q27 => ?_)
                · unfold mX4_readNumber_b156
                  unfold mX4_readNumber_b157
                  exact po_ret ⟨rfl, hW21, trivial⟩
                · unfold mX4_readNumber_b157
                  exact po_ret ⟨rfl, hW21, trivial⟩
        · have e29 : (v4 + (1 : Int32)).toInt = v4.toInt + 1 := i_add rfl kt_1 (by omega)
          refine po_le rfl kt_2 (fun q28 => ?_) (fun q28 => ?_)
          · refine po_gI hW h0 rfl rfl (by decide) (fun x30x ex30 (_ : True) => ?_)
            refine po_bind ex1 ?_
            refine po_some ?_
            refine po_ck (wt_isO hW hi1 (by decide)) ?_
            refine po_bind ex11 ?_
            dsimp only
            unfold mX4_readNumber_b107
            refine po_pI hW h0 rfl rfl (vv_i (by decide) trivial) (fun g31 hW31 ex31 => ?_)
            have e32 : (v5 + (1 : Int32)).toInt = v5.toInt + 1 := i_add rfl kt_1 (by omega)
            exact (ih v0 v1 v2 v3 (v4 + (1 : Int32)) (v5 + (1 : Int32)) g31 hW31 h0 (by omega) (by omega) (by omega) (by omega) (by omega))
          · refine po_gI hW h0 rfl rfl (by decide) (fun x33x ex33 (_ : True) => ?_)
            unfold mX4_readNumber_b107
            refine po_pI hW h0 rfl rfl (vv_i (by decide) trivial) (fun g34 hW34 ex34 => ?_)
            have e35 : (v5 + (1 : Int32)).toInt = v5.toInt + 1 := i_add rfl kt_1 (by omega)
            exact (ih v0 v1 v2 v3 (v4 + (1 : Int32)) (v5 + (1 : Int32)) g34 hW34 h0 (by omega) (by omega) (by omega) (by omega) (by omega))
set_option maxHeartbeats 1000000 in
theorem tX4_readNumber {G : TE} {F0 : AH} {S : Int32} {f : AH} {n : Nat} {v0 : Nat} {v1 : Int32} {v2 : Int32} (hW : WT G F0 S f n) (h0 : G.1 v0 = 4) : PO (mX4_readNumber v0 v1 v2 f n) (fun v f' n' => n' = n ∧ WT G F0 S f' n ∧ (True)) := by
  have k_kt_0 := kt_0
  unfold mX4_readNumber
  refine po_gRn (t := 5) hW h0 rfl rfl (by decide) (fun i1 ex1 hi1 => ?_)
  refine po_gI hW h0 rfl rfl (by decide) (fun x2x ex2 (hx2 : 0 ≤ x2x.toInt ∧ x2x.toInt ≤ 2000) => ?_)
  refine po_bind ex1 ?_
  refine po_some ?_
  refine po_ck (wt_isO hW hi1 (by decide)) ?_
  refine po_ro (tX5_size hW hi1) (fun y3 ex3 p3 => ?_)
  dsimp only
  refine po_some ?_
  refine po_ck (wt_isO hW hi1 (by decide)) ?_
  refine po_ro (tX5_behindBlanks hW hi1 (by omega) (by omega)) (fun y4 ex4 p4 => ?_)
  dsimp only
  refine po_pI hW h0 rfl rfl (vv_i (by decide) trivial) (fun g5 hW5 ex5 => ?_)
  exact (tX4_readNumber_l30 rFU v0 v1 v2 y4 (0 : Int32) y4 g5 hW5 h0 (by omega) (by omega) (by omega) (by omega) (by unfold rFU; omega))
set_option maxHeartbeats 1000000 in
theorem tX4_readFirst {G : TE} {F0 : AH} {S : Int32} {f : AH} {n : Nat} {v0 : Nat} {v1 : Int32} {v2 : Int32} (hW : WT G F0 S f n) (h0 : G.1 v0 = 4) : PO (mX4_readFirst v0 v1 v2 f n) (fun v f' n' => n' = n ∧ WT G F0 S f' n ∧ (True)) := by
  unfold mX4_readFirst
  refine po_ck (wt_isO hW h0 (by decide)) ?_
  refine po_w (tX4_readNumber hW h0) (fun y1 g1 hW1 p1 => ?_)
  dsimp only
  refine po_gI hW1 h0 rfl rfl (by decide) (fun x2x ex2 (_ : True) => ?_)
  refine po_pI hW1 h0 rfl rfl (vv_i (by decide) trivial) (fun g3 hW3 ex3 => ?_)
  exact po_ret ⟨rfl, hW3, trivial⟩
set_option maxHeartbeats 1000000 in
theorem tX4_readSecond {G : TE} {F0 : AH} {S : Int32} {f : AH} {n : Nat} {v0 : Nat} (hW : WT G F0 S f n) (h0 : G.1 v0 = 4) : PO (mX4_readSecond v0 f n) (fun v f' n' => n' = n ∧ WT G F0 S f' n ∧ (True)) := by
  unfold mX4_readSecond
  refine po_ck (wt_isO hW h0 (by decide)) ?_
  refine po_w (tX4_readNumber hW h0) (fun y1 g1 hW1 p1 => ?_)
  dsimp only
  refine po_gI hW1 h0 rfl rfl (by decide) (fun x2x ex2 (_ : True) => ?_)
  refine po_pI hW1 h0 rfl rfl (vv_i (by decide) trivial) (fun g3 hW3 ex3 => ?_)
  exact po_ret ⟨rfl, hW3, trivial⟩
set_option maxHeartbeats 1000000 in
theorem tX4_readWord {G : TE} {F0 : AH} {S : Int32} {f : AH} {n : Nat} {v0 : Nat} (hW : WT G F0 S f n) (h0 : G.1 v0 = 4) : PO (mX4_readWord v0 f n) (fun v f' n' => ∃ G', EXT G G' ∧ WT G' F0 S f' n' ∧ (True)) := by
  unfold mX4_readWord
  refine po_gRn (t := 5) hW h0 rfl rfl (by decide) (fun i1 ex1 hi1 => ?_)
  refine po_gI hW h0 rfl rfl (by decide) (fun x2x ex2 (hx2 : 0 ≤ x2x.toInt ∧ x2x.toInt ≤ 2000) => ?_)
  refine po_bind ex1 ?_
  refine po_some ?_
  refine po_ck (wt_isO hW hi1 (by decide)) ?_
  refine po_ro (tX5_size hW hi1) (fun y3 ex3 p3 => ?_)
  dsimp only
  refine po_some ?_
  refine po_ck (wt_isO hW hi1 (by decide)) ?_
  refine po_ro (tX5_behindBlanks hW hi1 (by omega) (by omega)) (fun y4 ex4 p4 => ?_)
  dsimp only
  refine po_pI hW h0 rfl rfl (vv_i (by decide) (vi8 (by omega))) (fun g5 hW5 ex5 => ?_)
  refine po_ck (wt_isO hW5 h0 (by decide)) ?_
  refine po_ro (tX4_lettersEnd hW5 h0) (fun y6 ex6 p6 => ?_)
  dsimp only
  refine po_pI hW5 h0 rfl rfl (vv_i (by decide) (vi8 (by omega))) (fun g7 hW7 ex7 => ?_)
  refine po_bind ex7 ?_
  have e9 : (y6 - y4).toInt = y6.toInt - y4.toInt := i_sub rfl rfl (by omega)
  refine po_lt rfl kt_1 (fun q8 => ?_) (fun q8 => ?_)
  · unfold mX4_readWord_b50
    exact po_ret ⟨_, EXT.rfl, hW7, trivial⟩
  · refine po_le rfl kt_8 (fun q10 => ?_) (fun q10 => ?_)
    · refine po_gRn (t := 5) hW7 h0 rfl rfl (by decide) (fun i11 ex11 hi11 => ?_)
      refine po_some ?_
      refine po_ck (wt_isO hW7 hi11 (by decide)) ?_
      refine po_a (tX5_part (B := 8) hW7 hi11 (by omega)) (fun y12 g12 n12 G12 xt12 hW12 p12 => ?_)
      dsimp only
      obtain ⟨i12, rfl, hi12⟩ := p12
      refine po_some ?_
      refine po_pO hW12 (xt12.ty h0 (by decide)) rfl rfl (vv_o (t := 5) (by decide) (fun _ hi => Option.some.inj hi ▸ hi12)) (fun g13 hW13 => ?_)
      exact po_ret ⟨_, xt12, hW13, trivial⟩
    · unfold mX4_readWord_b50
      exact po_ret ⟨_, EXT.rfl, hW7, trivial⟩
set_option maxHeartbeats 1000000 in
theorem tX4_readAct {G : TE} {F0 : AH} {S : Int32} {f : AH} {n : Nat} {v0 : Nat} (hW : WT G F0 S f n) (h0 : G.1 v0 = 4) : PO (mX4_readAct v0 f n) (fun v f' n' => ∃ G', EXT G G' ∧ WT G' F0 S f' n' ∧ (True)) := by
  unfold mX4_readAct
  refine po_gI hW h0 rfl rfl (by decide) (fun x1x ex1 (hx1 : 0 ≤ x1x.toInt ∧ x1x.toInt ≤ 2000) => ?_)
  refine po_ck (wt_isO hW h0 (by decide)) ?_
  refine po_ro (tX4_lettersEnd hW h0) (fun y2 ex2 p2 => ?_)
  dsimp only
  refine po_pI hW h0 rfl rfl (vv_i (by decide) (vi8 (by omega))) (fun g3 hW3 ex3 => ?_)
  refine po_bind ex3 ?_
  refine po_ck (wt_isO hW3 h0 (by decide)) ?_
  have e4 : (y2 - x1x).toInt = y2.toInt - x1x.toInt := i_sub rfl rfl (by omega)
  refine po_ro (tX4_actNamed hW3 h0) (fun y5 ex5 p5 => ?_)
  dsimp only
  refine po_pI hW3 h0 rfl rfl (vv_i (by decide) trivial) (fun g6 hW6 ex6 => ?_)
  refine po_bind ex6 ?_
  refine po_eq (fun q7 => ?_) (fun q7 => ?_)
  · exact po_ret ⟨_, EXT.rfl, hW6, trivial⟩
  · refine po_eq (fun q8 => ?_) (fun q8 => ?_)
    · unfold mX4_readAct_b98
      refine po_ck (wt_isO hW6 h0 (by decide)) ?_
      refine po_w (tX4_readFirst hW6 h0) (fun y9 g9 hW9 p9 => ?_)
      dsimp only
      exact po_ret ⟨_, EXT.rfl, hW9, trivial⟩
    · refine po_eq (fun q10 => ?_) (fun q10 => ?_)
      · unfold mX4_readAct_b98
        refine po_ck (wt_isO hW6 h0 (by decide)) ?_
        refine po_w (tX4_readFirst hW6 h0) (fun y11 g11 hW11 p11 => ?_)
        dsimp only
        exact po_ret ⟨_, EXT.rfl, hW11, trivial⟩
      · refine po_eq (fun q12 => ?_) (fun q12 => ?_)
        · unfold mX4_readAct_b148
          exact po_ret ⟨_, EXT.rfl, hW6, trivial⟩
        · refine po_eq (fun q13 => ?_) (fun q13 => ?_)
          · unfold mX4_readAct_b148
            exact po_ret ⟨_, EXT.rfl, hW6, trivial⟩
          · refine po_eq (fun q14 => ?_) (fun q14 => ?_)
            · unfold mX4_readAct_b148
              exact po_ret ⟨_, EXT.rfl, hW6, trivial⟩
            · refine po_eq (fun q15 => ?_) (fun q15 => ?_)
              · refine po_ck (wt_isO hW6 h0 (by decide)) ?_
                refine po_w (tX4_readFirst hW6 h0) (fun y16 g16 hW16 p16 => ?_)
                dsimp only
                exact po_ret ⟨_, EXT.rfl, hW16, trivial⟩
              · refine po_eq (fun q17 => ?_) (fun q17 => ?_)
                · refine po_ck (wt_isO hW6 h0 (by decide)) ?_
                  refine po_a (tX4_readWord hW6 h0) (fun y18 g18 n18 G18 xt18 hW18 p18 => ?_)
                  dsimp only
                  exact po_ret ⟨_, xt18, hW18, trivial⟩
                · refine po_eq (fun q19 => ?_) (fun q19 => ?_)
                  · unfold mX4_readAct_b148
                    exact po_ret ⟨_, EXT.rfl, hW6, trivial⟩
                  · refine po_eq (fun q20 => ?_) (fun q20 => ?_)
                    · unfold mX4_readAct_b113
                      refine po_ck (wt_isO hW6 h0 (by decide)) ?_
                      refine po_w (tX4_readFirst hW6 h0) (fun y21 g21 hW21 p21 => ?_)
                      dsimp only
                      exact po_ret ⟨_, EXT.rfl, hW21, trivial⟩
                    · refine po_eq (fun q22 => ?_) (fun q22 => ?_)
                      · unfold mX4_readAct_b113
                        refine po_ck (wt_isO hW6 h0 (by decide)) ?_
                        refine po_w (tX4_readFirst hW6 h0) (fun y23 g23 hW23 p23 => ?_)
                        dsimp only
                        exact po_ret ⟨_, EXT.rfl, hW23, trivial⟩
                      · refine po_eq (fun q24 => ?_) (fun q24 => ?_)
                        · refine po_ck (wt_isO hW6 h0 (by decide)) ?_
                          refine po_w (tX4_readFirst hW6 h0) (fun y25 g25 hW25 p25 => ?_)
                          dsimp only
                          refine po_eq (fun q26 => ?_) (fun q26 => ?_)
                          · refine po_ck (wt_isO hW25 h0 (by decide)) ?_
                            refine po_w (tX4_readSecond hW25 h0) (fun y27 g27 hW27 p27 => ?_)
                            dsimp only
                            unfold mX4_readAct_b142
                            exact po_ret ⟨_, EXT.rfl, hW27, trivial⟩
                          · unfold mX4_readAct_b142
                            exact po_ret ⟨_, EXT.rfl, hW25, trivial⟩
                        · unfold mX4_readAct_b148
                          exact po_ret ⟨_, EXT.rfl, hW6, trivial⟩
set_option maxHeartbeats 1000000 in
theorem tX4_readBehindAct {G : TE} {F0 : AH} {S : Int32} {f : AH} {n : Nat} {v0 : Nat} (hW : WT G F0 S f n) (h0 : G.1 v0 = 4) : PO (mX4_readBehindAct v0 f n) (fun v f' n' => n' = n ∧ WT G F0 S f' n ∧ (True)) := by
  unfold mX4_readBehindAct
  refine po_gRn (t := 5) hW h0 rfl rfl (by decide) (fun i1 ex1 hi1 => ?_)
  refine po_gI hW h0 rfl rfl (by decide) (fun x2x ex2 (hx2 : 0 ≤ x2x.toInt ∧ x2x.toInt ≤ 2000) => ?_)
  refine po_bind ex1 ?_
  refine po_some ?_
  refine po_ck (wt_isO hW hi1 (by decide)) ?_
  refine po_ro (tX5_size hW hi1) (fun y3 ex3 p3 => ?_)
  dsimp only
  refine po_some ?_
  refine po_ck (wt_isO hW hi1 (by decide)) ?_
  refine po_ro (tX5_behindBlanks hW hi1 (by omega) (by omega)) (fun y4 ex4 p4 => ?_)
  dsimp only
  refine po_pI hW h0 rfl rfl (vv_i (by decide) (vi8 (by omega))) (fun g5 hW5 ex5 => ?_)
  refine po_bind ex5 ?_
  refine po_gRn (t := 5) hW5 h0 rfl rfl (by decide) (fun i6 ex6 hi6 => ?_)
  refine po_some ?_
  refine po_ck (wt_isO hW5 hi6 (by decide)) ?_
  refine po_ro (tX5_size hW5 hi6) (fun y7 ex7 p7 => ?_)
  dsimp only
  refine po_le rfl rfl (fun q8 => ?_) (fun q8 => ?_)
  · unfold mX4_readBehindAct_b42
    refine po_ck (nb_of (Or.inl rfl)) ?_
    refine po_pI hW5 h0 rfl rfl (vv_i (by decide) (Or.inl rfl)) (fun g9 hW9 ex9 => ?_)
    refine po_bind ex9 ?_
    refine po_eq (fun q10 => ?_) (fun q10 => ?_)
    · unfold mX4_readBehindAct_b73
      refine po_gRn (t := 5) hW9 h0 rfl rfl (by decide) (fun i11 ex11 hi11 => ?_)
      refine po_gI hW9 h0 rfl rfl (by decide) (fun x12x ex12 (hx12 : 0 ≤ x12x.toInt ∧ x12x.toInt ≤ 2000) => ?_)
      refine po_bind ex11 ?_
      refine po_some ?_
      refine po_ck (wt_isO hW9 hi11 (by decide)) ?_
      refine po_ro (tX5_size hW9 hi11) (fun y13 ex13 p13 => ?_)
      dsimp only
      refine po_some ?_
      refine po_ck (wt_isO hW9 hi11 (by decide)) ?_
      have e14 : (x12x + (1 : Int32)).toInt = x12x.toInt + 1 := i_add rfl kt_1 (by omega)
      refine po_ro (tX5_behindBlanks hW9 hi11 (by omega) (by omega)) (fun y15 ex15 p15 => ?_)
      dsimp only
      refine po_pI hW9 h0 rfl rfl (vv_i (by decide) (vi8 (by omega))) (fun g16 hW16 ex16 => ?_)
      exact po_ret ⟨rfl, hW16, trivial⟩
    · refine po_gRn (t := 5) hW9 h0 rfl rfl (by decide) (fun i17 ex17 hi17 => ?_)
      refine po_gI hW9 h0 rfl rfl (by decide) (fun x18x ex18 (hx18 : 0 ≤ x18x.toInt ∧ x18x.toInt ≤ 2000) => ?_)
      refine po_some ?_
      refine po_ck (wt_isO hW9 hi17 (by decide)) ?_
      refine po_ro (tX5_get hW9 hi17) (fun y19 ex19 p19 => ?_)
      dsimp only
      refine po_eq (fun q20 => ?_) (fun q20 => ?_)
      · unfold mX4_readBehindAct_b73
        refine po_bind ex17 ?_
        refine po_bind ex18 ?_
        refine po_bind ex17 ?_
        refine po_some ?_
        refine po_ck (wt_isO hW9 hi17 (by decide)) ?_
        refine po_ro (tX5_size hW9 hi17) (fun y21 ex21 p21 => ?_)
        dsimp only
        refine po_some ?_
        refine po_ck (wt_isO hW9 hi17 (by decide)) ?_
        have e22 : (x18x + (1 : Int32)).toInt = x18x.toInt + 1 := i_add rfl kt_1 (by omega)
        refine po_ro (tX5_behindBlanks hW9 hi17 (by omega) (by omega)) (fun y23 ex23 p23 => ?_)
        dsimp only
        refine po_pI hW9 h0 rfl rfl (vv_i (by decide) (vi8 (by omega))) (fun g24 hW24 ex24 => ?_)
        exact po_ret ⟨rfl, hW24, trivial⟩
      · refine po_bind ex18 ?_
        exact po_ret ⟨rfl, hW9, trivial⟩
  · unfold mX4_readBehindAct_b42
    refine po_ck (nb_of (Or.inr rfl)) ?_
    refine po_pI hW5 h0 rfl rfl (vv_i (by decide) (Or.inr rfl)) (fun g25 hW25 ex25 => ?_)
    refine po_bind ex25 ?_
    refine po_eq (fun q26 => ?_) (fun q26 => ?_)
    · unfold mX4_readBehindAct_b73
      refine po_gRn (t := 5) hW25 h0 rfl rfl (by decide) (fun i27 ex27 hi27 => ?_)
      refine po_gI hW25 h0 rfl rfl (by decide) (fun x28x ex28 (hx28 : 0 ≤ x28x.toInt ∧ x28x.toInt ≤ 2000) => ?_)
      refine po_bind ex27 ?_
      refine po_some ?_
      refine po_ck (wt_isO hW25 hi27 (by decide)) ?_
      refine po_ro (tX5_size hW25 hi27) (fun y29 ex29 p29 => ?_)
      dsimp only
      refine po_some ?_
      refine po_ck (wt_isO hW25 hi27 (by decide)) ?_
      have e30 : (x28x + (1 : Int32)).toInt = x28x.toInt + 1 := i_add rfl kt_1 (by omega)
      refine po_ro (tX5_behindBlanks hW25 hi27 (by omega) (by omega)) (fun y31 ex31 p31 => ?_)
      dsimp only
      refine po_pI hW25 h0 rfl rfl (vv_i (by decide) (vi8 (by omega))) (fun g32 hW32 ex32 => ?_)
      exact po_ret ⟨rfl, hW32, trivial⟩
    · refine po_gRn (t := 5) hW25 h0 rfl rfl (by decide) (fun i33 ex33 hi33 => ?_)
      refine po_gI hW25 h0 rfl rfl (by decide) (fun x34x ex34 (hx34 : 0 ≤ x34x.toInt ∧ x34x.toInt ≤ 2000) => ?_)
      refine po_some ?_
      refine po_ck (wt_isO hW25 hi33 (by decide)) ?_
      refine po_ro (tX5_get hW25 hi33) (fun y35 ex35 p35 => ?_)
      dsimp only
      refine po_eq (fun q36 => ?_) (fun q36 => ?_)
      · unfold mX4_readBehindAct_b73
        refine po_bind ex33 ?_
        refine po_bind ex34 ?_
        refine po_bind ex33 ?_
        refine po_some ?_
        refine po_ck (wt_isO hW25 hi33 (by decide)) ?_
        refine po_ro (tX5_size hW25 hi33) (fun y37 ex37 p37 => ?_)
        dsimp only
        refine po_some ?_
        refine po_ck (wt_isO hW25 hi33 (by decide)) ?_
        have e38 : (x34x + (1 : Int32)).toInt = x34x.toInt + 1 := i_add rfl kt_1 (by omega)
        refine po_ro (tX5_behindBlanks hW25 hi33 (by omega) (by omega)) (fun y39 ex39 p39 => ?_)
        dsimp only
        refine po_pI hW25 h0 rfl rfl (vv_i (by decide) (vi8 (by omega))) (fun g40 hW40 ex40 => ?_)
        exact po_ret ⟨rfl, hW40, trivial⟩
      · refine po_bind ex34 ?_
        exact po_ret ⟨rfl, hW25, trivial⟩
set_option maxHeartbeats 1000000 in
theorem tX8_acts_l28 {F0 : AH} {S : Int32} : ∀ (d : Nat) (G : TE) (v0 : Nat) (v1 : Int32) (v2 : Int32) (v3 : Int32) (f : AH) (n : Nat), WT G F0 S f n → G.1 v0 = 8 → (0 ≤ v3.toInt ∧ v3.toInt ≤ 15) → 16 - v3.toInt < (d : Int) → PO (mX8_acts_l28 d v0 v1 v2 v3 f n) (fun v f' n' => ∃ G', EXT G G' ∧ WT G' F0 0 f' n' ∧ ((∀ E : String, v = .inr E → E = eA) ∧ (∀ y, v = .inl y → True))) := by
  intro d
  induction d with
  | zero =>
    intro G v0 v1 v2 v3 f n hW h0 h1  hm
    exfalso
    omega
  | succ d ih =>
    intro G v0 v1 v2 v3 f n hW h0 h1  hm
    have hT : G.1 1 = 5 := hW.2.2.2.2.2
    show PO (if (14 : Int32) < v3 then mX8_acts_b150 v0 v1 v2 f n else ((gR f v0 8 8).bind fun x1 => ((x1).bind fun j2 => ((gI f j2 4 0).bind fun x3 => (if x3 = (0 : Int32) then mX8_acts_b150 v0 v1 v2 f n else (if v2 = (-1 : Int32) then ((gR f v0 8 8).bind fun x4 => ((x4).bind fun j5 => ((gI f j5 4 1).bind fun x6 => (if (14 : Int32) ≤ v3 then mX8_acts_b76 (fun v0 v1 v2 v3 f n => mX8_acts_l28 d v0 v1 v2 v3 f n) v0 v1 v3 x6 x6 f n else ((gR f v0 8 8).bind fun x7 => ((x7).bind fun j8 => rCk (isO f j8 4) (((mX4_readAct j8 f n).bind fun r10 => mX8_acts_b76 (fun v0 v1 v2 v3 f n => mX8_acts_l28 d v0 v1 v2 v3 f n) v0 v1 v3 x6 r10.1 r10.2.1 r10.2.2)))))))) else mX8_acts_b150 v0 v1 v2 f n)))))) _
    refine po_lt kt_14 rfl (fun q1 => ?_) (fun q1 => ?_)
    · unfold mX8_acts_b150
      refine po_gR1 hW h0 (fun ex2 => ?_)
      refine po_some ?_
      refine po_ck (wt_isO hW hT (by decide)) ?_
      refine po_w (tape0 hW hT) (fun y3 g3 hW3 p3 => ?_)
      dsimp only
      refine po_pI hW3 h0 rfl rfl (vv_i (by decide) trivial) (fun g4 hW4 ex4 => ?_)
      refine po_eq (fun q5 => ?_) (fun q5 => ?_)
      · refine po_le rfl kt_0 (fun q6 => ?_) (fun q6 => ?_)
        · refine po_gI hW4 h0 rfl rfl (by decide) (fun x7x ex7 (_ : True) => ?_)
          unfold mX8_acts_b199
          refine po_pI hW4 h0 rfl rfl (vv_i (by decide) trivial) (fun g8 hW8 ex8 => ?_)
          refine po_pI hW8 h0 rfl rfl (vv_i (by decide) trivial) (fun g9 hW9 ex9 => ?_)
          exact po_ret ⟨_, EXT.rfl, hW9, ⟨fun E hE => (by cases hE), fun y hy => by cases hy; exact trivial⟩⟩
        · unfold mX8_acts_b199
          refine po_pI hW4 h0 rfl rfl (vv_i (by decide) trivial) (fun g10 hW10 ex10 => ?_)
          refine po_pI hW10 h0 rfl rfl (vv_i (by decide) trivial) (fun g11 hW11 ex11 => ?_)
          exact po_ret ⟨_, EXT.rfl, hW11, ⟨fun E hE => (by cases hE), fun y hy => by cases hy; exact trivial⟩⟩
      · refine po_gRn (t := 7) hW4 h0 rfl rfl (by decide) (fun i12 ex12 hi12 => ?_)
        refine po_ck (wt_isO hW4 h0 (by decide)) ?_
        refine po_w (tX8_restore hW4 h0 ⟨_, rfl, hi12⟩) (fun y13 g13 hW13 p13 => ?_)
        dsimp only
        exact po_ret ⟨_, EXT.rfl, hW13, ⟨fun E hE => by cases hE; first | exact rfl | exact Or.inl rfl | exact Or.inr rfl, fun y hy => (by cases hy)⟩⟩
    · refine po_gRn (t := 4) hW h0 rfl rfl (by decide) (fun i14 ex14 hi14 => ?_)
      refine po_some ?_
      refine po_gI hW hi14 rfl rfl (by decide) (fun x15x ex15 (hx15 : x15x = 0 ∨ x15x = 1) => ?_)
      refine po_eq (fun q16 => ?_) (fun q16 => ?_)
      · unfold mX8_acts_b150
        refine po_gR1 hW h0 (fun ex17 => ?_)
        refine po_some ?_
        refine po_ck (wt_isO hW hT (by decide)) ?_
        refine po_w (tape0 hW hT) (fun y18 g18 hW18 p18 => ?_)
        dsimp only
        refine po_pI hW18 h0 rfl rfl (vv_i (by decide) trivial) (fun g19 hW19 ex19 => ?_)
        refine po_eq (fun q20 => ?_) (fun q20 => ?_)
        · refine po_le rfl kt_0 (fun q21 => ?_) (fun q21 => ?_)
          · refine po_gI hW19 h0 rfl rfl (by decide) (fun x22x ex22 (_ : True) => ?_)
            unfold mX8_acts_b199
            refine po_pI hW19 h0 rfl rfl (vv_i (by decide) trivial) (fun g23 hW23 ex23 => ?_)
            refine po_pI hW23 h0 rfl rfl (vv_i (by decide) trivial) (fun g24 hW24 ex24 => ?_)
            exact po_ret ⟨_, EXT.rfl, hW24, ⟨fun E hE => (by cases hE), fun y hy => by cases hy; exact trivial⟩⟩
          · unfold mX8_acts_b199
            refine po_pI hW19 h0 rfl rfl (vv_i (by decide) trivial) (fun g25 hW25 ex25 => ?_)
            refine po_pI hW25 h0 rfl rfl (vv_i (by decide) trivial) (fun g26 hW26 ex26 => ?_)
            exact po_ret ⟨_, EXT.rfl, hW26, ⟨fun E hE => (by cases hE), fun y hy => by cases hy; exact trivial⟩⟩
        · refine po_gRn (t := 7) hW19 h0 rfl rfl (by decide) (fun i27 ex27 hi27 => ?_)
          refine po_ck (wt_isO hW19 h0 (by decide)) ?_
          refine po_w (tX8_restore hW19 h0 ⟨_, rfl, hi27⟩) (fun y28 g28 hW28 p28 => ?_)
          dsimp only
          exact po_ret ⟨_, EXT.rfl, hW28, ⟨fun E hE => by cases hE; first | exact rfl | exact Or.inl rfl | exact Or.inr rfl, fun y hy => (by cases hy)⟩⟩
      · refine po_eq (fun q29 => ?_) (fun q29 => ?_)
        · refine po_bind ex14 ?_
          refine po_some ?_
          refine po_gI hW hi14 rfl rfl (by decide) (fun x30x ex30 (hx30 : 0 ≤ x30x.toInt ∧ x30x.toInt ≤ 2000) => ?_)
          refine po_le kt_14 rfl (fun q31 => ?_) (fun q31 => ?_)
          · unfold mX8_acts_b76
            refine po_eq (fun q32 => ?_) (fun q32 => ?_)
            · refine po_bind ex14 ?_
              refine po_some ?_
              refine po_gI hW hi14 rfl rfl (by decide) (fun x33x ex33 (_ : True) => ?_)
              refine po_bind ex14 ?_
              refine po_some ?_
              refine po_gI hW hi14 rfl rfl (by decide) (fun x34x ex34 (_ : True) => ?_)
              refine po_bind ex14 ?_
              refine po_some ?_
              refine po_gI hW hi14 rfl rfl (by decide) (fun x35x ex35 (_ : True) => ?_)
              refine po_bind ex14 ?_
              refine po_some ?_
              refine po_gRo (t := 5) hW hi14 rfl rfl (by decide) (fun i36 ex36 hi36 => ?_)
              refine po_ck (wt_isO hW h0 (by decide)) ?_
              refine po_a (tX8_doAct hW h0 hi36) (fun y37 g37 n37 G37 xt37 hW37 p37 => ?_)
              dsimp only
              refine po_eq (fun q38 => ?_) (fun q38 => ?_)
              · refine po_gRn (t := 4) hW37 (xt37.ty h0 (by decide)) rfl rfl (by decide) (fun i39 ex39 hi39 => ?_)
                refine po_some ?_
                refine po_ck (wt_isO hW37 hi39 (by decide)) ?_
                refine po_w (tX4_readBehindAct hW37 hi39) (fun y40 g40 hW40 p40 => ?_)
                dsimp only
                unfold mX8_acts_b144
                have e41 : (v3 + (1 : Int32)).toInt = v3.toInt + 1 := i_add rfl kt_1 (by omega)
                refine po_tail (ih G37 v0 (v1 + (1 : Int32)) y40 (v3 + (1 : Int32)) g40 n37 hW40 (xt37.ty h0 (by decide)) (by omega)  (by omega)) (fun v f2 n2 q => ?_)
                obtain ⟨G9, x9, h9, p9⟩ := q
                exact ⟨G9, xt37.trans x9, h9, p9⟩
              · refine po_pI hW37 (xt37.ty h0 (by decide)) rfl rfl (vv_i (by decide) trivial) (fun g42 hW42 ex42 => ?_)
                unfold mX8_acts_b144
                have e43 : (v3 + (1 : Int32)).toInt = v3.toInt + 1 := i_add rfl kt_1 (by omega)
                refine po_tail (ih G37 v0 v1 x30x (v3 + (1 : Int32)) g42 n37 hW42 (xt37.ty h0 (by decide)) (by omega)  (by omega)) (fun v f2 n2 q => ?_)
                obtain ⟨G9, x9, h9, p9⟩ := q
                exact ⟨G9, xt37.trans x9, h9, p9⟩
            · unfold mX8_acts_b144
              have e44 : (v3 + (1 : Int32)).toInt = v3.toInt + 1 := i_add rfl kt_1 (by omega)
              exact (ih G v0 v1 x30x (v3 + (1 : Int32)) f n hW h0 (by omega)  (by omega))
          · refine po_bind ex14 ?_
            refine po_some ?_
            refine po_ck (wt_isO hW hi14 (by decide)) ?_
            refine po_a (tX4_readAct hW hi14) (fun y45 g45 n45 G45 xt45 hW45 p45 => ?_)
            dsimp only
            unfold mX8_acts_b76
            refine po_eq (fun q46 => ?_) (fun q46 => ?_)
            · refine po_gRn (t := 4) hW45 (xt45.ty h0 (by decide)) rfl rfl (by decide) (fun i47 ex47 hi47 => ?_)
              refine po_some ?_
              refine po_gI hW45 hi47 rfl rfl (by decide) (fun x48x ex48 (_ : True) => ?_)
              refine po_bind ex47 ?_
              refine po_some ?_
              refine po_gI hW45 hi47 rfl rfl (by decide) (fun x49x ex49 (_ : True) => ?_)
              refine po_bind ex47 ?_
              refine po_some ?_
              refine po_gI hW45 hi47 rfl rfl (by decide) (fun x50x ex50 (_ : True) => ?_)
              refine po_bind ex47 ?_
              refine po_some ?_
              refine po_gRo (t := 5) hW45 hi47 rfl rfl (by decide) (fun i51 ex51 hi51 => ?_)
              refine po_ck (wt_isO hW45 (xt45.ty h0 (by decide)) (by decide)) ?_
              refine po_a (tX8_doAct hW45 (xt45.ty h0 (by decide)) hi51) (fun y52 g52 n52 G52 xt52 hW52 p52 => ?_)
              dsimp only
              refine po_eq (fun q53 => ?_) (fun q53 => ?_)
              · refine po_gRn (t := 4) hW52 (xt52.ty (xt45.ty h0 (by decide)) (by decide)) rfl rfl (by decide) (fun i54 ex54 hi54 => ?_)
                refine po_some ?_
                refine po_ck (wt_isO hW52 hi54 (by decide)) ?_
                refine po_w (tX4_readBehindAct hW52 hi54) (fun y55 g55 hW55 p55 => ?_)
                dsimp only
                unfold mX8_acts_b144
                have e56 : (v3 + (1 : Int32)).toInt = v3.toInt + 1 := i_add rfl kt_1 (by omega)
                refine po_tail (ih G52 v0 (v1 + (1 : Int32)) y55 (v3 + (1 : Int32)) g55 n52 hW55 (xt52.ty (xt45.ty h0 (by decide)) (by decide)) (by omega)  (by omega)) (fun v f2 n2 q => ?_)
                obtain ⟨G9, x9, h9, p9⟩ := q
                exact ⟨G9, (xt45.trans xt52).trans x9, h9, p9⟩
              · refine po_pI hW52 (xt52.ty (xt45.ty h0 (by decide)) (by decide)) rfl rfl (vv_i (by decide) trivial) (fun g57 hW57 ex57 => ?_)
                unfold mX8_acts_b144
                have e58 : (v3 + (1 : Int32)).toInt = v3.toInt + 1 := i_add rfl kt_1 (by omega)
                refine po_tail (ih G52 v0 v1 x30x (v3 + (1 : Int32)) g57 n52 hW57 (xt52.ty (xt45.ty h0 (by decide)) (by decide)) (by omega)  (by omega)) (fun v f2 n2 q => ?_)
                obtain ⟨G9, x9, h9, p9⟩ := q
                exact ⟨G9, (xt45.trans xt52).trans x9, h9, p9⟩
            · unfold mX8_acts_b144
              have e59 : (v3 + (1 : Int32)).toInt = v3.toInt + 1 := i_add rfl kt_1 (by omega)
              refine po_tail (ih G45 v0 v1 y45 (v3 + (1 : Int32)) g45 n45 hW45 (xt45.ty h0 (by decide)) (by omega)  (by omega)) (fun v f2 n2 q => ?_)
              obtain ⟨G9, x9, h9, p9⟩ := q
              exact ⟨G9, xt45.trans x9, h9, p9⟩
        · unfold mX8_acts_b150
          refine po_gR1 hW h0 (fun ex60 => ?_)
          refine po_some ?_
          refine po_ck (wt_isO hW hT (by decide)) ?_
          refine po_w (tape0 hW hT) (fun y61 g61 hW61 p61 => ?_)
          dsimp only
          refine po_pI hW61 h0 rfl rfl (vv_i (by decide) trivial) (fun g62 hW62 ex62 => ?_)
          refine po_eq (fun q63 => ?_) (fun q63 => ?_)
          · refine po_le rfl kt_0 (fun q64 => ?_) (fun q64 => ?_)
            · refine po_gI hW62 h0 rfl rfl (by decide) (fun x65x ex65 (_ : True) => ?_)
              unfold mX8_acts_b199
              refine po_pI hW62 h0 rfl rfl (vv_i (by decide) trivial) (fun g66 hW66 ex66 => ?_)
              refine po_pI hW66 h0 rfl rfl (vv_i (by decide) trivial) (fun g67 hW67 ex67 => ?_)
              exact po_ret ⟨_, EXT.rfl, hW67, ⟨fun E hE => (by cases hE), fun y hy => by cases hy; exact trivial⟩⟩
            · unfold mX8_acts_b199
              refine po_pI hW62 h0 rfl rfl (vv_i (by decide) trivial) (fun g68 hW68 ex68 => ?_)
              refine po_pI hW68 h0 rfl rfl (vv_i (by decide) trivial) (fun g69 hW69 ex69 => ?_)
              exact po_ret ⟨_, EXT.rfl, hW69, ⟨fun E hE => (by cases hE), fun y hy => by cases hy; exact trivial⟩⟩
          · refine po_gRn (t := 7) hW62 h0 rfl rfl (by decide) (fun i70 ex70 hi70 => ?_)
            refine po_ck (wt_isO hW62 h0 (by decide)) ?_
            refine po_w (tX8_restore hW62 h0 ⟨_, rfl, hi70⟩) (fun y71 g71 hW71 p71 => ?_)
            dsimp only
            exact po_ret ⟨_, EXT.rfl, hW71, ⟨fun E hE => by cases hE; first | exact rfl | exact Or.inl rfl | exact Or.inr rfl, fun y hy => (by cases hy)⟩⟩
set_option maxHeartbeats 1000000 in
theorem tX8_acts {G : TE} {F0 : AH} {S : Int32} {f : AH} {n : Nat} {v0 : Nat} (hW : WT G F0 S f n) (h0 : G.1 v0 = 8) : PO (mX8_acts v0 f n) (fun v f' n' => ∃ G', EXT G G' ∧ WT G' F0 0 f' n' ∧ ((∀ E : String, v = .inr E → E = eA) ∧ (∀ y, v = .inl y → True))) := by
  have hT : G.1 1 = 5 := hW.2.2.2.2.2
  have k_kt_0 := kt_0
  unfold mX8_acts
  refine po_gRn (t := 7) hW h0 rfl rfl (by decide) (fun i1 ex1 hi1 => ?_)
  refine po_gRn (t := 7) hW h0 rfl rfl (by decide) (fun i2 ex2 hi2 => ?_)
  refine po_some ?_
  refine po_ck (wt_isO hW hi1 (by decide)) ?_
  refine po_w (tX7_copyFrom hW hi1 ⟨_, rfl, hi2⟩) (fun y3 g3 hW3 p3 => ?_)
  dsimp only
  refine po_gRn (t := 4) hW3 h0 rfl rfl (by decide) (fun i4 ex4 hi4 => ?_)
  refine po_gR1 hW3 h0 (fun ex5 => ?_)
  refine po_some ?_
  refine po_ck (wt_isO hW3 hi4 (by decide)) ?_
  refine po_w (tX4_start hW3 hi4 ⟨_, rfl, hT⟩) (fun y6 g6 hW6 p6 => ?_)
  dsimp only
  exact (tX8_acts_l28 17 G v0 (0 : Int32) (-1 : Int32) (0 : Int32) g6 n hW6 h0 (by omega)  (by omega))
set_option maxHeartbeats 1000000 in
theorem tX8_kind {G : TE} {F0 : AH} {S : Int32} {f : AH} {n : Nat} {v0 : Nat} {v1 : Int32} {v2 : Int32} (hW : WT G F0 S f n) (h0 : G.1 v0 = 8) : PO (mX8_kind v0 v1 v2 f n) (fun v f' n' => ∃ G', EXT G G' ∧ WT G' F0 S f' n' ∧ ((∀ E : String, v = .inr E → E = eA) ∧ (∀ y, v = .inl y → True))) := by
  unfold mX8_kind
  refine po_lt kt_3 rfl (fun q1 => ?_) (fun q1 => ?_)
  · unfold mX8_kind_b18
    exact po_ret ⟨_, EXT.rfl, hW, ⟨fun E hE => by cases hE; first | exact rfl | exact Or.inl rfl | exact Or.inr rfl, fun y hy => (by cases hy)⟩⟩
  · refine po_eq (fun q2 => ?_) (fun q2 => ?_)
    · unfold mX8_kind_b15
      refine po_le kt_0 rfl (fun q3 => ?_) (fun q3 => ?_)
      · refine po_gRn (t := 7) hW h0 rfl rfl (by decide) (fun i4 ex4 hi4 => ?_)
        refine po_gRn (t := 7) hW h0 rfl rfl (by decide) (fun i5 ex5 hi5 => ?_)
        refine po_some ?_
        refine po_ck (wt_isO hW hi4 (by decide)) ?_
        refine po_w (tX7_copyFrom hW hi4 ⟨_, rfl, hi5⟩) (fun y6 g6 hW6 p6 => ?_)
        dsimp only
        refine po_eq (fun q7 => ?_) (fun q7 => ?_)
        · unfold mX8_kind_b50
          refine po_ck (wt_isO hW6 h0 (by decide)) ?_
          refine po_a (tX8_doAct hW6 h0 (fun _ hi => nomatch hi)) (fun y8 g8 n8 G8 xt8 hW8 p8 => ?_)
          dsimp only
          refine po_ck (wt_isO hW8 (xt8.ty h0 (by decide)) (by decide)) ?_
          refine po_w (tX8_finishCall hW8 (xt8.ty h0 (by decide))) (fun y9 g9 hW9 p9 => ?_)
          dsimp only
          refine po_tS (fun z10 q11 => ?_) (fun E hE => ⟨_, xt8, hW9, ⟨fun E2 h2 => by cases h2; exact absurd (p8 (Or.inl ⟨by decide, by decide⟩)) (p9.1 E hE).2, fun y hy => (by cases hy)⟩⟩)
          refine po_gRn (t := 1) hW9 (xt8.ty h0 (by decide)) rfl rfl (by decide) (fun i12 ex12 hi12 => ?_)
          refine po_some ?_
          refine po_ck (wt_isO hW9 hi12 (by decide)) ?_
          refine po_ro (tX1_size hW9 hi12) (fun y13 ex13 p13 => ?_)
          dsimp only
          exact po_ret ⟨_, xt8, hW9, ⟨fun E hE => (by cases hE), fun y hy => by cases hy; exact trivial⟩⟩
        · unfold mX8_kind_b50
          refine po_ck (wt_isO hW6 h0 (by decide)) ?_
          refine po_a (tX8_doAct hW6 h0 (fun _ hi => nomatch hi)) (fun y14 g14 n14 G14 xt14 hW14 p14 => ?_)
          dsimp only
          refine po_ck (wt_isO hW14 (xt14.ty h0 (by decide)) (by decide)) ?_
          refine po_w (tX8_finishCall hW14 (xt14.ty h0 (by decide))) (fun y15 g15 hW15 p15 => ?_)
          dsimp only
          refine po_tS (fun z16 q17 => ?_) (fun E hE => ⟨_, xt14, hW15, ⟨fun E2 h2 => by cases h2; exact absurd (p14 (Or.inl ⟨by decide, by decide⟩)) (p15.1 E hE).2, fun y hy => (by cases hy)⟩⟩)
          refine po_gRn (t := 1) hW15 (xt14.ty h0 (by decide)) rfl rfl (by decide) (fun i18 ex18 hi18 => ?_)
          refine po_some ?_
          refine po_ck (wt_isO hW15 hi18 (by decide)) ?_
          refine po_ro (tX1_size hW15 hi18) (fun y19 ex19 p19 => ?_)
          dsimp only
          exact po_ret ⟨_, xt14, hW15, ⟨fun E hE => (by cases hE), fun y hy => by cases hy; exact trivial⟩⟩
      · unfold mX8_kind_b18
        exact po_ret ⟨_, EXT.rfl, hW, ⟨fun E hE => by cases hE; first | exact rfl | exact Or.inl rfl | exact Or.inr rfl, fun y hy => (by cases hy)⟩⟩
    · unfold mX8_kind_b15
      refine po_le kt_m1 rfl (fun q20 => ?_) (fun q20 => ?_)
      · refine po_gRn (t := 7) hW h0 rfl rfl (by decide) (fun i21 ex21 hi21 => ?_)
        refine po_gRn (t := 7) hW h0 rfl rfl (by decide) (fun i22 ex22 hi22 => ?_)
        refine po_some ?_
        refine po_ck (wt_isO hW hi21 (by decide)) ?_
        refine po_w (tX7_copyFrom hW hi21 ⟨_, rfl, hi22⟩) (fun y23 g23 hW23 p23 => ?_)
        dsimp only
        refine po_eq (fun q24 => ?_) (fun q24 => ?_)
        · unfold mX8_kind_b50
          refine po_ck (wt_isO hW23 h0 (by decide)) ?_
          refine po_a (tX8_doAct hW23 h0 (fun _ hi => nomatch hi)) (fun y25 g25 n25 G25 xt25 hW25 p25 => ?_)
          dsimp only
          refine po_ck (wt_isO hW25 (xt25.ty h0 (by decide)) (by decide)) ?_
          refine po_w (tX8_finishCall hW25 (xt25.ty h0 (by decide))) (fun y26 g26 hW26 p26 => ?_)
          dsimp only
          refine po_tS (fun z27 q28 => ?_) (fun E hE => ⟨_, xt25, hW26, ⟨fun E2 h2 => by cases h2; exact absurd (p25 (Or.inl ⟨by decide, by decide⟩)) (p26.1 E hE).2, fun y hy => (by cases hy)⟩⟩)
          refine po_gRn (t := 1) hW26 (xt25.ty h0 (by decide)) rfl rfl (by decide) (fun i29 ex29 hi29 => ?_)
          refine po_some ?_
          refine po_ck (wt_isO hW26 hi29 (by decide)) ?_
          refine po_ro (tX1_size hW26 hi29) (fun y30 ex30 p30 => ?_)
          dsimp only
          exact po_ret ⟨_, xt25, hW26, ⟨fun E hE => (by cases hE), fun y hy => by cases hy; exact trivial⟩⟩
        · unfold mX8_kind_b50
          refine po_ck (wt_isO hW23 h0 (by decide)) ?_
          refine po_a (tX8_doAct hW23 h0 (fun _ hi => nomatch hi)) (fun y31 g31 n31 G31 xt31 hW31 p31 => ?_)
          dsimp only
          refine po_ck (wt_isO hW31 (xt31.ty h0 (by decide)) (by decide)) ?_
          refine po_w (tX8_finishCall hW31 (xt31.ty h0 (by decide))) (fun y32 g32 hW32 p32 => ?_)
          dsimp only
          refine po_tS (fun z33 q34 => ?_) (fun E hE => ⟨_, xt31, hW32, ⟨fun E2 h2 => by cases h2; exact absurd (p31 (Or.inl ⟨by decide, by decide⟩)) (p32.1 E hE).2, fun y hy => (by cases hy)⟩⟩)
          refine po_gRn (t := 1) hW32 (xt31.ty h0 (by decide)) rfl rfl (by decide) (fun i35 ex35 hi35 => ?_)
          refine po_some ?_
          refine po_ck (wt_isO hW32 hi35 (by decide)) ?_
          refine po_ro (tX1_size hW32 hi35) (fun y36 ex36 p36 => ?_)
          dsimp only
          exact po_ret ⟨_, xt31, hW32, ⟨fun E hE => (by cases hE), fun y hy => by cases hy; exact trivial⟩⟩
      · unfold mX8_kind_b18
        exact po_ret ⟨_, EXT.rfl, hW, ⟨fun E hE => by cases hE; first | exact rfl | exact Or.inl rfl | exact Or.inr rfl, fun y hy => (by cases hy)⟩⟩
end
/-! part 38g.wt -/
section
set_option maxHeartbeats 1000000 in
theorem tX8_rule {G : TE} {F0 : AH} {S : Int32} {f : AH} {n : Nat} {v0 : Nat} {v1 : Int32} {v2 : Int32} (hW : WT G F0 S f n) (h0 : G.1 v0 = 8) : PO (mX8_rule v0 v1 v2 f n) (fun v f' n' => ∃ G', EXT G G' ∧ WT G' F0 S f' n' ∧ ((∀ E : String, v = .inr E → E = eN ∨ E = eA) ∧ (∀ y, v = .inl y → True))) := by
  unfold mX8_rule
  refine po_eq (fun q1 => ?_) (fun q1 => ?_)
  · unfold mX8_rule_b19
    refine po_eq (fun q2 => ?_) (fun q2 => ?_)
    · refine po_lt rfl kt_0 (fun q3 => ?_) (fun q3 => ?_)
      · unfold mX8_rule_b46
        exact po_ret ⟨_, EXT.rfl, hW, ⟨fun E hE => by cases hE; first | exact rfl | exact Or.inl rfl | exact Or.inr rfl, fun y hy => (by cases hy)⟩⟩
      · refine po_le rfl kt_1 (fun q4 => ?_) (fun q4 => ?_)
        · unfold mX8_rule_b56
          refine po_gRn (t := 7) hW h0 rfl rfl (by decide) (fun i5 ex5 hi5 => ?_)
          refine po_gRn (t := 7) hW h0 rfl rfl (by decide) (fun i6 ex6 hi6 => ?_)
          refine po_some ?_
          refine po_ck (wt_isO hW hi5 (by decide)) ?_
          refine po_w (tX7_copyFrom hW hi5 ⟨_, rfl, hi6⟩) (fun y7 g7 hW7 p7 => ?_)
          dsimp only
          refine po_eq (fun q8 => ?_) (fun q8 => ?_)
          · refine po_eq (fun q9 => ?_) (fun q9 => ?_)
            · unfold mX8_rule_b83
              refine po_ck (wt_isO hW7 h0 (by decide)) ?_
              refine po_a (tX8_doAct hW7 h0 (fun _ hi => nomatch hi)) (fun y10 g10 n10 G10 xt10 hW10 p10 => ?_)
              dsimp only
              refine po_ck (wt_isO hW10 (xt10.ty h0 (by decide)) (by decide)) ?_
              refine po_w (tX8_finishCall hW10 (xt10.ty h0 (by decide))) (fun y11 g11 hW11 p11 => ?_)
              dsimp only
              refine po_tS (fun z12 q13 => ?_) (fun E hE => ⟨_, xt10, hW11, ⟨fun E2 h2 => by cases h2; exact absurd (p10 (Or.inl ⟨by decide, by decide⟩)) (p11.1 E hE).2, fun y hy => (by cases hy)⟩⟩)
              unfold mX8_rule_b107
              refine po_gRn (t := 1) hW11 (xt10.ty h0 (by decide)) rfl rfl (by decide) (fun i14 ex14 hi14 => ?_)
              refine po_some ?_
              refine po_ck (wt_isO hW11 hi14 (by decide)) ?_
              refine po_ro (tX1_size hW11 hi14) (fun y15 ex15 p15 => ?_)
              dsimp only
              exact po_ret ⟨_, xt10, hW11, ⟨fun E hE => (by cases hE), fun y hy => by cases hy; exact trivial⟩⟩
            · unfold mX8_rule_b83
              refine po_ck (wt_isO hW7 h0 (by decide)) ?_
              refine po_a (tX8_doAct hW7 h0 (fun _ hi => nomatch hi)) (fun y16 g16 n16 G16 xt16 hW16 p16 => ?_)
              dsimp only
              refine po_ck (wt_isO hW16 (xt16.ty h0 (by decide)) (by decide)) ?_
              refine po_w (tX8_finishCall hW16 (xt16.ty h0 (by decide))) (fun y17 g17 hW17 p17 => ?_)
              dsimp only
              refine po_tS (fun z18 q19 => ?_) (fun E hE => ⟨_, xt16, hW17, ⟨fun E2 h2 => by cases h2; exact absurd (p16 (Or.inl ⟨by decide, by decide⟩)) (p17.1 E hE).2, fun y hy => (by cases hy)⟩⟩)
              unfold mX8_rule_b107
              refine po_gRn (t := 1) hW17 (xt16.ty h0 (by decide)) rfl rfl (by decide) (fun i20 ex20 hi20 => ?_)
              refine po_some ?_
              refine po_ck (wt_isO hW17 hi20 (by decide)) ?_
              refine po_ro (tX1_size hW17 hi20) (fun y21 ex21 p21 => ?_)
              dsimp only
              exact po_ret ⟨_, xt16, hW17, ⟨fun E hE => (by cases hE), fun y hy => by cases hy; exact trivial⟩⟩
          · refine po_ck (wt_isO hW7 h0 (by decide)) ?_
            refine po_a (tX8_doAct hW7 h0 (fun _ hi => nomatch hi)) (fun y22 g22 n22 G22 xt22 hW22 p22 => ?_)
            dsimp only
            refine po_ck (wt_isO hW22 (xt22.ty h0 (by decide)) (by decide)) ?_
            refine po_w (tX8_finishCall hW22 (xt22.ty h0 (by decide))) (fun y23 g23 hW23 p23 => ?_)
            dsimp only
            refine po_tS (fun z24 q25 => ?_) (fun E hE => ⟨_, xt22, hW23, ⟨fun E2 h2 => by cases h2; exact absurd (p22 (Or.inl ⟨by decide, by decide⟩)) (p23.1 E hE).2, fun y hy => (by cases hy)⟩⟩)
            unfold mX8_rule_b107
            refine po_gRn (t := 1) hW23 (xt22.ty h0 (by decide)) rfl rfl (by decide) (fun i26 ex26 hi26 => ?_)
            refine po_some ?_
            refine po_ck (wt_isO hW23 hi26 (by decide)) ?_
            refine po_ro (tX1_size hW23 hi26) (fun y27 ex27 p27 => ?_)
            dsimp only
            exact po_ret ⟨_, xt22, hW23, ⟨fun E hE => (by cases hE), fun y hy => by cases hy; exact trivial⟩⟩
        · unfold mX8_rule_b46
          exact po_ret ⟨_, EXT.rfl, hW, ⟨fun E hE => by cases hE; first | exact rfl | exact Or.inl rfl | exact Or.inr rfl, fun y hy => (by cases hy)⟩⟩
    · refine po_lt rfl kt_1 (fun q28 => ?_) (fun q28 => ?_)
      · unfold mX8_rule_b46
        exact po_ret ⟨_, EXT.rfl, hW, ⟨fun E hE => by cases hE; first | exact rfl | exact Or.inl rfl | exact Or.inr rfl, fun y hy => (by cases hy)⟩⟩
      · refine po_le rfl kt_40 (fun q29 => ?_) (fun q29 => ?_)
        · unfold mX8_rule_b56
          refine po_gRn (t := 7) hW h0 rfl rfl (by decide) (fun i30 ex30 hi30 => ?_)
          refine po_gRn (t := 7) hW h0 rfl rfl (by decide) (fun i31 ex31 hi31 => ?_)
          refine po_some ?_
          refine po_ck (wt_isO hW hi30 (by decide)) ?_
          refine po_w (tX7_copyFrom hW hi30 ⟨_, rfl, hi31⟩) (fun y32 g32 hW32 p32 => ?_)
          dsimp only
          refine po_eq (fun q33 => ?_) (fun q33 => ?_)
          · refine po_eq (fun q34 => ?_) (fun q34 => ?_)
            · unfold mX8_rule_b83
              refine po_ck (wt_isO hW32 h0 (by decide)) ?_
              refine po_a (tX8_doAct hW32 h0 (fun _ hi => nomatch hi)) (fun y35 g35 n35 G35 xt35 hW35 p35 => ?_)
              dsimp only
              refine po_ck (wt_isO hW35 (xt35.ty h0 (by decide)) (by decide)) ?_
              refine po_w (tX8_finishCall hW35 (xt35.ty h0 (by decide))) (fun y36 g36 hW36 p36 => ?_)
              dsimp only
              refine po_tS (fun z37 q38 => ?_) (fun E hE => ⟨_, xt35, hW36, ⟨fun E2 h2 => by cases h2; exact absurd (p35 (Or.inl ⟨by decide, by decide⟩)) (p36.1 E hE).2, fun y hy => (by cases hy)⟩⟩)
              unfold mX8_rule_b107
              refine po_gRn (t := 1) hW36 (xt35.ty h0 (by decide)) rfl rfl (by decide) (fun i39 ex39 hi39 => ?_)
              refine po_some ?_
              refine po_ck (wt_isO hW36 hi39 (by decide)) ?_
              refine po_ro (tX1_size hW36 hi39) (fun y40 ex40 p40 => ?_)
              dsimp only
              exact po_ret ⟨_, xt35, hW36, ⟨fun E hE => (by cases hE), fun y hy => by cases hy; exact trivial⟩⟩
            · unfold mX8_rule_b83
              refine po_ck (wt_isO hW32 h0 (by decide)) ?_
              refine po_a (tX8_doAct hW32 h0 (fun _ hi => nomatch hi)) (fun y41 g41 n41 G41 xt41 hW41 p41 => ?_)
              dsimp only
              refine po_ck (wt_isO hW41 (xt41.ty h0 (by decide)) (by decide)) ?_
              refine po_w (tX8_finishCall hW41 (xt41.ty h0 (by decide))) (fun y42 g42 hW42 p42 => ?_)
              dsimp only
              refine po_tS (fun z43 q44 => ?_) (fun E hE => ⟨_, xt41, hW42, ⟨fun E2 h2 => by cases h2; exact absurd (p41 (Or.inl ⟨by decide, by decide⟩)) (p42.1 E hE).2, fun y hy => (by cases hy)⟩⟩)
              unfold mX8_rule_b107
              refine po_gRn (t := 1) hW42 (xt41.ty h0 (by decide)) rfl rfl (by decide) (fun i45 ex45 hi45 => ?_)
              refine po_some ?_
              refine po_ck (wt_isO hW42 hi45 (by decide)) ?_
              refine po_ro (tX1_size hW42 hi45) (fun y46 ex46 p46 => ?_)
              dsimp only
              exact po_ret ⟨_, xt41, hW42, ⟨fun E hE => (by cases hE), fun y hy => by cases hy; exact trivial⟩⟩
          · refine po_ck (wt_isO hW32 h0 (by decide)) ?_
            refine po_a (tX8_doAct hW32 h0 (fun _ hi => nomatch hi)) (fun y47 g47 n47 G47 xt47 hW47 p47 => ?_)
            dsimp only
            refine po_ck (wt_isO hW47 (xt47.ty h0 (by decide)) (by decide)) ?_
            refine po_w (tX8_finishCall hW47 (xt47.ty h0 (by decide))) (fun y48 g48 hW48 p48 => ?_)
            dsimp only
            refine po_tS (fun z49 q50 => ?_) (fun E hE => ⟨_, xt47, hW48, ⟨fun E2 h2 => by cases h2; exact absurd (p47 (Or.inl ⟨by decide, by decide⟩)) (p48.1 E hE).2, fun y hy => (by cases hy)⟩⟩)
            unfold mX8_rule_b107
            refine po_gRn (t := 1) hW48 (xt47.ty h0 (by decide)) rfl rfl (by decide) (fun i51 ex51 hi51 => ?_)
            refine po_some ?_
            refine po_ck (wt_isO hW48 hi51 (by decide)) ?_
            refine po_ro (tX1_size hW48 hi51) (fun y52 ex52 p52 => ?_)
            dsimp only
            exact po_ret ⟨_, xt47, hW48, ⟨fun E hE => (by cases hE), fun y hy => by cases hy; exact trivial⟩⟩
        · unfold mX8_rule_b46
          exact po_ret ⟨_, EXT.rfl, hW, ⟨fun E hE => by cases hE; first | exact rfl | exact Or.inl rfl | exact Or.inr rfl, fun y hy => (by cases hy)⟩⟩
  · refine po_eq (fun q53 => ?_) (fun q53 => ?_)
    · unfold mX8_rule_b19
      refine po_eq (fun q54 => ?_) (fun q54 => ?_)
      · refine po_lt rfl kt_0 (fun q55 => ?_) (fun q55 => ?_)
        · unfold mX8_rule_b46
          exact po_ret ⟨_, EXT.rfl, hW, ⟨fun E hE => by cases hE; first | exact rfl | exact Or.inl rfl | exact Or.inr rfl, fun y hy => (by cases hy)⟩⟩
        · refine po_le rfl kt_1 (fun q56 => ?_) (fun q56 => ?_)
          · unfold mX8_rule_b56
            refine po_gRn (t := 7) hW h0 rfl rfl (by decide) (fun i57 ex57 hi57 => ?_)
            refine po_gRn (t := 7) hW h0 rfl rfl (by decide) (fun i58 ex58 hi58 => ?_)
            refine po_some ?_
            refine po_ck (wt_isO hW hi57 (by decide)) ?_
            refine po_w (tX7_copyFrom hW hi57 ⟨_, rfl, hi58⟩) (fun y59 g59 hW59 p59 => ?_)
            dsimp only
            refine po_eq (fun q60 => ?_) (fun q60 => ?_)
            · refine po_eq (fun q61 => ?_) (fun q61 => ?_)
              · unfold mX8_rule_b83
                refine po_ck (wt_isO hW59 h0 (by decide)) ?_
                refine po_a (tX8_doAct hW59 h0 (fun _ hi => nomatch hi)) (fun y62 g62 n62 G62 xt62 hW62 p62 => ?_)
                dsimp only
                refine po_ck (wt_isO hW62 (xt62.ty h0 (by decide)) (by decide)) ?_
                refine po_w (tX8_finishCall hW62 (xt62.ty h0 (by decide))) (fun y63 g63 hW63 p63 => ?_)
                dsimp only
                refine po_tS (fun z64 q65 => ?_) (fun E hE => ⟨_, xt62, hW63, ⟨fun E2 h2 => by cases h2; exact absurd (p62 (Or.inl ⟨by decide, by decide⟩)) (p63.1 E hE).2, fun y hy => (by cases hy)⟩⟩)
                unfold mX8_rule_b107
                refine po_gRn (t := 1) hW63 (xt62.ty h0 (by decide)) rfl rfl (by decide) (fun i66 ex66 hi66 => ?_)
                refine po_some ?_
                refine po_ck (wt_isO hW63 hi66 (by decide)) ?_
                refine po_ro (tX1_size hW63 hi66) (fun y67 ex67 p67 => ?_)
                dsimp only
                exact po_ret ⟨_, xt62, hW63, ⟨fun E hE => (by cases hE), fun y hy => by cases hy; exact trivial⟩⟩
              · unfold mX8_rule_b83
                refine po_ck (wt_isO hW59 h0 (by decide)) ?_
                refine po_a (tX8_doAct hW59 h0 (fun _ hi => nomatch hi)) (fun y68 g68 n68 G68 xt68 hW68 p68 => ?_)
                dsimp only
                refine po_ck (wt_isO hW68 (xt68.ty h0 (by decide)) (by decide)) ?_
                refine po_w (tX8_finishCall hW68 (xt68.ty h0 (by decide))) (fun y69 g69 hW69 p69 => ?_)
                dsimp only
                refine po_tS (fun z70 q71 => ?_) (fun E hE => ⟨_, xt68, hW69, ⟨fun E2 h2 => by cases h2; exact absurd (p68 (Or.inl ⟨by decide, by decide⟩)) (p69.1 E hE).2, fun y hy => (by cases hy)⟩⟩)
                unfold mX8_rule_b107
                refine po_gRn (t := 1) hW69 (xt68.ty h0 (by decide)) rfl rfl (by decide) (fun i72 ex72 hi72 => ?_)
                refine po_some ?_
                refine po_ck (wt_isO hW69 hi72 (by decide)) ?_
                refine po_ro (tX1_size hW69 hi72) (fun y73 ex73 p73 => ?_)
                dsimp only
                exact po_ret ⟨_, xt68, hW69, ⟨fun E hE => (by cases hE), fun y hy => by cases hy; exact trivial⟩⟩
            · refine po_ck (wt_isO hW59 h0 (by decide)) ?_
              refine po_a (tX8_doAct hW59 h0 (fun _ hi => nomatch hi)) (fun y74 g74 n74 G74 xt74 hW74 p74 => ?_)
              dsimp only
              refine po_ck (wt_isO hW74 (xt74.ty h0 (by decide)) (by decide)) ?_
              refine po_w (tX8_finishCall hW74 (xt74.ty h0 (by decide))) (fun y75 g75 hW75 p75 => ?_)
              dsimp only
              refine po_tS (fun z76 q77 => ?_) (fun E hE => ⟨_, xt74, hW75, ⟨fun E2 h2 => by cases h2; exact absurd (p74 (Or.inl ⟨by decide, by decide⟩)) (p75.1 E hE).2, fun y hy => (by cases hy)⟩⟩)
              unfold mX8_rule_b107
              refine po_gRn (t := 1) hW75 (xt74.ty h0 (by decide)) rfl rfl (by decide) (fun i78 ex78 hi78 => ?_)
              refine po_some ?_
              refine po_ck (wt_isO hW75 hi78 (by decide)) ?_
              refine po_ro (tX1_size hW75 hi78) (fun y79 ex79 p79 => ?_)
              dsimp only
              exact po_ret ⟨_, xt74, hW75, ⟨fun E hE => (by cases hE), fun y hy => by cases hy; exact trivial⟩⟩
          · unfold mX8_rule_b46
            exact po_ret ⟨_, EXT.rfl, hW, ⟨fun E hE => by cases hE; first | exact rfl | exact Or.inl rfl | exact Or.inr rfl, fun y hy => (by cases hy)⟩⟩
      · refine po_lt rfl kt_1 (fun q80 => ?_) (fun q80 => ?_)
        · unfold mX8_rule_b46
          exact po_ret ⟨_, EXT.rfl, hW, ⟨fun E hE => by cases hE; first | exact rfl | exact Or.inl rfl | exact Or.inr rfl, fun y hy => (by cases hy)⟩⟩
        · refine po_le rfl kt_40 (fun q81 => ?_) (fun q81 => ?_)
          · unfold mX8_rule_b56
            refine po_gRn (t := 7) hW h0 rfl rfl (by decide) (fun i82 ex82 hi82 => ?_)
            refine po_gRn (t := 7) hW h0 rfl rfl (by decide) (fun i83 ex83 hi83 => ?_)
            refine po_some ?_
            refine po_ck (wt_isO hW hi82 (by decide)) ?_
            refine po_w (tX7_copyFrom hW hi82 ⟨_, rfl, hi83⟩) (fun y84 g84 hW84 p84 => ?_)
            dsimp only
            refine po_eq (fun q85 => ?_) (fun q85 => ?_)
            · refine po_eq (fun q86 => ?_) (fun q86 => ?_)
              · unfold mX8_rule_b83
                refine po_ck (wt_isO hW84 h0 (by decide)) ?_
                refine po_a (tX8_doAct hW84 h0 (fun _ hi => nomatch hi)) (fun y87 g87 n87 G87 xt87 hW87 p87 => ?_)
                dsimp only
                refine po_ck (wt_isO hW87 (xt87.ty h0 (by decide)) (by decide)) ?_
                refine po_w (tX8_finishCall hW87 (xt87.ty h0 (by decide))) (fun y88 g88 hW88 p88 => ?_)
                dsimp only
                refine po_tS (fun z89 q90 => ?_) (fun E hE => ⟨_, xt87, hW88, ⟨fun E2 h2 => by cases h2; exact absurd (p87 (Or.inl ⟨by decide, by decide⟩)) (p88.1 E hE).2, fun y hy => (by cases hy)⟩⟩)
                unfold mX8_rule_b107
                refine po_gRn (t := 1) hW88 (xt87.ty h0 (by decide)) rfl rfl (by decide) (fun i91 ex91 hi91 => ?_)
                refine po_some ?_
                refine po_ck (wt_isO hW88 hi91 (by decide)) ?_
                refine po_ro (tX1_size hW88 hi91) (fun y92 ex92 p92 => ?_)
                dsimp only
                exact po_ret ⟨_, xt87, hW88, ⟨fun E hE => (by cases hE), fun y hy => by cases hy; exact trivial⟩⟩
              · unfold mX8_rule_b83
                refine po_ck (wt_isO hW84 h0 (by decide)) ?_
                refine po_a (tX8_doAct hW84 h0 (fun _ hi => nomatch hi)) (fun y93 g93 n93 G93 xt93 hW93 p93 => ?_)
                dsimp only
                refine po_ck (wt_isO hW93 (xt93.ty h0 (by decide)) (by decide)) ?_
                refine po_w (tX8_finishCall hW93 (xt93.ty h0 (by decide))) (fun y94 g94 hW94 p94 => ?_)
                dsimp only
                refine po_tS (fun z95 q96 => ?_) (fun E hE => ⟨_, xt93, hW94, ⟨fun E2 h2 => by cases h2; exact absurd (p93 (Or.inl ⟨by decide, by decide⟩)) (p94.1 E hE).2, fun y hy => (by cases hy)⟩⟩)
                unfold mX8_rule_b107
                refine po_gRn (t := 1) hW94 (xt93.ty h0 (by decide)) rfl rfl (by decide) (fun i97 ex97 hi97 => ?_)
                refine po_some ?_
                refine po_ck (wt_isO hW94 hi97 (by decide)) ?_
                refine po_ro (tX1_size hW94 hi97) (fun y98 ex98 p98 => ?_)
                dsimp only
                exact po_ret ⟨_, xt93, hW94, ⟨fun E hE => (by cases hE), fun y hy => by cases hy; exact trivial⟩⟩
            · refine po_ck (wt_isO hW84 h0 (by decide)) ?_
              refine po_a (tX8_doAct hW84 h0 (fun _ hi => nomatch hi)) (fun y99 g99 n99 G99 xt99 hW99 p99 => ?_)
              dsimp only
              refine po_ck (wt_isO hW99 (xt99.ty h0 (by decide)) (by decide)) ?_
              refine po_w (tX8_finishCall hW99 (xt99.ty h0 (by decide))) (fun y100 g100 hW100 p100 => ?_)
              dsimp only
              refine po_tS (fun z101 q102 => ?_) (fun E hE => ⟨_, xt99, hW100, ⟨fun E2 h2 => by cases h2; exact absurd (p99 (Or.inl ⟨by decide, by decide⟩)) (p100.1 E hE).2, fun y hy => (by cases hy)⟩⟩)
              unfold mX8_rule_b107
              refine po_gRn (t := 1) hW100 (xt99.ty h0 (by decide)) rfl rfl (by decide) (fun i103 ex103 hi103 => ?_)
              refine po_some ?_
              refine po_ck (wt_isO hW100 hi103 (by decide)) ?_
              refine po_ro (tX1_size hW100 hi103) (fun y104 ex104 p104 => ?_)
              dsimp only
              exact po_ret ⟨_, xt99, hW100, ⟨fun E hE => (by cases hE), fun y hy => by cases hy; exact trivial⟩⟩
          · unfold mX8_rule_b46
            exact po_ret ⟨_, EXT.rfl, hW, ⟨fun E hE => by cases hE; first | exact rfl | exact Or.inl rfl | exact Or.inr rfl, fun y hy => (by cases hy)⟩⟩
    · exact po_ret ⟨_, EXT.rfl, hW, ⟨fun E hE => by cases hE; first | exact rfl | exact Or.inl rfl | exact Or.inr rfl, fun y hy => (by cases hy)⟩⟩
set_option maxHeartbeats 1000000 in
theorem tX5_isWord_l2 {G : TE} {F0 : AH} {S : Int32} {n : Nat} : ∀ (d : Nat) (v0 : Nat) (v1 : Int32) (f : AH), WT G F0 S f n → G.1 v0 = 5 → (0 ≤ v1.toInt ∧ v1.toInt ≤ 2000) → 3000 - v1.toInt < (d : Int) → PO (mX5_isWord_l2 d v0 v1 f n) (fun v f' n' => f' = f ∧ n' = n ∧ ((v = 0 ∨ v = 1) ∧ (v ≠ 0 → ∃ x : Int32, gI f v0 5 1 = some x ∧ x.toInt ≤ 8))) := by
  intro d
  induction d with
  | zero =>
    intro v0 v1 f hW h0 h1  hm
    exfalso
    omega
  | succ d ih =>
    intro v0 v1 f hW h0 h1  hm
    show PO ((gI f v0 5 1).bind fun x1 => (if x1 ≤ v1 then ((gI f v0 5 1).bind fun x2 => (if x2 < (1 : Int32) then mX5_isWord_b59 f n else ((gI f v0 5 1).bind fun x3 => (if (8 : Int32) < x3 then mX5_isWord_b59 f n else mX5_isWord_b60 (1 : Int32) f n)))) else rCk (isO f v0 5) (((mX5_get v0 v1 f n).bind fun r5 => (if r5.1 < (97 : Int32) then mX5_isWord_b30 r5.2.1 r5.2.2 else rCk (isO r5.2.1 v0 5) (((mX5_get v0 v1 r5.2.1 r5.2.2).bind fun r8 => (if r8.1 ≤ (122 : Int32) then mX5_isWord_l2 d v0 (v1 + (1 : Int32)) r8.2.1 r8.2.2 else mX5_isWord_b30 r8.2.1 r8.2.2)))))))) _
    refine po_rs hW h0 (fun x1x ex1 hx1 hy1 => ?_)
    refine po_le rfl rfl (fun q2 => ?_) (fun q2 => ?_)
    · refine po_bind ex1 ?_
      refine po_lt rfl kt_1 (fun q3 => ?_) (fun q3 => ?_)
      · unfold mX5_isWord_b59
        unfold mX5_isWord_b60
        refine po_ck (nb_of (Or.inl rfl)) ?_
        exact po_ret ⟨rfl, rfl, ⟨Or.inl rfl, fun h => absurd rfl h⟩⟩
      · refine po_bind ex1 ?_
        refine po_lt kt_8 rfl (fun q4 => ?_) (fun q4 => ?_)
        · unfold mX5_isWord_b59
          unfold mX5_isWord_b60
          refine po_ck (nb_of (Or.inl rfl)) ?_
          exact po_ret ⟨rfl, rfl, ⟨Or.inl rfl, fun h => absurd rfl h⟩⟩
        · unfold mX5_isWord_b60
          refine po_ck (nb_of (Or.inr rfl)) ?_
          exact po_ret ⟨rfl, rfl, ⟨Or.inr rfl, fun _ => ⟨_, ex1, by omega⟩⟩⟩
    · refine po_ck (wt_isO hW h0 (by decide)) ?_
      refine po_ro (tX5_get hW h0) (fun y5 ex5 p5 => ?_)
      dsimp only
      refine po_lt rfl kt_97 (fun q6 => ?_) (fun q6 => ?_)
      · unfold mX5_isWord_b30
        refine po_ck rfl ?_
        exact po_ret ⟨rfl, rfl, ⟨Or.inl rfl, fun h => absurd rfl h⟩⟩
      · refine po_ck (wt_isO hW h0 (by decide)) ?_
        refine po_bind ex5 ?_
        dsimp only
        refine po_le rfl kt_122 (fun q7 => ?_) (fun q7 => ?_)
        · have e8 : (v1 + (1 : Int32)).toInt = v1.toInt + 1 := i_add rfl kt_1 (by omega)
          exact (ih v0 (v1 + (1 : Int32)) f hW h0 (by omega)  (by omega))
        · unfold mX5_isWord_b30
          refine po_ck rfl ?_
          exact po_ret ⟨rfl, rfl, ⟨Or.inl rfl, fun h => absurd rfl h⟩⟩
set_option maxHeartbeats 1000000 in
theorem tX5_isWord {G : TE} {F0 : AH} {S : Int32} {f : AH} {n : Nat} {v0 : Nat} (hW : WT G F0 S f n) (h0 : G.1 v0 = 5) : PO (mX5_isWord v0 f n) (fun v f' n' => f' = f ∧ n' = n ∧ ((v = 0 ∨ v = 1) ∧ (v ≠ 0 → ∃ x : Int32, gI f v0 5 1 = some x ∧ x.toInt ≤ 8))) := by
  have k_kt_0 := kt_0
  unfold mX5_isWord
  exact (tX5_isWord_l2 rFU v0 (0 : Int32) f hW h0 (by omega)  (by unfold rFU; omega))
set_option maxHeartbeats 1000000 in
theorem tX8_takeWord {G : TE} {F0 : AH} {S : Int32} {f : AH} {n : Nat} {v0 : Nat} (hW : WT G F0 S f n) (h0 : G.1 v0 = 8) : PO (mX8_takeWord v0 f n) (fun v f' n' => ∃ G', EXT G G' ∧ WT G' F0 0 f' n' ∧ (∀ i, v = some i → G'.1 i = 5)) := by
  have hT : G.1 1 = 5 := hW.2.2.2.2.2
  unfold mX8_takeWord
  refine po_gR1 hW h0 (fun ex1 => ?_)
  refine po_some ?_
  refine po_ck (wt_isO hW hT (by decide)) ?_
  refine po_ro (tX5_isWord hW hT) (fun y2 ex2 p2 => ?_)
  dsimp only
  refine po_eq (fun q3 => ?_) (fun q3 => ?_)
  · unfold mX8_takeWord_b29
    refine po_bind ex1 ?_
    refine po_some ?_
    refine po_ck (wt_isO hW hT (by decide)) ?_
    refine po_w (tape0 hW hT) (fun y4 g4 hW4 p4 => ?_)
    dsimp only
    exact po_ret ⟨_, EXT.rfl, hW4, (fun _ hi => nomatch hi)⟩
  · refine po_bind ex1 ?_
    refine po_bind ex1 ?_
    refine po_some ?_
    refine po_ck (wt_isO hW hT (by decide)) ?_
    refine po_ro (tX5_size hW hT) (fun y5 ex5 p5 => ?_)
    dsimp only
    have hs5 := sz_tape hW ex5
    obtain ⟨z5, ez5, hz5⟩ := p2.2 (by assumption)
    rw [← sz_eq ex5 ez5] at hz5
    refine po_some ?_
    refine po_ck (wt_isO hW hT (by decide)) ?_
    refine po_a (tX5_part (B := 8) hW hT (by omega)) (fun y6 g6 n6 G6 xt6 hW6 p6 => ?_)
    dsimp only
    obtain ⟨i6, rfl, hi6⟩ := p6
    refine po_some ?_
    unfold mX8_takeWord_b29
    refine po_gR1 hW6 (xt6.ty h0 (by decide)) (fun ex7 => ?_)
    refine po_some ?_
    refine po_ck (wt_isO hW6 (xt6.ty hT (by decide)) (by decide)) ?_
    refine po_w (tape0 hW6 (xt6.ty hT (by decide))) (fun y8 g8 hW8 p8 => ?_)
    dsimp only
    exact po_ret ⟨_, xt6, hW8, (fun _ hi => Option.some.inj hi ▸ hi6)⟩
set_option maxHeartbeats 1000000 in
theorem tX8_lock {G : TE} {F0 : AH} {S : Int32} {f : AH} {n : Nat} {v0 : Nat} (hW : WT G F0 S f n) (h0 : G.1 v0 = 8) : PO (mX8_lock v0 f n) (fun v f' n' => ∃ G', EXT G G' ∧ WT G' F0 0 f' n' ∧ ((∀ E : String, v = .inr E → E = eA ∨ E = eS) ∧ (∀ y, v = .inl y → True))) := by
  unfold mX8_lock
  refine po_ck (wt_isO hW h0 (by decide)) ?_
  refine po_a (tX8_takeWord hW h0) (fun y1 g1 n1 G1 xt1 hW1 p1 => ?_)
  dsimp only
  refine po_some ?_
  refine po_oN (fun q3 => ?_) (fun i2 q3 => ?_)
  · subst q3
    exact po_ret ⟨_, xt1, hW1, ⟨fun E hE => by cases hE; first | exact rfl | exact Or.inl rfl | exact Or.inr rfl, fun y hy => (by cases hy)⟩⟩
  · subst q3
    refine po_gRn (t := 7) hW1 (xt1.ty h0 (by decide)) rfl rfl (by decide) (fun i4 ex4 hi4 => ?_)
    refine po_gRn (t := 7) hW1 (xt1.ty h0 (by decide)) rfl rfl (by decide) (fun i5 ex5 hi5 => ?_)
    refine po_some ?_
    refine po_ck (wt_isO hW1 hi4 (by decide)) ?_
    refine po_w (tX7_copyFrom hW1 hi4 ⟨_, rfl, hi5⟩) (fun y6 g6 hW6 p6 => ?_)
    dsimp only
    refine po_ck (wt_isO hW6 (xt1.ty h0 (by decide)) (by decide)) ?_
    refine po_a (tX8_doAct hW6 (xt1.ty h0 (by decide)) (fun _ hi => Option.some.inj hi ▸ (p1 i2 rfl))) (fun y7 g7 n7 G7 xt7 hW7 p7 => ?_)
    dsimp only
    refine po_ck (wt_isO hW7 (xt7.ty (xt1.ty h0 (by decide)) (by decide)) (by decide)) ?_
    refine po_w (tX8_finishCall hW7 (xt7.ty (xt1.ty h0 (by decide)) (by decide))) (fun y8 g8 hW8 p8 => ?_)
    dsimp only
    refine po_tS (fun z9 q10 => ?_) (fun E hE => ⟨_, (xt1.trans xt7), hW8, ⟨fun E2 h2 => by cases h2; have h3 := p8.1 E hE; first | exact h3 | exact Or.inl h3 | exact Or.inr h3 | exact h3.1 | exact Or.inl h3.1 | exact Or.inr h3.1, fun y hy => (by cases hy)⟩⟩)
    refine po_gRn (t := 1) hW8 (xt7.ty (xt1.ty h0 (by decide)) (by decide)) rfl rfl (by decide) (fun i11 ex11 hi11 => ?_)
    refine po_some ?_
    refine po_ck (wt_isO hW8 hi11 (by decide)) ?_
    refine po_ro (tX1_size hW8 hi11) (fun y12 ex12 p12 => ?_)
    dsimp only
    exact po_ret ⟨_, (xt1.trans xt7), hW8, ⟨fun E hE => (by cases hE), fun y hy => by cases hy; exact trivial⟩⟩
set_option maxHeartbeats 1000000 in
theorem tX8_takeTold {G : TE} {F0 : AH} {S : Int32} {f : AH} {n : Nat} {v0 : Nat} (hW : WT G F0 S f n) (h0 : G.1 v0 = 8) : PO (mX8_takeTold v0 f n) (fun v f' n' => ∃ G', EXT G G' ∧ WT G' F0 0 f' n' ∧ (∀ i, v = some i → G'.1 i = 5)) := by
  have hT : G.1 1 = 5 := hW.2.2.2.2.2
  unfold mX8_takeTold
  refine po_gR1 hW h0 (fun ex1 => ?_)
  refine po_some ?_
  refine po_ck (wt_isO hW hT (by decide)) ?_
  refine po_ro (tX5_size hW hT) (fun y2 ex2 p2 => ?_)
  dsimp only
  have hs2 := sz_tape hW ex2
  refine po_le rfl kt_60 (fun q3 => ?_) (fun q3 => ?_)
  · refine po_bind ex1 ?_
    refine po_bind ex1 ?_
    refine po_some ?_
    refine po_ck (wt_isO hW hT (by decide)) ?_
    refine po_bind ex2 ?_
    dsimp only
    refine po_some ?_
    refine po_ck (wt_isO hW hT (by decide)) ?_
    refine po_a (tX5_part (B := 60) hW hT (by omega)) (fun y4 g4 n4 G4 xt4 hW4 p4 => ?_)
    dsimp only
    obtain ⟨i4, rfl, hi4⟩ := p4
    refine po_some ?_
    unfold mX8_takeTold_b31
    refine po_gR1 hW4 (xt4.ty h0 (by decide)) (fun ex5 => ?_)
    refine po_some ?_
    refine po_ck (wt_isO hW4 (xt4.ty hT (by decide)) (by decide)) ?_
    refine po_w (tape0 hW4 (xt4.ty hT (by decide))) (fun y6 g6 hW6 p6 => ?_)
    dsimp only
    exact po_ret ⟨_, xt4, hW6, (fun _ hi => Option.some.inj hi ▸ hi4)⟩
  · unfold mX8_takeTold_b31
    refine po_bind ex1 ?_
    refine po_some ?_
    refine po_ck (wt_isO hW hT (by decide)) ?_
    refine po_w (tape0 hW hT) (fun y7 g7 hW7 p7 => ?_)
    dsimp only
    exact po_ret ⟨_, EXT.rfl, hW7, (fun _ hi => nomatch hi)⟩
set_option maxHeartbeats 1000000 in
theorem tX8_tell {G : TE} {F0 : AH} {S : Int32} {f : AH} {n : Nat} {v0 : Nat} {v1 : Int32} (hW : WT G F0 S f n) (h0 : G.1 v0 = 8) : PO (mX8_tell v0 v1 f n) (fun v f' n' => ∃ G', EXT G G' ∧ WT G' F0 0 f' n' ∧ ((∀ E : String, v = .inr E → E = eA ∨ E = eS) ∧ (∀ y, v = .inl y → True))) := by
  unfold mX8_tell
  refine po_ck (wt_isO hW h0 (by decide)) ?_
  refine po_a (tX8_takeTold hW h0) (fun y1 g1 n1 G1 xt1 hW1 p1 => ?_)
  dsimp only
  refine po_some ?_
  refine po_oN (fun q3 => ?_) (fun i2 q3 => ?_)
  · subst q3
    exact po_ret ⟨_, xt1, hW1, ⟨fun E hE => by cases hE; first | exact rfl | exact Or.inl rfl | exact Or.inr rfl, fun y hy => (by cases hy)⟩⟩
  · subst q3
    refine po_gRn (t := 7) hW1 (xt1.ty h0 (by decide)) rfl rfl (by decide) (fun i4 ex4 hi4 => ?_)
    refine po_gRn (t := 7) hW1 (xt1.ty h0 (by decide)) rfl rfl (by decide) (fun i5 ex5 hi5 => ?_)
    refine po_some ?_
    refine po_ck (wt_isO hW1 hi4 (by decide)) ?_
    refine po_w (tX7_copyFrom hW1 hi4 ⟨_, rfl, hi5⟩) (fun y6 g6 hW6 p6 => ?_)
    dsimp only
    refine po_ck (wt_isO hW6 (xt1.ty h0 (by decide)) (by decide)) ?_
    refine po_a (tX8_doAct hW6 (xt1.ty h0 (by decide)) (fun _ hi => Option.some.inj hi ▸ (p1 i2 rfl))) (fun y7 g7 n7 G7 xt7 hW7 p7 => ?_)
    dsimp only
    refine po_ck (wt_isO hW7 (xt7.ty (xt1.ty h0 (by decide)) (by decide)) (by decide)) ?_
    refine po_w (tX8_finishCall hW7 (xt7.ty (xt1.ty h0 (by decide)) (by decide))) (fun y8 g8 hW8 p8 => ?_)
    dsimp only
    refine po_tS (fun z9 q10 => ?_) (fun E hE => ⟨_, (xt1.trans xt7), hW8, ⟨fun E2 h2 => by cases h2; have h3 := p8.1 E hE; first | exact h3 | exact Or.inl h3 | exact Or.inr h3 | exact h3.1 | exact Or.inl h3.1 | exact Or.inr h3.1, fun y hy => (by cases hy)⟩⟩)
    refine po_gRn (t := 0) hW8 (xt7.ty (xt1.ty h0 (by decide)) (by decide)) rfl rfl (by decide) (fun i11 ex11 hi11 => ?_)
    refine po_some ?_
    refine po_gRm hW8 hi11 rfl rfl (fun i12 ex12 hi12 hm12 => ?_)
    refine po_some ?_
    refine po_ck (wt_isO hW8 hi12 (by decide)) ?_
    refine po_ro (tX5_size hW8 hi12) (fun y13 ex13 p13 => ?_)
    dsimp only
    exact po_ret ⟨_, (xt1.trans xt7), hW8, ⟨fun E hE => (by cases hE), fun y hy => by cases hy; exact trivial⟩⟩
set_option maxHeartbeats 1000000 in
theorem tX8_free {G : TE} {F0 : AH} {S : Int32} {f : AH} {n : Nat} {v0 : Nat} {v1 : Int32} (hW : WT G F0 S f n) (h0 : G.1 v0 = 8) : PO (mX8_free v0 v1 f n) (fun v f' n' => ∃ G', EXT G G' ∧ WT G' F0 S f' n' ∧ ((∀ E : String, v = .inr E → E = eS) ∧ (∀ y, v = .inl y → True))) := by
  unfold mX8_free
  refine po_gRn (t := 7) hW h0 rfl rfl (by decide) (fun i1 ex1 hi1 => ?_)
  refine po_gRn (t := 7) hW h0 rfl rfl (by decide) (fun i2 ex2 hi2 => ?_)
  refine po_some ?_
  refine po_ck (wt_isO hW hi1 (by decide)) ?_
  refine po_w (tX7_copyFrom hW hi1 ⟨_, rfl, hi2⟩) (fun y3 g3 hW3 p3 => ?_)
  dsimp only
  refine po_ck (wt_isO hW3 h0 (by decide)) ?_
  refine po_a (tX8_doAct hW3 h0 (fun _ hi => nomatch hi)) (fun y4 g4 n4 G4 xt4 hW4 p4 => ?_)
  dsimp only
  refine po_ck (wt_isO hW4 (xt4.ty h0 (by decide)) (by decide)) ?_
  refine po_w (tX8_finishCall hW4 (xt4.ty h0 (by decide))) (fun y5 g5 hW5 p5 => ?_)
  dsimp only
  refine po_tS (fun z6 q7 => ?_) (fun E hE => ⟨_, xt4, hW5, ⟨fun E2 h2 => by cases h2; have h3 := p5.1 E hE; first | exact h3 | exact Or.inl h3 | exact Or.inr h3 | exact h3.1 | exact Or.inl h3.1 | exact Or.inr h3.1, fun y hy => (by cases hy)⟩⟩)
  refine po_gRn (t := 0) hW5 (xt4.ty h0 (by decide)) rfl rfl (by decide) (fun i8 ex8 hi8 => ?_)
  refine po_some ?_
  refine po_gRm hW5 hi8 rfl rfl (fun i9 ex9 hi9 hm9 => ?_)
  refine po_some ?_
  refine po_ck (wt_isO hW5 hi9 (by decide)) ?_
  refine po_ro (tX5_size hW5 hi9) (fun y10 ex10 p10 => ?_)
  dsimp only
  exact po_ret ⟨_, xt4, hW5, ⟨fun E hE => (by cases hE), fun y hy => by cases hy; exact trivial⟩⟩
set_option maxHeartbeats 1000000 in
theorem tX1_likeCount_l4 {G : TE} {F0 : AH} {S : Int32} {n : Nat} : ∀ (d : Nat) (v0 : Nat) (v1 : Int32) (v2 : Int32) (v3 : Int32) (f : AH), WT G F0 S f n → G.1 v0 = 1 → (0 ≤ v3.toInt ∧ v3.toInt ≤ 2000) → 3000 - v3.toInt < (d : Int) → PO (mX1_likeCount_l4 d v0 v1 v2 v3 f n) (fun v f' n' => f' = f ∧ n' = n ∧ (True)) := by
  intro d
  induction d with
  | zero =>
    intro v0 v1 v2 v3 f hW h0 h1  hm
    exfalso
    omega
  | succ d ih =>
    intro v0 v1 v2 v3 f hW h0 h1  hm
    show PO ((gI f v0 1 3).bind fun x1 => (if x1 ≤ v3 then some (v2, (f, n)) else rCk (isO f v0 1) (((mX1_areLike v0 v1 v3 f n).bind fun r3 => (if r3.1 = (0 : Int32) then mX1_likeCount_b24 (fun v0 v1 v2 v3 f n => mX1_likeCount_l4 d v0 v1 v2 v3 f n) v0 v1 v2 v3 r3.2.1 r3.2.2 else mX1_likeCount_b24 (fun v0 v1 v2 v3 f n => mX1_likeCount_l4 d v0 v1 v2 v3 f n) v0 v1 (v2 + (1 : Int32)) v3 r3.2.1 r3.2.2))))) _
    refine po_gI hW h0 rfl rfl (by decide) (fun x1x ex1 (hx1 : 0 ≤ x1x.toInt ∧ x1x.toInt ≤ 40) => ?_)
    refine po_le rfl rfl (fun q2 => ?_) (fun q2 => ?_)
    · exact po_ret ⟨rfl, rfl, trivial⟩
    · refine po_ck (wt_isO hW h0 (by decide)) ?_
      refine po_ro (tX1_areLike hW h0) (fun y3 ex3 p3 => ?_)
      dsimp only
      refine po_eq (fun q4 => ?_) (fun q4 => ?_)
      · unfold mX1_likeCount_b24
        have e5 : (v3 + (1 : Int32)).toInt = v3.toInt + 1 := i_add rfl kt_1 (by omega)
        exact (ih v0 v1 v2 (v3 + (1 : Int32)) f hW h0 (by omega)  (by omega))
      · unfold mX1_likeCount_b24
        have e6 : (v3 + (1 : Int32)).toInt = v3.toInt + 1 := i_add rfl kt_1 (by omega)
        exact (ih v0 v1 (v2 + (1 : Int32)) (v3 + (1 : Int32)) f hW h0 (by omega)  (by omega))
set_option maxHeartbeats 1000000 in
theorem tX1_likeCount {G : TE} {F0 : AH} {S : Int32} {f : AH} {n : Nat} {v0 : Nat} {v1 : Int32} (hW : WT G F0 S f n) (h0 : G.1 v0 = 1) : PO (mX1_likeCount v0 v1 f n) (fun v f' n' => f' = f ∧ n' = n ∧ (True)) := by
  have k_kt_0 := kt_0
  unfold mX1_likeCount
  exact (tX1_likeCount_l4 rFU v0 v1 (0 : Int32) (0 : Int32) f hW h0 (by omega)  (by unfold rFU; omega))
set_option maxHeartbeats 1000000 in
theorem tX8_spread {G : TE} {F0 : AH} {S : Int32} {f : AH} {n : Nat} {v0 : Nat} {v1 : Int32} (hW : WT G F0 S f n) (h0 : G.1 v0 = 8) : PO (mX8_spread v0 v1 f n) (fun v f' n' => ∃ G', EXT G G' ∧ WT G' F0 S f' n' ∧ ((∀ E : String, v = .inr E → E = eS) ∧ (∀ y, v = .inl y → True))) := by
  unfold mX8_spread
  refine po_gRn (t := 7) hW h0 rfl rfl (by decide) (fun i1 ex1 hi1 => ?_)
  refine po_gRn (t := 7) hW h0 rfl rfl (by decide) (fun i2 ex2 hi2 => ?_)
  refine po_some ?_
  refine po_ck (wt_isO hW hi1 (by decide)) ?_
  refine po_w (tX7_copyFrom hW hi1 ⟨_, rfl, hi2⟩) (fun y3 g3 hW3 p3 => ?_)
  dsimp only
  refine po_ck (wt_isO hW3 h0 (by decide)) ?_
  refine po_a (tX8_doAct hW3 h0 (fun _ hi => nomatch hi)) (fun y4 g4 n4 G4 xt4 hW4 p4 => ?_)
  dsimp only
  refine po_ck (wt_isO hW4 (xt4.ty h0 (by decide)) (by decide)) ?_
  refine po_w (tX8_finishCall hW4 (xt4.ty h0 (by decide))) (fun y5 g5 hW5 p5 => ?_)
  dsimp only
  refine po_tS (fun z6 q7 => ?_) (fun E hE => ⟨_, xt4, hW5, ⟨fun E2 h2 => by cases h2; have h3 := p5.1 E hE; first | exact h3 | exact Or.inl h3 | exact Or.inr h3 | exact h3.1 | exact Or.inl h3.1 | exact Or.inr h3.1, fun y hy => (by cases hy)⟩⟩)
  refine po_gRn (t := 1) hW5 (xt4.ty h0 (by decide)) rfl rfl (by decide) (fun i8 ex8 hi8 => ?_)
  refine po_some ?_
  refine po_ck (wt_isO hW5 hi8 (by decide)) ?_
  refine po_ro (tX1_likeCount hW5 hi8) (fun y9 ex9 p9 => ?_)
  dsimp only
  exact po_ret ⟨_, xt4, hW5, ⟨fun E hE => (by cases hE), fun y hy => by cases hy; exact trivial⟩⟩
set_option maxHeartbeats 1000000 in
theorem tX8_swap {G : TE} {F0 : AH} {S : Int32} {f : AH} {n : Nat} {v0 : Nat} {v1 : Int32} {v2 : Int32} (hW : WT G F0 S f n) (h0 : G.1 v0 = 8) : PO (mX8_swap v0 v1 v2 f n) (fun v f' n' => ∃ G', EXT G G' ∧ WT G' F0 S f' n' ∧ ((∀ E : String, v = .inr E → E = eS) ∧ (∀ y, v = .inl y → True))) := by
  unfold mX8_swap
  refine po_gRn (t := 7) hW h0 rfl rfl (by decide) (fun i1 ex1 hi1 => ?_)
  refine po_gRn (t := 7) hW h0 rfl rfl (by decide) (fun i2 ex2 hi2 => ?_)
  refine po_some ?_
  refine po_ck (wt_isO hW hi1 (by decide)) ?_
  refine po_w (tX7_copyFrom hW hi1 ⟨_, rfl, hi2⟩) (fun y3 g3 hW3 p3 => ?_)
  dsimp only
  refine po_ck (wt_isO hW3 h0 (by decide)) ?_
  refine po_a (tX8_doAct hW3 h0 (fun _ hi => nomatch hi)) (fun y4 g4 n4 G4 xt4 hW4 p4 => ?_)
  dsimp only
  refine po_ck (wt_isO hW4 (xt4.ty h0 (by decide)) (by decide)) ?_
  refine po_w (tX8_finishCall hW4 (xt4.ty h0 (by decide))) (fun y5 g5 hW5 p5 => ?_)
  dsimp only
  refine po_tS (fun z6 q7 => ?_) (fun E hE => ⟨_, xt4, hW5, ⟨fun E2 h2 => by cases h2; have h3 := p5.1 E hE; first | exact h3 | exact Or.inl h3 | exact Or.inr h3 | exact h3.1 | exact Or.inl h3.1 | exact Or.inr h3.1, fun y hy => (by cases hy)⟩⟩)
  refine po_gRn (t := 0) hW5 (xt4.ty h0 (by decide)) rfl rfl (by decide) (fun i8 ex8 hi8 => ?_)
  refine po_some ?_
  refine po_gRm hW5 hi8 rfl rfl (fun i9 ex9 hi9 hm9 => ?_)
  refine po_some ?_
  refine po_ck (wt_isO hW5 hi9 (by decide)) ?_
  refine po_ro (tX5_size hW5 hi9) (fun y10 ex10 p10 => ?_)
  dsimp only
  exact po_ret ⟨_, xt4, hW5, ⟨fun E hE => (by cases hE), fun y hy => by cases hy; exact trivial⟩⟩
set_option maxHeartbeats 1000000 in
theorem tX8_wipe {G : TE} {F0 : AH} {S : Int32} {f : AH} {n : Nat} {v0 : Nat} (hW : WT G F0 S f n) (h0 : G.1 v0 = 8) : PO (mX8_wipe v0 f n) (fun v f' n' => ∃ G', EXT G G' ∧ WT G' F0 S f' n' ∧ ((∀ E : String, v = .inr E → E = eS) ∧ (∀ y, v = .inl y → True))) := by
  unfold mX8_wipe
  refine po_gRn (t := 7) hW h0 rfl rfl (by decide) (fun i1 ex1 hi1 => ?_)
  refine po_some ?_
  refine po_ck (wt_isO hW hi1 (by decide)) ?_
  refine po_ro (tX7_toldCount hW hi1) (fun y2 ex2 p2 => ?_)
  dsimp only
  refine po_gRn (t := 7) hW h0 rfl rfl (by decide) (fun i3 ex3 hi3 => ?_)
  refine po_bind ex1 ?_
  refine po_some ?_
  refine po_ck (wt_isO hW hi3 (by decide)) ?_
  refine po_w (tX7_copyFrom hW hi3 ⟨_, rfl, hi1⟩) (fun y4 g4 hW4 p4 => ?_)
  dsimp only
  refine po_ck (wt_isO hW4 h0 (by decide)) ?_
  refine po_a (tX8_doAct hW4 h0 (fun _ hi => nomatch hi)) (fun y5 g5 n5 G5 xt5 hW5 p5 => ?_)
  dsimp only
  refine po_ck (wt_isO hW5 (xt5.ty h0 (by decide)) (by decide)) ?_
  refine po_w (tX8_finishCall hW5 (xt5.ty h0 (by decide))) (fun y6 g6 hW6 p6 => ?_)
  dsimp only
  refine po_tS (fun z7 q8 => ?_) (fun E hE => ⟨_, xt5, hW6, ⟨fun E2 h2 => by cases h2; have h3 := p6.1 E hE; first | exact h3 | exact Or.inl h3 | exact Or.inr h3 | exact h3.1 | exact Or.inl h3.1 | exact Or.inr h3.1, fun y hy => (by cases hy)⟩⟩)
  exact po_ret ⟨_, xt5, hW6, ⟨fun E hE => (by cases hE), fun y hy => by cases hy; exact trivial⟩⟩
set_option maxHeartbeats 1000000 in
theorem tX8_undo {G : TE} {F0 : AH} {S : Int32} {f : AH} {n : Nat} {v0 : Nat} (hW : WT G F0 S f n) (h0 : G.1 v0 = 8) : PO (mX8_undo v0 f n) (fun v f' n' => n' = n ∧ WT G F0 S f' n ∧ ((∀ E : String, v = .inr E → E = eS) ∧ (∀ y, v = .inl y → True))) := by
  unfold mX8_undo
  refine po_gI hW h0 rfl rfl (by decide) (fun x1x ex1 (_ : True) => ?_)
  refine po_lt rfl kt_1 (fun q2 => ?_) (fun q2 => ?_)
  · unfold mX8_undo_b34
    exact po_ret ⟨rfl, hW, ⟨fun E hE => by cases hE; first | exact rfl | exact Or.inl rfl | exact Or.inr rfl, fun y hy => (by cases hy)⟩⟩
  · refine po_bind ex1 ?_
    refine po_gRn (t := 12) hW h0 rfl rfl (by decide) (fun i3 ex3 hi3 => ?_)
    refine po_some ?_
    refine po_gL (N := 8) hW hi3 rfl rfl (by decide) ?_
    refine po_lt kn_8 rfl (fun q4 => ?_) (fun q4 => ?_)
    · unfold mX8_undo_b34
      exact po_ret ⟨rfl, hW, ⟨fun E hE => by cases hE; first | exact rfl | exact Or.inl rfl | exact Or.inr rfl, fun y hy => (by cases hy)⟩⟩
    · refine po_bind ex3 ?_
      refine po_bind ex1 ?_
      refine po_some ?_
      have e5 : (x1x - (1 : Int32)).toInt = x1x.toInt - 1 := i_sub rfl kt_1 (by omega)
      refine po_gRAn (N := 8) (T := 7) hW hi3 rfl rfl rfl (by decide) (by omega) (fun i6 hi6 => ?_)
      refine po_oNs ?_
      refine po_bind ex1 ?_
      refine po_pI hW h0 rfl rfl (vv_i (by decide) trivial) (fun g7 hW7 ex7 => ?_)
      refine po_gRn (t := 12) hW7 h0 rfl rfl (by decide) (fun i8 ex8 hi8 => ?_)
      refine po_bind ex7 ?_
      refine po_some ?_
      refine po_gRAn (N := 8) (T := 7) hW7 hi8 rfl rfl rfl (by decide) (by omega) (fun i9 hi9 => ?_)
      refine po_ck (wt_isO hW7 h0 (by decide)) ?_
      refine po_w (tX8_restore hW7 h0 ⟨_, rfl, hi9⟩) (fun y10 g10 hW10 p10 => ?_)
      dsimp only
      refine po_gI hW10 h0 rfl rfl (by decide) (fun x11x ex11 (_ : True) => ?_)
      exact po_ret ⟨rfl, hW10, ⟨fun E hE => (by cases hE), fun y hy => by cases hy; exact trivial⟩⟩
set_option maxHeartbeats 1000000 in
theorem tX8_pieceOrThrow {G : TE} {F0 : AH} {S : Int32} {f : AH} {n : Nat} {v0 : Nat} {v1 : Int32} (hW : WT G F0 S f n) (h0 : G.1 v0 = 8) : PO (mX8_pieceOrThrow v0 v1 f n) (fun v f' n' => f' = f ∧ n' = n ∧ ((∀ E : String, v = .inr E → E = eI) ∧ (∀ y, v = .inl y → ∃ i, y = some i ∧ G.1 i = 3))) := by
  unfold mX8_pieceOrThrow
  refine po_gRn (t := 1) hW h0 rfl rfl (by decide) (fun i1 ex1 hi1 => ?_)
  refine po_some ?_
  refine po_ck (wt_isO hW hi1 (by decide)) ?_
  refine po_ro (tX1_get hW hi1) (fun y2 ex2 p2 => ?_)
  dsimp only
  refine po_some ?_
  refine po_oN (fun q4 => ?_) (fun i3 q4 => ?_)
  · subst q4
    exact po_ret ⟨rfl, rfl, ⟨fun E hE => by cases hE; first | exact rfl | exact Or.inl rfl | exact Or.inr rfl, fun y hy => (by cases hy)⟩⟩
  · subst q4
    exact po_ret ⟨rfl, rfl, ⟨fun E hE => (by cases hE), fun y hy => by cases hy; exact ⟨_, rfl, (p2 i3 rfl)⟩⟩⟩
set_option maxHeartbeats 1000000 in
theorem tX8_knownPair_l10 {G : TE} {F0 : AH} {S : Int32} {n : Nat} : ∀ (d : Nat) (v0 : Nat) (v1 : Option Nat) (v2 : Option Nat) (v3 : Int32) (f : AH), WT G F0 S f n → G.1 v0 = 8 → (∃ i, v1 = some i ∧ G.1 i = 3) → (∀ i, v2 = some i → G.1 i = 2) → (0 ≤ v3.toInt ∧ v3.toInt ≤ 2000) → 3000 - v3.toInt < (d : Int) → PO (mX8_knownPair_l10 d v0 v1 v2 v3 f n) (fun v f' n' => f' = f ∧ n' = n ∧ (True)) := by
  intro d
  induction d with
  | zero =>
    intro v0 v1 v2 v3 f hW h0 h1 h2 h3  hm
    exfalso
    obtain ⟨iv1, rfl, h1⟩ := h1
    omega
  | succ d ih =>
    intro v0 v1 v2 v3 f hW h0 h1 h2 h3  hm
    obtain ⟨iv1, rfl, h1⟩ := h1
    show PO ((gR f v0 8 1).bind fun x1 => ((x1).bind fun j2 => ((gI f j2 7 7).bind fun x3 => (if x3 ≤ v3 then mX8_knownPair_b78 f n else (oN v2 (mX8_knownPair_b78 f n) (fun j4 => ((gR f j4 2 0).bind fun x5 => ((x5).bind fun j6 => rCk (isO f j6 5) (((mX5_size j6 f n).bind fun r8 => (((some iv1)).bind fun j10 => ((gI r8.2.1 j10 3 3).bind fun x11 => (if r8.1 = x11 then ((gR r8.2.1 j4 2 0).bind fun x12 => ((gR r8.2.1 v0 8 5).bind fun x13 => ((x13).bind fun j14 => ((gR r8.2.1 j14 1 0).bind fun x15 => ((gI r8.2.1 j10 3 2).bind fun x16 => ((gI r8.2.1 j10 3 3).bind fun x17 => ((x12).bind fun j18 => rCk (isO r8.2.1 j18 5) (((mX5_isSame j18 (0 : Int32) x15 x16 x17 r8.2.1 r8.2.2).bind fun r20 => (if r20.1 = (0 : Int32) then mX8_knownPair_b67 (fun v0 v1 v2 v3 f n => mX8_knownPair_l10 d v0 v1 v2 v3 f n) v0 (some j10) (some j4) v3 r20.2.1 r20.2.2 else some (v3, (r20.2.1, r20.2.2)))))))))))) else mX8_knownPair_b67 (fun v0 v1 v2 v3 f n => mX8_knownPair_l10 d v0 v1 v2 v3 f n) v0 (some j10) (some j4) v3 r8.2.1 r8.2.2))))))))))))) _
    refine po_gRn (t := 7) hW h0 rfl rfl (by decide) (fun i1 ex1 hi1 => ?_)
    refine po_some ?_
    refine po_gI hW hi1 rfl rfl (by decide) (fun x2x ex2 (hx2 : 0 ≤ x2x.toInt ∧ x2x.toInt ≤ 12) => ?_)
    refine po_le rfl rfl (fun q3 => ?_) (fun q3 => ?_)
    · unfold mX8_knownPair_b78
      exact po_ret ⟨rfl, rfl, trivial⟩
    · refine po_oN (fun q5 => ?_) (fun i4 q5 => ?_)
      · subst q5
        unfold mX8_knownPair_b78
        exact po_ret ⟨rfl, rfl, trivial⟩
      · subst q5
        refine po_gRn (t := 5) hW (h2 i4 rfl) rfl rfl (by decide) (fun i6 ex6 hi6 => ?_)
        refine po_some ?_
        refine po_ck (wt_isO hW hi6 (by decide)) ?_
        refine po_ro (tX5_size hW hi6) (fun y7 ex7 p7 => ?_)
        dsimp only
        refine po_some ?_
        refine po_gI hW h1 rfl rfl (by decide) (fun x8x ex8 (hx8 : (-700) ≤ x8x.toInt ∧ x8x.toInt ≤ 700) => ?_)
        refine po_eq (fun q9 => ?_) (fun q9 => ?_)
        · refine po_bind ex6 ?_
          refine po_gRn (t := 1) hW h0 rfl rfl (by decide) (fun i10 ex10 hi10 => ?_)
          refine po_some ?_
          refine po_gRm hW hi10 rfl rfl (fun i11 ex11 hi11 hm11 => ?_)
          refine po_gI hW h1 rfl rfl (by decide) (fun x12x ex12 (hx12 : 0 ≤ x12x.toInt ∧ x12x.toInt ≤ 600) => ?_)
          refine po_bind ex8 ?_
          refine po_some ?_
          refine po_ck (wt_isO hW hi6 (by decide)) ?_
          refine po_ro (tX5_isSame hW hi6 ⟨_, rfl, hi11⟩ (by omega)) (fun y13 ex13 p13 => ?_)
          dsimp only
          refine po_eq (fun q14 => ?_) (fun q14 => ?_)
          · unfold mX8_knownPair_b67
            refine po_some ?_
            refine po_gRo (t := 2) hW (h2 i4 rfl) rfl rfl (by decide) (fun i15 ex15 hi15 => ?_)
            have e16 : (v3 + (1 : Int32)).toInt = v3.toInt + 1 := i_add rfl kt_1 (by omega)
            exact (ih v0 (some iv1) i15 (v3 + (1 : Int32)) f hW h0 ⟨_, rfl, h1⟩ hi15 (by omega)  (by omega))
          · exact po_ret ⟨rfl, rfl, trivial⟩
        · unfold mX8_knownPair_b67
          refine po_some ?_
          refine po_gRo (t := 2) hW (h2 i4 rfl) rfl rfl (by decide) (fun i17 ex17 hi17 => ?_)
          have e18 : (v3 + (1 : Int32)).toInt = v3.toInt + 1 := i_add rfl kt_1 (by omega)
          exact (ih v0 (some iv1) i17 (v3 + (1 : Int32)) f hW h0 ⟨_, rfl, h1⟩ hi17 (by omega)  (by omega))
set_option maxHeartbeats 1000000 in
theorem tX8_knownPair {G : TE} {F0 : AH} {S : Int32} {f : AH} {n : Nat} {v0 : Nat} {v1 : Option Nat} (hW : WT G F0 S f n) (h0 : G.1 v0 = 8) (h1 : (∃ i, v1 = some i ∧ G.1 i = 3)) : PO (mX8_knownPair v0 v1 f n) (fun v f' n' => f' = f ∧ n' = n ∧ (True)) := by
  obtain ⟨iv1, rfl, h1⟩ := h1
  have k_kt_0 := kt_0
  unfold mX8_knownPair
  refine po_gRn (t := 7) hW h0 rfl rfl (by decide) (fun i1 ex1 hi1 => ?_)
  refine po_some ?_
  refine po_gRo (t := 2) hW hi1 rfl rfl (by decide) (fun i2 ex2 hi2 => ?_)
  exact (tX8_knownPair_l10 rFU v0 (some iv1) i2 (0 : Int32) f hW h0 ⟨_, rfl, h1⟩ hi2 (by omega)  (by unfold rFU; omega))
set_option maxHeartbeats 1000000 in
theorem tX8_piece {G : TE} {F0 : AH} {S : Int32} {f : AH} {n : Nat} {v0 : Nat} {v1 : Int32} {v2 : Int32} (hW : WT G F0 S f n) (h0 : G.1 v0 = 8) : PO (mX8_piece v0 v1 v2 f n) (fun v f' n' => f' = f ∧ n' = n ∧ ((∀ E : String, v = .inr E → E = eI ∨ E = eN) ∧ (∀ y, v = .inl y → True))) := by
  unfold mX8_piece
  refine po_ck (wt_isO hW h0 (by decide)) ?_
  refine po_ro (tX8_pieceOrThrow hW h0) (fun y1 ex1 p1 => ?_)
  dsimp only
  refine po_tS (fun z2 q3 => ?_) (fun E hE => ⟨rfl, rfl, ⟨fun E2 h2 => by cases h2; have h3 := p1.1 E hE; first | exact h3 | exact Or.inl h3 | exact Or.inr h3 | exact h3.1 | exact Or.inl h3.1 | exact Or.inr h3.1, fun y hy => (by cases hy)⟩⟩)
  have p4 := p1.2 z2 q3
  obtain ⟨i5, rfl, hii5⟩ := p4
  refine po_some ?_
  refine po_eq (fun q6 => ?_) (fun q6 => ?_)
  · refine po_some ?_
    refine po_gI hW hii5 rfl rfl (by decide) (fun x7x ex7 (_ : True) => ?_)
    exact po_ret ⟨rfl, rfl, ⟨fun E hE => (by cases hE), fun y hy => by cases hy; exact trivial⟩⟩
  · refine po_eq (fun q8 => ?_) (fun q8 => ?_)
    · refine po_some ?_
      refine po_gI hW hii5 rfl rfl (by decide) (fun x9x ex9 (_ : True) => ?_)
      exact po_ret ⟨rfl, rfl, ⟨fun E hE => (by cases hE), fun y hy => by cases hy; exact trivial⟩⟩
    · refine po_eq (fun q10 => ?_) (fun q10 => ?_)
      · refine po_some ?_
        refine po_gI hW hii5 rfl rfl (by decide) (fun x11x ex11 (hx11 : (-700) ≤ x11x.toInt ∧ x11x.toInt ≤ 700) => ?_)
        exact po_ret ⟨rfl, rfl, ⟨fun E hE => (by cases hE), fun y hy => by cases hy; exact trivial⟩⟩
      · refine po_eq (fun q12 => ?_) (fun q12 => ?_)
        · refine po_ck (wt_isO hW h0 (by decide)) ?_
          refine po_ro (tX8_nowSize hW h0 ⟨_, rfl, hii5⟩) (fun y13 ex13 p13 => ?_)
          dsimp only
          exact po_ret ⟨rfl, rfl, ⟨fun E hE => (by cases hE), fun y hy => by cases hy; exact trivial⟩⟩
        · refine po_eq (fun q14 => ?_) (fun q14 => ?_)
          · refine po_gRn (t := 7) hW h0 rfl rfl (by decide) (fun i15 ex15 hi15 => ?_)
            refine po_some ?_
            refine po_ck (wt_isO hW hi15 (by decide)) ?_
            refine po_ro (tX7_toldFor hW hi15) (fun y16 ex16 p16 => ?_)
            dsimp only
            refine po_some ?_
            refine po_oN (fun q18 => ?_) (fun i17 q18 => ?_)
            · subst q18
              unfold mX8_piece_b98
              exact po_ret ⟨rfl, rfl, ⟨fun E hE => (by cases hE), fun y hy => by cases hy; exact trivial⟩⟩
            · subst q18
              unfold mX8_piece_b98
              exact po_ret ⟨rfl, rfl, ⟨fun E hE => (by cases hE), fun y hy => by cases hy; exact trivial⟩⟩
          · refine po_eq (fun q19 => ?_) (fun q19 => ?_)
            · refine po_gRn (t := 1) hW h0 rfl rfl (by decide) (fun i20 ex20 hi20 => ?_)
              refine po_some ?_
              refine po_ck (wt_isO hW hi20 (by decide)) ?_
              refine po_ro (tX1_likeCount hW hi20) (fun y21 ex21 p21 => ?_)
              dsimp only
              exact po_ret ⟨rfl, rfl, ⟨fun E hE => (by cases hE), fun y hy => by cases hy; exact trivial⟩⟩
            · refine po_eq (fun q22 => ?_) (fun q22 => ?_)
              · refine po_ck (wt_isO hW h0 (by decide)) ?_
                refine po_ro (tX8_countWords hW h0 ⟨_, rfl, hii5⟩) (fun y23 ex23 p23 => ?_)
                dsimp only
                exact po_ret ⟨rfl, rfl, ⟨fun E hE => (by cases hE), fun y hy => by cases hy; exact trivial⟩⟩
              · refine po_eq (fun q24 => ?_) (fun q24 => ?_)
                · refine po_ck (wt_isO hW h0 (by decide)) ?_
                  refine po_ro (tX8_knownPair hW h0 ⟨_, rfl, hii5⟩) (fun y25 ex25 p25 => ?_)
                  dsimp only
                  exact po_ret ⟨rfl, rfl, ⟨fun E hE => (by cases hE), fun y hy => by cases hy; exact trivial⟩⟩
                · refine po_eq (fun q26 => ?_) (fun q26 => ?_)
                  · refine po_some ?_
                    refine po_gI hW hii5 rfl rfl (by decide) (fun x27x ex27 (_ : True) => ?_)
                    exact po_ret ⟨rfl, rfl, ⟨fun E hE => (by cases hE), fun y hy => by cases hy; exact trivial⟩⟩
                  · refine po_eq (fun q28 => ?_) (fun q28 => ?_)
                    · refine po_some ?_
                      refine po_gI hW hii5 rfl rfl (by decide) (fun x29x ex29 (_ : True) => ?_)
                      exact po_ret ⟨rfl, rfl, ⟨fun E hE => (by cases hE), fun y hy => by cases hy; exact trivial⟩⟩
                    · exact po_ret ⟨rfl, rfl, ⟨fun E hE => by cases hE; first | exact rfl | exact Or.inl rfl | exact Or.inr rfl, fun y hy => (by cases hy)⟩⟩
set_option maxHeartbeats 1000000 in
theorem tX1_textByte {G : TE} {F0 : AH} {S : Int32} {f : AH} {n : Nat} {v0 : Nat} {v1 : Option Nat} {v2 : Int32} (hW : WT G F0 S f n) (h0 : G.1 v0 = 1) (h1 : (∃ i, v1 = some i ∧ G.1 i = 3)) : PO (mX1_textByte v0 v1 v2 f n) (fun v f' n' => f' = f ∧ n' = n ∧ (True)) := by
  obtain ⟨iv1, rfl, h1⟩ := h1
  unfold mX1_textByte
  refine po_lt rfl kt_0 (fun q1 => ?_) (fun q1 => ?_)
  · unfold mX1_textByte_b28
    unfold mX1_textByte_b29
    exact po_ret ⟨rfl, rfl, trivial⟩
  · refine po_some ?_
    refine po_gI hW h1 rfl rfl (by decide) (fun x2x ex2 (hx2 : (-700) ≤ x2x.toInt ∧ x2x.toInt ≤ 700) => ?_)
    refine po_le rfl rfl (fun q3 => ?_) (fun q3 => ?_)
    · unfold mX1_textByte_b28
      unfold mX1_textByte_b29
      exact po_ret ⟨rfl, rfl, trivial⟩
    · refine po_gRm hW h0 rfl rfl (fun i4 ex4 hi4 hm4 => ?_)
      refine po_gI hW h1 rfl rfl (by decide) (fun x5x ex5 (hx5 : 0 ≤ x5x.toInt ∧ x5x.toInt ≤ 600) => ?_)
      refine po_some ?_
      refine po_ck (wt_isO hW hi4 (by decide)) ?_
      have e6 : (x5x + v2).toInt = x5x.toInt + v2.toInt := i_add rfl rfl (by omega)
      refine po_ro (tX5_get hW hi4) (fun y7 ex7 p7 => ?_)
      dsimp only
      unfold mX1_textByte_b29
      exact po_ret ⟨rfl, rfl, trivial⟩
set_option maxHeartbeats 1000000 in
theorem tX8_nowByte {G : TE} {F0 : AH} {S : Int32} {f : AH} {n : Nat} {v0 : Nat} {v1 : Int32} {v2 : Option Nat} {v3 : Int32} (hW : WT G F0 S f n) (h0 : G.1 v0 = 8) (h1 : (∃ i, v2 = some i ∧ G.1 i = 3)) : PO (mX8_nowByte v0 v1 v2 v3 f n) (fun v f' n' => f' = f ∧ n' = n ∧ (True)) := by
  obtain ⟨iv2, rfl, h1⟩ := h1
  unfold mX8_nowByte
  refine po_gRn (t := 7) hW h0 rfl rfl (by decide) (fun i1 ex1 hi1 => ?_)
  refine po_some ?_
  refine po_ck (wt_isO hW hi1 (by decide)) ?_
  refine po_ro (tX7_toldFor hW hi1) (fun y2 ex2 p2 => ?_)
  dsimp only
  refine po_some ?_
  refine po_oN (fun q4 => ?_) (fun i3 q4 => ?_)
  · subst q4
    refine po_gRn (t := 1) hW h0 rfl rfl (by decide) (fun i5 ex5 hi5 => ?_)
    refine po_some ?_
    refine po_ck (wt_isO hW hi5 (by decide)) ?_
    refine po_ro (tX1_textByte hW hi5 ⟨_, rfl, h1⟩) (fun y6 ex6 p6 => ?_)
    dsimp only
    unfold mX8_nowByte_b33
    exact po_ret ⟨rfl, rfl, trivial⟩
  · subst q4
    refine po_ck (wt_isO hW (p2 i3 rfl) (by decide)) ?_
    refine po_ro (tX5_get hW (p2 i3 rfl)) (fun y7 ex7 p7 => ?_)
    dsimp only
    unfold mX8_nowByte_b33
    exact po_ret ⟨rfl, rfl, trivial⟩
set_option maxHeartbeats 1000000 in
theorem tX8_octet {G : TE} {F0 : AH} {S : Int32} {f : AH} {n : Nat} {v0 : Nat} {v1 : Int32} {v2 : Int32} {v3 : Int32} (hW : WT G F0 S f n) (h0 : G.1 v0 = 8) : PO (mX8_octet v0 v1 v2 v3 f n) (fun v f' n' => f' = f ∧ n' = n ∧ ((∀ E : String, v = .inr E → E = eI) ∧ (∀ y, v = .inl y → True))) := by
  unfold mX8_octet
  refine po_ck (wt_isO hW h0 (by decide)) ?_
  refine po_ro (tX8_pieceOrThrow hW h0) (fun y1 ex1 p1 => ?_)
  dsimp only
  refine po_tS (fun z2 q3 => ?_) (fun E hE => ⟨rfl, rfl, ⟨fun E2 h2 => by cases h2; have h3 := p1.1 E hE; first | exact h3 | exact Or.inl h3 | exact Or.inr h3 | exact h3.1 | exact Or.inl h3.1 | exact Or.inr h3.1, fun y hy => (by cases hy)⟩⟩)
  have p4 := p1.2 z2 q3
  obtain ⟨i5, rfl, hii5⟩ := p4
  refine po_some ?_
  refine po_eq (fun q6 => ?_) (fun q6 => ?_)
  · refine po_gRn (t := 1) hW h0 rfl rfl (by decide) (fun i7 ex7 hi7 => ?_)
    refine po_some ?_
    refine po_ck (wt_isO hW hi7 (by decide)) ?_
    refine po_ro (tX1_textByte hW hi7 ⟨_, rfl, hii5⟩) (fun y8 ex8 p8 => ?_)
    dsimp only
    unfold mX8_octet_b32
    exact po_ret ⟨rfl, rfl, ⟨fun E hE => (by cases hE), fun y hy => by cases hy; exact trivial⟩⟩
  · refine po_ck (wt_isO hW h0 (by decide)) ?_
    refine po_ro (tX8_nowByte hW h0 ⟨_, rfl, hii5⟩) (fun y9 ex9 p9 => ?_)
    dsimp only
    unfold mX8_octet_b32
    exact po_ret ⟨rfl, rfl, ⟨fun E hE => (by cases hE), fun y hy => by cases hy; exact trivial⟩⟩
set_option maxHeartbeats 1000000 in
theorem tX8_origin {G : TE} {F0 : AH} {S : Int32} {f : AH} {n : Nat} {v0 : Nat} {v1 : Int32} {v2 : Int32} (hW : WT G F0 S f n) (h0 : G.1 v0 = 8) : PO (mX8_origin v0 v1 v2 f n) (fun v f' n' => f' = f ∧ n' = n ∧ ((∀ E : String, v = .inr E → E = eI) ∧ (∀ y, v = .inl y → True))) := by
  unfold mX8_origin
  refine po_ck (wt_isO hW h0 (by decide)) ?_
  refine po_ro (tX8_pieceOrThrow hW h0) (fun y1 ex1 p1 => ?_)
  dsimp only
  refine po_tS (fun z2 q3 => ?_) (fun E hE => ⟨rfl, rfl, ⟨fun E2 h2 => by cases h2; have h3 := p1.1 E hE; first | exact h3 | exact Or.inl h3 | exact Or.inr h3 | exact h3.1 | exact Or.inl h3.1 | exact Or.inr h3.1, fun y hy => (by cases hy)⟩⟩)
  have p4 := p1.2 z2 q3
  obtain ⟨i5, rfl, hii5⟩ := p4
  refine po_some ?_
  refine po_lt rfl kt_0 (fun q6 => ?_) (fun q6 => ?_)
  · unfold mX8_origin_b37
    unfold mX8_origin_b38
    exact po_ret ⟨rfl, rfl, ⟨fun E hE => (by cases hE), fun y hy => by cases hy; exact trivial⟩⟩
  · refine po_some ?_
    refine po_gI hW hii5 rfl rfl (by decide) (fun x7x ex7 (hx7 : (-700) ≤ x7x.toInt ∧ x7x.toInt ≤ 700) => ?_)
    refine po_le rfl rfl (fun q8 => ?_) (fun q8 => ?_)
    · unfold mX8_origin_b37
      unfold mX8_origin_b38
      exact po_ret ⟨rfl, rfl, ⟨fun E hE => (by cases hE), fun y hy => by cases hy; exact trivial⟩⟩
    · refine po_gRn (t := 1) hW h0 rfl rfl (by decide) (fun i9 ex9 hi9 => ?_)
      refine po_some ?_
      refine po_gRm hW hi9 rfl rfl (fun i10 ex10 hi10 hm10 => ?_)
      refine po_gI hW hii5 rfl rfl (by decide) (fun x11x ex11 (hx11 : 0 ≤ x11x.toInt ∧ x11x.toInt ≤ 600) => ?_)
      refine po_some ?_
      refine po_ck (wt_isO hW hi10 (by decide)) ?_
      have e12 : (x11x + v2).toInt = x11x.toInt + v2.toInt := i_add rfl rfl (by omega)
      refine po_ro (tX5_get hW hi10) (fun y13 ex13 p13 => ?_)
      dsimp only
      unfold mX8_origin_b38
      exact po_ret ⟨rfl, rfl, ⟨fun E hE => (by cases hE), fun y hy => by cases hy; exact trivial⟩⟩
set_option maxHeartbeats 1000000 in
theorem tX8_key {G : TE} {F0 : AH} {S : Int32} {f : AH} {n : Nat} {v0 : Nat} {v1 : Int32} {v2 : Int32} (hW : WT G F0 S f n) (h0 : G.1 v0 = 8) : PO (mX8_key v0 v1 v2 f n) (fun v f' n' => f' = f ∧ n' = n ∧ ((∀ E : String, v = .inr E → E = eI ∨ E = eN) ∧ (∀ y, v = .inl y → True))) := by
  unfold mX8_key
  refine po_ck (wt_isO hW h0 (by decide)) ?_
  refine po_ro (tX8_pieceOrThrow hW h0) (fun y1 ex1 p1 => ?_)
  dsimp only
  refine po_tS (fun z2 q3 => ?_) (fun E hE => ⟨rfl, rfl, ⟨fun E2 h2 => by cases h2; have h3 := p1.1 E hE; first | exact h3 | exact Or.inl h3 | exact Or.inr h3 | exact h3.1 | exact Or.inl h3.1 | exact Or.inr h3.1, fun y hy => (by cases hy)⟩⟩)
  have p4 := p1.2 z2 q3
  obtain ⟨i5, rfl, hii5⟩ := p4
  refine po_some ?_
  refine po_eq (fun q6 => ?_) (fun q6 => ?_)
  · unfold mX8_key_b25
    refine po_gRn (t := 7) hW h0 rfl rfl (by decide) (fun i7 ex7 hi7 => ?_)
    refine po_some ?_
    refine po_gI hW hi7 rfl rfl (by decide) (fun x8x ex8 (_ : True) => ?_)
    refine po_eq (fun q9 => ?_) (fun q9 => ?_)
    · refine po_eq (fun q10 => ?_) (fun q10 => ?_)
      · refine po_some ?_
        refine po_gI hW hii5 rfl rfl (by decide) (fun x11x ex11 (_ : True) => ?_)
        unfold mX8_key_b52
        exact po_ret ⟨rfl, rfl, ⟨fun E hE => (by cases hE), fun y hy => by cases hy; exact trivial⟩⟩
      · refine po_some ?_
        refine po_gI hW hii5 rfl rfl (by decide) (fun x12x ex12 (_ : True) => ?_)
        unfold mX8_key_b52
        exact po_ret ⟨rfl, rfl, ⟨fun E hE => (by cases hE), fun y hy => by cases hy; exact trivial⟩⟩
    · exact po_ret ⟨rfl, rfl, ⟨fun E hE => (by cases hE), fun y hy => by cases hy; exact trivial⟩⟩
  · refine po_eq (fun q13 => ?_) (fun q13 => ?_)
    · unfold mX8_key_b25
      refine po_gRn (t := 7) hW h0 rfl rfl (by decide) (fun i14 ex14 hi14 => ?_)
      refine po_some ?_
      refine po_gI hW hi14 rfl rfl (by decide) (fun x15x ex15 (_ : True) => ?_)
      refine po_eq (fun q16 => ?_) (fun q16 => ?_)
      · refine po_eq (fun q17 => ?_) (fun q17 => ?_)
        · refine po_some ?_
          refine po_gI hW hii5 rfl rfl (by decide) (fun x18x ex18 (_ : True) => ?_)
          unfold mX8_key_b52
          exact po_ret ⟨rfl, rfl, ⟨fun E hE => (by cases hE), fun y hy => by cases hy; exact trivial⟩⟩
        · refine po_some ?_
          refine po_gI hW hii5 rfl rfl (by decide) (fun x19x ex19 (_ : True) => ?_)
          unfold mX8_key_b52
          exact po_ret ⟨rfl, rfl, ⟨fun E hE => (by cases hE), fun y hy => by cases hy; exact trivial⟩⟩
      · exact po_ret ⟨rfl, rfl, ⟨fun E hE => (by cases hE), fun y hy => by cases hy; exact trivial⟩⟩
    · exact po_ret ⟨rfl, rfl, ⟨fun E hE => by cases hE; first | exact rfl | exact Or.inl rfl | exact Or.inr rfl, fun y hy => (by cases hy)⟩⟩
set_option maxHeartbeats 1000000 in
theorem tX8_like_l11 {G : TE} {F0 : AH} {S : Int32} {n : Nat} : ∀ (d : Nat) (v0 : Nat) (v1 : Int32) (v2 : Int32) (v3 : Int32) (v4 : Int32) (f : AH), WT G F0 S f n → G.1 v0 = 8 → (0 ≤ v4.toInt ∧ v4.toInt ≤ 2000) → 3000 - v4.toInt < (d : Int) → PO (mX8_like_l11 d v0 v1 v2 v3 v4 f n) (fun v f' n' => f' = f ∧ n' = n ∧ ((∀ E : String, v = .inr E → E = eI) ∧ (∀ y, v = .inl y → True))) := by
  intro d
  induction d with
  | zero =>
    intro v0 v1 v2 v3 v4 f hW h0 h1  hm
    exfalso
    omega
  | succ d ih =>
    intro v0 v1 v2 v3 v4 f hW h0 h1  hm
    show PO ((gR f v0 8 5).bind fun x1 => ((x1).bind fun j2 => rCk (isO f j2 1) (((mX1_size j2 f n).bind fun r4 => (if r4.1 ≤ v4 then some (.inl (-1 : Int32), (r4.2.1, r4.2.2)) else ((gR r4.2.1 v0 8 5).bind fun x6 => ((x6).bind fun j7 => rCk (isO r4.2.1 j7 1) (((mX1_areLike j7 v1 v4 r4.2.1 r4.2.2).bind fun r9 => (if r9.1 = (0 : Int32) then mX8_like_b47 (fun v0 v1 v2 v3 v4 f n => mX8_like_l11 d v0 v1 v2 v3 v4 f n) v0 v1 v2 v3 v4 r9.2.1 r9.2.2 else (if v3 = v2 then some (.inl v4, (r9.2.1, r9.2.2)) else mX8_like_b47 (fun v0 v1 v2 v3 v4 f n => mX8_like_l11 d v0 v1 v2 v3 v4 f n) v0 v1 v2 (v3 + (1 : Int32)) v4 r9.2.1 r9.2.2))))))))))) _
    refine po_gRn (t := 1) hW h0 rfl rfl (by decide) (fun i1 ex1 hi1 => ?_)
    refine po_some ?_
    refine po_ck (wt_isO hW hi1 (by decide)) ?_
    refine po_ro (tX1_size hW hi1) (fun y2 ex2 p2 => ?_)
    dsimp only
    refine po_le rfl rfl (fun q3 => ?_) (fun q3 => ?_)
    · exact po_ret ⟨rfl, rfl, ⟨fun E hE => (by cases hE), fun y hy => by cases hy; exact trivial⟩⟩
    · refine po_bind ex1 ?_
      refine po_some ?_
      refine po_ck (wt_isO hW hi1 (by decide)) ?_
      refine po_ro (tX1_areLike hW hi1) (fun y4 ex4 p4 => ?_)
      dsimp only
      refine po_eq (fun q5 => ?_) (fun q5 => ?_)
      · unfold mX8_like_b47
        have e6 : (v4 + (1 : Int32)).toInt = v4.toInt + 1 := i_add rfl kt_1 (by omega)
        exact (ih v0 v1 v2 v3 (v4 + (1 : Int32)) f hW h0 (by omega)  (by omega))
      · refine po_eq (fun q7 => ?_) (fun q7 => ?_)
        · exact po_ret ⟨rfl, rfl, ⟨fun E hE => (by cases hE), fun y hy => by cases hy; exact trivial⟩⟩
        · unfold mX8_like_b47
          have e8 : (v4 + (1 : Int32)).toInt = v4.toInt + 1 := i_add rfl kt_1 (by omega)
          exact (ih v0 v1 v2 (v3 + (1 : Int32)) (v4 + (1 : Int32)) f hW h0 (by omega)  (by omega))
end
