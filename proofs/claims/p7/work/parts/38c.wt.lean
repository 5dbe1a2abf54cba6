set_option maxHeartbeats 1000000 in
theorem tX1_find_l35 {G : TE} {F0 : AH} {S : Int32} {n : Nat} : ∀ (d : Nat) (v0 : Nat) (v2 : Option Nat) (v3 : Int32) (f : AH), WT G F0 S f n → G.1 v0 = 1 → (∃ i, v2 = some i ∧ G.1 i = 7) → (0 ≤ v3.toInt ∧ v3.toInt ≤ 2000) → 3000 - v3.toInt < (d : Int) → PO (mX1_find_l35 d v0 v2 v3 f n) (fun v f' n' => n' = n ∧ WT G F0 S f' n ∧ (True)) := by
  intro d
  induction d with
  | zero =>
    intro v0 v2 v3 f hW h0 h1 h2  hm
    exfalso
    obtain ⟨iv2, rfl, h1⟩ := h1
    omega
  | succ d ih =>
    intro v0 v2 v3 f hW h0 h1 h2  hm
    obtain ⟨iv2, rfl, h1⟩ := h1
    show PO (if (600 : Int32) < v3 then mX1_find_b174 f n else ((gI f v0 1 3).bind fun x1 => ((gR f v0 1 2).bind fun x2 => ((x2).bind fun j3 => ((gL f j3).bind fun x4 => (if (nI x4) ≤ x1 then mX1_find_b174 f n else ((gR f v0 1 4).bind fun x5 => ((x5).bind fun j6 => rCk (isO f j6 6) (((mX6_next j6 f n).bind fun r8 => (if r8.1 = (0 : Int32) then mX1_find_b174 r8.2.1 r8.2.2 else (((some iv2)).bind fun j10 => ((gI r8.2.1 j10 7 1).bind fun x11 => (if x11 = (0 : Int32) then ((gR r8.2.1 v0 1 4).bind fun x12 => rCk (isO r8.2.1 j10 7) (((mX7_isLocked j10 x12 r8.2.1 r8.2.2).bind fun r14 => (if r14.1 = (0 : Int32) then mX1_find_b82 (fun v0 v2 v3 f n => mX1_find_l35 d v0 v2 v3 f n) v0 (some j10) v3 r14.2.1 r14.2.2 else mX1_find_b168 (fun v0 v2 v3 f n => mX1_find_l35 d v0 v2 v3 f n) v0 (some j10) v3 r14.2.1 r14.2.2)))) else mX1_find_b82 (fun v0 v2 v3 f n => mX1_find_l35 d v0 v2 v3 f n) v0 (some j10) v3 r8.2.1 r8.2.2)))))))))))))) _
    refine po_lt kt_600 rfl (fun q1 => ?_) (fun q1 => ?_)
    · unfold mX1_find_b174
      exact po_ret ⟨rfl, hW, trivial⟩
    · refine po_gI hW h0 rfl rfl (by decide) (fun x2x ex2 (hx2 : 0 ≤ x2x.toInt ∧ x2x.toInt ≤ 40) => ?_)
      refine po_gRn (t := 13) hW h0 rfl rfl (by decide) (fun i3 ex3 hi3 => ?_)
      refine po_some ?_
      refine po_gL (N := 40) hW hi3 rfl rfl (by decide) ?_
      refine po_le kn_40 rfl (fun q4 => ?_) (fun q4 => ?_)
      · unfold mX1_find_b174
        exact po_ret ⟨rfl, hW, trivial⟩
      · refine po_gRn (t := 6) hW h0 rfl rfl (by decide) (fun i5 ex5 hi5 => ?_)
        refine po_some ?_
        refine po_ck (wt_isO hW hi5 (by decide)) ?_
        refine po_w (tX6_next hW hi5) (fun y6 g6 hW6 p6 => ?_)
        dsimp only
        refine po_eq (fun q7 => ?_) (fun q7 => ?_)
        · unfold mX1_find_b174
          exact po_ret ⟨rfl, hW6, trivial⟩
        · refine po_some ?_
          refine po_gI hW6 h1 rfl rfl (by decide) (fun x8x ex8 (_ : True) => ?_)
          refine po_eq (fun q9 => ?_) (fun q9 => ?_)
          · refine po_gRn (t := 6) hW6 h0 rfl rfl (by decide) (fun i10 ex10 hi10 => ?_)
            refine po_ck (wt_isO hW6 h1 (by decide)) ?_
            refine po_ro (tX7_isLocked hW6 h1 ⟨_, rfl, hi10⟩) (fun y11 ex11 p11 => ?_)
            dsimp only
            refine po_eq (fun q12 => ?_) (fun q12 => ?_)
            · unfold mX1_find_b82
              refine po_some ?_
              refine po_gI hW6 h1 rfl rfl (by decide) (fun x13x ex13 (_ : True) => ?_)
              refine po_eq (fun q14 => ?_) (fun q14 => ?_)
              · refine po_gRm hW6 h0 rfl rfl (fun i15 ex15 hi15 hm15 => ?_)
                refine po_some ?_
                refine po_ck (wt_isO hW6 hi15 (by decide)) ?_
                refine po_ro (tX5_size hW6 hi15) (fun y16 ex16 p16 => ?_)
                dsimp only
                refine po_bind ex15 ?_
                refine po_gRm hW6 h0 rfl rfl (fun i17 ex17 hi17 hm17 => ?_)
                refine po_ck (wt_isO hW6 h0 (by decide)) ?_
                refine po_w (tX1_readOuter hW6 h0 ⟨_, rfl, hi15, hm15⟩ ⟨_, rfl, hi17, hm17⟩) (fun y18 g18 hW18 p18 => ?_)
                dsimp only
                refine po_gRn (t := 6) hW18 h0 rfl rfl (by decide) (fun i19 ex19 hi19 => ?_)
                refine po_some ?_
                refine po_gI hW18 hi19 rfl rfl (by decide) (fun x20x ex20 (hx20 : 0 ≤ x20x.toInt ∧ x20x.toInt ≤ 702) => ?_)
                refine po_bind ex19 ?_
                refine po_some ?_
                refine po_gI hW18 hi19 rfl rfl (by decide) (fun x21x ex21 (hx21 : (-1) ≤ x21x.toInt ∧ x21x.toInt ≤ 702) => ?_)
                refine po_ck (wt_isO hW18 h0 (by decide)) ?_
                refine po_w (tX1_settle hW18 h0 ⟨_, rfl, h1⟩ (by omega)) (fun y22 g22 hW22 p22 => ?_)
                dsimp only
                unfold mX1_find_b168
                have e23 : (v3 + (1 : Int32)).toInt = v3.toInt + 1 := i_add rfl kt_1 (by omega)
                exact (ih v0 (some iv2) (v3 + (1 : Int32)) g22 hW22 h0 ⟨_, rfl, h1⟩ (by omega)  (by omega))
              · refine po_gRm hW6 h0 rfl rfl (fun i24 ex24 hi24 hm24 => ?_)
                refine po_some ?_
                refine po_ck (wt_isO hW6 hi24 (by decide)) ?_
                refine po_w (tX5_cutTo hW6 hi24 hm24) (fun y25 g25 hW25 p25 => ?_)
                dsimp only
                refine po_gRm hW25 h0 rfl rfl (fun i26 ex26 hi26 hm26 => ?_)
                refine po_some ?_
                refine po_ck (wt_isO hW25 hi26 (by decide)) ?_
                refine po_w (tX5_cutTo hW25 hi26 hm26) (fun y27 g27 hW27 p27 => ?_)
                dsimp only
                refine po_gRm hW27 h0 rfl rfl (fun i28 ex28 hi28 hm28 => ?_)
                refine po_gRm hW27 h0 rfl rfl (fun i29 ex29 hi29 hm29 => ?_)
                refine po_ck (wt_isO hW27 h0 (by decide)) ?_
                refine po_w (tX1_readOuter hW27 h0 ⟨_, rfl, hi28, hm28⟩ ⟨_, rfl, hi29, hm29⟩) (fun y30 g30 hW30 p30 => ?_)
                dsimp only
                refine po_ck (wt_isO hW30 h0 (by decide)) ?_
                refine po_w (tX1_takeWithin hW30 h0 ⟨_, rfl, h1⟩) (fun y31 g31 hW31 p31 => ?_)
                dsimp only
                unfold mX1_find_b168
                have e32 : (v3 + (1 : Int32)).toInt = v3.toInt + 1 := i_add rfl kt_1 (by omega)
                exact (ih v0 (some iv2) (v3 + (1 : Int32)) g31 hW31 h0 ⟨_, rfl, h1⟩ (by omega)  (by omega))
            · unfold mX1_find_b168
              have e33 : (v3 + (1 : Int32)).toInt = v3.toInt + 1 := i_add rfl kt_1 (by omega)
              exact (ih v0 (some iv2) (v3 + (1 : Int32)) g6 hW6 h0 ⟨_, rfl, h1⟩ (by omega)  (by omega))
          · unfold mX1_find_b82
            refine po_some ?_
            refine po_gI hW6 h1 rfl rfl (by decide) (fun x34x ex34 (_ : True) => ?_)
            refine po_eq (fun q35 => ?_) (fun q35 => ?_)
            · refine po_gRm hW6 h0 rfl rfl (fun i36 ex36 hi36 hm36 => ?_)
              refine po_some ?_
              refine po_ck (wt_isO hW6 hi36 (by decide)) ?_
              refine po_ro (tX5_size hW6 hi36) (fun y37 ex37 p37 => ?_)
              dsimp only
              refine po_bind ex36 ?_
              refine po_gRm hW6 h0 rfl rfl (fun i38 ex38 hi38 hm38 => ?_)
              refine po_ck (wt_isO hW6 h0 (by decide)) ?_
              refine po_w (tX1_readOuter hW6 h0 ⟨_, rfl, hi36, hm36⟩ ⟨_, rfl, hi38, hm38⟩) (fun y39 g39 hW39 p39 => ?_)
              dsimp only
              refine po_gRn (t := 6) hW39 h0 rfl rfl (by decide) (fun i40 ex40 hi40 => ?_)
              refine po_some ?_
              refine po_gI hW39 hi40 rfl rfl (by decide) (fun x41x ex41 (hx41 : 0 ≤ x41x.toInt ∧ x41x.toInt ≤ 702) => ?_)
              refine po_bind ex40 ?_
              refine po_some ?_
              refine po_gI hW39 hi40 rfl rfl (by decide) (fun x42x ex42 (hx42 : (-1) ≤ x42x.toInt ∧ x42x.toInt ≤ 702) => ?_)
              refine po_ck (wt_isO hW39 h0 (by decide)) ?_
              refine po_w (tX1_settle hW39 h0 ⟨_, rfl, h1⟩ (by omega)) (fun y43 g43 hW43 p43 => ?_)
              dsimp only
              unfold mX1_find_b168
              have e44 : (v3 + (1 : Int32)).toInt = v3.toInt + 1 := i_add rfl kt_1 (by omega)
              exact (ih v0 (some iv2) (v3 + (1 : Int32)) g43 hW43 h0 ⟨_, rfl, h1⟩ (by omega)  (by omega))
            · refine po_gRm hW6 h0 rfl rfl (fun i45 ex45 hi45 hm45 => ?_)
              refine po_some ?_
              refine po_ck (wt_isO hW6 hi45 (by decide)) ?_
              refine po_w (tX5_cutTo hW6 hi45 hm45) (fun y46 g46 hW46 p46 => ?_)
              dsimp only
              refine po_gRm hW46 h0 rfl rfl (fun i47 ex47 hi47 hm47 => ?_)
              refine po_some ?_
              refine po_ck (wt_isO hW46 hi47 (by decide)) ?_
              refine po_w (tX5_cutTo hW46 hi47 hm47) (fun y48 g48 hW48 p48 => ?_)
              dsimp only
              refine po_gRm hW48 h0 rfl rfl (fun i49 ex49 hi49 hm49 => ?_)
              refine po_gRm hW48 h0 rfl rfl (fun i50 ex50 hi50 hm50 => ?_)
              refine po_ck (wt_isO hW48 h0 (by decide)) ?_
              refine po_w (tX1_readOuter hW48 h0 ⟨_, rfl, hi49, hm49⟩ ⟨_, rfl, hi50, hm50⟩) (fun y51 g51 hW51 p51 => ?_)
              dsimp only
              refine po_ck (wt_isO hW51 h0 (by decide)) ?_
              refine po_w (tX1_takeWithin hW51 h0 ⟨_, rfl, h1⟩) (fun y52 g52 hW52 p52 => ?_)
              dsimp only
              unfold mX1_find_b168
              have e53 : (v3 + (1 : Int32)).toInt = v3.toInt + 1 := i_add rfl kt_1 (by omega)
              exact (ih v0 (some iv2) (v3 + (1 : Int32)) g52 hW52 h0 ⟨_, rfl, h1⟩ (by omega)  (by omega))
set_option maxHeartbeats 1000000 in
theorem tX1_find {G : TE} {F0 : AH} {S : Int32} {f : AH} {n : Nat} {v0 : Nat} {v1 : Option Nat} {v2 : Option Nat} (hW : WT G F0 S f n) (h0 : G.1 v0 = 1) (h1 : (∃ i, v1 = some i ∧ G.1 i = 5)) (h2 : (∃ i, v2 = some i ∧ G.1 i = 7)) : PO (mX1_find v0 v1 v2 f n) (fun v f' n' => n' = n ∧ WT G F0 S f' n ∧ (True)) := by
  obtain ⟨iv1, rfl, h1⟩ := h1
  obtain ⟨iv2, rfl, h2⟩ := h2
  have k_kt_0 := kt_0
  unfold mX1_find
  refine po_pI hW h0 rfl rfl (vv_i (by decide) (vi3 (by omega))) (fun g1 hW1 ex1 => ?_)
  refine po_gRm hW1 h0 rfl rfl (fun i2 ex2 hi2 hm2 => ?_)
  refine po_some ?_
  refine po_ck (wt_isO hW1 hi2 (by decide)) ?_
  refine po_w (tX5_cutTo hW1 hi2 hm2) (fun y3 g3 hW3 p3 => ?_)
  dsimp only
  refine po_gRm hW3 h0 rfl rfl (fun i4 ex4 hi4 hm4 => ?_)
  refine po_some ?_
  refine po_ck (wt_isO hW3 hi4 (by decide)) ?_
  refine po_w (tX5_cutTo hW3 hi4 hm4) (fun y5 g5 hW5 p5 => ?_)
  dsimp only
  refine po_gRn (t := 6) hW5 h0 rfl rfl (by decide) (fun i6 ex6 hi6 => ?_)
  refine po_some ?_
  refine po_gI hW5 h2 rfl rfl (by decide) (fun x7x ex7 (_ : True) => ?_)
  refine po_some ?_
  refine po_ck (wt_isO hW5 hi6 (by decide)) ?_
  refine po_w (tX6_start hW5 hi6 ⟨_, rfl, h1⟩) (fun y8 g8 hW8 p8 => ?_)
  dsimp only
  exact (tX1_find_l35 rFU v0 (some iv2) (0 : Int32) g8 hW8 h0 ⟨_, rfl, h2⟩ (by omega)  (by unfold rFU; omega))
set_option maxHeartbeats 1000000 in
theorem tX1_size {G : TE} {F0 : AH} {S : Int32} {f : AH} {n : Nat} {v0 : Nat} (hW : WT G F0 S f n) (h0 : G.1 v0 = 1) : PO (mX1_size v0 f n) (fun v f' n' => f' = f ∧ n' = n ∧ (0 ≤ v.toInt ∧ v.toInt ≤ 40)) := by
  unfold mX1_size
  refine po_gI hW h0 rfl rfl (by decide) (fun x1x ex1 (hx1 : 0 ≤ x1x.toInt ∧ x1x.toInt ≤ 40) => ?_)
  exact po_ret ⟨rfl, rfl, (by omega)⟩
set_option maxHeartbeats 1000000 in
theorem tX1_get {G : TE} {F0 : AH} {S : Int32} {f : AH} {n : Nat} {v0 : Nat} {v1 : Int32} (hW : WT G F0 S f n) (h0 : G.1 v0 = 1) : PO (mX1_get v0 v1 f n) (fun v f' n' => f' = f ∧ n' = n ∧ (∀ i, v = some i → G.1 i = 3)) := by
  unfold mX1_get
  refine po_lt rfl kt_0 (fun q1 => ?_) (fun q1 => ?_)
  · unfold mX1_get_b30
    unfold mX1_get_b31
    exact po_ret ⟨rfl, rfl, (fun _ hi => nomatch hi)⟩
  · refine po_gI hW h0 rfl rfl (by decide) (fun x2x ex2 (hx2 : 0 ≤ x2x.toInt ∧ x2x.toInt ≤ 40) => ?_)
    refine po_le rfl rfl (fun q3 => ?_) (fun q3 => ?_)
    · unfold mX1_get_b30
      unfold mX1_get_b31
      exact po_ret ⟨rfl, rfl, (fun _ hi => nomatch hi)⟩
    · refine po_gRn (t := 13) hW h0 rfl rfl (by decide) (fun i4 ex4 hi4 => ?_)
      refine po_some ?_
      refine po_gL (N := 40) hW hi4 rfl rfl (by decide) ?_
      refine po_le kn_40 rfl (fun q5 => ?_) (fun q5 => ?_)
      · unfold mX1_get_b30
        unfold mX1_get_b31
        exact po_ret ⟨rfl, rfl, (fun _ hi => nomatch hi)⟩
      · refine po_bind ex4 ?_
        refine po_some ?_
        refine po_gRAn (N := 40) (T := 3) hW hi4 rfl rfl rfl (by decide) (by omega) (fun i6 hi6 => ?_)
        unfold mX1_get_b31
        exact po_ret ⟨rfl, rfl, (fun _ hi => Option.some.inj hi ▸ hi6)⟩
set_option maxHeartbeats 1000000 in
theorem tX7_toldFor {G : TE} {F0 : AH} {S : Int32} {f : AH} {n : Nat} {v0 : Nat} {v1 : Int32} (hW : WT G F0 S f n) (h0 : G.1 v0 = 7) : PO (mX7_toldFor v0 v1 f n) (fun v f' n' => f' = f ∧ n' = n ∧ (∀ i, v = some i → G.1 i = 5)) := by
  unfold mX7_toldFor
  refine po_lt rfl kt_0 (fun q1 => ?_) (fun q1 => ?_)
  · unfold mX7_toldFor_b22
    unfold mX7_toldFor_b23
    exact po_ret ⟨rfl, rfl, (fun _ hi => nomatch hi)⟩
  · refine po_gRn (t := 11) hW h0 rfl rfl (by decide) (fun i2 ex2 hi2 => ?_)
    refine po_some ?_
    refine po_gL (N := 40) hW hi2 rfl rfl (by decide) ?_
    refine po_le kn_40 rfl (fun q3 => ?_) (fun q3 => ?_)
    · unfold mX7_toldFor_b22
      unfold mX7_toldFor_b23
      exact po_ret ⟨rfl, rfl, (fun _ hi => nomatch hi)⟩
    · refine po_bind ex2 ?_
      refine po_some ?_
      refine po_gRAo (N := 40) hW hi2 rfl rfl (by omega) (fun i4 hi4 => ?_)
      unfold mX7_toldFor_b23
      exact po_ret ⟨rfl, rfl, hi4⟩
set_option maxHeartbeats 1000000 in
theorem tX5_breaksCell_l2 {G : TE} {F0 : AH} {S : Int32} {n : Nat} : ∀ (d : Nat) (v0 : Nat) (v1 : Int32) (f : AH), WT G F0 S f n → G.1 v0 = 5 → (0 ≤ v1.toInt ∧ v1.toInt ≤ 2000) → 3000 - v1.toInt < (d : Int) → PO (mX5_breaksCell_l2 d v0 v1 f n) (fun v f' n' => f' = f ∧ n' = n ∧ (v = 0 ∨ v = 1)) := by
  intro d
  induction d with
  | zero =>
    intro v0 v1 f hW h0 h1  hm
    exfalso
    omega
  | succ d ih =>
    intro v0 v1 f hW h0 h1  hm
    show PO ((gI f v0 5 1).bind fun x1 => (if x1 ≤ v1 then mX5_breaksCell_b60 f n else ((gR f v0 5 0).bind fun x2 => ((x2).bind fun j3 => ((gL f j3).bind fun x4 => (if (nI x4) ≤ v1 then mX5_breaksCell_b60 f n else ((gR f v0 5 0).bind fun x5 => ((x5).bind fun j6 => ((gIA f j6 v1).bind fun x7 => (if x7 = (44 : Int32) then mX5_breaksCell_b52 f n else ((gR f v0 5 0).bind fun x8 => ((x8).bind fun j9 => ((gIA f j9 v1).bind fun x10 => (if x10 = (34 : Int32) then mX5_breaksCell_b52 f n else ((gR f v0 5 0).bind fun x11 => ((x11).bind fun j12 => ((gIA f j12 v1).bind fun x13 => (if x13 = (10 : Int32) then mX5_breaksCell_b52 f n else mX5_breaksCell_l2 d v0 (v1 + (1 : Int32)) f n)))))))))))))))))) _
    refine po_rs hW h0 (fun x1x ex1 hx1 hy1 => ?_)
    refine po_le rfl rfl (fun q2 => ?_) (fun q2 => ?_)
    · unfold mX5_breaksCell_b60
      refine po_ck rfl ?_
      exact po_ret ⟨rfl, rfl, (Or.inl rfl)⟩
    · refine po_rb hW h0 ?_
      refine po_some ?_
      refine po_rl hW h0 (fun N4 ha4 hb4 hc4 => ?_)
      refine po_le hc4 rfl (fun q5 => ?_) (fun q5 => ?_)
      · unfold mX5_breaksCell_b60
        refine po_ck rfl ?_
        exact po_ret ⟨rfl, rfl, (Or.inl rfl)⟩
      · refine po_rb hW h0 ?_
        refine po_some ?_
        refine po_ria hW h0 (by omega) (fun x7x => ?_)
        refine po_eq (fun q8 => ?_) (fun q8 => ?_)
        · unfold mX5_breaksCell_b52
          refine po_ck rfl ?_
          exact po_ret ⟨rfl, rfl, (Or.inr rfl)⟩
        · refine po_rb hW h0 ?_
          refine po_some ?_
          refine po_ria hW h0 (by omega) (fun x10x => ?_)
          refine po_eq (fun q11 => ?_) (fun q11 => ?_)
          · unfold mX5_breaksCell_b52
            refine po_ck rfl ?_
            exact po_ret ⟨rfl, rfl, (Or.inr rfl)⟩
          · refine po_rb hW h0 ?_
            refine po_some ?_
            refine po_ria hW h0 (by omega) (fun x13x => ?_)
            refine po_eq (fun q14 => ?_) (fun q14 => ?_)
            · unfold mX5_breaksCell_b52
              refine po_ck rfl ?_
              exact po_ret ⟨rfl, rfl, (Or.inr rfl)⟩
            · have e15 : (v1 + (1 : Int32)).toInt = v1.toInt + 1 := i_add rfl kt_1 (by omega)
              exact (ih v0 (v1 + (1 : Int32)) f hW h0 (by omega)  (by omega))
set_option maxHeartbeats 1000000 in
theorem tX5_breaksCell {G : TE} {F0 : AH} {S : Int32} {f : AH} {n : Nat} {v0 : Nat} (hW : WT G F0 S f n) (h0 : G.1 v0 = 5) : PO (mX5_breaksCell v0 f n) (fun v f' n' => f' = f ∧ n' = n ∧ (v = 0 ∨ v = 1)) := by
  have k_kt_0 := kt_0
  unfold mX5_breaksCell
  exact (tX5_breaksCell_l2 rFU v0 (0 : Int32) f hW h0 (by omega)  (by unfold rFU; omega))
set_option maxHeartbeats 1000000 in
theorem tX0_addInLine {G : TE} {F0 : AH} {S : Int32} {f : AH} {n : Nat} {v0 : Int32} {v1 : Option Nat} {v2 : Int32} (hW : WT G F0 S f n) (h0 : (∃ i, v1 = some i ∧ G.1 i = 5 ∧ i ≠ 1)) : PO (mX0_addInLine v0 v1 v2 f n) (fun v f' n' => n' = n ∧ WT G F0 S f' n ∧ (True)) := by
  obtain ⟨iv1, rfl, h0, h0m⟩ := h0
  unfold mX0_addInLine
  refine po_eq (fun q1 => ?_) (fun q1 => ?_)
  · unfold mX0_addInLine_b28
    refine po_some ?_
    refine po_ck (wt_isO hW h0 (by decide)) ?_
    refine po_w (tX5_add hW h0 h0m) (fun y2 g2 hW2 p2 => ?_)
    dsimp only
    unfold mX0_addInLine_b35
    refine po_eq (fun q3 => ?_) (fun q3 => ?_)
    · unfold mX0_addInLine_b59
      refine po_some ?_
      refine po_ck (wt_isO hW2 h0 (by decide)) ?_
      refine po_w (tX5_add hW2 h0 h0m) (fun y4 g4 hW4 p4 => ?_)
      dsimp only
      exact po_ret ⟨rfl, hW4, trivial⟩
    · refine po_eq (fun q5 => ?_) (fun q5 => ?_)
      · unfold mX0_addInLine_b59
        refine po_some ?_
        refine po_ck (wt_isO hW2 h0 (by decide)) ?_
        refine po_w (tX5_add hW2 h0 h0m) (fun y6 g6 hW6 p6 => ?_)
        dsimp only
        exact po_ret ⟨rfl, hW6, trivial⟩
      · unfold mX0_addInLine_b59
        refine po_some ?_
        refine po_ck (wt_isO hW2 h0 (by decide)) ?_
        refine po_w (tX5_add hW2 h0 h0m) (fun y7 g7 hW7 p7 => ?_)
        dsimp only
        exact po_ret ⟨rfl, hW7, trivial⟩
  · refine po_eq (fun q8 => ?_) (fun q8 => ?_)
    · unfold mX0_addInLine_b28
      refine po_some ?_
      refine po_ck (wt_isO hW h0 (by decide)) ?_
      refine po_w (tX5_add hW h0 h0m) (fun y9 g9 hW9 p9 => ?_)
      dsimp only
      unfold mX0_addInLine_b35
      refine po_eq (fun q10 => ?_) (fun q10 => ?_)
      · unfold mX0_addInLine_b59
        refine po_some ?_
        refine po_ck (wt_isO hW9 h0 (by decide)) ?_
        refine po_w (tX5_add hW9 h0 h0m) (fun y11 g11 hW11 p11 => ?_)
        dsimp only
        exact po_ret ⟨rfl, hW11, trivial⟩
      · refine po_eq (fun q12 => ?_) (fun q12 => ?_)
        · unfold mX0_addInLine_b59
          refine po_some ?_
          refine po_ck (wt_isO hW9 h0 (by decide)) ?_
          refine po_w (tX5_add hW9 h0 h0m) (fun y13 g13 hW13 p13 => ?_)
          dsimp only
          exact po_ret ⟨rfl, hW13, trivial⟩
        · unfold mX0_addInLine_b59
          refine po_some ?_
          refine po_ck (wt_isO hW9 h0 (by decide)) ?_
          refine po_w (tX5_add hW9 h0 h0m) (fun y14 g14 hW14 p14 => ?_)
          dsimp only
          exact po_ret ⟨rfl, hW14, trivial⟩
    · refine po_eq (fun q15 => ?_) (fun q15 => ?_)
      · unfold mX0_addInLine_b28
        refine po_some ?_
        refine po_ck (wt_isO hW h0 (by decide)) ?_
        refine po_w (tX5_add hW h0 h0m) (fun y16 g16 hW16 p16 => ?_)
        dsimp only
        unfold mX0_addInLine_b35
        refine po_eq (fun q17 => ?_) (fun q17 => ?_)
        · unfold mX0_addInLine_b59
          refine po_some ?_
          refine po_ck (wt_isO hW16 h0 (by decide)) ?_
          refine po_w (tX5_add hW16 h0 h0m) (fun y18 g18 hW18 p18 => ?_)
          dsimp only
          exact po_ret ⟨rfl, hW18, trivial⟩
        · refine po_eq (fun q19 => ?_) (fun q19 => ?_)
          · unfold mX0_addInLine_b59
            refine po_some ?_
            refine po_ck (wt_isO hW16 h0 (by decide)) ?_
            refine po_w (tX5_add hW16 h0 h0m) (fun y20 g20 hW20 p20 => ?_)
            dsimp only
            exact po_ret ⟨rfl, hW20, trivial⟩
          · unfold mX0_addInLine_b59
            refine po_some ?_
            refine po_ck (wt_isO hW16 h0 (by decide)) ?_
            refine po_w (tX5_add hW16 h0 h0m) (fun y21 g21 hW21 p21 => ?_)
            dsimp only
            exact po_ret ⟨rfl, hW21, trivial⟩
      · refine po_eq (fun q22 => ?_) (fun q22 => ?_)
        · refine po_eq (fun q23 => ?_) (fun q23 => ?_)
          · unfold mX0_addInLine_b35
            refine po_eq (fun q24 => ?_) (fun q24 => ?_)
            · unfold mX0_addInLine_b59
              refine po_some ?_
              refine po_ck (wt_isO hW h0 (by decide)) ?_
              refine po_w (tX5_add hW h0 h0m) (fun y25 g25 hW25 p25 => ?_)
              dsimp only
              exact po_ret ⟨rfl, hW25, trivial⟩
            · refine po_eq (fun q26 => ?_) (fun q26 => ?_)
              · unfold mX0_addInLine_b59
                refine po_some ?_
                refine po_ck (wt_isO hW h0 (by decide)) ?_
                refine po_w (tX5_add hW h0 h0m) (fun y27 g27 hW27 p27 => ?_)
                dsimp only
                exact po_ret ⟨rfl, hW27, trivial⟩
              · unfold mX0_addInLine_b59
                refine po_some ?_
                refine po_ck (wt_isO hW h0 (by decide)) ?_
                refine po_w (tX5_add hW h0 h0m) (fun y28 g28 hW28 p28 => ?_)
                dsimp only
                exact po_ret ⟨rfl, hW28, trivial⟩
          · unfold mX0_addInLine_b28
            refine po_some ?_
            refine po_ck (wt_isO hW h0 (by decide)) ?_
            refine po_w (tX5_add hW h0 h0m) (fun y29 g29 hW29 p29 => ?_)
            dsimp only
            unfold mX0_addInLine_b35
            refine po_eq (fun q30 => ?_) (fun q30 => ?_)
            · unfold mX0_addInLine_b59
              refine po_some ?_
              refine po_ck (wt_isO hW29 h0 (by decide)) ?_
              refine po_w (tX5_add hW29 h0 h0m) (fun y31 g31 hW31 p31 => ?_)
              dsimp only
              exact po_ret ⟨rfl, hW31, trivial⟩
            · refine po_eq (fun q32 => ?_) (fun q32 => ?_)
              · unfold mX0_addInLine_b59
                refine po_some ?_
                refine po_ck (wt_isO hW29 h0 (by decide)) ?_
                refine po_w (tX5_add hW29 h0 h0m) (fun y33 g33 hW33 p33 => ?_)
                dsimp only
                exact po_ret ⟨rfl, hW33, trivial⟩
              · unfold mX0_addInLine_b59
                refine po_some ?_
                refine po_ck (wt_isO hW29 h0 (by decide)) ?_
                refine po_w (tX5_add hW29 h0 h0m) (fun y34 g34 hW34 p34 => ?_)
                dsimp only
                exact po_ret ⟨rfl, hW34, trivial⟩
        · unfold mX0_addInLine_b35
          refine po_eq (fun q35 => ?_) (fun q35 => ?_)
          · unfold mX0_addInLine_b59
            refine po_some ?_
            refine po_ck (wt_isO hW h0 (by decide)) ?_
            refine po_w (tX5_add hW h0 h0m) (fun y36 g36 hW36 p36 => ?_)
            dsimp only
            exact po_ret ⟨rfl, hW36, trivial⟩
          · refine po_eq (fun q37 => ?_) (fun q37 => ?_)
            · unfold mX0_addInLine_b59
              refine po_some ?_
              refine po_ck (wt_isO hW h0 (by decide)) ?_
              refine po_w (tX5_add hW h0 h0m) (fun y38 g38 hW38 p38 => ?_)
              dsimp only
              exact po_ret ⟨rfl, hW38, trivial⟩
            · unfold mX0_addInLine_b59
              refine po_some ?_
              refine po_ck (wt_isO hW h0 (by decide)) ?_
              refine po_w (tX5_add hW h0 h0m) (fun y39 g39 hW39 p39 => ?_)
              dsimp only
              exact po_ret ⟨rfl, hW39, trivial⟩
set_option maxHeartbeats 1000000 in
theorem tX0_addDoubled {G : TE} {F0 : AH} {S : Int32} {f : AH} {n : Nat} {v0 : Int32} {v1 : Option Nat} (hW : WT G F0 S f n) (h0 : (∃ i, v1 = some i ∧ G.1 i = 5 ∧ i ≠ 1)) : PO (mX0_addDoubled v0 v1 f n) (fun v f' n' => n' = n ∧ WT G F0 S f' n ∧ (True)) := by
  obtain ⟨iv1, rfl, h0, h0m⟩ := h0
  unfold mX0_addDoubled
  refine po_eq (fun q1 => ?_) (fun q1 => ?_)
  · refine po_some ?_
    refine po_ck (wt_isO hW h0 (by decide)) ?_
    refine po_w (tX5_add hW h0 h0m) (fun y2 g2 hW2 p2 => ?_)
    dsimp only
    unfold mX0_addDoubled_b13
    refine po_some ?_
    refine po_ck (wt_isO hW2 h0 (by decide)) ?_
    refine po_w (tX5_add hW2 h0 h0m) (fun y3 g3 hW3 p3 => ?_)
    dsimp only
    exact po_ret ⟨rfl, hW3, trivial⟩
  · unfold mX0_addDoubled_b13
    refine po_some ?_
    refine po_ck (wt_isO hW h0 (by decide)) ?_
    refine po_w (tX5_add hW h0 h0m) (fun y4 g4 hW4 p4 => ?_)
    dsimp only
    exact po_ret ⟨rfl, hW4, trivial⟩
set_option maxHeartbeats 1000000 in
theorem tX0_addInMarkup {G : TE} {F0 : AH} {S : Int32} {f : AH} {n : Nat} {v0 : Int32} {v1 : Option Nat} (hW : WT G F0 S f n) (h0 : (∃ i, v1 = some i ∧ G.1 i = 5 ∧ i ≠ 1)) : PO (mX0_addInMarkup v0 v1 f n) (fun v f' n' => n' = n ∧ WT G F0 S f' n ∧ (True)) := by
  obtain ⟨iv1, rfl, h0, h0m⟩ := h0
  unfold mX0_addInMarkup
  refine po_eq (fun q1 => ?_) (fun q1 => ?_)
  · unfold mX0_addInMarkup_b25
    refine po_some ?_
    refine po_ck (wt_isO hW h0 (by decide)) ?_
    refine po_w (tX5_add hW h0 h0m) (fun y2 g2 hW2 p2 => ?_)
    dsimp only
    refine po_eq (fun q3 => ?_) (fun q3 => ?_)
    · refine po_ck (wt_isO hW2 h0 (by decide)) ?_
      refine po_w (tX5_add hW2 h0 h0m) (fun y4 g4 hW4 p4 => ?_)
      dsimp only
      refine po_ck (wt_isO hW4 h0 (by decide)) ?_
      refine po_w (tX5_add hW4 h0 h0m) (fun y5 g5 hW5 p5 => ?_)
      dsimp only
      refine po_ck (wt_isO hW5 h0 (by decide)) ?_
      refine po_w (tX5_add hW5 h0 h0m) (fun y6 g6 hW6 p6 => ?_)
      dsimp only
      unfold mX0_addInMarkup_b87
      refine po_some ?_
      refine po_ck (wt_isO hW6 h0 (by decide)) ?_
      refine po_w (tX5_add hW6 h0 h0m) (fun y7 g7 hW7 p7 => ?_)
      dsimp only
      exact po_ret ⟨rfl, hW7, trivial⟩
    · refine po_eq (fun q8 => ?_) (fun q8 => ?_)
      · unfold mX0_addInMarkup_b76
        refine po_some ?_
        refine po_ck (wt_isO hW2 h0 (by decide)) ?_
        refine po_w (tX5_add hW2 h0 h0m) (fun y9 g9 hW9 p9 => ?_)
        dsimp only
        refine po_some ?_
        refine po_ck (wt_isO hW9 h0 (by decide)) ?_
        refine po_w (tX5_add hW9 h0 h0m) (fun y10 g10 hW10 p10 => ?_)
        dsimp only
        unfold mX0_addInMarkup_b87
        refine po_some ?_
        refine po_ck (wt_isO hW10 h0 (by decide)) ?_
        refine po_w (tX5_add hW10 h0 h0m) (fun y11 g11 hW11 p11 => ?_)
        dsimp only
        exact po_ret ⟨rfl, hW11, trivial⟩
      · unfold mX0_addInMarkup_b76
        refine po_some ?_
        refine po_ck (wt_isO hW2 h0 (by decide)) ?_
        refine po_w (tX5_add hW2 h0 h0m) (fun y12 g12 hW12 p12 => ?_)
        dsimp only
        refine po_some ?_
        refine po_ck (wt_isO hW12 h0 (by decide)) ?_
        refine po_w (tX5_add hW12 h0 h0m) (fun y13 g13 hW13 p13 => ?_)
        dsimp only
        unfold mX0_addInMarkup_b87
        refine po_some ?_
        refine po_ck (wt_isO hW13 h0 (by decide)) ?_
        refine po_w (tX5_add hW13 h0 h0m) (fun y14 g14 hW14 p14 => ?_)
        dsimp only
        exact po_ret ⟨rfl, hW14, trivial⟩
  · refine po_eq (fun q15 => ?_) (fun q15 => ?_)
    · unfold mX0_addInMarkup_b25
      refine po_some ?_
      refine po_ck (wt_isO hW h0 (by decide)) ?_
      refine po_w (tX5_add hW h0 h0m) (fun y16 g16 hW16 p16 => ?_)
      dsimp only
      refine po_eq (fun q17 => ?_) (fun q17 => ?_)
      · refine po_ck (wt_isO hW16 h0 (by decide)) ?_
        refine po_w (tX5_add hW16 h0 h0m) (fun y18 g18 hW18 p18 => ?_)
        dsimp only
        refine po_ck (wt_isO hW18 h0 (by decide)) ?_
        refine po_w (tX5_add hW18 h0 h0m) (fun y19 g19 hW19 p19 => ?_)
        dsimp only
        refine po_ck (wt_isO hW19 h0 (by decide)) ?_
        refine po_w (tX5_add hW19 h0 h0m) (fun y20 g20 hW20 p20 => ?_)
        dsimp only
        unfold mX0_addInMarkup_b87
        refine po_some ?_
        refine po_ck (wt_isO hW20 h0 (by decide)) ?_
        refine po_w (tX5_add hW20 h0 h0m) (fun y21 g21 hW21 p21 => ?_)
        dsimp only
        exact po_ret ⟨rfl, hW21, trivial⟩
      · refine po_eq (fun q22 => ?_) (fun q22 => ?_)
        · unfold mX0_addInMarkup_b76
          refine po_some ?_
          refine po_ck (wt_isO hW16 h0 (by decide)) ?_
          refine po_w (tX5_add hW16 h0 h0m) (fun y23 g23 hW23 p23 => ?_)
          dsimp only
          refine po_some ?_
          refine po_ck (wt_isO hW23 h0 (by decide)) ?_
          refine po_w (tX5_add hW23 h0 h0m) (fun y24 g24 hW24 p24 => ?_)
          dsimp only
          unfold mX0_addInMarkup_b87
          refine po_some ?_
          refine po_ck (wt_isO hW24 h0 (by decide)) ?_
          refine po_w (tX5_add hW24 h0 h0m) (fun y25 g25 hW25 p25 => ?_)
          dsimp only
          exact po_ret ⟨rfl, hW25, trivial⟩
        · unfold mX0_addInMarkup_b76
          refine po_some ?_
          refine po_ck (wt_isO hW16 h0 (by decide)) ?_
          refine po_w (tX5_add hW16 h0 h0m) (fun y26 g26 hW26 p26 => ?_)
          dsimp only
          refine po_some ?_
          refine po_ck (wt_isO hW26 h0 (by decide)) ?_
          refine po_w (tX5_add hW26 h0 h0m) (fun y27 g27 hW27 p27 => ?_)
          dsimp only
          unfold mX0_addInMarkup_b87
          refine po_some ?_
          refine po_ck (wt_isO hW27 h0 (by decide)) ?_
          refine po_w (tX5_add hW27 h0 h0m) (fun y28 g28 hW28 p28 => ?_)
          dsimp only
          exact po_ret ⟨rfl, hW28, trivial⟩
    · refine po_eq (fun q29 => ?_) (fun q29 => ?_)
      · unfold mX0_addInMarkup_b25
        refine po_some ?_
        refine po_ck (wt_isO hW h0 (by decide)) ?_
        refine po_w (tX5_add hW h0 h0m) (fun y30 g30 hW30 p30 => ?_)
        dsimp only
        refine po_eq (fun q31 => ?_) (fun q31 => ?_)
        · refine po_ck (wt_isO hW30 h0 (by decide)) ?_
          refine po_w (tX5_add hW30 h0 h0m) (fun y32 g32 hW32 p32 => ?_)
          dsimp only
          refine po_ck (wt_isO hW32 h0 (by decide)) ?_
          refine po_w (tX5_add hW32 h0 h0m) (fun y33 g33 hW33 p33 => ?_)
          dsimp only
          refine po_ck (wt_isO hW33 h0 (by decide)) ?_
          refine po_w (tX5_add hW33 h0 h0m) (fun y34 g34 hW34 p34 => ?_)
          dsimp only
          unfold mX0_addInMarkup_b87
          refine po_some ?_
          refine po_ck (wt_isO hW34 h0 (by decide)) ?_
          refine po_w (tX5_add hW34 h0 h0m) (fun y35 g35 hW35 p35 => ?_)
          dsimp only
          exact po_ret ⟨rfl, hW35, trivial⟩
        · refine po_eq (fun q36 => ?_) (fun q36 => ?_)
          · unfold mX0_addInMarkup_b76
            refine po_some ?_
            refine po_ck (wt_isO hW30 h0 (by decide)) ?_
            refine po_w (tX5_add hW30 h0 h0m) (fun y37 g37 hW37 p37 => ?_)
            dsimp only
            refine po_some ?_
            refine po_ck (wt_isO hW37 h0 (by decide)) ?_
            refine po_w (tX5_add hW37 h0 h0m) (fun y38 g38 hW38 p38 => ?_)
            dsimp only
            unfold mX0_addInMarkup_b87
            refine po_some ?_
            refine po_ck (wt_isO hW38 h0 (by decide)) ?_
            refine po_w (tX5_add hW38 h0 h0m) (fun y39 g39 hW39 p39 => ?_)
            dsimp only
            exact po_ret ⟨rfl, hW39, trivial⟩
          · unfold mX0_addInMarkup_b76
            refine po_some ?_
            refine po_ck (wt_isO hW30 h0 (by decide)) ?_
            refine po_w (tX5_add hW30 h0 h0m) (fun y40 g40 hW40 p40 => ?_)
            dsimp only
            refine po_some ?_
            refine po_ck (wt_isO hW40 h0 (by decide)) ?_
            refine po_w (tX5_add hW40 h0 h0m) (fun y41 g41 hW41 p41 => ?_)
            dsimp only
            unfold mX0_addInMarkup_b87
            refine po_some ?_
            refine po_ck (wt_isO hW41 h0 (by decide)) ?_
            refine po_w (tX5_add hW41 h0 h0m) (fun y42 g42 hW42 p42 => ?_)
            dsimp only
            exact po_ret ⟨rfl, hW42, trivial⟩
      · refine po_some ?_
        refine po_ck (wt_isO hW h0 (by decide)) ?_
        refine po_w (tX5_add hW h0 h0m) (fun y43 g43 hW43 p43 => ?_)
        dsimp only
        exact po_ret ⟨rfl, hW43, trivial⟩
set_option maxHeartbeats 1000000 in
theorem tX0_addInQuotes {G : TE} {F0 : AH} {S : Int32} {f : AH} {n : Nat} {v0 : Int32} {v1 : Option Nat} (hW : WT G F0 S f n) (h0 : (∃ i, v1 = some i ∧ G.1 i = 5 ∧ i ≠ 1)) : PO (mX0_addInQuotes v0 v1 f n) (fun v f' n' => n' = n ∧ WT G F0 S f' n ∧ (True)) := by
  obtain ⟨iv1, rfl, h0, h0m⟩ := h0
  unfold mX0_addInQuotes
  refine po_eq (fun q1 => ?_) (fun q1 => ?_)
  · unfold mX0_addInQuotes_b24
    refine po_some ?_
    refine po_ck (wt_isO hW h0 (by decide)) ?_
    refine po_w (tX5_add hW h0 h0m) (fun y2 g2 hW2 p2 => ?_)
    dsimp only
    unfold mX0_addInQuotes_b31
    refine po_eq (fun q3 => ?_) (fun q3 => ?_)
    · unfold mX0_addInQuotes_b55
      refine po_some ?_
      refine po_ck (wt_isO hW2 h0 (by decide)) ?_
      refine po_w (tX5_add hW2 h0 h0m) (fun y4 g4 hW4 p4 => ?_)
      dsimp only
      exact po_ret ⟨rfl, hW4, trivial⟩
    · refine po_eq (fun q5 => ?_) (fun q5 => ?_)
      · unfold mX0_addInQuotes_b55
        refine po_some ?_
        refine po_ck (wt_isO hW2 h0 (by decide)) ?_
        refine po_w (tX5_add hW2 h0 h0m) (fun y6 g6 hW6 p6 => ?_)
        dsimp only
        exact po_ret ⟨rfl, hW6, trivial⟩
      · unfold mX0_addInQuotes_b55
        refine po_some ?_
        refine po_ck (wt_isO hW2 h0 (by decide)) ?_
        refine po_w (tX5_add hW2 h0 h0m) (fun y7 g7 hW7 p7 => ?_)
        dsimp only
        exact po_ret ⟨rfl, hW7, trivial⟩
  · refine po_eq (fun q8 => ?_) (fun q8 => ?_)
    · unfold mX0_addInQuotes_b24
      refine po_some ?_
      refine po_ck (wt_isO hW h0 (by decide)) ?_
      refine po_w (tX5_add hW h0 h0m) (fun y9 g9 hW9 p9 => ?_)
      dsimp only
      unfold mX0_addInQuotes_b31
      refine po_eq (fun q10 => ?_) (fun q10 => ?_)
      · unfold mX0_addInQuotes_b55
        refine po_some ?_
        refine po_ck (wt_isO hW9 h0 (by decide)) ?_
        refine po_w (tX5_add hW9 h0 h0m) (fun y11 g11 hW11 p11 => ?_)
        dsimp only
        exact po_ret ⟨rfl, hW11, trivial⟩
      · refine po_eq (fun q12 => ?_) (fun q12 => ?_)
        · unfold mX0_addInQuotes_b55
          refine po_some ?_
          refine po_ck (wt_isO hW9 h0 (by decide)) ?_
          refine po_w (tX5_add hW9 h0 h0m) (fun y13 g13 hW13 p13 => ?_)
          dsimp only
          exact po_ret ⟨rfl, hW13, trivial⟩
        · unfold mX0_addInQuotes_b55
          refine po_some ?_
          refine po_ck (wt_isO hW9 h0 (by decide)) ?_
          refine po_w (tX5_add hW9 h0 h0m) (fun y14 g14 hW14 p14 => ?_)
          dsimp only
          exact po_ret ⟨rfl, hW14, trivial⟩
    · refine po_eq (fun q15 => ?_) (fun q15 => ?_)
      · unfold mX0_addInQuotes_b24
        refine po_some ?_
        refine po_ck (wt_isO hW h0 (by decide)) ?_
        refine po_w (tX5_add hW h0 h0m) (fun y16 g16 hW16 p16 => ?_)
        dsimp only
        unfold mX0_addInQuotes_b31
        refine po_eq (fun q17 => ?_) (fun q17 => ?_)
        · unfold mX0_addInQuotes_b55
          refine po_some ?_
          refine po_ck (wt_isO hW16 h0 (by decide)) ?_
          refine po_w (tX5_add hW16 h0 h0m) (fun y18 g18 hW18 p18 => ?_)
          dsimp only
          exact po_ret ⟨rfl, hW18, trivial⟩
        · refine po_eq (fun q19 => ?_) (fun q19 => ?_)
          · unfold mX0_addInQuotes_b55
            refine po_some ?_
            refine po_ck (wt_isO hW16 h0 (by decide)) ?_
            refine po_w (tX5_add hW16 h0 h0m) (fun y20 g20 hW20 p20 => ?_)
            dsimp only
            exact po_ret ⟨rfl, hW20, trivial⟩
          · unfold mX0_addInQuotes_b55
            refine po_some ?_
            refine po_ck (wt_isO hW16 h0 (by decide)) ?_
            refine po_w (tX5_add hW16 h0 h0m) (fun y21 g21 hW21 p21 => ?_)
            dsimp only
            exact po_ret ⟨rfl, hW21, trivial⟩
      · refine po_eq (fun q22 => ?_) (fun q22 => ?_)
        · unfold mX0_addInQuotes_b24
          refine po_some ?_
          refine po_ck (wt_isO hW h0 (by decide)) ?_
          refine po_w (tX5_add hW h0 h0m) (fun y23 g23 hW23 p23 => ?_)
          dsimp only
          unfold mX0_addInQuotes_b31
          refine po_eq (fun q24 => ?_) (fun q24 => ?_)
          · unfold mX0_addInQuotes_b55
            refine po_some ?_
            refine po_ck (wt_isO hW23 h0 (by decide)) ?_
            refine po_w (tX5_add hW23 h0 h0m) (fun y25 g25 hW25 p25 => ?_)
            dsimp only
            exact po_ret ⟨rfl, hW25, trivial⟩
          · refine po_eq (fun q26 => ?_) (fun q26 => ?_)
            · unfold mX0_addInQuotes_b55
              refine po_some ?_
              refine po_ck (wt_isO hW23 h0 (by decide)) ?_
              refine po_w (tX5_add hW23 h0 h0m) (fun y27 g27 hW27 p27 => ?_)
              dsimp only
              exact po_ret ⟨rfl, hW27, trivial⟩
            · unfold mX0_addInQuotes_b55
              refine po_some ?_
              refine po_ck (wt_isO hW23 h0 (by decide)) ?_
              refine po_w (tX5_add hW23 h0 h0m) (fun y28 g28 hW28 p28 => ?_)
              dsimp only
              exact po_ret ⟨rfl, hW28, trivial⟩
        · unfold mX0_addInQuotes_b31
          refine po_eq (fun q29 => ?_) (fun q29 => ?_)
          · unfold mX0_addInQuotes_b55
            refine po_some ?_
            refine po_ck (wt_isO hW h0 (by decide)) ?_
            refine po_w (tX5_add hW h0 h0m) (fun y30 g30 hW30 p30 => ?_)
            dsimp only
            exact po_ret ⟨rfl, hW30, trivial⟩
          · refine po_eq (fun q31 => ?_) (fun q31 => ?_)
            · unfold mX0_addInQuotes_b55
              refine po_some ?_
              refine po_ck (wt_isO hW h0 (by decide)) ?_
              refine po_w (tX5_add hW h0 h0m) (fun y32 g32 hW32 p32 => ?_)
              dsimp only
              exact po_ret ⟨rfl, hW32, trivial⟩
            · unfold mX0_addInQuotes_b55
              refine po_some ?_
              refine po_ck (wt_isO hW h0 (by decide)) ?_
              refine po_w (tX5_add hW h0 h0m) (fun y33 g33 hW33 p33 => ?_)
              dsimp only
              exact po_ret ⟨rfl, hW33, trivial⟩
set_option maxHeartbeats 1000000 in
theorem tX0_addEscaped_l3 {G : TE} {F0 : AH} {S : Int32} {n : Nat} : ∀ (d : Nat) (v0 : Option Nat) (v1 : Option Nat) (v2 : Int32) (v3 : Int32) (v4 : Int32) (f : AH), WT G F0 S f n → (∃ i, v0 = some i ∧ G.1 i = 5) → (∃ i, v1 = some i ∧ G.1 i = 5 ∧ i ≠ 1) → (0 ≤ v4.toInt ∧ v4.toInt ≤ 2000) → 3000 - v4.toInt < (d : Int) → PO (mX0_addEscaped_l3 d v0 v1 v2 v3 v4 f n) (fun v f' n' => n' = n ∧ WT G F0 S f' n ∧ (True)) := by
  intro d
  induction d with
  | zero =>
    intro v0 v1 v2 v3 v4 f hW h0 h1 h2  hm
    exfalso
    obtain ⟨iv0, rfl, h0⟩ := h0
    obtain ⟨iv1, rfl, h1, h1m⟩ := h1
    omega
  | succ d ih =>
    intro v0 v1 v2 v3 v4 f hW h0 h1 h2  hm
    obtain ⟨iv0, rfl, h0⟩ := h0
    obtain ⟨iv1, rfl, h1, h1m⟩ := h1
    show PO (((some iv0)).bind fun j1 => rCk (isO f j1 5) (((mX5_size j1 f n).bind fun r3 => (if r3.1 ≤ v4 then some ((0 : Int32), (r3.2.1, r3.2.2)) else rCk (isO r3.2.1 j1 5) (((mX5_get j1 v4 r3.2.1 r3.2.2).bind fun r6 => (if v2 = (0 : Int32) then (if v3 = (0 : Int32) then mX0_addEscaped_b68 (fun v0 v1 v2 v3 v4 f n => mX0_addEscaped_l3 d v0 v1 v2 v3 v4 f n) (some j1) (some iv1) v2 v3 v4 r6.1 (some iv1) r6.2.1 r6.2.2 else (if v4 = (0 : Int32) then mX0_addEscaped_b69 (fun v0 v1 v2 v3 v4 f n => mX0_addEscaped_l3 d v0 v1 v2 v3 v4 f n) (some j1) (some iv1) v2 v3 v4 r6.1 (some iv1) (1 : Int32) r6.2.1 r6.2.2 else mX0_addEscaped_b68 (fun v0 v1 v2 v3 v4 f n => mX0_addEscaped_l3 d v0 v1 v2 v3 v4 f n) (some j1) (some iv1) v2 v3 v4 r6.1 (some iv1) r6.2.1 r6.2.2)) else if v2 = (1 : Int32) then ((mX0_addDoubled r6.1 (some iv1) r6.2.1 r6.2.2).bind fun r8 => mX0_addEscaped_b109 (fun v0 v1 v2 v3 v4 f n => mX0_addEscaped_l3 d v0 v1 v2 v3 v4 f n) (some j1) (some iv1) v2 v3 v4 r8.2.1 r8.2.2) else if v2 = (2 : Int32) then ((mX0_addInMarkup r6.1 (some iv1) r6.2.1 r6.2.2).bind fun r9 => mX0_addEscaped_b109 (fun v0 v1 v2 v3 v4 f n => mX0_addEscaped_l3 d v0 v1 v2 v3 v4 f n) (some j1) (some iv1) v2 v3 v4 r9.2.1 r9.2.2) else if v2 = (3 : Int32) then ((mX0_addInQuotes r6.1 (some iv1) r6.2.1 r6.2.2).bind fun r10 => mX0_addEscaped_b109 (fun v0 v1 v2 v3 v4 f n => mX0_addEscaped_l3 d v0 v1 v2 v3 v4 f n) (some j1) (some iv1) v2 v3 v4 r10.2.1 r10.2.2) else (((some iv1)).bind fun j11 => rCk (isO r6.2.1 j11 5) (((mX5_add j11 r6.1 r6.2.1 r6.2.2).bind fun r13 => mX0_addEscaped_b109 (fun v0 v1 v2 v3 v4 f n => mX0_addEscaped_l3 d v0 v1 v2 v3 v4 f n) (some j1) (some j11) v2 v3 v4 r13.2.1 r13.2.2)))))))))) _
    refine po_some ?_
    refine po_ck (wt_isO hW h0 (by decide)) ?_
    refine po_ro (tX5_size hW h0) (fun y1 ex1 p1 => ?_)
    dsimp only
    refine po_le rfl rfl (fun q2 => ?_) (fun q2 => ?_)
    · exact po_ret ⟨rfl, hW, trivial⟩
    · refine po_ck (wt_isO hW h0 (by decide)) ?_
      refine po_ro (tX5_get hW h0) (fun y3 ex3 p3 => ?_)
      dsimp only
      refine po_eq (fun q4 => ?_) (fun q4 => ?_)
      · refine po_eq (fun q5 => ?_) (fun q5 => ?_)
        · unfold mX0_addEscaped_b68
          unfold mX0_addEscaped_b69
          refine po_w (tX0_addInLine hW ⟨_, rfl, h1, h1m⟩) (fun y6 g6 hW6 p6 => ?_)
          dsimp only
          unfold mX0_addEscaped_b109
          have e7 : (v4 + (1 : Int32)).toInt = v4.toInt + 1 := i_add rfl kt_1 (by omega)
          exact (ih (some iv0) (some iv1) v2 v3 (v4 + (1 : Int32)) g6 hW6 ⟨_, rfl, h0⟩ ⟨_, rfl, h1, h1m⟩ (by omega)  (by omega))
        · refine po_eq (fun q8 => ?_) (fun q8 => ?_)
          · unfold mX0_addEscaped_b69
            refine po_w (tX0_addInLine hW ⟨_, rfl, h1, h1m⟩) (fun y9 g9 hW9 p9 => ?_)
            dsimp only
            unfold mX0_addEscaped_b109
            have e10 : (v4 + (1 : Int32)).toInt = v4.toInt + 1 := i_add rfl kt_1 (by omega)
            exact (ih (some iv0) (some iv1) v2 v3 (v4 + (1 : Int32)) g9 hW9 ⟨_, rfl, h0⟩ ⟨_, rfl, h1, h1m⟩ (by omega)  (by omega))
          · unfold mX0_addEscaped_b68
            unfold mX0_addEscaped_b69
            refine po_w (tX0_addInLine hW ⟨_, rfl, h1, h1m⟩) (fun y11 g11 hW11 p11 => ?_)
            dsimp only
            unfold mX0_addEscaped_b109
            have e12 : (v4 + (1 : Int32)).toInt = v4.toInt + 1 := i_add rfl kt_1 (by omega)
            exact (ih (some iv0) (some iv1) v2 v3 (v4 + (1 : Int32)) g11 hW11 ⟨_, rfl, h0⟩ ⟨_, rfl, h1, h1m⟩ (by omega)  (by omega))
      · refine po_eq (fun q13 => ?_) (fun q13 => ?_)
        · refine po_w (tX0_addDoubled hW ⟨_, rfl, h1, h1m⟩) (fun y14 g14 hW14 p14 => ?_)
          dsimp only
          unfold mX0_addEscaped_b109
          have e15 : (v4 + (1 : Int32)).toInt = v4.toInt + 1 := i_add rfl kt_1 (by omega)
          exact (ih (some iv0) (some iv1) v2 v3 (v4 + (1 : Int32)) g14 hW14 ⟨_, rfl, h0⟩ ⟨_, rfl, h1, h1m⟩ (by omega)  (by omega))
        · refine po_eq (fun q16 => ?_) (fun q16 => ?_)
          · refine po_w (tX0_addInMarkup hW ⟨_, rfl, h1, h1m⟩) (fun y17 g17 hW17 p17 => ?_)
            dsimp only
            unfold mX0_addEscaped_b109
            have e18 : (v4 + (1 : Int32)).toInt = v4.toInt + 1 := i_add rfl kt_1 (by omega)
            exact (ih (some iv0) (some iv1) v2 v3 (v4 + (1 : Int32)) g17 hW17 ⟨_, rfl, h0⟩ ⟨_, rfl, h1, h1m⟩ (by omega)  (by omega))
          · refine po_eq (fun q19 => ?_) (fun q19 => ?_)
            · refine po_w (tX0_addInQuotes hW ⟨_, rfl, h1, h1m⟩) (fun y20 g20 hW20 p20 => ?_)
              dsimp only
              unfold mX0_addEscaped_b109
              have e21 : (v4 + (1 : Int32)).toInt = v4.toInt + 1 := i_add rfl kt_1 (by omega)
              exact (ih (some iv0) (some iv1) v2 v3 (v4 + (1 : Int32)) g20 hW20 ⟨_, rfl, h0⟩ ⟨_, rfl, h1, h1m⟩ (by omega)  (by omega))
            · refine po_some ?_
              refine po_ck (wt_isO hW h1 (by decide)) ?_
              refine po_w (tX5_add hW h1 h1m) (fun y22 g22 hW22 p22 => ?_)
              dsimp only
              unfold mX0_addEscaped_b109
              have e23 : (v4 + (1 : Int32)).toInt = v4.toInt + 1 := i_add rfl kt_1 (by omega)
              exact (ih (some iv0) (some iv1) v2 v3 (v4 + (1 : Int32)) g22 hW22 ⟨_, rfl, h0⟩ ⟨_, rfl, h1, h1m⟩ (by omega)  (by omega))
set_option maxHeartbeats 1000000 in
theorem tX0_addEscaped {G : TE} {F0 : AH} {S : Int32} {f : AH} {n : Nat} {v0 : Option Nat} {v1 : Option Nat} {v2 : Int32} {v3 : Int32} (hW : WT G F0 S f n) (h0 : (∃ i, v0 = some i ∧ G.1 i = 5)) (h1 : (∃ i, v1 = some i ∧ G.1 i = 5 ∧ i ≠ 1)) : PO (mX0_addEscaped v0 v1 v2 v3 f n) (fun v f' n' => n' = n ∧ WT G F0 S f' n ∧ (True)) := by
  obtain ⟨iv0, rfl, h0⟩ := h0
  obtain ⟨iv1, rfl, h1, h1m⟩ := h1
  have k_kt_0 := kt_0
  unfold mX0_addEscaped
  exact (tX0_addEscaped_l3 rFU (some iv0) (some iv1) v2 v3 (0 : Int32) f hW ⟨_, rfl, h0⟩ ⟨_, rfl, h1, h1m⟩ (by omega)  (by unfold rFU; omega))
set_option maxHeartbeats 1000000 in
theorem tX0_escape_b163 {G : TE} {F0 : AH} {S : Int32} {f : AH} {n : Nat} {v0 : Nat} {v2 : Option Nat} {v3 : Option Nat} {v4 : Int32} (hW : WT G F0 S f n) (h0 : G.1 v0 = 0) (h1 : (∃ i, v2 = some i ∧ G.1 i = 3)) (h2 : (∃ i, v3 = some i ∧ G.1 i = 7)) : PO (mX0_escape_b163 v0 v2 v3 v4 f n) (fun v f' n' => n' = n ∧ WT G F0 S f' n ∧ (v = 0 ∨ v = 1)) := by
  obtain ⟨iv2, rfl, h1⟩ := h1
  obtain ⟨iv3, rfl, h2⟩ := h2
  unfold mX0_escape_b163
  refine po_eq (fun q1 => ?_) (fun q1 => ?_)
  · refine po_gRm hW h0 rfl rfl (fun i2 ex2 hi2 hm2 => ?_)
    refine po_gRm hW h0 rfl rfl (fun i3 ex3 hi3 hm3 => ?_)
    refine po_some ?_
    refine po_gI hW h2 rfl rfl (by decide) (fun x4x ex4 (_ : True) => ?_)
    refine po_some ?_
    refine po_gI hW h1 rfl rfl (by decide) (fun x5x ex5 (hx5 : x5x = 0 ∨ x5x = 1) => ?_)
    refine po_w (tX0_addEscaped hW ⟨_, rfl, hi2⟩ ⟨_, rfl, hi3, hm3⟩) (fun y6 g6 hW6 p6 => ?_)
    dsimp only
    refine po_ck rfl ?_
    exact po_ret ⟨rfl, hW6, (Or.inr rfl)⟩
  · refine po_gRm hW h0 rfl rfl (fun i7 ex7 hi7 hm7 => ?_)
    refine po_some ?_
    refine po_ck (wt_isO hW hi7 (by decide)) ?_
    refine po_ro (tX5_breaksCell hW hi7) (fun y8 ex8 p8 => ?_)
    dsimp only
    refine po_eq (fun q9 => ?_) (fun q9 => ?_)
    · refine po_gRm hW h0 rfl rfl (fun i10 ex10 hi10 hm10 => ?_)
      refine po_bind ex7 ?_
      refine po_bind ex7 ?_
      refine po_some ?_
      refine po_ck (wt_isO hW hi7 (by decide)) ?_
      refine po_ro (tX5_size hW hi7) (fun y11 ex11 p11 => ?_)
      dsimp only
      refine po_some ?_
      refine po_ck (wt_isO hW hi10 (by decide)) ?_
      refine po_w (tX5_addPart hW hi10 hm10 ⟨_, rfl, hi7⟩) (fun y12 g12 hW12 p12 => ?_)
      dsimp only
      refine po_ck (nb_of p12) ?_
      exact po_ret ⟨rfl, hW12, p12⟩
    · refine po_pI hW h0 rfl rfl (vv_i (by decide) trivial) (fun g13 hW13 ex13 => ?_)
      refine po_gRm hW13 h0 rfl rfl (fun i14 ex14 hi14 hm14 => ?_)
      refine po_some ?_
      refine po_ck (wt_isO hW13 hi14 (by decide)) ?_
      refine po_w (tX5_add hW13 hi14 hm14) (fun y15 g15 hW15 p15 => ?_)
      dsimp only
      refine po_gRm hW15 h0 rfl rfl (fun i16 ex16 hi16 hm16 => ?_)
      refine po_gRm hW15 h0 rfl rfl (fun i17 ex17 hi17 hm17 => ?_)
      refine po_w (tX0_addEscaped hW15 ⟨_, rfl, hi16⟩ ⟨_, rfl, hi17, hm17⟩) (fun y18 g18 hW18 p18 => ?_)
      dsimp only
      refine po_gRm hW18 h0 rfl rfl (fun i19 ex19 hi19 hm19 => ?_)
      refine po_some ?_
      refine po_ck (wt_isO hW18 hi19 (by decide)) ?_
      refine po_w (tX5_add hW18 hi19 hm19) (fun y20 g20 hW20 p20 => ?_)
      dsimp only
      refine po_some ?_
      refine po_gI hW20 h2 rfl rfl (by decide) (fun x21x ex21 (_ : True) => ?_)
      refine po_eq (fun q22 => ?_) (fun q22 => ?_)
      · unfold mX0_escape_b270
        refine po_ck (nb_of (Or.inr rfl)) ?_
        exact po_ret ⟨rfl, hW20, (Or.inr rfl)⟩
      · unfold mX0_escape_b270
        refine po_ck (nb_of (Or.inl rfl)) ?_
        exact po_ret ⟨rfl, hW20, (Or.inl rfl)⟩
set_option maxHeartbeats 1000000 in
theorem tX0_escape_b141 {G : TE} {F0 : AH} {S : Int32} {f : AH} {n : Nat} {v0 : Nat} {v1 : Option Nat} {v2 : Option Nat} {v3 : Option Nat} {v4 : Int32} {v5 : Int32} (hW : WT G F0 S f n) (h0 : G.1 v0 = 0) (h1 : (∃ i, v1 = some i ∧ G.1 i = 5)) (h2 : (∃ i, v2 = some i ∧ G.1 i = 3)) (h3 : (∃ i, v3 = some i ∧ G.1 i = 7)) : PO (mX0_escape_b141 v0 v1 v2 v3 v4 v5 f n) (fun v f' n' => n' = n ∧ WT G F0 S f' n ∧ (v = 0 ∨ v = 1)) := by
  obtain ⟨iv1, rfl, h1⟩ := h1
  obtain ⟨iv2, rfl, h2⟩ := h2
  obtain ⟨iv3, rfl, h3⟩ := h3
  unfold mX0_escape_b141
  refine po_gRm hW h0 rfl rfl (fun i1 ex1 hi1 hm1 => ?_)
  refine po_eq (fun q2 => ?_) (fun q2 => ?_)
  · refine po_some ?_
    refine po_gI hW h3 rfl rfl (by decide) (fun x3x ex3 (_ : True) => ?_)
    unfold mX0_escape_b159
    refine po_w (tX0_addEscaped hW ⟨_, rfl, h1⟩ ⟨_, rfl, hi1, hm1⟩) (fun y4 g4 hW4 p4 => ?_)
    dsimp only
    exact (tX0_escape_b163 hW4 h0 ⟨_, rfl, h2⟩ ⟨_, rfl, h3⟩)
  · unfold mX0_escape_b159
    refine po_w (tX0_addEscaped hW ⟨_, rfl, h1⟩ ⟨_, rfl, hi1, hm1⟩) (fun y5 g5 hW5 p5 => ?_)
    dsimp only
    exact (tX0_escape_b163 hW5 h0 ⟨_, rfl, h2⟩ ⟨_, rfl, h3⟩)
set_option maxHeartbeats 1000000 in
theorem tX0_escape_b69 {G : TE} {F0 : AH} {S : Int32} {f : AH} {n : Nat} {v0 : Nat} {v1 : Option Nat} {v2 : Option Nat} {v3 : Option Nat} {v4 : Int32} {s0 : Int32} (hW : WT G F0 S f n) (h0 : G.1 v0 = 0) (h1 : (∃ i, v1 = some i ∧ G.1 i = 5)) (h2 : (∃ i, v2 = some i ∧ G.1 i = 3)) (h3 : (∃ i, v3 = some i ∧ G.1 i = 7)) : PO (mX0_escape_b69 v0 v1 v2 v3 v4 s0 f n) (fun v f' n' => n' = n ∧ WT G F0 S f' n ∧ (v = 0 ∨ v = 1)) := by
  obtain ⟨iv1, rfl, h1⟩ := h1
  obtain ⟨iv2, rfl, h2⟩ := h2
  obtain ⟨iv3, rfl, h3⟩ := h3
  unfold mX0_escape_b69
  refine po_eq (fun q1 => ?_) (fun q1 => ?_)
  · exact (tX0_escape_b141 hW h0 ⟨_, rfl, h1⟩ ⟨_, rfl, h2⟩ ⟨_, rfl, h3⟩)
  · refine po_some ?_
    refine po_ck (wt_isO hW h1 (by decide)) ?_
    refine po_ro (tX5_breaksCell hW h1) (fun y2 ex2 p2 => ?_)
    dsimp only
    refine po_eq (fun q3 => ?_) (fun q3 => ?_)
    · exact (tX0_escape_b141 hW h0 ⟨_, rfl, h1⟩ ⟨_, rfl, h2⟩ ⟨_, rfl, h3⟩)
    · refine po_gRm hW h0 rfl rfl (fun i4 ex4 hi4 hm4 => ?_)
      refine po_some ?_
      refine po_ck (wt_isO hW hi4 (by decide)) ?_
      refine po_w (tX5_add hW hi4 hm4) (fun y5 g5 hW5 p5 => ?_)
      dsimp only
      refine po_gRm hW5 h0 rfl rfl (fun i6 ex6 hi6 hm6 => ?_)
      refine po_w (tX0_addEscaped hW5 ⟨_, rfl, h1⟩ ⟨_, rfl, hi6, hm6⟩) (fun y7 g7 hW7 p7 => ?_)
      dsimp only
      refine po_gRm hW7 h0 rfl rfl (fun i8 ex8 hi8 hm8 => ?_)
      refine po_some ?_
      refine po_ck (wt_isO hW7 hi8 (by decide)) ?_
      refine po_w (tX5_add hW7 hi8 hm8) (fun y9 g9 hW9 p9 => ?_)
      dsimp only
      refine po_some ?_
      refine po_gI hW9 h3 rfl rfl (by decide) (fun x10x ex10 (_ : True) => ?_)
      refine po_eq (fun q11 => ?_) (fun q11 => ?_)
      · unfold mX0_escape_b130
        unfold mX0_escape_b135
        refine po_pI hW9 h0 rfl rfl (vv_i (by decide) trivial) (fun g12 hW12 ex12 => ?_)
        exact (tX0_escape_b163 hW12 h0 ⟨_, rfl, h2⟩ ⟨_, rfl, h3⟩)
      · refine po_bind ex10 ?_
        refine po_eq (fun q13 => ?_) (fun q13 => ?_)
        · unfold mX0_escape_b130
          unfold mX0_escape_b135
          refine po_pI hW9 h0 rfl rfl (vv_i (by decide) trivial) (fun g14 hW14 ex14 => ?_)
          exact (tX0_escape_b163 hW14 h0 ⟨_, rfl, h2⟩ ⟨_, rfl, h3⟩)
        · unfold mX0_escape_b135
          refine po_pI hW9 h0 rfl rfl (vv_i (by decide) trivial) (fun g15 hW15 ex15 => ?_)
          exact (tX0_escape_b163 hW15 h0 ⟨_, rfl, h2⟩ ⟨_, rfl, h3⟩)
set_option maxHeartbeats 1000000 in
theorem tX0_escape_b47 {G : TE} {F0 : AH} {S : Int32} {f : AH} {n : Nat} {v0 : Nat} {v1 : Option Nat} {v2 : Option Nat} {v3 : Option Nat} {s0 : Int32} (hW : WT G F0 S f n) (h0 : G.1 v0 = 0) (h1 : (∃ i, v1 = some i ∧ G.1 i = 5)) (h2 : (∃ i, v2 = some i ∧ G.1 i = 3)) (h3 : (∃ i, v3 = some i ∧ G.1 i = 7)) : PO (mX0_escape_b47 v0 v1 v2 v3 s0 f n) (fun v f' n' => n' = n ∧ WT G F0 S f' n ∧ (v = 0 ∨ v = 1)) := by
  obtain ⟨iv1, rfl, h1⟩ := h1
  obtain ⟨iv2, rfl, h2⟩ := h2
  obtain ⟨iv3, rfl, h3⟩ := h3
  unfold mX0_escape_b47
  refine po_some ?_
  refine po_gI hW h3 rfl rfl (by decide) (fun x1x ex1 (_ : True) => ?_)
  refine po_eq (fun q2 => ?_) (fun q2 => ?_)
  · refine po_some ?_
    refine po_gI hW h2 rfl rfl (by decide) (fun x3x ex3 (hx3 : x3x = 0 ∨ x3x = 1) => ?_)
    refine po_eq (fun q4 => ?_) (fun q4 => ?_)
    · exact (tX0_escape_b69 hW h0 ⟨_, rfl, h1⟩ ⟨_, rfl, h2⟩ ⟨_, rfl, h3⟩)
    · unfold mX0_escape_b68
      exact (tX0_escape_b69 hW h0 ⟨_, rfl, h1⟩ ⟨_, rfl, h2⟩ ⟨_, rfl, h3⟩)
  · unfold mX0_escape_b68
    exact (tX0_escape_b69 hW h0 ⟨_, rfl, h1⟩ ⟨_, rfl, h2⟩ ⟨_, rfl, h3⟩)
set_option maxHeartbeats 1000000 in
theorem tX0_escape {G : TE} {F0 : AH} {S : Int32} {f : AH} {n : Nat} {v0 : Nat} {v1 : Option Nat} {v2 : Option Nat} {v3 : Option Nat} (hW : WT G F0 S f n) (h0 : G.1 v0 = 0) (h1 : (∃ i, v1 = some i ∧ G.1 i = 5)) (h2 : (∀ i, v2 = some i → G.1 i = 3)) (h3 : (∃ i, v3 = some i ∧ G.1 i = 7)) : PO (mX0_escape v0 v1 v2 v3 f n) (fun v f' n' => n' = n ∧ WT G F0 S f' n ∧ (v = 0 ∨ v = 1)) := by
  obtain ⟨iv1, rfl, h1⟩ := h1
  obtain ⟨iv3, rfl, h3⟩ := h3
  unfold mX0_escape
  refine po_oN (fun q2 => ?_) (fun i1 q2 => ?_)
  · subst q2
    refine po_ck rfl ?_
    exact po_ret ⟨rfl, hW, (Or.inl rfl)⟩
  · subst q2
    refine po_pI hW h0 rfl rfl (vv_i (by decide) trivial) (fun g3 hW3 ex3 => ?_)
    refine po_gRm hW3 h0 rfl rfl (fun i4 ex4 hi4 hm4 => ?_)
    refine po_some ?_
    refine po_ck (wt_isO hW3 hi4 (by decide)) ?_
    refine po_w (tX5_cutTo hW3 hi4 hm4) (fun y5 g5 hW5 p5 => ?_)
    dsimp only
    refine po_gRm hW5 h0 rfl rfl (fun i6 ex6 hi6 hm6 => ?_)
    refine po_some ?_
    refine po_ck (wt_isO hW5 hi6 (by decide)) ?_
    refine po_w (tX5_cutTo hW5 hi6 hm6) (fun y7 g7 hW7 p7 => ?_)
    dsimp only
    refine po_some ?_
    refine po_gI hW7 h3 rfl rfl (by decide) (fun x8x ex8 (_ : True) => ?_)
    refine po_eq (fun q9 => ?_) (fun q9 => ?_)
    · refine po_gI hW7 (h2 i1 rfl) rfl rfl (by decide) (fun x10x ex10 (hx10 : x10x = 0 ∨ x10x = 1) => ?_)
      refine po_eq (fun q11 => ?_) (fun q11 => ?_)
      · exact (tX0_escape_b47 hW7 h0 ⟨_, rfl, h1⟩ ⟨_, rfl, (h2 i1 rfl)⟩ ⟨_, rfl, h3⟩)
      · unfold mX0_escape_b46
        exact (tX0_escape_b47 hW7 h0 ⟨_, rfl, h1⟩ ⟨_, rfl, (h2 i1 rfl)⟩ ⟨_, rfl, h3⟩)
    · unfold mX0_escape_b46
      exact (tX0_escape_b47 hW7 h0 ⟨_, rfl, h1⟩ ⟨_, rfl, (h2 i1 rfl)⟩ ⟨_, rfl, h3⟩)
