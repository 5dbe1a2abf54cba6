set_option maxHeartbeats 1000000 in
theorem tX8_rule {G : TE} {F0 : AH} {S : Int32} {f : AH} {n : Nat} {v0 : Nat} {v1 : Int32} {v2 : Int32} (hW : WT G F0 S f n) (h0 : G.1 v0 = 8) : PO (mX8_rule v0 v1 v2 f n) (fun v f' n' => ∃ G', EXT G G' ∧ WT G' F0 S f' n' ∧ ((∀ E : String, v = .inr E → E = eN ∨ E = eA) ∧ (∀ y, v = .inl y → True))) := by
  unfold mX8_rule
  refine po_eq (fun q1 => ?_) (fun q1 => ?_)
  · unfold mX8_rule_b19
    refine po_eq (fun q2 => ?_) (fun q2 => ?_)
    · refine po_lt rfl kt_0 (fun q3 => ?_) (fun q3 => ?_)
      · unfold mX8_rule_b46
        exact po_ret ⟨_, EXT.rfl, hW, ⟨fun E hE => by cases hE; first | exact rfl | exact Or.inl rfl | exact Or.inr rfl, fun y hy => (by cases hy)⟩⟩
      · refine po_le rfl kt_1 (fun q4 => ?_) (fun q4 => ?_)
        · unfold mX8_rule_b56
          refine po_gRn (t := 7) hW h0 rfl rfl (by decide) (fun i5 ex5 hi5 => ?_)
          refine po_gRn (t := 7) hW h0 rfl rfl (by decide) (fun i6 ex6 hi6 => ?_)
          refine po_some ?_
          refine po_ck (wt_isO hW hi5 (by decide)) ?_
          refine po_w (tX7_copyFrom hW hi5 ⟨_, rfl, hi6⟩) (fun y7 g7 hW7 p7 => ?_)
          dsimp only
          refine po_eq (fun q8 => ?_) (fun q8 => ?_)
          · refine po_eq (fun q9 => ?_) (fun q9 => ?_)
            · unfold mX8_rule_b83
              refine po_ck (wt_isO hW7 h0 (by decide)) ?_
              refine po_a (tX8_doAct hW7 h0 (fun _ hi => nomatch hi)) (fun y10 g10 n10 G10 xt10 hW10 p10 => ?_)
              dsimp only
              refine po_ck (wt_isO hW10 (xt10.ty h0 (by decide)) (by decide)) ?_
              refine po_w (tX8_finishCall hW10 (xt10.ty h0 (by decide))) (fun y11 g11 hW11 p11 => ?_)
              dsimp only
              refine po_tS (fun z12 q13 => ?_) (fun E hE => ⟨_, xt10, hW11, ⟨fun E2 h2 => by cases h2; exact absurd (p10 (Or.inl ⟨by decide, by decide⟩)) (p11.1 E hE).2, fun y hy => (by cases hy)⟩⟩)
              unfold mX8_rule_b107
              refine po_gRn (t := 1) hW11 (xt10.ty h0 (by decide)) rfl rfl (by decide) (fun i14 ex14 hi14 => ?_)
              refine po_some ?_
              refine po_ck (wt_isO hW11 hi14 (by decide)) ?_
              refine po_ro (tX1_size hW11 hi14) (fun y15 ex15 p15 => ?_)
              dsimp only
              exact po_ret ⟨_, xt10, hW11, ⟨fun E hE => (by cases hE), fun y hy => by cases hy; exact trivial⟩⟩
            · unfold mX8_rule_b83
              refine po_ck (wt_isO hW7 h0 (by decide)) ?_
              refine po_a (tX8_doAct hW7 h0 (fun _ hi => nomatch hi)) (fun y16 g16 n16 G16 xt16 hW16 p16 => ?_)
              dsimp only
              refine po_ck (wt_isO hW16 (xt16.ty h0 (by decide)) (by decide)) ?_
              refine po_w (tX8_finishCall hW16 (xt16.ty h0 (by decide))) (fun y17 g17 hW17 p17 => ?_)
              dsimp only
              refine po_tS (fun z18 q19 => ?_) (fun E hE => ⟨_, xt16, hW17, ⟨fun E2 h2 => by cases h2; exact absurd (p16 (Or.inl ⟨by decide, by decide⟩)) (p17.1 E hE).2, fun y hy => (by cases hy)⟩⟩)
              unfold mX8_rule_b107
              refine po_gRn (t := 1) hW17 (xt16.ty h0 (by decide)) rfl rfl (by decide) (fun i20 ex20 hi20 => ?_)
              refine po_some ?_
              refine po_ck (wt_isO hW17 hi20 (by decide)) ?_
              refine po_ro (tX1_size hW17 hi20) (fun y21 ex21 p21 => ?_)
              dsimp only
              exact po_ret ⟨_, xt16, hW17, ⟨fun E hE => (by cases hE), fun y hy => by cases hy; exact trivial⟩⟩
          · refine po_ck (wt_isO hW7 h0 (by decide)) ?_
            refine po_a (tX8_doAct hW7 h0 (fun _ hi => nomatch hi)) (fun y22 g22 n22 G22 xt22 hW22 p22 => ?_)
            dsimp only
            refine po_ck (wt_isO hW22 (xt22.ty h0 (by decide)) (by decide)) ?_
            refine po_w (tX8_finishCall hW22 (xt22.ty h0 (by decide))) (fun y23 g23 hW23 p23 => ?_)
            dsimp only
            refine po_tS (fun z24 q25 => ?_) (fun E hE => ⟨_, xt22, hW23, ⟨fun E2 h2 => by cases h2; exact absurd (p22 (Or.inl ⟨by decide, by decide⟩)) (p23.1 E hE).2, fun y hy => (by cases hy)⟩⟩)
            unfold mX8_rule_b107
            refine po_gRn (t := 1) hW23 (xt22.ty h0 (by decide)) rfl rfl (by decide) (fun i26 ex26 hi26 => ?_)
            refine po_some ?_
            refine po_ck (wt_isO hW23 hi26 (by decide)) ?_
            refine po_ro (tX1_size hW23 hi26) (fun y27 ex27 p27 => ?_)
            dsimp only
            exact po_ret ⟨_, xt22, hW23, ⟨fun E hE => (by cases hE), fun y hy => by cases hy; exact trivial⟩⟩
        · unfold mX8_rule_b46
          exact po_ret ⟨_, EXT.rfl, hW, ⟨fun E hE => by cases hE; first | exact rfl | exact Or.inl rfl | exact Or.inr rfl, fun y hy => (by cases hy)⟩⟩
    · refine po_lt rfl kt_1 (fun q28 => ?_) (fun q28 => ?_)
      · unfold mX8_rule_b46
        exact po_ret ⟨_, EXT.rfl, hW, ⟨fun E hE => by cases hE; first | exact rfl | exact Or.inl rfl | exact Or.inr rfl, fun y hy => (by cases hy)⟩⟩
      · refine po_le rfl kt_40 (fun q29 => ?_) (fun q29 => ?_)
        · unfold mX8_rule_b56
          refine po_gRn (t := 7) hW h0 rfl rfl (by decide) (fun i30 ex30 hi30 => ?_)
          refine po_gRn (t := 7) hW h0 rfl rfl (by decide) (fun i31 ex31 hi31 => ?_)
          refine po_some ?_
          refine po_ck (wt_isO hW hi30 (by decide)) ?_
          refine po_w (tX7_copyFrom hW hi30 ⟨_, rfl, hi31⟩) (fun y32 g32 hW32 p32 => ?_)
          dsimp only
          refine po_eq (fun q33 => ?_) (fun q33 => ?_)
          · refine po_eq (fun q34 => ?_) (fun q34 => ?_)
            · unfold mX8_rule_b83
              refine po_ck (wt_isO hW32 h0 (by decide)) ?_
              refine po_a (tX8_doAct hW32 h0 (fun _ hi => nomatch hi)) (fun y35 g35 n35 G35 xt35 hW35 p35 => ?_)
              dsimp only
              refine po_ck (wt_isO hW35 (xt35.ty h0 (by decide)) (by decide)) ?_
              refine po_w (tX8_finishCall hW35 (xt35.ty h0 (by decide))) (fun y36 g36 hW36 p36 => ?_)
              dsimp only
              refine po_tS (fun z37 q38 => ?_) (fun E hE => ⟨_, xt35, hW36, ⟨fun E2 h2 => by cases h2; exact absurd (p35 (Or.inl ⟨by decide, by decide⟩)) (p36.1 E hE).2, fun y hy => (by cases hy)⟩⟩)
              unfold mX8_rule_b107
              refine po_gRn (t := 1) hW36 (xt35.ty h0 (by decide)) rfl rfl (by decide) (fun i39 ex39 hi39 => ?_)
              refine po_some ?_
              refine po_ck (wt_isO hW36 hi39 (by decide)) ?_
              refine po_ro (tX1_size hW36 hi39) (fun y40 ex40 p40 => ?_)
              dsimp only
              exact po_ret ⟨_, xt35, hW36, ⟨fun E hE => (by cases hE), fun y hy => by cases hy; exact trivial⟩⟩
            · unfold mX8_rule_b83
              refine po_ck (wt_isO hW32 h0 (by decide)) ?_
              refine po_a (tX8_doAct hW32 h0 (fun _ hi => nomatch hi)) (fun y41 g41 n41 G41 xt41 hW41 p41 => ?_)
              dsimp only
              refine po_ck (wt_isO hW41 (xt41.ty h0 (by decide)) (by decide)) ?_
              refine po_w (tX8_finishCall hW41 (xt41.ty h0 (by decide))) (fun y42 g42 hW42 p42 => ?_)
              dsimp only
              refine po_tS (fun z43 q44 => ?_) (fun E hE => ⟨_, xt41, hW42, ⟨fun E2 h2 => by cases h2; exact absurd (p41 (Or.inl ⟨by decide, by decide⟩)) (p42.1 E hE).2, fun y hy => (by cases hy)⟩⟩)
              unfold mX8_rule_b107
              refine po_gRn (t := 1) hW42 (xt41.ty h0 (by decide)) rfl rfl (by decide) (fun i45 ex45 hi45 => ?_)
              refine po_some ?_
              refine po_ck (wt_isO hW42 hi45 (by decide)) ?_
              refine po_ro (tX1_size hW42 hi45) (fun y46 ex46 p46 => ?_)
              dsimp only
              exact po_ret ⟨_, xt41, hW42, ⟨fun E hE => (by cases hE), fun y hy => by cases hy; exact trivial⟩⟩
          · refine po_ck (wt_isO hW32 h0 (by decide)) ?_
            refine po_a (tX8_doAct hW32 h0 (fun _ hi => nomatch hi)) (fun y47 g47 n47 G47 xt47 hW47 p47 => ?_)
            dsimp only
            refine po_ck (wt_isO hW47 (xt47.ty h0 (by decide)) (by decide)) ?_
            refine po_w (tX8_finishCall hW47 (xt47.ty h0 (by decide))) (fun y48 g48 hW48 p48 => ?_)
            dsimp only
            refine po_tS (fun z49 q50 => ?_) (fun E hE => ⟨_, xt47, hW48, ⟨fun E2 h2 => by cases h2; exact absurd (p47 (Or.inl ⟨by decide, by decide⟩)) (p48.1 E hE).2, fun y hy => (by cases hy)⟩⟩)
            unfold mX8_rule_b107
            refine po_gRn (t := 1) hW48 (xt47.ty h0 (by decide)) rfl rfl (by decide) (fun i51 ex51 hi51 => ?_)
            refine po_some ?_
            refine po_ck (wt_isO hW48 hi51 (by decide)) ?_
            refine po_ro (tX1_size hW48 hi51) (fun y52 ex52 p52 => ?_)
            dsimp only
            exact po_ret ⟨_, xt47, hW48, ⟨fun E hE => (by cases hE), fun y hy => by cases hy; exact trivial⟩⟩
        · unfold mX8_rule_b46
          exact po_ret ⟨_, EXT.rfl, hW, ⟨fun E hE => by cases hE; first | exact rfl | exact Or.inl rfl | exact Or.inr rfl, fun y hy => (by cases hy)⟩⟩
  · refine po_eq (fun q53 => ?_) (fun q53 => ?_)
    · unfold mX8_rule_b19
      refine po_eq (fun q54 => ?_) (fun q54 => ?_)
      · refine po_lt rfl kt_0 (fun q55 => ?_) (fun q55 => ?_)
        · unfold mX8_rule_b46
          exact po_ret ⟨_, EXT.rfl, hW, ⟨fun E hE => by cases hE; first | exact rfl | exact Or.inl rfl | exact Or.inr rfl, fun y hy => (by cases hy)⟩⟩
        · refine po_le rfl kt_1 (fun q56 => ?_) (fun q56 => ?_)
          · unfold mX8_rule_b56
            refine po_gRn (t := 7) hW h0 rfl rfl (by decide) (fun i57 ex57 hi57 => ?_)
            refine po_gRn (t := 7) hW h0 rfl rfl (by decide) (fun i58 ex58 hi58 => ?_)
            refine po_some ?_
            refine po_ck (wt_isO hW hi57 (by decide)) ?_
            refine po_w (tX7_copyFrom hW hi57 ⟨_, rfl, hi58⟩) (fun y59 g59 hW59 p59 => ?_)
            dsimp only
            refine po_eq (fun q60 => ?_) (fun q60 => ?_)
            · refine po_eq (fun q61 => ?_) (fun q61 => ?_)
              · unfold mX8_rule_b83
                refine po_ck (wt_isO hW59 h0 (by decide)) ?_
                refine po_a (tX8_doAct hW59 h0 (fun _ hi => nomatch hi)) (fun y62 g62 n62 G62 xt62 hW62 p62 => ?_)
                dsimp only
                refine po_ck (wt_isO hW62 (xt62.ty h0 (by decide)) (by decide)) ?_
                refine po_w (tX8_finishCall hW62 (xt62.ty h0 (by decide))) (fun y63 g63 hW63 p63 => ?_)
                dsimp only
                refine po_tS (fun z64 q65 => ?_) (fun E hE => ⟨_, xt62, hW63, ⟨fun E2 h2 => by cases h2; exact absurd (p62 (Or.inl ⟨by decide, by decide⟩)) (p63.1 E hE).2, fun y hy => (by cases hy)⟩⟩)
                unfold mX8_rule_b107
                refine po_gRn (t := 1) hW63 (xt62.ty h0 (by decide)) rfl rfl (by decide) (fun i66 ex66 hi66 => ?_)
                refine po_some ?_
                refine po_ck (wt_isO hW63 hi66 (by decide)) ?_
                refine po_ro (tX1_size hW63 hi66) (fun y67 ex67 p67 => ?_)
                dsimp only
                exact po_ret ⟨_, xt62, hW63, ⟨fun E hE => (by cases hE), fun y hy => by cases hy; exact trivial⟩⟩
              · unfold mX8_rule_b83
                refine po_ck (wt_isO hW59 h0 (by decide)) ?_
                refine po_a (tX8_doAct hW59 h0 (fun _ hi => nomatch hi)) (fun y68 g68 n68 G68 xt68 hW68 p68 => ?_)
                dsimp only
                refine po_ck (wt_isO hW68 (xt68.ty h0 (by decide)) (by decide)) ?_
                refine po_w (tX8_finishCall hW68 (xt68.ty h0 (by decide))) (fun y69 g69 hW69 p69 => ?_)
                dsimp only
                refine po_tS (fun z70 q71 => ?_) (fun E hE => ⟨_, xt68, hW69, ⟨fun E2 h2 => by cases h2; exact absurd (p68 (Or.inl ⟨by decide, by decide⟩)) (p69.1 E hE).2, fun y hy => (by cases hy)⟩⟩)
                unfold mX8_rule_b107
                refine po_gRn (t := 1) hW69 (xt68.ty h0 (by decide)) rfl rfl (by decide) (fun i72 ex72 hi72 => ?_)
                refine po_some ?_
                refine po_ck (wt_isO hW69 hi72 (by decide)) ?_
                refine po_ro (tX1_size hW69 hi72) (fun y73 ex73 p73 => ?_)
                dsimp only
                exact po_ret ⟨_, xt68, hW69, ⟨fun E hE => (by cases hE), fun y hy => by cases hy; exact trivial⟩⟩
            · refine po_ck (wt_isO hW59 h0 (by decide)) ?_
              refine po_a (tX8_doAct hW59 h0 (fun _ hi => nomatch hi)) (fun y74 g74 n74 G74 xt74 hW74 p74 => ?_)
              dsimp only
              refine po_ck (wt_isO hW74 (xt74.ty h0 (by decide)) (by decide)) ?_
              refine po_w (tX8_finishCall hW74 (xt74.ty h0 (by decide))) (fun y75 g75 hW75 p75 => ?_)
              dsimp only
              refine po_tS (fun z76 q77 => ?_) (fun E hE => ⟨_, xt74, hW75, ⟨fun E2 h2 => by cases h2; exact absurd (p74 (Or.inl ⟨by decide, by decide⟩)) (p75.1 E hE).2, fun y hy => (by cases hy)⟩⟩)
              unfold mX8_rule_b107
              refine po_gRn (t := 1) hW75 (xt74.ty h0 (by decide)) rfl rfl (by decide) (fun i78 ex78 hi78 => ?_)
              refine po_some ?_
              refine po_ck (wt_isO hW75 hi78 (by decide)) ?_
              refine po_ro (tX1_size hW75 hi78) (fun y79 ex79 p79 => ?_)
              dsimp only
              exact po_ret ⟨_, xt74, hW75, ⟨fun E hE => (by cases hE), fun y hy => by cases hy; exact trivial⟩⟩
          · unfold mX8_rule_b46
            exact po_ret ⟨_, EXT.rfl, hW, ⟨fun E hE => by cases hE; first | exact rfl | exact Or.inl rfl | exact Or.inr rfl, fun y hy => (by cases hy)⟩⟩
      · refine po_lt rfl kt_1 (fun q80 => ?_) (fun q80 => ?_)
        · unfold mX8_rule_b46
          exact po_ret ⟨_, EXT.rfl, hW, ⟨fun E hE => by cases hE; first | exact rfl | exact Or.inl rfl | exact Or.inr rfl, fun y hy => (by cases hy)⟩⟩
        · refine po_le rfl kt_40 (fun q81 => ?_) (fun q81 => ?_)
          · unfold mX8_rule_b56
            refine po_gRn (t := 7) hW h0 rfl rfl (by decide) (fun i82 ex82 hi82 => ?_)
            refine po_gRn (t := 7) hW h0 rfl rfl (by decide) (fun i83 ex83 hi83 => ?_)
            refine po_some ?_
            refine po_ck (wt_isO hW hi82 (by decide)) ?_
            refine po_w (tX7_copyFrom hW hi82 ⟨_, rfl, hi83⟩) (fun y84 g84 hW84 p84 => ?_)
            dsimp only
            refine po_eq (fun q85 => ?_) (fun q85 => ?_)
            · refine po_eq (fun q86 => ?_) (fun q86 => ?_)
              · unfold mX8_rule_b83
                refine po_ck (wt_isO hW84 h0 (by decide)) ?_
                refine po_a (tX8_doAct hW84 h0 (fun _ hi => nomatch hi)) (fun y87 g87 n87 G87 xt87 hW87 p87 => ?_)
                dsimp only
                refine po_ck (wt_isO hW87 (xt87.ty h0 (by decide)) (by decide)) ?_
                refine po_w (tX8_finishCall hW87 (xt87.ty h0 (by decide))) (fun y88 g88 hW88 p88 => ?_)
                dsimp only
                refine po_tS (fun z89 q90 => ?_) (fun E hE => ⟨_, xt87, hW88, ⟨fun E2 h2 => by cases h2; exact absurd (p87 (Or.inl ⟨by decide, by decide⟩)) (p88.1 E hE).2, fun y hy => (by cases hy)⟩⟩)
                unfold mX8_rule_b107
                refine po_gRn (t := 1) hW88 (xt87.ty h0 (by decide)) rfl rfl (by decide) (fun i91 ex91 hi91 => ?_)
                refine po_some ?_
                refine po_ck (wt_isO hW88 hi91 (by decide)) ?_
                refine po_ro (tX1_size hW88 hi91) (fun y92 ex92 p92 => ?_)
                dsimp only
                exact po_ret ⟨_, xt87, hW88, ⟨fun E hE => (by cases hE), fun y hy => by cases hy; exact trivial⟩⟩
              · unfold mX8_rule_b83
                refine po_ck (wt_isO hW84 h0 (by decide)) ?_
                refine po_a (tX8_doAct hW84 h0 (fun _ hi => nomatch hi)) (fun y93 g93 n93 G93 xt93 hW93 p93 => ?_)
                dsimp only
                refine po_ck (wt_isO hW93 (xt93.ty h0 (by decide)) (by decide)) ?_
                refine po_w (tX8_finishCall hW93 (xt93.ty h0 (by decide))) (fun y94 g94 hW94 p94 => ?_)
                dsimp only
                refine po_tS (fun z95 q96 => ?_) (fun E hE => ⟨_, xt93, hW94, ⟨fun E2 h2 => by cases h2; exact absurd (p93 (Or.inl ⟨by decide, by decide⟩)) (p94.1 E hE).2, fun y hy => (by cases hy)⟩⟩)
                unfold mX8_rule_b107
                refine po_gRn (t := 1) hW94 (xt93.ty h0 (by decide)) rfl rfl (by decide) (fun i97 ex97 hi97 => ?_)
                refine po_some ?_
                refine po_ck (wt_isO hW94 hi97 (by decide)) ?_
                refine po_ro (tX1_size hW94 hi97) (fun y98 ex98 p98 => ?_)
                dsimp only
                exact po_ret ⟨_, xt93, hW94, ⟨fun E hE => (by cases hE), fun y hy => by cases hy; exact trivial⟩⟩
            · refine po_ck (wt_isO hW84 h0 (by decide)) ?_
              refine po_a (tX8_doAct hW84 h0 (fun _ hi => nomatch hi)) (fun y99 g99 n99 G99 xt99 hW99 p99 => ?_)
              dsimp only
              refine po_ck (wt_isO hW99 (xt99.ty h0 (by decide)) (by decide)) ?_
              refine po_w (tX8_finishCall hW99 (xt99.ty h0 (by decide))) (fun y100 g100 hW100 p100 => ?_)
              dsimp only
              refine po_tS (fun z101 q102 => ?_) (fun E hE => ⟨_, xt99, hW100, ⟨fun E2 h2 => by cases h2; exact absurd (p99 (Or.inl ⟨by decide, by decide⟩)) (p100.1 E hE).2, fun y hy => (by cases hy)⟩⟩)
              unfold mX8_rule_b107
              refine po_gRn (t := 1) hW100 (xt99.ty h0 (by decide)) rfl rfl (by decide) (fun i103 ex103 hi103 => ?_)
              refine po_some ?_
              refine po_ck (wt_isO hW100 hi103 (by decide)) ?_
              refine po_ro (tX1_size hW100 hi103) (fun y104 ex104 p104 => ?_)
              dsimp only
              exact po_ret ⟨_, xt99, hW100, ⟨fun E hE => (by cases hE), fun y hy => by cases hy; exact trivial⟩⟩
          · unfold mX8_rule_b46
            exact po_ret ⟨_, EXT.rfl, hW, ⟨fun E hE => by cases hE; first | exact rfl | exact Or.inl rfl | exact Or.inr rfl, fun y hy => (by cases hy)⟩⟩
    · exact po_ret ⟨_, EXT.rfl, hW, ⟨fun E hE => by cases hE; first | exact rfl | exact Or.inl rfl | exact Or.inr rfl, fun y hy => (by cases hy)⟩⟩
set_option maxHeartbeats 1000000 in
theorem tX5_isWord_l2 {G : TE} {F0 : AH} {S : Int32} {n : Nat} : ∀ (d : Nat) (v0 : Nat) (v1 : Int32) (f : AH), WT G F0 S f n → G.1 v0 = 5 → (0 ≤ v1.toInt ∧ v1.toInt ≤ 2000) → 3000 - v1.toInt < (d : Int) → PO (mX5_isWord_l2 d v0 v1 f n) (fun v f' n' => f' = f ∧ n' = n ∧ ((v = 0 ∨ v = 1) ∧ (v ≠ 0 → ∃ x : Int32, gI f v0 5 1 = some x ∧ x.toInt ≤ 8))) := by
  intro d
  induction d with
  | zero =>
    intro v0 v1 f hW h0 h1  hm
    exfalso
    omega
  | succ d ih =>
    intro v0 v1 f hW h0 h1  hm
    show PO ((gI f v0 5 1).bind fun x1 => (if x1 ≤ v1 then ((gI f v0 5 1).bind fun x2 => (if x2 < (1 : Int32) then mX5_isWord_b59 f n else ((gI f v0 5 1).bind fun x3 => (if (8 : Int32) < x3 then mX5_isWord_b59 f n else mX5_isWord_b60 (1 : Int32) f n)))) else rCk (isO f v0 5) (((mX5_get v0 v1 f n).bind fun r5 => (if r5.1 < (97 : Int32) then mX5_isWord_b30 r5.2.1 r5.2.2 else rCk (isO r5.2.1 v0 5) (((mX5_get v0 v1 r5.2.1 r5.2.2).bind fun r8 => (if r8.1 ≤ (122 : Int32) then mX5_isWord_l2 d v0 (v1 + (1 : Int32)) r8.2.1 r8.2.2 else mX5_isWord_b30 r8.2.1 r8.2.2)))))))) _
    refine po_rs hW h0 (fun x1x ex1 hx1 hy1 => ?_)
    refine po_le rfl rfl (fun q2 => ?_) (fun q2 => ?_)
    · refine po_bind ex1 ?_
      refine po_lt rfl kt_1 (fun q3 => ?_) (fun q3 => ?_)
      · unfold mX5_isWord_b59
        unfold mX5_isWord_b60
        refine po_ck (nb_of (Or.inl rfl)) ?_
        exact po_ret ⟨rfl, rfl, ⟨Or.inl rfl, fun h => absurd rfl h⟩⟩
      · refine po_bind ex1 ?_
        refine po_lt kt_8 rfl (fun q4 => ?_) (fun q4 => ?_)
        · unfold mX5_isWord_b59
          unfold mX5_isWord_b60
          refine po_ck (nb_of (Or.inl rfl)) ?_
          exact po_ret ⟨rfl, rfl, ⟨Or.inl rfl, fun h => absurd rfl h⟩⟩
        · unfold mX5_isWord_b60
          refine po_ck (nb_of (Or.inr rfl)) ?_
          exact po_ret ⟨rfl, rfl, ⟨Or.inr rfl, fun _ => ⟨_, ex1, by omega⟩⟩⟩
    · refine po_ck (wt_isO hW h0 (by decide)) ?_
      refine po_ro (tX5_get hW h0) (fun y5 ex5 p5 => ?_)
      dsimp only
      refine po_lt rfl kt_97 (fun q6 => ?_) (fun q6 => ?_)
      · unfold mX5_isWord_b30
        refine po_ck rfl ?_
        exact po_ret ⟨rfl, rfl, ⟨Or.inl rfl, fun h => absurd rfl h⟩⟩
      · refine po_ck (wt_isO hW h0 (by decide)) ?_
        refine po_bind ex5 ?_
        dsimp only
        refine po_le rfl kt_122 (fun q7 => ?_) (fun q7 => ?_)
        · have e8 : (v1 + (1 : Int32)).toInt = v1.toInt + 1 := i_add rfl kt_1 (by omega)
          exact (ih v0 (v1 + (1 : Int32)) f hW h0 (by omega)  (by omega))
        · unfold mX5_isWord_b30
          refine po_ck rfl ?_
          exact po_ret ⟨rfl, rfl, ⟨Or.inl rfl, fun h => absurd rfl h⟩⟩
set_option maxHeartbeats 1000000 in
theorem tX5_isWord {G : TE} {F0 : AH} {S : Int32} {f : AH} {n : Nat} {v0 : Nat} (hW : WT G F0 S f n) (h0 : G.1 v0 = 5) : PO (mX5_isWord v0 f n) (fun v f' n' => f' = f ∧ n' = n ∧ ((v = 0 ∨ v = 1) ∧ (v ≠ 0 → ∃ x : Int32, gI f v0 5 1 = some x ∧ x.toInt ≤ 8))) := by
  have k_kt_0 := kt_0
  unfold mX5_isWord
  exact (tX5_isWord_l2 rFU v0 (0 : Int32) f hW h0 (by omega)  (by unfold rFU; omega))
set_option maxHeartbeats 1000000 in
theorem tX8_takeWord {G : TE} {F0 : AH} {S : Int32} {f : AH} {n : Nat} {v0 : Nat} (hW : WT G F0 S f n) (h0 : G.1 v0 = 8) : PO (mX8_takeWord v0 f n) (fun v f' n' => ∃ G', EXT G G' ∧ WT G' F0 0 f' n' ∧ (∀ i, v = some i → G'.1 i = 5)) := by
  have hT : G.1 1 = 5 := hW.2.2.2.2.2
  unfold mX8_takeWord
  refine po_gR1 hW h0 (fun ex1 => ?_)
  refine po_some ?_
  refine po_ck (wt_isO hW hT (by decide)) ?_
  refine po_ro (tX5_isWord hW hT) (fun y2 ex2 p2 => ?_)
  dsimp only
  refine po_eq (fun q3 => ?_) (fun q3 => ?_)
  · unfold mX8_takeWord_b29
    refine po_bind ex1 ?_
    refine po_some ?_
    refine po_ck (wt_isO hW hT (by decide)) ?_
    refine po_w (tape0 hW hT) (fun y4 g4 hW4 p4 => ?_)
    dsimp only
    exact po_ret ⟨_, EXT.rfl, hW4, (fun _ hi => nomatch hi)⟩
  · refine po_bind ex1 ?_
    refine po_bind ex1 ?_
    refine po_some ?_
    refine po_ck (wt_isO hW hT (by decide)) ?_
    refine po_ro (tX5_size hW hT) (fun y5 ex5 p5 => ?_)
    dsimp only
    have hs5 := sz_tape hW ex5
    obtain ⟨z5, ez5, hz5⟩ := p2.2 (by assumption)
    rw [← sz_eq ex5 ez5] at hz5
    refine po_some ?_
    refine po_ck (wt_isO hW hT (by decide)) ?_
    refine po_a (tX5_part (B := 8) hW hT (by omega)) (fun y6 g6 n6 G6 xt6 hW6 p6 => ?_)
    dsimp only
    obtain ⟨i6, rfl, hi6⟩ := p6
    refine po_some ?_
    unfold mX8_takeWord_b29
    refine po_gR1 hW6 (xt6.ty h0 (by decide)) (fun ex7 => ?_)
    refine po_some ?_
    refine po_ck (wt_isO hW6 (xt6.ty hT (by decide)) (by decide)) ?_
    refine po_w (tape0 hW6 (xt6.ty hT (by decide))) (fun y8 g8 hW8 p8 => ?_)
    dsimp only
    exact po_ret ⟨_, xt6, hW8, (fun _ hi => Option.some.inj hi ▸ hi6)⟩
set_option maxHeartbeats 1000000 in
theorem tX8_lock {G : TE} {F0 : AH} {S : Int32} {f : AH} {n : Nat} {v0 : Nat} (hW : WT G F0 S f n) (h0 : G.1 v0 = 8) : PO (mX8_lock v0 f n) (fun v f' n' => ∃ G', EXT G G' ∧ WT G' F0 0 f' n' ∧ ((∀ E : String, v = .inr E → E = eA ∨ E = eS) ∧ (∀ y, v = .inl y → True))) := by
  unfold mX8_lock
  refine po_ck (wt_isO hW h0 (by decide)) ?_
  refine po_a (tX8_takeWord hW h0) (fun y1 g1 n1 G1 xt1 hW1 p1 => ?_)
  dsimp only
  refine po_some ?_
  refine po_oN (fun q3 => ?_) (fun i2 q3 => ?_)
  · subst q3
    exact po_ret ⟨_, xt1, hW1, ⟨fun E hE => by cases hE; first | exact rfl | exact Or.inl rfl | exact Or.inr rfl, fun y hy => (by cases hy)⟩⟩
  · subst q3
    refine po_gRn (t := 7) hW1 (xt1.ty h0 (by decide)) rfl rfl (by decide) (fun i4 ex4 hi4 => ?_)
    refine po_gRn (t := 7) hW1 (xt1.ty h0 (by decide)) rfl rfl (by decide) (fun i5 ex5 hi5 => ?_)
    refine po_some ?_
    refine po_ck (wt_isO hW1 hi4 (by decide)) ?_
    refine po_w (tX7_copyFrom hW1 hi4 ⟨_, rfl, hi5⟩) (fun y6 g6 hW6 p6 => ?_)
    dsimp only
    refine po_ck (wt_isO hW6 (xt1.ty h0 (by decide)) (by decide)) ?_
    refine po_a (tX8_doAct hW6 (xt1.ty h0 (by decide)) (fun _ hi => Option.some.inj hi ▸ (p1 i2 rfl))) (fun y7 g7 n7 G7 xt7 hW7 p7 => ?_)
    dsimp only
    refine po_ck (wt_isO hW7 (xt7.ty (xt1.ty h0 (by decide)) (by decide)) (by decide)) ?_
    refine po_w (tX8_finishCall hW7 (xt7.ty (xt1.ty h0 (by decide)) (by decide))) (fun y8 g8 hW8 p8 => ?_)
    dsimp only
    refine po_tS (fun z9 q10 => ?_) (fun E hE => ⟨_, (xt1.trans xt7), hW8, ⟨fun E2 h2 => by cases h2; have h3 := p8.1 E hE; first | exact h3 | exact Or.inl h3 | exact Or.inr h3 | exact h3.1 | exact Or.inl h3.1 | exact Or.inr h3.1, fun y hy => (by cases hy)⟩⟩)
    refine po_gRn (t := 1) hW8 (xt7.ty (xt1.ty h0 (by decide)) (by decide)) rfl rfl (by decide) (fun i11 ex11 hi11 => ?_)
    refine po_some ?_
    refine po_ck (wt_isO hW8 hi11 (by decide)) ?_
    refine po_ro (tX1_size hW8 hi11) (fun y12 ex12 p12 => ?_)
    dsimp only
    exact po_ret ⟨_, (xt1.trans xt7), hW8, ⟨fun E hE => (by cases hE), fun y hy => by cases hy; exact trivial⟩⟩
set_option maxHeartbeats 1000000 in
theorem tX8_takeTold {G : TE} {F0 : AH} {S : Int32} {f : AH} {n : Nat} {v0 : Nat} (hW : WT G F0 S f n) (h0 : G.1 v0 = 8) : PO (mX8_takeTold v0 f n) (fun v f' n' => ∃ G', EXT G G' ∧ WT G' F0 0 f' n' ∧ (∀ i, v = some i → G'.1 i = 5)) := by
  have hT : G.1 1 = 5 := hW.2.2.2.2.2
  unfold mX8_takeTold
  refine po_gR1 hW h0 (fun ex1 => ?_)
  refine po_some ?_
  refine po_ck (wt_isO hW hT (by decide)) ?_
  refine po_ro (tX5_size hW hT) (fun y2 ex2 p2 => ?_)
  dsimp only
  have hs2 := sz_tape hW ex2
  refine po_le rfl kt_60 (fun q3 => ?_) (fun q3 => ?_)
  · refine po_bind ex1 ?_
    refine po_bind ex1 ?_
    refine po_some ?_
    refine po_ck (wt_isO hW hT (by decide)) ?_
    refine po_bind ex2 ?_
    dsimp only
    refine po_some ?_
    refine po_ck (wt_isO hW hT (by decide)) ?_
    refine po_a (tX5_part (B := 60) hW hT (by omega)) (fun y4 g4 n4 G4 xt4 hW4 p4 => ?_)
    dsimp only
    obtain ⟨i4, rfl, hi4⟩ := p4
    refine po_some ?_
    unfold mX8_takeTold_b31
    refine po_gR1 hW4 (xt4.ty h0 (by decide)) (fun ex5 => ?_)
    refine po_some ?_
    refine po_ck (wt_isO hW4 (xt4.ty hT (by decide)) (by decide)) ?_
    refine po_w (tape0 hW4 (xt4.ty hT (by decide))) (fun y6 g6 hW6 p6 => ?_)
    dsimp only
    exact po_ret ⟨_, xt4, hW6, (fun _ hi => Option.some.inj hi ▸ hi4)⟩
  · unfold mX8_takeTold_b31
    refine po_bind ex1 ?_
    refine po_some ?_
    refine po_ck (wt_isO hW hT (by decide)) ?_
    refine po_w (tape0 hW hT) (fun y7 g7 hW7 p7 => ?_)
    dsimp only
    exact po_ret ⟨_, EXT.rfl, hW7, (fun _ hi => nomatch hi)⟩
set_option maxHeartbeats 1000000 in
theorem tX8_tell {G : TE} {F0 : AH} {S : Int32} {f : AH} {n : Nat} {v0 : Nat} {v1 : Int32} (hW : WT G F0 S f n) (h0 : G.1 v0 = 8) : PO (mX8_tell v0 v1 f n) (fun v f' n' => ∃ G', EXT G G' ∧ WT G' F0 0 f' n' ∧ ((∀ E : String, v = .inr E → E = eA ∨ E = eS) ∧ (∀ y, v = .inl y → True))) := by
  unfold mX8_tell
  refine po_ck (wt_isO hW h0 (by decide)) ?_
  refine po_a (tX8_takeTold hW h0) (fun y1 g1 n1 G1 xt1 hW1 p1 => ?_)
  dsimp only
  refine po_some ?_
  refine po_oN (fun q3 => ?_) (fun i2 q3 => ?_)
  · subst q3
    exact po_ret ⟨_, xt1, hW1, ⟨fun E hE => by cases hE; first | exact rfl | exact Or.inl rfl | exact Or.inr rfl, fun y hy => (by cases hy)⟩⟩
  · subst q3
    refine po_gRn (t := 7) hW1 (xt1.ty h0 (by decide)) rfl rfl (by decide) (fun i4 ex4 hi4 => ?_)
    refine po_gRn (t := 7) hW1 (xt1.ty h0 (by decide)) rfl rfl (by decide) (fun i5 ex5 hi5 => ?_)
    refine po_some ?_
    refine po_ck (wt_isO hW1 hi4 (by decide)) ?_
    refine po_w (tX7_copyFrom hW1 hi4 ⟨_, rfl, hi5⟩) (fun y6 g6 hW6 p6 => ?_)
    dsimp only
    refine po_ck (wt_isO hW6 (xt1.ty h0 (by decide)) (by decide)) ?_
    refine po_a (tX8_doAct hW6 (xt1.ty h0 (by decide)) (fun _ hi => Option.some.inj hi ▸ (p1 i2 rfl))) (fun y7 g7 n7 G7 xt7 hW7 p7 => ?_)
    dsimp only
    refine po_ck (wt_isO hW7 (xt7.ty (xt1.ty h0 (by decide)) (by decide)) (by decide)) ?_
    refine po_w (tX8_finishCall hW7 (xt7.ty (xt1.ty h0 (by decide)) (by decide))) (fun y8 g8 hW8 p8 => ?_)
    dsimp only
    refine po_tS (fun z9 q10 => ?_) (fun E hE => ⟨_, (xt1.trans xt7), hW8, ⟨fun E2 h2 => by cases h2; have h3 := p8.1 E hE; first | exact h3 | exact Or.inl h3 | exact Or.inr h3 | exact h3.1 | exact Or.inl h3.1 | exact Or.inr h3.1, fun y hy => (by cases hy)⟩⟩)
    refine po_gRn (t := 0) hW8 (xt7.ty (xt1.ty h0 (by decide)) (by decide)) rfl rfl (by decide) (fun i11 ex11 hi11 => ?_)
    refine po_some ?_
    refine po_gRm hW8 hi11 rfl rfl (fun i12 ex12 hi12 hm12 => ?_)
    refine po_some ?_
    refine po_ck (wt_isO hW8 hi12 (by decide)) ?_
    refine po_ro (tX5_size hW8 hi12) (fun y13 ex13 p13 => ?_)
    dsimp only
    exact po_ret ⟨_, (xt1.trans xt7), hW8, ⟨fun E hE => (by cases hE), fun y hy => by cases hy; exact trivial⟩⟩
set_option maxHeartbeats 1000000 in
theorem tX8_free {G : TE} {F0 : AH} {S : Int32} {f : AH} {n : Nat} {v0 : Nat} {v1 : Int32} (hW : WT G F0 S f n) (h0 : G.1 v0 = 8) : PO (mX8_free v0 v1 f n) (fun v f' n' => ∃ G', EXT G G' ∧ WT G' F0 S f' n' ∧ ((∀ E : String, v = .inr E → E = eS) ∧ (∀ y, v = .inl y → True))) := by
  unfold mX8_free
  refine po_gRn (t := 7) hW h0 rfl rfl (by decide) (fun i1 ex1 hi1 => ?_)
  refine po_gRn (t := 7) hW h0 rfl rfl (by decide) (fun i2 ex2 hi2 => ?_)
  refine po_some ?_
  refine po_ck (wt_isO hW hi1 (by decide)) ?_
  refine po_w (tX7_copyFrom hW hi1 ⟨_, rfl, hi2⟩) (fun y3 g3 hW3 p3 => ?_)
  dsimp only
  refine po_ck (wt_isO hW3 h0 (by decide)) ?_
  refine po_a (tX8_doAct hW3 h0 (fun _ hi => nomatch hi)) (fun y4 g4 n4 G4 xt4 hW4 p4 => ?_)
  dsimp only
  refine po_ck (wt_isO hW4 (xt4.ty h0 (by decide)) (by decide)) ?_
  refine po_w (tX8_finishCall hW4 (xt4.ty h0 (by decide))) (fun y5 g5 hW5 p5 => ?_)
  dsimp only
  refine po_tS (fun z6 q7 => ?_) (fun E hE => ⟨_, xt4, hW5, ⟨fun E2 h2 => by cases h2; have h3 := p5.1 E hE; first | exact h3 | exact Or.inl h3 | exact Or.inr h3 | exact h3.1 | exact Or.inl h3.1 | exact Or.inr h3.1, fun y hy => (by cases hy)⟩⟩)
  refine po_gRn (t := 0) hW5 (xt4.ty h0 (by decide)) rfl rfl (by decide) (fun i8 ex8 hi8 => ?_)
  refine po_some ?_
  refine po_gRm hW5 hi8 rfl rfl (fun i9 ex9 hi9 hm9 => ?_)
  refine po_some ?_
  refine po_ck (wt_isO hW5 hi9 (by decide)) ?_
  refine po_ro (tX5_size hW5 hi9) (fun y10 ex10 p10 => ?_)
  dsimp only
  exact po_ret ⟨_, xt4, hW5, ⟨fun E hE => (by cases hE), fun y hy => by cases hy; exact trivial⟩⟩
set_option maxHeartbeats 1000000 in
theorem tX1_likeCount_l4 {G : TE} {F0 : AH} {S : Int32} {n : Nat} : ∀ (d : Nat) (v0 : Nat) (v1 : Int32) (v2 : Int32) (v3 : Int32) (f : AH), WT G F0 S f n → G.1 v0 = 1 → (0 ≤ v3.toInt ∧ v3.toInt ≤ 2000) → 3000 - v3.toInt < (d : Int) → PO (mX1_likeCount_l4 d v0 v1 v2 v3 f n) (fun v f' n' => f' = f ∧ n' = n ∧ (True)) := by
  intro d
  induction d with
  | zero =>
    intro v0 v1 v2 v3 f hW h0 h1  hm
    exfalso
    omega
  | succ d ih =>
    intro v0 v1 v2 v3 f hW h0 h1  hm
    show PO ((gI f v0 1 3).bind fun x1 => (if x1 ≤ v3 then some (v2, (f, n)) else rCk (isO f v0 1) (((mX1_areLike v0 v1 v3 f n).bind fun r3 => (if r3.1 = (0 : Int32) then mX1_likeCount_b24 (fun v0 v1 v2 v3 f n => mX1_likeCount_l4 d v0 v1 v2 v3 f n) v0 v1 v2 v3 r3.2.1 r3.2.2 else mX1_likeCount_b24 (fun v0 v1 v2 v3 f n => mX1_likeCount_l4 d v0 v1 v2 v3 f n) v0 v1 (v2 + (1 : Int32)) v3 r3.2.1 r3.2.2))))) _
    refine po_gI hW h0 rfl rfl (by decide) (fun x1x ex1 (hx1 : 0 ≤ x1x.toInt ∧ x1x.toInt ≤ 40) => ?_)
    refine po_le rfl rfl (fun q2 => ?_) (fun q2 => ?_)
    · exact po_ret ⟨rfl, rfl, trivial⟩
    · refine po_ck (wt_isO hW h0 (by decide)) ?_
      refine po_ro (tX1_areLike hW h0) (fun y3 ex3 p3 => ?_)
      dsimp only
      refine po_eq (fun q4 => ?_) (fun q4 => ?_)
      · unfold mX1_likeCount_b24
        have e5 : (v3 + (1 : Int32)).toInt = v3.toInt + 1 := i_add rfl kt_1 (by omega)
        exact (ih v0 v1 v2 (v3 + (1 : Int32)) f hW h0 (by omega)  (by omega))
      · unfold mX1_likeCount_b24
        have e6 : (v3 + (1 : Int32)).toInt = v3.toInt + 1 := i_add rfl kt_1 (by omega)
        exact (ih v0 v1 (v2 + (1 : Int32)) (v3 + (1 : Int32)) f hW h0 (by omega)  (by omega))
set_option maxHeartbeats 1000000 in
theorem tX1_likeCount {G : TE} {F0 : AH} {S : Int32} {f : AH} {n : Nat} {v0 : Nat} {v1 : Int32} (hW : WT G F0 S f n) (h0 : G.1 v0 = 1) : PO (mX1_likeCount v0 v1 f n) (fun v f' n' => f' = f ∧ n' = n ∧ (True)) := by
  have k_kt_0 := kt_0
  unfold mX1_likeCount
  exact (tX1_likeCount_l4 rFU v0 v1 (0 : Int32) (0 : Int32) f hW h0 (by omega)  (by unfold rFU; omega))
set_option maxHeartbeats 1000000 in
theorem tX8_spread {G : TE} {F0 : AH} {S : Int32} {f : AH} {n : Nat} {v0 : Nat} {v1 : Int32} (hW : WT G F0 S f n) (h0 : G.1 v0 = 8) : PO (mX8_spread v0 v1 f n) (fun v f' n' => ∃ G', EXT G G' ∧ WT G' F0 S f' n' ∧ ((∀ E : String, v = .inr E → E = eS) ∧ (∀ y, v = .inl y → True))) := by
  unfold mX8_spread
  refine po_gRn (t := 7) hW h0 rfl rfl (by decide) (fun i1 ex1 hi1 => ?_)
  refine po_gRn (t := 7) hW h0 rfl rfl (by decide) (fun i2 ex2 hi2 => ?_)
  refine po_some ?_
  refine po_ck (wt_isO hW hi1 (by decide)) ?_
  refine po_w (tX7_copyFrom hW hi1 ⟨_, rfl, hi2⟩) (fun y3 g3 hW3 p3 => ?_)
  dsimp only
  refine po_ck (wt_isO hW3 h0 (by decide)) ?_
  refine po_a (tX8_doAct hW3 h0 (fun _ hi => nomatch hi)) (fun y4 g4 n4 G4 xt4 hW4 p4 => ?_)
  dsimp only
  refine po_ck (wt_isO hW4 (xt4.ty h0 (by decide)) (by decide)) ?_
  refine po_w (tX8_finishCall hW4 (xt4.ty h0 (by decide))) (fun y5 g5 hW5 p5 => ?_)
  dsimp only
  refine po_tS (fun z6 q7 => ?_) (fun E hE => ⟨_, xt4, hW5, ⟨fun E2 h2 => by cases h2; have h3 := p5.1 E hE; first | exact h3 | exact Or.inl h3 | exact Or.inr h3 | exact h3.1 | exact Or.inl h3.1 | exact Or.inr h3.1, fun y hy => (by cases hy)⟩⟩)
  refine po_gRn (t := 1) hW5 (xt4.ty h0 (by decide)) rfl rfl (by decide) (fun i8 ex8 hi8 => ?_)
  refine po_some ?_
  refine po_ck (wt_isO hW5 hi8 (by decide)) ?_
  refine po_ro (tX1_likeCount hW5 hi8) (fun y9 ex9 p9 => ?_)
  dsimp only
  exact po_ret ⟨_, xt4, hW5, ⟨fun E hE => (by cases hE), fun y hy => by cases hy; exact trivial⟩⟩
set_option maxHeartbeats 1000000 in
theorem tX8_swap {G : TE} {F0 : AH} {S : Int32} {f : AH} {n : Nat} {v0 : Nat} {v1 : Int32} {v2 : Int32} (hW : WT G F0 S f n) (h0 : G.1 v0 = 8) : PO (mX8_swap v0 v1 v2 f n) (fun v f' n' => ∃ G', EXT G G' ∧ WT G' F0 S f' n' ∧ ((∀ E : String, v = .inr E → E = eS) ∧ (∀ y, v = .inl y → True))) := by
  unfold mX8_swap
  refine po_gRn (t := 7) hW h0 rfl rfl (by decide) (fun i1 ex1 hi1 => ?_)
  refine po_gRn (t := 7) hW h0 rfl rfl (by decide) (fun i2 ex2 hi2 => ?_)
  refine po_some ?_
  refine po_ck (wt_isO hW hi1 (by decide)) ?_
  refine po_w (tX7_copyFrom hW hi1 ⟨_, rfl, hi2⟩) (fun y3 g3 hW3 p3 => ?_)
  dsimp only
  refine po_ck (wt_isO hW3 h0 (by decide)) ?_
  refine po_a (tX8_doAct hW3 h0 (fun _ hi => nomatch hi)) (fun y4 g4 n4 G4 xt4 hW4 p4 => ?_)
  dsimp only
  refine po_ck (wt_isO hW4 (xt4.ty h0 (by decide)) (by decide)) ?_
  refine po_w (tX8_finishCall hW4 (xt4.ty h0 (by decide))) (fun y5 g5 hW5 p5 => ?_)
  dsimp only
  refine po_tS (fun z6 q7 => ?_) (fun E hE => ⟨_, xt4, hW5, ⟨fun E2 h2 => by cases h2; have h3 := p5.1 E hE; first | exact h3 | exact Or.inl h3 | exact Or.inr h3 | exact h3.1 | exact Or.inl h3.1 | exact Or.inr h3.1, fun y hy => (by cases hy)⟩⟩)
  refine po_gRn (t := 0) hW5 (xt4.ty h0 (by decide)) rfl rfl (by decide) (fun i8 ex8 hi8 => ?_)
  refine po_some ?_
  refine po_gRm hW5 hi8 rfl rfl (fun i9 ex9 hi9 hm9 => ?_)
  refine po_some ?_
  refine po_ck (wt_isO hW5 hi9 (by decide)) ?_
  refine po_ro (tX5_size hW5 hi9) (fun y10 ex10 p10 => ?_)
  dsimp only
  exact po_ret ⟨_, xt4, hW5, ⟨fun E hE => (by cases hE), fun y hy => by cases hy; exact trivial⟩⟩
set_option maxHeartbeats 1000000 in
theorem tX8_wipe {G : TE} {F0 : AH} {S : Int32} {f : AH} {n : Nat} {v0 : Nat} (hW : WT G F0 S f n) (h0 : G.1 v0 = 8) : PO (mX8_wipe v0 f n) (fun v f' n' => ∃ G', EXT G G' ∧ WT G' F0 S f' n' ∧ ((∀ E : String, v = .inr E → E = eS) ∧ (∀ y, v = .inl y → True))) := by
  unfold mX8_wipe
  refine po_gRn (t := 7) hW h0 rfl rfl (by decide) (fun i1 ex1 hi1 => ?_)
  refine po_some ?_
  refine po_ck (wt_isO hW hi1 (by decide)) ?_
  refine po_ro (tX7_toldCount hW hi1) (fun y2 ex2 p2 => ?_)
  dsimp only
  refine po_gRn (t := 7) hW h0 rfl rfl (by decide) (fun i3 ex3 hi3 => ?_)
  refine po_bind ex1 ?_
  refine po_some ?_
  refine po_ck (wt_isO hW hi3 (by decide)) ?_
  refine po_w (tX7_copyFrom hW hi3 ⟨_, rfl, hi1⟩) (fun y4 g4 hW4 p4 => ?_)
  dsimp only
  refine po_ck (wt_isO hW4 h0 (by decide)) ?_
  refine po_a (tX8_doAct hW4 h0 (fun _ hi => nomatch hi)) (fun y5 g5 n5 G5 xt5 hW5 p5 => ?_)
  dsimp only
  refine po_ck (wt_isO hW5 (xt5.ty h0 (by decide)) (by decide)) ?_
  refine po_w (tX8_finishCall hW5 (xt5.ty h0 (by decide))) (fun y6 g6 hW6 p6 => ?_)
  dsimp only
  refine po_tS (fun z7 q8 => ?_) (fun E hE => ⟨_, xt5, hW6, ⟨fun E2 h2 => by cases h2; have h3 := p6.1 E hE; first | exact h3 | exact Or.inl h3 | exact Or.inr h3 | exact h3.1 | exact Or.inl h3.1 | exact Or.inr h3.1, fun y hy => (by cases hy)⟩⟩)
  exact po_ret ⟨_, xt5, hW6, ⟨fun E hE => (by cases hE), fun y hy => by cases hy; exact trivial⟩⟩
set_option maxHeartbeats 1000000 in
theorem tX8_undo {G : TE} {F0 : AH} {S : Int32} {f : AH} {n : Nat} {v0 : Nat} (hW : WT G F0 S f n) (h0 : G.1 v0 = 8) : PO (mX8_undo v0 f n) (fun v f' n' => n' = n ∧ WT G F0 S f' n ∧ ((∀ E : String, v = .inr E → E = eS) ∧ (∀ y, v = .inl y → True))) := by
  unfold mX8_undo
  refine po_gI hW h0 rfl rfl (by decide) (fun x1x ex1 (_ : True) => ?_)
  refine po_lt rfl kt_1 (fun q2 => ?_) (fun q2 => ?_)
  · unfold mX8_undo_b34
    exact po_ret ⟨rfl, hW, ⟨fun E hE => by cases hE; first | exact rfl | exact Or.inl rfl | exact Or.inr rfl, fun y hy => (by cases hy)⟩⟩
  · refine po_bind ex1 ?_
    refine po_gRn (t := 12) hW h0 rfl rfl (by decide) (fun i3 ex3 hi3 => ?_)
    refine po_some ?_
    refine po_gL (N := 8) hW hi3 rfl rfl (by decide) ?_
    refine po_lt kn_8 rfl (fun q4 => ?_) (fun q4 => ?_)
    · unfold mX8_undo_b34
      exact po_ret ⟨rfl, hW, ⟨fun E hE => by cases hE; first | exact rfl | exact Or.inl rfl | exact Or.inr rfl, fun y hy => (by cases hy)⟩⟩
    · refine po_bind ex3 ?_
      refine po_bind ex1 ?_
      refine po_some ?_
      have e5 : (x1x - (1 : Int32)).toInt = x1x.toInt - 1 := i_sub rfl kt_1 (by omega)
      refine po_gRAn (N := 8) (T := 7) hW hi3 rfl rfl rfl (by decide) (by omega) (fun i6 hi6 => ?_)
      refine po_oNs ?_
      refine po_bind ex1 ?_
      refine po_pI hW h0 rfl rfl (vv_i (by decide) trivial) (fun g7 hW7 ex7 => ?_)
      refine po_gRn (t := 12) hW7 h0 rfl rfl (by decide) (fun i8 ex8 hi8 => ?_)
      refine po_bind ex7 ?_
      refine po_some ?_
      refine po_gRAn (N := 8) (T := 7) hW7 hi8 rfl rfl rfl (by decide) (by omega) (fun i9 hi9 => ?_)
      refine po_ck (wt_isO hW7 h0 (by decide)) ?_
      refine po_w (tX8_restore hW7 h0 ⟨_, rfl, hi9⟩) (fun y10 g10 hW10 p10 => ?_)
      dsimp only
      refine po_gI hW10 h0 rfl rfl (by decide) (fun x11x ex11 (_ : True) => ?_)
      exact po_ret ⟨rfl, hW10, ⟨fun E hE => (by cases hE), fun y hy => by cases hy; exact trivial⟩⟩
set_option maxHeartbeats 1000000 in
theorem tX8_pieceOrThrow {G : TE} {F0 : AH} {S : Int32} {f : AH} {n : Nat} {v0 : Nat} {v1 : Int32} (hW : WT G F0 S f n) (h0 : G.1 v0 = 8) : PO (mX8_pieceOrThrow v0 v1 f n) (fun v f' n' => f' = f ∧ n' = n ∧ ((∀ E : String, v = .inr E → E = eI) ∧ (∀ y, v = .inl y → ∃ i, y = some i ∧ G.1 i = 3))) := by
  unfold mX8_pieceOrThrow
  refine po_gRn (t := 1) hW h0 rfl rfl (by decide) (fun i1 ex1 hi1 => ?_)
  refine po_some ?_
  refine po_ck (wt_isO hW hi1 (by decide)) ?_
  refine po_ro (tX1_get hW hi1) (fun y2 ex2 p2 => ?_)
  dsimp only
  refine po_some ?_
  refine po_oN (fun q4 => ?_) (fun i3 q4 => ?_)
  · subst q4
    exact po_ret ⟨rfl, rfl, ⟨fun E hE => by cases hE; first | exact rfl | exact Or.inl rfl | exact Or.inr rfl, fun y hy => (by cases hy)⟩⟩
  · subst q4
    exact po_ret ⟨rfl, rfl, ⟨fun E hE => (by cases hE), fun y hy => by cases hy; exact ⟨_, rfl, (p2 i3 rfl)⟩⟩⟩
set_option maxHeartbeats 1000000 in
theorem tX8_knownPair_l10 {G : TE} {F0 : AH} {S : Int32} {n : Nat} : ∀ (d : Nat) (v0 : Nat) (v1 : Option Nat) (v2 : Option Nat) (v3 : Int32) (f : AH), WT G F0 S f n → G.1 v0 = 8 → (∃ i, v1 = some i ∧ G.1 i = 3) → (∀ i, v2 = some i → G.1 i = 2) → (0 ≤ v3.toInt ∧ v3.toInt ≤ 2000) → 3000 - v3.toInt < (d : Int) → PO (mX8_knownPair_l10 d v0 v1 v2 v3 f n) (fun v f' n' => f' = f ∧ n' = n ∧ (True)) := by
  intro d
  induction d with
  | zero =>
    intro v0 v1 v2 v3 f hW h0 h1 h2 h3  hm
    exfalso
    obtain ⟨iv1, rfl, h1⟩ := h1
    omega
  | succ d ih =>
    intro v0 v1 v2 v3 f hW h0 h1 h2 h3  hm
    obtain ⟨iv1, rfl, h1⟩ := h1
    show PO ((gR f v0 8 1).bind fun x1 => ((x1).bind fun j2 => ((gI f j2 7 7).bind fun x3 => (if x3 ≤ v3 then mX8_knownPair_b78 f n else (oN v2 (mX8_knownPair_b78 f n) (fun j4 => ((gR f j4 2 0).bind fun x5 => ((x5).bind fun j6 => rCk (isO f j6 5) (((mX5_size j6 f n).bind fun r8 => (((some iv1)).bind fun j10 => ((gI r8.2.1 j10 3 3).bind fun x11 => (if r8.1 = x11 then ((gR r8.2.1 j4 2 0).bind fun x12 => ((gR r8.2.1 v0 8 5).bind fun x13 => ((x13).bind fun j14 => ((gR r8.2.1 j14 1 0).bind fun x15 => ((gI r8.2.1 j10 3 2).bind fun x16 => ((gI r8.2.1 j10 3 3).bind fun x17 => ((x12).bind fun j18 => rCk (isO r8.2.1 j18 5) (((mX5_isSame j18 (0 : Int32) x15 x16 x17 r8.2.1 r8.2.2).bind fun r20 => (if r20.1 = (0 : Int32) then mX8_knownPair_b67 (fun v0 v1 v2 v3 f n => mX8_knownPair_l10 d v0 v1 v2 v3 f n) v0 (some j10) (some j4) v3 r20.2.1 r20.2.2 else some (v3, (r20.2.1, r20.2.2)))))))))))) else mX8_knownPair_b67 (fun v0 v1 v2 v3 f n => mX8_knownPair_l10 d v0 v1 v2 v3 f n) v0 (some j10) (some j4) v3 r8.2.1 r8.2.2))))))))))))) _
    refine po_gRn (t := 7) hW h0 rfl rfl (by decide) (fun i1 ex1 hi1 => ?_)
    refine po_some ?_
    refine po_gI hW hi1 rfl rfl (by decide) (fun x2x ex2 (hx2 : 0 ≤ x2x.toInt ∧ x2x.toInt ≤ 12) => ?_)
    refine po_le rfl rfl (fun q3 => ?_) (fun q3 => ?_)
    · unfold mX8_knownPair_b78
      exact po_ret ⟨rfl, rfl, trivial⟩
    · refine po_oN (fun q5 => ?_) (fun i4 q5 => ?_)
      · subst q5
        unfold mX8_knownPair_b78
        exact po_ret ⟨rfl, rfl, trivial⟩
      · subst q5
        refine po_gRn (t := 5) hW (h2 i4 rfl) rfl rfl (by decide) (fun i6 ex6 hi6 => ?_)
        refine po_some ?_
        refine po_ck (wt_isO hW hi6 (by decide)) ?_
        refine po_ro (tX5_size hW hi6) (fun y7 ex7 p7 => ?_)
        dsimp only
        refine po_some ?_
        refine po_gI hW h1 rfl rfl (by decide) (fun x8x ex8 (hx8 : (-700) ≤ x8x.toInt ∧ x8x.toInt ≤ 700) => ?_)
        refine po_eq (fun q9 => ?_) (fun q9 => ?_)
        · refine po_bind ex6 ?_
          refine po_gRn (t := 1) hW h0 rfl rfl (by decide) (fun i10 ex10 hi10 => ?_)
          refine po_some ?_
          refine po_gRm hW hi10 rfl rfl (fun i11 ex11 hi11 hm11 => ?_)
          refine po_gI hW h1 rfl rfl (by decide) (fun x12x ex12 (hx12 : 0 ≤ x12x.toInt ∧ x12x.toInt ≤ 600) => ?_)
          refine po_bind ex8 ?_
          refine po_some ?_
          refine po_ck (wt_isO hW hi6 (by decide)) ?_
          refine po_ro (tX5_isSame hW hi6 ⟨_, rfl, hi11⟩ (by omega)) (fun y13 ex13 p13 => ?_)
          dsimp only
          refine po_eq (fun q14 => ?_) (fun q14 => ?_)
          · unfold mX8_knownPair_b67
            refine po_some ?_
            refine po_gRo (t := 2) hW (h2 i4 rfl) rfl rfl (by decide) (fun i15 ex15 hi15 => ?_)
            have e16 : (v3 + (1 : Int32)).toInt = v3.toInt + 1 := i_add rfl kt_1 (by omega)
            exact (ih v0 (some iv1) i15 (v3 + (1 : Int32)) f hW h0 ⟨_, rfl, h1⟩ hi15 (by omega)  (by omega))
          · exact po_ret ⟨rfl, rfl, trivial⟩
        · unfold mX8_knownPair_b67
          refine po_some ?_
          refine po_gRo (t := 2) hW (h2 i4 rfl) rfl rfl (by decide) (fun i17 ex17 hi17 => ?_)
          have e18 : (v3 + (1 : Int32)).toInt = v3.toInt + 1 := i_add rfl kt_1 (by omega)
          exact (ih v0 (some iv1) i17 (v3 + (1 : Int32)) f hW h0 ⟨_, rfl, h1⟩ hi17 (by omega)  (by omega))
set_option maxHeartbeats 1000000 in
theorem tX8_knownPair {G : TE} {F0 : AH} {S : Int32} {f : AH} {n : Nat} {v0 : Nat} {v1 : Option Nat} (hW : WT G F0 S f n) (h0 : G.1 v0 = 8) (h1 : (∃ i, v1 = some i ∧ G.1 i = 3)) : PO (mX8_knownPair v0 v1 f n) (fun v f' n' => f' = f ∧ n' = n ∧ (True)) := by
  obtain ⟨iv1, rfl, h1⟩ := h1
  have k_kt_0 := kt_0
  unfold mX8_knownPair
  refine po_gRn (t := 7) hW h0 rfl rfl (by decide) (fun i1 ex1 hi1 => ?_)
  refine po_some ?_
  refine po_gRo (t := 2) hW hi1 rfl rfl (by decide) (fun i2 ex2 hi2 => ?_)
  exact (tX8_knownPair_l10 rFU v0 (some iv1) i2 (0 : Int32) f hW h0 ⟨_, rfl, h1⟩ hi2 (by omega)  (by unfold rFU; omega))
set_option maxHeartbeats 1000000 in
theorem tX8_piece {G : TE} {F0 : AH} {S : Int32} {f : AH} {n : Nat} {v0 : Nat} {v1 : Int32} {v2 : Int32} (hW : WT G F0 S f n) (h0 : G.1 v0 = 8) : PO (mX8_piece v0 v1 v2 f n) (fun v f' n' => f' = f ∧ n' = n ∧ ((∀ E : String, v = .inr E → E = eI ∨ E = eN) ∧ (∀ y, v = .inl y → True))) := by
  unfold mX8_piece
  refine po_ck (wt_isO hW h0 (by decide)) ?_
  refine po_ro (tX8_pieceOrThrow hW h0) (fun y1 ex1 p1 => ?_)
  dsimp only
  refine po_tS (fun z2 q3 => ?_) (fun E hE => ⟨rfl, rfl, ⟨fun E2 h2 => by cases h2; have h3 := p1.1 E hE; first | exact h3 | exact Or.inl h3 | exact Or.inr h3 | exact h3.1 | exact Or.inl h3.1 | exact Or.inr h3.1, fun y hy => (by cases hy)⟩⟩)
  have p4 := p1.2 z2 q3
  obtain ⟨i5, rfl, hii5⟩ := p4
  refine po_some ?_
  refine po_eq (fun q6 => ?_) (fun q6 => ?_)
  · refine po_some ?_
    refine po_gI hW hii5 rfl rfl (by decide) (fun x7x ex7 (_ : True) => ?_)
    exact po_ret ⟨rfl, rfl, ⟨fun E hE => (by cases hE), fun y hy => by cases hy; exact trivial⟩⟩
  · refine po_eq (fun q8 => ?_) (fun q8 => ?_)
    · refine po_some ?_
      refine po_gI hW hii5 rfl rfl (by decide) (fun x9x ex9 (_ : True) => ?_)
      exact po_ret ⟨rfl, rfl, ⟨fun E hE => (by cases hE), fun y hy => by cases hy; exact trivial⟩⟩
    · refine po_eq (fun q10 => ?_) (fun q10 => ?_)
      · refine po_some ?_
        refine po_gI hW hii5 rfl rfl (by decide) (fun x11x ex11 (hx11 : (-700) ≤ x11x.toInt ∧ x11x.toInt ≤ 700) => ?_)
        exact po_ret ⟨rfl, rfl, ⟨fun E hE => (by cases hE), fun y hy => by cases hy; exact trivial⟩⟩
      · refine po_eq (fun q12 => ?_) (fun q12 => ?_)
        · refine po_ck (wt_isO hW h0 (by decide)) ?_
          refine po_ro (tX8_nowSize hW h0 ⟨_, rfl, hii5⟩) (fun y13 ex13 p13 => ?_)
          dsimp only
          exact po_ret ⟨rfl, rfl, ⟨fun E hE => (by cases hE), fun y hy => by cases hy; exact trivial⟩⟩
        · refine po_eq (fun q14 => ?_) (fun q14 => ?_)
          · refine po_gRn (t := 7) hW h0 rfl rfl (by decide) (fun i15 ex15 hi15 => ?_)
            refine po_some ?_
            refine po_ck (wt_isO hW hi15 (by decide)) ?_
            refine po_ro (tX7_toldFor hW hi15) (fun y16 ex16 p16 => ?_)
            dsimp only
            refine po_some ?_
            refine po_oN (fun q18 => ?_) (fun i17 q18 => ?_)
            · subst q18
              unfold mX8_piece_b98
              exact po_ret ⟨rfl, rfl, ⟨fun E hE => (by cases hE), fun y hy => by cases hy; exact trivial⟩⟩
            · subst q18
              unfold mX8_piece_b98
              exact po_ret ⟨rfl, rfl, ⟨fun E hE => (by cases hE), fun y hy => by cases hy; exact trivial⟩⟩
          · refine po_eq (fun q19 => ?_) (fun q19 => ?_)
            · refine po_gRn (t := 1) hW h0 rfl rfl (by decide) (fun i20 ex20 hi20 => ?_)
              refine po_some ?_
              refine po_ck (wt_isO hW hi20 (by decide)) ?_
              refine po_ro (tX1_likeCount hW hi20) (fun y21 ex21 p21 => ?_)
              dsimp only
              exact po_ret ⟨rfl, rfl, ⟨fun E hE => (by cases hE), fun y hy => by cases hy; exact trivial⟩⟩
            · refine po_eq (fun q22 => ?_) (fun q22 => ?_)
              · refine po_ck (wt_isO hW h0 (by decide)) ?_
                refine po_ro (tX8_countWords hW h0 ⟨_, rfl, hii5⟩) (fun y23 ex23 p23 => ?_)
                dsimp only
                exact po_ret ⟨rfl, rfl, ⟨fun E hE => (by cases hE), fun y hy => by cases hy; exact trivial⟩⟩
              · refine po_eq (fun q24 => ?_) (fun q24 => ?_)
                · refine po_ck (wt_isO hW h0 (by decide)) ?_
                  refine po_ro (tX8_knownPair hW h0 ⟨_, rfl, hii5⟩) (fun y25 ex25 p25 => ?_)
                  dsimp only
                  exact po_ret ⟨rfl, rfl, ⟨fun E hE => (by cases hE), fun y hy => by cases hy; exact trivial⟩⟩
                · refine po_eq (fun q26 => ?_) (fun q26 => ?_)
                  · refine po_some ?_
                    refine po_gI hW hii5 rfl rfl (by decide) (fun x27x ex27 (_ : True) => ?_)
                    exact po_ret ⟨rfl, rfl, ⟨fun E hE => (by cases hE), fun y hy => by cases hy; exact trivial⟩⟩
                  · refine po_eq (fun q28 => ?_) (fun q28 => ?_)
                    · refine po_some ?_
                      refine po_gI hW hii5 rfl rfl (by decide) (fun x29x ex29 (_ : True) => ?_)
                      exact po_ret ⟨rfl, rfl, ⟨fun E hE => (by cases hE), fun y hy => by cases hy; exact trivial⟩⟩
                    · exact po_ret ⟨rfl, rfl, ⟨fun E hE => by cases hE; first | exact rfl | exact Or.inl rfl | exact Or.inr rfl, fun y hy => (by cases hy)⟩⟩
set_option maxHeartbeats 1000000 in
theorem tX1_textByte {G : TE} {F0 : AH} {S : Int32} {f : AH} {n : Nat} {v0 : Nat} {v1 : Option Nat} {v2 : Int32} (hW : WT G F0 S f n) (h0 : G.1 v0 = 1) (h1 : (∃ i, v1 = some i ∧ G.1 i = 3)) : PO (mX1_textByte v0 v1 v2 f n) (fun v f' n' => f' = f ∧ n' = n ∧ (True)) := by
  obtain ⟨iv1, rfl, h1⟩ := h1
  unfold mX1_textByte
  refine po_lt rfl kt_0 (fun q1 => ?_) (fun q1 => ?_)
  · unfold mX1_textByte_b28
    unfold mX1_textByte_b29
    exact po_ret ⟨rfl, rfl, trivial⟩
  · refine po_some ?_
    refine po_gI hW h1 rfl rfl (by decide) (fun x2x ex2 (hx2 : (-700) ≤ x2x.toInt ∧ x2x.toInt ≤ 700) => ?_)
    refine po_le rfl rfl (fun q3 => ?_) (fun q3 => ?_)
    · unfold mX1_textByte_b28
      unfold mX1_textByte_b29
      exact po_ret ⟨rfl, rfl, trivial⟩
    · refine po_gRm hW h0 rfl rfl (fun i4 ex4 hi4 hm4 => ?_)
      refine po_gI hW h1 rfl rfl (by decide) (fun x5x ex5 (hx5 : 0 ≤ x5x.toInt ∧ x5x.toInt ≤ 600) => ?_)
      refine po_some ?_
      refine po_ck (wt_isO hW hi4 (by decide)) ?_
      have e6 : (x5x + v2).toInt = x5x.toInt + v2.toInt := i_add rfl rfl (by omega)
      refine po_ro (tX5_get hW hi4) (fun y7 ex7 p7 => ?_)
      dsimp only
      unfold mX1_textByte_b29
      exact po_ret ⟨rfl, rfl, trivial⟩
set_option maxHeartbeats 1000000 in
theorem tX8_nowByte {G : TE} {F0 : AH} {S : Int32} {f : AH} {n : Nat} {v0 : Nat} {v1 : Int32} {v2 : Option Nat} {v3 : Int32} (hW : WT G F0 S f n) (h0 : G.1 v0 = 8) (h1 : (∃ i, v2 = some i ∧ G.1 i = 3)) : PO (mX8_nowByte v0 v1 v2 v3 f n) (fun v f' n' => f' = f ∧ n' = n ∧ (True)) := by
  obtain ⟨iv2, rfl, h1⟩ := h1
  unfold mX8_nowByte
  refine po_gRn (t := 7) hW h0 rfl rfl (by decide) (fun i1 ex1 hi1 => ?_)
  refine po_some ?_
  refine po_ck (wt_isO hW hi1 (by decide)) ?_
  refine po_ro (tX7_toldFor hW hi1) (fun y2 ex2 p2 => ?_)
  dsimp only
  refine po_some ?_
  refine po_oN (fun q4 => ?_) (fun i3 q4 => ?_)
  · subst q4
    refine po_gRn (t := 1) hW h0 rfl rfl (by decide) (fun i5 ex5 hi5 => ?_)
    refine po_some ?_
    refine po_ck (wt_isO hW hi5 (by decide)) ?_
    refine po_ro (tX1_textByte hW hi5 ⟨_, rfl, h1⟩) (fun y6 ex6 p6 => ?_)
    dsimp only
    unfold mX8_nowByte_b33
    exact po_ret ⟨rfl, rfl, trivial⟩
  · subst q4
    refine po_ck (wt_isO hW (p2 i3 rfl) (by decide)) ?_
    refine po_ro (tX5_get hW (p2 i3 rfl)) (fun y7 ex7 p7 => ?_)
    dsimp only
    unfold mX8_nowByte_b33
    exact po_ret ⟨rfl, rfl, trivial⟩
set_option maxHeartbeats 1000000 in
theorem tX8_octet {G : TE} {F0 : AH} {S : Int32} {f : AH} {n : Nat} {v0 : Nat} {v1 : Int32} {v2 : Int32} {v3 : Int32} (hW : WT G F0 S f n) (h0 : G.1 v0 = 8) : PO (mX8_octet v0 v1 v2 v3 f n) (fun v f' n' => f' = f ∧ n' = n ∧ ((∀ E : String, v = .inr E → E = eI) ∧ (∀ y, v = .inl y → True))) := by
  unfold mX8_octet
  refine po_ck (wt_isO hW h0 (by decide)) ?_
  refine po_ro (tX8_pieceOrThrow hW h0) (fun y1 ex1 p1 => ?_)
  dsimp only
  refine po_tS (fun z2 q3 => ?_) (fun E hE => ⟨rfl, rfl, ⟨fun E2 h2 => by cases h2; have h3 := p1.1 E hE; first | exact h3 | exact Or.inl h3 | exact Or.inr h3 | exact h3.1 | exact Or.inl h3.1 | exact Or.inr h3.1, fun y hy => (by cases hy)⟩⟩)
  have p4 := p1.2 z2 q3
  obtain ⟨i5, rfl, hii5⟩ := p4
  refine po_some ?_
  refine po_eq (fun q6 => ?_) (fun q6 => ?_)
  · refine po_gRn (t := 1) hW h0 rfl rfl (by decide) (fun i7 ex7 hi7 => ?_)
    refine po_some ?_
    refine po_ck (wt_isO hW hi7 (by decide)) ?_
    refine po_ro (tX1_textByte hW hi7 ⟨_, rfl, hii5⟩) (fun y8 ex8 p8 => ?_)
    dsimp only
    unfold mX8_octet_b32
    exact po_ret ⟨rfl, rfl, ⟨fun E hE => (by cases hE), fun y hy => by cases hy; exact trivial⟩⟩
  · refine po_ck (wt_isO hW h0 (by decide)) ?_
    refine po_ro (tX8_nowByte hW h0 ⟨_, rfl, hii5⟩) (fun y9 ex9 p9 => ?_)
    dsimp only
    unfold mX8_octet_b32
    exact po_ret ⟨rfl, rfl, ⟨fun E hE => (by cases hE), fun y hy => by cases hy; exact trivial⟩⟩
set_option maxHeartbeats 1000000 in
theorem tX8_origin {G : TE} {F0 : AH} {S : Int32} {f : AH} {n : Nat} {v0 : Nat} {v1 : Int32} {v2 : Int32} (hW : WT G F0 S f n) (h0 : G.1 v0 = 8) : PO (mX8_origin v0 v1 v2 f n) (fun v f' n' => f' = f ∧ n' = n ∧ ((∀ E : String, v = .inr E → E = eI) ∧ (∀ y, v = .inl y → True))) := by
  unfold mX8_origin
  refine po_ck (wt_isO hW h0 (by decide)) ?_
  refine po_ro (tX8_pieceOrThrow hW h0) (fun y1 ex1 p1 => ?_)
  dsimp only
  refine po_tS (fun z2 q3 => ?_) (fun E hE => ⟨rfl, rfl, ⟨fun E2 h2 => by cases h2; have h3 := p1.1 E hE; first | exact h3 | exact Or.inl h3 | exact Or.inr h3 | exact h3.1 | exact Or.inl h3.1 | exact Or.inr h3.1, fun y hy => (by cases hy)⟩⟩)
  have p4 := p1.2 z2 q3
  obtain ⟨i5, rfl, hii5⟩ := p4
  refine po_some ?_
  refine po_lt rfl kt_0 (fun q6 => ?_) (fun q6 => ?_)
  · unfold mX8_origin_b37
    unfold mX8_origin_b38
    exact po_ret ⟨rfl, rfl, ⟨fun E hE => (by cases hE), fun y hy => by cases hy; exact trivial⟩⟩
  · refine po_some ?_
    refine po_gI hW hii5 rfl rfl (by decide) (fun x7x ex7 (hx7 : (-700) ≤ x7x.toInt ∧ x7x.toInt ≤ 700) => ?_)
    refine po_le rfl rfl (fun q8 => ?_) (fun q8 => ?_)
    · unfold mX8_origin_b37
      unfold mX8_origin_b38
      exact po_ret ⟨rfl, rfl, ⟨fun E hE => (by cases hE), fun y hy => by cases hy; exact trivial⟩⟩
    · refine po_gRn (t := 1) hW h0 rfl rfl (by decide) (fun i9 ex9 hi9 => ?_)
      refine po_some ?_
      refine po_gRm hW hi9 rfl rfl (fun i10 ex10 hi10 hm10 => ?_)
      refine po_gI hW hii5 rfl rfl (by decide) (fun x11x ex11 (hx11 : 0 ≤ x11x.toInt ∧ x11x.toInt ≤ 600) => ?_)
      refine po_some ?_
      refine po_ck (wt_isO hW hi10 (by decide)) ?_
      have e12 : (x11x + v2).toInt = x11x.toInt + v2.toInt := i_add rfl rfl (by omega)
      refine po_ro (tX5_get hW hi10) (fun y13 ex13 p13 => ?_)
      dsimp only
      unfold mX8_origin_b38
      exact po_ret ⟨rfl, rfl, ⟨fun E hE => (by cases hE), fun y hy => by cases hy; exact trivial⟩⟩
set_option maxHeartbeats 1000000 in
theorem tX8_key {G : TE} {F0 : AH} {S : Int32} {f : AH} {n : Nat} {v0 : Nat} {v1 : Int32} {v2 : Int32} (hW : WT G F0 S f n) (h0 : G.1 v0 = 8) : PO (mX8_key v0 v1 v2 f n) (fun v f' n' => f' = f ∧ n' = n ∧ ((∀ E : String, v = .inr E → E = eI ∨ E = eN) ∧ (∀ y, v = .inl y → True))) := by
  unfold mX8_key
  refine po_ck (wt_isO hW h0 (by decide)) ?_
  refine po_ro (tX8_pieceOrThrow hW h0) (fun y1 ex1 p1 => ?_)
  dsimp only
  refine po_tS (fun z2 q3 => ?_) (fun E hE => ⟨rfl, rfl, ⟨fun E2 h2 => by cases h2; have h3 := p1.1 E hE; first | exact h3 | exact Or.inl h3 | exact Or.inr h3 | exact h3.1 | exact Or.inl h3.1 | exact Or.inr h3.1, fun y hy => (by cases hy)⟩⟩)
  have p4 := p1.2 z2 q3
  obtain ⟨i5, rfl, hii5⟩ := p4
  refine po_some ?_
  refine po_eq (fun q6 => ?_) (fun q6 => ?_)
  · unfold mX8_key_b25
    refine po_gRn (t := 7) hW h0 rfl rfl (by decide) (fun i7 ex7 hi7 => ?_)
    refine po_some ?_
    refine po_gI hW hi7 rfl rfl (by decide) (fun x8x ex8 (_ : True) => ?_)
    refine po_eq (fun q9 => ?_) (fun q9 => ?_)
    · refine po_eq (fun q10 => ?_) (fun q10 => ?_)
      · refine po_some ?_
        refine po_gI hW hii5 rfl rfl (by decide) (fun x11x ex11 (_ : True) => ?_)
        unfold mX8_key_b52
        exact po_ret ⟨rfl, rfl, ⟨fun E hE => (by cases hE), fun y hy => by cases hy; exact trivial⟩⟩
      · refine po_some ?_
        refine po_gI hW hii5 rfl rfl (by decide) (fun x12x ex12 (_ : True) => ?_)
        unfold mX8_key_b52
        exact po_ret ⟨rfl, rfl, ⟨fun E hE => (by cases hE), fun y hy => by cases hy; exact trivial⟩⟩
    · exact po_ret ⟨rfl, rfl, ⟨fun E hE => (by cases hE), fun y hy => by cases hy; exact trivial⟩⟩
  · refine po_eq (fun q13 => ?_) (fun q13 => ?_)
    · unfold mX8_key_b25
      refine po_gRn (t := 7) hW h0 rfl rfl (by decide) (fun i14 ex14 hi14 => ?_)
      refine po_some ?_
      refine po_gI hW hi14 rfl rfl (by decide) (fun x15x ex15 (_ : True) => ?_)
      refine po_eq (fun q16 => ?_) (fun q16 => ?_)
      · refine po_eq (fun q17 => ?_) (fun q17 => ?_)
        · refine po_some ?_
          refine po_gI hW hii5 rfl rfl (by decide) (fun x18x ex18 (_ : True) => ?_)
          unfold mX8_key_b52
          exact po_ret ⟨rfl, rfl, ⟨fun E hE => (by cases hE), fun y hy => by cases hy; exact trivial⟩⟩
        · refine po_some ?_
          refine po_gI hW hii5 rfl rfl (by decide) (fun x19x ex19 (_ : True) => ?_)
          unfold mX8_key_b52
          exact po_ret ⟨rfl, rfl, ⟨fun E hE => (by cases hE), fun y hy => by cases hy; exact trivial⟩⟩
      · exact po_ret ⟨rfl, rfl, ⟨fun E hE => (by cases hE), fun y hy => by cases hy; exact trivial⟩⟩
    · exact po_ret ⟨rfl, rfl, ⟨fun E hE => by cases hE; first | exact rfl | exact Or.inl rfl | exact Or.inr rfl, fun y hy => (by cases hy)⟩⟩
set_option maxHeartbeats 1000000 in
theorem tX8_like_l11 {G : TE} {F0 : AH} {S : Int32} {n : Nat} : ∀ (d : Nat) (v0 : Nat) (v1 : Int32) (v2 : Int32) (v3 : Int32) (v4 : Int32) (f : AH), WT G F0 S f n → G.1 v0 = 8 → (0 ≤ v4.toInt ∧ v4.toInt ≤ 2000) → 3000 - v4.toInt < (d : Int) → PO (mX8_like_l11 d v0 v1 v2 v3 v4 f n) (fun v f' n' => f' = f ∧ n' = n ∧ ((∀ E : String, v = .inr E → E = eI) ∧ (∀ y, v = .inl y → True))) := by
  intro d
  induction d with
  | zero =>
    intro v0 v1 v2 v3 v4 f hW h0 h1  hm
    exfalso
    omega
  | succ d ih =>
    intro v0 v1 v2 v3 v4 f hW h0 h1  hm
    show PO ((gR f v0 8 5).bind fun x1 => ((x1).bind fun j2 => rCk (isO f j2 1) (((mX1_size j2 f n).bind fun r4 => (if r4.1 ≤ v4 then some (.inl (-1 : Int32), (r4.2.1, r4.2.2)) else ((gR r4.2.1 v0 8 5).bind fun x6 => ((x6).bind fun j7 => rCk (isO r4.2.1 j7 1) (((mX1_areLike j7 v1 v4 r4.2.1 r4.2.2).bind fun r9 => (if r9.1 = (0 : Int32) then mX8_like_b47 (fun v0 v1 v2 v3 v4 f n => mX8_like_l11 d v0 v1 v2 v3 v4 f n) v0 v1 v2 v3 v4 r9.2.1 r9.2.2 else (if v3 = v2 then some (.inl v4, (r9.2.1, r9.2.2)) else mX8_like_b47 (fun v0 v1 v2 v3 v4 f n => mX8_like_l11 d v0 v1 v2 v3 v4 f n) v0 v1 v2 (v3 + (1 : Int32)) v4 r9.2.1 r9.2.2))))))))))) _
    refine po_gRn (t := 1) hW h0 rfl rfl (by decide) (fun i1 ex1 hi1 => ?_)
    refine po_some ?_
    refine po_ck (wt_isO hW hi1 (by decide)) ?_
    refine po_ro (tX1_size hW hi1) (fun y2 ex2 p2 => ?_)
    dsimp only
    refine po_le rfl rfl (fun q3 => ?_) (fun q3 => ?_)
    · exact po_ret ⟨rfl, rfl, ⟨fun E hE => (by cases hE), fun y hy => by cases hy; exact trivial⟩⟩
    · refine po_bind ex1 ?_
      refine po_some ?_
      refine po_ck (wt_isO hW hi1 (by decide)) ?_
      refine po_ro (tX1_areLike hW hi1) (fun y4 ex4 p4 => ?_)
      dsimp only
      refine po_eq (fun q5 => ?_) (fun q5 => ?_)
      · unfold mX8_like_b47
        have e6 : (v4 + (1 : Int32)).toInt = v4.toInt + 1 := i_add rfl kt_1 (by omega)
        exact (ih v0 v1 v2 v3 (v4 + (1 : Int32)) f hW h0 (by omega)  (by omega))
      · refine po_eq (fun q7 => ?_) (fun q7 => ?_)
        · exact po_ret ⟨rfl, rfl, ⟨fun E hE => (by cases hE), fun y hy => by cases hy; exact trivial⟩⟩
        · unfold mX8_like_b47
          have e8 : (v4 + (1 : Int32)).toInt = v4.toInt + 1 := i_add rfl kt_1 (by omega)
          exact (ih v0 v1 v2 (v3 + (1 : Int32)) (v4 + (1 : Int32)) f hW h0 (by omega)  (by omega))
