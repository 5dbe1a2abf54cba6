set_option maxHeartbeats 1000000 in
theorem tX0_escape {G : TE} {F0 : AH} {S : Int32} {f : AH} {n : Nat} {v0 : Nat} {v1 : Option Nat} {v2 : Option Nat} {v3 : Option Nat} (hW : WT G F0 S f n) (h0 : G.1 v0 = 0) (h1 : (∃ i, v1 = some i ∧ G.1 i = 5)) (h2 : (∀ i, v2 = some i → G.1 i = 3)) (h3 : (∃ i, v3 = some i ∧ G.1 i = 7)) : PO (mX0_escape v0 v1 v2 v3 f n) (fun v f' n' => n' = n ∧ WT G F0 S f' n ∧ (v = 0 ∨ v = 1)) := by
  obtain ⟨iv1, rfl, h1⟩ := h1
  obtain ⟨iv3, rfl, h3⟩ := h3
  unfold mX0_escape
  refine po_oN (fun q2 => ?_) (fun i1 q2 => ?_)
  · subst q2
    refine po_ck rfl ?_
    exact po_ret ⟨rfl, hW, (Or.inl rfl)⟩
  · subst q2
    refine po_pI hW h0 rfl rfl (vv_i (by decide) trivial) (fun g3 hW3 ex3 => ?_)
    refine po_gRm hW3 h0 rfl rfl (fun i4 ex4 hi4 hm4 => ?_)
    refine po_some ?_
    refine po_ck (wt_isO hW3 hi4 (by decide)) ?_
    refine po_w (tX5_cutTo hW3 hi4 hm4) (fun y5 g5 hW5 p5 => ?_)
    dsimp only
    refine po_gRm hW5 h0 rfl rfl (fun i6 ex6 hi6 hm6 => ?_)
    refine po_some ?_
    refine po_ck (wt_isO hW5 hi6 (by decide)) ?_
    refine po_w (tX5_cutTo hW5 hi6 hm6) (fun y7 g7 hW7 p7 => ?_)
    dsimp only
    refine po_some ?_
    refine po_gI hW7 h3 rfl rfl (by decide) (fun x8x ex8 (_ : True) => ?_)
    refine po_eq (fun q9 => ?_) (fun q9 => ?_)
    · refine po_gI hW7 (h2 i1 rfl) rfl rfl (by decide) (fun x10x ex10 (hx10 : x10x = 0 ∨ x10x = 1) => ?_)
      refine po_eq (fun q11 => ?_) (fun q11 => ?_)
      · refine po_some ?_
        refine po_gI hW7 h3 rfl rfl (by decide) (fun x12x ex12 (_ : True) => ?_)
        refine po_eq (fun q13 => ?_) (fun q13 => ?_)
        · refine po_some ?_
          refine po_gI hW7 (h2 i1 rfl) rfl rfl (by decide) (fun x14x ex14 (hx14 : x14x = 0 ∨ x14x = 1) => ?_)
          refine po_eq (fun q15 => ?_) (fun q15 => ?_)
          · refine po_eq (fun q16 => ?_) (fun q16 => ?_)
            · refine po_gRm hW7 h0 rfl rfl (fun i17 ex17 hi17 hm17 => ?_)
              refine po_eq (fun q18 => ?_) (fun q18 => ?_)
              · refine po_some ?_
                refine po_bind ex12 ?_
                refine po_w (tX0_addEscaped hW7 ⟨_, rfl, h1⟩ ⟨_, rfl, hi17, hm17⟩) (fun y19 g19 hW19 p19 => ?_)
                dsimp only
                refine po_eq (fun q20 => ?_) (fun q20 => ?_)
                · refine po_gRm hW19 h0 rfl rfl (fun i21 ex21 hi21 hm21 => ?_)
                  refine po_gRm hW19 h0 rfl rfl (fun i22 ex22 hi22 hm22 => ?_)
                  refine po_some ?_
                  refine po_gI hW19 h3 rfl rfl (by decide) (fun x23x ex23 (_ : True) => ?_)
                  refine po_some ?_
                  refine po_gI hW19 (h2 i1 rfl) rfl rfl (by decide) (fun x24x ex24 (hx24 : x24x = 0 ∨ x24x = 1) => ?_)
                  refine po_w (tX0_addEscaped hW19 ⟨_, rfl, hi21⟩ ⟨_, rfl, hi22, hm22⟩) (fun y25 g25 hW25 p25 => ?_)
                  dsimp only
                  refine po_ck rfl ?_
                  exact po_ret ⟨rfl, hW25, (Or.inr rfl)⟩
                · refine po_gRm hW19 h0 rfl rfl (fun i26 ex26 hi26 hm26 => ?_)
                  refine po_some ?_
                  refine po_ck (wt_isO hW19 hi26 (by decide)) ?_
                  refine po_ro (tX5_breaksCell hW19 hi26) (fun y27 ex27 p27 => ?_)
                  dsimp only
                  refine po_eq (fun q28 => ?_) (fun q28 => ?_)
                  · refine po_gRm hW19 h0 rfl rfl (fun i29 ex29 hi29 hm29 => ?_)
                    refine po_bind ex26 ?_
                    refine po_bind ex26 ?_
                    refine po_some ?_
                    refine po_ck (wt_isO hW19 hi26 (by decide)) ?_
                    refine po_ro (tX5_size hW19 hi26) (fun y30 ex30 p30 => ?_)
                    dsimp only
                    refine po_some ?_
                    refine po_ck (wt_isO hW19 hi29 (by decide)) ?_
                    refine po_w (tX5_addPart hW19 hi29 hm29 ⟨_, rfl, hi26⟩) (fun y31 g31 hW31 p31 => ?_)
                    dsimp only
                    refine po_ck (nb_of p31) ?_
                    exact po_ret ⟨rfl, hW31, p31⟩
                  · refine po_pI hW19 h0 rfl rfl (vv_i (by decide) trivial) (fun g32 hW32 ex32 => ?_)
                    refine po_gRm hW32 h0 rfl rfl (fun i33 ex33 hi33 hm33 => ?_)
                    refine po_some ?_
                    refine po_ck (wt_isO hW32 hi33 (by decide)) ?_
                    refine po_w (tX5_add hW32 hi33 hm33) (fun y34 g34 hW34 p34 => ?_)
                    dsimp only
                    refine po_gRm hW34 h0 rfl rfl (fun i35 ex35 hi35 hm35 => ?_)
                    refine po_gRm hW34 h0 rfl rfl (fun i36 ex36 hi36 hm36 => ?_)
                    refine po_w (tX0_addEscaped hW34 ⟨_, rfl, hi35⟩ ⟨_, rfl, hi36, hm36⟩) (fun y37 g37 hW37 p37 => ?_)
                    dsimp only
                    refine po_gRm hW37 h0 rfl rfl (fun i38 ex38 hi38 hm38 => ?_)
                    refine po_some ?_
                    refine po_ck (wt_isO hW37 hi38 (by decide)) ?_
                    refine po_w (tX5_add hW37 hi38 hm38) (fun y39 g39 hW39 p39 => ?_)
                    dsimp only
                    refine po_some ?_
                    refine po_gI hW39 h3 rfl rfl (by decide) (fun x40x ex40 (_ : True) => ?_)
                    refine po_eq (fun q41 => ?_) (fun q41 => ?_)
                    · refine po_ck (nb_of (Or.inr rfl)) ?_
                      exact po_ret ⟨rfl, hW39, (Or.inr rfl)⟩
                    · refine po_ck (nb_of (Or.inl rfl)) ?_
                      exact po_ret ⟨rfl, hW39, (Or.inl rfl)⟩
              · refine po_w (tX0_addEscaped hW7 ⟨_, rfl, h1⟩ ⟨_, rfl, hi17, hm17⟩) (fun y42 g42 hW42 p42 => ?_)
                dsimp only
                refine po_eq (fun q43 => ?_) (fun q43 => ?_)
                · refine po_gRm hW42 h0 rfl rfl (fun i44 ex44 hi44 hm44 => ?_)
                  refine po_gRm hW42 h0 rfl rfl (fun i45 ex45 hi45 hm45 => ?_)
                  refine po_some ?_
                  refine po_gI hW42 h3 rfl rfl (by decide) (fun x46x ex46 (_ : True) => ?_)
                  refine po_some ?_
                  refine po_gI hW42 (h2 i1 rfl) rfl rfl (by decide) (fun x47x ex47 (hx47 : x47x = 0 ∨ x47x = 1) => ?_)
                  refine po_w (tX0_addEscaped hW42 ⟨_, rfl, hi44⟩ ⟨_, rfl, hi45, hm45⟩) (fun y48 g48 hW48 p48 => ?_)
                  dsimp only
                  refine po_ck rfl ?_
                  exact po_ret ⟨rfl, hW48, (Or.inr rfl)⟩
                · refine po_gRm hW42 h0 rfl rfl (fun i49 ex49 hi49 hm49 => ?_)
                  refine po_some ?_
                  refine po_ck (wt_isO hW42 hi49 (by decide)) ?_
                  refine po_ro (tX5_breaksCell hW42 hi49) (fun y50 ex50 p50 => ?_)
                  dsimp only
                  refine po_eq (fun q51 => ?_) (fun q51 => ?_)
                  · refine po_gRm hW42 h0 rfl rfl (fun i52 ex52 hi52 hm52 => ?_)
                    refine po_bind ex49 ?_
                    refine po_bind ex49 ?_
                    refine po_some ?_
                    refine po_ck (wt_isO hW42 hi49 (by decide)) ?_
                    refine po_ro (tX5_size hW42 hi49) (fun y53 ex53 p53 => ?_)
                    dsimp only
                    refine po_some ?_
                    refine po_ck (wt_isO hW42 hi52 (by decide)) ?_
                    refine po_w (tX5_addPart hW42 hi52 hm52 ⟨_, rfl, hi49⟩) (fun y54 g54 hW54 p54 => ?_)
                    dsimp only
                    refine po_ck (nb_of p54) ?_
                    exact po_ret ⟨rfl, hW54, p54⟩
                  · refine po_pI hW42 h0 rfl rfl (vv_i (by decide) trivial) (fun g55 hW55 ex55 => ?_)
                    refine po_gRm hW55 h0 rfl rfl (fun i56 ex56 hi56 hm56 => ?_)
                    refine po_some ?_
                    refine po_ck (wt_isO hW55 hi56 (by decide)) ?_
                    refine po_w (tX5_add hW55 hi56 hm56) (fun y57 g57 hW57 p57 => ?_)
                    dsimp only
                    refine po_gRm hW57 h0 rfl rfl (fun i58 ex58 hi58 hm58 => ?_)
                    refine po_gRm hW57 h0 rfl rfl (fun i59 ex59 hi59 hm59 => ?_)
                    refine po_w (tX0_addEscaped hW57 ⟨_, rfl, hi58⟩ ⟨_, rfl, hi59, hm59⟩) (fun y60 g60 hW60 p60 => ?_)
                    dsimp only
                    refine po_gRm hW60 h0 rfl rfl (fun i61 ex61 hi61 hm61 => ?_)
                    refine po_some ?_
                    refine po_ck (wt_isO hW60 hi61 (by decide)) ?_
                    refine po_w (tX5_add hW60 hi61 hm61) (fun y62 g62 hW62 p62 => ?_)
                    dsimp only
                    refine po_some ?_
                    refine po_gI hW62 h3 rfl rfl (by decide) (fun x63x ex63 (_ : True) => ?_)
                    refine po_eq (fun q64 => ?_) (fun q64 => ?_)
                    · refine po_ck (nb_of (Or.inr rfl)) ?_
                      exact po_ret ⟨rfl, hW62, (Or.inr rfl)⟩
                    · refine po_ck (nb_of (Or.inl rfl)) ?_
                      exact po_ret ⟨rfl, hW62, (Or.inl rfl)⟩
            · refine po_some ?_
              refine po_ck (wt_isO hW7 h1 (by decide)) ?_
              refine po_ro (tX5_breaksCell hW7 h1) (fun y65 ex65 p65 => ?_)
              dsimp only
              refine po_eq (fun q66 => ?_) (fun q66 => ?_)
              · refine po_gRm hW7 h0 rfl rfl (fun i67 ex67 hi67 hm67 => ?_)
                refine po_eq (fun q68 => ?_) (fun q68 => ?_)
                · refine po_some ?_
                  refine po_bind ex12 ?_
                  refine po_w (tX0_addEscaped hW7 ⟨_, rfl, h1⟩ ⟨_, rfl, hi67, hm67⟩) (fun y69 g69 hW69 p69 => ?_)
                  dsimp only
                  refine po_eq (fun q70 => ?_) (fun q70 => ?_)
                  · refine po_gRm hW69 h0 rfl rfl (fun i71 ex71 hi71 hm71 => ?_)
                    refine po_gRm hW69 h0 rfl rfl (fun i72 ex72 hi72 hm72 => ?_)
                    refine po_some ?_
                    refine po_gI hW69 h3 rfl rfl (by decide) (fun x73x ex73 (_ : True) => ?_)
                    refine po_some ?_
                    refine po_gI hW69 (h2 i1 rfl) rfl rfl (by decide) (fun x74x ex74 (hx74 : x74x = 0 ∨ x74x = 1) => ?_)
                    refine po_w (tX0_addEscaped hW69 ⟨_, rfl, hi71⟩ ⟨_, rfl, hi72, hm72⟩) (fun y75 g75 hW75 p75 => ?_)
                    dsimp only
                    refine po_ck rfl ?_
                    exact po_ret ⟨rfl, hW75, (Or.inr rfl)⟩
                  · refine po_gRm hW69 h0 rfl rfl (fun i76 ex76 hi76 hm76 => ?_)
                    refine po_some ?_
                    refine po_ck (wt_isO hW69 hi76 (by decide)) ?_
                    refine po_ro (tX5_breaksCell hW69 hi76) (fun y77 ex77 p77 => ?_)
                    dsimp only
                    refine po_eq (fun q78 => ?_) (fun q78 => ?_)
                    · refine po_gRm hW69 h0 rfl rfl (fun i79 ex79 hi79 hm79 => ?_)
                      refine po_bind ex76 ?_
                      refine po_bind ex76 ?_
                      refine po_some ?_
                      refine po_ck (wt_isO hW69 hi76 (by decide)) ?_
                      refine po_ro (tX5_size hW69 hi76) (fun y80 ex80 p80 => ?_)
                      dsimp only
                      refine po_some ?_
                      refine po_ck (wt_isO hW69 hi79 (by decide)) ?_
                      refine po_w (tX5_addPart hW69 hi79 hm79 ⟨_, rfl, hi76⟩) (fun y81 g81 hW81 p81 => ?_)
                      dsimp only
                      refine po_ck (nb_of p81) ?_
                      exact po_ret ⟨rfl, hW81, p81⟩
                    · refine po_pI hW69 h0 rfl rfl (vv_i (by decide) trivial) (fun g82 hW82 ex82 => ?_)
                      refine po_gRm hW82 h0 rfl rfl (fun i83 ex83 hi83 hm83 => ?_)
                      refine po_some ?_
                      refine po_ck (wt_isO hW82 hi83 (by decide)) ?_
                      refine po_w (tX5_add hW82 hi83 hm83) (fun y84 g84 hW84 p84 => ?_)
                      dsimp only
                      refine po_gRm hW84 h0 rfl rfl (fun i85 ex85 hi85 hm85 => ?_)
                      refine po_gRm hW84 h0 rfl rfl (fun i86 ex86 hi86 hm86 => ?_)
                      refine po_w (tX0_addEscaped hW84 ⟨_, rfl, hi85⟩ ⟨_, rfl, hi86, hm86⟩) (fun y87 g87 hW87 p87 => ?_)
                      dsimp only
                      refine po_gRm hW87 h0 rfl rfl (fun i88 ex88 hi88 hm88 => ?_)
                      refine po_some ?_
                      refine po_ck (wt_isO hW87 hi88 (by decide)) ?_
                      refine po_w (tX5_add hW87 hi88 hm88) (fun y89 g89 hW89 p89 => ?_)
                      dsimp only
                      refine po_some ?_
                      refine po_gI hW89 h3 rfl rfl (by decide) (fun x90x ex90 (_ : True) => ?_)
                      refine po_eq (fun q91 => ?_) (fun q91 => ?_)
                      · refine po_ck (nb_of (Or.inr rfl)) ?_
                        exact po_ret ⟨rfl, hW89, (Or.inr rfl)⟩
                      · refine po_ck (nb_of (Or.inl rfl)) ?_
                        exact po_ret ⟨rfl, hW89, (Or.inl rfl)⟩
                · refine po_w (tX0_addEscaped hW7 ⟨_, rfl, h1⟩ ⟨_, rfl, hi67, hm67⟩) (fun y92 g92 hW92 p92 => ?_)
                  dsimp only
                  refine po_eq (fun q93 => ?_) (fun q93 => ?_)
                  · refine po_gRm hW92 h0 rfl rfl (fun i94 ex94 hi94 hm94 => ?_)
                    refine po_gRm hW92 h0 rfl rfl (fun i95 ex95 hi95 hm95 => ?_)
                    refine po_some ?_
                    refine po_gI hW92 h3 rfl rfl (by decide) (fun x96x ex96 (_ : True) => ?_)
                    refine po_some ?_
                    refine po_gI hW92 (h2 i1 rfl) rfl rfl (by decide) (fun x97x ex97 (hx97 : x97x = 0 ∨ x97x = 1) => ?_)
                    refine po_w (tX0_addEscaped hW92 ⟨_, rfl, hi94⟩ ⟨_, rfl, hi95, hm95⟩) (fun y98 g98 hW98 p98 => ?_)
                    dsimp only
                    refine po_ck rfl ?_
                    exact po_ret ⟨rfl, hW98, (Or.inr rfl)⟩
                  · refine po_gRm hW92 h0 rfl rfl (fun i99 ex99 hi99 hm99 => ?_)
                    refine po_some ?_
                    refine po_ck (wt_isO hW92 hi99 (by decide)) ?_
                    refine po_ro (tX5_breaksCell hW92 hi99) (fun y100 ex100 p100 => ?_)
                    dsimp only
                    refine po_eq (fun q101 => ?_) (fun q101 => ?_)
                    · refine po_gRm hW92 h0 rfl rfl (fun i102 ex102 hi102 hm102 => ?_)
                      refine po_bind ex99 ?_
                      refine po_bind ex99 ?_
                      refine po_some ?_
                      refine po_ck (wt_isO hW92 hi99 (by decide)) ?_
                      refine po_ro (tX5_size hW92 hi99) (fun y103 ex103 p103 => ?_)
                      dsimp only
                      refine po_some ?_
                      refine po_ck (wt_isO hW92 hi102 (by decide)) ?_
                      refine po_w (tX5_addPart hW92 hi102 hm102 ⟨_, rfl, hi99⟩) (fun y104 g104 hW104 p104 => ?_)
                      dsimp only
                      refine po_ck (nb_of p104) ?_
                      exact po_ret ⟨rfl, hW104, p104⟩
                    · refine po_pI hW92 h0 rfl rfl (vv_i (by decide) trivial) (fun g105 hW105 ex105 => ?_)
                      refine po_gRm hW105 h0 rfl rfl (fun i106 ex106 hi106 hm106 => ?_)
                      refine po_some ?_
                      refine po_ck (wt_isO hW105 hi106 (by decide)) ?_
                      refine po_w (tX5_add hW105 hi106 hm106) (fun y107 g107 hW107 p107 => ?_)
                      dsimp only
                      refine po_gRm hW107 h0 rfl rfl (fun i108 ex108 hi108 hm108 => ?_)
                      refine po_gRm hW107 h0 rfl rfl (fun i109 ex109 hi109 hm109 => ?_)
                      refine po_w (tX0_addEscaped hW107 ⟨_, rfl, hi108⟩ ⟨_, rfl, hi109, hm109⟩) (fun y110 g110 hW110 p110 => ?_)
                      dsimp only
                      refine po_gRm hW110 h0 rfl rfl (fun i111 ex111 hi111 hm111 => ?_)
                      refine po_some ?_
                      refine po_ck (wt_isO hW110 hi111 (by decide)) ?_
                      refine po_w (tX5_add hW110 hi111 hm111) (fun y112 g112 hW112 p112 => ?_)
                      dsimp only
                      refine po_some ?_
                      refine po_gI hW112 h3 rfl rfl (by decide) (fun x113x ex113 (_ : True) => ?_)
                      refine po_eq (fun q114 => ?_) (fun q114 => ?_)
                      · refine po_ck (nb_of (Or.inr rfl)) ?_
                        exact po_ret ⟨rfl, hW112, (Or.inr rfl)⟩
                      · refine po_ck (nb_of (Or.inl rfl)) ?_
                        exact po_ret ⟨rfl, hW112, (Or.inl rfl)⟩
              · refine po_gRm hW7 h0 rfl rfl (fun i115 ex115 hi115 hm115 => ?_)
                refine po_some ?_
                refine po_ck (wt_isO hW7 hi115 (by decide)) ?_
                refine po_w (tX5_add hW7 hi115 hm115) (fun y116 g116 hW116 p116 => ?_)
                dsimp only
                refine po_gRm hW116 h0 rfl rfl (fun i117 ex117 hi117 hm117 => ?_)
                refine po_w (tX0_addEscaped hW116 ⟨_, rfl, h1⟩ ⟨_, rfl, hi117, hm117⟩) (fun y118 g118 hW118 p118 => ?_)
                dsimp only
                refine po_gRm hW118 h0 rfl rfl (fun i119 ex119 hi119 hm119 => ?_)
                refine po_some ?_
                refine po_ck (wt_isO hW118 hi119 (by decide)) ?_
                refine po_w (tX5_add hW118 hi119 hm119) (fun y120 g120 hW120 p120 => ?_)
                dsimp only
                refine po_some ?_
                refine po_gI hW120 h3 rfl rfl (by decide) (fun x121x ex121 (_ : True) => ?_)
                refine po_eq (fun q122 => ?_) (fun q122 => ?_)
                · refine po_pI hW120 h0 rfl rfl (vv_i (by decide) trivial) (fun g123 hW123 ex123 => ?_)
                  refine po_eq (fun q124 => ?_) (fun q124 => ?_)
                  · refine po_gRm hW123 h0 rfl rfl (fun i125 ex125 hi125 hm125 => ?_)
                    refine po_gRm hW123 h0 rfl rfl (fun i126 ex126 hi126 hm126 => ?_)
                    refine po_some ?_
                    refine po_gI hW123 h3 rfl rfl (by decide) (fun x127x ex127 (_ : True) => ?_)
                    refine po_some ?_
                    refine po_gI hW123 (h2 i1 rfl) rfl rfl (by decide) (fun x128x ex128 (hx128 : x128x = 0 ∨ x128x = 1) => ?_)
                    refine po_w (tX0_addEscaped hW123 ⟨_, rfl, hi125⟩ ⟨_, rfl, hi126, hm126⟩) (fun y129 g129 hW129 p129 => ?_)
                    dsimp only
                    refine po_ck rfl ?_
                    exact po_ret ⟨rfl, hW129, (Or.inr rfl)⟩
                  · refine po_gRm hW123 h0 rfl rfl (fun i130 ex130 hi130 hm130 => ?_)
                    refine po_some ?_
                    refine po_ck (wt_isO hW123 hi130 (by decide)) ?_
                    refine po_ro (tX5_breaksCell hW123 hi130) (fun y131 ex131 p131 => ?_)
                    dsimp only
                    refine po_eq (fun q132 => ?_) (fun q132 => ?_)
                    · refine po_gRm hW123 h0 rfl rfl (fun i133 ex133 hi133 hm133 => ?_)
                      refine po_bind ex130 ?_
                      refine po_bind ex130 ?_
                      refine po_some ?_
                      refine po_ck (wt_isO hW123 hi130 (by decide)) ?_
                      refine po_ro (tX5_size hW123 hi130) (fun y134 ex134 p134 => ?_)
                      dsimp only
                      refine po_some ?_
                      refine po_ck (wt_isO hW123 hi133 (by decide)) ?_
                      refine po_w (tX5_addPart hW123 hi133 hm133 ⟨_, rfl, hi130⟩) (fun y135 g135 hW135 p135 => ?_)
                      dsimp only
                      refine po_ck (nb_of p135) ?_
                      exact po_ret ⟨rfl, hW135, p135⟩
                    · refine po_pI hW123 h0 rfl rfl (vv_i (by decide) trivial) (fun g136 hW136 ex136 => ?_)
                      refine po_gRm hW136 h0 rfl rfl (fun i137 ex137 hi137 hm137 => ?_)
                      refine po_some ?_
                      refine po_ck (wt_isO hW136 hi137 (by decide)) ?_
                      refine po_w (tX5_add hW136 hi137 hm137) (fun y138 g138 hW138 p138 => ?_)
                      dsimp only
                      refine po_gRm hW138 h0 rfl rfl (fun i139 ex139 hi139 hm139 => ?_)
                      refine po_gRm hW138 h0 rfl rfl (fun i140 ex140 hi140 hm140 => ?_)
                      refine po_w (tX0_addEscaped hW138 ⟨_, rfl, hi139⟩ ⟨_, rfl, hi140, hm140⟩) (fun y141 g141 hW141 p141 => ?_)
                      dsimp only
                      refine po_gRm hW141 h0 rfl rfl (fun i142 ex142 hi142 hm142 => ?_)
                      refine po_some ?_
                      refine po_ck (wt_isO hW141 hi142 (by decide)) ?_
                      refine po_w (tX5_add hW141 hi142 hm142) (fun y143 g143 hW143 p143 => ?_)
                      dsimp only
                      refine po_some ?_
                      refine po_gI hW143 h3 rfl rfl (by decide) (fun x144x ex144 (_ : True) => ?_)
                      refine po_eq (fun q145 => ?_) (fun q145 => ?_)
                      · refine po_ck (nb_of (Or.inr rfl)) ?_
                        exact po_ret ⟨rfl, hW143, (Or.inr rfl)⟩
                      · refine po_ck (nb_of (Or.inl rfl)) ?_
                        exact po_ret ⟨rfl, hW143, (Or.inl rfl)⟩
                · refine po_bind ex121 ?_
                  refine po_eq (fun q146 => ?_) (fun q146 => ?_)
                  · refine po_pI hW120 h0 rfl rfl (vv_i (by decide) trivial) (fun g147 hW147 ex147 => ?_)
                    refine po_eq (fun q148 => ?_) (fun q148 => ?_)
                    · refine po_gRm hW147 h0 rfl rfl (fun i149 ex149 hi149 hm149 => ?_)
                      refine po_gRm hW147 h0 rfl rfl (fun i150 ex150 hi150 hm150 => ?_)
                      refine po_some ?_
                      refine po_gI hW147 h3 rfl rfl (by decide) (fun x151x ex151 (_ : True) => ?_)
                      refine po_some ?_
                      refine po_gI hW147 (h2 i1 rfl) rfl rfl (by decide) (fun x152x ex152 (hx152 : x152x = 0 ∨ x152x = 1) => ?_)
                      refine po_w (tX0_addEscaped hW147 ⟨_, rfl, hi149⟩ ⟨_, rfl, hi150, hm150⟩) (fun y153 g153 hW153 p153 => ?_)
                      dsimp only
                      refine po_ck rfl ?_
                      exact po_ret ⟨rfl, hW153, (Or.inr rfl)⟩
                    · refine po_gRm hW147 h0 rfl rfl (fun i154 ex154 hi154 hm154 => ?_)
                      refine po_some ?_
                      refine po_ck (wt_isO hW147 hi154 (by decide)) ?_
                      refine po_ro (tX5_breaksCell hW147 hi154) (fun y155 ex155 p155 => ?_)
                      dsimp only
                      refine po_eq (fun q156 => ?_) (fun q156 => ?_)
                      · refine po_gRm hW147 h0 rfl rfl (fun i157 ex157 hi157 hm157 => ?_)
                        refine po_bind ex154 ?_
                        refine po_bind ex154 ?_
                        refine po_some ?_
                        refine po_ck (wt_isO hW147 hi154 (by decide)) ?_
                        refine po_ro (tX5_size hW147 hi154) (fun y158 ex158 p158 => ?_)
                        dsimp only
                        refine po_some ?_
                        refine po_ck (wt_isO hW147 hi157 (by decide)) ?_
                        refine po_w (tX5_addPart hW147 hi157 hm157 ⟨_, rfl, hi154⟩) (fun y159 g159 hW159 p159 => ?_)
                        dsimp only
                        refine po_ck (nb_of p159) ?_
                        exact po_ret ⟨rfl, hW159, p159⟩
                      · refine po_pI hW147 h0 rfl rfl (vv_i (by decide) trivial) (fun g160 hW160 ex160 => ?_)
                        refine po_gRm hW160 h0 rfl rfl (fun i161 ex161 hi161 hm161 => ?_)
                        refine po_some ?_
                        refine po_ck (wt_isO hW160 hi161 (by decide)) ?_
                        refine po_w (tX5_add hW160 hi161 hm161) (fun y162 g162 hW162 p162 => ?_)
                        dsimp only
                        refine po_gRm hW162 h0 rfl rfl (fun i163 ex163 hi163 hm163 => ?_)
                        refine po_gRm hW162 h0 rfl rfl (fun i164 ex164 hi164 hm164 => ?_)
                        refine po_w (tX0_addEscaped hW162 ⟨_, rfl, hi163⟩ ⟨_, rfl, hi164, hm164⟩) (fun y165 g165 hW165 p165 => ?_)
                        dsimp only
                        refine po_gRm hW165 h0 rfl rfl (fun i166 ex166 hi166 hm166 => ?_)
                        refine po_some ?_
                        refine po_ck (wt_isO hW165 hi166 (by decide)) ?_
                        refine po_w (tX5_add hW165 hi166 hm166) (fun y167 g167 hW167 p167 => ?_)
                        dsimp only
                        refine po_some ?_
                        refine po_gI hW167 h3 rfl rfl (by decide) (fun x168x ex168 (_ : True) => ?_)
                        refine po_eq (fun q169 => ?_) (fun q169 => ?_)
                        · refine po_ck (nb_of (Or.inr rfl)) ?_
                          exact po_ret ⟨rfl, hW167, (Or.inr rfl)⟩
                        · refine po_ck (nb_of (Or.inl rfl)) ?_
                          exact po_ret ⟨rfl, hW167, (Or.inl rfl)⟩
                  · refine po_pI hW120 h0 rfl rfl (vv_i (by decide) trivial) (fun g170 hW170 ex170 => ?_)
                    refine po_eq (fun q171 => ?_) (fun q171 => ?_)
                    · refine po_gRm hW170 h0 rfl rfl (fun i172 ex172 hi172 hm172 => ?_)
                      refine po_gRm hW170 h0 rfl rfl (fun i173 ex173 hi173 hm173 => ?_)
                      refine po_some ?_
                      refine po_gI hW170 h3 rfl rfl (by decide) (fun x174x ex174 (_ : True) => ?_)
                      refine po_some ?_
                      refine po_gI hW170 (h2 i1 rfl) rfl rfl (by decide) (fun x175x ex175 (hx175 : x175x = 0 ∨ x175x = 1) => ?_)
                      refine po_w (tX0_addEscaped hW170 ⟨_, rfl, hi172⟩ ⟨_, rfl, hi173, hm173⟩) (fun y176 g176 hW176 p176 => ?_)
                      dsimp only
                      refine po_ck rfl ?_
                      exact po_ret ⟨rfl, hW176, (Or.inr rfl)⟩
                    · refine po_gRm hW170 h0 rfl rfl (fun i177 ex177 hi177 hm177 => ?_)
                      refine po_some ?_
                      refine po_ck (wt_isO hW170 hi177 (by decide)) ?_
                      refine po_ro (tX5_breaksCell hW170 hi177) (fun y178 ex178 p178 => ?_)
                      dsimp only
                      refine po_eq (fun q179 => ?_) (fun q179 => ?_)
                      · refine po_gRm hW170 h0 rfl rfl (fun i180 ex180 hi180 hm180 => ?_)
                        refine po_bind ex177 ?_
                        refine po_bind ex177 ?_
                        refine po_some ?_
                        refine po_ck (wt_isO hW170 hi177 (by decide)) ?_
                        refine po_ro (tX5_size hW170 hi177) (fun y181 ex181 p181 => ?_)
                        dsimp only
                        refine po_some ?_
                        refine po_ck (wt_isO hW170 hi180 (by decide)) ?_
                        refine po_w (tX5_addPart hW170 hi180 hm180 ⟨_, rfl, hi177⟩) (fun y182 g182 hW182 p182 => ?_)
                        dsimp only
                        refine po_ck (nb_of p182) ?_
                        exact po_ret ⟨rfl, hW182, p182⟩
                      · refine po_pI hW170 h0 rfl rfl (vv_i (by decide) trivial) (fun g183 hW183 ex183 => ?_)
                        refine po_gRm hW183 h0 rfl rfl (fun i184 ex184 hi184 hm184 => ?_)
                        refine po_some ?_
                        refine po_ck (wt_isO hW183 hi184 (by decide)) ?_
                        refine po_w (tX5_add hW183 hi184 hm184) (fun y185 g185 hW185 p185 => ?_)
                        dsimp only
                        refine po_gRm hW185 h0 rfl rfl (fun i186 ex186 hi186 hm186 => ?_)
                        refine po_gRm hW185 h0 rfl rfl (fun i187 ex187 hi187 hm187 => ?_)
                        refine po_w (tX0_addEscaped hW185 ⟨_, rfl, hi186⟩ ⟨_, rfl, hi187, hm187⟩) (fun y188 g188 hW188 p188 => ?_)
                        dsimp only
                        refine po_gRm hW188 h0 rfl rfl (fun i189 ex189 hi189 hm189 => ?_)
                        refine po_some ?_
                        refine po_ck (wt_isO hW188 hi189 (by decide)) ?_
                        refine po_w (tX5_add hW188 hi189 hm189) (fun y190 g190 hW190 p190 => ?_)
                        dsimp only
                        refine po_some ?_
                        refine po_gI hW190 h3 rfl rfl (by decide) (fun x191x ex191 (_ : True) => ?_)
                        refine po_eq (fun q192 => ?_) (fun q192 => ?_)
                        · refine po_ck (nb_of (Or.inr rfl)) ?_
                          exact po_ret ⟨rfl, hW190, (Or.inr rfl)⟩
                        · refine po_ck (nb_of (Or.inl rfl)) ?_
                          exact po_ret ⟨rfl, hW190, (Or.inl rfl)⟩
          · refine po_eq (fun q193 => ?_) (fun q193 => ?_)
            · refine po_gRm hW7 h0 rfl rfl (fun i194 ex194 hi194 hm194 => ?_)
              refine po_eq (fun q195 => ?_) (fun q195 => ?_)
              · refine po_some ?_
                refine po_bind ex12 ?_
                refine po_w (tX0_addEscaped hW7 ⟨_, rfl, h1⟩ ⟨_, rfl, hi194, hm194⟩) (fun y196 g196 hW196 p196 => ?_)
                dsimp only
                refine po_eq (fun q197 => ?_) (fun q197 => ?_)
                · refine po_gRm hW196 h0 rfl rfl (fun i198 ex198 hi198 hm198 => ?_)
                  refine po_gRm hW196 h0 rfl rfl (fun i199 ex199 hi199 hm199 => ?_)
                  refine po_some ?_
                  refine po_gI hW196 h3 rfl rfl (by decide) (fun x200x ex200 (_ : True) => ?_)
                  refine po_some ?_
                  refine po_gI hW196 (h2 i1 rfl) rfl rfl (by decide) (fun x201x ex201 (hx201 : x201x = 0 ∨ x201x = 1) => ?_)
                  refine po_w (tX0_addEscaped hW196 ⟨_, rfl, hi198⟩ ⟨_, rfl, hi199, hm199⟩) (fun y202 g202 hW202 p202 => ?_)
                  dsimp only
                  refine po_ck rfl ?_
                  exact po_ret ⟨rfl, hW202, (Or.inr rfl)⟩
                · refine po_gRm hW196 h0 rfl rfl (fun i203 ex203 hi203 hm203 => ?_)
                  refine po_some ?_
                  refine po_ck (wt_isO hW196 hi203 (by decide)) ?_
                  refine po_ro (tX5_breaksCell hW196 hi203) (fun y204 ex204 p204 => ?_)
                  dsimp only
                  refine po_eq (fun q205 => ?_) (fun q205 => ?_)
                  · refine po_gRm hW196 h0 rfl rfl (fun i206 ex206 hi206 hm206 => ?_)
                    refine po_bind ex203 ?_
                    refine po_bind ex203 ?_
                    refine po_some ?_
                    refine po_ck (wt_isO hW196 hi203 (by decide)) ?_
                    refine po_ro (tX5_size hW196 hi203) (fun y207 ex207 p207 => ?_)
                    dsimp only
                    refine po_some ?_
                    refine po_ck (wt_isO hW196 hi206 (by decide)) ?_
                    refine po_w (tX5_addPart hW196 hi206 hm206 ⟨_, rfl, hi203⟩) (fun y208 g208 hW208 p208 => ?_)
                    dsimp only
                    refine po_ck (nb_of p208) ?_
                    exact po_ret ⟨rfl, hW208, p208⟩
                  · refine po_pI hW196 h0 rfl rfl (vv_i (by decide) trivial) (fun g209 hW209 ex209 => ?_)
                    refine po_gRm hW209 h0 rfl rfl (fun i210 ex210 hi210 hm210 => ?_)
                    refine po_some ?_
                    refine po_ck (wt_isO hW209 hi210 (by decide)) ?_
                    refine po_w (tX5_add hW209 hi210 hm210) (fun y211 g211 hW211 p211 => ?_)
                    dsimp only
                    refine po_gRm hW211 h0 rfl rfl (fun i212 ex212 hi212 hm212 => ?_)
                    refine po_gRm hW211 h0 rfl rfl (fun i213 ex213 hi213 hm213 => ?_)
                    refine po_w (tX0_addEscaped hW211 ⟨_, rfl, hi212⟩ ⟨_, rfl, hi213, hm213⟩) (fun y214 g214 hW214 p214 => ?_)
                    dsimp only
                    refine po_gRm hW214 h0 rfl rfl (fun i215 ex215 hi215 hm215 => ?_)
                    refine po_some ?_
                    refine po_ck (wt_isO hW214 hi215 (by decide)) ?_
                    refine po_w (tX5_add hW214 hi215 hm215) (fun y216 g216 hW216 p216 => ?_)
                    dsimp only
                    refine po_some ?_
                    refine po_gI hW216 h3 rfl rfl (by decide) (fun x217x ex217 (_ : True) => ?_)
                    refine po_eq (fun q218 => ?_) (fun q218 => ?_)
                    · refine po_ck (nb_of (Or.inr rfl)) ?_
                      exact po_ret ⟨rfl, hW216, (Or.inr rfl)⟩
                    · refine po_ck (nb_of (Or.inl rfl)) ?_
                      exact po_ret ⟨rfl, hW216, (Or.inl rfl)⟩
              · refine po_w (tX0_addEscaped hW7 ⟨_, rfl, h1⟩ ⟨_, rfl, hi194, hm194⟩) (fun y219 g219 hW219 p219 => ?_)
                dsimp only
                refine po_eq (fun q220 => ?_) (fun q220 => ?_)
                · refine po_gRm hW219 h0 rfl rfl (fun i221 ex221 hi221 hm221 => ?_)
                  refine po_gRm hW219 h0 rfl rfl (fun i222 ex222 hi222 hm222 => ?_)
                  refine po_some ?_
                  refine po_gI hW219 h3 rfl rfl (by decide) (fun x223x ex223 (_ : True) => ?_)
                  refine po_some ?_
                  refine po_gI hW219 (h2 i1 rfl) rfl rfl (by decide) (fun x224x ex224 (hx224 : x224x = 0 ∨ x224x = 1) => ?_)
                  refine po_w (tX0_addEscaped hW219 ⟨_, rfl, hi221⟩ ⟨_, rfl, hi222, hm222⟩) (fun y225 g225 hW225 p225 => ?_)
                  dsimp only
                  refine po_ck rfl ?_
                  exact po_ret ⟨rfl, hW225, (Or.inr rfl)⟩
                · refine po_gRm hW219 h0 rfl rfl (fun i226 ex226 hi226 hm226 => ?_)
                  refine po_some ?_
                  refine po_ck (wt_isO hW219 hi226 (by decide)) ?_
                  refine po_ro (tX5_breaksCell hW219 hi226) (fun y227 ex227 p227 => ?_)
                  dsimp only
                  refine po_eq (fun q228 => ?_) (fun q228 => ?_)
                  · refine po_gRm hW219 h0 rfl rfl (fun i229 ex229 hi229 hm229 => ?_)
                    refine po_bind ex226 ?_
                    refine po_bind ex226 ?_
                    refine po_some ?_
                    refine po_ck (wt_isO hW219 hi226 (by decide)) ?_
                    refine po_ro (tX5_size hW219 hi226) (fun y230 ex230 p230 => ?_)
                    dsimp only
                    refine po_some ?_
                    refine po_ck (wt_isO hW219 hi229 (by decide)) ?_
                    refine po_w (tX5_addPart hW219 hi229 hm229 ⟨_, rfl, hi226⟩) (fun y231 g231 hW231 p231 => ?_)
                    dsimp only
                    refine po_ck (nb_of p231) ?_
                    exact po_ret ⟨rfl, hW231, p231⟩
                  · refine po_pI hW219 h0 rfl rfl (vv_i (by decide) trivial) (fun g232 hW232 ex232 => ?_)
                    refine po_gRm hW232 h0 rfl rfl (fun i233 ex233 hi233 hm233 => ?_)
                    refine po_some ?_
                    refine po_ck (wt_isO hW232 hi233 (by decide)) ?_
                    refine po_w (tX5_add hW232 hi233 hm233) (fun y234 g234 hW234 p234 => ?_)
                    dsimp only
                    refine po_gRm hW234 h0 rfl rfl (fun i235 ex235 hi235 hm235 => ?_)
                    refine po_gRm hW234 h0 rfl rfl (fun i236 ex236 hi236 hm236 => ?_)
                    refine po_w (tX0_addEscaped hW234 ⟨_, rfl, hi235⟩ ⟨_, rfl, hi236, hm236⟩) (fun y237 g237 hW237 p237 => ?_)
                    dsimp only
                    refine po_gRm hW237 h0 rfl rfl (fun i238 ex238 hi238 hm238 => ?_)
                    refine po_some ?_
                    refine po_ck (wt_isO hW237 hi238 (by decide)) ?_
                    refine po_w (tX5_add hW237 hi238 hm238) (fun y239 g239 hW239 p239 => ?_)
                    dsimp only
                    refine po_some ?_
                    refine po_gI hW239 h3 rfl rfl (by decide) (fun x240x ex240 (_ : True) => ?_)
                    refine po_eq (fun q241 => ?_) (fun q241 => ?_)
                    · refine po_ck (nb_of (Or.inr rfl)) ?_
                      exact po_ret ⟨rfl, hW239, (Or.inr rfl)⟩
                    · refine po_ck (nb_of (Or.inl rfl)) ?_
                      exact po_ret ⟨rfl, hW239, (Or.inl rfl)⟩
            · refine po_some ?_
              refine po_ck (wt_isO hW7 h1 (by decide)) ?_
              refine po_ro (tX5_breaksCell hW7 h1) (fun y242 ex242 p242 => ?_)
              dsimp only
              refine po_eq (fun q243 => ?_) (fun q243 => ?_)
              · refine po_gRm hW7 h0 rfl rfl (fun i244 ex244 hi244 hm244 => ?_)
                refine po_eq (fun q245 => ?_) (fun q245 => ?_)
                · refine po_some ?_
                  refine po_bind ex12 ?_
                  refine po_w (tX0_addEscaped hW7 ⟨_, rfl, h1⟩ ⟨_, rfl, hi244, hm244⟩) (fun y246 g246 hW246 p246 => ?_)
                  dsimp only
                  refine po_eq (fun q247 => ?_) (fun q247 => ?_)
                  · refine po_gRm hW246 h0 rfl rfl (fun i248 ex248 hi248 hm248 => ?_)
                    refine po_gRm hW246 h0 rfl rfl (fun i249 ex249 hi249 hm249 => ?_)
                    refine po_some ?_
                    refine po_gI hW246 h3 rfl rfl (by decide) (fun x250x ex250 (_ : True) => ?_)
                    refine po_some ?_
                    refine po_gI hW246 (h2 i1 rfl) rfl rfl (by decide) (fun x251x ex251 (hx251 : x251x = 0 ∨ x251x = 1) => ?_)
                    refine po_w (tX0_addEscaped hW246 ⟨_, rfl, hi248⟩ ⟨_, rfl, hi249, hm249⟩) (fun y252 g252 hW252 p252 => ?_)
                    dsimp only
                    refine po_ck rfl ?_
                    exact po_ret ⟨rfl, hW252, (Or.inr rfl)⟩
                  · refine po_gRm hW246 h0 rfl rfl (fun i253 ex253 hi253 hm253 => ?_)
                    refine po_some ?_
                    refine po_ck (wt_isO hW246 hi253 (by decide)) ?_
                    refine po_ro (tX5_breaksCell hW246 hi253) (fun y254 ex254 p254 => ?_)
                    dsimp only
                    refine po_eq (fun q255 => ?_) (fun q255 => ?_)
                    · refine po_gRm hW246 h0 rfl rfl (fun i256 ex256 hi256 hm256 => ?_)
                      refine po_bind ex253 ?_
                      refine po_bind ex253 ?_
                      refine po_some ?_
                      refine po_ck (wt_isO hW246 hi253 (by decide)) ?_
                      refine po_ro (tX5_size hW246 hi253) (fun y257 ex257 p257 => ?_)
                      dsimp only
                      refine po_some ?_
                      refine po_ck (wt_isO hW246 hi256 (by decide)) ?_
                      refine po_w (tX5_addPart hW246 hi256 hm256 ⟨_, rfl, hi253⟩) (fun y258 g258 hW258 p258 => ?_)
                      dsimp only
                      refine po_ck (nb_of p258) ?_
                      exact po_ret ⟨rfl, hW258, p258⟩
                    · refine po_pI hW246 h0 rfl rfl (vv_i (by decide) trivial) (fun g259 hW259 ex259 => ?_)
                      refine po_gRm hW259 h0 rfl rfl (fun i260 ex260 hi260 hm260 => ?_)
                      refine po_some ?_
                      refine po_ck (wt_isO hW259 hi260 (by decide)) ?_
                      refine po_w (tX5_add hW259 hi260 hm260) (fun y261 g261 hW261 p261 => ?_)
                      dsimp only
                      refine po_gRm hW261 h0 rfl rfl (fun i262 ex262 hi262 hm262 => ?_)
                      refine po_gRm hW261 h0 rfl rfl (fun i263 ex263 hi263 hm263 => ?_)
                      refine po_w (tX0_addEscaped hW261 ⟨_, rfl, hi262⟩ ⟨_, rfl, hi263, hm263⟩) (fun y264 g264 hW264 p264 => ?_)
                      dsimp only
                      refine po_gRm hW264 h0 rfl rfl (fun i265 ex265 hi265 hm265 => ?_)
                      refine po_some ?_
                      refine po_ck (wt_isO hW264 hi265 (by decide)) ?_
                      refine po_w (tX5_add hW264 hi265 hm265) (fun y266 g266 hW266 p266 => ?_)
                      dsimp only
                      refine po_some ?_
                      refine po_gI hW266 h3 rfl rfl (by decide) (fun x267x ex267 (_ : True) => ?_)
                      refine po_eq (fun q268 => ?_) (fun q268 => ?_)
                      · refine po_ck (nb_of (Or.inr rfl)) ?_
                        exact po_ret ⟨rfl, hW266, (Or.inr rfl)⟩
                      · refine po_ck (nb_of (Or.inl rfl)) ?_
                        exact po_ret ⟨rfl, hW266, (Or.inl rfl)⟩
                · refine po_w (tX0_addEscaped hW7 ⟨_, rfl, h1⟩ ⟨_, rfl, hi244, hm244⟩) (fun y269 g269 hW269 p269 => ?_)
                  dsimp only
                  refine po_eq (fun q270 => ?_) (fun q270 => ?_)
                  · refine po_gRm hW269 h0 rfl rfl (fun i271 ex271 hi271 hm271 => ?_)
                    refine po_gRm hW269 h0 rfl rfl (fun i272 ex272 hi272 hm272 => ?_)
                    refine po_some ?_
                    refine po_gI hW269 h3 rfl rfl (by decide) (fun x273x ex273 (_ : True) => ?_)
                    refine po_some ?_
                    refine po_gI hW269 (h2 i1 rfl) rfl rfl (by decide) (fun x274x ex274 (hx274 : x274x = 0 ∨ x274x = 1) => ?_)
                    refine po_w (tX0_addEscaped hW269 ⟨_, rfl, hi271⟩ ⟨_, rfl, hi272, hm272⟩) (fun y275 g275 hW275 p275 => ?_)
                    dsimp only
                    refine po_ck rfl ?_
                    exact po_ret ⟨rfl, hW275, (Or.inr rfl)⟩
                  · refine po_gRm hW269 h0 rfl rfl (fun i276 ex276 hi276 hm276 => ?_)
                    refine po_some ?_
                    refine po_ck (wt_isO hW269 hi276 (by decide)) ?_
                    refine po_ro (tX5_breaksCell hW269 hi276) (fun y277 ex277 p277 => ?_)
                    dsimp only
                    refine po_eq (fun q278 => ?_) (fun q278 => ?_)
                    · refine po_gRm hW269 h0 rfl rfl (fun i279 ex279 hi279 hm279 => ?_)
                      refine po_bind ex276 ?_
                      refine po_bind ex276 ?_
                      refine po_some ?_
                      refine po_ck (wt_isO hW269 hi276 (by decide)) ?_
                      refine po_ro (tX5_size hW269 hi276) (fun y280 ex280 p280 => ?_)
                      dsimp only
                      refine po_some ?_
                      refine po_ck (wt_isO hW269 hi279 (by decide)) ?_
                      refine po_w (tX5_addPart hW269 hi279 hm279 ⟨_, rfl, hi276⟩) (fun y281 g281 hW281 p281 => ?_)
                      dsimp only
                      refine po_ck (nb_of p281) ?_
                      exact po_ret ⟨rfl, hW281, p281⟩
                    · refine po_pI hW269 h0 rfl rfl (vv_i (by decide) trivial) (fun g282 hW282 ex282 => ?_)
                      refine po_gRm hW282 h0 rfl rfl (fun i283 ex283 hi283 hm283 => ?_)
                      refine po_some ?_
                      refine po_ck (wt_isO hW282 hi283 (by decide)) ?_
                      refine po_w (tX5_add hW282 hi283 hm283) (fun y284 g284 hW284 p284 => ?_)
                      dsimp only
                      refine po_gRm hW284 h0 rfl rfl (fun i285 ex285 hi285 hm285 => ?_)
                      refine po_gRm hW284 h0 rfl rfl (fun i286 ex286 hi286 hm286 => ?_)
                      refine po_w (tX0_addEscaped hW284 ⟨_, rfl, hi285⟩ ⟨_, rfl, hi286, hm286⟩) (fun y287 g287 hW287 p287 => ?_)
                      dsimp only
                      refine po_gRm hW287 h0 rfl rfl (fun i288 ex288 hi288 hm288 => ?_)
                      refine po_some ?_
                      refine po_ck (wt_isO hW287 hi288 (by decide)) ?_
                      refine po_w (tX5_add hW287 hi288 hm288) (fun y289 g289 hW289 p289 => ?_)
                      dsimp only
                      refine po_some ?_
                      refine po_gI hW289 h3 rfl rfl (by decide) (fun x290x ex290 (_ : True) => ?_)
                      refine po_eq (fun q291 => ?_) (fun q291 => ?_)
                      · refine po_ck (nb_of (Or.inr rfl)) ?_
                        exact po_ret ⟨rfl, hW289, (Or.inr rfl)⟩
                      · refine po_ck (nb_of (Or.inl rfl)) ?_
                        exact po_ret ⟨rfl, hW289, (Or.inl rfl)⟩
              · refine po_gRm hW7 h0 rfl rfl (fun i292 ex292 hi292 hm292 => ?_)
                refine po_some ?_
                refine po_ck (wt_isO hW7 hi292 (by decide)) ?_
                refine po_w (tX5_add hW7 hi292 hm292) (fun y293 g293 hW293 p293 => ?_)
                dsimp only
                refine po_gRm hW293 h0 rfl rfl (fun i294 ex294 hi294 hm294 => ?_)
                refine po_w (tX0_addEscaped hW293 ⟨_, rfl, h1⟩ ⟨_, rfl, hi294, hm294⟩) (fun y295 g295 hW295 p295 => ?_)
                dsimp only
                refine po_gRm hW295 h0 rfl rfl (fun i296 ex296 hi296 hm296 => ?_)
                refine po_some ?_
                refine po_ck (wt_isO hW295 hi296 (by decide)) ?_
                refine po_w (tX5_add hW295 hi296 hm296) (fun y297 g297 hW297 p297 => ?_)
                dsimp only
                refine po_some ?_
                refine po_gI hW297 h3 rfl rfl (by decide) (fun x298x ex298 (_ : True) => ?_)
                refine po_eq (fun q299 => ?_) (fun q299 => ?_)
                · refine po_pI hW297 h0 rfl rfl (vv_i (by decide) trivial) (fun g300 hW300 ex300 => ?_)
                  refine po_eq (fun q301 => ?_) (fun q301 => ?_)
                  · refine po_gRm hW300 h0 rfl rfl (fun i302 ex302 hi302 hm302 => ?_)
                    refine po_gRm hW300 h0 rfl rfl (fun i303 ex303 hi303 hm303 => ?_)
                    refine po_some ?_
                    refine po_gI hW300 h3 rfl rfl (by decide) (fun x304x ex304 (_ : True) => ?_)
                    refine po_some ?_
                    refine po_gI hW300 (h2 i1 rfl) rfl rfl (by decide) (fun x305x ex305 (hx305 : x305x = 0 ∨ x305x = 1) => ?_)
                    refine po_w (tX0_addEscaped hW300 ⟨_, rfl, hi302⟩ ⟨_, rfl, hi303, hm303⟩) (fun y306 g306 hW306 p306 => ?_)
                    dsimp only
                    refine po_ck rfl ?_
                    exact po_ret ⟨rfl, hW306, (Or.inr rfl)⟩
                  · refine po_gRm hW300 h0 rfl rfl (fun i307 ex307 hi307 hm307 => ?_)
                    refine po_some ?_
                    refine po_ck (wt_isO hW300 hi307 (by decide)) ?_
                    refine po_ro (tX5_breaksCell hW300 hi307) (fun y308 ex308 p308 => ?_)
                    dsimp only
                    refine po_eq (fun q309 => ?_) (fun q309 => ?_)
                    · refine po_gRm hW300 h0 rfl rfl (fun i310 ex310 hi310 hm310 => ?_)
                      refine po_bind ex307 ?_
                      refine po_bind ex307 ?_
                      refine po_some ?_
                      refine po_ck (wt_isO hW300 hi307 (by decide)) ?_
                      refine po_ro (tX5_size hW300 hi307) (fun y311 ex311 p311 => ?_)
                      dsimp only
                      refine po_some ?_
                      refine po_ck (wt_isO hW300 hi310 (by decide)) ?_
                      refine po_w (tX5_addPart hW300 hi310 hm310 ⟨_, rfl, hi307⟩) (fun y312 g312 hW312 p312 => ?_)
                      dsimp only
                      refine po_ck (nb_of p312) ?_
                      exact po_ret ⟨rfl, hW312, p312⟩
                    · refine po_pI hW300 h0 rfl rfl (vv_i (by decide) trivial) (fun g313 hW313 ex313 => ?_)
                      refine po_gRm hW313 h0 rfl rfl (fun i314 ex314 hi314 hm314 => ?_)
                      refine po_some ?_
                      refine po_ck (wt_isO hW313 hi314 (by decide)) ?_
                      refine po_w (tX5_add hW313 hi314 hm314) (fun y315 g315 hW315 p315 => ?_)
                      dsimp only
                      refine po_gRm hW315 h0 rfl rfl (fun i316 ex316 hi316 hm316 => ?_)
                      refine po_gRm hW315 h0 rfl rfl (fun i317 ex317 hi317 hm317 => ?_)
                      refine po_w (tX0_addEscaped hW315 ⟨_, rfl, hi316⟩ ⟨_, rfl, hi317, hm317⟩) (fun y318 g318 hW318 p318 => ?_)
                      dsimp only
                      refine po_gRm hW318 h0 rfl rfl (fun i319 ex319 hi319 hm319 => ?_)
                      refine po_some ?_
                      refine po_ck (wt_isO hW318 hi319 (by decide)) ?_
                      refine po_w (tX5_add hW318 hi319 hm319) (fun y320 g320 hW320 p320 => ?_)
                      dsimp only
                      refine po_some ?_
                      refine po_gI hW320 h3 rfl rfl (by decide) (fun x321x ex321 (_ : True) => ?_)
                      refine po_eq (fun q322 => ?_) (fun q322 => ?_)
                      · refine po_ck (nb_of (Or.inr rfl)) ?_
                        exact po_ret ⟨rfl, hW320, (Or.inr rfl)⟩
                      · refine po_ck (nb_of (Or.inl rfl)) ?_
                        exact po_ret ⟨rfl, hW320, (Or.inl rfl)⟩
                · refine po_bind ex298 ?_
                  refine po_eq (fun q323 => ?_) (fun q323 => ?_)
                  · refine po_pI hW297 h0 rfl rfl (vv_i (by decide) trivial) (fun g324 hW324 ex324 => ?_)
                    refine po_eq (fun q325 => ?_) (fun q325 => ?_)
                    · refine po_gRm hW324 h0 rfl rfl (fun i326 ex326 hi326 hm326 => ?_)
                      refine po_gRm hW324 h0 rfl rfl (fun i327 ex327 hi327 hm327 => ?_)
                      refine po_some ?_
                      refine po_gI hW324 h3 rfl rfl (by decide) (fun x328x ex328 (_ : True) => ?_)
                      refine po_some ?_
                      refine po_gI hW324 (h2 i1 rfl) rfl rfl (by decide) (fun x329x ex329 (hx329 : x329x = 0 ∨ x329x = 1) => ?_)
                      refine po_w (tX0_addEscaped hW324 ⟨_, rfl, hi326⟩ ⟨_, rfl, hi327, hm327⟩) (fun y330 g330 hW330 p330 => ?_)
                      dsimp only
                      refine po_ck rfl ?_
                      exact po_ret ⟨rfl, hW330, (Or.inr rfl)⟩
                    · refine po_gRm hW324 h0 rfl rfl (fun i331 ex331 hi331 hm331 => ?_)
                      refine po_some ?_
                      refine po_ck (wt_isO hW324 hi331 (by decide)) ?_
                      refine po_ro (tX5_breaksCell hW324 hi331) (fun y332 ex332 p332 => ?_)
                      dsimp only
                      refine po_eq (fun q333 => ?_) (fun q333 => ?_)
                      · refine po_gRm hW324 h0 rfl rfl (fun i334 ex334 hi334 hm334 => ?_)
                        refine po_bind ex331 ?_
                        refine po_bind ex331 ?_
                        refine po_some ?_
                        refine po_ck (wt_isO hW324 hi331 (by decide)) ?_
                        refine po_ro (tX5_size hW324 hi331) (fun y335 ex335 p335 => ?_)
                        dsimp only
                        refine po_some ?_
                        refine po_ck (wt_isO hW324 hi334 (by decide)) ?_
                        refine po_w (tX5_addPart hW324 hi334 hm334 ⟨_, rfl, hi331⟩) (fun y336 g336 hW336 p336 => ?_)
                        dsimp only
                        refine po_ck (nb_of p336) ?_
                        exact po_ret ⟨rfl, hW336, p336⟩
                      · refine po_pI hW324 h0 rfl rfl (vv_i (by decide) trivial) (fun g337 hW337 ex337 => ?_)
                        refine po_gRm hW337 h0 rfl rfl (fun i338 ex338 hi338 hm338 => ?_)
                        refine po_some ?_
                        refine po_ck (wt_isO hW337 hi338 (by decide)) ?_
                        refine po_w (tX5_add hW337 hi338 hm338) (fun y339 g339 hW339 p339 => ?_)
                        dsimp only
                        refine po_gRm hW339 h0 rfl rfl (fun i340 ex340 hi340 hm340 => ?_)
                        refine po_gRm hW339 h0 rfl rfl (fun i341 ex341 hi341 hm341 => ?_)
                        refine po_w (tX0_addEscaped hW339 ⟨_, rfl, hi340⟩ ⟨_, rfl, hi341, hm341⟩) (fun y342 g342 hW342 p342 => ?_)
                        dsimp only
                        refine po_gRm hW342 h0 rfl rfl (fun i343 ex343 hi343 hm343 => ?_)
                        refine po_some ?_
                        refine po_ck (wt_isO hW342 hi343 (by decide)) ?_
                        refine po_w (tX5_add hW342 hi343 hm343) (fun y344 g344 hW344 p344 => ?_)
                        dsimp only
                        refine po_some ?_
                        refine po_gI hW344 h3 rfl rfl (by decide) (fun x345x ex345 (_ : True) => ?_)
                        refine po_eq (fun q346 => ?_) (fun q346 => ?_)
                        · refine po_ck (nb_of (Or.inr rfl)) ?_
                          exact po_ret ⟨rfl, hW344, (Or.inr rfl)⟩
                        · refine po_ck (nb_of (Or.inl rfl)) ?_
                          exact po_ret ⟨rfl, hW344, (Or.inl rfl)⟩
                  · refine po_pI hW297 h0 rfl rfl (vv_i (by decide) trivial) (fun g347 hW347 ex347 => ?_)
                    refine po_eq (fun q348 => ?_) (fun q348 => ?_)
                    · refine po_gRm hW347 h0 rfl rfl (fun i349 ex349 hi349 hm349 => ?_)
                      refine po_gRm hW347 h0 rfl rfl (fun i350 ex350 hi350 hm350 => ?_)
                      refine po_some ?_
                      refine po_gI hW347 h3 rfl rfl (by decide) (fun x351x ex351 (_ : True) => ?_)
                      refine po_some ?_
                      refine po_gI hW347 (h2 i1 rfl) rfl rfl (by decide) (fun x352x ex352 (hx352 : x352x = 0 ∨ x352x = 1) => ?_)
                      refine po_w (tX0_addEscaped hW347 ⟨_, rfl, hi349⟩ ⟨_, rfl, hi350, hm350⟩) (fun y353 g353 hW353 p353 => ?_)
                      dsimp only
                      refine po_ck rfl ?_
                      exact po_ret ⟨rfl, hW353, (Or.inr rfl)⟩
                    · refine po_gRm hW347 h0 rfl rfl (fun i354 ex354 hi354 hm354 => ?_)
                      refine po_some ?_
                      refine po_ck (wt_isO hW347 hi354 (by decide)) ?_
                      refine po_ro (tX5_breaksCell hW347 hi354) (fun y355 ex355 p355 => ?_)
                      dsimp only
                      refine po_eq (fun q356 => ?_) (fun q356 => ?_)
                      · refine po_gRm hW347 h0 rfl rfl (fun i357 ex357 hi357 hm357 => ?_)
                        refine po_bind ex354 ?_
                        refine po_bind ex354 ?_
                        refine po_some ?_
                        refine po_ck (wt_isO hW347 hi354 (by decide)) ?_
                        refine po_ro (tX5_size hW347 hi354) (fun y358 ex358 p358 => ?_)
                        dsimp only
                        refine po_some ?_
                        refine po_ck (wt_isO hW347 hi357 (by decide)) ?_
                        refine po_w (tX5_addPart hW347 hi357 hm357 ⟨_, rfl, hi354⟩) (fun y359 g359 hW359 p359 => ?_)
                        dsimp only
                        refine po_ck (nb_of p359) ?_
                        exact po_ret ⟨rfl, hW359, p359⟩
                      · refine po_pI hW347 h0 rfl rfl (vv_i (by decide) trivial) (fun g360 hW360 ex360 => ?_)
                        refine po_gRm hW360 h0 rfl rfl (fun i361 ex361 hi361 hm361 => ?_)
                        refine po_some ?_
                        refine po_ck (wt_isO hW360 hi361 (by decide)) ?_
                        refine po_w (tX5_add hW360 hi361 hm361) (fun y362 g362 hW362 p362 => ?_)
                        dsimp only
                        refine po_gRm hW362 h0 rfl rfl (fun i363 ex363 hi363 hm363 => ?_)
                        refine po_gRm hW362 h0 rfl rfl (fun i364 ex364 hi364 hm364 => ?_)
                        refine po_w (tX0_addEscaped hW362 ⟨_, rfl, hi363⟩ ⟨_, rfl, hi364, hm364⟩) (fun y365 g365 hW365 p365 => ?_)
                        dsimp only
                        refine po_gRm hW365 h0 rfl rfl (fun i366 ex366 hi366 hm366 => ?_)
                        refine po_some ?_
                        refine po_ck (wt_isO hW365 hi366 (by decide)) ?_
                        refine po_w (tX5_add hW365 hi366 hm366) (fun y367 g367 hW367 p367 => ?_)
                        dsimp only
                        refine po_some ?_
                        refine po_gI hW367 h3 rfl rfl (by decide) (fun x368x ex368 (_ : True) => ?_)
                        refine po_eq (fun q369 => ?_) (fun q369 => ?_)
                        · refine po_ck (nb_of (Or.inr rfl)) ?_
                          exact po_ret ⟨rfl, hW367, (Or.inr rfl)⟩
                        · refine po_ck (nb_of (Or.inl rfl)) ?_
                          exact po_ret ⟨rfl, hW367, (Or.inl rfl)⟩
        · refine po_eq (fun q370 => ?_) (fun q370 => ?_)
          · refine po_gRm hW7 h0 rfl rfl (fun i371 ex371 hi371 hm371 => ?_)
            refine po_eq (fun q372 => ?_) (fun q372 => ?_)
            · refine po_some ?_
              refine po_bind ex12 ?_
              refine po_w (tX0_addEscaped hW7 ⟨_, rfl, h1⟩ ⟨_, rfl, hi371, hm371⟩) (fun y373 g373 hW373 p373 => ?_)
              dsimp only
              refine po_eq (fun q374 => ?_) (fun q374 => ?_)
              · refine po_gRm hW373 h0 rfl rfl (fun i375 ex375 hi375 hm375 => ?_)
                refine po_gRm hW373 h0 rfl rfl (fun i376 ex376 hi376 hm376 => ?_)
                refine po_some ?_
                refine po_gI hW373 h3 rfl rfl (by decide) (fun x377x ex377 (_ : True) => ?_)
                refine po_some ?_
                refine po_gI hW373 (h2 i1 rfl) rfl rfl (by decide) (fun x378x ex378 (hx378 : x378x = 0 ∨ x378x = 1) => ?_)
                refine po_w (tX0_addEscaped hW373 ⟨_, rfl, hi375⟩ ⟨_, rfl, hi376, hm376⟩) (fun y379 g379 hW379 p379 => ?_)
                dsimp only
                refine po_ck rfl ?_
                exact po_ret ⟨rfl, hW379, (Or.inr rfl)⟩
              · refine po_gRm hW373 h0 rfl rfl (fun i380 ex380 hi380 hm380 => ?_)
                refine po_some ?_
                refine po_ck (wt_isO hW373 hi380 (by decide)) ?_
                refine po_ro (tX5_breaksCell hW373 hi380) (fun y381 ex381 p381 => ?_)
                dsimp only
                refine po_eq (fun q382 => ?_) (fun q382 => ?_)
                · refine po_gRm hW373 h0 rfl rfl (fun i383 ex383 hi383 hm383 => ?_)
                  refine po_bind ex380 ?_
                  refine po_bind ex380 ?_
                  refine po_some ?_
                  refine po_ck (wt_isO hW373 hi380 (by decide)) ?_
                  refine po_ro (tX5_size hW373 hi380) (fun y384 ex384 p384 => ?_)
                  dsimp only
                  refine po_some ?_
                  refine po_ck (wt_isO hW373 hi383 (by decide)) ?_
                  refine po_w (tX5_addPart hW373 hi383 hm383 ⟨_, rfl, hi380⟩) (fun y385 g385 hW385 p385 => ?_)
                  dsimp only
                  refine po_ck (nb_of p385) ?_
                  exact po_ret ⟨rfl, hW385, p385⟩
                · refine po_pI hW373 h0 rfl rfl (vv_i (by decide) trivial) (fun g386 hW386 ex386 => ?_)
                  refine po_gRm hW386 h0 rfl rfl (fun i387 ex387 hi387 hm387 => ?_)
                  refine po_some ?_
                  refine po_ck (wt_isO hW386 hi387 (by decide)) ?_
                  refine po_w (tX5_add hW386 hi387 hm387) (fun y388 g388 hW388 p388 => ?_)
                  dsimp only
                  refine po_gRm hW388 h0 rfl rfl (fun i389 ex389 hi389 hm389 => ?_)
                  refine po_gRm hW388 h0 rfl rfl (fun i390 ex390 hi390 hm390 => ?_)
                  refine po_w (tX0_addEscaped hW388 ⟨_, rfl, hi389⟩ ⟨_, rfl, hi390, hm390⟩) (fun y391 g391 hW391 p391 => ?_)
                  dsimp only
                  refine po_gRm hW391 h0 rfl rfl (fun i392 ex392 hi392 hm392 => ?_)
                  refine po_some ?_
                  refine po_ck (wt_isO hW391 hi392 (by decide)) ?_
                  refine po_w (tX5_add hW391 hi392 hm392) (fun y393 g393 hW393 p393 => ?_)
                  dsimp only
                  refine po_some ?_
                  refine po_gI hW393 h3 rfl rfl (by decide) (fun x394x ex394 (_ : True) => ?_)
                  refine po_eq (fun q395 => ?_) (fun q395 => ?_)
                  · refine po_ck (nb_of (Or.inr rfl)) ?_
                    exact po_ret ⟨rfl, hW393, (Or.inr rfl)⟩
                  · refine po_ck (nb_of (Or.inl rfl)) ?_
                    exact po_ret ⟨rfl, hW393, (Or.inl rfl)⟩
            · refine po_w (tX0_addEscaped hW7 ⟨_, rfl, h1⟩ ⟨_, rfl, hi371, hm371⟩) (fun y396 g396 hW396 p396 => ?_)
              dsimp only
              refine po_eq (fun q397 => ?_) (fun q397 => ?_)
              · refine po_gRm hW396 h0 rfl rfl (fun i398 ex398 hi398 hm398 => ?_)
                refine po_gRm hW396 h0 rfl rfl (fun i399 ex399 hi399 hm399 => ?_)
                refine po_some ?_
                refine po_gI hW396 h3 rfl rfl (by decide) (fun x400x ex400 (_ : True) => ?_)
                refine po_some ?_
                refine po_gI hW396 (h2 i1 rfl) rfl rfl (by decide) (fun x401x ex401 (hx401 : x401x = 0 ∨ x401x = 1) => ?_)
                refine po_w (tX0_addEscaped hW396 ⟨_, rfl, hi398⟩ ⟨_, rfl, hi399, hm399⟩) (fun y402 g402 hW402 p402 => ?_)
                dsimp only
                refine po_ck rfl ?_
                exact po_ret ⟨rfl, hW402, (Or.inr rfl)⟩
              · refine po_gRm hW396 h0 rfl rfl (fun i403 ex403 hi403 hm403 => ?_)
                refine po_some ?_
                refine po_ck (wt_isO hW396 hi403 (by decide)) ?_
                refine po_ro (tX5_breaksCell hW396 hi403) (fun y404 ex404 p404 => ?_)
                dsimp only
                refine po_eq (fun q405 => ?_) (fun q405 => ?_)
                · refine po_gRm hW396 h0 rfl rfl (fun i406 ex406 hi406 hm406 => ?_)
                  refine po_bind ex403 ?_
                  refine po_bind ex403 ?_
                  refine po_some ?_
                  refine po_ck (wt_isO hW396 hi403 (by decide)) ?_
                  refine po_ro (tX5_size hW396 hi403) (fun y407 ex407 p407 => ?_)
                  dsimp only
                  refine po_some ?_
                  refine po_ck (wt_isO hW396 hi406 (by decide)) ?_
                  refine po_w (tX5_addPart hW396 hi406 hm406 ⟨_, rfl, hi403⟩) (fun y408 g408 hW408 p408 => ?_)
                  dsimp only
                  refine po_ck (nb_of p408) ?_
                  exact po_ret ⟨rfl, hW408, p408⟩
                · refine po_pI hW396 h0 rfl rfl (vv_i (by decide) trivial) (fun g409 hW409 ex409 => ?_)
                  refine po_gRm hW409 h0 rfl rfl (fun i410 ex410 hi410 hm410 => ?_)
                  refine po_some ?_
                  refine po_ck (wt_isO hW409 hi410 (by decide)) ?_
                  refine po_w (tX5_add hW409 hi410 hm410) (fun y411 g411 hW411 p411 => ?_)
                  dsimp only
                  refine po_gRm hW411 h0 rfl rfl (fun i412 ex412 hi412 hm412 => ?_)
                  refine po_gRm hW411 h0 rfl rfl (fun i413 ex413 hi413 hm413 => ?_)
                  refine po_w (tX0_addEscaped hW411 ⟨_, rfl, hi412⟩ ⟨_, rfl, hi413, hm413⟩) (fun y414 g414 hW414 p414 => ?_)
                  dsimp only
                  refine po_gRm hW414 h0 rfl rfl (fun i415 ex415 hi415 hm415 => ?_)
                  refine po_some ?_
                  refine po_ck (wt_isO hW414 hi415 (by decide)) ?_
                  refine po_w (tX5_add hW414 hi415 hm415) (fun y416 g416 hW416 p416 => ?_)
                  dsimp only
                  refine po_some ?_
                  refine po_gI hW416 h3 rfl rfl (by decide) (fun x417x ex417 (_ : True) => ?_)
                  refine po_eq (fun q418 => ?_) (fun q418 => ?_)
                  · refine po_ck (nb_of (Or.inr rfl)) ?_
                    exact po_ret ⟨rfl, hW416, (Or.inr rfl)⟩
                  · refine po_ck (nb_of (Or.inl rfl)) ?_
                    exact po_ret ⟨rfl, hW416, (Or.inl rfl)⟩
          · refine po_some ?_
            refine po_ck (wt_isO hW7 h1 (by decide)) ?_
            refine po_ro (tX5_breaksCell hW7 h1) (fun y419 ex419 p419 => ?_)
            dsimp only
            refine po_eq (fun q420 => ?_) (fun q420 => ?_)
            · refine po_gRm hW7 h0 rfl rfl (fun i421 ex421 hi421 hm421 => ?_)
              refine po_eq (fun q422 => ?_) (fun q422 => ?_)
              · refine po_some ?_
                refine po_bind ex12 ?_
                refine po_w (tX0_addEscaped hW7 ⟨_, rfl, h1⟩ ⟨_, rfl, hi421, hm421⟩) (fun y423 g423 hW423 p423 => ?_)
                dsimp only
                refine po_eq (fun q424 => ?_) (fun q424 => ?_)
                · refine po_gRm hW423 h0 rfl rfl (fun i425 ex425 hi425 hm425 => ?_)
                  refine po_gRm hW423 h0 rfl rfl (fun i426 ex426 hi426 hm426 => ?_)
                  refine po_some ?_
                  refine po_gI hW423 h3 rfl rfl (by decide) (fun x427x ex427 (_ : True) => ?_)
                  refine po_some ?_
                  refine po_gI hW423 (h2 i1 rfl) rfl rfl (by decide) (fun x428x ex428 (hx428 : x428x = 0 ∨ x428x = 1) => ?_)
                  refine po_w (tX0_addEscaped hW423 ⟨_, rfl, hi425⟩ ⟨_, rfl, hi426, hm426⟩) (fun y429 g429 hW429 p429 => ?_)
                  dsimp only
                  refine po_ck rfl ?_
                  exact po_ret ⟨rfl, hW429, (Or.inr rfl)⟩
                · refine po_gRm hW423 h0 rfl rfl (fun i430 ex430 hi430 hm430 => ?_)
                  refine po_some ?_
                  refine po_ck (wt_isO hW423 hi430 (by decide)) ?_
                  refine po_ro (tX5_breaksCell hW423 hi430) (fun y431 ex431 p431 => ?_)
                  dsimp only
                  refine po_eq (fun q432 => ?_) (fun q432 => ?_)
                  · refine po_gRm hW423 h0 rfl rfl (fun i433 ex433 hi433 hm433 => ?_)
                    refine po_bind ex430 ?_
                    refine po_bind ex430 ?_
                    refine po_some ?_
                    refine po_ck (wt_isO hW423 hi430 (by decide)) ?_
                    refine po_ro (tX5_size hW423 hi430) (fun y434 ex434 p434 => ?_)
                    dsimp only
                    refine po_some ?_
                    refine po_ck (wt_isO hW423 hi433 (by decide)) ?_
                    refine po_w (tX5_addPart hW423 hi433 hm433 ⟨_, rfl, hi430⟩) (fun y435 g435 hW435 p435 => ?_)
                    dsimp only
                    refine po_ck (nb_of p435) ?_
                    exact po_ret ⟨rfl, hW435, p435⟩
                  · refine po_pI hW423 h0 rfl rfl (vv_i (by decide) trivial) (fun g436 hW436 ex436 => ?_)
                    refine po_gRm hW436 h0 rfl rfl (fun i437 ex437 hi437 hm437 => ?_)
                    refine po_some ?_
                    refine po_ck (wt_isO hW436 hi437 (by decide)) ?_
                    refine po_w (tX5_add hW436 hi437 hm437) (fun y438 g438 hW438 p438 => ?_)
                    dsimp only
                    refine po_gRm hW438 h0 rfl rfl (fun i439 ex439 hi439 hm439 => ?_)
                    refine po_gRm hW438 h0 rfl rfl (fun i440 ex440 hi440 hm440 => ?_)
                    refine po_w (tX0_addEscaped hW438 ⟨_, rfl, hi439⟩ ⟨_, rfl, hi440, hm440⟩) (fun y441 g441 hW441 p441 => ?_)
                    dsimp only
                    refine po_gRm hW441 h0 rfl rfl (fun i442 ex442 hi442 hm442 => ?_)
                    refine po_some ?_
                    refine po_ck (wt_isO hW441 hi442 (by decide)) ?_
                    refine po_w (tX5_add hW441 hi442 hm442) (fun y443 g443 hW443 p443 => ?_)
                    dsimp only
                    refine po_some ?_
                    refine po_gI hW443 h3 rfl rfl (by decide) (fun x444x ex444 (_ : True) => ?_)
                    refine po_eq (fun q445 => ?_) (fun q445 => ?_)
                    · refine po_ck (nb_of (Or.inr rfl)) ?_
                      exact po_ret ⟨rfl, hW443, (Or.inr rfl)⟩
                    · refine po_ck (nb_of (Or.inl rfl)) ?_
                      exact po_ret ⟨rfl, hW443, (Or.inl rfl)⟩
              · refine po_w (tX0_addEscaped hW7 ⟨_, rfl, h1⟩ ⟨_, rfl, hi421, hm421⟩) (fun y446 g446 hW446 p446 => ?_)
                dsimp only
                refine po_eq (fun q447 => ?_) (fun q447 => ?_)
                · refine po_gRm hW446 h0 rfl rfl (fun i448 ex448 hi448 hm448 => ?_)
                  refine po_gRm hW446 h0 rfl rfl (fun i449 ex449 hi449 hm449 => ?_)
                  refine po_some ?_
                  refine po_gI hW446 h3 rfl rfl (by decide) (fun x450x ex450 (_ : True) => ?_)
                  refine po_some ?_
                  refine po_gI hW446 (h2 i1 rfl) rfl rfl (by decide) (fun x451x ex451 (hx451 : x451x = 0 ∨ x451x = 1) => ?_)
                  refine po_w (tX0_addEscaped hW446 ⟨_, rfl, hi448⟩ ⟨_, rfl, hi449, hm449⟩) (fun y452 g452 hW452 p452 => ?_)
                  dsimp only
                  refine po_ck rfl ?_
                  exact po_ret ⟨rfl, hW452, (Or.inr rfl)⟩
                · refine po_gRm hW446 h0 rfl rfl (fun i453 ex453 hi453 hm453 => ?_)
                  refine po_some ?_
                  refine po_ck (wt_isO hW446 hi453 (by decide)) ?_
                  refine po_ro (tX5_breaksCell hW446 hi453) (fun y454 ex454 p454 => ?_)
                  dsimp only
                  refine po_eq (fun q455 => ?_) (fun q455 => ?_)
                  · refine po_gRm hW446 h0 rfl rfl (fun i456 ex456 hi456 hm456 => ?_)
                    refine po_bind ex453 ?_
                    refine po_bind ex453 ?_
                    refine po_some ?_
                    refine po_ck (wt_isO hW446 hi453 (by decide)) ?_
                    refine po_ro (tX5_size hW446 hi453) (fun y457 ex457 p457 => ?_)
                    dsimp only
                    refine po_some ?_
                    refine po_ck (wt_isO hW446 hi456 (by decide)) ?_
                    refine po_w (tX5_addPart hW446 hi456 hm456 ⟨_, rfl, hi453⟩) (fun y458 g458 hW458 p458 => ?_)
                    dsimp only
                    refine po_ck (nb_of p458) ?_
                    exact po_ret ⟨rfl, hW458, p458⟩
                  · refine po_pI hW446 h0 rfl rfl (vv_i (by decide) trivial) (fun g459 hW459 ex459 => ?_)
                    refine po_gRm hW459 h0 rfl rfl (fun i460 ex460 hi460 hm460 => ?_)
                    refine po_some ?_
                    refine po_ck (wt_isO hW459 hi460 (by decide)) ?_
                    refine po_w (tX5_add hW459 hi460 hm460) (fun y461 g461 hW461 p461 => ?_)
                    dsimp only
                    refine po_gRm hW461 h0 rfl rfl (fun i462 ex462 hi462 hm462 => ?_)
                    refine po_gRm hW461 h0 rfl rfl (fun i463 ex463 hi463 hm463 => ?_)
                    refine po_w (tX0_addEscaped hW461 ⟨_, rfl, hi462⟩ ⟨_, rfl, hi463, hm463⟩) (fun y464 g464 hW464 p464 => ?_)
                    dsimp only
                    refine po_gRm hW464 h0 rfl rfl (fun i465 ex465 hi465 hm465 => ?_)
                    refine po_some ?_
                    refine po_ck (wt_isO hW464 hi465 (by decide)) ?_
                    refine po_w (tX5_add hW464 hi465 hm465) (fun y466 g466 hW466 p466 => ?_)
                    dsimp only
                    refine po_some ?_
                    refine po_gI hW466 h3 rfl rfl (by decide) (fun x467x ex467 (_ : True) => ?_)
                    refine po_eq (fun q468 => ?_) (fun q468 => ?_)
                    · refine po_ck (nb_of (Or.inr rfl)) ?_
                      exact po_ret ⟨rfl, hW466, (Or.inr rfl)⟩
                    · refine po_ck (nb_of (Or.inl rfl)) ?_
                      exact po_ret ⟨rfl, hW466, (Or.inl rfl)⟩
            · refine po_gRm hW7 h0 rfl rfl (fun i469 ex469 hi469 hm469 => ?_)
              refine po_some ?_
              refine po_ck (wt_isO hW7 hi469 (by decide)) ?_
              refine po_w (tX5_add hW7 hi469 hm469) (fun y470 g470 hW470 p470 => ?_)
              dsimp only
              refine po_gRm hW470 h0 rfl rfl (fun i471 ex471 hi471 hm471 => ?_)
              refine po_w (tX0_addEscaped hW470 ⟨_, rfl, h1⟩ ⟨_, rfl, hi471, hm471⟩) (fun y472 g472 hW472 p472 => ?_)
              dsimp only
              refine po_gRm hW472 h0 rfl rfl (fun i473 ex473 hi473 hm473 => ?_)
              refine po_some ?_
              refine po_ck (wt_isO hW472 hi473 (by decide)) ?_
              refine po_w (tX5_add hW472 hi473 hm473) (fun y474 g474 hW474 p474 => ?_)
              dsimp only
              refine po_some ?_
              refine po_gI hW474 h3 rfl rfl (by decide) (fun x475x ex475 (_ : True) => ?_)
              refine po_eq (fun q476 => ?_) (fun q476 => ?_)
              · refine po_pI hW474 h0 rfl rfl (vv_i (by decide) trivial) (fun g477 hW477 ex477 => ?_)
                refine po_eq (fun q478 => ?_) (fun q478 => ?_)
                · refine po_gRm hW477 h0 rfl rfl (fun i479 ex479 hi479 hm479 => ?_)
                  refine po_gRm hW477 h0 rfl rfl (fun i480 ex480 hi480 hm480 => ?_)
                  refine po_some ?_
                  refine po_gI hW477 h3 rfl rfl (by decide) (fun x481x ex481 (_ : True) => ?_)
                  refine po_some ?_
                  refine po_gI hW477 (h2 i1 rfl) rfl rfl (by decide) (fun x482x ex482 (hx482 : x482x = 0 ∨ x482x = 1) => ?_)
                  refine po_w (tX0_addEscaped hW477 ⟨_, rfl, hi479⟩ ⟨_, rfl, hi480, hm480⟩) (fun y483 g483 hW483 p483 => ?_)
                  dsimp only
                  refine po_ck rfl ?_
                  exact po_ret ⟨rfl, hW483, (Or.inr rfl)⟩
                · refine po_gRm hW477 h0 rfl rfl (fun i484 ex484 hi484 hm484 => ?_)
                  refine po_some ?_
                  refine po_ck (wt_isO hW477 hi484 (by decide)) ?_
                  refine po_ro (tX5_breaksCell hW477 hi484) (fun y485 ex485 p485 => ?_)
                  dsimp only
                  refine po_eq (fun q486 => ?_) (fun q486 => ?_)
                  · refine po_gRm hW477 h0 rfl rfl (fun i487 ex487 hi487 hm487 => ?_)
                    refine po_bind ex484 ?_
                    refine po_bind ex484 ?_
                    refine po_some ?_
                    refine po_ck (wt_isO hW477 hi484 (by decide)) ?_
                    refine po_ro (tX5_size hW477 hi484) (fun y488 ex488 p488 => ?_)
                    dsimp only
                    refine po_some ?_
                    refine po_ck (wt_isO hW477 hi487 (by decide)) ?_
                    refine po_w (tX5_addPart hW477 hi487 hm487 ⟨_, rfl, hi484⟩) (fun y489 g489 hW489 p489 => ?_)
                    dsimp only
                    refine po_ck (nb_of p489) ?_
                    exact po_ret ⟨rfl, hW489, p489⟩
                  · refine po_pI hW477 h0 rfl rfl (vv_i (by decide) trivial) (fun g490 hW490 ex490 => ?_)
                    refine po_gRm hW490 h0 rfl rfl (fun i491 ex491 hi491 hm491 => ?_)
                    refine po_some ?_
                    refine po_ck (wt_isO hW490 hi491 (by decide)) ?_
                    refine po_w (tX5_add hW490 hi491 hm491) (fun y492 g492 hW492 p492 => ?_)
                    dsimp only
                    refine po_gRm hW492 h0 rfl rfl (fun i493 ex493 hi493 hm493 => ?_)
                    refine po_gRm hW492 h0 rfl rfl (fun i494 ex494 hi494 hm494 => ?_)
                    refine po_w (tX0_addEscaped hW492 ⟨_, rfl, hi493⟩ ⟨_, rfl, hi494, hm494⟩) (fun y495 g495 hW495 p495 => ?_)
                    dsimp only
                    refine po_gRm hW495 h0 rfl rfl (fun i496 ex496 hi496 hm496 => ?_)
                    refine po_some ?_
                    refine po_ck (wt_isO hW495 hi496 (by decide)) ?_
                    refine po_w (tX5_add hW495 hi496 hm496) (fun y497 g497 hW497 p497 => ?_)
                    dsimp only
                    refine po_some ?_
                    refine po_gI hW497 h3 rfl rfl (by decide) (fun x498x ex498 (_ : True) => ?_)
                    refine po_eq (fun q499 => ?_) (fun q499 => ?_)
                    · refine po_ck (nb_of (Or.inr rfl)) ?_
                      exact po_ret ⟨rfl, hW497, (Or.inr rfl)⟩
                    · refine po_ck (nb_of (Or.inl rfl)) ?_
                      exact po_ret ⟨rfl, hW497, (Or.inl rfl)⟩
              · refine po_bind ex475 ?_
                refine po_eq (fun q500 => ?_) (fun q500 => ?_)
                · refine po_pI hW474 h0 rfl rfl (vv_i (by decide) trivial) (fun g501 hW501 ex501 => ?_)
                  refine po_eq (fun q502 => ?_) (fun q502 => ?_)
                  · refine po_gRm hW501 h0 rfl rfl (fun i503 ex503 hi503 hm503 => ?_)
                    refine po_gRm hW501 h0 rfl rfl (fun i504 ex504 hi504 hm504 => ?_)
                    refine po_some ?_
                    refine po_gI hW501 h3 rfl rfl (by decide) (fun x505x ex505 (_ : True) => ?_)
                    refine po_some ?_
                    refine po_gI hW501 (h2 i1 rfl) rfl rfl (by decide) (fun x506x ex506 (hx506 : x506x = 0 ∨ x506x = 1) => ?_)
                    refine po_w (tX0_addEscaped hW501 ⟨_, rfl, hi503⟩ ⟨_, rfl, hi504, hm504⟩) (fun y507 g507 hW507 p507 => ?_)
                    dsimp only
                    refine po_ck rfl ?_
                    exact po_ret ⟨rfl, hW507, (Or.inr rfl)⟩
                  · refine po_gRm hW501 h0 rfl rfl (fun i508 ex508 hi508 hm508 => ?_)
                    refine po_some ?_
                    refine po_ck (wt_isO hW501 hi508 (by decide)) ?_
                    refine po_ro (tX5_breaksCell hW501 hi508) (fun y509 ex509 p509 => ?_)
                    dsimp only
                    refine po_eq (fun q510 => ?_) (fun q510 => ?_)
                    · refine po_gRm hW501 h0 rfl rfl (fun i511 ex511 hi511 hm511 => ?_)
                      refine po_bind ex508 ?_
                      refine po_bind ex508 ?_
                      refine po_some ?_
                      refine po_ck (wt_isO hW501 hi508 (by decide)) ?_
                      refine po_ro (tX5_size hW501 hi508) (fun y512 ex512 p512 => ?_)
                      dsimp only
                      refine po_some ?_
                      refine po_ck (wt_isO hW501 hi511 (by decide)) ?_
                      refine po_w (tX5_addPart hW501 hi511 hm511 ⟨_, rfl, hi508⟩) (fun y513 g513 hW513 p513 => ?_)
                      dsimp only
                      refine po_ck (nb_of p513) ?_
                      exact po_ret ⟨rfl, hW513, p513⟩
                    · refine po_pI hW501 h0 rfl rfl (vv_i (by decide) trivial) (fun g514 hW514 ex514 => ?_)
                      refine po_gRm hW514 h0 rfl rfl (fun i515 ex515 hi515 hm515 => ?_)
                      refine po_some ?_
                      refine po_ck (wt_isO hW514 hi515 (by decide)) ?_
                      refine po_w (tX5_add hW514 hi515 hm515) (fun y516 g516 hW516 p516 => ?_)
                      dsimp only
                      refine po_gRm hW516 h0 rfl rfl (fun i517 ex517 hi517 hm517 => ?_)
                      refine po_gRm hW516 h0 rfl rfl (fun i518 ex518 hi518 hm518 => ?_)
                      refine po_w (tX0_addEscaped hW516 ⟨_, rfl, hi517⟩ ⟨_, rfl, hi518, hm518⟩) (fun y519 g519 hW519 p519 => ?_)
                      dsimp only
                      refine po_gRm hW519 h0 rfl rfl (fun i520 ex520 hi520 hm520 => ?_)
                      refine po_some ?_
                      refine po_ck (wt_isO hW519 hi520 (by decide)) ?_
                      refine po_w (tX5_add hW519 hi520 hm520) (fun y521 g521 hW521 p521 => ?_)
                      dsimp only
                      refine po_some ?_
                      refine po_gI hW521 h3 rfl rfl (by decide) (fun x522x ex522 (_ : True) => ?_)
                      refine po_eq (fun q523 => ?_) (fun q523 => ?_)
                      · refine po_ck (nb_of (Or.inr rfl)) ?_
                        exact po_ret ⟨rfl, hW521, (Or.inr rfl)⟩
                      · refine po_ck (nb_of (Or.inl rfl)) ?_
                        exact po_ret ⟨rfl, hW521, (Or.inl rfl)⟩
                · refine po_pI hW474 h0 rfl rfl (vv_i (by decide) trivial) (fun g524 hW524 ex524 => ?_)
                  refine po_eq (fun q525 => ?_) (fun q525 => ?_)
                  · refine po_gRm hW524 h0 rfl rfl (fun i526 ex526 hi526 hm526 => ?_)
                    refine po_gRm hW524 h0 rfl rfl (fun i527 ex527 hi527 hm527 => ?_)
                    refine po_some ?_
                    refine po_gI hW524 h3 rfl rfl (by decide) (fun x528x ex528 (_ : True) => ?_)
                    refine po_some ?_
                    refine po_gI hW524 (h2 i1 rfl) rfl rfl (by decide) (fun x529x ex529 (hx529 : x529x = 0 ∨ x529x = 1) => ?_)
                    refine po_w (tX0_addEscaped hW524 ⟨_, rfl, hi526⟩ ⟨_, rfl, hi527, hm527⟩) (fun y530 g530 hW530 p530 => ?_)
                    dsimp only
                    refine po_ck rfl ?_
                    exact po_ret ⟨rfl, hW530, (Or.inr rfl)⟩
                  · refine po_gRm hW524 h0 rfl rfl (fun i531 ex531 hi531 hm531 => ?_)
                    refine po_some ?_
                    refine po_ck (wt_isO hW524 hi531 (by decide)) ?_
                    refine po_ro (tX5_breaksCell hW524 hi531) (fun y532 ex532 p532 => ?_)
                    dsimp only
                    refine po_eq (fun q533 => ?_) (fun q533 => ?_)
                    · refine po_gRm hW524 h0 rfl rfl (fun i534 ex534 hi534 hm534 => ?_)
                      refine po_bind ex531 ?_
                      refine po_bind ex531 ?_
                      refine po_some ?_
                      refine po_ck (wt_isO hW524 hi531 (by decide)) ?_
                      refine po_ro (tX5_size hW524 hi531) (fun y535 ex535 p535 => ?_)
                      dsimp only
                      refine po_some ?_
                      refine po_ck (wt_isO hW524 hi534 (by decide)) ?_
                      refine po_w (tX5_addPart hW524 hi534 hm534 ⟨_, rfl, hi531⟩) (fun y536 g536 hW536 p536 => ?_)
                      dsimp only
                      refine po_ck (nb_of p536) ?_
                      exact po_ret ⟨rfl, hW536, p536⟩
                    · refine po_pI hW524 h0 rfl rfl (vv_i (by decide) trivial) (fun g537 hW537 ex537 => ?_)
                      refine po_gRm hW537 h0 rfl rfl (fun i538 ex538 hi538 hm538 => ?_)
                      refine po_some ?_
                      refine po_ck (wt_isO hW537 hi538 (by decide)) ?_
                      refine po_w (tX5_add hW537 hi538 hm538) (fun y539 g539 hW539 p539 => ?_)
                      dsimp only
                      refine po_gRm hW539 h0 rfl rfl (fun i540 ex540 hi540 hm540 => ?_)
                      refine po_gRm hW539 h0 rfl rfl (fun i541 ex541 hi541 hm541 => ?_)
                      refine po_w (tX0_addEscaped hW539 ⟨_, rfl, hi540⟩ ⟨_, rfl, hi541, hm541⟩) (fun y542 g542 hW542 p542 => ?_)
                      dsimp only
                      refine po_gRm hW542 h0 rfl rfl (fun i543 ex543 hi543 hm543 => ?_)
                      refine po_some ?_
                      refine po_ck (wt_isO hW542 hi543 (by decide)) ?_
                      refine po_w (tX5_add hW542 hi543 hm543) (fun y544 g544 hW544 p544 => ?_)
                      dsimp only
                      refine po_some ?_
                      refine po_gI hW544 h3 rfl rfl (by decide) (fun x545x ex545 (_ : True) => ?_)
                      refine po_eq (fun q546 => ?_) (fun q546 => ?_)
                      · refine po_ck (nb_of (Or.inr rfl)) ?_
                        exact po_ret ⟨rfl, hW544, (Or.inr rfl)⟩
                      · refine po_ck (nb_of (Or.inl rfl)) ?_
                        exact po_ret ⟨rfl, hW544, (Or.inl rfl)⟩
      · refine po_some ?_
        refine po_gI hW7 h3 rfl rfl (by decide) (fun x547x ex547 (_ : True) => ?_)
        refine po_eq (fun q548 => ?_) (fun q548 => ?_)
        · refine po_some ?_
          refine po_gI hW7 (h2 i1 rfl) rfl rfl (by decide) (fun x549x ex549 (hx549 : x549x = 0 ∨ x549x = 1) => ?_)
          refine po_eq (fun q550 => ?_) (fun q550 => ?_)
          · refine po_eq (fun q551 => ?_) (fun q551 => ?_)
            · refine po_gRm hW7 h0 rfl rfl (fun i552 ex552 hi552 hm552 => ?_)
              refine po_eq (fun q553 => ?_) (fun q553 => ?_)
              · refine po_some ?_
                refine po_bind ex547 ?_
                refine po_w (tX0_addEscaped hW7 ⟨_, rfl, h1⟩ ⟨_, rfl, hi552, hm552⟩) (fun y554 g554 hW554 p554 => ?_)
                dsimp only
                refine po_eq (fun q555 => ?_) (fun q555 => ?_)
                · refine po_gRm hW554 h0 rfl rfl (fun i556 ex556 hi556 hm556 => ?_)
                  refine po_gRm hW554 h0 rfl rfl (fun i557 ex557 hi557 hm557 => ?_)
                  refine po_some ?_
                  refine po_gI hW554 h3 rfl rfl (by decide) (fun x558x ex558 (_ : True) => ?_)
                  refine po_some ?_
                  refine po_gI hW554 (h2 i1 rfl) rfl rfl (by decide) (fun x559x ex559 (hx559 : x559x = 0 ∨ x559x = 1) => ?_)
                  refine po_w (tX0_addEscaped hW554 ⟨_, rfl, hi556⟩ ⟨_, rfl, hi557, hm557⟩) (fun y560 g560 hW560 p560 => ?_)
                  dsimp only
                  refine po_ck rfl ?_
                  exact po_ret ⟨rfl, hW560, (Or.inr rfl)⟩
                · refine po_gRm hW554 h0 rfl rfl (fun i561 ex561 hi561 hm561 => ?_)
                  refine po_some ?_
                  refine po_ck (wt_isO hW554 hi561 (by decide)) ?_
                  refine po_ro (tX5_breaksCell hW554 hi561) (fun y562 ex562 p562 => ?_)
                  dsimp only
                  refine po_eq (fun q563 => ?_) (fun q563 => ?_)
                  · refine po_gRm hW554 h0 rfl rfl (fun i564 ex564 hi564 hm564 => ?_)
                    refine po_bind ex561 ?_
                    refine po_bind ex561 ?_
                    refine po_some ?_
                    refine po_ck (wt_isO hW554 hi561 (by decide)) ?_
                    refine po_ro (tX5_size hW554 hi561) (fun y565 ex565 p565 => ?_)
                    dsimp only
                    refine po_some ?_
                    refine po_ck (wt_isO hW554 hi564 (by decide)) ?_
                    refine po_w (tX5_addPart hW554 hi564 hm564 ⟨_, rfl, hi561⟩) (fun y566 g566 hW566 p566 => ?_)
                    dsimp only
                    refine po_ck (nb_of p566) ?_
                    exact po_ret ⟨rfl, hW566, p566⟩
                  · refine po_pI hW554 h0 rfl rfl (vv_i (by decide) trivial) (fun g567 hW567 ex567 => ?_)
                    refine po_gRm hW567 h0 rfl rfl (fun i568 ex568 hi568 hm568 => ?_)
                    refine po_some ?_
                    refine po_ck (wt_isO hW567 hi568 (by decide)) ?_
                    refine po_w (tX5_add hW567 hi568 hm568) (fun y569 g569 hW569 p569 => ?_)
                    dsimp only
                    refine po_gRm hW569 h0 rfl rfl (fun i570 ex570 hi570 hm570 => ?_)
                    refine po_gRm hW569 h0 rfl rfl (fun i571 ex571 hi571 hm571 => ?_)
                    refine po_w (tX0_addEscaped hW569 ⟨_, rfl, hi570⟩ ⟨_, rfl, hi571, hm571⟩) (fun y572 g572 hW572 p572 => ?_)
                    dsimp only
                    refine po_gRm hW572 h0 rfl rfl (fun i573 ex573 hi573 hm573 => ?_)
                    refine po_some ?_
                    refine po_ck (wt_isO hW572 hi573 (by decide)) ?_
                    refine po_w (tX5_add hW572 hi573 hm573) (fun y574 g574 hW574 p574 => ?_)
                    dsimp only
                    refine po_some ?_
                    refine po_gI hW574 h3 rfl rfl (by decide) (fun x575x ex575 (_ : True) => ?_)
                    refine po_eq (fun q576 => ?_) (fun q576 => ?_)
                    · refine po_ck (nb_of (Or.inr rfl)) ?_
                      exact po_ret ⟨rfl, hW574, (Or.inr rfl)⟩
                    · refine po_ck (nb_of (Or.inl rfl)) ?_
                      exact po_ret ⟨rfl, hW574, (Or.inl rfl)⟩
              · refine po_w (tX0_addEscaped hW7 ⟨_, rfl, h1⟩ ⟨_, rfl, hi552, hm552⟩) (fun y577 g577 hW577 p577 => ?_)
                dsimp only
                refine po_eq (fun q578 => ?_) (fun q578 => ?_)
                · refine po_gRm hW577 h0 rfl rfl (fun i579 ex579 hi579 hm579 => ?_)
                  refine po_gRm hW577 h0 rfl rfl (fun i580 ex580 hi580 hm580 => ?_)
                  refine po_some ?_
                  refine po_gI hW577 h3 rfl rfl (by decide) (fun x581x ex581 (_ : True) => ?_)
                  refine po_some ?_
                  refine po_gI hW577 (h2 i1 rfl) rfl rfl (by decide) (fun x582x ex582 (hx582 : x582x = 0 ∨ x582x = 1) => ?_)
                  refine po_w (tX0_addEscaped hW577 ⟨_, rfl, hi579⟩ ⟨_, rfl, hi580, hm580⟩) (fun y583 g583 hW583 p583 => ?_)
                  dsimp only
                  refine po_ck rfl ?_
                  exact po_ret ⟨rfl, hW583, (Or.inr rfl)⟩
                · refine po_gRm hW577 h0 rfl rfl (fun i584 ex584 hi584 hm584 => ?_)
                  refine po_some ?_
                  refine po_ck (wt_isO hW577 hi584 (by decide)) ?_
                  refine po_ro (tX5_breaksCell hW577 hi584) (fun y585 ex585 p585 => ?_)
                  dsimp only
                  refine po_eq (fun q586 => ?_) (fun q586 => ?_)
                  · refine po_gRm hW577 h0 rfl rfl (fun i587 ex587 hi587 hm587 => ?_)
                    refine po_bind ex584 ?_
                    refine po_bind ex584 ?_
                    refine po_some ?_
                    refine po_ck (wt_isO hW577 hi584 (by decide)) ?_
                    refine po_ro (tX5_size hW577 hi584) (fun y588 ex588 p588 => ?_)
                    dsimp only
                    refine po_some ?_
                    refine po_ck (wt_isO hW577 hi587 (by decide)) ?_
                    refine po_w (tX5_addPart hW577 hi587 hm587 ⟨_, rfl, hi584⟩) (fun y589 g589 hW589 p589 => ?_)
                    dsimp only
                    refine po_ck (nb_of p589) ?_
                    exact po_ret ⟨rfl, hW589, p589⟩
                  · refine po_pI hW577 h0 rfl rfl (vv_i (by decide) trivial) (fun g590 hW590 ex590 => ?_)
                    refine po_gRm hW590 h0 rfl rfl (fun i591 ex591 hi591 hm591 => ?_)
                    refine po_some ?_
                    refine po_ck (wt_isO hW590 hi591 (by decide)) ?_
                    refine po_w (tX5_add hW590 hi591 hm591) (fun y592 g592 hW592 p592 => ?_)
                    dsimp only
                    refine po_gRm hW592 h0 rfl rfl (fun i593 ex593 hi593 hm593 => ?_)
                    refine po_gRm hW592 h0 rfl rfl (fun i594 ex594 hi594 hm594 => ?_)
                    refine po_w (tX0_addEscaped hW592 ⟨_, rfl, hi593⟩ ⟨_, rfl, hi594, hm594⟩) (fun y595 g595 hW595 p595 => ?_)
                    dsimp only
                    refine po_gRm hW595 h0 rfl rfl (fun i596 ex596 hi596 hm596 => ?_)
                    refine po_some ?_
                    refine po_ck (wt_isO hW595 hi596 (by decide)) ?_
                    refine po_w (tX5_add hW595 hi596 hm596) (fun y597 g597 hW597 p597 => ?_)
                    dsimp only
                    refine po_some ?_
                    refine po_gI hW597 h3 rfl rfl (by decide) (fun x598x ex598 (_ : True) => ?_)
                    refine po_eq (fun q599 => ?_) (fun q599 => ?_)
                    · refine po_ck (nb_of (Or.inr rfl)) ?_
                      exact po_ret ⟨rfl, hW597, (Or.inr rfl)⟩
                    · refine po_ck (nb_of (Or.inl rfl)) ?_
                      exact po_ret ⟨rfl, hW597, (Or.inl rfl)⟩
            · refine po_some ?_
              refine po_ck (wt_isO hW7 h1 (by decide)) ?_
              refine po_ro (tX5_breaksCell hW7 h1) (fun y600 ex600 p600 => ?_)
              dsimp only
              refine po_eq (fun q601 => ?_) (fun q601 => ?_)
              · refine po_gRm hW7 h0 rfl rfl (fun i602 ex602 hi602 hm602 => ?_)
                refine po_eq (fun q603 => ?_) (fun q603 => ?_)
                · refine po_some ?_
                  refine po_bind ex547 ?_
                  refine po_w (tX0_addEscaped hW7 ⟨_, rfl, h1⟩ ⟨_, rfl, hi602, hm602⟩) (fun y604 g604 hW604 p604 => ?_)
                  dsimp only
                  refine po_eq (fun q605 => ?_) (fun q605 => ?_)
                  · refine po_gRm hW604 h0 rfl rfl (fun i606 ex606 hi606 hm606 => ?_)
                    refine po_gRm hW604 h0 rfl rfl (fun i607 ex607 hi607 hm607 => ?_)
                    refine po_some ?_
                    refine po_gI hW604 h3 rfl rfl (by decide) (fun x608x ex608 (_ : True) => ?_)
                    refine po_some ?_
                    refine po_gI hW604 (h2 i1 rfl) rfl rfl (by decide) (fun x609x ex609 (hx609 : x609x = 0 ∨ x609x = 1) => ?_)
                    refine po_w (tX0_addEscaped hW604 ⟨_, rfl, hi606⟩ ⟨_, rfl, hi607, hm607⟩) (fun y610 g610 hW610 p610 => ?_)
                    dsimp only
                    refine po_ck rfl ?_
                    exact po_ret ⟨rfl, hW610, (Or.inr rfl)⟩
                  · refine po_gRm hW604 h0 rfl rfl (fun i611 ex611 hi611 hm611 => ?_)
                    refine po_some ?_
                    refine po_ck (wt_isO hW604 hi611 (by decide)) ?_
                    refine po_ro (tX5_breaksCell hW604 hi611) (fun y612 ex612 p612 => ?_)
                    dsimp only
                    refine po_eq (fun q613 => ?_) (fun q613 => ?_)
                    · refine po_gRm hW604 h0 rfl rfl (fun i614 ex614 hi614 hm614 => ?_)
                      refine po_bind ex611 ?_
                      refine po_bind ex611 ?_
                      refine po_some ?_
                      refine po_ck (wt_isO hW604 hi611 (by decide)) ?_
                      refine po_ro (tX5_size hW604 hi611) (fun y615 ex615 p615 => ?_)
                      dsimp only
                      refine po_some ?_
                      refine po_ck (wt_isO hW604 hi614 (by decide)) ?_
                      refine po_w (tX5_addPart hW604 hi614 hm614 ⟨_, rfl, hi611⟩) (fun y616 g616 hW616 p616 => ?_)
                      dsimp only
                      refine po_ck (nb_of p616) ?_
                      exact po_ret ⟨rfl, hW616, p616⟩
                    · refine po_pI hW604 h0 rfl rfl (vv_i (by decide) trivial) (fun g617 hW617 ex617 => ?_)
                      refine po_gRm hW617 h0 rfl rfl (fun i618 ex618 hi618 hm618 => ?_)
                      refine po_some ?_
                      refine po_ck (wt_isO hW617 hi618 (by decide)) ?_
                      refine po_w (tX5_add hW617 hi618 hm618) (fun y619 g619 hW619 p619 => ?_)
                      dsimp only
                      refine po_gRm hW619 h0 rfl rfl (fun i620 ex620 hi620 hm620 => ?_)
                      refine po_gRm hW619 h0 rfl rfl (fun i621 ex621 hi621 hm621 => ?_)
                      refine po_w (tX0_addEscaped hW619 ⟨_, rfl, hi620⟩ ⟨_, rfl, hi621, hm621⟩) (fun y622 g622 hW622 p622 => ?_)
                      dsimp only
                      refine po_gRm hW622 h0 rfl rfl (fun i623 ex623 hi623 hm623 => ?_)
                      refine po_some ?_
                      refine po_ck (wt_isO hW622 hi623 (by decide)) ?_
                      refine po_w (tX5_add hW622 hi623 hm623) (fun y624 g624 hW624 p624 => ?_)
                      dsimp only
                      refine po_some ?_
                      refine po_gI hW624 h3 rfl rfl (by decide) (fun x625x ex625 (_ : True) => ?_)
                      refine po_eq (fun q626 => ?_) (fun q626 => ?_)
                      · refine po_ck (nb_of (Or.inr rfl)) ?_
                        exact po_ret ⟨rfl, hW624, (Or.inr rfl)⟩
                      · refine po_ck (nb_of (Or.inl rfl)) ?_
                        exact po_ret ⟨rfl, hW624, (Or.inl rfl)⟩
                · refine po_w (tX0_addEscaped hW7 ⟨_, rfl, h1⟩ ⟨_, rfl, hi602, hm602⟩) (fun y627 g627 hW627 p627 => ?_)
                  dsimp only
                  refine po_eq (fun q628 => ?_) (fun q628 => ?_)
                  · refine po_gRm hW627 h0 rfl rfl (fun i629 ex629 hi629 hm629 => ?_)
                    refine po_gRm hW627 h0 rfl rfl (fun i630 ex630 hi630 hm630 => ?_)
                    refine po_some ?_
                    refine po_gI hW627 h3 rfl rfl (by decide) (fun x631x ex631 (_ : True) => ?_)
                    refine po_some ?_
                    refine po_gI hW627 (h2 i1 rfl) rfl rfl (by decide) (fun x632x ex632 (hx632 : x632x = 0 ∨ x632x = 1) => ?_)
                    refine po_w (tX0_addEscaped hW627 ⟨_, rfl, hi629⟩ ⟨_, rfl, hi630, hm630⟩) (fun y633 g633 hW633 p633 => ?_)
                    dsimp only
                    refine po_ck rfl ?_
                    exact po_ret ⟨rfl, hW633, (Or.inr rfl)⟩
                  · refine po_gRm hW627 h0 rfl rfl (fun i634 ex634 hi634 hm634 => ?_)
                    refine po_some ?_
                    refine po_ck (wt_isO hW627 hi634 (by decide)) ?_
                    refine po_ro (tX5_breaksCell hW627 hi634) (fun y635 ex635 p635 => ?_)
                    dsimp only
                    refine po_eq (fun q636 => ?_) (fun q636 => ?_)
                    · refine po_gRm hW627 h0 rfl rfl (fun i637 ex637 hi637 hm637 => ?_)
                      refine po_bind ex634 ?_
                      refine po_bind ex634 ?_
                      refine po_some ?_
                      refine po_ck (wt_isO hW627 hi634 (by decide)) ?_
                      refine po_ro (tX5_size hW627 hi634) (fun y638 ex638 p638 => ?_)
                      dsimp only
                      refine po_some ?_
                      refine po_ck (wt_isO hW627 hi637 (by decide)) ?_
                      refine po_w (tX5_addPart hW627 hi637 hm637 ⟨_, rfl, hi634⟩) (fun y639 g639 hW639 p639 => ?_)
                      dsimp only
                      refine po_ck (nb_of p639) ?_
                      exact po_ret ⟨rfl, hW639, p639⟩
                    · refine po_pI hW627 h0 rfl rfl (vv_i (by decide) trivial) (fun g640 hW640 ex640 => ?_)
                      refine po_gRm hW640 h0 rfl rfl (fun i641 ex641 hi641 hm641 => ?_)
                      refine po_some ?_
                      refine po_ck (wt_isO hW640 hi641 (by decide)) ?_
                      refine po_w (tX5_add hW640 hi641 hm641) (fun y642 g642 hW642 p642 => ?_)
                      dsimp only
                      refine po_gRm hW642 h0 rfl rfl (fun i643 ex643 hi643 hm643 => ?_)
                      refine po_gRm hW642 h0 rfl rfl (fun i644 ex644 hi644 hm644 => ?_)
                      refine po_w (tX0_addEscaped hW642 ⟨_, rfl, hi643⟩ ⟨_, rfl, hi644, hm644⟩) (fun y645 g645 hW645 p645 => ?_)
                      dsimp only
                      refine po_gRm hW645 h0 rfl rfl (fun i646 ex646 hi646 hm646 => ?_)
                      refine po_some ?_
                      refine po_ck (wt_isO hW645 hi646 (by decide)) ?_
                      refine po_w (tX5_add hW645 hi646 hm646) (fun y647 g647 hW647 p647 => ?_)
                      dsimp only
                      refine po_some ?_
                      refine po_gI hW647 h3 rfl rfl (by decide) (fun x648x ex648 (_ : True) => ?_)
                      refine po_eq (fun q649 => ?_) (fun q649 => ?_)
                      · refine po_ck (nb_of (Or.inr rfl)) ?_
                        exact po_ret ⟨rfl, hW647, (Or.inr rfl)⟩
                      · refine po_ck (nb_of (Or.inl rfl)) ?_
                        exact po_ret ⟨rfl, hW647, (Or.inl rfl)⟩
              · refine po_gRm hW7 h0 rfl rfl (fun i650 ex650 hi650 hm650 => ?_)
                refine po_some ?_
                refine po_ck (wt_isO hW7 hi650 (by decide)) ?_
                refine po_w (tX5_add hW7 hi650 hm650) (fun y651 g651 hW651 p651 => ?_)
                dsimp only
                refine po_gRm hW651 h0 rfl rfl (fun i652 ex652 hi652 hm652 => ?_)
                refine po_w (tX0_addEscaped hW651 ⟨_, rfl, h1⟩ ⟨_, rfl, hi652, hm652⟩) (fun y653 g653 hW653 p653 => ?_)
                dsimp only
                refine po_gRm hW653 h0 rfl rfl (fun i654 ex654 hi654 hm654 => ?_)
                refine po_some ?_
                refine po_ck (wt_isO hW653 hi654 (by decide)) ?_
                refine po_w (tX5_add hW653 hi654 hm654) (fun y655 g655 hW655 p655 => ?_)
                dsimp only
                refine po_some ?_
                refine po_gI hW655 h3 rfl rfl (by decide) (fun x656x ex656 (_ : True) => ?_)
                refine po_eq (fun q657 => ?_) (fun q657 => ?_)
                · refine po_pI hW655 h0 rfl rfl (vv_i (by decide) trivial) (fun g658 hW658 ex658 => ?_)
                  refine po_eq (fun q659 => ?_) (fun q659 => ?_)
                  · refine po_gRm hW658 h0 rfl rfl (fun i660 ex660 hi660 hm660 => ?_)
                    refine po_gRm hW658 h0 rfl rfl (fun i661 ex661 hi661 hm661 => ?_)
                    refine po_some ?_
                    refine po_gI hW658 h3 rfl rfl (by decide) (fun x662x ex662 (_ : True) => ?_)
                    refine po_some ?_
                    refine po_gI hW658 (h2 i1 rfl) rfl rfl (by decide) (fun x663x ex663 (hx663 : x663x = 0 ∨ x663x = 1) => ?_)
                    refine po_w (tX0_addEscaped hW658 ⟨_, rfl, hi660⟩ ⟨_, rfl, hi661, hm661⟩) (fun y664 g664 hW664 p664 => ?_)
                    dsimp only
                    refine po_ck rfl ?_
                    exact po_ret ⟨rfl, hW664, (Or.inr rfl)⟩
                  · refine po_gRm hW658 h0 rfl rfl (fun i665 ex665 hi665 hm665 => ?_)
                    refine po_some ?_
                    refine po_ck (wt_isO hW658 hi665 (by decide)) ?_
                    refine po_ro (tX5_breaksCell hW658 hi665) (fun y666 ex666 p666 => ?_)
                    dsimp only
                    refine po_eq (fun q667 => ?_) (fun q667 => ?_)
                    · refine po_gRm hW658 h0 rfl rfl (fun i668 ex668 hi668 hm668 => ?_)
                      refine po_bind ex665 ?_
                      refine po_bind ex665 ?_
                      refine po_some ?_
                      refine po_ck (wt_isO hW658 hi665 (by decide)) ?_
                      refine po_ro (tX5_size hW658 hi665) (fun y669 ex669 p669 => ?_)
                      dsimp only
                      refine po_some ?_
                      refine po_ck (wt_isO hW658 hi668 (by decide)) ?_
                      refine po_w (tX5_addPart hW658 hi668 hm668 ⟨_, rfl, hi665⟩) (fun y670 g670 hW670 p670 => ?_)
                      dsimp only
                      refine po_ck (nb_of p670) ?_
                      exact po_ret ⟨rfl, hW670, p670⟩
                    · refine po_pI hW658 h0 rfl rfl (vv_i (by decide) trivial) (fun g671 hW671 ex671 => ?_)
                      refine po_gRm hW671 h0 rfl rfl (fun i672 ex672 hi672 hm672 => ?_)
                      refine po_some ?_
                      refine po_ck (wt_isO hW671 hi672 (by decide)) ?_
                      refine po_w (tX5_add hW671 hi672 hm672) (fun y673 g673 hW673 p673 => ?_)
                      dsimp only
                      refine po_gRm hW673 h0 rfl rfl (fun i674 ex674 hi674 hm674 => ?_)
                      refine po_gRm hW673 h0 rfl rfl (fun i675 ex675 hi675 hm675 => ?_)
                      refine po_w (tX0_addEscaped hW673 ⟨_, rfl, hi674⟩ ⟨_, rfl, hi675, hm675⟩) (fun y676 g676 hW676 p676 => ?_)
                      dsimp only
                      refine po_gRm hW676 h0 rfl rfl (fun i677 ex677 hi677 hm677 => ?_)
                      refine po_some ?_
                      refine po_ck (wt_isO hW676 hi677 (by decide)) ?_
                      refine po_w (tX5_add hW676 hi677 hm677) (fun y678 g678 hW678 p678 => ?_)
                      dsimp only
                      refine po_some ?_
                      refine po_gI hW678 h3 rfl rfl (by decide) (fun x679x ex679 (_ : True) => ?_)
                      refine po_eq (fun q680 => ?_) (fun q680 => ?_)
                      · refine po_ck (nb_of (Or.inr rfl)) ?_
                        exact po_ret ⟨rfl, hW678, (Or.inr rfl)⟩
                      · refine po_ck (nb_of (Or.inl rfl)) ?_
                        exact po_ret ⟨rfl, hW678, (Or.inl rfl)⟩
                · refine po_bind ex656 ?_
                  refine po_eq (fun q681 => ?_) (fun q681 => ?_)
                  · refine po_pI hW655 h0 rfl rfl (vv_i (by decide) trivial) (fun g682 hW682 ex682 => ?_)
                    refine po_eq (fun q683 => ?_) (fun q683 => ?_)
                    · refine po_gRm hW682 h0 rfl rfl (fun i684 ex684 hi684 hm684 => ?_)
                      refine po_gRm hW682 h0 rfl rfl (fun i685 ex685 hi685 hm685 => ?_)
                      refine po_some ?_
                      refine po_gI hW682 h3 rfl rfl (by decide) (fun x686x ex686 (_ : True) => ?_)
                      refine po_some ?_
                      refine po_gI hW682 (h2 i1 rfl) rfl rfl (by decide) (fun x687x ex687 (hx687 : x687x = 0 ∨ x687x = 1) => ?_)
                      refine po_w (tX0_addEscaped hW682 ⟨_, rfl, hi684⟩ ⟨_, rfl, hi685, hm685⟩) (fun y688 g688 hW688 p688 => ?_)
                      dsimp only
                      refine po_ck rfl ?_
                      exact po_ret ⟨rfl, hW688, (Or.inr rfl)⟩
                    · refine po_gRm hW682 h0 rfl rfl (fun i689 ex689 hi689 hm689 => ?_)
                      refine po_some ?_
                      refine po_ck (wt_isO hW682 hi689 (by decide)) ?_
                      refine po_ro (tX5_breaksCell hW682 hi689) (fun y690 ex690 p690 => ?_)
                      dsimp only
                      refine po_eq (fun q691 => ?_) (fun q691 => ?_)
                      · refine po_gRm hW682 h0 rfl rfl (fun i692 ex692 hi692 hm692 => ?_)
                        refine po_bind ex689 ?_
                        refine po_bind ex689 ?_
                        refine po_some ?_
                        refine po_ck (wt_isO hW682 hi689 (by decide)) ?_
                        refine po_ro (tX5_size hW682 hi689) (fun y693 ex693 p693 => ?_)
                        dsimp only
                        refine po_some ?_
                        refine po_ck (wt_isO hW682 hi692 (by decide)) ?_
                        refine po_w (tX5_addPart hW682 hi692 hm692 ⟨_, rfl, hi689⟩) (fun y694 g694 hW694 p694 => ?_)
                        dsimp only
                        refine po_ck (nb_of p694) ?_
                        exact po_ret ⟨rfl, hW694, p694⟩
                      · refine po_pI hW682 h0 rfl rfl (vv_i (by decide) trivial) (fun g695 hW695 ex695 => ?_)
                        refine po_gRm hW695 h0 rfl rfl (fun i696 ex696 hi696 hm696 => ?_)
                        refine po_some ?_
                        refine po_ck (wt_isO hW695 hi696 (by decide)) ?_
                        refine po_w (tX5_add hW695 hi696 hm696) (fun y697 g697 hW697 p697 => ?_)
                        dsimp only
                        refine po_gRm hW697 h0 rfl rfl (fun i698 ex698 hi698 hm698 => ?_)
                        refine po_gRm hW697 h0 rfl rfl (fun i699 ex699 hi699 hm699 => ?_)
                        refine po_w (tX0_addEscaped hW697 ⟨_, rfl, hi698⟩ ⟨_, rfl, hi699, hm699⟩) (fun y700 g700 hW700 p700 => ?_)
                        dsimp only
                        refine po_gRm hW700 h0 rfl rfl (fun i701 ex701 hi701 hm701 => ?_)
                        refine po_some ?_
                        refine po_ck (wt_isO hW700 hi701 (by decide)) ?_
                        refine po_w (tX5_add hW700 hi701 hm701) (fun y702 g702 hW702 p702 => ?_)
                        dsimp only
                        refine po_some ?_
                        refine po_gI hW702 h3 rfl rfl (by decide) (fun x703x ex703 (_ : True) => ?_)
                        refine po_eq (fun q704 => ?_) (fun q704 => ?_)
                        · refine po_ck (nb_of (Or.inr rfl)) ?_
                          exact po_ret ⟨rfl, hW702, (Or.inr rfl)⟩
                        · refine po_ck (nb_of (Or.inl rfl)) ?_
                          exact po_ret ⟨rfl, hW702, (Or.inl rfl)⟩
                  · refine po_pI hW655 h0 rfl rfl (vv_i (by decide) trivial) (fun g705 hW705 ex705 => ?_)
                    refine po_eq (fun q706 => ?_) (fun q706 => ?_)
                    · refine po_gRm hW705 h0 rfl rfl (fun i707 ex707 hi707 hm707 => ?_)
                      refine po_gRm hW705 h0 rfl rfl (fun i708 ex708 hi708 hm708 => ?_)
                      refine po_some ?_
                      refine po_gI hW705 h3 rfl rfl (by decide) (fun x709x ex709 (_ : True) => ?_)
                      refine po_some ?_
                      refine po_gI hW705 (h2 i1 rfl) rfl rfl (by decide) (fun x710x ex710 (hx710 : x710x = 0 ∨ x710x = 1) => ?_)
                      refine po_w (tX0_addEscaped hW705 ⟨_, rfl, hi707⟩ ⟨_, rfl, hi708, hm708⟩) (fun y711 g711 hW711 p711 => ?_)
                      dsimp only
                      refine po_ck rfl ?_
                      exact po_ret ⟨rfl, hW711, (Or.inr rfl)⟩
                    · refine po_gRm hW705 h0 rfl rfl (fun i712 ex712 hi712 hm712 => ?_)
                      refine po_some ?_
                      refine po_ck (wt_isO hW705 hi712 (by decide)) ?_
                      refine po_ro (tX5_breaksCell hW705 hi712) (fun y713 ex713 p713 => ?_)
                      dsimp only
                      refine po_eq (fun q714 => ?_) (fun q714 => ?_)
                      · refine po_gRm hW705 h0 rfl rfl (fun i715 ex715 hi715 hm715 => ?_)
                        refine po_bind ex712 ?_
                        refine po_bind ex712 ?_
                        refine po_some ?_
                        refine po_ck (wt_isO hW705 hi712 (by decide)) ?_
                        refine po_ro (tX5_size hW705 hi712) (fun y716 ex716 p716 => ?_)
                        dsimp only
                        refine po_some ?_
                        refine po_ck (wt_isO hW705 hi715 (by decide)) ?_
                        refine po_w (tX5_addPart hW705 hi715 hm715 ⟨_, rfl, hi712⟩) (fun y717 g717 hW717 p717 => ?_)
                        dsimp only
                        refine po_ck (nb_of p717) ?_
                        exact po_ret ⟨rfl, hW717, p717⟩
                      · refine po_pI hW705 h0 rfl rfl (vv_i (by decide) trivial) (fun g718 hW718 ex718 => ?_)
                        refine po_gRm hW718 h0 rfl rfl (fun i719 ex719 hi719 hm719 => ?_)
                        refine po_some ?_
                        refine po_ck (wt_isO hW718 hi719 (by decide)) ?_
                        refine po_w (tX5_add hW718 hi719 hm719) (fun y720 g720 hW720 p720 => ?_)
                        dsimp only
                        refine po_gRm hW720 h0 rfl rfl (fun i721 ex721 hi721 hm721 => ?_)
                        refine po_gRm hW720 h0 rfl rfl (fun i722 ex722 hi722 hm722 => ?_)
                        refine po_w (tX0_addEscaped hW720 ⟨_, rfl, hi721⟩ ⟨_, rfl, hi722, hm722⟩) (fun y723 g723 hW723 p723 => ?_)
                        dsimp only
                        refine po_gRm hW723 h0 rfl rfl (fun i724 ex724 hi724 hm724 => ?_)
                        refine po_some ?_
                        refine po_ck (wt_isO hW723 hi724 (by decide)) ?_
                        refine po_w (tX5_add hW723 hi724 hm724) (fun y725 g725 hW725 p725 => ?_)
                        dsimp only
                        refine po_some ?_
                        refine po_gI hW725 h3 rfl rfl (by decide) (fun x726x ex726 (_ : True) => ?_)
                        refine po_eq (fun q727 => ?_) (fun q727 => ?_)
                        · refine po_ck (nb_of (Or.inr rfl)) ?_
                          exact po_ret ⟨rfl, hW725, (Or.inr rfl)⟩
                        · refine po_ck (nb_of (Or.inl rfl)) ?_
                          exact po_ret ⟨rfl, hW725, (Or.inl rfl)⟩
          · refine po_eq (fun q728 => ?_) (fun q728 => ?_)
            · refine po_gRm hW7 h0 rfl rfl (fun i729 ex729 hi729 hm729 => ?_)
              refine po_eq (fun q730 => ?_) (fun q730 => ?_)
              · refine po_some ?_
                refine po_bind ex547 ?_
                refine po_w (tX0_addEscaped hW7 ⟨_, rfl, h1⟩ ⟨_, rfl, hi729, hm729⟩) (fun y731 g731 hW731 p731 => ?_)
                dsimp only
                refine po_eq (fun q732 => ?_) (fun q732 => ?_)
                · refine po_gRm hW731 h0 rfl rfl (fun i733 ex733 hi733 hm733 => ?_)
                  refine po_gRm hW731 h0 rfl rfl (fun i734 ex734 hi734 hm734 => ?_)
                  refine po_some ?_
                  refine po_gI hW731 h3 rfl rfl (by decide) (fun x735x ex735 (_ : True) => ?_)
                  refine po_some ?_
                  refine po_gI hW731 (h2 i1 rfl) rfl rfl (by decide) (fun x736x ex736 (hx736 : x736x = 0 ∨ x736x = 1) => ?_)
                  refine po_w (tX0_addEscaped hW731 ⟨_, rfl, hi733⟩ ⟨_, rfl, hi734, hm734⟩) (fun y737 g737 hW737 p737 => ?_)
                  dsimp only
                  refine po_ck rfl ?_
                  exact po_ret ⟨rfl, hW737, (Or.inr rfl)⟩
                · refine po_gRm hW731 h0 rfl rfl (fun i738 ex738 hi738 hm738 => ?_)
                  refine po_some ?_
                  refine po_ck (wt_isO hW731 hi738 (by decide)) ?_
                  refine po_ro (tX5_breaksCell hW731 hi738) (fun y739 ex739 p739 => ?_)
                  dsimp only
                  refine po_eq (fun q740 => ?_) (fun q740 => ?_)
                  · refine po_gRm hW731 h0 rfl rfl (fun i741 ex741 hi741 hm741 => ?_)
                    refine po_bind ex738 ?_
                    refine po_bind ex738 ?_
                    refine po_some ?_
                    refine po_ck (wt_isO hW731 hi738 (by decide)) ?_
                    refine po_ro (tX5_size hW731 hi738) (fun y742 ex742 p742 => ?_)
                    dsimp only
                    refine po_some ?_
                    refine po_ck (wt_isO hW731 hi741 (by decide)) ?_
                    refine po_w (tX5_addPart hW731 hi741 hm741 ⟨_, rfl, hi738⟩) (fun y743 g743 hW743 p743 => ?_)
                    dsimp only
                    refine po_ck (nb_of p743) ?_
                    exact po_ret ⟨rfl, hW743, p743⟩
                  · refine po_pI hW731 h0 rfl rfl (vv_i (by decide) trivial) (fun g744 hW744 ex744 => ?_)
                    refine po_gRm hW744 h0 rfl rfl (fun i745 ex745 hi745 hm745 => ?_)
                    refine po_some ?_
                    refine po_ck (wt_isO hW744 hi745 (by decide)) ?_
                    refine po_w (tX5_add hW744 hi745 hm745) (fun y746 g746 hW746 p746 => ?_)
                    dsimp only
                    refine po_gRm hW746 h0 rfl rfl (fun i747 ex747 hi747 hm747 => ?_)
                    refine po_gRm hW746 h0 rfl rfl (fun i748 ex748 hi748 hm748 => ?_)
                    refine po_w (tX0_addEscaped hW746 ⟨_, rfl, hi747⟩ ⟨_, rfl, hi748, hm748⟩) (fun y749 g749 hW749 p749 => ?_)
                    dsimp only
                    refine po_gRm hW749 h0 rfl rfl (fun i750 ex750 hi750 hm750 => ?_)
                    refine po_some ?_
                    refine po_ck (wt_isO hW749 hi750 (by decide)) ?_
                    refine po_w (tX5_add hW749 hi750 hm750) (fun y751 g751 hW751 p751 => ?_)
                    dsimp only
                    refine po_some ?_
                    refine po_gI hW751 h3 rfl rfl (by decide) (fun x752x ex752 (_ : True) => ?_)
                    refine po_eq (fun q753 => ?_) (fun q753 => ?_)
                    · refine po_ck (nb_of (Or.inr rfl)) ?_
                      exact po_ret ⟨rfl, hW751, (Or.inr rfl)⟩
                    · refine po_ck (nb_of (Or.inl rfl)) ?_
                      exact po_ret ⟨rfl, hW751, (Or.inl rfl)⟩
              · refine po_w (tX0_addEscaped hW7 ⟨_, rfl, h1⟩ ⟨_, rfl, hi729, hm729⟩) (fun y754 g754 hW754 p754 => ?_)
                dsimp only
                refine po_eq (fun q755 => ?_) (fun q755 => ?_)
                · refine po_gRm hW754 h0 rfl rfl (fun i756 ex756 hi756 hm756 => ?_)
                  refine po_gRm hW754 h0 rfl rfl (fun i757 ex757 hi757 hm757 => ?_)
                  refine po_some ?_
                  refine po_gI hW754 h3 rfl rfl (by decide) (fun x758x ex758 (_ : True) => ?_)
                  refine po_some ?_
                  refine po_gI hW754 (h2 i1 rfl) rfl rfl (by decide) (fun x759x ex759 (hx759 : x759x = 0 ∨ x759x = 1) => ?_)
                  refine po_w (tX0_addEscaped hW754 ⟨_, rfl, hi756⟩ ⟨_, rfl, hi757, hm757⟩) (fun y760 g760 hW760 p760 => ?_)
                  dsimp only
                  refine po_ck rfl ?_
                  exact po_ret ⟨rfl, hW760, (Or.inr rfl)⟩
                · refine po_gRm hW754 h0 rfl rfl (fun i761 ex761 hi761 hm761 => ?_)
                  refine po_some ?_
                  refine po_ck (wt_isO hW754 hi761 (by decide)) ?_
                  refine po_ro (tX5_breaksCell hW754 hi761) (fun y762 ex762 p762 => ?_)
                  dsimp only
                  refine po_eq (fun q763 => ?_) (fun q763 => ?_)
                  · refine po_gRm hW754 h0 rfl rfl (fun i764 ex764 hi764 hm764 => ?_)
                    refine po_bind ex761 ?_
                    refine po_bind ex761 ?_
                    refine po_some ?_
                    refine po_ck (wt_isO hW754 hi761 (by decide)) ?_
                    refine po_ro (tX5_size hW754 hi761) (fun y765 ex765 p765 => ?_)
                    dsimp only
                    refine po_some ?_
                    refine po_ck (wt_isO hW754 hi764 (by decide)) ?_
                    refine po_w (tX5_addPart hW754 hi764 hm764 ⟨_, rfl, hi761⟩) (fun y766 g766 hW766 p766 => ?_)
                    dsimp only
                    refine po_ck (nb_of p766) ?_
                    exact po_ret ⟨rfl, hW766, p766⟩
                  · refine po_pI hW754 h0 rfl rfl (vv_i (by decide) trivial) (fun g767 hW767 ex767 => ?_)
                    refine po_gRm hW767 h0 rfl rfl (fun i768 ex768 hi768 hm768 => ?_)
                    refine po_some ?_
                    refine po_ck (wt_isO hW767 hi768 (by decide)) ?_
                    refine po_w (tX5_add hW767 hi768 hm768) (fun y769 g769 hW769 p769 => ?_)
                    dsimp only
                    refine po_gRm hW769 h0 rfl rfl (fun i770 ex770 hi770 hm770 => ?_)
                    refine po_gRm hW769 h0 rfl rfl (fun i771 ex771 hi771 hm771 => ?_)
                    refine po_w (tX0_addEscaped hW769 ⟨_, rfl, hi770⟩ ⟨_, rfl, hi771, hm771⟩) (fun y772 g772 hW772 p772 => ?_)
                    dsimp only
                    refine po_gRm hW772 h0 rfl rfl (fun i773 ex773 hi773 hm773 => ?_)
                    refine po_some ?_
                    refine po_ck (wt_isO hW772 hi773 (by decide)) ?_
                    refine po_w (tX5_add hW772 hi773 hm773) (fun y774 g774 hW774 p774 => ?_)
                    dsimp only
                    refine po_some ?_
                    refine po_gI hW774 h3 rfl rfl (by decide) (fun x775x ex775 (_ : True) => ?_)
                    refine po_eq (fun q776 => ?_) (fun q776 => ?_)
                    · refine po_ck (nb_of (Or.inr rfl)) ?_
                      exact po_ret ⟨rfl, hW774, (Or.inr rfl)⟩
                    · refine po_ck (nb_of (Or.inl rfl)) ?_
                      exact po_ret ⟨rfl, hW774, (Or.inl rfl)⟩
            · refine po_some ?_
              refine po_ck (wt_isO hW7 h1 (by decide)) ?_
              refine po_ro (tX5_breaksCell hW7 h1) (fun y777 ex777 p777 => ?_)
              dsimp only
              refine po_eq (fun q778 => ?_) (fun q778 => ?_)
              · refine po_gRm hW7 h0 rfl rfl (fun i779 ex779 hi779 hm779 => ?_)
                refine po_eq (fun q780 => ?_) (fun q780 => ?_)
                · refine po_some ?_
                  refine po_bind ex547 ?_
                  refine po_w (tX0_addEscaped hW7 ⟨_, rfl, h1⟩ ⟨_, rfl, hi779, hm779⟩) (fun y781 g781 hW781 p781 => ?_)
                  dsimp only
                  refine po_eq (fun q782 => ?_) (fun q782 => ?_)
                  · refine po_gRm hW781 h0 rfl rfl (fun i783 ex783 hi783 hm783 => ?_)
                    refine po_gRm hW781 h0 rfl rfl (fun i784 ex784 hi784 hm784 => ?_)
                    refine po_some ?_
                    refine po_gI hW781 h3 rfl rfl (by decide) (fun x785x ex785 (_ : True) => ?_)
                    refine po_some ?_
                    refine po_gI hW781 (h2 i1 rfl) rfl rfl (by decide) (fun x786x ex786 (hx786 : x786x = 0 ∨ x786x = 1) => ?_)
                    refine po_w (tX0_addEscaped hW781 ⟨_, rfl, hi783⟩ ⟨_, rfl, hi784, hm784⟩) (fun y787 g787 hW787 p787 => ?_)
                    dsimp only
                    refine po_ck rfl ?_
                    exact po_ret ⟨rfl, hW787, (Or.inr rfl)⟩
                  · refine po_gRm hW781 h0 rfl rfl (fun i788 ex788 hi788 hm788 => ?_)
                    refine po_some ?_
                    refine po_ck (wt_isO hW781 hi788 (by decide)) ?_
                    refine po_ro (tX5_breaksCell hW781 hi788) (fun y789 ex789 p789 => ?_)
                    dsimp only
                    refine po_eq (fun q790 => ?_) (fun q790 => ?_)
                    · refine po_gRm hW781 h0 rfl rfl (fun i791 ex791 hi791 hm791 => ?_)
                      refine po_bind ex788 ?_
                      refine po_bind ex788 ?_
                      refine po_some ?_
                      refine po_ck (wt_isO hW781 hi788 (by decide)) ?_
                      refine po_ro (tX5_size hW781 hi788) (fun y792 ex792 p792 => ?_)
                      dsimp only
                      refine po_some ?_
                      refine po_ck (wt_isO hW781 hi791 (by decide)) ?_
                      refine po_w (tX5_addPart hW781 hi791 hm791 ⟨_, rfl, hi788⟩) (fun y793 g793 hW793 p793 => ?_)
                      dsimp only
                      refine po_ck (nb_of p793) ?_
                      exact po_ret ⟨rfl, hW793, p793⟩
                    · refine po_pI hW781 h0 rfl rfl (vv_i (by decide) trivial) (fun g794 hW794 ex794 => ?_)
                      refine po_gRm hW794 h0 rfl rfl (fun i795 ex795 hi795 hm795 => ?_)
                      refine po_some ?_
                      refine po_ck (wt_isO hW794 hi795 (by decide)) ?_
                      refine po_w (tX5_add hW794 hi795 hm795) (fun y796 g796 hW796 p796 => ?_)
                      dsimp only
                      refine po_gRm hW796 h0 rfl rfl (fun i797 ex797 hi797 hm797 => ?_)
                      refine po_gRm hW796 h0 rfl rfl (fun i798 ex798 hi798 hm798 => ?_)
                      refine po_w (tX0_addEscaped hW796 ⟨_, rfl, hi797⟩ ⟨_, rfl, hi798, hm798⟩) (fun y799 g799 hW799 p799 => ?_)
                      dsimp only
                      refine po_gRm hW799 h0 rfl rfl (fun i800 ex800 hi800 hm800 => ?_)
                      refine po_some ?_
                      refine po_ck (wt_isO hW799 hi800 (by decide)) ?_
                      refine po_w (tX5_add hW799 hi800 hm800) (fun y801 g801 hW801 p801 => ?_)
                      dsimp only
                      refine po_some ?_
                      refine po_gI hW801 h3 rfl rfl (by decide) (fun x802x ex802 (_ : True) => ?_)
                      refine po_eq (fun q803 => ?_) (fun q803 => ?_)
                      · refine po_ck (nb_of (Or.inr rfl)) ?_
                        exact po_ret ⟨rfl, hW801, (Or.inr rfl)⟩
                      · refine po_ck (nb_of (Or.inl rfl)) ?_
                        exact po_ret ⟨rfl, hW801, (Or.inl rfl)⟩
                · refine po_w (tX0_addEscaped hW7 ⟨_, rfl, h1⟩ ⟨_, rfl, hi779, hm779⟩) (fun y804 g804 hW804 p804 => ?_)
                  dsimp only
                  refine po_eq (fun q805 => ?_) (fun q805 => ?_)
                  · refine po_gRm hW804 h0 rfl rfl (fun i806 ex806 hi806 hm806 => ?_)
                    refine po_gRm hW804 h0 rfl rfl (fun i807 ex807 hi807 hm807 => ?_)
                    refine po_some ?_
                    refine po_gI hW804 h3 rfl rfl (by decide) (fun x808x ex808 (_ : True) => ?_)
                    refine po_some ?_
                    refine po_gI hW804 (h2 i1 rfl) rfl rfl (by decide) (fun x809x ex809 (hx809 : x809x = 0 ∨ x809x = 1) => ?_)
                    refine po_w (tX0_addEscaped hW804 ⟨_, rfl, hi806⟩ ⟨_, rfl, hi807, hm807⟩) (fun y810 g810 hW810 p810 => ?_)
                    dsimp only
                    refine po_ck rfl ?_
                    exact po_ret ⟨rfl, hW810, (Or.inr rfl)⟩
                  · refine po_gRm hW804 h0 rfl rfl (fun i811 ex811 hi811 hm811 => ?_)
                    refine po_some ?_
                    refine po_ck (wt_isO hW804 hi811 (by decide)) ?_
                    refine po_ro (tX5_breaksCell hW804 hi811) (fun y812 ex812 p812 => ?_)
                    dsimp only
                    refine po_eq (fun q813 => ?_) (fun q813 => ?_)
                    · refine po_gRm hW804 h0 rfl rfl (fun i814 ex814 hi814 hm814 => ?_)
                      refine po_bind ex811 ?_
                      refine po_bind ex811 ?_
                      refine po_some ?_
                      refine po_ck (wt_isO hW804 hi811 (by decide)) ?_
                      refine po_ro (tX5_size hW804 hi811) (fun y815 ex815 p815 => ?_)
                      dsimp only
                      refine po_some ?_
                      refine po_ck (wt_isO hW804 hi814 (by decide)) ?_
                      refine po_w (tX5_addPart hW804 hi814 hm814 ⟨_, rfl, hi811⟩) (fun y816 g816 hW816 p816 => ?_)
                      dsimp only
                      refine po_ck (nb_of p816) ?_
                      exact po_ret ⟨rfl, hW816, p816⟩
                    · refine po_pI hW804 h0 rfl rfl (vv_i (by decide) trivial) (fun g817 hW817 ex817 => ?_)
                      refine po_gRm hW817 h0 rfl rfl (fun i818 ex818 hi818 hm818 => ?_)
                      refine po_some ?_
                      refine po_ck (wt_isO hW817 hi818 (by decide)) ?_
                      refine po_w (tX5_add hW817 hi818 hm818) (fun y819 g819 hW819 p819 => ?_)
                      dsimp only
                      refine po_gRm hW819 h0 rfl rfl (fun i820 ex820 hi820 hm820 => ?_)
                      refine po_gRm hW819 h0 rfl rfl (fun i821 ex821 hi821 hm821 => ?_)
                      refine po_w (tX0_addEscaped hW819 ⟨_, rfl, hi820⟩ ⟨_, rfl, hi821, hm821⟩) (fun y822 g822 hW822 p822 => ?_)
                      dsimp only
                      refine po_gRm hW822 h0 rfl rfl (fun i823 ex823 hi823 hm823 => ?_)
                      refine po_some ?_
                      refine po_ck (wt_isO hW822 hi823 (by decide)) ?_
                      refine po_w (tX5_add hW822 hi823 hm823) (fun y824 g824 hW824 p824 => ?_)
                      dsimp only
                      refine po_some ?_
                      refine po_gI hW824 h3 rfl rfl (by decide) (fun x825x ex825 (_ : True) => ?_)
                      refine po_eq (fun q826 => ?_) (fun q826 => ?_)
                      · refine po_ck (nb_of (Or.inr rfl)) ?_
                        exact po_ret ⟨rfl, hW824, (Or.inr rfl)⟩
                      · refine po_ck (nb_of (Or.inl rfl)) ?_
                        exact po_ret ⟨rfl, hW824, (Or.inl rfl)⟩
              · refine po_gRm hW7 h0 rfl rfl (fun i827 ex827 hi827 hm827 => ?_)
                refine po_some ?_
                refine po_ck (wt_isO hW7 hi827 (by decide)) ?_
                refine po_w (tX5_add hW7 hi827 hm827) (fun y828 g828 hW828 p828 => ?_)
                dsimp only
                refine po_gRm hW828 h0 rfl rfl (fun i829 ex829 hi829 hm829 => ?_)
                refine po_w (tX0_addEscaped hW828 ⟨_, rfl, h1⟩ ⟨_, rfl, hi829, hm829⟩) (fun y830 g830 hW830 p830 => ?_)
                dsimp only
                refine po_gRm hW830 h0 rfl rfl (fun i831 ex831 hi831 hm831 => ?_)
                refine po_some ?_
                refine po_ck (wt_isO hW830 hi831 (by decide)) ?_
                refine po_w (tX5_add hW830 hi831 hm831) (fun y832 g832 hW832 p832 => ?_)
                dsimp only
                refine po_some ?_
                refine po_gI hW832 h3 rfl rfl (by decide) (fun x833x ex833 (_ : True) => ?_)
                refine po_eq (fun q834 => ?_) (fun q834 => ?_)
                · refine po_pI hW832 h0 rfl rfl (vv_i (by decide) trivial) (fun g835 hW835 ex835 => ?_)
                  refine po_eq (fun q836 => ?_) (fun q836 => ?_)
                  · refine po_gRm hW835 h0 rfl rfl (fun i837 ex837 hi837 hm837 => ?_)
                    refine po_gRm hW835 h0 rfl rfl (fun i838 ex838 hi838 hm838 => ?_)
                    refine po_some ?_
                    refine po_gI hW835 h3 rfl rfl (by decide) (fun x839x ex839 (_ : True) => ?_)
                    refine po_some ?_
                    refine po_gI hW835 (h2 i1 rfl) rfl rfl (by decide) (fun x840x ex840 (hx840 : x840x = 0 ∨ x840x = 1) => ?_)
                    refine po_w (tX0_addEscaped hW835 ⟨_, rfl, hi837⟩ ⟨_, rfl, hi838, hm838⟩) (fun y841 g841 hW841 p841 => ?_)
                    dsimp only
                    refine po_ck rfl ?_
                    exact po_ret ⟨rfl, hW841, (Or.inr rfl)⟩
                  · refine po_gRm hW835 h0 rfl rfl (fun i842 ex842 hi842 hm842 => ?_)
                    refine po_some ?_
                    refine po_ck (wt_isO hW835 hi842 (by decide)) ?_
                    refine po_ro (tX5_breaksCell hW835 hi842) (fun y843 ex843 p843 => ?_)
                    dsimp only
                    refine po_eq (fun q844 => ?_) (fun q844 => ?_)
                    · refine po_gRm hW835 h0 rfl rfl (fun i845 ex845 hi845 hm845 => ?_)
                      refine po_bind ex842 ?_
                      refine po_bind ex842 ?_
                      refine po_some ?_
                      refine po_ck (wt_isO hW835 hi842 (by decide)) ?_
                      refine po_ro (tX5_size hW835 hi842) (fun y846 ex846 p846 => ?_)
                      dsimp only
                      refine po_some ?_
                      refine po_ck (wt_isO hW835 hi845 (by decide)) ?_
                      refine po_w (tX5_addPart hW835 hi845 hm845 ⟨_, rfl, hi842⟩) (fun y847 g847 hW847 p847 => ?_)
                      dsimp only
                      refine po_ck (nb_of p847) ?_
                      exact po_ret ⟨rfl, hW847, p847⟩
                    · refine po_pI hW835 h0 rfl rfl (vv_i (by decide) trivial) (fun g848 hW848 ex848 => ?_)
                      refine po_gRm hW848 h0 rfl rfl (fun i849 ex849 hi849 hm849 => ?_)
                      refine po_some ?_
                      refine po_ck (wt_isO hW848 hi849 (by decide)) ?_
                      refine po_w (tX5_add hW848 hi849 hm849) (fun y850 g850 hW850 p850 => ?_)
                      dsimp only
                      refine po_gRm hW850 h0 rfl rfl (fun i851 ex851 hi851 hm851 => ?_)
                      refine po_gRm hW850 h0 rfl rfl (fun i852 ex852 hi852 hm852 => ?_)
                      refine po_w (tX0_addEscaped hW850 ⟨_, rfl, hi851⟩ ⟨_, rfl, hi852, hm852⟩) (fun y853 g853 hW853 p853 => ?_)
                      dsimp only
                      refine po_gRm hW853 h0 rfl rfl (fun i854 ex854 hi854 hm854 => ?_)
                      refine po_some ?_
                      refine po_ck (wt_isO hW853 hi854 (by decide)) ?_
                      refine po_w (tX5_add hW853 hi854 hm854) (fun y855 g855 hW855 p855 => ?_)
                      dsimp only
                      refine po_some ?_
                      refine po_gI hW855 h3 rfl rfl (by decide) (fun x856x ex856 (_ : True) => ?_)
                      refine po_eq (fun q857 => ?_) (fun q857 => ?_)
                      · refine po_ck (nb_of (Or.inr rfl)) ?_
                        exact po_ret ⟨rfl, hW855, (Or.inr rfl)⟩
                      · refine po_ck (nb_of (Or.inl rfl)) ?_
                        exact po_ret ⟨rfl, hW855, (Or.inl rfl)⟩
                · refine po_bind ex833 ?_
                  refine po_eq (fun q858 => ?_) (fun q858 => ?_)
                  · refine po_pI hW832 h0 rfl rfl (vv_i (by decide) trivial) (fun g859 hW859 ex859 => ?_)
                    refine po_eq (fun q860 => ?_) (fun q860 => ?_)
                    · refine po_gRm hW859 h0 rfl rfl (fun i861 ex861 hi861 hm861 => ?_)
                      refine po_gRm hW859 h0 rfl rfl (fun i862 ex862 hi862 hm862 => ?_)
                      refine po_some ?_
                      refine po_gI hW859 h3 rfl rfl (by decide) (fun x863x ex863 (_ : True) => ?_)
                      refine po_some ?_
                      refine po_gI hW859 (h2 i1 rfl) rfl rfl (by decide) (fun x864x ex864 (hx864 : x864x = 0 ∨ x864x = 1) => ?_)
                      refine po_w (tX0_addEscaped hW859 ⟨_, rfl, hi861⟩ ⟨_, rfl, hi862, hm862⟩) (fun y865 g865 hW865 p865 => ?_)
                      dsimp only
                      refine po_ck rfl ?_
                      exact po_ret ⟨rfl, hW865, (Or.inr rfl)⟩
                    · refine po_gRm hW859 h0 rfl rfl (fun i866 ex866 hi866 hm866 => ?_)
                      refine po_some ?_
                      refine po_ck (wt_isO hW859 hi866 (by decide)) ?_
                      refine po_ro (tX5_breaksCell hW859 hi866) (fun y867 ex867 p867 => ?_)
                      dsimp only
                      refine po_eq (fun q868 => ?_) (fun q868 => ?_)
                      · refine po_gRm hW859 h0 rfl rfl (fun i869 ex869 hi869 hm869 => ?_)
                        refine po_bind ex866 ?_
                        refine po_bind ex866 ?_
                        refine po_some ?_
                        refine po_ck (wt_isO hW859 hi866 (by decide)) ?_
                        refine po_ro (tX5_size hW859 hi866) (fun y870 ex870 p870 => ?_)
                        dsimp only
                        refine po_some ?_
                        refine po_ck (wt_isO hW859 hi869 (by decide)) ?_
                        refine po_w (tX5_addPart hW859 hi869 hm869 ⟨_, rfl, hi866⟩) (fun y871 g871 hW871 p871 => ?_)
                        dsimp only
                        refine po_ck (nb_of p871) ?_
                        exact po_ret ⟨rfl, hW871, p871⟩
                      · refine po_pI hW859 h0 rfl rfl (vv_i (by decide) trivial) (fun g872 hW872 ex872 => ?_)
                        refine po_gRm hW872 h0 rfl rfl (fun i873 ex873 hi873 hm873 => ?_)
                        refine po_some ?_
                        refine po_ck (wt_isO hW872 hi873 (by decide)) ?_
                        refine po_w (tX5_add hW872 hi873 hm873) (fun y874 g874 hW874 p874 => ?_)
                        dsimp only
                        refine po_gRm hW874 h0 rfl rfl (fun i875 ex875 hi875 hm875 => ?_)
                        refine po_gRm hW874 h0 rfl rfl (fun i876 ex876 hi876 hm876 => ?_)
                        refine po_w (tX0_addEscaped hW874 ⟨_, rfl, hi875⟩ ⟨_, rfl, hi876, hm876⟩) (fun y877 g877 hW877 p877 => ?_)
                        dsimp only
                        refine po_gRm hW877 h0 rfl rfl (fun i878 ex878 hi878 hm878 => ?_)
                        refine po_some ?_
                        refine po_ck (wt_isO hW877 hi878 (by decide)) ?_
                        refine po_w (tX5_add hW877 hi878 hm878) (fun y879 g879 hW879 p879 => ?_)
                        dsimp only
                        refine po_some ?_
                        refine po_gI hW879 h3 rfl rfl (by decide) (fun x880x ex880 (_ : True) => ?_)
                        refine po_eq (fun q881 => ?_) (fun q881 => ?_)
                        · refine po_ck (nb_of (Or.inr rfl)) ?_
                          exact po_ret ⟨rfl, hW879, (Or.inr rfl)⟩
                        · refine po_ck (nb_of (Or.inl rfl)) ?_
                          exact po_ret ⟨rfl, hW879, (Or.inl rfl)⟩
                  · refine po_pI hW832 h0 rfl rfl (vv_i (by decide) trivial) (fun g882 hW882 ex882 => ?_)
                    refine po_eq (fun q883 => ?_) (fun q883 => ?_)
                    · refine po_gRm hW882 h0 rfl rfl (fun i884 ex884 hi884 hm884 => ?_)
                      refine po_gRm hW882 h0 rfl rfl (fun i885 ex885 hi885 hm885 => ?_)
                      refine po_some ?_
                      refine po_gI hW882 h3 rfl rfl (by decide) (fun x886x ex886 (_ : True) => ?_)
                      refine po_some ?_
                      refine po_gI hW882 (h2 i1 rfl) rfl rfl (by decide) (fun x887x ex887 (hx887 : x887x = 0 ∨ x887x = 1) => ?_)
                      refine po_w (tX0_addEscaped hW882 ⟨_, rfl, hi884⟩ ⟨_, rfl, hi885, hm885⟩) (fun y888 g888 hW888 p888 => ?_)
                      dsimp only
                      refine po_ck rfl ?_
                      exact po_ret ⟨rfl, hW888, (Or.inr rfl)⟩
                    · refine po_gRm hW882 h0 rfl rfl (fun i889 ex889 hi889 hm889 => ?_)
                      refine po_some ?_
                      refine po_ck (wt_isO hW882 hi889 (by decide)) ?_
                      refine po_ro (tX5_breaksCell hW882 hi889) (fun y890 ex890 p890 => ?_)
                      dsimp only
                      refine po_eq (fun q891 => ?_) (fun q891 => ?_)
                      · refine po_gRm hW882 h0 rfl rfl (fun i892 ex892 hi892 hm892 => ?_)
                        refine po_bind ex889 ?_
                        refine po_bind ex889 ?_
                        refine po_some ?_
                        refine po_ck (wt_isO hW882 hi889 (by decide)) ?_
                        refine po_ro (tX5_size hW882 hi889) (fun y893 ex893 p893 => ?_)
                        dsimp only
                        refine po_some ?_
                        refine po_ck (wt_isO hW882 hi892 (by decide)) ?_
                        refine po_w (tX5_addPart hW882 hi892 hm892 ⟨_, rfl, hi889⟩) (fun y894 g894 hW894 p894 => ?_)
                        dsimp only
                        refine po_ck (nb_of p894) ?_
                        exact po_ret ⟨rfl, hW894, p894⟩
                      · refine po_pI hW882 h0 rfl rfl (vv_i (by decide) trivial) (fun g895 hW895 ex895 => ?_)
                        refine po_gRm hW895 h0 rfl rfl (fun i896 ex896 hi896 hm896 => ?_)
                        refine po_some ?_
                        refine po_ck (wt_isO hW895 hi896 (by decide)) ?_
                        refine po_w (tX5_add hW895 hi896 hm896) (fun y897 g897 hW897 p897 => ?_)
                        dsimp only
                        refine po_gRm hW897 h0 rfl rfl (fun i898 ex898 hi898 hm898 => ?_)
                        refine po_gRm hW897 h0 rfl rfl (fun i899 ex899 hi899 hm899 => ?_)
                        refine po_w (tX0_addEscaped hW897 ⟨_, rfl, hi898⟩ ⟨_, rfl, hi899, hm899⟩) (fun y900 g900 hW900 p900 => ?_)
                        dsimp only
                        refine po_gRm hW900 h0 rfl rfl (fun i901 ex901 hi901 hm901 => ?_)
                        refine po_some ?_
                        refine po_ck (wt_isO hW900 hi901 (by decide)) ?_
                        refine po_w (tX5_add hW900 hi901 hm901) (fun y902 g902 hW902 p902 => ?_)
                        dsimp only
                        refine po_some ?_
                        refine po_gI hW902 h3 rfl rfl (by decide) (fun x903x ex903 (_ : True) => ?_)
                        refine po_eq (fun q904 => ?_) (fun q904 => ?_)
                        · refine po_ck (nb_of (Or.inr rfl)) ?_
                          exact po_ret ⟨rfl, hW902, (Or.inr rfl)⟩
                        · refine po_ck (nb_of (Or.inl rfl)) ?_
                          exact po_ret ⟨rfl, hW902, (Or.inl rfl)⟩
        · refine po_eq (fun q905 => ?_) (fun q905 => ?_)
          · refine po_gRm hW7 h0 rfl rfl (fun i906 ex906 hi906 hm906 => ?_)
            refine po_eq (fun q907 => ?_) (fun q907 => ?_)
            · refine po_some ?_
              refine po_bind ex547 ?_
              refine po_w (tX0_addEscaped hW7 ⟨_, rfl, h1⟩ ⟨_, rfl, hi906, hm906⟩) (fun y908 g908 hW908 p908 => ?_)
              dsimp only
              refine po_eq (fun q909 => ?_) (fun q909 => ?_)
              · refine po_gRm hW908 h0 rfl rfl (fun i910 ex910 hi910 hm910 => ?_)
                refine po_gRm hW908 h0 rfl rfl (fun i911 ex911 hi911 hm911 => ?_)
                refine po_some ?_
                refine po_gI hW908 h3 rfl rfl (by decide) (fun x912x ex912 (_ : True) => ?_)
                refine po_some ?_
                refine po_gI hW908 (h2 i1 rfl) rfl rfl (by decide) (fun x913x ex913 (hx913 : x913x = 0 ∨ x913x = 1) => ?_)
                refine po_w (tX0_addEscaped hW908 ⟨_, rfl, hi910⟩ ⟨_, rfl, hi911, hm911⟩) (fun y914 g914 hW914 p914 => ?_)
                dsimp only
                refine po_ck rfl ?_
                exact po_ret ⟨rfl, hW914, (Or.inr rfl)⟩
              · refine po_gRm hW908 h0 rfl rfl (fun i915 ex915 hi915 hm915 => ?_)
                refine po_some ?_
                refine po_ck (wt_isO hW908 hi915 (by decide)) ?_
                refine po_ro (tX5_breaksCell hW908 hi915) (fun y916 ex916 p916 => ?_)
                dsimp only
                refine po_eq (fun q917 => ?_) (fun q917 => ?_)
                · refine po_gRm hW908 h0 rfl rfl (fun i918 ex918 hi918 hm918 => ?_)
                  refine po_bind ex915 ?_
                  refine po_bind ex915 ?_
                  refine po_some ?_
                  refine po_ck (wt_isO hW908 hi915 (by decide)) ?_
                  refine po_ro (tX5_size hW908 hi915) (fun y919 ex919 p919 => ?_)
                  dsimp only
                  refine po_some ?_
                  refine po_ck (wt_isO hW908 hi918 (by decide)) ?_
                  refine po_w (tX5_addPart hW908 hi918 hm918 ⟨_, rfl, hi915⟩) (fun y920 g920 hW920 p920 => ?_)
                  dsimp only
                  refine po_ck (nb_of p920) ?_
                  exact po_ret ⟨rfl, hW920, p920⟩
                · refine po_pI hW908 h0 rfl rfl (vv_i (by decide) trivial) (fun g921 hW921 ex921 => ?_)
                  refine po_gRm hW921 h0 rfl rfl (fun i922 ex922 hi922 hm922 => ?_)
                  refine po_some ?_
                  refine po_ck (wt_isO hW921 hi922 (by decide)) ?_
                  refine po_w (tX5_add hW921 hi922 hm922) (fun y923 g923 hW923 p923 => ?_)
                  dsimp only
                  refine po_gRm hW923 h0 rfl rfl (fun i924 ex924 hi924 hm924 => ?_)
                  refine po_gRm hW923 h0 rfl rfl (fun i925 ex925 hi925 hm925 => ?_)
                  refine po_w (tX0_addEscaped hW923 ⟨_, rfl, hi924⟩ ⟨_, rfl, hi925, hm925⟩) (fun y926 g926 hW926 p926 => ?_)
                  dsimp only
                  refine po_gRm hW926 h0 rfl rfl (fun i927 ex927 hi927 hm927 => ?_)
                  refine po_some ?_
                  refine po_ck (wt_isO hW926 hi927 (by decide)) ?_
                  refine po_w (tX5_add hW926 hi927 hm927) (fun y928 g928 hW928 p928 => ?_)
                  dsimp only
                  refine po_some ?_
                  refine po_gI hW928 h3 rfl rfl (by decide) (fun x929x ex929 (_ : True) => ?_)
                  refine po_eq (fun q930 => ?_) (fun q930 => ?_)
                  · refine po_ck (nb_of (Or.inr rfl)) ?_
                    exact po_ret ⟨rfl, hW928, (Or.inr rfl)⟩
                  · refine po_ck (nb_of (Or.inl rfl)) ?_
                    exact po_ret ⟨rfl, hW928, (Or.inl rfl)⟩
            · refine po_w (tX0_addEscaped hW7 ⟨_, rfl, h1⟩ ⟨_, rfl, hi906, hm906⟩) (fun y931 g931 hW931 p931 => ?_)
              dsimp only
              refine po_eq (fun q932 => ?_) (fun q932 => ?_)
              · refine po_gRm hW931 h0 rfl rfl (fun i933 ex933 hi933 hm933 => ?_)
                refine po_gRm hW931 h0 rfl rfl (fun i934 ex934 hi934 hm934 => ?_)
                refine po_some ?_
                refine po_gI hW931 h3 rfl rfl (by decide) (fun x935x ex935 (_ : True) => ?_)
                refine po_some ?_
                refine po_gI hW931 (h2 i1 rfl) rfl rfl (by decide) (fun x936x ex936 (hx936 : x936x = 0 ∨ x936x = 1) => ?_)
                refine po_w (tX0_addEscaped hW931 ⟨_, rfl, hi933⟩ ⟨_, rfl, hi934, hm934⟩) (fun y937 g937 hW937 p937 => ?_)
                dsimp only
                refine po_ck rfl ?_
                exact po_ret ⟨rfl, hW937, (Or.inr rfl)⟩
              · refine po_gRm hW931 h0 rfl rfl (fun i938 ex938 hi938 hm938 => ?_)
                refine po_some ?_
                refine po_ck (wt_isO hW931 hi938 (by decide)) ?_
                refine po_ro (tX5_breaksCell hW931 hi938) (fun y939 ex939 p939 => ?_)
                dsimp only
                refine po_eq (fun q940 => ?_) (fun q940 => ?_)
                · refine po_gRm hW931 h0 rfl rfl (fun i941 ex941 hi941 hm941 => ?_)
                  refine po_bind ex938 ?_
                  refine po_bind ex938 ?_
                  refine po_some ?_
                  refine po_ck (wt_isO hW931 hi938 (by decide)) ?_
                  refine po_ro (tX5_size hW931 hi938) (fun y942 ex942 p942 => ?_)
                  dsimp only
                  refine po_some ?_
                  refine po_ck (wt_isO hW931 hi941 (by decide)) ?_
                  refine po_w (tX5_addPart hW931 hi941 hm941 ⟨_, rfl, hi938⟩) (fun y943 g943 hW943 p943 => ?_)
                  dsimp only
                  refine po_ck (nb_of p943) ?_
                  exact po_ret ⟨rfl, hW943, p943⟩
                · refine po_pI hW931 h0 rfl rfl (vv_i (by decide) trivial) (fun g944 hW944 ex944 => ?_)
                  refine po_gRm hW944 h0 rfl rfl (fun i945 ex945 hi945 hm945 => ?_)
                  refine po_some ?_
                  refine po_ck (wt_isO hW944 hi945 (by decide)) ?_
                  refine po_w (tX5_add hW944 hi945 hm945) (fun y946 g946 hW946 p946 => ?_)
                  dsimp only
                  refine po_gRm hW946 h0 rfl rfl (fun i947 ex947 hi947 hm947 => ?_)
                  refine po_gRm hW946 h0 rfl rfl (fun i948 ex948 hi948 hm948 => ?_)
                  refine po_w (tX0_addEscaped hW946 ⟨_, rfl, hi947⟩ ⟨_, rfl, hi948, hm948⟩) (fun y949 g949 hW949 p949 => ?_)
                  dsimp only
                  refine po_gRm hW949 h0 rfl rfl (fun i950 ex950 hi950 hm950 => ?_)
                  refine po_some ?_
                  refine po_ck (wt_isO hW949 hi950 (by decide)) ?_
                  refine po_w (tX5_add hW949 hi950 hm950) (fun y951 g951 hW951 p951 => ?_)
                  dsimp only
                  refine po_some ?_
                  refine po_gI hW951 h3 rfl rfl (by decide) (fun x952x ex952 (_ : True) => ?_)
                  refine po_eq (fun q953 => ?_) (fun q953 => ?_)
                  · refine po_ck (nb_of (Or.inr rfl)) ?_
                    exact po_ret ⟨rfl, hW951, (Or.inr rfl)⟩
                  · refine po_ck (nb_of (Or.inl rfl)) ?_
                    exact po_ret ⟨rfl, hW951, (Or.inl rfl)⟩
          · refine po_some ?_
            refine po_ck (wt_isO hW7 h1 (by decide)) ?_
            refine po_ro (tX5_breaksCell hW7 h1) (fun y954 ex954 p954 => ?_)
            dsimp only
            refine po_eq (fun q955 => ?_) (fun q955 => ?_)
            · refine po_gRm hW7 h0 rfl rfl (fun i956 ex956 hi956 hm956 => ?_)
              refine po_eq (fun q957 => ?_) (fun q957 => ?_)
              · refine po_some ?_
                refine po_bind ex547 ?_
                refine po_w (tX0_addEscaped hW7 ⟨_, rfl, h1⟩ ⟨_, rfl, hi956, hm956⟩) (fun y958 g958 hW958 p958 => ?_)
                dsimp only
                refine po_eq (fun q959 => ?_) (fun q959 => ?_)
                · refine po_gRm hW958 h0 rfl rfl (fun i960 ex960 hi960 hm960 => ?_)
                  refine po_gRm hW958 h0 rfl rfl (fun i961 ex961 hi961 hm961 => ?_)
                  refine po_some ?_
                  refine po_gI hW958 h3 rfl rfl (by decide) (fun x962x ex962 (_ : True) => ?_)
                  refine po_some ?_
                  refine po_gI hW958 (h2 i1 rfl) rfl rfl (by decide) (fun x963x ex963 (hx963 : x963x = 0 ∨ x963x = 1) => ?_)
                  refine po_w (tX0_addEscaped hW958 ⟨_, rfl, hi960⟩ ⟨_, rfl, hi961, hm961⟩) (fun y964 g964 hW964 p964 => ?_)
                  dsimp only
                  refine po_ck rfl ?_
                  exact po_ret ⟨rfl, hW964, (Or.inr rfl)⟩
                · refine po_gRm hW958 h0 rfl rfl (fun i965 ex965 hi965 hm965 => ?_)
                  refine po_some ?_
                  refine po_ck (wt_isO hW958 hi965 (by decide)) ?_
                  refine po_ro (tX5_breaksCell hW958 hi965) (fun y966 ex966 p966 => ?_)
                  dsimp only
                  refine po_eq (fun q967 => ?_) (fun q967 => ?_)
                  · refine po_gRm hW958 h0 rfl rfl (fun i968 ex968 hi968 hm968 => ?_)
                    refine po_bind ex965 ?_
                    refine po_bind ex965 ?_
                    refine po_some ?_
                    refine po_ck (wt_isO hW958 hi965 (by decide)) ?_
                    refine po_ro (tX5_size hW958 hi965) (fun y969 ex969 p969 => ?_)
                    dsimp only
                    refine po_some ?_
                    refine po_ck (wt_isO hW958 hi968 (by decide)) ?_
                    refine po_w (tX5_addPart hW958 hi968 hm968 ⟨_, rfl, hi965⟩) (fun y970 g970 hW970 p970 => ?_)
                    dsimp only
                    refine po_ck (nb_of p970) ?_
                    exact po_ret ⟨rfl, hW970, p970⟩
                  · refine po_pI hW958 h0 rfl rfl (vv_i (by decide) trivial) (fun g971 hW971 ex971 => ?_)
                    refine po_gRm hW971 h0 rfl rfl (fun i972 ex972 hi972 hm972 => ?_)
                    refine po_some ?_
                    refine po_ck (wt_isO hW971 hi972 (by decide)) ?_
                    refine po_w (tX5_add hW971 hi972 hm972) (fun y973 g973 hW973 p973 => ?_)
                    dsimp only
                    refine po_gRm hW973 h0 rfl rfl (fun i974 ex974 hi974 hm974 => ?_)
                    refine po_gRm hW973 h0 rfl rfl (fun i975 ex975 hi975 hm975 => ?_)
                    refine po_w (tX0_addEscaped hW973 ⟨_, rfl, hi974⟩ ⟨_, rfl, hi975, hm975⟩) (fun y976 g976 hW976 p976 => ?_)
                    dsimp only
                    refine po_gRm hW976 h0 rfl rfl (fun i977 ex977 hi977 hm977 => ?_)
                    refine po_some ?_
                    refine po_ck (wt_isO hW976 hi977 (by decide)) ?_
                    refine po_w (tX5_add hW976 hi977 hm977) (fun y978 g978 hW978 p978 => ?_)
                    dsimp only
                    refine po_some ?_
                    refine po_gI hW978 h3 rfl rfl (by decide) (fun x979x ex979 (_ : True) => ?_)
                    refine po_eq (fun q980 => ?_) (fun q980 => ?_)
                    · refine po_ck (nb_of (Or.inr rfl)) ?_
                      exact po_ret ⟨rfl, hW978, (Or.inr rfl)⟩
                    · refine po_ck (nb_of (Or.inl rfl)) ?_
                      exact po_ret ⟨rfl, hW978, (Or.inl rfl)⟩
              · refine po_w (tX0_addEscaped hW7 ⟨_, rfl, h1⟩ ⟨_, rfl, hi956, hm956⟩) (fun y981 g981 hW981 p981 => ?_)
                dsimp only
                refine po_eq (fun q982 => ?_) (fun q982 => ?_)
                · refine po_gRm hW981 h0 rfl rfl (fun i983 ex983 hi983 hm983 => ?_)
                  refine po_gRm hW981 h0 rfl rfl (fun i984 ex984 hi984 hm984 => ?_)
                  refine po_some ?_
                  refine po_gI hW981 h3 rfl rfl (by decide) (fun x985x ex985 (_ : True) => ?_)
                  refine po_some ?_
                  refine po_gI hW981 (h2 i1 rfl) rfl rfl (by decide) (fun x986x ex986 (hx986 : x986x = 0 ∨ x986x = 1) => ?_)
                  refine po_w (tX0_addEscaped hW981 ⟨_, rfl, hi983⟩ ⟨_, rfl, hi984, hm984⟩) (fun y987 g987 hW987 p987 => ?_)
                  dsimp only
                  refine po_ck rfl ?_
                  exact po_ret ⟨rfl, hW987, (Or.inr rfl)⟩
                · refine po_gRm hW981 h0 rfl rfl (fun i988 ex988 hi988 hm988 => ?_)
                  refine po_some ?_
                  refine po_ck (wt_isO hW981 hi988 (by decide)) ?_
                  refine po_ro (tX5_breaksCell hW981 hi988) (fun y989 ex989 p989 => ?_)
                  dsimp only
                  refine po_eq (fun q990 => ?_) (fun q990 => ?_)
                  · refine po_gRm hW981 h0 rfl rfl (fun i991 ex991 hi991 hm991 => ?_)
                    refine po_bind ex988 ?_
                    refine po_bind ex988 ?_
                    refine po_some ?_
                    refine po_ck (wt_isO hW981 hi988 (by decide)) ?_
                    refine po_ro (tX5_size hW981 hi988) (fun y992 ex992 p992 => ?_)
                    dsimp only
                    refine po_some ?_
                    refine po_ck (wt_isO hW981 hi991 (by decide)) ?_
                    refine po_w (tX5_addPart hW981 hi991 hm991 ⟨_, rfl, hi988⟩) (fun y993 g993 hW993 p993 => ?_)
                    dsimp only
                    refine po_ck (nb_of p993) ?_
                    exact po_ret ⟨rfl, hW993, p993⟩
                  · refine po_pI hW981 h0 rfl rfl (vv_i (by decide) trivial) (fun g994 hW994 ex994 => ?_)
                    refine po_gRm hW994 h0 rfl rfl (fun i995 ex995 hi995 hm995 => ?_)
                    refine po_some ?_
                    refine po_ck (wt_isO hW994 hi995 (by decide)) ?_
                    refine po_w (tX5_add hW994 hi995 hm995) (fun y996 g996 hW996 p996 => ?_)
                    dsimp only
                    refine po_gRm hW996 h0 rfl rfl (fun i997 ex997 hi997 hm997 => ?_)
                    refine po_gRm hW996 h0 rfl rfl (fun i998 ex998 hi998 hm998 => ?_)
                    refine po_w (tX0_addEscaped hW996 ⟨_, rfl, hi997⟩ ⟨_, rfl, hi998, hm998⟩) (fun y999 g999 hW999 p999 => ?_)
                    dsimp only
                    refine po_gRm hW999 h0 rfl rfl (fun i1000 ex1000 hi1000 hm1000 => ?_)
                    refine po_some ?_
                    refine po_ck (wt_isO hW999 hi1000 (by decide)) ?_
                    refine po_w (tX5_add hW999 hi1000 hm1000) (fun y1001 g1001 hW1001 p1001 => ?_)
                    dsimp only
                    refine po_some ?_
                    refine po_gI hW1001 h3 rfl rfl (by decide) (fun x1002x ex1002 (_ : True) => ?_)
                    refine po_eq (fun q1003 => ?_) (fun q1003 => ?_)
                    · refine po_ck (nb_of (Or.inr rfl)) ?_
                      exact po_ret ⟨rfl, hW1001, (Or.inr rfl)⟩
                    · refine po_ck (nb_of (Or.inl rfl)) ?_
                      exact po_ret ⟨rfl, hW1001, (Or.inl rfl)⟩
            · refine po_gRm hW7 h0 rfl rfl (fun i1004 ex1004 hi1004 hm1004 => ?_)
              refine po_some ?_
              refine po_ck (wt_isO hW7 hi1004 (by decide)) ?_
              refine po_w (tX5_add hW7 hi1004 hm1004) (fun y1005 g1005 hW1005 p1005 => ?_)
              dsimp only
              refine po_gRm hW1005 h0 rfl rfl (fun i1006 ex1006 hi1006 hm1006 => ?_)
              refine po_w (tX0_addEscaped hW1005 ⟨_, rfl, h1⟩ ⟨_, rfl, hi1006, hm1006⟩) (fun y1007 g1007 hW1007 p1007 => ?_)
              dsimp only
              refine po_gRm hW1007 h0 rfl rfl (fun i1008 ex1008 hi1008 hm1008 => ?_)
              refine po_some ?_
              refine po_ck (wt_isO hW1007 hi1008 (by decide)) ?_
              refine po_w (tX5_add hW1007 hi1008 hm1008) (fun y1009 g1009 hW1009 p1009 => ?_)
              dsimp only
              refine po_some ?_
              refine po_gI hW1009 h3 rfl rfl (by decide) (fun x1010x ex1010 (_ : True) => ?_)
              refine po_eq (fun q1011 => ?_) (fun q1011 => ?_)
              · refine po_pI hW1009 h0 rfl rfl (vv_i (by decide) trivial) (fun g1012 hW1012 ex1012 => ?_)
                refine po_eq (fun q1013 => ?_) (fun q1013 => ?_)
                · refine po_gRm hW1012 h0 rfl rfl (fun i1014 ex1014 hi1014 hm1014 => ?_)
                  refine po_gRm hW1012 h0 rfl rfl (fun i1015 ex1015 hi1015 hm1015 => ?_)
                  refine po_some ?_
                  refine po_gI hW1012 h3 rfl rfl (by decide) (fun x1016x ex1016 (_ : True) => ?_)
                  refine po_some ?_
                  refine po_gI hW1012 (h2 i1 rfl) rfl rfl (by decide) (fun x1017x ex1017 (hx1017 : x1017x = 0 ∨ x1017x = 1) => ?_)
                  refine po_w (tX0_addEscaped hW1012 ⟨_, rfl, hi1014⟩ ⟨_, rfl, hi1015, hm1015⟩) (fun y1018 g1018 hW1018 p1018 => ?_)
                  dsimp only
                  refine po_ck rfl ?_
                  exact po_ret ⟨rfl, hW1018, (Or.inr rfl)⟩
                · refine po_gRm hW1012 h0 rfl rfl (fun i1019 ex1019 hi1019 hm1019 => ?_)
                  refine po_some ?_
                  refine po_ck (wt_isO hW1012 hi1019 (by decide)) ?_
                  refine po_ro (tX5_breaksCell hW1012 hi1019) (fun y1020 ex1020 p1020 => ?_)
                  dsimp only
                  refine po_eq (fun q1021 => ?_) (fun q1021 => ?_)
                  · refine po_gRm hW1012 h0 rfl rfl (fun i1022 ex1022 hi1022 hm1022 => ?_)
                    refine po_bind ex1019 ?_
                    refine po_bind ex1019 ?_
                    refine po_some ?_
                    refine po_ck (wt_isO hW1012 hi1019 (by decide)) ?_
                    refine po_ro (tX5_size hW1012 hi1019) (fun y1023 ex1023 p1023 => ?_)
                    dsimp only
                    refine po_some ?_
                    refine po_ck (wt_isO hW1012 hi1022 (by decide)) ?_
                    refine po_w (tX5_addPart hW1012 hi1022 hm1022 ⟨_, rfl, hi1019⟩) (fun y1024 g1024 hW1024 p1024 => ?_)
                    dsimp only
                    refine po_ck (nb_of p1024) ?_
                    exact po_ret ⟨rfl, hW1024, p1024⟩
                  · refine po_pI hW1012 h0 rfl rfl (vv_i (by decide) trivial) (fun g1025 hW1025 ex1025 => ?_)
                    refine po_gRm hW1025 h0 rfl rfl (fun i1026 ex1026 hi1026 hm1026 => ?_)
                    refine po_some ?_
                    refine po_ck (wt_isO hW1025 hi1026 (by decide)) ?_
                    refine po_w (tX5_add hW1025 hi1026 hm1026) (fun y1027 g1027 hW1027 p1027 => ?_)
                    dsimp only
                    refine po_gRm hW1027 h0 rfl rfl (fun i1028 ex1028 hi1028 hm1028 => ?_)
                    refine po_gRm hW1027 h0 rfl rfl (fun i1029 ex1029 hi1029 hm1029 => ?_)
                    refine po_w (tX0_addEscaped hW1027 ⟨_, rfl, hi1028⟩ ⟨_, rfl, hi1029, hm1029⟩) (fun y1030 g1030 hW1030 p1030 => ?_)
                    dsimp only
                    refine po_gRm hW1030 h0 rfl rfl (fun i1031 ex1031 hi1031 hm1031 => ?_)
                    refine po_some ?_
                    refine po_ck (wt_isO hW1030 hi1031 (by decide)) ?_
                    refine po_w (tX5_add hW1030 hi1031 hm1031) (fun y1032 g1032 hW1032 p1032 => ?_)
                    dsimp only
                    refine po_some ?_
                    refine po_gI hW1032 h3 rfl rfl (by decide) (fun x1033x ex1033 (_ : True) => ?_)
                    refine po_eq (fun q1034 => ?_) (fun q1034 => ?_)
                    · refine po_ck (nb_of (Or.inr rfl)) ?_
                      exact po_ret ⟨rfl, hW1032, (Or.inr rfl)⟩
                    · refine po_ck (nb_of (Or.inl rfl)) ?_
                      exact po_ret ⟨rfl, hW1032, (Or.inl rfl)⟩
              · refine po_bind ex1010 ?_
                refine po_eq (fun q1035 => ?_) (fun q1035 => ?_)
                · refine po_pI hW1009 h0 rfl rfl (vv_i (by decide) trivial) (fun g1036 hW1036 ex1036 => ?_)
                  refine po_eq (fun q1037 => ?_) (fun q1037 => ?_)
                  · refine po_gRm hW1036 h0 rfl rfl (fun i1038 ex1038 hi1038 hm1038 => ?_)
                    refine po_gRm hW1036 h0 rfl rfl (fun i1039 ex1039 hi1039 hm1039 => ?_)
                    refine po_some ?_
                    refine po_gI hW1036 h3 rfl rfl (by decide) (fun x1040x ex1040 (_ : True) => ?_)
                    refine po_some ?_
                    refine po_gI hW1036 (h2 i1 rfl) rfl rfl (by decide) (fun x1041x ex1041 (hx1041 : x1041x = 0 ∨ x1041x = 1) => ?_)
                    refine po_w (tX0_addEscaped hW1036 ⟨_, rfl, hi1038⟩ ⟨_, rfl, hi1039, hm1039⟩) (fun y1042 g1042 hW1042 p1042 => ?_)
                    dsimp only
                    refine po_ck rfl ?_
                    exact po_ret ⟨rfl, hW1042, (Or.inr rfl)⟩
                  · refine po_gRm hW1036 h0 rfl rfl (fun i1043 ex1043 hi1043 hm1043 => ?_)
                    refine po_some ?_
                    refine po_ck (wt_isO hW1036 hi1043 (by decide)) ?_
                    refine po_ro (tX5_breaksCell hW1036 hi1043) (fun y1044 ex1044 p1044 => ?_)
                    dsimp only
                    refine po_eq (fun q1045 => ?_) (fun q1045 => ?_)
                    · refine po_gRm hW1036 h0 rfl rfl (fun i1046 ex1046 hi1046 hm1046 => ?_)
                      refine po_bind ex1043 ?_
                      refine po_bind ex1043 ?_
                      refine po_some ?_
                      refine po_ck (wt_isO hW1036 hi1043 (by decide)) ?_
                      refine po_ro (tX5_size hW1036 hi1043) (fun y1047 ex1047 p1047 => ?_)
                      dsimp only
                      refine po_some ?_
                      refine po_ck (wt_isO hW1036 hi1046 (by decide)) ?_
                      refine po_w (tX5_addPart hW1036 hi1046 hm1046 ⟨_, rfl, hi1043⟩) (fun y1048 g1048 hW1048 p1048 => ?_)
                      dsimp only
                      refine po_ck (nb_of p1048) ?_
                      exact po_ret ⟨rfl, hW1048, p1048⟩
                    · refine po_pI hW1036 h0 rfl rfl (vv_i (by decide) trivial) (fun g1049 hW1049 ex1049 => ?_)
                      refine po_gRm hW1049 h0 rfl rfl (fun i1050 ex1050 hi1050 hm1050 => ?_)
                      refine po_some ?_
                      refine po_ck (wt_isO hW1049 hi1050 (by decide)) ?_
                      refine po_w (tX5_add hW1049 hi1050 hm1050) (fun y1051 g1051 hW1051 p1051 => ?_)
                      dsimp only
                      refine po_gRm hW1051 h0 rfl rfl (fun i1052 ex1052 hi1052 hm1052 => ?_)
                      refine po_gRm hW1051 h0 rfl rfl (fun i1053 ex1053 hi1053 hm1053 => ?_)
                      refine po_w (tX0_addEscaped hW1051 ⟨_, rfl, hi1052⟩ ⟨_, rfl, hi1053, hm1053⟩) (fun y1054 g1054 hW1054 p1054 => ?_)
                      dsimp only
                      refine po_gRm hW1054 h0 rfl rfl (fun i1055 ex1055 hi1055 hm1055 => ?_)
                      refine po_some ?_
                      refine po_ck (wt_isO hW1054 hi1055 (by decide)) ?_
                      refine po_w (tX5_add hW1054 hi1055 hm1055) (fun y1056 g1056 hW1056 p1056 => ?_)
                      dsimp only
                      refine po_some ?_
                      refine po_gI hW1056 h3 rfl rfl (by decide) (fun x1057x ex1057 (_ : True) => ?_)
                      refine po_eq (fun q1058 => ?_) (fun q1058 => ?_)
                      · refine po_ck (nb_of (Or.inr rfl)) ?_
                        exact po_ret ⟨rfl, hW1056, (Or.inr rfl)⟩
                      · refine po_ck (nb_of (Or.inl rfl)) ?_
                        exact po_ret ⟨rfl, hW1056, (Or.inl rfl)⟩
                · refine po_pI hW1009 h0 rfl rfl (vv_i (by decide) trivial) (fun g1059 hW1059 ex1059 => ?_)
                  refine po_eq (fun q1060 => ?_) (fun q1060 => ?_)
                  · refine po_gRm hW1059 h0 rfl rfl (fun i1061 ex1061 hi1061 hm1061 => ?_)
                    refine po_gRm hW1059 h0 rfl rfl (fun i1062 ex1062 hi1062 hm1062 => ?_)
                    refine po_some ?_
                    refine po_gI hW1059 h3 rfl rfl (by decide) (fun x1063x ex1063 (_ : True) => ?_)
                    refine po_some ?_
                    refine po_gI hW1059 (h2 i1 rfl) rfl rfl (by decide) (fun x1064x ex1064 (hx1064 : x1064x = 0 ∨ x1064x = 1) => ?_)
                    refine po_w (tX0_addEscaped hW1059 ⟨_, rfl, hi1061⟩ ⟨_, rfl, hi1062, hm1062⟩) (fun y1065 g1065 hW1065 p1065 => ?_)
                    dsimp only
                    refine po_ck rfl ?_
                    exact po_ret ⟨rfl, hW1065, (Or.inr rfl)⟩
                  · refine po_gRm hW1059 h0 rfl rfl (fun i1066 ex1066 hi1066 hm1066 => ?_)
                    refine po_some ?_
                    refine po_ck (wt_isO hW1059 hi1066 (by decide)) ?_
                    refine po_ro (tX5_breaksCell hW1059 hi1066) (fun y1067 ex1067 p1067 => ?_)
                    dsimp only
                    refine po_eq (fun q1068 => ?_) (fun q1068 => ?_)
                    · refine po_gRm hW1059 h0 rfl rfl (fun i1069 ex1069 hi1069 hm1069 => ?_)
                      refine po_bind ex1066 ?_
                      refine po_bind ex1066 ?_
                      refine po_some ?_
                      refine po_ck (wt_isO hW1059 hi1066 (by decide)) ?_
                      refine po_ro (tX5_size hW1059 hi1066) (fun y1070 ex1070 p1070 => ?_)
                      dsimp only
                      refine po_some ?_
                      refine po_ck (wt_isO hW1059 hi1069 (by decide)) ?_
                      refine po_w (tX5_addPart hW1059 hi1069 hm1069 ⟨_, rfl, hi1066⟩) (fun y1071 g1071 hW1071 p1071 => ?_)
                      dsimp only
                      refine po_ck (nb_of p1071) ?_
                      exact po_ret ⟨rfl, hW1071, p1071⟩
                    · refine po_pI hW1059 h0 rfl rfl (vv_i (by decide) trivial) (fun g1072 hW1072 ex1072 => ?_)
                      refine po_gRm hW1072 h0 rfl rfl (fun i1073 ex1073 hi1073 hm1073 => ?_)
                      refine po_some ?_
                      refine po_ck (wt_isO hW1072 hi1073 (by decide)) ?_
                      refine po_w (tX5_add hW1072 hi1073 hm1073) (fun y1074 g1074 hW1074 p1074 => ?_)
                      dsimp only
                      refine po_gRm hW1074 h0 rfl rfl (fun i1075 ex1075 hi1075 hm1075 => ?_)
                      refine po_gRm hW1074 h0 rfl rfl (fun i1076 ex1076 hi1076 hm1076 => ?_)
                      refine po_w (tX0_addEscaped hW1074 ⟨_, rfl, hi1075⟩ ⟨_, rfl, hi1076, hm1076⟩) (fun y1077 g1077 hW1077 p1077 => ?_)
                      dsimp only
                      refine po_gRm hW1077 h0 rfl rfl (fun i1078 ex1078 hi1078 hm1078 => ?_)
                      refine po_some ?_
                      refine po_ck (wt_isO hW1077 hi1078 (by decide)) ?_
                      refine po_w (tX5_add hW1077 hi1078 hm1078) (fun y1079 g1079 hW1079 p1079 => ?_)
                      dsimp only
                      refine po_some ?_
                      refine po_gI hW1079 h3 rfl rfl (by decide) (fun x1080x ex1080 (_ : True) => ?_)
                      refine po_eq (fun q1081 => ?_) (fun q1081 => ?_)
                      · refine po_ck (nb_of (Or.inr rfl)) ?_
                        exact po_ret ⟨rfl, hW1079, (Or.inr rfl)⟩
                      · refine po_ck (nb_of (Or.inl rfl)) ?_
                        exact po_ret ⟨rfl, hW1079, (Or.inl rfl)⟩
    · refine po_some ?_
      refine po_gI hW7 h3 rfl rfl (by decide) (fun x1082x ex1082 (_ : True) => ?_)
      refine po_eq (fun q1083 => ?_) (fun q1083 => ?_)
      · refine po_some ?_
        refine po_gI hW7 (h2 i1 rfl) rfl rfl (by decide) (fun x1084x ex1084 (hx1084 : x1084x = 0 ∨ x1084x = 1) => ?_)
        refine po_eq (fun q1085 => ?_) (fun q1085 => ?_)
        · refine po_eq (fun q1086 => ?_) (fun q1086 => ?_)
          · refine po_gRm hW7 h0 rfl rfl (fun i1087 ex1087 hi1087 hm1087 => ?_)
            refine po_eq (fun q1088 => ?_) (fun q1088 => ?_)
            · refine po_some ?_
              refine po_bind ex1082 ?_
              refine po_w (tX0_addEscaped hW7 ⟨_, rfl, h1⟩ ⟨_, rfl, hi1087, hm1087⟩) (fun y1089 g1089 hW1089 p1089 => ?_)
              dsimp only
              refine po_eq (fun q1090 => ?_) (fun q1090 => ?_)
              · refine po_gRm hW1089 h0 rfl rfl (fun i1091 ex1091 hi1091 hm1091 => ?_)
                refine po_gRm hW1089 h0 rfl rfl (fun i1092 ex1092 hi1092 hm1092 => ?_)
                refine po_some ?_
                refine po_gI hW1089 h3 rfl rfl (by decide) (fun x1093x ex1093 (_ : True) => ?_)
                refine po_some ?_
                refine po_gI hW1089 (h2 i1 rfl) rfl rfl (by decide) (fun x1094x ex1094 (hx1094 : x1094x = 0 ∨ x1094x = 1) => ?_)
                refine po_w (tX0_addEscaped hW1089 ⟨_, rfl, hi1091⟩ ⟨_, rfl, hi1092, hm1092⟩) (fun y1095 g1095 hW1095 p1095 => ?_)
                dsimp only
                refine po_ck rfl ?_
                exact po_ret ⟨rfl, hW1095, (Or.inr rfl)⟩
              · refine po_gRm hW1089 h0 rfl rfl (fun i1096 ex1096 hi1096 hm1096 => ?_)
                refine po_some ?_
                refine po_ck (wt_isO hW1089 hi1096 (by decide)) ?_
                refine po_ro (tX5_breaksCell hW1089 hi1096) (fun y1097 ex1097 p1097 => ?_)
                dsimp only
                refine po_eq (fun q1098 => ?_) (fun q1098 => ?_)
                · refine po_gRm hW1089 h0 rfl rfl (fun i1099 ex1099 hi1099 hm1099 => ?_)
                  refine po_bind ex1096 ?_
                  refine po_bind ex1096 ?_
                  refine po_some ?_
                  refine po_ck (wt_isO hW1089 hi1096 (by decide)) ?_
                  refine po_ro (tX5_size hW1089 hi1096) (fun y1100 ex1100 p1100 => ?_)
                  dsimp only
                  refine po_some ?_
                  refine po_ck (wt_isO hW1089 hi1099 (by decide)) ?_
                  refine po_w (tX5_addPart hW1089 hi1099 hm1099 ⟨_, rfl, hi1096⟩) (fun y1101 g1101 hW1101 p1101 => ?_)
                  dsimp only
                  refine po_ck (nb_of p1101) ?_
                  exact po_ret ⟨rfl, hW1101, p1101⟩
                · refine po_pI hW1089 h0 rfl rfl (vv_i (by decide) trivial) (fun g1102 hW1102 ex1102 => ?_)
                  refine po_gRm hW1102 h0 rfl rfl (fun i1103 ex1103 hi1103 hm1103 => ?_)
                  refine po_some ?_
                  refine po_ck (wt_isO hW1102 hi1103 (by decide)) ?_
                  refine po_w (tX5_add hW1102 hi1103 hm1103) (fun y1104 g1104 hW1104 p1104 => ?_)
                  dsimp only
                  refine po_gRm hW1104 h0 rfl rfl (fun i1105 ex1105 hi1105 hm1105 => ?_)
                  refine po_gRm hW1104 h0 rfl rfl (fun i1106 ex1106 hi1106 hm1106 => ?_)
                  refine po_w (tX0_addEscaped hW1104 ⟨_, rfl, hi1105⟩ ⟨_, rfl, hi1106, hm1106⟩) (fun y1107 g1107 hW1107 p1107 => ?_)
                  dsimp only
                  refine po_gRm hW1107 h0 rfl rfl (fun i1108 ex1108 hi1108 hm1108 => ?_)
                  refine po_some ?_
                  refine po_ck (wt_isO hW1107 hi1108 (by decide)) ?_
                  refine po_w (tX5_add hW1107 hi1108 hm1108) (fun y1109 g1109 hW1109 p1109 => ?_)
                  dsimp only
                  refine po_some ?_
                  refine po_gI hW1109 h3 rfl rfl (by decide) (fun x1110x ex1110 (_ : True) => ?_)
                  refine po_eq (fun q1111 => ?_) (fun q1111 => ?_)
                  · refine po_ck (nb_of (Or.inr rfl)) ?_
                    exact po_ret ⟨rfl, hW1109, (Or.inr rfl)⟩
                  · refine po_ck (nb_of (Or.inl rfl)) ?_
                    exact po_ret ⟨rfl, hW1109, (Or.inl rfl)⟩
            · refine po_w (tX0_addEscaped hW7 ⟨_, rfl, h1⟩ ⟨_, rfl, hi1087, hm1087⟩) (fun y1112 g1112 hW1112 p1112 => ?_)
              dsimp only
              refine po_eq (fun q1113 => ?_) (fun q1113 => ?_)
              · refine po_gRm hW1112 h0 rfl rfl (fun i1114 ex1114 hi1114 hm1114 => ?_)
                refine po_gRm hW1112 h0 rfl rfl (fun i1115 ex1115 hi1115 hm1115 => ?_)
                refine po_some ?_
                refine po_gI hW1112 h3 rfl rfl (by decide) (fun x1116x ex1116 (_ : True) => ?_)
                refine po_some ?_
                refine po_gI hW1112 (h2 i1 rfl) rfl rfl (by decide) (fun x1117x ex1117 (hx1117 : x1117x = 0 ∨ x1117x = 1) => ?_)
                refine po_w (tX0_addEscaped hW1112 ⟨_, rfl, hi1114⟩ ⟨_, rfl, hi1115, hm1115⟩) (fun y1118 g1118 hW1118 p1118 => ?_)
                dsimp only
                refine po_ck rfl ?_
                exact po_ret ⟨rfl, hW1118, (Or.inr rfl)⟩
              · refine po_gRm hW1112 h0 rfl rfl (fun i1119 ex1119 hi1119 hm1119 => ?_)
                refine po_some ?_
                refine po_ck (wt_isO hW1112 hi1119 (by decide)) ?_
                refine po_ro (tX5_breaksCell hW1112 hi1119) (fun y1120 ex1120 p1120 => ?_)
                dsimp only
                refine po_eq (fun q1121 => ?_) (fun q1121 => ?_)
                · refine po_gRm hW1112 h0 rfl rfl (fun i1122 ex1122 hi1122 hm1122 => ?_)
                  refine po_bind ex1119 ?_
                  refine po_bind ex1119 ?_
                  refine po_some ?_
                  refine po_ck (wt_isO hW1112 hi1119 (by decide)) ?_
                  refine po_ro (tX5_size hW1112 hi1119) (fun y1123 ex1123 p1123 => ?_)
                  dsimp only
                  refine po_some ?_
                  refine po_ck (wt_isO hW1112 hi1122 (by decide)) ?_
                  refine po_w (tX5_addPart hW1112 hi1122 hm1122 ⟨_, rfl, hi1119⟩) (fun y1124 g1124 hW1124 p1124 => ?_)
                  dsimp only
                  refine po_ck (nb_of p1124) ?_
                  exact po_ret ⟨rfl, hW1124, p1124⟩
                · refine po_pI hW1112 h0 rfl rfl (vv_i (by decide) trivial) (fun g1125 hW1125 ex1125 => ?_)
                  refine po_gRm hW1125 h0 rfl rfl (fun i1126 ex1126 hi1126 hm1126 => ?_)
                  refine po_some ?_
                  refine po_ck (wt_isO hW1125 hi1126 (by decide)) ?_
                  refine po_w (tX5_add hW1125 hi1126 hm1126) (fun y1127 g1127 hW1127 p1127 => ?_)
                  dsimp only
                  refine po_gRm hW1127 h0 rfl rfl (fun i1128 ex1128 hi1128 hm1128 => ?_)
                  refine po_gRm hW1127 h0 rfl rfl (fun i1129 ex1129 hi1129 hm1129 => ?_)
                  refine po_w (tX0_addEscaped hW1127 ⟨_, rfl, hi1128⟩ ⟨_, rfl, hi1129, hm1129⟩) (fun y1130 g1130 hW1130 p1130 => ?_)
                  dsimp only
                  refine po_gRm hW1130 h0 rfl rfl (fun i1131 ex1131 hi1131 hm1131 => ?_)
                  refine po_some ?_
                  refine po_ck (wt_isO hW1130 hi1131 (by decide)) ?_
                  refine po_w (tX5_add hW1130 hi1131 hm1131) (fun y1132 g1132 hW1132 p1132 => ?_)
                  dsimp only
                  refine po_some ?_
                  refine po_gI hW1132 h3 rfl rfl (by decide) (fun x1133x ex1133 (_ : True) => ?_)
                  refine po_eq (fun q1134 => ?_) (fun q1134 => ?_)
                  · refine po_ck (nb_of (Or.inr rfl)) ?_
                    exact po_ret ⟨rfl, hW1132, (Or.inr rfl)⟩
                  · refine po_ck (nb_of (Or.inl rfl)) ?_
                    exact po_ret ⟨rfl, hW1132, (Or.inl rfl)⟩
          · refine po_some ?_
            refine po_ck (wt_isO hW7 h1 (by decide)) ?_
            refine po_ro (tX5_breaksCell hW7 h1) (fun y1135 ex1135 p1135 => ?_)
            dsimp only
            refine po_eq (fun q1136 => ?_) (fun q1136 => ?_)
            · refine po_gRm hW7 h0 rfl rfl (fun i1137 ex1137 hi1137 hm1137 => ?_)
              refine po_eq (fun q1138 => ?_) (fun q1138 => ?_)
              · refine po_some ?_
                refine po_bind ex1082 ?_
                refine po_w (tX0_addEscaped hW7 ⟨_, rfl, h1⟩ ⟨_, rfl, hi1137, hm1137⟩) (fun y1139 g1139 hW1139 p1139 => ?_)
                dsimp only
                refine po_eq (fun q1140 => ?_) (fun q1140 => ?_)
                · refine po_gRm hW1139 h0 rfl rfl (fun i1141 ex1141 hi1141 hm1141 => ?_)
                  refine po_gRm hW1139 h0 rfl rfl (fun i1142 ex1142 hi1142 hm1142 => ?_)
                  refine po_some ?_
                  refine po_gI hW1139 h3 rfl rfl (by decide) (fun x1143x ex1143 (_ : True) => ?_)
                  refine po_some ?_
                  refine po_gI hW1139 (h2 i1 rfl) rfl rfl (by decide) (fun x1144x ex1144 (hx1144 : x1144x = 0 ∨ x1144x = 1) => ?_)
                  refine po_w (tX0_addEscaped hW1139 ⟨_, rfl, hi1141⟩ ⟨_, rfl, hi1142, hm1142⟩) (fun y1145 g1145 hW1145 p1145 => ?_)
                  dsimp only
                  refine po_ck rfl ?_
                  exact po_ret ⟨rfl, hW1145, (Or.inr rfl)⟩
                · refine po_gRm hW1139 h0 rfl rfl (fun i1146 ex1146 hi1146 hm1146 => ?_)
                  refine po_some ?_
                  refine po_ck (wt_isO hW1139 hi1146 (by decide)) ?_
                  refine po_ro (tX5_breaksCell hW1139 hi1146) (fun y1147 ex1147 p1147 => ?_)
                  dsimp only
                  refine po_eq (fun q1148 => ?_) (fun q1148 => ?_)
                  · refine po_gRm hW1139 h0 rfl rfl (fun i1149 ex1149 hi1149 hm1149 => ?_)
                    refine po_bind ex1146 ?_
                    refine po_bind ex1146 ?_
                    refine po_some ?_
                    refine po_ck (wt_isO hW1139 hi1146 (by decide)) ?_
                    refine po_ro (tX5_size hW1139 hi1146) (fun y1150 ex1150 p1150 => ?_)
                    dsimp only
                    refine po_some ?_
                    refine po_ck (wt_isO hW1139 hi1149 (by decide)) ?_
                    refine po_w (tX5_addPart hW1139 hi1149 hm1149 ⟨_, rfl, hi1146⟩) (fun y1151 g1151 hW1151 p1151 => ?_)
                    dsimp only
                    refine po_ck (nb_of p1151) ?_
                    exact po_ret ⟨rfl, hW1151, p1151⟩
                  · refine po_pI hW1139 h0 rfl rfl (vv_i (by decide) trivial) (fun g1152 hW1152 ex1152 => ?_)
                    refine po_gRm hW1152 h0 rfl rfl (fun i1153 ex1153 hi1153 hm1153 => ?_)
                    refine po_some ?_
                    refine po_ck (wt_isO hW1152 hi1153 (by decide)) ?_
                    refine po_w (tX5_add hW1152 hi1153 hm1153) (fun y1154 g1154 hW1154 p1154 => ?_)
                    dsimp only
                    refine po_gRm hW1154 h0 rfl rfl (fun i1155 ex1155 hi1155 hm1155 => ?_)
                    refine po_gRm hW1154 h0 rfl rfl (fun i1156 ex1156 hi1156 hm1156 => ?_)
                    refine po_w (tX0_addEscaped hW1154 ⟨_, rfl, hi1155⟩ ⟨_, rfl, hi1156, hm1156⟩) (fun y1157 g1157 hW1157 p1157 => ?_)
                    dsimp only
                    refine po_gRm hW1157 h0 rfl rfl (fun i1158 ex1158 hi1158 hm1158 => ?_)
                    refine po_some ?_
                    refine po_ck (wt_isO hW1157 hi1158 (by decide)) ?_
                    refine po_w (tX5_add hW1157 hi1158 hm1158) (fun y1159 g1159 hW1159 p1159 => ?_)
                    dsimp only
                    refine po_some ?_
                    refine po_gI hW1159 h3 rfl rfl (by decide) (fun x1160x ex1160 (_ : True) => ?_)
                    refine po_eq (fun q1161 => ?_) (fun q1161 => ?_)
                    · refine po_ck (nb_of (Or.inr rfl)) ?_
                      exact po_ret ⟨rfl, hW1159, (Or.inr rfl)⟩
                    · refine po_ck (nb_of (Or.inl rfl)) ?_
                      exact po_ret ⟨rfl, hW1159, (Or.inl rfl)⟩
              · refine po_w (tX0_addEscaped hW7 ⟨_, rfl, h1⟩ ⟨_, rfl, hi1137, hm1137⟩) (fun y1162 g1162 hW1162 p1162 => ?_)
                dsimp only
                refine po_eq (fun q1163 => ?_) (fun q1163 => ?_)
                · refine po_gRm hW1162 h0 rfl rfl (fun i1164 ex1164 hi1164 hm1164 => ?_)
                  refine po_gRm hW1162 h0 rfl rfl (fun i1165 ex1165 hi1165 hm1165 => ?_)
                  refine po_some ?_
                  refine po_gI hW1162 h3 rfl rfl (by decide) (fun x1166x ex1166 (_ : True) => ?_)
                  refine po_some ?_
                  refine po_gI hW1162 (h2 i1 rfl) rfl rfl (by decide) (fun x1167x ex1167 (hx1167 : x1167x = 0 ∨ x1167x = 1) => ?_)
                  refine po_w (tX0_addEscaped hW1162 ⟨_, rfl, hi1164⟩ ⟨_, rfl, hi1165, hm1165⟩) (fun y1168 g1168 hW1168 p1168 => ?_)
                  dsimp only
                  refine po_ck rfl ?_
                  exact po_ret ⟨rfl, hW1168, (Or.inr rfl)⟩
                · refine po_gRm hW1162 h0 rfl rfl (fun i1169 ex1169 hi1169 hm1169 => ?_)
                  refine po_some ?_
                  refine po_ck (wt_isO hW1162 hi1169 (by decide)) ?_
                  refine po_ro (tX5_breaksCell hW1162 hi1169) (fun y1170 ex1170 p1170 => ?_)
                  dsimp only
                  refine po_eq (fun q1171 => ?_) (fun q1171 => ?_)
                  · refine po_gRm hW1162 h0 rfl rfl (fun i1172 ex1172 hi1172 hm1172 => ?_)
                    refine po_bind ex1169 ?_
                    refine po_bind ex1169 ?_
                    refine po_some ?_
                    refine po_ck (wt_isO hW1162 hi1169 (by decide)) ?_
                    refine po_ro (tX5_size hW1162 hi1169) (fun y1173 ex1173 p1173 => ?_)
                    dsimp only
                    refine po_some ?_
                    refine po_ck (wt_isO hW1162 hi1172 (by decide)) ?_
                    refine po_w (tX5_addPart hW1162 hi1172 hm1172 ⟨_, rfl, hi1169⟩) (fun y1174 g1174 hW1174 p1174 => ?_)
                    dsimp only
                    refine po_ck (nb_of p1174) ?_
                    exact po_ret ⟨rfl, hW1174, p1174⟩
                  · refine po_pI hW1162 h0 rfl rfl (vv_i (by decide) trivial) (fun g1175 hW1175 ex1175 => ?_)
                    refine po_gRm hW1175 h0 rfl rfl (fun i1176 ex1176 hi1176 hm1176 => ?_)
                    refine po_some ?_
                    refine po_ck (wt_isO hW1175 hi1176 (by decide)) ?_
                    refine po_w (tX5_add hW1175 hi1176 hm1176) (fun y1177 g1177 hW1177 p1177 => ?_)
                    dsimp only
                    refine po_gRm hW1177 h0 rfl rfl (fun i1178 ex1178 hi1178 hm1178 => ?_)
                    refine po_gRm hW1177 h0 rfl rfl (fun i1179 ex1179 hi1179 hm1179 => ?_)
                    refine po_w (tX0_addEscaped hW1177 ⟨_, rfl, hi1178⟩ ⟨_, rfl, hi1179, hm1179⟩) (fun y1180 g1180 hW1180 p1180 => ?_)
                    dsimp only
                    refine po_gRm hW1180 h0 rfl rfl (fun i1181 ex1181 hi1181 hm1181 => ?_)
                    refine po_some ?_
                    refine po_ck (wt_isO hW1180 hi1181 (by decide)) ?_
                    refine po_w (tX5_add hW1180 hi1181 hm1181) (fun y1182 g1182 hW1182 p1182 => ?_)
                    dsimp only
                    refine po_some ?_
                    refine po_gI hW1182 h3 rfl rfl (by decide) (fun x1183x ex1183 (_ : True) => ?_)
                    refine po_eq (fun q1184 => ?_) (fun q1184 => ?_)
                    · refine po_ck (nb_of (Or.inr rfl)) ?_
                      exact po_ret ⟨rfl, hW1182, (Or.inr rfl)⟩
                    · refine po_ck (nb_of (Or.inl rfl)) ?_
                      exact po_ret ⟨rfl, hW1182, (Or.inl rfl)⟩
            · refine po_gRm hW7 h0 rfl rfl (fun i1185 ex1185 hi1185 hm1185 => ?_)
              refine po_some ?_
              refine po_ck (wt_isO hW7 hi1185 (by decide)) ?_
              refine po_w (tX5_add hW7 hi1185 hm1185) (fun y1186 g1186 hW1186 p1186 => ?_)
              dsimp only
              refine po_gRm hW1186 h0 rfl rfl (fun i1187 ex1187 hi1187 hm1187 => ?_)
              refine po_w (tX0_addEscaped hW1186 ⟨_, rfl, h1⟩ ⟨_, rfl, hi1187, hm1187⟩) (fun y1188 g1188 hW1188 p1188 => ?_)
              dsimp only
              refine po_gRm hW1188 h0 rfl rfl (fun i1189 ex1189 hi1189 hm1189 => ?_)
              refine po_some ?_
              refine po_ck (wt_isO hW1188 hi1189 (by decide)) ?_
              refine po_w (tX5_add hW1188 hi1189 hm1189) (fun y1190 g1190 hW1190 p1190 => ?_)
              dsimp only
              refine po_some ?_
              refine po_gI hW1190 h3 rfl rfl (by decide) (fun x1191x ex1191 (_ : True) => ?_)
              refine po_eq (fun q1192 => ?_) (fun q1192 => ?_)
              · refine po_pI hW1190 h0 rfl rfl (vv_i (by decide) trivial) (fun g1193 hW1193 ex1193 => ?_)
                refine po_eq (fun q1194 => ?_) (fun q1194 => ?_)
                · refine po_gRm hW1193 h0 rfl rfl (fun i1195 ex1195 hi1195 hm1195 => ?_)
                  refine po_gRm hW1193 h0 rfl rfl (fun i1196 ex1196 hi1196 hm1196 => ?_)
                  refine po_some ?_
                  refine po_gI hW1193 h3 rfl rfl (by decide) (fun x1197x ex1197 (_ : True) => ?_)
                  refine po_some ?_
                  refine po_gI hW1193 (h2 i1 rfl) rfl rfl (by decide) (fun x1198x ex1198 (hx1198 : x1198x = 0 ∨ x1198x = 1) => ?_)
                  refine po_w (tX0_addEscaped hW1193 ⟨_, rfl, hi1195⟩ ⟨_, rfl, hi1196, hm1196⟩) (fun y1199 g1199 hW1199 p1199 => ?_)
                  dsimp only
                  refine po_ck rfl ?_
                  exact po_ret ⟨rfl, hW1199, (Or.inr rfl)⟩
                · refine po_gRm hW1193 h0 rfl rfl (fun i1200 ex1200 hi1200 hm1200 => ?_)
                  refine po_some ?_
                  refine po_ck (wt_isO hW1193 hi1200 (by decide)) ?_
                  refine po_ro (tX5_breaksCell hW1193 hi1200) (fun y1201 ex1201 p1201 => ?_)
                  dsimp only
                  refine po_eq (fun q1202 => ?_) (fun q1202 => ?_)
                  · refine po_gRm hW1193 h0 rfl rfl (fun i1203 ex1203 hi1203 hm1203 => ?_)
                    refine po_bind ex1200 ?_
                    refine po_bind ex1200 ?_
                    refine po_some ?_
                    refine po_ck (wt_isO hW1193 hi1200 (by decide)) ?_
                    refine po_ro (tX5_size hW1193 hi1200) (fun y1204 ex1204 p1204 => ?_)
                    dsimp only
                    refine po_some ?_
                    refine po_ck (wt_isO hW1193 hi1203 (by decide)) ?_
                    refine po_w (tX5_addPart hW1193 hi1203 hm1203 ⟨_, rfl, hi1200⟩) (fun y1205 g1205 hW1205 p1205 => ?_)
                    dsimp only
                    refine po_ck (nb_of p1205) ?_
                    exact po_ret ⟨rfl, hW1205, p1205⟩
                  · refine po_pI hW1193 h0 rfl rfl (vv_i (by decide) trivial) (fun g1206 hW1206 ex1206 => ?_)
                    refine po_gRm hW1206 h0 rfl rfl (fun i1207 ex1207 hi1207 hm1207 => ?_)
                    refine po_some ?_
                    refine po_ck (wt_isO hW1206 hi1207 (by decide)) ?_
                    refine po_w (tX5_add hW1206 hi1207 hm1207) (fun y1208 g1208 hW1208 p1208 => ?_)
                    dsimp only
                    refine po_gRm hW1208 h0 rfl rfl (fun i1209 ex1209 hi1209 hm1209 => ?_)
                    refine po_gRm hW1208 h0 rfl rfl (fun i1210 ex1210 hi1210 hm1210 => ?_)
                    refine po_w (tX0_addEscaped hW1208 ⟨_, rfl, hi1209⟩ ⟨_, rfl, hi1210, hm1210⟩) (fun y1211 g1211 hW1211 p1211 => ?_)
                    dsimp only
                    refine po_gRm hW1211 h0 rfl rfl (fun i1212 ex1212 hi1212 hm1212 => ?_)
                    refine po_some ?_
                    refine po_ck (wt_isO hW1211 hi1212 (by decide)) ?_
                    refine po_w (tX5_add hW1211 hi1212 hm1212) (fun y1213 g1213 hW1213 p1213 => ?_)
                    dsimp only
                    refine po_some ?_
                    refine po_gI hW1213 h3 rfl rfl (by decide) (fun x1214x ex1214 (_ : True) => ?_)
                    refine po_eq (fun q1215 => ?_) (fun q1215 => ?_)
                    · refine po_ck (nb_of (Or.inr rfl)) ?_
                      exact po_ret ⟨rfl, hW1213, (Or.inr rfl)⟩
                    · refine po_ck (nb_of (Or.inl rfl)) ?_
                      exact po_ret ⟨rfl, hW1213, (Or.inl rfl)⟩
              · refine po_bind ex1191 ?_
                refine po_eq (fun q1216 => ?_) (fun q1216 => ?_)
                · refine po_pI hW1190 h0 rfl rfl (vv_i (by decide) trivial) (fun g1217 hW1217 ex1217 => ?_)
                  refine po_eq (fun q1218 => ?_) (fun q1218 => ?_)
                  · refine po_gRm hW1217 h0 rfl rfl (fun i1219 ex1219 hi1219 hm1219 => ?_)
                    refine po_gRm hW1217 h0 rfl rfl (fun i1220 ex1220 hi1220 hm1220 => ?_)
                    refine po_some ?_
                    refine po_gI hW1217 h3 rfl rfl (by decide) (fun x1221x ex1221 (_ : True) => ?_)
                    refine po_some ?_
                    refine po_gI hW1217 (h2 i1 rfl) rfl rfl (by decide) (fun x1222x ex1222 (hx1222 : x1222x = 0 ∨ x1222x = 1) => ?_)
                    refine po_w (tX0_addEscaped hW1217 ⟨_, rfl, hi1219⟩ ⟨_, rfl, hi1220, hm1220⟩) (fun y1223 g1223 hW1223 p1223 => ?_)
                    dsimp only
                    refine po_ck rfl ?_
                    exact po_ret ⟨rfl, hW1223, (Or.inr rfl)⟩
                  · refine po_gRm hW1217 h0 rfl rfl (fun i1224 ex1224 hi1224 hm1224 => ?_)
                    refine po_some ?_
                    refine po_ck (wt_isO hW1217 hi1224 (by decide)) ?_
                    refine po_ro (tX5_breaksCell hW1217 hi1224) (fun y1225 ex1225 p1225 => ?_)
                    dsimp only
                    refine po_eq (fun q1226 => ?_) (fun q1226 => ?_)
                    · refine po_gRm hW1217 h0 rfl rfl (fun i1227 ex1227 hi1227 hm1227 => ?_)
                      refine po_bind ex1224 ?_
                      refine po_bind ex1224 ?_
                      refine po_some ?_
                      refine po_ck (wt_isO hW1217 hi1224 (by decide)) ?_
                      refine po_ro (tX5_size hW1217 hi1224) (fun y1228 ex1228 p1228 => ?_)
                      dsimp only
                      refine po_some ?_
                      refine po_ck (wt_isO hW1217 hi1227 (by decide)) ?_
                      refine po_w (tX5_addPart hW1217 hi1227 hm1227 ⟨_, rfl, hi1224⟩) (fun y1229 g1229 hW1229 p1229 => ?_)
                      dsimp only
                      refine po_ck (nb_of p1229) ?_
                      exact po_ret ⟨rfl, hW1229, p1229⟩
                    · refine po_pI hW1217 h0 rfl rfl (vv_i (by decide) trivial) (fun g1230 hW1230 ex1230 => ?_)
                      refine po_gRm hW1230 h0 rfl rfl (fun i1231 ex1231 hi1231 hm1231 => ?_)
                      refine po_some ?_
                      refine po_ck (wt_isO hW1230 hi1231 (by decide)) ?_
                      refine po_w (tX5_add hW1230 hi1231 hm1231) (fun y1232 g1232 hW1232 p1232 => ?_)
                      dsimp only
                      refine po_gRm hW1232 h0 rfl rfl (fun i1233 ex1233 hi1233 hm1233 => ?_)
                      refine po_gRm hW1232 h0 rfl rfl (fun i1234 ex1234 hi1234 hm1234 => ?_)
                      refine po_w (tX0_addEscaped hW1232 ⟨_, rfl, hi1233⟩ ⟨_, rfl, hi1234, hm1234⟩) (fun y1235 g1235 hW1235 p1235 => ?_)
                      dsimp only
                      refine po_gRm hW1235 h0 rfl rfl (fun i1236 ex1236 hi1236 hm1236 => ?_)
                      refine po_some ?_
                      refine po_ck (wt_isO hW1235 hi1236 (by decide)) ?_
                      refine po_w (tX5_add hW1235 hi1236 hm1236) (fun y1237 g1237 hW1237 p1237 => ?_)
                      dsimp only
                      refine po_some ?_
                      refine po_gI hW1237 h3 rfl rfl (by decide) (fun x1238x ex1238 (_ : True) => ?_)
                      refine po_eq (fun q1239 => ?_) (fun q1239 => ?_)
                      · refine po_ck (nb_of (Or.inr rfl)) ?_
                        exact po_ret ⟨rfl, hW1237, (Or.inr rfl)⟩
                      · refine po_ck (nb_of (Or.inl rfl)) ?_
                        exact po_ret ⟨rfl, hW1237, (Or.inl rfl)⟩
                · refine po_pI hW1190 h0 rfl rfl (vv_i (by decide) trivial) (fun g1240 hW1240 ex1240 => ?_)
                  refine po_eq (fun q1241 => ?_) (fun q1241 => ?_)
                  · refine po_gRm hW1240 h0 rfl rfl (fun i1242 ex1242 hi1242 hm1242 => ?_)
                    refine po_gRm hW1240 h0 rfl rfl (fun i1243 ex1243 hi1243 hm1243 => ?_)
                    refine po_some ?_
                    refine po_gI hW1240 h3 rfl rfl (by decide) (fun x1244x ex1244 (_ : True) => ?_)
                    refine po_some ?_
                    refine po_gI hW1240 (h2 i1 rfl) rfl rfl (by decide) (fun x1245x ex1245 (hx1245 : x1245x = 0 ∨ x1245x = 1) => ?_)
                    refine po_w (tX0_addEscaped hW1240 ⟨_, rfl, hi1242⟩ ⟨_, rfl, hi1243, hm1243⟩) (fun y1246 g1246 hW1246 p1246 => ?_)
                    dsimp only
                    refine po_ck rfl ?_
                    exact po_ret ⟨rfl, hW1246, (Or.inr rfl)⟩
                  · refine po_gRm hW1240 h0 rfl rfl (fun i1247 ex1247 hi1247 hm1247 => ?_)
                    refine po_some ?_
                    refine po_ck (wt_isO hW1240 hi1247 (by decide)) ?_
                    refine po_ro (tX5_breaksCell hW1240 hi1247) (fun y1248 ex1248 p1248 => ?_)
                    dsimp only
                    refine po_eq (fun q1249 => ?_) (fun q1249 => ?_)
                    · refine po_gRm hW1240 h0 rfl rfl (fun i1250 ex1250 hi1250 hm1250 => ?_)
                      refine po_bind ex1247 ?_
                      refine po_bind ex1247 ?_
                      refine po_some ?_
                      refine po_ck (wt_isO hW1240 hi1247 (by decide)) ?_
                      refine po_ro (tX5_size hW1240 hi1247) (fun y1251 ex1251 p1251 => ?_)
                      dsimp only
                      refine po_some ?_
                      refine po_ck (wt_isO hW1240 hi1250 (by decide)) ?_
                      refine po_w (tX5_addPart hW1240 hi1250 hm1250 ⟨_, rfl, hi1247⟩) (fun y1252 g1252 hW1252 p1252 => ?_)
                      dsimp only
                      refine po_ck (nb_of p1252) ?_
                      exact po_ret ⟨rfl, hW1252, p1252⟩
                    · refine po_pI hW1240 h0 rfl rfl (vv_i (by decide) trivial) (fun g1253 hW1253 ex1253 => ?_)
                      refine po_gRm hW1253 h0 rfl rfl (fun i1254 ex1254 hi1254 hm1254 => ?_)
                      refine po_some ?_
                      refine po_ck (wt_isO hW1253 hi1254 (by decide)) ?_
                      refine po_w (tX5_add hW1253 hi1254 hm1254) (fun y1255 g1255 hW1255 p1255 => ?_)
                      dsimp only
                      refine po_gRm hW1255 h0 rfl rfl (fun i1256 ex1256 hi1256 hm1256 => ?_)
                      refine po_gRm hW1255 h0 rfl rfl (fun i1257 ex1257 hi1257 hm1257 => ?_)
                      refine po_w (tX0_addEscaped hW1255 ⟨_, rfl, hi1256⟩ ⟨_, rfl, hi1257, hm1257⟩) (fun y1258 g1258 hW1258 p1258 => ?_)
                      dsimp only
                      refine po_gRm hW1258 h0 rfl rfl (fun i1259 ex1259 hi1259 hm1259 => ?_)
                      refine po_some ?_
                      refine po_ck (wt_isO hW1258 hi1259 (by decide)) ?_
                      refine po_w (tX5_add hW1258 hi1259 hm1259) (fun y1260 g1260 hW1260 p1260 => ?_)
                      dsimp only
                      refine po_some ?_
                      refine po_gI hW1260 h3 rfl rfl (by decide) (fun x1261x ex1261 (_ : True) => ?_)
                      refine po_eq (fun q1262 => ?_) (fun q1262 => ?_)
                      · refine po_ck (nb_of (Or.inr rfl)) ?_
                        exact po_ret ⟨rfl, hW1260, (Or.inr rfl)⟩
                      · refine po_ck (nb_of (Or.inl rfl)) ?_
                        exact po_ret ⟨rfl, hW1260, (Or.inl rfl)⟩
        · refine po_eq (fun q1263 => ?_) (fun q1263 => ?_)
          · refine po_gRm hW7 h0 rfl rfl (fun i1264 ex1264 hi1264 hm1264 => ?_)
            refine po_eq (fun q1265 => ?_) (fun q1265 => ?_)
            · refine po_some ?_
              refine po_bind ex1082 ?_
              refine po_w (tX0_addEscaped hW7 ⟨_, rfl, h1⟩ ⟨_, rfl, hi1264, hm1264⟩) (fun y1266 g1266 hW1266 p1266 => ?_)
              dsimp only
              refine po_eq (fun q1267 => ?_) (fun q1267 => ?_)
              · refine po_gRm hW1266 h0 rfl rfl (fun i1268 ex1268 hi1268 hm1268 => ?_)
                refine po_gRm hW1266 h0 rfl rfl (fun i1269 ex1269 hi1269 hm1269 => ?_)
                refine po_some ?_
                refine po_gI hW1266 h3 rfl rfl (by decide) (fun x1270x ex1270 (_ : True) => ?_)
                refine po_some ?_
                refine po_gI hW1266 (h2 i1 rfl) rfl rfl (by decide) (fun x1271x ex1271 (hx1271 : x1271x = 0 ∨ x1271x = 1) => ?_)
                refine po_w (tX0_addEscaped hW1266 ⟨_, rfl, hi1268⟩ ⟨_, rfl, hi1269, hm1269⟩) (fun y1272 g1272 hW1272 p1272 => ?_)
                dsimp only
                refine po_ck rfl ?_
                exact po_ret ⟨rfl, hW1272, (Or.inr rfl)⟩
              · refine po_gRm hW1266 h0 rfl rfl (fun i1273 ex1273 hi1273 hm1273 => ?_)
                refine po_some ?_
                refine po_ck (wt_isO hW1266 hi1273 (by decide)) ?_
                refine po_ro (tX5_breaksCell hW1266 hi1273) (fun y1274 ex1274 p1274 => ?_)
                dsimp only
                refine po_eq (fun q1275 => ?_) (fun q1275 => ?_)
                · refine po_gRm hW1266 h0 rfl rfl (fun i1276 ex1276 hi1276 hm1276 => ?_)
                  refine po_bind ex1273 ?_
                  refine po_bind ex1273 ?_
                  refine po_some ?_
                  refine po_ck (wt_isO hW1266 hi1273 (by decide)) ?_
                  refine po_ro (tX5_size hW1266 hi1273) (fun y1277 ex1277 p1277 => ?_)
                  dsimp only
                  refine po_some ?_
                  refine po_ck (wt_isO hW1266 hi1276 (by decide)) ?_
                  refine po_w (tX5_addPart hW1266 hi1276 hm1276 ⟨_, rfl, hi1273⟩) (fun y1278 g1278 hW1278 p1278 => ?_)
                  dsimp only
                  refine po_ck (nb_of p1278) ?_
                  exact po_ret ⟨rfl, hW1278, p1278⟩
                · refine po_pI hW1266 h0 rfl rfl (vv_i (by decide) trivial) (fun g1279 hW1279 ex1279 => ?_)
                  refine po_gRm hW1279 h0 rfl rfl (fun i1280 ex1280 hi1280 hm1280 => ?_)
                  refine po_some ?_
                  refine po_ck (wt_isO hW1279 hi1280 (by decide)) ?_
                  refine po_w (tX5_add hW1279 hi1280 hm1280) (fun y1281 g1281 hW1281 p1281 => ?_)
                  dsimp only
                  refine po_gRm hW1281 h0 rfl rfl (fun i1282 ex1282 hi1282 hm1282 => ?_)
                  refine po_gRm hW1281 h0 rfl rfl (fun i1283 ex1283 hi1283 hm1283 => ?_)
                  refine po_w (tX0_addEscaped hW1281 ⟨_, rfl, hi1282⟩ ⟨_, rfl, hi1283, hm1283⟩) (fun y1284 g1284 hW1284 p1284 => ?_)
                  dsimp only
                  refine po_gRm hW1284 h0 rfl rfl (fun i1285 ex1285 hi1285 hm1285 => ?_)
                  refine po_some ?_
                  refine po_ck (wt_isO hW1284 hi1285 (by decide)) ?_
                  refine po_w (tX5_add hW1284 hi1285 hm1285) (fun y1286 g1286 hW1286 p1286 => ?_)
                  dsimp only
                  refine po_some ?_
                  refine po_gI hW1286 h3 rfl rfl (by decide) (fun x1287x ex1287 (_ : True) => ?_)
                  refine po_eq (fun q1288 => ?_) (fun q1288 => ?_)
                  · refine po_ck (nb_of (Or.inr rfl)) ?_
                    exact po_ret ⟨rfl, hW1286, (Or.inr rfl)⟩
                  · refine po_ck (nb_of (Or.inl rfl)) ?_
                    exact po_ret ⟨rfl, hW1286, (Or.inl rfl)⟩
            · refine po_w (tX0_addEscaped hW7 ⟨_, rfl, h1⟩ ⟨_, rfl, hi1264, hm1264⟩) (fun y1289 g1289 hW1289 p1289 => ?_)
              dsimp only
              refine po_eq (fun q1290 => ?_) (fun q1290 => ?_)
              · refine po_gRm hW1289 h0 rfl rfl (fun i1291 ex1291 hi1291 hm1291 => ?_)
                refine po_gRm hW1289 h0 rfl rfl (fun i1292 ex1292 hi1292 hm1292 => ?_)
                refine po_some ?_
                refine po_gI hW1289 h3 rfl rfl (by decide) (fun x1293x ex1293 (_ : True) => ?_)
                refine po_some ?_
                refine po_gI hW1289 (h2 i1 rfl) rfl rfl (by decide) (fun x1294x ex1294 (hx1294 : x1294x = 0 ∨ x1294x = 1) => ?_)
                refine po_w (tX0_addEscaped hW1289 ⟨_, rfl, hi1291⟩ ⟨_, rfl, hi1292, hm1292⟩) (fun y1295 g1295 hW1295 p1295 => ?_)
                dsimp only
                refine po_ck rfl ?_
                exact po_ret ⟨rfl, hW1295, (Or.inr rfl)⟩
              · refine po_gRm hW1289 h0 rfl rfl (fun i1296 ex1296 hi1296 hm1296 => ?_)
                refine po_some ?_
                refine po_ck (wt_isO hW1289 hi1296 (by decide)) ?_
                refine po_ro (tX5_breaksCell hW1289 hi1296) (fun y1297 ex1297 p1297 => ?_)
                dsimp only
                refine po_eq (fun q1298 => ?_) (fun q1298 => ?_)
                · refine po_gRm hW1289 h0 rfl rfl (fun i1299 ex1299 hi1299 hm1299 => ?_)
                  refine po_bind ex1296 ?_
                  refine po_bind ex1296 ?_
                  refine po_some ?_
                  refine po_ck (wt_isO hW1289 hi1296 (by decide)) ?_
                  refine po_ro (tX5_size hW1289 hi1296) (fun y1300 ex1300 p1300 => ?_)
                  dsimp only
                  refine po_some ?_
                  refine po_ck (wt_isO hW1289 hi1299 (by decide)) ?_
                  refine po_w (tX5_addPart hW1289 hi1299 hm1299 ⟨_, rfl, hi1296⟩) (fun y1301 g1301 hW1301 p1301 => ?_)
                  dsimp only
                  refine po_ck (nb_of p1301) ?_
                  exact po_ret ⟨rfl, hW1301, p1301⟩
                · refine po_pI hW1289 h0 rfl rfl (vv_i (by decide) trivial) (fun g1302 hW1302 ex1302 => ?_)
                  refine po_gRm hW1302 h0 rfl rfl (fun i1303 ex1303 hi1303 hm1303 => ?_)
                  refine po_some ?_
                  refine po_ck (wt_isO hW1302 hi1303 (by decide)) ?_
                  refine po_w (tX5_add hW1302 hi1303 hm1303) (fun y1304 g1304 hW1304 p1304 => ?_)
                  dsimp only
                  refine po_gRm hW1304 h0 rfl rfl (fun i1305 ex1305 hi1305 hm1305 => ?_)
                  refine po_gRm hW1304 h0 rfl rfl (fun i1306 ex1306 hi1306 hm1306 => ?_)
                  refine po_w (tX0_addEscaped hW1304 ⟨_, rfl, hi1305⟩ ⟨_, rfl, hi1306, hm1306⟩) (fun y1307 g1307 hW1307 p1307 => ?_)
                  dsimp only
                  refine po_gRm hW1307 h0 rfl rfl (fun i1308 ex1308 hi1308 hm1308 => ?_)
                  refine po_some ?_
                  refine po_ck (wt_isO hW1307 hi1308 (by decide)) ?_
                  refine po_w (tX5_add hW1307 hi1308 hm1308) (fun y1309 g1309 hW1309 p1309 => ?_)
                  dsimp only
                  refine po_some ?_
                  refine po_gI hW1309 h3 rfl rfl (by decide) (fun x1310x ex1310 (_ : True) => ?_)
                  refine po_eq (fun q1311 => ?_) (fun q1311 => ?_)
                  · refine po_ck (nb_of (Or.inr rfl)) ?_
                    exact po_ret ⟨rfl, hW1309, (Or.inr rfl)⟩
                  · refine po_ck (nb_of (Or.inl rfl)) ?_
                    exact po_ret ⟨rfl, hW1309, (Or.inl rfl)⟩
          · refine po_some ?_
            refine po_ck (wt_isO hW7 h1 (by decide)) ?_
            refine po_ro (tX5_breaksCell hW7 h1) (fun y1312 ex1312 p1312 => ?_)
            dsimp only
            refine po_eq (fun q1313 => ?_) (fun q1313 => ?_)
            · refine po_gRm hW7 h0 rfl rfl (fun i1314 ex1314 hi1314 hm1314 => ?_)
              refine po_eq (fun q1315 => ?_) (fun q1315 => ?_)
              · refine po_some ?_
                refine po_bind ex1082 ?_
                refine po_w (tX0_addEscaped hW7 ⟨_, rfl, h1⟩ ⟨_, rfl, hi1314, hm1314⟩) (fun y1316 g1316 hW1316 p1316 => ?_)
                dsimp only
                refine po_eq (fun q1317 => ?_) (fun q1317 => ?_)
                · refine po_gRm hW1316 h0 rfl rfl (fun i1318 ex1318 hi1318 hm1318 => ?_)
                  refine po_gRm hW1316 h0 rfl rfl (fun i1319 ex1319 hi1319 hm1319 => ?_)
                  refine po_some ?_
                  refine po_gI hW1316 h3 rfl rfl (by decide) (fun x1320x ex1320 (_ : True) => ?_)
                  refine po_some ?_
                  refine po_gI hW1316 (h2 i1 rfl) rfl rfl (by decide) (fun x1321x ex1321 (hx1321 : x1321x = 0 ∨ x1321x = 1) => ?_)
                  refine po_w (tX0_addEscaped hW1316 ⟨_, rfl, hi1318⟩ ⟨_, rfl, hi1319, hm1319⟩) (fun y1322 g1322 hW1322 p1322 => ?_)
                  dsimp only
                  refine po_ck rfl ?_
                  exact po_ret ⟨rfl, hW1322, (Or.inr rfl)⟩
                · refine po_gRm hW1316 h0 rfl rfl (fun i1323 ex1323 hi1323 hm1323 => ?_)
                  refine po_some ?_
                  refine po_ck (wt_isO hW1316 hi1323 (by decide)) ?_
                  refine po_ro (tX5_breaksCell hW1316 hi1323) (fun y1324 ex1324 p1324 => ?_)
                  dsimp only
                  refine po_eq (fun q1325 => ?_) (fun q1325 => ?_)
                  · refine po_gRm hW1316 h0 rfl rfl (fun i1326 ex1326 hi1326 hm1326 => ?_)
                    refine po_bind ex1323 ?_
                    refine po_bind ex1323 ?_
                    refine po_some ?_
                    refine po_ck (wt_isO hW1316 hi1323 (by decide)) ?_
                    refine po_ro (tX5_size hW1316 hi1323) (fun y1327 ex1327 p1327 => ?_)
                    dsimp only
                    refine po_some ?_
                    refine po_ck (wt_isO hW1316 hi1326 (by decide)) ?_
                    refine po_w (tX5_addPart hW1316 hi1326 hm1326 ⟨_, rfl, hi1323⟩) (fun y1328 g1328 hW1328 p1328 => ?_)
                    dsimp only
                    refine po_ck (nb_of p1328) ?_
                    exact po_ret ⟨rfl, hW1328, p1328⟩
                  · refine po_pI hW1316 h0 rfl rfl (vv_i (by decide) trivial) (fun g1329 hW1329 ex1329 => ?_)
                    refine po_gRm hW1329 h0 rfl rfl (fun i1330 ex1330 hi1330 hm1330 => ?_)
                    refine po_some ?_
                    refine po_ck (wt_isO hW1329 hi1330 (by decide)) ?_
                    refine po_w (tX5_add hW1329 hi1330 hm1330) (fun y1331 g1331 hW1331 p1331 => ?_)
                    dsimp only
                    refine po_gRm hW1331 h0 rfl rfl (fun i1332 ex1332 hi1332 hm1332 => ?_)
                    refine po_gRm hW1331 h0 rfl rfl (fun i1333 ex1333 hi1333 hm1333 => ?_)
                    refine po_w (tX0_addEscaped hW1331 ⟨_, rfl, hi1332⟩ ⟨_, rfl, hi1333, hm1333⟩) (fun y1334 g1334 hW1334 p1334 => ?_)
                    dsimp only
                    refine po_gRm hW1334 h0 rfl rfl (fun i1335 ex1335 hi1335 hm1335 => ?_)
                    refine po_some ?_
                    refine po_ck (wt_isO hW1334 hi1335 (by decide)) ?_
                    refine po_w (tX5_add hW1334 hi1335 hm1335) (fun y1336 g1336 hW1336 p1336 => ?_)
                    dsimp only
                    refine po_some ?_
                    refine po_gI hW1336 h3 rfl rfl (by decide) (fun x1337x ex1337 (_ : True) => ?_)
                    refine po_eq (fun q1338 => ?_) (fun q1338 => ?_)
                    · refine po_ck (nb_of (Or.inr rfl)) ?_
                      exact po_ret ⟨rfl, hW1336, (Or.inr rfl)⟩
                    · refine po_ck (nb_of (Or.inl rfl)) ?_
                      exact po_ret ⟨rfl, hW1336, (Or.inl rfl)⟩
              · refine po_w (tX0_addEscaped hW7 ⟨_, rfl, h1⟩ ⟨_, rfl, hi1314, hm1314⟩) (fun y1339 g1339 hW1339 p1339 => ?_)
                dsimp only
                refine po_eq (fun q1340 => ?_) (fun q1340 => ?_)
                · refine po_gRm hW1339 h0 rfl rfl (fun i1341 ex1341 hi1341 hm1341 => ?_)
                  refine po_gRm hW1339 h0 rfl rfl (fun i1342 ex1342 hi1342 hm1342 => ?_)
                  refine po_some ?_
                  refine po_gI hW1339 h3 rfl rfl (by decide) (fun x1343x ex1343 (_ : True) => ?_)
                  refine po_some ?_
                  refine po_gI hW1339 (h2 i1 rfl) rfl rfl (by decide) (fun x1344x ex1344 (hx1344 : x1344x = 0 ∨ x1344x = 1) => ?_)
                  refine po_w (tX0_addEscaped hW1339 ⟨_, rfl, hi1341⟩ ⟨_, rfl, hi1342, hm1342⟩) (fun y1345 g1345 hW1345 p1345 => ?_)
                  dsimp only
                  refine po_ck rfl ?_
                  exact po_ret ⟨rfl, hW1345, (Or.inr rfl)⟩
                · refine po_gRm hW1339 h0 rfl rfl (fun i1346 ex1346 hi1346 hm1346 => ?_)
                  refine po_some ?_
                  refine po_ck (wt_isO hW1339 hi1346 (by decide)) ?_
                  refine po_ro (tX5_breaksCell hW1339 hi1346) (fun y1347 ex1347 p1347 => ?_)
                  dsimp only
                  refine po_eq (fun q1348 => ?_) (fun q1348 => ?_)
                  · refine po_gRm hW1339 h0 rfl rfl (fun i1349 ex1349 hi1349 hm1349 => ?_)
                    refine po_bind ex1346 ?_
                    refine po_bind ex1346 ?_
                    refine po_some ?_
                    refine po_ck (wt_isO hW1339 hi1346 (by decide)) ?_
                    refine po_ro (tX5_size hW1339 hi1346) (fun y1350 ex1350 p1350 => ?_)
                    dsimp only
                    refine po_some ?_
                    refine po_ck (wt_isO hW1339 hi1349 (by decide)) ?_
                    refine po_w (tX5_addPart hW1339 hi1349 hm1349 ⟨_, rfl, hi1346⟩) (fun y1351 g1351 hW1351 p1351 => ?_)
                    dsimp only
                    refine po_ck (nb_of p1351) ?_
                    exact po_ret ⟨rfl, hW1351, p1351⟩
                  · refine po_pI hW1339 h0 rfl rfl (vv_i (by decide) trivial) (fun g1352 hW1352 ex1352 => ?_)
                    refine po_gRm hW1352 h0 rfl rfl (fun i1353 ex1353 hi1353 hm1353 => ?_)
                    refine po_some ?_
                    refine po_ck (wt_isO hW1352 hi1353 (by decide)) ?_
                    refine po_w (tX5_add hW1352 hi1353 hm1353) (fun y1354 g1354 hW1354 p1354 => ?_)
                    dsimp only
                    refine po_gRm hW1354 h0 rfl rfl (fun i1355 ex1355 hi1355 hm1355 => ?_)
                    refine po_gRm hW1354 h0 rfl rfl (fun i1356 ex1356 hi1356 hm1356 => ?_)
                    refine po_w (tX0_addEscaped hW1354 ⟨_, rfl, hi1355⟩ ⟨_, rfl, hi1356, hm1356⟩) (fun y1357 g1357 hW1357 p1357 => ?_)
                    dsimp only
                    refine po_gRm hW1357 h0 rfl rfl (fun i1358 ex1358 hi1358 hm1358 => ?_)
                    refine po_some ?_
                    refine po_ck (wt_isO hW1357 hi1358 (by decide)) ?_
                    refine po_w (tX5_add hW1357 hi1358 hm1358) (fun y1359 g1359 hW1359 p1359 => ?_)
                    dsimp only
                    refine po_some ?_
                    refine po_gI hW1359 h3 rfl rfl (by decide) (fun x1360x ex1360 (_ : True) => ?_)
                    refine po_eq (fun q1361 => ?_) (fun q1361 => ?_)
                    · refine po_ck (nb_of (Or.inr rfl)) ?_
                      exact po_ret ⟨rfl, hW1359, (Or.inr rfl)⟩
                    · refine po_ck (nb_of (Or.inl rfl)) ?_
                      exact po_ret ⟨rfl, hW1359, (Or.inl rfl)⟩
            · refine po_gRm hW7 h0 rfl rfl (fun i1362 ex1362 hi1362 hm1362 => ?_)
              refine po_some ?_
              refine po_ck (wt_isO hW7 hi1362 (by decide)) ?_
              refine po_w (tX5_add hW7 hi1362 hm1362) (fun y1363 g1363 hW1363 p1363 => ?_)
              dsimp only
              refine po_gRm hW1363 h0 rfl rfl (fun i1364 ex1364 hi1364 hm1364 => ?_)
              refine po_w (tX0_addEscaped hW1363 ⟨_, rfl, h1⟩ ⟨_, rfl, hi1364, hm1364⟩) (fun y1365 g1365 hW1365 p1365 => ?_)
              dsimp only
              refine po_gRm hW1365 h0 rfl rfl (fun i1366 ex1366 hi1366 hm1366 => ?_)
              refine po_some ?_
              refine po_ck (wt_isO hW1365 hi1366 (by decide)) ?_
              refine po_w (tX5_add hW1365 hi1366 hm1366) (fun y1367 g1367 hW1367 p1367 => ?_)
              dsimp only
              refine po_some ?_
              refine po_gI hW1367 h3 rfl rfl (by decide) (fun x1368x ex1368 (_ : True) => ?_)
              refine po_eq (fun q1369 => ?_) (fun q1369 => ?_)
              · refine po_pI hW1367 h0 rfl rfl (vv_i (by decide) trivial) (fun g1370 hW1370 ex1370 => ?_)
                refine po_eq (fun q1371 => ?_) (fun q1371 => ?_)
                · refine po_gRm hW1370 h0 rfl rfl (fun i1372 ex1372 hi1372 hm1372 => ?_)
                  refine po_gRm hW1370 h0 rfl rfl (fun i1373 ex1373 hi1373 hm1373 => ?_)
                  refine po_some ?_
                  refine po_gI hW1370 h3 rfl rfl (by decide) (fun x1374x ex1374 (_ : True) => ?_)
                  refine po_some ?_
                  refine po_gI hW1370 (h2 i1 rfl) rfl rfl (by decide) (fun x1375x ex1375 (hx1375 : x1375x = 0 ∨ x1375x = 1) => ?_)
                  refine po_w (tX0_addEscaped hW1370 ⟨_, rfl, hi1372⟩ ⟨_, rfl, hi1373, hm1373⟩) (fun y1376 g1376 hW1376 p1376 => ?_)
                  dsimp only
                  refine po_ck rfl ?_
                  exact po_ret ⟨rfl, hW1376, (Or.inr rfl)⟩
                · refine po_gRm hW1370 h0 rfl rfl (fun i1377 ex1377 hi1377 hm1377 => ?_)
                  refine po_some ?_
                  refine po_ck (wt_isO hW1370 hi1377 (by decide)) ?_
                  refine po_ro (tX5_breaksCell hW1370 hi1377) (fun y1378 ex1378 p1378 => ?_)
                  dsimp only
                  refine po_eq (fun q1379 => ?_) (fun q1379 => ?_)
                  · refine po_gRm hW1370 h0 rfl rfl (fun i1380 ex1380 hi1380 hm1380 => ?_)
                    refine po_bind ex1377 ?_
                    refine po_bind ex1377 ?_
                    refine po_some ?_
                    refine po_ck (wt_isO hW1370 hi1377 (by decide)) ?_
                    refine po_ro (tX5_size hW1370 hi1377) (fun y1381 ex1381 p1381 => ?_)
                    dsimp only
                    refine po_some ?_
                    refine po_ck (wt_isO hW1370 hi1380 (by decide)) ?_
                    refine po_w (tX5_addPart hW1370 hi1380 hm1380 ⟨_, rfl, hi1377⟩) (fun y1382 g1382 hW1382 p1382 => ?_)
                    dsimp only
                    refine po_ck (nb_of p1382) ?_
                    exact po_ret ⟨rfl, hW1382, p1382⟩
                  · refine po_pI hW1370 h0 rfl rfl (vv_i (by decide) trivial) (fun g1383 hW1383 ex1383 => ?_)
                    refine po_gRm hW1383 h0 rfl rfl (fun i1384 ex1384 hi1384 hm1384 => ?_)
                    refine po_some ?_
                    refine po_ck (wt_isO hW1383 hi1384 (by decide)) ?_
                    refine po_w (tX5_add hW1383 hi1384 hm1384) (fun y1385 g1385 hW1385 p1385 => ?_)
                    dsimp only
                    refine po_gRm hW1385 h0 rfl rfl (fun i1386 ex1386 hi1386 hm1386 => ?_)
                    refine po_gRm hW1385 h0 rfl rfl (fun i1387 ex1387 hi1387 hm1387 => ?_)
                    refine po_w (tX0_addEscaped hW1385 ⟨_, rfl, hi1386⟩ ⟨_, rfl, hi1387, hm1387⟩) (fun y1388 g1388 hW1388 p1388 => ?_)
                    dsimp only
                    refine po_gRm hW1388 h0 rfl rfl (fun i1389 ex1389 hi1389 hm1389 => ?_)
                    refine po_some ?_
                    refine po_ck (wt_isO hW1388 hi1389 (by decide)) ?_
                    refine po_w (tX5_add hW1388 hi1389 hm1389) (fun y1390 g1390 hW1390 p1390 => ?_)
                    dsimp only
                    refine po_some ?_
                    refine po_gI hW1390 h3 rfl rfl (by decide) (fun x1391x ex1391 (_ : True) => ?_)
                    refine po_eq (fun q1392 => ?_) (fun q1392 => ?_)
                    · refine po_ck (nb_of (Or.inr rfl)) ?_
                      exact po_ret ⟨rfl, hW1390, (Or.inr rfl)⟩
                    · refine po_ck (nb_of (Or.inl rfl)) ?_
                      exact po_ret ⟨rfl, hW1390, (Or.inl rfl)⟩
              · refine po_bind ex1368 ?_
                refine po_eq (fun q1393 => ?_) (fun q1393 => ?_)
                · refine po_pI hW1367 h0 rfl rfl (vv_i (by decide) trivial) (fun g1394 hW1394 ex1394 => ?_)
                  refine po_eq (fun q1395 => ?_) (fun q1395 => ?_)
                  · refine po_gRm hW1394 h0 rfl rfl (fun i1396 ex1396 hi1396 hm1396 => ?_)
                    refine po_gRm hW1394 h0 rfl rfl (fun i1397 ex1397 hi1397 hm1397 => ?_)
                    refine po_some ?_
                    refine po_gI hW1394 h3 rfl rfl (by decide) (fun x1398x ex1398 (_ : True) => ?_)
                    refine po_some ?_
                    refine po_gI hW1394 (h2 i1 rfl) rfl rfl (by decide) (fun x1399x ex1399 (hx1399 : x1399x = 0 ∨ x1399x = 1) => ?_)
                    refine po_w (tX0_addEscaped hW1394 ⟨_, rfl, hi1396⟩ ⟨_, rfl, hi1397, hm1397⟩) (fun y1400 g1400 hW1400 p1400 => ?_)
                    dsimp only
                    refine po_ck rfl ?_
                    exact po_ret ⟨rfl, hW1400, (Or.inr rfl)⟩
                  · refine po_gRm hW1394 h0 rfl rfl (fun i1401 ex1401 hi1401 hm1401 => ?_)
                    refine po_some ?_
                    refine po_ck (wt_isO hW1394 hi1401 (by decide)) ?_
                    refine po_ro (tX5_breaksCell hW1394 hi1401) (fun y1402 ex1402 p1402 => ?_)
                    dsimp only
                    refine po_eq (fun q1403 => ?_) (fun q1403 => ?_)
                    · refine po_gRm hW1394 h0 rfl rfl (fun i1404 ex1404 hi1404 hm1404 => ?_)
                      refine po_bind ex1401 ?_
                      refine po_bind ex1401 ?_
                      refine po_some ?_
                      refine po_ck (wt_isO hW1394 hi1401 (by decide)) ?_
                      refine po_ro (tX5_size hW1394 hi1401) (fun y1405 ex1405 p1405 => ?_)
                      dsimp only
                      refine po_some ?_
                      refine po_ck (wt_isO hW1394 hi1404 (by decide)) ?_
                      refine po_w (tX5_addPart hW1394 hi1404 hm1404 ⟨_, rfl, hi1401⟩) (fun y1406 g1406 hW1406 p1406 => ?_)
                      dsimp only
                      refine po_ck (nb_of p1406) ?_
                      exact po_ret ⟨rfl, hW1406, p1406⟩
                    · refine po_pI hW1394 h0 rfl rfl (vv_i (by decide) trivial) (fun g1407 hW1407 ex1407 => ?_)
                      refine po_gRm hW1407 h0 rfl rfl (fun i1408 ex1408 hi1408 hm1408 => ?_)
                      refine po_some ?_
                      refine po_ck (wt_isO hW1407 hi1408 (by decide)) ?_
                      refine po_w (tX5_add hW1407 hi1408 hm1408) (fun y1409 g1409 hW1409 p1409 => ?_)
                      dsimp only
                      refine po_gRm hW1409 h0 rfl rfl (fun i1410 ex1410 hi1410 hm1410 => ?_)
                      refine po_gRm hW1409 h0 rfl rfl (fun i1411 ex1411 hi1411 hm1411 => ?_)
                      refine po_w (tX0_addEscaped hW1409 ⟨_, rfl, hi1410⟩ ⟨_, rfl, hi1411, hm1411⟩) (fun y1412 g1412 hW1412 p1412 => ?_)
                      dsimp only
                      refine po_gRm hW1412 h0 rfl rfl (fun i1413 ex1413 hi1413 hm1413 => ?_)
                      refine po_some ?_
                      refine po_ck (wt_isO hW1412 hi1413 (by decide)) ?_
                      refine po_w (tX5_add hW1412 hi1413 hm1413) (fun y1414 g1414 hW1414 p1414 => ?_)
                      dsimp only
                      refine po_some ?_
                      refine po_gI hW1414 h3 rfl rfl (by decide) (fun x1415x ex1415 (_ : True) => ?_)
                      refine po_eq (fun q1416 => ?_) (fun q1416 => ?_)
                      · refine po_ck (nb_of (Or.inr rfl)) ?_
                        exact po_ret ⟨rfl, hW1414, (Or.inr rfl)⟩
                      · refine po_ck (nb_of (Or.inl rfl)) ?_
                        exact po_ret ⟨rfl, hW1414, (Or.inl rfl)⟩
                · refine po_pI hW1367 h0 rfl rfl (vv_i (by decide) trivial) (fun g1417 hW1417 ex1417 => ?_)
                  refine po_eq (fun q1418 => ?_) (fun q1418 => ?_)
                  · refine po_gRm hW1417 h0 rfl rfl (fun i1419 ex1419 hi1419 hm1419 => ?_)
                    refine po_gRm hW1417 h0 rfl rfl (fun i1420 ex1420 hi1420 hm1420 => ?_)
                    refine po_some ?_
                    refine po_gI hW1417 h3 rfl rfl (by decide) (fun x1421x ex1421 (_ : True) => ?_)
                    refine po_some ?_
                    refine po_gI hW1417 (h2 i1 rfl) rfl rfl (by decide) (fun x1422x ex1422 (hx1422 : x1422x = 0 ∨ x1422x = 1) => ?_)
                    refine po_w (tX0_addEscaped hW1417 ⟨_, rfl, hi1419⟩ ⟨_, rfl, hi1420, hm1420⟩) (fun y1423 g1423 hW1423 p1423 => ?_)
                    dsimp only
                    refine po_ck rfl ?_
                    exact po_ret ⟨rfl, hW1423, (Or.inr rfl)⟩
                  · refine po_gRm hW1417 h0 rfl rfl (fun i1424 ex1424 hi1424 hm1424 => ?_)
                    refine po_some ?_
                    refine po_ck (wt_isO hW1417 hi1424 (by decide)) ?_
                    refine po_ro (tX5_breaksCell hW1417 hi1424) (fun y1425 ex1425 p1425 => ?_)
                    dsimp only
                    refine po_eq (fun q1426 => ?_) (fun q1426 => ?_)
                    · refine po_gRm hW1417 h0 rfl rfl (fun i1427 ex1427 hi1427 hm1427 => ?_)
                      refine po_bind ex1424 ?_
                      refine po_bind ex1424 ?_
                      refine po_some ?_
                      refine po_ck (wt_isO hW1417 hi1424 (by decide)) ?_
                      refine po_ro (tX5_size hW1417 hi1424) (fun y1428 ex1428 p1428 => ?_)
                      dsimp only
                      refine po_some ?_
                      refine po_ck (wt_isO hW1417 hi1427 (by decide)) ?_
                      refine po_w (tX5_addPart hW1417 hi1427 hm1427 ⟨_, rfl, hi1424⟩) (fun y1429 g1429 hW1429 p1429 => ?_)
                      dsimp only
                      refine po_ck (nb_of p1429) ?_
                      exact po_ret ⟨rfl, hW1429, p1429⟩
                    · refine po_pI hW1417 h0 rfl rfl (vv_i (by decide) trivial) (fun g1430 hW1430 ex1430 => ?_)
                      refine po_gRm hW1430 h0 rfl rfl (fun i1431 ex1431 hi1431 hm1431 => ?_)
                      refine po_some ?_
                      refine po_ck (wt_isO hW1430 hi1431 (by decide)) ?_
                      refine po_w (tX5_add hW1430 hi1431 hm1431) (fun y1432 g1432 hW1432 p1432 => ?_)
                      dsimp only
                      refine po_gRm hW1432 h0 rfl rfl (fun i1433 ex1433 hi1433 hm1433 => ?_)
                      refine po_gRm hW1432 h0 rfl rfl (fun i1434 ex1434 hi1434 hm1434 => ?_)
                      refine po_w (tX0_addEscaped hW1432 ⟨_, rfl, hi1433⟩ ⟨_, rfl, hi1434, hm1434⟩) (fun y1435 g1435 hW1435 p1435 => ?_)
                      dsimp only
                      refine po_gRm hW1435 h0 rfl rfl (fun i1436 ex1436 hi1436 hm1436 => ?_)
                      refine po_some ?_
                      refine po_ck (wt_isO hW1435 hi1436 (by decide)) ?_
                      refine po_w (tX5_add hW1435 hi1436 hm1436) (fun y1437 g1437 hW1437 p1437 => ?_)
                      dsimp only
                      refine po_some ?_
                      refine po_gI hW1437 h3 rfl rfl (by decide) (fun x1438x ex1438 (_ : True) => ?_)
                      refine po_eq (fun q1439 => ?_) (fun q1439 => ?_)
                      · refine po_ck (nb_of (Or.inr rfl)) ?_
                        exact po_ret ⟨rfl, hW1437, (Or.inr rfl)⟩
                      · refine po_ck (nb_of (Or.inl rfl)) ?_
                        exact po_ret ⟨rfl, hW1437, (Or.inl rfl)⟩
      · refine po_eq (fun q1440 => ?_) (fun q1440 => ?_)
        · refine po_gRm hW7 h0 rfl rfl (fun i1441 ex1441 hi1441 hm1441 => ?_)
          refine po_eq (fun q1442 => ?_) (fun q1442 => ?_)
          · refine po_some ?_
            refine po_bind ex1082 ?_
            refine po_w (tX0_addEscaped hW7 ⟨_, rfl, h1⟩ ⟨_, rfl, hi1441, hm1441⟩) (fun y1443 g1443 hW1443 p1443 => ?_)
            dsimp only
            refine po_eq (fun q1444 => ?_) (fun q1444 => ?_)
            · refine po_gRm hW1443 h0 rfl rfl (fun i1445 ex1445 hi1445 hm1445 => ?_)
              refine po_gRm hW1443 h0 rfl rfl (fun i1446 ex1446 hi1446 hm1446 => ?_)
              refine po_some ?_
              refine po_gI hW1443 h3 rfl rfl (by decide) (fun x1447x ex1447 (_ : True) => ?_)
              refine po_some ?_
              refine po_gI hW1443 (h2 i1 rfl) rfl rfl (by decide) (fun x1448x ex1448 (hx1448 : x1448x = 0 ∨ x1448x = 1) => ?_)
              refine po_w (tX0_addEscaped hW1443 ⟨_, rfl, hi1445⟩ ⟨_, rfl, hi1446, hm1446⟩) (fun y1449 g1449 hW1449 p1449 => ?_)
              dsimp only
              refine po_ck rfl ?_
              exact po_ret ⟨rfl, hW1449, (Or.inr rfl)⟩
            · refine po_gRm hW1443 h0 rfl rfl (fun i1450 ex1450 hi1450 hm1450 => ?_)
              refine po_some ?_
              refine po_ck (wt_isO hW1443 hi1450 (by decide)) ?_
              refine po_ro (tX5_breaksCell hW1443 hi1450) (fun y1451 ex1451 p1451 => ?_)
              dsimp only
              refine po_eq (fun q1452 => ?_) (fun q1452 => ?_)
              · refine po_gRm hW1443 h0 rfl rfl (fun i1453 ex1453 hi1453 hm1453 => ?_)
                refine po_bind ex1450 ?_
                refine po_bind ex1450 ?_
                refine po_some ?_
                refine po_ck (wt_isO hW1443 hi1450 (by decide)) ?_
                refine po_ro (tX5_size hW1443 hi1450) (fun y1454 ex1454 p1454 => ?_)
                dsimp only
                refine po_some ?_
                refine po_ck (wt_isO hW1443 hi1453 (by decide)) ?_
                refine po_w (tX5_addPart hW1443 hi1453 hm1453 ⟨_, rfl, hi1450⟩) (fun y1455 g1455 hW1455 p1455 => ?_)
                dsimp only
                refine po_ck (nb_of p1455) ?_
                exact po_ret ⟨rfl, hW1455, p1455⟩
              · refine po_pI hW1443 h0 rfl rfl (vv_i (by decide) trivial) (fun g1456 hW1456 ex1456 => ?_)
                refine po_gRm hW1456 h0 rfl rfl (fun i1457 ex1457 hi1457 hm1457 => ?_)
                refine po_some ?_
                refine po_ck (wt_isO hW1456 hi1457 (by decide)) ?_
                refine po_w (tX5_add hW1456 hi1457 hm1457) (fun y1458 g1458 hW1458 p1458 => ?_)
                dsimp only
                refine po_gRm hW1458 h0 rfl rfl (fun i1459 ex1459 hi1459 hm1459 => ?_)
                refine po_gRm hW1458 h0 rfl rfl (fun i1460 ex1460 hi1460 hm1460 => ?_)
                refine po_w (tX0_addEscaped hW1458 ⟨_, rfl, hi1459⟩ ⟨_, rfl, hi1460, hm1460⟩) (fun y1461 g1461 hW1461 p1461 => ?_)
                dsimp only
                refine po_gRm hW1461 h0 rfl rfl (fun i1462 ex1462 hi1462 hm1462 => ?_)
                refine po_some ?_
                refine po_ck (wt_isO hW1461 hi1462 (by decide)) ?_
                refine po_w (tX5_add hW1461 hi1462 hm1462) (fun y1463 g1463 hW1463 p1463 => ?_)
                dsimp only
                refine po_some ?_
                refine po_gI hW1463 h3 rfl rfl (by decide) (fun x1464x ex1464 (_ : True) => ?_)
                refine po_eq (fun q1465 => ?_) (fun q1465 => ?_)
                · refine po_ck (nb_of (Or.inr rfl)) ?_
                  exact po_ret ⟨rfl, hW1463, (Or.inr rfl)⟩
                · refine po_ck (nb_of (Or.inl rfl)) ?_
                  exact po_ret ⟨rfl, hW1463, (Or.inl rfl)⟩
          · refine po_w (tX0_addEscaped hW7 ⟨_, rfl, h1⟩ ⟨_, rfl, hi1441, hm1441⟩) (fun y1466 g1466 hW1466 p1466 => ?_)
            dsimp only
            refine po_eq (fun q1467 => ?_) (fun q1467 => ?_)
            · refine po_gRm hW1466 h0 rfl rfl (fun i1468 ex1468 hi1468 hm1468 => ?_)
              refine po_gRm hW1466 h0 rfl rfl (fun i1469 ex1469 hi1469 hm1469 => ?_)
              refine po_some ?_
              refine po_gI hW1466 h3 rfl rfl (by decide) (fun x1470x ex1470 (_ : True) => ?_)
              refine po_some ?_
              refine po_gI hW1466 (h2 i1 rfl) rfl rfl (by decide) (fun x1471x ex1471 (hx1471 : x1471x = 0 ∨ x1471x = 1) => ?_)
              refine po_w (tX0_addEscaped hW1466 ⟨_, rfl, hi1468⟩ ⟨_, rfl, hi1469, hm1469⟩) (fun y1472 g1472 hW1472 p1472 => ?_)
              dsimp only
              refine po_ck rfl ?_
              exact po_ret ⟨rfl, hW1472, (Or.inr rfl)⟩
            · refine po_gRm hW1466 h0 rfl rfl (fun i1473 ex1473 hi1473 hm1473 => ?_)
              refine po_some ?_
              refine po_ck (wt_isO hW1466 hi1473 (by decide)) ?_
              refine po_ro (tX5_breaksCell hW1466 hi1473) (fun y1474 ex1474 p1474 => ?_)
              dsimp only
              refine po_eq (fun q1475 => ?_) (fun q1475 => ?_)
              · refine po_gRm hW1466 h0 rfl rfl (fun i1476 ex1476 hi1476 hm1476 => ?_)
                refine po_bind ex1473 ?_
                refine po_bind ex1473 ?_
                refine po_some ?_
                refine po_ck (wt_isO hW1466 hi1473 (by decide)) ?_
                refine po_ro (tX5_size hW1466 hi1473) (fun y1477 ex1477 p1477 => ?_)
                dsimp only
                refine po_some ?_
                refine po_ck (wt_isO hW1466 hi1476 (by decide)) ?_
                refine po_w (tX5_addPart hW1466 hi1476 hm1476 ⟨_, rfl, hi1473⟩) (fun y1478 g1478 hW1478 p1478 => ?_)
                dsimp only
                refine po_ck (nb_of p1478) ?_
                exact po_ret ⟨rfl, hW1478, p1478⟩
              · refine po_pI hW1466 h0 rfl rfl (vv_i (by decide) trivial) (fun g1479 hW1479 ex1479 => ?_)
                refine po_gRm hW1479 h0 rfl rfl (fun i1480 ex1480 hi1480 hm1480 => ?_)
                refine po_some ?_
                refine po_ck (wt_isO hW1479 hi1480 (by decide)) ?_
                refine po_w (tX5_add hW1479 hi1480 hm1480) (fun y1481 g1481 hW1481 p1481 => ?_)
                dsimp only
                refine po_gRm hW1481 h0 rfl rfl (fun i1482 ex1482 hi1482 hm1482 => ?_)
                refine po_gRm hW1481 h0 rfl rfl (fun i1483 ex1483 hi1483 hm1483 => ?_)
                refine po_w (tX0_addEscaped hW1481 ⟨_, rfl, hi1482⟩ ⟨_, rfl, hi1483, hm1483⟩) (fun y1484 g1484 hW1484 p1484 => ?_)
                dsimp only
                refine po_gRm hW1484 h0 rfl rfl (fun i1485 ex1485 hi1485 hm1485 => ?_)
                refine po_some ?_
                refine po_ck (wt_isO hW1484 hi1485 (by decide)) ?_
                refine po_w (tX5_add hW1484 hi1485 hm1485) (fun y1486 g1486 hW1486 p1486 => ?_)
                dsimp only
                refine po_some ?_
                refine po_gI hW1486 h3 rfl rfl (by decide) (fun x1487x ex1487 (_ : True) => ?_)
                refine po_eq (fun q1488 => ?_) (fun q1488 => ?_)
                · refine po_ck (nb_of (Or.inr rfl)) ?_
                  exact po_ret ⟨rfl, hW1486, (Or.inr rfl)⟩
                · refine po_ck (nb_of (Or.inl rfl)) ?_
                  exact po_ret ⟨rfl, hW1486, (Or.inl rfl)⟩
        · refine po_some ?_
          refine po_ck (wt_isO hW7 h1 (by decide)) ?_
          refine po_ro (tX5_breaksCell hW7 h1) (fun y1489 ex1489 p1489 => ?_)
          dsimp only
          refine po_eq (fun q1490 => ?_) (fun q1490 => ?_)
          · refine po_gRm hW7 h0 rfl rfl (fun i1491 ex1491 hi1491 hm1491 => ?_)
            refine po_eq (fun q1492 => ?_) (fun q1492 => ?_)
            · refine po_some ?_
              refine po_bind ex1082 ?_
              refine po_w (tX0_addEscaped hW7 ⟨_, rfl, h1⟩ ⟨_, rfl, hi1491, hm1491⟩) (fun y1493 g1493 hW1493 p1493 => ?_)
              dsimp only
              refine po_eq (fun q1494 => ?_) (fun q1494 => ?_)
              · refine po_gRm hW1493 h0 rfl rfl (fun i1495 ex1495 hi1495 hm1495 => ?_)
                refine po_gRm hW1493 h0 rfl rfl (fun i1496 ex1496 hi1496 hm1496 => ?_)
                refine po_some ?_
                refine po_gI hW1493 h3 rfl rfl (by decide) (fun x1497x ex1497 (_ : True) => ?_)
                refine po_some ?_
                refine po_gI hW1493 (h2 i1 rfl) rfl rfl (by decide) (fun x1498x ex1498 (hx1498 : x1498x = 0 ∨ x1498x = 1) => ?_)
                refine po_w (tX0_addEscaped hW1493 ⟨_, rfl, hi1495⟩ ⟨_, rfl, hi1496, hm1496⟩) (fun y1499 g1499 hW1499 p1499 => ?_)
                dsimp only
                refine po_ck rfl ?_
                exact po_ret ⟨rfl, hW1499, (Or.inr rfl)⟩
              · refine po_gRm hW1493 h0 rfl rfl (fun i1500 ex1500 hi1500 hm1500 => ?_)
                refine po_some ?_
                refine po_ck (wt_isO hW1493 hi1500 (by decide)) ?_
                refine po_ro (tX5_breaksCell hW1493 hi1500) (fun y1501 ex1501 p1501 => ?_)
                dsimp only
                refine po_eq (fun q1502 => ?_) (fun q1502 => ?_)
                · refine po_gRm hW1493 h0 rfl rfl (fun i1503 ex1503 hi1503 hm1503 => ?_)
                  refine po_bind ex1500 ?_
                  refine po_bind ex1500 ?_
                  refine po_some ?_
                  refine po_ck (wt_isO hW1493 hi1500 (by decide)) ?_
                  refine po_ro (tX5_size hW1493 hi1500) (fun y1504 ex1504 p1504 => ?_)
                  dsimp only
                  refine po_some ?_
                  refine po_ck (wt_isO hW1493 hi1503 (by decide)) ?_
                  refine po_w (tX5_addPart hW1493 hi1503 hm1503 ⟨_, rfl, hi1500⟩) (fun y1505 g1505 hW1505 p1505 => ?_)
                  dsimp only
                  refine po_ck (nb_of p1505) ?_
                  exact po_ret ⟨rfl, hW1505, p1505⟩
                · refine po_pI hW1493 h0 rfl rfl (vv_i (by decide) trivial) (fun g1506 hW1506 ex1506 => ?_)
                  refine po_gRm hW1506 h0 rfl rfl (fun i1507 ex1507 hi1507 hm1507 => ?_)
                  refine po_some ?_
                  refine po_ck (wt_isO hW1506 hi1507 (by decide)) ?_
                  refine po_w (tX5_add hW1506 hi1507 hm1507) (fun y1508 g1508 hW1508 p1508 => ?_)
                  dsimp only
                  refine po_gRm hW1508 h0 rfl rfl (fun i1509 ex1509 hi1509 hm1509 => ?_)
                  refine po_gRm hW1508 h0 rfl rfl (fun i1510 ex1510 hi1510 hm1510 => ?_)
                  refine po_w (tX0_addEscaped hW1508 ⟨_, rfl, hi1509⟩ ⟨_, rfl, hi1510, hm1510⟩) (fun y1511 g1511 hW1511 p1511 => ?_)
                  dsimp only
                  refine po_gRm hW1511 h0 rfl rfl (fun i1512 ex1512 hi1512 hm1512 => ?_)
                  refine po_some ?_
                  refine po_ck (wt_isO hW1511 hi1512 (by decide)) ?_
                  refine po_w (tX5_add hW1511 hi1512 hm1512) (fun y1513 g1513 hW1513 p1513 => ?_)
                  dsimp only
                  refine po_some ?_
                  refine po_gI hW1513 h3 rfl rfl (by decide) (fun x1514x ex1514 (_ : True) => ?_)
                  refine po_eq (fun q1515 => ?_) (fun q1515 => ?_)
                  · refine po_ck (nb_of (Or.inr rfl)) ?_
                    exact po_ret ⟨rfl, hW1513, (Or.inr rfl)⟩
                  · refine po_ck (nb_of (Or.inl rfl)) ?_
                    exact po_ret ⟨rfl, hW1513, (Or.inl rfl)⟩
            · refine po_w (tX0_addEscaped hW7 ⟨_, rfl, h1⟩ ⟨_, rfl, hi1491, hm1491⟩) (fun y1516 g1516 hW1516 p1516 => ?_)
              dsimp only
              refine po_eq (fun q1517 => ?_) (fun q1517 => ?_)
              · refine po_gRm hW1516 h0 rfl rfl (fun i1518 ex1518 hi1518 hm1518 => ?_)
                refine po_gRm hW1516 h0 rfl rfl (fun i1519 ex1519 hi1519 hm1519 => ?_)
                refine po_some ?_
                refine po_gI hW1516 h3 rfl rfl (by decide) (fun x1520x ex1520 (_ : True) => ?_)
                refine po_some ?_
                refine po_gI hW1516 (h2 i1 rfl) rfl rfl (by decide) (fun x1521x ex1521 (hx1521 : x1521x = 0 ∨ x1521x = 1) => ?_)
                refine po_w (tX0_addEscaped hW1516 ⟨_, rfl, hi1518⟩ ⟨_, rfl, hi1519, hm1519⟩) (fun y1522 g1522 hW1522 p1522 => ?_)
                dsimp only
                refine po_ck rfl ?_
                exact po_ret ⟨rfl, hW1522, (Or.inr rfl)⟩
              · refine po_gRm hW1516 h0 rfl rfl (fun i1523 ex1523 hi1523 hm1523 => ?_)
                refine po_some ?_
                refine po_ck (wt_isO hW1516 hi1523 (by decide)) ?_
                refine po_ro (tX5_breaksCell hW1516 hi1523) (fun y1524 ex1524 p1524 => ?_)
                dsimp only
                refine po_eq (fun q1525 => ?_) (fun q1525 => ?_)
                · refine po_gRm hW1516 h0 rfl rfl (fun i1526 ex1526 hi1526 hm1526 => ?_)
                  refine po_bind ex1523 ?_
                  refine po_bind ex1523 ?_
                  refine po_some ?_
                  refine po_ck (wt_isO hW1516 hi1523 (by decide)) ?_
                  refine po_ro (tX5_size hW1516 hi1523) (fun y1527 ex1527 p1527 => ?_)
                  dsimp only
                  refine po_some ?_
                  refine po_ck (wt_isO hW1516 hi1526 (by decide)) ?_
                  refine po_w (tX5_addPart hW1516 hi1526 hm1526 ⟨_, rfl, hi1523⟩) (fun y1528 g1528 hW1528 p1528 => ?_)
                  dsimp only
                  refine po_ck (nb_of p1528) ?_
                  exact po_ret ⟨rfl, hW1528, p1528⟩
                · refine po_pI hW1516 h0 rfl rfl (vv_i (by decide) trivial) (fun g1529 hW1529 ex1529 => ?_)
                  refine po_gRm hW1529 h0 rfl rfl (fun i1530 ex1530 hi1530 hm1530 => ?_)
                  refine po_some ?_
                  refine po_ck (wt_isO hW1529 hi1530 (by decide)) ?_
                  refine po_w (tX5_add hW1529 hi1530 hm1530) (fun y1531 g1531 hW1531 p1531 => ?_)
                  dsimp only
                  refine po_gRm hW1531 h0 rfl rfl (fun i1532 ex1532 hi1532 hm1532 => ?_)
                  refine po_gRm hW1531 h0 rfl rfl (fun i1533 ex1533 hi1533 hm1533 => ?_)
                  refine po_w (tX0_addEscaped hW1531 ⟨_, rfl, hi1532⟩ ⟨_, rfl, hi1533, hm1533⟩) (fun y1534 g1534 hW1534 p1534 => ?_)
                  dsimp only
                  refine po_gRm hW1534 h0 rfl rfl (fun i1535 ex1535 hi1535 hm1535 => ?_)
                  refine po_some ?_
                  refine po_ck (wt_isO hW1534 hi1535 (by decide)) ?_
                  refine po_w (tX5_add hW1534 hi1535 hm1535) (fun y1536 g1536 hW1536 p1536 => ?_)
                  dsimp only
                  refine po_some ?_
                  refine po_gI hW1536 h3 rfl rfl (by decide) (fun x1537x ex1537 (_ : True) => ?_)
                  refine po_eq (fun q1538 => ?_) (fun q1538 => ?_)
                  · refine po_ck (nb_of (Or.inr rfl)) ?_
                    exact po_ret ⟨rfl, hW1536, (Or.inr rfl)⟩
                  · refine po_ck (nb_of (Or.inl rfl)) ?_
                    exact po_ret ⟨rfl, hW1536, (Or.inl rfl)⟩
          · refine po_gRm hW7 h0 rfl rfl (fun i1539 ex1539 hi1539 hm1539 => ?_)
            refine po_some ?_
            refine po_ck (wt_isO hW7 hi1539 (by decide)) ?_
            refine po_w (tX5_add hW7 hi1539 hm1539) (fun y1540 g1540 hW1540 p1540 => ?_)
            dsimp only
            refine po_gRm hW1540 h0 rfl rfl (fun i1541 ex1541 hi1541 hm1541 => ?_)
            refine po_w (tX0_addEscaped hW1540 ⟨_, rfl, h1⟩ ⟨_, rfl, hi1541, hm1541⟩) (fun y1542 g1542 hW1542 p1542 => ?_)
            dsimp only
            refine po_gRm hW1542 h0 rfl rfl (fun i1543 ex1543 hi1543 hm1543 => ?_)
            refine po_some ?_
            refine po_ck (wt_isO hW1542 hi1543 (by decide)) ?_
            refine po_w (tX5_add hW1542 hi1543 hm1543) (fun y1544 g1544 hW1544 p1544 => ?_)
            dsimp only
            refine po_some ?_
            refine po_gI hW1544 h3 rfl rfl (by decide) (fun x1545x ex1545 (_ : True) => ?_)
            refine po_eq (fun q1546 => ?_) (fun q1546 => ?_)
            · refine po_pI hW1544 h0 rfl rfl (vv_i (by decide) trivial) (fun g1547 hW1547 ex1547 => ?_)
              refine po_eq (fun q1548 => ?_) (fun q1548 => ?_)
              · refine po_gRm hW1547 h0 rfl rfl (fun i1549 ex1549 hi1549 hm1549 => ?_)
                refine po_gRm hW1547 h0 rfl rfl (fun i1550 ex1550 hi1550 hm1550 => ?_)
                refine po_some ?_
                refine po_gI hW1547 h3 rfl rfl (by decide) (fun x1551x ex1551 (_ : True) => ?_)
                refine po_some ?_
                refine po_gI hW1547 (h2 i1 rfl) rfl rfl (by decide) (fun x1552x ex1552 (hx1552 : x1552x = 0 ∨ x1552x = 1) => ?_)
                refine po_w (tX0_addEscaped hW1547 ⟨_, rfl, hi1549⟩ ⟨_, rfl, hi1550, hm1550⟩) (fun y1553 g1553 hW1553 p1553 => ?_)
                dsimp only
                refine po_ck rfl ?_
                exact po_ret ⟨rfl, hW1553, (Or.inr rfl)⟩
              · refine po_gRm hW1547 h0 rfl rfl (fun i1554 ex1554 hi1554 hm1554 => ?_)
                refine po_some ?_
                refine po_ck (wt_isO hW1547 hi1554 (by decide)) ?_
                refine po_ro (tX5_breaksCell hW1547 hi1554) (fun y1555 ex1555 p1555 => ?_)
                dsimp only
                refine po_eq (fun q1556 => ?_) (fun q1556 => ?_)
                · refine po_gRm hW1547 h0 rfl rfl (fun i1557 ex1557 hi1557 hm1557 => ?_)
                  refine po_bind ex1554 ?_
                  refine po_bind ex1554 ?_
                  refine po_some ?_
                  refine po_ck (wt_isO hW1547 hi1554 (by decide)) ?_
                  refine po_ro (tX5_size hW1547 hi1554) (fun y1558 ex1558 p1558 => ?_)
                  dsimp only
                  refine po_some ?_
                  refine po_ck (wt_isO hW1547 hi1557 (by decide)) ?_
                  refine po_w (tX5_addPart hW1547 hi1557 hm1557 ⟨_, rfl, hi1554⟩) (fun y1559 g1559 hW1559 p1559 => ?_)
                  dsimp only
                  refine po_ck (nb_of p1559) ?_
                  exact po_ret ⟨rfl, hW1559, p1559⟩
                · refine po_pI hW1547 h0 rfl rfl (vv_i (by decide) trivial) (fun g1560 hW1560 ex1560 => ?_)
                  refine po_gRm hW1560 h0 rfl rfl (fun i1561 ex1561 hi1561 hm1561 => ?_)
                  refine po_some ?_
                  refine po_ck (wt_isO hW1560 hi1561 (by decide)) ?_
                  refine po_w (tX5_add hW1560 hi1561 hm1561) (fun y1562 g1562 hW1562 p1562 => ?_)
                  dsimp only
                  refine po_gRm hW1562 h0 rfl rfl (fun i1563 ex1563 hi1563 hm1563 => ?_)
                  refine po_gRm hW1562 h0 rfl rfl (fun i1564 ex1564 hi1564 hm1564 => ?_)
                  refine po_w (tX0_addEscaped hW1562 ⟨_, rfl, hi1563⟩ ⟨_, rfl, hi1564, hm1564⟩) (fun y1565 g1565 hW1565 p1565 => ?_)
                  dsimp only
                  refine po_gRm hW1565 h0 rfl rfl (fun i1566 ex1566 hi1566 hm1566 => ?_)
                  refine po_some ?_
                  refine po_ck (wt_isO hW1565 hi1566 (by decide)) ?_
                  refine po_w (tX5_add hW1565 hi1566 hm1566) (fun y1567 g1567 hW1567 p1567 => ?_)
                  dsimp only
                  refine po_some ?_
                  refine po_gI hW1567 h3 rfl rfl (by decide) (fun x1568x ex1568 (_ : True) => ?_)
                  refine po_eq (fun q1569 => ?_) (fun q1569 => ?_)
                  · refine po_ck (nb_of (Or.inr rfl)) ?_
                    exact po_ret ⟨rfl, hW1567, (Or.inr rfl)⟩
                  · refine po_ck (nb_of (Or.inl rfl)) ?_
                    exact po_ret ⟨rfl, hW1567, (Or.inl rfl)⟩
            · refine po_bind ex1545 ?_
              refine po_eq (fun q1570 => ?_) (fun q1570 => ?_)
              · refine po_pI hW1544 h0 rfl rfl (vv_i (by decide) trivial) (fun g1571 hW1571 ex1571 => ?_)
                refine po_eq (fun q1572 => ?_) (fun q1572 => ?_)
                · refine po_gRm hW1571 h0 rfl rfl (fun i1573 ex1573 hi1573 hm1573 => ?_)
                  refine po_gRm hW1571 h0 rfl rfl (fun i1574 ex1574 hi1574 hm1574 => ?_)
                  refine po_some ?_
                  refine po_gI hW1571 h3 rfl rfl (by decide) (fun x1575x ex1575 (_ : True) => ?_)
                  refine po_some ?_
                  refine po_gI hW1571 (h2 i1 rfl) rfl rfl (by decide) (fun x1576x ex1576 (hx1576 : x1576x = 0 ∨ x1576x = 1) => ?_)
                  refine po_w (tX0_addEscaped hW1571 ⟨_, rfl, hi1573⟩ ⟨_, rfl, hi1574, hm1574⟩) (fun y1577 g1577 hW1577 p1577 => ?_)
                  dsimp only
                  refine po_ck rfl ?_
                  exact po_ret ⟨rfl, hW1577, (Or.inr rfl)⟩
                · refine po_gRm hW1571 h0 rfl rfl (fun i1578 ex1578 hi1578 hm1578 => ?_)
                  refine po_some ?_
                  refine po_ck (wt_isO hW1571 hi1578 (by decide)) ?_
                  refine po_ro (tX5_breaksCell hW1571 hi1578) (fun y1579 ex1579 p1579 => ?_)
                  dsimp only
                  refine po_eq (fun q1580 => ?_) (fun q1580 => ?_)
                  · refine po_gRm hW1571 h0 rfl rfl (fun i1581 ex1581 hi1581 hm1581 => ?_)
                    refine po_bind ex1578 ?_
                    refine po_bind ex1578 ?_
                    refine po_some ?_
                    refine po_ck (wt_isO hW1571 hi1578 (by decide)) ?_
                    refine po_ro (tX5_size hW1571 hi1578) (fun y1582 ex1582 p1582 => ?_)
                    dsimp only
                    refine po_some ?_
                    refine po_ck (wt_isO hW1571 hi1581 (by decide)) ?_
                    refine po_w (tX5_addPart hW1571 hi1581 hm1581 ⟨_, rfl, hi1578⟩) (fun y1583 g1583 hW1583 p1583 => ?_)
                    dsimp only
                    refine po_ck (nb_of p1583) ?_
                    exact po_ret ⟨rfl, hW1583, p1583⟩
                  · refine po_pI hW1571 h0 rfl rfl (vv_i (by decide) trivial) (fun g1584 hW1584 ex1584 => ?_)
                    refine po_gRm hW1584 h0 rfl rfl (fun i1585 ex1585 hi1585 hm1585 => ?_)
                    refine po_some ?_
                    refine po_ck (wt_isO hW1584 hi1585 (by decide)) ?_
                    refine po_w (tX5_add hW1584 hi1585 hm1585) (fun y1586 g1586 hW1586 p1586 => ?_)
                    dsimp only
                    refine po_gRm hW1586 h0 rfl rfl (fun i1587 ex1587 hi1587 hm1587 => ?_)
                    refine po_gRm hW1586 h0 rfl rfl (fun i1588 ex1588 hi1588 hm1588 => ?_)
                    refine po_w (tX0_addEscaped hW1586 ⟨_, rfl, hi1587⟩ ⟨_, rfl, hi1588, hm1588⟩) (fun y1589 g1589 hW1589 p1589 => ?_)
                    dsimp only
                    refine po_gRm hW1589 h0 rfl rfl (fun i1590 ex1590 hi1590 hm1590 => ?_)
                    refine po_some ?_
                    refine po_ck (wt_isO hW1589 hi1590 (by decide)) ?_
                    refine po_w (tX5_add hW1589 hi1590 hm1590) (fun y1591 g1591 hW1591 p1591 => ?_)
                    dsimp only
                    refine po_some ?_
                    refine po_gI hW1591 h3 rfl rfl (by decide) (fun x1592x ex1592 (_ : True) => ?_)
                    refine po_eq (fun q1593 => ?_) (fun q1593 => ?_)
                    · refine po_ck (nb_of (Or.inr rfl)) ?_
                      exact po_ret ⟨rfl, hW1591, (Or.inr rfl)⟩
                    · refine po_ck (nb_of (Or.inl rfl)) ?_
                      exact po_ret ⟨rfl, hW1591, (Or.inl rfl)⟩
              · refine po_pI hW1544 h0 rfl rfl (vv_i (by decide) trivial) (fun g1594 hW1594 ex1594 => ?_)
                refine po_eq (fun q1595 => ?_) (fun q1595 => ?_)
                · refine po_gRm hW1594 h0 rfl rfl (fun i1596 ex1596 hi1596 hm1596 => ?_)
                  refine po_gRm hW1594 h0 rfl rfl (fun i1597 ex1597 hi1597 hm1597 => ?_)
                  refine po_some ?_
                  refine po_gI hW1594 h3 rfl rfl (by decide) (fun x1598x ex1598 (_ : True) => ?_)
                  refine po_some ?_
                  refine po_gI hW1594 (h2 i1 rfl) rfl rfl (by decide) (fun x1599x ex1599 (hx1599 : x1599x = 0 ∨ x1599x = 1) => ?_)
                  refine po_w (tX0_addEscaped hW1594 ⟨_, rfl, hi1596⟩ ⟨_, rfl, hi1597, hm1597⟩) (fun y1600 g1600 hW1600 p1600 => ?_)
                  dsimp only
                  refine po_ck rfl ?_
                  exact po_ret ⟨rfl, hW1600, (Or.inr rfl)⟩
                · refine po_gRm hW1594 h0 rfl rfl (fun i1601 ex1601 hi1601 hm1601 => ?_)
                  refine po_some ?_
                  refine po_ck (wt_isO hW1594 hi1601 (by decide)) ?_
                  refine po_ro (tX5_breaksCell hW1594 hi1601) (fun y1602 ex1602 p1602 => ?_)
                  dsimp only
                  refine po_eq (fun q1603 => ?_) (fun q1603 => ?_)
                  · refine po_gRm hW1594 h0 rfl rfl (fun i1604 ex1604 hi1604 hm1604 => ?_)
                    refine po_bind ex1601 ?_
                    refine po_bind ex1601 ?_
                    refine po_some ?_
                    refine po_ck (wt_isO hW1594 hi1601 (by decide)) ?_
                    refine po_ro (tX5_size hW1594 hi1601) (fun y1605 ex1605 p1605 => ?_)
                    dsimp only
                    refine po_some ?_
                    refine po_ck (wt_isO hW1594 hi1604 (by decide)) ?_
                    refine po_w (tX5_addPart hW1594 hi1604 hm1604 ⟨_, rfl, hi1601⟩) (fun y1606 g1606 hW1606 p1606 => ?_)
                    dsimp only
                    refine po_ck (nb_of p1606) ?_
                    exact po_ret ⟨rfl, hW1606, p1606⟩
                  · refine po_pI hW1594 h0 rfl rfl (vv_i (by decide) trivial) (fun g1607 hW1607 ex1607 => ?_)
                    refine po_gRm hW1607 h0 rfl rfl (fun i1608 ex1608 hi1608 hm1608 => ?_)
                    refine po_some ?_
                    refine po_ck (wt_isO hW1607 hi1608 (by decide)) ?_
                    refine po_w (tX5_add hW1607 hi1608 hm1608) (fun y1609 g1609 hW1609 p1609 => ?_)
                    dsimp only
                    refine po_gRm hW1609 h0 rfl rfl (fun i1610 ex1610 hi1610 hm1610 => ?_)
                    refine po_gRm hW1609 h0 rfl rfl (fun i1611 ex1611 hi1611 hm1611 => ?_)
                    refine po_w (tX0_addEscaped hW1609 ⟨_, rfl, hi1610⟩ ⟨_, rfl, hi1611, hm1611⟩) (fun y1612 g1612 hW1612 p1612 => ?_)
                    dsimp only
                    refine po_gRm hW1612 h0 rfl rfl (fun i1613 ex1613 hi1613 hm1613 => ?_)
                    refine po_some ?_
                    refine po_ck (wt_isO hW1612 hi1613 (by decide)) ?_
                    refine po_w (tX5_add hW1612 hi1613 hm1613) (fun y1614 g1614 hW1614 p1614 => ?_)
                    dsimp only
                    refine po_some ?_
                    refine po_gI hW1614 h3 rfl rfl (by decide) (fun x1615x ex1615 (_ : True) => ?_)
                    refine po_eq (fun q1616 => ?_) (fun q1616 => ?_)
                    · refine po_ck (nb_of (Or.inr rfl)) ?_
                      exact po_ret ⟨rfl, hW1614, (Or.inr rfl)⟩
                    · refine po_ck (nb_of (Or.inl rfl)) ?_
                      exact po_ret ⟨rfl, hW1614, (Or.inl rfl)⟩
