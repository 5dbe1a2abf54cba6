set_option maxHeartbeats 1000000 in
theorem tX8_like {G : TE} {F0 : AH} {S : Int32} {f : AH} {n : Nat} {v0 : Nat} {v1 : Int32} {v2 : Int32} (hW : WT G F0 S f n) (h0 : G.1 v0 = 8) : PO (mX8_like v0 v1 v2 f n) (fun v f' n' => f' = f ∧ n' = n ∧ ((∀ E : String, v = .inr E → E = eI) ∧ (∀ y, v = .inl y → True))) := by
  have k_kt_0 := kt_0
  unfold mX8_like
  refine po_ck (wt_isO hW h0 (by decide)) ?_
  refine po_ro (tX8_pieceOrThrow hW h0) (fun y1 ex1 p1 => ?_)
  dsimp only
  refine po_tS (fun z2 q3 => ?_) (fun E hE => ⟨rfl, rfl, ⟨fun E2 h2 => by cases h2; have h3 := p1.1 E hE; first | exact h3 | exact Or.inl h3 | exact Or.inr h3 | exact h3.1 | exact Or.inl h3.1 | exact Or.inr h3.1, fun y hy => (by cases hy)⟩⟩)
  have p4 := p1.2 z2 q3
  obtain ⟨i5, rfl, hii5⟩ := p4
  refine po_some ?_
  exact (tX8_like_l11 rFU v0 v1 v2 (0 : Int32) (0 : Int32) f hW h0 (by omega)  (by unfold rFU; omega))
set_option maxHeartbeats 1000000 in
theorem tX8_would {G : TE} {F0 : AH} {S : Int32} {f : AH} {n : Nat} {v0 : Nat} {v1 : Int32} (hW : WT G F0 S f n) (h0 : G.1 v0 = 8) : PO (mX8_would v0 v1 f n) (fun v f' n' => ∃ G', EXT G G' ∧ WT G' F0 0 f' n' ∧ ((∀ E : String, v = .inr E → E = eI ∨ E = eA) ∧ (∀ y, v = .inl y → True))) := by
  unfold mX8_would
  refine po_ck (wt_isO hW h0 (by decide)) ?_
  refine po_a (tX8_takeTold hW h0) (fun y1 g1 n1 G1 xt1 hW1 p1 => ?_)
  dsimp only
  refine po_some ?_
  refine po_ck (wt_isO hW1 (xt1.ty h0 (by decide)) (by decide)) ?_
  refine po_ro (tX8_pieceOrThrow hW1 (xt1.ty h0 (by decide))) (fun y2 ex2 p2 => ?_)
  dsimp only
  refine po_tS (fun z3 q4 => ?_) (fun E hE => ⟨_, xt1, hW1, ⟨fun E2 h2 => by cases h2; have h3 := p2.1 E hE; first | exact h3 | exact Or.inl h3 | exact Or.inr h3 | exact h3.1 | exact Or.inl h3.1 | exact Or.inr h3.1, fun y hy => (by cases hy)⟩⟩)
  have p5 := p2.2 z3 q4
  obtain ⟨i6, rfl, hii6⟩ := p5
  refine po_some ?_
  refine po_oN (fun q8 => ?_) (fun i7 q8 => ?_)
  · subst q8
    exact po_ret ⟨_, xt1, hW1, ⟨fun E hE => by cases hE; first | exact rfl | exact Or.inl rfl | exact Or.inr rfl, fun y hy => (by cases hy)⟩⟩
  · subst q8
    refine po_gRn (t := 0) hW1 (xt1.ty h0 (by decide)) rfl rfl (by decide) (fun i9 ex9 hi9 => ?_)
    refine po_gRn (t := 7) hW1 (xt1.ty h0 (by decide)) rfl rfl (by decide) (fun i10 ex10 hi10 => ?_)
    refine po_some ?_
    refine po_ck (wt_isO hW1 hi9 (by decide)) ?_
    refine po_w (tX0_escape hW1 hi9 ⟨_, rfl, (p1 i7 rfl)⟩ (fun _ hi => Option.some.inj hi ▸ hii6) ⟨_, rfl, hi10⟩) (fun y11 g11 hW11 p11 => ?_)
    dsimp only
    refine po_eq (fun q12 => ?_) (fun q12 => ?_)
    · unfold mX8_would_b55
      exact po_ret ⟨_, xt1, hW11, ⟨fun E hE => (by cases hE), fun y hy => by cases hy; exact trivial⟩⟩
    · refine po_gRn (t := 0) hW11 (xt1.ty h0 (by decide)) rfl rfl (by decide) (fun i13 ex13 hi13 => ?_)
      refine po_some ?_
      refine po_gRm hW11 hi13 rfl rfl (fun i14 ex14 hi14 hm14 => ?_)
      refine po_some ?_
      refine po_ck (wt_isO hW11 hi14 (by decide)) ?_
      refine po_ro (tX5_size hW11 hi14) (fun y15 ex15 p15 => ?_)
      dsimp only
      unfold mX8_would_b55
      exact po_ret ⟨_, xt1, hW11, ⟨fun E hE => (by cases hE), fun y hy => by cases hy; exact trivial⟩⟩
set_option maxHeartbeats 1000000 in
theorem tX8_smallLetter {G : TE} {F0 : AH} {S : Int32} {f : AH} {n : Nat} {v0 : Int32} (hW : WT G F0 S f n)  : PO (mX8_smallLetter v0 f n) (fun v f' n' => f' = f ∧ n' = n ∧ (True)) := by
  unfold mX8_smallLetter
  refine po_lt rfl kt_65 (fun q1 => ?_) (fun q1 => ?_)
  · unfold mX8_smallLetter_b19
    unfold mX8_smallLetter_b20
    exact po_ret ⟨rfl, rfl, trivial⟩
  · refine po_lt kt_90 rfl (fun q2 => ?_) (fun q2 => ?_)
    · unfold mX8_smallLetter_b19
      unfold mX8_smallLetter_b20
      exact po_ret ⟨rfl, rfl, trivial⟩
    · unfold mX8_smallLetter_b20
      have e3 : (v0 + (32 : Int32)).toInt = v0.toInt + 32 := i_add rfl kt_32 (by omega)
      exact po_ret ⟨rfl, rfl, trivial⟩
set_option maxHeartbeats 1000000 in
theorem tX5_hasSmall_l2 {G : TE} {F0 : AH} {S : Int32} {n : Nat} : ∀ (d : Nat) (v0 : Nat) (v1 : Int32) (v2 : Option Nat) (v3 : Int32) (f : AH), WT G F0 S f n → G.1 v0 = 5 → (∃ i, v2 = some i ∧ G.1 i = 5) → (0 ≤ v3.toInt ∧ v3.toInt ≤ 2000) → 3000 - v3.toInt < (d : Int) → PO (mX5_hasSmall_l2 d v0 v1 v2 v3 f n) (fun v f' n' => f' = f ∧ n' = n ∧ (v = 0 ∨ v = 1)) := by
  intro d
  induction d with
  | zero =>
    intro v0 v1 v2 v3 f hW h0 h1 h2  hm
    exfalso
    obtain ⟨iv2, rfl, h1⟩ := h1
    omega
  | succ d ih =>
    intro v0 v1 v2 v3 f hW h0 h1 h2  hm
    obtain ⟨iv2, rfl, h1⟩ := h1
    show PO (((some iv2)).bind fun j1 => rCk (isO f j1 5) (((mX5_size j1 f n).bind fun r3 => (if r3.1 ≤ v3 then rCk (rNb (1 : Int32)) (some ((1 : Int32), (r3.2.1, r3.2.2))) else rCk (isO r3.2.1 v0 5) (((mX5_get v0 (v1 + v3) r3.2.1 r3.2.2).bind fun r7 => ((mX8_smallLetter r7.1 r7.2.1 r7.2.2).bind fun r9 => rCk (isO r9.2.1 j1 5) (((mX5_get j1 v3 r9.2.1 r9.2.2).bind fun r11 => (if r9.1 = r11.1 then mX5_hasSmall_l2 d v0 v1 (some j1) (v3 + (1 : Int32)) r11.2.1 r11.2.2 else rCk (rNb (0 : Int32)) (some ((0 : Int32), (r11.2.1, r11.2.2))))))))))))) _
    refine po_some ?_
    refine po_ck (wt_isO hW h1 (by decide)) ?_
    refine po_ro (tX5_size hW h1) (fun y1 ex1 p1 => ?_)
    dsimp only
    refine po_le rfl rfl (fun q2 => ?_) (fun q2 => ?_)
    · refine po_ck rfl ?_
      exact po_ret ⟨rfl, rfl, (Or.inr rfl)⟩
    · refine po_ck (wt_isO hW h0 (by decide)) ?_
      refine po_ro (tX5_get hW h0) (fun y3 ex3 p3 => ?_)
      dsimp only
      refine po_ro (tX8_smallLetter hW ) (fun y4 ex4 p4 => ?_)
      dsimp only
      refine po_ck (wt_isO hW h1 (by decide)) ?_
      refine po_ro (tX5_get hW h1) (fun y5 ex5 p5 => ?_)
      dsimp only
      refine po_eq (fun q6 => ?_) (fun q6 => ?_)
      · have e7 : (v3 + (1 : Int32)).toInt = v3.toInt + 1 := i_add rfl kt_1 (by omega)
        exact (ih v0 v1 (some iv2) (v3 + (1 : Int32)) f hW h0 ⟨_, rfl, h1⟩ (by omega)  (by omega))
      · refine po_ck rfl ?_
        exact po_ret ⟨rfl, rfl, (Or.inl rfl)⟩
set_option maxHeartbeats 1000000 in
theorem tX5_hasSmall {G : TE} {F0 : AH} {S : Int32} {f : AH} {n : Nat} {v0 : Nat} {v1 : Int32} {v2 : Option Nat} (hW : WT G F0 S f n) (h0 : G.1 v0 = 5) (h1 : (∃ i, v2 = some i ∧ G.1 i = 5)) : PO (mX5_hasSmall v0 v1 v2 f n) (fun v f' n' => f' = f ∧ n' = n ∧ (v = 0 ∨ v = 1)) := by
  obtain ⟨iv2, rfl, h1⟩ := h1
  have k_kt_0 := kt_0
  unfold mX5_hasSmall
  exact (tX5_hasSmall_l2 rFU v0 v1 (some iv2) (0 : Int32) f hW h0 ⟨_, rfl, h1⟩ (by omega)  (by unfold rFU; omega))
set_option maxHeartbeats 1000000 in
theorem tX5_hasWord_l3 {G : TE} {F0 : AH} {S : Int32} {n : Nat} : ∀ (d : Nat) (v0 : Nat) (v1 : Int32) (v2 : Int32) (v3 : Option Nat) (v4 : Int32) (f : AH), WT G F0 S f n → G.1 v0 = 5 → (0 ≤ v1.toInt ∧ v1.toInt ≤ 600) → ((-700) ≤ v2.toInt ∧ v2.toInt ≤ 700) → (∃ i, v3 = some i ∧ G.1 i = 5) → (0 ≤ v4.toInt ∧ v4.toInt ≤ 2000) → v1.toInt + v2.toInt - v4.toInt + 4000 < (d : Int) → PO (mX5_hasWord_l3 d v0 v1 v2 v3 v4 f n) (fun v f' n' => f' = f ∧ n' = n ∧ (v = 0 ∨ v = 1)) := by
  intro d
  induction d with
  | zero =>
    intro v0 v1 v2 v3 v4 f hW h0 h1 h2 h3 h4  hm
    exfalso
    obtain ⟨iv3, rfl, h3⟩ := h3
    omega
  | succ d ih =>
    intro v0 v1 v2 v3 v4 f hW h0 h1 h2 h3 h4  hm
    obtain ⟨iv3, rfl, h3⟩ := h3
    show PO (((some iv3)).bind fun j1 => rCk (isO f j1 5) (((mX5_size j1 f n).bind fun r3 => (if ((v1 + v2) - r3.1) < v4 then rCk (rNb (0 : Int32)) (some ((0 : Int32), (r3.2.1, r3.2.2))) else rCk (isO r3.2.1 v0 5) (((mX5_hasSmall v0 v4 (some j1) r3.2.1 r3.2.2).bind fun r7 => (if r7.1 = (0 : Int32) then mX5_hasWord_l3 d v0 v1 v2 (some j1) (v4 + (1 : Int32)) r7.2.1 r7.2.2 else rCk (rNb (1 : Int32)) (some ((1 : Int32), (r7.2.1, r7.2.2)))))))))) _
    refine po_some ?_
    refine po_ck (wt_isO hW h3 (by decide)) ?_
    refine po_ro (tX5_size hW h3) (fun y1 ex1 p1 => ?_)
    dsimp only
    have e3 : (v1 + v2).toInt = v1.toInt + v2.toInt := i_add rfl rfl (by omega)
    have e4 : ((v1 + v2) - y1).toInt = (v1 + v2).toInt - y1.toInt := i_sub rfl rfl (by omega)
    refine po_lt rfl rfl (fun q2 => ?_) (fun q2 => ?_)
    · refine po_ck rfl ?_
      exact po_ret ⟨rfl, rfl, (Or.inl rfl)⟩
    · refine po_ck (wt_isO hW h0 (by decide)) ?_
      refine po_ro (tX5_hasSmall hW h0 ⟨_, rfl, h3⟩) (fun y5 ex5 p5 => ?_)
      dsimp only
      refine po_eq (fun q6 => ?_) (fun q6 => ?_)
      · have e7 : (v4 + (1 : Int32)).toInt = v4.toInt + 1 := i_add rfl kt_1 (by omega)
        exact (ih v0 v1 v2 (some iv3) (v4 + (1 : Int32)) f hW h0 (by omega) (by omega) ⟨_, rfl, h3⟩ (by omega)  (by omega))
      · refine po_ck rfl ?_
        exact po_ret ⟨rfl, rfl, (Or.inr rfl)⟩
set_option maxHeartbeats 1000000 in
theorem tX5_hasWord {G : TE} {F0 : AH} {S : Int32} {f : AH} {n : Nat} {v0 : Nat} {v1 : Int32} {v2 : Int32} {v3 : Option Nat} (hW : WT G F0 S f n) (h0 : G.1 v0 = 5) (h1 : (0 ≤ v1.toInt ∧ v1.toInt ≤ 600)) (h2 : ((-700) ≤ v2.toInt ∧ v2.toInt ≤ 700)) (h3 : (∃ i, v3 = some i ∧ G.1 i = 5)) : PO (mX5_hasWord v0 v1 v2 v3 f n) (fun v f' n' => f' = f ∧ n' = n ∧ (v = 0 ∨ v = 1)) := by
  obtain ⟨iv3, rfl, h3⟩ := h3
  unfold mX5_hasWord
  exact (tX5_hasWord_l3 rFU v0 v1 v2 (some iv3) v1 f hW h0 (by omega) (by omega) ⟨_, rfl, h3⟩ (by omega)  (by unfold rFU; omega))
set_option maxHeartbeats 1000000 in
theorem tX8_hasWord {G : TE} {F0 : AH} {S : Int32} {f : AH} {n : Nat} {v0 : Nat} {v1 : Int32} {v2 : Option Nat} (hW : WT G F0 S f n) (h0 : G.1 v0 = 8) (h1 : (∃ i, v2 = some i ∧ G.1 i = 5)) : PO (mX8_hasWord v0 v1 v2 f n) (fun v f' n' => f' = f ∧ n' = n ∧ (True)) := by
  obtain ⟨iv2, rfl, h1⟩ := h1
  have k_kt_0 := kt_0
  unfold mX8_hasWord
  refine po_gRn (t := 1) hW h0 rfl rfl (by decide) (fun i1 ex1 hi1 => ?_)
  refine po_some ?_
  refine po_ck (wt_isO hW hi1 (by decide)) ?_
  refine po_ro (tX1_get hW hi1) (fun y2 ex2 p2 => ?_)
  dsimp only
  refine po_some ?_
  refine po_oN (fun q4 => ?_) (fun i3 q4 => ?_)
  · subst q4
    refine po_ck rfl ?_
    exact po_ret ⟨rfl, rfl, trivial⟩
  · subst q4
    refine po_gRn (t := 7) hW h0 rfl rfl (by decide) (fun i5 ex5 hi5 => ?_)
    refine po_some ?_
    refine po_ck (wt_isO hW hi5 (by decide)) ?_
    refine po_ro (tX7_toldFor hW hi5) (fun y6 ex6 p6 => ?_)
    dsimp only
    refine po_some ?_
    refine po_oN (fun q8 => ?_) (fun i7 q8 => ?_)
    · subst q8
      refine po_bind ex1 ?_
      refine po_some ?_
      refine po_gRm hW hi1 rfl rfl (fun i9 ex9 hi9 hm9 => ?_)
      refine po_gI hW (p2 i3 rfl) rfl rfl (by decide) (fun x10x ex10 (hx10 : 0 ≤ x10x.toInt ∧ x10x.toInt ≤ 600) => ?_)
      refine po_gI hW (p2 i3 rfl) rfl rfl (by decide) (fun x11x ex11 (hx11 : (-700) ≤ x11x.toInt ∧ x11x.toInt ≤ 700) => ?_)
      refine po_some ?_
      refine po_ck (wt_isO hW hi9 (by decide)) ?_
      refine po_ro (tX5_hasWord hW hi9 (by omega) (by omega) ⟨_, rfl, h1⟩) (fun y12 ex12 p12 => ?_)
      dsimp only
      unfold mX8_hasWord_b64
      refine po_ck (nb_of p12) ?_
      exact po_ret ⟨rfl, rfl, trivial⟩
    · subst q8
      refine po_ck (wt_isO hW (p6 i7 rfl) (by decide)) ?_
      refine po_ro (tX5_size hW (p6 i7 rfl)) (fun y13 ex13 p13 => ?_)
      dsimp only
      refine po_ck (wt_isO hW (p6 i7 rfl) (by decide)) ?_
      refine po_ro (tX5_hasWord hW (p6 i7 rfl) (by omega) (by omega) ⟨_, rfl, h1⟩) (fun y14 ex14 p14 => ?_)
      dsimp only
      unfold mX8_hasWord_b64
      refine po_ck (nb_of p14) ?_
      exact po_ret ⟨rfl, rfl, trivial⟩
set_option maxHeartbeats 1000000 in
theorem tX8_found_l24 {G : TE} {F0 : AH} {S : Int32} {n : Nat} : ∀ (d : Nat) (v0 : Nat) (v1 : Option Nat) (v2 : Int64) (v4 : Int32) (f : AH), WT G F0 S f n → G.1 v0 = 8 → (∃ i, v1 = some i ∧ G.1 i = 5) → (0 ≤ v4.toInt ∧ v4.toInt ≤ 2000) → 3000 - v4.toInt < (d : Int) → PO (mX8_found_l24 d v0 v1 v2 v4 f n) (fun v f' n' => f' = f ∧ n' = n ∧ ((∀ E : String, v = .inr E → E = eA) ∧ (∀ y, v = .inl y → True))) := by
  intro d
  induction d with
  | zero =>
    intro v0 v1 v2 v4 f hW h0 h1 h2  hm
    exfalso
    obtain ⟨iv1, rfl, h1⟩ := h1
    omega
  | succ d ih =>
    intro v0 v1 v2 v4 f hW h0 h1 h2  hm
    obtain ⟨iv1, rfl, h1⟩ := h1
    show PO ((gR f v0 8 5).bind fun x1 => ((x1).bind fun j2 => rCk (isO f j2 1) (((mX1_size j2 f n).bind fun r4 => (if r4.1 ≤ v4 then some (.inl v2, (r4.2.1, r4.2.2)) else rCk (isO r4.2.1 v0 8) (((mX8_hasWord v0 v4 (some iv1) r4.2.1 r4.2.2).bind fun r7 => (if r7.1 = (0 : Int32) then mX8_found_b53 (fun v0 v1 v2 v4 f n => mX8_found_l24 d v0 v1 v2 v4 f n) v0 (some iv1) v2 v4 r7.2.1 r7.2.2 else mX8_found_b53 (fun v0 v1 v2 v4 f n => mX8_found_l24 d v0 v1 v2 v4 f n) v0 (some iv1) (v2 ||| ((1 : Int64) <<< (v4.toInt64 &&& 63))) v4 r7.2.1 r7.2.2)))))))) _
    refine po_gRn (t := 1) hW h0 rfl rfl (by decide) (fun i1 ex1 hi1 => ?_)
    refine po_some ?_
    refine po_ck (wt_isO hW hi1 (by decide)) ?_
    refine po_ro (tX1_size hW hi1) (fun y2 ex2 p2 => ?_)
    dsimp only
    refine po_le rfl rfl (fun q3 => ?_) (fun q3 => ?_)
    · exact po_ret ⟨rfl, rfl, ⟨fun E hE => (by cases hE), fun y hy => by cases hy; exact trivial⟩⟩
    · refine po_ck (wt_isO hW h0 (by decide)) ?_
      refine po_ro (tX8_hasWord hW h0 ⟨_, rfl, h1⟩) (fun y4 ex4 p4 => ?_)
      dsimp only
      refine po_eq (fun q5 => ?_) (fun q5 => ?_)
      · unfold mX8_found_b53
        have e6 : (v4 + (1 : Int32)).toInt = v4.toInt + 1 := i_add rfl kt_1 (by omega)
        exact (ih v0 (some iv1) v2 (v4 + (1 : Int32)) f hW h0 ⟨_, rfl, h1⟩ (by omega)  (by omega))
      · unfold mX8_found_b53
        have e7 : (v4 + (1 : Int32)).toInt = v4.toInt + 1 := i_add rfl kt_1 (by omega)
        exact (ih v0 (some iv1) (v2 ||| ((1 : Int64) <<< (v4.toInt64 &&& 63))) (v4 + (1 : Int32)) f hW h0 ⟨_, rfl, h1⟩ (by omega)  (by omega))
set_option maxHeartbeats 1000000 in
theorem tX8_found {G : TE} {F0 : AH} {S : Int32} {f : AH} {n : Nat} {v0 : Nat} (hW : WT G F0 S f n) (h0 : G.1 v0 = 8) : PO (mX8_found v0 f n) (fun v f' n' => ∃ G', EXT G G' ∧ WT G' F0 0 f' n' ∧ ((∀ E : String, v = .inr E → E = eA) ∧ (∀ y, v = .inl y → True))) := by
  have k_kt_0 := kt_0
  unfold mX8_found
  refine po_ck (wt_isO hW h0 (by decide)) ?_
  refine po_a (tX8_takeWord hW h0) (fun y1 g1 n1 G1 xt1 hW1 p1 => ?_)
  dsimp only
  refine po_some ?_
  refine po_oN (fun q3 => ?_) (fun i2 q3 => ?_)
  · subst q3
    exact po_ret ⟨_, xt1, hW1, ⟨fun E hE => by cases hE; first | exact rfl | exact Or.inl rfl | exact Or.inr rfl, fun y hy => (by cases hy)⟩⟩
  · subst q3
    exact po_tail (tX8_found_l24 rFU v0 (some i2) (0 : Int64) (0 : Int32) g1 hW1 (xt1.ty h0 (by decide)) ⟨_, rfl, (p1 i2 rfl)⟩ (by omega)  (by unfold rFU; omega)) (fun v f2 n2 q => ⟨_, xt1, by rw [q.1, q.2.1]; exact hW1, q.2.2⟩)
set_option maxHeartbeats 1000000 in
theorem tX3_mayBeginInBuilt {G : TE} {F0 : AH} {S : Int32} {f : AH} {n : Nat} {v0 : Nat} {v1 : Int32} (hW : WT G F0 S f n) (h0 : G.1 v0 = 3) : PO (mX3_mayBeginInBuilt v0 v1 f n) (fun v f' n' => f' = f ∧ n' = n ∧ (v = 0 ∨ v = 1)) := by
  unfold mX3_mayBeginInBuilt
  refine po_gI hW h0 rfl rfl (by decide) (fun x1x ex1 (_ : True) => ?_)
  refine po_eq (fun q2 => ?_) (fun q2 => ?_)
  · unfold mX3_mayBeginInBuilt_b28
    unfold mX3_mayBeginInBuilt_b33
    refine po_ck (nb_of (Or.inr rfl)) ?_
    exact po_ret ⟨rfl, rfl, (Or.inr rfl)⟩
  · refine po_gI hW h0 rfl rfl (by decide) (fun x3x ex3 (_ : True) => ?_)
    refine po_le rfl kt_0 (fun q4 => ?_) (fun q4 => ?_)
    · unfold mX3_mayBeginInBuilt_b32
      unfold mX3_mayBeginInBuilt_b33
      refine po_ck (nb_of (Or.inl rfl)) ?_
      exact po_ret ⟨rfl, rfl, (Or.inl rfl)⟩
    · refine po_bind ex1 ?_
      refine po_bind ex3 ?_
      refine po_eq (fun q5 => ?_) (fun q5 => ?_)
      · unfold mX3_mayBeginInBuilt_b28
        unfold mX3_mayBeginInBuilt_b33
        refine po_ck (nb_of (Or.inr rfl)) ?_
        exact po_ret ⟨rfl, rfl, (Or.inr rfl)⟩
      · unfold mX3_mayBeginInBuilt_b32
        unfold mX3_mayBeginInBuilt_b33
        refine po_ck (nb_of (Or.inl rfl)) ?_
        exact po_ret ⟨rfl, rfl, (Or.inl rfl)⟩
set_option maxHeartbeats 1000000 in
theorem tX8_kept_l12 {G : TE} {F0 : AH} {S : Int32} {n : Nat} : ∀ (d : Nat) (v0 : Nat) (v1 : Int32) (v2 : Option Nat) (v3 : Int32) (f : AH), WT G F0 S f n → G.1 v0 = 8 → (∃ i, v2 = some i ∧ G.1 i = 3) → (0 ≤ v3.toInt ∧ v3.toInt ≤ 2000) → 3000 - v3.toInt < (d : Int) → PO (mX8_kept_l12 d v0 v1 v2 v3 f n) (fun v f' n' => n' = n ∧ WT G F0 S f' n ∧ ((∀ E : String, v = .inr E → E = eI) ∧ (∀ y, v = .inl y → True))) := by
  intro d
  induction d with
  | zero =>
    intro v0 v1 v2 v3 f hW h0 h1 h2  hm
    exfalso
    obtain ⟨iv2, rfl, h1⟩ := h1
    omega
  | succ d ih =>
    intro v0 v1 v2 v3 f hW h0 h1 h2  hm
    obtain ⟨iv2, rfl, h1⟩ := h1
    show PO ((gR f v0 8 6).bind fun x1 => ((x1).bind fun j2 => rCk (isO f j2 1) (((mX1_size j2 f n).bind fun r4 => (if r4.1 ≤ v3 then rCk (rNb (0 : Int32)) (some (.inl (0 : Int32), (r4.2.1, r4.2.2))) else ((gR r4.2.1 v0 8 6).bind fun x7 => ((x7).bind fun j8 => rCk (isO r4.2.1 j8 1) (((mX1_get j8 v3 r4.2.1 r4.2.2).bind fun r10 => ((some r10.1).bind fun x12 => (oN x12 (mX8_kept_b63 (fun v0 v1 v2 v3 f n => mX8_kept_l12 d v0 v1 v2 v3 f n) v0 v1 (some iv2) v3 r10.2.1 r10.2.2) (fun j13 => ((gI r10.2.1 j13 3 0).bind fun x14 => (((some iv2)).bind fun j15 => rCk (isO r10.2.1 j15 3) (((mX3_mayBeginInBuilt j15 x14 r10.2.1 r10.2.2).bind fun r17 => (if r17.1 = (0 : Int32) then mX8_kept_b63 (fun v0 v1 v2 v3 f n => mX8_kept_l12 d v0 v1 v2 v3 f n) v0 v1 (some j15) v3 r17.2.1 r17.2.2 else rCk (isO r17.2.1 v0 8) (((mX8_isNow v0 v1 (some j15) (some j13) r17.2.1 r17.2.2).bind fun r20 => (if r20.1 = (0 : Int32) then mX8_kept_b63 (fun v0 v1 v2 v3 f n => mX8_kept_l12 d v0 v1 v2 v3 f n) v0 v1 (some j15) v3 r20.2.1 r20.2.2 else rCk (rNb (1 : Int32)) (some (.inl (1 : Int32), (r20.2.1, r20.2.2))))))))))))))))))))))) _
    refine po_gRn (t := 1) hW h0 rfl rfl (by decide) (fun i1 ex1 hi1 => ?_)
    refine po_some ?_
    refine po_ck (wt_isO hW hi1 (by decide)) ?_
    refine po_ro (tX1_size hW hi1) (fun y2 ex2 p2 => ?_)
    dsimp only
    refine po_le rfl rfl (fun q3 => ?_) (fun q3 => ?_)
    · refine po_ck rfl ?_
      exact po_ret ⟨rfl, hW, ⟨fun E hE => (by cases hE), fun y hy => by cases hy; exact trivial⟩⟩
    · refine po_bind ex1 ?_
      refine po_some ?_
      refine po_ck (wt_isO hW hi1 (by decide)) ?_
      refine po_ro (tX1_get hW hi1) (fun y4 ex4 p4 => ?_)
      dsimp only
      refine po_some ?_
      refine po_oN (fun q6 => ?_) (fun i5 q6 => ?_)
      · subst q6
        unfold mX8_kept_b63
        have e7 : (v3 + (1 : Int32)).toInt = v3.toInt + 1 := i_add rfl kt_1 (by omega)
        exact (ih v0 v1 (some iv2) (v3 + (1 : Int32)) f hW h0 ⟨_, rfl, h1⟩ (by omega)  (by omega))
      · subst q6
        refine po_gI hW (p4 i5 rfl) rfl rfl (by decide) (fun x8x ex8 (_ : True) => ?_)
        refine po_some ?_
        refine po_ck (wt_isO hW h1 (by decide)) ?_
        refine po_ro (tX3_mayBeginInBuilt hW h1) (fun y9 ex9 p9 => ?_)
        dsimp only
        refine po_eq (fun q10 => ?_) (fun q10 => ?_)
        · unfold mX8_kept_b63
          have e11 : (v3 + (1 : Int32)).toInt = v3.toInt + 1 := i_add rfl kt_1 (by omega)
          exact (ih v0 v1 (some iv2) (v3 + (1 : Int32)) f hW h0 ⟨_, rfl, h1⟩ (by omega)  (by omega))
        · refine po_ck (wt_isO hW h0 (by decide)) ?_
          refine po_ro (tX8_isNow hW h0 ⟨_, rfl, h1⟩ ⟨_, rfl, (p4 i5 rfl)⟩) (fun y12 ex12 p12 => ?_)
          dsimp only
          refine po_eq (fun q13 => ?_) (fun q13 => ?_)
          · unfold mX8_kept_b63
            have e14 : (v3 + (1 : Int32)).toInt = v3.toInt + 1 := i_add rfl kt_1 (by omega)
            exact (ih v0 v1 (some iv2) (v3 + (1 : Int32)) f hW h0 ⟨_, rfl, h1⟩ (by omega)  (by omega))
          · refine po_ck rfl ?_
            exact po_ret ⟨rfl, hW, ⟨fun E hE => (by cases hE), fun y hy => by cases hy; exact trivial⟩⟩
set_option maxHeartbeats 1000000 in
theorem tX8_kept {G : TE} {F0 : AH} {S : Int32} {f : AH} {n : Nat} {v0 : Nat} {v1 : Int32} (hW : WT G F0 S f n) (h0 : G.1 v0 = 8) : PO (mX8_kept v0 v1 f n) (fun v f' n' => n' = n ∧ WT G F0 S f' n ∧ ((∀ E : String, v = .inr E → E = eI) ∧ (∀ y, v = .inl y → True))) := by
  have k_kt_0 := kt_0
  unfold mX8_kept
  refine po_ck (wt_isO hW h0 (by decide)) ?_
  refine po_ro (tX8_pieceOrThrow hW h0) (fun y1 ex1 p1 => ?_)
  dsimp only
  refine po_tS (fun z2 q3 => ?_) (fun E hE => ⟨rfl, hW, ⟨fun E2 h2 => by cases h2; have h3 := p1.1 E hE; first | exact h3 | exact Or.inl h3 | exact Or.inr h3 | exact h3.1 | exact Or.inl h3.1 | exact Or.inr h3.1, fun y hy => (by cases hy)⟩⟩)
  have p4 := p1.2 z2 q3
  obtain ⟨i5, rfl, hii5⟩ := p4
  refine po_some ?_
  refine po_ck (wt_isO hW h0 (by decide)) ?_
  refine po_w (tX8_cutAgain hW h0) (fun y6 g6 hW6 p6 => ?_)
  dsimp only
  exact (tX8_kept_l12 rFU v0 v1 (some i5) (0 : Int32) g6 hW6 h0 ⟨_, rfl, hii5⟩ (by omega)  (by unfold rFU; omega))
