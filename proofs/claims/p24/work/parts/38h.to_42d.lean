/-! part 38h.wt -/
section
set_option maxHeartbeats 1000000 in
theorem tX8_like {G : TE} {F0 : AH} {S : Int32} {f : AH} {n : Nat} {v0 : Nat} {v1 : Int32} {v2 : Int32} (hW : WT G F0 S f n) (h0 : G.1 v0 = 8) : PO (mX8_like v0 v1 v2 f n) (fun v f' n' => f' = f ∧ n' = n ∧ ((∀ E : String, v = .inr E → E = eI) ∧ (∀ y, v = .inl y → True))) := by
  have k_kt_0 := kt_0
  unfold mX8_like
  refine po_ck (wt_isO hW h0 (by decide)) ?_
  refine po_ro (tX8_pieceOrThrow hW h0) (fun y1 ex1 p1 => ?_)
  dsimp only
  refine po_tS (fun z2 q3 => ?_) (fun E hE => ⟨rfl, rfl, ⟨fun E2 h2 => by cases h2; have h3 := p1.1 E hE; first | exact h3 | exact Or.inl h3 | exact Or.inr h3 | exact h3.1 | exact Or.inl h3.1 | exact Or.inr h3.1, fun y hy => (by cases hy)⟩⟩)
  have p4 := p1.2 z2 q3
  obtain ⟨i5, rfl, hii5⟩ := p4
  refine po_some ?_
  exact (tX8_like_l11 rFU v0 v1 v2 (0 : Int32) (0 : Int32) f hW h0 (by omega)  (by unfold rFU; omega))
set_option maxHeartbeats 1000000 in
theorem tX8_would {G : TE} {F0 : AH} {S : Int32} {f : AH} {n : Nat} {v0 : Nat} {v1 : Int32} (hW : WT G F0 S f n) (h0 : G.1 v0 = 8) : PO (mX8_would v0 v1 f n) (fun v f' n' => ∃ G', EXT G G' ∧ WT G' F0 0 f' n' ∧ ((∀ E : String, v = .inr E → E = eI ∨ E = eA) ∧ (∀ y, v = .inl y → True))) := by
  unfold mX8_would
  refine po_ck (wt_isO hW h0 (by decide)) ?_
  refine po_a (tX8_takeTold hW h0) (fun y1 g1 n1 G1 xt1 hW1 p1 => ?_)
  dsimp only
  refine po_some ?_
  refine po_ck (wt_isO hW1 (xt1.ty h0 (by decide)) (by decide)) ?_
  refine po_ro (tX8_pieceOrThrow hW1 (xt1.ty h0 (by decide))) (fun y2 ex2 p2 => ?_)
  dsimp only
  refine po_tS (fun z3 q4 => ?_) (fun E hE => ⟨_, xt1, hW1, ⟨fun E2 h2 => by cases h2; have h3 := p2.1 E hE; first | exact h3 | exact Or.inl h3 | exact Or.inr h3 | exact h3.1 | exact Or.inl h3.1 | exact Or.inr h3.1, fun y hy => (by cases hy)⟩⟩)
  have p5 := p2.2 z3 q4
  obtain ⟨i6, rfl, hii6⟩ := p5
  refine po_some ?_
  refine po_oN (fun q8 => ?_) (fun i7 q8 => ?_)
  · subst q8
    exact po_ret ⟨_, xt1, hW1, ⟨fun E hE => by cases hE; first | exact rfl | exact Or.inl rfl | exact Or.inr rfl, fun y hy => (by cases hy)⟩⟩
  · subst q8
    refine po_gRn (t := 0) hW1 (xt1.ty h0 (by decide)) rfl rfl (by decide) (fun i9 ex9 hi9 => ?_)
    refine po_gRn (t := 7) hW1 (xt1.ty h0 (by decide)) rfl rfl (by decide) (fun i10 ex10 hi10 => ?_)
    refine po_some ?_
    refine po_ck (wt_isO hW1 hi9 (by decide)) ?_
    refine po_w (tX0_escape hW1 hi9 ⟨_, rfl, (p1 i7 rfl)⟩ (fun _ hi => Option.some.inj hi ▸ hii6) ⟨_, rfl, hi10⟩) (fun y11 g11 hW11 p11 => ?_)
    dsimp only
    refine po_eq (fun q12 => ?_) (fun q12 => ?_)
    · unfold mX8_would_b55
      exact po_ret ⟨_, xt1, hW11, ⟨fun E hE => (by cases hE), fun y hy => by cases hy; exact trivial⟩⟩
    · refine po_gRn (t := 0) hW11 (xt1.ty h0 (by decide)) rfl rfl (by decide) (fun i13 ex13 hi13 => ?_)
      refine po_some ?_
      refine po_gRm hW11 hi13 rfl rfl (fun i14 ex14 hi14 hm14 => ?_)
      refine po_some ?_
      refine po_ck (wt_isO hW11 hi14 (by decide)) ?_
      refine po_ro (tX5_size hW11 hi14) (fun y15 ex15 p15 => ?_)
      dsimp only
      unfold mX8_would_b55
      exact po_ret ⟨_, xt1, hW11, ⟨fun E hE => (by cases hE), fun y hy => by cases hy; exact trivial⟩⟩
set_option maxHeartbeats 1000000 in
theorem tX8_smallLetter {G : TE} {F0 : AH} {S : Int32} {f : AH} {n : Nat} {v0 : Int32} (hW : WT G F0 S f n)  : PO (mX8_smallLetter v0 f n) (fun v f' n' => f' = f ∧ n' = n ∧ (True)) := by
  unfold mX8_smallLetter
  refine po_lt rfl kt_65 (fun q1 => ?_) (fun q1 => ?_)
  · unfold mX8_smallLetter_b19
    unfold mX8_smallLetter_b20
    exact po_ret ⟨rfl, rfl, trivial⟩
  · refine po_lt kt_90 rfl (fun q2 => ?_) (fun q2 => ?_)
    · unfold mX8_smallLetter_b19
      unfold mX8_smallLetter_b20
      exact po_ret ⟨rfl, rfl, trivial⟩
    · unfold mX8_smallLetter_b20
      have e3 : (v0 + (32 : Int32)).toInt = v0.toInt + 32 := i_add rfl kt_32 (by omega)
      exact po_ret ⟨rfl, rfl, trivial⟩
set_option maxHeartbeats 1000000 in
theorem tX5_hasSmall_l2 {G : TE} {F0 : AH} {S : Int32} {n : Nat} : ∀ (d : Nat) (v0 : Nat) (v1 : Int32) (v2 : Option Nat) (v3 : Int32) (f : AH), WT G F0 S f n → G.1 v0 = 5 → (∃ i, v2 = some i ∧ G.1 i = 5) → (0 ≤ v3.toInt ∧ v3.toInt ≤ 2000) → 3000 - v3.toInt < (d : Int) → PO (mX5_hasSmall_l2 d v0 v1 v2 v3 f n) (fun v f' n' => f' = f ∧ n' = n ∧ (v = 0 ∨ v = 1)) := by
  intro d
  induction d with
  | zero =>
    intro v0 v1 v2 v3 f hW h0 h1 h2  hm
    exfalso
    obtain ⟨iv2, rfl, h1⟩ := h1
    omega
  | succ d ih =>
    intro v0 v1 v2 v3 f hW h0 h1 h2  hm
    obtain ⟨iv2, rfl, h1⟩ := h1
    show PO (((some iv2)).bind fun j1 => rCk (isO f j1 5) (((mX5_size j1 f n).bind fun r3 => (if r3.1 ≤ v3 then rCk (rNb (1 : Int32)) (some ((1 : Int32), (r3.2.1, r3.2.2))) else rCk (isO r3.2.1 v0 5) (((mX5_get v0 (v1 + v3) r3.2.1 r3.2.2).bind fun r7 => ((mX8_smallLetter r7.1 r7.2.1 r7.2.2).bind fun r9 => rCk (isO r9.2.1 j1 5) (((mX5_get j1 v3 r9.2.1 r9.2.2).bind fun r11 => (if r9.1 = r11.1 then mX5_hasSmall_l2 d v0 v1 (some j1) (v3 + (1 : Int32)) r11.2.1 r11.2.2 else rCk (rNb (0 : Int32)) (some ((0 : Int32), (r11.2.1, r11.2.2))))))))))))) _
    refine po_some ?_
    refine po_ck (wt_isO hW h1 (by decide)) ?_
    refine po_ro (tX5_size hW h1) (fun y1 ex1 p1 => ?_)
    dsimp only
    refine po_le rfl rfl (fun q2 => ?_) (fun q2 => ?_)
    · refine po_ck rfl ?_
      exact po_ret ⟨rfl, rfl, (Or.inr rfl)⟩
    · refine po_ck (wt_isO hW h0 (by decide)) ?_
      refine po_ro (tX5_get hW h0) (fun y3 ex3 p3 => ?_)
      dsimp only
      refine po_ro (tX8_smallLetter hW ) (fun y4 ex4 p4 => ?_)
      dsimp only
      refine po_ck (wt_isO hW h1 (by decide)) ?_
      refine po_ro (tX5_get hW h1) (fun y5 ex5 p5 => ?_)
      dsimp only
      refine po_eq (fun q6 => ?_) (fun q6 => ?_)
      · have e7 : (v3 + (1 : Int32)).toInt = v3.toInt + 1 := i_add rfl kt_1 (by omega)
        exact (ih v0 v1 (some iv2) (v3 + (1 : Int32)) f hW h0 ⟨_, rfl, h1⟩ (by omega)  (by omega))
      · refine po_ck rfl ?_
        exact po_ret ⟨rfl, rfl, (Or.inl rfl)⟩
set_option maxHeartbeats 1000000 in
theorem tX5_hasSmall {G : TE} {F0 : AH} {S : Int32} {f : AH} {n : Nat} {v0 : Nat} {v1 : Int32} {v2 : Option Nat} (hW : WT G F0 S f n) (h0 : G.1 v0 = 5) (h1 : (∃ i, v2 = some i ∧ G.1 i = 5)) : PO (mX5_hasSmall v0 v1 v2 f n) (fun v f' n' => f' = f ∧ n' = n ∧ (v = 0 ∨ v = 1)) := by
  obtain ⟨iv2, rfl, h1⟩ := h1
  have k_kt_0 := kt_0
  unfold mX5_hasSmall
  exact (tX5_hasSmall_l2 rFU v0 v1 (some iv2) (0 : Int32) f hW h0 ⟨_, rfl, h1⟩ (by omega)  (by unfold rFU; omega))
set_option maxHeartbeats 1000000 in
theorem tX5_hasWord_l3 {G : TE} {F0 : AH} {S : Int32} {n : Nat} : ∀ (d : Nat) (v0 : Nat) (v1 : Int32) (v2 : Int32) (v3 : Option Nat) (v4 : Int32) (f : AH), WT G F0 S f n → G.1 v0 = 5 → (0 ≤ v1.toInt ∧ v1.toInt ≤ 600) → ((-700) ≤ v2.toInt ∧ v2.toInt ≤ 700) → (∃ i, v3 = some i ∧ G.1 i = 5) → (0 ≤ v4.toInt ∧ v4.toInt ≤ 2000) → v1.toInt + v2.toInt - v4.toInt + 4000 < (d : Int) → PO (mX5_hasWord_l3 d v0 v1 v2 v3 v4 f n) (fun v f' n' => f' = f ∧ n' = n ∧ (v = 0 ∨ v = 1)) := by
  intro d
  induction d with
  | zero =>
    intro v0 v1 v2 v3 v4 f hW h0 h1 h2 h3 h4  hm
    exfalso
    obtain ⟨iv3, rfl, h3⟩ := h3
    omega
  | succ d ih =>
    intro v0 v1 v2 v3 v4 f hW h0 h1 h2 h3 h4  hm
    obtain ⟨iv3, rfl, h3⟩ := h3
    show PO (((some iv3)).bind fun j1 => rCk (isO f j1 5) (((mX5_size j1 f n).bind fun r3 => (if ((v1 + v2) - r3.1) < v4 then rCk (rNb (0 : Int32)) (some ((0 : Int32), (r3.2.1, r3.2.2))) else rCk (isO r3.2.1 v0 5) (((mX5_hasSmall v0 v4 (some j1) r3.2.1 r3.2.2).bind fun r7 => (if r7.1 = (0 : Int32) then mX5_hasWord_l3 d v0 v1 v2 (some j1) (v4 + (1 : Int32)) r7.2.1 r7.2.2 else rCk (rNb (1 : Int32)) (some ((1 : Int32), (r7.2.1, r7.2.2)))))))))) _
    refine po_some ?_
    refine po_ck (wt_isO hW h3 (by decide)) ?_
    refine po_ro (tX5_size hW h3) (fun y1 ex1 p1 => ?_)
    dsimp only
    have e3 : (v1 + v2).toInt = v1.toInt + v2.toInt := i_add rfl rfl (by omega)
    have e4 : ((v1 + v2) - y1).toInt = (v1 + v2).toInt - y1.toInt := i_sub rfl rfl (by omega)
    refine po_lt rfl rfl (fun q2 => ?_) (fun q2 => ?_)
    · refine po_ck rfl ?_
      exact po_ret ⟨rfl, rfl, (Or.inl rfl)⟩
    · refine po_ck (wt_isO hW h0 (by decide)) ?_
      refine po_ro (tX5_hasSmall hW h0 ⟨_, rfl, h3⟩) (fun y5 ex5 p5 => ?_)
      dsimp only
      refine po_eq (fun q6 => ?_) (fun q6 => ?_)
      · have e7 : (v4 + (1 : Int32)).toInt = v4.toInt + 1 := i_add rfl kt_1 (by omega)
        exact (ih v0 v1 v2 (some iv3) (v4 + (1 : Int32)) f hW h0 (by omega) (by omega) ⟨_, rfl, h3⟩ (by omega)  (by omega))
      · refine po_ck rfl ?_
        exact po_ret ⟨rfl, rfl, (Or.inr rfl)⟩
set_option maxHeartbeats 1000000 in
theorem tX5_hasWord {G : TE} {F0 : AH} {S : Int32} {f : AH} {n : Nat} {v0 : Nat} {v1 : Int32} {v2 : Int32} {v3 : Option Nat} (hW : WT G F0 S f n) (h0 : G.1 v0 = 5) (h1 : (0 ≤ v1.toInt ∧ v1.toInt ≤ 600)) (h2 : ((-700) ≤ v2.toInt ∧ v2.toInt ≤ 700)) (h3 : (∃ i, v3 = some i ∧ G.1 i = 5)) : PO (mX5_hasWord v0 v1 v2 v3 f n) (fun v f' n' => f' = f ∧ n' = n ∧ (v = 0 ∨ v = 1)) := by
  obtain ⟨iv3, rfl, h3⟩ := h3
  unfold mX5_hasWord
  exact (tX5_hasWord_l3 rFU v0 v1 v2 (some iv3) v1 f hW h0 (by omega) (by omega) ⟨_, rfl, h3⟩ (by omega)  (by unfold rFU; omega))
set_option maxHeartbeats 1000000 in
theorem tX8_hasWord {G : TE} {F0 : AH} {S : Int32} {f : AH} {n : Nat} {v0 : Nat} {v1 : Int32} {v2 : Option Nat} (hW : WT G F0 S f n) (h0 : G.1 v0 = 8) (h1 : (∃ i, v2 = some i ∧ G.1 i = 5)) : PO (mX8_hasWord v0 v1 v2 f n) (fun v f' n' => f' = f ∧ n' = n ∧ (True)) := by
  obtain ⟨iv2, rfl, h1⟩ := h1
  have k_kt_0 := kt_0
  unfold mX8_hasWord
  refine po_gRn (t := 1) hW h0 rfl rfl (by decide) (fun i1 ex1 hi1 => ?_)
  refine po_some ?_
  refine po_ck (wt_isO hW hi1 (by decide)) ?_
  refine po_ro (tX1_get hW hi1) (fun y2 ex2 p2 => ?_)
  dsimp only
  refine po_some ?_
  refine po_oN (fun q4 => ?_) (fun i3 q4 => ?_)
  · subst q4
    refine po_ck rfl ?_
    exact po_ret ⟨rfl, rfl, trivial⟩
  · subst q4
    refine po_gRn (t := 7) hW h0 rfl rfl (by decide) (fun i5 ex5 hi5 => ?_)
    refine po_some ?_
    refine po_ck (wt_isO hW hi5 (by decide)) ?_
    refine po_ro (tX7_toldFor hW hi5) (fun y6 ex6 p6 => ?_)
    dsimp only
    refine po_some ?_
    refine po_oN (fun q8 => ?_) (fun i7 q8 => ?_)
    · subst q8
      refine po_bind ex1 ?_
      refine po_some ?_
      refine po_gRm hW hi1 rfl rfl (fun i9 ex9 hi9 hm9 => ?_)
      refine po_gI hW (p2 i3 rfl) rfl rfl (by decide) (fun x10x ex10 (hx10 : 0 ≤ x10x.toInt ∧ x10x.toInt ≤ 600) => ?_)
      refine po_gI hW (p2 i3 rfl) rfl rfl (by decide) (fun x11x ex11 (hx11 : (-700) ≤ x11x.toInt ∧ x11x.toInt ≤ 700) => ?_)
      refine po_some ?_
      refine po_ck (wt_isO hW hi9 (by decide)) ?_
      refine po_ro (tX5_hasWord hW hi9 (by omega) (by omega) ⟨_, rfl, h1⟩) (fun y12 ex12 p12 => ?_)
      dsimp only
      unfold mX8_hasWord_b64
      refine po_ck (nb_of p12) ?_
      exact po_ret ⟨rfl, rfl, trivial⟩
    · subst q8
      refine po_ck (wt_isO hW (p6 i7 rfl) (by decide)) ?_
      refine po_ro (tX5_size hW (p6 i7 rfl)) (fun y13 ex13 p13 => ?_)
      dsimp only
      refine po_ck (wt_isO hW (p6 i7 rfl) (by decide)) ?_
      refine po_ro (tX5_hasWord hW (p6 i7 rfl) (by omega) (by omega) ⟨_, rfl, h1⟩) (fun y14 ex14 p14 => ?_)
      dsimp only
      unfold mX8_hasWord_b64
      refine po_ck (nb_of p14) ?_
      exact po_ret ⟨rfl, rfl, trivial⟩
set_option maxHeartbeats 1000000 in
theorem tX8_found_l24 {G : TE} {F0 : AH} {S : Int32} {n : Nat} : ∀ (d : Nat) (v0 : Nat) (v1 : Option Nat) (v2 : Int64) (v4 : Int32) (f : AH), WT G F0 S f n → G.1 v0 = 8 → (∃ i, v1 = some i ∧ G.1 i = 5) → (0 ≤ v4.toInt ∧ v4.toInt ≤ 2000) → 3000 - v4.toInt < (d : Int) → PO (mX8_found_l24 d v0 v1 v2 v4 f n) (fun v f' n' => f' = f ∧ n' = n ∧ ((∀ E : String, v = .inr E → E = eA) ∧ (∀ y, v = .inl y → True))) := by
  intro d
  induction d with
  | zero =>
    intro v0 v1 v2 v4 f hW h0 h1 h2  hm
    exfalso
    obtain ⟨iv1, rfl, h1⟩ := h1
    omega
  | succ d ih =>
    intro v0 v1 v2 v4 f hW h0 h1 h2  hm
    obtain ⟨iv1, rfl, h1⟩ := h1
    show PO ((gR f v0 8 5).bind fun x1 => ((x1).bind fun j2 => rCk (isO f j2 1) (((mX1_size j2 f n).bind fun r4 => (if r4.1 ≤ v4 then some (.inl v2, (r4.2.1, r4.2.2)) else rCk (isO r4.2.1 v0 8) (((mX8_hasWord v0 v4 (some iv1) r4.2.1 r4.2.2).bind fun r7 => (if r7.1 = (0 : Int32) then mX8_found_b53 (fun v0 v1 v2 v4 f n => mX8_found_l24 d v0 v1 v2 v4 f n) v0 (some iv1) v2 v4 r7.2.1 r7.2.2 else mX8_found_b53 (fun v0 v1 v2 v4 f n => mX8_found_l24 d v0 v1 v2 v4 f n) v0 (some iv1) (v2 ||| ((1 : Int64) <<< (v4.toInt64 &&& 63))) v4 r7.2.1 r7.2.2)))))))) _
    refine po_gRn (t := 1) hW h0 rfl rfl (by decide) (fun i1 ex1 hi1 => ?_)
    refine po_some ?_
    refine po_ck (wt_isO hW hi1 (by decide)) ?_
    refine po_ro (tX1_size hW hi1) (fun y2 ex2 p2 => ?_)
    dsimp only
    refine po_le rfl rfl (fun q3 => ?_) (fun q3 => ?_)
    · exact po_ret ⟨rfl, rfl, ⟨fun E hE => (by cases hE), fun y hy => by cases hy; exact trivial⟩⟩
    · refine po_ck (wt_isO hW h0 (by decide)) ?_
      refine po_ro (tX8_hasWord hW h0 ⟨_, rfl, h1⟩) (fun y4 ex4 p4 => ?_)
      dsimp only
      refine po_eq (fun q5 => ?_) (fun q5 => ?_)
      · unfold mX8_found_b53
        have e6 : (v4 + (1 : Int32)).toInt = v4.toInt + 1 := i_add rfl kt_1 (by omega)
        exact (ih v0 (some iv1) v2 (v4 + (1 : Int32)) f hW h0 ⟨_, rfl, h1⟩ (by omega)  (by omega))
      · unfold mX8_found_b53
        have e7 : (v4 + (1 : Int32)).toInt = v4.toInt + 1 := i_add rfl kt_1 (by omega)
        exact (ih v0 (some iv1) (v2 ||| ((1 : Int64) <<< (v4.toInt64 &&& 63))) (v4 + (1 : Int32)) f hW h0 ⟨_, rfl, h1⟩ (by omega)  (by omega))
set_option maxHeartbeats 1000000 in
theorem tX8_found {G : TE} {F0 : AH} {S : Int32} {f : AH} {n : Nat} {v0 : Nat} (hW : WT G F0 S f n) (h0 : G.1 v0 = 8) : PO (mX8_found v0 f n) (fun v f' n' => ∃ G', EXT G G' ∧ WT G' F0 0 f' n' ∧ ((∀ E : String, v = .inr E → E = eA) ∧ (∀ y, v = .inl y → True))) := by
  have k_kt_0 := kt_0
  unfold mX8_found
  refine po_ck (wt_isO hW h0 (by decide)) ?_
  refine po_a (tX8_takeWord hW h0) (fun y1 g1 n1 G1 xt1 hW1 p1 => ?_)
  dsimp only
  refine po_some ?_
  refine po_oN (fun q3 => ?_) (fun i2 q3 => ?_)
  · subst q3
    exact po_ret ⟨_, xt1, hW1, ⟨fun E hE => by cases hE; first | exact rfl | exact Or.inl rfl | exact Or.inr rfl, fun y hy => (by cases hy)⟩⟩
  · subst q3
    exact po_tail (tX8_found_l24 rFU v0 (some i2) (0 : Int64) (0 : Int32) g1 hW1 (xt1.ty h0 (by decide)) ⟨_, rfl, (p1 i2 rfl)⟩ (by omega)  (by unfold rFU; omega)) (fun v f2 n2 q => ⟨_, xt1, by rw [q.1, q.2.1]; exact hW1, q.2.2⟩)
set_option maxHeartbeats 1000000 in
theorem tX3_mayBeginInBuilt {G : TE} {F0 : AH} {S : Int32} {f : AH} {n : Nat} {v0 : Nat} {v1 : Int32} (hW : WT G F0 S f n) (h0 : G.1 v0 = 3) : PO (mX3_mayBeginInBuilt v0 v1 f n) (fun v f' n' => f' = f ∧ n' = n ∧ (v = 0 ∨ v = 1)) := by
  unfold mX3_mayBeginInBuilt
  refine po_gI hW h0 rfl rfl (by decide) (fun x1x ex1 (_ : True) => ?_)
  refine po_eq (fun q2 => ?_) (fun q2 => ?_)
  · unfold mX3_mayBeginInBuilt_b28
    unfold mX3_mayBeginInBuilt_b33
    refine po_ck (nb_of (Or.inr rfl)) ?_
    exact po_ret ⟨rfl, rfl, (Or.inr rfl)⟩
  · refine po_gI hW h0 rfl rfl (by decide) (fun x3x ex3 (_ : True) => ?_)
    refine po_le rfl kt_0 (fun q4 => ?_) (fun q4 => ?_)
    · unfold mX3_mayBeginInBuilt_b32
      unfold mX3_mayBeginInBuilt_b33
      refine po_ck (nb_of (Or.inl rfl)) ?_
      exact po_ret ⟨rfl, rfl, (Or.inl rfl)⟩
    · refine po_bind ex1 ?_
      refine po_bind ex3 ?_
      refine po_eq (fun q5 => ?_) (fun q5 => ?_)
      · unfold mX3_mayBeginInBuilt_b28
        unfold mX3_mayBeginInBuilt_b33
        refine po_ck (nb_of (Or.inr rfl)) ?_
        exact po_ret ⟨rfl, rfl, (Or.inr rfl)⟩
      · unfold mX3_mayBeginInBuilt_b32
        unfold mX3_mayBeginInBuilt_b33
        refine po_ck (nb_of (Or.inl rfl)) ?_
        exact po_ret ⟨rfl, rfl, (Or.inl rfl)⟩
set_option maxHeartbeats 1000000 in
theorem tX8_kept_l12 {G : TE} {F0 : AH} {S : Int32} {n : Nat} : ∀ (d : Nat) (v0 : Nat) (v1 : Int32) (v2 : Option Nat) (v3 : Int32) (f : AH), WT G F0 S f n → G.1 v0 = 8 → (∃ i, v2 = some i ∧ G.1 i = 3) → (0 ≤ v3.toInt ∧ v3.toInt ≤ 2000) → 3000 - v3.toInt < (d : Int) → PO (mX8_kept_l12 d v0 v1 v2 v3 f n) (fun v f' n' => n' = n ∧ WT G F0 S f' n ∧ ((∀ E : String, v = .inr E → E = eI) ∧ (∀ y, v = .inl y → True))) := by
  intro d
  induction d with
  | zero =>
    intro v0 v1 v2 v3 f hW h0 h1 h2  hm
    exfalso
    obtain ⟨iv2, rfl, h1⟩ := h1
    omega
  | succ d ih =>
    intro v0 v1 v2 v3 f hW h0 h1 h2  hm
    obtain ⟨iv2, rfl, h1⟩ := h1
    show PO ((gR f v0 8 6).bind fun x1 => ((x1).bind fun j2 => rCk (isO f j2 1) (((mX1_size j2 f n).bind fun r4 => (if r4.1 ≤ v3 then rCk (rNb (0 : Int32)) (some (.inl (0 : Int32), (r4.2.1, r4.2.2))) else ((gR r4.2.1 v0 8 6).bind fun x7 => ((x7).bind fun j8 => rCk (isO r4.2.1 j8 1) (((mX1_get j8 v3 r4.2.1 r4.2.2).bind fun r10 => ((some r10.1).bind fun x12 => (oN x12 (mX8_kept_b63 (fun v0 v1 v2 v3 f n => mX8_kept_l12 d v0 v1 v2 v3 f n) v0 v1 (some iv2) v3 r10.2.1 r10.2.2) (fun j13 => ((gI r10.2.1 j13 3 0).bind fun x14 => (((some iv2)).bind fun j15 => rCk (isO r10.2.1 j15 3) (((mX3_mayBeginInBuilt j15 x14 r10.2.1 r10.2.2).bind fun r17 => (if r17.1 = (0 : Int32) then mX8_kept_b63 (fun v0 v1 v2 v3 f n => mX8_kept_l12 d v0 v1 v2 v3 f n) v0 v1 (some j15) v3 r17.2.1 r17.2.2 else rCk (isO r17.2.1 v0 8) (((mX8_isNow v0 v1 (some j15) (some j13) r17.2.1 r17.2.2).bind fun r20 => (if r20.1 = (0 : Int32) then mX8_kept_b63 (fun v0 v1 v2 v3 f n => mX8_kept_l12 d v0 v1 v2 v3 f n) v0 v1 (some j15) v3 r20.2.1 r20.2.2 else rCk (rNb (1 : Int32)) (some (.inl (1 : Int32), (r20.2.1, r20.2.2))))))))))))))))))))))) _
    refine po_gRn (t := 1) hW h0 rfl rfl (by decide) (fun i1 ex1 hi1 => ?_)
    refine po_some ?_
    refine po_ck (wt_isO hW hi1 (by decide)) ?_
    refine po_ro (tX1_size hW hi1) (fun y2 ex2 p2 => ?_)
    dsimp only
    refine po_le rfl rfl (fun q3 => ?_) (fun q3 => ?_)
    · refine po_ck rfl ?_
      exact po_ret ⟨rfl, hW, ⟨fun E hE => (by cases hE), fun y hy => by cases hy; exact trivial⟩⟩
    · refine po_bind ex1 ?_
      refine po_some ?_
      refine po_ck (wt_isO hW hi1 (by decide)) ?_
      refine po_ro (tX1_get hW hi1) (fun y4 ex4 p4 => ?_)
      dsimp only
      refine po_some ?_
      refine po_oN (fun q6 => ?_) (fun i5 q6 => ?_)
      · subst q6
        unfold mX8_kept_b63
        have e7 : (v3 + (1 : Int32)).toInt = v3.toInt + 1 := i_add rfl kt_1 (by omega)
        exact (ih v0 v1 (some iv2) (v3 + (1 : Int32)) f hW h0 ⟨_, rfl, h1⟩ (by omega)  (by omega))
      · subst q6
        refine po_gI hW (p4 i5 rfl) rfl rfl (by decide) (fun x8x ex8 (_ : True) => ?_)
        refine po_some ?_
        refine po_ck (wt_isO hW h1 (by decide)) ?_
        refine po_ro (tX3_mayBeginInBuilt hW h1) (fun y9 ex9 p9 => ?_)
        dsimp only
        refine po_eq (fun q10 => ?_) (fun q10 => ?_)
        · unfold mX8_kept_b63
          have e11 : (v3 + (1 : Int32)).toInt = v3.toInt + 1 := i_add rfl kt_1 (by omega)
          exact (ih v0 v1 (some iv2) (v3 + (1 : Int32)) f hW h0 ⟨_, rfl, h1⟩ (by omega)  (by omega))
        · refine po_ck (wt_isO hW h0 (by decide)) ?_
          refine po_ro (tX8_isNow hW h0 ⟨_, rfl, h1⟩ ⟨_, rfl, (p4 i5 rfl)⟩) (fun y12 ex12 p12 => ?_)
          dsimp only
          refine po_eq (fun q13 => ?_) (fun q13 => ?_)
          · unfold mX8_kept_b63
            have e14 : (v3 + (1 : Int32)).toInt = v3.toInt + 1 := i_add rfl kt_1 (by omega)
            exact (ih v0 v1 (some iv2) (v3 + (1 : Int32)) f hW h0 ⟨_, rfl, h1⟩ (by omega)  (by omega))
          · refine po_ck rfl ?_
            exact po_ret ⟨rfl, hW, ⟨fun E hE => (by cases hE), fun y hy => by cases hy; exact trivial⟩⟩
set_option maxHeartbeats 1000000 in
theorem tX8_kept {G : TE} {F0 : AH} {S : Int32} {f : AH} {n : Nat} {v0 : Nat} {v1 : Int32} (hW : WT G F0 S f n) (h0 : G.1 v0 = 8) : PO (mX8_kept v0 v1 f n) (fun v f' n' => n' = n ∧ WT G F0 S f' n ∧ ((∀ E : String, v = .inr E → E = eI) ∧ (∀ y, v = .inl y → True))) := by
  have k_kt_0 := kt_0
  unfold mX8_kept
  refine po_ck (wt_isO hW h0 (by decide)) ?_
  refine po_ro (tX8_pieceOrThrow hW h0) (fun y1 ex1 p1 => ?_)
  dsimp only
  refine po_tS (fun z2 q3 => ?_) (fun E hE => ⟨rfl, hW, ⟨fun E2 h2 => by cases h2; have h3 := p1.1 E hE; first | exact h3 | exact Or.inl h3 | exact Or.inr h3 | exact h3.1 | exact Or.inl h3.1 | exact Or.inr h3.1, fun y hy => (by cases hy)⟩⟩)
  have p4 := p1.2 z2 q3
  obtain ⟨i5, rfl, hii5⟩ := p4
  refine po_some ?_
  refine po_ck (wt_isO hW h0 (by decide)) ?_
  refine po_w (tX8_cutAgain hW h0) (fun y6 g6 hW6 p6 => ?_)
  dsimp only
  exact (tX8_kept_l12 rFU v0 v1 (some i5) (0 : Int32) g6 hW6 h0 ⟨_, rfl, hii5⟩ (by omega)  (by unfold rFU; omega))
end
/-! part 39a.tape -/
section
/-! the tape -/
section TAPE
variable {G : TE} {F0 : AH} {n : Nat}
theorem tX8_addFour_l3 : ∀ (d k : Nat) (S : Int32) (v0 : Nat) (v1 v2 : Int32) (f : AH), WT G F0 S f n → G.1 v0 = 8 → k < d → v2.toInt = 8 * (k : Int) - 8 → k ≤ 4 → S.toInt + k ≤ 400 → PO (mX8_addFour_l3 d v0 v1 v2 f n) (fun v f' n' => n' = n ∧ ∃ S' : Int32, WT G F0 S' f' n ∧ S'.toInt = S.toInt + k) := by
  intro d
  induction d with
  | zero => intro k S v0 v1 v2 f hW h0 hk; omega
  | succ d ih =>
    intro k S v0 v1 v2 f hW h0 hk hv h4 hS
    unfold mX8_addFour_l3
    refine po_lt rfl kt_0 (fun q => ?_) (fun q => ?_)
    · exact po_ret ⟨rfl, S, hW, by omega⟩
    · refine po_gR1 hW h0 (fun ex => ?_)
      refine po_some ?_
      refine po_ck (wt_isO hW hW.2.2.2.2.2 (by decide)) ?_
      obtain ⟨s, f', hs, hs0, hs1, h | h⟩ := add_x (v1 := ((v1.toUInt32 >>> (v2.toUInt32 &&& Int32.toUInt32 31)).toInt32 &&& (255 : Int32))) hW hW.2.2.2.2.2
      · exfalso
        obtain ⟨s2, hs2, a1, a2, a3, a4, a5⟩ := wt_row hW hW.2.2.2.2.2
        have e : s2 = s := Option.some.inj (hs2.symm.trans hs)
        have e2 := a5 rfl
        rw [e] at e2
        rw [e2.1] at h
        omega
      · refine po_bind h.1 ?_
        dsimp only
        obtain ⟨s2, hs2, a1, a2, a3, a4, a5⟩ := wt_row hW hW.2.2.2.2.2
        have e : s2 = s := Option.some.inj (hs2.symm.trans hs)
        have e2 := (a5 rfl).1
        rw [e] at e2
        subst e2
        have hW2 := h.2.2.1
        rw [if_pos rfl] at hW2
        have e1 : (s + 1).toInt = s.toInt + 1 := i_add rfl (by decide) (by omega)
        have e8 : (v2 + (-8 : Int32)).toInt = v2.toInt + -8 := i_add rfl (by decide) (by omega)
        refine po_tail (ih (k - 1) (s + 1) v0 v1 (v2 + (-8 : Int32)) f' hW2 h0 (by omega) (by rw [e8]; omega) (by omega) (by omega)) (fun v g m q => ⟨q.1, ?_⟩)
        obtain ⟨S', hS', e'⟩ := q.2
        exact ⟨S', hS', by omega⟩
theorem tX8_addFour {S : Int32} {f : AH} {v0 : Nat} {v1 : Int32} (hW : WT G F0 S f n) (h0 : G.1 v0 = 8) (hS : S.toInt + 4 ≤ 400) : PO (mX8_addFour v0 v1 f n) (fun v f' n' => n' = n ∧ ∃ S' : Int32, WT G F0 S' f' n ∧ S'.toInt = S.toInt + 4) := by
  unfold mX8_addFour
  exact tX8_addFour_l3 rFU 4 S v0 v1 24 f hW h0 (by unfold rFU; omega) (by decide) (by omega) (by omega)
theorem po_four {β : Type} {Q : β → AH → Nat → Prop} {S : Int32} {f : AH} {v0 : Nat} {v1 : Int32} {k : Int32 × HpN → Option (β × HpN)} (hW : WT G F0 S f n) (h0 : G.1 v0 = 8) (hS : S.toInt + 4 ≤ 400) (h : ∀ v f' S', WT G F0 S' f' n → S'.toInt = S.toInt + 4 → PO (k (v, (f', n))) Q) : PO ((mX8_addFour v0 v1 f n).bind k) Q := by
  obtain ⟨v, f', n', e, hn, S', hW', hS'⟩ := tX8_addFour (v1 := v1) hW h0 hS
  subst hn
  rw [e]; exact h v f' S' hW' hS'
theorem tX8_feed {S : Int32} {f : AH} {v0 : Nat} {v1 v2 v3 v4 v5 : Int32} (hW : WT G F0 S f n) (h0 : G.1 v0 = 8) : PO (mX8_feed v0 v1 v2 v3 v4 v5 f n) (fun v f' n' => n' = n ∧ ∃ S' : Int32, WT G F0 S' f' n ∧ ((S.toInt + 20 ≤ 400 ∧ S'.toInt = S.toInt + 20 ∧ v = S') ∨ (400 < S.toInt + 20 ∧ S' = S ∧ v = -1))) := by
  have hT : G.1 1 = 5 := hW.2.2.2.2.2
  unfold mX8_feed
  refine po_gR1 hW h0 (fun ex => ?_)
  refine po_some ?_
  refine po_ck (wt_isO hW hT (by decide)) ?_
  refine po_ro (tX5_size hW hT) (fun y ey p => ?_)
  dsimp only
  obtain ⟨rfl, s1, s2⟩ := sz_tape hW ey
  refine po_le (x := y + (20 : Int32)) (y := 400) (i_add rfl (show (20 : Int32).toInt = 20 by decide) (by omega)) (show (400 : Int32).toInt = 400 by decide) (fun q => ?_) (fun q => ?_)
  · refine po_ck (wt_isO hW h0 (by decide)) ?_
    refine po_four hW h0 (by omega) (fun v f1 S1 hW1 e1 => ?_)
    dsimp only
    refine po_ck (wt_isO hW1 h0 (by decide)) ?_
    refine po_four hW1 h0 (by omega) (fun v f2 S2 hW2 e2 => ?_)
    dsimp only
    refine po_ck (wt_isO hW2 h0 (by decide)) ?_
    refine po_four hW2 h0 (by omega) (fun v f3 S3 hW3 e3 => ?_)
    dsimp only
    refine po_ck (wt_isO hW3 h0 (by decide)) ?_
    refine po_four hW3 h0 (by omega) (fun v f4 S4 hW4 e4 => ?_)
    dsimp only
    refine po_ck (wt_isO hW4 h0 (by decide)) ?_
    refine po_four hW4 h0 (by omega) (fun v f5 S5 hW5 e5 => ?_)
    dsimp only
    refine po_gR1 hW5 h0 (fun ex5 => ?_)
    refine po_some ?_
    refine po_ck (wt_isO hW5 hT (by decide)) ?_
    refine po_ro (tX5_size hW5 hT) (fun z ez p => ?_)
    dsimp only
    obtain ⟨rfl, -, -⟩ := sz_tape hW5 ez
    exact po_ret ⟨rfl, z, hW5, Or.inl ⟨by omega, by omega, rfl⟩⟩
  · exact po_ret ⟨rfl, y, hW, Or.inr ⟨by omega, rfl, rfl⟩⟩
theorem tX8_end {S : Int32} {f : AH} {v0 : Nat} {v1 : Int32} (hW : WT G F0 S f n) (h0 : G.1 v0 = 8) : PO (mX8_end v0 v1 f n) (fun v f' n' => n' = n ∧ ∃ S' : Int32, WT G F0 S' f' n ∧ ((0 ≤ v1.toInt ∧ v1.toInt ≤ S.toInt ∧ S' = v1 ∧ v = 1) ∨ (¬ (0 ≤ v1.toInt ∧ v1.toInt ≤ S.toInt) ∧ S' = S ∧ v = 0))) := by
  have hT : G.1 1 = 5 := hW.2.2.2.2.2
  unfold mX8_end
  refine po_lt rfl kt_0 (fun q => ?_) (fun q => ?_)
  · unfold mX8_end_b15
    exact po_ck rfl (po_ret ⟨rfl, S, hW, Or.inr ⟨by omega, rfl, rfl⟩⟩)
  · refine po_gR1 hW h0 (fun ex => ?_)
    refine po_some ?_
    refine po_ck (wt_isO hW hT (by decide)) ?_
    refine po_ro (tX5_size hW hT) (fun y ey p => ?_)
    dsimp only
    obtain ⟨rfl, s1, s2⟩ := sz_tape hW ey
    refine po_le rfl rfl (fun q2 => ?_) (fun q2 => ?_)
    · refine po_gR1 hW h0 (fun ex => ?_)
      refine po_some ?_
      refine po_ck (wt_isO hW hT (by decide)) ?_
      obtain ⟨f', e, h⟩ := cut_x (v1 := v1) hW hT
      rw [if_pos rfl] at h
      refine po_bind e ?_
      dsimp only
      refine po_ck rfl ?_
      refine po_ret ⟨rfl, v1, ?_, Or.inl ⟨q, q2, rfl, rfl⟩⟩
      by_cases hl : v1.toInt < y.toInt
      · rw [if_pos ⟨q, hl⟩] at h; exact h
      · rw [if_neg (fun z => hl z.2)] at h
        have : v1 = y := Int32.toInt_inj.mp (by omega)
        rw [this]; exact h
    · unfold mX8_end_b15
      exact po_ck rfl (po_ret ⟨rfl, y, hW, Or.inr ⟨by omega, rfl, rfl⟩⟩)
end TAPE
end
/-! part 40a.two -/
section
/-! the reference: two runs side by side -/
def P2 {α : Type} (o o' : Option (α × RS9)) (Q : α → RS9 → α → RS9 → Prop) : Prop := ∃ v σ v' τ, o = some (v, σ) ∧ o' = some (v', τ) ∧ Q v σ v' τ
section P2S
variable {α β : Type} {Q : β → RS9 → β → RS9 → Prop} {σ τ : RS9}
theorem p2_ret {v v' : β} (h : Q v σ v' τ) : P2 (some (v, σ)) (some (v', τ)) Q := ⟨v, σ, v', τ, rfl, rfl, h⟩
theorem p2_ck {b b' : Bool} {x x' : Option (β × RS9)} (hb : b = true) (hb' : b' = true) (h : P2 x x' Q) : P2 (rCk b x) (rCk b' x') Q := by rw [hb, hb']; exact h
theorem p2_call {o o' : Option (α × RS9)} {Q1 : α → RS9 → α → RS9 → Prop} {k k' : α × RS9 → Option (β × RS9)} (h1 : P2 o o' Q1) (h : ∀ v σ v' τ, Q1 v σ v' τ → P2 (k (v, σ)) (k' (v', τ)) Q) : P2 (o.bind k) (o'.bind k') Q := by
  obtain ⟨v, σ, v', τ, e, e', q⟩ := h1
  rw [e, e']; exact h v σ v' τ q
theorem p2_ro {o o' : Option (α × RS9)} {P : α → Prop} {k k' : α × RS9 → Option (β × RS9)} (h1 : P2 o o' (fun v σ' v' τ' => σ' = σ ∧ τ' = τ ∧ v' = v ∧ P v)) (h : ∀ v, P v → P2 (k (v, σ)) (k' (v, τ)) Q) : P2 (o.bind k) (o'.bind k') Q := by
  obtain ⟨v, σ', v', τ', e, e', a, b, c, q⟩ := h1
  subst a b c
  rw [e, e']; exact h v' q
theorem p2_tail {o o' : Option (β × RS9)} {Q1 : β → RS9 → β → RS9 → Prop} (h1 : P2 o o' Q1) (h : ∀ v σ v' τ, Q1 v σ v' τ → Q v σ v' τ) : P2 o o' Q := by
  obtain ⟨v, σ, v', τ, e, e', q⟩ := h1
  exact ⟨v, σ, v', τ, e, e', h v σ v' τ q⟩
theorem p2_lt {x y x' y' : Int32} {a b : Int} {A B A' B' : Option (β × RS9)} (ex : x.toInt = a) (ey : y.toInt = b) (hx : x' = x) (hy : y' = y) (h1 : a < b → P2 A A' Q) (h2 : b ≤ a → P2 B B' Q) : P2 (if x < y then A else B) (if x' < y' then A' else B') Q := by
  subst ex ey hx hy
  by_cases h : x'.toInt < y'.toInt
  · rw [if_pos (c_lt h), if_pos (c_lt h)]; exact h1 h
  · rw [if_neg (c_nlt (by omega)), if_neg (c_nlt (by omega))]; exact h2 (by omega)
theorem p2_le {x y x' y' : Int32} {a b : Int} {A B A' B' : Option (β × RS9)} (ex : x.toInt = a) (ey : y.toInt = b) (hx : x' = x) (hy : y' = y) (h1 : a ≤ b → P2 A A' Q) (h2 : b < a → P2 B B' Q) : P2 (if x ≤ y then A else B) (if x' ≤ y' then A' else B') Q := by
  subst ex ey hx hy
  by_cases h : x'.toInt ≤ y'.toInt
  · rw [if_pos (c_le h), if_pos (c_le h)]; exact h1 h
  · rw [if_neg (c_nle (by omega)), if_neg (c_nle (by omega))]; exact h2 (by omega)
theorem p2_eq {x y x' y' : Int32} {A B A' B' : Option (β × RS9)} (hx : x' = x) (hy : y' = y) (h1 : x = y → P2 A A' Q) (h2 : x ≠ y → P2 B B' Q) : P2 (if x = y then A else B) (if x' = y' then A' else B') Q := by
  subst hx hy
  by_cases h : x' = y'
  · rw [if_pos h, if_pos h]; exact h1 h
  · rw [if_neg h, if_neg h]; exact h2 h
theorem p2_eqN {x y : Nat} {A B A' B' : Option (β × RS9)} (h1 : x = y → P2 A A' Q) (h2 : x ≠ y → P2 B B' Q) : P2 (if x = y then A else B) (if x = y then A' else B') Q := by
  by_cases h : x = y
  · rw [if_pos h, if_pos h]; exact h1 h
  · rw [if_neg h, if_neg h]; exact h2 h
end P2S
theorem sa_ne {σ : RS9} {k r : Nat} {x v : Int32} (h : r ≠ k) : (rSa σ k x v).2 r = σ.2 r := if_neg h
theorem sa_eq {σ : RS9} {k : Nat} {x v : Int32} {i : Nat} : (rSa σ k x v).2 k i = if i = x.toNatClampNeg then v else σ.2 k i := by
  show (if k = k then upd (σ.2 k) x.toNatClampNeg v else σ.2 k) i = _
  rw [if_pos rfl]; rfl
theorem sa_nI {σ : RS9} {k : Nat} {v : Int32} {c i : Nat} (hc : c < 2 ^ 31) : (rSa σ k (nI c) v).2 k i = if i = c then v else σ.2 k i := by rw [sa_eq, nI_clamp hc]
theorem sf_eq {σ : RS9} {k : Nat} {v : Int32} : (rSf σ k v).1 k = v := if_pos rfl
theorem sf_ne {σ : RS9} {k j : Nat} {v : Int32} (h : j ≠ k) : (rSf σ k v).1 j = σ.1 j := if_neg h
theorem tn {x : Int32} : x.toNatClampNeg = x.toInt.toNat := rfl
/-! cutting one row: what stands while it is cut -/
def FRc (of ti wh : Nat) (σ0 σ : RS9) : Prop := (∀ k, k ≠ of → k ≠ ti → k ≠ wh → (of = 17 → k ≠ 20 ∧ k ≠ 21) → σ.2 k = σ0.2 k) ∧ ∀ k, k ≠ 54 → σ.1 k = σ0.1 k
def CE (N : Int) (of ti wh : Nat) (a : Int) (σ τ : RS9) (i : Nat) : Prop := τ.2 of i = σ.2 of i ∧ τ.2 ti i = σ.2 ti i ∧ τ.2 wh i = σ.2 wh i ∧ (i : Int) ≤ (σ.2 of i).toInt ∧ (σ.2 of i).toInt < (σ.2 ti i).toInt ∧ ((σ.2 ti i).toInt ≤ a ∧ (σ.2 ti i).toInt ≤ N) ∧ (∀ j, j < i → (σ.2 ti j).toInt ≤ (σ.2 of i).toInt) ∧ (σ.2 wh i = 0 ∨ σ.2 wh i = 1)
def CK (N : Int) (σ τ : RS9) (i : Nat) : Prop := τ.2 20 i = σ.2 20 i ∧ τ.2 21 i = σ.2 21 i ∧ 0 ≤ (σ.2 20 i).toInt ∧ (σ.2 20 i).toInt + (σ.2 21 i).toInt ≤ N
def CU (r : Nat) (N : Int) (of ti wh : Nat) (σ0 τ0 : RS9) (a : Int) (c kx : Nat) (σ τ : RS9) : Prop := (∀ i : Nat, (i : Int) < N → τ.2 r i = σ.2 r i) ∧ FRc of ti wh σ0 σ ∧ FRc of ti wh τ0 τ ∧ σ.1 54 = nI c ∧ τ.1 54 = nI c ∧ (c : Int) ≤ a ∧ (∀ i, i < c → CE N of ti wh a σ τ i) ∧ (of = 17 → ∀ i, i < kx → CK N σ τ i)
def RW (r of ti wh : Nat) : Prop := rLen r = 600 ∧ rLen of = 600 ∧ rLen ti = 600 ∧ rLen wh = 600 ∧ r ≠ of ∧ r ≠ ti ∧ r ≠ wh ∧ r ≠ 20 ∧ r ≠ 21 ∧ of ≠ ti ∧ of ≠ wh ∧ ti ≠ wh ∧ of ≠ 20 ∧ of ≠ 21 ∧ ti ≠ 20 ∧ ti ≠ 21 ∧ wh ≠ 20 ∧ wh ≠ 21
section CUS
variable {r of ti wh c kx : Nat} {N a : Int} {σ0 τ0 σ τ : RS9}
theorem cu_rd (h : CU r N of ti wh σ0 τ0 a c kx σ τ) {x : Int32} (hx : 0 ≤ x.toInt ∧ x.toInt < N) : rGa τ r x = rGa σ r x := h.1 x.toNatClampNeg (by rw [tn]; omega)
theorem cu_mono (h : CU r N of ti wh σ0 τ0 a c kx σ τ) {a' : Int} (ha : a ≤ a') : CU r N of ti wh σ0 τ0 a' c kx σ τ := by
  obtain ⟨h1, h2, h3, h4, h5, h6, h7, h8⟩ := h
  refine ⟨h1, h2, h3, h4, h5, by omega, fun i hi => ?_, h8⟩
  obtain ⟨b1, b2, b3, b4, b5, b6, b7⟩ := h7 i hi
  exact ⟨b1, b2, b3, b4, b5, by omega, b7⟩
theorem cu_c (h : CU r N of ti wh σ0 τ0 a c kx σ τ) (hN : 0 ≤ N) : (c : Int) ≤ N := by
  by_cases hc : c = 0
  · rw [hc]; exact hN
  · have := h.2.2.2.2.2.2.1 (c - 1) (by omega)
    unfold CE at this
    omega
theorem cu_54 (h : CU r N of ti wh σ0 τ0 a c kx σ τ) : τ.1 54 = σ.1 54 := h.2.2.2.2.1.trans h.2.2.2.1.symm
theorem cu_fx (h : CU r N of ti wh σ0 τ0 a c kx σ τ) (ha : a ≤ 700) : (σ.1 54).toInt = (c : Int) := by
  have := h.2.2.2.2.2.1
  rw [h.2.2.2.1]; exact nI_toInt (by omega)
theorem cu_put (hR : RW r of ti wh) (hN6 : N ≤ 600) (h : CU r N of ti wh σ0 τ0 a c kx σ τ) {x y w : Int32} {a' : Int} (hx : a ≤ x.toInt) (hxy : x.toInt < y.toInt) (hy : y.toInt ≤ a') (h6 : y.toInt ≤ N) (hk : kx ≤ c) (hw : w = 0 ∨ w = 1) : CU r N of ti wh σ0 τ0 a' (c + 1) kx (rSf (rSa (rSa (rSa σ of (σ.1 54) x) ti (σ.1 54) y) wh (σ.1 54) w) 54 (σ.1 54 + 1)) (rSf (rSa (rSa (rSa τ of (τ.1 54) x) ti (τ.1 54) y) wh (τ.1 54) w) 54 (τ.1 54 + 1)) := by
  obtain ⟨h1, h2, h3, h4, h5, h6', h7, h8⟩ := h
  obtain ⟨-, -, -, -, d1, d2, d3, d4, d5, d6, d7, d8, d9, d10, d11, d12, d13, d14⟩ := hR
  have hc : c < 2 ^ 31 := by omega
  have row : ∀ (ρ : RS9) (f : Int32) (k i : Nat), (rSf (rSa (rSa (rSa ρ of f x) ti f y) wh f w) 54 (f + 1)).2 k i = (rSa (rSa (rSa ρ of f x) ti f y) wh f w).2 k i := fun _ _ _ _ => rfl
  have rof : ∀ (ρ : RS9) (i : Nat), (rSf (rSa (rSa (rSa ρ of (nI c) x) ti (nI c) y) wh (nI c) w) 54 (nI c + 1)).2 of i = if i = c then x else ρ.2 of i := fun ρ i => by rw [row, sa_ne d7, sa_ne d6, sa_nI hc]
  have rti : ∀ (ρ : RS9) (i : Nat), (rSf (rSa (rSa (rSa ρ of (nI c) x) ti (nI c) y) wh (nI c) w) 54 (nI c + 1)).2 ti i = if i = c then y else ρ.2 ti i := fun ρ i => by rw [row, sa_ne d8, sa_nI hc, sa_ne d6.symm]
  have rwh : ∀ (ρ : RS9) (i : Nat), (rSf (rSa (rSa (rSa ρ of (nI c) x) ti (nI c) y) wh (nI c) w) 54 (nI c + 1)).2 wh i = if i = c then w else ρ.2 wh i := fun ρ i => by rw [row, sa_nI hc, sa_ne d8.symm, sa_ne d7.symm]
  have rot : ∀ (ρ : RS9) (k : Nat), k ≠ of → k ≠ ti → k ≠ wh → (rSf (rSa (rSa (rSa ρ of (nI c) x) ti (nI c) y) wh (nI c) w) 54 (nI c + 1)).2 k = ρ.2 k := fun ρ k e1 e2 e3 => by
    show (rSa (rSa (rSa ρ of (nI c) x) ti (nI c) y) wh (nI c) w).2 k = ρ.2 k
    rw [sa_ne e3, sa_ne e2, sa_ne e1]
  rw [h4, h5]
  refine ⟨fun i hi => ?_, ⟨fun k e1 e2 e3 e4 => ?_, fun k e => ?_⟩, ⟨fun k e1 e2 e3 e4 => ?_, fun k e => ?_⟩, ?_, ?_, by omega, fun i hi => ?_, fun e i hi => ?_⟩
  · rw [rot τ r d1 d2 d3, rot σ r d1 d2 d3]; exact h1 i hi
  · rw [rot σ k e1 e2 e3]; exact h2.1 k e1 e2 e3 e4
  · exact (if_neg e).trans (h2.2 k e)
  · rw [rot τ k e1 e2 e3]; exact h3.1 k e1 e2 e3 e4
  · exact (if_neg e).trans (h3.2 k e)
  · rw [sf_eq, nI_1]
  · rw [sf_eq, nI_1]
  · unfold CE
    rw [rof, rof, rti, rti, rwh, rwh]
    by_cases hic : i = c
    · simp only [if_pos hic]
      refine ⟨trivial, trivial, trivial, by omega, hxy, ⟨hy, h6⟩, fun j hj => ?_, hw⟩
      rw [rti, if_neg (by omega)]
      have := (h7 j (by omega)).2.2.2.2.2.1.1
      omega
    · simp only [if_neg hic]
      obtain ⟨b1, b2, b3, b4, b5, b6, b7, b8⟩ := h7 i (by omega)
      refine ⟨b1, b2, b3, b4, b5, by omega, fun j hj => ?_, b8⟩
      rw [rti, if_neg (by omega)]
      exact b7 j hj
  · unfold CK
    rw [rot σ 20 d9.symm d11.symm d13.symm, rot σ 21 d10.symm d12.symm d14.symm, rot τ 20 d9.symm d11.symm d13.symm, rot τ 21 d10.symm d12.symm d14.symm]
    exact h8 e i hi
theorem cu_finds (hR : RW r of ti wh) (hN6 : N ≤ 600) (h : CU r N of ti wh σ0 τ0 a c kx σ τ) {x y w : Int32} (a' : Int) (hx : a ≤ x.toInt) (hy : y.toInt ≤ a') (ha : a ≤ a') (h6 : y.toInt ≤ N) (hk : kx ≤ c) : P2 (mX9_finds of ti wh x y w σ) (mX9_finds of ti wh x y w τ) (fun v σ' v' τ' => ∃ c', (c' = c ∨ c' = c + 1) ∧ CU r N of ti wh σ0 τ0 a' c' kx σ' τ') := by
  unfold mX9_finds
  refine p2_lt rfl rfl rfl rfl (fun q => ?_) (fun q => ?_)
  · have hc := h.2.2.2.2.2.1
    have hi : rIn (σ.1 54) 600 = true := by rw [h.2.2.2.1]; exact inb_nI (by omega) (by omega)
    have hi' : rIn (τ.1 54) 600 = true := by rw [cu_54 h]; exact hi
    refine p2_ck (by rw [hR.2.1]; exact hi) (by rw [hR.2.1]; exact hi') ?_
    refine p2_ck (by rw [hR.2.2.1]; exact hi) (by rw [hR.2.2.1]; exact hi') ?_
    refine p2_eq rfl rfl (fun qw => ?_) (fun qw => ?_)
    · unfold mX9_finds_b39
      refine p2_ck (by rw [hR.2.2.2.1]; exact hi) (by rw [hR.2.2.2.1]; exact hi') ?_
      exact p2_ret ⟨c + 1, Or.inr rfl, cu_put hR hN6 h hx q hy h6 hk (Or.inl rfl)⟩
    · unfold mX9_finds_b39
      refine p2_ck (by rw [hR.2.2.2.1]; exact hi) (by rw [hR.2.2.2.1]; exact hi') ?_
      exact p2_ret ⟨c + 1, Or.inr rfl, cu_put hR hN6 h hx q hy h6 hk (Or.inr rfl)⟩
  · exact p2_ret ⟨c, Or.inl rfl, cu_mono h ha⟩
theorem cu_key (hR : RW r of ti wh) (h : CU r N of ti wh σ0 τ0 a (kx + 1) kx σ τ) (ho : of = 17) {x u w : Int32} (hx : x = nI kx) (hk : kx < 600) (hu : 0 ≤ u.toInt ∧ u.toInt + w.toInt ≤ N) : CU r N of ti wh σ0 τ0 a (kx + 1) (kx + 1) (rSa (rSa σ 20 x u) 21 x w) (rSa (rSa τ 20 x u) 21 x w) := by
  obtain ⟨h1, h2, h3, h4, h5, h6', h7, h8⟩ := h
  obtain ⟨-, -, -, -, d1, d2, d3, d4, d5, d6, d7, d8, d9, d10, d11, d12, d13, d14⟩ := hR
  subst hx
  have hc : kx < 2 ^ 31 := by omega
  have rot : ∀ (ρ : RS9) (k : Nat), k ≠ 20 → k ≠ 21 → (rSa (rSa ρ 20 (nI kx) u) 21 (nI kx) w).2 k = ρ.2 k := fun ρ k e1 e2 => by rw [sa_ne e2, sa_ne e1]
  have r20 : ∀ (ρ : RS9) (i : Nat), (rSa (rSa ρ 20 (nI kx) u) 21 (nI kx) w).2 20 i = if i = kx then u else ρ.2 20 i := fun ρ i => by rw [sa_ne (by decide), sa_nI hc]
  have r21 : ∀ (ρ : RS9) (i : Nat), (rSa (rSa ρ 20 (nI kx) u) 21 (nI kx) w).2 21 i = if i = kx then w else ρ.2 21 i := fun ρ i => by rw [sa_nI hc, sa_ne (by decide)]
  refine ⟨fun i hi => ?_, ⟨fun k e1 e2 e3 e4 => ?_, h2.2⟩, ⟨fun k e1 e2 e3 e4 => ?_, h3.2⟩, h4, h5, h6', fun i hi => ?_, fun e i hi => ?_⟩
  · rw [rot τ r d4 d5, rot σ r d4 d5]; exact h1 i hi
  · rw [rot σ k (e4 ho).1 (e4 ho).2]; exact h2.1 k e1 e2 e3 e4
  · rw [rot τ k (e4 ho).1 (e4 ho).2]; exact h3.1 k e1 e2 e3 e4
  · have q := h7 i hi
    unfold CE at q ⊢
    rw [rot σ of d9 d10, rot τ of d9 d10, rot σ ti d11 d12, rot τ ti d11 d12, rot σ wh d13 d14, rot τ wh d13 d14]
    exact q
  · unfold CK
    rw [r20, r20, r21, r21]
    by_cases hik : i = kx
    · simp only [if_pos hik]
      exact ⟨trivial, trivial, hu⟩
    · simp only [if_neg hik]
      exact h8 e i (by omega)
theorem cu_nokey (h : CU r N of ti wh σ0 τ0 a c kx σ τ) (ho : of ≠ 17) {k' : Nat} : CU r N of ti wh σ0 τ0 a c k' σ τ := by
  obtain ⟨h1, h2, h3, h4, h5, h6', h7, h8⟩ := h
  exact ⟨h1, h2, h3, h4, h5, h6', h7, fun e => absurd e ho⟩
end CUS
end
/-! part 40b.cuts -/
section
theorem dec1 {v : Int32} (h : 0 < v.toInt) (h2 : v.toInt ≤ 2000) : (v + (-1 : Int32)).toInt = v.toInt - 1 := i_add rfl kt_m1 (by omega)
theorem t2_endOf_l3 {r : Nat} {σ τ : RS9} (hr : rLen r = 600) : ∀ (d : Nat) (v1 v3 v4 v5 : Int32), (0 ≤ v5.toInt ∧ v5.toInt ≤ 700) → (0 ≤ v1.toInt ∧ v1.toInt ≤ 600) → (∀ x : Int32, 0 ≤ x.toInt ∧ x.toInt < v1.toInt → rGa τ r x = rGa σ r x) → v1.toInt - v5.toInt + 1000 < (d : Int) → P2 (mX9_endOf_l3 d r v1 v3 v4 v5 σ) (mX9_endOf_l3 d r v1 v3 v4 v5 τ) (fun v σ' v' τ' => σ' = σ ∧ τ' = τ ∧ v' = v ∧ (v5.toInt ≤ v.toInt ∧ v.toInt ≤ 700 ∧ (v5.toInt ≤ v1.toInt → v.toInt ≤ v1.toInt))) := by
  intro d
  induction d with
  | zero => intro v1 v3 v4 v5 h1 h2 hrd hm; exfalso; omega
  | succ d ih =>
    intro v1 v3 v4 v5 h1 h2 hrd hm
    unfold mX9_endOf_l3
    refine p2_le rfl rfl rfl rfl (fun q => ?_) (fun q => ?_)
    · exact p2_ret ⟨rfl, rfl, rfl, by omega⟩
    · refine p2_ck (by rw [hr]; exact in_of (by omega) (by omega)) (by rw [hr]; exact in_of (by omega) (by omega)) ?_
      refine p2_eq (hrd v5 (by omega)) rfl (fun q1 => ?_) (fun q1 => ?_)
      · exact p2_ret ⟨rfl, rfl, rfl, by omega⟩
      · refine p2_ck (by rw [hr]; exact in_of (by omega) (by omega)) (by rw [hr]; exact in_of (by omega) (by omega)) ?_
        refine p2_eq (hrd v5 (by omega)) rfl (fun q1 => ?_) (fun q1 => ?_)
        · exact p2_ret ⟨rfl, rfl, rfl, by omega⟩
        · have e1 : (v5 + (1 : Int32)).toInt = v5.toInt + 1 := i_add rfl kt_1 (by omega)
          exact p2_tail (ih v1 v3 v4 (v5 + (1 : Int32)) (by omega) h2 hrd (by omega)) (fun v s v' t q => ⟨q.1, q.2.1, q.2.2.1, by have := q.2.2.2; omega⟩)
theorem t2_endOf {r : Nat} {σ τ : RS9} {v1 v2 v3 v4 : Int32} (hr : rLen r = 600) (h1 : 0 ≤ v2.toInt ∧ v2.toInt ≤ 700) (h2 : 0 ≤ v1.toInt ∧ v1.toInt ≤ 600) (hrd : ∀ x : Int32, 0 ≤ x.toInt ∧ x.toInt < v1.toInt → rGa τ r x = rGa σ r x) : P2 (mX9_endOf r v1 v2 v3 v4 σ) (mX9_endOf r v1 v2 v3 v4 τ) (fun v σ' v' τ' => σ' = σ ∧ τ' = τ ∧ v' = v ∧ (v2.toInt ≤ v.toInt ∧ v.toInt ≤ 700 ∧ (v2.toInt ≤ v1.toInt → v.toInt ≤ v1.toInt))) := by
  unfold mX9_endOf
  exact t2_endOf_l3 hr rFU v1 v3 v4 v2 h1 h2 hrd (by unfold rFU; omega)
theorem t2_isBare {x x' : Int32} {σ τ : RS9} (hx : x' = x) : P2 (mX9_isBare x σ) (mX9_isBare x' τ) (fun v σ' v' τ' => σ' = σ ∧ τ' = τ ∧ v' = v ∧ True) := by
  subst hx
  unfold mX9_isBare
  refine p2_eq rfl rfl (fun q => ?_) (fun q => ?_)
  · exact p2_ck rfl rfl (p2_ret ⟨rfl, rfl, rfl, trivial⟩)
  · refine p2_eq rfl rfl (fun q => ?_) (fun q => ?_)
    · exact p2_ck rfl rfl (p2_ret ⟨rfl, rfl, rfl, trivial⟩)
    · exact p2_ck rfl rfl (p2_ret ⟨rfl, rfl, rfl, trivial⟩)
set_option maxHeartbeats 1000000 in
theorem t2_cutsTable_l37 {v1 v3 v4 v5 : Nat} {v2 : Int32} {σ0 τ0 : RS9} (hR : RW v1 v3 v4 v5) (hN : 0 ≤ v2.toInt ∧ v2.toInt ≤ 600) {D : Nat} {rec3 : Nat → Int32 → Nat → Nat → Nat → Int32 → RS9 → Option (Int32 × RS9)} (Hr : ∀ (v6 : Int32) (σ τ : RS9) (c : Nat), CU v1 v2.toInt v3 v4 v5 σ0 τ0 v6.toInt c 0 σ τ → (0 ≤ v6.toInt ∧ v6.toInt ≤ 601) → 1000 - v6.toInt < (D : Int) → P2 (rec3 v1 v2 v3 v4 v5 v6 σ) (rec3 v1 v2 v3 v4 v5 v6 τ) (fun v σ' v' τ' => ∃ c, CU v1 v2.toInt v3 v4 v5 σ0 τ0 602 c 0 σ' τ')) : ∀ (d : Nat) (v6 v8 : Int32) (σ τ : RS9) (c : Nat), CU v1 v2.toInt v3 v4 v5 σ0 τ0 v6.toInt c 0 σ τ → (0 ≤ v6.toInt ∧ v6.toInt < v2.toInt) → (v6.toInt < v8.toInt ∧ v8.toInt ≤ v2.toInt) → 1000 - v6.toInt < (D : Int) + 1 → 1000 - v8.toInt < (d : Int) → P2 (mX9_cutsTable_l37 rec3 d v1 v2 v3 v4 v5 v6 v8 σ) (mX9_cutsTable_l37 rec3 d v1 v2 v3 v4 v5 v6 v8 τ) (fun v σ' v' τ' => ∃ c, CU v1 v2.toInt v3 v4 v5 σ0 τ0 602 c 0 σ' τ') := by
  intro d
  induction d with
  | zero => intro v6 v8 σ τ c hC h1 h2 hD hm; exfalso; omega
  | succ d ih =>
    intro v6 v8 σ τ c hC h1 h2 hD hm
    have e6 : (v6 + (1 : Int32)).toInt = v6.toInt + 1 := i_add rfl kt_1 (by omega)
    have e8 : (v8 + (1 : Int32)).toInt = v8.toInt + 1 := i_add rfl kt_1 (by omega)
    have e82 : (v8 + (2 : Int32)).toInt = v8.toInt + 2 := i_add rfl kt_2 (by omega)
    have e2 : (v2 + (1 : Int32)).toInt = v2.toInt + 1 := i_add rfl kt_1 (by omega)
    have hb : P2 (mX9_cutsTable_b93 rec3 v1 v2 v3 v4 v5 v6 v8 σ) (mX9_cutsTable_b93 rec3 v1 v2 v3 v4 v5 v6 v8 τ) (fun v σ' v' τ' => ∃ c, CU v1 v2.toInt v3 v4 v5 σ0 τ0 602 c 0 σ' τ') := by
      unfold mX9_cutsTable_b93
      refine p2_call (cu_finds hR hN.2 hC v8.toInt (by omega) (by omega) (by omega) (by omega) (Nat.zero_le _)) (fun v σ v' τ ⟨c2, hc', hC2⟩ => ?_)
      dsimp only
      refine p2_le rfl rfl rfl rfl (fun q => ?_) (fun q => ?_)
      · exact Hr (v2 + (1 : Int32)) σ τ c2 (cu_mono hC2 (by omega)) (by omega) (by omega)
      · refine p2_ro (t2_endOf hR.1 (by omega) hN (fun x hx => cu_rd hC2 (by omega))) (fun y hy => ?_)
        dsimp only
        have ey : (y + (1 : Int32)).toInt = y.toInt + 1 := i_add rfl kt_1 (by omega)
        exact Hr (y + (1 : Int32)) σ τ c2 (cu_mono hC2 (by omega)) (by omega) (by omega)
    unfold mX9_cutsTable_l37
    refine p2_le rfl rfl rfl rfl (fun q => hb) (fun q => ?_)
    refine p2_ck (by rw [hR.1]; exact in_of (by omega) (by omega)) (by rw [hR.1]; exact in_of (by omega) (by omega)) ?_
    refine p2_eq (cu_rd hC (by omega)) rfl (fun q1 => ?_) (fun q1 => ?_)
    · refine p2_le rfl e8 rfl rfl (fun q2 => hb) (fun q2 => ?_)
      refine p2_ck (by rw [hR.1]; exact in_of (by omega) (by omega)) (by rw [hR.1]; exact in_of (by omega) (by omega)) ?_
      refine p2_eq (cu_rd hC (by omega)) rfl (fun q3 => ?_) (fun q3 => hb)
      unfold mX9_cutsTable_b71
      refine p2_ck (by rw [hR.1]; exact in_of (by omega) (by omega)) (by rw [hR.1]; exact in_of (by omega) (by omega)) ?_
      refine p2_eq (cu_rd hC (by omega)) rfl (fun q4 => ?_) (fun q4 => absurd q1 q4)
      exact ih v6 (v8 + (2 : Int32)) σ τ c hC h1 (by omega) hD (by omega)
    · unfold mX9_cutsTable_b71
      refine p2_ck (by rw [hR.1]; exact in_of (by omega) (by omega)) (by rw [hR.1]; exact in_of (by omega) (by omega)) ?_
      refine p2_eq (cu_rd hC (by omega)) rfl (fun q4 => absurd q4 q1) (fun q4 => ?_)
      exact ih v6 (v8 + (1 : Int32)) σ τ c hC h1 (by omega) hD (by omega)
set_option maxHeartbeats 1000000 in
theorem t2_cutsTable_l3 {v1 v3 v4 v5 : Nat} {v2 : Int32} {σ0 τ0 : RS9} (hR : RW v1 v3 v4 v5) (hN : 0 ≤ v2.toInt ∧ v2.toInt ≤ 600) : ∀ (d : Nat) (v6 : Int32) (σ τ : RS9) (c : Nat), CU v1 v2.toInt v3 v4 v5 σ0 τ0 v6.toInt c 0 σ τ → (0 ≤ v6.toInt ∧ v6.toInt ≤ 601) → 1000 - v6.toInt < (d : Int) → P2 (mX9_cutsTable_l3 d v1 v2 v3 v4 v5 v6 σ) (mX9_cutsTable_l3 d v1 v2 v3 v4 v5 v6 τ) (fun v σ' v' τ' => ∃ c, CU v1 v2.toInt v3 v4 v5 σ0 τ0 602 c 0 σ' τ') := by
  intro d
  induction d with
  | zero => intro v6 σ τ c hC h1 hm; exfalso; omega
  | succ d ih =>
    intro v6 σ τ c hC h1 hm
    unfold mX9_cutsTable_l3
    refine p2_le rfl rfl rfl rfl (fun q => ?_) (fun q => ?_)
    · exact p2_ret ⟨c, cu_mono hC (by omega)⟩
    · refine p2_ro (t2_endOf hR.1 (by omega) hN (fun x hx => cu_rd hC (by omega))) (fun y hy => ?_)
      dsimp only
      have ey : (y + (1 : Int32)).toInt = y.toInt + 1 := i_add rfl kt_1 (by omega)
      have e6 : (v6 + (1 : Int32)).toInt = v6.toInt + 1 := i_add rfl kt_1 (by omega)
      refine p2_ck (by rw [hR.1]; exact in_of (by omega) (by omega)) (by rw [hR.1]; exact in_of (by omega) (by omega)) ?_
      refine p2_eq (cu_rd hC (by omega)) rfl (fun q1 => ?_) (fun q1 => ?_)
      · exact t2_cutsTable_l37 hR hN (D := d) ih rFU v6 (v6 + (1 : Int32)) σ τ c hC (by omega) (by omega) (by omega) (by unfold rFU; omega)
      · refine p2_call (cu_finds hR hN.2 hC y.toInt (by omega) (by omega) (by omega) (by omega) (Nat.zero_le _)) (fun v σ v' τ ⟨c2, hc', hC2⟩ => ?_)
        dsimp only
        exact ih (y + (1 : Int32)) σ τ c2 (cu_mono hC2 (by omega)) (by omega) (by omega)
theorem t2_cutsTable {v1 v3 v4 v5 : Nat} {v2 : Int32} {σ0 τ0 : RS9} (hR : RW v1 v3 v4 v5) (hN : 0 ≤ v2.toInt ∧ v2.toInt ≤ 600) {σ τ : RS9} (hC : CU v1 v2.toInt v3 v4 v5 σ0 τ0 0 0 0 σ τ) : P2 (mX9_cutsTable v1 v2 v3 v4 v5 σ) (mX9_cutsTable v1 v2 v3 v4 v5 τ) (fun v σ' v' τ' => ∃ c, CU v1 v2.toInt v3 v4 v5 σ0 τ0 602 c 0 σ' τ') := by
  unfold mX9_cutsTable
  exact t2_cutsTable_l3 hR hN rFU 0 σ τ 0 hC (by decide) (by unfold rFU; rw [kt_0]; omega)
set_option maxHeartbeats 1000000 in
theorem t2_cutsMarkup_l53 {v1 v3 v4 v5 : Nat} {v2 : Int32} {σ0 τ0 : RS9} (hR : RW v1 v3 v4 v5) (hN : 0 ≤ v2.toInt ∧ v2.toInt ≤ 600) {D : Nat} {rec3 : Nat → Int32 → Nat → Nat → Nat → Int32 → RS9 → Option (Int32 × RS9)} (Hr : ∀ (v6 : Int32) (σ τ : RS9) (c : Nat), CU v1 v2.toInt v3 v4 v5 σ0 τ0 v6.toInt c 0 σ τ → (0 ≤ v6.toInt ∧ v6.toInt ≤ 601) → 1000 - v6.toInt < (D : Int) → P2 (rec3 v1 v2 v3 v4 v5 v6 σ) (rec3 v1 v2 v3 v4 v5 v6 τ) (fun v σ' v' τ' => ∃ c, CU v1 v2.toInt v3 v4 v5 σ0 τ0 602 c 0 σ' τ')) : ∀ (d : Nat) (v7 v8 v9 : Int32) (σ τ : RS9) (c : Nat) (a : Int), CU v1 v2.toInt v3 v4 v5 σ0 τ0 a c 0 σ τ → (0 ≤ a ∧ a ≤ v8.toInt ∧ v8.toInt ≤ v9.toInt ∧ v9.toInt ≤ v7.toInt) → (v7.toInt ≤ v2.toInt ∧ 999 - v7.toInt < (D : Int)) → v9.toInt < (d : Int) → P2 (mX9_cutsMarkup_l53 rec3 d v1 v2 v3 v4 v5 v7 v8 v9 σ) (mX9_cutsMarkup_l53 rec3 d v1 v2 v3 v4 v5 v7 v8 v9 τ) (fun v σ' v' τ' => ∃ c, CU v1 v2.toInt v3 v4 v5 σ0 τ0 602 c 0 σ' τ') := by
  intro d
  induction d with
  | zero => intro v7 v8 v9 σ τ c a hC h1 h2 hm; exfalso; omega
  | succ d ih =>
    intro v7 v8 v9 σ τ c a hC h1 h2 hm
    have hb : P2 (mX9_cutsMarkup_b78 rec3 v1 v2 v3 v4 v5 v7 v8 v9 σ) (mX9_cutsMarkup_b78 rec3 v1 v2 v3 v4 v5 v7 v8 v9 τ) (fun v σ' v' τ' => ∃ c, CU v1 v2.toInt v3 v4 v5 σ0 τ0 602 c 0 σ' τ') := by
      unfold mX9_cutsMarkup_b78
      refine p2_call (cu_finds hR hN.2 hC v7.toInt (by omega) (by omega) (by omega) (by omega) (Nat.zero_le _)) (fun v σ v' τ ⟨c2, hc', hC2⟩ => ?_)
      dsimp only
      refine p2_ro (t2_endOf hR.1 (by omega) hN (fun x hx => cu_rd hC2 (by omega))) (fun y hy => ?_)
      dsimp only
      have ey : (y + (1 : Int32)).toInt = y.toInt + 1 := i_add rfl kt_1 (by omega)
      exact Hr (y + (1 : Int32)) σ τ c2 (cu_mono hC2 (by omega)) (by omega) (by omega)
    unfold mX9_cutsMarkup_l53
    refine p2_le rfl rfl rfl rfl (fun q => hb) (fun q => ?_)
    have e9 : (v9 - (1 : Int32)).toInt = v9.toInt - 1 := i_sub rfl kt_1 (by omega)
    refine p2_ck (by rw [hR.1]; exact in_of (by omega) (by omega)) (by rw [hR.1]; exact in_of (by omega) (by omega)) ?_
    refine p2_ro (t2_isBare (cu_rd hC (by omega))) (fun y hy => ?_)
    dsimp only
    refine p2_eq rfl rfl (fun q1 => hb) (fun q1 => ?_)
    clear e9
    exact ih v7 v8 (v9 + (-1 : Int32)) σ τ c a hC (by rw [dec1 (by omega) (by omega)]; omega) h2 (by rw [dec1 (by omega) (by omega)]; omega)
set_option maxHeartbeats 1000000 in
theorem t2_cutsMarkup_l30 {v1 v3 v4 v5 : Nat} {v2 : Int32} {σ0 τ0 : RS9} (hR : RW v1 v3 v4 v5) (hN : 0 ≤ v2.toInt ∧ v2.toInt ≤ 600) {D : Nat} {rec3 : Nat → Int32 → Nat → Nat → Nat → Int32 → RS9 → Option (Int32 × RS9)} (Hr : ∀ (v6 : Int32) (σ τ : RS9) (c : Nat), CU v1 v2.toInt v3 v4 v5 σ0 τ0 v6.toInt c 0 σ τ → (0 ≤ v6.toInt ∧ v6.toInt ≤ 601) → 1000 - v6.toInt < (D : Int) → P2 (rec3 v1 v2 v3 v4 v5 v6 σ) (rec3 v1 v2 v3 v4 v5 v6 τ) (fun v σ' v' τ' => ∃ c, CU v1 v2.toInt v3 v4 v5 σ0 τ0 602 c 0 σ' τ')) : ∀ (d : Nat) (v7 v8 v9 : Int32) (σ τ : RS9) (c : Nat) (a : Int), CU v1 v2.toInt v3 v4 v5 σ0 τ0 a c 0 σ τ → (0 ≤ a ∧ a ≤ v8.toInt ∧ v8.toInt ≤ v9.toInt ∧ v9.toInt ≤ v7.toInt) → (v7.toInt ≤ v2.toInt ∧ 999 - v7.toInt < (D : Int)) → 1000 - v8.toInt < (d : Int) → P2 (mX9_cutsMarkup_l30 rec3 d v1 v2 v3 v4 v5 v7 v8 v9 σ) (mX9_cutsMarkup_l30 rec3 d v1 v2 v3 v4 v5 v7 v8 v9 τ) (fun v σ' v' τ' => ∃ c, CU v1 v2.toInt v3 v4 v5 σ0 τ0 602 c 0 σ' τ') := by
  intro d
  induction d with
  | zero => intro v7 v8 v9 σ τ c a hC h1 h2 hm; exfalso; omega
  | succ d ih =>
    intro v7 v8 v9 σ τ c a hC h1 h2 hm
    unfold mX9_cutsMarkup_l30
    refine p2_le rfl rfl rfl rfl (fun q => ?_) (fun q => ?_)
    · exact t2_cutsMarkup_l53 hR hN Hr rFU v7 v8 v9 σ τ c a hC h1 h2 (by unfold rFU; omega)
    refine p2_ck (by rw [hR.1]; exact in_of (by omega) (by omega)) (by rw [hR.1]; exact in_of (by omega) (by omega)) ?_
    refine p2_ro (t2_isBare (cu_rd hC (by omega))) (fun y hy => ?_)
    dsimp only
    refine p2_eq rfl rfl (fun q1 => ?_) (fun q1 => ?_)
    · exact t2_cutsMarkup_l53 hR hN Hr rFU v7 v8 v9 σ τ c a hC h1 h2 (by unfold rFU; omega)
    have e8 : (v8 + (1 : Int32)).toInt = v8.toInt + 1 := i_add rfl kt_1 (by omega)
    exact ih v7 (v8 + (1 : Int32)) v9 σ τ c a hC (by omega) h2 (by omega)
set_option maxHeartbeats 1000000 in
theorem t2_cutsMarkup_l3 {v1 v3 v4 v5 : Nat} {v2 : Int32} {σ0 τ0 : RS9} (hR : RW v1 v3 v4 v5) (hN : 0 ≤ v2.toInt ∧ v2.toInt ≤ 600) : ∀ (d : Nat) (v6 : Int32) (σ τ : RS9) (c : Nat), CU v1 v2.toInt v3 v4 v5 σ0 τ0 v6.toInt c 0 σ τ → (0 ≤ v6.toInt ∧ v6.toInt ≤ 601) → 1000 - v6.toInt < (d : Int) → P2 (mX9_cutsMarkup_l3 d v1 v2 v3 v4 v5 v6 σ) (mX9_cutsMarkup_l3 d v1 v2 v3 v4 v5 v6 τ) (fun v σ' v' τ' => ∃ c, CU v1 v2.toInt v3 v4 v5 σ0 τ0 602 c 0 σ' τ') := by
  intro d
  induction d with
  | zero => intro v6 σ τ c hC h1 hm; exfalso; omega
  | succ d ih =>
    intro v6 σ τ c hC h1 hm
    unfold mX9_cutsMarkup_l3
    refine p2_le rfl rfl rfl rfl (fun q => ?_) (fun q => ?_)
    · exact p2_ret ⟨c, cu_mono hC (by omega)⟩
    · refine p2_ro (t2_endOf hR.1 (by omega) hN (fun x hx => cu_rd hC (by omega))) (fun y hy => ?_)
      dsimp only
      exact t2_cutsMarkup_l30 hR hN (D := d) ih rFU y v6 y σ τ c v6.toInt hC (by omega) (by omega) (by unfold rFU; omega)
theorem t2_cutsMarkup {v1 v3 v4 v5 : Nat} {v2 : Int32} {σ0 τ0 : RS9} (hR : RW v1 v3 v4 v5) (hN : 0 ≤ v2.toInt ∧ v2.toInt ≤ 600) {σ τ : RS9} (hC : CU v1 v2.toInt v3 v4 v5 σ0 τ0 0 0 0 σ τ) : P2 (mX9_cutsMarkup v1 v2 v3 v4 v5 σ) (mX9_cutsMarkup v1 v2 v3 v4 v5 τ) (fun v σ' v' τ' => ∃ c, CU v1 v2.toInt v3 v4 v5 σ0 τ0 602 c 0 σ' τ') := by
  unfold mX9_cutsMarkup
  exact t2_cutsMarkup_l3 hR hN rFU 0 σ τ 0 hC (by decide) (by unfold rFU; rw [kt_0]; omega)
set_option maxHeartbeats 1000000 in
theorem t2_cutsQuotes_b138 {v1 v3 v4 v5 : Nat} {v2 : Int32} {σ0 τ0 : RS9} (hR : RW v1 v3 v4 v5) (hN : 0 ≤ v2.toInt ∧ v2.toInt ≤ 600) {D : Nat} {rec12 : Nat → Int32 → Nat → Nat → Nat → Int32 → RS9 → Option (Int32 × RS9)} (Hr : ∀ (v6 : Int32) (σ τ : RS9) (c : Nat), CU v1 v2.toInt v3 v4 v5 σ0 τ0 v6.toInt c 0 σ τ → (0 ≤ v6.toInt ∧ v6.toInt ≤ 601) → 1000 - v6.toInt < (D : Int) → P2 (rec12 v1 v2 v3 v4 v5 v6 σ) (rec12 v1 v2 v3 v4 v5 v6 τ) (fun v σ' v' τ' => ∃ c, CU v1 v2.toInt v3 v4 v5 σ0 τ0 602 c 0 σ' τ')) {v7 : Int32} {σ τ : RS9} {c : Nat} {a : Int} (hC : CU v1 v2.toInt v3 v4 v5 σ0 τ0 a c 0 σ τ) (h1 : 0 ≤ v7.toInt ∧ v7.toInt ≤ v2.toInt ∧ a ≤ v7.toInt) (h2 : 1000 - v7.toInt < (D : Int)) : P2 (mX9_cutsQuotes_b138 rec12 v1 v2 v3 v4 v5 v7 σ) (mX9_cutsQuotes_b138 rec12 v1 v2 v3 v4 v5 v7 τ) (fun v σ' v' τ' => ∃ c, CU v1 v2.toInt v3 v4 v5 σ0 τ0 602 c 0 σ' τ') := by
  have e7 : (v7 + (1 : Int32)).toInt = v7.toInt + 1 := i_add rfl kt_1 (by omega)
  unfold mX9_cutsQuotes_b138
  refine p2_le rfl rfl rfl rfl (fun q => ?_) (fun q => ?_)
  · exact Hr v2 σ τ c (cu_mono hC (by omega)) (by omega) (by omega)
  · refine p2_ro (t2_endOf hR.1 (by omega) hN (fun x hx => cu_rd hC (by omega))) (fun y hy => ?_)
    dsimp only
    exact Hr y σ τ c (cu_mono hC (by omega)) (by omega) (by omega)
set_option maxHeartbeats 1000000 in
theorem t2_cutsQuotes_b112 {v1 v3 v4 v5 : Nat} {v2 : Int32} {σ0 τ0 : RS9} (hR : RW v1 v3 v4 v5) (hN : 0 ≤ v2.toInt ∧ v2.toInt ≤ 600) {D : Nat} {rec12 : Nat → Int32 → Nat → Nat → Nat → Int32 → RS9 → Option (Int32 × RS9)} (Hr : ∀ (v6 : Int32) (σ τ : RS9) (c : Nat), CU v1 v2.toInt v3 v4 v5 σ0 τ0 v6.toInt c 0 σ τ → (0 ≤ v6.toInt ∧ v6.toInt ≤ 601) → 1000 - v6.toInt < (D : Int) → P2 (rec12 v1 v2 v3 v4 v5 v6 σ) (rec12 v1 v2 v3 v4 v5 v6 τ) (fun v σ' v' τ' => ∃ c, CU v1 v2.toInt v3 v4 v5 σ0 τ0 602 c 0 σ' τ')) {v6 v7 : Int32} {σ τ : RS9} {c : Nat} {a : Int} (hC : CU v1 v2.toInt v3 v4 v5 σ0 τ0 a c 0 σ τ) (h1 : 0 ≤ a ∧ a ≤ v6.toInt ∧ v6.toInt < v7.toInt ∧ v7.toInt ≤ v2.toInt) (h2 : 1000 - v7.toInt < (D : Int)) : P2 (mX9_cutsQuotes_b112 rec12 v1 v2 v3 v4 v5 v6 v7 σ) (mX9_cutsQuotes_b112 rec12 v1 v2 v3 v4 v5 v6 v7 τ) (fun v σ' v' τ' => ∃ c, CU v1 v2.toInt v3 v4 v5 σ0 τ0 602 c 0 σ' τ') := by
  have e6 : (v6 + (1 : Int32)).toInt = v6.toInt + 1 := i_add rfl kt_1 (by omega)
  unfold mX9_cutsQuotes_b112
  refine p2_le rfl rfl rfl rfl (fun q => ?_) (fun q => ?_)
  · unfold mX9_cutsQuotes_b134
    refine p2_call (cu_finds hR hN.2 hC v7.toInt (by omega) (by omega) (by omega) (by omega) (Nat.zero_le _)) (fun v σ v' τ ⟨c2, hc', hC2⟩ => ?_)
    dsimp only
    exact t2_cutsQuotes_b138 hR hN Hr hC2 (by omega) h2
  · unfold mX9_cutsQuotes_b134
    refine p2_call (cu_finds hR hN.2 hC v7.toInt (by omega) (by omega) (by omega) (by omega) (Nat.zero_le _)) (fun v σ v' τ ⟨c2, hc', hC2⟩ => ?_)
    dsimp only
    exact t2_cutsQuotes_b138 hR hN Hr hC2 (by omega) h2
set_option maxHeartbeats 1000000 in
theorem t2_cutsQuotes_l75 {v1 v3 v4 v5 : Nat} {v2 : Int32} {σ0 τ0 : RS9} (hR : RW v1 v3 v4 v5) (hN : 0 ≤ v2.toInt ∧ v2.toInt ≤ 600) {D : Nat} {rec12 : Nat → Int32 → Nat → Nat → Nat → Int32 → RS9 → Option (Int32 × RS9)} (Hr : ∀ (v6 : Int32) (σ τ : RS9) (c : Nat), CU v1 v2.toInt v3 v4 v5 σ0 τ0 v6.toInt c 0 σ τ → (0 ≤ v6.toInt ∧ v6.toInt ≤ 601) → 1000 - v6.toInt < (D : Int) → P2 (rec12 v1 v2 v3 v4 v5 v6 σ) (rec12 v1 v2 v3 v4 v5 v6 τ) (fun v σ' v' τ' => ∃ c, CU v1 v2.toInt v3 v4 v5 σ0 τ0 602 c 0 σ' τ')) : ∀ (d : Nat) (v6 v7 v8 : Int32) (σ τ : RS9) (c : Nat) (a : Int), CU v1 v2.toInt v3 v4 v5 σ0 τ0 a c 0 σ τ → (0 ≤ a ∧ a ≤ v6.toInt ∧ v6.toInt < v7.toInt ∧ v7.toInt ≤ v2.toInt) → (0 ≤ v8.toInt ∧ v8.toInt ≤ 700) → 1000 - v7.toInt < (D : Int) → 1000 - v8.toInt < (d : Int) → P2 (mX9_cutsQuotes_l75 rec12 d v1 v2 v3 v4 v5 v6 v7 v8 σ) (mX9_cutsQuotes_l75 rec12 d v1 v2 v3 v4 v5 v6 v7 v8 τ) (fun v σ' v' τ' => ∃ c, CU v1 v2.toInt v3 v4 v5 σ0 τ0 602 c 0 σ' τ') := by
  intro d
  induction d with
  | zero => intro v6 v7 v8 σ τ c a hC h1 h2 hD hm; exfalso; omega
  | succ d ih =>
    intro v6 v7 v8 σ τ c a hC h1 h2 hD hm
    have hb : P2 (mX9_cutsQuotes_b97 rec12 v1 v2 v3 v4 v5 v6 v7 v8 σ) (mX9_cutsQuotes_b97 rec12 v1 v2 v3 v4 v5 v6 v7 v8 τ) (fun v σ' v' τ' => ∃ c, CU v1 v2.toInt v3 v4 v5 σ0 τ0 602 c 0 σ' τ') := by
      unfold mX9_cutsQuotes_b97
      refine p2_le rfl rfl rfl rfl (fun q => ?_) (fun q => ?_)
      · exact t2_cutsQuotes_b112 hR hN Hr hC h1 hD
      refine p2_ck (by rw [hR.1]; exact in_of (by omega) (by omega)) (by rw [hR.1]; exact in_of (by omega) (by omega)) ?_
      refine p2_eq (cu_rd hC (by omega)) rfl (fun q1 => ?_) (fun q1 => ?_)
      · exact t2_cutsQuotes_b138 hR hN Hr hC (by omega) hD
      · exact t2_cutsQuotes_b112 hR hN Hr hC h1 hD
    unfold mX9_cutsQuotes_l75
    refine p2_le rfl rfl rfl rfl (fun q => hb) (fun q => ?_)
    refine p2_ck (by rw [hR.1]; exact in_of (by omega) (by omega)) (by rw [hR.1]; exact in_of (by omega) (by omega)) ?_
    refine p2_ro (t2_isBare (cu_rd hC (by omega))) (fun y hy => ?_)
    dsimp only
    refine p2_eq rfl rfl (fun q1 => hb) (fun q1 => ?_)
    have e8 : (v8 + (1 : Int32)).toInt = v8.toInt + 1 := i_add rfl kt_1 (by omega)
    exact ih v6 v7 (v8 + (1 : Int32)) σ τ c a hC h1 (by omega) hD (by omega)
set_option maxHeartbeats 1000000 in
theorem t2_cutsQuotes_l24 {v1 v3 v4 v5 : Nat} {v2 : Int32} {σ0 τ0 : RS9} (hR : RW v1 v3 v4 v5) (hN : 0 ≤ v2.toInt ∧ v2.toInt ≤ 600) {D : Nat} {rec12 : Nat → Int32 → Nat → Nat → Nat → Int32 → RS9 → Option (Int32 × RS9)} (Hr : ∀ (v6 : Int32) (σ τ : RS9) (c : Nat), CU v1 v2.toInt v3 v4 v5 σ0 τ0 v6.toInt c 0 σ τ → (0 ≤ v6.toInt ∧ v6.toInt ≤ 601) → 1000 - v6.toInt < (D : Int) → P2 (rec12 v1 v2 v3 v4 v5 v6 σ) (rec12 v1 v2 v3 v4 v5 v6 τ) (fun v σ' v' τ' => ∃ c, CU v1 v2.toInt v3 v4 v5 σ0 τ0 602 c 0 σ' τ')) : ∀ (d : Nat) (v6 v7 : Int32) (σ τ : RS9) (c : Nat) (a : Int), CU v1 v2.toInt v3 v4 v5 σ0 τ0 a c 0 σ τ → (0 ≤ a ∧ a ≤ v6.toInt ∧ v6.toInt < v7.toInt ∧ v7.toInt ≤ v2.toInt) → 1000 - v6.toInt < (D : Int) + 1 → 1000 - v7.toInt < (d : Int) → P2 (mX9_cutsQuotes_l24 rec12 d v1 v2 v3 v4 v5 v6 v7 σ) (mX9_cutsQuotes_l24 rec12 d v1 v2 v3 v4 v5 v6 v7 τ) (fun v σ' v' τ' => ∃ c, CU v1 v2.toInt v3 v4 v5 σ0 τ0 602 c 0 σ' τ') := by
  intro d
  induction d with
  | zero => intro v6 v7 σ τ c a hC h1 hD hm; exfalso; omega
  | succ d ih =>
    intro v6 v7 σ τ c a hC h1 hD hm
    have e7 : (v7 + (1 : Int32)).toInt = v7.toInt + 1 := i_add rfl kt_1 (by omega)
    have e72 : (v7 + (2 : Int32)).toInt = v7.toInt + 2 := i_add rfl kt_2 (by omega)
    have hb : P2 (mX9_cutsQuotes_b69 rec12 v1 v2 v3 v4 v5 v6 v7 σ) (mX9_cutsQuotes_b69 rec12 v1 v2 v3 v4 v5 v6 v7 τ) (fun v σ' v' τ' => ∃ c, CU v1 v2.toInt v3 v4 v5 σ0 τ0 602 c 0 σ' τ') := by
      unfold mX9_cutsQuotes_b69
      exact t2_cutsQuotes_l75 hR hN Hr rFU v6 v7 (v7 + (1 : Int32)) σ τ c a hC h1 (by omega) (by omega) (by unfold rFU; omega)
    unfold mX9_cutsQuotes_l24
    refine p2_le rfl rfl rfl rfl (fun q => hb) (fun q => ?_)
    refine p2_ck (by rw [hR.1]; exact in_of (by omega) (by omega)) (by rw [hR.1]; exact in_of (by omega) (by omega)) ?_
    refine p2_eq (cu_rd hC (by omega)) rfl (fun q1 => hb) (fun q1 => ?_)
    refine p2_ck (by rw [hR.1]; exact in_of (by omega) (by omega)) (by rw [hR.1]; exact in_of (by omega) (by omega)) ?_
    refine p2_eq (cu_rd hC (by omega)) rfl (fun q2 => ?_) (fun q2 => ?_)
    · refine p2_le rfl e7 rfl rfl (fun q3 => ?_) (fun q3 => ?_)
      · exact ih v6 (v7 + (1 : Int32)) σ τ c a hC (by omega) hD (by omega)
      · exact ih v6 (v7 + (2 : Int32)) σ τ c a hC (by omega) hD (by omega)
    · exact ih v6 (v7 + (1 : Int32)) σ τ c a hC (by omega) hD (by omega)
set_option maxHeartbeats 1000000 in
theorem t2_cutsQuotes_l12 {v1 v3 v4 v5 : Nat} {v2 : Int32} {σ0 τ0 : RS9} (hR : RW v1 v3 v4 v5) (hN : 0 ≤ v2.toInt ∧ v2.toInt ≤ 600) : ∀ (d : Nat) (v6 : Int32) (σ τ : RS9) (c : Nat), CU v1 v2.toInt v3 v4 v5 σ0 τ0 v6.toInt c 0 σ τ → (0 ≤ v6.toInt ∧ v6.toInt ≤ 601) → 1000 - v6.toInt < (d : Int) → P2 (mX9_cutsQuotes_l12 d v1 v2 v3 v4 v5 v6 σ) (mX9_cutsQuotes_l12 d v1 v2 v3 v4 v5 v6 τ) (fun v σ' v' τ' => ∃ c, CU v1 v2.toInt v3 v4 v5 σ0 τ0 602 c 0 σ' τ') := by
  intro d
  induction d with
  | zero => intro v6 σ τ c hC h1 hm; exfalso; omega
  | succ d ih =>
    intro v6 σ τ c hC h1 hm
    unfold mX9_cutsQuotes_l12
    refine p2_le rfl rfl rfl rfl (fun q => ?_) (fun q => ?_)
    · exact p2_ret ⟨c, cu_mono hC (by omega)⟩
    · have e6 : (v6 + (1 : Int32)).toInt = v6.toInt + 1 := i_add rfl kt_1 (by omega)
      exact t2_cutsQuotes_l24 hR hN (D := d) ih rFU v6 (v6 + (1 : Int32)) σ τ c v6.toInt hC (by omega) (by omega) (by unfold rFU; omega)
theorem t2_cutsQuotes {v1 v3 v4 v5 : Nat} {v2 : Int32} {σ0 τ0 : RS9} (hR : RW v1 v3 v4 v5) (hN : 0 ≤ v2.toInt ∧ v2.toInt ≤ 600) {σ τ : RS9} (hC : CU v1 v2.toInt v3 v4 v5 σ0 τ0 0 0 0 σ τ) : P2 (mX9_cutsQuotes v1 v2 v3 v4 v5 σ) (mX9_cutsQuotes v1 v2 v3 v4 v5 τ) (fun v σ' v' τ' => ∃ c, CU v1 v2.toInt v3 v4 v5 σ0 τ0 602 c 0 σ' τ') := by
  unfold mX9_cutsQuotes
  refine p2_ro (t2_endOf hR.1 (by decide) hN (fun x hx => cu_rd hC (by omega))) (fun y hy => ?_)
  dsimp only
  have k0 := kt_0
  exact t2_cutsQuotes_l12 hR hN rFU y σ τ 0 (cu_mono hC (by omega)) (by omega) (by unfold rFU; omega)
set_option maxHeartbeats 1000000 in
theorem t2_cutsLines_l137 {v1 v3 v4 v5 : Nat} {v2 : Int32} {σ0 τ0 : RS9} (hR : RW v1 v3 v4 v5) (hN : 0 ≤ v2.toInt ∧ v2.toInt ≤ 600) {D : Nat} {rec3 : Nat → Int32 → Nat → Nat → Nat → Int32 → RS9 → Option (Int32 × RS9)} (Hr : ∀ (v6 : Int32) (σ τ : RS9) (c : Nat), CU v1 v2.toInt v3 v4 v5 σ0 τ0 v6.toInt c c σ τ → (0 ≤ v6.toInt ∧ v6.toInt ≤ 601) → 1000 - v6.toInt < (D : Int) → P2 (rec3 v1 v2 v3 v4 v5 v6 σ) (rec3 v1 v2 v3 v4 v5 v6 τ) (fun v σ' v' τ' => ∃ c, CU v1 v2.toInt v3 v4 v5 σ0 τ0 602 c c σ' τ')) : ∀ (d : Nat) (v7 v8 v11 v12 : Int32) (σ τ : RS9) (c c2 : Nat) (a : Int), CU v1 v2.toInt v3 v4 v5 σ0 τ0 a c2 c σ τ → (c2 = c ∨ c2 = c + 1) → v11 = nI c → c < 600 → (a ≤ v7.toInt ∧ 0 ≤ v8.toInt ∧ v8.toInt ≤ 700 ∧ v7.toInt ≤ v2.toInt ∧ 0 ≤ v7.toInt ∧ 999 - v7.toInt < (D : Int)) → (0 ≤ v12.toInt ∧ v12.toInt ≤ v2.toInt) → v12.toInt < (d : Int) → P2 (mX9_cutsLines_l137 rec3 d v1 v2 v3 v4 v5 v7 v8 v11 v12 σ) (mX9_cutsLines_l137 rec3 d v1 v2 v3 v4 v5 v7 v8 v11 v12 τ) (fun v σ' v' τ' => ∃ c, CU v1 v2.toInt v3 v4 v5 σ0 τ0 602 c c σ' τ') := by
  intro d
  induction d with
  | zero => intro v7 v8 v11 v12 σ τ c c2 a hC hc h11 h600 h1 h2 hm; exfalso; omega
  | succ d ih =>
    intro v7 v8 v11 v12 σ τ c c2 a hC hc h11 h600 h1 h2 hm
    have e7 : (v7 + (1 : Int32)).toInt = v7.toInt + 1 := i_add rfl kt_1 (by omega)
    have f54 : (σ.1 54).toInt = (c2 : Int) := cu_fx hC (by omega)
    have e11 : v11.toInt = (c : Int) := by rw [h11]; exact nI_toInt (by omega)
    have hb : P2 (mX9_cutsLines_b161 rec3 v1 v2 v3 v4 v5 v7 v8 v11 v12 σ) (mX9_cutsLines_b161 rec3 v1 v2 v3 v4 v5 v7 v8 v11 v12 τ) (fun v σ' v' τ' => ∃ c, CU v1 v2.toInt v3 v4 v5 σ0 τ0 602 c c σ' τ') := by
      unfold mX9_cutsLines_b161
      refine p2_le f54 e11 (cu_54 hC) rfl (fun q => ?_) (fun q => ?_)
      · unfold mX9_cutsLines_b199
        have e : c2 = c := by omega
        subst e
        exact Hr (v7 + (1 : Int32)) σ τ c2 (cu_mono hC (by omega)) (by omega) (by omega)
      · have e : c2 = c + 1 := by omega
        subst e
        refine p2_eqN (fun q17 => ?_) (fun q17 => ?_)
        · refine p2_ck (by rw [h11]; exact inb_nI h600 (by decide)) (by rw [h11]; exact inb_nI h600 (by decide)) ?_
          refine p2_ck (by rw [h11]; exact inb_nI h600 (by decide)) (by rw [h11]; exact inb_nI h600 (by decide)) ?_
          unfold mX9_cutsLines_b199
          have ed : (v12 - v8).toInt = v12.toInt - v8.toInt := i_sub rfl rfl (by omega)
          exact Hr (v7 + (1 : Int32)) _ _ (c + 1) (cu_mono (cu_key hR hC q17 h11 h600 (by omega)) (by omega)) (by omega) (by omega)
        · unfold mX9_cutsLines_b199
          exact Hr (v7 + (1 : Int32)) σ τ (c + 1) (cu_mono (cu_nokey hC q17) (by omega)) (by omega) (by omega)
    unfold mX9_cutsLines_l137
    refine p2_le rfl rfl rfl rfl (fun q => hb) (fun q => ?_)
    have e12 : (v12 - (1 : Int32)).toInt = v12.toInt - 1 := i_sub rfl kt_1 (by omega)
    refine p2_ck (by rw [hR.1]; exact in_of (by omega) (by omega)) (by rw [hR.1]; exact in_of (by omega) (by omega)) ?_
    refine p2_eq (cu_rd hC (by omega)) rfl (fun q1 => ?_) (fun q1 => hb)
    clear e12
    exact ih v7 v8 v11 (v12 + (-1 : Int32)) σ τ c c2 a hC hc h11 h600 h1 (by rw [dec1 (by omega) (by omega)]; omega) (by rw [dec1 (by omega) (by omega)]; omega)
set_option maxHeartbeats 1000000 in
theorem t2_cutsLines_l91 {v1 v3 v4 v5 : Nat} {v2 : Int32} {σ0 τ0 : RS9} (hR : RW v1 v3 v4 v5) (hN : 0 ≤ v2.toInt ∧ v2.toInt ≤ 600) {D : Nat} {rec3 : Nat → Int32 → Nat → Nat → Nat → Int32 → RS9 → Option (Int32 × RS9)} (Hr : ∀ (v6 : Int32) (σ τ : RS9) (c : Nat), CU v1 v2.toInt v3 v4 v5 σ0 τ0 v6.toInt c c σ τ → (0 ≤ v6.toInt ∧ v6.toInt ≤ 601) → 1000 - v6.toInt < (D : Int) → P2 (rec3 v1 v2 v3 v4 v5 v6 σ) (rec3 v1 v2 v3 v4 v5 v6 τ) (fun v σ' v' τ' => ∃ c, CU v1 v2.toInt v3 v4 v5 σ0 τ0 602 c c σ' τ')) : ∀ (d : Nat) (v7 v8 v9 v10 : Int32) (σ τ : RS9) (c : Nat) (a : Int), CU v1 v2.toInt v3 v4 v5 σ0 τ0 a c c σ τ → (0 ≤ a ∧ a ≤ v8.toInt ∧ v8.toInt ≤ v7.toInt ∧ v7.toInt ≤ v2.toInt ∧ 999 - v7.toInt < (D : Int)) → (a ≤ v9.toInt ∧ v9.toInt < v10.toInt ∧ v10.toInt ≤ v7.toInt) → 1000 - v10.toInt < (d : Int) → P2 (mX9_cutsLines_l91 rec3 d v1 v2 v3 v4 v5 v7 v8 v9 v10 σ) (mX9_cutsLines_l91 rec3 d v1 v2 v3 v4 v5 v7 v8 v9 v10 τ) (fun v σ' v' τ' => ∃ c, CU v1 v2.toInt v3 v4 v5 σ0 τ0 602 c c σ' τ') := by
  intro d
  induction d with
  | zero => intro v7 v8 v9 v10 σ τ c a hC h1 h2 hm; exfalso; omega
  | succ d ih =>
    intro v7 v8 v9 v10 σ τ c a hC h1 h2 hm
    have hca := hC.2.2.2.2.2.1
    have hb : P2 (mX9_cutsLines_b113 rec3 v1 v2 v3 v4 v5 v7 v8 v9 v10 σ) (mX9_cutsLines_b113 rec3 v1 v2 v3 v4 v5 v7 v8 v9 v10 τ) (fun v σ' v' τ' => ∃ c, CU v1 v2.toInt v3 v4 v5 σ0 τ0 602 c c σ' τ') := by
      unfold mX9_cutsLines_b113
      refine p2_call (cu_finds hR hN.2 hC v7.toInt (by omega) (by omega) (by omega) (by omega) (Nat.le_refl _)) (fun v σ' v' τ' ⟨c2, hc', hC2⟩ => ?_)
      dsimp only
      rw [cu_54 hC]
      exact t2_cutsLines_l137 hR hN Hr rFU v7 v8 (σ.1 54) v9 σ' τ' c c2 v7.toInt hC2 hc' hC.2.2.2.1 (by omega) (by omega) (by omega) (by unfold rFU; omega)
    unfold mX9_cutsLines_l91
    refine p2_le rfl rfl rfl rfl (fun q => hb) (fun q => ?_)
    refine p2_ck (by rw [hR.1]; exact in_of (by omega) (by omega)) (by rw [hR.1]; exact in_of (by omega) (by omega)) ?_
    refine p2_eq (cu_rd hC (by omega)) rfl (fun q1 => ?_) (fun q1 => hb)
    have e10 : (v10 + (1 : Int32)).toInt = v10.toInt + 1 := i_add rfl kt_1 (by omega)
    exact ih v7 v8 v9 (v10 + (1 : Int32)) σ τ c a hC h1 (by omega) (by omega)
set_option maxHeartbeats 1000000 in
theorem t2_cutsLines_l26 {v1 v3 v4 v5 : Nat} {v2 : Int32} {σ0 τ0 : RS9} (hR : RW v1 v3 v4 v5) (hN : 0 ≤ v2.toInt ∧ v2.toInt ≤ 600) {D : Nat} {rec3 : Nat → Int32 → Nat → Nat → Nat → Int32 → RS9 → Option (Int32 × RS9)} (Hr : ∀ (v6 : Int32) (σ τ : RS9) (c : Nat), CU v1 v2.toInt v3 v4 v5 σ0 τ0 v6.toInt c c σ τ → (0 ≤ v6.toInt ∧ v6.toInt ≤ 601) → 1000 - v6.toInt < (D : Int) → P2 (rec3 v1 v2 v3 v4 v5 v6 σ) (rec3 v1 v2 v3 v4 v5 v6 τ) (fun v σ' v' τ' => ∃ c, CU v1 v2.toInt v3 v4 v5 σ0 τ0 602 c c σ' τ')) : ∀ (d : Nat) (v6 v7 v8 : Int32) (σ τ : RS9) (c : Nat), CU v1 v2.toInt v3 v4 v5 σ0 τ0 v6.toInt c c σ τ → (0 ≤ v6.toInt ∧ v6.toInt ≤ v8.toInt ∧ v8.toInt ≤ v7.toInt ∧ v7.toInt ≤ v2.toInt ∧ 999 - v7.toInt < (D : Int)) → 1000 - v8.toInt < (d : Int) → P2 (mX9_cutsLines_l26 rec3 d v1 v2 v3 v4 v5 v6 v7 v8 σ) (mX9_cutsLines_l26 rec3 d v1 v2 v3 v4 v5 v6 v7 v8 τ) (fun v σ' v' τ' => ∃ c, CU v1 v2.toInt v3 v4 v5 σ0 τ0 602 c c σ' τ') := by
  intro d
  induction d with
  | zero => intro v6 v7 v8 σ τ c hC h1 hm; exfalso; omega
  | succ d ih =>
    intro v6 v7 v8 σ τ c hC h1 hm
    have e7 : (v7 + (1 : Int32)).toInt = v7.toInt + 1 := i_add rfl kt_1 (by omega)
    have hn : P2 (mX9_cutsLines_b199 rec3 v1 v2 v3 v4 v5 v7 σ) (mX9_cutsLines_b199 rec3 v1 v2 v3 v4 v5 v7 τ) (fun v σ' v' τ' => ∃ c, CU v1 v2.toInt v3 v4 v5 σ0 τ0 602 c c σ' τ') := by
      unfold mX9_cutsLines_b199
      exact Hr (v7 + (1 : Int32)) σ τ c (cu_mono hC (by omega)) (by omega) (by omega)
    have hb : P2 (mX9_cutsLines_b48 rec3 v1 v2 v3 v4 v5 v6 v7 v8 σ) (mX9_cutsLines_b48 rec3 v1 v2 v3 v4 v5 v6 v7 v8 τ) (fun v σ' v' τ' => ∃ c, CU v1 v2.toInt v3 v4 v5 σ0 τ0 602 c c σ' τ') := by
      unfold mX9_cutsLines_b48
      refine p2_ro (t2_endOf hR.1 (by omega) (by omega) (fun x hx => cu_rd hC (by omega))) (fun y hy => ?_)
      dsimp only
      refine p2_le rfl rfl rfl rfl (fun q => hn) (fun q => ?_)
      refine p2_ck (by rw [hR.1]; exact in_of (by omega) (by omega)) (by rw [hR.1]; exact in_of (by omega) (by omega)) ?_
      refine p2_eq (cu_rd hC (by omega)) rfl (fun q1 => hn) (fun q1 => ?_)
      refine p2_le rfl rfl rfl rfl (fun q2 => hn) (fun q2 => ?_)
      have ey : (y + (1 : Int32)).toInt = y.toInt + 1 := i_add rfl kt_1 (by omega)
      exact t2_cutsLines_l91 hR hN Hr rFU v7 v8 y (y + (1 : Int32)) σ τ c v6.toInt hC (by omega) (by omega) (by unfold rFU; omega)
    unfold mX9_cutsLines_l26
    refine p2_le rfl rfl rfl rfl (fun q => hb) (fun q => ?_)
    refine p2_ck (by rw [hR.1]; exact in_of (by omega) (by omega)) (by rw [hR.1]; exact in_of (by omega) (by omega)) ?_
    refine p2_eq (cu_rd hC (by omega)) rfl (fun q1 => ?_) (fun q1 => hb)
    have e8 : (v8 + (1 : Int32)).toInt = v8.toInt + 1 := i_add rfl kt_1 (by omega)
    exact ih v6 v7 (v8 + (1 : Int32)) σ τ c hC (by omega) (by omega)
set_option maxHeartbeats 1000000 in
theorem t2_cutsLines_l3 {v1 v3 v4 v5 : Nat} {v2 : Int32} {σ0 τ0 : RS9} (hR : RW v1 v3 v4 v5) (hN : 0 ≤ v2.toInt ∧ v2.toInt ≤ 600) : ∀ (d : Nat) (v6 : Int32) (σ τ : RS9) (c : Nat), CU v1 v2.toInt v3 v4 v5 σ0 τ0 v6.toInt c c σ τ → (0 ≤ v6.toInt ∧ v6.toInt ≤ 601) → 1000 - v6.toInt < (d : Int) → P2 (mX9_cutsLines_l3 d v1 v2 v3 v4 v5 v6 σ) (mX9_cutsLines_l3 d v1 v2 v3 v4 v5 v6 τ) (fun v σ' v' τ' => ∃ c, CU v1 v2.toInt v3 v4 v5 σ0 τ0 602 c c σ' τ') := by
  intro d
  induction d with
  | zero => intro v6 σ τ c hC h1 hm; exfalso; omega
  | succ d ih =>
    intro v6 σ τ c hC h1 hm
    unfold mX9_cutsLines_l3
    refine p2_le rfl rfl rfl rfl (fun q => ?_) (fun q => ?_)
    · exact p2_ret ⟨c, cu_mono hC (by omega)⟩
    · refine p2_ro (t2_endOf hR.1 (by omega) hN (fun x hx => cu_rd hC (by omega))) (fun y hy => ?_)
      dsimp only
      exact t2_cutsLines_l26 hR hN (D := d) ih rFU v6 y v6 σ τ c hC (by omega) (by unfold rFU; omega)
theorem t2_cutsLines {v1 v3 v4 v5 : Nat} {v2 : Int32} {σ0 τ0 : RS9} (hR : RW v1 v3 v4 v5) (hN : 0 ≤ v2.toInt ∧ v2.toInt ≤ 600) {σ τ : RS9} (hC : CU v1 v2.toInt v3 v4 v5 σ0 τ0 0 0 0 σ τ) : P2 (mX9_cutsLines v1 v2 v3 v4 v5 σ) (mX9_cutsLines v1 v2 v3 v4 v5 τ) (fun v σ' v' τ' => ∃ c, CU v1 v2.toInt v3 v4 v5 σ0 τ0 602 c c σ' τ') := by
  unfold mX9_cutsLines
  exact t2_cutsLines_l3 hR hN rFU 0 σ τ 0 hC (by decide) (by unfold rFU; rw [kt_0]; omega)
end
/-! part 40c.undo -/
section
theorem t2_cuts {v1 : Int32} {r of ti wh : Nat} {v3 : Int32} {σ τ : RS9} (hR : RW r of ti wh) (hN : 0 ≤ v3.toInt ∧ v3.toInt ≤ 600) (hag : ∀ i : Nat, (i : Int) < v3.toInt → τ.2 r i = σ.2 r i) : P2 (mX9_cuts v1 r v3 of ti wh σ) (mX9_cuts v1 r v3 of ti wh τ) (fun v σ' v' τ' => ∃ c kx : Nat, v = nI c ∧ v' = nI c ∧ (c : Int) ≤ v3.toInt ∧ (v1 = 0 → kx = c) ∧ CU r v3.toInt of ti wh σ τ 602 c kx σ' τ') := by
  have hC : CU r v3.toInt of ti wh σ τ 0 0 0 (rSf σ 54 0) (rSf τ 54 0) := ⟨hag, ⟨fun _ _ _ _ _ => rfl, fun k e => sf_ne e⟩, ⟨fun _ _ _ _ _ => rfl, fun k e => sf_ne e⟩, sf_eq, sf_eq, by omega, fun i hi => absurd hi (by omega), fun _ i hi => absurd hi (by omega)⟩
  have fin : ∀ (c kx : Nat) (σ' τ' : RS9), CU r v3.toInt of ti wh σ τ 602 c kx σ' τ' → (v1 = 0 → kx = c) → P2 (mX9_cuts_b76 σ') (mX9_cuts_b76 τ') (fun v σ' v' τ' => ∃ c kx : Nat, v = nI c ∧ v' = nI c ∧ (c : Int) ≤ v3.toInt ∧ (v1 = 0 → kx = c) ∧ CU r v3.toInt of ti wh σ τ 602 c kx σ' τ') := fun c kx σ' τ' h hk => by
    unfold mX9_cuts_b76
    exact p2_ret ⟨c, kx, h.2.2.2.1, h.2.2.2.2.1, cu_c h hN.1, hk, h⟩
  unfold mX9_cuts
  refine p2_eq rfl rfl (fun q => ?_) (fun q => ?_)
  · exact p2_call (t2_cutsLines hR hN hC) (fun v s v' t ⟨c, h⟩ => fin c c s t h (fun _ => rfl))
  · refine p2_eq rfl rfl (fun q2 => ?_) (fun q2 => ?_)
    · exact p2_call (t2_cutsTable hR hN hC) (fun v s v' t ⟨c, h⟩ => fin c 0 s t h (fun e => absurd e q))
    · refine p2_eq rfl rfl (fun q3 => ?_) (fun q3 => ?_)
      · exact p2_call (t2_cutsMarkup hR hN hC) (fun v s v' t ⟨c, h⟩ => fin c 0 s t h (fun e => absurd e q))
      · exact p2_call (t2_cutsQuotes hR hN hC) (fun v s v' t ⟨c, h⟩ => fin c 0 s t h (fun e => absurd e q))
/-! what bytes mean -/
theorem st9_b {t : Nat} (h : t < 15) : 0 ≤ (strL t).toInt ∧ (strL t).toInt ≤ 20 := by
  have h0 : ∀ k : Fin 15, 0 ≤ (strL (k : Nat)).toInt ∧ (strL (k : Nat)).toInt ≤ 20 := by decide +kernel
  exact h0 ⟨t, h⟩
theorem st9_n {t : Nat} (h : t < 15) : (strL t).toInt = (sL9.getD t 0 : Nat) := nI_toInt (sL9_b h)
theorem in_st9 {t : Nat} {x : Int32} (h : t < 15) (hx : 0 ≤ x.toInt ∧ x.toInt < (strL t).toInt) : rIn x (sL9.getD t 0) = true := in_of hx.1 (by rw [← st9_n h]; exact hx.2)
theorem t2_stands_l15 {r t : Nat} {a b : Int32} {σ τ : RS9} (hr : rLen r = 600) (ht : t < 15) (hab : 0 ≤ a.toInt ∧ a.toInt + (strL t).toInt ≤ b.toInt ∧ b.toInt ≤ 600) (hrd : ∀ x : Int32, 0 ≤ x.toInt ∧ x.toInt < b.toInt → rGa τ r x = rGa σ r x) : ∀ (d : Nat) (v4 : Int32), (0 ≤ v4.toInt ∧ v4.toInt ≤ 100) → 200 - v4.toInt < (d : Int) → P2 (mX9_stands_l15 d r a t v4 σ) (mX9_stands_l15 d r a t v4 τ) (fun v σ' v' τ' => σ' = σ ∧ τ' = τ ∧ v' = v ∧ True) := by
  have hst := st9_b ht
  intro d
  induction d with
  | zero => intro v4 h hm; exfalso; omega
  | succ d ih =>
    intro v4 h hm
    unfold mX9_stands_l15
    refine p2_le rfl rfl rfl rfl (fun q => ?_) (fun q => ?_)
    · exact p2_ck rfl rfl (p2_ret ⟨rfl, rfl, rfl, trivial⟩)
    · have e : (a + v4).toInt = a.toInt + v4.toInt := i_add rfl rfl (by omega)
      refine p2_ck (by rw [hr]; exact in_of (by omega) (by omega)) (by rw [hr]; exact in_of (by omega) (by omega)) ?_
      refine p2_ck (in_st9 ht (by omega)) (in_st9 ht (by omega)) ?_
      refine p2_eq (hrd _ (by omega)) rfl (fun q1 => ?_) (fun q1 => ?_)
      · have e4 : (v4 + (1 : Int32)).toInt = v4.toInt + 1 := i_add rfl kt_1 (by omega)
        exact ih (v4 + (1 : Int32)) (by omega) (by omega)
      · exact p2_ck rfl rfl (p2_ret ⟨rfl, rfl, rfl, trivial⟩)
theorem t2_stands {r t : Nat} {a b : Int32} {σ τ : RS9} (hr : rLen r = 600) (ht : t < 15) (hab : 0 ≤ a.toInt ∧ a.toInt ≤ b.toInt ∧ b.toInt ≤ 600) (hrd : ∀ x : Int32, 0 ≤ x.toInt ∧ x.toInt < b.toInt → rGa τ r x = rGa σ r x) : P2 (mX9_stands r a b t σ) (mX9_stands r a b t τ) (fun v σ' v' τ' => σ' = σ ∧ τ' = τ ∧ v' = v ∧ (v ≠ 0 → a.toInt + (strL t).toInt ≤ b.toInt)) := by
  have hst := st9_b ht
  have e : (b - a).toInt = b.toInt - a.toInt := i_sub rfl rfl (by omega)
  unfold mX9_stands
  refine p2_le rfl e rfl rfl (fun q => ?_) (fun q => ?_)
  · exact p2_tail (t2_stands_l15 hr ht (by omega) hrd rFU 0 (by decide) (by unfold rFU; rw [kt_0]; omega)) (fun v s v' t q2 => ⟨q2.1, q2.2.1, q2.2.2.1, fun _ => by omega⟩)
  · exact p2_ck rfl rfl (p2_ret ⟨rfl, rfl, rfl, fun h => absurd rfl h⟩)
theorem t2_backMeaning {v1 v2 v2' : Int32} {σ τ : RS9} (h : v2' = v2) : P2 (mX9_backMeaning v1 v2 σ) (mX9_backMeaning v1 v2' τ) (fun v σ' v' τ' => σ' = σ ∧ τ' = τ ∧ v' = v ∧ True) := by
  subst h
  have b56 : P2 (mX9_backMeaning_b56 σ) (mX9_backMeaning_b56 τ) (fun v σ' v' τ' => σ' = σ ∧ τ' = τ ∧ v' = v ∧ True) := p2_ret ⟨rfl, rfl, rfl, trivial⟩
  have b40 : P2 (mX9_backMeaning_b40 v1 v2' σ) (mX9_backMeaning_b40 v1 v2' τ) (fun v σ' v' τ' => σ' = σ ∧ τ' = τ ∧ v' = v ∧ True) := by
    unfold mX9_backMeaning_b40
    refine p2_eq rfl rfl (fun q => ?_) (fun q => b56)
    refine p2_eq rfl rfl (fun q => ?_) (fun q => b56)
    exact p2_ret ⟨rfl, rfl, rfl, trivial⟩
  unfold mX9_backMeaning
  refine p2_eq rfl rfl (fun q => p2_ret ⟨rfl, rfl, rfl, trivial⟩) (fun q => ?_)
  refine p2_eq rfl rfl (fun q => p2_ret ⟨rfl, rfl, rfl, trivial⟩) (fun q => ?_)
  refine p2_eq rfl rfl (fun q => p2_ret ⟨rfl, rfl, rfl, trivial⟩) (fun q => ?_)
  refine p2_eq rfl rfl (fun q => ?_) (fun q => b40)
  exact p2_eq rfl rfl (fun q => p2_ret ⟨rfl, rfl, rfl, trivial⟩) (fun q => b40)
def M55 (σ τ σ' τ' : RS9) : Prop := σ'.2 = σ.2 ∧ τ'.2 = τ.2 ∧ (∀ k, k ≠ 55 → σ'.1 k = σ.1 k) ∧ (∀ k, k ≠ 55 → τ'.1 k = τ.1 k) ∧ τ'.1 55 = σ'.1 55
theorem m55 {σ τ : RS9} {x y : Int32} (h : y = x) : M55 σ τ (rSf σ 55 x) (rSf τ 55 y) := ⟨rfl, rfl, fun _ e => sf_ne e, fun _ e => sf_ne e, by rw [sf_eq, sf_eq]; exact h⟩
theorem m55b {σ τ σ' τ' : RS9} {x y : Int32} (h : M55 σ τ σ' τ') (hx : y = x) : M55 σ τ (rSf σ' 55 x) (rSf τ' 55 y) := ⟨h.1, h.2.1, fun k e => (sf_ne e).trans (h.2.2.1 k e), fun k e => (sf_ne e).trans (h.2.2.2.1 k e), by rw [sf_eq, sf_eq]; exact hx⟩
set_option maxHeartbeats 1000000 in
theorem t2_means {v1 v2 : Int32} {r a b : Nat} {σ τ : RS9} (hr : rLen r = 600) (hab : a < b ∧ b ≤ 600) (hrd : ∀ x : Int32, 0 ≤ x.toInt ∧ x.toInt < (b : Int) → rGa τ r x = rGa σ r x) : P2 (mX9_means v1 v2 r (nI a) (nI b) σ) (mX9_means v1 v2 r (nI a) (nI b) τ) (fun v σ' v' τ' => M55 σ τ σ' τ' ∧ ∃ m : Nat, v = nI m ∧ v' = nI m ∧ 1 ≤ m ∧ m ≤ 5 ∧ a + m ≤ b) := by
  have ea : (nI a).toInt = (a : Int) := nI_toInt (by omega)
  have eb : (nI b).toInt = (b : Int) := nI_toInt (by omega)
  have e1 : (nI a + (1 : Int32)).toInt = (a : Int) + 1 := i_add ea kt_1 (by omega)
  have h0 : rGa τ r (nI a) = rGa σ r (nI a) := hrd _ (by omega)
  have hck : ∀ x : Int32, 0 ≤ x.toInt ∧ x.toInt < (b : Int) → rIn x (rLen r) = true := fun x hx => by rw [hr]; exact in_of hx.1 (by omega)
  have hM : M55 σ τ (rSf σ 55 (rGa σ r (nI a))) (rSf τ 55 (rGa τ r (nI a))) := m55 h0
  have one : ∀ (s t : RS9), M55 σ τ s t → P2 (some ((1 : Int32), s)) (some ((1 : Int32), t)) (fun v σ' v' τ' => M55 σ τ σ' τ' ∧ ∃ m : Nat, v = nI m ∧ v' = nI m ∧ 1 ≤ m ∧ m ≤ 5 ∧ a + m ≤ b) := fun s t h => p2_ret ⟨h, 1, rfl, rfl, by omega, by omega, by omega⟩
  unfold mX9_means
  refine p2_ck (hck _ (by omega)) (hck _ (by omega)) ?_
  refine p2_eq rfl rfl (fun q => ?_) (fun q => ?_)
  · refine p2_eq rfl rfl (fun q2 => one _ _ hM) (fun q2 => ?_)
    refine p2_ck (hck _ (by omega)) (hck _ (by omega)) ?_
    refine p2_eq h0 rfl (fun q3 => ?_) (fun q3 => one _ _ hM)
    refine p2_le eb e1 rfl rfl (fun q4 => one _ _ hM) (fun q4 => ?_)
    refine p2_ck (hck _ (by omega)) (hck _ (by omega)) ?_
    refine p2_eq (hrd _ (by omega)) rfl (fun q5 => ?_) (fun q5 => one _ _ hM)
    exact p2_ret ⟨hM, 2, rfl, rfl, by omega, by omega, by omega⟩
  · refine p2_eq rfl rfl (fun q2 => ?_) (fun q2 => ?_)
    · have b116 : ∀ s t : RS9, M55 σ τ s t → (s.1 55 ≠ rGa σ r (nI a) → a + 4 ≤ b) → P2 (mX9_means_b116 r (nI a) s) (mX9_means_b116 r (nI a) t) (fun v σ' v' τ' => M55 σ τ σ' τ' ∧ ∃ m : Nat, v = nI m ∧ v' = nI m ∧ 1 ≤ m ∧ m ≤ 5 ∧ a + m ≤ b) := fun s t h h4 => by
        have rs : rGa s r (nI a) = rGa σ r (nI a) := by unfold rGa; rw [h.1]
        have rt : rGa t r (nI a) = rGa s r (nI a) := by
          rw [rs, ← h0]; unfold rGa; rw [h.2.1]
        unfold mX9_means_b116
        refine p2_ck (hck _ (by omega)) (hck _ (by omega)) ?_
        refine p2_eq h.2.2.2.2 rt (fun q3 => one _ _ h) (fun q3 => ?_)
        rw [rs] at q3
        exact p2_ret ⟨h, 4, rfl, rfl, by omega, by omega, h4 q3⟩
      have l0 : (strL 0).toInt = 4 := by decide +kernel
      have l1 : (strL 1).toInt = 4 := by decide +kernel
      have l2 : (strL 2).toInt = 5 := by decide +kernel
      refine p2_ro (t2_stands hr (by decide) (by omega) (fun x hx => hrd x (by omega))) (fun y hy => ?_)
      dsimp only
      refine p2_eq rfl rfl (fun q3 => ?_) (fun q3 => ?_)
      · refine p2_ro (t2_stands hr (by decide) (by omega) (fun x hx => hrd x (by omega))) (fun y2 hy2 => ?_)
        dsimp only
        refine p2_eq rfl rfl (fun q4 => ?_) (fun q4 => ?_)
        · refine p2_ro (t2_stands hr (by decide) (by omega) (fun x hx => hrd x (by omega))) (fun y3 hy3 => ?_)
          dsimp only
          refine p2_eq rfl rfl (fun q5 => ?_) (fun q5 => ?_)
          · exact b116 _ _ hM (fun h => absurd sf_eq h)
          · have := hy3 q5
            exact p2_ret ⟨hM, 5, rfl, rfl, by omega, by omega, by omega⟩
        · have := hy2 q4
          exact b116 _ _ (m55b hM rfl) (fun _ => by omega)
      · have := hy q3
        exact b116 _ _ (m55b hM rfl) (fun _ => by omega)
    · have b166 : ∀ (x : Int32) (s t : RS9), M55 σ τ s t → (a + 2 ≤ b ∨ x = -1) → P2 (mX9_means_b166 x s) (mX9_means_b166 x t) (fun v σ' v' τ' => M55 σ τ σ' τ' ∧ ∃ m : Nat, v = nI m ∧ v' = nI m ∧ 1 ≤ m ∧ m ≤ 5 ∧ a + m ≤ b) := fun x s t h h2 => by
        unfold mX9_means_b166
        refine p2_eq rfl rfl (fun q3 => one _ _ h) (fun q3 => ?_)
        exact p2_ret ⟨m55b h rfl, 2, rfl, rfl, by omega, by omega, h2.elim id (fun e => absurd e q3)⟩
      refine p2_ck (hck _ (by omega)) (hck _ (by omega)) ?_
      refine p2_eq h0 rfl (fun q3 => ?_) (fun q3 => ?_)
      · refine p2_le eb e1 rfl rfl (fun q4 => ?_) (fun q4 => ?_)
        · unfold mX9_means_b165
          exact b166 _ _ _ hM (Or.inr rfl)
        · refine p2_ck (hck _ (by omega)) (hck _ (by omega)) ?_
          refine p2_ro (t2_backMeaning (hrd _ (by omega))) (fun y hy => ?_)
          dsimp only
          exact b166 _ _ _ hM (Or.inl (by omega))
      · unfold mX9_means_b165
        exact b166 _ _ _ hM (Or.inr rfl)
end
/-! part 40d.undo -/
section
/-! undoing the escapes of a piece of a row -/
def SRC (r bg fn N : Nat) (σ τ : RS9) : Prop := (∀ i, i < N → τ.2 r i = σ.2 r i ∧ τ.2 bg i = σ.2 bg i ∧ τ.2 fn i = σ.2 fn i ∧ 0 ≤ (σ.2 bg i).toInt ∧ (σ.2 bg i).toInt < (σ.2 fn i).toInt) ∧ ∀ i j, i < j → j < N → (σ.2 fn i).toInt ≤ (σ.2 bg j).toInt
def OU (o ob oe n : Nat) (lo h : Int) (σ τ : RS9) : Prop := ∀ i, i < n → τ.2 o i = σ.2 o i ∧ τ.2 ob i = σ.2 ob i ∧ τ.2 oe i = σ.2 oe i ∧ lo ≤ (σ.2 ob i).toInt ∧ (σ.2 ob i).toInt < (σ.2 oe i).toInt ∧ (σ.2 oe i).toInt ≤ h ∧ ∀ j, j < i → (σ.2 oe j).toInt ≤ (σ.2 ob i).toInt
def FRu (o ob oe : Nat) (σ0 σ : RS9) : Prop := (∀ k, k ≠ o → k ≠ ob → k ≠ oe → σ.2 k = σ0.2 k) ∧ ∀ k, k ≠ 55 → σ.1 k = σ0.1 k
def RU (r bg fn o ob oe : Nat) : Prop := rLen r = 600 ∧ rLen bg = 600 ∧ rLen fn = 600 ∧ rLen o = 600 ∧ rLen ob = 600 ∧ rLen oe = 600 ∧ r ≠ o ∧ r ≠ ob ∧ r ≠ oe ∧ bg ≠ o ∧ bg ≠ ob ∧ bg ≠ oe ∧ fn ≠ o ∧ fn ≠ ob ∧ fn ≠ oe ∧ o ≠ ob ∧ o ≠ oe ∧ ob ≠ oe
theorem src_fr {r bg fn N : Nat} {σ τ σ' τ' : RS9} (h : SRC r bg fn N σ τ) (a1 : σ'.2 r = σ.2 r) (a2 : σ'.2 bg = σ.2 bg) (a3 : σ'.2 fn = σ.2 fn) (b1 : τ'.2 r = τ.2 r) (b2 : τ'.2 bg = τ.2 bg) (b3 : τ'.2 fn = τ.2 fn) : SRC r bg fn N σ' τ' := by
  unfold SRC
  rw [a1, a2, a3, b1, b2, b3]
  exact h
theorem src_mono {r bg fn N : Nat} {σ τ : RS9} (h : SRC r bg fn N σ τ) {t u : Nat} (htu : t ≤ u) (hu : u < N) : (σ.2 fn t).toInt ≤ (σ.2 fn u).toInt := by
  by_cases e : t = u
  · rw [e]; exact Int.le_refl _
  · have h1 := h.2 t u (by omega) hu
    have h2 := (h.1 u hu).2.2.2.2
    omega
/-- three rows written at one place -/
def w3 (s : RS9) (o ob oe n : Nat) (x y z : Int32) : RS9 := rSa (rSa (rSa s o (nI n) x) ob (nI n) y) oe (nI n) z
section W3
variable {s : RS9} {o ob oe n : Nat} {x y z : Int32}
theorem w3_o (hn : n < 600) (h1 : o ≠ ob) (h2 : o ≠ oe) {i : Nat} : (w3 s o ob oe n x y z).2 o i = if i = n then x else s.2 o i := by unfold w3; rw [sa_ne h2, sa_ne h1, sa_nI (by omega)]
theorem w3_b (hn : n < 600) (h1 : o ≠ ob) (h2 : ob ≠ oe) {i : Nat} : (w3 s o ob oe n x y z).2 ob i = if i = n then y else s.2 ob i := by unfold w3; rw [sa_ne h2, sa_nI (by omega), sa_ne h1.symm]
theorem w3_e (hn : n < 600) (h1 : o ≠ oe) (h2 : ob ≠ oe) {i : Nat} : (w3 s o ob oe n x y z).2 oe i = if i = n then z else s.2 oe i := by unfold w3; rw [sa_nI (by omega), sa_ne h2.symm, sa_ne h1.symm]
theorem w3_k {k : Nat} (h1 : k ≠ o) (h2 : k ≠ ob) (h3 : k ≠ oe) : (w3 s o ob oe n x y z).2 k = s.2 k := by unfold w3; rw [sa_ne h3, sa_ne h2, sa_ne h1]
end W3
set_option maxHeartbeats 1000000 in
theorem t2_undoes_l7 {v1 v2 : Int32} {r bg fn o ob oe N b : Nat} {σ0 τ0 : RS9} {lo HI : Int} (hU : RU r bg fn o ob oe) (hb : b ≤ N ∧ N ≤ 600) : ∀ (d n k : Nat) (h : Int) (σ τ : RS9), SRC r bg fn N σ τ → FRu o ob oe σ0 σ → FRu o ob oe τ0 τ → OU o ob oe n lo h σ τ → lo + n ≤ h → (∀ t, k ≤ t → t < N → h ≤ (σ.2 bg t).toInt) → n ≤ k → k ≤ b → h ≤ HI → (∀ t, t < b → (σ.2 fn t).toInt ≤ HI) → 1000 < k + d → P2 (mX9_undoes_l7 d v1 v2 r bg fn (nI b) o ob oe (nI n) (nI k) σ) (mX9_undoes_l7 d v1 v2 r bg fn (nI b) o ob oe (nI n) (nI k) τ) (fun v σ' v' τ' => ∃ n' : Nat, v = nI n' ∧ v' = nI n' ∧ n' ≤ b ∧ (k < b → n < n') ∧ n ≤ n' ∧ lo + n' ≤ HI ∧ OU o ob oe n' lo HI σ' τ' ∧ FRu o ob oe σ0 σ' ∧ FRu o ob oe τ0 τ') := by
  intro d
  induction d with
  | zero => intro n k h σ τ _ _ _ _ _ _ _ _ _ _ hm; exfalso; omega
  | succ d ih =>
    intro n k h σ τ hS hF hF' hO hlo hbg hnk hkb hHI hfn hm
    have hU0 := hU
    obtain ⟨l1, l2, l3, l4, l5, l6, d1, d2, d3, d4, d5, d6, d7, d8, d9, d10, d11, d12⟩ := hU
    have ek : (nI k).toInt = (k : Int) := nI_toInt (by omega)
    have eb : (nI b).toInt = (b : Int) := nI_toInt (by omega)
    unfold mX9_undoes_l7
    refine p2_le eb ek rfl rfl (fun q => ?_) (fun q => ?_)
    · refine p2_ret ⟨n, rfl, rfl, by omega, fun q2 => by omega, Nat.le_refl _, by omega, fun i hi => ?_, hF, hF'⟩
      obtain ⟨a1, a2, a3, a4, a5, a6, a7⟩ := hO i hi
      exact ⟨a1, a2, a3, a4, a5, by omega, a7⟩
    · refine p2_call (t2_means l1 (by omega) (fun x hx => by
        unfold rGa
        have := (hS.1 x.toNatClampNeg (by rw [tn]; omega)).1
        exact this)) (fun v s v' t hq => ?_)
      obtain ⟨hM, m, rfl, rfl, hm1, hm5, hkm⟩ := hq
      dsimp only
      have em : (nI k + nI m) - (1 : Int32) = nI (k + m - 1) := by
        have e : k + m = (k + m - 1) + 1 := by omega
        rw [nI_add, e, nI_pred]; rfl
      have ey : ∀ (u : RS9) (x : Int32), rGa (rSa u o (nI n) x) bg (nI k) = u.2 bg k := fun u x => by
        unfold rGa; rw [sa_ne d4, nI_clamp (by omega)]
      have ez : ∀ (u : RS9) (x y : Int32), rGa (rSa (rSa u o (nI n) x) ob (nI n) y) fn (nI (k + m - 1)) = u.2 fn (k + m - 1) := fun u x y => by
        unfold rGa; rw [sa_ne d8, sa_ne d7, nI_clamp (by omega)]
      rw [em, ey, ey, ez, ez, nI_1, nI_add]
      have cn : ∀ z : Nat, rLen z = 600 → rIn (nI n) (rLen z) = true := fun z hz => by rw [hz]; exact inb_nI (by omega) (by omega)
      refine p2_ck (cn o l4) (cn o l4) ?_
      refine p2_ck (by rw [l2]; exact inb_nI (by omega) (by omega)) (by rw [l2]; exact inb_nI (by omega) (by omega)) ?_
      refine p2_ck (cn ob l5) (cn ob l5) ?_
      refine p2_ck (by rw [l3]; exact inb_nI (by omega) (by omega)) (by rw [l3]; exact inb_nI (by omega) (by omega)) ?_
      refine p2_ck (cn oe l6) (cn oe l6) ?_
      obtain ⟨M1, M2, M3, M4, M5⟩ := hM
      obtain ⟨c1, c2, c3, c4, c5⟩ := hS.1 k (by omega)
      obtain ⟨f1, f2, f3, f4, f5⟩ := hS.1 (k + m - 1) (by omega)
      rw [M1, M2, c2, f3, M5]
      have hh := hbg k (Nat.le_refl _) (by omega)
      have hfk : (σ.2 bg k).toInt < (σ.2 fn (k + m - 1)).toInt := by
        have := src_mono hS (t := k) (u := k + m - 1) (by omega) (by omega)
        omega
      have rk : ∀ z, z ≠ o → z ≠ ob → z ≠ oe → (w3 s o ob oe n (s.1 55) (σ.2 bg k) (σ.2 fn (k + m - 1))).2 z = σ.2 z := fun z e1 e2 e3 => (w3_k e1 e2 e3).trans (by rw [M1])
      have rk' : ∀ z, z ≠ o → z ≠ ob → z ≠ oe → (w3 t o ob oe n (s.1 55) (σ.2 bg k) (σ.2 fn (k + m - 1))).2 z = τ.2 z := fun z e1 e2 e3 => (w3_k e1 e2 e3).trans (by rw [M2])
      have hn6 : n < 600 := by omega
      refine p2_tail (ih (n + 1) (k + m) (σ.2 fn (k + m - 1)).toInt (w3 s o ob oe n (s.1 55) (σ.2 bg k) (σ.2 fn (k + m - 1))) (w3 t o ob oe n (s.1 55) (σ.2 bg k) (σ.2 fn (k + m - 1))) ?_ ?_ ?_ ?_ ?_ ?_ (by omega) hkm ?_ ?_ (by omega)) ?_
      · exact src_fr hS (rk r d1 d2 d3) (rk bg d4 d5 d6) (rk fn d7 d8 d9) (rk' r d1 d2 d3) (rk' bg d4 d5 d6) (rk' fn d7 d8 d9)
      · exact ⟨fun z e1 e2 e3 => (rk z e1 e2 e3).trans (hF.1 z e1 e2 e3), fun z e => (M3 z e).trans (hF.2 z e)⟩
      · exact ⟨fun z e1 e2 e3 => (rk' z e1 e2 e3).trans (hF'.1 z e1 e2 e3), fun z e => (M4 z e).trans (hF'.2 z e)⟩
      · intro i hi
        rw [w3_o hn6 d10 d11, w3_o hn6 d10 d11, w3_b hn6 d10 d12, w3_b hn6 d10 d12, w3_e hn6 d11 d12, w3_e hn6 d11 d12, M1, M2]
        by_cases hin : i = n
        · simp only [if_pos hin]
          refine ⟨trivial, trivial, trivial, by omega, hfk, Int.le_refl _, fun j hj => ?_⟩
          rw [w3_e hn6 d11 d12, if_neg (by omega), M1]
          have := (hO j (by omega)).2.2.2.2.2.1
          omega
        · simp only [if_neg hin]
          obtain ⟨a1, a2, a3, a4, a5, a6, a7⟩ := hO i (by omega)
          refine ⟨a1, a2, a3, a4, a5, by omega, fun j hj => ?_⟩
          rw [w3_e hn6 d11 d12, if_neg (by omega), M1]
          exact a7 j hj
      · omega
      · intro u hu hN
        rw [rk bg d4 d5 d6]
        exact hS.2 (k + m - 1) u (by omega) hN
      · exact hfn _ (by omega)
      · intro u hu
        rw [rk fn d7 d8 d9]
        exact hfn u hu
      · intro v s2 v' t2 ⟨n', a1, a2, a3, a4, a5, a6, a7, a8, a9⟩
        exact ⟨n', a1, a2, a3, fun _ => by omega, by omega, a6, a7, a8, a9⟩
theorem t2_undoes {v1 v2 : Int32} {r bg fn o ob oe N a b : Nat} {σ τ : RS9} (hU : RU r bg fn o ob oe) (hab : a < b ∧ b ≤ N ∧ N ≤ 600) (hS : SRC r bg fn N σ τ) : P2 (mX9_undoes v1 v2 r bg fn (nI a) (nI b) o ob oe σ) (mX9_undoes v1 v2 r bg fn (nI a) (nI b) o ob oe τ) (fun v σ' v' τ' => ∃ n' : Nat, v = nI n' ∧ v' = nI n' ∧ 0 < n' ∧ n' ≤ 600 ∧ (σ.2 bg a).toInt + n' ≤ (σ.2 fn (b - 1)).toInt ∧ OU o ob oe n' (σ.2 bg a).toInt (σ.2 fn (b - 1)).toInt σ' τ' ∧ FRu o ob oe σ σ' ∧ FRu o ob oe τ τ') := by
  unfold mX9_undoes
  refine p2_tail (t2_undoes_l7 (lo := (σ.2 bg a).toInt) (HI := (σ.2 fn (b - 1)).toInt) hU hab.2 rFU 0 a (σ.2 bg a).toInt σ τ hS ⟨fun _ _ _ _ => rfl, fun _ _ => rfl⟩ ⟨fun _ _ _ _ => rfl, fun _ _ => rfl⟩ (fun i hi => absurd hi (by omega)) (by omega) (fun t ht hN => ?_) (by omega) (by omega) ?_ (fun t ht => src_mono hS (by omega) (by omega)) (by unfold rFU; omega)) ?_
  · by_cases e : t = a
    · rw [e]; exact Int.le_refl _
    · have h1 := hS.2 a t (by omega) hN
      have h2 := (hS.1 a (by omega)).2.2.2.2
      omega
  · have h1 := src_mono hS (t := a) (u := b - 1) (by omega) (by omega)
    have h2 := (hS.1 a (by omega)).2.2.2.2
    omega
  · intro v s v' t ⟨n', a1, a2, a3, a4, a5, a6, a7, a8, a9⟩
    exact ⟨n', a1, a2, a4 hab.1, by omega, by omega, a7, a8, a9⟩
end
/-! part 40e.take -/
section
theorem i_mul {x y : Int32} {a b : Int} (ex : x.toInt = a) (ey : y.toInt = b) (h : -2147483648 ≤ a * b ∧ a * b ≤ 2147483647) : (x * y).toInt = a * b := by
  rw [Int32.toInt_mul, ex, ey]
  exact Int.bmod_eq_of_le (by omega) (by omega)
/-! pieces are taken -/
def VM9 (μ : Nat → Int32) : Prop := (0 ≤ (μ 0).toInt ∧ (μ 0).toInt ≤ 400) ∧ 1 ≤ (μ 4).toInt ∧ (0 ≤ (μ 5).toInt ∧ (μ 5).toInt ≤ 4) ∧ (0 ≤ (μ 42).toInt ∧ (μ 42).toInt ≤ 12) ∧ (∀ p, p < 40 → -1 ≤ (μ (443 + 61 * p)).toInt ∧ (μ (443 + 61 * p)).toInt ≤ 60) ∧ (∀ k, k < 24 → 0 ≤ (μ (2883 + 61 * k)).toInt ∧ (μ (2883 + 61 * k)).toInt ≤ 60) ∧ (∀ l, l < 4 → (μ (6 + 9 * l)).toInt ≤ 8)
def AB (R C : Nat) (σ τ : RS9) : Prop := (∀ i, i < 443 → i ≠ 42 → τ.2 1 i = σ.2 1 i) ∧ (R ≤ 600 ∧ C ≤ 600) ∧ (σ.1 22 = nI C ∧ τ.1 22 = nI C) ∧ (∀ i, i < R → τ.2 13 i = σ.2 13 i ∧ σ.2 14 i = nI i ∧ τ.2 14 i = nI i ∧ σ.2 15 i = nI (i + 1) ∧ τ.2 15 i = nI (i + 1)) ∧ (∀ i, i < C → CE R 17 18 19 602 σ τ i) ∧ (σ.2 1 1 = 0 → ∀ i, i < C → CK R σ τ i) ∧ VM9 (σ.2 1)
def PE (L : Int) (σ τ : RS9) (i : Nat) : Prop := (τ.2 34 i = σ.2 34 i ∧ τ.2 35 i = σ.2 35 i ∧ τ.2 36 i = σ.2 36 i ∧ τ.2 37 i = σ.2 37 i ∧ τ.2 38 i = σ.2 38 i) ∧ 0 ≤ (σ.2 34 i).toInt ∧ (σ.2 34 i).toInt < (σ.2 35 i).toInt ∧ (σ.2 35 i).toInt ≤ L ∧ (∀ j, j < i → (σ.2 35 j).toInt ≤ (σ.2 34 i).toInt) ∧ 0 ≤ (σ.2 41 i).toInt ∧ 0 ≤ (σ.2 42 i).toInt ∧ (σ.2 41 i).toInt + (σ.2 42 i).toInt ≤ (σ.1 45).toInt
def PR (p : Nat) (L : Int) (σ τ : RS9) : Prop := σ.1 33 = nI p ∧ τ.1 33 = nI p ∧ p ≤ 40 ∧ τ.1 45 = σ.1 45 ∧ 0 ≤ (σ.1 45).toInt ∧ (σ.1 45).toInt ≤ L ∧ L ≤ 600 ∧ ∀ i, i < p → PE L σ τ i
theorem pr_mono {p : Nat} {L L' : Int} {σ τ : RS9} (h : PR p L σ τ) (hl : L ≤ L') (h6 : L' ≤ 600) : PR p L' σ τ := by
  obtain ⟨a1, a2, a3, a4, a5, a6, a7, a8⟩ := h
  refine ⟨a1, a2, a3, a4, a5, by omega, h6, fun i hi => ?_⟩
  obtain ⟨b1, b2, b3, b4, b5⟩ := a8 i hi
  exact ⟨b1, b2, b3, by omega, b5⟩
theorem rd_nI {σ : RS9} {r k : Nat} (h : k < 2 ^ 31) : rGa σ r (nI k) = σ.2 r k := by unfold rGa; rw [nI_clamp h]
theorem ab_m {R C : Nat} {σ τ : RS9} (hA : AB R C σ τ) {x : Int32} (hx : 0 ≤ x.toInt ∧ x.toInt < 42) : rGa τ 1 x = rGa σ 1 x := hA.1 _ (by rw [tn]; omega) (by rw [tn]; omega)
set_option maxHeartbeats 1000000 in
theorem t2_isLocked_l56 {R C c D : Nat} {σ τ : RS9} {rec13 : Int32 → Int32 → RS9 → Option (Int32 × RS9)} (hA : AB R C σ τ) (h0 : σ.2 1 1 = 0) (hc : c < C) (Hr : ∀ v2 : Int32, (0 ≤ v2.toInt ∧ v2.toInt ≤ 4) → 10 - v2.toInt < (D : Int) → P2 (rec13 (nI c) v2 σ) (rec13 (nI c) v2 τ) (fun v σ' v' τ' => σ' = σ ∧ τ' = τ ∧ v' = v ∧ True)) : ∀ (d : Nat) (v2 v3 v4 v5 : Int32), (0 ≤ v2.toInt ∧ v2.toInt ≤ 3) → (0 ≤ v5.toInt ∧ v5.toInt ≤ 700) → (v4 ≠ 0 → v3.toInt ≤ (σ.2 21 c).toInt) → v3.toInt ≤ 8 → 9 - v2.toInt < (D : Int) → 1000 - v5.toInt < (d : Int) → P2 (mX9_isLocked_l56 rec13 d (nI c) v2 v3 v4 v5 σ) (mX9_isLocked_l56 rec13 d (nI c) v2 v3 v4 v5 τ) (fun v σ' v' τ' => σ' = σ ∧ τ' = τ ∧ v' = v ∧ True) := by
  obtain ⟨k1, k2, k3, k4⟩ := hA.2.2.2.2.2.1 h0 c hc
  have hb := hA.2.1
  intro d
  induction d with
  | zero => intro v2 v3 v4 v5 _ _ _ _ _ hm; exfalso; omega
  | succ d ih =>
    intro v2 v3 v4 v5 h2 h5 h4 h8 hD hm
    have e2 : (v2 + (1 : Int32)).toInt = v2.toInt + 1 := i_add rfl kt_1 (by omega)
    have hb114 : P2 (mX9_isLocked_b114 rec13 (nI c) v2 v4 σ) (mX9_isLocked_b114 rec13 (nI c) v2 v4 τ) (fun v σ' v' τ' => σ' = σ ∧ τ' = τ ∧ v' = v ∧ True) := by
      unfold mX9_isLocked_b114
      refine p2_eq rfl rfl (fun q => ?_) (fun q => ?_)
      · exact Hr _ (by omega) (by omega)
      · exact p2_ck rfl rfl (p2_ret ⟨rfl, rfl, rfl, trivial⟩)
    unfold mX9_isLocked_l56
    refine p2_le rfl rfl rfl rfl (fun q => hb114) (fun q => ?_)
    refine p2_eq rfl rfl (fun q1 => hb114) (fun q1 => ?_)
    have h3 := h4 q1
    have f20 : rGa σ 20 (nI c) = σ.2 20 c := rd_nI (by omega)
    have f20' : rGa τ 20 (nI c) = σ.2 20 c := (rd_nI (by omega)).trans k1
    rw [f20, f20']
    have ex : ((σ.2 20 c) + v5).toInt = (σ.2 20 c).toInt + v5.toInt := i_add rfl rfl (by omega)
    have em : ((9 : Int32) * v2).toInt = 9 * v2.toInt := i_mul (show (9 : Int32).toInt = 9 by decide) rfl (by omega)
    have em2 : ((6 : Int32) + ((9 : Int32) * v2)).toInt = 6 + 9 * v2.toInt := i_add (show (6 : Int32).toInt = 6 by decide) em (by omega)
    have em3 : (((6 : Int32) + ((9 : Int32) * v2)) + (1 : Int32)).toInt = 6 + 9 * v2.toInt + 1 := i_add em2 kt_1 (by omega)
    have em4 : ((((6 : Int32) + ((9 : Int32) * v2)) + (1 : Int32)) + v5).toInt = 6 + 9 * v2.toInt + 1 + v5.toInt := i_add em3 rfl (by omega)
    clear em em2 em3
    refine p2_ck (inb_nI (n := 600) (by omega) (by decide)) (inb_nI (n := 600) (by omega) (by decide)) ?_
    refine p2_ck (in_of (N := 600) (by omega) (by omega)) (in_of (N := 600) (by omega) (by omega)) ?_
    refine p2_ck (in_of (N := 4347) (by omega) (by omega)) (in_of (N := 4347) (by omega) (by omega)) ?_
    have e5 : (v5 + (1 : Int32)).toInt = v5.toInt + 1 := i_add rfl kt_1 (by omega)
    have hrd : rGa τ 13 ((σ.2 20 c) + v5) = rGa σ 13 ((σ.2 20 c) + v5) := (hA.2.2.2.1 _ (by rw [tn]; omega)).1
    refine p2_eq hrd (ab_m hA (by omega)) (fun q2 => ?_) (fun q2 => ?_)
    · unfold mX9_isLocked_b106
      exact ih v2 v3 1 (v5 + (1 : Int32)) h2 (by omega) (fun _ => h3) h8 hD (by omega)
    · unfold mX9_isLocked_b106
      exact ih v2 v3 0 (v5 + (1 : Int32)) h2 (by omega) (fun e => absurd rfl e) h8 hD (by omega)
set_option maxHeartbeats 1000000 in
theorem t2_isLocked_l13 {R C c : Nat} {σ τ : RS9} (hA : AB R C σ τ) (h0 : σ.2 1 1 = 0) (hc : c < C) : ∀ (d : Nat) (v2 : Int32), (0 ≤ v2.toInt ∧ v2.toInt ≤ 4) → 10 - v2.toInt < (d : Int) → P2 (mX9_isLocked_l13 d (nI c) v2 σ) (mX9_isLocked_l13 d (nI c) v2 τ) (fun v σ' v' τ' => σ' = σ ∧ τ' = τ ∧ v' = v ∧ True) := by
  obtain ⟨k1, k2, k3, k4⟩ := hA.2.2.2.2.2.1 h0 c hc
  have hb := hA.2.1
  have hv := hA.2.2.2.2.2.2
  intro d
  induction d with
  | zero => intro v2 h2 hm; exfalso; omega
  | succ d ih =>
    intro v2 h2 hm
    unfold mX9_isLocked_l13
    refine p2_ck rfl rfl ?_
    have h5 : (rGa σ 1 (5 : Int32)) = σ.2 1 5 := rfl
    refine p2_le (congrArg Int32.toInt h5) rfl (ab_m hA (by decide)) rfl (fun q => ?_) (fun q => ?_)
    · exact p2_ck rfl rfl (p2_ret ⟨rfl, rfl, rfl, trivial⟩)
    · have h55 := hv.2.2.1
      have em : ((9 : Int32) * v2).toInt = 9 * v2.toInt := i_mul (show (9 : Int32).toInt = 9 by decide) rfl (by omega)
      have em2 : ((6 : Int32) + ((9 : Int32) * v2)).toInt = 6 + 9 * v2.toInt := i_add (show (6 : Int32).toInt = 6 by decide) em (by omega)
      clear em
      refine p2_ck (in_of (N := 4347) (by omega) (by omega)) (in_of (N := 4347) (by omega) (by omega)) ?_
      refine p2_ck (inb_nI (n := 600) (by omega) (by decide)) (inb_nI (n := 600) (by omega) (by decide)) ?_
      have f21 : rGa σ 21 (nI c) = σ.2 21 c := rd_nI (by omega)
      have f21' : rGa τ 21 (nI c) = σ.2 21 c := (rd_nI (by omega)).trans k2
      have hm6 : rGa τ 1 ((6 : Int32) + ((9 : Int32) * v2)) = rGa σ 1 ((6 : Int32) + ((9 : Int32) * v2)) := ab_m hA (by omega)
      rw [hm6, f21, f21']
      have h8 : (rGa σ 1 ((6 : Int32) + ((9 : Int32) * v2))).toInt ≤ 8 := by
        have hidx : ((6 : Int32) + ((9 : Int32) * v2)).toNatClampNeg = 6 + 9 * v2.toInt.toNat := by rw [tn]; omega
        unfold rGa
        rw [hidx]
        exact hv.2.2.2.2.2.2 _ (by omega)
      refine p2_lt rfl rfl rfl rfl (fun q2 => ?_) (fun q2 => ?_)
      · unfold mX9_isLocked_b51
        exact t2_isLocked_l56 hA h0 hc (D := d) ih rFU v2 _ 0 0 (by omega) (by decide) (fun e => absurd rfl e) h8 (by omega) (by unfold rFU; rw [kt_0]; omega)
      · unfold mX9_isLocked_b51
        exact t2_isLocked_l56 hA h0 hc (D := d) ih rFU v2 _ 1 0 (by omega) (by decide) (fun _ => by omega) h8 (by omega) (by unfold rFU; rw [kt_0]; omega)
theorem t2_isLocked {R C c : Nat} {σ τ : RS9} (hA : AB R C σ τ) (hc : c < C) : P2 (mX9_isLocked (nI c) σ) (mX9_isLocked (nI c) τ) (fun v σ' v' τ' => σ' = σ ∧ τ' = τ ∧ v' = v ∧ True) := by
  unfold mX9_isLocked
  refine p2_ck rfl rfl ?_
  refine p2_eq (ab_m hA (by decide)) rfl (fun q => ?_) (fun q => ?_)
  · exact t2_isLocked_l13 hA q hc rFU 0 (by decide) (by unfold rFU; rw [kt_0]; omega)
  · exact p2_ck rfl rfl (p2_ret ⟨rfl, rfl, rfl, trivial⟩)
theorem t2_isIn {x x' a b : Int32} {σ τ : RS9} (h : x' = x) : P2 (mX9_isIn x a b σ) (mX9_isIn x' a b τ) (fun v σ' v' τ' => σ' = σ ∧ τ' = τ ∧ v' = v ∧ (v = 0 ∨ v = 1)) := by
  subst h
  have b14 : P2 (mX9_isIn_b14 σ) (mX9_isIn_b14 τ) (fun v σ' v' τ' => σ' = σ ∧ τ' = τ ∧ v' = v ∧ (v = 0 ∨ v = 1)) := p2_ck rfl rfl (p2_ret ⟨rfl, rfl, rfl, Or.inl rfl⟩)
  unfold mX9_isIn
  refine p2_lt rfl rfl rfl rfl (fun q => b14) (fun q => ?_)
  refine p2_lt rfl rfl rfl rfl (fun q => b14) (fun q => ?_)
  exact p2_ck rfl rfl (p2_ret ⟨rfl, rfl, rfl, Or.inr rfl⟩)
theorem t2_isLetter {x x' : Int32} {σ τ : RS9} (h : x' = x) : P2 (mX9_isLetter x σ) (mX9_isLetter x' τ) (fun v σ' v' τ' => σ' = σ ∧ τ' = τ ∧ v' = v ∧ (v = 0 ∨ v = 1)) := by
  unfold mX9_isLetter
  have b22 : P2 (mX9_isLetter_b22 σ) (mX9_isLetter_b22 τ) (fun v σ' v' τ' => σ' = σ ∧ τ' = τ ∧ v' = v ∧ (v = 0 ∨ v = 1)) := p2_ck rfl rfl (p2_ret ⟨rfl, rfl, rfl, Or.inr rfl⟩)
  refine p2_ro (t2_isIn h) (fun y _ => ?_)
  dsimp only
  refine p2_eq rfl rfl (fun q => ?_) (fun q => b22)
  refine p2_ro (t2_isIn h) (fun y _ => ?_)
  dsimp only
  refine p2_eq rfl rfl (fun q => ?_) (fun q => b22)
  exact p2_ck rfl rfl (p2_ret ⟨rfl, rfl, rfl, Or.inl rfl⟩)
theorem t2_isPiece_l34 {r n : Nat} {σ τ : RS9} (hr : rLen r = 600) (hn : n ≤ 600) (hrd : ∀ i, i < n → τ.2 r i = σ.2 r i) : ∀ (d : Nat) (v3 : Int32), (0 ≤ v3.toInt ∧ v3.toInt ≤ 700) → 1000 - v3.toInt < (d : Int) → P2 (mX9_isPiece_l34 d r (nI n) v3 σ) (mX9_isPiece_l34 d r (nI n) v3 τ) (fun v σ' v' τ' => σ' = σ ∧ τ' = τ ∧ v' = v ∧ True) := by
  have en : (nI n).toInt = (n : Int) := nI_toInt (by omega)
  intro d
  induction d with
  | zero => intro v3 _ hm; exfalso; omega
  | succ d ih =>
    intro v3 h3 hm
    unfold mX9_isPiece_l34
    refine p2_le en rfl rfl rfl (fun q => ?_) (fun q => ?_)
    · exact p2_ck rfl rfl (p2_ret ⟨rfl, rfl, rfl, trivial⟩)
    · refine p2_ck (by rw [hr]; exact in_of (by omega) (by omega)) (by rw [hr]; exact in_of (by omega) (by omega)) ?_
      refine p2_ro (t2_isLetter (hrd _ (by rw [tn]; omega))) (fun y _ => ?_)
      dsimp only
      refine p2_eq rfl rfl (fun q1 => ?_) (fun q1 => ?_)
      · have e3 : (v3 + (1 : Int32)).toInt = v3.toInt + 1 := i_add rfl kt_1 (by omega)
        exact ih (v3 + (1 : Int32)) (by omega) (by omega)
      · exact p2_ck rfl rfl (p2_ret ⟨rfl, rfl, rfl, trivial⟩)
theorem t2_isPiece {R C r n p : Nat} {L : Int} {σ τ : RS9} (hA : AB R C σ τ) (hP : PR p L σ τ) (hr : rLen r = 600) (hn : n ≤ 600) (hrd : ∀ i, i < n → τ.2 r i = σ.2 r i) : P2 (mX9_isPiece r (nI n) σ) (mX9_isPiece r (nI n) τ) (fun v σ' v' τ' => σ' = σ ∧ τ' = τ ∧ v' = v ∧ (v ≠ 0 → 1 ≤ n ∧ p < 40)) := by
  have en : (nI n).toInt = (n : Int) := nI_toInt (by omega)
  have hv := hA.2.2.2.2.2.2
  have b19 : P2 (mX9_isPiece_b19 σ) (mX9_isPiece_b19 τ) (fun v σ' v' τ' => σ' = σ ∧ τ' = τ ∧ v' = v ∧ (v ≠ 0 → 1 ≤ n ∧ p < 40)) := p2_ck rfl rfl (p2_ret ⟨rfl, rfl, rfl, fun e => absurd rfl e⟩)
  unfold mX9_isPiece
  refine p2_ck rfl rfl ?_
  have h4 : (rGa σ 1 (4 : Int32)) = σ.2 1 4 := rfl
  refine p2_lt en (congrArg Int32.toInt h4) rfl (ab_m hA (by decide)) (fun q => b19) (fun q => ?_)
  have hn1 : 1 ≤ n := by have := hv.2.1; omega
  refine p2_eq (by rw [hP.1, hP.2.1]) rfl (fun q1 => b19) (fun q1 => ?_)
  have hp4 : p < 40 := by
    have h1 := hP.2.2.1
    by_cases e : p = 40
    · exfalso; apply q1; rw [hP.1, e]; decide
    · omega
  refine p2_ck rfl rfl ?_
  refine p2_eq (ab_m hA (by decide)) rfl (fun q2 => ?_) (fun q2 => ?_)
  · exact p2_ck rfl rfl (p2_ret ⟨rfl, rfl, rfl, fun _ => ⟨hn1, hp4⟩⟩)
  · exact p2_tail (t2_isPiece_l34 hr hn hrd rFU 0 (by decide) (by unfold rFU; rw [kt_0]; omega)) (fun v s v' t q3 => ⟨q3.1, q3.2.1, q3.2.2.1, fun _ => ⟨hn1, hp4⟩⟩)
end
/-! part 40f.take -/
section
def FT1 (σ σ' : RS9) : Prop := (∀ k, k ≠ 43 → k ≠ 44 → σ'.2 k = σ.2 k) ∧ ∀ k, k ≠ 33 → k ≠ 45 → σ'.1 k = σ.1 k
set_option maxHeartbeats 1000000 in
theorem t2_takes_l137 {t bg : Nat} (ht : rLen t = 600) (hb : rLen bg = 600) : ∀ (d n k bm : Nat) (σ τ : RS9), σ.1 45 = nI bm → τ.1 45 = nI bm → k ≤ n → n ≤ 600 → bm + (n - k) ≤ 600 → 1000 < k + d → P2 (mX9_takes_l137 d t bg (nI n) (nI k) σ) (mX9_takes_l137 d t bg (nI n) (nI k) τ) (fun v σ' v' τ' => FT1 σ σ' ∧ FT1 τ τ' ∧ σ'.1 45 = nI (bm + (n - k)) ∧ τ'.1 45 = nI (bm + (n - k)) ∧ σ'.1 33 = σ.1 33 + 1 ∧ τ'.1 33 = τ.1 33 + 1) := by
  intro d
  induction d with
  | zero => intro n k bm σ τ _ _ _ _ _ hm; exfalso; omega
  | succ d ih =>
    intro n k bm σ τ h1 h2 hkn hn hbm hm
    have en : (nI n).toInt = (n : Int) := nI_toInt (by omega)
    have ek : (nI k).toInt = (k : Int) := nI_toInt (by omega)
    unfold mX9_takes_l137
    refine p2_le en ek rfl rfl (fun q => ?_) (fun q => ?_)
    · have e : n - k = 0 := by omega
      rw [e]
      exact p2_ret ⟨⟨fun _ _ _ => rfl, fun _ e1 _ => sf_ne e1⟩, ⟨fun _ _ _ => rfl, fun _ e1 _ => sf_ne e1⟩, (sf_ne (by decide)).trans h1, (sf_ne (by decide)).trans h2, sf_eq, sf_eq⟩
    · have c1 : rIn (nI k) 600 = true := inb_nI (by omega) (by decide)
      have c2 : rIn (nI bm) 600 = true := inb_nI (by omega) (by decide)
      rw [h1, h2]
      refine p2_ck (by rw [ht]; exact c1) (by rw [ht]; exact c1) ?_
      refine p2_ck c2 c2 ?_
      refine p2_ck (by rw [hb]; exact c1) (by rw [hb]; exact c1) ?_
      refine p2_ck c2 c2 ?_
      rw [nI_1, nI_1]
      refine p2_tail (ih n (k + 1) (bm + 1) _ _ sf_eq sf_eq (by omega) hn (by omega) (by omega)) (fun v s v' t2 hq => ?_)
      obtain ⟨⟨a1, a2⟩, ⟨b1, b2⟩, a3, b3, a4, b4⟩ := hq
      have e : bm + 1 + (n - (k + 1)) = bm + (n - k) := by omega
      rw [e] at a3 b3
      refine ⟨⟨fun z e1 e2 => ?_, fun z e1 e2 => ?_⟩, ⟨fun z e1 e2 => ?_, fun z e1 e2 => ?_⟩, a3, b3, ?_, ?_⟩
      · exact (a1 z e1 e2).trans ((sa_ne e2).trans (sa_ne e1))
      · exact (a2 z e1 e2).trans (sf_ne e2)
      · exact (b1 z e1 e2).trans ((sa_ne e2).trans (sa_ne e1))
      · exact (b2 z e1 e2).trans (sf_ne e2)
      · rw [a4, sf_ne (by decide)]; rfl
      · rw [b4, sf_ne (by decide)]; rfl
def w9 (s : RS9) (p : Nat) (x34 x35 x36 x37 x38 x39 x40 x41 x42 : Int32) : RS9 := rSa (rSa (rSa (rSa (rSa (rSa (rSa (rSa (rSa s 34 (nI p) x34) 35 (nI p) x35) 36 (nI p) x36) 37 (nI p) x37) 38 (nI p) x38) 39 (nI p) x39) 40 (nI p) x40) 41 (nI p) x41) 42 (nI p) x42
section W9
variable {s : RS9} {p i : Nat} {x34 x35 x36 x37 x38 x39 x40 x41 x42 : Int32} (hp : p < 40)
theorem w9_k {k : Nat} (h : k < 34 ∨ 42 < k) : (w9 s p x34 x35 x36 x37 x38 x39 x40 x41 x42).2 k = s.2 k := by
  unfold w9
  rw [sa_ne (by omega), sa_ne (by omega), sa_ne (by omega), sa_ne (by omega), sa_ne (by omega), sa_ne (by omega), sa_ne (by omega), sa_ne (by omega), sa_ne (by omega)]
theorem w9_34 (hp : p < 40) : (w9 s p x34 x35 x36 x37 x38 x39 x40 x41 x42).2 34 i = if i = p then x34 else s.2 34 i := by
  unfold w9
  rw [sa_ne (by decide), sa_ne (by decide), sa_ne (by decide), sa_ne (by decide), sa_ne (by decide), sa_ne (by decide), sa_ne (by decide), sa_ne (by decide), sa_nI (by omega)]
theorem w9_35 (hp : p < 40) : (w9 s p x34 x35 x36 x37 x38 x39 x40 x41 x42).2 35 i = if i = p then x35 else s.2 35 i := by
  unfold w9
  rw [sa_ne (by decide), sa_ne (by decide), sa_ne (by decide), sa_ne (by decide), sa_ne (by decide), sa_ne (by decide), sa_ne (by decide), sa_nI (by omega), sa_ne (by decide)]
theorem w9_36 (hp : p < 40) : (w9 s p x34 x35 x36 x37 x38 x39 x40 x41 x42).2 36 i = if i = p then x36 else s.2 36 i := by
  unfold w9
  rw [sa_ne (by decide), sa_ne (by decide), sa_ne (by decide), sa_ne (by decide), sa_ne (by decide), sa_ne (by decide), sa_nI (by omega), sa_ne (by decide), sa_ne (by decide)]
theorem w9_37 (hp : p < 40) : (w9 s p x34 x35 x36 x37 x38 x39 x40 x41 x42).2 37 i = if i = p then x37 else s.2 37 i := by
  unfold w9
  rw [sa_ne (by decide), sa_ne (by decide), sa_ne (by decide), sa_ne (by decide), sa_ne (by decide), sa_nI (by omega), sa_ne (by decide), sa_ne (by decide), sa_ne (by decide)]
theorem w9_38 (hp : p < 40) : (w9 s p x34 x35 x36 x37 x38 x39 x40 x41 x42).2 38 i = if i = p then x38 else s.2 38 i := by
  unfold w9
  rw [sa_ne (by decide), sa_ne (by decide), sa_ne (by decide), sa_ne (by decide), sa_nI (by omega), sa_ne (by decide), sa_ne (by decide), sa_ne (by decide), sa_ne (by decide)]
theorem w9_41 (hp : p < 40) : (w9 s p x34 x35 x36 x37 x38 x39 x40 x41 x42).2 41 i = if i = p then x41 else s.2 41 i := by
  unfold w9
  rw [sa_ne (by decide), sa_nI (by omega), sa_ne (by decide), sa_ne (by decide), sa_ne (by decide), sa_ne (by decide), sa_ne (by decide), sa_ne (by decide), sa_ne (by decide)]
theorem w9_42 (hp : p < 40) : (w9 s p x34 x35 x36 x37 x38 x39 x40 x41 x42).2 42 i = if i = p then x42 else s.2 42 i := by
  unfold w9
  rw [sa_nI (by omega), sa_ne (by decide), sa_ne (by decide), sa_ne (by decide), sa_ne (by decide), sa_ne (by decide), sa_ne (by decide), sa_ne (by decide), sa_ne (by decide)]
end W9
def FT2 (σ σ' : RS9) : Prop := (∀ k, k < 34 ∨ 44 < k → σ'.2 k = σ.2 k) ∧ ∀ k, k ≠ 33 → k ≠ 45 → σ'.1 k = σ.1 k
set_option maxHeartbeats 1000000 in
theorem pr_take {p n bm : Nat} {L hi : Int} {σ τ σ' τ' : RS9} {x34 x35 x36 x37 x38 x39 x40 y39 y40 : Int32} (hP : PR p L σ τ) (hp : p < 40) (h34 : L ≤ x34.toInt) (h35 : x34.toInt + n ≤ x35.toInt) (h35' : x35.toInt ≤ hi) (hn : 1 ≤ n ∧ n ≤ 600) (hh : hi ≤ 600) (hF : FT1 (w9 σ p x34 x35 x36 x37 x38 x39 x40 (nI bm) (nI n)) σ') (hF' : FT1 (w9 τ p x34 x35 x36 x37 x38 y39 y40 (nI bm) (nI n)) τ') (hb6 : bm ≤ 600) (hbm : σ.1 45 = nI bm) (h45 : σ'.1 45 = nI (bm + n)) (h45' : τ'.1 45 = nI (bm + n)) (h33 : σ'.1 33 = σ.1 33 + 1) (h33' : τ'.1 33 = τ.1 33 + 1) : PR (p + 1) hi σ' τ' ∧ FT2 σ σ' ∧ FT2 τ τ' := by
  obtain ⟨a1, a2, a3, a4, a5, a6, a7, a8⟩ := hP
  have eb : (nI bm).toInt = (bm : Int) := nI_toInt (by omega)
  have en : (nI n).toInt = (n : Int) := nI_toInt (by omega)
  have ebn : (nI (bm + n)).toInt = ((bm + n : Nat) : Int) := nI_toInt (by omega)
  rw [hbm, eb] at a5 a6
  have r : ∀ k, k ≠ 43 → k ≠ 44 → σ'.2 k = (w9 σ p x34 x35 x36 x37 x38 x39 x40 (nI bm) (nI n)).2 k := hF.1
  have r' : ∀ k, k ≠ 43 → k ≠ 44 → τ'.2 k = (w9 τ p x34 x35 x36 x37 x38 y39 y40 (nI bm) (nI n)).2 k := hF'.1
  refine ⟨⟨?_, ?_, by omega, ?_, ?_, ?_, hh, fun i hi2 => ?_⟩, ⟨fun k hk => ?_, fun k e1 e2 => ?_⟩, ⟨fun k hk => ?_, fun k e1 e2 => ?_⟩⟩
  · rw [h33, a1, nI_1]
  · rw [h33', a2, nI_1]
  · rw [h45, h45']
  · rw [h45, ebn]; omega
  · rw [h45, ebn]; omega
  · have q34 : ∀ j, σ'.2 34 j = if j = p then x34 else σ.2 34 j := fun j => by rw [r 34 (by decide) (by decide), w9_34 hp]
    have q35 : ∀ j, σ'.2 35 j = if j = p then x35 else σ.2 35 j := fun j => by rw [r 35 (by decide) (by decide), w9_35 hp]
    have q41 : ∀ j, σ'.2 41 j = if j = p then nI bm else σ.2 41 j := fun j => by rw [r 41 (by decide) (by decide), w9_41 hp]
    have q42 : ∀ j, σ'.2 42 j = if j = p then nI n else σ.2 42 j := fun j => by rw [r 42 (by decide) (by decide), w9_42 hp]
    have q36 : ∀ j, σ'.2 36 j = if j = p then x36 else σ.2 36 j := fun j => by rw [r 36 (by decide) (by decide), w9_36 hp]
    have q37 : ∀ j, σ'.2 37 j = if j = p then x37 else σ.2 37 j := fun j => by rw [r 37 (by decide) (by decide), w9_37 hp]
    have q38 : ∀ j, σ'.2 38 j = if j = p then x38 else σ.2 38 j := fun j => by rw [r 38 (by decide) (by decide), w9_38 hp]
    have t34 : ∀ j, τ'.2 34 j = if j = p then x34 else τ.2 34 j := fun j => by rw [r' 34 (by decide) (by decide), w9_34 hp]
    have t35 : ∀ j, τ'.2 35 j = if j = p then x35 else τ.2 35 j := fun j => by rw [r' 35 (by decide) (by decide), w9_35 hp]
    have t36 : ∀ j, τ'.2 36 j = if j = p then x36 else τ.2 36 j := fun j => by rw [r' 36 (by decide) (by decide), w9_36 hp]
    have t37 : ∀ j, τ'.2 37 j = if j = p then x37 else τ.2 37 j := fun j => by rw [r' 37 (by decide) (by decide), w9_37 hp]
    have t38 : ∀ j, τ'.2 38 j = if j = p then x38 else τ.2 38 j := fun j => by rw [r' 38 (by decide) (by decide), w9_38 hp]
    unfold PE
    rw [q34, q35, q41, q42, q36, q37, q38, t34, t35, t36, t37, t38, h45, ebn]
    by_cases hip : i = p
    · simp only [if_pos hip]
      refine ⟨⟨trivial, trivial, trivial, trivial, trivial⟩, by omega, by omega, h35', fun j hj => ?_, by omega, by omega, by omega⟩
      rw [q35, if_neg (by omega)]
      have := (a8 j (by omega)).2.2.2.1
      omega
    · simp only [if_neg hip]
      obtain ⟨b1, b2, b3, b4, b5, b6, b7, b8⟩ := a8 i (by omega)
      rw [hbm, eb] at b8
      refine ⟨b1, b2, b3, by omega, fun j hj => ?_, b6, b7, by omega⟩
      rw [q35, if_neg (by omega)]
      exact b5 j hj
  · rw [r k (by omega) (by omega), w9_k (by omega)]
  · exact hF.2 k e1 e2
  · rw [r' k (by omega) (by omega), w9_k (by omega)]
  · exact hF'.2 k e1 e2
theorem nI_back {x : Int32} (h0 : 0 ≤ x.toInt) (h1 : x.toInt ≤ 600) : ∃ b : Nat, b ≤ 600 ∧ x = nI b := ⟨x.toInt.toNat, by omega, Int32.toInt_inj.mp (by rw [nI_toInt (by omega)]; omega)⟩
theorem ou_len {o ob oe n : Nat} {lo h : Int} {σ τ : RS9} (hO : OU o ob oe n lo h σ τ) (hn : 0 < n) : (σ.2 ob 0).toInt + n ≤ (σ.2 oe (n - 1)).toInt := by
  have key : ∀ k, k < n → (σ.2 ob 0).toInt + k + 1 ≤ (σ.2 oe k).toInt := by
    intro k
    induction k with
    | zero => intro hk; have := (hO 0 hk).2.2.2.2.1; omega
    | succ k ih =>
      intro hk
      have h1 := ih (by omega)
      have h2 := (hO (k + 1) hk).2.2.2.2.2.2 k (by omega)
      have h3 := (hO (k + 1) hk).2.2.2.2.1
      omega
  have := key (n - 1) (by omega)
  omega
set_option maxHeartbeats 1000000 in
theorem t2_takes {R C c t bg fn n p : Nat} {lo hi L : Int} {v6 v7 : Int32} {σ τ : RS9} (hA : AB R C σ τ) (hP : PR p L σ τ) (hc : c < C) (ht : rLen t = 600 ∧ rLen bg = 600 ∧ rLen fn = 600 ∧ t < 34 ∧ bg < 34 ∧ fn < 34) (hn : n ≤ 600) (hO : OU t bg fn n lo hi σ τ) (hL : L ≤ lo) (hlh : lo ≤ hi) (hh : hi ≤ 600) : P2 (mX9_takes (nI c) t bg fn (nI n) v6 v7 σ) (mX9_takes (nI c) t bg fn (nI n) v6 v7 τ) (fun v σ' v' τ' => ∃ p', PR p' hi σ' τ' ∧ FT2 σ σ' ∧ FT2 τ τ') := by
  have b18 : P2 (mX9_takes_b18 σ) (mX9_takes_b18 τ) (fun v σ' v' τ' => ∃ p', PR p' hi σ' τ' ∧ FT2 σ σ' ∧ FT2 τ τ') := p2_ret ⟨p, pr_mono hP (by omega) hh, ⟨fun _ _ => rfl, fun _ _ _ => rfl⟩, ⟨fun _ _ => rfl, fun _ _ _ => rfl⟩⟩
  have hCE := hA.2.2.2.2.1 c hc
  have hR6 := hA.2.1
  unfold mX9_takes
  refine p2_ro (t2_isLocked hA hc) (fun y _ => ?_)
  dsimp only
  refine p2_eq rfl rfl (fun q => ?_) (fun q => b18)
  refine p2_ro (t2_isPiece hA hP ht.1 hn (fun i hi => (hO i hi).1)) (fun y2 hy2 => ?_)
  dsimp only
  refine p2_eq rfl rfl (fun q2 => b18) (fun q2 => ?_)
  obtain ⟨hn1, hp⟩ := hy2 q2
  obtain ⟨bm, hb6, hbm⟩ := nI_back hP.2.2.2.2.1 (by have := hP.2.2.2.2.2.1; have := hP.2.2.2.2.2.2.1; omega)
  have hbm' : τ.1 45 = nI bm := hP.2.2.2.1.trans hbm
  rw [hP.1, hP.2.1]
  have cp : ∀ z, rLen z = 40 → rIn (nI p) (rLen z) = true := fun z hz => by rw [hz]; exact inb_nI hp (by decide)
  have en1 : nI n - (1 : Int32) = nI (n - 1) := by
    have e : n = (n - 1) + 1 := by omega
    rw [e, nI_pred]; rfl
  have e0 : ∀ u : RS9, rGa u bg (0 : Int32) = u.2 bg 0 := fun u => rfl
  have ef : ∀ (u : RS9) (x : Int32), rGa (rSa u 34 (nI p) x) fn (nI (n - 1)) = u.2 fn (n - 1) := fun u x => by
    unfold rGa; rw [sa_ne (by omega), nI_clamp (by omega)]
  have e19 : ∀ u : RS9, rGa u 19 (nI c) = u.2 19 c := fun u => rd_nI (by omega)
  rw [en1, e0, e0, ef, ef, e19, e19]
  obtain ⟨o1, o2, o3, o4, o5, o6, o7⟩ := hO 0 (by omega)
  obtain ⟨f1, f2, f3, f4, f5, f6, f7⟩ := hO (n - 1) (by omega)
  have hlen := ou_len hO (by omega)
  rw [o2, f3, hCE.2.2.1]
  refine p2_ck (by rw [ht.2.1]; decide) (by rw [ht.2.1]; decide) ?_
  refine p2_ck (cp 34 rfl) (cp 34 rfl) ?_
  refine p2_ck (by rw [ht.2.2.1]; exact inb_nI (by omega) (by decide)) (by rw [ht.2.2.1]; exact inb_nI (by omega) (by decide)) ?_
  refine p2_ck (cp 35 rfl) (cp 35 rfl) ?_
  refine p2_ck (inb_nI (n := 600) (by omega) (by decide)) (inb_nI (n := 600) (by omega) (by decide)) ?_
  refine p2_ck (cp 36 rfl) (cp 36 rfl) ?_
  refine p2_ck (cp 37 rfl) (cp 37 rfl) ?_
  have b87 : ∀ w : Int32, P2 (mX9_takes_b87 (nI c) t bg (nI n) (nI p) 38 (nI p) w (rSa (rSa (rSa (rSa σ 34 (nI p) (σ.2 bg 0)) 35 (nI p) (σ.2 fn (n - 1))) 36 (nI p) (σ.2 19 c)) 37 (nI p) v7)) (mX9_takes_b87 (nI c) t bg (nI n) (nI p) 38 (nI p) w (rSa (rSa (rSa (rSa τ 34 (nI p) (σ.2 bg 0)) 35 (nI p) (σ.2 fn (n - 1))) 36 (nI p) (σ.2 19 c)) 37 (nI p) v7)) (fun v σ' v' τ' => ∃ p', PR p' hi σ' τ' ∧ FT2 σ σ' ∧ FT2 τ τ') := fun w => by
    unfold mX9_takes_b87
    refine p2_ck (cp 38 rfl) (cp 38 rfl) ?_
    refine p2_ck (inb_nI (n := 600) (by omega) (by decide)) (inb_nI (n := 600) (by omega) (by decide)) ?_
    refine p2_ck (cp 39 rfl) (cp 39 rfl) ?_
    refine p2_ck (inb_nI (n := 600) (by omega) (by decide)) (inb_nI (n := 600) (by omega) (by decide)) ?_
    refine p2_ck (cp 40 rfl) (cp 40 rfl) ?_
    refine p2_ck (cp 41 rfl) (cp 41 rfl) ?_
    refine p2_ck (cp 42 rfl) (cp 42 rfl) ?_
    rw [show (rSa (rSa (rSa (rSa σ 34 (nI p) (σ.2 bg 0)) 35 (nI p) (σ.2 fn (n - 1))) 36 (nI p) (σ.2 19 c)) 37 (nI p) v7).1 45 = nI bm from hbm, show (rSa (rSa (rSa (rSa τ 34 (nI p) (σ.2 bg 0)) 35 (nI p) (σ.2 fn (n - 1))) 36 (nI p) (σ.2 19 c)) 37 (nI p) v7).1 45 = nI bm from hbm']
    refine p2_tail (t2_takes_l137 ht.1 ht.2.1 rFU n 0 bm _ _ hbm hbm' (by omega) hn (by have := hP.2.2.2.2.2.1; rw [hbm, nI_toInt (by omega)] at this; omega) (by unfold rFU; omega)) (fun v s v' t2 hq => ?_)
    obtain ⟨g1, g2, g3, g4, g5, g6⟩ := hq
    exact ⟨p + 1, pr_take hP hp (by omega) (by omega) (by omega) ⟨hn1, hn⟩ hh g1 g2 hb6 hbm g3 g4 g5 g6⟩
  refine p2_eq rfl rfl (fun q3 => b87 0) (fun q3 => b87 1)
end
/-! part 40g.all -/
section
/-! a row is cut whole -/
def FRA (σ0 σ : RS9) : Prop := (∀ k, k ≤ 13 ∨ 45 ≤ k → σ.2 k = σ0.2 k) ∧ ∀ k, k ≠ 22 → k ≠ 26 → k ≠ 33 → k ≠ 45 → k ≠ 54 → k ≠ 55 → σ.1 k = σ0.1 k
def FRn (σ σ' : RS9) : Prop := (∀ k, k ≤ 22 ∨ 33 ≤ k → σ'.2 k = σ.2 k) ∧ ∀ k, k ≠ 26 → k ≠ 54 → k ≠ 55 → σ'.1 k = σ.1 k
theorem frn_u {o ob oe : Nat} {σ σ' : RS9} (h : FRu o ob oe σ σ') (h1 : 23 ≤ o ∧ o ≤ 32) (h2 : 23 ≤ ob ∧ ob ≤ 32) (h3 : 23 ≤ oe ∧ oe ≤ 32) : FRn σ σ' := ⟨fun k hk => h.1 k (by omega) (by omega) (by omega), fun k _ _ e => h.2 k e⟩
theorem frn_c {σ σ' : RS9} (h : FRc 27 28 29 σ σ') : FRn σ σ' := ⟨fun k hk => h.1 k (by omega) (by omega) (by omega) (fun e => absurd e (by decide)), fun k _ e _ => h.2 k e⟩
theorem frn_26 {σ : RS9} {v : Int32} : FRn σ (rSf σ 26 v) := ⟨fun _ _ => rfl, fun _ e _ _ => sf_ne e⟩
theorem frn_tr {a b c : RS9} (h1 : FRn a b) (h2 : FRn b c) : FRn a c := ⟨fun k hk => (h2.1 k hk).trans (h1.1 k hk), fun k e1 e2 e3 => (h2.2 k e1 e2 e3).trans (h1.2 k e1 e2 e3)⟩
theorem ab_rows {R C : Nat} {σ τ σ' τ' : RS9} (h : AB R C σ τ) (a : ∀ k, k ≤ 22 → σ'.2 k = σ.2 k) (b : ∀ k, k ≤ 22 → τ'.2 k = τ.2 k) (a2 : σ'.1 22 = σ.1 22) (b2 : τ'.1 22 = τ.1 22) : AB R C σ' τ' := by
  unfold AB CE CK at h ⊢
  rw [a 1 (by decide), a 13 (by decide), a 14 (by decide), a 15 (by decide), a 17 (by decide), a 18 (by decide), a 19 (by decide), a 20 (by decide), a 21 (by decide), b 1 (by decide), b 13 (by decide), b 14 (by decide), b 15 (by decide), b 17 (by decide), b 18 (by decide), b 19 (by decide), b 20 (by decide), b 21 (by decide), a2, b2]
  exact h
theorem ab_n {R C : Nat} {σ τ σ' τ' : RS9} (h : AB R C σ τ) (a : FRn σ σ') (b : FRn τ τ') : AB R C σ' τ' := ab_rows h (fun k hk => a.1 k (by omega)) (fun k hk => b.1 k (by omega)) (a.2 22 (by decide) (by decide) (by decide)) (b.2 22 (by decide) (by decide) (by decide))
theorem ab_t {R C : Nat} {σ τ σ' τ' : RS9} (h : AB R C σ τ) (a : FT2 σ σ') (b : FT2 τ τ') : AB R C σ' τ' := ab_rows h (fun k hk => a.1 k (by omega)) (fun k hk => b.1 k (by omega)) (a.2 22 (by decide) (by decide)) (b.2 22 (by decide) (by decide))
theorem pr_rows {p : Nat} {L : Int} {σ τ σ' τ' : RS9} (h : PR p L σ τ) (a : ∀ k, 34 ≤ k → k ≤ 42 → σ'.2 k = σ.2 k) (b : ∀ k, 34 ≤ k → k ≤ 42 → τ'.2 k = τ.2 k) (a3 : σ'.1 33 = σ.1 33) (b3 : τ'.1 33 = τ.1 33) (a4 : σ'.1 45 = σ.1 45) (b4 : τ'.1 45 = τ.1 45) : PR p L σ' τ' := by
  unfold PR PE at h ⊢
  rw [a 34 (by decide) (by decide), a 35 (by decide) (by decide), a 36 (by decide) (by decide), a 37 (by decide) (by decide), a 38 (by decide) (by decide), a 41 (by decide) (by decide), a 42 (by decide) (by decide), b 34 (by decide) (by decide), b 35 (by decide) (by decide), b 36 (by decide) (by decide), b 37 (by decide) (by decide), b 38 (by decide) (by decide), a3, b3, a4, b4]
  exact h
theorem pr_n {p : Nat} {L : Int} {σ τ σ' τ' : RS9} (h : PR p L σ τ) (a : FRn σ σ') (b : FRn τ τ') : PR p L σ' τ' := pr_rows h (fun k hk _ => a.1 k (by omega)) (fun k hk _ => b.1 k (by omega)) (a.2 33 (by decide) (by decide) (by decide)) (b.2 33 (by decide) (by decide) (by decide)) (a.2 45 (by decide) (by decide) (by decide)) (b.2 45 (by decide) (by decide) (by decide))
theorem fra_n {σ0 σ σ' : RS9} (h : FRA σ0 σ) (a : FRn σ σ') : FRA σ0 σ' := ⟨fun k hk => (a.1 k (by omega)).trans (h.1 k hk), fun k e1 e2 e3 e4 e5 e6 => (a.2 k e2 e5 e6).trans (h.2 k e1 e2 e3 e4 e5 e6)⟩
theorem fra_t {σ0 σ σ' : RS9} (h : FRA σ0 σ) (a : FT2 σ σ') : FRA σ0 σ' := ⟨fun k hk => (a.1 k (by omega)).trans (h.1 k hk), fun k e1 e2 e3 e4 e5 e6 => (a.2 k e3 e4).trans (h.2 k e1 e2 e3 e4 e5 e6)⟩
theorem ou_fr {o ob oe n : Nat} {lo h : Int} {σ τ σ' τ' : RS9} (hO : OU o ob oe n lo h σ τ) (a1 : σ'.2 o = σ.2 o) (a2 : σ'.2 ob = σ.2 ob) (a3 : σ'.2 oe = σ.2 oe) (b1 : τ'.2 o = τ.2 o) (b2 : τ'.2 ob = τ.2 ob) (b3 : τ'.2 oe = τ.2 oe) : OU o ob oe n lo h σ' τ' := by
  unfold OU at hO ⊢
  rw [a1, a2, a3, b1, b2, b3]; exact hO
theorem ou_src {o ob oe n : Nat} {lo h : Int} {σ τ : RS9} (hO : OU o ob oe n lo h σ τ) (hlo : 0 ≤ lo) : SRC o ob oe n σ τ := ⟨fun i hi => by
  obtain ⟨a1, a2, a3, a4, a5, -⟩ := hO i hi
  exact ⟨a1, a2, a3, by omega, a5⟩, fun i j hij hj => (hO j hj).2.2.2.2.2.2 i hij⟩
theorem ce_fr {N : Int} {of ti wh i : Nat} {a : Int} {σ τ σ' τ' : RS9} (h : CE N of ti wh a σ τ i) (a1 : σ'.2 of = σ.2 of) (a2 : σ'.2 ti = σ.2 ti) (a3 : σ'.2 wh = σ.2 wh) (b1 : τ'.2 of = τ.2 of) (b2 : τ'.2 ti = τ.2 ti) (b3 : τ'.2 wh = τ.2 wh) : CE N of ti wh a σ' τ' i := by
  unfold CE at h ⊢
  rw [a1, a2, a3, b1, b2, b3]; exact h
/-- a cut by its places -/
theorem ce_ab {N of ti wh i : Nat} {a : Int} {σ τ : RS9} (h : CE N of ti wh a σ τ i) (hN : N ≤ 600) : ∃ x y : Nat, σ.2 of i = nI x ∧ τ.2 of i = nI x ∧ σ.2 ti i = nI y ∧ τ.2 ti i = nI y ∧ x < y ∧ y ≤ N := by
  obtain ⟨h1, h2, h3, h4, h5, h6, h7, h8⟩ := h
  obtain ⟨x, hx, ex⟩ := nI_back (x := σ.2 of i) (by omega) (by omega)
  obtain ⟨y, hy, ey⟩ := nI_back (x := σ.2 ti i) (by omega) (by omega)
  have tx : (nI x).toInt = (x : Int) := nI_toInt (by omega)
  have ty : (nI y).toInt = (y : Int) := nI_toInt (by omega)
  rw [ex, tx] at h5
  rw [ey, ty] at h5 h6
  exact ⟨x, y, ex, h1.trans ex, ey, h2.trans ey, by omega, by omega⟩
set_option maxHeartbeats 2000000 in
theorem t2_cutsAll_l220 {R C c T ic : Nat} {lo hi B : Int} {σ0 τ0 : RS9} {Q : Int32 → RS9 → Int32 → RS9 → Prop} {rec78 : Int32 → RS9 → Option (Int32 × RS9)} (hc : c < C) (hT : T ≤ 600 ∧ ic ≤ 600) (hlo : 0 ≤ lo) (hhi : hi ≤ 600) (Hr : ∀ (σ τ : RS9) (p : Nat) (L : Int), AB R C σ τ → PR p L σ τ → FRA σ0 σ → FRA τ0 τ → L ≤ hi → (σ.2 18 c).toInt = B → P2 (rec78 (nI (c + 1)) σ) (rec78 (nI (c + 1)) τ) Q) : ∀ (d i p : Nat) (L : Int) (σ τ : RS9), AB R C σ τ → PR p L σ τ → FRA σ0 σ → FRA τ0 τ → OU 23 24 25 T lo hi σ τ → (∀ j, j < ic → CE T 27 28 29 602 σ τ j) → L ≤ hi → (σ.2 18 c).toInt = B → (i < ic → L ≤ (σ.2 24 (σ.2 27 i).toInt.toNat).toInt) → i ≤ ic → 1000 < i + d → P2 (mX9_cutsAll_l220 rec78 d (nI c) (nI ic) (nI i) σ) (mX9_cutsAll_l220 rec78 d (nI c) (nI ic) (nI i) τ) Q := by
  intro d
  induction d with
  | zero => intro i p L σ τ _ _ _ _ _ _ _ _ _ _ hm; exfalso; omega
  | succ d ih =>
    intro i p L σ τ hA hP hF hF' hO hE hLh hB hLi hic hm
    have ei : (nI i).toInt = (i : Int) := nI_toInt (by omega)
    have eic : (nI ic).toInt = (ic : Int) := nI_toInt (by omega)
    unfold mX9_cutsAll_l220
    refine p2_le eic ei rfl rfl (fun q => ?_) (fun q => ?_)
    · unfold mX9_cutsAll_b333
      rw [nI_1]
      exact Hr σ τ p L hA hP hF hF' hLh hB
    · have hEi := hE i (by omega)
      obtain ⟨a, b, ea, ea', eb, eb', hab, hbT⟩ := ce_ab hEi hT.1
      have h27 : (σ.2 27 i).toInt.toNat = a := by rw [ea, nI_toInt (by omega)]; rfl
      have ci : ∀ z, rLen z = 600 → rIn (nI i) (rLen z) = true := fun z hz => by rw [hz]; exact inb_nI (by omega) (by decide)
      refine p2_ck rfl rfl ?_
      refine p2_ck (ci 29 rfl) (ci 29 rfl) ?_
      have r29 : rGa τ 29 (nI i) = rGa σ 29 (nI i) := by rw [rd_nI (by omega), rd_nI (by omega)]; exact hEi.2.2.1
      rw [ab_m hA (x := (2 : Int32)) (by decide)]
      have step : ∀ (w : Int32), P2 (mX9_cutsAll_b247 rec78 (fun v1 v2 v3 σ => mX9_cutsAll_l220 rec78 d v1 v2 v3 σ) (nI c) (nI ic) (nI i) (rGa σ 1 (2 : Int32)) w σ) (mX9_cutsAll_b247 rec78 (fun v1 v2 v3 σ => mX9_cutsAll_l220 rec78 d v1 v2 v3 σ) (nI c) (nI ic) (nI i) (rGa σ 1 (2 : Int32)) w τ) Q := fun w => by
        unfold mX9_cutsAll_b247
        refine p2_ck (ci 27 rfl) (ci 27 rfl) ?_
        refine p2_ck (ci 28 rfl) (ci 28 rfl) ?_
        rw [show rGa σ 27 (nI i) = nI a from (rd_nI (by omega)).trans ea, show rGa τ 27 (nI i) = nI a from (rd_nI (by omega)).trans ea', show rGa σ 28 (nI i) = nI b from (rd_nI (by omega)).trans eb, show rGa τ 28 (nI i) = nI b from (rd_nI (by omega)).trans eb']
        refine p2_call (t2_undoes (N := T) (by unfold RU; decide) ⟨hab, hbT, hT.1⟩ (ou_src hO hlo)) (fun v s v' t hq => ?_)
        obtain ⟨n', rfl, rfl, hn0, hn6, hlen, hO2, hU, hU'⟩ := hq
        dsimp only
        have hN := frn_u hU (by decide) (by decide) (by decide)
        have hN' := frn_u hU' (by decide) (by decide) (by decide)
        have hA2 := ab_n hA hN hN'
        have hP2 := pr_n hP hN hN'
        have k : ∀ z, 23 ≤ z → z ≤ 29 → s.2 z = σ.2 z := fun z h1 h2 => hU.1 z (by omega) (by omega) (by omega)
        have k' : ∀ z, 23 ≤ z → z ≤ 29 → t.2 z = τ.2 z := fun z h1 h2 => hU'.1 z (by omega) (by omega) (by omega)
        have hOa := hO a (by omega)
        have hOb := hO (b - 1) (by omega)
        refine p2_ck (ci 27 rfl) (ci 27 rfl) ?_
        have r27 : rGa t 27 (nI i) = rGa s 27 (nI i) := by rw [rd_nI (by omega), rd_nI (by omega), k 27 (by decide) (by decide), k' 27 (by decide) (by decide)]; exact hEi.1
        have s29 : rGa t 29 (nI i) = rGa s 29 (nI i) := by rw [rd_nI (by omega), rd_nI (by omega), k 29 (by decide) (by decide), k' 29 (by decide) (by decide)]; exact hEi.2.2.1
        have b318 : ∀ w6 : Int32, P2 (mX9_cutsAll_b318 rec78 (fun v1 v2 v3 σ => mX9_cutsAll_l220 rec78 d v1 v2 v3 σ) (nI c) (nI ic) (nI i) (nI c) 30 31 32 (nI n') w6 s) (mX9_cutsAll_b318 rec78 (fun v1 v2 v3 σ => mX9_cutsAll_l220 rec78 d v1 v2 v3 σ) (nI c) (nI ic) (nI i) (nI c) 30 31 32 (nI n') w6 t) Q := fun w6 => by
          unfold mX9_cutsAll_b318
          refine p2_ck (ci 29 rfl) (ci 29 rfl) ?_
          rw [s29]
          have hLa : L ≤ (σ.2 24 a).toInt := by rw [← h27]; exact hLi (by omega)
          refine p2_call (t2_takes hA2 hP2 hc (by decide) hn6 hO2 hLa (by omega) (by omega)) (fun v s2 v' t2 hq => ?_)
          obtain ⟨p', hP3, hT2, hT2'⟩ := hq
          dsimp only
          rw [nI_1]
          have m : ∀ z, 23 ≤ z → z ≤ 29 → s2.2 z = σ.2 z := fun z h1 h2 => (hT2.1 z (by omega)).trans (k z h1 h2)
          have m' : ∀ z, 23 ≤ z → z ≤ 29 → t2.2 z = τ.2 z := fun z h1 h2 => (hT2'.1 z (by omega)).trans (k' z h1 h2)
          refine ih (i + 1) p' _ s2 t2 (ab_t hA2 hT2 hT2') hP3 (fra_t (fra_n hF hN) hT2) (fra_t (fra_n hF' hN') hT2') (ou_fr hO (m 23 (by decide) (by decide)) (m 24 (by decide) (by decide)) (m 25 (by decide) (by decide)) (m' 23 (by decide) (by decide)) (m' 24 (by decide) (by decide)) (m' 25 (by decide) (by decide))) (fun j hj => ce_fr (hE j hj) (m 27 (by decide) (by decide)) (m 28 (by decide) (by decide)) (m 29 (by decide) (by decide)) (m' 27 (by decide) (by decide)) (m' 28 (by decide) (by decide)) (m' 29 (by decide) (by decide))) (by omega) (by rw [hT2.1 18 (by decide), hU.1 18 (by decide) (by decide) (by decide)]; exact hB) (fun hi1 => ?_) (by omega) (by omega)
          rw [m 24 (by decide) (by decide), m 27 (by decide) (by decide)]
          obtain ⟨a1, b1, ea1, ea1', eb1, eb1', hab1, hbT1⟩ := ce_ab (hE (i + 1) hi1) hT.1
          have hs := (hE (i + 1) hi1).2.2.2.2.2.2.1 i (by omega)
          have t1 : (nI a1).toInt = (a1 : Int) := nI_toInt (by omega)
          have t3 : (nI b).toInt = (b : Int) := nI_toInt (by omega)
          rw [eb, ea1, t1, t3] at hs
          rw [ea1, t1]
          exact (hO a1 (by omega)).2.2.2.2.2.2 (b - 1) (by omega)
        exact p2_eq r27 rfl (fun q1 => b318 1) (fun q1 => b318 0)
      exact p2_eq r29 rfl (fun q1 => step 1) (fun q1 => step 0)
end
/-! part 40h.all -/
section
theorem ab_src {R C : Nat} {σ τ : RS9} (hA : AB R C σ τ) : SRC 13 14 15 R σ τ := by
  have h := hA.2.2.2.1
  have hR := hA.2.1
  refine ⟨fun i hi => ?_, fun i j hij hj => ?_⟩
  · obtain ⟨a1, a2, a3, a4, a5⟩ := h i hi
    rw [a2, a3, a4, a5, nI_toInt (by omega), nI_toInt (by omega)]
    exact ⟨a1, rfl, rfl, by omega, by omega⟩
  · rw [(h i (by omega)).2.2.2.1, (h j hj).2.1, nI_toInt (by omega), nI_toInt (by omega)]
    omega
set_option maxHeartbeats 2000000 in
theorem t2_cutsAll_l78 {R C : Nat} {σ0 τ0 : RS9} : ∀ (d c p : Nat) (L : Int) (σ τ : RS9), AB R C σ τ → PR p L σ τ → FRA σ0 σ → FRA τ0 τ → L ≤ R → (c < C → L ≤ (σ.2 17 c).toInt) → c ≤ C → 1000 < c + d → P2 (mX9_cutsAll_l78 d (nI c) σ) (mX9_cutsAll_l78 d (nI c) τ) (fun v σ' v' τ' => ∃ p, PR p R σ' τ' ∧ FRA σ0 σ' ∧ FRA τ0 τ') := by
  intro d
  induction d with
  | zero => intro c p L σ τ hA _ _ _ _ _ hc hm; have := hA.2.1; exfalso; omega
  | succ d ih =>
    intro c p L σ τ hA hP hF hF' hLR hLc hcC hm
    have hRC := hA.2.1
    have ec : (nI c).toInt = (c : Int) := nI_toInt (by omega)
    have eC : (nI C).toInt = (C : Int) := nI_toInt (by omega)
    unfold mX9_cutsAll_l78
    rw [hA.2.2.1.1, hA.2.2.1.2]
    refine p2_le eC ec rfl rfl (fun q => ?_) (fun q => ?_)
    · exact p2_ret ⟨p, pr_mono hP hLR (by omega), hF, hF'⟩
    · have hE := hA.2.2.2.2.1 c (by omega)
      obtain ⟨a, b, ea, ea', eb, eb', hab, hbR⟩ := ce_ab hE hRC.1
      have cc : ∀ z, rLen z = 600 → rIn (nI c) (rLen z) = true := fun z hz => by rw [hz]; exact inb_nI (by omega) (by decide)
      refine p2_ck rfl rfl ?_
      refine p2_ck (cc 19 rfl) (cc 19 rfl) ?_
      have r19 : rGa τ 19 (nI c) = rGa σ 19 (nI c) := by rw [rd_nI (by omega), rd_nI (by omega)]; exact hE.2.2.1
      rw [ab_m hA (x := (1 : Int32)) (by decide)]
      have hLa : L ≤ (a : Int) := by
        have := hLc (by omega)
        rw [ea, nI_toInt (by omega)] at this; exact this
      have rec1 : ∀ (s t : RS9) (p2 : Nat) (L2 : Int), AB R C s t → PR p2 L2 s t → FRA σ0 s → FRA τ0 t → L2 ≤ (b : Int) → (s.2 18 c).toInt = (b : Int) → P2 (mX9_cutsAll_l78 d (nI (c + 1)) s) (mX9_cutsAll_l78 d (nI (c + 1)) t) (fun v σ' v' τ' => ∃ p, PR p R σ' τ' ∧ FRA σ0 σ' ∧ FRA τ0 τ') := fun s t p2 L2 h1 h2 h3 h4 h5 h6 => by
        refine ih (c + 1) p2 (b : Int) s t h1 (pr_mono h2 h5 (by omega)) h3 h4 (by omega) (fun hc1 => ?_) (by omega) (by omega)
        have hs := (h1.2.2.2.2.1 (c + 1) hc1).2.2.2.2.2.2.1 c (by omega)
        omega
      have e18 : (σ.2 18 c).toInt = (b : Int) := by rw [eb]; exact nI_toInt (by omega)
      have step : ∀ w : Int32, P2 (mX9_cutsAll_b109 (fun v1 σ => mX9_cutsAll_l78 d v1 σ) (nI c) (rGa σ 1 (1 : Int32)) w σ) (mX9_cutsAll_b109 (fun v1 σ => mX9_cutsAll_l78 d v1 σ) (nI c) (rGa σ 1 (1 : Int32)) w τ) (fun v σ' v' τ' => ∃ p, PR p R σ' τ' ∧ FRA σ0 σ' ∧ FRA τ0 τ') := fun w => by
        unfold mX9_cutsAll_b109
        refine p2_ck (cc 17 rfl) (cc 17 rfl) ?_
        refine p2_ck (cc 18 rfl) (cc 18 rfl) ?_
        rw [show rGa σ 17 (nI c) = nI a from (rd_nI (by omega)).trans ea, show rGa τ 17 (nI c) = nI a from (rd_nI (by omega)).trans ea', show rGa σ 18 (nI c) = nI b from (rd_nI (by omega)).trans eb, show rGa τ 18 (nI c) = nI b from (rd_nI (by omega)).trans eb']
        refine p2_call (t2_undoes (N := R) (by unfold RU; decide) ⟨hab, hbR, hRC.1⟩ (ab_src hA)) (fun v s v' t hq => ?_)
        obtain ⟨n', rfl, rfl, hn0, hn6, hlen, hO2, hU, hU'⟩ := hq
        dsimp only
        have f14 : (σ.2 14 a).toInt = (a : Int) := by rw [(hA.2.2.2.1 a (by omega)).2.1]; exact nI_toInt (by omega)
        have f15 : (σ.2 15 (b - 1)).toInt = (b : Int) := by rw [(hA.2.2.2.1 (b - 1) (by omega)).2.2.2.1, nI_toInt (by omega)]; omega
        rw [f14, f15] at hlen hO2
        have hN := frn_u hU (by decide) (by decide) (by decide)
        have hN' := frn_u hU' (by decide) (by decide) (by decide)
        have hA2 := ab_n hA hN hN'
        have hP2 := pr_n hP hN hN'
        refine p2_ck rfl rfl ?_
        have m2 : rGa t 1 (2 : Int32) = rGa s 1 (2 : Int32) := ab_m hA2 (by decide)
        have hA3 : AB R C (rSf s 26 (nI n')) (rSf t 26 (nI n')) := ab_n hA2 frn_26 frn_26
        have hP3 : PR p L (rSf s 26 (nI n')) (rSf t 26 (nI n')) := pr_n hP2 frn_26 frn_26
        have hO3 : OU 23 24 25 n' (a : Int) (b : Int) (rSf s 26 (nI n')) (rSf t 26 (nI n')) := hO2
        have hF3 : FRA σ0 (rSf s 26 (nI n')) := fra_n (fra_n hF hN) frn_26
        have hF3' : FRA τ0 (rSf t 26 (nI n')) := fra_n (fra_n hF' hN') frn_26
        have s18 : s.2 18 = σ.2 18 := hU.1 18 (by decide) (by decide) (by decide)
        refine p2_eq m2 rfl (fun q1 => ?_) (fun q1 => ?_)
        · refine p2_call (t2_takes hA3 hP3 (by omega) (by decide) hn6 hO3 hLa (by omega) (by omega)) (fun v s2 v' t2 hq => ?_)
          obtain ⟨p', hP4, hT2, hT2'⟩ := hq
          dsimp only
          unfold mX9_cutsAll_b333
          rw [nI_1]
          refine rec1 s2 t2 p' (b : Int) (ab_t hA3 hT2 hT2') hP4 (fra_t hF3 hT2) (fra_t hF3' hT2') (Int.le_refl _) ?_
          rw [hT2.1 18 (by decide)]
          exact (congrArg (fun g : Nat → Int32 => (g c).toInt) s18).trans e18
        · refine p2_ck rfl rfl ?_
          rw [m2]
          have en' : (nI n').toInt = (n' : Int) := nI_toInt (by omega)
          refine p2_call (t2_cuts (v3 := nI n') (by unfold RW; decide) (by omega) (fun i hi => (hO3 i (by omega)).1)) (fun v s2 v' t2 hq => ?_)
          obtain ⟨ic, kx, rfl, rfl, hic, -, hCU⟩ := hq
          dsimp only
          obtain ⟨u1, u2, u3, u4, u5, u6, u7, u8⟩ := hCU
          have g := frn_c u2
          have g' := frn_c u3
          rw [en'] at hic u7
          refine t2_cutsAll_l220 (T := n') (lo := (a : Int)) (hi := (b : Int)) (B := (b : Int)) (by omega) ⟨hn6, by omega⟩ (by omega) (by omega) rec1 rFU 0 p L s2 t2 (ab_n hA3 g g') (pr_n hP3 g g') (fra_n hF3 g) (fra_n hF3' g') ?_ u7 (by omega) ?_ (fun hi0 => ?_) (by omega) (by unfold rFU; omega)
          · have z : ∀ k, 23 ≤ k → k ≤ 25 → s2.2 k = (rSf s 26 (nI n')).2 k := fun k h1 h2 => u2.1 k (by omega) (by omega) (by omega) (fun e => absurd e (by decide))
            have z' : ∀ k, 23 ≤ k → k ≤ 25 → t2.2 k = (rSf t 26 (nI n')).2 k := fun k h1 h2 => u3.1 k (by omega) (by omega) (by omega) (fun e => absurd e (by decide))
            exact ou_fr hO3 (z 23 (by decide) (by decide)) (z 24 (by decide) (by decide)) (z 25 (by decide) (by decide)) (z' 23 (by decide) (by decide)) (z' 24 (by decide) (by decide)) (z' 25 (by decide) (by decide))
          · rw [g.1 18 (by decide)]
            exact (congrArg (fun g : Nat → Int32 => (g c).toInt) s18).trans e18
          · obtain ⟨x, y, ex, -, -, -, hxy, hyn⟩ := ce_ab (u7 0 hi0) hn6
            rw [ex, nI_toInt (by omega), u2.1 24 (by decide) (by decide) (by decide) (fun e => absurd e (by decide))]
            have := (hO3 x (by omega)).2.2.2.1
            show L ≤ ((rSf s 26 (nI n')).2 24 x).toInt
            omega
      exact p2_eq r19 rfl (fun q1 => step 1) (fun q1 => step 0)
set_option maxHeartbeats 2000000 in
theorem t2_cutsAll_l12 {R : Nat} {σ0 τ0 : RS9} (hR : R ≤ 600) (hm1 : ∀ i, i < 443 → i ≠ 42 → τ0.2 1 i = σ0.2 1 i) (hV : VM9 (σ0.2 1)) (h13 : ∀ i, i < R → τ0.2 13 i = σ0.2 13 i) (h16 : σ0.1 16 = nI R ∧ τ0.1 16 = nI R) : ∀ (d k : Nat) (σ τ : RS9), FRA σ0 σ → FRA τ0 τ → σ.1 33 = nI 0 → τ.1 33 = nI 0 → σ.1 45 = nI 0 → τ.1 45 = nI 0 → (∀ i, i < k → σ.2 14 i = nI i ∧ τ.2 14 i = nI i ∧ σ.2 15 i = nI (i + 1) ∧ τ.2 15 i = nI (i + 1)) → k ≤ R → 1000 < k + d → P2 (mX9_cutsAll_l12 d (nI k) σ) (mX9_cutsAll_l12 d (nI k) τ) (fun v σ' v' τ' => ∃ p, PR p R σ' τ' ∧ FRA σ0 σ' ∧ FRA τ0 τ') := by
  intro d
  induction d with
  | zero => intro k σ τ _ _ _ _ _ _ _ hk hm; exfalso; omega
  | succ d ih =>
    intro k σ τ hF hF' h33 h33' h45 h45' hrow hkR hm
    have ek : (nI k).toInt = (k : Int) := nI_toInt (by omega)
    have eR : (nI R).toInt = (R : Int) := nI_toInt (by omega)
    have m : ∀ i, i < 443 → i ≠ 42 → τ.2 1 i = σ.2 1 i := fun i hi h42 => by rw [hF.1 1 (by omega), hF'.1 1 (by omega)]; exact hm1 i hi h42
    have r13 : ∀ i, i < R → τ.2 13 i = σ.2 13 i := fun i hi => by rw [hF.1 13 (by omega), hF'.1 13 (by omega)]; exact h13 i hi
    have f16 : σ.1 16 = nI R := (hF.2 16 (by decide) (by decide) (by decide) (by decide) (by decide) (by decide)).trans h16.1
    have f16' : τ.1 16 = nI R := (hF'.2 16 (by decide) (by decide) (by decide) (by decide) (by decide) (by decide)).trans h16.2
    unfold mX9_cutsAll_l12
    rw [f16, f16']
    refine p2_le eR ek rfl rfl (fun q => ?_) (fun q => ?_)
    · have hkR' : k = R := by omega
      subst hkR'
      refine p2_ck rfl rfl ?_
      rw [show rGa τ 1 (1 : Int32) = rGa σ 1 (1 : Int32) from m 1 (by decide) (by decide)]
      refine p2_call (t2_cuts (v3 := nI k) (by unfold RW; decide) (by omega) (fun i hi => r13 i (by omega))) (fun v s v' t hq => ?_)
      obtain ⟨C, kx, rfl, rfl, hC, hkx, u1, u2, u3, u4, u5, u6, u7, u8⟩ := hq
      dsimp only
      rw [eR] at hC u7 u8
      have w : ∀ z, z ≠ 17 → z ≠ 18 → z ≠ 19 → z ≠ 20 → z ≠ 21 → (rSf s 22 (nI C)).2 z = σ.2 z := fun z e1 e2 e3 e4 e5 => u2.1 z e1 e2 e3 (fun _ => ⟨e4, e5⟩)
      have w' : ∀ z, z ≠ 17 → z ≠ 18 → z ≠ 19 → z ≠ 20 → z ≠ 21 → (rSf t 22 (nI C)).2 z = τ.2 z := fun z e1 e2 e3 e4 e5 => u3.1 z e1 e2 e3 (fun _ => ⟨e4, e5⟩)
      have x : ∀ z, z ≠ 22 → z ≠ 54 → (rSf s 22 (nI C)).1 z = σ.1 z := fun z e1 e2 => (sf_ne e1).trans (u2.2 z e2)
      have x' : ∀ z, z ≠ 22 → z ≠ 54 → (rSf t 22 (nI C)).1 z = τ.1 z := fun z e1 e2 => (sf_ne e1).trans (u3.2 z e2)
      have e0 : (nI 0).toInt = 0 := by decide
      refine t2_cutsAll_l78 rFU 0 0 0 (rSf s 22 (nI C)) (rSf t 22 (nI C)) ⟨fun i hi h42 => ?_, ⟨by omega, by omega⟩, ⟨sf_eq, sf_eq⟩, fun i hi => ?_, u7, fun h0 i hi => ?_, ?_⟩ ⟨?_, ?_, by omega, ?_, ?_, ?_, by omega, fun i hi => absurd hi (by omega)⟩ ⟨fun z hz => ?_, fun z e1 e2 e3 e4 e5 e6 => ?_⟩ ⟨fun z hz => ?_, fun z e1 e2 e3 e4 e5 e6 => ?_⟩ (by omega) (fun h0 => ?_) (by omega) (by unfold rFU; omega)
      · rw [w 1 (by decide) (by decide) (by decide) (by decide) (by decide), w' 1 (by decide) (by decide) (by decide) (by decide) (by decide)]; exact m i hi h42
      · rw [w 13 (by decide) (by decide) (by decide) (by decide) (by decide), w' 13 (by decide) (by decide) (by decide) (by decide) (by decide), w 14 (by decide) (by decide) (by decide) (by decide) (by decide), w' 14 (by decide) (by decide) (by decide) (by decide) (by decide), w 15 (by decide) (by decide) (by decide) (by decide) (by decide), w' 15 (by decide) (by decide) (by decide) (by decide) (by decide)]
        exact ⟨r13 i hi, (hrow i hi).1, (hrow i hi).2.1, (hrow i hi).2.2.1, (hrow i hi).2.2.2⟩
      · rw [w 1 (by decide) (by decide) (by decide) (by decide) (by decide)] at h0
        have := hkx h0
        exact u8 rfl i (by omega)
      · rw [w 1 (by decide) (by decide) (by decide) (by decide) (by decide), hF.1 1 (by omega)]; exact hV
      · rw [x 33 (by decide) (by decide)]; exact h33
      · rw [x' 33 (by decide) (by decide)]; exact h33'
      · rw [x 45 (by decide) (by decide), x' 45 (by decide) (by decide), h45, h45']
      · rw [x 45 (by decide) (by decide), h45, e0]; omega
      · rw [x 45 (by decide) (by decide), h45, e0]; omega
      · rw [w z (by omega) (by omega) (by omega) (by omega) (by omega)]; exact hF.1 z hz
      · rw [x z e1 e5]; exact hF.2 z e1 e2 e3 e4 e5 e6
      · rw [w' z (by omega) (by omega) (by omega) (by omega) (by omega)]; exact hF'.1 z hz
      · rw [x' z e1 e5]; exact hF'.2 z e1 e2 e3 e4 e5 e6
      · have := (u7 0 h0).2.2.2.1
        show (0 : Int) ≤ (s.2 17 0).toInt
        omega
    · refine p2_ck (inb_nI (n := 600) (by omega) (by decide)) (inb_nI (n := 600) (by omega) (by decide)) ?_
      refine p2_ck (inb_nI (n := 600) (by omega) (by decide)) (inb_nI (n := 600) (by omega) (by decide)) ?_
      rw [nI_1]
      refine ih (k + 1) _ _ ⟨fun z hz => ?_, fun z e1 e2 e3 e4 e5 e6 => ?_⟩ ⟨fun z hz => ?_, fun z e1 e2 e3 e4 e5 e6 => ?_⟩ h33 h33' h45 h45' (fun i hi => ?_) (by omega) (by omega)
      · exact ((sa_ne (by omega)).trans (sa_ne (by omega))).trans (hF.1 z hz)
      · exact hF.2 z e1 e2 e3 e4 e5 e6
      · exact ((sa_ne (by omega)).trans (sa_ne (by omega))).trans (hF'.1 z hz)
      · exact hF'.2 z e1 e2 e3 e4 e5 e6
      · have p14 : ∀ u : RS9, (rSa (rSa u 14 (nI k) (nI k)) 15 (nI k) (nI (k + 1))).2 14 i = if i = k then nI k else u.2 14 i := fun u => by rw [sa_ne (by decide), sa_nI (by omega)]
        have p15 : ∀ u : RS9, (rSa (rSa u 14 (nI k) (nI k)) 15 (nI k) (nI (k + 1))).2 15 i = if i = k then nI (k + 1) else u.2 15 i := fun u => by rw [sa_nI (by omega), sa_ne (by decide)]
        rw [p14, p14, p15, p15]
        by_cases e : i = k
        · simp only [if_pos e]
          rw [e]
          exact ⟨rfl, rfl, rfl, rfl⟩
        · simp only [if_neg e]
          exact hrow i (by omega)
theorem t2_cutsAll {R : Nat} {σ τ : RS9} (hR : R ≤ 600) (hm1 : ∀ i, i < 443 → i ≠ 42 → τ.2 1 i = σ.2 1 i) (hV : VM9 (σ.2 1)) (h13 : ∀ i, i < R → τ.2 13 i = σ.2 13 i) (h16 : σ.1 16 = nI R ∧ τ.1 16 = nI R) : P2 (mX9_cutsAll σ) (mX9_cutsAll τ) (fun v σ' v' τ' => ∃ p, PR p R σ' τ' ∧ FRA σ σ' ∧ FRA τ τ') := by
  unfold mX9_cutsAll
  have g : ∀ u : RS9, FRA u (rSf (rSf u 33 0) 45 0) := fun u => ⟨fun _ _ => rfl, fun z _ _ e3 e4 _ _ => (sf_ne e4).trans (sf_ne e3)⟩
  exact t2_cutsAll_l12 hR hm1 hV h13 h16 rFU 0 _ _ (g σ) (g τ) ((sf_ne (by decide)).trans sf_eq) ((sf_ne (by decide)).trans sf_eq) sf_eq sf_eq (fun i hi => absurd hi (by omega)) (by omega) (by unfold rFU; omega)
/-! the file is cut -/
def FRB (σ0 σ : RS9) : Prop := (∀ k, k ≤ 12 ∨ 45 ≤ k → σ.2 k = σ0.2 k) ∧ ∀ k, k ≠ 16 → k ≠ 22 → k ≠ 26 → k ≠ 33 → k ≠ 45 → k ≠ 54 → k ≠ 55 → σ.1 k = σ0.1 k
set_option maxHeartbeats 1000000 in
theorem t2_cutsFile_l12 {R : Nat} {σ0 τ0 : RS9} (hR : R ≤ 400) (hm1 : ∀ i, i < 443 → i ≠ 42 → τ0.2 1 i = σ0.2 1 i) (hV : VM9 (σ0.2 1)) : ∀ (d k : Nat) (σ τ : RS9), FRB σ0 σ → FRB τ0 τ → σ.1 16 = nI R → τ.1 16 = nI R → (∀ i, i < k → τ.2 13 i = σ.2 13 i) → k ≤ R → 1000 < k + d → P2 (mX9_cutsFile_l12 d (nI k) σ) (mX9_cutsFile_l12 d (nI k) τ) (fun v σ' v' τ' => ∃ p, PR p R σ' τ' ∧ FRB σ0 σ' ∧ FRB τ0 τ' ∧ σ'.1 16 = nI R) := by
  intro d
  induction d with
  | zero => intro k σ τ _ _ _ _ _ hk hm; exfalso; omega
  | succ d ih =>
    intro k σ τ hF hF' h16 h16' hrow hkR hm
    have ek : (nI k).toInt = (k : Int) := nI_toInt (by omega)
    have eR : (nI R).toInt = (R : Int) := nI_toInt (by omega)
    have m : ∀ i, i < 443 → i ≠ 42 → τ.2 1 i = σ.2 1 i := fun i hi h42 => by rw [hF.1 1 (by omega), hF'.1 1 (by omega)]; exact hm1 i hi h42
    unfold mX9_cutsFile_l12
    rw [h16, h16']
    refine p2_le eR ek rfl rfl (fun q => ?_) (fun q => ?_)
    · refine p2_call (t2_cutsAll (R := R) (by omega) m (by rw [hF.1 1 (by omega)]; exact hV) (fun i hi => hrow i (by omega)) ⟨h16, h16'⟩) (fun v s v' t hq => ?_)
      obtain ⟨p, hP, g, g'⟩ := hq
      dsimp only
      refine p2_ret ⟨p, hP, ⟨fun z hz => (g.1 z (by omega)).trans (hF.1 z hz), fun z e0 e1 e2 e3 e4 e5 e6 => (g.2 z e1 e2 e3 e4 e5 e6).trans (hF.2 z e0 e1 e2 e3 e4 e5 e6)⟩, ⟨fun z hz => (g'.1 z (by omega)).trans (hF'.1 z hz), fun z e0 e1 e2 e3 e4 e5 e6 => (g'.2 z e1 e2 e3 e4 e5 e6).trans (hF'.2 z e0 e1 e2 e3 e4 e5 e6)⟩, ?_⟩
      exact (g.2 16 (by decide) (by decide) (by decide) (by decide) (by decide) (by decide)).trans h16
    · have e43 : ((43 : Int32) + nI k) = nI (43 + k) := nI_add 43 k
      rw [e43]
      refine p2_ck (inb_nI (n := 4347) (by omega) (by decide)) (inb_nI (n := 4347) (by omega) (by decide)) ?_
      refine p2_ck (inb_nI (n := 600) (by omega) (by decide)) (inb_nI (n := 600) (by omega) (by decide)) ?_
      rw [nI_1, show rGa τ 1 (nI (43 + k)) = rGa σ 1 (nI (43 + k)) by rw [rd_nI (by omega), rd_nI (by omega)]; exact m _ (by omega) (by omega)]
      refine ih (k + 1) _ _ ⟨fun z hz => (sa_ne (by omega)).trans (hF.1 z hz), hF.2⟩ ⟨fun z hz => (sa_ne (by omega)).trans (hF'.1 z hz), hF'.2⟩ h16 h16' (fun i hi => ?_) (by omega) (by omega)
      rw [sa_nI (by omega), sa_nI (by omega)]
      by_cases e : i = k
      · rw [if_pos e, if_pos e]
      · rw [if_neg e, if_neg e]; exact hrow i (by omega)
theorem t2_cutsFile {σ τ : RS9} (hm1 : ∀ i, i < 443 → i ≠ 42 → τ.2 1 i = σ.2 1 i) (hV : VM9 (σ.2 1)) : P2 (mX9_cutsFile σ) (mX9_cutsFile τ) (fun v σ' v' τ' => ∃ p R : Nat, σ.2 1 0 = nI R ∧ R ≤ 400 ∧ PR p R σ' τ' ∧ FRB σ σ' ∧ FRB τ τ' ∧ σ'.1 16 = nI R) := by
  obtain ⟨R, hR6, eR⟩ := nI_back hV.1.1 (by have := hV.1.2; omega)
  have hR4 : R ≤ 400 := by
    have := hV.1.2
    rw [eR, nI_toInt (by omega)] at this; omega
  unfold mX9_cutsFile
  refine p2_ck rfl rfl ?_
  rw [show rGa σ 1 (0 : Int32) = nI R from eR, show rGa τ 1 (0 : Int32) = nI R from (hm1 0 (by decide) (by decide)).trans eR]
  have g : ∀ (u : RS9) (x : Int32), FRB u (rSf u 16 x) := fun u x => ⟨fun _ _ => rfl, fun z e _ _ _ _ _ _ => sf_ne e⟩
  refine p2_tail (t2_cutsFile_l12 hR4 hm1 hV rFU 0 _ _ (g σ _) (g τ _) sf_eq sf_eq (fun i hi => absurd hi (by omega)) (by omega) (by unfold rFU; omega)) (fun v s v' t hq => ?_)
  obtain ⟨p, hP, h1, h2, h3⟩ := hq
  exact ⟨p, R, eR, hR4, hP, h1, h2, h3⟩
end
/-! part 41a.esc -/
section
/-! escaping: how much it may become -/
def wt9 (c : Int32) : Nat := if c = 38 then 5 else if c = 60 then 4 else if c = 62 then 4 else if c = 10 then 2 else if c = 9 then 2 else if c = 92 then 2 else if c = 34 then 2 else if c = 32 then 2 else 1
def wS (g : Nat → Int32) : Nat → Nat
  | 0 => 0
  | n + 1 => wS g n + wt9 (g n)
theorem wt_1 (c : Int32) : 1 ≤ wt9 c := by unfold wt9; (repeat' split) <;> omega
theorem wt_5 (c : Int32) : wt9 c ≤ 5 := by unfold wt9; (repeat' split) <;> omega
theorem wS_5 (g : Nat → Int32) (n : Nat) : wS g n ≤ 5 * n := by
  induction n with
  | zero => exact Nat.le_refl _
  | succ n ih => have := wt_5 (g n); show wS g n + wt9 (g n) ≤ _; omega
theorem wS_eq {g h : Nat → Int32} {n : Nat} (e : ∀ i, i < n → h i = g i) : wS h n = wS g n := by
  induction n with
  | zero => rfl
  | succ n ih => show wS h n + wt9 (h n) = wS g n + wt9 (g n); rw [ih (fun i hi => e i (by omega)), e n (by omega)]
theorem wS_mono {g : Nat → Int32} {k n : Nat} (h : k ≤ n) : wS g k ≤ wS g n := by
  induction n with
  | zero => have : k = 0 := by omega
            rw [this]; exact Nat.le_refl _
  | succ n ih =>
    by_cases e : k = n + 1
    · rw [e]; exact Nat.le_refl _
    · have := ih (by omega)
      show wS g k ≤ wS g n + wt9 (g n)
      omega
def FE (o : Nat) (σ0 σ : RS9) : Prop := (∀ k, k ≠ o → σ.2 k = σ0.2 k) ∧ ∀ k, k ≠ 56 → σ.1 k = σ0.1 k
def ES (o q W : Nat) (σ0 τ0 σ τ : RS9) : Prop := σ.1 56 = nI q ∧ τ.1 56 = nI q ∧ (∀ i, i < q → τ.2 o i = σ.2 o i) ∧ wS (σ.2 o) q ≤ W ∧ FE o σ0 σ ∧ FE o τ0 τ
section ESS
variable {o q W : Nat} {σ0 τ0 σ τ : RS9}
theorem es_put (hE : ES o q W σ0 τ0 σ τ) (hq : q < 1400) {x : Int32} : ES o (q + 1) (W + wt9 x) σ0 τ0 (rSf (rSa σ o (nI q) x) 56 (nI (q + 1))) (rSf (rSa τ o (nI q) x) 56 (nI (q + 1))) := by
  obtain ⟨h1, h2, h3, h4, h5, h6⟩ := hE
  have r : ∀ (u : RS9) (i : Nat), (rSf (rSa u o (nI q) x) 56 (nI (q + 1))).2 o i = if i = q then x else u.2 o i := fun u i => sa_nI (by omega)
  refine ⟨sf_eq, sf_eq, fun i hi => ?_, ?_, ⟨fun k e => (sa_ne e).trans (h5.1 k e), fun k e => (sf_ne e).trans (h5.2 k e)⟩, ⟨fun k e => (sa_ne e).trans (h6.1 k e), fun k e => (sf_ne e).trans (h6.2 k e)⟩⟩
  · rw [r, r]
    by_cases e : i = q
    · rw [if_pos e, if_pos e]
    · rw [if_neg e, if_neg e]; exact h3 i (by omega)
  · show wS _ q + wt9 _ ≤ _
    rw [r, if_pos rfl, wS_eq (g := σ.2 o) (fun i hi => by rw [r, if_neg (by omega)])]
    omega
theorem t2_plain (ho : rLen o = 1400) (hE : ES o q W σ0 τ0 σ τ) (hq : q < 1400) {x x' : Int32} (hx : x' = x) : P2 (mX9_plain o x σ) (mX9_plain o x' τ) (fun v σ' v' τ' => ES o (q + 1) (W + wt9 x) σ0 τ0 σ' τ') := by
  subst hx
  unfold mX9_plain
  rw [hE.1, hE.2.1, nI_1]
  exact p2_ck (by rw [ho]; exact inb_nI hq (by decide)) (by rw [ho]; exact inb_nI hq (by decide)) (p2_ret (es_put hE hq))
theorem t2_puts (ho : rLen o = 1400) (hE : ES o q W σ0 τ0 σ τ) (hq : q + 1 < 1400) {x y y' : Int32} (hy : y' = y) : P2 (mX9_puts o x y σ) (mX9_puts o x y' τ) (fun v σ' v' τ' => ES o (q + 2) (W + wt9 x + wt9 y) σ0 τ0 σ' τ') := by
  subst hy
  unfold mX9_puts
  rw [hE.1, hE.2.1, nI_1]
  refine p2_ck (by rw [ho]; exact inb_nI (by omega) (by decide)) (by rw [ho]; exact inb_nI (by omega) (by decide)) ?_
  refine p2_ck (by rw [ho]; exact inb_nI hq (by decide)) (by rw [ho]; exact inb_nI hq (by decide)) ?_
  have e2 : nI q + (2 : Int32) = nI (q + 2) := nI_add q 2
  rw [e2]
  have h1 := es_put (x := y') (es_put (x := x) hE (by omega)) hq
  obtain ⟨a1, a2, a3, a4, a5, a6⟩ := h1
  refine p2_ret ⟨sf_eq, sf_eq, a3, a4, ⟨a5.1, fun k e => (sf_ne e).trans (hE.2.2.2.2.1.2 k e)⟩, ⟨a6.1, fun k e => (sf_ne e).trans (hE.2.2.2.2.2.2 k e)⟩⟩
def wT (t : Nat) : Nat → Nat
  | 0 => 0
  | n + 1 => wT t n + wt9 (strC t (nI n))
/-- a word is laid -/
theorem t2_word_l2 {t len : Nat} (ho : rLen o = 1400) (ht : t < 15) (hl : strL t = nI len) (hlen : len ≤ 20) (hq : q + len ≤ 1400) : ∀ (d k : Nat) (σ τ : RS9), σ.1 56 = nI q → τ.1 56 = nI q → (∀ i, i < q + k → τ.2 o i = σ.2 o i) → wS (σ.2 o) (q + k) ≤ W + wT t k → FE o σ0 σ → FE o τ0 τ → k ≤ len → 100 < k + d → P2 (mX9_word_l2 d o t (nI k) σ) (mX9_word_l2 d o t (nI k) τ) (fun v σ' v' τ' => ES o (q + len) (W + wT t len) σ0 τ0 σ' τ') := by
  intro d
  induction d with
  | zero => intro k σ τ _ _ _ _ _ _ _ hm; exfalso; omega
  | succ d ih =>
    intro k σ τ h1 h2 h3 h4 h5 h6 hk hm
    have ek : (nI k).toInt = (k : Int) := nI_toInt (by omega)
    have el : (strL t).toInt = (len : Int) := by rw [hl]; exact nI_toInt (by omega)
    unfold mX9_word_l2
    refine p2_le el ek rfl rfl (fun qq => ?_) (fun qq => ?_)
    · have e : k = len := by omega
      subst e
      rw [h1, h2, hl, nI_add]
      exact p2_ret ⟨sf_eq, sf_eq, h3, h4, ⟨h5.1, fun z e => (sf_ne e).trans (h5.2 z e)⟩, ⟨h6.1, fun z e => (sf_ne e).trans (h6.2 z e)⟩⟩
    · refine p2_ck (in_st9 ht (by omega)) (in_st9 ht (by omega)) ?_
      rw [h1, h2, nI_add, nI_1]
      refine p2_ck (by rw [ho]; exact inb_nI (by omega) (by decide)) (by rw [ho]; exact inb_nI (by omega) (by decide)) ?_
      have r : ∀ (u : RS9) (i : Nat), (rSa u o (nI (q + k)) (strC t (nI k))).2 o i = if i = q + k then strC t (nI k) else u.2 o i := fun u i => sa_nI (by omega)
      refine ih (k + 1) _ _ h1 h2 (fun i hi => ?_) ?_ ⟨fun z e => (sa_ne e).trans (h5.1 z e), h5.2⟩ ⟨fun z e => (sa_ne e).trans (h6.1 z e), h6.2⟩ (by omega) (by omega)
      · rw [r, r]
        by_cases e : i = q + k
        · rw [if_pos e, if_pos e]
        · rw [if_neg e, if_neg e]; exact h3 i (by omega)
      · show wS _ (q + k) + wt9 ((rSa σ o (nI (q + k)) (strC t (nI k))).2 o (q + k)) ≤ W + (wT t k + wt9 (strC t (nI k)))
        rw [r, if_pos rfl, wS_eq (g := σ.2 o) (fun i hi => by rw [r, if_neg (by omega)])]
        omega
theorem t2_word {t len : Nat} (ho : rLen o = 1400) (ht : t < 15) (hl : strL t = nI len) (hlen : len ≤ 20) (hE : ES o q W σ0 τ0 σ τ) (hq : q + len ≤ 1400) : P2 (mX9_word o t σ) (mX9_word o t τ) (fun v σ' v' τ' => ES o (q + len) (W + wT t len) σ0 τ0 σ' τ') := by
  unfold mX9_word
  obtain ⟨h1, h2, h3, h4, h5, h6⟩ := hE
  exact t2_word_l2 ho ht hl hlen hq rFU 0 σ τ h1 h2 h3 h4 h5 h6 (by omega) (by unfold rFU; omega)
/-- one byte escaped: it becomes at most its weight, and weighs at most nine then -/
def E1 (o q W : Nat) (c : Int32) (σ0 τ0 σ' τ' : RS9) : Prop := ∃ q' W', q' ≤ q + wt9 c ∧ W' ≤ W + 9 ∧ ES o q' W' σ0 τ0 σ' τ'
theorem t2_escapesMarkup (ho : rLen o = 1400) (hE : ES o q W σ0 τ0 σ τ) {c c' : Int32} (hc : c' = c) (hq : q + wt9 c ≤ 1400) : P2 (mX9_escapesMarkup o c σ) (mX9_escapesMarkup o c' τ) (fun v σ' v' τ' => E1 o q W c σ0 τ0 σ' τ') := by
  subst hc
  have hw0 : wT 0 4 = 8 := by decide +kernel
  have hw1 : wT 1 4 = 8 := by decide +kernel
  have hw2 : wT 2 5 = 9 := by decide +kernel
  unfold mX9_escapesMarkup
  refine p2_eq rfl rfl (fun e => ?_) (fun e => ?_)
  · subst e
    have h9 : wt9 60 = 4 := by decide
    refine p2_call (t2_word (len := 4) ho (by decide) (by decide +kernel) (by decide) hE (by omega)) (fun v s v' t h => ?_)
    exact p2_ret ⟨_, _, by omega, by omega, h⟩
  · refine p2_eq rfl rfl (fun e => ?_) (fun e2 => ?_)
    · subst e
      have h9 : wt9 62 = 4 := by decide
      refine p2_call (t2_word (len := 4) ho (by decide) (by decide +kernel) (by decide) hE (by omega)) (fun v s v' t h => ?_)
      exact p2_ret ⟨_, _, by omega, by omega, h⟩
    · refine p2_eq rfl rfl (fun e => ?_) (fun e3 => ?_)
      · subst e
        have h9 : wt9 38 = 5 := by decide
        refine p2_call (t2_word (len := 5) ho (by decide) (by decide +kernel) (by decide) hE (by omega)) (fun v s v' t h => ?_)
        exact p2_ret ⟨_, _, by omega, by omega, h⟩
      · have h1 := wt_1 c'
        have h5 := wt_5 c'
        refine p2_call (t2_plain ho hE (by omega) rfl) (fun v s v' t h => ?_)
        exact p2_ret ⟨_, _, by omega, by omega, h⟩
theorem t2_escapesBack (ho : rLen o = 1400) (hE : ES o q W σ0 τ0 σ τ) {k c c' f : Int32} (hc : c' = c) (hq : q + wt9 c ≤ 1400) : P2 (mX9_escapesBack k o c f σ) (mX9_escapesBack k o c' f τ) (fun v σ' v' τ' => E1 o q W c σ0 τ0 σ' τ') := by
  subst hc
  have h92 : wt9 92 = 2 := by decide
  have two : ∀ x : Int32, 2 ≤ wt9 c' → wt9 x ≤ 5 → P2 ((mX9_puts o (92 : Int32) x σ).bind fun r1 => mX9_escapesBack_b85 r1.2) ((mX9_puts o (92 : Int32) x τ).bind fun r1 => mX9_escapesBack_b85 r1.2) (fun v σ' v' τ' => E1 o q W c' σ0 τ0 σ' τ') := fun x h2 h5 => by
    refine p2_call (t2_puts ho hE (by omega) rfl) (fun v s v' t h => ?_)
    exact p2_ret ⟨_, _, by omega, by omega, h⟩
  have one : P2 (mX9_escapesBack_b79 o c' σ) (mX9_escapesBack_b79 o c' τ) (fun v σ' v' τ' => E1 o q W c' σ0 τ0 σ' τ') := by
    have h1 := wt_1 c'
    have h5 := wt_5 c'
    unfold mX9_escapesBack_b79
    refine p2_call (t2_plain ho hE (by omega) rfl) (fun v s v' t h => ?_)
    exact p2_ret ⟨_, _, by omega, by omega, h⟩
  have b53 : P2 (mX9_escapesBack_b53 k o c' f σ) (mX9_escapesBack_b53 k o c' f τ) (fun v σ' v' τ' => E1 o q W c' σ0 τ0 σ' τ') := by
    unfold mX9_escapesBack_b53
    refine p2_eq rfl rfl (fun e => ?_) (fun e => one)
    refine p2_eq rfl rfl (fun e2 => ?_) (fun e2 => one)
    refine p2_eq rfl rfl (fun e3 => one) (fun e3 => ?_)
    exact two c' (by rw [e]; decide) (wt_5 _)
  unfold mX9_escapesBack
  refine p2_eq rfl rfl (fun e => two 110 (by rw [e]; decide) (wt_5 _)) (fun e => ?_)
  refine p2_eq rfl rfl (fun e => two 116 (by rw [e]; decide) (wt_5 _)) (fun e => ?_)
  refine p2_eq rfl rfl (fun e => two c' (by rw [e]; decide) (wt_5 _)) (fun e => ?_)
  refine p2_eq rfl rfl (fun e => ?_) (fun e => b53)
  exact p2_eq rfl rfl (fun e2 => two c' (by rw [e]; decide) (wt_5 _)) (fun e2 => b53)
end ESS
theorem t2_hasSign_l2 {r n : Nat} {σ τ : RS9} (hn : n ≤ rLen r ∧ n ≤ 1400) (hrd : ∀ i, i < n → τ.2 r i = σ.2 r i) : ∀ (d k : Nat), k ≤ n → 2000 < k + d → P2 (mX9_hasSign_l2 d r (nI n) (nI k) σ) (mX9_hasSign_l2 d r (nI n) (nI k) τ) (fun v σ' v' τ' => σ' = σ ∧ τ' = τ ∧ v' = v ∧ True) := by
  intro d
  induction d with
  | zero => intro k hk hm; exfalso; omega
  | succ d ih =>
    intro k hk hm
    have ek : (nI k).toInt = (k : Int) := nI_toInt (by omega)
    have en : (nI n).toInt = (n : Int) := nI_toInt (by omega)
    have b31 : P2 (mX9_hasSign_b31 σ) (mX9_hasSign_b31 τ) (fun v σ' v' τ' => σ' = σ ∧ τ' = τ ∧ v' = v ∧ True) := p2_ck rfl rfl (p2_ret ⟨rfl, rfl, rfl, trivial⟩)
    unfold mX9_hasSign_l2
    refine p2_le en ek rfl rfl (fun q => ?_) (fun q => ?_)
    · exact p2_ck rfl rfl (p2_ret ⟨rfl, rfl, rfl, trivial⟩)
    · have hl : rLen r < 2 ^ 31 ∨ True := Or.inr trivial
      have ck : rIn (nI k) (rLen r) = true := by
        unfold rIn
        rw [nI_clamp (by omega)]
        simp only [Bool.and_eq_true, Bool.not_eq_true', decide_eq_false_iff_not, decide_eq_true_eq]
        exact ⟨nI_pos (by omega), by omega⟩
      have h0 : rGa τ r (nI k) = rGa σ r (nI k) := by rw [rd_nI (by omega), rd_nI (by omega)]; exact hrd k (by omega)
      refine p2_ck ck ck (p2_eq h0 rfl (fun _ => b31) (fun _ => ?_))
      refine p2_ck ck ck (p2_eq h0 rfl (fun _ => b31) (fun _ => ?_))
      refine p2_ck ck ck (p2_eq h0 rfl (fun _ => b31) (fun _ => ?_))
      rw [nI_1]
      exact ih (k + 1) (by omega) (by omega)
theorem t2_hasSign {r n : Nat} {σ τ : RS9} (hn : n ≤ rLen r ∧ n ≤ 1400) (hrd : ∀ i, i < n → τ.2 r i = σ.2 r i) : P2 (mX9_hasSign r (nI n) σ) (mX9_hasSign r (nI n) τ) (fun v σ' v' τ' => σ' = σ ∧ τ' = τ ∧ v' = v ∧ True) := by
  unfold mX9_hasSign
  exact t2_hasSign_l2 hn hrd rFU 0 (by omega) (by unfold rFU; omega)
end
/-! part 41b.esc -/
section
set_option maxHeartbeats 1000000 in
theorem t2_escapes_l47 {v1 v2 v3 v7 : Int32} {r o n w0 : Nat} {σ0 τ0 : RS9} (ho : rLen o = 1400) (hro : r ≠ o) (hn : n ≤ rLen r ∧ n ≤ 1400) (hrd : ∀ i, i < n → τ0.2 r i = σ0.2 r i) (hw : wS (σ0.2 r) n + 2 ≤ 1400) (h7 : w0 ≤ 1 ∧ (v7 = 0 → w0 = 0)) : ∀ (d k q W : Nat) (σ τ : RS9), ES o q W σ0 τ0 σ τ → q ≤ wS (σ0.2 r) k + w0 → W ≤ 9 * k + 2 * w0 → k ≤ n → 2000 < k + d → P2 (mX9_escapes_l47 d v1 v2 v3 r (nI n) o v7 (nI k) σ) (mX9_escapes_l47 d v1 v2 v3 r (nI n) o v7 (nI k) τ) (fun v σ' v' τ' => ∃ m W' : Nat, v = nI m ∧ v' = nI m ∧ m ≤ wS (σ0.2 r) n + 2 ∧ W' ≤ 9 * n + 4 ∧ ES o m W' σ0 τ0 σ' τ') := by
  intro d
  induction d with
  | zero => intro k q W σ τ _ _ _ hk hm; exfalso; omega
  | succ d ih =>
    intro k q W σ τ hE hq hW hk hm
    have ek : (nI k).toInt = (k : Int) := nI_toInt (by omega)
    have en : (nI n).toInt = (n : Int) := nI_toInt (by omega)
    have hmo : wS (σ0.2 r) k ≤ wS (σ0.2 r) n := wS_mono hk
    have h34 : wt9 34 = 2 := by decide
    unfold mX9_escapes_l47
    refine p2_le en ek rfl rfl (fun qq => ?_) (fun qq => ?_)
    · refine p2_eq rfl rfl (fun e => ?_) (fun e => ?_)
      · unfold mX9_escapes_b169
        exact p2_ret ⟨q, W, hE.1, hE.2.1, by omega, by omega, hE⟩
      · refine p2_call (t2_plain ho hE (by omega) rfl) (fun v s v' t h => ?_)
        dsimp only
        unfold mX9_escapes_b169
        exact p2_ret ⟨_, _, h.1, h.2.1, by omega, by omega, h⟩
    · have hsn : wS (σ0.2 r) (k + 1) = wS (σ0.2 r) k + wt9 (σ0.2 r k) := rfl
      have hm1 : wS (σ0.2 r) (k + 1) ≤ wS (σ0.2 r) n := wS_mono (by omega)
      have ck : rIn (nI k) (rLen r) = true := by
        unfold rIn
        rw [nI_clamp (by omega)]
        simp only [Bool.and_eq_true, Bool.not_eq_true', decide_eq_false_iff_not, decide_eq_true_eq]
        exact ⟨nI_pos (by omega), by omega⟩
      have rs : rGa σ r (nI k) = σ0.2 r k := by rw [rd_nI (by omega), hE.2.2.2.2.1.1 r hro]
      have rt : rGa τ r (nI k) = σ0.2 r k := by rw [rd_nI (by omega), hE.2.2.2.2.2.1 r hro]; exact hrd k (by omega)
      rw [rs, rt]
      have next : ∀ (q2 W2 : Nat) (s t : RS9), q2 ≤ q + wt9 (σ0.2 r k) → W2 ≤ W + 9 → ES o q2 W2 σ0 τ0 s t → P2 (mX9_escapes_b150 (fun v1 v2 v3 v4 v5 v6 v7 v8 σ => mX9_escapes_l47 d v1 v2 v3 v4 v5 v6 v7 v8 σ) v1 v2 v3 r (nI n) o v7 (nI k) s) (mX9_escapes_b150 (fun v1 v2 v3 v4 v5 v6 v7 v8 σ => mX9_escapes_l47 d v1 v2 v3 v4 v5 v6 v7 v8 σ) v1 v2 v3 r (nI n) o v7 (nI k) t) (fun v σ' v' τ' => ∃ m W' : Nat, v = nI m ∧ v' = nI m ∧ m ≤ wS (σ0.2 r) n + 2 ∧ W' ≤ 9 * n + 4 ∧ ES o m W' σ0 τ0 σ' τ') := fun q2 W2 s t h1 h2 h3 => by
        unfold mX9_escapes_b150
        rw [nI_1]
        exact ih (k + 1) q2 W2 s t h3 (by omega) (by omega) (by omega) (by omega)
      have g1 := wt_1 (σ0.2 r k)
      have g5 := wt_5 (σ0.2 r k)
      have b139 : P2 (mX9_escapes_b139 (fun v1 v2 v3 v4 v5 v6 v7 v8 σ => mX9_escapes_l47 d v1 v2 v3 v4 v5 v6 v7 v8 σ) v1 v2 v3 r (nI n) o v7 (nI k) σ) (mX9_escapes_b139 (fun v1 v2 v3 v4 v5 v6 v7 v8 σ => mX9_escapes_l47 d v1 v2 v3 v4 v5 v6 v7 v8 σ) v1 v2 v3 r (nI n) o v7 (nI k) τ) (fun v σ' v' τ' => ∃ m W' : Nat, v = nI m ∧ v' = nI m ∧ m ≤ wS (σ0.2 r) n + 2 ∧ W' ≤ 9 * n + 4 ∧ ES o m W' σ0 τ0 σ' τ') := by
        unfold mX9_escapes_b139
        rw [rs, rt]
        refine p2_ck ck ck (p2_call (t2_plain ho hE (by omega) rfl) (fun v s v' t h => ?_))
        exact next _ _ s t (by omega) (by omega) h
      have b116 : P2 (mX9_escapes_b116 (fun v1 v2 v3 v4 v5 v6 v7 v8 σ => mX9_escapes_l47 d v1 v2 v3 v4 v5 v6 v7 v8 σ) v1 v2 v3 r (nI n) o v7 (nI k) σ) (mX9_escapes_b116 (fun v1 v2 v3 v4 v5 v6 v7 v8 σ => mX9_escapes_l47 d v1 v2 v3 v4 v5 v6 v7 v8 σ) v1 v2 v3 r (nI n) o v7 (nI k) τ) (fun v σ' v' τ' => ∃ m W' : Nat, v = nI m ∧ v' = nI m ∧ m ≤ wS (σ0.2 r) n + 2 ∧ W' ≤ 9 * n + 4 ∧ ES o m W' σ0 τ0 σ' τ') := by
        unfold mX9_escapes_b116
        rw [rs, rt]
        refine p2_ck ck ck (p2_eq rfl rfl (fun e => ?_) (fun e => b139))
        have e2 : wt9 (σ0.2 r k) = 2 := by rw [e]; decide
        refine p2_call (t2_puts ho hE (by omega) rfl) (fun v s v' t h => ?_)
        exact next _ _ s t (by omega) (by omega) h
      have b101 : ∀ f : Int32, P2 (mX9_escapes_b101 (fun v1 v2 v3 v4 v5 v6 v7 v8 σ => mX9_escapes_l47 d v1 v2 v3 v4 v5 v6 v7 v8 σ) v1 v2 v3 r (nI n) o v7 (nI k) v1 o (σ0.2 r k) f σ) (mX9_escapes_b101 (fun v1 v2 v3 v4 v5 v6 v7 v8 σ => mX9_escapes_l47 d v1 v2 v3 v4 v5 v6 v7 v8 σ) v1 v2 v3 r (nI n) o v7 (nI k) v1 o (σ0.2 r k) f τ) (fun v σ' v' τ' => ∃ m W' : Nat, v = nI m ∧ v' = nI m ∧ m ≤ wS (σ0.2 r) n + 2 ∧ W' ≤ 9 * n + 4 ∧ ES o m W' σ0 τ0 σ' τ') := fun f => by
        unfold mX9_escapes_b101
        refine p2_call (t2_escapesBack ho hE rfl (by omega)) (fun v s v' t h => ?_)
        obtain ⟨q2, W2, a, b, c⟩ := h
        exact next q2 W2 s t a b c
      refine p2_eq rfl rfl (fun e => ?_) (fun e => ?_)
      · refine p2_ck ck ck (p2_call (t2_escapesMarkup ho hE rfl (by omega)) (fun v s v' t h => ?_))
        obtain ⟨q2, W2, a, b, c⟩ := h
        exact next q2 W2 s t a b c
      · refine p2_eq rfl rfl (fun e2 => ?_) (fun e2 => ?_)
        · exact p2_eq rfl rfl (fun e3 => p2_eq rfl rfl (fun e4 => b139) (fun e4 => b116)) (fun e3 => b116)
        · exact p2_ck ck ck (p2_eq rfl rfl (fun e3 => b101 0) (fun e3 => p2_eq rfl rfl (fun e4 => b101 1) (fun e4 => b101 0)))
set_option maxHeartbeats 1000000 in
theorem t2_escapes {v1 v2 v3 : Int32} {r o n : Nat} {σ τ : RS9} (ho : rLen o = 1400) (hro : r ≠ o) (hn : n ≤ rLen r ∧ n ≤ 1400) (hrd : ∀ i, i < n → τ.2 r i = σ.2 r i) (hw : wS (σ.2 r) n + 2 ≤ 1400) : P2 (mX9_escapes v1 v2 v3 r (nI n) o σ) (mX9_escapes v1 v2 v3 r (nI n) o τ) (fun v σ' v' τ' => ∃ m W' : Nat, v = nI m ∧ v' = nI m ∧ m ≤ wS (σ.2 r) n + 2 ∧ W' ≤ 9 * n + 4 ∧ ES o m W' σ τ σ' τ') := by
  have hE : ES o 0 0 σ τ (rSf σ 56 0) (rSf τ 56 0) := ⟨sf_eq, sf_eq, fun i hi => absurd hi (by omega), Nat.le_refl _, ⟨fun _ _ => rfl, fun _ e => sf_ne e⟩, ⟨fun _ _ => rfl, fun _ e => sf_ne e⟩⟩
  have b28 : P2 (mX9_escapes_b28 v1 v2 v3 r (nI n) o (rSf σ 56 0)) (mX9_escapes_b28 v1 v2 v3 r (nI n) o (rSf τ 56 0)) (fun v σ' v' τ' => ∃ m W' : Nat, v = nI m ∧ v' = nI m ∧ m ≤ wS (σ.2 r) n + 2 ∧ W' ≤ 9 * n + 4 ∧ ES o m W' σ τ σ' τ') := by
    unfold mX9_escapes_b28 mX9_escapes_b29
    refine p2_eq rfl rfl (fun e => ?_) (fun e => absurd rfl e)
    unfold mX9_escapes_b44
    exact t2_escapes_l47 (w0 := 0) ho hro hn hrd hw ⟨by omega, fun _ => rfl⟩ rFU 0 0 0 _ _ hE (by omega) (by omega) (by omega) (by unfold rFU; omega)
  have h34 : wt9 34 = 2 := by decide
  unfold mX9_escapes
  refine p2_eq rfl rfl (fun e => ?_) (fun e => b28)
  refine p2_eq rfl rfl (fun e2 => ?_) (fun e2 => b28)
  refine p2_ro (t2_hasSign hn hrd) (fun y _ => ?_)
  dsimp only
  refine p2_eq rfl rfl (fun e3 => b28) (fun e3 => ?_)
  unfold mX9_escapes_b29
  refine p2_eq rfl rfl (fun e4 => absurd e4 (by decide)) (fun e4 => ?_)
  refine p2_call (t2_plain ho hE (by omega) rfl) (fun v s v' t h => ?_)
  dsimp only
  unfold mX9_escapes_b44
  exact t2_escapes_l47 (w0 := 1) ho hro hn hrd hw ⟨by omega, fun z => absurd z (by decide)⟩ rFU 0 1 _ _ _ h (by omega) (by omega) (by omega) (by unfold rFU; omega)
/-! what is built of one piece -/
def FX (σ0 σ : RS9) : Prop := (∀ k, k ≠ 46 → k ≠ 47 → k ≠ 53 → σ.2 k = σ0.2 k) ∧ ∀ k, k ≠ 56 → σ.1 k = σ0.1 k
def FW (σ0 σ : RS9) : Prop := (∀ k, k ≠ 46 → k ≠ 47 → σ.2 k = σ0.2 k) ∧ ∀ k, k ≠ 56 → σ.1 k = σ0.1 k
theorem fx_w {σ σ' : RS9} (h : FW σ σ') : FX σ σ' := ⟨fun k e1 e2 _ => h.1 k e1 e2, h.2⟩
theorem fw_e {o : Nat} {σ σ' : RS9} (h : FE o σ σ') (ho : o = 46 ∨ o = 47) : FW σ σ' := ⟨fun k e1 e2 => h.1 k (by omega), h.2⟩
theorem fw_tr {a b c : RS9} (h1 : FW a b) (h2 : FW b c) : FW a c := ⟨fun k e1 e2 => (h2.1 k e1 e2).trans (h1.1 k e1 e2), fun k e => (h2.2 k e).trans (h1.2 k e)⟩
theorem fx_e {o : Nat} {σ σ' : RS9} (h : FE o σ σ') (ho : o = 46 ∨ o = 47) : FX σ σ' := ⟨fun k e1 e2 _ => h.1 k (by omega), h.2⟩
theorem fx_tr {a b c : RS9} (h1 : FX a b) (h2 : FX b c) : FX a c := ⟨fun k e1 e2 e3 => (h2.1 k e1 e2 e3).trans (h1.1 k e1 e2 e3), fun k e => (h2.2 k e).trans (h1.2 k e)⟩
/-- what the building of a piece reads -/
def SLA (i : Nat) (σ τ : RS9) : Prop := ∀ j, 443 + 61 * i ≤ j → j < 504 + 61 * i → τ.2 1 j = σ.2 1 j
def BA (p : Nat) (σ τ : RS9) : Prop := (∀ i, i < 443 → i ≠ 42 → τ.2 1 i = σ.2 1 i) ∧ VM9 (σ.2 1) ∧ σ.1 33 = nI p ∧ τ.1 33 = nI p ∧ p ≤ 40 ∧ ∀ i, i < p → (τ.2 34 i = σ.2 34 i ∧ τ.2 35 i = σ.2 35 i ∧ τ.2 36 i = σ.2 36 i ∧ τ.2 37 i = σ.2 37 i ∧ τ.2 38 i = σ.2 38 i) ∧ 0 ≤ (σ.2 34 i).toInt ∧ (σ.2 34 i).toInt < (σ.2 35 i).toInt ∧ (σ.2 35 i).toInt ≤ 600
theorem ba_x {p : Nat} {σ τ σ' τ' : RS9} (h : BA p σ τ) (a : FX σ σ') (b : FX τ τ') : BA p σ' τ' := by
  unfold BA at h ⊢
  rw [a.1 1 (by decide) (by decide) (by decide), a.1 34 (by decide) (by decide) (by decide), a.1 35 (by decide) (by decide) (by decide), a.1 36 (by decide) (by decide) (by decide), a.1 37 (by decide) (by decide) (by decide), a.1 38 (by decide) (by decide) (by decide), a.2 33 (by decide), b.1 1 (by decide) (by decide) (by decide), b.1 34 (by decide) (by decide) (by decide), b.1 35 (by decide) (by decide) (by decide), b.1 36 (by decide) (by decide) (by decide), b.1 37 (by decide) (by decide) (by decide), b.1 38 (by decide) (by decide) (by decide), b.2 33 (by decide)]
  exact h
theorem ba_m {p : Nat} {σ τ : RS9} (h : BA p σ τ) {x : Int32} (hx : 0 ≤ x.toInt ∧ x.toInt < 42) : rGa τ 1 x = rGa σ 1 x := h.1 _ (by rw [tn]; omega) (by rw [tn]; omega)
/-- an answer of an escaping -/
def EA (v v' : Int32) : Prop := v' = v ∧ -1 ≤ v.toInt ∧ v.toInt ≤ 1400
set_option maxHeartbeats 1000000 in
theorem t2_escapedFor {p i n : Nat} {σ τ : RS9} (hB : BA p σ τ) (hi : i < p) (hn : n ≤ 60) (hrd : ∀ j, j < n → τ.2 53 j = σ.2 53 j) : P2 (mX9_escapedFor (nI i) (nI n) σ) (mX9_escapedFor (nI i) (nI n) τ) (fun v σ' v' τ' => EA v v' ∧ FW σ σ' ∧ FW τ τ') := by
  have hp := hB.2.2.2.2.1
  obtain ⟨⟨r34, r35, r36, r37, r38⟩, -⟩ := hB.2.2.2.2.2 i hi
  have ci : ∀ z, rLen z = 40 → rIn (nI i) (rLen z) = true := fun z hz => by rw [hz]; exact inb_nI (by omega) (by decide)
  have rd : ∀ (u : RS9) (z : Nat), rGa u z (nI i) = u.2 z i := fun u z => rd_nI (by omega)
  have hw53 := wS_5 (σ.2 53) n
  have ok : ∀ (m : Nat) (s t : RS9), m ≤ 1400 → FW σ s → FW τ t → P2 (some (nI m, s)) (some (nI m, t)) (fun v σ' v' τ' => EA v v' ∧ FW σ σ' ∧ FW τ τ') := fun m s t hm h1 h2 => p2_ret ⟨⟨rfl, by rw [nI_toInt (by omega)]; omega, by rw [nI_toInt (by omega)]; omega⟩, h1, h2⟩
  unfold mX9_escapedFor
  refine p2_ck rfl rfl ?_
  refine p2_eq (ba_m hB (by decide)) rfl (fun q => ?_) (fun q => ?_)
  · refine p2_ck rfl rfl ?_
    refine p2_ck (ci 36 rfl) (ci 36 rfl) ?_
    rw [ba_m hB (x := (1 : Int32)) (by decide)]
    have b47 : ∀ s2 s3 : Int32, P2 (mX9_escapedFor_b47 (nI n) (rGa σ 1 (1 : Int32)) s2 s3 σ) (mX9_escapedFor_b47 (nI n) (rGa σ 1 (1 : Int32)) s2 s3 τ) (fun v σ' v' τ' => EA v v' ∧ FW σ σ' ∧ FW τ τ') := fun s2 s3 => by
      unfold mX9_escapedFor_b47
      refine p2_call (t2_escapes (o := 47) rfl (by decide) ⟨hn, by omega⟩ hrd (by omega)) (fun v s v' t h => ?_)
      obtain ⟨m, W', rfl, rfl, hm, hW, hE⟩ := h
      exact ok m s t (by omega) (fw_e hE.2.2.2.2.1 (Or.inr rfl)) (fw_e hE.2.2.2.2.2 (Or.inr rfl))
    have b32 : ∀ s2 : Int32, P2 (mX9_escapedFor_b32 (nI i) (nI n) (rGa σ 1 (1 : Int32)) s2 σ) (mX9_escapedFor_b32 (nI i) (nI n) (rGa σ 1 (1 : Int32)) s2 τ) (fun v σ' v' τ' => EA v v' ∧ FW σ σ' ∧ FW τ τ') := fun s2 => by
      unfold mX9_escapedFor_b32
      refine p2_ck (ci 38 rfl) (ci 38 rfl) ?_
      exact p2_eq (by rw [rd, rd]; exact r38) rfl (fun _ => b47 s2 1) (fun _ => b47 s2 0)
    exact p2_eq (by rw [rd, rd]; exact r36) rfl (fun _ => b32 1) (fun _ => b32 0)
  · refine p2_ck rfl rfl ?_
    refine p2_ck (ci 37 rfl) (ci 37 rfl) ?_
    rw [ba_m hB (x := (2 : Int32)) (by decide)]
    have b82 : ∀ s2 : Int32, P2 (mX9_escapedFor_b82 (nI i) (nI n) (rGa σ 1 (2 : Int32)) s2 σ) (mX9_escapedFor_b82 (nI i) (nI n) (rGa σ 1 (2 : Int32)) s2 τ) (fun v σ' v' τ' => EA v v' ∧ FW σ σ' ∧ FW τ τ') := fun s2 => by
      unfold mX9_escapedFor_b82
      refine p2_call (t2_escapes (o := 46) rfl (by decide) ⟨hn, by omega⟩ hrd (by omega)) (fun v s v' t h => ?_)
      obtain ⟨m, W', rfl, rfl, hm, hW, hE⟩ := h
      dsimp only
      have hX := fw_e hE.2.2.2.2.1 (Or.inl rfl)
      have hX' := fw_e hE.2.2.2.2.2 (Or.inl rfl)
      have hB2 := ba_x hB (fx_w hX) (fx_w hX')
      obtain ⟨⟨-, -, z36, -, z38⟩, -⟩ := hB2.2.2.2.2.2 i hi
      have b165 : ∀ s2 s3 : Int32, P2 (mX9_escapedFor_b165 (nI m) (rGa s 1 (1 : Int32)) s2 s3 s) (mX9_escapedFor_b165 (nI m) (rGa s 1 (1 : Int32)) s2 s3 t) (fun v σ' v' τ' => EA v v' ∧ FW σ σ' ∧ FW τ τ') := fun s2 s3 => by
        unfold mX9_escapedFor_b165
        have hwE := hE.2.2.2.1
        refine p2_call (t2_escapes (o := 47) rfl (by decide) ⟨by show m ≤ 1400; omega, by omega⟩ hE.2.2.1 (by omega)) (fun v s4 v' t4 h => ?_)
        obtain ⟨m2, W2, rfl, rfl, hm2, hW2, hE2⟩ := h
        exact ok m2 s4 t4 (by omega) (fw_tr hX (fw_e hE2.2.2.2.2.1 (Or.inr rfl))) (fw_tr hX' (fw_e hE2.2.2.2.2.2 (Or.inr rfl)))
      have b128 : P2 (mX9_escapedFor_b128 (nI i) (nI m) s) (mX9_escapedFor_b128 (nI i) (nI m) t) (fun v σ' v' τ' => EA v v' ∧ FW σ σ' ∧ FW τ τ') := by
        unfold mX9_escapedFor_b128
        refine p2_ck rfl rfl ?_
        refine p2_ck (ci 36 rfl) (ci 36 rfl) ?_
        rw [ba_m hB2 (x := (1 : Int32)) (by decide)]
        have b150 : ∀ s2 : Int32, P2 (mX9_escapedFor_b150 (nI i) (nI m) (rGa s 1 (1 : Int32)) s2 s) (mX9_escapedFor_b150 (nI i) (nI m) (rGa s 1 (1 : Int32)) s2 t) (fun v σ' v' τ' => EA v v' ∧ FW σ σ' ∧ FW τ τ') := fun s2 => by
          unfold mX9_escapedFor_b150
          refine p2_ck (ci 38 rfl) (ci 38 rfl) ?_
          exact p2_eq (by rw [rd, rd]; exact z38) rfl (fun _ => b165 s2 1) (fun _ => b165 s2 0)
        exact p2_eq (by rw [rd, rd]; exact z36) rfl (fun _ => b150 1) (fun _ => b150 0)
      refine p2_ck rfl rfl ?_
      refine p2_eq (ba_m hB2 (by decide)) rfl (fun q2 => ?_) (fun q2 => b128)
      refine p2_ck (ci 36 rfl) (ci 36 rfl) ?_
      refine p2_eq (by rw [rd, rd]; exact z36) rfl (fun q3 => ?_) (fun q3 => b128)
      refine p2_ro (t2_hasSign (n := m) ⟨by show m ≤ 1400; omega, by omega⟩ hE.2.2.1) (fun y _ => ?_)
      dsimp only
      refine p2_eq rfl rfl (fun q4 => b128) (fun q4 => ?_)
      exact p2_ret ⟨⟨rfl, by decide, by decide⟩, hX, hX'⟩
    exact p2_eq (by rw [rd, rd]; exact r37) rfl (fun _ => b82 1) (fun _ => b82 0)
end
/-! part 41c.blt -/
section
theorem nI_mulc (a b : Nat) : nI a * nI b = nI (a * b) := (Int32.ofNat_mul a b).symm
theorem told_ix (i : Nat) : (443 : Int32) + ((61 : Int32) * nI i) = nI (443 + 61 * i) := by
  have e : (61 : Int32) * nI i = nI (61 * i) := nI_mulc 61 i
  rw [e]; exact nI_add 443 (61 * i)
theorem cr1 {k : Nat} (h : k < 4347) : rIn (nI k) (rLen 1) = true := inb_nI (n := 4347) h (by decide)
theorem toldOf_eq {i : Nat} (hi : i < 40) (σ : RS9) : mX9_toldOf (nI i) σ = some (σ.2 1 (443 + 61 * i), σ) := by
  unfold mX9_toldOf
  rw [told_ix, ck_t (cr1 (by omega)), rd_nI (by omega)]
theorem toldAt_eq {i k : Nat} (hi : i < 40) (hk : k < 60) (σ : RS9) : mX9_toldAt (nI i) (nI k) σ = some (σ.2 1 (443 + 61 * i + 1 + k), σ) := by
  unfold mX9_toldAt
  rw [told_ix, nI_1, nI_add, ck_t (cr1 (by omega)), rd_nI (by omega)]
theorem p2_bind {α β : Type} {Q : β → RS9 → β → RS9 → Prop} {o o' : Option α} {a a' : α} {k k' : α → Option (β × RS9)} (e : o = some a) (e' : o' = some a') (h : P2 (k a) (k' a') Q) : P2 (o.bind k) (o'.bind k') Q := by rw [e, e']; exact h
theorem t2_holdsTold_l2 {p i n : Nat} {σ0 τ0 : RS9} (hi : i < p) (hp : p ≤ 40) (hn : n ≤ 60) (ht : σ0.2 1 (443 + 61 * i) = nI n) : ∀ (d k : Nat) (σ τ : RS9), BA p σ τ → SLA i σ τ → FX σ0 σ → FX τ0 τ → (∀ j, j < k → τ.2 53 j = σ.2 53 j ∧ σ.2 53 j = σ0.2 1 (444 + 61 * i + j)) → k ≤ n → 100 < k + d → P2 (mX9_holdsTold_l2 d (nI i) (nI k) σ) (mX9_holdsTold_l2 d (nI i) (nI k) τ) (fun v σ' v' τ' => FX σ0 σ' ∧ FX τ0 τ' ∧ BA p σ' τ' ∧ SLA i σ' τ' ∧ ∀ j, j < n → τ'.2 53 j = σ'.2 53 j ∧ σ'.2 53 j = σ0.2 1 (444 + 61 * i + j)) := by
  intro d
  induction d with
  | zero => intro k σ τ _ _ _ _ _ hk hm; exfalso; omega
  | succ d ih =>
    intro k σ τ hB hSl hF hF' hr hk hm
    have ek : (nI k).toInt = (k : Int) := nI_toInt (by omega)
    have en : (nI n).toInt = (n : Int) := nI_toInt (by omega)
    have m1 : σ.2 1 = σ0.2 1 := hF.1 1 (by decide) (by decide) (by decide)
    have e1 : σ.2 1 (443 + 61 * i) = nI n := by rw [m1]; exact ht
    have e1' : τ.2 1 (443 + 61 * i) = nI n := (hSl _ (by omega) (by omega)).trans e1
    unfold mX9_holdsTold_l2
    refine p2_bind (toldOf_eq (by omega) σ) (toldOf_eq (by omega) τ) ?_
    dsimp only
    rw [e1, e1']
    refine p2_le en ek rfl rfl (fun q => ?_) (fun q => ?_)
    · exact p2_ret ⟨hF, hF', hB, hSl, fun j hj => hr j (by omega)⟩
    · refine p2_bind (toldAt_eq (by omega) (by omega) σ) (toldAt_eq (by omega) (by omega) τ) ?_
      dsimp only
      refine p2_ck (inb_nI (n := 60) (by omega) (by decide)) (inb_nI (n := 60) (by omega) (by decide)) ?_
      rw [nI_1, hSl (443 + 61 * i + 1 + k) (by omega) (by omega)]
      have g : ∀ (u : RS9) (x : Int32), FX u (rSa u 53 (nI k) x) := fun u x => ⟨fun z _ _ e3 => sa_ne e3, fun _ _ => rfl⟩
      have g1 : ∀ (u : RS9) (x : Int32), (rSa u 53 (nI k) x).2 1 = u.2 1 := fun u x => sa_ne (by decide)
      refine ih (k + 1) _ _ (ba_x hB (g σ _) (g τ _)) (fun j h1 h2 => by rw [g1, g1]; exact hSl j h1 h2) (fx_tr hF (g σ _)) (fx_tr hF' (g τ _)) (fun j hj => ?_) (by omega) (by omega)
      rw [sa_nI (by omega), sa_nI (by omega)]
      by_cases e : j = k
      · rw [if_pos e, if_pos e, m1, e, show 443 + 61 * i + 1 + k = 444 + 61 * i + k by omega]
        exact ⟨rfl, rfl⟩
      · rw [if_neg e, if_neg e]; exact hr j (by omega)
theorem t2_builtOf {p i : Nat} {σ τ : RS9} (hB : BA p σ τ) (hi : i < p) (hSl : SLA i σ τ) : P2 (mX9_builtOf (nI i) σ) (mX9_builtOf (nI i) τ) (fun v σ' v' τ' => EA v v' ∧ FX σ σ' ∧ FX τ τ' ∧ (σ.2 1 (443 + 61 * i) = -1 → v.toInt = (σ.2 35 i).toInt - (σ.2 34 i).toInt)) := by
  have hp := hB.2.2.2.2.1
  obtain ⟨⟨r34, r35, -⟩, b1, b2, b3⟩ := hB.2.2.2.2.2 i hi
  have ci : ∀ z, rLen z = 40 → rIn (nI i) (rLen z) = true := fun z hz => by rw [hz]; exact inb_nI (by omega) (by decide)
  have hv := hB.2.1.2.2.2.2.1 i (by omega)
  have frf : ∀ u : RS9, FX u u := fun u => ⟨fun _ _ _ _ => rfl, fun _ _ => rfl⟩
  unfold mX9_builtOf
  refine p2_bind (toldOf_eq (by omega) σ) (toldOf_eq (by omega) τ) ?_
  dsimp only
  rw [hSl (443 + 61 * i) (by omega) (by omega)]
  refine p2_eq rfl rfl (fun q => ?_) (fun q => ?_)
  · refine p2_ck (ci 35 rfl) (ci 35 rfl) ?_
    refine p2_ck (ci 34 rfl) (ci 34 rfl) ?_
    rw [rd_nI (by omega), rd_nI (by omega), rd_nI (by omega), rd_nI (by omega), r34, r35]
    have e : (σ.2 35 i - σ.2 34 i).toInt = (σ.2 35 i).toInt - (σ.2 34 i).toInt := i_sub rfl rfl (by omega)
    exact p2_ret ⟨⟨rfl, by omega, by omega⟩, frf σ, frf τ, fun _ => e⟩
  · have hne : (σ.2 1 (443 + 61 * i)).toInt ≠ -1 := fun h => q (Int32.toInt_inj.mp (h.trans kt_m1.symm))
    obtain ⟨n, hn6, hn⟩ := nI_back (x := σ.2 1 (443 + 61 * i)) (by omega) (by omega)
    have hn60 : n ≤ 60 := by
      have := hv.2
      rw [hn, nI_toInt (by omega)] at this; omega
    unfold mX9_holdsTold
    refine p2_call (t2_holdsTold_l2 hi hp hn60 hn rFU 0 σ τ hB hSl (frf σ) (frf τ) (fun j hj => absurd hj (by omega)) (by omega) (by unfold rFU; omega)) (fun v s v' t h => ?_)
    obtain ⟨g1, g2, g3, gS, g4⟩ := h
    dsimp only
    refine p2_bind (toldOf_eq (by omega) s) (toldOf_eq (by omega) t) ?_
    dsimp only
    have es : s.2 1 (443 + 61 * i) = nI n := by rw [g1.1 1 (by decide) (by decide) (by decide)]; exact hn
    have et : t.2 1 (443 + 61 * i) = nI n := (gS _ (by omega) (by omega)).trans es
    rw [es, et]
    refine p2_call (t2_escapedFor g3 hi hn60 (fun j hj => (g4 j hj).1)) (fun v s2 v' t2 h => ?_)
    obtain ⟨h1, h2, h3⟩ := h
    dsimp only
    exact p2_ret ⟨h1, fx_tr g1 (fx_w h2), fx_tr g2 (fx_w h3), fun e => absurd e q⟩
/-! how long all will be -/
def bo (σ : RS9) (i : Nat) : Int := match mX9_builtOf (nI i) σ with
  | some r => r.1.toInt
  | none => 0
theorem bo_eq {p i : Nat} {σ τ : RS9} (hB : BA p σ τ) (hi : i < p) (hSl : SLA i σ τ) : bo τ i = bo σ i ∧ -1 ≤ bo σ i ∧ bo σ i ≤ 1400 ∧ (σ.2 1 (443 + 61 * i) = -1 → bo σ i = (σ.2 35 i).toInt - (σ.2 34 i).toInt) := by
  obtain ⟨v, s, v', t, e, e', ⟨h1, h2, h3⟩, -, -, h4⟩ := t2_builtOf hB hi hSl
  unfold bo
  rw [e, e']
  exact ⟨congrArg Int32.toInt h1, h2, h3, h4⟩
theorem ba_self {p : Nat} {σ τ : RS9} (hB : BA p σ τ) : BA p σ σ := by
  obtain ⟨h1, h2, h3, h4, h5, h6⟩ := hB
  exact ⟨fun _ _ _ => rfl, h2, h3, h3, h5, fun i hi => ⟨⟨rfl, rfl, rfl, rfl, rfl⟩, (h6 i hi).2⟩⟩
def sm (σ : RS9) : Nat → Int
  | 0 => (σ.2 1 0).toInt
  | i + 1 => sm σ i + (bo σ i - ((σ.2 35 i).toInt - (σ.2 34 i).toInt))
theorem sm_b {p : Nat} {σ : RS9} (hB : BA p σ σ) : ∀ i, i ≤ p → -2001 * (i : Int) ≤ sm σ i ∧ sm σ i ≤ 400 + 1401 * (i : Int) := by
  intro i
  induction i with
  | zero => intro _; have := hB.2.1.1; show _ ≤ (σ.2 1 0).toInt ∧ (σ.2 1 0).toInt ≤ _; omega
  | succ i ih =>
    intro hi
    have h1 := ih (by omega)
    have h2 := (bo_eq hB (show i < p by omega) (fun _ _ _ => rfl)).2
    have h3 := (hB.2.2.2.2.2 i (by omega)).2
    show _ ≤ sm σ i + (bo σ i - _) ∧ sm σ i + (bo σ i - _) ≤ _
    omega
theorem sm_eq {p : Nat} {σ τ : RS9} (hB : BA p σ τ) (hSl : ∀ i, i < p → SLA i σ τ) : ∀ i, i ≤ p → sm τ i = sm σ i := by
  intro i
  induction i with
  | zero => intro _; show (τ.2 1 0).toInt = (σ.2 1 0).toInt; rw [hB.1 0 (by omega) (by omega)]
  | succ i ih =>
    intro hi
    have h3 := (hB.2.2.2.2.2 i (by omega)).1
    show sm τ i + (bo τ i - _) = sm σ i + (bo σ i - _)
    rw [ih (by omega), (bo_eq hB (show i < p by omega) (hSl i (by omega))).1, h3.1, h3.2.1]
theorem ba_fx {p : Nat} {σ σ' : RS9} (hB : BA p σ σ) (h : FX σ σ') : BA p σ σ' := ba_x hB ⟨fun _ _ _ _ => rfl, fun _ _ => rfl⟩ h
theorem builtMany_l9 {p : Nat} {σ0 : RS9} (hB0 : BA p σ0 σ0) : ∀ (d i : Nat) (v1 : Int32) (σ : RS9), FX σ0 σ → v1.toInt = sm σ0 i → i ≤ p → 100 < i + d → ∃ v σ', mX9_builtMany_l9 d v1 (nI i) σ = some (v, σ') ∧ v.toInt = sm σ0 p ∧ FX σ0 σ' := by
  have hp := hB0.2.2.2.2.1
  intro d
  induction d with
  | zero => intro i v1 σ _ _ hi hm; exfalso; omega
  | succ d ih =>
    intro i v1 σ hF hv hi hm
    have hB := ba_fx hB0 hF
    have ei : (nI i).toInt = (i : Int) := nI_toInt (by omega)
    have ep : (nI p).toInt = (p : Int) := nI_toInt (by omega)
    unfold mX9_builtMany_l9
    rw [hB.2.2.2.1]
    by_cases q : p ≤ i
    · have e : i = p := by omega
      subst e
      rw [if_pos (nI_le (Nat.le_refl _) (by omega))]
      exact ⟨v1, σ, rfl, hv, hF⟩
    · rw [if_neg (nI_ge (by omega) (by omega))]
      obtain ⟨v, s, v', t, e, e', ⟨h1, h2, h3⟩, g1, g2, h4⟩ := t2_builtOf hB (show i < p by omega) (fun j _ _ => by rw [hF.1 1 (by decide) (by decide) (by decide)])
      rw [e', Option.bind_some]
      have c40 : ∀ z, rLen z = 40 → rIn (nI i) (rLen z) = true := fun z hz => by rw [hz]; exact inb_nI (by omega) (by decide)
      dsimp only
      rw [ck_t (c40 35 rfl), ck_t (c40 34 rfl), rd_nI (by omega), rd_nI (by omega), nI_1, h1]
      have r35 : t.2 35 = σ0.2 35 := (g2.1 35 (by decide) (by decide) (by decide)).trans (hF.1 35 (by decide) (by decide) (by decide))
      have r34 : t.2 34 = σ0.2 34 := (g2.1 34 (by decide) (by decide) (by decide)).trans (hF.1 34 (by decide) (by decide) (by decide))
      rw [r34, r35]
      have hb := (hB0.2.2.2.2.2 i (by omega)).2
      have hs := sm_b hB0 i (by omega)
      have e1 : (σ0.2 35 i - σ0.2 34 i).toInt = (σ0.2 35 i).toInt - (σ0.2 34 i).toInt := i_sub rfl rfl (by omega)
      have e2 : (v - (σ0.2 35 i - σ0.2 34 i)).toInt = v.toInt - ((σ0.2 35 i).toInt - (σ0.2 34 i).toInt) := i_sub rfl e1 (by omega)
      have e3 : (v1 + (v - (σ0.2 35 i - σ0.2 34 i))).toInt = sm σ0 i + (v.toInt - ((σ0.2 35 i).toInt - (σ0.2 34 i).toInt)) := i_add hv e2 (by omega)
      have hbo : bo σ0 i = v.toInt := by unfold bo; rw [e]
      refine ih (i + 1) _ t (fx_tr hF g2) ?_ (by omega) (by omega)
      rw [e3]
      show _ = sm σ0 i + (bo σ0 i - _)
      rw [hbo]
theorem builtMany_x {p : Nat} {σ : RS9} (hB : BA p σ σ) : ∃ v σ', mX9_builtMany σ = some (v, σ') ∧ v.toInt = sm σ p ∧ FX σ σ' := by
  unfold mX9_builtMany
  rw [ck_t (show rIn (0 : Int32) (rLen 1) = true from rfl)]
  exact builtMany_l9 hB rFU 0 _ σ ⟨fun _ _ _ _ => rfl, fun _ _ => rfl⟩ rfl (by omega) (by unfold rFU; omega)
end
/-! part 42a.core -/
section
/-! one run -/
def P1 {α : Type} (o : Option (α × RS9)) (Q : α → RS9 → Prop) : Prop := ∃ v σ, o = some (v, σ) ∧ Q v σ
section P1S
variable {α β : Type} {Q : β → RS9 → Prop} {σ : RS9}
theorem q1_ret {v : β} (h : Q v σ) : P1 (some (v, σ)) Q := ⟨v, σ, rfl, h⟩
theorem q1_ck {b : Bool} {x : Option (β × RS9)} (hb : b = true) (h : P1 x Q) : P1 (rCk b x) Q := by rw [hb]; exact h
theorem q1_call {o : Option (α × RS9)} {Q1 : α → RS9 → Prop} {k : α × RS9 → Option (β × RS9)} (h1 : P1 o Q1) (h : ∀ v σ, Q1 v σ → P1 (k (v, σ)) Q) : P1 (o.bind k) Q := by
  obtain ⟨v, σ, e, q⟩ := h1
  rw [e]; exact h v σ q
theorem q1_bind {γ : Type} {o : Option γ} {a : γ} {k : γ → Option (β × RS9)} (e : o = some a) (h : P1 (k a) Q) : P1 (o.bind k) Q := by rw [e]; exact h
theorem q1_tail {o : Option (β × RS9)} {Q1 : β → RS9 → Prop} (h1 : P1 o Q1) (h : ∀ v σ, Q1 v σ → Q v σ) : P1 o Q := by
  obtain ⟨v, σ, e, q⟩ := h1
  exact ⟨v, σ, e, h v σ q⟩
theorem q1_lt {x y : Int32} {a b : Int} {A B : Option (β × RS9)} (ex : x.toInt = a) (ey : y.toInt = b) (h1 : a < b → P1 A Q) (h2 : b ≤ a → P1 B Q) : P1 (if x < y then A else B) Q := by
  subst ex ey
  by_cases h : x.toInt < y.toInt
  · rw [if_pos (c_lt h)]; exact h1 h
  · rw [if_neg (c_nlt (by omega))]; exact h2 (by omega)
theorem q1_le {x y : Int32} {a b : Int} {A B : Option (β × RS9)} (ex : x.toInt = a) (ey : y.toInt = b) (h1 : a ≤ b → P1 A Q) (h2 : b < a → P1 B Q) : P1 (if x ≤ y then A else B) Q := by
  subst ex ey
  by_cases h : x.toInt ≤ y.toInt
  · rw [if_pos (c_le h)]; exact h1 h
  · rw [if_neg (c_nle (by omega))]; exact h2 (by omega)
theorem q1_eq {x y : Int32} {A B : Option (β × RS9)} (h1 : x = y → P1 A Q) (h2 : x ≠ y → P1 B Q) : P1 (if x = y then A else B) Q := by
  by_cases h : x = y
  · rw [if_pos h]; exact h1 h
  · rw [if_neg h]; exact h2 h
theorem p1_of {o : Option (β × RS9)} {Q2 : β → RS9 → β → RS9 → Prop} (h : P2 o o Q2) : P1 o (fun v σ => Q2 v σ v σ) := by
  obtain ⟨v, s, v', t, e, e', q⟩ := h
  have e2 := Option.some.inj (e.symm.trans e')
  have a := (Prod.mk.inj e2).1
  have b := (Prod.mk.inj e2).2
  subst a b
  exact ⟨v, s, e, q⟩
end P1S
/-! the tables are those of the file -/
def kap (μ : Nat → Int32) : RS9 := (fun _ => 0, fun k => if k = 1 then μ else fun _ => 0)
def CT (μ : Nat → Int32) : RS9 := match mX9_cutsFile (kap μ) with
  | some r => r.2
  | none => kap μ
def TAB (σ : RS9) : Prop := ∃ p R : Nat, σ.2 1 0 = nI R ∧ R ≤ 400 ∧ PR p R σ (CT (σ.2 1))
def BUI (σ : RS9) : Prop := ∃ p : Nat, σ.1 33 = nI p ∧ p ≤ 40 ∧ (∀ i, i < p → 0 ≤ bo σ i) ∧ sm σ p ≤ 600
def GOOD (μ : Nat → Int32) : Prop := VM9 μ ∧ BUI (CT μ)
def CORE (σ : RS9) : Prop := VM9 (σ.2 1) ∧ TAB σ ∧ BUI σ
theorem kap_1 (μ : Nat → Int32) : (kap μ).2 1 = μ := rfl
theorem nI_inj {a b : Nat} (ha : a < 2 ^ 31) (hb : b < 2 ^ 31) (h : nI a = nI b) : a = b := (nI_eq ha hb).mp h
theorem ct_two {μ ν : Nat → Int32} (hV : VM9 μ) (h : ∀ i, i < 443 → i ≠ 42 → ν i = μ i) : ∃ p R : Nat, μ 0 = nI R ∧ R ≤ 400 ∧ PR p R (CT μ) (CT ν) ∧ (CT μ).2 1 = μ ∧ (CT ν).2 1 = ν := by
  obtain ⟨v, s, v', t, e, e', p, R, h1, h2, h3, h4, h5, h6⟩ := t2_cutsFile (σ := kap μ) (τ := kap ν) (by rw [kap_1, kap_1]; exact h) (by rw [kap_1]; exact hV)
  rw [kap_1] at h1
  have a : CT μ = s := by unfold CT; rw [e]
  have b : CT ν = t := by unfold CT; rw [e']
  rw [a, b]
  exact ⟨p, R, h1, h2, h3, (h4.1 1 (by omega)).trans (kap_1 μ), (h5.1 1 (by omega)).trans (kap_1 ν)⟩
theorem cut_tab {σ : RS9} (hV : VM9 (σ.2 1)) : P1 (mX9_cutsFile σ) (fun v σ' => FRB σ σ' ∧ TAB σ') := by
  obtain ⟨v, s, v', t, e, e', p, R, h1, h2, h3, h4, h5, h6⟩ := t2_cutsFile (σ := σ) (τ := kap (σ.2 1)) (by rw [kap_1]; exact fun _ _ _ => rfl) hV
  refine ⟨v, s, e, h4, p, R, ?_, h2, ?_⟩
  · rw [h4.1 1 (by omega)]; exact h1
  · have b : CT (s.2 1) = t := by rw [h4.1 1 (by omega)]; unfold CT; rw [e']
    rw [b]; exact h3
theorem ba_of {p R : Nat} {σ τ : RS9} (hP : PR p R σ τ) (hV : VM9 (σ.2 1)) (hm : ∀ i, i < 443 → i ≠ 42 → τ.2 1 i = σ.2 1 i) : BA p σ τ := ⟨hm, hV, hP.1, hP.2.1, hP.2.2.1, fun i hi => by
  obtain ⟨b1, b2, b3, b4, -⟩ := hP.2.2.2.2.2.2.2 i hi
  have := hP.2.2.2.2.2.2.1
  exact ⟨b1, b2, b3, by omega⟩⟩
theorem bui_eq {p : Nat} {σ τ : RS9} (hB : BA p σ τ) (hSl : ∀ i, i < p → SLA i σ τ) : BUI σ ↔ BUI τ := by
  have hp := hB.2.2.2.2.1
  constructor
  · intro ⟨p', e, h4, h1, h2⟩
    have ep : p' = p := nI_inj (by omega) (by omega) (e.symm.trans hB.2.2.1)
    subst ep
    exact ⟨p', hB.2.2.2.1, h4, fun i hi => by rw [(bo_eq hB hi (hSl i hi)).1]; exact h1 i hi, by rw [sm_eq hB hSl p' (Nat.le_refl _)]; exact h2⟩
  · intro ⟨p', e, h4, h1, h2⟩
    have ep : p' = p := nI_inj (by omega) (by omega) (e.symm.trans hB.2.2.2.1)
    subst ep
    exact ⟨p', hB.2.2.1, h4, fun i hi => by rw [← (bo_eq hB hi (hSl i hi)).1]; exact h1 i hi, by rw [← sm_eq hB hSl p' (Nat.le_refl _)]; exact h2⟩
theorem tab_good {σ : RS9} (hV : VM9 (σ.2 1)) (hT : TAB σ) : BUI σ ↔ GOOD (σ.2 1) := by
  obtain ⟨p, R, h1, h2, h3⟩ := hT
  obtain ⟨p', R', -, -, -, hc, -⟩ := ct_two hV (fun i _ _ => rfl)
  have hB : BA p σ (CT (σ.2 1)) := ba_of h3 hV (by rw [hc]; exact fun _ _ _ => rfl)
  rw [bui_eq hB (fun i _ j _ _ => by rw [hc])]
  exact ⟨fun h => ⟨hV, h⟩, fun h => h.2⟩
theorem vm_eq {μ ν : Nat → Int32} (hV : VM9 μ) (h : ∀ i, i < 4347 → ν i = μ i) : VM9 ν := by
  obtain ⟨h1, h2, h3, h4, h5, h6, h7⟩ := hV
  refine ⟨by rw [h 0 (by omega)]; exact h1, by rw [h 4 (by omega)]; exact h2, by rw [h 5 (by omega)]; exact h3, by rw [h 42 (by omega)]; exact h4, fun p hp => by rw [h _ (by omega)]; exact h5 p hp, fun k hk => by rw [h _ (by omega)]; exact h6 k hk, fun l hl => by rw [h _ (by omega)]; exact h7 l hl⟩
theorem good_eq {μ ν : Nat → Int32} (hG : GOOD μ) (h : ∀ i, i < 4347 → ν i = μ i) : GOOD ν := by
  obtain ⟨p, R, h1, h2, h3, c1, c2⟩ := ct_two hG.1 (fun i hi _ => h i (by omega))
  refine ⟨vm_eq hG.1 h, ?_⟩
  have hB : BA p (CT μ) (CT ν) := ba_of h3 (by rw [c1]; exact hG.1) (by rw [c1, c2]; exact fun i hi _ => h i (by omega))
  have hp := hB.2.2.2.2.1
  exact (bui_eq hB (fun i hi j _ hj => by rw [c1, c2]; exact h j (by omega))).mp hG.2
/-- the file is cut anew: all stands again -/
theorem cut_core {σ : RS9} (hG : GOOD (σ.2 1)) : P1 (mX9_cutsFile σ) (fun v σ' => FRB σ σ' ∧ CORE σ') := by
  refine q1_tail (cut_tab hG.1) (fun v s h => ?_)
  have e : s.2 1 = σ.2 1 := h.1.1 1 (by omega)
  have hV : VM9 (s.2 1) := by rw [e]; exact hG.1
  exact ⟨h.1, hV, h.2, (tab_good hV h.2).mpr (by rw [e]; exact hG)⟩
/-- tables stay, where the rules and the file do -/
theorem tab_m {σ σ' : RS9} (hV : VM9 (σ.2 1)) (hT : TAB σ) (hm : ∀ i, i < 443 → i ≠ 42 → σ'.2 1 i = σ.2 1 i) (hr : ∀ k, 34 ≤ k → k ≤ 42 → σ'.2 k = σ.2 k) (h33 : σ'.1 33 = σ.1 33) (h45 : σ'.1 45 = σ.1 45) : TAB σ' := by
  obtain ⟨p, R, h1, h2, h3⟩ := hT
  obtain ⟨p', R', g1, g2, g3, -, -⟩ := ct_two (ν := σ'.2 1) hV hm
  have eR : R = R' := nI_inj (by omega) (by omega) (h1.symm.trans g1)
  have ep : p = p' := nI_inj (by have := h3.2.2.1; omega) (by have := g3.2.2.1; omega) (h3.2.1.symm.trans g3.1)
  subst eR ep
  refine ⟨p, R, by rw [hm 0 (by omega) (by omega)]; exact h1, h2, ?_⟩
  have h3' : PR p R σ' (CT (σ.2 1)) := pr_rows h3 hr (fun _ _ _ => rfl) h33 rfl h45 rfl
  obtain ⟨a1, a2, a3, a4, a5, a6, a7, a8⟩ := h3'
  obtain ⟨b1, b2, b3, b4, b5, b6, b7, b8⟩ := g3
  refine ⟨a1, b2, a3, b4.trans a4, a5, a6, a7, fun i hi => ?_⟩
  obtain ⟨⟨c1, c2, c3, c4, c5⟩, c6⟩ := a8 i hi
  obtain ⟨⟨d1, d2, d3, d4, d5⟩, -⟩ := b8 i hi
  exact ⟨⟨d1.trans c1, d2.trans c2, d3.trans c3, d4.trans c4, d5.trans c5⟩, c6⟩
theorem tab_ba {σ : RS9} (hV : VM9 (σ.2 1)) (hT : TAB σ) : ∃ p : Nat, BA p σ σ := by
  obtain ⟨p, R, h1, h2, h3⟩ := hT
  obtain ⟨p', R', -, -, -, hc, -⟩ := ct_two hV (fun i _ _ => rfl)
  have hB : BA p σ (CT (σ.2 1)) := ba_of h3 hV (by rw [hc]; exact fun _ _ _ => rfl)
  exact ⟨p, ba_self hB⟩
/-- what stays where only rows of the work change -/
theorem core_fr {σ σ' : RS9} (hC : CORE σ) (hm : σ'.2 1 = σ.2 1) (hr : ∀ k, 34 ≤ k → k ≤ 42 → σ'.2 k = σ.2 k) (h33 : σ'.1 33 = σ.1 33) (h45 : σ'.1 45 = σ.1 45) : CORE σ' := by
  obtain ⟨hV, hT, hU⟩ := hC
  obtain ⟨p, hB⟩ := tab_ba hV hT
  refine ⟨by rw [hm]; exact hV, tab_m hV hT (fun i _ _ => by rw [hm]) hr h33 h45, ?_⟩
  have hB2 : BA p σ σ' := by
    obtain ⟨b1, b2, b3, b4, b5, b6⟩ := hB
    refine ⟨fun i _ _ => by rw [hm], b2, b3, h33.trans b4, b5, fun i hi => ?_⟩
    rw [hr 34 (by decide) (by decide), hr 35 (by decide) (by decide), hr 36 (by decide) (by decide), hr 37 (by decide) (by decide), hr 38 (by decide) (by decide)]
    exact b6 i hi
  exact (bui_eq hB2 (fun i _ j _ _ => by rw [hm])).mp hU
end
/-! part 42b.look -/
section
/-! looking at pieces -/
theorem q1_ro {α β : Type} {Q : β → RS9 → Prop} {σ : RS9} {o : Option (α × RS9)} {P : α → Prop} {k : α × RS9 → Option (β × RS9)} (h1 : P1 o (fun v σ' => σ' = σ ∧ P v)) (h : ∀ v, P v → P1 (k (v, σ)) Q) : P1 (o.bind k) Q := by
  obtain ⟨v, s, e, rfl, q⟩ := h1
  rw [e]; exact h v q
def CP (p : Nat) (σ : RS9) : Prop := σ.1 33 = nI p ∧ p ≤ 40 ∧ VM9 (σ.2 1) ∧ ∀ i, i < p → 0 ≤ (σ.2 34 i).toInt ∧ (σ.2 34 i).toInt < (σ.2 35 i).toInt ∧ (σ.2 35 i).toInt ≤ 600 ∧ 0 ≤ (σ.2 41 i).toInt ∧ 0 ≤ (σ.2 42 i).toInt ∧ (σ.2 41 i).toInt + (σ.2 42 i).toInt ≤ 600
def nm9 (σ : RS9) (x : Int32) : Int := if σ.2 1 (443 + 61 * x.toInt.toNat) = -1 then (rGa σ 42 x).toInt else (σ.2 1 (443 + 61 * x.toInt.toNat)).toInt
section LOOK
variable {p : Nat} {σ : RS9}
theorem cp_33 (hC : CP p σ) : (σ.1 33).toInt = (p : Int) := by rw [hC.1]; exact nI_toInt (by have := hC.2.1; omega)
theorem cp_rd (hC : CP p σ) {x : Int32} (hx : 0 ≤ x.toInt ∧ x.toInt < (p : Int)) : 0 ≤ (rGa σ 34 x).toInt ∧ (rGa σ 34 x).toInt < (rGa σ 35 x).toInt ∧ (rGa σ 35 x).toInt ≤ 600 ∧ 0 ≤ (rGa σ 41 x).toInt ∧ 0 ≤ (rGa σ 42 x).toInt ∧ (rGa σ 41 x).toInt + (rGa σ 42 x).toInt ≤ 600 := hC.2.2.2 _ (by rw [tn]; omega)
theorem cp_ck (hC : CP p σ) {x : Int32} (hx : 0 ≤ x.toInt ∧ x.toInt < (p : Int)) {r : Nat} (hr : rLen r = 40) : rIn x (rLen r) = true := by
  have := hC.2.1
  rw [hr]; exact in_of hx.1 (by omega)
theorem nI_x {x : Int32} (h0 : 0 ≤ x.toInt) (h1 : x.toInt ≤ 600) : x = nI x.toInt.toNat := Int32.toInt_inj.mp (by rw [nI_toInt (by omega)]; omega)
theorem o_toldOf (hC : CP p σ) {x : Int32} (hx : 0 ≤ x.toInt ∧ x.toInt < (p : Int)) : P1 (mX9_toldOf x σ) (fun v σ' => σ' = σ ∧ (v = σ.2 1 (443 + 61 * x.toInt.toNat) ∧ -1 ≤ v.toInt ∧ v.toInt ≤ 60)) := by
  have hp := hC.2.1
  rw [nI_x hx.1 (by omega), toldOf_eq (by omega)]
  have e : (nI x.toInt.toNat).toInt.toNat = x.toInt.toNat := by rw [nI_toInt (by omega)]; rfl
  rw [e]
  exact q1_ret ⟨rfl, rfl, hC.2.2.1.2.2.2.2.1 _ (by omega)⟩
theorem nm_b (hC : CP p σ) {x : Int32} (hx : 0 ≤ x.toInt ∧ x.toInt < (p : Int)) : 0 ≤ nm9 σ x ∧ nm9 σ x ≤ 600 := by
  have hp := hC.2.1
  have h1 := cp_rd hC hx
  have h2 := hC.2.2.1.2.2.2.2.1 x.toInt.toNat (by omega)
  unfold nm9
  by_cases e : σ.2 1 (443 + 61 * x.toInt.toNat) = -1
  · rw [if_pos e]; omega
  · rw [if_neg e]
    have : (σ.2 1 (443 + 61 * x.toInt.toNat)).toInt ≠ -1 := fun h => e (Int32.toInt_inj.mp (h.trans kt_m1.symm))
    omega
theorem o_nowMany (hC : CP p σ) {x : Int32} (hx : 0 ≤ x.toInt ∧ x.toInt < (p : Int)) : P1 (mX9_nowMany x σ) (fun v σ' => σ' = σ ∧ (v.toInt = nm9 σ x)) := by
  unfold mX9_nowMany
  refine q1_ro (o_toldOf hC hx) (fun y hy => ?_)
  dsimp only
  refine q1_eq (fun q => ?_) (fun q => ?_)
  · refine q1_ck (cp_ck hC hx rfl) ?_
    exact q1_ret ⟨rfl, by unfold nm9; rw [if_pos (hy.1.symm.trans q)]⟩
  · refine q1_ro (o_toldOf hC hx) (fun z hz => ?_)
    exact q1_ret ⟨rfl, by unfold nm9; rw [if_neg (fun e => q (hy.1.trans e)), hz.1]⟩
theorem o_nowByte (hC : CP p σ) {x k : Int32} (hx : 0 ≤ x.toInt ∧ x.toInt < (p : Int)) (hk : 0 ≤ k.toInt ∧ k.toInt < nm9 σ x) : P1 (mX9_nowByte x k σ) (fun v σ' => σ' = σ ∧ True) := by
  have hp := hC.2.1
  have h1 := cp_rd hC hx
  have hn := nm_b hC hx
  unfold mX9_nowByte
  refine q1_ro (o_toldOf hC hx) (fun y hy => ?_)
  dsimp only
  refine q1_eq (fun q => ?_) (fun q => ?_)
  · have hk2 : k.toInt < (rGa σ 42 x).toInt := by
      have := hk.2; unfold nm9 at this; rw [if_pos (hy.1.symm.trans q)] at this; exact this
    refine q1_ck (cp_ck hC hx rfl) ?_
    have e : ((rGa σ 41 x) + k).toInt = (rGa σ 41 x).toInt + k.toInt := i_add rfl rfl (by omega)
    refine q1_ck (in_of (N := 600) (by omega) (by omega)) ?_
    exact q1_ret ⟨rfl, trivial⟩
  · have hk2 : k.toInt < y.toInt := by
      have := hk.2; unfold nm9 at this; rw [if_neg (fun e => q (hy.1.trans e)), ← hy.1] at this; exact this
    rw [nI_x hx.1 (by omega), nI_x hk.1 (by omega)]
    refine q1_bind (toldAt_eq (by omega) (by omega) σ) ?_
    exact q1_ret ⟨rfl, trivial⟩
theorem o_isIn {x a b : Int32} : P1 (mX9_isIn x a b σ) (fun v σ' => σ' = σ ∧ ((v = 0 ∨ v = 1) ∧ (v ≠ 0 → a.toInt ≤ x.toInt ∧ x.toInt ≤ b.toInt))) := by
  unfold mX9_isIn
  refine q1_lt rfl rfl (fun q => ?_) (fun q => ?_)
  · exact q1_ck rfl (q1_ret ⟨rfl, Or.inl rfl, fun e => absurd rfl e⟩)
  · refine q1_lt rfl rfl (fun q2 => ?_) (fun q2 => ?_)
    · exact q1_ck rfl (q1_ret ⟨rfl, Or.inl rfl, fun e => absurd rfl e⟩)
    · exact q1_ck rfl (q1_ret ⟨rfl, Or.inr rfl, fun _ => ⟨q, q2⟩⟩)
theorem o_isLetter {x : Int32} : P1 (mX9_isLetter x σ) (fun v σ' => σ' = σ ∧ (v = 0 ∨ v = 1)) := by
  refine q1_tail (p1_of (t2_isLetter (σ := σ) (τ := σ) (x := x) rfl)) (fun v s h => ⟨h.1, h.2.2.2⟩)
theorem o_isPieceThere (hC : CP p σ) {x : Int32} : P1 (mX9_isPieceThere x σ) (fun v σ' => σ' = σ ∧ ((v = 0 ∨ v = 1) ∧ (v ≠ 0 → 0 ≤ x.toInt ∧ x.toInt < (p : Int)))) := by
  have hp := hC.2.1
  have e : ((σ.1 33) - (1 : Int32)).toInt = (p : Int) - 1 := i_sub (cp_33 hC) kt_1 (by omega)
  unfold mX9_isPieceThere
  refine q1_ro o_isIn (fun y hy => ?_)
  dsimp only
  refine q1_ck (nb_of hy.1) (q1_ret ⟨rfl, hy.1, fun h => ?_⟩)
  have := hy.2 h
  rw [e, kt_0] at this
  omega
theorem o_areLike_l24 (hC : CP p σ) {x y : Int32} (hx : 0 ≤ x.toInt ∧ x.toInt < (p : Int)) (hy : 0 ≤ y.toInt ∧ y.toInt < (p : Int)) : ∀ (d : Nat) (v3 v4 : Int32), (v3 = 0 ∨ v3 = 1) → (v3 ≠ 0 → rGa σ 42 x = rGa σ 42 y) → (0 ≤ v4.toInt ∧ v4.toInt ≤ 700) → 1000 - v4.toInt < (d : Int) → P1 (mX9_areLike_l24 d x y v3 v4 σ) (fun v σ' => σ' = σ ∧ (v = 0 ∨ v = 1)) := by
  have h1 := cp_rd hC hx
  have h2 := cp_rd hC hy
  intro d
  induction d with
  | zero => intro v3 v4 _ _ _ hm; exfalso; omega
  | succ d ih =>
    intro v3 v4 hb he h4 hm
    unfold mX9_areLike_l24
    refine q1_ck (cp_ck hC hx rfl) ?_
    refine q1_le rfl rfl (fun q => ?_) (fun q => ?_)
    · exact q1_ck (nb_of hb) (q1_ret ⟨rfl, hb⟩)
    · refine q1_eq (fun q2 => ?_) (fun q2 => ?_)
      · exact q1_ck (nb_of hb) (q1_ret ⟨rfl, hb⟩)
      · have h3 := he q2
        rw [← h3] at h2
        have e1 : ((rGa σ 41 x) + v4).toInt = (rGa σ 41 x).toInt + v4.toInt := i_add rfl rfl (by omega)
        have e2 : ((rGa σ 41 y) + v4).toInt = (rGa σ 41 y).toInt + v4.toInt := i_add rfl rfl (by omega)
        have e4 : (v4 + (1 : Int32)).toInt = v4.toInt + 1 := i_add rfl kt_1 (by omega)
        refine q1_ck (cp_ck hC hx rfl) (q1_ck (in_of (N := 600) (by omega) (by omega)) (q1_ck (cp_ck hC hy rfl) (q1_ck (in_of (N := 600) (by omega) (by omega)) ?_)))
        refine q1_eq (fun q3 => ?_) (fun q3 => ?_)
        · exact ih 1 (v4 + (1 : Int32)) (Or.inr rfl) (fun _ => h3) (by omega) (by omega)
        · exact ih 0 (v4 + (1 : Int32)) (Or.inl rfl) (fun e => absurd rfl e) (by omega) (by omega)
theorem o_areLike (hC : CP p σ) {x y : Int32} (hx : 0 ≤ x.toInt ∧ x.toInt < (p : Int)) (hy : 0 ≤ y.toInt ∧ y.toInt < (p : Int)) : P1 (mX9_areLike x y σ) (fun v σ' => σ' = σ ∧ (v = 0 ∨ v = 1)) := by
  unfold mX9_areLike
  refine q1_ck (cp_ck hC hx rfl) (q1_ck (cp_ck hC hy rfl) ?_)
  refine q1_eq (fun q => ?_) (fun q => ?_)
  · exact o_areLike_l24 hC hx hy rFU 1 0 (Or.inr rfl) (fun _ => q) (by decide) (by unfold rFU; rw [kt_0]; omega)
  · exact o_areLike_l24 hC hx hy rFU 0 0 (Or.inl rfl) (fun e => absurd rfl e) (by decide) (by unfold rFU; rw [kt_0]; omega)
theorem o_likeMany (hC : CP p σ) {x : Int32} (hx : 0 ≤ x.toInt ∧ x.toInt < (p : Int)) : P1 (mX9_likeMany x σ) (fun v σ' => σ' = σ ∧ True) := by
  have hp := hC.2.1
  have key : ∀ (d : Nat) (v2 v3 : Int32), (0 ≤ v3.toInt ∧ v3.toInt ≤ 100) → 1000 - v3.toInt < (d : Int) → P1 (mX9_likeMany_l4 d x v2 v3 σ) (fun v σ' => σ' = σ ∧ True) := by
    intro d
    induction d with
    | zero => intro v2 v3 _ hm; exfalso; omega
    | succ d ih =>
      intro v2 v3 h3 hm
      unfold mX9_likeMany_l4
      refine q1_le (cp_33 hC) rfl (fun q => q1_ret ⟨rfl, trivial⟩) (fun q => ?_)
      have e3 : (v3 + (1 : Int32)).toInt = v3.toInt + 1 := i_add rfl kt_1 (by omega)
      refine q1_ro (o_areLike hC hx (by omega)) (fun y _ => ?_)
      dsimp only
      exact q1_eq (fun _ => ih _ _ (by omega) (by omega)) (fun _ => ih _ _ (by omega) (by omega))
  exact key rFU 0 0 (by decide) (by unfold rFU; rw [kt_0]; omega)
theorem o_wordsOf (hC : CP p σ) {x : Int32} (hx : 0 ≤ x.toInt ∧ x.toInt < (p : Int)) : P1 (mX9_wordsOf x σ) (fun v σ' => σ' = σ ∧ True) := by
  have hn := nm_b hC hx
  have key : ∀ (d : Nat) (v2 v3 : Int32), (0 ≤ v3.toInt ∧ v3.toInt ≤ 700) → 1000 - v3.toInt < (d : Int) → P1 (mX9_wordsOf_l4 d x v2 v3 σ) (fun v σ' => σ' = σ ∧ True) := by
    intro d
    induction d with
    | zero => intro v2 v3 _ hm; exfalso; omega
    | succ d ih =>
      intro v2 v3 h3 hm
      unfold mX9_wordsOf_l4
      refine q1_ro (o_nowMany hC hx) (fun y hy => ?_)
      dsimp only
      refine q1_le hy rfl (fun q => q1_ret ⟨rfl, trivial⟩) (fun q => ?_)
      have e3 : (v3 + (1 : Int32)).toInt = v3.toInt + 1 := i_add rfl kt_1 (by omega)
      have nx : ∀ w : Int32, P1 (mX9_wordsOf_l4 d x w (v3 + (1 : Int32)) σ) (fun v σ' => σ' = σ ∧ True) := fun w => ih w _ (by omega) (by omega)
      refine q1_ro (o_nowByte hC hx (by omega)) (fun b _ => ?_)
      refine q1_ro o_isLetter (fun b _ => ?_)
      dsimp only
      refine q1_eq (fun _ => nx _) (fun _ => ?_)
      refine q1_eq (fun _ => nx _) (fun q3 => ?_)
      have h0 : v3.toInt ≠ 0 := fun h => q3 (Int32.toInt_inj.mp (h.trans kt_0.symm))
      have e4 : (v3 - (1 : Int32)).toInt = v3.toInt - 1 := i_sub rfl kt_1 (by omega)
      refine q1_ro (o_nowByte hC hx (by omega)) (fun b _ => ?_)
      refine q1_ro o_isLetter (fun b _ => ?_)
      dsimp only
      exact q1_eq (fun _ => nx _) (fun _ => nx _)
  exact key rFU 0 0 (by decide) (by unfold rFU; rw [kt_0]; omega)
end LOOK
end
/-! part 42c.look -/
section
section LOOK2
variable {p : Nat} {σ : RS9}
theorem cp_sf (hC : CP p σ) {k : Nat} {v : Int32} (hk : 33 ≠ k) : CP p (rSf σ k v) := ⟨(sf_ne hk).trans hC.1, hC.2⟩
theorem o_knownOf (hC : CP p σ) {x : Int32} (hx : 0 ≤ x.toInt ∧ x.toInt < (p : Int)) : P1 (mX9_knownOf x σ) (fun v σ' => σ' = σ ∧ True) := by
  have h1 := cp_rd hC hx
  have hv := hC.2.2.1
  have inner : ∀ (D : Nat) (rec2 : Int32 → Int32 → RS9 → Option (Int32 × RS9)) (v2 v3 : Int32), (P1 (rec2 x (v2 + (1 : Int32)) σ) (fun v σ' => σ' = σ ∧ True)) → (2883 ≤ v3.toInt ∧ v3.toInt ≤ 4225) → ∀ (d : Nat) (v4 v5 : Int32), (v4 ≠ 0 → (rGa σ 42 x).toInt ≤ 60) → (0 ≤ v5.toInt ∧ v5.toInt ≤ 700) → 1000 - v5.toInt < (d : Int) → P1 (mX9_knownOf_l47 rec2 d x v2 v3 v4 v5 σ) (fun v σ' => σ' = σ ∧ True) := by
    intro D rec2 v2 v3 Hr h3 d
    induction d with
    | zero => intro v4 v5 _ _ hm; exfalso; omega
    | succ d ih =>
      intro v4 v5 h4 h5 hm
      have b104 : P1 (mX9_knownOf_b104 rec2 x v2 v4 σ) (fun v σ' => σ' = σ ∧ True) := by
        unfold mX9_knownOf_b104
        exact q1_eq (fun _ => Hr) (fun _ => q1_ret ⟨rfl, trivial⟩)
      unfold mX9_knownOf_l47
      refine q1_ck (cp_ck hC hx rfl) ?_
      refine q1_le rfl rfl (fun q => b104) (fun q => ?_)
      refine q1_eq (fun q2 => b104) (fun q2 => ?_)
      have h6 := h4 q2
      have e1 : ((rGa σ 41 x) + v5).toInt = (rGa σ 41 x).toInt + v5.toInt := i_add rfl rfl (by omega)
      have e3 : (v3 + (1 : Int32)).toInt = v3.toInt + 1 := i_add rfl kt_1 (by omega)
      have e4 : ((v3 + (1 : Int32)) + v5).toInt = v3.toInt + 1 + v5.toInt := i_add e3 rfl (by omega)
      have e5 : (v5 + (1 : Int32)).toInt = v5.toInt + 1 := i_add rfl kt_1 (by omega)
      refine q1_ck (in_of (N := 4347) (by omega) (by omega)) (q1_ck (cp_ck hC hx rfl) (q1_ck (in_of (N := 600) (by omega) (by omega)) ?_))
      exact q1_eq (fun _ => ih 1 (v5 + (1 : Int32)) (fun _ => h6) (by omega) (by omega)) (fun _ => ih 0 (v5 + (1 : Int32)) (fun e => absurd rfl e) (by omega) (by omega))
  have key : ∀ (d : Nat) (v2 : Int32), (0 ≤ v2.toInt ∧ v2.toInt ≤ 100) → 1000 - v2.toInt < (d : Int) → P1 (mX9_knownOf_l2 d x v2 σ) (fun v σ' => σ' = σ ∧ True) := by
    intro d
    induction d with
    | zero => intro v2 _ hm; exfalso; omega
    | succ d ih =>
      intro v2 h2 hm
      have h42 := hv.2.2.2.1
      unfold mX9_knownOf_l2
      refine q1_ck rfl ?_
      refine q1_le (show (rGa σ 1 (42 : Int32)).toInt = (σ.2 1 42).toInt from rfl) rfl (fun q => q1_ret ⟨rfl, trivial⟩) (fun q => ?_)
      have e0 : ((122 : Int32) * v2).toInt = 122 * v2.toInt := i_mul (show (122 : Int32).toInt = 122 by decide) rfl (by omega)
      have e1 : ((2883 : Int32) + ((122 : Int32) * v2)).toInt = 2883 + 122 * v2.toInt := i_add (show (2883 : Int32).toInt = 2883 by decide) e0 (by omega)
      have e2 : (v2 + (1 : Int32)).toInt = v2.toInt + 1 := i_add rfl kt_1 (by omega)
      have Hr := ih (v2 + (1 : Int32)) (by omega) (by omega)
      have h60 : (rGa σ 1 ((2883 : Int32) + ((122 : Int32) * v2))).toInt ≤ 60 := by
        have hidx : ((2883 : Int32) + ((122 : Int32) * v2)).toNatClampNeg = 2883 + 61 * (2 * v2.toInt.toNat) := by rw [tn]; omega
        unfold rGa
        rw [hidx]
        exact (hv.2.2.2.2.2.1 _ (by omega)).2
      refine q1_ck (in_of (N := 4347) (by omega) (by omega)) (q1_ck (cp_ck hC hx rfl) ?_)
      refine q1_eq (fun q2 => ?_) (fun q2 => ?_)
      · exact inner d _ v2 _ Hr (by omega) rFU 1 0 (fun _ => by rw [← q2]; exact h60) (by decide) (by unfold rFU; rw [kt_0]; omega)
      · exact inner d _ v2 _ Hr (by omega) rFU 0 0 (fun e => absurd rfl e) (by decide) (by unfold rFU; rw [kt_0]; omega)
  exact key rFU 0 (by decide) (by unfold rFU; rw [kt_0]; omega)
theorem o_toldMany (hC : CP p σ) : P1 (mX9_toldMany σ) (fun v σ' => σ' = σ ∧ True) := by
  have hp := hC.2.1
  have key : ∀ (d : Nat) (v1 v2 : Int32), (0 ≤ v2.toInt ∧ v2.toInt ≤ 100) → 1000 - v2.toInt < (d : Int) → P1 (mX9_toldMany_l4 d v1 v2 σ) (fun v σ' => σ' = σ ∧ True) := by
    intro d
    induction d with
    | zero => intro v1 v2 _ hm; exfalso; omega
    | succ d ih =>
      intro v1 v2 h2 hm
      unfold mX9_toldMany_l4
      refine q1_le (cp_33 hC) rfl (fun q => q1_ret ⟨rfl, trivial⟩) (fun q => ?_)
      have e2 : (v2 + (1 : Int32)).toInt = v2.toInt + 1 := i_add rfl kt_1 (by omega)
      refine q1_ro (o_toldOf hC (by omega)) (fun y _ => ?_)
      dsimp only
      exact q1_eq (fun _ => ih _ _ (by omega) (by omega)) (fun _ => ih _ _ (by omega) (by omega))
  exact key rFU 0 0 (by decide) (by unfold rFU; rw [kt_0]; omega)
theorem o_skeleton (hC : CP p σ) : P1 (mX9_skeleton σ) (fun v σ' => σ' = σ ∧ True) := by
  have hp := hC.2.1
  have key : ∀ (d : Nat) (v1 v2 : Int32), (0 ≤ v2.toInt ∧ v2.toInt ≤ 100) → 1000 - v2.toInt < (d : Int) → P1 (mX9_skeleton_l9 d v1 v2 σ) (fun v σ' => σ' = σ ∧ True) := by
    intro d
    induction d with
    | zero => intro v1 v2 _ hm; exfalso; omega
    | succ d ih =>
      intro v1 v2 h2 hm
      unfold mX9_skeleton_l9
      refine q1_le (cp_33 hC) rfl (fun q => q1_ret ⟨rfl, trivial⟩) (fun q => ?_)
      have e2 : (v2 + (1 : Int32)).toInt = v2.toInt + 1 := i_add rfl kt_1 (by omega)
      refine q1_ck (cp_ck hC (by omega) rfl) (q1_ck (cp_ck hC (by omega) rfl) ?_)
      exact ih _ _ (by omega) (by omega)
  unfold mX9_skeleton
  exact q1_ck rfl (key rFU _ 0 (by decide) (by unfold rFU; rw [kt_0]; omega))
theorem o_unlikeTexts (hC : CP p σ) : P1 (mX9_unlikeTexts σ) (fun v σ' => σ' = σ ∧ True) := by
  have hp := hC.2.1
  have inner : ∀ (rec4 : Int32 → Int32 → RS9 → Option (Int32 × RS9)) (v2 : Int32), (∀ w, P1 (rec4 w (v2 + (1 : Int32)) σ) (fun v σ' => σ' = σ ∧ True)) → (0 ≤ v2.toInt ∧ v2.toInt < (p : Int)) → ∀ (d : Nat) (v1 v3 v4 : Int32), (0 ≤ v4.toInt ∧ v4.toInt ≤ 100) → 1000 - v4.toInt < (d : Int) → P1 (mX9_unlikeTexts_l17 rec4 d v1 v2 v3 v4 σ) (fun v σ' => σ' = σ ∧ True) := by
    intro rec4 v2 Hr h2 d
    induction d with
    | zero => intro v1 v3 v4 _ hm; exfalso; omega
    | succ d ih =>
      intro v1 v3 v4 h4 hm
      unfold mX9_unlikeTexts_l17
      refine q1_le rfl rfl (fun q => q1_eq (fun _ => Hr _) (fun _ => Hr _)) (fun q => ?_)
      have e4 : (v4 + (1 : Int32)).toInt = v4.toInt + 1 := i_add rfl kt_1 (by omega)
      have nx : ∀ w, P1 (mX9_unlikeTexts_l17 rec4 d v1 v2 w (v4 + (1 : Int32)) σ) (fun v σ' => σ' = σ ∧ True) := fun w => ih v1 w _ (by omega) (by omega)
      refine q1_eq (fun _ => nx _) (fun _ => ?_)
      refine q1_ro (o_areLike hC h2 (by omega)) (fun y _ => ?_)
      dsimp only
      exact q1_eq (fun _ => nx _) (fun _ => nx _)
  have key : ∀ (d : Nat) (v1 v2 : Int32), (0 ≤ v2.toInt ∧ v2.toInt ≤ 100) → 1000 - v2.toInt < (d : Int) → P1 (mX9_unlikeTexts_l4 d v1 v2 σ) (fun v σ' => σ' = σ ∧ True) := by
    intro d
    induction d with
    | zero => intro v1 v2 _ hm; exfalso; omega
    | succ d ih =>
      intro v1 v2 h2 hm
      unfold mX9_unlikeTexts_l4
      refine q1_le (cp_33 hC) rfl (fun q => q1_ret ⟨rfl, trivial⟩) (fun q => ?_)
      have e2 : (v2 + (1 : Int32)).toInt = v2.toInt + 1 := i_add rfl kt_1 (by omega)
      exact inner _ v2 (fun w => ih w _ (by omega) (by omega)) (by omega) rFU _ _ 0 (by decide) (by unfold rFU; rw [kt_0]; omega)
  exact key rFU 0 0 (by decide) (by unfold rFU; rw [kt_0]; omega)
theorem o_allWords (hC : CP p σ) : P1 (mX9_allWords σ) (fun v σ' => σ' = σ ∧ True) := by
  have hp := hC.2.1
  have key : ∀ (d : Nat) (v1 v2 : Int32), (0 ≤ v2.toInt ∧ v2.toInt ≤ 100) → 1000 - v2.toInt < (d : Int) → P1 (mX9_allWords_l4 d v1 v2 σ) (fun v σ' => σ' = σ ∧ True) := by
    intro d
    induction d with
    | zero => intro v1 v2 _ hm; exfalso; omega
    | succ d ih =>
      intro v1 v2 h2 hm
      unfold mX9_allWords_l4
      refine q1_le (cp_33 hC) rfl (fun q => q1_ret ⟨rfl, trivial⟩) (fun q => ?_)
      have e2 : (v2 + (1 : Int32)).toInt = v2.toInt + 1 := i_add rfl kt_1 (by omega)
      refine q1_ro (o_wordsOf hC (by omega)) (fun y _ => ?_)
      exact ih _ _ (by omega) (by omega)
  exact key rFU 0 0 (by decide) (by unfold rFU; rw [kt_0]; omega)
theorem o_longest (hC : CP p σ) : P1 (mX9_longest σ) (fun v σ' => σ' = σ ∧ True) := by
  have hp := hC.2.1
  have key : ∀ (d : Nat) (v1 v2 : Int32), (0 ≤ v2.toInt ∧ v2.toInt ≤ 100) → 1000 - v2.toInt < (d : Int) → P1 (mX9_longest_l4 d v1 v2 σ) (fun v σ' => σ' = σ ∧ True) := by
    intro d
    induction d with
    | zero => intro v1 v2 _ hm; exfalso; omega
    | succ d ih =>
      intro v1 v2 h2 hm
      unfold mX9_longest_l4
      refine q1_le (cp_33 hC) rfl (fun q => q1_ret ⟨rfl, trivial⟩) (fun q => ?_)
      have e2 : (v2 + (1 : Int32)).toInt = v2.toInt + 1 := i_add rfl kt_1 (by omega)
      have nx : ∀ w, P1 (mX9_longest_l4 d w (v2 + (1 : Int32)) σ) (fun v σ' => σ' = σ ∧ True) := fun w => ih w _ (by omega) (by omega)
      refine q1_ck (cp_ck hC (by omega) rfl) ?_
      refine q1_le rfl rfl (fun _ => nx _) (fun _ => ?_)
      exact q1_ck (cp_ck hC (by omega) rfl) (nx _)
  exact key rFU 0 0 (by decide) (by unfold rFU; rw [kt_0]; omega)
theorem o_hasWord (hC : CP p σ) {x n : Int32} (hx : 0 ≤ x.toInt ∧ x.toInt < (p : Int)) (hn : 1 ≤ n.toInt ∧ n.toInt ≤ 8) : P1 (mX9_hasWord x n σ) (fun v σ' => σ' = σ ∧ True) := by
  have hb := nm_b hC hx
  have inner : ∀ (rec2 : Int32 → Int32 → Int32 → RS9 → Option (Int32 × RS9)) (v3 : Int32), (P1 (rec2 x n (v3 + (1 : Int32)) σ) (fun v σ' => σ' = σ ∧ True)) → (0 ≤ v3.toInt ∧ v3.toInt + n.toInt ≤ nm9 σ x) → ∀ (d : Nat) (v4 v5 : Int32), (0 ≤ v5.toInt ∧ v5.toInt ≤ 100) → 1000 - v5.toInt < (d : Int) → P1 (mX9_hasWord_l19 rec2 d x n v3 v4 v5 σ) (fun v σ' => σ' = σ ∧ True) := by
    intro rec2 v3 Hr h3 d
    induction d with
    | zero => intro v4 v5 _ hm; exfalso; omega
    | succ d ih =>
      intro v4 v5 h5 hm
      have b86 : P1 (mX9_hasWord_b86 rec2 x n v3 v4 σ) (fun v σ' => σ' = σ ∧ True) := by
        unfold mX9_hasWord_b86
        exact q1_eq (fun _ => Hr) (fun _ => q1_ck rfl (q1_ret ⟨rfl, trivial⟩))
      unfold mX9_hasWord_l19
      refine q1_le rfl rfl (fun q => b86) (fun q => ?_)
      refine q1_eq (fun q2 => b86) (fun q2 => ?_)
      have e3 : (v3 + v5).toInt = v3.toInt + v5.toInt := i_add rfl rfl (by omega)
      have e5 : (v5 + (1 : Int32)).toInt = v5.toInt + 1 := i_add rfl kt_1 (by omega)
      have nx : ∀ w, P1 (mX9_hasWord_l19 rec2 d x n v3 w (v5 + (1 : Int32)) σ) (fun v σ' => σ' = σ ∧ True) := fun w => ih w _ (by omega) (by omega)
      refine q1_ro (o_nowByte hC hx (by omega)) (fun y _ => ?_)
      dsimp only
      refine q1_ck (in_of (N := 400) (by omega) (by omega)) ?_
      refine q1_ro o_isIn (fun z _ => ?_)
      dsimp only
      exact q1_eq (fun _ => q1_eq (fun _ => nx _) (fun _ => nx _)) (fun _ => q1_eq (fun _ => nx _) (fun _ => nx _))
  have key : ∀ (d : Nat) (v3 : Int32), (0 ≤ v3.toInt ∧ v3.toInt ≤ 700) → 1000 - v3.toInt < (d : Int) → P1 (mX9_hasWord_l2 d x n v3 σ) (fun v σ' => σ' = σ ∧ True) := by
    intro d
    induction d with
    | zero => intro v3 _ hm; exfalso; omega
    | succ d ih =>
      intro v3 h3 hm
      unfold mX9_hasWord_l2
      refine q1_ro (o_nowMany hC hx) (fun y hy => ?_)
      dsimp only
      have e3 : (v3 + n).toInt = v3.toInt + n.toInt := i_add rfl rfl (by omega)
      refine q1_lt hy e3 (fun q => q1_ck rfl (q1_ret ⟨rfl, trivial⟩)) (fun q => ?_)
      have e1 : (v3 + (1 : Int32)).toInt = v3.toInt + 1 := i_add rfl kt_1 (by omega)
      exact inner _ v3 (ih _ (by omega) (by omega)) (by omega) rFU _ 0 (by decide) (by unfold rFU; rw [kt_0]; omega)
  exact key rFU 0 (by decide) (by unfold rFU; rw [kt_0]; omega)
theorem o_isWord {n : Int32} (hn : 0 ≤ n.toInt ∧ n.toInt ≤ 400) : P1 (mX9_isWord n σ) (fun v σ' => σ' = σ ∧ ((v = 0 ∨ v = 1) ∧ (v ≠ 0 → 1 ≤ n.toInt ∧ n.toInt ≤ 8))) := by
  have key : ∀ (d : Nat) (v2 v3 : Int32), (v2 = 0 ∨ v2 = 1) → (v2 ≠ 0 → 1 ≤ n.toInt ∧ n.toInt ≤ 8) → (0 ≤ v3.toInt ∧ v3.toInt ≤ 500) → 1000 - v3.toInt < (d : Int) → P1 (mX9_isWord_l10 d n v2 v3 σ) (fun v σ' => σ' = σ ∧ ((v = 0 ∨ v = 1) ∧ (v ≠ 0 → 1 ≤ n.toInt ∧ n.toInt ≤ 8))) := by
    intro d
    induction d with
    | zero => intro v2 v3 _ _ _ hm; exfalso; omega
    | succ d ih =>
      intro v2 v3 hb h8 h3 hm
      have b39 : P1 (mX9_isWord_b39 v2 σ) (fun v σ' => σ' = σ ∧ ((v = 0 ∨ v = 1) ∧ (v ≠ 0 → 1 ≤ n.toInt ∧ n.toInt ≤ 8))) := q1_ck (nb_of hb) (q1_ret ⟨rfl, hb, h8⟩)
      unfold mX9_isWord_l10
      refine q1_le rfl rfl (fun q => b39) (fun q => ?_)
      refine q1_eq (fun q2 => b39) (fun q2 => ?_)
      have e3 : (v3 + (1 : Int32)).toInt = v3.toInt + 1 := i_add rfl kt_1 (by omega)
      refine q1_ck (in_of (N := 400) (by omega) (by omega)) ?_
      refine q1_ro o_isIn (fun y hy => ?_)
      exact ih _ _ hy.1 (fun _ => h8 q2) (by omega) (by omega)
  unfold mX9_isWord
  refine q1_ro o_isIn (fun y hy => ?_)
  refine key rFU _ 0 hy.1 (fun h => ?_) (by decide) (by unfold rFU; rw [kt_0]; omega)
  have := hy.2 h
  rw [kt_1, show (8 : Int32).toInt = 8 by decide] at this
  exact this
end LOOK2
end
/-! part 42d.blds -/
section
/-! what is built -/
def FY (σ0 σ : RS9) : Prop := (∀ k, k ≠ 46 → k ≠ 47 → k ≠ 49 → k ≠ 52 → k ≠ 53 → σ.2 k = σ0.2 k) ∧ ∀ k, k ≠ 56 → σ.1 k = σ0.1 k
theorem fy_tr {a b c : RS9} (h1 : FY a b) (h2 : FY b c) : FY a c := ⟨fun k e1 e2 e3 e4 e5 => (h2.1 k e1 e2 e3 e4 e5).trans (h1.1 k e1 e2 e3 e4 e5), fun k e => (h2.2 k e).trans (h1.2 k e)⟩
theorem fy_x {a b : RS9} (h : FX a b) : FY a b := ⟨fun k e1 e2 _ _ e5 => h.1 k e1 e2 e5, h.2⟩
theorem fy_r (a : RS9) : FY a a := ⟨fun _ _ _ _ _ _ => rfl, fun _ _ => rfl⟩
theorem fy_49 {a : RS9} {x v : Int32} : FY a (rSa a 49 x v) := ⟨fun k _ _ e _ _ => sa_ne e, fun _ _ => rfl⟩
theorem fy_52 {a : RS9} {x v : Int32} : FY a (rSa a 52 x v) := ⟨fun k _ _ _ e _ => sa_ne e, fun _ _ => rfl⟩
theorem ba_y {p : Nat} {σ σ' : RS9} (h : BA p σ σ) (a : FY σ σ') : BA p σ σ' := by
  obtain ⟨b1, b2, b3, b4, b5, b6⟩ := h
  have r : ∀ k, k < 46 → σ'.2 k = σ.2 k := fun k hk => a.1 k (by omega) (by omega) (by omega) (by omega) (by omega)
  refine ⟨fun i _ _ => by rw [r 1 (by decide)], b2, b3, (a.2 33 (by decide)).trans b3, b5, fun i hi => ?_⟩
  rw [r 34 (by decide), r 35 (by decide), r 36 (by decide), r 37 (by decide), r 38 (by decide)]
  exact b6 i hi
/-- pieces lie one behind another -/
def SRT (p M : Nat) (σ : RS9) : Prop := σ.2 1 0 = nI M ∧ M ≤ 400 ∧ ∀ i, i < p → (σ.2 35 i).toInt ≤ M ∧ ∀ j, j < i → (σ.2 35 j).toInt ≤ (σ.2 34 i).toInt
def ff (σ : RS9) (p M i : Nat) : Int := if i < p then (σ.2 34 i).toInt else M
theorem sm_hi {p M : Nat} {σ : RS9} (hB : BA p σ σ) (hS : SRT p M σ) (h0 : ∀ i, i < p → 0 ≤ bo σ i) : ∀ d i, i + d = p → sm σ i ≤ sm σ p + (M - ff σ p M i) := by
  intro d
  induction d with
  | zero => intro i hi; have : i = p := by omega
            subst this
            unfold ff; rw [if_neg (by omega)]; omega
  | succ d ih =>
    intro i hi
    have h1 := ih (i + 1) (by omega)
    have h2 : sm σ (i + 1) = sm σ i + (bo σ i - ((σ.2 35 i).toInt - (σ.2 34 i).toInt)) := rfl
    have h3 := h0 i (by omega)
    have h4 : (σ.2 35 i).toInt ≤ ff σ p M (i + 1) := by
      unfold ff
      by_cases e : i + 1 < p
      · rw [if_pos e]; exact (hS.2.2 (i + 1) e).2 i (by omega)
      · rw [if_neg e]; exact (hS.2.2 i (by omega)).1
    have h5 : ff σ p M i = (σ.2 34 i).toInt := by unfold ff; rw [if_pos (by omega)]
    omega
def tt (σ : RS9) : Nat → Int
  | 0 => 0
  | i + 1 => (σ.2 35 i).toInt
theorem sm_lo {p M : Nat} {σ : RS9} (hB : BA p σ σ) (hS : SRT p M σ) (h0 : ∀ i, i < p → 0 ≤ bo σ i) : ∀ i, i ≤ p → M - tt σ i ≤ sm σ i := by
  intro i
  induction i with
  | zero => intro _; show (M : Int) - 0 ≤ (σ.2 1 0).toInt; rw [hS.1, nI_toInt (by have := hS.2.1; omega)]; omega
  | succ i ih =>
    intro hi
    have h1 := ih (by omega)
    have h2 : sm σ (i + 1) = sm σ i + (bo σ i - ((σ.2 35 i).toInt - (σ.2 34 i).toInt)) := rfl
    have h3 := h0 i (by omega)
    have h4 : tt σ i ≤ (σ.2 34 i).toInt := by
      cases i with
      | zero => exact (hB.2.2.2.2.2 0 (by omega)).2.1
      | succ j => exact (hS.2.2 (j + 1) (by omega)).2 j (by omega)
    show (M : Int) - (σ.2 35 i).toInt ≤ _
    omega
section BLD
variable {p M : Nat} {σ0 : RS9}
def BQ (p : Nat) (σ0 : RS9) (v : Int32) (σ' : RS9) : Prop := v.toInt = sm σ0 p ∧ FY σ0 σ' ∧ ∀ i, i < p → 0 ≤ (σ'.2 52 i).toInt ∧ (σ'.2 52 i).toInt ≤ 600
theorem b_136 (hB : BA p σ0 σ0) (hS : SRT p M σ0) (h0 : ∀ i, i < p → 0 ≤ bo σ0 i) (h6 : sm σ0 p ≤ 600) : ∀ (d n k : Nat) (σ : RS9), FY σ0 σ → (∀ i, i < p → 0 ≤ (σ.2 52 i).toInt ∧ (σ.2 52 i).toInt ≤ 600) → (n : Int) = sm σ0 p - M + k → k ≤ M → 1000 < k + d → P1 (mX9_builds_l136 d (nI n) (nI k) σ) (BQ p σ0) := by
  have hM := hS.2.1
  intro d
  induction d with
  | zero => intro n k σ _ _ _ _ hm; exfalso; omega
  | succ d ih =>
    intro n k σ hF h52 hn hk hm
    have ek : (nI k).toInt = (k : Int) := nI_toInt (by omega)
    have eM : (rGa σ 1 (0 : Int32)).toInt = (M : Int) := by
      show (σ.2 1 0).toInt = _
      rw [hF.1 1 (by decide) (by decide) (by decide) (by decide) (by decide), hS.1]; exact nI_toInt (by omega)
    unfold mX9_builds_l136
    refine q1_ck rfl ?_
    refine q1_le eM ek (fun q => ?_) (fun q => ?_)
    · exact q1_ret ⟨by rw [nI_toInt (by omega)]; omega, hF, h52⟩
    · have e43 : ((43 : Int32) + nI k) = nI (43 + k) := nI_add 43 k
      rw [e43, nI_1, nI_1]
      refine q1_ck (cr1 (by omega)) (q1_ck (inb_nI (n := 700) (by omega) (by decide)) ?_)
      refine ih (n + 1) (k + 1) _ (fy_tr hF fy_49) (fun i hi => ?_) (by omega) (by omega) (by omega)
      rw [sa_ne (by decide)]; exact h52 i hi
theorem b_65 (hB : BA p σ0 σ0) (hS : SRT p M σ0) (h0 : ∀ i, i < p → 0 ≤ bo σ0 i) (h6 : sm σ0 p ≤ 600) {i n k b : Nat} (hi : i < p) (hk : (σ0.2 34 i).toInt = (k : Int)) (hn : (n : Int) = sm σ0 i - M + k) (hb : (b : Int) = bo σ0 i) {rec6 : Int32 → Int32 → Int32 → RS9 → Option (Int32 × RS9)} {Q : Int32 → RS9 → Prop} (Hr : ∀ (σ : RS9), FY σ0 σ → (∀ j, j ≤ i → 0 ≤ (σ.2 52 j).toInt ∧ (σ.2 52 j).toInt ≤ 600) → P1 (rec6 (nI (n + b)) (σ0.2 35 i) (nI (i + 1)) σ) Q) : ∀ (d j : Nat) (σ : RS9), FY σ0 σ → (∀ j, j ≤ i → 0 ≤ (σ.2 52 j).toInt ∧ (σ.2 52 j).toInt ≤ 600) → j ≤ b → 2000 < j + d → P1 (mX9_builds_l65 rec6 d (nI n) (nI k) (nI i) (nI b) (nI j) σ) Q := by
  have hp := hB.2.2.2.2.1
  have hM := hS.2.1
  have hbo := (bo_eq hB hi (fun _ _ _ => rfl)).2
  have hsm : sm σ0 (i + 1) = sm σ0 i + (bo σ0 i - ((σ0.2 35 i).toInt - (σ0.2 34 i).toInt)) := rfl
  have hhi := sm_hi hB hS h0 (p - (i + 1)) (i + 1) (by omega)
  have hff : (σ0.2 35 i).toInt ≤ ff σ0 p M (i + 1) := by
    unfold ff
    by_cases e : i + 1 < p
    · rw [if_pos e]; exact (hS.2.2 (i + 1) e).2 i (by omega)
    · rw [if_neg e]; exact (hS.2.2 i hi).1
  have hto := (hS.2.2 i hi).1
  have hft := (hB.2.2.2.2.2 i hi).2
  intro d
  induction d with
  | zero => intro j σ _ _ _ hm; exfalso; omega
  | succ d ih =>
    intro j σ hF h52 hj hm
    have ej : (nI j).toInt = (j : Int) := nI_toInt (by omega)
    have eb : (nI b).toInt = (b : Int) := nI_toInt (by omega)
    unfold mX9_builds_l65
    refine q1_le eb ej (fun q => ?_) (fun q => ?_)
    · refine q1_ck (inb_nI (n := 40) (by omega) (by decide)) ?_
      rw [rd_nI (by omega), hF.1 35 (by decide) (by decide) (by decide) (by decide) (by decide), nI_add, nI_1]
      exact Hr σ hF h52
    · refine q1_bind (toldOf_eq (by omega) σ) ?_
      dsimp only
      have nx : ∀ x : Int32, P1 (mX9_builds_b111 rec6 (fun v1 v2 v3 v4 v5 σ => mX9_builds_l65 rec6 d v1 v2 v3 v4 v5 σ) (nI n) (nI k) (nI i) (nI b) (nI j) 49 (nI n + nI j) x σ) Q := fun x => by
        unfold mX9_builds_b111
        rw [nI_add, nI_1]
        refine q1_ck (inb_nI (n := 700) (by omega) (by decide)) ?_
        refine ih (j + 1) _ (fy_tr hF fy_49) (fun z hz => ?_) (by omega) (by omega)
        rw [sa_ne (by decide)]; exact h52 z hz
      refine q1_eq (fun q2 => ?_) (fun q2 => ?_)
      · rw [hF.1 1 (by decide) (by decide) (by decide) (by decide) (by decide)] at q2
        have hbl := hbo.2.2 q2
        have e43 : (((43 : Int32) + nI k) + nI j) = nI (43 + k + j) := by
          have e : ((43 : Int32) + nI k) = nI (43 + k) := nI_add 43 k
          rw [e, nI_add]
        rw [e43]
        exact q1_ck (cr1 (by omega)) (nx _)
      · exact q1_ck (inb_nI (n := 1400) (by omega) (by decide)) (nx _)
theorem b_14 (hB : BA p σ0 σ0) (hS : SRT p M σ0) (h0 : ∀ i, i < p → 0 ≤ bo σ0 i) (h6 : sm σ0 p ≤ 600) {i : Nat} (hi : i < p) {rec6 : Int32 → Int32 → Int32 → RS9 → Option (Int32 × RS9)} {Q : Int32 → RS9 → Prop} (Hr : ∀ (n : Nat) (σ : RS9), (n : Int) = sm σ0 (i + 1) - M + (σ0.2 35 i).toInt → FY σ0 σ → (∀ j, j ≤ i → 0 ≤ (σ.2 52 j).toInt ∧ (σ.2 52 j).toInt ≤ 600) → P1 (rec6 (nI n) (σ0.2 35 i) (nI (i + 1)) σ) Q) : ∀ (d n k : Nat) (σ : RS9), FY σ0 σ → (∀ j, j < i → 0 ≤ (σ.2 52 j).toInt ∧ (σ.2 52 j).toInt ≤ 600) → (n : Int) = sm σ0 i - M + k → (k : Int) ≤ (σ0.2 34 i).toInt → 1000 < k + d → P1 (mX9_builds_l14 rec6 d (nI n) (nI k) (nI i) σ) Q := by
  have hp := hB.2.2.2.2.1
  have hM := hS.2.1
  have hto := (hS.2.2 i hi).1
  have hft := (hB.2.2.2.2.2 i hi).2
  have hbo := (bo_eq hB hi (fun _ _ _ => rfl)).2
  have hhi := sm_hi hB hS h0 (p - i) i (by omega)
  have hff : ff σ0 p M i = (σ0.2 34 i).toInt := by unfold ff; rw [if_pos hi]
  have hsm : sm σ0 (i + 1) = sm σ0 i + (bo σ0 i - ((σ0.2 35 i).toInt - (σ0.2 34 i).toInt)) := rfl
  intro d
  induction d with
  | zero => intro n k σ _ _ _ _ hm; exfalso; omega
  | succ d ih =>
    intro n k σ hF h52 hn hk hm
    have ek : (nI k).toInt = (k : Int) := nI_toInt (by omega)
    have e34 : (rGa σ 34 (nI i)).toInt = (σ0.2 34 i).toInt := by rw [rd_nI (by omega), hF.1 34 (by decide) (by decide) (by decide) (by decide) (by decide)]
    unfold mX9_builds_l14
    refine q1_ck (inb_nI (n := 40) (by omega) (by decide)) ?_
    refine q1_le e34 ek (fun q => ?_) (fun q => ?_)
    · refine q1_ck (inb_nI (n := 40) (by omega) (by decide)) ?_
      have hF2 : FY σ0 (rSa σ 52 (nI i) (nI n)) := fy_tr hF fy_52
      have hB2 := ba_y hB hF2
      obtain ⟨v, s, v', t, e, e', ⟨g1, g2, g3⟩, g4, g5, g6⟩ := t2_builtOf hB2 hi (fun j _ _ => by rw [hF2.1 1 (by decide) (by decide) (by decide) (by decide) (by decide)])
      have hbv : bo σ0 i = v.toInt := by unfold bo; rw [e]
      have hb0 := h0 i hi
      obtain ⟨b, hbe⟩ : ∃ b : Nat, v' = nI b ∧ (b : Int) = bo σ0 i := ⟨v.toInt.toNat, by rw [g1]; exact Int32.toInt_inj.mp (by rw [nI_toInt (by omega)]; omega), by omega⟩
      refine q1_bind e' ?_
      dsimp only
      rw [hbe.1]
      refine b_65 hB hS h0 h6 hi (by omega) hn hbe.2 (fun s2 k1 k2 => Hr (n + b) s2 (by omega) k1 k2) rFU 0 t (fy_tr hF2 (fy_x g5)) (fun j hj => ?_) (by omega) (by unfold rFU; omega)
      rw [g5.1 52 (by decide) (by decide) (by decide), sa_nI (by omega)]
      by_cases ej : j = i
      · rw [if_pos ej, nI_toInt (by omega)]; omega
      · rw [if_neg ej]; exact h52 j (by omega)
    · have e43 : ((43 : Int32) + nI k) = nI (43 + k) := nI_add 43 k
      rw [e43, nI_1, nI_1]
      refine q1_ck (cr1 (by omega)) (q1_ck (inb_nI (n := 700) (by omega) (by decide)) ?_)
      refine ih (n + 1) (k + 1) _ (fy_tr hF fy_49) (fun j hj => ?_) (by omega) (by omega) (by omega)
      rw [sa_ne (by decide)]; exact h52 j hj
theorem b_6 (hB : BA p σ0 σ0) (hS : SRT p M σ0) (h0 : ∀ i, i < p → 0 ≤ bo σ0 i) (h6 : sm σ0 p ≤ 600) : ∀ (d i n k : Nat) (σ : RS9), FY σ0 σ → (∀ j, j < i → 0 ≤ (σ.2 52 j).toInt ∧ (σ.2 52 j).toInt ≤ 600) → (n : Int) = sm σ0 i - M + k → tt σ0 i = (k : Int) → i ≤ p → 100 < i + d → P1 (mX9_builds_l6 d (nI n) (nI k) (nI i) σ) (BQ p σ0) := by
  have hp := hB.2.2.2.2.1
  have hM := hS.2.1
  intro d
  induction d with
  | zero => intro i n k σ _ _ _ _ hi hm; exfalso; omega
  | succ d ih =>
    intro i n k σ hF h52 hn hk hi hm
    have ei : (nI i).toInt = (i : Int) := nI_toInt (by omega)
    have ep : (σ.1 33).toInt = (p : Int) := by rw [hF.2 33 (by decide), hB.2.2.1]; exact nI_toInt (by omega)
    have hkM : k ≤ M := by
      cases i with
      | zero => have : (0 : Int) = k := hk
                omega
      | succ j => have h1 : (σ0.2 35 j).toInt = (k : Int) := hk
                  have := (hS.2.2 j (by omega)).1
                  omega
    unfold mX9_builds_l6
    refine q1_le ep ei (fun q => ?_) (fun q => ?_)
    · have e : i = p := by omega
      subst e
      exact b_136 hB hS h0 h6 rFU n k σ hF h52 hn hkM (by unfold rFU; omega)
    · have hlt : i < p := by omega
      have hkf : (k : Int) ≤ (σ0.2 34 i).toInt := by
        rw [← hk]
        cases i with
        | zero => exact (hB.2.2.2.2.2 0 hlt).2.1
        | succ j => exact (hS.2.2 (j + 1) hlt).2 j (by omega)
      refine b_14 hB hS h0 h6 hlt (fun n2 s h1 h2 h3 => ?_) rFU n k σ hF h52 hn hkf (by unfold rFU; omega)
      have hft := (hB.2.2.2.2.2 i hlt).2
      obtain ⟨y, hy, ey⟩ := nI_back (x := σ0.2 35 i) (by omega) (by omega)
      have ty : (nI y).toInt = (y : Int) := nI_toInt (by omega)
      rw [ey]
      rw [ey, ty] at h1
      exact ih (i + 1) n2 y s h2 (fun j hj => h3 j (by omega)) h1 (by show (σ0.2 35 i).toInt = _; rw [ey]; exact ty) (by omega) (by omega)
theorem o_builds (hB : BA p σ0 σ0) (hS : SRT p M σ0) (h0 : ∀ i, i < p → 0 ≤ bo σ0 i) (h6 : sm σ0 p ≤ 600) : P1 (mX9_builds σ0) (BQ p σ0) := by
  unfold mX9_builds
  refine b_6 hB hS h0 h6 rFU 0 0 0 σ0 (fy_r σ0) (fun j hj => absurd hj (by omega)) ?_ rfl (by omega) (by unfold rFU; omega)
  show (0 : Int) = (σ0.2 1 0).toInt - M + 0
  rw [hS.1, nI_toInt (by have := hS.2.1; omega)]
  omega
end BLD
end
