/-! the reference builds -/
theorem nI_abc {a b c : Nat} (h : c ≤ a + b) (ha : a ≤ 200000) (hb : b ≤ 200000) (hc : c ≤ 200000) : nI a + (nI b - nI c) = nI (a + b - c) := Int32.toInt_inj.mp (by rw [i_add (nI_toInt (by omega)) (i_sub (nI_toInt (by omega)) (nI_toInt (by omega)) (by omega)) (by omega), nI_toInt (by omega)]; omega)
theorem take_gd1 {M : BL} {i : Nat} (h : i < M.length) : M.take (i + 1) = M.take i ++ [M.getD i 0] := by
  rw [List.take_succ, List.getD_eq_getElem?_getD, List.getElem?_eq_getElem h]; rfl
theorem row_s {cf : CFG} {F : BL} {told : Nat → Option BL} {P : List Pc} {i : Nat} : rowTo cf F told P (i + 1) = rowTo cf F told P i ++ sl F (plc P i) (P.getD i pc0).1 ++ bOf cf F told i (P.getD i pc0) := rfl
theorem row_sl {cf : CFG} {F : BL} {told : Nat → Option BL} {P : List Pc} {i : Nat} (hO : ORD P F.length) (hi : i < P.length) : (rowTo cf F told P (i + 1)).length = (rowTo cf F told P i).length + ((P.getD i pc0).1 - plc P i) + (bOf cf F told i (P.getD i pc0)).length := by
  have ho := hO.1 i hi
  rw [row_s, List.length_append, List.length_append, sl_len (by omega)]
theorem plc_s {P : List Pc} {i : Nat} : plc P (i + 1) = (P.getD i pc0).2.1 := rfl
theorem plc_le {P : List Pc} {N i : Nat} (hO : ORD P N) (hi : i ≤ P.length) : plc P i ≤ N := by
  cases i with
  | zero => exact Nat.zero_le _
  | succ i => exact (hO.1 i (by omega)).2.2
section RBU
variable {σ : RS9} {told : Nat → Option BL} {P : List Pc} {cf : CFG} {kf : Bool} {F : BL}
/-- what building looks at -/
def BV9 (σ : RS9) (cf : CFG) (told : Nat → Option BL) (P : List Pc) (F : BL) (kf : Bool) : Prop := MC (σ.2 1) cf ∧ TD9 (σ.2 1) told ∧ PT σ kf P ∧ σ.2 1 0 = nI F.length ∧ ∀ i, i < F.length → σ.2 1 (43 + i) = F.getD i 0
theorem BV9_frx {σ' : RS9} {R G : Nat → Prop} (h : BV9 σ cf told P F kf) (hX : FRX R G σ σ') (h1 : ¬ R 1) (hR : ∀ k, 34 ≤ k → k ≤ 44 → ¬ R k) (hG : ¬ G 33 ∧ ¬ G 45) : BV9 σ' cf told P F kf := by
  obtain ⟨a, b, c, d, e⟩ := h
  exact ⟨by rw [hX.1 1 h1]; exact a, by rw [hX.1 1 h1]; exact b, PT_frx c hX hR hG, by rw [hX.1 1 h1]; exact d, by rw [hX.1 1 h1]; exact e⟩
theorem r_builtMany (hB : BV9 σ cf told P F kf) (hO : ORD P F.length) (hF4 : F.length ≤ 600) (hV : VE cf told P) : PQ (mX9_builtMany σ) (fun y => ∃ σ', y = (nI (blt cf F told P).length, σ') ∧ (blt cf F told P).length ≤ 100000 ∧ FRX R47 F56 σ σ') := by
  have h40 := hB.2.2.1.1.2
  have key : ∀ (d i : Nat) (σ1 : RS9), i ≤ P.length → FRX R47 F56 σ σ1 → (rowTo cf F told P i).length ≤ 2000 * i → PQ (mX9_builtMany_l9 d (nI ((rowTo cf F told P i).length + (F.length - plc P i))) (nI i) σ1) (fun y => ∃ σ', y = (nI (blt cf F told P).length, σ') ∧ (blt cf F told P).length ≤ 100000 ∧ FRX R47 F56 σ σ') := by
    intro d
    induction d with
    | zero => intro i σ1 _ _ _; exact pq_none
    | succ d ih =>
      intro i σ1 hi hF hl
      have hB1 : BV9 σ1 cf told P F kf := BV9_frx hB hF (fun q => by omega) (fun k h1 h2 q => by omega) ⟨fun q => by omega, fun q => by omega⟩
      unfold mX9_builtMany_l9
      rw [hB1.2.2.1.1.1]
      refine pq_le (nI_toInt (by omega)) (nI_toInt (by omega)) (fun q => ?_) (fun q => ?_)
      · have e : i = P.length := by omega
        have hle := plc_le hO (Nat.le_refl _)
        have e2 : (blt cf F told P).length = (rowTo cf F told P i).length + (F.length - plc P i) := by
          unfold blt
          rw [List.length_append, sl_len (Nat.le_refl _), e]
        exact pq_ret ⟨σ1, by rw [e2], by rw [e2]; omega, hF⟩
      · have hi' : i < P.length := by omega
        have ho := hO.1 i hi'
        refine pq_call (r_builtOf hB1.1 hB1.2.1 hB1.2.2.1 hO hF4 hV hi') (fun y hy => ?_)
        obtain ⟨σ2, rfl, g1, -, g3⟩ := hy
        have hB2 : BV9 σ2 cf told P F kf := BV9_frx hB1 g3 (fun q => by omega) (fun k h1 h2 q => by omega) ⟨fun q => by omega, fun q => by omega⟩
        obtain ⟨g34, g35, -⟩ := hB2.2.2.1.2.2 i hi'
        have hrs := row_sl (cf := cf) (told := told) hO hi'
        have er : rGa σ2 35 (nI i) - rGa σ2 34 (nI i) = nI ((P.getD i pc0).2.1 - (P.getD i pc0).1) := by
          rw [rd_nI (by omega), rd_nI (by omega), g34, g35, nI_sb (by omega) (by omega)]
        show PQ (rCk _ (rCk _ (mX9_builtMany_l9 d (nI ((rowTo cf F told P i).length + (F.length - plc P i)) + (nI (bOf cf F told i (P.getD i pc0)).length - (rGa σ2 35 (nI i) - rGa σ2 34 (nI i)))) (nI i + 1) σ2))) _
        rw [er, nI_abc (by omega) (by omega) (by omega) (by omega), nI_1]
        have e3 : (rowTo cf F told P i).length + (F.length - plc P i) + (bOf cf F told i (P.getD i pc0)).length - ((P.getD i pc0).2.1 - (P.getD i pc0).1) = (rowTo cf F told P (i + 1)).length + (F.length - plc P (i + 1)) := by
          rw [hrs, plc_s]; omega
        rw [e3]
        exact pq_ck (pq_ck (ih (i + 1) σ2 (by omega) (frx_tr hF g3) (by rw [hrs]; omega)))
  have e0 : rGa σ 1 (0 : Int32) = nI ((rowTo cf F told P 0).length + (F.length - plc P 0)) := by
    show σ.2 1 0 = nI (0 + (F.length - 0))
    rw [Nat.zero_add, Nat.sub_zero]; exact hB.2.2.2.1
  unfold mX9_builtMany
  rw [e0]
  exact pq_ck (key rFU 0 σ (Nat.zero_le _) frx_rfl (Nat.zero_le _))
abbrev R49 : Nat → Prop := fun k => k = 46 ∨ k = 47 ∨ k = 49 ∨ k = 52 ∨ k = 53
/-- built so far -/
def BU9 (σ : RS9) (cf : CFG) (F : BL) (told : Nat → Option BL) (P : List Pc) (i : Nat) (W : BL) : Prop := RLs σ 49 W ∧ W.length ≤ 700 ∧ ∀ j, j < i → σ.2 52 j = nI (bbeg cf F told P j)
theorem sl_s {L : BL} {a b : Nat} (h : a ≤ b) (hb : b < L.length) : sl L a (b + 1) = sl L a b ++ [L.getD b 0] := by
  rw [← sl_ap3 (a := a) (b := b) (c := b + 1) h (by omega) (by omega), sl_st (a := b) (b := b + 1) (by omega) (by omega), sl_nil (Nat.le_refl _)]
theorem BU_put {i : Nat} {W : BL} {c : Int32} (h : BU9 σ cf F told P i W) (hl : W.length < 700) : BU9 (rSa σ 49 (nI W.length) c) cf F told P i (W ++ [c]) := ⟨RL_put h.1 (by omega), by rw [List.length_append]; show W.length + 1 ≤ 700; omega, fun j hj => by rw [sa_ne (by decide)]; exact h.2.2 j hj⟩
theorem r_builds (hB : BV9 σ cf told P F kf) (hO : ORD P F.length) (hF4 : F.length ≤ 600) (hV : VE cf told P) : PQ (mX9_builds σ) (fun y => ∃ σ', y = (nI (blt cf F told P).length, σ') ∧ BU9 σ' cf F told P P.length (blt cf F told P) ∧ FRX R49 F56 σ σ') := by
  have h40 := hB.2.2.1.1.2
  have bv : ∀ {s1 : RS9}, FRX R49 F56 σ s1 → BV9 s1 cf told P F kf := fun hF => BV9_frx hB hF (fun q => by omega) (fun k h1 h2 q => by omega) ⟨fun q => by omega, fun q => by omega⟩
  have f49 : ∀ {s1 : RS9} {x v : Int32}, FRX R49 F56 s1 (rSa s1 49 x v) := fun {s1 x v} => ⟨fun k hk => sa_ne (fun q => hk (Or.inr (Or.inr (Or.inl q)))), fun k hk => rfl⟩
  -- the tail
  have k136 : ∀ (d k : Nat) (σ1 : RS9), plc P P.length ≤ k → k ≤ F.length → FRX R49 F56 σ σ1 → BU9 σ1 cf F told P P.length (rowTo cf F told P P.length ++ sl F (plc P P.length) k) → PQ (mX9_builds_l136 d (nI (rowTo cf F told P P.length ++ sl F (plc P P.length) k).length) (nI k) σ1) (fun y => ∃ σ', y = (nI (blt cf F told P).length, σ') ∧ BU9 σ' cf F told P P.length (blt cf F told P) ∧ FRX R49 F56 σ σ') := by
    intro d
    induction d with
    | zero => intro k σ1 _ _ _ _; exact pq_none
    | succ d ih =>
      intro k σ1 h1 h2 hF hU
      have hB1 := bv hF
      have e0 : rGa σ1 1 (0 : Int32) = nI F.length := hB1.2.2.2.1
      unfold mX9_builds_l136
      rw [e0]
      refine pq_ck (pq_le (nI_toInt (by omega)) (nI_toInt (by omega)) (fun q => ?_) (fun q => ?_))
      · have e : k = F.length := by omega
        subst e
        exact pq_ret ⟨σ1, rfl, hU, hF⟩
      · rw [show (43 : Int32) + nI k = nI (43 + k) from nI_add 43 k, rd_nI (by omega), hB1.2.2.2.2 k (by omega), nI_1, nI_1]
        refine pq_ck (pq_ckb (fun hin => ?_))
        have hl : (rowTo cf F told P P.length ++ sl F (plc P P.length) k).length < 700 := in_nI (by have := hU.2.1; omega) hin
        have hu := BU_put (c := F.getD k 0) hU hl
        have e3 : (rowTo cf F told P P.length ++ sl F (plc P P.length) k) ++ [F.getD k 0] = rowTo cf F told P P.length ++ sl F (plc P P.length) (k + 1) := by
          rw [sl_s h1 (by omega), List.append_assoc]
        have e4 : (rowTo cf F told P P.length ++ sl F (plc P P.length) k).length + 1 = (rowTo cf F told P P.length ++ sl F (plc P P.length) (k + 1)).length := by
          rw [← e3, List.length_append (bs := [F.getD k 0])]; rfl
        rw [e3] at hu
        rw [e4]
        exact ih (k + 1) _ (by omega) (by omega) (frx_tr hF f49) hu
  -- from piece to piece
  have k6 : ∀ (d i : Nat) (σ1 : RS9), i ≤ P.length → FRX R49 F56 σ σ1 → BU9 σ1 cf F told P i (rowTo cf F told P i) → PQ (mX9_builds_l6 d (nI (rowTo cf F told P i).length) (nI (plc P i)) (nI i) σ1) (fun y => ∃ σ', y = (nI (blt cf F told P).length, σ') ∧ BU9 σ' cf F told P P.length (blt cf F told P) ∧ FRX R49 F56 σ σ') := by
    intro d
    induction d with
    | zero => intro i σ1 _ _ _; exact pq_none
    | succ d ih =>
      intro i σ1 hi hF hU
      unfold mX9_builds_l6
      rw [(bv hF).2.2.1.1.1]
      refine pq_le (nI_toInt (by omega)) (nI_toInt (by omega)) (fun q => ?_) (fun q => ?_)
      · have e : i = P.length := by omega
        subst e
        have hle := plc_le hO (Nat.le_refl _)
        have hU2 : BU9 σ1 cf F told P P.length (rowTo cf F told P P.length ++ sl F (plc P P.length) (plc P P.length)) := by
          rw [sl_nil (Nat.le_refl _), List.append_nil]; exact hU
        have := k136 rFU (plc P P.length) σ1 (Nat.le_refl _) hle hF hU2
        rw [sl_nil (Nat.le_refl _), List.append_nil] at this
        exact this
      have hi' : i < P.length := by omega
      have ho := hO.1 i hi'
      -- the piece itself
      have k65 : ∀ (d2 k : Nat) (σ2 : RS9), k ≤ (bOf cf F told i (P.getD i pc0)).length → (bOf cf F told i (P.getD i pc0)).length ≤ 1400 → FRX R49 F56 σ σ2 → (told i ≠ none → RLs σ2 47 (bOf cf F told i (P.getD i pc0))) → BU9 σ2 cf F told P (i + 1) ((rowTo cf F told P i ++ sl F (plc P i) (P.getD i pc0).1) ++ (bOf cf F told i (P.getD i pc0)).take k) → PQ (mX9_builds_l65 (fun v1 v2 v3 σ => mX9_builds_l6 d v1 v2 v3 σ) d2 (nI (rowTo cf F told P i ++ sl F (plc P i) (P.getD i pc0).1).length) (nI (P.getD i pc0).1) (nI i) (nI (bOf cf F told i (P.getD i pc0)).length) (nI k) σ2) (fun y => ∃ σ', y = (nI (blt cf F told P).length, σ') ∧ BU9 σ' cf F told P P.length (blt cf F told P) ∧ FRX R49 F56 σ σ') := by
        intro d2
        induction d2 with
        | zero => intro k σ2 _ _ _ _ _; exact pq_none
        | succ d2 ih2 =>
          intro k σ2 hk hw hF2 h47 hU2
          have hB2 := bv hF2
          unfold mX9_builds_l65
          refine pq_le (nI_toInt (by omega)) (nI_toInt (by omega)) (fun q2 => ?_) (fun q2 => ?_)
          · have e : k = (bOf cf F told i (P.getD i pc0)).length := by omega
            rw [e, List.take_length] at hU2
            have e35 : rGa σ2 35 (nI i) = nI (plc P (i + 1)) := by rw [rd_nI (by omega)]; exact (hB2.2.2.1.2.2 i hi').2.1
            have e1 : nI (rowTo cf F told P i ++ sl F (plc P i) (P.getD i pc0).1).length + nI (bOf cf F told i (P.getD i pc0)).length = nI (rowTo cf F told P (i + 1)).length := by
              rw [nI_add, row_s, List.length_append (bs := bOf cf F told i (P.getD i pc0))]
            rw [e35, e1, nI_1]
            exact pq_ck (ih (i + 1) σ2 (by omega) hF2 hU2)
          · have hk' : k < (bOf cf F told i (P.getD i pc0)).length := by omega
            have hl0 := hU2.2.1
            have el : ((rowTo cf F told P i ++ sl F (plc P i) (P.getD i pc0).1) ++ (bOf cf F told i (P.getD i pc0)).take k).length = (rowTo cf F told P i ++ sl F (plc P i) (P.getD i pc0).1).length + k := by
              rw [List.length_append, List.length_take]; omega
            have b111 : ∀ s2 : Int32, s2 = (bOf cf F told i (P.getD i pc0)).getD k 0 → PQ (mX9_builds_b111 (fun v1 v2 v3 σ => mX9_builds_l6 d v1 v2 v3 σ) (fun v1 v2 v3 v4 v5 σ => mX9_builds_l65 (fun v1 v2 v3 σ => mX9_builds_l6 d v1 v2 v3 σ) d2 v1 v2 v3 v4 v5 σ) (nI (rowTo cf F told P i ++ sl F (plc P i) (P.getD i pc0).1).length) (nI (P.getD i pc0).1) (nI i) (nI (bOf cf F told i (P.getD i pc0)).length) (nI k) 49 (nI (rowTo cf F told P i ++ sl F (plc P i) (P.getD i pc0).1).length + nI k) s2 σ2) (fun y => ∃ σ', y = (nI (blt cf F told P).length, σ') ∧ BU9 σ' cf F told P P.length (blt cf F told P) ∧ FRX R49 F56 σ σ') := fun s2 hs2 => by
              unfold mX9_builds_b111
              rw [nI_add, ← el]
              refine pq_ckb (fun hin => ?_)
              have hl := in_nI (by omega) hin
              have hu := BU_put (c := s2) hU2 hl
              have e5 : ((rowTo cf F told P i ++ sl F (plc P i) (P.getD i pc0).1) ++ (bOf cf F told i (P.getD i pc0)).take k) ++ [s2] = (rowTo cf F told P i ++ sl F (plc P i) (P.getD i pc0).1) ++ (bOf cf F told i (P.getD i pc0)).take (k + 1) := by
                rw [List.append_assoc (rowTo cf F told P i ++ sl F (plc P i) (P.getD i pc0).1), take_gd1 hk', hs2]
              rw [e5] at hu
              rw [nI_1]
              exact ih2 (k + 1) _ (by omega) hw (frx_tr hF2 f49) (fun q => by
                intro j hj
                rw [sa_ne (by decide)]; exact h47 q j hj) hu
            refine pq_isr (r_toldOf hB2.2.1 (by omega)) ?_
            cases ht : told i with
            | none =>
              have eb : bOf cf F told i (P.getD i pc0) = sl F (P.getD i pc0).1 (P.getD i pc0).2.1 := by
                unfold bOf; rw [ht]
              have hbl : (bOf cf F told i (P.getD i pc0)).length = (P.getD i pc0).2.1 - (P.getD i pc0).1 := by rw [eb, sl_len ho.2.2]
              refine pq_t rfl (pq_ck (b111 _ ?_))
              show rGa σ2 1 (((43 : Int32) + nI (P.getD i pc0).1) + nI k) = _
              rw [show (43 : Int32) + nI (P.getD i pc0).1 = nI (43 + (P.getD i pc0).1) from nI_add 43 _, nI_add, rd_nI (by omega), show 43 + (P.getD i pc0).1 + k = 43 + ((P.getD i pc0).1 + k) by omega, hB2.2.2.2.2 _ (by omega), eb, sl_gd (by omega)]
            | some t =>
              have h60 := ((hB2.2.1 i (by omega)).2 t ht).1
              refine pq_f (nI_ne (by omega)) (pq_ck (b111 _ ?_))
              show rGa σ2 47 (nI k) = _
              rw [rd_nI (by omega)]
              exact h47 (by rw [ht]; exact fun q => by cases q) k hk'
      -- ahead of the piece
      have k14 : ∀ (d2 k : Nat) (σ2 : RS9), plc P i ≤ k → k ≤ (P.getD i pc0).1 → FRX R49 F56 σ σ2 → BU9 σ2 cf F told P i (rowTo cf F told P i ++ sl F (plc P i) k) → PQ (mX9_builds_l14 (fun v1 v2 v3 σ => mX9_builds_l6 d v1 v2 v3 σ) d2 (nI (rowTo cf F told P i ++ sl F (plc P i) k).length) (nI k) (nI i) σ2) (fun y => ∃ σ', y = (nI (blt cf F told P).length, σ') ∧ BU9 σ' cf F told P P.length (blt cf F told P) ∧ FRX R49 F56 σ σ') := by
        intro d2
        induction d2 with
        | zero => intro k σ2 _ _ _ _; exact pq_none
        | succ d2 ih2 =>
          intro k σ2 h1 h2 hF2 hU2
          have hB2 := bv hF2
          have e34 : rGa σ2 34 (nI i) = nI (P.getD i pc0).1 := by rw [rd_nI (by omega)]; exact (hB2.2.2.1.2.2 i hi').1
          unfold mX9_builds_l14
          rw [e34]
          refine pq_ck (pq_le (nI_toInt (by omega)) (nI_toInt (by omega)) (fun q2 => ?_) (fun q2 => ?_))
          · have e : k = (P.getD i pc0).1 := by omega
            subst e
            have f52 : FRX R49 F56 σ2 (rSa σ2 52 (nI i) (nI (rowTo cf F told P i ++ sl F (plc P i) (P.getD i pc0).1).length)) := ⟨fun k hk => sa_ne (fun q => hk (by omega)), fun k hk => rfl⟩
            have hB3 := bv (frx_tr hF2 f52)
            refine pq_ck (pq_call (r_builtOf hB3.1 hB3.2.1 hB3.2.2.1 hO hF4 hV hi') (fun y hy => ?_))
            obtain ⟨σ3, rfl, g1, g2, g3⟩ := hy
            refine k65 rFU 0 σ3 (Nat.zero_le _) g1 (frx_tr (frx_tr hF2 f52) (frx_mono g3 (fun k hk => by omega) (fun k hk => hk))) g2 ?_
            rw [List.take_zero, List.append_nil]
            refine ⟨fun j hj => ?_, hU2.2.1, fun j hj => ?_⟩
            · rw [g3.1 49 (fun q => by omega), sa_ne (by decide)]; exact hU2.1 j hj
            · rw [g3.1 52 (fun q => by omega), sa_nI (by omega)]
              by_cases e : j = i
              · rw [if_pos e, e]; rfl
              · rw [if_neg e]; exact hU2.2.2 j (by omega)
          · rw [show (43 : Int32) + nI k = nI (43 + k) from nI_add 43 k, rd_nI (by omega), hB2.2.2.2.2 k (by omega), nI_1, nI_1]
            refine pq_ck (pq_ckb (fun hin => ?_))
            have hl : (rowTo cf F told P i ++ sl F (plc P i) k).length < 700 := in_nI (by have := hU2.2.1; omega) hin
            have hu := BU_put (c := F.getD k 0) hU2 hl
            have e3 : (rowTo cf F told P i ++ sl F (plc P i) k) ++ [F.getD k 0] = rowTo cf F told P i ++ sl F (plc P i) (k + 1) := by
              rw [sl_s h1 (by omega), List.append_assoc]
            have e4 : (rowTo cf F told P i ++ sl F (plc P i) k).length + 1 = (rowTo cf F told P i ++ sl F (plc P i) (k + 1)).length := by
              rw [← e3, List.length_append (bs := [F.getD k 0])]; rfl
            rw [e3] at hu
            rw [e4]
            exact ih2 (k + 1) _ (by omega) (by omega) (frx_tr hF2 f49) hu
      have hU2 : BU9 σ1 cf F told P i (rowTo cf F told P i ++ sl F (plc P i) (plc P i)) := by
        rw [sl_nil (Nat.le_refl _), List.append_nil]; exact hU
      have := k14 rFU (plc P i) σ1 (Nat.le_refl _) ho.1 hF hU2
      rw [sl_nil (Nat.le_refl _), List.append_nil] at this
      exact this
  unfold mX9_builds
  exact k6 rFU 0 σ (Nat.zero_le _) frx_rfl ⟨fun j hj => absurd hj (Nat.not_lt_zero _), Nat.zero_le _, fun j hj => absurd hj (Nat.not_lt_zero _)⟩
end RBU
