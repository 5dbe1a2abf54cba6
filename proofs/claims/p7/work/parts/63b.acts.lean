/-! the reference: tell, free, spread, swap, wipe -/
def DOA (σ : RS9) (r : Int32 × SST) (y : Int32 × RS9) : Prop := ∃ σ', y = (r.1, σ') ∧ (r.1 = 0 → RM9 σ' r.2) ∧ FRX RA9 FA9 σ σ'
theorem bad_a {σ σ' : RS9} {c : Int32} {S : SST} (h : c ≠ 0) (hF : FRX RA9 FA9 σ σ') : DOA σ (c, S) (c, σ') := ⟨σ', rfl, fun q => absurd q h, hF⟩
theorem if_01 {b : Bool} {A B : Option (Int32 × RS9)} {Q : Int32 × RS9 → Prop} (h1 : b = false → PQ A Q) (h2 : b = true → PQ B Q) : PQ (if bI b = 0 then A else B) Q := by
  cases b with
  | false => exact pq_t rfl (h1 rfl)
  | true => exact pq_f (show ¬ (1 : Int32) = 0 by decide) (h2 rfl)
section RAC
variable {σ : RS9} {S : SST}
theorem RM_BV (h : RM9 σ S) : BV9 σ S.2.1 S.2.2.1 (pcF S) S.1 (decide (S.2.1.1 = 0)) := ⟨h.1.2.1, h.1.2.2.1, h.2, h.1.1.1.1, h.1.1.2⟩
theorem RM_frx {σ' : RS9} {R G : Nat → Prop} (h : RM9 σ S) (hX : FRX R G σ σ') (h1 : ¬ R 1) (hR : ∀ k, 34 ≤ k → k ≤ 44 → ¬ R k) (hG : ¬ G 33 ∧ ¬ G 45) : RM9 σ' S := ⟨by rw [hX.1 1 h1]; exact h.1, PT_frx h.2 hX hR hG⟩
theorem RM_33 (h : RM9 σ S) : σ.1 33 = nI (pcF S).length ∧ (pcF S).length ≤ 40 := h.2.1
theorem r_fin {S1 : SST} (h : RM9 σ S1) (hV : VE S1.2.1 S1.2.2.1 (pcF S1)) : PQ ((mX9_builtMany σ).bind fun r => (if r.1 ≤ (600 : Int32) then some ((0 : Int32), r.2) else some ((3 : Int32), r.2))) (fun y => ∃ σ', y = ((finA S S1).1, σ') ∧ ((finA S S1).1 = 0 → RM9 σ' (finA S S1).2) ∧ FRX R47 F56 σ σ') := by
  have h4 := h.1.1.1.2
  refine pq_call (r_builtMany (RM_BV h) pcs_ord (by omega) hV) (fun y hy => ?_)
  obtain ⟨σ1, rfl, h1, h2⟩ := hy
  have ef : finA S S1 = if 600 < (bltS S1).length then (3, S) else (0, S1) := rfl
  refine pq_le (nI_toInt (by omega)) kt_600 (fun q => ?_) (fun q => ?_)
  · have q' : ((bltS S1).length : Int) ≤ 600 := q
    rw [ef, if_neg (show ¬ 600 < (bltS S1).length by omega)]
    exact pq_ret ⟨σ1, rfl, fun _ => RM_frx h h2 (fun q => by omega) (fun k h1 h2 q => by omega) ⟨fun q => by omega, fun q => by omega⟩, h2⟩
  · have q' : (600 : Int) < ((bltS S1).length : Int) := q
    rw [ef, if_pos (show 600 < (bltS S1).length by omega)]
    exact pq_ret ⟨σ1, rfl, fun q => absurd q (show ¬ (3 : Int32) = 0 by decide), h2⟩
def TL9 (σ σ' : RS9) (p : Nat) (t : BL) : Prop := (∀ i, (i < 443 + 61 * p ∨ 443 + 61 * p + t.length < i) → σ'.2 1 i = σ.2 1 i) ∧ σ'.2 1 (443 + 61 * p) = nI t.length ∧ (∀ k, k < t.length → σ'.2 1 (444 + 61 * p + k) = t.getD k 0) ∧ FRX (fun k => k = 1) NF9 σ σ'
theorem r_tells {p : Nat} {t : BL} (hp : p < 40) (h53 : RLs σ 53 t) (ht : t.length ≤ 60) : PQ (mX9_tells (nI p) (nI t.length) σ) (fun y => ∃ σ', y = (0, σ') ∧ TL9 σ σ' p t) := by
  have key : ∀ (d i : Nat) (σ1 : RS9), i ≤ t.length → (∀ z, (z < 443 + 61 * p ∨ 443 + 61 * p + t.length < z) → σ1.2 1 z = σ.2 1 z) → σ1.2 1 (443 + 61 * p) = nI t.length → (∀ k, k < i → σ1.2 1 (444 + 61 * p + k) = t.getD k 0) → FRX (fun k => k = 1) NF9 σ σ1 → PQ (mX9_tells_l16 d (nI p) (nI t.length) (nI i) σ1) (fun y => ∃ σ', y = (0, σ') ∧ TL9 σ σ' p t) := by
    intro d
    induction d with
    | zero => intro i σ1 _ _ _ _ _; exact pq_none
    | succ d ih =>
      intro i σ1 hi h1 h2 h3 hX
      unfold mX9_tells_l16
      refine pq_le (nI_toInt (by omega)) (nI_toInt (by omega)) (fun q => ?_) (fun q => ?_)
      · have e : i = t.length := by omega
        subst e
        exact pq_ret ⟨σ1, rfl, h1, h2, h3, hX⟩
      · rw [nI_61k, rd_nI (by omega), hX.1 53 (fun q => by omega), h53 i (by omega), nI_1]
        refine pq_ck (pq_ck (ih (i + 1) _ (by omega) (fun z hz => ?_) ?_ (fun k hk => ?_) (frx_tr hX ⟨fun k hk => sa_ne hk, fun k hk => rfl⟩)))
        · rw [up_nI (by omega), if_neg (by omega)]; exact h1 z hz
        · rw [up_nI (by omega), if_neg (by omega)]; exact h2
        · rw [up_nI (by omega)]
          by_cases e : k = i
          · rw [if_pos (by rw [e]), e]
          · rw [if_neg (by omega)]; exact h3 k (by omega)
  unfold mX9_tells
  rw [nI_61]
  refine pq_ck (key rFU 0 _ (Nat.zero_le _) (fun z hz => ?_) ?_ (fun k hk => absurd hk (Nat.not_lt_zero _)) ⟨fun k hk => sa_ne hk, fun k hk => rfl⟩)
  · rw [up_nI (by omega), if_neg (by omega)]
  · rw [up_nI (by omega), if_pos rfl]
theorem TL_MR {σ' : RS9} {p : Nat} {t : BL} (h : MR9 (σ.2 1) S) (hp : p < 40) (ht : t.length ≤ 60) (hT : TL9 σ σ' p t) : MR9 (σ'.2 1) (setT S (tset S.2.2.1 p (some t))) := by
  obtain ⟨h1, h2, h3, h4⟩ := h
  obtain ⟨t1, t2, t3, -⟩ := hT
  refine ⟨FL9_ext h1 (fun i hi => t1 i (by omega)), MC_ext h2 (fun i hi => t1 i (by omega)), fun q hq => ?_, PR9_ext h4 (t1 42 (by omega)) (fun i hi _ => t1 i (by omega))⟩
  show σ'.2 1 (443 + 61 * q) = tdN (tset S.2.2.1 p (some t) q) ∧ ∀ u, tset S.2.2.1 p (some t) q = some u → u.length ≤ 60 ∧ ∀ k, k < u.length → σ'.2 1 (444 + 61 * q + k) = u.getD k 0
  by_cases e : q = p
  · subst e
    rw [tset_eq]
    exact ⟨t2, fun u hu => by cases hu; exact ⟨ht, t3⟩⟩
  · rw [tset_ne e]
    obtain ⟨g1, g2⟩ := h3 q hq
    refine ⟨(t1 _ (by omega)).trans g1, fun u hu => ⟨(g2 u hu).1, fun k hk => (t1 _ (by have := (g2 u hu).1; omega)).trans ((g2 u hu).2 k hk)⟩⟩
theorem TL_RM {σ' : RS9} {p : Nat} {t : BL} (h : RM9 σ S) (hp : p < 40) (ht : t.length ≤ 60) (hT : TL9 σ σ' p t) : RM9 σ' (setT S (tset S.2.2.1 p (some t))) := ⟨TL_MR h.1 hp ht hT, PT_frx h.2 hT.2.2.2 (fun k h1 h2 q => by omega) ⟨fun q => q, fun q => q⟩⟩
theorem TL_fr {σ' : RS9} {p : Nat} {t : BL} (hT : TL9 σ σ' p t) : FRX RA9 FA9 σ σ' := frx_mono hT.2.2.2 (fun k hk => Or.inl hk) (fun k hk => absurd hk id)
theorem v_nI {v : Int32} {n : Nat} (h : 0 ≤ v.toInt ∧ v.toInt < (n : Int)) (hn : n ≤ 600) : v = nI v.toInt.toNat ∧ v.toInt.toNat < n := ⟨nI_x h.1 (by omega), by omega⟩
theorem r_free0 {v : Int32} (h : RM9 σ S) (hS : SV S) : PQ (mX9_free0 v σ) (DOA σ (frA S v)) := by
  obtain ⟨h33, h40⟩ := RM_33 h
  unfold mX9_free0
  refine pq_isr (r_isPieceThere h33 h40) ?_
  by_cases hin : inP S v
  · have ed : decide (0 ≤ v.toInt ∧ v.toInt < ((pcF S).length : Int)) = true := decide_eq_true hin
    rw [ed]
    refine pq_f (show ¬ (1 : Int32) = 0 by decide) ?_
    obtain ⟨e1, e2⟩ := v_nI hin (by omega)
    have ef : frA S v = if S.2.2.1 v.toInt.toNat = none then (4, S) else finA S (setT S (tset S.2.2.1 v.toInt.toNat none)) := if_pos hin
    rw [ef]
    generalize v.toInt.toNat = p at e1 e2 ⊢
    subst e1
    have hT := h.1.2.2.1
    refine pq_isr (r_toldOf hT (by omega)) ?_
    cases ht : S.2.2.1 p with
    | none =>
      rw [if_pos (show (none : Option BL) = none from rfl)]
      exact pq_t rfl (pq_ret (bad_a (by decide) frx_rfl))
    | some t =>
      have h60 := ((hT p (by omega)).2 t ht).1
      rw [if_neg (show ¬ (some t : Option BL) = none from fun q => by cases q)]
      refine pq_f (nI_ne (by omega)) (pq_ck ?_)
      rw [nI_61]
      have hX : FRX (fun k => k = 1) NF9 σ (rSa σ 1 (nI (443 + 61 * p)) (-1)) := ⟨fun k hk => sa_ne hk, fun k hk => rfl⟩
      have hM : RM9 (rSa σ 1 (nI (443 + 61 * p)) (-1)) (setT S (tset S.2.2.1 p none)) := by
        have off : ∀ i, i ≠ 443 + 61 * p → (rSa σ 1 (nI (443 + 61 * p)) (-1)).2 1 i = σ.2 1 i := fun i hi => by rw [up_nI (by omega), if_neg hi]
        refine ⟨⟨FL9_ext h.1.1 (fun i hi => off i (by omega)), MC_ext h.1.2.1 (fun i hi => off i (by omega)), fun q hq => ?_, PR9_ext h.1.2.2.2 (off 42 (by omega)) (fun i hi _ => off i (by omega))⟩, PT_frx h.2 hX (fun k h1 h2 q => by omega) ⟨fun q => q, fun q => q⟩⟩
        show (rSa σ 1 (nI (443 + 61 * p)) (-1)).2 1 (443 + 61 * q) = tdN (tset S.2.2.1 p none q) ∧ ∀ u, tset S.2.2.1 p none q = some u → u.length ≤ 60 ∧ ∀ k, k < u.length → (rSa σ 1 (nI (443 + 61 * p)) (-1)).2 1 (444 + 61 * q + k) = u.getD k 0
        by_cases e : q = p
        · subst e
          rw [tset_eq, up_nI (by omega), if_pos rfl]
          exact ⟨rfl, fun u hu => by cases hu⟩
        · rw [tset_ne e]
          obtain ⟨g1, g2⟩ := hT q hq
          exact ⟨(off _ (by omega)).trans g1, fun u hu => ⟨(g2 u hu).1, fun k hk => (off _ (by have := (g2 u hu).1; omega)).trans ((g2 u hu).2 k hk)⟩⟩
      unfold mX9_free0_b50
      refine pq_tail (r_fin (S := S) hM (VE_tset hS.1 (fun t e => by cases e))) (fun y hy => ?_)
      obtain ⟨σ2, k1, k2, k3⟩ := hy
      exact ⟨σ2, k1, k2, frx_tr (frx_mono hX (fun k hk => Or.inl hk) (fun k hk => absurd hk id)) (frx_mono k3 (fun k hk => by omega) (fun k hk => by omega))⟩
  · have ed : decide (0 ≤ v.toInt ∧ v.toInt < ((pcF S).length : Int)) = false := decide_eq_false hin
    rw [ed]
    have ef : frA S v = (1, S) := if_neg hin
    rw [ef]
    exact pq_t rfl (pq_ret (bad_a (by decide) frx_rfl))
theorem r_areLike {i k : Nat} {P : List Pc} {kf : Bool} (hP : PT σ kf P) (hi : i < P.length) (hk : k < P.length) : PQ (mX9_areLike (nI i) (nI k) σ) (fun y => y = (bI (decide (pX (P.getD i pc0) = pX (P.getD k pc0))), σ)) := by
  have h40 := hP.1.2
  have hle1 := tx_le hi
  have hle2 := tx_le hk
  have h6 := hP.2.1.2.1
  have t43 := hP.2.1.2.2.2.1
  obtain ⟨-, -, -, -, -, -, i41, i42⟩ := hP.2.2 i hi
  obtain ⟨-, -, -, -, -, -, k41, k42⟩ := hP.2.2 k hk
  have a42 : rGa σ 42 (nI i) = nI (pX (P.getD i pc0)).length := by rw [rd_nI (by omega)]; exact i42
  have b42 : rGa σ 42 (nI k) = nI (pX (P.getD k pc0)).length := by rw [rd_nI (by omega)]; exact k42
  have a41 : rGa σ 41 (nI i) = nI (tAt P i) := by rw [rd_nI (by omega)]; exact i41
  have b41 : rGa σ 41 (nI k) = nI (tAt P k) := by rw [rd_nI (by omega)]; exact k41
  have fin : ∀ b : Bool, PQ (mX9_areLike_b82 (bI b) σ) (fun y => y = (bI b, σ)) := fun b => by
    unfold mX9_areLike_b82
    exact pq_ck (pq_ret rfl)
  unfold mX9_areLike
  rw [a42, b42]
  refine pq_ck (pq_ck (pq_eqi (nI_toInt (by omega)) (nI_toInt (by omega)) (fun q => ?_) (fun q => ?_)))
  · have hl : (pX (P.getD i pc0)).length = (pX (P.getD k pc0)).length := by omega
    have key : ∀ (d j : Nat) (b : Bool), j ≤ (pX (P.getD i pc0)).length → (b = true ↔ ∀ z, z < j → (pX (P.getD i pc0)).getD z 0 = (pX (P.getD k pc0)).getD z 0) → PQ (mX9_areLike_l24 d (nI i) (nI k) (bI b) (nI j) σ) (fun y => y = (bI (decide (pX (P.getD i pc0) = pX (P.getD k pc0))), σ)) := by
      intro d
      induction d with
      | zero => intro j b _ _; exact pq_none
      | succ d ih =>
        intro j b hj hb
        unfold mX9_areLike_l24
        rw [a42, a41, b41]
        refine pq_ck (pq_le (nI_toInt (by omega)) (nI_toInt (by omega)) (fun q1 => ?_) (fun q1 => if_01 (fun q2 => ?_) (fun q2 => ?_)))
        · have e : b = decide (pX (P.getD i pc0) = pX (P.getD k pc0)) := by
            cases hbb : b with
            | true => exact (decide_eq_true (bl_ext hl (fun z hz => hb.mp hbb z (by omega)))).symm
            | false => exact (decide_eq_false (fun h => by rw [hb.mpr (fun z _ => by rw [h])] at hbb; cases hbb)).symm
          rw [← e]; exact fin b
        · have e : decide (pX (P.getD i pc0) = pX (P.getD k pc0)) = b := by
            rw [q2]
            exact decide_eq_false (fun h => by rw [hb.mpr (fun z _ => by rw [h])] at q2; cases q2)
          rw [e]; exact fin b
        · rw [nI_add, nI_add, rd_nI (by omega), rd_nI (by omega), t43 _ (by omega), t43 _ (by omega), tx_gd hi (by omega), tx_gd hk (by omega)]
          have nxt : ∀ b2 : Bool, b2 = decide ((pX (P.getD i pc0)).getD j 0 = (pX (P.getD k pc0)).getD j 0) → PQ (mX9_areLike_b75 (fun v1 v2 v3 v4 σ => mX9_areLike_l24 d v1 v2 v3 v4 σ) (nI i) (nI k) (nI j) (bI b2) σ) (fun y => y = (bI (decide (pX (P.getD i pc0) = pX (P.getD k pc0))), σ)) := fun b2 hb2 => by
            unfold mX9_areLike_b75
            rw [nI_1]
            refine ih (j + 1) b2 (by omega) ?_
            rw [hb2, decide_eq_true_iff]
            refine ⟨fun h z hz => ?_, fun h => h j (by omega)⟩
            by_cases e : z = j
            · rw [e]; exact h
            · exact hb.mp q2 z (by omega)
          exact pq_ck (pq_ck (pq_ck (pq_ck (pq_eq (fun q3 => nxt true (decide_eq_true q3).symm) (fun q3 => nxt false (decide_eq_false q3).symm)))))
    unfold mX9_areLike_b20
    exact key rFU 0 true (Nat.zero_le _) ⟨fun _ z hz => absurd hz (Nat.not_lt_zero _), fun _ => rfl⟩
  · have e : decide (pX (P.getD i pc0) = pX (P.getD k pc0)) = false := decide_eq_false (fun h => q (by rw [h]))
    rw [e]
    unfold mX9_areLike_b20
    have k0 : ∀ d, PQ (mX9_areLike_l24 d (nI i) (nI k) 0 0 σ) (fun y => y = (bI false, σ)) := fun d => by
      cases d with
      | zero => exact pq_none
      | succ d =>
        unfold mX9_areLike_l24
        exact pq_ck (pq_le rfl rfl (fun _ => fin false) (fun _ => pq_t rfl (fin false)))
    exact k0 rFU
end RAC
