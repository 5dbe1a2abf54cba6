/-! questions with their answers: the reference -/
section RQA
variable {σ : RS9} {V : SPV}
theorem gt1_t {L : BL} {i : Int32} (h : 0 ≤ i.toInt ∧ i.toInt < (L.length : Int)) : gt1 L i = L.getD i.toInt.toNat 0 := if_pos h
theorem gt1_f {L : BL} {i : Int32} (h : ¬ (0 ≤ i.toInt ∧ i.toInt < (L.length : Int))) : gt1 L i = -1 := if_neg h
theorem r_inN {v : Int32} {m : Nat} (hm : m ≤ 5000) : PQ (mX9_isIn v 0 (nI m - 1) σ) (fun y => y = (bI (decide (0 ≤ v.toInt ∧ v.toInt < (m : Int))), σ)) := pq_tail r_isIn (fun y hy => by
  have e : (nI m - 1).toInt = (m : Int) - 1 := i_sub (nI_toInt (by omega)) kt_1 (by omega)
  have e2 : (0 ≤ v.toInt ∧ v.toInt ≤ (m : Int) - 1) ↔ (0 ≤ v.toInt ∧ v.toInt < (m : Int)) := by omega
  rw [hy, kt_0, e, decide_eq_decide.mpr e2])
theorem RR_pc {p : Nat} (h : RR9 σ V) (hp : p < (pcF V.2.1).length) : σ.2 34 p = nI (pOf V.2.1 p).1 ∧ σ.2 35 p = nI (pOf V.2.1 p).2.1 ∧ (V.2.1.2.1.1 = 0 → σ.2 39 p = nI (pOf V.2.1 p).2.2.2.2.2.1 ∧ σ.2 40 p = nI (pOf V.2.1 p).2.2.2.2.2.2.1) ∧ σ.2 41 p = nI (tAt (pcF V.2.1) p) ∧ σ.2 42 p = nI (pX (pOf V.2.1 p)).length := by
  obtain ⟨a34, a35, -, -, -, a39, a41, a42⟩ := h.2.1.2.2.2 p hp
  exact ⟨a34, a35, fun q => a39 (decide_eq_true q), a41, a42⟩
theorem r_at {i w : Int32} (h : RR9 σ V) (hS : SV V.2.1) : PQ (mX9_at i w σ) (RAI (sAt V i w)) := by
  have h0 := RR_f0 (x := 0) h
  have h4 := RR_4 h
  unfold mX9_at sAt
  refine pq_eq (fun q => ?_) (fun q => ?_)
  · rw [if_pos q]
    have er : rGa σ 1 (0 : Int32) = nI V.2.1.1.length := (rd_nI (k := 0) (by omega)).trans h.2.1.1.1.1.1
    refine pq_ck ?_
    rw [er]
    refine pq_isr (r_inN (by omega)) (if_01 (fun q => ?_) (fun q => ?_))
    · exact pq_ret ⟨h0, (gt1_f (of_decide_eq_false q)).symm⟩
    · have hin := of_decide_eq_true q
      obtain ⟨e1, e2⟩ := v_nI hin (by omega)
      rw [gt1_t hin]
      generalize i.toInt.toNat = k at e1 e2 ⊢
      subst e1
      refine pq_ck ?_
      have e3 : (43 : Int32) + nI k = nI (43 + k) := nI_add 43 k
      rw [e3, rd_nI (by omega)]
      exact pq_ret ⟨h0, h.2.1.1.1.2 k e2⟩
  · rw [if_neg q]
    have h6 : (bltS V.2.1).length ≤ 600 := hS.2.1
    refine pq_call (r_builds (RM_BV h0.2.1) pcs_ord (by omega) hS.1) (fun y hy => ?_)
    obtain ⟨σ', rfl, hU, g⟩ := hy
    have hR : RR9 σ' V := RR_frx h0 g (fun k hk q => by omega) (fun k hk q => by omega)
    refine pq_isr (r_inN (m := (bltS V.2.1).length) (by omega)) (if_01 (fun q => ?_) (fun q => ?_))
    · exact pq_ret ⟨hR, (gt1_f (of_decide_eq_false q)).symm⟩
    · have hin := of_decide_eq_true q
      obtain ⟨e1, e2⟩ := v_nI hin (by omega)
      rw [gt1_t hin]
      generalize i.toInt.toNat = k at e1 e2 ⊢
      subst e1
      refine pq_ck ?_
      rw [rd_nI (by omega)]
      exact pq_ret ⟨hR, hU.1 k e2⟩
theorem r_mem42 {t : BL} {a : Nat} {s0 s1 c : Int32} (hW : PW9 (σ.2 1) a t) (ha : a ≤ 5000) (es : s0 + s1 = nI a) : PQ (mX9_memory_b42 c s0 s1 σ) (fun y => y = (gt1 t c, σ)) := by
  have h60 := hW.1
  unfold mX9_memory_b42
  rw [es, rd_nI (by omega), hW.2.1]
  refine pq_ck (pq_isr (r_inN (by omega)) (if_01 (fun q => ?_) (fun q => ?_)))
  · rw [gt1_f (of_decide_eq_false q)]; exact pq_ret rfl
  · have hin := of_decide_eq_true q
    obtain ⟨e1, e2⟩ := v_nI hin (by omega)
    rw [gt1_t hin]
    generalize c.toInt.toNat = k at e1 e2 ⊢
    subst e1
    refine pq_ck ?_
    rw [nI_1, nI_add, rd_nI (by omega), hW.2.2 k e2]
    exact pq_ret rfl
theorem nI_122m {k : Nat} : (2883 : Int32) + (122 : Int32) * nI k = nI (2883 + 122 * k) := by
  have e : (122 : Int32) * nI k = nI (122 * k) := nI_mulc 122 k
  rw [e]; exact nI_add 2883 _
theorem r_mem {a b c : Int32} (h : RR9 σ V) : PQ (mX9_memory a b c σ) (RAI (sMem V a b c)) := by
  have h0 := RR_f0 (x := 0) h
  obtain ⟨p42, p12, pw⟩ := h0.2.1.1.2.2.2
  have er : rGa σ 1 (42 : Int32) = nI V.2.1.2.2.2.length := (rd_nI (k := 42) (by omega)).trans p42
  unfold mX9_memory sMem
  rw [er]
  refine pq_ck (pq_isr (r_inN (by omega)) (if_01 (fun q => ?_) (fun q => ?_)))
  · rw [if_neg (of_decide_eq_false q)]; exact pq_ret ⟨h0, rfl⟩
  · have hin := of_decide_eq_true q
    obtain ⟨e1, e2⟩ := v_nI hin (by omega)
    rw [if_pos hin]
    generalize a.toInt.toNat = k at e1 e2 ⊢
    subst e1
    obtain ⟨w1, w2⟩ := pw k e2
    rw [nI_122m]
    refine pq_eq (fun q2 => ?_) (fun q2 => ?_)
    · rw [if_pos q2]
      exact pq_tail (r_mem42 w1 (by omega) (nI_add (2883 + 122 * k) 0)) (fun y hy => by rw [hy]; exact ⟨h0, rfl⟩)
    · rw [if_neg q2]
      have e61 : nI (2883 + 122 * k) + (61 : Int32) = nI (2944 + 122 * k) := (nI_add (2883 + 122 * k) 61).trans (congrArg nI (by omega))
      exact pq_tail (r_mem42 w2 (by omega) e61) (fun y hy => by rw [hy]; exact ⟨h0, rfl⟩)
theorem r_oct {p i w : Int32} (h : RR9 σ V) : PQ (mX9_octet p i w σ) (RAN (sOct V p i w) wc_L_octet) := by
  obtain ⟨h33, h40⟩ := RM_33 h.2.1
  have h0 := RR_f0 (x := 0) h
  unfold mX9_octet sOct
  refine pq_isr (r_isPieceThere h33 h40) (if_01 (fun q => ?_) (fun q => ?_))
  · rw [if_neg (of_decide_eq_false q)]
    unfold mX9_octet_b14
    exact pq_f (show ¬ (1 : Int32) ≤ 0 by decide) (pq_ret ⟨RR_f0 h, sf_eq⟩)
  · have hin : inP V.2.1 p := of_decide_eq_true q
    rw [if_pos hin]
    obtain ⟨e1, e2⟩ := v_nI hin (by omega)
    generalize p.toInt.toNat = p' at e1 e2 ⊢
    subst e1
    have l1 : tAt (pcF V.2.1) p' + (pX (pOf V.2.1 p')).length ≤ (txs (pcF V.2.1)).length := tx_le e2
    have l6 : (txs (pcF V.2.1)).length ≤ 600 := h.2.1.2.2.1.2.1
    unfold mX9_octet_b14
    refine pq_t (show (0 : Int32) ≤ 0 by decide) (pq_eq (fun q => ?_) (fun q => ?_))
    · rw [if_pos q]
      obtain ⟨-, -, -, -, a42⟩ := RR_pc h e2
      obtain ⟨-, -, -, a41, -⟩ := RR_pc h0 e2
      refine pq_ck ?_
      rw [rd_nI (by omega), a42]
      unfold mX9_octet_b46
      refine pq_isr (r_inN (by omega)) (if_01 (fun q2 => ?_) (fun q2 => ?_))
      · exact pq_ret ⟨h0, (gt1_f (of_decide_eq_false q2)).symm, sf_eq⟩
      · have hi := of_decide_eq_true q2
        obtain ⟨e3, e4⟩ := v_nI hi (by omega)
        rw [gt1_t hi]
        generalize i.toInt.toNat = k at e3 e4 ⊢
        subst e3
        refine pq_t q (pq_ck (pq_ck ?_))
        have e5 : rGa (rSf σ 0 0) 41 (nI p') + nI k = nI (tAt (pcF V.2.1) p' + k) := by rw [rd_nI (by omega), a41, nI_add]
        have e6 : rGa (rSf σ 0 0) 43 (nI (tAt (pcF V.2.1) p' + k)) = (pX (pOf V.2.1 p')).getD k 0 := (rd_nI (by omega)).trans ((h0.2.1.2.2.1.2.2.2.1 _ (by omega)).trans (tx_gd e2 e4))
        show PQ (mX9_octet_b82 (rGa (rSf σ 0 0) 43 (rGa (rSf σ 0 0) 41 (nI p') + nI k)) (rSf σ 0 0)) _
        rw [e5, e6]
        exact pq_ret ⟨h0, rfl, sf_eq⟩
    · rw [if_neg q]
      have hl : (nowOf V.2.1 p').length ≤ 600 := by
        cases ht : V.2.1.2.2.1 p' with
        | none => rw [now_n ht]; omega
        | some t => rw [now_s ht]; have := ((h.2.1.1.2.2.1 p' (by omega)).2 t ht).1; omega
      refine pq_isr (a := nI (nowOf V.2.1 p').length) (pq_tail (r_nowMany h0.2.1.1.2.2.1 h0.2.1.2 e2) (fun y hy => by rw [hy, nw_now])) ?_
      unfold mX9_octet_b46
      refine pq_isr (r_inN (by omega)) (if_01 (fun q2 => ?_) (fun q2 => ?_))
      · exact pq_ret ⟨h0, (gt1_f (of_decide_eq_false q2)).symm, sf_eq⟩
      · have hi := of_decide_eq_true q2
        obtain ⟨e3, e4⟩ := v_nI hi (by omega)
        rw [gt1_t hi]
        generalize i.toInt.toNat = k at e3 e4 ⊢
        subst e3
        refine pq_f q (pq_isr (a := (nowOf V.2.1 p').getD k 0) (pq_tail (r_nowByte h0.2.1.1.2.2.1 h0.2.1.2 e2 (by rw [nw_now]; exact e4)) (fun y hy => by rw [hy, nw_now])) ?_)
        exact pq_ret ⟨h0, rfl, sf_eq⟩
theorem r_org {p i : Int32} (h : RR9 σ V) : PQ (mX9_origin p i σ) (RAN (sOrg V p i) wc_L_origin) := by
  obtain ⟨h33, h40⟩ := RM_33 h.2.1
  have h0 := RR_f0 (x := 0) h
  unfold mX9_origin sOrg
  refine pq_isr (r_isPieceThere h33 h40) (if_01 (fun q => ?_) (fun q => ?_))
  · rw [if_neg (of_decide_eq_false q)]
    unfold mX9_origin_b14
    exact pq_f (show ¬ (1 : Int32) ≤ 0 by decide) (pq_ret ⟨RR_f0 h, sf_eq⟩)
  · have hin : inP V.2.1 p := of_decide_eq_true q
    rw [if_pos hin]
    obtain ⟨e1, e2⟩ := v_nI hin (by omega)
    generalize p.toInt.toNat = p' at e1 e2 ⊢
    subst e1
    have l1 : tAt (pcF V.2.1) p' + (pX (pOf V.2.1 p')).length ≤ (txs (pcF V.2.1)).length := tx_le e2
    have l6 : (txs (pcF V.2.1)).length ≤ 600 := h.2.1.2.2.1.2.1
    have el : (ogs (pcF V.2.1)).length = (txs (pcF V.2.1)).length := h.2.1.2.2.1.2.2.1
    obtain ⟨-, -, -, -, a42⟩ := RR_pc h e2
    obtain ⟨-, -, -, a41, -⟩ := RR_pc h0 e2
    unfold mX9_origin_b14 ogA
    refine pq_t (show (0 : Int32) ≤ 0 by decide) (pq_ck ?_)
    rw [rd_nI (by omega), a42]
    refine pq_isr (r_inN (by omega)) (if_01 (fun q2 => ?_) (fun q2 => ?_))
    · rw [if_neg (of_decide_eq_false q2)]
      exact pq_ret ⟨h0, rfl, sf_eq⟩
    · have hi := of_decide_eq_true q2
      obtain ⟨e3, e4⟩ := v_nI hi (by omega)
      rw [if_pos hi]
      generalize i.toInt.toNat = k at e3 e4 ⊢
      subst e3
      refine pq_ck (pq_ck ?_)
      have e5 : rGa (rSf σ 0 0) 41 (nI p') + nI k = nI (tAt (pcF V.2.1) p' + k) := by rw [rd_nI (by omega), a41, nI_add]
      have e6 : rGa (rSf σ 0 0) 44 (nI (tAt (pcF V.2.1) p' + k)) = (ogs (pcF V.2.1)).getD (tAt (pcF V.2.1) p' + k) 0 := (rd_nI (by omega)).trans (h0.2.1.2.2.1.2.2.2.2 _ (by omega))
      show PQ (mX9_origin_b59 (rGa (rSf σ 0 0) 44 (rGa (rSf σ 0 0) 41 (nI p') + nI k)) (rSf σ 0 0)) _
      rw [e5, e6]
      exact pq_ret ⟨h0, rfl, sf_eq⟩
theorem in_01 {w : Int32} : (0 ≤ w.toInt ∧ w.toInt ≤ 1) ↔ (w = 0 ∨ w = 1) := by
  constructor
  · intro h
    by_cases q : w.toInt = 0
    · exact Or.inl (Int32.toInt_inj.mp (q.trans kt_0.symm))
    · exact Or.inr (Int32.toInt_inj.mp ((show w.toInt = 1 by omega).trans kt_1.symm))
  · rintro (rfl | rfl)
    · rw [kt_0]; omega
    · rw [kt_1]; omega
theorem r_key {p w : Int32} (h : RR9 σ V) : PQ (mX9_key p w σ) (RAN (sKey V p w) wc_L_key) := by
  obtain ⟨h33, h40⟩ := RM_33 h.2.1
  have h0 := RR_f0 (x := 0) h
  unfold mX9_key sKey
  refine pq_isr (r_isPieceThere h33 h40) (if_01 (fun q => ?_) (fun q => ?_))
  · rw [if_neg (of_decide_eq_false q)]
    unfold mX9_key_b27
    exact pq_f (show ¬ (1 : Int32) ≤ 0 by decide) (pq_ret ⟨RR_f0 h, sf_eq⟩)
  · have hin : inP V.2.1 p := of_decide_eq_true q
    rw [if_pos hin]
    obtain ⟨e1, e2⟩ := v_nI hin (by omega)
    generalize p.toInt.toNat = p' at e1 e2 ⊢
    subst e1
    obtain ⟨-, -, a39, -, -⟩ := RR_pc h e2
    have ek : rGa σ 1 (1 : Int32) = V.2.1.2.1.1 := (rd_nI (k := 1) (by omega)).trans h.2.1.1.2.1.1
    unfold mX9_key_b27
    refine pq_isr r_isIn (if_01 (fun q2 => ?_) (fun q2 => ?_))
    · have q2 := of_decide_eq_false q2
      rw [kt_0, kt_1] at q2
      rw [if_neg (fun o => q2 (in_01.mpr o))]
      exact pq_f (show ¬ (2 : Int32) ≤ 0 by decide) (pq_ret ⟨RR_f0 h, sf_eq⟩)
    · have q2 := of_decide_eq_true q2
      rw [kt_0, kt_1] at q2
      rw [if_pos (in_01.mp q2)]
      unfold keA
      refine pq_t (show (0 : Int32) ≤ 0 by decide) (pq_ck ?_)
      rw [ek]
      refine pq_eq (fun q3 => ?_) (fun q3 => ?_)
      · obtain ⟨b39, b40⟩ := a39 q3
        rw [if_pos q3]
        refine pq_eq (fun q4 => ?_) (fun q4 => ?_)
        · rw [if_pos q4, rd_nI (by omega), b39]
          exact pq_ck (pq_ret ⟨h0, rfl, sf_eq⟩)
        · rw [if_neg q4, rd_nI (by omega), b40]
          exact pq_ck (pq_ret ⟨h0, rfl, sf_eq⟩)
      · rw [if_neg q3]; exact pq_ret ⟨h0, rfl, sf_eq⟩
theorem r_hol {b : Int32} (h : RR9 σ V) : PQ (mX9_holder b σ) (RAI (sHol V b)) := by
  have h0 := RR_f0 (x := 0) h
  obtain ⟨h33, h40⟩ := RM_33 h0.2.1
  unfold mX9_holder sHol
  generalize rSf σ 0 0 = s at h0 h33
  have key : ∀ (d e i : Nat), i + e = (pcF V.2.1).length → PQ (mX9_holder_l7 d b (nI i) s) (RAI (hlF V.2.1 b e i, V)) := by
    intro d
    induction d with
    | zero => intro _ _ _; exact pq_none
    | succ d ih =>
      intro e i hi
      unfold mX9_holder_l7
      rw [h33]
      refine pq_le (nI_toInt (by omega)) (nI_toInt (by omega)) (fun q => ?_) (fun q => ?_)
      · obtain rfl : e = 0 := by omega
        exact pq_ret ⟨h0, rfl⟩
      · obtain ⟨e, rfl⟩ : ∃ e', e = e' + 1 := ⟨e - 1, by omega⟩
        have hi' : i < (pcF V.2.1).length := by omega
        obtain ⟨a34, a35, -⟩ := RR_pc h0 hi'
        have hord := (pcs_ord (cf := V.2.1.2.1) (L := V.2.1.1)).1 i hi'
        have h4 : V.2.1.1.length ≤ 400 := RR_4 h0
        have l1 : (pOf V.2.1 i).2.1 ≤ 400 := Nat.le_trans hord.2.2 h4
        have l0 : (pOf V.2.1 i).1 < (pOf V.2.1 i).2.1 := hord.2.1
        rw [rd_nI (by omega), rd_nI (by omega), a34, a35]
        refine pq_ck (pq_ck (pq_isr r_isIn ?_))
        have e1 : (nI (pOf V.2.1 i).2.1 - 1).toInt = ((pOf V.2.1 i).2.1 : Int) - 1 := i_sub (nI_toInt (by omega)) kt_1 (by omega)
        rw [nI_toInt (by omega), e1]
        unfold hlF
        refine if_01 (fun q2 => ?_) (fun q2 => ?_)
        · have q2 := of_decide_eq_false q2
          rw [if_neg (by omega), nI_1]
          exact ih e (i + 1) (by omega)
        · have q2 := of_decide_eq_true q2
          rw [if_pos (by omega)]
          exact pq_ret ⟨h0, rfl⟩
  exact key rFU _ 0 (Nat.zero_add _)
theorem r_lik {p k : Int32} (h : RR9 σ V) : PQ (mX9_like p k σ) (RAN (sLik V p k) wc_L_like) := by
  obtain ⟨h33, h40⟩ := RM_33 h.2.1
  unfold mX9_like sLik
  refine pq_isr (r_isPieceThere h33 h40) (if_01 (fun q => ?_) (fun q => ?_))
  · rw [if_neg (of_decide_eq_false q)]
    unfold mX9_like_b14
    exact pq_f (show ¬ (1 : Int32) ≤ 0 by decide) (pq_ret ⟨RR_f0 h, sf_eq⟩)
  · have hin : inP V.2.1 p := of_decide_eq_true q
    rw [if_pos hin]
    obtain ⟨e1, e2⟩ := v_nI hin (by omega)
    generalize p.toInt.toNat = p' at e1 e2 ⊢
    subst e1
    unfold mX9_like_b14
    refine pq_t (show (0 : Int32) ≤ 0 by decide) ?_
    have h0 := RR_f0 (x := 0) h
    have hz : (rSf σ 0 0).1 0 = 0 := sf_eq
    generalize rSf σ 0 0 = s at h0 hz
    obtain ⟨h33, -⟩ := RM_33 h0.2.1
    have key : ∀ (d e i : Nat) (m : Int32), i + e = (pcF V.2.1).length → PQ (mX9_like_l31 d (nI p') k m (nI i) s) (RAN (.inl (lkF V.2.1 p' k e i m), V) wc_L_like) := by
      intro d
      induction d with
      | zero => intro _ _ _ _; exact pq_none
      | succ d ih =>
        intro e i m hi
        unfold mX9_like_l31
        rw [h33]
        refine pq_le (nI_toInt (by omega)) (nI_toInt (by omega)) (fun q => ?_) (fun q => ?_)
        · obtain rfl : e = 0 := by omega
          exact pq_ret ⟨h0, rfl, hz⟩
        · obtain ⟨e, rfl⟩ : ∃ e', e = e' + 1 := ⟨e - 1, by omega⟩
          have hi' : i < (pcF V.2.1).length := by omega
          have nxt : ∀ m : Int32, PQ (mX9_like_b64 (fun v1 v2 v3 v4 σ => mX9_like_l31 d v1 v2 v3 v4 σ) (nI p') k m (nI i) s) (RAN (.inl (lkF V.2.1 p' k e (i + 1) m), V) wc_L_like) := fun m => by
            unfold mX9_like_b64
            rw [nI_1]; exact ih e (i + 1) m (by omega)
          refine pq_isr (a := bI (lkB V.2.1 p' i)) (r_areLike h0.2.1.2 e2 hi') ?_
          unfold lkF
          refine if_01 (fun q2 => ?_) (fun q2 => ?_)
          · rw [if_neg (by rw [q2]; decide)]; exact nxt m
          · rw [if_pos q2]
            refine pq_eq (fun q3 => ?_) (fun q3 => ?_)
            · rw [if_pos q3]; exact pq_ret ⟨h0, rfl, hz⟩
            · rw [if_neg q3]; exact nxt (m + 1)
    exact key rFU _ 0 0 (Nat.zero_add _)
end RQA
