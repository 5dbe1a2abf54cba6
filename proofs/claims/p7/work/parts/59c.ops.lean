/-! each call of the class that changes something -/
abbrev ANS : Type := (Int32 ⊕ String) × SPV
def COK (s : ANS) (y : (Int32 ⊕ String) × HpN) : Prop := ∃ f' n', y = (s.1, f', n') ∧ RC f' n' s.2
def COI (s : Int32 × SPV) (y : Int32 × HpN) : Prop := ∃ f' n', y = (s.1, f', n') ∧ RC f' n' s.2
def sAct (V : SPV) (r : Int32 × SST) (v : Int32) : ANS := (if r.1 = 0 then .inl v else .inr eS, sCall V r)
def nPc (V : SPV) : Int32 := nI (pcF V.2.1).length
def nBl (V : SPV) : Int32 := nI (bltS V.2.1).length
def noT (V : SPV) : SPV := ([], V.2)
def sKind (V : SPV) (k i : Int32) : ANS := if k.toInt ≤ 3 ∧ (if i = 0 then (0 : Int) else -1) ≤ k.toInt then sAct V (dA V.2.1 (if i = 0 then 0 else 1) k 0 []) (nPc (sCall V (dA V.2.1 (if i = 0 then 0 else 1) k 0 []))) else (.inr eA, V)
def sRule (V : SPV) (a m : Int32) : ANS := if a = 0 then (if 0 ≤ m.toInt ∧ m.toInt ≤ 1 then sAct V (dA V.2.1 (if m = 1 then 3 else 4) 0 0 []) (nPc (sCall V (dA V.2.1 (if m = 1 then 3 else 4) 0 0 []))) else (.inr eA, V)) else if a = 1 then (if 1 ≤ m.toInt ∧ m.toInt ≤ 40 then sAct V (dA V.2.1 5 m 0 []) (nPc (sCall V (dA V.2.1 5 m 0 []))) else (.inr eA, V)) else (.inr eN, V)
def isWd (T : BL) : Bool := decide (1 ≤ T.length) && decide (T.length ≤ 8) && T.all bLow
def sLock (V : SPV) : ANS := if isWd V.1 = true then sAct (noT V) (dA V.2.1 6 0 0 V.1) (nPc (sCall (noT V) (dA V.2.1 6 0 0 V.1))) else (.inr eA, noT V)
def sUnlock (V : SPV) : ANS := sAct V (dA V.2.1 7 0 0 []) (nPc (sCall V (dA V.2.1 7 0 0 [])))
def sTell (V : SPV) (p : Int32) : ANS := if V.1.length ≤ 60 then sAct (noT V) (dA V.2.1 12 p 0 V.1) (nBl (sCall (noT V) (dA V.2.1 12 p 0 V.1))) else (.inr eA, noT V)
def sFree (V : SPV) (p : Int32) : ANS := sAct V (dA V.2.1 8 p 0 []) (nBl (sCall V (dA V.2.1 8 p 0 [])))
def lkN (S : SST) (p : Nat) : Nat → Nat
  | 0 => 0
  | i + 1 => lkN S p i + (if lkB S p i = true then 1 else 0)
def sSpread (V : SPV) (p : Int32) : ANS := sAct V (dA V.2.1 9 p 0 []) (nI (lkN V.2.1 p.toInt.toNat (pcF V.2.1).length) - 1)
def sSwap (V : SPV) (p o : Int32) : ANS := sAct V (dA V.2.1 10 p o []) (nBl (sCall V (dA V.2.1 10 p o [])))
def sWipe (V : SPV) : ANS := sAct V (dA V.2.1 11 0 0 []) (nI (tcnt V.2.1.2.2.1 40))
section COP
variable {f : AH} {n : Nat} {V : SPV}
theorem f_act1 {a x y : Int32} {jw : Option Nat} {w : BL} {v : Int32} {tail : (Int32 ⊕ String) × HpN → Int32 → Option ((Int32 ⊕ String) × HpN)} (h : PRE f n V) (hA : ARG f n a x jw w) (ht : ∀ f' n', (dA V.2.1 a x y w).1 = 0 → RC f' n' (sCall V (dA V.2.1 a x y w)) → PQ (tail (.inl 0, f', n') 0) (fun z => z = (.inl v, f', n'))) : PQ ((mX8_doAct 0 a x y jw f n).bind fun r2 => rCk (isO r2.2.1 0 8) (((mX8_finishCall 0 r2.1 r2.2.1 r2.2.2).bind fun r5 => tS r5.1 r5.2 (fun y5 => tail r5 y5)))) (COK (sAct V (dA V.2.1 a x y w) v)) := by
  refine f_dofin h hA (fun f' n' hR => ?_)
  unfold sAct
  by_cases hc : (dA V.2.1 a x y w).1 = 0
  · rw [if_pos hc, if_pos hc]
    refine pq_tail (ht f' n' hc hR) (fun z hz => ?_)
    rw [hz]
    exact ⟨f', n', rfl, hR⟩
  · rw [if_neg hc, if_neg hc]
    exact pq_ret ⟨f', n', rfl, hR⟩
theorem f_tsize (h : RC f n V) : PQ ((gR f 0 8 5).bind fun x7 => ((x7).bind fun j8 => rCk (isO f j8 1) (((mX1_size j8 f n).bind fun r10 => some ((.inl r10.1 : Int32 ⊕ String), (r10.2.1, r10.2.2)))))) (fun z => z = (.inl (nPc V), f, n)) := by
  obtain ⟨ag, hp⟩ := RC_p h
  exact pq_gR hp rfl (pq_sb (pq_ck (pq_is (f_csize h.2.2.2.1.1.2.1.1.1) (pq_ret rfl))))
theorem f_tbuilt (h : RC f n V) : PQ ((gR f 0 8 7).bind fun x13 => ((x13).bind fun j14 => ((gR f j14 0 0).bind fun x15 => ((x15).bind fun j16 => rCk (isO f j16 5) (((mX5_size j16 f n).bind fun r18 => some ((.inl r18.1 : Int32 ⊕ String), (r18.2.1, r18.2.2)))))))) (fun z => z = (.inl (nBl V), f, n)) := by
  obtain ⟨ag, hp⟩ := RC_p h
  obtain ⟨⟨qw, hb⟩, -⟩ := h.2.2.2.1.1.2.2.1
  exact pq_gR hp rfl (pq_sb (pq_gR hb rfl (pq_sb (pq_ck (pq_is (f_size h.2.2.2.1.1.2.2.2.1) (pq_ret rfl))))))
theorem arg_n {a x : Int32} (h0 : a = 0 → x = 0 ∨ x = 1 ∨ x = 2 ∨ x = 3) (h1 : a = 1 → x = -1 ∨ x = 0 ∨ x = 1 ∨ x = 2 ∨ x = 3) (h5 : a = 5 → 1 ≤ x.toInt ∧ x.toInt ≤ 40) (h6 : a ≠ 6) (h12 : a = 0 ∨ a = 1 ∨ a = 2 ∨ a = 3 ∨ a = 4 ∨ a = 5 ∨ a = 7 ∨ a = 8 ∨ a = 9 ∨ a = 10 ∨ a = 11) : ARG f n a x none [] := by
  refine ⟨h0, h1, h5, fun q => absurd q h6, fun q => ?_⟩
  exfalso
  obtain ⟨g0, g1, g2, g3, g4, g5, g6, g7, g8, g9, g10, g11⟩ := q
  rcases h12 with e | e | e | e | e | e | e | e | e | e | e
  · exact g0 e
  · exact g1 e
  · exact g2 e
  · exact g3 e
  · exact g4 e
  · exact g5 e
  · exact g7 e
  · exact g8 e
  · exact g9 e
  · exact g10 e
  · exact g11 e
theorem arg_p {a x : Int32} (h : a = 2 ∨ a = 3 ∨ a = 4 ∨ a = 7 ∨ a = 8 ∨ a = 9 ∨ a = 10 ∨ a = 11) : ARG f n a x none [] := by
  rcases h with rfl | rfl | rfl | rfl | rfl | rfl | rfl | rfl <;> exact arg_n (fun q => absurd q (by decide)) (fun q => absurd q (by decide)) (fun q => absurd q (by decide)) (by decide) (by decide)
theorem i32_m3 {x : Int32} (h : -1 ≤ x.toInt ∧ x.toInt ≤ 3) : x = -1 ∨ x = 0 ∨ x = 1 ∨ x = 2 ∨ x = 3 := by
  by_cases h0 : 0 ≤ x.toInt
  · exact Or.inr (i32_03 ⟨h0, h.2⟩)
  · exact Or.inl (Int32.toInt_inj.mp (by rw [kt_m1]; omega))
theorem k_kind (h : RC f n V) {k i : Int32} : PQ (mX8_kind 0 k i f n) (COK (sKind V k i)) := by
  unfold mX8_kind
  have bad : ¬ (k.toInt ≤ 3 ∧ (if i = 0 then (0 : Int) else -1) ≤ k.toInt) → PQ (mX8_kind_b18 f n) (COK (sKind V k i)) := fun q => by
    have e : sKind V k i = (.inr eA, V) := if_neg q
    rw [e]
    exact pq_ret ⟨f, n, rfl, h⟩
  refine pq_lt kt_3 rfl (fun q => bad (fun q2 => by omega)) (fun q => ?_)
  refine pq_eq (fun q0 => ?_) (fun q0 => ?_)
  · unfold mX8_kind_b15
    refine pq_le kt_0 rfl (fun q1 => ?_) (fun q1 => bad (fun q2 => by rw [if_pos q0] at q2; omega))
    have e : sKind V k i = sAct V (dA V.2.1 0 k 0 []) (nPc (sCall V (dA V.2.1 0 k 0 []))) := by
      unfold sKind
      rw [if_pos ⟨q, by rw [if_pos q0]; exact q1⟩, if_pos q0]
    rw [e]
    refine f_prep h (fun f' hP _ => pq_t q0 ?_)
    exact pq_ck (f_act1 hP (arg_n (fun _ => i32_03 ⟨q1, q⟩) (fun q => absurd q (by decide)) (fun q => absurd q (by decide)) (by decide) (by decide)) (fun f'' n'' _ hR => f_tsize hR))
  · unfold mX8_kind_b15
    refine pq_le kt_m1 rfl (fun q1 => ?_) (fun q1 => bad (fun q2 => by rw [if_neg q0] at q2; omega))
    have e : sKind V k i = sAct V (dA V.2.1 1 k 0 []) (nPc (sCall V (dA V.2.1 1 k 0 []))) := by
      unfold sKind
      rw [if_pos ⟨q, by rw [if_neg q0]; exact q1⟩, if_neg q0]
    rw [e]
    refine f_prep h (fun f' hP _ => pq_f q0 ?_)
    exact pq_ck (f_act1 hP (arg_n (fun q => absurd q (by decide)) (fun _ => i32_m3 ⟨q1, q⟩) (fun q => absurd q (by decide)) (by decide) (by decide)) (fun f'' n'' _ hR => f_tsize hR))
theorem k_rule (h : RC f n V) {a m : Int32} : PQ (mX8_rule 0 a m f n) (COK (sRule V a m)) := by
  unfold mX8_rule
  refine pq_eq (fun q0 => ?_) (fun q0 => ?_)
  · have e0 : sRule V a m = if 0 ≤ m.toInt ∧ m.toInt ≤ 1 then sAct V (dA V.2.1 (if m = 1 then 3 else 4) 0 0 []) (nPc (sCall V (dA V.2.1 (if m = 1 then 3 else 4) 0 0 []))) else (.inr eA, V) := if_pos q0
    rw [e0]
    unfold mX8_rule_b19
    refine pq_t q0 ?_
    have bad : ¬ (0 ≤ m.toInt ∧ m.toInt ≤ 1) → PQ (mX8_rule_b46 f n) (COK (if 0 ≤ m.toInt ∧ m.toInt ≤ 1 then sAct V (dA V.2.1 (if m = 1 then 3 else 4) 0 0 []) (nPc (sCall V (dA V.2.1 (if m = 1 then 3 else 4) 0 0 []))) else (.inr eA, V))) := fun q => by
      rw [if_neg q]
      exact pq_ret ⟨f, n, rfl, h⟩
    refine pq_lt rfl kt_0 (fun q => bad (by omega)) (fun q1 => ?_)
    refine pq_le rfl kt_1 (fun q2 => ?_) (fun q => bad (by omega))
    rw [if_pos ⟨q1, q2⟩]
    unfold mX8_rule_b56
    refine f_prep h (fun f' hP _ => pq_t q0 ?_)
    refine pq_eq (fun q3 => ?_) (fun q3 => ?_)
    · rw [if_pos q3]
      exact pq_ck (f_act1 hP (arg_p (by decide)) (fun f'' n'' _ hR => f_tsize hR))
    · rw [if_neg q3]
      exact pq_ck (f_act1 hP (arg_p (by decide)) (fun f'' n'' _ hR => f_tsize hR))
  · refine pq_eq (fun q1 => ?_) (fun q1 => ?_)
    · have e0 : sRule V a m = if 1 ≤ m.toInt ∧ m.toInt ≤ 40 then sAct V (dA V.2.1 5 m 0 []) (nPc (sCall V (dA V.2.1 5 m 0 []))) else (.inr eA, V) := (if_neg q0).trans (if_pos q1)
      rw [e0]
      unfold mX8_rule_b19
      refine pq_f q0 ?_
      have bad : ¬ (1 ≤ m.toInt ∧ m.toInt ≤ 40) → PQ (mX8_rule_b46 f n) (COK (if 1 ≤ m.toInt ∧ m.toInt ≤ 40 then sAct V (dA V.2.1 5 m 0 []) (nPc (sCall V (dA V.2.1 5 m 0 []))) else (.inr eA, V))) := fun q => by
        rw [if_neg q]
        exact pq_ret ⟨f, n, rfl, h⟩
      refine pq_lt rfl kt_1 (fun q => bad (by omega)) (fun q2 => ?_)
      refine pq_le rfl kt_40 (fun q3 => ?_) (fun q => bad (by omega))
      rw [if_pos ⟨q2, q3⟩]
      unfold mX8_rule_b56
      refine f_prep h (fun f' hP _ => pq_f q0 ?_)
      exact pq_ck (f_act1 hP (arg_n (fun q => absurd q (by decide)) (fun q => absurd q (by decide)) (fun _ => ⟨q2, q3⟩) (by decide) (by decide)) (fun f'' n'' _ hR => f_tsize hR))
    · have e0 : sRule V a m = (.inr eN, V) := (if_neg q0).trans (if_neg q1)
      rw [e0]
      exact pq_ret ⟨f, n, rfl, h⟩
theorem k_unlock (h : RC f n V) : PQ (mX8_unlock 0 f n) (COK (sUnlock V)) := by
  unfold mX8_unlock
  exact f_prep h (fun f' hP _ => pq_ck (f_act1 hP (arg_p (by decide)) (fun f'' n'' _ hR => f_tsize hR)))
theorem k_free (h : RC f n V) {p : Int32} : PQ (mX8_free 0 p f n) (COK (sFree V p)) := by
  unfold mX8_free
  exact f_prep h (fun f' hP _ => pq_ck (f_act1 hP (arg_p (by decide)) (fun f'' n'' _ hR => f_tbuilt hR)))
theorem k_swap (h : RC f n V) {p o : Int32} : PQ (mX8_swap 0 p o f n) (COK (sSwap V p o)) := by
  unfold mX8_swap
  exact f_prep h (fun f' hP _ => pq_ck (f_act1 hP (arg_p (by decide)) (fun f'' n'' _ hR => f_tbuilt hR)))
theorem k_wipe (h : RC f n V) : PQ (mX8_wipe 0 f n) (COK (sWipe V)) := by
  obtain ⟨ag, hp⟩ := RC_p h
  unfold mX8_wipe
  refine pq_gR hp rfl (pq_sb (pq_ck (pq_is (f_tcount h.2.2.2.1.1.1) ?_)))
  exact f_prep h (fun f' hP _ => pq_ck (f_act1 hP (arg_p (by decide)) (fun f'' n'' _ hR => pq_ret rfl)))
theorem f_likeN {S : SST} {v : Int32} (hC : CUT f 59 (pcF S)) (hv : inP S v) : PQ (mX1_likeCount 59 v f n) (fun y => y = (nI (lkN S v.toInt.toNat (pcF S).length), f, n)) := by
  have h40 : (pcF S).length ≤ 40 := pcs_40
  have key : ∀ (d i : Nat), i ≤ (pcF S).length → PQ (mX1_likeCount_l4 d 59 v (nI (lkN S v.toInt.toNat i)) (nI i) f n) (fun y => y = (nI (lkN S v.toInt.toNat (pcF S).length), f, n)) := by
    intro d
    induction d with
    | zero => intro i _; exact pq_none
    | succ d ih =>
      intro i hi
      unfold mX1_likeCount_l4
      refine pq_gI hC.1.1.1 rfl (pq_le (nI_toInt (by omega)) (nI_toInt (by omega)) (fun q => ?_) (fun q => ?_))
      · have e : i = (pcF S).length := by omega
        rw [e]
        exact pq_ret rfl
      · refine pq_ck (pq_is (f_areLike (f := f) (n := n) hC hv (show i < (pcF S).length by omega)) ?_)
        have e9 : lkN S v.toInt.toNat (i + 1) = lkN S v.toInt.toNat i + (if lkB S v.toInt.toNat i = true then 1 else 0) := rfl
        have hh := ih (i + 1) (by omega)
        cases hl : lkB S v.toInt.toNat i with
        | false =>
          rw [e9, hl] at hh
          refine pq_t rfl ?_
          show PQ (mX1_likeCount_l4 d 59 v (nI (lkN S v.toInt.toNat i)) (nI i + 1) f n) _
          rw [nI_1]
          exact hh
        | true =>
          rw [e9, hl, if_pos rfl] at hh
          refine pq_f (show ¬ (1 : Int32) = 0 by decide) ?_
          show PQ (mX1_likeCount_l4 d 59 v (nI (lkN S v.toInt.toNat i) + 1) (nI i + 1) f n) _
          rw [nI_1, nI_1]
          exact hh
  unfold mX1_likeCount
  exact key rFU 0 (Nat.zero_le _)
theorem spA_in {S : SST} {p : Int32} (h : (spA S p).1 = 0) : inP S p := by
  unfold spA at h
  by_cases q : inP S p
  · exact q
  · rw [if_neg q] at h; cases h
theorem spA_cf {S : SST} {p : Int32} : (spA S p).2.1 = S.1 ∧ (spA S p).2.2.1 = S.2.1 := by
  unfold spA
  split
  · split
    · exact ⟨rfl, rfl⟩
    · split
      · exact ⟨rfl, rfl⟩
      · unfold finA
        split
        · exact ⟨rfl, rfl⟩
        · exact ⟨rfl, rfl⟩
  · exact ⟨rfl, rfl⟩
theorem k_spread (h : RC f n V) {p : Int32} : PQ (mX8_spread 0 p f n) (COK (sSpread V p)) := by
  unfold mX8_spread
  refine f_prep h (fun f' hP _ => pq_ck (f_act1 hP (arg_p (by decide)) (fun f'' n'' hc hR => ?_)))
  obtain ⟨ag, hp⟩ := RC_p hR
  have hc : (spA V.2.1 p).1 = 0 := hc
  have hin := spA_in hc
  have eS : (sCall V (dA V.2.1 9 p 0 [])).2.1 = (spA V.2.1 p).2 := by
    unfold sCall
    rw [if_pos (show (dA V.2.1 9 p 0 []).1 = 0 from hc)]; rfl
  have hC := hR.2.2.2.1.1.2.1
  rw [eS] at hC
  have ep : pcF (spA V.2.1 p).2 = pcF V.2.1 := by
    unfold pcF
    rw [spA_cf.1, spA_cf.2]
  rw [ep] at hC
  exact pq_gR hp rfl (pq_sb (pq_ck (pq_is (f_likeN hC hin) (pq_ret rfl))))
end COP
