def isLet (c : Int32) : Bool := decide ((97 ≤ c.toInt ∧ c.toInt ≤ 122) ∨ (65 ≤ c.toInt ∧ c.toInt ≤ 90))
def low (c : Int32) : Int32 := if 65 ≤ c.toInt ∧ c.toInt ≤ 90 then c + 32 else c
def bSg (c : Int32) : Bool := decide (c = 44) || decide (c = 34) || decide (c = 10)
def sg (t : BL) : Bool := t.any bSg
/-- so many bytes are the same -/
def smF (L : BL) (a : Nat) (M : BL) (b : Nat) : Nat → Bool
  | 0 => true
  | n + 1 => decide (L.getD a 0 = M.getD b 0) && smF L (a + 1) M (b + 1) n
section RW2
variable {f : AH} {j b c n : Nat} {L : BL}
theorem f_next_l {s : Int32} (hr : isRw f j b c L) {e : Nat} (he : e ≤ L.length) : ∀ d i, i ≤ e → PQ (mX5_next_l3 d j s (nI e) (nI i) f n) (fun r => r = (nI (nx (bEq s) L i e), f, n)) := by
  have h6 := rw_6 hr
  have hc := hr.2.2.1
  have hc6 := hr.2.2.2
  intro d
  induction d with
  | zero => intro i _; exact pq_none
  | succ d ih =>
    intro i hi
    unfold mX5_next_l3
    refine pq_f (nI_pos (by omega)) ?_
    refine pq_le (nI_toInt (by omega)) (nI_toInt (by omega)) (fun h => ?_) (fun h => ?_)
    · refine pq_ret ?_
      rw [nx_end (by omega), show i = e by omega]
    · refine pq_rwB hr (pq_sb (pq_rwL hr (pq_f (nI_ge (by omega) (by omega)) (pq_rwB hr (pq_sb (pq_rwA hr (by omega) ?_))))))
      refine pq_eq (fun q => ?_) (fun q => ?_)
      · exact pq_ret (by rw [nx_hit (by omega) (decide_eq_true q)])
      · rw [nI_1, nx_go (by omega) (decide_eq_false q)]
        exact ih (i + 1) (by omega)
theorem f_next {s : Int32} (hr : isRw f j b c L) {i e : Nat} (hi : i ≤ e) (he : e ≤ L.length) : PQ (mX5_next j s (nI i) (nI e) f n) (fun r => r = (nI (nx (bEq s) L i e), f, n)) := f_next_l hr he rFU i hi
theorem f_blanks_l (hr : isRw f j b c L) {e : Nat} (he : e ≤ L.length) : ∀ d i, i ≤ e → PQ (mX5_behindBlanks_l2 d j (nI e) (nI i) f n) (fun r => r = (nI (nx (bNe 32) L i e), f, n)) := by
  have h6 := rw_6 hr
  have hc := hr.2.2.1
  have hc6 := hr.2.2.2
  intro d
  induction d with
  | zero => intro i _; exact pq_none
  | succ d ih =>
    intro i hi
    unfold mX5_behindBlanks_l2
    refine pq_f (nI_pos (by omega)) ?_
    refine pq_le (nI_toInt (by omega)) (nI_toInt (by omega)) (fun h => ?_) (fun h => ?_)
    · refine pq_ret ?_
      rw [nx_end (by omega), show i = e by omega]
    · refine pq_rwB hr (pq_sb (pq_rwL hr (pq_f (nI_ge (by omega) (by omega)) (pq_rwB hr (pq_sb (pq_rwA hr (by omega) ?_))))))
      refine pq_eq (fun q => ?_) (fun q => ?_)
      · rw [nI_1, nx_go (by omega) (by unfold bNe; rw [decide_eq_true q]; rfl)]
        exact ih (i + 1) (by omega)
      · exact pq_ret (by rw [nx_hit (by omega) (by unfold bNe; rw [decide_eq_false q]; rfl)])
theorem f_blanks (hr : isRw f j b c L) {i e : Nat} (hi : i ≤ e) (he : e ≤ L.length) : PQ (mX5_behindBlanks j (nI i) (nI e) f n) (fun r => r = (nI (nx (bNe 32) L i e), f, n)) := f_blanks_l hr he rFU i hi
theorem f_blanksO (hr : isRw f j b c L) {i e : Nat} (hi : e ≤ i) (h2 : i ≤ 2000) : PQ (mX5_behindBlanks j (nI i) (nI e) f n) (fun r => r = (nI e, f, n)) := by
  unfold mX5_behindBlanks
  show PQ (mX5_behindBlanks_l2 (39999 + 1) j (nI e) (nI i) f n) _
  unfold mX5_behindBlanks_l2
  refine pq_f (nI_pos (by omega)) ?_
  exact pq_t (nI_le hi (by omega)) (pq_ret rfl)
theorem f_space_l (hr : isRw f j b c L) {e : Nat} (he : e ≤ L.length) : ∀ d i, i ≤ e → PQ (mX5_behindSpace_l2 d j (nI e) (nI i) f n) (fun r => r = (nI (nx bNb L i e), f, n)) := by
  have h6 := rw_6 hr
  have hc := hr.2.2.1
  have hc6 := hr.2.2.2
  intro d
  induction d with
  | zero => intro i _; exact pq_none
  | succ d ih =>
    intro i hi
    unfold mX5_behindSpace_l2
    refine pq_f (nI_pos (by omega)) ?_
    refine pq_le (nI_toInt (by omega)) (nI_toInt (by omega)) (fun h => ?_) (fun h => ?_)
    · refine pq_ret ?_
      rw [nx_end (by omega), show i = e by omega]
    · refine pq_rwB hr (pq_sb (pq_rwL hr (pq_f (nI_ge (by omega) (by omega)) (pq_rwB hr (pq_sb (pq_rwA hr (by omega) ?_))))))
      refine pq_eq (fun q => ?_) (fun q => ?_)
      · unfold mX5_behindSpace_b44
        rw [nI_1, nx_go (by omega) (by unfold bNb; rw [decide_eq_true q]; rfl)]
        exact ih (i + 1) (by omega)
      · refine pq_rwB hr (pq_sb (pq_rwA hr (by omega) ?_))
        refine pq_eq (fun q2 => ?_) (fun q2 => ?_)
        · unfold mX5_behindSpace_b44
          rw [nI_1, nx_go (by omega) (by unfold bNb; rw [decide_eq_true q2, decide_eq_false q]; rfl)]
          exact ih (i + 1) (by omega)
        · exact pq_ret (by rw [nx_hit (by omega) (by unfold bNb; rw [decide_eq_false q2, decide_eq_false q]; rfl)])
theorem f_space (hr : isRw f j b c L) {i e : Nat} (hi : i ≤ e) (he : e ≤ L.length) : PQ (mX5_behindSpace j (nI i) (nI e) f n) (fun r => r = (nI (nx bNb L i e), f, n)) := f_space_l hr he rFU i hi
theorem f_spaceO (hr : isRw f j b c L) {i e : Nat} (hi : e ≤ i) (h2 : i ≤ 2000) : PQ (mX5_behindSpace j (nI i) (nI e) f n) (fun r => r = (nI e, f, n)) := by
  unfold mX5_behindSpace
  show PQ (mX5_behindSpace_l2 (39999 + 1) j (nI e) (nI i) f n) _
  unfold mX5_behindSpace_l2
  refine pq_f (nI_pos (by omega)) ?_
  exact pq_t (nI_le hi (by omega)) (pq_ret rfl)
theorem f_cellEnd_l (hr : isRw f j b c L) : ∀ d i, i ≤ L.length → PQ (mX5_cellEnd_l2 d j (nI i) f n) (fun r => r = (nI (nx bSep L i L.length), f, n)) := by
  have h6 := rw_6 hr
  have hc := hr.2.2.1
  have hc6 := hr.2.2.2
  intro d
  induction d with
  | zero => intro i _; exact pq_none
  | succ d ih =>
    intro i hi
    unfold mX5_cellEnd_l2
    refine pq_f (nI_pos (by omega)) (pq_rwS hr ?_)
    refine pq_le (nI_toInt (by omega)) (nI_toInt (by omega)) (fun h => ?_) (fun h => ?_)
    · unfold mX5_cellEnd_b53
      refine pq_rwS hr (pq_ret ?_)
      rw [nx_end (by omega), show i = L.length by omega]
    · refine pq_rwB hr (pq_sb (pq_rwL hr (pq_f (nI_ge (by omega) (by omega)) (pq_rwB hr (pq_sb (pq_rwA hr (by omega) ?_))))))
      refine pq_eq (fun q => ?_) (fun q => ?_)
      · exact pq_ret (by rw [nx_hit (by omega) (by unfold bSep; rw [decide_eq_true q]; rfl)])
      · refine pq_rwB hr (pq_sb (pq_rwA hr (by omega) ?_))
        refine pq_eq (fun q2 => ?_) (fun q2 => ?_)
        · exact pq_ret (by rw [nx_hit (by omega) (by unfold bSep; rw [decide_eq_true q2, Bool.or_true])])
        · rw [nI_1, nx_go (by omega) (by unfold bSep; rw [decide_eq_false q2, decide_eq_false q]; rfl)]
          exact ih (i + 1) (by omega)
theorem f_cellEnd (hr : isRw f j b c L) {i : Nat} (hi : i ≤ L.length) : PQ (mX5_cellEnd j (nI i) f n) (fun r => r = (nI (nx bSep L i L.length), f, n)) := f_cellEnd_l hr rFU i hi
theorem f_cellEndO (hr : isRw f j b c L) {i : Nat} (hi : L.length ≤ i) (h2 : i ≤ 2000) : PQ (mX5_cellEnd j (nI i) f n) (fun r => r = (nI L.length, f, n)) := by
  have h6 := rw_6 hr
  unfold mX5_cellEnd
  show PQ (mX5_cellEnd_l2 (39999 + 1) j (nI i) f n) _
  unfold mX5_cellEnd_l2
  refine pq_f (nI_pos (by omega)) (pq_rwS hr ?_)
  refine pq_t (nI_le hi (by omega)) ?_
  unfold mX5_cellEnd_b53
  exact pq_rwS hr (pq_ret rfl)
theorem f_cqe_l (hr : isRw f j b c L) : ∀ d i, i ≤ L.length → PQ (mX5_cellQuoteEnd_l4 d j 0 (nI i) f n) (fun r => r = (nI (qe L i), f, n)) ∧ (0 < i → L.getD (i - 1) 0 = 34 → PQ (mX5_cellQuoteEnd_l4 d j 1 (nI i) f n) (fun r => r = (nI (qe L (i - 1)), f, n))) := by
  have h6 := rw_6 hr
  have hc := hr.2.2.1
  have hc6 := hr.2.2.2
  intro d
  induction d with
  | zero => intro i _; exact ⟨pq_none, fun _ _ => pq_none⟩
  | succ d ih =>
    intro i hi
    refine ⟨?_, fun h0 h34 => ?_⟩
    · unfold mX5_cellQuoteEnd_l4
      refine pq_f (nI_pos (by omega)) (pq_rwS hr ?_)
      refine pq_le (nI_toInt (by omega)) (nI_toInt (by omega)) (fun h => ?_) (fun h => ?_)
      · unfold mX5_cellQuoteEnd_b63
        refine pq_t rfl (pq_rwS hr (pq_ret ?_))
        rw [qe_end (by omega), show i = L.length by omega]
      · refine pq_rwB hr (pq_sb (pq_rwL hr (pq_f (nI_ge (by omega) (by omega)) (pq_rwB hr (pq_sb (pq_rwA hr (by omega) ?_))))))
        refine pq_eq (fun q => ?_) (fun q => ?_)
        · refine pq_t rfl ?_
          unfold mX5_cellQuoteEnd_b45 mX5_cellQuoteEnd_b57
          rw [nI_1]
          exact (ih (i + 1) (by omega)).2 (by omega) q
        · refine pq_t rfl ?_
          unfold mX5_cellQuoteEnd_b57
          rw [nI_1, qe_st (by omega), if_neg q]
          exact (ih (i + 1) (by omega)).1
    · have hst : qe L (i - 1) = if i < L.length ∧ L.getD i 0 = 34 then qe L (i + 1) else i - 1 := by
        rw [qe_st (by omega), if_pos h34, show i - 1 + 1 = i by omega, show i - 1 + 2 = i + 1 by omega]
      unfold mX5_cellQuoteEnd_l4
      refine pq_f (nI_pos (by omega)) (pq_rwS hr ?_)
      refine pq_le (nI_toInt (by omega)) (nI_toInt (by omega)) (fun h => ?_) (fun h => ?_)
      · unfold mX5_cellQuoteEnd_b63
        refine pq_f (by decide) (pq_rwS hr (pq_ret ?_))
        rw [hst, if_neg (by omega), show i = L.length by omega]
        obtain ⟨k, hk⟩ : ∃ k, L.length = k + 1 := ⟨L.length - 1, by omega⟩
        rw [hk, nI_pred]; rfl
      · refine pq_rwB hr (pq_sb (pq_rwL hr (pq_f (nI_ge (by omega) (by omega)) (pq_rwB hr (pq_sb (pq_rwA hr (by omega) ?_))))))
        refine pq_eq (fun q => ?_) (fun q => ?_)
        · refine pq_f (by decide) ?_
          unfold mX5_cellQuoteEnd_b45 mX5_cellQuoteEnd_b57
          rw [nI_1, hst, if_pos ⟨by omega, q⟩]
          exact (ih (i + 1) (by omega)).1
        · refine pq_f (by decide) (pq_ret ?_)
          rw [hst, if_neg (fun x => q x.2)]
          obtain ⟨k, hk⟩ : ∃ k, i = k + 1 := ⟨i - 1, by omega⟩
          rw [hk, nI_pred]; rfl
theorem f_cqe (hr : isRw f j b c L) {i : Nat} (hi : i ≤ L.length) : PQ (mX5_cellQuoteEnd j (nI i) f n) (fun r => r = (nI (qe L i), f, n)) := (f_cqe_l hr rFU i hi).1
theorem f_qq_l (hr : isRw f j b c L) : ∀ d i, i ≤ L.length → PQ (mX5_quoteEnd_l4 d j 0 (nI i) f n) (fun r => r = (nI (qq L i), f, n)) ∧ PQ (mX5_quoteEnd_l4 d j 1 (nI i) f n) (fun r => r = (nI (if i < L.length then qq L (i + 1) else L.length), f, n)) := by
  have h6 := rw_6 hr
  have hc := hr.2.2.1
  have hc6 := hr.2.2.2
  intro d
  induction d with
  | zero => intro i _; exact ⟨pq_none, pq_none⟩
  | succ d ih =>
    intro i hi
    refine ⟨?_, ?_⟩
    · unfold mX5_quoteEnd_l4
      refine pq_f (nI_pos (by omega)) (pq_rwS hr ?_)
      refine pq_le (nI_toInt (by omega)) (nI_toInt (by omega)) (fun h => ?_) (fun h => ?_)
      · unfold mX5_quoteEnd_b69
        refine pq_rwS hr (pq_ret ?_)
        rw [qq_end (by omega), show i = L.length by omega]
      · refine pq_rwB hr (pq_sb (pq_rwL hr (pq_f (nI_ge (by omega) (by omega)) (pq_rwB hr (pq_sb (pq_rwA hr (by omega) ?_))))))
        refine pq_eq (fun q => ?_) (fun q => ?_)
        · exact pq_t rfl (pq_ret (by rw [qq_st (by omega), if_pos q]))
        · unfold mX5_quoteEnd_b42
          refine pq_rwB hr (pq_sb (pq_rwA hr (by omega) ?_))
          refine pq_eq (fun q2 => ?_) (fun q2 => ?_)
          · refine pq_t rfl ?_
            unfold mX5_quoteEnd_b62
            rw [nI_1]
            refine pq_tail (ih (i + 1) (by omega)).2 (fun r e => ?_)
            rw [e, qq_st (k := i) (by omega), if_neg q]
            by_cases hl : i + 1 < L.length
            · rw [if_pos hl, if_pos ⟨q2, hl⟩]
            · rw [if_neg hl, if_neg (fun x => hl x.2), qq_end (by omega), show i + 1 = L.length by omega]
          · unfold mX5_quoteEnd_b61 mX5_quoteEnd_b62
            rw [nI_1, qq_st (k := i) (by omega), if_neg q, if_neg (fun x => q2 x.1)]
            exact (ih (i + 1) (by omega)).1
    · unfold mX5_quoteEnd_l4
      refine pq_f (nI_pos (by omega)) (pq_rwS hr ?_)
      refine pq_le (nI_toInt (by omega)) (nI_toInt (by omega)) (fun h => ?_) (fun h => ?_)
      · unfold mX5_quoteEnd_b69
        refine pq_rwS hr (pq_ret ?_)
        rw [if_neg (by omega)]
      · refine pq_rwB hr (pq_sb (pq_rwL hr (pq_f (nI_ge (by omega) (by omega)) (pq_rwB hr (pq_sb (pq_rwA hr (by omega) ?_))))))
        have fin : PQ (mX5_quoteEnd_b42 (fun v0 v2 v3 f n => mX5_quoteEnd_l4 d v0 v2 v3 f n) j 1 (nI i) f n) (fun r => r = (nI (if i < L.length then qq L (i + 1) else L.length), f, n)) := by
          unfold mX5_quoteEnd_b42
          refine pq_rwB hr (pq_sb (pq_rwA hr (by omega) ?_))
          rw [if_pos (show i < L.length by omega)]
          refine pq_eq (fun q2 => ?_) (fun q2 => ?_)
          · refine pq_f (by decide) ?_
            unfold mX5_quoteEnd_b61 mX5_quoteEnd_b62
            rw [nI_1]
            exact (ih (i + 1) (by omega)).1
          · unfold mX5_quoteEnd_b61 mX5_quoteEnd_b62
            rw [nI_1]
            exact (ih (i + 1) (by omega)).1
        exact pq_eq (fun q => pq_f (by decide) fin) (fun q => fin)
theorem f_qq (hr : isRw f j b c L) {i : Nat} (hi : i ≤ L.length) : PQ (mX5_quoteEnd j (nI i) f n) (fun r => r = (nI (qq L i), f, n)) := (f_qq_l hr rFU i hi).1
theorem f_qqO (hr : isRw f j b c L) {i : Nat} (hi : L.length ≤ i) (h2 : i ≤ 2000) : PQ (mX5_quoteEnd j (nI i) f n) (fun r => r = (nI L.length, f, n)) := by
  have h6 := rw_6 hr
  unfold mX5_quoteEnd
  show PQ (mX5_quoteEnd_l4 (39999 + 1) j 0 (nI i) f n) _
  unfold mX5_quoteEnd_l4
  refine pq_f (nI_pos (by omega)) (pq_rwS hr ?_)
  refine pq_t (nI_le hi (by omega)) ?_
  unfold mX5_quoteEnd_b69
  exact pq_rwS hr (pq_ret rfl)
theorem f_same_l {j1 b1 c1 : Nat} {M : BL} (hr : isRw f j b c L) (hm : isRw f j1 b1 c1 M) {a a1 k : Nat} (ha : a + k ≤ L.length) (ha1 : a1 + k ≤ M.length) : ∀ d i, i ≤ k → PQ (mX5_isSame_l3 d j (nI a) (some j1) (nI a1) (nI k) (nI i) f n) (fun r => r = (bI (smF L (a + i) M (a1 + i) (k - i)), f, n)) := by
  have h6 := rw_6 hr
  have h61 := rw_6 hm
  intro d
  induction d with
  | zero => intro i _; exact pq_none
  | succ d ih =>
    intro i hi
    unfold mX5_isSame_l3
    refine pq_le (nI_toInt (by omega)) (nI_toInt (by omega)) (fun h => ?_) (fun h => ?_)
    · refine pq_ck (pq_ret ?_)
      rw [show k - i = 0 by omega]; rfl
    · refine pq_ck ?_
      rw [nI_add]
      refine pq_is (f_getN hr (by omega)) (pq_sb (pq_ck ?_))
      rw [nI_add]
      refine pq_is (f_getN hm (by omega)) ?_
      obtain ⟨w, hw⟩ : ∃ w, k - i = w + 1 := ⟨k - i - 1, by omega⟩
      refine pq_eq (fun q => ?_) (fun q => ?_)
      · rw [nI_1]
        refine pq_tail (ih (i + 1) (by omega)) (fun r e => ?_)
        rw [e, hw, show k - (i + 1) = w by omega]
        show _ = (bI (decide (L.getD (a + i) 0 = M.getD (a1 + i) 0) && smF L (a + i + 1) M (a1 + i + 1) w), f, n)
        rw [decide_eq_true q]; rfl
      · refine pq_ck (pq_ret ?_)
        rw [hw]
        show _ = (bI (decide (L.getD (a + i) 0 = M.getD (a1 + i) 0) && smF L (a + i + 1) M (a1 + i + 1) w), f, n)
        rw [decide_eq_false q]; rfl
theorem f_same {j1 b1 c1 : Nat} {M : BL} (hr : isRw f j b c L) (hm : isRw f j1 b1 c1 M) {a a1 k : Nat} (ha : a + k ≤ L.length) (ha1 : a1 + k ≤ M.length) : PQ (mX5_isSame j (nI a) (some j1) (nI a1) (nI k) f n) (fun r => r = (bI (smF L a M a1 k), f, n)) := by
  unfold mX5_isSame
  exact f_same_l hr hm ha ha1 rFU 0 (by omega)
theorem f_isLetter {x : Int32} : PQ (mX8_isLetter x f n) (fun r => r = (bI (isLet x), f, n)) := by
  unfold mX8_isLetter isLet
  have yes : ((97 ≤ x.toInt ∧ x.toInt ≤ 122) ∨ (65 ≤ x.toInt ∧ x.toInt ≤ 90)) → PQ (mX8_isLetter_b24 f n) (fun r => r = (bI (decide ((97 ≤ x.toInt ∧ x.toInt ≤ 122) ∨ (65 ≤ x.toInt ∧ x.toInt ≤ 90))), f, n)) := fun h => by
    unfold mX8_isLetter_b24 mX8_isLetter_b29
    exact pq_ck (pq_ret (by rw [decide_eq_true h]; rfl))
  have no : ¬ ((97 ≤ x.toInt ∧ x.toInt ≤ 122) ∨ (65 ≤ x.toInt ∧ x.toInt ≤ 90)) → PQ (mX8_isLetter_b28 f n) (fun r => r = (bI (decide ((97 ≤ x.toInt ∧ x.toInt ≤ 122) ∨ (65 ≤ x.toInt ∧ x.toInt ≤ 90))), f, n)) := fun h => by
    unfold mX8_isLetter_b28 mX8_isLetter_b29
    exact pq_ck (pq_ret (by rw [decide_eq_false h]; rfl))
  have b12 : ¬ (97 ≤ x.toInt ∧ x.toInt ≤ 122) → PQ (mX8_isLetter_b12 x f n) (fun r => r = (bI (decide ((97 ≤ x.toInt ∧ x.toInt ≤ 122) ∨ (65 ≤ x.toInt ∧ x.toInt ≤ 90))), f, n)) := fun h => by
    unfold mX8_isLetter_b12
    refine pq_lt rfl kt_65 (fun q => no (by omega)) (fun q => ?_)
    exact pq_lt kt_90 rfl (fun q2 => no (by omega)) (fun q2 => yes (by omega))
  refine pq_lt rfl kt_97 (fun q => b12 (by omega)) (fun q => ?_)
  exact pq_le rfl kt_122 (fun q2 => yes (by omega)) (fun q2 => b12 (by omega))
theorem f_small {x : Int32} : PQ (mX8_smallLetter x f n) (fun r => r = (low x, f, n)) := by
  unfold mX8_smallLetter low
  refine pq_lt rfl kt_65 (fun q => pq_ret (by rw [if_neg (by omega)])) (fun q => ?_)
  exact pq_lt kt_90 rfl (fun q2 => pq_ret (by rw [if_neg (by omega)])) (fun q2 => pq_ret (by rw [if_pos (by omega)]))
theorem f_hasLetter_l (hr : isRw f j b c L) : ∀ d i, i ≤ L.length → PQ (mX5_hasLetter_l2 d j (nI i) f n) (fun r => r = (bI ((L.drop i).any isLet), f, n)) := by
  have h6 := rw_6 hr
  intro d
  induction d with
  | zero => intro i _; exact pq_none
  | succ d ih =>
    intro i hi
    unfold mX5_hasLetter_l2
    refine pq_rwS hr ?_
    refine pq_le (nI_toInt (by omega)) (nI_toInt (by omega)) (fun h => ?_) (fun h => ?_)
    · refine pq_ck (pq_ret ?_)
      rw [List.drop_of_length_le (by omega)]; rfl
    · refine pq_ck (pq_is (f_getN hr (by omega)) (pq_is f_isLetter ?_))
      rw [dr_st (show i < L.length by omega), List.any_cons]
      refine pq_eq (fun q => ?_) (fun q => ?_)
      · rw [nI_1, bI_0.mp q, Bool.false_or]
        exact ih (i + 1) (by omega)
      · refine pq_ck (pq_ret ?_)
        cases e : isLet (L.getD i 0) with
        | true => rfl
        | false => exact absurd (by show bI (isLet (L.getD i 0)) = 0; rw [e]; rfl) q
theorem f_hasLetter (hr : isRw f j b c L) {i : Nat} (hi : i ≤ L.length) : PQ (mX5_hasLetter j (nI i) f n) (fun r => r = (bI ((L.drop i).any isLet), f, n)) := f_hasLetter_l hr rFU i hi
theorem f_breaks_l (hr : isRw f j b c L) : ∀ d i, i ≤ L.length → PQ (mX5_breaksCell_l2 d j (nI i) f n) (fun r => r = (bI ((L.drop i).any bSg), f, n)) := by
  have h6 := rw_6 hr
  have hc := hr.2.2.1
  have hc6 := hr.2.2.2
  intro d
  induction d with
  | zero => intro i _; exact pq_none
  | succ d ih =>
    intro i hi
    unfold mX5_breaksCell_l2
    refine pq_rwS hr ?_
    refine pq_le (nI_toInt (by omega)) (nI_toInt (by omega)) (fun h => ?_) (fun h => ?_)
    · refine pq_ck (pq_ret ?_)
      rw [List.drop_of_length_le (by omega)]; rfl
    · rw [dr_st (show i < L.length by omega), List.any_cons]
      have yes : bSg (L.getD i 0) = true → PQ (mX5_breaksCell_b52 f n) (fun r => r = (bI (bSg (L.getD i 0) || (L.drop (i + 1)).any bSg), f, n)) := fun h => pq_ck (pq_ret (by rw [h]; rfl))
      refine pq_rwB hr (pq_sb (pq_rwL hr (pq_f (nI_ge (by omega) (by omega)) (pq_rwB hr (pq_sb (pq_rwA hr (by omega) ?_))))))
      refine pq_eq (fun q => yes (by unfold bSg; rw [decide_eq_true q]; rfl)) (fun q => ?_)
      refine pq_rwB hr (pq_sb (pq_rwA hr (by omega) ?_))
      refine pq_eq (fun q2 => yes (by unfold bSg; rw [decide_eq_true q2, Bool.or_true]; rfl)) (fun q2 => ?_)
      refine pq_rwB hr (pq_sb (pq_rwA hr (by omega) ?_))
      refine pq_eq (fun q3 => yes (by unfold bSg; rw [decide_eq_true q3, Bool.or_true])) (fun q3 => ?_)
      have e : bSg (L.getD i 0) = false := by unfold bSg; rw [decide_eq_false q, decide_eq_false q2, decide_eq_false q3]; rfl
      rw [nI_1, e, Bool.false_or]
      exact ih (i + 1) (by omega)
theorem f_breaks (hr : isRw f j b c L) : PQ (mX5_breaksCell j f n) (fun r => r = (bI (sg L), f, n)) := f_breaks_l hr rFU 0 (by omega)
end RW2
