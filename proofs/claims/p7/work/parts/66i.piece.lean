section PIR
variable {σ : RS9} {V : SPV}
theorem r_nowM {p : Nat} (h : RR9 σ V) (hp : p < (pcF V.2.1).length) : PQ (mX9_nowMany (nI p) σ) (fun y => y = (nI (nowOf V.2.1 p).length, σ)) := pq_tail (r_nowMany h.2.1.1.2.2.1 h.2.1.2 hp) (fun y hy => by rw [hy, nw_now])
theorem r_nowB {p k : Nat} (h : RR9 σ V) (hp : p < (pcF V.2.1).length) (hk : k < (nowOf V.2.1 p).length) : PQ (mX9_nowByte (nI p) (nI k) σ) (fun y => y = ((nowOf V.2.1 p).getD k 0, σ)) := pq_tail (r_nowByte h.2.1.1.2.2.1 h.2.1.2 hp (by rw [nw_now]; exact hk)) (fun y hy => by rw [hy, nw_now])
theorem RR_nl {p : Nat} (h : RR9 σ V) (hp : p < (pcF V.2.1).length) : (nowOf V.2.1 p).length ≤ 600 := by
  have h40 : (pcF V.2.1).length ≤ 40 := pcs_40
  cases ht : V.2.1.2.2.1 p with
  | none => rw [now_n ht]; have := tx_le hp; have := h.2.1.2.2.1.2.1; show (pX ((pcF V.2.1).getD p pc0)).length ≤ 600; omega
  | some t => rw [now_s ht]; have := ((h.2.1.1.2.2.1 p (by omega)).2 t ht).1; omega
theorem r_likeN {p : Nat} (h : RR9 σ V) (hp : p < (pcF V.2.1).length) : PQ (mX9_likeMany (nI p) σ) (fun y => y = (nI (lkN V.2.1 p (pcF V.2.1).length), σ)) := by
  obtain ⟨h33, -⟩ := RM_33 h.2.1
  have h40 : (pcF V.2.1).length ≤ 40 := pcs_40
  have key : ∀ (d i : Nat), i ≤ (pcF V.2.1).length → PQ (mX9_likeMany_l4 d (nI p) (nI (lkN V.2.1 p i)) (nI i) σ) (fun y => y = (nI (lkN V.2.1 p (pcF V.2.1).length), σ)) := by
    intro d
    induction d with
    | zero => intro _ _; exact pq_none
    | succ d ih =>
      intro i hi
      unfold mX9_likeMany_l4 mX9_likeMany_b27
      rw [h33]
      refine pq_le (nI_toInt (by omega)) (nI_toInt (by omega)) (fun q => ?_) (fun q => ?_)
      · obtain rfl : i = (pcF V.2.1).length := by omega
        exact pq_ret rfl
      · have hi' : i < (pcF V.2.1).length := by omega
        have e9 : lkN V.2.1 p (i + 1) = lkN V.2.1 p i + (if lkB V.2.1 p i = true then 1 else 0) := rfl
        refine pq_isr (a := bI (lkB V.2.1 p i)) (r_areLike h.2.1.2 hp hi') (if_01 (fun q2 => ?_) (fun q2 => ?_))
        · rw [if_neg (by rw [q2]; exact Bool.false_ne_true)] at e9
          have e8 : nI (lkN V.2.1 p i) + (0 : Int32) = nI (lkN V.2.1 p (i + 1)) := by rw [e9]; exact nI_add _ 0
          rw [e8, nI_1]; exact ih (i + 1) (by omega)
        · rw [if_pos q2] at e9
          rw [nI_1, nI_1, ← e9]; exact ih (i + 1) (by omega)
  unfold mX9_likeMany
  exact key rFU 0 (Nat.zero_le _)
theorem r_wds {p : Nat} (h : RR9 σ V) (hp : p < (pcF V.2.1).length) : PQ (mX9_wordsOf (nI p) σ) (fun y => y = (wds (nowOf V.2.1 p), σ)) := by
  have hl := RR_nl h hp
  have hM := r_nowM h hp
  have hB := fun k hk => r_nowB (k := k) h hp hk
  unfold wds
  generalize nowOf V.2.1 p = T at hl hM hB ⊢
  have key : ∀ (d e i : Nat) (a : Int32), i + e = T.length → PQ (mX9_wordsOf_l4 d (nI p) a (nI i) σ) (fun y => y = (wcF T e i a, σ)) := by
    intro d
    induction d with
    | zero => intro _ _ _ _; exact pq_none
    | succ d ih =>
      intro e i a hi
      unfold mX9_wordsOf_l4 mX9_wordsOf_b48 mX9_wordsOf_b44 mX9_wordsOf_b49
      refine pq_isr hM (pq_le (nI_toInt (by omega)) (nI_toInt (by omega)) (fun q => ?_) (fun q => ?_))
      · obtain rfl : e = 0 := by omega
        exact pq_ret rfl
      · obtain ⟨e, rfl⟩ : ∃ e', e = e' + 1 := ⟨e - 1, by omega⟩
        unfold wcF
        have n0 : ∀ z : Int32, (if isLet (T.getD i 0) = true ∧ ¬ (0 < i ∧ isLet (T.getD (i - 1) 0) = true) then a + 1 else a) = z → PQ (mX9_wordsOf_l4 d (nI p) z (nI i + 1) σ) (fun y => y = (wcF T e (i + 1) (if isLet (T.getD i 0) = true ∧ ¬ (0 < i ∧ isLet (T.getD (i - 1) 0) = true) then a + 1 else a), σ)) := fun z hz => by
          rw [hz, nI_1]
          exact ih e (i + 1) z (by omega)
        refine pq_isr (hB i (by omega)) (pq_isr r_isLetter (if_01 (fun q2 => ?_) (fun q2 => ?_)))
        · rw [Int32.add_zero]
          exact n0 _ (if_neg (fun x => by rw [q2] at x; exact Bool.false_ne_true x.1))
        · refine pq_eqi (nI_toInt (by omega)) kt_0 (fun q3 => ?_) (fun q3 => ?_)
          · exact n0 _ (if_pos ⟨q2, fun x => by omega⟩)
          · have e1 : nI i - (1 : Int32) = nI (i - 1) := nI_sb (a := i) (b := 1) (by omega) (by omega)
            rw [e1]
            refine pq_isr (hB (i - 1) (by omega)) (pq_isr r_isLetter (if_01 (fun q4 => ?_) (fun q4 => ?_)))
            · exact n0 _ (if_pos ⟨q2, fun x => by rw [q4] at x; exact Bool.false_ne_true x.2⟩)
            · rw [Int32.add_zero]
              exact n0 _ (if_neg (fun x => x.2 ⟨by omega, q4⟩))
  unfold mX9_wordsOf
  exact key rFU _ 0 0 (Nat.zero_add _)
theorem r_known {p : Nat} (h : RR9 σ V) (hp : p < (pcF V.2.1).length) : PQ (mX9_knownOf (nI p) σ) (fun y => y = (knF V.2.1.2.2.2 (pX (pOf V.2.1 p)) V.2.1.2.2.2.length 0, σ)) := by
  obtain ⟨p42, p12, pw⟩ := h.2.1.1.2.2.2
  have h40 : (pcF V.2.1).length ≤ 40 := pcs_40
  have e42 : rGa σ 1 (42 : Int32) = nI V.2.1.2.2.2.length := (rd_nI (k := 42) (by omega)).trans p42
  obtain ⟨-, -, -, a41, a42⟩ := RR_pc h hp
  have l1 : tAt (pcF V.2.1) p + (pX (pOf V.2.1 p)).length ≤ (txs (pcF V.2.1)).length := tx_le hp
  have l6 : (txs (pcF V.2.1)).length ≤ 600 := h.2.1.2.2.1.2.1
  have t43 := h.2.1.2.2.1.2.2.2.1
  have c42 : rGa σ 42 (nI p) = nI (pX (pOf V.2.1 p)).length := (rd_nI (by omega)).trans a42
  have c41 : rGa σ 41 (nI p) = nI (tAt (pcF V.2.1) p) := (rd_nI (by omega)).trans a41
  have hX43 : ∀ k, k < (pX (pOf V.2.1 p)).length → σ.2 43 (tAt (pcF V.2.1) p + k) = (pX (pOf V.2.1 p)).getD k 0 := fun k hk => (t43 _ (by omega)).trans (tx_gd hp hk)
  generalize pX (pOf V.2.1 p) = X at c42 l1 hX43 ⊢
  have l47z : ∀ (rec2 : Int32 → Int32 → RS9 → Option (Int32 × RS9)) (v2 v3 : Int32) (Q : Int32 × RS9 → Prop), PQ (rec2 (nI p) (v2 + 1) σ) Q → ∀ d k, PQ (mX9_knownOf_l47 rec2 d (nI p) v2 v3 0 k σ) Q := by
    intro rec2 v2 v3 Q hh d k
    cases d with
    | zero => exact pq_none
    | succ d =>
      unfold mX9_knownOf_l47 mX9_knownOf_b104
      exact pq_ck (pq_ite (pq_t rfl hh) (pq_t rfl (pq_t rfl hh)))
  have l47 : ∀ (rec2 : Int32 → Int32 → RS9 → Option (Int32 × RS9)) (v2 : Int32) (i : Nat) (t : BL) (Q : Int32 × RS9 → Prop), i < 12 → PW9 (σ.2 1) (2883 + 122 * i) t → t.length = X.length → (t ≠ X → PQ (rec2 (nI p) (v2 + 1) σ) Q) → (t = X → Q (v2, σ)) → ∀ d k, k ≤ X.length → (∀ z, z < k → t.getD z 0 = X.getD z 0) → PQ (mX9_knownOf_l47 rec2 d (nI p) v2 (nI (2883 + 122 * i)) 1 (nI k) σ) Q := by
    intro rec2 v2 i t Q hi12 hW hl g0 g1 d
    induction d with
    | zero => intro _ _ _; exact pq_none
    | succ d ih =>
      intro k hk he
      unfold mX9_knownOf_l47 mX9_knownOf_b104 mX9_knownOf_b96
      rw [c42, c41, nI_1]
      refine pq_ck (pq_le (nI_toInt (by omega)) (nI_toInt (by omega)) (fun q => ?_) (fun q => ?_))
      · exact pq_f (show ¬ (1 : Int32) = 0 by decide) (pq_ret (g1 (bl_ext hl (fun z hz => he z (by omega)))))
      · have hk' : k < X.length := by omega
        rw [nI_add, nI_add, rd_nI (by omega), rd_nI (by omega), hX43 k hk', hW.2.2 k (by omega)]
        refine pq_f (show ¬ (1 : Int32) = 0 by decide) (pq_ck (pq_ck (pq_ck (pq_eq (fun q2 => ?_) (fun q2 => ?_)))))
        · rw [nI_1]
          exact ih (k + 1) (by omega) (fun z hz => by
            by_cases ez : z = k
            · rw [ez]; exact q2
            · exact he z (by omega))
        · exact l47z rec2 _ _ Q (g0 (fun e => q2 (by rw [e]))) d _
  have key : ∀ (d e i : Nat), i + e = V.2.1.2.2.2.length → PQ (mX9_knownOf_l2 d (nI p) (nI i) σ) (fun y => y = (knF V.2.1.2.2.2 X e i, σ)) := by
    intro d
    induction d with
    | zero => intro _ _ _; exact pq_none
    | succ d ih =>
      intro e i hi
      unfold mX9_knownOf_l2 mX9_knownOf_b42
      rw [e42]
      refine pq_ck (pq_le (nI_toInt (by omega)) (nI_toInt (by omega)) (fun q => ?_) (fun q => ?_))
      · obtain rfl : e = 0 := by omega
        exact pq_ret rfl
      · obtain ⟨e, rfl⟩ : ∃ e', e = e' + 1 := ⟨e - 1, by omega⟩
        obtain ⟨w1, -⟩ := pw i (by omega)
        have e1 : rGa σ 1 (nI (2883 + 122 * i)) = nI (V.2.1.2.2.2.getD i ([], [])).1.length := (rd_nI (by omega)).trans w1.2.1
        have w60 := w1.1
        rw [nI_122m, e1, c42]
        unfold knF
        have nx : PQ (mX9_knownOf_l2 d (nI p) (nI i + 1) σ) (fun y => y = (knF V.2.1.2.2.2 X e (i + 1), σ)) := by
          rw [nI_1]; exact ih e (i + 1) (by omega)
        refine pq_ck (pq_ck (pq_eqi (nI_toInt (by omega)) (nI_toInt (by omega)) (fun q2 => ?_) (fun q2 => ?_)))
        · refine l47 _ _ i (V.2.1.2.2.2.getD i ([], [])).1 _ (by omega) w1 (by omega) (fun g => ?_) (fun g => ?_) rFU 0 (Nat.zero_le _) (fun z hz => absurd hz (Nat.not_lt_zero _))
          · rw [if_neg g]; exact nx
          · rw [if_pos g]
        · rw [if_neg (fun g => q2 (by rw [g]))]
          exact l47z _ _ _ _ nx rFU _
  unfold mX9_knownOf
  exact key rFU _ 0 (Nat.zero_add _)
theorem r_unlike (h : RR9 σ V) : PQ (mX9_unlikeTexts σ) (fun y => y = (ulF V.2.1 (pcF V.2.1).length 0 0, σ)) := by
  obtain ⟨h33, -⟩ := RM_33 h.2.1
  have h40 : (pcF V.2.1).length ≤ 40 := pcs_40
  have l17z : ∀ (rec4 : Int32 → Int32 → RS9 → Option (Int32 × RS9)) (a v2 : Int32) (Q : Int32 × RS9 → Prop), PQ (rec4 a (v2 + 1) σ) Q → ∀ d k, PQ (mX9_unlikeTexts_l17 rec4 d a v2 0 k σ) Q := by
    intro rec4 a v2 Q hh d
    induction d with
    | zero => intro _; exact pq_none
    | succ d ih =>
      intro k
      unfold mX9_unlikeTexts_l17 mX9_unlikeTexts_b41 mX9_unlikeTexts_b42 mX9_unlikeTexts_b59
      refine pq_ite (pq_t rfl ?_) (pq_t rfl (ih _))
      rw [Int32.add_zero]; exact hh
  have l17 : ∀ (rec4 : Int32 → Int32 → RS9 → Option (Int32 × RS9)) (a : Int32) (i : Nat) (Q : Int32 × RS9 → Prop), i < (pcF V.2.1).length → ∀ d e k, k + e = i → (erF V.2.1 i e k = true → PQ (rec4 a (nI i + 1) σ) Q) → (erF V.2.1 i e k = false → PQ (rec4 (a + 1) (nI i + 1) σ) Q) → PQ (mX9_unlikeTexts_l17 rec4 d a (nI i) 1 (nI k) σ) Q := by
    intro rec4 a i Q hi d
    induction d with
    | zero => intro _ _ _ _ _; exact pq_none
    | succ d ih =>
      intro e k hk g1 g0
      unfold mX9_unlikeTexts_l17 mX9_unlikeTexts_b41 mX9_unlikeTexts_b42 mX9_unlikeTexts_b59
      refine pq_le (nI_toInt (by omega)) (nI_toInt (by omega)) (fun q => ?_) (fun q => ?_)
      · obtain rfl : e = 0 := by omega
        exact pq_f (show ¬ (1 : Int32) = 0 by decide) (g0 rfl)
      · obtain ⟨e, rfl⟩ : ∃ e', e = e' + 1 := ⟨e - 1, by omega⟩
        have es : erF V.2.1 i (e + 1) k = (lkB V.2.1 i k || erF V.2.1 i e (k + 1)) := rfl
        rw [es] at g1 g0
        refine pq_f (show ¬ (1 : Int32) = 0 by decide) (pq_isr (a := bI (lkB V.2.1 i k)) (r_areLike h.2.1.2 hi (show k < (pcF V.2.1).length by omega)) (if_01 (fun q2 => ?_) (fun q2 => ?_)))
        · rw [q2, Bool.false_or] at g1 g0
          rw [nI_1]; exact ih e (k + 1) (by omega) g1 g0
        · rw [q2, Bool.true_or] at g1
          exact l17z rec4 a _ Q (g1 rfl) d _
  have key : ∀ (d e i : Nat) (a : Int32), i + e = (pcF V.2.1).length → PQ (mX9_unlikeTexts_l4 d a (nI i) σ) (fun y => y = (ulF V.2.1 e i a, σ)) := by
    intro d
    induction d with
    | zero => intro _ _ _ _; exact pq_none
    | succ d ih =>
      intro e i a hi
      unfold mX9_unlikeTexts_l4
      rw [h33]
      refine pq_le (nI_toInt (by omega)) (nI_toInt (by omega)) (fun q => ?_) (fun q => ?_)
      · obtain rfl : e = 0 := by omega
        exact pq_ret rfl
      · obtain ⟨e, rfl⟩ : ∃ e', e = e' + 1 := ⟨e - 1, by omega⟩
        unfold ulF
        refine l17 _ a i _ (by omega) rFU i 0 (Nat.zero_add _) (fun g => ?_) (fun g => ?_)
        · rw [if_pos g]; show PQ (mX9_unlikeTexts_l4 d a (nI i + 1) σ) _; rw [nI_1]; exact ih e (i + 1) _ (by omega)
        · rw [if_neg (by rw [g]; exact Bool.false_ne_true)]; show PQ (mX9_unlikeTexts_l4 d (a + 1) (nI i + 1) σ) _; rw [nI_1]; exact ih e (i + 1) _ (by omega)
  unfold mX9_unlikeTexts
  exact key rFU _ 0 0 (Nat.zero_add _)
theorem r_longest (h : RR9 σ V) : PQ (mX9_longest σ) (fun y => y = (lgF V.2.1 (pcF V.2.1).length 0 0, σ)) := by
  obtain ⟨h33, -⟩ := RM_33 h.2.1
  have h40 : (pcF V.2.1).length ≤ 40 := pcs_40
  have key : ∀ (d e i : Nat) (a : Int32), i + e = (pcF V.2.1).length → PQ (mX9_longest_l4 d a (nI i) σ) (fun y => y = (lgF V.2.1 e i a, σ)) := by
    intro d
    induction d with
    | zero => intro _ _ _ _; exact pq_none
    | succ d ih =>
      intro e i a hi
      unfold mX9_longest_l4 mX9_longest_b29
      rw [h33]
      refine pq_le (nI_toInt (by omega)) (nI_toInt (by omega)) (fun q => ?_) (fun q => ?_)
      · obtain rfl : e = 0 := by omega
        exact pq_ret rfl
      · obtain ⟨e, rfl⟩ : ∃ e', e = e' + 1 := ⟨e - 1, by omega⟩
        obtain ⟨-, -, -, -, a42⟩ := RR_pc h (show i < (pcF V.2.1).length by omega)
        have c42 : rGa σ 42 (nI i) = nI (pX (pOf V.2.1 i)).length := (rd_nI (by omega)).trans a42
        rw [c42]
        unfold lgF jMax
        refine pq_ck (pq_le rfl rfl (fun q2 => ?_) (fun q2 => pq_ck ?_))
        · rw [if_neg (fun g => by have := Int32.lt_iff_toInt_lt.mp g; omega), nI_1]; exact ih e (i + 1) _ (by omega)
        · rw [if_pos (Int32.lt_iff_toInt_lt.mpr q2), nI_1]; exact ih e (i + 1) _ (by omega)
  unfold mX9_longest
  exact key rFU _ 0 0 (Nat.zero_add _)
theorem r_skel (h : RR9 σ V) : PQ (mX9_skeleton σ) (fun y => y = (nI V.2.1.1.length - biF V.2.1 (pcF V.2.1).length 0 0, σ)) := by
  obtain ⟨h33, -⟩ := RM_33 h.2.1
  have h40 : (pcF V.2.1).length ≤ 40 := pcs_40
  have e0 : rGa σ 1 (0 : Int32) = nI V.2.1.1.length := (rd_nI (k := 0) (by omega)).trans h.2.1.1.1.1.1
  have key : ∀ (d e i : Nat) (a : Int32), i + e = (pcF V.2.1).length → PQ (mX9_skeleton_l9 d (nI V.2.1.1.length - a) (nI i) σ) (fun y => y = (nI V.2.1.1.length - biF V.2.1 e i a, σ)) := by
    intro d
    induction d with
    | zero => intro _ _ _ _; exact pq_none
    | succ d ih =>
      intro e i a hi
      unfold mX9_skeleton_l9
      rw [h33]
      refine pq_le (nI_toInt (by omega)) (nI_toInt (by omega)) (fun q => ?_) (fun q => ?_)
      · obtain rfl : e = 0 := by omega
        exact pq_ret rfl
      · obtain ⟨e, rfl⟩ : ∃ e', e = e' + 1 := ⟨e - 1, by omega⟩
        obtain ⟨a34, a35, -⟩ := RR_pc h (show i < (pcF V.2.1).length by omega)
        have c34 : rGa σ 34 (nI i) = nI (pOf V.2.1 i).1 := (rd_nI (by omega)).trans a34
        have c35 : rGa σ 35 (nI i) = nI (pOf V.2.1 i).2.1 := (rd_nI (by omega)).trans a35
        rw [c34, c35, Int32.sub_sub, nI_1]
        unfold biF
        exact pq_ck (pq_ck (ih e (i + 1) _ (by omega)))
  unfold mX9_skeleton
  rw [e0]
  have k := key rFU (pcF V.2.1).length 0 0 (Nat.zero_add _)
  rw [Int32.sub_zero] at k
  exact pq_ck k
theorem r_allW (h : RR9 σ V) : PQ (mX9_allWords σ) (fun y => y = (awF V.2.1 (pcF V.2.1).length 0 0, σ)) := by
  obtain ⟨h33, -⟩ := RM_33 h.2.1
  have h40 : (pcF V.2.1).length ≤ 40 := pcs_40
  have key : ∀ (d e i : Nat) (a : Int32), i + e = (pcF V.2.1).length → PQ (mX9_allWords_l4 d a (nI i) σ) (fun y => y = (awF V.2.1 e i a, σ)) := by
    intro d
    induction d with
    | zero => intro _ _ _ _; exact pq_none
    | succ d ih =>
      intro e i a hi
      unfold mX9_allWords_l4
      rw [h33]
      refine pq_le (nI_toInt (by omega)) (nI_toInt (by omega)) (fun q => ?_) (fun q => ?_)
      · obtain rfl : e = 0 := by omega
        exact pq_ret rfl
      · obtain ⟨e, rfl⟩ : ∃ e', e = e' + 1 := ⟨e - 1, by omega⟩
        unfold awF
        refine pq_isr (r_wds h (show i < (pcF V.2.1).length by omega)) ?_
        rw [nI_1]; exact ih e (i + 1) _ (by omega)
  unfold mX9_allWords
  exact key rFU _ 0 0 (Nat.zero_add _)
theorem r_pie {p w : Int32} (h : RR9 σ V) (hS : SV V.2.1) : PQ (mX9_piece p w σ) (RAN (sPie V p w) wc_L_piece) := by
  obtain ⟨h33, h40⟩ := RM_33 h.2.1
  have h4 := RR_4 h
  unfold mX9_piece sPie
  refine pq_isr (r_isPieceThere h33 h40) (if_01 (fun q => ?_) (fun q => ?_))
  · rw [if_neg (of_decide_eq_false q)]
    unfold mX9_piece_b28
    exact pq_f (show ¬ (1 : Int32) ≤ 0 by decide) (pq_ret ⟨RR_f0 h, sf_eq⟩)
  · have hin : inP V.2.1 p := of_decide_eq_true q
    rw [if_pos hin]
    obtain ⟨e1, e2⟩ := v_nI hin (by omega)
    generalize p.toInt.toNat = p' at e1 e2 ⊢
    subst e1
    have h0 := RR_f0 (x := 0) h
    have hz : (rSf σ 0 0).1 0 = 0 := sf_eq
    have e2' : p' < (pcF V.2.1).length := e2
    obtain ⟨a34, a35, -, -, a42⟩ := RR_pc h e2'
    unfold mX9_piece_b28
    refine pq_isr r_isIn (if_01 (fun q2 => ?_) (fun q2 => ?_))
    · have q2 := of_decide_eq_false q2
      rw [kt_0, kt_9] at q2
      rw [if_neg q2]
      exact pq_f (show ¬ (2 : Int32) ≤ 0 by decide) (pq_ret ⟨RR_f0 h, sf_eq⟩)
    · have q2 := of_decide_eq_true q2
      rw [kt_0, kt_9] at q2
      rw [if_pos q2]
      refine pq_t (show (0 : Int32) ≤ 0 by decide) ?_
      have ok : ∀ {z : Int32}, z = pieA V.2.1 p' w → RAN (.inl (pieA V.2.1 p' w), V) wc_L_piece (z, rSf σ 0 0) := fun hq => ⟨h0, hq, hz⟩
      rcases in_09.mp q2 with rfl | rfl | rfl | rfl | rfl | rfl | rfl | rfl | rfl | rfl
      · exact pq_t rfl (pq_ck (pq_ret (ok ((rd_nI (by omega)).trans a34))))
      · exact pq_f (by decide) (pq_t rfl (pq_ck (pq_ret (ok ((rd_nI (by omega)).trans a35)))))
      · exact pq_f (by decide) (pq_f (by decide) (pq_t rfl (pq_ck (pq_ret (ok ((rd_nI (by omega)).trans a42))))))
      · exact pq_f (by decide) (pq_f (by decide) (pq_f (by decide) (pq_t rfl (pq_isr (r_nowM h0 e2') (pq_ret (ok rfl))))))
      · refine pq_f (by decide) (pq_f (by decide) (pq_f (by decide) (pq_f (by decide) (pq_t rfl (pq_isr (r_toldOf h0.2.1.1.2.2.1 (by omega)) ?_)))))
        unfold mX9_piece_b133
        have ht := (h0.2.1.1.2.2.1 p' (by omega)).2
        cases hq : V.2.1.2.2.1 p' with
        | none => exact pq_t rfl (pq_ret (ok (show (0 : Int32) = bI (V.2.1.2.2.1 p').isSome by rw [hq]; rfl)))
        | some t =>
          have h60 := (ht t hq).1
          exact pq_f (nI_ne (by omega)) (pq_ret (ok (show (1 : Int32) = bI (V.2.1.2.2.1 p').isSome by rw [hq]; rfl)))
      · exact pq_f (by decide) (pq_f (by decide) (pq_f (by decide) (pq_f (by decide) (pq_f (by decide) (pq_t rfl (pq_isr (r_likeN h0 e2') (pq_ret (ok rfl))))))))
      · exact pq_f (by decide) (pq_f (by decide) (pq_f (by decide) (pq_f (by decide) (pq_f (by decide) (pq_f (by decide) (pq_t rfl (pq_isr (r_wds h0 e2') (pq_ret (ok rfl)))))))))
      · exact pq_f (by decide) (pq_f (by decide) (pq_f (by decide) (pq_f (by decide) (pq_f (by decide) (pq_f (by decide) (pq_f (by decide) (pq_t rfl (pq_isr (r_known h0 e2') (pq_ret (ok rfl))))))))))
      · refine pq_f (by decide) (pq_f (by decide) (pq_f (by decide) (pq_f (by decide) (pq_f (by decide) (pq_f (by decide) (pq_f (by decide) (pq_f (by decide) (pq_t rfl ?_))))))))
        refine pq_call (r_builtOf (p := p') h0.2.1.1.2.1 h0.2.1.1.2.2.1 h0.2.1.2 pcs_ord (by omega) hS.1 e2') (fun y hy => ?_)
        obtain ⟨σ', rfl, -, -, g⟩ := hy
        exact pq_ret ⟨RR_frx h0 g (fun k hk q => by omega) (fun k hk q => by omega), rfl, (g.2 0 (fun q => by omega)).trans hz⟩
      · refine pq_f (by decide) (pq_f (by decide) (pq_f (by decide) (pq_f (by decide) (pq_f (by decide) (pq_f (by decide) (pq_f (by decide) (pq_f (by decide) (pq_f (by decide) ?_))))))))
        unfold mX9_builtBegin
        refine pq_call (Q1 := fun y => RAN (.inl (pieA V.2.1 p' 9), V) wc_L_piece y) (pq_call (r_builds (RM_BV h0.2.1) pcs_ord (by omega) hS.1) (fun y hy => ?_)) (fun y hy => pq_ret hy)
        obtain ⟨σ', rfl, hU, g⟩ := hy
        exact pq_ck (pq_ret ⟨RR_frx h0 g (fun k hk q => by omega) (fun k hk q => by omega), (rd_nI (by omega)).trans (hU.2.2 p' e2'), (g.2 0 (fun q => by omega)).trans hz⟩)
theorem r_cnt {w : Int32} (h : RR9 σ V) (hS : SV V.2.1) : PQ (mX9_count w σ) (RAI (sCnt V w)) := by
  have h0 := RR_f0 (x := 0) h
  have hz : (rSf σ 0 0).1 0 = 0 := sf_eq
  have h4 := RR_4 h
  obtain ⟨h33, h40⟩ := RM_33 h.2.1
  have hM := h.2.1.1.2.1
  have g : ∀ {k : Nat} {x : Int32}, k < 2 ^ 31 → σ.2 1 k = x → rGa σ 1 (nI k) = x := fun hk hx => (rd_nI hk).trans hx
  unfold mX9_count sCnt cntA
  refine pq_eq (fun q => ?_) (fun q => ?_)
  · rw [if_pos q]; exact pq_ck (pq_ret ⟨h0, g (k := 0) (by omega) h.2.1.1.1.1.1⟩)
  rw [if_neg q]
  refine pq_eq (fun q => ?_) (fun q => ?_)
  · rw [if_pos q]; exact pq_ck (pq_ret ⟨h0, g (k := 1) (by omega) hM.1⟩)
  rw [if_neg q]
  refine pq_eq (fun q => ?_) (fun q => ?_)
  · rw [if_pos q]; exact pq_ck (pq_ret ⟨h0, g (k := 2) (by omega) hM.2.1⟩)
  rw [if_neg q]
  refine pq_eq (fun q => ?_) (fun q => ?_)
  · rw [if_pos q]; exact pq_ret ⟨h0, h33⟩
  rw [if_neg q]
  refine pq_eq (fun q => ?_) (fun q => ?_)
  · rw [if_pos q, tcnt_40 h.2.1 hS]; exact pq_isr (r_toldMany h0.2.1) (pq_ret ⟨h0, rfl⟩)
  rw [if_neg q]
  refine pq_eq (fun q => ?_) (fun q => ?_)
  · rw [if_pos q]
    refine pq_call (r_builtMany (RM_BV h0.2.1) pcs_ord (by omega) hS.1) (fun y hy => ?_)
    obtain ⟨σ', rfl, -, g⟩ := hy
    exact pq_ret ⟨RR_frx h0 g (fun k hk q => by omega) (fun k hk q => by omega), rfl⟩
  rw [if_neg q]
  refine pq_eq (fun q => ?_) (fun q => ?_)
  · rw [if_pos q]; exact pq_isr (r_skel h0) (pq_ret ⟨h0, rfl⟩)
  rw [if_neg q]
  refine pq_eq (fun q => ?_) (fun q => ?_)
  · rw [if_pos q]; exact pq_ck (pq_ret ⟨h0, g (k := 3) (by omega) hM.2.2.1⟩)
  rw [if_neg q]
  refine pq_eq (fun q => ?_) (fun q => ?_)
  · rw [if_pos q]; exact pq_ck (pq_ret ⟨h0, g (k := 4) (by omega) hM.2.2.2.1⟩)
  rw [if_neg q]
  refine pq_eq (fun q => ?_) (fun q => ?_)
  · rw [if_pos q]; exact pq_ck (pq_ret ⟨h0, g (k := 5) (by omega) hM.2.2.2.2.1⟩)
  rw [if_neg q]
  refine pq_eq (fun q => ?_) (fun q => ?_)
  · rw [if_pos q]; exact pq_isr (r_unlike h0) (pq_ret ⟨h0, rfl⟩)
  rw [if_neg q]
  refine pq_eq (fun q => ?_) (fun q => ?_)
  · rw [if_pos q]; exact pq_isr (r_allW h0) (pq_ret ⟨h0, rfl⟩)
  rw [if_neg q]
  refine pq_eq (fun q => ?_) (fun q => ?_)
  · rw [if_pos q]; exact pq_ck (pq_ret ⟨h0, g (k := 42) (by omega) h.2.1.1.2.2.2.1⟩)
  rw [if_neg q]
  refine pq_eq (fun q => ?_) (fun q => ?_)
  · rw [if_pos q]; exact pq_isr (r_longest h0) (pq_ret ⟨h0, rfl⟩)
  rw [if_neg q]
  refine pq_eq (fun q => ?_) (fun q => ?_)
  · rw [if_pos q]; exact pq_ret ⟨h0, h.2.2.1.1⟩
  · rw [if_neg q]; exact pq_ret ⟨h0, rfl⟩
end PIR
