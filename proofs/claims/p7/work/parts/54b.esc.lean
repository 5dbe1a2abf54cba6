/-! the class escapes -/
section ESC
variable {f : AH} {j b c n : Nat} {L : BL}
theorem f_addR (hr : isRw f j b c L) (h : L.length < c) {x : Int32} : PQ (mX5_add j x f n) (fun r => ∃ f', r = (1, f', n) ∧ isRw f' j b c (L ++ [x]) ∧ ∀ i, i ≠ j → i ≠ b → f' i = f i) := by
  refine pq_tail (f_add hr) (fun r hq => ?_)
  rcases hq with ⟨-, h2⟩ | ⟨h2, -⟩
  · exact h2
  · omega
/-- behind a call: the row has grown -/
def GR (f : AH) (j b c n : Nat) (L : BL) (r : Int32 × HpN) : Prop := ∃ f', r = (0, f', n) ∧ isRw f' j b c L ∧ ∀ i, i ≠ j → i ≠ b → f' i = f i
theorem gr_1 (hr : isRw f j b c L) {x : Int32} (h : L.length < c) : PQ ((mX5_add j x f n).bind fun r3 => some ((0 : Int32), (r3.2.1, r3.2.2))) (GR f j b c n (L ++ [x])) := by
  refine pq_call (f_addR hr h) (fun r hq => ?_)
  obtain ⟨f', rfl, h1, h2⟩ := hq
  exact pq_ret ⟨f', rfl, h1, h2⟩
theorem gr_st (hr : isRw f j b c L) {x : Int32} {M : BL} {kk : Int32 × HpN → Option (Int32 × HpN)} (h : L.length < c) (hk : ∀ f', isRw f' j b c (L ++ [x]) → PQ (kk (1, f', n)) (GR f' j b c n M)) : PQ ((mX5_add j x f n).bind kk) (GR f j b c n M) := by
  refine pq_call (f_addR hr h) (fun r hq => ?_)
  obtain ⟨f', rfl, h1, h2⟩ := hq
  refine pq_tail (hk f' h1) (fun r hq => ?_)
  obtain ⟨f2, rfl, g1, g2⟩ := hq
  exact ⟨f2, rfl, g1, fun i e1 e2 => (g2 i e1 e2).trans (h2 i e1 e2)⟩
theorem ap2 {x y : Int32} : L ++ [x] ++ [y] = L ++ [x, y] := List.append_assoc _ _ _
theorem f_inLine (hr : isRw f j b c L) {x : Int32} {fi : Bool} (h : L.length + (escC 0 fi x).length ≤ c) : PQ (mX0_addInLine x (some j) (bI fi) f n) (GR f j b c n (L ++ escC 0 fi x)) := by
  have e0 : escC 0 fi x = if x = 10 then [92, 110] else if x = 9 then [92, 116] else if x = 92 then [92, 92] else if x = 32 ∧ fi = true then [92, 32] else [x] := rfl
  have b28 : ∀ z : Int32, escC 0 fi x = [92, z] → (if x = 10 then 110 else if x = 9 then 116 else x) = z → PQ (mX0_addInLine_b28 x (some j) f n) (GR f j b c n (L ++ escC 0 fi x)) := by
    intro z hz hx
    rw [hz] at h ⊢
    have h2 : L.length + 2 ≤ c := h
    unfold mX0_addInLine_b28
    refine pq_sb (pq_ck (gr_st hr (by omega) (fun f' hr' => ?_)))
    have h3 : (L ++ [92]).length < c := by rw [List.length_append]; show L.length + 1 < c; omega
    unfold mX0_addInLine_b35
    rw [← ap2]
    refine pq_eq (fun q1 => ?_) (fun q1 => ?_)
    · rw [if_pos q1] at hx; rw [← hx]; exact pq_sb (pq_ck (gr_1 hr' h3))
    · rw [if_neg q1] at hx
      refine pq_eq (fun q2 => ?_) (fun q2 => ?_)
      · rw [if_pos q2] at hx; rw [← hx]; exact pq_sb (pq_ck (gr_1 hr' h3))
      · rw [if_neg q2] at hx; rw [← hx]; exact pq_sb (pq_ck (gr_1 hr' h3))
  have b35 : x ≠ 10 → x ≠ 9 → escC 0 fi x = [x] → PQ (mX0_addInLine_b35 x (some j) f n) (GR f j b c n (L ++ escC 0 fi x)) := by
    intro h1 h2 hz
    rw [hz] at h ⊢
    unfold mX0_addInLine_b35
    exact pq_f h1 (pq_f h2 (pq_sb (pq_ck (gr_1 hr h))))
  unfold mX0_addInLine
  refine pq_eq (fun q1 => b28 92 (by rw [e0, q1]; rfl) (by rw [q1]; rfl)) (fun q1 => ?_)
  refine pq_eq (fun q2 => b28 110 (by rw [e0, q2]; rfl) (by rw [q2]; rfl)) (fun q2 => ?_)
  refine pq_eq (fun q3 => b28 116 (by rw [e0, q3]; rfl) (by rw [q3]; rfl)) (fun q3 => ?_)
  refine pq_eq (fun q4 => ?_) (fun q4 => ?_)
  · refine pq_eq (fun q5 => ?_) (fun q5 => ?_)
    · refine b35 q2 q3 ?_
      rw [e0, if_neg q2, if_neg q3, if_neg q1, if_neg (fun y => by rw [y.2] at q5; exact absurd q5 (by decide))]
    · have hfi : fi = true := by
        cases fi with
        | true => rfl
        | false => exact absurd rfl q5
      exact b28 32 (by rw [e0, if_neg q2, if_neg q3, if_neg q1, if_pos ⟨q4, hfi⟩]) (by rw [q4]; rfl)
  · refine b35 q2 q3 ?_
    rw [e0, if_neg q2, if_neg q3, if_neg q1, if_neg (fun y => q4 y.1)]
theorem f_inQuotes (hr : isRw f j b c L) {x : Int32} {fi : Bool} (h : L.length + (escC 3 fi x).length ≤ c) : PQ (mX0_addInQuotes x (some j) f n) (GR f j b c n (L ++ escC 3 fi x)) := by
  have e0 : escC 3 fi x = if x = 10 then [92, 110] else if x = 9 then [92, 116] else if x = 92 then [92, 92] else if x = 34 then [92, 34] else [x] := rfl
  have b24 : ∀ z : Int32, escC 3 fi x = [92, z] → (if x = 10 then 110 else if x = 9 then 116 else x) = z → PQ (mX0_addInQuotes_b24 x (some j) f n) (GR f j b c n (L ++ escC 3 fi x)) := by
    intro z hz hx
    rw [hz] at h ⊢
    have h2 : L.length + 2 ≤ c := h
    unfold mX0_addInQuotes_b24
    refine pq_sb (pq_ck (gr_st hr (by omega) (fun f' hr' => ?_)))
    have h3 : (L ++ [92]).length < c := by rw [List.length_append]; show L.length + 1 < c; omega
    unfold mX0_addInQuotes_b31
    rw [← ap2]
    refine pq_eq (fun q1 => ?_) (fun q1 => ?_)
    · rw [if_pos q1] at hx; rw [← hx]; exact pq_sb (pq_ck (gr_1 hr' h3))
    · rw [if_neg q1] at hx
      refine pq_eq (fun q2 => ?_) (fun q2 => ?_)
      · rw [if_pos q2] at hx; rw [← hx]; exact pq_sb (pq_ck (gr_1 hr' h3))
      · rw [if_neg q2] at hx; rw [← hx]; exact pq_sb (pq_ck (gr_1 hr' h3))
  unfold mX0_addInQuotes
  refine pq_eq (fun q1 => b24 92 (by rw [e0, q1]; rfl) (by rw [q1]; rfl)) (fun q1 => ?_)
  refine pq_eq (fun q2 => b24 110 (by rw [e0, q2]; rfl) (by rw [q2]; rfl)) (fun q2 => ?_)
  refine pq_eq (fun q3 => b24 116 (by rw [e0, q3]; rfl) (by rw [q3]; rfl)) (fun q3 => ?_)
  refine pq_eq (fun q4 => b24 34 (by rw [e0, q4]; rfl) (by rw [q4]; rfl)) (fun q4 => ?_)
  have hz : escC 3 fi x = [x] := by rw [e0, if_neg q2, if_neg q3, if_neg q1, if_neg q4]
  rw [hz] at h ⊢
  unfold mX0_addInQuotes_b31
  exact pq_f q2 (pq_f q3 (pq_sb (pq_ck (gr_1 hr h))))
theorem f_doubled (hr : isRw f j b c L) {x : Int32} {fi : Bool} (h : L.length + (escC 1 fi x).length ≤ c) : PQ (mX0_addDoubled x (some j) f n) (GR f j b c n (L ++ escC 1 fi x)) := by
  have e0 : escC 1 fi x = if x = 34 then [34, 34] else [x] := rfl
  unfold mX0_addDoubled
  refine pq_eq (fun q1 => ?_) (fun q1 => ?_)
  · rw [e0, if_pos q1] at h ⊢
    have h2 : L.length + 2 ≤ c := h
    refine pq_sb (pq_ck (gr_st hr (by omega) (fun f' hr' => ?_)))
    have h3 : (L ++ [34]).length < c := by rw [List.length_append]; show L.length + 1 < c; omega
    rw [← ap2, q1]
    exact pq_sb (pq_ck (gr_1 hr' h3))
  · rw [e0, if_neg q1] at h ⊢
    exact pq_sb (pq_ck (gr_1 hr h))
theorem f_inMarkup (hr : isRw f j b c L) {x : Int32} {fi : Bool} (h : L.length + (escC 2 fi x).length ≤ c) : PQ (mX0_addInMarkup x (some j) f n) (GR f j b c n (L ++ escC 2 fi x)) := by
  have e0 : escC 2 fi x = if x = 60 then [38, 108, 116, 59] else if x = 62 then [38, 103, 116, 59] else if x = 38 then [38, 97, 109, 112, 59] else [x] := rfl
  have b76 : ∀ (f : AH) (L : BL) (z : Int32), isRw f j b c L → L.length + 3 ≤ c → PQ (mX0_addInMarkup_b76 (some j) (some j) z f n) (GR f j b c n (L ++ [z, 116, 59])) := by
    intro f L z hr h
    unfold mX0_addInMarkup_b76
    refine pq_sb (pq_ck (gr_st hr (by omega) (fun f1 hr1 => ?_)))
    refine pq_sb (pq_ck (gr_st hr1 (by rw [List.length_append]; show L.length + 1 < c; omega) (fun f2 hr2 => ?_)))
    have h3 : (L ++ [z] ++ [116]).length < c := by rw [List.length_append, List.length_append]; show L.length + 1 + 1 < c; omega
    have := gr_1 (n := n) (x := 59) hr2 h3
    rw [ap2, List.append_assoc] at this
    exact pq_sb (pq_ck this)
  unfold mX0_addInMarkup
  refine pq_eq (fun q1 => ?_) (fun q1 => ?_)
  · rw [e0, if_pos q1] at h ⊢
    have h2 : L.length + 4 ≤ c := h
    unfold mX0_addInMarkup_b25
    refine pq_sb (pq_ck (gr_st hr (by omega) (fun f1 hr1 => ?_)))
    refine pq_f (by rw [q1]; decide) (pq_t q1 ?_)
    have := b76 f1 (L ++ [38]) 108 hr1 (by rw [List.length_append]; show L.length + 1 + 3 ≤ c; omega)
    rw [List.append_assoc] at this
    exact this
  · refine pq_eq (fun q2 => ?_) (fun q2 => ?_)
    · rw [e0, if_neg q1, if_pos q2] at h ⊢
      have h2 : L.length + 4 ≤ c := h
      unfold mX0_addInMarkup_b25
      refine pq_sb (pq_ck (gr_st hr (by omega) (fun f1 hr1 => ?_)))
      refine pq_f (by rw [q2]; decide) (pq_f q1 ?_)
      have := b76 f1 (L ++ [38]) 103 hr1 (by rw [List.length_append]; show L.length + 1 + 3 ≤ c; omega)
      rw [List.append_assoc] at this
      exact this
    · refine pq_eq (fun q3 => ?_) (fun q3 => ?_)
      · rw [e0, if_neg q1, if_neg q2, if_pos q3] at h ⊢
        have h2 : L.length + 5 ≤ c := h
        unfold mX0_addInMarkup_b25
        refine pq_sb (pq_ck (gr_st hr (by omega) (fun f1 hr1 => ?_)))
        refine pq_t q3 (pq_ck (gr_st hr1 (by rw [List.length_append]; show L.length + 1 < c; omega) (fun f2 hr2 => ?_)))
        rw [ap2] at hr2
        refine pq_ck (gr_st hr2 (by rw [List.length_append]; show L.length + 2 < c; omega) (fun f3 hr3 => ?_))
        rw [List.append_assoc] at hr3
        refine pq_ck (gr_st hr3 (by rw [List.length_append]; show L.length + 3 < c; omega) (fun f4 hr4 => ?_))
        rw [List.append_assoc] at hr4
        have := gr_1 (n := n) (x := 59) hr4 (by rw [List.length_append]; show L.length + 4 < c; omega)
        rw [List.append_assoc] at this
        exact pq_sb (pq_ck this)
      · rw [e0, if_neg q1, if_neg q2, if_neg q3] at h ⊢
        exact pq_sb (pq_ck (gr_1 hr h))
theorem f_addEsc_l {j1 b1 c1 : Nat} {M : BL} {k : Int32} {fi : Bool} (hk : k = -1 ∨ k = 0 ∨ k = 1 ∨ k = 2 ∨ k = 3) (hj : j1 ≠ j) (hb : b1 ≠ b) : ∀ (d i : Nat) (f : AH) (L : BL), isRw f j b c L → isRw f j1 b1 c1 M → i ≤ M.length → L.length + (escL k (fi && decide (i = 0)) (M.drop i)).length ≤ c → PQ (mX0_addEscaped_l3 d (some j1) (some j) k (bI fi) (nI i) f n) (GR f j b c n (L ++ escL k (fi && decide (i = 0)) (M.drop i))) := by
  intro d
  induction d with
  | zero => intro i f L _ _ _ _; exact pq_none
  | succ d ih =>
    intro i f L hr hm hi hl
    have h6 := rw_6 hm
    unfold mX0_addEscaped_l3
    refine pq_sb (pq_ck (pq_is (f_size hm) ?_))
    refine pq_le (nI_toInt (by omega)) (nI_toInt (by omega)) (fun h => ?_) (fun h => ?_)
    · refine pq_ret ⟨f, rfl, ?_, fun _ _ _ => rfl⟩
      rw [List.drop_of_length_le (by omega)]
      show isRw f j b c (L ++ [])
      rw [List.append_nil]; exact hr
    · have hiM : i < M.length := by omega
      refine pq_ck (pq_is (f_getN hm hiM) ?_)
      have eS : escL k (fi && decide (i = 0)) (M.drop i) = escC k (fi && decide (i = 0)) (M.getD i 0) ++ escL k false (M.drop (i + 1)) := by rw [dr_st hiM]; rfl
      rw [eS, List.length_append] at hl
      rw [eS]
      have hb1 : b1 ≠ j := fun q => by
        obtain ⟨-, ⟨g, h2, -⟩, -⟩ := hm
        have h1 := hr.1
        rw [q, h1] at h2; cases h2
      have hj1 : j1 ≠ b := fun q => by
        obtain ⟨-, ⟨g, h2, -⟩, -⟩ := hr
        have h1 := hm.1
        rw [q, h2] at h1; cases h1
      -- behind one byte
      have nxt : ∀ o : Option (Int32 × HpN), PQ o (GR f j b c n (L ++ escC k (fi && decide (i = 0)) (M.getD i 0))) → PQ (o.bind fun r => mX0_addEscaped_b109 (fun v0 v1 v2 v3 v4 f n => mX0_addEscaped_l3 d v0 v1 v2 v3 v4 f n) (some j1) (some j) k (bI fi) (nI i) r.2.1 r.2.2) (GR f j b c n (L ++ (escC k (fi && decide (i = 0)) (M.getD i 0) ++ escL k false (M.drop (i + 1))))) := by
        intro o ho
        refine pq_call ho (fun r hq => ?_)
        obtain ⟨f1, rfl, g1, g2⟩ := hq
        unfold mX0_addEscaped_b109
        show PQ (mX0_addEscaped_l3 d (some j1) (some j) k (bI fi) (nI i + 1) f1 n) _
        rw [nI_1]
        have hm1 : isRw f1 j1 b1 c1 M := rw_tr hm (g2 _ hj hj1) (g2 _ hb1 hb)
        have e1 : (fi && decide (i + 1 = 0)) = false := by rw [decide_eq_false (by omega), Bool.and_false]
        have h9 := ih (i + 1) f1 _ g1 hm1 hiM (by rw [e1, List.length_append]; omega)
        rw [e1, List.append_assoc] at h9
        refine pq_tail h9 (fun r hq => ?_)
        obtain ⟨f2, rfl, k1, k2⟩ := hq
        exact ⟨f2, rfl, k1, fun x y z => (k2 x y z).trans (g2 x y z)⟩
      rcases hk with rfl | rfl | rfl | rfl | rfl
      · refine pq_f (by decide) (pq_f (by decide) (pq_f (by decide) (pq_f (by decide) (pq_sb (pq_ck ?_)))))
        have eC : ∀ z, escC (-1) (fi && decide (i = 0)) z = [z] := fun z => rfl
        rw [eC] at nxt hl
        have h2 : L.length + (1 + (escL (-1) false (M.drop (i + 1))).length) ≤ c := hl
        have h9 := nxt _ (gr_1 (n := n) (x := M.getD i 0) hr (by omega))
        refine pq_call (f_addR hr (by omega)) (fun r hq => ?_)
        obtain ⟨f', rfl, h1, h3⟩ := hq
        unfold mX0_addEscaped_b109
        show PQ (mX0_addEscaped_l3 d (some j1) (some j) (-1) (bI fi) (nI i + 1) f' n) _
        rw [nI_1]
        have hm1 : isRw f' j1 b1 c1 M := rw_tr hm (h3 _ hj hj1) (h3 _ hb1 hb)
        have e1 : (fi && decide (i + 1 = 0)) = false := by rw [decide_eq_false (by omega), Bool.and_false]
        have h8 := ih (i + 1) f' _ h1 hm1 hiM (by rw [e1, List.length_append]; show L.length + 1 + _ ≤ c; omega)
        rw [e1, List.append_assoc] at h8
        refine pq_tail h8 (fun r hq => ?_)
        obtain ⟨f2, rfl, k1, k2⟩ := hq
        exact ⟨f2, rfl, k1, fun x y z => (k2 x y z).trans (h3 x y z)⟩
      · refine pq_t rfl ?_
        have hl0 : L.length + (escC 0 (fi && decide (i = 0)) (M.getD i 0)).length ≤ c := by omega
        refine pq_eq (fun q1 => ?_) (fun q1 => ?_)
        · unfold mX0_addEscaped_b68 mX0_addEscaped_b69
          have e2 : (fi && decide (i = 0)) = false := by rw [bI_0.mp q1]; rfl
          rw [e2] at hl0 nxt ⊢
          exact nxt _ (f_inLine (fi := false) hr hl0)
        · have hfi : fi = true := by
            cases fi with
            | true => rfl
            | false => exact absurd rfl q1
          refine pq_eqi (nI_toInt (by omega)) kt_0 (fun q2 => ?_) (fun q2 => ?_)
          · unfold mX0_addEscaped_b69
            have e2 : (fi && decide (i = 0)) = true := by rw [hfi, decide_eq_true (by omega)]; rfl
            rw [e2] at hl0 nxt ⊢
            exact nxt _ (f_inLine (fi := true) hr hl0)
          · unfold mX0_addEscaped_b68 mX0_addEscaped_b69
            have e2 : (fi && decide (i = 0)) = false := by rw [decide_eq_false (by omega), Bool.and_false]
            rw [e2] at hl0 nxt ⊢
            exact nxt _ (f_inLine (fi := false) hr hl0)
      · have hl0 : L.length + (escC 1 (fi && decide (i = 0)) (M.getD i 0)).length ≤ c := by omega
        exact pq_f (by decide) (pq_t rfl (nxt _ (f_doubled hr hl0)))
      · have hl0 : L.length + (escC 2 (fi && decide (i = 0)) (M.getD i 0)).length ≤ c := by omega
        exact pq_f (by decide) (pq_f (by decide) (pq_t rfl (nxt _ (f_inMarkup hr hl0))))
      · have hl0 : L.length + (escC 3 (fi && decide (i = 0)) (M.getD i 0)).length ≤ c := by omega
        exact pq_f (by decide) (pq_f (by decide) (pq_f (by decide) (pq_t rfl (nxt _ (f_inQuotes hr hl0)))))
theorem f_addEsc {j1 b1 c1 : Nat} {M : BL} {k : Int32} {fi : Bool} (hk : k = -1 ∨ k = 0 ∨ k = 1 ∨ k = 2 ∨ k = 3) (hj : j1 ≠ j) (hb : b1 ≠ b) (hr : isRw f j b c L) (hm : isRw f j1 b1 c1 M) (hl : L.length + (escL k fi M).length ≤ c) : PQ (mX0_addEscaped (some j1) (some j) k (bI fi) f n) (GR f j b c n (L ++ escL k fi M)) := by
  have e : (fi && decide (0 = 0)) = fi := by rw [decide_eq_true rfl, Bool.and_true]
  have h := f_addEsc_l (n := n) (fi := fi) hk hj hb rFU 0 f L hr hm (Nat.zero_le _) (by rw [e]; exact hl)
  rw [e] at h
  exact h
end ESC
