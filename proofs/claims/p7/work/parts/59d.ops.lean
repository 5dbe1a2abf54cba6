/-! the class's calls: the tape, words, what goes back -/
section COT
variable {f : AH} {n : Nat} {V : SPV}
theorem RC_tape {f' : AH} {n' : Nat} {T : BL} (h : RC f n V) (hF : ∀ j, j < n → j ≠ 1 → f' j = f j) (hT : isRw f' 1 2 400 T) (hn' : n ≤ n') : RC f' n' (T, V.2) := by
  obtain ⟨hn, ⟨ag, hp, hag⟩, -, ⟨hK, hV⟩, hRS, hR⟩ := h
  refine ⟨by omega, ⟨ag, (hF 0 (by omega) (by omega)).trans hp, fun q => CUT_tr (hag q) (fun i a b => hF i (by omega) (by omega))⟩, hT, ⟨KO_tr hK (fun j hj => hF j ?_ ?_) hn', hV⟩, RS_frb hRS (fun j a _ c _ _ _ _ _ _ => hF j a c) hn hn', ?_⟩
  · rcases hj with q | q | q | q <;> first | omega | exact IMM_lt q hn
  · rcases hj with q | q | q | q <;> first | omega | exact (IMM_1 q).2.1
  · show rdG (f' 178)
    rw [hF 178 (by omega) (by omega)]; exact hR
theorem f_take {B : Nat} (h : RC f n V) : PQ (mX5_part B 1 0 (nI V.1.length) f n) (fun y => ∃ f', y = (some n, f', n + 2) ∧ isRw f' n (n + 1) V.1.length V.1 ∧ ∀ j, j < n → f' j = f j) := by
  have hn := h.1
  refine pq_tail (f_part (B := B) (i := 0) (k := V.1.length) h.2.2.1 (by omega) (by omega) (by omega)) (fun y hy => ?_)
  obtain ⟨f', rfl, r, hF⟩ := hy
  rw [Nat.zero_add, sl_all] at r
  exact ⟨f', rfl, r, hF⟩
/-- the tape is used up -/
theorem f_used {β : Type} {Q : β → Prop} {k : Int32 × HpN → Option β} (h : RC f n V) (hk : ∀ f', RC f' n (noT V) → (∀ j, j ≠ 1 → f' j = f j) → PQ (k (0, f', n)) Q) : PQ ((gR f 0 8 0).bind fun x1 => ((x1).bind fun j2 => rCk (isO f j2 5) (((mX5_cutTo j2 (0 : Int32) f n).bind k)))) Q := by
  obtain ⟨ag, hp⟩ := RC_p h
  refine pq_gR hp rfl (pq_sb (pq_ck (pq_call (f_cutTo (m := 0) h.2.2.1 (by omega)) (fun y hy => ?_))))
  obtain ⟨f', rfl, r, hF⟩ := hy
  rw [List.take_zero] at r
  exact hk f' (RC_tape h (fun j _ b => hF j b) r (Nat.le_refl _)) hF
theorem RI1_new {f' : AH} {T : BL} {c : Nat} (hn : 224 ≤ n) (r : isRw f' n (n + 1) c T) : RI1 f' (n + 2) n T := ⟨n + 1, c, r, by unfold IMM; omega, by unfold IMM; omega⟩
theorem f_takeTold (h : RC f n V) : PQ (mX8_takeTold 0 f n) (fun y => ∃ f' n', RC f' n' (noT V) ∧ ((V.1.length ≤ 60 ∧ ∃ j, y = (some j, f', n') ∧ RI1 f' n' j V.1) ∨ (60 < V.1.length ∧ y = (none, f', n')))) := by
  obtain ⟨ag, hp⟩ := RC_p h
  have h6 := rw_6 h.2.2.1
  have hn := h.1
  unfold mX8_takeTold
  refine pq_gR hp rfl (pq_sb (pq_ck (pq_is (f_size h.2.2.1) ?_)))
  refine pq_le (nI_toInt (by omega)) kt_60 (fun q => ?_) (fun q => ?_)
  · refine pq_gR hp rfl (pq_gR hp rfl (pq_sb (pq_ck (pq_is (f_size h.2.2.1) (pq_sb (pq_ck (pq_call (f_take (f := f) (n := n) h) (fun y hy => ?_))))))))
    obtain ⟨f1, rfl, r, hF⟩ := hy
    have h1 : RC f1 (n + 2) V := RC_tape (T := V.1) h (fun j a _ => hF j a) (rw_tr h.2.2.1 (hF _ (by omega)) (hF _ (by omega))) (by omega)
    refine pq_sb ?_
    unfold mX8_takeTold_b31
    refine f_used h1 (fun f2 h2 hF2 => pq_ret ⟨f2, n + 2, h2, Or.inl ⟨by omega, n, rfl, RI1_tr (RI1_new hn r) (fun j hj => hF2 j (IMM_1 hj).2.1) (Nat.le_refl _)⟩⟩)
  · unfold mX8_takeTold_b31
    exact f_used h (fun f2 h2 hF2 => pq_ret ⟨f2, n, h2, Or.inr ⟨by omega, rfl⟩⟩)
theorem f_isWord {T : BL} (hr : isRw f 1 2 400 T) : PQ (mX5_isWord 1 f n) (fun y => y = (bI (isWd T), f, n)) := by
  have h6 := rw_6 hr
  have key : ∀ (d i : Nat), i ≤ T.length → (∀ k, k < i → bLow (T.getD k 0) = true) → PQ (mX5_isWord_l2 d 1 (nI i) f n) (fun y => y = (bI (isWd T), f, n)) := by
    intro d
    induction d with
    | zero => intro i _ _; exact pq_none
    | succ d ih =>
      intro i hi hk
      have no : i < T.length → bLow (T.getD i 0) = false → isWd T = false := fun h1 h2 => by
        unfold isWd
        have : T.all bLow = false := by
          cases hx : T.all bLow with
          | false => rfl
          | true =>
            have := List.all_eq_true.mp hx (T.getD i 0) (by rw [List.getD_eq_getElem?_getD, List.getElem?_eq_getElem h1]; exact List.getElem_mem h1)
            rw [h2] at this; cases this
        rw [this, Bool.and_false]
      unfold mX5_isWord_l2
      refine pq_rwS hr (pq_le (nI_toInt (by omega)) (nI_toInt (by omega)) (fun q => ?_) (fun q => ?_))
      · have e : i = T.length := by omega
        have ha : T.all bLow = true := List.all_eq_true.mpr (fun x hx => by
          obtain ⟨k, hk1, hk2⟩ := List.getElem_of_mem hx
          have := hk k (by omega)
          rw [List.getD_eq_getElem?_getD, List.getElem?_eq_getElem hk1] at this
          rw [← hk2]; exact this)
        have ew : isWd T = (decide (1 ≤ T.length) && decide (T.length ≤ 8)) := by
          unfold isWd
          rw [ha, Bool.and_true]
        rw [ew]
        refine pq_rwS hr (pq_lt (nI_toInt (by omega)) kt_1 (fun q1 => ?_) (fun q1 => ?_))
        · rw [decide_eq_false (show ¬ 1 ≤ T.length by omega), Bool.false_and]
          unfold mX5_isWord_b59 mX5_isWord_b60
          exact pq_ck (pq_ret rfl)
        · refine pq_rwS hr (pq_lt kt_8 (nI_toInt (by omega)) (fun q2 => ?_) (fun q2 => ?_))
          · rw [decide_eq_false (show ¬ T.length ≤ 8 by omega), Bool.and_false]
            unfold mX5_isWord_b59 mX5_isWord_b60
            exact pq_ck (pq_ret rfl)
          · rw [decide_eq_true (show 1 ≤ T.length by omega), decide_eq_true (show T.length ≤ 8 by omega)]
            exact pq_ck (pq_ret rfl)
      · have hi' : i < T.length := by omega
        have bad : bLow (T.getD i 0) = false → PQ (mX5_isWord_b30 f n) (fun y => y = (bI (isWd T), f, n)) := fun e => by
          rw [no hi' e]
          exact pq_ck (pq_ret rfl)
        have lowF : ∀ c : Int32, (c.toInt < 97 ∨ 122 < c.toInt) → bLow c = false := fun c hc => by
          have := low_n hc
          unfold bNl at this
          cases hx : bLow c with
          | false => rfl
          | true => rw [hx] at this; cases this
        have lowT : ∀ c : Int32, 97 ≤ c.toInt → c.toInt ≤ 122 → bLow c = true := fun c h1 h2 => by
          have := low_t h1 h2
          unfold bNl at this
          cases hx : bLow c with
          | true => rfl
          | false => rw [hx] at this; cases this
        refine pq_ck (pq_is (f_getN hr hi') (pq_lt rfl kt_97 (fun q1 => bad (lowF _ (Or.inl q1))) (fun q1 => ?_)))
        refine pq_ck (pq_is (f_getN hr hi') (pq_le rfl kt_122 (fun q2 => ?_) (fun q2 => bad (lowF _ (Or.inr q2)))))
        rw [nI_1]
        refine ih (i + 1) (by omega) (fun k hk2 => ?_)
        by_cases e : k = i
        · rw [e]; exact lowT _ q1 q2
        · exact hk k (by omega)
  unfold mX5_isWord
  exact key rFU 0 (Nat.zero_le _) (fun k hk => absurd hk (Nat.not_lt_zero _))
theorem isWd_8 {T : BL} (h : isWd T = true) : 1 ≤ T.length ∧ T.length ≤ 8 := by
  unfold isWd at h
  simp only [Bool.and_eq_true, decide_eq_true_eq] at h
  exact h.1
theorem f_takeWord (h : RC f n V) : PQ (mX8_takeWord 0 f n) (fun y => ∃ f' n', RC f' n' (noT V) ∧ ((isWd V.1 = true ∧ ∃ j, y = (some j, f', n') ∧ RI1 f' n' j V.1) ∨ (isWd V.1 = false ∧ y = (none, f', n')))) := by
  obtain ⟨ag, hp⟩ := RC_p h
  have h6 := rw_6 h.2.2.1
  have hn := h.1
  unfold mX8_takeWord
  refine pq_gR hp rfl (pq_sb (pq_ck (pq_is (f_isWord h.2.2.1) ?_)))
  cases hw : isWd V.1 with
  | false =>
    refine pq_t rfl ?_
    unfold mX8_takeWord_b29
    exact f_used h (fun f2 h2 hF2 => pq_ret ⟨f2, n, h2, Or.inr ⟨rfl, rfl⟩⟩)
  | true =>
    refine pq_f (show ¬ (1 : Int32) = 0 by decide) ?_
    refine pq_gR hp rfl (pq_gR hp rfl (pq_sb (pq_ck (pq_is (f_size h.2.2.1) (pq_sb (pq_ck (pq_call (f_take (f := f) (n := n) h) (fun y hy => ?_))))))))
    obtain ⟨f1, rfl, r, hF⟩ := hy
    have h1 : RC f1 (n + 2) V := RC_tape (T := V.1) h (fun j a _ => hF j a) (rw_tr h.2.2.1 (hF _ (by omega)) (hF _ (by omega))) (by omega)
    refine pq_sb ?_
    unfold mX8_takeWord_b29
    refine f_used h1 (fun f2 h2 hF2 => pq_ret ⟨f2, n + 2, h2, Or.inl ⟨rfl, n, rfl, RI1_tr (RI1_new hn r) (fun j hj => hF2 j (IMM_1 hj).2.1) (Nat.le_refl _)⟩⟩)
theorem k_lock (h : RC f n V) : PQ (mX8_lock 0 f n) (COK (sLock V)) := by
  unfold mX8_lock
  refine pq_ck (pq_call (f_takeWord h) (fun y hy => ?_))
  obtain ⟨f1, n1, h1, hc⟩ := hy
  rcases hc with ⟨hw, j, rfl, r⟩ | ⟨hw, rfl⟩
  · have e : sLock V = sAct (noT V) (dA V.2.1 6 0 0 V.1) (nPc (sCall (noT V) (dA V.2.1 6 0 0 V.1))) := if_pos hw
    rw [e]
    have h8 := isWd_8 hw
    refine pq_sb (pq_oNs (f_prep h1 (fun f' hP im => pq_ck (f_act1 (V := noT V) (w := V.1) hP ⟨fun q => absurd q (by decide), fun q => absurd q (by decide), fun q => absurd q (by decide), fun _ => ⟨j, rfl, RI1_tr r im (Nat.le_refl _), h8.2⟩, fun q => absurd rfl q.2.2.2.2.2.2.1⟩ (fun f'' n'' _ hR => f_tsize hR)))))
  · have e : sLock V = (.inr eA, noT V) := if_neg (by rw [hw]; decide)
    rw [e]
    exact pq_sb (pq_oNn (pq_ret ⟨f1, n1, rfl, h1⟩))
theorem k_tell (h : RC f n V) {p : Int32} : PQ (mX8_tell 0 p f n) (COK (sTell V p)) := by
  unfold mX8_tell
  refine pq_ck (pq_call (f_takeTold h) (fun y hy => ?_))
  obtain ⟨f1, n1, h1, hc⟩ := hy
  rcases hc with ⟨hw, j, rfl, r⟩ | ⟨hw, rfl⟩
  · have e : sTell V p = sAct (noT V) (dA V.2.1 12 p 0 V.1) (nBl (sCall (noT V) (dA V.2.1 12 p 0 V.1))) := if_pos hw
    rw [e]
    refine pq_sb (pq_oNs (f_prep h1 (fun f' hP im => pq_ck (f_act1 (V := noT V) (w := V.1) hP ⟨fun q => absurd q (by decide), fun q => absurd q (by decide), fun q => absurd q (by decide), fun q => absurd q (by decide), fun _ => ⟨j, rfl, RI1_tr r im (Nat.le_refl _), hw⟩⟩ (fun f'' n'' _ hR => f_tbuilt hR)))))
  · have e : sTell V p = (.inr eA, noT V) := if_neg (by omega)
    rw [e]
    exact pq_sb (pq_oNn (pq_ret ⟨f1, n1, rfl, h1⟩))
end COT
