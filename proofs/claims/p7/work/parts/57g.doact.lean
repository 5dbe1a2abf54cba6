/-! each act by its number -/
def ARG (f : AH) (n : Nat) (a x : Int32) (jw : Option Nat) (w : BL) : Prop := (a = 0 → x = 0 ∨ x = 1 ∨ x = 2 ∨ x = 3) ∧ (a = 1 → x = -1 ∨ x = 0 ∨ x = 1 ∨ x = 2 ∨ x = 3) ∧ (a = 5 → 1 ≤ x.toInt ∧ x.toInt ≤ 40) ∧ (a = 6 → ∃ j, jw = some j ∧ RI1 f n j w ∧ w.length ≤ 8) ∧ ((a ≠ 0 ∧ a ≠ 1 ∧ a ≠ 2 ∧ a ≠ 3 ∧ a ≠ 4 ∧ a ≠ 5 ∧ a ≠ 6 ∧ a ≠ 7 ∧ a ≠ 8 ∧ a ≠ 9 ∧ a ≠ 10 ∧ a ≠ 11) → ∃ j, jw = some j ∧ RI1 f n j w ∧ w.length ≤ 60)
theorem AOK_tr {f f2 : AH} {n : Nat} {hi pc wn fp : Int32} {r : Int32 × SST} {y : Int32 × HpN} (h : AOK f2 n hi pc wn fp r y) (hF : FRa n f f2) : AOK f n hi pc wn fp r y := by
  obtain ⟨f', n', h1, h2, h3, h4, h5⟩ := h
  exact ⟨f', n', h1, h2, h3, fra_tr hF h4 (Nat.le_refl _), h5⟩
theorem f_doAct {f : AH} {n : Nat} {S : SST} {hi ag pc wn fp a x y : Int32} {jw : Option Nat} {w : BL} (hn : 224 ≤ n) (hp : f 0 = some (.inr (8, pfL hi ag pc wn fp))) (hK : KO f n S) (hV : SV S) (hA : ARG f n a x jw w) : PQ (mX8_doAct 0 a x y jw f n) (AOK f n hi pc wn fp (dA S a x y w)) := by
  unfold mX8_doAct
  refine pq_ck (pq_pO hp rfl ?_)
  have hp2 : va_up f 0 (some (.inr (8, (pfL hi ag pc wn fp).set 10 (.int 0)))) 0 = some (.inr (8, pfL hi 0 pc wn fp)) := u_eq
  have hx : ∀ j, j ≠ 0 → va_up f 0 (some (.inr (8, (pfL hi ag pc wn fp).set 10 (.int 0)))) j = f j := fun j hj => u_ne hj
  generalize va_up f 0 (some (.inr (8, (pfL hi ag pc wn fp).set 10 (.int 0)))) = f2 at hp2 hx ⊢
  have hFr : FRa n f f2 := fun j _ b _ _ _ _ _ => hx j b
  have hK2 : KO f2 n S := KO_tr hK (fun j hj => hx j (by rcases hj with q | q | q | q <;> first | omega | exact (IMM_1 q).1)) (Nat.le_refl _)
  have im : ∀ j, IMM n j → f2 j = f j := fun j hj => hx j (IMM_1 hj).1
  obtain ⟨A0, A1, A5, A6, A12⟩ := hA
  refine pq_tail (Q1 := AOK f2 n hi pc wn fp (dA S a x y w)) ?_ (fun y hy => AOK_tr hy hFr)
  clear hFr hK hp hx
  obtain ⟨⟨fr, la, a1, a2, full, a3, a4⟩, ⟨g, b1, b2⟩, a6, a7, a8⟩ := id hK2.1
  obtain ⟨c1, c2, c3, c4, c5, c6⟩ := a7
  have lk0 : ∀ l, l < S.2.1.2.2.2.2.length → l < S.2.1.2.2.2.2.length ∧ S.2.1.2.2.2.2.getD l [] = S.2.1.2.2.2.2.getD l [] := fun l hl => ⟨hl, rfl⟩
  unfold dA
  refine pq_eq (fun q => ?_) (fun q0 => ?_)
  · rw [if_pos q]
    exact pq_gR hp2 rfl (pq_sb (f_rule (cf := (x, S.2.1.2)) a8 hp2 hK2 hV rfl a1 rfl ⟨A0 q, c2, c3, c4, c5, c6⟩ lk0))
  rw [if_neg q0]
  refine pq_eq (fun q => ?_) (fun q1 => ?_)
  · rw [if_pos q]
    exact pq_gR hp2 rfl (pq_sb (f_rule (cf := (S.2.1.1, x, S.2.1.2.2)) a8 hp2 hK2 hV rfl a1 rfl ⟨c1, A1 q, c3, c4, c5, c6⟩ lk0))
  rw [if_neg q1]
  refine pq_eq (fun q => ?_) (fun q2 => ?_)
  · rw [if_pos q]
    exact pq_gR hp2 rfl (pq_sb (f_rule (cf := (S.2.1.1, -1, S.2.1.2.2)) a8 hp2 hK2 hV rfl a1 rfl ⟨c1, Or.inl rfl, c3, c4, c5, c6⟩ lk0))
  rw [if_neg q2]
  refine pq_eq (fun q => ?_) (fun q3 => ?_)
  · rw [if_pos q]
    exact pq_gR hp2 rfl (pq_sb (pq_ck (f_rule (cf := (S.2.1.1, S.2.1.2.1, 1, S.2.1.2.2.2)) a8 hp2 hK2 hV rfl a1 rfl ⟨c1, c2, Or.inr rfl, c4, c5, c6⟩ lk0)))
  rw [if_neg q3]
  refine pq_eq (fun q => ?_) (fun q4 => ?_)
  · rw [if_pos q]
    exact pq_gR hp2 rfl (pq_sb (pq_ck (f_rule (cf := (S.2.1.1, S.2.1.2.1, 0, S.2.1.2.2.2)) a8 hp2 hK2 hV rfl a1 rfl ⟨c1, c2, Or.inl rfl, c4, c5, c6⟩ lk0)))
  rw [if_neg q4]
  refine pq_eq (fun q => ?_) (fun q5 => ?_)
  · rw [if_pos q]
    have h5 := A5 q
    have ex : x = nI x.toInt.toNat := nI_x (by omega) (by omega)
    refine pq_gR hp2 rfl (pq_sb (f_rule (cf := (S.2.1.1, S.2.1.2.1, S.2.1.2.2.1, x.toInt.toNat, S.2.1.2.2.2.2)) a8 hp2 hK2 hV rfl a1 ?_ ⟨c1, c2, c3, ⟨by show 1 ≤ x.toInt.toNat; omega, by show x.toInt.toNat ≤ 40; omega⟩, c5, c6⟩ lk0))
    show stV fr S.2.1.1 S.2.1.2.1 S.2.1.2.2.1 x (nI S.2.1.2.2.2.2.length) la (nI S.2.2.2.length) 6 7 = stV fr S.2.1.1 S.2.1.2.1 S.2.1.2.2.1 (nI x.toInt.toNat) (nI S.2.1.2.2.2.2.length) la (nI S.2.2.2.length) 6 7
    rw [← ex]
  rw [if_neg q5]
  refine pq_eq (fun q => ?_) (fun q6 => ?_)
  · rw [if_pos q]
    obtain ⟨j, rfl, hw, h8⟩ := A6 q
    have hw2 := RI1_tr hw im (Nat.le_refl _)
    refine pq_gR hp2 rfl (pq_sb (pq_ck (pq_call (f_addLock (f := f2) (n := n) sid3 hK2.1 hw2 h8) (fun y hy => ?_))))
    rcases hy with ⟨k1, rfl⟩ | ⟨k1, f3, rfl, hS3, hF3⟩
    · have e : loA S w = (lkC S.2.1.2.2.2.2 w, S) := if_neg k1
      rw [e]
      refine pq_f k1 (pq_ret (aok_no hp2 hK2 ?_))
      unfold lkC
      repeat' split
      all_goals decide
    · have e : loA S w = (0, setC S (S.2.1.1, S.2.1.2.1, S.2.1.2.2.1, S.2.1.2.2.2.1, S.2.1.2.2.2.2 ++ [w])) := if_pos k1
      rw [e]
      refine pq_t rfl (pq_ck (pq_call (f_cutAnew (f := f3) (n := n) ((hF3 0 (by omega) (by omega)).trans hp2) hS3 (CSh_tr (CUT_sh hK2.2.1) (fun i a b => hF3 i (by omega) (by omega))) (BSh_tr hK2.2.2.1 (fun i a b => hF3 i (by omega) (by omega))) (show SV (setC S (S.2.1.1, S.2.1.2.1, S.2.1.2.2.1, S.2.1.2.2.2.1, S.2.1.2.2.2.2 ++ [w])) from SV_C a8 hV)) (fun y hy => ?_)))
      obtain ⟨f4, rfl, k2, k3, k4⟩ := hy
      exact pq_ret ⟨f4, n, rfl, Nat.le_refl _, k2, fra_tr (fun j a b c d e g h => hF3 j c d) k4 (Nat.le_refl _), fun q => absurd (show (0 : Int32) = 3 from q) (by decide), fun _ => k3⟩
  rw [if_neg q6]
  refine pq_eq (fun q => ?_) (fun q7 => ?_)
  · rw [if_pos q]
    exact pq_gR hp2 rfl (pq_sb (f_rule (cf := (S.2.1.1, S.2.1.2.1, S.2.1.2.2.1, S.2.1.2.2.2.1, [])) a8 hp2 hK2 hV rfl a1 rfl ⟨c1, c2, c3, c4, by show ([] : List BL).length ≤ 4; decide, fun w hw => absurd hw List.not_mem_nil⟩ (fun l hl => absurd hl (Nat.not_lt_zero _))))
  rw [if_neg q7]
  refine pq_eq (fun q => ?_) (fun q8 => ?_)
  · rw [if_pos q]
    exact pq_ck (pq_call (f_free (f := f2) (n := n) hp2 hK2 hV) (fun y hy => pq_ret hy))
  rw [if_neg q8]
  refine pq_eq (fun q => ?_) (fun q9 => ?_)
  · rw [if_pos q]
    exact pq_ck (pq_call (f_spread (f := f2) (n := n) hn hp2 hK2 hV) (fun y hy => pq_ret hy))
  rw [if_neg q9]
  refine pq_eq (fun q => ?_) (fun q10 => ?_)
  · rw [if_pos q]
    exact pq_ck (pq_call (f_swap (f := f2) (n := n) hn hp2 hK2 hV) (fun y hy => pq_ret hy))
  rw [if_neg q10]
  refine pq_eq (fun q => ?_) (fun q11 => ?_)
  · rw [if_pos q]
    exact pq_ck (pq_call (f_wipe (f := f2) (n := n) a8 hp2 hK2 hV) (fun y hy => pq_ret hy))
  rw [if_neg q11]
  obtain ⟨j, rfl, hw, h60⟩ := A12 ⟨q0, q1, q2, q3, q4, q5, q6, q7, q8, q9, q10, q11⟩
  exact pq_ck (pq_call (f_tell (f := f2) (n := n) hn hp2 hK2 hV (RI1_tr hw im (Nat.le_refl _)) h60) (fun y hy => pq_ret hy))
