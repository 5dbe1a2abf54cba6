/-! the reference escapes bytes -/
def EO9 (σ : RS9) (o : Nat) (B : BL) : Prop := σ.1 56 = nI B.length ∧ RLs σ o B ∧ B.length ≤ 1400
abbrev F56 : Nat → Prop := fun k => k = 56
theorem RL_put {σ : RS9} {o : Nat} {B : BL} {c : Int32} (h : RLs σ o B) (hB : B.length ≤ 5000) : RLs (rSa σ o (nI B.length) c) o (B ++ [c]) := fun i hi => by
  rw [List.length_append] at hi
  have hi2 : i < B.length + 1 := hi
  rw [sa_nI (by omega)]
  by_cases e : i = B.length
  · rw [if_pos e, e, gd_app_r (Nat.le_refl _), Nat.sub_self]; rfl
  · rw [if_neg e, gd_app_l (by omega)]; exact h i (by omega)
section RES
variable {σ : RS9} {o : Nat} {B : BL}
def PO9 (σ : RS9) (o : Nat) (B : BL) (y : Int32 × RS9) : Prop := ∃ σ', y = (0, σ') ∧ EO9 σ' o B ∧ FRX (fun k => k = o) F56 σ σ'
theorem r_plain {c : Int32} (ho : rLen o = 1400) (h : EO9 σ o B) : PQ (mX9_plain o c σ) (PO9 σ o (B ++ [c])) := by
  obtain ⟨h1, h2, h3⟩ := h
  unfold mX9_plain
  rw [h1, ho, nI_1]
  refine pq_ckb (fun hin => pq_ret ⟨_, rfl, ⟨?_, RL_put h2 (by omega), ?_⟩, ⟨fun k hk => sa_ne hk, fun k hk => sf_ne hk⟩⟩)
  · rw [sf_eq, List.length_append]; rfl
  · have := in_nI (by omega) hin
    rw [List.length_append]; show B.length + 1 ≤ 1400; omega
theorem r_puts {a b : Int32} (ho : rLen o = 1400) (h : EO9 σ o B) : PQ (mX9_puts o a b σ) (PO9 σ o (B ++ [a, b])) := by
  obtain ⟨h1, h2, h3⟩ := h
  have e2 : B ++ [a, b] = (B ++ [a]) ++ [b] := by rw [List.append_assoc]; rfl
  have el : (B ++ [a]).length = B.length + 1 := by rw [List.length_append]; rfl
  unfold mX9_puts
  rw [h1, ho, nI_1, show nI B.length + (2 : Int32) = nI (B.length + 2) from nI_add _ 2, e2]
  refine pq_ck (pq_ckb (fun hin => pq_ret ⟨_, rfl, ⟨?_, ?_, ?_⟩, ⟨fun k hk => (sa_ne hk).trans (sa_ne hk), fun k hk => sf_ne hk⟩⟩))
  · rw [sf_eq, List.length_append, el]; rfl
  · have h4 := RL_put (c := b) (RL_put (c := a) h2 (by omega)) (by rw [el]; omega)
    rw [el] at h4
    exact h4
  · have := in_nI (by omega) hin
    rw [List.length_append, el]; show B.length + 1 + 1 ≤ 1400; omega
theorem r_word {t : Nat} (ht : t < 15) (ho : rLen o = 1400) (h : EO9 σ o B) : PQ (mX9_word o t σ) (PO9 σ o (B ++ wd9 t)) := by
  obtain ⟨h1, h2, h3⟩ := h
  have h8 := wd9_8 ht
  have key : ∀ (d i : Nat) (σ1 : RS9), i ≤ (wd9 t).length → FRX (fun k => k = o) F56 σ σ1 → σ1.1 56 = nI B.length → B.length + i ≤ 1400 → RLs σ1 o (B ++ (wd9 t).take i) → PQ (mX9_word_l2 d o t (nI i) σ1) (PO9 σ o (B ++ wd9 t)) := by
    intro d
    induction d with
    | zero => intro i σ1 _ _ _ _ _; exact pq_none
    | succ d ih =>
      intro i σ1 hi hF k56 hl hR
      unfold mX9_word_l2
      rw [wd9_l ht, k56]
      refine pq_le (nI_toInt (by omega)) (nI_toInt (by omega)) (fun q => ?_) (fun q => ?_)
      · have e : i = (wd9 t).length := by omega
        subst e
        rw [List.take_length] at hR
        rw [nI_add]
        exact pq_ret ⟨_, rfl, ⟨by rw [sf_eq, List.length_append], hR, by rw [List.length_append]; exact hl⟩, ⟨fun k hk => hF.1 k hk, fun k hk => (sf_ne hk).trans (hF.2 k hk)⟩⟩
      · have hi' : i < (wd9 t).length := by omega
        rw [nI_add, nI_1, wd9_c ht hi', ho]
        have el : (B ++ (wd9 t).take i).length = B.length + i := by rw [List.length_append, List.length_take]; omega
        refine pq_ck (pq_ckb (fun hin => ih (i + 1) _ (by omega) (frx_tr hF ⟨fun k hk => sa_ne hk, fun k hk => rfl⟩) k56 ?_ ?_))
        · have := in_nI (by omega) hin; omega
        · have h4 := RL_put (c := (wd9 t).getD i 0) hR (by omega)
          rw [el, List.append_assoc] at h4
          have e5 : (wd9 t).take (i + 1) = (wd9 t).take i ++ [(wd9 t).getD i 0] := by
            rw [List.take_succ, List.getD_eq_getElem?_getD, List.getElem?_eq_getElem hi']; rfl
          rw [e5]; exact h4
  unfold mX9_word
  exact key rFU 0 σ (Nat.zero_le _) frx_rfl h1 (by omega) (by rw [List.take_zero, List.append_nil]; exact h2)
theorem r_escM {c : Int32} {fi : Bool} (ho : rLen o = 1400) (h : EO9 σ o B) : PQ (mX9_escapesMarkup o c σ) (PO9 σ o (B ++ escC 2 fi c)) := by
  have e : escC 2 fi c = if c = 60 then [38, 108, 116, 59] else if c = 62 then [38, 103, 116, 59] else if c = 38 then [38, 97, 109, 112, 59] else [c] := rfl
  have fin : ∀ {X : BL} {y : Int32 × RS9}, PO9 σ o X y → PQ (mX9_escapesMarkup_b54 y.2) (PO9 σ o X) := fun hy => by
    obtain ⟨σ', rfl, h1⟩ := hy
    exact pq_ret ⟨σ', rfl, h1⟩
  rw [e]
  unfold mX9_escapesMarkup
  refine pq_eq (fun q => ?_) (fun q0 => pq_eq (fun q => ?_) (fun q1 => pq_eq (fun q => ?_) (fun q2 => ?_)))
  · rw [if_pos q]
    exact pq_call (r_word (t := 0) (by decide) ho h) (fun y hy => fin hy)
  · rw [if_neg q0, if_pos q]
    exact pq_call (r_word (t := 1) (by decide) ho h) (fun y hy => fin hy)
  · rw [if_neg q0, if_neg q1, if_pos q]
    exact pq_call (r_word (t := 2) (by decide) ho h) (fun y hy => fin hy)
  · rw [if_neg q0, if_neg q1, if_neg q2]
    exact pq_call (r_plain ho h) (fun y hy => fin hy)
theorem r_escB {k c : Int32} {fi : Bool} (hk : k = 0 ∨ k = 3) (ho : rLen o = 1400) (h : EO9 σ o B) : PQ (mX9_escapesBack k o c (bI fi) σ) (PO9 σ o (B ++ escC k fi c)) := by
  have fin : ∀ {X : BL} {y : Int32 × RS9}, PO9 σ o X y → PQ (mX9_escapesBack_b85 y.2) (PO9 σ o X) := fun hy => by
    obtain ⟨σ', rfl, h1⟩ := hy
    exact pq_ret ⟨σ', rfl, h1⟩
  have b79 : PQ (mX9_escapesBack_b79 o c σ) (PO9 σ o (B ++ [c])) := pq_call (r_plain ho h) (fun y hy => fin hy)
  have b68 : PQ (mX9_escapesBack_b68 o c σ) (PO9 σ o (B ++ [92, c])) := pq_call (r_puts ho h) (fun y hy => fin hy)
  unfold mX9_escapesBack
  rcases hk with rfl | rfl
  · have e : escC 0 fi c = if c = 10 then [92, 110] else if c = 9 then [92, 116] else if c = 92 then [92, 92] else if c = 32 ∧ fi = true then [92, 32] else [c] := rfl
    have b53 : c ≠ 10 → c ≠ 9 → c ≠ 92 → PQ (mX9_escapesBack_b53 0 o c (bI fi) σ) (PO9 σ o (B ++ escC 0 fi c)) := fun n1 n2 n3 => by
      rw [e, if_neg n1, if_neg n2, if_neg n3]
      unfold mX9_escapesBack_b53
      refine pq_eq (fun q => pq_t rfl ?_) (fun q => ?_)
      · cases fi with
        | true =>
          rw [if_pos (show c = 32 ∧ true = true from ⟨q, rfl⟩)]
          refine pq_f (show ¬ (1 : Int32) = 0 by decide) ?_
          rw [q] at b68 ⊢; exact b68
        | false =>
          rw [if_neg (show ¬ (c = 32 ∧ false = true) from fun x => by cases x.2)]
          exact pq_t rfl b79
      · rw [if_neg (show ¬ (c = 32 ∧ fi = true) from fun x => q x.1)]; exact b79
    refine pq_eq (fun q => ?_) (fun q0 => pq_eq (fun q => ?_) (fun q1 => pq_eq (fun q => ?_) (fun q2 => pq_eq (fun q => pq_f (show ¬ (0 : Int32) = 3 by decide) (b53 q0 q1 q2)) (fun q3 => b53 q0 q1 q2))))
    · rw [e, if_pos q]; exact pq_call (r_puts ho h) (fun y hy => fin hy)
    · rw [e, if_neg q0, if_pos q]; exact pq_call (r_puts ho h) (fun y hy => fin hy)
    · rw [e, if_neg q0, if_neg q1, if_pos q]; rw [q] at b68 ⊢; exact b68
  · have e : escC 3 fi c = if c = 10 then [92, 110] else if c = 9 then [92, 116] else if c = 92 then [92, 92] else if c = 34 then [92, 34] else [c] := rfl
    refine pq_eq (fun q => ?_) (fun q0 => pq_eq (fun q => ?_) (fun q1 => pq_eq (fun q => ?_) (fun q2 => pq_eq (fun q => pq_t rfl ?_) (fun q3 => ?_))))
    · rw [e, if_pos q]; exact pq_call (r_puts ho h) (fun y hy => fin hy)
    · rw [e, if_neg q0, if_pos q]; exact pq_call (r_puts ho h) (fun y hy => fin hy)
    · rw [e, if_neg q0, if_neg q1, if_pos q]; rw [q] at b68 ⊢; exact b68
    · rw [e, if_neg q0, if_neg q1, if_neg q2, if_pos q]; rw [q] at b68 ⊢; exact b68
    · rw [e, if_neg q0, if_neg q1, if_neg q2, if_neg q3]
      unfold mX9_escapesBack_b53
      exact pq_eq (fun _ => pq_f (show ¬ (3 : Int32) = 0 by decide) b79) (fun _ => b79)
theorem bSg_d {c : Int32} : bSg c = (decide (c = 44) || (decide (c = 34) || decide (c = 10))) := by
  unfold bSg
  simp only [Bool.or_assoc]
theorem r_hasSign {r : Nat} {t : BL} (hL : RLs σ r t) (h6 : t.length ≤ 1400) : PQ (mX9_hasSign r (nI t.length) σ) (fun y => y = (bI (sg t), σ)) := by
  have key : ∀ (d i : Nat), i ≤ t.length → PQ (mX9_hasSign_l2 d r (nI t.length) (nI i) σ) (fun y => y = (bI (sg (t.drop i)), σ)) := by
    intro d
    induction d with
    | zero => intro i _; exact pq_none
    | succ d ih =>
      intro i hi
      unfold mX9_hasSign_l2
      refine pq_le (nI_toInt (by omega)) (nI_toInt (by omega)) (fun q => ?_) (fun q => ?_)
      · rw [List.drop_eq_nil_of_le (by omega)]
        exact pq_ck (pq_ret rfl)
      · have hi' : i < t.length := by omega
        have e : sg (t.drop i) = (bSg (t.getD i 0) || sg (t.drop (i + 1))) := by
          unfold sg
          rw [dr_st hi', List.any_cons]
        rw [rd_nI (by omega), hL i hi', e, bSg_d]
        have yes : PQ (mX9_hasSign_b31 σ) (fun y => y = (1, σ)) := pq_ck (pq_ret rfl)
        refine pq_ck (pq_eq (fun q1 => ?_) (fun q1 => pq_ck (pq_eq (fun q2 => ?_) (fun q2 => pq_ck (pq_eq (fun q3 => ?_) (fun q3 => ?_))))))
        · rw [decide_eq_true q1]; exact yes
        · rw [decide_eq_true q2, decide_eq_false q1]; exact yes
        · rw [decide_eq_true q3, decide_eq_false q1, decide_eq_false q2]; exact yes
        · rw [decide_eq_false q1, decide_eq_false q2, decide_eq_false q3, nI_1]
          exact ih (i + 1) (by omega)
  exact key rFU 0 (Nat.zero_le _)
end RES
