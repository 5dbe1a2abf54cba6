/-! the reference escapes a text -/
theorem esc1 {fi : Bool} {c : Int32} : escC 1 fi c = if c = 34 then [34, 34] else [c] := (if_neg (by decide)).trans (if_pos rfl)
theorem escL1 {fi : Bool} {t : BL} : escL 1 fi t = escL 1 false t := by
  cases t with
  | nil => rfl
  | cons c t =>
    show escC 1 fi c ++ escL 1 false t = escC 1 false c ++ escL 1 false t
    rw [esc1, esc1]
section REL
variable {σ : RS9} {o r : Nat} {t : BL}
def PE9 (σ : RS9) (o : Nat) (W : BL) (y : Int32 × RS9) : Prop := ∃ σ', y = (nI W.length, σ') ∧ EO9 σ' o W ∧ FRX (fun k => k = o) F56 σ σ'
theorem r_escN {k v2 : Int32} {fi : Bool} (hk : k = 0 ∨ k = 2 ∨ k = 3) (ho : rLen o = 1400) (hro : r ≠ o) (hL : RLs σ r t) (h6 : t.length ≤ 1400) {W : BL} : ∀ (d i : Nat) (σ1 : RS9) (B : BL), i ≤ t.length → FRX (fun k => k = o) F56 σ σ1 → EO9 σ1 o B → B ++ escL k (fi && decide (i = 0)) (t.drop i) = W → PQ (mX9_escapes_l47 d k v2 (bI fi) r (nI t.length) o 0 (nI i) σ1) (PE9 σ o W) := by
  intro d
  induction d with
  | zero => intro i σ1 B _ _ _ _; exact pq_none
  | succ d ih =>
    intro i σ1 B hi hF hB hW
    unfold mX9_escapes_l47
    refine pq_le (nI_toInt (by omega)) (nI_toInt (by omega)) (fun q => ?_) (fun q => ?_)
    · rw [List.drop_eq_nil_of_le (by omega)] at hW
      have hW2 : B = W := by rw [← hW]; exact (List.append_nil B).symm
      subst hW2
      refine pq_t rfl ?_
      unfold mX9_escapes_b169
      exact pq_ret ⟨σ1, by rw [hB.1], hB, hF⟩
    have hi' : i < t.length := by omega
    rw [dr_st hi'] at hW
    have hW : B ++ (escC k (fi && decide (i = 0)) (t.getD i 0) ++ escL k false (t.drop (i + 1))) = W := hW
    rw [← List.append_assoc] at hW
    have rc : rGa σ1 r (nI i) = t.getD i 0 := by rw [rd_nI (by omega), hF.1 r hro]; exact hL i hi'
    have nxt : ∀ y, PO9 σ1 o (B ++ escC k (fi && decide (i = 0)) (t.getD i 0)) y → PQ (mX9_escapes_b150 (fun v1 v2 v3 v4 v5 v6 v7 v8 σ => mX9_escapes_l47 d v1 v2 v3 v4 v5 v6 v7 v8 σ) k v2 (bI fi) r (nI t.length) o 0 (nI i) y.2) (PE9 σ o W) := fun y hy => by
      obtain ⟨σ2, rfl, h1, h2⟩ := hy
      unfold mX9_escapes_b150
      rw [nI_1]
      refine ih (i + 1) σ2 _ (by omega) (frx_tr hF h2) h1 ?_
      rw [show decide (i + 1 = 0) = false from decide_eq_false (by omega), Bool.and_false]
      exact hW
    rw [rc]
    rcases hk with rfl | rfl | rfl
    · have eb := r_escB (k := 0) (c := t.getD i 0) (fi := fi && decide (i = 0)) (Or.inl rfl) ho hB
      have e101 : ∀ s4 : Int32, s4 = bI (fi && decide (i = 0)) → PQ (mX9_escapes_b101 (fun v1 v2 v3 v4 v5 v6 v7 v8 σ => mX9_escapes_l47 d v1 v2 v3 v4 v5 v6 v7 v8 σ) 0 v2 (bI fi) r (nI t.length) o 0 (nI i) 0 o (t.getD i 0) s4 σ1) (PE9 σ o W) := fun s4 hs => by
        rw [hs]
        exact pq_call eb nxt
      refine pq_f (show ¬ (0 : Int32) = 2 by decide) (pq_f (show ¬ (0 : Int32) = 1 by decide) (pq_ck ?_))
      cases fi with
      | false => exact pq_t rfl (e101 0 rfl)
      | true =>
        refine pq_f (show ¬ (1 : Int32) = 0 by decide) (pq_eqi (nI_toInt (by omega)) kt_0 (fun q1 => e101 1 ?_) (fun q1 => e101 0 ?_))
        · rw [decide_eq_true (show i = 0 by have := q1; omega)]; rfl
        · rw [decide_eq_false (show ¬ i = 0 from fun z => q1 (by rw [z]; rfl))]; rfl
    · exact pq_t rfl (pq_ck (pq_call (r_escM ho hB) nxt))
    · have eb := r_escB (k := 3) (c := t.getD i 0) (fi := fi && decide (i = 0)) (Or.inr rfl) ho hB
      have e101 : ∀ s4 : Int32, s4 = bI (fi && decide (i = 0)) → PQ (mX9_escapes_b101 (fun v1 v2 v3 v4 v5 v6 v7 v8 σ => mX9_escapes_l47 d v1 v2 v3 v4 v5 v6 v7 v8 σ) 3 v2 (bI fi) r (nI t.length) o 0 (nI i) 3 o (t.getD i 0) s4 σ1) (PE9 σ o W) := fun s4 hs => by
        rw [hs]
        exact pq_call eb nxt
      refine pq_f (show ¬ (3 : Int32) = 2 by decide) (pq_f (show ¬ (3 : Int32) = 1 by decide) (pq_ck ?_))
      cases fi with
      | false => exact pq_t rfl (e101 0 rfl)
      | true =>
        refine pq_f (show ¬ (1 : Int32) = 0 by decide) (pq_eqi (nI_toInt (by omega)) kt_0 (fun q1 => e101 1 ?_) (fun q1 => e101 0 ?_))
        · rw [decide_eq_true (show i = 0 by have := q1; omega)]; rfl
        · rw [decide_eq_false (show ¬ i = 0 from fun z => q1 (by rw [z]; rfl))]; rfl
theorem r_escT {v3 : Int32} {q w : Bool} (ho : rLen o = 1400) (hro : r ≠ o) (hL : RLs σ r t) (h6 : t.length ≤ 1400) {W : BL} : ∀ (d i : Nat) (σ1 : RS9) (B : BL), i ≤ t.length → FRX (fun k => k = o) F56 σ σ1 → EO9 σ1 o B → (B ++ (if (q || w) = true then escL 1 false (t.drop i) else t.drop i)) ++ (if w = true then [34] else []) = W → PQ (mX9_escapes_l47 d 1 (bI q) v3 r (nI t.length) o (bI w) (nI i) σ1) (PE9 σ o W) := by
  intro d
  induction d with
  | zero => intro i σ1 B _ _ _ _; exact pq_none
  | succ d ih =>
    intro i σ1 B hi hF hB hW
    unfold mX9_escapes_l47
    refine pq_le (nI_toInt (by omega)) (nI_toInt (by omega)) (fun q1 => ?_) (fun q1 => ?_)
    · rw [List.drop_eq_nil_of_le (by omega)] at hW
      have e0 : (if (q || w) = true then escL 1 false [] else ([] : BL)) = [] := by split <;> rfl
      rw [e0, List.append_nil] at hW
      unfold mX9_escapes_b169
      cases w with
      | false =>
        have hW2 : B = W := by rw [← hW]; exact (List.append_nil B).symm
        subst hW2
        exact pq_t rfl (pq_ret ⟨σ1, by rw [hB.1], hB, hF⟩)
      | true =>
        have hW2 : B ++ [34] = W := hW
        subst hW2
        refine pq_f (show ¬ (1 : Int32) = 0 by decide) (pq_call (r_plain ho hB) (fun y hy => ?_))
        obtain ⟨σ2, rfl, h1, h2⟩ := hy
        exact pq_ret ⟨σ2, by show (σ2.1 56, σ2) = _; rw [h1.1], h1, frx_tr hF h2⟩
    have hi' : i < t.length := by omega
    rw [dr_st hi'] at hW
    have rc : rGa σ1 r (nI i) = t.getD i 0 := by rw [rd_nI (by omega), hF.1 r hro]; exact hL i hi'
    have nxt : ∀ X : BL, (B ++ X ++ (if (q || w) = true then escL 1 false (t.drop (i + 1)) else t.drop (i + 1))) ++ (if w = true then [34] else []) = W → ∀ y, PO9 σ1 o (B ++ X) y → PQ (mX9_escapes_b150 (fun v1 v2 v3 v4 v5 v6 v7 v8 σ => mX9_escapes_l47 d v1 v2 v3 v4 v5 v6 v7 v8 σ) 1 (bI q) v3 r (nI t.length) o (bI w) (nI i) y.2) (PE9 σ o W) := fun X hX y hy => by
      obtain ⟨σ2, rfl, h1, h2⟩ := hy
      unfold mX9_escapes_b150
      rw [nI_1]
      exact ih (i + 1) σ2 _ (by omega) (frx_tr hF h2) h1 hX
    refine pq_f (show ¬ (1 : Int32) = 2 by decide) (pq_t rfl ?_)
    have b139 : (B ++ [t.getD i 0] ++ (if (q || w) = true then escL 1 false (t.drop (i + 1)) else t.drop (i + 1))) ++ (if w = true then [34] else []) = W → PQ (mX9_escapes_b139 (fun v1 v2 v3 v4 v5 v6 v7 v8 σ => mX9_escapes_l47 d v1 v2 v3 v4 v5 v6 v7 v8 σ) 1 (bI q) v3 r (nI t.length) o (bI w) (nI i) σ1) (PE9 σ o W) := fun hX => by
      unfold mX9_escapes_b139
      rw [rc]
      exact pq_ck (pq_call (r_plain ho hB) (nxt _ hX))
    have b116 : (q || w) = true → PQ (mX9_escapes_b116 (fun v1 v2 v3 v4 v5 v6 v7 v8 σ => mX9_escapes_l47 d v1 v2 v3 v4 v5 v6 v7 v8 σ) 1 (bI q) v3 r (nI t.length) o (bI w) (nI i) σ1) (PE9 σ o W) := fun hqw => by
      rw [if_pos hqw] at hW
      have hW : (B ++ (escC 1 false (t.getD i 0) ++ escL 1 false (t.drop (i + 1)))) ++ (if w = true then [34] else []) = W := hW
      rw [esc1, ← List.append_assoc B] at hW
      unfold mX9_escapes_b116
      rw [rc]
      refine pq_ck (pq_eq (fun q2 => ?_) (fun q2 => ?_))
      · rw [if_pos q2] at hW
        exact pq_call (r_puts ho hB) (nxt _ (by rw [if_pos hqw]; exact hW))
      · rw [if_neg q2] at hW
        exact b139 (by rw [if_pos hqw]; exact hW)
    cases q with
    | true => exact pq_f (show ¬ (1 : Int32) = 0 by decide) (b116 rfl)
    | false =>
      refine pq_t rfl ?_
      cases w with
      | true => exact pq_f (show ¬ (1 : Int32) = 0 by decide) (b116 rfl)
      | false =>
        refine pq_t rfl (b139 ?_)
        have hW : (B ++ (t.getD i 0 :: t.drop (i + 1))) ++ [] = W := hW
        show (B ++ [t.getD i 0] ++ t.drop (i + 1)) ++ [] = W
        rw [← hW, List.append_assoc B]; rfl
theorem r_escapes {k : Int32} {q fi : Bool} (hk : k = 0 ∨ k = 1 ∨ k = 2 ∨ k = 3) (ho : rLen o = 1400) (hro : r ≠ o) (hL : RLs σ r t) (h6 : t.length ≤ 1400) : PQ (mX9_escapes k (bI q) (bI fi) r (nI t.length) o σ) (PE9 σ o (esc k q fi t)) := by
  have hL0 : RLs (rSf σ 56 0) r t := hL
  have hB0 : EO9 (rSf σ 56 0) o [] := ⟨sf_eq, fun i hi => absurd hi (Nat.not_lt_zero _), Nat.zero_le _⟩
  have up : ∀ {W : BL} {y : Int32 × RS9}, PE9 (rSf σ 56 0) o W y → PE9 σ o W y := fun h => by
    obtain ⟨σ', h1, h2, h3⟩ := h
    exact ⟨σ', h1, h2, frx_tr (show FRX (fun k => k = o) F56 σ (rSf σ 56 0) from ⟨fun _ _ => rfl, fun k hk => sf_ne hk⟩) h3⟩
  unfold mX9_escapes
  by_cases h1 : k = 1
  · subst h1
    refine pq_t rfl ?_
    have b29 : ∀ w : Bool, (w = true → q = false) → PE9 (rSf σ 56 0) o (if q = true then escL 1 fi t else if w = true then 34 :: (escL 1 fi t ++ [34]) else t) = PE9 (rSf σ 56 0) o (esc 1 q fi t) → PQ (mX9_escapes_b29 1 (bI q) (bI fi) r (nI t.length) o (bI w) (rSf σ 56 0)) (PE9 σ o (esc 1 q fi t)) := fun w hw he => by
      refine pq_tail (Q1 := PE9 (rSf σ 56 0) o (esc 1 q fi t)) ?_ (fun y hy => up hy)
      rw [← he]
      unfold mX9_escapes_b29 mX9_escapes_b44
      cases w with
      | false =>
        refine pq_t rfl (r_escT (q := q) (w := false) ho hro hL0 h6 rFU 0 _ [] (Nat.zero_le _) frx_rfl hB0 ?_)
        rw [Bool.or_false, List.drop_zero, escL1 (fi := fi)]
        show ([] ++ _) ++ ([] : BL) = _
        rw [List.append_nil, List.nil_append]
        cases q <;> rfl
      | true =>
        have hq := hw rfl
        subst hq
        refine pq_f (show ¬ (1 : Int32) = 0 by decide) (pq_call (r_plain ho hB0) (fun y hy => ?_))
        obtain ⟨σ2, rfl, g1, g2⟩ := hy
        refine r_escT (q := false) (w := true) ho hro hL0 h6 rFU 0 σ2 _ (Nat.zero_le _) g2 g1 ?_
        rw [List.drop_zero, escL1 (fi := fi)]; rfl
    cases q with
    | true => exact pq_f (show ¬ (1 : Int32) = 0 by decide) (b29 false (fun h => by cases h) rfl)
    | false =>
      refine pq_t rfl (pq_isr (r_hasSign hL0 h6) ?_)
      cases hs : sg t with
      | false =>
        refine pq_t rfl (b29 false (fun h => by cases h) ?_)
        unfold esc
        rw [hs]; rfl
      | true =>
        refine pq_f (show ¬ (1 : Int32) = 0 by decide) (b29 true (fun _ => rfl) ?_)
        unfold esc
        rw [hs]; rfl
  · refine pq_f h1 ?_
    have hk3 : k = 0 ∨ k = 2 ∨ k = 3 := by
      rcases hk with h | h | h | h
      · exact Or.inl h
      · exact absurd h h1
      · exact Or.inr (Or.inl h)
      · exact Or.inr (Or.inr h)
    have e : esc k q fi t = escL k fi t := if_neg h1
    rw [e]
    unfold mX9_escapes_b28 mX9_escapes_b29 mX9_escapes_b44
    refine pq_t rfl (pq_tail (r_escN (fi := fi) hk3 ho hro hL0 h6 rFU 0 _ [] (Nat.zero_le _) frx_rfl hB0 ?_) (fun y hy => up hy))
    rw [decide_eq_true rfl, Bool.and_true, List.drop_zero]; rfl
end REL
