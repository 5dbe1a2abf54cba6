/-! escapes -/
def escC (k : Int32) (fi : Bool) (c : Int32) : BL := if k = 0 then (if c = 10 then [92, 110] else if c = 9 then [92, 116] else if c = 92 then [92, 92] else if c = 32 ∧ fi = true then [92, 32] else [c]) else if k = 1 then (if c = 34 then [34, 34] else [c]) else if k = 2 then (if c = 60 then [38, 108, 116, 59] else if c = 62 then [38, 103, 116, 59] else if c = 38 then [38, 97, 109, 112, 59] else [c]) else if k = 3 then (if c = 10 then [92, 110] else if c = 9 then [92, 116] else if c = 92 then [92, 92] else if c = 34 then [92, 34] else [c]) else [c]
def escL (k : Int32) (fi : Bool) : BL → BL
  | [] => []
  | c :: t => escC k fi c ++ escL k false t
def esc (k : Int32) (q fi : Bool) (t : BL) : BL := if k = 1 then (if q = true then escL 1 fi t else if sg t = true then 34 :: (escL 1 fi t ++ [34]) else t) else escL k fi t
def mid (cf : CFG) (iq : Bool) (t : BL) : BL := if cf.2.1 = -1 then t else esc cf.2.1 iq true t
/-- what is told for a piece, in the file; none: it cannot be -/
def escFor (cf : CFG) (x : Pc) (t : BL) : Option BL := if cf.2.1 ≠ -1 ∧ cf.1 = 1 ∧ x.2.2.1 = false ∧ sg (mid cf x.2.2.2.1 t) = true then none else some (esc cf.1 x.2.2.1 x.2.2.2.2.1 (mid cf x.2.2.2.1 t))
/-! how long they get -/
def wc (k c : Int32) : Nat := if k = 0 then (if c = 10 ∨ c = 9 ∨ c = 92 ∨ c = 32 then 2 else 1) else if k = 1 then (if c = 34 then 2 else 1) else if k = 2 then (if c = 60 ∨ c = 62 then 4 else if c = 38 then 5 else 1) else if k = 3 then (if c = 10 ∨ c = 9 ∨ c = 92 ∨ c = 34 then 2 else 1) else 1
def sW (k : Int32) : BL → Nat
  | [] => 0
  | c :: t => wc k c + sW k t
theorem sW_app {k : Int32} {a b : BL} : sW k (a ++ b) = sW k a + sW k b := by
  induction a with
  | nil => show sW k b = 0 + sW k b; omega
  | cons c a ih => show wc k c + sW k (a ++ b) = wc k c + sW k a + sW k b; rw [ih]; omega
theorem escC_len {k c : Int32} {fi : Bool} : (escC k fi c).length ≤ wc k c := by
  unfold escC wc
  by_cases k0 : k = 0
  · rw [if_pos k0, if_pos k0]
    by_cases c1 : c = 10
    · rw [if_pos c1, if_pos (Or.inl c1)]; decide
    · rw [if_neg c1]
      by_cases c2 : c = 9
      · rw [if_pos c2, if_pos (Or.inr (Or.inl c2))]; decide
      · rw [if_neg c2]
        by_cases c3 : c = 92
        · rw [if_pos c3, if_pos (Or.inr (Or.inr (Or.inl c3)))]; decide
        · rw [if_neg c3]
          by_cases c4 : c = 32
          · rw [if_pos (Or.inr (Or.inr (Or.inr c4)))]
            split
            · decide
            · exact Nat.le_succ _
          · rw [if_neg (fun x => c4 x.1)]
            split
            · exact Nat.le_succ _
            · exact Nat.le_refl _
  · rw [if_neg k0, if_neg k0]
    by_cases k1 : k = 1
    · rw [if_pos k1, if_pos k1]
      split
      · decide
      · exact Nat.le_refl _
    · rw [if_neg k1, if_neg k1]
      by_cases k2 : k = 2
      · rw [if_pos k2, if_pos k2]
        by_cases c1 : c = 60
        · rw [if_pos c1, if_pos (Or.inl c1)]; decide
        · rw [if_neg c1]
          by_cases c2 : c = 62
          · rw [if_pos c2, if_pos (Or.inr c2)]; decide
          · rw [if_neg c2, if_neg (show ¬ (c = 60 ∨ c = 62) from fun x => x.elim c1 c2)]
            split
            · decide
            · exact Nat.le_refl _
      · rw [if_neg k2, if_neg k2]
        by_cases k3 : k = 3
        · rw [if_pos k3, if_pos k3]
          by_cases c1 : c = 10
          · rw [if_pos c1, if_pos (Or.inl c1)]; decide
          · rw [if_neg c1]
            by_cases c2 : c = 9
            · rw [if_pos c2, if_pos (Or.inr (Or.inl c2))]; decide
            · rw [if_neg c2]
              by_cases c3 : c = 92
              · rw [if_pos c3, if_pos (Or.inr (Or.inr (Or.inl c3)))]; decide
              · rw [if_neg c3]
                by_cases c4 : c = 34
                · rw [if_pos c4, if_pos (Or.inr (Or.inr (Or.inr c4)))]; decide
                · rw [if_neg c4]
                  split
                  · exact Nat.le_succ _
                  · exact Nat.le_refl _
        · rw [if_neg k3, if_neg k3]; exact Nat.le_refl _
theorem escL_len {k : Int32} : ∀ {fi : Bool} {t : BL}, (escL k fi t).length ≤ sW k t := by
  intro fi t
  induction t generalizing fi with
  | nil => exact Nat.le_refl _
  | cons c t ih =>
    show (escC k fi c ++ escL k false t).length ≤ wc k c + sW k t
    rw [List.length_append]
    have h1 := escC_len (k := k) (c := c) (fi := fi)
    have h2 := ih (fi := false)
    omega
theorem wc_5 {k c : Int32} : wc k c ≤ 5 := by
  unfold wc
  (repeat' split) <;> omega
theorem wc_2 {k c : Int32} (h : k ≠ 2) : wc k c ≤ 2 := by
  unfold wc
  rw [if_neg h]
  (repeat' split) <;> omega
theorem wc_34 {k : Int32} : wc k 34 ≤ 2 := by
  unfold wc
  split
  · split <;> omega
  · split
    · split <;> omega
    · split
      · rw [if_neg (by decide), if_neg (by decide)]; omega
      · split
        · split <;> omega
        · omega
theorem wc_1 {k c : Int32} (h : c ≠ 10 ∧ c ≠ 9 ∧ c ≠ 92 ∧ c ≠ 32 ∧ c ≠ 34 ∧ c ≠ 60 ∧ c ≠ 62 ∧ c ≠ 38) : wc k c = 1 := by
  obtain ⟨h1, h2, h3, h4, h5, h6, h7, h8⟩ := h
  have a : ¬ (c = 10 ∨ c = 9 ∨ c = 92 ∨ c = 32) := fun x => x.elim h1 (fun x => x.elim h2 (fun x => x.elim h3 h4))
  have b : ¬ (c = 60 ∨ c = 62) := fun x => x.elim h6 h7
  have d : ¬ (c = 10 ∨ c = 9 ∨ c = 92 ∨ c = 34) := fun x => x.elim h1 (fun x => x.elim h2 (fun x => x.elim h3 h5))
  unfold wc
  rw [if_neg a, if_neg h5, if_neg b, if_neg h8, if_neg d]
  (repeat' split) <;> rfl
theorem escC_w {k1 k2 c : Int32} {fi : Bool} : sW k2 (escC k1 fi c) ≤ 9 ∧ (k1 ≠ 2 → sW k2 (escC k1 fi c) ≤ 5) ∧ (k2 ≠ 2 → sW k2 (escC k1 fi c) ≤ 6) := by
  have one : sW k2 [c] ≤ 9 ∧ (k1 ≠ 2 → sW k2 [c] ≤ 5) ∧ (k2 ≠ 2 → sW k2 [c] ≤ 6) := by
    have := wc_5 (k := k2) (c := c)
    have e : sW k2 [c] = wc k2 c := Nat.add_zero _
    rw [e]; omega
  have h92 : wc k2 92 ≤ 2 := by
    unfold wc
    split
    · split <;> omega
    · split
      · split <;> omega
      · split
        · rw [if_neg (by decide), if_neg (by decide)]; omega
        · split
          · split <;> omega
          · omega
  have two : ∀ x : Int32, wc k2 x ≤ 2 → sW k2 [92, x] ≤ 9 ∧ (k1 ≠ 2 → sW k2 [92, x] ≤ 5) ∧ (k2 ≠ 2 → sW k2 [92, x] ≤ 6) := by
    intro x hx
    have e : sW k2 [92, x] = wc k2 92 + (wc k2 x + 0) := rfl
    rw [e]; omega
  have h110 : wc k2 110 ≤ 2 := by rw [wc_1 (by decide)]; omega
  have h116 : wc k2 116 ≤ 2 := by rw [wc_1 (by decide)]; omega
  have h32 : wc k2 32 ≤ 2 := by
    unfold wc
    split
    · split <;> omega
    · split
      · split <;> omega
      · split
        · rw [if_neg (by decide), if_neg (by decide)]; omega
        · split
          · split <;> omega
          · omega
  have h38 := wc_5 (k := k2) (c := 38)
  have h38b : k2 ≠ 2 → wc k2 38 ≤ 2 := fun h => wc_2 h
  unfold escC
  split
  · split
    · exact two _ h110
    · split
      · exact two _ h116
      · split
        · exact two _ h92
        · split
          · exact two _ h32
          · exact one
  · split
    · split
      · have e : sW k2 [34, 34] = wc k2 34 + (wc k2 34 + 0) := rfl
        have := wc_34 (k := k2)
        rw [e]; omega
      · exact one
    · split
      · rename_i hk
        have n2 : ∀ p : Prop, (k1 ≠ 2 → p) := fun p h => absurd hk h
        split
        · have e : sW k2 [38, 108, 116, 59] = wc k2 38 + (wc k2 108 + (wc k2 116 + (wc k2 59 + 0))) := rfl
          rw [e, wc_1 (c := 108) (by decide), wc_1 (c := 116) (by decide), wc_1 (c := 59) (by decide)]
          exact ⟨by omega, n2 _, fun h => by have := h38b h; omega⟩
        · split
          · have e : sW k2 [38, 103, 116, 59] = wc k2 38 + (wc k2 103 + (wc k2 116 + (wc k2 59 + 0))) := rfl
            rw [e, wc_1 (c := 103) (by decide), wc_1 (c := 116) (by decide), wc_1 (c := 59) (by decide)]
            exact ⟨by omega, n2 _, fun h => by have := h38b h; omega⟩
          · split
            · have e : sW k2 [38, 97, 109, 112, 59] = wc k2 38 + (wc k2 97 + (wc k2 109 + (wc k2 112 + (wc k2 59 + 0)))) := rfl
              rw [e, wc_1 (c := 97) (by decide), wc_1 (c := 109) (by decide), wc_1 (c := 112) (by decide), wc_1 (c := 59) (by decide)]
              exact ⟨by omega, n2 _, fun h => by have := h38b h; omega⟩
            · exact one
      · split
        · split
          · exact two _ h110
          · split
            · exact two _ h116
            · split
              · exact two _ h92
              · split
                · exact two _ (wc_34)
                · exact one
        · exact one
theorem escL_w {k1 k2 : Int32} : ∀ {fi : Bool} {t : BL}, sW k2 (escL k1 fi t) ≤ 9 * t.length ∧ (k1 ≠ 2 → sW k2 (escL k1 fi t) ≤ 5 * t.length) ∧ (k2 ≠ 2 → sW k2 (escL k1 fi t) ≤ 6 * t.length) := by
  intro fi t
  induction t generalizing fi with
  | nil => exact ⟨Nat.le_refl _, fun _ => Nat.le_refl _, fun _ => Nat.le_refl _⟩
  | cons c t ih =>
    have h1 := escC_w (k1 := k1) (k2 := k2) (c := c) (fi := fi)
    have h2 := ih (fi := false)
    have e : sW k2 (escL k1 fi (c :: t)) = sW k2 (escC k1 fi c) + sW k2 (escL k1 false t) := sW_app
    rw [e, List.length_cons]
    exact ⟨by omega, fun h => by have := h1.2.1 h; have := h2.2.1 h; omega, fun h => by have := h1.2.2 h; have := h2.2.2 h; omega⟩
theorem sW_5 {k : Int32} {t : BL} : sW k t ≤ 5 * t.length ∧ t.length ≤ sW k t := by
  induction t with
  | nil => exact ⟨Nat.le_refl _, Nat.le_refl _⟩
  | cons c t ih =>
    have h1 := wc_5 (k := k) (c := c)
    have h2 : 1 ≤ wc k c := by
      unfold wc
      (repeat' split) <;> omega
    rw [List.length_cons]
    show wc k c + sW k t ≤ _ ∧ _ ≤ wc k c + sW k t
    omega
/-- the row in the middle, and what its escapes weigh -/
theorem mid_w {cf : CFG} {iq : Bool} {t : BL} {k : Int32} (h : t.length ≤ 60) : (mid cf iq t).length ≤ 302 ∧ sW k (mid cf iq t) ≤ 540 ∧ (k ≠ 2 → sW k (mid cf iq t) ≤ 400) := by
  have h5 := sW_5 (k := k) (t := t)
  unfold mid
  split
  · exact ⟨by omega, by omega, fun h => by omega⟩
  · unfold esc
    have hl := escL_len (k := cf.2.1) (fi := true) (t := t)
    have h5b := sW_5 (k := cf.2.1) (t := t)
    have hw := escL_w (k1 := cf.2.1) (k2 := k) (fi := true) (t := t)
    split
    · have hl1 := escL_len (k := 1) (fi := true) (t := t)
      have hw1 := escL_w (k1 := 1) (k2 := k) (fi := true) (t := t)
      have h51 := sW_5 (k := 1) (t := t)
      have hw2 := hw1.2.1 (by decide)
      split
      · exact ⟨by omega, by omega, fun h => by have := hw1.2.2 h; omega⟩
      · split
        · have e : sW k (34 :: (escL 1 true t ++ [34])) = wc k 34 + (sW k (escL 1 true t) + (wc k 34 + 0)) := by
            show wc k 34 + sW k (escL 1 true t ++ [34]) = _
            rw [sW_app]; rfl
          have h34 := wc_34 (k := k)
          rw [e, List.length_cons, List.length_append]
          show (escL 1 true t).length + 1 + 1 ≤ 302 ∧ _
          exact ⟨by omega, by omega, fun h => by have := hw1.2.2 h; omega⟩
        · exact ⟨by omega, by omega, fun h => by omega⟩
    · exact ⟨by omega, by omega, fun h => by have := hw.2.2 h; omega⟩
