/-! what a kind finds in a row: from, to, quoted, where its key begins, how long that is -/
abbrev CI : Type := Nat × Nat × Bool × Nat × Nat
def lnE (L : BL) (a : Nat) : Nat := nx (bEq 10) L a L.length
def lnS (L : BL) (a : Nat) : Nat := nx (bEq 61) L a (lnE L a)
def lnK (L : BL) (a : Nat) : Nat := nx (bNe 32) L a (lnE L a)
def lnV (L : BL) (a : Nat) : Nat := nx (bNe 32) L (lnS L a + 1) (lnE L a)
def lnM (L : BL) (a : Nat) : Nat := bkn (bEq 32) L (lnK L a) (lnS L a) - lnK L a
def stL (L : BL) (a : Nat) : Option CI × Nat := (if lnS L a = lnE L a ∨ L.getD (lnK L a) 0 = 35 ∨ lnE L a ≤ lnV L a then none else some (lnV L a, lnE L a, false, lnK L a, lnM L a), lnE L a + 1)
def stT (L : BL) (a : Nat) : Option CI × Nat := if L.getD a 0 = 34 then (if a + 1 < qe L (a + 1) then some (a + 1, qe L (a + 1), true, 0, 0) else none, (if qe L (a + 1) < L.length then nx bSep L (qe L (a + 1) + 1) L.length else L.length) + 1) else (if a < nx bSep L a L.length then some (a, nx bSep L a L.length, false, 0, 0) else none, nx bSep L a L.length + 1)
def mkS (L : BL) (a : Nat) : Nat := nx (bEq 60) L a L.length
def mkX (L : BL) (a : Nat) : Nat := nx bNb L a (mkS L a)
def mkY (L : BL) (a : Nat) : Nat := bkn bBare L (mkX L a) (mkS L a)
def stM (L : BL) (a : Nat) : Option CI × Nat := if L.getD a 0 = 60 then (none, nx (bEq 62) L a L.length + 1) else (if mkX L a < mkY L a then some (mkX L a, mkY L a, false, 0, 0) else none, mkS L a)
def quA (L : BL) (a : Nat) : Nat := nx (bEq 34) L a L.length
def quE (L : BL) (a : Nat) : Nat := qq L (quA L a + 1)
def quW (L : BL) (a : Nat) : Nat := nx bNb L (quE L a + 1) L.length
def stQ (L : BL) (a : Nat) : Option CI × Nat := if quA L a < L.length then (if quA L a + 1 < quE L a ∧ ¬ (quW L a < L.length ∧ L.getD (quW L a) 0 = 58) then some (quA L a + 1, quE L a, false, 0, 0) else none, quE L a + 1) else (none, L.length + 1)
def stepK (k : Int32) (L : BL) (a : Nat) : Option CI × Nat := if k = 0 then stL L a else if k = 1 then stT L a else if k = 2 then stM L a else stQ L a
theorem stepK_gt {k : Int32} {L : BL} {a : Nat} (h : a < L.length) : a < (stepK k L a).2 := by
  unfold stepK
  split
  · have := nx_ge (p := bEq 10) (L := L) (a := a) (b := L.length)
    show a < lnE L a + 1
    unfold lnE; omega
  · split
    · unfold stT
      split
      · show a < (if qe L (a + 1) < L.length then nx bSep L (qe L (a + 1) + 1) L.length else L.length) + 1
        have h1 := qe_ge (L := L) (k := a + 1)
        have h2 := nx_ge (p := bSep) (L := L) (a := qe L (a + 1) + 1) (b := L.length)
        split <;> omega
      · have := nx_ge (p := bSep) (L := L) (a := a) (b := L.length)
        show a < nx bSep L a L.length + 1
        omega
    · split
      · unfold stM
        split
        · have := nx_ge (p := bEq 62) (L := L) (a := a) (b := L.length)
          show a < nx (bEq 62) L a L.length + 1
          omega
        · rename_i hq
          show a < nx (bEq 60) L a L.length
          rw [nx_go h (by unfold bEq; exact decide_eq_false hq)]
          have := nx_ge (p := bEq 60) (L := L) (a := a + 1) (b := L.length)
          omega
      · unfold stQ
        have h1 := nx_ge (p := bEq 34) (L := L) (a := a) (b := L.length)
        have h2 := qq_ge (L := L) (k := quA L a + 1)
        split
        · show a < quE L a + 1
          unfold quE
          unfold quA at h2 ⊢
          omega
        · show a < L.length + 1
          omega
theorem stepK_b {k : Int32} {L : BL} {a : Nat} (h : a < L.length) {c : CI} (e : (stepK k L a).1 = some c) : a ≤ c.1 ∧ c.1 < c.2.1 ∧ c.2.1 ≤ L.length ∧ c.2.1 ≤ (stepK k L a).2 := by
  unfold stepK at e ⊢
  split at e
  · rename_i hk
    rw [if_pos hk]
    unfold stL at e ⊢
    have h1 := nx_le (p := bEq 10) (L := L) (a := a) (b := L.length) (by omega)
    have h2 := nx_ge (p := bEq 61) (L := L) (a := a) (b := lnE L a)
    have h3 := nx_ge (p := bNe 32) (L := L) (a := lnS L a + 1) (b := lnE L a)
    split at e
    · cases e
    · cases e
      rename_i hn
      show a ≤ lnV L a ∧ lnV L a < lnE L a ∧ lnE L a ≤ L.length ∧ lnE L a ≤ lnE L a + 1
      have h4 : ¬ lnE L a ≤ lnV L a := fun q => hn (Or.inr (Or.inr q))
      have h5 : lnS L a + 1 ≤ lnV L a := h3
      have h6 : a ≤ lnS L a := h2
      have h7 : lnE L a ≤ L.length := h1
      omega
  · rename_i hk0
    rw [if_neg hk0]
    split at e
    · rename_i hk
      rw [if_pos hk]
      unfold stT at e ⊢
      have h1 := qe_le (L := L) (k := a + 1) (by omega)
      have h2 := nx_ge (p := bSep) (L := L) (a := qe L (a + 1) + 1) (b := L.length)
      have h3 := nx_le (p := bSep) (L := L) (a := a) (b := L.length) (by omega)
      by_cases hq : L.getD a 0 = 34
      · rw [if_pos hq] at e ⊢
        have e2 : (if a + 1 < qe L (a + 1) then some (a + 1, qe L (a + 1), true, 0, 0) else none) = some c := e
        show _ ∧ _ ∧ _ ∧ c.2.1 ≤ (if qe L (a + 1) < L.length then nx bSep L (qe L (a + 1) + 1) L.length else L.length) + 1
        split at e2
        · cases e2
          show a ≤ a + 1 ∧ a + 1 < qe L (a + 1) ∧ qe L (a + 1) ≤ L.length ∧ qe L (a + 1) ≤ _
          split <;> omega
        · cases e2
      · rw [if_neg hq] at e ⊢
        have e2 : (if a < nx bSep L a L.length then some (a, nx bSep L a L.length, false, 0, 0) else none) = some c := e
        split at e2
        · cases e2
          show a ≤ a ∧ a < nx bSep L a L.length ∧ nx bSep L a L.length ≤ L.length ∧ nx bSep L a L.length ≤ nx bSep L a L.length + 1
          omega
        · cases e2
    · rename_i hk1
      rw [if_neg hk1]
      split at e
      · rename_i hk
        rw [if_pos hk]
        unfold stM at e ⊢
        by_cases hq : L.getD a 0 = 60
        · rw [if_pos hq] at e; cases e
        · rw [if_neg hq] at e ⊢
          have h1 : a ≤ mkX L a := nx_ge
          have h2 : mkY L a ≤ mkS L a := bkn_le _
          have h3 : mkS L a ≤ L.length := nx_le (by omega)
          have e2 : (if mkX L a < mkY L a then some (mkX L a, mkY L a, false, 0, 0) else none) = some c := e
          split at e2
          · cases e2
            show a ≤ mkX L a ∧ mkX L a < mkY L a ∧ mkY L a ≤ L.length ∧ mkY L a ≤ mkS L a
            omega
          · cases e2
      · rename_i hk
        rw [if_neg hk]
        unfold stQ at e ⊢
        by_cases hq : quA L a < L.length
        · rw [if_pos hq] at e ⊢
          have h1 : a ≤ quA L a := nx_ge
          have h2 : quE L a ≤ L.length := qq_le (by omega)
          have e2 : (if quA L a + 1 < quE L a ∧ ¬ (quW L a < L.length ∧ L.getD (quW L a) 0 = 58) then some (quA L a + 1, quE L a, false, 0, 0) else none) = some c := e
          split at e2
          · cases e2
            rename_i hc
            show a ≤ quA L a + 1 ∧ quA L a + 1 < quE L a ∧ quE L a ≤ L.length ∧ quE L a ≤ quE L a + 1
            omega
          · cases e2
        · rw [if_neg hq] at e; cases e
def cutF (k : Int32) (L : BL) : Nat → Nat → List CI
  | 0, _ => []
  | d + 1, a => if a < L.length then (stepK k L a).1.toList ++ cutF k L d (stepK k L a).2 else []
def cutL (k : Int32) (L : BL) (a : Nat) : List CI := cutF k L (L.length - a) a
theorem cutF_ir {k : Int32} {L : BL} : ∀ d a e, L.length - a ≤ d → L.length - a ≤ e → cutF k L d a = cutF k L e a := by
  intro d
  induction d with
  | zero =>
    intro a e h1 h2
    cases e with
    | zero => rfl
    | succ e =>
      unfold cutF
      rw [if_neg (by omega)]
  | succ d ih =>
    intro a e h1 h2
    cases e with
    | zero =>
      unfold cutF
      rw [if_neg (by omega)]
    | succ e =>
      unfold cutF
      split
      · rename_i h
        have := stepK_gt (k := k) h
        rw [ih (stepK k L a).2 e (by omega) (by omega)]
      · rfl
theorem cutL_end {k : Int32} {L : BL} {a : Nat} (h : L.length ≤ a) : cutL k L a = [] := by
  unfold cutL
  rw [show L.length - a = 0 by omega]; rfl
theorem cutL_st {k : Int32} {L : BL} {a : Nat} (h : a < L.length) : cutL k L a = (stepK k L a).1.toList ++ cutL k L (stepK k L a).2 := by
  unfold cutL
  obtain ⟨d, hd⟩ : ∃ d, L.length - a = d + 1 := ⟨L.length - a - 1, by omega⟩
  rw [hd]
  conv => lhs; unfold cutF
  rw [if_pos h]
  have := stepK_gt (k := k) h
  rw [cutF_ir d _ (L.length - (stepK k L a).2) (by omega) (by omega)]
theorem cutL_b {k : Int32} {L : BL} : ∀ (d a : Nat), L.length - a ≤ d → ∀ c ∈ cutL k L a, a ≤ c.1 ∧ c.1 < c.2.1 ∧ c.2.1 ≤ L.length := by
  intro d
  induction d with
  | zero => intro a h c hc; rw [cutL_end (by omega)] at hc; cases hc
  | succ d ih =>
    intro a h c hc
    by_cases ha : a < L.length
    · rw [cutL_st ha] at hc
      have hg := stepK_gt (k := k) ha
      rcases List.mem_append.mp hc with hc | hc
      · have e : (stepK k L a).1 = some c := by
          cases e1 : (stepK k L a).1 with
          | none => rw [e1] at hc; cases hc
          | some c' => rw [e1] at hc; rw [List.mem_singleton.mp (show c ∈ [c'] from hc)]
        have := stepK_b ha e
        omega
      · have := ih (stepK k L a).2 (by omega) c hc
        omega
    · rw [cutL_end (by omega)] at hc; cases hc
/-! what bytes mean, and how many mean it -/
def bkM (k c : Int32) : Int32 × Nat := if c = 110 then (10, 2) else if c = 116 then (9, 2) else if c = 92 then (92, 2) else if c = 32 ∧ k = 0 then (32, 2) else if c = 34 ∧ k = 3 then (34, 2) else (92, 1)
def mkM (L : BL) (i b : Nat) : Int32 × Nat := if L.getD i 0 = 38 then (if i + 4 ≤ b ∧ L.getD (i + 1) 0 = 108 ∧ L.getD (i + 2) 0 = 116 ∧ L.getD (i + 3) 0 = 59 then (60, 4) else if i + 4 ≤ b ∧ L.getD (i + 1) 0 = 103 ∧ L.getD (i + 2) 0 = 116 ∧ L.getD (i + 3) 0 = 59 then (62, 4) else if i + 5 ≤ b ∧ L.getD (i + 1) 0 = 97 ∧ L.getD (i + 2) 0 = 109 ∧ L.getD (i + 3) 0 = 112 ∧ L.getD (i + 4) 0 = 59 then (38, 5) else (38, 1)) else (L.getD i 0, 1)
def mw (k : Int32) (q : Bool) (L : BL) (i b : Nat) : Int32 × Nat := if k = 1 then (L.getD i 0, if q = true ∧ L.getD i 0 = 34 ∧ i + 1 < b ∧ L.getD (i + 1) 0 = 34 then 2 else 1) else if k = 2 then mkM L i b else if L.getD i 0 = 92 ∧ i + 1 < b then bkM k (L.getD (i + 1) 0) else (L.getD i 0, 1)
theorem mw_b {k : Int32} {q : Bool} {L : BL} {i b : Nat} (h : i < b) : 1 ≤ (mw k q L i b).2 ∧ i + (mw k q L i b).2 ≤ b ∧ (mw k q L i b).2 ≤ 5 := by
  unfold mw
  split
  · show 1 ≤ (if _ then 2 else 1) ∧ _
    split <;> omega
  · split
    · unfold mkM
      split
      · split
        · show 1 ≤ 4 ∧ i + 4 ≤ b ∧ 4 ≤ 5; omega
        · split
          · show 1 ≤ 4 ∧ i + 4 ≤ b ∧ 4 ≤ 5; omega
          · split
            · show 1 ≤ 5 ∧ i + 5 ≤ b ∧ 5 ≤ 5; omega
            · show 1 ≤ 1 ∧ i + 1 ≤ b ∧ 1 ≤ 5; omega
      · show 1 ≤ 1 ∧ i + 1 ≤ b ∧ 1 ≤ 5; omega
    · split
      · rename_i h2
        unfold bkM
        split
        · show 1 ≤ 2 ∧ i + 2 ≤ b ∧ 2 ≤ 5; omega
        · split
          · show 1 ≤ 2 ∧ i + 2 ≤ b ∧ 2 ≤ 5; omega
          · split
            · show 1 ≤ 2 ∧ i + 2 ≤ b ∧ 2 ≤ 5; omega
            · split
              · show 1 ≤ 2 ∧ i + 2 ≤ b ∧ 2 ≤ 5; omega
              · split
                · show 1 ≤ 2 ∧ i + 2 ≤ b ∧ 2 ≤ 5; omega
                · show 1 ≤ 1 ∧ i + 1 ≤ b ∧ 1 ≤ 5; omega
      · show 1 ≤ 1 ∧ i + 1 ≤ b ∧ 1 ≤ 5; omega
/-- a meaning, where it begins, where it ends -/
abbrev UI : Type := Int32 × Nat × Nat
def undF (k : Int32) (q : Bool) (L : BL) (b : Nat) : Nat → Nat → List UI
  | 0, _ => []
  | d + 1, i => if i < b then ((mw k q L i b).1, i, i + (mw k q L i b).2) :: undF k q L b d (i + (mw k q L i b).2) else []
def und (k : Int32) (q : Bool) (L : BL) (i b : Nat) : List UI := undF k q L b (b - i) i
theorem undF_ir {k : Int32} {q : Bool} {L : BL} {b : Nat} : ∀ d i e, b - i ≤ d → b - i ≤ e → undF k q L b d i = undF k q L b e i := by
  intro d
  induction d with
  | zero =>
    intro i e h1 h2
    cases e with
    | zero => rfl
    | succ e =>
      unfold undF
      rw [if_neg (by omega)]
  | succ d ih =>
    intro i e h1 h2
    cases e with
    | zero =>
      unfold undF
      rw [if_neg (by omega)]
    | succ e =>
      unfold undF
      split
      · rename_i h
        have := mw_b (k := k) (q := q) (L := L) h
        rw [ih (i + (mw k q L i b).2) e (by omega) (by omega)]
      · rfl
theorem und_end {k : Int32} {q : Bool} {L : BL} {i b : Nat} (h : b ≤ i) : und k q L i b = [] := by
  unfold und
  rw [show b - i = 0 by omega]; rfl
theorem und_st {k : Int32} {q : Bool} {L : BL} {i b : Nat} (h : i < b) : und k q L i b = ((mw k q L i b).1, i, i + (mw k q L i b).2) :: und k q L (i + (mw k q L i b).2) b := by
  unfold und
  obtain ⟨d, hd⟩ : ∃ d, b - i = d + 1 := ⟨b - i - 1, by omega⟩
  rw [hd]
  conv => lhs; unfold undF
  rw [if_pos h]
  have := mw_b (k := k) (q := q) (L := L) h
  rw [undF_ir d _ (b - (i + (mw k q L i b).2)) (by omega) (by omega)]
theorem und_len {k : Int32} {q : Bool} {L : BL} {b : Nat} : ∀ d i, b - i ≤ d → (und k q L i b).length ≤ b - i ∧ (i < b → 0 < (und k q L i b).length) := by
  intro d
  induction d with
  | zero => intro i h; rw [und_end (by omega)]; exact ⟨Nat.zero_le _, fun _ => by omega⟩
  | succ d ih =>
    intro i h
    by_cases hi : i < b
    · rw [und_st hi]
      have h1 := mw_b (k := k) (q := q) (L := L) hi
      have h2 := ih (i + (mw k q L i b).2) (by omega)
      exact ⟨by rw [List.length_cons]; omega, fun _ => by rw [List.length_cons]; omega⟩
    · rw [und_end (by omega)]; exact ⟨Nat.zero_le _, fun _ => by omega⟩
