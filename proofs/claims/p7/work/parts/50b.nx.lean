/-! looking along a row of bytes -/
def fnd (p : Int32 → Bool) (L : BL) : Nat → Nat → Nat
  | 0, k => k
  | d + 1, k => if p (L.getD k 0) = true then k else fnd p L d (k + 1)
def nx (p : Int32 → Bool) (L : BL) (a b : Nat) : Nat := fnd p L (b - a) a
theorem nx_end {p : Int32 → Bool} {L : BL} {a b : Nat} (h : b ≤ a) : nx p L a b = a := by
  unfold nx
  rw [show b - a = 0 by omega]; rfl
theorem nx_hit {p : Int32 → Bool} {L : BL} {a b : Nat} (h : a < b) (hp : p (L.getD a 0) = true) : nx p L a b = a := by
  unfold nx
  obtain ⟨d, hd⟩ : ∃ d, b - a = d + 1 := ⟨b - a - 1, by omega⟩
  rw [hd]; exact if_pos hp
theorem nx_go {p : Int32 → Bool} {L : BL} {a b : Nat} (h : a < b) (hp : p (L.getD a 0) = false) : nx p L a b = nx p L (a + 1) b := by
  unfold nx
  obtain ⟨d, hd⟩ : ∃ d, b - a = d + 1 := ⟨b - a - 1, by omega⟩
  rw [hd, show b - (a + 1) = d by omega]
  exact if_neg (by rw [hp]; decide)
theorem nx_all {p : Int32 → Bool} {L : BL} {b : Nat} : ∀ (d a : Nat), b - a = d → a ≤ nx p L a b ∧ (a ≤ b → nx p L a b ≤ b) ∧ (∀ i, a ≤ i → i < nx p L a b → p (L.getD i 0) = false) ∧ (nx p L a b < b → p (L.getD (nx p L a b) 0) = true) := by
  intro d
  induction d with
  | zero => intro a h; rw [nx_end (by omega)]; exact ⟨by omega, by omega, fun i _ _ => by omega, fun _ => by omega⟩
  | succ d ih =>
    intro a h
    cases hp : p (L.getD a 0) with
    | true => rw [nx_hit (by omega) hp]; exact ⟨by omega, by omega, fun i _ _ => by omega, fun _ => hp⟩
    | false =>
      rw [nx_go (by omega) hp]
      obtain ⟨h1, h2, h3, h4⟩ := ih (a + 1) (by omega)
      refine ⟨by omega, fun _ => h2 (by omega), fun i hi hj => ?_, h4⟩
      by_cases e : i = a
      · rw [e]; exact hp
      · exact h3 i (by omega) hj
section NX
variable {p : Int32 → Bool} {L : BL} {a b : Nat}
theorem nx_ge : a ≤ nx p L a b := (nx_all _ a rfl).1
theorem nx_le (h : a ≤ b) : nx p L a b ≤ b := (nx_all _ a rfl).2.1 h
theorem nx_no {i : Nat} (h1 : a ≤ i) (h2 : i < nx p L a b) : p (L.getD i 0) = false := (nx_all _ a rfl).2.2.1 i h1 h2
theorem nx_at (h : nx p L a b < b) : p (L.getD (nx p L a b) 0) = true := (nx_all _ a rfl).2.2.2 h
theorem nx_skip {j : Nat} (h1 : a ≤ j) (h2 : j ≤ b) (h : ∀ i, a ≤ i → i < j → p (L.getD i 0) = false) : nx p L a b = nx p L j b := by
  obtain ⟨d, rfl⟩ : ∃ d, j = a + d := ⟨j - a, by omega⟩
  clear h1
  induction d with
  | zero => rfl
  | succ d ih =>
    rw [ih (by omega) (fun i x y => h i x (by omega)), nx_go (by omega) (h (a + d) (by omega) (by omega))]
    rfl
theorem nx_is {j : Nat} (h1 : a ≤ j) (h2 : j ≤ b) (h : ∀ i, a ≤ i → i < j → p (L.getD i 0) = false) (hj : j < b → p (L.getD j 0) = true) : nx p L a b = j := by
  rw [nx_skip h1 h2 h]
  rcases Nat.lt_or_ge j b with q | q
  · exact nx_hit q (hj q)
  · exact nx_end q
end NX
/-- from behind -/
def bkn (p : Int32 → Bool) (L : BL) (lo : Nat) : Nat → Nat
  | 0 => 0
  | h + 1 => if lo < h + 1 ∧ p (L.getD h 0) = true then bkn p L lo h else h + 1
theorem bkn_le {p : Int32 → Bool} {L : BL} {lo : Nat} : ∀ h, bkn p L lo h ≤ h := by
  intro h
  induction h with
  | zero => exact Nat.le_refl _
  | succ h ih =>
    unfold bkn
    split
    · omega
    · omega
theorem bkn_ge {p : Int32 → Bool} {L : BL} {lo : Nat} : ∀ h, lo ≤ h → lo ≤ bkn p L lo h := by
  intro h
  induction h with
  | zero => intro q; exact q
  | succ h ih =>
    intro q
    unfold bkn
    split
    · exact ih (by omega)
    · omega
theorem bkn_go {p : Int32 → Bool} {L : BL} {lo h : Nat} (h1 : lo < h) (h2 : p (L.getD (h - 1) 0) = true) : bkn p L lo h = bkn p L lo (h - 1) := by
  obtain ⟨k, rfl⟩ : ∃ k, h = k + 1 := ⟨h - 1, by omega⟩
  exact if_pos ⟨h1, h2⟩
theorem bkn_st {p : Int32 → Bool} {L : BL} {lo h : Nat} (h1 : ¬ (lo < h ∧ p (L.getD (h - 1) 0) = true)) : bkn p L lo h = h := by
  cases h with
  | zero => rfl
  | succ k => exact if_neg h1
/-! bytes -/
def bEq (x : Int32) (c : Int32) : Bool := decide (c = x)
def bNe (x : Int32) (c : Int32) : Bool := !decide (c = x)
def bSep (c : Int32) : Bool := decide (c = 44) || decide (c = 10)
def bBare (c : Int32) : Bool := decide (c = 32) || decide (c = 10)
def bNb (c : Int32) : Bool := !(decide (c = 32) || decide (c = 10))
/-- where a quoted cell closes -/
def qeF (L : BL) : Nat → Nat → Nat
  | 0, k => k
  | d + 1, k => if k < L.length then (if L.getD k 0 = 34 then (if k + 1 < L.length ∧ L.getD (k + 1) 0 = 34 then qeF L d (k + 2) else k) else qeF L d (k + 1)) else k
def qe (L : BL) (k : Nat) : Nat := qeF L (L.length - k) k
theorem qeF_ge {L : BL} : ∀ d k, k ≤ qeF L d k := by
  intro d
  induction d with
  | zero => intro k; exact Nat.le_refl _
  | succ d ih =>
    intro k
    unfold qeF
    split
    · split
      · split
        · have := ih (k + 2); omega
        · omega
      · have := ih (k + 1); omega
    · omega
theorem qeF_le {L : BL} : ∀ d k, k ≤ L.length → qeF L d k ≤ L.length := by
  intro d
  induction d with
  | zero => intro k h; exact h
  | succ d ih =>
    intro k h
    unfold qeF
    split
    · split
      · split
        · exact ih (k + 2) (by omega)
        · omega
      · exact ih (k + 1) (by omega)
    · omega
theorem qeF_ir {L : BL} : ∀ d k e, L.length - k ≤ d → L.length - k ≤ e → qeF L d k = qeF L e k := by
  intro d
  induction d with
  | zero =>
    intro k e h1 h2
    cases e with
    | zero => rfl
    | succ e =>
      unfold qeF
      rw [if_neg (by omega)]
  | succ d ih =>
    intro k e h1 h2
    cases e with
    | zero =>
      unfold qeF
      rw [if_neg (by omega)]
    | succ e =>
      unfold qeF
      split
      · split
        · split
          · exact ih (k + 2) e (by omega) (by omega)
          · rfl
        · exact ih (k + 1) e (by omega) (by omega)
      · rfl
theorem qe_ge {L : BL} {k : Nat} : k ≤ qe L k := qeF_ge _ _
theorem qe_le {L : BL} {k : Nat} (h : k ≤ L.length) : qe L k ≤ L.length := qeF_le _ _ h
theorem qe_end {L : BL} {k : Nat} (h : L.length ≤ k) : qe L k = k := by
  unfold qe
  rw [show L.length - k = 0 by omega]; rfl
theorem qe_st {L : BL} {k : Nat} (h : k < L.length) : qe L k = if L.getD k 0 = 34 then (if k + 1 < L.length ∧ L.getD (k + 1) 0 = 34 then qe L (k + 2) else k) else qe L (k + 1) := by
  unfold qe
  obtain ⟨d, hd⟩ : ∃ d, L.length - k = d + 1 := ⟨L.length - k - 1, by omega⟩
  rw [hd]
  conv => lhs; unfold qeF
  rw [if_pos h]
  split
  · split
    · exact qeF_ir d (k + 2) _ (by omega) (by omega)
    · rfl
  · exact qeF_ir d (k + 1) _ (by omega) (by omega)
/-- where quotes close -/
def qqF (L : BL) : Nat → Nat → Nat
  | 0, k => k
  | d + 1, k => if k < L.length then (if L.getD k 0 = 34 then k else if L.getD k 0 = 92 ∧ k + 1 < L.length then qqF L d (k + 2) else qqF L d (k + 1)) else k
def qq (L : BL) (k : Nat) : Nat := qqF L (L.length - k) k
theorem qqF_ge {L : BL} : ∀ d k, k ≤ qqF L d k := by
  intro d
  induction d with
  | zero => intro k; exact Nat.le_refl _
  | succ d ih =>
    intro k
    unfold qqF
    split
    · split
      · omega
      · split
        · have := ih (k + 2); omega
        · have := ih (k + 1); omega
    · omega
theorem qqF_le {L : BL} : ∀ d k, k ≤ L.length → qqF L d k ≤ L.length := by
  intro d
  induction d with
  | zero => intro k h; exact h
  | succ d ih =>
    intro k h
    unfold qqF
    split
    · split
      · omega
      · split
        · exact ih (k + 2) (by omega)
        · exact ih (k + 1) (by omega)
    · omega
theorem qqF_ir {L : BL} : ∀ d k e, L.length - k ≤ d → L.length - k ≤ e → qqF L d k = qqF L e k := by
  intro d
  induction d with
  | zero =>
    intro k e h1 h2
    cases e with
    | zero => rfl
    | succ e =>
      unfold qqF
      rw [if_neg (by omega)]
  | succ d ih =>
    intro k e h1 h2
    cases e with
    | zero =>
      unfold qqF
      rw [if_neg (by omega)]
    | succ e =>
      unfold qqF
      split
      · split
        · rfl
        · split
          · exact ih (k + 2) e (by omega) (by omega)
          · exact ih (k + 1) e (by omega) (by omega)
      · rfl
theorem qq_ge {L : BL} {k : Nat} : k ≤ qq L k := qqF_ge _ _
theorem qq_le {L : BL} {k : Nat} (h : k ≤ L.length) : qq L k ≤ L.length := qqF_le _ _ h
theorem qq_end {L : BL} {k : Nat} (h : L.length ≤ k) : qq L k = k := by
  unfold qq
  rw [show L.length - k = 0 by omega]; rfl
theorem qq_st {L : BL} {k : Nat} (h : k < L.length) : qq L k = if L.getD k 0 = 34 then k else if L.getD k 0 = 92 ∧ k + 1 < L.length then qq L (k + 2) else qq L (k + 1) := by
  unfold qq
  obtain ⟨d, hd⟩ : ∃ d, L.length - k = d + 1 := ⟨L.length - k - 1, by omega⟩
  rw [hd]
  conv => lhs; unfold qqF
  rw [if_pos h]
  split
  · rfl
  · split
    · exact qqF_ir d (k + 2) _ (by omega) (by omega)
    · exact qqF_ir d (k + 1) _ (by omega) (by omega)
