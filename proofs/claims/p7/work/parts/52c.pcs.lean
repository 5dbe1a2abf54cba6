/-! pieces of a row, by kinds and rules -/
abbrev CFG : Type := Int32 × Int32 × Int32 × Nat × List BL
abbrev Pc : Type := Nat × Nat × Bool × Bool × Bool × Nat × Nat × BL × List Nat
def pX (x : Pc) : BL := x.2.2.2.2.2.2.2.1
def pG (x : Pc) : List Nat := x.2.2.2.2.2.2.2.2
def u0 : UI := (0, 0, 0)
theorem und_ch {k : Int32} {q : Bool} {L : BL} {b : Nat} : ∀ d a, b - a ≤ d → ∀ i, i < (und k q L a b).length → a + i ≤ ((und k q L a b).getD i u0).2.1 ∧ ((und k q L a b).getD i u0).2.1 < ((und k q L a b).getD i u0).2.2 ∧ ((und k q L a b).getD i u0).2.2 ≤ b ∧ (i = 0 → ((und k q L a b).getD i u0).2.1 = a) ∧ (i + 1 < (und k q L a b).length → ((und k q L a b).getD i u0).2.2 = ((und k q L a b).getD (i + 1) u0).2.1) ∧ (i + 1 = (und k q L a b).length → ((und k q L a b).getD i u0).2.2 = b) := by
  intro d
  induction d with
  | zero => intro a h i hi; rw [und_end (by omega)] at hi; exact absurd hi (Nat.not_lt_zero _)
  | succ d ih =>
    intro a h i hi
    by_cases ha : a < b
    · have h1 := mw_b (k := k) (q := q) (L := L) ha
      have h2 := ih (a + (mw k q L a b).2) (by omega)
      rw [und_st ha] at hi ⊢
      rw [List.length_cons] at hi ⊢
      cases i with
      | zero =>
        show a + 0 ≤ a ∧ a < a + (mw k q L a b).2 ∧ a + (mw k q L a b).2 ≤ b ∧ (0 = 0 → a = a) ∧ (0 + 1 < (und k q L (a + (mw k q L a b).2) b).length + 1 → a + (mw k q L a b).2 = ((und k q L (a + (mw k q L a b).2) b).getD 0 u0).2.1) ∧ (0 + 1 = (und k q L (a + (mw k q L a b).2) b).length + 1 → a + (mw k q L a b).2 = b)
        refine ⟨by omega, by omega, by omega, fun _ => rfl, fun h3 => ?_, fun h3 => ?_⟩
        · exact ((h2 0 (by omega)).2.2.2.1 rfl).symm
        · have h4 := (und_len (k := k) (q := q) (L := L) (b := b) _ (a + (mw k q L a b).2) (Nat.le_refl _)).2
          rcases Nat.lt_or_ge (a + (mw k q L a b).2) b with h5 | h5
          · have := h4 h5; omega
          · omega
      | succ i =>
        have h3 := h2 i (by omega)
        show a + (i + 1) ≤ ((und k q L (a + (mw k q L a b).2) b).getD i u0).2.1 ∧ ((und k q L (a + (mw k q L a b).2) b).getD i u0).2.1 < ((und k q L (a + (mw k q L a b).2) b).getD i u0).2.2 ∧ ((und k q L (a + (mw k q L a b).2) b).getD i u0).2.2 ≤ b ∧ (i + 1 = 0 → ((und k q L (a + (mw k q L a b).2) b).getD i u0).2.1 = a) ∧ (i + 1 + 1 < (und k q L (a + (mw k q L a b).2) b).length + 1 → ((und k q L (a + (mw k q L a b).2) b).getD i u0).2.2 = ((und k q L (a + (mw k q L a b).2) b).getD (i + 1) u0).2.1) ∧ (i + 1 + 1 = (und k q L (a + (mw k q L a b).2) b).length + 1 → ((und k q L (a + (mw k q L a b).2) b).getD i u0).2.2 = b)
        exact ⟨by omega, h3.2.1, h3.2.2.1, fun h => absurd h (by omega), fun h => h3.2.2.2.2.1 (by omega), fun h => h3.2.2.2.2.2 (by omega)⟩
    · rw [und_end (by omega)] at hi; exact absurd hi (Nat.not_lt_zero _)
def lkd (cf : CFG) (L : BL) (c : CI) : Bool := decide (cf.1 = 0) && cf.2.2.2.2.any (fun w => decide (w.length ≤ c.2.2.2.2) && smF w 0 L c.2.2.2.1 w.length)
def okT (cf : CFG) (t : BL) : Bool := decide (cf.2.2.2.1 ≤ t.length) && (decide (cf.2.2.1 = 0) || t.any isLet)
def tk (cf : CFG) (P : List Pc) (x : Pc) : List Pc := if okT cf (pX x) = true ∧ P.length < 40 then P ++ [x] else P
def pcO (cf : CFG) (L : BL) (c : CI) : Pc := (c.1, c.2.1, c.2.2.1, false, true, c.2.2.2.1, c.2.2.2.2, (und cf.1 c.2.2.1 L c.1 c.2.1).map (fun x => x.1), (und cf.1 c.2.2.1 L c.1 c.2.1).map (fun x => x.2.1))
def pcI (cf : CFG) (c : CI) (u : List UI) (d : CI) : Pc := ((u.getD d.1 u0).2.1, (u.getD (d.2.1 - 1) u0).2.2, c.2.2.1, d.2.2.1, decide (d.1 = 0), c.2.2.2.1, c.2.2.2.2, (und cf.2.1 d.2.2.1 (u.map (fun x => x.1)) d.1 d.2.1).map (fun x => x.1), (und cf.2.1 d.2.2.1 (u.map (fun x => x.1)) d.1 d.2.1).map (fun x => (u.getD x.2.1 u0).2.1))
def uOf (cf : CFG) (L : BL) (c : CI) : List UI := und cf.1 c.2.2.1 L c.1 c.2.1
def pcC (cf : CFG) (L : BL) (c : CI) : List Pc := if cf.2.1 = -1 then [pcO cf L c] else (cutL cf.2.1 ((uOf cf L c).map (fun x => x.1)) 0).map (pcI cf c (uOf cf L c))
def tkC (cf : CFG) (L : BL) (P : List Pc) (c : CI) : List Pc := if lkd cf L c = true then P else (pcC cf L c).foldl (tk cf) P
def pcs (cf : CFG) (L : BL) : List Pc := (cutL cf.1 L 0).foldl (tkC cf L) []
theorem tk_full {cf : CFG} {P : List Pc} (h : 40 ≤ P.length) {x : Pc} : tk cf P x = P := if_neg (fun q => absurd q.2 (by omega))
theorem tks_full {cf : CFG} {P : List Pc} (h : 40 ≤ P.length) : ∀ xs : List Pc, xs.foldl (tk cf) P = P := by
  intro xs
  induction xs with
  | nil => rfl
  | cons x xs ih => rw [List.foldl_cons, tk_full h, ih]
theorem tkC_full {cf : CFG} {L : BL} {P : List Pc} (h : 40 ≤ P.length) : ∀ cs : List CI, cs.foldl (tkC cf L) P = P := by
  intro cs
  induction cs with
  | nil => rfl
  | cons c cs ih =>
    have e : tkC cf L P c = P := by
      unfold tkC
      split
      · rfl
      · exact tks_full h _
    rw [List.foldl_cons, e, ih]
theorem tk_40 {cf : CFG} {P : List Pc} (h : P.length ≤ 40) {x : Pc} : (tk cf P x).length ≤ 40 := by
  unfold tk
  split
  · rw [List.length_append]; show P.length + 1 ≤ 40; omega
  · exact h
theorem tks_40 {cf : CFG} : ∀ (xs : List Pc) {P : List Pc}, P.length ≤ 40 → (xs.foldl (tk cf) P).length ≤ 40 := by
  intro xs
  induction xs with
  | nil => intro P h; exact h
  | cons x xs ih => intro P h; exact ih (tk_40 h)
theorem tkC_40 {cf : CFG} {L : BL} : ∀ (cs : List CI) {P : List Pc}, P.length ≤ 40 → (cs.foldl (tkC cf L) P).length ≤ 40 := by
  intro cs
  induction cs with
  | nil => intro P h; exact h
  | cons c cs ih =>
    intro P h
    refine ih ?_
    unfold tkC
    split
    · exact h
    · exact tks_40 _ h
theorem pcs_40 {cf : CFG} {L : BL} : (pcs cf L).length ≤ 40 := tkC_40 _ (by decide)
/-! texts and origins side by side -/
def txs (P : List Pc) : BL := P.flatMap pX
def ogs (P : List Pc) : BL := P.flatMap (fun x => (pG x).map nI)
def tAt (P : List Pc) (i : Nat) : Nat := (txs (P.take i)).length
def pc0 : Pc := (0, 0, false, false, false, 0, 0, [], [])
theorem txs_app {P R : List Pc} : txs (P ++ R) = txs P ++ txs R := List.flatMap_append
theorem ogs_app {P R : List Pc} : ogs (P ++ R) = ogs P ++ ogs R := List.flatMap_append
theorem txs_1 {x : Pc} : txs [x] = pX x := List.append_nil _
theorem ogs_1 {x : Pc} : ogs [x] = (pG x).map nI := List.append_nil _
theorem pgd_l {P R : List Pc} {i : Nat} (h : i < P.length) : (P ++ R).getD i pc0 = P.getD i pc0 := by
  rw [List.getD_eq_getElem?_getD, List.getD_eq_getElem?_getD, List.getElem?_append_left h]
theorem pgd_n {P : List Pc} {x : Pc} : (P ++ [x]).getD P.length pc0 = x := by
  rw [List.getD_eq_getElem?_getD, List.getElem?_append_right (Nat.le_refl _), Nat.sub_self]; rfl
theorem tAt_l {P R : List Pc} {i : Nat} (h : i ≤ P.length) : tAt (P ++ R) i = tAt P i := by
  unfold tAt
  rw [List.take_append_of_le_length h]
theorem tAt_n {P R : List Pc} : tAt (P ++ R) P.length = (txs P).length := by
  rw [tAt_l (Nat.le_refl _)]
  unfold tAt
  rw [List.take_length]
