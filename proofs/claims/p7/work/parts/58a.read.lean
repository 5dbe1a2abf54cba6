/-! a text of acts: how it is read -/
def bLow (c : Int32) : Bool := decide (97 ≤ c.toInt) && decide (c.toInt ≤ 122)
def bNl (c : Int32) : Bool := !bLow c
def bDig (c : Int32) : Bool := decide (48 ≤ c.toInt) && decide (c.toInt ≤ 57)
def bNd (c : Int32) : Bool := !bDig c
def nmL : List BL := [[107, 105, 110, 100], [105, 110, 110, 101, 114], [112, 108, 97, 105, 110], [108, 101, 116, 116, 101, 114, 115], [97, 110, 121], [108, 101, 97, 115, 116], [108, 111, 99, 107], [117, 110, 108, 111, 99, 107], [102, 114, 101, 101], [115, 112, 114, 101, 97, 100], [115, 119, 97, 112], [119, 105, 112, 101]]
def aNm (X : BL) : Nat → Nat → Int32
  | 0, _ => -1
  | d + 1, t => if X = nmL.getD t [] then nI t else aNm X d (t + 1)
def actOf (X : BL) : Int32 := aNm X 12 0
def nB (T : BL) (p : Nat) : Nat := nx (bNe 32) T p T.length
def nE (T : BL) (p : Nat) : Nat := nx bNd T (nB T p) T.length
def wE (T : BL) (p : Nat) : Nat := nx bNl T p T.length
def dv (T : BL) (i : Nat) : Int := (T.getD i 0).toInt - 48
def nmv (T : BL) (b k : Nat) : Int := if k = 0 then 0 else if k = 1 then dv T b else dv T b * 10 + dv T (b + 1)
def nVi (T : BL) (p : Nat) : Int := nmv T (nB T p) (nE T p - nB T p)
abbrev nOk (T : BL) (p : Nat) (lo hi : Int) : Prop := nB T p < nE T p ∧ nE T p ≤ nB T p + 2 ∧ lo ≤ nVi T p ∧ nVi T p ≤ hi
def nV (T : BL) (p : Nat) : Int32 := Int32.ofInt (nVi T p)
abbrev RA : Type := Nat ⊕ (Int32 × Int32 × Int32 × BL × Nat)
def rd1 (T : BL) (e : Nat) (a : Int32) (lo hi : Int) : RA := if nOk T e lo hi then .inr (a, nV T e, 0, [], nE T e) else .inl (nB T e)
def rd2 (T : BL) (e : Nat) : RA := if nOk T e 0 39 then (if nOk T (nE T e) 0 39 then .inr (10, nV T e, nV T (nE T e), [], nE T (nE T e)) else .inl (nB T (nE T e))) else .inl (nB T e)
def rdW (T : BL) (e : Nat) : RA := if nB T e + 1 ≤ wE T (nB T e) ∧ wE T (nB T e) ≤ nB T e + 8 then .inr (6, 0, 0, sl T (nB T e) (wE T (nB T e)), wE T (nB T e)) else .inl (nB T e)
def rdK (T : BL) (p e : Nat) (a : Int32) : RA := if a = -1 then .inl p else if a = 0 then rd1 T e a 0 3 else if a = 1 then rd1 T e a 0 3 else if a = 5 then rd1 T e a 1 40 else if a = 6 then rdW T e else if a = 8 then rd1 T e a 0 39 else if a = 9 then rd1 T e a 0 39 else if a = 10 then rd2 T e else .inr (a, 0, 0, [], e)
def rdA (T : BL) (p : Nat) : RA := rdK T p (wE T p) (actOf (sl T p (wE T p)))
theorem nE_b {T : BL} {p : Nat} (h : p ≤ T.length) : p ≤ nB T p ∧ nB T p ≤ nE T p ∧ nE T p ≤ T.length := by
  have h1 : p ≤ nB T p := nx_ge
  have h2 : nB T p ≤ T.length := nx_le h
  have h3 : nB T p ≤ nE T p := nx_ge
  have h4 : nE T p ≤ T.length := nx_le h2
  omega
theorem wE_b {T : BL} {p : Nat} (h : p ≤ T.length) : p ≤ wE T p ∧ wE T p ≤ T.length := ⟨nx_ge, nx_le h⟩
theorem dig_of {c : Int32} (h : bNd c = false) : 48 ≤ c.toInt ∧ c.toInt ≤ 57 := by
  unfold bNd bDig at h
  simp only [Bool.not_eq_false', Bool.and_eq_true, decide_eq_true_eq] at h
  exact h
theorem dig_t {c : Int32} (h1 : 48 ≤ c.toInt) (h2 : c.toInt ≤ 57) : bNd c = false := by
  unfold bNd bDig
  simp only [Bool.not_eq_false', Bool.and_eq_true, decide_eq_true_eq]
  exact ⟨h1, h2⟩
theorem dig_n {c : Int32} (h : c.toInt < 48 ∨ 57 < c.toInt) : bNd c = true := by
  cases hx : bNd c with
  | true => rfl
  | false => have := dig_of hx; omega
theorem low_of {c : Int32} (h : bNl c = false) : 97 ≤ c.toInt ∧ c.toInt ≤ 122 := by
  unfold bNl bLow at h
  simp only [Bool.not_eq_false', Bool.and_eq_true, decide_eq_true_eq] at h
  exact h
theorem low_t {c : Int32} (h1 : 97 ≤ c.toInt) (h2 : c.toInt ≤ 122) : bNl c = false := by
  unfold bNl bLow
  simp only [Bool.not_eq_false', Bool.and_eq_true, decide_eq_true_eq]
  exact ⟨h1, h2⟩
theorem low_n {c : Int32} (h : c.toInt < 97 ∨ 122 < c.toInt) : bNl c = true := by
  cases hx : bNl c with
  | true => rfl
  | false => have := low_of hx; omega
theorem nmv_b {T : BL} {b k : Nat} (h : ∀ i, b ≤ i → i < b + k → bNd (T.getD i 0) = false) : 0 ≤ nmv T b k ∧ nmv T b k ≤ 99 := by
  unfold nmv
  split
  · omega
  · have h1 := dig_of (h b (by omega) (by omega))
    split
    · unfold dv; omega
    · have h2 := dig_of (h (b + 1) (by omega) (by omega))
      unfold dv; omega
theorem nVi_b {T : BL} {p : Nat} : 0 ≤ nVi T p ∧ nVi T p ≤ 99 := by
  unfold nVi
  refine nmv_b (fun i h1 h2 => ?_)
  have h3 : nB T p ≤ nE T p := nx_ge
  exact nx_no (b := T.length) h1 (by show i < nE T p; omega)
theorem nV_t {T : BL} {p : Nat} : (nV T p).toInt = nVi T p := by
  have := nVi_b (T := T) (p := p)
  unfold nV
  rw [Int32.toInt_ofInt, show Int32.size = 4294967296 from rfl]
  exact Int.bmod_eq_of_le (by omega) (by omega)
/-! acts one behind another -/
abbrev AR : Type := Option Nat × Int32 × Nat × SST
def aSt (T : BL) (p : Nat) (S : SST) (k : Nat → SST → AR) (r : RA) : AR := match r with
  | .inl w => (some w, 0, 0, S)
  | .inr z => if (dA S z.1 z.2.1 z.2.2.1 z.2.2.2.1).1 = 0 then (if nB T z.2.2.2.2 < T.length then (if T.getD (nB T z.2.2.2.2) 0 = 59 then (fun q : AR => (q.1, q.2.1, q.2.2.1 + 1, q.2.2.2)) (k (nB T (nB T z.2.2.2.2 + 1)) (dA S z.1 z.2.1 z.2.2.1 z.2.2.2.1).2) else (some (nB T z.2.2.2.2), 0, 0, S)) else (none, 0, 1, (dA S z.1 z.2.1 z.2.2.1 z.2.2.2.1).2)) else (some p, (dA S z.1 z.2.1 z.2.2.1 z.2.2.2.1).1, 0, S)
def aL (T : BL) : Nat → Nat → SST → AR
  | 0, p, S => (some p, 0, 0, S)
  | d + 1, p, S => aSt T p S (aL T d) (rdA T p)
def aTop (T : BL) (S : SST) : AR := if nB T 0 < T.length then aL T 14 (nB T 0) S else (none, 0, 0, S)
