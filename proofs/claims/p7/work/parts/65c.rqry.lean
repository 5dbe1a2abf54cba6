/-! the reference's questions: what stays as it was -/
def S9 (σ : RS9) {α : Type} (y : α × RS9) : Prop := y.2 = σ
abbrev FQ9 : Nat → Prop := fun k => k = 0 ∨ k = 56
def QF9 (σ : RS9) {α : Type} (y : α × RS9) : Prop := FRX R49 FQ9 σ y.2
section RQS
variable {σ : RS9} {V : SPV}
theorem pq_s9 {α β : Type} {Q : β → Prop} {o : Option (α × RS9)} {k : α × RS9 → Option β} (h1 : PQ o (S9 σ)) (h : ∀ v, PQ (k (v, σ)) Q) : PQ (o.bind k) Q := pq_call h1 (fun y hy => by
  obtain ⟨v, s⟩ := y
  have hy : s = σ := hy
  subst hy
  exact h v)
theorem s9_isIn {a b c : Int32} : PQ (mX9_isIn a b c σ) (S9 σ) := pq_tail r_isIn (fun y hy => by rw [hy]; rfl)
theorem s9_isLet {c : Int32} : PQ (mX9_isLetter c σ) (S9 σ) := pq_tail r_isLetter (fun y hy => by rw [hy]; rfl)
theorem s9_isPT {v : Int32} : PQ (mX9_isPieceThere v σ) (S9 σ) := by
  unfold mX9_isPieceThere
  exact pq_s9 s9_isIn (fun _ => pq_ck (pq_ret rfl))
theorem s9_toldOf {v : Int32} : PQ (mX9_toldOf v σ) (S9 σ) := by
  unfold mX9_toldOf
  exact pq_ck (pq_ret rfl)
theorem s9_toldAt {v k : Int32} : PQ (mX9_toldAt v k σ) (S9 σ) := by
  unfold mX9_toldAt
  exact pq_ck (pq_ret rfl)
theorem s9_nowMany {v : Int32} : PQ (mX9_nowMany v σ) (S9 σ) := by
  unfold mX9_nowMany mX9_nowMany_b23
  exact pq_s9 s9_toldOf (fun _ => pq_ite (pq_ck (pq_ret rfl)) (pq_s9 s9_toldOf (fun _ => pq_ret rfl)))
theorem s9_nowByte {v k : Int32} : PQ (mX9_nowByte v k σ) (S9 σ) := by
  unfold mX9_nowByte mX9_nowByte_b31
  exact pq_s9 s9_toldOf (fun _ => pq_ite (pq_ck (pq_ck (pq_ret rfl))) (pq_s9 s9_toldAt (fun _ => pq_ret rfl)))
theorem s9_areLike {a b : Int32} : PQ (mX9_areLike a b σ) (S9 σ) := by
  have key : ∀ (d : Nat) (x0 x1 : Int32), PQ (mX9_areLike_l24 d a b x0 x1 σ) (S9 σ) := by
    intro d
    induction d with
    | zero => intro _ _; exact pq_none
    | succ d ih =>
      intro x0 x1
      unfold mX9_areLike_l24 mX9_areLike_b82 mX9_areLike_b75
      exact pq_ck (pq_ite (pq_ck (pq_ret rfl)) (pq_ite (pq_ck (pq_ret rfl)) (pq_ck (pq_ck (pq_ck (pq_ck (pq_ite (ih _ _) (ih _ _))))))))
  unfold mX9_areLike mX9_areLike_b20
  exact pq_ck (pq_ck (pq_ite (key rFU 1 0) (key rFU 0 0)))
theorem s9_likeMany {a : Int32} : PQ (mX9_likeMany a σ) (S9 σ) := by
  have key : ∀ (d : Nat) (x0 x1 : Int32), PQ (mX9_likeMany_l4 d a x0 x1 σ) (S9 σ) := by
    intro d
    induction d with
    | zero => intro _ _; exact pq_none
    | succ d ih =>
      intro x0 x1
      unfold mX9_likeMany_l4 mX9_likeMany_b27
      exact pq_ite (pq_ret rfl) (pq_s9 s9_areLike (fun _ => pq_ite (ih _ _) (ih _ _)))
  unfold mX9_likeMany
  exact key rFU 0 0
theorem s9_wordsOf {a : Int32} : PQ (mX9_wordsOf a σ) (S9 σ) := by
  have key : ∀ (d : Nat) (x0 x1 : Int32), PQ (mX9_wordsOf_l4 d a x0 x1 σ) (S9 σ) := by
    intro d
    induction d with
    | zero => intro _ _; exact pq_none
    | succ d ih =>
      intro x0 x1
      unfold mX9_wordsOf_l4 mX9_wordsOf_b48 mX9_wordsOf_b44 mX9_wordsOf_b49
      exact pq_s9 s9_nowMany (fun _ => pq_ite (pq_ret rfl) (pq_s9 s9_nowByte (fun _ => pq_s9 s9_isLet (fun _ => pq_ite (ih _ _) (pq_ite (ih _ _) (pq_s9 s9_nowByte (fun _ => pq_s9 s9_isLet (fun _ => pq_ite (ih _ _) (ih _ _)))))))))
  unfold mX9_wordsOf
  exact key rFU 0 0
theorem s9_knownOf {a : Int32} : PQ (mX9_knownOf a σ) (S9 σ) := by
  have k47 : ∀ (rec2 : Int32 → Int32 → RS9 → Option (Int32 × RS9)), (∀ y, PQ (rec2 a y σ) (S9 σ)) → ∀ (d : Nat) (v2 v3 v4 v5 : Int32), PQ (mX9_knownOf_l47 rec2 d a v2 v3 v4 v5 σ) (S9 σ) := by
    intro rec2 hr d
    induction d with
    | zero => intro _ _ _ _; exact pq_none
    | succ d ih =>
      intro v2 v3 v4 v5
      unfold mX9_knownOf_l47 mX9_knownOf_b104 mX9_knownOf_b96
      exact pq_ck (pq_ite (pq_ite (hr _) (pq_ret rfl)) (pq_ite (pq_ite (hr _) (pq_ret rfl)) (pq_ck (pq_ck (pq_ck (pq_ite (ih _ _ _ _) (ih _ _ _ _)))))))
  have key : ∀ (d : Nat) (v2 : Int32), PQ (mX9_knownOf_l2 d a v2 σ) (S9 σ) := by
    intro d
    induction d with
    | zero => intro _; exact pq_none
    | succ d ih =>
      intro v2
      unfold mX9_knownOf_l2 mX9_knownOf_b42
      exact pq_ck (pq_ite (pq_ret rfl) (pq_ck (pq_ck (pq_ite (k47 (fun v1 v2 σ => mX9_knownOf_l2 d v1 v2 σ) ih rFU _ _ _ _) (k47 (fun v1 v2 σ => mX9_knownOf_l2 d v1 v2 σ) ih rFU _ _ _ _)))))
  unfold mX9_knownOf
  exact key rFU 0
theorem s9_skeleton : PQ (mX9_skeleton σ) (S9 σ) := by
  have key : ∀ (d : Nat) (x0 x1 : Int32), PQ (mX9_skeleton_l9 d x0 x1 σ) (S9 σ) := by
    intro d
    induction d with
    | zero => intro _ _; exact pq_none
    | succ d ih =>
      intro x0 x1
      unfold mX9_skeleton_l9
      exact pq_ite (pq_ret rfl) (pq_ck (pq_ck (ih _ _)))
  unfold mX9_skeleton
  exact pq_ck (key rFU _ 0)
theorem s9_unlike : PQ (mX9_unlikeTexts σ) (S9 σ) := by
  have k17 : ∀ (rec4 : Int32 → Int32 → RS9 → Option (Int32 × RS9)), (∀ x y, PQ (rec4 x y σ) (S9 σ)) → ∀ (d : Nat) (v1 v2 v3 v4 : Int32), PQ (mX9_unlikeTexts_l17 rec4 d v1 v2 v3 v4 σ) (S9 σ) := by
    intro rec4 hr d
    induction d with
    | zero => intro _ _ _ _; exact pq_none
    | succ d ih =>
      intro v1 v2 v3 v4
      unfold mX9_unlikeTexts_l17 mX9_unlikeTexts_b41 mX9_unlikeTexts_b42 mX9_unlikeTexts_b59
      exact pq_ite (pq_ite (hr _ _) (hr _ _)) (pq_ite (ih _ _ _ _) (pq_s9 s9_areLike (fun _ => pq_ite (ih _ _ _ _) (ih _ _ _ _))))
  have key : ∀ (d : Nat) (x0 x1 : Int32), PQ (mX9_unlikeTexts_l4 d x0 x1 σ) (S9 σ) := by
    intro d
    induction d with
    | zero => intro _ _; exact pq_none
    | succ d ih =>
      intro x0 x1
      unfold mX9_unlikeTexts_l4
      exact pq_ite (pq_ret rfl) (k17 (fun v1 v2 σ => mX9_unlikeTexts_l4 d v1 v2 σ) ih rFU _ _ _ _)
  unfold mX9_unlikeTexts
  exact key rFU 0 0
theorem s9_allWords : PQ (mX9_allWords σ) (S9 σ) := by
  have key : ∀ (d : Nat) (x0 x1 : Int32), PQ (mX9_allWords_l4 d x0 x1 σ) (S9 σ) := by
    intro d
    induction d with
    | zero => intro _ _; exact pq_none
    | succ d ih =>
      intro x0 x1
      unfold mX9_allWords_l4
      exact pq_ite (pq_ret rfl) (pq_s9 s9_wordsOf (fun _ => ih _ _))
  unfold mX9_allWords
  exact key rFU 0 0
theorem s9_longest : PQ (mX9_longest σ) (S9 σ) := by
  have key : ∀ (d : Nat) (x0 x1 : Int32), PQ (mX9_longest_l4 d x0 x1 σ) (S9 σ) := by
    intro d
    induction d with
    | zero => intro _ _; exact pq_none
    | succ d ih =>
      intro x0 x1
      unfold mX9_longest_l4 mX9_longest_b29
      exact pq_ite (pq_ret rfl) (pq_ck (pq_ite (ih _ _) (pq_ck (ih _ _))))
  unfold mX9_longest
  exact key rFU 0 0
theorem s9_toldMany : PQ (mX9_toldMany σ) (S9 σ) := by
  have key : ∀ (d : Nat) (x0 x1 : Int32), PQ (mX9_toldMany_l4 d x0 x1 σ) (S9 σ) := by
    intro d
    induction d with
    | zero => intro _ _; exact pq_none
    | succ d ih =>
      intro x0 x1
      unfold mX9_toldMany_l4 mX9_toldMany_b27
      exact pq_ite (pq_ret rfl) (pq_s9 s9_toldOf (fun _ => pq_ite (ih _ _) (ih _ _)))
  unfold mX9_toldMany
  exact key rFU 0 0
theorem s9_hasWord {a b : Int32} : PQ (mX9_hasWord a b σ) (S9 σ) := by
  have k19 : ∀ (rec2 : Int32 → Int32 → Int32 → RS9 → Option (Int32 × RS9)), (∀ z, PQ (rec2 a b z σ) (S9 σ)) → ∀ (d : Nat) (v3 v4 v5 : Int32), PQ (mX9_hasWord_l19 rec2 d a b v3 v4 v5 σ) (S9 σ) := by
    intro rec2 hr d
    induction d with
    | zero => intro _ _ _; exact pq_none
    | succ d ih =>
      intro v3 v4 v5
      unfold mX9_hasWord_l19 mX9_hasWord_b86 mX9_hasWord_b70 mX9_hasWord_b78
      exact pq_ite (pq_ite (hr _) (pq_ck (pq_ret rfl))) (pq_ite (pq_ite (hr _) (pq_ck (pq_ret rfl))) (pq_s9 s9_nowByte (fun _ => pq_ck (pq_s9 s9_isIn (fun _ => pq_ite (pq_ite (ih _ _ _) (ih _ _ _)) (pq_ite (ih _ _ _) (ih _ _ _)))))))
  have key : ∀ (d : Nat) (x0 : Int32), PQ (mX9_hasWord_l2 d a b x0 σ) (S9 σ) := by
    intro d
    induction d with
    | zero => intro _; exact pq_none
    | succ d ih =>
      intro x0
      unfold mX9_hasWord_l2
      exact pq_s9 s9_nowMany (fun _ => pq_ite (pq_ck (pq_ret rfl)) (k19 (fun v1 v2 v3 σ => mX9_hasWord_l2 d v1 v2 v3 σ) ih rFU _ _ _))
  unfold mX9_hasWord
  exact key rFU 0
theorem s9_isNow {a b : Int32} : PQ (mX9_isNow a b σ) (S9 σ) := by
  have key : ∀ (d : Nat) (x0 x1 : Int32), PQ (mX9_isNow_l33 d a b x0 x1 σ) (S9 σ) := by
    intro d
    induction d with
    | zero => intro _ _; exact pq_none
    | succ d ih =>
      intro x0 x1
      unfold mX9_isNow_l33 mX9_isNow_b91 mX9_isNow_b84
      exact pq_ck (pq_ite (pq_ck (pq_ret rfl)) (pq_ite (pq_ck (pq_ret rfl)) (pq_ck (pq_ck (pq_ck (pq_ck (pq_ite (ih _ _) (ih _ _))))))))
  unfold mX9_isNow mX9_isNow_b29
  exact pq_ck (pq_ck (pq_ck (pq_ite (key rFU 1 0) (key rFU 0 0))))
end RQS
