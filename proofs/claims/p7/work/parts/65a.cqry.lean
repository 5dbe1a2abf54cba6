/-! the class's questions: what stays as it was -/
def SM {α : Type} (f : AH) (n : Nat) (y : α × HpN) : Prop := y.2 = (f, n)
section SMS
variable {α β γ : Type} {Q : β → Prop} {f : AH} {n : Nat}
theorem pq_sm {o : Option (α × HpN)} {k : α × HpN → Option β} (h1 : PQ o (SM f n)) (h : ∀ v, PQ (k (v, f, n)) Q) : PQ (o.bind k) Q := pq_call h1 (fun y hy => by
  obtain ⟨v, hn⟩ := y
  have hy : hn = (f, n) := hy
  subst hy
  exact h v)
theorem pq_ite {c : Prop} {d : Decidable c} {A B : Option β} (h1 : PQ A Q) (h2 : PQ B Q) : PQ (@ite _ c d A B) Q := by
  by_cases h : c
  · rw [if_pos h]; exact h1
  · rw [if_neg h]; exact h2
theorem pq_any {o : Option α} {k : α → Option β} (h : ∀ a, PQ (k a) Q) : PQ (o.bind k) Q := pq_bind (fun a _ => h a)
theorem pq_oNa {w : Option γ} {A : Option β} {k : γ → Option β} (h1 : PQ A Q) (h2 : ∀ a, PQ (k a) Q) : PQ (oN w A k) Q := by
  cases w with
  | none => exact h1
  | some a => exact h2 a
theorem pq_tSa {w : α ⊕ String} {hn : HpN} {k : α → Option ((β ⊕ String) × HpN)} {Q2 : (β ⊕ String) × HpN → Prop} (h1 : ∀ a, PQ (k a) Q2) (h2 : ∀ E, Q2 (.inr E, hn)) : PQ (tS w hn k) Q2 := by
  cases w with
  | inl a => exact h1 a
  | inr E => exact pq_ret (h2 E)
theorem sm_get5 {a : Nat} {v : Int32} : PQ (mX5_get a v f n) (SM f n) := by
  unfold mX5_get
  repeat' (first | exact pq_ret rfl | exact pq_none | refine pq_ck ?_ | refine pq_ite ?_ ?_ | refine pq_any (fun _ => ?_))
theorem sm_size5 {a : Nat} : PQ (mX5_size a f n) (SM f n) := by
  unfold mX5_size
  repeat' (first | exact pq_ret rfl | exact pq_none | refine pq_ck ?_ | refine pq_ite ?_ ?_ | refine pq_any (fun _ => ?_))
theorem sm_size1 {a : Nat} : PQ (mX1_size a f n) (SM f n) := by
  unfold mX1_size
  exact pq_any (fun _ => pq_ret rfl)
theorem sm_get1 {a : Nat} {v : Int32} : PQ (mX1_get a v f n) (SM f n) := by
  unfold mX1_get mX1_get_b30 mX1_get_b31
  repeat' (first | exact pq_ret rfl | exact pq_none | refine pq_ck ?_ | refine pq_ite ?_ ?_ | refine pq_any (fun _ => ?_))
theorem sm_toldFor {a : Nat} {v : Int32} : PQ (mX7_toldFor a v f n) (SM f n) := by
  unfold mX7_toldFor mX7_toldFor_b22 mX7_toldFor_b23
  repeat' (first | exact pq_ret rfl | exact pq_none | refine pq_ck ?_ | refine pq_ite ?_ ?_ | refine pq_any (fun _ => ?_))
theorem sm_mayB {a : Nat} {v : Int32} : PQ (mX3_mayBeginInBuilt a v f n) (SM f n) := by
  unfold mX3_mayBeginInBuilt mX3_mayBeginInBuilt_b32 mX3_mayBeginInBuilt_b28 mX3_mayBeginInBuilt_b33
  repeat' (first | exact pq_ret rfl | exact pq_none | refine pq_ck ?_ | refine pq_ite ?_ ?_ | refine pq_any (fun _ => ?_))
theorem sm_isSame {a : Nat} {v1 v3 v4 : Int32} {v2 : Option Nat} : PQ (mX5_isSame a v1 v2 v3 v4 f n) (SM f n) := by
  have key : ∀ (d : Nat) (v2 : Option Nat) (v5 : Int32), PQ (mX5_isSame_l3 d a v1 v2 v3 v4 v5 f n) (SM f n) := by
    intro d
    induction d with
    | zero => intro _ _; exact pq_none
    | succ d ih =>
      intro v2 v5
      unfold mX5_isSame_l3
      repeat' (first | exact pq_ret rfl | exact pq_none | exact ih _ _ | refine pq_ck ?_ | refine pq_ite ?_ ?_ | refine pq_sm sm_get5 (fun _ => ?_) | refine pq_any (fun _ => ?_))
  unfold mX5_isSame
  exact key rFU v2 0
theorem sm_isNow {a : Nat} {v1 : Int32} {v2 v3 : Option Nat} : PQ (mX8_isNow a v1 v2 v3 f n) (SM f n) := by
  unfold mX8_isNow mX8_isNow_b62 mX8_isNow_b63 mX8_isNow_b105 mX8_isNow_b106
  repeat' (first | exact pq_ret rfl | exact pq_none | refine pq_ck ?_ | refine pq_ite ?_ ?_ | refine pq_oNa ?_ (fun _ => ?_) | refine pq_sm sm_toldFor (fun _ => ?_) | refine pq_sm sm_size5 (fun _ => ?_) | refine pq_sm sm_isSame (fun _ => ?_) | refine pq_any (fun _ => ?_))
theorem sm_pot {a : Nat} {v : Int32} : PQ (mX8_pieceOrThrow a v f n) (SM f n) := by
  unfold mX8_pieceOrThrow
  repeat' (first | exact pq_ret rfl | exact pq_none | refine pq_ck ?_ | refine pq_ite ?_ ?_ | refine pq_oNa ?_ (fun _ => ?_) | refine pq_sm sm_get1 (fun _ => ?_) | refine pq_any (fun _ => ?_))
end SMS
