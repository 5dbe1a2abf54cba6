/-! what a function answers, if it answers -/
abbrev BL : Type := List Int32
def PQ {α : Type} (o : Option α) (Q : α → Prop) : Prop := ∀ r, o = some r → Q r
section PQS
variable {α β : Type} {Q : β → Prop}
theorem pq_ret {v : β} (h : Q v) : PQ (some v) Q := fun r e => by cases e; exact h
theorem pq_none : PQ (none : Option β) Q := fun r e => by cases e
theorem pq_bind {o : Option α} {k : α → Option β} (h : ∀ a, o = some a → PQ (k a) Q) : PQ (o.bind k) Q := fun r e => by
  cases ho : o with
  | none => rw [ho] at e; cases e
  | some a => rw [ho] at e; exact h a ho r e
theorem pq_call {o : Option α} {Q1 : α → Prop} {k : α → Option β} (h1 : PQ o Q1) (h : ∀ a, Q1 a → PQ (k a) Q) : PQ (o.bind k) Q := pq_bind (fun a e => h a (h1 a e))
theorem pq_is {o : Option α} {a : α} {k : α → Option β} (h1 : PQ o (fun r => r = a)) (h : PQ (k a) Q) : PQ (o.bind k) Q := pq_call h1 (fun b e => by rw [e]; exact h)
theorem pq_sb {a : α} {k : α → Option β} (h : PQ (k a) Q) : PQ ((some a).bind k) Q := h
theorem pq_eb {o : Option α} {a : α} {k : α → Option β} (e : o = some a) (h : PQ (k a) Q) : PQ (o.bind k) Q := by rw [e]; exact h
theorem pq_tail {o : Option β} {Q1 : β → Prop} (h1 : PQ o Q1) (h : ∀ a, Q1 a → Q a) : PQ o Q := fun r e => h r (h1 r e)
theorem pq_ck {b : Bool} {x : Option β} (h : PQ x Q) : PQ (rCk b x) Q := fun r e => h r (ck_some e).2
theorem pq_ckb {b : Bool} {x : Option β} (h : b = true → PQ x Q) : PQ (rCk b x) Q := fun r e => h (ck_some e).1 r (ck_some e).2
theorem pq_lt {x y : Int32} {a b : Int} {A B : Option β} (ex : x.toInt = a) (ey : y.toInt = b) (h1 : a < b → PQ A Q) (h2 : b ≤ a → PQ B Q) : PQ (if x < y then A else B) Q := by
  subst ex ey
  by_cases h : x.toInt < y.toInt
  · rw [if_pos (c_lt h)]; exact h1 h
  · rw [if_neg (c_nlt (by omega))]; exact h2 (by omega)
theorem pq_le {x y : Int32} {a b : Int} {A B : Option β} (ex : x.toInt = a) (ey : y.toInt = b) (h1 : a ≤ b → PQ A Q) (h2 : b < a → PQ B Q) : PQ (if x ≤ y then A else B) Q := by
  subst ex ey
  by_cases h : x.toInt ≤ y.toInt
  · rw [if_pos (c_le h)]; exact h1 h
  · rw [if_neg (c_nle (by omega))]; exact h2 (by omega)
theorem pq_eq {x y : Int32} {A B : Option β} (h1 : x = y → PQ A Q) (h2 : x ≠ y → PQ B Q) : PQ (if x = y then A else B) Q := by
  by_cases h : x = y
  · rw [if_pos h]; exact h1 h
  · rw [if_neg h]; exact h2 h
theorem pq_eqi {x y : Int32} {a b : Int} {A B : Option β} (ex : x.toInt = a) (ey : y.toInt = b) (h1 : a = b → PQ A Q) (h2 : a ≠ b → PQ B Q) : PQ (if x = y then A else B) Q := by
  subst ex ey
  by_cases h : x = y
  · rw [if_pos h]; exact h1 (by rw [h])
  · rw [if_neg h]; exact h2 (fun q => h (Int32.toInt_inj.mp q))
theorem pq_t {A B : Option β} {c : Prop} {d : Decidable c} (hc : c) (h : PQ A Q) : PQ (@ite _ c d A B) Q := by rw [if_pos hc]; exact h
theorem pq_f {A B : Option β} {c : Prop} {d : Decidable c} (hc : ¬ c) (h : PQ B Q) : PQ (@ite _ c d A B) Q := by rw [if_neg hc]; exact h
theorem pq_oNn {γ : Type} {A : Option β} {k : γ → Option β} (h : PQ A Q) : PQ (oN (none : Option γ) A k) Q := h
theorem pq_oNs {γ : Type} {a : γ} {A : Option β} {k : γ → Option β} (h : PQ (k a) Q) : PQ (oN (some a) A k) Q := h
/-! the class's heap -/
theorem pq_gI {f : AH} {j c k : Nat} {fs : List Value} {x : Int32} {kk : Int32 → Option β} (h : f j = some (.inr (c, fs))) (hk : fs[k]? = some (.int x)) (hh : PQ (kk x) Q) : PQ ((gI f j c k).bind kk) Q := by
  have e : gI f j c k = some x := by
    unfold gI; rw [h]
    show (if c = c then (match fs[k]? with
    | some (.int v) => some v
    | _ => none) else none) = some x
    rw [if_pos rfl, hk]
  rw [e]; exact hh
theorem pq_gR {f : AH} {j c k i : Nat} {fs : List Value} {kk : Option Nat → Option β} (h : f j = some (.inr (c, fs))) (hk : fs[k]? = some (.ref i)) (hh : PQ (kk (some i)) Q) : PQ ((gR f j c k).bind kk) Q := by
  have e : gR f j c k = some (some i) := by
    unfold gR; rw [h]
    show (if c = c then (match fs[k]? with
    | some .null => some none
    | some (.ref j) => some (some j)
    | _ => none) else none) = _
    rw [if_pos rfl, hk]
  rw [e]; exact hh
theorem pq_gRw {f : AH} {j c k : Nat} {w : Option Nat} {fs : List Value} {kk : Option Nat → Option β} (h : f j = some (.inr (c, fs))) (hk : fs[k]? = some (va_rf w)) (hh : PQ (kk w) Q) : PQ ((gR f j c k).bind kk) Q := by
  have e : gR f j c k = some w := by
    unfold gR; rw [h]
    show (if c = c then (match fs[k]? with
    | some .null => some none
    | some (.ref j) => some (some j)
    | _ => none) else none) = _
    rw [if_pos rfl, hk]
    cases w <;> rfl
  rw [e]; exact hh
theorem pq_pO {f : AH} {j c k : Nat} {v : Value} {fs : List Value} {kk : AH → Option β} (h : f j = some (.inr (c, fs))) (hk : decide (k < fs.length) = true) (hh : PQ (kk (va_up f j (some (.inr (c, fs.set k v))))) Q) : PQ ((pO f j c k v).bind kk) Q := by
  have e : pO f j c k v = some (va_up f j (some (.inr (c, fs.set k v)))) := by
    unfold pO; rw [h]
    show (if c = c ∧ k < fs.length then _ else _) = _
    rw [if_pos ⟨rfl, of_decide_eq_true hk⟩]
  rw [e]; exact hh
theorem pq_gL {f : AH} {j t N : Nat} {g : (Nat → Int32) ⊕ (Nat → Int64) ⊕ (Nat → Option Nat)} {kk : Nat → Option β} (h : f j = some (.inl (t, N, g))) (ht : t < 5) (hh : PQ (kk N) Q) : PQ ((gL f j).bind kk) Q := by
  have e : gL f j = some N := by
    unfold gL; rw [h]
    show (if t < 5 then some N else none) = some N
    rw [if_pos ht]
  rw [e]; exact hh
theorem pq_gIA {f : AH} {j N : Nat} {g : Nat → Int32} {x : Int32} {kk : Int32 → Option β} (h : f j = some (.inl (0, N, .inl g))) (hh : rIn x N = true → PQ (kk (g x.toNatClampNeg)) Q) : PQ ((gIA f j x).bind kk) Q := by
  by_cases hx : rIn x N = true
  · have e : gIA f j x = some (g x.toNatClampNeg) := by
      unfold gIA; rw [h]
      exact if_pos ⟨rfl, hx⟩
    rw [e]; exact hh hx
  · have e : gIA f j x = none := by
      unfold gIA; rw [h]
      exact if_neg (fun q => hx q.2)
    rw [e]; exact pq_none
theorem pq_pIA {f : AH} {j N : Nat} {g : Nat → Int32} {x v : Int32} {kk : AH → Option β} (h : f j = some (.inl (0, N, .inl g))) (hh : rIn x N = true → PQ (kk (va_up f j (some (.inl (0, N, .inl (upd g x.toNatClampNeg v)))))) Q) : PQ ((pIA f j x v).bind kk) Q := by
  by_cases hx : rIn x N = true
  · have e : pIA f j x v = some (va_up f j (some (.inl (0, N, .inl (upd g x.toNatClampNeg v))))) := by
      unfold pIA; rw [h]
      exact if_pos ⟨rfl, hx⟩
    rw [e]; exact hh hx
  · have e : pIA f j x v = none := by
      unfold pIA; rw [h]
      exact if_neg (fun q => hx q.2)
    rw [e]; exact pq_none
theorem pq_gRA {f : AH} {j t N : Nat} {g : Nat → Option Nat} {x : Int32} {kk : Option Nat → Option β} (h : f j = some (.inl (t, N, .inr (.inr g)))) (hh : rIn x N = true → PQ (kk (g x.toNatClampNeg)) Q) : PQ ((gRA f j x).bind kk) Q := by
  by_cases hx : (t = 1 ∨ t = 2 ∨ t = 3) ∧ rIn x N = true
  · have e : gRA f j x = some (g x.toNatClampNeg) := by
      unfold gRA; rw [h]
      exact if_pos hx
    rw [e]; exact hh hx.2
  · have e : gRA f j x = none := by
      unfold gRA; rw [h]
      exact if_neg hx
    rw [e]; exact pq_none
theorem pq_pRA {f : AH} {j t N : Nat} {g : Nat → Option Nat} {x : Int32} {w : Option Nat} {kk : AH → Option β} (h : f j = some (.inl (t, N, .inr (.inr g)))) (hh : rIn x N = true → PQ (kk (va_up f j (some (.inl (t, N, .inr (.inr (va_up g x.toNatClampNeg w))))))) Q) : PQ ((pRA f j x w).bind kk) Q := by
  by_cases hx : ((t = 1 ∨ t = 2 ∨ t = 3) ∧ rIn x N = true) ∧ okR f t w = true
  · have e : pRA f j x w = some (va_up f j (some (.inl (t, N, .inr (.inr (va_up g x.toNatClampNeg w)))))) := by
      unfold pRA; rw [h]
      exact if_pos hx
    rw [e]; exact hh hx.1.2
  · have e : pRA f j x w = none := by
      unfold pRA; rw [h]
      exact if_neg hx
    rw [e]; exact pq_none
end PQS
theorem in_nI {k N : Nat} (hk : k < 2 ^ 31) (h : rIn (nI k) N = true) : k < N := by
  simp only [rIn, Bool.and_eq_true, Bool.not_eq_true', decide_eq_false_iff_not, decide_eq_true_eq] at h
  rw [nI_clamp hk] at h
  exact h.2
theorem u_eq {α : Type} {f : Nat → α} {j : Nat} {v : α} : va_up f j v j = v := if_pos rfl
theorem u_ne {α : Type} {f : Nat → α} {i j : Nat} {v : α} (h : i ≠ j) : va_up f j v i = f i := if_neg h
theorem u_uu {α : Type} {f : Nat → α} {j : Nat} {v w : α} : va_up (va_up f j v) j w = va_up f j w := by
  funext i
  by_cases h : i = j
  · subst h; rw [u_eq, u_eq]
  · rw [u_ne h, u_ne h, u_ne h]
theorem u_id {α : Type} {f : Nat → α} {j : Nat} {v : α} (h : f j = v) : va_up f j v = f := by
  funext i
  by_cases hi : i = j
  · subst hi; rw [u_eq, h]
  · rw [u_ne hi]
