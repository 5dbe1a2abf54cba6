/-! the class: its heap is typed -/
abbrev TE : Type := (Nat → Nat) × (Nat → Nat)
def vI : Nat → Int32 → Prop
  | 1, x => x = 0 ∨ x = 1
  | 2, x => 0 ≤ x.toInt ∧ x.toInt ≤ 700
  | 3, x => 0 ≤ x.toInt ∧ x.toInt ≤ 40
  | 4, x => 0 ≤ x.toInt ∧ x.toInt ≤ 12
  | 5, x => 0 ≤ x.toInt ∧ x.toInt ≤ 600
  | 6, x => -700 ≤ x.toInt ∧ x.toInt ≤ 700
  | 7, x => 0 ≤ x.toInt ∧ x.toInt ≤ 5
  | 8, x => 0 ≤ x.toInt ∧ x.toInt ≤ 2000
  | 9, x => -1 ≤ x.toInt ∧ x.toInt ≤ 702
  | 10, x => 0 ≤ x.toInt ∧ x.toInt ≤ 702
  | _, _ => True
def vR (Γ : Nat → Nat) (c : Nat) (w : Option Nat) : Prop := if c = 301 then w = some 1 else if c = 306 then ∃ j, w = some j ∧ Γ j = 5 ∧ j ≠ 1 else if c < 200 then ∃ j, w = some j ∧ Γ j = c - 100 else ∀ j, w = some j → Γ j = c - 200
def vV (Γ : Nat → Nat) (c : Nat) (v : Value) : Prop := (c < 100 ∧ ∃ x, v = .int x ∧ vI c x) ∨ (100 ≤ c ∧ ∃ w, v = va_rf w ∧ vR Γ c w)
def fT : Nat → List Nat
  | 0 => [306, 306, 306, 0]
  | 1 => [306, 306, 113, 3, 106, 106, 306, 306]
  | 2 => [105, 105, 202]
  | 3 => [0, 0, 5, 6, 0, 0, 1, 1, 1, 0, 0, 0]
  | 4 => [1, 8, 0, 0, 0, 205, 0, 105]
  | 6 => [105, 10, 9, 1, 2, 0, 0, 7, 0, 2]
  | 7 => [105, 0, 0, 1, 0, 0, 202, 4, 110, 111]
  | 8 => [301, 107, 107, 107, 112, 101, 101, 100, 104, 1, 1, 0, 0, 0]
  | _ => []
def okO (Γ : Nat → Nat) (c : Nat) (fs : List Value) : Prop := fs.length = (fT c).length ∧ ∀ k < (fT c).length, ∃ v, fs[k]? = some v ∧ vV Γ ((fT c).getD k 0) v
def aT : Nat → Nat × Nat × Nat
  | 10 => (2, 4, 205)
  | 11 => (2, 40, 205)
  | 12 => (3, 8, 107)
  | _ => (1, 40, 103)
def okC (G : TE) (S : Int32) (f : AH) (j : Nat) : Prop :=
  (G.1 j = 5 → ∃ s : Int32, f j = some (.inr (5, [.ref (G.2 j), .int s])) ∧ 1000 ≤ G.1 (G.2 j) ∧ G.1 (G.2 j) ≤ 1600 ∧ 0 ≤ s.toInt ∧ s.toInt + 1000 ≤ G.1 (G.2 j) ∧ (j = 1 → s = S ∧ G.1 (G.2 j) = 1400)) ∧ (G.1 j < 9 → G.1 j ≠ 5 → ∃ fs, f j = some (.inr (G.1 j, fs)) ∧ okO G.1 (G.1 j) fs) ∧ (10 ≤ G.1 j → G.1 j ≤ 13 → ∃ g, f j = some (.inl ((aT (G.1 j)).1, (aT (G.1 j)).2.1, .inr (.inr g))) ∧ ∀ i < (aT (G.1 j)).2.1, vR G.1 (aT (G.1 j)).2.2 (g i)) ∧ (1000 ≤ G.1 j → ∃ g, f j = some (.inl (0, G.1 j - 1000, .inl g)))
def WT (G : TE) (F0 : AH) (S : Int32) (f : AH) (n : Nat) : Prop := (∀ j, okC G S f j) ∧ (∀ j, G.1 j ≠ 99 → j < n) ∧ (∀ j, 181 ≤ j → j ≤ 223 → G.1 j = 99 ∧ f j = F0 j) ∧ 224 ≤ n ∧ G.1 0 = 8 ∧ G.1 1 = 5
section WTS
variable {G : TE} {F0 : AH} {S : Int32} {f f2 : AH} {n : Nat}
theorem wt_ob (hW : WT G F0 S f n) {j c : Nat} (hj : G.1 j = c) (h9 : c < 9) (h5 : c ≠ 5) : ∃ fs, f j = some (.inr (c, fs)) ∧ okO G.1 c fs := by
  subst hj
  exact (hW.1 j).2.1 h9 h5
theorem wt_gI (hW : WT G F0 S f n) {j c k t : Nat} (hj : G.1 j = c) (h9 : (decide (c < 9) && decide (c ≠ 5)) = true) (ht : (fT c)[k]? = some t) (h1 : t < 100) : ∃ x, gI f j c k = some x ∧ vI t x := by
  simp only [Bool.and_eq_true, decide_eq_true_eq] at h9
  obtain ⟨fs, hf, hl, hk⟩ := wt_ob hW hj h9.1 h9.2
  have hkl : k < (fT c).length := by
    rcases Nat.lt_or_ge k (fT c).length with h | h
    · exact h
    · rw [List.getElem?_eq_none h] at ht; cases ht
  obtain ⟨v, hv, ho⟩ := hk k hkl
  have e : (fT c).getD k 0 = t := by rw [List.getD_eq_getElem?_getD, ht]; rfl
  rw [e] at ho
  rcases ho with ⟨-, x, rfl, hx⟩ | ⟨q, -⟩
  · refine ⟨x, ?_, hx⟩
    unfold gI
    rw [hf]
    show (if c = c then (match fs[k]? with
    | some (.int v) => some v
    | _ => none) else none) = some x
    rw [if_pos rfl, hv]
  · omega
theorem wt_gR (hW : WT G F0 S f n) {j c k t : Nat} (hj : G.1 j = c) (h9 : (decide (c < 9) && decide (c ≠ 5)) = true) (ht : (fT c)[k]? = some t) (h1 : 100 ≤ t) : ∃ x, gR f j c k = some x ∧ vR G.1 t x := by
  simp only [Bool.and_eq_true, decide_eq_true_eq] at h9
  obtain ⟨fs, hf, hl, hk⟩ := wt_ob hW hj h9.1 h9.2
  have hkl : k < (fT c).length := by
    rcases Nat.lt_or_ge k (fT c).length with h | h
    · exact h
    · rw [List.getElem?_eq_none h] at ht; cases ht
  obtain ⟨v, hv, ho⟩ := hk k hkl
  have e : (fT c).getD k 0 = t := by rw [List.getD_eq_getElem?_getD, ht]; rfl
  rw [e] at ho
  rcases ho with ⟨q, -⟩ | ⟨-, x, rfl, hx⟩
  · omega
  · refine ⟨x, ?_, hx⟩
    unfold gR
    rw [hf]
    show (if c = c then (match fs[k]? with
    | some .null => some none
    | some (.ref j) => some (some j)
    | _ => none) else none) = some x
    rw [if_pos rfl, hv]
    cases x <;> rfl
theorem wt_up (hW : WT G F0 S f n) {j : Nat} (hj : G.1 j ≠ 99) {S2 : Int32} (v : Option AE) (hc : okC G S2 (va_up f j v) j) (h1 : j ≠ 1 → S2 = S) : WT G F0 S2 (va_up f j v) n := by
  refine ⟨fun i => ?_, hW.2.1, fun i a b => ?_, hW.2.2.2⟩
  · by_cases hi : i = j
    · subst hi; exact hc
    · have e : va_up f j v i = f i := if_neg hi
      have h := hW.1 i
      unfold okC at h ⊢
      rw [e]
      refine ⟨fun q => ?_, h.2⟩
      obtain ⟨s, h2, h3, h4, h5, h6, h7⟩ := h.1 q
      refine ⟨s, h2, h3, h4, h5, h6, fun q1 => ?_⟩
      have hj1 : j ≠ 1 := fun q2 => hi (q1.trans q2.symm)
      rw [h1 hj1]; exact h7 q1
  · have h2 := hW.2.2.1 i a b
    refine ⟨h2.1, ?_⟩
    have hi : i ≠ j := fun q => hj (by rw [← q]; exact h2.1)
    exact (if_neg hi).trans h2.2
theorem wt_pO (hW : WT G F0 S f n) {j c k t : Nat} {v : Value} (hj : G.1 j = c) (h9 : (decide (c < 9) && decide (c ≠ 5)) = true) (ht : (fT c)[k]? = some t) (hv : vV G.1 t v) : ∃ f', pO f j c k v = some f' ∧ WT G F0 S f' n := by
  simp only [Bool.and_eq_true, decide_eq_true_eq] at h9
  obtain ⟨fs, hf, hl, hk⟩ := wt_ob hW hj h9.1 h9.2
  have hkl : k < (fT c).length := by
    rcases Nat.lt_or_ge k (fT c).length with h | h
    · exact h
    · rw [List.getElem?_eq_none h] at ht; cases ht
  have e : (fT c).getD k 0 = t := by rw [List.getD_eq_getElem?_getD, ht]; rfl
  refine ⟨va_up f j (some (.inr (c, fs.set k v))), ?_, ?_⟩
  · unfold pO
    rw [hf]
    show (if c = c ∧ k < fs.length then _ else _) = _
    rw [if_pos ⟨rfl, by omega⟩]
  · refine wt_up hW (by omega) _ ?_ (fun _ => rfl)
    have e2 : va_up f j (some (.inr (c, fs.set k v))) j = some (.inr (c, fs.set k v)) := if_pos rfl
    refine ⟨fun q => absurd (hj.symm.trans q) h9.2, fun _ _ => ?_, fun q => by omega, fun q => by omega⟩
    rw [e2, hj]
    refine ⟨_, rfl, by rw [List.length_set]; exact hl, fun i hi => ?_⟩
    by_cases hik : k = i
    · subst hik
      exact ⟨v, by rw [List.getElem?_set_self (by omega)], by rw [e]; exact hv⟩
    · obtain ⟨w, h3, h4⟩ := hk i hi
      exact ⟨w, by rw [List.getElem?_set_ne hik]; exact h3, h4⟩
theorem wt_isO (hW : WT G F0 S f n) {j c : Nat} (hj : G.1 j = c) (h9 : c < 9) : isO f j c = true := by
  by_cases h5 : c = 5
  · subst h5
    obtain ⟨s, hf, -⟩ := (hW.1 j).1 hj
    unfold isO; rw [hf]; exact decide_eq_true rfl
  · obtain ⟨fs, hf, -⟩ := wt_ob hW hj h9 h5
    unfold isO; rw [hf]; exact decide_eq_true rfl
/-! rows -/
theorem wt_row (hW : WT G F0 S f n) {j : Nat} (hj : G.1 j = 5) : ∃ s : Int32, gI f j 5 1 = some s ∧ 0 ≤ s.toInt ∧ s.toInt + 1000 ≤ G.1 (G.2 j) ∧ 1000 ≤ G.1 (G.2 j) ∧ G.1 (G.2 j) ≤ 1600 ∧ (j = 1 → s = S ∧ G.1 (G.2 j) = 1400) := by
  obtain ⟨s, hf, h1, h2, h3, h4, h5⟩ := (hW.1 j).1 hj
  exact ⟨s, by unfold gI; rw [hf]; rfl, h3, h4, h1, h2, h5⟩
theorem wt_rb (hW : WT G F0 S f n) {j : Nat} (hj : G.1 j = 5) : gR f j 5 0 = some (some (G.2 j)) := by
  obtain ⟨s, hf, -⟩ := (hW.1 j).1 hj
  unfold gR; rw [hf]; rfl
theorem wt_rc (hW : WT G F0 S f n) {j : Nat} (hj : G.1 j = 5) : ∃ g, f (G.2 j) = some (.inl (0, G.1 (G.2 j) - 1000, .inl g)) := by
  obtain ⟨s, hf, h1, h2, h3, h4, h5⟩ := (hW.1 j).1 hj
  exact (hW.1 (G.2 j)).2.2.2 h1
theorem wt_rl (hW : WT G F0 S f n) {j : Nat} (hj : G.1 j = 5) : gL f (G.2 j) = some (G.1 (G.2 j) - 1000) := by
  obtain ⟨g, hg⟩ := wt_rc hW hj
  unfold gL; rw [hg]; rfl
theorem in_of {x : Int32} {N : Nat} (h0 : 0 ≤ x.toInt) (h1 : x.toInt < N) : rIn x N = true := by
  unfold rIn
  have a : ¬ x < 0 := c_nlt (by show (0 : Int32).toInt ≤ _; rw [show (0 : Int32).toInt = 0 by decide]; exact h0)
  have b : x.toNatClampNeg = x.toInt.toNat := rfl
  simp only [Bool.and_eq_true, Bool.not_eq_true', decide_eq_false_iff_not, decide_eq_true_eq]
  exact ⟨a, by rw [b]; omega⟩
theorem wt_ria (hW : WT G F0 S f n) {j : Nat} (hj : G.1 j = 5) {x : Int32} (h : rIn x (G.1 (G.2 j) - 1000) = true) : ∃ v, gIA f (G.2 j) x = some v := by
  obtain ⟨g, hg⟩ := wt_rc hW hj
  refine ⟨g x.toNatClampNeg, ?_⟩
  unfold gIA; rw [hg]
  exact if_pos ⟨rfl, h⟩
theorem wt_rip (hW : WT G F0 S f n) {j : Nat} (hj : G.1 j = 5) {x v : Int32} (h : rIn x (G.1 (G.2 j) - 1000) = true) : ∃ f', pIA f (G.2 j) x v = some f' ∧ WT G F0 S f' n := by
  obtain ⟨g, hg⟩ := wt_rc hW hj
  obtain ⟨s, hs, h1, h2, h3, h4, h5⟩ := wt_row hW hj
  refine ⟨va_up f (G.2 j) (some (.inl (0, G.1 (G.2 j) - 1000, .inl (upd g x.toNatClampNeg v)))), ?_, ?_⟩
  · unfold pIA; rw [hg]
    exact if_pos ⟨rfl, h⟩
  · refine wt_up hW (by omega) _ ?_ (fun _ => rfl)
    refine ⟨fun q => by omega, fun q => by omega, fun _ q => by omega, fun _ => ⟨_, if_pos rfl⟩⟩
theorem wt_rsp (hW : WT G F0 S f n) {j : Nat} (hj : G.1 j = 5) {v : Int32} (h0 : 0 ≤ v.toInt) (h1 : v.toInt + 1000 ≤ G.1 (G.2 j)) : ∃ f', pO f j 5 1 (.int v) = some f' ∧ WT G F0 (if j = 1 then v else S) f' n := by
  obtain ⟨s, hf, g1, g2, g3, g4, g5⟩ := (hW.1 j).1 hj
  refine ⟨va_up f j (some (.inr (5, [.ref (G.2 j), .int v]))), ?_, ?_⟩
  · unfold pO; rw [hf]; rfl
  · refine wt_up hW (by omega) _ ?_ (fun q => if_neg q)
    refine ⟨fun _ => ⟨v, if_pos rfl, g1, g2, h0, h1, fun q => ⟨(if_pos q).symm, (g5 q).2⟩⟩, fun _ q => absurd hj q, fun q => by omega, fun q => by omega⟩
theorem wt_S (hW : WT G F0 S f n) : 0 ≤ S.toInt ∧ S.toInt ≤ 400 := by
  obtain ⟨s, hs, h1, h2, h3, h4, h5⟩ := wt_row hW hW.2.2.2.2.2
  have h6 := h5 rfl
  rw [← h6.1]; omega
/-! arrays of things -/
theorem wt_gL (hW : WT G F0 S f n) {j t : Nat} (hj : G.1 j = t) (h1 : (decide (10 ≤ t) && decide (t ≤ 13)) = true) {N : Nat} (hN : (aT t).2.1 = N) (h5 : (aT t).1 < 5) : gL f j = some N := by
  simp only [Bool.and_eq_true, decide_eq_true_eq] at h1
  subst hj
  obtain ⟨g, hg, -⟩ := (hW.1 j).2.2.1 h1.1 h1.2
  unfold gL; rw [hg]
  show (if _ then _ else _) = _
  rw [if_pos h5, hN]
theorem wt_gRA (hW : WT G F0 S f n) {j t : Nat} (hj : G.1 j = t) (h1 : (decide (10 ≤ t) && decide (t ≤ 13)) = true) {N T : Nat} (hN : (aT t).2.1 = N) (hT : (aT t).2.2 = T) (h5 : (aT t).1 = 1 ∨ (aT t).1 = 2 ∨ (aT t).1 = 3) {x : Int32} (hx : rIn x N = true) : ∃ w, gRA f j x = some w ∧ vR G.1 T w := by
  simp only [Bool.and_eq_true, decide_eq_true_eq] at h1
  subst hj
  obtain ⟨g, hg, ho⟩ := (hW.1 j).2.2.1 h1.1 h1.2
  refine ⟨g x.toNatClampNeg, ?_, ?_⟩
  · unfold gRA; rw [hg]
    show (if _ then _ else _) = _
    rw [if_pos ⟨h5, by rw [hN]; exact hx⟩]
  · rw [← hT]
    refine ho _ ?_
    rw [hN]
    simp only [rIn, Bool.and_eq_true, Bool.not_eq_true', decide_eq_false_iff_not, decide_eq_true_eq] at hx
    exact hx.2
theorem wt_pRA (hW : WT G F0 S f n) {j t : Nat} (hj : G.1 j = t) (h1 : (decide (10 ≤ t) && decide (t ≤ 13)) = true) {N T : Nat} (hN : (aT t).2.1 = N) (hT : (aT t).2.2 = T) (h5 : (aT t).1 = 1 ∨ (aT t).1 = 2 ∨ (aT t).1 = 3) {x : Int32} (hx : rIn x N = true) {w : Option Nat} (hw : vR G.1 T w) (hwc : ∀ i, w = some i → G.1 i = tcl (aT t).1) : ∃ f', pRA f j x w = some f' ∧ WT G F0 S f' n := by
  simp only [Bool.and_eq_true, decide_eq_true_eq] at h1
  subst hj
  obtain ⟨g, hg, ho⟩ := (hW.1 j).2.2.1 h1.1 h1.2
  have hok : okR f (aT (G.1 j)).1 w = true := by
    cases w with
    | none => rfl
    | some i =>
      have h9 : tcl (aT (G.1 j)).1 < 9 := by rcases h5 with h | h | h <;> rw [h] <;> decide
      exact wt_isO hW (hwc i rfl) h9
  refine ⟨va_up f j (some (.inl ((aT (G.1 j)).1, (aT (G.1 j)).2.1, .inr (.inr (va_up g x.toNatClampNeg w))))), ?_, ?_⟩
  · unfold pRA; rw [hg]
    show (if _ then _ else _) = _
    rw [if_pos ⟨⟨h5, by rw [hN]; exact hx⟩, hok⟩]
  · refine wt_up hW (by omega) _ ?_ (fun _ => rfl)
    refine ⟨fun q => by omega, fun q => by omega, fun _ _ => ⟨_, if_pos rfl, fun i hi => ?_⟩, fun q => by omega⟩
    show vR G.1 _ (if i = x.toNatClampNeg then w else g i)
    by_cases hix : i = x.toNatClampNeg
    · rw [if_pos hix, hT]; exact hw
    · rw [if_neg hix]; exact ho i hi
end WTS
/-! a call's answer -/
def PO {α : Type} (o : Option (α × HpN)) (Q : α → AH → Nat → Prop) : Prop := ∃ v f n, o = some (v, (f, n)) ∧ Q v f n
section POS
variable {α β : Type} {Q : β → AH → Nat → Prop} {G : TE} {F0 : AH} {S : Int32} {f : AH} {n : Nat}
theorem po_bind {γ : Type} {o : Option γ} {a : γ} {k : γ → Option (β × HpN)} (e : o = some a) (h : PO (k a) Q) : PO (o.bind k) Q := by rw [e]; exact h
theorem po_some {γ : Type} {a : γ} {k : γ → Option (β × HpN)} (h : PO (k a) Q) : PO ((some a).bind k) Q := h
theorem po_ret {v : β} (h : Q v f n) : PO (some (v, (f, n))) Q := ⟨v, f, n, rfl, h⟩
theorem po_ck {b : Bool} {x : Option (β × HpN)} (hb : b = true) (h : PO x Q) : PO (rCk b x) Q := by rw [hb]; exact h
theorem po_call {o : Option (α × HpN)} {Q1 : α → AH → Nat → Prop} {k : α × HpN → Option (β × HpN)} (h1 : PO o Q1) (h : ∀ v f n, Q1 v f n → PO (k (v, (f, n))) Q) : PO (o.bind k) Q := by
  obtain ⟨v, f, n, e, q⟩ := h1
  rw [e]; exact h v f n q
theorem po_callE {o : Option (α × HpN)} {Q1 : α → AH → Nat → Prop} {k : α × HpN → Option (β × HpN)} (h1 : PO o Q1) (h : ∀ v f n, o = some (v, (f, n)) → Q1 v f n → PO (k (v, (f, n))) Q) : PO (o.bind k) Q := by
  obtain ⟨v, f, n, e, q⟩ := h1
  have h2 := h v f n e q
  rw [e]; exact h2
theorem po_tail {o : Option (β × HpN)} {Q1 : β → AH → Nat → Prop} (h1 : PO o Q1) (h : ∀ v f n, Q1 v f n → Q v f n) : PO o Q := by
  obtain ⟨v, f, n, e, q⟩ := h1
  exact ⟨v, f, n, e, h v f n q⟩
theorem po_lt {x y : Int32} {a b : Int} {A B : Option (β × HpN)} (ex : x.toInt = a) (ey : y.toInt = b) (h1 : a < b → PO A Q) (h2 : b ≤ a → PO B Q) : PO (if x < y then A else B) Q := by
  subst ex ey
  by_cases h : x.toInt < y.toInt
  · rw [if_pos (c_lt h)]; exact h1 h
  · rw [if_neg (c_nlt (by omega))]; exact h2 (by omega)
theorem po_le {x y : Int32} {a b : Int} {A B : Option (β × HpN)} (ex : x.toInt = a) (ey : y.toInt = b) (h1 : a ≤ b → PO A Q) (h2 : b < a → PO B Q) : PO (if x ≤ y then A else B) Q := by
  subst ex ey
  by_cases h : x.toInt ≤ y.toInt
  · rw [if_pos (c_le h)]; exact h1 h
  · rw [if_neg (c_nle (by omega))]; exact h2 (by omega)
theorem po_eq {x y : Int32} {A B : Option (β × HpN)} (h1 : x = y → PO A Q) (h2 : x ≠ y → PO B Q) : PO (if x = y then A else B) Q := by
  by_cases h : x = y
  · rw [if_pos h]; exact h1 h
  · rw [if_neg h]; exact h2 h
theorem po_gI {j c k t : Nat} {kk : Int32 → Option (β × HpN)} (hW : WT G F0 S f n) (hj : G.1 j = c) (h9 : (decide (c < 9) && decide (c ≠ 5)) = true) (ht : (fT c)[k]? = some t) (h1 : t < 100) (h : ∀ x, gI f j c k = some x → vI t x → PO (kk x) Q) : PO ((gI f j c k).bind kk) Q := by
  obtain ⟨x, e, hx⟩ := wt_gI hW hj h9 ht h1
  rw [e]; exact h x e hx
theorem po_gRn {j c k t : Nat} {kk : Option Nat → Option (β × HpN)} (hW : WT G F0 S f n) (hj : G.1 j = c) (h9 : (decide (c < 9) && decide (c ≠ 5)) = true) (ht : (fT c)[k]? = some (t + 100)) (h1 : t < 100) (h : ∀ i, gR f j c k = some (some i) → G.1 i = t → PO (kk (some i)) Q) : PO ((gR f j c k).bind kk) Q := by
  obtain ⟨x, e, hx⟩ := wt_gR hW hj h9 ht (by omega)
  unfold vR at hx
  rw [if_neg (by omega), if_neg (by omega), if_pos (by omega)] at hx
  obtain ⟨i, rfl, hi⟩ := hx
  rw [e]; exact h i e (by omega)
theorem po_gRm {j c k : Nat} {kk : Option Nat → Option (β × HpN)} (hW : WT G F0 S f n) (hj : G.1 j = c) (h9 : (decide (c < 9) && decide (c ≠ 5)) = true) (ht : (fT c)[k]? = some 306) (h : ∀ i, gR f j c k = some (some i) → G.1 i = 5 → i ≠ 1 → PO (kk (some i)) Q) : PO ((gR f j c k).bind kk) Q := by
  obtain ⟨x, e, hx⟩ := wt_gR hW hj h9 ht (by omega)
  unfold vR at hx
  rw [if_neg (by omega), if_pos rfl] at hx
  obtain ⟨i, rfl, hi, h1⟩ := hx
  rw [e]; exact h i e hi h1
theorem po_gR1 {j : Nat} {kk : Option Nat → Option (β × HpN)} (hW : WT G F0 S f n) (hj : G.1 j = 8) (h : gR f j 8 0 = some (some 1) → PO (kk (some 1)) Q) : PO ((gR f j 8 0).bind kk) Q := by
  obtain ⟨x, e, hx⟩ := wt_gR (k := 0) (t := 301) hW hj rfl rfl (by omega)
  have hx : x = some 1 := hx
  subst hx
  rw [e]; exact h e
theorem po_gRo {j c k t : Nat} {kk : Option Nat → Option (β × HpN)} (hW : WT G F0 S f n) (hj : G.1 j = c) (h9 : (decide (c < 9) && decide (c ≠ 5)) = true) (ht : (fT c)[k]? = some (t + 200)) (h1 : t < 100) (h : ∀ x : Option Nat, gR f j c k = some x → (∀ i, x = some i → G.1 i = t) → PO (kk x) Q) : PO ((gR f j c k).bind kk) Q := by
  obtain ⟨x, e, hx⟩ := wt_gR hW hj h9 ht (by omega)
  unfold vR at hx
  rw [if_neg (by omega), if_neg (by omega), if_neg (by omega)] at hx
  rw [e]; exact h x e (fun i hi => (hx i hi).trans (by omega))
theorem po_pO {j c k t : Nat} {v : Value} {kk : AH → Option (β × HpN)} (hW : WT G F0 S f n) (hj : G.1 j = c) (h9 : (decide (c < 9) && decide (c ≠ 5)) = true) (ht : (fT c)[k]? = some t) (hv : vV G.1 t v) (h : ∀ f', WT G F0 S f' n → PO (kk f') Q) : PO ((pO f j c k v).bind kk) Q := by
  obtain ⟨f', e, hx⟩ := wt_pO hW hj h9 ht hv
  rw [e]; exact h f' hx
theorem po_pI {j c k t : Nat} {x : Int32} {kk : AH → Option (β × HpN)} (hW : WT G F0 S f n) (hj : G.1 j = c) (h9 : (decide (c < 9) && decide (c ≠ 5)) = true) (ht : (fT c)[k]? = some t) (hv : vV G.1 t (.int x)) (h : ∀ f', WT G F0 S f' n → gI f' j c k = some x → PO (kk f') Q) : PO ((pO f j c k (.int x)).bind kk) Q := by
  obtain ⟨f', e, hx⟩ := wt_pO hW hj h9 ht hv
  rw [e]; refine h f' hx ?_
  obtain ⟨fs, h1, h2, h3⟩ := pO_ex e
  unfold gI
  rw [h3, show va_up f j (some (.inr (c, fs.set k (.int x)))) j = some (.inr (c, fs.set k (.int x))) from if_pos rfl]
  show (if c = c then (match (fs.set k (.int x))[k]? with
    | some (.int v) => some v
    | _ => none) else none) = some x
  rw [if_pos rfl, List.getElem?_set_self h2]
theorem vv_i {Γ : Nat → Nat} {t : Nat} {x : Int32} (h1 : t < 100) (h : vI t x) : vV Γ t (.int x) := Or.inl ⟨h1, x, rfl, h⟩
theorem vv_o {Γ : Nat → Nat} {t : Nat} {x : Option Nat} (h1 : t < 100) (h : ∀ i, x = some i → Γ i = t) : vV Γ (t + 200) (va_rf x) := by
  refine Or.inr ⟨by omega, x, rfl, ?_⟩
  unfold vR
  rw [if_neg (by omega), if_neg (by omega), if_neg (by omega)]
  exact fun i hi => (h i hi).trans (by omega)
theorem vv_n {Γ : Nat → Nat} {t i : Nat} (h1 : t < 100) (h : Γ i = t) : vV Γ (t + 100) (va_rf (some i)) := by
  refine Or.inr ⟨by omega, some i, rfl, ?_⟩
  unfold vR
  rw [if_neg (by omega), if_neg (by omega), if_pos (by omega)]
  exact ⟨i, rfl, h.trans (by omega)⟩
theorem po_rs {j : Nat} {kk : Int32 → Option (β × HpN)} (hW : WT G F0 S f n) (hj : G.1 j = 5) (h : ∀ x, gI f j 5 1 = some x → 0 ≤ x.toInt ∧ x.toInt ≤ 600 ∧ x.toInt + 1000 ≤ G.1 (G.2 j) ∧ G.1 (G.2 j) ≤ 1600 → (j = 1 → x = S ∧ G.1 (G.2 j) = 1400) → PO (kk x) Q) : PO ((gI f j 5 1).bind kk) Q := by
  obtain ⟨s, e, h1, h2, h3, h4, h5⟩ := wt_row hW hj
  rw [e]; exact h s e ⟨h1, by omega, h2, h4⟩ h5
theorem po_rb {j : Nat} {kk : Option Nat → Option (β × HpN)} (hW : WT G F0 S f n) (hj : G.1 j = 5) (h : PO (kk (some (G.2 j))) Q) : PO ((gR f j 5 0).bind kk) Q := by
  rw [wt_rb hW hj]; exact h
theorem po_rl {j : Nat} {kk : Nat → Option (β × HpN)} (hW : WT G F0 S f n) (hj : G.1 j = 5) (h : ∀ N : Nat, N + 1000 = G.1 (G.2 j) → N ≤ 600 → (nI N).toInt = N → PO (kk N) Q) : PO ((gL f (G.2 j)).bind kk) Q := by
  rw [wt_rl hW hj]
  obtain ⟨s, e, h1, h2, h3, h4, h5⟩ := wt_row hW hj
  exact h _ (by omega) (by omega) (nI_toInt (by omega))
theorem po_ria {j : Nat} {x : Int32} {kk : Int32 → Option (β × HpN)} (hW : WT G F0 S f n) (hj : G.1 j = 5) (h0 : 0 ≤ x.toInt ∧ x.toInt + 1000 < G.1 (G.2 j)) (h : ∀ v, PO (kk v) Q) : PO ((gIA f (G.2 j) x).bind kk) Q := by
  obtain ⟨v, e⟩ := wt_ria hW hj (x := x) (in_of h0.1 (by omega))
  rw [e]; exact h v
theorem po_rip {j : Nat} {x v : Int32} {kk : AH → Option (β × HpN)} (hW : WT G F0 S f n) (hj : G.1 j = 5) (h0 : 0 ≤ x.toInt ∧ x.toInt + 1000 < G.1 (G.2 j)) (h : ∀ f', WT G F0 S f' n → PO (kk f') Q) : PO ((pIA f (G.2 j) x v).bind kk) Q := by
  obtain ⟨f', e, hx⟩ := wt_rip hW hj (x := x) (v := v) (in_of h0.1 (by omega))
  rw [e]; exact h f' hx
theorem po_gL {j t N : Nat} {kk : Nat → Option (β × HpN)} (hW : WT G F0 S f n) (hj : G.1 j = t) (h1 : (decide (10 ≤ t) && decide (t ≤ 13)) = true) (hN : (aT t).2.1 = N) (h5 : (aT t).1 < 5) (h : PO (kk N) Q) : PO ((gL f j).bind kk) Q := by
  rw [wt_gL hW hj h1 hN h5]; exact h
theorem po_gRAo {j t N : Nat} {x : Int32} {kk : Option Nat → Option (β × HpN)} (hW : WT G F0 S f n) (hj : G.1 j = t) (h1 : (decide (10 ≤ t) && decide (t ≤ 11)) = true) (hN : (aT t).2.1 = N) (hx : 0 ≤ x.toInt ∧ x.toInt < N) (h : ∀ w : Option Nat, (∀ i, w = some i → G.1 i = 5) → PO (kk w) Q) : PO ((gRA f j x).bind kk) Q := by
  simp only [Bool.and_eq_true, decide_eq_true_eq] at h1
  have ht : t = 10 ∨ t = 11 := by omega
  have hT : (aT t).2.2 = 205 := by rcases ht with h | h <;> rw [h] <;> rfl
  have ha : (aT t).1 = 2 := by rcases ht with h | h <;> rw [h] <;> rfl
  obtain ⟨w, e, hw⟩ := wt_gRA hW hj (by simp only [Bool.and_eq_true, decide_eq_true_eq]; omega) hN hT (Or.inr (Or.inl ha)) (in_of hx.1 hx.2)
  rw [e]; exact h w hw
theorem po_gRAn {j t N T : Nat} {x : Int32} {kk : Option Nat → Option (β × HpN)} (hW : WT G F0 S f n) (hj : G.1 j = t) (h1 : (decide (12 ≤ t) && decide (t ≤ 13)) = true) (hN : (aT t).2.1 = N) (hT : (aT t).2.2 = T + 100) (h9 : T < 9) (hx : 0 ≤ x.toInt ∧ x.toInt < N) (h : ∀ i, G.1 i = T → PO (kk (some i)) Q) : PO ((gRA f j x).bind kk) Q := by
  simp only [Bool.and_eq_true, decide_eq_true_eq] at h1
  have ht : t = 12 ∨ t = 13 := by omega
  have ha : (aT t).1 = 1 ∨ (aT t).1 = 2 ∨ (aT t).1 = 3 := by rcases ht with h | h <;> rw [h]
                                                             · exact Or.inr (Or.inr rfl)
                                                             · exact Or.inl rfl
  obtain ⟨w, e, hw⟩ := wt_gRA hW hj (by simp only [Bool.and_eq_true, decide_eq_true_eq]; omega) hN hT ha (in_of hx.1 hx.2)
  unfold vR at hw
  rw [if_neg (by omega), if_neg (by omega), if_pos (by omega)] at hw
  obtain ⟨i, rfl, hi⟩ := hw
  rw [e]; exact h i (by omega)
theorem po_pRAo {j t N : Nat} {x : Int32} {w : Option Nat} {kk : AH → Option (β × HpN)} (hW : WT G F0 S f n) (hj : G.1 j = t) (h1 : (decide (10 ≤ t) && decide (t ≤ 11)) = true) (hN : (aT t).2.1 = N) (hx : 0 ≤ x.toInt ∧ x.toInt < N) (hw : ∀ i, w = some i → G.1 i = 5) (h : ∀ f', WT G F0 S f' n → PO (kk f') Q) : PO ((pRA f j x w).bind kk) Q := by
  simp only [Bool.and_eq_true, decide_eq_true_eq] at h1
  have ht : t = 10 ∨ t = 11 := by omega
  have hT : (aT t).2.2 = 205 := by rcases ht with h | h <;> rw [h] <;> rfl
  have ha : (aT t).1 = 2 := by rcases ht with h | h <;> rw [h] <;> rfl
  obtain ⟨f', e, hf⟩ := wt_pRA hW hj (by simp only [Bool.and_eq_true, decide_eq_true_eq]; omega) hN hT (Or.inr (Or.inl ha)) (in_of hx.1 hx.2) (w := w) hw (fun i hi => by rw [ha]; exact hw i hi)
  rw [e]; exact h f' hf
theorem po_pRAs {j i : Nat} {x : Int32} {kk : AH → Option (β × HpN)} (hW : WT G F0 S f n) (hj : G.1 j = 12) (hx : 0 ≤ x.toInt ∧ x.toInt < 8) (hw : G.1 i = 7) (h : ∀ f', WT G F0 S f' n → PO (kk f') Q) : PO ((pRA f j x (some i)).bind kk) Q := by
  obtain ⟨f', e, hf⟩ := wt_pRA hW hj rfl (N := 8) rfl (T := 107) rfl (Or.inr (Or.inr rfl)) (in_of hx.1 hx.2) (w := some i) ⟨i, rfl, hw⟩ (fun i2 hi => by rw [← Option.some.inj hi]; exact hw)
  rw [e]; exact h f' hf
theorem po_oNn {γ : Type} {A : Option (β × HpN)} {k : γ → Option (β × HpN)} (h : PO A Q) : PO (oN (none : Option γ) A k) Q := h
theorem po_oNs {γ : Type} {a : γ} {A : Option (β × HpN)} {k : γ → Option (β × HpN)} (h : PO (k a) Q) : PO (oN (some a) A k) Q := h
theorem po_oN {γ : Type} {w : Option γ} {A : Option (β × HpN)} {k : γ → Option (β × HpN)} (h0 : w = none → PO A Q) (h1 : ∀ a, w = some a → PO (k a) Q) : PO (oN w A k) Q := by
  cases w with
  | none => exact h0 rfl
  | some a => exact h1 a rfl
theorem po_tS {γ : Type} {w : α ⊕ String} {hn : HpN} {k : α → Option ((γ ⊕ String) × HpN)} {Q : (γ ⊕ String) → AH → Nat → Prop} (h0 : ∀ a, w = .inl a → PO (k a) Q) (h1 : ∀ E, w = .inr E → Q (.inr E) hn.1 hn.2) : PO (tS w hn k) Q := by
  cases w with
  | inl a => exact h0 a rfl
  | inr E => exact ⟨_, _, _, rfl, h1 E rfl⟩
end POS
/-! numbers -/
theorem i_add {x y : Int32} {a b : Int} (ex : x.toInt = a) (ey : y.toInt = b) (h : -2147483648 ≤ a + b ∧ a + b ≤ 2147483647) : (x + y).toInt = a + b := by
  rw [Int32.toInt_add, ex, ey]
  exact Int.bmod_eq_of_le (by omega) (by omega)
theorem i_sub {x y : Int32} {a b : Int} (ex : x.toInt = a) (ey : y.toInt = b) (h : -2147483648 ≤ a - b ∧ a - b ≤ 2147483647) : (x - y).toInt = a - b := by
  rw [Int32.toInt_sub, ex, ey]
  exact Int.bmod_eq_of_le (by omega) (by omega)
theorem rg {x : Int32} {d lo hi : Int} (p : x.toInt = d) (h : lo ≤ d ∧ d ≤ hi) : lo ≤ x.toInt ∧ x.toInt ≤ hi := by rw [p]; exact h
theorem vi2 {x : Int32} (h : 0 ≤ x.toInt ∧ x.toInt ≤ 700) : vI 2 x := h
theorem vi3 {x : Int32} (h : 0 ≤ x.toInt ∧ x.toInt ≤ 40) : vI 3 x := h
theorem vi4 {x : Int32} (h : 0 ≤ x.toInt ∧ x.toInt ≤ 12) : vI 4 x := h
theorem vi5 {x : Int32} (h : 0 ≤ x.toInt ∧ x.toInt ≤ 600) : vI 5 x := h
theorem vi6 {x : Int32} (h : -700 ≤ x.toInt ∧ x.toInt ≤ 700) : vI 6 x := h
theorem vi7 {x : Int32} (h : 0 ≤ x.toInt ∧ x.toInt ≤ 5) : vI 7 x := h
theorem vi8 {x : Int32} (h : 0 ≤ x.toInt ∧ x.toInt ≤ 2000) : vI 8 x := h
theorem vi9 {x : Int32} (h : -1 ≤ x.toInt ∧ x.toInt ≤ 702) : vI 9 x := h
theorem vi10 {x : Int32} (h : 0 ≤ x.toInt ∧ x.toInt ≤ 702) : vI 10 x := h
theorem nb_of {x : Int32} (h : x = 0 ∨ x = 1) : rNb x = true := by rcases h with rfl | rfl <;> decide
theorem jmax_b {a b : Int32} {p q : Int} (ea : a.toInt = p) (eb : b.toInt = q) : p ≤ (jMax a b).toInt ∧ q ≤ (jMax a b).toInt ∧ ((jMax a b).toInt = p ∨ (jMax a b).toInt = q) := by
  unfold jMax
  by_cases h : a.toInt < b.toInt
  · rw [if_pos (c_lt h)]; omega
  · rw [if_neg (c_nlt (by omega))]; omega
theorem jmin_b {a b : Int32} {p q : Int} (ea : a.toInt = p) (eb : b.toInt = q) : (jMin a b).toInt ≤ p ∧ (jMin a b).toInt ≤ q ∧ ((jMin a b).toInt = p ∨ (jMin a b).toInt = q) := by
  unfold jMin
  by_cases h : b.toInt < a.toInt
  · rw [if_pos (c_lt h)]; omega
  · rw [if_neg (c_nlt (by omega))]; omega
/-! a typing grows -/
def EXT (G G' : TE) : Prop := ∀ j, G.1 j ≠ 99 → G'.1 j = G.1 j ∧ G'.2 j = G.2 j
theorem EXT.rfl {G : TE} : EXT G G := fun _ _ => ⟨_root_.rfl, _root_.rfl⟩
theorem EXT.trans {A B C : TE} (h1 : EXT A B) (h2 : EXT B C) : EXT A C := fun j hj => by
  have a := h1 j hj
  have b := h2 j (by rw [a.1]; exact hj)
  exact ⟨b.1.trans a.1, b.2.trans a.2⟩
theorem EXT.ty {G G' : TE} (h : EXT G G') {j t : Nat} (hj : G.1 j = t) (ht : t ≠ 99) : G'.1 j = t := ((h j (by omega)).1).trans hj
theorem EXT.op {G G' : TE} (h : EXT G G') {w : Option Nat} {t : Nat} (hw : ∀ i, w = some i → G.1 i = t) (ht : t ≠ 99) : ∀ i, w = some i → G'.1 i = t := fun i hi => h.ty (hw i hi) ht
