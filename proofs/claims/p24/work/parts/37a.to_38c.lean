/-! part 37a.wt -/
section
/-! the class: its heap is typed -/
abbrev TE : Type := (Nat → Nat) × (Nat → Nat)
def vI : Nat → Int32 → Prop
  | 1, x => x = 0 ∨ x = 1
  | 2, x => 0 ≤ x.toInt ∧ x.toInt ≤ 700
  | 3, x => 0 ≤ x.toInt ∧ x.toInt ≤ 40
  | 4, x => 0 ≤ x.toInt ∧ x.toInt ≤ 12
  | 5, x => 0 ≤ x.toInt ∧ x.toInt ≤ 600
  | 6, x => -700 ≤ x.toInt ∧ x.toInt ≤ 700
  | 7, x => 0 ≤ x.toInt ∧ x.toInt ≤ 5
  | 8, x => 0 ≤ x.toInt ∧ x.toInt ≤ 2000
  | 9, x => -1 ≤ x.toInt ∧ x.toInt ≤ 702
  | 10, x => 0 ≤ x.toInt ∧ x.toInt ≤ 702
  | _, _ => True
def vR (Γ : Nat → Nat) (c : Nat) (w : Option Nat) : Prop := if c = 301 then w = some 1 else if c = 306 then ∃ j, w = some j ∧ Γ j = 5 ∧ j ≠ 1 else if c < 200 then ∃ j, w = some j ∧ Γ j = c - 100 else ∀ j, w = some j → Γ j = c - 200
def vV (Γ : Nat → Nat) (c : Nat) (v : Value) : Prop := (c < 100 ∧ ∃ x, v = .int x ∧ vI c x) ∨ (100 ≤ c ∧ ∃ w, v = va_rf w ∧ vR Γ c w)
def fT : Nat → List Nat
  | 0 => [306, 306, 306, 0]
  | 1 => [306, 306, 113, 3, 106, 106, 306, 306]
  | 2 => [105, 105, 202]
  | 3 => [0, 0, 5, 6, 0, 0, 1, 1, 1, 0, 0, 0]
  | 4 => [1, 8, 0, 0, 0, 205, 0, 105]
  | 6 => [105, 10, 9, 1, 2, 0, 0, 7, 0, 2]
  | 7 => [105, 0, 0, 1, 0, 0, 202, 4, 110, 111]
  | 8 => [301, 107, 107, 107, 112, 101, 101, 100, 104, 1, 1, 0, 0, 0]
  | _ => []
def okO (Γ : Nat → Nat) (c : Nat) (fs : List Value) : Prop := fs.length = (fT c).length ∧ ∀ k < (fT c).length, ∃ v, fs[k]? = some v ∧ vV Γ ((fT c).getD k 0) v
def aT : Nat → Nat × Nat × Nat
  | 10 => (2, 4, 205)
  | 11 => (2, 40, 205)
  | 12 => (3, 8, 107)
  | _ => (1, 40, 103)
def okC (G : TE) (S : Int32) (f : AH) (j : Nat) : Prop :=
  (G.1 j = 5 → ∃ s : Int32, f j = some (.inr (5, [.ref (G.2 j), .int s])) ∧ 1000 ≤ G.1 (G.2 j) ∧ G.1 (G.2 j) ≤ 1600 ∧ 0 ≤ s.toInt ∧ s.toInt + 1000 ≤ G.1 (G.2 j) ∧ (j = 1 → s = S ∧ G.1 (G.2 j) = 1400)) ∧ (G.1 j < 9 → G.1 j ≠ 5 → ∃ fs, f j = some (.inr (G.1 j, fs)) ∧ okO G.1 (G.1 j) fs) ∧ (10 ≤ G.1 j → G.1 j ≤ 13 → ∃ g, f j = some (.inl ((aT (G.1 j)).1, (aT (G.1 j)).2.1, .inr (.inr g))) ∧ ∀ i < (aT (G.1 j)).2.1, vR G.1 (aT (G.1 j)).2.2 (g i)) ∧ (1000 ≤ G.1 j → ∃ g, f j = some (.inl (0, G.1 j - 1000, .inl g)))
def WT (G : TE) (F0 : AH) (S : Int32) (f : AH) (n : Nat) : Prop := (∀ j, okC G S f j) ∧ (∀ j, G.1 j ≠ 99 → j < n) ∧ (∀ j, 181 ≤ j → j ≤ 223 → G.1 j = 99 ∧ f j = F0 j) ∧ 224 ≤ n ∧ G.1 0 = 8 ∧ G.1 1 = 5
section WTS
variable {G : TE} {F0 : AH} {S : Int32} {f f2 : AH} {n : Nat}
theorem wt_ob (hW : WT G F0 S f n) {j c : Nat} (hj : G.1 j = c) (h9 : c < 9) (h5 : c ≠ 5) : ∃ fs, f j = some (.inr (c, fs)) ∧ okO G.1 c fs := by
  subst hj
  exact (hW.1 j).2.1 h9 h5
theorem wt_gI (hW : WT G F0 S f n) {j c k t : Nat} (hj : G.1 j = c) (h9 : (decide (c < 9) && decide (c ≠ 5)) = true) (ht : (fT c)[k]? = some t) (h1 : t < 100) : ∃ x, gI f j c k = some x ∧ vI t x := by
  simp only [Bool.and_eq_true, decide_eq_true_eq] at h9
  obtain ⟨fs, hf, hl, hk⟩ := wt_ob hW hj h9.1 h9.2
  have hkl : k < (fT c).length := by
    rcases Nat.lt_or_ge k (fT c).length with h | h
    · exact h
    · rw [List.getElem?_eq_none h] at ht; cases ht
  obtain ⟨v, hv, ho⟩ := hk k hkl
  have e : (fT c).getD k 0 = t := by rw [List.getD_eq_getElem?_getD, ht]; rfl
  rw [e] at ho
  rcases ho with ⟨-, x, rfl, hx⟩ | ⟨q, -⟩
  · refine ⟨x, ?_, hx⟩
    unfold gI
    rw [hf]
    show (if c = c then (match fs[k]? with
    | some (.int v) => some v
    | _ => none) else none) = some x
    rw [if_pos rfl, hv]
  · omega
theorem wt_gR (hW : WT G F0 S f n) {j c k t : Nat} (hj : G.1 j = c) (h9 : (decide (c < 9) && decide (c ≠ 5)) = true) (ht : (fT c)[k]? = some t) (h1 : 100 ≤ t) : ∃ x, gR f j c k = some x ∧ vR G.1 t x := by
  simp only [Bool.and_eq_true, decide_eq_true_eq] at h9
  obtain ⟨fs, hf, hl, hk⟩ := wt_ob hW hj h9.1 h9.2
  have hkl : k < (fT c).length := by
    rcases Nat.lt_or_ge k (fT c).length with h | h
    · exact h
    · rw [List.getElem?_eq_none h] at ht; cases ht
  obtain ⟨v, hv, ho⟩ := hk k hkl
  have e : (fT c).getD k 0 = t := by rw [List.getD_eq_getElem?_getD, ht]; rfl
  rw [e] at ho
  rcases ho with ⟨q, -⟩ | ⟨-, x, rfl, hx⟩
  · omega
  · refine ⟨x, ?_, hx⟩
    unfold gR
    rw [hf]
    show (if c = c then (match fs[k]? with
    | some .null => some none
    | some (.ref j) => some (some j)
    | _ => none) else none) = some x
    rw [if_pos rfl, hv]
    cases x <;> rfl
theorem wt_up (hW : WT G F0 S f n) {j : Nat} (hj : G.1 j ≠ 99) {S2 : Int32} (v : Option AE) (hc : okC G S2 (va_up f j v) j) (h1 : j ≠ 1 → S2 = S) : WT G F0 S2 (va_up f j v) n := by
  refine ⟨fun i => ?_, hW.2.1, fun i a b => ?_, hW.2.2.2⟩
  · by_cases hi : i = j
    · subst hi; exact hc
    · have e : va_up f j v i = f i := if_neg hi
      have h := hW.1 i
      unfold okC at h ⊢
      rw [e]
      refine ⟨fun q => ?_, h.2⟩
      obtain ⟨s, h2, h3, h4, h5, h6, h7⟩ := h.1 q
      refine ⟨s, h2, h3, h4, h5, h6, fun q1 => ?_⟩
      have hj1 : j ≠ 1 := fun q2 => hi (q1.trans q2.symm)
      rw [h1 hj1]; exact h7 q1
  · have h2 := hW.2.2.1 i a b
    refine ⟨h2.1, ?_⟩
    have hi : i ≠ j := fun q => hj (by rw [← q]; exact h2.1)
    exact (if_neg hi).trans h2.2
theorem wt_pO (hW : WT G F0 S f n) {j c k t : Nat} {v : Value} (hj : G.1 j = c) (h9 : (decide (c < 9) && decide (c ≠ 5)) = true) (ht : (fT c)[k]? = some t) (hv : vV G.1 t v) : ∃ f', pO f j c k v = some f' ∧ WT G F0 S f' n := by
  simp only [Bool.and_eq_true, decide_eq_true_eq] at h9
  obtain ⟨fs, hf, hl, hk⟩ := wt_ob hW hj h9.1 h9.2
  have hkl : k < (fT c).length := by
    rcases Nat.lt_or_ge k (fT c).length with h | h
    · exact h
    · rw [List.getElem?_eq_none h] at ht; cases ht
  have e : (fT c).getD k 0 = t := by rw [List.getD_eq_getElem?_getD, ht]; rfl
  refine ⟨va_up f j (some (.inr (c, fs.set k v))), ?_, ?_⟩
  · unfold pO
    rw [hf]
    show (if c = c ∧ k < fs.length then _ else _) = _
    rw [if_pos ⟨rfl, by omega⟩]
  · refine wt_up hW (by omega) _ ?_ (fun _ => rfl)
    have e2 : va_up f j (some (.inr (c, fs.set k v))) j = some (.inr (c, fs.set k v)) := if_pos rfl
    refine ⟨fun q => absurd (hj.symm.trans q) h9.2, fun _ _ => ?_, fun q => by omega, fun q => by omega⟩
    rw [e2, hj]
    refine ⟨_, rfl, by rw [List.length_set]; exact hl, fun i hi => ?_⟩
    by_cases hik : k = i
    · subst hik
      exact ⟨v, by rw [List.getElem?_set_self (by omega)], by rw [e]; exact hv⟩
    · obtain ⟨w, h3, h4⟩ := hk i hi
      exact ⟨w, by rw [List.getElem?_set_ne hik]; exact h3, h4⟩
theorem wt_isO (hW : WT G F0 S f n) {j c : Nat} (hj : G.1 j = c) (h9 : c < 9) : isO f j c = true := by
  by_cases h5 : c = 5
  · subst h5
    obtain ⟨s, hf, -⟩ := (hW.1 j).1 hj
    unfold isO; rw [hf]; exact decide_eq_true rfl
  · obtain ⟨fs, hf, -⟩ := wt_ob hW hj h9 h5
    unfold isO; rw [hf]; exact decide_eq_true rfl
/-! rows -/
theorem wt_row (hW : WT G F0 S f n) {j : Nat} (hj : G.1 j = 5) : ∃ s : Int32, gI f j 5 1 = some s ∧ 0 ≤ s.toInt ∧ s.toInt + 1000 ≤ G.1 (G.2 j) ∧ 1000 ≤ G.1 (G.2 j) ∧ G.1 (G.2 j) ≤ 1600 ∧ (j = 1 → s = S ∧ G.1 (G.2 j) = 1400) := by
  obtain ⟨s, hf, h1, h2, h3, h4, h5⟩ := (hW.1 j).1 hj
  exact ⟨s, by unfold gI; rw [hf]; rfl, h3, h4, h1, h2, h5⟩
theorem wt_rb (hW : WT G F0 S f n) {j : Nat} (hj : G.1 j = 5) : gR f j 5 0 = some (some (G.2 j)) := by
  obtain ⟨s, hf, -⟩ := (hW.1 j).1 hj
  unfold gR; rw [hf]; rfl
theorem wt_rc (hW : WT G F0 S f n) {j : Nat} (hj : G.1 j = 5) : ∃ g, f (G.2 j) = some (.inl (0, G.1 (G.2 j) - 1000, .inl g)) := by
  obtain ⟨s, hf, h1, h2, h3, h4, h5⟩ := (hW.1 j).1 hj
  exact (hW.1 (G.2 j)).2.2.2 h1
theorem wt_rl (hW : WT G F0 S f n) {j : Nat} (hj : G.1 j = 5) : gL f (G.2 j) = some (G.1 (G.2 j) - 1000) := by
  obtain ⟨g, hg⟩ := wt_rc hW hj
  unfold gL; rw [hg]; rfl
theorem in_of {x : Int32} {N : Nat} (h0 : 0 ≤ x.toInt) (h1 : x.toInt < N) : rIn x N = true := by
  unfold rIn
  have a : ¬ x < 0 := c_nlt (by show (0 : Int32).toInt ≤ _; rw [show (0 : Int32).toInt = 0 by decide]; exact h0)
  have b : x.toNatClampNeg = x.toInt.toNat := rfl
  simp only [Bool.and_eq_true, Bool.not_eq_true', decide_eq_false_iff_not, decide_eq_true_eq]
  exact ⟨a, by rw [b]; omega⟩
theorem wt_ria (hW : WT G F0 S f n) {j : Nat} (hj : G.1 j = 5) {x : Int32} (h : rIn x (G.1 (G.2 j) - 1000) = true) : ∃ v, gIA f (G.2 j) x = some v := by
  obtain ⟨g, hg⟩ := wt_rc hW hj
  refine ⟨g x.toNatClampNeg, ?_⟩
  unfold gIA; rw [hg]
  exact if_pos ⟨rfl, h⟩
theorem wt_rip (hW : WT G F0 S f n) {j : Nat} (hj : G.1 j = 5) {x v : Int32} (h : rIn x (G.1 (G.2 j) - 1000) = true) : ∃ f', pIA f (G.2 j) x v = some f' ∧ WT G F0 S f' n := by
  obtain ⟨g, hg⟩ := wt_rc hW hj
  obtain ⟨s, hs, h1, h2, h3, h4, h5⟩ := wt_row hW hj
  refine ⟨va_up f (G.2 j) (some (.inl (0, G.1 (G.2 j) - 1000, .inl (upd g x.toNatClampNeg v)))), ?_, ?_⟩
  · unfold pIA; rw [hg]
    exact if_pos ⟨rfl, h⟩
  · refine wt_up hW (by omega) _ ?_ (fun _ => rfl)
    refine ⟨fun q => by omega, fun q => by omega, fun _ q => by omega, fun _ => ⟨_, if_pos rfl⟩⟩
theorem wt_rsp (hW : WT G F0 S f n) {j : Nat} (hj : G.1 j = 5) {v : Int32} (h0 : 0 ≤ v.toInt) (h1 : v.toInt + 1000 ≤ G.1 (G.2 j)) : ∃ f', pO f j 5 1 (.int v) = some f' ∧ WT G F0 (if j = 1 then v else S) f' n := by
  obtain ⟨s, hf, g1, g2, g3, g4, g5⟩ := (hW.1 j).1 hj
  refine ⟨va_up f j (some (.inr (5, [.ref (G.2 j), .int v]))), ?_, ?_⟩
  · unfold pO; rw [hf]; rfl
  · refine wt_up hW (by omega) _ ?_ (fun q => if_neg q)
    refine ⟨fun _ => ⟨v, if_pos rfl, g1, g2, h0, h1, fun q => ⟨(if_pos q).symm, (g5 q).2⟩⟩, fun _ q => absurd hj q, fun q => by omega, fun q => by omega⟩
theorem wt_S (hW : WT G F0 S f n) : 0 ≤ S.toInt ∧ S.toInt ≤ 400 := by
  obtain ⟨s, hs, h1, h2, h3, h4, h5⟩ := wt_row hW hW.2.2.2.2.2
  have h6 := h5 rfl
  rw [← h6.1]; omega
/-! arrays of things -/
theorem wt_gL (hW : WT G F0 S f n) {j t : Nat} (hj : G.1 j = t) (h1 : (decide (10 ≤ t) && decide (t ≤ 13)) = true) {N : Nat} (hN : (aT t).2.1 = N) (h5 : (aT t).1 < 5) : gL f j = some N := by
  simp only [Bool.and_eq_true, decide_eq_true_eq] at h1
  subst hj
  obtain ⟨g, hg, -⟩ := (hW.1 j).2.2.1 h1.1 h1.2
  unfold gL; rw [hg]
  show (if _ then _ else _) = _
  rw [if_pos h5, hN]
theorem wt_gRA (hW : WT G F0 S f n) {j t : Nat} (hj : G.1 j = t) (h1 : (decide (10 ≤ t) && decide (t ≤ 13)) = true) {N T : Nat} (hN : (aT t).2.1 = N) (hT : (aT t).2.2 = T) (h5 : (aT t).1 = 1 ∨ (aT t).1 = 2 ∨ (aT t).1 = 3) {x : Int32} (hx : rIn x N = true) : ∃ w, gRA f j x = some w ∧ vR G.1 T w := by
  simp only [Bool.and_eq_true, decide_eq_true_eq] at h1
  subst hj
  obtain ⟨g, hg, ho⟩ := (hW.1 j).2.2.1 h1.1 h1.2
  refine ⟨g x.toNatClampNeg, ?_, ?_⟩
  · unfold gRA; rw [hg]
    show (if _ then _ else _) = _
    rw [if_pos ⟨h5, by rw [hN]; exact hx⟩]
  · rw [← hT]
    refine ho _ ?_
    rw [hN]
    simp only [rIn, Bool.and_eq_true, Bool.not_eq_true', decide_eq_false_iff_not, decide_eq_true_eq] at hx
    exact hx.2
theorem wt_pRA (hW : WT G F0 S f n) {j t : Nat} (hj : G.1 j = t) (h1 : (decide (10 ≤ t) && decide (t ≤ 13)) = true) {N T : Nat} (hN : (aT t).2.1 = N) (hT : (aT t).2.2 = T) (h5 : (aT t).1 = 1 ∨ (aT t).1 = 2 ∨ (aT t).1 = 3) {x : Int32} (hx : rIn x N = true) {w : Option Nat} (hw : vR G.1 T w) (hwc : ∀ i, w = some i → G.1 i = tcl (aT t).1) : ∃ f', pRA f j x w = some f' ∧ WT G F0 S f' n := by
  simp only [Bool.and_eq_true, decide_eq_true_eq] at h1
  subst hj
  obtain ⟨g, hg, ho⟩ := (hW.1 j).2.2.1 h1.1 h1.2
  have hok : okR f (aT (G.1 j)).1 w = true := by
    cases w with
    | none => rfl
    | some i =>
      have h9 : tcl (aT (G.1 j)).1 < 9 := by rcases h5 with h | h | h <;> rw [h] <;> decide
      exact wt_isO hW (hwc i rfl) h9
  refine ⟨va_up f j (some (.inl ((aT (G.1 j)).1, (aT (G.1 j)).2.1, .inr (.inr (va_up g x.toNatClampNeg w))))), ?_, ?_⟩
  · unfold pRA; rw [hg]
    show (if _ then _ else _) = _
    rw [if_pos ⟨⟨h5, by rw [hN]; exact hx⟩, hok⟩]
  · refine wt_up hW (by omega) _ ?_ (fun _ => rfl)
    refine ⟨fun q => by omega, fun q => by omega, fun _ _ => ⟨_, if_pos rfl, fun i hi => ?_⟩, fun q => by omega⟩
    show vR G.1 _ (if i = x.toNatClampNeg then w else g i)
    by_cases hix : i = x.toNatClampNeg
    · rw [if_pos hix, hT]; exact hw
    · rw [if_neg hix]; exact ho i hi
end WTS
/-! a call's answer -/
def PO {α : Type} (o : Option (α × HpN)) (Q : α → AH → Nat → Prop) : Prop := ∃ v f n, o = some (v, (f, n)) ∧ Q v f n
section POS
variable {α β : Type} {Q : β → AH → Nat → Prop} {G : TE} {F0 : AH} {S : Int32} {f : AH} {n : Nat}
theorem po_bind {γ : Type} {o : Option γ} {a : γ} {k : γ → Option (β × HpN)} (e : o = some a) (h : PO (k a) Q) : PO (o.bind k) Q := by rw [e]; exact h
theorem po_some {γ : Type} {a : γ} {k : γ → Option (β × HpN)} (h : PO (k a) Q) : PO ((some a).bind k) Q := h
theorem po_ret {v : β} (h : Q v f n) : PO (some (v, (f, n))) Q := ⟨v, f, n, rfl, h⟩
theorem po_ck {b : Bool} {x : Option (β × HpN)} (hb : b = true) (h : PO x Q) : PO (rCk b x) Q := by rw [hb]; exact h
theorem po_call {o : Option (α × HpN)} {Q1 : α → AH → Nat → Prop} {k : α × HpN → Option (β × HpN)} (h1 : PO o Q1) (h : ∀ v f n, Q1 v f n → PO (k (v, (f, n))) Q) : PO (o.bind k) Q := by
  obtain ⟨v, f, n, e, q⟩ := h1
  rw [e]; exact h v f n q
theorem po_callE {o : Option (α × HpN)} {Q1 : α → AH → Nat → Prop} {k : α × HpN → Option (β × HpN)} (h1 : PO o Q1) (h : ∀ v f n, o = some (v, (f, n)) → Q1 v f n → PO (k (v, (f, n))) Q) : PO (o.bind k) Q := by
  obtain ⟨v, f, n, e, q⟩ := h1
  have h2 := h v f n e q
  rw [e]; exact h2
theorem po_tail {o : Option (β × HpN)} {Q1 : β → AH → Nat → Prop} (h1 : PO o Q1) (h : ∀ v f n, Q1 v f n → Q v f n) : PO o Q := by
  obtain ⟨v, f, n, e, q⟩ := h1
  exact ⟨v, f, n, e, h v f n q⟩
theorem po_lt {x y : Int32} {a b : Int} {A B : Option (β × HpN)} (ex : x.toInt = a) (ey : y.toInt = b) (h1 : a < b → PO A Q) (h2 : b ≤ a → PO B Q) : PO (if x < y then A else B) Q := by
  subst ex ey
  by_cases h : x.toInt < y.toInt
  · rw [if_pos (c_lt h)]; exact h1 h
  · rw [if_neg (c_nlt (by omega))]; exact h2 (by omega)
theorem po_le {x y : Int32} {a b : Int} {A B : Option (β × HpN)} (ex : x.toInt = a) (ey : y.toInt = b) (h1 : a ≤ b → PO A Q) (h2 : b < a → PO B Q) : PO (if x ≤ y then A else B) Q := by
  subst ex ey
  by_cases h : x.toInt ≤ y.toInt
  · rw [if_pos (c_le h)]; exact h1 h
  · rw [if_neg (c_nle (by omega))]; exact h2 (by omega)
theorem po_eq {x y : Int32} {A B : Option (β × HpN)} (h1 : x = y → PO A Q) (h2 : x ≠ y → PO B Q) : PO (if x = y then A else B) Q := by
  by_cases h : x = y
  · rw [if_pos h]; exact h1 h
  · rw [if_neg h]; exact h2 h
theorem po_gI {j c k t : Nat} {kk : Int32 → Option (β × HpN)} (hW : WT G F0 S f n) (hj : G.1 j = c) (h9 : (decide (c < 9) && decide (c ≠ 5)) = true) (ht : (fT c)[k]? = some t) (h1 : t < 100) (h : ∀ x, gI f j c k = some x → vI t x → PO (kk x) Q) : PO ((gI f j c k).bind kk) Q := by
  obtain ⟨x, e, hx⟩ := wt_gI hW hj h9 ht h1
  rw [e]; exact h x e hx
theorem po_gRn {j c k t : Nat} {kk : Option Nat → Option (β × HpN)} (hW : WT G F0 S f n) (hj : G.1 j = c) (h9 : (decide (c < 9) && decide (c ≠ 5)) = true) (ht : (fT c)[k]? = some (t + 100)) (h1 : t < 100) (h : ∀ i, gR f j c k = some (some i) → G.1 i = t → PO (kk (some i)) Q) : PO ((gR f j c k).bind kk) Q := by
  obtain ⟨x, e, hx⟩ := wt_gR hW hj h9 ht (by omega)
  unfold vR at hx
  rw [if_neg (by omega), if_neg (by omega), if_pos (by omega)] at hx
  obtain ⟨i, rfl, hi⟩ := hx
  rw [e]; exact h i e (by omega)
theorem po_gRm {j c k : Nat} {kk : Option Nat → Option (β × HpN)} (hW : WT G F0 S f n) (hj : G.1 j = c) (h9 : (decide (c < 9) && decide (c ≠ 5)) = true) (ht : (fT c)[k]? = some 306) (h : ∀ i, gR f j c k = some (some i) → G.1 i = 5 → i ≠ 1 → PO (kk (some i)) Q) : PO ((gR f j c k).bind kk) Q := by
  obtain ⟨x, e, hx⟩ := wt_gR hW hj h9 ht (by omega)
  unfold vR at hx
  rw [if_neg (by omega), if_pos rfl] at hx
  obtain ⟨i, rfl, hi, h1⟩ := hx
  rw [e]; exact h i e hi h1
theorem po_gR1 {j : Nat} {kk : Option Nat → Option (β × HpN)} (hW : WT G F0 S f n) (hj : G.1 j = 8) (h : gR f j 8 0 = some (some 1) → PO (kk (some 1)) Q) : PO ((gR f j 8 0).bind kk) Q := by
  obtain ⟨x, e, hx⟩ := wt_gR (k := 0) (t := 301) hW hj rfl rfl (by omega)
  have hx : x = some 1 := hx
  subst hx
  rw [e]; exact h e
theorem po_gRo {j c k t : Nat} {kk : Option Nat → Option (β × HpN)} (hW : WT G F0 S f n) (hj : G.1 j = c) (h9 : (decide (c < 9) && decide (c ≠ 5)) = true) (ht : (fT c)[k]? = some (t + 200)) (h1 : t < 100) (h : ∀ x : Option Nat, gR f j c k = some x → (∀ i, x = some i → G.1 i = t) → PO (kk x) Q) : PO ((gR f j c k).bind kk) Q := by
  obtain ⟨x, e, hx⟩ := wt_gR hW hj h9 ht (by omega)
  unfold vR at hx
  rw [if_neg (by omega), if_neg (by omega), if_neg (by omega)] at hx
  rw [e]; exact h x e (fun i hi => (hx i hi).trans (by omega))
theorem po_pO {j c k t : Nat} {v : Value} {kk : AH → Option (β × HpN)} (hW : WT G F0 S f n) (hj : G.1 j = c) (h9 : (decide (c < 9) && decide (c ≠ 5)) = true) (ht : (fT c)[k]? = some t) (hv : vV G.1 t v) (h : ∀ f', WT G F0 S f' n → PO (kk f') Q) : PO ((pO f j c k v).bind kk) Q := by
  obtain ⟨f', e, hx⟩ := wt_pO hW hj h9 ht hv
  rw [e]; exact h f' hx
theorem po_pI {j c k t : Nat} {x : Int32} {kk : AH → Option (β × HpN)} (hW : WT G F0 S f n) (hj : G.1 j = c) (h9 : (decide (c < 9) && decide (c ≠ 5)) = true) (ht : (fT c)[k]? = some t) (hv : vV G.1 t (.int x)) (h : ∀ f', WT G F0 S f' n → gI f' j c k = some x → PO (kk f') Q) : PO ((pO f j c k (.int x)).bind kk) Q := by
  obtain ⟨f', e, hx⟩ := wt_pO hW hj h9 ht hv
  rw [e]; refine h f' hx ?_
  obtain ⟨fs, h1, h2, h3⟩ := pO_ex e
  unfold gI
  rw [h3, show va_up f j (some (.inr (c, fs.set k (.int x)))) j = some (.inr (c, fs.set k (.int x))) from if_pos rfl]
  show (if c = c then (match (fs.set k (.int x))[k]? with
    | some (.int v) => some v
    | _ => none) else none) = some x
  rw [if_pos rfl, List.getElem?_set_self h2]
theorem vv_i {Γ : Nat → Nat} {t : Nat} {x : Int32} (h1 : t < 100) (h : vI t x) : vV Γ t (.int x) := Or.inl ⟨h1, x, rfl, h⟩
theorem vv_o {Γ : Nat → Nat} {t : Nat} {x : Option Nat} (h1 : t < 100) (h : ∀ i, x = some i → Γ i = t) : vV Γ (t + 200) (va_rf x) := by
  refine Or.inr ⟨by omega, x, rfl, ?_⟩
  unfold vR
  rw [if_neg (by omega), if_neg (by omega), if_neg (by omega)]
  exact fun i hi => (h i hi).trans (by omega)
theorem vv_n {Γ : Nat → Nat} {t i : Nat} (h1 : t < 100) (h : Γ i = t) : vV Γ (t + 100) (va_rf (some i)) := by
  refine Or.inr ⟨by omega, some i, rfl, ?_⟩
  unfold vR
  rw [if_neg (by omega), if_neg (by omega), if_pos (by omega)]
  exact ⟨i, rfl, h.trans (by omega)⟩
theorem po_rs {j : Nat} {kk : Int32 → Option (β × HpN)} (hW : WT G F0 S f n) (hj : G.1 j = 5) (h : ∀ x, gI f j 5 1 = some x → 0 ≤ x.toInt ∧ x.toInt ≤ 600 ∧ x.toInt + 1000 ≤ G.1 (G.2 j) ∧ G.1 (G.2 j) ≤ 1600 → (j = 1 → x = S ∧ G.1 (G.2 j) = 1400) → PO (kk x) Q) : PO ((gI f j 5 1).bind kk) Q := by
  obtain ⟨s, e, h1, h2, h3, h4, h5⟩ := wt_row hW hj
  rw [e]; exact h s e ⟨h1, by omega, h2, h4⟩ h5
theorem po_rb {j : Nat} {kk : Option Nat → Option (β × HpN)} (hW : WT G F0 S f n) (hj : G.1 j = 5) (h : PO (kk (some (G.2 j))) Q) : PO ((gR f j 5 0).bind kk) Q := by
  rw [wt_rb hW hj]; exact h
theorem po_rl {j : Nat} {kk : Nat → Option (β × HpN)} (hW : WT G F0 S f n) (hj : G.1 j = 5) (h : ∀ N : Nat, N + 1000 = G.1 (G.2 j) → N ≤ 600 → (nI N).toInt = N → PO (kk N) Q) : PO ((gL f (G.2 j)).bind kk) Q := by
  rw [wt_rl hW hj]
  obtain ⟨s, e, h1, h2, h3, h4, h5⟩ := wt_row hW hj
  exact h _ (by omega) (by omega) (nI_toInt (by omega))
theorem po_ria {j : Nat} {x : Int32} {kk : Int32 → Option (β × HpN)} (hW : WT G F0 S f n) (hj : G.1 j = 5) (h0 : 0 ≤ x.toInt ∧ x.toInt + 1000 < G.1 (G.2 j)) (h : ∀ v, PO (kk v) Q) : PO ((gIA f (G.2 j) x).bind kk) Q := by
  obtain ⟨v, e⟩ := wt_ria hW hj (x := x) (in_of h0.1 (by omega))
  rw [e]; exact h v
theorem po_rip {j : Nat} {x v : Int32} {kk : AH → Option (β × HpN)} (hW : WT G F0 S f n) (hj : G.1 j = 5) (h0 : 0 ≤ x.toInt ∧ x.toInt + 1000 < G.1 (G.2 j)) (h : ∀ f', WT G F0 S f' n → PO (kk f') Q) : PO ((pIA f (G.2 j) x v).bind kk) Q := by
  obtain ⟨f', e, hx⟩ := wt_rip hW hj (x := x) (v := v) (in_of h0.1 (by omega))
  rw [e]; exact h f' hx
theorem po_gL {j t N : Nat} {kk : Nat → Option (β × HpN)} (hW : WT G F0 S f n) (hj : G.1 j = t) (h1 : (decide (10 ≤ t) && decide (t ≤ 13)) = true) (hN : (aT t).2.1 = N) (h5 : (aT t).1 < 5) (h : PO (kk N) Q) : PO ((gL f j).bind kk) Q := by
  rw [wt_gL hW hj h1 hN h5]; exact h
theorem po_gRAo {j t N : Nat} {x : Int32} {kk : Option Nat → Option (β × HpN)} (hW : WT G F0 S f n) (hj : G.1 j = t) (h1 : (decide (10 ≤ t) && decide (t ≤ 11)) = true) (hN : (aT t).2.1 = N) (hx : 0 ≤ x.toInt ∧ x.toInt < N) (h : ∀ w : Option Nat, (∀ i, w = some i → G.1 i = 5) → PO (kk w) Q) : PO ((gRA f j x).bind kk) Q := by
  simp only [Bool.and_eq_true, decide_eq_true_eq] at h1
  have ht : t = 10 ∨ t = 11 := by omega
  have hT : (aT t).2.2 = 205 := by rcases ht with h | h <;> rw [h] <;> rfl
  have ha : (aT t).1 = 2 := by rcases ht with h | h <;> rw [h] <;> rfl
  obtain ⟨w, e, hw⟩ := wt_gRA hW hj (by simp only [Bool.and_eq_true, decide_eq_true_eq]; omega) hN hT (Or.inr (Or.inl ha)) (in_of hx.1 hx.2)
  rw [e]; exact h w hw
theorem po_gRAn {j t N T : Nat} {x : Int32} {kk : Option Nat → Option (β × HpN)} (hW : WT G F0 S f n) (hj : G.1 j = t) (h1 : (decide (12 ≤ t) && decide (t ≤ 13)) = true) (hN : (aT t).2.1 = N) (hT : (aT t).2.2 = T + 100) (h9 : T < 9) (hx : 0 ≤ x.toInt ∧ x.toInt < N) (h : ∀ i, G.1 i = T → PO (kk (some i)) Q) : PO ((gRA f j x).bind kk) Q := by
  simp only [Bool.and_eq_true, decide_eq_true_eq] at h1
  have ht : t = 12 ∨ t = 13 := by omega
  have ha : (aT t).1 = 1 ∨ (aT t).1 = 2 ∨ (aT t).1 = 3 := by rcases ht with h | h <;> rw [h]
                                                             · exact Or.inr (Or.inr rfl)
                                                             · exact Or.inl rfl
  obtain ⟨w, e, hw⟩ := wt_gRA hW hj (by simp only [Bool.and_eq_true, decide_eq_true_eq]; omega) hN hT ha (in_of hx.1 hx.2)
  unfold vR at hw
  rw [if_neg (by omega), if_neg (by omega), if_pos (by omega)] at hw
  obtain ⟨i, rfl, hi⟩ := hw
  rw [e]; exact h i (by omega)
theorem po_pRAo {j t N : Nat} {x : Int32} {w : Option Nat} {kk : AH → Option (β × HpN)} (hW : WT G F0 S f n) (hj : G.1 j = t) (h1 : (decide (10 ≤ t) && decide (t ≤ 11)) = true) (hN : (aT t).2.1 = N) (hx : 0 ≤ x.toInt ∧ x.toInt < N) (hw : ∀ i, w = some i → G.1 i = 5) (h : ∀ f', WT G F0 S f' n → PO (kk f') Q) : PO ((pRA f j x w).bind kk) Q := by
  simp only [Bool.and_eq_true, decide_eq_true_eq] at h1
  have ht : t = 10 ∨ t = 11 := by omega
  have hT : (aT t).2.2 = 205 := by rcases ht with h | h <;> rw [h] <;> rfl
  have ha : (aT t).1 = 2 := by rcases ht with h | h <;> rw [h] <;> rfl
  obtain ⟨f', e, hf⟩ := wt_pRA hW hj (by simp only [Bool.and_eq_true, decide_eq_true_eq]; omega) hN hT (Or.inr (Or.inl ha)) (in_of hx.1 hx.2) (w := w) hw (fun i hi => by rw [ha]; exact hw i hi)
  rw [e]; exact h f' hf
theorem po_pRAs {j i : Nat} {x : Int32} {kk : AH → Option (β × HpN)} (hW : WT G F0 S f n) (hj : G.1 j = 12) (hx : 0 ≤ x.toInt ∧ x.toInt < 8) (hw : G.1 i = 7) (h : ∀ f', WT G F0 S f' n → PO (kk f') Q) : PO ((pRA f j x (some i)).bind kk) Q := by
  obtain ⟨f', e, hf⟩ := wt_pRA hW hj rfl (N := 8) rfl (T := 107) rfl (Or.inr (Or.inr rfl)) (in_of hx.1 hx.2) (w := some i) ⟨i, rfl, hw⟩ (fun i2 hi => by rw [← Option.some.inj hi]; exact hw)
  rw [e]; exact h f' hf
theorem po_oNn {γ : Type} {A : Option (β × HpN)} {k : γ → Option (β × HpN)} (h : PO A Q) : PO (oN (none : Option γ) A k) Q := h
theorem po_oNs {γ : Type} {a : γ} {A : Option (β × HpN)} {k : γ → Option (β × HpN)} (h : PO (k a) Q) : PO (oN (some a) A k) Q := h
theorem po_oN {γ : Type} {w : Option γ} {A : Option (β × HpN)} {k : γ → Option (β × HpN)} (h0 : w = none → PO A Q) (h1 : ∀ a, w = some a → PO (k a) Q) : PO (oN w A k) Q := by
  cases w with
  | none => exact h0 rfl
  | some a => exact h1 a rfl
theorem po_tS {γ : Type} {w : α ⊕ String} {hn : HpN} {k : α → Option ((γ ⊕ String) × HpN)} {Q : (γ ⊕ String) → AH → Nat → Prop} (h0 : ∀ a, w = .inl a → PO (k a) Q) (h1 : ∀ E, w = .inr E → Q (.inr E) hn.1 hn.2) : PO (tS w hn k) Q := by
  cases w with
  | inl a => exact h0 a rfl
  | inr E => exact ⟨_, _, _, rfl, h1 E rfl⟩
end POS
/-! numbers -/
theorem i_add {x y : Int32} {a b : Int} (ex : x.toInt = a) (ey : y.toInt = b) (h : -2147483648 ≤ a + b ∧ a + b ≤ 2147483647) : (x + y).toInt = a + b := by
  rw [Int32.toInt_add, ex, ey]
  exact Int.bmod_eq_of_le (by omega) (by omega)
theorem i_sub {x y : Int32} {a b : Int} (ex : x.toInt = a) (ey : y.toInt = b) (h : -2147483648 ≤ a - b ∧ a - b ≤ 2147483647) : (x - y).toInt = a - b := by
  rw [Int32.toInt_sub, ex, ey]
  exact Int.bmod_eq_of_le (by omega) (by omega)
theorem rg {x : Int32} {d lo hi : Int} (p : x.toInt = d) (h : lo ≤ d ∧ d ≤ hi) : lo ≤ x.toInt ∧ x.toInt ≤ hi := by rw [p]; exact h
theorem vi2 {x : Int32} (h : 0 ≤ x.toInt ∧ x.toInt ≤ 700) : vI 2 x := h
theorem vi3 {x : Int32} (h : 0 ≤ x.toInt ∧ x.toInt ≤ 40) : vI 3 x := h
theorem vi4 {x : Int32} (h : 0 ≤ x.toInt ∧ x.toInt ≤ 12) : vI 4 x := h
theorem vi5 {x : Int32} (h : 0 ≤ x.toInt ∧ x.toInt ≤ 600) : vI 5 x := h
theorem vi6 {x : Int32} (h : -700 ≤ x.toInt ∧ x.toInt ≤ 700) : vI 6 x := h
theorem vi7 {x : Int32} (h : 0 ≤ x.toInt ∧ x.toInt ≤ 5) : vI 7 x := h
theorem vi8 {x : Int32} (h : 0 ≤ x.toInt ∧ x.toInt ≤ 2000) : vI 8 x := h
theorem vi9 {x : Int32} (h : -1 ≤ x.toInt ∧ x.toInt ≤ 702) : vI 9 x := h
theorem vi10 {x : Int32} (h : 0 ≤ x.toInt ∧ x.toInt ≤ 702) : vI 10 x := h
theorem nb_of {x : Int32} (h : x = 0 ∨ x = 1) : rNb x = true := by rcases h with rfl | rfl <;> decide
theorem jmax_b {a b : Int32} {p q : Int} (ea : a.toInt = p) (eb : b.toInt = q) : p ≤ (jMax a b).toInt ∧ q ≤ (jMax a b).toInt ∧ ((jMax a b).toInt = p ∨ (jMax a b).toInt = q) := by
  unfold jMax
  by_cases h : a.toInt < b.toInt
  · rw [if_pos (c_lt h)]; omega
  · rw [if_neg (c_nlt (by omega))]; omega
theorem jmin_b {a b : Int32} {p q : Int} (ea : a.toInt = p) (eb : b.toInt = q) : (jMin a b).toInt ≤ p ∧ (jMin a b).toInt ≤ q ∧ ((jMin a b).toInt = p ∨ (jMin a b).toInt = q) := by
  unfold jMin
  by_cases h : b.toInt < a.toInt
  · rw [if_pos (c_lt h)]; omega
  · rw [if_neg (c_nlt (by omega))]; omega
/-! a typing grows -/
def EXT (G G' : TE) : Prop := ∀ j, G.1 j ≠ 99 → G'.1 j = G.1 j ∧ G'.2 j = G.2 j
theorem EXT.rfl {G : TE} : EXT G G := fun _ _ => ⟨_root_.rfl, _root_.rfl⟩
theorem EXT.trans {A B C : TE} (h1 : EXT A B) (h2 : EXT B C) : EXT A C := fun j hj => by
  have a := h1 j hj
  have b := h2 j (by rw [a.1]; exact hj)
  exact ⟨b.1.trans a.1, b.2.trans a.2⟩
theorem EXT.ty {G G' : TE} (h : EXT G G') {j t : Nat} (hj : G.1 j = t) (ht : t ≠ 99) : G'.1 j = t := ((h j (by omega)).1).trans hj
theorem EXT.op {G G' : TE} (h : EXT G G') {w : Option Nat} {t : Nat} (hw : ∀ i, w = some i → G.1 i = t) (ht : t ≠ 99) : ∀ i, w = some i → G'.1 i = t := fun i hi => h.ty (hw i hi) ht
end
/-! part 37b.row -/
section
section POR
variable {α β : Type} {Q : β → AH → Nat → Prop} {G : TE} {F0 : AH} {S : Int32} {f : AH} {n : Nat}
theorem po_ro {o : Option (α × HpN)} {P : α → Prop} {k : α × HpN → Option (β × HpN)} (h1 : PO o (fun v f' n' => f' = f ∧ n' = n ∧ P v)) (h : ∀ v, o = some (v, (f, n)) → P v → PO (k (v, (f, n))) Q) : PO (o.bind k) Q := by
  obtain ⟨v, f', n', e, hf, hn, hp⟩ := h1
  subst hf hn
  have h2 := h v e hp
  rw [e]; exact h2
theorem po_w {o : Option (α × HpN)} {P : α → Prop} {k : α × HpN → Option (β × HpN)} (h1 : PO o (fun v f' n' => n' = n ∧ WT G F0 S f' n ∧ P v)) (h : ∀ v f', WT G F0 S f' n → P v → PO (k (v, (f', n))) Q) : PO (o.bind k) Q := by
  obtain ⟨v, f', n', e, hn, hw, hp⟩ := h1
  subst hn
  rw [e]; exact h v f' hw hp
theorem po_a {o : Option (α × HpN)} {P : TE → α → Prop} {k : α × HpN → Option (β × HpN)} (h1 : PO o (fun v f' n' => ∃ G', EXT G G' ∧ WT G' F0 S f' n' ∧ P G' v)) (h : ∀ v f' n' G', EXT G G' → WT G' F0 S f' n' → P G' v → PO (k (v, (f', n'))) Q) : PO (o.bind k) Q := by
  obtain ⟨v, f', n', e, G', hx, hw, hp⟩ := h1
  rw [e]; exact h v f' n' G' hx hw hp
end POR
theorem nb_and {x y : Int32} (h1 : x = 0 ∨ x = 1) (h2 : y = 0 ∨ y = 1) : (x &&& y) = 0 ∨ (x &&& y) = 1 := by
  rcases h1 with rfl | rfl <;> rcases h2 with rfl | rfl <;> decide
theorem st4_b {t : Nat} (h : t < 12) : 0 ≤ (st4L t).toInt ∧ (st4L t).toInt ≤ 20 := by
  have h0 : ∀ k : Fin 12, 0 ≤ (st4L (k : Nat)).toInt ∧ (st4L (k : Nat)).toInt ≤ 20 := by decide +kernel
  exact h0 ⟨t, h⟩
theorem st4_n {t : Nat} (h : t < 12) : (st4L t).toInt = (sL4.getD t 0 : Nat) := nI_toInt (sL4_b h)
theorem in_st4 {t : Nat} {x : Int32} (h : t < 12) (hx : 0 ≤ x.toInt ∧ x.toInt < (st4L t).toInt) : rIn x (sL4.getD t 0) = true := in_of hx.1 (by rw [← st4_n h]; exact hx.2)
section ROWS
variable {G : TE} {F0 : AH} {S : Int32} {f : AH} {n : Nat}
theorem tX5_size {v0 : Nat} (hW : WT G F0 S f n) (h0 : G.1 v0 = 5) : PO (mX5_size v0 f n) (fun v f' n' => f' = f ∧ n' = n ∧ (0 ≤ v.toInt ∧ v.toInt ≤ 600)) := by
  unfold mX5_size
  refine po_rs hW h0 (fun x ex hx _ => ?_)
  exact po_ret ⟨rfl, rfl, by omega⟩
theorem sz_eq {v0 : Nat} {y x : Int32} (h : mX5_size v0 f n = some (y, (f, n))) (hx : gI f v0 5 1 = some x) : y = x := by
  unfold mX5_size at h
  rw [hx] at h
  exact ((Prod.mk.inj (Option.some.inj h)).1).symm
theorem sz_tape {y : Int32} (hW : WT G F0 S f n) (h : mX5_size 1 f n = some (y, (f, n))) : y = S ∧ 0 ≤ y.toInt ∧ y.toInt ≤ 400 := by
  obtain ⟨s, hs, h1, h2, h3, h4, h5⟩ := wt_row hW hW.2.2.2.2.2
  have e := sz_eq h hs
  have h6 := h5 rfl
  rw [e]
  exact ⟨h6.1, by omega, by omega⟩
theorem add_x {v0 : Nat} {v1 : Int32} (hW : WT G F0 S f n) (h0 : G.1 v0 = 5) : ∃ (s : Int32) (f' : AH), gI f v0 5 1 = some s ∧ 0 ≤ s.toInt ∧ s.toInt ≤ 600 ∧ ((mX5_add v0 v1 f n = some (0, (f, n)) ∧ s.toInt + 1000 = G.1 (G.2 v0)) ∨ (mX5_add v0 v1 f n = some (1, (f', n)) ∧ s.toInt + 1000 < G.1 (G.2 v0) ∧ WT G F0 (if v0 = 1 then s + 1 else S) f' n ∧ gI f' v0 5 1 = some (s + 1) ∧ ∀ j, j ≠ v0 → j ≠ G.2 v0 → f' j = f j)) := by
  obtain ⟨s, hs, h1, h2, h3, h4, h5⟩ := wt_row hW h0
  have hn : (nI (G.1 (G.2 v0) - 1000)).toInt = ((G.1 (G.2 v0) - 1000 : Nat) : Int) := nI_toInt (by omega)
  have hs0 : ¬ s < (0 : Int32) := c_nlt (by rw [show (0 : Int32).toInt = 0 by decide]; exact h1)
  by_cases hl : s.toInt + 1000 < G.1 (G.2 v0)
  · have hlt : s < nI (G.1 (G.2 v0) - 1000) := c_lt (by rw [hn]; omega)
    obtain ⟨f1, e1, hW1⟩ := wt_rip hW h0 (x := s) (v := v1) (in_of h1 (by omega))
    obtain ⟨s1, hs1, a1, a2, a3, a4, a5⟩ := wt_row hW1 h0
    have es : s1 = s := by
      obtain ⟨g, hg⟩ := wt_rc hW h0
      obtain ⟨N, g2, q1, q2, q3⟩ := pIA_ex e1
      have hne : v0 ≠ G.2 v0 := fun q => by rw [← q] at h3; omega
      obtain ⟨fs, r1, r2⟩ := gI_ex hs
      obtain ⟨fs2, r3, r4⟩ := gI_ex hs1
      rw [q3] at r3
      have r5 : f v0 = some (.inr (5, fs2)) := (if_neg hne).symm.trans r3
      rw [r1] at r5
      have r6 : fs = fs2 := by simpa using r5
      rw [← r6, r2] at r4
      simpa using r4.symm
    subst es
    have e1i : (s1 + 1).toInt = s1.toInt + 1 := i_add rfl (by decide) (by omega)
    obtain ⟨f2, e2, hW2⟩ := wt_rsp hW1 h0 (v := s1 + 1) (by omega) (by omega)
    refine ⟨s1, f2, hs, h1, by omega, Or.inr ⟨?_, hl, ?_, ?_, fun j a b => ?_⟩⟩
    · unfold mX5_add
      rw [hs]
      show (if s1 < (0 : Int32) then _ else _) = _
      rw [if_neg hs0]
      show ((some s1).bind _) = _
      rw [Option.bind_some, wt_rb hW h0, Option.bind_some, Option.bind_some, wt_rl hW h0, Option.bind_some, if_pos hlt, Option.bind_some, Option.bind_some, Option.bind_some, e1, Option.bind_some, hs1, Option.bind_some, e2]
      rfl
    · by_cases hv : v0 = 1
      · rw [if_pos hv] at hW2 ⊢; exact hW2
      · rw [if_neg hv] at hW2 ⊢; exact hW2
    · obtain ⟨fs, r1, r2, r3⟩ := pO_ex e2
      obtain ⟨t2, ht2, -⟩ := wt_row hW2 h0
      obtain ⟨s3, hs3, -⟩ := (hW1.1 v0).1 h0
      rw [hs3] at r1
      have r6 : [Value.ref (G.2 v0), .int s3] = fs := by simpa using r1
      rw [r3]
      unfold gI
      rw [show va_up f1 v0 (some (.inr (5, fs.set 1 (.int (s1 + 1))))) v0 = some (.inr (5, fs.set 1 (.int (s1 + 1)))) from if_pos rfl, ← r6]
      rfl
    · obtain ⟨fs, r1, r2, r3⟩ := pO_ex e2
      obtain ⟨N, g2, q1, q2, q3⟩ := pIA_ex e1
      rw [r3, q3]
      exact (if_neg a).trans (if_neg b)
  · have hge : ¬ s < nI (G.1 (G.2 v0) - 1000) := c_nlt (by rw [hn]; omega)
    refine ⟨s, f, hs, h1, by omega, Or.inl ⟨?_, by omega⟩⟩
    unfold mX5_add
    rw [hs]
    show (if s < (0 : Int32) then _ else _) = _
    rw [if_neg hs0]
    show ((some s).bind _) = _
    rw [Option.bind_some, wt_rb hW h0, Option.bind_some, Option.bind_some, wt_rl hW h0, Option.bind_some, if_neg hge]
    rfl
theorem tX5_add {v0 : Nat} {v1 : Int32} (hW : WT G F0 S f n) (h0 : G.1 v0 = 5) (h1 : v0 ≠ 1) : PO (mX5_add v0 v1 f n) (fun v f' n' => n' = n ∧ WT G F0 S f' n ∧ (v = 0 ∨ v = 1)) := by
  obtain ⟨s, f', hs, -, -, h | h⟩ := add_x (v1 := v1) hW h0
  · exact ⟨_, _, _, h.1, rfl, hW, Or.inl rfl⟩
  · refine ⟨_, _, _, h.1, rfl, ?_, Or.inr rfl⟩
    have h2 := h.2.2.1
    rw [if_neg h1] at h2
    exact h2
theorem cut_x {v0 : Nat} {v1 : Int32} (hW : WT G F0 S f n) (h0 : G.1 v0 = 5) : ∃ f', mX5_cutTo v0 v1 f n = some (0, (f', n)) ∧ WT G F0 (if v0 = 1 then (if 0 ≤ v1.toInt ∧ v1.toInt < S.toInt then v1 else S) else S) f' n := by
  obtain ⟨s, hs, h1, h2, h3, h4, h5⟩ := wt_row hW h0
  by_cases hn : v1 < (0 : Int32)
  · refine ⟨f, ?_, ?_⟩
    · unfold mX5_cutTo; rw [if_pos hn]; rfl
    · have q := Int32.lt_iff_toInt_lt.mp hn
      rw [show (0 : Int32).toInt = 0 by decide] at q
      rw [if_neg (show ¬ (0 ≤ v1.toInt ∧ v1.toInt < S.toInt) from fun h => by omega)]
      split <;> exact hW
  · have hv0 : 0 ≤ v1.toInt := by
      have q : ¬ v1.toInt < (0 : Int32).toInt := fun q => hn (c_lt q)
      rw [show (0 : Int32).toInt = 0 by decide] at q
      omega
    by_cases hl : s ≤ v1
    · refine ⟨f, ?_, ?_⟩
      · unfold mX5_cutTo; rw [if_neg hn, hs]
        show (if s ≤ v1 then _ else _) = _
        rw [if_pos hl]; rfl
      · have q := Int32.le_iff_toInt_le.mp hl
        by_cases hv : v0 = 1
        · rw [if_pos hv, if_neg (show ¬ (0 ≤ v1.toInt ∧ v1.toInt < S.toInt) from fun h => by rw [← (h5 hv).1] at h; omega)]; exact hW
        · rw [if_neg hv]; exact hW
    · have q : v1.toInt < s.toInt := by
        have q : ¬ s.toInt ≤ v1.toInt := fun q => hl (c_le q)
        omega
      obtain ⟨f2, e2, hW2⟩ := wt_rsp hW h0 (v := v1) hv0 (by omega)
      refine ⟨f2, ?_, ?_⟩
      · unfold mX5_cutTo; rw [if_neg hn, hs]
        show (if s ≤ v1 then _ else _) = _
        rw [if_neg hl, e2]; rfl
      · by_cases hv : v0 = 1
        · rw [if_pos hv] at hW2 ⊢
          rw [if_pos ⟨hv0, by rw [← (h5 hv).1]; exact q⟩]; exact hW2
        · rw [if_neg hv] at hW2 ⊢; exact hW2
theorem tX5_cutTo {v0 : Nat} {v1 : Int32} (hW : WT G F0 S f n) (h0 : G.1 v0 = 5) (h1 : v0 ≠ 1) : PO (mX5_cutTo v0 v1 f n) (fun v f' n' => n' = n ∧ WT G F0 S f' n ∧ True) := by
  obtain ⟨f', e, h⟩ := cut_x (v1 := v1) hW h0
  rw [if_neg h1] at h
  exact ⟨_, _, _, e, rfl, h, trivial⟩
theorem tape0 (hW : WT G F0 S f n) (h0 : G.1 1 = 5) : PO (mX5_cutTo 1 0 f n) (fun v f' n' => n' = n ∧ WT G F0 0 f' n ∧ True) := by
  obtain ⟨f', e, h⟩ := cut_x (v1 := 0) hW h0
  rw [if_pos rfl] at h
  have hS := wt_S hW
  refine ⟨_, _, _, e, rfl, ?_, trivial⟩
  by_cases hz : S = 0
  · subst hz
    rw [if_neg (by rw [show (0 : Int32).toInt = 0 by decide]; omega)] at h; exact h
  · have : S.toInt ≠ 0 := fun q => hz (Int32.toInt_inj.mp (q.trans (by decide)))
    rw [if_pos (by rw [show (0 : Int32).toInt = 0 by decide]; omega)] at h; exact h
theorem tX5_addPart_l6 : ∀ (d : Nat) (v0 : Nat) (i : Nat) (v3 v4 v5 : Int32) (f : AH), WT G F0 S f n → G.1 v0 = 5 → v0 ≠ 1 → G.1 i = 5 → (v4 = 0 ∨ v4 = 1) → (v4 = 0 → 0 < d) → (v4 = 1 → ∀ s : Int32, gI f v0 5 1 = some s → 602 - s.toInt < (d : Int)) → PO (mX5_addPart_l6 d v0 (some i) v3 v4 v5 f n) (fun v f' n' => n' = n ∧ WT G F0 S f' n ∧ (v = 0 ∨ v = 1) ∧ ∀ j, j ≠ v0 → j ≠ G.2 v0 → f' j = f j) := by
  intro d
  induction d with
  | zero =>
    intro v0 i v3 v4 v5 f hW h0 h1 hi hb ha hm
    exfalso
    obtain ⟨s, hs, q1, q2, q3, q4, q5⟩ := wt_row hW h0
    rcases hb with hb | hb
    · exact absurd (ha hb) (by omega)
    · have := hm hb s hs
      omega
  | succ d ih =>
    intro v0 i v3 v4 v5 f hW h0 h1 hi hb ha hm
    unfold mX5_addPart_l6
    refine po_le rfl rfl (fun q => ?_) (fun q => ?_)
    · exact po_ck (nb_of hb) (po_ret ⟨rfl, hW, hb, fun _ _ _ => rfl⟩)
    · refine po_eq (fun q1 => ?_) (fun q1 => ?_)
      · exact po_ck (nb_of hb) (po_ret ⟨rfl, hW, hb, fun _ _ _ => rfl⟩)
      · have hb1 : v4 = 1 := hb.elim (fun e => absurd e q1) id
        refine po_some ?_
        refine po_ck (wt_isO hW hi (by decide)) ?_
        have hget : PO (mX5_get i v5 f n) (fun v f' n' => f' = f ∧ n' = n ∧ True) := by
          unfold mX5_get
          refine po_lt rfl (show (0 : Int32).toInt = 0 by decide) (fun q => ?_) (fun q => ?_)
          · exact po_ret ⟨rfl, rfl, trivial⟩
          · refine po_rs hW hi (fun x ex hx _ => ?_)
            refine po_le rfl rfl (fun q => ?_) (fun q => ?_)
            · exact po_ret ⟨rfl, rfl, trivial⟩
            · refine po_rb hW hi ?_
              refine po_some ?_
              refine po_rl hW hi (fun N a b c => ?_)
              refine po_le c rfl (fun q => ?_) (fun q => ?_)
              · exact po_ret ⟨rfl, rfl, trivial⟩
              · refine po_rb hW hi ?_
                refine po_some ?_
                refine po_ria hW hi (by omega) (fun v => ?_)
                exact po_ret ⟨rfl, rfl, trivial⟩
        refine po_ro hget (fun y ey _ => ?_)
        refine po_ck (wt_isO hW h0 (by decide)) ?_
        obtain ⟨s, f', hs, hs0, hs1, h | h⟩ := add_x (v1 := y) hW h0
        · refine po_bind h.1 ?_
          exact ih v0 i v3 0 (v5 + 1) f hW h0 h1 hi (Or.inl rfl) (fun _ => by have := hm hb1 s hs; omega) (fun e => absurd e (by decide))
        · refine po_bind h.1 ?_
          have h2 := h.2.2.1
          rw [if_neg h1] at h2
          refine po_tail (ih v0 i v3 1 (v5 + 1) f' h2 h0 h1 hi (Or.inr rfl) (fun e => absurd e (by decide)) (fun _ s2 hs2 => ?_)) (fun v g m q => ⟨q.1, q.2.1, q.2.2.1, fun j a b => (q.2.2.2 j a b).trans (h.2.2.2.2 j a b)⟩)
          have e2 : s2 = s + 1 := Option.some.inj (hs2.symm.trans h.2.2.2.1)
          have e3 : (s + 1).toInt = s.toInt + 1 := i_add rfl (by decide) (by omega)
          have := hm hb1 s hs
          rw [e2, e3]
          omega
theorem addPart_x {v0 : Nat} {v1 : Option Nat} {v2 v3 : Int32} (hW : WT G F0 S f n) (h0 : G.1 v0 = 5) (h1 : v0 ≠ 1) (h2 : ∃ i, v1 = some i ∧ G.1 i = 5) : PO (mX5_addPart v0 v1 v2 v3 f n) (fun v f' n' => n' = n ∧ WT G F0 S f' n ∧ (v = 0 ∨ v = 1) ∧ ∀ j, j ≠ v0 → j ≠ G.2 v0 → f' j = f j) := by
  obtain ⟨i, rfl, hi⟩ := h2
  unfold mX5_addPart
  refine tX5_addPart_l6 rFU v0 i v3 1 v2 f hW h0 h1 hi (Or.inr rfl) (fun e => absurd e (by decide)) (fun _ s hs => ?_)
  obtain ⟨s2, hs2, q1, q2, q3, q4, q5⟩ := wt_row hW h0
  have : s2 = s := Option.some.inj (hs2.symm.trans hs)
  subst this
  unfold rFU
  omega
theorem tX5_addPart {v0 : Nat} {v1 : Option Nat} {v2 v3 : Int32} (hW : WT G F0 S f n) (h0 : G.1 v0 = 5) (h1 : v0 ≠ 1) (h2 : ∃ i, v1 = some i ∧ G.1 i = 5) : PO (mX5_addPart v0 v1 v2 v3 f n) (fun v f' n' => n' = n ∧ WT G F0 S f' n ∧ (v = 0 ∨ v = 1)) := po_tail (addPart_x hW h0 h1 h2) (fun _ _ _ q => ⟨q.1, q.2.1, q.2.2.1⟩)
theorem vR_up {Γ Γ' : Nat → Nat} (h : ∀ j, Γ j ≠ 99 → Γ' j = Γ j) {c : Nat} {w : Option Nat} (hc : c ≠ 199 ∧ c ≠ 299) (hv : vR Γ c w) : vR Γ' c w := by
  unfold vR at hv ⊢
  by_cases a : c = 301
  · rw [if_pos a] at hv ⊢; exact hv
  · rw [if_neg a] at hv ⊢
    by_cases b : c = 306
    · rw [if_pos b] at hv ⊢
      obtain ⟨j, e, h5, h1⟩ := hv
      exact ⟨j, e, (h j (by omega)).trans h5, h1⟩
    · rw [if_neg b] at hv ⊢
      by_cases d : c < 200
      · rw [if_pos d] at hv ⊢
        obtain ⟨j, e, h5⟩ := hv
        exact ⟨j, e, (h j (by omega)).trans h5⟩
      · rw [if_neg d] at hv ⊢
        exact fun j e => (h j (by have := hv j e; omega)).trans (hv j e)
theorem vV_up {Γ Γ' : Nat → Nat} (h : ∀ j, Γ j ≠ 99 → Γ' j = Γ j) {c : Nat} {v : Value} (hc : c ≠ 199 ∧ c ≠ 299) (hv : vV Γ c v) : vV Γ' c v := by
  rcases hv with hv | ⟨a, w, e, hw⟩
  · exact Or.inl hv
  · exact Or.inr ⟨a, w, e, vR_up h hc hw⟩
theorem fT_ok : ∀ c : Fin 9, ∀ k : Fin 20, (fT c).getD k 0 ≠ 199 ∧ (fT c).getD k 0 ≠ 299 := by decide +kernel
theorem fT_len : ∀ c : Fin 9, (fT c).length ≤ 20 := by decide +kernel
theorem okC_up {G' : TE} {f' : AH} {j : Nat} (hx : EXT G G') (hG : G'.1 j = G.1 j) (hj : G.1 j ≠ 99) (hf : f' j = f j) (h : okC G S f j) : okC G' S f' j := by
  have hu : ∀ j, G.1 j ≠ 99 → G'.1 j = G.1 j := fun j q => (hx j q).1
  unfold okC at h ⊢
  rw [hG, hf]
  refine ⟨fun q => ?_, fun q q2 => ?_, fun q q2 => ?_, h.2.2.2⟩
  · obtain ⟨s, h1, h2, h3, h4, h5, h6⟩ := h.1 q
    have e2 := (hx j hj).2
    rw [e2, hu _ (by omega)]
    exact ⟨s, h1, h2, h3, h4, h5, h6⟩
  · obtain ⟨fs, h1, h2, h3⟩ := h.2.1 q q2
    refine ⟨fs, h1, h2, fun k hk => ?_⟩
    obtain ⟨v, h4, h5⟩ := h3 k hk
    have hl := fT_len ⟨_, q⟩
    exact ⟨v, h4, vV_up hu (fT_ok ⟨_, q⟩ ⟨k, Nat.lt_of_lt_of_le hk hl⟩) h5⟩
  · obtain ⟨g, h1, h2⟩ := h.2.2.1 q q2
    refine ⟨g, h1, fun i hi => vR_up hu ?_ (h2 i hi)⟩
    have h4 : G.1 j = 10 ∨ G.1 j = 11 ∨ G.1 j = 12 ∨ G.1 j = 13 := by omega
    rcases h4 with e | e | e | e <;> rw [e] <;> decide
theorem okC_row {j b L : Nat} {s : Int32} (h : G.1 j = 5) (hb : G.2 j = b) (hL : G.1 b = 1000 + L) (h6 : L ≤ 600) (hf : f j = some (.inr (5, [.ref b, .int s]))) (h2 : 0 ≤ s.toInt ∧ s.toInt ≤ L) (h3 : j = 1 → s = S ∧ L = 400) : okC G S f j := by
  subst hb
  exact ⟨fun _ => ⟨s, hf, by omega, by omega, h2.1, by omega, fun q => ⟨(h3 q).1, by have := (h3 q).2; omega⟩⟩, fun _ q => absurd h q, fun q => by omega, fun q => by omega⟩
theorem okC_arr {j L : Nat} {g : Nat → Int32} (h : G.1 j = 1000 + L) (hf : f j = some (.inl (0, L, .inl g))) : okC G S f j := ⟨fun q => by omega, fun q => by omega, fun _ q => by omega, fun _ => ⟨g, by rw [h, show 1000 + L - 1000 = L by omega]; exact hf⟩⟩
theorem okC_obj {j c : Nat} {fs : List Value} (h : G.1 j = c) (hc : c < 9) (h5 : c ≠ 5) (hf : f j = some (.inr (c, fs))) (ho : okO G.1 c fs) : okC G S f j := by
  subst h
  exact ⟨fun q => absurd q h5, fun _ _ => ⟨fs, hf, ho⟩, fun q => by omega, fun q => by omega⟩
theorem okC_ref {j t : Nat} {g : Nat → Option Nat} (h : G.1 j = t) (h1 : 10 ≤ t) (h2 : t ≤ 13) (hf : f j = some (.inl ((aT t).1, (aT t).2.1, .inr (.inr g)))) (ho : ∀ i < (aT t).2.1, vR G.1 (aT t).2.2 (g i)) : okC G S f j := by
  subst h
  exact ⟨fun q => by omega, fun q => by omega, fun _ _ => ⟨g, hf, ho⟩, fun q => by omega⟩
theorem wt_grow (hW : WT G F0 S f n) {G' : TE} {f' : AH} {n' : Nat} (hx : EXT G G') (hs : ∀ j, G.1 j ≠ 99 → f' j = f j) (hnew : ∀ j, G'.1 j ≠ 99 → G.1 j = 99 → n ≤ j ∧ j < n' ∧ okC G' S f' j) (hfr : ∀ j, j < 224 → f' j = f j) (hn : n ≤ n') : WT G' F0 S f' n' := by
  refine ⟨fun j => ?_, fun j q => ?_, fun j a b => ?_, ?_, ?_, ?_⟩
  · by_cases h : G.1 j = 99
    · by_cases h2 : G'.1 j = 99
      · unfold okC
        rw [h2]
        exact ⟨fun q => absurd q (by decide), fun q => absurd q (by decide), fun _ q => absurd q (by decide), fun q => absurd q (by decide)⟩
      · exact (hnew j h2 h).2.2
    · exact okC_up hx (hx j h).1 h (hs j h) (hW.1 j)
  · by_cases h : G.1 j = 99
    · exact (hnew j q h).2.1
    · have := hW.2.1 j h; omega
  · have h2 := hW.2.2.1 j a b
    refine ⟨?_, (hfr j (by omega)).trans h2.2⟩
    by_cases h : G'.1 j = 99
    · exact h
    · have := (hnew j h h2.1).1
      have := hW.2.2.2.1
      omega
  · have := hW.2.2.2.1; omega
  · exact hx.ty hW.2.2.2.2.1 (by decide)
  · exact hx.ty hW.2.2.2.2.2 (by decide)
theorem part_x {B v0 : Nat} {v1 v2 : Int32} (hW : WT G F0 S f n) (h0 : G.1 v0 = 5) (hB : v2.toInt ≤ (B : Int) ∧ v2.toInt ≤ 600) : PO (mX5_part B v0 v1 v2 f n) (fun v f' n' => ∃ G', EXT G G' ∧ WT G' F0 S f' n' ∧ (∃ i, v = some i ∧ G'.1 i = 5) ∧ ∀ j, j < n → f' j = f j) := by
  have h224 := hW.2.2.2.1
  have hi : ∃ L : Nat, L ≤ 600 ∧ mX5_init B n v2 (va_up f n (some (.inr (5, df5)))) (n + 1) = some (0, (va_up (va_up (va_up f n (some (.inr (5, df5)))) (n + 1) (some (.inl (0, L, .inl (fun _ => 0))))) n (some (.inr (5, [.ref (n + 1), .int 0]))), n + 1 + 1)) := by
    have hpo : ∀ a : Option AE, pO (va_up (va_up f n (some (.inr (5, df5)))) (n + 1) a) n 5 0 (.ref (n + 1)) = some (va_up (va_up (va_up f n (some (.inr (5, df5)))) (n + 1) a) n (some (.inr (5, [.ref (n + 1), .int 0])))) := by
      intro a
      unfold pO
      rw [show va_up (va_up f n (some (.inr (5, df5)))) (n + 1) a n = some (.inr (5, df5)) from (if_neg (show ¬ n = n + 1 by omega)).trans (if_pos rfl)]
      rfl
    unfold mX5_init
    by_cases hz : v2 ≤ 0
    · rw [if_pos hz]
      refine ⟨0, by omega, ?_⟩
      unfold mX5_init_b14
      have hb : (!(decide ((0 : Int32) < 0)) && (decide ((0 : Int32).toNatClampNeg ≤ B) && decide ((0 : Int32).toNatClampNeg ≤ 600))) = true := by
        rw [show (0 : Int32).toNatClampNeg = 0 by decide]
        simp
      rw [ck_t hb, show (0 : Int32).toNatClampNeg = 0 by decide, hpo]
      rfl
    · rw [if_neg hz]
      have hp : 0 < v2.toInt := by
        have q : ¬ v2.toInt ≤ (0 : Int32).toInt := fun q => hz (c_le q)
        rw [show (0 : Int32).toInt = 0 by decide] at q
        omega
      refine ⟨v2.toNatClampNeg, by show v2.toInt.toNat ≤ 600; omega, ?_⟩
      unfold mX5_init_b14
      have hb : (!(decide (v2 < 0)) && (decide (v2.toNatClampNeg ≤ B) && decide (v2.toNatClampNeg ≤ 600))) = true := by
        have a : ¬ v2 < 0 := c_nlt (by rw [show (0 : Int32).toInt = 0 by decide]; omega)
        have b : v2.toNatClampNeg ≤ B := by show v2.toInt.toNat ≤ B; omega
        have c : v2.toNatClampNeg ≤ 600 := by show v2.toInt.toNat ≤ 600; omega
        simp [a, b, c]
      rw [ck_t hb, hpo]
      rfl
  obtain ⟨L, hL, ei⟩ := hi
  have hG1 : ∀ j, G.1 j ≠ 99 → j ≠ n ∧ j ≠ n + 1 := fun j q => by have := hW.2.1 j q; omega
  have hx : EXT G ((fun j => if j = n then 5 else if j = n + 1 then 1000 + L else G.1 j), (fun j => if j = n then n + 1 else G.2 j)) := fun j q => by
    obtain ⟨a, b⟩ := hG1 j q
    exact ⟨(if_neg a).trans (if_neg b), if_neg a⟩
  have hcell : ∀ j, j ≠ n → j ≠ n + 1 → va_up (va_up (va_up f n (some (.inr (5, df5)))) (n + 1) (some (.inl (0, L, .inl (fun _ => 0))))) n (some (.inr (5, [.ref (n + 1), .int 0]))) j = f j := fun j a b => (if_neg a).trans ((if_neg b).trans (if_neg a))
  have hW2 : WT ((fun j => if j = n then 5 else if j = n + 1 then 1000 + L else G.1 j), (fun j => if j = n then n + 1 else G.2 j)) F0 S (va_up (va_up (va_up f n (some (.inr (5, df5)))) (n + 1) (some (.inl (0, L, .inl (fun _ => 0))))) n (some (.inr (5, [.ref (n + 1), .int 0])))) (n + 1 + 1) := by
    have e5 : (if n = n then 5 else if n = n + 1 then 1000 + L else G.1 n) = 5 := if_pos rfl
    have eL : (if n + 1 = n then 5 else if n + 1 = n + 1 then 1000 + L else G.1 (n + 1)) = 1000 + L := (if_neg (by omega)).trans (if_pos rfl)
    refine wt_grow hW hx (fun j q => hcell j (hG1 j q).1 (hG1 j q).2) (fun j q q2 => ?_) (fun j q => hcell j (by omega) (by omega)) (by omega)
    by_cases a : j = n
    · subst a
      exact ⟨by omega, by omega, okC_row (s := 0) (b := j + 1) (L := L) e5 (if_pos rfl) eL hL (if_pos rfl) (by rw [show (0 : Int32).toInt = 0 by decide]; omega) (fun q => by omega)⟩
    · by_cases b : j = n + 1
      · subst b
        exact ⟨by omega, by omega, okC_arr (L := L) eL ((if_neg (show ¬ n + 1 = n by omega)).trans (if_pos rfl))⟩
      · exact absurd ((if_neg a).trans ((if_neg b).trans q2)) q
  have h0' : (if v0 = n then 5 else if v0 = n + 1 then 1000 + L else G.1 v0) = 5 := hx.ty h0 (by decide)
  unfold mX5_part
  refine po_bind ei ?_
  refine po_ck (wt_isO hW2 (if_pos rfl) (by decide)) ?_
  obtain ⟨v, f', n', e, hn', hW3, -, hfr⟩ := addPart_x (v0 := n) (v1 := some v0) (v2 := v1) (v3 := v1 + v2) hW2 (if_pos rfl) (by omega) ⟨v0, rfl, h0'⟩
  refine po_bind e ?_
  subst hn'
  refine po_ret ⟨_, hx, hW3, ⟨n, rfl, if_pos rfl⟩, fun j hj => ?_⟩
  have q : (if n = n then n + 1 else G.2 n) = n + 1 := if_pos rfl
  refine (hfr j (by omega) ?_).trans (hcell j (by omega) (by omega))
  show j ≠ (if n = n then n + 1 else G.2 n)
  rw [q]; omega
theorem tX5_part {B v0 : Nat} {v1 v2 : Int32} (hW : WT G F0 S f n) (h0 : G.1 v0 = 5) (hB : v2.toInt ≤ (B : Int) ∧ v2.toInt ≤ 600) : PO (mX5_part B v0 v1 v2 f n) (fun v f' n' => ∃ G', EXT G G' ∧ WT G' F0 S f' n' ∧ (∃ i, v = some i ∧ G'.1 i = 5)) := po_tail (part_x hW h0 hB) (fun _ _ _ ⟨G', a, b, c, _⟩ => ⟨G', a, b, c⟩)
theorem tX7_addPair {v0 : Nat} {v1 v2 : Option Nat} (hW : WT G F0 S f n) (h0 : G.1 v0 = 7) (h1 : ∃ i, v1 = some i ∧ G.1 i = 5) (h2 : ∃ i, v2 = some i ∧ G.1 i = 5) : PO (mX7_addPair v0 v1 v2 f n) (fun v f' n' => ∃ G', EXT G G' ∧ WT G' F0 S f' n' ∧ True) := by
  obtain ⟨i1, rfl, hi1⟩ := h1
  obtain ⟨i2, rfl, hi2⟩ := h2
  have h224 := hW.2.2.2.1
  have hG1 : ∀ j, G.1 j ≠ 99 → j ≠ n := fun j q => by have := hW.2.1 j q; omega
  have hv0 := hG1 v0 (by omega)
  obtain ⟨w, ew, hw⟩ := wt_gR (k := 6) (t := 202) hW h0 rfl rfl (by decide)
  have ew2 : ∀ a : AE, gR (va_up f n (some a)) v0 7 6 = some w := fun a => by
    have e : va_up f n (some a) v0 = f v0 := if_neg hv0
    unfold gR at ew ⊢
    rw [e]; exact ew
  have hx : EXT G ((fun j => if j = n then 2 else G.1 j), G.2) := fun j q => ⟨if_neg (hG1 j q), rfl⟩
  have ho : ∀ i, w = some i → G.1 i = 2 := hw
  have hW2 : WT ((fun j => if j = n then 2 else G.1 j), G.2) F0 S (va_up f n (some (.inr (2, [va_rf (some i1), va_rf (some i2), va_rf w])))) (n + 1) := by
    refine wt_grow hW hx (fun j q => if_neg (hG1 j q)) (fun j q q2 => ?_) (fun j q => if_neg (by omega)) (by omega)
    by_cases a : j = n
    · subst a
      refine ⟨by omega, by omega, okC_obj (c := 2) (if_pos rfl) (by decide) (by decide) (if_pos rfl) ⟨rfl, fun k hk => ?_⟩⟩
      have hk3 : k < 3 := hk
      have hk4 : k = 0 ∨ k = 1 ∨ k = 2 := by omega
      rcases hk4 with rfl | rfl | rfl
      · exact ⟨_, rfl, vv_n (t := 5) (by decide) (hx.ty hi1 (by decide))⟩
      · exact ⟨_, rfl, vv_n (t := 5) (by decide) (hx.ty hi2 (by decide))⟩
      · exact ⟨_, rfl, vv_o (t := 2) (by decide) (hx.op ho (by decide))⟩
    · exact absurd ((if_neg a).trans q2) q
  unfold mX7_addPair
  refine po_bind (ew2 _) ?_
  have ei : mX2_init n (some i1) (some i2) w (va_up f n (some (.inr (2, df2)))) (n + 1) = some (0, (va_up f n (some (.inr (2, [va_rf (some i1), va_rf (some i2), va_rf w]))), n + 1)) := by
    have hp : ∀ (l : List Value) (k : Nat) (v : Value), k < l.length → pO (va_up f n (some (.inr (2, l)))) n 2 k v = some (va_up f n (some (.inr (2, l.set k v)))) := fun l k v hk => by
      unfold pO
      rw [show va_up f n (some (.inr (2, l))) n = some (.inr (2, l)) from if_pos rfl]
      show (if 2 = 2 ∧ k < l.length then _ else _) = _
      rw [if_pos ⟨rfl, hk⟩]
      congr 1
      funext j
      show (if j = n then _ else (if j = n then _ else f j)) = (if j = n then _ else f j)
      by_cases hj : j = n
      · rw [if_pos hj, if_pos hj]
      · rw [if_neg hj, if_neg hj, if_neg hj]
    unfold mX2_init
    rw [hp _ _ _ (Nat.le_of_ble_eq_true rfl), Option.bind_some, hp _ _ _ (Nat.le_of_ble_eq_true rfl), Option.bind_some, hp _ _ _ (Nat.le_of_ble_eq_true rfl), Option.bind_some]
    rfl
  refine po_bind ei ?_
  refine po_pO (t := 202) hW2 (hx.ty h0 (by decide)) rfl rfl (vv_o (x := some n) (t := 2) (by decide) (fun i hi => by rw [← Option.some.inj hi]; exact if_pos rfl)) (fun g hg => ?_)
  refine po_gI hg (hx.ty h0 (by decide)) rfl rfl (by decide) (fun x ex (hx4 : 0 ≤ x.toInt ∧ x.toInt ≤ 12) => ?_)
  have e1 : (x + (1 : Int32)).toInt = x.toInt + 1 := i_add rfl (show (1 : Int32).toInt = 1 by decide) (by omega)
  have e2 := jmin_b (a := x + (1 : Int32)) (b := 12) e1 (show (12 : Int32).toInt = 12 by decide)
  refine po_pO hg (hx.ty h0 (by decide)) rfl rfl (vv_i (by decide) (vi4 (by omega))) (fun g2 hg2 => ?_)
  exact po_ret ⟨_, hx, hg2, trivial⟩
end ROWS
end
/-! part 37c.num -/
section
/-! numbers of the class -/
theorem kt_m1 : (-1 : Int32).toInt = -1 := by decide
theorem kt_0 : (0 : Int32).toInt = 0 := by decide
theorem kt_1 : (1 : Int32).toInt = 1 := by decide
theorem kt_2 : (2 : Int32).toInt = 2 := by decide
theorem kt_3 : (3 : Int32).toInt = 3 := by decide
theorem kt_4 : (4 : Int32).toInt = 4 := by decide
theorem kt_5 : (5 : Int32).toInt = 5 := by decide
theorem kt_6 : (6 : Int32).toInt = 6 := by decide
theorem kt_7 : (7 : Int32).toInt = 7 := by decide
theorem kt_8 : (8 : Int32).toInt = 8 := by decide
theorem kt_9 : (9 : Int32).toInt = 9 := by decide
theorem kt_10 : (10 : Int32).toInt = 10 := by decide
theorem kt_11 : (11 : Int32).toInt = 11 := by decide
theorem kt_12 : (12 : Int32).toInt = 12 := by decide
theorem kt_13 : (13 : Int32).toInt = 13 := by decide
theorem kt_14 : (14 : Int32).toInt = 14 := by decide
theorem kt_32 : (32 : Int32).toInt = 32 := by decide
theorem kt_34 : (34 : Int32).toInt = 34 := by decide
theorem kt_35 : (35 : Int32).toInt = 35 := by decide
theorem kt_38 : (38 : Int32).toInt = 38 := by decide
theorem kt_39 : (39 : Int32).toInt = 39 := by decide
theorem kt_40 : (40 : Int32).toInt = 40 := by decide
theorem kt_44 : (44 : Int32).toInt = 44 := by decide
theorem kt_48 : (48 : Int32).toInt = 48 := by decide
theorem kt_57 : (57 : Int32).toInt = 57 := by decide
theorem kt_58 : (58 : Int32).toInt = 58 := by decide
theorem kt_59 : (59 : Int32).toInt = 59 := by decide
theorem kt_60 : (60 : Int32).toInt = 60 := by decide
theorem kt_61 : (61 : Int32).toInt = 61 := by decide
theorem kt_62 : (62 : Int32).toInt = 62 := by decide
theorem kt_65 : (65 : Int32).toInt = 65 := by decide
theorem kt_90 : (90 : Int32).toInt = 90 := by decide
theorem kt_92 : (92 : Int32).toInt = 92 := by decide
theorem kt_97 : (97 : Int32).toInt = 97 := by decide
theorem kt_103 : (103 : Int32).toInt = 103 := by decide
theorem kt_108 : (108 : Int32).toInt = 108 := by decide
theorem kt_109 : (109 : Int32).toInt = 109 := by decide
theorem kt_110 : (110 : Int32).toInt = 110 := by decide
theorem kt_112 : (112 : Int32).toInt = 112 := by decide
theorem kt_116 : (116 : Int32).toInt = 116 := by decide
theorem kt_122 : (122 : Int32).toInt = 122 := by decide
theorem kt_600 : (600 : Int32).toInt = 600 := by decide
theorem kn_4 : (nI 4).toInt = 4 := nI_toInt (by decide)
theorem kn_8 : (nI 8).toInt = 8 := nI_toInt (by decide)
theorem kn_40 : (nI 40).toInt = 40 := nI_toInt (by decide)
end
/-! part 37d.now -/
section
section NOWS
variable {G : TE} {F0 : AH} {S : Int32} {f : AH} {n : Nat}
theorem gI_fr {f g : AH} {j c k : Nat} (h : g j = f j) : gI g j c k = gI f j c k := by unfold gI; rw [h]
theorem gR_fr {f g : AH} {j c k : Nat} (h : g j = f j) : gR g j c k = gR f j c k := by unfold gR; rw [h]
theorem gL_fr {f g : AH} {j : Nat} (h : g j = f j) : gL g j = gL f j := by unfold gL; rw [h]
theorem gRA_fr {f g : AH} {j : Nat} {x : Int32} (h : g j = f j) : gRA g j x = gRA f j x := by unfold gRA; rw [h]
def L60 (f : AH) (n v0 : Nat) (v1 : Int32) (p : Nat) : Prop := ∀ (st : Nat) (x : Int32), gR f v0 8 1 = some (some st) → mX7_toldFor st v1 f n = some (none, (f, n)) → gI f p 3 3 = some x → x.toInt ≤ 60
theorem told_fr (hW : WT G F0 S f n) {g : AH} {m st : Nat} {v1 : Int32} {w : Option Nat} (hg : ∀ j, j < n → g j = f j) (hst : G.1 st = 7) (h : mX7_toldFor st v1 g m = some (w, (g, m))) : mX7_toldFor st v1 f n = some (w, (f, n)) := by
  obtain ⟨x, ex, hx⟩ := wt_gR (k := 9) (t := 111) hW hst rfl rfl (by decide)
  have hx : ∃ i, x = some i ∧ G.1 i = 11 := hx
  obtain ⟨ta, rfl, hta⟩ := hx
  have b1 := hW.2.1 st (by omega)
  have b2 := hW.2.1 ta (by omega)
  have e1 : gR g st 7 9 = some (some ta) := (gR_fr (hg st b1)).trans ex
  have e2 := wt_gL (N := 40) hW hta rfl rfl (by decide)
  have e3 : gL g ta = some 40 := (gL_fr (hg ta b2)).trans e2
  have e4 : gRA g ta v1 = gRA f ta v1 := gRA_fr (hg ta b2)
  unfold mX7_toldFor at h ⊢
  by_cases c : v1 < (0 : Int32)
  · rw [if_pos c] at h ⊢
    have q := (Prod.mk.inj (Option.some.inj (show some ((none : Option Nat), (g, m)) = some (w, (g, m)) from h))).1
    rw [← q]; rfl
  · rw [if_neg c, e1] at h
    rw [if_neg c, ex]
    rw [Option.bind_some, Option.bind_some, e3, Option.bind_some] at h
    rw [Option.bind_some, Option.bind_some, e2, Option.bind_some]
    by_cases c2 : nI 40 ≤ v1
    · rw [if_pos c2] at h ⊢
      have q := (Prod.mk.inj (Option.some.inj (show some ((none : Option Nat), (g, m)) = some (w, (g, m)) from h))).1
      rw [← q]; rfl
    · rw [if_neg c2, Option.bind_some, Option.bind_some, e4] at h
      rw [if_neg c2, Option.bind_some, Option.bind_some]
      cases hr : gRA f ta v1 with
      | none => rw [hr] at h; cases h
      | some r =>
        rw [hr] at h
        have q := (Prod.mk.inj (Option.some.inj (show some (r, (g, m)) = some (w, (g, m)) from h))).1
        rw [← q]; rfl
theorem L60_fr (hW : WT G F0 S f n) {g : AH} {m v0 p : Nat} {v1 : Int32} (hg : ∀ j, j < n → g j = f j) (h0 : G.1 v0 = 8) (hp : G.1 p = 3) (h : L60 f n v0 v1 p) : L60 g m v0 v1 p := by
  intro st x e1 e2 e3
  have b0 := hW.2.1 v0 (by omega)
  have b1 := hW.2.1 p (by omega)
  rw [gR_fr (hg v0 b0)] at e1
  rw [gI_fr (hg p b1)] at e3
  obtain ⟨y, ey, hy⟩ := wt_gR (k := 1) (t := 107) hW h0 rfl rfl (by decide)
  have hy : ∃ i, y = some i ∧ G.1 i = 7 := hy
  obtain ⟨i, rfl, hi⟩ := hy
  have hst : G.1 st = 7 := by
    have q := Option.some.inj (Option.some.inj (e1.symm.trans ey))
    rw [q]; exact hi
  exact h st x e1 (told_fr hW hg hst e2) e3
theorem po_af {α β : Type} {Q : β → AH → Nat → Prop} {o : Option (α × HpN)} {P : TE → α → AH → Prop} {k : α × HpN → Option (β × HpN)} (h1 : PO o (fun v f' n' => ∃ G', EXT G G' ∧ WT G' F0 S f' n' ∧ P G' v f')) (h : ∀ v f' n' G', EXT G G' → WT G' F0 S f' n' → P G' v f' → PO (k (v, (f', n'))) Q) : PO (o.bind k) Q := by
  obtain ⟨v, f', n', e, G', hx, hw, hp⟩ := h1
  rw [e]; exact h v f' n' G' hx hw hp
end NOWS
end
/-! part 38a.wt -/
section
set_option maxHeartbeats 1000000 in
theorem tX8_fault {G : TE} {F0 : AH} {S : Int32} {f : AH} {n : Nat} {v0 : Nat} (hW : WT G F0 S f n) (h0 : G.1 v0 = 8) : PO (mX8_fault v0 f n) (fun v f' n' => f' = f ∧ n' = n ∧ (True)) := by
  unfold mX8_fault
  refine po_gI hW h0 rfl rfl (by decide) (fun x1x ex1 (_ : True) => ?_)
  exact po_ret ⟨rfl, rfl, trivial⟩
set_option maxHeartbeats 1000000 in
theorem tX8_why {G : TE} {F0 : AH} {S : Int32} {f : AH} {n : Nat} {v0 : Nat} (hW : WT G F0 S f n) (h0 : G.1 v0 = 8) : PO (mX8_why v0 f n) (fun v f' n' => f' = f ∧ n' = n ∧ (True)) := by
  unfold mX8_why
  refine po_gI hW h0 rfl rfl (by decide) (fun x1x ex1 (_ : True) => ?_)
  exact po_ret ⟨rfl, rfl, trivial⟩
set_option maxHeartbeats 1000000 in
theorem tX5_get {G : TE} {F0 : AH} {S : Int32} {f : AH} {n : Nat} {v0 : Nat} {v1 : Int32} (hW : WT G F0 S f n) (h0 : G.1 v0 = 5) : PO (mX5_get v0 v1 f n) (fun v f' n' => f' = f ∧ n' = n ∧ (True)) := by
  unfold mX5_get
  refine po_lt rfl kt_0 (fun q1 => ?_) (fun q1 => ?_)
  · unfold mX5_get_b30
    unfold mX5_get_b31
    exact po_ret ⟨rfl, rfl, trivial⟩
  · refine po_rs hW h0 (fun x2x ex2 hx2 hy2 => ?_)
    refine po_le rfl rfl (fun q3 => ?_) (fun q3 => ?_)
    · unfold mX5_get_b30
      unfold mX5_get_b31
      exact po_ret ⟨rfl, rfl, trivial⟩
    · refine po_rb hW h0 ?_
      refine po_some ?_
      refine po_rl hW h0 (fun N5 ha5 hb5 hc5 => ?_)
      refine po_le hc5 rfl (fun q6 => ?_) (fun q6 => ?_)
      · unfold mX5_get_b30
        unfold mX5_get_b31
        exact po_ret ⟨rfl, rfl, trivial⟩
      · refine po_rb hW h0 ?_
        refine po_some ?_
        refine po_ria hW h0 (by omega) (fun x8x => ?_)
        unfold mX5_get_b31
        exact po_ret ⟨rfl, rfl, trivial⟩
set_option maxHeartbeats 1000000 in
theorem tX7_forgetTold_l2 {G : TE} {F0 : AH} {S : Int32} {n : Nat} : ∀ (d : Nat) (v0 : Nat) (v1 : Int32) (f : AH), WT G F0 S f n → G.1 v0 = 7 → (0 ≤ v1.toInt ∧ v1.toInt ≤ 2000) → 3000 - v1.toInt < (d : Int) → PO (mX7_forgetTold_l2 d v0 v1 f n) (fun v f' n' => n' = n ∧ WT G F0 S f' n ∧ (True)) := by
  intro d
  induction d with
  | zero =>
    intro v0 v1 f hW h0 h1  hm
    exfalso
    omega
  | succ d ih =>
    intro v0 v1 f hW h0 h1  hm
    show PO ((gR f v0 7 9).bind fun x1 => ((x1).bind fun j2 => ((gL f j2).bind fun x3 => (if (nI x3) ≤ v1 then some ((0 : Int32), (f, n)) else ((gR f v0 7 9).bind fun x4 => ((x4).bind fun j5 => ((pRA f j5 v1 (none : Option Nat)).bind fun f6 => mX7_forgetTold_l2 d v0 (v1 + (1 : Int32)) f6 n))))))) _
    refine po_gRn (t := 11) hW h0 rfl rfl (by decide) (fun i1 ex1 hi1 => ?_)
    refine po_some ?_
    refine po_gL (N := 40) hW hi1 rfl rfl (by decide) ?_
    refine po_le kn_40 rfl (fun q2 => ?_) (fun q2 => ?_)
    · exact po_ret ⟨rfl, hW, trivial⟩
    · refine po_bind ex1 ?_
      refine po_some ?_
      refine po_pRAo (N := 40) hW hi1 rfl rfl (by omega) (fun _ hi => nomatch hi) (fun g3 hW3 => ?_)
      have e4 : (v1 + (1 : Int32)).toInt = v1.toInt + 1 := i_add rfl kt_1 (by omega)
      exact (ih v0 (v1 + (1 : Int32)) g3 hW3 h0 (by omega)  (by omega))
set_option maxHeartbeats 1000000 in
theorem tX7_forgetTold {G : TE} {F0 : AH} {S : Int32} {f : AH} {n : Nat} {v0 : Nat} (hW : WT G F0 S f n) (h0 : G.1 v0 = 7) : PO (mX7_forgetTold v0 f n) (fun v f' n' => n' = n ∧ WT G F0 S f' n ∧ (True)) := by
  have k_kt_0 := kt_0
  unfold mX7_forgetTold
  exact (tX7_forgetTold_l2 rFU v0 (0 : Int32) f hW h0 (by omega)  (by unfold rFU; omega))
set_option maxHeartbeats 1000000 in
theorem tX6_start {G : TE} {F0 : AH} {S : Int32} {f : AH} {n : Nat} {v0 : Nat} {v1 : Option Nat} {v2 : Int32} (hW : WT G F0 S f n) (h0 : G.1 v0 = 6) (h1 : (∃ i, v1 = some i ∧ G.1 i = 5)) : PO (mX6_start v0 v1 v2 f n) (fun v f' n' => n' = n ∧ WT G F0 S f' n ∧ (True)) := by
  obtain ⟨iv1, rfl, h1⟩ := h1
  have k_kt_0 := kt_0
  unfold mX6_start
  refine po_pO hW h0 rfl rfl (vv_n (t := 5) (by decide) h1) (fun g1 hW1 => ?_)
  refine po_pI hW1 h0 rfl rfl (vv_i (by decide) trivial) (fun g2 hW2 ex2 => ?_)
  refine po_pI hW2 h0 rfl rfl (vv_i (by decide) (vi2 (by omega))) (fun g3 hW3 ex3 => ?_)
  refine po_ck rfl ?_
  refine po_pI hW3 h0 rfl rfl (vv_i (by decide) (Or.inl rfl)) (fun g4 hW4 ex4 => ?_)
  refine po_pI hW4 h0 rfl rfl (vv_i (by decide) (vi2 (by omega))) (fun g5 hW5 ex5 => ?_)
  refine po_pI hW5 h0 rfl rfl (vv_i (by decide) trivial) (fun g6 hW6 ex6 => ?_)
  exact po_ret ⟨rfl, hW6, trivial⟩
set_option maxHeartbeats 1000000 in
theorem tX5_next_l3 {G : TE} {F0 : AH} {S : Int32} {n : Nat} : ∀ (d : Nat) (v0 : Nat) (v1 : Int32) (v3 : Int32) (v4 : Int32) (f : AH), WT G F0 S f n → G.1 v0 = 5 → (0 ≤ v3.toInt ∧ v3.toInt ≤ 700) → (0 ≤ v4.toInt ∧ v4.toInt ≤ 2500) → v3.toInt - v4.toInt + 2501 < (d : Int) → PO (mX5_next_l3 d v0 v1 v3 v4 f n) (fun v f' n' => f' = f ∧ n' = n ∧ (0 ≤ v.toInt ∧ v.toInt ≤ v3.toInt)) := by
  intro d
  induction d with
  | zero =>
    intro v0 v1 v3 v4 f hW h0 h1 h2  hm
    exfalso
    omega
  | succ d ih =>
    intro v0 v1 v3 v4 f hW h0 h1 h2  hm
    show PO (if v4 < (0 : Int32) then mX5_next_b44 v3 f n else (if v3 ≤ v4 then mX5_next_b44 v3 f n else ((gR f v0 5 0).bind fun x1 => ((x1).bind fun j2 => ((gL f j2).bind fun x3 => (if (nI x3) ≤ v4 then mX5_next_b44 v3 f n else ((gR f v0 5 0).bind fun x4 => ((x4).bind fun j5 => ((gIA f j5 v4).bind fun x6 => (if x6 = v1 then some (v4, (f, n)) else mX5_next_l3 d v0 v1 v3 (v4 + (1 : Int32)) f n)))))))))) _
    refine po_lt rfl kt_0 (fun q1 => ?_) (fun q1 => ?_)
    · unfold mX5_next_b44
      exact po_ret ⟨rfl, rfl, (by omega)⟩
    · refine po_le rfl rfl (fun q2 => ?_) (fun q2 => ?_)
      · unfold mX5_next_b44
        exact po_ret ⟨rfl, rfl, (by omega)⟩
      · refine po_rb hW h0 ?_
        refine po_some ?_
        refine po_rl hW h0 (fun N4 ha4 hb4 hc4 => ?_)
        refine po_le hc4 rfl (fun q5 => ?_) (fun q5 => ?_)
        · unfold mX5_next_b44
          exact po_ret ⟨rfl, rfl, (by omega)⟩
        · refine po_rb hW h0 ?_
          refine po_some ?_
          refine po_ria hW h0 (by omega) (fun x7x => ?_)
          refine po_eq (fun q8 => ?_) (fun q8 => ?_)
          · exact po_ret ⟨rfl, rfl, (by omega)⟩
          · have e9 : (v4 + (1 : Int32)).toInt = v4.toInt + 1 := i_add rfl kt_1 (by omega)
            exact (ih v0 v1 v3 (v4 + (1 : Int32)) f hW h0 (by omega) (by omega)  (by omega))
set_option maxHeartbeats 1000000 in
theorem tX5_next {G : TE} {F0 : AH} {S : Int32} {f : AH} {n : Nat} {v0 : Nat} {v1 : Int32} {v2 : Int32} {v3 : Int32} (hW : WT G F0 S f n) (h0 : G.1 v0 = 5) (h1 : (0 ≤ v2.toInt ∧ v2.toInt ≤ 2500)) (h2 : (0 ≤ v3.toInt ∧ v3.toInt ≤ 700)) : PO (mX5_next v0 v1 v2 v3 f n) (fun v f' n' => f' = f ∧ n' = n ∧ (0 ≤ v.toInt ∧ v.toInt ≤ v3.toInt)) := by
  unfold mX5_next
  exact (tX5_next_l3 rFU v0 v1 v3 v2 f hW h0 (by omega) (by omega)  (by unfold rFU; omega))
set_option maxHeartbeats 1000000 in
theorem tX5_behindBlanks_l2 {G : TE} {F0 : AH} {S : Int32} {n : Nat} : ∀ (d : Nat) (v0 : Nat) (v2 : Int32) (v3 : Int32) (f : AH), WT G F0 S f n → G.1 v0 = 5 → (0 ≤ v2.toInt ∧ v2.toInt ≤ 700) → (0 ≤ v3.toInt ∧ v3.toInt ≤ 2500) → v2.toInt - v3.toInt + 2501 < (d : Int) → PO (mX5_behindBlanks_l2 d v0 v2 v3 f n) (fun v f' n' => f' = f ∧ n' = n ∧ (0 ≤ v.toInt ∧ v.toInt ≤ v2.toInt)) := by
  intro d
  induction d with
  | zero =>
    intro v0 v2 v3 f hW h0 h1 h2  hm
    exfalso
    omega
  | succ d ih =>
    intro v0 v2 v3 f hW h0 h1 h2  hm
    show PO (if v3 < (0 : Int32) then mX5_behindBlanks_b39 v2 f n else (if v2 ≤ v3 then mX5_behindBlanks_b39 v2 f n else ((gR f v0 5 0).bind fun x1 => ((x1).bind fun j2 => ((gL f j2).bind fun x3 => (if (nI x3) ≤ v3 then mX5_behindBlanks_b39 v2 f n else ((gR f v0 5 0).bind fun x4 => ((x4).bind fun j5 => ((gIA f j5 v3).bind fun x6 => (if x6 = (32 : Int32) then mX5_behindBlanks_l2 d v0 v2 (v3 + (1 : Int32)) f n else some (v3, (f, n)))))))))))) _
    refine po_lt rfl kt_0 (fun q1 => ?_) (fun q1 => ?_)
    · unfold mX5_behindBlanks_b39
      exact po_ret ⟨rfl, rfl, (by omega)⟩
    · refine po_le rfl rfl (fun q2 => ?_) (fun q2 => ?_)
      · unfold mX5_behindBlanks_b39
        exact po_ret ⟨rfl, rfl, (by omega)⟩
      · refine po_rb hW h0 ?_
        refine po_some ?_
        refine po_rl hW h0 (fun N4 ha4 hb4 hc4 => ?_)
        refine po_le hc4 rfl (fun q5 => ?_) (fun q5 => ?_)
        · unfold mX5_behindBlanks_b39
          exact po_ret ⟨rfl, rfl, (by omega)⟩
        · refine po_rb hW h0 ?_
          refine po_some ?_
          refine po_ria hW h0 (by omega) (fun x7x => ?_)
          refine po_eq (fun q8 => ?_) (fun q8 => ?_)
          · have e9 : (v3 + (1 : Int32)).toInt = v3.toInt + 1 := i_add rfl kt_1 (by omega)
            exact (ih v0 v2 (v3 + (1 : Int32)) f hW h0 (by omega) (by omega)  (by omega))
          · exact po_ret ⟨rfl, rfl, (by omega)⟩
set_option maxHeartbeats 1000000 in
theorem tX5_behindBlanks {G : TE} {F0 : AH} {S : Int32} {f : AH} {n : Nat} {v0 : Nat} {v1 : Int32} {v2 : Int32} (hW : WT G F0 S f n) (h0 : G.1 v0 = 5) (h1 : (0 ≤ v1.toInt ∧ v1.toInt ≤ 2500)) (h2 : (0 ≤ v2.toInt ∧ v2.toInt ≤ 700)) : PO (mX5_behindBlanks v0 v1 v2 f n) (fun v f' n' => f' = f ∧ n' = n ∧ (0 ≤ v.toInt ∧ v.toInt ≤ v2.toInt)) := by
  unfold mX5_behindBlanks
  exact (tX5_behindBlanks_l2 rFU v0 v2 v1 f hW h0 (by omega) (by omega)  (by unfold rFU; omega))
set_option maxHeartbeats 1000000 in
theorem tX6_tryLine_l102 {G : TE} {F0 : AH} {S : Int32} {n : Nat} : ∀ (d : Nat) (v0 : Nat) (v2 : Int32) (v3 : Int32) (v4 : Int32) (f : AH), WT G F0 S f n → G.1 v0 = 6 → (0 ≤ v2.toInt ∧ v2.toInt ≤ 700) → (0 ≤ v3.toInt ∧ v3.toInt ≤ 700) → ((-1) ≤ v4.toInt ∧ v4.toInt ≤ 700) → v4.toInt + 2 < (d : Int) → PO (mX6_tryLine_l102 d v0 v2 v3 v4 f n) (fun v f' n' => n' = n ∧ WT G F0 S f' n ∧ (True)) := by
  intro d
  induction d with
  | zero =>
    intro v0 v2 v3 v4 f hW h0 h1 h2 h3  hm
    exfalso
    omega
  | succ d ih =>
    intro v0 v2 v3 v4 f hW h0 h1 h2 h3  hm
    show PO ((gI f v0 6 4).bind fun x1 => (if v4 < x1 then mX6_tryLine_b141 v0 v2 v3 f n else ((gR f v0 6 0).bind fun x2 => ((x2).bind fun j3 => rCk (isO f j3 5) (((mX5_get j3 v4 f n).bind fun r5 => (if r5.1 = (32 : Int32) then ((gI r5.2.1 v0 6 5).bind fun x7 => ((pO r5.2.1 v0 6 5 (.int (x7 - (1 : Int32)))).bind fun f8 => mX6_tryLine_l102 d v0 v2 v3 (v4 + (-1 : Int32)) f8 r5.2.2)) else mX6_tryLine_b141 v0 v2 v3 r5.2.1 r5.2.2))))))) _
    refine po_gI hW h0 rfl rfl (by decide) (fun x1x ex1 (hx1 : 0 ≤ x1x.toInt ∧ x1x.toInt ≤ 700) => ?_)
    refine po_lt rfl rfl (fun q2 => ?_) (fun q2 => ?_)
    · unfold mX6_tryLine_b141
      refine po_gRn (t := 5) hW h0 rfl rfl (by decide) (fun i3 ex3 hi3 => ?_)
      refine po_some ?_
      refine po_ck (wt_isO hW hi3 (by decide)) ?_
      have e4 : (v3 + (1 : Int32)).toInt = v3.toInt + 1 := i_add rfl kt_1 (by omega)
      refine po_ro (tX5_behindBlanks hW hi3 (by omega) (by omega)) (fun y5 ex5 p5 => ?_)
      dsimp only
      refine po_pI hW h0 rfl rfl (vv_i (by decide) (vi10 (by omega))) (fun g6 hW6 ex6 => ?_)
      exact po_ret ⟨rfl, hW6, trivial⟩
    · refine po_gRn (t := 5) hW h0 rfl rfl (by decide) (fun i7 ex7 hi7 => ?_)
      refine po_some ?_
      refine po_ck (wt_isO hW hi7 (by decide)) ?_
      refine po_ro (tX5_get hW hi7) (fun y8 ex8 p8 => ?_)
      dsimp only
      refine po_eq (fun q9 => ?_) (fun q9 => ?_)
      · refine po_gI hW h0 rfl rfl (by decide) (fun x10x ex10 (_ : True) => ?_)
        refine po_pI hW h0 rfl rfl (vv_i (by decide) trivial) (fun g11 hW11 ex11 => ?_)
        have e12 : (v4 + (-1 : Int32)).toInt = v4.toInt + (-1) := i_add rfl kt_m1 (by omega)
        exact (ih v0 v2 v3 (v4 + (-1 : Int32)) g11 hW11 h0 (by omega) (by omega) (by omega)  (by omega))
      · unfold mX6_tryLine_b141
        refine po_bind ex7 ?_
        refine po_some ?_
        refine po_ck (wt_isO hW hi7 (by decide)) ?_
        have e13 : (v3 + (1 : Int32)).toInt = v3.toInt + 1 := i_add rfl kt_1 (by omega)
        refine po_ro (tX5_behindBlanks hW hi7 (by omega) (by omega)) (fun y14 ex14 p14 => ?_)
        dsimp only
        refine po_pI hW h0 rfl rfl (vv_i (by decide) (vi10 (by omega))) (fun g15 hW15 ex15 => ?_)
        exact po_ret ⟨rfl, hW15, trivial⟩
set_option maxHeartbeats 1000000 in
theorem tX6_tryLine {G : TE} {F0 : AH} {S : Int32} {f : AH} {n : Nat} {v0 : Nat} (hW : WT G F0 S f n) (h0 : G.1 v0 = 6) : PO (mX6_tryLine v0 f n) (fun v f' n' => n' = n ∧ WT G F0 S f' n ∧ (True)) := by
  unfold mX6_tryLine
  refine po_gI hW h0 rfl rfl (by decide) (fun x1x ex1 (hx1 : 0 ≤ x1x.toInt ∧ x1x.toInt ≤ 700) => ?_)
  refine po_gRn (t := 5) hW h0 rfl rfl (by decide) (fun i2 ex2 hi2 => ?_)
  refine po_bind ex2 ?_
  refine po_some ?_
  refine po_ck (wt_isO hW hi2 (by decide)) ?_
  refine po_ro (tX5_size hW hi2) (fun y3 ex3 p3 => ?_)
  dsimp only
  refine po_some ?_
  refine po_ck (wt_isO hW hi2 (by decide)) ?_
  refine po_ro (tX5_next hW hi2 (by omega) (by omega)) (fun y4 ex4 p4 => ?_)
  dsimp only
  have e6 : (y4 + (1 : Int32)).toInt = y4.toInt + 1 := i_add rfl kt_1 (by omega)
  refine po_pI hW h0 rfl rfl (vv_i (by decide) (vi2 (by omega))) (fun g5 hW5 ex5 => ?_)
  refine po_gRn (t := 5) hW5 h0 rfl rfl (by decide) (fun i7 ex7 hi7 => ?_)
  refine po_some ?_
  refine po_ck (wt_isO hW5 hi7 (by decide)) ?_
  refine po_ro (tX5_next hW5 hi7 (by omega) (by omega)) (fun y8 ex8 p8 => ?_)
  dsimp only
  refine po_bind ex7 ?_
  refine po_some ?_
  refine po_ck (wt_isO hW5 hi7 (by decide)) ?_
  refine po_ro (tX5_behindBlanks hW5 hi7 (by omega) (by omega)) (fun y9 ex9 p9 => ?_)
  dsimp only
  refine po_pI hW5 h0 rfl rfl (vv_i (by decide) (vi2 (by omega))) (fun g10 hW10 ex10 => ?_)
  refine po_pI hW10 h0 rfl rfl (vv_i (by decide) (vi10 (by omega))) (fun g11 hW11 ex11 => ?_)
  refine po_pI hW11 h0 rfl rfl (vv_i (by decide) (vi9 (by omega))) (fun g12 hW12 ex12 => ?_)
  refine po_eq (fun q13 => ?_) (fun q13 => ?_)
  · unfold mX6_tryLine_b86
    exact po_ret ⟨rfl, hW12, trivial⟩
  · refine po_gRn (t := 5) hW12 h0 rfl rfl (by decide) (fun i14 ex14 hi14 => ?_)
    refine po_gI hW12 h0 rfl rfl (by decide) (fun x15x ex15 (hx15 : 0 ≤ x15x.toInt ∧ x15x.toInt ≤ 700) => ?_)
    refine po_some ?_
    refine po_ck (wt_isO hW12 hi14 (by decide)) ?_
    refine po_ro (tX5_get hW12 hi14) (fun y16 ex16 p16 => ?_)
    dsimp only
    refine po_eq (fun q17 => ?_) (fun q17 => ?_)
    · unfold mX6_tryLine_b86
      exact po_ret ⟨rfl, hW12, trivial⟩
    · refine po_bind ex15 ?_
      refine po_pI hW12 h0 rfl rfl (vv_i (by decide) trivial) (fun g18 hW18 ex18 => ?_)
      have e19 : (y8 - (1 : Int32)).toInt = y8.toInt - 1 := i_sub rfl kt_1 (by omega)
      exact (tX6_tryLine_l102 rFU v0 y4 y8 (y8 - (1 : Int32)) g18 hW18 h0 (by omega) (by omega) (by omega)  (by unfold rFU; omega))
set_option maxHeartbeats 1000000 in
theorem tX5_cellQuoteEnd_l4 {G : TE} {F0 : AH} {S : Int32} {n : Nat} : ∀ (d : Nat) (v0 : Nat) (v2 : Int32) (v3 : Int32) (f : AH), WT G F0 S f n → G.1 v0 = 5 → (0 ≤ v3.toInt ∧ v3.toInt ≤ 2000) → 3000 - v3.toInt < (d : Int) → PO (mX5_cellQuoteEnd_l4 d v0 v2 v3 f n) (fun v f' n' => f' = f ∧ n' = n ∧ ((-1) ≤ v.toInt ∧ v.toInt ≤ 600)) := by
  intro d
  induction d with
  | zero =>
    intro v0 v2 v3 f hW h0 h1  hm
    exfalso
    omega
  | succ d ih =>
    intro v0 v2 v3 f hW h0 h1  hm
    show PO (if v3 < (0 : Int32) then mX5_cellQuoteEnd_b63 v0 v2 f n else ((gI f v0 5 1).bind fun x1 => (if x1 ≤ v3 then mX5_cellQuoteEnd_b63 v0 v2 f n else ((gR f v0 5 0).bind fun x2 => ((x2).bind fun j3 => ((gL f j3).bind fun x4 => (if (nI x4) ≤ v3 then mX5_cellQuoteEnd_b63 v0 v2 f n else ((gR f v0 5 0).bind fun x5 => ((x5).bind fun j6 => ((gIA f j6 v3).bind fun x7 => (if x7 = (34 : Int32) then (if v2 = (0 : Int32) then mX5_cellQuoteEnd_b45 (fun v0 v2 v3 f n => mX5_cellQuoteEnd_l4 d v0 v2 v3 f n) v0 v3 (1 : Int32) f n else mX5_cellQuoteEnd_b45 (fun v0 v2 v3 f n => mX5_cellQuoteEnd_l4 d v0 v2 v3 f n) v0 v3 (0 : Int32) f n) else (if v2 = (0 : Int32) then mX5_cellQuoteEnd_b57 (fun v0 v2 v3 f n => mX5_cellQuoteEnd_l4 d v0 v2 v3 f n) v0 v2 v3 f n else some ((v3 - (1 : Int32)), (f, n)))))))))))))) _
    refine po_lt rfl kt_0 (fun q1 => ?_) (fun q1 => ?_)
    · unfold mX5_cellQuoteEnd_b63
      refine po_eq (fun q2 => ?_) (fun q2 => ?_)
      · refine po_rs hW h0 (fun x3x ex3 hx3 hy3 => ?_)
        unfold mX5_cellQuoteEnd_b80
        exact po_ret ⟨rfl, rfl, (by omega)⟩
      · refine po_rs hW h0 (fun x4x ex4 hx4 hy4 => ?_)
        unfold mX5_cellQuoteEnd_b80
        have e5 : (x4x - (1 : Int32)).toInt = x4x.toInt - 1 := i_sub rfl kt_1 (by omega)
        exact po_ret ⟨rfl, rfl, (by omega)⟩
    · refine po_rs hW h0 (fun x6x ex6 hx6 hy6 => ?_)
      refine po_le rfl rfl (fun q7 => ?_) (fun q7 => ?_)
      · unfold mX5_cellQuoteEnd_b63
        refine po_eq (fun q8 => ?_) (fun q8 => ?_)
        · refine po_bind ex6 ?_
          unfold mX5_cellQuoteEnd_b80
          exact po_ret ⟨rfl, rfl, (by omega)⟩
        · refine po_bind ex6 ?_
          unfold mX5_cellQuoteEnd_b80
          have e9 : (x6x - (1 : Int32)).toInt = x6x.toInt - 1 := i_sub rfl kt_1 (by omega)
          exact po_ret ⟨rfl, rfl, (by omega)⟩
      · refine po_rb hW h0 ?_
        refine po_some ?_
        refine po_rl hW h0 (fun N11 ha11 hb11 hc11 => ?_)
        refine po_le hc11 rfl (fun q12 => ?_) (fun q12 => ?_)
        · unfold mX5_cellQuoteEnd_b63
          refine po_eq (fun q13 => ?_) (fun q13 => ?_)
          · refine po_bind ex6 ?_
            unfold mX5_cellQuoteEnd_b80
            exact po_ret ⟨rfl, rfl, (by omega)⟩
          · refine po_bind ex6 ?_
            unfold mX5_cellQuoteEnd_b80
            have e14 : (x6x - (1 : Int32)).toInt = x6x.toInt - 1 := i_sub rfl kt_1 (by omega)
            exact po_ret ⟨rfl, rfl, (by omega)⟩
        · refine po_rb hW h0 ?_
          refine po_some ?_
          refine po_ria hW h0 (by omega) (fun x16x => ?_)
          refine po_eq (fun q17 => ?_) (fun q17 => ?_)
          · refine po_eq (fun q18 => ?_) (fun q18 => ?_)
            · unfold mX5_cellQuoteEnd_b45
              unfold mX5_cellQuoteEnd_b57
              have e19 : (v3 + (1 : Int32)).toInt = v3.toInt + 1 := i_add rfl kt_1 (by omega)
              exact (ih v0 (1 : Int32) (v3 + (1 : Int32)) f hW h0 (by omega)  (by omega))
            · unfold mX5_cellQuoteEnd_b45
              unfold mX5_cellQuoteEnd_b57
              have e20 : (v3 + (1 : Int32)).toInt = v3.toInt + 1 := i_add rfl kt_1 (by omega)
              exact (ih v0 (0 : Int32) (v3 + (1 : Int32)) f hW h0 (by omega)  (by omega))
          · refine po_eq (fun q21 => ?_) (fun q21 => ?_)
            · unfold mX5_cellQuoteEnd_b57
              have e22 : (v3 + (1 : Int32)).toInt = v3.toInt + 1 := i_add rfl kt_1 (by omega)
              exact (ih v0 v2 (v3 + (1 : Int32)) f hW h0 (by omega)  (by omega))
            · have e23 : (v3 - (1 : Int32)).toInt = v3.toInt - 1 := i_sub rfl kt_1 (by omega)
              exact po_ret ⟨rfl, rfl, (by omega)⟩
set_option maxHeartbeats 1000000 in
theorem tX5_cellQuoteEnd {G : TE} {F0 : AH} {S : Int32} {f : AH} {n : Nat} {v0 : Nat} {v1 : Int32} (hW : WT G F0 S f n) (h0 : G.1 v0 = 5) (h1 : (0 ≤ v1.toInt ∧ v1.toInt ≤ 2000)) : PO (mX5_cellQuoteEnd v0 v1 f n) (fun v f' n' => f' = f ∧ n' = n ∧ ((-1) ≤ v.toInt ∧ v.toInt ≤ 600)) := by
  unfold mX5_cellQuoteEnd
  exact (tX5_cellQuoteEnd_l4 rFU v0 (0 : Int32) v1 f hW h0 (by omega)  (by unfold rFU; omega))
set_option maxHeartbeats 1000000 in
theorem tX5_cellEnd_l2 {G : TE} {F0 : AH} {S : Int32} {n : Nat} : ∀ (d : Nat) (v0 : Nat) (v2 : Int32) (f : AH), WT G F0 S f n → G.1 v0 = 5 → (0 ≤ v2.toInt ∧ v2.toInt ≤ 2000) → 3000 - v2.toInt < (d : Int) → PO (mX5_cellEnd_l2 d v0 v2 f n) (fun v f' n' => f' = f ∧ n' = n ∧ (0 ≤ v.toInt ∧ v.toInt ≤ 600)) := by
  intro d
  induction d with
  | zero =>
    intro v0 v2 f hW h0 h1  hm
    exfalso
    omega
  | succ d ih =>
    intro v0 v2 f hW h0 h1  hm
    show PO (if v2 < (0 : Int32) then mX5_cellEnd_b53 v0 f n else ((gI f v0 5 1).bind fun x1 => (if x1 ≤ v2 then mX5_cellEnd_b53 v0 f n else ((gR f v0 5 0).bind fun x2 => ((x2).bind fun j3 => ((gL f j3).bind fun x4 => (if (nI x4) ≤ v2 then mX5_cellEnd_b53 v0 f n else ((gR f v0 5 0).bind fun x5 => ((x5).bind fun j6 => ((gIA f j6 v2).bind fun x7 => (if x7 = (44 : Int32) then mX5_cellEnd_b45 v2 f n else ((gR f v0 5 0).bind fun x8 => ((x8).bind fun j9 => ((gIA f j9 v2).bind fun x10 => (if x10 = (10 : Int32) then mX5_cellEnd_b45 v2 f n else mX5_cellEnd_l2 d v0 (v2 + (1 : Int32)) f n))))))))))))))) _
    refine po_lt rfl kt_0 (fun q1 => ?_) (fun q1 => ?_)
    · unfold mX5_cellEnd_b53
      refine po_rs hW h0 (fun x2x ex2 hx2 hy2 => ?_)
      exact po_ret ⟨rfl, rfl, (by omega)⟩
    · refine po_rs hW h0 (fun x3x ex3 hx3 hy3 => ?_)
      refine po_le rfl rfl (fun q4 => ?_) (fun q4 => ?_)
      · unfold mX5_cellEnd_b53
        refine po_bind ex3 ?_
        exact po_ret ⟨rfl, rfl, (by omega)⟩
      · refine po_rb hW h0 ?_
        refine po_some ?_
        refine po_rl hW h0 (fun N6 ha6 hb6 hc6 => ?_)
        refine po_le hc6 rfl (fun q7 => ?_) (fun q7 => ?_)
        · unfold mX5_cellEnd_b53
          refine po_bind ex3 ?_
          exact po_ret ⟨rfl, rfl, (by omega)⟩
        · refine po_rb hW h0 ?_
          refine po_some ?_
          refine po_ria hW h0 (by omega) (fun x9x => ?_)
          refine po_eq (fun q10 => ?_) (fun q10 => ?_)
          · unfold mX5_cellEnd_b45
            exact po_ret ⟨rfl, rfl, (by omega)⟩
          · refine po_rb hW h0 ?_
            refine po_some ?_
            refine po_ria hW h0 (by omega) (fun x12x => ?_)
            refine po_eq (fun q13 => ?_) (fun q13 => ?_)
            · unfold mX5_cellEnd_b45
              exact po_ret ⟨rfl, rfl, (by omega)⟩
            · have e14 : (v2 + (1 : Int32)).toInt = v2.toInt + 1 := i_add rfl kt_1 (by omega)
              exact (ih v0 (v2 + (1 : Int32)) f hW h0 (by omega)  (by omega))
set_option maxHeartbeats 1000000 in
theorem tX5_cellEnd {G : TE} {F0 : AH} {S : Int32} {f : AH} {n : Nat} {v0 : Nat} {v1 : Int32} (hW : WT G F0 S f n) (h0 : G.1 v0 = 5) (h1 : (0 ≤ v1.toInt ∧ v1.toInt ≤ 2000)) : PO (mX5_cellEnd v0 v1 f n) (fun v f' n' => f' = f ∧ n' = n ∧ (0 ≤ v.toInt ∧ v.toInt ≤ 600)) := by
  unfold mX5_cellEnd
  exact (tX5_cellEnd_l2 rFU v0 v1 f hW h0 (by omega)  (by unfold rFU; omega))
set_option maxHeartbeats 1000000 in
theorem tX6_tryCell {G : TE} {F0 : AH} {S : Int32} {f : AH} {n : Nat} {v0 : Nat} (hW : WT G F0 S f n) (h0 : G.1 v0 = 6) : PO (mX6_tryCell v0 f n) (fun v f' n' => n' = n ∧ WT G F0 S f' n ∧ (True)) := by
  unfold mX6_tryCell
  refine po_gRn (t := 5) hW h0 rfl rfl (by decide) (fun i1 ex1 hi1 => ?_)
  refine po_gI hW h0 rfl rfl (by decide) (fun x2x ex2 (hx2 : 0 ≤ x2x.toInt ∧ x2x.toInt ≤ 700) => ?_)
  refine po_some ?_
  refine po_ck (wt_isO hW hi1 (by decide)) ?_
  refine po_ro (tX5_get hW hi1) (fun y3 ex3 p3 => ?_)
  dsimp only
  refine po_eq (fun q4 => ?_) (fun q4 => ?_)
  · unfold mX6_tryCell_b22
    refine po_ck (nb_of (Or.inr rfl)) ?_
    refine po_pI hW h0 rfl rfl (vv_i (by decide) (Or.inr rfl)) (fun g5 hW5 ex5 => ?_)
    refine po_bind ex5 ?_
    refine po_eq (fun q6 => ?_) (fun q6 => ?_)
    · refine po_gI hW5 h0 rfl rfl (by decide) (fun x7x ex7 (hx7 : 0 ≤ x7x.toInt ∧ x7x.toInt ≤ 700) => ?_)
      unfold mX6_tryCell_b46
      refine po_pI hW5 h0 rfl rfl (vv_i (by decide) (vi10 (by omega))) (fun g8 hW8 ex8 => ?_)
      refine po_gI hW8 h0 rfl rfl (by decide) (fun x9x ex9 (hx9 : x9x = 0 ∨ x9x = 1) => ?_)
      refine po_eq (fun q10 => ?_) (fun q10 => ?_)
      · refine po_gRn (t := 5) hW8 h0 rfl rfl (by decide) (fun i11 ex11 hi11 => ?_)
        refine po_bind ex8 ?_
        refine po_some ?_
        refine po_ck (wt_isO hW8 hi11 (by decide)) ?_
        refine po_ro (tX5_cellEnd hW8 hi11 (by omega)) (fun y12 ex12 p12 => ?_)
        dsimp only
        unfold mX6_tryCell_b82
        refine po_pI hW8 h0 rfl rfl (vv_i (by decide) (vi9 (by omega))) (fun g13 hW13 ex13 => ?_)
        refine po_gI hW13 h0 rfl rfl (by decide) (fun x14x ex14 (hx14 : x14x = 0 ∨ x14x = 1) => ?_)
        refine po_eq (fun q15 => ?_) (fun q15 => ?_)
        · refine po_bind ex13 ?_
          unfold mX6_tryCell_b117
          have e16 : (y12 + (1 : Int32)).toInt = y12.toInt + 1 := i_add rfl kt_1 (by omega)
          refine po_pI hW13 h0 rfl rfl (vv_i (by decide) (vi2 (by omega))) (fun g17 hW17 ex17 => ?_)
          exact po_ret ⟨rfl, hW17, trivial⟩
        · refine po_gRn (t := 5) hW13 h0 rfl rfl (by decide) (fun i18 ex18 hi18 => ?_)
          refine po_bind ex13 ?_
          refine po_some ?_
          refine po_ck (wt_isO hW13 hi18 (by decide)) ?_
          have e19 : (y12 + (1 : Int32)).toInt = y12.toInt + 1 := i_add rfl kt_1 (by omega)
          refine po_ro (tX5_cellEnd hW13 hi18 (by omega)) (fun y20 ex20 p20 => ?_)
          dsimp only
          unfold mX6_tryCell_b117
          have e21 : (y20 + (1 : Int32)).toInt = y20.toInt + 1 := i_add rfl kt_1 (by omega)
          refine po_pI hW13 h0 rfl rfl (vv_i (by decide) (vi2 (by omega))) (fun g22 hW22 ex22 => ?_)
          exact po_ret ⟨rfl, hW22, trivial⟩
      · refine po_gRn (t := 5) hW8 h0 rfl rfl (by decide) (fun i23 ex23 hi23 => ?_)
        refine po_bind ex8 ?_
        refine po_some ?_
        refine po_ck (wt_isO hW8 hi23 (by decide)) ?_
        refine po_ro (tX5_cellQuoteEnd hW8 hi23 (by omega)) (fun y24 ex24 p24 => ?_)
        dsimp only
        unfold mX6_tryCell_b82
        refine po_pI hW8 h0 rfl rfl (vv_i (by decide) (vi9 (by omega))) (fun g25 hW25 ex25 => ?_)
        refine po_gI hW25 h0 rfl rfl (by decide) (fun x26x ex26 (hx26 : x26x = 0 ∨ x26x = 1) => ?_)
        refine po_eq (fun q27 => ?_) (fun q27 => ?_)
        · refine po_bind ex25 ?_
          unfold mX6_tryCell_b117
          have e28 : (y24 + (1 : Int32)).toInt = y24.toInt + 1 := i_add rfl kt_1 (by omega)
          refine po_pI hW25 h0 rfl rfl (vv_i (by decide) (vi2 (by omega))) (fun g29 hW29 ex29 => ?_)
          exact po_ret ⟨rfl, hW29, trivial⟩
        · refine po_gRn (t := 5) hW25 h0 rfl rfl (by decide) (fun i30 ex30 hi30 => ?_)
          refine po_bind ex25 ?_
          refine po_some ?_
          refine po_ck (wt_isO hW25 hi30 (by decide)) ?_
          have e31 : (y24 + (1 : Int32)).toInt = y24.toInt + 1 := i_add rfl kt_1 (by omega)
          refine po_ro (tX5_cellEnd hW25 hi30 (by omega)) (fun y32 ex32 p32 => ?_)
          dsimp only
          unfold mX6_tryCell_b117
          have e33 : (y32 + (1 : Int32)).toInt = y32.toInt + 1 := i_add rfl kt_1 (by omega)
          refine po_pI hW25 h0 rfl rfl (vv_i (by decide) (vi2 (by omega))) (fun g34 hW34 ex34 => ?_)
          exact po_ret ⟨rfl, hW34, trivial⟩
    · refine po_gI hW5 h0 rfl rfl (by decide) (fun x35x ex35 (hx35 : 0 ≤ x35x.toInt ∧ x35x.toInt ≤ 700) => ?_)
      unfold mX6_tryCell_b46
      have e36 : (x35x + (1 : Int32)).toInt = x35x.toInt + 1 := i_add rfl kt_1 (by omega)
      refine po_pI hW5 h0 rfl rfl (vv_i (by decide) (vi10 (by omega))) (fun g37 hW37 ex37 => ?_)
      refine po_gI hW37 h0 rfl rfl (by decide) (fun x38x ex38 (hx38 : x38x = 0 ∨ x38x = 1) => ?_)
      refine po_eq (fun q39 => ?_) (fun q39 => ?_)
      · refine po_gRn (t := 5) hW37 h0 rfl rfl (by decide) (fun i40 ex40 hi40 => ?_)
        refine po_bind ex37 ?_
        refine po_some ?_
        refine po_ck (wt_isO hW37 hi40 (by decide)) ?_
        refine po_ro (tX5_cellEnd hW37 hi40 (by omega)) (fun y41 ex41 p41 => ?_)
        dsimp only
        unfold mX6_tryCell_b82
        refine po_pI hW37 h0 rfl rfl (vv_i (by decide) (vi9 (by omega))) (fun g42 hW42 ex42 => ?_)
        refine po_gI hW42 h0 rfl rfl (by decide) (fun x43x ex43 (hx43 : x43x = 0 ∨ x43x = 1) => ?_)
        refine po_eq (fun q44 => ?_) (fun q44 => ?_)
        · refine po_bind ex42 ?_
          unfold mX6_tryCell_b117
          have e45 : (y41 + (1 : Int32)).toInt = y41.toInt + 1 := i_add rfl kt_1 (by omega)
          refine po_pI hW42 h0 rfl rfl (vv_i (by decide) (vi2 (by omega))) (fun g46 hW46 ex46 => ?_)
          exact po_ret ⟨rfl, hW46, trivial⟩
        · refine po_gRn (t := 5) hW42 h0 rfl rfl (by decide) (fun i47 ex47 hi47 => ?_)
          refine po_bind ex42 ?_
          refine po_some ?_
          refine po_ck (wt_isO hW42 hi47 (by decide)) ?_
          have e48 : (y41 + (1 : Int32)).toInt = y41.toInt + 1 := i_add rfl kt_1 (by omega)
          refine po_ro (tX5_cellEnd hW42 hi47 (by omega)) (fun y49 ex49 p49 => ?_)
          dsimp only
          unfold mX6_tryCell_b117
          have e50 : (y49 + (1 : Int32)).toInt = y49.toInt + 1 := i_add rfl kt_1 (by omega)
          refine po_pI hW42 h0 rfl rfl (vv_i (by decide) (vi2 (by omega))) (fun g51 hW51 ex51 => ?_)
          exact po_ret ⟨rfl, hW51, trivial⟩
      · refine po_gRn (t := 5) hW37 h0 rfl rfl (by decide) (fun i52 ex52 hi52 => ?_)
        refine po_bind ex37 ?_
        refine po_some ?_
        refine po_ck (wt_isO hW37 hi52 (by decide)) ?_
        refine po_ro (tX5_cellQuoteEnd hW37 hi52 (by omega)) (fun y53 ex53 p53 => ?_)
        dsimp only
        unfold mX6_tryCell_b82
        refine po_pI hW37 h0 rfl rfl (vv_i (by decide) (vi9 (by omega))) (fun g54 hW54 ex54 => ?_)
        refine po_gI hW54 h0 rfl rfl (by decide) (fun x55x ex55 (hx55 : x55x = 0 ∨ x55x = 1) => ?_)
        refine po_eq (fun q56 => ?_) (fun q56 => ?_)
        · refine po_bind ex54 ?_
          unfold mX6_tryCell_b117
          have e57 : (y53 + (1 : Int32)).toInt = y53.toInt + 1 := i_add rfl kt_1 (by omega)
          refine po_pI hW54 h0 rfl rfl (vv_i (by decide) (vi2 (by omega))) (fun g58 hW58 ex58 => ?_)
          exact po_ret ⟨rfl, hW58, trivial⟩
        · refine po_gRn (t := 5) hW54 h0 rfl rfl (by decide) (fun i59 ex59 hi59 => ?_)
          refine po_bind ex54 ?_
          refine po_some ?_
          refine po_ck (wt_isO hW54 hi59 (by decide)) ?_
          have e60 : (y53 + (1 : Int32)).toInt = y53.toInt + 1 := i_add rfl kt_1 (by omega)
          refine po_ro (tX5_cellEnd hW54 hi59 (by omega)) (fun y61 ex61 p61 => ?_)
          dsimp only
          unfold mX6_tryCell_b117
          have e62 : (y61 + (1 : Int32)).toInt = y61.toInt + 1 := i_add rfl kt_1 (by omega)
          refine po_pI hW54 h0 rfl rfl (vv_i (by decide) (vi2 (by omega))) (fun g63 hW63 ex63 => ?_)
          exact po_ret ⟨rfl, hW63, trivial⟩
  · unfold mX6_tryCell_b22
    refine po_ck (nb_of (Or.inl rfl)) ?_
    refine po_pI hW h0 rfl rfl (vv_i (by decide) (Or.inl rfl)) (fun g64 hW64 ex64 => ?_)
    refine po_bind ex64 ?_
    refine po_eq (fun q65 => ?_) (fun q65 => ?_)
    · refine po_gI hW64 h0 rfl rfl (by decide) (fun x66x ex66 (hx66 : 0 ≤ x66x.toInt ∧ x66x.toInt ≤ 700) => ?_)
      unfold mX6_tryCell_b46
      refine po_pI hW64 h0 rfl rfl (vv_i (by decide) (vi10 (by omega))) (fun g67 hW67 ex67 => ?_)
      refine po_gI hW67 h0 rfl rfl (by decide) (fun x68x ex68 (hx68 : x68x = 0 ∨ x68x = 1) => ?_)
      refine po_eq (fun q69 => ?_) (fun q69 => ?_)
      · refine po_gRn (t := 5) hW67 h0 rfl rfl (by decide) (fun i70 ex70 hi70 => ?_)
        refine po_bind ex67 ?_
        refine po_some ?_
        refine po_ck (wt_isO hW67 hi70 (by decide)) ?_
        refine po_ro (tX5_cellEnd hW67 hi70 (by omega)) (fun y71 ex71 p71 => ?_)
        dsimp only
        unfold mX6_tryCell_b82
        refine po_pI hW67 h0 rfl rfl (vv_i (by decide) (vi9 (by omega))) (fun g72 hW72 ex72 => ?_)
        refine po_gI hW72 h0 rfl rfl (by decide) (fun x73x ex73 (hx73 : x73x = 0 ∨ x73x = 1) => ?_)
        refine po_eq (fun q74 => ?_) (fun q74 => ?_)
        · refine po_bind ex72 ?_
          unfold mX6_tryCell_b117
          have e75 : (y71 + (1 : Int32)).toInt = y71.toInt + 1 := i_add rfl kt_1 (by omega)
          refine po_pI hW72 h0 rfl rfl (vv_i (by decide) (vi2 (by omega))) (fun g76 hW76 ex76 => ?_)
          exact po_ret ⟨rfl, hW76, trivial⟩
        · refine po_gRn (t := 5) hW72 h0 rfl rfl (by decide) (fun i77 ex77 hi77 => ?_)
          refine po_bind ex72 ?_
          refine po_some ?_
          refine po_ck (wt_isO hW72 hi77 (by decide)) ?_
          have e78 : (y71 + (1 : Int32)).toInt = y71.toInt + 1 := i_add rfl kt_1 (by omega)
          refine po_ro (tX5_cellEnd hW72 hi77 (by omega)) (fun y79 ex79 p79 => ?_)
          dsimp only
          unfold mX6_tryCell_b117
          have e80 : (y79 + (1 : Int32)).toInt = y79.toInt + 1 := i_add rfl kt_1 (by omega)
          refine po_pI hW72 h0 rfl rfl (vv_i (by decide) (vi2 (by omega))) (fun g81 hW81 ex81 => ?_)
          exact po_ret ⟨rfl, hW81, trivial⟩
      · refine po_gRn (t := 5) hW67 h0 rfl rfl (by decide) (fun i82 ex82 hi82 => ?_)
        refine po_bind ex67 ?_
        refine po_some ?_
        refine po_ck (wt_isO hW67 hi82 (by decide)) ?_
        refine po_ro (tX5_cellQuoteEnd hW67 hi82 (by omega)) (fun y83 ex83 p83 => ?_)
        dsimp only
        unfold mX6_tryCell_b82
        refine po_pI hW67 h0 rfl rfl (vv_i (by decide) (vi9 (by omega))) (fun g84 hW84 ex84 => ?_)
        refine po_gI hW84 h0 rfl rfl (by decide) (fun x85x ex85 (hx85 : x85x = 0 ∨ x85x = 1) => ?_)
        refine po_eq (fun q86 => ?_) (fun q86 => ?_)
        · refine po_bind ex84 ?_
          unfold mX6_tryCell_b117
          have e87 : (y83 + (1 : Int32)).toInt = y83.toInt + 1 := i_add rfl kt_1 (by omega)
          refine po_pI hW84 h0 rfl rfl (vv_i (by decide) (vi2 (by omega))) (fun g88 hW88 ex88 => ?_)
          exact po_ret ⟨rfl, hW88, trivial⟩
        · refine po_gRn (t := 5) hW84 h0 rfl rfl (by decide) (fun i89 ex89 hi89 => ?_)
          refine po_bind ex84 ?_
          refine po_some ?_
          refine po_ck (wt_isO hW84 hi89 (by decide)) ?_
          have e90 : (y83 + (1 : Int32)).toInt = y83.toInt + 1 := i_add rfl kt_1 (by omega)
          refine po_ro (tX5_cellEnd hW84 hi89 (by omega)) (fun y91 ex91 p91 => ?_)
          dsimp only
          unfold mX6_tryCell_b117
          have e92 : (y91 + (1 : Int32)).toInt = y91.toInt + 1 := i_add rfl kt_1 (by omega)
          refine po_pI hW84 h0 rfl rfl (vv_i (by decide) (vi2 (by omega))) (fun g93 hW93 ex93 => ?_)
          exact po_ret ⟨rfl, hW93, trivial⟩
    · refine po_gI hW64 h0 rfl rfl (by decide) (fun x94x ex94 (hx94 : 0 ≤ x94x.toInt ∧ x94x.toInt ≤ 700) => ?_)
      unfold mX6_tryCell_b46
      have e95 : (x94x + (1 : Int32)).toInt = x94x.toInt + 1 := i_add rfl kt_1 (by omega)
      refine po_pI hW64 h0 rfl rfl (vv_i (by decide) (vi10 (by omega))) (fun g96 hW96 ex96 => ?_)
      refine po_gI hW96 h0 rfl rfl (by decide) (fun x97x ex97 (hx97 : x97x = 0 ∨ x97x = 1) => ?_)
      refine po_eq (fun q98 => ?_) (fun q98 => ?_)
      · refine po_gRn (t := 5) hW96 h0 rfl rfl (by decide) (fun i99 ex99 hi99 => ?_)
        refine po_bind ex96 ?_
        refine po_some ?_
        refine po_ck (wt_isO hW96 hi99 (by decide)) ?_
        refine po_ro (tX5_cellEnd hW96 hi99 (by omega)) (fun y100 ex100 p100 => ?_)
        dsimp only
        unfold mX6_tryCell_b82
        refine po_pI hW96 h0 rfl rfl (vv_i (by decide) (vi9 (by omega))) (fun g101 hW101 ex101 => ?_)
        refine po_gI hW101 h0 rfl rfl (by decide) (fun x102x ex102 (hx102 : x102x = 0 ∨ x102x = 1) => ?_)
        refine po_eq (fun q103 => ?_) (fun q103 => ?_)
        · refine po_bind ex101 ?_
          unfold mX6_tryCell_b117
          have e104 : (y100 + (1 : Int32)).toInt = y100.toInt + 1 := i_add rfl kt_1 (by omega)
          refine po_pI hW101 h0 rfl rfl (vv_i (by decide) (vi2 (by omega))) (fun g105 hW105 ex105 => ?_)
          exact po_ret ⟨rfl, hW105, trivial⟩
        · refine po_gRn (t := 5) hW101 h0 rfl rfl (by decide) (fun i106 ex106 hi106 => ?_)
          refine po_bind ex101 ?_
          refine po_some ?_
          refine po_ck (wt_isO hW101 hi106 (by decide)) ?_
          have e107 : (y100 + (1 : Int32)).toInt = y100.toInt + 1 := i_add rfl kt_1 (by omega)
          refine po_ro (tX5_cellEnd hW101 hi106 (by omega)) (fun y108 ex108 p108 => ?_)
          dsimp only
          unfold mX6_tryCell_b117
          have e109 : (y108 + (1 : Int32)).toInt = y108.toInt + 1 := i_add rfl kt_1 (by omega)
          refine po_pI hW101 h0 rfl rfl (vv_i (by decide) (vi2 (by omega))) (fun g110 hW110 ex110 => ?_)
          exact po_ret ⟨rfl, hW110, trivial⟩
      · refine po_gRn (t := 5) hW96 h0 rfl rfl (by decide) (fun i111 ex111 hi111 => ?_)
        refine po_bind ex96 ?_
        refine po_some ?_
        refine po_ck (wt_isO hW96 hi111 (by decide)) ?_
        refine po_ro (tX5_cellQuoteEnd hW96 hi111 (by omega)) (fun y112 ex112 p112 => ?_)
        dsimp only
        unfold mX6_tryCell_b82
        refine po_pI hW96 h0 rfl rfl (vv_i (by decide) (vi9 (by omega))) (fun g113 hW113 ex113 => ?_)
        refine po_gI hW113 h0 rfl rfl (by decide) (fun x114x ex114 (hx114 : x114x = 0 ∨ x114x = 1) => ?_)
        refine po_eq (fun q115 => ?_) (fun q115 => ?_)
        · refine po_bind ex113 ?_
          unfold mX6_tryCell_b117
          have e116 : (y112 + (1 : Int32)).toInt = y112.toInt + 1 := i_add rfl kt_1 (by omega)
          refine po_pI hW113 h0 rfl rfl (vv_i (by decide) (vi2 (by omega))) (fun g117 hW117 ex117 => ?_)
          exact po_ret ⟨rfl, hW117, trivial⟩
        · refine po_gRn (t := 5) hW113 h0 rfl rfl (by decide) (fun i118 ex118 hi118 => ?_)
          refine po_bind ex113 ?_
          refine po_some ?_
          refine po_ck (wt_isO hW113 hi118 (by decide)) ?_
          have e119 : (y112 + (1 : Int32)).toInt = y112.toInt + 1 := i_add rfl kt_1 (by omega)
          refine po_ro (tX5_cellEnd hW113 hi118 (by omega)) (fun y120 ex120 p120 => ?_)
          dsimp only
          unfold mX6_tryCell_b117
          have e121 : (y120 + (1 : Int32)).toInt = y120.toInt + 1 := i_add rfl kt_1 (by omega)
          refine po_pI hW113 h0 rfl rfl (vv_i (by decide) (vi2 (by omega))) (fun g122 hW122 ex122 => ?_)
          exact po_ret ⟨rfl, hW122, trivial⟩
set_option maxHeartbeats 1000000 in
theorem tX5_behindSpace_l2 {G : TE} {F0 : AH} {S : Int32} {n : Nat} : ∀ (d : Nat) (v0 : Nat) (v2 : Int32) (v3 : Int32) (f : AH), WT G F0 S f n → G.1 v0 = 5 → (0 ≤ v2.toInt ∧ v2.toInt ≤ 700) → (0 ≤ v3.toInt ∧ v3.toInt ≤ 2500) → v2.toInt - v3.toInt + 2501 < (d : Int) → PO (mX5_behindSpace_l2 d v0 v2 v3 f n) (fun v f' n' => f' = f ∧ n' = n ∧ (0 ≤ v.toInt ∧ v.toInt ≤ v2.toInt)) := by
  intro d
  induction d with
  | zero =>
    intro v0 v2 v3 f hW h0 h1 h2  hm
    exfalso
    omega
  | succ d ih =>
    intro v0 v2 v3 f hW h0 h1 h2  hm
    show PO (if v3 < (0 : Int32) then mX5_behindSpace_b50 v2 f n else (if v2 ≤ v3 then mX5_behindSpace_b50 v2 f n else ((gR f v0 5 0).bind fun x1 => ((x1).bind fun j2 => ((gL f j2).bind fun x3 => (if (nI x3) ≤ v3 then mX5_behindSpace_b50 v2 f n else ((gR f v0 5 0).bind fun x4 => ((x4).bind fun j5 => ((gIA f j5 v3).bind fun x6 => (if x6 = (32 : Int32) then mX5_behindSpace_b44 (fun v0 v2 v3 f n => mX5_behindSpace_l2 d v0 v2 v3 f n) v0 v2 v3 f n else ((gR f v0 5 0).bind fun x7 => ((x7).bind fun j8 => ((gIA f j8 v3).bind fun x9 => (if x9 = (10 : Int32) then mX5_behindSpace_b44 (fun v0 v2 v3 f n => mX5_behindSpace_l2 d v0 v2 v3 f n) v0 v2 v3 f n else some (v3, (f, n)))))))))))))))) _
    refine po_lt rfl kt_0 (fun q1 => ?_) (fun q1 => ?_)
    · unfold mX5_behindSpace_b50
      exact po_ret ⟨rfl, rfl, (by omega)⟩
    · refine po_le rfl rfl (fun q2 => ?_) (fun q2 => ?_)
      · unfold mX5_behindSpace_b50
        exact po_ret ⟨rfl, rfl, (by omega)⟩
      · refine po_rb hW h0 ?_
        refine po_some ?_
        refine po_rl hW h0 (fun N4 ha4 hb4 hc4 => ?_)
        refine po_le hc4 rfl (fun q5 => ?_) (fun q5 => ?_)
        · unfold mX5_behindSpace_b50
          exact po_ret ⟨rfl, rfl, (by omega)⟩
        · refine po_rb hW h0 ?_
          refine po_some ?_
          refine po_ria hW h0 (by omega) (fun x7x => ?_)
          refine po_eq (fun q8 => ?_) (fun q8 => ?_)
          · unfold mX5_behindSpace_b44
            have e9 : (v3 + (1 : Int32)).toInt = v3.toInt + 1 := i_add rfl kt_1 (by omega)
            exact (ih v0 v2 (v3 + (1 : Int32)) f hW h0 (by omega) (by omega)  (by omega))
          · refine po_rb hW h0 ?_
            refine po_some ?_
            refine po_ria hW h0 (by omega) (fun x11x => ?_)
            refine po_eq (fun q12 => ?_) (fun q12 => ?_)
            · unfold mX5_behindSpace_b44
              have e13 : (v3 + (1 : Int32)).toInt = v3.toInt + 1 := i_add rfl kt_1 (by omega)
              exact (ih v0 v2 (v3 + (1 : Int32)) f hW h0 (by omega) (by omega)  (by omega))
            · exact po_ret ⟨rfl, rfl, (by omega)⟩
set_option maxHeartbeats 1000000 in
theorem tX5_behindSpace {G : TE} {F0 : AH} {S : Int32} {f : AH} {n : Nat} {v0 : Nat} {v1 : Int32} {v2 : Int32} (hW : WT G F0 S f n) (h0 : G.1 v0 = 5) (h1 : (0 ≤ v1.toInt ∧ v1.toInt ≤ 2500)) (h2 : (0 ≤ v2.toInt ∧ v2.toInt ≤ 700)) : PO (mX5_behindSpace v0 v1 v2 f n) (fun v f' n' => f' = f ∧ n' = n ∧ (0 ≤ v.toInt ∧ v.toInt ≤ v2.toInt)) := by
  unfold mX5_behindSpace
  exact (tX5_behindSpace_l2 rFU v0 v2 v1 f hW h0 (by omega) (by omega)  (by unfold rFU; omega))
set_option maxHeartbeats 1000000 in
theorem tX6_tryMarkup_l105 {G : TE} {F0 : AH} {S : Int32} {n : Nat} : ∀ (d : Nat) (v0 : Nat) (v1 : Int32) (v2 : Int32) (f : AH), WT G F0 S f n → G.1 v0 = 6 → (0 ≤ v1.toInt ∧ v1.toInt ≤ 700) → ((-1) ≤ v2.toInt ∧ v2.toInt ≤ 700) → v2.toInt + 2 < (d : Int) → PO (mX6_tryMarkup_l105 d v0 v1 v2 f n) (fun v f' n' => n' = n ∧ WT G F0 S f' n ∧ (True)) := by
  intro d
  induction d with
  | zero =>
    intro v0 v1 v2 f hW h0 h1 h2  hm
    exfalso
    omega
  | succ d ih =>
    intro v0 v1 v2 f hW h0 h1 h2  hm
    show PO ((gI f v0 6 1).bind fun x1 => (if v2 ≤ x1 then mX6_tryMarkup_b150 v0 v1 f n else ((gR f v0 6 0).bind fun x2 => ((x2).bind fun j3 => rCk (isO f j3 5) (((mX5_get j3 v2 f n).bind fun r5 => (if r5.1 = (32 : Int32) then mX6_tryMarkup_b139 (fun v0 v1 v2 f n => mX6_tryMarkup_l105 d v0 v1 v2 f n) v0 v1 v2 r5.2.1 r5.2.2 else ((gR r5.2.1 v0 6 0).bind fun x7 => ((x7).bind fun j8 => rCk (isO r5.2.1 j8 5) (((mX5_get j8 v2 r5.2.1 r5.2.2).bind fun r10 => (if r10.1 = (10 : Int32) then mX6_tryMarkup_b139 (fun v0 v1 v2 f n => mX6_tryMarkup_l105 d v0 v1 v2 f n) v0 v1 v2 r10.2.1 r10.2.2 else mX6_tryMarkup_b150 v0 v1 r10.2.1 r10.2.2)))))))))))) _
    refine po_gI hW h0 rfl rfl (by decide) (fun x1x ex1 (hx1 : 0 ≤ x1x.toInt ∧ x1x.toInt ≤ 702) => ?_)
    refine po_le rfl rfl (fun q2 => ?_) (fun q2 => ?_)
    · unfold mX6_tryMarkup_b150
      refine po_pI hW h0 rfl rfl (vv_i (by decide) (vi2 (by omega))) (fun g3 hW3 ex3 => ?_)
      exact po_ret ⟨rfl, hW3, trivial⟩
    · refine po_gRn (t := 5) hW h0 rfl rfl (by decide) (fun i4 ex4 hi4 => ?_)
      refine po_some ?_
      refine po_ck (wt_isO hW hi4 (by decide)) ?_
      refine po_ro (tX5_get hW hi4) (fun y5 ex5 p5 => ?_)
      dsimp only
      refine po_eq (fun q6 => ?_) (fun q6 => ?_)
      · unfold mX6_tryMarkup_b139
        refine po_pI hW h0 rfl rfl (vv_i (by decide) (vi9 (by omega))) (fun g7 hW7 ex7 => ?_)
        have e8 : (v2 + (-1 : Int32)).toInt = v2.toInt + (-1) := i_add rfl kt_m1 (by omega)
        exact (ih v0 v1 (v2 + (-1 : Int32)) g7 hW7 h0 (by omega) (by omega)  (by omega))
      · refine po_bind ex4 ?_
        refine po_some ?_
        refine po_ck (wt_isO hW hi4 (by decide)) ?_
        refine po_bind ex5 ?_
        dsimp only
        refine po_eq (fun q9 => ?_) (fun q9 => ?_)
        · unfold mX6_tryMarkup_b139
          refine po_pI hW h0 rfl rfl (vv_i (by decide) (vi9 (by omega))) (fun g10 hW10 ex10 => ?_)
          have e11 : (v2 + (-1 : Int32)).toInt = v2.toInt + (-1) := i_add rfl kt_m1 (by omega)
          exact (ih v0 v1 (v2 + (-1 : Int32)) g10 hW10 h0 (by omega) (by omega)  (by omega))
        · unfold mX6_tryMarkup_b150
          refine po_pI hW h0 rfl rfl (vv_i (by decide) (vi2 (by omega))) (fun g12 hW12 ex12 => ?_)
          exact po_ret ⟨rfl, hW12, trivial⟩
set_option maxHeartbeats 1000000 in
theorem tX6_tryMarkup {G : TE} {F0 : AH} {S : Int32} {f : AH} {n : Nat} {v0 : Nat} (hW : WT G F0 S f n) (h0 : G.1 v0 = 6) : PO (mX6_tryMarkup v0 f n) (fun v f' n' => n' = n ∧ WT G F0 S f' n ∧ (True)) := by
  unfold mX6_tryMarkup
  refine po_gI hW h0 rfl rfl (by decide) (fun x1x ex1 (hx1 : 0 ≤ x1x.toInt ∧ x1x.toInt ≤ 700) => ?_)
  refine po_pI hW h0 rfl rfl (vv_i (by decide) (vi10 (by omega))) (fun g2 hW2 ex2 => ?_)
  refine po_gI hW2 h0 rfl rfl (by decide) (fun x3x ex3 (hx3 : 0 ≤ x3x.toInt ∧ x3x.toInt ≤ 700) => ?_)
  refine po_pI hW2 h0 rfl rfl (vv_i (by decide) (vi9 (by omega))) (fun g4 hW4 ex4 => ?_)
  refine po_gRn (t := 5) hW4 h0 rfl rfl (by decide) (fun i5 ex5 hi5 => ?_)
  refine po_gI hW4 h0 rfl rfl (by decide) (fun x6x ex6 (hx6 : 0 ≤ x6x.toInt ∧ x6x.toInt ≤ 700) => ?_)
  refine po_some ?_
  refine po_ck (wt_isO hW4 hi5 (by decide)) ?_
  refine po_ro (tX5_get hW4 hi5) (fun y7 ex7 p7 => ?_)
  dsimp only
  refine po_eq (fun q8 => ?_) (fun q8 => ?_)
  · refine po_bind ex5 ?_
    refine po_bind ex6 ?_
    refine po_bind ex5 ?_
    refine po_some ?_
    refine po_ck (wt_isO hW4 hi5 (by decide)) ?_
    refine po_ro (tX5_size hW4 hi5) (fun y9 ex9 p9 => ?_)
    dsimp only
    refine po_some ?_
    refine po_ck (wt_isO hW4 hi5 (by decide)) ?_
    refine po_ro (tX5_next hW4 hi5 (by omega) (by omega)) (fun y10 ex10 p10 => ?_)
    dsimp only
    have e12 : (y10 + (1 : Int32)).toInt = y10.toInt + 1 := i_add rfl kt_1 (by omega)
    refine po_pI hW4 h0 rfl rfl (vv_i (by decide) (vi2 (by omega))) (fun g11 hW11 ex11 => ?_)
    exact po_ret ⟨rfl, hW11, trivial⟩
  · refine po_bind ex5 ?_
    refine po_bind ex6 ?_
    refine po_bind ex5 ?_
    refine po_some ?_
    refine po_ck (wt_isO hW4 hi5 (by decide)) ?_
    refine po_ro (tX5_size hW4 hi5) (fun y13 ex13 p13 => ?_)
    dsimp only
    refine po_some ?_
    refine po_ck (wt_isO hW4 hi5 (by decide)) ?_
    refine po_ro (tX5_next hW4 hi5 (by omega) (by omega)) (fun y14 ex14 p14 => ?_)
    dsimp only
    refine po_bind ex5 ?_
    refine po_bind ex6 ?_
    refine po_some ?_
    refine po_ck (wt_isO hW4 hi5 (by decide)) ?_
    refine po_ro (tX5_behindSpace hW4 hi5 (by omega) (by omega)) (fun y15 ex15 p15 => ?_)
    dsimp only
    refine po_pI hW4 h0 rfl rfl (vv_i (by decide) (vi10 (by omega))) (fun g16 hW16 ex16 => ?_)
    refine po_pI hW16 h0 rfl rfl (vv_i (by decide) (vi9 (by omega))) (fun g17 hW17 ex17 => ?_)
    have e18 : (y14 - (1 : Int32)).toInt = y14.toInt - 1 := i_sub rfl kt_1 (by omega)
    exact (tX6_tryMarkup_l105 rFU v0 y14 (y14 - (1 : Int32)) g17 hW17 h0 (by omega) (by omega)  (by unfold rFU; omega))
set_option maxHeartbeats 1000000 in
theorem tX5_quoteEnd_l4 {G : TE} {F0 : AH} {S : Int32} {n : Nat} : ∀ (d : Nat) (v0 : Nat) (v2 : Int32) (v3 : Int32) (f : AH), WT G F0 S f n → G.1 v0 = 5 → (0 ≤ v3.toInt ∧ v3.toInt ≤ 2000) → 3000 - v3.toInt < (d : Int) → PO (mX5_quoteEnd_l4 d v0 v2 v3 f n) (fun v f' n' => f' = f ∧ n' = n ∧ (0 ≤ v.toInt ∧ v.toInt ≤ 600)) := by
  intro d
  induction d with
  | zero =>
    intro v0 v2 v3 f hW h0 h1  hm
    exfalso
    omega
  | succ d ih =>
    intro v0 v2 v3 f hW h0 h1  hm
    show PO (if v3 < (0 : Int32) then mX5_quoteEnd_b69 v0 f n else ((gI f v0 5 1).bind fun x1 => (if x1 ≤ v3 then mX5_quoteEnd_b69 v0 f n else ((gR f v0 5 0).bind fun x2 => ((x2).bind fun j3 => ((gL f j3).bind fun x4 => (if (nI x4) ≤ v3 then mX5_quoteEnd_b69 v0 f n else ((gR f v0 5 0).bind fun x5 => ((x5).bind fun j6 => ((gIA f j6 v3).bind fun x7 => (if x7 = (34 : Int32) then (if v2 = (0 : Int32) then some (v3, (f, n)) else mX5_quoteEnd_b42 (fun v0 v2 v3 f n => mX5_quoteEnd_l4 d v0 v2 v3 f n) v0 v2 v3 f n) else mX5_quoteEnd_b42 (fun v0 v2 v3 f n => mX5_quoteEnd_l4 d v0 v2 v3 f n) v0 v2 v3 f n))))))))))) _
    refine po_lt rfl kt_0 (fun q1 => ?_) (fun q1 => ?_)
    · unfold mX5_quoteEnd_b69
      refine po_rs hW h0 (fun x2x ex2 hx2 hy2 => ?_)
      exact po_ret ⟨rfl, rfl, (by omega)⟩
    · refine po_rs hW h0 (fun x3x ex3 hx3 hy3 => ?_)
      refine po_le rfl rfl (fun q4 => ?_) (fun q4 => ?_)
      · unfold mX5_quoteEnd_b69
        refine po_bind ex3 ?_
        exact po_ret ⟨rfl, rfl, (by omega)⟩
      · refine po_rb hW h0 ?_
        refine po_some ?_
        refine po_rl hW h0 (fun N6 ha6 hb6 hc6 => ?_)
        refine po_le hc6 rfl (fun q7 => ?_) (fun q7 => ?_)
        · unfold mX5_quoteEnd_b69
          refine po_bind ex3 ?_
          exact po_ret ⟨rfl, rfl, (by omega)⟩
        · refine po_rb hW h0 ?_
          refine po_some ?_
          refine po_ria hW h0 (by omega) (fun x9x => ?_)
          refine po_eq (fun q10 => ?_) (fun q10 => ?_)
          · refine po_eq (fun q11 => ?_) (fun q11 => ?_)
            · exact po_ret ⟨rfl, rfl, (by omega)⟩
            · unfold mX5_quoteEnd_b42
              refine po_rb hW h0 ?_
              refine po_some ?_
              refine po_ria hW h0 (by omega) (fun x13x => ?_)
              refine po_eq (fun q14 => ?_) (fun q14 => ?_)
              · refine po_eq (fun q15 => ?_) (fun q15 => ?_)
                · unfold mX5_quoteEnd_b62
                  have e16 : (v3 + (1 : Int32)).toInt = v3.toInt + 1 := i_add rfl kt_1 (by omega)
                  exact (ih v0 (1 : Int32) (v3 + (1 : Int32)) f hW h0 (by omega)  (by omega))
                · unfold mX5_quoteEnd_b61
                  unfold mX5_quoteEnd_b62
                  have e17 : (v3 + (1 : Int32)).toInt = v3.toInt + 1 := i_add rfl kt_1 (by omega)
                  exact (ih v0 (0 : Int32) (v3 + (1 : Int32)) f hW h0 (by omega)  (by omega))
              · unfold mX5_quoteEnd_b61
                unfold mX5_quoteEnd_b62
                have e18 : (v3 + (1 : Int32)).toInt = v3.toInt + 1 := i_add rfl kt_1 (by omega)
                exact (ih v0 (0 : Int32) (v3 + (1 : Int32)) f hW h0 (by omega)  (by omega))
          · unfold mX5_quoteEnd_b42
            refine po_rb hW h0 ?_
            refine po_some ?_
            refine po_ria hW h0 (by omega) (fun x20x => ?_)
            refine po_eq (fun q21 => ?_) (fun q21 => ?_)
            · refine po_eq (fun q22 => ?_) (fun q22 => ?_)
              · unfold mX5_quoteEnd_b62
                have e23 : (v3 + (1 : Int32)).toInt = v3.toInt + 1 := i_add rfl kt_1 (by omega)
                exact (ih v0 (1 : Int32) (v3 + (1 : Int32)) f hW h0 (by omega)  (by omega))
              · unfold mX5_quoteEnd_b61
                unfold mX5_quoteEnd_b62
                have e24 : (v3 + (1 : Int32)).toInt = v3.toInt + 1 := i_add rfl kt_1 (by omega)
                exact (ih v0 (0 : Int32) (v3 + (1 : Int32)) f hW h0 (by omega)  (by omega))
            · unfold mX5_quoteEnd_b61
              unfold mX5_quoteEnd_b62
              have e25 : (v3 + (1 : Int32)).toInt = v3.toInt + 1 := i_add rfl kt_1 (by omega)
              exact (ih v0 (0 : Int32) (v3 + (1 : Int32)) f hW h0 (by omega)  (by omega))
set_option maxHeartbeats 1000000 in
theorem tX5_quoteEnd {G : TE} {F0 : AH} {S : Int32} {f : AH} {n : Nat} {v0 : Nat} {v1 : Int32} (hW : WT G F0 S f n) (h0 : G.1 v0 = 5) (h1 : (0 ≤ v1.toInt ∧ v1.toInt ≤ 2000)) : PO (mX5_quoteEnd v0 v1 f n) (fun v f' n' => f' = f ∧ n' = n ∧ (0 ≤ v.toInt ∧ v.toInt ≤ 600)) := by
  unfold mX5_quoteEnd
  exact (tX5_quoteEnd_l4 rFU v0 (0 : Int32) v1 f hW h0 (by omega)  (by unfold rFU; omega))
set_option maxHeartbeats 1000000 in
theorem tX6_tryQuotes {G : TE} {F0 : AH} {S : Int32} {f : AH} {n : Nat} {v0 : Nat} (hW : WT G F0 S f n) (h0 : G.1 v0 = 6) : PO (mX6_tryQuotes v0 f n) (fun v f' n' => n' = n ∧ WT G F0 S f' n ∧ (True)) := by
  unfold mX6_tryQuotes
  refine po_gRn (t := 5) hW h0 rfl rfl (by decide) (fun i1 ex1 hi1 => ?_)
  refine po_gI hW h0 rfl rfl (by decide) (fun x2x ex2 (hx2 : 0 ≤ x2x.toInt ∧ x2x.toInt ≤ 700) => ?_)
  refine po_bind ex1 ?_
  refine po_some ?_
  refine po_ck (wt_isO hW hi1 (by decide)) ?_
  refine po_ro (tX5_size hW hi1) (fun y3 ex3 p3 => ?_)
  dsimp only
  refine po_some ?_
  refine po_ck (wt_isO hW hi1 (by decide)) ?_
  refine po_ro (tX5_next hW hi1 (by omega) (by omega)) (fun y4 ex4 p4 => ?_)
  dsimp only
  have e6 : (y4 + (1 : Int32)).toInt = y4.toInt + 1 := i_add rfl kt_1 (by omega)
  refine po_pI hW h0 rfl rfl (vv_i (by decide) (vi10 (by omega))) (fun g5 hW5 ex5 => ?_)
  refine po_gRn (t := 5) hW5 h0 rfl rfl (by decide) (fun i7 ex7 hi7 => ?_)
  refine po_bind ex5 ?_
  refine po_some ?_
  refine po_ck (wt_isO hW5 hi7 (by decide)) ?_
  refine po_ro (tX5_quoteEnd hW5 hi7 (by omega)) (fun y8 ex8 p8 => ?_)
  dsimp only
  refine po_pI hW5 h0 rfl rfl (vv_i (by decide) (vi9 (by omega))) (fun g9 hW9 ex9 => ?_)
  refine po_bind ex9 ?_
  have e11 : (y8 + (1 : Int32)).toInt = y8.toInt + 1 := i_add rfl kt_1 (by omega)
  refine po_pI hW9 h0 rfl rfl (vv_i (by decide) (vi2 (by omega))) (fun g10 hW10 ex10 => ?_)
  refine po_gRn (t := 5) hW10 h0 rfl rfl (by decide) (fun i12 ex12 hi12 => ?_)
  refine po_bind ex12 ?_
  refine po_bind ex10 ?_
  refine po_bind ex12 ?_
  refine po_some ?_
  refine po_ck (wt_isO hW10 hi12 (by decide)) ?_
  refine po_ro (tX5_size hW10 hi12) (fun y13 ex13 p13 => ?_)
  dsimp only
  refine po_some ?_
  refine po_ck (wt_isO hW10 hi12 (by decide)) ?_
  refine po_ro (tX5_behindSpace hW10 hi12 (by omega) (by omega)) (fun y14 ex14 p14 => ?_)
  dsimp only
  refine po_some ?_
  refine po_ck (wt_isO hW10 hi12 (by decide)) ?_
  refine po_ro (tX5_get hW10 hi12) (fun y15 ex15 p15 => ?_)
  dsimp only
  refine po_eq (fun q16 => ?_) (fun q16 => ?_)
  · refine po_gI hW10 h0 rfl rfl (by decide) (fun x17x ex17 (hx17 : 0 ≤ x17x.toInt ∧ x17x.toInt ≤ 702) => ?_)
    refine po_pI hW10 h0 rfl rfl (vv_i (by decide) (vi9 (by omega))) (fun g18 hW18 ex18 => ?_)
    unfold mX6_tryQuotes_b89
    exact po_ret ⟨rfl, hW18, trivial⟩
  · unfold mX6_tryQuotes_b89
    exact po_ret ⟨rfl, hW10, trivial⟩
set_option maxHeartbeats 1000000 in
theorem tX6_next_l2 {G : TE} {F0 : AH} {S : Int32} {n : Nat} : ∀ (d : Nat) (v0 : Nat) (v1 : Int32) (f : AH), WT G F0 S f n → G.1 v0 = 6 → (0 ≤ v1.toInt ∧ v1.toInt ≤ 2000) → 3000 - v1.toInt < (d : Int) → PO (mX6_next_l2 d v0 v1 f n) (fun v f' n' => n' = n ∧ WT G F0 S f' n ∧ (True)) := by
  intro d
  induction d with
  | zero =>
    intro v0 v1 f hW h0 h1  hm
    exfalso
    omega
  | succ d ih =>
    intro v0 v1 f hW h0 h1  hm
    show PO (if (600 : Int32) < v1 then mX6_next_b96 f n else ((gI f v0 6 9).bind fun x1 => ((gR f v0 6 0).bind fun x2 => ((x2).bind fun j3 => rCk (isO f j3 5) (((mX5_size j3 f n).bind fun r5 => (if r5.1 ≤ x1 then mX6_next_b96 r5.2.1 r5.2.2 else ((gI r5.2.1 v0 6 8).bind fun x7 => (if x7 = (0 : Int32) then rCk (isO r5.2.1 v0 6) (((mX6_tryLine v0 r5.2.1 r5.2.2).bind fun r9 => mX6_next_b77 (fun v0 v1 f n => mX6_next_l2 d v0 v1 f n) v0 v1 r9.2.1 r9.2.2)) else if x7 = (1 : Int32) then rCk (isO r5.2.1 v0 6) (((mX6_tryCell v0 r5.2.1 r5.2.2).bind fun r12 => mX6_next_b77 (fun v0 v1 f n => mX6_next_l2 d v0 v1 f n) v0 v1 r12.2.1 r12.2.2)) else if x7 = (2 : Int32) then rCk (isO r5.2.1 v0 6) (((mX6_tryMarkup v0 r5.2.1 r5.2.2).bind fun r15 => mX6_next_b77 (fun v0 v1 f n => mX6_next_l2 d v0 v1 f n) v0 v1 r15.2.1 r15.2.2)) else rCk (isO r5.2.1 v0 6) (((mX6_tryQuotes v0 r5.2.1 r5.2.2).bind fun r18 => mX6_next_b77 (fun v0 v1 f n => mX6_next_l2 d v0 v1 f n) v0 v1 r18.2.1 r18.2.2))))))))))) _
    refine po_lt kt_600 rfl (fun q1 => ?_) (fun q1 => ?_)
    · unfold mX6_next_b96
      refine po_ck rfl ?_
      exact po_ret ⟨rfl, hW, trivial⟩
    · refine po_gI hW h0 rfl rfl (by decide) (fun x2x ex2 (hx2 : 0 ≤ x2x.toInt ∧ x2x.toInt ≤ 700) => ?_)
      refine po_gRn (t := 5) hW h0 rfl rfl (by decide) (fun i3 ex3 hi3 => ?_)
      refine po_some ?_
      refine po_ck (wt_isO hW hi3 (by decide)) ?_
      refine po_ro (tX5_size hW hi3) (fun y4 ex4 p4 => ?_)
      dsimp only
      refine po_le rfl rfl (fun q5 => ?_) (fun q5 => ?_)
      · unfold mX6_next_b96
        refine po_ck rfl ?_
        exact po_ret ⟨rfl, hW, trivial⟩
      · refine po_gI hW h0 rfl rfl (by decide) (fun x6x ex6 (_ : True) => ?_)
        refine po_eq (fun q7 => ?_) (fun q7 => ?_)
        · refine po_ck (wt_isO hW h0 (by decide)) ?_
          refine po_w (tX6_tryLine hW h0) (fun y8 g8 hW8 p8 => ?_)
          dsimp only
          unfold mX6_next_b77
          refine po_gI hW8 h0 rfl rfl (by decide) (fun x9x ex9 (hx9 : 0 ≤ x9x.toInt ∧ x9x.toInt ≤ 702) => ?_)
          refine po_gI hW8 h0 rfl rfl (by decide) (fun x10x ex10 (hx10 : (-1) ≤ x10x.toInt ∧ x10x.toInt ≤ 702) => ?_)
          refine po_le rfl rfl (fun q11 => ?_) (fun q11 => ?_)
          · have e12 : (v1 + (1 : Int32)).toInt = v1.toInt + 1 := i_add rfl kt_1 (by omega)
            exact (ih v0 (v1 + (1 : Int32)) g8 hW8 h0 (by omega)  (by omega))
          · refine po_ck rfl ?_
            exact po_ret ⟨rfl, hW8, trivial⟩
        · refine po_eq (fun q13 => ?_) (fun q13 => ?_)
          · refine po_ck (wt_isO hW h0 (by decide)) ?_
            refine po_w (tX6_tryCell hW h0) (fun y14 g14 hW14 p14 => ?_)
            dsimp only
            unfold mX6_next_b77
            refine po_gI hW14 h0 rfl rfl (by decide) (fun x15x ex15 (hx15 : 0 ≤ x15x.toInt ∧ x15x.toInt ≤ 702) => ?_)
            refine po_gI hW14 h0 rfl rfl (by decide) (fun x16x ex16 (hx16 : (-1) ≤ x16x.toInt ∧ x16x.toInt ≤ 702) => ?_)
            refine po_le rfl rfl (fun q17 => ?_) (fun q17 => ?_)
            · have e18 : (v1 + (1 : Int32)).toInt = v1.toInt + 1 := i_add rfl kt_1 (by omega)
              exact (ih v0 (v1 + (1 : Int32)) g14 hW14 h0 (by omega)  (by omega))
            · refine po_ck rfl ?_
              exact po_ret ⟨rfl, hW14, trivial⟩
          · refine po_eq (fun q19 => ?_) (fun q19 => ?_)
            · refine po_ck (wt_isO hW h0 (by decide)) ?_
              refine po_w (tX6_tryMarkup hW h0) (fun y20 g20 hW20 p20 => ?_)
              dsimp only
              unfold mX6_next_b77
              refine po_gI hW20 h0 rfl rfl (by decide) (fun x21x ex21 (hx21 : 0 ≤ x21x.toInt ∧ x21x.toInt ≤ 702) => ?_)
              refine po_gI hW20 h0 rfl rfl (by decide) (fun x22x ex22 (hx22 : (-1) ≤ x22x.toInt ∧ x22x.toInt ≤ 702) => ?_)
              refine po_le rfl rfl (fun q23 => ?_) (fun q23 => ?_)
              · have e24 : (v1 + (1 : Int32)).toInt = v1.toInt + 1 := i_add rfl kt_1 (by omega)
                exact (ih v0 (v1 + (1 : Int32)) g20 hW20 h0 (by omega)  (by omega))
              · refine po_ck rfl ?_
                exact po_ret ⟨rfl, hW20, trivial⟩
            · refine po_ck (wt_isO hW h0 (by decide)) ?_
              refine po_w (tX6_tryQuotes hW h0) (fun y25 g25 hW25 p25 => ?_)
              dsimp only
              unfold mX6_next_b77
              refine po_gI hW25 h0 rfl rfl (by decide) (fun x26x ex26 (hx26 : 0 ≤ x26x.toInt ∧ x26x.toInt ≤ 702) => ?_)
              refine po_gI hW25 h0 rfl rfl (by decide) (fun x27x ex27 (hx27 : (-1) ≤ x27x.toInt ∧ x27x.toInt ≤ 702) => ?_)
              refine po_le rfl rfl (fun q28 => ?_) (fun q28 => ?_)
              · have e29 : (v1 + (1 : Int32)).toInt = v1.toInt + 1 := i_add rfl kt_1 (by omega)
                exact (ih v0 (v1 + (1 : Int32)) g25 hW25 h0 (by omega)  (by omega))
              · refine po_ck rfl ?_
                exact po_ret ⟨rfl, hW25, trivial⟩
set_option maxHeartbeats 1000000 in
theorem tX6_next {G : TE} {F0 : AH} {S : Int32} {f : AH} {n : Nat} {v0 : Nat} (hW : WT G F0 S f n) (h0 : G.1 v0 = 6) : PO (mX6_next v0 f n) (fun v f' n' => n' = n ∧ WT G F0 S f' n ∧ (True)) := by
  have k_kt_0 := kt_0
  unfold mX6_next
  exact (tX6_next_l2 rFU v0 (0 : Int32) f hW h0 (by omega)  (by unfold rFU; omega))
end
/-! part 38b.wt -/
section
set_option maxHeartbeats 1000000 in
theorem tX5_isSame_l3 {G : TE} {F0 : AH} {S : Int32} {n : Nat} : ∀ (d : Nat) (v0 : Nat) (v1 : Int32) (v2 : Option Nat) (v3 : Int32) (v4 : Int32) (v5 : Int32) (f : AH), WT G F0 S f n → G.1 v0 = 5 → (∃ i, v2 = some i ∧ G.1 i = 5) → ((-700) ≤ v4.toInt ∧ v4.toInt ≤ 700) → (0 ≤ v5.toInt ∧ v5.toInt ≤ 2000) → v4.toInt - v5.toInt + 3000 < (d : Int) → PO (mX5_isSame_l3 d v0 v1 v2 v3 v4 v5 f n) (fun v f' n' => f' = f ∧ n' = n ∧ (v = 0 ∨ v = 1)) := by
  intro d
  induction d with
  | zero =>
    intro v0 v1 v2 v3 v4 v5 f hW h0 h1 h2 h3  hm
    exfalso
    obtain ⟨iv2, rfl, h1⟩ := h1
    omega
  | succ d ih =>
    intro v0 v1 v2 v3 v4 v5 f hW h0 h1 h2 h3  hm
    obtain ⟨iv2, rfl, h1⟩ := h1
    show PO (if v4 ≤ v5 then rCk (rNb (1 : Int32)) (some ((1 : Int32), (f, n))) else rCk (isO f v0 5) (((mX5_get v0 (v1 + v5) f n).bind fun r3 => (((some iv2)).bind fun j5 => rCk (isO r3.2.1 j5 5) (((mX5_get j5 (v3 + v5) r3.2.1 r3.2.2).bind fun r7 => (if r3.1 = r7.1 then mX5_isSame_l3 d v0 v1 (some j5) v3 v4 (v5 + (1 : Int32)) r7.2.1 r7.2.2 else rCk (rNb (0 : Int32)) (some ((0 : Int32), (r7.2.1, r7.2.2)))))))))) _
    refine po_le rfl rfl (fun q1 => ?_) (fun q1 => ?_)
    · refine po_ck rfl ?_
      exact po_ret ⟨rfl, rfl, (Or.inr rfl)⟩
    · refine po_ck (wt_isO hW h0 (by decide)) ?_
      refine po_ro (tX5_get hW h0) (fun y2 ex2 p2 => ?_)
      dsimp only
      refine po_some ?_
      refine po_ck (wt_isO hW h1 (by decide)) ?_
      refine po_ro (tX5_get hW h1) (fun y3 ex3 p3 => ?_)
      dsimp only
      refine po_eq (fun q4 => ?_) (fun q4 => ?_)
      · have e5 : (v5 + (1 : Int32)).toInt = v5.toInt + 1 := i_add rfl kt_1 (by omega)
        exact (ih v0 v1 (some iv2) v3 v4 (v5 + (1 : Int32)) f hW h0 ⟨_, rfl, h1⟩ (by omega) (by omega)  (by omega))
      · refine po_ck rfl ?_
        exact po_ret ⟨rfl, rfl, (Or.inl rfl)⟩
set_option maxHeartbeats 1000000 in
theorem tX5_isSame {G : TE} {F0 : AH} {S : Int32} {f : AH} {n : Nat} {v0 : Nat} {v1 : Int32} {v2 : Option Nat} {v3 : Int32} {v4 : Int32} (hW : WT G F0 S f n) (h0 : G.1 v0 = 5) (h1 : (∃ i, v2 = some i ∧ G.1 i = 5)) (h2 : ((-700) ≤ v4.toInt ∧ v4.toInt ≤ 700)) : PO (mX5_isSame v0 v1 v2 v3 v4 f n) (fun v f' n' => f' = f ∧ n' = n ∧ (v = 0 ∨ v = 1)) := by
  obtain ⟨iv2, rfl, h1⟩ := h1
  have k_kt_0 := kt_0
  unfold mX5_isSame
  exact (tX5_isSame_l3 rFU v0 v1 (some iv2) v3 v4 (0 : Int32) f hW h0 ⟨_, rfl, h1⟩ (by omega) (by omega)  (by unfold rFU; omega))
set_option maxHeartbeats 1000000 in
theorem tX7_isLocked_l2 {G : TE} {F0 : AH} {S : Int32} {n : Nat} : ∀ (d : Nat) (v0 : Nat) (v1 : Option Nat) (v2 : Int32) (f : AH), WT G F0 S f n → G.1 v0 = 7 → (∃ i, v1 = some i ∧ G.1 i = 6) → (0 ≤ v2.toInt ∧ v2.toInt ≤ 2000) → 3000 - v2.toInt < (d : Int) → PO (mX7_isLocked_l2 d v0 v1 v2 f n) (fun v f' n' => f' = f ∧ n' = n ∧ (v = 0 ∨ v = 1)) := by
  intro d
  induction d with
  | zero =>
    intro v0 v1 v2 f hW h0 h1 h2  hm
    exfalso
    obtain ⟨iv1, rfl, h1⟩ := h1
    omega
  | succ d ih =>
    intro v0 v1 v2 f hW h0 h1 h2  hm
    obtain ⟨iv1, rfl, h1⟩ := h1
    show PO ((gI f v0 7 5).bind fun x1 => (if x1 ≤ v2 then mX7_isLocked_b69 f n else ((gR f v0 7 8).bind fun x2 => ((x2).bind fun j3 => ((gL f j3).bind fun x4 => (if (nI x4) ≤ v2 then mX7_isLocked_b69 f n else ((gR f v0 7 8).bind fun x5 => ((x5).bind fun j6 => ((gRA f j6 v2).bind fun x7 => (oN x7 (mX7_isLocked_b63 (fun v0 v1 v2 f n => mX7_isLocked_l2 d v0 v1 v2 f n) v0 (some iv1) v2 f n) (fun j8 => rCk (isO f j8 5) (((mX5_size j8 f n).bind fun r10 => (((some iv1)).bind fun j12 => ((gI r10.2.1 j12 6 5).bind fun x13 => (if x13 < r10.1 then mX7_isLocked_b63 (fun v0 v1 v2 f n => mX7_isLocked_l2 d v0 v1 v2 f n) v0 (some j12) v2 r10.2.1 r10.2.2 else ((gR r10.2.1 j12 6 0).bind fun x14 => ((gI r10.2.1 j12 6 4).bind fun x15 => rCk (isO r10.2.1 j8 5) (((mX5_size j8 r10.2.1 r10.2.2).bind fun r17 => rCk (isO r17.2.1 j8 5) (((mX5_isSame j8 (0 : Int32) x14 x15 r17.1 r17.2.1 r17.2.2).bind fun r20 => (if r20.1 = (0 : Int32) then mX7_isLocked_b63 (fun v0 v1 v2 f n => mX7_isLocked_l2 d v0 v1 v2 f n) v0 (some j12) v2 r20.2.1 r20.2.2 else rCk (rNb (1 : Int32)) (some ((1 : Int32), (r20.2.1, r20.2.2)))))))))))))))))))))))))) _
    refine po_gI hW h0 rfl rfl (by decide) (fun x1x ex1 (_ : True) => ?_)
    refine po_le rfl rfl (fun q2 => ?_) (fun q2 => ?_)
    · unfold mX7_isLocked_b69
      refine po_ck rfl ?_
      exact po_ret ⟨rfl, rfl, (Or.inl rfl)⟩
    · refine po_gRn (t := 10) hW h0 rfl rfl (by decide) (fun i3 ex3 hi3 => ?_)
      refine po_some ?_
      refine po_gL (N := 4) hW hi3 rfl rfl (by decide) ?_
      refine po_le kn_4 rfl (fun q4 => ?_) (fun q4 => ?_)
      · unfold mX7_isLocked_b69
        refine po_ck rfl ?_
        exact po_ret ⟨rfl, rfl, (Or.inl rfl)⟩
      · refine po_bind ex3 ?_
        refine po_some ?_
        refine po_gRAo (N := 4) hW hi3 rfl rfl (by omega) (fun i5 hi5 => ?_)
        refine po_oN (fun q7 => ?_) (fun i6 q7 => ?_)
        · subst q7
          unfold mX7_isLocked_b63
          have e8 : (v2 + (1 : Int32)).toInt = v2.toInt + 1 := i_add rfl kt_1 (by omega)
          exact (ih v0 (some iv1) (v2 + (1 : Int32)) f hW h0 ⟨_, rfl, h1⟩ (by omega)  (by omega))
        · subst q7
          refine po_ck (wt_isO hW (hi5 i6 rfl) (by decide)) ?_
          refine po_ro (tX5_size hW (hi5 i6 rfl)) (fun y9 ex9 p9 => ?_)
          dsimp only
          refine po_some ?_
          refine po_gI hW h1 rfl rfl (by decide) (fun x10x ex10 (_ : True) => ?_)
          refine po_lt rfl rfl (fun q11 => ?_) (fun q11 => ?_)
          · unfold mX7_isLocked_b63
            have e12 : (v2 + (1 : Int32)).toInt = v2.toInt + 1 := i_add rfl kt_1 (by omega)
            exact (ih v0 (some iv1) (v2 + (1 : Int32)) f hW h0 ⟨_, rfl, h1⟩ (by omega)  (by omega))
          · refine po_gRn (t := 5) hW h1 rfl rfl (by decide) (fun i13 ex13 hi13 => ?_)
            refine po_gI hW h1 rfl rfl (by decide) (fun x14x ex14 (hx14 : 0 ≤ x14x.toInt ∧ x14x.toInt ≤ 700) => ?_)
            refine po_ck (wt_isO hW (hi5 i6 rfl) (by decide)) ?_
            refine po_bind ex9 ?_
            dsimp only
            refine po_ck (wt_isO hW (hi5 i6 rfl) (by decide)) ?_
            refine po_ro (tX5_isSame hW (hi5 i6 rfl) ⟨_, rfl, hi13⟩ (by omega)) (fun y15 ex15 p15 => ?_)
            dsimp only
            refine po_eq (fun q16 => ?_) (fun q16 => ?_)
            · unfold mX7_isLocked_b63
              have e17 : (v2 + (1 : Int32)).toInt = v2.toInt + 1 := i_add rfl kt_1 (by omega)
              exact (ih v0 (some iv1) (v2 + (1 : Int32)) f hW h0 ⟨_, rfl, h1⟩ (by omega)  (by omega))
            · refine po_ck rfl ?_
              exact po_ret ⟨rfl, rfl, (Or.inr rfl)⟩
set_option maxHeartbeats 1000000 in
theorem tX7_isLocked {G : TE} {F0 : AH} {S : Int32} {f : AH} {n : Nat} {v0 : Nat} {v1 : Option Nat} (hW : WT G F0 S f n) (h0 : G.1 v0 = 7) (h1 : (∃ i, v1 = some i ∧ G.1 i = 6)) : PO (mX7_isLocked v0 v1 f n) (fun v f' n' => f' = f ∧ n' = n ∧ (v = 0 ∨ v = 1)) := by
  obtain ⟨iv1, rfl, h1⟩ := h1
  have k_kt_0 := kt_0
  unfold mX7_isLocked
  exact (tX7_isLocked_l2 rFU v0 (some iv1) (0 : Int32) f hW h0 ⟨_, rfl, h1⟩ (by omega)  (by unfold rFU; omega))
set_option maxHeartbeats 1000000 in
theorem tX6_readMarkup {G : TE} {F0 : AH} {S : Int32} {f : AH} {n : Nat} {v0 : Nat} {v1 : Int32} (hW : WT G F0 S f n) (h0 : G.1 v0 = 6) : PO (mX6_readMarkup v0 v1 f n) (fun v f' n' => n' = n ∧ WT G F0 S f' n ∧ (True)) := by
  have k_kt_4 := kt_4
  have k_kt_5 := kt_5
  unfold mX6_readMarkup
  refine po_gRn (t := 5) hW h0 rfl rfl (by decide) (fun i1 ex1 hi1 => ?_)
  refine po_some ?_
  refine po_ck (wt_isO hW hi1 (by decide)) ?_
  refine po_ro (tX5_get hW hi1) (fun y2 ex2 p2 => ?_)
  dsimp only
  refine po_eq (fun q3 => ?_) (fun q3 => ?_)
  · refine po_gI hW h0 rfl rfl (by decide) (fun x4x ex4 (hx4 : (-1) ≤ x4x.toInt ∧ x4x.toInt ≤ 702) => ?_)
    refine po_le rfl rfl (fun q5 => ?_) (fun q5 => ?_)
    · unfold mX6_readMarkup_b154
      exact po_ret ⟨rfl, hW, trivial⟩
    · refine po_bind ex1 ?_
      refine po_some ?_
      refine po_ck (wt_isO hW hi1 (by decide)) ?_
      refine po_ro (tX5_get hW hi1) (fun y6 ex6 p6 => ?_)
      dsimp only
      refine po_eq (fun q7 => ?_) (fun q7 => ?_)
      · refine po_bind ex1 ?_
        refine po_some ?_
        refine po_ck (wt_isO hW hi1 (by decide)) ?_
        refine po_ro (tX5_get hW hi1) (fun y8 ex8 p8 => ?_)
        dsimp only
        refine po_eq (fun q9 => ?_) (fun q9 => ?_)
        · refine po_bind ex1 ?_
          refine po_some ?_
          refine po_ck (wt_isO hW hi1 (by decide)) ?_
          refine po_ro (tX5_get hW hi1) (fun y10 ex10 p10 => ?_)
          dsimp only
          refine po_eq (fun q11 => ?_) (fun q11 => ?_)
          · refine po_pI hW h0 rfl rfl (vv_i (by decide) (vi7 (by omega))) (fun g12 hW12 ex12 => ?_)
            unfold mX6_readMarkup_b154
            exact po_ret ⟨rfl, hW12, trivial⟩
          · unfold mX6_readMarkup_b154
            exact po_ret ⟨rfl, hW, trivial⟩
        · unfold mX6_readMarkup_b154
          exact po_ret ⟨rfl, hW, trivial⟩
      · unfold mX6_readMarkup_b154
        exact po_ret ⟨rfl, hW, trivial⟩
  · refine po_eq (fun q13 => ?_) (fun q13 => ?_)
    · unfold mX6_readMarkup_b92
      refine po_gI hW h0 rfl rfl (by decide) (fun x14x ex14 (hx14 : (-1) ≤ x14x.toInt ∧ x14x.toInt ≤ 702) => ?_)
      refine po_le rfl rfl (fun q15 => ?_) (fun q15 => ?_)
      · unfold mX6_readMarkup_b154
        exact po_ret ⟨rfl, hW, trivial⟩
      · refine po_bind ex1 ?_
        refine po_some ?_
        refine po_ck (wt_isO hW hi1 (by decide)) ?_
        refine po_ro (tX5_get hW hi1) (fun y16 ex16 p16 => ?_)
        dsimp only
        refine po_eq (fun q17 => ?_) (fun q17 => ?_)
        · refine po_bind ex1 ?_
          refine po_some ?_
          refine po_ck (wt_isO hW hi1 (by decide)) ?_
          refine po_ro (tX5_get hW hi1) (fun y18 ex18 p18 => ?_)
          dsimp only
          refine po_eq (fun q19 => ?_) (fun q19 => ?_)
          · refine po_eq (fun q20 => ?_) (fun q20 => ?_)
            · unfold mX6_readMarkup_b146
              refine po_pI hW h0 rfl rfl (vv_i (by decide) trivial) (fun g21 hW21 ex21 => ?_)
              refine po_pI hW21 h0 rfl rfl (vv_i (by decide) (vi7 (by omega))) (fun g22 hW22 ex22 => ?_)
              unfold mX6_readMarkup_b154
              exact po_ret ⟨rfl, hW22, trivial⟩
            · unfold mX6_readMarkup_b146
              refine po_pI hW h0 rfl rfl (vv_i (by decide) trivial) (fun g23 hW23 ex23 => ?_)
              refine po_pI hW23 h0 rfl rfl (vv_i (by decide) (vi7 (by omega))) (fun g24 hW24 ex24 => ?_)
              unfold mX6_readMarkup_b154
              exact po_ret ⟨rfl, hW24, trivial⟩
          · unfold mX6_readMarkup_b154
            exact po_ret ⟨rfl, hW, trivial⟩
        · unfold mX6_readMarkup_b154
          exact po_ret ⟨rfl, hW, trivial⟩
    · refine po_eq (fun q25 => ?_) (fun q25 => ?_)
      · unfold mX6_readMarkup_b92
        refine po_gI hW h0 rfl rfl (by decide) (fun x26x ex26 (hx26 : (-1) ≤ x26x.toInt ∧ x26x.toInt ≤ 702) => ?_)
        refine po_le rfl rfl (fun q27 => ?_) (fun q27 => ?_)
        · unfold mX6_readMarkup_b154
          exact po_ret ⟨rfl, hW, trivial⟩
        · refine po_bind ex1 ?_
          refine po_some ?_
          refine po_ck (wt_isO hW hi1 (by decide)) ?_
          refine po_ro (tX5_get hW hi1) (fun y28 ex28 p28 => ?_)
          dsimp only
          refine po_eq (fun q29 => ?_) (fun q29 => ?_)
          · refine po_bind ex1 ?_
            refine po_some ?_
            refine po_ck (wt_isO hW hi1 (by decide)) ?_
            refine po_ro (tX5_get hW hi1) (fun y30 ex30 p30 => ?_)
            dsimp only
            refine po_eq (fun q31 => ?_) (fun q31 => ?_)
            · refine po_eq (fun q32 => ?_) (fun q32 => ?_)
              · unfold mX6_readMarkup_b146
                refine po_pI hW h0 rfl rfl (vv_i (by decide) trivial) (fun g33 hW33 ex33 => ?_)
                refine po_pI hW33 h0 rfl rfl (vv_i (by decide) (vi7 (by omega))) (fun g34 hW34 ex34 => ?_)
                unfold mX6_readMarkup_b154
                exact po_ret ⟨rfl, hW34, trivial⟩
              · unfold mX6_readMarkup_b146
                refine po_pI hW h0 rfl rfl (vv_i (by decide) trivial) (fun g35 hW35 ex35 => ?_)
                refine po_pI hW35 h0 rfl rfl (vv_i (by decide) (vi7 (by omega))) (fun g36 hW36 ex36 => ?_)
                unfold mX6_readMarkup_b154
                exact po_ret ⟨rfl, hW36, trivial⟩
            · unfold mX6_readMarkup_b154
              exact po_ret ⟨rfl, hW, trivial⟩
          · unfold mX6_readMarkup_b154
            exact po_ret ⟨rfl, hW, trivial⟩
      · unfold mX6_readMarkup_b154
        exact po_ret ⟨rfl, hW, trivial⟩
set_option maxHeartbeats 1000000 in
theorem tX6_readBack {G : TE} {F0 : AH} {S : Int32} {f : AH} {n : Nat} {v0 : Nat} {v1 : Int32} (hW : WT G F0 S f n) (h0 : G.1 v0 = 6) : PO (mX6_readBack v0 v1 f n) (fun v f' n' => n' = n ∧ WT G F0 S f' n ∧ (True)) := by
  have k_kt_2 := kt_2
  unfold mX6_readBack
  refine po_gI hW h0 rfl rfl (by decide) (fun x1x ex1 (_ : True) => ?_)
  refine po_eq (fun q2 => ?_) (fun q2 => ?_)
  · unfold mX6_readBack_b14
    refine po_eq (fun q3 => ?_) (fun q3 => ?_)
    · unfold mX6_readBack_b38
      refine po_eq (fun q4 => ?_) (fun q4 => ?_)
      · unfold mX6_readBack_b62
        refine po_pI hW h0 rfl rfl (vv_i (by decide) trivial) (fun g5 hW5 ex5 => ?_)
        refine po_pI hW5 h0 rfl rfl (vv_i (by decide) (vi7 (by omega))) (fun g6 hW6 ex6 => ?_)
        unfold mX6_readBack_b70
        exact po_ret ⟨rfl, hW6, trivial⟩
      · refine po_eq (fun q7 => ?_) (fun q7 => ?_)
        · unfold mX6_readBack_b62
          refine po_pI hW h0 rfl rfl (vv_i (by decide) trivial) (fun g8 hW8 ex8 => ?_)
          refine po_pI hW8 h0 rfl rfl (vv_i (by decide) (vi7 (by omega))) (fun g9 hW9 ex9 => ?_)
          unfold mX6_readBack_b70
          exact po_ret ⟨rfl, hW9, trivial⟩
        · unfold mX6_readBack_b62
          refine po_pI hW h0 rfl rfl (vv_i (by decide) trivial) (fun g10 hW10 ex10 => ?_)
          refine po_pI hW10 h0 rfl rfl (vv_i (by decide) (vi7 (by omega))) (fun g11 hW11 ex11 => ?_)
          unfold mX6_readBack_b70
          exact po_ret ⟨rfl, hW11, trivial⟩
    · refine po_eq (fun q12 => ?_) (fun q12 => ?_)
      · unfold mX6_readBack_b38
        refine po_eq (fun q13 => ?_) (fun q13 => ?_)
        · unfold mX6_readBack_b62
          refine po_pI hW h0 rfl rfl (vv_i (by decide) trivial) (fun g14 hW14 ex14 => ?_)
          refine po_pI hW14 h0 rfl rfl (vv_i (by decide) (vi7 (by omega))) (fun g15 hW15 ex15 => ?_)
          unfold mX6_readBack_b70
          exact po_ret ⟨rfl, hW15, trivial⟩
        · refine po_eq (fun q16 => ?_) (fun q16 => ?_)
          · unfold mX6_readBack_b62
            refine po_pI hW h0 rfl rfl (vv_i (by decide) trivial) (fun g17 hW17 ex17 => ?_)
            refine po_pI hW17 h0 rfl rfl (vv_i (by decide) (vi7 (by omega))) (fun g18 hW18 ex18 => ?_)
            unfold mX6_readBack_b70
            exact po_ret ⟨rfl, hW18, trivial⟩
          · unfold mX6_readBack_b62
            refine po_pI hW h0 rfl rfl (vv_i (by decide) trivial) (fun g19 hW19 ex19 => ?_)
            refine po_pI hW19 h0 rfl rfl (vv_i (by decide) (vi7 (by omega))) (fun g20 hW20 ex20 => ?_)
            unfold mX6_readBack_b70
            exact po_ret ⟨rfl, hW20, trivial⟩
      · refine po_eq (fun q21 => ?_) (fun q21 => ?_)
        · unfold mX6_readBack_b38
          refine po_eq (fun q22 => ?_) (fun q22 => ?_)
          · unfold mX6_readBack_b62
            refine po_pI hW h0 rfl rfl (vv_i (by decide) trivial) (fun g23 hW23 ex23 => ?_)
            refine po_pI hW23 h0 rfl rfl (vv_i (by decide) (vi7 (by omega))) (fun g24 hW24 ex24 => ?_)
            unfold mX6_readBack_b70
            exact po_ret ⟨rfl, hW24, trivial⟩
          · refine po_eq (fun q25 => ?_) (fun q25 => ?_)
            · unfold mX6_readBack_b62
              refine po_pI hW h0 rfl rfl (vv_i (by decide) trivial) (fun g26 hW26 ex26 => ?_)
              refine po_pI hW26 h0 rfl rfl (vv_i (by decide) (vi7 (by omega))) (fun g27 hW27 ex27 => ?_)
              unfold mX6_readBack_b70
              exact po_ret ⟨rfl, hW27, trivial⟩
            · unfold mX6_readBack_b62
              refine po_pI hW h0 rfl rfl (vv_i (by decide) trivial) (fun g28 hW28 ex28 => ?_)
              refine po_pI hW28 h0 rfl rfl (vv_i (by decide) (vi7 (by omega))) (fun g29 hW29 ex29 => ?_)
              unfold mX6_readBack_b70
              exact po_ret ⟨rfl, hW29, trivial⟩
        · refine po_eq (fun q30 => ?_) (fun q30 => ?_)
          · unfold mX6_readBack_b38
            refine po_eq (fun q31 => ?_) (fun q31 => ?_)
            · unfold mX6_readBack_b62
              refine po_pI hW h0 rfl rfl (vv_i (by decide) trivial) (fun g32 hW32 ex32 => ?_)
              refine po_pI hW32 h0 rfl rfl (vv_i (by decide) (vi7 (by omega))) (fun g33 hW33 ex33 => ?_)
              unfold mX6_readBack_b70
              exact po_ret ⟨rfl, hW33, trivial⟩
            · refine po_eq (fun q34 => ?_) (fun q34 => ?_)
              · unfold mX6_readBack_b62
                refine po_pI hW h0 rfl rfl (vv_i (by decide) trivial) (fun g35 hW35 ex35 => ?_)
                refine po_pI hW35 h0 rfl rfl (vv_i (by decide) (vi7 (by omega))) (fun g36 hW36 ex36 => ?_)
                unfold mX6_readBack_b70
                exact po_ret ⟨rfl, hW36, trivial⟩
              · unfold mX6_readBack_b62
                refine po_pI hW h0 rfl rfl (vv_i (by decide) trivial) (fun g37 hW37 ex37 => ?_)
                refine po_pI hW37 h0 rfl rfl (vv_i (by decide) (vi7 (by omega))) (fun g38 hW38 ex38 => ?_)
                unfold mX6_readBack_b70
                exact po_ret ⟨rfl, hW38, trivial⟩
          · unfold mX6_readBack_b70
            exact po_ret ⟨rfl, hW, trivial⟩
  · unfold mX6_readBack_b14
    refine po_eq (fun q39 => ?_) (fun q39 => ?_)
    · unfold mX6_readBack_b38
      refine po_eq (fun q40 => ?_) (fun q40 => ?_)
      · unfold mX6_readBack_b62
        refine po_pI hW h0 rfl rfl (vv_i (by decide) trivial) (fun g41 hW41 ex41 => ?_)
        refine po_pI hW41 h0 rfl rfl (vv_i (by decide) (vi7 (by omega))) (fun g42 hW42 ex42 => ?_)
        unfold mX6_readBack_b70
        exact po_ret ⟨rfl, hW42, trivial⟩
      · refine po_eq (fun q43 => ?_) (fun q43 => ?_)
        · unfold mX6_readBack_b62
          refine po_pI hW h0 rfl rfl (vv_i (by decide) trivial) (fun g44 hW44 ex44 => ?_)
          refine po_pI hW44 h0 rfl rfl (vv_i (by decide) (vi7 (by omega))) (fun g45 hW45 ex45 => ?_)
          unfold mX6_readBack_b70
          exact po_ret ⟨rfl, hW45, trivial⟩
        · unfold mX6_readBack_b62
          refine po_pI hW h0 rfl rfl (vv_i (by decide) trivial) (fun g46 hW46 ex46 => ?_)
          refine po_pI hW46 h0 rfl rfl (vv_i (by decide) (vi7 (by omega))) (fun g47 hW47 ex47 => ?_)
          unfold mX6_readBack_b70
          exact po_ret ⟨rfl, hW47, trivial⟩
    · refine po_eq (fun q48 => ?_) (fun q48 => ?_)
      · unfold mX6_readBack_b38
        refine po_eq (fun q49 => ?_) (fun q49 => ?_)
        · unfold mX6_readBack_b62
          refine po_pI hW h0 rfl rfl (vv_i (by decide) trivial) (fun g50 hW50 ex50 => ?_)
          refine po_pI hW50 h0 rfl rfl (vv_i (by decide) (vi7 (by omega))) (fun g51 hW51 ex51 => ?_)
          unfold mX6_readBack_b70
          exact po_ret ⟨rfl, hW51, trivial⟩
        · refine po_eq (fun q52 => ?_) (fun q52 => ?_)
          · unfold mX6_readBack_b62
            refine po_pI hW h0 rfl rfl (vv_i (by decide) trivial) (fun g53 hW53 ex53 => ?_)
            refine po_pI hW53 h0 rfl rfl (vv_i (by decide) (vi7 (by omega))) (fun g54 hW54 ex54 => ?_)
            unfold mX6_readBack_b70
            exact po_ret ⟨rfl, hW54, trivial⟩
          · unfold mX6_readBack_b62
            refine po_pI hW h0 rfl rfl (vv_i (by decide) trivial) (fun g55 hW55 ex55 => ?_)
            refine po_pI hW55 h0 rfl rfl (vv_i (by decide) (vi7 (by omega))) (fun g56 hW56 ex56 => ?_)
            unfold mX6_readBack_b70
            exact po_ret ⟨rfl, hW56, trivial⟩
      · refine po_eq (fun q57 => ?_) (fun q57 => ?_)
        · unfold mX6_readBack_b38
          refine po_eq (fun q58 => ?_) (fun q58 => ?_)
          · unfold mX6_readBack_b62
            refine po_pI hW h0 rfl rfl (vv_i (by decide) trivial) (fun g59 hW59 ex59 => ?_)
            refine po_pI hW59 h0 rfl rfl (vv_i (by decide) (vi7 (by omega))) (fun g60 hW60 ex60 => ?_)
            unfold mX6_readBack_b70
            exact po_ret ⟨rfl, hW60, trivial⟩
          · refine po_eq (fun q61 => ?_) (fun q61 => ?_)
            · unfold mX6_readBack_b62
              refine po_pI hW h0 rfl rfl (vv_i (by decide) trivial) (fun g62 hW62 ex62 => ?_)
              refine po_pI hW62 h0 rfl rfl (vv_i (by decide) (vi7 (by omega))) (fun g63 hW63 ex63 => ?_)
              unfold mX6_readBack_b70
              exact po_ret ⟨rfl, hW63, trivial⟩
            · unfold mX6_readBack_b62
              refine po_pI hW h0 rfl rfl (vv_i (by decide) trivial) (fun g64 hW64 ex64 => ?_)
              refine po_pI hW64 h0 rfl rfl (vv_i (by decide) (vi7 (by omega))) (fun g65 hW65 ex65 => ?_)
              unfold mX6_readBack_b70
              exact po_ret ⟨rfl, hW65, trivial⟩
        · refine po_eq (fun q66 => ?_) (fun q66 => ?_)
          · unfold mX6_readBack_b38
            refine po_eq (fun q67 => ?_) (fun q67 => ?_)
            · unfold mX6_readBack_b62
              refine po_pI hW h0 rfl rfl (vv_i (by decide) trivial) (fun g68 hW68 ex68 => ?_)
              refine po_pI hW68 h0 rfl rfl (vv_i (by decide) (vi7 (by omega))) (fun g69 hW69 ex69 => ?_)
              unfold mX6_readBack_b70
              exact po_ret ⟨rfl, hW69, trivial⟩
            · refine po_eq (fun q70 => ?_) (fun q70 => ?_)
              · unfold mX6_readBack_b62
                refine po_pI hW h0 rfl rfl (vv_i (by decide) trivial) (fun g71 hW71 ex71 => ?_)
                refine po_pI hW71 h0 rfl rfl (vv_i (by decide) (vi7 (by omega))) (fun g72 hW72 ex72 => ?_)
                unfold mX6_readBack_b70
                exact po_ret ⟨rfl, hW72, trivial⟩
              · unfold mX6_readBack_b62
                refine po_pI hW h0 rfl rfl (vv_i (by decide) trivial) (fun g73 hW73 ex73 => ?_)
                refine po_pI hW73 h0 rfl rfl (vv_i (by decide) (vi7 (by omega))) (fun g74 hW74 ex74 => ?_)
                unfold mX6_readBack_b70
                exact po_ret ⟨rfl, hW74, trivial⟩
          · unfold mX6_readBack_b70
            exact po_ret ⟨rfl, hW, trivial⟩
set_option maxHeartbeats 1000000 in
theorem tX6_read {G : TE} {F0 : AH} {S : Int32} {f : AH} {n : Nat} {v0 : Nat} {v1 : Int32} (hW : WT G F0 S f n) (h0 : G.1 v0 = 6) : PO (mX6_read v0 v1 f n) (fun v f' n' => n' = n ∧ WT G F0 S f' n ∧ (True)) := by
  have k_kt_1 := kt_1
  have k_kt_2 := kt_2
  unfold mX6_read
  refine po_gRn (t := 5) hW h0 rfl rfl (by decide) (fun i1 ex1 hi1 => ?_)
  refine po_some ?_
  refine po_ck (wt_isO hW hi1 (by decide)) ?_
  refine po_ro (tX5_get hW hi1) (fun y2 ex2 p2 => ?_)
  dsimp only
  refine po_pI hW h0 rfl rfl (vv_i (by decide) trivial) (fun g3 hW3 ex3 => ?_)
  refine po_pI hW3 h0 rfl rfl (vv_i (by decide) (vi7 (by omega))) (fun g4 hW4 ex4 => ?_)
  refine po_gI hW4 h0 rfl rfl (by decide) (fun x5x ex5 (_ : True) => ?_)
  refine po_eq (fun q6 => ?_) (fun q6 => ?_)
  · refine po_gI hW4 h0 rfl rfl (by decide) (fun x7x ex7 (_ : True) => ?_)
    refine po_eq (fun q8 => ?_) (fun q8 => ?_)
    · refine po_ck (wt_isO hW4 h0 (by decide)) ?_
      refine po_w (tX6_readMarkup hW4 h0) (fun y9 g9 hW9 p9 => ?_)
      dsimp only
      unfold mX6_read_b111
      exact po_ret ⟨rfl, hW9, trivial⟩
    · unfold mX6_read_b111
      exact po_ret ⟨rfl, hW4, trivial⟩
  · refine po_bind ex5 ?_
    refine po_eq (fun q10 => ?_) (fun q10 => ?_)
    · refine po_gI hW4 h0 rfl rfl (by decide) (fun x11x ex11 (hx11 : x11x = 0 ∨ x11x = 1) => ?_)
      refine po_eq (fun q12 => ?_) (fun q12 => ?_)
      · unfold mX6_read_b71
        unfold mX6_read_b72
        refine po_pI hW4 h0 rfl rfl (vv_i (by decide) (vi7 (by omega))) (fun g13 hW13 ex13 => ?_)
        unfold mX6_read_b111
        exact po_ret ⟨rfl, hW13, trivial⟩
      · refine po_gI hW4 h0 rfl rfl (by decide) (fun x14x ex14 (_ : True) => ?_)
        refine po_eq (fun q15 => ?_) (fun q15 => ?_)
        · unfold mX6_read_b72
          refine po_pI hW4 h0 rfl rfl (vv_i (by decide) (vi7 (by omega))) (fun g16 hW16 ex16 => ?_)
          unfold mX6_read_b111
          exact po_ret ⟨rfl, hW16, trivial⟩
        · unfold mX6_read_b71
          unfold mX6_read_b72
          refine po_pI hW4 h0 rfl rfl (vv_i (by decide) (vi7 (by omega))) (fun g17 hW17 ex17 => ?_)
          unfold mX6_read_b111
          exact po_ret ⟨rfl, hW17, trivial⟩
    · refine po_gI hW4 h0 rfl rfl (by decide) (fun x18x ex18 (_ : True) => ?_)
      refine po_eq (fun q19 => ?_) (fun q19 => ?_)
      · refine po_gI hW4 h0 rfl rfl (by decide) (fun x20x ex20 (hx20 : (-1) ≤ x20x.toInt ∧ x20x.toInt ≤ 702) => ?_)
        refine po_le rfl rfl (fun q21 => ?_) (fun q21 => ?_)
        · unfold mX6_read_b111
          exact po_ret ⟨rfl, hW4, trivial⟩
        · refine po_gRn (t := 5) hW4 h0 rfl rfl (by decide) (fun i22 ex22 hi22 => ?_)
          refine po_some ?_
          refine po_ck (wt_isO hW4 hi22 (by decide)) ?_
          refine po_ro (tX5_get hW4 hi22) (fun y23 ex23 p23 => ?_)
          dsimp only
          refine po_ck (wt_isO hW4 h0 (by decide)) ?_
          refine po_w (tX6_readBack hW4 h0) (fun y24 g24 hW24 p24 => ?_)
          dsimp only
          unfold mX6_read_b111
          exact po_ret ⟨rfl, hW24, trivial⟩
      · unfold mX6_read_b111
        exact po_ret ⟨rfl, hW4, trivial⟩
set_option maxHeartbeats 1000000 in
theorem tX1_readOuter_l8 {G : TE} {F0 : AH} {S : Int32} {n : Nat} : ∀ (d : Nat) (v0 : Nat) (v1 : Option Nat) (v2 : Option Nat) (v3 : Int32) (f : AH), WT G F0 S f n → G.1 v0 = 1 → (∃ i, v1 = some i ∧ G.1 i = 5 ∧ i ≠ 1) → (∃ i, v2 = some i ∧ G.1 i = 5 ∧ i ≠ 1) → (0 ≤ v3.toInt ∧ v3.toInt ≤ 2000) → 3000 - v3.toInt < (d : Int) → PO (mX1_readOuter_l8 d v0 v1 v2 v3 f n) (fun v f' n' => n' = n ∧ WT G F0 S f' n ∧ (True)) := by
  intro d
  induction d with
  | zero =>
    intro v0 v1 v2 v3 f hW h0 h1 h2 h3  hm
    exfalso
    obtain ⟨iv1, rfl, h1, h1m⟩ := h1
    obtain ⟨iv2, rfl, h2, h2m⟩ := h2
    omega
  | succ d ih =>
    intro v0 v1 v2 v3 f hW h0 h1 h2 h3  hm
    obtain ⟨iv1, rfl, h1, h1m⟩ := h1
    obtain ⟨iv2, rfl, h2, h2m⟩ := h2
    show PO ((gR f v0 1 4).bind fun x1 => ((x1).bind fun j2 => ((gI f j2 6 2).bind fun x3 => (if x3 ≤ v3 then some ((0 : Int32), (f, n)) else ((gR f v0 1 4).bind fun x4 => ((x4).bind fun j5 => rCk (isO f j5 6) (((mX6_read j5 v3 f n).bind fun r7 => ((gR r7.2.1 v0 1 4).bind fun x9 => ((x9).bind fun j10 => ((gI r7.2.1 j10 6 6).bind fun x11 => (((some iv1)).bind fun j12 => rCk (isO r7.2.1 j12 5) (((mX5_add j12 x11 r7.2.1 r7.2.2).bind fun r14 => (((some iv2)).bind fun j16 => rCk (isO r14.2.1 j16 5) (((mX5_add j16 v3 r14.2.1 r14.2.2).bind fun r18 => ((gR r18.2.1 v0 1 4).bind fun x20 => ((x20).bind fun j21 => ((gI r18.2.1 j21 6 7).bind fun x22 => mX1_readOuter_l8 d v0 (some j12) (some j16) (v3 + (jMax (1 : Int32) x22)) r18.2.1 r18.2.2)))))))))))))))))))) _
    refine po_gRn (t := 6) hW h0 rfl rfl (by decide) (fun i1 ex1 hi1 => ?_)
    refine po_some ?_
    refine po_gI hW hi1 rfl rfl (by decide) (fun x2x ex2 (hx2 : (-1) ≤ x2x.toInt ∧ x2x.toInt ≤ 702) => ?_)
    refine po_le rfl rfl (fun q3 => ?_) (fun q3 => ?_)
    · exact po_ret ⟨rfl, hW, trivial⟩
    · refine po_bind ex1 ?_
      refine po_some ?_
      refine po_ck (wt_isO hW hi1 (by decide)) ?_
      refine po_w (tX6_read hW hi1) (fun y4 g4 hW4 p4 => ?_)
      dsimp only
      refine po_gRn (t := 6) hW4 h0 rfl rfl (by decide) (fun i5 ex5 hi5 => ?_)
      refine po_some ?_
      refine po_gI hW4 hi5 rfl rfl (by decide) (fun x6x ex6 (_ : True) => ?_)
      refine po_some ?_
      refine po_ck (wt_isO hW4 h1 (by decide)) ?_
      refine po_w (tX5_add hW4 h1 h1m) (fun y7 g7 hW7 p7 => ?_)
      dsimp only
      refine po_some ?_
      refine po_ck (wt_isO hW7 h2 (by decide)) ?_
      refine po_w (tX5_add hW7 h2 h2m) (fun y8 g8 hW8 p8 => ?_)
      dsimp only
      refine po_gRn (t := 6) hW8 h0 rfl rfl (by decide) (fun i9 ex9 hi9 => ?_)
      refine po_some ?_
      refine po_gI hW8 hi9 rfl rfl (by decide) (fun x10x ex10 (hx10 : 0 ≤ x10x.toInt ∧ x10x.toInt ≤ 5) => ?_)
      have e11 := jmax_b (a := (1 : Int32)) (b := x10x) kt_1 rfl
      have e12 : (v3 + (jMax (1 : Int32) x10x)).toInt = v3.toInt + (jMax (1 : Int32) x10x).toInt := i_add rfl rfl (by omega)
      exact (ih v0 (some iv1) (some iv2) (v3 + (jMax (1 : Int32) x10x)) g8 hW8 h0 ⟨_, rfl, h1, h1m⟩ ⟨_, rfl, h2, h2m⟩ (by omega)  (by omega))
set_option maxHeartbeats 1000000 in
theorem tX1_readOuter {G : TE} {F0 : AH} {S : Int32} {f : AH} {n : Nat} {v0 : Nat} {v1 : Option Nat} {v2 : Option Nat} (hW : WT G F0 S f n) (h0 : G.1 v0 = 1) (h1 : (∃ i, v1 = some i ∧ G.1 i = 5 ∧ i ≠ 1)) (h2 : (∃ i, v2 = some i ∧ G.1 i = 5 ∧ i ≠ 1)) : PO (mX1_readOuter v0 v1 v2 f n) (fun v f' n' => n' = n ∧ WT G F0 S f' n ∧ (True)) := by
  obtain ⟨iv1, rfl, h1, h1m⟩ := h1
  obtain ⟨iv2, rfl, h2, h2m⟩ := h2
  unfold mX1_readOuter
  refine po_gRn (t := 6) hW h0 rfl rfl (by decide) (fun i1 ex1 hi1 => ?_)
  refine po_some ?_
  refine po_gI hW hi1 rfl rfl (by decide) (fun x2x ex2 (hx2 : 0 ≤ x2x.toInt ∧ x2x.toInt ≤ 702) => ?_)
  exact (tX1_readOuter_l8 rFU v0 (some iv1) (some iv2) x2x f hW h0 ⟨_, rfl, h1, h1m⟩ ⟨_, rfl, h2, h2m⟩ (by omega)  (by unfold rFU; omega))
set_option maxHeartbeats 1000000 in
theorem tX8_isLetter {G : TE} {F0 : AH} {S : Int32} {f : AH} {n : Nat} {v0 : Int32} (hW : WT G F0 S f n)  : PO (mX8_isLetter v0 f n) (fun v f' n' => f' = f ∧ n' = n ∧ (v = 0 ∨ v = 1)) := by
  unfold mX8_isLetter
  refine po_lt rfl kt_97 (fun q1 => ?_) (fun q1 => ?_)
  · unfold mX8_isLetter_b12
    refine po_lt rfl kt_65 (fun q2 => ?_) (fun q2 => ?_)
    · unfold mX8_isLetter_b28
      unfold mX8_isLetter_b29
      refine po_ck (nb_of (Or.inl rfl)) ?_
      exact po_ret ⟨rfl, rfl, (Or.inl rfl)⟩
    · refine po_lt kt_90 rfl (fun q3 => ?_) (fun q3 => ?_)
      · unfold mX8_isLetter_b28
        unfold mX8_isLetter_b29
        refine po_ck (nb_of (Or.inl rfl)) ?_
        exact po_ret ⟨rfl, rfl, (Or.inl rfl)⟩
      · unfold mX8_isLetter_b24
        unfold mX8_isLetter_b29
        refine po_ck (nb_of (Or.inr rfl)) ?_
        exact po_ret ⟨rfl, rfl, (Or.inr rfl)⟩
  · refine po_le rfl kt_122 (fun q4 => ?_) (fun q4 => ?_)
    · unfold mX8_isLetter_b24
      unfold mX8_isLetter_b29
      refine po_ck (nb_of (Or.inr rfl)) ?_
      exact po_ret ⟨rfl, rfl, (Or.inr rfl)⟩
    · unfold mX8_isLetter_b12
      refine po_lt rfl kt_65 (fun q5 => ?_) (fun q5 => ?_)
      · unfold mX8_isLetter_b28
        unfold mX8_isLetter_b29
        refine po_ck (nb_of (Or.inl rfl)) ?_
        exact po_ret ⟨rfl, rfl, (Or.inl rfl)⟩
      · refine po_lt kt_90 rfl (fun q6 => ?_) (fun q6 => ?_)
        · unfold mX8_isLetter_b28
          unfold mX8_isLetter_b29
          refine po_ck (nb_of (Or.inl rfl)) ?_
          exact po_ret ⟨rfl, rfl, (Or.inl rfl)⟩
        · unfold mX8_isLetter_b24
          unfold mX8_isLetter_b29
          refine po_ck (nb_of (Or.inr rfl)) ?_
          exact po_ret ⟨rfl, rfl, (Or.inr rfl)⟩
set_option maxHeartbeats 1000000 in
theorem tX5_hasLetter_l2 {G : TE} {F0 : AH} {S : Int32} {n : Nat} : ∀ (d : Nat) (v0 : Nat) (v2 : Int32) (f : AH), WT G F0 S f n → G.1 v0 = 5 → (0 ≤ v2.toInt ∧ v2.toInt ≤ 2000) → 3000 - v2.toInt < (d : Int) → PO (mX5_hasLetter_l2 d v0 v2 f n) (fun v f' n' => f' = f ∧ n' = n ∧ (v = 0 ∨ v = 1)) := by
  intro d
  induction d with
  | zero =>
    intro v0 v2 f hW h0 h1  hm
    exfalso
    omega
  | succ d ih =>
    intro v0 v2 f hW h0 h1  hm
    show PO ((gI f v0 5 1).bind fun x1 => (if x1 ≤ v2 then rCk (rNb (0 : Int32)) (some ((0 : Int32), (f, n))) else rCk (isO f v0 5) (((mX5_get v0 v2 f n).bind fun r4 => ((mX8_isLetter r4.1 r4.2.1 r4.2.2).bind fun r6 => (if r6.1 = (0 : Int32) then mX5_hasLetter_l2 d v0 (v2 + (1 : Int32)) r6.2.1 r6.2.2 else rCk (rNb (1 : Int32)) (some ((1 : Int32), (r6.2.1, r6.2.2))))))))) _
    refine po_rs hW h0 (fun x1x ex1 hx1 hy1 => ?_)
    refine po_le rfl rfl (fun q2 => ?_) (fun q2 => ?_)
    · refine po_ck rfl ?_
      exact po_ret ⟨rfl, rfl, (Or.inl rfl)⟩
    · refine po_ck (wt_isO hW h0 (by decide)) ?_
      refine po_ro (tX5_get hW h0) (fun y3 ex3 p3 => ?_)
      dsimp only
      refine po_ro (tX8_isLetter hW ) (fun y4 ex4 p4 => ?_)
      dsimp only
      refine po_eq (fun q5 => ?_) (fun q5 => ?_)
      · have e6 : (v2 + (1 : Int32)).toInt = v2.toInt + 1 := i_add rfl kt_1 (by omega)
        exact (ih v0 (v2 + (1 : Int32)) f hW h0 (by omega)  (by omega))
      · refine po_ck rfl ?_
        exact po_ret ⟨rfl, rfl, (Or.inr rfl)⟩
set_option maxHeartbeats 1000000 in
theorem tX5_hasLetter {G : TE} {F0 : AH} {S : Int32} {f : AH} {n : Nat} {v0 : Nat} {v1 : Int32} (hW : WT G F0 S f n) (h0 : G.1 v0 = 5) (h1 : (0 ≤ v1.toInt ∧ v1.toInt ≤ 600)) : PO (mX5_hasLetter v0 v1 f n) (fun v f' n' => f' = f ∧ n' = n ∧ (v = 0 ∨ v = 1)) := by
  unfold mX5_hasLetter
  exact (tX5_hasLetter_l2 rFU v0 v1 f hW h0 (by omega)  (by unfold rFU; omega))
set_option maxHeartbeats 1000000 in
theorem tX1_settle {G : TE} {F0 : AH} {S : Int32} {f : AH} {n : Nat} {v0 : Nat} {v1 : Option Nat} {v2 : Int32} {v3 : Int32} {v4 : Int32} (hW : WT G F0 S f n) (h0 : G.1 v0 = 1) (h1 : (∃ i, v1 = some i ∧ G.1 i = 7)) (h2 : (0 ≤ v2.toInt ∧ v2.toInt ≤ 600)) : PO (mX1_settle v0 v1 v2 v3 v4 f n) (fun v f' n' => n' = n ∧ WT G F0 S f' n ∧ (True)) := by
  obtain ⟨iv1, rfl, h1⟩ := h1
  unfold mX1_settle
  refine po_gI hW h0 rfl rfl (by decide) (fun x1x ex1 (hx1 : 0 ≤ x1x.toInt ∧ x1x.toInt ≤ 40) => ?_)
  refine po_lt rfl kt_0 (fun q2 => ?_) (fun q2 => ?_)
  · unfold mX1_settle_b31
    unfold mX1_settle_b32
    refine po_gRm hW h0 rfl rfl (fun i3 ex3 hi3 hm3 => ?_)
    refine po_some ?_
    refine po_ck (wt_isO hW hi3 (by decide)) ?_
    refine po_ro (tX5_size hW hi3) (fun y4 ex4 p4 => ?_)
    dsimp only
    refine po_oNn ?_
    unfold mX1_settle_b77
    refine po_bind ex3 ?_
    refine po_some ?_
    refine po_ck (wt_isO hW hi3 (by decide)) ?_
    refine po_w (tX5_cutTo hW hi3 hm3) (fun y5 g5 hW5 p5 => ?_)
    dsimp only
    refine po_gRm hW5 h0 rfl rfl (fun i6 ex6 hi6 hm6 => ?_)
    refine po_some ?_
    refine po_ck (wt_isO hW5 hi6 (by decide)) ?_
    refine po_w (tX5_cutTo hW5 hi6 hm6) (fun y7 g7 hW7 p7 => ?_)
    dsimp only
    exact po_ret ⟨rfl, hW7, trivial⟩
  · refine po_bind ex1 ?_
    refine po_gRn (t := 13) hW h0 rfl rfl (by decide) (fun i8 ex8 hi8 => ?_)
    refine po_some ?_
    refine po_gL (N := 40) hW hi8 rfl rfl (by decide) ?_
    refine po_le kn_40 rfl (fun q9 => ?_) (fun q9 => ?_)
    · unfold mX1_settle_b31
      unfold mX1_settle_b32
      refine po_gRm hW h0 rfl rfl (fun i10 ex10 hi10 hm10 => ?_)
      refine po_some ?_
      refine po_ck (wt_isO hW hi10 (by decide)) ?_
      refine po_ro (tX5_size hW hi10) (fun y11 ex11 p11 => ?_)
      dsimp only
      refine po_oNn ?_
      unfold mX1_settle_b77
      refine po_bind ex10 ?_
      refine po_some ?_
      refine po_ck (wt_isO hW hi10 (by decide)) ?_
      refine po_w (tX5_cutTo hW hi10 hm10) (fun y12 g12 hW12 p12 => ?_)
      dsimp only
      refine po_gRm hW12 h0 rfl rfl (fun i13 ex13 hi13 hm13 => ?_)
      refine po_some ?_
      refine po_ck (wt_isO hW12 hi13 (by decide)) ?_
      refine po_w (tX5_cutTo hW12 hi13 hm13) (fun y14 g14 hW14 p14 => ?_)
      dsimp only
      exact po_ret ⟨rfl, hW14, trivial⟩
    · refine po_bind ex8 ?_
      refine po_bind ex1 ?_
      refine po_some ?_
      refine po_gRAn (N := 40) (T := 3) hW hi8 rfl rfl rfl (by decide) (by omega) (fun i15 hi15 => ?_)
      unfold mX1_settle_b32
      refine po_gRm hW h0 rfl rfl (fun i16 ex16 hi16 hm16 => ?_)
      refine po_some ?_
      refine po_ck (wt_isO hW hi16 (by decide)) ?_
      refine po_ro (tX5_size hW hi16) (fun y17 ex17 p17 => ?_)
      dsimp only
      refine po_oNs ?_
      refine po_some ?_
      refine po_gI hW h1 rfl rfl (by decide) (fun x18x ex18 (_ : True) => ?_)
      have e20 : (y17 - v2).toInt = y17.toInt - v2.toInt := i_sub rfl rfl (by omega)
      refine po_lt rfl rfl (fun q19 => ?_) (fun q19 => ?_)
      · unfold mX1_settle_b77
        refine po_bind ex16 ?_
        refine po_some ?_
        refine po_ck (wt_isO hW hi16 (by decide)) ?_
        refine po_w (tX5_cutTo hW hi16 hm16) (fun y21 g21 hW21 p21 => ?_)
        dsimp only
        refine po_gRm hW21 h0 rfl rfl (fun i22 ex22 hi22 hm22 => ?_)
        refine po_some ?_
        refine po_ck (wt_isO hW21 hi22 (by decide)) ?_
        refine po_w (tX5_cutTo hW21 hi22 hm22) (fun y23 g23 hW23 p23 => ?_)
        dsimp only
        exact po_ret ⟨rfl, hW23, trivial⟩
      · refine po_gI hW h1 rfl rfl (by decide) (fun x24x ex24 (hx24 : x24x = 0 ∨ x24x = 1) => ?_)
        refine po_eq (fun q25 => ?_) (fun q25 => ?_)
        · unfold mX1_settle_b94
          refine po_bind ex1 ?_
          have e27 : (x1x + (1 : Int32)).toInt = x1x.toInt + 1 := i_add rfl kt_1 (by omega)
          refine po_pI hW h0 rfl rfl (vv_i (by decide) (vi3 (by omega))) (fun g26 hW26 ex26 => ?_)
          refine po_some ?_
          refine po_pI hW26 hi15 rfl rfl (vv_i (by decide) trivial) (fun g28 hW28 ex28 => ?_)
          refine po_pI hW28 hi15 rfl rfl (vv_i (by decide) trivial) (fun g29 hW29 ex29 => ?_)
          refine po_pI hW29 hi15 rfl rfl (vv_i (by decide) (vi5 (by omega))) (fun g30 hW30 ex30 => ?_)
          refine po_pI hW30 hi15 rfl rfl (vv_i (by decide) (vi6 (by omega))) (fun g31 hW31 ex31 => ?_)
          refine po_gRn (t := 6) hW31 h0 rfl rfl (by decide) (fun i32 ex32 hi32 => ?_)
          refine po_some ?_
          refine po_gI hW31 hi32 rfl rfl (by decide) (fun x33x ex33 (hx33 : 0 ≤ x33x.toInt ∧ x33x.toInt ≤ 700) => ?_)
          refine po_pI hW31 hi15 rfl rfl (vv_i (by decide) trivial) (fun g34 hW34 ex34 => ?_)
          refine po_gRn (t := 6) hW34 h0 rfl rfl (by decide) (fun i35 ex35 hi35 => ?_)
          refine po_some ?_
          refine po_gI hW34 hi35 rfl rfl (by decide) (fun x36x ex36 (_ : True) => ?_)
          refine po_pI hW34 hi15 rfl rfl (vv_i (by decide) trivial) (fun g37 hW37 ex37 => ?_)
          refine po_gRn (t := 6) hW37 h0 rfl rfl (by decide) (fun i38 ex38 hi38 => ?_)
          refine po_some ?_
          refine po_gI hW37 hi38 rfl rfl (by decide) (fun x39x ex39 (hx39 : x39x = 0 ∨ x39x = 1) => ?_)
          refine po_ck (nb_of hx39) ?_
          refine po_pI hW37 hi15 rfl rfl (vv_i (by decide) hx39) (fun g40 hW40 ex40 => ?_)
          refine po_some ?_
          refine po_gI hW40 h1 rfl rfl (by decide) (fun x41x ex41 (_ : True) => ?_)
          refine po_eq (fun q42 => ?_) (fun q42 => ?_)
          · refine po_gRn (t := 6) hW40 h0 rfl rfl (by decide) (fun i43 ex43 hi43 => ?_)
            refine po_some ?_
            refine po_gI hW40 hi43 rfl rfl (by decide) (fun x44x ex44 (hx44 : x44x = 0 ∨ x44x = 1) => ?_)
            refine po_eq (fun q45 => ?_) (fun q45 => ?_)
            · unfold mX1_settle_b190
              unfold mX1_settle_b191
              refine po_some ?_
              refine po_ck (nb_of (Or.inl rfl)) ?_
              refine po_pI hW40 hi15 rfl rfl (vv_i (by decide) (Or.inl rfl)) (fun g46 hW46 ex46 => ?_)
              refine po_gRn (t := 6) hW46 h0 rfl rfl (by decide) (fun i47 ex47 hi47 => ?_)
              refine po_some ?_
              refine po_gI hW46 hi47 rfl rfl (by decide) (fun x48x ex48 (hx48 : 0 ≤ x48x.toInt ∧ x48x.toInt ≤ 702) => ?_)
              refine po_eq (fun q49 => ?_) (fun q49 => ?_)
              · unfold mX1_settle_b212
                refine po_some ?_
                refine po_ck (nb_of (Or.inr rfl)) ?_
                refine po_pI hW46 hi15 rfl rfl (vv_i (by decide) (Or.inr rfl)) (fun g50 hW50 ex50 => ?_)
                exact po_ret ⟨rfl, hW50, trivial⟩
              · unfold mX1_settle_b212
                refine po_some ?_
                refine po_ck (nb_of (Or.inl rfl)) ?_
                refine po_pI hW46 hi15 rfl rfl (vv_i (by decide) (Or.inl rfl)) (fun g51 hW51 ex51 => ?_)
                exact po_ret ⟨rfl, hW51, trivial⟩
            · unfold mX1_settle_b191
              refine po_some ?_
              refine po_ck (nb_of (Or.inr rfl)) ?_
              refine po_pI hW40 hi15 rfl rfl (vv_i (by decide) (Or.inr rfl)) (fun g52 hW52 ex52 => ?_)
              refine po_gRn (t := 6) hW52 h0 rfl rfl (by decide) (fun i53 ex53 hi53 => ?_)
              refine po_some ?_
              refine po_gI hW52 hi53 rfl rfl (by decide) (fun x54x ex54 (hx54 : 0 ≤ x54x.toInt ∧ x54x.toInt ≤ 702) => ?_)
              refine po_eq (fun q55 => ?_) (fun q55 => ?_)
              · unfold mX1_settle_b212
                refine po_some ?_
                refine po_ck (nb_of (Or.inr rfl)) ?_
                refine po_pI hW52 hi15 rfl rfl (vv_i (by decide) (Or.inr rfl)) (fun g56 hW56 ex56 => ?_)
                exact po_ret ⟨rfl, hW56, trivial⟩
              · unfold mX1_settle_b212
                refine po_some ?_
                refine po_ck (nb_of (Or.inl rfl)) ?_
                refine po_pI hW52 hi15 rfl rfl (vv_i (by decide) (Or.inl rfl)) (fun g57 hW57 ex57 => ?_)
                exact po_ret ⟨rfl, hW57, trivial⟩
          · unfold mX1_settle_b190
            unfold mX1_settle_b191
            refine po_some ?_
            refine po_ck (nb_of (Or.inl rfl)) ?_
            refine po_pI hW40 hi15 rfl rfl (vv_i (by decide) (Or.inl rfl)) (fun g58 hW58 ex58 => ?_)
            refine po_gRn (t := 6) hW58 h0 rfl rfl (by decide) (fun i59 ex59 hi59 => ?_)
            refine po_some ?_
            refine po_gI hW58 hi59 rfl rfl (by decide) (fun x60x ex60 (hx60 : 0 ≤ x60x.toInt ∧ x60x.toInt ≤ 702) => ?_)
            refine po_eq (fun q61 => ?_) (fun q61 => ?_)
            · unfold mX1_settle_b212
              refine po_some ?_
              refine po_ck (nb_of (Or.inr rfl)) ?_
              refine po_pI hW58 hi15 rfl rfl (vv_i (by decide) (Or.inr rfl)) (fun g62 hW62 ex62 => ?_)
              exact po_ret ⟨rfl, hW62, trivial⟩
            · unfold mX1_settle_b212
              refine po_some ?_
              refine po_ck (nb_of (Or.inl rfl)) ?_
              refine po_pI hW58 hi15 rfl rfl (vv_i (by decide) (Or.inl rfl)) (fun g63 hW63 ex63 => ?_)
              exact po_ret ⟨rfl, hW63, trivial⟩
        · refine po_bind ex16 ?_
          refine po_some ?_
          refine po_ck (wt_isO hW hi16 (by decide)) ?_
          refine po_ro (tX5_hasLetter hW hi16 (by omega)) (fun y64 ex64 p64 => ?_)
          dsimp only
          refine po_eq (fun q65 => ?_) (fun q65 => ?_)
          · unfold mX1_settle_b77
            refine po_bind ex16 ?_
            refine po_some ?_
            refine po_ck (wt_isO hW hi16 (by decide)) ?_
            refine po_w (tX5_cutTo hW hi16 hm16) (fun y66 g66 hW66 p66 => ?_)
            dsimp only
            refine po_gRm hW66 h0 rfl rfl (fun i67 ex67 hi67 hm67 => ?_)
            refine po_some ?_
            refine po_ck (wt_isO hW66 hi67 (by decide)) ?_
            refine po_w (tX5_cutTo hW66 hi67 hm67) (fun y68 g68 hW68 p68 => ?_)
            dsimp only
            exact po_ret ⟨rfl, hW68, trivial⟩
          · unfold mX1_settle_b94
            refine po_bind ex1 ?_
            have e70 : (x1x + (1 : Int32)).toInt = x1x.toInt + 1 := i_add rfl kt_1 (by omega)
            refine po_pI hW h0 rfl rfl (vv_i (by decide) (vi3 (by omega))) (fun g69 hW69 ex69 => ?_)
            refine po_some ?_
            refine po_pI hW69 hi15 rfl rfl (vv_i (by decide) trivial) (fun g71 hW71 ex71 => ?_)
            refine po_pI hW71 hi15 rfl rfl (vv_i (by decide) trivial) (fun g72 hW72 ex72 => ?_)
            refine po_pI hW72 hi15 rfl rfl (vv_i (by decide) (vi5 (by omega))) (fun g73 hW73 ex73 => ?_)
            refine po_pI hW73 hi15 rfl rfl (vv_i (by decide) (vi6 (by omega))) (fun g74 hW74 ex74 => ?_)
            refine po_gRn (t := 6) hW74 h0 rfl rfl (by decide) (fun i75 ex75 hi75 => ?_)
            refine po_some ?_
            refine po_gI hW74 hi75 rfl rfl (by decide) (fun x76x ex76 (hx76 : 0 ≤ x76x.toInt ∧ x76x.toInt ≤ 700) => ?_)
            refine po_pI hW74 hi15 rfl rfl (vv_i (by decide) trivial) (fun g77 hW77 ex77 => ?_)
            refine po_gRn (t := 6) hW77 h0 rfl rfl (by decide) (fun i78 ex78 hi78 => ?_)
            refine po_some ?_
            refine po_gI hW77 hi78 rfl rfl (by decide) (fun x79x ex79 (_ : True) => ?_)
            refine po_pI hW77 hi15 rfl rfl (vv_i (by decide) trivial) (fun g80 hW80 ex80 => ?_)
            refine po_gRn (t := 6) hW80 h0 rfl rfl (by decide) (fun i81 ex81 hi81 => ?_)
            refine po_some ?_
            refine po_gI hW80 hi81 rfl rfl (by decide) (fun x82x ex82 (hx82 : x82x = 0 ∨ x82x = 1) => ?_)
            refine po_ck (nb_of hx82) ?_
            refine po_pI hW80 hi15 rfl rfl (vv_i (by decide) hx82) (fun g83 hW83 ex83 => ?_)
            refine po_some ?_
            refine po_gI hW83 h1 rfl rfl (by decide) (fun x84x ex84 (_ : True) => ?_)
            refine po_eq (fun q85 => ?_) (fun q85 => ?_)
            · refine po_gRn (t := 6) hW83 h0 rfl rfl (by decide) (fun i86 ex86 hi86 => ?_)
              refine po_some ?_
              refine po_gI hW83 hi86 rfl rfl (by decide) (fun x87x ex87 (hx87 : x87x = 0 ∨ x87x = 1) => ?_)
              refine po_eq (fun q88 => ?_) (fun q88 => ?_)
              · unfold mX1_settle_b190
                unfold mX1_settle_b191
                refine po_some ?_
                refine po_ck (nb_of (Or.inl rfl)) ?_
                refine po_pI hW83 hi15 rfl rfl (vv_i (by decide) (Or.inl rfl)) (fun g89 hW89 ex89 => ?_)
                refine po_gRn (t := 6) hW89 h0 rfl rfl (by decide) (fun i90 ex90 hi90 => ?_)
                refine po_some ?_
                refine po_gI hW89 hi90 rfl rfl (by decide) (fun x91x ex91 (hx91 : 0 ≤ x91x.toInt ∧ x91x.toInt ≤ 702) => ?_)
                refine po_eq (fun q92 => ?_) (fun q92 => ?_)
                · unfold mX1_settle_b212
                  refine po_some ?_
                  refine po_ck (nb_of (Or.inr rfl)) ?_
                  refine po_pI hW89 hi15 rfl rfl (vv_i (by decide) (Or.inr rfl)) (fun g93 hW93 ex93 => ?_)
                  exact po_ret ⟨rfl, hW93, trivial⟩
                · unfold mX1_settle_b212
                  refine po_some ?_
                  refine po_ck (nb_of (Or.inl rfl)) ?_
                  refine po_pI hW89 hi15 rfl rfl (vv_i (by decide) (Or.inl rfl)) (fun g94 hW94 ex94 => ?_)
                  exact po_ret ⟨rfl, hW94, trivial⟩
              · unfold mX1_settle_b191
                refine po_some ?_
                refine po_ck (nb_of (Or.inr rfl)) ?_
                refine po_pI hW83 hi15 rfl rfl (vv_i (by decide) (Or.inr rfl)) (fun g95 hW95 ex95 => ?_)
                refine po_gRn (t := 6) hW95 h0 rfl rfl (by decide) (fun i96 ex96 hi96 => ?_)
                refine po_some ?_
                refine po_gI hW95 hi96 rfl rfl (by decide) (fun x97x ex97 (hx97 : 0 ≤ x97x.toInt ∧ x97x.toInt ≤ 702) => ?_)
                refine po_eq (fun q98 => ?_) (fun q98 => ?_)
                · unfold mX1_settle_b212
                  refine po_some ?_
                  refine po_ck (nb_of (Or.inr rfl)) ?_
                  refine po_pI hW95 hi15 rfl rfl (vv_i (by decide) (Or.inr rfl)) (fun g99 hW99 ex99 => ?_)
                  exact po_ret ⟨rfl, hW99, trivial⟩
                · unfold mX1_settle_b212
                  refine po_some ?_
                  refine po_ck (nb_of (Or.inl rfl)) ?_
                  refine po_pI hW95 hi15 rfl rfl (vv_i (by decide) (Or.inl rfl)) (fun g100 hW100 ex100 => ?_)
                  exact po_ret ⟨rfl, hW100, trivial⟩
            · unfold mX1_settle_b190
              unfold mX1_settle_b191
              refine po_some ?_
              refine po_ck (nb_of (Or.inl rfl)) ?_
              refine po_pI hW83 hi15 rfl rfl (vv_i (by decide) (Or.inl rfl)) (fun g101 hW101 ex101 => ?_)
              refine po_gRn (t := 6) hW101 h0 rfl rfl (by decide) (fun i102 ex102 hi102 => ?_)
              refine po_some ?_
              refine po_gI hW101 hi102 rfl rfl (by decide) (fun x103x ex103 (hx103 : 0 ≤ x103x.toInt ∧ x103x.toInt ≤ 702) => ?_)
              refine po_eq (fun q104 => ?_) (fun q104 => ?_)
              · unfold mX1_settle_b212
                refine po_some ?_
                refine po_ck (nb_of (Or.inr rfl)) ?_
                refine po_pI hW101 hi15 rfl rfl (vv_i (by decide) (Or.inr rfl)) (fun g105 hW105 ex105 => ?_)
                exact po_ret ⟨rfl, hW105, trivial⟩
              · unfold mX1_settle_b212
                refine po_some ?_
                refine po_ck (nb_of (Or.inl rfl)) ?_
                refine po_pI hW101 hi15 rfl rfl (vv_i (by decide) (Or.inl rfl)) (fun g106 hW106 ex106 => ?_)
                exact po_ret ⟨rfl, hW106, trivial⟩
set_option maxHeartbeats 1000000 in
theorem tX1_takeWithin_l63 {G : TE} {F0 : AH} {S : Int32} {n : Nat} {D : Nat} {rec17 : Nat → Option Nat → Int32 → AH → Nat → Option (Int32 × HpN)} (Hr : ∀ (v0 : Nat) (v1 : Option Nat) (v2 : Int32) (f : AH), WT G F0 S f n → G.1 v0 = 1 → (∃ i, v1 = some i ∧ G.1 i = 7) → (0 ≤ v2.toInt ∧ v2.toInt ≤ 2000) → 3000 - v2.toInt < (D : Int) → PO (rec17 v0 v1 v2 f n) (fun v f' n' => n' = n ∧ WT G F0 S f' n ∧ (True))) : ∀ (d : Nat) (v0 : Nat) (v1 : Option Nat) (v2 : Int32) (v3 : Int32) (v4 : Int32) (f : AH), WT G F0 S f n → G.1 v0 = 1 → (∃ i, v1 = some i ∧ G.1 i = 7) → (0 ≤ v2.toInt ∧ v2.toInt ≤ 2000) → (0 ≤ v3.toInt ∧ v3.toInt ≤ 600) → (0 ≤ v4.toInt ∧ v4.toInt ≤ 2000) → 2999 - v2.toInt < (D : Int) → v2.toInt ≤ 600 → 3000 - v4.toInt < (d : Int) → PO (mX1_takeWithin_l63 rec17 d v0 v1 v2 v3 v4 f n) (fun v f' n' => n' = n ∧ WT G F0 S f' n ∧ (True)) := by
  intro d
  induction d with
  | zero =>
    intro v0 v1 v2 v3 v4 f hW h0 h1 h2 h3 h4 hx0 hx1 hm
    exfalso
    obtain ⟨iv1, rfl, h1⟩ := h1
    omega
  | succ d ih =>
    intro v0 v1 v2 v3 v4 f hW h0 h1 h2 h3 h4 hx0 hx1 hm
    obtain ⟨iv1, rfl, h1⟩ := h1
    show PO ((gR f v0 1 5).bind fun x1 => ((x1).bind fun j2 => ((gI f j2 6 2).bind fun x3 => (if x3 ≤ v4 then ((gR f v0 1 5).bind fun x4 => ((x4).bind fun j5 => ((gI f j5 6 2).bind fun x6 => ((gR f v0 1 6).bind fun x7 => ((x7).bind fun j8 => rCk (isO f j8 5) (((mX5_size j8 f n).bind fun r10 => (if r10.1 ≤ x6 then ((gR r10.2.1 v0 1 4).bind fun x12 => ((x12).bind fun j13 => ((gI r10.2.1 j13 6 2).bind fun x14 => mX1_takeWithin_b176 rec17 v0 (some iv1) v2 v3 x14 r10.2.1 r10.2.2))) else ((gR r10.2.1 v0 1 7).bind fun x15 => ((gR r10.2.1 v0 1 5).bind fun x16 => ((x16).bind fun j17 => ((gI r10.2.1 j17 6 2).bind fun x18 => ((x15).bind fun j19 => rCk (isO r10.2.1 j19 5) (((mX5_get j19 x18 r10.2.1 r10.2.2).bind fun r21 => mX1_takeWithin_b176 rec17 v0 (some iv1) v2 v3 r21.1 r21.2.1 r21.2.2))))))))))))))) else ((gR f v0 1 5).bind fun x23 => ((x23).bind fun j24 => rCk (isO f j24 6) (((mX6_read j24 v4 f n).bind fun r26 => ((gR r26.2.1 v0 1 0).bind fun x28 => ((gR r26.2.1 v0 1 5).bind fun x29 => ((x29).bind fun j30 => ((gI r26.2.1 j30 6 6).bind fun x31 => ((x28).bind fun j32 => rCk (isO r26.2.1 j32 5) (((mX5_add j32 x31 r26.2.1 r26.2.2).bind fun r34 => ((gR r34.2.1 v0 1 1).bind fun x36 => ((gR r34.2.1 v0 1 7).bind fun x37 => ((x37).bind fun j38 => rCk (isO r34.2.1 j38 5) (((mX5_get j38 v4 r34.2.1 r34.2.2).bind fun r40 => ((x36).bind fun j42 => rCk (isO r40.2.1 j42 5) (((mX5_add j42 r40.1 r40.2.1 r40.2.2).bind fun r44 => ((gR r44.2.1 v0 1 5).bind fun x46 => ((x46).bind fun j47 => ((gI r44.2.1 j47 6 7).bind fun x48 => mX1_takeWithin_l63 rec17 d v0 (some iv1) v2 v3 (v4 + (jMax (1 : Int32) x48)) r44.2.1 r44.2.2)))))))))))))))))))))))))) _
    refine po_gRn (t := 6) hW h0 rfl rfl (by decide) (fun i1 ex1 hi1 => ?_)
    refine po_some ?_
    refine po_gI hW hi1 rfl rfl (by decide) (fun x2x ex2 (hx2 : (-1) ≤ x2x.toInt ∧ x2x.toInt ≤ 702) => ?_)
    refine po_le rfl rfl (fun q3 => ?_) (fun q3 => ?_)
    · refine po_bind ex1 ?_
      refine po_some ?_
      refine po_bind ex2 ?_
      refine po_gRm hW h0 rfl rfl (fun i4 ex4 hi4 hm4 => ?_)
      refine po_some ?_
      refine po_ck (wt_isO hW hi4 (by decide)) ?_
      refine po_ro (tX5_size hW hi4) (fun y5 ex5 p5 => ?_)
      dsimp only
      refine po_le rfl rfl (fun q6 => ?_) (fun q6 => ?_)
      · refine po_gRn (t := 6) hW h0 rfl rfl (by decide) (fun i7 ex7 hi7 => ?_)
        refine po_some ?_
        refine po_gI hW hi7 rfl rfl (by decide) (fun x8x ex8 (hx8 : (-1) ≤ x8x.toInt ∧ x8x.toInt ≤ 702) => ?_)
        unfold mX1_takeWithin_b176
        refine po_gRm hW h0 rfl rfl (fun i9 ex9 hi9 hm9 => ?_)
        refine po_bind ex1 ?_
        refine po_some ?_
        refine po_gI hW hi1 rfl rfl (by decide) (fun x10x ex10 (hx10 : 0 ≤ x10x.toInt ∧ x10x.toInt ≤ 702) => ?_)
        refine po_some ?_
        refine po_ck (wt_isO hW hi9 (by decide)) ?_
        refine po_ro (tX5_get hW hi9) (fun y11 ex11 p11 => ?_)
        dsimp only
        refine po_ck (wt_isO hW h0 (by decide)) ?_
        refine po_w (tX1_settle hW h0 ⟨_, rfl, h1⟩ (by omega)) (fun y12 g12 hW12 p12 => ?_)
        dsimp only
        have e13 : (v2 + (1 : Int32)).toInt = v2.toInt + 1 := i_add rfl kt_1 (by omega)
        exact (Hr v0 (some iv1) (v2 + (1 : Int32)) g12 hW12 h0 ⟨_, rfl, h1⟩ (by omega)  (by omega))
      · refine po_gRm hW h0 rfl rfl (fun i14 ex14 hi14 hm14 => ?_)
        refine po_bind ex1 ?_
        refine po_some ?_
        refine po_bind ex2 ?_
        refine po_some ?_
        refine po_ck (wt_isO hW hi14 (by decide)) ?_
        refine po_ro (tX5_get hW hi14) (fun y15 ex15 p15 => ?_)
        dsimp only
        unfold mX1_takeWithin_b176
        refine po_bind ex14 ?_
        refine po_bind ex1 ?_
        refine po_some ?_
        refine po_gI hW hi1 rfl rfl (by decide) (fun x16x ex16 (hx16 : 0 ≤ x16x.toInt ∧ x16x.toInt ≤ 702) => ?_)
        refine po_some ?_
        refine po_ck (wt_isO hW hi14 (by decide)) ?_
        refine po_ro (tX5_get hW hi14) (fun y17 ex17 p17 => ?_)
        dsimp only
        refine po_ck (wt_isO hW h0 (by decide)) ?_
        refine po_w (tX1_settle hW h0 ⟨_, rfl, h1⟩ (by omega)) (fun y18 g18 hW18 p18 => ?_)
        dsimp only
        have e19 : (v2 + (1 : Int32)).toInt = v2.toInt + 1 := i_add rfl kt_1 (by omega)
        exact (Hr v0 (some iv1) (v2 + (1 : Int32)) g18 hW18 h0 ⟨_, rfl, h1⟩ (by omega)  (by omega))
    · refine po_bind ex1 ?_
      refine po_some ?_
      refine po_ck (wt_isO hW hi1 (by decide)) ?_
      refine po_w (tX6_read hW hi1) (fun y20 g20 hW20 p20 => ?_)
      dsimp only
      refine po_gRm hW20 h0 rfl rfl (fun i21 ex21 hi21 hm21 => ?_)
      refine po_gRn (t := 6) hW20 h0 rfl rfl (by decide) (fun i22 ex22 hi22 => ?_)
      refine po_some ?_
      refine po_gI hW20 hi22 rfl rfl (by decide) (fun x23x ex23 (_ : True) => ?_)
      refine po_some ?_
      refine po_ck (wt_isO hW20 hi21 (by decide)) ?_
      refine po_w (tX5_add hW20 hi21 hm21) (fun y24 g24 hW24 p24 => ?_)
      dsimp only
      refine po_gRm hW24 h0 rfl rfl (fun i25 ex25 hi25 hm25 => ?_)
      refine po_gRm hW24 h0 rfl rfl (fun i26 ex26 hi26 hm26 => ?_)
      refine po_some ?_
      refine po_ck (wt_isO hW24 hi26 (by decide)) ?_
      refine po_ro (tX5_get hW24 hi26) (fun y27 ex27 p27 => ?_)
      dsimp only
      refine po_some ?_
      refine po_ck (wt_isO hW24 hi25 (by decide)) ?_
      refine po_w (tX5_add hW24 hi25 hm25) (fun y28 g28 hW28 p28 => ?_)
      dsimp only
      refine po_gRn (t := 6) hW28 h0 rfl rfl (by decide) (fun i29 ex29 hi29 => ?_)
      refine po_some ?_
      refine po_gI hW28 hi29 rfl rfl (by decide) (fun x30x ex30 (hx30 : 0 ≤ x30x.toInt ∧ x30x.toInt ≤ 5) => ?_)
      have e31 := jmax_b (a := (1 : Int32)) (b := x30x) kt_1 rfl
      have e32 : (v4 + (jMax (1 : Int32) x30x)).toInt = v4.toInt + (jMax (1 : Int32) x30x).toInt := i_add rfl rfl (by omega)
      exact (ih v0 (some iv1) v2 v3 (v4 + (jMax (1 : Int32) x30x)) g28 hW28 h0 ⟨_, rfl, h1⟩ (by omega) (by omega) (by omega) (by omega) (by omega) (by omega))
set_option maxHeartbeats 1000000 in
theorem tX1_takeWithin_l17 {G : TE} {F0 : AH} {S : Int32} {n : Nat} : ∀ (d : Nat) (v0 : Nat) (v1 : Option Nat) (v2 : Int32) (f : AH), WT G F0 S f n → G.1 v0 = 1 → (∃ i, v1 = some i ∧ G.1 i = 7) → (0 ≤ v2.toInt ∧ v2.toInt ≤ 2000) → 3000 - v2.toInt < (d : Int) → PO (mX1_takeWithin_l17 d v0 v1 v2 f n) (fun v f' n' => n' = n ∧ WT G F0 S f' n ∧ (True)) := by
  intro d
  induction d with
  | zero =>
    intro v0 v1 v2 f hW h0 h1 h2  hm
    exfalso
    obtain ⟨iv1, rfl, h1⟩ := h1
    omega
  | succ d ih =>
    intro v0 v1 v2 f hW h0 h1 h2  hm
    obtain ⟨iv1, rfl, h1⟩ := h1
    show PO (if (600 : Int32) < v2 then mX1_takeWithin_b206 f n else ((gI f v0 1 3).bind fun x1 => ((gR f v0 1 2).bind fun x2 => ((x2).bind fun j3 => ((gL f j3).bind fun x4 => (if (nI x4) ≤ x1 then mX1_takeWithin_b206 f n else ((gR f v0 1 5).bind fun x5 => ((x5).bind fun j6 => rCk (isO f j6 6) (((mX6_next j6 f n).bind fun r8 => (if r8.1 = (0 : Int32) then mX1_takeWithin_b206 r8.2.1 r8.2.2 else ((gR r8.2.1 v0 1 0).bind fun x10 => ((x10).bind fun j11 => rCk (isO r8.2.1 j11 5) (((mX5_size j11 r8.2.1 r8.2.2).bind fun r13 => ((gR r13.2.1 v0 1 5).bind fun x15 => ((x15).bind fun j16 => ((gI r13.2.1 j16 6 1).bind fun x17 => mX1_takeWithin_l63 (fun v0 v1 v2 f n => mX1_takeWithin_l17 d v0 v1 v2 f n) rFU v0 (some iv1) v2 r13.1 x17 r13.2.1 r13.2.2)))))))))))))))))) _
    refine po_lt kt_600 rfl (fun q1 => ?_) (fun q1 => ?_)
    · unfold mX1_takeWithin_b206
      exact po_ret ⟨rfl, hW, trivial⟩
    · refine po_gI hW h0 rfl rfl (by decide) (fun x2x ex2 (hx2 : 0 ≤ x2x.toInt ∧ x2x.toInt ≤ 40) => ?_)
      refine po_gRn (t := 13) hW h0 rfl rfl (by decide) (fun i3 ex3 hi3 => ?_)
      refine po_some ?_
      refine po_gL (N := 40) hW hi3 rfl rfl (by decide) ?_
      refine po_le kn_40 rfl (fun q4 => ?_) (fun q4 => ?_)
      · unfold mX1_takeWithin_b206
        exact po_ret ⟨rfl, hW, trivial⟩
      · refine po_gRn (t := 6) hW h0 rfl rfl (by decide) (fun i5 ex5 hi5 => ?_)
        refine po_some ?_
        refine po_ck (wt_isO hW hi5 (by decide)) ?_
        refine po_w (tX6_next hW hi5) (fun y6 g6 hW6 p6 => ?_)
        dsimp only
        refine po_eq (fun q7 => ?_) (fun q7 => ?_)
        · unfold mX1_takeWithin_b206
          exact po_ret ⟨rfl, hW6, trivial⟩
        · refine po_gRm hW6 h0 rfl rfl (fun i8 ex8 hi8 hm8 => ?_)
          refine po_some ?_
          refine po_ck (wt_isO hW6 hi8 (by decide)) ?_
          refine po_ro (tX5_size hW6 hi8) (fun y9 ex9 p9 => ?_)
          dsimp only
          refine po_gRn (t := 6) hW6 h0 rfl rfl (by decide) (fun i10 ex10 hi10 => ?_)
          refine po_some ?_
          refine po_gI hW6 hi10 rfl rfl (by decide) (fun x11x ex11 (hx11 : 0 ≤ x11x.toInt ∧ x11x.toInt ≤ 702) => ?_)
          exact (tX1_takeWithin_l63 (D := d) (fun a0 a1 a2 f hW h0 h1 h2 hm => ih a0 a1 a2 f hW h0 h1 h2 hm) rFU v0 (some iv1) v2 y9 x11x g6 hW6 h0 ⟨_, rfl, h1⟩ (by omega) (by omega) (by omega) (by omega) (by omega) (by unfold rFU; omega))
set_option maxHeartbeats 1000000 in
theorem tX1_takeWithin {G : TE} {F0 : AH} {S : Int32} {f : AH} {n : Nat} {v0 : Nat} {v1 : Option Nat} (hW : WT G F0 S f n) (h0 : G.1 v0 = 1) (h1 : (∃ i, v1 = some i ∧ G.1 i = 7)) : PO (mX1_takeWithin v0 v1 f n) (fun v f' n' => n' = n ∧ WT G F0 S f' n ∧ (True)) := by
  obtain ⟨iv1, rfl, h1⟩ := h1
  have k_kt_0 := kt_0
  unfold mX1_takeWithin
  refine po_gRn (t := 6) hW h0 rfl rfl (by decide) (fun i1 ex1 hi1 => ?_)
  refine po_gRm hW h0 rfl rfl (fun i2 ex2 hi2 hm2 => ?_)
  refine po_some ?_
  refine po_gI hW h1 rfl rfl (by decide) (fun x3x ex3 (_ : True) => ?_)
  refine po_some ?_
  refine po_ck (wt_isO hW hi1 (by decide)) ?_
  refine po_w (tX6_start hW hi1 ⟨_, rfl, hi2⟩) (fun y4 g4 hW4 p4 => ?_)
  dsimp only
  exact (tX1_takeWithin_l17 rFU v0 (some iv1) (0 : Int32) g4 hW4 h0 ⟨_, rfl, h1⟩ (by omega)  (by unfold rFU; omega))
end
/-! part 38c.wt -/
section
set_option maxHeartbeats 1000000 in
theorem tX1_find_l35 {G : TE} {F0 : AH} {S : Int32} {n : Nat} : ∀ (d : Nat) (v0 : Nat) (v2 : Option Nat) (v3 : Int32) (f : AH), WT G F0 S f n → G.1 v0 = 1 → (∃ i, v2 = some i ∧ G.1 i = 7) → (0 ≤ v3.toInt ∧ v3.toInt ≤ 2000) → 3000 - v3.toInt < (d : Int) → PO (mX1_find_l35 d v0 v2 v3 f n) (fun v f' n' => n' = n ∧ WT G F0 S f' n ∧ (True)) := by
  intro d
  induction d with
  | zero =>
    intro v0 v2 v3 f hW h0 h1 h2  hm
    exfalso
    obtain ⟨iv2, rfl, h1⟩ := h1
    omega
  | succ d ih =>
    intro v0 v2 v3 f hW h0 h1 h2  hm
    obtain ⟨iv2, rfl, h1⟩ := h1
    show PO (if (600 : Int32) < v3 then mX1_find_b174 f n else ((gI f v0 1 3).bind fun x1 => ((gR f v0 1 2).bind fun x2 => ((x2).bind fun j3 => ((gL f j3).bind fun x4 => (if (nI x4) ≤ x1 then mX1_find_b174 f n else ((gR f v0 1 4).bind fun x5 => ((x5).bind fun j6 => rCk (isO f j6 6) (((mX6_next j6 f n).bind fun r8 => (if r8.1 = (0 : Int32) then mX1_find_b174 r8.2.1 r8.2.2 else (((some iv2)).bind fun j10 => ((gI r8.2.1 j10 7 1).bind fun x11 => (if x11 = (0 : Int32) then ((gR r8.2.1 v0 1 4).bind fun x12 => rCk (isO r8.2.1 j10 7) (((mX7_isLocked j10 x12 r8.2.1 r8.2.2).bind fun r14 => (if r14.1 = (0 : Int32) then mX1_find_b82 (fun v0 v2 v3 f n => mX1_find_l35 d v0 v2 v3 f n) v0 (some j10) v3 r14.2.1 r14.2.2 else mX1_find_b168 (fun v0 v2 v3 f n => mX1_find_l35 d v0 v2 v3 f n) v0 (some j10) v3 r14.2.1 r14.2.2)))) else mX1_find_b82 (fun v0 v2 v3 f n => mX1_find_l35 d v0 v2 v3 f n) v0 (some j10) v3 r8.2.1 r8.2.2)))))))))))))) _
    refine po_lt kt_600 rfl (fun q1 => ?_) (fun q1 => ?_)
    · unfold mX1_find_b174
      exact po_ret ⟨rfl, hW, trivial⟩
    · refine po_gI hW h0 rfl rfl (by decide) (fun x2x ex2 (hx2 : 0 ≤ x2x.toInt ∧ x2x.toInt ≤ 40) => ?_)
      refine po_gRn (t := 13) hW h0 rfl rfl (by decide) (fun i3 ex3 hi3 => ?_)
      refine po_some ?_
      refine po_gL (N := 40) hW hi3 rfl rfl (by decide) ?_
      refine po_le kn_40 rfl (fun q4 => ?_) (fun q4 => ?_)
      · unfold mX1_find_b174
        exact po_ret ⟨rfl, hW, trivial⟩
      · refine po_gRn (t := 6) hW h0 rfl rfl (by decide) (fun i5 ex5 hi5 => ?_)
        refine po_some ?_
        refine po_ck (wt_isO hW hi5 (by decide)) ?_
        refine po_w (tX6_next hW hi5) (fun y6 g6 hW6 p6 => ?_)
        dsimp only
        refine po_eq (fun q7 => ?_) (fun q7 => ?_)
        · unfold mX1_find_b174
          exact po_ret ⟨rfl, hW6, trivial⟩
        · refine po_some ?_
          refine po_gI hW6 h1 rfl rfl (by decide) (fun x8x ex8 (_ : True) => ?_)
          refine po_eq (fun q9 => ?_) (fun q9 => ?_)
          · refine po_gRn (t := 6) hW6 h0 rfl rfl (by decide) (fun i10 ex10 hi10 => ?_)
            refine po_ck (wt_isO hW6 h1 (by decide)) ?_
            refine po_ro (tX7_isLocked hW6 h1 ⟨_, rfl, hi10⟩) (fun y11 ex11 p11 => ?_)
            dsimp only
            refine po_eq (fun q12 => ?_) (fun q12 => ?_)
            · unfold mX1_find_b82
              refine po_some ?_
              refine po_gI hW6 h1 rfl rfl (by decide) (fun x13x ex13 (_ : True) => ?_)
              refine po_eq (fun q14 => ?_) (fun q14 => ?_)
              · refine po_gRm hW6 h0 rfl rfl (fun i15 ex15 hi15 hm15 => ?_)
                refine po_some ?_
                refine po_ck (wt_isO hW6 hi15 (by decide)) ?_
                refine po_ro (tX5_size hW6 hi15) (fun y16 ex16 p16 => ?_)
                dsimp only
                refine po_bind ex15 ?_
                refine po_gRm hW6 h0 rfl rfl (fun i17 ex17 hi17 hm17 => ?_)
                refine po_ck (wt_isO hW6 h0 (by decide)) ?_
                refine po_w (tX1_readOuter hW6 h0 ⟨_, rfl, hi15, hm15⟩ ⟨_, rfl, hi17, hm17⟩) (fun y18 g18 hW18 p18 => ?_)
                dsimp only
                refine po_gRn (t := 6) hW18 h0 rfl rfl (by decide) (fun i19 ex19 hi19 => ?_)
                refine po_some ?_
                refine po_gI hW18 hi19 rfl rfl (by decide) (fun x20x ex20 (hx20 : 0 ≤ x20x.toInt ∧ x20x.toInt ≤ 702) => ?_)
                refine po_bind ex19 ?_
                refine po_some ?_
                refine po_gI hW18 hi19 rfl rfl (by decide) (fun x21x ex21 (hx21 : (-1) ≤ x21x.toInt ∧ x21x.toInt ≤ 702) => ?_)
                refine po_ck (wt_isO hW18 h0 (by decide)) ?_
                refine po_w (tX1_settle hW18 h0 ⟨_, rfl, h1⟩ (by omega)) (fun y22 g22 hW22 p22 => ?_)
                dsimp only
                unfold mX1_find_b168
                have e23 : (v3 + (1 : Int32)).toInt = v3.toInt + 1 := i_add rfl kt_1 (by omega)
                exact (ih v0 (some iv2) (v3 + (1 : Int32)) g22 hW22 h0 ⟨_, rfl, h1⟩ (by omega)  (by omega))
              · refine po_gRm hW6 h0 rfl rfl (fun i24 ex24 hi24 hm24 => ?_)
                refine po_some ?_
                refine po_ck (wt_isO hW6 hi24 (by decide)) ?_
                refine po_w (tX5_cutTo hW6 hi24 hm24) (fun y25 g25 hW25 p25 => ?_)
                dsimp only
                refine po_gRm hW25 h0 rfl rfl (fun i26 ex26 hi26 hm26 => ?_)
                refine po_some ?_
                refine po_ck (wt_isO hW25 hi26 (by decide)) ?_
                refine po_w (tX5_cutTo hW25 hi26 hm26) (fun y27 g27 hW27 p27 => ?_)
                dsimp only
                refine po_gRm hW27 h0 rfl rfl (fun i28 ex28 hi28 hm28 => ?_)
                refine po_gRm hW27 h0 rfl rfl (fun i29 ex29 hi29 hm29 => ?_)
                refine po_ck (wt_isO hW27 h0 (by decide)) ?_
                refine po_w (tX1_readOuter hW27 h0 ⟨_, rfl, hi28, hm28⟩ ⟨_, rfl, hi29, hm29⟩) (fun y30 g30 hW30 p30 => ?_)
                dsimp only
                refine po_ck (wt_isO hW30 h0 (by decide)) ?_
                refine po_w (tX1_takeWithin hW30 h0 ⟨_, rfl, h1⟩) (fun y31 g31 hW31 p31 => ?_)
                dsimp only
                unfold mX1_find_b168
                have e32 : (v3 + (1 : Int32)).toInt = v3.toInt + 1 := i_add rfl kt_1 (by omega)
                exact (ih v0 (some iv2) (v3 + (1 : Int32)) g31 hW31 h0 ⟨_, rfl, h1⟩ (by omega)  (by omega))
            · unfold mX1_find_b168
              have e33 : (v3 + (1 : Int32)).toInt = v3.toInt + 1 := i_add rfl kt_1 (by omega)
              exact (ih v0 (some iv2) (v3 + (1 : Int32)) g6 hW6 h0 ⟨_, rfl, h1⟩ (by omega)  (by omega))
          · unfold mX1_find_b82
            refine po_some ?_
            refine po_gI hW6 h1 rfl rfl (by decide) (fun x34x ex34 (_ : True) => ?_)
            refine po_eq (fun q35 => ?_) (fun q35 => ?_)
            · refine po_gRm hW6 h0 rfl rfl (fun i36 ex36 hi36 hm36 => ?_)
              refine po_some ?_
              refine po_ck (wt_isO hW6 hi36 (by decide)) ?_
              refine po_ro (tX5_size hW6 hi36) (fun y37 ex37 p37 => ?_)
              dsimp only
              refine po_bind ex36 ?_
              refine po_gRm hW6 h0 rfl rfl (fun i38 ex38 hi38 hm38 => ?_)
              refine po_ck (wt_isO hW6 h0 (by decide)) ?_
              refine po_w (tX1_readOuter hW6 h0 ⟨_, rfl, hi36, hm36⟩ ⟨_, rfl, hi38, hm38⟩) (fun y39 g39 hW39 p39 => ?_)
              dsimp only
              refine po_gRn (t := 6) hW39 h0 rfl rfl (by decide) (fun i40 ex40 hi40 => ?_)
              refine po_some ?_
              refine po_gI hW39 hi40 rfl rfl (by decide) (fun x41x ex41 (hx41 : 0 ≤ x41x.toInt ∧ x41x.toInt ≤ 702) => ?_)
              refine po_bind ex40 ?_
              refine po_some ?_
              refine po_gI hW39 hi40 rfl rfl (by decide) (fun x42x ex42 (hx42 : (-1) ≤ x42x.toInt ∧ x42x.toInt ≤ 702) => ?_)
              refine po_ck (wt_isO hW39 h0 (by decide)) ?_
              refine po_w (tX1_settle hW39 h0 ⟨_, rfl, h1⟩ (by omega)) (fun y43 g43 hW43 p43 => ?_)
              dsimp only
              unfold mX1_find_b168
              have e44 : (v3 + (1 : Int32)).toInt = v3.toInt + 1 := i_add rfl kt_1 (by omega)
              exact (ih v0 (some iv2) (v3 + (1 : Int32)) g43 hW43 h0 ⟨_, rfl, h1⟩ (by omega)  (by omega))
            · refine po_gRm hW6 h0 rfl rfl (fun i45 ex45 hi45 hm45 => ?_)
              refine po_some ?_
              refine po_ck (wt_isO hW6 hi45 (by decide)) ?_
              refine po_w (tX5_cutTo hW6 hi45 hm45) (fun y46 g46 hW46 p46 => ?_)
              dsimp only
              refine po_gRm hW46 h0 rfl rfl (fun i47 ex47 hi47 hm47 => ?_)
              refine po_some ?_
              refine po_ck (wt_isO hW46 hi47 (by decide)) ?_
              refine po_w (tX5_cutTo hW46 hi47 hm47) (fun y48 g48 hW48 p48 => ?_)
              dsimp only
              refine po_gRm hW48 h0 rfl rfl (fun i49 ex49 hi49 hm49 => ?_)
              refine po_gRm hW48 h0 rfl rfl (fun i50 ex50 hi50 hm50 => ?_)
              refine po_ck (wt_isO hW48 h0 (by decide)) ?_
              refine po_w (tX1_readOuter hW48 h0 ⟨_, rfl, hi49, hm49⟩ ⟨_, rfl, hi50, hm50⟩) (fun y51 g51 hW51 p51 => ?_)
              dsimp only
              refine po_ck (wt_isO hW51 h0 (by decide)) ?_
              refine po_w (tX1_takeWithin hW51 h0 ⟨_, rfl, h1⟩) (fun y52 g52 hW52 p52 => ?_)
              dsimp only
              unfold mX1_find_b168
              have e53 : (v3 + (1 : Int32)).toInt = v3.toInt + 1 := i_add rfl kt_1 (by omega)
              exact (ih v0 (some iv2) (v3 + (1 : Int32)) g52 hW52 h0 ⟨_, rfl, h1⟩ (by omega)  (by omega))
set_option maxHeartbeats 1000000 in
theorem tX1_find {G : TE} {F0 : AH} {S : Int32} {f : AH} {n : Nat} {v0 : Nat} {v1 : Option Nat} {v2 : Option Nat} (hW : WT G F0 S f n) (h0 : G.1 v0 = 1) (h1 : (∃ i, v1 = some i ∧ G.1 i = 5)) (h2 : (∃ i, v2 = some i ∧ G.1 i = 7)) : PO (mX1_find v0 v1 v2 f n) (fun v f' n' => n' = n ∧ WT G F0 S f' n ∧ (True)) := by
  obtain ⟨iv1, rfl, h1⟩ := h1
  obtain ⟨iv2, rfl, h2⟩ := h2
  have k_kt_0 := kt_0
  unfold mX1_find
  refine po_pI hW h0 rfl rfl (vv_i (by decide) (vi3 (by omega))) (fun g1 hW1 ex1 => ?_)
  refine po_gRm hW1 h0 rfl rfl (fun i2 ex2 hi2 hm2 => ?_)
  refine po_some ?_
  refine po_ck (wt_isO hW1 hi2 (by decide)) ?_
  refine po_w (tX5_cutTo hW1 hi2 hm2) (fun y3 g3 hW3 p3 => ?_)
  dsimp only
  refine po_gRm hW3 h0 rfl rfl (fun i4 ex4 hi4 hm4 => ?_)
  refine po_some ?_
  refine po_ck (wt_isO hW3 hi4 (by decide)) ?_
  refine po_w (tX5_cutTo hW3 hi4 hm4) (fun y5 g5 hW5 p5 => ?_)
  dsimp only
  refine po_gRn (t := 6) hW5 h0 rfl rfl (by decide) (fun i6 ex6 hi6 => ?_)
  refine po_some ?_
  refine po_gI hW5 h2 rfl rfl (by decide) (fun x7x ex7 (_ : True) => ?_)
  refine po_some ?_
  refine po_ck (wt_isO hW5 hi6 (by decide)) ?_
  refine po_w (tX6_start hW5 hi6 ⟨_, rfl, h1⟩) (fun y8 g8 hW8 p8 => ?_)
  dsimp only
  exact (tX1_find_l35 rFU v0 (some iv2) (0 : Int32) g8 hW8 h0 ⟨_, rfl, h2⟩ (by omega)  (by unfold rFU; omega))
set_option maxHeartbeats 1000000 in
theorem tX1_size {G : TE} {F0 : AH} {S : Int32} {f : AH} {n : Nat} {v0 : Nat} (hW : WT G F0 S f n) (h0 : G.1 v0 = 1) : PO (mX1_size v0 f n) (fun v f' n' => f' = f ∧ n' = n ∧ (0 ≤ v.toInt ∧ v.toInt ≤ 40)) := by
  unfold mX1_size
  refine po_gI hW h0 rfl rfl (by decide) (fun x1x ex1 (hx1 : 0 ≤ x1x.toInt ∧ x1x.toInt ≤ 40) => ?_)
  exact po_ret ⟨rfl, rfl, (by omega)⟩
set_option maxHeartbeats 1000000 in
theorem tX1_get {G : TE} {F0 : AH} {S : Int32} {f : AH} {n : Nat} {v0 : Nat} {v1 : Int32} (hW : WT G F0 S f n) (h0 : G.1 v0 = 1) : PO (mX1_get v0 v1 f n) (fun v f' n' => f' = f ∧ n' = n ∧ (∀ i, v = some i → G.1 i = 3)) := by
  unfold mX1_get
  refine po_lt rfl kt_0 (fun q1 => ?_) (fun q1 => ?_)
  · unfold mX1_get_b30
    unfold mX1_get_b31
    exact po_ret ⟨rfl, rfl, (fun _ hi => nomatch hi)⟩
  · refine po_gI hW h0 rfl rfl (by decide) (fun x2x ex2 (hx2 : 0 ≤ x2x.toInt ∧ x2x.toInt ≤ 40) => ?_)
    refine po_le rfl rfl (fun q3 => ?_) (fun q3 => ?_)
    · unfold mX1_get_b30
      unfold mX1_get_b31
      exact po_ret ⟨rfl, rfl, (fun _ hi => nomatch hi)⟩
    · refine po_gRn (t := 13) hW h0 rfl rfl (by decide) (fun i4 ex4 hi4 => ?_)
      refine po_some ?_
      refine po_gL (N := 40) hW hi4 rfl rfl (by decide) ?_
      refine po_le kn_40 rfl (fun q5 => ?_) (fun q5 => ?_)
      · unfold mX1_get_b30
        unfold mX1_get_b31
        exact po_ret ⟨rfl, rfl, (fun _ hi => nomatch hi)⟩
      · refine po_bind ex4 ?_
        refine po_some ?_
        refine po_gRAn (N := 40) (T := 3) hW hi4 rfl rfl rfl (by decide) (by omega) (fun i6 hi6 => ?_)
        unfold mX1_get_b31
        exact po_ret ⟨rfl, rfl, (fun _ hi => Option.some.inj hi ▸ hi6)⟩
set_option maxHeartbeats 1000000 in
theorem tX7_toldFor {G : TE} {F0 : AH} {S : Int32} {f : AH} {n : Nat} {v0 : Nat} {v1 : Int32} (hW : WT G F0 S f n) (h0 : G.1 v0 = 7) : PO (mX7_toldFor v0 v1 f n) (fun v f' n' => f' = f ∧ n' = n ∧ (∀ i, v = some i → G.1 i = 5)) := by
  unfold mX7_toldFor
  refine po_lt rfl kt_0 (fun q1 => ?_) (fun q1 => ?_)
  · unfold mX7_toldFor_b22
    unfold mX7_toldFor_b23
    exact po_ret ⟨rfl, rfl, (fun _ hi => nomatch hi)⟩
  · refine po_gRn (t := 11) hW h0 rfl rfl (by decide) (fun i2 ex2 hi2 => ?_)
    refine po_some ?_
    refine po_gL (N := 40) hW hi2 rfl rfl (by decide) ?_
    refine po_le kn_40 rfl (fun q3 => ?_) (fun q3 => ?_)
    · unfold mX7_toldFor_b22
      unfold mX7_toldFor_b23
      exact po_ret ⟨rfl, rfl, (fun _ hi => nomatch hi)⟩
    · refine po_bind ex2 ?_
      refine po_some ?_
      refine po_gRAo (N := 40) hW hi2 rfl rfl (by omega) (fun i4 hi4 => ?_)
      unfold mX7_toldFor_b23
      exact po_ret ⟨rfl, rfl, hi4⟩
set_option maxHeartbeats 1000000 in
theorem tX5_breaksCell_l2 {G : TE} {F0 : AH} {S : Int32} {n : Nat} : ∀ (d : Nat) (v0 : Nat) (v1 : Int32) (f : AH), WT G F0 S f n → G.1 v0 = 5 → (0 ≤ v1.toInt ∧ v1.toInt ≤ 2000) → 3000 - v1.toInt < (d : Int) → PO (mX5_breaksCell_l2 d v0 v1 f n) (fun v f' n' => f' = f ∧ n' = n ∧ (v = 0 ∨ v = 1)) := by
  intro d
  induction d with
  | zero =>
    intro v0 v1 f hW h0 h1  hm
    exfalso
    omega
  | succ d ih =>
    intro v0 v1 f hW h0 h1  hm
    show PO ((gI f v0 5 1).bind fun x1 => (if x1 ≤ v1 then mX5_breaksCell_b60 f n else ((gR f v0 5 0).bind fun x2 => ((x2).bind fun j3 => ((gL f j3).bind fun x4 => (if (nI x4) ≤ v1 then mX5_breaksCell_b60 f n else ((gR f v0 5 0).bind fun x5 => ((x5).bind fun j6 => ((gIA f j6 v1).bind fun x7 => (if x7 = (44 : Int32) then mX5_breaksCell_b52 f n else ((gR f v0 5 0).bind fun x8 => ((x8).bind fun j9 => ((gIA f j9 v1).bind fun x10 => (if x10 = (34 : Int32) then mX5_breaksCell_b52 f n else ((gR f v0 5 0).bind fun x11 => ((x11).bind fun j12 => ((gIA f j12 v1).bind fun x13 => (if x13 = (10 : Int32) then mX5_breaksCell_b52 f n else mX5_breaksCell_l2 d v0 (v1 + (1 : Int32)) f n)))))))))))))))))) _
    refine po_rs hW h0 (fun x1x ex1 hx1 hy1 => ?_)
    refine po_le rfl rfl (fun q2 => ?_) (fun q2 => ?_)
    · unfold mX5_breaksCell_b60
      refine po_ck rfl ?_
      exact po_ret ⟨rfl, rfl, (Or.inl rfl)⟩
    · refine po_rb hW h0 ?_
      refine po_some ?_
      refine po_rl hW h0 (fun N4 ha4 hb4 hc4 => ?_)
      refine po_le hc4 rfl (fun q5 => ?_) (fun q5 => ?_)
      · unfold mX5_breaksCell_b60
        refine po_ck rfl ?_
        exact po_ret ⟨rfl, rfl, (Or.inl rfl)⟩
      · refine po_rb hW h0 ?_
        refine po_some ?_
        refine po_ria hW h0 (by omega) (fun x7x => ?_)
        refine po_eq (fun q8 => ?_) (fun q8 => ?_)
        · unfold mX5_breaksCell_b52
          refine po_ck rfl ?_
          exact po_ret ⟨rfl, rfl, (Or.inr rfl)⟩
        · refine po_rb hW h0 ?_
          refine po_some ?_
          refine po_ria hW h0 (by omega) (fun x10x => ?_)
          refine po_eq (fun q11 => ?_) (fun q11 => ?_)
          · unfold mX5_breaksCell_b52
            refine po_ck rfl ?_
            exact po_ret ⟨rfl, rfl, (Or.inr rfl)⟩
          · refine po_rb hW h0 ?_
            refine po_some ?_
            refine po_ria hW h0 (by omega) (fun x13x => ?_)
            refine po_eq (fun q14 => ?_) (fun q14 => ?_)
            · unfold mX5_breaksCell_b52
              refine po_ck rfl ?_
              exact po_ret ⟨rfl, rfl, (Or.inr rfl)⟩
            · have e15 : (v1 + (1 : Int32)).toInt = v1.toInt + 1 := i_add rfl kt_1 (by omega)
              exact (ih v0 (v1 + (1 : Int32)) f hW h0 (by omega)  (by omega))
set_option maxHeartbeats 1000000 in
theorem tX5_breaksCell {G : TE} {F0 : AH} {S : Int32} {f : AH} {n : Nat} {v0 : Nat} (hW : WT G F0 S f n) (h0 : G.1 v0 = 5) : PO (mX5_breaksCell v0 f n) (fun v f' n' => f' = f ∧ n' = n ∧ (v = 0 ∨ v = 1)) := by
  have k_kt_0 := kt_0
  unfold mX5_breaksCell
  exact (tX5_breaksCell_l2 rFU v0 (0 : Int32) f hW h0 (by omega)  (by unfold rFU; omega))
set_option maxHeartbeats 1000000 in
theorem tX0_addInLine {G : TE} {F0 : AH} {S : Int32} {f : AH} {n : Nat} {v0 : Int32} {v1 : Option Nat} {v2 : Int32} (hW : WT G F0 S f n) (h0 : (∃ i, v1 = some i ∧ G.1 i = 5 ∧ i ≠ 1)) : PO (mX0_addInLine v0 v1 v2 f n) (fun v f' n' => n' = n ∧ WT G F0 S f' n ∧ (True)) := by
  obtain ⟨iv1, rfl, h0, h0m⟩ := h0
  unfold mX0_addInLine
  refine po_eq (fun q1 => ?_) (fun q1 => ?_)
  · unfold mX0_addInLine_b28
    refine po_some ?_
    refine po_ck (wt_isO hW h0 (by decide)) ?_
    refine po_w (tX5_add hW h0 h0m) (fun y2 g2 hW2 p2 => ?_)
    dsimp only
    unfold mX0_addInLine_b35
    refine po_eq (fun q3 => ?_) (fun q3 => ?_)
    · unfold mX0_addInLine_b59
      refine po_some ?_
      refine po_ck (wt_isO hW2 h0 (by decide)) ?_
      refine po_w (tX5_add hW2 h0 h0m) (fun y4 g4 hW4 p4 => ?_)
      dsimp only
      exact po_ret ⟨rfl, hW4, trivial⟩
    · refine po_eq (fun q5 => ?_) (fun q5 => ?_)
      · unfold mX0_addInLine_b59
        refine po_some ?_
        refine po_ck (wt_isO hW2 h0 (by decide)) ?_
        refine po_w (tX5_add hW2 h0 h0m) (fun y6 g6 hW6 p6 => ?_)
        dsimp only
        exact po_ret ⟨rfl, hW6, trivial⟩
      · unfold mX0_addInLine_b59
        refine po_some ?_
        refine po_ck (wt_isO hW2 h0 (by decide)) ?_
        refine po_w (tX5_add hW2 h0 h0m) (fun y7 g7 hW7 p7 => ?_)
        dsimp only
        exact po_ret ⟨rfl, hW7, trivial⟩
  · refine po_eq (fun q8 => ?_) (fun q8 => ?_)
    · unfold mX0_addInLine_b28
      refine po_some ?_
      refine po_ck (wt_isO hW h0 (by decide)) ?_
      refine po_w (tX5_add hW h0 h0m) (fun y9 g9 hW9 p9 => ?_)
      dsimp only
      unfold mX0_addInLine_b35
      refine po_eq (fun q10 => ?_) (fun q10 => ?_)
      · unfold mX0_addInLine_b59
        refine po_some ?_
        refine po_ck (wt_isO hW9 h0 (by decide)) ?_
        refine po_w (tX5_add hW9 h0 h0m) (fun y11 g11 hW11 p11 => ?_)
        dsimp only
        exact po_ret ⟨rfl, hW11, trivial⟩
      · refine po_eq (fun q12 => ?_) (fun q12 => ?_)
        · unfold mX0_addInLine_b59
          refine po_some ?_
          refine po_ck (wt_isO hW9 h0 (by decide)) ?_
          refine po_w (tX5_add hW9 h0 h0m) (fun y13 g13 hW13 p13 => ?_)
          dsimp only
          exact po_ret ⟨rfl, hW13, trivial⟩
        · unfold mX0_addInLine_b59
          refine po_some ?_
          refine po_ck (wt_isO hW9 h0 (by decide)) ?_
          refine po_w (tX5_add hW9 h0 h0m) (fun y14 g14 hW14 p14 => ?_)
          dsimp only
          exact po_ret ⟨rfl, hW14, trivial⟩
    · refine po_eq (fun q15 => ?_) (fun q15 => ?_)
      · unfold mX0_addInLine_b28
        refine po_some ?_
        refine po_ck (wt_isO hW h0 (by decide)) ?_
        refine po_w (tX5_add hW h0 h0m) (fun y16 g16 hW16 p16 => ?_)
        dsimp only
        unfold mX0_addInLine_b35
        refine po_eq (fun q17 => ?_) (fun q17 => ?_)
        · unfold mX0_addInLine_b59
          refine po_some ?_
          refine po_ck (wt_isO hW16 h0 (by decide)) ?_
          refine po_w (tX5_add hW16 h0 h0m) (fun y18 g18 hW18 p18 => ?_)
          dsimp only
          exact po_ret ⟨rfl, hW18, trivial⟩
        · refine po_eq (fun q19 => ?_) (fun q19 => ?_)
          · unfold mX0_addInLine_b59
            refine po_some ?_
            refine po_ck (wt_isO hW16 h0 (by decide)) ?_
            refine po_w (tX5_add hW16 h0 h0m) (fun y20 g20 hW20 p20 => ?_)
            dsimp only
            exact po_ret ⟨rfl, hW20, trivial⟩
          · unfold mX0_addInLine_b59
            refine po_some ?_
            refine po_ck (wt_isO hW16 h0 (by decide)) ?_
            refine po_w (tX5_add hW16 h0 h0m) (fun y21 g21 hW21 p21 => ?_)
            dsimp only
            exact po_ret ⟨rfl, hW21, trivial⟩
      · refine po_eq (fun q22 => ?_) (fun q22 => ?_)
        · refine po_eq (fun q23 => ?_) (fun q23 => ?_)
          · unfold mX0_addInLine_b35
            refine po_eq (fun q24 => ?_) (fun q24 => ?_)
            · unfold mX0_addInLine_b59
              refine po_some ?_
              refine po_ck (wt_isO hW h0 (by decide)) ?_
              refine po_w (tX5_add hW h0 h0m) (fun y25 g25 hW25 p25 => ?_)
              dsimp only
              exact po_ret ⟨rfl, hW25, trivial⟩
            · refine po_eq (fun q26 => ?_) (fun q26 => ?_)
              · unfold mX0_addInLine_b59
                refine po_some ?_
                refine po_ck (wt_isO hW h0 (by decide)) ?_
                refine po_w (tX5_add hW h0 h0m) (fun y27 g27 hW27 p27 => ?_)
                dsimp only
                exact po_ret ⟨rfl, hW27, trivial⟩
              · unfold mX0_addInLine_b59
                refine po_some ?_
                refine po_ck (wt_isO hW h0 (by decide)) ?_
                refine po_w (tX5_add hW h0 h0m) (fun y28 g28 hW28 p28 => ?_)
                dsimp only
                exact po_ret ⟨rfl, hW28, trivial⟩
          · unfold mX0_addInLine_b28
            refine po_some ?_
            refine po_ck (wt_isO hW h0 (by decide)) ?_
            refine po_w (tX5_add hW h0 h0m) (fun y29 g29 hW29 p29 => ?_)
            dsimp only
            unfold mX0_addInLine_b35
            refine po_eq (fun q30 => ?_) (fun q30 => ?_)
            · unfold mX0_addInLine_b59
              refine po_some ?_
              refine po_ck (wt_isO hW29 h0 (by decide)) ?_
              refine po_w (tX5_add hW29 h0 h0m) (fun y31 g31 hW31 p31 => ?_)
              dsimp only
              exact po_ret ⟨rfl, hW31, trivial⟩
            · refine po_eq (fun q32 => ?_) (fun q32 => ?_)
              · unfold mX0_addInLine_b59
                refine po_some ?_
                refine po_ck (wt_isO hW29 h0 (by decide)) ?_
                refine po_w (tX5_add hW29 h0 h0m) (fun y33 g33 hW33 p33 => ?_)
                dsimp only
                exact po_ret ⟨rfl, hW33, trivial⟩
              · unfold mX0_addInLine_b59
                refine po_some ?_
                refine po_ck (wt_isO hW29 h0 (by decide)) ?_
                refine po_w (tX5_add hW29 h0 h0m) (fun y34 g34 hW34 p34 => ?_)
                dsimp only
                exact po_ret ⟨rfl, hW34, trivial⟩
        · unfold mX0_addInLine_b35
          refine po_eq (fun q35 => ?_) (fun q35 => ?_)
          · unfold mX0_addInLine_b59
            refine po_some ?_
            refine po_ck (wt_isO hW h0 (by decide)) ?_
            refine po_w (tX5_add hW h0 h0m) (fun y36 g36 hW36 p36 => ?_)
            dsimp only
            exact po_ret ⟨rfl, hW36, trivial⟩
          · refine po_eq (fun q37 => ?_) (fun q37 => ?_)
            · unfold mX0_addInLine_b59
              refine po_some ?_
              refine po_ck (wt_isO hW h0 (by decide)) ?_
              refine po_w (tX5_add hW h0 h0m) (fun y38 g38 hW38 p38 => ?_)
              dsimp only
              exact po_ret ⟨rfl, hW38, trivial⟩
            · unfold mX0_addInLine_b59
              refine po_some ?_
              refine po_ck (wt_isO hW h0 (by decide)) ?_
              refine po_w (tX5_add hW h0 h0m) (fun y39 g39 hW39 p39 => ?_)
              dsimp only
              exact po_ret ⟨rfl, hW39, trivial⟩
set_option maxHeartbeats 1000000 in
theorem tX0_addDoubled {G : TE} {F0 : AH} {S : Int32} {f : AH} {n : Nat} {v0 : Int32} {v1 : Option Nat} (hW : WT G F0 S f n) (h0 : (∃ i, v1 = some i ∧ G.1 i = 5 ∧ i ≠ 1)) : PO (mX0_addDoubled v0 v1 f n) (fun v f' n' => n' = n ∧ WT G F0 S f' n ∧ (True)) := by
  obtain ⟨iv1, rfl, h0, h0m⟩ := h0
  unfold mX0_addDoubled
  refine po_eq (fun q1 => ?_) (fun q1 => ?_)
  · refine po_some ?_
    refine po_ck (wt_isO hW h0 (by decide)) ?_
    refine po_w (tX5_add hW h0 h0m) (fun y2 g2 hW2 p2 => ?_)
    dsimp only
    unfold mX0_addDoubled_b13
    refine po_some ?_
    refine po_ck (wt_isO hW2 h0 (by decide)) ?_
    refine po_w (tX5_add hW2 h0 h0m) (fun y3 g3 hW3 p3 => ?_)
    dsimp only
    exact po_ret ⟨rfl, hW3, trivial⟩
  · unfold mX0_addDoubled_b13
    refine po_some ?_
    refine po_ck (wt_isO hW h0 (by decide)) ?_
    refine po_w (tX5_add hW h0 h0m) (fun y4 g4 hW4 p4 => ?_)
    dsimp only
    exact po_ret ⟨rfl, hW4, trivial⟩
set_option maxHeartbeats 1000000 in
theorem tX0_addInMarkup {G : TE} {F0 : AH} {S : Int32} {f : AH} {n : Nat} {v0 : Int32} {v1 : Option Nat} (hW : WT G F0 S f n) (h0 : (∃ i, v1 = some i ∧ G.1 i = 5 ∧ i ≠ 1)) : PO (mX0_addInMarkup v0 v1 f n) (fun v f' n' => n' = n ∧ WT G F0 S f' n ∧ (True)) := by
  obtain ⟨iv1, rfl, h0, h0m⟩ := h0
  unfold mX0_addInMarkup
  refine po_eq (fun q1 => ?_) (fun q1 => ?_)
  · unfold mX0_addInMarkup_b25
    refine po_some ?_
    refine po_ck (wt_isO hW h0 (by decide)) ?_
    refine po_w (tX5_add hW h0 h0m) (fun y2 g2 hW2 p2 => ?_)
    dsimp only
    refine po_eq (fun q3 => ?_) (fun q3 => ?_)
    · refine po_ck (wt_isO hW2 h0 (by decide)) ?_
      refine po_w (tX5_add hW2 h0 h0m) (fun y4 g4 hW4 p4 => ?_)
      dsimp only
      refine po_ck (wt_isO hW4 h0 (by decide)) ?_
      refine po_w (tX5_add hW4 h0 h0m) (fun y5 g5 hW5 p5 => ?_)
      dsimp only
      refine po_ck (wt_isO hW5 h0 (by decide)) ?_
      refine po_w (tX5_add hW5 h0 h0m) (fun y6 g6 hW6 p6 => ?_)
      dsimp only
      unfold mX0_addInMarkup_b87
      refine po_some ?_
      refine po_ck (wt_isO hW6 h0 (by decide)) ?_
      refine po_w (tX5_add hW6 h0 h0m) (fun y7 g7 hW7 p7 => ?_)
      dsimp only
      exact po_ret ⟨rfl, hW7, trivial⟩
    · refine po_eq (fun q8 => ?_) (fun q8 => ?_)
      · unfold mX0_addInMarkup_b76
        refine po_some ?_
        refine po_ck (wt_isO hW2 h0 (by decide)) ?_
        refine po_w (tX5_add hW2 h0 h0m) (fun y9 g9 hW9 p9 => ?_)
        dsimp only
        refine po_some ?_
        refine po_ck (wt_isO hW9 h0 (by decide)) ?_
        refine po_w (tX5_add hW9 h0 h0m) (fun y10 g10 hW10 p10 => ?_)
        dsimp only
        unfold mX0_addInMarkup_b87
        refine po_some ?_
        refine po_ck (wt_isO hW10 h0 (by decide)) ?_
        refine po_w (tX5_add hW10 h0 h0m) (fun y11 g11 hW11 p11 => ?_)
        dsimp only
        exact po_ret ⟨rfl, hW11, trivial⟩
      · unfold mX0_addInMarkup_b76
        refine po_some ?_
        refine po_ck (wt_isO hW2 h0 (by decide)) ?_
        refine po_w (tX5_add hW2 h0 h0m) (fun y12 g12 hW12 p12 => ?_)
        dsimp only
        refine po_some ?_
        refine po_ck (wt_isO hW12 h0 (by decide)) ?_
        refine po_w (tX5_add hW12 h0 h0m) (fun y13 g13 hW13 p13 => ?_)
        dsimp only
        unfold mX0_addInMarkup_b87
        refine po_some ?_
        refine po_ck (wt_isO hW13 h0 (by decide)) ?_
        refine po_w (tX5_add hW13 h0 h0m) (fun y14 g14 hW14 p14 => ?_)
        dsimp only
        exact po_ret ⟨rfl, hW14, trivial⟩
  · refine po_eq (fun q15 => ?_) (fun q15 => ?_)
    · unfold mX0_addInMarkup_b25
      refine po_some ?_
      refine po_ck (wt_isO hW h0 (by decide)) ?_
      refine po_w (tX5_add hW h0 h0m) (fun y16 g16 hW16 p16 => ?_)
      dsimp only
      refine po_eq (fun q17 => ?_) (fun q17 => ?_)
      · refine po_ck (wt_isO hW16 h0 (by decide)) ?_
        refine po_w (tX5_add hW16 h0 h0m) (fun y18 g18 hW18 p18 => ?_)
        dsimp only
        refine po_ck (wt_isO hW18 h0 (by decide)) ?_
        refine po_w (tX5_add hW18 h0 h0m) (fun y19 g19 hW19 p19 => ?_)
        dsimp only
        refine po_ck (wt_isO hW19 h0 (by decide)) ?_
        refine po_w (tX5_add hW19 h0 h0m) (fun y20 g20 hW20 p20 => ?_)
        dsimp only
        unfold mX0_addInMarkup_b87
        refine po_some ?_
        refine po_ck (wt_isO hW20 h0 (by decide)) ?_
        refine po_w (tX5_add hW20 h0 h0m) (fun y21 g21 hW21 p21 => ?_)
        dsimp only
        exact po_ret ⟨rfl, hW21, trivial⟩
      · refine po_eq (fun q22 => ?_) (fun q22 => ?_)
        · unfold mX0_addInMarkup_b76
          refine po_some ?_
          refine po_ck (wt_isO hW16 h0 (by decide)) ?_
          refine po_w (tX5_add hW16 h0 h0m) (fun y23 g23 hW23 p23 => ?_)
          dsimp only
          refine po_some ?_
          refine po_ck (wt_isO hW23 h0 (by decide)) ?_
          refine po_w (tX5_add hW23 h0 h0m) (fun y24 g24 hW24 p24 => ?_)
          dsimp only
          unfold mX0_addInMarkup_b87
          refine po_some ?_
          refine po_ck (wt_isO hW24 h0 (by decide)) ?_
          refine po_w (tX5_add hW24 h0 h0m) (fun y25 g25 hW25 p25 => ?_)
          dsimp only
          exact po_ret ⟨rfl, hW25, trivial⟩
        · unfold mX0_addInMarkup_b76
          refine po_some ?_
          refine po_ck (wt_isO hW16 h0 (by decide)) ?_
          refine po_w (tX5_add hW16 h0 h0m) (fun y26 g26 hW26 p26 => ?_)
          dsimp only
          refine po_some ?_
          refine po_ck (wt_isO hW26 h0 (by decide)) ?_
          refine po_w (tX5_add hW26 h0 h0m) (fun y27 g27 hW27 p27 => ?_)
          dsimp only
          unfold mX0_addInMarkup_b87
          refine po_some ?_
          refine po_ck (wt_isO hW27 h0 (by decide)) ?_
          refine po_w (tX5_add hW27 h0 h0m) (fun y28 g28 hW28 p28 => ?_)
          dsimp only
          exact po_ret ⟨rfl, hW28, trivial⟩
    · refine po_eq (fun q29 => ?_) (fun q29 => ?_)
      · unfold mX0_addInMarkup_b25
        refine po_some ?_
        refine po_ck (wt_isO hW h0 (by decide)) ?_
        refine po_w (tX5_add hW h0 h0m) (fun y30 g30 hW30 p30 => ?_)
        dsimp only
        refine po_eq (fun q31 => ?_) (fun q31 => ?_)
        · refine po_ck (wt_isO hW30 h0 (by decide)) ?_
          refine po_w (tX5_add hW30 h0 h0m) (fun y32 g32 hW32 p32 => ?_)
          dsimp only
          refine po_ck (wt_isO hW32 h0 (by decide)) ?_
          refine po_w (tX5_add hW32 h0 h0m) (fun y33 g33 hW33 p33 => ?_)
          dsimp only
          refine po_ck (wt_isO hW33 h0 (by decide)) ?_
          refine po_w (tX5_add hW33 h0 h0m) (fun y34 g34 hW34 p34 => ?_)
          dsimp only
          unfold mX0_addInMarkup_b87
          refine po_some ?_
          refine po_ck (wt_isO hW34 h0 (by decide)) ?_
          refine po_w (tX5_add hW34 h0 h0m) (fun y35 g35 hW35 p35 => ?_)
          dsimp only
          exact po_ret ⟨rfl, hW35, trivial⟩
        · refine po_eq (fun q36 => ?_) (fun q36 => ?_)
          · unfold mX0_addInMarkup_b76
            refine po_some ?_
            refine po_ck (wt_isO hW30 h0 (by decide)) ?_
            refine po_w (tX5_add hW30 h0 h0m) (fun y37 g37 hW37 p37 => ?_)
            dsimp only
            refine po_some ?_
            refine po_ck (wt_isO hW37 h0 (by decide)) ?_
            refine po_w (tX5_add hW37 h0 h0m) (fun y38 g38 hW38 p38 => ?_)
            dsimp only
            unfold mX0_addInMarkup_b87
            refine po_some ?_
            refine po_ck (wt_isO hW38 h0 (by decide)) ?_
            refine po_w (tX5_add hW38 h0 h0m) (fun y39 g39 hW39 p39 => ?_)
            dsimp only
            exact po_ret ⟨rfl, hW39, trivial⟩
          · unfold mX0_addInMarkup_b76
            refine po_some ?_
            refine po_ck (wt_isO hW30 h0 (by decide)) ?_
            refine po_w (tX5_add hW30 h0 h0m) (fun y40 g40 hW40 p40 => ?_)
            dsimp only
            refine po_some ?_
            refine po_ck (wt_isO hW40 h0 (by decide)) ?_
            refine po_w (tX5_add hW40 h0 h0m) (fun y41 g41 hW41 p41 => ?_)
            dsimp only
            unfold mX0_addInMarkup_b87
            refine po_some ?_
            refine po_ck (wt_isO hW41 h0 (by decide)) ?_
            refine po_w (tX5_add hW41 h0 h0m) (fun y42 g42 hW42 p42 => ?_)
            dsimp only
            exact po_ret ⟨rfl, hW42, trivial⟩
      · refine po_some ?_
        refine po_ck (wt_isO hW h0 (by decide)) ?_
        refine po_w (tX5_add hW h0 h0m) (fun y43 g43 hW43 p43 => ?_)
        dsimp only
        exact po_ret ⟨rfl, hW43, trivial⟩
set_option maxHeartbeats 1000000 in
theorem tX0_addInQuotes {G : TE} {F0 : AH} {S : Int32} {f : AH} {n : Nat} {v0 : Int32} {v1 : Option Nat} (hW : WT G F0 S f n) (h0 : (∃ i, v1 = some i ∧ G.1 i = 5 ∧ i ≠ 1)) : PO (mX0_addInQuotes v0 v1 f n) (fun v f' n' => n' = n ∧ WT G F0 S f' n ∧ (True)) := by
  obtain ⟨iv1, rfl, h0, h0m⟩ := h0
  unfold mX0_addInQuotes
  refine po_eq (fun q1 => ?_) (fun q1 => ?_)
  · unfold mX0_addInQuotes_b24
    refine po_some ?_
    refine po_ck (wt_isO hW h0 (by decide)) ?_
    refine po_w (tX5_add hW h0 h0m) (fun y2 g2 hW2 p2 => ?_)
    dsimp only
    unfold mX0_addInQuotes_b31
    refine po_eq (fun q3 => ?_) (fun q3 => ?_)
    · unfold mX0_addInQuotes_b55
      refine po_some ?_
      refine po_ck (wt_isO hW2 h0 (by decide)) ?_
      refine po_w (tX5_add hW2 h0 h0m) (fun y4 g4 hW4 p4 => ?_)
      dsimp only
      exact po_ret ⟨rfl, hW4, trivial⟩
    · refine po_eq (fun q5 => ?_) (fun q5 => ?_)
      · unfold mX0_addInQuotes_b55
        refine po_some ?_
        refine po_ck (wt_isO hW2 h0 (by decide)) ?_
        refine po_w (tX5_add hW2 h0 h0m) (fun y6 g6 hW6 p6 => ?_)
        dsimp only
        exact po_ret ⟨rfl, hW6, trivial⟩
      · unfold mX0_addInQuotes_b55
        refine po_some ?_
        refine po_ck (wt_isO hW2 h0 (by decide)) ?_
        refine po_w (tX5_add hW2 h0 h0m) (fun y7 g7 hW7 p7 => ?_)
        dsimp only
        exact po_ret ⟨rfl, hW7, trivial⟩
  · refine po_eq (fun q8 => ?_) (fun q8 => ?_)
    · unfold mX0_addInQuotes_b24
      refine po_some ?_
      refine po_ck (wt_isO hW h0 (by decide)) ?_
      refine po_w (tX5_add hW h0 h0m) (fun y9 g9 hW9 p9 => ?_)
      dsimp only
      unfold mX0_addInQuotes_b31
      refine po_eq (fun q10 => ?_) (fun q10 => ?_)
      · unfold mX0_addInQuotes_b55
        refine po_some ?_
        refine po_ck (wt_isO hW9 h0 (by decide)) ?_
        refine po_w (tX5_add hW9 h0 h0m) (fun y11 g11 hW11 p11 => ?_)
        dsimp only
        exact po_ret ⟨rfl, hW11, trivial⟩
      · refine po_eq (fun q12 => ?_) (fun q12 => ?_)
        · unfold mX0_addInQuotes_b55
          refine po_some ?_
          refine po_ck (wt_isO hW9 h0 (by decide)) ?_
          refine po_w (tX5_add hW9 h0 h0m) (fun y13 g13 hW13 p13 => ?_)
          dsimp only
          exact po_ret ⟨rfl, hW13, trivial⟩
        · unfold mX0_addInQuotes_b55
          refine po_some ?_
          refine po_ck (wt_isO hW9 h0 (by decide)) ?_
          refine po_w (tX5_add hW9 h0 h0m) (fun y14 g14 hW14 p14 => ?_)
          dsimp only
          exact po_ret ⟨rfl, hW14, trivial⟩
    · refine po_eq (fun q15 => ?_) (fun q15 => ?_)
      · unfold mX0_addInQuotes_b24
        refine po_some ?_
        refine po_ck (wt_isO hW h0 (by decide)) ?_
        refine po_w (tX5_add hW h0 h0m) (fun y16 g16 hW16 p16 => ?_)
        dsimp only
        unfold mX0_addInQuotes_b31
        refine po_eq (fun q17 => ?_) (fun q17 => ?_)
        · unfold mX0_addInQuotes_b55
          refine po_some ?_
          refine po_ck (wt_isO hW16 h0 (by decide)) ?_
          refine po_w (tX5_add hW16 h0 h0m) (fun y18 g18 hW18 p18 => ?_)
          dsimp only
          exact po_ret ⟨rfl, hW18, trivial⟩
        · refine po_eq (fun q19 => ?_) (fun q19 => ?_)
          · unfold mX0_addInQuotes_b55
            refine po_some ?_
            refine po_ck (wt_isO hW16 h0 (by decide)) ?_
            refine po_w (tX5_add hW16 h0 h0m) (fun y20 g20 hW20 p20 => ?_)
            dsimp only
            exact po_ret ⟨rfl, hW20, trivial⟩
          · unfold mX0_addInQuotes_b55
            refine po_some ?_
            refine po_ck (wt_isO hW16 h0 (by decide)) ?_
            refine po_w (tX5_add hW16 h0 h0m) (fun y21 g21 hW21 p21 => ?_)
            dsimp only
            exact po_ret ⟨rfl, hW21, trivial⟩
      · refine po_eq (fun q22 => ?_) (fun q22 => ?_)
        · unfold mX0_addInQuotes_b24
          refine po_some ?_
          refine po_ck (wt_isO hW h0 (by decide)) ?_
          refine po_w (tX5_add hW h0 h0m) (fun y23 g23 hW23 p23 => ?_)
          dsimp only
          unfold mX0_addInQuotes_b31
          refine po_eq (fun q24 => ?_) (fun q24 => ?_)
          · unfold mX0_addInQuotes_b55
            refine po_some ?_
            refine po_ck (wt_isO hW23 h0 (by decide)) ?_
            refine po_w (tX5_add hW23 h0 h0m) (fun y25 g25 hW25 p25 => ?_)
            dsimp only
            exact po_ret ⟨rfl, hW25, trivial⟩
          · refine po_eq (fun q26 => ?_) (fun q26 => ?_)
            · unfold mX0_addInQuotes_b55
              refine po_some ?_
              refine po_ck (wt_isO hW23 h0 (by decide)) ?_
              refine po_w (tX5_add hW23 h0 h0m) (fun y27 g27 hW27 p27 => ?_)
              dsimp only
              exact po_ret ⟨rfl, hW27, trivial⟩
            · unfold mX0_addInQuotes_b55
              refine po_some ?_
              refine po_ck (wt_isO hW23 h0 (by decide)) ?_
              refine po_w (tX5_add hW23 h0 h0m) (fun y28 g28 hW28 p28 => ?_)
              dsimp only
              exact po_ret ⟨rfl, hW28, trivial⟩
        · unfold mX0_addInQuotes_b31
          refine po_eq (fun q29 => ?_) (fun q29 => ?_)
          · unfold mX0_addInQuotes_b55
            refine po_some ?_
            refine po_ck (wt_isO hW h0 (by decide)) ?_
            refine po_w (tX5_add hW h0 h0m) (fun y30 g30 hW30 p30 => ?_)
            dsimp only
            exact po_ret ⟨rfl, hW30, trivial⟩
          · refine po_eq (fun q31 => ?_) (fun q31 => ?_)
            · unfold mX0_addInQuotes_b55
              refine po_some ?_
              refine po_ck (wt_isO hW h0 (by decide)) ?_
              refine po_w (tX5_add hW h0 h0m) (fun y32 g32 hW32 p32 => ?_)
              dsimp only
              exact po_ret ⟨rfl, hW32, trivial⟩
            · unfold mX0_addInQuotes_b55
              refine po_some ?_
              refine po_ck (wt_isO hW h0 (by decide)) ?_
              refine po_w (tX5_add hW h0 h0m) (fun y33 g33 hW33 p33 => ?_)
              dsimp only
              exact po_ret ⟨rfl, hW33, trivial⟩
set_option maxHeartbeats 1000000 in
theorem tX0_addEscaped_l3 {G : TE} {F0 : AH} {S : Int32} {n : Nat} : ∀ (d : Nat) (v0 : Option Nat) (v1 : Option Nat) (v2 : Int32) (v3 : Int32) (v4 : Int32) (f : AH), WT G F0 S f n → (∃ i, v0 = some i ∧ G.1 i = 5) → (∃ i, v1 = some i ∧ G.1 i = 5 ∧ i ≠ 1) → (0 ≤ v4.toInt ∧ v4.toInt ≤ 2000) → 3000 - v4.toInt < (d : Int) → PO (mX0_addEscaped_l3 d v0 v1 v2 v3 v4 f n) (fun v f' n' => n' = n ∧ WT G F0 S f' n ∧ (True)) := by
  intro d
  induction d with
  | zero =>
    intro v0 v1 v2 v3 v4 f hW h0 h1 h2  hm
    exfalso
    obtain ⟨iv0, rfl, h0⟩ := h0
    obtain ⟨iv1, rfl, h1, h1m⟩ := h1
    omega
  | succ d ih =>
    intro v0 v1 v2 v3 v4 f hW h0 h1 h2  hm
    obtain ⟨iv0, rfl, h0⟩ := h0
    obtain ⟨iv1, rfl, h1, h1m⟩ := h1
    show PO (((some iv0)).bind fun j1 => rCk (isO f j1 5) (((mX5_size j1 f n).bind fun r3 => (if r3.1 ≤ v4 then some ((0 : Int32), (r3.2.1, r3.2.2)) else rCk (isO r3.2.1 j1 5) (((mX5_get j1 v4 r3.2.1 r3.2.2).bind fun r6 => (if v2 = (0 : Int32) then (if v3 = (0 : Int32) then mX0_addEscaped_b68 (fun v0 v1 v2 v3 v4 f n => mX0_addEscaped_l3 d v0 v1 v2 v3 v4 f n) (some j1) (some iv1) v2 v3 v4 r6.1 (some iv1) r6.2.1 r6.2.2 else (if v4 = (0 : Int32) then mX0_addEscaped_b69 (fun v0 v1 v2 v3 v4 f n => mX0_addEscaped_l3 d v0 v1 v2 v3 v4 f n) (some j1) (some iv1) v2 v3 v4 r6.1 (some iv1) (1 : Int32) r6.2.1 r6.2.2 else mX0_addEscaped_b68 (fun v0 v1 v2 v3 v4 f n => mX0_addEscaped_l3 d v0 v1 v2 v3 v4 f n) (some j1) (some iv1) v2 v3 v4 r6.1 (some iv1) r6.2.1 r6.2.2)) else if v2 = (1 : Int32) then ((mX0_addDoubled r6.1 (some iv1) r6.2.1 r6.2.2).bind fun r8 => mX0_addEscaped_b109 (fun v0 v1 v2 v3 v4 f n => mX0_addEscaped_l3 d v0 v1 v2 v3 v4 f n) (some j1) (some iv1) v2 v3 v4 r8.2.1 r8.2.2) else if v2 = (2 : Int32) then ((mX0_addInMarkup r6.1 (some iv1) r6.2.1 r6.2.2).bind fun r9 => mX0_addEscaped_b109 (fun v0 v1 v2 v3 v4 f n => mX0_addEscaped_l3 d v0 v1 v2 v3 v4 f n) (some j1) (some iv1) v2 v3 v4 r9.2.1 r9.2.2) else if v2 = (3 : Int32) then ((mX0_addInQuotes r6.1 (some iv1) r6.2.1 r6.2.2).bind fun r10 => mX0_addEscaped_b109 (fun v0 v1 v2 v3 v4 f n => mX0_addEscaped_l3 d v0 v1 v2 v3 v4 f n) (some j1) (some iv1) v2 v3 v4 r10.2.1 r10.2.2) else (((some iv1)).bind fun j11 => rCk (isO r6.2.1 j11 5) (((mX5_add j11 r6.1 r6.2.1 r6.2.2).bind fun r13 => mX0_addEscaped_b109 (fun v0 v1 v2 v3 v4 f n => mX0_addEscaped_l3 d v0 v1 v2 v3 v4 f n) (some j1) (some j11) v2 v3 v4 r13.2.1 r13.2.2)))))))))) _
    refine po_some ?_
    refine po_ck (wt_isO hW h0 (by decide)) ?_
    refine po_ro (tX5_size hW h0) (fun y1 ex1 p1 => ?_)
    dsimp only
    refine po_le rfl rfl (fun q2 => ?_) (fun q2 => ?_)
    · exact po_ret ⟨rfl, hW, trivial⟩
    · refine po_ck (wt_isO hW h0 (by decide)) ?_
      refine po_ro (tX5_get hW h0) (fun y3 ex3 p3 => ?_)
      dsimp only
      refine po_eq (fun q4 => ?_) (fun q4 => ?_)
      · refine po_eq (fun q5 => ?_) (fun q5 => ?_)
        · unfold mX0_addEscaped_b68
          unfold mX0_addEscaped_b69
          refine po_w (tX0_addInLine hW ⟨_, rfl, h1, h1m⟩) (fun y6 g6 hW6 p6 => ?_)
          dsimp only
          unfold mX0_addEscaped_b109
          have e7 : (v4 + (1 : Int32)).toInt = v4.toInt + 1 := i_add rfl kt_1 (by omega)
          exact (ih (some iv0) (some iv1) v2 v3 (v4 + (1 : Int32)) g6 hW6 ⟨_, rfl, h0⟩ ⟨_, rfl, h1, h1m⟩ (by omega)  (by omega))
        · refine po_eq (fun q8 => ?_) (fun q8 => ?_)
          · unfold mX0_addEscaped_b69
            refine po_w (tX0_addInLine hW ⟨_, rfl, h1, h1m⟩) (fun y9 g9 hW9 p9 => ?_)
            dsimp only
            unfold mX0_addEscaped_b109
            have e10 : (v4 + (1 : Int32)).toInt = v4.toInt + 1 := i_add rfl kt_1 (by omega)
            exact (ih (some iv0) (some iv1) v2 v3 (v4 + (1 : Int32)) g9 hW9 ⟨_, rfl, h0⟩ ⟨_, rfl, h1, h1m⟩ (by omega)  (by omega))
          · unfold mX0_addEscaped_b68
            unfold mX0_addEscaped_b69
            refine po_w (tX0_addInLine hW ⟨_, rfl, h1, h1m⟩) (fun y11 g11 hW11 p11 => ?_)
            dsimp only
            unfold mX0_addEscaped_b109
            have e12 : (v4 + (1 : Int32)).toInt = v4.toInt + 1 := i_add rfl kt_1 (by omega)
            exact (ih (some iv0) (some iv1) v2 v3 (v4 + (1 : Int32)) g11 hW11 ⟨_, rfl, h0⟩ ⟨_, rfl, h1, h1m⟩ (by omega)  (by omega))
      · refine po_eq (fun q13 => ?_) (fun q13 => ?_)
        · refine po_w (tX0_addDoubled hW ⟨_, rfl, h1, h1m⟩) (fun y14 g14 hW14 p14 => ?_)
          dsimp only
          unfold mX0_addEscaped_b109
          have e15 : (v4 + (1 : Int32)).toInt = v4.toInt + 1 := i_add rfl kt_1 (by omega)
          exact (ih (some iv0) (some iv1) v2 v3 (v4 + (1 : Int32)) g14 hW14 ⟨_, rfl, h0⟩ ⟨_, rfl, h1, h1m⟩ (by omega)  (by omega))
        · refine po_eq (fun q16 => ?_) (fun q16 => ?_)
          · refine po_w (tX0_addInMarkup hW ⟨_, rfl, h1, h1m⟩) (fun y17 g17 hW17 p17 => ?_)
            dsimp only
            unfold mX0_addEscaped_b109
            have e18 : (v4 + (1 : Int32)).toInt = v4.toInt + 1 := i_add rfl kt_1 (by omega)
            exact (ih (some iv0) (some iv1) v2 v3 (v4 + (1 : Int32)) g17 hW17 ⟨_, rfl, h0⟩ ⟨_, rfl, h1, h1m⟩ (by omega)  (by omega))
          · refine po_eq (fun q19 => ?_) (fun q19 => ?_)
            · refine po_w (tX0_addInQuotes hW ⟨_, rfl, h1, h1m⟩) (fun y20 g20 hW20 p20 => ?_)
              dsimp only
              unfold mX0_addEscaped_b109
              have e21 : (v4 + (1 : Int32)).toInt = v4.toInt + 1 := i_add rfl kt_1 (by omega)
              exact (ih (some iv0) (some iv1) v2 v3 (v4 + (1 : Int32)) g20 hW20 ⟨_, rfl, h0⟩ ⟨_, rfl, h1, h1m⟩ (by omega)  (by omega))
            · refine po_some ?_
              refine po_ck (wt_isO hW h1 (by decide)) ?_
              refine po_w (tX5_add hW h1 h1m) (fun y22 g22 hW22 p22 => ?_)
              dsimp only
              unfold mX0_addEscaped_b109
              have e23 : (v4 + (1 : Int32)).toInt = v4.toInt + 1 := i_add rfl kt_1 (by omega)
              exact (ih (some iv0) (some iv1) v2 v3 (v4 + (1 : Int32)) g22 hW22 ⟨_, rfl, h0⟩ ⟨_, rfl, h1, h1m⟩ (by omega)  (by omega))
set_option maxHeartbeats 1000000 in
theorem tX0_addEscaped {G : TE} {F0 : AH} {S : Int32} {f : AH} {n : Nat} {v0 : Option Nat} {v1 : Option Nat} {v2 : Int32} {v3 : Int32} (hW : WT G F0 S f n) (h0 : (∃ i, v0 = some i ∧ G.1 i = 5)) (h1 : (∃ i, v1 = some i ∧ G.1 i = 5 ∧ i ≠ 1)) : PO (mX0_addEscaped v0 v1 v2 v3 f n) (fun v f' n' => n' = n ∧ WT G F0 S f' n ∧ (True)) := by
  obtain ⟨iv0, rfl, h0⟩ := h0
  obtain ⟨iv1, rfl, h1, h1m⟩ := h1
  have k_kt_0 := kt_0
  unfold mX0_addEscaped
  exact (tX0_addEscaped_l3 rFU (some iv0) (some iv1) v2 v3 (0 : Int32) f hW ⟨_, rfl, h0⟩ ⟨_, rfl, h1, h1m⟩ (by omega)  (by unfold rFU; omega))
set_option maxHeartbeats 1000000 in
theorem tX0_escape_b163 {G : TE} {F0 : AH} {S : Int32} {f : AH} {n : Nat} {v0 : Nat} {v2 : Option Nat} {v3 : Option Nat} {v4 : Int32} (hW : WT G F0 S f n) (h0 : G.1 v0 = 0) (h1 : (∃ i, v2 = some i ∧ G.1 i = 3)) (h2 : (∃ i, v3 = some i ∧ G.1 i = 7)) : PO (mX0_escape_b163 v0 v2 v3 v4 f n) (fun v f' n' => n' = n ∧ WT G F0 S f' n ∧ (v = 0 ∨ v = 1)) := by
  obtain ⟨iv2, rfl, h1⟩ := h1
  obtain ⟨iv3, rfl, h2⟩ := h2
  unfold mX0_escape_b163
  refine po_eq (fun q1 => ?_) (fun q1 => ?_)
  · refine po_gRm hW h0 rfl rfl (fun i2 ex2 hi2 hm2 => ?_)
    refine po_gRm hW h0 rfl rfl (fun i3 ex3 hi3 hm3 => ?_)
    refine po_some ?_
    refine po_gI hW h2 rfl rfl (by decide) (fun x4x ex4 (_ : True) => ?_)
    refine po_some ?_
    refine po_gI hW h1 rfl rfl (by decide) (fun x5x ex5 (hx5 : x5x = 0 ∨ x5x = 1) => ?_)
    refine po_w (tX0_addEscaped hW ⟨_, rfl, hi2⟩ ⟨_, rfl, hi3, hm3⟩) (fun y6 g6 hW6 p6 => ?_)
    dsimp only
    refine po_ck rfl ?_
    exact po_ret ⟨rfl, hW6, (Or.inr rfl)⟩
  · refine po_gRm hW h0 rfl rfl (fun i7 ex7 hi7 hm7 => ?_)
    refine po_some ?_
    refine po_ck (wt_isO hW hi7 (by decide)) ?_
    refine po_ro (tX5_breaksCell hW hi7) (fun y8 ex8 p8 => ?_)
    dsimp only
    refine po_eq (fun q9 => ?_) (fun q9 => ?_)
    · refine po_gRm hW h0 rfl rfl (fun i10 ex10 hi10 hm10 => ?_)
      refine po_bind ex7 ?_
      refine po_bind ex7 ?_
      refine po_some ?_
      refine po_ck (wt_isO hW hi7 (by decide)) ?_
      refine po_ro (tX5_size hW hi7) (fun y11 ex11 p11 => ?_)
      dsimp only
      refine po_some ?_
      refine po_ck (wt_isO hW hi10 (by decide)) ?_
      refine po_w (tX5_addPart hW hi10 hm10 ⟨_, rfl, hi7⟩) (fun y12 g12 hW12 p12 => ?_)
      dsimp only
      refine po_ck (nb_of p12) ?_
      exact po_ret ⟨rfl, hW12, p12⟩
    · refine po_pI hW h0 rfl rfl (vv_i (by decide) trivial) (fun g13 hW13 ex13 => ?_)
      refine po_gRm hW13 h0 rfl rfl (fun i14 ex14 hi14 hm14 => ?_)
      refine po_some ?_
      refine po_ck (wt_isO hW13 hi14 (by decide)) ?_
      refine po_w (tX5_add hW13 hi14 hm14) (fun y15 g15 hW15 p15 => ?_)
      dsimp only
      refine po_gRm hW15 h0 rfl rfl (fun i16 ex16 hi16 hm16 => ?_)
      refine po_gRm hW15 h0 rfl rfl (fun i17 ex17 hi17 hm17 => ?_)
      refine po_w (tX0_addEscaped hW15 ⟨_, rfl, hi16⟩ ⟨_, rfl, hi17, hm17⟩) (fun y18 g18 hW18 p18 => ?_)
      dsimp only
      refine po_gRm hW18 h0 rfl rfl (fun i19 ex19 hi19 hm19 => ?_)
      refine po_some ?_
      refine po_ck (wt_isO hW18 hi19 (by decide)) ?_
      refine po_w (tX5_add hW18 hi19 hm19) (fun y20 g20 hW20 p20 => ?_)
      dsimp only
      refine po_some ?_
      refine po_gI hW20 h2 rfl rfl (by decide) (fun x21x ex21 (_ : True) => ?_)
      refine po_eq (fun q22 => ?_) (fun q22 => ?_)
      · unfold mX0_escape_b270
        refine po_ck (nb_of (Or.inr rfl)) ?_
        exact po_ret ⟨rfl, hW20, (Or.inr rfl)⟩
      · unfold mX0_escape_b270
        refine po_ck (nb_of (Or.inl rfl)) ?_
        exact po_ret ⟨rfl, hW20, (Or.inl rfl)⟩
set_option maxHeartbeats 1000000 in
theorem tX0_escape_b141 {G : TE} {F0 : AH} {S : Int32} {f : AH} {n : Nat} {v0 : Nat} {v1 : Option Nat} {v2 : Option Nat} {v3 : Option Nat} {v4 : Int32} {v5 : Int32} (hW : WT G F0 S f n) (h0 : G.1 v0 = 0) (h1 : (∃ i, v1 = some i ∧ G.1 i = 5)) (h2 : (∃ i, v2 = some i ∧ G.1 i = 3)) (h3 : (∃ i, v3 = some i ∧ G.1 i = 7)) : PO (mX0_escape_b141 v0 v1 v2 v3 v4 v5 f n) (fun v f' n' => n' = n ∧ WT G F0 S f' n ∧ (v = 0 ∨ v = 1)) := by
  obtain ⟨iv1, rfl, h1⟩ := h1
  obtain ⟨iv2, rfl, h2⟩ := h2
  obtain ⟨iv3, rfl, h3⟩ := h3
  unfold mX0_escape_b141
  refine po_gRm hW h0 rfl rfl (fun i1 ex1 hi1 hm1 => ?_)
  refine po_eq (fun q2 => ?_) (fun q2 => ?_)
  · refine po_some ?_
    refine po_gI hW h3 rfl rfl (by decide) (fun x3x ex3 (_ : True) => ?_)
    unfold mX0_escape_b159
    refine po_w (tX0_addEscaped hW ⟨_, rfl, h1⟩ ⟨_, rfl, hi1, hm1⟩) (fun y4 g4 hW4 p4 => ?_)
    dsimp only
    exact (tX0_escape_b163 hW4 h0 ⟨_, rfl, h2⟩ ⟨_, rfl, h3⟩)
  · unfold mX0_escape_b159
    refine po_w (tX0_addEscaped hW ⟨_, rfl, h1⟩ ⟨_, rfl, hi1, hm1⟩) (fun y5 g5 hW5 p5 => ?_)
    dsimp only
    exact (tX0_escape_b163 hW5 h0 ⟨_, rfl, h2⟩ ⟨_, rfl, h3⟩)
set_option maxHeartbeats 1000000 in
theorem tX0_escape_b69 {G : TE} {F0 : AH} {S : Int32} {f : AH} {n : Nat} {v0 : Nat} {v1 : Option Nat} {v2 : Option Nat} {v3 : Option Nat} {v4 : Int32} {s0 : Int32} (hW : WT G F0 S f n) (h0 : G.1 v0 = 0) (h1 : (∃ i, v1 = some i ∧ G.1 i = 5)) (h2 : (∃ i, v2 = some i ∧ G.1 i = 3)) (h3 : (∃ i, v3 = some i ∧ G.1 i = 7)) : PO (mX0_escape_b69 v0 v1 v2 v3 v4 s0 f n) (fun v f' n' => n' = n ∧ WT G F0 S f' n ∧ (v = 0 ∨ v = 1)) := by
  obtain ⟨iv1, rfl, h1⟩ := h1
  obtain ⟨iv2, rfl, h2⟩ := h2
  obtain ⟨iv3, rfl, h3⟩ := h3
  unfold mX0_escape_b69
  refine po_eq (fun q1 => ?_) (fun q1 => ?_)
  · exact (tX0_escape_b141 hW h0 ⟨_, rfl, h1⟩ ⟨_, rfl, h2⟩ ⟨_, rfl, h3⟩)
  · refine po_some ?_
    refine po_ck (wt_isO hW h1 (by decide)) ?_
    refine po_ro (tX5_breaksCell hW h1) (fun y2 ex2 p2 => ?_)
    dsimp only
    refine po_eq (fun q3 => ?_) (fun q3 => ?_)
    · exact (tX0_escape_b141 hW h0 ⟨_, rfl, h1⟩ ⟨_, rfl, h2⟩ ⟨_, rfl, h3⟩)
    · refine po_gRm hW h0 rfl rfl (fun i4 ex4 hi4 hm4 => ?_)
      refine po_some ?_
      refine po_ck (wt_isO hW hi4 (by decide)) ?_
      refine po_w (tX5_add hW hi4 hm4) (fun y5 g5 hW5 p5 => ?_)
      dsimp only
      refine po_gRm hW5 h0 rfl rfl (fun i6 ex6 hi6 hm6 => ?_)
      refine po_w (tX0_addEscaped hW5 ⟨_, rfl, h1⟩ ⟨_, rfl, hi6, hm6⟩) (fun y7 g7 hW7 p7 => ?_)
      dsimp only
      refine po_gRm hW7 h0 rfl rfl (fun i8 ex8 hi8 hm8 => ?_)
      refine po_some ?_
      refine po_ck (wt_isO hW7 hi8 (by decide)) ?_
      refine po_w (tX5_add hW7 hi8 hm8) (fun y9 g9 hW9 p9 => ?_)
      dsimp only
      refine po_some ?_
      refine po_gI hW9 h3 rfl rfl (by decide) (fun x10x ex10 (_ : True) => ?_)
      refine po_eq (fun q11 => ?_) (fun q11 => ?_)
      · unfold mX0_escape_b130
        unfold mX0_escape_b135
        refine po_pI hW9 h0 rfl rfl (vv_i (by decide) trivial) (fun g12 hW12 ex12 => ?_)
        exact (tX0_escape_b163 hW12 h0 ⟨_, rfl, h2⟩ ⟨_, rfl, h3⟩)
      · refine po_bind ex10 ?_
        refine po_eq (fun q13 => ?_) (fun q13 => ?_)
        · unfold mX0_escape_b130
          unfold mX0_escape_b135
          refine po_pI hW9 h0 rfl rfl (vv_i (by decide) trivial) (fun g14 hW14 ex14 => ?_)
          exact (tX0_escape_b163 hW14 h0 ⟨_, rfl, h2⟩ ⟨_, rfl, h3⟩)
        · unfold mX0_escape_b135
          refine po_pI hW9 h0 rfl rfl (vv_i (by decide) trivial) (fun g15 hW15 ex15 => ?_)
          exact (tX0_escape_b163 hW15 h0 ⟨_, rfl, h2⟩ ⟨_, rfl, h3⟩)
set_option maxHeartbeats 1000000 in
theorem tX0_escape_b47 {G : TE} {F0 : AH} {S : Int32} {f : AH} {n : Nat} {v0 : Nat} {v1 : Option Nat} {v2 : Option Nat} {v3 : Option Nat} {s0 : Int32} (hW : WT G F0 S f n) (h0 : G.1 v0 = 0) (h1 : (∃ i, v1 = some i ∧ G.1 i = 5)) (h2 : (∃ i, v2 = some i ∧ G.1 i = 3)) (h3 : (∃ i, v3 = some i ∧ G.1 i = 7)) : PO (mX0_escape_b47 v0 v1 v2 v3 s0 f n) (fun v f' n' => n' = n ∧ WT G F0 S f' n ∧ (v = 0 ∨ v = 1)) := by
  obtain ⟨iv1, rfl, h1⟩ := h1
  obtain ⟨iv2, rfl, h2⟩ := h2
  obtain ⟨iv3, rfl, h3⟩ := h3
  unfold mX0_escape_b47
  refine po_some ?_
  refine po_gI hW h3 rfl rfl (by decide) (fun x1x ex1 (_ : True) => ?_)
  refine po_eq (fun q2 => ?_) (fun q2 => ?_)
  · refine po_some ?_
    refine po_gI hW h2 rfl rfl (by decide) (fun x3x ex3 (hx3 : x3x = 0 ∨ x3x = 1) => ?_)
    refine po_eq (fun q4 => ?_) (fun q4 => ?_)
    · exact (tX0_escape_b69 hW h0 ⟨_, rfl, h1⟩ ⟨_, rfl, h2⟩ ⟨_, rfl, h3⟩)
    · unfold mX0_escape_b68
      exact (tX0_escape_b69 hW h0 ⟨_, rfl, h1⟩ ⟨_, rfl, h2⟩ ⟨_, rfl, h3⟩)
  · unfold mX0_escape_b68
    exact (tX0_escape_b69 hW h0 ⟨_, rfl, h1⟩ ⟨_, rfl, h2⟩ ⟨_, rfl, h3⟩)
set_option maxHeartbeats 1000000 in
theorem tX0_escape {G : TE} {F0 : AH} {S : Int32} {f : AH} {n : Nat} {v0 : Nat} {v1 : Option Nat} {v2 : Option Nat} {v3 : Option Nat} (hW : WT G F0 S f n) (h0 : G.1 v0 = 0) (h1 : (∃ i, v1 = some i ∧ G.1 i = 5)) (h2 : (∀ i, v2 = some i → G.1 i = 3)) (h3 : (∃ i, v3 = some i ∧ G.1 i = 7)) : PO (mX0_escape v0 v1 v2 v3 f n) (fun v f' n' => n' = n ∧ WT G F0 S f' n ∧ (v = 0 ∨ v = 1)) := by
  obtain ⟨iv1, rfl, h1⟩ := h1
  obtain ⟨iv3, rfl, h3⟩ := h3
  unfold mX0_escape
  refine po_oN (fun q2 => ?_) (fun i1 q2 => ?_)
  · subst q2
    refine po_ck rfl ?_
    exact po_ret ⟨rfl, hW, (Or.inl rfl)⟩
  · subst q2
    refine po_pI hW h0 rfl rfl (vv_i (by decide) trivial) (fun g3 hW3 ex3 => ?_)
    refine po_gRm hW3 h0 rfl rfl (fun i4 ex4 hi4 hm4 => ?_)
    refine po_some ?_
    refine po_ck (wt_isO hW3 hi4 (by decide)) ?_
    refine po_w (tX5_cutTo hW3 hi4 hm4) (fun y5 g5 hW5 p5 => ?_)
    dsimp only
    refine po_gRm hW5 h0 rfl rfl (fun i6 ex6 hi6 hm6 => ?_)
    refine po_some ?_
    refine po_ck (wt_isO hW5 hi6 (by decide)) ?_
    refine po_w (tX5_cutTo hW5 hi6 hm6) (fun y7 g7 hW7 p7 => ?_)
    dsimp only
    refine po_some ?_
    refine po_gI hW7 h3 rfl rfl (by decide) (fun x8x ex8 (_ : True) => ?_)
    refine po_eq (fun q9 => ?_) (fun q9 => ?_)
    · refine po_gI hW7 (h2 i1 rfl) rfl rfl (by decide) (fun x10x ex10 (hx10 : x10x = 0 ∨ x10x = 1) => ?_)
      refine po_eq (fun q11 => ?_) (fun q11 => ?_)
      · exact (tX0_escape_b47 hW7 h0 ⟨_, rfl, h1⟩ ⟨_, rfl, (h2 i1 rfl)⟩ ⟨_, rfl, h3⟩)
      · unfold mX0_escape_b46
        exact (tX0_escape_b47 hW7 h0 ⟨_, rfl, h1⟩ ⟨_, rfl, (h2 i1 rfl)⟩ ⟨_, rfl, h3⟩)
    · unfold mX0_escape_b46
      exact (tX0_escape_b47 hW7 h0 ⟨_, rfl, h1⟩ ⟨_, rfl, (h2 i1 rfl)⟩ ⟨_, rfl, h3⟩)
end
