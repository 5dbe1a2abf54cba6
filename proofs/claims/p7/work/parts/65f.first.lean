/-! the first heap: typed -/
def vId : (c : Nat) → (x : Int32) → Decidable (vI c x)
  | 0, _ => inferInstanceAs (Decidable True)
  | 1, x => inferInstanceAs (Decidable (x = 0 ∨ x = 1))
  | 2, x => inferInstanceAs (Decidable (0 ≤ x.toInt ∧ x.toInt ≤ 700))
  | 3, x => inferInstanceAs (Decidable (0 ≤ x.toInt ∧ x.toInt ≤ 40))
  | 4, x => inferInstanceAs (Decidable (0 ≤ x.toInt ∧ x.toInt ≤ 12))
  | 5, x => inferInstanceAs (Decidable (0 ≤ x.toInt ∧ x.toInt ≤ 600))
  | 6, x => inferInstanceAs (Decidable (-700 ≤ x.toInt ∧ x.toInt ≤ 700))
  | 7, x => inferInstanceAs (Decidable (0 ≤ x.toInt ∧ x.toInt ≤ 5))
  | 8, x => inferInstanceAs (Decidable (0 ≤ x.toInt ∧ x.toInt ≤ 2000))
  | 9, x => inferInstanceAs (Decidable (-1 ≤ x.toInt ∧ x.toInt ≤ 702))
  | 10, x => inferInstanceAs (Decidable (0 ≤ x.toInt ∧ x.toInt ≤ 702))
  | _ + 11, _ => inferInstanceAs (Decidable True)
def cR (Γ : Nat → Nat) (c : Nat) (w : Option Nat) : Bool := if c = 301 then decide (w = some 1) else if c = 306 then (match w with
  | none => false
  | some j => decide (Γ j = 5 ∧ j ≠ 1)) else if c < 200 then (match w with
  | none => false
  | some j => decide (Γ j = c - 100)) else (match w with
  | none => true
  | some j => decide (Γ j = c - 200))
theorem cR_ok {Γ : Nat → Nat} {c : Nat} {w : Option Nat} (h : cR Γ c w = true) : vR Γ c w := by
  unfold cR at h
  unfold vR
  by_cases h1 : c = 301
  · rw [if_pos h1] at h ⊢; exact of_decide_eq_true h
  · rw [if_neg h1] at h ⊢
    by_cases h2 : c = 306
    · rw [if_pos h2] at h ⊢
      cases w with
      | none => cases h
      | some j => exact ⟨j, rfl, of_decide_eq_true h⟩
    · rw [if_neg h2] at h ⊢
      by_cases h3 : c < 200
      · rw [if_pos h3] at h ⊢
        cases w with
        | none => cases h
        | some j => exact ⟨j, rfl, of_decide_eq_true h⟩
      · rw [if_neg h3] at h ⊢
        cases w with
        | none => exact fun j e => by cases e
        | some j => exact fun i e => by cases e; exact of_decide_eq_true h
def cV (Γ : Nat → Nat) (c : Nat) : Value → Bool
  | .int x => decide (c < 100) && @decide (vI c x) (vId c x)
  | .ref j => decide (100 ≤ c) && cR Γ c (some j)
  | .null => decide (100 ≤ c) && cR Γ c none
  | _ => false
theorem cV_ok {Γ : Nat → Nat} {c : Nat} {v : Value} (h : cV Γ c v = true) : vV Γ c v := by
  cases v with
  | int x =>
    have h2 : (decide (c < 100) && @decide (vI c x) (vId c x)) = true := h
    rw [Bool.and_eq_true] at h2
    exact Or.inl ⟨of_decide_eq_true h2.1, x, rfl, @of_decide_eq_true _ (vId c x) h2.2⟩
  | ref j =>
    have h2 : (decide (100 ≤ c) && cR Γ c (some j)) = true := h
    rw [Bool.and_eq_true] at h2
    exact Or.inr ⟨of_decide_eq_true h2.1, some j, rfl, cR_ok h2.2⟩
  | null =>
    have h2 : (decide (100 ≤ c) && cR Γ c none) = true := h
    rw [Bool.and_eq_true] at h2
    exact Or.inr ⟨of_decide_eq_true h2.1, none, rfl, cR_ok h2.2⟩
  | _ => cases h
def cRow (G : TE) (j : Nat) : List Value → Bool
  | [.ref r, .int s] => decide (r = G.2 j ∧ s = 0 ∧ 1000 ≤ G.1 r ∧ G.1 r ≤ 1600 ∧ (j = 1 → G.1 r = 1400))
  | _ => false
theorem cRow_ok {G : TE} {j : Nat} {fs : List Value} (h : cRow G j fs = true) : fs = [.ref (G.2 j), .int 0] ∧ 1000 ≤ G.1 (G.2 j) ∧ G.1 (G.2 j) ≤ 1600 ∧ (j = 1 → G.1 (G.2 j) = 1400) := by
  unfold cRow at h
  split at h
  · rename_i r s
    obtain ⟨e, e0, h1, h2, h3⟩ := of_decide_eq_true h
    subst e e0
    exact ⟨rfl, h1, h2, h3⟩
  · cases h
def cE (G : TE) (j : Nat) : Option AE → Bool
  | some (.inl (t, n, .inl _)) => decide (G.1 j = n + 1000 ∧ t = 0)
  | some (.inl (t, n, .inr (.inr g))) => decide (10 ≤ G.1 j ∧ G.1 j ≤ 13 ∧ (aT (G.1 j)).1 = t ∧ (aT (G.1 j)).2.1 = n) && (List.range n).all (fun i => cR G.1 (aT (G.1 j)).2.2 (g i))
  | some (.inl (_, _, .inr (.inl _))) => false
  | some (.inr (c, fs)) => if c = 5 then decide (G.1 j = 5) && cRow G j fs else decide (G.1 j = c ∧ c < 9 ∧ fs.length = (fT c).length) && (List.range (fT c).length).all (fun k => match fs[k]? with
    | some v => cV G.1 ((fT c).getD k 0) v
    | none => false)
  | none => false
theorem cE_ok {G : TE} {f : AH} {j : Nat} (h : cE G j (f j) = true) : okC G 0 f j := by
  unfold okC
  cases e : f j with
  | none => rw [e] at h; cases h
  | some a =>
    rw [e] at h
    cases a with
    | inl q =>
      obtain ⟨t, n, a⟩ := q
      cases a with
      | inl g =>
        obtain ⟨h1, h2⟩ := of_decide_eq_true (show decide (G.1 j = n + 1000 ∧ t = 0) = true from h)
        subst h2
        refine ⟨fun q => by omega, fun q => by omega, fun q => by omega, fun q => ⟨g, ?_⟩⟩
        rw [h1, Nat.add_sub_cancel]
      | inr a =>
        cases a with
        | inl g => cases h
        | inr g =>
          have h2 : (decide (10 ≤ G.1 j ∧ G.1 j ≤ 13 ∧ (aT (G.1 j)).1 = t ∧ (aT (G.1 j)).2.1 = n) && (List.range n).all (fun i => cR G.1 (aT (G.1 j)).2.2 (g i))) = true := h
          rw [Bool.and_eq_true] at h2
          obtain ⟨h3, h4, h5, h6⟩ := of_decide_eq_true h2.1
          refine ⟨fun q => by omega, fun q => by omega, fun _ _ => ⟨g, by rw [h5, h6], fun i hi => ?_⟩, fun q => by omega⟩
          rw [h6] at hi
          exact cR_ok (List.all_eq_true.mp h2.2 i (List.mem_range.mpr hi))
    | inr q =>
      obtain ⟨c, fs⟩ := q
      by_cases hc : c = 5
      · have h2 : (if c = 5 then decide (G.1 j = 5) && cRow G j fs else _) = true := h
        rw [if_pos hc, Bool.and_eq_true] at h2
        have h3 : G.1 j = 5 := of_decide_eq_true h2.1
        obtain ⟨h4, h5, h6, h7⟩ := cRow_ok h2.2
        refine ⟨fun _ => ⟨0, by rw [hc, h4], h5, h6, by decide, by rw [kt_0]; omega, fun q => ⟨rfl, h7 q⟩⟩, fun q q2 => absurd h3 q2, fun q => by omega, fun q => by omega⟩
      · have h2 : (if c = 5 then _ else (decide (G.1 j = c ∧ c < 9 ∧ fs.length = (fT c).length) && (List.range (fT c).length).all (fun k => match fs[k]? with
    | some v => cV G.1 ((fT c).getD k 0) v
    | none => false))) = true := h
        rw [if_neg hc, Bool.and_eq_true] at h2
        obtain ⟨h3, h4, h5⟩ := of_decide_eq_true h2.1
        refine ⟨fun q => by omega, fun _ _ => ⟨fs, by rw [h3], by rw [h3]; exact h5, fun k hk => ?_⟩, fun q => by omega, fun q => by omega⟩
        rw [h3] at hk ⊢
        have h6 := List.all_eq_true.mp h2.2 k (List.mem_range.mpr hk)
        cases e2 : fs[k]? with
        | none => simp only [e2] at h6; cases h6
        | some v => simp only [e2] at h6; exact ⟨v, rfl, cV_ok h6⟩
def LL : List (Nat × AE) := [(0, .inr (8, [.ref 1, .ref 3, .ref 8, .ref 13, .ref 18, .ref 59, .ref 115, .ref 171, .ref 178, .int 0, .int 0, .int 0, .int 0, .int (-1)])), (179, .inr (5, [.ref 180, .int 0])), (180, .inl (0, 0, .inl (fun _ => 0))), (178, .inr (4, [.int 0, .int 0, .int 0, .int 0, .int 0, .null, .int 0, .ref 179])), (172, .inr (5, [.ref 173, .int 0])), (173, .inl (0, 600, .inl (fun _ => 0))), (174, .inr (5, [.ref 175, .int 0])), (175, .inl (0, 540, .inl (fun _ => 0))), (176, .inr (5, [.ref 177, .int 0])), (177, .inl (0, 540, .inl (fun _ => 0))), (171, .inr (0, [.ref 172, .ref 174, .ref 176, .int 0])), (116, .inr (5, [.ref 117, .int 0])), (117, .inl (0, 600, .inl (fun _ => 0))), (118, .inr (5, [.ref 119, .int 0])), (119, .inl (0, 600, .inl (fun _ => 0))), (120, .inr (5, [.ref 121, .int 0])), (121, .inl (0, 600, .inl (fun _ => 0))), (122, .inr (5, [.ref 123, .int 0])), (123, .inl (0, 600, .inl (fun _ => 0))), (124, .inr (6, [.ref 125, .int 0, .int 0, .int 0, .int 0, .int 0, .int 0, .int 0, .int 0, .int 0])), (126, .inl (0, 0, .inl (fun _ => 0))), (125, .inr (5, [.ref 126, .int 0])), (127, .inr (6, [.ref 128, .int 0, .int 0, .int 0, .int 0, .int 0, .int 0, .int 0, .int 0, .int 0])), (129, .inl (0, 0, .inl (fun _ => 0))), (128, .inr (5, [.ref 129, .int 0])), (130, .inl (1, 40, .inr (.inr (va_up (va_up (va_up (va_up (va_up (va_up (va_up (va_up (va_up (va_up (va_up (va_up (va_up (va_up (va_up (va_up (va_up (va_up (va_up (va_up (va_up (va_up (va_up (va_up (va_up (va_up (va_up (va_up (va_up (va_up (va_up (va_up (va_up (va_up (va_up (va_up (va_up (va_up (va_up (va_up (fun _ => none) 0 (some 131)) 1 (some 132)) 2 (some 133)) 3 (some 134)) 4 (some 135)) 5 (some 136)) 6 (some 137)) 7 (some 138)) 8 (some 139)) 9 (some 140)) 10 (some 141)) 11 (some 142)) 12 (some 143)) 13 (some 144)) 14 (some 145)) 15 (some 146)) 16 (some 147)) 17 (some 148)) 18 (some 149)) 19 (some 150)) 20 (some 151)) 21 (some 152)) 22 (some 153)) 23 (some 154)) 24 (some 155)) 25 (some 156)) 26 (some 157)) 27 (some 158)) 28 (some 159)) 29 (some 160)) 30 (some 161)) 31 (some 162)) 32 (some 163)) 33 (some 164)) 34 (some 165)) 35 (some 166)) 36 (some 167)) 37 (some 168)) 38 (some 169)) 39 (some 170))))), (131, .inr (3, [.int 0, .int 0, .int 0, .int 0, .int 0, .int 0, .int 0, .int 0, .int 0, .int 0, .int 0, .int 0])), (132, .inr (3, [.int 0, .int 0, .int 0, .int 0, .int 0, .int 0, .int 0, .int 0, .int 0, .int 0, .int 0, .int 0])), (133, .inr (3, [.int 0, .int 0, .int 0, .int 0, .int 0, .int 0, .int 0, .int 0, .int 0, .int 0, .int 0, .int 0])), (134, .inr (3, [.int 0, .int 0, .int 0, .int 0, .int 0, .int 0, .int 0, .int 0, .int 0, .int 0, .int 0, .int 0])), (135, .inr (3, [.int 0, .int 0, .int 0, .int 0, .int 0, .int 0, .int 0, .int 0, .int 0, .int 0, .int 0, .int 0])), (136, .inr (3, [.int 0, .int 0, .int 0, .int 0, .int 0, .int 0, .int 0, .int 0, .int 0, .int 0, .int 0, .int 0])), (137, .inr (3, [.int 0, .int 0, .int 0, .int 0, .int 0, .int 0, .int 0, .int 0, .int 0, .int 0, .int 0, .int 0])), (138, .inr (3, [.int 0, .int 0, .int 0, .int 0, .int 0, .int 0, .int 0, .int 0, .int 0, .int 0, .int 0, .int 0])), (139, .inr (3, [.int 0, .int 0, .int 0, .int 0, .int 0, .int 0, .int 0, .int 0, .int 0, .int 0, .int 0, .int 0])), (140, .inr (3, [.int 0, .int 0, .int 0, .int 0, .int 0, .int 0, .int 0, .int 0, .int 0, .int 0, .int 0, .int 0])), (141, .inr (3, [.int 0, .int 0, .int 0, .int 0, .int 0, .int 0, .int 0, .int 0, .int 0, .int 0, .int 0, .int 0])), (142, .inr (3, [.int 0, .int 0, .int 0, .int 0, .int 0, .int 0, .int 0, .int 0, .int 0, .int 0, .int 0, .int 0])), (143, .inr (3, [.int 0, .int 0, .int 0, .int 0, .int 0, .int 0, .int 0, .int 0, .int 0, .int 0, .int 0, .int 0])), (144, .inr (3, [.int 0, .int 0, .int 0, .int 0, .int 0, .int 0, .int 0, .int 0, .int 0, .int 0, .int 0, .int 0])), (145, .inr (3, [.int 0, .int 0, .int 0, .int 0, .int 0, .int 0, .int 0, .int 0, .int 0, .int 0, .int 0, .int 0])), (146, .inr (3, [.int 0, .int 0, .int 0, .int 0, .int 0, .int 0, .int 0, .int 0, .int 0, .int 0, .int 0, .int 0])), (147, .inr (3, [.int 0, .int 0, .int 0, .int 0, .int 0, .int 0, .int 0, .int 0, .int 0, .int 0, .int 0, .int 0])), (148, .inr (3, [.int 0, .int 0, .int 0, .int 0, .int 0, .int 0, .int 0, .int 0, .int 0, .int 0, .int 0, .int 0])), (149, .inr (3, [.int 0, .int 0, .int 0, .int 0, .int 0, .int 0, .int 0, .int 0, .int 0, .int 0, .int 0, .int 0])), (150, .inr (3, [.int 0, .int 0, .int 0, .int 0, .int 0, .int 0, .int 0, .int 0, .int 0, .int 0, .int 0, .int 0])), (151, .inr (3, [.int 0, .int 0, .int 0, .int 0, .int 0, .int 0, .int 0, .int 0, .int 0, .int 0, .int 0, .int 0])), (152, .inr (3, [.int 0, .int 0, .int 0, .int 0, .int 0, .int 0, .int 0, .int 0, .int 0, .int 0, .int 0, .int 0])), (153, .inr (3, [.int 0, .int 0, .int 0, .int 0, .int 0, .int 0, .int 0, .int 0, .int 0, .int 0, .int 0, .int 0])), (154, .inr (3, [.int 0, .int 0, .int 0, .int 0, .int 0, .int 0, .int 0, .int 0, .int 0, .int 0, .int 0, .int 0])), (155, .inr (3, [.int 0, .int 0, .int 0, .int 0, .int 0, .int 0, .int 0, .int 0, .int 0, .int 0, .int 0, .int 0])), (156, .inr (3, [.int 0, .int 0, .int 0, .int 0, .int 0, .int 0, .int 0, .int 0, .int 0, .int 0, .int 0, .int 0])), (157, .inr (3, [.int 0, .int 0, .int 0, .int 0, .int 0, .int 0, .int 0, .int 0, .int 0, .int 0, .int 0, .int 0])), (158, .inr (3, [.int 0, .int 0, .int 0, .int 0, .int 0, .int 0, .int 0, .int 0, .int 0, .int 0, .int 0, .int 0])), (159, .inr (3, [.int 0, .int 0, .int 0, .int 0, .int 0, .int 0, .int 0, .int 0, .int 0, .int 0, .int 0, .int 0])), (160, .inr (3, [.int 0, .int 0, .int 0, .int 0, .int 0, .int 0, .int 0, .int 0, .int 0, .int 0, .int 0, .int 0])), (161, .inr (3, [.int 0, .int 0, .int 0, .int 0, .int 0, .int 0, .int 0, .int 0, .int 0, .int 0, .int 0, .int 0])), (162, .inr (3, [.int 0, .int 0, .int 0, .int 0, .int 0, .int 0, .int 0, .int 0, .int 0, .int 0, .int 0, .int 0])), (163, .inr (3, [.int 0, .int 0, .int 0, .int 0, .int 0, .int 0, .int 0, .int 0, .int 0, .int 0, .int 0, .int 0])), (164, .inr (3, [.int 0, .int 0, .int 0, .int 0, .int 0, .int 0, .int 0, .int 0, .int 0, .int 0, .int 0, .int 0])), (165, .inr (3, [.int 0, .int 0, .int 0, .int 0, .int 0, .int 0, .int 0, .int 0, .int 0, .int 0, .int 0, .int 0])), (166, .inr (3, [.int 0, .int 0, .int 0, .int 0, .int 0, .int 0, .int 0, .int 0, .int 0, .int 0, .int 0, .int 0])), (167, .inr (3, [.int 0, .int 0, .int 0, .int 0, .int 0, .int 0, .int 0, .int 0, .int 0, .int 0, .int 0, .int 0])), (168, .inr (3, [.int 0, .int 0, .int 0, .int 0, .int 0, .int 0, .int 0, .int 0, .int 0, .int 0, .int 0, .int 0])), (169, .inr (3, [.int 0, .int 0, .int 0, .int 0, .int 0, .int 0, .int 0, .int 0, .int 0, .int 0, .int 0, .int 0])), (170, .inr (3, [.int 0, .int 0, .int 0, .int 0, .int 0, .int 0, .int 0, .int 0, .int 0, .int 0, .int 0, .int 0])), (115, .inr (1, [.ref 116, .ref 118, .ref 130, .int 0, .ref 124, .ref 127, .ref 120, .ref 122])), (60, .inr (5, [.ref 61, .int 0])), (61, .inl (0, 600, .inl (fun _ => 0))), (62, .inr (5, [.ref 63, .int 0])), (63, .inl (0, 600, .inl (fun _ => 0))), (64, .inr (5, [.ref 65, .int 0])), (65, .inl (0, 600, .inl (fun _ => 0))), (66, .inr (5, [.ref 67, .int 0])), (67, .inl (0, 600, .inl (fun _ => 0))), (68, .inr (6, [.ref 69, .int 0, .int 0, .int 0, .int 0, .int 0, .int 0, .int 0, .int 0, .int 0])), (70, .inl (0, 0, .inl (fun _ => 0))), (69, .inr (5, [.ref 70, .int 0])), (71, .inr (6, [.ref 72, .int 0, .int 0, .int 0, .int 0, .int 0, .int 0, .int 0, .int 0, .int 0])), (73, .inl (0, 0, .inl (fun _ => 0))), (72, .inr (5, [.ref 73, .int 0])), (74, .inl (1, 40, .inr (.inr (va_up (va_up (va_up (va_up (va_up (va_up (va_up (va_up (va_up (va_up (va_up (va_up (va_up (va_up (va_up (va_up (va_up (va_up (va_up (va_up (va_up (va_up (va_up (va_up (va_up (va_up (va_up (va_up (va_up (va_up (va_up (va_up (va_up (va_up (va_up (va_up (va_up (va_up (va_up (va_up (fun _ => none) 0 (some 75)) 1 (some 76)) 2 (some 77)) 3 (some 78)) 4 (some 79)) 5 (some 80)) 6 (some 81)) 7 (some 82)) 8 (some 83)) 9 (some 84)) 10 (some 85)) 11 (some 86)) 12 (some 87)) 13 (some 88)) 14 (some 89)) 15 (some 90)) 16 (some 91)) 17 (some 92)) 18 (some 93)) 19 (some 94)) 20 (some 95)) 21 (some 96)) 22 (some 97)) 23 (some 98)) 24 (some 99)) 25 (some 100)) 26 (some 101)) 27 (some 102)) 28 (some 103)) 29 (some 104)) 30 (some 105)) 31 (some 106)) 32 (some 107)) 33 (some 108)) 34 (some 109)) 35 (some 110)) 36 (some 111)) 37 (some 112)) 38 (some 113)) 39 (some 114))))), (75, .inr (3, [.int 0, .int 0, .int 0, .int 0, .int 0, .int 0, .int 0, .int 0, .int 0, .int 0, .int 0, .int 0])), (76, .inr (3, [.int 0, .int 0, .int 0, .int 0, .int 0, .int 0, .int 0, .int 0, .int 0, .int 0, .int 0, .int 0])), (77, .inr (3, [.int 0, .int 0, .int 0, .int 0, .int 0, .int 0, .int 0, .int 0, .int 0, .int 0, .int 0, .int 0])), (78, .inr (3, [.int 0, .int 0, .int 0, .int 0, .int 0, .int 0, .int 0, .int 0, .int 0, .int 0, .int 0, .int 0])), (79, .inr (3, [.int 0, .int 0, .int 0, .int 0, .int 0, .int 0, .int 0, .int 0, .int 0, .int 0, .int 0, .int 0])), (80, .inr (3, [.int 0, .int 0, .int 0, .int 0, .int 0, .int 0, .int 0, .int 0, .int 0, .int 0, .int 0, .int 0])), (81, .inr (3, [.int 0, .int 0, .int 0, .int 0, .int 0, .int 0, .int 0, .int 0, .int 0, .int 0, .int 0, .int 0])), (82, .inr (3, [.int 0, .int 0, .int 0, .int 0, .int 0, .int 0, .int 0, .int 0, .int 0, .int 0, .int 0, .int 0])), (83, .inr (3, [.int 0, .int 0, .int 0, .int 0, .int 0, .int 0, .int 0, .int 0, .int 0, .int 0, .int 0, .int 0])), (84, .inr (3, [.int 0, .int 0, .int 0, .int 0, .int 0, .int 0, .int 0, .int 0, .int 0, .int 0, .int 0, .int 0])), (85, .inr (3, [.int 0, .int 0, .int 0, .int 0, .int 0, .int 0, .int 0, .int 0, .int 0, .int 0, .int 0, .int 0])), (86, .inr (3, [.int 0, .int 0, .int 0, .int 0, .int 0, .int 0, .int 0, .int 0, .int 0, .int 0, .int 0, .int 0])), (87, .inr (3, [.int 0, .int 0, .int 0, .int 0, .int 0, .int 0, .int 0, .int 0, .int 0, .int 0, .int 0, .int 0])), (88, .inr (3, [.int 0, .int 0, .int 0, .int 0, .int 0, .int 0, .int 0, .int 0, .int 0, .int 0, .int 0, .int 0])), (89, .inr (3, [.int 0, .int 0, .int 0, .int 0, .int 0, .int 0, .int 0, .int 0, .int 0, .int 0, .int 0, .int 0])), (90, .inr (3, [.int 0, .int 0, .int 0, .int 0, .int 0, .int 0, .int 0, .int 0, .int 0, .int 0, .int 0, .int 0])), (91, .inr (3, [.int 0, .int 0, .int 0, .int 0, .int 0, .int 0, .int 0, .int 0, .int 0, .int 0, .int 0, .int 0])), (92, .inr (3, [.int 0, .int 0, .int 0, .int 0, .int 0, .int 0, .int 0, .int 0, .int 0, .int 0, .int 0, .int 0])), (93, .inr (3, [.int 0, .int 0, .int 0, .int 0, .int 0, .int 0, .int 0, .int 0, .int 0, .int 0, .int 0, .int 0])), (94, .inr (3, [.int 0, .int 0, .int 0, .int 0, .int 0, .int 0, .int 0, .int 0, .int 0, .int 0, .int 0, .int 0])), (95, .inr (3, [.int 0, .int 0, .int 0, .int 0, .int 0, .int 0, .int 0, .int 0, .int 0, .int 0, .int 0, .int 0])), (96, .inr (3, [.int 0, .int 0, .int 0, .int 0, .int 0, .int 0, .int 0, .int 0, .int 0, .int 0, .int 0, .int 0])), (97, .inr (3, [.int 0, .int 0, .int 0, .int 0, .int 0, .int 0, .int 0, .int 0, .int 0, .int 0, .int 0, .int 0])), (98, .inr (3, [.int 0, .int 0, .int 0, .int 0, .int 0, .int 0, .int 0, .int 0, .int 0, .int 0, .int 0, .int 0])), (99, .inr (3, [.int 0, .int 0, .int 0, .int 0, .int 0, .int 0, .int 0, .int 0, .int 0, .int 0, .int 0, .int 0])), (100, .inr (3, [.int 0, .int 0, .int 0, .int 0, .int 0, .int 0, .int 0, .int 0, .int 0, .int 0, .int 0, .int 0])), (101, .inr (3, [.int 0, .int 0, .int 0, .int 0, .int 0, .int 0, .int 0, .int 0, .int 0, .int 0, .int 0, .int 0])), (102, .inr (3, [.int 0, .int 0, .int 0, .int 0, .int 0, .int 0, .int 0, .int 0, .int 0, .int 0, .int 0, .int 0])), (103, .inr (3, [.int 0, .int 0, .int 0, .int 0, .int 0, .int 0, .int 0, .int 0, .int 0, .int 0, .int 0, .int 0])), (104, .inr (3, [.int 0, .int 0, .int 0, .int 0, .int 0, .int 0, .int 0, .int 0, .int 0, .int 0, .int 0, .int 0])), (105, .inr (3, [.int 0, .int 0, .int 0, .int 0, .int 0, .int 0, .int 0, .int 0, .int 0, .int 0, .int 0, .int 0])), (106, .inr (3, [.int 0, .int 0, .int 0, .int 0, .int 0, .int 0, .int 0, .int 0, .int 0, .int 0, .int 0, .int 0])), (107, .inr (3, [.int 0, .int 0, .int 0, .int 0, .int 0, .int 0, .int 0, .int 0, .int 0, .int 0, .int 0, .int 0])), (108, .inr (3, [.int 0, .int 0, .int 0, .int 0, .int 0, .int 0, .int 0, .int 0, .int 0, .int 0, .int 0, .int 0])), (109, .inr (3, [.int 0, .int 0, .int 0, .int 0, .int 0, .int 0, .int 0, .int 0, .int 0, .int 0, .int 0, .int 0])), (110, .inr (3, [.int 0, .int 0, .int 0, .int 0, .int 0, .int 0, .int 0, .int 0, .int 0, .int 0, .int 0, .int 0])), (111, .inr (3, [.int 0, .int 0, .int 0, .int 0, .int 0, .int 0, .int 0, .int 0, .int 0, .int 0, .int 0, .int 0])), (112, .inr (3, [.int 0, .int 0, .int 0, .int 0, .int 0, .int 0, .int 0, .int 0, .int 0, .int 0, .int 0, .int 0])), (113, .inr (3, [.int 0, .int 0, .int 0, .int 0, .int 0, .int 0, .int 0, .int 0, .int 0, .int 0, .int 0, .int 0])), (114, .inr (3, [.int 0, .int 0, .int 0, .int 0, .int 0, .int 0, .int 0, .int 0, .int 0, .int 0, .int 0, .int 0])), (59, .inr (1, [.ref 60, .ref 62, .ref 74, .int 0, .ref 68, .ref 71, .ref 64, .ref 66])), (55, .inr (5, [.ref 56, .int 0])), (56, .inl (0, 0, .inl (fun _ => 0))), (57, .inl (2, 4, .inr (.inr (fun _ => none)))), (58, .inl (2, 40, .inr (.inr (fun _ => none)))), (54, .inr (7, [.ref 55, .int 0, .int (-1), .int 0, .int 1, .int 0, .null, .int 0, .ref 57, .ref 58])), (50, .inr (5, [.ref 51, .int 0])), (51, .inl (0, 0, .inl (fun _ => 0))), (52, .inl (2, 4, .inr (.inr (fun _ => none)))), (53, .inl (2, 40, .inr (.inr (fun _ => none)))), (49, .inr (7, [.ref 50, .int 0, .int (-1), .int 0, .int 1, .int 0, .null, .int 0, .ref 52, .ref 53])), (45, .inr (5, [.ref 46, .int 0])), (46, .inl (0, 0, .inl (fun _ => 0))), (47, .inl (2, 4, .inr (.inr (fun _ => none)))), (48, .inl (2, 40, .inr (.inr (fun _ => none)))), (44, .inr (7, [.ref 45, .int 0, .int (-1), .int 0, .int 1, .int 0, .null, .int 0, .ref 47, .ref 48])), (40, .inr (5, [.ref 41, .int 0])), (41, .inl (0, 0, .inl (fun _ => 0))), (42, .inl (2, 4, .inr (.inr (fun _ => none)))), (43, .inl (2, 40, .inr (.inr (fun _ => none)))), (39, .inr (7, [.ref 40, .int 0, .int (-1), .int 0, .int 1, .int 0, .null, .int 0, .ref 42, .ref 43])), (35, .inr (5, [.ref 36, .int 0])), (36, .inl (0, 0, .inl (fun _ => 0))), (37, .inl (2, 4, .inr (.inr (fun _ => none)))), (38, .inl (2, 40, .inr (.inr (fun _ => none)))), (34, .inr (7, [.ref 35, .int 0, .int (-1), .int 0, .int 1, .int 0, .null, .int 0, .ref 37, .ref 38])), (30, .inr (5, [.ref 31, .int 0])), (31, .inl (0, 0, .inl (fun _ => 0))), (32, .inl (2, 4, .inr (.inr (fun _ => none)))), (33, .inl (2, 40, .inr (.inr (fun _ => none)))), (29, .inr (7, [.ref 30, .int 0, .int (-1), .int 0, .int 1, .int 0, .null, .int 0, .ref 32, .ref 33])), (25, .inr (5, [.ref 26, .int 0])), (26, .inl (0, 0, .inl (fun _ => 0))), (27, .inl (2, 4, .inr (.inr (fun _ => none)))), (28, .inl (2, 40, .inr (.inr (fun _ => none)))), (24, .inr (7, [.ref 25, .int 0, .int (-1), .int 0, .int 1, .int 0, .null, .int 0, .ref 27, .ref 28])), (20, .inr (5, [.ref 21, .int 0])), (21, .inl (0, 0, .inl (fun _ => 0))), (22, .inl (2, 4, .inr (.inr (fun _ => none)))), (23, .inl (2, 40, .inr (.inr (fun _ => none)))), (19, .inr (7, [.ref 20, .int 0, .int (-1), .int 0, .int 1, .int 0, .null, .int 0, .ref 22, .ref 23])), (18, .inl (3, 8, .inr (.inr (va_up (va_up (va_up (va_up (va_up (va_up (va_up (va_up (fun _ => none) 0 (some 19)) 1 (some 24)) 2 (some 29)) 3 (some 34)) 4 (some 39)) 5 (some 44)) 6 (some 49)) 7 (some 54))))), (14, .inr (5, [.ref 15, .int 0])), (15, .inl (0, 0, .inl (fun _ => 0))), (16, .inl (2, 4, .inr (.inr (fun _ => none)))), (17, .inl (2, 40, .inr (.inr (fun _ => none)))), (13, .inr (7, [.ref 14, .int 0, .int (-1), .int 0, .int 1, .int 0, .null, .int 0, .ref 16, .ref 17])), (9, .inr (5, [.ref 10, .int 0])), (10, .inl (0, 0, .inl (fun _ => 0))), (11, .inl (2, 4, .inr (.inr (fun _ => none)))), (12, .inl (2, 40, .inr (.inr (fun _ => none)))), (8, .inr (7, [.ref 9, .int 0, .int (-1), .int 0, .int 1, .int 0, .null, .int 0, .ref 11, .ref 12])), (4, .inr (5, [.ref 5, .int 0])), (5, .inl (0, 0, .inl (fun _ => 0))), (6, .inl (2, 4, .inr (.inr (fun _ => none)))), (7, .inl (2, 40, .inr (.inr (fun _ => none)))), (3, .inr (7, [.ref 4, .int 0, .int (-1), .int 0, .int 1, .int 0, .null, .int 0, .ref 6, .ref 7])), (2, .inl (0, 400, .inl (fun _ => 0))), (1, .inr (5, [.ref 2, .int 0])), (181, .inr (9, (.int 0 :: .ref 182 :: .ref 183 :: .ref 184 :: .ref 185 :: .int 0 :: .int 0 :: .int 0 :: .ref 186 :: .int 0 :: .int 0 :: .int 0 :: .int (-1) :: .ref 187 :: .ref 188 :: .ref 189 :: .int 0 :: .ref 190 :: .ref 191 :: .ref 192 :: .ref 193 :: .ref 194 :: .int 0 :: .ref 195 :: .ref 196 :: .ref 197 :: .int 0 :: .ref 198 :: .ref 199 :: .ref 200 :: .ref 201 :: .ref 202 :: .ref 203 :: .int 0 :: .ref 204 :: .ref 205 :: .ref 206 :: .ref 207 :: .ref 208 :: .ref 209 :: .ref 210 :: .ref 211 :: .ref 212 :: .ref 213 :: .ref 214 :: .int 0 :: .ref 215 :: .ref 216 :: .int 0 :: .ref 217 :: .ref 218 :: .ref 219 :: .ref 220 :: .ref 221 :: .int 0 :: .int 0 :: .int 0 :: .int 0 :: .ref 222 :: .int 0 :: []))), (222, .inl (0, 60, .inl (fun _ => 0))), (221, .inl (0, 60, .inl (fun _ => 0))), (220, .inl (0, 40, .inl (fun _ => 0))), (219, .inl (0, 41, .inl (fun _ => 0))), (218, .inl (0, 700, .inl (fun _ => 0))), (217, .inl (0, 700, .inl (fun _ => 0))), (216, .inl (0, 1400, .inl (fun _ => 0))), (215, .inl (0, 1400, .inl (fun _ => 0))), (214, .inl (0, 600, .inl (fun _ => 0))), (213, .inl (0, 600, .inl (fun _ => 0))), (212, .inl (0, 40, .inl (fun _ => 0))), (211, .inl (0, 40, .inl (fun _ => 0))), (210, .inl (0, 40, .inl (fun _ => 0))), (209, .inl (0, 40, .inl (fun _ => 0))), (208, .inl (0, 40, .inl (fun _ => 0))), (207, .inl (0, 40, .inl (fun _ => 0))), (206, .inl (0, 40, .inl (fun _ => 0))), (205, .inl (0, 40, .inl (fun _ => 0))), (204, .inl (0, 40, .inl (fun _ => 0))), (203, .inl (0, 600, .inl (fun _ => 0))), (202, .inl (0, 600, .inl (fun _ => 0))), (201, .inl (0, 600, .inl (fun _ => 0))), (200, .inl (0, 600, .inl (fun _ => 0))), (199, .inl (0, 600, .inl (fun _ => 0))), (198, .inl (0, 600, .inl (fun _ => 0))), (197, .inl (0, 600, .inl (fun _ => 0))), (196, .inl (0, 600, .inl (fun _ => 0))), (195, .inl (0, 600, .inl (fun _ => 0))), (194, .inl (0, 600, .inl (fun _ => 0))), (193, .inl (0, 600, .inl (fun _ => 0))), (192, .inl (0, 600, .inl (fun _ => 0))), (191, .inl (0, 600, .inl (fun _ => 0))), (190, .inl (0, 600, .inl (fun _ => 0))), (189, .inl (0, 600, .inl (fun _ => 0))), (188, .inl (0, 600, .inl (fun _ => 0))), (187, .inl (0, 600, .inl (fun _ => 0))), (186, .inl (0, 400, .inl (fun _ => 0))), (185, .inl (0, 34776, .inl (fun _ => 0))), (184, .inl (0, 4347, .inl (fun _ => 0))), (183, .inl (0, 4347, .inl (fun _ => 0))), (182, .inl (0, 4347, .inl (tl (upd (upd (fun _ => 0) 2 (-1)) 4 1) 40))), (223, .inl (4, 1, .inr (.inl (fun _ => 0))))]
def FF : AH := ovl (fun _ => none) LL
def gt0 : List Nat := [8, 5, 1400, 7, 5, 1000, 10, 11, 7, 5, 1000, 10, 11, 7, 5, 1000, 10, 11, 12, 7, 5, 1000, 10, 11, 7, 5, 1000, 10, 11, 7, 5, 1000, 10, 11, 7, 5, 1000, 10, 11, 7, 5, 1000, 10, 11, 7, 5, 1000, 10, 11, 7, 5, 1000, 10, 11, 7, 5, 1000, 10, 11, 1, 5, 1600, 5, 1600, 5, 1600, 5, 1600, 6, 5, 1000, 6, 5, 1000, 13, 3, 3, 3, 3, 3, 3, 3, 3, 3, 3, 3, 3, 3, 3, 3, 3, 3, 3, 3, 3, 3, 3, 3, 3, 3, 3, 3, 3, 3, 3, 3, 3, 3, 3, 3, 3, 3, 3, 3, 3, 1, 5, 1600, 5, 1600, 5, 1600, 5, 1600, 6, 5, 1000, 6, 5, 1000, 13, 3, 3, 3, 3, 3, 3, 3, 3, 3, 3, 3, 3, 3, 3, 3, 3, 3, 3, 3, 3, 3, 3, 3, 3, 3, 3, 3, 3, 3, 3, 3, 3, 3, 3, 3, 3, 3, 3, 3, 3, 0, 5, 1600, 5, 1540, 5, 1540, 4, 5, 1000]
def bt0 : List Nat := [0, 2, 0, 0, 5, 0, 0, 0, 0, 10, 0, 0, 0, 0, 15, 0, 0, 0, 0, 0, 21, 0, 0, 0, 0, 26, 0, 0, 0, 0, 31, 0, 0, 0, 0, 36, 0, 0, 0, 0, 41, 0, 0, 0, 0, 46, 0, 0, 0, 0, 51, 0, 0, 0, 0, 56, 0, 0, 0, 0, 61, 0, 63, 0, 65, 0, 67, 0, 0, 70, 0, 0, 73, 0, 0, 0, 0, 0, 0, 0, 0, 0, 0, 0, 0, 0, 0, 0, 0, 0, 0, 0, 0, 0, 0, 0, 0, 0, 0, 0, 0, 0, 0, 0, 0, 0, 0, 0, 0, 0, 0, 0, 0, 0, 0, 0, 117, 0, 119, 0, 121, 0, 123, 0, 0, 126, 0, 0, 129, 0, 0, 0, 0, 0, 0, 0, 0, 0, 0, 0, 0, 0, 0, 0, 0, 0, 0, 0, 0, 0, 0, 0, 0, 0, 0, 0, 0, 0, 0, 0, 0, 0, 0, 0, 0, 0, 0, 0, 0, 0, 0, 0, 173, 0, 175, 0, 177, 0, 0, 180, 0]
def G0 : TE := (fun j => gt0.getD j 99, fun j => bt0.getD j 0)
theorem G0_hi {j : Nat} (h : 181 ≤ j) : G0.1 j = 99 := by
  show gt0.getD j 99 = 99
  rw [List.getD_eq_getElem?_getD, List.getElem?_eq_none (by show 181 ≤ j; exact h)]; rfl
set_option maxRecDepth 100000 in
theorem ff_chk : (List.range 181).all (fun j => cE G0 j (FF j)) = true := by decide +kernel
theorem ff_wt : WT G0 FF 0 FF 224 := by
  refine ⟨fun j => ?_, fun j hj => ?_, fun j a b => ⟨G0_hi a, rfl⟩, by omega, rfl, rfl⟩
  · by_cases hj : j < 181
    · exact cE_ok (List.all_eq_true.mp ff_chk j (List.mem_range.mpr hj))
    · have := G0_hi (j := j) (by omega)
      exact ⟨fun q => by omega, fun q => by omega, fun q => by omega, fun q => by omega⟩
  · by_cases h : 181 ≤ j
    · exact absurd (G0_hi h) hj
    · omega
def μ0 : Nat → Int32 := tl (upd (upd (fun _ => 0) 2 (-1)) 4 1) 40
def σ0 : RS9 := (fun k => if k = 12 then -1 else 0, fun k => if k = 1 then μ0 else fun _ => 0)
theorem μ0_v {i : Nat} (h : ¬ (443 ≤ i ∧ (i - 443) % 61 = 0 ∧ (i - 443) / 61 < 40)) : μ0 i = if i = 4 then 1 else if i = 2 then -1 else 0 := by
  unfold μ0 tl
  rw [if_neg h]; rfl
theorem μ0_t {p : Nat} (h : p < 40) : μ0 (443 + 61 * p) = -1 := by
  unfold μ0 tl
  exact if_pos ⟨by omega, by omega, by omega⟩
theorem μ0_0 {i : Nat} (h : ¬ (443 ≤ i ∧ (i - 443) % 61 = 0 ∧ (i - 443) / 61 < 40)) (h4 : i ≠ 4) (h2 : i ≠ 2) : μ0 i = 0 := by rw [μ0_v h, if_neg h4, if_neg h2]
theorem μ0_vm : VM9 μ0 := by
  refine ⟨by rw [μ0_0 (by omega) (by omega) (by omega)]; decide, by rw [μ0_v (by omega), if_pos rfl]; decide, by rw [μ0_0 (by omega) (by omega) (by omega)]; decide, by rw [μ0_0 (by omega) (by omega) (by omega)]; decide, fun p hp => by rw [μ0_t hp]; decide, fun k hk => by rw [μ0_0 (by omega) (by omega) (by omega)]; decide, fun l hl => by rw [μ0_0 (by omega) (by omega) (by omega)]; decide⟩
theorem σ0_ri : RI σ0 := by
  have hV : VM9 (σ0.2 1) := μ0_vm
  have hT : TAB σ0 := by
    obtain ⟨p, R, h1, h2, h3, -, -⟩ := ct_two (ν := μ0) μ0_vm (fun _ _ _ => rfl)
    have e0 : μ0 0 = nI 0 := μ0_0 (by omega) (by omega) (by omega)
    have eR : R = 0 := nI_inj (by omega) (by omega) (h1.symm.trans e0)
    subst eR
    have ep : p = 0 := by
      by_cases hp : p = 0
      · exact hp
      · have h8 := h3.2.2.2.2.2.2.2 0 (by omega)
        have a1 := h8.2.1
        have a2 := h8.2.2.1
        have a3 := h8.2.2.2.1
        omega
    subst ep
    obtain ⟨b1, b2, b3, b4, b5, b6, b7, b8⟩ := h3
    have e45 : (CT μ0).1 45 = 0 := Int32.toInt_inj.mp (by rw [kt_0]; omega)
    exact ⟨0, 0, e0, by omega, rfl, b2, by omega, e45, by decide, by decide, by omega, fun i hi => absurd hi (by omega)⟩
  refine ⟨⟨hV, hT, bui_none ⟨hV, hT⟩ (fun i hi => μ0_t hi)⟩, by decide, ⟨0, rfl, by omega, fun s hs => absurd hs (by omega)⟩, Or.inl rfl, fun h => absurd rfl h⟩
set_option maxRecDepth 100000 in
theorem ff_hm : FF = rHm FF σ0 := by
  funext i
  by_cases hi : i < 181 ∨ 222 < i
  · exact (hm_off hi).symm
  · rcases (show i = 181 ∨ i = 182 ∨ i = 183 ∨ i = 184 ∨ i = 185 ∨ i = 186 ∨ i = 187 ∨ i = 188 ∨ i = 189 ∨ i = 190 ∨ i = 191 ∨ i = 192 ∨ i = 193 ∨ i = 194 ∨ i = 195 ∨ i = 196 ∨ i = 197 ∨ i = 198 ∨ i = 199 ∨ i = 200 ∨ i = 201 ∨ i = 202 ∨ i = 203 ∨ i = 204 ∨ i = 205 ∨ i = 206 ∨ i = 207 ∨ i = 208 ∨ i = 209 ∨ i = 210 ∨ i = 211 ∨ i = 212 ∨ i = 213 ∨ i = 214 ∨ i = 215 ∨ i = 216 ∨ i = 217 ∨ i = 218 ∨ i = 219 ∨ i = 220 ∨ i = 221 ∨ i = 222 by omega) with rfl | rfl | rfl | rfl | rfl | rfl | rfl | rfl | rfl | rfl | rfl | rfl | rfl | rfl | rfl | rfl | rfl | rfl | rfl | rfl | rfl | rfl | rfl | rfl | rfl | rfl | rfl | rfl | rfl | rfl | rfl | rfl | rfl | rfl | rfl | rfl | rfl | rfl | rfl | rfl | rfl | rfl
    · rfl
    · rfl
    · rfl
    · rfl
    · rfl
    · rfl
    · rfl
    · rfl
    · rfl
    · rfl
    · rfl
    · rfl
    · rfl
    · rfl
    · rfl
    · rfl
    · rfl
    · rfl
    · rfl
    · rfl
    · rfl
    · rfl
    · rfl
    · rfl
    · rfl
    · rfl
    · rfl
    · rfl
    · rfl
    · rfl
    · rfl
    · rfl
    · rfl
    · rfl
    · rfl
    · rfl
    · rfl
    · rfl
    · rfl
    · rfl
    · rfl
    · rfl
set_option maxRecDepth 100000 in
theorem ff_inv : INV FF 224 σ0 := ⟨G0, ff_wt, σ0_ri, ff_hm, fun _ => 0, rfl⟩
