/-! the texts at the start: where they lie, that they differ -/
theorem vs_inj {N : Nat} {len : List Nat} {byt : List (List Int32)} {adK adV : Nat → Nat} {A : Nat → Prop} {U : State} {H : Heap} (h : ∀ i : Nat, i < N → va_OF "java/lang/String" "value" "[B" (.ref (adV i)) (adK i) A U H ∧ va_T .byte (adV i) (len.getD i 0) (fun j => .int ((byt.getD i []).getD j 0)) A U H) (hl : ∀ i : Nat, i < N → len.getD i 0 < 2 ^ 31)
    (hd : ∀ i j : Nat, i < N → j < N → len.getD i 0 = len.getD j 0 → (∀ k : Nat, k < len.getD i 0 → (byt.getD i []).getD k 0 = (byt.getD j []).getD k 0) → i = j) : ∀ i j : Nat, i < N → j < N → adK i = adK j → i = j := by
  intro i j hi hj e
  obtain ⟨⟨cf, k, fi, f, cell, h1, h2, h3, h4, h5, h6⟩, ⟨c1, g1, g2, g3, g4, g5, g6, g7⟩⟩ := h i hi
  obtain ⟨⟨cf', k', fi', f', cell', h1', h2', h3', h4', h5', h6'⟩, ⟨c1', g1', g2', g3', g4', g5', g6', g7'⟩⟩ := h j hj
  rw [← e] at h3'
  have ec : cell = cell' := Option.some.inj (h3.symm.trans h3')
  have ef := Option.some.inj (h1.symm.trans h1')
  have eff : f = f' := congrArg (fun q => q.2.2.2) ef
  subst ec
  rw [← eff] at h5'
  have ev : adV i = adV j := by
    have e9 := Option.some.inj (h5.symm.trans h5')
    injection e9
  rw [← ev] at g1'
  have e1 : c1 = c1' := Option.some.inj (g1.symm.trans g1')
  subst e1
  have hle : len.getD i 0 = len.getD j 0 := (nI_eq (hl i hi) (hl j hj)).mp (g5.symm.trans g5')
  refine hd i j hi hj hle (fun q hq => ?_)
  have a := g6 q hq
  have b := g6' q (by rw [← hle]; exact hq)
  have e9 := Option.some.inj (a.symm.trans b)
  injection e9
theorem vs_of {args : Array Value} {s : State} {N : Nat} {tm : Nat → Term} {len : List Nat} {byt : List (List Int32)} {A : Nat → Prop} (hN : ∀ i : Nat, i < N → len.getD i 0 < 2 ^ 31) (hex : ∀ i : Nat, i < N → (Cond.exactly (tm i) "java/lang/String").before args s = true) (hco : ∀ i : Nat, i < N → (Cond.eq (.field (tm i) "java/lang/String" "coder" "B") (.int 0)).before args s = true)
    (har : ∀ i : Nat, i < N → (Cond.arrayOf (.field (tm i) "java/lang/String" "value" "[B") .byte).before args s = true) (hle : ∀ i : Nat, i < N → (Cond.eq (.length (.field (tm i) "java/lang/String" "value" "[B")) (.int (Int32.ofNat (len.getD i 0)))).before args s = true)
    (hel : ∀ i : Nat, i < N → ∀ j : Nat, j < len.getD i 0 → (Cond.eq (.elem (.field (tm i) "java/lang/String" "value" "[B") (.int (Int32.ofNat j))) (.int ((byt.getD i []).getD j 0))).before args s = true)
    (hd : ∀ i j : Nat, i < N → j < N → len.getD i 0 = len.getD j 0 → (∀ k : Nat, k < len.getD i 0 → (byt.getD i []).getD k 0 = (byt.getD j []).getD k 0) → i = j) (hA : ∀ a : Nat, a < s.heap.size → ¬ A a) :
    ∃ adK adV : Nat → Nat, vk_S N len byt adK adV A s s.heap ∧ ∀ i : Nat, i < N → (tm i).eval args s none [] s = some (.ref (adK i)) := by
  have h0 : ∀ i : Nat, ∃ q : Nat × Nat, i < N → (tm i).eval args s none [] s = some (.ref q.1) ∧ va_O "java/lang/String" q.1 A s s.heap ∧ va_OF "java/lang/String" "coder" "B" (.int 0) q.1 A s s.heap ∧ va_OF "java/lang/String" "value" "[B" (.ref q.2) q.1 A s s.heap ∧ va_T .byte q.2 (len.getD i 0) (fun j => .int ((byt.getD i []).getD j 0)) A s s.heap := by
    intro i
    by_cases hi : i < N
    · have z : ∀ k : Nat, k < 1 → k = 0 := fun k hk => by omega
      obtain ⟨aK, aV, hS, hev⟩ := vk_Sof (args := args) (s := s) (N := 1) (tm := fun _ => tm i) (len := [len.getD i 0]) (byt := [byt.getD i []]) (A := A) (fun k hk => by rw [z k hk]; exact hN i hi) (fun _ _ => hex i hi) (fun _ _ => hco i hi) (fun _ _ => har i hi) (fun k hk => by rw [z k hk]; exact hle i hi) (fun k hk => by rw [z k hk]; exact hel i hi) (fun a b ha hb hab => absurd ((z a ha).trans (z b hb).symm) hab) hA
      exact ⟨(aK 0, aV 0), fun _ => ⟨hev 0 (by omega), hS.1 0 (by omega)⟩⟩
    · exact ⟨(0, 0), fun h => absurd h hi⟩
  refine ⟨fun i => (Classical.choose (h0 i)).1, fun i => (Classical.choose (h0 i)).2, ⟨fun i hi => (Classical.choose_spec (h0 i) hi).2, ?_⟩, fun i hi => (Classical.choose_spec (h0 i) hi).1⟩
  exact vs_inj (fun i hi => ⟨(Classical.choose_spec (h0 i) hi).2.2.2.1, (Classical.choose_spec (h0 i) hi).2.2.2.2⟩) hN hd
theorem sD9 : ∀ i j : Nat, i < 15 → j < 15 → sL9.getD i 0 = sL9.getD j 0 → (∀ k : Nat, k < sL9.getD i 0 → (sB9.getD i []).getD k 0 = (sB9.getD j []).getD k 0) → i = j := by
  have h : ∀ i j : Fin 15, sL9.getD (i : Nat) 0 = sL9.getD (j : Nat) 0 → (∀ k : Nat, k < sL9.getD (i : Nat) 0 → (sB9.getD (i : Nat) []).getD k 0 = (sB9.getD (j : Nat) []).getD k 0) → i = j := by decide +kernel
  exact fun i j hi hj h1 h2 => congrArg (fun q : Fin 15 => (q : Nat)) (h ⟨i, hi⟩ ⟨j, hj⟩ h1 h2)
theorem sD4 : ∀ i j : Nat, i < 12 → j < 12 → sL4.getD i 0 = sL4.getD j 0 → (∀ k : Nat, k < sL4.getD i 0 → (sB4.getD i []).getD k 0 = (sB4.getD j []).getD k 0) → i = j := by
  have h : ∀ i j : Fin 12, sL4.getD (i : Nat) 0 = sL4.getD (j : Nat) 0 → (∀ k : Nat, k < sL4.getD (i : Nat) 0 → (sB4.getD (i : Nat) []).getD k 0 = (sB4.getD (j : Nat) []).getD k 0) → i = j := by decide +kernel
  exact fun i j hi hj h1 h2 => congrArg (fun q : Fin 12 => (q : Nat)) (h ⟨i, hi⟩ ⟨j, hj⟩ h1 h2)
