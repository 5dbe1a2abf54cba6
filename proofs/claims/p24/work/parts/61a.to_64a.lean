/-! part 61a.und -/
section
/-! the reference undoes escapes -/
def wd9 (t : Nat) : BL := sB9.getD t []
theorem wd9_ok : ∀ t : Fin 15, sL9.getD (t : Nat) 0 = (wd9 (t : Nat)).length ∧ (wd9 (t : Nat)).length ≤ 8 ∧ ∀ k : Fin 8, (k : Nat) < (wd9 (t : Nat)).length → (wd9 (t : Nat)).getD (k : Nat) 0 &&& 255 = (wd9 (t : Nat)).getD (k : Nat) 0 := by decide +kernel
theorem wd9_l {t : Nat} (h : t < 15) : strL t = nI (wd9 t).length := by
  unfold strL
  rw [(wd9_ok ⟨t, h⟩).1]
theorem wd9_8 {t : Nat} (h : t < 15) : (wd9 t).length ≤ 8 := (wd9_ok ⟨t, h⟩).2.1
theorem wd9_c {t k : Nat} (h : t < 15) (hk : k < (wd9 t).length) : strC t (nI k) = (wd9 t).getD k 0 := by
  have h8 := wd9_8 h
  unfold strC
  rw [nI_clamp (by omega)]
  exact (wd9_ok ⟨t, h⟩).2.2 ⟨k, by omega⟩ hk
def stB (L : BL) (a b : Nat) (W : BL) : Bool := decide (a + W.length ≤ b) && smF W 0 L a W.length
section RUN
variable {σ : RS9} {r : Nat} {L : BL}
theorem r_stands {a b t : Nat} (hL : RLs σ r L) (h6 : L.length ≤ 600) (hab : a ≤ b) (hb : b ≤ L.length) (ht : t < 15) : PQ (mX9_stands r (nI a) (nI b) t σ) (fun y => y = (bI (stB L a b (wd9 t)), σ)) := by
  have h8 := wd9_8 ht
  unfold mX9_stands
  rw [wd9_l ht, nI_sb hab (by omega)]
  refine pq_le (nI_toInt (by omega)) (nI_toInt (by omega)) (fun q => ?_) (fun q => ?_)
  · have eB : stB L a b (wd9 t) = smF (wd9 t) 0 L a (wd9 t).length := by
      unfold stB
      rw [decide_eq_true (by omega), Bool.true_and]
    rw [eB]
    have key : ∀ (d i : Nat), i ≤ (wd9 t).length → (∀ k, k < i → (wd9 t).getD k 0 = L.getD (a + k) 0) → PQ (mX9_stands_l15 d r (nI a) t (nI i) σ) (fun y => y = (bI (smF (wd9 t) 0 L a (wd9 t).length), σ)) := by
      intro d
      induction d with
      | zero => intro i _ _; exact pq_none
      | succ d ih =>
        intro i hi hk
        unfold mX9_stands_l15
        rw [wd9_l ht]
        refine pq_le (nI_toInt (by omega)) (nI_toInt (by omega)) (fun q1 => ?_) (fun q1 => ?_)
        · have e : smF (wd9 t) 0 L a (wd9 t).length = true := (smF_all _ _ _).mpr (fun k hk2 => by rw [Nat.zero_add]; exact hk k (by omega))
          rw [e]
          exact pq_ck (pq_ret rfl)
        · rw [nI_add, rd_nI (by omega), hL _ (by omega), wd9_c ht (by omega), nI_1]
          refine pq_ck (pq_ck (pq_eq (fun q2 => ?_) (fun q2 => ?_)))
          · refine ih (i + 1) (by omega) (fun k hk2 => ?_)
            by_cases e : k = i
            · rw [e]; exact q2.symm
            · exact hk k (by omega)
          · have e : smF (wd9 t) 0 L a (wd9 t).length = false := by
              cases hx : smF (wd9 t) 0 L a (wd9 t).length with
              | false => rfl
              | true =>
                have := (smF_all _ _ _).mp hx i (by omega)
                rw [Nat.zero_add] at this
                exact absurd this.symm q2
            rw [e]
            exact pq_ck (pq_ret rfl)
    exact key rFU 0 (Nat.zero_le _) (fun k hk => absurd hk (Nat.not_lt_zero _))
  · have eB : stB L a b (wd9 t) = false := by
      unfold stB
      rw [decide_eq_false (by omega), Bool.false_and]
    rw [eB]
    exact pq_ck (pq_ret rfl)
theorem st_lt {a b : Nat} {L : BL} : stB L a b (wd9 0) = true ↔ (a + 4 ≤ b ∧ L.getD a 0 = 38 ∧ L.getD (a + 1) 0 = 108 ∧ L.getD (a + 2) 0 = 116 ∧ L.getD (a + 3) 0 = 59) := by
  show (decide (a + 4 ≤ b) && (decide ((38 : Int32) = L.getD a 0) && (decide ((108 : Int32) = L.getD (a + 1) 0) && (decide ((116 : Int32) = L.getD (a + 1 + 1) 0) && (decide ((59 : Int32) = L.getD (a + 1 + 1 + 1) 0) && true))))) = true ↔ _
  simp only [Bool.and_eq_true, decide_eq_true_eq, and_true]
  exact ⟨fun h => ⟨h.1, h.2.1.symm, h.2.2.1.symm, h.2.2.2.1.symm, h.2.2.2.2.symm⟩, fun h => ⟨h.1, h.2.1.symm, h.2.2.1.symm, h.2.2.2.1.symm, h.2.2.2.2.symm⟩⟩
theorem st_gt {a b : Nat} {L : BL} : stB L a b (wd9 1) = true ↔ (a + 4 ≤ b ∧ L.getD a 0 = 38 ∧ L.getD (a + 1) 0 = 103 ∧ L.getD (a + 2) 0 = 116 ∧ L.getD (a + 3) 0 = 59) := by
  show (decide (a + 4 ≤ b) && (decide ((38 : Int32) = L.getD a 0) && (decide ((103 : Int32) = L.getD (a + 1) 0) && (decide ((116 : Int32) = L.getD (a + 1 + 1) 0) && (decide ((59 : Int32) = L.getD (a + 1 + 1 + 1) 0) && true))))) = true ↔ _
  simp only [Bool.and_eq_true, decide_eq_true_eq, and_true]
  exact ⟨fun h => ⟨h.1, h.2.1.symm, h.2.2.1.symm, h.2.2.2.1.symm, h.2.2.2.2.symm⟩, fun h => ⟨h.1, h.2.1.symm, h.2.2.1.symm, h.2.2.2.1.symm, h.2.2.2.2.symm⟩⟩
theorem st_am {a b : Nat} {L : BL} : stB L a b (wd9 2) = true ↔ (a + 5 ≤ b ∧ L.getD a 0 = 38 ∧ L.getD (a + 1) 0 = 97 ∧ L.getD (a + 2) 0 = 109 ∧ L.getD (a + 3) 0 = 112 ∧ L.getD (a + 4) 0 = 59) := by
  show (decide (a + 5 ≤ b) && (decide ((38 : Int32) = L.getD a 0) && (decide ((97 : Int32) = L.getD (a + 1) 0) && (decide ((109 : Int32) = L.getD (a + 1 + 1) 0) && (decide ((112 : Int32) = L.getD (a + 1 + 1 + 1) 0) && (decide ((59 : Int32) = L.getD (a + 1 + 1 + 1 + 1) 0) && true)))))) = true ↔ _
  simp only [Bool.and_eq_true, decide_eq_true_eq, and_true]
  exact ⟨fun h => ⟨h.1, h.2.1.symm, h.2.2.1.symm, h.2.2.2.1.symm, h.2.2.2.2.1.symm, h.2.2.2.2.2.symm⟩, fun h => ⟨h.1, h.2.1.symm, h.2.2.1.symm, h.2.2.2.1.symm, h.2.2.2.2.1.symm, h.2.2.2.2.2.symm⟩⟩
abbrev NO9 : Nat → Prop := fun _ => False
abbrev F55 : Nat → Prop := fun k => k = 55
def MO9 (σ : RS9) (m : Int32 × Nat) (y : Int32 × RS9) : Prop := ∃ σ', y = (nI m.2, σ') ∧ σ'.1 55 = m.1 ∧ FRX NO9 F55 σ σ'
theorem mo_ret {v : Int32} {m : Int32 × Nat} (h : v = m.1) : PQ (some (nI m.2, rSf σ 55 v)) (MO9 σ m) := pq_ret ⟨_, rfl, sf_eq.trans h, ⟨fun _ _ => rfl, fun k hk => sf_ne hk⟩⟩
theorem r_means {k : Int32} {q : Bool} {i b : Nat} (hL : RLs σ r L) (h6 : L.length ≤ 600) (hi : i < b) (hb : b ≤ L.length) (hk : k = 0 ∨ k = 1 ∨ k = 2 ∨ k = 3) : PQ (mX9_means k (bI q) r (nI i) (nI b) σ) (MO9 σ (mw k q L i b)) := by
  have hLi : rGa σ r (nI i) = L.getD i 0 := by rw [rd_nI (by omega)]; exact hL i (by omega)
  unfold mX9_means
  rw [hLi, nI_1]
  refine pq_ck ?_
  have fr0 : FRX NO9 F55 σ (rSf σ 55 (L.getD i 0)) := ⟨fun _ _ => rfl, fun k hk => sf_ne hk⟩
  refine pq_eq (fun q1 => ?_) (fun q1 => ?_)
  · have e : mw k q L i b = (L.getD i 0, if q = true ∧ L.getD i 0 = 34 ∧ i + 1 < b ∧ L.getD (i + 1) 0 = 34 then 2 else 1) := if_pos q1
    rw [e]
    have one : ¬ (q = true ∧ L.getD i 0 = 34 ∧ i + 1 < b ∧ L.getD (i + 1) 0 = 34) → PQ (mX9_means_b50 (rSf σ 55 (L.getD i 0))) (MO9 σ (L.getD i 0, if q = true ∧ L.getD i 0 = 34 ∧ i + 1 < b ∧ L.getD (i + 1) 0 = 34 then 2 else 1)) := fun h => by
      rw [if_neg h]
      exact pq_ret ⟨_, rfl, sf_eq, fr0⟩
    cases q with
    | false => exact pq_t rfl (one (fun h => by cases h.1))
    | true =>
      refine pq_f (show ¬ (1 : Int32) = 0 by decide) (pq_ck (pq_eq (fun q2 => ?_) (fun q2 => one (fun h => q2 h.2.1))))
      refine pq_le (nI_toInt (by omega)) (nI_toInt (by omega)) (fun q3 => one (fun h => by omega)) (fun q3 => pq_ck ?_)
      rw [rd_nI (by omega), hL _ (by omega)]
      refine pq_eq (fun q4 => ?_) (fun q4 => one (fun h => q4 h.2.2.2))
      rw [if_pos ⟨rfl, q2, by omega, q4⟩]
      exact pq_ret ⟨_, rfl, sf_eq, fr0⟩
  · refine pq_eq (fun q2 => ?_) (fun q2 => ?_)
    · have e : mw k q L i b = mkM L i b := by
        unfold mw
        rw [if_neg q1, if_pos q2]
      rw [e]
      have hL0 : RLs (rSf σ 55 (L.getD i 0)) r L := hL
      have b116 : ∀ (v : Int32) (σ1 : RS9), σ1.1 55 = v → FRX NO9 F55 σ σ1 → PQ (mX9_means_b116 r (nI i) σ1) (fun y => y = (if v = L.getD i 0 then 1 else 4, σ1)) := fun v σ1 hv hX => by
        unfold mX9_means_b116
        have hLi1 : rGa σ1 r (nI i) = L.getD i 0 := by
          rw [rd_nI (by omega), hX.1 r (fun q => q)]; exact hL i (by omega)
        rw [hLi1, hv]
        refine pq_ck (pq_eq (fun q3 => ?_) (fun q3 => ?_))
        · rw [if_pos q3]; exact pq_ret rfl
        · rw [if_neg q3]; exact pq_ret rfl
      refine pq_isr (r_stands (t := 0) hL0 h6 (by omega) hb (by omega)) ?_
      cases s0 : stB L i b (wd9 0) with
      | true =>
        obtain ⟨c1, c2, c3, c4, c5⟩ := st_lt.mp s0
        have em : mkM L i b = (60, 4) := by
          unfold mkM
          rw [if_pos c2, if_pos ⟨c1, c3, c4, c5⟩]
        rw [em]
        refine pq_f (show ¬ (1 : Int32) = 0 by decide) (pq_tail (b116 60 _ sf_eq ⟨fun _ _ => rfl, fun k hk => (sf_ne hk).trans (sf_ne hk)⟩) (fun y hy => ?_))
        rw [hy, if_neg (by rw [c2]; decide)]
        exact ⟨_, rfl, sf_eq, ⟨fun _ _ => rfl, fun k hk => (sf_ne hk).trans (sf_ne hk)⟩⟩
      | false =>
        have n0 : ¬ (i + 4 ≤ b ∧ L.getD i 0 = 38 ∧ L.getD (i + 1) 0 = 108 ∧ L.getD (i + 2) 0 = 116 ∧ L.getD (i + 3) 0 = 59) := fun h => by rw [st_lt.mpr h] at s0; cases s0
        refine pq_t rfl (pq_isr (r_stands (t := 1) hL0 h6 (by omega) hb (by omega)) ?_)
        cases s1 : stB L i b (wd9 1) with
        | true =>
          obtain ⟨c1, c2, c3, c4, c5⟩ := st_gt.mp s1
          have em : mkM L i b = (62, 4) := by
            unfold mkM
            rw [if_pos c2, if_neg (fun h => n0 ⟨h.1, c2, h.2⟩), if_pos ⟨c1, c3, c4, c5⟩]
          rw [em]
          refine pq_f (show ¬ (1 : Int32) = 0 by decide) (pq_tail (b116 62 _ sf_eq ⟨fun _ _ => rfl, fun k hk => (sf_ne hk).trans (sf_ne hk)⟩) (fun y hy => ?_))
          rw [hy, if_neg (by rw [c2]; decide)]
          exact ⟨_, rfl, sf_eq, ⟨fun _ _ => rfl, fun k hk => (sf_ne hk).trans (sf_ne hk)⟩⟩
        | false =>
          have n1 : ¬ (i + 4 ≤ b ∧ L.getD i 0 = 38 ∧ L.getD (i + 1) 0 = 103 ∧ L.getD (i + 2) 0 = 116 ∧ L.getD (i + 3) 0 = 59) := fun h => by rw [st_gt.mpr h] at s1; cases s1
          refine pq_t rfl (pq_isr (r_stands (t := 2) hL0 h6 (by omega) hb (by omega)) ?_)
          cases s2 : stB L i b (wd9 2) with
          | true =>
            obtain ⟨c1, c2, c3⟩ := st_am.mp s2
            have em : mkM L i b = (38, 5) := by
              unfold mkM
              rw [if_pos c2, if_neg (fun h => n0 ⟨h.1, c2, h.2⟩), if_neg (fun h => n1 ⟨h.1, c2, h.2⟩), if_pos ⟨c1, c3⟩]
            rw [em]
            exact pq_f (show ¬ (1 : Int32) = 0 by decide) (pq_ret ⟨_, rfl, sf_eq.trans c2, fr0⟩)
          | false =>
            have n2 : ¬ (i + 5 ≤ b ∧ L.getD i 0 = 38 ∧ L.getD (i + 1) 0 = 97 ∧ L.getD (i + 2) 0 = 109 ∧ L.getD (i + 3) 0 = 112 ∧ L.getD (i + 4) 0 = 59) := fun h => by rw [st_am.mpr h] at s2; cases s2
            have em : mkM L i b = (L.getD i 0, 1) := by
              unfold mkM
              by_cases c2 : L.getD i 0 = 38
              · rw [if_pos c2, if_neg (fun h => n0 ⟨h.1, c2, h.2⟩), if_neg (fun h => n1 ⟨h.1, c2, h.2⟩), if_neg (fun h => n2 ⟨h.1, c2, h.2⟩), c2]
              · rw [if_neg c2]
            rw [em]
            refine pq_t rfl (pq_tail (b116 (L.getD i 0) _ sf_eq fr0) (fun y hy => ?_))
            rw [hy, if_pos rfl]
            exact ⟨_, rfl, sf_eq, fr0⟩
    · have e : mw k q L i b = if L.getD i 0 = 92 ∧ i + 1 < b then bkM k (L.getD (i + 1) 0) else (L.getD i 0, 1) := by
        unfold mw
        rw [if_neg q1, if_neg q2]
      rw [e]
      have one : ¬ (L.getD i 0 = 92 ∧ i + 1 < b) → PQ (mX9_means_b165 (rSf σ 55 (L.getD i 0))) (MO9 σ (if L.getD i 0 = 92 ∧ i + 1 < b then bkM k (L.getD (i + 1) 0) else (L.getD i 0, 1))) := fun h => by
        rw [if_neg h]
        unfold mX9_means_b165 mX9_means_b166
        exact pq_t rfl (pq_ret ⟨_, rfl, sf_eq, fr0⟩)
      refine pq_ck (pq_eq (fun q3 => ?_) (fun q3 => one (fun h => q3 h.1)))
      refine pq_le (nI_toInt (by omega)) (nI_toInt (by omega)) (fun q4 => one (fun h => by omega)) (fun q4 => pq_ck ?_)
      rw [rd_nI (by omega), hL _ (by omega), if_pos ⟨q3, by omega⟩]
      have two : ∀ v : Int32, bkM k (L.getD (i + 1) 0) = (v, 2) → v ≠ -1 → PQ (mX9_means_b166 v (rSf σ 55 (L.getD i 0))) (MO9 σ (bkM k (L.getD (i + 1) 0))) := fun v hv h1 => by
        rw [hv]
        exact pq_f h1 (pq_ret ⟨_, rfl, sf_eq, ⟨fun _ _ => rfl, fun k hk => (sf_ne hk).trans (sf_ne hk)⟩⟩)
      have one2 : bkM k (L.getD (i + 1) 0) = (92, 1) → PQ (mX9_means_b166 (-1) (rSf σ 55 (L.getD i 0))) (MO9 σ (bkM k (L.getD (i + 1) 0))) := fun hv => by
        rw [hv]
        exact pq_t rfl (pq_ret ⟨_, rfl, sf_eq.trans q3, fr0⟩)
      refine pq_call (Q1 := fun y => ∃ v, y = (v, rSf σ 55 (L.getD i 0)) ∧ ((bkM k (L.getD (i + 1) 0) = (v, 2) ∧ v ≠ -1) ∨ (v = -1 ∧ bkM k (L.getD (i + 1) 0) = (92, 1)))) ?_ (fun y hy => ?_)
      · generalize L.getD (i + 1) 0 = c
        unfold mX9_backMeaning
        refine pq_eq (fun c1 => pq_ret ⟨10, rfl, Or.inl ⟨if_pos c1, by decide⟩⟩) (fun c1 => ?_)
        refine pq_eq (fun c2 => pq_ret ⟨9, rfl, Or.inl ⟨(if_neg c1).trans (if_pos c2), by decide⟩⟩) (fun c2 => ?_)
        refine pq_eq (fun c3 => pq_ret ⟨92, rfl, Or.inl ⟨(if_neg c1).trans ((if_neg c2).trans (if_pos c3)), by decide⟩⟩) (fun c3 => ?_)
        have b40 : ¬ (c = 32 ∧ k = 0) → PQ (mX9_backMeaning_b40 k c (rSf σ 55 (L.getD i 0))) (fun y => ∃ v, y = (v, rSf σ 55 (L.getD i 0)) ∧ ((bkM k c = (v, 2) ∧ v ≠ -1) ∨ (v = -1 ∧ bkM k c = (92, 1)))) := fun c4 => by
          have e3 : bkM k c = if c = 34 ∧ k = 3 then (34, 2) else (92, 1) := (if_neg c1).trans ((if_neg c2).trans ((if_neg c3).trans (if_neg c4)))
          unfold mX9_backMeaning_b40
          refine pq_eq (fun c5 => pq_eq (fun c6 => pq_ret ⟨34, rfl, Or.inl ⟨e3.trans (if_pos ⟨c5, c6⟩), by decide⟩⟩) (fun c6 => pq_ret ⟨-1, rfl, Or.inr ⟨rfl, e3.trans (if_neg (fun h => c6 h.2))⟩⟩)) (fun c5 => pq_ret ⟨-1, rfl, Or.inr ⟨rfl, e3.trans (if_neg (fun h => c5 h.1))⟩⟩)
        refine pq_eq (fun c4 => pq_eq (fun c5 => pq_ret ⟨32, rfl, Or.inl ⟨(if_neg c1).trans ((if_neg c2).trans ((if_neg c3).trans (if_pos ⟨c4, c5⟩))), by decide⟩⟩) (fun c5 => b40 (fun h => c5 h.2))) (fun c4 => b40 (fun h => c4 h.1))
      · obtain ⟨v, rfl, h | h⟩ := hy
        · exact two v h.1 h.2
        · rw [h.1]; exact one2 h.2
end RUN
end
/-! part 61b.takes -/
section
/-! the reference undoes escapes, takes pieces -/
def UT (σ0 σ : RS9) (bg fi o1 o2 o3 : Nat) (U : List UI) : Prop := ∀ j, j < U.length → σ.2 o1 j = (U.getD j u0).1 ∧ σ.2 o2 j = σ0.2 bg (U.getD j u0).2.1 ∧ σ.2 o3 j = σ0.2 fi ((U.getD j u0).2.2 - 1)
abbrev R3 (o1 o2 o3 : Nat) : Nat → Prop := fun k => k = o1 ∨ k = o2 ∨ k = o3
theorem ugd_l {U W : List UI} {i : Nat} (h : i < U.length) : (U ++ W).getD i u0 = U.getD i u0 := by
  rw [List.getD_eq_getElem?_getD, List.getD_eq_getElem?_getD, List.getElem?_append_left h]
theorem ugd_n {U : List UI} {x : UI} : (U ++ [x]).getD U.length u0 = x := by
  rw [List.getD_eq_getElem?_getD, List.getElem?_append_right (Nat.le_refl _), Nat.sub_self]; rfl
def U6 (r bg fi o1 o2 o3 : Nat) : Prop := (r = 13 ∧ bg = 14 ∧ fi = 15 ∧ o1 = 23 ∧ o2 = 24 ∧ o3 = 25) ∨ (r = 23 ∧ bg = 24 ∧ fi = 25 ∧ o1 = 30 ∧ o2 = 31 ∧ o3 = 32)
section RTK
variable {σ : RS9} {L : BL}
theorem r_undoes {r bg fi o1 o2 o3 : Nat} {k : Int32} {q : Bool} {a b : Nat} (hU : U6 r bg fi o1 o2 o3) (hL : RLs σ r L) (h6 : L.length ≤ 600) (ha : a ≤ 2000) (hb : b ≤ L.length) (hk : k = 0 ∨ k = 1 ∨ k = 2 ∨ k = 3) : PQ (mX9_undoes k (bI q) r bg fi (nI a) (nI b) o1 o2 o3 σ) (fun y => ∃ σ', y = (nI (und k q L a b).length, σ') ∧ UT σ σ' bg fi o1 o2 o3 (und k q L a b) ∧ FRX (R3 o1 o2 o3) F55 σ σ') := by
  have hne : r ≠ o1 ∧ r ≠ o2 ∧ r ≠ o3 ∧ bg ≠ o1 ∧ bg ≠ o2 ∧ bg ≠ o3 ∧ fi ≠ o1 ∧ fi ≠ o2 ∧ fi ≠ o3 ∧ o1 ≠ o2 ∧ o1 ≠ o3 ∧ o2 ≠ o3 := by unfold U6 at hU; omega
  have hlen : rLen o1 = 600 := by rcases hU with ⟨-, -, -, rfl, -⟩ | ⟨-, -, -, rfl, -⟩ <;> rfl
  have key : ∀ (d i : Nat) (U0 : List UI) (σ1 : RS9), U0 ++ und k q L i b = und k q L a b → FRX (R3 o1 o2 o3) F55 σ σ1 → UT σ σ1 bg fi o1 o2 o3 U0 → i ≤ 2000 → U0.length ≤ 600 → PQ (mX9_undoes_l7 d k (bI q) r bg fi (nI b) o1 o2 o3 (nI U0.length) (nI i) σ1) (fun y => ∃ σ', y = (nI (und k q L a b).length, σ') ∧ UT σ σ' bg fi o1 o2 o3 (und k q L a b) ∧ FRX (R3 o1 o2 o3) F55 σ σ') := by
    intro d
    induction d with
    | zero => intro i U0 σ1 _ _ _ _ _; exact pq_none
    | succ d ih =>
      intro i U0 σ1 hs hX hT hi2 hU6
      unfold mX9_undoes_l7
      refine pq_le (nI_toInt (by omega)) (nI_toInt (by omega)) (fun q1 => ?_) (fun q1 => ?_)
      · rw [und_end (by omega), List.append_nil] at hs
        rw [← hs]
        exact pq_ret ⟨σ1, rfl, hT, hX⟩
      · have hib : i < b := by omega
        have hL1 : RLs σ1 r L := RL_frx hL hX (fun h => by omega)
        have hm := mw_b (k := k) (q := q) (L := L) hib
        refine pq_call (r_means (q := q) hL1 h6 hib hb hk) (fun y hy => ?_)
        obtain ⟨σ2, rfl, h55, hX2⟩ := hy
        refine pq_ckb (fun hin => pq_ck (pq_ck (pq_ck (pq_ck ?_))))
        rw [hlen] at hin
        have hn6 := in_nI (by omega) hin
        show PQ (mX9_undoes_l7 d k (bI q) r bg fi (nI b) o1 o2 o3 (nI U0.length + 1) (nI i + nI (mw k q L i b).2) (rSa (rSa (rSa σ2 o1 (nI U0.length) (σ2.1 55)) o2 (nI U0.length) (rGa (rSa σ2 o1 (nI U0.length) (σ2.1 55)) bg (nI i))) o3 (nI U0.length) (rGa (rSa (rSa σ2 o1 (nI U0.length) (σ2.1 55)) o2 (nI U0.length) (rGa (rSa σ2 o1 (nI U0.length) (σ2.1 55)) bg (nI i))) fi ((nI i + nI (mw k q L i b).2) - (1 : Int32))))) _
        rw [nI_1, nI_add, h55]
        rw [show nI (i + (mw k q L i b).2) - (1 : Int32) = nI (i + (mw k q L i b).2 - 1) from nI_sb (b := 1) (by omega) (by omega)]
        have hbg : rGa (rSa σ2 o1 (nI U0.length) (mw k q L i b).1) bg (nI i) = σ.2 bg i := by
          rw [rd_nI (by omega), sa_ne (by omega), hX2.1 bg (fun h => h), hX.1 bg (fun h => by omega)]
        rw [hbg]
        have hfi : rGa (rSa (rSa σ2 o1 (nI U0.length) (mw k q L i b).1) o2 (nI U0.length) (σ.2 bg i)) fi (nI (i + (mw k q L i b).2 - 1)) = σ.2 fi (i + (mw k q L i b).2 - 1) := by
          rw [rd_nI (by omega), sa_ne (by omega), sa_ne (by omega), hX2.1 fi (fun h => h), hX.1 fi (fun h => by omega)]
        rw [hfi]
        have hst := und_st (k := k) (q := q) (L := L) hib
        have hX3 : FRX (R3 o1 o2 o3) F55 σ (rSa (rSa (rSa σ2 o1 (nI U0.length) (mw k q L i b).1) o2 (nI U0.length) (σ.2 bg i)) o3 (nI U0.length) (σ.2 fi (i + (mw k q L i b).2 - 1))) := by
          refine frx_tr hX ⟨fun z hz => ?_, fun z hz => hX2.2 z hz⟩
          rw [sa_ne (fun h => hz (by omega)), sa_ne (fun h => hz (by omega)), sa_ne (fun h => hz (by omega)), hX2.1 z (fun h => h)]
        have hl : (U0 ++ [((mw k q L i b).1, i, i + (mw k q L i b).2)]).length = U0.length + 1 := by rw [List.length_append]; rfl
        rw [← hl]
        refine ih (i + (mw k q L i b).2) (U0 ++ [((mw k q L i b).1, i, i + (mw k q L i b).2)]) _ ?_ hX3 (fun j hj => ?_) (by omega) (by omega)
        · rw [List.append_assoc, ← hs, hst]; rfl
        · rw [hl] at hj
          by_cases e : j = U0.length
          · rw [e, ugd_n]
            refine ⟨?_, ?_, ?_⟩
            · rw [sa_ne (by omega), sa_ne (by omega), sa_nI (by omega), if_pos rfl]
            · rw [sa_ne (by omega), sa_nI (by omega), if_pos rfl]
            · rw [sa_nI (by omega), if_pos rfl]
          · have hj2 : j < U0.length := by omega
            obtain ⟨t1, t2, t3⟩ := hT j hj2
            rw [ugd_l hj2]
            refine ⟨?_, ?_, ?_⟩
            · rw [sa_ne (by omega), sa_ne (by omega), sa_nI (by omega), if_neg e, hX2.1 o1 (fun h => h)]; exact t1
            · rw [sa_ne (by omega), sa_nI (by omega), if_neg e, sa_ne (by omega), hX2.1 o2 (fun h => h)]; exact t2
            · rw [sa_nI (by omega), if_neg e, sa_ne (by omega), sa_ne (by omega), hX2.1 o3 (fun h => h)]; exact t3
  unfold mX9_undoes
  exact key rFU a [] σ rfl frx_rfl (fun j hj => absurd hj (Nat.not_lt_zero _)) ha (by show 0 ≤ 600; omega)
/-! kinds and rules in a row of numbers -/
def MC (μ : Nat → Int32) (cf : CFG) : Prop := μ 1 = cf.1 ∧ μ 2 = cf.2.1 ∧ μ 3 = cf.2.2.1 ∧ μ 4 = nI cf.2.2.2.1 ∧ μ 5 = nI cf.2.2.2.2.length ∧ (∀ l, l < cf.2.2.2.2.length → μ (6 + 9 * l) = nI (cf.2.2.2.2.getD l []).length ∧ ∀ k, k < (cf.2.2.2.2.getD l []).length → μ (6 + 9 * l + 1 + k) = (cf.2.2.2.2.getD l []).getD k 0) ∧ CFok cf
def ciD : CI := (0, 0, false, 0, 0)
theorem cf_lk {cf : CFG} (h : CFok cf) {l : Nat} (hl : l < cf.2.2.2.2.length) : (cf.2.2.2.2.getD l []).length ≤ 8 := by
  refine h.2.2.2.2.2 _ ?_
  rw [List.getD_eq_getElem?_getD, List.getElem?_eq_getElem hl]
  exact List.getElem_mem hl
theorem r_isLocked {cf : CFG} {c : Nat} {ci : CI} (hM : MC (σ.2 1) cf) (hL : RLs σ 13 L) (h6 : L.length ≤ 600) (hc : c ≤ 600) (hk : cf.1 = 0 → σ.2 20 c = nI ci.2.2.2.1 ∧ σ.2 21 c = nI ci.2.2.2.2 ∧ ci.2.2.2.1 + ci.2.2.2.2 ≤ L.length) : PQ (mX9_isLocked (nI c) σ) (fun y => y = (bI (lkd cf L ci), σ)) := by
  obtain ⟨m1, m2, m3, m4, m5, m6, m7⟩ := hM
  have hl4 := m7.2.2.2.2.1
  unfold mX9_isLocked
  refine pq_ck ?_
  have e1 : rGa σ 1 (1 : Int32) = cf.1 := m1
  rw [e1]
  refine pq_eq (fun q => ?_) (fun q => ?_)
  · obtain ⟨k1, k2, k3⟩ := hk q
    have el : lkd cf L ci = cf.2.2.2.2.any (fun w => decide (w.length ≤ ci.2.2.2.2) && smF w 0 L ci.2.2.2.1 w.length) := by
      unfold lkd
      rw [decide_eq_true q, Bool.true_and]
    rw [el]
    have key : ∀ (d t : Nat), t ≤ cf.2.2.2.2.length → PQ (mX9_isLocked_l13 d (nI c) (nI t) σ) (fun y => y = (bI ((cf.2.2.2.2.drop t).any (fun w => decide (w.length ≤ ci.2.2.2.2) && smF w 0 L ci.2.2.2.1 w.length)), σ)) := by
      intro d
      induction d with
      | zero => intro t _; exact pq_none
      | succ d ih =>
        intro t ht
        unfold mX9_isLocked_l13
        have e5 : rGa σ 1 (5 : Int32) = nI cf.2.2.2.2.length := m5
        rw [e5]
        refine pq_ck (pq_le (nI_toInt (by omega)) (nI_toInt (by omega)) (fun q1 => ?_) (fun q1 => ?_))
        · rw [List.drop_eq_nil_of_le (by omega)]
          exact pq_ck (pq_ret rfl)
        · have htl : t < cf.2.2.2.2.length := by omega
          obtain ⟨a1, a2⟩ := m6 t htl
          have w8 := cf_lk m7 htl
          rw [show (6 : Int32) + (9 : Int32) * nI t = nI (6 + 9 * t) by rw [show (9 : Int32) * nI t = nI (9 * t) from nI_mulc 9 t]; exact nI_add 6 (9 * t)]
          rw [rd_nI (by omega), rd_nI (by omega), a1, k2, bdr_st htl, List.any_cons]
          refine pq_ck (pq_ck ?_)
          have b114 : ∀ is : Bool, is = (decide ((cf.2.2.2.2.getD t []).length ≤ ci.2.2.2.2) && smF (cf.2.2.2.2.getD t []) 0 L ci.2.2.2.1 (cf.2.2.2.2.getD t []).length) → PQ (mX9_isLocked_b114 (fun v1 v2 σ => mX9_isLocked_l13 d v1 v2 σ) (nI c) (nI t) (bI is) σ) (fun y => y = (bI ((decide ((cf.2.2.2.2.getD t []).length ≤ ci.2.2.2.2) && smF (cf.2.2.2.2.getD t []) 0 L ci.2.2.2.1 (cf.2.2.2.2.getD t []).length) || (cf.2.2.2.2.drop (t + 1)).any (fun w => decide (w.length ≤ ci.2.2.2.2) && smF w 0 L ci.2.2.2.1 w.length)), σ)) := fun is his => by
            rw [← his]
            unfold mX9_isLocked_b114
            cases is with
            | false =>
              refine pq_t rfl ?_
              rw [nI_1, Bool.false_or]
              exact ih (t + 1) (by omega)
            | true =>
              refine pq_f (show ¬ (1 : Int32) = 0 by decide) ?_
              rw [Bool.true_or]
              exact pq_ck (pq_ret rfl)
          generalize hw : cf.2.2.2.2.getD t [] = w at a1 a2 w8 b114 ⊢
          refine pq_lt (nI_toInt (by omega)) (nI_toInt (by omega)) (fun q2 => ?_) (fun q2 => ?_)
          · unfold mX9_isLocked_b51
            have hf : (decide (w.length ≤ ci.2.2.2.2) && smF w 0 L ci.2.2.2.1 w.length) = false := by rw [decide_eq_false (by omega), Bool.false_and]
            have k0 : ∀ d2, PQ (mX9_isLocked_l56 (fun v1 v2 σ => mX9_isLocked_l13 d v1 v2 σ) d2 (nI c) (nI t) (nI w.length) 0 0 σ) (fun y => y = (bI ((decide (w.length ≤ ci.2.2.2.2) && smF w 0 L ci.2.2.2.1 w.length) || (cf.2.2.2.2.drop (t + 1)).any (fun w => decide (w.length ≤ ci.2.2.2.2) && smF w 0 L ci.2.2.2.1 w.length)), σ)) := by
              intro d2
              cases d2 with
              | zero => exact pq_none
              | succ d2 =>
                unfold mX9_isLocked_l56
                exact pq_le rfl rfl (fun _ => b114 false hf.symm) (fun _ => pq_t rfl (b114 false hf.symm))
            exact k0 rFU
          · unfold mX9_isLocked_b51
            have ht' : decide (w.length ≤ ci.2.2.2.2) = true := decide_eq_true (by omega)
            have k1' : ∀ (d2 i : Nat) (is : Bool), i ≤ w.length → is = smF w 0 L ci.2.2.2.1 i → PQ (mX9_isLocked_l56 (fun v1 v2 σ => mX9_isLocked_l13 d v1 v2 σ) d2 (nI c) (nI t) (nI w.length) (bI is) (nI i) σ) (fun y => y = (bI ((decide (w.length ≤ ci.2.2.2.2) && smF w 0 L ci.2.2.2.1 w.length) || (cf.2.2.2.2.drop (t + 1)).any (fun w => decide (w.length ≤ ci.2.2.2.2) && smF w 0 L ci.2.2.2.1 w.length)), σ)) := by
              intro d2
              induction d2 with
              | zero => intro i is _ _; exact pq_none
              | succ d2 ih2 =>
                intro i is hi his
                unfold mX9_isLocked_l56
                refine pq_le (nI_toInt (by omega)) (nI_toInt (by omega)) (fun q3 => ?_) (fun q3 => ?_)
                · have : i = w.length := by omega
                  subst this
                  exact b114 is (by rw [ht', Bool.true_and]; exact his)
                · cases is with
                  | false =>
                    refine pq_t rfl (b114 false ?_)
                    rw [ht', Bool.true_and]
                    cases hx : smF w 0 L ci.2.2.2.1 w.length with
                    | false => rfl
                    | true =>
                      have := (smF_all i 0 ci.2.2.2.1).mpr (fun z hz => (smF_all _ _ _).mp hx z (by omega))
                      rw [this] at his; cases his
                  | true =>
                    refine pq_f (show ¬ (1 : Int32) = 0 by decide) (pq_ck (pq_ck (pq_ck ?_)))
                    have hall := (smF_all i 0 ci.2.2.2.1).mp his.symm
                    rw [show (((6 : Int32) + (9 : Int32) * nI t) + (1 : Int32)) + nI i = nI (6 + 9 * t + 1 + i) by rw [show (9 : Int32) * nI t = nI (9 * t) from nI_mulc 9 t, show (6 : Int32) + nI (9 * t) = nI (6 + 9 * t) from nI_add 6 (9 * t), nI_1, nI_add]]
                    rw [rd_nI (k := c) (by omega), k1, nI_add, rd_nI (by omega), rd_nI (by omega), hL _ (by omega), a2 i (by omega)]
                    have step : ∀ v : Bool, v = decide (w.getD i 0 = L.getD (ci.2.2.2.1 + i) 0) → v = smF w 0 L ci.2.2.2.1 (i + 1) := fun v hv => by
                      rw [hv]
                      cases hx : smF w 0 L ci.2.2.2.1 (i + 1) with
                      | true =>
                        have := (smF_all _ _ _).mp hx i (by omega)
                        rw [Nat.zero_add] at this
                        exact decide_eq_true this
                      | false =>
                        refine decide_eq_false (fun h => ?_)
                        have : smF w 0 L ci.2.2.2.1 (i + 1) = true := (smF_all _ _ _).mpr (fun z hz => by
                          by_cases e : z = i
                          · rw [e, Nat.zero_add]; exact h
                          · exact hall z (by omega))
                        rw [this] at hx; cases hx
                    refine pq_eq (fun q4 => ?_) (fun q4 => ?_)
                    · unfold mX9_isLocked_b106
                      rw [nI_1]
                      exact ih2 (i + 1) true (by omega) (step true (decide_eq_true q4.symm).symm)
                    · unfold mX9_isLocked_b106
                      rw [nI_1]
                      exact ih2 (i + 1) false (by omega) (step false (decide_eq_false (fun h => q4 h.symm)).symm)
            exact k1' rFU 0 true (Nat.zero_le _) rfl
    exact key rFU 0 (Nat.zero_le _)
  · have el : lkd cf L ci = false := by
      unfold lkd
      rw [decide_eq_false q, Bool.false_and]
    rw [el]
    exact pq_ck (pq_ret rfl)
end RTK
end
/-! part 61c.takes -/
section
/-! the reference takes a piece -/
abbrev RT9 : Nat → Prop := fun k => 34 ≤ k ∧ k ≤ 44
abbrev FT9 : Nat → Prop := fun k => k = 33 ∨ k = 45
def PT (σ : RS9) (kf : Bool) (P : List Pc) : Prop := (σ.1 33 = nI P.length ∧ P.length ≤ 40) ∧ (σ.1 45 = nI (txs P).length ∧ (txs P).length ≤ 600 ∧ (ogs P).length = (txs P).length ∧ RLs σ 43 (txs P) ∧ RLs σ 44 (ogs P)) ∧ ∀ i, i < P.length → σ.2 34 i = nI (P.getD i pc0).1 ∧ σ.2 35 i = nI (P.getD i pc0).2.1 ∧ σ.2 36 i = bI (P.getD i pc0).2.2.1 ∧ σ.2 37 i = bI (P.getD i pc0).2.2.2.1 ∧ σ.2 38 i = bI (P.getD i pc0).2.2.2.2.1 ∧ (kf = true → σ.2 39 i = nI (P.getD i pc0).2.2.2.2.2.1 ∧ σ.2 40 i = nI (P.getD i pc0).2.2.2.2.2.2.1) ∧ σ.2 41 i = nI (tAt P i) ∧ σ.2 42 i = nI (pX (P.getD i pc0)).length
theorem PT_frx {R F : Nat → Prop} {σ σ' : RS9} {kf : Bool} {P : List Pc} (h : PT σ kf P) (hX : FRX R F σ σ') (hR : ∀ k, 34 ≤ k → k ≤ 44 → ¬ R k) (hF : ¬ F 33 ∧ ¬ F 45) : PT σ' kf P := by
  obtain ⟨⟨a1, a2⟩, ⟨b1, b2, b3, b4, b5⟩, c⟩ := h
  refine ⟨⟨(hX.2 33 hF.1).trans a1, a2⟩, ⟨(hX.2 45 hF.2).trans b1, b2, b3, RL_frx b4 hX (hR 43 (by omega) (by omega)), RL_frx b5 hX (hR 44 (by omega) (by omega))⟩, fun i hi => ?_⟩
  rw [hX.1 34 (hR _ (by omega) (by omega)), hX.1 35 (hR _ (by omega) (by omega)), hX.1 36 (hR _ (by omega) (by omega)), hX.1 37 (hR _ (by omega) (by omega)), hX.1 38 (hR _ (by omega) (by omega)), hX.1 39 (hR _ (by omega) (by omega)), hX.1 40 (hR _ (by omega) (by omega)), hX.1 41 (hR _ (by omega) (by omega)), hX.1 42 (hR _ (by omega) (by omega))]
  exact c i hi
section RTP
variable {σ : RS9} {L : BL}
theorem r_isIn {v lo hi : Int32} : PQ (mX9_isIn v lo hi σ) (fun y => y = (bI (decide (lo.toInt ≤ v.toInt ∧ v.toInt ≤ hi.toInt)), σ)) := by
  unfold mX9_isIn
  refine pq_lt rfl rfl (fun q => ?_) (fun q => pq_lt rfl rfl (fun q2 => ?_) (fun q2 => ?_))
  · rw [decide_eq_false (by omega)]
    unfold mX9_isIn_b14 mX9_isIn_b15
    exact pq_ck (pq_ret rfl)
  · rw [decide_eq_false (by omega)]
    unfold mX9_isIn_b14 mX9_isIn_b15
    exact pq_ck (pq_ret rfl)
  · rw [decide_eq_true ⟨q, q2⟩]
    exact pq_ck (pq_ret rfl)
theorem isLet_d {c : Int32} : isLet c = (decide (97 ≤ c.toInt ∧ c.toInt ≤ 122) || decide (65 ≤ c.toInt ∧ c.toInt ≤ 90)) := by
  unfold isLet
  exact Bool.decide_or _ _
theorem r_isLetter {c : Int32} : PQ (mX9_isLetter c σ) (fun y => y = (bI (isLet c), σ)) := by
  unfold mX9_isLetter
  rw [isLet_d]
  refine pq_isr r_isIn ?_
  rw [kt_97, kt_122]
  cases h1 : decide (97 ≤ c.toInt ∧ c.toInt ≤ 122) with
  | true =>
    refine pq_f (show ¬ (1 : Int32) = 0 by decide) ?_
    unfold mX9_isLetter_b22 mX9_isLetter_b27
    exact pq_ck (pq_ret rfl)
  | false =>
    refine pq_t rfl (pq_isr r_isIn ?_)
    rw [kt_65, kt_90]
    cases h2 : decide (65 ≤ c.toInt ∧ c.toInt ≤ 90) with
    | true =>
      refine pq_f (show ¬ (1 : Int32) = 0 by decide) ?_
      unfold mX9_isLetter_b22 mX9_isLetter_b27
      exact pq_ck (pq_ret rfl)
    | false => exact pq_t rfl (pq_ck (pq_ret rfl))
theorem any_dr {X : BL} {i : Nat} (h : i < X.length) : (X.drop i).any isLet = (isLet (X.getD i 0) || (X.drop (i + 1)).any isLet) := by
  rw [dr_st h, List.any_cons]
theorem r_isPiece {cf : CFG} {t1 : Nat} {X : BL} {p : Nat} (hM : MC (σ.2 1) cf) (hX : RLs σ t1 X) (hX6 : X.length ≤ 600) (h33 : σ.1 33 = nI p) (hp : p ≤ 40) : PQ (mX9_isPiece t1 (nI X.length) σ) (fun y => y = (bI (okT cf X && decide (p < 40)), σ)) := by
  obtain ⟨m1, m2, m3, m4, m5, m6, m7⟩ := hM
  have hle := m7.2.2.2.1.2
  unfold mX9_isPiece
  have e4 : rGa σ 1 (4 : Int32) = nI cf.2.2.2.1 := m4
  have e3 : rGa σ 1 (3 : Int32) = cf.2.2.1 := m3
  rw [e4, e3, h33]
  refine pq_ck (pq_lt (nI_toInt (by omega)) (nI_toInt (by omega)) (fun q => ?_) (fun q => ?_))
  · have : okT cf X = false := by
      unfold okT
      rw [decide_eq_false (by omega), Bool.false_and]
    rw [this, Bool.false_and]
    exact pq_ck (pq_ret rfl)
  · refine pq_eqi (nI_toInt (by omega)) kt_40 (fun q1 => ?_) (fun q1 => ?_)
    · rw [decide_eq_false (show ¬ p < 40 by omega), Bool.and_false]
      exact pq_ck (pq_ret rfl)
    · rw [decide_eq_true (show p < 40 by omega), Bool.and_true]
      have eo : okT cf X = (decide (cf.2.2.1 = 0) || X.any isLet) := by
        unfold okT
        rw [decide_eq_true (by omega), Bool.true_and]
      rw [eo]
      refine pq_ck (pq_eq (fun q2 => ?_) (fun q2 => ?_))
      · rw [decide_eq_true q2, Bool.true_or]
        exact pq_ck (pq_ret rfl)
      · rw [decide_eq_false q2, Bool.false_or]
        have key : ∀ (d i : Nat), i ≤ X.length → PQ (mX9_isPiece_l34 d t1 (nI X.length) (nI i) σ) (fun y => y = (bI ((X.drop i).any isLet), σ)) := by
          intro d
          induction d with
          | zero => intro i _; exact pq_none
          | succ d ih =>
            intro i hi
            unfold mX9_isPiece_l34
            refine pq_le (nI_toInt (by omega)) (nI_toInt (by omega)) (fun q3 => ?_) (fun q3 => ?_)
            · rw [List.drop_eq_nil_of_le (by omega)]
              exact pq_ck (pq_ret rfl)
            · have hi' : i < X.length := by omega
              rw [rd_nI (by omega), hX i hi', any_dr hi']
              refine pq_ck (pq_isr r_isLetter ?_)
              cases hl : isLet (X.getD i 0) with
              | false =>
                refine pq_t rfl ?_
                rw [nI_1, Bool.false_or]
                exact ih (i + 1) (by omega)
              | true =>
                refine pq_f (show ¬ (1 : Int32) = 0 by decide) ?_
                rw [Bool.true_or]
                exact pq_ck (pq_ret rfl)
        exact key rFU 0 (Nat.zero_le _)
/-- the bytes of a piece are put behind -/
theorem r_tkL {t1 t2 : Nat} {X : BL} {O : BL} {T0 O0 : BL} {p : Nat} (ht1 : t1 ≠ 43 ∧ t1 ≠ 44) (ht2 : t2 ≠ 43 ∧ t2 ≠ 44) (hXO : O.length = X.length) (hX6 : X.length ≤ 600) (hT6 : T0.length ≤ 600) (hTO : O0.length = T0.length) (hX : RLs σ t1 X) (hO : RLs σ t2 O) (h43 : RLs σ 43 T0) (h44 : RLs σ 44 O0) (h45 : σ.1 45 = nI T0.length) (h33 : σ.1 33 = nI p) : PQ (mX9_takes_l137 rFU t1 t2 (nI X.length) 0 σ) (fun y => ∃ σ', y = (0, σ') ∧ σ'.1 33 = nI (p + 1) ∧ σ'.1 45 = nI (T0.length + X.length) ∧ T0.length + X.length ≤ 600 ∧ RLs σ' 43 (T0 ++ X) ∧ RLs σ' 44 (O0 ++ O) ∧ FRX (fun k => k = 43 ∨ k = 44) FT9 σ σ') := by
  have key : ∀ (d i : Nat) (σ1 : RS9), i ≤ X.length → FRX (fun k => k = 43 ∨ k = 44) FT9 σ σ1 → σ1.1 33 = nI p → σ1.1 45 = nI (T0.length + i) → T0.length + i ≤ 600 → (∀ z, z < T0.length → σ1.2 43 z = T0.getD z 0 ∧ σ1.2 44 z = O0.getD z 0) → (∀ z, z < i → σ1.2 43 (T0.length + z) = X.getD z 0 ∧ σ1.2 44 (T0.length + z) = O.getD z 0) → PQ (mX9_takes_l137 d t1 t2 (nI X.length) (nI i) σ1) (fun y => ∃ σ', y = (0, σ') ∧ σ'.1 33 = nI (p + 1) ∧ σ'.1 45 = nI (T0.length + X.length) ∧ T0.length + X.length ≤ 600 ∧ RLs σ' 43 (T0 ++ X) ∧ RLs σ' 44 (O0 ++ O) ∧ FRX (fun k => k = 43 ∨ k = 44) FT9 σ σ') := by
    intro d
    induction d with
    | zero => intro i σ1 _ _ _ _ _ _ _; exact pq_none
    | succ d ih =>
      intro i σ1 hi hF k33 k45 k6 hlo hhi
      unfold mX9_takes_l137
      refine pq_le (nI_toInt (by omega)) (nI_toInt (by omega)) (fun q => ?_) (fun q => ?_)
      · have e : i = X.length := by omega
        subst e
        refine pq_ret ⟨_, rfl, ?_, ?_, k6, fun z hz => ?_, fun z hz => ?_, ⟨fun z hz => hF.1 z hz, fun z hz => (sf_ne (fun h => hz (Or.inl h))).trans (hF.2 z hz)⟩⟩
        · rw [sf_eq, k33, nI_1]
        · rw [sf_ne (by decide)]; exact k45
        · rw [List.length_append] at hz
          show σ1.2 43 z = _
          rcases Nat.lt_or_ge z T0.length with h | h
          · rw [gd_app_l h]; exact (hlo z h).1
          · rw [gd_app_r h]
            have := (hhi (z - T0.length) (by omega)).1
            rw [show T0.length + (z - T0.length) = z by omega] at this
            exact this
        · rw [List.length_append] at hz
          show σ1.2 44 z = _
          rcases Nat.lt_or_ge z T0.length with h | h
          · rw [gd_app_l (by omega)]; exact (hlo z h).2
          · rw [gd_app_r (by omega), hTO]
            have := (hhi (z - T0.length) (by omega)).2
            rw [show T0.length + (z - T0.length) = z by omega] at this
            exact this
      · rw [k45]
        refine pq_ck (pq_ckb (fun hin => pq_ck (pq_ck ?_)))
        have h600 : T0.length + i < 600 := in_nI (by omega) hin
        have hx1 : rGa σ1 t1 (nI i) = X.getD i 0 := by
          rw [rd_nI (by omega), hF.1 t1 (fun h => by omega)]; exact hX i (by omega)
        rw [hx1]
        have hx2 : rGa (rSa σ1 43 (nI (T0.length + i)) (X.getD i 0)) t2 (nI i) = O.getD i 0 := by
          rw [rd_nI (by omega), sa_ne (by omega), hF.1 t2 (fun h => by omega)]; exact hO i (by omega)
        rw [hx2, nI_1, nI_1]
        have r43 : ∀ z, (rSf (rSa (rSa σ1 43 (nI (T0.length + i)) (X.getD i 0)) 44 (nI (T0.length + i)) (O.getD i 0)) 45 (nI (T0.length + i + 1))).2 43 z = if z = T0.length + i then X.getD i 0 else σ1.2 43 z := fun z => by
          show (rSa (rSa σ1 43 (nI (T0.length + i)) (X.getD i 0)) 44 (nI (T0.length + i)) (O.getD i 0)).2 43 z = _
          rw [sa_ne (by omega), sa_nI (by omega)]
        have r44 : ∀ z, (rSf (rSa (rSa σ1 43 (nI (T0.length + i)) (X.getD i 0)) 44 (nI (T0.length + i)) (O.getD i 0)) 45 (nI (T0.length + i + 1))).2 44 z = if z = T0.length + i then O.getD i 0 else σ1.2 44 z := fun z => by
          show (rSa (rSa σ1 43 (nI (T0.length + i)) (X.getD i 0)) 44 (nI (T0.length + i)) (O.getD i 0)).2 44 z = _
          rw [sa_nI (by omega), sa_ne (by omega)]
        refine ih (i + 1) _ (by omega) (frx_tr hF ⟨fun z hz => ?_, fun z hz => sf_ne (fun h => hz (Or.inr h))⟩) ((sf_ne (by decide)).trans k33) (by rw [sf_eq]; rfl) (by omega) (fun z hz => ?_) (fun z hz => ?_)
        · show (rSa (rSa σ1 43 (nI (T0.length + i)) (X.getD i 0)) 44 (nI (T0.length + i)) (O.getD i 0)).2 z = _
          rw [sa_ne (fun h => hz (Or.inr h)), sa_ne (fun h => hz (Or.inl h))]
        · rw [r43, r44, if_neg (by omega), if_neg (by omega)]; exact hlo z hz
        · rw [r43, r44]
          by_cases e : z = i
          · rw [e, if_pos rfl, if_pos rfl]; exact ⟨rfl, rfl⟩
          · rw [if_neg (by omega), if_neg (by omega)]; exact hhi z (by omega)
  exact key rFU 0 σ (Nat.zero_le _) frx_rfl h33 (by rw [h45]; rfl) (by omega) (fun z hz => ⟨h43 z hz, h44 z (by omega)⟩) (fun z hz => absurd hz (Nat.not_lt_zero _))
end RTP
end
/-! part 61d.takes -/
section
/-! the reference takes a piece, whole -/
abbrev T3 (t1 t2 t3 : Nat) : Prop := (t1 = 23 ∧ t2 = 24 ∧ t3 = 25) ∨ (t1 = 30 ∧ t2 = 31 ∧ t3 = 32)
section RTQ
variable {σ : RS9} {L : BL}
set_option maxHeartbeats 1000000 in
theorem r_take1 {c : Nat} {t1 t2 t3 : Nat} {x : Pc} {P : List Pc} {kf : Bool} (hP : PT σ kf P) (ht : T3 t1 t2 t3) (hp : P.length < 40) (hc : c < 600) (hkf : kf = true → σ.2 20 c = nI x.2.2.2.2.2.1 ∧ σ.2 21 c = nI x.2.2.2.2.2.2.1) (h19 : σ.2 19 c = bI x.2.2.1) (hX : RLs σ t1 (pX x)) (hO : RLs σ t2 ((pG x).map nI)) (hl : (pG x).length = (pX x).length) (h0 : 0 < (pX x).length) (h600 : (pX x).length ≤ 600) (hx0 : σ.2 t2 0 = nI x.1) (hx1 : σ.2 t3 ((pX x).length - 1) = nI x.2.1) : PQ (mX9_takes_b87 (nI c) t1 t2 (nI (pX x).length) (nI P.length) 38 (nI P.length) (bI x.2.2.2.2.1) (rSa (rSa (rSa (rSa σ 34 (nI P.length) (rGa σ t2 (0 : Int32))) 35 (nI P.length) (rGa (rSa σ 34 (nI P.length) (rGa σ t2 (0 : Int32))) t3 (nI (pX x).length - (1 : Int32)))) 36 (nI P.length) (rGa σ 19 (nI c))) 37 (nI P.length) (bI x.2.2.2.1))) (fun y => ∃ σ', y = (0, σ') ∧ PT σ' kf (P ++ [x]) ∧ FRX RT9 FT9 σ σ') := by
  obtain ⟨⟨a1, a2⟩, ⟨b1, b2, b3, b4, b5⟩, hi⟩ := hP
  have hT : t1 ≠ 34 ∧ t1 ≠ 35 ∧ t1 ≠ 36 ∧ t1 ≠ 37 ∧ t1 ≠ 38 ∧ t1 ≠ 39 ∧ t1 ≠ 40 ∧ t1 ≠ 41 ∧ t1 ≠ 42 ∧ t1 ≠ 43 ∧ t1 ≠ 44 := by omega
  have hT2 : t2 ≠ 34 ∧ t2 ≠ 35 ∧ t2 ≠ 36 ∧ t2 ≠ 37 ∧ t2 ≠ 38 ∧ t2 ≠ 39 ∧ t2 ≠ 40 ∧ t2 ≠ 41 ∧ t2 ≠ 42 ∧ t2 ≠ 43 ∧ t2 ≠ 44 := by omega
  have v35 : rGa (rSa σ 34 (nI P.length) (rGa σ t2 (0 : Int32))) t3 (nI (pX x).length - (1 : Int32)) = nI x.2.1 := by
    rw [show nI (pX x).length - (1 : Int32) = nI ((pX x).length - 1) from nI_sb (b := 1) (by omega) (by omega), rd_nI (by omega), sa_ne (by omega)]; exact hx1
  have v34 : rGa σ t2 (0 : Int32) = nI x.1 := hx0
  have v36 : rGa σ 19 (nI c) = bI x.2.2.1 := by rw [rd_nI (by omega)]; exact h19
  rw [v35, v34, v36]
  generalize hs4 : rSa (rSa (rSa (rSa σ 34 (nI P.length) (nI x.1)) 35 (nI P.length) (nI x.2.1)) 36 (nI P.length) (bI x.2.2.1)) 37 (nI P.length) (bI x.2.2.2.1) = s4
  obtain ⟨c0, c1, c34, c35, c36, c37⟩ : (∀ k, k ≠ 34 → k ≠ 35 → k ≠ 36 → k ≠ 37 → s4.2 k = σ.2 k) ∧ s4.1 = σ.1 ∧ (∀ z, s4.2 34 z = if z = P.length then nI x.1 else σ.2 34 z) ∧ (∀ z, s4.2 35 z = if z = P.length then nI x.2.1 else σ.2 35 z) ∧ (∀ z, s4.2 36 z = if z = P.length then bI x.2.2.1 else σ.2 36 z) ∧ (∀ z, s4.2 37 z = if z = P.length then bI x.2.2.2.1 else σ.2 37 z) := by
    rw [← hs4]
    refine ⟨fun k h1 h2 h3 h4 => by rw [sa_ne h4, sa_ne h3, sa_ne h2, sa_ne h1], rfl, fun z => ?_, fun z => ?_, fun z => ?_, fun z => ?_⟩
    · rw [sa_ne (by omega), sa_ne (by omega), sa_ne (by omega), sa_nI (by omega)]
    · rw [sa_ne (by omega), sa_ne (by omega), sa_nI (by omega), sa_ne (by omega)]
    · rw [sa_ne (by omega), sa_nI (by omega), sa_ne (by omega), sa_ne (by omega)]
    · rw [sa_nI (by omega), sa_ne (by omega), sa_ne (by omega), sa_ne (by omega)]
  clear hs4 v34 v35 v36
  unfold mX9_takes_b87
  refine pq_ck (pq_ck (pq_ck (pq_ck (pq_ck (pq_ck (pq_ck ?_))))))
  have v39 : rGa (rSa s4 38 (nI P.length) (bI x.2.2.2.2.1)) 20 (nI c) = σ.2 20 c := by rw [rd_nI (by omega), sa_ne (by omega), c0 20 (by omega) (by omega) (by omega) (by omega)]
  have v40 : rGa (rSa s4 38 (nI P.length) (bI x.2.2.2.2.1)) 21 (nI c) = σ.2 21 c := by rw [rd_nI (by omega), sa_ne (by omega), c0 21 (by omega) (by omega) (by omega) (by omega)]
  rw [v39, v40, show s4.1 45 = nI (txs P).length from (congrFun c1 45).trans b1]
  generalize hs9 : rSa (rSa (rSa (rSa (rSa s4 38 (nI P.length) (bI x.2.2.2.2.1)) 39 (nI P.length) (σ.2 20 c)) 40 (nI P.length) (σ.2 21 c)) 41 (nI P.length) (nI (txs P).length)) 42 (nI P.length) (nI (pX x).length) = s9
  obtain ⟨d0, d1, d38, d39, d40, d41, d42⟩ : (∀ k, k ≠ 38 → k ≠ 39 → k ≠ 40 → k ≠ 41 → k ≠ 42 → s9.2 k = s4.2 k) ∧ s9.1 = s4.1 ∧ (∀ z, s9.2 38 z = if z = P.length then bI x.2.2.2.2.1 else s4.2 38 z) ∧ (∀ z, s9.2 39 z = if z = P.length then σ.2 20 c else s4.2 39 z) ∧ (∀ z, s9.2 40 z = if z = P.length then σ.2 21 c else s4.2 40 z) ∧ (∀ z, s9.2 41 z = if z = P.length then nI (txs P).length else s4.2 41 z) ∧ (∀ z, s9.2 42 z = if z = P.length then nI (pX x).length else s4.2 42 z) := by
    rw [← hs9]
    refine ⟨fun k h1 h2 h3 h4 h5 => by rw [sa_ne h5, sa_ne h4, sa_ne h3, sa_ne h2, sa_ne h1], rfl, fun z => ?_, fun z => ?_, fun z => ?_, fun z => ?_, fun z => ?_⟩
    · rw [sa_ne (by omega), sa_ne (by omega), sa_ne (by omega), sa_ne (by omega), sa_nI (by omega)]
    · rw [sa_ne (by omega), sa_ne (by omega), sa_ne (by omega), sa_nI (by omega), sa_ne (by omega)]
    · rw [sa_ne (by omega), sa_ne (by omega), sa_nI (by omega), sa_ne (by omega), sa_ne (by omega)]
    · rw [sa_ne (by omega), sa_nI (by omega), sa_ne (by omega), sa_ne (by omega), sa_ne (by omega)]
    · rw [sa_nI (by omega), sa_ne (by omega), sa_ne (by omega), sa_ne (by omega), sa_ne (by omega)]
  clear hs9 v39 v40
  have e0 : ∀ k, ¬ (34 ≤ k ∧ k ≤ 42) → s9.2 k = σ.2 k := fun k hk => (d0 k (by omega) (by omega) (by omega) (by omega) (by omega)).trans (c0 k (by omega) (by omega) (by omega) (by omega))
  have e1 : s9.1 = σ.1 := d1.trans c1
  have tr : ∀ (r : Nat) (M : BL), ¬ (34 ≤ r ∧ r ≤ 42) → RLs σ r M → RLs s9 r M := fun r M hr h i hi => by rw [e0 r hr]; exact h i hi
  have hlm : ((pG x).map nI).length = (pX x).length := by rw [List.length_map]; exact hl
  refine pq_tail (r_tkL (p := P.length) (X := pX x) (O := (pG x).map nI) (T0 := txs P) (O0 := ogs P) ⟨by omega, by omega⟩ ⟨by omega, by omega⟩ hlm h600 b2 b3 (tr t1 _ (by omega) hX) (tr t2 _ (by omega) hO) (tr 43 _ (by omega) b4) (tr 44 _ (by omega) b5) (by rw [e1]; exact b1) (by rw [e1]; exact a1)) (fun y hy => ?_)
  obtain ⟨σ', rfl, k33, k45, k6, k43, k44, kF⟩ := hy
  have et : txs (P ++ [x]) = txs P ++ pX x := by rw [txs_app, txs_1]
  have eo : ogs (P ++ [x]) = ogs P ++ (pG x).map nI := by rw [ogs_app, ogs_1]
  refine ⟨σ', rfl, ⟨⟨by rw [k33, List.length_append]; rfl, by rw [List.length_append]; show P.length + 1 ≤ 40; omega⟩, ⟨?_, ?_, ?_, ?_, ?_⟩, fun i hi2 => ?_⟩, ⟨fun k hk => ?_, fun k hk => ?_⟩⟩
  · rw [et, List.length_append]; exact k45
  · rw [et, List.length_append]; exact k6
  · rw [et, eo, List.length_append, List.length_append, b3, hlm]
  · rw [et]; exact k43
  · rw [eo]; exact k44
  · rw [List.length_append] at hi2
    have hi3 : i < P.length + 1 := hi2
    have f34 : ∀ r, 34 ≤ r → r ≤ 42 → σ'.2 r i = s9.2 r i := fun r h1 h2 => congrFun (kF.1 r (fun q => by rcases q with q | q <;> omega)) i
    rw [f34 34 (by omega) (by omega), f34 35 (by omega) (by omega), f34 36 (by omega) (by omega), f34 37 (by omega) (by omega), f34 38 (by omega) (by omega), f34 39 (by omega) (by omega), f34 40 (by omega) (by omega), f34 41 (by omega) (by omega), f34 42 (by omega) (by omega)]
    rw [d38, d39, d40, d41, d42, d0 34 (by omega) (by omega) (by omega) (by omega) (by omega), d0 35 (by omega) (by omega) (by omega) (by omega) (by omega), d0 36 (by omega) (by omega) (by omega) (by omega) (by omega), d0 37 (by omega) (by omega) (by omega) (by omega) (by omega), c34, c35, c36, c37]
    rw [c0 38 (by omega) (by omega) (by omega) (by omega), c0 39 (by omega) (by omega) (by omega) (by omega), c0 40 (by omega) (by omega) (by omega) (by omega), c0 41 (by omega) (by omega) (by omega) (by omega), c0 42 (by omega) (by omega) (by omega) (by omega)]
    by_cases e : i = P.length
    · subst e
      rw [if_pos rfl, if_pos rfl, if_pos rfl, if_pos rfl, if_pos rfl, if_pos rfl, if_pos rfl, if_pos rfl, if_pos rfl, pgd_n, tAt_n]
      exact ⟨rfl, rfl, rfl, rfl, rfl, hkf, rfl, rfl⟩
    · rw [if_neg e, if_neg e, if_neg e, if_neg e, if_neg e, if_neg e, if_neg e, if_neg e, if_neg e, pgd_l (by omega), tAt_l (by omega)]
      exact hi i (by omega)
  · rw [kF.1 k (fun q => hk (by rcases q with q | q <;> omega))]
    exact e0 k (fun q => hk (by omega))
  · rw [kF.2 k hk, e1]
theorem r_takes {cf : CFG} {c : Nat} {ci : CI} {t1 t2 t3 : Nat} {x : Pc} {P : List Pc} (hM : MC (σ.2 1) cf) (hL : RLs σ 13 L) (h6 : L.length ≤ 600) (hP : PT σ (decide (cf.1 = 0)) P) (ht : T3 t1 t2 t3) (hc : c < 600) (hkb : cf.1 = 0 → ci.2.2.2.1 + ci.2.2.2.2 ≤ L.length) (hkf : cf.1 = 0 → σ.2 20 c = nI ci.2.2.2.1 ∧ σ.2 21 c = nI ci.2.2.2.2) (hx5 : x.2.2.2.2.2.1 = ci.2.2.2.1) (hx6 : x.2.2.2.2.2.2.1 = ci.2.2.2.2) (h19 : σ.2 19 c = bI x.2.2.1) (hX : RLs σ t1 (pX x)) (hO : RLs σ t2 ((pG x).map nI)) (hl : (pG x).length = (pX x).length) (h0 : 0 < (pX x).length) (h600 : (pX x).length ≤ 600) (hx0 : σ.2 t2 0 = nI x.1) (hx1 : σ.2 t3 ((pX x).length - 1) = nI x.2.1) : PQ (mX9_takes (nI c) t1 t2 t3 (nI (pX x).length) (bI x.2.2.2.2.1) (bI x.2.2.2.1) σ) (fun y => ∃ σ', y = (0, σ') ∧ PT σ' (decide (cf.1 = 0)) (if lkd cf L ci = true then P else tk cf P x) ∧ FRX RT9 FT9 σ σ') := by
  unfold mX9_takes
  refine pq_isr (r_isLocked hM hL h6 (by omega) (fun q => ⟨(hkf q).1, (hkf q).2, hkb q⟩)) ?_
  have stop : (if lkd cf L ci = true then P else tk cf P x) = P → PQ (mX9_takes_b18 σ) (fun y => ∃ σ', y = (0, σ') ∧ PT σ' (decide (cf.1 = 0)) (if lkd cf L ci = true then P else tk cf P x) ∧ FRX RT9 FT9 σ σ') := fun h => by
    rw [h]
    exact pq_ret ⟨σ, rfl, hP, frx_rfl⟩
  cases hlk : lkd cf L ci with
  | true =>
    rw [hlk] at stop
    exact pq_f (show ¬ (1 : Int32) = 0 by decide) (stop (if_pos rfl))
  | false =>
    rw [hlk] at stop
    refine pq_t rfl ?_
    refine pq_isr (r_isPiece (p := P.length) hM hX h600 hP.1.1 hP.1.2) ?_
    by_cases ho : okT cf (pX x) = true ∧ P.length < 40
    · have e1 : (okT cf (pX x) && decide (P.length < 40)) = true := by rw [ho.1, decide_eq_true ho.2]; rfl
      have e2 : (if false = true then P else tk cf P x) = P ++ [x] := by
        rw [if_neg (by decide)]
        exact if_pos ho
      rw [e1, e2]
      refine pq_f (show ¬ (1 : Int32) = 0 by decide) ?_
      refine pq_ck (pq_ck (pq_ck (pq_ck (pq_ck (pq_ck (pq_ck ?_))))))
      have main := r_take1 hP ht ho.2 hc (fun q => by rw [hx5, hx6]; exact hkf (of_decide_eq_true q)) h19 hX hO hl h0 h600 hx0 hx1
      have e33 : σ.1 33 = nI P.length := hP.1.1
      rw [← e33] at main
      cases hf : x.2.2.2.2.1 with
      | true => rw [hf] at main; exact pq_f (show ¬ (1 : Int32) = 0 by decide) main
      | false => rw [hf] at main; exact pq_t rfl main
    · have e1 : (okT cf (pX x) && decide (P.length < 40)) = false := by
        cases h1 : okT cf (pX x) with
        | false => rfl
        | true => rw [decide_eq_false (fun h => ho ⟨h1, h⟩)]; rfl
      rw [e1]
      refine pq_t rfl (stop ?_)
      rw [if_neg (by decide)]
      exact if_neg ho
end RTQ
end
/-! part 61e.all -/
section
/-! the reference cuts a row into pieces -/
abbrev RC9 : Nat → Prop := fun k => 14 ≤ k ∧ k ≤ 44
abbrev FC9 : Nat → Prop := fun k => k = 22 ∨ k = 26 ∨ k = 33 ∨ k = 45 ∨ k = 54 ∨ k = 55
abbrev RI9 : Nat → Prop := fun k => 23 ≤ k ∧ k ≤ 44
abbrev RN9 : Nat → Prop := fun k => 27 ≤ k ∧ k ≤ 29
abbrev FI9 : Nat → Prop := fun k => k = 26 ∨ k = 33 ∨ k = 45 ∨ k = 54 ∨ k = 55
theorem r_cutsI {σ : RS9} {k : Int32} {X : BL} (h6 : X.length ≤ 600) (hk : k = 0 ∨ k = 1 ∨ k = 2 ∨ k = 3) (hL : RLs σ 23 X) : PQ (mX9_cuts k 23 (nI X.length) 27 28 29 σ) (fun y => ∃ σ', y = (nI (cutL k X 0).length, σ') ∧ FO σ' 27 28 29 false (cutL k X 0) ∧ FRX RN9 FO1 σ σ') := by
  obtain ⟨v, s, v', t, e1, -, c, kx, -, -, -, -, hCU⟩ := t2_cuts (v1 := k) (r := 23) (of := 27) (ti := 28) (wh := 29) (v3 := nI X.length) (σ := σ) (τ := σ) ⟨rfl, rfl, rfl, rfl, by decide, by decide, by decide, by decide, by decide, by decide, by decide, by decide, by decide, by decide, by decide, by decide, by decide, by decide⟩ (by rw [nI_toInt (by omega)]; omega) (fun _ _ => rfl)
  intro y hy
  obtain ⟨σ', rfl, h2, h3⟩ := r_cuts (of := 27) (ti := 28) (wh := 29) (Or.inr ⟨rfl, rfl, rfl⟩) (show NR 23 27 28 29 from ⟨by decide, by decide, by decide, by decide, by decide⟩) h6 hk hL y hy
  have es : s = σ' := by
    have := Option.some.inj (e1.symm.trans hy)
    exact congrArg Prod.snd this
  subst es
  refine ⟨s, rfl, h2, ⟨fun z hz => ?_, fun z hz => h3.2 z hz⟩⟩
  exact hCU.2.1.1 z (fun q => hz (by omega)) (fun q => hz (by omega)) (fun q => hz (by omega)) (fun q => absurd q (by decide))
def CB9 (cf : CFG) (L : BL) (σ : RS9) : Prop := MC (σ.2 1) cf ∧ RLs σ 13 L ∧ (∀ i, i < L.length → σ.2 14 i = nI i ∧ σ.2 15 i = nI (i + 1)) ∧ σ.1 22 = nI (cutL cf.1 L 0).length ∧ (cutL cf.1 L 0).length ≤ 600 ∧ ∀ i, i < (cutL cf.1 L 0).length → σ.2 17 i = nI ((cutL cf.1 L 0).getD i ciD).1 ∧ σ.2 18 i = nI ((cutL cf.1 L 0).getD i ciD).2.1 ∧ σ.2 19 i = bI ((cutL cf.1 L 0).getD i ciD).2.2.1 ∧ (cf.1 = 0 → σ.2 20 i = nI ((cutL cf.1 L 0).getD i ciD).2.2.2.1 ∧ σ.2 21 i = nI ((cutL cf.1 L 0).getD i ciD).2.2.2.2)
theorem CB9_frx {cf : CFG} {L : BL} {σ σ' : RS9} {R F : Nat → Prop} (h : CB9 cf L σ) (hX : FRX R F σ σ') (hR : ∀ k, k ≤ 21 → ¬ R k) (hF : ¬ F 22) : CB9 cf L σ' := by
  obtain ⟨h1, h2, h3, h4, h5, h6⟩ := h
  refine ⟨?_, RL_frx h2 hX (hR 13 (by decide)), fun i hi => ?_, (hX.2 22 hF).trans h4, h5, fun i hi => ?_⟩
  · rw [hX.1 1 (hR 1 (by decide))]; exact h1
  · rw [hX.1 14 (hR 14 (by decide)), hX.1 15 (hR 15 (by decide))]; exact h3 i hi
  · rw [hX.1 17 (hR 17 (by decide)), hX.1 18 (hR 18 (by decide)), hX.1 19 (hR 19 (by decide)), hX.1 20 (hR 20 (by decide)), hX.1 21 (hR 21 (by decide))]
    exact h6 i hi
def UR9 (σ : RS9) (u : List UI) : Prop := ∀ j, j < u.length → σ.2 23 j = (u.getD j u0).1 ∧ σ.2 24 j = nI (u.getD j u0).2.1 ∧ σ.2 25 j = nI (u.getD j u0).2.2
theorem UR9_frx {u : List UI} {σ σ' : RS9} {R F : Nat → Prop} (h : UR9 σ u) (hX : FRX R F σ σ') (hR : ¬ R 23 ∧ ¬ R 24 ∧ ¬ R 25) : UR9 σ' u := fun j hj => by
  rw [hX.1 23 hR.1, hX.1 24 hR.2.1, hX.1 25 hR.2.2]; exact h j hj
theorem mgd {α : Type} {g : UI → α} {u : List UI} {j : Nat} {d : α} (h : j < u.length) : (u.map g).getD j d = g (u.getD j u0) := by
  rw [List.getD_eq_getElem?_getD, List.getD_eq_getElem?_getD, List.getElem?_map, List.getElem?_eq_getElem h]; rfl
theorem gd_in {C : List CI} {i : Nat} (h : i < C.length) : C.getD i ciD ∈ C := by
  rw [List.getD_eq_getElem?_getD, List.getElem?_eq_getElem h]
  exact List.getElem_mem h
theorem take_s {C : List CI} {i : Nat} (h : i < C.length) : C.take (i + 1) = C.take i ++ [C.getD i ciD] := by
  rw [List.take_succ, List.getD_eq_getElem?_getD, List.getElem?_eq_getElem h]; rfl
theorem MC_k {μ : Nat → Int32} {cf : CFG} (h : MC μ cf) : CFok cf := h.2.2.2.2.2.2
section RAL
variable {cf : CFG} {L : BL}
/-- pieces of what lies within -/
theorem r_inner {c : Nat} {ci : CI} {P0 : List Pc} {rec78 : Int32 → RS9 → Option (Int32 × RS9)} {Q : Int32 × RS9 → Prop} {σ0 : RS9} (h6 : L.length ≤ 600) (hin : cf.2.1 ≠ -1) (hc : c < (cutL cf.1 L 0).length) (hci : (cutL cf.1 L 0).getD c ciD = ci) (hrec : ∀ σ', CB9 cf L σ' → PT σ' (decide (cf.1 = 0)) (tkC cf L P0 ci) → FRX RI9 FI9 σ0 σ' → PQ (rec78 (nI (c + 1)) σ') Q) : ∀ (d i : Nat) (σ : RS9), i ≤ (cutL cf.2.1 ((uOf cf L ci).map (fun x => x.1)) 0).length → FRX RI9 FI9 σ0 σ → CB9 cf L σ → UR9 σ (uOf cf L ci) → FO σ 27 28 29 false (cutL cf.2.1 ((uOf cf L ci).map (fun x => x.1)) 0) → PT σ (decide (cf.1 = 0)) (if lkd cf L ci = true then P0 else (((cutL cf.2.1 ((uOf cf L ci).map (fun x => x.1)) 0).take i).map (pcI cf ci (uOf cf L ci))).foldl (tk cf) P0) → PQ (mX9_cutsAll_l220 rec78 d (nI c) (nI (cutL cf.2.1 ((uOf cf L ci).map (fun x => x.1)) 0).length) (nI i) σ) Q := by
  have hb := cutL_b (k := cf.1) (L := L) _ 0 (Nat.le_refl _) ci (by rw [← hci]; exact gd_in hc)
  have hul : (uOf cf L ci).length ≤ ci.2.1 - ci.1 := (und_len (k := cf.1) (q := ci.2.2.1) (L := L) (b := ci.2.1) _ ci.1 (Nat.le_refl _)).1
  generalize hu : uOf cf L ci = u at *
  generalize hD : cutL cf.2.1 (u.map (fun x => x.1)) 0 = D at *
  have hXl : (u.map (fun x : UI => x.1)).length = u.length := List.length_map _
  intro d
  induction d with
  | zero => intro i σ _ _ _ _ _ _; exact pq_none
  | succ d ih =>
    intro i σ hi hF hB hU hO hP
    obtain ⟨b1, b2, b3, b4, b5, b6⟩ := id hB
    have hD6 := hO.2.1
    unfold mX9_cutsAll_l220
    refine pq_le (nI_toInt (by omega)) (nI_toInt (by omega)) (fun q => ?_) (fun q => ?_)
    · have e : i = D.length := by omega
      subst e
      unfold mX9_cutsAll_b333
      rw [nI_1]
      refine hrec σ hB ?_ hF
      have e2 : tkC cf L P0 ci = if lkd cf L ci = true then P0 else ((D.take D.length).map (pcI cf ci u)).foldl (tk cf) P0 := by
        unfold tkC pcC
        rw [if_neg hin, hu, hD, List.take_length]
      rw [e2]; exact hP
    have hiD : i < D.length := by omega
    obtain ⟨g1, g2, g3, -⟩ := hO.2.2 i hiD
    have g1 : σ.2 27 i = nI (D.getD i ciD).1 := g1
    have g2 : σ.2 28 i = nI (D.getD i ciD).2.1 := g2
    have g3 : σ.2 29 i = bI (D.getD i ciD).2.2.1 := g3
    have hdm : D.getD i ciD ∈ D := gd_in hiD
    have hts : D.take (i + 1) = D.take i ++ [D.getD i ciD] := take_s hiD
    generalize hdd : D.getD i ciD = dd at g1 g2 g3 hdm hts
    have hbd := cutL_b (k := cf.2.1) (L := u.map (fun x => x.1)) _ 0 (Nat.le_refl _) dd (by rw [hD]; exact hdm)
    rw [hXl] at hbd
    have hkI : cf.2.1 = 0 ∨ cf.2.1 = 1 ∨ cf.2.1 = 2 ∨ cf.2.1 = 3 := by
      rcases (MC_k b1).2.1 with h | h
      · exact absurd h hin
      · exact h
    have e2 : rGa σ 1 (2 : Int32) = cf.2.1 := b1.2.1
    have hX23 : RLs σ 23 (u.map (fun x => x.1)) := fun j hj => by
      rw [hXl] at hj
      rw [mgd hj]; exact (hU j hj).1
    rw [e2, rd_nI (by omega), g3]
    refine pq_ck (pq_ck ?_)
    have main : PQ (mX9_cutsAll_b247 rec78 (fun v1 v2 v3 σ => mX9_cutsAll_l220 rec78 d v1 v2 v3 σ) (nI c) (nI D.length) (nI i) cf.2.1 (bI dd.2.2.1) σ) Q := by
      unfold mX9_cutsAll_b247
      refine pq_ck (pq_ck ?_)
      rw [rd_nI (by omega), rd_nI (by omega), g1, g2]
      refine pq_call (r_undoes (q := dd.2.2.1) (a := dd.1) (b := dd.2.1) (L := u.map (fun x => x.1)) (Or.inr ⟨rfl, rfl, rfl, rfl, rfl, rfl⟩) hX23 (by rw [hXl]; omega) (by omega) (by rw [hXl]; omega) hkI) (fun y hy => ?_)
      obtain ⟨σ1, rfl, hUT, hF1⟩ := hy
      have hwl := und_len (k := cf.2.1) (q := dd.2.2.1) (L := u.map (fun x => x.1)) (b := dd.2.1) _ dd.1 (Nat.le_refl _)
      have hwc := und_ch (k := cf.2.1) (q := dd.2.2.1) (L := u.map (fun x => x.1)) (b := dd.2.1) _ dd.1 (Nat.le_refl _)
      have hw0 := hwl.2 hbd.2.1
      generalize hw : und cf.2.1 dd.2.2.1 (u.map (fun x => x.1)) dd.1 dd.2.1 = w at hUT hwl hwc hw0
      have hF1' : FRX RI9 FI9 σ σ1 := frx_mono hF1 (fun k hk => by omega) (fun k hk => Or.inr (Or.inr (Or.inr (Or.inr hk))))
      have f27 : ∀ r, r ≤ 29 → σ1.2 r = σ.2 r := fun r hr => hF1.1 r (fun q => by omega)
      have r27 : rGa σ1 27 (nI i) = nI dd.1 := by rw [rd_nI (by omega), f27 27 (by omega)]; exact g1
      have r29 : rGa σ1 29 (nI i) = bI dd.2.2.1 := by rw [rd_nI (by omega), f27 29 (by omega)]; exact g3
      -- the piece
      have ep : pcI cf ci u dd = ((u.getD dd.1 u0).2.1, (u.getD (dd.2.1 - 1) u0).2.2, ci.2.2.1, dd.2.2.1, decide (dd.1 = 0), ci.2.2.2.1, ci.2.2.2.2, w.map (fun x => x.1), w.map (fun x => (u.getD x.2.1 u0).2.1)) := by
        unfold pcI
        rw [hw]
      generalize hx : pcI cf ci u dd = x at ep
      have pXx : pX x = w.map (fun x => x.1) := by rw [ep]; rfl
      have pGx : pG x = w.map (fun x => (u.getD x.2.1 u0).2.1) := by rw [ep]; rfl
      have pXl : (pX x).length = w.length := by rw [pXx, List.length_map]
      have hB1 := CB9_frx hB hF1' (fun k hk q => by omega) (fun q => by omega)
      have hP1 : PT σ1 (decide (cf.1 = 0)) (if lkd cf L ci = true then P0 else ((D.take i).map (pcI cf ci u)).foldl (tk cf) P0) := PT_frx hP hF1 (fun k h1 h2 q => by omega) ⟨fun q => by omega, fun q => by omega⟩
      obtain ⟨q1, q2, q3, q4⟩ := hB1.2.2.2.2.2 c hc
      rw [hci] at q1 q2 q3 q4
      have hcx := cutL_x (k := cf.1) (L := L) _ 0 (Nat.le_refl _) ci (by rw [← hci]; exact gd_in hc)
      have tk1 := r_takes (t1 := 30) (t2 := 31) (t3 := 32) (x := x) (ci := ci) (c := c) hB1.1 hB1.2.1 h6 hP1 (Or.inr ⟨rfl, rfl, rfl⟩) (by omega) (fun _ => hcx.1) q4 (by rw [ep]) (by rw [ep]) (by rw [q3, ep]) (fun j hj => by
          rw [pXl] at hj
          rw [pXx, mgd hj]; exact (hUT j hj).1) (fun j hj => by
          rw [List.length_map, pGx, List.length_map] at hj
          have hk := hwc j hj
          rw [(hUT j hj).2.1, (hU _ (by omega)).2.1, pGx, List.map_map, mgd hj]; rfl) (by rw [pGx, pXl, List.length_map]) (by rw [pXl]; exact hw0) (by rw [pXl]; omega) (by
          have hk := hwc 0 hw0
          rw [(hUT 0 hw0).2.1, (hU _ (by omega)).2.1, hk.2.2.2.1 rfl, ep]) (by
          rw [pXl]
          have hk := hwc (w.length - 1) (by omega)
          rw [(hUT (w.length - 1) (by omega)).2.2, (hU _ (by omega)).2.2, hk.2.2.2.2.2 (by omega), ep])
      have go : ∀ s6 : Int32, s6 = bI x.2.2.2.2.1 → PQ (mX9_cutsAll_b318 rec78 (fun v1 v2 v3 σ => mX9_cutsAll_l220 rec78 d v1 v2 v3 σ) (nI c) (nI D.length) (nI i) (nI c) 30 31 32 (nI w.length) s6 σ1) Q := fun s6 hs6 => by
        unfold mX9_cutsAll_b318
        rw [r29, hs6]
        have e4 : bI dd.2.2.1 = bI x.2.2.2.1 := by rw [ep]
        rw [e4, ← pXl]
        refine pq_ck (pq_call tk1 (fun y hy => ?_))
        obtain ⟨σ2, rfl, hP2, hF2⟩ := hy
        have hF2' : FRX RI9 FI9 σ1 σ2 := frx_mono hF2 (fun k hk => by omega) (fun k hk => by omega)
        show PQ (mX9_cutsAll_l220 rec78 d (nI c) (nI D.length) (nI i + 1) σ2) Q
        rw [nI_1]
        refine ih (i + 1) σ2 (by omega) (frx_tr hF (frx_tr hF1' hF2')) (CB9_frx hB1 hF2' (fun k hk q => by omega) (fun q => by omega)) (UR9_frx (UR9_frx hU hF1 ⟨fun q => by omega, fun q => by omega, fun q => by omega⟩) hF2 ⟨fun q => by omega, fun q => by omega, fun q => by omega⟩) ?_ ?_
        · refine ⟨?_, hO.2.1, fun j hj => ?_⟩
          · rw [hF2.2 54 (fun q => by omega), hF1.2 54 (fun q => by omega)]; exact hO.1
          · rw [hF2.1 27 (fun q => by omega), hF2.1 28 (fun q => by omega), hF2.1 29 (fun q => by omega), hF2.1 20 (fun q => by omega), hF2.1 21 (fun q => by omega), f27 27 (by omega), f27 28 (by omega), f27 29 (by omega), f27 20 (by omega), f27 21 (by omega)]
            exact hO.2.2 j hj
        · have e5 : (if lkd cf L ci = true then P0 else ((D.take (i + 1)).map (pcI cf ci u)).foldl (tk cf) P0) = (if lkd cf L ci = true then (if lkd cf L ci = true then P0 else ((D.take i).map (pcI cf ci u)).foldl (tk cf) P0) else tk cf (if lkd cf L ci = true then P0 else ((D.take i).map (pcI cf ci u)).foldl (tk cf) P0) x) := by
            by_cases hl : lkd cf L ci = true
            · rw [if_pos hl, if_pos hl, if_pos hl]
            · rw [if_neg hl, if_neg hl, if_neg hl, hts, List.map_append, List.foldl_append, List.map_singleton, hx]; rfl
          rw [e5]; exact hP2
      refine pq_ck ?_
      have r27' : rGa σ1 27 (nI i) = nI dd.1 := r27
      show PQ (if rGa σ1 27 (nI i) = 0 then _ else _) Q
      rw [r27']
      refine pq_eqi (nI_toInt (by omega)) kt_0 (fun q1 => go 1 ?_) (fun q1 => go 0 ?_)
      · rw [ep]; show (1 : Int32) = bI (decide (dd.1 = 0)); rw [decide_eq_true (show dd.1 = 0 by have := q1; omega)]; rfl
      · rw [ep]; show (0 : Int32) = bI (decide (dd.1 = 0)); rw [decide_eq_false (show ¬ dd.1 = 0 from fun z => q1 (by rw [z]; rfl))]; rfl
    cases hq : dd.2.2.1 with
    | true => rw [hq] at main; exact pq_t rfl main
    | false => rw [hq] at main; exact pq_f (show ¬ (0 : Int32) = 1 by decide) main
end RAL
end
/-! part 61f.all -/
section
/-! the reference cuts a row into pieces, whole -/
section RAO
variable {cf : CFG} {L : BL}
theorem r_outer (h6 : L.length ≤ 600) {σ0 : RS9} : ∀ (d c : Nat) (σ : RS9), c ≤ (cutL cf.1 L 0).length → FRX RI9 FI9 σ0 σ → CB9 cf L σ → PT σ (decide (cf.1 = 0)) (((cutL cf.1 L 0).take c).foldl (tkC cf L) []) → PQ (mX9_cutsAll_l78 d (nI c) σ) (fun y => ∃ σ', y = (0, σ') ∧ PT σ' (decide (cf.1 = 0)) (pcs cf L) ∧ FRX RI9 FI9 σ0 σ') := by
  intro d
  induction d with
  | zero => intro c σ _ _ _ _; exact pq_none
  | succ d ih =>
    intro c σ hcl hF hB hP
    obtain ⟨b1, b2, b3, b4, b5, b6⟩ := id hB
    unfold mX9_cutsAll_l78
    rw [b4]
    refine pq_le (nI_toInt (by omega)) (nI_toInt (by omega)) (fun q => ?_) (fun q => ?_)
    · have e : c = (cutL cf.1 L 0).length := by omega
      rw [e, List.take_length] at hP
      exact pq_ret ⟨σ, rfl, hP, hF⟩
    have hc : c < (cutL cf.1 L 0).length := by omega
    obtain ⟨g1, g2, g3, g4⟩ := b6 c hc
    have hts := take_s hc
    have hcm := gd_in hc
    generalize hci : (cutL cf.1 L 0).getD c ciD = ci at g1 g2 g3 g4 hts hcm
    have hb := cutL_b (k := cf.1) (L := L) _ 0 (Nat.le_refl _) ci hcm
    have hcx := cutL_x (k := cf.1) (L := L) _ 0 (Nat.le_refl _) ci hcm
    have hkc := (MC_k b1).1
    have e1 : rGa σ 1 (1 : Int32) = cf.1 := b1.1
    rw [e1, rd_nI (by omega), g3]
    refine pq_ck (pq_ck ?_)
    -- the next cut
    have nxt : ∀ σ' : RS9, CB9 cf L σ' → PT σ' (decide (cf.1 = 0)) (tkC cf L (((cutL cf.1 L 0).take c).foldl (tkC cf L) []) ci) → FRX RI9 FI9 σ0 σ' → PQ (mX9_cutsAll_l78 d (nI (c + 1)) σ') (fun y => ∃ σ', y = (0, σ') ∧ PT σ' (decide (cf.1 = 0)) (pcs cf L) ∧ FRX RI9 FI9 σ0 σ') := fun σ' h1 h2 h3 => by
      refine ih (c + 1) σ' (by omega) h3 h1 ?_
      rw [hts, List.foldl_append]; exact h2
    have main : PQ (mX9_cutsAll_b109 (fun v1 σ => mX9_cutsAll_l78 d v1 σ) (nI c) cf.1 (bI ci.2.2.1) σ) (fun y => ∃ σ', y = (0, σ') ∧ PT σ' (decide (cf.1 = 0)) (pcs cf L) ∧ FRX RI9 FI9 σ0 σ') := by
      unfold mX9_cutsAll_b109
      rw [rd_nI (by omega), rd_nI (by omega), g1, g2]
      refine pq_ck (pq_ck (pq_call (r_undoes (q := ci.2.2.1) (a := ci.1) (b := ci.2.1) (L := L) (Or.inl ⟨rfl, rfl, rfl, rfl, rfl, rfl⟩) b2 h6 (by omega) (by omega) hkc) (fun y hy => ?_)))
      obtain ⟨σ1, rfl, hUT, hF1⟩ := hy
      have hwl := und_len (k := cf.1) (q := ci.2.2.1) (L := L) (b := ci.2.1) _ ci.1 (Nat.le_refl _)
      have hwc := und_ch (k := cf.1) (q := ci.2.2.1) (L := L) (b := ci.2.1) _ ci.1 (Nat.le_refl _)
      have hw0 := hwl.2 hb.2.1
      have hu : uOf cf L ci = und cf.1 ci.2.2.1 L ci.1 ci.2.1 := rfl
      generalize hw : und cf.1 ci.2.2.1 L ci.1 ci.2.1 = w at hUT hwl hwc hw0 hu
      have hF1' : FRX RI9 FI9 σ (rSf σ1 26 (nI w.length)) := ⟨fun k hk => hF1.1 k (fun q => hk (by omega)), fun k hk => (sf_ne (fun q => hk (Or.inl q))).trans (hF1.2 k (fun q => hk (by omega)))⟩
      have hF1b : FRX (R3 23 24 25) (fun k => k = 26 ∨ k = 55) σ (rSf σ1 26 (nI w.length)) := ⟨fun k hk => hF1.1 k hk, fun k hk => (sf_ne (fun q => hk (Or.inl q))).trans (hF1.2 k (fun q => hk (Or.inr q)))⟩
      have hB1 := CB9_frx hB hF1' (fun k hk q => by omega) (fun q => by omega)
      have hP1 := PT_frx hP hF1b (fun k h1 h2 q => by omega) ⟨fun q => by omega, fun q => by omega⟩
      have hU1 : UR9 (rSf σ1 26 (nI w.length)) w := fun j hj => by
        have hk := hwc j hj
        obtain ⟨u1, u2, u3⟩ := hUT j hj
        exact ⟨u1, u2.trans (b3 _ (by omega)).1, u3.trans (by rw [(b3 _ (by omega)).2]; congr 1; omega)⟩
      have e2 : rGa σ1 1 (2 : Int32) = cf.2.1 := hB1.1.2.1
      have e2' : rGa (rSf σ1 26 (nI w.length)) 1 (2 : Int32) = cf.2.1 := hB1.1.2.1
      generalize hs2 : rSf σ1 26 (nI w.length) = s2 at hF1' hB1 hP1 hU1 e2'
      show PQ (rCk _ (if rGa σ1 1 (2 : Int32) = -1 then ((mX9_takes (nI c) 23 24 25 (nI w.length) (1 : Int32) (0 : Int32) s2).bind fun r7 => mX9_cutsAll_b333 (fun v1 σ => mX9_cutsAll_l78 d v1 σ) (nI c) r7.2) else rCk _ ((mX9_cuts (rGa σ1 1 (2 : Int32)) 23 (nI w.length) 27 28 29 s2).bind fun r6 => mX9_cutsAll_l220 (fun v1 σ => mX9_cutsAll_l78 d v1 σ) rFU (nI c) r6.1 (0 : Int32) r6.2))) _
      rw [e2]
      refine pq_ck (pq_eq (fun qi => ?_) (fun qi => pq_ck ?_))
      · -- no inner kind
        have hx1 : pX (pcO cf L ci) = w.map (fun x => x.1) := by
          show (und cf.1 ci.2.2.1 L ci.1 ci.2.1).map (fun x => x.1) = _
          rw [hw]
        have hx2 : pG (pcO cf L ci) = w.map (fun x => x.2.1) := by
          show (und cf.1 ci.2.2.1 L ci.1 ci.2.1).map (fun x => x.2.1) = _
          rw [hw]
        have hxl : (pX (pcO cf L ci)).length = w.length := by rw [hx1, List.length_map]
        obtain ⟨q1, q2, q3, q4⟩ := hB1.2.2.2.2.2 c hc
        rw [hci] at q1 q2 q3 q4
        have tk1 := r_takes (t1 := 23) (t2 := 24) (t3 := 25) (x := pcO cf L ci) (ci := ci) (c := c) hB1.1 hB1.2.1 h6 hP1 (Or.inl ⟨rfl, rfl, rfl⟩) (by omega) (fun _ => hcx.1) q4 rfl rfl q3 (fun j hj => by
            rw [hxl] at hj
            rw [hx1, mgd hj]; exact (hU1 j hj).1) (fun j hj => by
            rw [List.length_map, hx2, List.length_map] at hj
            rw [(hU1 j hj).2.1, hx2, List.map_map, mgd hj]; rfl) (by rw [hx2, hxl, List.length_map]) (by rw [hxl]; exact hw0) (by rw [hxl]; omega) (by
            rw [(hU1 0 hw0).2.1, (hwc 0 hw0).2.2.2.1 rfl]; rfl) (by
            rw [hxl, (hU1 (w.length - 1) (by omega)).2.2, (hwc (w.length - 1) (by omega)).2.2.2.2.2 (by omega)]; rfl)
        rw [hxl] at tk1
        refine pq_call tk1 (fun y hy => ?_)
        obtain ⟨σ2, rfl, hP2, hF2⟩ := hy
        have hF2' : FRX RI9 FI9 s2 σ2 := frx_mono hF2 (fun k hk => by omega) (fun k hk => by omega)
        unfold mX9_cutsAll_b333
        show PQ (mX9_cutsAll_l78 d (nI c + 1) σ2) _
        rw [nI_1]
        refine nxt σ2 (CB9_frx hB1 hF2' (fun k hk q => by omega) (fun q => by omega)) ?_ (frx_tr hF (frx_tr hF1' hF2'))
        have e5 : tkC cf L (((cutL cf.1 L 0).take c).foldl (tkC cf L) []) ci = if lkd cf L ci = true then ((cutL cf.1 L 0).take c).foldl (tkC cf L) [] else tk cf (((cutL cf.1 L 0).take c).foldl (tkC cf L) []) (pcO cf L ci) := by
          unfold tkC pcC
          rw [if_pos qi]; rfl
        rw [e5]; exact hP2
      · have hwl2 : ((uOf cf L ci).map (fun x => x.1)).length = w.length := by rw [hu, List.length_map]
        have hX23 : RLs s2 23 ((uOf cf L ci).map (fun x => x.1)) := fun j hj => by
          rw [hwl2] at hj
          rw [hu, mgd hj]; exact (hU1 j hj).1
        have hkI : cf.2.1 = 0 ∨ cf.2.1 = 1 ∨ cf.2.1 = 2 ∨ cf.2.1 = 3 := by
          rcases (MC_k b1).2.1 with h | h
          · exact absurd h qi
          · exact h
        have rc := r_cutsI (k := cf.2.1) (by rw [hwl2]; omega) hkI hX23
        rw [hwl2] at rc
        refine pq_call rc (fun y hy => ?_)
        obtain ⟨σ2, rfl, hO2, hF2⟩ := hy
        have hF2' : FRX RI9 FI9 s2 σ2 := frx_mono hF2 (fun k hk => by omega) (fun k hk => by omega)
        have hB2 : CB9 cf L σ2 := CB9_frx hB1 hF2 (fun k hk q => by omega) (fun q => by omega)
        have hU2 : UR9 σ2 (uOf cf L ci) := by rw [hu]; exact UR9_frx hU1 hF2 ⟨fun q => by omega, fun q => by omega, fun q => by omega⟩
        have hP2 := PT_frx hP1 hF2 (fun k h1 h2 q => by omega) ⟨fun q => by omega, fun q => by omega⟩
        refine r_inner h6 qi hc hci (fun σ' h1 h2 h3 => nxt σ' h1 h2 h3) rFU 0 σ2 (Nat.zero_le _) (frx_tr hF (frx_tr hF1' hF2')) hB2 hU2 hO2 ?_
        split
        · exact hP2
        · exact hP2
    cases hq : ci.2.2.1 with
    | true => rw [hq] at main; exact pq_t rfl main
    | false => rw [hq] at main; exact pq_f (show ¬ (0 : Int32) = 1 by decide) main
theorem r_cutsAll {σ : RS9} (hM : MC (σ.2 1) cf) (hL : RLs σ 13 L) (h16 : σ.1 16 = nI L.length) (h6 : L.length ≤ 600) : PQ (mX9_cutsAll σ) (fun y => ∃ σ', y = (0, σ') ∧ PT σ' (decide (cf.1 = 0)) (pcs cf L) ∧ FRX RC9 FC9 σ σ') := by
  have key : ∀ (d i : Nat) (σ1 : RS9), i ≤ L.length → FRX (fun k => k = 14 ∨ k = 15) (fun k => k = 33 ∨ k = 45) σ σ1 → σ1.1 33 = 0 → σ1.1 45 = 0 → (∀ j, j < i → σ1.2 14 j = nI j ∧ σ1.2 15 j = nI (j + 1)) → PQ (mX9_cutsAll_l12 d (nI i) σ1) (fun y => ∃ σ', y = (0, σ') ∧ PT σ' (decide (cf.1 = 0)) (pcs cf L) ∧ FRX RC9 FC9 σ σ') := by
    intro d
    induction d with
    | zero => intro i σ1 _ _ _ _ _; exact pq_none
    | succ d ih =>
      intro i σ1 hi hF k33 k45 hj
      have g16 : σ1.1 16 = nI L.length := (hF.2 16 (fun q => by omega)).trans h16
      unfold mX9_cutsAll_l12
      rw [g16]
      refine pq_le (nI_toInt (by omega)) (nI_toInt (by omega)) (fun q => ?_) (fun q => ?_)
      · have e : i = L.length := by omega
        subst e
        have hM1 : MC (σ1.2 1) cf := by rw [hF.1 1 (fun q => by omega)]; exact hM
        have hL1 : RLs σ1 13 L := RL_frx hL hF (fun q => by omega)
        have e1 : rGa σ1 1 (1 : Int32) = cf.1 := hM1.1
        rw [e1]
        refine pq_ck (pq_call (r_cuts (of := 17) (ti := 18) (wh := 19) (r := 13) (Or.inl ⟨rfl, rfl, rfl⟩) (show NR 13 17 18 19 from ⟨by decide, by decide, by decide, by decide, by decide⟩) h6 (MC_k hM1).1 hL1) (fun y hy => ?_))
        obtain ⟨σ2, rfl, hO, hF2⟩ := hy
        have hX : FRX (fun k => 17 ≤ k ∧ k ≤ 21) (fun k => k = 22 ∨ k = 54) σ1 (rSf σ2 22 (nI (cutL cf.1 L 0).length)) := ⟨fun k hk => hF2.1 k (fun q => hk (by omega)), fun k hk => (sf_ne (fun q => hk (Or.inl q))).trans (hF2.2 k (fun q => hk (Or.inr q)))⟩
        have hB : CB9 cf L (rSf σ2 22 (nI (cutL cf.1 L 0).length)) := by
          refine ⟨?_, RL_frx hL1 hX (fun q => by omega), fun j hjl => ?_, sf_eq, hO.2.1, fun j hjl => ?_⟩
          · rw [hX.1 1 (fun q => by omega)]; exact hM1
          · rw [hX.1 14 (fun q => by omega), hX.1 15 (fun q => by omega)]; exact hj j hjl
          · obtain ⟨o1, o2, o3, o4⟩ := hO.2.2 j hjl
            exact ⟨o1, o2, o3, fun q => o4 (by rw [decide_eq_true rfl, decide_eq_true q]; rfl)⟩
        have hP : PT (rSf σ2 22 (nI (cutL cf.1 L 0).length)) (decide (cf.1 = 0)) [] := by
          refine ⟨⟨(hX.2 33 (fun q => by omega)).trans k33, Nat.zero_le _⟩, ⟨(hX.2 45 (fun q => by omega)).trans k45, Nat.zero_le _, rfl, fun j hj2 => absurd hj2 (Nat.not_lt_zero _), fun j hj2 => absurd hj2 (Nat.not_lt_zero _)⟩, fun j hj2 => absurd hj2 (Nat.not_lt_zero _)⟩
        refine pq_tail (r_outer h6 rFU 0 _ (Nat.zero_le _) frx_rfl hB hP) (fun y hy => ?_)
        obtain ⟨σ3, rfl, hP3, hF3⟩ := hy
        exact ⟨σ3, rfl, hP3, frx_tr (frx_mono hF (fun k hk => by omega) (fun k hk => by omega)) (frx_tr (frx_mono hX (fun k hk => by omega) (fun k hk => by omega)) (frx_mono hF3 (fun k hk => by omega) (fun k hk => by omega)))⟩
      · rw [nI_1]
        refine pq_ck (pq_ck (ih (i + 1) _ (by omega) (frx_tr hF ⟨fun k hk => ?_, fun k hk => rfl⟩) k33 k45 (fun j hj2 => ?_)))
        · rw [sa_ne (fun q => hk (Or.inr q)), sa_ne (fun q => hk (Or.inl q))]
        · rw [sa_ne (by decide), sa_nI (by omega), sa_nI (by omega), sa_ne (by decide)]
          by_cases e : j = i
          · rw [if_pos e, if_pos e, e]; exact ⟨rfl, rfl⟩
          · rw [if_neg e, if_neg e]; exact hj j (by omega)
  unfold mX9_cutsAll
  exact key rFU 0 _ (Nat.zero_le _) ⟨fun k hk => rfl, fun k hk => (sf_ne (fun q => hk (Or.inr q))).trans (sf_ne (fun q => hk (Or.inl q)))⟩ ((sf_ne (by decide)).trans sf_eq) sf_eq (fun j hj => absurd hj (Nat.not_lt_zero _))
end RAO
end
/-! part 62a.esc -/
section
/-! the reference escapes bytes -/
def EO9 (σ : RS9) (o : Nat) (B : BL) : Prop := σ.1 56 = nI B.length ∧ RLs σ o B ∧ B.length ≤ 1400
abbrev F56 : Nat → Prop := fun k => k = 56
theorem RL_put {σ : RS9} {o : Nat} {B : BL} {c : Int32} (h : RLs σ o B) (hB : B.length ≤ 5000) : RLs (rSa σ o (nI B.length) c) o (B ++ [c]) := fun i hi => by
  rw [List.length_append] at hi
  have hi2 : i < B.length + 1 := hi
  rw [sa_nI (by omega)]
  by_cases e : i = B.length
  · rw [if_pos e, e, gd_app_r (Nat.le_refl _), Nat.sub_self]; rfl
  · rw [if_neg e, gd_app_l (by omega)]; exact h i (by omega)
section RES
variable {σ : RS9} {o : Nat} {B : BL}
def PO9 (σ : RS9) (o : Nat) (B : BL) (y : Int32 × RS9) : Prop := ∃ σ', y = (0, σ') ∧ EO9 σ' o B ∧ FRX (fun k => k = o) F56 σ σ'
theorem r_plain {c : Int32} (ho : rLen o = 1400) (h : EO9 σ o B) : PQ (mX9_plain o c σ) (PO9 σ o (B ++ [c])) := by
  obtain ⟨h1, h2, h3⟩ := h
  unfold mX9_plain
  rw [h1, ho, nI_1]
  refine pq_ckb (fun hin => pq_ret ⟨_, rfl, ⟨?_, RL_put h2 (by omega), ?_⟩, ⟨fun k hk => sa_ne hk, fun k hk => sf_ne hk⟩⟩)
  · rw [sf_eq, List.length_append]; rfl
  · have := in_nI (by omega) hin
    rw [List.length_append]; show B.length + 1 ≤ 1400; omega
theorem r_puts {a b : Int32} (ho : rLen o = 1400) (h : EO9 σ o B) : PQ (mX9_puts o a b σ) (PO9 σ o (B ++ [a, b])) := by
  obtain ⟨h1, h2, h3⟩ := h
  have e2 : B ++ [a, b] = (B ++ [a]) ++ [b] := by rw [List.append_assoc]; rfl
  have el : (B ++ [a]).length = B.length + 1 := by rw [List.length_append]; rfl
  unfold mX9_puts
  rw [h1, ho, nI_1, show nI B.length + (2 : Int32) = nI (B.length + 2) from nI_add _ 2, e2]
  refine pq_ck (pq_ckb (fun hin => pq_ret ⟨_, rfl, ⟨?_, ?_, ?_⟩, ⟨fun k hk => (sa_ne hk).trans (sa_ne hk), fun k hk => sf_ne hk⟩⟩))
  · rw [sf_eq, List.length_append, el]; rfl
  · have h4 := RL_put (c := b) (RL_put (c := a) h2 (by omega)) (by rw [el]; omega)
    rw [el] at h4
    exact h4
  · have := in_nI (by omega) hin
    rw [List.length_append, el]; show B.length + 1 + 1 ≤ 1400; omega
theorem r_word {t : Nat} (ht : t < 15) (ho : rLen o = 1400) (h : EO9 σ o B) : PQ (mX9_word o t σ) (PO9 σ o (B ++ wd9 t)) := by
  obtain ⟨h1, h2, h3⟩ := h
  have h8 := wd9_8 ht
  have key : ∀ (d i : Nat) (σ1 : RS9), i ≤ (wd9 t).length → FRX (fun k => k = o) F56 σ σ1 → σ1.1 56 = nI B.length → B.length + i ≤ 1400 → RLs σ1 o (B ++ (wd9 t).take i) → PQ (mX9_word_l2 d o t (nI i) σ1) (PO9 σ o (B ++ wd9 t)) := by
    intro d
    induction d with
    | zero => intro i σ1 _ _ _ _ _; exact pq_none
    | succ d ih =>
      intro i σ1 hi hF k56 hl hR
      unfold mX9_word_l2
      rw [wd9_l ht, k56]
      refine pq_le (nI_toInt (by omega)) (nI_toInt (by omega)) (fun q => ?_) (fun q => ?_)
      · have e : i = (wd9 t).length := by omega
        subst e
        rw [List.take_length] at hR
        rw [nI_add]
        exact pq_ret ⟨_, rfl, ⟨by rw [sf_eq, List.length_append], hR, by rw [List.length_append]; exact hl⟩, ⟨fun k hk => hF.1 k hk, fun k hk => (sf_ne hk).trans (hF.2 k hk)⟩⟩
      · have hi' : i < (wd9 t).length := by omega
        rw [nI_add, nI_1, wd9_c ht hi', ho]
        have el : (B ++ (wd9 t).take i).length = B.length + i := by rw [List.length_append, List.length_take]; omega
        refine pq_ck (pq_ckb (fun hin => ih (i + 1) _ (by omega) (frx_tr hF ⟨fun k hk => sa_ne hk, fun k hk => rfl⟩) k56 ?_ ?_))
        · have := in_nI (by omega) hin; omega
        · have h4 := RL_put (c := (wd9 t).getD i 0) hR (by omega)
          rw [el, List.append_assoc] at h4
          have e5 : (wd9 t).take (i + 1) = (wd9 t).take i ++ [(wd9 t).getD i 0] := by
            rw [List.take_succ, List.getD_eq_getElem?_getD, List.getElem?_eq_getElem hi']; rfl
          rw [e5]; exact h4
  unfold mX9_word
  exact key rFU 0 σ (Nat.zero_le _) frx_rfl h1 (by omega) (by rw [List.take_zero, List.append_nil]; exact h2)
theorem r_escM {c : Int32} {fi : Bool} (ho : rLen o = 1400) (h : EO9 σ o B) : PQ (mX9_escapesMarkup o c σ) (PO9 σ o (B ++ escC 2 fi c)) := by
  have e : escC 2 fi c = if c = 60 then [38, 108, 116, 59] else if c = 62 then [38, 103, 116, 59] else if c = 38 then [38, 97, 109, 112, 59] else [c] := rfl
  have fin : ∀ {X : BL} {y : Int32 × RS9}, PO9 σ o X y → PQ (mX9_escapesMarkup_b54 y.2) (PO9 σ o X) := fun hy => by
    obtain ⟨σ', rfl, h1⟩ := hy
    exact pq_ret ⟨σ', rfl, h1⟩
  rw [e]
  unfold mX9_escapesMarkup
  refine pq_eq (fun q => ?_) (fun q0 => pq_eq (fun q => ?_) (fun q1 => pq_eq (fun q => ?_) (fun q2 => ?_)))
  · rw [if_pos q]
    exact pq_call (r_word (t := 0) (by decide) ho h) (fun y hy => fin hy)
  · rw [if_neg q0, if_pos q]
    exact pq_call (r_word (t := 1) (by decide) ho h) (fun y hy => fin hy)
  · rw [if_neg q0, if_neg q1, if_pos q]
    exact pq_call (r_word (t := 2) (by decide) ho h) (fun y hy => fin hy)
  · rw [if_neg q0, if_neg q1, if_neg q2]
    exact pq_call (r_plain ho h) (fun y hy => fin hy)
theorem r_escB {k c : Int32} {fi : Bool} (hk : k = 0 ∨ k = 3) (ho : rLen o = 1400) (h : EO9 σ o B) : PQ (mX9_escapesBack k o c (bI fi) σ) (PO9 σ o (B ++ escC k fi c)) := by
  have fin : ∀ {X : BL} {y : Int32 × RS9}, PO9 σ o X y → PQ (mX9_escapesBack_b85 y.2) (PO9 σ o X) := fun hy => by
    obtain ⟨σ', rfl, h1⟩ := hy
    exact pq_ret ⟨σ', rfl, h1⟩
  have b79 : PQ (mX9_escapesBack_b79 o c σ) (PO9 σ o (B ++ [c])) := pq_call (r_plain ho h) (fun y hy => fin hy)
  have b68 : PQ (mX9_escapesBack_b68 o c σ) (PO9 σ o (B ++ [92, c])) := pq_call (r_puts ho h) (fun y hy => fin hy)
  unfold mX9_escapesBack
  rcases hk with rfl | rfl
  · have e : escC 0 fi c = if c = 10 then [92, 110] else if c = 9 then [92, 116] else if c = 92 then [92, 92] else if c = 32 ∧ fi = true then [92, 32] else [c] := rfl
    have b53 : c ≠ 10 → c ≠ 9 → c ≠ 92 → PQ (mX9_escapesBack_b53 0 o c (bI fi) σ) (PO9 σ o (B ++ escC 0 fi c)) := fun n1 n2 n3 => by
      rw [e, if_neg n1, if_neg n2, if_neg n3]
      unfold mX9_escapesBack_b53
      refine pq_eq (fun q => pq_t rfl ?_) (fun q => ?_)
      · cases fi with
        | true =>
          rw [if_pos (show c = 32 ∧ true = true from ⟨q, rfl⟩)]
          refine pq_f (show ¬ (1 : Int32) = 0 by decide) ?_
          rw [q] at b68 ⊢; exact b68
        | false =>
          rw [if_neg (show ¬ (c = 32 ∧ false = true) from fun x => by cases x.2)]
          exact pq_t rfl b79
      · rw [if_neg (show ¬ (c = 32 ∧ fi = true) from fun x => q x.1)]; exact b79
    refine pq_eq (fun q => ?_) (fun q0 => pq_eq (fun q => ?_) (fun q1 => pq_eq (fun q => ?_) (fun q2 => pq_eq (fun q => pq_f (show ¬ (0 : Int32) = 3 by decide) (b53 q0 q1 q2)) (fun q3 => b53 q0 q1 q2))))
    · rw [e, if_pos q]; exact pq_call (r_puts ho h) (fun y hy => fin hy)
    · rw [e, if_neg q0, if_pos q]; exact pq_call (r_puts ho h) (fun y hy => fin hy)
    · rw [e, if_neg q0, if_neg q1, if_pos q]; rw [q] at b68 ⊢; exact b68
  · have e : escC 3 fi c = if c = 10 then [92, 110] else if c = 9 then [92, 116] else if c = 92 then [92, 92] else if c = 34 then [92, 34] else [c] := rfl
    refine pq_eq (fun q => ?_) (fun q0 => pq_eq (fun q => ?_) (fun q1 => pq_eq (fun q => ?_) (fun q2 => pq_eq (fun q => pq_t rfl ?_) (fun q3 => ?_))))
    · rw [e, if_pos q]; exact pq_call (r_puts ho h) (fun y hy => fin hy)
    · rw [e, if_neg q0, if_pos q]; exact pq_call (r_puts ho h) (fun y hy => fin hy)
    · rw [e, if_neg q0, if_neg q1, if_pos q]; rw [q] at b68 ⊢; exact b68
    · rw [e, if_neg q0, if_neg q1, if_neg q2, if_pos q]; rw [q] at b68 ⊢; exact b68
    · rw [e, if_neg q0, if_neg q1, if_neg q2, if_neg q3]
      unfold mX9_escapesBack_b53
      exact pq_eq (fun _ => pq_f (show ¬ (3 : Int32) = 0 by decide) b79) (fun _ => b79)
theorem bSg_d {c : Int32} : bSg c = (decide (c = 44) || (decide (c = 34) || decide (c = 10))) := by
  unfold bSg
  simp only [Bool.or_assoc]
theorem r_hasSign {r : Nat} {t : BL} (hL : RLs σ r t) (h6 : t.length ≤ 1400) : PQ (mX9_hasSign r (nI t.length) σ) (fun y => y = (bI (sg t), σ)) := by
  have key : ∀ (d i : Nat), i ≤ t.length → PQ (mX9_hasSign_l2 d r (nI t.length) (nI i) σ) (fun y => y = (bI (sg (t.drop i)), σ)) := by
    intro d
    induction d with
    | zero => intro i _; exact pq_none
    | succ d ih =>
      intro i hi
      unfold mX9_hasSign_l2
      refine pq_le (nI_toInt (by omega)) (nI_toInt (by omega)) (fun q => ?_) (fun q => ?_)
      · rw [List.drop_eq_nil_of_le (by omega)]
        exact pq_ck (pq_ret rfl)
      · have hi' : i < t.length := by omega
        have e : sg (t.drop i) = (bSg (t.getD i 0) || sg (t.drop (i + 1))) := by
          unfold sg
          rw [dr_st hi', List.any_cons]
        rw [rd_nI (by omega), hL i hi', e, bSg_d]
        have yes : PQ (mX9_hasSign_b31 σ) (fun y => y = (1, σ)) := pq_ck (pq_ret rfl)
        refine pq_ck (pq_eq (fun q1 => ?_) (fun q1 => pq_ck (pq_eq (fun q2 => ?_) (fun q2 => pq_ck (pq_eq (fun q3 => ?_) (fun q3 => ?_))))))
        · rw [decide_eq_true q1]; exact yes
        · rw [decide_eq_true q2, decide_eq_false q1]; exact yes
        · rw [decide_eq_true q3, decide_eq_false q1, decide_eq_false q2]; exact yes
        · rw [decide_eq_false q1, decide_eq_false q2, decide_eq_false q3, nI_1]
          exact ih (i + 1) (by omega)
  exact key rFU 0 (Nat.zero_le _)
end RES
end
/-! part 62b.esc -/
section
/-! the reference escapes a text -/
theorem esc1 {fi : Bool} {c : Int32} : escC 1 fi c = if c = 34 then [34, 34] else [c] := (if_neg (by decide)).trans (if_pos rfl)
theorem escL1 {fi : Bool} {t : BL} : escL 1 fi t = escL 1 false t := by
  cases t with
  | nil => rfl
  | cons c t =>
    show escC 1 fi c ++ escL 1 false t = escC 1 false c ++ escL 1 false t
    rw [esc1, esc1]
section REL
variable {σ : RS9} {o r : Nat} {t : BL}
def PE9 (σ : RS9) (o : Nat) (W : BL) (y : Int32 × RS9) : Prop := ∃ σ', y = (nI W.length, σ') ∧ EO9 σ' o W ∧ FRX (fun k => k = o) F56 σ σ'
theorem r_escN {k v2 : Int32} {fi : Bool} (hk : k = 0 ∨ k = 2 ∨ k = 3) (ho : rLen o = 1400) (hro : r ≠ o) (hL : RLs σ r t) (h6 : t.length ≤ 1400) {W : BL} : ∀ (d i : Nat) (σ1 : RS9) (B : BL), i ≤ t.length → FRX (fun k => k = o) F56 σ σ1 → EO9 σ1 o B → B ++ escL k (fi && decide (i = 0)) (t.drop i) = W → PQ (mX9_escapes_l47 d k v2 (bI fi) r (nI t.length) o 0 (nI i) σ1) (PE9 σ o W) := by
  intro d
  induction d with
  | zero => intro i σ1 B _ _ _ _; exact pq_none
  | succ d ih =>
    intro i σ1 B hi hF hB hW
    unfold mX9_escapes_l47
    refine pq_le (nI_toInt (by omega)) (nI_toInt (by omega)) (fun q => ?_) (fun q => ?_)
    · rw [List.drop_eq_nil_of_le (by omega)] at hW
      have hW2 : B = W := by rw [← hW]; exact (List.append_nil B).symm
      subst hW2
      refine pq_t rfl ?_
      unfold mX9_escapes_b169
      exact pq_ret ⟨σ1, by rw [hB.1], hB, hF⟩
    have hi' : i < t.length := by omega
    rw [dr_st hi'] at hW
    have hW : B ++ (escC k (fi && decide (i = 0)) (t.getD i 0) ++ escL k false (t.drop (i + 1))) = W := hW
    rw [← List.append_assoc] at hW
    have rc : rGa σ1 r (nI i) = t.getD i 0 := by rw [rd_nI (by omega), hF.1 r hro]; exact hL i hi'
    have nxt : ∀ y, PO9 σ1 o (B ++ escC k (fi && decide (i = 0)) (t.getD i 0)) y → PQ (mX9_escapes_b150 (fun v1 v2 v3 v4 v5 v6 v7 v8 σ => mX9_escapes_l47 d v1 v2 v3 v4 v5 v6 v7 v8 σ) k v2 (bI fi) r (nI t.length) o 0 (nI i) y.2) (PE9 σ o W) := fun y hy => by
      obtain ⟨σ2, rfl, h1, h2⟩ := hy
      unfold mX9_escapes_b150
      rw [nI_1]
      refine ih (i + 1) σ2 _ (by omega) (frx_tr hF h2) h1 ?_
      rw [show decide (i + 1 = 0) = false from decide_eq_false (by omega), Bool.and_false]
      exact hW
    rw [rc]
    rcases hk with rfl | rfl | rfl
    · have eb := r_escB (k := 0) (c := t.getD i 0) (fi := fi && decide (i = 0)) (Or.inl rfl) ho hB
      have e101 : ∀ s4 : Int32, s4 = bI (fi && decide (i = 0)) → PQ (mX9_escapes_b101 (fun v1 v2 v3 v4 v5 v6 v7 v8 σ => mX9_escapes_l47 d v1 v2 v3 v4 v5 v6 v7 v8 σ) 0 v2 (bI fi) r (nI t.length) o 0 (nI i) 0 o (t.getD i 0) s4 σ1) (PE9 σ o W) := fun s4 hs => by
        rw [hs]
        exact pq_call eb nxt
      refine pq_f (show ¬ (0 : Int32) = 2 by decide) (pq_f (show ¬ (0 : Int32) = 1 by decide) (pq_ck ?_))
      cases fi with
      | false => exact pq_t rfl (e101 0 rfl)
      | true =>
        refine pq_f (show ¬ (1 : Int32) = 0 by decide) (pq_eqi (nI_toInt (by omega)) kt_0 (fun q1 => e101 1 ?_) (fun q1 => e101 0 ?_))
        · rw [decide_eq_true (show i = 0 by have := q1; omega)]; rfl
        · rw [decide_eq_false (show ¬ i = 0 from fun z => q1 (by rw [z]; rfl))]; rfl
    · exact pq_t rfl (pq_ck (pq_call (r_escM ho hB) nxt))
    · have eb := r_escB (k := 3) (c := t.getD i 0) (fi := fi && decide (i = 0)) (Or.inr rfl) ho hB
      have e101 : ∀ s4 : Int32, s4 = bI (fi && decide (i = 0)) → PQ (mX9_escapes_b101 (fun v1 v2 v3 v4 v5 v6 v7 v8 σ => mX9_escapes_l47 d v1 v2 v3 v4 v5 v6 v7 v8 σ) 3 v2 (bI fi) r (nI t.length) o 0 (nI i) 3 o (t.getD i 0) s4 σ1) (PE9 σ o W) := fun s4 hs => by
        rw [hs]
        exact pq_call eb nxt
      refine pq_f (show ¬ (3 : Int32) = 2 by decide) (pq_f (show ¬ (3 : Int32) = 1 by decide) (pq_ck ?_))
      cases fi with
      | false => exact pq_t rfl (e101 0 rfl)
      | true =>
        refine pq_f (show ¬ (1 : Int32) = 0 by decide) (pq_eqi (nI_toInt (by omega)) kt_0 (fun q1 => e101 1 ?_) (fun q1 => e101 0 ?_))
        · rw [decide_eq_true (show i = 0 by have := q1; omega)]; rfl
        · rw [decide_eq_false (show ¬ i = 0 from fun z => q1 (by rw [z]; rfl))]; rfl
theorem r_escT {v3 : Int32} {q w : Bool} (ho : rLen o = 1400) (hro : r ≠ o) (hL : RLs σ r t) (h6 : t.length ≤ 1400) {W : BL} : ∀ (d i : Nat) (σ1 : RS9) (B : BL), i ≤ t.length → FRX (fun k => k = o) F56 σ σ1 → EO9 σ1 o B → (B ++ (if (q || w) = true then escL 1 false (t.drop i) else t.drop i)) ++ (if w = true then [34] else []) = W → PQ (mX9_escapes_l47 d 1 (bI q) v3 r (nI t.length) o (bI w) (nI i) σ1) (PE9 σ o W) := by
  intro d
  induction d with
  | zero => intro i σ1 B _ _ _ _; exact pq_none
  | succ d ih =>
    intro i σ1 B hi hF hB hW
    unfold mX9_escapes_l47
    refine pq_le (nI_toInt (by omega)) (nI_toInt (by omega)) (fun q1 => ?_) (fun q1 => ?_)
    · rw [List.drop_eq_nil_of_le (by omega)] at hW
      have e0 : (if (q || w) = true then escL 1 false [] else ([] : BL)) = [] := by split <;> rfl
      rw [e0, List.append_nil] at hW
      unfold mX9_escapes_b169
      cases w with
      | false =>
        have hW2 : B = W := by rw [← hW]; exact (List.append_nil B).symm
        subst hW2
        exact pq_t rfl (pq_ret ⟨σ1, by rw [hB.1], hB, hF⟩)
      | true =>
        have hW2 : B ++ [34] = W := hW
        subst hW2
        refine pq_f (show ¬ (1 : Int32) = 0 by decide) (pq_call (r_plain ho hB) (fun y hy => ?_))
        obtain ⟨σ2, rfl, h1, h2⟩ := hy
        exact pq_ret ⟨σ2, by show (σ2.1 56, σ2) = _; rw [h1.1], h1, frx_tr hF h2⟩
    have hi' : i < t.length := by omega
    rw [dr_st hi'] at hW
    have rc : rGa σ1 r (nI i) = t.getD i 0 := by rw [rd_nI (by omega), hF.1 r hro]; exact hL i hi'
    have nxt : ∀ X : BL, (B ++ X ++ (if (q || w) = true then escL 1 false (t.drop (i + 1)) else t.drop (i + 1))) ++ (if w = true then [34] else []) = W → ∀ y, PO9 σ1 o (B ++ X) y → PQ (mX9_escapes_b150 (fun v1 v2 v3 v4 v5 v6 v7 v8 σ => mX9_escapes_l47 d v1 v2 v3 v4 v5 v6 v7 v8 σ) 1 (bI q) v3 r (nI t.length) o (bI w) (nI i) y.2) (PE9 σ o W) := fun X hX y hy => by
      obtain ⟨σ2, rfl, h1, h2⟩ := hy
      unfold mX9_escapes_b150
      rw [nI_1]
      exact ih (i + 1) σ2 _ (by omega) (frx_tr hF h2) h1 hX
    refine pq_f (show ¬ (1 : Int32) = 2 by decide) (pq_t rfl ?_)
    have b139 : (B ++ [t.getD i 0] ++ (if (q || w) = true then escL 1 false (t.drop (i + 1)) else t.drop (i + 1))) ++ (if w = true then [34] else []) = W → PQ (mX9_escapes_b139 (fun v1 v2 v3 v4 v5 v6 v7 v8 σ => mX9_escapes_l47 d v1 v2 v3 v4 v5 v6 v7 v8 σ) 1 (bI q) v3 r (nI t.length) o (bI w) (nI i) σ1) (PE9 σ o W) := fun hX => by
      unfold mX9_escapes_b139
      rw [rc]
      exact pq_ck (pq_call (r_plain ho hB) (nxt _ hX))
    have b116 : (q || w) = true → PQ (mX9_escapes_b116 (fun v1 v2 v3 v4 v5 v6 v7 v8 σ => mX9_escapes_l47 d v1 v2 v3 v4 v5 v6 v7 v8 σ) 1 (bI q) v3 r (nI t.length) o (bI w) (nI i) σ1) (PE9 σ o W) := fun hqw => by
      rw [if_pos hqw] at hW
      have hW : (B ++ (escC 1 false (t.getD i 0) ++ escL 1 false (t.drop (i + 1)))) ++ (if w = true then [34] else []) = W := hW
      rw [esc1, ← List.append_assoc B] at hW
      unfold mX9_escapes_b116
      rw [rc]
      refine pq_ck (pq_eq (fun q2 => ?_) (fun q2 => ?_))
      · rw [if_pos q2] at hW
        exact pq_call (r_puts ho hB) (nxt _ (by rw [if_pos hqw]; exact hW))
      · rw [if_neg q2] at hW
        exact b139 (by rw [if_pos hqw]; exact hW)
    cases q with
    | true => exact pq_f (show ¬ (1 : Int32) = 0 by decide) (b116 rfl)
    | false =>
      refine pq_t rfl ?_
      cases w with
      | true => exact pq_f (show ¬ (1 : Int32) = 0 by decide) (b116 rfl)
      | false =>
        refine pq_t rfl (b139 ?_)
        have hW : (B ++ (t.getD i 0 :: t.drop (i + 1))) ++ [] = W := hW
        show (B ++ [t.getD i 0] ++ t.drop (i + 1)) ++ [] = W
        rw [← hW, List.append_assoc B]; rfl
theorem r_escapes {k : Int32} {q fi : Bool} (hk : k = 0 ∨ k = 1 ∨ k = 2 ∨ k = 3) (ho : rLen o = 1400) (hro : r ≠ o) (hL : RLs σ r t) (h6 : t.length ≤ 1400) : PQ (mX9_escapes k (bI q) (bI fi) r (nI t.length) o σ) (PE9 σ o (esc k q fi t)) := by
  have hL0 : RLs (rSf σ 56 0) r t := hL
  have hB0 : EO9 (rSf σ 56 0) o [] := ⟨sf_eq, fun i hi => absurd hi (Nat.not_lt_zero _), Nat.zero_le _⟩
  have up : ∀ {W : BL} {y : Int32 × RS9}, PE9 (rSf σ 56 0) o W y → PE9 σ o W y := fun h => by
    obtain ⟨σ', h1, h2, h3⟩ := h
    exact ⟨σ', h1, h2, frx_tr (show FRX (fun k => k = o) F56 σ (rSf σ 56 0) from ⟨fun _ _ => rfl, fun k hk => sf_ne hk⟩) h3⟩
  unfold mX9_escapes
  by_cases h1 : k = 1
  · subst h1
    refine pq_t rfl ?_
    have b29 : ∀ w : Bool, (w = true → q = false) → PE9 (rSf σ 56 0) o (if q = true then escL 1 fi t else if w = true then 34 :: (escL 1 fi t ++ [34]) else t) = PE9 (rSf σ 56 0) o (esc 1 q fi t) → PQ (mX9_escapes_b29 1 (bI q) (bI fi) r (nI t.length) o (bI w) (rSf σ 56 0)) (PE9 σ o (esc 1 q fi t)) := fun w hw he => by
      refine pq_tail (Q1 := PE9 (rSf σ 56 0) o (esc 1 q fi t)) ?_ (fun y hy => up hy)
      rw [← he]
      unfold mX9_escapes_b29 mX9_escapes_b44
      cases w with
      | false =>
        refine pq_t rfl (r_escT (q := q) (w := false) ho hro hL0 h6 rFU 0 _ [] (Nat.zero_le _) frx_rfl hB0 ?_)
        rw [Bool.or_false, List.drop_zero, escL1 (fi := fi)]
        show ([] ++ _) ++ ([] : BL) = _
        rw [List.append_nil, List.nil_append]
        cases q <;> rfl
      | true =>
        have hq := hw rfl
        subst hq
        refine pq_f (show ¬ (1 : Int32) = 0 by decide) (pq_call (r_plain ho hB0) (fun y hy => ?_))
        obtain ⟨σ2, rfl, g1, g2⟩ := hy
        refine r_escT (q := false) (w := true) ho hro hL0 h6 rFU 0 σ2 _ (Nat.zero_le _) g2 g1 ?_
        rw [List.drop_zero, escL1 (fi := fi)]; rfl
    cases q with
    | true => exact pq_f (show ¬ (1 : Int32) = 0 by decide) (b29 false (fun h => by cases h) rfl)
    | false =>
      refine pq_t rfl (pq_isr (r_hasSign hL0 h6) ?_)
      cases hs : sg t with
      | false =>
        refine pq_t rfl (b29 false (fun h => by cases h) ?_)
        unfold esc
        rw [hs]; rfl
      | true =>
        refine pq_f (show ¬ (1 : Int32) = 0 by decide) (b29 true (fun _ => rfl) ?_)
        unfold esc
        rw [hs]; rfl
  · refine pq_f h1 ?_
    have hk3 : k = 0 ∨ k = 2 ∨ k = 3 := by
      rcases hk with h | h | h | h
      · exact Or.inl h
      · exact absurd h h1
      · exact Or.inr (Or.inl h)
      · exact Or.inr (Or.inr h)
    have e : esc k q fi t = escL k fi t := if_neg h1
    rw [e]
    unfold mX9_escapes_b28 mX9_escapes_b29 mX9_escapes_b44
    refine pq_t rfl (pq_tail (r_escN (fi := fi) hk3 ho hro hL0 h6 rFU 0 _ [] (Nat.zero_le _) frx_rfl hB0 ?_) (fun y hy => up hy))
    rw [decide_eq_true rfl, Bool.and_true, List.drop_zero]; rfl
end REL
end
/-! part 62c.told -/
section
/-! the reference: what is told, what is now, what is built of a piece -/
def tdN (o : Option BL) : Int32 := match o with
  | none => -1
  | some t => nI t.length
def TD9 (μ : Nat → Int32) (told : Nat → Option BL) : Prop := ∀ p, p < 40 → μ (443 + 61 * p) = tdN (told p) ∧ ∀ t, told p = some t → t.length ≤ 60 ∧ ∀ k, k < t.length → μ (444 + 61 * p + k) = t.getD k 0
def nwP (told : Nat → Option BL) (P : List Pc) (p : Nat) : BL := match told p with
  | none => pX (P.getD p pc0)
  | some t => t
theorem nI_61 {p : Nat} : (443 : Int32) + (61 : Int32) * nI p = nI (443 + 61 * p) := by
  rw [show (61 : Int32) * nI p = nI (61 * p) from nI_mulc 61 p]; exact nI_add 443 (61 * p)
theorem nI_61k {p k : Nat} : (((443 : Int32) + (61 : Int32) * nI p) + (1 : Int32)) + nI k = nI (444 + 61 * p + k) := by
  rw [nI_61, nI_1, nI_add, show 443 + 61 * p + 1 + k = 444 + 61 * p + k by omega]
theorem nI_ne {a : Nat} (h : a ≤ 5000) : nI a ≠ -1 := fun q => by
  have h1 := congrArg Int32.toInt q
  rw [nI_toInt (by omega), kt_m1] at h1; omega
theorem tdN_m1 {o : Option BL} (h : ∀ t, o = some t → t.length ≤ 5000) : (tdN o = -1 ↔ o = none) := by
  cases o with
  | none => exact ⟨fun _ => rfl, fun _ => rfl⟩
  | some t => exact ⟨fun q => absurd q (nI_ne (h t rfl)), fun q => by cases q⟩
section RTD
variable {σ : RS9} {told : Nat → Option BL} {p : Nat} {P : List Pc} {cf : CFG} {kf : Bool}
theorem r_toldOf (hT : TD9 (σ.2 1) told) (hp : p < 40) : PQ (mX9_toldOf (nI p) σ) (fun y => y = (tdN (told p), σ)) := by
  unfold mX9_toldOf
  rw [nI_61, rd_nI (by omega), (hT p hp).1]
  exact pq_ck (pq_ret rfl)
theorem r_toldAt {t : BL} {k : Nat} (hT : TD9 (σ.2 1) told) (hp : p < 40) (ht : told p = some t) (hk : k < t.length) : PQ (mX9_toldAt (nI p) (nI k) σ) (fun y => y = (t.getD k 0, σ)) := by
  have h := (hT p hp).2 t ht
  unfold mX9_toldAt
  rw [nI_61k, rd_nI (by omega), h.2 k hk]
  exact pq_ck (pq_ret rfl)
theorem r_isPieceThere {v : Int32} {n : Nat} (h : σ.1 33 = nI n) (hn : n ≤ 40) : PQ (mX9_isPieceThere v σ) (fun y => y = (bI (decide (0 ≤ v.toInt ∧ v.toInt < (n : Int))), σ)) := by
  unfold mX9_isPieceThere
  refine pq_isr r_isIn ?_
  have e : (σ.1 33 - (1 : Int32)).toInt = (n : Int) - 1 := by rw [h]; exact i_sub (nI_toInt (by omega)) kt_1 (by omega)
  rw [e, kt_0]
  have e2 : decide (0 ≤ v.toInt ∧ v.toInt ≤ (n : Int) - 1) = decide (0 ≤ v.toInt ∧ v.toInt < (n : Int)) := decide_eq_decide.mpr ⟨fun h => ⟨h.1, by omega⟩, fun h => ⟨h.1, by omega⟩⟩
  rw [e2]
  exact pq_ck (pq_ret rfl)
theorem r_nowMany (hT : TD9 (σ.2 1) told) (hP : PT σ kf P) (hp : p < P.length) : PQ (mX9_nowMany (nI p) σ) (fun y => y = (nI (nwP told P p).length, σ)) := by
  have hp4 : p < 40 := by have := hP.1.2; omega
  have h2 := (hP.2.2 p hp).2.2.2.2.2.2.2
  unfold mX9_nowMany mX9_nowMany_b23
  refine pq_isr (r_toldOf hT hp4) ?_
  cases ht : told p with
  | none =>
    refine pq_t rfl ?_
    rw [rd_nI (by omega), h2]
    refine pq_ck (pq_ret ?_)
    unfold nwP; rw [ht]
  | some t =>
    refine pq_f (nI_ne (by have := ((hT p hp4).2 t ht).1; omega)) ?_
    refine pq_isr (r_toldOf hT hp4) (pq_ret ?_)
    unfold nwP; rw [ht]; rfl
theorem r_nowByte {k : Nat} (hT : TD9 (σ.2 1) told) (hP : PT σ kf P) (hp : p < P.length) (hk : k < (nwP told P p).length) : PQ (mX9_nowByte (nI p) (nI k) σ) (fun y => y = ((nwP told P p).getD k 0, σ)) := by
  have hp4 : p < 40 := by have := hP.1.2; omega
  have h2 := (hP.2.2 p hp).2.2.2.2.2.2.1
  unfold mX9_nowByte mX9_nowByte_b31
  refine pq_isr (r_toldOf hT hp4) ?_
  have e : nwP told P p = (match told p with
    | none => pX (P.getD p pc0)
    | some t => t) := rfl
  rw [e] at hk ⊢
  cases ht : told p with
  | none =>
    rw [ht] at hk
    have hk : k < (pX (P.getD p pc0)).length := hk
    have hle := tx_le hp
    have h6 := hP.2.1.2.1
    refine pq_t rfl ?_
    have er : rGa σ 41 (nI p) = nI (tAt P p) := by rw [rd_nI (by omega)]; exact h2
    show PQ (rCk _ (rCk _ (some (rGa σ 43 (rGa σ 41 (nI p) + nI k), σ)))) _
    rw [er, nI_add, rd_nI (by omega), hP.2.1.2.2.2.1 _ (by omega), tx_gd hp hk]
    exact pq_ck (pq_ck (pq_ret rfl))
  | some t =>
    rw [ht] at hk
    refine pq_f (nI_ne (by have := ((hT p hp4).2 t ht).1; omega)) ?_
    exact pq_isr (r_toldAt hT hp4 ht hk) (pq_ret rfl)
abbrev R53 : Nat → Prop := fun k => k = 53
abbrev NF9 : Nat → Prop := fun _ => False
theorem RL_53 {r : Nat} {M : BL} {i : Nat} {c : Int32} (h : RLs σ r (M.take i)) (hi : i < M.length) (hc : c = M.getD i 0) (hM : M.length ≤ 5000) : RLs (rSa σ r (nI i) c) r (M.take (i + 1)) := by
  have el : (M.take i).length = i := by rw [List.length_take]; omega
  have h4 := RL_put (c := c) h (by omega)
  rw [el] at h4
  have e5 : M.take (i + 1) = M.take i ++ [c] := by
    rw [List.take_succ, hc, List.getD_eq_getElem?_getD, List.getElem?_eq_getElem hi]; rfl
  rw [e5]; exact h4
theorem r_holdsTold {t : BL} (hT : TD9 (σ.2 1) told) (hp : p < 40) (ht : told p = some t) : PQ (mX9_holdsTold (nI p) σ) (fun y => ∃ σ', y = (0, σ') ∧ RLs σ' 53 t ∧ FRX R53 NF9 σ σ') := by
  have h60 := ((hT p hp).2 t ht).1
  have key : ∀ (d i : Nat) (σ1 : RS9), i ≤ t.length → FRX R53 NF9 σ σ1 → RLs σ1 53 (t.take i) → PQ (mX9_holdsTold_l2 d (nI p) (nI i) σ1) (fun y => ∃ σ', y = (0, σ') ∧ RLs σ' 53 t ∧ FRX R53 NF9 σ σ') := by
    intro d
    induction d with
    | zero => intro i σ1 _ _ _; exact pq_none
    | succ d ih =>
      intro i σ1 hi hF hR
      have hT1 : TD9 (σ1.2 1) told := by rw [hF.1 1 (fun q => by omega)]; exact hT
      unfold mX9_holdsTold_l2
      refine pq_isr (r_toldOf hT1 hp) ?_
      rw [ht]
      refine pq_le (nI_toInt (by omega)) (nI_toInt (by omega)) (fun q => ?_) (fun q => ?_)
      · have e : i = t.length := by omega
        rw [e, List.take_length] at hR
        exact pq_ret ⟨σ1, rfl, hR, hF⟩
      · have hi' : i < t.length := by omega
        refine pq_isr (r_toldAt hT1 hp ht hi') (pq_ck ?_)
        rw [nI_1]
        exact ih (i + 1) _ (by omega) (frx_tr hF ⟨fun k hk => sa_ne hk, fun k hk => rfl⟩) (RL_53 hR hi' rfl (by omega))
  exact key rFU 0 σ (Nat.zero_le _) frx_rfl (fun i hi => absurd hi (by rw [List.take_zero]; exact Nat.not_lt_zero _))
abbrev R46 : Nat → Prop := fun k => k = 46 ∨ k = 47
def EF9 (σ : RS9) (o : Option BL) (y : Int32 × RS9) : Prop := ∃ σ', y = (tdN o, σ') ∧ (∀ e, o = some e → RLs σ' 47 e ∧ e.length ≤ 1400) ∧ FRX R46 F56 σ σ'
theorem r_escFor {t : BL} (hM : MC (σ.2 1) cf) (hP : PT σ kf P) (hp : p < P.length) (h53 : RLs σ 53 t) (ht : t.length ≤ 60) : PQ (mX9_escapedFor (nI p) (nI t.length) σ) (EF9 σ (escFor cf (P.getD p pc0) t)) := by
  have hp4 : p < 40 := by have := hP.1.2; omega
  obtain ⟨-, -, g36, g37, g38, -, -, -⟩ := hP.2.2 p hp
  generalize P.getD p pc0 = x at g36 g37 g38
  have hk := (MC_k hM).1
  have e2 : rGa σ 1 (2 : Int32) = cf.2.1 := hM.2.1
  have e1 : rGa σ 1 (1 : Int32) = cf.1 := hM.1
  have f36 : rGa σ 36 (nI p) = bI x.2.2.1 := by rw [rd_nI (by omega)]; exact g36
  have f37 : rGa σ 37 (nI p) = bI x.2.2.2.1 := by rw [rd_nI (by omega)]; exact g37
  have f38 : rGa σ 38 (nI p) = bI x.2.2.2.2.1 := by rw [rd_nI (by omega)]; exact g38
  have b01 : ∀ (b : Bool) {A B : Option (Int32 × RS9)} {Q : Int32 × RS9 → Prop}, (b = true → PQ A Q) → (b = false → PQ B Q) → PQ (if bI b = 1 then A else B) Q := fun b A B Q h1 h2 => by
    cases b with
    | true => exact pq_t rfl (h1 rfl)
    | false => exact pq_f (show ¬ (0 : Int32) = 1 by decide) (h2 rfl)
  unfold mX9_escapedFor
  rw [e2, e1, f36, f37]
  refine pq_ck (pq_eq (fun qi => pq_ck (pq_ck ?_)) (fun qi => pq_ck (pq_ck ?_)))
  · have eF : escFor cf x t = some (esc cf.1 x.2.2.1 x.2.2.2.2.1 t) := by
      unfold escFor mid
      rw [if_neg (fun q => q.1 qi), if_pos qi]
    rw [eF]
    have fin : PQ (mX9_escapedFor_b32 (nI p) (nI t.length) cf.1 (bI x.2.2.1) σ) (EF9 σ (some (esc cf.1 x.2.2.1 x.2.2.2.2.1 t))) := by
      have go : PQ (mX9_escapedFor_b47 (nI t.length) cf.1 (bI x.2.2.1) (bI x.2.2.2.2.1) σ) (EF9 σ (some (esc cf.1 x.2.2.1 x.2.2.2.2.1 t))) := by
        unfold mX9_escapedFor_b47
        refine pq_call (r_escapes (q := x.2.2.1) (fi := x.2.2.2.2.1) (o := 47) hk rfl (by decide) h53 (by omega)) (fun y hy => ?_)
        obtain ⟨σ', rfl, h1, h2⟩ := hy
        exact pq_ret ⟨σ', rfl, fun e he => by cases he; exact ⟨h1.2.1, h1.2.2⟩, frx_mono h2 (fun k hk => Or.inr hk) (fun k hk => hk)⟩
      unfold mX9_escapedFor_b32
      rw [f38]
      exact pq_ck (b01 _ (fun h => by rw [h] at go ⊢; exact go) (fun h => by rw [h] at go ⊢; exact go))
    exact b01 _ (fun h => by rw [h] at fin; rw [h]; exact fin) (fun h => by rw [h] at fin; rw [h]; exact fin)
  · have hkI : cf.2.1 = 0 ∨ cf.2.1 = 1 ∨ cf.2.1 = 2 ∨ cf.2.1 = 3 := by
      rcases (MC_k hM).2.1 with h | h
      · exact absurd h qi
      · exact h
    have em : mid cf x.2.2.2.1 t = esc cf.2.1 x.2.2.2.1 true t := if_neg qi
    have eF : escFor cf x t = if cf.1 = 1 ∧ x.2.2.1 = false ∧ sg (esc cf.2.1 x.2.2.2.1 true t) = true then none else some (esc cf.1 x.2.2.1 x.2.2.2.2.1 (esc cf.2.1 x.2.2.2.1 true t)) := by
      unfold escFor
      rw [em]
      by_cases h : cf.1 = 1 ∧ x.2.2.1 = false ∧ sg (esc cf.2.1 x.2.2.2.1 true t) = true
      · rw [if_pos h, if_pos ⟨qi, h⟩]
      · rw [if_neg h, if_neg (fun q => h q.2)]
    rw [eF]
    generalize hw : esc cf.2.1 x.2.2.2.1 true t = w at eF
    have main : PQ (mX9_escapedFor_b82 (nI p) (nI t.length) cf.2.1 (bI x.2.2.2.1) σ) (EF9 σ (if cf.1 = 1 ∧ x.2.2.1 = false ∧ sg w = true then none else some (esc cf.1 x.2.2.1 x.2.2.2.2.1 w))) := by
      unfold mX9_escapedFor_b82
      refine pq_call (r_escapes (q := x.2.2.2.1) (fi := true) (o := 46) hkI rfl (by decide) h53 (by omega)) (fun y hy => ?_)
      obtain ⟨σ1, rfl, g1, g2⟩ := hy
      rw [hw] at g1 ⊢
      have hF1 : FRX R46 F56 σ σ1 := frx_mono g2 (fun k hk => Or.inl hk) (fun k hk => hk)
      have e1' : rGa σ1 1 (1 : Int32) = cf.1 := by
        unfold rGa; rw [hF1.1 1 (fun q => by omega)]; exact e1
      have f36' : rGa σ1 36 (nI p) = bI x.2.2.1 := by
        unfold rGa; rw [hF1.1 36 (fun q => by omega)]; exact f36
      have f38' : rGa σ1 38 (nI p) = bI x.2.2.2.2.1 := by
        unfold rGa; rw [hF1.1 38 (fun q => by omega)]; exact f38
      have b128 : ¬ (cf.1 = 1 ∧ x.2.2.1 = false ∧ sg w = true) → PQ (mX9_escapedFor_b128 (nI p) (nI w.length) σ1) (EF9 σ (if cf.1 = 1 ∧ x.2.2.1 = false ∧ sg w = true then none else some (esc cf.1 x.2.2.1 x.2.2.2.2.1 w))) := fun hn => by
        rw [if_neg hn]
        have go : PQ (mX9_escapedFor_b165 (nI w.length) cf.1 (bI x.2.2.1) (bI x.2.2.2.2.1) σ1) (EF9 σ (some (esc cf.1 x.2.2.1 x.2.2.2.2.1 w))) := by
          unfold mX9_escapedFor_b165
          refine pq_call (r_escapes (q := x.2.2.1) (fi := x.2.2.2.2.1) (o := 47) hk rfl (by decide) g1.2.1 g1.2.2) (fun y hy => ?_)
          obtain ⟨σ', rfl, h1, h2⟩ := hy
          exact pq_ret ⟨σ', rfl, fun e he => by cases he; exact ⟨h1.2.1, h1.2.2⟩, frx_tr hF1 (frx_mono h2 (fun k hk => Or.inr hk) (fun k hk => hk))⟩
        have mid1 : PQ (mX9_escapedFor_b150 (nI p) (nI w.length) cf.1 (bI x.2.2.1) σ1) (EF9 σ (some (esc cf.1 x.2.2.1 x.2.2.2.2.1 w))) := by
          unfold mX9_escapedFor_b150
          rw [f38']
          exact pq_ck (b01 _ (fun h => by rw [h] at go ⊢; exact go) (fun h => by rw [h] at go ⊢; exact go))
        unfold mX9_escapedFor_b128
        rw [e1', f36']
        exact pq_ck (pq_ck (b01 _ (fun h => by rw [h] at mid1; rw [h]; exact mid1) (fun h => by rw [h] at mid1; rw [h]; exact mid1)))
      show PQ (rCk _ (if rGa σ1 1 (1 : Int32) = 1 then rCk _ (if rGa σ1 36 (nI p) = 0 then ((mX9_hasSign 46 (nI w.length) σ1).bind fun r4 => (if r4.1 = (0 : Int32) then mX9_escapedFor_b128 (nI p) (nI w.length) r4.2 else some ((-1 : Int32), r4.2))) else mX9_escapedFor_b128 (nI p) (nI w.length) σ1) else mX9_escapedFor_b128 (nI p) (nI w.length) σ1)) _
      rw [e1', f36']
      refine pq_ck (pq_eq (fun q1 => pq_ck ?_) (fun q1 => b128 (fun h => q1 h.1)))
      cases hq : x.2.2.1 with
      | true =>
        rw [hq] at b128
        exact pq_f (show ¬ (1 : Int32) = 0 by decide) (b128 (fun h => by cases h.2.1))
      | false =>
        rw [hq] at b128
        refine pq_t rfl (pq_isr (r_hasSign g1.2.1 g1.2.2) ?_)
        cases hs : sg w with
        | false =>
          rw [hs] at b128
          exact pq_t rfl (b128 (fun h => by cases h.2.2))
        | true =>
          refine pq_f (show ¬ (1 : Int32) = 0 by decide) (pq_ret ?_)
          rw [if_pos ⟨q1, rfl, rfl⟩]
          exact ⟨σ1, rfl, (fun e he => by cases he), hF1⟩
    exact b01 _ (fun h => by rw [h] at main; exact main) (fun h => by rw [h] at main; exact main)
/-- what a piece is in what is built -/
abbrev R47 : Nat → Prop := fun k => k = 46 ∨ k = 47 ∨ k = 53
def BO9 (σ : RS9) (o : Option BL) (W : BL) (y : Int32 × RS9) : Prop := ∃ σ', y = (nI W.length, σ') ∧ W.length ≤ 1400 ∧ (o ≠ none → RLs σ' 47 W) ∧ FRX R47 F56 σ σ'
theorem r_builtOf {F : BL} (hM : MC (σ.2 1) cf) (hT : TD9 (σ.2 1) told) (hP : PT σ kf P) (hO : ORD P F.length) (hF4 : F.length ≤ 600) (hV : VE cf told P) (hp : p < P.length) : PQ (mX9_builtOf (nI p) σ) (BO9 σ (told p) (bOf cf F told p (P.getD p pc0))) := by
  have hp4 : p < 40 := by have := hP.1.2; omega
  have ho := hO.1 p hp
  unfold mX9_builtOf
  refine pq_isr (r_toldOf hT hp4) ?_
  cases ht : told p with
  | none =>
    have eb : bOf cf F told p (P.getD p pc0) = sl F (P.getD p pc0).1 (P.getD p pc0).2.1 := by
      unfold bOf; rw [ht]
    obtain ⟨g34, g35, -⟩ := hP.2.2 p hp
    refine pq_t rfl (pq_ck (pq_ck ?_))
    rw [rd_nI (by omega), rd_nI (by omega), eb]
    show PQ (some (σ.2 35 p - σ.2 34 p, σ)) _
    rw [g34, g35, nI_sb (by omega) (by omega)]
    exact pq_ret ⟨σ, by rw [sl_len ho.2.2], by rw [sl_len ho.2.2]; omega, fun q => absurd rfl q, frx_rfl⟩
  | some t =>
    have h60 := ((hT p hp4).2 t ht).1
    have hve := hV p t hp ht
    have eb : bOf cf F told p (P.getD p pc0) = (escFor cf (P.getD p pc0) t).getD [] := by
      unfold bOf; rw [ht]
    refine pq_f (nI_ne (by omega)) (pq_call (r_holdsTold hT hp4 ht) (fun y hy => ?_))
    obtain ⟨σ1, rfl, h53, hF1⟩ := hy
    have hM1 : MC (σ1.2 1) cf := by rw [hF1.1 1 (fun q => by omega)]; exact hM
    have hT1 : TD9 (σ1.2 1) told := by rw [hF1.1 1 (fun q => by omega)]; exact hT
    have hP1 := PT_frx hP hF1 (fun k h1 h2 q => by omega) ⟨fun q => q, fun q => q⟩
    refine pq_isr (r_toldOf hT1 hp4) ?_
    rw [ht]
    refine pq_call (r_escFor hM1 hP1 hp h53 h60) (fun y hy => ?_)
    obtain ⟨σ2, rfl, h1, h2⟩ := hy
    cases he : escFor cf (P.getD p pc0) t with
    | none => rw [he] at hve; cases hve
    | some e =>
      rw [eb, he]
      obtain ⟨k1, k2⟩ := h1 e he
      exact pq_ret ⟨σ2, rfl, k2, fun _ => k1, frx_tr (frx_mono hF1 (fun k hk => Or.inr (Or.inr hk)) (fun k hk => absurd hk id)) (frx_mono h2 (fun k hk => by omega) (fun k hk => hk))⟩
end RTD
end
/-! part 62d.build -/
section
/-! the reference builds -/
theorem nI_abc {a b c : Nat} (h : c ≤ a + b) (ha : a ≤ 200000) (hb : b ≤ 200000) (hc : c ≤ 200000) : nI a + (nI b - nI c) = nI (a + b - c) := Int32.toInt_inj.mp (by rw [i_add (nI_toInt (by omega)) (i_sub (nI_toInt (by omega)) (nI_toInt (by omega)) (by omega)) (by omega), nI_toInt (by omega)]; omega)
theorem take_gd1 {M : BL} {i : Nat} (h : i < M.length) : M.take (i + 1) = M.take i ++ [M.getD i 0] := by
  rw [List.take_succ, List.getD_eq_getElem?_getD, List.getElem?_eq_getElem h]; rfl
theorem row_s {cf : CFG} {F : BL} {told : Nat → Option BL} {P : List Pc} {i : Nat} : rowTo cf F told P (i + 1) = rowTo cf F told P i ++ sl F (plc P i) (P.getD i pc0).1 ++ bOf cf F told i (P.getD i pc0) := rfl
theorem row_sl {cf : CFG} {F : BL} {told : Nat → Option BL} {P : List Pc} {i : Nat} (hO : ORD P F.length) (hi : i < P.length) : (rowTo cf F told P (i + 1)).length = (rowTo cf F told P i).length + ((P.getD i pc0).1 - plc P i) + (bOf cf F told i (P.getD i pc0)).length := by
  have ho := hO.1 i hi
  rw [row_s, List.length_append, List.length_append, sl_len (by omega)]
theorem plc_s {P : List Pc} {i : Nat} : plc P (i + 1) = (P.getD i pc0).2.1 := rfl
theorem plc_le {P : List Pc} {N i : Nat} (hO : ORD P N) (hi : i ≤ P.length) : plc P i ≤ N := by
  cases i with
  | zero => exact Nat.zero_le _
  | succ i => exact (hO.1 i (by omega)).2.2
section RBU
variable {σ : RS9} {told : Nat → Option BL} {P : List Pc} {cf : CFG} {kf : Bool} {F : BL}
/-- what building looks at -/
def BV9 (σ : RS9) (cf : CFG) (told : Nat → Option BL) (P : List Pc) (F : BL) (kf : Bool) : Prop := MC (σ.2 1) cf ∧ TD9 (σ.2 1) told ∧ PT σ kf P ∧ σ.2 1 0 = nI F.length ∧ ∀ i, i < F.length → σ.2 1 (43 + i) = F.getD i 0
theorem BV9_frx {σ' : RS9} {R G : Nat → Prop} (h : BV9 σ cf told P F kf) (hX : FRX R G σ σ') (h1 : ¬ R 1) (hR : ∀ k, 34 ≤ k → k ≤ 44 → ¬ R k) (hG : ¬ G 33 ∧ ¬ G 45) : BV9 σ' cf told P F kf := by
  obtain ⟨a, b, c, d, e⟩ := h
  exact ⟨by rw [hX.1 1 h1]; exact a, by rw [hX.1 1 h1]; exact b, PT_frx c hX hR hG, by rw [hX.1 1 h1]; exact d, by rw [hX.1 1 h1]; exact e⟩
theorem r_builtMany (hB : BV9 σ cf told P F kf) (hO : ORD P F.length) (hF4 : F.length ≤ 600) (hV : VE cf told P) : PQ (mX9_builtMany σ) (fun y => ∃ σ', y = (nI (blt cf F told P).length, σ') ∧ (blt cf F told P).length ≤ 100000 ∧ FRX R47 F56 σ σ') := by
  have h40 := hB.2.2.1.1.2
  have key : ∀ (d i : Nat) (σ1 : RS9), i ≤ P.length → FRX R47 F56 σ σ1 → (rowTo cf F told P i).length ≤ 2000 * i → PQ (mX9_builtMany_l9 d (nI ((rowTo cf F told P i).length + (F.length - plc P i))) (nI i) σ1) (fun y => ∃ σ', y = (nI (blt cf F told P).length, σ') ∧ (blt cf F told P).length ≤ 100000 ∧ FRX R47 F56 σ σ') := by
    intro d
    induction d with
    | zero => intro i σ1 _ _ _; exact pq_none
    | succ d ih =>
      intro i σ1 hi hF hl
      have hB1 : BV9 σ1 cf told P F kf := BV9_frx hB hF (fun q => by omega) (fun k h1 h2 q => by omega) ⟨fun q => by omega, fun q => by omega⟩
      unfold mX9_builtMany_l9
      rw [hB1.2.2.1.1.1]
      refine pq_le (nI_toInt (by omega)) (nI_toInt (by omega)) (fun q => ?_) (fun q => ?_)
      · have e : i = P.length := by omega
        have hle := plc_le hO (Nat.le_refl _)
        have e2 : (blt cf F told P).length = (rowTo cf F told P i).length + (F.length - plc P i) := by
          unfold blt
          rw [List.length_append, sl_len (Nat.le_refl _), e]
        exact pq_ret ⟨σ1, by rw [e2], by rw [e2]; omega, hF⟩
      · have hi' : i < P.length := by omega
        have ho := hO.1 i hi'
        refine pq_call (r_builtOf hB1.1 hB1.2.1 hB1.2.2.1 hO hF4 hV hi') (fun y hy => ?_)
        obtain ⟨σ2, rfl, g1, -, g3⟩ := hy
        have hB2 : BV9 σ2 cf told P F kf := BV9_frx hB1 g3 (fun q => by omega) (fun k h1 h2 q => by omega) ⟨fun q => by omega, fun q => by omega⟩
        obtain ⟨g34, g35, -⟩ := hB2.2.2.1.2.2 i hi'
        have hrs := row_sl (cf := cf) (told := told) hO hi'
        have er : rGa σ2 35 (nI i) - rGa σ2 34 (nI i) = nI ((P.getD i pc0).2.1 - (P.getD i pc0).1) := by
          rw [rd_nI (by omega), rd_nI (by omega), g34, g35, nI_sb (by omega) (by omega)]
        show PQ (rCk _ (rCk _ (mX9_builtMany_l9 d (nI ((rowTo cf F told P i).length + (F.length - plc P i)) + (nI (bOf cf F told i (P.getD i pc0)).length - (rGa σ2 35 (nI i) - rGa σ2 34 (nI i)))) (nI i + 1) σ2))) _
        rw [er, nI_abc (by omega) (by omega) (by omega) (by omega), nI_1]
        have e3 : (rowTo cf F told P i).length + (F.length - plc P i) + (bOf cf F told i (P.getD i pc0)).length - ((P.getD i pc0).2.1 - (P.getD i pc0).1) = (rowTo cf F told P (i + 1)).length + (F.length - plc P (i + 1)) := by
          rw [hrs, plc_s]; omega
        rw [e3]
        exact pq_ck (pq_ck (ih (i + 1) σ2 (by omega) (frx_tr hF g3) (by rw [hrs]; omega)))
  have e0 : rGa σ 1 (0 : Int32) = nI ((rowTo cf F told P 0).length + (F.length - plc P 0)) := by
    show σ.2 1 0 = nI (0 + (F.length - 0))
    rw [Nat.zero_add, Nat.sub_zero]; exact hB.2.2.2.1
  unfold mX9_builtMany
  rw [e0]
  exact pq_ck (key rFU 0 σ (Nat.zero_le _) frx_rfl (Nat.zero_le _))
abbrev R49 : Nat → Prop := fun k => k = 46 ∨ k = 47 ∨ k = 49 ∨ k = 52 ∨ k = 53
/-- built so far -/
def BU9 (σ : RS9) (cf : CFG) (F : BL) (told : Nat → Option BL) (P : List Pc) (i : Nat) (W : BL) : Prop := RLs σ 49 W ∧ W.length ≤ 700 ∧ ∀ j, j < i → σ.2 52 j = nI (bbeg cf F told P j)
theorem sl_s {L : BL} {a b : Nat} (h : a ≤ b) (hb : b < L.length) : sl L a (b + 1) = sl L a b ++ [L.getD b 0] := by
  rw [← sl_ap3 (a := a) (b := b) (c := b + 1) h (by omega) (by omega), sl_st (a := b) (b := b + 1) (by omega) (by omega), sl_nil (Nat.le_refl _)]
theorem BU_put {i : Nat} {W : BL} {c : Int32} (h : BU9 σ cf F told P i W) (hl : W.length < 700) : BU9 (rSa σ 49 (nI W.length) c) cf F told P i (W ++ [c]) := ⟨RL_put h.1 (by omega), by rw [List.length_append]; show W.length + 1 ≤ 700; omega, fun j hj => by rw [sa_ne (by decide)]; exact h.2.2 j hj⟩
theorem r_builds (hB : BV9 σ cf told P F kf) (hO : ORD P F.length) (hF4 : F.length ≤ 600) (hV : VE cf told P) : PQ (mX9_builds σ) (fun y => ∃ σ', y = (nI (blt cf F told P).length, σ') ∧ BU9 σ' cf F told P P.length (blt cf F told P) ∧ FRX R49 F56 σ σ') := by
  have h40 := hB.2.2.1.1.2
  have bv : ∀ {s1 : RS9}, FRX R49 F56 σ s1 → BV9 s1 cf told P F kf := fun hF => BV9_frx hB hF (fun q => by omega) (fun k h1 h2 q => by omega) ⟨fun q => by omega, fun q => by omega⟩
  have f49 : ∀ {s1 : RS9} {x v : Int32}, FRX R49 F56 s1 (rSa s1 49 x v) := fun {s1 x v} => ⟨fun k hk => sa_ne (fun q => hk (Or.inr (Or.inr (Or.inl q)))), fun k hk => rfl⟩
  -- the tail
  have k136 : ∀ (d k : Nat) (σ1 : RS9), plc P P.length ≤ k → k ≤ F.length → FRX R49 F56 σ σ1 → BU9 σ1 cf F told P P.length (rowTo cf F told P P.length ++ sl F (plc P P.length) k) → PQ (mX9_builds_l136 d (nI (rowTo cf F told P P.length ++ sl F (plc P P.length) k).length) (nI k) σ1) (fun y => ∃ σ', y = (nI (blt cf F told P).length, σ') ∧ BU9 σ' cf F told P P.length (blt cf F told P) ∧ FRX R49 F56 σ σ') := by
    intro d
    induction d with
    | zero => intro k σ1 _ _ _ _; exact pq_none
    | succ d ih =>
      intro k σ1 h1 h2 hF hU
      have hB1 := bv hF
      have e0 : rGa σ1 1 (0 : Int32) = nI F.length := hB1.2.2.2.1
      unfold mX9_builds_l136
      rw [e0]
      refine pq_ck (pq_le (nI_toInt (by omega)) (nI_toInt (by omega)) (fun q => ?_) (fun q => ?_))
      · have e : k = F.length := by omega
        subst e
        exact pq_ret ⟨σ1, rfl, hU, hF⟩
      · rw [show (43 : Int32) + nI k = nI (43 + k) from nI_add 43 k, rd_nI (by omega), hB1.2.2.2.2 k (by omega), nI_1, nI_1]
        refine pq_ck (pq_ckb (fun hin => ?_))
        have hl : (rowTo cf F told P P.length ++ sl F (plc P P.length) k).length < 700 := in_nI (by have := hU.2.1; omega) hin
        have hu := BU_put (c := F.getD k 0) hU hl
        have e3 : (rowTo cf F told P P.length ++ sl F (plc P P.length) k) ++ [F.getD k 0] = rowTo cf F told P P.length ++ sl F (plc P P.length) (k + 1) := by
          rw [sl_s h1 (by omega), List.append_assoc]
        have e4 : (rowTo cf F told P P.length ++ sl F (plc P P.length) k).length + 1 = (rowTo cf F told P P.length ++ sl F (plc P P.length) (k + 1)).length := by
          rw [← e3, List.length_append (bs := [F.getD k 0])]; rfl
        rw [e3] at hu
        rw [e4]
        exact ih (k + 1) _ (by omega) (by omega) (frx_tr hF f49) hu
  -- from piece to piece
  have k6 : ∀ (d i : Nat) (σ1 : RS9), i ≤ P.length → FRX R49 F56 σ σ1 → BU9 σ1 cf F told P i (rowTo cf F told P i) → PQ (mX9_builds_l6 d (nI (rowTo cf F told P i).length) (nI (plc P i)) (nI i) σ1) (fun y => ∃ σ', y = (nI (blt cf F told P).length, σ') ∧ BU9 σ' cf F told P P.length (blt cf F told P) ∧ FRX R49 F56 σ σ') := by
    intro d
    induction d with
    | zero => intro i σ1 _ _ _; exact pq_none
    | succ d ih =>
      intro i σ1 hi hF hU
      unfold mX9_builds_l6
      rw [(bv hF).2.2.1.1.1]
      refine pq_le (nI_toInt (by omega)) (nI_toInt (by omega)) (fun q => ?_) (fun q => ?_)
      · have e : i = P.length := by omega
        subst e
        have hle := plc_le hO (Nat.le_refl _)
        have hU2 : BU9 σ1 cf F told P P.length (rowTo cf F told P P.length ++ sl F (plc P P.length) (plc P P.length)) := by
          rw [sl_nil (Nat.le_refl _), List.append_nil]; exact hU
        have := k136 rFU (plc P P.length) σ1 (Nat.le_refl _) hle hF hU2
        rw [sl_nil (Nat.le_refl _), List.append_nil] at this
        exact this
      have hi' : i < P.length := by omega
      have ho := hO.1 i hi'
      -- the piece itself
      have k65 : ∀ (d2 k : Nat) (σ2 : RS9), k ≤ (bOf cf F told i (P.getD i pc0)).length → (bOf cf F told i (P.getD i pc0)).length ≤ 1400 → FRX R49 F56 σ σ2 → (told i ≠ none → RLs σ2 47 (bOf cf F told i (P.getD i pc0))) → BU9 σ2 cf F told P (i + 1) ((rowTo cf F told P i ++ sl F (plc P i) (P.getD i pc0).1) ++ (bOf cf F told i (P.getD i pc0)).take k) → PQ (mX9_builds_l65 (fun v1 v2 v3 σ => mX9_builds_l6 d v1 v2 v3 σ) d2 (nI (rowTo cf F told P i ++ sl F (plc P i) (P.getD i pc0).1).length) (nI (P.getD i pc0).1) (nI i) (nI (bOf cf F told i (P.getD i pc0)).length) (nI k) σ2) (fun y => ∃ σ', y = (nI (blt cf F told P).length, σ') ∧ BU9 σ' cf F told P P.length (blt cf F told P) ∧ FRX R49 F56 σ σ') := by
        intro d2
        induction d2 with
        | zero => intro k σ2 _ _ _ _ _; exact pq_none
        | succ d2 ih2 =>
          intro k σ2 hk hw hF2 h47 hU2
          have hB2 := bv hF2
          unfold mX9_builds_l65
          refine pq_le (nI_toInt (by omega)) (nI_toInt (by omega)) (fun q2 => ?_) (fun q2 => ?_)
          · have e : k = (bOf cf F told i (P.getD i pc0)).length := by omega
            rw [e, List.take_length] at hU2
            have e35 : rGa σ2 35 (nI i) = nI (plc P (i + 1)) := by rw [rd_nI (by omega)]; exact (hB2.2.2.1.2.2 i hi').2.1
            have e1 : nI (rowTo cf F told P i ++ sl F (plc P i) (P.getD i pc0).1).length + nI (bOf cf F told i (P.getD i pc0)).length = nI (rowTo cf F told P (i + 1)).length := by
              rw [nI_add, row_s, List.length_append (bs := bOf cf F told i (P.getD i pc0))]
            rw [e35, e1, nI_1]
            exact pq_ck (ih (i + 1) σ2 (by omega) hF2 hU2)
          · have hk' : k < (bOf cf F told i (P.getD i pc0)).length := by omega
            have hl0 := hU2.2.1
            have el : ((rowTo cf F told P i ++ sl F (plc P i) (P.getD i pc0).1) ++ (bOf cf F told i (P.getD i pc0)).take k).length = (rowTo cf F told P i ++ sl F (plc P i) (P.getD i pc0).1).length + k := by
              rw [List.length_append, List.length_take]; omega
            have b111 : ∀ s2 : Int32, s2 = (bOf cf F told i (P.getD i pc0)).getD k 0 → PQ (mX9_builds_b111 (fun v1 v2 v3 σ => mX9_builds_l6 d v1 v2 v3 σ) (fun v1 v2 v3 v4 v5 σ => mX9_builds_l65 (fun v1 v2 v3 σ => mX9_builds_l6 d v1 v2 v3 σ) d2 v1 v2 v3 v4 v5 σ) (nI (rowTo cf F told P i ++ sl F (plc P i) (P.getD i pc0).1).length) (nI (P.getD i pc0).1) (nI i) (nI (bOf cf F told i (P.getD i pc0)).length) (nI k) 49 (nI (rowTo cf F told P i ++ sl F (plc P i) (P.getD i pc0).1).length + nI k) s2 σ2) (fun y => ∃ σ', y = (nI (blt cf F told P).length, σ') ∧ BU9 σ' cf F told P P.length (blt cf F told P) ∧ FRX R49 F56 σ σ') := fun s2 hs2 => by
              unfold mX9_builds_b111
              rw [nI_add, ← el]
              refine pq_ckb (fun hin => ?_)
              have hl := in_nI (by omega) hin
              have hu := BU_put (c := s2) hU2 hl
              have e5 : ((rowTo cf F told P i ++ sl F (plc P i) (P.getD i pc0).1) ++ (bOf cf F told i (P.getD i pc0)).take k) ++ [s2] = (rowTo cf F told P i ++ sl F (plc P i) (P.getD i pc0).1) ++ (bOf cf F told i (P.getD i pc0)).take (k + 1) := by
                rw [List.append_assoc (rowTo cf F told P i ++ sl F (plc P i) (P.getD i pc0).1), take_gd1 hk', hs2]
              rw [e5] at hu
              rw [nI_1]
              exact ih2 (k + 1) _ (by omega) hw (frx_tr hF2 f49) (fun q => by
                intro j hj
                rw [sa_ne (by decide)]; exact h47 q j hj) hu
            refine pq_isr (r_toldOf hB2.2.1 (by omega)) ?_
            cases ht : told i with
            | none =>
              have eb : bOf cf F told i (P.getD i pc0) = sl F (P.getD i pc0).1 (P.getD i pc0).2.1 := by
                unfold bOf; rw [ht]
              have hbl : (bOf cf F told i (P.getD i pc0)).length = (P.getD i pc0).2.1 - (P.getD i pc0).1 := by rw [eb, sl_len ho.2.2]
              refine pq_t rfl (pq_ck (b111 _ ?_))
              show rGa σ2 1 (((43 : Int32) + nI (P.getD i pc0).1) + nI k) = _
              rw [show (43 : Int32) + nI (P.getD i pc0).1 = nI (43 + (P.getD i pc0).1) from nI_add 43 _, nI_add, rd_nI (by omega), show 43 + (P.getD i pc0).1 + k = 43 + ((P.getD i pc0).1 + k) by omega, hB2.2.2.2.2 _ (by omega), eb, sl_gd (by omega)]
            | some t =>
              have h60 := ((hB2.2.1 i (by omega)).2 t ht).1
              refine pq_f (nI_ne (by omega)) (pq_ck (b111 _ ?_))
              show rGa σ2 47 (nI k) = _
              rw [rd_nI (by omega)]
              exact h47 (by rw [ht]; exact fun q => by cases q) k hk'
      -- ahead of the piece
      have k14 : ∀ (d2 k : Nat) (σ2 : RS9), plc P i ≤ k → k ≤ (P.getD i pc0).1 → FRX R49 F56 σ σ2 → BU9 σ2 cf F told P i (rowTo cf F told P i ++ sl F (plc P i) k) → PQ (mX9_builds_l14 (fun v1 v2 v3 σ => mX9_builds_l6 d v1 v2 v3 σ) d2 (nI (rowTo cf F told P i ++ sl F (plc P i) k).length) (nI k) (nI i) σ2) (fun y => ∃ σ', y = (nI (blt cf F told P).length, σ') ∧ BU9 σ' cf F told P P.length (blt cf F told P) ∧ FRX R49 F56 σ σ') := by
        intro d2
        induction d2 with
        | zero => intro k σ2 _ _ _ _; exact pq_none
        | succ d2 ih2 =>
          intro k σ2 h1 h2 hF2 hU2
          have hB2 := bv hF2
          have e34 : rGa σ2 34 (nI i) = nI (P.getD i pc0).1 := by rw [rd_nI (by omega)]; exact (hB2.2.2.1.2.2 i hi').1
          unfold mX9_builds_l14
          rw [e34]
          refine pq_ck (pq_le (nI_toInt (by omega)) (nI_toInt (by omega)) (fun q2 => ?_) (fun q2 => ?_))
          · have e : k = (P.getD i pc0).1 := by omega
            subst e
            have f52 : FRX R49 F56 σ2 (rSa σ2 52 (nI i) (nI (rowTo cf F told P i ++ sl F (plc P i) (P.getD i pc0).1).length)) := ⟨fun k hk => sa_ne (fun q => hk (by omega)), fun k hk => rfl⟩
            have hB3 := bv (frx_tr hF2 f52)
            refine pq_ck (pq_call (r_builtOf hB3.1 hB3.2.1 hB3.2.2.1 hO hF4 hV hi') (fun y hy => ?_))
            obtain ⟨σ3, rfl, g1, g2, g3⟩ := hy
            refine k65 rFU 0 σ3 (Nat.zero_le _) g1 (frx_tr (frx_tr hF2 f52) (frx_mono g3 (fun k hk => by omega) (fun k hk => hk))) g2 ?_
            rw [List.take_zero, List.append_nil]
            refine ⟨fun j hj => ?_, hU2.2.1, fun j hj => ?_⟩
            · rw [g3.1 49 (fun q => by omega), sa_ne (by decide)]; exact hU2.1 j hj
            · rw [g3.1 52 (fun q => by omega), sa_nI (by omega)]
              by_cases e : j = i
              · rw [if_pos e, e]; rfl
              · rw [if_neg e]; exact hU2.2.2 j (by omega)
          · rw [show (43 : Int32) + nI k = nI (43 + k) from nI_add 43 k, rd_nI (by omega), hB2.2.2.2.2 k (by omega), nI_1, nI_1]
            refine pq_ck (pq_ckb (fun hin => ?_))
            have hl : (rowTo cf F told P i ++ sl F (plc P i) k).length < 700 := in_nI (by have := hU2.2.1; omega) hin
            have hu := BU_put (c := F.getD k 0) hU2 hl
            have e3 : (rowTo cf F told P i ++ sl F (plc P i) k) ++ [F.getD k 0] = rowTo cf F told P i ++ sl F (plc P i) (k + 1) := by
              rw [sl_s h1 (by omega), List.append_assoc]
            have e4 : (rowTo cf F told P i ++ sl F (plc P i) k).length + 1 = (rowTo cf F told P i ++ sl F (plc P i) (k + 1)).length := by
              rw [← e3, List.length_append (bs := [F.getD k 0])]; rfl
            rw [e3] at hu
            rw [e4]
            exact ih2 (k + 1) _ (by omega) (by omega) (frx_tr hF2 f49) hu
      have hU2 : BU9 σ1 cf F told P i (rowTo cf F told P i ++ sl F (plc P i) (plc P i)) := by
        rw [sl_nil (Nat.le_refl _), List.append_nil]; exact hU
      have := k14 rFU (plc P i) σ1 (Nat.le_refl _) ho.1 hF hU2
      rw [sl_nil (Nat.le_refl _), List.append_nil] at this
      exact this
  unfold mX9_builds
  exact k6 rFU 0 σ (Nat.zero_le _) frx_rfl ⟨fun j hj => absurd hj (Nat.not_lt_zero _), Nat.zero_le _, fun j hj => absurd hj (Nat.not_lt_zero _)⟩
end RBU
end
/-! part 63a.mrow -/
section
/-! the reference's row of numbers holds a state -/
def PW9 (μ : Nat → Int32) (a : Nat) (t : BL) : Prop := t.length ≤ 60 ∧ μ a = nI t.length ∧ ∀ j, j < t.length → μ (a + 1 + j) = t.getD j 0
def PR9 (μ : Nat → Int32) (mem : List (BL × BL)) : Prop := μ 42 = nI mem.length ∧ mem.length ≤ 12 ∧ ∀ k, k < mem.length → PW9 μ (2883 + 122 * k) (mem.getD k ([], [])).1 ∧ PW9 μ (2944 + 122 * k) (mem.getD k ([], [])).2
def FL9 (μ : Nat → Int32) (F : BL) : Prop := (μ 0 = nI F.length ∧ F.length ≤ 400) ∧ ∀ i, i < F.length → μ (43 + i) = F.getD i 0
def MR9 (μ : Nat → Int32) (S : SST) : Prop := FL9 μ S.1 ∧ MC μ S.2.1 ∧ TD9 μ S.2.2.1 ∧ PR9 μ S.2.2.2
section MRE
variable {μ μ' : Nat → Int32}
theorem PW9_ext {a : Nat} {t : BL} (h : PW9 μ a t) (e : ∀ i, a ≤ i → i < a + 61 → μ' i = μ i) : PW9 μ' a t := ⟨h.1, (e a (Nat.le_refl _) (by omega)).trans h.2.1, fun j hj => (e _ (by omega) (by have := h.1; omega)).trans (h.2.2 j hj)⟩
theorem PR9_ext {mem : List (BL × BL)} (h : PR9 μ mem) (e0 : μ' 42 = μ 42) (e : ∀ i, 2883 ≤ i → i < 4347 → μ' i = μ i) : PR9 μ' mem := ⟨e0.trans h.1, h.2.1, fun k hk => ⟨PW9_ext (h.2.2 k hk).1 (fun i h1 h2 => e i (by omega) (by have := h.2.1; omega)), PW9_ext (h.2.2 k hk).2 (fun i h1 h2 => e i (by omega) (by have := h.2.1; omega))⟩⟩
theorem FL9_ext {F : BL} (h : FL9 μ F) (e : ∀ i, i < 443 → μ' i = μ i) : FL9 μ' F := ⟨⟨(e 0 (by omega)).trans h.1.1, h.1.2⟩, fun i hi => (e _ (by have := h.1.2; omega)).trans (h.2 i hi)⟩
theorem MC_ext {cf : CFG} (h : MC μ cf) (e : ∀ i, i < 42 → μ' i = μ i) : MC μ' cf := by
  obtain ⟨h1, h2, h3, h4, h5, h6, h7⟩ := h
  refine ⟨(e 1 (by omega)).trans h1, (e 2 (by omega)).trans h2, (e 3 (by omega)).trans h3, (e 4 (by omega)).trans h4, (e 5 (by omega)).trans h5, fun l hl => ?_, h7⟩
  have hl4 := h7.2.2.2.2.1
  have h8 := cf_lk h7 hl
  exact ⟨(e _ (by omega)).trans (h6 l hl).1, fun k hk => (e _ (by omega)).trans ((h6 l hl).2 k hk)⟩
theorem TD9_ext {told : Nat → Option BL} (h : TD9 μ told) (e : ∀ i, 443 ≤ i → i < 2883 → μ' i = μ i) : TD9 μ' told := fun p hp => by
  obtain ⟨h1, h2⟩ := h p hp
  refine ⟨(e _ (by omega) (by omega)).trans h1, fun t ht => ⟨(h2 t ht).1, fun k hk => (e _ (by omega) (by have := (h2 t ht).1; omega)).trans ((h2 t ht).2 k hk)⟩⟩
theorem MR9_ext {S : SST} (h : MR9 μ S) (e : ∀ i, i < 4347 → μ' i = μ i) : MR9 μ' S := ⟨FL9_ext h.1 (fun i hi => e i (by omega)), MC_ext h.2.1 (fun i hi => e i (by omega)), TD9_ext h.2.2.1 (fun i _ hi => e i (by omega)), PR9_ext h.2.2.2 (e 42 (by omega)) (fun i _ hi => e i hi)⟩
end MRE
abbrev RA9 : Nat → Prop := fun k => k = 1 ∨ 13 ≤ k
abbrev FA9 : Nat → Prop := fun k => k = 16 ∨ 22 ≤ k
abbrev RK9 : Nat → Prop := fun k => 13 ≤ k ∧ k ≤ 44
abbrev FK9 : Nat → Prop := fun k => k = 16 ∨ k = 22 ∨ k = 26 ∨ k = 33 ∨ k = 45 ∨ k = 54 ∨ k = 55
def RM9 (σ : RS9) (S : SST) : Prop := MR9 (σ.2 1) S ∧ PT σ (decide (S.2.1.1 = 0)) (pcF S)
theorem up_nI {σ : RS9} {a : Nat} {v : Int32} (ha : a < 2 ^ 31) : ∀ i, (rSa σ 1 (nI a) v).2 1 i = if i = a then v else σ.2 1 i := fun i => sa_nI ha
section RMR
variable {σ : RS9} {cf : CFG} {F : BL}
theorem r_cutsFile (hF : FL9 (σ.2 1) F) (hM : MC (σ.2 1) cf) : PQ (mX9_cutsFile σ) (fun y => ∃ σ', y = (0, σ') ∧ PT σ' (decide (cf.1 = 0)) (pcs cf F) ∧ FRX RK9 FK9 σ σ') := by
  have key : ∀ (d i : Nat) (σ1 : RS9), i ≤ F.length → FRX (fun k => k = 13) (fun k => k = 16) σ σ1 → σ1.1 16 = nI F.length → RLs σ1 13 (F.take i) → PQ (mX9_cutsFile_l12 d (nI i) σ1) (fun y => ∃ σ', y = (0, σ') ∧ PT σ' (decide (cf.1 = 0)) (pcs cf F) ∧ FRX RK9 FK9 σ σ') := by
    intro d
    induction d with
    | zero => intro i σ1 _ _ _ _; exact pq_none
    | succ d ih =>
      intro i σ1 hi hX h16 hR
      have h4 := hF.1.2
      unfold mX9_cutsFile_l12
      rw [h16]
      refine pq_le (nI_toInt (by omega)) (nI_toInt (by omega)) (fun q => ?_) (fun q => ?_)
      · have e : i = F.length := by omega
        rw [e, List.take_length] at hR
        refine pq_call (r_cutsAll (cf := cf) (by rw [hX.1 1 (fun q => by omega)]; exact hM) hR h16 (by omega)) (fun y hy => ?_)
        obtain ⟨σ2, rfl, h1, h2⟩ := hy
        exact pq_ret ⟨σ2, rfl, h1, frx_tr (frx_mono hX (fun k hk => by omega) (fun k hk => by omega)) (frx_mono h2 (fun k hk => by omega) (fun k hk => by omega))⟩
      · have hi' : i < F.length := by omega
        rw [show (43 : Int32) + nI i = nI (43 + i) from nI_add 43 i, rd_nI (by omega), hX.1 1 (fun q => by omega), hF.2 i hi', nI_1]
        exact pq_ck (pq_ck (ih (i + 1) _ (by omega) (frx_tr hX ⟨fun k hk => sa_ne hk, fun k hk => rfl⟩) h16 (RL_53 hR hi' rfl (by omega))))
  unfold mX9_cutsFile
  refine pq_ck (key rFU 0 _ (Nat.zero_le _) ⟨fun k hk => rfl, fun k hk => sf_ne hk⟩ (sf_eq.trans hF.1.1) (fun i hi => absurd hi (by rw [List.take_zero]; exact Nat.not_lt_zero _)))
theorem r_putsAside : PQ (mX9_putsAside σ) (fun y => ∃ σ', y = (0, σ') ∧ (∀ i, i < 4347 → σ'.2 2 i = σ.2 1 i) ∧ FRX (fun k => k = 2) NF9 σ σ') := by
  have key : ∀ (d i : Nat) (σ1 : RS9), i ≤ 4347 → FRX (fun k => k = 2) NF9 σ σ1 → (∀ j, j < i → σ1.2 2 j = σ.2 1 j) → PQ (mX9_putsAside_l2 d (nI i) σ1) (fun y => ∃ σ', y = (0, σ') ∧ (∀ i, i < 4347 → σ'.2 2 i = σ.2 1 i) ∧ FRX (fun k => k = 2) NF9 σ σ') := by
    intro d
    induction d with
    | zero => intro i σ1 _ _ _; exact pq_none
    | succ d ih =>
      intro i σ1 hi hX hj
      unfold mX9_putsAside_l2
      refine pq_le (show (4347 : Int32).toInt = 4347 by decide) (nI_toInt (by omega)) (fun q => ?_) (fun q => ?_)
      · have e : i = 4347 := by omega
        subst e
        exact pq_ret ⟨σ1, rfl, hj, hX⟩
      · rw [rd_nI (by omega), hX.1 1 (fun q => by omega), nI_1]
        refine pq_ck (pq_ck (ih (i + 1) _ (by omega) (frx_tr hX ⟨fun k hk => sa_ne hk, fun k hk => rfl⟩) (fun j hj2 => ?_)))
        rw [sa_nI (by omega)]
        by_cases e : j = i
        · rw [if_pos e, e]
        · rw [if_neg e]; exact hj j (by omega)
  exact key rFU 0 σ (Nat.zero_le _) frx_rfl (fun j hj => absurd hj (Nat.not_lt_zero _))
theorem r_putsBack {S : SST} (h : MR9 (σ.2 2) S) : PQ (mX9_putsBack σ) (fun y => ∃ σ', y = (0, σ') ∧ RM9 σ' S ∧ FRX RA9 FA9 σ σ') := by
  have key : ∀ (d i : Nat) (σ1 : RS9), i ≤ 4347 → FRX (fun k => k = 1) NF9 σ σ1 → (∀ j, j < i → σ1.2 1 j = σ.2 2 j) → PQ (mX9_putsBack_l2 d (nI i) σ1) (fun y => ∃ σ', y = (0, σ') ∧ RM9 σ' S ∧ FRX RA9 FA9 σ σ') := by
    intro d
    induction d with
    | zero => intro i σ1 _ _ _; exact pq_none
    | succ d ih =>
      intro i σ1 hi hX hj
      unfold mX9_putsBack_l2
      refine pq_le (show (4347 : Int32).toInt = 4347 by decide) (nI_toInt (by omega)) (fun q => ?_) (fun q => ?_)
      · have e : i = 4347 := by omega
        subst e
        have hm := MR9_ext h hj
        refine pq_call (r_cutsFile hm.1 hm.2.1) (fun y hy => ?_)
        obtain ⟨σ2, rfl, h1, h2⟩ := hy
        exact pq_ret ⟨σ2, rfl, ⟨by rw [h2.1 1 (fun q => by omega)]; exact hm, h1⟩, frx_tr (frx_mono hX (fun k hk => Or.inl hk) (fun k hk => absurd hk id)) (frx_mono h2 (fun k hk => by omega) (fun k hk => by omega))⟩
      · rw [rd_nI (by omega), hX.1 2 (fun q => by omega), nI_1]
        refine pq_ck (pq_ck (ih (i + 1) _ (by omega) (frx_tr hX ⟨fun k hk => sa_ne hk, fun k hk => rfl⟩) (fun j hj2 => ?_)))
        rw [sa_nI (by omega)]
        by_cases e : j = i
        · rw [if_pos e, e]
        · rw [if_neg e]; exact hj j (by omega)
  exact key rFU 0 σ (Nat.zero_le _) frx_rfl (fun j hj => absurd hj (Nat.not_lt_zero _))
/-- nothing is told any more: the row's places of what is told -/
def NT9 (σ σ' : RS9) (n : Nat) : Prop := (∀ q, q < n → σ'.2 1 (443 + 61 * q) = -1) ∧ (∀ i, (i < 443 ∨ 2883 ≤ i) → σ'.2 1 i = σ.2 1 i) ∧ FRX (fun k => k = 1) NF9 σ σ'
theorem NT9_s {σ' : RS9} {n : Nat} (h : NT9 σ σ' n) (hn : n < 40) : NT9 σ (rSa σ' 1 (nI (443 + 61 * n)) (-1)) (n + 1) := by
  refine ⟨fun q hq => ?_, fun i hi => ?_, frx_tr h.2.2 ⟨fun k hk => sa_ne hk, fun k hk => rfl⟩⟩
  · rw [up_nI (by omega)]
    by_cases e : q = n
    · rw [if_pos (by rw [e])]
    · rw [if_neg (by omega)]; exact h.1 q (by omega)
  · rw [up_nI (by omega), if_neg (by omega)]; exact h.2.1 i hi
theorem NT9_MR {σ' : RS9} {S : SST} (h : NT9 σ σ' 40) (h1 : FL9 (σ.2 1) S.1) (h2 : MC (σ.2 1) S.2.1) (h3 : PR9 (σ.2 1) S.2.2.2) (hn : ∀ i, S.2.2.1 i = none) : MR9 (σ'.2 1) S := by
  refine ⟨FL9_ext h1 (fun i hi => h.2.1 i (Or.inl hi)), MC_ext h2 (fun i hi => h.2.1 i (by omega)), fun p hp => ?_, PR9_ext h3 (h.2.1 42 (by omega)) (fun i hi _ => h.2.1 i (Or.inr hi))⟩
  rw [hn p]
  exact ⟨h.1 p hp, fun t ht => by cases ht⟩
theorem r_cutsAnew {mem : List (BL × BL)} (hF : FL9 (σ.2 1) F) (hM : MC (σ.2 1) cf) (hR : PR9 (σ.2 1) mem) : PQ (mX9_cutsAnew σ) (fun y => ∃ σ', y = (0, σ') ∧ RM9 σ' (F, cf, fun _ => none, mem) ∧ FRX RA9 FA9 σ σ') := by
  unfold mX9_cutsAnew
  refine pq_call (r_cutsFile hF hM) (fun y hy => ?_)
  obtain ⟨σ1, rfl, h1, h2⟩ := hy
  have e1 : σ1.2 1 = σ.2 1 := h2.1 1 (fun q => by omega)
  have key : ∀ (d i : Nat) (σ2 : RS9), i ≤ 40 → NT9 σ1 σ2 i → PQ (mX9_cutsAnew_l6 d (nI i) σ2) (fun y => ∃ σ', y = (0, σ') ∧ RM9 σ' (F, cf, fun _ => none, mem) ∧ FRX RA9 FA9 σ σ') := by
    intro d
    induction d with
    | zero => intro i σ2 _ _; exact pq_none
    | succ d ih =>
      intro i σ2 hi hN
      unfold mX9_cutsAnew_l6
      refine pq_le kt_40 (nI_toInt (by omega)) (fun q => ?_) (fun q => ?_)
      · have e : i = 40 := by omega
        subst e
        refine pq_ret ⟨σ2, rfl, ⟨NT9_MR (S := (F, cf, fun _ => none, mem)) hN (by rw [e1]; exact hF) (by rw [e1]; exact hM) (by rw [e1]; exact hR) (fun _ => rfl), PT_frx h1 hN.2.2 (fun k h1 h2 q => by omega) ⟨fun q => q, fun q => q⟩⟩, ?_⟩
        exact frx_tr (frx_mono h2 (fun k hk => by omega) (fun k hk => by omega)) (frx_mono hN.2.2 (fun k hk => Or.inl hk) (fun k hk => absurd hk id))
      · rw [nI_61, nI_1]
        exact pq_ck (ih (i + 1) _ (by omega) (NT9_s hN (by omega)))
  exact key rFU 0 σ1 (Nat.zero_le _) ⟨fun q hq => absurd hq (Nat.not_lt_zero _), fun i hi => rfl, frx_rfl⟩
end RMR
end
/-! part 63b.acts -/
section
/-! the reference: tell, free, spread, swap, wipe -/
def DOA (σ : RS9) (r : Int32 × SST) (y : Int32 × RS9) : Prop := ∃ σ', y = (r.1, σ') ∧ (r.1 = 0 → RM9 σ' r.2) ∧ FRX RA9 FA9 σ σ'
theorem bad_a {σ σ' : RS9} {c : Int32} {S : SST} (h : c ≠ 0) (hF : FRX RA9 FA9 σ σ') : DOA σ (c, S) (c, σ') := ⟨σ', rfl, fun q => absurd q h, hF⟩
theorem if_01 {b : Bool} {A B : Option (Int32 × RS9)} {Q : Int32 × RS9 → Prop} (h1 : b = false → PQ A Q) (h2 : b = true → PQ B Q) : PQ (if bI b = 0 then A else B) Q := by
  cases b with
  | false => exact pq_t rfl (h1 rfl)
  | true => exact pq_f (show ¬ (1 : Int32) = 0 by decide) (h2 rfl)
section RAC
variable {σ : RS9} {S : SST}
theorem RM_BV (h : RM9 σ S) : BV9 σ S.2.1 S.2.2.1 (pcF S) S.1 (decide (S.2.1.1 = 0)) := ⟨h.1.2.1, h.1.2.2.1, h.2, h.1.1.1.1, h.1.1.2⟩
theorem RM_frx {σ' : RS9} {R G : Nat → Prop} (h : RM9 σ S) (hX : FRX R G σ σ') (h1 : ¬ R 1) (hR : ∀ k, 34 ≤ k → k ≤ 44 → ¬ R k) (hG : ¬ G 33 ∧ ¬ G 45) : RM9 σ' S := ⟨by rw [hX.1 1 h1]; exact h.1, PT_frx h.2 hX hR hG⟩
theorem RM_33 (h : RM9 σ S) : σ.1 33 = nI (pcF S).length ∧ (pcF S).length ≤ 40 := h.2.1
theorem r_fin {S1 : SST} (h : RM9 σ S1) (hV : VE S1.2.1 S1.2.2.1 (pcF S1)) : PQ ((mX9_builtMany σ).bind fun r => (if r.1 ≤ (600 : Int32) then some ((0 : Int32), r.2) else some ((3 : Int32), r.2))) (fun y => ∃ σ', y = ((finA S S1).1, σ') ∧ ((finA S S1).1 = 0 → RM9 σ' (finA S S1).2) ∧ FRX R47 F56 σ σ') := by
  have h4 := h.1.1.1.2
  refine pq_call (r_builtMany (RM_BV h) pcs_ord (by omega) hV) (fun y hy => ?_)
  obtain ⟨σ1, rfl, h1, h2⟩ := hy
  have ef : finA S S1 = if 600 < (bltS S1).length then (3, S) else (0, S1) := rfl
  refine pq_le (nI_toInt (by omega)) kt_600 (fun q => ?_) (fun q => ?_)
  · have q' : ((bltS S1).length : Int) ≤ 600 := q
    rw [ef, if_neg (show ¬ 600 < (bltS S1).length by omega)]
    exact pq_ret ⟨σ1, rfl, fun _ => RM_frx h h2 (fun q => by omega) (fun k h1 h2 q => by omega) ⟨fun q => by omega, fun q => by omega⟩, h2⟩
  · have q' : (600 : Int) < ((bltS S1).length : Int) := q
    rw [ef, if_pos (show 600 < (bltS S1).length by omega)]
    exact pq_ret ⟨σ1, rfl, fun q => absurd q (show ¬ (3 : Int32) = 0 by decide), h2⟩
def TL9 (σ σ' : RS9) (p : Nat) (t : BL) : Prop := (∀ i, (i < 443 + 61 * p ∨ 443 + 61 * p + t.length < i) → σ'.2 1 i = σ.2 1 i) ∧ σ'.2 1 (443 + 61 * p) = nI t.length ∧ (∀ k, k < t.length → σ'.2 1 (444 + 61 * p + k) = t.getD k 0) ∧ FRX (fun k => k = 1) NF9 σ σ'
theorem r_tells {p : Nat} {t : BL} (hp : p < 40) (h53 : RLs σ 53 t) (ht : t.length ≤ 60) : PQ (mX9_tells (nI p) (nI t.length) σ) (fun y => ∃ σ', y = (0, σ') ∧ TL9 σ σ' p t) := by
  have key : ∀ (d i : Nat) (σ1 : RS9), i ≤ t.length → (∀ z, (z < 443 + 61 * p ∨ 443 + 61 * p + t.length < z) → σ1.2 1 z = σ.2 1 z) → σ1.2 1 (443 + 61 * p) = nI t.length → (∀ k, k < i → σ1.2 1 (444 + 61 * p + k) = t.getD k 0) → FRX (fun k => k = 1) NF9 σ σ1 → PQ (mX9_tells_l16 d (nI p) (nI t.length) (nI i) σ1) (fun y => ∃ σ', y = (0, σ') ∧ TL9 σ σ' p t) := by
    intro d
    induction d with
    | zero => intro i σ1 _ _ _ _ _; exact pq_none
    | succ d ih =>
      intro i σ1 hi h1 h2 h3 hX
      unfold mX9_tells_l16
      refine pq_le (nI_toInt (by omega)) (nI_toInt (by omega)) (fun q => ?_) (fun q => ?_)
      · have e : i = t.length := by omega
        subst e
        exact pq_ret ⟨σ1, rfl, h1, h2, h3, hX⟩
      · rw [nI_61k, rd_nI (by omega), hX.1 53 (fun q => by omega), h53 i (by omega), nI_1]
        refine pq_ck (pq_ck (ih (i + 1) _ (by omega) (fun z hz => ?_) ?_ (fun k hk => ?_) (frx_tr hX ⟨fun k hk => sa_ne hk, fun k hk => rfl⟩)))
        · rw [up_nI (by omega), if_neg (by omega)]; exact h1 z hz
        · rw [up_nI (by omega), if_neg (by omega)]; exact h2
        · rw [up_nI (by omega)]
          by_cases e : k = i
          · rw [if_pos (by rw [e]), e]
          · rw [if_neg (by omega)]; exact h3 k (by omega)
  unfold mX9_tells
  rw [nI_61]
  refine pq_ck (key rFU 0 _ (Nat.zero_le _) (fun z hz => ?_) ?_ (fun k hk => absurd hk (Nat.not_lt_zero _)) ⟨fun k hk => sa_ne hk, fun k hk => rfl⟩)
  · rw [up_nI (by omega), if_neg (by omega)]
  · rw [up_nI (by omega), if_pos rfl]
theorem TL_MR {σ' : RS9} {p : Nat} {t : BL} (h : MR9 (σ.2 1) S) (hp : p < 40) (ht : t.length ≤ 60) (hT : TL9 σ σ' p t) : MR9 (σ'.2 1) (setT S (tset S.2.2.1 p (some t))) := by
  obtain ⟨h1, h2, h3, h4⟩ := h
  obtain ⟨t1, t2, t3, -⟩ := hT
  refine ⟨FL9_ext h1 (fun i hi => t1 i (by omega)), MC_ext h2 (fun i hi => t1 i (by omega)), fun q hq => ?_, PR9_ext h4 (t1 42 (by omega)) (fun i hi _ => t1 i (by omega))⟩
  show σ'.2 1 (443 + 61 * q) = tdN (tset S.2.2.1 p (some t) q) ∧ ∀ u, tset S.2.2.1 p (some t) q = some u → u.length ≤ 60 ∧ ∀ k, k < u.length → σ'.2 1 (444 + 61 * q + k) = u.getD k 0
  by_cases e : q = p
  · subst e
    rw [tset_eq]
    exact ⟨t2, fun u hu => by cases hu; exact ⟨ht, t3⟩⟩
  · rw [tset_ne e]
    obtain ⟨g1, g2⟩ := h3 q hq
    refine ⟨(t1 _ (by omega)).trans g1, fun u hu => ⟨(g2 u hu).1, fun k hk => (t1 _ (by have := (g2 u hu).1; omega)).trans ((g2 u hu).2 k hk)⟩⟩
theorem TL_RM {σ' : RS9} {p : Nat} {t : BL} (h : RM9 σ S) (hp : p < 40) (ht : t.length ≤ 60) (hT : TL9 σ σ' p t) : RM9 σ' (setT S (tset S.2.2.1 p (some t))) := ⟨TL_MR h.1 hp ht hT, PT_frx h.2 hT.2.2.2 (fun k h1 h2 q => by omega) ⟨fun q => q, fun q => q⟩⟩
theorem TL_fr {σ' : RS9} {p : Nat} {t : BL} (hT : TL9 σ σ' p t) : FRX RA9 FA9 σ σ' := frx_mono hT.2.2.2 (fun k hk => Or.inl hk) (fun k hk => absurd hk id)
theorem v_nI {v : Int32} {n : Nat} (h : 0 ≤ v.toInt ∧ v.toInt < (n : Int)) (hn : n ≤ 600) : v = nI v.toInt.toNat ∧ v.toInt.toNat < n := ⟨nI_x h.1 (by omega), by omega⟩
theorem r_free0 {v : Int32} (h : RM9 σ S) (hS : SV S) : PQ (mX9_free0 v σ) (DOA σ (frA S v)) := by
  obtain ⟨h33, h40⟩ := RM_33 h
  unfold mX9_free0
  refine pq_isr (r_isPieceThere h33 h40) ?_
  by_cases hin : inP S v
  · have ed : decide (0 ≤ v.toInt ∧ v.toInt < ((pcF S).length : Int)) = true := decide_eq_true hin
    rw [ed]
    refine pq_f (show ¬ (1 : Int32) = 0 by decide) ?_
    obtain ⟨e1, e2⟩ := v_nI hin (by omega)
    have ef : frA S v = if S.2.2.1 v.toInt.toNat = none then (4, S) else finA S (setT S (tset S.2.2.1 v.toInt.toNat none)) := if_pos hin
    rw [ef]
    generalize v.toInt.toNat = p at e1 e2 ⊢
    subst e1
    have hT := h.1.2.2.1
    refine pq_isr (r_toldOf hT (by omega)) ?_
    cases ht : S.2.2.1 p with
    | none =>
      rw [if_pos (show (none : Option BL) = none from rfl)]
      exact pq_t rfl (pq_ret (bad_a (by decide) frx_rfl))
    | some t =>
      have h60 := ((hT p (by omega)).2 t ht).1
      rw [if_neg (show ¬ (some t : Option BL) = none from fun q => by cases q)]
      refine pq_f (nI_ne (by omega)) (pq_ck ?_)
      rw [nI_61]
      have hX : FRX (fun k => k = 1) NF9 σ (rSa σ 1 (nI (443 + 61 * p)) (-1)) := ⟨fun k hk => sa_ne hk, fun k hk => rfl⟩
      have hM : RM9 (rSa σ 1 (nI (443 + 61 * p)) (-1)) (setT S (tset S.2.2.1 p none)) := by
        have off : ∀ i, i ≠ 443 + 61 * p → (rSa σ 1 (nI (443 + 61 * p)) (-1)).2 1 i = σ.2 1 i := fun i hi => by rw [up_nI (by omega), if_neg hi]
        refine ⟨⟨FL9_ext h.1.1 (fun i hi => off i (by omega)), MC_ext h.1.2.1 (fun i hi => off i (by omega)), fun q hq => ?_, PR9_ext h.1.2.2.2 (off 42 (by omega)) (fun i hi _ => off i (by omega))⟩, PT_frx h.2 hX (fun k h1 h2 q => by omega) ⟨fun q => q, fun q => q⟩⟩
        show (rSa σ 1 (nI (443 + 61 * p)) (-1)).2 1 (443 + 61 * q) = tdN (tset S.2.2.1 p none q) ∧ ∀ u, tset S.2.2.1 p none q = some u → u.length ≤ 60 ∧ ∀ k, k < u.length → (rSa σ 1 (nI (443 + 61 * p)) (-1)).2 1 (444 + 61 * q + k) = u.getD k 0
        by_cases e : q = p
        · subst e
          rw [tset_eq, up_nI (by omega), if_pos rfl]
          exact ⟨rfl, fun u hu => by cases hu⟩
        · rw [tset_ne e]
          obtain ⟨g1, g2⟩ := hT q hq
          exact ⟨(off _ (by omega)).trans g1, fun u hu => ⟨(g2 u hu).1, fun k hk => (off _ (by have := (g2 u hu).1; omega)).trans ((g2 u hu).2 k hk)⟩⟩
      unfold mX9_free0_b50
      refine pq_tail (r_fin (S := S) hM (VE_tset hS.1 (fun t e => by cases e))) (fun y hy => ?_)
      obtain ⟨σ2, k1, k2, k3⟩ := hy
      exact ⟨σ2, k1, k2, frx_tr (frx_mono hX (fun k hk => Or.inl hk) (fun k hk => absurd hk id)) (frx_mono k3 (fun k hk => by omega) (fun k hk => by omega))⟩
  · have ed : decide (0 ≤ v.toInt ∧ v.toInt < ((pcF S).length : Int)) = false := decide_eq_false hin
    rw [ed]
    have ef : frA S v = (1, S) := if_neg hin
    rw [ef]
    exact pq_t rfl (pq_ret (bad_a (by decide) frx_rfl))
theorem r_areLike {i k : Nat} {P : List Pc} {kf : Bool} (hP : PT σ kf P) (hi : i < P.length) (hk : k < P.length) : PQ (mX9_areLike (nI i) (nI k) σ) (fun y => y = (bI (decide (pX (P.getD i pc0) = pX (P.getD k pc0))), σ)) := by
  have h40 := hP.1.2
  have hle1 := tx_le hi
  have hle2 := tx_le hk
  have h6 := hP.2.1.2.1
  have t43 := hP.2.1.2.2.2.1
  obtain ⟨-, -, -, -, -, -, i41, i42⟩ := hP.2.2 i hi
  obtain ⟨-, -, -, -, -, -, k41, k42⟩ := hP.2.2 k hk
  have a42 : rGa σ 42 (nI i) = nI (pX (P.getD i pc0)).length := by rw [rd_nI (by omega)]; exact i42
  have b42 : rGa σ 42 (nI k) = nI (pX (P.getD k pc0)).length := by rw [rd_nI (by omega)]; exact k42
  have a41 : rGa σ 41 (nI i) = nI (tAt P i) := by rw [rd_nI (by omega)]; exact i41
  have b41 : rGa σ 41 (nI k) = nI (tAt P k) := by rw [rd_nI (by omega)]; exact k41
  have fin : ∀ b : Bool, PQ (mX9_areLike_b82 (bI b) σ) (fun y => y = (bI b, σ)) := fun b => by
    unfold mX9_areLike_b82
    exact pq_ck (pq_ret rfl)
  unfold mX9_areLike
  rw [a42, b42]
  refine pq_ck (pq_ck (pq_eqi (nI_toInt (by omega)) (nI_toInt (by omega)) (fun q => ?_) (fun q => ?_)))
  · have hl : (pX (P.getD i pc0)).length = (pX (P.getD k pc0)).length := by omega
    have key : ∀ (d j : Nat) (b : Bool), j ≤ (pX (P.getD i pc0)).length → (b = true ↔ ∀ z, z < j → (pX (P.getD i pc0)).getD z 0 = (pX (P.getD k pc0)).getD z 0) → PQ (mX9_areLike_l24 d (nI i) (nI k) (bI b) (nI j) σ) (fun y => y = (bI (decide (pX (P.getD i pc0) = pX (P.getD k pc0))), σ)) := by
      intro d
      induction d with
      | zero => intro j b _ _; exact pq_none
      | succ d ih =>
        intro j b hj hb
        unfold mX9_areLike_l24
        rw [a42, a41, b41]
        refine pq_ck (pq_le (nI_toInt (by omega)) (nI_toInt (by omega)) (fun q1 => ?_) (fun q1 => if_01 (fun q2 => ?_) (fun q2 => ?_)))
        · have e : b = decide (pX (P.getD i pc0) = pX (P.getD k pc0)) := by
            cases hbb : b with
            | true => exact (decide_eq_true (bl_ext hl (fun z hz => hb.mp hbb z (by omega)))).symm
            | false => exact (decide_eq_false (fun h => by rw [hb.mpr (fun z _ => by rw [h])] at hbb; cases hbb)).symm
          rw [← e]; exact fin b
        · have e : decide (pX (P.getD i pc0) = pX (P.getD k pc0)) = b := by
            rw [q2]
            exact decide_eq_false (fun h => by rw [hb.mpr (fun z _ => by rw [h])] at q2; cases q2)
          rw [e]; exact fin b
        · rw [nI_add, nI_add, rd_nI (by omega), rd_nI (by omega), t43 _ (by omega), t43 _ (by omega), tx_gd hi (by omega), tx_gd hk (by omega)]
          have nxt : ∀ b2 : Bool, b2 = decide ((pX (P.getD i pc0)).getD j 0 = (pX (P.getD k pc0)).getD j 0) → PQ (mX9_areLike_b75 (fun v1 v2 v3 v4 σ => mX9_areLike_l24 d v1 v2 v3 v4 σ) (nI i) (nI k) (nI j) (bI b2) σ) (fun y => y = (bI (decide (pX (P.getD i pc0) = pX (P.getD k pc0))), σ)) := fun b2 hb2 => by
            unfold mX9_areLike_b75
            rw [nI_1]
            refine ih (j + 1) b2 (by omega) ?_
            rw [hb2, decide_eq_true_iff]
            refine ⟨fun h z hz => ?_, fun h => h j (by omega)⟩
            by_cases e : z = j
            · rw [e]; exact h
            · exact hb.mp q2 z (by omega)
          exact pq_ck (pq_ck (pq_ck (pq_ck (pq_eq (fun q3 => nxt true (decide_eq_true q3).symm) (fun q3 => nxt false (decide_eq_false q3).symm)))))
    unfold mX9_areLike_b20
    exact key rFU 0 true (Nat.zero_le _) ⟨fun _ z hz => absurd hz (Nat.not_lt_zero _), fun _ => rfl⟩
  · have e : decide (pX (P.getD i pc0) = pX (P.getD k pc0)) = false := decide_eq_false (fun h => q (by rw [h]))
    rw [e]
    unfold mX9_areLike_b20
    have k0 : ∀ d, PQ (mX9_areLike_l24 d (nI i) (nI k) 0 0 σ) (fun y => y = (bI false, σ)) := fun d => by
      cases d with
      | zero => exact pq_none
      | succ d =>
        unfold mX9_areLike_l24
        exact pq_ck (pq_le rfl rfl (fun _ => fin false) (fun _ => pq_t rfl (fin false)))
    exact k0 rFU
end RAC
end
/-! part 63c.acts -/
section
/-! the reference: spread, wipe -/
section RSP
variable {σ : RS9} {S : SST}
theorem spT_s {p o : Nat} {t : BL} : spT S p t (o + 1) = if lkB S p o = true then tset (spT S p t o) o (some t) else spT S p t o := by
  funext j
  show (if j < o + 1 ∧ lkB S p j = true then some t else S.2.2.1 j) = _
  by_cases hl : lkB S p o = true
  · rw [if_pos hl]
    by_cases e : j = o
    · subst e
      rw [tset_eq, if_pos ⟨by omega, hl⟩]
    · rw [tset_ne e]
      show _ = (if j < o ∧ lkB S p j = true then some t else S.2.2.1 j)
      by_cases h : j < o ∧ lkB S p j = true
      · rw [if_pos h, if_pos ⟨by omega, h.2⟩]
      · rw [if_neg h, if_neg (fun q => h ⟨by omega, q.2⟩)]
  · rw [if_neg hl]
    show _ = (if j < o ∧ lkB S p j = true then some t else S.2.2.1 j)
    by_cases h : j < o ∧ lkB S p j = true
    · rw [if_pos h, if_pos ⟨by omega, h.2⟩]
    · rw [if_neg h, if_neg (fun q => by
        by_cases e : j = o
        · rw [e] at q; exact hl q.2
        · exact h ⟨by omega, q.2⟩)]
theorem tset_same {told : Nat → Option BL} {p : Nat} {o : Option BL} (h : told p = o) : tset told p o = told := by
  funext j
  by_cases e : j = p
  · rw [e, tset_eq, h]
  · exact tset_ne e
theorem VE_sp {p o : Nat} {t : BL} (hS : SV S) (h : ∀ j, j < o → lkB S p j = true → (escFor S.2.1 (pOf S j) t).isSome = true) : VE S.2.1 (spT S p t o) (pcF S) := fun j u hj he => by
  have he : (if j < o ∧ lkB S p j = true then some t else S.2.2.1 j) = some u := he
  split at he
  · rename_i hc
    cases he
    exact h j hc.1 hc.2
  · exact hS.1 j u hj he
/-- what spread answers -/
def DSP (σ : RS9) (p : Int32) (r : Int32 × SST) (S : SST) (y : Int32 × RS9) : Prop := ∃ σ', y = (r.1, σ') ∧ (r.1 = 0 → RM9 σ' r.2 ∧ σ'.1 57 = nI (lkN S p.toInt.toNat (pcF S).length) - 1) ∧ FRX RA9 FA9 σ σ'
theorem i_e1 {x y : Int32} (h : x + 1 = y) : x = y - 1 := by rw [← h]; exact (Int32.add_sub_cancel x 1).symm
theorem r_spread0 {v : Int32} (h : RM9 σ S) (hS : SV S) : PQ (mX9_spread0 v σ) (DSP σ v (spA S v) S) := by
  obtain ⟨h33, h40⟩ := RM_33 h
  have hX0 : FRX NO9 (fun k => k = 57) σ (rSf σ 57 0) := ⟨fun k hk => rfl, fun k hk => sf_ne hk⟩
  have hX0' : FRX RA9 FA9 σ (rSf σ 57 0) := frx_mono hX0 (fun k hk => absurd hk id) (fun k hk => by omega)
  have bad : ∀ {c : Int32} {T : SST} {σ' : RS9}, c ≠ 0 → FRX RA9 FA9 σ σ' → DSP σ v (c, T) S (c, σ') := fun hc hF => ⟨_, rfl, fun q => absurd q hc, hF⟩
  unfold mX9_spread0
  refine pq_isr (r_isPieceThere (n := (pcF S).length) ((sf_ne (by decide)).trans h33) h40) ?_
  by_cases hin : inP S v
  · have ed : decide (0 ≤ v.toInt ∧ v.toInt < ((pcF S).length : Int)) = true := decide_eq_true hin
    rw [ed]
    refine pq_f (show ¬ (1 : Int32) = 0 by decide) ?_
    obtain ⟨e1, e2⟩ := v_nI hin (by omega)
    have ef : spA S v = (match S.2.2.1 v.toInt.toNat with
      | none => (4, S)
      | some t => if spN S v.toInt.toNat t = true then (2, S) else finA S (setT S (spT S v.toInt.toNat t (pcF S).length))) := if_pos hin
    rw [ef]
    unfold DSP
    clear ef
    generalize v.toInt.toNat = p at e1 e2 ⊢
    subst e1
    have hT := h.1.2.2.1
    have h0 : RM9 (rSf σ 57 0) S := RM_frx h hX0 (fun q => q) (fun k _ _ q => q) ⟨fun q => by omega, fun q => by omega⟩
    refine pq_isr (r_toldOf h0.1.2.2.1 (by omega)) ?_
    cases ht : S.2.2.1 p with
    | none =>
      exact pq_t rfl (pq_ret ⟨_, rfl, fun q => absurd q (show ¬ (4 : Int32) = 0 by decide), hX0'⟩)
    | some t =>
      have h60 := ((hT p (by omega)).2 t ht).1
      refine pq_f (nI_ne (by omega)) (pq_isr (r_toldOf h0.1.2.2.1 (by omega)) ?_)
      rw [ht]
      refine pq_call (r_holdsTold h0.1.2.2.1 (by omega) ht) (fun y hy => ?_)
      obtain ⟨σ1, rfl, h53, hF1⟩ := hy
      have key : ∀ (d o : Nat) (σ2 : RS9), o ≤ (pcF S).length → (∀ j, j < o → lkB S p j = true → (escFor S.2.1 (pOf S j) t).isSome = true) → RM9 σ2 (setT S (spT S p t o)) → RLs σ2 53 t → σ2.1 57 + (if p < o then 1 else 0) = nI (lkN S p o) → FRX RA9 FA9 σ σ2 → PQ (mX9_spread0_l39 d (nI p) (nI t.length) (nI o) σ2) (fun y => ∃ σ', y = ((if spN S p t = true then (2, S) else finA S (setT S (spT S p t (pcF S).length))).1, σ') ∧ ((if spN S p t = true then (2, S) else finA S (setT S (spT S p t (pcF S).length))).1 = 0 → RM9 σ' (if spN S p t = true then (2, S) else finA S (setT S (spT S p t (pcF S).length))).2 ∧ σ'.1 57 = nI (lkN S p (pcF S).length) - 1) ∧ FRX RA9 FA9 σ σ') := by
        intro d
        induction d with
        | zero => intro o σ2 _ _ _ _ _ _; exact pq_none
        | succ d ih =>
          intro o σ2 ho hes hM h53 h57 hF
          unfold mX9_spread0_l39
          rw [(RM_33 hM).1]
          show PQ (if nI (pcF S).length ≤ nI o then _ else _) _
          refine pq_le (nI_toInt (by omega)) (nI_toInt (by omega)) (fun q => ?_) (fun q => ?_)
          · have e : o = (pcF S).length := by omega
            subst e
            have hno : spN S p t ≠ true := fun hs => by
              obtain ⟨j, hj1, hj2⟩ := List.any_eq_true.mp hs
              rw [Bool.and_eq_true] at hj2
              have := hes j (List.mem_range.mp hj1) hj2.1
              cases hx : escFor S.2.1 (pOf S j) t with
              | none => rw [hx] at this; cases this
              | some z => rw [hx] at hj2; cases hj2.2
            rw [if_neg hno]
            unfold mX9_spread0_b113
            refine pq_tail (r_fin (S := S) hM (VE_sp hS hes)) (fun y hy => ?_)
            obtain ⟨σ3, k1, k2, k3⟩ := hy
            have hlt : p < (pcF S).length := e2
            rw [if_pos hlt] at h57
            exact ⟨σ3, k1, fun q => ⟨k2 q, by rw [k3.2 57 (fun q => by omega)]; exact i_e1 h57⟩, frx_tr hF (frx_mono k3 (fun k hk => by omega) (fun k hk => by omega))⟩
          have hop : o < (pcF S).length := by omega
          refine pq_isr (r_areLike (P := pcF S) hM.2 e2 hop) ?_
          have eL : decide (pX ((pcF S).getD p pc0) = pX ((pcF S).getD o pc0)) = lkB S p o := rfl
          have eS : ∀ x : Int32, nI (lkN S p (o + 1)) = nI (lkN S p o) + (if lkB S p o = true then 1 else 0) := fun _ => by
            show nI (lkN S p o + (if lkB S p o = true then 1 else 0)) = _
            split
            · exact (nI_1 _).symm
            · exact (Int32.add_zero _).symm
          rw [eL]
          refine if_01 (fun hl => ?_) (fun hl => ?_)
          · unfold mX9_spread0_b92
            rw [nI_1]
            have e5 : spT S p t (o + 1) = spT S p t o := by
              rw [spT_s, if_neg (by rw [hl]; decide)]
            have hne : o ≠ p := fun q => by
              rw [q] at hl
              have : lkB S p p = true := decide_eq_true rfl
              rw [this] at hl; cases hl
            refine ih (o + 1) σ2 (by omega) (fun j hj hj2 => ?_) (by rw [e5]; exact hM) h53 ?_ hF
            · by_cases e : j = o
              · rw [e, hl] at hj2; cases hj2
              · exact hes j (by omega) hj2
            · rw [eS 0, hl, ← h57]
              have : (if p < o + 1 then (1 : Int32) else 0) = if p < o then 1 else 0 := by
                by_cases h1 : p < o
                · rw [if_pos h1, if_pos (by omega)]
                · rw [if_neg h1, if_neg (by omega)]
              rw [this]; exact (Int32.add_zero _).symm
          · refine pq_eqi (nI_toInt (by omega)) (nI_toInt (by omega)) (fun q2 => ?_) (fun q2 => ?_)
            · have e : o = p := by omega
              unfold mX9_spread0_b92
              rw [nI_1]
              have et : spT S p t o o = some t := by
                show (if o < o ∧ lkB S p o = true then some t else S.2.2.1 o) = some t
                rw [if_neg (fun q => absurd q.1 (Nat.lt_irrefl _)), e, ht]
              have e5 : spT S p t (o + 1) = spT S p t o := by
                rw [spT_s, if_pos hl]
                exact tset_same et
              refine ih (o + 1) σ2 (by omega) (fun j hj hj2 => ?_) (by rw [e5]; exact hM) h53 ?_ hF
              · by_cases e9 : j = o
                · rw [e9, e]
                  exact hS.1 p t e2 ht
                · exact hes j (by omega) hj2
              · rw [eS 0, hl, ← h57, if_pos (by omega), if_neg (by omega), if_pos rfl, Int32.add_zero]
            · have hne : o ≠ p := fun q => q2 (by rw [q])
              refine pq_call (r_escFor (p := o) hM.1.2.1 hM.2 hop h53 h60) (fun y hy => ?_)
              obtain ⟨σ3, rfl, g1, g2⟩ := hy
              have g2' : FRX RA9 FA9 σ2 σ3 := frx_mono g2 (fun k hk => by omega) (fun k hk => by omega)
              cases he : escFor S.2.1 (pOf S o) t with
              | none =>
                have hs : spN S p t = true := List.any_eq_true.mpr ⟨o, List.mem_range.mpr hop, by rw [hl, he]; rfl⟩
                rw [if_pos hs]
                have he' : escFor (setT S (spT S p t o)).2.1 ((pcF (setT S (spT S p t o))).getD o pc0) t = none := he
                show PQ (if tdN (escFor (setT S (spT S p t o)).2.1 ((pcF (setT S (spT S p t o))).getD o pc0) t) = -1 then _ else _) _
                rw [he']
                exact pq_t rfl (pq_ret ⟨σ3, rfl, fun q => absurd q (show ¬ (2 : Int32) = 0 by decide), frx_tr hF g2'⟩)
              | some e =>
                have he' : escFor (setT S (spT S p t o)).2.1 ((pcF (setT S (spT S p t o))).getD o pc0) t = some e := he
                have hel := (g1 e he').2
                show PQ (if tdN (escFor (setT S (spT S p t o)).2.1 ((pcF (setT S (spT S p t o))).getD o pc0) t) = -1 then _ else _) _
                rw [he']
                refine pq_f (nI_ne (by omega)) ?_
                have hM3 : RM9 σ3 (setT S (spT S p t o)) := RM_frx hM g2 (fun q => by omega) (fun k h1 h2 q => by omega) ⟨fun q => by omega, fun q => by omega⟩
                refine pq_call (r_tells (p := o) (by omega) (RL_frx h53 g2 (fun q => by omega)) h60) (fun y hy => ?_)
                obtain ⟨σ4, rfl, hTL⟩ := hy
                have hM4 := TL_RM hM3 (by omega) h60 hTL
                unfold mX9_spread0_b92
                rw [nI_1]
                have e5 : spT S p t (o + 1) = tset (spT S p t o) o (some t) := by rw [spT_s, if_pos hl]
                have fr5 : FRX NO9 (fun k => k = 57) σ4 (rSf σ4 57 (σ4.1 57 + 1)) := ⟨fun k hk => rfl, fun k hk => sf_ne hk⟩
                refine ih (o + 1) _ (by omega) (fun j hj hj2 => ?_) (by rw [e5]; exact RM_frx hM4 fr5 (fun q => q) (fun k _ _ q => q) ⟨fun q => by omega, fun q => by omega⟩) ?_ ?_ (frx_tr hF (frx_tr g2' (frx_tr (TL_fr hTL) (frx_mono fr5 (fun k hk => absurd hk id) (fun k hk => by omega)))))
                · by_cases e9 : j = o
                  · rw [e9, he]; rfl
                  · exact hes j (by omega) hj2
                · exact RL_frx (RL_frx (RL_frx h53 g2 (fun q => by omega)) hTL.2.2.2 (fun q => by omega)) fr5 (fun q => q)
                · rw [sf_eq, eS 0, hl, ← h57, if_pos rfl, hTL.2.2.2.2 57 (fun q => q), g2.2 57 (fun q => by omega)]
                  have : (if p < o + 1 then (1 : Int32) else 0) = if p < o then 1 else 0 := by
                    by_cases h1 : p < o
                    · rw [if_pos h1, if_pos (by omega)]
                    · rw [if_neg h1, if_neg (by omega)]
                  rw [this, Int32.add_assoc, Int32.add_comm 1, ← Int32.add_assoc]
      have hM1 : RM9 σ1 (setT S (spT S p t 0)) := by
        rw [spT_0]
        exact RM_frx h0 hF1 (fun q => by omega) (fun k h1 h2 q => by omega) ⟨fun q => q, fun q => q⟩
      exact key rFU 0 σ1 (Nat.zero_le _) (fun j hj => absurd hj (Nat.not_lt_zero _)) hM1 h53 (by
        rw [if_neg (Nat.not_lt_zero _), Int32.add_zero, hF1.2 57 (fun q => q)]; exact sf_eq) (frx_tr hX0' (frx_mono hF1 (fun k hk => by omega) (fun k hk => absurd hk id)))
  · have ed : decide (0 ≤ v.toInt ∧ v.toInt < ((pcF S).length : Int)) = false := decide_eq_false hin
    rw [ed]
    have ef : spA S v = (1, S) := if_neg hin
    rw [ef]
    exact pq_t rfl (pq_ret (bad (by decide) hX0'))
theorem r_toldMany (h : RM9 σ S) : PQ (mX9_toldMany σ) (fun y => y = (nI (tcnt S.2.2.1 (pcF S).length), σ)) := by
  obtain ⟨h33, h40⟩ := RM_33 h
  have key : ∀ (d i : Nat), i ≤ (pcF S).length → PQ (mX9_toldMany_l4 d (nI (tcnt S.2.2.1 i)) (nI i) σ) (fun y => y = (nI (tcnt S.2.2.1 (pcF S).length), σ)) := by
    intro d
    induction d with
    | zero => intro i _; exact pq_none
    | succ d ih =>
      intro i hi
      unfold mX9_toldMany_l4
      rw [h33]
      refine pq_le (nI_toInt (by omega)) (nI_toInt (by omega)) (fun q => ?_) (fun q => ?_)
      · have e : i = (pcF S).length := by omega
        rw [e]
        exact pq_ret rfl
      · refine pq_isr (r_toldOf h.1.2.2.1 (by omega)) ?_
        have e : tcnt S.2.2.1 (i + 1) = tcnt S.2.2.1 i + (match S.2.2.1 i with
          | none => 0
          | some _ => 1) := rfl
        cases ht : S.2.2.1 i with
        | none =>
          rw [ht] at e
          unfold mX9_toldMany_b27
          rw [Int32.add_zero, nI_1]
          refine pq_t rfl ?_
          have := ih (i + 1) (by omega)
          rw [e] at this
          exact this
        | some t =>
          rw [ht] at e
          unfold mX9_toldMany_b27
          rw [nI_1, nI_1]
          refine pq_f (nI_ne (by have := ((h.1.2.2.1 i (by omega)).2 t ht).1; omega)) ?_
          have := ih (i + 1) (by omega)
          rw [e] at this
          exact this
  exact key rFU 0 (Nat.zero_le _)
theorem tcnt_40 (h : RM9 σ S) (hS : SV S) : tcnt S.2.2.1 40 = tcnt S.2.2.1 (pcF S).length := by
  have h40 := (RM_33 h).2
  obtain ⟨d, hd⟩ : ∃ d, 40 = (pcF S).length + d := ⟨40 - (pcF S).length, by omega⟩
  rw [hd]
  clear hd
  induction d with
  | zero => rfl
  | succ d ih =>
    rw [← ih]
    show tcnt S.2.2.1 ((pcF S).length + d) + (match S.2.2.1 ((pcF S).length + d) with
      | none => 0
      | some _ => 1) = _
    rw [hS.2.2.2 _ (by omega)]
    rfl
theorem r_wipe0 (h : RM9 σ S) (hS : SV S) : PQ (mX9_wipe0 σ) (DOA σ (wpA S)) := by
  have h40 := (RM_33 h).2
  have hle := tcnt_le (told := S.2.2.1) (pcF S).length
  have ew : wpA S = if tcnt S.2.2.1 (pcF S).length = 0 then (4, S) else (0, setT S (fun _ => none)) := by
    unfold wpA
    rw [tcnt_40 h hS]
  unfold mX9_wipe0
  rw [ew]
  refine pq_isr (r_toldMany h) (pq_eqi (nI_toInt (by omega)) kt_0 (fun q => ?_) (fun q => ?_))
  · rw [if_pos (show tcnt S.2.2.1 (pcF S).length = 0 by have := q; omega)]
    exact pq_ret (bad_a (by decide) frx_rfl)
  · rw [if_neg (show ¬ tcnt S.2.2.1 (pcF S).length = 0 from fun z => q (by rw [z]; rfl))]
    have key : ∀ (d i : Nat) (σ2 : RS9), i ≤ 40 → NT9 σ σ2 i → PQ (mX9_wipe0_l11 d (nI i) σ2) (DOA σ (0, setT S (fun _ => none))) := by
      intro d
      induction d with
      | zero => intro i σ2 _ _; exact pq_none
      | succ d ih =>
        intro i σ2 hi hN
        unfold mX9_wipe0_l11
        refine pq_le kt_40 (nI_toInt (by omega)) (fun q => ?_) (fun q => ?_)
        · have e : i = 40 := by omega
          subst e
          refine pq_ret ⟨σ2, rfl, fun _ => ⟨NT9_MR (S := setT S (fun _ => none)) hN h.1.1 h.1.2.1 h.1.2.2.2 (fun _ => rfl), PT_frx h.2 hN.2.2 (fun k h1 h2 q => by omega) ⟨fun q => q, fun q => q⟩⟩, frx_mono hN.2.2 (fun k hk => Or.inl hk) (fun k hk => absurd hk id)⟩
        · rw [nI_61, nI_1]
          exact pq_ck (ih (i + 1) _ (by omega) (NT9_s hN (by omega)))
    exact key rFU 0 σ (Nat.zero_le _) ⟨fun q hq => absurd hq (Nat.not_lt_zero _), fun i hi => rfl, frx_rfl⟩
end RSP
end
/-! part 63d.acts -/
section
/-! the reference: tell, its memory -/
section RTL
variable {σ : RS9} {S : SST}
/-- pairs moved up by one, down to a place -/
def PU9 (μ μ' : Nat → Int32) (lo : Nat) : Prop := (∀ i, lo ≤ i → i < 4347 → μ' i = μ (i - 122)) ∧ ∀ i, i < lo → μ' i = μ i
theorem take_gd {m : List (BL × BL)} {a : BL × BL} {k : Nat} (hk : k < ((a :: m).take 12).length) : ((a :: m).take 12).getD k ([], []) = (a :: m).getD k ([], []) := by
  rw [List.length_take] at hk
  rw [List.getD_eq_getElem?_getD, List.getD_eq_getElem?_getD, List.getElem?_take, if_pos (by omega)]
theorem PR9_up {μ μ' : Nat → Int32} {mem : List (BL × BL)} {x w : BL} (h : PR9 μ mem) (h1 : ∀ i, 3005 ≤ i → i < 4347 → μ' i = μ (i - 122)) (hx : PW9 μ' 2883 x) (hw : PW9 μ' 2944 w) (h42 : μ' 42 = if mem.length < 12 then nI (mem.length + 1) else nI mem.length) : PR9 μ' (((x, w) :: mem).take 12) := by
  obtain ⟨m1, m2, m3⟩ := h
  have hl : (((x, w) :: mem).take 12).length = if mem.length < 12 then mem.length + 1 else mem.length := by
    rw [List.length_take, List.length_cons]
    split <;> omega
  refine ⟨?_, by rw [List.length_take]; omega, fun k hk => ?_⟩
  · rw [h42, hl]
    split <;> rfl
  · rw [take_gd hk]
    cases k with
    | zero => exact ⟨hx, hw⟩
    | succ k =>
      have hk2 : k < mem.length ∧ k < 11 := by
        rw [hl] at hk
        split at hk <;> omega
      obtain ⟨g1, g2⟩ := m3 k hk2.1
      show PW9 μ' (2883 + 122 * (k + 1)) (mem.getD k ([], [])).1 ∧ PW9 μ' (2944 + 122 * (k + 1)) (mem.getD k ([], [])).2
      refine ⟨⟨g1.1, ?_, fun j hj => ?_⟩, ⟨g2.1, ?_, fun j hj => ?_⟩⟩
      · rw [h1 _ (by omega) (by omega), show 2883 + 122 * (k + 1) - 122 = 2883 + 122 * k by omega]; exact g1.2.1
      · have := g1.1
        rw [h1 _ (by omega) (by omega), show 2883 + 122 * (k + 1) + 1 + j - 122 = 2883 + 122 * k + 1 + j by omega]; exact g1.2.2 j hj
      · rw [h1 _ (by omega) (by omega), show 2944 + 122 * (k + 1) - 122 = 2944 + 122 * k by omega]; exact g2.2.1
      · have := g2.1
        rw [h1 _ (by omega) (by omega), show 2944 + 122 * (k + 1) + 1 + j - 122 = 2944 + 122 * k + 1 + j by omega]; exact g2.2.2 j hj
theorem nI_t {a : Nat} {x : Int32} {b : Nat} (hx : x = nI b) : x + nI a = nI (b + a) := by rw [hx]; exact nI_add b a
theorem r_remPair {p : Nat} {w : BL} (h : RM9 σ S) (hp : p < (pcF S).length) (h53 : RLs σ 53 w) (hw : w.length ≤ 60) : PQ (mX9_remembersPair (nI p) (nI w.length) σ) (fun y => ∃ σ', y = (0, σ') ∧ RM9 σ' (memA S (pOf S p) w) ∧ FRX (fun k => k = 1) NF9 σ σ') := by
  have h40 := (RM_33 h).2
  have hle := tx_le hp
  have h6 := h.2.2.1.2.1
  have t43 := h.2.2.1.2.2.2.1
  obtain ⟨-, -, -, -, -, -, i41, i42⟩ := h.2.2.2 p hp
  have e42 : rGa σ 42 (nI p) = nI (pX (pOf S p)).length := by rw [rd_nI (by omega)]; exact i42
  unfold mX9_remembersPair
  rw [e42]
  have hxl : (pX (pOf S p)).length ≤ 600 := by
    have : tAt (pcF S) p + (pX (pOf S p)).length ≤ (txs (pcF S)).length := hle
    omega
  refine pq_ck (pq_le (nI_toInt (by omega)) kt_60 (fun q => ?_) (fun q => ?_))
  · have hx6 : (pX (pOf S p)).length ≤ 60 := by omega
    have em : memA S (pOf S p) w = (S.1, S.2.1, S.2.2.1, ((pX (pOf S p), w) :: S.2.2.2).take 12) := if_pos hx6
    rw [em]
    have hgd : ∀ k, k < (pX (pOf S p)).length → (txs (pcF S)).getD (tAt (pcF S) p + k) 0 = (pX (pOf S p)).getD k 0 := fun k hk => tx_gd hp hk
    have hle' : tAt (pcF S) p + (pX (pOf S p)).length ≤ (txs (pcF S)).length := hle
    have i41' : σ.2 41 p = nI (tAt (pcF S) p) := i41
    generalize hxx : pX (pOf S p) = x at hx6 hgd hle' e42
    have hPR := h.1.2.2.2
    have hm12 := hPR.2.1
    have fr : ∀ {σ1 : RS9}, FRX (fun k => k = 1) NF9 σ σ1 → ∀ r, r ≠ 1 → σ1.2 r = σ.2 r := fun hX r hr => hX.1 r hr
    -- the told of the new pair
    have k110 : ∀ (d i : Nat) (σ1 : RS9), i ≤ w.length → FRX (fun k => k = 1) NF9 σ σ1 → (∀ z, 3005 ≤ z → z < 4347 → σ1.2 1 z = σ.2 1 (z - 122)) → (∀ z, z < 2883 → σ1.2 1 z = σ.2 1 z) → PW9 (σ1.2 1) 2883 x → σ1.2 1 2944 = nI w.length → (∀ k, k < i → σ1.2 1 (2945 + k) = w.getD k 0) → PQ (mX9_remembersPair_l110 d (nI w.length) (nI i) σ1) (fun y => ∃ σ', y = (0, σ') ∧ RM9 σ' (S.1, S.2.1, S.2.2.1, ((x, w) :: S.2.2.2).take 12) ∧ FRX (fun k => k = 1) NF9 σ σ') := by
      intro d
      induction d with
      | zero => intro i σ1 _ _ _ _ _ _ _; exact pq_none
      | succ d ih =>
        intro i σ1 hi hX g1 g2 g3 g4 g5
        unfold mX9_remembersPair_l110
        refine pq_le (nI_toInt (by omega)) (nI_toInt (by omega)) (fun q1 => ?_) (fun q1 => ?_)
        · have e : i = w.length := by omega
          subst e
          have a42 : rGa σ1 1 (42 : Int32) = nI S.2.2.2.length := (g2 42 (by omega)).trans hPR.1
          have fin : ∀ σ2 : RS9, FRX (fun k => k = 1) NF9 σ1 σ2 → (∀ z, z ≠ 42 → σ2.2 1 z = σ1.2 1 z) → σ2.2 1 42 = (if S.2.2.2.length < 12 then nI (S.2.2.2.length + 1) else nI S.2.2.2.length) → PQ (mX9_remembersPair_b160 σ2) (fun y => ∃ σ', y = (0, σ') ∧ RM9 σ' (S.1, S.2.1, S.2.2.1, ((x, w) :: S.2.2.2).take 12) ∧ FRX (fun k => k = 1) NF9 σ σ') := fun σ2 hX2 hz h42 => by
            have lo : ∀ z, z < 2883 → z ≠ 42 → σ2.2 1 z = σ.2 1 z := fun z h1 h2 => (hz z h2).trans (g2 z h1)
            refine pq_ret ⟨σ2, rfl, ⟨⟨?_, MC_ext h.1.2.1 (fun i hi => lo i (by omega) (by omega)), TD9_ext h.1.2.2.1 (fun i h1 h2 => lo i h2 (by omega)), PR9_up hPR (fun z z1 z2 => (hz z (by omega)).trans (g1 z z1 z2)) (PW9_ext g3 (fun z z1 z2 => hz z (by omega))) ⟨hw, (hz 2944 (by omega)).trans g4, fun j hj => ?_⟩ h42⟩, PT_frx h.2 (frx_tr hX hX2) (fun k h1 h2 q => by omega) ⟨fun q => q, fun q => q⟩⟩, frx_tr hX hX2⟩
            · obtain ⟨f1, f2⟩ := h.1.1
              exact ⟨⟨(lo 0 (by omega) (by omega)).trans f1.1, f1.2⟩, fun i hi => (lo _ (by have h9 : i < S.1.length := hi; have := f1.2; omega) (by omega)).trans (f2 i hi)⟩
            · rw [hz _ (by omega)]; exact g5 j hj
          rw [a42]
          refine pq_ck (pq_le kt_12 (nI_toInt (by omega)) (fun q2 => ?_) (fun q2 => ?_))
          · exact fin σ1 frx_rfl (fun _ _ => rfl) (by rw [if_neg (by omega)]; exact a42)
          · rw [nI_1]
            refine pq_ck (pq_ck (fin _ ⟨fun k hk => sa_ne hk, fun k hk => rfl⟩ (fun z hz => ?_) ?_))
            · rw [show (42 : Int32) = nI 42 from rfl, up_nI (by omega), if_neg hz]
            · rw [show (42 : Int32) = nI 42 from rfl, up_nI (by omega), if_pos rfl, if_pos (by omega)]
        · rw [show (2945 : Int32) + nI i = nI (2945 + i) from nI_add 2945 i, rd_nI (by omega), fr hX 53 (by omega), h53 i (by omega), nI_1]
          refine pq_ck (pq_ck (ih (i + 1) _ (by omega) (frx_tr hX ⟨fun k hk => sa_ne hk, fun k hk => rfl⟩) (fun z z1 z2 => ?_) (fun z z1 => ?_) (PW9_ext g3 (fun z z1 z2 => ?_)) ?_ (fun k hk => ?_)))
          · rw [up_nI (by omega), if_neg (by omega)]; exact g1 z z1 z2
          · rw [up_nI (by omega), if_neg (by omega)]; exact g2 z z1
          · rw [up_nI (by omega), if_neg (by omega)]
          · rw [up_nI (by omega), if_neg (by omega)]; exact g4
          · rw [up_nI (by omega)]
            by_cases e : k = i
            · rw [if_pos (by rw [e]), e]
            · rw [if_neg (by omega)]; exact g5 k (by omega)
    -- the text of the new pair
    have k60 : ∀ (d i : Nat) (σ1 : RS9), i ≤ x.length → FRX (fun k => k = 1) NF9 σ σ1 → (∀ z, 3005 ≤ z → z < 4347 → σ1.2 1 z = σ.2 1 (z - 122)) → (∀ z, z < 2883 → σ1.2 1 z = σ.2 1 z) → σ1.2 1 2883 = nI x.length → (∀ k, k < i → σ1.2 1 (2884 + k) = x.getD k 0) → PQ (mX9_remembersPair_l60 d (nI p) (nI w.length) (nI i) σ1) (fun y => ∃ σ', y = (0, σ') ∧ RM9 σ' (S.1, S.2.1, S.2.2.1, ((x, w) :: S.2.2.2).take 12) ∧ FRX (fun k => k = 1) NF9 σ σ') := by
      intro d
      induction d with
      | zero => intro i σ1 _ _ _ _ _ _; exact pq_none
      | succ d ih =>
        intro i σ1 hi hX g1 g2 g3 g4
        unfold mX9_remembersPair_l60
        have a42 : rGa σ1 42 (nI p) = nI x.length := by unfold rGa; rw [fr hX 42 (by omega)]; exact e42
        have a41 : rGa σ1 41 (nI p) = nI (tAt (pcF S) p) := by rw [rd_nI (by omega), fr hX 41 (by omega)]; exact i41'
        rw [a42, a41]
        refine pq_ck (pq_le (nI_toInt (by omega)) (nI_toInt (by omega)) (fun q1 => ?_) (fun q1 => ?_))
        · have e : i = x.length := by omega
          subst e
          refine pq_ck (k110 rFU 0 _ (Nat.zero_le _) (frx_tr hX ⟨fun k hk => sa_ne hk, fun k hk => rfl⟩) (fun z z1 z2 => ?_) (fun z z1 => ?_) ⟨hx6, ?_, fun j hj => ?_⟩ ?_ (fun k hk => absurd hk (Nat.not_lt_zero _)))
          · rw [show (2944 : Int32) = nI 2944 from rfl, up_nI (by omega), if_neg (by omega)]; exact g1 z z1 z2
          · rw [show (2944 : Int32) = nI 2944 from rfl, up_nI (by omega), if_neg (by omega)]; exact g2 z z1
          · rw [show (2944 : Int32) = nI 2944 from rfl, up_nI (by omega), if_neg (by omega)]; exact g3
          · rw [show (2944 : Int32) = nI 2944 from rfl, up_nI (by omega), if_neg (by omega)]; exact g4 j hj
          · rw [show (2944 : Int32) = nI 2944 from rfl, up_nI (by omega), if_pos rfl]
        · rw [nI_add, rd_nI (by omega), fr hX 43 (by omega), t43 _ (by omega), hgd i (by omega), show (2884 : Int32) + nI i = nI (2884 + i) from nI_add 2884 i, nI_1]
          refine pq_ck (pq_ck (pq_ck (ih (i + 1) _ (by omega) (frx_tr hX ⟨fun k hk => sa_ne hk, fun k hk => rfl⟩) (fun z z1 z2 => ?_) (fun z z1 => ?_) ?_ (fun k hk => ?_))))
          · rw [up_nI (by omega), if_neg (by omega)]; exact g1 z z1 z2
          · rw [up_nI (by omega), if_neg (by omega)]; exact g2 z z1
          · rw [up_nI (by omega), if_neg (by omega)]; exact g3
          · rw [up_nI (by omega)]
            by_cases e : k = i
            · rw [if_pos (by rw [e]), e]
            · rw [if_neg (by omega)]; exact g4 k (by omega)
    -- pairs moved up
    have k16 : ∀ (d i : Nat) (σ1 : RS9), 3005 ≤ i + 1 → i < 4347 → FRX (fun k => k = 1) NF9 σ σ1 → (∀ z, i < z → z < 4347 → σ1.2 1 z = σ.2 1 (z - 122)) → (∀ z, z ≤ i → σ1.2 1 z = σ.2 1 z) → PQ (mX9_remembersPair_l16 d (nI p) (nI w.length) (nI i) σ1) (fun y => ∃ σ', y = (0, σ') ∧ RM9 σ' (S.1, S.2.1, S.2.2.1, ((x, w) :: S.2.2.2).take 12) ∧ FRX (fun k => k = 1) NF9 σ σ') := by
      intro d
      induction d with
      | zero => intro i σ1 _ _ _ _ _; exact pq_none
      | succ d ih =>
        intro i σ1 hi1 hi2 hX g1 g2
        unfold mX9_remembersPair_l16
        have a42 : rGa σ1 42 (nI p) = nI x.length := by unfold rGa; rw [fr hX 42 (by omega)]; exact e42
        rw [a42]
        refine pq_lt (nI_toInt (by omega)) (show (3005 : Int32).toInt = 3005 by decide) (fun q1 => ?_) (fun q1 => ?_)
        · have e : i = 3004 := by omega
          subst e
          refine pq_ck (pq_ck (k60 rFU 0 _ (Nat.zero_le _) (frx_tr hX ⟨fun k hk => sa_ne hk, fun k hk => rfl⟩) (fun z z1 z2 => ?_) (fun z z1 => ?_) ?_ (fun k hk => absurd hk (Nat.not_lt_zero _))))
          · rw [show (2883 : Int32) = nI 2883 from rfl, up_nI (by omega), if_neg (by omega)]; exact g1 z (by omega) z2
          · rw [show (2883 : Int32) = nI 2883 from rfl, up_nI (by omega), if_neg (by omega)]; exact g2 z (by omega)
          · rw [show (2883 : Int32) = nI 2883 from rfl, up_nI (by omega), if_pos rfl]
        · rw [nI_122 (by omega) (by omega), rd_nI (by omega), g2 (i - 122) (by omega), nI_dec (by omega) (by omega)]
          refine pq_ck (pq_ck (ih (i - 1) _ (by omega) (by omega) (frx_tr hX ⟨fun k hk => sa_ne hk, fun k hk => rfl⟩) (fun z z1 z2 => ?_) (fun z z1 => ?_)))
          · rw [up_nI (by omega)]
            by_cases e : z = i
            · rw [if_pos e, e]
            · rw [if_neg e]; exact g1 z (by omega) z2
          · rw [up_nI (by omega), if_neg (by omega)]; exact g2 z (by omega)
    exact k16 rFU 4346 σ (by omega) (by omega) frx_rfl (fun z z1 z2 => by omega) (fun z _ => rfl)
  · have em : memA S (pOf S p) w = S := if_neg (by omega)
    rw [em]
    exact pq_ret ⟨σ, rfl, h, frx_rfl⟩
theorem r_tell0 {v : Int32} {w : BL} (h : RM9 σ S) (hS : SV S) (h53 : RLs σ 53 w) (hw : w.length ≤ 60) : PQ (mX9_tell0 v (nI w.length) σ) (DOA σ (tlA S v w)) := by
  obtain ⟨h33, h40⟩ := RM_33 h
  unfold mX9_tell0
  refine pq_isr (r_isPieceThere h33 h40) ?_
  by_cases hin : inP S v
  · have ed : decide (0 ≤ v.toInt ∧ v.toInt < ((pcF S).length : Int)) = true := decide_eq_true hin
    rw [ed]
    refine pq_f (show ¬ (1 : Int32) = 0 by decide) ?_
    obtain ⟨e1, e2⟩ := v_nI hin (by omega)
    have ef : tlA S v w = if escFor S.2.1 (pOf S v.toInt.toNat) w = none then (2, S) else if 600 < (bltS (setT S (tset S.2.2.1 v.toInt.toNat (some w)))).length then (3, S) else (0, memA (setT S (tset S.2.2.1 v.toInt.toNat (some w))) (pOf S v.toInt.toNat) w) := if_pos hin
    rw [ef]
    clear ef
    generalize v.toInt.toNat = p at e1 e2 ⊢
    subst e1
    refine pq_call (r_escFor (p := p) h.1.2.1 h.2 e2 h53 hw) (fun y hy => ?_)
    obtain ⟨σ1, rfl, g1, g2⟩ := hy
    have g2' : FRX RA9 FA9 σ σ1 := frx_mono g2 (fun k hk => by omega) (fun k hk => by omega)
    cases he : escFor S.2.1 (pOf S p) w with
    | none =>
      rw [if_pos (show (none : Option BL) = none from rfl)]
      have he' : escFor S.2.1 ((pcF S).getD p pc0) w = none := he
      show PQ (if tdN (escFor S.2.1 ((pcF S).getD p pc0) w) = -1 then _ else _) _
      rw [he']
      exact pq_t rfl (pq_ret (bad_a (by decide) g2'))
    | some e =>
      have he' : escFor S.2.1 ((pcF S).getD p pc0) w = some e := he
      have hel := (g1 e he').2
      rw [if_neg (show ¬ (some e : Option BL) = none from fun q => by cases q)]
      show PQ (if tdN (escFor S.2.1 ((pcF S).getD p pc0) w) = -1 then _ else _) _
      rw [he']
      refine pq_f (nI_ne (by omega)) ?_
      have hM1 : RM9 σ1 S := RM_frx h g2 (fun q => by omega) (fun k h1 h2 q => by omega) ⟨fun q => by omega, fun q => by omega⟩
      refine pq_call (r_tells (p := p) (by omega) (RL_frx h53 g2 (fun q => by omega)) hw) (fun y hy => ?_)
      obtain ⟨σ2, rfl, hTL⟩ := hy
      have hM2 := TL_RM hM1 (by omega) hw hTL
      have hV2 : VE S.2.1 (tset S.2.2.1 p (some w)) (pcF S) := VE_tset hS.1 (fun t e9 => by cases e9; rw [he']; exact fun q => by cases q)
      refine pq_call (r_builtMany (RM_BV hM2) pcs_ord (by have := hM2.1.1.1.2; omega) hV2) (fun y hy => ?_)
      obtain ⟨σ3, rfl, k1, k2⟩ := hy
      have hF3 : FRX RA9 FA9 σ σ3 := frx_tr g2' (frx_tr (TL_fr hTL) (frx_mono k2 (fun k hk => by omega) (fun k hk => by omega)))
      have hM3 := RM_frx hM2 k2 (fun q => by omega) (fun k h1 h2 q => by omega) ⟨fun q => by omega, fun q => by omega⟩
      refine pq_le (nI_toInt (by omega)) kt_600 (fun q => ?_) (fun q => ?_)
      · rw [if_neg (show ¬ 600 < (bltS (setT S (tset S.2.2.1 p (some w)))).length from fun z => by
          have z : 600 < (blt S.2.1 S.1 (tset S.2.2.1 p (some w)) (pcF S)).length := z
          have q : ((blt S.2.1 S.1 (tset S.2.2.1 p (some w)) (pcF S)).length : Int) ≤ 600 := q
          omega)]
        refine pq_call (r_holdsTold (p := p) (t := w) hM3.1.2.2.1 (by omega) tset_eq) (fun y hy => ?_)
        obtain ⟨σ4, rfl, m1, m2⟩ := hy
        have hM4 := RM_frx hM3 m2 (fun q => by omega) (fun k h1 h2 q => by omega) ⟨fun q => q, fun q => q⟩
        refine pq_call (r_remPair (p := p) hM4 e2 m1 hw) (fun y hy => ?_)
        obtain ⟨σ5, rfl, n1, n2⟩ := hy
        exact pq_ret ⟨σ5, rfl, fun _ => n1, frx_tr hF3 (frx_tr (frx_mono m2 (fun k hk => by omega) (fun k hk => absurd hk id)) (frx_mono n2 (fun k hk => Or.inl hk) (fun k hk => absurd hk id)))⟩
      · rw [if_pos (show 600 < (bltS (setT S (tset S.2.2.1 p (some w)))).length from by
          have q : (600 : Int) < ((blt S.2.1 S.1 (tset S.2.2.1 p (some w)) (pcF S)).length : Int) := q
          show 600 < (blt S.2.1 S.1 (tset S.2.2.1 p (some w)) (pcF S)).length
          omega)]
        exact pq_ret (bad_a (by decide) hF3)
  · have ed : decide (0 ≤ v.toInt ∧ v.toInt < ((pcF S).length : Int)) = false := decide_eq_false hin
    rw [ed]
    have ef : tlA S v w = (1, S) := if_neg hin
    rw [ef]
    exact pq_t rfl (pq_ret (bad_a (by decide) frx_rfl))
end RTL
end
/-! part 63e.acts -/
section
/-! the reference: swap, lock, rules -/
section RSW
variable {σ : RS9} {S : SST}
theorem nw_now {i : Nat} : nwP S.2.2.1 (pcF S) i = nowOf S i := by
  unfold nwP nowOf
  cases S.2.2.1 i <;> rfl
theorem r_swap0 {v u : Int32} (h : RM9 σ S) (hS : SV S) : PQ (mX9_swap0 v u σ) (DOA σ (swA S v u)) := by
  obtain ⟨h33, h40⟩ := RM_33 h
  have no : ¬ (inP S v ∧ inP S u) → PQ (mX9_swap0_b16 σ) (DOA σ (swA S v u)) := fun hn => by
    have ef : swA S v u = (1, S) := if_neg hn
    rw [ef]
    exact pq_ret (bad_a (by decide) frx_rfl)
  unfold mX9_swap0
  refine pq_isr (r_isPieceThere h33 h40) ?_
  by_cases hin : inP S v
  · have ed : decide (0 ≤ v.toInt ∧ v.toInt < ((pcF S).length : Int)) = true := decide_eq_true hin
    rw [ed]
    refine pq_f (show ¬ (1 : Int32) = 0 by decide) (pq_isr (r_isPieceThere h33 h40) ?_)
    by_cases hiu : inP S u
    · have ed : decide (0 ≤ u.toInt ∧ u.toInt < ((pcF S).length : Int)) = true := decide_eq_true hiu
      rw [ed]
      refine pq_f (show ¬ (1 : Int32) = 0 by decide) ?_
      have ef : swA S v u = if v = u then (5, S) else if 60 < (nowOf S v.toInt.toNat).length ∨ 60 < (nowOf S u.toInt.toNat).length then (8, S) else if escFor S.2.1 (pOf S v.toInt.toNat) (nowOf S u.toInt.toNat) = none ∨ escFor S.2.1 (pOf S u.toInt.toNat) (nowOf S v.toInt.toNat) = none then (2, S) else finA S (setT S (swT S v.toInt.toNat u.toInt.toNat)) := if_pos ⟨hin, hiu⟩
      rw [ef]
      clear ef no
      obtain ⟨e1, e2⟩ := v_nI hin (by omega)
      obtain ⟨e3, e4⟩ := v_nI hiu (by omega)
      generalize v.toInt.toNat = p at e1 e2 ⊢
      generalize u.toInt.toNat = o at e3 e4 ⊢
      subst e1 e3
      refine pq_eq (fun q => ?_) (fun q => ?_)
      · rw [if_pos q]
        exact pq_ret (bad_a (by decide) frx_rfl)
      have hpo : p ≠ o := fun z => q (by rw [z])
      rw [if_neg q]
      have hT := h.1.2.2.1
      have hnl : ∀ i, i < (pcF S).length → (nowOf S i).length ≤ 600 := fun i hi => by
        have hle := tx_le hi
        have h6 := h.2.2.1.2.1
        cases ht : S.2.2.1 i with
        | none => rw [now_n ht]; show (pX ((pcF S).getD i pc0)).length ≤ 600; omega
        | some t => rw [now_s ht]; have := ((hT i (by omega)).2 t ht).1; omega
      have n1 := hnl p e2
      have n2 := hnl o e4
      refine pq_isr (r_nowMany (p := p) hT h.2 e2) (pq_isr (r_nowMany (p := o) hT h.2 e4) ?_)
      show PQ (if (60 : Int32) < nI (nwP S.2.2.1 (pcF S) p).length then mX9_swap0_b51 σ else (if nI (nwP S.2.2.1 (pcF S) o).length ≤ (60 : Int32) then mX9_swap0_l57 rFU (nI p) (nI o) (nI (nwP S.2.2.1 (pcF S) p).length) (nI (nwP S.2.2.1 (pcF S) o).length) (0 : Int32) σ else mX9_swap0_b51 σ)) _
      rw [nw_now, nw_now]
      have b51 : (60 < (nowOf S p).length ∨ 60 < (nowOf S o).length) → PQ (mX9_swap0_b51 σ) (DOA σ (if 60 < (nowOf S p).length ∨ 60 < (nowOf S o).length then (8, S) else if escFor S.2.1 (pOf S p) (nowOf S o) = none ∨ escFor S.2.1 (pOf S o) (nowOf S p) = none then (2, S) else finA S (setT S (swT S p o)))) := fun hc => by
        rw [if_pos hc]
        exact pq_ret (bad_a (by decide) frx_rfl)
      refine pq_lt kt_60 (nI_toInt (by omega)) (fun q1 => b51 (Or.inl (by omega))) (fun q1 => pq_le (nI_toInt (by omega)) kt_60 (fun q2 => ?_) (fun q2 => b51 (Or.inr (by omega))))
      clear b51
      rw [if_neg (show ¬ (60 < (nowOf S p).length ∨ 60 < (nowOf S o).length) by omega)]
      have a60 : (nowOf S p).length ≤ 60 := by omega
      have b60 : (nowOf S o).length ≤ 60 := by omega
      generalize hR : (if escFor S.2.1 (pOf S p) (nowOf S o) = none ∨ escFor S.2.1 (pOf S o) (nowOf S p) = none then ((2 : Int32), S) else finA S (setT S (swT S p o))) = R
      -- behind the first: the other is told
      have k136 : ∀ (d i : Nat) (σ1 : RS9), escFor S.2.1 (pOf S p) (nowOf S o) ≠ none → i ≤ (nowOf S p).length → RM9 σ1 (setT S (tset S.2.2.1 p (some (nowOf S o)))) → RLs σ1 58 (nowOf S p) → RLs σ1 53 ((nowOf S p).take i) → FRX RA9 FA9 σ σ1 → PQ (mX9_swap0_l136 d (nI o) (nI (nowOf S p).length) (nI i) σ1) (DOA σ R) := by
        intro d
        induction d with
        | zero => intro i σ1 _ _ _ _ _ _; exact pq_none
        | succ d ih =>
          intro i σ1 he1 hi hM h58 h53 hF
          unfold mX9_swap0_l136
          refine pq_le (nI_toInt (by omega)) (nI_toInt (by omega)) (fun q3 => ?_) (fun q3 => ?_)
          · have e : i = (nowOf S p).length := by omega
            rw [e, List.take_length] at h53
            refine pq_call (r_escFor (p := o) hM.1.2.1 hM.2 e4 h53 a60) (fun y hy => ?_)
            obtain ⟨σ2, rfl, g1, g2⟩ := hy
            have g2' : FRX RA9 FA9 σ1 σ2 := frx_mono g2 (fun k hk => by omega) (fun k hk => by omega)
            cases he : escFor S.2.1 (pOf S o) (nowOf S p) with
            | none =>
              have eR : R = (2, S) := by rw [← hR, if_pos (Or.inr he)]
              have he' : escFor (setT S (tset S.2.2.1 p (some (nowOf S o)))).2.1 ((pcF (setT S (tset S.2.2.1 p (some (nowOf S o))))).getD o pc0) (nowOf S p) = none := he
              show PQ (if tdN (escFor (setT S (tset S.2.2.1 p (some (nowOf S o)))).2.1 ((pcF (setT S (tset S.2.2.1 p (some (nowOf S o))))).getD o pc0) (nowOf S p)) = -1 then _ else _) _
              rw [he', eR]
              exact pq_t rfl (pq_ret (bad_a (by decide) (frx_tr hF g2')))
            | some e =>
              have he' : escFor (setT S (tset S.2.2.1 p (some (nowOf S o)))).2.1 ((pcF (setT S (tset S.2.2.1 p (some (nowOf S o))))).getD o pc0) (nowOf S p) = some e := he
              have hel := (g1 e he').2
              have eR : R = finA S (setT S (swT S p o)) := by
                rw [← hR, if_neg (fun z => by
                  rcases z with z | z
                  · exact he1 z
                  · rw [he] at z; cases z)]
              show PQ (if tdN (escFor (setT S (tset S.2.2.1 p (some (nowOf S o)))).2.1 ((pcF (setT S (tset S.2.2.1 p (some (nowOf S o))))).getD o pc0) (nowOf S p)) = -1 then _ else _) _
              rw [he', eR]
              refine pq_f (nI_ne (by omega)) ?_
              have hM2 := RM_frx hM g2 (fun q => by omega) (fun k h1 h2 q => by omega) ⟨fun q => by omega, fun q => by omega⟩
              refine pq_call (r_tells (p := o) (by omega) (RL_frx h53 g2 (fun q => by omega)) a60) (fun y hy => ?_)
              obtain ⟨σ3, rfl, hTL⟩ := hy
              have hM3 : RM9 σ3 (setT S (swT S p o)) := TL_RM hM2 (by omega) a60 hTL
              unfold mX9_swap0_b195
              have hV : VE S.2.1 (swT S p o) (pcF S) := VE_tset (VE_tset hS.1 (fun t e9 => by cases e9; exact he1)) (fun t e9 => by cases e9; exact fun q => by rw [show escFor S.2.1 ((pcF S).getD o pc0) (nowOf S p) = some e from he] at q; cases q)
              refine pq_tail (r_fin (S := S) hM3 hV) (fun y hy => ?_)
              obtain ⟨σ4, k1, k2, k3⟩ := hy
              exact ⟨σ4, k1, k2, frx_tr hF (frx_tr g2' (frx_tr (TL_fr hTL) (frx_mono k3 (fun k hk => by omega) (fun k hk => by omega))))⟩
          · have hi' : i < (nowOf S p).length := by omega
            rw [rd_nI (by omega), h58 i hi', nI_1]
            have fr : FRX (fun k => k = 53) NF9 σ1 (rSa σ1 53 (nI i) ((nowOf S p).getD i 0)) := ⟨fun k hk => sa_ne hk, fun k hk => rfl⟩
            exact pq_ck (pq_ck (ih (i + 1) _ he1 (by omega) (RM_frx hM fr (fun q => by omega) (fun k h1 h2 q => by omega) ⟨fun q => q, fun q => q⟩) (RL_frx h58 fr (fun q => by omega)) (RL_53 h53 hi' rfl (by omega)) (frx_tr hF (frx_mono fr (fun k hk => by omega) (fun k hk => absurd hk id)))))
      -- what the other is now
      have k86 : ∀ (d i : Nat) (σ1 : RS9), i ≤ (nowOf S o).length → RM9 σ1 S → RLs σ1 58 (nowOf S p) → RLs σ1 53 ((nowOf S o).take i) → FRX RA9 FA9 σ σ1 → PQ (mX9_swap0_l86 d (nI p) (nI o) (nI (nowOf S p).length) (nI (nowOf S o).length) (nI i) σ1) (DOA σ R) := by
        intro d
        induction d with
        | zero => intro i σ1 _ _ _ _ _; exact pq_none
        | succ d ih =>
          intro i σ1 hi hM h58 h53 hF
          unfold mX9_swap0_l86
          refine pq_le (nI_toInt (by omega)) (nI_toInt (by omega)) (fun q3 => ?_) (fun q3 => ?_)
          · have e : i = (nowOf S o).length := by omega
            rw [e, List.take_length] at h53
            refine pq_call (r_escFor (p := p) hM.1.2.1 hM.2 e2 h53 b60) (fun y hy => ?_)
            obtain ⟨σ2, rfl, g1, g2⟩ := hy
            have g2' : FRX RA9 FA9 σ1 σ2 := frx_mono g2 (fun k hk => by omega) (fun k hk => by omega)
            cases he : escFor S.2.1 (pOf S p) (nowOf S o) with
            | none =>
              have eR : R = (2, S) := by rw [← hR, if_pos (Or.inl he)]
              have he' : escFor S.2.1 ((pcF S).getD p pc0) (nowOf S o) = none := he
              show PQ (if tdN (escFor S.2.1 ((pcF S).getD p pc0) (nowOf S o)) = -1 then _ else _) _
              rw [he', eR]
              exact pq_t rfl (pq_ret (bad_a (by decide) (frx_tr hF g2')))
            | some e =>
              have he' : escFor S.2.1 ((pcF S).getD p pc0) (nowOf S o) = some e := he
              have hel := (g1 e he').2
              show PQ (if tdN (escFor S.2.1 ((pcF S).getD p pc0) (nowOf S o)) = -1 then _ else _) _
              rw [he']
              refine pq_f (nI_ne (by omega)) ?_
              have hM2 := RM_frx hM g2 (fun q => by omega) (fun k h1 h2 q => by omega) ⟨fun q => by omega, fun q => by omega⟩
              refine pq_call (r_tells (p := p) (by omega) (RL_frx h53 g2 (fun q => by omega)) b60) (fun y hy => ?_)
              obtain ⟨σ3, rfl, hTL⟩ := hy
              have hM3 := TL_RM hM2 (by omega) b60 hTL
              refine k136 rFU 0 σ3 (by rw [he]; exact fun q => by cases q) (Nat.zero_le _) hM3 (RL_frx (RL_frx h58 g2 (fun q => by omega)) hTL.2.2.2 (fun q => by omega)) (fun j hj => absurd hj (by rw [List.take_zero]; exact Nat.not_lt_zero _)) (frx_tr hF (frx_tr g2' (TL_fr hTL)))
          · have hi' : i < (nowOf S o).length := by omega
            have hb := r_nowByte (p := o) (k := i) hM.1.2.2.1 hM.2 e4 (by rw [nw_now]; exact hi')
            rw [nw_now] at hb
            refine pq_isr hb (pq_ck ?_)
            have fr : FRX (fun k => k = 53) NF9 σ1 (rSa σ1 53 (nI i) ((nowOf S o).getD i 0)) := ⟨fun k hk => sa_ne hk, fun k hk => rfl⟩
            rw [nI_1]
            exact ih (i + 1) _ (by omega) (RM_frx hM fr (fun q => by omega) (fun k h1 h2 q => by omega) ⟨fun q => q, fun q => q⟩) (RL_frx h58 fr (fun q => by omega)) (RL_53 h53 hi' rfl (by omega)) (frx_tr hF (frx_mono fr (fun k hk => by omega) (fun k hk => absurd hk id)))
      have k57 : ∀ (d i : Nat) (σ1 : RS9), i ≤ (nowOf S p).length → RM9 σ1 S → RLs σ1 58 ((nowOf S p).take i) → FRX RA9 FA9 σ σ1 → PQ (mX9_swap0_l57 d (nI p) (nI o) (nI (nowOf S p).length) (nI (nowOf S o).length) (nI i) σ1) (DOA σ R) := by
        intro d
        induction d with
        | zero => intro i σ1 _ _ _ _; exact pq_none
        | succ d ih =>
          intro i σ1 hi hM h58 hF
          unfold mX9_swap0_l57
          refine pq_le (nI_toInt (by omega)) (nI_toInt (by omega)) (fun q3 => ?_) (fun q3 => ?_)
          · have e : i = (nowOf S p).length := by omega
            rw [e, List.take_length] at h58
            exact k86 rFU 0 σ1 (Nat.zero_le _) hM h58 (fun j hj => absurd hj (by rw [List.take_zero]; exact Nat.not_lt_zero _)) hF
          · have hi' : i < (nowOf S p).length := by omega
            have hb := r_nowByte (p := p) (k := i) hM.1.2.2.1 hM.2 e2 (by rw [nw_now]; exact hi')
            rw [nw_now] at hb
            refine pq_isr hb (pq_ck ?_)
            have fr : FRX (fun k => k = 58) NF9 σ1 (rSa σ1 58 (nI i) ((nowOf S p).getD i 0)) := ⟨fun k hk => sa_ne hk, fun k hk => rfl⟩
            rw [nI_1]
            exact ih (i + 1) _ (by omega) (RM_frx hM fr (fun q => by omega) (fun k h1 h2 q => by omega) ⟨fun q => q, fun q => q⟩) (RL_53 h58 hi' rfl (by omega)) (frx_tr hF (frx_mono fr (fun k hk => by omega) (fun k hk => absurd hk id)))
      exact k57 rFU 0 σ (Nat.zero_le _) h (fun j hj => absurd hj (by rw [List.take_zero]; exact Nat.not_lt_zero _)) frx_rfl
    · have ed : decide (0 ≤ u.toInt ∧ u.toInt < ((pcF S).length : Int)) = false := decide_eq_false hiu
      rw [ed]
      exact pq_t rfl (no (fun q => hiu q.2))
  · have ed : decide (0 ≤ v.toInt ∧ v.toInt < ((pcF S).length : Int)) = false := decide_eq_false hin
    rw [ed]
    exact pq_t rfl (no (fun q => hin q.1))
/-- a number of the rules is set, and all is cut anew -/
theorem r_setAnew {σ1 : RS9} {cf : CFG} (h : RM9 σ S) (hX : FRX (fun k => k = 1) NF9 σ σ1) (hlo : ∀ i, (i = 0 ∨ 42 ≤ i) → σ1.2 1 i = σ.2 1 i) (hM : MC (σ1.2 1) cf) : PQ ((mX9_cutsAnew σ1).bind fun r2 => some ((0 : Int32), r2.2)) (DOA σ (0, setC S cf)) := by
  refine pq_call (r_cutsAnew (F := S.1) (mem := S.2.2.2) ⟨⟨(hlo 0 (Or.inl rfl)).trans h.1.1.1.1, h.1.1.1.2⟩, fun i hi => (hlo _ (Or.inr (by omega))).trans (h.1.1.2 i hi)⟩ hM (PR9_ext h.1.2.2.2 (hlo 42 (Or.inr (by omega))) (fun i h1 _ => hlo i (Or.inr (by omega))))) (fun y hy => ?_)
  obtain ⟨σ2, rfl, h1, h2⟩ := hy
  exact pq_ret ⟨σ2, rfl, fun _ => h1, frx_tr (frx_mono hX (fun k hk => Or.inl hk) (fun k hk => absurd hk id)) h2⟩
theorem r_rules {a : Nat} {x : Int32} {cf : CFG} (h : RM9 σ S) (ha : 1 ≤ a ∧ a ≤ 4) (hM : MC (fun i => if i = a then x else σ.2 1 i) cf) : PQ (mX9_rules (nI a) x σ) (DOA σ (0, setC S cf)) := by
  unfold mX9_rules
  have off : ∀ i, i ≠ a → (rSa σ 1 (nI a) x).2 1 i = σ.2 1 i := fun i hi => by rw [up_nI (by omega), if_neg hi]
  refine pq_ck (r_setAnew h ⟨fun k hk => sa_ne hk, fun k hk => rfl⟩ (fun i hi => off i (by omega)) (MC_ext hM (fun i hi => up_nI (by omega) i)))
theorem MC_0 {μ : Nat → Int32} {cf : CFG} {x : Int32} (h : MC μ cf) (hx : x = 0 ∨ x = 1 ∨ x = 2 ∨ x = 3) : MC (fun i => if i = 1 then x else μ i) (x, cf.2) := by
  obtain ⟨h1, h2, h3, h4, h5, h6, h7⟩ := h
  exact ⟨rfl, h2, h3, h4, h5, fun l hl => ⟨(if_neg (by omega)).trans (h6 l hl).1, fun k hk => (if_neg (by omega)).trans ((h6 l hl).2 k hk)⟩, hx, h7.2⟩
theorem MC_1 {μ : Nat → Int32} {cf : CFG} {x : Int32} (h : MC μ cf) (hx : x = -1 ∨ x = 0 ∨ x = 1 ∨ x = 2 ∨ x = 3) : MC (fun i => if i = 2 then x else μ i) (cf.1, x, cf.2.2) := by
  obtain ⟨h1, h2, h3, h4, h5, h6, h7⟩ := h
  exact ⟨h1, rfl, h3, h4, h5, fun l hl => ⟨(if_neg (by omega)).trans (h6 l hl).1, fun k hk => (if_neg (by omega)).trans ((h6 l hl).2 k hk)⟩, h7.1, hx, h7.2.2⟩
theorem MC_2 {μ : Nat → Int32} {cf : CFG} {x : Int32} (h : MC μ cf) (hx : x = 0 ∨ x = 1) : MC (fun i => if i = 3 then x else μ i) (cf.1, cf.2.1, x, cf.2.2.2) := by
  obtain ⟨h1, h2, h3, h4, h5, h6, h7⟩ := h
  exact ⟨h1, h2, rfl, h4, h5, fun l hl => ⟨(if_neg (by omega)).trans (h6 l hl).1, fun k hk => (if_neg (by omega)).trans ((h6 l hl).2 k hk)⟩, h7.1, h7.2.1, hx, h7.2.2.2⟩
theorem MC_3 {μ : Nat → Int32} {cf : CFG} {n : Nat} (h : MC μ cf) (hx : 1 ≤ n ∧ n ≤ 40) : MC (fun i => if i = 4 then nI n else μ i) (cf.1, cf.2.1, cf.2.2.1, n, cf.2.2.2.2) := by
  obtain ⟨h1, h2, h3, h4, h5, h6, h7⟩ := h
  exact ⟨h1, h2, h3, rfl, h5, fun l hl => ⟨(if_neg (by omega)).trans (h6 l hl).1, fun k hk => (if_neg (by omega)).trans ((h6 l hl).2 k hk)⟩, h7.1, h7.2.1, h7.2.2.1, hx, h7.2.2.2.2⟩
theorem MC_nl {μ μ' : Nat → Int32} {cf : CFG} (h : MC μ cf) (h5 : μ' 5 = 0) (e : ∀ i, 1 ≤ i → i < 5 → μ' i = μ i) : MC μ' (cf.1, cf.2.1, cf.2.2.1, cf.2.2.2.1, []) := by
  obtain ⟨h1, h2, h3, h4, -, -, h7⟩ := h
  exact ⟨(e 1 (by omega) (by omega)).trans h1, (e 2 (by omega) (by omega)).trans h2, (e 3 (by omega) (by omega)).trans h3, (e 4 (by omega) (by omega)).trans h4, h5, fun l hl => absurd hl (Nat.not_lt_zero _), h7.1, h7.2.1, h7.2.2.1, h7.2.2.2.1, Nat.zero_le _, fun w hw => by cases hw⟩
theorem r_unlocks (h : RM9 σ S) : PQ (mX9_unlocks σ) (DOA σ (0, setC S (S.2.1.1, S.2.1.2.1, S.2.1.2.2.1, S.2.1.2.2.2.1, []))) := by
  unfold mX9_unlocks
  have e5 : (5 : Int32) = nI 5 := rfl
  have off : ∀ i, i ≠ 5 → (rSa σ 1 (5 : Int32) (0 : Int32)).2 1 i = σ.2 1 i := fun i hi => by rw [e5, up_nI (by omega), if_neg hi]
  exact pq_ck (r_setAnew h ⟨fun k hk => sa_ne hk, fun k hk => rfl⟩ (fun i hi => off i (by omega)) (MC_nl h.1.2.1 (by rw [e5, up_nI (by omega), if_pos rfl]) (fun i h1 h2 => off i (by omega))))
end RSW
end
/-! part 63f.lock -/
section
/-! the reference locks -/
section RLK
variable {σ : RS9} {S : SST}
theorem lk_app {X : List BL} {w : BL} {l : Nat} (h : l < X.length) : (X ++ [w]).getD l [] = X.getD l [] := by
  rw [List.getD_eq_getElem?_getD, List.getD_eq_getElem?_getD, List.getElem?_append_left h]
theorem lk_new {X : List BL} {w : BL} : (X ++ [w]).getD X.length [] = w := by
  rw [List.getD_eq_getElem?_getD, List.getElem?_append_right (Nat.le_refl _), Nat.sub_self]; rfl
theorem MC_lk {μ μ' : Nat → Int32} {cf : CFG} {w : BL} (h : MC μ cf) (hl : cf.2.2.2.2.length < 4) (hw : w.length ≤ 8) (h5 : μ' 5 = nI (cf.2.2.2.2.length + 1)) (hn : μ' (6 + 9 * cf.2.2.2.2.length) = nI w.length) (hk : ∀ k, k < w.length → μ' (6 + 9 * cf.2.2.2.2.length + 1 + k) = w.getD k 0) (e : ∀ i, i ≠ 5 → i < 6 + 9 * cf.2.2.2.2.length → μ' i = μ i) : MC μ' (cf.1, cf.2.1, cf.2.2.1, cf.2.2.2.1, cf.2.2.2.2 ++ [w]) := by
  obtain ⟨h1, h2, h3, h4, -, h6, h7⟩ := h
  have hlen : (cf.2.2.2.2 ++ [w]).length = cf.2.2.2.2.length + 1 := by rw [List.length_append]; rfl
  refine ⟨(e 1 (by omega) (by omega)).trans h1, (e 2 (by omega) (by omega)).trans h2, (e 3 (by omega) (by omega)).trans h3, (e 4 (by omega) (by omega)).trans h4, by rw [hlen]; exact h5, fun l hl2 => ?_, h7.1, h7.2.1, h7.2.2.1, h7.2.2.2.1, by rw [hlen]; show cf.2.2.2.2.length + 1 ≤ 4; omega, fun u hu => ?_⟩
  · have hl3 : l < cf.2.2.2.2.length + 1 := by rw [← hlen]; exact hl2
    show μ' (6 + 9 * l) = nI ((cf.2.2.2.2 ++ [w]).getD l []).length ∧ ∀ k, k < ((cf.2.2.2.2 ++ [w]).getD l []).length → μ' (6 + 9 * l + 1 + k) = ((cf.2.2.2.2 ++ [w]).getD l []).getD k 0
    by_cases el : l = cf.2.2.2.2.length
    · subst el
      rw [lk_new]
      exact ⟨hn, hk⟩
    · have hl4 : l < cf.2.2.2.2.length := by omega
      have h8 := cf_lk h7 hl4
      rw [lk_app hl4]
      exact ⟨(e _ (by omega) (by omega)).trans (h6 l hl4).1, fun k hk2 => (e _ (by omega) (by omega)).trans ((h6 l hl4).2 k hk2)⟩
  · rcases List.mem_append.mp hu with q | q
    · exact h7.2.2.2.2.2 u q
    · rw [List.mem_singleton.mp q]; exact hw
theorem nI_9 {l : Nat} : (6 : Int32) + (9 : Int32) * nI l = nI (6 + 9 * l) := by
  rw [show (9 : Int32) * nI l = nI (9 * l) from nI_mulc 9 l]; exact nI_add 6 (9 * l)
theorem r_lock0 {a : Nat} {T w : BL} (h : RM9 σ S) (h8 : RLs σ 8 T) (hT : T.length ≤ 400) (haw : a + w.length ≤ T.length) (hw : ∀ k, k < w.length → T.getD (a + k) 0 = w.getD k 0) (hw8 : w.length ≤ 8) : PQ (mX9_lock0 (nI a) (nI w.length) σ) (DOA σ (loA S w)) := by
  have hM := h.1.2.1
  obtain ⟨m1, m2, m3, m4, m5, m6, m7⟩ := id hM
  have hl4 := m7.2.2.2.2.1
  have e5 : rGa σ 1 (5 : Int32) = nI S.2.1.2.2.2.2.length := m5
  unfold mX9_lock0
  rw [e5]
  refine pq_ck (pq_eqi (nI_toInt (by omega)) kt_4 (fun q => ?_) (fun q => ?_))
  · have el : loA S w = (6, S) := by
      have e6 : lkC S.2.1.2.2.2.2 w = 6 := if_pos (by omega)
      unfold loA
      rw [e6, if_neg (by decide)]
    rw [el]
    exact pq_ret (bad_a (by decide) frx_rfl)
  have hlt : S.2.1.2.2.2.2.length < 4 := by omega
  have key : ∀ (d t : Nat), t ≤ S.2.1.2.2.2.2.length → (∀ l, l < t → S.2.1.2.2.2.2.getD l [] ≠ w) → PQ (mX9_lock0_l15 d (nI a) (nI w.length) (nI t) σ) (DOA σ (loA S w)) := by
    intro d
    induction d with
    | zero => intro t _ _; exact pq_none
    | succ d ih =>
      intro t ht hno
      unfold mX9_lock0_l15
      rw [e5]
      refine pq_ck (pq_le (nI_toInt (by omega)) (nI_toInt (by omega)) (fun q1 => ?_) (fun q1 => ?_))
      · -- none such: it is put behind
        have et : t = S.2.1.2.2.2.2.length := by omega
        have hany : S.2.1.2.2.2.2.any (fun x => decide (x = w)) ≠ true := fun hc => by
          obtain ⟨x, hx1, hx2⟩ := List.any_eq_true.mp hc
          obtain ⟨l, hl, hl2⟩ := List.mem_iff_getElem.mp hx1
          refine hno l (by omega) ?_
          rw [List.getD_eq_getElem?_getD, List.getElem?_eq_getElem hl]
          exact hl2.trans (of_decide_eq_true hx2)
        have el : loA S w = (0, setC S (S.2.1.1, S.2.1.2.1, S.2.1.2.2.1, S.2.1.2.2.2.1, S.2.1.2.2.2.2 ++ [w])) := by
          have e0 : lkC S.2.1.2.2.2.2 w = 0 := (if_neg (by omega)).trans (if_neg hany)
          unfold loA
          rw [e0, if_pos rfl]
        rw [el, nI_9]
        have k141 : ∀ (d2 i : Nat) (σ1 : RS9), i ≤ w.length → FRX (fun k => k = 1) NF9 σ σ1 → (∀ z, (z < 6 + 9 * S.2.1.2.2.2.2.length ∨ 42 ≤ z) → σ1.2 1 z = σ.2 1 z) → σ1.2 1 (6 + 9 * S.2.1.2.2.2.2.length) = nI w.length → (∀ k, k < i → σ1.2 1 (6 + 9 * S.2.1.2.2.2.2.length + 1 + k) = w.getD k 0) → PQ (mX9_lock0_l141 d2 (nI a) (nI w.length) (nI (6 + 9 * S.2.1.2.2.2.2.length)) (nI i) σ1) (DOA σ (0, setC S (S.2.1.1, S.2.1.2.1, S.2.1.2.2.1, S.2.1.2.2.2.1, S.2.1.2.2.2.2 ++ [w]))) := by
          intro d2
          induction d2 with
          | zero => intro i σ1 _ _ _ _ _; exact pq_none
          | succ d2 ih2 =>
            intro i σ1 hi hX g1 g2 g3
            unfold mX9_lock0_l141
            refine pq_le (nI_toInt (by omega)) (nI_toInt (by omega)) (fun q2 => ?_) (fun q2 => ?_)
            · have e : i = w.length := by omega
              subst e
              have e5' : rGa σ1 1 (5 : Int32) = nI S.2.1.2.2.2.2.length := (g1 5 (by omega)).trans m5
              rw [e5', nI_1]
              have off : ∀ z, z ≠ 5 → (rSa σ1 1 (5 : Int32) (nI (S.2.1.2.2.2.2.length + 1))).2 1 z = σ1.2 1 z := fun z hz => by rw [show (5 : Int32) = nI 5 from rfl, up_nI (by omega), if_neg hz]
              refine pq_ck (pq_ck (r_setAnew h (frx_tr hX ⟨fun k hk => sa_ne hk, fun k hk => rfl⟩) (fun z hz => (off z (by omega)).trans (g1 z (by omega))) (MC_lk hM hlt hw8 ?_ ((off _ (by omega)).trans g2) (fun k hk => (off _ (by omega)).trans (g3 k hk)) (fun z z1 z2 => (off z z1).trans (g1 z (Or.inl z2))))))
              rw [show (5 : Int32) = nI 5 from rfl, up_nI (by omega), if_pos rfl]
            · rw [nI_add, nI_1, nI_add, rd_nI (by omega), hX.1 8 (fun q => by omega), h8 _ (by omega), hw i (by omega), nI_1]
              refine pq_ck (pq_ck (ih2 (i + 1) _ (by omega) (frx_tr hX ⟨fun k hk => sa_ne hk, fun k hk => rfl⟩) (fun z hz => ?_) ?_ (fun k hk => ?_)))
              · rw [up_nI (by omega), if_neg (by omega)]; exact g1 z hz
              · rw [up_nI (by omega), if_neg (by omega)]; exact g2
              · rw [up_nI (by omega)]
                by_cases e : k = i
                · rw [if_pos (by rw [e]), e]
                · rw [if_neg (by omega)]; exact g3 k (by omega)
        refine pq_ck (pq_ck (k141 rFU 0 _ (Nat.zero_le _) ⟨fun k hk => sa_ne hk, fun k hk => rfl⟩ (fun z hz => ?_) ?_ (fun k hk => absurd hk (Nat.not_lt_zero _))))
        · rw [up_nI (by omega), if_neg (by omega)]
        · rw [up_nI (by omega), if_pos rfl]
      · have htl : t < S.2.1.2.2.2.2.length := by omega
        obtain ⟨a1, a2⟩ := m6 t htl
        have w8 := cf_lk m7 htl
        rw [nI_9, rd_nI (by omega), a1]
        -- decided
        have b104 : ∀ is : Bool, (is = true ↔ S.2.1.2.2.2.2.getD t [] = w) → PQ (mX9_lock0_b104 (fun v1 v2 v3 σ => mX9_lock0_l15 d v1 v2 v3 σ) (nI a) (nI w.length) (nI t) (bI is) σ) (DOA σ (loA S w)) := fun is his => by
          unfold mX9_lock0_b104
          refine if_01 (fun q2 => ?_) (fun q2 => ?_)
          · rw [nI_1]
            refine ih (t + 1) (by omega) (fun l hl => ?_)
            by_cases e : l = t
            · rw [e]; exact fun hc => by rw [his.mpr hc] at q2; cases q2
            · exact hno l (by omega)
          · have hm : S.2.1.2.2.2.2.any (fun x => decide (x = w)) = true := by
              refine List.any_eq_true.mpr ⟨S.2.1.2.2.2.2.getD t [], ?_, decide_eq_true (his.mp q2)⟩
              rw [List.getD_eq_getElem?_getD, List.getElem?_eq_getElem htl]
              exact List.getElem_mem htl
            have el : loA S w = (7, S) := by
              have e7 : lkC S.2.1.2.2.2.2 w = 7 := (if_neg (by omega)).trans (if_pos hm)
              unfold loA
              rw [e7, if_neg (by decide)]
            rw [el]
            exact pq_ret (bad_a (by decide) frx_rfl)
        generalize hu : S.2.1.2.2.2.2.getD t [] = u at a1 a2 w8 b104 ⊢
        refine pq_ck (pq_eqi (nI_toInt (by omega)) (nI_toInt (by omega)) (fun q2 => ?_) (fun q2 => ?_))
        · have hul : u.length = w.length := by omega
          have k51 : ∀ (d2 i : Nat) (is : Bool), i ≤ w.length → (is = true ↔ ∀ z, z < i → u.getD z 0 = w.getD z 0) → PQ (mX9_lock0_l51 (fun v1 v2 v3 σ => mX9_lock0_l15 d v1 v2 v3 σ) d2 (nI a) (nI w.length) (nI t) (bI is) (nI i) σ) (DOA σ (loA S w)) := by
            intro d2
            induction d2 with
            | zero => intro i is _ _; exact pq_none
            | succ d2 ih2 =>
              intro i is hi his
              unfold mX9_lock0_l51
              refine pq_le (nI_toInt (by omega)) (nI_toInt (by omega)) (fun q3 => b104 is ?_) (fun q3 => if_01 (fun q4 => ?_) (fun q4 => ?_))
              · exact ⟨fun hb => bl_ext hul (fun z hz => his.mp hb z (by omega)), fun hb => his.mpr (fun z _ => by rw [hb])⟩
              · have := b104 is ⟨(fun hb => by rw [hb] at q4; cases q4), fun hb => his.mpr (fun z _ => by rw [hb])⟩
                rw [q4] at this ⊢
                exact this
              · rw [nI_9, nI_1, nI_add, nI_add, rd_nI (by omega), rd_nI (by omega), a2 i (by omega), h8 _ (by omega), hw i (by omega)]
                have nxt : ∀ b2 : Bool, b2 = decide (u.getD i 0 = w.getD i 0) → PQ (mX9_lock0_b96 (fun v1 v2 v3 σ => mX9_lock0_l15 d v1 v2 v3 σ) (fun v1 v2 v3 v4 v5 σ => mX9_lock0_l51 (fun v1 v2 v3 σ => mX9_lock0_l15 d v1 v2 v3 σ) d2 v1 v2 v3 v4 v5 σ) (nI a) (nI w.length) (nI t) (nI i) (bI b2) σ) (DOA σ (loA S w)) := fun b2 hb2 => by
                  unfold mX9_lock0_b96
                  rw [nI_1]
                  refine ih2 (i + 1) b2 (by omega) ?_
                  rw [hb2, decide_eq_true_iff]
                  refine ⟨fun hq z hz => ?_, fun hq => hq i (by omega)⟩
                  by_cases e : z = i
                  · rw [e]; exact hq
                  · exact his.mp q4 z (by omega)
                exact pq_ck (pq_ck (pq_eq (fun q5 => nxt true (decide_eq_true q5).symm) (fun q5 => nxt false (decide_eq_false q5).symm)))
          unfold mX9_lock0_b46
          exact k51 rFU 0 true (Nat.zero_le _) ⟨fun _ z hz => absurd hz (Nat.not_lt_zero _), fun _ => rfl⟩
        · have hb := b104 false ⟨(fun hb => by cases hb), fun hb => absurd (show ((u.length : Nat) : Int) = w.length by rw [hb]) q2⟩
          unfold mX9_lock0_b46
          have k0 : ∀ d2, PQ (mX9_lock0_l51 (fun v1 v2 v3 σ => mX9_lock0_l15 d v1 v2 v3 σ) d2 (nI a) (nI w.length) (nI t) 0 0 σ) (DOA σ (loA S w)) := fun d2 => by
            cases d2 with
            | zero => exact pq_none
            | succ d2 =>
              unfold mX9_lock0_l51
              exact pq_le (nI_toInt (by omega)) rfl (fun _ => hb) (fun _ => pq_t rfl hb)
          exact k0 rFU
  exact key rFU 0 (Nat.zero_le _) (fun l hl => absurd hl (Nat.not_lt_zero _))
end RLK
end
/-! part 64a.done -/
section
/-! the reference remembers; a call is done -/
def PA9 (σ : RS9) (L : List SST) : Prop := σ.1 5 = nI L.length ∧ L.length ≤ 8 ∧ ∀ i Q, L[i]? = some Q → MR9 (fun k => σ.2 4 (4347 * i + k)) Q
def IM9 (σ : RS9) (o : Option SST) : Prop := σ.1 6 = bI o.isSome ∧ ∀ Q, o = some Q → MR9 (σ.2 3) Q
theorem PA_frx {σ σ' : RS9} {L : List SST} {R F : Nat → Prop} (h : PA9 σ L) (hX : FRX R F σ σ') (hR : ¬ R 4) (hF : ¬ F 5) : PA9 σ' L := ⟨(hX.2 5 hF).trans h.1, h.2.1, fun i Q hq => by rw [hX.1 4 hR]; exact h.2.2 i Q hq⟩
theorem IM_frx {σ σ' : RS9} {o : Option SST} {R F : Nat → Prop} (h : IM9 σ o) (hX : FRX R F σ σ') (hR : ¬ R 3) (hF : ¬ F 6) : IM9 σ' o := ⟨(hX.2 6 hF).trans h.1, fun Q hq => by rw [hX.1 3 hR]; exact h.2 Q hq⟩
theorem nI_43 {u k : Nat} : (4347 : Int32) * nI u + nI k = nI (4347 * u + k) := by
  rw [show (4347 : Int32) * nI u = nI (4347 * u) from nI_mulc 4347 u]; exact nI_add _ _
section RRM
variable {σ : RS9}
theorem r_rem52 {L : List SST} {S0 : SST} (hL : PA9 σ L) (hlt : L.length < 8) (h2 : MR9 (σ.2 2) S0) : PQ (mX9_remembers_b50 σ) (fun y => ∃ σ', y = (0, σ') ∧ PA9 σ' (L ++ [S0]) ∧ FRX (fun k => k = 4) (fun k => k = 5) σ σ') := by
  obtain ⟨g1, g2, g3⟩ := hL
  have key : ∀ (d i : Nat) (σ1 : RS9), i ≤ 4347 → FRX (fun k => k = 4) NF9 σ σ1 → (∀ z, z < 4347 * L.length → σ1.2 4 z = σ.2 4 z) → (∀ z, z < i → σ1.2 4 (4347 * L.length + z) = σ.2 2 z) → PQ (mX9_remembers_l52 d (nI i) σ1) (fun y => ∃ σ', y = (0, σ') ∧ PA9 σ' (L ++ [S0]) ∧ FRX (fun k => k = 4) (fun k => k = 5) σ σ') := by
    intro d
    induction d with
    | zero => intro i σ1 _ _ _ _; exact pq_none
    | succ d ih =>
      intro i σ1 hi hX k1 k2
      have e5 : σ1.1 5 = nI L.length := (hX.2 5 (fun q => q)).trans g1
      unfold mX9_remembers_l52
      rw [e5]
      refine pq_le (show (4347 : Int32).toInt = 4347 by decide) (nI_toInt (by omega)) (fun q => ?_) (fun q => ?_)
      · have e : i = 4347 := by omega
        subst e
        rw [nI_1]
        refine pq_ret ⟨_, rfl, ⟨by rw [sf_eq, List.length_append]; rfl, by rw [List.length_append]; show L.length + 1 ≤ 8; omega, fun j Q hq => ?_⟩, ⟨fun k hk => hX.1 k hk, fun k hk => (sf_ne hk).trans (hX.2 k (fun q => q))⟩⟩
        show MR9 (fun k => σ1.2 4 (4347 * j + k)) Q
        rcases Nat.lt_or_ge j L.length with hj | hj
        · rw [List.getElem?_append_left hj] at hq
          exact MR9_ext (g3 j Q hq) (fun z hz => k1 _ (by omega))
        · have hj2 : j < (L ++ [S0]).length := (List.getElem?_eq_some_iff.mp hq).1
          rw [List.length_append] at hj2
          have hj3 : j < L.length + 1 := hj2
          have ej : j = L.length := by omega
          subst ej
          rw [List.getElem?_append_right (Nat.le_refl _), Nat.sub_self] at hq
          have eQ : S0 = Q := Option.some.inj hq
          rw [← eQ]
          exact MR9_ext h2 (fun z hz => k2 z hz)
      · rw [nI_43, rd_nI (by omega), hX.1 2 (fun q => by omega), nI_1]
        refine pq_ck (pq_ck (ih (i + 1) _ (by omega) (frx_tr hX ⟨fun k hk => sa_ne hk, fun k hk => rfl⟩) (fun z hz => ?_) (fun z hz => ?_)))
        · rw [sa_nI (by omega), if_neg (by omega)]; exact k1 z hz
        · rw [sa_nI (by omega)]
          by_cases e : z = i
          · rw [if_pos (by rw [e]), e]
          · rw [if_neg (by omega)]; exact k2 z (by omega)
  unfold mX9_remembers_b50
  exact key rFU 0 σ (Nat.zero_le _) frx_rfl (fun z _ => rfl) (fun z hz => absurd hz (Nat.not_lt_zero _))
theorem r_remembers {L : List SST} {S0 : SST} (hL : PA9 σ L) (h2 : MR9 (σ.2 2) S0) : PQ (mX9_remembers σ) (fun y => ∃ σ', y = (0, σ') ∧ PA9 σ' (sRem L S0) ∧ FRX (fun k => k = 4) (fun k => k = 5) σ σ') := by
  have g1 := hL.1
  have g2 := hL.2.1
  unfold mX9_remembers
  rw [g1]
  refine pq_eqi (nI_toInt (by omega)) kt_8 (fun q => ?_) (fun q => ?_)
  · have e8 : L.length = 8 := by omega
    have es : sRem L S0 = L.drop 1 ++ [S0] := if_pos e8
    rw [es]
    have key : ∀ (d i : Nat) (σ1 : RS9), i ≤ 30429 → FRX (fun k => k = 4) NF9 σ σ1 → (∀ z, z < i → σ1.2 4 z = σ.2 4 (z + 4347)) → (∀ z, i ≤ z → σ1.2 4 z = σ.2 4 z) → PQ (mX9_remembers_l11 d (nI i) σ1) (fun y => ∃ σ', y = (0, σ') ∧ PA9 σ' (L.drop 1 ++ [S0]) ∧ FRX (fun k => k = 4) (fun k => k = 5) σ σ') := by
      intro d
      induction d with
      | zero => intro i σ1 _ _ _ _; exact pq_none
      | succ d ih =>
        intro i σ1 hi hX k1 k2
        have e5 : σ1.1 5 = nI L.length := (hX.2 5 (fun q => q)).trans g1
        unfold mX9_remembers_l11
        refine pq_le (show (30429 : Int32).toInt = 30429 by decide) (nI_toInt (by omega)) (fun q => ?_) (fun q => ?_)
        · have e : i = 30429 := by omega
          subst e
          rw [e5, show nI L.length - (1 : Int32) = nI (L.length - 1) from nI_sb (b := 1) (by omega) (by omega)]
          have hPA : PA9 (rSf σ1 5 (nI (L.length - 1))) (L.drop 1) := by
            refine ⟨by rw [sf_eq, List.length_drop], by rw [List.length_drop]; omega, fun j Q hq => ?_⟩
            rw [List.getElem?_drop] at hq
            have hj : 1 + j < L.length := (List.getElem?_eq_some_iff.mp hq).1
            show MR9 (fun k => σ1.2 4 (4347 * j + k)) Q
            refine MR9_ext (hL.2.2 (1 + j) Q hq) (fun z hz => ?_)
            show σ1.2 4 (4347 * j + z) = σ.2 4 (4347 * (1 + j) + z)
            rw [k1 _ (by omega), show 4347 * j + z + 4347 = 4347 * (1 + j) + z by omega]
          have hM2 : MR9 ((rSf σ1 5 (nI (L.length - 1))).2 2) S0 := by
            show MR9 (σ1.2 2) S0
            rw [hX.1 2 (fun q => by omega)]; exact h2
          refine pq_tail (r_rem52 hPA (by rw [List.length_drop]; omega) hM2) (fun y hy => ?_)
          obtain ⟨σ2, rfl, m1, m2⟩ := hy
          exact ⟨σ2, rfl, m1, frx_tr (show FRX (fun k => k = 4) (fun k => k = 5) σ (rSf σ1 5 (nI (L.length - 1))) from ⟨fun k hk => hX.1 k hk, fun k hk => (sf_ne hk).trans (hX.2 k (fun q => q))⟩) m2⟩
        · rw [show nI i + (4347 : Int32) = nI (i + 4347) from nI_add i 4347, rd_nI (by omega), k2 (i + 4347) (by omega), nI_1]
          refine pq_ck (pq_ck (ih (i + 1) _ (by omega) (frx_tr hX ⟨fun k hk => sa_ne hk, fun k hk => rfl⟩) (fun z hz => ?_) (fun z hz => ?_)))
          · rw [sa_nI (by omega)]
            by_cases e : z = i
            · rw [if_pos e, e]
            · rw [if_neg e]; exact k1 z (by omega)
          · rw [sa_nI (by omega), if_neg (by omega)]; exact k2 z (by omega)
    exact key rFU 0 σ (Nat.zero_le _) frx_rfl (fun z hz => absurd hz (Nat.not_lt_zero _)) (fun z _ => rfl)
  · have es : sRem L S0 = L ++ [S0] := if_neg (fun z => q (by rw [z]; rfl))
    rw [es]
    exact r_rem52 hL (by omega) h2
/-- the reference holds a spec value -/
def RR9 (σ : RS9) (V : SPV) : Prop := (σ.1 9 = nI V.1.length ∧ V.1.length ≤ 400 ∧ RLs σ 8 V.1) ∧ RM9 σ V.2.1 ∧ PA9 σ V.2.2.1 ∧ IM9 σ V.2.2.2.1 ∧ σ.1 7 = V.2.2.2.2.1 ∧ σ.1 12 = V.2.2.2.2.2
theorem RR_frx {σ σ' : RS9} {V : SPV} {R F : Nat → Prop} (h : RR9 σ V) (hX : FRX R F σ σ') (hR : ∀ k, (k = 1 ∨ k = 3 ∨ k = 4 ∨ k = 8 ∨ (34 ≤ k ∧ k ≤ 44)) → ¬ R k) (hF : ∀ k, (k = 5 ∨ k = 6 ∨ k = 7 ∨ k = 9 ∨ k = 12 ∨ k = 33 ∨ k = 45) → ¬ F k) : RR9 σ' V := by
  obtain ⟨⟨a1, a2, a3⟩, b, c, d, e, f⟩ := h
  exact ⟨⟨(hX.2 9 (hF _ (by omega))).trans a1, a2, RL_frx a3 hX (hR _ (by omega))⟩, RM_frx b hX (hR _ (by omega)) (fun k h1 h2 => hR k (by omega)) ⟨hF _ (by omega), hF _ (by omega)⟩, PA_frx c hX (hR _ (by omega)) (hF _ (by omega)), IM_frx d hX (hR _ (by omega)) (hF _ (by omega)), (hX.2 7 (hF _ (by omega))).trans e, (hX.2 12 (hF _ (by omega))).trans f⟩
theorem RR_f0 {V : SPV} {x : Int32} (h : RR9 σ V) : RR9 (rSf σ 0 x) V := RR_frx (R := NO9) (F := fun k => k = 0) h ⟨fun _ _ => rfl, fun k hk => sf_ne hk⟩ (fun k _ q => q) (fun k hk q => by omega)
/-- before an act: the row lies aside too -/
def RP9 (σ : RS9) (V : SPV) : Prop := RR9 σ V ∧ MR9 (σ.2 2) V.2.1
theorem r_aside {V : SPV} (h : RR9 σ V) : PQ (mX9_putsAside σ) (fun y => ∃ σ', y = (0, σ') ∧ RP9 σ' V) := by
  refine pq_tail r_putsAside (fun y hy => ?_)
  obtain ⟨σ', rfl, h1, h2⟩ := hy
  exact ⟨σ', rfl, RR_frx h h2 (fun k hk q => by omega) (fun k _ q => q), MR9_ext h.2.1.1 h1⟩
/-- behind an act: all but the row and what is cut is as before -/
theorem r_isDone {σ0 : RS9} {V : SPV} {r : Int32 × SST} {th : Int32} {c : Nat} (hc : r.1 = nI c) (hc9 : c ≤ 9) (h0 : RP9 σ0 V) (hF : FRX RA9 FA9 σ0 σ) (hr : r.1 = 0 → RM9 σ r.2) : PQ (mX9_isDone r.1 th σ) (fun y => ∃ σ', y = (bI (decide (r.1 = 0)), σ') ∧ RR9 σ' (sCall V r) ∧ (r.1 = 0 → σ'.1 57 = σ.1 57) ∧ σ'.1 0 = if r.1 = 0 then 0 else th) := by
  obtain ⟨⟨⟨a1, a2, a3⟩, b, pc, d, e, f⟩, h2⟩ := h0
  have h2' : MR9 (σ.2 2) V.2.1 := by rw [hF.1 2 (fun q => by omega)]; exact h2
  have g9 : σ.1 9 = nI V.1.length := (hF.2 9 (fun q => by omega)).trans a1
  have g8 : RLs σ 8 V.1 := RL_frx a3 hF (fun q => by omega)
  have gp : PA9 σ V.2.2.1 := PA_frx pc hF (fun q => by omega) (fun q => by omega)
  have gi : IM9 σ V.2.2.2.1 := IM_frx d hF (fun q => by omega) (fun q => by omega)
  have g12 : σ.1 12 = V.2.2.2.2.2 := (hF.2 12 (fun q => by omega)).trans f
  have f07 : ∀ {x z : Int32}, FRX NO9 (fun k => k = 0 ∨ k = 7) σ (rSf (rSf σ 7 x) 0 z) := fun {x z} => ⟨fun _ _ => rfl, fun k hk => (sf_ne (fun q => hk (Or.inl q))).trans (sf_ne (fun q => hk (Or.inr q)))⟩
  have e7 : ∀ {x z : Int32}, (rSf (rSf σ 7 x) 0 z).1 7 = x := (sf_ne (by decide)).trans sf_eq
  have b33 : ∀ σ' : RS9, PQ (mX9_isDone_b33 r.1 σ') (fun y => y = (bI (decide (r.1 = 0)), σ')) := fun σ' => by
    unfold mX9_isDone_b33 mX9_isDone_b42
    refine pq_eq (fun q => ?_) (fun q => ?_)
    · rw [decide_eq_true q]; exact pq_ck (pq_ret rfl)
    · rw [decide_eq_false q]; exact pq_ck (pq_ret rfl)
  by_cases h : r.1 = 0
  · have es : sCall V r = (V.1, r.2, sRem V.2.2.1 V.2.1, V.2.2.2.1, 0, V.2.2.2.2.2) := if_pos h
    rw [es, if_pos h]
    unfold mX9_isDone mX9_isDone_b15
    rw [h] at b33 ⊢
    refine pq_t (by decide) (pq_t rfl ?_)
    have hM := hr h
    refine pq_call (r_remembers (S0 := V.2.1) (PA_frx gp (f07 (x := 0) (z := 0)) (fun q => q) (fun q => by omega)) h2') (fun y hy => ?_)
    obtain ⟨σ1, rfl, m1, m2⟩ := hy
    refine pq_tail (b33 σ1) (fun y hy => ?_)
    subst hy
    have hX : FRX (fun k => k = 4) (fun k => k = 0 ∨ k = 5 ∨ k = 7) σ σ1 := frx_tr (frx_mono f07 (fun k hk => absurd hk id) (fun k hk => by omega)) (frx_mono m2 (fun k hk => hk) (fun k hk => by omega))
    refine ⟨σ1, rfl, ⟨⟨(hX.2 9 (fun q => by omega)).trans g9, a2, RL_frx g8 hX (fun q => by omega)⟩, RM_frx hM hX (fun q => by omega) (fun k h1 h2 q => by omega) ⟨fun q => by omega, fun q => by omega⟩, m1, IM_frx gi hX (fun q => by omega) (fun q => by omega), (m2.2 7 (fun q => by omega)).trans e7, (hX.2 12 (fun q => by omega)).trans g12⟩, fun _ => hX.2 57 (fun q => by omega), (m2.2 0 (fun q => by omega)).trans sf_eq⟩
  · have es : sCall V r = (V.1, V.2.1, V.2.2.1, V.2.2.2.1, r.1, V.2.2.2.2.2) := if_neg h
    rw [es, if_neg h]
    have hc0 : 0 < c := by
      rcases Nat.eq_zero_or_pos c with q | q
      · rw [q] at hc; exact absurd hc h
      · exact q
    unfold mX9_isDone mX9_isDone_b15
    refine pq_f (c_nle (by rw [hc, nI_toInt (by omega)]; show (0 : Int) < _; omega)) (pq_f h ?_)
    refine pq_call (r_putsBack (S := V.2.1) (σ := rSf (rSf σ 7 r.1) 0 th) h2') (fun y hy => ?_)
    obtain ⟨σ1, rfl, m1, m2⟩ := hy
    refine pq_tail (b33 σ1) (fun y hy => ?_)
    subst hy
    have hX : FRX RA9 (fun k => k = 0 ∨ k = 7 ∨ FA9 k) σ σ1 := frx_tr (frx_mono f07 (fun k hk => absurd hk id) (fun k hk => by omega)) (frx_mono m2 (fun k hk => hk) (fun k hk => Or.inr (Or.inr hk)))
    exact ⟨σ1, rfl, ⟨⟨(hX.2 9 (fun q => by omega)).trans g9, a2, RL_frx g8 hX (fun q => by omega)⟩, m1, PA_frx gp hX (fun q => by omega) (fun q => by omega), IM_frx gi hX (fun q => by omega) (fun q => by omega), (m2.2 7 (fun q => by omega)).trans e7, (hX.2 12 (fun q => by omega)).trans g12⟩, fun q => absurd q h, (m2.2 0 (fun q => by omega)).trans sf_eq⟩
end RRM
end
