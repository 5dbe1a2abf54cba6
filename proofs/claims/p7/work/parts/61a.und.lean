/-! the reference undoes escapes -/
def wd9 (t : Nat) : BL := sB9.getD t []
theorem wd9_ok : ∀ t : Fin 15, sL9.getD (t : Nat) 0 = (wd9 (t : Nat)).length ∧ (wd9 (t : Nat)).length ≤ 8 ∧ ∀ k : Fin 8, (k : Nat) < (wd9 (t : Nat)).length → (wd9 (t : Nat)).getD (k : Nat) 0 &&& 255 = (wd9 (t : Nat)).getD (k : Nat) 0 := by decide +kernel
theorem wd9_l {t : Nat} (h : t < 15) : strL t = nI (wd9 t).length := by
  unfold strL
  rw [(wd9_ok ⟨t, h⟩).1]
theorem wd9_8 {t : Nat} (h : t < 15) : (wd9 t).length ≤ 8 := (wd9_ok ⟨t, h⟩).2.1
theorem wd9_c {t k : Nat} (h : t < 15) (hk : k < (wd9 t).length) : strC t (nI k) = (wd9 t).getD k 0 := by
  have h8 := wd9_8 h
  unfold strC
  rw [nI_clamp (by omega)]
  exact (wd9_ok ⟨t, h⟩).2.2 ⟨k, by omega⟩ hk
def stB (L : BL) (a b : Nat) (W : BL) : Bool := decide (a + W.length ≤ b) && smF W 0 L a W.length
section RUN
variable {σ : RS9} {r : Nat} {L : BL}
theorem r_stands {a b t : Nat} (hL : RLs σ r L) (h6 : L.length ≤ 600) (hab : a ≤ b) (hb : b ≤ L.length) (ht : t < 15) : PQ (mX9_stands r (nI a) (nI b) t σ) (fun y => y = (bI (stB L a b (wd9 t)), σ)) := by
  have h8 := wd9_8 ht
  unfold mX9_stands
  rw [wd9_l ht, nI_sb hab (by omega)]
  refine pq_le (nI_toInt (by omega)) (nI_toInt (by omega)) (fun q => ?_) (fun q => ?_)
  · have eB : stB L a b (wd9 t) = smF (wd9 t) 0 L a (wd9 t).length := by
      unfold stB
      rw [decide_eq_true (by omega), Bool.true_and]
    rw [eB]
    have key : ∀ (d i : Nat), i ≤ (wd9 t).length → (∀ k, k < i → (wd9 t).getD k 0 = L.getD (a + k) 0) → PQ (mX9_stands_l15 d r (nI a) t (nI i) σ) (fun y => y = (bI (smF (wd9 t) 0 L a (wd9 t).length), σ)) := by
      intro d
      induction d with
      | zero => intro i _ _; exact pq_none
      | succ d ih =>
        intro i hi hk
        unfold mX9_stands_l15
        rw [wd9_l ht]
        refine pq_le (nI_toInt (by omega)) (nI_toInt (by omega)) (fun q1 => ?_) (fun q1 => ?_)
        · have e : smF (wd9 t) 0 L a (wd9 t).length = true := (smF_all _ _ _).mpr (fun k hk2 => by rw [Nat.zero_add]; exact hk k (by omega))
          rw [e]
          exact pq_ck (pq_ret rfl)
        · rw [nI_add, rd_nI (by omega), hL _ (by omega), wd9_c ht (by omega), nI_1]
          refine pq_ck (pq_ck (pq_eq (fun q2 => ?_) (fun q2 => ?_)))
          · refine ih (i + 1) (by omega) (fun k hk2 => ?_)
            by_cases e : k = i
            · rw [e]; exact q2.symm
            · exact hk k (by omega)
          · have e : smF (wd9 t) 0 L a (wd9 t).length = false := by
              cases hx : smF (wd9 t) 0 L a (wd9 t).length with
              | false => rfl
              | true =>
                have := (smF_all _ _ _).mp hx i (by omega)
                rw [Nat.zero_add] at this
                exact absurd this.symm q2
            rw [e]
            exact pq_ck (pq_ret rfl)
    exact key rFU 0 (Nat.zero_le _) (fun k hk => absurd hk (Nat.not_lt_zero _))
  · have eB : stB L a b (wd9 t) = false := by
      unfold stB
      rw [decide_eq_false (by omega), Bool.false_and]
    rw [eB]
    exact pq_ck (pq_ret rfl)
theorem st_lt {a b : Nat} {L : BL} : stB L a b (wd9 0) = true ↔ (a + 4 ≤ b ∧ L.getD a 0 = 38 ∧ L.getD (a + 1) 0 = 108 ∧ L.getD (a + 2) 0 = 116 ∧ L.getD (a + 3) 0 = 59) := by
  show (decide (a + 4 ≤ b) && (decide ((38 : Int32) = L.getD a 0) && (decide ((108 : Int32) = L.getD (a + 1) 0) && (decide ((116 : Int32) = L.getD (a + 1 + 1) 0) && (decide ((59 : Int32) = L.getD (a + 1 + 1 + 1) 0) && true))))) = true ↔ _
  simp only [Bool.and_eq_true, decide_eq_true_eq, and_true]
  exact ⟨fun h => ⟨h.1, h.2.1.symm, h.2.2.1.symm, h.2.2.2.1.symm, h.2.2.2.2.symm⟩, fun h => ⟨h.1, h.2.1.symm, h.2.2.1.symm, h.2.2.2.1.symm, h.2.2.2.2.symm⟩⟩
theorem st_gt {a b : Nat} {L : BL} : stB L a b (wd9 1) = true ↔ (a + 4 ≤ b ∧ L.getD a 0 = 38 ∧ L.getD (a + 1) 0 = 103 ∧ L.getD (a + 2) 0 = 116 ∧ L.getD (a + 3) 0 = 59) := by
  show (decide (a + 4 ≤ b) && (decide ((38 : Int32) = L.getD a 0) && (decide ((103 : Int32) = L.getD (a + 1) 0) && (decide ((116 : Int32) = L.getD (a + 1 + 1) 0) && (decide ((59 : Int32) = L.getD (a + 1 + 1 + 1) 0) && true))))) = true ↔ _
  simp only [Bool.and_eq_true, decide_eq_true_eq, and_true]
  exact ⟨fun h => ⟨h.1, h.2.1.symm, h.2.2.1.symm, h.2.2.2.1.symm, h.2.2.2.2.symm⟩, fun h => ⟨h.1, h.2.1.symm, h.2.2.1.symm, h.2.2.2.1.symm, h.2.2.2.2.symm⟩⟩
theorem st_am {a b : Nat} {L : BL} : stB L a b (wd9 2) = true ↔ (a + 5 ≤ b ∧ L.getD a 0 = 38 ∧ L.getD (a + 1) 0 = 97 ∧ L.getD (a + 2) 0 = 109 ∧ L.getD (a + 3) 0 = 112 ∧ L.getD (a + 4) 0 = 59) := by
  show (decide (a + 5 ≤ b) && (decide ((38 : Int32) = L.getD a 0) && (decide ((97 : Int32) = L.getD (a + 1) 0) && (decide ((109 : Int32) = L.getD (a + 1 + 1) 0) && (decide ((112 : Int32) = L.getD (a + 1 + 1 + 1) 0) && (decide ((59 : Int32) = L.getD (a + 1 + 1 + 1 + 1) 0) && true)))))) = true ↔ _
  simp only [Bool.and_eq_true, decide_eq_true_eq, and_true]
  exact ⟨fun h => ⟨h.1, h.2.1.symm, h.2.2.1.symm, h.2.2.2.1.symm, h.2.2.2.2.1.symm, h.2.2.2.2.2.symm⟩, fun h => ⟨h.1, h.2.1.symm, h.2.2.1.symm, h.2.2.2.1.symm, h.2.2.2.2.1.symm, h.2.2.2.2.2.symm⟩⟩
abbrev NO9 : Nat → Prop := fun _ => False
abbrev F55 : Nat → Prop := fun k => k = 55
def MO9 (σ : RS9) (m : Int32 × Nat) (y : Int32 × RS9) : Prop := ∃ σ', y = (nI m.2, σ') ∧ σ'.1 55 = m.1 ∧ FRX NO9 F55 σ σ'
theorem mo_ret {v : Int32} {m : Int32 × Nat} (h : v = m.1) : PQ (some (nI m.2, rSf σ 55 v)) (MO9 σ m) := pq_ret ⟨_, rfl, sf_eq.trans h, ⟨fun _ _ => rfl, fun k hk => sf_ne hk⟩⟩
theorem r_means {k : Int32} {q : Bool} {i b : Nat} (hL : RLs σ r L) (h6 : L.length ≤ 600) (hi : i < b) (hb : b ≤ L.length) (hk : k = 0 ∨ k = 1 ∨ k = 2 ∨ k = 3) : PQ (mX9_means k (bI q) r (nI i) (nI b) σ) (MO9 σ (mw k q L i b)) := by
  have hLi : rGa σ r (nI i) = L.getD i 0 := by rw [rd_nI (by omega)]; exact hL i (by omega)
  unfold mX9_means
  rw [hLi, nI_1]
  refine pq_ck ?_
  have fr0 : FRX NO9 F55 σ (rSf σ 55 (L.getD i 0)) := ⟨fun _ _ => rfl, fun k hk => sf_ne hk⟩
  refine pq_eq (fun q1 => ?_) (fun q1 => ?_)
  · have e : mw k q L i b = (L.getD i 0, if q = true ∧ L.getD i 0 = 34 ∧ i + 1 < b ∧ L.getD (i + 1) 0 = 34 then 2 else 1) := if_pos q1
    rw [e]
    have one : ¬ (q = true ∧ L.getD i 0 = 34 ∧ i + 1 < b ∧ L.getD (i + 1) 0 = 34) → PQ (mX9_means_b50 (rSf σ 55 (L.getD i 0))) (MO9 σ (L.getD i 0, if q = true ∧ L.getD i 0 = 34 ∧ i + 1 < b ∧ L.getD (i + 1) 0 = 34 then 2 else 1)) := fun h => by
      rw [if_neg h]
      exact pq_ret ⟨_, rfl, sf_eq, fr0⟩
    cases q with
    | false => exact pq_t rfl (one (fun h => by cases h.1))
    | true =>
      refine pq_f (show ¬ (1 : Int32) = 0 by decide) (pq_ck (pq_eq (fun q2 => ?_) (fun q2 => one (fun h => q2 h.2.1))))
      refine pq_le (nI_toInt (by omega)) (nI_toInt (by omega)) (fun q3 => one (fun h => by omega)) (fun q3 => pq_ck ?_)
      rw [rd_nI (by omega), hL _ (by omega)]
      refine pq_eq (fun q4 => ?_) (fun q4 => one (fun h => q4 h.2.2.2))
      rw [if_pos ⟨rfl, q2, by omega, q4⟩]
      exact pq_ret ⟨_, rfl, sf_eq, fr0⟩
  · refine pq_eq (fun q2 => ?_) (fun q2 => ?_)
    · have e : mw k q L i b = mkM L i b := by
        unfold mw
        rw [if_neg q1, if_pos q2]
      rw [e]
      have hL0 : RLs (rSf σ 55 (L.getD i 0)) r L := hL
      have b116 : ∀ (v : Int32) (σ1 : RS9), σ1.1 55 = v → FRX NO9 F55 σ σ1 → PQ (mX9_means_b116 r (nI i) σ1) (fun y => y = (if v = L.getD i 0 then 1 else 4, σ1)) := fun v σ1 hv hX => by
        unfold mX9_means_b116
        have hLi1 : rGa σ1 r (nI i) = L.getD i 0 := by
          rw [rd_nI (by omega), hX.1 r (fun q => q)]; exact hL i (by omega)
        rw [hLi1, hv]
        refine pq_ck (pq_eq (fun q3 => ?_) (fun q3 => ?_))
        · rw [if_pos q3]; exact pq_ret rfl
        · rw [if_neg q3]; exact pq_ret rfl
      refine pq_isr (r_stands (t := 0) hL0 h6 (by omega) hb (by omega)) ?_
      cases s0 : stB L i b (wd9 0) with
      | true =>
        obtain ⟨c1, c2, c3, c4, c5⟩ := st_lt.mp s0
        have em : mkM L i b = (60, 4) := by
          unfold mkM
          rw [if_pos c2, if_pos ⟨c1, c3, c4, c5⟩]
        rw [em]
        refine pq_f (show ¬ (1 : Int32) = 0 by decide) (pq_tail (b116 60 _ sf_eq ⟨fun _ _ => rfl, fun k hk => (sf_ne hk).trans (sf_ne hk)⟩) (fun y hy => ?_))
        rw [hy, if_neg (by rw [c2]; decide)]
        exact ⟨_, rfl, sf_eq, ⟨fun _ _ => rfl, fun k hk => (sf_ne hk).trans (sf_ne hk)⟩⟩
      | false =>
        have n0 : ¬ (i + 4 ≤ b ∧ L.getD i 0 = 38 ∧ L.getD (i + 1) 0 = 108 ∧ L.getD (i + 2) 0 = 116 ∧ L.getD (i + 3) 0 = 59) := fun h => by rw [st_lt.mpr h] at s0; cases s0
        refine pq_t rfl (pq_isr (r_stands (t := 1) hL0 h6 (by omega) hb (by omega)) ?_)
        cases s1 : stB L i b (wd9 1) with
        | true =>
          obtain ⟨c1, c2, c3, c4, c5⟩ := st_gt.mp s1
          have em : mkM L i b = (62, 4) := by
            unfold mkM
            rw [if_pos c2, if_neg (fun h => n0 ⟨h.1, c2, h.2⟩), if_pos ⟨c1, c3, c4, c5⟩]
          rw [em]
          refine pq_f (show ¬ (1 : Int32) = 0 by decide) (pq_tail (b116 62 _ sf_eq ⟨fun _ _ => rfl, fun k hk => (sf_ne hk).trans (sf_ne hk)⟩) (fun y hy => ?_))
          rw [hy, if_neg (by rw [c2]; decide)]
          exact ⟨_, rfl, sf_eq, ⟨fun _ _ => rfl, fun k hk => (sf_ne hk).trans (sf_ne hk)⟩⟩
        | false =>
          have n1 : ¬ (i + 4 ≤ b ∧ L.getD i 0 = 38 ∧ L.getD (i + 1) 0 = 103 ∧ L.getD (i + 2) 0 = 116 ∧ L.getD (i + 3) 0 = 59) := fun h => by rw [st_gt.mpr h] at s1; cases s1
          refine pq_t rfl (pq_isr (r_stands (t := 2) hL0 h6 (by omega) hb (by omega)) ?_)
          cases s2 : stB L i b (wd9 2) with
          | true =>
            obtain ⟨c1, c2, c3⟩ := st_am.mp s2
            have em : mkM L i b = (38, 5) := by
              unfold mkM
              rw [if_pos c2, if_neg (fun h => n0 ⟨h.1, c2, h.2⟩), if_neg (fun h => n1 ⟨h.1, c2, h.2⟩), if_pos ⟨c1, c3⟩]
            rw [em]
            exact pq_f (show ¬ (1 : Int32) = 0 by decide) (pq_ret ⟨_, rfl, sf_eq.trans c2, fr0⟩)
          | false =>
            have n2 : ¬ (i + 5 ≤ b ∧ L.getD i 0 = 38 ∧ L.getD (i + 1) 0 = 97 ∧ L.getD (i + 2) 0 = 109 ∧ L.getD (i + 3) 0 = 112 ∧ L.getD (i + 4) 0 = 59) := fun h => by rw [st_am.mpr h] at s2; cases s2
            have em : mkM L i b = (L.getD i 0, 1) := by
              unfold mkM
              by_cases c2 : L.getD i 0 = 38
              · rw [if_pos c2, if_neg (fun h => n0 ⟨h.1, c2, h.2⟩), if_neg (fun h => n1 ⟨h.1, c2, h.2⟩), if_neg (fun h => n2 ⟨h.1, c2, h.2⟩), c2]
              · rw [if_neg c2]
            rw [em]
            refine pq_t rfl (pq_tail (b116 (L.getD i 0) _ sf_eq fr0) (fun y hy => ?_))
            rw [hy, if_pos rfl]
            exact ⟨_, rfl, sf_eq, fr0⟩
    · have e : mw k q L i b = if L.getD i 0 = 92 ∧ i + 1 < b then bkM k (L.getD (i + 1) 0) else (L.getD i 0, 1) := by
        unfold mw
        rw [if_neg q1, if_neg q2]
      rw [e]
      have one : ¬ (L.getD i 0 = 92 ∧ i + 1 < b) → PQ (mX9_means_b165 (rSf σ 55 (L.getD i 0))) (MO9 σ (if L.getD i 0 = 92 ∧ i + 1 < b then bkM k (L.getD (i + 1) 0) else (L.getD i 0, 1))) := fun h => by
        rw [if_neg h]
        unfold mX9_means_b165 mX9_means_b166
        exact pq_t rfl (pq_ret ⟨_, rfl, sf_eq, fr0⟩)
      refine pq_ck (pq_eq (fun q3 => ?_) (fun q3 => one (fun h => q3 h.1)))
      refine pq_le (nI_toInt (by omega)) (nI_toInt (by omega)) (fun q4 => one (fun h => by omega)) (fun q4 => pq_ck ?_)
      rw [rd_nI (by omega), hL _ (by omega), if_pos ⟨q3, by omega⟩]
      have two : ∀ v : Int32, bkM k (L.getD (i + 1) 0) = (v, 2) → v ≠ -1 → PQ (mX9_means_b166 v (rSf σ 55 (L.getD i 0))) (MO9 σ (bkM k (L.getD (i + 1) 0))) := fun v hv h1 => by
        rw [hv]
        exact pq_f h1 (pq_ret ⟨_, rfl, sf_eq, ⟨fun _ _ => rfl, fun k hk => (sf_ne hk).trans (sf_ne hk)⟩⟩)
      have one2 : bkM k (L.getD (i + 1) 0) = (92, 1) → PQ (mX9_means_b166 (-1) (rSf σ 55 (L.getD i 0))) (MO9 σ (bkM k (L.getD (i + 1) 0))) := fun hv => by
        rw [hv]
        exact pq_t rfl (pq_ret ⟨_, rfl, sf_eq.trans q3, fr0⟩)
      refine pq_call (Q1 := fun y => ∃ v, y = (v, rSf σ 55 (L.getD i 0)) ∧ ((bkM k (L.getD (i + 1) 0) = (v, 2) ∧ v ≠ -1) ∨ (v = -1 ∧ bkM k (L.getD (i + 1) 0) = (92, 1)))) ?_ (fun y hy => ?_)
      · generalize L.getD (i + 1) 0 = c
        unfold mX9_backMeaning
        refine pq_eq (fun c1 => pq_ret ⟨10, rfl, Or.inl ⟨if_pos c1, by decide⟩⟩) (fun c1 => ?_)
        refine pq_eq (fun c2 => pq_ret ⟨9, rfl, Or.inl ⟨(if_neg c1).trans (if_pos c2), by decide⟩⟩) (fun c2 => ?_)
        refine pq_eq (fun c3 => pq_ret ⟨92, rfl, Or.inl ⟨(if_neg c1).trans ((if_neg c2).trans (if_pos c3)), by decide⟩⟩) (fun c3 => ?_)
        have b40 : ¬ (c = 32 ∧ k = 0) → PQ (mX9_backMeaning_b40 k c (rSf σ 55 (L.getD i 0))) (fun y => ∃ v, y = (v, rSf σ 55 (L.getD i 0)) ∧ ((bkM k c = (v, 2) ∧ v ≠ -1) ∨ (v = -1 ∧ bkM k c = (92, 1)))) := fun c4 => by
          have e3 : bkM k c = if c = 34 ∧ k = 3 then (34, 2) else (92, 1) := (if_neg c1).trans ((if_neg c2).trans ((if_neg c3).trans (if_neg c4)))
          unfold mX9_backMeaning_b40
          refine pq_eq (fun c5 => pq_eq (fun c6 => pq_ret ⟨34, rfl, Or.inl ⟨e3.trans (if_pos ⟨c5, c6⟩), by decide⟩⟩) (fun c6 => pq_ret ⟨-1, rfl, Or.inr ⟨rfl, e3.trans (if_neg (fun h => c6 h.2))⟩⟩)) (fun c5 => pq_ret ⟨-1, rfl, Or.inr ⟨rfl, e3.trans (if_neg (fun h => c5 h.1))⟩⟩)
        refine pq_eq (fun c4 => pq_eq (fun c5 => pq_ret ⟨32, rfl, Or.inl ⟨(if_neg c1).trans ((if_neg c2).trans ((if_neg c3).trans (if_pos ⟨c4, c5⟩))), by decide⟩⟩) (fun c5 => b40 (fun h => c5 h.2))) (fun c4 => b40 (fun h => c4 h.1))
      · obtain ⟨v, rfl, h | h⟩ := hy
        · exact two v h.1 h.2
        · rw [h.1]; exact one2 h.2
end RUN
