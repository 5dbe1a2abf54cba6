theorem t2_cuts {v1 : Int32} {r of ti wh : Nat} {v3 : Int32} {σ τ : RS9} (hR : RW r of ti wh) (hN : 0 ≤ v3.toInt ∧ v3.toInt ≤ 600) (hag : ∀ i : Nat, (i : Int) < v3.toInt → τ.2 r i = σ.2 r i) : P2 (mX9_cuts v1 r v3 of ti wh σ) (mX9_cuts v1 r v3 of ti wh τ) (fun v σ' v' τ' => ∃ c kx : Nat, v = nI c ∧ v' = nI c ∧ (c : Int) ≤ v3.toInt ∧ (v1 = 0 → kx = c) ∧ CU r v3.toInt of ti wh σ τ 602 c kx σ' τ') := by
  have hC : CU r v3.toInt of ti wh σ τ 0 0 0 (rSf σ 54 0) (rSf τ 54 0) := ⟨hag, ⟨fun _ _ _ _ _ => rfl, fun k e => sf_ne e⟩, ⟨fun _ _ _ _ _ => rfl, fun k e => sf_ne e⟩, sf_eq, sf_eq, by omega, fun i hi => absurd hi (by omega), fun _ i hi => absurd hi (by omega)⟩
  have fin : ∀ (c kx : Nat) (σ' τ' : RS9), CU r v3.toInt of ti wh σ τ 602 c kx σ' τ' → (v1 = 0 → kx = c) → P2 (mX9_cuts_b76 σ') (mX9_cuts_b76 τ') (fun v σ' v' τ' => ∃ c kx : Nat, v = nI c ∧ v' = nI c ∧ (c : Int) ≤ v3.toInt ∧ (v1 = 0 → kx = c) ∧ CU r v3.toInt of ti wh σ τ 602 c kx σ' τ') := fun c kx σ' τ' h hk => by
    unfold mX9_cuts_b76
    exact p2_ret ⟨c, kx, h.2.2.2.1, h.2.2.2.2.1, cu_c h hN.1, hk, h⟩
  unfold mX9_cuts
  refine p2_eq rfl rfl (fun q => ?_) (fun q => ?_)
  · exact p2_call (t2_cutsLines hR hN hC) (fun v s v' t ⟨c, h⟩ => fin c c s t h (fun _ => rfl))
  · refine p2_eq rfl rfl (fun q2 => ?_) (fun q2 => ?_)
    · exact p2_call (t2_cutsTable hR hN hC) (fun v s v' t ⟨c, h⟩ => fin c 0 s t h (fun e => absurd e q))
    · refine p2_eq rfl rfl (fun q3 => ?_) (fun q3 => ?_)
      · exact p2_call (t2_cutsMarkup hR hN hC) (fun v s v' t ⟨c, h⟩ => fin c 0 s t h (fun e => absurd e q))
      · exact p2_call (t2_cutsQuotes hR hN hC) (fun v s v' t ⟨c, h⟩ => fin c 0 s t h (fun e => absurd e q))
/-! what bytes mean -/
theorem st9_b {t : Nat} (h : t < 15) : 0 ≤ (strL t).toInt ∧ (strL t).toInt ≤ 20 := by
  have h0 : ∀ k : Fin 15, 0 ≤ (strL (k : Nat)).toInt ∧ (strL (k : Nat)).toInt ≤ 20 := by decide +kernel
  exact h0 ⟨t, h⟩
theorem st9_n {t : Nat} (h : t < 15) : (strL t).toInt = (sL9.getD t 0 : Nat) := nI_toInt (sL9_b h)
theorem in_st9 {t : Nat} {x : Int32} (h : t < 15) (hx : 0 ≤ x.toInt ∧ x.toInt < (strL t).toInt) : rIn x (sL9.getD t 0) = true := in_of hx.1 (by rw [← st9_n h]; exact hx.2)
theorem t2_stands_l15 {r t : Nat} {a b : Int32} {σ τ : RS9} (hr : rLen r = 600) (ht : t < 15) (hab : 0 ≤ a.toInt ∧ a.toInt + (strL t).toInt ≤ b.toInt ∧ b.toInt ≤ 600) (hrd : ∀ x : Int32, 0 ≤ x.toInt ∧ x.toInt < b.toInt → rGa τ r x = rGa σ r x) : ∀ (d : Nat) (v4 : Int32), (0 ≤ v4.toInt ∧ v4.toInt ≤ 100) → 200 - v4.toInt < (d : Int) → P2 (mX9_stands_l15 d r a t v4 σ) (mX9_stands_l15 d r a t v4 τ) (fun v σ' v' τ' => σ' = σ ∧ τ' = τ ∧ v' = v ∧ True) := by
  have hst := st9_b ht
  intro d
  induction d with
  | zero => intro v4 h hm; exfalso; omega
  | succ d ih =>
    intro v4 h hm
    unfold mX9_stands_l15
    refine p2_le rfl rfl rfl rfl (fun q => ?_) (fun q => ?_)
    · exact p2_ck rfl rfl (p2_ret ⟨rfl, rfl, rfl, trivial⟩)
    · have e : (a + v4).toInt = a.toInt + v4.toInt := i_add rfl rfl (by omega)
      refine p2_ck (by rw [hr]; exact in_of (by omega) (by omega)) (by rw [hr]; exact in_of (by omega) (by omega)) ?_
      refine p2_ck (in_st9 ht (by omega)) (in_st9 ht (by omega)) ?_
      refine p2_eq (hrd _ (by omega)) rfl (fun q1 => ?_) (fun q1 => ?_)
      · have e4 : (v4 + (1 : Int32)).toInt = v4.toInt + 1 := i_add rfl kt_1 (by omega)
        exact ih (v4 + (1 : Int32)) (by omega) (by omega)
      · exact p2_ck rfl rfl (p2_ret ⟨rfl, rfl, rfl, trivial⟩)
theorem t2_stands {r t : Nat} {a b : Int32} {σ τ : RS9} (hr : rLen r = 600) (ht : t < 15) (hab : 0 ≤ a.toInt ∧ a.toInt ≤ b.toInt ∧ b.toInt ≤ 600) (hrd : ∀ x : Int32, 0 ≤ x.toInt ∧ x.toInt < b.toInt → rGa τ r x = rGa σ r x) : P2 (mX9_stands r a b t σ) (mX9_stands r a b t τ) (fun v σ' v' τ' => σ' = σ ∧ τ' = τ ∧ v' = v ∧ (v ≠ 0 → a.toInt + (strL t).toInt ≤ b.toInt)) := by
  have hst := st9_b ht
  have e : (b - a).toInt = b.toInt - a.toInt := i_sub rfl rfl (by omega)
  unfold mX9_stands
  refine p2_le rfl e rfl rfl (fun q => ?_) (fun q => ?_)
  · exact p2_tail (t2_stands_l15 hr ht (by omega) hrd rFU 0 (by decide) (by unfold rFU; rw [kt_0]; omega)) (fun v s v' t q2 => ⟨q2.1, q2.2.1, q2.2.2.1, fun _ => by omega⟩)
  · exact p2_ck rfl rfl (p2_ret ⟨rfl, rfl, rfl, fun h => absurd rfl h⟩)
theorem t2_backMeaning {v1 v2 v2' : Int32} {σ τ : RS9} (h : v2' = v2) : P2 (mX9_backMeaning v1 v2 σ) (mX9_backMeaning v1 v2' τ) (fun v σ' v' τ' => σ' = σ ∧ τ' = τ ∧ v' = v ∧ True) := by
  subst h
  have b56 : P2 (mX9_backMeaning_b56 σ) (mX9_backMeaning_b56 τ) (fun v σ' v' τ' => σ' = σ ∧ τ' = τ ∧ v' = v ∧ True) := p2_ret ⟨rfl, rfl, rfl, trivial⟩
  have b40 : P2 (mX9_backMeaning_b40 v1 v2' σ) (mX9_backMeaning_b40 v1 v2' τ) (fun v σ' v' τ' => σ' = σ ∧ τ' = τ ∧ v' = v ∧ True) := by
    unfold mX9_backMeaning_b40
    refine p2_eq rfl rfl (fun q => ?_) (fun q => b56)
    refine p2_eq rfl rfl (fun q => ?_) (fun q => b56)
    exact p2_ret ⟨rfl, rfl, rfl, trivial⟩
  unfold mX9_backMeaning
  refine p2_eq rfl rfl (fun q => p2_ret ⟨rfl, rfl, rfl, trivial⟩) (fun q => ?_)
  refine p2_eq rfl rfl (fun q => p2_ret ⟨rfl, rfl, rfl, trivial⟩) (fun q => ?_)
  refine p2_eq rfl rfl (fun q => p2_ret ⟨rfl, rfl, rfl, trivial⟩) (fun q => ?_)
  refine p2_eq rfl rfl (fun q => ?_) (fun q => b40)
  exact p2_eq rfl rfl (fun q => p2_ret ⟨rfl, rfl, rfl, trivial⟩) (fun q => b40)
def M55 (σ τ σ' τ' : RS9) : Prop := σ'.2 = σ.2 ∧ τ'.2 = τ.2 ∧ (∀ k, k ≠ 55 → σ'.1 k = σ.1 k) ∧ (∀ k, k ≠ 55 → τ'.1 k = τ.1 k) ∧ τ'.1 55 = σ'.1 55
theorem m55 {σ τ : RS9} {x y : Int32} (h : y = x) : M55 σ τ (rSf σ 55 x) (rSf τ 55 y) := ⟨rfl, rfl, fun _ e => sf_ne e, fun _ e => sf_ne e, by rw [sf_eq, sf_eq]; exact h⟩
theorem m55b {σ τ σ' τ' : RS9} {x y : Int32} (h : M55 σ τ σ' τ') (hx : y = x) : M55 σ τ (rSf σ' 55 x) (rSf τ' 55 y) := ⟨h.1, h.2.1, fun k e => (sf_ne e).trans (h.2.2.1 k e), fun k e => (sf_ne e).trans (h.2.2.2.1 k e), by rw [sf_eq, sf_eq]; exact hx⟩
set_option maxHeartbeats 1000000 in
theorem t2_means {v1 v2 : Int32} {r a b : Nat} {σ τ : RS9} (hr : rLen r = 600) (hab : a < b ∧ b ≤ 600) (hrd : ∀ x : Int32, 0 ≤ x.toInt ∧ x.toInt < (b : Int) → rGa τ r x = rGa σ r x) : P2 (mX9_means v1 v2 r (nI a) (nI b) σ) (mX9_means v1 v2 r (nI a) (nI b) τ) (fun v σ' v' τ' => M55 σ τ σ' τ' ∧ ∃ m : Nat, v = nI m ∧ v' = nI m ∧ 1 ≤ m ∧ m ≤ 5 ∧ a + m ≤ b) := by
  have ea : (nI a).toInt = (a : Int) := nI_toInt (by omega)
  have eb : (nI b).toInt = (b : Int) := nI_toInt (by omega)
  have e1 : (nI a + (1 : Int32)).toInt = (a : Int) + 1 := i_add ea kt_1 (by omega)
  have h0 : rGa τ r (nI a) = rGa σ r (nI a) := hrd _ (by omega)
  have hck : ∀ x : Int32, 0 ≤ x.toInt ∧ x.toInt < (b : Int) → rIn x (rLen r) = true := fun x hx => by rw [hr]; exact in_of hx.1 (by omega)
  have hM : M55 σ τ (rSf σ 55 (rGa σ r (nI a))) (rSf τ 55 (rGa τ r (nI a))) := m55 h0
  have one : ∀ (s t : RS9), M55 σ τ s t → P2 (some ((1 : Int32), s)) (some ((1 : Int32), t)) (fun v σ' v' τ' => M55 σ τ σ' τ' ∧ ∃ m : Nat, v = nI m ∧ v' = nI m ∧ 1 ≤ m ∧ m ≤ 5 ∧ a + m ≤ b) := fun s t h => p2_ret ⟨h, 1, rfl, rfl, by omega, by omega, by omega⟩
  unfold mX9_means
  refine p2_ck (hck _ (by omega)) (hck _ (by omega)) ?_
  refine p2_eq rfl rfl (fun q => ?_) (fun q => ?_)
  · refine p2_eq rfl rfl (fun q2 => one _ _ hM) (fun q2 => ?_)
    refine p2_ck (hck _ (by omega)) (hck _ (by omega)) ?_
    refine p2_eq h0 rfl (fun q3 => ?_) (fun q3 => one _ _ hM)
    refine p2_le eb e1 rfl rfl (fun q4 => one _ _ hM) (fun q4 => ?_)
    refine p2_ck (hck _ (by omega)) (hck _ (by omega)) ?_
    refine p2_eq (hrd _ (by omega)) rfl (fun q5 => ?_) (fun q5 => one _ _ hM)
    exact p2_ret ⟨hM, 2, rfl, rfl, by omega, by omega, by omega⟩
  · refine p2_eq rfl rfl (fun q2 => ?_) (fun q2 => ?_)
    · have b116 : ∀ s t : RS9, M55 σ τ s t → (s.1 55 ≠ rGa σ r (nI a) → a + 4 ≤ b) → P2 (mX9_means_b116 r (nI a) s) (mX9_means_b116 r (nI a) t) (fun v σ' v' τ' => M55 σ τ σ' τ' ∧ ∃ m : Nat, v = nI m ∧ v' = nI m ∧ 1 ≤ m ∧ m ≤ 5 ∧ a + m ≤ b) := fun s t h h4 => by
        have rs : rGa s r (nI a) = rGa σ r (nI a) := by unfold rGa; rw [h.1]
        have rt : rGa t r (nI a) = rGa s r (nI a) := by
          rw [rs, ← h0]; unfold rGa; rw [h.2.1]
        unfold mX9_means_b116
        refine p2_ck (hck _ (by omega)) (hck _ (by omega)) ?_
        refine p2_eq h.2.2.2.2 rt (fun q3 => one _ _ h) (fun q3 => ?_)
        rw [rs] at q3
        exact p2_ret ⟨h, 4, rfl, rfl, by omega, by omega, h4 q3⟩
      have l0 : (strL 0).toInt = 4 := by decide +kernel
      have l1 : (strL 1).toInt = 4 := by decide +kernel
      have l2 : (strL 2).toInt = 5 := by decide +kernel
      refine p2_ro (t2_stands hr (by decide) (by omega) (fun x hx => hrd x (by omega))) (fun y hy => ?_)
      dsimp only
      refine p2_eq rfl rfl (fun q3 => ?_) (fun q3 => ?_)
      · refine p2_ro (t2_stands hr (by decide) (by omega) (fun x hx => hrd x (by omega))) (fun y2 hy2 => ?_)
        dsimp only
        refine p2_eq rfl rfl (fun q4 => ?_) (fun q4 => ?_)
        · refine p2_ro (t2_stands hr (by decide) (by omega) (fun x hx => hrd x (by omega))) (fun y3 hy3 => ?_)
          dsimp only
          refine p2_eq rfl rfl (fun q5 => ?_) (fun q5 => ?_)
          · exact b116 _ _ hM (fun h => absurd sf_eq h)
          · have := hy3 q5
            exact p2_ret ⟨hM, 5, rfl, rfl, by omega, by omega, by omega⟩
        · have := hy2 q4
          exact b116 _ _ (m55b hM rfl) (fun _ => by omega)
      · have := hy q3
        exact b116 _ _ (m55b hM rfl) (fun _ => by omega)
    · have b166 : ∀ (x : Int32) (s t : RS9), M55 σ τ s t → (a + 2 ≤ b ∨ x = -1) → P2 (mX9_means_b166 x s) (mX9_means_b166 x t) (fun v σ' v' τ' => M55 σ τ σ' τ' ∧ ∃ m : Nat, v = nI m ∧ v' = nI m ∧ 1 ≤ m ∧ m ≤ 5 ∧ a + m ≤ b) := fun x s t h h2 => by
        unfold mX9_means_b166
        refine p2_eq rfl rfl (fun q3 => one _ _ h) (fun q3 => ?_)
        exact p2_ret ⟨m55b h rfl, 2, rfl, rfl, by omega, by omega, h2.elim id (fun e => absurd e q3)⟩
      refine p2_ck (hck _ (by omega)) (hck _ (by omega)) ?_
      refine p2_eq h0 rfl (fun q3 => ?_) (fun q3 => ?_)
      · refine p2_le eb e1 rfl rfl (fun q4 => ?_) (fun q4 => ?_)
        · unfold mX9_means_b165
          exact b166 _ _ _ hM (Or.inr rfl)
        · refine p2_ck (hck _ (by omega)) (hck _ (by omega)) ?_
          refine p2_ro (t2_backMeaning (hrd _ (by omega))) (fun y hy => ?_)
          dsimp only
          exact b166 _ _ _ hM (Or.inl (by omega))
      · unfold mX9_means_b165
        exact b166 _ _ _ hM (Or.inr rfl)
