theorem dec1 {v : Int32} (h : 0 < v.toInt) (h2 : v.toInt ≤ 2000) : (v + (-1 : Int32)).toInt = v.toInt - 1 := i_add rfl kt_m1 (by omega)
theorem t2_endOf_l3 {r : Nat} {σ τ : RS9} (hr : rLen r = 600) : ∀ (d : Nat) (v1 v3 v4 v5 : Int32), (0 ≤ v5.toInt ∧ v5.toInt ≤ 700) → (0 ≤ v1.toInt ∧ v1.toInt ≤ 600) → (∀ x : Int32, 0 ≤ x.toInt ∧ x.toInt < v1.toInt → rGa τ r x = rGa σ r x) → v1.toInt - v5.toInt + 1000 < (d : Int) → P2 (mX9_endOf_l3 d r v1 v3 v4 v5 σ) (mX9_endOf_l3 d r v1 v3 v4 v5 τ) (fun v σ' v' τ' => σ' = σ ∧ τ' = τ ∧ v' = v ∧ (v5.toInt ≤ v.toInt ∧ v.toInt ≤ 700 ∧ (v5.toInt ≤ v1.toInt → v.toInt ≤ v1.toInt))) := by
  intro d
  induction d with
  | zero => intro v1 v3 v4 v5 h1 h2 hrd hm; exfalso; omega
  | succ d ih =>
    intro v1 v3 v4 v5 h1 h2 hrd hm
    unfold mX9_endOf_l3
    refine p2_le rfl rfl rfl rfl (fun q => ?_) (fun q => ?_)
    · exact p2_ret ⟨rfl, rfl, rfl, by omega⟩
    · refine p2_ck (by rw [hr]; exact in_of (by omega) (by omega)) (by rw [hr]; exact in_of (by omega) (by omega)) ?_
      refine p2_eq (hrd v5 (by omega)) rfl (fun q1 => ?_) (fun q1 => ?_)
      · exact p2_ret ⟨rfl, rfl, rfl, by omega⟩
      · refine p2_ck (by rw [hr]; exact in_of (by omega) (by omega)) (by rw [hr]; exact in_of (by omega) (by omega)) ?_
        refine p2_eq (hrd v5 (by omega)) rfl (fun q1 => ?_) (fun q1 => ?_)
        · exact p2_ret ⟨rfl, rfl, rfl, by omega⟩
        · have e1 : (v5 + (1 : Int32)).toInt = v5.toInt + 1 := i_add rfl kt_1 (by omega)
          exact p2_tail (ih v1 v3 v4 (v5 + (1 : Int32)) (by omega) h2 hrd (by omega)) (fun v s v' t q => ⟨q.1, q.2.1, q.2.2.1, by have := q.2.2.2; omega⟩)
theorem t2_endOf {r : Nat} {σ τ : RS9} {v1 v2 v3 v4 : Int32} (hr : rLen r = 600) (h1 : 0 ≤ v2.toInt ∧ v2.toInt ≤ 700) (h2 : 0 ≤ v1.toInt ∧ v1.toInt ≤ 600) (hrd : ∀ x : Int32, 0 ≤ x.toInt ∧ x.toInt < v1.toInt → rGa τ r x = rGa σ r x) : P2 (mX9_endOf r v1 v2 v3 v4 σ) (mX9_endOf r v1 v2 v3 v4 τ) (fun v σ' v' τ' => σ' = σ ∧ τ' = τ ∧ v' = v ∧ (v2.toInt ≤ v.toInt ∧ v.toInt ≤ 700 ∧ (v2.toInt ≤ v1.toInt → v.toInt ≤ v1.toInt))) := by
  unfold mX9_endOf
  exact t2_endOf_l3 hr rFU v1 v3 v4 v2 h1 h2 hrd (by unfold rFU; omega)
theorem t2_isBare {x x' : Int32} {σ τ : RS9} (hx : x' = x) : P2 (mX9_isBare x σ) (mX9_isBare x' τ) (fun v σ' v' τ' => σ' = σ ∧ τ' = τ ∧ v' = v ∧ True) := by
  subst hx
  unfold mX9_isBare
  refine p2_eq rfl rfl (fun q => ?_) (fun q => ?_)
  · exact p2_ck rfl rfl (p2_ret ⟨rfl, rfl, rfl, trivial⟩)
  · refine p2_eq rfl rfl (fun q => ?_) (fun q => ?_)
    · exact p2_ck rfl rfl (p2_ret ⟨rfl, rfl, rfl, trivial⟩)
    · exact p2_ck rfl rfl (p2_ret ⟨rfl, rfl, rfl, trivial⟩)
set_option maxHeartbeats 1000000 in
theorem t2_cutsTable_l37 {v1 v3 v4 v5 : Nat} {v2 : Int32} {σ0 τ0 : RS9} (hR : RW v1 v3 v4 v5) (hN : 0 ≤ v2.toInt ∧ v2.toInt ≤ 600) {D : Nat} {rec3 : Nat → Int32 → Nat → Nat → Nat → Int32 → RS9 → Option (Int32 × RS9)} (Hr : ∀ (v6 : Int32) (σ τ : RS9) (c : Nat), CU v1 v2.toInt v3 v4 v5 σ0 τ0 v6.toInt c 0 σ τ → (0 ≤ v6.toInt ∧ v6.toInt ≤ 601) → 1000 - v6.toInt < (D : Int) → P2 (rec3 v1 v2 v3 v4 v5 v6 σ) (rec3 v1 v2 v3 v4 v5 v6 τ) (fun v σ' v' τ' => ∃ c, CU v1 v2.toInt v3 v4 v5 σ0 τ0 602 c 0 σ' τ')) : ∀ (d : Nat) (v6 v8 : Int32) (σ τ : RS9) (c : Nat), CU v1 v2.toInt v3 v4 v5 σ0 τ0 v6.toInt c 0 σ τ → (0 ≤ v6.toInt ∧ v6.toInt < v2.toInt) → (v6.toInt < v8.toInt ∧ v8.toInt ≤ v2.toInt) → 1000 - v6.toInt < (D : Int) + 1 → 1000 - v8.toInt < (d : Int) → P2 (mX9_cutsTable_l37 rec3 d v1 v2 v3 v4 v5 v6 v8 σ) (mX9_cutsTable_l37 rec3 d v1 v2 v3 v4 v5 v6 v8 τ) (fun v σ' v' τ' => ∃ c, CU v1 v2.toInt v3 v4 v5 σ0 τ0 602 c 0 σ' τ') := by
  intro d
  induction d with
  | zero => intro v6 v8 σ τ c hC h1 h2 hD hm; exfalso; omega
  | succ d ih =>
    intro v6 v8 σ τ c hC h1 h2 hD hm
    have e6 : (v6 + (1 : Int32)).toInt = v6.toInt + 1 := i_add rfl kt_1 (by omega)
    have e8 : (v8 + (1 : Int32)).toInt = v8.toInt + 1 := i_add rfl kt_1 (by omega)
    have e82 : (v8 + (2 : Int32)).toInt = v8.toInt + 2 := i_add rfl kt_2 (by omega)
    have e2 : (v2 + (1 : Int32)).toInt = v2.toInt + 1 := i_add rfl kt_1 (by omega)
    have hb : P2 (mX9_cutsTable_b93 rec3 v1 v2 v3 v4 v5 v6 v8 σ) (mX9_cutsTable_b93 rec3 v1 v2 v3 v4 v5 v6 v8 τ) (fun v σ' v' τ' => ∃ c, CU v1 v2.toInt v3 v4 v5 σ0 τ0 602 c 0 σ' τ') := by
      unfold mX9_cutsTable_b93
      refine p2_call (cu_finds hR hN.2 hC v8.toInt (by omega) (by omega) (by omega) (by omega) (Nat.zero_le _)) (fun v σ v' τ ⟨c2, hc', hC2⟩ => ?_)
      dsimp only
      refine p2_le rfl rfl rfl rfl (fun q => ?_) (fun q => ?_)
      · exact Hr (v2 + (1 : Int32)) σ τ c2 (cu_mono hC2 (by omega)) (by omega) (by omega)
      · refine p2_ro (t2_endOf hR.1 (by omega) hN (fun x hx => cu_rd hC2 (by omega))) (fun y hy => ?_)
        dsimp only
        have ey : (y + (1 : Int32)).toInt = y.toInt + 1 := i_add rfl kt_1 (by omega)
        exact Hr (y + (1 : Int32)) σ τ c2 (cu_mono hC2 (by omega)) (by omega) (by omega)
    unfold mX9_cutsTable_l37
    refine p2_le rfl rfl rfl rfl (fun q => hb) (fun q => ?_)
    refine p2_ck (by rw [hR.1]; exact in_of (by omega) (by omega)) (by rw [hR.1]; exact in_of (by omega) (by omega)) ?_
    refine p2_eq (cu_rd hC (by omega)) rfl (fun q1 => ?_) (fun q1 => ?_)
    · refine p2_le rfl e8 rfl rfl (fun q2 => hb) (fun q2 => ?_)
      refine p2_ck (by rw [hR.1]; exact in_of (by omega) (by omega)) (by rw [hR.1]; exact in_of (by omega) (by omega)) ?_
      refine p2_eq (cu_rd hC (by omega)) rfl (fun q3 => ?_) (fun q3 => hb)
      unfold mX9_cutsTable_b71
      refine p2_ck (by rw [hR.1]; exact in_of (by omega) (by omega)) (by rw [hR.1]; exact in_of (by omega) (by omega)) ?_
      refine p2_eq (cu_rd hC (by omega)) rfl (fun q4 => ?_) (fun q4 => absurd q1 q4)
      exact ih v6 (v8 + (2 : Int32)) σ τ c hC h1 (by omega) hD (by omega)
    · unfold mX9_cutsTable_b71
      refine p2_ck (by rw [hR.1]; exact in_of (by omega) (by omega)) (by rw [hR.1]; exact in_of (by omega) (by omega)) ?_
      refine p2_eq (cu_rd hC (by omega)) rfl (fun q4 => absurd q4 q1) (fun q4 => ?_)
      exact ih v6 (v8 + (1 : Int32)) σ τ c hC h1 (by omega) hD (by omega)
set_option maxHeartbeats 1000000 in
theorem t2_cutsTable_l3 {v1 v3 v4 v5 : Nat} {v2 : Int32} {σ0 τ0 : RS9} (hR : RW v1 v3 v4 v5) (hN : 0 ≤ v2.toInt ∧ v2.toInt ≤ 600) : ∀ (d : Nat) (v6 : Int32) (σ τ : RS9) (c : Nat), CU v1 v2.toInt v3 v4 v5 σ0 τ0 v6.toInt c 0 σ τ → (0 ≤ v6.toInt ∧ v6.toInt ≤ 601) → 1000 - v6.toInt < (d : Int) → P2 (mX9_cutsTable_l3 d v1 v2 v3 v4 v5 v6 σ) (mX9_cutsTable_l3 d v1 v2 v3 v4 v5 v6 τ) (fun v σ' v' τ' => ∃ c, CU v1 v2.toInt v3 v4 v5 σ0 τ0 602 c 0 σ' τ') := by
  intro d
  induction d with
  | zero => intro v6 σ τ c hC h1 hm; exfalso; omega
  | succ d ih =>
    intro v6 σ τ c hC h1 hm
    unfold mX9_cutsTable_l3
    refine p2_le rfl rfl rfl rfl (fun q => ?_) (fun q => ?_)
    · exact p2_ret ⟨c, cu_mono hC (by omega)⟩
    · refine p2_ro (t2_endOf hR.1 (by omega) hN (fun x hx => cu_rd hC (by omega))) (fun y hy => ?_)
      dsimp only
      have ey : (y + (1 : Int32)).toInt = y.toInt + 1 := i_add rfl kt_1 (by omega)
      have e6 : (v6 + (1 : Int32)).toInt = v6.toInt + 1 := i_add rfl kt_1 (by omega)
      refine p2_ck (by rw [hR.1]; exact in_of (by omega) (by omega)) (by rw [hR.1]; exact in_of (by omega) (by omega)) ?_
      refine p2_eq (cu_rd hC (by omega)) rfl (fun q1 => ?_) (fun q1 => ?_)
      · exact t2_cutsTable_l37 hR hN (D := d) ih rFU v6 (v6 + (1 : Int32)) σ τ c hC (by omega) (by omega) (by omega) (by unfold rFU; omega)
      · refine p2_call (cu_finds hR hN.2 hC y.toInt (by omega) (by omega) (by omega) (by omega) (Nat.zero_le _)) (fun v σ v' τ ⟨c2, hc', hC2⟩ => ?_)
        dsimp only
        exact ih (y + (1 : Int32)) σ τ c2 (cu_mono hC2 (by omega)) (by omega) (by omega)
theorem t2_cutsTable {v1 v3 v4 v5 : Nat} {v2 : Int32} {σ0 τ0 : RS9} (hR : RW v1 v3 v4 v5) (hN : 0 ≤ v2.toInt ∧ v2.toInt ≤ 600) {σ τ : RS9} (hC : CU v1 v2.toInt v3 v4 v5 σ0 τ0 0 0 0 σ τ) : P2 (mX9_cutsTable v1 v2 v3 v4 v5 σ) (mX9_cutsTable v1 v2 v3 v4 v5 τ) (fun v σ' v' τ' => ∃ c, CU v1 v2.toInt v3 v4 v5 σ0 τ0 602 c 0 σ' τ') := by
  unfold mX9_cutsTable
  exact t2_cutsTable_l3 hR hN rFU 0 σ τ 0 hC (by decide) (by unfold rFU; rw [kt_0]; omega)
set_option maxHeartbeats 1000000 in
theorem t2_cutsMarkup_l53 {v1 v3 v4 v5 : Nat} {v2 : Int32} {σ0 τ0 : RS9} (hR : RW v1 v3 v4 v5) (hN : 0 ≤ v2.toInt ∧ v2.toInt ≤ 600) {D : Nat} {rec3 : Nat → Int32 → Nat → Nat → Nat → Int32 → RS9 → Option (Int32 × RS9)} (Hr : ∀ (v6 : Int32) (σ τ : RS9) (c : Nat), CU v1 v2.toInt v3 v4 v5 σ0 τ0 v6.toInt c 0 σ τ → (0 ≤ v6.toInt ∧ v6.toInt ≤ 601) → 1000 - v6.toInt < (D : Int) → P2 (rec3 v1 v2 v3 v4 v5 v6 σ) (rec3 v1 v2 v3 v4 v5 v6 τ) (fun v σ' v' τ' => ∃ c, CU v1 v2.toInt v3 v4 v5 σ0 τ0 602 c 0 σ' τ')) : ∀ (d : Nat) (v7 v8 v9 : Int32) (σ τ : RS9) (c : Nat) (a : Int), CU v1 v2.toInt v3 v4 v5 σ0 τ0 a c 0 σ τ → (0 ≤ a ∧ a ≤ v8.toInt ∧ v8.toInt ≤ v9.toInt ∧ v9.toInt ≤ v7.toInt) → (v7.toInt ≤ v2.toInt ∧ 999 - v7.toInt < (D : Int)) → v9.toInt < (d : Int) → P2 (mX9_cutsMarkup_l53 rec3 d v1 v2 v3 v4 v5 v7 v8 v9 σ) (mX9_cutsMarkup_l53 rec3 d v1 v2 v3 v4 v5 v7 v8 v9 τ) (fun v σ' v' τ' => ∃ c, CU v1 v2.toInt v3 v4 v5 σ0 τ0 602 c 0 σ' τ') := by
  intro d
  induction d with
  | zero => intro v7 v8 v9 σ τ c a hC h1 h2 hm; exfalso; omega
  | succ d ih =>
    intro v7 v8 v9 σ τ c a hC h1 h2 hm
    have hb : P2 (mX9_cutsMarkup_b78 rec3 v1 v2 v3 v4 v5 v7 v8 v9 σ) (mX9_cutsMarkup_b78 rec3 v1 v2 v3 v4 v5 v7 v8 v9 τ) (fun v σ' v' τ' => ∃ c, CU v1 v2.toInt v3 v4 v5 σ0 τ0 602 c 0 σ' τ') := by
      unfold mX9_cutsMarkup_b78
      refine p2_call (cu_finds hR hN.2 hC v7.toInt (by omega) (by omega) (by omega) (by omega) (Nat.zero_le _)) (fun v σ v' τ ⟨c2, hc', hC2⟩ => ?_)
      dsimp only
      refine p2_ro (t2_endOf hR.1 (by omega) hN (fun x hx => cu_rd hC2 (by omega))) (fun y hy => ?_)
      dsimp only
      have ey : (y + (1 : Int32)).toInt = y.toInt + 1 := i_add rfl kt_1 (by omega)
      exact Hr (y + (1 : Int32)) σ τ c2 (cu_mono hC2 (by omega)) (by omega) (by omega)
    unfold mX9_cutsMarkup_l53
    refine p2_le rfl rfl rfl rfl (fun q => hb) (fun q => ?_)
    have e9 : (v9 - (1 : Int32)).toInt = v9.toInt - 1 := i_sub rfl kt_1 (by omega)
    refine p2_ck (by rw [hR.1]; exact in_of (by omega) (by omega)) (by rw [hR.1]; exact in_of (by omega) (by omega)) ?_
    refine p2_ro (t2_isBare (cu_rd hC (by omega))) (fun y hy => ?_)
    dsimp only
    refine p2_eq rfl rfl (fun q1 => hb) (fun q1 => ?_)
    clear e9
    exact ih v7 v8 (v9 + (-1 : Int32)) σ τ c a hC (by rw [dec1 (by omega) (by omega)]; omega) h2 (by rw [dec1 (by omega) (by omega)]; omega)
set_option maxHeartbeats 1000000 in
theorem t2_cutsMarkup_l30 {v1 v3 v4 v5 : Nat} {v2 : Int32} {σ0 τ0 : RS9} (hR : RW v1 v3 v4 v5) (hN : 0 ≤ v2.toInt ∧ v2.toInt ≤ 600) {D : Nat} {rec3 : Nat → Int32 → Nat → Nat → Nat → Int32 → RS9 → Option (Int32 × RS9)} (Hr : ∀ (v6 : Int32) (σ τ : RS9) (c : Nat), CU v1 v2.toInt v3 v4 v5 σ0 τ0 v6.toInt c 0 σ τ → (0 ≤ v6.toInt ∧ v6.toInt ≤ 601) → 1000 - v6.toInt < (D : Int) → P2 (rec3 v1 v2 v3 v4 v5 v6 σ) (rec3 v1 v2 v3 v4 v5 v6 τ) (fun v σ' v' τ' => ∃ c, CU v1 v2.toInt v3 v4 v5 σ0 τ0 602 c 0 σ' τ')) : ∀ (d : Nat) (v7 v8 v9 : Int32) (σ τ : RS9) (c : Nat) (a : Int), CU v1 v2.toInt v3 v4 v5 σ0 τ0 a c 0 σ τ → (0 ≤ a ∧ a ≤ v8.toInt ∧ v8.toInt ≤ v9.toInt ∧ v9.toInt ≤ v7.toInt) → (v7.toInt ≤ v2.toInt ∧ 999 - v7.toInt < (D : Int)) → 1000 - v8.toInt < (d : Int) → P2 (mX9_cutsMarkup_l30 rec3 d v1 v2 v3 v4 v5 v7 v8 v9 σ) (mX9_cutsMarkup_l30 rec3 d v1 v2 v3 v4 v5 v7 v8 v9 τ) (fun v σ' v' τ' => ∃ c, CU v1 v2.toInt v3 v4 v5 σ0 τ0 602 c 0 σ' τ') := by
  intro d
  induction d with
  | zero => intro v7 v8 v9 σ τ c a hC h1 h2 hm; exfalso; omega
  | succ d ih =>
    intro v7 v8 v9 σ τ c a hC h1 h2 hm
    unfold mX9_cutsMarkup_l30
    refine p2_le rfl rfl rfl rfl (fun q => ?_) (fun q => ?_)
    · exact t2_cutsMarkup_l53 hR hN Hr rFU v7 v8 v9 σ τ c a hC h1 h2 (by unfold rFU; omega)
    refine p2_ck (by rw [hR.1]; exact in_of (by omega) (by omega)) (by rw [hR.1]; exact in_of (by omega) (by omega)) ?_
    refine p2_ro (t2_isBare (cu_rd hC (by omega))) (fun y hy => ?_)
    dsimp only
    refine p2_eq rfl rfl (fun q1 => ?_) (fun q1 => ?_)
    · exact t2_cutsMarkup_l53 hR hN Hr rFU v7 v8 v9 σ τ c a hC h1 h2 (by unfold rFU; omega)
    have e8 : (v8 + (1 : Int32)).toInt = v8.toInt + 1 := i_add rfl kt_1 (by omega)
    exact ih v7 (v8 + (1 : Int32)) v9 σ τ c a hC (by omega) h2 (by omega)
set_option maxHeartbeats 1000000 in
theorem t2_cutsMarkup_l3 {v1 v3 v4 v5 : Nat} {v2 : Int32} {σ0 τ0 : RS9} (hR : RW v1 v3 v4 v5) (hN : 0 ≤ v2.toInt ∧ v2.toInt ≤ 600) : ∀ (d : Nat) (v6 : Int32) (σ τ : RS9) (c : Nat), CU v1 v2.toInt v3 v4 v5 σ0 τ0 v6.toInt c 0 σ τ → (0 ≤ v6.toInt ∧ v6.toInt ≤ 601) → 1000 - v6.toInt < (d : Int) → P2 (mX9_cutsMarkup_l3 d v1 v2 v3 v4 v5 v6 σ) (mX9_cutsMarkup_l3 d v1 v2 v3 v4 v5 v6 τ) (fun v σ' v' τ' => ∃ c, CU v1 v2.toInt v3 v4 v5 σ0 τ0 602 c 0 σ' τ') := by
  intro d
  induction d with
  | zero => intro v6 σ τ c hC h1 hm; exfalso; omega
  | succ d ih =>
    intro v6 σ τ c hC h1 hm
    unfold mX9_cutsMarkup_l3
    refine p2_le rfl rfl rfl rfl (fun q => ?_) (fun q => ?_)
    · exact p2_ret ⟨c, cu_mono hC (by omega)⟩
    · refine p2_ro (t2_endOf hR.1 (by omega) hN (fun x hx => cu_rd hC (by omega))) (fun y hy => ?_)
      dsimp only
      exact t2_cutsMarkup_l30 hR hN (D := d) ih rFU y v6 y σ τ c v6.toInt hC (by omega) (by omega) (by unfold rFU; omega)
theorem t2_cutsMarkup {v1 v3 v4 v5 : Nat} {v2 : Int32} {σ0 τ0 : RS9} (hR : RW v1 v3 v4 v5) (hN : 0 ≤ v2.toInt ∧ v2.toInt ≤ 600) {σ τ : RS9} (hC : CU v1 v2.toInt v3 v4 v5 σ0 τ0 0 0 0 σ τ) : P2 (mX9_cutsMarkup v1 v2 v3 v4 v5 σ) (mX9_cutsMarkup v1 v2 v3 v4 v5 τ) (fun v σ' v' τ' => ∃ c, CU v1 v2.toInt v3 v4 v5 σ0 τ0 602 c 0 σ' τ') := by
  unfold mX9_cutsMarkup
  exact t2_cutsMarkup_l3 hR hN rFU 0 σ τ 0 hC (by decide) (by unfold rFU; rw [kt_0]; omega)
set_option maxHeartbeats 1000000 in
theorem t2_cutsQuotes_b138 {v1 v3 v4 v5 : Nat} {v2 : Int32} {σ0 τ0 : RS9} (hR : RW v1 v3 v4 v5) (hN : 0 ≤ v2.toInt ∧ v2.toInt ≤ 600) {D : Nat} {rec12 : Nat → Int32 → Nat → Nat → Nat → Int32 → RS9 → Option (Int32 × RS9)} (Hr : ∀ (v6 : Int32) (σ τ : RS9) (c : Nat), CU v1 v2.toInt v3 v4 v5 σ0 τ0 v6.toInt c 0 σ τ → (0 ≤ v6.toInt ∧ v6.toInt ≤ 601) → 1000 - v6.toInt < (D : Int) → P2 (rec12 v1 v2 v3 v4 v5 v6 σ) (rec12 v1 v2 v3 v4 v5 v6 τ) (fun v σ' v' τ' => ∃ c, CU v1 v2.toInt v3 v4 v5 σ0 τ0 602 c 0 σ' τ')) {v7 : Int32} {σ τ : RS9} {c : Nat} {a : Int} (hC : CU v1 v2.toInt v3 v4 v5 σ0 τ0 a c 0 σ τ) (h1 : 0 ≤ v7.toInt ∧ v7.toInt ≤ v2.toInt ∧ a ≤ v7.toInt) (h2 : 1000 - v7.toInt < (D : Int)) : P2 (mX9_cutsQuotes_b138 rec12 v1 v2 v3 v4 v5 v7 σ) (mX9_cutsQuotes_b138 rec12 v1 v2 v3 v4 v5 v7 τ) (fun v σ' v' τ' => ∃ c, CU v1 v2.toInt v3 v4 v5 σ0 τ0 602 c 0 σ' τ') := by
  have e7 : (v7 + (1 : Int32)).toInt = v7.toInt + 1 := i_add rfl kt_1 (by omega)
  unfold mX9_cutsQuotes_b138
  refine p2_le rfl rfl rfl rfl (fun q => ?_) (fun q => ?_)
  · exact Hr v2 σ τ c (cu_mono hC (by omega)) (by omega) (by omega)
  · refine p2_ro (t2_endOf hR.1 (by omega) hN (fun x hx => cu_rd hC (by omega))) (fun y hy => ?_)
    dsimp only
    exact Hr y σ τ c (cu_mono hC (by omega)) (by omega) (by omega)
set_option maxHeartbeats 1000000 in
theorem t2_cutsQuotes_b112 {v1 v3 v4 v5 : Nat} {v2 : Int32} {σ0 τ0 : RS9} (hR : RW v1 v3 v4 v5) (hN : 0 ≤ v2.toInt ∧ v2.toInt ≤ 600) {D : Nat} {rec12 : Nat → Int32 → Nat → Nat → Nat → Int32 → RS9 → Option (Int32 × RS9)} (Hr : ∀ (v6 : Int32) (σ τ : RS9) (c : Nat), CU v1 v2.toInt v3 v4 v5 σ0 τ0 v6.toInt c 0 σ τ → (0 ≤ v6.toInt ∧ v6.toInt ≤ 601) → 1000 - v6.toInt < (D : Int) → P2 (rec12 v1 v2 v3 v4 v5 v6 σ) (rec12 v1 v2 v3 v4 v5 v6 τ) (fun v σ' v' τ' => ∃ c, CU v1 v2.toInt v3 v4 v5 σ0 τ0 602 c 0 σ' τ')) {v6 v7 : Int32} {σ τ : RS9} {c : Nat} {a : Int} (hC : CU v1 v2.toInt v3 v4 v5 σ0 τ0 a c 0 σ τ) (h1 : 0 ≤ a ∧ a ≤ v6.toInt ∧ v6.toInt < v7.toInt ∧ v7.toInt ≤ v2.toInt) (h2 : 1000 - v7.toInt < (D : Int)) : P2 (mX9_cutsQuotes_b112 rec12 v1 v2 v3 v4 v5 v6 v7 σ) (mX9_cutsQuotes_b112 rec12 v1 v2 v3 v4 v5 v6 v7 τ) (fun v σ' v' τ' => ∃ c, CU v1 v2.toInt v3 v4 v5 σ0 τ0 602 c 0 σ' τ') := by
  have e6 : (v6 + (1 : Int32)).toInt = v6.toInt + 1 := i_add rfl kt_1 (by omega)
  unfold mX9_cutsQuotes_b112
  refine p2_le rfl rfl rfl rfl (fun q => ?_) (fun q => ?_)
  · unfold mX9_cutsQuotes_b134
    refine p2_call (cu_finds hR hN.2 hC v7.toInt (by omega) (by omega) (by omega) (by omega) (Nat.zero_le _)) (fun v σ v' τ ⟨c2, hc', hC2⟩ => ?_)
    dsimp only
    exact t2_cutsQuotes_b138 hR hN Hr hC2 (by omega) h2
  · unfold mX9_cutsQuotes_b134
    refine p2_call (cu_finds hR hN.2 hC v7.toInt (by omega) (by omega) (by omega) (by omega) (Nat.zero_le _)) (fun v σ v' τ ⟨c2, hc', hC2⟩ => ?_)
    dsimp only
    exact t2_cutsQuotes_b138 hR hN Hr hC2 (by omega) h2
set_option maxHeartbeats 1000000 in
theorem t2_cutsQuotes_l75 {v1 v3 v4 v5 : Nat} {v2 : Int32} {σ0 τ0 : RS9} (hR : RW v1 v3 v4 v5) (hN : 0 ≤ v2.toInt ∧ v2.toInt ≤ 600) {D : Nat} {rec12 : Nat → Int32 → Nat → Nat → Nat → Int32 → RS9 → Option (Int32 × RS9)} (Hr : ∀ (v6 : Int32) (σ τ : RS9) (c : Nat), CU v1 v2.toInt v3 v4 v5 σ0 τ0 v6.toInt c 0 σ τ → (0 ≤ v6.toInt ∧ v6.toInt ≤ 601) → 1000 - v6.toInt < (D : Int) → P2 (rec12 v1 v2 v3 v4 v5 v6 σ) (rec12 v1 v2 v3 v4 v5 v6 τ) (fun v σ' v' τ' => ∃ c, CU v1 v2.toInt v3 v4 v5 σ0 τ0 602 c 0 σ' τ')) : ∀ (d : Nat) (v6 v7 v8 : Int32) (σ τ : RS9) (c : Nat) (a : Int), CU v1 v2.toInt v3 v4 v5 σ0 τ0 a c 0 σ τ → (0 ≤ a ∧ a ≤ v6.toInt ∧ v6.toInt < v7.toInt ∧ v7.toInt ≤ v2.toInt) → (0 ≤ v8.toInt ∧ v8.toInt ≤ 700) → 1000 - v7.toInt < (D : Int) → 1000 - v8.toInt < (d : Int) → P2 (mX9_cutsQuotes_l75 rec12 d v1 v2 v3 v4 v5 v6 v7 v8 σ) (mX9_cutsQuotes_l75 rec12 d v1 v2 v3 v4 v5 v6 v7 v8 τ) (fun v σ' v' τ' => ∃ c, CU v1 v2.toInt v3 v4 v5 σ0 τ0 602 c 0 σ' τ') := by
  intro d
  induction d with
  | zero => intro v6 v7 v8 σ τ c a hC h1 h2 hD hm; exfalso; omega
  | succ d ih =>
    intro v6 v7 v8 σ τ c a hC h1 h2 hD hm
    have hb : P2 (mX9_cutsQuotes_b97 rec12 v1 v2 v3 v4 v5 v6 v7 v8 σ) (mX9_cutsQuotes_b97 rec12 v1 v2 v3 v4 v5 v6 v7 v8 τ) (fun v σ' v' τ' => ∃ c, CU v1 v2.toInt v3 v4 v5 σ0 τ0 602 c 0 σ' τ') := by
      unfold mX9_cutsQuotes_b97
      refine p2_le rfl rfl rfl rfl (fun q => ?_) (fun q => ?_)
      · exact t2_cutsQuotes_b112 hR hN Hr hC h1 hD
      refine p2_ck (by rw [hR.1]; exact in_of (by omega) (by omega)) (by rw [hR.1]; exact in_of (by omega) (by omega)) ?_
      refine p2_eq (cu_rd hC (by omega)) rfl (fun q1 => ?_) (fun q1 => ?_)
      · exact t2_cutsQuotes_b138 hR hN Hr hC (by omega) hD
      · exact t2_cutsQuotes_b112 hR hN Hr hC h1 hD
    unfold mX9_cutsQuotes_l75
    refine p2_le rfl rfl rfl rfl (fun q => hb) (fun q => ?_)
    refine p2_ck (by rw [hR.1]; exact in_of (by omega) (by omega)) (by rw [hR.1]; exact in_of (by omega) (by omega)) ?_
    refine p2_ro (t2_isBare (cu_rd hC (by omega))) (fun y hy => ?_)
    dsimp only
    refine p2_eq rfl rfl (fun q1 => hb) (fun q1 => ?_)
    have e8 : (v8 + (1 : Int32)).toInt = v8.toInt + 1 := i_add rfl kt_1 (by omega)
    exact ih v6 v7 (v8 + (1 : Int32)) σ τ c a hC h1 (by omega) hD (by omega)
set_option maxHeartbeats 1000000 in
theorem t2_cutsQuotes_l24 {v1 v3 v4 v5 : Nat} {v2 : Int32} {σ0 τ0 : RS9} (hR : RW v1 v3 v4 v5) (hN : 0 ≤ v2.toInt ∧ v2.toInt ≤ 600) {D : Nat} {rec12 : Nat → Int32 → Nat → Nat → Nat → Int32 → RS9 → Option (Int32 × RS9)} (Hr : ∀ (v6 : Int32) (σ τ : RS9) (c : Nat), CU v1 v2.toInt v3 v4 v5 σ0 τ0 v6.toInt c 0 σ τ → (0 ≤ v6.toInt ∧ v6.toInt ≤ 601) → 1000 - v6.toInt < (D : Int) → P2 (rec12 v1 v2 v3 v4 v5 v6 σ) (rec12 v1 v2 v3 v4 v5 v6 τ) (fun v σ' v' τ' => ∃ c, CU v1 v2.toInt v3 v4 v5 σ0 τ0 602 c 0 σ' τ')) : ∀ (d : Nat) (v6 v7 : Int32) (σ τ : RS9) (c : Nat) (a : Int), CU v1 v2.toInt v3 v4 v5 σ0 τ0 a c 0 σ τ → (0 ≤ a ∧ a ≤ v6.toInt ∧ v6.toInt < v7.toInt ∧ v7.toInt ≤ v2.toInt) → 1000 - v6.toInt < (D : Int) + 1 → 1000 - v7.toInt < (d : Int) → P2 (mX9_cutsQuotes_l24 rec12 d v1 v2 v3 v4 v5 v6 v7 σ) (mX9_cutsQuotes_l24 rec12 d v1 v2 v3 v4 v5 v6 v7 τ) (fun v σ' v' τ' => ∃ c, CU v1 v2.toInt v3 v4 v5 σ0 τ0 602 c 0 σ' τ') := by
  intro d
  induction d with
  | zero => intro v6 v7 σ τ c a hC h1 hD hm; exfalso; omega
  | succ d ih =>
    intro v6 v7 σ τ c a hC h1 hD hm
    have e7 : (v7 + (1 : Int32)).toInt = v7.toInt + 1 := i_add rfl kt_1 (by omega)
    have e72 : (v7 + (2 : Int32)).toInt = v7.toInt + 2 := i_add rfl kt_2 (by omega)
    have hb : P2 (mX9_cutsQuotes_b69 rec12 v1 v2 v3 v4 v5 v6 v7 σ) (mX9_cutsQuotes_b69 rec12 v1 v2 v3 v4 v5 v6 v7 τ) (fun v σ' v' τ' => ∃ c, CU v1 v2.toInt v3 v4 v5 σ0 τ0 602 c 0 σ' τ') := by
      unfold mX9_cutsQuotes_b69
      exact t2_cutsQuotes_l75 hR hN Hr rFU v6 v7 (v7 + (1 : Int32)) σ τ c a hC h1 (by omega) (by omega) (by unfold rFU; omega)
    unfold mX9_cutsQuotes_l24
    refine p2_le rfl rfl rfl rfl (fun q => hb) (fun q => ?_)
    refine p2_ck (by rw [hR.1]; exact in_of (by omega) (by omega)) (by rw [hR.1]; exact in_of (by omega) (by omega)) ?_
    refine p2_eq (cu_rd hC (by omega)) rfl (fun q1 => hb) (fun q1 => ?_)
    refine p2_ck (by rw [hR.1]; exact in_of (by omega) (by omega)) (by rw [hR.1]; exact in_of (by omega) (by omega)) ?_
    refine p2_eq (cu_rd hC (by omega)) rfl (fun q2 => ?_) (fun q2 => ?_)
    · refine p2_le rfl e7 rfl rfl (fun q3 => ?_) (fun q3 => ?_)
      · exact ih v6 (v7 + (1 : Int32)) σ τ c a hC (by omega) hD (by omega)
      · exact ih v6 (v7 + (2 : Int32)) σ τ c a hC (by omega) hD (by omega)
    · exact ih v6 (v7 + (1 : Int32)) σ τ c a hC (by omega) hD (by omega)
set_option maxHeartbeats 1000000 in
theorem t2_cutsQuotes_l12 {v1 v3 v4 v5 : Nat} {v2 : Int32} {σ0 τ0 : RS9} (hR : RW v1 v3 v4 v5) (hN : 0 ≤ v2.toInt ∧ v2.toInt ≤ 600) : ∀ (d : Nat) (v6 : Int32) (σ τ : RS9) (c : Nat), CU v1 v2.toInt v3 v4 v5 σ0 τ0 v6.toInt c 0 σ τ → (0 ≤ v6.toInt ∧ v6.toInt ≤ 601) → 1000 - v6.toInt < (d : Int) → P2 (mX9_cutsQuotes_l12 d v1 v2 v3 v4 v5 v6 σ) (mX9_cutsQuotes_l12 d v1 v2 v3 v4 v5 v6 τ) (fun v σ' v' τ' => ∃ c, CU v1 v2.toInt v3 v4 v5 σ0 τ0 602 c 0 σ' τ') := by
  intro d
  induction d with
  | zero => intro v6 σ τ c hC h1 hm; exfalso; omega
  | succ d ih =>
    intro v6 σ τ c hC h1 hm
    unfold mX9_cutsQuotes_l12
    refine p2_le rfl rfl rfl rfl (fun q => ?_) (fun q => ?_)
    · exact p2_ret ⟨c, cu_mono hC (by omega)⟩
    · have e6 : (v6 + (1 : Int32)).toInt = v6.toInt + 1 := i_add rfl kt_1 (by omega)
      exact t2_cutsQuotes_l24 hR hN (D := d) ih rFU v6 (v6 + (1 : Int32)) σ τ c v6.toInt hC (by omega) (by omega) (by unfold rFU; omega)
theorem t2_cutsQuotes {v1 v3 v4 v5 : Nat} {v2 : Int32} {σ0 τ0 : RS9} (hR : RW v1 v3 v4 v5) (hN : 0 ≤ v2.toInt ∧ v2.toInt ≤ 600) {σ τ : RS9} (hC : CU v1 v2.toInt v3 v4 v5 σ0 τ0 0 0 0 σ τ) : P2 (mX9_cutsQuotes v1 v2 v3 v4 v5 σ) (mX9_cutsQuotes v1 v2 v3 v4 v5 τ) (fun v σ' v' τ' => ∃ c, CU v1 v2.toInt v3 v4 v5 σ0 τ0 602 c 0 σ' τ') := by
  unfold mX9_cutsQuotes
  refine p2_ro (t2_endOf hR.1 (by decide) hN (fun x hx => cu_rd hC (by omega))) (fun y hy => ?_)
  dsimp only
  have k0 := kt_0
  exact t2_cutsQuotes_l12 hR hN rFU y σ τ 0 (cu_mono hC (by omega)) (by omega) (by unfold rFU; omega)
set_option maxHeartbeats 1000000 in
theorem t2_cutsLines_l137 {v1 v3 v4 v5 : Nat} {v2 : Int32} {σ0 τ0 : RS9} (hR : RW v1 v3 v4 v5) (hN : 0 ≤ v2.toInt ∧ v2.toInt ≤ 600) {D : Nat} {rec3 : Nat → Int32 → Nat → Nat → Nat → Int32 → RS9 → Option (Int32 × RS9)} (Hr : ∀ (v6 : Int32) (σ τ : RS9) (c : Nat), CU v1 v2.toInt v3 v4 v5 σ0 τ0 v6.toInt c c σ τ → (0 ≤ v6.toInt ∧ v6.toInt ≤ 601) → 1000 - v6.toInt < (D : Int) → P2 (rec3 v1 v2 v3 v4 v5 v6 σ) (rec3 v1 v2 v3 v4 v5 v6 τ) (fun v σ' v' τ' => ∃ c, CU v1 v2.toInt v3 v4 v5 σ0 τ0 602 c c σ' τ')) : ∀ (d : Nat) (v7 v8 v11 v12 : Int32) (σ τ : RS9) (c c2 : Nat) (a : Int), CU v1 v2.toInt v3 v4 v5 σ0 τ0 a c2 c σ τ → (c2 = c ∨ c2 = c + 1) → v11 = nI c → c < 600 → (a ≤ v7.toInt ∧ 0 ≤ v8.toInt ∧ v8.toInt ≤ 700 ∧ v7.toInt ≤ v2.toInt ∧ 0 ≤ v7.toInt ∧ 999 - v7.toInt < (D : Int)) → (0 ≤ v12.toInt ∧ v12.toInt ≤ v2.toInt) → v12.toInt < (d : Int) → P2 (mX9_cutsLines_l137 rec3 d v1 v2 v3 v4 v5 v7 v8 v11 v12 σ) (mX9_cutsLines_l137 rec3 d v1 v2 v3 v4 v5 v7 v8 v11 v12 τ) (fun v σ' v' τ' => ∃ c, CU v1 v2.toInt v3 v4 v5 σ0 τ0 602 c c σ' τ') := by
  intro d
  induction d with
  | zero => intro v7 v8 v11 v12 σ τ c c2 a hC hc h11 h600 h1 h2 hm; exfalso; omega
  | succ d ih =>
    intro v7 v8 v11 v12 σ τ c c2 a hC hc h11 h600 h1 h2 hm
    have e7 : (v7 + (1 : Int32)).toInt = v7.toInt + 1 := i_add rfl kt_1 (by omega)
    have f54 : (σ.1 54).toInt = (c2 : Int) := cu_fx hC (by omega)
    have e11 : v11.toInt = (c : Int) := by rw [h11]; exact nI_toInt (by omega)
    have hb : P2 (mX9_cutsLines_b161 rec3 v1 v2 v3 v4 v5 v7 v8 v11 v12 σ) (mX9_cutsLines_b161 rec3 v1 v2 v3 v4 v5 v7 v8 v11 v12 τ) (fun v σ' v' τ' => ∃ c, CU v1 v2.toInt v3 v4 v5 σ0 τ0 602 c c σ' τ') := by
      unfold mX9_cutsLines_b161
      refine p2_le f54 e11 (cu_54 hC) rfl (fun q => ?_) (fun q => ?_)
      · unfold mX9_cutsLines_b199
        have e : c2 = c := by omega
        subst e
        exact Hr (v7 + (1 : Int32)) σ τ c2 (cu_mono hC (by omega)) (by omega) (by omega)
      · have e : c2 = c + 1 := by omega
        subst e
        refine p2_eqN (fun q17 => ?_) (fun q17 => ?_)
        · refine p2_ck (by rw [h11]; exact inb_nI h600 (by decide)) (by rw [h11]; exact inb_nI h600 (by decide)) ?_
          refine p2_ck (by rw [h11]; exact inb_nI h600 (by decide)) (by rw [h11]; exact inb_nI h600 (by decide)) ?_
          unfold mX9_cutsLines_b199
          have ed : (v12 - v8).toInt = v12.toInt - v8.toInt := i_sub rfl rfl (by omega)
          exact Hr (v7 + (1 : Int32)) _ _ (c + 1) (cu_mono (cu_key hR hC q17 h11 h600 (by omega)) (by omega)) (by omega) (by omega)
        · unfold mX9_cutsLines_b199
          exact Hr (v7 + (1 : Int32)) σ τ (c + 1) (cu_mono (cu_nokey hC q17) (by omega)) (by omega) (by omega)
    unfold mX9_cutsLines_l137
    refine p2_le rfl rfl rfl rfl (fun q => hb) (fun q => ?_)
    have e12 : (v12 - (1 : Int32)).toInt = v12.toInt - 1 := i_sub rfl kt_1 (by omega)
    refine p2_ck (by rw [hR.1]; exact in_of (by omega) (by omega)) (by rw [hR.1]; exact in_of (by omega) (by omega)) ?_
    refine p2_eq (cu_rd hC (by omega)) rfl (fun q1 => ?_) (fun q1 => hb)
    clear e12
    exact ih v7 v8 v11 (v12 + (-1 : Int32)) σ τ c c2 a hC hc h11 h600 h1 (by rw [dec1 (by omega) (by omega)]; omega) (by rw [dec1 (by omega) (by omega)]; omega)
set_option maxHeartbeats 1000000 in
theorem t2_cutsLines_l91 {v1 v3 v4 v5 : Nat} {v2 : Int32} {σ0 τ0 : RS9} (hR : RW v1 v3 v4 v5) (hN : 0 ≤ v2.toInt ∧ v2.toInt ≤ 600) {D : Nat} {rec3 : Nat → Int32 → Nat → Nat → Nat → Int32 → RS9 → Option (Int32 × RS9)} (Hr : ∀ (v6 : Int32) (σ τ : RS9) (c : Nat), CU v1 v2.toInt v3 v4 v5 σ0 τ0 v6.toInt c c σ τ → (0 ≤ v6.toInt ∧ v6.toInt ≤ 601) → 1000 - v6.toInt < (D : Int) → P2 (rec3 v1 v2 v3 v4 v5 v6 σ) (rec3 v1 v2 v3 v4 v5 v6 τ) (fun v σ' v' τ' => ∃ c, CU v1 v2.toInt v3 v4 v5 σ0 τ0 602 c c σ' τ')) : ∀ (d : Nat) (v7 v8 v9 v10 : Int32) (σ τ : RS9) (c : Nat) (a : Int), CU v1 v2.toInt v3 v4 v5 σ0 τ0 a c c σ τ → (0 ≤ a ∧ a ≤ v8.toInt ∧ v8.toInt ≤ v7.toInt ∧ v7.toInt ≤ v2.toInt ∧ 999 - v7.toInt < (D : Int)) → (a ≤ v9.toInt ∧ v9.toInt < v10.toInt ∧ v10.toInt ≤ v7.toInt) → 1000 - v10.toInt < (d : Int) → P2 (mX9_cutsLines_l91 rec3 d v1 v2 v3 v4 v5 v7 v8 v9 v10 σ) (mX9_cutsLines_l91 rec3 d v1 v2 v3 v4 v5 v7 v8 v9 v10 τ) (fun v σ' v' τ' => ∃ c, CU v1 v2.toInt v3 v4 v5 σ0 τ0 602 c c σ' τ') := by
  intro d
  induction d with
  | zero => intro v7 v8 v9 v10 σ τ c a hC h1 h2 hm; exfalso; omega
  | succ d ih =>
    intro v7 v8 v9 v10 σ τ c a hC h1 h2 hm
    have hca := hC.2.2.2.2.2.1
    have hb : P2 (mX9_cutsLines_b113 rec3 v1 v2 v3 v4 v5 v7 v8 v9 v10 σ) (mX9_cutsLines_b113 rec3 v1 v2 v3 v4 v5 v7 v8 v9 v10 τ) (fun v σ' v' τ' => ∃ c, CU v1 v2.toInt v3 v4 v5 σ0 τ0 602 c c σ' τ') := by
      unfold mX9_cutsLines_b113
      refine p2_call (cu_finds hR hN.2 hC v7.toInt (by omega) (by omega) (by omega) (by omega) (Nat.le_refl _)) (fun v σ' v' τ' ⟨c2, hc', hC2⟩ => ?_)
      dsimp only
      rw [cu_54 hC]
      exact t2_cutsLines_l137 hR hN Hr rFU v7 v8 (σ.1 54) v9 σ' τ' c c2 v7.toInt hC2 hc' hC.2.2.2.1 (by omega) (by omega) (by omega) (by unfold rFU; omega)
    unfold mX9_cutsLines_l91
    refine p2_le rfl rfl rfl rfl (fun q => hb) (fun q => ?_)
    refine p2_ck (by rw [hR.1]; exact in_of (by omega) (by omega)) (by rw [hR.1]; exact in_of (by omega) (by omega)) ?_
    refine p2_eq (cu_rd hC (by omega)) rfl (fun q1 => ?_) (fun q1 => hb)
    have e10 : (v10 + (1 : Int32)).toInt = v10.toInt + 1 := i_add rfl kt_1 (by omega)
    exact ih v7 v8 v9 (v10 + (1 : Int32)) σ τ c a hC h1 (by omega) (by omega)
set_option maxHeartbeats 1000000 in
theorem t2_cutsLines_l26 {v1 v3 v4 v5 : Nat} {v2 : Int32} {σ0 τ0 : RS9} (hR : RW v1 v3 v4 v5) (hN : 0 ≤ v2.toInt ∧ v2.toInt ≤ 600) {D : Nat} {rec3 : Nat → Int32 → Nat → Nat → Nat → Int32 → RS9 → Option (Int32 × RS9)} (Hr : ∀ (v6 : Int32) (σ τ : RS9) (c : Nat), CU v1 v2.toInt v3 v4 v5 σ0 τ0 v6.toInt c c σ τ → (0 ≤ v6.toInt ∧ v6.toInt ≤ 601) → 1000 - v6.toInt < (D : Int) → P2 (rec3 v1 v2 v3 v4 v5 v6 σ) (rec3 v1 v2 v3 v4 v5 v6 τ) (fun v σ' v' τ' => ∃ c, CU v1 v2.toInt v3 v4 v5 σ0 τ0 602 c c σ' τ')) : ∀ (d : Nat) (v6 v7 v8 : Int32) (σ τ : RS9) (c : Nat), CU v1 v2.toInt v3 v4 v5 σ0 τ0 v6.toInt c c σ τ → (0 ≤ v6.toInt ∧ v6.toInt ≤ v8.toInt ∧ v8.toInt ≤ v7.toInt ∧ v7.toInt ≤ v2.toInt ∧ 999 - v7.toInt < (D : Int)) → 1000 - v8.toInt < (d : Int) → P2 (mX9_cutsLines_l26 rec3 d v1 v2 v3 v4 v5 v6 v7 v8 σ) (mX9_cutsLines_l26 rec3 d v1 v2 v3 v4 v5 v6 v7 v8 τ) (fun v σ' v' τ' => ∃ c, CU v1 v2.toInt v3 v4 v5 σ0 τ0 602 c c σ' τ') := by
  intro d
  induction d with
  | zero => intro v6 v7 v8 σ τ c hC h1 hm; exfalso; omega
  | succ d ih =>
    intro v6 v7 v8 σ τ c hC h1 hm
    have e7 : (v7 + (1 : Int32)).toInt = v7.toInt + 1 := i_add rfl kt_1 (by omega)
    have hn : P2 (mX9_cutsLines_b199 rec3 v1 v2 v3 v4 v5 v7 σ) (mX9_cutsLines_b199 rec3 v1 v2 v3 v4 v5 v7 τ) (fun v σ' v' τ' => ∃ c, CU v1 v2.toInt v3 v4 v5 σ0 τ0 602 c c σ' τ') := by
      unfold mX9_cutsLines_b199
      exact Hr (v7 + (1 : Int32)) σ τ c (cu_mono hC (by omega)) (by omega) (by omega)
    have hb : P2 (mX9_cutsLines_b48 rec3 v1 v2 v3 v4 v5 v6 v7 v8 σ) (mX9_cutsLines_b48 rec3 v1 v2 v3 v4 v5 v6 v7 v8 τ) (fun v σ' v' τ' => ∃ c, CU v1 v2.toInt v3 v4 v5 σ0 τ0 602 c c σ' τ') := by
      unfold mX9_cutsLines_b48
      refine p2_ro (t2_endOf hR.1 (by omega) (by omega) (fun x hx => cu_rd hC (by omega))) (fun y hy => ?_)
      dsimp only
      refine p2_le rfl rfl rfl rfl (fun q => hn) (fun q => ?_)
      refine p2_ck (by rw [hR.1]; exact in_of (by omega) (by omega)) (by rw [hR.1]; exact in_of (by omega) (by omega)) ?_
      refine p2_eq (cu_rd hC (by omega)) rfl (fun q1 => hn) (fun q1 => ?_)
      refine p2_le rfl rfl rfl rfl (fun q2 => hn) (fun q2 => ?_)
      have ey : (y + (1 : Int32)).toInt = y.toInt + 1 := i_add rfl kt_1 (by omega)
      exact t2_cutsLines_l91 hR hN Hr rFU v7 v8 y (y + (1 : Int32)) σ τ c v6.toInt hC (by omega) (by omega) (by unfold rFU; omega)
    unfold mX9_cutsLines_l26
    refine p2_le rfl rfl rfl rfl (fun q => hb) (fun q => ?_)
    refine p2_ck (by rw [hR.1]; exact in_of (by omega) (by omega)) (by rw [hR.1]; exact in_of (by omega) (by omega)) ?_
    refine p2_eq (cu_rd hC (by omega)) rfl (fun q1 => ?_) (fun q1 => hb)
    have e8 : (v8 + (1 : Int32)).toInt = v8.toInt + 1 := i_add rfl kt_1 (by omega)
    exact ih v6 v7 (v8 + (1 : Int32)) σ τ c hC (by omega) (by omega)
set_option maxHeartbeats 1000000 in
theorem t2_cutsLines_l3 {v1 v3 v4 v5 : Nat} {v2 : Int32} {σ0 τ0 : RS9} (hR : RW v1 v3 v4 v5) (hN : 0 ≤ v2.toInt ∧ v2.toInt ≤ 600) : ∀ (d : Nat) (v6 : Int32) (σ τ : RS9) (c : Nat), CU v1 v2.toInt v3 v4 v5 σ0 τ0 v6.toInt c c σ τ → (0 ≤ v6.toInt ∧ v6.toInt ≤ 601) → 1000 - v6.toInt < (d : Int) → P2 (mX9_cutsLines_l3 d v1 v2 v3 v4 v5 v6 σ) (mX9_cutsLines_l3 d v1 v2 v3 v4 v5 v6 τ) (fun v σ' v' τ' => ∃ c, CU v1 v2.toInt v3 v4 v5 σ0 τ0 602 c c σ' τ') := by
  intro d
  induction d with
  | zero => intro v6 σ τ c hC h1 hm; exfalso; omega
  | succ d ih =>
    intro v6 σ τ c hC h1 hm
    unfold mX9_cutsLines_l3
    refine p2_le rfl rfl rfl rfl (fun q => ?_) (fun q => ?_)
    · exact p2_ret ⟨c, cu_mono hC (by omega)⟩
    · refine p2_ro (t2_endOf hR.1 (by omega) hN (fun x hx => cu_rd hC (by omega))) (fun y hy => ?_)
      dsimp only
      exact t2_cutsLines_l26 hR hN (D := d) ih rFU v6 y v6 σ τ c hC (by omega) (by unfold rFU; omega)
theorem t2_cutsLines {v1 v3 v4 v5 : Nat} {v2 : Int32} {σ0 τ0 : RS9} (hR : RW v1 v3 v4 v5) (hN : 0 ≤ v2.toInt ∧ v2.toInt ≤ 600) {σ τ : RS9} (hC : CU v1 v2.toInt v3 v4 v5 σ0 τ0 0 0 0 σ τ) : P2 (mX9_cutsLines v1 v2 v3 v4 v5 σ) (mX9_cutsLines v1 v2 v3 v4 v5 τ) (fun v σ' v' τ' => ∃ c, CU v1 v2.toInt v3 v4 v5 σ0 τ0 602 c c σ' τ') := by
  unfold mX9_cutsLines
  exact t2_cutsLines_l3 hR hN rFU 0 σ τ 0 hC (by decide) (by unfold rFU; rw [kt_0]; omega)
