theorem i_mul {x y : Int32} {a b : Int} (ex : x.toInt = a) (ey : y.toInt = b) (h : -2147483648 ≤ a * b ∧ a * b ≤ 2147483647) : (x * y).toInt = a * b := by
  rw [Int32.toInt_mul, ex, ey]
  exact Int.bmod_eq_of_le (by omega) (by omega)
/-! pieces are taken -/
def VM9 (μ : Nat → Int32) : Prop := (0 ≤ (μ 0).toInt ∧ (μ 0).toInt ≤ 400) ∧ 1 ≤ (μ 4).toInt ∧ (0 ≤ (μ 5).toInt ∧ (μ 5).toInt ≤ 4) ∧ (0 ≤ (μ 42).toInt ∧ (μ 42).toInt ≤ 12) ∧ (∀ p, p < 40 → -1 ≤ (μ (443 + 61 * p)).toInt ∧ (μ (443 + 61 * p)).toInt ≤ 60) ∧ (∀ k, k < 24 → 0 ≤ (μ (2883 + 61 * k)).toInt ∧ (μ (2883 + 61 * k)).toInt ≤ 60) ∧ (∀ l, l < 4 → (μ (6 + 9 * l)).toInt ≤ 8)
def AB (R C : Nat) (σ τ : RS9) : Prop := (∀ i, i < 443 → i ≠ 42 → τ.2 1 i = σ.2 1 i) ∧ (R ≤ 600 ∧ C ≤ 600) ∧ (σ.1 22 = nI C ∧ τ.1 22 = nI C) ∧ (∀ i, i < R → τ.2 13 i = σ.2 13 i ∧ σ.2 14 i = nI i ∧ τ.2 14 i = nI i ∧ σ.2 15 i = nI (i + 1) ∧ τ.2 15 i = nI (i + 1)) ∧ (∀ i, i < C → CE R 17 18 19 602 σ τ i) ∧ (σ.2 1 1 = 0 → ∀ i, i < C → CK R σ τ i) ∧ VM9 (σ.2 1)
def PE (L : Int) (σ τ : RS9) (i : Nat) : Prop := (τ.2 34 i = σ.2 34 i ∧ τ.2 35 i = σ.2 35 i ∧ τ.2 36 i = σ.2 36 i ∧ τ.2 37 i = σ.2 37 i ∧ τ.2 38 i = σ.2 38 i) ∧ 0 ≤ (σ.2 34 i).toInt ∧ (σ.2 34 i).toInt < (σ.2 35 i).toInt ∧ (σ.2 35 i).toInt ≤ L ∧ (∀ j, j < i → (σ.2 35 j).toInt ≤ (σ.2 34 i).toInt) ∧ 0 ≤ (σ.2 41 i).toInt ∧ 0 ≤ (σ.2 42 i).toInt ∧ (σ.2 41 i).toInt + (σ.2 42 i).toInt ≤ (σ.1 45).toInt
def PR (p : Nat) (L : Int) (σ τ : RS9) : Prop := σ.1 33 = nI p ∧ τ.1 33 = nI p ∧ p ≤ 40 ∧ τ.1 45 = σ.1 45 ∧ 0 ≤ (σ.1 45).toInt ∧ (σ.1 45).toInt ≤ L ∧ L ≤ 600 ∧ ∀ i, i < p → PE L σ τ i
theorem pr_mono {p : Nat} {L L' : Int} {σ τ : RS9} (h : PR p L σ τ) (hl : L ≤ L') (h6 : L' ≤ 600) : PR p L' σ τ := by
  obtain ⟨a1, a2, a3, a4, a5, a6, a7, a8⟩ := h
  refine ⟨a1, a2, a3, a4, a5, by omega, h6, fun i hi => ?_⟩
  obtain ⟨b1, b2, b3, b4, b5⟩ := a8 i hi
  exact ⟨b1, b2, b3, by omega, b5⟩
theorem rd_nI {σ : RS9} {r k : Nat} (h : k < 2 ^ 31) : rGa σ r (nI k) = σ.2 r k := by unfold rGa; rw [nI_clamp h]
theorem ab_m {R C : Nat} {σ τ : RS9} (hA : AB R C σ τ) {x : Int32} (hx : 0 ≤ x.toInt ∧ x.toInt < 42) : rGa τ 1 x = rGa σ 1 x := hA.1 _ (by rw [tn]; omega) (by rw [tn]; omega)
set_option maxHeartbeats 1000000 in
theorem t2_isLocked_l56 {R C c D : Nat} {σ τ : RS9} {rec13 : Int32 → Int32 → RS9 → Option (Int32 × RS9)} (hA : AB R C σ τ) (h0 : σ.2 1 1 = 0) (hc : c < C) (Hr : ∀ v2 : Int32, (0 ≤ v2.toInt ∧ v2.toInt ≤ 4) → 10 - v2.toInt < (D : Int) → P2 (rec13 (nI c) v2 σ) (rec13 (nI c) v2 τ) (fun v σ' v' τ' => σ' = σ ∧ τ' = τ ∧ v' = v ∧ True)) : ∀ (d : Nat) (v2 v3 v4 v5 : Int32), (0 ≤ v2.toInt ∧ v2.toInt ≤ 3) → (0 ≤ v5.toInt ∧ v5.toInt ≤ 700) → (v4 ≠ 0 → v3.toInt ≤ (σ.2 21 c).toInt) → v3.toInt ≤ 8 → 9 - v2.toInt < (D : Int) → 1000 - v5.toInt < (d : Int) → P2 (mX9_isLocked_l56 rec13 d (nI c) v2 v3 v4 v5 σ) (mX9_isLocked_l56 rec13 d (nI c) v2 v3 v4 v5 τ) (fun v σ' v' τ' => σ' = σ ∧ τ' = τ ∧ v' = v ∧ True) := by
  obtain ⟨k1, k2, k3, k4⟩ := hA.2.2.2.2.2.1 h0 c hc
  have hb := hA.2.1
  intro d
  induction d with
  | zero => intro v2 v3 v4 v5 _ _ _ _ _ hm; exfalso; omega
  | succ d ih =>
    intro v2 v3 v4 v5 h2 h5 h4 h8 hD hm
    have e2 : (v2 + (1 : Int32)).toInt = v2.toInt + 1 := i_add rfl kt_1 (by omega)
    have hb114 : P2 (mX9_isLocked_b114 rec13 (nI c) v2 v4 σ) (mX9_isLocked_b114 rec13 (nI c) v2 v4 τ) (fun v σ' v' τ' => σ' = σ ∧ τ' = τ ∧ v' = v ∧ True) := by
      unfold mX9_isLocked_b114
      refine p2_eq rfl rfl (fun q => ?_) (fun q => ?_)
      · exact Hr _ (by omega) (by omega)
      · exact p2_ck rfl rfl (p2_ret ⟨rfl, rfl, rfl, trivial⟩)
    unfold mX9_isLocked_l56
    refine p2_le rfl rfl rfl rfl (fun q => hb114) (fun q => ?_)
    refine p2_eq rfl rfl (fun q1 => hb114) (fun q1 => ?_)
    have h3 := h4 q1
    have f20 : rGa σ 20 (nI c) = σ.2 20 c := rd_nI (by omega)
    have f20' : rGa τ 20 (nI c) = σ.2 20 c := (rd_nI (by omega)).trans k1
    rw [f20, f20']
    have ex : ((σ.2 20 c) + v5).toInt = (σ.2 20 c).toInt + v5.toInt := i_add rfl rfl (by omega)
    have em : ((9 : Int32) * v2).toInt = 9 * v2.toInt := i_mul (show (9 : Int32).toInt = 9 by decide) rfl (by omega)
    have em2 : ((6 : Int32) + ((9 : Int32) * v2)).toInt = 6 + 9 * v2.toInt := i_add (show (6 : Int32).toInt = 6 by decide) em (by omega)
    have em3 : (((6 : Int32) + ((9 : Int32) * v2)) + (1 : Int32)).toInt = 6 + 9 * v2.toInt + 1 := i_add em2 kt_1 (by omega)
    have em4 : ((((6 : Int32) + ((9 : Int32) * v2)) + (1 : Int32)) + v5).toInt = 6 + 9 * v2.toInt + 1 + v5.toInt := i_add em3 rfl (by omega)
    clear em em2 em3
    refine p2_ck (inb_nI (n := 600) (by omega) (by decide)) (inb_nI (n := 600) (by omega) (by decide)) ?_
    refine p2_ck (in_of (N := 600) (by omega) (by omega)) (in_of (N := 600) (by omega) (by omega)) ?_
    refine p2_ck (in_of (N := 4347) (by omega) (by omega)) (in_of (N := 4347) (by omega) (by omega)) ?_
    have e5 : (v5 + (1 : Int32)).toInt = v5.toInt + 1 := i_add rfl kt_1 (by omega)
    have hrd : rGa τ 13 ((σ.2 20 c) + v5) = rGa σ 13 ((σ.2 20 c) + v5) := (hA.2.2.2.1 _ (by rw [tn]; omega)).1
    refine p2_eq hrd (ab_m hA (by omega)) (fun q2 => ?_) (fun q2 => ?_)
    · unfold mX9_isLocked_b106
      exact ih v2 v3 1 (v5 + (1 : Int32)) h2 (by omega) (fun _ => h3) h8 hD (by omega)
    · unfold mX9_isLocked_b106
      exact ih v2 v3 0 (v5 + (1 : Int32)) h2 (by omega) (fun e => absurd rfl e) h8 hD (by omega)
set_option maxHeartbeats 1000000 in
theorem t2_isLocked_l13 {R C c : Nat} {σ τ : RS9} (hA : AB R C σ τ) (h0 : σ.2 1 1 = 0) (hc : c < C) : ∀ (d : Nat) (v2 : Int32), (0 ≤ v2.toInt ∧ v2.toInt ≤ 4) → 10 - v2.toInt < (d : Int) → P2 (mX9_isLocked_l13 d (nI c) v2 σ) (mX9_isLocked_l13 d (nI c) v2 τ) (fun v σ' v' τ' => σ' = σ ∧ τ' = τ ∧ v' = v ∧ True) := by
  obtain ⟨k1, k2, k3, k4⟩ := hA.2.2.2.2.2.1 h0 c hc
  have hb := hA.2.1
  have hv := hA.2.2.2.2.2.2
  intro d
  induction d with
  | zero => intro v2 h2 hm; exfalso; omega
  | succ d ih =>
    intro v2 h2 hm
    unfold mX9_isLocked_l13
    refine p2_ck rfl rfl ?_
    have h5 : (rGa σ 1 (5 : Int32)) = σ.2 1 5 := rfl
    refine p2_le (congrArg Int32.toInt h5) rfl (ab_m hA (by decide)) rfl (fun q => ?_) (fun q => ?_)
    · exact p2_ck rfl rfl (p2_ret ⟨rfl, rfl, rfl, trivial⟩)
    · have h55 := hv.2.2.1
      have em : ((9 : Int32) * v2).toInt = 9 * v2.toInt := i_mul (show (9 : Int32).toInt = 9 by decide) rfl (by omega)
      have em2 : ((6 : Int32) + ((9 : Int32) * v2)).toInt = 6 + 9 * v2.toInt := i_add (show (6 : Int32).toInt = 6 by decide) em (by omega)
      clear em
      refine p2_ck (in_of (N := 4347) (by omega) (by omega)) (in_of (N := 4347) (by omega) (by omega)) ?_
      refine p2_ck (inb_nI (n := 600) (by omega) (by decide)) (inb_nI (n := 600) (by omega) (by decide)) ?_
      have f21 : rGa σ 21 (nI c) = σ.2 21 c := rd_nI (by omega)
      have f21' : rGa τ 21 (nI c) = σ.2 21 c := (rd_nI (by omega)).trans k2
      have hm6 : rGa τ 1 ((6 : Int32) + ((9 : Int32) * v2)) = rGa σ 1 ((6 : Int32) + ((9 : Int32) * v2)) := ab_m hA (by omega)
      rw [hm6, f21, f21']
      have h8 : (rGa σ 1 ((6 : Int32) + ((9 : Int32) * v2))).toInt ≤ 8 := by
        have hidx : ((6 : Int32) + ((9 : Int32) * v2)).toNatClampNeg = 6 + 9 * v2.toInt.toNat := by rw [tn]; omega
        unfold rGa
        rw [hidx]
        exact hv.2.2.2.2.2.2 _ (by omega)
      refine p2_lt rfl rfl rfl rfl (fun q2 => ?_) (fun q2 => ?_)
      · unfold mX9_isLocked_b51
        exact t2_isLocked_l56 hA h0 hc (D := d) ih rFU v2 _ 0 0 (by omega) (by decide) (fun e => absurd rfl e) h8 (by omega) (by unfold rFU; rw [kt_0]; omega)
      · unfold mX9_isLocked_b51
        exact t2_isLocked_l56 hA h0 hc (D := d) ih rFU v2 _ 1 0 (by omega) (by decide) (fun _ => by omega) h8 (by omega) (by unfold rFU; rw [kt_0]; omega)
theorem t2_isLocked {R C c : Nat} {σ τ : RS9} (hA : AB R C σ τ) (hc : c < C) : P2 (mX9_isLocked (nI c) σ) (mX9_isLocked (nI c) τ) (fun v σ' v' τ' => σ' = σ ∧ τ' = τ ∧ v' = v ∧ True) := by
  unfold mX9_isLocked
  refine p2_ck rfl rfl ?_
  refine p2_eq (ab_m hA (by decide)) rfl (fun q => ?_) (fun q => ?_)
  · exact t2_isLocked_l13 hA q hc rFU 0 (by decide) (by unfold rFU; rw [kt_0]; omega)
  · exact p2_ck rfl rfl (p2_ret ⟨rfl, rfl, rfl, trivial⟩)
theorem t2_isIn {x x' a b : Int32} {σ τ : RS9} (h : x' = x) : P2 (mX9_isIn x a b σ) (mX9_isIn x' a b τ) (fun v σ' v' τ' => σ' = σ ∧ τ' = τ ∧ v' = v ∧ (v = 0 ∨ v = 1)) := by
  subst h
  have b14 : P2 (mX9_isIn_b14 σ) (mX9_isIn_b14 τ) (fun v σ' v' τ' => σ' = σ ∧ τ' = τ ∧ v' = v ∧ (v = 0 ∨ v = 1)) := p2_ck rfl rfl (p2_ret ⟨rfl, rfl, rfl, Or.inl rfl⟩)
  unfold mX9_isIn
  refine p2_lt rfl rfl rfl rfl (fun q => b14) (fun q => ?_)
  refine p2_lt rfl rfl rfl rfl (fun q => b14) (fun q => ?_)
  exact p2_ck rfl rfl (p2_ret ⟨rfl, rfl, rfl, Or.inr rfl⟩)
theorem t2_isLetter {x x' : Int32} {σ τ : RS9} (h : x' = x) : P2 (mX9_isLetter x σ) (mX9_isLetter x' τ) (fun v σ' v' τ' => σ' = σ ∧ τ' = τ ∧ v' = v ∧ (v = 0 ∨ v = 1)) := by
  unfold mX9_isLetter
  have b22 : P2 (mX9_isLetter_b22 σ) (mX9_isLetter_b22 τ) (fun v σ' v' τ' => σ' = σ ∧ τ' = τ ∧ v' = v ∧ (v = 0 ∨ v = 1)) := p2_ck rfl rfl (p2_ret ⟨rfl, rfl, rfl, Or.inr rfl⟩)
  refine p2_ro (t2_isIn h) (fun y _ => ?_)
  dsimp only
  refine p2_eq rfl rfl (fun q => ?_) (fun q => b22)
  refine p2_ro (t2_isIn h) (fun y _ => ?_)
  dsimp only
  refine p2_eq rfl rfl (fun q => ?_) (fun q => b22)
  exact p2_ck rfl rfl (p2_ret ⟨rfl, rfl, rfl, Or.inl rfl⟩)
theorem t2_isPiece_l34 {r n : Nat} {σ τ : RS9} (hr : rLen r = 600) (hn : n ≤ 600) (hrd : ∀ i, i < n → τ.2 r i = σ.2 r i) : ∀ (d : Nat) (v3 : Int32), (0 ≤ v3.toInt ∧ v3.toInt ≤ 700) → 1000 - v3.toInt < (d : Int) → P2 (mX9_isPiece_l34 d r (nI n) v3 σ) (mX9_isPiece_l34 d r (nI n) v3 τ) (fun v σ' v' τ' => σ' = σ ∧ τ' = τ ∧ v' = v ∧ True) := by
  have en : (nI n).toInt = (n : Int) := nI_toInt (by omega)
  intro d
  induction d with
  | zero => intro v3 _ hm; exfalso; omega
  | succ d ih =>
    intro v3 h3 hm
    unfold mX9_isPiece_l34
    refine p2_le en rfl rfl rfl (fun q => ?_) (fun q => ?_)
    · exact p2_ck rfl rfl (p2_ret ⟨rfl, rfl, rfl, trivial⟩)
    · refine p2_ck (by rw [hr]; exact in_of (by omega) (by omega)) (by rw [hr]; exact in_of (by omega) (by omega)) ?_
      refine p2_ro (t2_isLetter (hrd _ (by rw [tn]; omega))) (fun y _ => ?_)
      dsimp only
      refine p2_eq rfl rfl (fun q1 => ?_) (fun q1 => ?_)
      · have e3 : (v3 + (1 : Int32)).toInt = v3.toInt + 1 := i_add rfl kt_1 (by omega)
        exact ih (v3 + (1 : Int32)) (by omega) (by omega)
      · exact p2_ck rfl rfl (p2_ret ⟨rfl, rfl, rfl, trivial⟩)
theorem t2_isPiece {R C r n p : Nat} {L : Int} {σ τ : RS9} (hA : AB R C σ τ) (hP : PR p L σ τ) (hr : rLen r = 600) (hn : n ≤ 600) (hrd : ∀ i, i < n → τ.2 r i = σ.2 r i) : P2 (mX9_isPiece r (nI n) σ) (mX9_isPiece r (nI n) τ) (fun v σ' v' τ' => σ' = σ ∧ τ' = τ ∧ v' = v ∧ (v ≠ 0 → 1 ≤ n ∧ p < 40)) := by
  have en : (nI n).toInt = (n : Int) := nI_toInt (by omega)
  have hv := hA.2.2.2.2.2.2
  have b19 : P2 (mX9_isPiece_b19 σ) (mX9_isPiece_b19 τ) (fun v σ' v' τ' => σ' = σ ∧ τ' = τ ∧ v' = v ∧ (v ≠ 0 → 1 ≤ n ∧ p < 40)) := p2_ck rfl rfl (p2_ret ⟨rfl, rfl, rfl, fun e => absurd rfl e⟩)
  unfold mX9_isPiece
  refine p2_ck rfl rfl ?_
  have h4 : (rGa σ 1 (4 : Int32)) = σ.2 1 4 := rfl
  refine p2_lt en (congrArg Int32.toInt h4) rfl (ab_m hA (by decide)) (fun q => b19) (fun q => ?_)
  have hn1 : 1 ≤ n := by have := hv.2.1; omega
  refine p2_eq (by rw [hP.1, hP.2.1]) rfl (fun q1 => b19) (fun q1 => ?_)
  have hp4 : p < 40 := by
    have h1 := hP.2.2.1
    by_cases e : p = 40
    · exfalso; apply q1; rw [hP.1, e]; decide
    · omega
  refine p2_ck rfl rfl ?_
  refine p2_eq (ab_m hA (by decide)) rfl (fun q2 => ?_) (fun q2 => ?_)
  · exact p2_ck rfl rfl (p2_ret ⟨rfl, rfl, rfl, fun _ => ⟨hn1, hp4⟩⟩)
  · exact p2_tail (t2_isPiece_l34 hr hn hrd rFU 0 (by decide) (by unfold rFU; rw [kt_0]; omega)) (fun v s v' t q3 => ⟨q3.1, q3.2.1, q3.2.2.1, fun _ => ⟨hn1, hp4⟩⟩)
