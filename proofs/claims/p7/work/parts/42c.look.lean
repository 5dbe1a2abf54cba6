section LOOK2
variable {p : Nat} {σ : RS9}
theorem cp_sf (hC : CP p σ) {k : Nat} {v : Int32} (hk : 33 ≠ k) : CP p (rSf σ k v) := ⟨(sf_ne hk).trans hC.1, hC.2⟩
theorem o_knownOf (hC : CP p σ) {x : Int32} (hx : 0 ≤ x.toInt ∧ x.toInt < (p : Int)) : P1 (mX9_knownOf x σ) (fun v σ' => σ' = σ ∧ True) := by
  have h1 := cp_rd hC hx
  have hv := hC.2.2.1
  have inner : ∀ (D : Nat) (rec2 : Int32 → Int32 → RS9 → Option (Int32 × RS9)) (v2 v3 : Int32), (P1 (rec2 x (v2 + (1 : Int32)) σ) (fun v σ' => σ' = σ ∧ True)) → (2883 ≤ v3.toInt ∧ v3.toInt ≤ 4225) → ∀ (d : Nat) (v4 v5 : Int32), (v4 ≠ 0 → (rGa σ 42 x).toInt ≤ 60) → (0 ≤ v5.toInt ∧ v5.toInt ≤ 700) → 1000 - v5.toInt < (d : Int) → P1 (mX9_knownOf_l47 rec2 d x v2 v3 v4 v5 σ) (fun v σ' => σ' = σ ∧ True) := by
    intro D rec2 v2 v3 Hr h3 d
    induction d with
    | zero => intro v4 v5 _ _ hm; exfalso; omega
    | succ d ih =>
      intro v4 v5 h4 h5 hm
      have b104 : P1 (mX9_knownOf_b104 rec2 x v2 v4 σ) (fun v σ' => σ' = σ ∧ True) := by
        unfold mX9_knownOf_b104
        exact q1_eq (fun _ => Hr) (fun _ => q1_ret ⟨rfl, trivial⟩)
      unfold mX9_knownOf_l47
      refine q1_ck (cp_ck hC hx rfl) ?_
      refine q1_le rfl rfl (fun q => b104) (fun q => ?_)
      refine q1_eq (fun q2 => b104) (fun q2 => ?_)
      have h6 := h4 q2
      have e1 : ((rGa σ 41 x) + v5).toInt = (rGa σ 41 x).toInt + v5.toInt := i_add rfl rfl (by omega)
      have e3 : (v3 + (1 : Int32)).toInt = v3.toInt + 1 := i_add rfl kt_1 (by omega)
      have e4 : ((v3 + (1 : Int32)) + v5).toInt = v3.toInt + 1 + v5.toInt := i_add e3 rfl (by omega)
      have e5 : (v5 + (1 : Int32)).toInt = v5.toInt + 1 := i_add rfl kt_1 (by omega)
      refine q1_ck (in_of (N := 4347) (by omega) (by omega)) (q1_ck (cp_ck hC hx rfl) (q1_ck (in_of (N := 600) (by omega) (by omega)) ?_))
      exact q1_eq (fun _ => ih 1 (v5 + (1 : Int32)) (fun _ => h6) (by omega) (by omega)) (fun _ => ih 0 (v5 + (1 : Int32)) (fun e => absurd rfl e) (by omega) (by omega))
  have key : ∀ (d : Nat) (v2 : Int32), (0 ≤ v2.toInt ∧ v2.toInt ≤ 100) → 1000 - v2.toInt < (d : Int) → P1 (mX9_knownOf_l2 d x v2 σ) (fun v σ' => σ' = σ ∧ True) := by
    intro d
    induction d with
    | zero => intro v2 _ hm; exfalso; omega
    | succ d ih =>
      intro v2 h2 hm
      have h42 := hv.2.2.2.1
      unfold mX9_knownOf_l2
      refine q1_ck rfl ?_
      refine q1_le (show (rGa σ 1 (42 : Int32)).toInt = (σ.2 1 42).toInt from rfl) rfl (fun q => q1_ret ⟨rfl, trivial⟩) (fun q => ?_)
      have e0 : ((122 : Int32) * v2).toInt = 122 * v2.toInt := i_mul (show (122 : Int32).toInt = 122 by decide) rfl (by omega)
      have e1 : ((2883 : Int32) + ((122 : Int32) * v2)).toInt = 2883 + 122 * v2.toInt := i_add (show (2883 : Int32).toInt = 2883 by decide) e0 (by omega)
      have e2 : (v2 + (1 : Int32)).toInt = v2.toInt + 1 := i_add rfl kt_1 (by omega)
      have Hr := ih (v2 + (1 : Int32)) (by omega) (by omega)
      have h60 : (rGa σ 1 ((2883 : Int32) + ((122 : Int32) * v2))).toInt ≤ 60 := by
        have hidx : ((2883 : Int32) + ((122 : Int32) * v2)).toNatClampNeg = 2883 + 61 * (2 * v2.toInt.toNat) := by rw [tn]; omega
        unfold rGa
        rw [hidx]
        exact (hv.2.2.2.2.2.1 _ (by omega)).2
      refine q1_ck (in_of (N := 4347) (by omega) (by omega)) (q1_ck (cp_ck hC hx rfl) ?_)
      refine q1_eq (fun q2 => ?_) (fun q2 => ?_)
      · exact inner d _ v2 _ Hr (by omega) rFU 1 0 (fun _ => by rw [← q2]; exact h60) (by decide) (by unfold rFU; rw [kt_0]; omega)
      · exact inner d _ v2 _ Hr (by omega) rFU 0 0 (fun e => absurd rfl e) (by decide) (by unfold rFU; rw [kt_0]; omega)
  exact key rFU 0 (by decide) (by unfold rFU; rw [kt_0]; omega)
theorem o_toldMany (hC : CP p σ) : P1 (mX9_toldMany σ) (fun v σ' => σ' = σ ∧ True) := by
  have hp := hC.2.1
  have key : ∀ (d : Nat) (v1 v2 : Int32), (0 ≤ v2.toInt ∧ v2.toInt ≤ 100) → 1000 - v2.toInt < (d : Int) → P1 (mX9_toldMany_l4 d v1 v2 σ) (fun v σ' => σ' = σ ∧ True) := by
    intro d
    induction d with
    | zero => intro v1 v2 _ hm; exfalso; omega
    | succ d ih =>
      intro v1 v2 h2 hm
      unfold mX9_toldMany_l4
      refine q1_le (cp_33 hC) rfl (fun q => q1_ret ⟨rfl, trivial⟩) (fun q => ?_)
      have e2 : (v2 + (1 : Int32)).toInt = v2.toInt + 1 := i_add rfl kt_1 (by omega)
      refine q1_ro (o_toldOf hC (by omega)) (fun y _ => ?_)
      dsimp only
      exact q1_eq (fun _ => ih _ _ (by omega) (by omega)) (fun _ => ih _ _ (by omega) (by omega))
  exact key rFU 0 0 (by decide) (by unfold rFU; rw [kt_0]; omega)
theorem o_skeleton (hC : CP p σ) : P1 (mX9_skeleton σ) (fun v σ' => σ' = σ ∧ True) := by
  have hp := hC.2.1
  have key : ∀ (d : Nat) (v1 v2 : Int32), (0 ≤ v2.toInt ∧ v2.toInt ≤ 100) → 1000 - v2.toInt < (d : Int) → P1 (mX9_skeleton_l9 d v1 v2 σ) (fun v σ' => σ' = σ ∧ True) := by
    intro d
    induction d with
    | zero => intro v1 v2 _ hm; exfalso; omega
    | succ d ih =>
      intro v1 v2 h2 hm
      unfold mX9_skeleton_l9
      refine q1_le (cp_33 hC) rfl (fun q => q1_ret ⟨rfl, trivial⟩) (fun q => ?_)
      have e2 : (v2 + (1 : Int32)).toInt = v2.toInt + 1 := i_add rfl kt_1 (by omega)
      refine q1_ck (cp_ck hC (by omega) rfl) (q1_ck (cp_ck hC (by omega) rfl) ?_)
      exact ih _ _ (by omega) (by omega)
  unfold mX9_skeleton
  exact q1_ck rfl (key rFU _ 0 (by decide) (by unfold rFU; rw [kt_0]; omega))
theorem o_unlikeTexts (hC : CP p σ) : P1 (mX9_unlikeTexts σ) (fun v σ' => σ' = σ ∧ True) := by
  have hp := hC.2.1
  have inner : ∀ (rec4 : Int32 → Int32 → RS9 → Option (Int32 × RS9)) (v2 : Int32), (∀ w, P1 (rec4 w (v2 + (1 : Int32)) σ) (fun v σ' => σ' = σ ∧ True)) → (0 ≤ v2.toInt ∧ v2.toInt < (p : Int)) → ∀ (d : Nat) (v1 v3 v4 : Int32), (0 ≤ v4.toInt ∧ v4.toInt ≤ 100) → 1000 - v4.toInt < (d : Int) → P1 (mX9_unlikeTexts_l17 rec4 d v1 v2 v3 v4 σ) (fun v σ' => σ' = σ ∧ True) := by
    intro rec4 v2 Hr h2 d
    induction d with
    | zero => intro v1 v3 v4 _ hm; exfalso; omega
    | succ d ih =>
      intro v1 v3 v4 h4 hm
      unfold mX9_unlikeTexts_l17
      refine q1_le rfl rfl (fun q => q1_eq (fun _ => Hr _) (fun _ => Hr _)) (fun q => ?_)
      have e4 : (v4 + (1 : Int32)).toInt = v4.toInt + 1 := i_add rfl kt_1 (by omega)
      have nx : ∀ w, P1 (mX9_unlikeTexts_l17 rec4 d v1 v2 w (v4 + (1 : Int32)) σ) (fun v σ' => σ' = σ ∧ True) := fun w => ih v1 w _ (by omega) (by omega)
      refine q1_eq (fun _ => nx _) (fun _ => ?_)
      refine q1_ro (o_areLike hC h2 (by omega)) (fun y _ => ?_)
      dsimp only
      exact q1_eq (fun _ => nx _) (fun _ => nx _)
  have key : ∀ (d : Nat) (v1 v2 : Int32), (0 ≤ v2.toInt ∧ v2.toInt ≤ 100) → 1000 - v2.toInt < (d : Int) → P1 (mX9_unlikeTexts_l4 d v1 v2 σ) (fun v σ' => σ' = σ ∧ True) := by
    intro d
    induction d with
    | zero => intro v1 v2 _ hm; exfalso; omega
    | succ d ih =>
      intro v1 v2 h2 hm
      unfold mX9_unlikeTexts_l4
      refine q1_le (cp_33 hC) rfl (fun q => q1_ret ⟨rfl, trivial⟩) (fun q => ?_)
      have e2 : (v2 + (1 : Int32)).toInt = v2.toInt + 1 := i_add rfl kt_1 (by omega)
      exact inner _ v2 (fun w => ih w _ (by omega) (by omega)) (by omega) rFU _ _ 0 (by decide) (by unfold rFU; rw [kt_0]; omega)
  exact key rFU 0 0 (by decide) (by unfold rFU; rw [kt_0]; omega)
theorem o_allWords (hC : CP p σ) : P1 (mX9_allWords σ) (fun v σ' => σ' = σ ∧ True) := by
  have hp := hC.2.1
  have key : ∀ (d : Nat) (v1 v2 : Int32), (0 ≤ v2.toInt ∧ v2.toInt ≤ 100) → 1000 - v2.toInt < (d : Int) → P1 (mX9_allWords_l4 d v1 v2 σ) (fun v σ' => σ' = σ ∧ True) := by
    intro d
    induction d with
    | zero => intro v1 v2 _ hm; exfalso; omega
    | succ d ih =>
      intro v1 v2 h2 hm
      unfold mX9_allWords_l4
      refine q1_le (cp_33 hC) rfl (fun q => q1_ret ⟨rfl, trivial⟩) (fun q => ?_)
      have e2 : (v2 + (1 : Int32)).toInt = v2.toInt + 1 := i_add rfl kt_1 (by omega)
      refine q1_ro (o_wordsOf hC (by omega)) (fun y _ => ?_)
      exact ih _ _ (by omega) (by omega)
  exact key rFU 0 0 (by decide) (by unfold rFU; rw [kt_0]; omega)
theorem o_longest (hC : CP p σ) : P1 (mX9_longest σ) (fun v σ' => σ' = σ ∧ True) := by
  have hp := hC.2.1
  have key : ∀ (d : Nat) (v1 v2 : Int32), (0 ≤ v2.toInt ∧ v2.toInt ≤ 100) → 1000 - v2.toInt < (d : Int) → P1 (mX9_longest_l4 d v1 v2 σ) (fun v σ' => σ' = σ ∧ True) := by
    intro d
    induction d with
    | zero => intro v1 v2 _ hm; exfalso; omega
    | succ d ih =>
      intro v1 v2 h2 hm
      unfold mX9_longest_l4
      refine q1_le (cp_33 hC) rfl (fun q => q1_ret ⟨rfl, trivial⟩) (fun q => ?_)
      have e2 : (v2 + (1 : Int32)).toInt = v2.toInt + 1 := i_add rfl kt_1 (by omega)
      have nx : ∀ w, P1 (mX9_longest_l4 d w (v2 + (1 : Int32)) σ) (fun v σ' => σ' = σ ∧ True) := fun w => ih w _ (by omega) (by omega)
      refine q1_ck (cp_ck hC (by omega) rfl) ?_
      refine q1_le rfl rfl (fun _ => nx _) (fun _ => ?_)
      exact q1_ck (cp_ck hC (by omega) rfl) (nx _)
  exact key rFU 0 0 (by decide) (by unfold rFU; rw [kt_0]; omega)
theorem o_hasWord (hC : CP p σ) {x n : Int32} (hx : 0 ≤ x.toInt ∧ x.toInt < (p : Int)) (hn : 1 ≤ n.toInt ∧ n.toInt ≤ 8) : P1 (mX9_hasWord x n σ) (fun v σ' => σ' = σ ∧ True) := by
  have hb := nm_b hC hx
  have inner : ∀ (rec2 : Int32 → Int32 → Int32 → RS9 → Option (Int32 × RS9)) (v3 : Int32), (P1 (rec2 x n (v3 + (1 : Int32)) σ) (fun v σ' => σ' = σ ∧ True)) → (0 ≤ v3.toInt ∧ v3.toInt + n.toInt ≤ nm9 σ x) → ∀ (d : Nat) (v4 v5 : Int32), (0 ≤ v5.toInt ∧ v5.toInt ≤ 100) → 1000 - v5.toInt < (d : Int) → P1 (mX9_hasWord_l19 rec2 d x n v3 v4 v5 σ) (fun v σ' => σ' = σ ∧ True) := by
    intro rec2 v3 Hr h3 d
    induction d with
    | zero => intro v4 v5 _ hm; exfalso; omega
    | succ d ih =>
      intro v4 v5 h5 hm
      have b86 : P1 (mX9_hasWord_b86 rec2 x n v3 v4 σ) (fun v σ' => σ' = σ ∧ True) := by
        unfold mX9_hasWord_b86
        exact q1_eq (fun _ => Hr) (fun _ => q1_ck rfl (q1_ret ⟨rfl, trivial⟩))
      unfold mX9_hasWord_l19
      refine q1_le rfl rfl (fun q => b86) (fun q => ?_)
      refine q1_eq (fun q2 => b86) (fun q2 => ?_)
      have e3 : (v3 + v5).toInt = v3.toInt + v5.toInt := i_add rfl rfl (by omega)
      have e5 : (v5 + (1 : Int32)).toInt = v5.toInt + 1 := i_add rfl kt_1 (by omega)
      have nx : ∀ w, P1 (mX9_hasWord_l19 rec2 d x n v3 w (v5 + (1 : Int32)) σ) (fun v σ' => σ' = σ ∧ True) := fun w => ih w _ (by omega) (by omega)
      refine q1_ro (o_nowByte hC hx (by omega)) (fun y _ => ?_)
      dsimp only
      refine q1_ck (in_of (N := 400) (by omega) (by omega)) ?_
      refine q1_ro o_isIn (fun z _ => ?_)
      dsimp only
      exact q1_eq (fun _ => q1_eq (fun _ => nx _) (fun _ => nx _)) (fun _ => q1_eq (fun _ => nx _) (fun _ => nx _))
  have key : ∀ (d : Nat) (v3 : Int32), (0 ≤ v3.toInt ∧ v3.toInt ≤ 700) → 1000 - v3.toInt < (d : Int) → P1 (mX9_hasWord_l2 d x n v3 σ) (fun v σ' => σ' = σ ∧ True) := by
    intro d
    induction d with
    | zero => intro v3 _ hm; exfalso; omega
    | succ d ih =>
      intro v3 h3 hm
      unfold mX9_hasWord_l2
      refine q1_ro (o_nowMany hC hx) (fun y hy => ?_)
      dsimp only
      have e3 : (v3 + n).toInt = v3.toInt + n.toInt := i_add rfl rfl (by omega)
      refine q1_lt hy e3 (fun q => q1_ck rfl (q1_ret ⟨rfl, trivial⟩)) (fun q => ?_)
      have e1 : (v3 + (1 : Int32)).toInt = v3.toInt + 1 := i_add rfl kt_1 (by omega)
      exact inner _ v3 (ih _ (by omega) (by omega)) (by omega) rFU _ 0 (by decide) (by unfold rFU; rw [kt_0]; omega)
  exact key rFU 0 (by decide) (by unfold rFU; rw [kt_0]; omega)
theorem o_isWord {n : Int32} (hn : 0 ≤ n.toInt ∧ n.toInt ≤ 400) : P1 (mX9_isWord n σ) (fun v σ' => σ' = σ ∧ ((v = 0 ∨ v = 1) ∧ (v ≠ 0 → 1 ≤ n.toInt ∧ n.toInt ≤ 8))) := by
  have key : ∀ (d : Nat) (v2 v3 : Int32), (v2 = 0 ∨ v2 = 1) → (v2 ≠ 0 → 1 ≤ n.toInt ∧ n.toInt ≤ 8) → (0 ≤ v3.toInt ∧ v3.toInt ≤ 500) → 1000 - v3.toInt < (d : Int) → P1 (mX9_isWord_l10 d n v2 v3 σ) (fun v σ' => σ' = σ ∧ ((v = 0 ∨ v = 1) ∧ (v ≠ 0 → 1 ≤ n.toInt ∧ n.toInt ≤ 8))) := by
    intro d
    induction d with
    | zero => intro v2 v3 _ _ _ hm; exfalso; omega
    | succ d ih =>
      intro v2 v3 hb h8 h3 hm
      have b39 : P1 (mX9_isWord_b39 v2 σ) (fun v σ' => σ' = σ ∧ ((v = 0 ∨ v = 1) ∧ (v ≠ 0 → 1 ≤ n.toInt ∧ n.toInt ≤ 8))) := q1_ck (nb_of hb) (q1_ret ⟨rfl, hb, h8⟩)
      unfold mX9_isWord_l10
      refine q1_le rfl rfl (fun q => b39) (fun q => ?_)
      refine q1_eq (fun q2 => b39) (fun q2 => ?_)
      have e3 : (v3 + (1 : Int32)).toInt = v3.toInt + 1 := i_add rfl kt_1 (by omega)
      refine q1_ck (in_of (N := 400) (by omega) (by omega)) ?_
      refine q1_ro o_isIn (fun y hy => ?_)
      exact ih _ _ hy.1 (fun _ => h8 q2) (by omega) (by omega)
  unfold mX9_isWord
  refine q1_ro o_isIn (fun y hy => ?_)
  refine key rFU _ 0 hy.1 (fun h => ?_) (by decide) (by unfold rFU; rw [kt_0]; omega)
  have := hy.2 h
  rw [kt_1, show (8 : Int32).toInt = 8 by decide] at this
  exact this
end LOOK2
