/-! looking at pieces -/
theorem q1_ro {α β : Type} {Q : β → RS9 → Prop} {σ : RS9} {o : Option (α × RS9)} {P : α → Prop} {k : α × RS9 → Option (β × RS9)} (h1 : P1 o (fun v σ' => σ' = σ ∧ P v)) (h : ∀ v, P v → P1 (k (v, σ)) Q) : P1 (o.bind k) Q := by
  obtain ⟨v, s, e, rfl, q⟩ := h1
  rw [e]; exact h v q
def CP (p : Nat) (σ : RS9) : Prop := σ.1 33 = nI p ∧ p ≤ 40 ∧ VM9 (σ.2 1) ∧ ∀ i, i < p → 0 ≤ (σ.2 34 i).toInt ∧ (σ.2 34 i).toInt < (σ.2 35 i).toInt ∧ (σ.2 35 i).toInt ≤ 600 ∧ 0 ≤ (σ.2 41 i).toInt ∧ 0 ≤ (σ.2 42 i).toInt ∧ (σ.2 41 i).toInt + (σ.2 42 i).toInt ≤ 600
def nm9 (σ : RS9) (x : Int32) : Int := if σ.2 1 (443 + 61 * x.toInt.toNat) = -1 then (rGa σ 42 x).toInt else (σ.2 1 (443 + 61 * x.toInt.toNat)).toInt
section LOOK
variable {p : Nat} {σ : RS9}
theorem cp_33 (hC : CP p σ) : (σ.1 33).toInt = (p : Int) := by rw [hC.1]; exact nI_toInt (by have := hC.2.1; omega)
theorem cp_rd (hC : CP p σ) {x : Int32} (hx : 0 ≤ x.toInt ∧ x.toInt < (p : Int)) : 0 ≤ (rGa σ 34 x).toInt ∧ (rGa σ 34 x).toInt < (rGa σ 35 x).toInt ∧ (rGa σ 35 x).toInt ≤ 600 ∧ 0 ≤ (rGa σ 41 x).toInt ∧ 0 ≤ (rGa σ 42 x).toInt ∧ (rGa σ 41 x).toInt + (rGa σ 42 x).toInt ≤ 600 := hC.2.2.2 _ (by rw [tn]; omega)
theorem cp_ck (hC : CP p σ) {x : Int32} (hx : 0 ≤ x.toInt ∧ x.toInt < (p : Int)) {r : Nat} (hr : rLen r = 40) : rIn x (rLen r) = true := by
  have := hC.2.1
  rw [hr]; exact in_of hx.1 (by omega)
theorem nI_x {x : Int32} (h0 : 0 ≤ x.toInt) (h1 : x.toInt ≤ 600) : x = nI x.toInt.toNat := Int32.toInt_inj.mp (by rw [nI_toInt (by omega)]; omega)
theorem o_toldOf (hC : CP p σ) {x : Int32} (hx : 0 ≤ x.toInt ∧ x.toInt < (p : Int)) : P1 (mX9_toldOf x σ) (fun v σ' => σ' = σ ∧ (v = σ.2 1 (443 + 61 * x.toInt.toNat) ∧ -1 ≤ v.toInt ∧ v.toInt ≤ 60)) := by
  have hp := hC.2.1
  rw [nI_x hx.1 (by omega), toldOf_eq (by omega)]
  have e : (nI x.toInt.toNat).toInt.toNat = x.toInt.toNat := by rw [nI_toInt (by omega)]; rfl
  rw [e]
  exact q1_ret ⟨rfl, rfl, hC.2.2.1.2.2.2.2.1 _ (by omega)⟩
theorem nm_b (hC : CP p σ) {x : Int32} (hx : 0 ≤ x.toInt ∧ x.toInt < (p : Int)) : 0 ≤ nm9 σ x ∧ nm9 σ x ≤ 600 := by
  have hp := hC.2.1
  have h1 := cp_rd hC hx
  have h2 := hC.2.2.1.2.2.2.2.1 x.toInt.toNat (by omega)
  unfold nm9
  by_cases e : σ.2 1 (443 + 61 * x.toInt.toNat) = -1
  · rw [if_pos e]; omega
  · rw [if_neg e]
    have : (σ.2 1 (443 + 61 * x.toInt.toNat)).toInt ≠ -1 := fun h => e (Int32.toInt_inj.mp (h.trans kt_m1.symm))
    omega
theorem o_nowMany (hC : CP p σ) {x : Int32} (hx : 0 ≤ x.toInt ∧ x.toInt < (p : Int)) : P1 (mX9_nowMany x σ) (fun v σ' => σ' = σ ∧ (v.toInt = nm9 σ x)) := by
  unfold mX9_nowMany
  refine q1_ro (o_toldOf hC hx) (fun y hy => ?_)
  dsimp only
  refine q1_eq (fun q => ?_) (fun q => ?_)
  · refine q1_ck (cp_ck hC hx rfl) ?_
    exact q1_ret ⟨rfl, by unfold nm9; rw [if_pos (hy.1.symm.trans q)]⟩
  · refine q1_ro (o_toldOf hC hx) (fun z hz => ?_)
    exact q1_ret ⟨rfl, by unfold nm9; rw [if_neg (fun e => q (hy.1.trans e)), hz.1]⟩
theorem o_nowByte (hC : CP p σ) {x k : Int32} (hx : 0 ≤ x.toInt ∧ x.toInt < (p : Int)) (hk : 0 ≤ k.toInt ∧ k.toInt < nm9 σ x) : P1 (mX9_nowByte x k σ) (fun v σ' => σ' = σ ∧ True) := by
  have hp := hC.2.1
  have h1 := cp_rd hC hx
  have hn := nm_b hC hx
  unfold mX9_nowByte
  refine q1_ro (o_toldOf hC hx) (fun y hy => ?_)
  dsimp only
  refine q1_eq (fun q => ?_) (fun q => ?_)
  · have hk2 : k.toInt < (rGa σ 42 x).toInt := by
      have := hk.2; unfold nm9 at this; rw [if_pos (hy.1.symm.trans q)] at this; exact this
    refine q1_ck (cp_ck hC hx rfl) ?_
    have e : ((rGa σ 41 x) + k).toInt = (rGa σ 41 x).toInt + k.toInt := i_add rfl rfl (by omega)
    refine q1_ck (in_of (N := 600) (by omega) (by omega)) ?_
    exact q1_ret ⟨rfl, trivial⟩
  · have hk2 : k.toInt < y.toInt := by
      have := hk.2; unfold nm9 at this; rw [if_neg (fun e => q (hy.1.trans e)), ← hy.1] at this; exact this
    rw [nI_x hx.1 (by omega), nI_x hk.1 (by omega)]
    refine q1_bind (toldAt_eq (by omega) (by omega) σ) ?_
    exact q1_ret ⟨rfl, trivial⟩
theorem o_isIn {x a b : Int32} : P1 (mX9_isIn x a b σ) (fun v σ' => σ' = σ ∧ ((v = 0 ∨ v = 1) ∧ (v ≠ 0 → a.toInt ≤ x.toInt ∧ x.toInt ≤ b.toInt))) := by
  unfold mX9_isIn
  refine q1_lt rfl rfl (fun q => ?_) (fun q => ?_)
  · exact q1_ck rfl (q1_ret ⟨rfl, Or.inl rfl, fun e => absurd rfl e⟩)
  · refine q1_lt rfl rfl (fun q2 => ?_) (fun q2 => ?_)
    · exact q1_ck rfl (q1_ret ⟨rfl, Or.inl rfl, fun e => absurd rfl e⟩)
    · exact q1_ck rfl (q1_ret ⟨rfl, Or.inr rfl, fun _ => ⟨q, q2⟩⟩)
theorem o_isLetter {x : Int32} : P1 (mX9_isLetter x σ) (fun v σ' => σ' = σ ∧ (v = 0 ∨ v = 1)) := by
  refine q1_tail (p1_of (t2_isLetter (σ := σ) (τ := σ) (x := x) rfl)) (fun v s h => ⟨h.1, h.2.2.2⟩)
theorem o_isPieceThere (hC : CP p σ) {x : Int32} : P1 (mX9_isPieceThere x σ) (fun v σ' => σ' = σ ∧ ((v = 0 ∨ v = 1) ∧ (v ≠ 0 → 0 ≤ x.toInt ∧ x.toInt < (p : Int)))) := by
  have hp := hC.2.1
  have e : ((σ.1 33) - (1 : Int32)).toInt = (p : Int) - 1 := i_sub (cp_33 hC) kt_1 (by omega)
  unfold mX9_isPieceThere
  refine q1_ro o_isIn (fun y hy => ?_)
  dsimp only
  refine q1_ck (nb_of hy.1) (q1_ret ⟨rfl, hy.1, fun h => ?_⟩)
  have := hy.2 h
  rw [e, kt_0] at this
  omega
theorem o_areLike_l24 (hC : CP p σ) {x y : Int32} (hx : 0 ≤ x.toInt ∧ x.toInt < (p : Int)) (hy : 0 ≤ y.toInt ∧ y.toInt < (p : Int)) : ∀ (d : Nat) (v3 v4 : Int32), (v3 = 0 ∨ v3 = 1) → (v3 ≠ 0 → rGa σ 42 x = rGa σ 42 y) → (0 ≤ v4.toInt ∧ v4.toInt ≤ 700) → 1000 - v4.toInt < (d : Int) → P1 (mX9_areLike_l24 d x y v3 v4 σ) (fun v σ' => σ' = σ ∧ (v = 0 ∨ v = 1)) := by
  have h1 := cp_rd hC hx
  have h2 := cp_rd hC hy
  intro d
  induction d with
  | zero => intro v3 v4 _ _ _ hm; exfalso; omega
  | succ d ih =>
    intro v3 v4 hb he h4 hm
    unfold mX9_areLike_l24
    refine q1_ck (cp_ck hC hx rfl) ?_
    refine q1_le rfl rfl (fun q => ?_) (fun q => ?_)
    · exact q1_ck (nb_of hb) (q1_ret ⟨rfl, hb⟩)
    · refine q1_eq (fun q2 => ?_) (fun q2 => ?_)
      · exact q1_ck (nb_of hb) (q1_ret ⟨rfl, hb⟩)
      · have h3 := he q2
        rw [← h3] at h2
        have e1 : ((rGa σ 41 x) + v4).toInt = (rGa σ 41 x).toInt + v4.toInt := i_add rfl rfl (by omega)
        have e2 : ((rGa σ 41 y) + v4).toInt = (rGa σ 41 y).toInt + v4.toInt := i_add rfl rfl (by omega)
        have e4 : (v4 + (1 : Int32)).toInt = v4.toInt + 1 := i_add rfl kt_1 (by omega)
        refine q1_ck (cp_ck hC hx rfl) (q1_ck (in_of (N := 600) (by omega) (by omega)) (q1_ck (cp_ck hC hy rfl) (q1_ck (in_of (N := 600) (by omega) (by omega)) ?_)))
        refine q1_eq (fun q3 => ?_) (fun q3 => ?_)
        · exact ih 1 (v4 + (1 : Int32)) (Or.inr rfl) (fun _ => h3) (by omega) (by omega)
        · exact ih 0 (v4 + (1 : Int32)) (Or.inl rfl) (fun e => absurd rfl e) (by omega) (by omega)
theorem o_areLike (hC : CP p σ) {x y : Int32} (hx : 0 ≤ x.toInt ∧ x.toInt < (p : Int)) (hy : 0 ≤ y.toInt ∧ y.toInt < (p : Int)) : P1 (mX9_areLike x y σ) (fun v σ' => σ' = σ ∧ (v = 0 ∨ v = 1)) := by
  unfold mX9_areLike
  refine q1_ck (cp_ck hC hx rfl) (q1_ck (cp_ck hC hy rfl) ?_)
  refine q1_eq (fun q => ?_) (fun q => ?_)
  · exact o_areLike_l24 hC hx hy rFU 1 0 (Or.inr rfl) (fun _ => q) (by decide) (by unfold rFU; rw [kt_0]; omega)
  · exact o_areLike_l24 hC hx hy rFU 0 0 (Or.inl rfl) (fun e => absurd rfl e) (by decide) (by unfold rFU; rw [kt_0]; omega)
theorem o_likeMany (hC : CP p σ) {x : Int32} (hx : 0 ≤ x.toInt ∧ x.toInt < (p : Int)) : P1 (mX9_likeMany x σ) (fun v σ' => σ' = σ ∧ True) := by
  have hp := hC.2.1
  have key : ∀ (d : Nat) (v2 v3 : Int32), (0 ≤ v3.toInt ∧ v3.toInt ≤ 100) → 1000 - v3.toInt < (d : Int) → P1 (mX9_likeMany_l4 d x v2 v3 σ) (fun v σ' => σ' = σ ∧ True) := by
    intro d
    induction d with
    | zero => intro v2 v3 _ hm; exfalso; omega
    | succ d ih =>
      intro v2 v3 h3 hm
      unfold mX9_likeMany_l4
      refine q1_le (cp_33 hC) rfl (fun q => q1_ret ⟨rfl, trivial⟩) (fun q => ?_)
      have e3 : (v3 + (1 : Int32)).toInt = v3.toInt + 1 := i_add rfl kt_1 (by omega)
      refine q1_ro (o_areLike hC hx (by omega)) (fun y _ => ?_)
      dsimp only
      exact q1_eq (fun _ => ih _ _ (by omega) (by omega)) (fun _ => ih _ _ (by omega) (by omega))
  exact key rFU 0 0 (by decide) (by unfold rFU; rw [kt_0]; omega)
theorem o_wordsOf (hC : CP p σ) {x : Int32} (hx : 0 ≤ x.toInt ∧ x.toInt < (p : Int)) : P1 (mX9_wordsOf x σ) (fun v σ' => σ' = σ ∧ True) := by
  have hn := nm_b hC hx
  have key : ∀ (d : Nat) (v2 v3 : Int32), (0 ≤ v3.toInt ∧ v3.toInt ≤ 700) → 1000 - v3.toInt < (d : Int) → P1 (mX9_wordsOf_l4 d x v2 v3 σ) (fun v σ' => σ' = σ ∧ True) := by
    intro d
    induction d with
    | zero => intro v2 v3 _ hm; exfalso; omega
    | succ d ih =>
      intro v2 v3 h3 hm
      unfold mX9_wordsOf_l4
      refine q1_ro (o_nowMany hC hx) (fun y hy => ?_)
      dsimp only
      refine q1_le hy rfl (fun q => q1_ret ⟨rfl, trivial⟩) (fun q => ?_)
      have e3 : (v3 + (1 : Int32)).toInt = v3.toInt + 1 := i_add rfl kt_1 (by omega)
      have nx : ∀ w : Int32, P1 (mX9_wordsOf_l4 d x w (v3 + (1 : Int32)) σ) (fun v σ' => σ' = σ ∧ True) := fun w => ih w _ (by omega) (by omega)
      refine q1_ro (o_nowByte hC hx (by omega)) (fun b _ => ?_)
      refine q1_ro o_isLetter (fun b _ => ?_)
      dsimp only
      refine q1_eq (fun _ => nx _) (fun _ => ?_)
      refine q1_eq (fun _ => nx _) (fun q3 => ?_)
      have h0 : v3.toInt ≠ 0 := fun h => q3 (Int32.toInt_inj.mp (h.trans kt_0.symm))
      have e4 : (v3 - (1 : Int32)).toInt = v3.toInt - 1 := i_sub rfl kt_1 (by omega)
      refine q1_ro (o_nowByte hC hx (by omega)) (fun b _ => ?_)
      refine q1_ro o_isLetter (fun b _ => ?_)
      dsimp only
      exact q1_eq (fun _ => nx _) (fun _ => nx _)
  exact key rFU 0 0 (by decide) (by unfold rFU; rw [kt_0]; omega)
end LOOK
