/-! what is built -/
def FY (σ0 σ : RS9) : Prop := (∀ k, k ≠ 46 → k ≠ 47 → k ≠ 49 → k ≠ 52 → k ≠ 53 → σ.2 k = σ0.2 k) ∧ ∀ k, k ≠ 56 → σ.1 k = σ0.1 k
theorem fy_tr {a b c : RS9} (h1 : FY a b) (h2 : FY b c) : FY a c := ⟨fun k e1 e2 e3 e4 e5 => (h2.1 k e1 e2 e3 e4 e5).trans (h1.1 k e1 e2 e3 e4 e5), fun k e => (h2.2 k e).trans (h1.2 k e)⟩
theorem fy_x {a b : RS9} (h : FX a b) : FY a b := ⟨fun k e1 e2 _ _ e5 => h.1 k e1 e2 e5, h.2⟩
theorem fy_r (a : RS9) : FY a a := ⟨fun _ _ _ _ _ _ => rfl, fun _ _ => rfl⟩
theorem fy_49 {a : RS9} {x v : Int32} : FY a (rSa a 49 x v) := ⟨fun k _ _ e _ _ => sa_ne e, fun _ _ => rfl⟩
theorem fy_52 {a : RS9} {x v : Int32} : FY a (rSa a 52 x v) := ⟨fun k _ _ _ e _ => sa_ne e, fun _ _ => rfl⟩
theorem ba_y {p : Nat} {σ σ' : RS9} (h : BA p σ σ) (a : FY σ σ') : BA p σ σ' := by
  obtain ⟨b1, b2, b3, b4, b5, b6⟩ := h
  have r : ∀ k, k < 46 → σ'.2 k = σ.2 k := fun k hk => a.1 k (by omega) (by omega) (by omega) (by omega) (by omega)
  refine ⟨fun i _ _ => by rw [r 1 (by decide)], b2, b3, (a.2 33 (by decide)).trans b3, b5, fun i hi => ?_⟩
  rw [r 34 (by decide), r 35 (by decide), r 36 (by decide), r 37 (by decide), r 38 (by decide)]
  exact b6 i hi
/-- pieces lie one behind another -/
def SRT (p M : Nat) (σ : RS9) : Prop := σ.2 1 0 = nI M ∧ M ≤ 400 ∧ ∀ i, i < p → (σ.2 35 i).toInt ≤ M ∧ ∀ j, j < i → (σ.2 35 j).toInt ≤ (σ.2 34 i).toInt
def ff (σ : RS9) (p M i : Nat) : Int := if i < p then (σ.2 34 i).toInt else M
theorem sm_hi {p M : Nat} {σ : RS9} (hB : BA p σ σ) (hS : SRT p M σ) (h0 : ∀ i, i < p → 0 ≤ bo σ i) : ∀ d i, i + d = p → sm σ i ≤ sm σ p + (M - ff σ p M i) := by
  intro d
  induction d with
  | zero => intro i hi; have : i = p := by omega
            subst this
            unfold ff; rw [if_neg (by omega)]; omega
  | succ d ih =>
    intro i hi
    have h1 := ih (i + 1) (by omega)
    have h2 : sm σ (i + 1) = sm σ i + (bo σ i - ((σ.2 35 i).toInt - (σ.2 34 i).toInt)) := rfl
    have h3 := h0 i (by omega)
    have h4 : (σ.2 35 i).toInt ≤ ff σ p M (i + 1) := by
      unfold ff
      by_cases e : i + 1 < p
      · rw [if_pos e]; exact (hS.2.2 (i + 1) e).2 i (by omega)
      · rw [if_neg e]; exact (hS.2.2 i (by omega)).1
    have h5 : ff σ p M i = (σ.2 34 i).toInt := by unfold ff; rw [if_pos (by omega)]
    omega
def tt (σ : RS9) : Nat → Int
  | 0 => 0
  | i + 1 => (σ.2 35 i).toInt
theorem sm_lo {p M : Nat} {σ : RS9} (hB : BA p σ σ) (hS : SRT p M σ) (h0 : ∀ i, i < p → 0 ≤ bo σ i) : ∀ i, i ≤ p → M - tt σ i ≤ sm σ i := by
  intro i
  induction i with
  | zero => intro _; show (M : Int) - 0 ≤ (σ.2 1 0).toInt; rw [hS.1, nI_toInt (by have := hS.2.1; omega)]; omega
  | succ i ih =>
    intro hi
    have h1 := ih (by omega)
    have h2 : sm σ (i + 1) = sm σ i + (bo σ i - ((σ.2 35 i).toInt - (σ.2 34 i).toInt)) := rfl
    have h3 := h0 i (by omega)
    have h4 : tt σ i ≤ (σ.2 34 i).toInt := by
      cases i with
      | zero => exact (hB.2.2.2.2.2 0 (by omega)).2.1
      | succ j => exact (hS.2.2 (j + 1) (by omega)).2 j (by omega)
    show (M : Int) - (σ.2 35 i).toInt ≤ _
    omega
section BLD
variable {p M : Nat} {σ0 : RS9}
def BQ (p : Nat) (σ0 : RS9) (v : Int32) (σ' : RS9) : Prop := v.toInt = sm σ0 p ∧ FY σ0 σ' ∧ ∀ i, i < p → 0 ≤ (σ'.2 52 i).toInt ∧ (σ'.2 52 i).toInt ≤ 600
theorem b_136 (hB : BA p σ0 σ0) (hS : SRT p M σ0) (h0 : ∀ i, i < p → 0 ≤ bo σ0 i) (h6 : sm σ0 p ≤ 600) : ∀ (d n k : Nat) (σ : RS9), FY σ0 σ → (∀ i, i < p → 0 ≤ (σ.2 52 i).toInt ∧ (σ.2 52 i).toInt ≤ 600) → (n : Int) = sm σ0 p - M + k → k ≤ M → 1000 < k + d → P1 (mX9_builds_l136 d (nI n) (nI k) σ) (BQ p σ0) := by
  have hM := hS.2.1
  intro d
  induction d with
  | zero => intro n k σ _ _ _ _ hm; exfalso; omega
  | succ d ih =>
    intro n k σ hF h52 hn hk hm
    have ek : (nI k).toInt = (k : Int) := nI_toInt (by omega)
    have eM : (rGa σ 1 (0 : Int32)).toInt = (M : Int) := by
      show (σ.2 1 0).toInt = _
      rw [hF.1 1 (by decide) (by decide) (by decide) (by decide) (by decide), hS.1]; exact nI_toInt (by omega)
    unfold mX9_builds_l136
    refine q1_ck rfl ?_
    refine q1_le eM ek (fun q => ?_) (fun q => ?_)
    · exact q1_ret ⟨by rw [nI_toInt (by omega)]; omega, hF, h52⟩
    · have e43 : ((43 : Int32) + nI k) = nI (43 + k) := nI_add 43 k
      rw [e43, nI_1, nI_1]
      refine q1_ck (cr1 (by omega)) (q1_ck (inb_nI (n := 700) (by omega) (by decide)) ?_)
      refine ih (n + 1) (k + 1) _ (fy_tr hF fy_49) (fun i hi => ?_) (by omega) (by omega) (by omega)
      rw [sa_ne (by decide)]; exact h52 i hi
theorem b_65 (hB : BA p σ0 σ0) (hS : SRT p M σ0) (h0 : ∀ i, i < p → 0 ≤ bo σ0 i) (h6 : sm σ0 p ≤ 600) {i n k b : Nat} (hi : i < p) (hk : (σ0.2 34 i).toInt = (k : Int)) (hn : (n : Int) = sm σ0 i - M + k) (hb : (b : Int) = bo σ0 i) {rec6 : Int32 → Int32 → Int32 → RS9 → Option (Int32 × RS9)} {Q : Int32 → RS9 → Prop} (Hr : ∀ (σ : RS9), FY σ0 σ → (∀ j, j ≤ i → 0 ≤ (σ.2 52 j).toInt ∧ (σ.2 52 j).toInt ≤ 600) → P1 (rec6 (nI (n + b)) (σ0.2 35 i) (nI (i + 1)) σ) Q) : ∀ (d j : Nat) (σ : RS9), FY σ0 σ → (∀ j, j ≤ i → 0 ≤ (σ.2 52 j).toInt ∧ (σ.2 52 j).toInt ≤ 600) → j ≤ b → 2000 < j + d → P1 (mX9_builds_l65 rec6 d (nI n) (nI k) (nI i) (nI b) (nI j) σ) Q := by
  have hp := hB.2.2.2.2.1
  have hM := hS.2.1
  have hbo := (bo_eq hB hi (fun _ _ _ => rfl)).2
  have hsm : sm σ0 (i + 1) = sm σ0 i + (bo σ0 i - ((σ0.2 35 i).toInt - (σ0.2 34 i).toInt)) := rfl
  have hhi := sm_hi hB hS h0 (p - (i + 1)) (i + 1) (by omega)
  have hff : (σ0.2 35 i).toInt ≤ ff σ0 p M (i + 1) := by
    unfold ff
    by_cases e : i + 1 < p
    · rw [if_pos e]; exact (hS.2.2 (i + 1) e).2 i (by omega)
    · rw [if_neg e]; exact (hS.2.2 i hi).1
  have hto := (hS.2.2 i hi).1
  have hft := (hB.2.2.2.2.2 i hi).2
  intro d
  induction d with
  | zero => intro j σ _ _ _ hm; exfalso; omega
  | succ d ih =>
    intro j σ hF h52 hj hm
    have ej : (nI j).toInt = (j : Int) := nI_toInt (by omega)
    have eb : (nI b).toInt = (b : Int) := nI_toInt (by omega)
    unfold mX9_builds_l65
    refine q1_le eb ej (fun q => ?_) (fun q => ?_)
    · refine q1_ck (inb_nI (n := 40) (by omega) (by decide)) ?_
      rw [rd_nI (by omega), hF.1 35 (by decide) (by decide) (by decide) (by decide) (by decide), nI_add, nI_1]
      exact Hr σ hF h52
    · refine q1_bind (toldOf_eq (by omega) σ) ?_
      dsimp only
      have nx : ∀ x : Int32, P1 (mX9_builds_b111 rec6 (fun v1 v2 v3 v4 v5 σ => mX9_builds_l65 rec6 d v1 v2 v3 v4 v5 σ) (nI n) (nI k) (nI i) (nI b) (nI j) 49 (nI n + nI j) x σ) Q := fun x => by
        unfold mX9_builds_b111
        rw [nI_add, nI_1]
        refine q1_ck (inb_nI (n := 700) (by omega) (by decide)) ?_
        refine ih (j + 1) _ (fy_tr hF fy_49) (fun z hz => ?_) (by omega) (by omega)
        rw [sa_ne (by decide)]; exact h52 z hz
      refine q1_eq (fun q2 => ?_) (fun q2 => ?_)
      · rw [hF.1 1 (by decide) (by decide) (by decide) (by decide) (by decide)] at q2
        have hbl := hbo.2.2 q2
        have e43 : (((43 : Int32) + nI k) + nI j) = nI (43 + k + j) := by
          have e : ((43 : Int32) + nI k) = nI (43 + k) := nI_add 43 k
          rw [e, nI_add]
        rw [e43]
        exact q1_ck (cr1 (by omega)) (nx _)
      · exact q1_ck (inb_nI (n := 1400) (by omega) (by decide)) (nx _)
theorem b_14 (hB : BA p σ0 σ0) (hS : SRT p M σ0) (h0 : ∀ i, i < p → 0 ≤ bo σ0 i) (h6 : sm σ0 p ≤ 600) {i : Nat} (hi : i < p) {rec6 : Int32 → Int32 → Int32 → RS9 → Option (Int32 × RS9)} {Q : Int32 → RS9 → Prop} (Hr : ∀ (n : Nat) (σ : RS9), (n : Int) = sm σ0 (i + 1) - M + (σ0.2 35 i).toInt → FY σ0 σ → (∀ j, j ≤ i → 0 ≤ (σ.2 52 j).toInt ∧ (σ.2 52 j).toInt ≤ 600) → P1 (rec6 (nI n) (σ0.2 35 i) (nI (i + 1)) σ) Q) : ∀ (d n k : Nat) (σ : RS9), FY σ0 σ → (∀ j, j < i → 0 ≤ (σ.2 52 j).toInt ∧ (σ.2 52 j).toInt ≤ 600) → (n : Int) = sm σ0 i - M + k → (k : Int) ≤ (σ0.2 34 i).toInt → 1000 < k + d → P1 (mX9_builds_l14 rec6 d (nI n) (nI k) (nI i) σ) Q := by
  have hp := hB.2.2.2.2.1
  have hM := hS.2.1
  have hto := (hS.2.2 i hi).1
  have hft := (hB.2.2.2.2.2 i hi).2
  have hbo := (bo_eq hB hi (fun _ _ _ => rfl)).2
  have hhi := sm_hi hB hS h0 (p - i) i (by omega)
  have hff : ff σ0 p M i = (σ0.2 34 i).toInt := by unfold ff; rw [if_pos hi]
  have hsm : sm σ0 (i + 1) = sm σ0 i + (bo σ0 i - ((σ0.2 35 i).toInt - (σ0.2 34 i).toInt)) := rfl
  intro d
  induction d with
  | zero => intro n k σ _ _ _ _ hm; exfalso; omega
  | succ d ih =>
    intro n k σ hF h52 hn hk hm
    have ek : (nI k).toInt = (k : Int) := nI_toInt (by omega)
    have e34 : (rGa σ 34 (nI i)).toInt = (σ0.2 34 i).toInt := by rw [rd_nI (by omega), hF.1 34 (by decide) (by decide) (by decide) (by decide) (by decide)]
    unfold mX9_builds_l14
    refine q1_ck (inb_nI (n := 40) (by omega) (by decide)) ?_
    refine q1_le e34 ek (fun q => ?_) (fun q => ?_)
    · refine q1_ck (inb_nI (n := 40) (by omega) (by decide)) ?_
      have hF2 : FY σ0 (rSa σ 52 (nI i) (nI n)) := fy_tr hF fy_52
      have hB2 := ba_y hB hF2
      obtain ⟨v, s, v', t, e, e', ⟨g1, g2, g3⟩, g4, g5, g6⟩ := t2_builtOf hB2 hi (fun j _ _ => by rw [hF2.1 1 (by decide) (by decide) (by decide) (by decide) (by decide)])
      have hbv : bo σ0 i = v.toInt := by unfold bo; rw [e]
      have hb0 := h0 i hi
      obtain ⟨b, hbe⟩ : ∃ b : Nat, v' = nI b ∧ (b : Int) = bo σ0 i := ⟨v.toInt.toNat, by rw [g1]; exact Int32.toInt_inj.mp (by rw [nI_toInt (by omega)]; omega), by omega⟩
      refine q1_bind e' ?_
      dsimp only
      rw [hbe.1]
      refine b_65 hB hS h0 h6 hi (by omega) hn hbe.2 (fun s2 k1 k2 => Hr (n + b) s2 (by omega) k1 k2) rFU 0 t (fy_tr hF2 (fy_x g5)) (fun j hj => ?_) (by omega) (by unfold rFU; omega)
      rw [g5.1 52 (by decide) (by decide) (by decide), sa_nI (by omega)]
      by_cases ej : j = i
      · rw [if_pos ej, nI_toInt (by omega)]; omega
      · rw [if_neg ej]; exact h52 j (by omega)
    · have e43 : ((43 : Int32) + nI k) = nI (43 + k) := nI_add 43 k
      rw [e43, nI_1, nI_1]
      refine q1_ck (cr1 (by omega)) (q1_ck (inb_nI (n := 700) (by omega) (by decide)) ?_)
      refine ih (n + 1) (k + 1) _ (fy_tr hF fy_49) (fun j hj => ?_) (by omega) (by omega) (by omega)
      rw [sa_ne (by decide)]; exact h52 j hj
theorem b_6 (hB : BA p σ0 σ0) (hS : SRT p M σ0) (h0 : ∀ i, i < p → 0 ≤ bo σ0 i) (h6 : sm σ0 p ≤ 600) : ∀ (d i n k : Nat) (σ : RS9), FY σ0 σ → (∀ j, j < i → 0 ≤ (σ.2 52 j).toInt ∧ (σ.2 52 j).toInt ≤ 600) → (n : Int) = sm σ0 i - M + k → tt σ0 i = (k : Int) → i ≤ p → 100 < i + d → P1 (mX9_builds_l6 d (nI n) (nI k) (nI i) σ) (BQ p σ0) := by
  have hp := hB.2.2.2.2.1
  have hM := hS.2.1
  intro d
  induction d with
  | zero => intro i n k σ _ _ _ _ hi hm; exfalso; omega
  | succ d ih =>
    intro i n k σ hF h52 hn hk hi hm
    have ei : (nI i).toInt = (i : Int) := nI_toInt (by omega)
    have ep : (σ.1 33).toInt = (p : Int) := by rw [hF.2 33 (by decide), hB.2.2.1]; exact nI_toInt (by omega)
    have hkM : k ≤ M := by
      cases i with
      | zero => have : (0 : Int) = k := hk
                omega
      | succ j => have h1 : (σ0.2 35 j).toInt = (k : Int) := hk
                  have := (hS.2.2 j (by omega)).1
                  omega
    unfold mX9_builds_l6
    refine q1_le ep ei (fun q => ?_) (fun q => ?_)
    · have e : i = p := by omega
      subst e
      exact b_136 hB hS h0 h6 rFU n k σ hF h52 hn hkM (by unfold rFU; omega)
    · have hlt : i < p := by omega
      have hkf : (k : Int) ≤ (σ0.2 34 i).toInt := by
        rw [← hk]
        cases i with
        | zero => exact (hB.2.2.2.2.2 0 hlt).2.1
        | succ j => exact (hS.2.2 (j + 1) hlt).2 j (by omega)
      refine b_14 hB hS h0 h6 hlt (fun n2 s h1 h2 h3 => ?_) rFU n k σ hF h52 hn hkf (by unfold rFU; omega)
      have hft := (hB.2.2.2.2.2 i hlt).2
      obtain ⟨y, hy, ey⟩ := nI_back (x := σ0.2 35 i) (by omega) (by omega)
      have ty : (nI y).toInt = (y : Int) := nI_toInt (by omega)
      rw [ey]
      rw [ey, ty] at h1
      exact ih (i + 1) n2 y s h2 (fun j hj => h3 j (by omega)) h1 (by show (σ0.2 35 i).toInt = _; rw [ey]; exact ty) (by omega) (by omega)
theorem o_builds (hB : BA p σ0 σ0) (hS : SRT p M σ0) (h0 : ∀ i, i < p → 0 ≤ bo σ0 i) (h6 : sm σ0 p ≤ 600) : P1 (mX9_builds σ0) (BQ p σ0) := by
  unfold mX9_builds
  refine b_6 hB hS h0 h6 rFU 0 0 0 σ0 (fy_r σ0) (fun j hj => absurd hj (by omega)) ?_ rfl (by omega) (by unfold rFU; omega)
  show (0 : Int) = (σ0.2 1 0).toInt - M + 0
  rw [hS.1, nI_toInt (by have := hS.2.1; omega)]
  omega
end BLD
