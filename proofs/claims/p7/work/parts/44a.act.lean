/-! acts -/
def FA (σ σ' : RS9) : Prop := (∀ k, k = 2 ∨ k = 3 ∨ k = 4 ∨ k = 8 → σ'.2 k = σ.2 k) ∧ ∀ k, k = 5 ∨ k = 6 ∨ k = 7 ∨ k = 9 ∨ k = 10 ∨ k = 11 ∨ k = 12 → σ'.1 k = σ.1 k
theorem fa_r (σ : RS9) : FA σ σ := ⟨fun _ _ => rfl, fun _ _ => rfl⟩
theorem fa_tr {a b c : RS9} (h1 : FA a b) (h2 : FA b c) : FA a c := ⟨fun k hk => (h2.1 k hk).trans (h1.1 k hk), fun k hk => (h2.2 k hk).trans (h1.2 k hk)⟩
theorem fa_b {a b : RS9} (h : FRB a b) : FA a b := ⟨fun k hk => h.1 k (by omega), fun k hk => h.2 k (by omega) (by omega) (by omega) (by omega) (by omega) (by omega) (by omega)⟩
theorem fa_x {a b : RS9} (h : FX a b) : FA a b := ⟨fun k hk => h.1 k (by omega) (by omega) (by omega), fun k hk => h.2 k (by omega)⟩
theorem fa_m {a : RS9} {x v : Int32} : FA a (rSa a 1 x v) := ⟨fun k hk => sa_ne (by omega), fun _ _ => rfl⟩
def TV (σ : RS9) : Prop := VM9 (σ.2 1) ∧ TAB σ
section ACT
variable {σ : RS9}
theorem bui_none (hT : TV σ) (hn : ∀ i, i < 40 → σ.2 1 (443 + 61 * i) = -1) : BUI σ := by
  obtain ⟨p, hB⟩ := tab_ba hT.1 hT.2
  have hp := hB.2.2.2.2.1
  have hb : ∀ i, i < p → bo σ i = (σ.2 35 i).toInt - (σ.2 34 i).toInt := fun i hi => (bo_eq hB hi (fun _ _ _ => rfl)).2.2.2 (hn i (by omega))
  have hs : ∀ i, i ≤ p → sm σ i = (σ.2 1 0).toInt := by
    intro i
    induction i with
    | zero => intro _; rfl
    | succ i ih =>
      intro hi
      show sm σ i + (bo σ i - _) = _
      rw [ih (by omega), hb i (by omega)]
      omega
  refine ⟨p, hB.2.2.1, hp, fun i hi => ?_, ?_⟩
  · rw [hb i hi]
    have := (hB.2.2.2.2.2 i hi).2
    omega
  · rw [hs p (Nat.le_refl _)]
    have := hT.1.1
    omega
/-- m where only told's beginnings change -/
theorem a_clear {s : RS9} (hT : TV s) {u : RS9} (hr : ∀ z, z ≠ 1 → u.2 z = s.2 z) (hf : ∀ z, u.1 z = s.1 z) (hm : ∀ j, (j < 443 ∨ 2883 ≤ j) → u.2 1 j = s.2 1 j) (hn : ∀ i, i < 40 → u.2 1 (443 + 61 * i) = -1) : CORE u := by
  have hV : VM9 (u.2 1) := by
    obtain ⟨h1, h2, h3, h4, h5, h6, h7⟩ := hT.1
    refine ⟨by rw [hm 0 (by omega)]; exact h1, by rw [hm 4 (by omega)]; exact h2, by rw [hm 5 (by omega)]; exact h3, by rw [hm 42 (by omega)]; exact h4, fun p hp => ?_, fun k hk => by rw [hm _ (by omega)]; exact h6 k hk, fun l hl => by rw [hm _ (by omega)]; exact h7 l hl⟩
    rw [hn p hp, kt_m1]; omega
  have hTu : TAB u := tab_m hT.1 hT.2 (fun i hi _ => hm i (by omega)) (fun k a b => hr k (by omega)) (hf 33) (hf 45)
  exact ⟨hV, hTu, bui_none ⟨hV, hTu⟩ hn⟩
theorem clear_loop (L : Nat → Int32 → RS9 → Option (Int32 × RS9)) (hL : ∀ d (k : Nat) u, L (d + 1) (nI k) u = (if (40 : Int32) ≤ nI k then some ((0 : Int32), u) else rCk (rIn ((443 : Int32) + ((61 : Int32) * nI k)) (rLen 1)) (L d (nI k + (1 : Int32)) (rSa u 1 ((443 : Int32) + ((61 : Int32) * nI k)) (-1 : Int32))))) {s : RS9} (hT : TV s) : ∀ (d k : Nat) (u : RS9), (∀ z, z ≠ 1 → u.2 z = s.2 z) → (∀ z, u.1 z = s.1 z) → (∀ j, (j < 443 ∨ 2883 ≤ j) → u.2 1 j = s.2 1 j) → (∀ i, i < k → u.2 1 (443 + 61 * i) = -1) → k ≤ 40 → 100 < k + d → P1 (L d (nI k) u) (fun v σ' => v = 0 ∧ CORE σ' ∧ FA s σ') := by
  intro d
  induction d with
  | zero => intro k u _ _ _ _ hk hm; exfalso; omega
  | succ d ih =>
    intro k u h1 h2 h3 h4 hk hm
    have ek : (nI k).toInt = (k : Int) := nI_toInt (by omega)
    rw [hL]
    refine q1_le (show (40 : Int32).toInt = 40 by decide) ek (fun q => ?_) (fun q => ?_)
    · exact q1_ret ⟨rfl, a_clear hT h1 h2 h3 (fun i hi => h4 i (by omega)), ⟨fun z hz => h1 z (by omega), fun z _ => h2 z⟩⟩
    · rw [told_ix, nI_1]
      refine q1_ck (cr1 (by omega)) ?_
      refine ih (k + 1) _ (fun z hz => (sa_ne hz).trans (h1 z hz)) h2 (fun j hj => ?_) (fun i hi => ?_) (by omega) (by omega)
      · rw [sa_nI (by omega), if_neg (by omega)]; exact h3 j hj
      · rw [sa_nI (by omega)]
        by_cases e : i = k
        · rw [if_pos (by omega)]
        · rw [if_neg (by omega)]; exact h4 i (by omega)
theorem a_cutsAnew (hV : VM9 (σ.2 1)) : P1 (mX9_cutsAnew σ) (fun v σ' => CORE σ' ∧ FA σ σ') := by
  unfold mX9_cutsAnew
  refine q1_call (cut_tab hV) (fun v s hs => ?_)
  obtain ⟨hF, hT⟩ := hs
  dsimp only
  have hV2 : VM9 (s.2 1) := by rw [hF.1 1 (by omega)]; exact hV
  refine q1_tail (clear_loop mX9_cutsAnew_l6 (fun d k u => rfl) ⟨hV2, hT⟩ rFU 0 s (fun _ _ => rfl) (fun _ => rfl) (fun _ _ => rfl) (fun i hi => absurd hi (by omega)) (by omega) (by unfold rFU; omega)) (fun w u hu => ⟨hu.2.1, fa_tr (fa_b hF) hu.2.2⟩)
theorem a_rules {k : Nat} {v : Int32} (hV : VM9 (σ.2 1)) (hk : 1 ≤ k ∧ k ≤ 4) (h4 : k = 4 → 1 ≤ v.toInt) : P1 (mX9_rules (nI k) v σ) (fun w σ' => w = 0 ∧ CORE σ' ∧ FA σ σ') := by
  unfold mX9_rules
  refine q1_ck (cr1 (by omega)) ?_
  have r : ∀ i, (rSa σ 1 (nI k) v).2 1 i = if i = k then v else σ.2 1 i := fun i => sa_nI (by omega)
  have hV2 : VM9 ((rSa σ 1 (nI k) v).2 1) := by
    obtain ⟨h1, h2, h3, h44, h5, h6, h7⟩ := hV
    refine ⟨by rw [r, if_neg (by omega)]; exact h1, ?_, by rw [r, if_neg (by omega)]; exact h3, by rw [r, if_neg (by omega)]; exact h44, fun p hp => by rw [r, if_neg (by omega)]; exact h5 p hp, fun j hj => by rw [r, if_neg (by omega)]; exact h6 j hj, fun l hl => by rw [r, if_neg (by omega)]; exact h7 l hl⟩
    rw [r]
    by_cases e : 4 = k
    · rw [if_pos e]; exact h4 e.symm
    · rw [if_neg e]; exact h2
  refine q1_call (a_cutsAnew hV2) (fun w s hs => ?_)
  exact q1_ret ⟨rfl, hs.1, fa_tr fa_m hs.2⟩
theorem a_unlocks (hV : VM9 (σ.2 1)) : P1 (mX9_unlocks σ) (fun w σ' => w = 0 ∧ CORE σ' ∧ FA σ σ') := by
  unfold mX9_unlocks
  refine q1_ck rfl ?_
  have r : ∀ i, (rSa σ 1 (5 : Int32) (0 : Int32)).2 1 i = if i = 5 then 0 else σ.2 1 i := fun i => sa_nI (c := 5) (by omega)
  have hV2 : VM9 ((rSa σ 1 (5 : Int32) (0 : Int32)).2 1) := by
    obtain ⟨h1, h2, h3, h44, h5, h6, h7⟩ := hV
    exact ⟨by rw [r, if_neg (by omega)]; exact h1, by rw [r, if_neg (by omega)]; exact h2, by rw [r, if_pos rfl]; decide, by rw [r, if_neg (by omega)]; exact h44, fun p hp => by rw [r, if_neg (by omega)]; exact h5 p hp, fun j hj => by rw [r, if_neg (by omega)]; exact h6 j hj, fun l hl => by rw [r, if_neg (by omega)]; exact h7 l hl⟩
  refine q1_call (a_cutsAnew hV2) (fun w s hs => ?_)
  exact q1_ret ⟨rfl, hs.1, fa_tr fa_m hs.2⟩
theorem a_wipe0 (hC : CORE σ) : P1 (mX9_wipe0 σ) (fun w σ' => (w ≤ 0 → CORE σ') ∧ FA σ σ') := by
  obtain ⟨p, M, hP, -⟩ := core_x hC
  unfold mX9_wipe0
  refine q1_ro (o_toldMany hP) (fun y _ => ?_)
  dsimp only
  refine q1_eq (fun _ => q1_ret ⟨fun e => absurd e (by decide), fa_r σ⟩) (fun _ => ?_)
  exact q1_tail (clear_loop mX9_wipe0_l11 (fun d k u => rfl) ⟨hC.1, hC.2.1⟩ rFU 0 σ (fun _ _ => rfl) (fun _ => rfl) (fun _ _ => rfl) (fun i hi => absurd hi (by omega)) (by omega) (by unfold rFU; omega)) (fun w u hu => ⟨fun _ => hu.2.1, hu.2.2⟩)
end ACT
