theorem nI_dec {w : Nat} (h1 : 1 ≤ w) (h2 : w ≤ 5000) : nI w + (-1 : Int32) = nI (w - 1) := Int32.toInt_inj.mp (by rw [i_add (nI_toInt (by omega)) kt_m1 (by omega), nI_toInt (by omega)]; omega)
theorem nI_122 {w : Nat} (h1 : 122 ≤ w) (h2 : w ≤ 5000) : nI w - (122 : Int32) = nI (w - 122) := Int32.toInt_inj.mp (by rw [i_sub (nI_toInt (by omega)) (show (122 : Int32).toInt = 122 by decide) (by omega), nI_toInt (by omega)]; omega)
section TELL
variable {σ : RS9}
def PAIR (σ u : RS9) : Prop := (∀ z, z ≠ 1 → u.2 z = σ.2 z) ∧ (∀ z, u.1 z = σ.1 z) ∧ (∀ j, j < 2883 → u.2 1 j = σ.2 1 j) ∧ ∀ k, k < 24 → 0 ≤ (u.2 1 (2883 + 61 * k)).toInt ∧ (u.2 1 (2883 + 61 * k)).toInt ≤ 60
theorem pair_set {u : RS9} {j : Nat} {v : Int32} (h : PAIR σ u) (hj : 2883 ≤ j ∧ j < 4347) (hv : ∀ k, k < 24 → j = 2883 + 61 * k → 0 ≤ v.toInt ∧ v.toInt ≤ 60) : PAIR σ (rSa u 1 (nI j) v) := by
  obtain ⟨h1, h2, h3, h4⟩ := h
  have r : ∀ i, (rSa u 1 (nI j) v).2 1 i = if i = j then v else u.2 1 i := fun i => sa_nI (by omega)
  refine ⟨fun z hz => (sa_ne hz).trans (h1 z hz), h2, fun i hi => by rw [r, if_neg (by omega)]; exact h3 i hi, fun k hk => ?_⟩
  rw [r]
  by_cases e : 2883 + 61 * k = j
  · rw [if_pos e]; exact hv k hk e.symm
  · rw [if_neg e]; exact h4 k hk
theorem core_pair {u : RS9} (hC : CORE σ) (h1 : ∀ z, z ≠ 1 → u.2 z = σ.2 z) (h2 : ∀ z, u.1 z = σ.1 z) (h3 : ∀ j, j < 2883 → j ≠ 42 → u.2 1 j = σ.2 1 j) (h42 : 0 ≤ (u.2 1 42).toInt ∧ (u.2 1 42).toInt ≤ 12) (h4 : ∀ k, k < 24 → 0 ≤ (u.2 1 (2883 + 61 * k)).toInt ∧ (u.2 1 (2883 + 61 * k)).toInt ≤ 60) : CORE u := by
  obtain ⟨p, hB⟩ := tab_ba hC.1 hC.2.1
  have hp := hB.2.2.2.2.1
  obtain ⟨v1, v2, v3, v4, v5, v6, v7⟩ := id hC.1
  refine ⟨⟨by rw [h3 0 (by omega) (by omega)]; exact v1, by rw [h3 4 (by omega) (by omega)]; exact v2, by rw [h3 5 (by omega) (by omega)]; exact v3, h42, fun p hp => by rw [h3 _ (by omega) (by omega)]; exact v5 p hp, h4, fun l hl => by rw [h3 _ (by omega) (by omega)]; exact v7 l hl⟩, tab_m hC.1 hC.2.1 (fun j hj n42 => h3 j (by omega) n42) (fun k a b => h1 k (by omega)) (h2 33) (h2 45), ?_⟩
  exact (bui_eq (tv_ba hB (fun j hj n42 => h3 j (by omega) n42) (fun k a b => h1 k (by omega)) (h2 33)) (fun i hi j a b => h3 j (by omega) (by omega))).mp hC.2.2
theorem a_remembersPair (hC : CORE σ) {p i n : Nat} (hP : CP p σ) (hi : i < p) (hn : n ≤ 60) : P1 (mX9_remembersPair (nI i) (nI n) σ) (fun w σ' => CORE σ' ∧ FA σ σ') := by
  have hp := hP.2.1
  have en : (nI n).toInt = (n : Int) := nI_toInt (by omega)
  have ei : (nI i).toInt = (i : Int) := nI_toInt (by omega)
  have hx : 0 ≤ (nI i).toInt ∧ (nI i).toInt < (p : Int) := by rw [ei]; omega
  have h1 := cp_rd hP hx
  have hV := hC.1
  have c42 : ∀ z, rLen z = 40 → rIn (nI i) (rLen z) = true := fun z hz => cp_ck hP hx hz
  unfold mX9_remembersPair
  refine q1_ck (c42 42 rfl) ?_
  refine q1_le rfl (show (60 : Int32).toInt = 60 by decide) (fun q60 => ?_) (fun _ => q1_ret ⟨hC, fa_r σ⟩)
  obtain ⟨t, ht6, ht⟩ := nI_back (x := rGa σ 42 (nI i)) h1.2.2.2.2.1 (by omega)
  have et : (nI t).toInt = (t : Int) := nI_toInt (by omega)
  rw [ht, et] at q60
  have l110 : ∀ (d k : Nat) (u : RS9), PAIR σ u → k ≤ n → 100 < k + d → P1 (mX9_remembersPair_l110 d (nI n) (nI k) u) (fun w σ' => CORE σ' ∧ FA σ σ') := by
    intro d
    induction d with
    | zero => intro k u _ hk hm; exfalso; omega
    | succ d ih =>
      intro k u hu hk hm
      have ek : (nI k).toInt = (k : Int) := nI_toInt (by omega)
      have m42 : rGa u 1 (42 : Int32) = σ.2 1 42 := hu.2.2.1 42 (by omega)
      have v42 := hV.2.2.2.1
      have fa : FA σ u := ⟨fun z hz => hu.1 z (by omega), fun z _ => hu.2.1 z⟩
      unfold mX9_remembersPair_l110
      refine q1_le en ek (fun _ => ?_) (fun q => ?_)
      · refine q1_ck rfl ?_
        refine q1_le (show (12 : Int32).toInt = 12 by decide) (congrArg Int32.toInt m42) (fun _ => ?_) (fun q2 => ?_)
        · exact q1_ret ⟨core_pair hC hu.1 hu.2.1 (fun j hj _ => hu.2.2.1 j hj) (by rw [hu.2.2.1 42 (by omega)]; exact v42) hu.2.2.2, fa⟩
        · refine q1_ck rfl (q1_ck rfl ?_)
          rw [m42]
          have e1 : (σ.2 1 42 + (1 : Int32)).toInt = (σ.2 1 42).toInt + 1 := i_add rfl kt_1 (by omega)
          have r : ∀ i, (rSa u 1 (42 : Int32) (σ.2 1 42 + (1 : Int32))).2 1 i = if i = 42 then σ.2 1 42 + (1 : Int32) else u.2 1 i := fun i => sa_nI (c := 42) (by omega)
          exact q1_ret ⟨core_pair hC (fun z hz => (sa_ne hz).trans (hu.1 z hz)) hu.2.1 (fun j hj n42 => by rw [r, if_neg n42]; exact hu.2.2.1 j hj) (by rw [r, if_pos rfl, e1]; omega) (fun k hk => by rw [r, if_neg (by omega)]; exact hu.2.2.2 k hk), fa_tr fa fa_m⟩
      · have e45 : ((2945 : Int32) + nI k) = nI (2945 + k) := nI_add 2945 k
        rw [e45, nI_1]
        refine q1_ck (inb_nI (n := 60) (by omega) (by decide)) (q1_ck (cr1 (by omega)) ?_)
        exact ih (k + 1) _ (pair_set hu (by omega) (fun z hz e => by omega)) (by omega) (by omega)
  have l60 : ∀ (d k : Nat) (u : RS9), PAIR σ u → k ≤ t → 100 < k + d → P1 (mX9_remembersPair_l60 d (nI i) (nI n) (nI k) u) (fun w σ' => CORE σ' ∧ FA σ σ') := by
    intro d
    induction d with
    | zero => intro k u _ hk hm; exfalso; omega
    | succ d ih =>
      intro k u hu hk hm
      have ek : (nI k).toInt = (k : Int) := nI_toInt (by omega)
      have r42 : rGa u 42 (nI i) = nI t := by rw [rd_nI (by omega), hu.1 42 (by decide), ← rd_nI (σ := σ) (r := 42) (k := i) (by omega)]; exact ht
      have r41 : rGa u 41 (nI i) = rGa σ 41 (nI i) := by rw [rd_nI (by omega), rd_nI (by omega), hu.1 41 (by decide)]
      rw [ht, et] at h1
      unfold mX9_remembersPair_l60
      refine q1_ck (c42 42 rfl) ?_
      rw [r42]
      refine q1_le et ek (fun _ => ?_) (fun q => ?_)
      · refine q1_ck rfl ?_
        exact l110 rFU 0 _ (pair_set (j := 2944) hu (by omega) (fun z hz e => by rw [en]; omega)) (by omega) (by unfold rFU; omega)
      · rw [r41]
        have e41 : ((rGa σ 41 (nI i)) + nI k).toInt = (rGa σ 41 (nI i)).toInt + k := i_add rfl ek (by omega)
        have e84 : ((2884 : Int32) + nI k) = nI (2884 + k) := nI_add 2884 k
        rw [e84, nI_1]
        refine q1_ck (c42 41 rfl) (q1_ck (in_of (N := 600) (by omega) (by omega)) (q1_ck (cr1 (by omega)) ?_))
        exact ih (k + 1) _ (pair_set hu (by omega) (fun z hz e => by omega)) (by omega) (by omega)
  have l16 : ∀ (d w : Nat) (u : RS9), PAIR σ u → 3004 ≤ w → w ≤ 4346 → w < 2000 + d → P1 (mX9_remembersPair_l16 d (nI i) (nI n) (nI w) u) (fun w σ' => CORE σ' ∧ FA σ σ') := by
    intro d
    induction d with
    | zero => intro w u _ h1 h2 hm; exfalso; omega
    | succ d ih =>
      intro w u hu hw1 hw2 hm
      have ew : (nI w).toInt = (w : Int) := nI_toInt (by omega)
      unfold mX9_remembersPair_l16
      refine q1_lt ew (show (3005 : Int32).toInt = 3005 by decide) (fun _ => ?_) (fun q => ?_)
      · have r42 : rGa u 42 (nI i) = nI t := by rw [rd_nI (by omega), hu.1 42 (by decide), ← rd_nI (σ := σ) (r := 42) (k := i) (by omega)]; exact ht
        rw [r42]
        refine q1_ck (c42 42 rfl) (q1_ck rfl ?_)
        exact l60 rFU 0 _ (pair_set (j := 2883) hu (by omega) (fun z hz e => by rw [et]; omega)) (by omega) (by unfold rFU; omega)
      · rw [nI_122 (by omega) (by omega), nI_dec (by omega) (by omega), rd_nI (by omega)]
        refine q1_ck (cr1 (by omega)) (q1_ck (cr1 (by omega)) ?_)
        refine ih (w - 1) _ (pair_set hu (by omega) (fun z hz e => ?_)) (by omega) (by omega) (by omega)
        have e2 : w - 122 = 2883 + 61 * (z - 2) := by omega
        rw [e2]
        exact hu.2.2.2 _ (by omega)
  exact l16 rFU 4346 σ ⟨fun _ _ => rfl, fun _ => rfl, fun _ _ => rfl, hV.2.2.2.2.2.1⟩ (by omega) (by omega) (by unfold rFU; omega)
/-! how long it is now decides -/
def NN (σ : RS9) : Prop := ∀ p : Nat, σ.1 33 = nI p → p ≤ 40 → ∀ i, i < p → 0 ≤ bo σ i
theorem core_x9 {a b : RS9} (hC : CORE a) (h : FX a b) : CORE b := core_fr hC (h.1 1 (by decide) (by decide) (by decide)) (fun k x y => h.1 k (by omega) (by omega) (by omega)) (h.2 33 (by decide)) (h.2 45 (by decide))
theorem a_builtMany (hT : TV σ) (hN : NN σ) : P1 (mX9_builtMany σ) (fun v σ' => FX σ σ' ∧ (v.toInt ≤ 600 → CORE σ')) := by
  obtain ⟨p, hB⟩ := tab_ba hT.1 hT.2
  obtain ⟨v, s, e, e2, e3⟩ := builtMany_x hB
  refine ⟨v, s, e, e3, fun h6 => core_x9 ⟨hT.1, hT.2, p, hB.2.2.1, hB.2.2.2.2.1, hN p hB.2.2.1 hB.2.2.2.2.1, by rw [← e2]; exact h6⟩ e3⟩
theorem core_nn (hC : CORE σ) : NN σ := fun p e h4 i hi => by
  obtain ⟨p', e', h4', h1, -⟩ := hC.2.2
  have : p = p' := nI_inj (by omega) (by omega) (e.symm.trans e')
  exact h1 i (by omega)
theorem tv_fw {s : RS9} (hT : TV σ) (h : FW σ s) : TV s := by
  have e : s.2 1 = σ.2 1 := h.1 1 (by decide) (by decide)
  exact ⟨by rw [e]; exact hT.1, tab_m hT.1 hT.2 (fun _ _ _ => by rw [e]) (fun k a b => h.1 k (by omega) (by omega)) (h.2 33 (by decide)) (h.2 45 (by decide))⟩
theorem fa_w {s : RS9} (h : FW σ s) : FA σ s := fa_x (fx_w h)
theorem fa_tld {i n : Nat} {s : RS9} (h : TLD i n σ s) : FA σ s := ⟨fun k hk => h.1 k (by omega), fun k _ => h.2.1 k⟩
/-- one is told, that can be escaped -/
theorem nn_tell {p i n : Nat} {s σ' : RS9} {v : Int32} (hT : TV σ) (hN : NN σ) (hB : BA p σ σ) (hi : i < p) (hn : n ≤ 60) (he : mX9_escapedFor (nI i) (nI n) σ = some (v, s)) (hv : v ≠ -1) (hs : FW σ s) (hT2 : TLD i n s σ') : TV σ' ∧ NN σ' := by
  have hp := hB.2.2.2.2.1
  have hTs := tv_fw hT hs
  have hT' := tld_tv hTs (by omega) hn hT2
  refine ⟨hT', fun p' e h4 k hk => ?_⟩
  have ep : p' = p := nI_inj (by omega) (by omega) (e.symm.trans ((hT2.2.1 33).trans ((hs.2 33 (by decide)).trans hB.2.2.1)))
  subst ep
  by_cases hki : k = i
  · rw [hki]; exact new_bo hB hi hn he hv hs hT2 hT'.1
  · have es : s.2 1 = σ.2 1 := hs.1 1 (by decide) (by decide)
    have hBs : BA p' σ s := tv_ba hB (fun _ _ _ => by rw [es]) (fun k a b => hs.1 k (by omega) (by omega)) (hs.2 33 (by decide))
    have hBss : BA p' s s := by
      obtain ⟨b1, b2, b3, b4, b5, b6⟩ := hBs
      refine ⟨fun _ _ _ => rfl, by rw [es]; exact b2, b4, b4, b5, fun j hj => ⟨⟨rfl, rfl, rfl, rfl, rfl⟩, ?_⟩⟩
      obtain ⟨⟨c1, c2, -⟩, c3⟩ := b6 j hj
      rw [c1, c2]; exact c3
    rw [old_bo hBss hk hki hT2, (bo_eq hBs hk (fun _ _ _ => by rw [es])).1]
    exact hN p' hB.2.2.1 h4 k hk
end TELL
