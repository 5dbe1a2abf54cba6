theorem ab_src {R C : Nat} {σ τ : RS9} (hA : AB R C σ τ) : SRC 13 14 15 R σ τ := by
  have h := hA.2.2.2.1
  have hR := hA.2.1
  refine ⟨fun i hi => ?_, fun i j hij hj => ?_⟩
  · obtain ⟨a1, a2, a3, a4, a5⟩ := h i hi
    rw [a2, a3, a4, a5, nI_toInt (by omega), nI_toInt (by omega)]
    exact ⟨a1, rfl, rfl, by omega, by omega⟩
  · rw [(h i (by omega)).2.2.2.1, (h j hj).2.1, nI_toInt (by omega), nI_toInt (by omega)]
    omega
set_option maxHeartbeats 2000000 in
theorem t2_cutsAll_l78 {R C : Nat} {σ0 τ0 : RS9} : ∀ (d c p : Nat) (L : Int) (σ τ : RS9), AB R C σ τ → PR p L σ τ → FRA σ0 σ → FRA τ0 τ → L ≤ R → (c < C → L ≤ (σ.2 17 c).toInt) → c ≤ C → 1000 < c + d → P2 (mX9_cutsAll_l78 d (nI c) σ) (mX9_cutsAll_l78 d (nI c) τ) (fun v σ' v' τ' => ∃ p, PR p R σ' τ' ∧ FRA σ0 σ' ∧ FRA τ0 τ') := by
  intro d
  induction d with
  | zero => intro c p L σ τ hA _ _ _ _ _ hc hm; have := hA.2.1; exfalso; omega
  | succ d ih =>
    intro c p L σ τ hA hP hF hF' hLR hLc hcC hm
    have hRC := hA.2.1
    have ec : (nI c).toInt = (c : Int) := nI_toInt (by omega)
    have eC : (nI C).toInt = (C : Int) := nI_toInt (by omega)
    unfold mX9_cutsAll_l78
    rw [hA.2.2.1.1, hA.2.2.1.2]
    refine p2_le eC ec rfl rfl (fun q => ?_) (fun q => ?_)
    · exact p2_ret ⟨p, pr_mono hP hLR (by omega), hF, hF'⟩
    · have hE := hA.2.2.2.2.1 c (by omega)
      obtain ⟨a, b, ea, ea', eb, eb', hab, hbR⟩ := ce_ab hE hRC.1
      have cc : ∀ z, rLen z = 600 → rIn (nI c) (rLen z) = true := fun z hz => by rw [hz]; exact inb_nI (by omega) (by decide)
      refine p2_ck rfl rfl ?_
      refine p2_ck (cc 19 rfl) (cc 19 rfl) ?_
      have r19 : rGa τ 19 (nI c) = rGa σ 19 (nI c) := by rw [rd_nI (by omega), rd_nI (by omega)]; exact hE.2.2.1
      rw [ab_m hA (x := (1 : Int32)) (by decide)]
      have hLa : L ≤ (a : Int) := by
        have := hLc (by omega)
        rw [ea, nI_toInt (by omega)] at this; exact this
      have rec1 : ∀ (s t : RS9) (p2 : Nat) (L2 : Int), AB R C s t → PR p2 L2 s t → FRA σ0 s → FRA τ0 t → L2 ≤ (b : Int) → (s.2 18 c).toInt = (b : Int) → P2 (mX9_cutsAll_l78 d (nI (c + 1)) s) (mX9_cutsAll_l78 d (nI (c + 1)) t) (fun v σ' v' τ' => ∃ p, PR p R σ' τ' ∧ FRA σ0 σ' ∧ FRA τ0 τ') := fun s t p2 L2 h1 h2 h3 h4 h5 h6 => by
        refine ih (c + 1) p2 (b : Int) s t h1 (pr_mono h2 h5 (by omega)) h3 h4 (by omega) (fun hc1 => ?_) (by omega) (by omega)
        have hs := (h1.2.2.2.2.1 (c + 1) hc1).2.2.2.2.2.2.1 c (by omega)
        omega
      have e18 : (σ.2 18 c).toInt = (b : Int) := by rw [eb]; exact nI_toInt (by omega)
      have step : ∀ w : Int32, P2 (mX9_cutsAll_b109 (fun v1 σ => mX9_cutsAll_l78 d v1 σ) (nI c) (rGa σ 1 (1 : Int32)) w σ) (mX9_cutsAll_b109 (fun v1 σ => mX9_cutsAll_l78 d v1 σ) (nI c) (rGa σ 1 (1 : Int32)) w τ) (fun v σ' v' τ' => ∃ p, PR p R σ' τ' ∧ FRA σ0 σ' ∧ FRA τ0 τ') := fun w => by
        unfold mX9_cutsAll_b109
        refine p2_ck (cc 17 rfl) (cc 17 rfl) ?_
        refine p2_ck (cc 18 rfl) (cc 18 rfl) ?_
        rw [show rGa σ 17 (nI c) = nI a from (rd_nI (by omega)).trans ea, show rGa τ 17 (nI c) = nI a from (rd_nI (by omega)).trans ea', show rGa σ 18 (nI c) = nI b from (rd_nI (by omega)).trans eb, show rGa τ 18 (nI c) = nI b from (rd_nI (by omega)).trans eb']
        refine p2_call (t2_undoes (N := R) (by unfold RU; decide) ⟨hab, hbR, hRC.1⟩ (ab_src hA)) (fun v s v' t hq => ?_)
        obtain ⟨n', rfl, rfl, hn0, hn6, hlen, hO2, hU, hU'⟩ := hq
        dsimp only
        have f14 : (σ.2 14 a).toInt = (a : Int) := by rw [(hA.2.2.2.1 a (by omega)).2.1]; exact nI_toInt (by omega)
        have f15 : (σ.2 15 (b - 1)).toInt = (b : Int) := by rw [(hA.2.2.2.1 (b - 1) (by omega)).2.2.2.1, nI_toInt (by omega)]; omega
        rw [f14, f15] at hlen hO2
        have hN := frn_u hU (by decide) (by decide) (by decide)
        have hN' := frn_u hU' (by decide) (by decide) (by decide)
        have hA2 := ab_n hA hN hN'
        have hP2 := pr_n hP hN hN'
        refine p2_ck rfl rfl ?_
        have m2 : rGa t 1 (2 : Int32) = rGa s 1 (2 : Int32) := ab_m hA2 (by decide)
        have hA3 : AB R C (rSf s 26 (nI n')) (rSf t 26 (nI n')) := ab_n hA2 frn_26 frn_26
        have hP3 : PR p L (rSf s 26 (nI n')) (rSf t 26 (nI n')) := pr_n hP2 frn_26 frn_26
        have hO3 : OU 23 24 25 n' (a : Int) (b : Int) (rSf s 26 (nI n')) (rSf t 26 (nI n')) := hO2
        have hF3 : FRA σ0 (rSf s 26 (nI n')) := fra_n (fra_n hF hN) frn_26
        have hF3' : FRA τ0 (rSf t 26 (nI n')) := fra_n (fra_n hF' hN') frn_26
        have s18 : s.2 18 = σ.2 18 := hU.1 18 (by decide) (by decide) (by decide)
        refine p2_eq m2 rfl (fun q1 => ?_) (fun q1 => ?_)
        · refine p2_call (t2_takes hA3 hP3 (by omega) (by decide) hn6 hO3 hLa (by omega) (by omega)) (fun v s2 v' t2 hq => ?_)
          obtain ⟨p', hP4, hT2, hT2'⟩ := hq
          dsimp only
          unfold mX9_cutsAll_b333
          rw [nI_1]
          refine rec1 s2 t2 p' (b : Int) (ab_t hA3 hT2 hT2') hP4 (fra_t hF3 hT2) (fra_t hF3' hT2') (Int.le_refl _) ?_
          rw [hT2.1 18 (by decide)]
          exact (congrArg (fun g : Nat → Int32 => (g c).toInt) s18).trans e18
        · refine p2_ck rfl rfl ?_
          rw [m2]
          have en' : (nI n').toInt = (n' : Int) := nI_toInt (by omega)
          refine p2_call (t2_cuts (v3 := nI n') (by unfold RW; decide) (by omega) (fun i hi => (hO3 i (by omega)).1)) (fun v s2 v' t2 hq => ?_)
          obtain ⟨ic, kx, rfl, rfl, hic, -, hCU⟩ := hq
          dsimp only
          obtain ⟨u1, u2, u3, u4, u5, u6, u7, u8⟩ := hCU
          have g := frn_c u2
          have g' := frn_c u3
          rw [en'] at hic u7
          refine t2_cutsAll_l220 (T := n') (lo := (a : Int)) (hi := (b : Int)) (B := (b : Int)) (by omega) ⟨hn6, by omega⟩ (by omega) (by omega) rec1 rFU 0 p L s2 t2 (ab_n hA3 g g') (pr_n hP3 g g') (fra_n hF3 g) (fra_n hF3' g') ?_ u7 (by omega) ?_ (fun hi0 => ?_) (by omega) (by unfold rFU; omega)
          · have z : ∀ k, 23 ≤ k → k ≤ 25 → s2.2 k = (rSf s 26 (nI n')).2 k := fun k h1 h2 => u2.1 k (by omega) (by omega) (by omega) (fun e => absurd e (by decide))
            have z' : ∀ k, 23 ≤ k → k ≤ 25 → t2.2 k = (rSf t 26 (nI n')).2 k := fun k h1 h2 => u3.1 k (by omega) (by omega) (by omega) (fun e => absurd e (by decide))
            exact ou_fr hO3 (z 23 (by decide) (by decide)) (z 24 (by decide) (by decide)) (z 25 (by decide) (by decide)) (z' 23 (by decide) (by decide)) (z' 24 (by decide) (by decide)) (z' 25 (by decide) (by decide))
          · rw [g.1 18 (by decide)]
            exact (congrArg (fun g : Nat → Int32 => (g c).toInt) s18).trans e18
          · obtain ⟨x, y, ex, -, -, -, hxy, hyn⟩ := ce_ab (u7 0 hi0) hn6
            rw [ex, nI_toInt (by omega), u2.1 24 (by decide) (by decide) (by decide) (fun e => absurd e (by decide))]
            have := (hO3 x (by omega)).2.2.2.1
            show L ≤ ((rSf s 26 (nI n')).2 24 x).toInt
            omega
      exact p2_eq r19 rfl (fun q1 => step 1) (fun q1 => step 0)
set_option maxHeartbeats 2000000 in
theorem t2_cutsAll_l12 {R : Nat} {σ0 τ0 : RS9} (hR : R ≤ 600) (hm1 : ∀ i, i < 443 → i ≠ 42 → τ0.2 1 i = σ0.2 1 i) (hV : VM9 (σ0.2 1)) (h13 : ∀ i, i < R → τ0.2 13 i = σ0.2 13 i) (h16 : σ0.1 16 = nI R ∧ τ0.1 16 = nI R) : ∀ (d k : Nat) (σ τ : RS9), FRA σ0 σ → FRA τ0 τ → σ.1 33 = nI 0 → τ.1 33 = nI 0 → σ.1 45 = nI 0 → τ.1 45 = nI 0 → (∀ i, i < k → σ.2 14 i = nI i ∧ τ.2 14 i = nI i ∧ σ.2 15 i = nI (i + 1) ∧ τ.2 15 i = nI (i + 1)) → k ≤ R → 1000 < k + d → P2 (mX9_cutsAll_l12 d (nI k) σ) (mX9_cutsAll_l12 d (nI k) τ) (fun v σ' v' τ' => ∃ p, PR p R σ' τ' ∧ FRA σ0 σ' ∧ FRA τ0 τ') := by
  intro d
  induction d with
  | zero => intro k σ τ _ _ _ _ _ _ _ hk hm; exfalso; omega
  | succ d ih =>
    intro k σ τ hF hF' h33 h33' h45 h45' hrow hkR hm
    have ek : (nI k).toInt = (k : Int) := nI_toInt (by omega)
    have eR : (nI R).toInt = (R : Int) := nI_toInt (by omega)
    have m : ∀ i, i < 443 → i ≠ 42 → τ.2 1 i = σ.2 1 i := fun i hi h42 => by rw [hF.1 1 (by omega), hF'.1 1 (by omega)]; exact hm1 i hi h42
    have r13 : ∀ i, i < R → τ.2 13 i = σ.2 13 i := fun i hi => by rw [hF.1 13 (by omega), hF'.1 13 (by omega)]; exact h13 i hi
    have f16 : σ.1 16 = nI R := (hF.2 16 (by decide) (by decide) (by decide) (by decide) (by decide) (by decide)).trans h16.1
    have f16' : τ.1 16 = nI R := (hF'.2 16 (by decide) (by decide) (by decide) (by decide) (by decide) (by decide)).trans h16.2
    unfold mX9_cutsAll_l12
    rw [f16, f16']
    refine p2_le eR ek rfl rfl (fun q => ?_) (fun q => ?_)
    · have hkR' : k = R := by omega
      subst hkR'
      refine p2_ck rfl rfl ?_
      rw [show rGa τ 1 (1 : Int32) = rGa σ 1 (1 : Int32) from m 1 (by decide) (by decide)]
      refine p2_call (t2_cuts (v3 := nI k) (by unfold RW; decide) (by omega) (fun i hi => r13 i (by omega))) (fun v s v' t hq => ?_)
      obtain ⟨C, kx, rfl, rfl, hC, hkx, u1, u2, u3, u4, u5, u6, u7, u8⟩ := hq
      dsimp only
      rw [eR] at hC u7 u8
      have w : ∀ z, z ≠ 17 → z ≠ 18 → z ≠ 19 → z ≠ 20 → z ≠ 21 → (rSf s 22 (nI C)).2 z = σ.2 z := fun z e1 e2 e3 e4 e5 => u2.1 z e1 e2 e3 (fun _ => ⟨e4, e5⟩)
      have w' : ∀ z, z ≠ 17 → z ≠ 18 → z ≠ 19 → z ≠ 20 → z ≠ 21 → (rSf t 22 (nI C)).2 z = τ.2 z := fun z e1 e2 e3 e4 e5 => u3.1 z e1 e2 e3 (fun _ => ⟨e4, e5⟩)
      have x : ∀ z, z ≠ 22 → z ≠ 54 → (rSf s 22 (nI C)).1 z = σ.1 z := fun z e1 e2 => (sf_ne e1).trans (u2.2 z e2)
      have x' : ∀ z, z ≠ 22 → z ≠ 54 → (rSf t 22 (nI C)).1 z = τ.1 z := fun z e1 e2 => (sf_ne e1).trans (u3.2 z e2)
      have e0 : (nI 0).toInt = 0 := by decide
      refine t2_cutsAll_l78 rFU 0 0 0 (rSf s 22 (nI C)) (rSf t 22 (nI C)) ⟨fun i hi h42 => ?_, ⟨by omega, by omega⟩, ⟨sf_eq, sf_eq⟩, fun i hi => ?_, u7, fun h0 i hi => ?_, ?_⟩ ⟨?_, ?_, by omega, ?_, ?_, ?_, by omega, fun i hi => absurd hi (by omega)⟩ ⟨fun z hz => ?_, fun z e1 e2 e3 e4 e5 e6 => ?_⟩ ⟨fun z hz => ?_, fun z e1 e2 e3 e4 e5 e6 => ?_⟩ (by omega) (fun h0 => ?_) (by omega) (by unfold rFU; omega)
      · rw [w 1 (by decide) (by decide) (by decide) (by decide) (by decide), w' 1 (by decide) (by decide) (by decide) (by decide) (by decide)]; exact m i hi h42
      · rw [w 13 (by decide) (by decide) (by decide) (by decide) (by decide), w' 13 (by decide) (by decide) (by decide) (by decide) (by decide), w 14 (by decide) (by decide) (by decide) (by decide) (by decide), w' 14 (by decide) (by decide) (by decide) (by decide) (by decide), w 15 (by decide) (by decide) (by decide) (by decide) (by decide), w' 15 (by decide) (by decide) (by decide) (by decide) (by decide)]
        exact ⟨r13 i hi, (hrow i hi).1, (hrow i hi).2.1, (hrow i hi).2.2.1, (hrow i hi).2.2.2⟩
      · rw [w 1 (by decide) (by decide) (by decide) (by decide) (by decide)] at h0
        have := hkx h0
        exact u8 rfl i (by omega)
      · rw [w 1 (by decide) (by decide) (by decide) (by decide) (by decide), hF.1 1 (by omega)]; exact hV
      · rw [x 33 (by decide) (by decide)]; exact h33
      · rw [x' 33 (by decide) (by decide)]; exact h33'
      · rw [x 45 (by decide) (by decide), x' 45 (by decide) (by decide), h45, h45']
      · rw [x 45 (by decide) (by decide), h45, e0]; omega
      · rw [x 45 (by decide) (by decide), h45, e0]; omega
      · rw [w z (by omega) (by omega) (by omega) (by omega) (by omega)]; exact hF.1 z hz
      · rw [x z e1 e5]; exact hF.2 z e1 e2 e3 e4 e5 e6
      · rw [w' z (by omega) (by omega) (by omega) (by omega) (by omega)]; exact hF'.1 z hz
      · rw [x' z e1 e5]; exact hF'.2 z e1 e2 e3 e4 e5 e6
      · have := (u7 0 h0).2.2.2.1
        show (0 : Int) ≤ (s.2 17 0).toInt
        omega
    · refine p2_ck (inb_nI (n := 600) (by omega) (by decide)) (inb_nI (n := 600) (by omega) (by decide)) ?_
      refine p2_ck (inb_nI (n := 600) (by omega) (by decide)) (inb_nI (n := 600) (by omega) (by decide)) ?_
      rw [nI_1]
      refine ih (k + 1) _ _ ⟨fun z hz => ?_, fun z e1 e2 e3 e4 e5 e6 => ?_⟩ ⟨fun z hz => ?_, fun z e1 e2 e3 e4 e5 e6 => ?_⟩ h33 h33' h45 h45' (fun i hi => ?_) (by omega) (by omega)
      · exact ((sa_ne (by omega)).trans (sa_ne (by omega))).trans (hF.1 z hz)
      · exact hF.2 z e1 e2 e3 e4 e5 e6
      · exact ((sa_ne (by omega)).trans (sa_ne (by omega))).trans (hF'.1 z hz)
      · exact hF'.2 z e1 e2 e3 e4 e5 e6
      · have p14 : ∀ u : RS9, (rSa (rSa u 14 (nI k) (nI k)) 15 (nI k) (nI (k + 1))).2 14 i = if i = k then nI k else u.2 14 i := fun u => by rw [sa_ne (by decide), sa_nI (by omega)]
        have p15 : ∀ u : RS9, (rSa (rSa u 14 (nI k) (nI k)) 15 (nI k) (nI (k + 1))).2 15 i = if i = k then nI (k + 1) else u.2 15 i := fun u => by rw [sa_nI (by omega), sa_ne (by decide)]
        rw [p14, p14, p15, p15]
        by_cases e : i = k
        · simp only [if_pos e]
          rw [e]
          exact ⟨rfl, rfl, rfl, rfl⟩
        · simp only [if_neg e]
          exact hrow i (by omega)
theorem t2_cutsAll {R : Nat} {σ τ : RS9} (hR : R ≤ 600) (hm1 : ∀ i, i < 443 → i ≠ 42 → τ.2 1 i = σ.2 1 i) (hV : VM9 (σ.2 1)) (h13 : ∀ i, i < R → τ.2 13 i = σ.2 13 i) (h16 : σ.1 16 = nI R ∧ τ.1 16 = nI R) : P2 (mX9_cutsAll σ) (mX9_cutsAll τ) (fun v σ' v' τ' => ∃ p, PR p R σ' τ' ∧ FRA σ σ' ∧ FRA τ τ') := by
  unfold mX9_cutsAll
  have g : ∀ u : RS9, FRA u (rSf (rSf u 33 0) 45 0) := fun u => ⟨fun _ _ => rfl, fun z _ _ e3 e4 _ _ => (sf_ne e4).trans (sf_ne e3)⟩
  exact t2_cutsAll_l12 hR hm1 hV h13 h16 rFU 0 _ _ (g σ) (g τ) ((sf_ne (by decide)).trans sf_eq) ((sf_ne (by decide)).trans sf_eq) sf_eq sf_eq (fun i hi => absurd hi (by omega)) (by omega) (by unfold rFU; omega)
/-! the file is cut -/
def FRB (σ0 σ : RS9) : Prop := (∀ k, k ≤ 12 ∨ 45 ≤ k → σ.2 k = σ0.2 k) ∧ ∀ k, k ≠ 16 → k ≠ 22 → k ≠ 26 → k ≠ 33 → k ≠ 45 → k ≠ 54 → k ≠ 55 → σ.1 k = σ0.1 k
set_option maxHeartbeats 1000000 in
theorem t2_cutsFile_l12 {R : Nat} {σ0 τ0 : RS9} (hR : R ≤ 400) (hm1 : ∀ i, i < 443 → i ≠ 42 → τ0.2 1 i = σ0.2 1 i) (hV : VM9 (σ0.2 1)) : ∀ (d k : Nat) (σ τ : RS9), FRB σ0 σ → FRB τ0 τ → σ.1 16 = nI R → τ.1 16 = nI R → (∀ i, i < k → τ.2 13 i = σ.2 13 i) → k ≤ R → 1000 < k + d → P2 (mX9_cutsFile_l12 d (nI k) σ) (mX9_cutsFile_l12 d (nI k) τ) (fun v σ' v' τ' => ∃ p, PR p R σ' τ' ∧ FRB σ0 σ' ∧ FRB τ0 τ' ∧ σ'.1 16 = nI R) := by
  intro d
  induction d with
  | zero => intro k σ τ _ _ _ _ _ hk hm; exfalso; omega
  | succ d ih =>
    intro k σ τ hF hF' h16 h16' hrow hkR hm
    have ek : (nI k).toInt = (k : Int) := nI_toInt (by omega)
    have eR : (nI R).toInt = (R : Int) := nI_toInt (by omega)
    have m : ∀ i, i < 443 → i ≠ 42 → τ.2 1 i = σ.2 1 i := fun i hi h42 => by rw [hF.1 1 (by omega), hF'.1 1 (by omega)]; exact hm1 i hi h42
    unfold mX9_cutsFile_l12
    rw [h16, h16']
    refine p2_le eR ek rfl rfl (fun q => ?_) (fun q => ?_)
    · refine p2_call (t2_cutsAll (R := R) (by omega) m (by rw [hF.1 1 (by omega)]; exact hV) (fun i hi => hrow i (by omega)) ⟨h16, h16'⟩) (fun v s v' t hq => ?_)
      obtain ⟨p, hP, g, g'⟩ := hq
      dsimp only
      refine p2_ret ⟨p, hP, ⟨fun z hz => (g.1 z (by omega)).trans (hF.1 z hz), fun z e0 e1 e2 e3 e4 e5 e6 => (g.2 z e1 e2 e3 e4 e5 e6).trans (hF.2 z e0 e1 e2 e3 e4 e5 e6)⟩, ⟨fun z hz => (g'.1 z (by omega)).trans (hF'.1 z hz), fun z e0 e1 e2 e3 e4 e5 e6 => (g'.2 z e1 e2 e3 e4 e5 e6).trans (hF'.2 z e0 e1 e2 e3 e4 e5 e6)⟩, ?_⟩
      exact (g.2 16 (by decide) (by decide) (by decide) (by decide) (by decide) (by decide)).trans h16
    · have e43 : ((43 : Int32) + nI k) = nI (43 + k) := nI_add 43 k
      rw [e43]
      refine p2_ck (inb_nI (n := 4347) (by omega) (by decide)) (inb_nI (n := 4347) (by omega) (by decide)) ?_
      refine p2_ck (inb_nI (n := 600) (by omega) (by decide)) (inb_nI (n := 600) (by omega) (by decide)) ?_
      rw [nI_1, show rGa τ 1 (nI (43 + k)) = rGa σ 1 (nI (43 + k)) by rw [rd_nI (by omega), rd_nI (by omega)]; exact m _ (by omega) (by omega)]
      refine ih (k + 1) _ _ ⟨fun z hz => (sa_ne (by omega)).trans (hF.1 z hz), hF.2⟩ ⟨fun z hz => (sa_ne (by omega)).trans (hF'.1 z hz), hF'.2⟩ h16 h16' (fun i hi => ?_) (by omega) (by omega)
      rw [sa_nI (by omega), sa_nI (by omega)]
      by_cases e : i = k
      · rw [if_pos e, if_pos e]
      · rw [if_neg e, if_neg e]; exact hrow i (by omega)
theorem t2_cutsFile {σ τ : RS9} (hm1 : ∀ i, i < 443 → i ≠ 42 → τ.2 1 i = σ.2 1 i) (hV : VM9 (σ.2 1)) : P2 (mX9_cutsFile σ) (mX9_cutsFile τ) (fun v σ' v' τ' => ∃ p R : Nat, σ.2 1 0 = nI R ∧ R ≤ 400 ∧ PR p R σ' τ' ∧ FRB σ σ' ∧ FRB τ τ' ∧ σ'.1 16 = nI R) := by
  obtain ⟨R, hR6, eR⟩ := nI_back hV.1.1 (by have := hV.1.2; omega)
  have hR4 : R ≤ 400 := by
    have := hV.1.2
    rw [eR, nI_toInt (by omega)] at this; omega
  unfold mX9_cutsFile
  refine p2_ck rfl rfl ?_
  rw [show rGa σ 1 (0 : Int32) = nI R from eR, show rGa τ 1 (0 : Int32) = nI R from (hm1 0 (by decide) (by decide)).trans eR]
  have g : ∀ (u : RS9) (x : Int32), FRB u (rSf u 16 x) := fun u x => ⟨fun _ _ => rfl, fun z e _ _ _ _ _ _ => sf_ne e⟩
  refine p2_tail (t2_cutsFile_l12 hR4 hm1 hV rFU 0 _ _ (g σ _) (g τ _) sf_eq sf_eq (fun i hi => absurd hi (by omega)) (by omega) (by unfold rFU; omega)) (fun v s v' t hq => ?_)
  obtain ⟨p, hP, h1, h2, h3⟩ := hq
  exact ⟨p, R, eR, hR4, hP, h1, h2, h3⟩
