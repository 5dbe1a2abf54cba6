/-! what is built, cut again -/
section AGN
variable {σ : RS9}
/-- while what is built is cut: m and the rest stay -/
def FZ (σ0 σ : RS9) : Prop := (∀ k, k ≤ 12 → σ.2 k = σ0.2 k) ∧ ∀ k, k = 5 ∨ k = 6 ∨ k = 9 → σ.1 k = σ0.1 k
def AG9 (σ0 : RS9) (p : Nat) (σ : RS9) : Prop := FZ σ0 σ ∧ (∃ q, CP q σ) ∧ σ.1 59 = nI p ∧ (∀ i, i ≤ p → 0 ≤ (σ.2 51 i).toInt ∧ (σ.2 51 i).toInt ≤ 700) ∧ ∀ i, i < p → 0 ≤ (σ.2 52 i).toInt ∧ (σ.2 52 i).toInt ≤ 600
theorem o_cutsBuilt (h : RI σ) {p : Nat} (hp : σ.1 33 = nI p) (hp4 : p ≤ 40) : P1 (mX9_cutsBuilt (rSf σ 0 0)) (fun v σ' => AG9 σ p σ') := by
  obtain ⟨p2, M, hC, hB, hS, h0, h6⟩ := core_x (ri_0 (v := 0) h).1
  have ep : p2 = p := nI_inj (by have := hC.2.1; omega) (by omega) (hC.1.symm.trans ((sf_ne (by decide)).trans hp))
  subst ep
  have hV := h.1.1
  unfold mX9_cutsBuilt
  refine q1_call (o_builds hB hS h0 h6) (fun v s hs => ?_)
  obtain ⟨hv, hF, h52⟩ := hs
  dsimp only
  have hlo := sm_lo hB hS h0 p2 (Nat.le_refl _)
  have htt : tt (rSf σ 0 0) p2 ≤ M := by
    cases p2 with
    | zero => show (0 : Int) ≤ M; omega
    | succ j => exact (hS.2.2 j (by omega)).1
  obtain ⟨N, hN6, hN⟩ := nI_back (x := v) (by omega) (by omega)
  have s33 : s.1 33 = nI p2 := (hF.2 33 (by decide)).trans hC.1
  have rows : ∀ k, k ≤ 45 → s.2 k = σ.2 k := fun k hk => hF.1 k (by omega) (by omega) (by omega) (by omega) (by omega)
  have flds : ∀ k, k ≠ 0 → k ≠ 56 → s.1 k = σ.1 k := fun k k0 k56 => (hF.2 k k56).trans (sf_ne k0)
  rw [hN, s33]
  -- the last part: the row is laid and cut
  have last : ∀ (d k : Nat) (u : RS9), (∀ z, z ≤ 12 → u.2 z = σ.2 z) → (∀ z, z = 5 ∨ z = 6 ∨ z = 9 → u.1 z = σ.1 z) → u.1 59 = nI p2 → u.1 16 = nI N → (∀ i, i ≤ p2 → 0 ≤ (u.2 51 i).toInt ∧ (u.2 51 i).toInt ≤ 700) → (∀ i, i < p2 → 0 ≤ (u.2 52 i).toInt ∧ (u.2 52 i).toInt ≤ 600) → k ≤ N → 1000 < k + d → P1 (mX9_cutsBuilt_l99 d (nI N) (nI k) u) (fun v σ' => AG9 σ p2 σ') := by
    intro d
    induction d with
    | zero => intro k u _ _ _ _ _ _ hk hm; exfalso; omega
    | succ d ih =>
      intro k u h1 h2 h59 h16 h51 h52 hk hm
      have ek : (nI k).toInt = (k : Int) := nI_toInt (by omega)
      have eN : (nI N).toInt = (N : Int) := nI_toInt (by omega)
      unfold mX9_cutsBuilt_l99
      refine q1_le eN ek (fun q => ?_) (fun q => ?_)
      · refine q1_call (p1_of (t2_cutsAll (R := N) hN6 (fun _ _ _ => rfl) (by rw [h1 1 (by decide)]; exact hV) (fun _ _ => rfl) ⟨h16, h16⟩)) (fun w s2 hs2 => ?_)
        obtain ⟨q9, hP, hA, -⟩ := hs2
        dsimp only
        refine q1_ret ⟨⟨fun z hz => (hA.1 z (by omega)).trans (h1 z hz), fun z hz => (hA.2 z (by omega) (by omega) (by omega) (by omega) (by omega) (by omega)).trans (h2 z hz)⟩, ⟨q9, hP.1, hP.2.2.1, by rw [hA.1 1 (by omega), h1 1 (by decide)]; exact hV, fun i hi => ?_⟩, (hA.2 59 (by decide) (by decide) (by decide) (by decide) (by decide) (by decide)).trans h59, fun i hi => by rw [hA.1 51 (by omega)]; exact h51 i hi, fun i hi => by rw [hA.1 52 (by omega)]; exact h52 i hi⟩
        obtain ⟨b1, b2, b3, b4, b5, b6, b7, b8⟩ := hP.2.2.2.2.2.2.2 i hi
        have := hP.2.2.2.2.2.1
        exact ⟨b2, b3, by omega, b6, b7, by omega⟩
      · rw [nI_1, rd_nI (by omega)]
        refine q1_ck (inb_nI (n := 700) (by omega) (by decide)) (q1_ck (inb_nI (n := 600) (by omega) (by decide)) ?_)
        exact ih (k + 1) _ (fun z hz => (sa_ne (by omega)).trans (h1 z hz)) h2 h59 h16 (fun i hi => by rw [sa_ne (by decide)]; exact h51 i hi) (fun i hi => by rw [sa_ne (by decide)]; exact h52 i hi) (by omega) (by omega)
  -- what pieces are now is laid aside
  let OK : Nat → RS9 → Prop := fun i u => (∀ z, z ≤ 45 → u.2 z = σ.2 z) ∧ (∀ z, z ≠ 0 → z ≠ 56 → z ≠ 59 → u.1 z = σ.1 z) ∧ u.1 59 = nI p2 ∧ (∀ j, j < i → 0 ≤ (u.2 51 j).toInt ∧ (u.2 51 j).toInt ≤ 700) ∧ (∀ j, j < p2 → 0 ≤ (u.2 52 j).toInt ∧ (u.2 52 j).toInt ≤ 600)
  have hCP : ∀ i u, OK i u → CP p2 u := fun i u hu => by
    obtain ⟨c1, c2, c3, c4⟩ := hC
    refine ⟨(hu.2.1 33 (by decide) (by decide) (by decide)).trans hp, c2, by rw [hu.1 1 (by decide)]; exact hV, fun j hj => ?_⟩
    rw [hu.1 34 (by decide), hu.1 35 (by decide), hu.1 41 (by decide), hu.1 42 (by decide)]
    exact c4 j hj
  have inner : ∀ (i : Nat) (rec20 : Int32 → Int32 → Int32 → Int32 → RS9 → Option (Int32 × RS9)), i < p2 → (∀ (a : Nat) (u : RS9), a ≤ 700 → OK (i + 1) u → P1 (rec20 (nI N) (nI p2) (nI a) (nI (i + 1)) u) (fun v σ' => AG9 σ p2 σ')) → ∀ (d k a : Nat) (u : RS9), a ≤ 700 → OK (i + 1) u → k ≤ 700 → 1000 < k + d → P1 (mX9_cutsBuilt_l37 rec20 d (nI N) (nI p2) (nI a) (nI i) (nI k) u) (fun v σ' => AG9 σ p2 σ') := by
    intro i rec20 hi Hr d
    induction d with
    | zero => intro k a u _ _ hk hm; exfalso; omega
    | succ d ih =>
      intro k a u ha hu hk hm
      have hCu := hCP _ u hu
      have ei : (nI i).toInt = (i : Int) := nI_toInt (by omega)
      have ek : (nI k).toInt = (k : Int) := nI_toInt (by omega)
      have ea : (nI a).toInt = (a : Int) := nI_toInt (by omega)
      have hx : 0 ≤ (nI i).toInt ∧ (nI i).toInt < (p2 : Int) := by rw [ei]; omega
      have hnb := nm_b hCu hx
      have b78 : P1 (mX9_cutsBuilt_b78 rec20 (nI N) (nI p2) (nI a) (nI i) u) (fun v σ' => AG9 σ p2 σ') := by
        unfold mX9_cutsBuilt_b78
        rw [nI_1]
        exact Hr a u ha hu
      unfold mX9_cutsBuilt_l37
      refine q1_ro (o_nowMany hCu hx) (fun y hy => ?_)
      dsimp only
      refine q1_le hy ek (fun q => b78) (fun q => ?_)
      refine q1_le (show (700 : Int32).toInt = 700 by decide) ea (fun q2 => b78) (fun q2 => ?_)
      refine q1_ro (o_nowByte hCu hx (by rw [ek]; omega)) (fun z _ => ?_)
      dsimp only
      rw [nI_1, nI_1]
      refine q1_ck (inb_nI (n := 700) (by omega) (by decide)) ?_
      exact ih (k + 1) (a + 1) _ (by omega) ⟨fun z hz => (sa_ne (by omega)).trans (hu.1 z hz), hu.2.1, hu.2.2.1, fun j hj => by rw [sa_ne (by decide)]; exact hu.2.2.2.1 j hj, fun j hj => by rw [sa_ne (by decide)]; exact hu.2.2.2.2 j hj⟩ (by omega) (by omega)
  have outer : ∀ (d i a : Nat) (u : RS9), a ≤ 700 → OK i u → i ≤ p2 → 100 < i + d → P1 (mX9_cutsBuilt_l20 d (nI N) (nI p2) (nI a) (nI i) u) (fun v σ' => AG9 σ p2 σ') := by
    intro d
    induction d with
    | zero => intro i a u _ _ hi hm; exfalso; omega
    | succ d ih =>
      intro i a u ha hu hi hm
      have ei : (nI i).toInt = (i : Int) := nI_toInt (by omega)
      have epp : (nI p2).toInt = (p2 : Int) := nI_toInt (by omega)
      have ea : (nI a).toInt = (a : Int) := nI_toInt (by omega)
      have row51 : ∀ (w : Nat), w ≤ 40 → ∀ j, (rSa u 51 (nI w) (nI a)).2 51 j = if j = w then nI a else u.2 51 j := fun w hw j => sa_nI (by omega)
      unfold mX9_cutsBuilt_l20
      refine q1_le epp ei (fun q => ?_) (fun q => ?_)
      · refine q1_ck (inb_nI (n := 41) (by omega) (by decide)) ?_
        refine last rFU 0 _ (fun z hz => (sa_ne (by omega)).trans (hu.1 z (by omega))) (fun z hz => (sf_ne (by omega)).trans (hu.2.1 z (by omega) (by omega) (by omega))) ((sf_ne (by decide)).trans hu.2.2.1) sf_eq (fun j hj => ?_) (fun j hj => ?_) (by omega) (by unfold rFU; omega)
        · show 0 ≤ ((rSa u 51 (nI p2) (nI a)).2 51 j).toInt ∧ ((rSa u 51 (nI p2) (nI a)).2 51 j).toInt ≤ 700
          rw [row51 p2 hp4]
          by_cases e : j = p2
          · rw [if_pos e, ea]; omega
          · rw [if_neg e]; exact hu.2.2.2.1 j (by omega)
        · show 0 ≤ ((rSa u 51 (nI p2) (nI a)).2 52 j).toInt ∧ ((rSa u 51 (nI p2) (nI a)).2 52 j).toInt ≤ 600
          rw [sa_ne (by decide)]; exact hu.2.2.2.2 j hj
      · refine q1_ck (inb_nI (n := 41) (by omega) (by decide)) ?_
        refine inner i _ (by omega) (fun a2 u2 h1 h2 => ih (i + 1) a2 u2 h1 h2 (by omega) (by omega)) rFU 0 a _ ha ⟨fun z hz => (sa_ne (by omega)).trans (hu.1 z hz), hu.2.1, hu.2.2.1, fun j hj => ?_, fun j hj => by rw [sa_ne (by decide)]; exact hu.2.2.2.2 j hj⟩ (by omega) (by unfold rFU; omega)
        rw [row51 i (by omega)]
        by_cases e : j = i
        · rw [if_pos e, ea]; omega
        · rw [if_neg e]; exact hu.2.2.2.1 j (by omega)
  refine outer rFU 0 0 _ (by omega) ⟨fun z hz => rows z hz, fun z z0 z56 z59 => (sf_ne z59).trans (flds z z0 z56), sf_eq, fun j hj => absurd hj (by omega), h52⟩ (by omega) (by unfold rFU; omega)
theorem o_isNow {p q : Nat} {s : RS9} (hC : CP q s) (h51 : ∀ i, i ≤ p → 0 ≤ (s.2 51 i).toInt ∧ (s.2 51 i).toInt ≤ 700) (hp : p ≤ 40) {x y : Int32} (hx : 0 ≤ x.toInt ∧ x.toInt < (q : Int)) (hy : 0 ≤ y.toInt ∧ y.toInt < (p : Int)) : P1 (mX9_isNow x y s) (fun v σ' => σ' = s ∧ (v = 0 ∨ v = 1)) := by
  have h1 := cp_rd hC hx
  have ey : (y + (1 : Int32)).toInt = y.toInt + 1 := i_add rfl kt_1 (by omega)
  have n0 : 0 ≤ (rGa s 51 y).toInt ∧ (rGa s 51 y).toInt ≤ 700 := h51 _ (by rw [tn]; omega)
  have n1 : 0 ≤ (rGa s 51 (y + (1 : Int32))).toInt ∧ (rGa s 51 (y + (1 : Int32))).toInt ≤ 700 := h51 _ (by rw [tn]; omega)
  have ed : ((rGa s 51 (y + (1 : Int32))) - (rGa s 51 y)).toInt = (rGa s 51 (y + (1 : Int32))).toInt - (rGa s 51 y).toInt := i_sub rfl rfl (by omega)
  have key : ∀ (d : Nat) (v3 v4 : Int32), (v3 = 0 ∨ v3 = 1) → (v3 ≠ 0 → (rGa s 42 x).toInt = (rGa s 51 (y + (1 : Int32))).toInt - (rGa s 51 y).toInt) → (0 ≤ v4.toInt ∧ v4.toInt ≤ 700) → 1000 - v4.toInt < (d : Int) → P1 (mX9_isNow_l33 d x y v3 v4 s) (fun v σ' => σ' = s ∧ (v = 0 ∨ v = 1)) := by
    intro d
    induction d with
    | zero => intro v3 v4 _ _ _ hm; exfalso; omega
    | succ d ih =>
      intro v3 v4 hb he h4 hm
      unfold mX9_isNow_l33
      refine q1_ck (cp_ck hC hx rfl) ?_
      refine q1_le rfl rfl (fun q => q1_ck (nb_of hb) (q1_ret ⟨rfl, hb⟩)) (fun q => ?_)
      refine q1_eq (fun q2 => q1_ck (nb_of hb) (q1_ret ⟨rfl, hb⟩)) (fun q2 => ?_)
      have h3 := he q2
      have e1 : ((rGa s 41 x) + v4).toInt = (rGa s 41 x).toInt + v4.toInt := i_add rfl rfl (by omega)
      have e2 : ((rGa s 51 y) + v4).toInt = (rGa s 51 y).toInt + v4.toInt := i_add rfl rfl (by omega)
      have e4 : (v4 + (1 : Int32)).toInt = v4.toInt + 1 := i_add rfl kt_1 (by omega)
      refine q1_ck (cp_ck hC hx rfl) (q1_ck (in_of (N := 600) (by omega) (by omega)) (q1_ck (in_of (N := 41) (by omega) (by omega)) (q1_ck (in_of (N := 700) (by omega) (by omega)) ?_)))
      exact q1_eq (fun _ => ih 1 (v4 + (1 : Int32)) (Or.inr rfl) (fun _ => h3) (by omega) (by omega)) (fun _ => ih 0 (v4 + (1 : Int32)) (Or.inl rfl) (fun e => absurd rfl e) (by omega) (by omega))
  unfold mX9_isNow
  refine q1_ck (cp_ck hC hx rfl) (q1_ck (in_of (N := 41) (by omega) (by omega)) (q1_ck (in_of (N := 41) (by omega) (by omega)) ?_))
  refine q1_eq (fun q => ?_) (fun q => ?_)
  · exact key rFU 1 0 (Or.inr rfl) (fun _ => by rw [q]; exact ed) (by decide) (by unfold rFU; rw [kt_0]; omega)
  · exact key rFU 0 0 (Or.inl rfl) (fun e => absurd rfl e) (by decide) (by unfold rFU; rw [kt_0]; omega)
/-- then the file is cut again, and all stands as before -/
theorem ag_end (h : RI σ) {p : Nat} {s : RS9} (hA : AG9 σ p s) {v : Int32} (hv : v = 0 ∨ v = 1) : P1 ((mX9_cutsFile s).bind fun r1 => rCk (rNb v) (some (v, r1.2))) (RP (σ.1 9)) := by
  have hG : GOOD (s.2 1) := by rw [hA.1.1 1 (by decide)]; exact good_m h.1
  refine q1_call (cut_core hG) (fun w s2 hs => ?_)
  refine q1_ck (nb_of hv) (q1_ret ⟨ri_b hs.1 hs.2 (by rw [hA.1.2 9 (by omega)]; exact h.2.1) (un_fr h.2.2.1 (hA.1.1 4 (by decide)) (hA.1.2 5 (by omega))) (im_fr h.2.2.2 (hA.1.1 3 (by decide)) (hA.1.2 6 (by omega))), ?_⟩)
  exact (hs.1.2 9 (by decide) (by decide) (by decide) (by decide) (by decide) (by decide) (by decide)).trans (hA.1.2 9 (by omega))
theorem ur_twice (h : RI σ) : P1 (mX9_twice σ) (RP (σ.1 9)) := by
  obtain ⟨p, M, hC0, -⟩ := core_x h.1
  unfold mX9_twice
  refine q1_call (o_cutsBuilt h hC0.1 hC0.2.1) (fun v s hA => ?_)
  dsimp only
  obtain ⟨hZ, ⟨q, hC⟩, h59, h51, h52⟩ := id hA
  have hp4 := hC0.2.1
  have hq4 := hC.2.1
  have e59 : (s.1 59).toInt = (p : Int) := by rw [h59]; exact nI_toInt (by omega)
  have key : ∀ (d : Nat) (v1 v2 : Int32), (v1 = 0 ∨ v1 = 1) → (v1 ≠ 0 → q = p) → (0 ≤ v2.toInt ∧ v2.toInt ≤ 100) → 1000 - v2.toInt < (d : Int) → P1 (mX9_twice_l28 d v1 v2 s) (RP (σ.1 9)) := by
    intro d
    induction d with
    | zero => intro v1 v2 _ _ _ hm; exfalso; omega
    | succ d ih =>
      intro v1 v2 hb he h2 hm
      unfold mX9_twice_l28
      refine q1_le e59 rfl (fun _ => ag_end h hA hb) (fun qq => ?_)
      refine q1_eq (fun _ => ag_end h hA hb) (fun q2 => ?_)
      have e2 : (v2 + (1 : Int32)).toInt = v2.toInt + 1 := i_add rfl kt_1 (by omega)
      have epq := he q2
      refine q1_ro (o_isNow hC h51 hp4 (by omega) (by omega)) (fun y hy => ?_)
      exact ih _ _ hy (fun _ => epq) (by omega) (by omega)
  refine q1_eq (fun e => ?_) (fun e => ?_)
  · exact key rFU 1 0 (Or.inr rfl) (fun _ => nI_inj (by omega) (by omega) (hC.1.symm.trans (e.trans h59))) (by decide) (by unfold rFU; rw [kt_0]; omega)
  · exact key rFU 0 0 (Or.inl rfl) (fun e => absurd rfl e) (by decide) (by unfold rFU; rw [kt_0]; omega)
theorem ur_kept (h : RI σ) {x : Int32} : P1 (mX9_kept x σ) (RP (σ.1 9)) := by
  obtain ⟨p, M, hC0, -⟩ := core_x h.1
  have hp4 := hC0.2.1
  unfold mX9_kept
  refine q1_ro (o_isPieceThere hC0) (fun y hy => ?_)
  dsimp only
  refine q1_eq (fun q => ?_) (fun q => ?_)
  · unfold mX9_kept_b14
    exact le0 (fun e => absurd e (by decide)) (fun _ => q1_ck rfl (q1_ret (rp_0 h)))
  · have hx := hy.2 q
    unfold mX9_kept_b14
    refine le0 (fun _ => ?_) (fun e => absurd e (by decide))
    refine q1_call (o_cutsBuilt h hC0.1 hp4) (fun v s hA => ?_)
    dsimp only
    obtain ⟨hZ, ⟨q, hC⟩, h59, h51, h52⟩ := id hA
    have hq4 := hC.2.1
    have g52 : 0 ≤ (rGa s 52 x).toInt ∧ (rGa s 52 x).toInt ≤ 600 := h52 _ (by rw [tn]; omega)
    have c52 : rIn x (rLen 52) = true := in_of (N := 40) hx.1 (by omega)
    have key : ∀ (d : Nat) (w v3 v4 : Int32), (v3 = 0 ∨ v3 = 1) → (0 ≤ v4.toInt ∧ v4.toInt ≤ 100) → 1000 - v4.toInt < (d : Int) → P1 (mX9_kept_l66 d x w v3 v4 s) (RP (σ.1 9)) := by
      intro d
      induction d with
      | zero => intro w v3 v4 _ _ hm; exfalso; omega
      | succ d ih =>
        intro w v3 v4 hb h4 hm
        unfold mX9_kept_l66
        refine q1_le (cp_33 hC) rfl (fun _ => ag_end h hA hb) (fun qq => ?_)
        have e4 : (v4 + (1 : Int32)).toInt = v4.toInt + 1 := i_add rfl kt_1 (by omega)
        have nx0 : P1 (mX9_kept_l66 d x w 0 (v4 + (1 : Int32)) s) (RP (σ.1 9)) := ih _ _ _ (Or.inl rfl) (by omega) (by omega)
        have nx1 : P1 (mX9_kept_l66 d x w 1 (v4 + (1 : Int32)) s) (RP (σ.1 9)) := ih _ _ _ (Or.inr rfl) (by omega) (by omega)
        have b117 : P1 (mX9_kept_b117 (fun v1 v2 v3 v4 σ => mX9_kept_l66 d v1 v2 v3 v4 σ) x w v4 s) (RP (σ.1 9)) := by
          unfold mX9_kept_b117
          refine q1_ro (o_isNow hC h51 hp4 (by omega) hx) (fun z _ => ?_)
          exact q1_eq (fun _ => nx0) (fun _ => nx1)
        refine q1_eq (fun q3 => ?_) (fun _ => nx1)
        refine q1_ck (cp_ck hC (by omega) rfl) (q1_ck c52 ?_)
        refine q1_eq (fun _ => b117) (fun _ => ?_)
        refine q1_eq (fun _ => nx0) (fun _ => ?_)
        refine q1_ck (cp_ck hC (by omega) rfl) (q1_ck c52 ?_)
        exact q1_eq (fun _ => b117) (fun _ => nx0)
    have k0 : ∀ w, P1 (mX9_kept_l66 rFU x w 0 0 s) (RP (σ.1 9)) := fun w => key rFU w 0 0 (Or.inl rfl) (by decide) (by unfold rFU; rw [kt_0]; omega)
    rw [nI_x hx.1 (by omega)]
    refine q1_bind (toldOf_eq (i := x.toInt.toNat) (by omega) s) ?_
    dsimp only
    rw [← nI_x hx.1 (by omega)]
    refine q1_eq (fun _ => k0 _) (fun _ => ?_)
    refine q1_ck c52 (q1_ck (in_of (N := 700) (by omega) (by omega)) ?_)
    exact q1_eq (fun _ => k0 _) (fun _ => k0 _)
end AGN
