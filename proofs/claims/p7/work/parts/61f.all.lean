/-! the reference cuts a row into pieces, whole -/
section RAO
variable {cf : CFG} {L : BL}
theorem r_outer (h6 : L.length ≤ 600) {σ0 : RS9} : ∀ (d c : Nat) (σ : RS9), c ≤ (cutL cf.1 L 0).length → FRX RI9 FI9 σ0 σ → CB9 cf L σ → PT σ (decide (cf.1 = 0)) (((cutL cf.1 L 0).take c).foldl (tkC cf L) []) → PQ (mX9_cutsAll_l78 d (nI c) σ) (fun y => ∃ σ', y = (0, σ') ∧ PT σ' (decide (cf.1 = 0)) (pcs cf L) ∧ FRX RI9 FI9 σ0 σ') := by
  intro d
  induction d with
  | zero => intro c σ _ _ _ _; exact pq_none
  | succ d ih =>
    intro c σ hcl hF hB hP
    obtain ⟨b1, b2, b3, b4, b5, b6⟩ := id hB
    unfold mX9_cutsAll_l78
    rw [b4]
    refine pq_le (nI_toInt (by omega)) (nI_toInt (by omega)) (fun q => ?_) (fun q => ?_)
    · have e : c = (cutL cf.1 L 0).length := by omega
      rw [e, List.take_length] at hP
      exact pq_ret ⟨σ, rfl, hP, hF⟩
    have hc : c < (cutL cf.1 L 0).length := by omega
    obtain ⟨g1, g2, g3, g4⟩ := b6 c hc
    have hts := take_s hc
    have hcm := gd_in hc
    generalize hci : (cutL cf.1 L 0).getD c ciD = ci at g1 g2 g3 g4 hts hcm
    have hb := cutL_b (k := cf.1) (L := L) _ 0 (Nat.le_refl _) ci hcm
    have hcx := cutL_x (k := cf.1) (L := L) _ 0 (Nat.le_refl _) ci hcm
    have hkc := (MC_k b1).1
    have e1 : rGa σ 1 (1 : Int32) = cf.1 := b1.1
    rw [e1, rd_nI (by omega), g3]
    refine pq_ck (pq_ck ?_)
    -- the next cut
    have nxt : ∀ σ' : RS9, CB9 cf L σ' → PT σ' (decide (cf.1 = 0)) (tkC cf L (((cutL cf.1 L 0).take c).foldl (tkC cf L) []) ci) → FRX RI9 FI9 σ0 σ' → PQ (mX9_cutsAll_l78 d (nI (c + 1)) σ') (fun y => ∃ σ', y = (0, σ') ∧ PT σ' (decide (cf.1 = 0)) (pcs cf L) ∧ FRX RI9 FI9 σ0 σ') := fun σ' h1 h2 h3 => by
      refine ih (c + 1) σ' (by omega) h3 h1 ?_
      rw [hts, List.foldl_append]; exact h2
    have main : PQ (mX9_cutsAll_b109 (fun v1 σ => mX9_cutsAll_l78 d v1 σ) (nI c) cf.1 (bI ci.2.2.1) σ) (fun y => ∃ σ', y = (0, σ') ∧ PT σ' (decide (cf.1 = 0)) (pcs cf L) ∧ FRX RI9 FI9 σ0 σ') := by
      unfold mX9_cutsAll_b109
      rw [rd_nI (by omega), rd_nI (by omega), g1, g2]
      refine pq_ck (pq_ck (pq_call (r_undoes (q := ci.2.2.1) (a := ci.1) (b := ci.2.1) (L := L) (Or.inl ⟨rfl, rfl, rfl, rfl, rfl, rfl⟩) b2 h6 (by omega) (by omega) hkc) (fun y hy => ?_)))
      obtain ⟨σ1, rfl, hUT, hF1⟩ := hy
      have hwl := und_len (k := cf.1) (q := ci.2.2.1) (L := L) (b := ci.2.1) _ ci.1 (Nat.le_refl _)
      have hwc := und_ch (k := cf.1) (q := ci.2.2.1) (L := L) (b := ci.2.1) _ ci.1 (Nat.le_refl _)
      have hw0 := hwl.2 hb.2.1
      have hu : uOf cf L ci = und cf.1 ci.2.2.1 L ci.1 ci.2.1 := rfl
      generalize hw : und cf.1 ci.2.2.1 L ci.1 ci.2.1 = w at hUT hwl hwc hw0 hu
      have hF1' : FRX RI9 FI9 σ (rSf σ1 26 (nI w.length)) := ⟨fun k hk => hF1.1 k (fun q => hk (by omega)), fun k hk => (sf_ne (fun q => hk (Or.inl q))).trans (hF1.2 k (fun q => hk (by omega)))⟩
      have hF1b : FRX (R3 23 24 25) (fun k => k = 26 ∨ k = 55) σ (rSf σ1 26 (nI w.length)) := ⟨fun k hk => hF1.1 k hk, fun k hk => (sf_ne (fun q => hk (Or.inl q))).trans (hF1.2 k (fun q => hk (Or.inr q)))⟩
      have hB1 := CB9_frx hB hF1' (fun k hk q => by omega) (fun q => by omega)
      have hP1 := PT_frx hP hF1b (fun k h1 h2 q => by omega) ⟨fun q => by omega, fun q => by omega⟩
      have hU1 : UR9 (rSf σ1 26 (nI w.length)) w := fun j hj => by
        have hk := hwc j hj
        obtain ⟨u1, u2, u3⟩ := hUT j hj
        exact ⟨u1, u2.trans (b3 _ (by omega)).1, u3.trans (by rw [(b3 _ (by omega)).2]; congr 1; omega)⟩
      have e2 : rGa σ1 1 (2 : Int32) = cf.2.1 := hB1.1.2.1
      have e2' : rGa (rSf σ1 26 (nI w.length)) 1 (2 : Int32) = cf.2.1 := hB1.1.2.1
      generalize hs2 : rSf σ1 26 (nI w.length) = s2 at hF1' hB1 hP1 hU1 e2'
      show PQ (rCk _ (if rGa σ1 1 (2 : Int32) = -1 then ((mX9_takes (nI c) 23 24 25 (nI w.length) (1 : Int32) (0 : Int32) s2).bind fun r7 => mX9_cutsAll_b333 (fun v1 σ => mX9_cutsAll_l78 d v1 σ) (nI c) r7.2) else rCk _ ((mX9_cuts (rGa σ1 1 (2 : Int32)) 23 (nI w.length) 27 28 29 s2).bind fun r6 => mX9_cutsAll_l220 (fun v1 σ => mX9_cutsAll_l78 d v1 σ) rFU (nI c) r6.1 (0 : Int32) r6.2))) _
      rw [e2]
      refine pq_ck (pq_eq (fun qi => ?_) (fun qi => pq_ck ?_))
      · -- no inner kind
        have hx1 : pX (pcO cf L ci) = w.map (fun x => x.1) := by
          show (und cf.1 ci.2.2.1 L ci.1 ci.2.1).map (fun x => x.1) = _
          rw [hw]
        have hx2 : pG (pcO cf L ci) = w.map (fun x => x.2.1) := by
          show (und cf.1 ci.2.2.1 L ci.1 ci.2.1).map (fun x => x.2.1) = _
          rw [hw]
        have hxl : (pX (pcO cf L ci)).length = w.length := by rw [hx1, List.length_map]
        obtain ⟨q1, q2, q3, q4⟩ := hB1.2.2.2.2.2 c hc
        rw [hci] at q1 q2 q3 q4
        have tk1 := r_takes (t1 := 23) (t2 := 24) (t3 := 25) (x := pcO cf L ci) (ci := ci) (c := c) hB1.1 hB1.2.1 h6 hP1 (Or.inl ⟨rfl, rfl, rfl⟩) (by omega) (fun _ => hcx.1) q4 rfl rfl q3 (fun j hj => by
            rw [hxl] at hj
            rw [hx1, mgd hj]; exact (hU1 j hj).1) (fun j hj => by
            rw [List.length_map, hx2, List.length_map] at hj
            rw [(hU1 j hj).2.1, hx2, List.map_map, mgd hj]; rfl) (by rw [hx2, hxl, List.length_map]) (by rw [hxl]; exact hw0) (by rw [hxl]; omega) (by
            rw [(hU1 0 hw0).2.1, (hwc 0 hw0).2.2.2.1 rfl]; rfl) (by
            rw [hxl, (hU1 (w.length - 1) (by omega)).2.2, (hwc (w.length - 1) (by omega)).2.2.2.2.2 (by omega)]; rfl)
        rw [hxl] at tk1
        refine pq_call tk1 (fun y hy => ?_)
        obtain ⟨σ2, rfl, hP2, hF2⟩ := hy
        have hF2' : FRX RI9 FI9 s2 σ2 := frx_mono hF2 (fun k hk => by omega) (fun k hk => by omega)
        unfold mX9_cutsAll_b333
        show PQ (mX9_cutsAll_l78 d (nI c + 1) σ2) _
        rw [nI_1]
        refine nxt σ2 (CB9_frx hB1 hF2' (fun k hk q => by omega) (fun q => by omega)) ?_ (frx_tr hF (frx_tr hF1' hF2'))
        have e5 : tkC cf L (((cutL cf.1 L 0).take c).foldl (tkC cf L) []) ci = if lkd cf L ci = true then ((cutL cf.1 L 0).take c).foldl (tkC cf L) [] else tk cf (((cutL cf.1 L 0).take c).foldl (tkC cf L) []) (pcO cf L ci) := by
          unfold tkC pcC
          rw [if_pos qi]; rfl
        rw [e5]; exact hP2
      · have hwl2 : ((uOf cf L ci).map (fun x => x.1)).length = w.length := by rw [hu, List.length_map]
        have hX23 : RLs s2 23 ((uOf cf L ci).map (fun x => x.1)) := fun j hj => by
          rw [hwl2] at hj
          rw [hu, mgd hj]; exact (hU1 j hj).1
        have hkI : cf.2.1 = 0 ∨ cf.2.1 = 1 ∨ cf.2.1 = 2 ∨ cf.2.1 = 3 := by
          rcases (MC_k b1).2.1 with h | h
          · exact absurd h qi
          · exact h
        have rc := r_cutsI (k := cf.2.1) (by rw [hwl2]; omega) hkI hX23
        rw [hwl2] at rc
        refine pq_call rc (fun y hy => ?_)
        obtain ⟨σ2, rfl, hO2, hF2⟩ := hy
        have hF2' : FRX RI9 FI9 s2 σ2 := frx_mono hF2 (fun k hk => by omega) (fun k hk => by omega)
        have hB2 : CB9 cf L σ2 := CB9_frx hB1 hF2 (fun k hk q => by omega) (fun q => by omega)
        have hU2 : UR9 σ2 (uOf cf L ci) := by rw [hu]; exact UR9_frx hU1 hF2 ⟨fun q => by omega, fun q => by omega, fun q => by omega⟩
        have hP2 := PT_frx hP1 hF2 (fun k h1 h2 q => by omega) ⟨fun q => by omega, fun q => by omega⟩
        refine r_inner h6 qi hc hci (fun σ' h1 h2 h3 => nxt σ' h1 h2 h3) rFU 0 σ2 (Nat.zero_le _) (frx_tr hF (frx_tr hF1' hF2')) hB2 hU2 hO2 ?_
        split
        · exact hP2
        · exact hP2
    cases hq : ci.2.2.1 with
    | true => rw [hq] at main; exact pq_t rfl main
    | false => rw [hq] at main; exact pq_f (show ¬ (0 : Int32) = 1 by decide) main
theorem r_cutsAll {σ : RS9} (hM : MC (σ.2 1) cf) (hL : RLs σ 13 L) (h16 : σ.1 16 = nI L.length) (h6 : L.length ≤ 600) : PQ (mX9_cutsAll σ) (fun y => ∃ σ', y = (0, σ') ∧ PT σ' (decide (cf.1 = 0)) (pcs cf L) ∧ FRX RC9 FC9 σ σ') := by
  have key : ∀ (d i : Nat) (σ1 : RS9), i ≤ L.length → FRX (fun k => k = 14 ∨ k = 15) (fun k => k = 33 ∨ k = 45) σ σ1 → σ1.1 33 = 0 → σ1.1 45 = 0 → (∀ j, j < i → σ1.2 14 j = nI j ∧ σ1.2 15 j = nI (j + 1)) → PQ (mX9_cutsAll_l12 d (nI i) σ1) (fun y => ∃ σ', y = (0, σ') ∧ PT σ' (decide (cf.1 = 0)) (pcs cf L) ∧ FRX RC9 FC9 σ σ') := by
    intro d
    induction d with
    | zero => intro i σ1 _ _ _ _ _; exact pq_none
    | succ d ih =>
      intro i σ1 hi hF k33 k45 hj
      have g16 : σ1.1 16 = nI L.length := (hF.2 16 (fun q => by omega)).trans h16
      unfold mX9_cutsAll_l12
      rw [g16]
      refine pq_le (nI_toInt (by omega)) (nI_toInt (by omega)) (fun q => ?_) (fun q => ?_)
      · have e : i = L.length := by omega
        subst e
        have hM1 : MC (σ1.2 1) cf := by rw [hF.1 1 (fun q => by omega)]; exact hM
        have hL1 : RLs σ1 13 L := RL_frx hL hF (fun q => by omega)
        have e1 : rGa σ1 1 (1 : Int32) = cf.1 := hM1.1
        rw [e1]
        refine pq_ck (pq_call (r_cuts (of := 17) (ti := 18) (wh := 19) (r := 13) (Or.inl ⟨rfl, rfl, rfl⟩) (show NR 13 17 18 19 from ⟨by decide, by decide, by decide, by decide, by decide⟩) h6 (MC_k hM1).1 hL1) (fun y hy => ?_))
        obtain ⟨σ2, rfl, hO, hF2⟩ := hy
        have hX : FRX (fun k => 17 ≤ k ∧ k ≤ 21) (fun k => k = 22 ∨ k = 54) σ1 (rSf σ2 22 (nI (cutL cf.1 L 0).length)) := ⟨fun k hk => hF2.1 k (fun q => hk (by omega)), fun k hk => (sf_ne (fun q => hk (Or.inl q))).trans (hF2.2 k (fun q => hk (Or.inr q)))⟩
        have hB : CB9 cf L (rSf σ2 22 (nI (cutL cf.1 L 0).length)) := by
          refine ⟨?_, RL_frx hL1 hX (fun q => by omega), fun j hjl => ?_, sf_eq, hO.2.1, fun j hjl => ?_⟩
          · rw [hX.1 1 (fun q => by omega)]; exact hM1
          · rw [hX.1 14 (fun q => by omega), hX.1 15 (fun q => by omega)]; exact hj j hjl
          · obtain ⟨o1, o2, o3, o4⟩ := hO.2.2 j hjl
            exact ⟨o1, o2, o3, fun q => o4 (by rw [decide_eq_true rfl, decide_eq_true q]; rfl)⟩
        have hP : PT (rSf σ2 22 (nI (cutL cf.1 L 0).length)) (decide (cf.1 = 0)) [] := by
          refine ⟨⟨(hX.2 33 (fun q => by omega)).trans k33, Nat.zero_le _⟩, ⟨(hX.2 45 (fun q => by omega)).trans k45, Nat.zero_le _, rfl, fun j hj2 => absurd hj2 (Nat.not_lt_zero _), fun j hj2 => absurd hj2 (Nat.not_lt_zero _)⟩, fun j hj2 => absurd hj2 (Nat.not_lt_zero _)⟩
        refine pq_tail (r_outer h6 rFU 0 _ (Nat.zero_le _) frx_rfl hB hP) (fun y hy => ?_)
        obtain ⟨σ3, rfl, hP3, hF3⟩ := hy
        exact ⟨σ3, rfl, hP3, frx_tr (frx_mono hF (fun k hk => by omega) (fun k hk => by omega)) (frx_tr (frx_mono hX (fun k hk => by omega) (fun k hk => by omega)) (frx_mono hF3 (fun k hk => by omega) (fun k hk => by omega)))⟩
      · rw [nI_1]
        refine pq_ck (pq_ck (ih (i + 1) _ (by omega) (frx_tr hF ⟨fun k hk => ?_, fun k hk => rfl⟩) k33 k45 (fun j hj2 => ?_)))
        · rw [sa_ne (fun q => hk (Or.inr q)), sa_ne (fun q => hk (Or.inl q))]
        · rw [sa_ne (by decide), sa_nI (by omega), sa_nI (by omega), sa_ne (by decide)]
          by_cases e : j = i
          · rw [if_pos e, if_pos e, e]; exact ⟨rfl, rfl⟩
          · rw [if_neg e, if_neg e]; exact hj j (by omega)
  unfold mX9_cutsAll
  exact key rFU 0 _ (Nat.zero_le _) ⟨fun k hk => rfl, fun k hk => (sf_ne (fun q => hk (Or.inr q))).trans (sf_ne (fun q => hk (Or.inl q)))⟩ ((sf_ne (by decide)).trans sf_eq) sf_eq (fun j hj => absurd hj (Nat.not_lt_zero _))
end RAO
