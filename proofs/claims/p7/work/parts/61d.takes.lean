/-! the reference takes a piece, whole -/
abbrev T3 (t1 t2 t3 : Nat) : Prop := (t1 = 23 ∧ t2 = 24 ∧ t3 = 25) ∨ (t1 = 30 ∧ t2 = 31 ∧ t3 = 32)
section RTQ
variable {σ : RS9} {L : BL}
set_option maxHeartbeats 1000000 in
theorem r_take1 {c : Nat} {t1 t2 t3 : Nat} {x : Pc} {P : List Pc} {kf : Bool} (hP : PT σ kf P) (ht : T3 t1 t2 t3) (hp : P.length < 40) (hc : c < 600) (hkf : kf = true → σ.2 20 c = nI x.2.2.2.2.2.1 ∧ σ.2 21 c = nI x.2.2.2.2.2.2.1) (h19 : σ.2 19 c = bI x.2.2.1) (hX : RLs σ t1 (pX x)) (hO : RLs σ t2 ((pG x).map nI)) (hl : (pG x).length = (pX x).length) (h0 : 0 < (pX x).length) (h600 : (pX x).length ≤ 600) (hx0 : σ.2 t2 0 = nI x.1) (hx1 : σ.2 t3 ((pX x).length - 1) = nI x.2.1) : PQ (mX9_takes_b87 (nI c) t1 t2 (nI (pX x).length) (nI P.length) 38 (nI P.length) (bI x.2.2.2.2.1) (rSa (rSa (rSa (rSa σ 34 (nI P.length) (rGa σ t2 (0 : Int32))) 35 (nI P.length) (rGa (rSa σ 34 (nI P.length) (rGa σ t2 (0 : Int32))) t3 (nI (pX x).length - (1 : Int32)))) 36 (nI P.length) (rGa σ 19 (nI c))) 37 (nI P.length) (bI x.2.2.2.1))) (fun y => ∃ σ', y = (0, σ') ∧ PT σ' kf (P ++ [x]) ∧ FRX RT9 FT9 σ σ') := by
  obtain ⟨⟨a1, a2⟩, ⟨b1, b2, b3, b4, b5⟩, hi⟩ := hP
  have hT : t1 ≠ 34 ∧ t1 ≠ 35 ∧ t1 ≠ 36 ∧ t1 ≠ 37 ∧ t1 ≠ 38 ∧ t1 ≠ 39 ∧ t1 ≠ 40 ∧ t1 ≠ 41 ∧ t1 ≠ 42 ∧ t1 ≠ 43 ∧ t1 ≠ 44 := by omega
  have hT2 : t2 ≠ 34 ∧ t2 ≠ 35 ∧ t2 ≠ 36 ∧ t2 ≠ 37 ∧ t2 ≠ 38 ∧ t2 ≠ 39 ∧ t2 ≠ 40 ∧ t2 ≠ 41 ∧ t2 ≠ 42 ∧ t2 ≠ 43 ∧ t2 ≠ 44 := by omega
  have v35 : rGa (rSa σ 34 (nI P.length) (rGa σ t2 (0 : Int32))) t3 (nI (pX x).length - (1 : Int32)) = nI x.2.1 := by
    rw [show nI (pX x).length - (1 : Int32) = nI ((pX x).length - 1) from nI_sb (b := 1) (by omega) (by omega), rd_nI (by omega), sa_ne (by omega)]; exact hx1
  have v34 : rGa σ t2 (0 : Int32) = nI x.1 := hx0
  have v36 : rGa σ 19 (nI c) = bI x.2.2.1 := by rw [rd_nI (by omega)]; exact h19
  rw [v35, v34, v36]
  generalize hs4 : rSa (rSa (rSa (rSa σ 34 (nI P.length) (nI x.1)) 35 (nI P.length) (nI x.2.1)) 36 (nI P.length) (bI x.2.2.1)) 37 (nI P.length) (bI x.2.2.2.1) = s4
  obtain ⟨c0, c1, c34, c35, c36, c37⟩ : (∀ k, k ≠ 34 → k ≠ 35 → k ≠ 36 → k ≠ 37 → s4.2 k = σ.2 k) ∧ s4.1 = σ.1 ∧ (∀ z, s4.2 34 z = if z = P.length then nI x.1 else σ.2 34 z) ∧ (∀ z, s4.2 35 z = if z = P.length then nI x.2.1 else σ.2 35 z) ∧ (∀ z, s4.2 36 z = if z = P.length then bI x.2.2.1 else σ.2 36 z) ∧ (∀ z, s4.2 37 z = if z = P.length then bI x.2.2.2.1 else σ.2 37 z) := by
    rw [← hs4]
    refine ⟨fun k h1 h2 h3 h4 => by rw [sa_ne h4, sa_ne h3, sa_ne h2, sa_ne h1], rfl, fun z => ?_, fun z => ?_, fun z => ?_, fun z => ?_⟩
    · rw [sa_ne (by omega), sa_ne (by omega), sa_ne (by omega), sa_nI (by omega)]
    · rw [sa_ne (by omega), sa_ne (by omega), sa_nI (by omega), sa_ne (by omega)]
    · rw [sa_ne (by omega), sa_nI (by omega), sa_ne (by omega), sa_ne (by omega)]
    · rw [sa_nI (by omega), sa_ne (by omega), sa_ne (by omega), sa_ne (by omega)]
  clear hs4 v34 v35 v36
  unfold mX9_takes_b87
  refine pq_ck (pq_ck (pq_ck (pq_ck (pq_ck (pq_ck (pq_ck ?_))))))
  have v39 : rGa (rSa s4 38 (nI P.length) (bI x.2.2.2.2.1)) 20 (nI c) = σ.2 20 c := by rw [rd_nI (by omega), sa_ne (by omega), c0 20 (by omega) (by omega) (by omega) (by omega)]
  have v40 : rGa (rSa s4 38 (nI P.length) (bI x.2.2.2.2.1)) 21 (nI c) = σ.2 21 c := by rw [rd_nI (by omega), sa_ne (by omega), c0 21 (by omega) (by omega) (by omega) (by omega)]
  rw [v39, v40, show s4.1 45 = nI (txs P).length from (congrFun c1 45).trans b1]
  generalize hs9 : rSa (rSa (rSa (rSa (rSa s4 38 (nI P.length) (bI x.2.2.2.2.1)) 39 (nI P.length) (σ.2 20 c)) 40 (nI P.length) (σ.2 21 c)) 41 (nI P.length) (nI (txs P).length)) 42 (nI P.length) (nI (pX x).length) = s9
  obtain ⟨d0, d1, d38, d39, d40, d41, d42⟩ : (∀ k, k ≠ 38 → k ≠ 39 → k ≠ 40 → k ≠ 41 → k ≠ 42 → s9.2 k = s4.2 k) ∧ s9.1 = s4.1 ∧ (∀ z, s9.2 38 z = if z = P.length then bI x.2.2.2.2.1 else s4.2 38 z) ∧ (∀ z, s9.2 39 z = if z = P.length then σ.2 20 c else s4.2 39 z) ∧ (∀ z, s9.2 40 z = if z = P.length then σ.2 21 c else s4.2 40 z) ∧ (∀ z, s9.2 41 z = if z = P.length then nI (txs P).length else s4.2 41 z) ∧ (∀ z, s9.2 42 z = if z = P.length then nI (pX x).length else s4.2 42 z) := by
    rw [← hs9]
    refine ⟨fun k h1 h2 h3 h4 h5 => by rw [sa_ne h5, sa_ne h4, sa_ne h3, sa_ne h2, sa_ne h1], rfl, fun z => ?_, fun z => ?_, fun z => ?_, fun z => ?_, fun z => ?_⟩
    · rw [sa_ne (by omega), sa_ne (by omega), sa_ne (by omega), sa_ne (by omega), sa_nI (by omega)]
    · rw [sa_ne (by omega), sa_ne (by omega), sa_ne (by omega), sa_nI (by omega), sa_ne (by omega)]
    · rw [sa_ne (by omega), sa_ne (by omega), sa_nI (by omega), sa_ne (by omega), sa_ne (by omega)]
    · rw [sa_ne (by omega), sa_nI (by omega), sa_ne (by omega), sa_ne (by omega), sa_ne (by omega)]
    · rw [sa_nI (by omega), sa_ne (by omega), sa_ne (by omega), sa_ne (by omega), sa_ne (by omega)]
  clear hs9 v39 v40
  have e0 : ∀ k, ¬ (34 ≤ k ∧ k ≤ 42) → s9.2 k = σ.2 k := fun k hk => (d0 k (by omega) (by omega) (by omega) (by omega) (by omega)).trans (c0 k (by omega) (by omega) (by omega) (by omega))
  have e1 : s9.1 = σ.1 := d1.trans c1
  have tr : ∀ (r : Nat) (M : BL), ¬ (34 ≤ r ∧ r ≤ 42) → RLs σ r M → RLs s9 r M := fun r M hr h i hi => by rw [e0 r hr]; exact h i hi
  have hlm : ((pG x).map nI).length = (pX x).length := by rw [List.length_map]; exact hl
  refine pq_tail (r_tkL (p := P.length) (X := pX x) (O := (pG x).map nI) (T0 := txs P) (O0 := ogs P) ⟨by omega, by omega⟩ ⟨by omega, by omega⟩ hlm h600 b2 b3 (tr t1 _ (by omega) hX) (tr t2 _ (by omega) hO) (tr 43 _ (by omega) b4) (tr 44 _ (by omega) b5) (by rw [e1]; exact b1) (by rw [e1]; exact a1)) (fun y hy => ?_)
  obtain ⟨σ', rfl, k33, k45, k6, k43, k44, kF⟩ := hy
  have et : txs (P ++ [x]) = txs P ++ pX x := by rw [txs_app, txs_1]
  have eo : ogs (P ++ [x]) = ogs P ++ (pG x).map nI := by rw [ogs_app, ogs_1]
  refine ⟨σ', rfl, ⟨⟨by rw [k33, List.length_append]; rfl, by rw [List.length_append]; show P.length + 1 ≤ 40; omega⟩, ⟨?_, ?_, ?_, ?_, ?_⟩, fun i hi2 => ?_⟩, ⟨fun k hk => ?_, fun k hk => ?_⟩⟩
  · rw [et, List.length_append]; exact k45
  · rw [et, List.length_append]; exact k6
  · rw [et, eo, List.length_append, List.length_append, b3, hlm]
  · rw [et]; exact k43
  · rw [eo]; exact k44
  · rw [List.length_append] at hi2
    have hi3 : i < P.length + 1 := hi2
    have f34 : ∀ r, 34 ≤ r → r ≤ 42 → σ'.2 r i = s9.2 r i := fun r h1 h2 => congrFun (kF.1 r (fun q => by rcases q with q | q <;> omega)) i
    rw [f34 34 (by omega) (by omega), f34 35 (by omega) (by omega), f34 36 (by omega) (by omega), f34 37 (by omega) (by omega), f34 38 (by omega) (by omega), f34 39 (by omega) (by omega), f34 40 (by omega) (by omega), f34 41 (by omega) (by omega), f34 42 (by omega) (by omega)]
    rw [d38, d39, d40, d41, d42, d0 34 (by omega) (by omega) (by omega) (by omega) (by omega), d0 35 (by omega) (by omega) (by omega) (by omega) (by omega), d0 36 (by omega) (by omega) (by omega) (by omega) (by omega), d0 37 (by omega) (by omega) (by omega) (by omega) (by omega), c34, c35, c36, c37]
    rw [c0 38 (by omega) (by omega) (by omega) (by omega), c0 39 (by omega) (by omega) (by omega) (by omega), c0 40 (by omega) (by omega) (by omega) (by omega), c0 41 (by omega) (by omega) (by omega) (by omega), c0 42 (by omega) (by omega) (by omega) (by omega)]
    by_cases e : i = P.length
    · subst e
      rw [if_pos rfl, if_pos rfl, if_pos rfl, if_pos rfl, if_pos rfl, if_pos rfl, if_pos rfl, if_pos rfl, if_pos rfl, pgd_n, tAt_n]
      exact ⟨rfl, rfl, rfl, rfl, rfl, hkf, rfl, rfl⟩
    · rw [if_neg e, if_neg e, if_neg e, if_neg e, if_neg e, if_neg e, if_neg e, if_neg e, if_neg e, pgd_l (by omega), tAt_l (by omega)]
      exact hi i (by omega)
  · rw [kF.1 k (fun q => hk (by rcases q with q | q <;> omega))]
    exact e0 k (fun q => hk (by omega))
  · rw [kF.2 k hk, e1]
theorem r_takes {cf : CFG} {c : Nat} {ci : CI} {t1 t2 t3 : Nat} {x : Pc} {P : List Pc} (hM : MC (σ.2 1) cf) (hL : RLs σ 13 L) (h6 : L.length ≤ 600) (hP : PT σ (decide (cf.1 = 0)) P) (ht : T3 t1 t2 t3) (hc : c < 600) (hkb : cf.1 = 0 → ci.2.2.2.1 + ci.2.2.2.2 ≤ L.length) (hkf : cf.1 = 0 → σ.2 20 c = nI ci.2.2.2.1 ∧ σ.2 21 c = nI ci.2.2.2.2) (hx5 : x.2.2.2.2.2.1 = ci.2.2.2.1) (hx6 : x.2.2.2.2.2.2.1 = ci.2.2.2.2) (h19 : σ.2 19 c = bI x.2.2.1) (hX : RLs σ t1 (pX x)) (hO : RLs σ t2 ((pG x).map nI)) (hl : (pG x).length = (pX x).length) (h0 : 0 < (pX x).length) (h600 : (pX x).length ≤ 600) (hx0 : σ.2 t2 0 = nI x.1) (hx1 : σ.2 t3 ((pX x).length - 1) = nI x.2.1) : PQ (mX9_takes (nI c) t1 t2 t3 (nI (pX x).length) (bI x.2.2.2.2.1) (bI x.2.2.2.1) σ) (fun y => ∃ σ', y = (0, σ') ∧ PT σ' (decide (cf.1 = 0)) (if lkd cf L ci = true then P else tk cf P x) ∧ FRX RT9 FT9 σ σ') := by
  unfold mX9_takes
  refine pq_isr (r_isLocked hM hL h6 (by omega) (fun q => ⟨(hkf q).1, (hkf q).2, hkb q⟩)) ?_
  have stop : (if lkd cf L ci = true then P else tk cf P x) = P → PQ (mX9_takes_b18 σ) (fun y => ∃ σ', y = (0, σ') ∧ PT σ' (decide (cf.1 = 0)) (if lkd cf L ci = true then P else tk cf P x) ∧ FRX RT9 FT9 σ σ') := fun h => by
    rw [h]
    exact pq_ret ⟨σ, rfl, hP, frx_rfl⟩
  cases hlk : lkd cf L ci with
  | true =>
    rw [hlk] at stop
    exact pq_f (show ¬ (1 : Int32) = 0 by decide) (stop (if_pos rfl))
  | false =>
    rw [hlk] at stop
    refine pq_t rfl ?_
    refine pq_isr (r_isPiece (p := P.length) hM hX h600 hP.1.1 hP.1.2) ?_
    by_cases ho : okT cf (pX x) = true ∧ P.length < 40
    · have e1 : (okT cf (pX x) && decide (P.length < 40)) = true := by rw [ho.1, decide_eq_true ho.2]; rfl
      have e2 : (if false = true then P else tk cf P x) = P ++ [x] := by
        rw [if_neg (by decide)]
        exact if_pos ho
      rw [e1, e2]
      refine pq_f (show ¬ (1 : Int32) = 0 by decide) ?_
      refine pq_ck (pq_ck (pq_ck (pq_ck (pq_ck (pq_ck (pq_ck ?_))))))
      have main := r_take1 hP ht ho.2 hc (fun q => by rw [hx5, hx6]; exact hkf (of_decide_eq_true q)) h19 hX hO hl h0 h600 hx0 hx1
      have e33 : σ.1 33 = nI P.length := hP.1.1
      rw [← e33] at main
      cases hf : x.2.2.2.2.1 with
      | true => rw [hf] at main; exact pq_f (show ¬ (1 : Int32) = 0 by decide) main
      | false => rw [hf] at main; exact pq_t rfl main
    · have e1 : (okT cf (pX x) && decide (P.length < 40)) = false := by
        cases h1 : okT cf (pX x) with
        | false => rfl
        | true => rw [decide_eq_false (fun h => ho ⟨h1, h⟩)]; rfl
      rw [e1]
      refine pq_t rfl (stop ?_)
      rw [if_neg (by decide)]
      exact if_neg ho
end RTQ
