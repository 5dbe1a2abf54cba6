/-! the reference cuts a row into pieces -/
abbrev RC9 : Nat → Prop := fun k => 14 ≤ k ∧ k ≤ 44
abbrev FC9 : Nat → Prop := fun k => k = 22 ∨ k = 26 ∨ k = 33 ∨ k = 45 ∨ k = 54 ∨ k = 55
abbrev RI9 : Nat → Prop := fun k => 23 ≤ k ∧ k ≤ 44
abbrev RN9 : Nat → Prop := fun k => 27 ≤ k ∧ k ≤ 29
abbrev FI9 : Nat → Prop := fun k => k = 26 ∨ k = 33 ∨ k = 45 ∨ k = 54 ∨ k = 55
theorem r_cutsI {σ : RS9} {k : Int32} {X : BL} (h6 : X.length ≤ 600) (hk : k = 0 ∨ k = 1 ∨ k = 2 ∨ k = 3) (hL : RLs σ 23 X) : PQ (mX9_cuts k 23 (nI X.length) 27 28 29 σ) (fun y => ∃ σ', y = (nI (cutL k X 0).length, σ') ∧ FO σ' 27 28 29 false (cutL k X 0) ∧ FRX RN9 FO1 σ σ') := by
  obtain ⟨v, s, v', t, e1, -, c, kx, -, -, -, -, hCU⟩ := t2_cuts (v1 := k) (r := 23) (of := 27) (ti := 28) (wh := 29) (v3 := nI X.length) (σ := σ) (τ := σ) ⟨rfl, rfl, rfl, rfl, by decide, by decide, by decide, by decide, by decide, by decide, by decide, by decide, by decide, by decide, by decide, by decide, by decide, by decide⟩ (by rw [nI_toInt (by omega)]; omega) (fun _ _ => rfl)
  intro y hy
  obtain ⟨σ', rfl, h2, h3⟩ := r_cuts (of := 27) (ti := 28) (wh := 29) (Or.inr ⟨rfl, rfl, rfl⟩) (show NR 23 27 28 29 from ⟨by decide, by decide, by decide, by decide, by decide⟩) h6 hk hL y hy
  have es : s = σ' := by
    have := Option.some.inj (e1.symm.trans hy)
    exact congrArg Prod.snd this
  subst es
  refine ⟨s, rfl, h2, ⟨fun z hz => ?_, fun z hz => h3.2 z hz⟩⟩
  exact hCU.2.1.1 z (fun q => hz (by omega)) (fun q => hz (by omega)) (fun q => hz (by omega)) (fun q => absurd q (by decide))
def CB9 (cf : CFG) (L : BL) (σ : RS9) : Prop := MC (σ.2 1) cf ∧ RLs σ 13 L ∧ (∀ i, i < L.length → σ.2 14 i = nI i ∧ σ.2 15 i = nI (i + 1)) ∧ σ.1 22 = nI (cutL cf.1 L 0).length ∧ (cutL cf.1 L 0).length ≤ 600 ∧ ∀ i, i < (cutL cf.1 L 0).length → σ.2 17 i = nI ((cutL cf.1 L 0).getD i ciD).1 ∧ σ.2 18 i = nI ((cutL cf.1 L 0).getD i ciD).2.1 ∧ σ.2 19 i = bI ((cutL cf.1 L 0).getD i ciD).2.2.1 ∧ (cf.1 = 0 → σ.2 20 i = nI ((cutL cf.1 L 0).getD i ciD).2.2.2.1 ∧ σ.2 21 i = nI ((cutL cf.1 L 0).getD i ciD).2.2.2.2)
theorem CB9_frx {cf : CFG} {L : BL} {σ σ' : RS9} {R F : Nat → Prop} (h : CB9 cf L σ) (hX : FRX R F σ σ') (hR : ∀ k, k ≤ 21 → ¬ R k) (hF : ¬ F 22) : CB9 cf L σ' := by
  obtain ⟨h1, h2, h3, h4, h5, h6⟩ := h
  refine ⟨?_, RL_frx h2 hX (hR 13 (by decide)), fun i hi => ?_, (hX.2 22 hF).trans h4, h5, fun i hi => ?_⟩
  · rw [hX.1 1 (hR 1 (by decide))]; exact h1
  · rw [hX.1 14 (hR 14 (by decide)), hX.1 15 (hR 15 (by decide))]; exact h3 i hi
  · rw [hX.1 17 (hR 17 (by decide)), hX.1 18 (hR 18 (by decide)), hX.1 19 (hR 19 (by decide)), hX.1 20 (hR 20 (by decide)), hX.1 21 (hR 21 (by decide))]
    exact h6 i hi
def UR9 (σ : RS9) (u : List UI) : Prop := ∀ j, j < u.length → σ.2 23 j = (u.getD j u0).1 ∧ σ.2 24 j = nI (u.getD j u0).2.1 ∧ σ.2 25 j = nI (u.getD j u0).2.2
theorem UR9_frx {u : List UI} {σ σ' : RS9} {R F : Nat → Prop} (h : UR9 σ u) (hX : FRX R F σ σ') (hR : ¬ R 23 ∧ ¬ R 24 ∧ ¬ R 25) : UR9 σ' u := fun j hj => by
  rw [hX.1 23 hR.1, hX.1 24 hR.2.1, hX.1 25 hR.2.2]; exact h j hj
theorem mgd {α : Type} {g : UI → α} {u : List UI} {j : Nat} {d : α} (h : j < u.length) : (u.map g).getD j d = g (u.getD j u0) := by
  rw [List.getD_eq_getElem?_getD, List.getD_eq_getElem?_getD, List.getElem?_map, List.getElem?_eq_getElem h]; rfl
theorem gd_in {C : List CI} {i : Nat} (h : i < C.length) : C.getD i ciD ∈ C := by
  rw [List.getD_eq_getElem?_getD, List.getElem?_eq_getElem h]
  exact List.getElem_mem h
theorem take_s {C : List CI} {i : Nat} (h : i < C.length) : C.take (i + 1) = C.take i ++ [C.getD i ciD] := by
  rw [List.take_succ, List.getD_eq_getElem?_getD, List.getElem?_eq_getElem h]; rfl
theorem MC_k {μ : Nat → Int32} {cf : CFG} (h : MC μ cf) : CFok cf := h.2.2.2.2.2.2
section RAL
variable {cf : CFG} {L : BL}
/-- pieces of what lies within -/
theorem r_inner {c : Nat} {ci : CI} {P0 : List Pc} {rec78 : Int32 → RS9 → Option (Int32 × RS9)} {Q : Int32 × RS9 → Prop} {σ0 : RS9} (h6 : L.length ≤ 600) (hin : cf.2.1 ≠ -1) (hc : c < (cutL cf.1 L 0).length) (hci : (cutL cf.1 L 0).getD c ciD = ci) (hrec : ∀ σ', CB9 cf L σ' → PT σ' (decide (cf.1 = 0)) (tkC cf L P0 ci) → FRX RI9 FI9 σ0 σ' → PQ (rec78 (nI (c + 1)) σ') Q) : ∀ (d i : Nat) (σ : RS9), i ≤ (cutL cf.2.1 ((uOf cf L ci).map (fun x => x.1)) 0).length → FRX RI9 FI9 σ0 σ → CB9 cf L σ → UR9 σ (uOf cf L ci) → FO σ 27 28 29 false (cutL cf.2.1 ((uOf cf L ci).map (fun x => x.1)) 0) → PT σ (decide (cf.1 = 0)) (if lkd cf L ci = true then P0 else (((cutL cf.2.1 ((uOf cf L ci).map (fun x => x.1)) 0).take i).map (pcI cf ci (uOf cf L ci))).foldl (tk cf) P0) → PQ (mX9_cutsAll_l220 rec78 d (nI c) (nI (cutL cf.2.1 ((uOf cf L ci).map (fun x => x.1)) 0).length) (nI i) σ) Q := by
  have hb := cutL_b (k := cf.1) (L := L) _ 0 (Nat.le_refl _) ci (by rw [← hci]; exact gd_in hc)
  have hul : (uOf cf L ci).length ≤ ci.2.1 - ci.1 := (und_len (k := cf.1) (q := ci.2.2.1) (L := L) (b := ci.2.1) _ ci.1 (Nat.le_refl _)).1
  generalize hu : uOf cf L ci = u at *
  generalize hD : cutL cf.2.1 (u.map (fun x => x.1)) 0 = D at *
  have hXl : (u.map (fun x : UI => x.1)).length = u.length := List.length_map _
  intro d
  induction d with
  | zero => intro i σ _ _ _ _ _ _; exact pq_none
  | succ d ih =>
    intro i σ hi hF hB hU hO hP
    obtain ⟨b1, b2, b3, b4, b5, b6⟩ := id hB
    have hD6 := hO.2.1
    unfold mX9_cutsAll_l220
    refine pq_le (nI_toInt (by omega)) (nI_toInt (by omega)) (fun q => ?_) (fun q => ?_)
    · have e : i = D.length := by omega
      subst e
      unfold mX9_cutsAll_b333
      rw [nI_1]
      refine hrec σ hB ?_ hF
      have e2 : tkC cf L P0 ci = if lkd cf L ci = true then P0 else ((D.take D.length).map (pcI cf ci u)).foldl (tk cf) P0 := by
        unfold tkC pcC
        rw [if_neg hin, hu, hD, List.take_length]
      rw [e2]; exact hP
    have hiD : i < D.length := by omega
    obtain ⟨g1, g2, g3, -⟩ := hO.2.2 i hiD
    have g1 : σ.2 27 i = nI (D.getD i ciD).1 := g1
    have g2 : σ.2 28 i = nI (D.getD i ciD).2.1 := g2
    have g3 : σ.2 29 i = bI (D.getD i ciD).2.2.1 := g3
    have hdm : D.getD i ciD ∈ D := gd_in hiD
    have hts : D.take (i + 1) = D.take i ++ [D.getD i ciD] := take_s hiD
    generalize hdd : D.getD i ciD = dd at g1 g2 g3 hdm hts
    have hbd := cutL_b (k := cf.2.1) (L := u.map (fun x => x.1)) _ 0 (Nat.le_refl _) dd (by rw [hD]; exact hdm)
    rw [hXl] at hbd
    have hkI : cf.2.1 = 0 ∨ cf.2.1 = 1 ∨ cf.2.1 = 2 ∨ cf.2.1 = 3 := by
      rcases (MC_k b1).2.1 with h | h
      · exact absurd h hin
      · exact h
    have e2 : rGa σ 1 (2 : Int32) = cf.2.1 := b1.2.1
    have hX23 : RLs σ 23 (u.map (fun x => x.1)) := fun j hj => by
      rw [hXl] at hj
      rw [mgd hj]; exact (hU j hj).1
    rw [e2, rd_nI (by omega), g3]
    refine pq_ck (pq_ck ?_)
    have main : PQ (mX9_cutsAll_b247 rec78 (fun v1 v2 v3 σ => mX9_cutsAll_l220 rec78 d v1 v2 v3 σ) (nI c) (nI D.length) (nI i) cf.2.1 (bI dd.2.2.1) σ) Q := by
      unfold mX9_cutsAll_b247
      refine pq_ck (pq_ck ?_)
      rw [rd_nI (by omega), rd_nI (by omega), g1, g2]
      refine pq_call (r_undoes (q := dd.2.2.1) (a := dd.1) (b := dd.2.1) (L := u.map (fun x => x.1)) (Or.inr ⟨rfl, rfl, rfl, rfl, rfl, rfl⟩) hX23 (by rw [hXl]; omega) (by omega) (by rw [hXl]; omega) hkI) (fun y hy => ?_)
      obtain ⟨σ1, rfl, hUT, hF1⟩ := hy
      have hwl := und_len (k := cf.2.1) (q := dd.2.2.1) (L := u.map (fun x => x.1)) (b := dd.2.1) _ dd.1 (Nat.le_refl _)
      have hwc := und_ch (k := cf.2.1) (q := dd.2.2.1) (L := u.map (fun x => x.1)) (b := dd.2.1) _ dd.1 (Nat.le_refl _)
      have hw0 := hwl.2 hbd.2.1
      generalize hw : und cf.2.1 dd.2.2.1 (u.map (fun x => x.1)) dd.1 dd.2.1 = w at hUT hwl hwc hw0
      have hF1' : FRX RI9 FI9 σ σ1 := frx_mono hF1 (fun k hk => by omega) (fun k hk => Or.inr (Or.inr (Or.inr (Or.inr hk))))
      have f27 : ∀ r, r ≤ 29 → σ1.2 r = σ.2 r := fun r hr => hF1.1 r (fun q => by omega)
      have r27 : rGa σ1 27 (nI i) = nI dd.1 := by rw [rd_nI (by omega), f27 27 (by omega)]; exact g1
      have r29 : rGa σ1 29 (nI i) = bI dd.2.2.1 := by rw [rd_nI (by omega), f27 29 (by omega)]; exact g3
      -- the piece
      have ep : pcI cf ci u dd = ((u.getD dd.1 u0).2.1, (u.getD (dd.2.1 - 1) u0).2.2, ci.2.2.1, dd.2.2.1, decide (dd.1 = 0), ci.2.2.2.1, ci.2.2.2.2, w.map (fun x => x.1), w.map (fun x => (u.getD x.2.1 u0).2.1)) := by
        unfold pcI
        rw [hw]
      generalize hx : pcI cf ci u dd = x at ep
      have pXx : pX x = w.map (fun x => x.1) := by rw [ep]; rfl
      have pGx : pG x = w.map (fun x => (u.getD x.2.1 u0).2.1) := by rw [ep]; rfl
      have pXl : (pX x).length = w.length := by rw [pXx, List.length_map]
      have hB1 := CB9_frx hB hF1' (fun k hk q => by omega) (fun q => by omega)
      have hP1 : PT σ1 (decide (cf.1 = 0)) (if lkd cf L ci = true then P0 else ((D.take i).map (pcI cf ci u)).foldl (tk cf) P0) := PT_frx hP hF1 (fun k h1 h2 q => by omega) ⟨fun q => by omega, fun q => by omega⟩
      obtain ⟨q1, q2, q3, q4⟩ := hB1.2.2.2.2.2 c hc
      rw [hci] at q1 q2 q3 q4
      have hcx := cutL_x (k := cf.1) (L := L) _ 0 (Nat.le_refl _) ci (by rw [← hci]; exact gd_in hc)
      have tk1 := r_takes (t1 := 30) (t2 := 31) (t3 := 32) (x := x) (ci := ci) (c := c) hB1.1 hB1.2.1 h6 hP1 (Or.inr ⟨rfl, rfl, rfl⟩) (by omega) (fun _ => hcx.1) q4 (by rw [ep]) (by rw [ep]) (by rw [q3, ep]) (fun j hj => by
          rw [pXl] at hj
          rw [pXx, mgd hj]; exact (hUT j hj).1) (fun j hj => by
          rw [List.length_map, pGx, List.length_map] at hj
          have hk := hwc j hj
          rw [(hUT j hj).2.1, (hU _ (by omega)).2.1, pGx, List.map_map, mgd hj]; rfl) (by rw [pGx, pXl, List.length_map]) (by rw [pXl]; exact hw0) (by rw [pXl]; omega) (by
          have hk := hwc 0 hw0
          rw [(hUT 0 hw0).2.1, (hU _ (by omega)).2.1, hk.2.2.2.1 rfl, ep]) (by
          rw [pXl]
          have hk := hwc (w.length - 1) (by omega)
          rw [(hUT (w.length - 1) (by omega)).2.2, (hU _ (by omega)).2.2, hk.2.2.2.2.2 (by omega), ep])
      have go : ∀ s6 : Int32, s6 = bI x.2.2.2.2.1 → PQ (mX9_cutsAll_b318 rec78 (fun v1 v2 v3 σ => mX9_cutsAll_l220 rec78 d v1 v2 v3 σ) (nI c) (nI D.length) (nI i) (nI c) 30 31 32 (nI w.length) s6 σ1) Q := fun s6 hs6 => by
        unfold mX9_cutsAll_b318
        rw [r29, hs6]
        have e4 : bI dd.2.2.1 = bI x.2.2.2.1 := by rw [ep]
        rw [e4, ← pXl]
        refine pq_ck (pq_call tk1 (fun y hy => ?_))
        obtain ⟨σ2, rfl, hP2, hF2⟩ := hy
        have hF2' : FRX RI9 FI9 σ1 σ2 := frx_mono hF2 (fun k hk => by omega) (fun k hk => by omega)
        show PQ (mX9_cutsAll_l220 rec78 d (nI c) (nI D.length) (nI i + 1) σ2) Q
        rw [nI_1]
        refine ih (i + 1) σ2 (by omega) (frx_tr hF (frx_tr hF1' hF2')) (CB9_frx hB1 hF2' (fun k hk q => by omega) (fun q => by omega)) (UR9_frx (UR9_frx hU hF1 ⟨fun q => by omega, fun q => by omega, fun q => by omega⟩) hF2 ⟨fun q => by omega, fun q => by omega, fun q => by omega⟩) ?_ ?_
        · refine ⟨?_, hO.2.1, fun j hj => ?_⟩
          · rw [hF2.2 54 (fun q => by omega), hF1.2 54 (fun q => by omega)]; exact hO.1
          · rw [hF2.1 27 (fun q => by omega), hF2.1 28 (fun q => by omega), hF2.1 29 (fun q => by omega), hF2.1 20 (fun q => by omega), hF2.1 21 (fun q => by omega), f27 27 (by omega), f27 28 (by omega), f27 29 (by omega), f27 20 (by omega), f27 21 (by omega)]
            exact hO.2.2 j hj
        · have e5 : (if lkd cf L ci = true then P0 else ((D.take (i + 1)).map (pcI cf ci u)).foldl (tk cf) P0) = (if lkd cf L ci = true then (if lkd cf L ci = true then P0 else ((D.take i).map (pcI cf ci u)).foldl (tk cf) P0) else tk cf (if lkd cf L ci = true then P0 else ((D.take i).map (pcI cf ci u)).foldl (tk cf) P0) x) := by
            by_cases hl : lkd cf L ci = true
            · rw [if_pos hl, if_pos hl, if_pos hl]
            · rw [if_neg hl, if_neg hl, if_neg hl, hts, List.map_append, List.foldl_append, List.map_singleton, hx]; rfl
          rw [e5]; exact hP2
      refine pq_ck ?_
      have r27' : rGa σ1 27 (nI i) = nI dd.1 := r27
      show PQ (if rGa σ1 27 (nI i) = 0 then _ else _) Q
      rw [r27']
      refine pq_eqi (nI_toInt (by omega)) kt_0 (fun q1 => go 1 ?_) (fun q1 => go 0 ?_)
      · rw [ep]; show (1 : Int32) = bI (decide (dd.1 = 0)); rw [decide_eq_true (show dd.1 = 0 by have := q1; omega)]; rfl
      · rw [ep]; show (0 : Int32) = bI (decide (dd.1 = 0)); rw [decide_eq_false (show ¬ dd.1 = 0 from fun z => q1 (by rw [z]; rfl))]; rfl
    cases hq : dd.2.2.1 with
    | true => rw [hq] at main; exact pq_t rfl main
    | false => rw [hq] at main; exact pq_f (show ¬ (0 : Int32) = 1 by decide) main
end RAL
