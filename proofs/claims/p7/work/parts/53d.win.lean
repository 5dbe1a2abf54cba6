/-! the class's cut: what lies within -/
theorem und_mem {k : Int32} {q : Bool} {L : BL} {b : Nat} : ∀ d a, b - a ≤ d → ∀ x ∈ und k q L a b, a ≤ x.2.1 ∧ x.2.1 < b := by
  intro d
  induction d with
  | zero => intro a h x hx; rw [und_end (by omega)] at hx; cases hx
  | succ d ih =>
    intro a h x hx
    by_cases ha : a < b
    · have h1 := mw_b (k := k) (q := q) (L := L) ha
      rw [und_st ha] at hx
      rcases List.mem_cons.mp hx with rfl | hx
      · exact ⟨Nat.le_refl _, ha⟩
      · have := ih (a + (mw k q L a b).2) (by omega) x hx
        omega
    · rw [und_end (by omega)] at hx; cases hx
theorem f_win_l {n c0 st : Nat} {M B : BL} {k kb ks p mn v2 v3 : Int32} {q : Bool} {d1 d2 r : Nat} {ob oe oq ok_ okn om ow okk op : Int32} {Q : Int32 × HpN → Prop} {rec17 : Nat → (Option Nat) → Int32 → AH → Nat → Option (Int32 × HpN)} (hk : k = 0 ∨ k = 1 ∨ k = 2 ∨ k = 3) (h12 : d1 < d2) (hE : d2 ≤ M.length) (hBM : B.length = M.length) : ∀ (d i : Nat) (f : AH) (T O : BL) (m w : Int32), f c0 = some (.inr (1, cuL c0 mn)) → f (c0 + 9) = scE r ob oe oq ok_ okn om ow okk op → f (c0 + 12) = scE (c0 + 5) (nI d1) (nI d2) (bI q) kb ks m w k p → isRw f (c0 + 5) (c0 + 6) 600 M → isRw f (c0 + 7) (c0 + 8) 600 B → isRw f (c0 + 1) (c0 + 2) 600 T → isRw f (c0 + 3) (c0 + 4) 600 O → i ≤ d2 → T.length + (d2 - i) ≤ 600 → O.length + (d2 - i) ≤ 600 → (k = 1 → q = true → qe M i = d2) → (∀ f' m' w', f' (c0 + 12) = scE (c0 + 5) (nI d1) (nI d2) (bI q) kb ks m' w' k p → isRw f' (c0 + 1) (c0 + 2) 600 (T ++ (und k q M i d2).map (fun x => x.1)) → isRw f' (c0 + 3) (c0 + 4) 600 (O ++ (und k q M i d2).map (fun x => B.getD x.2.1 0)) → (∀ j, j ≠ c0 + 12 → (j < c0 + 1 ∨ c0 + 4 < j) → f' j = f j) → PQ ((mX1_settle c0 (some st) v3 (B.getD d1 0) (if d2 < M.length then B.getD d2 0 else oe) f' n).bind fun r10 => rec17 c0 (some st) (v2 + 1) r10.2.1 r10.2.2) Q) → PQ (mX1_takeWithin_l63 rec17 d c0 (some st) v2 v3 (nI i) f n) Q := by
  intro d
  induction d with
  | zero => intro i f T O m w _ _ _ _ _ _ _ _ _ _ _ _; exact pq_none
  | succ d ih =>
    intro i f T O m w hc ho hs hM hB hT hO hi hlT hlO hq hK
    have h6 := rw_6 hM
    unfold mX1_takeWithin_l63
    refine pq_gR hc rfl (pq_sb (pq_gI hs rfl ?_))
    refine pq_le (nI_toInt (by omega)) (nI_toInt (by omega)) (fun h => ?_) (fun h => ?_)
    · have hu : und k q M i d2 = [] := und_end (by omega)
      have fin : ∀ x : Int32, x = (if d2 < M.length then B.getD d2 0 else oe) → PQ (mX1_takeWithin_b176 rec17 c0 (some st) v2 v3 x f n) Q := by
        intro x hx
        unfold mX1_takeWithin_b176
        refine pq_gR hc rfl (pq_gR hc rfl (pq_sb (pq_gI hs rfl (pq_sb (pq_ck (pq_is (f_getN hB (by omega)) (pq_ck ?_)))))))
        have h9 := hK f m w hs (by rw [hu]; show isRw f _ _ _ (T ++ []); rw [List.append_nil]; exact hT) (by rw [hu]; show isRw f _ _ _ (O ++ []); rw [List.append_nil]; exact hO) (fun _ _ _ => rfl)
        rw [← hx] at h9
        exact h9
      refine pq_gR hc rfl (pq_sb (pq_gI hs rfl (pq_gR hc rfl (pq_sb (pq_ck (pq_is (f_size hM) ?_))))))
      refine pq_le (nI_toInt (by omega)) (nI_toInt (by omega)) (fun h2 => ?_) (fun h2 => ?_)
      · refine pq_gR hc rfl (pq_sb (pq_gI ho rfl (fin _ ?_)))
        rw [if_neg (by omega)]
      · refine pq_gR hc rfl (pq_gR hc rfl (pq_sb (pq_gI hs rfl (pq_sb (pq_ck (pq_is (f_getN hB (by omega)) (fin _ ?_)))))))
        rw [if_pos (by omega)]
    · have hiE : i < d2 := by omega
      have hw := mw_b (k := k) (q := q) (L := M) hiE
      refine pq_gR hc rfl (pq_sb (pq_ck (pq_is (f_readS hM (by omega) (by omega) hk hs hiE hE (fun k1 q1 h34 => ?_)) ?_)))
      · have h3 := (qe_walk (hq k1 q1) hiE hE).1 h34
        exact ⟨h3.1, h3.2.1⟩
      have hc1 : va_up f (c0 + 12) (scE (c0 + 5) (nI d1) (nI d2) (bI q) kb ks (mw k q M i d2).1 (nI (mw k q M i d2).2) k p) c0 = some (.inr (1, cuL c0 mn)) := (u_ne (by omega)).trans hc
      refine pq_gR hc1 rfl (pq_gR hc1 rfl (pq_sb (pq_gI u_eq rfl (pq_sb (pq_ck ?_)))))
      refine pq_call (f_add (rw_up hT (by omega) (by omega))) (fun y hy => ?_)
      rcases hy with ⟨hl, f1, rfl, hT1, hF1⟩ | ⟨hl, -⟩
      · have hc2 : f1 c0 = some (.inr (1, cuL c0 mn)) := (hF1 _ (by omega) (by omega)).trans hc1
        have hB1 : isRw f1 (c0 + 7) (c0 + 8) 600 B := rw_tr (rw_up hB (by omega) (by omega)) (hF1 _ (by omega) (by omega)) (hF1 _ (by omega) (by omega))
        refine pq_gR hc2 rfl (pq_gR hc2 rfl (pq_sb (pq_ck (pq_is (f_getN hB1 (by omega)) (pq_sb (pq_ck ?_))))))
        have hO1 : isRw f1 (c0 + 3) (c0 + 4) 600 O := rw_tr (rw_up hO (by omega) (by omega)) (hF1 _ (by omega) (by omega)) (hF1 _ (by omega) (by omega))
        refine pq_call (f_add hO1) (fun y hy => ?_)
        rcases hy with ⟨hl2, f2, rfl, hO2, hF2⟩ | ⟨hl2, -⟩
        · have hF : ∀ x, x ≠ c0 + 12 → (x < c0 + 1 ∨ c0 + 4 < x) → f2 x = f x := fun x e1 e2 => ((hF2 x (by omega) (by omega)).trans (hF1 x (by omega) (by omega))).trans (u_ne e1)
          have hs2 : f2 (c0 + 12) = scE (c0 + 5) (nI d1) (nI d2) (bI q) kb ks (mw k q M i d2).1 (nI (mw k q M i d2).2) k p := ((hF2 _ (by omega) (by omega)).trans (hF1 _ (by omega) (by omega))).trans u_eq
          have hc3 : f2 c0 = some (.inr (1, cuL c0 mn)) := (hF c0 (by omega) (by omega)).trans hc
          refine pq_gR hc3 rfl (pq_sb (pq_gI hs2 rfl ?_))
          rw [jmax1 hw.1 (by omega), nI_add]
          have hT2 : isRw f2 (c0 + 1) (c0 + 2) 600 (T ++ [(mw k q M i d2).1]) := rw_tr hT1 (hF2 _ (by omega) (by omega)) (hF2 _ (by omega) (by omega))
          have hM2 : isRw f2 (c0 + 5) (c0 + 6) 600 M := rw_tr hM (hF _ (by omega) (by omega)) (hF _ (by omega) (by omega))
          have hB2 : isRw f2 (c0 + 7) (c0 + 8) 600 B := rw_tr hB (hF _ (by omega) (by omega)) (hF _ (by omega) (by omega))
          refine ih (i + (mw k q M i d2).2) f2 (T ++ [(mw k q M i d2).1]) (O ++ [B.getD i 0]) _ _ hc3 ((hF _ (by omega) (by omega)).trans ho) hs2 hM2 hB2 hT2 hO2 hw.2.1 (by rw [List.length_append]; show T.length + 1 + _ ≤ 600; omega) (by rw [List.length_append]; show O.length + 1 + _ ≤ 600; omega) (fun k1 q1 => ?_) (fun f' m' w' g1 g2 g3 g4 => ?_)
          · have h3 := qe_walk (hq k1 q1) hiE hE
            by_cases h34 : M.getD i 0 = 34
            · have h4 := h3.1 h34
              have e2 : (mw k q M i d2).2 = 2 := by
                unfold mw
                rw [if_pos k1]
                exact if_pos ⟨q1, h34, h4.1, h4.2.1⟩
              rw [e2]; exact h4.2.2
            · have e2 : (mw k q M i d2).2 = 1 := by
                unfold mw
                rw [if_pos k1]
                exact if_neg (fun x => h34 x.2.1)
              rw [e2]; exact h3.2 h34
          · refine hK f' m' w' g1 ?_ ?_ (fun j e1 e2 => (g4 j e1 e2).trans (hF j e1 e2))
            · rw [und_st hiE]
              rw [List.append_assoc] at g2
              exact g2
            · rw [und_st hiE]
              rw [List.append_assoc] at g3
              exact g3
        · omega
      · omega
theorem tk_len {cf : CFG} {P : List Pc} {x : Pc} (h : (ogs P).length = (txs P).length) (hx : (pG x).length = (pX x).length) : (ogs (tk cf P x)).length = (txs (tk cf P x)).length := by
  unfold tk
  split
  · rw [ogs_app, txs_app, ogs_1, txs_1, List.length_append, List.length_append, List.length_map, h, hx]
  · exact h
theorem tk_tx {cf : CFG} {P : List Pc} {x : Pc} : (txs (tk cf P x)).length ≤ (txs P).length + (pX x).length := by
  unfold tk
  split
  · rw [txs_app, txs_1, List.length_append]; omega
  · omega
/-- everything of the cut's region but the scan within -/
def WI (f : AH) (c0 : Nat) (P : List Pc) (M B : BL) (so : Option AE) : Prop := CB f c0 P ∧ isRw f (c0 + 1) (c0 + 2) 600 (txs P) ∧ isRw f (c0 + 3) (c0 + 4) 600 (ogs P) ∧ isRw f (c0 + 5) (c0 + 6) 600 M ∧ isRw f (c0 + 7) (c0 + 8) 600 B ∧ f (c0 + 9) = so
theorem f_tkW_l {n c0 st fr lk td : Nat} {cf : CFG} {lc : Int32} {la : Option Nat} {pn : Int32} {L : BL} {c : CI} {r : Nat} {om ow okk op : Int32} {f0 : AH} (hk : cf.2.1 = 0 ∨ cf.2.1 = 1 ∨ cf.2.1 = 2 ∨ cf.2.1 = 3) (hst : f0 st = some (.inr (7, stV fr cf.1 cf.2.1 cf.2.2.1 (nI cf.2.2.2.1) lc la pn lk td))) (hsr : st < c0 ∨ c0 + 56 ≤ st) (hle : cf.2.2.2.1 ≤ 40) (hc12 : c.1 < c.2.1) (hc6 : c.2.1 ≤ 600) : ∀ (d t a : Nat) (f : AH) (P : List Pc) (b e q kb ks m w : Int32), WI f c0 P ((uOf cf L c).map (fun x => x.1)) ((uOf cf L c).map (fun x => nI x.2.1)) (scE r (nI c.1) (nI c.2.1) (bI c.2.2.1) (nI c.2.2.2.1) (nI c.2.2.2.2) om ow okk op) → (∀ j, j < c0 ∨ c0 + 56 ≤ j → f j = f0 j) → f (c0 + 12) = scE (c0 + 5) b e q kb ks m w cf.2.1 (nI a) → SI cf.2.1 q kb ks → t ≤ a → a ≤ 601 → (ogs P).length = (txs P).length → (txs P).length ≤ c.1 + a → (txs P).length ≤ c.2.1 → PQ (mX1_takeWithin_l17 d c0 (some st) (nI t) f n) (fun y => ∃ f' P' b' e' q' kb' ks' m' w' p', y = (0, f', n) ∧ P' = ((cutL cf.2.1 ((uOf cf L c).map (fun x => x.1)) a).map (pcI cf c (uOf cf L c))).foldl (tk cf) P ∧ WI f' c0 P' ((uOf cf L c).map (fun x => x.1)) ((uOf cf L c).map (fun x => nI x.2.1)) (scE r (nI c.1) (nI c.2.1) (bI c.2.2.1) (nI c.2.2.2.1) (nI c.2.2.2.2) om ow okk op) ∧ f' (c0 + 12) = scE (c0 + 5) b' e' q' kb' ks' m' w' cf.2.1 p' ∧ (∀ j, j < c0 ∨ c0 + 56 ≤ j → f' j = f0 j) ∧ (ogs P').length = (txs P').length ∧ (txs P').length ≤ c.2.1) := by
  intro d
  have hul : (uOf cf L c).length ≤ c.2.1 - c.1 := (und_len _ c.1 (Nat.le_refl _)).1
  have hch := fun i hi => und_ch (k := cf.1) (q := c.2.2.1) (L := L) (b := c.2.1) _ c.1 (Nat.le_refl _) i hi
  have hML : ((uOf cf L c).map (fun x => x.1)).length = (uOf cf L c).length := List.length_map _
  have hBL : ((uOf cf L c).map (fun x => nI x.2.1)).length = (uOf cf L c).length := List.length_map _
  have hBg : ∀ i, i < (uOf cf L c).length → ((uOf cf L c).map (fun x => nI x.2.1)).getD i 0 = nI ((uOf cf L c).getD i u0).2.1 := by
    intro i hi
    rw [List.getD_eq_getElem?_getD, List.getElem?_map, List.getElem?_eq_getElem hi, List.getD_eq_getElem?_getD, List.getElem?_eq_getElem hi]
    rfl
  induction d with
  | zero => intro t a f P b e q kb ks m w _ _ _ _ _ _ _ _ _; exact pq_none
  | succ d ih =>
    intro t a f P b e q kb ks m w hW hF0 hs hS hta ha6 hL hX1 hX2
    obtain ⟨hC, hT, hO, hM, hB, ho⟩ := id hW
    obtain ⟨a1, ⟨gg, a2, a2'⟩, a3, a4, a5⟩ := id hC
    have fin : ∀ f' b' e' q' kb' ks' p', f' = va_up f (c0 + 12) (scE (c0 + 5) b' e' q' kb' ks' m w cf.2.1 p') → ((cutL cf.2.1 ((uOf cf L c).map (fun x => x.1)) a).map (pcI cf c (uOf cf L c))).foldl (tk cf) P = P → PQ (mX1_takeWithin_b206 f' n) (fun y => ∃ f' P' b' e' q' kb' ks' m' w' p', y = (0, f', n) ∧ P' = ((cutL cf.2.1 ((uOf cf L c).map (fun x => x.1)) a).map (pcI cf c (uOf cf L c))).foldl (tk cf) P ∧ WI f' c0 P' ((uOf cf L c).map (fun x => x.1)) ((uOf cf L c).map (fun x => nI x.2.1)) (scE r (nI c.1) (nI c.2.1) (bI c.2.2.1) (nI c.2.2.2.1) (nI c.2.2.2.2) om ow okk op) ∧ f' (c0 + 12) = scE (c0 + 5) b' e' q' kb' ks' m' w' cf.2.1 p' ∧ (∀ j, j < c0 ∨ c0 + 56 ≤ j → f' j = f0 j) ∧ (ogs P').length = (txs P').length ∧ (txs P').length ≤ c.2.1) := by
      intro f' b' e' q' kb' ks' p' ef eP
      subst ef
      rw [eP]
      refine pq_ret ⟨_, P, b', e', q', kb', ks', m, w, p', rfl, rfl, ⟨CB_tr hC (u_ne (by omega)) (fun i x1 x2 => u_ne (by omega)), rw_up hT (by omega) (by omega), rw_up hO (by omega) (by omega), rw_up hM (by omega) (by omega), rw_up hB (by omega) (by omega), (u_ne (by omega)).trans ho⟩, u_eq, fun j hj => (u_ne (by omega)).trans (hF0 j hj), hL, hX2⟩
    have hfs : f = va_up f (c0 + 12) (scE (c0 + 5) b e q kb ks m w cf.2.1 (nI a)) := (u_id hs).symm
    unfold mX1_takeWithin_l17
    refine pq_lt kt_600 (nI_toInt (by omega)) (fun h => fin f b e q kb ks _ hfs ?_) (fun h => ?_)
    · rw [cutL_end (by omega)]; rfl
    refine pq_gI a1 rfl (pq_gR a1 rfl (pq_sb (pq_gL a2 (by omega) ?_)))
    refine pq_le (nI_toInt (by omega)) (nI_toInt (by omega)) (fun h2 => fin f b e q kb ks _ hfs (tks_full (by omega) _)) (fun h2 => ?_)
    refine pq_gR a1 rfl (pq_sb (pq_ck ?_))
    have nxt := f_scnext (n := n) (m := m) (w := w) (b := b) (e := e) (s := c0 + 12) hM (by omega) (by omega) hk ha6 hS
    rw [← hfs] at nxt
    refine pq_call nxt (fun y hy => ?_)
    obtain ⟨b', e', q', kb', ks', a', g1, g2, g3, g4⟩ := hy
    rcases g4 with ⟨rfl, dd, g5, g6, g7⟩ | ⟨rfl, g5⟩
    · refine pq_f (show ¬ (1 : Int32) = 0 by decide) ?_
      have hdm : dd ∈ cutL cf.2.1 ((uOf cf L c).map (fun x => x.1)) a := by rw [g5]; exact List.mem_cons_self
      have hdb := cutL_b _ a (Nat.le_refl _) dd hdm
      have hdx := cutL_x _ a (Nat.le_refl _) dd hdm
      obtain ⟨o1, o2, o3, o4, o5⟩ := g6
      rw [hML] at hdb
      have ndd : ∀ X, va_up f (c0 + 12) X c0 = some (.inr (1, cuL c0 (nI P.length))) := fun X => (u_ne (by omega)).trans a1
      refine pq_gR (ndd _) rfl (pq_sb (pq_ck (pq_is (f_size (rw_up hT (by omega) (by omega))) (pq_gR (ndd _) rfl (pq_sb (pq_gI u_eq rfl ?_))))))
      rw [o1, o2, o3]
      refine f_win_l (q := dd.2.2.1) (d1 := dd.1) (d2 := dd.2.1) hk hdb.2.1 (by rw [hML]; exact hdb.2.2) (hBL.trans hML.symm) rFU dd.1 _ (txs P) (ogs P) m w (ndd _) ((u_ne (by omega)).trans ho) u_eq (rw_up hM (by omega) (by omega)) (rw_up hB (by omega) (by omega)) (rw_up hT (by omega) (by omega)) (rw_up hO (by omega) (by omega)) (by omega) (by omega) (by omega) hdx.2.1 (fun f' m' w' k1 k2 k3 k4 => ?_)
      -- settle
      have hF' : ∀ j, j ≠ c0 + 12 → (j < c0 + 1 ∨ c0 + 4 < j) → f' j = f j := fun j e1 e2 => (k4 j e1 e2).trans (u_ne e1)
      have hC' : CB f' c0 P := CB_tr hC (hF' _ (by omega) (by omega)) (fun i x1 x2 => hF' i (by omega) (by omega))
      have hst' : f' st = some (.inr (7, stV fr cf.1 cf.2.1 cf.2.2.1 (nI cf.2.2.2.1) lc la pn lk td)) := ((hF' st (by omega) (by omega)).trans (hF0 st hsr)).trans hst
      have ebe : ((uOf cf L c).map (fun x => nI x.2.1)).getD dd.1 0 = nI ((uOf cf L c).getD dd.1 u0).2.1 := hBg _ (by omega)
      have een : (if dd.2.1 < ((uOf cf L c).map (fun x => x.1)).length then ((uOf cf L c).map (fun x => nI x.2.1)).getD dd.2.1 0 else nI c.2.1) = nI ((uOf cf L c).getD (dd.2.1 - 1) u0).2.2 := by
        have h9 := hch (dd.2.1 - 1) (by show dd.2.1 - 1 < (uOf cf L c).length; omega)
        rw [hML]
        by_cases hlt : dd.2.1 < (uOf cf L c).length
        · rw [if_pos hlt, hBg _ hlt]
          have h10 := h9.2.2.2.2.1 (by show dd.2.1 - 1 + 1 < (uOf cf L c).length; omega)
          rw [show dd.2.1 - 1 + 1 = dd.2.1 by omega] at h10
          exact congrArg nI h10.symm
        · rw [if_neg hlt]
          have h10 := h9.2.2.2.2.2 (by show dd.2.1 - 1 + 1 = (uOf cf L c).length; omega)
          exact congrArg nI h10.symm
      have eg : (und cf.2.1 dd.2.2.1 ((uOf cf L c).map (fun x => x.1)) dd.1 dd.2.1).map (fun x => ((uOf cf L c).map (fun x => nI x.2.1)).getD x.2.1 0) = ((und cf.2.1 dd.2.2.1 ((uOf cf L c).map (fun x => x.1)) dd.1 dd.2.1).map (fun x => ((uOf cf L c).getD x.2.1 u0).2.1)).map nI := by
        rw [List.map_map]
        refine List.map_congr_left (fun x hx => ?_)
        have := und_mem _ dd.1 (Nat.le_refl _) x hx
        exact hBg _ (by omega)
      rw [eg] at k3
      rw [ebe, een]
      have ei12 : f' (c0 + 12) = scE (c0 + 5) (nI dd.1) (nI dd.2.1) (bI dd.2.2.1) kb' ks' m' w' cf.2.1 (nI a') := k1
      refine pq_call (f_settle (iq := dd.2.2.1) (oq := c.2.2.1) (b0 := c.1) (kf := c.2.2.2.1) (km := c.2.2.2.2) hC' (by omega) hst' hsr hle ((hF' _ (by omega) (by omega)).trans ho) (fun _ => ei12) k2 k3 hL) (fun y hy => ?_)
      obtain ⟨f2, rfl, s1, s2, s3, s4⟩ := hy
      have ex : ((((uOf cf L c).getD dd.1 u0).2.1, ((uOf cf L c).getD (dd.2.1 - 1) u0).2.2, c.2.2.1, decide (cf.2.1 = 1) && dd.2.2.1, decide (nI ((uOf cf L c).getD dd.1 u0).2.1 = nI c.1), c.2.2.2.1, c.2.2.2.2, (und cf.2.1 dd.2.2.1 ((uOf cf L c).map (fun x => x.1)) dd.1 dd.2.1).map (fun x => x.1), (und cf.2.1 dd.2.2.1 ((uOf cf L c).map (fun x => x.1)) dd.1 dd.2.1).map (fun x => ((uOf cf L c).getD x.2.1 u0).2.1)) : Pc) = pcI cf c (uOf cf L c) dd := by
        unfold pcI
        have e1 : (decide (cf.2.1 = 1) && dd.2.2.1) = dd.2.2.1 := by
          by_cases h1 : cf.2.1 = 1
          · rw [decide_eq_true h1]; rfl
          · rw [hdx.2.2 h1, Bool.and_false]
        have h9 := hch dd.1 (by show dd.1 < (uOf cf L c).length; omega)
        have h9a : c.1 + dd.1 ≤ ((uOf cf L c).getD dd.1 u0).2.1 := h9.1
        have h9b : ((uOf cf L c).getD dd.1 u0).2.1 < ((uOf cf L c).getD dd.1 u0).2.2 := h9.2.1
        have h9c : ((uOf cf L c).getD dd.1 u0).2.2 ≤ c.2.1 := h9.2.2.1
        have h9d : dd.1 = 0 → ((uOf cf L c).getD dd.1 u0).2.1 = c.1 := h9.2.2.2.1
        have e2 : decide (nI ((uOf cf L c).getD dd.1 u0).2.1 = nI c.1) = decide (dd.1 = 0) := by
          by_cases h0 : dd.1 = 0
          · rw [decide_eq_true h0, h9d h0]; exact decide_eq_true rfl
          · rw [decide_eq_false h0]
            refine decide_eq_false (fun x => ?_)
            have := nI_inj (by omega) (by omega) x
            omega
        rw [e1, e2]
      rw [ex] at s1 s2 s3
      have hul2 := (und_len (k := cf.2.1) (q := dd.2.2.1) (L := (uOf cf L c).map (fun x => x.1)) (b := dd.2.1) _ dd.1 (Nat.le_refl _)).1
      have hpx : (pX (pcI cf c (uOf cf L c) dd)).length ≤ dd.2.1 - dd.1 := by
        show ((und cf.2.1 dd.2.2.1 ((uOf cf L c).map (fun x => x.1)) dd.1 dd.2.1).map (fun x => x.1)).length ≤ _
        rw [List.length_map]; exact hul2
      have hgx : (pG (pcI cf c (uOf cf L c) dd)).length = (pX (pcI cf c (uOf cf L c) dd)).length := by
        show ((und cf.2.1 dd.2.2.1 ((uOf cf L c).map (fun x => x.1)) dd.1 dd.2.1).map (fun x => ((uOf cf L c).getD x.2.1 u0).2.1)).length = ((und cf.2.1 dd.2.2.1 ((uOf cf L c).map (fun x => x.1)) dd.1 dd.2.1).map (fun x => x.1)).length
        rw [List.length_map, List.length_map]
      have htk := tk_tx (cf := cf) (P := P) (x := pcI cf c (uOf cf L c) dd)
      show PQ (mX1_takeWithin_l17 d c0 (some st) (nI t + 1) f2 n) _
      rw [nI_1]
      have hW2 : WI f2 c0 (tk cf P (pcI cf c (uOf cf L c) dd)) ((uOf cf L c).map (fun x => x.1)) ((uOf cf L c).map (fun x => nI x.2.1)) (scE r (nI c.1) (nI c.2.1) (bI c.2.2.1) (nI c.2.2.2.1) (nI c.2.2.2.2) om ow okk op) := ⟨s1, s2, s3, rw_tr hM ((s4 _ (by omega)).trans (hF' _ (by omega) (by omega))) ((s4 _ (by omega)).trans (hF' _ (by omega) (by omega))), rw_tr hB ((s4 _ (by omega)).trans (hF' _ (by omega) (by omega))) ((s4 _ (by omega)).trans (hF' _ (by omega) (by omega))), ((s4 _ (by omega)).trans (hF' _ (by omega) (by omega))).trans ho⟩
      refine pq_tail (ih (t + 1) a' f2 (tk cf P (pcI cf c (uOf cf L c) dd)) _ _ _ _ _ _ _ hW2 (fun j hj => ((s4 j (by omega)).trans (hF' j (by omega) (by omega))).trans (hF0 j hj)) ((s4 _ (by omega)).trans ei12) (by rw [o3] at g3; exact g3) (by omega) g1 (tk_len hL hgx) (by omega) (by omega)) (fun y hy => ?_)
      rw [g5]
      exact hy
    · refine pq_t rfl (fin _ b' e' q' kb' ks' (nI a') rfl ?_)
      rw [g5]; rfl
