/-! locks -/
def LKS (f : AH) (c0 lk : Nat) (locks : List BL) : Prop := (∃ g : Nat → Option Nat, f lk = some (.inl (2, 4, .inr (.inr g))) ∧ ∀ l, l < locks.length → ∃ j b c, g l = some j ∧ isRw f j b c (locks.getD l []) ∧ (j < c0 ∨ c0 + 56 ≤ j) ∧ (b < c0 ∨ c0 + 56 ≤ b)) ∧ locks.length ≤ 4 ∧ (lk < c0 ∨ c0 + 56 ≤ lk)
theorem LKS_tr {f f' : AH} {c0 lk : Nat} {locks : List BL} (h : LKS f c0 lk locks) (hF : ∀ j, j < c0 ∨ c0 + 56 ≤ j → f' j = f j) : LKS f' c0 lk locks := by
  obtain ⟨⟨g, h1, h2⟩, h3, h4⟩ := h
  refine ⟨⟨g, (hF _ h4).trans h1, fun l hl => ?_⟩, h3, h4⟩
  obtain ⟨j, b, c, e1, e2, e3, e4⟩ := h2 l hl
  exact ⟨j, b, c, e1, rw_tr e2 (hF _ e3) (hF _ e4), e3, e4⟩
theorem bdr_st {X : List BL} {i : Nat} (h : i < X.length) : X.drop i = X.getD i [] :: X.drop (i + 1) := by
  rw [List.drop_eq_getElem_cons h, List.getD_eq_getElem?_getD, List.getElem?_eq_getElem h]; rfl
theorem f_isLocked_l {f : AH} {n c0 st fr lk td s r rb c kf km : Nat} {k i l le : Int32} {locks : List BL} {la : Option Nat} {pn : Int32} {b e q m w kk p : Int32} {L : BL} (hst : f st = some (.inr (7, stV fr k i l le (nI locks.length) la pn lk td))) (hL : LKS f c0 lk locks) (hs : f s = scE r b e q (nI kf) (nI km) m w kk p) (hr : isRw f r rb c L) (hkk : kf + km ≤ L.length) : ∀ d t, t ≤ locks.length → PQ (mX7_isLocked_l2 d st (some s) (nI t) f n) (fun y => y = (bI ((locks.drop t).any (fun w => decide (w.length ≤ km) && smF w 0 L kf w.length)), f, n)) := by
  obtain ⟨⟨g, h1, h2⟩, h3, h4⟩ := hL
  have h6 := rw_6 hr
  intro d
  induction d with
  | zero => intro t _; exact pq_none
  | succ d ih =>
    intro t ht
    unfold mX7_isLocked_l2
    refine pq_gI hst rfl ?_
    refine pq_le (nI_toInt (by omega)) (nI_toInt (by omega)) (fun h => ?_) (fun h => ?_)
    · refine pq_ck (pq_ret ?_)
      rw [List.drop_of_length_le (by omega)]; rfl
    · have hlt : t < locks.length := by omega
      obtain ⟨j, b1, c1, e1, e2, -, -⟩ := h2 t hlt
      have h61 := rw_6 e2
      refine pq_gR hst rfl (pq_sb (pq_gL h1 (by omega) (pq_f (nI_ge (by omega) (by omega)) (pq_gR hst rfl (pq_sb ?_)))))
      refine pq_gRA h1 (fun _ => ?_)
      rw [nI_clamp (by omega), e1, bdr_st hlt, List.any_cons]
      refine pq_oNs (pq_ck (pq_is (f_size e2) (pq_sb (pq_gI hs rfl ?_))))
      refine pq_lt (nI_toInt (by omega)) (nI_toInt (by omega)) (fun q1 => ?_) (fun q1 => ?_)
      · unfold mX7_isLocked_b63
        rw [nI_1, decide_eq_false (by omega), Bool.false_and, Bool.false_or]
        exact ih (t + 1) (by omega)
      · rw [decide_eq_true (show (locks.getD t []).length ≤ km by omega), Bool.true_and]
        refine pq_gR hs rfl (pq_gI hs rfl (pq_ck (pq_is (f_size e2) (pq_ck ?_))))
        refine pq_is (f_same (a := 0) e2 hr (by omega) (by omega)) ?_
        refine pq_eq (fun q2 => ?_) (fun q2 => ?_)
        · unfold mX7_isLocked_b63
          rw [nI_1, bI_0.mp q2, Bool.false_or]
          exact ih (t + 1) (by omega)
        · refine pq_ck (pq_ret ?_)
          cases hx : smF (locks.getD t []) 0 L kf (locks.getD t []).length with
          | true => rfl
          | false => exact absurd (by show bI (smF (locks.getD t []) 0 L kf (locks.getD t []).length) = 0; rw [hx]; rfl) q2
theorem f_isLocked {f : AH} {n c0 st fr lk td s r rb c kf km : Nat} {k i l le : Int32} {locks : List BL} {la : Option Nat} {pn : Int32} {b e q m w kk p : Int32} {L : BL} (hst : f st = some (.inr (7, stV fr k i l le (nI locks.length) la pn lk td))) (hL : LKS f c0 lk locks) (hs : f s = scE r b e q (nI kf) (nI km) m w kk p) (hr : isRw f r rb c L) (hkk : kf + km ≤ L.length) : PQ (mX7_isLocked st (some s) f n) (fun y => y = (bI (locks.any (fun w => decide (w.length ≤ km) && smF w 0 L kf w.length)), f, n)) := f_isLocked_l hst hL hs hr hkk rFU 0 (Nat.zero_le _)
/-! the cut as it stands between two finds -/
def scA (v : Option AE) : Prop := ∃ r b e q kb ks m w k p, v = scE r b e q kb ks m w k p
def FI (f : AH) (c0 : Nat) (P : List Pc) : Prop := CB f c0 P ∧ isRw f (c0 + 1) (c0 + 2) 600 (txs P) ∧ isRw f (c0 + 3) (c0 + 4) 600 (ogs P) ∧ (∃ M, isRw f (c0 + 5) (c0 + 6) 600 M) ∧ (∃ B, isRw f (c0 + 7) (c0 + 8) 600 B) ∧ scA (f (c0 + 12))
theorem f_tkW {n c0 st fr lk td : Nat} {cf : CFG} {lc : Int32} {la : Option Nat} {pn : Int32} {L : BL} {c : CI} {r : Nat} {om ow okk op : Int32} {f0 f : AH} {P : List Pc} (hk : cf.2.1 = 0 ∨ cf.2.1 = 1 ∨ cf.2.1 = 2 ∨ cf.2.1 = 3) (hst : f0 st = some (.inr (7, stV fr cf.1 cf.2.1 cf.2.2.1 (nI cf.2.2.2.1) lc la pn lk td))) (hsr : st < c0 ∨ c0 + 56 ≤ st) (hle : cf.2.2.2.1 ≤ 40) (hc12 : c.1 < c.2.1) (hc6 : c.2.1 ≤ 600) (hW : WI f c0 P ((uOf cf L c).map (fun x => x.1)) ((uOf cf L c).map (fun x => nI x.2.1)) (scE r (nI c.1) (nI c.2.1) (bI c.2.2.1) (nI c.2.2.2.1) (nI c.2.2.2.2) om ow okk op)) (hF0 : ∀ j, j < c0 ∨ c0 + 56 ≤ j → f j = f0 j) (hs : scA (f (c0 + 12))) (hL : (ogs P).length = (txs P).length) (hX : (txs P).length ≤ c.1) : PQ (mX1_takeWithin c0 (some st) f n) (fun y => ∃ f' P', y = (0, f', n) ∧ P' = ((cutL cf.2.1 ((uOf cf L c).map (fun x => x.1)) 0).map (pcI cf c (uOf cf L c))).foldl (tk cf) P ∧ FI f' c0 P' ∧ f' (c0 + 9) = scE r (nI c.1) (nI c.2.1) (bI c.2.2.1) (nI c.2.2.2.1) (nI c.2.2.2.2) om ow okk op ∧ (∀ j, j < c0 ∨ c0 + 56 ≤ j → f' j = f0 j) ∧ (ogs P').length = (txs P').length ∧ (txs P').length ≤ c.2.1) := by
  obtain ⟨hC, hT, hO, hM, hB, ho⟩ := id hW
  obtain ⟨r1, b1, e1, q1, kb1, ks1, m1, w1, k1, p1, hs1⟩ := hs
  unfold mX1_takeWithin
  refine pq_gR hC.1 rfl (pq_gR hC.1 rfl (pq_sb (pq_gI ((hF0 st hsr).trans hst) rfl (pq_sb (pq_ck ?_)))))
  have st1 := f_scstart (f := f) (s := c0 + 12) (n := n) (r := r1) (b := b1) (e := e1) (q := q1) (kb := kb1) (ks := ks1) (m := m1) (w := w1) (k := k1) (p := p1) (r' := c0 + 5) (k' := cf.2.1)
  rw [u_id hs1] at st1
  refine pq_is st1 ?_
  have hW2 : WI (va_up f (c0 + 12) (scE (c0 + 5) b1 e1 0 0 0 m1 w1 cf.2.1 0)) c0 P ((uOf cf L c).map (fun x => x.1)) ((uOf cf L c).map (fun x => nI x.2.1)) (scE r (nI c.1) (nI c.2.1) (bI c.2.2.1) (nI c.2.2.2.1) (nI c.2.2.2.2) om ow okk op) := ⟨CB_tr hC (u_ne (by omega)) (fun i x1 x2 => u_ne (by omega)), rw_up hT (by omega) (by omega), rw_up hO (by omega) (by omega), rw_up hM (by omega) (by omega), rw_up hB (by omega) (by omega), (u_ne (by omega)).trans ho⟩
  refine pq_tail (f_tkW_l hk hst hsr hle hc12 hc6 rFU 0 0 _ P b1 e1 0 0 0 m1 w1 hW2 (fun j hj => (u_ne (by omega)).trans (hF0 j hj)) u_eq ⟨fun _ => rfl, fun _ => ⟨rfl, rfl⟩⟩ (Nat.le_refl _) (by omega) hL (by omega) (by omega)) (fun y hy => ?_)
  obtain ⟨f', P', b', e', q', kb', ks', m', w', p', rfl, g1, ⟨g2, g3, g4, g5, g6, g7⟩, g8, g9, g10, g11⟩ := hy
  exact ⟨f', P', rfl, g1, ⟨g2, g3, g4, ⟨_, g5⟩, ⟨_, g6⟩, ⟨_, _, _, _, _, _, _, _, _, _, g8⟩⟩, g7, g9, g10, g11⟩
theorem f_find_b82 {n c0 st fr lk td : Nat} {cf : CFG} {la : Option Nat} {pn : Int32} {L : BL} {c : CI} {r rb cc : Nat} {om ow op v3 lc : Int32} {f0 f : AH} {P : List Pc} {Q : Int32 × HpN → Prop} {rec35 : Nat → (Option Nat) → Int32 → AH → Nat → Option (Int32 × HpN)} (hk : cf.1 = 0 ∨ cf.1 = 1 ∨ cf.1 = 2 ∨ cf.1 = 3) (hki : cf.2.1 = -1 ∨ cf.2.1 = 0 ∨ cf.2.1 = 1 ∨ cf.2.1 = 2 ∨ cf.2.1 = 3) (hst : f0 st = some (.inr (7, stV fr cf.1 cf.2.1 cf.2.2.1 (nI cf.2.2.2.1) lc la pn lk td))) (hsr : st < c0 ∨ c0 + 56 ≤ st) (hle : cf.2.2.2.1 ≤ 40) (hr : isRw f0 r rb cc L) (hro : r < c0 ∨ c0 + 56 ≤ r) (hrb : rb < c0 ∨ c0 + 56 ≤ rb) (hc12 : c.1 < c.2.1) (hc6 : c.2.1 ≤ L.length) (hcq : cf.1 = 1 → c.2.2.1 = true → qe L c.1 = c.2.1) (hP : P.length < 40) (hFI : FI f c0 P) (ho : f (c0 + 9) = scE r (nI c.1) (nI c.2.1) (bI c.2.2.1) (nI c.2.2.2.1) (nI c.2.2.2.2) om ow cf.1 op) (hF0 : ∀ j, j < c0 ∨ c0 + 56 ≤ j → f j = f0 j) (hL : (ogs P).length = (txs P).length) (hX : (txs P).length ≤ c.1) (hK : ∀ f' P' m' w', P' = (pcC cf L c).foldl (tk cf) P → FI f' c0 P' → f' (c0 + 9) = scE r (nI c.1) (nI c.2.1) (bI c.2.2.1) (nI c.2.2.2.1) (nI c.2.2.2.2) m' w' cf.1 op → (∀ j, j < c0 ∨ c0 + 56 ≤ j → f' j = f0 j) → (ogs P').length = (txs P').length → (txs P').length ≤ c.2.1 → PQ (rec35 c0 (some st) (v3 + 1) f' n) Q) : PQ (mX1_find_b82 rec35 c0 (some st) v3 f n) Q := by
  have h6 := rw_6 hr
  obtain ⟨hC, hT, hO, ⟨M0, hM⟩, ⟨B0, hB⟩, hs⟩ := id hFI
  have hst' := (hF0 st hsr).trans hst
  have hr' : isRw f r rb cc L := rw_tr hr (hF0 _ hro) (hF0 _ hrb)
  have hul : (und cf.1 c.2.2.1 L c.1 c.2.1).length ≤ c.2.1 - c.1 := (und_len _ c.1 (Nat.le_refl _)).1
  unfold mX1_find_b82
  refine pq_sb (pq_gI hst' rfl ?_)
  refine pq_eq (fun q1 => ?_) (fun q1 => ?_)
  · have q1' : cf.2.1 = -1 := q1
    refine pq_gR hC.1 rfl (pq_sb (pq_ck (pq_is (f_size hT) (pq_gR hC.1 rfl (pq_gR hC.1 rfl (pq_ck ?_))))))
    refine pq_call (f_rdO (o := 1) hk (by omega) hro hrb hc6 hC.1 ho hr' hT hO (by omega) (by omega) (by omega) hcq) (fun y hy => ?_)
    obtain ⟨f1, m1, w1, rfl, g1, g2, g3, g4⟩ := hy
    have hC1 : CB f1 c0 P := CB_tr hC (g4 _ (by omega) (by omega)) (fun i x1 x2 => g4 i (by omega) (by omega))
    refine pq_gR hC1.1 rfl (pq_sb (pq_gI g1 rfl (pq_gR hC1.1 rfl (pq_sb (pq_gI g1 rfl (pq_ck ?_))))))
    have eg : (und cf.1 c.2.2.1 L c.1 c.2.1).map (fun x => nI x.2.1) = ((und cf.1 c.2.2.1 L c.1 c.2.1).map (fun x => x.2.1)).map nI := by rw [List.map_map]; rfl
    rw [eg] at g3
    refine pq_call (f_settle (iq := false) (r' := 0) (ib := 0) (ie := 0) (ik := 0) (im := 0) (mm := 0) (ww := 0) (kk' := 0) (pp' := 0) hC1 hP ((g4 st (by omega) (by omega)).trans hst') hsr hle g1 (fun x => absurd (q1'.symm.trans x) (by decide)) g2 g3 hL) (fun y hy => ?_)
    obtain ⟨f2, rfl, s1, s2, s3, s4⟩ := hy
    have ex : ((c.1, c.2.1, c.2.2.1, decide (cf.2.1 = 1) && false, decide (nI c.1 = nI c.1), c.2.2.2.1, c.2.2.2.2, (und cf.1 c.2.2.1 L c.1 c.2.1).map (fun x => x.1), (und cf.1 c.2.2.1 L c.1 c.2.1).map (fun x => x.2.1)) : Pc) = pcO cf L c := by
      unfold pcO
      rw [Bool.and_false, decide_eq_true (rfl : nI c.1 = nI c.1)]
    rw [ex] at s1 s2 s3
    have eP : tk cf P (pcO cf L c) = (pcC cf L c).foldl (tk cf) P := by unfold pcC; rw [if_pos q1']; rfl
    have hlx : (pX (pcO cf L c)).length ≤ c.2.1 - c.1 := by
      show ((und cf.1 c.2.2.1 L c.1 c.2.1).map (fun x => x.1)).length ≤ _
      rw [List.length_map]; exact hul
    have hgx : (pG (pcO cf L c)).length = (pX (pcO cf L c)).length := by
      show ((und cf.1 c.2.2.1 L c.1 c.2.1).map (fun x => x.2.1)).length = ((und cf.1 c.2.2.1 L c.1 c.2.1).map (fun x => x.1)).length
      rw [List.length_map, List.length_map]
    have htk := tk_tx (cf := cf) (P := P) (x := pcO cf L c)
    have e5 : ∀ j, c0 + 5 ≤ j → j ≤ c0 + 14 → j ≠ c0 + 9 → f2 j = f j := fun j x1 x2 x3 => (s4 j (by omega)).trans (g4 j x3 (by omega))
    unfold mX1_find_b168
    refine hK f2 _ m1 w1 eP ⟨s1, s2, s3, ⟨M0, rw_tr hM (e5 _ (by omega) (by omega) (by omega)) (e5 _ (by omega) (by omega) (by omega))⟩, ⟨B0, rw_tr hB (e5 _ (by omega) (by omega) (by omega)) (e5 _ (by omega) (by omega) (by omega))⟩, ?_⟩ ((s4 _ (by omega)).trans g1) (fun j hj => ((s4 j (by omega)).trans (g4 j (by omega) (by omega))).trans (hF0 j hj)) (tk_len hL hgx) (by omega)
    rw [e5 _ (by omega) (by omega) (by omega)]; exact hs
  · have hki' : cf.2.1 = 0 ∨ cf.2.1 = 1 ∨ cf.2.1 = 2 ∨ cf.2.1 = 3 := hki.elim (fun h => absurd h q1) id
    refine pq_gR hC.1 rfl (pq_sb (pq_ck ?_))
    refine pq_call (f_cutTo hM (m := 0) (by omega)) (fun y hy => ?_)
    obtain ⟨f1, rfl, hM1, hF1⟩ := hy
    have hC1 : CB f1 c0 P := CB_tr hC (hF1 _ (by omega)) (fun i x1 x2 => hF1 i (by omega))
    refine pq_gR hC1.1 rfl (pq_sb (pq_ck ?_))
    have hB1 : isRw f1 (c0 + 7) (c0 + 8) 600 B0 := rw_tr hB (hF1 _ (by omega)) (hF1 _ (by omega))
    refine pq_call (f_cutTo hB1 (m := 0) (by omega)) (fun y hy => ?_)
    obtain ⟨f2, rfl, hB2, hF2⟩ := hy
    have e12 : ∀ j, j ≠ c0 + 5 → j ≠ c0 + 7 → f2 j = f j := fun j x1 x2 => (hF2 j x2).trans (hF1 j x1)
    have hC2 : CB f2 c0 P := CB_tr hC (e12 _ (by omega) (by omega)) (fun i x1 x2 => e12 i (by omega) (by omega))
    have hM2 : isRw f2 (c0 + 5) (c0 + 6) 600 (M0.take 0) := rw_tr hM1 (hF2 _ (by omega)) (hF2 _ (by omega))
    refine pq_gR hC2.1 rfl (pq_gR hC2.1 rfl (pq_ck ?_))
    refine pq_call (f_rdO (o := 5) (A := M0.take 0) (Bs := B0.take 0) hk (by omega) hro hrb hc6 hC2.1 ((e12 _ (by omega) (by omega)).trans ho) (rw_tr hr' (e12 _ (by omega) (by omega)) (e12 _ (by omega) (by omega))) hM2 hB2 (by omega) (by rw [List.take_zero]; show 0 + _ ≤ 600; omega) (by rw [List.take_zero]; show 0 + _ ≤ 600; omega) hcq) (fun y hy => ?_)
    obtain ⟨f3, m1, w1, rfl, g1, g2, g3, g4⟩ := hy
    rw [List.take_zero, List.nil_append] at g2 g3
    have e3 : ∀ j, j ≠ c0 + 9 → (j < c0 + 5 ∨ c0 + 8 < j) → f3 j = f j := fun j x1 x2 => (g4 j x1 (by omega)).trans (e12 j (by omega) (by omega))
    refine pq_ck ?_
    have hW : WI f3 c0 P ((uOf cf L c).map (fun x => x.1)) ((uOf cf L c).map (fun x => nI x.2.1)) (scE r (nI c.1) (nI c.2.1) (bI c.2.2.1) (nI c.2.2.2.1) (nI c.2.2.2.2) m1 w1 cf.1 op) := ⟨CB_tr hC (e3 _ (by omega) (by omega)) (fun i x1 x2 => e3 i (by omega) (by omega)), rw_tr hT (e3 _ (by omega) (by omega)) (e3 _ (by omega) (by omega)), rw_tr hO (e3 _ (by omega) (by omega)) (e3 _ (by omega) (by omega)), g2, g3, g1⟩
    refine pq_call (f_tkW hki' hst hsr hle hc12 (by omega) hW (fun j hj => (e3 j (by omega) (by omega)).trans (hF0 j hj)) (by show scA (f3 (c0 + 12)); rw [e3 _ (by omega) (by omega)]; exact hs) hL hX) (fun y hy => ?_)
    obtain ⟨f4, P', rfl, s1, s2, s3, s4, s5, s6⟩ := hy
    unfold mX1_find_b168
    exact hK f4 P' m1 w1 (by rw [s1]; unfold pcC; rw [if_neg q1]) s2 s3 s4 s5 s6
