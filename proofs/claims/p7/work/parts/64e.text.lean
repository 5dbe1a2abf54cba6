/-! the reference does an act of a text -/
abbrev FX9 : Nat → Prop := fun k => k = 11 ∨ k = 12 ∨ FA9 k
abbrev dAz (S : SST) (z : Int32 × Int32 × Int32 × BL × Nat) : Int32 × SST := dA S z.1 z.2.1 z.2.2.1 z.2.2.2.1
def MD9 (σ : RS9) (T : BL) (S : SST) (r : RA) (y : Int32 × RS9) : Prop := FRX RA9 FX9 σ y.2 ∧ (match r with
  | .inl w => w ≤ 400 ∧ y.2.1 12 = nI w
  | .inr z => y.2.1 12 = -1 ∧ y.1 = (dAz S z).1 ∧ ((dAz S z).1 = 0 → RM9 y.2 (dAz S z).2) ∧ TP9 y.2 T z.2.2.2.2)
def AC9 (σ : RS9) (T : BL) (p : Nat) (S : SST) (y : Int32 × RS9) : Prop := FRX RA9 FX9 σ y.2 ∧ (match rdA T p with
  | .inl w => w ≤ 400 ∧ y.1 = 0 ∧ y.2.1 12 = nI w
  | .inr z => ((dAz S z).1 = 0 → y.1 = 0 ∧ y.2.1 12 = -1 ∧ RM9 y.2 (dAz S z).2 ∧ TP9 y.2 T z.2.2.2.2) ∧ ((dAz S z).1 ≠ 0 → y.1 = (dAz S z).1 ∧ y.2.1 12 = nI p))
theorem CD_d {S : SST} {a x y : Int32} {w : BL} : CD9 (dA S a x y w) := CD_if (CD_k 0 (by decide)) (CD_if (CD_k 0 (by decide)) (CD_if (CD_k 0 (by decide)) (CD_if (CD_k 0 (by decide)) (CD_if (CD_k 0 (by decide)) (CD_if (CD_k 0 (by decide)) (CD_if CD_lo (CD_if (CD_k 0 (by decide)) (CD_if CD_fr (CD_if CD_sp (CD_if CD_sw (CD_if CD_wp CD_tl)))))))))))
theorem kx_up {σ σ' : RS9} (h : FRX NO9 K11 σ σ') : FRX RA9 FX9 σ σ' := frx_mono h (fun k hk => absurd hk id) (fun k hk => Or.inl hk)
theorem kx_12 {σ σ' : RS9} (h : FRX NO9 K12 σ σ') : FRX RA9 FX9 σ σ' := frx_mono h (fun k hk => absurd hk id) (fun k hk => by omega)
theorem kx_a {σ σ' : RS9} (h : FRX RA9 FA9 σ σ') : FRX RA9 FX9 σ σ' := frx_mono h (fun k hk => hk) (fun k hk => Or.inr (Or.inr hk))
theorem aNm_at {X : BL} {k : Nat} : ∀ (d t : Nat), (∀ j, j < k → X ≠ nmL.getD (t + j) []) → X = nmL.getD (t + k) [] → k < d → aNm X d t = nI (t + k) := by
  induction k with
  | zero =>
    intro d t _ hX hd
    obtain ⟨d', rfl⟩ : ∃ d', d = d' + 1 := ⟨d - 1, by omega⟩
    exact if_pos hX
  | succ k ih =>
    intro d t hn hX hd
    obtain ⟨d', rfl⟩ : ∃ d', d = d' + 1 := ⟨d - 1, by omega⟩
    have h0 : X ≠ nmL.getD t [] := hn 0 (by omega)
    unfold aNm
    rw [if_neg h0, ih d' (t + 1) (fun j hj => by rw [show t + 1 + j = t + (j + 1) by omega]; exact hn (j + 1) (by omega)) (by rw [show t + 1 + k = t + (k + 1) by omega]; exact hX) (by omega)]
    rw [show t + 1 + k = t + (k + 1) by omega]
theorem aNm_no {X : BL} : ∀ (d t : Nat), (∀ j, j < d → X ≠ nmL.getD (t + j) []) → aNm X d t = -1 := by
  intro d
  induction d with
  | zero => intro t _; rfl
  | succ d ih =>
    intro t hn
    unfold aNm
    rw [if_neg (show ¬ X = nmL.getD t [] from hn 0 (by omega)), ih (t + 1) (fun j hj => by rw [show t + 1 + j = t + (j + 1) by omega]; exact hn (j + 1) (by omega))]
theorem nm_wd : ∀ i : Fin 12, wd9 (3 + (i : Nat)) = nmL.getD (i : Nat) [] := by decide
section RDO
variable {σ : RS9} {T : BL} {p : Nat} {S : SST}
theorem TP_nx {σ' : RS9} {q : Nat} {R F : Nat → Prop} (h : TP9 σ T q) (hX : FRX R F σ σ') (hR : ¬ R 8) (hF : ¬ F 10 ∧ ¬ F 11) : TP9 σ' T q := TX_up h hX hR hF.1 ((hX.2 11 hF.2).trans h.2.1) h.2.2
theorem md_of {σ0 : RS9} {z : Int32 × Int32 × Int32 × BL × Nat} {y : Int32 × RS9} (hX : FRX RA9 FX9 σ0 σ) (hT : TP9 σ T z.2.2.2.2) (h12 : σ.1 12 = -1) (hD : DOA σ (dAz S z) y) : MD9 σ0 T S (.inr z) y := by
  obtain ⟨σ', rfl, h1, h2⟩ := hD
  exact ⟨frx_tr hX (kx_a h2), (h2.2 12 (fun q => by omega)).trans h12, rfl, h1, TP_nx hT h2 (fun q => by omega) ⟨fun q => by omega, fun q => by omega⟩⟩
theorem r_b246 {y : Int32 × RS9} (h : MD9 σ T S (rdA T p) y) (hp : p ≤ 400) : PQ (mX9_act_b246 (nI p) y.1 y.2) (AC9 σ T p S) := by
  obtain ⟨h1, h2⟩ := h
  unfold AC9 mX9_act_b246 mX9_act_b265
  generalize rdA T p = r at h2 ⊢
  cases r with
  | inl w =>
    obtain ⟨w4, e12⟩ := h2
    rw [e12]
    exact pq_f (nI_ne (by omega)) (pq_ret ⟨h1, w4, rfl, e12⟩)
  | inr z =>
    obtain ⟨e12, e1, e2, e3⟩ := h2
    rw [e12]
    refine pq_t rfl ?_
    obtain ⟨c, c9, ec⟩ := CD_d (S := S) (a := z.1) (x := z.2.1) (y := z.2.2.1) (w := z.2.2.2.1)
    have ec : (dAz S z).1 = nI c := ec
    rw [e1, ec]
    refine pq_le (nI_toInt (by omega)) kt_0 (fun q => ?_) (fun q => ?_)
    · have c0 : c = 0 := by omega
      have h0 : (dAz S z).1 = 0 := by rw [ec, c0]; rfl
      exact pq_ret ⟨h1, fun _ => ⟨by rw [c0]; rfl, e12, e2 h0, e3⟩, fun q => absurd h0 (by rw [ec] at q ⊢; exact q)⟩
    · have hn : (dAz S z).1 ≠ 0 := fun z0 => by
        rw [ec] at z0
        have := congrArg Int32.toInt z0
        rw [nI_toInt (by omega), kt_0] at this; omega
      refine pq_isr (r_wrong e12) (pq_ret ⟨frx_tr h1 ⟨fun _ _ => rfl, fun k hk => sf_ne (fun q => hk (Or.inr (Or.inl q)))⟩, fun q => absurd q hn, fun _ => ⟨ec.symm, sf_eq⟩⟩)
theorem r_ruleText {e a : Nat} {lo hi k : Int32} {l u : Int} (h : RM9 σ S) (hT : TP9 σ T e) (h12 : σ.1 12 = -1) (ha : 1 ≤ a ∧ a ≤ 4) (hlo : lo.toInt = l) (hhi : hi.toInt = u) (hb : 0 ≤ l ∧ l ≤ 40 ∧ u ≤ 40) (hD : nOk T e l u → ∃ cf, dA S k (nV T e) 0 [] = (0, setC S cf) ∧ ∀ μ, MC μ S.2.1 → MC (fun i => if i = a then nV T e else μ i) cf) : PQ (mX9_ruleText (nI a) lo hi σ) (MD9 σ T S (rd1 T e k l u)) := by
  have h4 := hT.1.2.1
  unfold mX9_ruleText mX9_ruleText_b27
  refine pq_call (r_number hT h12 hlo hhi hb) (fun y hy => ?_)
  obtain ⟨v, σ1⟩ := y
  obtain ⟨hX, hc⟩ := hy
  have hX : FRX NO9 K12 σ σ1 := hX
  rcases hc with ⟨ok, e1, e12, hT1⟩ | ⟨bad, e12⟩
  · have er : rd1 T e k l u = .inr (k, nV T e, 0, [], nE T e) := if_pos ok
    have e1 : v = nV T e := e1
    subst e1
    obtain ⟨cf, d1, d2⟩ := hD ok
    have hM1 := RM_frx h hX (fun q => q) (fun k _ _ q => q) ⟨fun q => by omega, fun q => by omega⟩
    refine pq_t e12 (pq_call (r_rules (a := a) (x := nV T e) hM1 ha (d2 _ hM1.1.2.1)) (fun y hy => ?_))
    rw [er]
    refine pq_ret ?_
    have hD' : DOA σ1 (dAz S (k, nV T e, 0, [], nE T e)) y := by
      show DOA σ1 (dA S k (nV T e) 0 []) y
      rw [d1]; exact hy
    exact md_of (kx_12 hX) hT1 e12 hD'
  · have er : rd1 T e k l u = .inl (nB T e) := if_neg bad
    rw [er]
    have hbn := (nE_b hT.2.2).2.1
    have hbl := (nE_b hT.2.2).2.2
    refine pq_f (show ¬ σ1.1 12 = -1 from fun q => nI_ne (a := nB T e) (by omega) (e12.symm.trans q)) (pq_ret ⟨kx_12 hX, by omega, e12⟩)
theorem r_pieceText {e : Nat} {b : Bool} (h : RM9 σ S) (hS : SV S) (hT : TP9 σ T e) (h12 : σ.1 12 = -1) : PQ (mX9_pieceText (bI b) σ) (MD9 σ T S (rd1 T e (if b = true then 8 else 9) 0 39)) := by
  have h4 := hT.1.2.1
  unfold mX9_pieceText mX9_pieceText_b35
  refine pq_call (r_number hT h12 kt_0 kt_39 (by omega)) (fun y hy => ?_)
  obtain ⟨v, σ1⟩ := y
  obtain ⟨hX, hc⟩ := hy
  have hX : FRX NO9 K12 σ σ1 := hX
  rcases hc with ⟨ok, e1, e12, hT1⟩ | ⟨bad, e12⟩
  · have er : rd1 T e (if b = true then 8 else 9) 0 39 = .inr (if b = true then 8 else 9, nV T e, 0, [], nE T e) := if_pos ok
    have e1 : v = nV T e := e1
    subst e1
    have hM1 := RM_frx h hX (fun q => q) (fun k _ _ q => q) ⟨fun q => by omega, fun q => by omega⟩
    rw [er]
    refine pq_t e12 (if_01 (fun q => ?_) (fun q => ?_))
    · subst q
      refine pq_call (r_spread0 (v := nV T e) hM1 hS) (fun y hy => ?_)
      obtain ⟨σ2, rfl, k1, k2⟩ := hy
      exact pq_ret (md_of (z := (9, nV T e, 0, [], nE T e)) (kx_12 hX) hT1 e12 ⟨σ2, rfl, fun q => (k1 q).1, k2⟩)
    · subst q
      refine pq_call (r_free0 (v := nV T e) hM1 hS) (fun y hy => ?_)
      exact pq_ret (md_of (z := (8, nV T e, 0, [], nE T e)) (kx_12 hX) hT1 e12 hy)
  · have er : rd1 T e (if b = true then 8 else 9) 0 39 = .inl (nB T e) := if_neg bad
    rw [er]
    have hbn := (nE_b hT.2.2).2.1
    have hbl := (nE_b hT.2.2).2.2
    refine pq_f (show ¬ σ1.1 12 = -1 from fun q => nI_ne (a := nB T e) (by omega) (e12.symm.trans q)) (pq_ret ⟨kx_12 hX, by omega, e12⟩)
theorem r_swapText {e : Nat} (h : RM9 σ S) (hS : SV S) (hT : TP9 σ T e) (h12 : σ.1 12 = -1) : PQ (mX9_swapText σ) (MD9 σ T S (rd2 T e)) := by
  have h4 := hT.1.2.1
  unfold mX9_swapText mX9_swapText_b34
  refine pq_call (r_number hT h12 kt_0 kt_39 (by omega)) (fun y hy => ?_)
  obtain ⟨v, σ1⟩ := y
  obtain ⟨hX, hc⟩ := hy
  have hX : FRX NO9 K12 σ σ1 := hX
  rcases hc with ⟨ok, e1, e12, hT1⟩ | ⟨bad, e12⟩
  · have e1 : v = nV T e := e1
    subst e1
    have e12 : σ1.1 12 = -1 := e12
    have hT1 : TP9 σ1 T (nE T e) := hT1
    refine pq_call (r_number hT1 e12 kt_0 kt_39 (by omega)) (fun y hy => ?_)
    obtain ⟨v2, σ2⟩ := y
    obtain ⟨hX2, hc2⟩ := hy
    have hX2 : FRX NO9 K12 σ1 σ2 := hX2
    rcases hc2 with ⟨ok2, e21, e212, hT2⟩ | ⟨bad2, e212⟩
    · have er : rd2 T e = .inr (10, nV T e, nV T (nE T e), [], nE T (nE T e)) := (if_pos ok).trans (if_pos ok2)
      have e21 : v2 = nV T (nE T e) := e21
      subst e21
      rw [er]
      have hM2 := RM_frx h (frx_tr hX hX2) (fun q => q) (fun k _ _ q => q) ⟨fun q => by omega, fun q => by omega⟩
      refine pq_t e212 (pq_call (r_swap0 (v := nV T e) (u := nV T (nE T e)) hM2 hS) (fun y hy => ?_))
      exact pq_ret (md_of (z := (10, nV T e, nV T (nE T e), [], nE T (nE T e))) (kx_12 (frx_tr hX hX2)) hT2 e212 hy)
    · have er : rd2 T e = .inl (nB T (nE T e)) := (if_pos ok).trans (if_neg bad2)
      rw [er]
      have hbn := (nE_b hT1.2.2).2.1
      have hbl := (nE_b hT1.2.2).2.2
      refine pq_f (show ¬ σ2.1 12 = -1 from fun q => nI_ne (a := nB T (nE T e)) (by omega) (e212.symm.trans q)) (pq_ret ⟨kx_12 (frx_tr hX hX2), by omega, e212⟩)
  · have er : rd2 T e = .inl (nB T e) := if_neg bad
    rw [er]
    have hbn := (nE_b hT.2.2).2.1
    have hbl := (nE_b hT.2.2).2.2
    have n1 : ¬ σ1.1 12 = -1 := fun q => nI_ne (a := nB T e) (by omega) (e12.symm.trans q)
    have e2 : mX9_number (0 : Int32) (39 : Int32) σ1 = some (0, σ1) := by
      unfold mX9_number
      rw [if_neg n1]
    show PQ ((mX9_number (0 : Int32) (39 : Int32) σ1).bind _) _
    rw [e2]
    exact pq_f n1 (pq_ret ⟨kx_12 hX, by omega, e12⟩)
theorem r_lockText {e : Nat} (h : RM9 σ S) (hT : TP9 σ T e) (h12 : σ.1 12 = -1) : PQ (mX9_lockText σ) (MD9 σ T S (rdW T e)) := by
  have h4 := hT.1.2.1
  unfold mX9_lockText
  refine pq_call (r_wordEnd hT) (fun y hy => ?_)
  obtain ⟨σ1, rfl, hT1, hX⟩ := hy
  have e12 : σ1.1 12 = -1 := (hX.2 12 (fun q => by omega)).trans h12
  have hbT := hT1.2.2
  obtain ⟨w1, w2⟩ := wE_b hbT
  show PQ ((mX9_isIn (nI (wE T (nB T e)) - σ1.1 11) (1 : Int32) (8 : Int32) σ1).bind _) _
  rw [hT1.2.1, nI_sb w1 (by omega)]
  refine pq_isr r_isIn ?_
  rw [kt_1, kt_8, nI_toInt (by omega)]
  refine if_01 (fun q => ?_) (fun q => ?_)
  · have q := of_decide_eq_false q
    have er : rdW T e = .inl (nB T e) := if_neg (fun z => q (by omega))
    show PQ ((mX9_wrong (σ1.1 11) σ1).bind _) _
    rw [hT1.2.1, er]
    refine pq_isr (r_wrong e12) ?_
    unfold mX9_lockText_b30
    refine pq_f (show ¬ (rSf σ1 12 (nI (nB T e))).1 12 = -1 from fun q => nI_ne (a := nB T e) (by omega) (sf_eq.symm.trans q)) (pq_ret ⟨frx_tr (kx_up hX) ⟨fun _ _ => rfl, fun k hk => sf_ne (fun q => hk (Or.inr (Or.inl q)))⟩, by omega, sf_eq⟩)
  · have q := of_decide_eq_true q
    have er : rdW T e = .inr (6, 0, 0, sl T (nB T e) (wE T (nB T e)), wE T (nB T e)) := if_pos (by omega)
    rw [er]
    unfold mX9_lockText_b30
    refine pq_t e12 ?_
    have hl : (sl T (nB T e) (wE T (nB T e))).length = wE T (nB T e) - nB T e := sl_len w2
    have fr : FRX NO9 K11 σ1 (rSf σ1 11 (nI (wE T (nB T e)))) := ⟨fun _ _ => rfl, fun k hk => sf_ne hk⟩
    have hX2 := frx_tr hX fr
    have hM2 := RM_frx h hX2 (fun q => q) (fun k _ _ q => q) ⟨fun q => by omega, fun q => by omega⟩
    have hT2 : TP9 (rSf σ1 11 (nI (wE T (nB T e)))) T (wE T (nB T e)) := TX_up hT1 fr (fun q => q) (fun q => by omega) sf_eq w2
    show PQ ((mX9_lock0 (σ1.1 11) (nI (wE T (nB T e) - nB T e)) (rSf σ1 11 (nI (wE T (nB T e))))).bind _) _
    rw [hT1.2.1, ← hl]
    refine pq_call (r_lock0 (a := nB T e) (T := T) (w := sl T (nB T e) (wE T (nB T e))) hM2 hT2.1.1 h4 (by rw [hl]; omega) (fun k hk => by rw [sl_gd (by rw [hl] at hk; exact hk)]) (by rw [hl]; omega)) (fun y hy => ?_)
    exact pq_ret (md_of (z := (6, 0, 0, sl T (nB T e) (wE T (nB T e)), wE T (nB T e))) (kx_up hX2) hT2 ((sf_ne (by decide)).trans e12) hy)
theorem r_hasP {t : Nat} (ht : t < 15) (hpp : nB T p = p) (h : TP9 σ T p) (h12 : σ.1 12 = -1) (hM : RM9 σ S) : PQ (mX9_has t σ) (fun y => ∃ σ', y = (bI (decide (sl T p (wE T p) = wd9 t)), σ') ∧ TP9 σ' T (if sl T p (wE T p) = wd9 t then wE T p else p) ∧ σ'.1 12 = -1 ∧ FRX NO9 K11 σ σ' ∧ RM9 σ' S) := by
  have := r_has ht h h12
  rw [hpp] at this
  refine pq_tail this (fun y hy => ?_)
  obtain ⟨σ', h1, h2, h3, h4⟩ := hy
  exact ⟨σ', h1, h2, h3, h4, RM_frx hM h4 (fun q => q) (fun k _ _ q => q) ⟨fun q => by omega, fun q => by omega⟩⟩
theorem k3_of {x : Int32} (h : 0 ≤ x.toInt ∧ x.toInt ≤ 3) : x = 0 ∨ x = 1 ∨ x = 2 ∨ x = 3 := by
  rcases (by omega : x.toInt = 0 ∨ x.toInt = 1 ∨ x.toInt = 2 ∨ x.toInt = 3) with e | e | e | e
  · exact Or.inl (Int32.toInt_inj.mp e)
  · exact Or.inr (Or.inl (Int32.toInt_inj.mp e))
  · exact Or.inr (Or.inr (Or.inl (Int32.toInt_inj.mp e)))
  · exact Or.inr (Or.inr (Or.inr (Int32.toInt_inj.mp e)))
set_option maxHeartbeats 1000000 in
theorem r_act {p0 : Nat} (h : RM9 σ S) (hS : SV S) (hT0 : TP9 σ T p0) (h12 : σ.1 12 = -1) : PQ (mX9_act σ) (AC9 σ T (nB T p0) S) := by
  have h4 := hT0.1.2.1
  unfold mX9_act
  refine pq_call (r_here hT0) (fun y hy => ?_)
  obtain ⟨σ1, rfl, hT1, hX1⟩ := hy
  have hp4 : nB T p0 ≤ 400 := by have := hT1.2.2; omega
  have hpp : nB T (nB T p0) = nB T p0 := nB_id
  have h121 : σ1.1 12 = -1 := (hX1.2 12 (fun q => by omega)).trans h12
  have hM1 : RM9 σ1 S := RM_frx h hX1 (fun q => q) (fun k _ _ q => q) ⟨fun q => by omega, fun q => by omega⟩
  have hK1 : FRX NO9 K11 σ σ1 := hX1
  generalize nB T p0 = p at hT1 hp4 hpp ⊢
  have eR : ∀ k : Int32, actOf (sl T p (wE T p)) = k → rdA T p = rdK T p (wE T p) k := fun k hk => by
    unfold rdA
    rw [hk]
  have fin : ∀ {y : Int32 × RS9} {r : RA} {σ9 : RS9}, FRX NO9 K11 σ σ9 → MD9 σ9 T S r y → rdA T p = r → PQ (mX9_act_b246 (nI p) y.1 y.2) (AC9 σ T p S) := fun hK hy er => by
    refine r_b246 ?_ hp4
    rw [er]
    exact ⟨frx_tr (kx_up hK) hy.1, hy.2⟩
  refine pq_call (r_hasP (t := 3) (by decide) hpp hT1 h121 hM1) (fun y hy => ?_)
  obtain ⟨σ2, rfl, hTT2, h122, hX2, hM2⟩ := hy
  have hK2 := frx_tr hK1 hX2
  refine if_01 (fun q0 => ?_) (fun q0 => ?_)
  rotate_left
  · have q0 := of_decide_eq_true q0
    have hT2 : TP9 σ2 T (wE T p) := by rw [if_pos q0] at hTT2; exact hTT2
    have hd : ∀ j, j < 0 → sl T p (wE T p) ≠ nmL.getD (0 + j) [] := fun j hj => by
      exact absurd hj (Nat.not_lt_zero _)
    have ea : actOf (sl T p (wE T p)) = nI 0 := aNm_at (k := 0) 12 0 hd (by rw [q0]; exact nm_wd ⟨0, by decide⟩) (by decide)
    have er : rdA T p = rd1 T (wE T p) 0 0 3 := (eR _ ea).trans rfl
    refine pq_call (r_ruleText (e := wE T p) (a := 1) (k := 0) hM2 hT2 h122 (by decide) kt_0 kt_3 (by omega) (fun ok => ⟨_, rfl, fun μ hμ => MC_0 hμ (k3_of ⟨by rw [nV_t]; exact ok.2.2.1, by rw [nV_t]; exact ok.2.2.2⟩)⟩)) (fun y hy => fin hK2 hy er)
  have q0 := of_decide_eq_false q0
  have hT2 : TP9 σ2 T p := by rw [if_neg q0] at hTT2; exact hTT2
  have n0 : sl T p (wE T p) ≠ nmL.getD (0 + 0) [] := fun z => q0 (z.trans (nm_wd ⟨0, by decide⟩).symm)
  refine pq_call (r_hasP (t := 4) (by decide) hpp hT2 h122 hM2) (fun y hy => ?_)
  obtain ⟨σ3, rfl, hTT3, h123, hX3, hM3⟩ := hy
  have hK3 := frx_tr hK2 hX3
  refine if_01 (fun q1 => ?_) (fun q1 => ?_)
  rotate_left
  · have q1 := of_decide_eq_true q1
    have hT3 : TP9 σ3 T (wE T p) := by rw [if_pos q1] at hTT3; exact hTT3
    have hd : ∀ j, j < 1 → sl T p (wE T p) ≠ nmL.getD (0 + j) [] := fun j hj => by
      rcases (by omega : j = 0) with e
      · rw [e]; exact n0
    have ea : actOf (sl T p (wE T p)) = nI 1 := aNm_at (k := 1) 12 0 hd (by rw [q1]; exact nm_wd ⟨1, by decide⟩) (by decide)
    have er : rdA T p = rd1 T (wE T p) 1 0 3 := (eR _ ea).trans rfl
    refine pq_call (r_ruleText (e := wE T p) (a := 2) (k := 1) hM3 hT3 h123 (by decide) kt_0 kt_3 (by omega) (fun ok => ⟨_, rfl, fun μ hμ => MC_1 hμ (Or.inr (k3_of ⟨by rw [nV_t]; exact ok.2.2.1, by rw [nV_t]; exact ok.2.2.2⟩))⟩)) (fun y hy => fin hK3 hy er)
  have q1 := of_decide_eq_false q1
  have hT3 : TP9 σ3 T p := by rw [if_neg q1] at hTT3; exact hTT3
  have n1 : sl T p (wE T p) ≠ nmL.getD (0 + 1) [] := fun z => q1 (z.trans (nm_wd ⟨1, by decide⟩).symm)
  refine pq_call (r_hasP (t := 5) (by decide) hpp hT3 h123 hM3) (fun y hy => ?_)
  obtain ⟨σ4, rfl, hTT4, h124, hX4, hM4⟩ := hy
  have hK4 := frx_tr hK3 hX4
  refine if_01 (fun q2 => ?_) (fun q2 => ?_)
  rotate_left
  · have q2 := of_decide_eq_true q2
    have hT4 : TP9 σ4 T (wE T p) := by rw [if_pos q2] at hTT4; exact hTT4
    have hd : ∀ j, j < 2 → sl T p (wE T p) ≠ nmL.getD (0 + j) [] := fun j hj => by
      rcases (by omega : j = 0 ∨ j = 1) with e | e
      · rw [e]; exact n0
      · rw [e]; exact n1
    have ea : actOf (sl T p (wE T p)) = nI 2 := aNm_at (k := 2) 12 0 hd (by rw [q2]; exact nm_wd ⟨2, by decide⟩) (by decide)
    have er : rdA T p = .inr (2, 0, 0, [], wE T p) := (eR _ ea).trans rfl
    refine pq_call (r_rules (a := 2) (x := (-1)) hM4 (by decide) (MC_1 hM4.1.2.1 (Or.inl rfl))) (fun y hy => fin hK4 (md_of (z := (2, 0, 0, [], wE T p)) frx_rfl hT4 h124 hy) er)
  have q2 := of_decide_eq_false q2
  have hT4 : TP9 σ4 T p := by rw [if_neg q2] at hTT4; exact hTT4
  have n2 : sl T p (wE T p) ≠ nmL.getD (0 + 2) [] := fun z => q2 (z.trans (nm_wd ⟨2, by decide⟩).symm)
  refine pq_call (r_hasP (t := 6) (by decide) hpp hT4 h124 hM4) (fun y hy => ?_)
  obtain ⟨σ5, rfl, hTT5, h125, hX5, hM5⟩ := hy
  have hK5 := frx_tr hK4 hX5
  refine if_01 (fun q3 => ?_) (fun q3 => ?_)
  rotate_left
  · have q3 := of_decide_eq_true q3
    have hT5 : TP9 σ5 T (wE T p) := by rw [if_pos q3] at hTT5; exact hTT5
    have hd : ∀ j, j < 3 → sl T p (wE T p) ≠ nmL.getD (0 + j) [] := fun j hj => by
      rcases (by omega : j = 0 ∨ j = 1 ∨ j = 2) with e | e | e
      · rw [e]; exact n0
      · rw [e]; exact n1
      · rw [e]; exact n2
    have ea : actOf (sl T p (wE T p)) = nI 3 := aNm_at (k := 3) 12 0 hd (by rw [q3]; exact nm_wd ⟨3, by decide⟩) (by decide)
    have er : rdA T p = .inr (3, 0, 0, [], wE T p) := (eR _ ea).trans rfl
    refine pq_call (r_rules (a := 3) (x := 1) hM5 (by decide) (MC_2 hM5.1.2.1 (Or.inr rfl))) (fun y hy => fin hK5 (md_of (z := (3, 0, 0, [], wE T p)) frx_rfl hT5 h125 hy) er)
  have q3 := of_decide_eq_false q3
  have hT5 : TP9 σ5 T p := by rw [if_neg q3] at hTT5; exact hTT5
  have n3 : sl T p (wE T p) ≠ nmL.getD (0 + 3) [] := fun z => q3 (z.trans (nm_wd ⟨3, by decide⟩).symm)
  refine pq_call (r_hasP (t := 7) (by decide) hpp hT5 h125 hM5) (fun y hy => ?_)
  obtain ⟨σ6, rfl, hTT6, h126, hX6, hM6⟩ := hy
  have hK6 := frx_tr hK5 hX6
  refine if_01 (fun q4 => ?_) (fun q4 => ?_)
  rotate_left
  · have q4 := of_decide_eq_true q4
    have hT6 : TP9 σ6 T (wE T p) := by rw [if_pos q4] at hTT6; exact hTT6
    have hd : ∀ j, j < 4 → sl T p (wE T p) ≠ nmL.getD (0 + j) [] := fun j hj => by
      rcases (by omega : j = 0 ∨ j = 1 ∨ j = 2 ∨ j = 3) with e | e | e | e
      · rw [e]; exact n0
      · rw [e]; exact n1
      · rw [e]; exact n2
      · rw [e]; exact n3
    have ea : actOf (sl T p (wE T p)) = nI 4 := aNm_at (k := 4) 12 0 hd (by rw [q4]; exact nm_wd ⟨4, by decide⟩) (by decide)
    have er : rdA T p = .inr (4, 0, 0, [], wE T p) := (eR _ ea).trans rfl
    refine pq_call (r_rules (a := 3) (x := 0) hM6 (by decide) (MC_2 hM6.1.2.1 (Or.inl rfl))) (fun y hy => fin hK6 (md_of (z := (4, 0, 0, [], wE T p)) frx_rfl hT6 h126 hy) er)
  have q4 := of_decide_eq_false q4
  have hT6 : TP9 σ6 T p := by rw [if_neg q4] at hTT6; exact hTT6
  have n4 : sl T p (wE T p) ≠ nmL.getD (0 + 4) [] := fun z => q4 (z.trans (nm_wd ⟨4, by decide⟩).symm)
  refine pq_call (r_hasP (t := 8) (by decide) hpp hT6 h126 hM6) (fun y hy => ?_)
  obtain ⟨σ7, rfl, hTT7, h127, hX7, hM7⟩ := hy
  have hK7 := frx_tr hK6 hX7
  refine if_01 (fun q5 => ?_) (fun q5 => ?_)
  rotate_left
  · have q5 := of_decide_eq_true q5
    have hT7 : TP9 σ7 T (wE T p) := by rw [if_pos q5] at hTT7; exact hTT7
    have hd : ∀ j, j < 5 → sl T p (wE T p) ≠ nmL.getD (0 + j) [] := fun j hj => by
      rcases (by omega : j = 0 ∨ j = 1 ∨ j = 2 ∨ j = 3 ∨ j = 4) with e | e | e | e | e
      · rw [e]; exact n0
      · rw [e]; exact n1
      · rw [e]; exact n2
      · rw [e]; exact n3
      · rw [e]; exact n4
    have ea : actOf (sl T p (wE T p)) = nI 5 := aNm_at (k := 5) 12 0 hd (by rw [q5]; exact nm_wd ⟨5, by decide⟩) (by decide)
    have er : rdA T p = rd1 T (wE T p) 5 1 40 := (eR _ ea).trans rfl
    refine pq_call (r_ruleText (e := wE T p) (a := 4) (k := 5) hM7 hT7 h127 (by decide) kt_1 kt_40 (by omega) (fun ok => ⟨_, rfl, fun μ hμ => ?_⟩)) (fun y hy => fin hK7 hy er)
    have o1 : 1 ≤ (nV T (wE T p)).toInt := by rw [nV_t]; exact ok.2.2.1
    have o2 : (nV T (wE T p)).toInt ≤ 40 := by rw [nV_t]; exact ok.2.2.2
    have hmc := MC_3 (n := (nV T (wE T p)).toInt.toNat) hμ (by omega)
    rw [← nI_x (x := nV T (wE T p)) (by omega) (by omega)] at hmc
    exact hmc
  have q5 := of_decide_eq_false q5
  have hT7 : TP9 σ7 T p := by rw [if_neg q5] at hTT7; exact hTT7
  have n5 : sl T p (wE T p) ≠ nmL.getD (0 + 5) [] := fun z => q5 (z.trans (nm_wd ⟨5, by decide⟩).symm)
  refine pq_call (r_hasP (t := 9) (by decide) hpp hT7 h127 hM7) (fun y hy => ?_)
  obtain ⟨σ8, rfl, hTT8, h128, hX8, hM8⟩ := hy
  have hK8 := frx_tr hK7 hX8
  refine if_01 (fun q6 => ?_) (fun q6 => ?_)
  rotate_left
  · have q6 := of_decide_eq_true q6
    have hT8 : TP9 σ8 T (wE T p) := by rw [if_pos q6] at hTT8; exact hTT8
    have hd : ∀ j, j < 6 → sl T p (wE T p) ≠ nmL.getD (0 + j) [] := fun j hj => by
      rcases (by omega : j = 0 ∨ j = 1 ∨ j = 2 ∨ j = 3 ∨ j = 4 ∨ j = 5) with e | e | e | e | e | e
      · rw [e]; exact n0
      · rw [e]; exact n1
      · rw [e]; exact n2
      · rw [e]; exact n3
      · rw [e]; exact n4
      · rw [e]; exact n5
    have ea : actOf (sl T p (wE T p)) = nI 6 := aNm_at (k := 6) 12 0 hd (by rw [q6]; exact nm_wd ⟨6, by decide⟩) (by decide)
    have er : rdA T p = rdW T (wE T p) := (eR _ ea).trans rfl
    exact pq_call (r_lockText (e := wE T p) hM8 hT8 h128) (fun y hy => fin hK8 hy er)
  have q6 := of_decide_eq_false q6
  have hT8 : TP9 σ8 T p := by rw [if_neg q6] at hTT8; exact hTT8
  have n6 : sl T p (wE T p) ≠ nmL.getD (0 + 6) [] := fun z => q6 (z.trans (nm_wd ⟨6, by decide⟩).symm)
  refine pq_call (r_hasP (t := 10) (by decide) hpp hT8 h128 hM8) (fun y hy => ?_)
  obtain ⟨σ9, rfl, hTT9, h129, hX9, hM9⟩ := hy
  have hK9 := frx_tr hK8 hX9
  refine if_01 (fun q7 => ?_) (fun q7 => ?_)
  rotate_left
  · have q7 := of_decide_eq_true q7
    have hT9 : TP9 σ9 T (wE T p) := by rw [if_pos q7] at hTT9; exact hTT9
    have hd : ∀ j, j < 7 → sl T p (wE T p) ≠ nmL.getD (0 + j) [] := fun j hj => by
      rcases (by omega : j = 0 ∨ j = 1 ∨ j = 2 ∨ j = 3 ∨ j = 4 ∨ j = 5 ∨ j = 6) with e | e | e | e | e | e | e
      · rw [e]; exact n0
      · rw [e]; exact n1
      · rw [e]; exact n2
      · rw [e]; exact n3
      · rw [e]; exact n4
      · rw [e]; exact n5
      · rw [e]; exact n6
    have ea : actOf (sl T p (wE T p)) = nI 7 := aNm_at (k := 7) 12 0 hd (by rw [q7]; exact nm_wd ⟨7, by decide⟩) (by decide)
    have er : rdA T p = .inr (7, 0, 0, [], wE T p) := (eR _ ea).trans rfl
    exact pq_call (r_unlocks hM9) (fun y hy => fin hK9 (md_of (z := (7, 0, 0, [], wE T p)) frx_rfl hT9 h129 hy) er)
  have q7 := of_decide_eq_false q7
  have hT9 : TP9 σ9 T p := by rw [if_neg q7] at hTT9; exact hTT9
  have n7 : sl T p (wE T p) ≠ nmL.getD (0 + 7) [] := fun z => q7 (z.trans (nm_wd ⟨7, by decide⟩).symm)
  refine pq_call (r_hasP (t := 11) (by decide) hpp hT9 h129 hM9) (fun y hy => ?_)
  obtain ⟨σ10, rfl, hTT10, h1210, hX10, hM10⟩ := hy
  have hK10 := frx_tr hK9 hX10
  refine if_01 (fun q8 => ?_) (fun q8 => ?_)
  rotate_left
  · have q8 := of_decide_eq_true q8
    have hT10 : TP9 σ10 T (wE T p) := by rw [if_pos q8] at hTT10; exact hTT10
    have hd : ∀ j, j < 8 → sl T p (wE T p) ≠ nmL.getD (0 + j) [] := fun j hj => by
      rcases (by omega : j = 0 ∨ j = 1 ∨ j = 2 ∨ j = 3 ∨ j = 4 ∨ j = 5 ∨ j = 6 ∨ j = 7) with e | e | e | e | e | e | e | e
      · rw [e]; exact n0
      · rw [e]; exact n1
      · rw [e]; exact n2
      · rw [e]; exact n3
      · rw [e]; exact n4
      · rw [e]; exact n5
      · rw [e]; exact n6
      · rw [e]; exact n7
    have ea : actOf (sl T p (wE T p)) = nI 8 := aNm_at (k := 8) 12 0 hd (by rw [q8]; exact nm_wd ⟨8, by decide⟩) (by decide)
    have er : rdA T p = rd1 T (wE T p) 8 0 39 := (eR _ ea).trans rfl
    exact pq_call (r_pieceText (e := wE T p) (b := true) hM10 hS hT10 h1210) (fun y hy => fin hK10 hy er)
  have q8 := of_decide_eq_false q8
  have hT10 : TP9 σ10 T p := by rw [if_neg q8] at hTT10; exact hTT10
  have n8 : sl T p (wE T p) ≠ nmL.getD (0 + 8) [] := fun z => q8 (z.trans (nm_wd ⟨8, by decide⟩).symm)
  refine pq_call (r_hasP (t := 12) (by decide) hpp hT10 h1210 hM10) (fun y hy => ?_)
  obtain ⟨σ11, rfl, hTT11, h1211, hX11, hM11⟩ := hy
  have hK11 := frx_tr hK10 hX11
  refine if_01 (fun q9 => ?_) (fun q9 => ?_)
  rotate_left
  · have q9 := of_decide_eq_true q9
    have hT11 : TP9 σ11 T (wE T p) := by rw [if_pos q9] at hTT11; exact hTT11
    have hd : ∀ j, j < 9 → sl T p (wE T p) ≠ nmL.getD (0 + j) [] := fun j hj => by
      rcases (by omega : j = 0 ∨ j = 1 ∨ j = 2 ∨ j = 3 ∨ j = 4 ∨ j = 5 ∨ j = 6 ∨ j = 7 ∨ j = 8) with e | e | e | e | e | e | e | e | e
      · rw [e]; exact n0
      · rw [e]; exact n1
      · rw [e]; exact n2
      · rw [e]; exact n3
      · rw [e]; exact n4
      · rw [e]; exact n5
      · rw [e]; exact n6
      · rw [e]; exact n7
      · rw [e]; exact n8
    have ea : actOf (sl T p (wE T p)) = nI 9 := aNm_at (k := 9) 12 0 hd (by rw [q9]; exact nm_wd ⟨9, by decide⟩) (by decide)
    have er : rdA T p = rd1 T (wE T p) 9 0 39 := (eR _ ea).trans rfl
    exact pq_call (r_pieceText (e := wE T p) (b := false) hM11 hS hT11 h1211) (fun y hy => fin hK11 hy er)
  have q9 := of_decide_eq_false q9
  have hT11 : TP9 σ11 T p := by rw [if_neg q9] at hTT11; exact hTT11
  have n9 : sl T p (wE T p) ≠ nmL.getD (0 + 9) [] := fun z => q9 (z.trans (nm_wd ⟨9, by decide⟩).symm)
  refine pq_call (r_hasP (t := 13) (by decide) hpp hT11 h1211 hM11) (fun y hy => ?_)
  obtain ⟨σ12, rfl, hTT12, h1212, hX12, hM12⟩ := hy
  have hK12 := frx_tr hK11 hX12
  refine if_01 (fun q10 => ?_) (fun q10 => ?_)
  rotate_left
  · have q10 := of_decide_eq_true q10
    have hT12 : TP9 σ12 T (wE T p) := by rw [if_pos q10] at hTT12; exact hTT12
    have hd : ∀ j, j < 10 → sl T p (wE T p) ≠ nmL.getD (0 + j) [] := fun j hj => by
      rcases (by omega : j = 0 ∨ j = 1 ∨ j = 2 ∨ j = 3 ∨ j = 4 ∨ j = 5 ∨ j = 6 ∨ j = 7 ∨ j = 8 ∨ j = 9) with e | e | e | e | e | e | e | e | e | e
      · rw [e]; exact n0
      · rw [e]; exact n1
      · rw [e]; exact n2
      · rw [e]; exact n3
      · rw [e]; exact n4
      · rw [e]; exact n5
      · rw [e]; exact n6
      · rw [e]; exact n7
      · rw [e]; exact n8
      · rw [e]; exact n9
    have ea : actOf (sl T p (wE T p)) = nI 10 := aNm_at (k := 10) 12 0 hd (by rw [q10]; exact nm_wd ⟨10, by decide⟩) (by decide)
    have er : rdA T p = rd2 T (wE T p) := (eR _ ea).trans rfl
    exact pq_call (r_swapText (e := wE T p) hM12 hS hT12 h1212) (fun y hy => fin hK12 hy er)
  have q10 := of_decide_eq_false q10
  have hT12 : TP9 σ12 T p := by rw [if_neg q10] at hTT12; exact hTT12
  have n10 : sl T p (wE T p) ≠ nmL.getD (0 + 10) [] := fun z => q10 (z.trans (nm_wd ⟨10, by decide⟩).symm)
  refine pq_call (r_hasP (t := 14) (by decide) hpp hT12 h1212 hM12) (fun y hy => ?_)
  obtain ⟨σ13, rfl, hTT13, h1213, hX13, hM13⟩ := hy
  have hK13 := frx_tr hK12 hX13
  refine if_01 (fun q11 => ?_) (fun q11 => ?_)
  rotate_left
  · have q11 := of_decide_eq_true q11
    have hT13 : TP9 σ13 T (wE T p) := by rw [if_pos q11] at hTT13; exact hTT13
    have hd : ∀ j, j < 11 → sl T p (wE T p) ≠ nmL.getD (0 + j) [] := fun j hj => by
      rcases (by omega : j = 0 ∨ j = 1 ∨ j = 2 ∨ j = 3 ∨ j = 4 ∨ j = 5 ∨ j = 6 ∨ j = 7 ∨ j = 8 ∨ j = 9 ∨ j = 10) with e | e | e | e | e | e | e | e | e | e | e
      · rw [e]; exact n0
      · rw [e]; exact n1
      · rw [e]; exact n2
      · rw [e]; exact n3
      · rw [e]; exact n4
      · rw [e]; exact n5
      · rw [e]; exact n6
      · rw [e]; exact n7
      · rw [e]; exact n8
      · rw [e]; exact n9
      · rw [e]; exact n10
    have ea : actOf (sl T p (wE T p)) = nI 11 := aNm_at (k := 11) 12 0 hd (by rw [q11]; exact nm_wd ⟨11, by decide⟩) (by decide)
    have er : rdA T p = .inr (11, 0, 0, [], wE T p) := (eR _ ea).trans rfl
    exact pq_call (r_wipe0 hM13 hS) (fun y hy => fin hK13 (md_of (z := (11, 0, 0, [], wE T p)) frx_rfl hT13 h1213 hy) er)
  have q11 := of_decide_eq_false q11
  have hT13 : TP9 σ13 T p := by rw [if_neg q11] at hTT13; exact hTT13
  have n11 : sl T p (wE T p) ≠ nmL.getD (0 + 11) [] := fun z => q11 (z.trans (nm_wd ⟨11, by decide⟩).symm)
  have hd : ∀ j, j < 12 → sl T p (wE T p) ≠ nmL.getD (0 + j) [] := fun j hj => by
    rcases (by omega : j = 0 ∨ j = 1 ∨ j = 2 ∨ j = 3 ∨ j = 4 ∨ j = 5 ∨ j = 6 ∨ j = 7 ∨ j = 8 ∨ j = 9 ∨ j = 10 ∨ j = 11) with e | e | e | e | e | e | e | e | e | e | e | e
    · rw [e]; exact n0
    · rw [e]; exact n1
    · rw [e]; exact n2
    · rw [e]; exact n3
    · rw [e]; exact n4
    · rw [e]; exact n5
    · rw [e]; exact n6
    · rw [e]; exact n7
    · rw [e]; exact n8
    · rw [e]; exact n9
    · rw [e]; exact n10
    · rw [e]; exact n11
  have ea : actOf (sl T p (wE T p)) = -1 := aNm_no 12 0 hd
  have er : rdA T p = .inl p := (eR _ ea).trans rfl
  refine pq_isr (r_wrong h1213) (fin (y := (0, rSf σ13 12 (nI p))) (r := .inl p) hK13 ⟨⟨fun _ _ => rfl, fun k hk => sf_ne (fun q => hk (Or.inr (Or.inl q)))⟩, hp4, sf_eq⟩ er)
end RDO
