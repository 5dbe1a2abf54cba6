section TELL2
variable {σ : RS9}
/-- an act's answer -/
def AQ (σ : RS9) (w : Int32) (σ' : RS9) : Prop := (w ≤ 0 → CORE σ') ∧ FA σ σ'
theorem q1_esc {p i n : Nat} {β : Type} {Q : β → RS9 → Prop} {k : Int32 × RS9 → Option (β × RS9)} (hB : BA p σ σ) (hi : i < p) (hn : n ≤ 60) (h : ∀ v s, mX9_escapedFor (nI i) (nI n) σ = some (v, s) → FW σ s → P1 (k (v, s)) Q) : P1 ((mX9_escapedFor (nI i) (nI n) σ).bind k) Q := by
  obtain ⟨v, s, e, hq⟩ := p1_of (t2_escapedFor hB hi hn (fun _ _ => rfl))
  have h2 := h v s e hq.2.1
  rw [e]; exact h2
theorem a_holdsTold {p i n : Nat} (hB : BA p σ σ) (hi : i < p) (hn : n ≤ 60) (ht : σ.2 1 (443 + 61 * i) = nI n) : P1 (mX9_holdsTold (nI i) σ) (fun w σ' => FX σ σ') := by
  have hp := hB.2.2.2.2.1
  unfold mX9_holdsTold
  exact q1_tail (p1_of (t2_holdsTold_l2 hi hp hn ht rFU 0 σ σ hB (fun _ _ _ => rfl) ⟨fun _ _ _ _ => rfl, fun _ _ => rfl⟩ ⟨fun _ _ _ _ => rfl, fun _ _ => rfl⟩ (fun j hj => absurd hj (by omega)) (by omega) (by unfold rFU; omega))) (fun w s h => h.1)
theorem e600 : (600 : Int32).toInt = 600 := by decide
theorem a_tell0 (hC : CORE σ) {x : Int32} {n : Nat} (hn : n ≤ 60) : P1 (mX9_tell0 x (nI n) σ) (AQ σ) := by
  obtain ⟨p, M, hP, hB, -⟩ := core_x hC
  have hp := hP.2.1
  unfold mX9_tell0
  refine q1_ro (o_isPieceThere hP) (fun y hy => ?_)
  dsimp only
  refine q1_eq (fun _ => q1_ret ⟨fun e => absurd e (by decide), fa_r σ⟩) (fun q => ?_)
  have hx := hy.2 q
  obtain ⟨i, hi, hxi⟩ : ∃ i : Nat, i < p ∧ x = nI i := ⟨x.toInt.toNat, by omega, nI_x hx.1 (by omega)⟩
  subst hxi
  refine q1_esc hB hi hn (fun v s he hs => ?_)
  dsimp only
  refine q1_eq (fun _ => q1_ret ⟨fun e => absurd e (by decide), fa_w hs⟩) (fun hv => ?_)
  refine q1_call (a_tells (σ := s) (by omega) hn) (fun w s2 hT2 => ?_)
  dsimp only
  obtain ⟨hTV, hNN⟩ := nn_tell ⟨hC.1, hC.2.1⟩ (core_nn hC) hB hi hn he hv hs hT2
  have fa2 : FA σ s2 := fa_tr (fa_w hs) (fa_tld hT2)
  refine q1_call (a_builtMany hTV hNN) (fun w3 s3 h3 => ?_)
  dsimp only
  refine q1_le rfl e600 (fun q6 => ?_) (fun _ => q1_ret ⟨fun e => absurd e (by decide), fa_tr fa2 (fa_x h3.1)⟩)
  have hC3 := h3.2 q6
  obtain ⟨p3, M3, hP3, hB3, -⟩ := core_x hC3
  have e33 : s3.1 33 = nI p := (h3.1.2 33 (by decide)).trans ((hT2.2.1 33).trans ((hs.2 33 (by decide)).trans hP.1))
  have ep : p3 = p := nI_inj (by have := hP3.2.1; omega) (by omega) (hP3.1.symm.trans e33)
  subst ep
  have ht3 : s3.2 1 (443 + 61 * i) = nI n := by rw [h3.1.1 1 (by decide) (by decide) (by decide)]; exact hT2.2.2.1
  refine q1_call (a_holdsTold hB3 hi hn ht3) (fun w4 s4 h4 => ?_)
  dsimp only
  have hC4 := core_x9 hC3 h4
  obtain ⟨p4, M4, hP4, -⟩ := core_x hC4
  have ep4 : p4 = p3 := nI_inj (by have := hP4.2.1; omega) (by omega) (hP4.1.symm.trans ((h4.2 33 (by decide)).trans hP3.1))
  subst ep4
  refine q1_call (a_remembersPair hC4 hP4 hi hn) (fun w5 s5 h5 => ?_)
  exact q1_ret ⟨fun _ => h5.1, fa_tr fa2 (fa_tr (fa_x h3.1) (fa_tr (fa_x h4) h5.2))⟩
theorem a_free0 (hC : CORE σ) {x : Int32} : P1 (mX9_free0 x σ) (AQ σ) := by
  obtain ⟨p, M, hP, hB, -⟩ := core_x hC
  have hp := hP.2.1
  unfold mX9_free0
  refine q1_ro (o_isPieceThere hP) (fun y hy => ?_)
  dsimp only
  refine q1_eq (fun _ => q1_ret ⟨fun e => absurd e (by decide), fa_r σ⟩) (fun q => ?_)
  have hx := hy.2 q
  obtain ⟨i, hi, hxi⟩ : ∃ i : Nat, i < p ∧ x = nI i := ⟨x.toInt.toNat, by omega, nI_x hx.1 (by omega)⟩
  subst hxi
  refine q1_ro (o_toldOf hP hx) (fun z _ => ?_)
  dsimp only
  refine q1_eq (fun _ => q1_ret ⟨fun e => absurd e (by decide), fa_r σ⟩) (fun _ => ?_)
  rw [told_ix]
  refine q1_ck (cr1 (by omega)) ?_
  have r : ∀ j, (rSa σ 1 (nI (443 + 61 * i)) (-1)).2 1 j = if j = 443 + 61 * i then -1 else σ.2 1 j := fun j => sa_nI (by omega)
  have hTV : TV (rSa σ 1 (nI (443 + 61 * i)) (-1)) := by
    obtain ⟨v1, v2, v3, v4, v5, v6, v7⟩ := id hC.1
    refine ⟨⟨by rw [r, if_neg (by omega)]; exact v1, by rw [r, if_neg (by omega)]; exact v2, by rw [r, if_neg (by omega)]; exact v3, by rw [r, if_neg (by omega)]; exact v4, fun k hk => ?_, fun k hk => by rw [r, if_neg (by omega)]; exact v6 k hk, fun l hl => by rw [r, if_neg (by omega)]; exact v7 l hl⟩, tab_m hC.1 hC.2.1 (fun j hj _ => by rw [r, if_neg (by omega)]) (fun k a b => sa_ne (by omega)) rfl rfl⟩
    rw [r]
    by_cases e : 443 + 61 * k = 443 + 61 * i
    · rw [if_pos e, kt_m1]; omega
    · rw [if_neg e]; exact v5 k hk
  have hNN : NN (rSa σ 1 (nI (443 + 61 * i)) (-1)) := fun p' e h4 k hk => by
    have ep : p' = p := nI_inj (by omega) (by omega) (e.symm.trans hP.1)
    subst ep
    have hB2 : BA p' σ (rSa σ 1 (nI (443 + 61 * i)) (-1)) := tv_ba hB (fun j hj _ => by rw [r, if_neg (by omega)]) (fun k a b => sa_ne (by omega)) rfl
    by_cases hki : k = i
    · obtain ⟨b1, b2, b3, b4, b5, b6⟩ := hB2
      have hBs : BA p' (rSa σ 1 (nI (443 + 61 * i)) (-1)) (rSa σ 1 (nI (443 + 61 * i)) (-1)) := ⟨fun _ _ _ => rfl, hTV.1, b4, b4, b5, fun j hj => ⟨⟨rfl, rfl, rfl, rfl, rfl⟩, by obtain ⟨⟨c1, c2, -⟩, c3⟩ := b6 j hj; rw [c1, c2]; exact c3⟩⟩
      have h1 := (bo_eq hBs hk (fun _ _ _ => rfl)).2.2.2 (by rw [r, if_pos (by omega)])
      have h2 := (hBs.2.2.2.2.2 k hk).2
      omega
    · rw [(bo_eq hB2 hk (fun j a b => by rw [r, if_neg (by omega)])).1]
      exact core_nn hC p' hP.1 h4 k hk
  refine q1_call (a_builtMany hTV hNN) (fun w3 s3 h3 => ?_)
  have fa3 : FA σ s3 := fa_tr fa_m (fa_x h3.1)
  exact q1_le rfl e600 (fun q6 => q1_ret ⟨fun _ => h3.2 q6, fa3⟩) (fun _ => q1_ret ⟨fun e => absurd e (by decide), fa3⟩)
/-- what stays while several are told -/
theorem cp_tv {p : Nat} {u : RS9} (hP : CP p σ) (hV : VM9 (u.2 1)) (hr : ∀ k, 34 ≤ k → k ≤ 42 → u.2 k = σ.2 k) (h33 : u.1 33 = σ.1 33) : CP p u := by
  obtain ⟨c1, c2, c3, c4⟩ := hP
  refine ⟨h33.trans c1, c2, hV, fun i hi => ?_⟩
  rw [hr 34 (by decide) (by decide), hr 35 (by decide) (by decide), hr 41 (by decide) (by decide), hr 42 (by decide) (by decide)]
  exact c4 i hi
theorem a_spread0 (hC : CORE σ) {x : Int32} : P1 (mX9_spread0 x σ) (AQ σ) := by
  have hC0 : CORE (rSf σ 57 0) := core_fr hC rfl (fun _ _ _ => rfl) (sf_ne (by decide)) (sf_ne (by decide))
  have fa0 : FA σ (rSf σ 57 0) := ⟨fun _ _ => rfl, fun k hk => sf_ne (by omega)⟩
  obtain ⟨p, M, hP, hB, -⟩ := core_x hC0
  have hp := hP.2.1
  unfold mX9_spread0
  refine q1_ro (o_isPieceThere hP) (fun y hy => ?_)
  dsimp only
  refine q1_eq (fun _ => q1_ret ⟨fun e => absurd e (by decide), fa0⟩) (fun q => ?_)
  have hx := hy.2 q
  obtain ⟨i, hi, hxi⟩ : ∃ i : Nat, i < p ∧ x = nI i := ⟨x.toInt.toNat, by omega, nI_x hx.1 (by omega)⟩
  refine q1_ro (o_toldOf hP hx) (fun z hz => ?_)
  dsimp only
  refine q1_eq (fun _ => q1_ret ⟨fun e => absurd e (by decide), fa0⟩) (fun hne => ?_)
  refine q1_ro (o_toldOf hP hx) (fun z2 hz2 => ?_)
  dsimp only
  have ezz : z2 = z := hz2.1.trans hz.1.symm
  subst ezz
  have hz0 : z2.toInt ≠ -1 := fun e => hne (Int32.toInt_inj.mp (e.trans kt_m1.symm))
  obtain ⟨n, hn6, hn⟩ := nI_back (x := z2) (by omega) (by omega)
  have hn60 : n ≤ 60 := by have := hz2.2.2; rw [hn, nI_toInt (by omega)] at this; omega
  have hxt : x.toInt.toNat = i := by rw [hxi, nI_toInt (by omega)]; rfl
  have ht : (rSf σ 57 0).2 1 (443 + 61 * i) = nI n := by
    have := hz2.1
    rw [hxt] at this
    exact this.symm.trans hn
  rw [hxi, hn]
  refine q1_call (a_holdsTold hB hi hn60 ht) (fun w s hs => ?_)
  dsimp only
  let OK : RS9 → Prop := fun u => TV u ∧ NN u ∧ FA σ u ∧ (∀ k, 34 ≤ k → k ≤ 42 → u.2 k = σ.2 k) ∧ u.1 33 = nI p
  have key : ∀ (d k : Nat) (u : RS9), OK u → k ≤ p → 100 < k + d → P1 (mX9_spread0_l39 d (nI i) (nI n) (nI k) u) (AQ σ) := by
    intro d
    induction d with
    | zero => intro k u _ hk hm; exfalso; omega
    | succ d ih =>
      intro k u hu hk hm
      obtain ⟨uT, uN, uF, uR, u33⟩ := hu
      have ek : (nI k).toInt = (k : Int) := nI_toInt (by omega)
      have ei : (nI i).toInt = (i : Int) := nI_toInt (by omega)
      have ep : (u.1 33).toInt = (p : Int) := by rw [u33]; exact nI_toInt (by omega)
      have hPu : CP p u := cp_tv hP uT.1 (fun z a b => uR z a b) (u33.trans hP.1.symm)
      obtain ⟨p', hB'⟩ := tab_ba uT.1 uT.2
      have epp : p' = p := nI_inj (by have := hB'.2.2.2.2.1; omega) (by omega) (hB'.2.2.1.symm.trans u33)
      subst epp
      unfold mX9_spread0_l39
      refine q1_le ep ek (fun _ => ?_) (fun q2 => ?_)
      · refine q1_call (a_builtMany uT uN) (fun w3 s3 h3 => ?_)
        have fa3 : FA σ s3 := fa_tr uF (fa_x h3.1)
        exact q1_le rfl e600 (fun q6 => q1_ret ⟨fun _ => h3.2 q6, fa3⟩) (fun _ => q1_ret ⟨fun e => absurd e (by decide), fa3⟩)
      · refine q1_ro (o_areLike hPu (by rw [ei]; omega) (by rw [ek]; omega)) (fun y _ => ?_)
        dsimp only
        have nx : ∀ s2, OK s2 → P1 (mX9_spread0_b92 (fun v1 v2 v3 σ => mX9_spread0_l39 d v1 v2 v3 σ) (nI i) (nI n) (nI k) s2) (AQ σ) := fun s2 h2 => by
          unfold mX9_spread0_b92
          rw [nI_1]
          exact ih (k + 1) s2 h2 (by omega) (by omega)
        refine q1_eq (fun _ => nx u ⟨uT, uN, uF, uR, u33⟩) (fun _ => ?_)
        refine q1_eq (fun _ => nx u ⟨uT, uN, uF, uR, u33⟩) (fun _ => ?_)
        refine q1_esc hB' (show k < p' by omega) hn60 (fun v s2 he hs2 => ?_)
        dsimp only
        refine q1_eq (fun _ => q1_ret ⟨fun e => absurd e (by decide), fa_tr uF (fa_w hs2)⟩) (fun hv => ?_)
        refine q1_call (a_tells (σ := s2) (by omega) hn60) (fun w s3 hT3 => ?_)
        dsimp only
        obtain ⟨hTV, hNN⟩ := nn_tell uT uN hB' (show k < p' by omega) hn60 he hv hs2 hT3
        have f3 : FA σ s3 := fa_tr uF (fa_tr (fa_w hs2) (fa_tld hT3))
        refine nx _ ⟨⟨hTV.1, tab_m hTV.1 hTV.2 (fun _ _ _ => rfl) (fun _ _ _ => rfl) (sf_ne (by decide)) (sf_ne (by decide))⟩, ?_, fa_tr f3 ⟨fun _ _ => rfl, fun k hk => sf_ne (by omega)⟩, fun z a b => (hT3.1 z (by omega)).trans ((hs2.1 z (by omega) (by omega)).trans (uR z a b)), (sf_ne (by decide)).trans ((hT3.2.1 33).trans ((hs2.2 33 (by decide)).trans u33))⟩
        intro p9 e9 h9 j hj
        obtain ⟨pp, hBB⟩ := tab_ba hTV.1 hTV.2
        have e33 : s3.1 33 = nI p9 := (sf_ne (by decide)).symm.trans e9
        have e99 : pp = p9 := nI_inj (by have := hBB.2.2.2.2.1; omega) (by omega) (hBB.2.2.1.symm.trans e33)
        subst e99
        have hB9 : BA pp s3 (rSf s3 57 (s3.1 57 + 1)) := tv_ba hBB (fun _ _ _ => rfl) (fun _ _ _ => rfl) (sf_ne (by decide))
        rw [(bo_eq hB9 hj (fun _ _ _ => rfl)).1]
        exact hNN pp e33 h9 j hj
  have hCs := core_x9 hC0 hs
  exact key rFU 0 s ⟨⟨hCs.1, hCs.2.1⟩, core_nn hCs, fa_tr fa0 (fa_x hs), fun z a b => hs.1 z (by omega) (by omega) (by omega), (hs.2 33 (by decide)).trans hP.1⟩ (by omega) (by unfold rFU; omega)
end TELL2
