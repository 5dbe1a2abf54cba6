section STO
variable {σ : RS9}
theorem good_m (hC : CORE σ) : GOOD (σ.2 1) := (tab_good hC.1 hC.2.1).mp hC.2.2
theorem ur_feed (h : RI σ) {a b c d e : Int32} : P1 (mX9_feed a b c d e σ) (fun v σ' => RI σ' ∧ (((σ.1 9).toInt + 20 ≤ 400 ∧ (σ'.1 9).toInt = (σ.1 9).toInt + 20 ∧ v = σ'.1 9) ∨ (400 < (σ.1 9).toInt + 20 ∧ σ'.1 9 = σ.1 9 ∧ v = -1))) := by
  have h9 := h.2.1
  obtain ⟨t, ht6, ht⟩ := nI_back h.2.1.1 (by omega)
  have et : (nI t).toInt = (t : Int) := nI_toInt (by omega)
  rw [ht, et] at h9
  have key : ∀ (dd k : Nat) (s : RS9), (∀ z, z ≠ 8 → s.2 z = σ.2 z) → (∀ z, z ≠ 0 → z ≠ 9 → s.1 z = σ.1 z) → s.1 9 = nI (t + k) → t + 20 ≤ 400 → k ≤ 20 → 100 < k + dd → P1 (mX9_feed_l23 dd a b c d e (nI k) s) (fun v σ' => RI σ' ∧ (σ'.1 9).toInt = (t : Int) + 20 ∧ v = σ'.1 9) := by
    intro dd
    induction dd with
    | zero => intro k s _ _ _ _ hk hm; exfalso; omega
    | succ dd ih =>
      intro k s h1 h2 h3 h4 hk hm
      have ek : (nI k).toInt = (k : Int) := nI_toInt (by omega)
      have e9 : (nI (t + k)).toInt = ((t + k : Nat) : Int) := nI_toInt (by omega)
      have nx : k < 20 → ∀ w : Int32, P1 (mX9_feed_b76 (fun v1 v2 v3 v4 v5 v6 σ => mX9_feed_l23 dd v1 v2 v3 v4 v5 v6 σ) a b c d e (nI k) w s) (fun v σ' => RI σ' ∧ (σ'.1 9).toInt = (t : Int) + 20 ∧ v = σ'.1 9) := fun hk2 w => by
        unfold mX9_feed_b76
        rw [h3]
        refine q1_ck (inb_nI (n := 400) (by omega) (by decide)) ?_
        rw [nI_1, nI_1]
        exact ih (k + 1) _ (fun z hz => (sa_ne hz).trans (h1 z hz)) (fun z z0 z9 => (sf_ne z9).trans (h2 z z0 z9)) sf_eq h4 (by omega) (by omega)
      unfold mX9_feed_l23
      refine q1_le (show (20 : Int32).toInt = 20 by decide) ek (fun q => ?_) (fun q => ?_)
      · have hk20 : k = 20 := by omega
        subst hk20
        refine q1_ret ⟨ri_fr h (fun z hz => h1 z (by omega)) (fun z hz => h2 z (by omega) (by omega)) (by rw [h3, e9]; omega), by rw [h3, e9]; omega, rfl⟩
      · refine q1_le (show (4 : Int32).toInt = 4 by decide) ek (fun _ => ?_) (fun _ => nx (by omega) _)
        refine q1_le (show (8 : Int32).toInt = 8 by decide) ek (fun _ => ?_) (fun _ => nx (by omega) _)
        refine q1_le (show (12 : Int32).toInt = 12 by decide) ek (fun _ => ?_) (fun _ => nx (by omega) _)
        exact q1_le (show (16 : Int32).toInt = 16 by decide) ek (fun _ => nx (by omega) _) (fun _ => nx (by omega) _)
  unfold mX9_feed
  have e20 : ((σ.1 9) + (20 : Int32)).toInt = (σ.1 9).toInt + 20 := i_add rfl (show (20 : Int32).toInt = 20 by decide) (by rw [ht, et]; omega)
  have et2 : (σ.1 9).toInt = (t : Int) := by rw [ht]; exact et
  refine q1_le e20 (show (400 : Int32).toInt = 400 by decide) (fun q => ?_) (fun q => ?_)
  · refine q1_tail (key rFU 0 (rSf σ 0 0) (fun _ _ => rfl) (fun z z0 _ => sf_ne z0) ((sf_ne (by decide)).trans ht) (by omega) (by omega) (by unfold rFU; omega)) (fun v s hs => ?_)
    exact ⟨hs.1, Or.inl ⟨q, by rw [et2]; exact hs.2.1, hs.2.2⟩⟩
  · exact q1_ret ⟨ri_0 h, Or.inr ⟨q, sf_ne (by decide), rfl⟩⟩
theorem ur_end (h : RI σ) {a : Int32} : P1 (mX9_end a σ) (fun v σ' => RI σ' ∧ ((0 ≤ a.toInt ∧ a.toInt ≤ (σ.1 9).toInt ∧ σ'.1 9 = a ∧ v = 1) ∨ (¬ (0 ≤ a.toInt ∧ a.toInt ≤ (σ.1 9).toInt) ∧ σ'.1 9 = σ.1 9 ∧ v = 0))) := by
  have h9 := h.2.1
  unfold mX9_end mX9_isIn
  refine q1_call (Q1 := fun v s => s = rSf σ 0 0 ∧ ((v = 1 ∧ 0 ≤ a.toInt ∧ a.toInt ≤ (σ.1 9).toInt) ∨ (v = 0 ∧ ¬ (0 ≤ a.toInt ∧ a.toInt ≤ (σ.1 9).toInt)))) ?_ (fun v s hs => ?_)
  · refine q1_lt rfl kt_0 (fun q => ?_) (fun q => ?_)
    · exact q1_ck rfl (q1_ret ⟨rfl, Or.inr ⟨rfl, by omega⟩⟩)
    · refine q1_lt rfl rfl (fun q2 => ?_) (fun q2 => ?_)
      · exact q1_ck rfl (q1_ret ⟨rfl, Or.inr ⟨rfl, by omega⟩⟩)
      · exact q1_ck rfl (q1_ret ⟨rfl, Or.inl ⟨rfl, q, q2⟩⟩)
  · obtain ⟨rfl, hv⟩ := hs
    dsimp only
    refine q1_eq (fun q => ?_) (fun q => ?_)
    · refine q1_ck rfl (q1_ret ⟨ri_0 h, Or.inr ⟨?_, sf_ne (by decide), rfl⟩⟩)
      rcases hv with hv | hv
      · rw [hv.1] at q; exact absurd q (by decide)
      · exact hv.2
    · rcases hv with hv | hv
      · refine q1_ck rfl (q1_ret ⟨?_, Or.inl ⟨hv.2.1, hv.2.2, sf_eq, rfl⟩⟩)
        exact ri_fr h (fun _ _ => rfl) (fun k hk => (sf_ne (by omega)).trans (sf_ne (by omega))) (by rw [sf_eq]; omega)
      · exact absurd hv.1 q
theorem e4347 : (4347 : Int32).toInt = 4347 := by decide
theorem ur_image (h : RI σ) : P1 (mX9_image σ) (RP (σ.1 9)) := by
  have key : ∀ (d k : Nat) (s : RS9), (∀ z, z ≠ 3 → s.2 z = σ.2 z) → (∀ i, i < k → s.2 3 i = σ.2 1 i) → (∀ z, z ≠ 0 → s.1 z = σ.1 z) → k ≤ 4347 → 5000 < k + d → P1 (mX9_image_l7 d (nI k) s) (RP (σ.1 9)) := by
    intro d
    induction d with
    | zero => intro k s _ _ _ hk hm; exfalso; omega
    | succ d ih =>
      intro k s h1 h2 h3 hk hm
      have ek : (nI k).toInt = (k : Int) := nI_toInt (by omega)
      unfold mX9_image_l7
      refine q1_le e4347 ek (fun q => ?_) (fun q => ?_)
      · have e : k = 4347 := by omega
        subst e
        refine q1_ck rfl (q1_ret ⟨⟨core_fr h.1 (h1 1 (by decide)) (fun z a b => h1 z (by omega)) ((sf_ne (by decide)).trans (h3 33 (by decide))) ((sf_ne (by decide)).trans (h3 45 (by decide))), ?_, un_fr h.2.2.1 (h1 4 (by decide)) ((sf_ne (by decide)).trans (h3 5 (by decide))), ⟨Or.inr sf_eq, fun _ => good_eq (good_m h.1) h2⟩⟩, (sf_ne (by decide)).trans (h3 9 (by decide))⟩)
        rw [sf_ne (by decide), h3 9 (by decide)]; exact h.2.1
      · rw [nI_1, rd_nI (by omega)]
        refine q1_ck (cr1 (by omega)) (q1_ck (inb_nI (n := 4347) (by omega) (by decide)) ?_)
        refine ih (k + 1) _ (fun z hz => (sa_ne hz).trans (h1 z hz)) (fun i hi => ?_) h3 (by omega) (by omega)
        rw [sa_nI (by omega)]
        by_cases e : i = k
        · rw [if_pos e, h1 1 (by decide), e]
        · rw [if_neg e]; exact h2 i (by omega)
  unfold mX9_image
  exact key rFU 0 (rSf σ 0 0) (fun _ _ => rfl) (fun i hi => absurd hi (by omega)) (fun z hz => sf_ne hz) (by omega) (by unfold rFU; omega)
/-- behind a cut of the file -/
theorem ri_b {s s' : RS9} (hF : FRB s s') (hC : CORE s') (h9 : 0 ≤ (s.1 9).toInt ∧ (s.1 9).toInt ≤ 400) (hU : UN s) (hI : IM s) : RI s' := ⟨hC, by rw [hF.2 9 (by decide) (by decide) (by decide) (by decide) (by decide) (by decide) (by decide)]; exact h9, un_fr hU (hF.1 4 (by omega)) (hF.2 5 (by decide) (by decide) (by decide) (by decide) (by decide) (by decide) (by decide)), im_fr hI (hF.1 3 (by omega)) (hF.2 6 (by decide) (by decide) (by decide) (by decide) (by decide) (by decide) (by decide))⟩
theorem ur_back (h : RI σ) : P1 (mX9_back σ) (RP (σ.1 9)) := by
  unfold mX9_back
  refine q1_eq (fun q => q1_ck rfl (q1_ret (rp_0 h))) (fun q => ?_)
  have hG := h.2.2.2.2 q
  have key : ∀ (d k : Nat) (s : RS9), (∀ z, z ≠ 1 → s.2 z = σ.2 z) → (∀ i, i < k → s.2 1 i = σ.2 3 i) → (∀ z, z ≠ 0 → s.1 z = σ.1 z) → k ≤ 4347 → 5000 < k + d → P1 (mX9_back_l16 d (nI k) s) (RP (σ.1 9)) := by
    intro d
    induction d with
    | zero => intro k s _ _ _ hk hm; exfalso; omega
    | succ d ih =>
      intro k s h1 h2 h3 hk hm
      have ek : (nI k).toInt = (k : Int) := nI_toInt (by omega)
      unfold mX9_back_l16
      refine q1_le e4347 ek (fun q => ?_) (fun q => ?_)
      · have e : k = 4347 := by omega
        subst e
        refine q1_call (cut_core (good_eq hG h2)) (fun v s2 hs => ?_)
        obtain ⟨hF, hC⟩ := hs
        dsimp only
        have g9 : s2.1 9 = σ.1 9 := (hF.2 9 (by decide) (by decide) (by decide) (by decide) (by decide) (by decide) (by decide)).trans (h3 9 (by decide))
        refine q1_ck rfl (q1_ret ⟨⟨core_fr hC rfl (fun _ _ _ => rfl) (sf_ne (by decide)) (sf_ne (by decide)), ?_, ⟨0, sf_eq, by omega, fun s hs => absurd hs (by omega)⟩, ?_⟩, (sf_ne (by decide)).trans g9⟩)
        · rw [sf_ne (by decide), g9]; exact h.2.1
        · exact im_fr h.2.2.2 ((hF.1 3 (by omega)).trans (h1 3 (by decide))) ((sf_ne (by decide)).trans ((hF.2 6 (by decide) (by decide) (by decide) (by decide) (by decide) (by decide) (by decide)).trans (h3 6 (by decide))))
      · rw [nI_1, rd_nI (by omega)]
        refine q1_ck (inb_nI (n := 4347) (by omega) (by decide)) (q1_ck (cr1 (by omega)) ?_)
        refine ih (k + 1) _ (fun z hz => (sa_ne hz).trans (h1 z hz)) (fun i hi => ?_) h3 (by omega) (by omega)
        rw [sa_nI (by omega)]
        by_cases e : i = k
        · rw [if_pos e, h1 3 (by decide), e]
        · rw [if_neg e]; exact h2 i (by omega)
  exact key rFU 0 (rSf σ 0 0) (fun _ _ => rfl) (fun i hi => absurd hi (by omega)) (fun z hz => sf_ne hz) (by omega) (by unfold rFU; omega)
theorem mul4347 (u : Nat) : (4347 : Int32) * nI u = nI (4347 * u) := nI_mulc 4347 u
theorem ur_undo (h : RI σ) : P1 (mX9_undo σ) (RP (σ.1 9)) := by
  obtain ⟨u, hu, hu8, hg⟩ := h.2.2.1
  unfold mX9_undo
  refine q1_eq (fun q => ?_) (fun q => ?_)
  · unfold mX9_undo_b13
    exact le0 (fun e => absurd e (by decide)) (fun _ => q1_ret (rp_0 h))
  · unfold mX9_undo_b13
    refine le0 (fun _ => ?_) (fun e => absurd e (by decide))
    have hu1 : 1 ≤ u := by
      by_cases e : u = 0
      · exfalso; apply q; rw [hu, e]; rfl
      · omega
    have eu : (σ.1 5) - (1 : Int32) = nI (u - 1) := by
      have e : u = (u - 1) + 1 := by omega
      rw [hu, e, nI_pred]; rfl
    rw [eu]
    have hG := hg (u - 1) (by omega)
    have key : ∀ (d k : Nat) (s : RS9), (∀ z, z ≠ 1 → s.2 z = σ.2 z) → (∀ i, i < k → s.2 1 i = σ.2 4 (4347 * (u - 1) + i)) → (∀ z, z ≠ 0 → z ≠ 5 → s.1 z = σ.1 z) → s.1 5 = nI (u - 1) → k ≤ 4347 → 5000 < k + d → P1 (mX9_undo_l37 d (nI k) s) (RP (σ.1 9)) := by
      intro d
      induction d with
      | zero => intro k s _ _ _ _ hk hm; exfalso; omega
      | succ d ih =>
        intro k s h1 h2 h3 h5 hk hm
        have ek : (nI k).toInt = (k : Int) := nI_toInt (by omega)
        unfold mX9_undo_l37
        refine q1_le e4347 ek (fun q => ?_) (fun q => ?_)
        · have e : k = 4347 := by omega
          subst e
          refine q1_call (cut_core (good_eq hG h2)) (fun v s2 hs => ?_)
          obtain ⟨hF, hC⟩ := hs
          dsimp only
          have g9 : s2.1 9 = σ.1 9 := (hF.2 9 (by decide) (by decide) (by decide) (by decide) (by decide) (by decide) (by decide)).trans (h3 9 (by decide) (by decide))
          refine q1_ret ⟨ri_b hF hC (by rw [h3 9 (by decide) (by decide)]; exact h.2.1) ⟨u - 1, h5, by omega, fun z hz => ?_⟩ (im_fr h.2.2.2 (h1 3 (by decide)) (h3 6 (by decide) (by decide))), g9⟩
          rw [h1 4 (by decide)]; exact hg z (by omega)
        · rw [h5, mul4347, nI_add, nI_1, rd_nI (by omega)]
          refine q1_ck (inb_nI (n := 34776) (by omega) (by decide)) (q1_ck (cr1 (by omega)) ?_)
          refine ih (k + 1) _ (fun z hz => (sa_ne hz).trans (h1 z hz)) (fun i hi => ?_) h3 h5 (by omega) (by omega)
          rw [sa_nI (by omega)]
          by_cases e : i = k
          · rw [if_pos e, h1 4 (by decide), e]
          · rw [if_neg e]; exact h2 i (by omega)
    exact key rFU 0 _ (fun _ _ => rfl) (fun i hi => absurd hi (by omega)) (fun z z0 z5 => (sf_ne z5).trans (sf_ne z0)) sf_eq (by omega) (by unfold rFU; omega)
end STO
