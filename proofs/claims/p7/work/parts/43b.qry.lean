section QRY2
variable {σ : RS9}
theorem rp_x (h : RI σ) {v : Int32} {s : RS9} (hF : FY (rSf σ 0 v) s) {α : Type} {w : α} : RP (σ.1 9) w s := ⟨ri_fr (ri_0 (v := v) h) (fun k hk => hF.1 k (by omega) (by omega) (by omega) (by omega) (by omega)) (fun k hk => hF.2 k (by omega)) (by rw [hF.2 9 (by decide)]; exact h.2.1), (hF.2 9 (by decide)).trans (sf_ne (by decide))⟩
theorem ur_piece (h : RI σ) {x w : Int32} : P1 (mX9_piece x w σ) (RP (σ.1 9)) := by
  have b28 : ∀ s : Int32, 0 < s.toInt → P1 (mX9_piece_b28 x w s σ) (RP (σ.1 9)) := fun s hs => by
    unfold mX9_piece_b28
    exact le0 (fun e => by omega) (fun _ => q1_ret (rp_0 h))
  obtain ⟨p, M, hC, -⟩ := core_x h.1
  unfold mX9_piece
  refine q1_ro (o_isPieceThere hC) (fun y hy => ?_)
  dsimp only
  refine q1_eq (fun q => b28 1 (by decide)) (fun q => ?_)
  have hx := hy.2 q
  refine q1_ro o_isIn (fun z hz => ?_)
  dsimp only
  refine q1_eq (fun q2 => b28 2 (by decide)) (fun q2 => ?_)
  have hC0 : CP p (rSf σ 0 0) := cp_sf hC (by decide)
  have hp := hC.2.1
  obtain ⟨p2, M2, hC2, hB2, hS2, h02, h62⟩ := core_x (ri_0 (v := 0) h).1
  have ep : p2 = p := nI_inj (by have := hC2.2.1; omega) (by omega) (hC2.1.symm.trans hC0.1)
  subst ep
  have ex : x = nI x.toInt.toNat := nI_x hx.1 (by omega)
  unfold mX9_piece_b28
  refine le0 (fun _ => ?_) (fun e => absurd e (by decide))
  refine q1_eq (fun _ => q1_ck (cp_ck hC hx rfl) (q1_ret (rp_0 h))) (fun _ => ?_)
  refine q1_eq (fun _ => q1_ck (cp_ck hC hx rfl) (q1_ret (rp_0 h))) (fun _ => ?_)
  refine q1_eq (fun _ => q1_ck (cp_ck hC hx rfl) (q1_ret (rp_0 h))) (fun _ => ?_)
  refine q1_eq (fun _ => q1_ro (o_nowMany hC0 hx) (fun z _ => q1_ret (rp_0 h))) (fun _ => ?_)
  refine q1_eq (fun _ => q1_ro (o_toldOf hC0 hx) (fun z _ => q1_eq (fun _ => q1_ret (rp_0 h)) (fun _ => q1_ret (rp_0 h)))) (fun _ => ?_)
  refine q1_eq (fun _ => q1_ro (o_likeMany hC0 hx) (fun z _ => q1_ret (rp_0 h))) (fun _ => ?_)
  refine q1_eq (fun _ => q1_ro (o_wordsOf hC0 hx) (fun z _ => q1_ret (rp_0 h))) (fun _ => ?_)
  refine q1_eq (fun _ => q1_ro (o_knownOf hC0 hx) (fun z _ => q1_ret (rp_0 h))) (fun _ => ?_)
  refine q1_eq (fun _ => ?_) (fun _ => ?_)
  · rw [ex]
    refine q1_call (p1_of (t2_builtOf hB2 (i := x.toInt.toNat) (by omega) (fun _ _ _ => rfl))) (fun v s hs => ?_)
    exact q1_ret (rp_x h (fy_x hs.2.1))
  · unfold mX9_builtBegin
    refine q1_call (Q1 := RP (σ.1 9)) ?_ (fun v s hs => q1_ret hs)
    refine q1_call (o_builds hB2 hS2 h02 h62) (fun v s hs => ?_)
    exact q1_ck (cp_ck hC hx rfl) (q1_ret (rp_x h hs.2.1))
theorem ur_at (h : RI σ) {x b : Int32} : P1 (mX9_at x b σ) (RP (σ.1 9)) := by
  obtain ⟨p, M, hC, hB, hS, h0, h6⟩ := core_x (ri_0 (v := 0) h).1
  have hv := h.1.1
  unfold mX9_at
  refine q1_eq (fun _ => ?_) (fun _ => ?_)
  · have e : ((rGa σ 1 (0 : Int32)) - (1 : Int32)).toInt = (σ.2 1 0).toInt - 1 := i_sub (show (rGa σ 1 (0 : Int32)).toInt = (σ.2 1 0).toInt from rfl) kt_1 (by have := hv.1; omega)
    refine q1_ck rfl ?_
    refine q1_ro o_isIn (fun z hz => ?_)
    dsimp only
    refine q1_eq (fun _ => q1_ret (rp_0 h)) (fun q => ?_)
    have hx := hz.2 q
    rw [e, kt_0] at hx
    have := hv.1
    have e2 : ((43 : Int32) + x).toInt = 43 + x.toInt := i_add (show (43 : Int32).toInt = 43 by decide) rfl (by omega)
    exact q1_ck (in_of (N := 4347) (by omega) (by omega)) (q1_ret (rp_0 h))
  · refine q1_call (o_builds hB hS h0 h6) (fun v s hs => ?_)
    dsimp only
    have hlo := sm_lo hB hS h0 p (Nat.le_refl _)
    have htt : tt (rSf σ 0 0) p ≤ M := by
      cases p with
      | zero => show (0 : Int) ≤ M; omega
      | succ j => exact (hS.2.2 j (by omega)).1
    have e : (v - (1 : Int32)).toInt = v.toInt - 1 := i_sub rfl kt_1 (by have := hs.1; omega)
    refine q1_ro o_isIn (fun z hz => ?_)
    dsimp only
    refine q1_eq (fun _ => q1_ret (rp_x h hs.2.1)) (fun q => ?_)
    have hx := hz.2 q
    rw [e, kt_0] at hx
    have := hs.1
    exact q1_ck (in_of (N := 700) (by omega) (by omega)) (q1_ret (rp_x h hs.2.1))
theorem o_tookTold (h : RI σ) : P1 (mX9_tookTold σ) (fun v σ' => v = σ.1 9 ∧ RI σ' ∧ σ'.1 9 = 0 ∧ (∀ k, k ≠ 53 → σ'.2 k = σ.2 k) ∧ ∀ k, k ≠ 9 → σ'.1 k = σ.1 k) := by
  obtain ⟨t, ht6, ht⟩ := nI_back h.2.1.1 (by have := h.2.1.2; omega)
  have ht4 : t ≤ 400 := by have := h.2.1.2; rw [ht, nI_toInt (by omega)] at this; omega
  have key : ∀ (d k : Nat) (s : RS9), (∀ z, z ≠ 53 → s.2 z = σ.2 z) → (∀ z, z ≠ 9 → s.1 z = σ.1 z) → s.1 9 = 0 → k ≤ t → 1000 < k + d → P1 (mX9_tookTold_l7 d (nI t) (nI k) s) (fun v σ' => v = σ.1 9 ∧ RI σ' ∧ σ'.1 9 = 0 ∧ (∀ k, k ≠ 53 → σ'.2 k = σ.2 k) ∧ ∀ k, k ≠ 9 → σ'.1 k = σ.1 k) := by
    intro d
    induction d with
    | zero => intro k s _ _ _ hk hm; exfalso; omega
    | succ d ih =>
      intro k s h1 h2 h9 hk hm
      have fin : P1 (mX9_tookTold_b36 (nI t) s) (fun v σ' => v = σ.1 9 ∧ RI σ' ∧ σ'.1 9 = 0 ∧ (∀ k, k ≠ 53 → σ'.2 k = σ.2 k) ∧ ∀ k, k ≠ 9 → σ'.1 k = σ.1 k) := q1_ret ⟨ht.symm, ri_fr h (fun z hz => h1 z (by omega)) (fun z hz => h2 z (by omega)) (by rw [h9]; decide), h9, h1, h2⟩
      have ek : (nI k).toInt = (k : Int) := nI_toInt (by omega)
      have et : (nI t).toInt = (t : Int) := nI_toInt (by omega)
      unfold mX9_tookTold_l7
      refine q1_le et ek (fun q => fin) (fun q => ?_)
      refine q1_lt (show (60 : Int32).toInt = 60 by decide) et (fun q2 => fin) (fun q2 => ?_)
      rw [nI_1]
      refine q1_ck (inb_nI (n := 400) (by omega) (by decide)) (q1_ck (inb_nI (n := 60) (by omega) (by decide)) ?_)
      exact ih (k + 1) _ (fun z hz => (sa_ne hz).trans (h1 z hz)) h2 h9 (by omega) (by omega)
  unfold mX9_tookTold
  refine q1_bind (show mX9_took σ = some (σ.1 9, rSf σ 9 0) from rfl) ?_
  dsimp only
  have e : mX9_tookTold_l7 rFU (σ.1 9) 0 (rSf σ 9 0) = mX9_tookTold_l7 rFU (nI t) (nI 0) (rSf σ 9 0) := by rw [ht]; rfl
  rw [e]
  exact key rFU 0 _ (fun _ _ => rfl) (fun z hz => sf_ne hz) sf_eq (by omega) (by unfold rFU; omega)
theorem ur_would (h : RI σ) {x : Int32} : P1 (mX9_would x σ) (RP 0) := by
  unfold mX9_would
  refine q1_call (o_tookTold h) (fun v s hs => ?_)
  obtain ⟨hv, hR, h9, hr, hf⟩ := hs
  dsimp only
  obtain ⟨p, M, hC, hB, -⟩ := core_x hR.1
  have hp := hC.2.1
  have done : ∀ (w u : Int32), P1 (mX9_would_b49 w (rSf s 0 u)) (RP 0) := fun w u => q1_ret ⟨ri_0 hR, (sf_ne (by decide)).trans h9⟩
  have b29 : ∀ u : Int32, 0 < u.toInt → P1 (mX9_would_b29 x v u s) (RP 0) := fun u hu => by
    unfold mX9_would_b29
    exact le0 (fun e => by omega) (fun _ => done _ _)
  refine q1_ro (o_isPieceThere hC) (fun y hy => ?_)
  dsimp only
  refine q1_eq (fun q => b29 1 (by decide)) (fun q => ?_)
  have hx := hy.2 q
  refine q1_le rfl (show (60 : Int32).toInt = 60 by decide) (fun q2 => ?_) (fun q2 => b29 2 (by decide))
  unfold mX9_would_b29
  refine le0 (fun _ => ?_) (fun e => absurd e (by decide))
  have hv0 : 0 ≤ v.toInt := by rw [hv]; exact h.2.1.1
  rw [nI_x hx.1 (by omega), nI_x hv0 (by omega)]
  have hB0 : BA p (rSf s 0 0) (rSf s 0 0) := by
    obtain ⟨b1, b2, b3, b4, b5⟩ := hB
    exact ⟨b1, b2, (sf_ne (by decide)).trans b3, (sf_ne (by decide)).trans b4, b5⟩
  refine q1_call (p1_of (t2_escapedFor hB0 (i := x.toInt.toNat) (n := v.toInt.toNat) (by omega) (by omega) (fun _ _ => rfl))) (fun w s2 hs2 => ?_)
  have r := rp_x hR (fy_x (fx_w hs2.2.1)) (w := w)
  rw [h9] at r
  exact q1_ret r
theorem ur_count (h : RI σ) {x : Int32} : P1 (mX9_count x σ) (RP (σ.1 9)) := by
  obtain ⟨p, M, hC, hB, hS, h0, h6⟩ := core_x (ri_0 (v := 0) h).1
  have r : ∀ w : Int32, P1 (some (w, rSf σ 0 0)) (RP (σ.1 9)) := fun w => q1_ret (rp_0 h)
  unfold mX9_count
  refine q1_eq (fun _ => q1_ck rfl (r _)) (fun _ => ?_)
  refine q1_eq (fun _ => q1_ck rfl (r _)) (fun _ => ?_)
  refine q1_eq (fun _ => q1_ck rfl (r _)) (fun _ => ?_)
  refine q1_eq (fun _ => r _) (fun _ => ?_)
  refine q1_eq (fun _ => q1_ro (o_toldMany hC) (fun z _ => r _)) (fun _ => ?_)
  refine q1_eq (fun _ => ?_) (fun _ => ?_)
  · obtain ⟨v, s, e, e2, e3⟩ := builtMany_x hB
    exact q1_bind e (q1_ret (rp_x h (fy_x e3)))
  refine q1_eq (fun _ => q1_ro (o_skeleton hC) (fun z _ => r _)) (fun _ => ?_)
  refine q1_eq (fun _ => q1_ck rfl (r _)) (fun _ => ?_)
  refine q1_eq (fun _ => q1_ck rfl (r _)) (fun _ => ?_)
  refine q1_eq (fun _ => q1_ck rfl (r _)) (fun _ => ?_)
  refine q1_eq (fun _ => q1_ro (o_unlikeTexts hC) (fun z _ => r _)) (fun _ => ?_)
  refine q1_eq (fun _ => q1_ro (o_allWords hC) (fun z _ => r _)) (fun _ => ?_)
  refine q1_eq (fun _ => q1_ck rfl (r _)) (fun _ => ?_)
  refine q1_eq (fun _ => q1_ro (o_longest hC) (fun z _ => r _)) (fun _ => ?_)
  exact q1_eq (fun _ => r _) (fun _ => r _)
theorem ur_found (h : RI σ) : P1 (mX9_found σ) (RP 0) := by
  have hR := ri_90 h
  obtain ⟨p, M, hC, -⟩ := core_x hR.1
  have hp := hC.2.1
  unfold mX9_found
  refine q1_bind (show mX9_took σ = some (σ.1 9, rSf σ 9 0) from rfl) ?_
  dsimp only
  refine q1_ro (o_isWord h.2.1) (fun y hy => ?_)
  dsimp only
  have done : ∀ (w : Int64) (u : Int32), P1 (some (w, rSf (rSf σ 9 0) 0 u)) (RP 0) := fun w u => q1_ret ⟨ri_0 hR, (sf_ne (by decide)).trans sf_eq⟩
  refine q1_eq (fun q => ?_) (fun q => ?_)
  · unfold mX9_found_b19
    exact le0 (fun e => absurd e (by decide)) (fun _ => done _ _)
  · have hn := hy.2 q
    unfold mX9_found_b19
    refine le0 (fun _ => ?_) (fun e => absurd e (by decide))
    have hC0 : CP p (rSf (rSf σ 9 0) 0 0) := cp_sf hC (by decide)
    have key : ∀ (d : Nat) (v2 : Int64) (v4 : Int32), (0 ≤ v4.toInt ∧ v4.toInt ≤ 100) → 1000 - v4.toInt < (d : Int) → P1 (mX9_found_l36 d (σ.1 9) v2 v4 (rSf (rSf σ 9 0) 0 0)) (RP 0) := by
      intro d
      induction d with
      | zero => intro v2 v4 _ hm; exfalso; omega
      | succ d ih =>
        intro v2 v4 h4 hm
        unfold mX9_found_l36
        refine q1_le (cp_33 hC0) rfl (fun q => done _ _) (fun q => ?_)
        have e4 : (v4 + (1 : Int32)).toInt = v4.toInt + 1 := i_add rfl kt_1 (by omega)
        refine q1_ro (o_hasWord hC0 (by omega) hn) (fun y _ => ?_)
        dsimp only
        exact q1_eq (fun _ => ih _ _ (by omega) (by omega)) (fun _ => ih _ _ (by omega) (by omega))
    exact key rFU _ 0 (by decide) (by unfold rFU; rw [kt_0]; omega)
end QRY2
