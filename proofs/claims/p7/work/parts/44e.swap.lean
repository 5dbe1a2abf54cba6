section SWAP
variable {σ : RS9}
theorem tn_fr {u u' : RS9} (hT : TV u) (hN : NN u) (hm : u'.2 1 = u.2 1) (hr : ∀ k, 34 ≤ k → k ≤ 42 → u'.2 k = u.2 k) (h33 : u'.1 33 = u.1 33) (h45 : u'.1 45 = u.1 45) : TV u' ∧ NN u' := by
  obtain ⟨p, hB⟩ := tab_ba hT.1 hT.2
  have hp := hB.2.2.2.2.1
  refine ⟨⟨by rw [hm]; exact hT.1, tab_m hT.1 hT.2 (fun _ _ _ => by rw [hm]) hr h33 h45⟩, fun p' e h4 i hi => ?_⟩
  have ep : p' = p := nI_inj (by omega) (by omega) (e.symm.trans (h33.trans hB.2.2.1))
  subst ep
  rw [(bo_eq (tv_ba hB (fun _ _ _ => by rw [hm]) hr h33) hi (fun _ _ _ => by rw [hm])).1]
  exact hN p' hB.2.2.1 h4 i hi
theorem a_swap0 (hC : CORE σ) {x y : Int32} : P1 (mX9_swap0 x y σ) (AQ σ) := by
  obtain ⟨p, M, hP, hB, -⟩ := core_x hC
  have hp := hP.2.1
  unfold mX9_swap0
  refine q1_ro (o_isPieceThere hP) (fun z hz => ?_)
  dsimp only
  refine q1_eq (fun _ => q1_ret ⟨fun e => absurd e (by decide), fa_r σ⟩) (fun q => ?_)
  have hx := hz.2 q
  refine q1_ro (o_isPieceThere hP) (fun z2 hz2 => ?_)
  dsimp only
  refine q1_eq (fun _ => q1_ret ⟨fun e => absurd e (by decide), fa_r σ⟩) (fun q2 => ?_)
  have hy := hz2.2 q2
  refine q1_eq (fun _ => q1_ret ⟨fun e => absurd e (by decide), fa_r σ⟩) (fun _ => ?_)
  refine q1_ro (o_nowMany hP hx) (fun va hva => ?_)
  dsimp only
  refine q1_ro (o_nowMany hP hy) (fun vb hvb => ?_)
  dsimp only
  have na := nm_b hP hx
  have nb := nm_b hP hy
  refine q1_lt (show (60 : Int32).toInt = 60 by decide) hva (fun _ => q1_ret ⟨fun e => absurd e (by decide), fa_r σ⟩) (fun qa => ?_)
  refine q1_le hvb (show (60 : Int32).toInt = 60 by decide) (fun qb => ?_) (fun _ => q1_ret ⟨fun e => absurd e (by decide), fa_r σ⟩)
  obtain ⟨a, ha6, ha⟩ := nI_back (x := va) (by omega) (by omega)
  obtain ⟨b, hb6, hb⟩ := nI_back (x := vb) (by omega) (by omega)
  have ea : (nI a).toInt = (a : Int) := nI_toInt (by omega)
  have eb : (nI b).toInt = (b : Int) := nI_toInt (by omega)
  rw [ha, ea] at hva
  rw [hb, eb] at hvb
  rw [ha, hb]
  obtain ⟨i, hi, hxi⟩ : ∃ i : Nat, i < p ∧ x = nI i := ⟨x.toInt.toNat, by omega, nI_x hx.1 (by omega)⟩
  obtain ⟨o, ho, hyo⟩ : ∃ o : Nat, o < p ∧ y = nI o := ⟨y.toInt.toNat, by omega, nI_x hy.1 (by omega)⟩
  subst hxi hyo
  have nmf : ∀ (u : RS9), (∀ z, z ≠ 53 → z ≠ 58 → u.2 z = σ.2 z) → ∀ w : Int32, nm9 u w = nm9 σ w := fun u hu w => by
    unfold nm9 rGa
    rw [hu 1 (by decide) (by decide), hu 42 (by decide) (by decide)]
  have cpf : ∀ (u : RS9), (∀ z, z ≠ 53 → z ≠ 58 → u.2 z = σ.2 z) → u.1 = σ.1 → CP p u := fun u hu h1 => cp_tv hP (by rw [hu 1 (by decide) (by decide)]; exact hC.1) (fun k a b => hu k (by omega) (by omega)) (by rw [h1])
  -- the last third
  have l136 : ∀ (d k : Nat) (u : RS9), TV u → NN u → FA σ u → u.1 33 = nI p → k ≤ a → 100 < k + d → P1 (mX9_swap0_l136 d (nI o) (nI a) (nI k) u) (AQ σ) := by
    intro d
    induction d with
    | zero => intro k u _ _ _ _ hk hm; exfalso; omega
    | succ d ih =>
      intro k u uT uN uF u33 hk hm
      have ek : (nI k).toInt = (k : Int) := nI_toInt (by omega)
      unfold mX9_swap0_l136
      refine q1_le ea ek (fun _ => ?_) (fun q3 => ?_)
      · obtain ⟨p', hB'⟩ := tab_ba uT.1 uT.2
        have epp : p' = p := nI_inj (by have := hB'.2.2.2.2.1; omega) (by omega) (hB'.2.2.1.symm.trans u33)
        subst epp
        refine q1_esc hB' ho (by omega) (fun v s2 he hs2 => ?_)
        dsimp only
        refine q1_eq (fun _ => q1_ret ⟨fun e => absurd e (by decide), fa_tr uF (fa_w hs2)⟩) (fun hv => ?_)
        refine q1_call (a_tells (σ := s2) (by omega) (by omega)) (fun w s3 hT3 => ?_)
        dsimp only
        obtain ⟨hTV, hNN⟩ := nn_tell uT uN hB' ho (by omega) he hv hs2 hT3
        have f3 : FA σ s3 := fa_tr uF (fa_tr (fa_w hs2) (fa_tld hT3))
        refine q1_call (a_builtMany hTV hNN) (fun w3 s4 h4 => ?_)
        have fa3 : FA σ s4 := fa_tr f3 (fa_x h4.1)
        exact q1_le rfl e600 (fun q6 => q1_ret ⟨fun _ => h4.2 q6, fa3⟩) (fun _ => q1_ret ⟨fun e => absurd e (by decide), fa3⟩)
      · rw [nI_1]
        refine q1_ck (inb_nI (n := 60) (by omega) (by decide)) (q1_ck (inb_nI (n := 60) (by omega) (by decide)) ?_)
        obtain ⟨t1, t2⟩ := tn_fr (u' := rSa u 53 (nI k) (rGa u 58 (nI k))) uT uN (sa_ne (by decide)) (fun z a b => sa_ne (by omega)) rfl rfl
        exact ih (k + 1) _ t1 t2 (fa_tr uF ⟨fun z hz => sa_ne (by omega), fun _ _ => rfl⟩) u33 (by omega) (by omega)
  have l86 : ∀ (d k : Nat) (u : RS9), (∀ z, z ≠ 53 → z ≠ 58 → u.2 z = σ.2 z) → u.1 = σ.1 → k ≤ b → 100 < k + d → P1 (mX9_swap0_l86 d (nI i) (nI o) (nI a) (nI b) (nI k) u) (AQ σ) := by
    intro d
    induction d with
    | zero => intro k u _ _ hk hm; exfalso; omega
    | succ d ih =>
      intro k u h1 h2 hk hm
      have ek : (nI k).toInt = (k : Int) := nI_toInt (by omega)
      have hPu := cpf u h1 h2
      unfold mX9_swap0_l86
      refine q1_le eb ek (fun _ => ?_) (fun q3 => ?_)
      · have hCu : CORE u := core_fr hC (h1 1 (by decide) (by decide)) (fun k a b => h1 k (by omega) (by omega)) (by rw [h2]) (by rw [h2])
        have uF : FA σ u := ⟨fun z hz => h1 z (by omega) (by omega), fun _ _ => by rw [h2]⟩
        have u33 : u.1 33 = nI p := by rw [h2]; exact hP.1
        obtain ⟨p', hB'⟩ := tab_ba hCu.1 hCu.2.1
        have epp : p' = p := nI_inj (by have := hB'.2.2.2.2.1; omega) (by omega) (hB'.2.2.1.symm.trans u33)
        subst epp
        refine q1_esc hB' hi (by omega) (fun v s2 he hs2 => ?_)
        dsimp only
        refine q1_eq (fun _ => q1_ret ⟨fun e => absurd e (by decide), fa_tr uF (fa_w hs2)⟩) (fun hv => ?_)
        refine q1_call (a_tells (σ := s2) (by omega) (by omega)) (fun w s3 hT3 => ?_)
        dsimp only
        obtain ⟨hTV, hNN⟩ := nn_tell ⟨hCu.1, hCu.2.1⟩ (core_nn hCu) hB' hi (by omega) he hv hs2 hT3
        exact l136 rFU 0 s3 hTV hNN (fa_tr uF (fa_tr (fa_w hs2) (fa_tld hT3))) ((hT3.2.1 33).trans ((hs2.2 33 (by decide)).trans u33)) (by omega) (by unfold rFU; omega)
      · refine q1_ro (o_nowByte hPu hy (by rw [ek, nmf u h1]; omega)) (fun z _ => ?_)
        dsimp only
        rw [nI_1]
        refine q1_ck (inb_nI (n := 60) (by omega) (by decide)) ?_
        exact ih (k + 1) _ (fun z z53 z58 => (sa_ne z53).trans (h1 z z53 z58)) h2 (by omega) (by omega)
  have l57 : ∀ (d k : Nat) (u : RS9), (∀ z, z ≠ 53 → z ≠ 58 → u.2 z = σ.2 z) → u.1 = σ.1 → k ≤ a → 100 < k + d → P1 (mX9_swap0_l57 d (nI i) (nI o) (nI a) (nI b) (nI k) u) (AQ σ) := by
    intro d
    induction d with
    | zero => intro k u _ _ hk hm; exfalso; omega
    | succ d ih =>
      intro k u h1 h2 hk hm
      have ek : (nI k).toInt = (k : Int) := nI_toInt (by omega)
      have hPu := cpf u h1 h2
      unfold mX9_swap0_l57
      refine q1_le ea ek (fun _ => ?_) (fun q3 => ?_)
      · exact l86 rFU 0 u h1 h2 (by omega) (by unfold rFU; omega)
      · refine q1_ro (o_nowByte hPu hx (by rw [ek, nmf u h1]; omega)) (fun z _ => ?_)
        dsimp only
        rw [nI_1]
        refine q1_ck (inb_nI (n := 60) (by omega) (by decide)) ?_
        exact ih (k + 1) _ (fun z z53 z58 => (sa_ne z58).trans (h1 z z53 z58)) h2 (by omega) (by omega)
  exact l57 rFU 0 σ (fun _ _ _ => rfl) rfl (by omega) (by unfold rFU; omega)
/-! aside, and back -/
theorem a_putsAside : P1 (mX9_putsAside σ) (fun v σ' => (∀ z, z ≠ 2 → σ'.2 z = σ.2 z) ∧ σ'.1 = σ.1 ∧ ∀ i, i < 4347 → σ'.2 2 i = σ.2 1 i) := by
  have key : ∀ (d k : Nat) (u : RS9), (∀ z, z ≠ 2 → u.2 z = σ.2 z) → u.1 = σ.1 → (∀ i, i < k → u.2 2 i = σ.2 1 i) → k ≤ 4347 → 5000 < k + d → P1 (mX9_putsAside_l2 d (nI k) u) (fun v σ' => (∀ z, z ≠ 2 → σ'.2 z = σ.2 z) ∧ σ'.1 = σ.1 ∧ ∀ i, i < 4347 → σ'.2 2 i = σ.2 1 i) := by
    intro d
    induction d with
    | zero => intro k u _ _ _ hk hm; exfalso; omega
    | succ d ih =>
      intro k u h1 h2 h3 hk hm
      have ek : (nI k).toInt = (k : Int) := nI_toInt (by omega)
      unfold mX9_putsAside_l2
      refine q1_le e4347 ek (fun q => ?_) (fun q => ?_)
      · exact q1_ret ⟨h1, h2, fun i hi => h3 i (by omega)⟩
      · rw [nI_1, rd_nI (by omega)]
        refine q1_ck (cr1 (by omega)) (q1_ck (inb_nI (n := 4347) (by omega) (by decide)) ?_)
        refine ih (k + 1) _ (fun z hz => (sa_ne hz).trans (h1 z hz)) h2 (fun i hi => ?_) (by omega) (by omega)
        rw [sa_nI (by omega)]
        by_cases e : i = k
        · rw [if_pos e, h1 1 (by decide), e]
        · rw [if_neg e]; exact h3 i (by omega)
  unfold mX9_putsAside
  exact key rFU 0 σ (fun _ _ => rfl) rfl (fun i hi => absurd hi (by omega)) (by omega) (by unfold rFU; omega)
theorem a_putsBack (hG : GOOD (σ.2 2)) : P1 (mX9_putsBack σ) (fun v σ' => CORE σ' ∧ (∀ k, k ≤ 12 → k ≠ 1 → σ'.2 k = σ.2 k) ∧ ∀ k, k < 16 → σ'.1 k = σ.1 k) := by
  have key : ∀ (d k : Nat) (u : RS9), (∀ z, z ≠ 1 → u.2 z = σ.2 z) → u.1 = σ.1 → (∀ i, i < k → u.2 1 i = σ.2 2 i) → k ≤ 4347 → 5000 < k + d → P1 (mX9_putsBack_l2 d (nI k) u) (fun v σ' => CORE σ' ∧ (∀ k, k ≤ 12 → k ≠ 1 → σ'.2 k = σ.2 k) ∧ ∀ k, k < 16 → σ'.1 k = σ.1 k) := by
    intro d
    induction d with
    | zero => intro k u _ _ _ hk hm; exfalso; omega
    | succ d ih =>
      intro k u h1 h2 h3 hk hm
      have ek : (nI k).toInt = (k : Int) := nI_toInt (by omega)
      unfold mX9_putsBack_l2
      refine q1_le e4347 ek (fun q => ?_) (fun q => ?_)
      · have e : k = 4347 := by omega
        subst e
        refine q1_call (cut_core (good_eq hG h3)) (fun v s hs => ?_)
        refine q1_ret ⟨hs.2, fun z hz z1 => (hs.1.1 z (by omega)).trans (h1 z z1), fun z hz => ?_⟩
        exact (hs.1.2 z (by omega) (by omega) (by omega) (by omega) (by omega) (by omega) (by omega)).trans (by rw [h2])
      · rw [nI_1, rd_nI (by omega)]
        refine q1_ck (inb_nI (n := 4347) (by omega) (by decide)) (q1_ck (cr1 (by omega)) ?_)
        refine ih (k + 1) _ (fun z hz => (sa_ne hz).trans (h1 z hz)) h2 (fun i hi => ?_) (by omega) (by omega)
        rw [sa_nI (by omega)]
        by_cases e : i = k
        · rw [if_pos e, h1 2 (by decide), e]
        · rw [if_neg e]; exact h3 i (by omega)
  unfold mX9_putsBack
  exact key rFU 0 σ (fun _ _ => rfl) rfl (fun i hi => absurd hi (by omega)) (by omega) (by unfold rFU; omega)
end SWAP
