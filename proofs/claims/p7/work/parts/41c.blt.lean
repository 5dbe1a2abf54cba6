theorem nI_mulc (a b : Nat) : nI a * nI b = nI (a * b) := (Int32.ofNat_mul a b).symm
theorem told_ix (i : Nat) : (443 : Int32) + ((61 : Int32) * nI i) = nI (443 + 61 * i) := by
  have e : (61 : Int32) * nI i = nI (61 * i) := nI_mulc 61 i
  rw [e]; exact nI_add 443 (61 * i)
theorem cr1 {k : Nat} (h : k < 4347) : rIn (nI k) (rLen 1) = true := inb_nI (n := 4347) h (by decide)
theorem toldOf_eq {i : Nat} (hi : i < 40) (σ : RS9) : mX9_toldOf (nI i) σ = some (σ.2 1 (443 + 61 * i), σ) := by
  unfold mX9_toldOf
  rw [told_ix, ck_t (cr1 (by omega)), rd_nI (by omega)]
theorem toldAt_eq {i k : Nat} (hi : i < 40) (hk : k < 60) (σ : RS9) : mX9_toldAt (nI i) (nI k) σ = some (σ.2 1 (443 + 61 * i + 1 + k), σ) := by
  unfold mX9_toldAt
  rw [told_ix, nI_1, nI_add, ck_t (cr1 (by omega)), rd_nI (by omega)]
theorem p2_bind {α β : Type} {Q : β → RS9 → β → RS9 → Prop} {o o' : Option α} {a a' : α} {k k' : α → Option (β × RS9)} (e : o = some a) (e' : o' = some a') (h : P2 (k a) (k' a') Q) : P2 (o.bind k) (o'.bind k') Q := by rw [e, e']; exact h
theorem t2_holdsTold_l2 {p i n : Nat} {σ0 τ0 : RS9} (hi : i < p) (hp : p ≤ 40) (hn : n ≤ 60) (ht : σ0.2 1 (443 + 61 * i) = nI n) : ∀ (d k : Nat) (σ τ : RS9), BA p σ τ → SLA i σ τ → FX σ0 σ → FX τ0 τ → (∀ j, j < k → τ.2 53 j = σ.2 53 j ∧ σ.2 53 j = σ0.2 1 (444 + 61 * i + j)) → k ≤ n → 100 < k + d → P2 (mX9_holdsTold_l2 d (nI i) (nI k) σ) (mX9_holdsTold_l2 d (nI i) (nI k) τ) (fun v σ' v' τ' => FX σ0 σ' ∧ FX τ0 τ' ∧ BA p σ' τ' ∧ SLA i σ' τ' ∧ ∀ j, j < n → τ'.2 53 j = σ'.2 53 j ∧ σ'.2 53 j = σ0.2 1 (444 + 61 * i + j)) := by
  intro d
  induction d with
  | zero => intro k σ τ _ _ _ _ _ hk hm; exfalso; omega
  | succ d ih =>
    intro k σ τ hB hSl hF hF' hr hk hm
    have ek : (nI k).toInt = (k : Int) := nI_toInt (by omega)
    have en : (nI n).toInt = (n : Int) := nI_toInt (by omega)
    have m1 : σ.2 1 = σ0.2 1 := hF.1 1 (by decide) (by decide) (by decide)
    have e1 : σ.2 1 (443 + 61 * i) = nI n := by rw [m1]; exact ht
    have e1' : τ.2 1 (443 + 61 * i) = nI n := (hSl _ (by omega) (by omega)).trans e1
    unfold mX9_holdsTold_l2
    refine p2_bind (toldOf_eq (by omega) σ) (toldOf_eq (by omega) τ) ?_
    dsimp only
    rw [e1, e1']
    refine p2_le en ek rfl rfl (fun q => ?_) (fun q => ?_)
    · exact p2_ret ⟨hF, hF', hB, hSl, fun j hj => hr j (by omega)⟩
    · refine p2_bind (toldAt_eq (by omega) (by omega) σ) (toldAt_eq (by omega) (by omega) τ) ?_
      dsimp only
      refine p2_ck (inb_nI (n := 60) (by omega) (by decide)) (inb_nI (n := 60) (by omega) (by decide)) ?_
      rw [nI_1, hSl (443 + 61 * i + 1 + k) (by omega) (by omega)]
      have g : ∀ (u : RS9) (x : Int32), FX u (rSa u 53 (nI k) x) := fun u x => ⟨fun z _ _ e3 => sa_ne e3, fun _ _ => rfl⟩
      have g1 : ∀ (u : RS9) (x : Int32), (rSa u 53 (nI k) x).2 1 = u.2 1 := fun u x => sa_ne (by decide)
      refine ih (k + 1) _ _ (ba_x hB (g σ _) (g τ _)) (fun j h1 h2 => by rw [g1, g1]; exact hSl j h1 h2) (fx_tr hF (g σ _)) (fx_tr hF' (g τ _)) (fun j hj => ?_) (by omega) (by omega)
      rw [sa_nI (by omega), sa_nI (by omega)]
      by_cases e : j = k
      · rw [if_pos e, if_pos e, m1, e, show 443 + 61 * i + 1 + k = 444 + 61 * i + k by omega]
        exact ⟨rfl, rfl⟩
      · rw [if_neg e, if_neg e]; exact hr j (by omega)
theorem t2_builtOf {p i : Nat} {σ τ : RS9} (hB : BA p σ τ) (hi : i < p) (hSl : SLA i σ τ) : P2 (mX9_builtOf (nI i) σ) (mX9_builtOf (nI i) τ) (fun v σ' v' τ' => EA v v' ∧ FX σ σ' ∧ FX τ τ' ∧ (σ.2 1 (443 + 61 * i) = -1 → v.toInt = (σ.2 35 i).toInt - (σ.2 34 i).toInt)) := by
  have hp := hB.2.2.2.2.1
  obtain ⟨⟨r34, r35, -⟩, b1, b2, b3⟩ := hB.2.2.2.2.2 i hi
  have ci : ∀ z, rLen z = 40 → rIn (nI i) (rLen z) = true := fun z hz => by rw [hz]; exact inb_nI (by omega) (by decide)
  have hv := hB.2.1.2.2.2.2.1 i (by omega)
  have frf : ∀ u : RS9, FX u u := fun u => ⟨fun _ _ _ _ => rfl, fun _ _ => rfl⟩
  unfold mX9_builtOf
  refine p2_bind (toldOf_eq (by omega) σ) (toldOf_eq (by omega) τ) ?_
  dsimp only
  rw [hSl (443 + 61 * i) (by omega) (by omega)]
  refine p2_eq rfl rfl (fun q => ?_) (fun q => ?_)
  · refine p2_ck (ci 35 rfl) (ci 35 rfl) ?_
    refine p2_ck (ci 34 rfl) (ci 34 rfl) ?_
    rw [rd_nI (by omega), rd_nI (by omega), rd_nI (by omega), rd_nI (by omega), r34, r35]
    have e : (σ.2 35 i - σ.2 34 i).toInt = (σ.2 35 i).toInt - (σ.2 34 i).toInt := i_sub rfl rfl (by omega)
    exact p2_ret ⟨⟨rfl, by omega, by omega⟩, frf σ, frf τ, fun _ => e⟩
  · have hne : (σ.2 1 (443 + 61 * i)).toInt ≠ -1 := fun h => q (Int32.toInt_inj.mp (h.trans kt_m1.symm))
    obtain ⟨n, hn6, hn⟩ := nI_back (x := σ.2 1 (443 + 61 * i)) (by omega) (by omega)
    have hn60 : n ≤ 60 := by
      have := hv.2
      rw [hn, nI_toInt (by omega)] at this; omega
    unfold mX9_holdsTold
    refine p2_call (t2_holdsTold_l2 hi hp hn60 hn rFU 0 σ τ hB hSl (frf σ) (frf τ) (fun j hj => absurd hj (by omega)) (by omega) (by unfold rFU; omega)) (fun v s v' t h => ?_)
    obtain ⟨g1, g2, g3, gS, g4⟩ := h
    dsimp only
    refine p2_bind (toldOf_eq (by omega) s) (toldOf_eq (by omega) t) ?_
    dsimp only
    have es : s.2 1 (443 + 61 * i) = nI n := by rw [g1.1 1 (by decide) (by decide) (by decide)]; exact hn
    have et : t.2 1 (443 + 61 * i) = nI n := (gS _ (by omega) (by omega)).trans es
    rw [es, et]
    refine p2_call (t2_escapedFor g3 hi hn60 (fun j hj => (g4 j hj).1)) (fun v s2 v' t2 h => ?_)
    obtain ⟨h1, h2, h3⟩ := h
    dsimp only
    exact p2_ret ⟨h1, fx_tr g1 (fx_w h2), fx_tr g2 (fx_w h3), fun e => absurd e q⟩
/-! how long all will be -/
def bo (σ : RS9) (i : Nat) : Int := match mX9_builtOf (nI i) σ with
  | some r => r.1.toInt
  | none => 0
theorem bo_eq {p i : Nat} {σ τ : RS9} (hB : BA p σ τ) (hi : i < p) (hSl : SLA i σ τ) : bo τ i = bo σ i ∧ -1 ≤ bo σ i ∧ bo σ i ≤ 1400 ∧ (σ.2 1 (443 + 61 * i) = -1 → bo σ i = (σ.2 35 i).toInt - (σ.2 34 i).toInt) := by
  obtain ⟨v, s, v', t, e, e', ⟨h1, h2, h3⟩, -, -, h4⟩ := t2_builtOf hB hi hSl
  unfold bo
  rw [e, e']
  exact ⟨congrArg Int32.toInt h1, h2, h3, h4⟩
theorem ba_self {p : Nat} {σ τ : RS9} (hB : BA p σ τ) : BA p σ σ := by
  obtain ⟨h1, h2, h3, h4, h5, h6⟩ := hB
  exact ⟨fun _ _ _ => rfl, h2, h3, h3, h5, fun i hi => ⟨⟨rfl, rfl, rfl, rfl, rfl⟩, (h6 i hi).2⟩⟩
def sm (σ : RS9) : Nat → Int
  | 0 => (σ.2 1 0).toInt
  | i + 1 => sm σ i + (bo σ i - ((σ.2 35 i).toInt - (σ.2 34 i).toInt))
theorem sm_b {p : Nat} {σ : RS9} (hB : BA p σ σ) : ∀ i, i ≤ p → -2001 * (i : Int) ≤ sm σ i ∧ sm σ i ≤ 400 + 1401 * (i : Int) := by
  intro i
  induction i with
  | zero => intro _; have := hB.2.1.1; show _ ≤ (σ.2 1 0).toInt ∧ (σ.2 1 0).toInt ≤ _; omega
  | succ i ih =>
    intro hi
    have h1 := ih (by omega)
    have h2 := (bo_eq hB (show i < p by omega) (fun _ _ _ => rfl)).2
    have h3 := (hB.2.2.2.2.2 i (by omega)).2
    show _ ≤ sm σ i + (bo σ i - _) ∧ sm σ i + (bo σ i - _) ≤ _
    omega
theorem sm_eq {p : Nat} {σ τ : RS9} (hB : BA p σ τ) (hSl : ∀ i, i < p → SLA i σ τ) : ∀ i, i ≤ p → sm τ i = sm σ i := by
  intro i
  induction i with
  | zero => intro _; show (τ.2 1 0).toInt = (σ.2 1 0).toInt; rw [hB.1 0 (by omega) (by omega)]
  | succ i ih =>
    intro hi
    have h3 := (hB.2.2.2.2.2 i (by omega)).1
    show sm τ i + (bo τ i - _) = sm σ i + (bo σ i - _)
    rw [ih (by omega), (bo_eq hB (show i < p by omega) (hSl i (by omega))).1, h3.1, h3.2.1]
theorem ba_fx {p : Nat} {σ σ' : RS9} (hB : BA p σ σ) (h : FX σ σ') : BA p σ σ' := ba_x hB ⟨fun _ _ _ _ => rfl, fun _ _ => rfl⟩ h
theorem builtMany_l9 {p : Nat} {σ0 : RS9} (hB0 : BA p σ0 σ0) : ∀ (d i : Nat) (v1 : Int32) (σ : RS9), FX σ0 σ → v1.toInt = sm σ0 i → i ≤ p → 100 < i + d → ∃ v σ', mX9_builtMany_l9 d v1 (nI i) σ = some (v, σ') ∧ v.toInt = sm σ0 p ∧ FX σ0 σ' := by
  have hp := hB0.2.2.2.2.1
  intro d
  induction d with
  | zero => intro i v1 σ _ _ hi hm; exfalso; omega
  | succ d ih =>
    intro i v1 σ hF hv hi hm
    have hB := ba_fx hB0 hF
    have ei : (nI i).toInt = (i : Int) := nI_toInt (by omega)
    have ep : (nI p).toInt = (p : Int) := nI_toInt (by omega)
    unfold mX9_builtMany_l9
    rw [hB.2.2.2.1]
    by_cases q : p ≤ i
    · have e : i = p := by omega
      subst e
      rw [if_pos (nI_le (Nat.le_refl _) (by omega))]
      exact ⟨v1, σ, rfl, hv, hF⟩
    · rw [if_neg (nI_ge (by omega) (by omega))]
      obtain ⟨v, s, v', t, e, e', ⟨h1, h2, h3⟩, g1, g2, h4⟩ := t2_builtOf hB (show i < p by omega) (fun j _ _ => by rw [hF.1 1 (by decide) (by decide) (by decide)])
      rw [e', Option.bind_some]
      have c40 : ∀ z, rLen z = 40 → rIn (nI i) (rLen z) = true := fun z hz => by rw [hz]; exact inb_nI (by omega) (by decide)
      dsimp only
      rw [ck_t (c40 35 rfl), ck_t (c40 34 rfl), rd_nI (by omega), rd_nI (by omega), nI_1, h1]
      have r35 : t.2 35 = σ0.2 35 := (g2.1 35 (by decide) (by decide) (by decide)).trans (hF.1 35 (by decide) (by decide) (by decide))
      have r34 : t.2 34 = σ0.2 34 := (g2.1 34 (by decide) (by decide) (by decide)).trans (hF.1 34 (by decide) (by decide) (by decide))
      rw [r34, r35]
      have hb := (hB0.2.2.2.2.2 i (by omega)).2
      have hs := sm_b hB0 i (by omega)
      have e1 : (σ0.2 35 i - σ0.2 34 i).toInt = (σ0.2 35 i).toInt - (σ0.2 34 i).toInt := i_sub rfl rfl (by omega)
      have e2 : (v - (σ0.2 35 i - σ0.2 34 i)).toInt = v.toInt - ((σ0.2 35 i).toInt - (σ0.2 34 i).toInt) := i_sub rfl e1 (by omega)
      have e3 : (v1 + (v - (σ0.2 35 i - σ0.2 34 i))).toInt = sm σ0 i + (v.toInt - ((σ0.2 35 i).toInt - (σ0.2 34 i).toInt)) := i_add hv e2 (by omega)
      have hbo : bo σ0 i = v.toInt := by unfold bo; rw [e]
      refine ih (i + 1) _ t (fx_tr hF g2) ?_ (by omega) (by omega)
      rw [e3]
      show _ = sm σ0 i + (bo σ0 i - _)
      rw [hbo]
theorem builtMany_x {p : Nat} {σ : RS9} (hB : BA p σ σ) : ∃ v σ', mX9_builtMany σ = some (v, σ') ∧ v.toInt = sm σ p ∧ FX σ σ' := by
  unfold mX9_builtMany
  rw [ck_t (show rIn (0 : Int32) (rLen 1) = true from rfl)]
  exact builtMany_l9 hB rFU 0 _ σ ⟨fun _ _ _ _ => rfl, fun _ _ => rfl⟩ rfl (by omega) (by unfold rFU; omega)
