set_option maxHeartbeats 1000000 in
theorem t2_escapes_l47 {v1 v2 v3 v7 : Int32} {r o n w0 : Nat} {σ0 τ0 : RS9} (ho : rLen o = 1400) (hro : r ≠ o) (hn : n ≤ rLen r ∧ n ≤ 1400) (hrd : ∀ i, i < n → τ0.2 r i = σ0.2 r i) (hw : wS (σ0.2 r) n + 2 ≤ 1400) (h7 : w0 ≤ 1 ∧ (v7 = 0 → w0 = 0)) : ∀ (d k q W : Nat) (σ τ : RS9), ES o q W σ0 τ0 σ τ → q ≤ wS (σ0.2 r) k + w0 → W ≤ 9 * k + 2 * w0 → k ≤ n → 2000 < k + d → P2 (mX9_escapes_l47 d v1 v2 v3 r (nI n) o v7 (nI k) σ) (mX9_escapes_l47 d v1 v2 v3 r (nI n) o v7 (nI k) τ) (fun v σ' v' τ' => ∃ m W' : Nat, v = nI m ∧ v' = nI m ∧ m ≤ wS (σ0.2 r) n + 2 ∧ W' ≤ 9 * n + 4 ∧ ES o m W' σ0 τ0 σ' τ') := by
  intro d
  induction d with
  | zero => intro k q W σ τ _ _ _ hk hm; exfalso; omega
  | succ d ih =>
    intro k q W σ τ hE hq hW hk hm
    have ek : (nI k).toInt = (k : Int) := nI_toInt (by omega)
    have en : (nI n).toInt = (n : Int) := nI_toInt (by omega)
    have hmo : wS (σ0.2 r) k ≤ wS (σ0.2 r) n := wS_mono hk
    have h34 : wt9 34 = 2 := by decide
    unfold mX9_escapes_l47
    refine p2_le en ek rfl rfl (fun qq => ?_) (fun qq => ?_)
    · refine p2_eq rfl rfl (fun e => ?_) (fun e => ?_)
      · unfold mX9_escapes_b169
        exact p2_ret ⟨q, W, hE.1, hE.2.1, by omega, by omega, hE⟩
      · refine p2_call (t2_plain ho hE (by omega) rfl) (fun v s v' t h => ?_)
        dsimp only
        unfold mX9_escapes_b169
        exact p2_ret ⟨_, _, h.1, h.2.1, by omega, by omega, h⟩
    · have hsn : wS (σ0.2 r) (k + 1) = wS (σ0.2 r) k + wt9 (σ0.2 r k) := rfl
      have hm1 : wS (σ0.2 r) (k + 1) ≤ wS (σ0.2 r) n := wS_mono (by omega)
      have ck : rIn (nI k) (rLen r) = true := by
        unfold rIn
        rw [nI_clamp (by omega)]
        simp only [Bool.and_eq_true, Bool.not_eq_true', decide_eq_false_iff_not, decide_eq_true_eq]
        exact ⟨nI_pos (by omega), by omega⟩
      have rs : rGa σ r (nI k) = σ0.2 r k := by rw [rd_nI (by omega), hE.2.2.2.2.1.1 r hro]
      have rt : rGa τ r (nI k) = σ0.2 r k := by rw [rd_nI (by omega), hE.2.2.2.2.2.1 r hro]; exact hrd k (by omega)
      rw [rs, rt]
      have next : ∀ (q2 W2 : Nat) (s t : RS9), q2 ≤ q + wt9 (σ0.2 r k) → W2 ≤ W + 9 → ES o q2 W2 σ0 τ0 s t → P2 (mX9_escapes_b150 (fun v1 v2 v3 v4 v5 v6 v7 v8 σ => mX9_escapes_l47 d v1 v2 v3 v4 v5 v6 v7 v8 σ) v1 v2 v3 r (nI n) o v7 (nI k) s) (mX9_escapes_b150 (fun v1 v2 v3 v4 v5 v6 v7 v8 σ => mX9_escapes_l47 d v1 v2 v3 v4 v5 v6 v7 v8 σ) v1 v2 v3 r (nI n) o v7 (nI k) t) (fun v σ' v' τ' => ∃ m W' : Nat, v = nI m ∧ v' = nI m ∧ m ≤ wS (σ0.2 r) n + 2 ∧ W' ≤ 9 * n + 4 ∧ ES o m W' σ0 τ0 σ' τ') := fun q2 W2 s t h1 h2 h3 => by
        unfold mX9_escapes_b150
        rw [nI_1]
        exact ih (k + 1) q2 W2 s t h3 (by omega) (by omega) (by omega) (by omega)
      have g1 := wt_1 (σ0.2 r k)
      have g5 := wt_5 (σ0.2 r k)
      have b139 : P2 (mX9_escapes_b139 (fun v1 v2 v3 v4 v5 v6 v7 v8 σ => mX9_escapes_l47 d v1 v2 v3 v4 v5 v6 v7 v8 σ) v1 v2 v3 r (nI n) o v7 (nI k) σ) (mX9_escapes_b139 (fun v1 v2 v3 v4 v5 v6 v7 v8 σ => mX9_escapes_l47 d v1 v2 v3 v4 v5 v6 v7 v8 σ) v1 v2 v3 r (nI n) o v7 (nI k) τ) (fun v σ' v' τ' => ∃ m W' : Nat, v = nI m ∧ v' = nI m ∧ m ≤ wS (σ0.2 r) n + 2 ∧ W' ≤ 9 * n + 4 ∧ ES o m W' σ0 τ0 σ' τ') := by
        unfold mX9_escapes_b139
        rw [rs, rt]
        refine p2_ck ck ck (p2_call (t2_plain ho hE (by omega) rfl) (fun v s v' t h => ?_))
        exact next _ _ s t (by omega) (by omega) h
      have b116 : P2 (mX9_escapes_b116 (fun v1 v2 v3 v4 v5 v6 v7 v8 σ => mX9_escapes_l47 d v1 v2 v3 v4 v5 v6 v7 v8 σ) v1 v2 v3 r (nI n) o v7 (nI k) σ) (mX9_escapes_b116 (fun v1 v2 v3 v4 v5 v6 v7 v8 σ => mX9_escapes_l47 d v1 v2 v3 v4 v5 v6 v7 v8 σ) v1 v2 v3 r (nI n) o v7 (nI k) τ) (fun v σ' v' τ' => ∃ m W' : Nat, v = nI m ∧ v' = nI m ∧ m ≤ wS (σ0.2 r) n + 2 ∧ W' ≤ 9 * n + 4 ∧ ES o m W' σ0 τ0 σ' τ') := by
        unfold mX9_escapes_b116
        rw [rs, rt]
        refine p2_ck ck ck (p2_eq rfl rfl (fun e => ?_) (fun e => b139))
        have e2 : wt9 (σ0.2 r k) = 2 := by rw [e]; decide
        refine p2_call (t2_puts ho hE (by omega) rfl) (fun v s v' t h => ?_)
        exact next _ _ s t (by omega) (by omega) h
      have b101 : ∀ f : Int32, P2 (mX9_escapes_b101 (fun v1 v2 v3 v4 v5 v6 v7 v8 σ => mX9_escapes_l47 d v1 v2 v3 v4 v5 v6 v7 v8 σ) v1 v2 v3 r (nI n) o v7 (nI k) v1 o (σ0.2 r k) f σ) (mX9_escapes_b101 (fun v1 v2 v3 v4 v5 v6 v7 v8 σ => mX9_escapes_l47 d v1 v2 v3 v4 v5 v6 v7 v8 σ) v1 v2 v3 r (nI n) o v7 (nI k) v1 o (σ0.2 r k) f τ) (fun v σ' v' τ' => ∃ m W' : Nat, v = nI m ∧ v' = nI m ∧ m ≤ wS (σ0.2 r) n + 2 ∧ W' ≤ 9 * n + 4 ∧ ES o m W' σ0 τ0 σ' τ') := fun f => by
        unfold mX9_escapes_b101
        refine p2_call (t2_escapesBack ho hE rfl (by omega)) (fun v s v' t h => ?_)
        obtain ⟨q2, W2, a, b, c⟩ := h
        exact next q2 W2 s t a b c
      refine p2_eq rfl rfl (fun e => ?_) (fun e => ?_)
      · refine p2_ck ck ck (p2_call (t2_escapesMarkup ho hE rfl (by omega)) (fun v s v' t h => ?_))
        obtain ⟨q2, W2, a, b, c⟩ := h
        exact next q2 W2 s t a b c
      · refine p2_eq rfl rfl (fun e2 => ?_) (fun e2 => ?_)
        · exact p2_eq rfl rfl (fun e3 => p2_eq rfl rfl (fun e4 => b139) (fun e4 => b116)) (fun e3 => b116)
        · exact p2_ck ck ck (p2_eq rfl rfl (fun e3 => b101 0) (fun e3 => p2_eq rfl rfl (fun e4 => b101 1) (fun e4 => b101 0)))
set_option maxHeartbeats 1000000 in
theorem t2_escapes {v1 v2 v3 : Int32} {r o n : Nat} {σ τ : RS9} (ho : rLen o = 1400) (hro : r ≠ o) (hn : n ≤ rLen r ∧ n ≤ 1400) (hrd : ∀ i, i < n → τ.2 r i = σ.2 r i) (hw : wS (σ.2 r) n + 2 ≤ 1400) : P2 (mX9_escapes v1 v2 v3 r (nI n) o σ) (mX9_escapes v1 v2 v3 r (nI n) o τ) (fun v σ' v' τ' => ∃ m W' : Nat, v = nI m ∧ v' = nI m ∧ m ≤ wS (σ.2 r) n + 2 ∧ W' ≤ 9 * n + 4 ∧ ES o m W' σ τ σ' τ') := by
  have hE : ES o 0 0 σ τ (rSf σ 56 0) (rSf τ 56 0) := ⟨sf_eq, sf_eq, fun i hi => absurd hi (by omega), Nat.le_refl _, ⟨fun _ _ => rfl, fun _ e => sf_ne e⟩, ⟨fun _ _ => rfl, fun _ e => sf_ne e⟩⟩
  have b28 : P2 (mX9_escapes_b28 v1 v2 v3 r (nI n) o (rSf σ 56 0)) (mX9_escapes_b28 v1 v2 v3 r (nI n) o (rSf τ 56 0)) (fun v σ' v' τ' => ∃ m W' : Nat, v = nI m ∧ v' = nI m ∧ m ≤ wS (σ.2 r) n + 2 ∧ W' ≤ 9 * n + 4 ∧ ES o m W' σ τ σ' τ') := by
    unfold mX9_escapes_b28 mX9_escapes_b29
    refine p2_eq rfl rfl (fun e => ?_) (fun e => absurd rfl e)
    unfold mX9_escapes_b44
    exact t2_escapes_l47 (w0 := 0) ho hro hn hrd hw ⟨by omega, fun _ => rfl⟩ rFU 0 0 0 _ _ hE (by omega) (by omega) (by omega) (by unfold rFU; omega)
  have h34 : wt9 34 = 2 := by decide
  unfold mX9_escapes
  refine p2_eq rfl rfl (fun e => ?_) (fun e => b28)
  refine p2_eq rfl rfl (fun e2 => ?_) (fun e2 => b28)
  refine p2_ro (t2_hasSign hn hrd) (fun y _ => ?_)
  dsimp only
  refine p2_eq rfl rfl (fun e3 => b28) (fun e3 => ?_)
  unfold mX9_escapes_b29
  refine p2_eq rfl rfl (fun e4 => absurd e4 (by decide)) (fun e4 => ?_)
  refine p2_call (t2_plain ho hE (by omega) rfl) (fun v s v' t h => ?_)
  dsimp only
  unfold mX9_escapes_b44
  exact t2_escapes_l47 (w0 := 1) ho hro hn hrd hw ⟨by omega, fun z => absurd z (by decide)⟩ rFU 0 1 _ _ _ h (by omega) (by omega) (by omega) (by unfold rFU; omega)
/-! what is built of one piece -/
def FX (σ0 σ : RS9) : Prop := (∀ k, k ≠ 46 → k ≠ 47 → k ≠ 53 → σ.2 k = σ0.2 k) ∧ ∀ k, k ≠ 56 → σ.1 k = σ0.1 k
def FW (σ0 σ : RS9) : Prop := (∀ k, k ≠ 46 → k ≠ 47 → σ.2 k = σ0.2 k) ∧ ∀ k, k ≠ 56 → σ.1 k = σ0.1 k
theorem fx_w {σ σ' : RS9} (h : FW σ σ') : FX σ σ' := ⟨fun k e1 e2 _ => h.1 k e1 e2, h.2⟩
theorem fw_e {o : Nat} {σ σ' : RS9} (h : FE o σ σ') (ho : o = 46 ∨ o = 47) : FW σ σ' := ⟨fun k e1 e2 => h.1 k (by omega), h.2⟩
theorem fw_tr {a b c : RS9} (h1 : FW a b) (h2 : FW b c) : FW a c := ⟨fun k e1 e2 => (h2.1 k e1 e2).trans (h1.1 k e1 e2), fun k e => (h2.2 k e).trans (h1.2 k e)⟩
theorem fx_e {o : Nat} {σ σ' : RS9} (h : FE o σ σ') (ho : o = 46 ∨ o = 47) : FX σ σ' := ⟨fun k e1 e2 _ => h.1 k (by omega), h.2⟩
theorem fx_tr {a b c : RS9} (h1 : FX a b) (h2 : FX b c) : FX a c := ⟨fun k e1 e2 e3 => (h2.1 k e1 e2 e3).trans (h1.1 k e1 e2 e3), fun k e => (h2.2 k e).trans (h1.2 k e)⟩
/-- what the building of a piece reads -/
def SLA (i : Nat) (σ τ : RS9) : Prop := ∀ j, 443 + 61 * i ≤ j → j < 504 + 61 * i → τ.2 1 j = σ.2 1 j
def BA (p : Nat) (σ τ : RS9) : Prop := (∀ i, i < 443 → i ≠ 42 → τ.2 1 i = σ.2 1 i) ∧ VM9 (σ.2 1) ∧ σ.1 33 = nI p ∧ τ.1 33 = nI p ∧ p ≤ 40 ∧ ∀ i, i < p → (τ.2 34 i = σ.2 34 i ∧ τ.2 35 i = σ.2 35 i ∧ τ.2 36 i = σ.2 36 i ∧ τ.2 37 i = σ.2 37 i ∧ τ.2 38 i = σ.2 38 i) ∧ 0 ≤ (σ.2 34 i).toInt ∧ (σ.2 34 i).toInt < (σ.2 35 i).toInt ∧ (σ.2 35 i).toInt ≤ 600
theorem ba_x {p : Nat} {σ τ σ' τ' : RS9} (h : BA p σ τ) (a : FX σ σ') (b : FX τ τ') : BA p σ' τ' := by
  unfold BA at h ⊢
  rw [a.1 1 (by decide) (by decide) (by decide), a.1 34 (by decide) (by decide) (by decide), a.1 35 (by decide) (by decide) (by decide), a.1 36 (by decide) (by decide) (by decide), a.1 37 (by decide) (by decide) (by decide), a.1 38 (by decide) (by decide) (by decide), a.2 33 (by decide), b.1 1 (by decide) (by decide) (by decide), b.1 34 (by decide) (by decide) (by decide), b.1 35 (by decide) (by decide) (by decide), b.1 36 (by decide) (by decide) (by decide), b.1 37 (by decide) (by decide) (by decide), b.1 38 (by decide) (by decide) (by decide), b.2 33 (by decide)]
  exact h
theorem ba_m {p : Nat} {σ τ : RS9} (h : BA p σ τ) {x : Int32} (hx : 0 ≤ x.toInt ∧ x.toInt < 42) : rGa τ 1 x = rGa σ 1 x := h.1 _ (by rw [tn]; omega) (by rw [tn]; omega)
/-- an answer of an escaping -/
def EA (v v' : Int32) : Prop := v' = v ∧ -1 ≤ v.toInt ∧ v.toInt ≤ 1400
set_option maxHeartbeats 1000000 in
theorem t2_escapedFor {p i n : Nat} {σ τ : RS9} (hB : BA p σ τ) (hi : i < p) (hn : n ≤ 60) (hrd : ∀ j, j < n → τ.2 53 j = σ.2 53 j) : P2 (mX9_escapedFor (nI i) (nI n) σ) (mX9_escapedFor (nI i) (nI n) τ) (fun v σ' v' τ' => EA v v' ∧ FW σ σ' ∧ FW τ τ') := by
  have hp := hB.2.2.2.2.1
  obtain ⟨⟨r34, r35, r36, r37, r38⟩, -⟩ := hB.2.2.2.2.2 i hi
  have ci : ∀ z, rLen z = 40 → rIn (nI i) (rLen z) = true := fun z hz => by rw [hz]; exact inb_nI (by omega) (by decide)
  have rd : ∀ (u : RS9) (z : Nat), rGa u z (nI i) = u.2 z i := fun u z => rd_nI (by omega)
  have hw53 := wS_5 (σ.2 53) n
  have ok : ∀ (m : Nat) (s t : RS9), m ≤ 1400 → FW σ s → FW τ t → P2 (some (nI m, s)) (some (nI m, t)) (fun v σ' v' τ' => EA v v' ∧ FW σ σ' ∧ FW τ τ') := fun m s t hm h1 h2 => p2_ret ⟨⟨rfl, by rw [nI_toInt (by omega)]; omega, by rw [nI_toInt (by omega)]; omega⟩, h1, h2⟩
  unfold mX9_escapedFor
  refine p2_ck rfl rfl ?_
  refine p2_eq (ba_m hB (by decide)) rfl (fun q => ?_) (fun q => ?_)
  · refine p2_ck rfl rfl ?_
    refine p2_ck (ci 36 rfl) (ci 36 rfl) ?_
    rw [ba_m hB (x := (1 : Int32)) (by decide)]
    have b47 : ∀ s2 s3 : Int32, P2 (mX9_escapedFor_b47 (nI n) (rGa σ 1 (1 : Int32)) s2 s3 σ) (mX9_escapedFor_b47 (nI n) (rGa σ 1 (1 : Int32)) s2 s3 τ) (fun v σ' v' τ' => EA v v' ∧ FW σ σ' ∧ FW τ τ') := fun s2 s3 => by
      unfold mX9_escapedFor_b47
      refine p2_call (t2_escapes (o := 47) rfl (by decide) ⟨hn, by omega⟩ hrd (by omega)) (fun v s v' t h => ?_)
      obtain ⟨m, W', rfl, rfl, hm, hW, hE⟩ := h
      exact ok m s t (by omega) (fw_e hE.2.2.2.2.1 (Or.inr rfl)) (fw_e hE.2.2.2.2.2 (Or.inr rfl))
    have b32 : ∀ s2 : Int32, P2 (mX9_escapedFor_b32 (nI i) (nI n) (rGa σ 1 (1 : Int32)) s2 σ) (mX9_escapedFor_b32 (nI i) (nI n) (rGa σ 1 (1 : Int32)) s2 τ) (fun v σ' v' τ' => EA v v' ∧ FW σ σ' ∧ FW τ τ') := fun s2 => by
      unfold mX9_escapedFor_b32
      refine p2_ck (ci 38 rfl) (ci 38 rfl) ?_
      exact p2_eq (by rw [rd, rd]; exact r38) rfl (fun _ => b47 s2 1) (fun _ => b47 s2 0)
    exact p2_eq (by rw [rd, rd]; exact r36) rfl (fun _ => b32 1) (fun _ => b32 0)
  · refine p2_ck rfl rfl ?_
    refine p2_ck (ci 37 rfl) (ci 37 rfl) ?_
    rw [ba_m hB (x := (2 : Int32)) (by decide)]
    have b82 : ∀ s2 : Int32, P2 (mX9_escapedFor_b82 (nI i) (nI n) (rGa σ 1 (2 : Int32)) s2 σ) (mX9_escapedFor_b82 (nI i) (nI n) (rGa σ 1 (2 : Int32)) s2 τ) (fun v σ' v' τ' => EA v v' ∧ FW σ σ' ∧ FW τ τ') := fun s2 => by
      unfold mX9_escapedFor_b82
      refine p2_call (t2_escapes (o := 46) rfl (by decide) ⟨hn, by omega⟩ hrd (by omega)) (fun v s v' t h => ?_)
      obtain ⟨m, W', rfl, rfl, hm, hW, hE⟩ := h
      dsimp only
      have hX := fw_e hE.2.2.2.2.1 (Or.inl rfl)
      have hX' := fw_e hE.2.2.2.2.2 (Or.inl rfl)
      have hB2 := ba_x hB (fx_w hX) (fx_w hX')
      obtain ⟨⟨-, -, z36, -, z38⟩, -⟩ := hB2.2.2.2.2.2 i hi
      have b165 : ∀ s2 s3 : Int32, P2 (mX9_escapedFor_b165 (nI m) (rGa s 1 (1 : Int32)) s2 s3 s) (mX9_escapedFor_b165 (nI m) (rGa s 1 (1 : Int32)) s2 s3 t) (fun v σ' v' τ' => EA v v' ∧ FW σ σ' ∧ FW τ τ') := fun s2 s3 => by
        unfold mX9_escapedFor_b165
        have hwE := hE.2.2.2.1
        refine p2_call (t2_escapes (o := 47) rfl (by decide) ⟨by show m ≤ 1400; omega, by omega⟩ hE.2.2.1 (by omega)) (fun v s4 v' t4 h => ?_)
        obtain ⟨m2, W2, rfl, rfl, hm2, hW2, hE2⟩ := h
        exact ok m2 s4 t4 (by omega) (fw_tr hX (fw_e hE2.2.2.2.2.1 (Or.inr rfl))) (fw_tr hX' (fw_e hE2.2.2.2.2.2 (Or.inr rfl)))
      have b128 : P2 (mX9_escapedFor_b128 (nI i) (nI m) s) (mX9_escapedFor_b128 (nI i) (nI m) t) (fun v σ' v' τ' => EA v v' ∧ FW σ σ' ∧ FW τ τ') := by
        unfold mX9_escapedFor_b128
        refine p2_ck rfl rfl ?_
        refine p2_ck (ci 36 rfl) (ci 36 rfl) ?_
        rw [ba_m hB2 (x := (1 : Int32)) (by decide)]
        have b150 : ∀ s2 : Int32, P2 (mX9_escapedFor_b150 (nI i) (nI m) (rGa s 1 (1 : Int32)) s2 s) (mX9_escapedFor_b150 (nI i) (nI m) (rGa s 1 (1 : Int32)) s2 t) (fun v σ' v' τ' => EA v v' ∧ FW σ σ' ∧ FW τ τ') := fun s2 => by
          unfold mX9_escapedFor_b150
          refine p2_ck (ci 38 rfl) (ci 38 rfl) ?_
          exact p2_eq (by rw [rd, rd]; exact z38) rfl (fun _ => b165 s2 1) (fun _ => b165 s2 0)
        exact p2_eq (by rw [rd, rd]; exact z36) rfl (fun _ => b150 1) (fun _ => b150 0)
      refine p2_ck rfl rfl ?_
      refine p2_eq (ba_m hB2 (by decide)) rfl (fun q2 => ?_) (fun q2 => b128)
      refine p2_ck (ci 36 rfl) (ci 36 rfl) ?_
      refine p2_eq (by rw [rd, rd]; exact z36) rfl (fun q3 => ?_) (fun q3 => b128)
      refine p2_ro (t2_hasSign (n := m) ⟨by show m ≤ 1400; omega, by omega⟩ hE.2.2.1) (fun y _ => ?_)
      dsimp only
      refine p2_eq rfl rfl (fun q4 => b128) (fun q4 => ?_)
      exact p2_ret ⟨⟨rfl, by decide, by decide⟩, hX, hX'⟩
    exact p2_eq (by rw [rd, rd]; exact r37) rfl (fun _ => b82 1) (fun _ => b82 0)
