section ACT2
variable {σ : RS9}
theorem lock_ix (q : Nat) : (6 : Int32) + ((9 : Int32) * nI q) = nI (6 + 9 * q) := by
  have e : (9 : Int32) * nI q = nI (9 * q) := nI_mulc 9 q
  rw [e]; exact nI_add 6 (9 * q)
theorem a_lock0 (hC : CORE σ) {a n : Nat} (hn : 1 ≤ n ∧ n ≤ 8) (ha : a + n ≤ 400) : P1 (mX9_lock0 (nI a) (nI n) σ) (fun w σ' => (w ≤ 0 → CORE σ') ∧ FA σ σ') := by
  have hV := hC.1
  have h5 := hV.2.2.1
  have m5 : rGa σ 1 (5 : Int32) = σ.2 1 5 := rfl
  obtain ⟨q, hq6, hq⟩ := nI_back (x := σ.2 1 5) (by omega) (by omega)
  have hq4 : q ≤ 4 := by have := h5.2; rw [hq, nI_toInt (by omega)] at this; omega
  unfold mX9_lock0
  refine q1_ck rfl ?_
  refine q1_eq (fun _ => q1_ret ⟨fun e => absurd e (by decide), fa_r σ⟩) (fun hne => ?_)
  have hq3 : q ≤ 3 := by
    by_cases e : q = 4
    · exfalso; apply hne; rw [m5, hq, e]; rfl
    · omega
  have fin : ∀ (d k : Nat) (u : RS9), (∀ z, z ≠ 1 → u.2 z = σ.2 z) → (∀ z, u.1 z = σ.1 z) → (∀ j, (j < 6 + 9 * q ∨ 6 + 9 * q + 9 ≤ j) → u.2 1 j = σ.2 1 j) → u.2 1 (6 + 9 * q) = nI n → k ≤ n → 100 < k + d → P1 (mX9_lock0_l141 d (nI a) (nI n) (nI (6 + 9 * q)) (nI k) u) (fun w σ' => (w ≤ 0 → CORE σ') ∧ FA σ σ') := by
    intro d
    induction d with
    | zero => intro k u _ _ _ _ hk hm; exfalso; omega
    | succ d ih =>
      intro k u h1 h2 h3 h4 hk hm
      have ek : (nI k).toInt = (k : Int) := nI_toInt (by omega)
      have en : (nI n).toInt = (n : Int) := nI_toInt (by omega)
      unfold mX9_lock0_l141
      refine q1_le en ek (fun _ => ?_) (fun q2 => ?_)
      · refine q1_ck rfl (q1_ck rfl ?_)
        have e5 : rGa u 1 (5 : Int32) = nI q := (h3 5 (by omega)).trans hq
        rw [e5, nI_1]
        have r : ∀ i, (rSa u 1 (5 : Int32) (nI (q + 1))).2 1 i = if i = 5 then nI (q + 1) else u.2 1 i := fun i => sa_nI (c := 5) (by omega)
        have hV2 : VM9 ((rSa u 1 (5 : Int32) (nI (q + 1))).2 1) := by
          obtain ⟨v1, v2, v3, v4, v5, v6, v7⟩ := hV
          refine ⟨by rw [r, if_neg (by omega), h3 0 (by omega)]; exact v1, by rw [r, if_neg (by omega), h3 4 (by omega)]; exact v2, by rw [r, if_pos rfl, nI_toInt (by omega)]; omega, by rw [r, if_neg (by omega), h3 42 (by omega)]; exact v4, fun p hp => by rw [r, if_neg (by omega), h3 _ (by omega)]; exact v5 p hp, fun j hj => by rw [r, if_neg (by omega), h3 _ (by omega)]; exact v6 j hj, fun l hl => ?_⟩
          rw [r, if_neg (by omega)]
          by_cases e : l = q
          · rw [e, h4, en]; omega
          · rw [h3 _ (by omega)]; exact v7 l hl
        refine q1_call (a_cutsAnew hV2) (fun w s hs => ?_)
        refine q1_ret ⟨fun _ => hs.1, fa_tr ⟨fun z hz => (sa_ne (by omega)).trans (h1 z (by omega)), fun z _ => h2 z⟩ hs.2⟩
      · rw [nI_add, nI_1, nI_1, nI_add]
        refine q1_ck (inb_nI (n := 400) (by omega) (by decide)) (q1_ck (cr1 (by omega)) ?_)
        refine ih (k + 1) _ (fun z hz => (sa_ne hz).trans (h1 z hz)) h2 (fun j hj => ?_) ?_ (by omega) (by omega)
        · rw [sa_nI (by omega), if_neg (by omega)]; exact h3 j hj
        · rw [sa_nI (by omega), if_neg (by omega)]; exact h4
  have key : ∀ (d l : Nat), l ≤ q → 100 < l + d → P1 (mX9_lock0_l15 d (nI a) (nI n) (nI l) σ) (fun w σ' => (w ≤ 0 → CORE σ') ∧ FA σ σ') := by
    intro d
    induction d with
    | zero => intro l hl hm; exfalso; omega
    | succ d ih =>
      intro l hl hm
      have el : (nI l).toInt = (l : Int) := nI_toInt (by omega)
      have eq : (rGa σ 1 (5 : Int32)).toInt = (q : Int) := by rw [m5, hq]; exact nI_toInt (by omega)
      unfold mX9_lock0_l15
      refine q1_ck rfl ?_
      refine q1_le eq el (fun _ => ?_) (fun q2 => ?_)
      · refine q1_ck rfl ?_
        rw [m5, hq, lock_ix]
        refine q1_ck (cr1 (by omega)) ?_
        refine fin rFU 0 _ (fun z hz => sa_ne hz) (fun _ => rfl) (fun j hj => ?_) ?_ (by omega) (by unfold rFU; omega)
        · rw [sa_nI (by omega), if_neg (by omega)]
        · rw [sa_nI (by omega), if_pos rfl]
      · rw [lock_ix]
        refine q1_ck (cr1 (by omega)) ?_
        have nx : P1 (mX9_lock0_l15 d (nI a) (nI n) (nI l + (1 : Int32)) σ) (fun w σ' => (w ≤ 0 → CORE σ') ∧ FA σ σ') := by rw [nI_1]; exact ih (l + 1) (by omega) (by omega)
        have b104 : ∀ v4 : Int32, P1 (mX9_lock0_b104 (fun v1 v2 v3 σ => mX9_lock0_l15 d v1 v2 v3 σ) (nI a) (nI n) (nI l) v4 σ) (fun w σ' => (w ≤ 0 → CORE σ') ∧ FA σ σ') := fun v4 => by
          unfold mX9_lock0_b104
          exact q1_eq (fun _ => nx) (fun _ => q1_ret ⟨fun e => absurd e (by decide), fa_r σ⟩)
        have inner : ∀ (dd k : Nat) (v4 : Int32), k ≤ n → 100 < k + dd → P1 (mX9_lock0_l51 (fun v1 v2 v3 σ => mX9_lock0_l15 d v1 v2 v3 σ) dd (nI a) (nI n) (nI l) v4 (nI k) σ) (fun w σ' => (w ≤ 0 → CORE σ') ∧ FA σ σ') := by
          intro dd
          induction dd with
          | zero => intro k v4 hk hm; exfalso; omega
          | succ dd ih2 =>
            intro k v4 hk hm
            have ek : (nI k).toInt = (k : Int) := nI_toInt (by omega)
            have en : (nI n).toInt = (n : Int) := nI_toInt (by omega)
            unfold mX9_lock0_l51
            refine q1_le en ek (fun _ => b104 _) (fun q3 => ?_)
            refine q1_eq (fun _ => b104 _) (fun _ => ?_)
            rw [lock_ix, nI_1, nI_add, nI_add]
            refine q1_ck (cr1 (by omega)) (q1_ck (inb_nI (n := 400) (by omega) (by decide)) ?_)
            have nx2 : ∀ w : Int32, P1 (mX9_lock0_l51 (fun v1 v2 v3 σ => mX9_lock0_l15 d v1 v2 v3 σ) dd (nI a) (nI n) (nI l) w (nI k + (1 : Int32)) σ) (fun w σ' => (w ≤ 0 → CORE σ') ∧ FA σ σ') := fun w => by rw [nI_1]; exact ih2 (k + 1) w (by omega) (by omega)
            exact q1_eq (fun _ => nx2 1) (fun _ => nx2 0)
        exact q1_eq (fun _ => inner rFU 0 1 (by omega) (by unfold rFU; omega)) (fun _ => inner rFU 0 0 (by omega) (by unfold rFU; omega))
  exact key rFU 0 (by omega) (by unfold rFU; omega)
/-! what is told -/
def TLD (i n : Nat) (σ σ' : RS9) : Prop := (∀ z, z ≠ 1 → σ'.2 z = σ.2 z) ∧ (∀ z, σ'.1 z = σ.1 z) ∧ σ'.2 1 (443 + 61 * i) = nI n ∧ (∀ j, j < n → σ'.2 1 (444 + 61 * i + j) = σ.2 53 j) ∧ ∀ j, (j < 443 + 61 * i ∨ 504 + 61 * i ≤ j) → σ'.2 1 j = σ.2 1 j
theorem a_tells {i n : Nat} (hi : i < 40) (hn : n ≤ 60) : P1 (mX9_tells (nI i) (nI n) σ) (fun w σ' => TLD i n σ σ') := by
  have key : ∀ (d k : Nat) (u : RS9), (∀ z, z ≠ 1 → u.2 z = σ.2 z) → (∀ z, u.1 z = σ.1 z) → u.2 1 (443 + 61 * i) = nI n → (∀ j, j < k → u.2 1 (444 + 61 * i + j) = σ.2 53 j) → (∀ j, (j < 443 + 61 * i ∨ 504 + 61 * i ≤ j) → u.2 1 j = σ.2 1 j) → k ≤ n → 100 < k + d → P1 (mX9_tells_l16 d (nI i) (nI n) (nI k) u) (fun w σ' => TLD i n σ σ') := by
    intro d
    induction d with
    | zero => intro k u _ _ _ _ _ hk hm; exfalso; omega
    | succ d ih =>
      intro k u h1 h2 h3 h4 h5 hk hm
      have ek : (nI k).toInt = (k : Int) := nI_toInt (by omega)
      have en : (nI n).toInt = (n : Int) := nI_toInt (by omega)
      unfold mX9_tells_l16
      refine q1_le en ek (fun _ => ?_) (fun q => ?_)
      · exact q1_ret ⟨h1, h2, h3, fun j hj => h4 j (by omega), h5⟩
      · rw [told_ix, nI_1, nI_add, nI_1, rd_nI (by omega)]
        refine q1_ck (inb_nI (n := 60) (by omega) (by decide)) (q1_ck (cr1 (by omega)) ?_)
        refine ih (k + 1) _ (fun z hz => (sa_ne hz).trans (h1 z hz)) h2 ?_ (fun j hj => ?_) (fun j hj => ?_) (by omega) (by omega)
        · rw [sa_nI (by omega), if_neg (by omega)]; exact h3
        · rw [sa_nI (by omega)]
          by_cases e : j = k
          · rw [if_pos (by omega), h1 53 (by decide), e]
          · rw [if_neg (by omega)]; exact h4 j (by omega)
        · rw [sa_nI (by omega), if_neg (by omega)]; exact h5 j hj
  unfold mX9_tells
  rw [told_ix]
  refine q1_ck (cr1 (by omega)) ?_
  refine key rFU 0 _ (fun z hz => sa_ne hz) (fun _ => rfl) ?_ (fun j hj => absurd hj (by omega)) (fun j hj => ?_) (by omega) (by unfold rFU; omega)
  · rw [sa_nI (by omega), if_pos rfl]
  · rw [sa_nI (by omega), if_neg (by omega)]
theorem tld_tv {i n : Nat} {σ' : RS9} (hT : TV σ) (hi : i < 40) (hn : n ≤ 60) (h : TLD i n σ σ') : TV σ' := by
  obtain ⟨h1, h2, h3, h4, h5⟩ := h
  obtain ⟨v1, v2, v3, v4, v5, v6, v7⟩ := id hT.1
  refine ⟨⟨by rw [h5 0 (by omega)]; exact v1, by rw [h5 4 (by omega)]; exact v2, by rw [h5 5 (by omega)]; exact v3, by rw [h5 42 (by omega)]; exact v4, fun p hp => ?_, fun k hk => by rw [h5 _ (by omega)]; exact v6 k hk, fun l hl => by rw [h5 _ (by omega)]; exact v7 l hl⟩, tab_m hT.1 hT.2 (fun j hj _ => h5 j (by omega)) (fun k a b => h1 k (by omega)) (h2 33) (h2 45)⟩
  by_cases e : p = i
  · rw [e, h3, nI_toInt (by omega)]; omega
  · rw [h5 _ (by omega)]; exact v5 p hp
/-- tables alike -/
theorem tv_ba {p : Nat} {σ' : RS9} (hB : BA p σ σ) (hm : ∀ j, j < 443 → j ≠ 42 → σ'.2 1 j = σ.2 1 j) (hr : ∀ k, 34 ≤ k → k ≤ 42 → σ'.2 k = σ.2 k) (h33 : σ'.1 33 = σ.1 33) : BA p σ σ' := by
  obtain ⟨b1, b2, b3, b4, b5, b6⟩ := hB
  refine ⟨hm, b2, b3, h33.trans b4, b5, fun i hi => ?_⟩
  rw [hr 34 (by decide) (by decide), hr 35 (by decide) (by decide), hr 36 (by decide) (by decide), hr 37 (by decide) (by decide), hr 38 (by decide) (by decide)]
  exact b6 i hi
/-- what can be escaped can be built -/
theorem new_bo {p i n : Nat} {s σ' : RS9} {v : Int32} (hB : BA p σ σ) (hi : i < p) (hn : n ≤ 60) (he : mX9_escapedFor (nI i) (nI n) σ = some (v, s)) (hv : v ≠ -1) (hs : FW σ s) (hT : TLD i n s σ') (hV : VM9 (σ'.2 1)) : 0 ≤ bo σ' i := by
  have hp := hB.2.2.2.2.1
  obtain ⟨h1, h2, h3, h4, h5⟩ := hT
  have hB' : BA p σ σ' := tv_ba hB (fun j hj _ => by rw [h5 j (by omega), hs.1 1 (by decide) (by decide)]) (fun k a b => (h1 k (by omega)).trans (hs.1 k (by omega) (by omega))) ((h2 33).trans (hs.2 33 (by decide)))
  have hBs : BA p σ' σ' := by
    obtain ⟨b1, b2, b3, b4, b5, b6⟩ := hB'
    refine ⟨fun _ _ _ => rfl, hV, b4, b4, b5, fun j hj => ⟨⟨rfl, rfl, rfl, rfl, rfl⟩, ?_⟩⟩
    obtain ⟨⟨c1, c2, -⟩, c3⟩ := b6 j hj
    rw [c1, c2]; exact c3
  have hne : ¬ (nI n = -1) := fun e => by
    have h1 := congrArg Int32.toInt e
    rw [nI_toInt (by omega), kt_m1] at h1
    omega
  have hb : mX9_builtOf (nI i) σ' = (mX9_holdsTold (nI i) σ').bind fun r2 => (mX9_toldOf (nI i) r2.2).bind fun r3 => (mX9_escapedFor (nI i) r3.1 r3.2).bind fun r4 => some (r4.1, r4.2) := by
    unfold mX9_builtOf
    rw [toldOf_eq (by omega), Option.bind_some]
    dsimp only
    rw [h3, if_neg hne]
  obtain ⟨w, u, w', u', e1, e2, g1, g2, g3, gS, g4⟩ := t2_holdsTold_l2 hi hp hn h3 rFU 0 σ' σ' hBs (fun _ _ _ => rfl) ⟨fun _ _ _ _ => rfl, fun _ _ => rfl⟩ ⟨fun _ _ _ _ => rfl, fun _ _ => rfl⟩ (fun j hj => absurd hj (by omega)) (by omega) (by unfold rFU; omega)
  have hBu : BA p σ u := tv_ba hB (fun j hj h42 => by rw [g1.1 1 (by decide) (by decide) (by decide)]; exact hB'.1 j hj h42) (fun k a b => (g1.1 k (by omega) (by omega) (by omega)).trans ((h1 k (by omega)).trans (hs.1 k (by omega) (by omega)))) ((g1.2 33 (by decide)).trans ((h2 33).trans (hs.2 33 (by decide))))
  obtain ⟨x, y, x', y', f1, f2, ⟨k1, k2, k3⟩, -, -⟩ := t2_escapedFor hBu hi hn (fun j hj => by rw [(g4 j hj).2, h4 j hj, hs.1 53 (by decide) (by decide)])
  have ex : x = v := (Prod.mk.inj (Option.some.inj (f1.symm.trans he))).1
  unfold bo
  rw [hb]
  unfold mX9_holdsTold
  rw [show mX9_holdsTold_l2 rFU (nI i) (0 : Int32) σ' = some (w, u) from e1, Option.bind_some]
  dsimp only
  rw [toldOf_eq (by omega), Option.bind_some]
  dsimp only
  rw [g1.1 1 (by decide) (by decide) (by decide), h3, f2, Option.bind_some]
  show 0 ≤ x'.toInt
  rw [k1]
  have : x.toInt ≠ -1 := fun e => hv (ex ▸ Int32.toInt_inj.mp (e.trans kt_m1.symm))
  omega
/-- what was built before, where another was told -/
theorem old_bo {p i k n : Nat} {σ' : RS9} (hB : BA p σ σ) (hk : k < p) (hki : k ≠ i) (h : TLD i n σ σ') : bo σ' k = bo σ k := by
  obtain ⟨h1, h2, h3, h4, h5⟩ := h
  exact (bo_eq (tv_ba hB (fun j hj _ => h5 j (by omega)) (fun k a b => h1 k (by omega)) (h2 33)) hk (fun j a b => h5 j (by omega))).1
end ACT2
