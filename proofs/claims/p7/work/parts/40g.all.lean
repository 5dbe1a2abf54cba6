/-! a row is cut whole -/
def FRA (σ0 σ : RS9) : Prop := (∀ k, k ≤ 13 ∨ 45 ≤ k → σ.2 k = σ0.2 k) ∧ ∀ k, k ≠ 22 → k ≠ 26 → k ≠ 33 → k ≠ 45 → k ≠ 54 → k ≠ 55 → σ.1 k = σ0.1 k
def FRn (σ σ' : RS9) : Prop := (∀ k, k ≤ 22 ∨ 33 ≤ k → σ'.2 k = σ.2 k) ∧ ∀ k, k ≠ 26 → k ≠ 54 → k ≠ 55 → σ'.1 k = σ.1 k
theorem frn_u {o ob oe : Nat} {σ σ' : RS9} (h : FRu o ob oe σ σ') (h1 : 23 ≤ o ∧ o ≤ 32) (h2 : 23 ≤ ob ∧ ob ≤ 32) (h3 : 23 ≤ oe ∧ oe ≤ 32) : FRn σ σ' := ⟨fun k hk => h.1 k (by omega) (by omega) (by omega), fun k _ _ e => h.2 k e⟩
theorem frn_c {σ σ' : RS9} (h : FRc 27 28 29 σ σ') : FRn σ σ' := ⟨fun k hk => h.1 k (by omega) (by omega) (by omega) (fun e => absurd e (by decide)), fun k _ e _ => h.2 k e⟩
theorem frn_26 {σ : RS9} {v : Int32} : FRn σ (rSf σ 26 v) := ⟨fun _ _ => rfl, fun _ e _ _ => sf_ne e⟩
theorem frn_tr {a b c : RS9} (h1 : FRn a b) (h2 : FRn b c) : FRn a c := ⟨fun k hk => (h2.1 k hk).trans (h1.1 k hk), fun k e1 e2 e3 => (h2.2 k e1 e2 e3).trans (h1.2 k e1 e2 e3)⟩
theorem ab_rows {R C : Nat} {σ τ σ' τ' : RS9} (h : AB R C σ τ) (a : ∀ k, k ≤ 22 → σ'.2 k = σ.2 k) (b : ∀ k, k ≤ 22 → τ'.2 k = τ.2 k) (a2 : σ'.1 22 = σ.1 22) (b2 : τ'.1 22 = τ.1 22) : AB R C σ' τ' := by
  unfold AB CE CK at h ⊢
  rw [a 1 (by decide), a 13 (by decide), a 14 (by decide), a 15 (by decide), a 17 (by decide), a 18 (by decide), a 19 (by decide), a 20 (by decide), a 21 (by decide), b 1 (by decide), b 13 (by decide), b 14 (by decide), b 15 (by decide), b 17 (by decide), b 18 (by decide), b 19 (by decide), b 20 (by decide), b 21 (by decide), a2, b2]
  exact h
theorem ab_n {R C : Nat} {σ τ σ' τ' : RS9} (h : AB R C σ τ) (a : FRn σ σ') (b : FRn τ τ') : AB R C σ' τ' := ab_rows h (fun k hk => a.1 k (by omega)) (fun k hk => b.1 k (by omega)) (a.2 22 (by decide) (by decide) (by decide)) (b.2 22 (by decide) (by decide) (by decide))
theorem ab_t {R C : Nat} {σ τ σ' τ' : RS9} (h : AB R C σ τ) (a : FT2 σ σ') (b : FT2 τ τ') : AB R C σ' τ' := ab_rows h (fun k hk => a.1 k (by omega)) (fun k hk => b.1 k (by omega)) (a.2 22 (by decide) (by decide)) (b.2 22 (by decide) (by decide))
theorem pr_rows {p : Nat} {L : Int} {σ τ σ' τ' : RS9} (h : PR p L σ τ) (a : ∀ k, 34 ≤ k → k ≤ 42 → σ'.2 k = σ.2 k) (b : ∀ k, 34 ≤ k → k ≤ 42 → τ'.2 k = τ.2 k) (a3 : σ'.1 33 = σ.1 33) (b3 : τ'.1 33 = τ.1 33) (a4 : σ'.1 45 = σ.1 45) (b4 : τ'.1 45 = τ.1 45) : PR p L σ' τ' := by
  unfold PR PE at h ⊢
  rw [a 34 (by decide) (by decide), a 35 (by decide) (by decide), a 36 (by decide) (by decide), a 37 (by decide) (by decide), a 38 (by decide) (by decide), a 41 (by decide) (by decide), a 42 (by decide) (by decide), b 34 (by decide) (by decide), b 35 (by decide) (by decide), b 36 (by decide) (by decide), b 37 (by decide) (by decide), b 38 (by decide) (by decide), a3, b3, a4, b4]
  exact h
theorem pr_n {p : Nat} {L : Int} {σ τ σ' τ' : RS9} (h : PR p L σ τ) (a : FRn σ σ') (b : FRn τ τ') : PR p L σ' τ' := pr_rows h (fun k hk _ => a.1 k (by omega)) (fun k hk _ => b.1 k (by omega)) (a.2 33 (by decide) (by decide) (by decide)) (b.2 33 (by decide) (by decide) (by decide)) (a.2 45 (by decide) (by decide) (by decide)) (b.2 45 (by decide) (by decide) (by decide))
theorem fra_n {σ0 σ σ' : RS9} (h : FRA σ0 σ) (a : FRn σ σ') : FRA σ0 σ' := ⟨fun k hk => (a.1 k (by omega)).trans (h.1 k hk), fun k e1 e2 e3 e4 e5 e6 => (a.2 k e2 e5 e6).trans (h.2 k e1 e2 e3 e4 e5 e6)⟩
theorem fra_t {σ0 σ σ' : RS9} (h : FRA σ0 σ) (a : FT2 σ σ') : FRA σ0 σ' := ⟨fun k hk => (a.1 k (by omega)).trans (h.1 k hk), fun k e1 e2 e3 e4 e5 e6 => (a.2 k e3 e4).trans (h.2 k e1 e2 e3 e4 e5 e6)⟩
theorem ou_fr {o ob oe n : Nat} {lo h : Int} {σ τ σ' τ' : RS9} (hO : OU o ob oe n lo h σ τ) (a1 : σ'.2 o = σ.2 o) (a2 : σ'.2 ob = σ.2 ob) (a3 : σ'.2 oe = σ.2 oe) (b1 : τ'.2 o = τ.2 o) (b2 : τ'.2 ob = τ.2 ob) (b3 : τ'.2 oe = τ.2 oe) : OU o ob oe n lo h σ' τ' := by
  unfold OU at hO ⊢
  rw [a1, a2, a3, b1, b2, b3]; exact hO
theorem ou_src {o ob oe n : Nat} {lo h : Int} {σ τ : RS9} (hO : OU o ob oe n lo h σ τ) (hlo : 0 ≤ lo) : SRC o ob oe n σ τ := ⟨fun i hi => by
  obtain ⟨a1, a2, a3, a4, a5, -⟩ := hO i hi
  exact ⟨a1, a2, a3, by omega, a5⟩, fun i j hij hj => (hO j hj).2.2.2.2.2.2 i hij⟩
theorem ce_fr {N : Int} {of ti wh i : Nat} {a : Int} {σ τ σ' τ' : RS9} (h : CE N of ti wh a σ τ i) (a1 : σ'.2 of = σ.2 of) (a2 : σ'.2 ti = σ.2 ti) (a3 : σ'.2 wh = σ.2 wh) (b1 : τ'.2 of = τ.2 of) (b2 : τ'.2 ti = τ.2 ti) (b3 : τ'.2 wh = τ.2 wh) : CE N of ti wh a σ' τ' i := by
  unfold CE at h ⊢
  rw [a1, a2, a3, b1, b2, b3]; exact h
/-- a cut by its places -/
theorem ce_ab {N of ti wh i : Nat} {a : Int} {σ τ : RS9} (h : CE N of ti wh a σ τ i) (hN : N ≤ 600) : ∃ x y : Nat, σ.2 of i = nI x ∧ τ.2 of i = nI x ∧ σ.2 ti i = nI y ∧ τ.2 ti i = nI y ∧ x < y ∧ y ≤ N := by
  obtain ⟨h1, h2, h3, h4, h5, h6, h7, h8⟩ := h
  obtain ⟨x, hx, ex⟩ := nI_back (x := σ.2 of i) (by omega) (by omega)
  obtain ⟨y, hy, ey⟩ := nI_back (x := σ.2 ti i) (by omega) (by omega)
  have tx : (nI x).toInt = (x : Int) := nI_toInt (by omega)
  have ty : (nI y).toInt = (y : Int) := nI_toInt (by omega)
  rw [ex, tx] at h5
  rw [ey, ty] at h5 h6
  exact ⟨x, y, ex, h1.trans ex, ey, h2.trans ey, by omega, by omega⟩
set_option maxHeartbeats 2000000 in
theorem t2_cutsAll_l220 {R C c T ic : Nat} {lo hi B : Int} {σ0 τ0 : RS9} {Q : Int32 → RS9 → Int32 → RS9 → Prop} {rec78 : Int32 → RS9 → Option (Int32 × RS9)} (hc : c < C) (hT : T ≤ 600 ∧ ic ≤ 600) (hlo : 0 ≤ lo) (hhi : hi ≤ 600) (Hr : ∀ (σ τ : RS9) (p : Nat) (L : Int), AB R C σ τ → PR p L σ τ → FRA σ0 σ → FRA τ0 τ → L ≤ hi → (σ.2 18 c).toInt = B → P2 (rec78 (nI (c + 1)) σ) (rec78 (nI (c + 1)) τ) Q) : ∀ (d i p : Nat) (L : Int) (σ τ : RS9), AB R C σ τ → PR p L σ τ → FRA σ0 σ → FRA τ0 τ → OU 23 24 25 T lo hi σ τ → (∀ j, j < ic → CE T 27 28 29 602 σ τ j) → L ≤ hi → (σ.2 18 c).toInt = B → (i < ic → L ≤ (σ.2 24 (σ.2 27 i).toInt.toNat).toInt) → i ≤ ic → 1000 < i + d → P2 (mX9_cutsAll_l220 rec78 d (nI c) (nI ic) (nI i) σ) (mX9_cutsAll_l220 rec78 d (nI c) (nI ic) (nI i) τ) Q := by
  intro d
  induction d with
  | zero => intro i p L σ τ _ _ _ _ _ _ _ _ _ _ hm; exfalso; omega
  | succ d ih =>
    intro i p L σ τ hA hP hF hF' hO hE hLh hB hLi hic hm
    have ei : (nI i).toInt = (i : Int) := nI_toInt (by omega)
    have eic : (nI ic).toInt = (ic : Int) := nI_toInt (by omega)
    unfold mX9_cutsAll_l220
    refine p2_le eic ei rfl rfl (fun q => ?_) (fun q => ?_)
    · unfold mX9_cutsAll_b333
      rw [nI_1]
      exact Hr σ τ p L hA hP hF hF' hLh hB
    · have hEi := hE i (by omega)
      obtain ⟨a, b, ea, ea', eb, eb', hab, hbT⟩ := ce_ab hEi hT.1
      have h27 : (σ.2 27 i).toInt.toNat = a := by rw [ea, nI_toInt (by omega)]; rfl
      have ci : ∀ z, rLen z = 600 → rIn (nI i) (rLen z) = true := fun z hz => by rw [hz]; exact inb_nI (by omega) (by decide)
      refine p2_ck rfl rfl ?_
      refine p2_ck (ci 29 rfl) (ci 29 rfl) ?_
      have r29 : rGa τ 29 (nI i) = rGa σ 29 (nI i) := by rw [rd_nI (by omega), rd_nI (by omega)]; exact hEi.2.2.1
      rw [ab_m hA (x := (2 : Int32)) (by decide)]
      have step : ∀ (w : Int32), P2 (mX9_cutsAll_b247 rec78 (fun v1 v2 v3 σ => mX9_cutsAll_l220 rec78 d v1 v2 v3 σ) (nI c) (nI ic) (nI i) (rGa σ 1 (2 : Int32)) w σ) (mX9_cutsAll_b247 rec78 (fun v1 v2 v3 σ => mX9_cutsAll_l220 rec78 d v1 v2 v3 σ) (nI c) (nI ic) (nI i) (rGa σ 1 (2 : Int32)) w τ) Q := fun w => by
        unfold mX9_cutsAll_b247
        refine p2_ck (ci 27 rfl) (ci 27 rfl) ?_
        refine p2_ck (ci 28 rfl) (ci 28 rfl) ?_
        rw [show rGa σ 27 (nI i) = nI a from (rd_nI (by omega)).trans ea, show rGa τ 27 (nI i) = nI a from (rd_nI (by omega)).trans ea', show rGa σ 28 (nI i) = nI b from (rd_nI (by omega)).trans eb, show rGa τ 28 (nI i) = nI b from (rd_nI (by omega)).trans eb']
        refine p2_call (t2_undoes (N := T) (by unfold RU; decide) ⟨hab, hbT, hT.1⟩ (ou_src hO hlo)) (fun v s v' t hq => ?_)
        obtain ⟨n', rfl, rfl, hn0, hn6, hlen, hO2, hU, hU'⟩ := hq
        dsimp only
        have hN := frn_u hU (by decide) (by decide) (by decide)
        have hN' := frn_u hU' (by decide) (by decide) (by decide)
        have hA2 := ab_n hA hN hN'
        have hP2 := pr_n hP hN hN'
        have k : ∀ z, 23 ≤ z → z ≤ 29 → s.2 z = σ.2 z := fun z h1 h2 => hU.1 z (by omega) (by omega) (by omega)
        have k' : ∀ z, 23 ≤ z → z ≤ 29 → t.2 z = τ.2 z := fun z h1 h2 => hU'.1 z (by omega) (by omega) (by omega)
        have hOa := hO a (by omega)
        have hOb := hO (b - 1) (by omega)
        refine p2_ck (ci 27 rfl) (ci 27 rfl) ?_
        have r27 : rGa t 27 (nI i) = rGa s 27 (nI i) := by rw [rd_nI (by omega), rd_nI (by omega), k 27 (by decide) (by decide), k' 27 (by decide) (by decide)]; exact hEi.1
        have s29 : rGa t 29 (nI i) = rGa s 29 (nI i) := by rw [rd_nI (by omega), rd_nI (by omega), k 29 (by decide) (by decide), k' 29 (by decide) (by decide)]; exact hEi.2.2.1
        have b318 : ∀ w6 : Int32, P2 (mX9_cutsAll_b318 rec78 (fun v1 v2 v3 σ => mX9_cutsAll_l220 rec78 d v1 v2 v3 σ) (nI c) (nI ic) (nI i) (nI c) 30 31 32 (nI n') w6 s) (mX9_cutsAll_b318 rec78 (fun v1 v2 v3 σ => mX9_cutsAll_l220 rec78 d v1 v2 v3 σ) (nI c) (nI ic) (nI i) (nI c) 30 31 32 (nI n') w6 t) Q := fun w6 => by
          unfold mX9_cutsAll_b318
          refine p2_ck (ci 29 rfl) (ci 29 rfl) ?_
          rw [s29]
          have hLa : L ≤ (σ.2 24 a).toInt := by rw [← h27]; exact hLi (by omega)
          refine p2_call (t2_takes hA2 hP2 hc (by decide) hn6 hO2 hLa (by omega) (by omega)) (fun v s2 v' t2 hq => ?_)
          obtain ⟨p', hP3, hT2, hT2'⟩ := hq
          dsimp only
          rw [nI_1]
          have m : ∀ z, 23 ≤ z → z ≤ 29 → s2.2 z = σ.2 z := fun z h1 h2 => (hT2.1 z (by omega)).trans (k z h1 h2)
          have m' : ∀ z, 23 ≤ z → z ≤ 29 → t2.2 z = τ.2 z := fun z h1 h2 => (hT2'.1 z (by omega)).trans (k' z h1 h2)
          refine ih (i + 1) p' _ s2 t2 (ab_t hA2 hT2 hT2') hP3 (fra_t (fra_n hF hN) hT2) (fra_t (fra_n hF' hN') hT2') (ou_fr hO (m 23 (by decide) (by decide)) (m 24 (by decide) (by decide)) (m 25 (by decide) (by decide)) (m' 23 (by decide) (by decide)) (m' 24 (by decide) (by decide)) (m' 25 (by decide) (by decide))) (fun j hj => ce_fr (hE j hj) (m 27 (by decide) (by decide)) (m 28 (by decide) (by decide)) (m 29 (by decide) (by decide)) (m' 27 (by decide) (by decide)) (m' 28 (by decide) (by decide)) (m' 29 (by decide) (by decide))) (by omega) (by rw [hT2.1 18 (by decide), hU.1 18 (by decide) (by decide) (by decide)]; exact hB) (fun hi1 => ?_) (by omega) (by omega)
          rw [m 24 (by decide) (by decide), m 27 (by decide) (by decide)]
          obtain ⟨a1, b1, ea1, ea1', eb1, eb1', hab1, hbT1⟩ := ce_ab (hE (i + 1) hi1) hT.1
          have hs := (hE (i + 1) hi1).2.2.2.2.2.2.1 i (by omega)
          have t1 : (nI a1).toInt = (a1 : Int) := nI_toInt (by omega)
          have t3 : (nI b).toInt = (b : Int) := nI_toInt (by omega)
          rw [eb, ea1, t1, t3] at hs
          rw [ea1, t1]
          exact (hO a1 (by omega)).2.2.2.2.2.2 (b - 1) (by omega)
        exact p2_eq r27 rfl (fun q1 => b318 1) (fun q1 => b318 0)
      exact p2_eq r29 rfl (fun q1 => step 1) (fun q1 => step 0)
