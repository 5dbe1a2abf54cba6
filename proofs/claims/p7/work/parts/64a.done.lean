/-! the reference remembers; a call is done -/
def PA9 (σ : RS9) (L : List SST) : Prop := σ.1 5 = nI L.length ∧ L.length ≤ 8 ∧ ∀ i Q, L[i]? = some Q → MR9 (fun k => σ.2 4 (4347 * i + k)) Q
def IM9 (σ : RS9) (o : Option SST) : Prop := σ.1 6 = bI o.isSome ∧ ∀ Q, o = some Q → MR9 (σ.2 3) Q
theorem PA_frx {σ σ' : RS9} {L : List SST} {R F : Nat → Prop} (h : PA9 σ L) (hX : FRX R F σ σ') (hR : ¬ R 4) (hF : ¬ F 5) : PA9 σ' L := ⟨(hX.2 5 hF).trans h.1, h.2.1, fun i Q hq => by rw [hX.1 4 hR]; exact h.2.2 i Q hq⟩
theorem IM_frx {σ σ' : RS9} {o : Option SST} {R F : Nat → Prop} (h : IM9 σ o) (hX : FRX R F σ σ') (hR : ¬ R 3) (hF : ¬ F 6) : IM9 σ' o := ⟨(hX.2 6 hF).trans h.1, fun Q hq => by rw [hX.1 3 hR]; exact h.2 Q hq⟩
theorem nI_43 {u k : Nat} : (4347 : Int32) * nI u + nI k = nI (4347 * u + k) := by
  rw [show (4347 : Int32) * nI u = nI (4347 * u) from nI_mulc 4347 u]; exact nI_add _ _
section RRM
variable {σ : RS9}
theorem r_rem52 {L : List SST} {S0 : SST} (hL : PA9 σ L) (hlt : L.length < 8) (h2 : MR9 (σ.2 2) S0) : PQ (mX9_remembers_b50 σ) (fun y => ∃ σ', y = (0, σ') ∧ PA9 σ' (L ++ [S0]) ∧ FRX (fun k => k = 4) (fun k => k = 5) σ σ') := by
  obtain ⟨g1, g2, g3⟩ := hL
  have key : ∀ (d i : Nat) (σ1 : RS9), i ≤ 4347 → FRX (fun k => k = 4) NF9 σ σ1 → (∀ z, z < 4347 * L.length → σ1.2 4 z = σ.2 4 z) → (∀ z, z < i → σ1.2 4 (4347 * L.length + z) = σ.2 2 z) → PQ (mX9_remembers_l52 d (nI i) σ1) (fun y => ∃ σ', y = (0, σ') ∧ PA9 σ' (L ++ [S0]) ∧ FRX (fun k => k = 4) (fun k => k = 5) σ σ') := by
    intro d
    induction d with
    | zero => intro i σ1 _ _ _ _; exact pq_none
    | succ d ih =>
      intro i σ1 hi hX k1 k2
      have e5 : σ1.1 5 = nI L.length := (hX.2 5 (fun q => q)).trans g1
      unfold mX9_remembers_l52
      rw [e5]
      refine pq_le (show (4347 : Int32).toInt = 4347 by decide) (nI_toInt (by omega)) (fun q => ?_) (fun q => ?_)
      · have e : i = 4347 := by omega
        subst e
        rw [nI_1]
        refine pq_ret ⟨_, rfl, ⟨by rw [sf_eq, List.length_append]; rfl, by rw [List.length_append]; show L.length + 1 ≤ 8; omega, fun j Q hq => ?_⟩, ⟨fun k hk => hX.1 k hk, fun k hk => (sf_ne hk).trans (hX.2 k (fun q => q))⟩⟩
        show MR9 (fun k => σ1.2 4 (4347 * j + k)) Q
        rcases Nat.lt_or_ge j L.length with hj | hj
        · rw [List.getElem?_append_left hj] at hq
          exact MR9_ext (g3 j Q hq) (fun z hz => k1 _ (by omega))
        · have hj2 : j < (L ++ [S0]).length := (List.getElem?_eq_some_iff.mp hq).1
          rw [List.length_append] at hj2
          have hj3 : j < L.length + 1 := hj2
          have ej : j = L.length := by omega
          subst ej
          rw [List.getElem?_append_right (Nat.le_refl _), Nat.sub_self] at hq
          have eQ : S0 = Q := Option.some.inj hq
          rw [← eQ]
          exact MR9_ext h2 (fun z hz => k2 z hz)
      · rw [nI_43, rd_nI (by omega), hX.1 2 (fun q => by omega), nI_1]
        refine pq_ck (pq_ck (ih (i + 1) _ (by omega) (frx_tr hX ⟨fun k hk => sa_ne hk, fun k hk => rfl⟩) (fun z hz => ?_) (fun z hz => ?_)))
        · rw [sa_nI (by omega), if_neg (by omega)]; exact k1 z hz
        · rw [sa_nI (by omega)]
          by_cases e : z = i
          · rw [if_pos (by rw [e]), e]
          · rw [if_neg (by omega)]; exact k2 z (by omega)
  unfold mX9_remembers_b50
  exact key rFU 0 σ (Nat.zero_le _) frx_rfl (fun z _ => rfl) (fun z hz => absurd hz (Nat.not_lt_zero _))
theorem r_remembers {L : List SST} {S0 : SST} (hL : PA9 σ L) (h2 : MR9 (σ.2 2) S0) : PQ (mX9_remembers σ) (fun y => ∃ σ', y = (0, σ') ∧ PA9 σ' (sRem L S0) ∧ FRX (fun k => k = 4) (fun k => k = 5) σ σ') := by
  have g1 := hL.1
  have g2 := hL.2.1
  unfold mX9_remembers
  rw [g1]
  refine pq_eqi (nI_toInt (by omega)) kt_8 (fun q => ?_) (fun q => ?_)
  · have e8 : L.length = 8 := by omega
    have es : sRem L S0 = L.drop 1 ++ [S0] := if_pos e8
    rw [es]
    have key : ∀ (d i : Nat) (σ1 : RS9), i ≤ 30429 → FRX (fun k => k = 4) NF9 σ σ1 → (∀ z, z < i → σ1.2 4 z = σ.2 4 (z + 4347)) → (∀ z, i ≤ z → σ1.2 4 z = σ.2 4 z) → PQ (mX9_remembers_l11 d (nI i) σ1) (fun y => ∃ σ', y = (0, σ') ∧ PA9 σ' (L.drop 1 ++ [S0]) ∧ FRX (fun k => k = 4) (fun k => k = 5) σ σ') := by
      intro d
      induction d with
      | zero => intro i σ1 _ _ _ _; exact pq_none
      | succ d ih =>
        intro i σ1 hi hX k1 k2
        have e5 : σ1.1 5 = nI L.length := (hX.2 5 (fun q => q)).trans g1
        unfold mX9_remembers_l11
        refine pq_le (show (30429 : Int32).toInt = 30429 by decide) (nI_toInt (by omega)) (fun q => ?_) (fun q => ?_)
        · have e : i = 30429 := by omega
          subst e
          rw [e5, show nI L.length - (1 : Int32) = nI (L.length - 1) from nI_sb (b := 1) (by omega) (by omega)]
          have hPA : PA9 (rSf σ1 5 (nI (L.length - 1))) (L.drop 1) := by
            refine ⟨by rw [sf_eq, List.length_drop], by rw [List.length_drop]; omega, fun j Q hq => ?_⟩
            rw [List.getElem?_drop] at hq
            have hj : 1 + j < L.length := (List.getElem?_eq_some_iff.mp hq).1
            show MR9 (fun k => σ1.2 4 (4347 * j + k)) Q
            refine MR9_ext (hL.2.2 (1 + j) Q hq) (fun z hz => ?_)
            show σ1.2 4 (4347 * j + z) = σ.2 4 (4347 * (1 + j) + z)
            rw [k1 _ (by omega), show 4347 * j + z + 4347 = 4347 * (1 + j) + z by omega]
          have hM2 : MR9 ((rSf σ1 5 (nI (L.length - 1))).2 2) S0 := by
            show MR9 (σ1.2 2) S0
            rw [hX.1 2 (fun q => by omega)]; exact h2
          refine pq_tail (r_rem52 hPA (by rw [List.length_drop]; omega) hM2) (fun y hy => ?_)
          obtain ⟨σ2, rfl, m1, m2⟩ := hy
          exact ⟨σ2, rfl, m1, frx_tr (show FRX (fun k => k = 4) (fun k => k = 5) σ (rSf σ1 5 (nI (L.length - 1))) from ⟨fun k hk => hX.1 k hk, fun k hk => (sf_ne hk).trans (hX.2 k (fun q => q))⟩) m2⟩
        · rw [show nI i + (4347 : Int32) = nI (i + 4347) from nI_add i 4347, rd_nI (by omega), k2 (i + 4347) (by omega), nI_1]
          refine pq_ck (pq_ck (ih (i + 1) _ (by omega) (frx_tr hX ⟨fun k hk => sa_ne hk, fun k hk => rfl⟩) (fun z hz => ?_) (fun z hz => ?_)))
          · rw [sa_nI (by omega)]
            by_cases e : z = i
            · rw [if_pos e, e]
            · rw [if_neg e]; exact k1 z (by omega)
          · rw [sa_nI (by omega), if_neg (by omega)]; exact k2 z (by omega)
    exact key rFU 0 σ (Nat.zero_le _) frx_rfl (fun z hz => absurd hz (Nat.not_lt_zero _)) (fun z _ => rfl)
  · have es : sRem L S0 = L ++ [S0] := if_neg (fun z => q (by rw [z]; rfl))
    rw [es]
    exact r_rem52 hL (by omega) h2
/-- the reference holds a spec value -/
def RR9 (σ : RS9) (V : SPV) : Prop := (σ.1 9 = nI V.1.length ∧ V.1.length ≤ 400 ∧ RLs σ 8 V.1) ∧ RM9 σ V.2.1 ∧ PA9 σ V.2.2.1 ∧ IM9 σ V.2.2.2.1 ∧ σ.1 7 = V.2.2.2.2.1 ∧ σ.1 12 = V.2.2.2.2.2
theorem RR_frx {σ σ' : RS9} {V : SPV} {R F : Nat → Prop} (h : RR9 σ V) (hX : FRX R F σ σ') (hR : ∀ k, (k = 1 ∨ k = 3 ∨ k = 4 ∨ k = 8 ∨ (34 ≤ k ∧ k ≤ 44)) → ¬ R k) (hF : ∀ k, (k = 5 ∨ k = 6 ∨ k = 7 ∨ k = 9 ∨ k = 12 ∨ k = 33 ∨ k = 45) → ¬ F k) : RR9 σ' V := by
  obtain ⟨⟨a1, a2, a3⟩, b, c, d, e, f⟩ := h
  exact ⟨⟨(hX.2 9 (hF _ (by omega))).trans a1, a2, RL_frx a3 hX (hR _ (by omega))⟩, RM_frx b hX (hR _ (by omega)) (fun k h1 h2 => hR k (by omega)) ⟨hF _ (by omega), hF _ (by omega)⟩, PA_frx c hX (hR _ (by omega)) (hF _ (by omega)), IM_frx d hX (hR _ (by omega)) (hF _ (by omega)), (hX.2 7 (hF _ (by omega))).trans e, (hX.2 12 (hF _ (by omega))).trans f⟩
theorem RR_f0 {V : SPV} {x : Int32} (h : RR9 σ V) : RR9 (rSf σ 0 x) V := RR_frx (R := NO9) (F := fun k => k = 0) h ⟨fun _ _ => rfl, fun k hk => sf_ne hk⟩ (fun k _ q => q) (fun k hk q => by omega)
/-- before an act: the row lies aside too -/
def RP9 (σ : RS9) (V : SPV) : Prop := RR9 σ V ∧ MR9 (σ.2 2) V.2.1
theorem r_aside {V : SPV} (h : RR9 σ V) : PQ (mX9_putsAside σ) (fun y => ∃ σ', y = (0, σ') ∧ RP9 σ' V) := by
  refine pq_tail r_putsAside (fun y hy => ?_)
  obtain ⟨σ', rfl, h1, h2⟩ := hy
  exact ⟨σ', rfl, RR_frx h h2 (fun k hk q => by omega) (fun k _ q => q), MR9_ext h.2.1.1 h1⟩
/-- behind an act: all but the row and what is cut is as before -/
theorem r_isDone {σ0 : RS9} {V : SPV} {r : Int32 × SST} {th : Int32} {c : Nat} (hc : r.1 = nI c) (hc9 : c ≤ 9) (h0 : RP9 σ0 V) (hF : FRX RA9 FA9 σ0 σ) (hr : r.1 = 0 → RM9 σ r.2) : PQ (mX9_isDone r.1 th σ) (fun y => ∃ σ', y = (bI (decide (r.1 = 0)), σ') ∧ RR9 σ' (sCall V r) ∧ (r.1 = 0 → σ'.1 57 = σ.1 57) ∧ σ'.1 0 = if r.1 = 0 then 0 else th) := by
  obtain ⟨⟨⟨a1, a2, a3⟩, b, pc, d, e, f⟩, h2⟩ := h0
  have h2' : MR9 (σ.2 2) V.2.1 := by rw [hF.1 2 (fun q => by omega)]; exact h2
  have g9 : σ.1 9 = nI V.1.length := (hF.2 9 (fun q => by omega)).trans a1
  have g8 : RLs σ 8 V.1 := RL_frx a3 hF (fun q => by omega)
  have gp : PA9 σ V.2.2.1 := PA_frx pc hF (fun q => by omega) (fun q => by omega)
  have gi : IM9 σ V.2.2.2.1 := IM_frx d hF (fun q => by omega) (fun q => by omega)
  have g12 : σ.1 12 = V.2.2.2.2.2 := (hF.2 12 (fun q => by omega)).trans f
  have f07 : ∀ {x z : Int32}, FRX NO9 (fun k => k = 0 ∨ k = 7) σ (rSf (rSf σ 7 x) 0 z) := fun {x z} => ⟨fun _ _ => rfl, fun k hk => (sf_ne (fun q => hk (Or.inl q))).trans (sf_ne (fun q => hk (Or.inr q)))⟩
  have e7 : ∀ {x z : Int32}, (rSf (rSf σ 7 x) 0 z).1 7 = x := (sf_ne (by decide)).trans sf_eq
  have b33 : ∀ σ' : RS9, PQ (mX9_isDone_b33 r.1 σ') (fun y => y = (bI (decide (r.1 = 0)), σ')) := fun σ' => by
    unfold mX9_isDone_b33 mX9_isDone_b42
    refine pq_eq (fun q => ?_) (fun q => ?_)
    · rw [decide_eq_true q]; exact pq_ck (pq_ret rfl)
    · rw [decide_eq_false q]; exact pq_ck (pq_ret rfl)
  by_cases h : r.1 = 0
  · have es : sCall V r = (V.1, r.2, sRem V.2.2.1 V.2.1, V.2.2.2.1, 0, V.2.2.2.2.2) := if_pos h
    rw [es, if_pos h]
    unfold mX9_isDone mX9_isDone_b15
    rw [h] at b33 ⊢
    refine pq_t (by decide) (pq_t rfl ?_)
    have hM := hr h
    refine pq_call (r_remembers (S0 := V.2.1) (PA_frx gp (f07 (x := 0) (z := 0)) (fun q => q) (fun q => by omega)) h2') (fun y hy => ?_)
    obtain ⟨σ1, rfl, m1, m2⟩ := hy
    refine pq_tail (b33 σ1) (fun y hy => ?_)
    subst hy
    have hX : FRX (fun k => k = 4) (fun k => k = 0 ∨ k = 5 ∨ k = 7) σ σ1 := frx_tr (frx_mono f07 (fun k hk => absurd hk id) (fun k hk => by omega)) (frx_mono m2 (fun k hk => hk) (fun k hk => by omega))
    refine ⟨σ1, rfl, ⟨⟨(hX.2 9 (fun q => by omega)).trans g9, a2, RL_frx g8 hX (fun q => by omega)⟩, RM_frx hM hX (fun q => by omega) (fun k h1 h2 q => by omega) ⟨fun q => by omega, fun q => by omega⟩, m1, IM_frx gi hX (fun q => by omega) (fun q => by omega), (m2.2 7 (fun q => by omega)).trans e7, (hX.2 12 (fun q => by omega)).trans g12⟩, fun _ => hX.2 57 (fun q => by omega), (m2.2 0 (fun q => by omega)).trans sf_eq⟩
  · have es : sCall V r = (V.1, V.2.1, V.2.2.1, V.2.2.2.1, r.1, V.2.2.2.2.2) := if_neg h
    rw [es, if_neg h]
    have hc0 : 0 < c := by
      rcases Nat.eq_zero_or_pos c with q | q
      · rw [q] at hc; exact absurd hc h
      · exact q
    unfold mX9_isDone mX9_isDone_b15
    refine pq_f (c_nle (by rw [hc, nI_toInt (by omega)]; show (0 : Int) < _; omega)) (pq_f h ?_)
    refine pq_call (r_putsBack (S := V.2.1) (σ := rSf (rSf σ 7 r.1) 0 th) h2') (fun y hy => ?_)
    obtain ⟨σ1, rfl, m1, m2⟩ := hy
    refine pq_tail (b33 σ1) (fun y hy => ?_)
    subst hy
    have hX : FRX RA9 (fun k => k = 0 ∨ k = 7 ∨ FA9 k) σ σ1 := frx_tr (frx_mono f07 (fun k hk => absurd hk id) (fun k hk => by omega)) (frx_mono m2 (fun k hk => hk) (fun k hk => Or.inr (Or.inr hk)))
    exact ⟨σ1, rfl, ⟨⟨(hX.2 9 (fun q => by omega)).trans g9, a2, RL_frx g8 hX (fun q => by omega)⟩, m1, PA_frx gp hX (fun q => by omega) (fun q => by omega), IM_frx gi hX (fun q => by omega) (fun q => by omega), (m2.2 7 (fun q => by omega)).trans e7, (hX.2 12 (fun q => by omega)).trans g12⟩, fun q => absurd q h, (m2.2 0 (fun q => by omega)).trans sf_eq⟩
end RRM
