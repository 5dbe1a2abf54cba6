/-! the reference: what is told, what is now, what is built of a piece -/
def tdN (o : Option BL) : Int32 := match o with
  | none => -1
  | some t => nI t.length
def TD9 (μ : Nat → Int32) (told : Nat → Option BL) : Prop := ∀ p, p < 40 → μ (443 + 61 * p) = tdN (told p) ∧ ∀ t, told p = some t → t.length ≤ 60 ∧ ∀ k, k < t.length → μ (444 + 61 * p + k) = t.getD k 0
def nwP (told : Nat → Option BL) (P : List Pc) (p : Nat) : BL := match told p with
  | none => pX (P.getD p pc0)
  | some t => t
theorem nI_61 {p : Nat} : (443 : Int32) + (61 : Int32) * nI p = nI (443 + 61 * p) := by
  rw [show (61 : Int32) * nI p = nI (61 * p) from nI_mulc 61 p]; exact nI_add 443 (61 * p)
theorem nI_61k {p k : Nat} : (((443 : Int32) + (61 : Int32) * nI p) + (1 : Int32)) + nI k = nI (444 + 61 * p + k) := by
  rw [nI_61, nI_1, nI_add, show 443 + 61 * p + 1 + k = 444 + 61 * p + k by omega]
theorem nI_ne {a : Nat} (h : a ≤ 5000) : nI a ≠ -1 := fun q => by
  have h1 := congrArg Int32.toInt q
  rw [nI_toInt (by omega), kt_m1] at h1; omega
theorem tdN_m1 {o : Option BL} (h : ∀ t, o = some t → t.length ≤ 5000) : (tdN o = -1 ↔ o = none) := by
  cases o with
  | none => exact ⟨fun _ => rfl, fun _ => rfl⟩
  | some t => exact ⟨fun q => absurd q (nI_ne (h t rfl)), fun q => by cases q⟩
section RTD
variable {σ : RS9} {told : Nat → Option BL} {p : Nat} {P : List Pc} {cf : CFG} {kf : Bool}
theorem r_toldOf (hT : TD9 (σ.2 1) told) (hp : p < 40) : PQ (mX9_toldOf (nI p) σ) (fun y => y = (tdN (told p), σ)) := by
  unfold mX9_toldOf
  rw [nI_61, rd_nI (by omega), (hT p hp).1]
  exact pq_ck (pq_ret rfl)
theorem r_toldAt {t : BL} {k : Nat} (hT : TD9 (σ.2 1) told) (hp : p < 40) (ht : told p = some t) (hk : k < t.length) : PQ (mX9_toldAt (nI p) (nI k) σ) (fun y => y = (t.getD k 0, σ)) := by
  have h := (hT p hp).2 t ht
  unfold mX9_toldAt
  rw [nI_61k, rd_nI (by omega), h.2 k hk]
  exact pq_ck (pq_ret rfl)
theorem r_isPieceThere {v : Int32} {n : Nat} (h : σ.1 33 = nI n) (hn : n ≤ 40) : PQ (mX9_isPieceThere v σ) (fun y => y = (bI (decide (0 ≤ v.toInt ∧ v.toInt < (n : Int))), σ)) := by
  unfold mX9_isPieceThere
  refine pq_isr r_isIn ?_
  have e : (σ.1 33 - (1 : Int32)).toInt = (n : Int) - 1 := by rw [h]; exact i_sub (nI_toInt (by omega)) kt_1 (by omega)
  rw [e, kt_0]
  have e2 : decide (0 ≤ v.toInt ∧ v.toInt ≤ (n : Int) - 1) = decide (0 ≤ v.toInt ∧ v.toInt < (n : Int)) := decide_eq_decide.mpr ⟨fun h => ⟨h.1, by omega⟩, fun h => ⟨h.1, by omega⟩⟩
  rw [e2]
  exact pq_ck (pq_ret rfl)
theorem r_nowMany (hT : TD9 (σ.2 1) told) (hP : PT σ kf P) (hp : p < P.length) : PQ (mX9_nowMany (nI p) σ) (fun y => y = (nI (nwP told P p).length, σ)) := by
  have hp4 : p < 40 := by have := hP.1.2; omega
  have h2 := (hP.2.2 p hp).2.2.2.2.2.2.2
  unfold mX9_nowMany mX9_nowMany_b23
  refine pq_isr (r_toldOf hT hp4) ?_
  cases ht : told p with
  | none =>
    refine pq_t rfl ?_
    rw [rd_nI (by omega), h2]
    refine pq_ck (pq_ret ?_)
    unfold nwP; rw [ht]
  | some t =>
    refine pq_f (nI_ne (by have := ((hT p hp4).2 t ht).1; omega)) ?_
    refine pq_isr (r_toldOf hT hp4) (pq_ret ?_)
    unfold nwP; rw [ht]; rfl
theorem r_nowByte {k : Nat} (hT : TD9 (σ.2 1) told) (hP : PT σ kf P) (hp : p < P.length) (hk : k < (nwP told P p).length) : PQ (mX9_nowByte (nI p) (nI k) σ) (fun y => y = ((nwP told P p).getD k 0, σ)) := by
  have hp4 : p < 40 := by have := hP.1.2; omega
  have h2 := (hP.2.2 p hp).2.2.2.2.2.2.1
  unfold mX9_nowByte mX9_nowByte_b31
  refine pq_isr (r_toldOf hT hp4) ?_
  have e : nwP told P p = (match told p with
    | none => pX (P.getD p pc0)
    | some t => t) := rfl
  rw [e] at hk ⊢
  cases ht : told p with
  | none =>
    rw [ht] at hk
    have hk : k < (pX (P.getD p pc0)).length := hk
    have hle := tx_le hp
    have h6 := hP.2.1.2.1
    refine pq_t rfl ?_
    have er : rGa σ 41 (nI p) = nI (tAt P p) := by rw [rd_nI (by omega)]; exact h2
    show PQ (rCk _ (rCk _ (some (rGa σ 43 (rGa σ 41 (nI p) + nI k), σ)))) _
    rw [er, nI_add, rd_nI (by omega), hP.2.1.2.2.2.1 _ (by omega), tx_gd hp hk]
    exact pq_ck (pq_ck (pq_ret rfl))
  | some t =>
    rw [ht] at hk
    refine pq_f (nI_ne (by have := ((hT p hp4).2 t ht).1; omega)) ?_
    exact pq_isr (r_toldAt hT hp4 ht hk) (pq_ret rfl)
abbrev R53 : Nat → Prop := fun k => k = 53
abbrev NF9 : Nat → Prop := fun _ => False
theorem RL_53 {r : Nat} {M : BL} {i : Nat} {c : Int32} (h : RLs σ r (M.take i)) (hi : i < M.length) (hc : c = M.getD i 0) (hM : M.length ≤ 5000) : RLs (rSa σ r (nI i) c) r (M.take (i + 1)) := by
  have el : (M.take i).length = i := by rw [List.length_take]; omega
  have h4 := RL_put (c := c) h (by omega)
  rw [el] at h4
  have e5 : M.take (i + 1) = M.take i ++ [c] := by
    rw [List.take_succ, hc, List.getD_eq_getElem?_getD, List.getElem?_eq_getElem hi]; rfl
  rw [e5]; exact h4
theorem r_holdsTold {t : BL} (hT : TD9 (σ.2 1) told) (hp : p < 40) (ht : told p = some t) : PQ (mX9_holdsTold (nI p) σ) (fun y => ∃ σ', y = (0, σ') ∧ RLs σ' 53 t ∧ FRX R53 NF9 σ σ') := by
  have h60 := ((hT p hp).2 t ht).1
  have key : ∀ (d i : Nat) (σ1 : RS9), i ≤ t.length → FRX R53 NF9 σ σ1 → RLs σ1 53 (t.take i) → PQ (mX9_holdsTold_l2 d (nI p) (nI i) σ1) (fun y => ∃ σ', y = (0, σ') ∧ RLs σ' 53 t ∧ FRX R53 NF9 σ σ') := by
    intro d
    induction d with
    | zero => intro i σ1 _ _ _; exact pq_none
    | succ d ih =>
      intro i σ1 hi hF hR
      have hT1 : TD9 (σ1.2 1) told := by rw [hF.1 1 (fun q => by omega)]; exact hT
      unfold mX9_holdsTold_l2
      refine pq_isr (r_toldOf hT1 hp) ?_
      rw [ht]
      refine pq_le (nI_toInt (by omega)) (nI_toInt (by omega)) (fun q => ?_) (fun q => ?_)
      · have e : i = t.length := by omega
        rw [e, List.take_length] at hR
        exact pq_ret ⟨σ1, rfl, hR, hF⟩
      · have hi' : i < t.length := by omega
        refine pq_isr (r_toldAt hT1 hp ht hi') (pq_ck ?_)
        rw [nI_1]
        exact ih (i + 1) _ (by omega) (frx_tr hF ⟨fun k hk => sa_ne hk, fun k hk => rfl⟩) (RL_53 hR hi' rfl (by omega))
  exact key rFU 0 σ (Nat.zero_le _) frx_rfl (fun i hi => absurd hi (by rw [List.take_zero]; exact Nat.not_lt_zero _))
abbrev R46 : Nat → Prop := fun k => k = 46 ∨ k = 47
def EF9 (σ : RS9) (o : Option BL) (y : Int32 × RS9) : Prop := ∃ σ', y = (tdN o, σ') ∧ (∀ e, o = some e → RLs σ' 47 e ∧ e.length ≤ 1400) ∧ FRX R46 F56 σ σ'
theorem r_escFor {t : BL} (hM : MC (σ.2 1) cf) (hP : PT σ kf P) (hp : p < P.length) (h53 : RLs σ 53 t) (ht : t.length ≤ 60) : PQ (mX9_escapedFor (nI p) (nI t.length) σ) (EF9 σ (escFor cf (P.getD p pc0) t)) := by
  have hp4 : p < 40 := by have := hP.1.2; omega
  obtain ⟨-, -, g36, g37, g38, -, -, -⟩ := hP.2.2 p hp
  generalize P.getD p pc0 = x at g36 g37 g38
  have hk := (MC_k hM).1
  have e2 : rGa σ 1 (2 : Int32) = cf.2.1 := hM.2.1
  have e1 : rGa σ 1 (1 : Int32) = cf.1 := hM.1
  have f36 : rGa σ 36 (nI p) = bI x.2.2.1 := by rw [rd_nI (by omega)]; exact g36
  have f37 : rGa σ 37 (nI p) = bI x.2.2.2.1 := by rw [rd_nI (by omega)]; exact g37
  have f38 : rGa σ 38 (nI p) = bI x.2.2.2.2.1 := by rw [rd_nI (by omega)]; exact g38
  have b01 : ∀ (b : Bool) {A B : Option (Int32 × RS9)} {Q : Int32 × RS9 → Prop}, (b = true → PQ A Q) → (b = false → PQ B Q) → PQ (if bI b = 1 then A else B) Q := fun b A B Q h1 h2 => by
    cases b with
    | true => exact pq_t rfl (h1 rfl)
    | false => exact pq_f (show ¬ (0 : Int32) = 1 by decide) (h2 rfl)
  unfold mX9_escapedFor
  rw [e2, e1, f36, f37]
  refine pq_ck (pq_eq (fun qi => pq_ck (pq_ck ?_)) (fun qi => pq_ck (pq_ck ?_)))
  · have eF : escFor cf x t = some (esc cf.1 x.2.2.1 x.2.2.2.2.1 t) := by
      unfold escFor mid
      rw [if_neg (fun q => q.1 qi), if_pos qi]
    rw [eF]
    have fin : PQ (mX9_escapedFor_b32 (nI p) (nI t.length) cf.1 (bI x.2.2.1) σ) (EF9 σ (some (esc cf.1 x.2.2.1 x.2.2.2.2.1 t))) := by
      have go : PQ (mX9_escapedFor_b47 (nI t.length) cf.1 (bI x.2.2.1) (bI x.2.2.2.2.1) σ) (EF9 σ (some (esc cf.1 x.2.2.1 x.2.2.2.2.1 t))) := by
        unfold mX9_escapedFor_b47
        refine pq_call (r_escapes (q := x.2.2.1) (fi := x.2.2.2.2.1) (o := 47) hk rfl (by decide) h53 (by omega)) (fun y hy => ?_)
        obtain ⟨σ', rfl, h1, h2⟩ := hy
        exact pq_ret ⟨σ', rfl, fun e he => by cases he; exact ⟨h1.2.1, h1.2.2⟩, frx_mono h2 (fun k hk => Or.inr hk) (fun k hk => hk)⟩
      unfold mX9_escapedFor_b32
      rw [f38]
      exact pq_ck (b01 _ (fun h => by rw [h] at go ⊢; exact go) (fun h => by rw [h] at go ⊢; exact go))
    exact b01 _ (fun h => by rw [h] at fin; rw [h]; exact fin) (fun h => by rw [h] at fin; rw [h]; exact fin)
  · have hkI : cf.2.1 = 0 ∨ cf.2.1 = 1 ∨ cf.2.1 = 2 ∨ cf.2.1 = 3 := by
      rcases (MC_k hM).2.1 with h | h
      · exact absurd h qi
      · exact h
    have em : mid cf x.2.2.2.1 t = esc cf.2.1 x.2.2.2.1 true t := if_neg qi
    have eF : escFor cf x t = if cf.1 = 1 ∧ x.2.2.1 = false ∧ sg (esc cf.2.1 x.2.2.2.1 true t) = true then none else some (esc cf.1 x.2.2.1 x.2.2.2.2.1 (esc cf.2.1 x.2.2.2.1 true t)) := by
      unfold escFor
      rw [em]
      by_cases h : cf.1 = 1 ∧ x.2.2.1 = false ∧ sg (esc cf.2.1 x.2.2.2.1 true t) = true
      · rw [if_pos h, if_pos ⟨qi, h⟩]
      · rw [if_neg h, if_neg (fun q => h q.2)]
    rw [eF]
    generalize hw : esc cf.2.1 x.2.2.2.1 true t = w at eF
    have main : PQ (mX9_escapedFor_b82 (nI p) (nI t.length) cf.2.1 (bI x.2.2.2.1) σ) (EF9 σ (if cf.1 = 1 ∧ x.2.2.1 = false ∧ sg w = true then none else some (esc cf.1 x.2.2.1 x.2.2.2.2.1 w))) := by
      unfold mX9_escapedFor_b82
      refine pq_call (r_escapes (q := x.2.2.2.1) (fi := true) (o := 46) hkI rfl (by decide) h53 (by omega)) (fun y hy => ?_)
      obtain ⟨σ1, rfl, g1, g2⟩ := hy
      rw [hw] at g1 ⊢
      have hF1 : FRX R46 F56 σ σ1 := frx_mono g2 (fun k hk => Or.inl hk) (fun k hk => hk)
      have e1' : rGa σ1 1 (1 : Int32) = cf.1 := by
        unfold rGa; rw [hF1.1 1 (fun q => by omega)]; exact e1
      have f36' : rGa σ1 36 (nI p) = bI x.2.2.1 := by
        unfold rGa; rw [hF1.1 36 (fun q => by omega)]; exact f36
      have f38' : rGa σ1 38 (nI p) = bI x.2.2.2.2.1 := by
        unfold rGa; rw [hF1.1 38 (fun q => by omega)]; exact f38
      have b128 : ¬ (cf.1 = 1 ∧ x.2.2.1 = false ∧ sg w = true) → PQ (mX9_escapedFor_b128 (nI p) (nI w.length) σ1) (EF9 σ (if cf.1 = 1 ∧ x.2.2.1 = false ∧ sg w = true then none else some (esc cf.1 x.2.2.1 x.2.2.2.2.1 w))) := fun hn => by
        rw [if_neg hn]
        have go : PQ (mX9_escapedFor_b165 (nI w.length) cf.1 (bI x.2.2.1) (bI x.2.2.2.2.1) σ1) (EF9 σ (some (esc cf.1 x.2.2.1 x.2.2.2.2.1 w))) := by
          unfold mX9_escapedFor_b165
          refine pq_call (r_escapes (q := x.2.2.1) (fi := x.2.2.2.2.1) (o := 47) hk rfl (by decide) g1.2.1 g1.2.2) (fun y hy => ?_)
          obtain ⟨σ', rfl, h1, h2⟩ := hy
          exact pq_ret ⟨σ', rfl, fun e he => by cases he; exact ⟨h1.2.1, h1.2.2⟩, frx_tr hF1 (frx_mono h2 (fun k hk => Or.inr hk) (fun k hk => hk))⟩
        have mid1 : PQ (mX9_escapedFor_b150 (nI p) (nI w.length) cf.1 (bI x.2.2.1) σ1) (EF9 σ (some (esc cf.1 x.2.2.1 x.2.2.2.2.1 w))) := by
          unfold mX9_escapedFor_b150
          rw [f38']
          exact pq_ck (b01 _ (fun h => by rw [h] at go ⊢; exact go) (fun h => by rw [h] at go ⊢; exact go))
        unfold mX9_escapedFor_b128
        rw [e1', f36']
        exact pq_ck (pq_ck (b01 _ (fun h => by rw [h] at mid1; rw [h]; exact mid1) (fun h => by rw [h] at mid1; rw [h]; exact mid1)))
      show PQ (rCk _ (if rGa σ1 1 (1 : Int32) = 1 then rCk _ (if rGa σ1 36 (nI p) = 0 then ((mX9_hasSign 46 (nI w.length) σ1).bind fun r4 => (if r4.1 = (0 : Int32) then mX9_escapedFor_b128 (nI p) (nI w.length) r4.2 else some ((-1 : Int32), r4.2))) else mX9_escapedFor_b128 (nI p) (nI w.length) σ1) else mX9_escapedFor_b128 (nI p) (nI w.length) σ1)) _
      rw [e1', f36']
      refine pq_ck (pq_eq (fun q1 => pq_ck ?_) (fun q1 => b128 (fun h => q1 h.1)))
      cases hq : x.2.2.1 with
      | true =>
        rw [hq] at b128
        exact pq_f (show ¬ (1 : Int32) = 0 by decide) (b128 (fun h => by cases h.2.1))
      | false =>
        rw [hq] at b128
        refine pq_t rfl (pq_isr (r_hasSign g1.2.1 g1.2.2) ?_)
        cases hs : sg w with
        | false =>
          rw [hs] at b128
          exact pq_t rfl (b128 (fun h => by cases h.2.2))
        | true =>
          refine pq_f (show ¬ (1 : Int32) = 0 by decide) (pq_ret ?_)
          rw [if_pos ⟨q1, rfl, rfl⟩]
          exact ⟨σ1, rfl, (fun e he => by cases he), hF1⟩
    exact b01 _ (fun h => by rw [h] at main; exact main) (fun h => by rw [h] at main; exact main)
/-- what a piece is in what is built -/
abbrev R47 : Nat → Prop := fun k => k = 46 ∨ k = 47 ∨ k = 53
def BO9 (σ : RS9) (o : Option BL) (W : BL) (y : Int32 × RS9) : Prop := ∃ σ', y = (nI W.length, σ') ∧ W.length ≤ 1400 ∧ (o ≠ none → RLs σ' 47 W) ∧ FRX R47 F56 σ σ'
theorem r_builtOf {F : BL} (hM : MC (σ.2 1) cf) (hT : TD9 (σ.2 1) told) (hP : PT σ kf P) (hO : ORD P F.length) (hF4 : F.length ≤ 600) (hV : VE cf told P) (hp : p < P.length) : PQ (mX9_builtOf (nI p) σ) (BO9 σ (told p) (bOf cf F told p (P.getD p pc0))) := by
  have hp4 : p < 40 := by have := hP.1.2; omega
  have ho := hO.1 p hp
  unfold mX9_builtOf
  refine pq_isr (r_toldOf hT hp4) ?_
  cases ht : told p with
  | none =>
    have eb : bOf cf F told p (P.getD p pc0) = sl F (P.getD p pc0).1 (P.getD p pc0).2.1 := by
      unfold bOf; rw [ht]
    obtain ⟨g34, g35, -⟩ := hP.2.2 p hp
    refine pq_t rfl (pq_ck (pq_ck ?_))
    rw [rd_nI (by omega), rd_nI (by omega), eb]
    show PQ (some (σ.2 35 p - σ.2 34 p, σ)) _
    rw [g34, g35, nI_sb (by omega) (by omega)]
    exact pq_ret ⟨σ, by rw [sl_len ho.2.2], by rw [sl_len ho.2.2]; omega, fun q => absurd rfl q, frx_rfl⟩
  | some t =>
    have h60 := ((hT p hp4).2 t ht).1
    have hve := hV p t hp ht
    have eb : bOf cf F told p (P.getD p pc0) = (escFor cf (P.getD p pc0) t).getD [] := by
      unfold bOf; rw [ht]
    refine pq_f (nI_ne (by omega)) (pq_call (r_holdsTold hT hp4 ht) (fun y hy => ?_))
    obtain ⟨σ1, rfl, h53, hF1⟩ := hy
    have hM1 : MC (σ1.2 1) cf := by rw [hF1.1 1 (fun q => by omega)]; exact hM
    have hT1 : TD9 (σ1.2 1) told := by rw [hF1.1 1 (fun q => by omega)]; exact hT
    have hP1 := PT_frx hP hF1 (fun k h1 h2 q => by omega) ⟨fun q => q, fun q => q⟩
    refine pq_isr (r_toldOf hT1 hp4) ?_
    rw [ht]
    refine pq_call (r_escFor hM1 hP1 hp h53 h60) (fun y hy => ?_)
    obtain ⟨σ2, rfl, h1, h2⟩ := hy
    cases he : escFor cf (P.getD p pc0) t with
    | none => rw [he] at hve; cases hve
    | some e =>
      rw [eb, he]
      obtain ⟨k1, k2⟩ := h1 e he
      exact pq_ret ⟨σ2, rfl, k2, fun _ => k1, frx_tr (frx_mono hF1 (fun k hk => Or.inr (Or.inr hk)) (fun k hk => absurd hk id)) (frx_mono h2 (fun k hk => by omega) (fun k hk => hk))⟩
end RTD
