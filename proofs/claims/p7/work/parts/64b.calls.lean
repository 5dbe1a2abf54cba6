/-! the reference's calls: acts by name -/
def RAN (s : ANS) (cd : String → Int32) (y : Int32 × RS9) : Prop := RR9 y.2 s.2 ∧ match s.1 with
  | .inl v => y.1 = v ∧ y.2.1 0 = 0
  | .inr E => y.2.1 0 = cd E
def RAI (s : Int32 × SPV) (y : Int32 × RS9) : Prop := RR9 y.2 s.2 ∧ y.1 = s.1
def CD9 (r : Int32 × SST) : Prop := ∃ c, c ≤ 9 ∧ r.1 = nI c
theorem CD_if {c : Prop} {d : Decidable c} {A B : Int32 × SST} (h1 : CD9 A) (h2 : CD9 B) : CD9 (@ite _ c d A B) := by
  by_cases h : c
  · rw [if_pos h]; exact h1
  · rw [if_neg h]; exact h2
theorem CD_k {S : SST} (c : Nat) (h : c ≤ 9) : CD9 (nI c, S) := ⟨c, h, rfl⟩
theorem CD_fin {S S1 : SST} : CD9 (finA S S1) := CD_if (CD_k 3 (by decide)) (CD_k 0 (by decide))
theorem CD_lo {S : SST} {w : BL} : CD9 (loA S w) := by
  have h : lkC S.2.1.2.2.2.2 w = 6 ∨ lkC S.2.1.2.2.2.2 w = 7 ∨ lkC S.2.1.2.2.2.2 w = 0 := by
    unfold lkC
    split
    · exact Or.inl rfl
    · split
      · exact Or.inr (Or.inl rfl)
      · exact Or.inr (Or.inr rfl)
  unfold loA
  refine CD_if (CD_k 0 (by decide)) ?_
  rcases h with h | h | h
  · rw [h]; exact CD_k 6 (by decide)
  · rw [h]; exact CD_k 7 (by decide)
  · rw [h]; exact CD_k 0 (by decide)
theorem CD_fr {S : SST} {p : Int32} : CD9 (frA S p) := CD_if (CD_if (CD_k 4 (by decide)) CD_fin) (CD_k 1 (by decide))
theorem CD_sp {S : SST} {p : Int32} : CD9 (spA S p) := by
  refine CD_if ?_ (CD_k 1 (by decide))
  cases S.2.2.1 p.toInt.toNat with
  | none => exact CD_k 4 (by decide)
  | some t => exact CD_if (CD_k 2 (by decide)) CD_fin
theorem CD_sw {S : SST} {p o : Int32} : CD9 (swA S p o) := CD_if (CD_if (CD_k 5 (by decide)) (CD_if (CD_k 8 (by decide)) (CD_if (CD_k 2 (by decide)) CD_fin))) (CD_k 1 (by decide))
theorem CD_wp {S : SST} : CD9 (wpA S) := CD_if (CD_k 4 (by decide)) (CD_k 0 (by decide))
theorem CD_tl {S : SST} {p : Int32} {w : BL} : CD9 (tlA S p w) := CD_if (CD_if (CD_k 2 (by decide)) (CD_if (CD_k 3 (by decide)) (CD_k 0 (by decide)))) (CD_k 1 (by decide))
section RCL
variable {σ : RS9} {V : SPV}
theorem doa_mono {σ0 σ1 : RS9} {r : Int32 × SST} {y : Int32 × RS9} (h : DOA σ1 r y) (hX : FRX RA9 FA9 σ0 σ1) : DOA σ0 r y := by
  obtain ⟨σ', h1, h2, h3⟩ := h
  exact ⟨σ', h1, h2, frx_tr hX h3⟩
/-- an act is done, or not -/
theorem r_fin1 {σ0 : RS9} {r : Int32 × SST} {v th : Int32} {cd : String → Int32} {K : RS9 → Option (Int32 × RS9)} {y : Int32 × RS9} (hd : CD9 r) (h0 : RP9 σ0 V) (hy : DOA σ0 r y) (hcd : cd eS = th) (hK : r.1 = 0 → ∀ σ', RR9 σ' (sCall V r) → σ'.1 57 = y.2.1 57 → PQ (K σ') (fun z => z.1 = v ∧ RR9 z.2 (sCall V r) ∧ z.2.1 0 = σ'.1 0)) : PQ ((mX9_isDone y.1 th y.2).bind fun r3 => (if r3.1 = (0 : Int32) then some ((0 : Int32), r3.2) else K r3.2)) (RAN (sAct V r v) cd) := by
  obtain ⟨c, hc, hr⟩ := hd
  obtain ⟨σ1, rfl, g1, g2⟩ := hy
  refine pq_call (r_isDone (c := c) (th := th) hr hc h0 g2 g1) (fun z hz => ?_)
  obtain ⟨σ2, rfl, m1, m2, m3⟩ := hz
  unfold sAct
  refine if_01 (fun q => ?_) (fun q => ?_)
  · have q := of_decide_eq_false q
    rw [if_neg q] at m3 ⊢
    exact pq_ret ⟨m1, m3.trans hcd.symm⟩
  · have q := of_decide_eq_true q
    rw [if_pos q] at m3 ⊢
    refine pq_tail (hK q σ2 m1 (m2 q)) (fun z hz => ?_)
    exact ⟨hz.2.1, hz.1, hz.2.2.trans m3⟩
theorem r_tsize {σ' : RS9} (h : RR9 σ' V) : PQ (some (σ'.1 33, σ')) (fun z => z.1 = nPc V ∧ RR9 z.2 V ∧ z.2.1 0 = σ'.1 0) := pq_ret ⟨(RM_33 h.2.1).1, h, rfl⟩
theorem r_tbuilt {σ' : RS9} (h : RR9 σ' V) (hS : SV V.2.1) : PQ ((mX9_builtMany σ').bind fun r4 => some (r4.1, r4.2)) (fun z => z.1 = nBl V ∧ RR9 z.2 V ∧ z.2.1 0 = σ'.1 0) := by
  refine pq_call (r_builtMany (RM_BV h.2.1) pcs_ord (by have := h.2.1.1.1.1.2; omega) hS.1) (fun y hy => ?_)
  obtain ⟨σ2, rfl, k1, k2⟩ := hy
  exact pq_ret ⟨rfl, RR_frx h k2 (fun k hk q => by omega) (fun k hk q => by omega), k2.2 0 (fun q => by omega)⟩
theorem sCall_S {r : Int32 × SST} (h : r.1 = 0) : (sCall V r).2.1 = r.2 := by
  unfold sCall
  rw [if_pos h]
theorem rp_low {σ0 : RS9} (h : RP9 σ0 V) : RM9 σ0 V.2.1 := h.1.2.1
theorem RR_4 (h : RR9 σ V) : V.2.1.1.length ≤ 400 := h.2.1.1.1.1.2
theorem r_free {v : Int32} (h : RR9 σ V) (hS : SV V.2.1) : PQ (mX9_free v σ) (RAN (sFree V v) wc_L_free) := by
  unfold mX9_free mX9_free_b25
  refine pq_call (r_aside h) (fun y hy => ?_)
  obtain ⟨σ0, rfl, h0⟩ := hy
  refine pq_call (r_free0 (rp_low h0) hS) (fun y hy => ?_)
  have e : dA V.2.1 8 v 0 [] = frA V.2.1 v := rfl
  unfold sFree
  rw [e]
  refine r_fin1 CD_fr h0 hy (if_pos rfl) (fun q σ' h1 _ => r_tbuilt h1 ?_)
  rw [sCall_S q]; exact frA_SV hS
theorem r_swap {v u : Int32} (h : RR9 σ V) (hS : SV V.2.1) : PQ (mX9_swap v u σ) (RAN (sSwap V v u) wc_L_swap) := by
  unfold mX9_swap mX9_swap_b26
  refine pq_call (r_aside h) (fun y hy => ?_)
  obtain ⟨σ0, rfl, h0⟩ := hy
  refine pq_call (r_swap0 (rp_low h0) hS) (fun y hy => ?_)
  have e : dA V.2.1 10 v u [] = swA V.2.1 v u := rfl
  unfold sSwap
  rw [e]
  refine r_fin1 CD_sw h0 hy (if_pos rfl) (fun q σ' h1 _ => r_tbuilt h1 ?_)
  rw [sCall_S q]; exact swA_SV hS
theorem r_spread {v : Int32} (h : RR9 σ V) (hS : SV V.2.1) : PQ (mX9_spread v σ) (RAN (sSpread V v) wc_L_spread) := by
  unfold mX9_spread mX9_spread_b25
  refine pq_call (r_aside h) (fun y hy => ?_)
  obtain ⟨σ0, rfl, h0⟩ := hy
  refine pq_call (r_spread0 (rp_low h0) hS) (fun y hy => ?_)
  obtain ⟨σ1, rfl, g1, g2⟩ := hy
  have e : dA V.2.1 9 v 0 [] = spA V.2.1 v := rfl
  unfold sSpread
  rw [e]
  refine r_fin1 (cd := wc_L_spread) (th := 1) (K := fun s => some (s.1 57, s)) CD_sp h0 ⟨σ1, rfl, fun q => (g1 q).1, g2⟩ (if_pos rfl) (fun q σ' h1 h57 => ?_)
  exact pq_ret ⟨h57.trans (g1 q).2, h1, rfl⟩
theorem r_wipe (h : RR9 σ V) (hS : SV V.2.1) : PQ (mX9_wipe σ) (RAN (sWipe V) wc_L_wipe) := by
  unfold mX9_wipe mX9_wipe_b26
  refine pq_call (r_aside h) (fun y hy => ?_)
  obtain ⟨σ0, rfl, h0⟩ := hy
  refine pq_isr (r_toldMany (rp_low h0)) (pq_call (r_wipe0 (rp_low h0) hS) (fun y hy => ?_))
  have e : dA V.2.1 11 0 0 [] = wpA V.2.1 := rfl
  unfold sWipe
  rw [e, tcnt_40 (rp_low h0) hS]
  refine r_fin1 (cd := wc_L_wipe) (th := 1) (K := fun s => some (nI (tcnt V.2.1.2.2.1 (pcF V.2.1).length), s)) CD_wp h0 hy (if_pos rfl) (fun q σ' h1 _ => ?_)
  exact pq_ret ⟨rfl, h1, rfl⟩
theorem r_unlock (h : RR9 σ V) : PQ (mX9_unlock σ) (fun y => ∃ v, (sUnlock V).1 = .inl v ∧ y.1 = v ∧ RR9 y.2 (sUnlock V).2) := by
  unfold mX9_unlock mX9_unlock_b24
  refine pq_call (r_aside h) (fun y hy => ?_)
  obtain ⟨σ0, rfl, h0⟩ := hy
  refine pq_call (r_unlocks (rp_low h0)) (fun y hy => ?_)
  refine pq_tail (r_fin1 (V := V) (v := nPc (sCall V (0, setC V.2.1 (V.2.1.2.1.1, V.2.1.2.1.2.1, V.2.1.2.1.2.2.1, V.2.1.2.1.2.2.2.1, [])))) (cd := fun _ => 0) (CD_k 0 (by decide)) h0 hy rfl (fun q σ' h1 _ => r_tsize h1)) (fun z hz => ?_)
  exact ⟨_, rfl, hz.2.1, hz.1⟩
theorem RR_tape0 (h : RR9 σ V) : RR9 (rSf σ 9 0) (noT V) := by
  obtain ⟨a, b, c, d, e, f⟩ := h
  have hX : FRX NO9 (fun k => k = 9) σ (rSf σ 9 0) := ⟨fun _ _ => rfl, fun k hk => sf_ne hk⟩
  exact ⟨⟨sf_eq, Nat.zero_le _, fun i hi => absurd hi (Nat.not_lt_zero _)⟩, RM_frx b hX (fun q => q) (fun k _ _ q => q) ⟨fun q => by omega, fun q => by omega⟩, PA_frx c hX (fun q => q) (fun q => by omega), IM_frx d hX (fun q => q) (fun q => by omega), (hX.2 7 (fun q => by omega)).trans e, (hX.2 12 (fun q => by omega)).trans f⟩
theorem r_took (h : RR9 σ V) : PQ (mX9_took σ) (fun y => y = (nI V.1.length, rSf σ 9 0)) := by
  unfold mX9_took
  rw [h.1.1]
  exact pq_ret rfl
theorem bLow_d {c : Int32} : decide (97 ≤ c.toInt ∧ c.toInt ≤ 122) = bLow c := Bool.decide_and _ _
theorem r_isWord {T : BL} (h8 : RLs σ 8 T) (hT : T.length ≤ 400) : PQ (mX9_isWord (nI T.length) σ) (fun y => y = (bI (isWd T), σ)) := by
  unfold mX9_isWord
  refine pq_isr r_isIn ?_
  rw [kt_1, kt_8, nI_toInt (by omega)]
  have fin : ∀ b : Bool, PQ (mX9_isWord_b39 (bI b) σ) (fun y => y = (bI b, σ)) := fun b => by
    unfold mX9_isWord_b39
    exact pq_ck (pq_ret rfl)
  have key : ∀ (d i : Nat) (b : Bool), i ≤ T.length → b = (decide (1 ≤ T.length ∧ T.length ≤ 8) && (T.take i).all bLow) → PQ (mX9_isWord_l10 d (nI T.length) (bI b) (nI i) σ) (fun y => y = (bI (isWd T), σ)) := by
    intro d
    induction d with
    | zero => intro i b _ _; exact pq_none
    | succ d ih =>
      intro i b hi hb
      have eW : isWd T = (decide (1 ≤ T.length ∧ T.length ≤ 8) && T.all bLow) := by
        unfold isWd
        rw [← Bool.decide_and]
      unfold mX9_isWord_l10
      refine pq_le (nI_toInt (by omega)) (nI_toInt (by omega)) (fun q => ?_) (fun q => if_01 (fun q1 => ?_) (fun q1 => ?_))
      · have e : i = T.length := by omega
        rw [e, List.take_length] at hb
        rw [eW, ← hb]
        exact fin b
      · have e9 : isWd T = b := by
          rw [eW, q1]
          cases h1 : decide (1 ≤ T.length ∧ T.length ≤ 8) with
          | false => rfl
          | true =>
            rw [h1, q1] at hb
            cases h2 : T.all bLow with
            | false => rfl
            | true =>
              have h3 : (T.take i).all bLow = true := List.all_eq_true.mpr (fun x hx => List.all_eq_true.mp h2 x (List.mem_of_mem_take hx))
              rw [h3] at hb; cases hb
        rw [e9]; exact fin b
      · have hi' : i < T.length := by omega
        rw [rd_nI (by omega), h8 i hi']
        refine pq_ck (pq_isr r_isIn ?_)
        rw [kt_97, kt_122, bLow_d, nI_1]
        refine ih (i + 1) _ (by omega) ?_
        rw [q1] at hb
        have e5 : T.take (i + 1) = T.take i ++ [T.getD i 0] := by
          rw [List.take_succ, List.getD_eq_getElem?_getD, List.getElem?_eq_getElem hi']; rfl
        rw [e5, List.all_append, ← Bool.and_assoc, ← hb]
        show bLow (T.getD i 0) = (true && (bLow (T.getD i 0) && true))
        rw [Bool.and_true, Bool.true_and]
  have e0 : decide ((1 : Int) ≤ (T.length : Int) ∧ (T.length : Int) ≤ 8) = decide (1 ≤ T.length ∧ T.length ≤ 8) := decide_eq_decide.mpr ⟨fun h => by omega, fun h => by omega⟩
  rw [e0]
  exact key rFU 0 _ (Nat.zero_le _) (by rw [List.take_zero]; exact (Bool.and_true _).symm)
theorem r_lock (h : RR9 σ V) : PQ (mX9_lock σ) (RAN (sLock V) wc_L_lock) := by
  have h400 := h.1.2.1
  have h8 := h.1.2.2
  unfold mX9_lock mX9_lock_b19 mX9_lock_b57
  refine pq_isr (r_took h) (pq_isr (r_isWord (T := V.1) h8 h400) ?_)
  have h1 := RR_tape0 h
  unfold sLock
  refine if_01 (fun q => ?_) (fun q => ?_)
  · rw [if_neg (show ¬ isWd V.1 = true by rw [q]; decide)]
    refine pq_f (show ¬ (1 : Int32) ≤ 0 by decide) (pq_ret ⟨RR_f0 h1, sf_eq⟩)
  · rw [if_pos q]
    refine pq_t (show (0 : Int32) ≤ 0 by decide) (pq_call r_putsAside (fun y hy => ?_))
    obtain ⟨σ0, rfl, g1, g2⟩ := hy
    have h2 : RR9 (rSf (rSf σ 9 0) 0 0) (noT V) := RR_f0 h1
    have h0 : RP9 σ0 (noT V) := ⟨RR_frx h2 g2 (fun k hk q => by omega) (fun k _ q => q), MR9_ext h2.2.1.1 g1⟩
    have h8' : RLs σ0 8 V.1 := RL_frx (σ := rSf (rSf σ 9 0) 0 0) h8 g2 (fun q => by omega)
    have hw8 : V.1.length ≤ 8 := by
      unfold isWd at q
      rw [Bool.and_eq_true, Bool.and_eq_true] at q
      exact of_decide_eq_true q.1.2
    refine pq_call (r_lock0 (a := 0) (T := V.1) (w := V.1) (rp_low h0) h8' h400 (by omega) (fun k hk => by rw [Nat.zero_add]) hw8) (fun y hy => ?_)
    have e : dA (noT V).2.1 6 0 0 V.1 = loA V.2.1 V.1 := rfl
    have e' : dA V.2.1 6 0 0 V.1 = loA V.2.1 V.1 := rfl
    rw [e']
    exact r_fin1 CD_lo h0 hy (by rfl) (fun q σ' h1 _ => r_tsize h1)
theorem r_tookTold (h : RR9 σ V) : PQ (mX9_tookTold σ) (fun y => ∃ σ', y = (nI V.1.length, σ') ∧ RR9 σ' (noT V) ∧ (V.1.length ≤ 60 → RLs σ' 53 V.1) ∧ FRX R53 (fun k => k = 9) σ σ') := by
  have h400 := h.1.2.1
  have h8 := h.1.2.2
  have h1 := RR_tape0 h
  unfold mX9_tookTold
  refine pq_isr (r_took h) ?_
  have hX0 : FRX R53 (fun k => k = 9) σ (rSf σ 9 0) := ⟨fun _ _ => rfl, fun k hk => sf_ne hk⟩
  have key : ∀ (d i : Nat) (σ1 : RS9), i ≤ V.1.length → FRX R53 NF9 (rSf σ 9 0) σ1 → RLs σ1 53 (V.1.take i) → PQ (mX9_tookTold_l7 d (nI V.1.length) (nI i) σ1) (fun y => ∃ σ', y = (nI V.1.length, σ') ∧ RR9 σ' (noT V) ∧ (V.1.length ≤ 60 → RLs σ' 53 V.1) ∧ FRX R53 (fun k => k = 9) σ σ') := by
    intro d
    induction d with
    | zero => intro i σ1 _ _ _; exact pq_none
    | succ d ih =>
      intro i σ1 hi hX hR
      have hRR : RR9 σ1 (noT V) := RR_frx h1 hX (fun k hk q => by omega) (fun k _ q => q)
      have hXX : FRX R53 (fun k => k = 9) σ σ1 := frx_tr hX0 (frx_mono hX (fun k hk => hk) (fun k hk => absurd hk id))
      unfold mX9_tookTold_l7 mX9_tookTold_b36
      refine pq_le (nI_toInt (by omega)) (nI_toInt (by omega)) (fun q => ?_) (fun q => pq_lt kt_60 (nI_toInt (by omega)) (fun q1 => ?_) (fun q1 => ?_))
      · have e : i = V.1.length := by omega
        rw [e, List.take_length] at hR
        exact pq_ret ⟨σ1, rfl, hRR, fun _ => hR, hXX⟩
      · exact pq_ret ⟨σ1, rfl, hRR, fun q => by omega, hXX⟩
      · have hi' : i < V.1.length := by omega
        have e8 : σ1.2 8 i = V.1.getD i 0 := by
          rw [hX.1 8 (fun q => by omega)]; exact h8 i hi'
        rw [rd_nI (by omega), e8, nI_1]
        exact pq_ck (pq_ck (ih (i + 1) _ (by omega) (frx_tr hX ⟨fun k hk => sa_ne hk, fun k hk => rfl⟩) (RL_53 hR hi' rfl (by omega))))
  exact key rFU 0 (rSf σ 9 0) (Nat.zero_le _) frx_rfl (fun i hi => absurd hi (by rw [List.take_zero]; exact Nat.not_lt_zero _))
theorem r_tell {v : Int32} (h : RR9 σ V) (hS : SV V.2.1) : PQ (mX9_tell v σ) (RAN (sTell V v) wc_L_tell) := by
  have h400 := h.1.2.1
  unfold mX9_tell mX9_tell_b17 mX9_tell_b55
  refine pq_call (r_tookTold h) (fun y hy => ?_)
  obtain ⟨σ1, rfl, h1, h53, -⟩ := hy
  unfold sTell
  refine pq_le (nI_toInt (by omega)) kt_60 (fun q => ?_) (fun q => ?_)
  · rw [if_pos (show V.1.length ≤ 60 by omega)]
    refine pq_t (show (0 : Int32) ≤ 0 by decide) (pq_call r_putsAside (fun y hy => ?_))
    obtain ⟨σ0, rfl, g1, g2⟩ := hy
    have h2 : RR9 (rSf σ1 0 0) (noT V) := RR_f0 h1
    have h0 : RP9 σ0 (noT V) := ⟨RR_frx h2 g2 (fun k hk q => by omega) (fun k _ q => q), MR9_ext h2.2.1.1 g1⟩
    have h53' : RLs σ0 53 V.1 := RL_frx (σ := rSf σ1 0 0) (h53 (by omega)) g2 (fun q => by omega)
    refine pq_call (r_tell0 (v := v) (w := V.1) (rp_low h0) hS h53' (by omega)) (fun y hy => ?_)
    have e' : dA V.2.1 12 v 0 V.1 = tlA V.2.1 v V.1 := rfl
    rw [e']
    refine r_fin1 CD_tl h0 hy (by rfl) (fun q σ' h1 _ => r_tbuilt h1 ?_)
    rw [sCall_S q]; exact tlA_SV hS
  · rw [if_neg (show ¬ V.1.length ≤ 60 by omega)]
    exact pq_f (show ¬ (1 : Int32) ≤ 0 by decide) (pq_ret ⟨RR_f0 h1, sf_eq⟩)
theorem r_kind {k i : Int32} (h : RR9 σ V) : PQ (mX9_kind k i σ) (RAN (sKind V k i) wc_L_kind) := by
  have b23 : ∀ s1 : Int32, (s1 = if k.toInt ≤ 3 ∧ (if i = 0 then (0 : Int) else -1) ≤ k.toInt then 0 else 1) → PQ (mX9_kind_b23 k i s1 σ) (RAN (sKind V k i) wc_L_kind) := fun s1 hs => by
    unfold mX9_kind_b23
    unfold sKind
    by_cases hc : k.toInt ≤ 3 ∧ (if i = 0 then (0 : Int) else -1) ≤ k.toInt
    · rw [if_pos hc] at hs ⊢
      subst hs
      refine pq_t (show (0 : Int32) ≤ 0 by decide) (pq_call (r_aside (RR_f0 h)) (fun y hy => ?_))
      obtain ⟨σ0, rfl, h0⟩ := hy
      have hM := (rp_low h0).1.2.1
      unfold mX9_kind_b50 mX9_kind_b69
      refine pq_eq (fun q => ?_) (fun q => ?_)
      · rw [if_pos q] at hc ⊢
        have hk : k = 0 ∨ k = 1 ∨ k = 2 ∨ k = 3 := by
          rcases (by omega : k.toInt = 0 ∨ k.toInt = 1 ∨ k.toInt = 2 ∨ k.toInt = 3) with e | e | e | e
          · exact Or.inl (Int32.toInt_inj.mp e)
          · exact Or.inr (Or.inl (Int32.toInt_inj.mp e))
          · exact Or.inr (Or.inr (Or.inl (Int32.toInt_inj.mp e)))
          · exact Or.inr (Or.inr (Or.inr (Int32.toInt_inj.mp e)))
        refine pq_call (r_rules (a := 1) (rp_low h0) (by decide) (MC_0 hM hk)) (fun y hy => ?_)
        have e : dA V.2.1 0 k 0 [] = (0, setC V.2.1 (k, V.2.1.2.1.2)) := rfl
        rw [e]
        refine r_fin1 (CD_k 0 (by decide)) h0 hy (by rfl) (fun q σ' h1 _ => r_tsize h1)
      · rw [if_neg q] at hc ⊢
        have hk : k = -1 ∨ k = 0 ∨ k = 1 ∨ k = 2 ∨ k = 3 := by
          rcases (by omega : k.toInt = -1 ∨ k.toInt = 0 ∨ k.toInt = 1 ∨ k.toInt = 2 ∨ k.toInt = 3) with e | e | e | e | e
          · exact Or.inl (Int32.toInt_inj.mp e)
          · exact Or.inr (Or.inl (Int32.toInt_inj.mp e))
          · exact Or.inr (Or.inr (Or.inl (Int32.toInt_inj.mp e)))
          · exact Or.inr (Or.inr (Or.inr (Or.inl (Int32.toInt_inj.mp e))))
          · exact Or.inr (Or.inr (Or.inr (Or.inr (Int32.toInt_inj.mp e))))
        refine pq_call (r_rules (a := 2) (rp_low h0) (by decide) (MC_1 hM hk)) (fun y hy => ?_)
        have e : dA V.2.1 1 k 0 [] = (0, setC V.2.1 (V.2.1.2.1.1, k, V.2.1.2.1.2.2)) := rfl
        rw [e]
        refine r_fin1 (CD_k 0 (by decide)) h0 hy (by rfl) (fun q σ' h1 _ => r_tsize h1)
    · rw [if_neg hc] at hs ⊢
      subst hs
      exact pq_f (show ¬ (1 : Int32) ≤ 0 by decide) (pq_ret ⟨RR_f0 h, sf_eq⟩)
  unfold mX9_kind mX9_kind_b11
  refine pq_eq (fun q => pq_isr r_isIn ?_) (fun q => pq_isr r_isIn ?_)
  · rw [kt_0, kt_3]
    refine if_01 (fun q1 => b23 1 ?_) (fun q1 => b23 0 ?_)
    · have q1 := of_decide_eq_false q1
      rw [if_pos q, if_neg (fun z => q1 ⟨z.2, z.1⟩)]
    · have q1 := of_decide_eq_true q1
      rw [if_pos q, if_pos ⟨q1.2, q1.1⟩]
  · rw [kt_m1, kt_3]
    refine if_01 (fun q1 => b23 1 ?_) (fun q1 => b23 0 ?_)
    · have q1 := of_decide_eq_false q1
      rw [if_neg q, if_neg (fun z => q1 ⟨z.2, z.1⟩)]
    · have q1 := of_decide_eq_true q1
      rw [if_neg q, if_pos ⟨q1.2, q1.1⟩]
theorem r_rule {a m : Int32} (h : RR9 σ V) : PQ (mX9_rule a m σ) (RAN (sRule V a m) wc_L_rule) := by
  unfold mX9_rule
  refine pq_isr r_isIn ?_
  rw [kt_0, kt_1]
  refine if_01 (fun q => ?_) (fun q => ?_)
  · have q := of_decide_eq_false q
    have es : sRule V a m = (.inr eN, V) := by
      unfold sRule
      rw [if_neg (fun z => q (by rw [z]; decide)), if_neg (fun z => q (by rw [z]; decide))]
    rw [es]
    unfold mX9_rule_b37
    exact pq_f (show ¬ (1 : Int32) ≤ 0 by decide) (pq_ret ⟨RR_f0 h, sf_eq⟩)
  · have q := of_decide_eq_true q
    refine pq_eq (fun q1 => ?_) (fun q1 => ?_)
    · subst q1
      have es : sRule V 0 m = if 0 ≤ m.toInt ∧ m.toInt ≤ 1 then sAct V (dA V.2.1 (if m = 1 then 3 else 4) 0 0 []) (nPc (sCall V (dA V.2.1 (if m = 1 then 3 else 4) 0 0 []))) else (.inr eA, V) := if_pos rfl
      rw [es]
      unfold mX9_rule_b26
      refine pq_isr r_isIn ?_
      rw [kt_0, kt_1]
      refine if_01 (fun q2 => ?_) (fun q2 => ?_)
      · rw [if_neg (of_decide_eq_false q2)]
        unfold mX9_rule_b37
        exact pq_f (show ¬ (2 : Int32) ≤ 0 by decide) (pq_ret ⟨RR_f0 h, sf_eq⟩)
      · have q2 := of_decide_eq_true q2
        rw [if_pos q2]
        unfold mX9_rule_b37
        refine pq_t (show (0 : Int32) ≤ 0 by decide) (pq_call (r_aside (RR_f0 h)) (fun y hy => ?_))
        obtain ⟨σ0, rfl, h0⟩ := hy
        have hM := (rp_low h0).1.2.1
        unfold mX9_rule_b64 mX9_rule_b83
        refine pq_t rfl ?_
        rcases (by omega : m.toInt = 0 ∨ m.toInt = 1) with e | e
        · have e : m = 0 := Int32.toInt_inj.mp e
          subst e
          rw [if_neg (by decide)]
          refine pq_call (r_rules (a := 3) (rp_low h0) (by decide) (MC_2 hM (Or.inl rfl))) (fun y hy => ?_)
          exact r_fin1 (CD_k 0 (by decide)) h0 hy (by rfl) (fun q σ' h1 _ => r_tsize h1)
        · have e : m = 1 := Int32.toInt_inj.mp e
          subst e
          rw [if_pos rfl]
          refine pq_call (r_rules (a := 3) (rp_low h0) (by decide) (MC_2 hM (Or.inr rfl))) (fun y hy => ?_)
          exact r_fin1 (CD_k 0 (by decide)) h0 hy (by rfl) (fun q σ' h1 _ => r_tsize h1)
    · have e1 : a = 1 := by
        rcases (by omega : a.toInt = 0 ∨ a.toInt = 1) with e | e
        · exact absurd (Int32.toInt_inj.mp e) q1
        · exact Int32.toInt_inj.mp e
      subst e1
      have es : sRule V 1 m = if 1 ≤ m.toInt ∧ m.toInt ≤ 40 then sAct V (dA V.2.1 5 m 0 []) (nPc (sCall V (dA V.2.1 5 m 0 []))) else (.inr eA, V) := (if_neg (by decide)).trans (if_pos rfl)
      rw [es]
      unfold mX9_rule_b26
      refine pq_isr r_isIn ?_
      rw [kt_1, kt_40]
      refine if_01 (fun q2 => ?_) (fun q2 => ?_)
      · rw [if_neg (of_decide_eq_false q2)]
        unfold mX9_rule_b37
        exact pq_f (show ¬ (2 : Int32) ≤ 0 by decide) (pq_ret ⟨RR_f0 h, sf_eq⟩)
      · have q2 := of_decide_eq_true q2
        rw [if_pos q2]
        unfold mX9_rule_b37
        refine pq_t (show (0 : Int32) ≤ 0 by decide) (pq_call (r_aside (RR_f0 h)) (fun y hy => ?_))
        obtain ⟨σ0, rfl, h0⟩ := hy
        have hM := (rp_low h0).1.2.1
        unfold mX9_rule_b64 mX9_rule_b83
        refine pq_f (show ¬ (1 : Int32) = 0 by decide) ?_
        have em : m = nI m.toInt.toNat := nI_x (by omega) (by omega)
        have hmc := MC_3 (n := m.toInt.toNat) hM (by omega)
        rw [← em] at hmc
        refine pq_call (r_rules (a := 4) (rp_low h0) (by decide) hmc) (fun y hy => ?_)
        exact r_fin1 (CD_k 0 (by decide)) h0 hy (by rfl) (fun q σ' h1 _ => r_tsize h1)
end RCL
