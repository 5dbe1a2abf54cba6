/-! part 64b.calls -/
section
/-! the reference's calls: acts by name -/
def RAN (s : ANS) (cd : String → Int32) (y : Int32 × RS9) : Prop := RR9 y.2 s.2 ∧ match s.1 with
  | .inl v => y.1 = v ∧ y.2.1 0 = 0
  | .inr E => y.2.1 0 = cd E
def RAI (s : Int32 × SPV) (y : Int32 × RS9) : Prop := RR9 y.2 s.2 ∧ y.1 = s.1
def CD9 (r : Int32 × SST) : Prop := ∃ c, c ≤ 9 ∧ r.1 = nI c
theorem CD_if {c : Prop} {d : Decidable c} {A B : Int32 × SST} (h1 : CD9 A) (h2 : CD9 B) : CD9 (@ite _ c d A B) := by
  by_cases h : c
  · rw [if_pos h]; exact h1
  · rw [if_neg h]; exact h2
theorem CD_k {S : SST} (c : Nat) (h : c ≤ 9) : CD9 (nI c, S) := ⟨c, h, rfl⟩
theorem CD_fin {S S1 : SST} : CD9 (finA S S1) := CD_if (CD_k 3 (by decide)) (CD_k 0 (by decide))
theorem CD_lo {S : SST} {w : BL} : CD9 (loA S w) := by
  have h : lkC S.2.1.2.2.2.2 w = 6 ∨ lkC S.2.1.2.2.2.2 w = 7 ∨ lkC S.2.1.2.2.2.2 w = 0 := by
    unfold lkC
    split
    · exact Or.inl rfl
    · split
      · exact Or.inr (Or.inl rfl)
      · exact Or.inr (Or.inr rfl)
  unfold loA
  refine CD_if (CD_k 0 (by decide)) ?_
  rcases h with h | h | h
  · rw [h]; exact CD_k 6 (by decide)
  · rw [h]; exact CD_k 7 (by decide)
  · rw [h]; exact CD_k 0 (by decide)
theorem CD_fr {S : SST} {p : Int32} : CD9 (frA S p) := CD_if (CD_if (CD_k 4 (by decide)) CD_fin) (CD_k 1 (by decide))
theorem CD_sp {S : SST} {p : Int32} : CD9 (spA S p) := by
  refine CD_if ?_ (CD_k 1 (by decide))
  cases S.2.2.1 p.toInt.toNat with
  | none => exact CD_k 4 (by decide)
  | some t => exact CD_if (CD_k 2 (by decide)) CD_fin
theorem CD_sw {S : SST} {p o : Int32} : CD9 (swA S p o) := CD_if (CD_if (CD_k 5 (by decide)) (CD_if (CD_k 8 (by decide)) (CD_if (CD_k 2 (by decide)) CD_fin))) (CD_k 1 (by decide))
theorem CD_wp {S : SST} : CD9 (wpA S) := CD_if (CD_k 4 (by decide)) (CD_k 0 (by decide))
theorem CD_tl {S : SST} {p : Int32} {w : BL} : CD9 (tlA S p w) := CD_if (CD_if (CD_k 2 (by decide)) (CD_if (CD_k 3 (by decide)) (CD_k 0 (by decide)))) (CD_k 1 (by decide))
section RCL
variable {σ : RS9} {V : SPV}
theorem doa_mono {σ0 σ1 : RS9} {r : Int32 × SST} {y : Int32 × RS9} (h : DOA σ1 r y) (hX : FRX RA9 FA9 σ0 σ1) : DOA σ0 r y := by
  obtain ⟨σ', h1, h2, h3⟩ := h
  exact ⟨σ', h1, h2, frx_tr hX h3⟩
/-- an act is done, or not -/
theorem r_fin1 {σ0 : RS9} {r : Int32 × SST} {v th : Int32} {cd : String → Int32} {K : RS9 → Option (Int32 × RS9)} {y : Int32 × RS9} (hd : CD9 r) (h0 : RP9 σ0 V) (hy : DOA σ0 r y) (hcd : cd eS = th) (hK : r.1 = 0 → ∀ σ', RR9 σ' (sCall V r) → σ'.1 57 = y.2.1 57 → PQ (K σ') (fun z => z.1 = v ∧ RR9 z.2 (sCall V r) ∧ z.2.1 0 = σ'.1 0)) : PQ ((mX9_isDone y.1 th y.2).bind fun r3 => (if r3.1 = (0 : Int32) then some ((0 : Int32), r3.2) else K r3.2)) (RAN (sAct V r v) cd) := by
  obtain ⟨c, hc, hr⟩ := hd
  obtain ⟨σ1, rfl, g1, g2⟩ := hy
  refine pq_call (r_isDone (c := c) (th := th) hr hc h0 g2 g1) (fun z hz => ?_)
  obtain ⟨σ2, rfl, m1, m2, m3⟩ := hz
  unfold sAct
  refine if_01 (fun q => ?_) (fun q => ?_)
  · have q := of_decide_eq_false q
    rw [if_neg q] at m3 ⊢
    exact pq_ret ⟨m1, m3.trans hcd.symm⟩
  · have q := of_decide_eq_true q
    rw [if_pos q] at m3 ⊢
    refine pq_tail (hK q σ2 m1 (m2 q)) (fun z hz => ?_)
    exact ⟨hz.2.1, hz.1, hz.2.2.trans m3⟩
theorem r_tsize {σ' : RS9} (h : RR9 σ' V) : PQ (some (σ'.1 33, σ')) (fun z => z.1 = nPc V ∧ RR9 z.2 V ∧ z.2.1 0 = σ'.1 0) := pq_ret ⟨(RM_33 h.2.1).1, h, rfl⟩
theorem r_tbuilt {σ' : RS9} (h : RR9 σ' V) (hS : SV V.2.1) : PQ ((mX9_builtMany σ').bind fun r4 => some (r4.1, r4.2)) (fun z => z.1 = nBl V ∧ RR9 z.2 V ∧ z.2.1 0 = σ'.1 0) := by
  refine pq_call (r_builtMany (RM_BV h.2.1) pcs_ord (by have := h.2.1.1.1.1.2; omega) hS.1) (fun y hy => ?_)
  obtain ⟨σ2, rfl, k1, k2⟩ := hy
  exact pq_ret ⟨rfl, RR_frx h k2 (fun k hk q => by omega) (fun k hk q => by omega), k2.2 0 (fun q => by omega)⟩
theorem sCall_S {r : Int32 × SST} (h : r.1 = 0) : (sCall V r).2.1 = r.2 := by
  unfold sCall
  rw [if_pos h]
theorem rp_low {σ0 : RS9} (h : RP9 σ0 V) : RM9 σ0 V.2.1 := h.1.2.1
theorem RR_4 (h : RR9 σ V) : V.2.1.1.length ≤ 400 := h.2.1.1.1.1.2
theorem r_free {v : Int32} (h : RR9 σ V) (hS : SV V.2.1) : PQ (mX9_free v σ) (RAN (sFree V v) wc_L_free) := by
  unfold mX9_free mX9_free_b25
  refine pq_call (r_aside h) (fun y hy => ?_)
  obtain ⟨σ0, rfl, h0⟩ := hy
  refine pq_call (r_free0 (rp_low h0) hS) (fun y hy => ?_)
  have e : dA V.2.1 8 v 0 [] = frA V.2.1 v := rfl
  unfold sFree
  rw [e]
  refine r_fin1 CD_fr h0 hy (if_pos rfl) (fun q σ' h1 _ => r_tbuilt h1 ?_)
  rw [sCall_S q]; exact frA_SV hS
theorem r_swap {v u : Int32} (h : RR9 σ V) (hS : SV V.2.1) : PQ (mX9_swap v u σ) (RAN (sSwap V v u) wc_L_swap) := by
  unfold mX9_swap mX9_swap_b26
  refine pq_call (r_aside h) (fun y hy => ?_)
  obtain ⟨σ0, rfl, h0⟩ := hy
  refine pq_call (r_swap0 (rp_low h0) hS) (fun y hy => ?_)
  have e : dA V.2.1 10 v u [] = swA V.2.1 v u := rfl
  unfold sSwap
  rw [e]
  refine r_fin1 CD_sw h0 hy (if_pos rfl) (fun q σ' h1 _ => r_tbuilt h1 ?_)
  rw [sCall_S q]; exact swA_SV hS
theorem r_spread {v : Int32} (h : RR9 σ V) (hS : SV V.2.1) : PQ (mX9_spread v σ) (RAN (sSpread V v) wc_L_spread) := by
  unfold mX9_spread mX9_spread_b25
  refine pq_call (r_aside h) (fun y hy => ?_)
  obtain ⟨σ0, rfl, h0⟩ := hy
  refine pq_call (r_spread0 (rp_low h0) hS) (fun y hy => ?_)
  obtain ⟨σ1, rfl, g1, g2⟩ := hy
  have e : dA V.2.1 9 v 0 [] = spA V.2.1 v := rfl
  unfold sSpread
  rw [e]
  refine r_fin1 (cd := wc_L_spread) (th := 1) (K := fun s => some (s.1 57, s)) CD_sp h0 ⟨σ1, rfl, fun q => (g1 q).1, g2⟩ (if_pos rfl) (fun q σ' h1 h57 => ?_)
  exact pq_ret ⟨h57.trans (g1 q).2, h1, rfl⟩
theorem r_wipe (h : RR9 σ V) (hS : SV V.2.1) : PQ (mX9_wipe σ) (RAN (sWipe V) wc_L_wipe) := by
  unfold mX9_wipe mX9_wipe_b26
  refine pq_call (r_aside h) (fun y hy => ?_)
  obtain ⟨σ0, rfl, h0⟩ := hy
  refine pq_isr (r_toldMany (rp_low h0)) (pq_call (r_wipe0 (rp_low h0) hS) (fun y hy => ?_))
  have e : dA V.2.1 11 0 0 [] = wpA V.2.1 := rfl
  unfold sWipe
  rw [e, tcnt_40 (rp_low h0) hS]
  refine r_fin1 (cd := wc_L_wipe) (th := 1) (K := fun s => some (nI (tcnt V.2.1.2.2.1 (pcF V.2.1).length), s)) CD_wp h0 hy (if_pos rfl) (fun q σ' h1 _ => ?_)
  exact pq_ret ⟨rfl, h1, rfl⟩
theorem r_unlock (h : RR9 σ V) : PQ (mX9_unlock σ) (fun y => ∃ v, (sUnlock V).1 = .inl v ∧ y.1 = v ∧ RR9 y.2 (sUnlock V).2) := by
  unfold mX9_unlock mX9_unlock_b24
  refine pq_call (r_aside h) (fun y hy => ?_)
  obtain ⟨σ0, rfl, h0⟩ := hy
  refine pq_call (r_unlocks (rp_low h0)) (fun y hy => ?_)
  refine pq_tail (r_fin1 (V := V) (v := nPc (sCall V (0, setC V.2.1 (V.2.1.2.1.1, V.2.1.2.1.2.1, V.2.1.2.1.2.2.1, V.2.1.2.1.2.2.2.1, [])))) (cd := fun _ => 0) (CD_k 0 (by decide)) h0 hy rfl (fun q σ' h1 _ => r_tsize h1)) (fun z hz => ?_)
  exact ⟨_, rfl, hz.2.1, hz.1⟩
theorem RR_tape0 (h : RR9 σ V) : RR9 (rSf σ 9 0) (noT V) := by
  obtain ⟨a, b, c, d, e, f⟩ := h
  have hX : FRX NO9 (fun k => k = 9) σ (rSf σ 9 0) := ⟨fun _ _ => rfl, fun k hk => sf_ne hk⟩
  exact ⟨⟨sf_eq, Nat.zero_le _, fun i hi => absurd hi (Nat.not_lt_zero _)⟩, RM_frx b hX (fun q => q) (fun k _ _ q => q) ⟨fun q => by omega, fun q => by omega⟩, PA_frx c hX (fun q => q) (fun q => by omega), IM_frx d hX (fun q => q) (fun q => by omega), (hX.2 7 (fun q => by omega)).trans e, (hX.2 12 (fun q => by omega)).trans f⟩
theorem r_took (h : RR9 σ V) : PQ (mX9_took σ) (fun y => y = (nI V.1.length, rSf σ 9 0)) := by
  unfold mX9_took
  rw [h.1.1]
  exact pq_ret rfl
theorem bLow_d {c : Int32} : decide (97 ≤ c.toInt ∧ c.toInt ≤ 122) = bLow c := Bool.decide_and _ _
theorem r_isWord {T : BL} (h8 : RLs σ 8 T) (hT : T.length ≤ 400) : PQ (mX9_isWord (nI T.length) σ) (fun y => y = (bI (isWd T), σ)) := by
  unfold mX9_isWord
  refine pq_isr r_isIn ?_
  rw [kt_1, kt_8, nI_toInt (by omega)]
  have fin : ∀ b : Bool, PQ (mX9_isWord_b39 (bI b) σ) (fun y => y = (bI b, σ)) := fun b => by
    unfold mX9_isWord_b39
    exact pq_ck (pq_ret rfl)
  have key : ∀ (d i : Nat) (b : Bool), i ≤ T.length → b = (decide (1 ≤ T.length ∧ T.length ≤ 8) && (T.take i).all bLow) → PQ (mX9_isWord_l10 d (nI T.length) (bI b) (nI i) σ) (fun y => y = (bI (isWd T), σ)) := by
    intro d
    induction d with
    | zero => intro i b _ _; exact pq_none
    | succ d ih =>
      intro i b hi hb
      have eW : isWd T = (decide (1 ≤ T.length ∧ T.length ≤ 8) && T.all bLow) := by
        unfold isWd
        rw [← Bool.decide_and]
      unfold mX9_isWord_l10
      refine pq_le (nI_toInt (by omega)) (nI_toInt (by omega)) (fun q => ?_) (fun q => if_01 (fun q1 => ?_) (fun q1 => ?_))
      · have e : i = T.length := by omega
        rw [e, List.take_length] at hb
        rw [eW, ← hb]
        exact fin b
      · have e9 : isWd T = b := by
          rw [eW, q1]
          cases h1 : decide (1 ≤ T.length ∧ T.length ≤ 8) with
          | false => rfl
          | true =>
            rw [h1, q1] at hb
            cases h2 : T.all bLow with
            | false => rfl
            | true =>
              have h3 : (T.take i).all bLow = true := List.all_eq_true.mpr (fun x hx => List.all_eq_true.mp h2 x (List.mem_of_mem_take hx))
              rw [h3] at hb; cases hb
        rw [e9]; exact fin b
      · have hi' : i < T.length := by omega
        rw [rd_nI (by omega), h8 i hi']
        refine pq_ck (pq_isr r_isIn ?_)
        rw [kt_97, kt_122, bLow_d, nI_1]
        refine ih (i + 1) _ (by omega) ?_
        rw [q1] at hb
        have e5 : T.take (i + 1) = T.take i ++ [T.getD i 0] := by
          rw [List.take_succ, List.getD_eq_getElem?_getD, List.getElem?_eq_getElem hi']; rfl
        rw [e5, List.all_append, ← Bool.and_assoc, ← hb]
        show bLow (T.getD i 0) = (true && (bLow (T.getD i 0) && true))
        rw [Bool.and_true, Bool.true_and]
  have e0 : decide ((1 : Int) ≤ (T.length : Int) ∧ (T.length : Int) ≤ 8) = decide (1 ≤ T.length ∧ T.length ≤ 8) := decide_eq_decide.mpr ⟨fun h => by omega, fun h => by omega⟩
  rw [e0]
  exact key rFU 0 _ (Nat.zero_le _) (by rw [List.take_zero]; exact (Bool.and_true _).symm)
theorem r_lock (h : RR9 σ V) : PQ (mX9_lock σ) (RAN (sLock V) wc_L_lock) := by
  have h400 := h.1.2.1
  have h8 := h.1.2.2
  unfold mX9_lock mX9_lock_b19 mX9_lock_b57
  refine pq_isr (r_took h) (pq_isr (r_isWord (T := V.1) h8 h400) ?_)
  have h1 := RR_tape0 h
  unfold sLock
  refine if_01 (fun q => ?_) (fun q => ?_)
  · rw [if_neg (show ¬ isWd V.1 = true by rw [q]; decide)]
    refine pq_f (show ¬ (1 : Int32) ≤ 0 by decide) (pq_ret ⟨RR_f0 h1, sf_eq⟩)
  · rw [if_pos q]
    refine pq_t (show (0 : Int32) ≤ 0 by decide) (pq_call r_putsAside (fun y hy => ?_))
    obtain ⟨σ0, rfl, g1, g2⟩ := hy
    have h2 : RR9 (rSf (rSf σ 9 0) 0 0) (noT V) := RR_f0 h1
    have h0 : RP9 σ0 (noT V) := ⟨RR_frx h2 g2 (fun k hk q => by omega) (fun k _ q => q), MR9_ext h2.2.1.1 g1⟩
    have h8' : RLs σ0 8 V.1 := RL_frx (σ := rSf (rSf σ 9 0) 0 0) h8 g2 (fun q => by omega)
    have hw8 : V.1.length ≤ 8 := by
      unfold isWd at q
      rw [Bool.and_eq_true, Bool.and_eq_true] at q
      exact of_decide_eq_true q.1.2
    refine pq_call (r_lock0 (a := 0) (T := V.1) (w := V.1) (rp_low h0) h8' h400 (by omega) (fun k hk => by rw [Nat.zero_add]) hw8) (fun y hy => ?_)
    have e : dA (noT V).2.1 6 0 0 V.1 = loA V.2.1 V.1 := rfl
    have e' : dA V.2.1 6 0 0 V.1 = loA V.2.1 V.1 := rfl
    rw [e']
    exact r_fin1 CD_lo h0 hy (by rfl) (fun q σ' h1 _ => r_tsize h1)
theorem r_tookTold (h : RR9 σ V) : PQ (mX9_tookTold σ) (fun y => ∃ σ', y = (nI V.1.length, σ') ∧ RR9 σ' (noT V) ∧ (V.1.length ≤ 60 → RLs σ' 53 V.1) ∧ FRX R53 (fun k => k = 9) σ σ') := by
  have h400 := h.1.2.1
  have h8 := h.1.2.2
  have h1 := RR_tape0 h
  unfold mX9_tookTold
  refine pq_isr (r_took h) ?_
  have hX0 : FRX R53 (fun k => k = 9) σ (rSf σ 9 0) := ⟨fun _ _ => rfl, fun k hk => sf_ne hk⟩
  have key : ∀ (d i : Nat) (σ1 : RS9), i ≤ V.1.length → FRX R53 NF9 (rSf σ 9 0) σ1 → RLs σ1 53 (V.1.take i) → PQ (mX9_tookTold_l7 d (nI V.1.length) (nI i) σ1) (fun y => ∃ σ', y = (nI V.1.length, σ') ∧ RR9 σ' (noT V) ∧ (V.1.length ≤ 60 → RLs σ' 53 V.1) ∧ FRX R53 (fun k => k = 9) σ σ') := by
    intro d
    induction d with
    | zero => intro i σ1 _ _ _; exact pq_none
    | succ d ih =>
      intro i σ1 hi hX hR
      have hRR : RR9 σ1 (noT V) := RR_frx h1 hX (fun k hk q => by omega) (fun k _ q => q)
      have hXX : FRX R53 (fun k => k = 9) σ σ1 := frx_tr hX0 (frx_mono hX (fun k hk => hk) (fun k hk => absurd hk id))
      unfold mX9_tookTold_l7 mX9_tookTold_b36
      refine pq_le (nI_toInt (by omega)) (nI_toInt (by omega)) (fun q => ?_) (fun q => pq_lt kt_60 (nI_toInt (by omega)) (fun q1 => ?_) (fun q1 => ?_))
      · have e : i = V.1.length := by omega
        rw [e, List.take_length] at hR
        exact pq_ret ⟨σ1, rfl, hRR, fun _ => hR, hXX⟩
      · exact pq_ret ⟨σ1, rfl, hRR, fun q => by omega, hXX⟩
      · have hi' : i < V.1.length := by omega
        have e8 : σ1.2 8 i = V.1.getD i 0 := by
          rw [hX.1 8 (fun q => by omega)]; exact h8 i hi'
        rw [rd_nI (by omega), e8, nI_1]
        exact pq_ck (pq_ck (ih (i + 1) _ (by omega) (frx_tr hX ⟨fun k hk => sa_ne hk, fun k hk => rfl⟩) (RL_53 hR hi' rfl (by omega))))
  exact key rFU 0 (rSf σ 9 0) (Nat.zero_le _) frx_rfl (fun i hi => absurd hi (by rw [List.take_zero]; exact Nat.not_lt_zero _))
theorem r_tell {v : Int32} (h : RR9 σ V) (hS : SV V.2.1) : PQ (mX9_tell v σ) (RAN (sTell V v) wc_L_tell) := by
  have h400 := h.1.2.1
  unfold mX9_tell mX9_tell_b17 mX9_tell_b55
  refine pq_call (r_tookTold h) (fun y hy => ?_)
  obtain ⟨σ1, rfl, h1, h53, -⟩ := hy
  unfold sTell
  refine pq_le (nI_toInt (by omega)) kt_60 (fun q => ?_) (fun q => ?_)
  · rw [if_pos (show V.1.length ≤ 60 by omega)]
    refine pq_t (show (0 : Int32) ≤ 0 by decide) (pq_call r_putsAside (fun y hy => ?_))
    obtain ⟨σ0, rfl, g1, g2⟩ := hy
    have h2 : RR9 (rSf σ1 0 0) (noT V) := RR_f0 h1
    have h0 : RP9 σ0 (noT V) := ⟨RR_frx h2 g2 (fun k hk q => by omega) (fun k _ q => q), MR9_ext h2.2.1.1 g1⟩
    have h53' : RLs σ0 53 V.1 := RL_frx (σ := rSf σ1 0 0) (h53 (by omega)) g2 (fun q => by omega)
    refine pq_call (r_tell0 (v := v) (w := V.1) (rp_low h0) hS h53' (by omega)) (fun y hy => ?_)
    have e' : dA V.2.1 12 v 0 V.1 = tlA V.2.1 v V.1 := rfl
    rw [e']
    refine r_fin1 CD_tl h0 hy (by rfl) (fun q σ' h1 _ => r_tbuilt h1 ?_)
    rw [sCall_S q]; exact tlA_SV hS
  · rw [if_neg (show ¬ V.1.length ≤ 60 by omega)]
    exact pq_f (show ¬ (1 : Int32) ≤ 0 by decide) (pq_ret ⟨RR_f0 h1, sf_eq⟩)
theorem r_kind {k i : Int32} (h : RR9 σ V) : PQ (mX9_kind k i σ) (RAN (sKind V k i) wc_L_kind) := by
  have b23 : ∀ s1 : Int32, (s1 = if k.toInt ≤ 3 ∧ (if i = 0 then (0 : Int) else -1) ≤ k.toInt then 0 else 1) → PQ (mX9_kind_b23 k i s1 σ) (RAN (sKind V k i) wc_L_kind) := fun s1 hs => by
    unfold mX9_kind_b23
    unfold sKind
    by_cases hc : k.toInt ≤ 3 ∧ (if i = 0 then (0 : Int) else -1) ≤ k.toInt
    · rw [if_pos hc] at hs ⊢
      subst hs
      refine pq_t (show (0 : Int32) ≤ 0 by decide) (pq_call (r_aside (RR_f0 h)) (fun y hy => ?_))
      obtain ⟨σ0, rfl, h0⟩ := hy
      have hM := (rp_low h0).1.2.1
      unfold mX9_kind_b50 mX9_kind_b69
      refine pq_eq (fun q => ?_) (fun q => ?_)
      · rw [if_pos q] at hc ⊢
        have hk : k = 0 ∨ k = 1 ∨ k = 2 ∨ k = 3 := by
          rcases (by omega : k.toInt = 0 ∨ k.toInt = 1 ∨ k.toInt = 2 ∨ k.toInt = 3) with e | e | e | e
          · exact Or.inl (Int32.toInt_inj.mp e)
          · exact Or.inr (Or.inl (Int32.toInt_inj.mp e))
          · exact Or.inr (Or.inr (Or.inl (Int32.toInt_inj.mp e)))
          · exact Or.inr (Or.inr (Or.inr (Int32.toInt_inj.mp e)))
        refine pq_call (r_rules (a := 1) (rp_low h0) (by decide) (MC_0 hM hk)) (fun y hy => ?_)
        have e : dA V.2.1 0 k 0 [] = (0, setC V.2.1 (k, V.2.1.2.1.2)) := rfl
        rw [e]
        refine r_fin1 (CD_k 0 (by decide)) h0 hy (by rfl) (fun q σ' h1 _ => r_tsize h1)
      · rw [if_neg q] at hc ⊢
        have hk : k = -1 ∨ k = 0 ∨ k = 1 ∨ k = 2 ∨ k = 3 := by
          rcases (by omega : k.toInt = -1 ∨ k.toInt = 0 ∨ k.toInt = 1 ∨ k.toInt = 2 ∨ k.toInt = 3) with e | e | e | e | e
          · exact Or.inl (Int32.toInt_inj.mp e)
          · exact Or.inr (Or.inl (Int32.toInt_inj.mp e))
          · exact Or.inr (Or.inr (Or.inl (Int32.toInt_inj.mp e)))
          · exact Or.inr (Or.inr (Or.inr (Or.inl (Int32.toInt_inj.mp e))))
          · exact Or.inr (Or.inr (Or.inr (Or.inr (Int32.toInt_inj.mp e))))
        refine pq_call (r_rules (a := 2) (rp_low h0) (by decide) (MC_1 hM hk)) (fun y hy => ?_)
        have e : dA V.2.1 1 k 0 [] = (0, setC V.2.1 (V.2.1.2.1.1, k, V.2.1.2.1.2.2)) := rfl
        rw [e]
        refine r_fin1 (CD_k 0 (by decide)) h0 hy (by rfl) (fun q σ' h1 _ => r_tsize h1)
    · rw [if_neg hc] at hs ⊢
      subst hs
      exact pq_f (show ¬ (1 : Int32) ≤ 0 by decide) (pq_ret ⟨RR_f0 h, sf_eq⟩)
  unfold mX9_kind mX9_kind_b11
  refine pq_eq (fun q => pq_isr r_isIn ?_) (fun q => pq_isr r_isIn ?_)
  · rw [kt_0, kt_3]
    refine if_01 (fun q1 => b23 1 ?_) (fun q1 => b23 0 ?_)
    · have q1 := of_decide_eq_false q1
      rw [if_pos q, if_neg (fun z => q1 ⟨z.2, z.1⟩)]
    · have q1 := of_decide_eq_true q1
      rw [if_pos q, if_pos ⟨q1.2, q1.1⟩]
  · rw [kt_m1, kt_3]
    refine if_01 (fun q1 => b23 1 ?_) (fun q1 => b23 0 ?_)
    · have q1 := of_decide_eq_false q1
      rw [if_neg q, if_neg (fun z => q1 ⟨z.2, z.1⟩)]
    · have q1 := of_decide_eq_true q1
      rw [if_neg q, if_pos ⟨q1.2, q1.1⟩]
theorem r_rule {a m : Int32} (h : RR9 σ V) : PQ (mX9_rule a m σ) (RAN (sRule V a m) wc_L_rule) := by
  unfold mX9_rule
  refine pq_isr r_isIn ?_
  rw [kt_0, kt_1]
  refine if_01 (fun q => ?_) (fun q => ?_)
  · have q := of_decide_eq_false q
    have es : sRule V a m = (.inr eN, V) := by
      unfold sRule
      rw [if_neg (fun z => q (by rw [z]; decide)), if_neg (fun z => q (by rw [z]; decide))]
    rw [es]
    unfold mX9_rule_b37
    exact pq_f (show ¬ (1 : Int32) ≤ 0 by decide) (pq_ret ⟨RR_f0 h, sf_eq⟩)
  · have q := of_decide_eq_true q
    refine pq_eq (fun q1 => ?_) (fun q1 => ?_)
    · subst q1
      have es : sRule V 0 m = if 0 ≤ m.toInt ∧ m.toInt ≤ 1 then sAct V (dA V.2.1 (if m = 1 then 3 else 4) 0 0 []) (nPc (sCall V (dA V.2.1 (if m = 1 then 3 else 4) 0 0 []))) else (.inr eA, V) := if_pos rfl
      rw [es]
      unfold mX9_rule_b26
      refine pq_isr r_isIn ?_
      rw [kt_0, kt_1]
      refine if_01 (fun q2 => ?_) (fun q2 => ?_)
      · rw [if_neg (of_decide_eq_false q2)]
        unfold mX9_rule_b37
        exact pq_f (show ¬ (2 : Int32) ≤ 0 by decide) (pq_ret ⟨RR_f0 h, sf_eq⟩)
      · have q2 := of_decide_eq_true q2
        rw [if_pos q2]
        unfold mX9_rule_b37
        refine pq_t (show (0 : Int32) ≤ 0 by decide) (pq_call (r_aside (RR_f0 h)) (fun y hy => ?_))
        obtain ⟨σ0, rfl, h0⟩ := hy
        have hM := (rp_low h0).1.2.1
        unfold mX9_rule_b64 mX9_rule_b83
        refine pq_t rfl ?_
        rcases (by omega : m.toInt = 0 ∨ m.toInt = 1) with e | e
        · have e : m = 0 := Int32.toInt_inj.mp e
          subst e
          rw [if_neg (by decide)]
          refine pq_call (r_rules (a := 3) (rp_low h0) (by decide) (MC_2 hM (Or.inl rfl))) (fun y hy => ?_)
          exact r_fin1 (CD_k 0 (by decide)) h0 hy (by rfl) (fun q σ' h1 _ => r_tsize h1)
        · have e : m = 1 := Int32.toInt_inj.mp e
          subst e
          rw [if_pos rfl]
          refine pq_call (r_rules (a := 3) (rp_low h0) (by decide) (MC_2 hM (Or.inr rfl))) (fun y hy => ?_)
          exact r_fin1 (CD_k 0 (by decide)) h0 hy (by rfl) (fun q σ' h1 _ => r_tsize h1)
    · have e1 : a = 1 := by
        rcases (by omega : a.toInt = 0 ∨ a.toInt = 1) with e | e
        · exact absurd (Int32.toInt_inj.mp e) q1
        · exact Int32.toInt_inj.mp e
      subst e1
      have es : sRule V 1 m = if 1 ≤ m.toInt ∧ m.toInt ≤ 40 then sAct V (dA V.2.1 5 m 0 []) (nPc (sCall V (dA V.2.1 5 m 0 []))) else (.inr eA, V) := (if_neg (by decide)).trans (if_pos rfl)
      rw [es]
      unfold mX9_rule_b26
      refine pq_isr r_isIn ?_
      rw [kt_1, kt_40]
      refine if_01 (fun q2 => ?_) (fun q2 => ?_)
      · rw [if_neg (of_decide_eq_false q2)]
        unfold mX9_rule_b37
        exact pq_f (show ¬ (2 : Int32) ≤ 0 by decide) (pq_ret ⟨RR_f0 h, sf_eq⟩)
      · have q2 := of_decide_eq_true q2
        rw [if_pos q2]
        unfold mX9_rule_b37
        refine pq_t (show (0 : Int32) ≤ 0 by decide) (pq_call (r_aside (RR_f0 h)) (fun y hy => ?_))
        obtain ⟨σ0, rfl, h0⟩ := hy
        have hM := (rp_low h0).1.2.1
        unfold mX9_rule_b64 mX9_rule_b83
        refine pq_f (show ¬ (1 : Int32) = 0 by decide) ?_
        have em : m = nI m.toInt.toNat := nI_x (by omega) (by omega)
        have hmc := MC_3 (n := m.toInt.toNat) hM (by omega)
        rw [← em] at hmc
        refine pq_call (r_rules (a := 4) (rp_low h0) (by decide) hmc) (fun y hy => ?_)
        exact r_fin1 (CD_k 0 (by decide)) h0 hy (by rfl) (fun q σ' h1 _ => r_tsize h1)
end RCL
end
/-! part 64c.calls -/
section
/-! the reference's calls: the tape, file, undo, image, back -/
section RCM
variable {σ : RS9} {V : SPV}
theorem RR_tape {σ' : RS9} {T : BL} {R F : Nat → Prop} (h : RR9 σ V) (h1 : σ'.1 9 = nI T.length) (h2 : T.length ≤ 400) (h3 : RLs σ' 8 T) (hX : FRX R F σ σ') (hR : ∀ k, (k = 1 ∨ k = 3 ∨ k = 4 ∨ (34 ≤ k ∧ k ≤ 44)) → ¬ R k) (hF : ∀ k, (k = 5 ∨ k = 6 ∨ k = 7 ∨ k = 12 ∨ k = 33 ∨ k = 45) → ¬ F k) : RR9 σ' (T, V.2) := by
  obtain ⟨-, b, c, d, e, f⟩ := h
  exact ⟨⟨h1, h2, h3⟩, RM_frx b hX (hR _ (by omega)) (fun k h1 h2 => hR k (by omega)) ⟨hF _ (by omega), hF _ (by omega)⟩, PA_frx c hX (hR _ (by omega)) (hF _ (by omega)), IM_frx d hX (hR _ (by omega)) (hF _ (by omega)), (hX.2 7 (hF _ (by omega))).trans e, (hX.2 12 (hF _ (by omega))).trans f⟩
theorem r_fault (h : RR9 σ V) : PQ (mX9_fault σ) (RAI (V.2.2.2.2.2, V)) := by
  unfold mX9_fault
  exact pq_ret ⟨RR_f0 h, h.2.2.2.2.2⟩
theorem r_why (h : RR9 σ V) : PQ (mX9_why σ) (RAI (V.2.2.2.2.1, V)) := by
  unfold mX9_why
  exact pq_ret ⟨RR_f0 h, h.2.2.2.2.1⟩
theorem r_end {m : Int32} (h : RR9 σ V) : PQ (mX9_end m σ) (RAI (sEnd V m)) := by
  have h400 := h.1.2.1
  unfold mX9_end
  refine pq_isr r_isIn ?_
  rw [h.1.1, kt_0, nI_toInt (by omega)]
  unfold sEnd
  refine if_01 (fun q => ?_) (fun q => ?_)
  · rw [if_neg (of_decide_eq_false q)]
    exact pq_ck (pq_ret ⟨RR_f0 h, rfl⟩)
  · have q := of_decide_eq_true q
    rw [if_pos q]
    have hX : FRX NO9 (fun k => k = 0 ∨ k = 9) σ (rSf (rSf σ 0 0) 9 m) := ⟨fun _ _ => rfl, fun k hk => (sf_ne (fun z => hk (Or.inr z))).trans (sf_ne (fun z => hk (Or.inl z)))⟩
    have hl : (V.1.take m.toInt.toNat).length = m.toInt.toNat := by rw [List.length_take]; omega
    refine pq_ck (pq_ret ⟨RR_tape h ?_ (by rw [hl]; omega) (fun i hi => ?_) hX (fun k _ z => z) (fun k hk z => by omega), rfl⟩)
    · rw [hl]
      exact sf_eq.trans (nI_x q.1 (by omega))
    · rw [hl] at hi
      rw [List.getD_eq_getElem?_getD, List.getElem?_take, if_pos hi, ← List.getD_eq_getElem?_getD]
      exact h.1.2.2 i (by omega)
theorem feed_b : ∀ k : Fin 20, (24 : Int32) - (8 : Int32) * (nI (k : Nat) - nI (k : Nat) / (4 : Int32) * (4 : Int32)) = nI (24 - 8 * ((k : Nat) % 4)) := by decide
theorem f20_len {a b c d e : Int32} : (f4 a ++ f4 b ++ f4 c ++ f4 d ++ f4 e).length = 20 := rfl
theorem r_feed {a b c d e : Int32} (h : RR9 σ V) : PQ (mX9_feed a b c d e σ) (RAI (sFeed V a b c d e)) := by
  have h400 := h.1.2.1
  unfold mX9_feed sFeed
  rw [h.1.1]
  refine pq_le (i_add (nI_toInt (by omega)) (show (20 : Int32).toInt = 20 by decide) (by omega)) (show (400 : Int32).toInt = 400 by decide) (fun q => ?_) (fun q => ?_)
  · rw [if_pos (by omega)]
    generalize hB : f4 a ++ f4 b ++ f4 c ++ f4 d ++ f4 e = B
    have hBl : B.length = 20 := by rw [← hB]; rfl
    have eB : V.1 ++ f4 a ++ f4 b ++ f4 c ++ f4 d ++ f4 e = V.1 ++ B := by
      rw [← hB]; simp only [List.append_assoc]
    rw [eB]
    have key : ∀ (n i : Nat) (σ1 : RS9), i ≤ 20 → FRX (fun k => k = 8) (fun k => k = 0 ∨ k = 9) σ σ1 → σ1.1 9 = nI (V.1.length + i) → RLs σ1 8 (V.1 ++ B.take i) → PQ (mX9_feed_l23 n a b c d e (nI i) σ1) (RAI (nI (V.1.length + 20), (V.1 ++ B, V.2))) := by
      intro n
      induction n with
      | zero => intro i σ1 _ _ _ _; exact pq_none
      | succ n ih =>
        intro i σ1 hi hX h9 hR
        unfold mX9_feed_l23
        refine pq_le (show (20 : Int32).toInt = 20 by decide) (nI_toInt (by omega)) (fun q1 => ?_) (fun q1 => ?_)
        · have ei : i = 20 := by omega
          subst ei
          rw [h9]
          have hR2 : RLs σ1 8 (V.1 ++ B) := by
            have : B.take 20 = B := by rw [← hBl, List.take_length]
            rw [this] at hR; exact hR
          exact pq_ret ⟨RR_tape h (by rw [h9, List.length_append, hBl]) (by rw [List.length_append, hBl]; omega) hR2 hX (fun k hk z => by omega) (fun k hk z => by omega), rfl⟩
        · have hi' : i < 20 := by omega
          have b76 : ∀ s0 : Int32, by4 s0 (nI (24 - 8 * (i % 4))) = B.getD i 0 → PQ (mX9_feed_b76 (fun v1 v2 v3 v4 v5 v6 σ => mX9_feed_l23 n v1 v2 v3 v4 v5 v6 σ) a b c d e (nI i) s0 σ1) (RAI (nI (V.1.length + 20), (V.1 ++ B, V.2))) := fun s0 hs => by
            unfold mX9_feed_b76
            have es : (s0.toUInt32 >>> (((24 : Int32) - (8 : Int32) * (nI i - nI i / (4 : Int32) * (4 : Int32))).toUInt32 &&& Int32.toUInt32 31)).toInt32 &&& (255 : Int32) = B.getD i 0 := by
              rw [feed_b ⟨i, hi'⟩]; exact hs
            rw [es, h9, nI_1, nI_1]
            have el : (V.1 ++ B.take i).length = V.1.length + i := by rw [List.length_append, List.length_take]; omega
            have h4 := RL_put (c := B.getD i 0) hR (by omega)
            rw [el, List.append_assoc] at h4
            have e5 : B.take (i + 1) = B.take i ++ [B.getD i 0] := by
              rw [List.take_succ, List.getD_eq_getElem?_getD, List.getElem?_eq_getElem (by omega)]; rfl
            refine pq_ck (ih (i + 1) _ (by omega) (frx_tr hX ⟨fun k hk => sa_ne hk, fun k hk => sf_ne (fun z => hk (Or.inr z))⟩) ?_ ?_)
            · rw [sf_eq]; rfl
            · rw [e5]; exact h4
          have t4 : (4 : Int32).toInt = 4 := by decide
          have t8 : (8 : Int32).toInt = 8 := by decide
          have t12 : (12 : Int32).toInt = 12 := by decide
          have t16 : (16 : Int32).toInt = 16 := by decide
          refine pq_le t4 (nI_toInt (by omega)) (fun q2 => pq_le t8 (nI_toInt (by omega)) (fun q3 => pq_le t12 (nI_toInt (by omega)) (fun q4 => pq_le t16 (nI_toInt (by omega)) (fun q5 => b76 e ?_) (fun q5 => b76 d ?_)) (fun q4 => b76 c ?_)) (fun q3 => b76 b ?_)) (fun q2 => b76 a ?_)
          · rw [← hB]
            rcases (by omega : i = 16 ∨ i = 17 ∨ i = 18 ∨ i = 19) with z | z | z | z <;> subst z <;> rfl
          · rw [← hB]
            rcases (by omega : i = 12 ∨ i = 13 ∨ i = 14 ∨ i = 15) with z | z | z | z <;> subst z <;> rfl
          · rw [← hB]
            rcases (by omega : i = 8 ∨ i = 9 ∨ i = 10 ∨ i = 11) with z | z | z | z <;> subst z <;> rfl
          · rw [← hB]
            rcases (by omega : i = 4 ∨ i = 5 ∨ i = 6 ∨ i = 7) with z | z | z | z <;> subst z <;> rfl
          · rw [← hB]
            rcases (by omega : i = 0 ∨ i = 1 ∨ i = 2 ∨ i = 3) with z | z | z | z <;> subst z <;> rfl
    exact key rFU 0 _ (by omega) ⟨fun _ _ => rfl, fun k hk => sf_ne (fun z => hk (Or.inl z))⟩ ((sf_ne (by decide)).trans h.1.1) (by rw [List.take_zero, List.append_nil]; exact h.1.2.2)
  · rw [if_neg (by omega)]
    exact pq_ret ⟨RR_f0 h, rfl⟩
theorem PA_nil {σ' : RS9} (h : σ'.1 5 = 0) : PA9 σ' [] := ⟨h, Nat.zero_le _, fun i Q hq => by cases hq⟩
theorem r_file (h : RR9 σ V) : PQ (mX9_file σ) (RAI (sFile V)) := by
  have h400 := h.1.2.1
  have hT := h.1.2.2
  have hf0 : RR9 (rSf σ 0 0) V := RR_f0 h
  unfold mX9_file
  refine pq_isr (r_took hf0) (pq_ck ?_)
  have off0 : ∀ z, z ≠ 0 → (rSa (rSf (rSf σ 0 0) 9 0) 1 (0 : Int32) (nI V.1.length)).2 1 z = σ.2 1 z := fun z hz => by
    rw [show (0 : Int32) = nI 0 from rfl, up_nI (by omega), if_neg hz]; rfl
  have key : ∀ (n i : Nat) (σ1 : RS9), i ≤ V.1.length → FRX (fun k => k = 1) (fun k => k = 0 ∨ k = 9) σ σ1 → σ1.1 9 = 0 → σ1.2 1 0 = nI V.1.length → (∀ k, k < i → σ1.2 1 (43 + k) = V.1.getD k 0) → (∀ z, ((1 ≤ z ∧ z < 43) ∨ 443 ≤ z) → σ1.2 1 z = σ.2 1 z) → PQ (mX9_file_l19 n (nI V.1.length) (nI i) σ1) (RAI (sFile V)) := by
    intro n
    induction n with
    | zero => intro i σ1 _ _ _ _ _ _; exact pq_none
    | succ n ih =>
      intro i σ1 hi hX h9 h0 hk hz
      unfold mX9_file_l19
      refine pq_le (nI_toInt (by omega)) (nI_toInt (by omega)) (fun q => ?_) (fun q => ?_)
      · have ei : i = V.1.length := by omega
        subst ei
        have hM := h.2.1.1.2.1
        have hMC : MC (σ1.2 1) V.2.1.2.1 := by
          obtain ⟨h1, h2, h3, h4, h5, h6, h7⟩ := hM
          have hl4 := h7.2.2.2.2.1
          exact ⟨(hz 1 (by omega)).trans h1, (hz 2 (by omega)).trans h2, (hz 3 (by omega)).trans h3, (hz 4 (by omega)).trans h4, (hz 5 (by omega)).trans h5, fun l hl => ⟨(hz _ (by omega)).trans (h6 l hl).1, fun k hk => (hz _ (by have := cf_lk h7 hl; omega)).trans ((h6 l hl).2 k hk)⟩, h7⟩
        refine pq_call (r_cutsAnew (F := V.1) (mem := V.2.1.2.2.2) ⟨⟨h0, h400⟩, hk⟩ hMC (PR9_ext h.2.1.1.2.2.2 (hz 42 (by omega)) (fun i h1 _ => hz i (by omega)))) (fun y hy => ?_)
        obtain ⟨σ2, rfl, m1, m2⟩ := hy
        have hXX : FRX RA9 (fun k => k = 0 ∨ k = 9 ∨ FA9 k) σ σ2 := frx_tr (frx_mono hX (fun k hk => Or.inl hk) (fun k hk => by omega)) (frx_mono m2 (fun k hk => hk) (fun k hk => Or.inr (Or.inr hk)))
        have h5 : FRX NO9 (fun k => k = 5) σ2 (rSf σ2 5 0) := ⟨fun _ _ => rfl, fun k hk => sf_ne hk⟩
        refine pq_ret ⟨⟨⟨(sf_ne (by decide)).trans ((m2.2 9 (fun q => by omega)).trans h9), Nat.zero_le _, fun i hi => absurd hi (Nat.not_lt_zero _)⟩, RM_frx m1 h5 (fun q => q) (fun k _ _ q => q) ⟨fun q => by omega, fun q => by omega⟩, PA_nil sf_eq, IM_frx h.2.2.2.1 (frx_tr (frx_mono hXX (fun k hk => hk) (fun k hk => Or.inr hk)) (frx_mono h5 (fun k hk => absurd hk id) (fun k hk => Or.inl hk))) (fun q => by omega) (fun q => by omega), ?_, ?_⟩, (RM_33 m1).1⟩
        · exact (sf_ne (by decide)).trans ((hXX.2 7 (fun q => by omega)).trans h.2.2.2.2.1)
        · exact (sf_ne (by decide)).trans ((hXX.2 12 (fun q => by omega)).trans h.2.2.2.2.2)
      · have hi' : i < V.1.length := by omega
        have e8 : σ1.2 8 i = V.1.getD i 0 := by rw [hX.1 8 (fun q => by omega)]; exact hT i hi'
        rw [show (43 : Int32) + nI i = nI (43 + i) from nI_add 43 i, rd_nI (by omega), e8, nI_1]
        refine pq_ck (pq_ck (ih (i + 1) _ (by omega) (frx_tr hX ⟨fun k hk => sa_ne hk, fun k hk => rfl⟩) h9 ?_ (fun k hk2 => ?_) (fun z hz2 => ?_)))
        · rw [up_nI (by omega), if_neg (by omega)]; exact h0
        · rw [up_nI (by omega)]
          by_cases e : k = i
          · rw [if_pos (by rw [e]), e]
          · rw [if_neg (by omega)]; exact hk k (by omega)
        · rw [up_nI (by omega), if_neg (by omega)]; exact hz z hz2
  refine key rFU 0 _ (Nat.zero_le _) ⟨fun k hk => sa_ne hk, fun k hk => (sf_ne (fun z => hk (Or.inr z))).trans (sf_ne (fun z => hk (Or.inl z)))⟩ (show (rSf (rSf σ 0 0) 9 0).1 9 = 0 from sf_eq) ?_ (fun k hk => absurd hk (Nat.not_lt_zero _)) (fun z hz => off0 z (by omega))
  rw [show (0 : Int32) = nI 0 from rfl, up_nI (by omega), if_pos rfl]
/-- the row is read back from elsewhere, and the file cut -/
theorem r_reread {S : SST} {σ1 : RS9} (h : MR9 (σ1.2 1) S) : PQ (mX9_cutsFile σ1) (fun y => ∃ σ', y = (0, σ') ∧ RM9 σ' S ∧ FRX RK9 FK9 σ1 σ') := by
  refine pq_tail (r_cutsFile h.1 h.2.1) (fun y hy => ?_)
  obtain ⟨σ2, rfl, h1, h2⟩ := hy
  exact ⟨σ2, rfl, ⟨by rw [h2.1 1 (fun q => by omega)]; exact h, h1⟩, h2⟩
theorem r_undo (h : RR9 σ V) : PQ (mX9_undo σ) (RAN (sUndo V) wc_L_undo) := by
  obtain ⟨p1, p2, p3⟩ := h.2.2.1
  unfold mX9_undo mX9_undo_b13 sUndo
  rw [p1]
  refine pq_eqi (nI_toInt (by omega)) kt_0 (fun q => ?_) (fun q => ?_)
  · rw [if_pos (show V.2.2.1.length = 0 by have := q; omega)]
    exact pq_f (show ¬ (1 : Int32) ≤ 0 by decide) (pq_ret ⟨RR_f0 h, sf_eq⟩)
  · have hn0 : V.2.2.1.length ≠ 0 := fun z => q (by rw [z]; rfl)
    rw [if_neg hn0]
    refine pq_t (show (0 : Int32) ≤ 0 by decide) ?_
    rw [show nI V.2.2.1.length - (1 : Int32) = nI (V.2.2.1.length - 1) from nI_sb (b := 1) (by omega) (by omega)]
    have hlast : V.2.2.1[V.2.2.1.length - 1]? = some (lastS V) := by
      unfold lastS
      rw [List.getD_eq_getElem?_getD, List.getElem?_eq_getElem (by omega)]; rfl
    have hML := p3 _ _ hlast
    generalize hu : V.2.2.1.length - 1 = u at hlast hML
    have key : ∀ (n i : Nat) (σ1 : RS9), i ≤ 4347 → FRX (fun k => k = 1) (fun k => k = 0 ∨ k = 5) σ σ1 → σ1.1 5 = nI u → σ1.1 0 = 0 → (∀ z, z < i → σ1.2 1 z = σ.2 4 (4347 * u + z)) → PQ (mX9_undo_l37 n (nI i) σ1) (RAN (.inl (nI u), (V.1, lastS V, V.2.2.1.take u, V.2.2.2.1, V.2.2.2.2.1, V.2.2.2.2.2)) wc_L_undo) := by
      intro n
      induction n with
      | zero => intro i σ1 _ _ _ _ _; exact pq_none
      | succ n ih =>
        intro i σ1 hi hX h5 h0 hz
        unfold mX9_undo_l37
        refine pq_le (show (4347 : Int32).toInt = 4347 by decide) (nI_toInt (by omega)) (fun q => ?_) (fun q => ?_)
        · have e : i = 4347 := by omega
          subst e
          refine pq_call (r_reread (MR9_ext hML hz)) (fun y hy => ?_)
          obtain ⟨σ2, rfl, m1, m2⟩ := hy
          have hXX : FRX (fun k => k = 1 ∨ RK9 k) (fun k => k = 0 ∨ k = 5 ∨ FK9 k) σ σ2 := frx_tr (frx_mono hX (fun k hk => Or.inl hk) (fun k hk => by omega)) (frx_mono m2 (fun k hk => Or.inr hk) (fun k hk => Or.inr (Or.inr hk)))
          have e5 : σ2.1 5 = nI u := (m2.2 5 (fun q => by omega)).trans h5
          refine pq_ret ⟨⟨⟨(hXX.2 9 (fun q => by omega)).trans h.1.1, h.1.2.1, RL_frx h.1.2.2 hXX (fun q => by omega)⟩, m1, ⟨e5.trans (by rw [List.length_take]; congr 1; omega), by rw [List.length_take]; omega, fun j Q hq => ?_⟩, IM_frx h.2.2.2.1 hXX (fun q => by omega) (fun q => by omega), (hXX.2 7 (fun q => by omega)).trans h.2.2.2.2.1, (hXX.2 12 (fun q => by omega)).trans h.2.2.2.2.2⟩, e5, (m2.2 0 (fun q => by omega)).trans h0⟩
          rw [hXX.1 4 (fun q => by omega)]
          have hj : j < u := by
            have := (List.getElem?_eq_some_iff.mp hq).1
            rw [List.length_take] at this; omega
          rw [List.getElem?_take, if_pos hj] at hq
          exact p3 j Q hq
        · rw [h5, nI_43, rd_nI (by omega), hX.1 4 (fun q => by omega), nI_1]
          refine pq_ck (pq_ck (ih (i + 1) _ (by omega) (frx_tr hX ⟨fun k hk => sa_ne hk, fun k hk => rfl⟩) h5 h0 (fun z hz2 => ?_)))
          rw [up_nI (by omega)]
          by_cases e : z = i
          · rw [if_pos e, e]
          · rw [if_neg e]; exact hz z (by omega)
    exact key rFU 0 _ (by omega) ⟨fun _ _ => rfl, fun k hk => (sf_ne (fun z => hk (Or.inr z))).trans (sf_ne (fun z => hk (Or.inl z)))⟩ sf_eq ((sf_ne (by decide)).trans sf_eq) (fun z hz => absurd hz (Nat.not_lt_zero _))
theorem r_image (h : RR9 σ V) : PQ (mX9_image σ) (RAI (sImage V)) := by
  have hf := RR_f0 (x := 0) h
  unfold mX9_image
  have key : ∀ (n i : Nat) (σ1 : RS9), i ≤ 4347 → FRX (fun k => k = 3) NF9 (rSf σ 0 0) σ1 → (∀ z, z < i → σ1.2 3 z = σ.2 1 z) → PQ (mX9_image_l7 n (nI i) σ1) (RAI (sImage V)) := by
    intro n
    induction n with
    | zero => intro i σ1 _ _ _; exact pq_none
    | succ n ih =>
      intro i σ1 hi hX hz
      unfold mX9_image_l7
      refine pq_le (show (4347 : Int32).toInt = 4347 by decide) (nI_toInt (by omega)) (fun q => ?_) (fun q => ?_)
      · have e : i = 4347 := by omega
        subst e
        have hXX : FRX (fun k => k = 3) (fun k => k = 6) (rSf σ 0 0) (rSf σ1 6 1) := ⟨fun k hk => hX.1 k hk, fun k hk => (sf_ne hk).trans (hX.2 k (fun q => q))⟩
        obtain ⟨⟨a1, a2, a3⟩, b, c, d, e, f⟩ := hf
        refine pq_ck (pq_ret ⟨⟨⟨(hXX.2 9 (fun q => by omega)).trans a1, a2, RL_frx a3 hXX (fun q => by omega)⟩, RM_frx b hXX (fun q => by omega) (fun k h1 h2 q => by omega) ⟨fun q => by omega, fun q => by omega⟩, PA_frx c hXX (fun q => by omega) (fun q => by omega), ⟨sf_eq, fun Q hQ => ?_⟩, (hXX.2 7 (fun q => by omega)).trans e, (hXX.2 12 (fun q => by omega)).trans f⟩, rfl⟩)
        have hQ : some V.2.1 = some Q := hQ
        cases hQ
        exact MR9_ext h.2.1.1 hz
      · rw [rd_nI (by omega), hX.1 1 (fun q => by omega), nI_1]
        refine pq_ck (pq_ck (ih (i + 1) _ (by omega) (frx_tr hX ⟨fun k hk => sa_ne hk, fun k hk => rfl⟩) (fun z hz2 => ?_)))
        rw [sa_nI (by omega)]
        by_cases e : z = i
        · rw [if_pos e, e]; rfl
        · rw [if_neg e]; exact hz z (by omega)
  exact key rFU 0 _ (Nat.zero_le _) frx_rfl (fun z hz => absurd hz (Nat.not_lt_zero _))
theorem r_back (h : RR9 σ V) : PQ (mX9_back σ) (RAI (sBack V)) := by
  obtain ⟨i1, i2⟩ := h.2.2.2.1
  unfold mX9_back
  rw [i1]
  cases hI : V.2.2.2.1 with
  | none =>
    have e : sBack V = (0, V) := by
      unfold sBack
      rw [hI]
    rw [e]
    exact pq_t rfl (pq_ck (pq_ret ⟨RR_f0 h, rfl⟩))
  | some I =>
    have e : sBack V = (1, (V.1, I, [], some I, V.2.2.2.2.1, V.2.2.2.2.2)) := by
      unfold sBack
      rw [hI]
    rw [e]
    have hMI := i2 I hI
    refine pq_f (show ¬ (1 : Int32) = 0 by decide) ?_
    have key : ∀ (n i : Nat) (σ1 : RS9), i ≤ 4347 → FRX (fun k => k = 1) (fun k => k = 0) σ σ1 → (∀ z, z < i → σ1.2 1 z = σ.2 3 z) → PQ (mX9_back_l16 n (nI i) σ1) (RAI (1, (V.1, I, [], some I, V.2.2.2.2.1, V.2.2.2.2.2))) := by
      intro n
      induction n with
      | zero => intro i σ1 _ _ _; exact pq_none
      | succ n ih =>
        intro i σ1 hi hX hz
        unfold mX9_back_l16
        refine pq_le (show (4347 : Int32).toInt = 4347 by decide) (nI_toInt (by omega)) (fun q => ?_) (fun q => ?_)
        · have e : i = 4347 := by omega
          subst e
          refine pq_call (r_reread (MR9_ext hMI hz)) (fun y hy => ?_)
          obtain ⟨σ2, rfl, m1, m2⟩ := hy
          have hXX : FRX (fun k => k = 1 ∨ RK9 k) (fun k => k = 0 ∨ k = 5 ∨ FK9 k) σ (rSf σ2 5 0) := ⟨fun k hk => (m2.1 k (fun q => hk (Or.inr q))).trans (hX.1 k (fun q => hk (Or.inl q))), fun k hk => (sf_ne (fun q => hk (by omega))).trans ((m2.2 k (fun q => hk (Or.inr (Or.inr q)))).trans (hX.2 k (fun q => hk (Or.inl q))))⟩
          have h5 : FRX NO9 (fun k => k = 5) σ2 (rSf σ2 5 0) := ⟨fun _ _ => rfl, fun k hk => sf_ne hk⟩
          have him := IM_frx h.2.2.2.1 hXX (fun q => by omega) (fun q => by omega)
          rw [hI] at him
          exact pq_ck (pq_ret ⟨⟨⟨(hXX.2 9 (fun q => by omega)).trans h.1.1, h.1.2.1, RL_frx h.1.2.2 hXX (fun q => by omega)⟩, RM_frx m1 h5 (fun q => q) (fun k _ _ q => q) ⟨fun q => by omega, fun q => by omega⟩, PA_nil sf_eq, him, (hXX.2 7 (fun q => by omega)).trans h.2.2.2.2.1, (hXX.2 12 (fun q => by omega)).trans h.2.2.2.2.2⟩, rfl⟩)
        · rw [rd_nI (by omega), hX.1 3 (fun q => by omega), nI_1]
          refine pq_ck (pq_ck (ih (i + 1) _ (by omega) (frx_tr hX ⟨fun k hk => sa_ne hk, fun k hk => rfl⟩) (fun z hz2 => ?_)))
          rw [up_nI (by omega)]
          by_cases e : z = i
          · rw [if_pos e, e]
          · rw [if_neg e]; exact hz z (by omega)
    exact key rFU 0 _ (Nat.zero_le _) ⟨fun _ _ => rfl, fun k hk => sf_ne hk⟩ (fun z hz => absurd hz (Nat.not_lt_zero _))
end RCM
end
/-! part 64d.text -/
section
/-! the reference reads a text -/
def TP9 (σ : RS9) (T : BL) (p : Nat) : Prop := (RLs σ 8 T ∧ T.length ≤ 400 ∧ σ.1 10 = nI T.length) ∧ σ.1 11 = nI p ∧ p ≤ T.length
abbrev K11 : Nat → Prop := fun k => k = 11
abbrev K12 : Nat → Prop := fun k => k = 11 ∨ k = 12
theorem nB_id {T : BL} {p : Nat} : nB T (nB T p) = nB T p := by
  have h1 : nB T p ≤ nB T (nB T p) := nx_ge
  rcases Nat.lt_or_ge (nB T p) T.length with h | h
  · exact nx_hit h (nx_at h)
  · exact nx_end h
section RTX
variable {σ : RS9} {T : BL} {p : Nat}
theorem TX_up {σ' : RS9} {q : Nat} {R F : Nat → Prop} (h : TP9 σ T p) (hX : FRX R F σ σ') (hR : ¬ R 8) (hF : ¬ F 10) (h11 : σ'.1 11 = nI q) (hq : q ≤ T.length) : TP9 σ' T q := ⟨⟨RL_frx h.1.1 hX hR, h.1.2.1, (hX.2 10 hF).trans h.1.2.2⟩, h11, hq⟩
theorem r_here (h : TP9 σ T p) : PQ (mX9_here σ) (fun y => ∃ σ', y = (nI (nB T p), σ') ∧ TP9 σ' T (nB T p) ∧ FRX NO9 K11 σ σ') := by
  have h4 := h.1.2.1
  have key : ∀ (d i : Nat) (σ1 : RS9), p ≤ i → i ≤ T.length → (∀ z, p ≤ z → z < i → bNe 32 (T.getD z 0) = false) → TP9 σ1 T i → FRX NO9 K11 σ σ1 → PQ (mX9_here_l0 d σ1) (fun y => ∃ σ', y = (nI (nB T p), σ') ∧ TP9 σ' T (nB T p) ∧ FRX NO9 K11 σ σ') := by
    intro d
    induction d with
    | zero => intro i σ1 _ _ _ _ _; exact pq_none
    | succ d ih =>
      intro i σ1 h1 h2 h3 hT hX
      have fin : (i < T.length → bNe 32 (T.getD i 0) = true) → PQ (mX9_here_b38 σ1) (fun y => ∃ σ', y = (nI (nB T p), σ') ∧ TP9 σ' T (nB T p) ∧ FRX NO9 K11 σ σ') := fun hb => by
        have e : nB T p = i := nx_is h1 h2 h3 hb
        unfold mX9_here_b38
        rw [e]
        exact pq_ret ⟨σ1, by rw [hT.2.1], hT, hX⟩
      unfold mX9_here_l0
      rw [hT.2.1, hT.1.2.2]
      refine pq_le (nI_toInt (by omega)) (nI_toInt (by omega)) (fun q => fin (fun z => by omega)) (fun q => ?_)
      rw [rd_nI (by omega), hT.1.1 i (by omega), nI_1]
      refine pq_ck (pq_eq (fun q1 => ?_) (fun q1 => fin (fun _ => bNe_t q1)))
      have fr : FRX NO9 K11 σ1 (rSf σ1 11 (nI (i + 1))) := ⟨fun _ _ => rfl, fun k hk => sf_ne hk⟩
      refine ih (i + 1) _ (by omega) (by omega) (fun z z1 z2 => ?_) (TX_up hT fr (fun q => q) (fun q => by omega) sf_eq (by omega)) (frx_tr hX fr)
      by_cases e : z = i
      · rw [e]; exact bNe_f q1
      · exact h3 z z1 (by omega)
  unfold mX9_here
  exact key rFU p σ (Nat.le_refl _) h.2.2 (fun z z1 z2 => by omega) h frx_rfl
theorem r_wordEnd (h : TP9 σ T p) : PQ (mX9_wordEnd σ) (fun y => ∃ σ', y = (nI (wE T (nB T p)), σ') ∧ TP9 σ' T (nB T p) ∧ FRX NO9 K11 σ σ') := by
  have h4 := h.1.2.1
  unfold mX9_wordEnd
  refine pq_call (r_here h) (fun y hy => ?_)
  obtain ⟨σ1, rfl, hT, hX⟩ := hy
  have hb := hT.2.2
  have key : ∀ (d i : Nat), nB T p ≤ i → i ≤ T.length → (∀ z, nB T p ≤ z → z < i → bNl (T.getD z 0) = false) → PQ (mX9_wordEnd_l5 d (nI i) σ1) (fun y => ∃ σ', y = (nI (wE T (nB T p)), σ') ∧ TP9 σ' T (nB T p) ∧ FRX NO9 K11 σ σ') := by
    intro d
    induction d with
    | zero => intro i _ _ _; exact pq_none
    | succ d ih =>
      intro i h1 h2 h3
      have fin : (i < T.length → bNl (T.getD i 0) = true) → PQ (mX9_wordEnd_b35 (nI i) σ1) (fun y => ∃ σ', y = (nI (wE T (nB T p)), σ') ∧ TP9 σ' T (nB T p) ∧ FRX NO9 K11 σ σ') := fun hb => by
        have e : wE T (nB T p) = i := nx_is h1 h2 h3 hb
        unfold mX9_wordEnd_b35
        rw [e]
        exact pq_ret ⟨σ1, rfl, hT, hX⟩
      unfold mX9_wordEnd_l5
      rw [hT.1.2.2]
      refine pq_le (nI_toInt (by omega)) (nI_toInt (by omega)) (fun q => fin (fun z => by omega)) (fun q => ?_)
      rw [rd_nI (by omega), hT.1.1 i (by omega)]
      refine pq_ck (pq_isr r_isIn ?_)
      rw [kt_97, kt_122]
      refine if_01 (fun q1 => fin (fun _ => low_n (by have := of_decide_eq_false q1; omega))) (fun q1 => ?_)
      have q1 := of_decide_eq_true q1
      rw [nI_1]
      refine ih (i + 1) (by omega) (by omega) (fun z z1 z2 => ?_)
      by_cases e : z = i
      · rw [e]; exact low_t q1.1 q1.2
      · exact h3 z z1 (by omega)
  exact key rFU (nB T p) (Nat.le_refl _) hb (fun z z1 z2 => by omega)
theorem r_has {t : Nat} (ht : t < 15) (h : TP9 σ T p) (h12 : σ.1 12 = -1) : PQ (mX9_has t σ) (fun y => ∃ σ', y = (bI (decide (sl T (nB T p) (wE T (nB T p)) = wd9 t)), σ') ∧ TP9 σ' T (if sl T (nB T p) (wE T (nB T p)) = wd9 t then wE T (nB T p) else nB T p) ∧ σ'.1 12 = -1 ∧ FRX NO9 K11 σ σ') := by
  have h4 := h.1.2.1
  unfold mX9_has
  refine pq_call (r_wordEnd h) (fun y hy => ?_)
  obtain ⟨σ1, rfl, hT, hX⟩ := hy
  have h12' : σ1.1 12 = -1 := (hX.2 12 (fun q => by omega)).trans h12
  have hb := hT.2.2
  obtain ⟨w1, w2⟩ := wE_b hb
  generalize nB T p = b at hT hb w1 w2 ⊢
  generalize wE T b = e at w1 w2 ⊢
  have hlen := sl_len (L := T) (a := b) (b := e) w2
  have h8 := wd9_8 ht
  have no : sl T b e ≠ wd9 t → PQ (mX9_has_b26 σ1) (fun y => ∃ σ', y = (bI (decide (sl T b e = wd9 t)), σ') ∧ TP9 σ' T (if sl T b e = wd9 t then e else b) ∧ σ'.1 12 = -1 ∧ FRX NO9 K11 σ σ') := fun hn => by
    unfold mX9_has_b26
    rw [decide_eq_false hn, if_neg hn]
    exact pq_ck (pq_ret ⟨σ1, rfl, hT, h12', hX⟩)
  show PQ (if σ1.1 12 = -1 then (if nI e - σ1.1 11 = strL t then mX9_has_l30 rFU t (nI e) (0 : Int32) σ1 else mX9_has_b26 σ1) else mX9_has_b26 σ1) _
  rw [h12', hT.2.1, nI_sb w1 (by omega), wd9_l ht]
  refine pq_t rfl (pq_eqi (nI_toInt (by omega)) (nI_toInt (by omega)) (fun q => ?_) (fun q => no (fun z => q (by rw [← z, hlen]))))
  have key : ∀ (d i : Nat), i ≤ (wd9 t).length → (∀ z, z < i → (sl T b e).getD z 0 = (wd9 t).getD z 0) → PQ (mX9_has_l30 d t (nI e) (nI i) σ1) (fun y => ∃ σ', y = (bI (decide (sl T b e = wd9 t)), σ') ∧ TP9 σ' T (if sl T b e = wd9 t then e else b) ∧ σ'.1 12 = -1 ∧ FRX NO9 K11 σ σ') := by
    intro d
    induction d with
    | zero => intro i _ _; exact pq_none
    | succ d ih =>
      intro i hi hz
      unfold mX9_has_l30
      rw [wd9_l ht, hT.2.1]
      refine pq_le (nI_toInt (by omega)) (nI_toInt (by omega)) (fun q1 => ?_) (fun q1 => ?_)
      · have eq : sl T b e = wd9 t := bl_ext (by rw [hlen]; omega) (fun z z1 => hz z (by omega))
        rw [decide_eq_true eq, if_pos eq]
        have fr : FRX NO9 K11 σ1 (rSf σ1 11 (nI e)) := ⟨fun _ _ => rfl, fun k hk => sf_ne hk⟩
        exact pq_ck (pq_ret ⟨_, rfl, TX_up hT fr (fun q => q) (fun q => by omega) sf_eq w2, (sf_ne (by decide)).trans h12', frx_tr hX fr⟩)
      · have hi' : i < (wd9 t).length := by omega
        rw [nI_add, rd_nI (by omega), hT.1.1 _ (by omega), wd9_c ht hi', ← sl_gd (L := T) (a := b) (b := e) (by omega)]
        refine pq_ck (pq_ck (pq_eq (fun q2 => ?_) (fun q2 => ?_)))
        · rw [nI_1]
          refine ih (i + 1) (by omega) (fun z z1 => ?_)
          by_cases ez : z = i
          · rw [ez]; exact q2
          · exact hz z (by omega)
        · have := no (fun z => q2 (by rw [z]))
          unfold mX9_has_b26 at this
          exact this
  exact key rFU 0 (Nat.zero_le _) (fun z z1 => absurd z1 (Nat.not_lt_zero _))
theorem r_wrong {w : Nat} (h12 : σ.1 12 = -1) : PQ (mX9_wrong (nI w) σ) (fun y => y = (0, rSf σ 12 (nI w))) := by
  unfold mX9_wrong mX9_wrong_b13
  rw [h12]
  exact pq_t rfl (pq_ret rfl)
/-- a number is read, or it is wrong -/
def NU9 (σ : RS9) (T : BL) (p : Nat) (lo hi : Int) (y : Int32 × RS9) : Prop := FRX NO9 K12 σ y.2 ∧ ((nOk T p lo hi ∧ y.1 = nV T p ∧ y.2.1 12 = -1 ∧ TP9 y.2 T (nE T p)) ∨ (¬ nOk T p lo hi ∧ y.2.1 12 = nI (nB T p)))
theorem r_number {lo hi : Int32} {l u : Int} (h : TP9 σ T p) (h12 : σ.1 12 = -1) (hlo : lo.toInt = l) (hhi : hi.toInt = u) (hb : 0 ≤ l ∧ l ≤ 40 ∧ u ≤ 40) : PQ (mX9_number lo hi σ) (NU9 σ T p l u) := by
  have h4 := h.1.2.1
  unfold mX9_number
  rw [h12]
  refine pq_t rfl (pq_call (r_here h) (fun y hy => ?_))
  obtain ⟨σ1, rfl, hT, hX⟩ := hy
  have h12' : σ1.1 12 = -1 := (hX.2 12 (fun q => by omega)).trans h12
  have hbT := hT.2.2
  have up : ∀ {s1 s2 : RS9}, FRX NO9 K11 s1 s2 → FRX NO9 K12 s1 s2 := fun hq => frx_mono hq (fun k hk => hk) (fun k hk => Or.inl hk)
  -- behind the digits
  have b91 : ∀ (j : Nat) (v : Int32) (σ2 : RS9), TP9 σ2 T (nB T p + j) → σ2.1 12 = -1 → FRX NO9 K12 σ σ2 → ((j ≤ 2 ∧ nE T p = nB T p + j ∧ v.toInt = nVi T p) ∨ (j = 3 ∧ nB T p + 3 ≤ nE T p)) → PQ (mX9_number_b91 lo hi (nI (nB T p)) v σ2) (NU9 σ T p l u) := fun j v σ2 hT2 h122 hX2 hj => by
    have bad : ¬ nOk T p l u → PQ (mX9_number_b121 (nI (nB T p)) v σ2) (NU9 σ T p l u) := fun hn => by
      unfold mX9_number_b121 mX9_number_b126
      refine pq_isr (r_wrong h122) (pq_ret ⟨frx_tr hX2 ⟨fun _ _ => rfl, fun k hk => sf_ne (fun q => hk (Or.inr q))⟩, Or.inr ⟨hn, sf_eq⟩⟩)
    unfold mX9_number_b91
    have hbj := hT2.2.2
    rw [hT2.2.1]
    rcases hj with ⟨j2, jE, jv⟩ | ⟨j3, jE⟩
    · refine pq_eqi (nI_toInt (by omega)) (nI_toInt (by omega)) (fun q => bad (fun z => by have := z.1; omega)) (fun q => ?_)
      rw [nI_sb (by omega) (by omega)]
      refine pq_lt (show (2 : Int32).toInt = 2 by decide) (nI_toInt (by omega)) (fun q1 => bad (fun z => by have := z.2.1; omega)) (fun q1 => ?_)
      refine pq_lt jv hlo (fun q2 => bad (fun z => by have := z.2.2.1; omega)) (fun q2 => pq_le jv hhi (fun q3 => ?_) (fun q3 => bad (fun z => by have := z.2.2.2; omega)))
      unfold mX9_number_b126
      refine pq_ret ⟨hX2, Or.inl ⟨⟨by omega, by omega, q2, q3⟩, Int32.toInt_inj.mp (jv.trans nV_t.symm), h122, by rw [jE]; exact hT2⟩⟩
    · refine pq_eqi (nI_toInt (by omega)) (nI_toInt (by omega)) (fun q => by omega) (fun q => ?_)
      rw [nI_sb (by omega) (by omega)]
      exact pq_lt (show (2 : Int32).toInt = 2 by decide) (nI_toInt (by omega)) (fun q1 => bad (fun z => by have := z.2.1; omega)) (fun q1 => by omega)
  have key : ∀ (d j : Nat) (v : Int32) (σ2 : RS9), j ≤ 3 → TP9 σ2 T (nB T p + j) → σ2.1 12 = -1 → FRX NO9 K12 σ σ2 → (∀ z, nB T p ≤ z → z < nB T p + j → bNd (T.getD z 0) = false) → (j ≤ 2 → v.toInt = nmv T (nB T p) j) → PQ (mX9_number_l18 d lo hi (nI (nB T p)) v σ2) (NU9 σ T p l u) := by
    intro d
    induction d with
    | zero => intro j v σ2 _ _ _ _ _ _; exact pq_none
    | succ d ih =>
      intro j v σ2 hj hT2 h122 hX2 hz hv
      have hbj := hT2.2.2
      have out : (nB T p + j < T.length → bNd (T.getD (nB T p + j) 0) = true) → PQ (mX9_number_b91 lo hi (nI (nB T p)) v σ2) (NU9 σ T p l u) := fun hs => by
        have eE : nE T p = nB T p + j := nx_is (by omega) hbj hz hs
        rcases Nat.lt_or_ge j 3 with q | q
        · refine b91 j v σ2 hT2 h122 hX2 (Or.inl ⟨by omega, eE, ?_⟩)
          rw [hv (by omega)]
          unfold nVi
          rw [eE, Nat.add_sub_cancel_left]
        · exact b91 j v σ2 hT2 h122 hX2 (Or.inr ⟨by omega, by omega⟩)
      unfold mX9_number_l18
      rw [hT2.2.1, hT2.1.2.2]
      refine pq_le (nI_toInt (by omega)) (nI_toInt (by omega)) (fun q => out (fun z => by omega)) (fun q => ?_)
      have hlt : nB T p + j < T.length := by omega
      rw [rd_nI (by omega), hT2.1.1 _ hlt]
      refine pq_ck (pq_isr r_isIn ?_)
      rw [show (48 : Int32).toInt = 48 from kt_48, kt_57]
      refine if_01 (fun q1 => out (fun _ => dig_n (by have := of_decide_eq_false q1; omega))) (fun q1 => ?_)
      have q1 := of_decide_eq_true q1
      show PQ (if (2 : Int32) < σ2.1 11 - nI (nB T p) then mX9_number_b91 lo hi (nI (nB T p)) v σ2 else rCk _ (mX9_number_l18 d lo hi (nI (nB T p)) ((((10 : Int32) * v) + (rGa σ2 8 (σ2.1 11))) - (48 : Int32)) (rSf σ2 11 (σ2.1 11 + (1 : Int32))))) _
      rw [hT2.2.1, nI_sb (by omega) (by omega), rd_nI (by omega), hT2.1.1 _ hlt, nI_1]
      have hdig : bNd (T.getD (nB T p + j) 0) = false := dig_t q1.1 q1.2
      refine pq_lt (show (2 : Int32).toInt = 2 by decide) (nI_toInt (by omega)) (fun q2 => ?_) (fun q2 => pq_ck ?_)
      · have e3 : j = 3 := by omega
        subst e3
        refine b91 3 v σ2 hT2 h122 hX2 (Or.inr ⟨rfl, ?_⟩)
        have : nE T p = nx bNd T (nB T p + 3) T.length := nx_skip (by omega) hbj hz
        rw [this]; exact nx_ge
      · have fr : FRX NO9 K11 σ2 (rSf σ2 11 (nI (nB T p + j + 1))) := ⟨fun _ _ => rfl, fun k hk => sf_ne hk⟩
        refine ih (j + 1) _ _ (by omega) (TX_up hT2 fr (fun q => q) (fun q => by omega) sf_eq (by omega)) ((sf_ne (by decide)).trans h122) (frx_tr hX2 (up fr)) (fun z z1 z2 => ?_) (fun j2 => ?_)
        · by_cases e : z = nB T p + j
          · rw [e]; exact hdig
          · exact hz z z1 (by omega)
        · have hvv := hv (by omega)
          have hvb := nmv_b (T := T) (b := nB T p) (k := j) hz
          have t10 : ((10 : Int32) * v).toInt = 10 * nmv T (nB T p) j := i_mul (show (10 : Int32).toInt = 10 by decide) hvv (by omega)
          have tA : (((10 : Int32) * v) + T.getD (nB T p + j) 0).toInt = 10 * nmv T (nB T p) j + (T.getD (nB T p + j) 0).toInt := i_add t10 rfl (by omega)
          have tB : ((((10 : Int32) * v) + T.getD (nB T p + j) 0) - (48 : Int32)).toInt = 10 * nmv T (nB T p) j + (T.getD (nB T p + j) 0).toInt - 48 := i_sub tA kt_48 (by omega)
          rw [tB]
          rcases (by omega : j = 0 ∨ j = 1) with e | e
          · subst e
            show 10 * nmv T (nB T p) 0 + (T.getD (nB T p + 0) 0).toInt - 48 = nmv T (nB T p) 1
            have e1 : nmv T (nB T p) 1 = dv T (nB T p) := rfl
            have e0 : nmv T (nB T p) 0 = 0 := rfl
            rw [e1, e0]
            unfold dv
            rw [Nat.add_zero]; omega
          · subst e
            have e2 : nmv T (nB T p) 2 = dv T (nB T p) * 10 + dv T (nB T p + 1) := rfl
            have e1 : nmv T (nB T p) 1 = dv T (nB T p) := rfl
            show 10 * nmv T (nB T p) 1 + (T.getD (nB T p + 1) 0).toInt - 48 = nmv T (nB T p) 2
            rw [e1, e2]
            unfold dv
            omega
  exact key rFU 0 0 σ1 (by omega) hT h12' (up hX) (fun z z1 z2 => by omega) (fun _ => rfl)
end RTX
end
/-! part 64e.text -/
section
/-! the reference does an act of a text -/
abbrev FX9 : Nat → Prop := fun k => k = 11 ∨ k = 12 ∨ FA9 k
abbrev dAz (S : SST) (z : Int32 × Int32 × Int32 × BL × Nat) : Int32 × SST := dA S z.1 z.2.1 z.2.2.1 z.2.2.2.1
def MD9 (σ : RS9) (T : BL) (S : SST) (r : RA) (y : Int32 × RS9) : Prop := FRX RA9 FX9 σ y.2 ∧ (match r with
  | .inl w => w ≤ 400 ∧ y.2.1 12 = nI w
  | .inr z => y.2.1 12 = -1 ∧ y.1 = (dAz S z).1 ∧ ((dAz S z).1 = 0 → RM9 y.2 (dAz S z).2) ∧ TP9 y.2 T z.2.2.2.2)
def AC9 (σ : RS9) (T : BL) (p : Nat) (S : SST) (y : Int32 × RS9) : Prop := FRX RA9 FX9 σ y.2 ∧ (match rdA T p with
  | .inl w => w ≤ 400 ∧ y.1 = 0 ∧ y.2.1 12 = nI w
  | .inr z => ((dAz S z).1 = 0 → y.1 = 0 ∧ y.2.1 12 = -1 ∧ RM9 y.2 (dAz S z).2 ∧ TP9 y.2 T z.2.2.2.2) ∧ ((dAz S z).1 ≠ 0 → y.1 = (dAz S z).1 ∧ y.2.1 12 = nI p))
theorem CD_d {S : SST} {a x y : Int32} {w : BL} : CD9 (dA S a x y w) := CD_if (CD_k 0 (by decide)) (CD_if (CD_k 0 (by decide)) (CD_if (CD_k 0 (by decide)) (CD_if (CD_k 0 (by decide)) (CD_if (CD_k 0 (by decide)) (CD_if (CD_k 0 (by decide)) (CD_if CD_lo (CD_if (CD_k 0 (by decide)) (CD_if CD_fr (CD_if CD_sp (CD_if CD_sw (CD_if CD_wp CD_tl)))))))))))
theorem kx_up {σ σ' : RS9} (h : FRX NO9 K11 σ σ') : FRX RA9 FX9 σ σ' := frx_mono h (fun k hk => absurd hk id) (fun k hk => Or.inl hk)
theorem kx_12 {σ σ' : RS9} (h : FRX NO9 K12 σ σ') : FRX RA9 FX9 σ σ' := frx_mono h (fun k hk => absurd hk id) (fun k hk => by omega)
theorem kx_a {σ σ' : RS9} (h : FRX RA9 FA9 σ σ') : FRX RA9 FX9 σ σ' := frx_mono h (fun k hk => hk) (fun k hk => Or.inr (Or.inr hk))
theorem aNm_at {X : BL} {k : Nat} : ∀ (d t : Nat), (∀ j, j < k → X ≠ nmL.getD (t + j) []) → X = nmL.getD (t + k) [] → k < d → aNm X d t = nI (t + k) := by
  induction k with
  | zero =>
    intro d t _ hX hd
    obtain ⟨d', rfl⟩ : ∃ d', d = d' + 1 := ⟨d - 1, by omega⟩
    exact if_pos hX
  | succ k ih =>
    intro d t hn hX hd
    obtain ⟨d', rfl⟩ : ∃ d', d = d' + 1 := ⟨d - 1, by omega⟩
    have h0 : X ≠ nmL.getD t [] := hn 0 (by omega)
    unfold aNm
    rw [if_neg h0, ih d' (t + 1) (fun j hj => by rw [show t + 1 + j = t + (j + 1) by omega]; exact hn (j + 1) (by omega)) (by rw [show t + 1 + k = t + (k + 1) by omega]; exact hX) (by omega)]
    rw [show t + 1 + k = t + (k + 1) by omega]
theorem aNm_no {X : BL} : ∀ (d t : Nat), (∀ j, j < d → X ≠ nmL.getD (t + j) []) → aNm X d t = -1 := by
  intro d
  induction d with
  | zero => intro t _; rfl
  | succ d ih =>
    intro t hn
    unfold aNm
    rw [if_neg (show ¬ X = nmL.getD t [] from hn 0 (by omega)), ih (t + 1) (fun j hj => by rw [show t + 1 + j = t + (j + 1) by omega]; exact hn (j + 1) (by omega))]
theorem nm_wd : ∀ i : Fin 12, wd9 (3 + (i : Nat)) = nmL.getD (i : Nat) [] := by decide
section RDO
variable {σ : RS9} {T : BL} {p : Nat} {S : SST}
theorem TP_nx {σ' : RS9} {q : Nat} {R F : Nat → Prop} (h : TP9 σ T q) (hX : FRX R F σ σ') (hR : ¬ R 8) (hF : ¬ F 10 ∧ ¬ F 11) : TP9 σ' T q := TX_up h hX hR hF.1 ((hX.2 11 hF.2).trans h.2.1) h.2.2
theorem md_of {σ0 : RS9} {z : Int32 × Int32 × Int32 × BL × Nat} {y : Int32 × RS9} (hX : FRX RA9 FX9 σ0 σ) (hT : TP9 σ T z.2.2.2.2) (h12 : σ.1 12 = -1) (hD : DOA σ (dAz S z) y) : MD9 σ0 T S (.inr z) y := by
  obtain ⟨σ', rfl, h1, h2⟩ := hD
  exact ⟨frx_tr hX (kx_a h2), (h2.2 12 (fun q => by omega)).trans h12, rfl, h1, TP_nx hT h2 (fun q => by omega) ⟨fun q => by omega, fun q => by omega⟩⟩
theorem r_b246 {y : Int32 × RS9} (h : MD9 σ T S (rdA T p) y) (hp : p ≤ 400) : PQ (mX9_act_b246 (nI p) y.1 y.2) (AC9 σ T p S) := by
  obtain ⟨h1, h2⟩ := h
  unfold AC9 mX9_act_b246 mX9_act_b265
  generalize rdA T p = r at h2 ⊢
  cases r with
  | inl w =>
    obtain ⟨w4, e12⟩ := h2
    rw [e12]
    exact pq_f (nI_ne (by omega)) (pq_ret ⟨h1, w4, rfl, e12⟩)
  | inr z =>
    obtain ⟨e12, e1, e2, e3⟩ := h2
    rw [e12]
    refine pq_t rfl ?_
    obtain ⟨c, c9, ec⟩ := CD_d (S := S) (a := z.1) (x := z.2.1) (y := z.2.2.1) (w := z.2.2.2.1)
    have ec : (dAz S z).1 = nI c := ec
    rw [e1, ec]
    refine pq_le (nI_toInt (by omega)) kt_0 (fun q => ?_) (fun q => ?_)
    · have c0 : c = 0 := by omega
      have h0 : (dAz S z).1 = 0 := by rw [ec, c0]; rfl
      exact pq_ret ⟨h1, fun _ => ⟨by rw [c0]; rfl, e12, e2 h0, e3⟩, fun q => absurd h0 (by rw [ec] at q ⊢; exact q)⟩
    · have hn : (dAz S z).1 ≠ 0 := fun z0 => by
        rw [ec] at z0
        have := congrArg Int32.toInt z0
        rw [nI_toInt (by omega), kt_0] at this; omega
      refine pq_isr (r_wrong e12) (pq_ret ⟨frx_tr h1 ⟨fun _ _ => rfl, fun k hk => sf_ne (fun q => hk (Or.inr (Or.inl q)))⟩, fun q => absurd q hn, fun _ => ⟨ec.symm, sf_eq⟩⟩)
theorem r_ruleText {e a : Nat} {lo hi k : Int32} {l u : Int} (h : RM9 σ S) (hT : TP9 σ T e) (h12 : σ.1 12 = -1) (ha : 1 ≤ a ∧ a ≤ 4) (hlo : lo.toInt = l) (hhi : hi.toInt = u) (hb : 0 ≤ l ∧ l ≤ 40 ∧ u ≤ 40) (hD : nOk T e l u → ∃ cf, dA S k (nV T e) 0 [] = (0, setC S cf) ∧ ∀ μ, MC μ S.2.1 → MC (fun i => if i = a then nV T e else μ i) cf) : PQ (mX9_ruleText (nI a) lo hi σ) (MD9 σ T S (rd1 T e k l u)) := by
  have h4 := hT.1.2.1
  unfold mX9_ruleText mX9_ruleText_b27
  refine pq_call (r_number hT h12 hlo hhi hb) (fun y hy => ?_)
  obtain ⟨v, σ1⟩ := y
  obtain ⟨hX, hc⟩ := hy
  have hX : FRX NO9 K12 σ σ1 := hX
  rcases hc with ⟨ok, e1, e12, hT1⟩ | ⟨bad, e12⟩
  · have er : rd1 T e k l u = .inr (k, nV T e, 0, [], nE T e) := if_pos ok
    have e1 : v = nV T e := e1
    subst e1
    obtain ⟨cf, d1, d2⟩ := hD ok
    have hM1 := RM_frx h hX (fun q => q) (fun k _ _ q => q) ⟨fun q => by omega, fun q => by omega⟩
    refine pq_t e12 (pq_call (r_rules (a := a) (x := nV T e) hM1 ha (d2 _ hM1.1.2.1)) (fun y hy => ?_))
    rw [er]
    refine pq_ret ?_
    have hD' : DOA σ1 (dAz S (k, nV T e, 0, [], nE T e)) y := by
      show DOA σ1 (dA S k (nV T e) 0 []) y
      rw [d1]; exact hy
    exact md_of (kx_12 hX) hT1 e12 hD'
  · have er : rd1 T e k l u = .inl (nB T e) := if_neg bad
    rw [er]
    have hbn := (nE_b hT.2.2).2.1
    have hbl := (nE_b hT.2.2).2.2
    refine pq_f (show ¬ σ1.1 12 = -1 from fun q => nI_ne (a := nB T e) (by omega) (e12.symm.trans q)) (pq_ret ⟨kx_12 hX, by omega, e12⟩)
theorem r_pieceText {e : Nat} {b : Bool} (h : RM9 σ S) (hS : SV S) (hT : TP9 σ T e) (h12 : σ.1 12 = -1) : PQ (mX9_pieceText (bI b) σ) (MD9 σ T S (rd1 T e (if b = true then 8 else 9) 0 39)) := by
  have h4 := hT.1.2.1
  unfold mX9_pieceText mX9_pieceText_b35
  refine pq_call (r_number hT h12 kt_0 kt_39 (by omega)) (fun y hy => ?_)
  obtain ⟨v, σ1⟩ := y
  obtain ⟨hX, hc⟩ := hy
  have hX : FRX NO9 K12 σ σ1 := hX
  rcases hc with ⟨ok, e1, e12, hT1⟩ | ⟨bad, e12⟩
  · have er : rd1 T e (if b = true then 8 else 9) 0 39 = .inr (if b = true then 8 else 9, nV T e, 0, [], nE T e) := if_pos ok
    have e1 : v = nV T e := e1
    subst e1
    have hM1 := RM_frx h hX (fun q => q) (fun k _ _ q => q) ⟨fun q => by omega, fun q => by omega⟩
    rw [er]
    refine pq_t e12 (if_01 (fun q => ?_) (fun q => ?_))
    · subst q
      refine pq_call (r_spread0 (v := nV T e) hM1 hS) (fun y hy => ?_)
      obtain ⟨σ2, rfl, k1, k2⟩ := hy
      exact pq_ret (md_of (z := (9, nV T e, 0, [], nE T e)) (kx_12 hX) hT1 e12 ⟨σ2, rfl, fun q => (k1 q).1, k2⟩)
    · subst q
      refine pq_call (r_free0 (v := nV T e) hM1 hS) (fun y hy => ?_)
      exact pq_ret (md_of (z := (8, nV T e, 0, [], nE T e)) (kx_12 hX) hT1 e12 hy)
  · have er : rd1 T e (if b = true then 8 else 9) 0 39 = .inl (nB T e) := if_neg bad
    rw [er]
    have hbn := (nE_b hT.2.2).2.1
    have hbl := (nE_b hT.2.2).2.2
    refine pq_f (show ¬ σ1.1 12 = -1 from fun q => nI_ne (a := nB T e) (by omega) (e12.symm.trans q)) (pq_ret ⟨kx_12 hX, by omega, e12⟩)
theorem r_swapText {e : Nat} (h : RM9 σ S) (hS : SV S) (hT : TP9 σ T e) (h12 : σ.1 12 = -1) : PQ (mX9_swapText σ) (MD9 σ T S (rd2 T e)) := by
  have h4 := hT.1.2.1
  unfold mX9_swapText mX9_swapText_b34
  refine pq_call (r_number hT h12 kt_0 kt_39 (by omega)) (fun y hy => ?_)
  obtain ⟨v, σ1⟩ := y
  obtain ⟨hX, hc⟩ := hy
  have hX : FRX NO9 K12 σ σ1 := hX
  rcases hc with ⟨ok, e1, e12, hT1⟩ | ⟨bad, e12⟩
  · have e1 : v = nV T e := e1
    subst e1
    have e12 : σ1.1 12 = -1 := e12
    have hT1 : TP9 σ1 T (nE T e) := hT1
    refine pq_call (r_number hT1 e12 kt_0 kt_39 (by omega)) (fun y hy => ?_)
    obtain ⟨v2, σ2⟩ := y
    obtain ⟨hX2, hc2⟩ := hy
    have hX2 : FRX NO9 K12 σ1 σ2 := hX2
    rcases hc2 with ⟨ok2, e21, e212, hT2⟩ | ⟨bad2, e212⟩
    · have er : rd2 T e = .inr (10, nV T e, nV T (nE T e), [], nE T (nE T e)) := (if_pos ok).trans (if_pos ok2)
      have e21 : v2 = nV T (nE T e) := e21
      subst e21
      rw [er]
      have hM2 := RM_frx h (frx_tr hX hX2) (fun q => q) (fun k _ _ q => q) ⟨fun q => by omega, fun q => by omega⟩
      refine pq_t e212 (pq_call (r_swap0 (v := nV T e) (u := nV T (nE T e)) hM2 hS) (fun y hy => ?_))
      exact pq_ret (md_of (z := (10, nV T e, nV T (nE T e), [], nE T (nE T e))) (kx_12 (frx_tr hX hX2)) hT2 e212 hy)
    · have er : rd2 T e = .inl (nB T (nE T e)) := (if_pos ok).trans (if_neg bad2)
      rw [er]
      have hbn := (nE_b hT1.2.2).2.1
      have hbl := (nE_b hT1.2.2).2.2
      refine pq_f (show ¬ σ2.1 12 = -1 from fun q => nI_ne (a := nB T (nE T e)) (by omega) (e212.symm.trans q)) (pq_ret ⟨kx_12 (frx_tr hX hX2), by omega, e212⟩)
  · have er : rd2 T e = .inl (nB T e) := if_neg bad
    rw [er]
    have hbn := (nE_b hT.2.2).2.1
    have hbl := (nE_b hT.2.2).2.2
    have n1 : ¬ σ1.1 12 = -1 := fun q => nI_ne (a := nB T e) (by omega) (e12.symm.trans q)
    have e2 : mX9_number (0 : Int32) (39 : Int32) σ1 = some (0, σ1) := by
      unfold mX9_number
      rw [if_neg n1]
    show PQ ((mX9_number (0 : Int32) (39 : Int32) σ1).bind _) _
    rw [e2]
    exact pq_f n1 (pq_ret ⟨kx_12 hX, by omega, e12⟩)
theorem r_lockText {e : Nat} (h : RM9 σ S) (hT : TP9 σ T e) (h12 : σ.1 12 = -1) : PQ (mX9_lockText σ) (MD9 σ T S (rdW T e)) := by
  have h4 := hT.1.2.1
  unfold mX9_lockText
  refine pq_call (r_wordEnd hT) (fun y hy => ?_)
  obtain ⟨σ1, rfl, hT1, hX⟩ := hy
  have e12 : σ1.1 12 = -1 := (hX.2 12 (fun q => by omega)).trans h12
  have hbT := hT1.2.2
  obtain ⟨w1, w2⟩ := wE_b hbT
  show PQ ((mX9_isIn (nI (wE T (nB T e)) - σ1.1 11) (1 : Int32) (8 : Int32) σ1).bind _) _
  rw [hT1.2.1, nI_sb w1 (by omega)]
  refine pq_isr r_isIn ?_
  rw [kt_1, kt_8, nI_toInt (by omega)]
  refine if_01 (fun q => ?_) (fun q => ?_)
  · have q := of_decide_eq_false q
    have er : rdW T e = .inl (nB T e) := if_neg (fun z => q (by omega))
    show PQ ((mX9_wrong (σ1.1 11) σ1).bind _) _
    rw [hT1.2.1, er]
    refine pq_isr (r_wrong e12) ?_
    unfold mX9_lockText_b30
    refine pq_f (show ¬ (rSf σ1 12 (nI (nB T e))).1 12 = -1 from fun q => nI_ne (a := nB T e) (by omega) (sf_eq.symm.trans q)) (pq_ret ⟨frx_tr (kx_up hX) ⟨fun _ _ => rfl, fun k hk => sf_ne (fun q => hk (Or.inr (Or.inl q)))⟩, by omega, sf_eq⟩)
  · have q := of_decide_eq_true q
    have er : rdW T e = .inr (6, 0, 0, sl T (nB T e) (wE T (nB T e)), wE T (nB T e)) := if_pos (by omega)
    rw [er]
    unfold mX9_lockText_b30
    refine pq_t e12 ?_
    have hl : (sl T (nB T e) (wE T (nB T e))).length = wE T (nB T e) - nB T e := sl_len w2
    have fr : FRX NO9 K11 σ1 (rSf σ1 11 (nI (wE T (nB T e)))) := ⟨fun _ _ => rfl, fun k hk => sf_ne hk⟩
    have hX2 := frx_tr hX fr
    have hM2 := RM_frx h hX2 (fun q => q) (fun k _ _ q => q) ⟨fun q => by omega, fun q => by omega⟩
    have hT2 : TP9 (rSf σ1 11 (nI (wE T (nB T e)))) T (wE T (nB T e)) := TX_up hT1 fr (fun q => q) (fun q => by omega) sf_eq w2
    show PQ ((mX9_lock0 (σ1.1 11) (nI (wE T (nB T e) - nB T e)) (rSf σ1 11 (nI (wE T (nB T e))))).bind _) _
    rw [hT1.2.1, ← hl]
    refine pq_call (r_lock0 (a := nB T e) (T := T) (w := sl T (nB T e) (wE T (nB T e))) hM2 hT2.1.1 h4 (by rw [hl]; omega) (fun k hk => by rw [sl_gd (by rw [hl] at hk; exact hk)]) (by rw [hl]; omega)) (fun y hy => ?_)
    exact pq_ret (md_of (z := (6, 0, 0, sl T (nB T e) (wE T (nB T e)), wE T (nB T e))) (kx_up hX2) hT2 ((sf_ne (by decide)).trans e12) hy)
theorem r_hasP {t : Nat} (ht : t < 15) (hpp : nB T p = p) (h : TP9 σ T p) (h12 : σ.1 12 = -1) (hM : RM9 σ S) : PQ (mX9_has t σ) (fun y => ∃ σ', y = (bI (decide (sl T p (wE T p) = wd9 t)), σ') ∧ TP9 σ' T (if sl T p (wE T p) = wd9 t then wE T p else p) ∧ σ'.1 12 = -1 ∧ FRX NO9 K11 σ σ' ∧ RM9 σ' S) := by
  have := r_has ht h h12
  rw [hpp] at this
  refine pq_tail this (fun y hy => ?_)
  obtain ⟨σ', h1, h2, h3, h4⟩ := hy
  exact ⟨σ', h1, h2, h3, h4, RM_frx hM h4 (fun q => q) (fun k _ _ q => q) ⟨fun q => by omega, fun q => by omega⟩⟩
theorem k3_of {x : Int32} (h : 0 ≤ x.toInt ∧ x.toInt ≤ 3) : x = 0 ∨ x = 1 ∨ x = 2 ∨ x = 3 := by
  rcases (by omega : x.toInt = 0 ∨ x.toInt = 1 ∨ x.toInt = 2 ∨ x.toInt = 3) with e | e | e | e
  · exact Or.inl (Int32.toInt_inj.mp e)
  · exact Or.inr (Or.inl (Int32.toInt_inj.mp e))
  · exact Or.inr (Or.inr (Or.inl (Int32.toInt_inj.mp e)))
  · exact Or.inr (Or.inr (Or.inr (Int32.toInt_inj.mp e)))
set_option maxHeartbeats 1000000 in
theorem r_act {p0 : Nat} (h : RM9 σ S) (hS : SV S) (hT0 : TP9 σ T p0) (h12 : σ.1 12 = -1) : PQ (mX9_act σ) (AC9 σ T (nB T p0) S) := by
  have h4 := hT0.1.2.1
  unfold mX9_act
  refine pq_call (r_here hT0) (fun y hy => ?_)
  obtain ⟨σ1, rfl, hT1, hX1⟩ := hy
  have hp4 : nB T p0 ≤ 400 := by have := hT1.2.2; omega
  have hpp : nB T (nB T p0) = nB T p0 := nB_id
  have h121 : σ1.1 12 = -1 := (hX1.2 12 (fun q => by omega)).trans h12
  have hM1 : RM9 σ1 S := RM_frx h hX1 (fun q => q) (fun k _ _ q => q) ⟨fun q => by omega, fun q => by omega⟩
  have hK1 : FRX NO9 K11 σ σ1 := hX1
  generalize nB T p0 = p at hT1 hp4 hpp ⊢
  have eR : ∀ k : Int32, actOf (sl T p (wE T p)) = k → rdA T p = rdK T p (wE T p) k := fun k hk => by
    unfold rdA
    rw [hk]
  have fin : ∀ {y : Int32 × RS9} {r : RA} {σ9 : RS9}, FRX NO9 K11 σ σ9 → MD9 σ9 T S r y → rdA T p = r → PQ (mX9_act_b246 (nI p) y.1 y.2) (AC9 σ T p S) := fun hK hy er => by
    refine r_b246 ?_ hp4
    rw [er]
    exact ⟨frx_tr (kx_up hK) hy.1, hy.2⟩
  refine pq_call (r_hasP (t := 3) (by decide) hpp hT1 h121 hM1) (fun y hy => ?_)
  obtain ⟨σ2, rfl, hTT2, h122, hX2, hM2⟩ := hy
  have hK2 := frx_tr hK1 hX2
  refine if_01 (fun q0 => ?_) (fun q0 => ?_)
  rotate_left
  · have q0 := of_decide_eq_true q0
    have hT2 : TP9 σ2 T (wE T p) := by rw [if_pos q0] at hTT2; exact hTT2
    have hd : ∀ j, j < 0 → sl T p (wE T p) ≠ nmL.getD (0 + j) [] := fun j hj => by
      exact absurd hj (Nat.not_lt_zero _)
    have ea : actOf (sl T p (wE T p)) = nI 0 := aNm_at (k := 0) 12 0 hd (by rw [q0]; exact nm_wd ⟨0, by decide⟩) (by decide)
    have er : rdA T p = rd1 T (wE T p) 0 0 3 := (eR _ ea).trans rfl
    refine pq_call (r_ruleText (e := wE T p) (a := 1) (k := 0) hM2 hT2 h122 (by decide) kt_0 kt_3 (by omega) (fun ok => ⟨_, rfl, fun μ hμ => MC_0 hμ (k3_of ⟨by rw [nV_t]; exact ok.2.2.1, by rw [nV_t]; exact ok.2.2.2⟩)⟩)) (fun y hy => fin hK2 hy er)
  have q0 := of_decide_eq_false q0
  have hT2 : TP9 σ2 T p := by rw [if_neg q0] at hTT2; exact hTT2
  have n0 : sl T p (wE T p) ≠ nmL.getD (0 + 0) [] := fun z => q0 (z.trans (nm_wd ⟨0, by decide⟩).symm)
  refine pq_call (r_hasP (t := 4) (by decide) hpp hT2 h122 hM2) (fun y hy => ?_)
  obtain ⟨σ3, rfl, hTT3, h123, hX3, hM3⟩ := hy
  have hK3 := frx_tr hK2 hX3
  refine if_01 (fun q1 => ?_) (fun q1 => ?_)
  rotate_left
  · have q1 := of_decide_eq_true q1
    have hT3 : TP9 σ3 T (wE T p) := by rw [if_pos q1] at hTT3; exact hTT3
    have hd : ∀ j, j < 1 → sl T p (wE T p) ≠ nmL.getD (0 + j) [] := fun j hj => by
      rcases (by omega : j = 0) with e
      · rw [e]; exact n0
    have ea : actOf (sl T p (wE T p)) = nI 1 := aNm_at (k := 1) 12 0 hd (by rw [q1]; exact nm_wd ⟨1, by decide⟩) (by decide)
    have er : rdA T p = rd1 T (wE T p) 1 0 3 := (eR _ ea).trans rfl
    refine pq_call (r_ruleText (e := wE T p) (a := 2) (k := 1) hM3 hT3 h123 (by decide) kt_0 kt_3 (by omega) (fun ok => ⟨_, rfl, fun μ hμ => MC_1 hμ (Or.inr (k3_of ⟨by rw [nV_t]; exact ok.2.2.1, by rw [nV_t]; exact ok.2.2.2⟩))⟩)) (fun y hy => fin hK3 hy er)
  have q1 := of_decide_eq_false q1
  have hT3 : TP9 σ3 T p := by rw [if_neg q1] at hTT3; exact hTT3
  have n1 : sl T p (wE T p) ≠ nmL.getD (0 + 1) [] := fun z => q1 (z.trans (nm_wd ⟨1, by decide⟩).symm)
  refine pq_call (r_hasP (t := 5) (by decide) hpp hT3 h123 hM3) (fun y hy => ?_)
  obtain ⟨σ4, rfl, hTT4, h124, hX4, hM4⟩ := hy
  have hK4 := frx_tr hK3 hX4
  refine if_01 (fun q2 => ?_) (fun q2 => ?_)
  rotate_left
  · have q2 := of_decide_eq_true q2
    have hT4 : TP9 σ4 T (wE T p) := by rw [if_pos q2] at hTT4; exact hTT4
    have hd : ∀ j, j < 2 → sl T p (wE T p) ≠ nmL.getD (0 + j) [] := fun j hj => by
      rcases (by omega : j = 0 ∨ j = 1) with e | e
      · rw [e]; exact n0
      · rw [e]; exact n1
    have ea : actOf (sl T p (wE T p)) = nI 2 := aNm_at (k := 2) 12 0 hd (by rw [q2]; exact nm_wd ⟨2, by decide⟩) (by decide)
    have er : rdA T p = .inr (2, 0, 0, [], wE T p) := (eR _ ea).trans rfl
    refine pq_call (r_rules (a := 2) (x := (-1)) hM4 (by decide) (MC_1 hM4.1.2.1 (Or.inl rfl))) (fun y hy => fin hK4 (md_of (z := (2, 0, 0, [], wE T p)) frx_rfl hT4 h124 hy) er)
  have q2 := of_decide_eq_false q2
  have hT4 : TP9 σ4 T p := by rw [if_neg q2] at hTT4; exact hTT4
  have n2 : sl T p (wE T p) ≠ nmL.getD (0 + 2) [] := fun z => q2 (z.trans (nm_wd ⟨2, by decide⟩).symm)
  refine pq_call (r_hasP (t := 6) (by decide) hpp hT4 h124 hM4) (fun y hy => ?_)
  obtain ⟨σ5, rfl, hTT5, h125, hX5, hM5⟩ := hy
  have hK5 := frx_tr hK4 hX5
  refine if_01 (fun q3 => ?_) (fun q3 => ?_)
  rotate_left
  · have q3 := of_decide_eq_true q3
    have hT5 : TP9 σ5 T (wE T p) := by rw [if_pos q3] at hTT5; exact hTT5
    have hd : ∀ j, j < 3 → sl T p (wE T p) ≠ nmL.getD (0 + j) [] := fun j hj => by
      rcases (by omega : j = 0 ∨ j = 1 ∨ j = 2) with e | e | e
      · rw [e]; exact n0
      · rw [e]; exact n1
      · rw [e]; exact n2
    have ea : actOf (sl T p (wE T p)) = nI 3 := aNm_at (k := 3) 12 0 hd (by rw [q3]; exact nm_wd ⟨3, by decide⟩) (by decide)
    have er : rdA T p = .inr (3, 0, 0, [], wE T p) := (eR _ ea).trans rfl
    refine pq_call (r_rules (a := 3) (x := 1) hM5 (by decide) (MC_2 hM5.1.2.1 (Or.inr rfl))) (fun y hy => fin hK5 (md_of (z := (3, 0, 0, [], wE T p)) frx_rfl hT5 h125 hy) er)
  have q3 := of_decide_eq_false q3
  have hT5 : TP9 σ5 T p := by rw [if_neg q3] at hTT5; exact hTT5
  have n3 : sl T p (wE T p) ≠ nmL.getD (0 + 3) [] := fun z => q3 (z.trans (nm_wd ⟨3, by decide⟩).symm)
  refine pq_call (r_hasP (t := 7) (by decide) hpp hT5 h125 hM5) (fun y hy => ?_)
  obtain ⟨σ6, rfl, hTT6, h126, hX6, hM6⟩ := hy
  have hK6 := frx_tr hK5 hX6
  refine if_01 (fun q4 => ?_) (fun q4 => ?_)
  rotate_left
  · have q4 := of_decide_eq_true q4
    have hT6 : TP9 σ6 T (wE T p) := by rw [if_pos q4] at hTT6; exact hTT6
    have hd : ∀ j, j < 4 → sl T p (wE T p) ≠ nmL.getD (0 + j) [] := fun j hj => by
      rcases (by omega : j = 0 ∨ j = 1 ∨ j = 2 ∨ j = 3) with e | e | e | e
      · rw [e]; exact n0
      · rw [e]; exact n1
      · rw [e]; exact n2
      · rw [e]; exact n3
    have ea : actOf (sl T p (wE T p)) = nI 4 := aNm_at (k := 4) 12 0 hd (by rw [q4]; exact nm_wd ⟨4, by decide⟩) (by decide)
    have er : rdA T p = .inr (4, 0, 0, [], wE T p) := (eR _ ea).trans rfl
    refine pq_call (r_rules (a := 3) (x := 0) hM6 (by decide) (MC_2 hM6.1.2.1 (Or.inl rfl))) (fun y hy => fin hK6 (md_of (z := (4, 0, 0, [], wE T p)) frx_rfl hT6 h126 hy) er)
  have q4 := of_decide_eq_false q4
  have hT6 : TP9 σ6 T p := by rw [if_neg q4] at hTT6; exact hTT6
  have n4 : sl T p (wE T p) ≠ nmL.getD (0 + 4) [] := fun z => q4 (z.trans (nm_wd ⟨4, by decide⟩).symm)
  refine pq_call (r_hasP (t := 8) (by decide) hpp hT6 h126 hM6) (fun y hy => ?_)
  obtain ⟨σ7, rfl, hTT7, h127, hX7, hM7⟩ := hy
  have hK7 := frx_tr hK6 hX7
  refine if_01 (fun q5 => ?_) (fun q5 => ?_)
  rotate_left
  · have q5 := of_decide_eq_true q5
    have hT7 : TP9 σ7 T (wE T p) := by rw [if_pos q5] at hTT7; exact hTT7
    have hd : ∀ j, j < 5 → sl T p (wE T p) ≠ nmL.getD (0 + j) [] := fun j hj => by
      rcases (by omega : j = 0 ∨ j = 1 ∨ j = 2 ∨ j = 3 ∨ j = 4) with e | e | e | e | e
      · rw [e]; exact n0
      · rw [e]; exact n1
      · rw [e]; exact n2
      · rw [e]; exact n3
      · rw [e]; exact n4
    have ea : actOf (sl T p (wE T p)) = nI 5 := aNm_at (k := 5) 12 0 hd (by rw [q5]; exact nm_wd ⟨5, by decide⟩) (by decide)
    have er : rdA T p = rd1 T (wE T p) 5 1 40 := (eR _ ea).trans rfl
    refine pq_call (r_ruleText (e := wE T p) (a := 4) (k := 5) hM7 hT7 h127 (by decide) kt_1 kt_40 (by omega) (fun ok => ⟨_, rfl, fun μ hμ => ?_⟩)) (fun y hy => fin hK7 hy er)
    have o1 : 1 ≤ (nV T (wE T p)).toInt := by rw [nV_t]; exact ok.2.2.1
    have o2 : (nV T (wE T p)).toInt ≤ 40 := by rw [nV_t]; exact ok.2.2.2
    have hmc := MC_3 (n := (nV T (wE T p)).toInt.toNat) hμ (by omega)
    rw [← nI_x (x := nV T (wE T p)) (by omega) (by omega)] at hmc
    exact hmc
  have q5 := of_decide_eq_false q5
  have hT7 : TP9 σ7 T p := by rw [if_neg q5] at hTT7; exact hTT7
  have n5 : sl T p (wE T p) ≠ nmL.getD (0 + 5) [] := fun z => q5 (z.trans (nm_wd ⟨5, by decide⟩).symm)
  refine pq_call (r_hasP (t := 9) (by decide) hpp hT7 h127 hM7) (fun y hy => ?_)
  obtain ⟨σ8, rfl, hTT8, h128, hX8, hM8⟩ := hy
  have hK8 := frx_tr hK7 hX8
  refine if_01 (fun q6 => ?_) (fun q6 => ?_)
  rotate_left
  · have q6 := of_decide_eq_true q6
    have hT8 : TP9 σ8 T (wE T p) := by rw [if_pos q6] at hTT8; exact hTT8
    have hd : ∀ j, j < 6 → sl T p (wE T p) ≠ nmL.getD (0 + j) [] := fun j hj => by
      rcases (by omega : j = 0 ∨ j = 1 ∨ j = 2 ∨ j = 3 ∨ j = 4 ∨ j = 5) with e | e | e | e | e | e
      · rw [e]; exact n0
      · rw [e]; exact n1
      · rw [e]; exact n2
      · rw [e]; exact n3
      · rw [e]; exact n4
      · rw [e]; exact n5
    have ea : actOf (sl T p (wE T p)) = nI 6 := aNm_at (k := 6) 12 0 hd (by rw [q6]; exact nm_wd ⟨6, by decide⟩) (by decide)
    have er : rdA T p = rdW T (wE T p) := (eR _ ea).trans rfl
    exact pq_call (r_lockText (e := wE T p) hM8 hT8 h128) (fun y hy => fin hK8 hy er)
  have q6 := of_decide_eq_false q6
  have hT8 : TP9 σ8 T p := by rw [if_neg q6] at hTT8; exact hTT8
  have n6 : sl T p (wE T p) ≠ nmL.getD (0 + 6) [] := fun z => q6 (z.trans (nm_wd ⟨6, by decide⟩).symm)
  refine pq_call (r_hasP (t := 10) (by decide) hpp hT8 h128 hM8) (fun y hy => ?_)
  obtain ⟨σ9, rfl, hTT9, h129, hX9, hM9⟩ := hy
  have hK9 := frx_tr hK8 hX9
  refine if_01 (fun q7 => ?_) (fun q7 => ?_)
  rotate_left
  · have q7 := of_decide_eq_true q7
    have hT9 : TP9 σ9 T (wE T p) := by rw [if_pos q7] at hTT9; exact hTT9
    have hd : ∀ j, j < 7 → sl T p (wE T p) ≠ nmL.getD (0 + j) [] := fun j hj => by
      rcases (by omega : j = 0 ∨ j = 1 ∨ j = 2 ∨ j = 3 ∨ j = 4 ∨ j = 5 ∨ j = 6) with e | e | e | e | e | e | e
      · rw [e]; exact n0
      · rw [e]; exact n1
      · rw [e]; exact n2
      · rw [e]; exact n3
      · rw [e]; exact n4
      · rw [e]; exact n5
      · rw [e]; exact n6
    have ea : actOf (sl T p (wE T p)) = nI 7 := aNm_at (k := 7) 12 0 hd (by rw [q7]; exact nm_wd ⟨7, by decide⟩) (by decide)
    have er : rdA T p = .inr (7, 0, 0, [], wE T p) := (eR _ ea).trans rfl
    exact pq_call (r_unlocks hM9) (fun y hy => fin hK9 (md_of (z := (7, 0, 0, [], wE T p)) frx_rfl hT9 h129 hy) er)
  have q7 := of_decide_eq_false q7
  have hT9 : TP9 σ9 T p := by rw [if_neg q7] at hTT9; exact hTT9
  have n7 : sl T p (wE T p) ≠ nmL.getD (0 + 7) [] := fun z => q7 (z.trans (nm_wd ⟨7, by decide⟩).symm)
  refine pq_call (r_hasP (t := 11) (by decide) hpp hT9 h129 hM9) (fun y hy => ?_)
  obtain ⟨σ10, rfl, hTT10, h1210, hX10, hM10⟩ := hy
  have hK10 := frx_tr hK9 hX10
  refine if_01 (fun q8 => ?_) (fun q8 => ?_)
  rotate_left
  · have q8 := of_decide_eq_true q8
    have hT10 : TP9 σ10 T (wE T p) := by rw [if_pos q8] at hTT10; exact hTT10
    have hd : ∀ j, j < 8 → sl T p (wE T p) ≠ nmL.getD (0 + j) [] := fun j hj => by
      rcases (by omega : j = 0 ∨ j = 1 ∨ j = 2 ∨ j = 3 ∨ j = 4 ∨ j = 5 ∨ j = 6 ∨ j = 7) with e | e | e | e | e | e | e | e
      · rw [e]; exact n0
      · rw [e]; exact n1
      · rw [e]; exact n2
      · rw [e]; exact n3
      · rw [e]; exact n4
      · rw [e]; exact n5
      · rw [e]; exact n6
      · rw [e]; exact n7
    have ea : actOf (sl T p (wE T p)) = nI 8 := aNm_at (k := 8) 12 0 hd (by rw [q8]; exact nm_wd ⟨8, by decide⟩) (by decide)
    have er : rdA T p = rd1 T (wE T p) 8 0 39 := (eR _ ea).trans rfl
    exact pq_call (r_pieceText (e := wE T p) (b := true) hM10 hS hT10 h1210) (fun y hy => fin hK10 hy er)
  have q8 := of_decide_eq_false q8
  have hT10 : TP9 σ10 T p := by rw [if_neg q8] at hTT10; exact hTT10
  have n8 : sl T p (wE T p) ≠ nmL.getD (0 + 8) [] := fun z => q8 (z.trans (nm_wd ⟨8, by decide⟩).symm)
  refine pq_call (r_hasP (t := 12) (by decide) hpp hT10 h1210 hM10) (fun y hy => ?_)
  obtain ⟨σ11, rfl, hTT11, h1211, hX11, hM11⟩ := hy
  have hK11 := frx_tr hK10 hX11
  refine if_01 (fun q9 => ?_) (fun q9 => ?_)
  rotate_left
  · have q9 := of_decide_eq_true q9
    have hT11 : TP9 σ11 T (wE T p) := by rw [if_pos q9] at hTT11; exact hTT11
    have hd : ∀ j, j < 9 → sl T p (wE T p) ≠ nmL.getD (0 + j) [] := fun j hj => by
      rcases (by omega : j = 0 ∨ j = 1 ∨ j = 2 ∨ j = 3 ∨ j = 4 ∨ j = 5 ∨ j = 6 ∨ j = 7 ∨ j = 8) with e | e | e | e | e | e | e | e | e
      · rw [e]; exact n0
      · rw [e]; exact n1
      · rw [e]; exact n2
      · rw [e]; exact n3
      · rw [e]; exact n4
      · rw [e]; exact n5
      · rw [e]; exact n6
      · rw [e]; exact n7
      · rw [e]; exact n8
    have ea : actOf (sl T p (wE T p)) = nI 9 := aNm_at (k := 9) 12 0 hd (by rw [q9]; exact nm_wd ⟨9, by decide⟩) (by decide)
    have er : rdA T p = rd1 T (wE T p) 9 0 39 := (eR _ ea).trans rfl
    exact pq_call (r_pieceText (e := wE T p) (b := false) hM11 hS hT11 h1211) (fun y hy => fin hK11 hy er)
  have q9 := of_decide_eq_false q9
  have hT11 : TP9 σ11 T p := by rw [if_neg q9] at hTT11; exact hTT11
  have n9 : sl T p (wE T p) ≠ nmL.getD (0 + 9) [] := fun z => q9 (z.trans (nm_wd ⟨9, by decide⟩).symm)
  refine pq_call (r_hasP (t := 13) (by decide) hpp hT11 h1211 hM11) (fun y hy => ?_)
  obtain ⟨σ12, rfl, hTT12, h1212, hX12, hM12⟩ := hy
  have hK12 := frx_tr hK11 hX12
  refine if_01 (fun q10 => ?_) (fun q10 => ?_)
  rotate_left
  · have q10 := of_decide_eq_true q10
    have hT12 : TP9 σ12 T (wE T p) := by rw [if_pos q10] at hTT12; exact hTT12
    have hd : ∀ j, j < 10 → sl T p (wE T p) ≠ nmL.getD (0 + j) [] := fun j hj => by
      rcases (by omega : j = 0 ∨ j = 1 ∨ j = 2 ∨ j = 3 ∨ j = 4 ∨ j = 5 ∨ j = 6 ∨ j = 7 ∨ j = 8 ∨ j = 9) with e | e | e | e | e | e | e | e | e | e
      · rw [e]; exact n0
      · rw [e]; exact n1
      · rw [e]; exact n2
      · rw [e]; exact n3
      · rw [e]; exact n4
      · rw [e]; exact n5
      · rw [e]; exact n6
      · rw [e]; exact n7
      · rw [e]; exact n8
      · rw [e]; exact n9
    have ea : actOf (sl T p (wE T p)) = nI 10 := aNm_at (k := 10) 12 0 hd (by rw [q10]; exact nm_wd ⟨10, by decide⟩) (by decide)
    have er : rdA T p = rd2 T (wE T p) := (eR _ ea).trans rfl
    exact pq_call (r_swapText (e := wE T p) hM12 hS hT12 h1212) (fun y hy => fin hK12 hy er)
  have q10 := of_decide_eq_false q10
  have hT12 : TP9 σ12 T p := by rw [if_neg q10] at hTT12; exact hTT12
  have n10 : sl T p (wE T p) ≠ nmL.getD (0 + 10) [] := fun z => q10 (z.trans (nm_wd ⟨10, by decide⟩).symm)
  refine pq_call (r_hasP (t := 14) (by decide) hpp hT12 h1212 hM12) (fun y hy => ?_)
  obtain ⟨σ13, rfl, hTT13, h1213, hX13, hM13⟩ := hy
  have hK13 := frx_tr hK12 hX13
  refine if_01 (fun q11 => ?_) (fun q11 => ?_)
  rotate_left
  · have q11 := of_decide_eq_true q11
    have hT13 : TP9 σ13 T (wE T p) := by rw [if_pos q11] at hTT13; exact hTT13
    have hd : ∀ j, j < 11 → sl T p (wE T p) ≠ nmL.getD (0 + j) [] := fun j hj => by
      rcases (by omega : j = 0 ∨ j = 1 ∨ j = 2 ∨ j = 3 ∨ j = 4 ∨ j = 5 ∨ j = 6 ∨ j = 7 ∨ j = 8 ∨ j = 9 ∨ j = 10) with e | e | e | e | e | e | e | e | e | e | e
      · rw [e]; exact n0
      · rw [e]; exact n1
      · rw [e]; exact n2
      · rw [e]; exact n3
      · rw [e]; exact n4
      · rw [e]; exact n5
      · rw [e]; exact n6
      · rw [e]; exact n7
      · rw [e]; exact n8
      · rw [e]; exact n9
      · rw [e]; exact n10
    have ea : actOf (sl T p (wE T p)) = nI 11 := aNm_at (k := 11) 12 0 hd (by rw [q11]; exact nm_wd ⟨11, by decide⟩) (by decide)
    have er : rdA T p = .inr (11, 0, 0, [], wE T p) := (eR _ ea).trans rfl
    exact pq_call (r_wipe0 hM13 hS) (fun y hy => fin hK13 (md_of (z := (11, 0, 0, [], wE T p)) frx_rfl hT13 h1213 hy) er)
  have q11 := of_decide_eq_false q11
  have hT13 : TP9 σ13 T p := by rw [if_neg q11] at hTT13; exact hTT13
  have n11 : sl T p (wE T p) ≠ nmL.getD (0 + 11) [] := fun z => q11 (z.trans (nm_wd ⟨11, by decide⟩).symm)
  have hd : ∀ j, j < 12 → sl T p (wE T p) ≠ nmL.getD (0 + j) [] := fun j hj => by
    rcases (by omega : j = 0 ∨ j = 1 ∨ j = 2 ∨ j = 3 ∨ j = 4 ∨ j = 5 ∨ j = 6 ∨ j = 7 ∨ j = 8 ∨ j = 9 ∨ j = 10 ∨ j = 11) with e | e | e | e | e | e | e | e | e | e | e | e
    · rw [e]; exact n0
    · rw [e]; exact n1
    · rw [e]; exact n2
    · rw [e]; exact n3
    · rw [e]; exact n4
    · rw [e]; exact n5
    · rw [e]; exact n6
    · rw [e]; exact n7
    · rw [e]; exact n8
    · rw [e]; exact n9
    · rw [e]; exact n10
    · rw [e]; exact n11
  have ea : actOf (sl T p (wE T p)) = -1 := aNm_no 12 0 hd
  have er : rdA T p = .inl p := (eR _ ea).trans rfl
  refine pq_isr (r_wrong h1213) (fin (y := (0, rSf σ13 12 (nI p))) (r := .inl p) hK13 ⟨⟨fun _ _ => rfl, fun k hk => sf_ne (fun q => hk (Or.inr (Or.inl q)))⟩, hp4, sf_eq⟩ er)
end RDO
end
/-! part 64f.acts -/
section
/-! the reference does a text of acts -/
def OB9 (σ : RS9) (V : SPV) : Prop := σ.1 9 = 0 ∧ PA9 σ V.2.2.1 ∧ IM9 σ V.2.2.2.1 ∧ σ.1 7 = V.2.2.2.2.1 ∧ MR9 (σ.2 2) V.2.1
theorem OB_frx {σ σ' : RS9} {V : SPV} (h : OB9 σ V) (hX : FRX RA9 FX9 σ σ') : OB9 σ' V := by
  obtain ⟨a, b, c, d, e⟩ := h
  exact ⟨(hX.2 9 (fun q => by omega)).trans a, PA_frx b hX (fun q => by omega) (fun q => by omega), IM_frx c hX (fun q => by omega) (fun q => by omega), (hX.2 7 (fun q => by omega)).trans d, by rw [hX.1 2 (fun q => by omega)]; exact e⟩
def AQ9 (V : SPV) (z : AR) (n : Nat) (y : Int32 × RS9) : Prop := match z.1 with
  | none => y.1 = nI (n + z.2.2.1) ∧ y.2.1 0 = 0 ∧ RR9 y.2 ([], z.2.2.2, [], V.2.2.2.1, (if 0 < n + z.2.2.1 then 0 else V.2.2.2.2.1), -1)
  | some w => y.2.1 0 = 1 ∧ RR9 y.2 ([], V.2.1, V.2.2.1, V.2.2.2.1, (if z.2.1 = 0 then V.2.2.2.2.1 else z.2.1), nI w)
section RAT
variable {σ : RS9} {T : BL} {V : SPV}
theorem r_here0 : PQ (mX9_here σ) (fun y => FRX NO9 K11 σ y.2) := by
  have key : ∀ (d : Nat) (σ1 : RS9), FRX NO9 K11 σ σ1 → PQ (mX9_here_l0 d σ1) (fun y => FRX NO9 K11 σ y.2) := by
    intro d
    induction d with
    | zero => intro σ1 _; exact pq_none
    | succ d ih =>
      intro σ1 hX
      have fin : PQ (mX9_here_b38 σ1) (fun y => FRX NO9 K11 σ y.2) := pq_ret hX
      unfold mX9_here_l0
      exact pq_le rfl rfl (fun _ => fin) (fun _ => pq_ck (pq_eq (fun _ => ih _ (frx_tr hX ⟨fun _ _ => rfl, fun k hk => sf_ne hk⟩)) (fun _ => fin)))
  unfold mX9_here
  exact key rFU σ frx_rfl
/-- all went well -/
theorem r_good {n : Nat} {v : Int32} {S : SST} {z : AR} (hn : n ≤ 14) (hO : OB9 σ V) (hM : RM9 σ S) (h12 : σ.1 12 = -1) : PQ (mX9_acts_b154 (nI n) v σ) (fun y => y.1 = nI n ∧ y.2.1 0 = 0 ∧ RR9 y.2 ([], S, [], V.2.2.2.1, (if 0 < n then 0 else V.2.2.2.2.1), -1)) := by
  obtain ⟨a, b, c, d, e⟩ := hO
  unfold mX9_acts_b154 mX9_acts_b168
  have fin : ∀ s1 : Int32, s1 = (if 0 < n then 0 else V.2.2.2.2.1) → PQ (mX9_acts_b191 (nI n) s1 (rSf σ 0 0)) (fun y => y.1 = nI n ∧ y.2.1 0 = 0 ∧ RR9 y.2 ([], S, [], V.2.2.2.1, (if 0 < n then 0 else V.2.2.2.2.1), -1)) := fun s1 hs => by
    unfold mX9_acts_b191
    have hX : FRX NO9 (fun k => k = 0 ∨ k = 5 ∨ k = 7) σ (rSf (rSf (rSf σ 0 0) 7 s1) 5 0) := ⟨fun _ _ => rfl, fun k hk => (sf_ne (fun q => hk (by omega))).trans ((sf_ne (fun q => hk (by omega))).trans (sf_ne (fun q => hk (by omega))))⟩
    refine pq_ret ⟨rfl, (sf_ne (by decide)).trans ((sf_ne (by decide)).trans sf_eq), ⟨(hX.2 9 (fun q => by omega)).trans a, Nat.zero_le _, fun i hi => absurd hi (Nat.not_lt_zero _)⟩, RM_frx hM hX (fun q => q) (fun k _ _ q => q) ⟨fun q => by omega, fun q => by omega⟩, PA_nil sf_eq, IM_frx c hX (fun q => q) (fun q => by omega), ?_, (hX.2 12 (fun q => by omega)).trans h12⟩
    rw [← hs]
    exact (sf_ne (by decide)).trans sf_eq
  refine pq_t h12 (pq_t rfl (pq_le (nI_toInt (by omega)) kt_0 (fun q => fin _ ?_) (fun q => fin _ ?_)))
  · rw [if_neg (by omega)]; exact d
  · rw [if_pos (by omega)]
/-- something was wrong -/
theorem r_badE {v : Int32} {c : Nat} {w : Nat} (hc : c ≤ 9) (hw : w ≤ 400) (hO : OB9 σ V) (h12 : σ.1 12 = nI w) : PQ (mX9_acts_b154 v (nI c) σ) (fun y => y.2.1 0 = 1 ∧ RR9 y.2 ([], V.2.1, V.2.2.1, V.2.2.2.1, (if nI c = 0 then V.2.2.2.2.1 else nI c), nI w)) := by
  obtain ⟨a, b, c', d, e⟩ := hO
  unfold mX9_acts_b154 mX9_acts_b168
  have fin : ∀ s1 : Int32, s1 = (if nI c = 0 then V.2.2.2.2.1 else nI c) → PQ (mX9_acts_b214 s1 (rSf σ 0 1)) (fun y => y.2.1 0 = 1 ∧ RR9 y.2 ([], V.2.1, V.2.2.1, V.2.2.2.1, (if nI c = 0 then V.2.2.2.2.1 else nI c), nI w)) := fun s1 hs => by
    unfold mX9_acts_b214
    refine pq_call (r_putsBack (S := V.2.1) (σ := rSf (rSf σ 0 1) 7 s1) e) (fun y hy => ?_)
    obtain ⟨σ2, rfl, m1, m2⟩ := hy
    have hX : FRX RA9 (fun k => k = 0 ∨ k = 7 ∨ FA9 k) σ σ2 := ⟨fun k hk => (m2.1 k hk).trans rfl, fun k hk => (m2.2 k (fun q => hk (Or.inr (Or.inr q)))).trans ((sf_ne (fun q => hk (Or.inr (Or.inl q)))).trans (sf_ne (fun q => hk (Or.inl q))))⟩
    refine pq_ret ⟨(m2.2 0 (fun q => by omega)).trans ((sf_ne (by decide)).trans sf_eq), ⟨(hX.2 9 (fun q => by omega)).trans a, Nat.zero_le _, fun i hi => absurd hi (Nat.not_lt_zero _)⟩, m1, PA_frx b hX (fun q => by omega) (fun q => by omega), IM_frx c' hX (fun q => by omega) (fun q => by omega), ?_, (hX.2 12 (fun q => by omega)).trans h12⟩
    rw [← hs]
    exact (m2.2 7 (fun q => by omega)).trans sf_eq
  refine pq_f (show ¬ σ.1 12 = -1 from fun q => nI_ne (a := w) (by omega) (h12.symm.trans q)) (pq_f (show ¬ (1 : Int32) = 0 by decide) (pq_le (nI_toInt (by omega)) kt_0 (fun q => fin _ ?_) (fun q => fin _ ?_)))
  · have : c = 0 := by omega
    subst this
    exact d.trans (if_pos rfl).symm
  · rw [if_neg (fun z => by
      have := congrArg Int32.toInt z
      rw [nI_toInt (by omega), kt_0] at this; omega)]
/-- behind what is wrong -/
theorem r_bad87 {d : Nat} {v : Int32} {c w : Nat} (hc : c ≤ 9) (hw : w ≤ 400) (hO : OB9 σ V) (h12 : σ.1 12 = nI w) : PQ (mX9_acts_b87 (fun v1 v2 v3 σ => mX9_acts_l48 d v1 v2 v3 σ) v (nI c) σ) (fun y => y.2.1 0 = 1 ∧ RR9 y.2 ([], V.2.1, V.2.2.1, V.2.2.2.1, (if nI c = 0 then V.2.2.2.2.1 else nI c), nI w)) := by
  have nm : ∀ {s : RS9}, s.1 12 = nI w → ¬ s.1 12 = -1 := fun hs q => nI_ne (a := w) (by omega) (hs.symm.trans q)
  unfold mX9_acts_b87
  refine pq_call r_here0 (fun y hX => ?_)
  obtain ⟨v1, σ1⟩ := y
  have hX : FRX NO9 K11 σ σ1 := hX
  have h121 : σ1.1 12 = nI w := (hX.2 12 (fun q => by omega)).trans h12
  have hO1 := OB_frx hO (kx_up hX)
  have l0 : ∀ s3 : Int32, PQ (mX9_acts_l48 d (v + 1) (nI c) s3 σ1) (fun y => y.2.1 0 = 1 ∧ RR9 y.2 ([], V.2.1, V.2.2.1, V.2.2.2.1, (if nI c = 0 then V.2.2.2.2.1 else nI c), nI w)) := fun s3 => by
    cases d with
    | zero => exact pq_none
    | succ d =>
      unfold mX9_acts_l48
      have fin := r_badE (v := v + 1) hc hw hO1 h121
      exact pq_eq (fun _ => fin) (fun _ => pq_f (nm h121) fin)
  unfold mX9_acts_b106
  refine pq_le rfl rfl (fun _ => pq_t rfl (l0 0)) (fun _ => pq_f (show ¬ (1 : Int32) = 0 by decide) (pq_f (nm h121) (l0 1)))
set_option maxHeartbeats 1000000 in
theorem r_loopA : ∀ (d D n p0 : Nat) (S : SST) (σ : RS9), n + D = 14 → RM9 σ S → SV S → TP9 σ T p0 → σ.1 12 = -1 → OB9 σ V → PQ (mX9_acts_l48 d (nI n) 0 1 σ) (AQ9 V (aL T D (nB T p0) S) n) := by
  intro d
  induction d with
  | zero => intro D n p0 S σ _ _ _ _ _ _; exact pq_none
  | succ d ih =>
    intro D n p0 S σ hnD hM hS hT h12 hO
    have h4 := hT.1.2.1
    unfold mX9_acts_l48
    refine pq_f (show ¬ (1 : Int32) = 0 by decide) (pq_t h12 ?_)
    refine pq_eqi (nI_toInt (by omega)) (show (14 : Int32).toInt = 14 by decide) (fun q => ?_) (fun q => ?_)
    · have eD : D = 0 := by omega
      subst eD
      refine pq_call (r_here hT) (fun y hy => ?_)
      obtain ⟨σ1, rfl, hT1, hX⟩ := hy
      have h121 : σ1.1 12 = -1 := (hX.2 12 (fun q => by omega)).trans h12
      have hbT := hT1.2.2
      refine pq_isr (r_wrong h121) ?_
      have hO2 : OB9 (rSf σ1 12 (nI (nB T p0))) V := OB_frx hO (frx_tr (kx_up hX) ⟨fun _ _ => rfl, fun k hk => sf_ne (fun q => hk (Or.inr (Or.inl q)))⟩)
      unfold mX9_acts_b74
      refine pq_f (show ¬ (rSf σ1 12 (nI (nB T p0))).1 12 = -1 from fun q => nI_ne (a := nB T p0) (by omega) (sf_eq.symm.trans q)) ?_
      refine pq_tail (r_bad87 (d := d) (v := nI n) (c := 0) (w := nB T p0) (by omega) (by omega) hO2 sf_eq) (fun y hy => ?_)
      exact hy
    · obtain ⟨D, rfl⟩ : ∃ D', D = D' + 1 := ⟨D - 1, by omega⟩
      unfold mX9_acts_b74
      refine pq_t h12 (pq_call (r_act hM hS hT h12) (fun y hy => ?_))
      have hbT : nB T p0 ≤ T.length := nx_le hT.2.2
      obtain ⟨v1, σ1⟩ := y
      obtain ⟨hX, hc⟩ := hy
      have hX : FRX RA9 FX9 σ σ1 := hX
      have hO1 := OB_frx hO hX
      have ea : aL T (D + 1) (nB T p0) S = aSt T (nB T p0) S (aL T D) (rdA T (nB T p0)) := rfl
      rw [ea]
      generalize rdA T (nB T p0) = r at hc ⊢
      cases r with
      | inl w =>
        obtain ⟨w4, e1, e12⟩ := hc
        have e1 : v1 = 0 := e1
        subst e1
        refine pq_tail (r_bad87 (d := d) (v := nI n) (c := 0) (w := w) (by omega) w4 hO1 e12) (fun y hy => ?_)
        exact hy
      | inr z =>
        obtain ⟨cg, cb⟩ := hc
        have es : aSt T (nB T p0) S (aL T D) (.inr z) = if (dAz S z).1 = 0 then (if nB T z.2.2.2.2 < T.length then (if T.getD (nB T z.2.2.2.2) 0 = 59 then (fun q : AR => (q.1, q.2.1, q.2.2.1 + 1, q.2.2.2)) (aL T D (nB T (nB T z.2.2.2.2 + 1)) (dAz S z).2) else (some (nB T z.2.2.2.2), 0, 0, S)) else (none, 0, 1, (dAz S z).2)) else (some (nB T p0), (dAz S z).1, 0, S) := rfl
        rw [es]
        by_cases h0 : (dAz S z).1 = 0
        · rw [if_pos h0]
          obtain ⟨e1, e12, hM1, hT1⟩ := cg h0
          have e1 : v1 = 0 := e1
          subst e1
          have e12 : σ1.1 12 = -1 := e12
          have hM1 : RM9 σ1 (dAz S z).2 := hM1
          have hT1 : TP9 σ1 T z.2.2.2.2 := hT1
          have hS1 : SV (dAz S z).2 := dA_SV hM.1.1.1.2 hS
          unfold mX9_acts_b87
          refine pq_call (r_here hT1) (fun y hy => ?_)
          obtain ⟨σ2, rfl, hT2, hX2⟩ := hy
          have e122 : σ2.1 12 = -1 := (hX2.2 12 (fun q => by omega)).trans e12
          have hM2 : RM9 σ2 (dAz S z).2 := RM_frx hM1 hX2 (fun q => q) (fun k _ _ q => q) ⟨fun q => by omega, fun q => by omega⟩
          have hO2 := OB_frx hO1 (kx_up hX2)
          have hb2 := hT2.2.2
          show PQ (if σ2.1 10 ≤ nI (nB T z.2.2.2.2) then mX9_acts_b106 (fun v1 v2 v3 σ => mX9_acts_l48 d v1 v2 v3 σ) (nI n + (1 : Int32)) 0 (0 : Int32) σ2 else mX9_acts_b106 (fun v1 v2 v3 σ => mX9_acts_l48 d v1 v2 v3 σ) (nI n + (1 : Int32)) 0 (1 : Int32) σ2) _
          rw [hT2.1.2.2, nI_1]
          refine pq_le (nI_toInt (by omega)) (nI_toInt (by omega)) (fun q1 => ?_) (fun q1 => ?_)
          · rw [if_neg (by omega)]
            unfold mX9_acts_b106
            refine pq_t rfl ?_
            cases d with
            | zero => exact pq_none
            | succ d =>
              unfold mX9_acts_l48
              refine pq_t rfl (pq_tail (r_good (n := n + 1) (v := 0) (z := (none, 0, 0, S)) (by omega) hO2 hM2 e122) (fun y hy => ?_))
              exact hy
          · rw [if_pos (by omega)]
            unfold mX9_acts_b106
            refine pq_f (show ¬ (1 : Int32) = 0 by decide) (pq_t e122 ?_)
            have hlt : nB T z.2.2.2.2 < T.length := by omega
            rw [hT2.2.1, rd_nI (by omega), hT2.1.1 _ hlt]
            refine pq_ck (pq_eq (fun q2 => ?_) (fun q2 => ?_))
            · rw [if_pos q2]
              unfold mX9_acts_b141
              rw [hT2.2.1, nI_1]
              have fr : FRX NO9 K11 σ2 (rSf σ2 11 (nI (nB T z.2.2.2.2 + 1))) := ⟨fun _ _ => rfl, fun k hk => sf_ne hk⟩
              refine pq_tail (ih D (n + 1) (nB T z.2.2.2.2 + 1) (dAz S z).2 _ (by omega) (RM_frx hM2 fr (fun q => q) (fun k _ _ q => q) ⟨fun q => by omega, fun q => by omega⟩) hS1 (TX_up hT2 fr (fun q => q) (fun q => by omega) sf_eq (by omega)) ((sf_ne (by decide)).trans e122) (OB_frx hO2 (kx_up fr))) (fun y hy => ?_)
              unfold AQ9 at hy ⊢
              show (match (aL T D (nB T (nB T z.2.2.2.2 + 1)) (dAz S z).2).1 with
                | none => y.1 = nI (n + ((aL T D (nB T (nB T z.2.2.2.2 + 1)) (dAz S z).2).2.2.1 + 1)) ∧ y.2.1 0 = 0 ∧ RR9 y.2 ([], (aL T D (nB T (nB T z.2.2.2.2 + 1)) (dAz S z).2).2.2.2, [], V.2.2.2.1, (if 0 < n + ((aL T D (nB T (nB T z.2.2.2.2 + 1)) (dAz S z).2).2.2.1 + 1) then 0 else V.2.2.2.2.1), -1)
                | some w => y.2.1 0 = 1 ∧ RR9 y.2 ([], V.2.1, V.2.2.1, V.2.2.2.1, (if (aL T D (nB T (nB T z.2.2.2.2 + 1)) (dAz S z).2).2.1 = 0 then V.2.2.2.2.1 else (aL T D (nB T (nB T z.2.2.2.2 + 1)) (dAz S z).2).2.1), nI w))
              generalize aL T D (nB T (nB T z.2.2.2.2 + 1)) (dAz S z).2 = g at hy ⊢
              rw [show n + (g.2.2.1 + 1) = n + 1 + g.2.2.1 by omega]
              exact hy
            · rw [if_neg q2]
              refine pq_isr (r_wrong e122) ?_
              unfold mX9_acts_b141
              have hO3 : OB9 (rSf (rSf σ2 12 (nI (nB T z.2.2.2.2))) 11 ((rSf σ2 12 (nI (nB T z.2.2.2.2))).1 11 + (1 : Int32))) V := OB_frx hO2 ⟨fun _ _ => rfl, fun k hk => (sf_ne (fun q => hk (Or.inl q))).trans (sf_ne (fun q => hk (Or.inr (Or.inl q))))⟩
              cases d with
              | zero => exact pq_none
              | succ d =>
                have e9 : (rSf (rSf σ2 12 (nI (nB T z.2.2.2.2))) 11 ((rSf σ2 12 (nI (nB T z.2.2.2.2))).1 11 + (1 : Int32))).1 12 = nI (nB T z.2.2.2.2) := (sf_ne (by decide)).trans sf_eq
                unfold mX9_acts_l48
                refine pq_f (show ¬ (1 : Int32) = 0 by decide) (pq_f (fun q => nI_ne (a := nB T z.2.2.2.2) (by omega) (e9.symm.trans q)) ?_)
                refine pq_tail (r_badE (v := nI (n + 1)) (c := 0) (w := nB T z.2.2.2.2) (by omega) (by omega) hO3 e9) (fun y hy => ?_)
                exact hy
        · rw [if_neg h0]
          obtain ⟨e1, e12⟩ := cb h0
          have e1 : v1 = (dAz S z).1 := e1
          obtain ⟨c, c9, ec⟩ := CD_d (S := S) (a := z.1) (x := z.2.1) (y := z.2.2.1) (w := z.2.2.2.1)
          have ec : (dAz S z).1 = nI c := ec
          rw [ec] at e1 ⊢
          subst e1
          refine pq_tail (r_bad87 (d := d) (v := nI n) (c := c) (w := nB T p0) c9 (by omega) hO1 e12) (fun y hy => ?_)
          exact hy
theorem r_acts (h : RR9 σ V) (hS : SV V.2.1) : PQ (mX9_acts σ) (RAN (sActs V) wc_L_acts) := by
  obtain ⟨⟨a1, a2, a3⟩, b, c, d, e, f⟩ := h
  unfold mX9_acts
  have hX0 : FRX NO9 (fun k => k = 9 ∨ k = 10 ∨ k = 11 ∨ k = 12) σ (rSf (rSf (rSf (rSf σ 12 (-1)) 10 (σ.1 9)) 9 0) 11 0) := ⟨fun _ _ => rfl, fun k hk => (sf_ne (fun q => hk (by omega))).trans ((sf_ne (fun q => hk (by omega))).trans ((sf_ne (fun q => hk (by omega))).trans (sf_ne (fun q => hk (by omega)))))⟩
  have e12 : (rSf (rSf (rSf (rSf σ 12 (-1)) 10 (σ.1 9)) 9 0) 11 0).1 12 = -1 := (sf_ne (by decide)).trans ((sf_ne (by decide)).trans ((sf_ne (by decide)).trans sf_eq))
  have e10 : (rSf (rSf (rSf (rSf σ 12 (-1)) 10 (σ.1 9)) 9 0) 11 0).1 10 = nI V.1.length := (sf_ne (by decide)).trans ((sf_ne (by decide)).trans (sf_eq.trans a1))
  have e9 : (rSf (rSf (rSf (rSf σ 12 (-1)) 10 (σ.1 9)) 9 0) 11 0).1 9 = 0 := (sf_ne (by decide)).trans sf_eq
  have e11 : (rSf (rSf (rSf (rSf σ 12 (-1)) 10 (σ.1 9)) 9 0) 11 0).1 11 = nI 0 := sf_eq
  generalize rSf (rSf (rSf (rSf σ 12 (-1)) 10 (σ.1 9)) 9 0) 11 0 = s0 at hX0 e12 e10 e9 e11 ⊢
  refine pq_call r_putsAside (fun y hy => ?_)
  obtain ⟨s1, rfl, g1, g2⟩ := hy
  have hX1 : FRX (fun k => k = 2) (fun k => k = 9 ∨ k = 10 ∨ k = 11 ∨ k = 12) σ s1 := frx_tr (frx_mono hX0 (fun k hk => absurd hk id) (fun k hk => hk)) (frx_mono g2 (fun k hk => hk) (fun k hk => absurd hk id))
  have hM1 : RM9 s1 V.2.1 := RM_frx b hX1 (fun q => by omega) (fun k h1 h2 q => by omega) ⟨fun q => by omega, fun q => by omega⟩
  have hO1 : OB9 s1 V := by
    refine ⟨(g2.2 9 (fun q => q)).trans e9, PA_frx c hX1 (fun q => by omega) (fun q => by omega), IM_frx d hX1 (fun q => by omega) (fun q => by omega), (hX1.2 7 (fun q => by omega)).trans e, MR9_ext b.1 (fun i hi => ?_)⟩
    rw [g1 i hi, hX0.1 1 (fun q => q)]
  have hT1 : TP9 s1 V.1 0 := ⟨⟨RL_frx a3 hX1 (fun q => by omega), a2, (g2.2 10 (fun q => q)).trans e10⟩, (g2.2 11 (fun q => q)).trans e11, Nat.zero_le _⟩
  have e121 : s1.1 12 = -1 := (g2.2 12 (fun q => q)).trans e12
  refine pq_call (r_here hT1) (fun y hy => ?_)
  obtain ⟨s2, rfl, hT2, hX2⟩ := hy
  have e122 : s2.1 12 = -1 := (hX2.2 12 (fun q => by omega)).trans e121
  have hM2 : RM9 s2 V.2.1 := RM_frx hM1 hX2 (fun q => q) (fun k _ _ q => q) ⟨fun q => by omega, fun q => by omega⟩
  have hO2 := OB_frx hO1 (kx_up hX2)
  have hb2 := hT2.2.2
  have fin : ∀ {y : Int32 × RS9}, AQ9 V (aTop V.1 V.2.1) 0 y → RAN (sActs V) wc_L_acts y := fun {y} hy => by
    unfold AQ9 at hy
    unfold sActs
    generalize aTop V.1 V.2.1 = g at hy ⊢
    obtain ⟨o, c1, n1, S1⟩ := g
    cases o with
    | none =>
      obtain ⟨k1, k2, k3⟩ := hy
      simp only [Nat.zero_add] at k1 k3
      exact ⟨k3, k1, k2⟩
    | some w =>
      obtain ⟨k1, k2⟩ := hy
      exact ⟨k2, k1⟩
  show PQ (if s2.1 10 ≤ nI (nB V.1 0) then mX9_acts_b47 (0 : Int32) (0 : Int32) (0 : Int32) s2 else mX9_acts_b47 (0 : Int32) (0 : Int32) (1 : Int32) s2) _
  rw [hT2.1.2.2]
  unfold mX9_acts_b47
  refine pq_le (nI_toInt (by omega)) (nI_toInt (by omega)) (fun q => ?_) (fun q => ?_)
  · have et : aTop V.1 V.2.1 = (none, 0, 0, V.2.1) := if_neg (by omega)
    have k0 : ∀ d, PQ (mX9_acts_l48 d 0 0 0 s2) (RAN (sActs V) wc_L_acts) := fun d => by
      cases d with
      | zero => exact pq_none
      | succ d =>
        unfold mX9_acts_l48
        refine pq_t rfl (pq_tail (r_good (n := 0) (v := 0) (z := (none, 0, 0, V.2.1)) (by omega) hO2 hM2 e122) (fun y hy => fin ?_))
        rw [et]
        exact hy
    exact k0 rFU
  · have et : aTop V.1 V.2.1 = aL V.1 14 (nB V.1 0) V.2.1 := if_pos (by omega)
    refine pq_tail (r_loopA (T := V.1) (V := V) rFU 14 0 (nB V.1 0) V.2.1 s2 (by omega) hM2 hS hT2 e122 hO2) (fun y hy => fin ?_)
    rw [et]
    rw [nB_id] at hy
    exact hy
end RAT
end
/-! part 65a.cqry -/
section
/-! the class's questions: what stays as it was -/
def SM {α : Type} (f : AH) (n : Nat) (y : α × HpN) : Prop := y.2 = (f, n)
section SMS
variable {α β γ : Type} {Q : β → Prop} {f : AH} {n : Nat}
theorem pq_sm {o : Option (α × HpN)} {k : α × HpN → Option β} (h1 : PQ o (SM f n)) (h : ∀ v, PQ (k (v, f, n)) Q) : PQ (o.bind k) Q := pq_call h1 (fun y hy => by
  obtain ⟨v, hn⟩ := y
  have hy : hn = (f, n) := hy
  subst hy
  exact h v)
theorem pq_ite {c : Prop} {d : Decidable c} {A B : Option β} (h1 : PQ A Q) (h2 : PQ B Q) : PQ (@ite _ c d A B) Q := by
  by_cases h : c
  · rw [if_pos h]; exact h1
  · rw [if_neg h]; exact h2
theorem pq_any {o : Option α} {k : α → Option β} (h : ∀ a, PQ (k a) Q) : PQ (o.bind k) Q := pq_bind (fun a _ => h a)
theorem pq_oNa {w : Option γ} {A : Option β} {k : γ → Option β} (h1 : PQ A Q) (h2 : ∀ a, PQ (k a) Q) : PQ (oN w A k) Q := by
  cases w with
  | none => exact h1
  | some a => exact h2 a
theorem pq_tSa {w : α ⊕ String} {hn : HpN} {k : α → Option ((β ⊕ String) × HpN)} {Q2 : (β ⊕ String) × HpN → Prop} (h1 : ∀ a, PQ (k a) Q2) (h2 : ∀ E, Q2 (.inr E, hn)) : PQ (tS w hn k) Q2 := by
  cases w with
  | inl a => exact h1 a
  | inr E => exact pq_ret (h2 E)
theorem sm_get5 {a : Nat} {v : Int32} : PQ (mX5_get a v f n) (SM f n) := by
  unfold mX5_get
  repeat' (first | exact pq_ret rfl | exact pq_none | refine pq_ck ?_ | refine pq_ite ?_ ?_ | refine pq_any (fun _ => ?_))
theorem sm_size5 {a : Nat} : PQ (mX5_size a f n) (SM f n) := by
  unfold mX5_size
  repeat' (first | exact pq_ret rfl | exact pq_none | refine pq_ck ?_ | refine pq_ite ?_ ?_ | refine pq_any (fun _ => ?_))
theorem sm_size1 {a : Nat} : PQ (mX1_size a f n) (SM f n) := by
  unfold mX1_size
  exact pq_any (fun _ => pq_ret rfl)
theorem sm_get1 {a : Nat} {v : Int32} : PQ (mX1_get a v f n) (SM f n) := by
  unfold mX1_get mX1_get_b30 mX1_get_b31
  repeat' (first | exact pq_ret rfl | exact pq_none | refine pq_ck ?_ | refine pq_ite ?_ ?_ | refine pq_any (fun _ => ?_))
theorem sm_toldFor {a : Nat} {v : Int32} : PQ (mX7_toldFor a v f n) (SM f n) := by
  unfold mX7_toldFor mX7_toldFor_b22 mX7_toldFor_b23
  repeat' (first | exact pq_ret rfl | exact pq_none | refine pq_ck ?_ | refine pq_ite ?_ ?_ | refine pq_any (fun _ => ?_))
theorem sm_mayB {a : Nat} {v : Int32} : PQ (mX3_mayBeginInBuilt a v f n) (SM f n) := by
  unfold mX3_mayBeginInBuilt mX3_mayBeginInBuilt_b32 mX3_mayBeginInBuilt_b28 mX3_mayBeginInBuilt_b33
  repeat' (first | exact pq_ret rfl | exact pq_none | refine pq_ck ?_ | refine pq_ite ?_ ?_ | refine pq_any (fun _ => ?_))
theorem sm_isSame {a : Nat} {v1 v3 v4 : Int32} {v2 : Option Nat} : PQ (mX5_isSame a v1 v2 v3 v4 f n) (SM f n) := by
  have key : ∀ (d : Nat) (v2 : Option Nat) (v5 : Int32), PQ (mX5_isSame_l3 d a v1 v2 v3 v4 v5 f n) (SM f n) := by
    intro d
    induction d with
    | zero => intro _ _; exact pq_none
    | succ d ih =>
      intro v2 v5
      unfold mX5_isSame_l3
      repeat' (first | exact pq_ret rfl | exact pq_none | exact ih _ _ | refine pq_ck ?_ | refine pq_ite ?_ ?_ | refine pq_sm sm_get5 (fun _ => ?_) | refine pq_any (fun _ => ?_))
  unfold mX5_isSame
  exact key rFU v2 0
theorem sm_isNow {a : Nat} {v1 : Int32} {v2 v3 : Option Nat} : PQ (mX8_isNow a v1 v2 v3 f n) (SM f n) := by
  unfold mX8_isNow mX8_isNow_b62 mX8_isNow_b63 mX8_isNow_b105 mX8_isNow_b106
  repeat' (first | exact pq_ret rfl | exact pq_none | refine pq_ck ?_ | refine pq_ite ?_ ?_ | refine pq_oNa ?_ (fun _ => ?_) | refine pq_sm sm_toldFor (fun _ => ?_) | refine pq_sm sm_size5 (fun _ => ?_) | refine pq_sm sm_isSame (fun _ => ?_) | refine pq_any (fun _ => ?_))
theorem sm_pot {a : Nat} {v : Int32} : PQ (mX8_pieceOrThrow a v f n) (SM f n) := by
  unfold mX8_pieceOrThrow
  repeat' (first | exact pq_ret rfl | exact pq_none | refine pq_ck ?_ | refine pq_ite ?_ ?_ | refine pq_oNa ?_ (fun _ => ?_) | refine pq_sm sm_get1 (fun _ => ?_) | refine pq_any (fun _ => ?_))
end SMS
end
/-! part 65b.cqry -/
section
/-! the class's questions: words, cut again -/
section CQY
variable {f : AH} {n : Nat} {V : SPV}
theorem sm_small {x : Int32} : PQ (mX8_smallLetter x f n) (SM f n) := pq_tail f_small (fun y hy => by rw [hy]; rfl)
theorem sm_hasSmall {a : Nat} {v1 : Int32} {v2 : Option Nat} : PQ (mX5_hasSmall a v1 v2 f n) (SM f n) := by
  have key : ∀ (d : Nat) (v2 : Option Nat) (v5 : Int32), PQ (mX5_hasSmall_l2 d a v1 v2 v5 f n) (SM f n) := by
    intro d
    induction d with
    | zero => intro _ _; exact pq_none
    | succ d ih =>
      intro v2 v5
      unfold mX5_hasSmall_l2
      repeat' (first | exact pq_ret rfl | exact pq_none | exact ih _ _ | refine pq_ck ?_ | refine pq_ite ?_ ?_ | refine pq_sm sm_get5 (fun _ => ?_) | refine pq_sm sm_size5 (fun _ => ?_) | refine pq_sm sm_small (fun _ => ?_) | refine pq_any (fun _ => ?_))
  unfold mX5_hasSmall
  exact key rFU v2 0
theorem sm_hasWord5 {a : Nat} {v1 v2 : Int32} {v3 : Option Nat} : PQ (mX5_hasWord a v1 v2 v3 f n) (SM f n) := by
  have key : ∀ (d : Nat) (v3 : Option Nat) (v5 : Int32), PQ (mX5_hasWord_l3 d a v1 v2 v3 v5 f n) (SM f n) := by
    intro d
    induction d with
    | zero => intro _ _; exact pq_none
    | succ d ih =>
      intro v3 v5
      unfold mX5_hasWord_l3
      repeat' (first | exact pq_ret rfl | exact pq_none | exact ih _ _ | refine pq_ck ?_ | refine pq_ite ?_ ?_ | refine pq_sm sm_hasSmall (fun _ => ?_) | refine pq_sm sm_size5 (fun _ => ?_) | refine pq_any (fun _ => ?_))
  unfold mX5_hasWord
  exact key rFU v3 v1
theorem sm_hasWord8 {a : Nat} {v1 : Int32} {v2 : Option Nat} : PQ (mX8_hasWord a v1 v2 f n) (SM f n) := by
  unfold mX8_hasWord mX8_hasWord_b64
  repeat' (first | exact pq_ret rfl | exact pq_none | refine pq_ck ?_ | refine pq_ite ?_ ?_ | refine pq_oNa ?_ (fun _ => ?_) | refine pq_sm sm_toldFor (fun _ => ?_) | refine pq_sm sm_size5 (fun _ => ?_) | refine pq_sm sm_hasWord5 (fun _ => ?_) | refine pq_sm sm_get1 (fun _ => ?_) | refine pq_any (fun _ => ?_))
theorem k_foundF (h : RC f n V) : PQ (mX8_found 0 f n) (fun y => RC y.2.1 y.2.2 (noT V)) := by
  unfold mX8_found
  refine pq_ck (pq_call (f_takeWord h) (fun y hy => ?_))
  obtain ⟨f1, n1, h1, hc⟩ := hy
  have key : ∀ (d : Nat) (w : Option Nat) (v2 : Int64) (v4 : Int32), PQ (mX8_found_l24 d 0 w v2 v4 f1 n1) (SM f1 n1) := by
    intro d
    induction d with
    | zero => intro _ _ _; exact pq_none
    | succ d ih =>
      intro w v2 v4
      unfold mX8_found_l24 mX8_found_b53
      repeat' (first | exact pq_ret rfl | exact pq_none | exact ih _ _ _ | refine pq_ck ?_ | refine pq_ite ?_ ?_ | refine pq_sm sm_size1 (fun _ => ?_) | refine pq_sm sm_hasWord8 (fun _ => ?_) | refine pq_any (fun _ => ?_))
  rcases hc with ⟨hw, j, rfl, r⟩ | ⟨hw, rfl⟩
  · refine pq_sb (pq_oNs (pq_tail (key rFU _ _ _) (fun y hy => ?_)))
    have hy : y.2 = (f1, n1) := hy
    rw [hy]; exact h1
  · exact pq_sb (pq_oNn (pq_ret h1))
theorem f_again (h : RC f n V) : PQ (mX8_cutAgain 0 f n) (fun y => ∃ f', y = (0, f', n) ∧ RC f' n V ∧ CUT f' 115 (pcs V.2.1.2.1 (bltS V.2.1))) := by
  obtain ⟨hn, ⟨ag, hp, hag⟩, hT, ⟨hK, hV⟩, ⟨h8, ⟨h13, hI⟩, hP, hC⟩, hR⟩ := id h
  unfold mX8_cutAgain mX8_cutAgain_b30
  refine pq_gI hp rfl (pq_eq (fun q => ?_) (fun q => pq_ret ⟨f, rfl, h, hag q⟩))
  obtain ⟨⟨fr, la, a1, a2, full, a3, a4⟩, a5, a6, a7, a8⟩ := id hK.1
  obtain ⟨qw, hb⟩ := hK.2.2.1.1
  refine pq_gR hp rfl (pq_gR hp rfl (pq_sb (pq_gR hb rfl (pq_gR hp rfl (pq_sb (pq_ck ?_))))))
  refine pq_call (f_find (cf := V.2.1.2.1) (c0 := 115) a7.1 a7.2.1 a1 (by omega) a7.2.2.2.1.2 (STT_lks hK.1 sid3 (Or.inr rfl)) hK.2.2.2.1 (by omega) (by omega) hC) (fun y hy => ?_)
  obtain ⟨f1, rfl, g1, g2⟩ := hy
  have hp1 : f1 0 = some (.inr (8, pfL (bI V.2.2.2.1.isSome) ag (nI V.2.2.1.length) V.2.2.2.2.1 V.2.2.2.2.2)) := (g2 0 (by omega)).trans hp
  refine pq_ck (pq_pO hp1 rfl (pq_ret ?_))
  have hp2 : va_up f1 0 (some (.inr (8, (pfL (bI V.2.2.2.1.isSome) ag (nI V.2.2.1.length) V.2.2.2.2.1 V.2.2.2.2.2).set 10 (.int 1)))) 0 = some (.inr (8, pfL (bI V.2.2.2.1.isSome) 1 (nI V.2.2.1.length) V.2.2.2.2.1 V.2.2.2.2.2)) := u_eq
  have hF2 : ∀ j, j ≠ 0 → va_up f1 0 (some (.inr (8, (pfL (bI V.2.2.2.1.isSome) ag (nI V.2.2.1.length) V.2.2.2.2.1 V.2.2.2.2.2).set 10 (.int 1)))) j = f1 j := fun j hj => u_ne hj
  generalize va_up f1 0 (some (.inr (8, (pfL (bI V.2.2.2.1.isSome) ag (nI V.2.2.1.length) V.2.2.2.2.1 V.2.2.2.2.2).set 10 (.int 1)))) = f2 at hp2 hF2 ⊢
  have hF : ∀ j, j ≠ 0 → (j < 115 ∨ 171 ≤ j) → f2 j = f j := fun j a b => (hF2 j a).trans (g2 j (by omega))
  have im : ∀ j, IMM n j → f2 j = f j := fun j hj => hF j (IMM_1 hj).1 (by have := IMM_1 hj; omega)
  have hC2 : CUT f2 115 (pcs V.2.1.2.1 (bltS V.2.1)) := CUT_tr g1 (fun i a b => hF2 i (by omega))
  refine ⟨f2, rfl, ⟨hn, ⟨1, hp2, fun _ => hC2⟩, rw_tr hT (hF _ (by omega) (by omega)) (hF _ (by omega) (by omega)), ⟨KO_tr hK (fun j hj => ?_) (Nat.le_refl _), hV⟩, ⟨SSh_tr h8 (hF _ (by omega) (by omega)) (hF _ (by omega) (by omega)) (hF _ (by omega) (by omega)), ⟨SSh_tr h13 (hF _ (by omega) (by omega)) (hF _ (by omega) (by omega)) (hF _ (by omega) (by omega)), fun Q hQ => ⟨STT_tr (hI Q hQ).1 (hF _ (by omega) (by omega)) (hF _ (by omega) (by omega)) (hF _ (by omega) (by omega)) im (Nat.le_refl _), (hI Q hQ).2⟩⟩, ?_, CUT_sh hC2⟩, ?_⟩, hC2⟩
  · rcases hj with q | q | q | q
    · exact hF j (by omega) (by omega)
    · exact hF j (by omega) (by omega)
    · exact hF j (by omega) (by omega)
    · exact im j q
  · obtain ⟨p1, g, p2, p3, p4⟩ := hP
    refine ⟨p1, g, (hF _ (by omega) (by omega)).trans p2, fun i hi => ?_, p4⟩
    obtain ⟨s, e1, e2, e3, e4, e5⟩ := p3 i hi
    have hs := SID_lt e2
    exact ⟨s, e1, e2, e3, SSh_tr e4 (hF _ (by omega) (by omega)) (hF _ (by omega) (by omega)) (hF _ (by omega) (by omega)), fun Q hQ => ⟨STT_tr (e5 Q hQ).1 (hF _ (by omega) (by omega)) (hF _ (by omega) (by omega)) (hF _ (by omega) (by omega)) im (Nat.le_refl _), (e5 Q hQ).2⟩⟩
  · show rdG (f2 178)
    rw [hF 178 (by omega) (by omega)]; exact hR
theorem k_twiceF (h : RC f n V) : PQ (mX8_twice 0 f n) (fun y => RC y.2.1 y.2.2 V) := by
  unfold mX8_twice
  refine pq_ck (pq_call (f_again h) (fun y hy => ?_))
  obtain ⟨f1, rfl, h1, -⟩ := hy
  have key : ∀ (d : Nat) (v1 : Int32), PQ (mX8_twice_l25 d 0 v1 f1 n) (SM f1 n) := by
    intro d
    induction d with
    | zero => intro _; exact pq_none
    | succ d ih =>
      intro v1
      unfold mX8_twice_l25 mX8_twice_b72
      repeat' (first | exact pq_ret rfl | exact pq_none | exact ih _ | refine pq_ck ?_ | refine pq_ite ?_ ?_ | refine pq_oNa ?_ (fun _ => ?_) | refine pq_sm sm_size1 (fun _ => ?_) | refine pq_sm sm_get1 (fun _ => ?_) | refine pq_sm sm_isNow (fun _ => ?_) | refine pq_any (fun _ => ?_))
  refine pq_tail (Q1 := SM f1 n) ?_ (fun y hy => by
    have hy : y.2 = (f1, n) := hy
    rw [hy]; exact h1)
  repeat' (first | exact pq_ret rfl | exact pq_none | exact key rFU 0 | refine pq_ck ?_ | refine pq_ite ?_ ?_ | refine pq_sm sm_size1 (fun _ => ?_) | refine pq_any (fun _ => ?_))
theorem k_keptF {v : Int32} (h : RC f n V) : PQ (mX8_kept 0 v f n) (fun y => RC y.2.1 y.2.2 V) := by
  unfold mX8_kept
  refine pq_ck (pq_sm sm_pot (fun w => pq_tSa (fun a => ?_) (fun E => h)))
  refine pq_sb (pq_ck (pq_call (f_again h) (fun y hy => ?_)))
  obtain ⟨f1, rfl, h1, -⟩ := hy
  have key : ∀ (d : Nat) (w : Option Nat) (v1 : Int32), PQ (mX8_kept_l12 d 0 v w v1 f1 n) (SM f1 n) := by
    intro d
    induction d with
    | zero => intro _ _; exact pq_none
    | succ d ih =>
      intro w v1
      unfold mX8_kept_l12 mX8_kept_b63
      repeat' (first | exact pq_ret rfl | exact pq_none | exact ih _ _ | refine pq_ck ?_ | refine pq_ite ?_ ?_ | refine pq_oNa ?_ (fun _ => ?_) | refine pq_sm sm_size1 (fun _ => ?_) | refine pq_sm sm_get1 (fun _ => ?_) | refine pq_sm sm_mayB (fun _ => ?_) | refine pq_sm sm_isNow (fun _ => ?_) | refine pq_any (fun _ => ?_))
  refine pq_tail (key rFU _ 0) (fun y hy => by
    have hy : y.2 = (f1, n) := hy
    rw [hy]; exact h1)
def sWould (V : SPV) (p : Int32) : ANS := if inP V.2.1 p then (if V.1.length ≤ 60 then (.inl (tdN (escFor V.2.1.2.1 (pOf V.2.1 p.toInt.toNat) V.1)), noT V) else (.inr eA, noT V)) else (.inr eI, noT V)
theorem k_would {p : Int32} (h : RC f n V) : PQ (mX8_would 0 p f n) (COK (sWould V p)) := by
  unfold mX8_would
  refine pq_ck (pq_call (f_takeTold h) (fun y hy => ?_))
  obtain ⟨f1, n1, h1, hc⟩ := hy
  obtain ⟨ag, hp⟩ := RC_p h1
  have hK := h1.2.2.2.1.1
  have hy2 : ∃ o, y = (o, f1, n1) := by
    rcases hc with ⟨-, j, e, -⟩ | ⟨-, e⟩
    · exact ⟨_, e⟩
    · exact ⟨_, e⟩
  obtain ⟨o, rfl⟩ := hy2
  refine pq_sb (pq_ck ?_)
  unfold mX8_pieceOrThrow
  by_cases hin : inP V.2.1 p
  · have es : sWould V p = if V.1.length ≤ 60 then (.inl (tdN (escFor V.2.1.2.1 (pOf V.2.1 p.toInt.toNat) V.1)), noT V) else (.inr eA, noT V) := if_pos hin
    rw [es]
    have hvN := tn_lt hin
    refine pq_call (Q1 := fun y => y = (.inl (some (75 + p.toInt.toNat)), f1, n1)) (pq_gR hp rfl (pq_sb (pq_ck (pq_is (f_cgetI hK.2.1.1.1 hin) (pq_sb (pq_oNs (pq_ret rfl))))))) (fun y hy => ?_)
    subst hy
    rw [tS_l (v := some (75 + p.toInt.toNat)) rfl]
    refine pq_sb ?_
    rcases hc with ⟨hw, j, e, r⟩ | ⟨hw, e⟩
    · have e : o = some j := congrArg Prod.fst e
      subst e
      rw [if_pos hw]
      refine pq_oNs (pq_gR hp rfl (pq_gR hp rfl (pq_sb (pq_ck (pq_call (f_escS (f := f1) (n := n1) hK hvN r hw) (fun y hy => ?_))))))
      obtain ⟨f2, rfl, hK2, hE, hF2⟩ := hy
      have h2 : RC f2 n1 (noT V) := by
        obtain ⟨hn, ⟨ag, hp, hag⟩, hT, ⟨-, hV⟩, hRS, hR⟩ := h1
        refine ⟨hn, ⟨ag, (hF2 0 (by omega)).trans hp, fun q => CUT_tr (hag q) (fun i a b => hF2 i (by omega))⟩, rw_tr hT (hF2 _ (by omega)) (hF2 _ (by omega)), ⟨hK2, hV⟩, RS_frb hRS (fun j a b c d e g i k l => hF2 j (by omega)) hn (Nat.le_refl _), ?_⟩
        show rdG (f2 178)
        rw [hF2 178 (by omega)]; exact hR
      obtain ⟨ag2, hp2⟩ := RC_p h2
      obtain ⟨qw, hb2⟩ := hK2.2.2.1.1
      unfold mX8_would_b55
      cases he : escFor V.2.1.2.1 (pOf V.2.1 p.toInt.toNat) V.1 with
      | none =>
        have he' : escFor (noT V).2.1.2.1 (pOf (noT V).2.1 p.toInt.toNat) V.1 = none := he
        show PQ (if bI (escFor (noT V).2.1.2.1 (pOf (noT V).2.1 p.toInt.toNat) V.1).isSome = 0 then _ else _) _
        rw [he']
        exact pq_t rfl (pq_ret ⟨f2, n1, rfl, h2⟩)
      | some E =>
        have he' : escFor (noT V).2.1.2.1 (pOf (noT V).2.1 p.toInt.toNat) V.1 = some E := he
        show PQ (if bI (escFor (noT V).2.1.2.1 (pOf (noT V).2.1 p.toInt.toNat) V.1).isSome = 0 then _ else _) _
        rw [he']
        refine pq_f (show ¬ (1 : Int32) = 0 by decide) (pq_gR hp2 rfl (pq_sb (pq_gR hb2 rfl (pq_sb (pq_ck (pq_is (f_size (hE E he')) (pq_ret ⟨f2, n1, rfl, h2⟩)))))))
    · have e : o = none := congrArg Prod.fst e
      subst e
      rw [if_neg (by omega)]
      exact pq_oNn (pq_ret ⟨f1, n1, rfl, h1⟩)
  · have es : sWould V p = (.inr eI, noT V) := if_neg hin
    rw [es]
    refine pq_call (Q1 := fun y => y = (.inr eI, f1, n1)) (pq_gR hp rfl (pq_sb (pq_ck (pq_is (f_cgetX hK.2.1.1.1 hin) (pq_sb (pq_oNn (pq_ret rfl))))))) (fun y hy => ?_)
    subst hy
    exact pq_ret ⟨f1, n1, rfl, h1⟩
end CQY
end
/-! part 65c.rqry -/
section
/-! the reference's questions: what stays as it was -/
def S9 (σ : RS9) {α : Type} (y : α × RS9) : Prop := y.2 = σ
abbrev FQ9 : Nat → Prop := fun k => k = 0 ∨ k = 56
def QF9 (σ : RS9) {α : Type} (y : α × RS9) : Prop := FRX R49 FQ9 σ y.2
section RQS
variable {σ : RS9} {V : SPV}
theorem pq_s9 {α β : Type} {Q : β → Prop} {o : Option (α × RS9)} {k : α × RS9 → Option β} (h1 : PQ o (S9 σ)) (h : ∀ v, PQ (k (v, σ)) Q) : PQ (o.bind k) Q := pq_call h1 (fun y hy => by
  obtain ⟨v, s⟩ := y
  have hy : s = σ := hy
  subst hy
  exact h v)
theorem s9_isIn {a b c : Int32} : PQ (mX9_isIn a b c σ) (S9 σ) := pq_tail r_isIn (fun y hy => by rw [hy]; rfl)
theorem s9_isLet {c : Int32} : PQ (mX9_isLetter c σ) (S9 σ) := pq_tail r_isLetter (fun y hy => by rw [hy]; rfl)
theorem s9_isPT {v : Int32} : PQ (mX9_isPieceThere v σ) (S9 σ) := by
  unfold mX9_isPieceThere
  exact pq_s9 s9_isIn (fun _ => pq_ck (pq_ret rfl))
theorem s9_toldOf {v : Int32} : PQ (mX9_toldOf v σ) (S9 σ) := by
  unfold mX9_toldOf
  exact pq_ck (pq_ret rfl)
theorem s9_toldAt {v k : Int32} : PQ (mX9_toldAt v k σ) (S9 σ) := by
  unfold mX9_toldAt
  exact pq_ck (pq_ret rfl)
theorem s9_nowMany {v : Int32} : PQ (mX9_nowMany v σ) (S9 σ) := by
  unfold mX9_nowMany mX9_nowMany_b23
  exact pq_s9 s9_toldOf (fun _ => pq_ite (pq_ck (pq_ret rfl)) (pq_s9 s9_toldOf (fun _ => pq_ret rfl)))
theorem s9_nowByte {v k : Int32} : PQ (mX9_nowByte v k σ) (S9 σ) := by
  unfold mX9_nowByte mX9_nowByte_b31
  exact pq_s9 s9_toldOf (fun _ => pq_ite (pq_ck (pq_ck (pq_ret rfl))) (pq_s9 s9_toldAt (fun _ => pq_ret rfl)))
theorem s9_areLike {a b : Int32} : PQ (mX9_areLike a b σ) (S9 σ) := by
  have key : ∀ (d : Nat) (x0 x1 : Int32), PQ (mX9_areLike_l24 d a b x0 x1 σ) (S9 σ) := by
    intro d
    induction d with
    | zero => intro _ _; exact pq_none
    | succ d ih =>
      intro x0 x1
      unfold mX9_areLike_l24 mX9_areLike_b82 mX9_areLike_b75
      exact pq_ck (pq_ite (pq_ck (pq_ret rfl)) (pq_ite (pq_ck (pq_ret rfl)) (pq_ck (pq_ck (pq_ck (pq_ck (pq_ite (ih _ _) (ih _ _))))))))
  unfold mX9_areLike mX9_areLike_b20
  exact pq_ck (pq_ck (pq_ite (key rFU 1 0) (key rFU 0 0)))
theorem s9_likeMany {a : Int32} : PQ (mX9_likeMany a σ) (S9 σ) := by
  have key : ∀ (d : Nat) (x0 x1 : Int32), PQ (mX9_likeMany_l4 d a x0 x1 σ) (S9 σ) := by
    intro d
    induction d with
    | zero => intro _ _; exact pq_none
    | succ d ih =>
      intro x0 x1
      unfold mX9_likeMany_l4 mX9_likeMany_b27
      exact pq_ite (pq_ret rfl) (pq_s9 s9_areLike (fun _ => pq_ite (ih _ _) (ih _ _)))
  unfold mX9_likeMany
  exact key rFU 0 0
theorem s9_wordsOf {a : Int32} : PQ (mX9_wordsOf a σ) (S9 σ) := by
  have key : ∀ (d : Nat) (x0 x1 : Int32), PQ (mX9_wordsOf_l4 d a x0 x1 σ) (S9 σ) := by
    intro d
    induction d with
    | zero => intro _ _; exact pq_none
    | succ d ih =>
      intro x0 x1
      unfold mX9_wordsOf_l4 mX9_wordsOf_b48 mX9_wordsOf_b44 mX9_wordsOf_b49
      exact pq_s9 s9_nowMany (fun _ => pq_ite (pq_ret rfl) (pq_s9 s9_nowByte (fun _ => pq_s9 s9_isLet (fun _ => pq_ite (ih _ _) (pq_ite (ih _ _) (pq_s9 s9_nowByte (fun _ => pq_s9 s9_isLet (fun _ => pq_ite (ih _ _) (ih _ _)))))))))
  unfold mX9_wordsOf
  exact key rFU 0 0
theorem s9_knownOf {a : Int32} : PQ (mX9_knownOf a σ) (S9 σ) := by
  have k47 : ∀ (rec2 : Int32 → Int32 → RS9 → Option (Int32 × RS9)), (∀ y, PQ (rec2 a y σ) (S9 σ)) → ∀ (d : Nat) (v2 v3 v4 v5 : Int32), PQ (mX9_knownOf_l47 rec2 d a v2 v3 v4 v5 σ) (S9 σ) := by
    intro rec2 hr d
    induction d with
    | zero => intro _ _ _ _; exact pq_none
    | succ d ih =>
      intro v2 v3 v4 v5
      unfold mX9_knownOf_l47 mX9_knownOf_b104 mX9_knownOf_b96
      exact pq_ck (pq_ite (pq_ite (hr _) (pq_ret rfl)) (pq_ite (pq_ite (hr _) (pq_ret rfl)) (pq_ck (pq_ck (pq_ck (pq_ite (ih _ _ _ _) (ih _ _ _ _)))))))
  have key : ∀ (d : Nat) (v2 : Int32), PQ (mX9_knownOf_l2 d a v2 σ) (S9 σ) := by
    intro d
    induction d with
    | zero => intro _; exact pq_none
    | succ d ih =>
      intro v2
      unfold mX9_knownOf_l2 mX9_knownOf_b42
      exact pq_ck (pq_ite (pq_ret rfl) (pq_ck (pq_ck (pq_ite (k47 (fun v1 v2 σ => mX9_knownOf_l2 d v1 v2 σ) ih rFU _ _ _ _) (k47 (fun v1 v2 σ => mX9_knownOf_l2 d v1 v2 σ) ih rFU _ _ _ _)))))
  unfold mX9_knownOf
  exact key rFU 0
theorem s9_skeleton : PQ (mX9_skeleton σ) (S9 σ) := by
  have key : ∀ (d : Nat) (x0 x1 : Int32), PQ (mX9_skeleton_l9 d x0 x1 σ) (S9 σ) := by
    intro d
    induction d with
    | zero => intro _ _; exact pq_none
    | succ d ih =>
      intro x0 x1
      unfold mX9_skeleton_l9
      exact pq_ite (pq_ret rfl) (pq_ck (pq_ck (ih _ _)))
  unfold mX9_skeleton
  exact pq_ck (key rFU _ 0)
theorem s9_unlike : PQ (mX9_unlikeTexts σ) (S9 σ) := by
  have k17 : ∀ (rec4 : Int32 → Int32 → RS9 → Option (Int32 × RS9)), (∀ x y, PQ (rec4 x y σ) (S9 σ)) → ∀ (d : Nat) (v1 v2 v3 v4 : Int32), PQ (mX9_unlikeTexts_l17 rec4 d v1 v2 v3 v4 σ) (S9 σ) := by
    intro rec4 hr d
    induction d with
    | zero => intro _ _ _ _; exact pq_none
    | succ d ih =>
      intro v1 v2 v3 v4
      unfold mX9_unlikeTexts_l17 mX9_unlikeTexts_b41 mX9_unlikeTexts_b42 mX9_unlikeTexts_b59
      exact pq_ite (pq_ite (hr _ _) (hr _ _)) (pq_ite (ih _ _ _ _) (pq_s9 s9_areLike (fun _ => pq_ite (ih _ _ _ _) (ih _ _ _ _))))
  have key : ∀ (d : Nat) (x0 x1 : Int32), PQ (mX9_unlikeTexts_l4 d x0 x1 σ) (S9 σ) := by
    intro d
    induction d with
    | zero => intro _ _; exact pq_none
    | succ d ih =>
      intro x0 x1
      unfold mX9_unlikeTexts_l4
      exact pq_ite (pq_ret rfl) (k17 (fun v1 v2 σ => mX9_unlikeTexts_l4 d v1 v2 σ) ih rFU _ _ _ _)
  unfold mX9_unlikeTexts
  exact key rFU 0 0
theorem s9_allWords : PQ (mX9_allWords σ) (S9 σ) := by
  have key : ∀ (d : Nat) (x0 x1 : Int32), PQ (mX9_allWords_l4 d x0 x1 σ) (S9 σ) := by
    intro d
    induction d with
    | zero => intro _ _; exact pq_none
    | succ d ih =>
      intro x0 x1
      unfold mX9_allWords_l4
      exact pq_ite (pq_ret rfl) (pq_s9 s9_wordsOf (fun _ => ih _ _))
  unfold mX9_allWords
  exact key rFU 0 0
theorem s9_longest : PQ (mX9_longest σ) (S9 σ) := by
  have key : ∀ (d : Nat) (x0 x1 : Int32), PQ (mX9_longest_l4 d x0 x1 σ) (S9 σ) := by
    intro d
    induction d with
    | zero => intro _ _; exact pq_none
    | succ d ih =>
      intro x0 x1
      unfold mX9_longest_l4 mX9_longest_b29
      exact pq_ite (pq_ret rfl) (pq_ck (pq_ite (ih _ _) (pq_ck (ih _ _))))
  unfold mX9_longest
  exact key rFU 0 0
theorem s9_toldMany : PQ (mX9_toldMany σ) (S9 σ) := by
  have key : ∀ (d : Nat) (x0 x1 : Int32), PQ (mX9_toldMany_l4 d x0 x1 σ) (S9 σ) := by
    intro d
    induction d with
    | zero => intro _ _; exact pq_none
    | succ d ih =>
      intro x0 x1
      unfold mX9_toldMany_l4 mX9_toldMany_b27
      exact pq_ite (pq_ret rfl) (pq_s9 s9_toldOf (fun _ => pq_ite (ih _ _) (ih _ _)))
  unfold mX9_toldMany
  exact key rFU 0 0
theorem s9_hasWord {a b : Int32} : PQ (mX9_hasWord a b σ) (S9 σ) := by
  have k19 : ∀ (rec2 : Int32 → Int32 → Int32 → RS9 → Option (Int32 × RS9)), (∀ z, PQ (rec2 a b z σ) (S9 σ)) → ∀ (d : Nat) (v3 v4 v5 : Int32), PQ (mX9_hasWord_l19 rec2 d a b v3 v4 v5 σ) (S9 σ) := by
    intro rec2 hr d
    induction d with
    | zero => intro _ _ _; exact pq_none
    | succ d ih =>
      intro v3 v4 v5
      unfold mX9_hasWord_l19 mX9_hasWord_b86 mX9_hasWord_b70 mX9_hasWord_b78
      exact pq_ite (pq_ite (hr _) (pq_ck (pq_ret rfl))) (pq_ite (pq_ite (hr _) (pq_ck (pq_ret rfl))) (pq_s9 s9_nowByte (fun _ => pq_ck (pq_s9 s9_isIn (fun _ => pq_ite (pq_ite (ih _ _ _) (ih _ _ _)) (pq_ite (ih _ _ _) (ih _ _ _)))))))
  have key : ∀ (d : Nat) (x0 : Int32), PQ (mX9_hasWord_l2 d a b x0 σ) (S9 σ) := by
    intro d
    induction d with
    | zero => intro _; exact pq_none
    | succ d ih =>
      intro x0
      unfold mX9_hasWord_l2
      exact pq_s9 s9_nowMany (fun _ => pq_ite (pq_ck (pq_ret rfl)) (k19 (fun v1 v2 v3 σ => mX9_hasWord_l2 d v1 v2 v3 σ) ih rFU _ _ _))
  unfold mX9_hasWord
  exact key rFU 0
theorem s9_isNow {a b : Int32} : PQ (mX9_isNow a b σ) (S9 σ) := by
  have key : ∀ (d : Nat) (x0 x1 : Int32), PQ (mX9_isNow_l33 d a b x0 x1 σ) (S9 σ) := by
    intro d
    induction d with
    | zero => intro _ _; exact pq_none
    | succ d ih =>
      intro x0 x1
      unfold mX9_isNow_l33 mX9_isNow_b91 mX9_isNow_b84
      exact pq_ck (pq_ite (pq_ck (pq_ret rfl)) (pq_ite (pq_ck (pq_ret rfl)) (pq_ck (pq_ck (pq_ck (pq_ck (pq_ite (ih _ _) (ih _ _))))))))
  unfold mX9_isNow mX9_isNow_b29
  exact pq_ck (pq_ck (pq_ck (pq_ite (key rFU 1 0) (key rFU 0 0))))
end RQS
end
/-! part 65d.rqry -/
section
/-! the reference's questions: what is held stays held -/
abbrev RA8 : Nat → Prop := fun k => 13 ≤ k
abbrev FA8 : Nat → Prop := fun k => k = 0 ∨ k = 16 ∨ 22 ≤ k
section RQR
variable {σ : RS9} {V : SPV}
theorem f0_9 {x : Int32} : FRX R49 FQ9 σ (rSf σ 0 x) := ⟨fun _ _ => rfl, fun k hk => sf_ne (fun q => hk (Or.inl q))⟩
theorem RR_q {α : Type} {y : α × RS9} (h : RR9 σ V) (hq : QF9 σ y) : RR9 y.2 V := RR_frx h hq (fun k hk q => by omega) (fun k hk q => by omega)
theorem q_builds (h : RR9 σ V) (hS : SV V.2.1) {Q : Int32 × RS9 → Prop} {k : Int32 × RS9 → Option (Int32 × RS9)} {x : Int32} (hk : ∀ v σ', FRX R49 FQ9 σ σ' → PQ (k (v, σ')) Q) : PQ ((mX9_builds (rSf σ 0 x)).bind k) Q := by
  have h0 := RR_f0 (x := x) h
  refine pq_call (r_builds (RM_BV h0.2.1) pcs_ord (by have := RR_4 h; omega) hS.1) (fun y hy => ?_)
  obtain ⟨σ', rfl, -, g⟩ := hy
  exact hk _ σ' (frx_tr f0_9 (frx_mono g (fun k hk => hk) (fun k hk => Or.inr hk)))
theorem q_piece {a b : Int32} (h : RR9 σ V) (hS : SV V.2.1) : PQ (mX9_piece a b σ) (QF9 σ) := by
  obtain ⟨h33, h40⟩ := RM_33 h.2.1
  have h0 := RR_f0 (x := 0) h
  unfold mX9_piece
  refine pq_isr (r_isPieceThere h33 h40) (if_01 (fun q => ?_) (fun q => ?_))
  · unfold mX9_piece_b28
    exact pq_f (show ¬ (1 : Int32) ≤ 0 by decide) (pq_ret f0_9)
  · have hin : inP V.2.1 a := of_decide_eq_true q
    obtain ⟨e1, e2⟩ := v_nI hin (by omega)
    generalize a.toInt.toNat = p at e1 e2
    subst e1
    refine pq_s9 s9_isIn (fun _ => pq_ite ?_ ?_)
    · unfold mX9_piece_b28
      exact pq_f (show ¬ (2 : Int32) ≤ 0 by decide) (pq_ret f0_9)
    · unfold mX9_piece_b28 mX9_piece_b133
      refine pq_t (show (0 : Int32) ≤ 0 by decide) ?_
      refine pq_ite (pq_ck (pq_ret f0_9)) (pq_ite (pq_ck (pq_ret f0_9)) (pq_ite (pq_ck (pq_ret f0_9)) (pq_ite (pq_s9 s9_nowMany (fun _ => pq_ret f0_9)) (pq_ite (pq_s9 s9_toldOf (fun _ => pq_ite (pq_ret f0_9) (pq_ret f0_9))) (pq_ite (pq_s9 s9_likeMany (fun _ => pq_ret f0_9)) (pq_ite (pq_s9 s9_wordsOf (fun _ => pq_ret f0_9)) (pq_ite (pq_s9 s9_knownOf (fun _ => pq_ret f0_9)) (pq_ite ?_ ?_))))))))
      · refine pq_call (r_builtOf (p := p) h0.2.1.1.2.1 h0.2.1.1.2.2.1 h0.2.1.2 pcs_ord (by have := RR_4 h; omega) hS.1 e2) (fun y hy => ?_)
        obtain ⟨σ', rfl, -, -, g⟩ := hy
        exact pq_ret (frx_tr f0_9 (frx_mono g (fun k hk => by omega) (fun k hk => Or.inr hk)))
      · unfold mX9_builtBegin
        refine pq_call (Q1 := fun y => FRX R49 FQ9 σ y.2) (q_builds h hS (fun v σ' g => pq_ck (pq_ret g))) (fun y hy => pq_ret (show FRX R49 FQ9 σ y.2 from hy))
theorem q_octet {a b c : Int32} : PQ (mX9_octet a b c σ) (QF9 σ) := by
  have b46 : ∀ s2 x : Int32, PQ (mX9_octet_b46 a b c b 0 s2 (rSf σ 0 x)) (QF9 σ) := fun s2 x => by
    unfold mX9_octet_b46 mX9_octet_b82
    exact pq_s9 s9_isIn (fun _ => pq_ite (pq_ret f0_9) (pq_ite (pq_ck (pq_ck (pq_ret f0_9))) (pq_s9 s9_nowByte (fun _ => pq_ret f0_9))))
  have b14 : ∀ s1 : Int32, PQ (mX9_octet_b14 a b c s1 σ) (QF9 σ) := fun s1 => by
    unfold mX9_octet_b14
    exact pq_ite (pq_ite (pq_ck (b46 _ _)) (pq_s9 s9_nowMany (fun _ => b46 _ _))) (pq_ret f0_9)
  unfold mX9_octet
  exact pq_s9 s9_isPT (fun _ => pq_ite (b14 _) (b14 _))
theorem q_origin {a b : Int32} : PQ (mX9_origin a b σ) (QF9 σ) := by
  have b14 : ∀ s1 : Int32, PQ (mX9_origin_b14 a b s1 σ) (QF9 σ) := fun s1 => by
    unfold mX9_origin_b14 mX9_origin_b59
    exact pq_ite (pq_ck (pq_s9 s9_isIn (fun _ => pq_ite (pq_ret f0_9) (pq_ck (pq_ck (pq_ret f0_9)))))) (pq_ret f0_9)
  unfold mX9_origin
  exact pq_s9 s9_isPT (fun _ => pq_ite (b14 _) (b14 _))
theorem q_key {a b : Int32} : PQ (mX9_key a b σ) (QF9 σ) := by
  have b27 : ∀ s1 : Int32, PQ (mX9_key_b27 a b s1 σ) (QF9 σ) := fun s1 => by
    unfold mX9_key_b27 mX9_key_b69
    exact pq_ite (pq_ck (pq_ite (pq_ite (pq_ck (pq_ret f0_9)) (pq_ck (pq_ret f0_9))) (pq_ret f0_9))) (pq_ret f0_9)
  unfold mX9_key
  exact pq_s9 s9_isPT (fun _ => pq_ite (b27 _) (pq_s9 s9_isIn (fun _ => pq_ite (b27 _) (b27 _))))
theorem q_holder {a : Int32} : PQ (mX9_holder a σ) (QF9 σ) := by
  have key : ∀ (d : Nat) (v2 : Int32), PQ (mX9_holder_l7 d a v2 (rSf σ 0 0)) (QF9 σ) := by
    intro d
    induction d with
    | zero => intro _; exact pq_none
    | succ d ih =>
      intro v2
      unfold mX9_holder_l7
      exact pq_ite (pq_ret f0_9) (pq_ck (pq_ck (pq_s9 s9_isIn (fun _ => pq_ite (ih _) (pq_ret f0_9)))))
  unfold mX9_holder
  exact key rFU 0
theorem q_at {a b : Int32} (h : RR9 σ V) (hS : SV V.2.1) : PQ (mX9_at a b σ) (QF9 σ) := by
  unfold mX9_at mX9_at_b38 mX9_at_b65
  refine pq_ite (pq_ck (pq_s9 s9_isIn (fun _ => pq_ite (pq_ret f0_9) (pq_ck (pq_ret f0_9))))) ?_
  refine q_builds h hS (fun v σ' g => pq_s9 s9_isIn (fun _ => pq_ite (pq_ret g) (pq_ck (pq_ret g))))
theorem q_like {a b : Int32} : PQ (mX9_like a b σ) (QF9 σ) := by
  have key : ∀ (x : Int32) (d : Nat) (v3 v4 : Int32), PQ (mX9_like_l31 d a b v3 v4 (rSf σ 0 x)) (QF9 σ) := by
    intro x d
    induction d with
    | zero => intro _ _; exact pq_none
    | succ d ih =>
      intro v3 v4
      unfold mX9_like_l31 mX9_like_b64
      exact pq_ite (pq_ret f0_9) (pq_s9 s9_areLike (fun _ => pq_ite (ih _ _) (pq_ite (pq_ret f0_9) (ih _ _))))
  have b14 : ∀ s1 : Int32, PQ (mX9_like_b14 a b s1 σ) (QF9 σ) := fun s1 => by
    unfold mX9_like_b14
    exact pq_ite (key s1 rFU 0 0) (pq_ret f0_9)
  unfold mX9_like
  exact pq_s9 s9_isPT (fun _ => pq_ite (b14 _) (b14 _))
theorem q_memory {a b c : Int32} : PQ (mX9_memory a b c σ) (QF9 σ) := by
  have b42 : ∀ s0 s1 : Int32, PQ (mX9_memory_b42 c s0 s1 (rSf σ 0 0)) (QF9 σ) := fun s0 s1 => by
    unfold mX9_memory_b42 mX9_memory_b77
    exact pq_ck (pq_s9 s9_isIn (fun _ => pq_ite (pq_ret f0_9) (pq_ck (pq_ret f0_9))))
  unfold mX9_memory
  exact pq_ck (pq_s9 s9_isIn (fun _ => pq_ite (pq_ret f0_9) (pq_ite (b42 _ _) (b42 _ _))))
theorem q_count {a : Int32} (h : RR9 σ V) (hS : SV V.2.1) : PQ (mX9_count a σ) (QF9 σ) := by
  have h0 := RR_f0 (x := 0) h
  unfold mX9_count
  refine pq_ite (pq_ck (pq_ret f0_9)) (pq_ite (pq_ck (pq_ret f0_9)) (pq_ite (pq_ck (pq_ret f0_9)) (pq_ite (pq_ret f0_9) (pq_ite (pq_s9 s9_toldMany (fun _ => pq_ret f0_9)) (pq_ite ?_ (pq_ite (pq_s9 s9_skeleton (fun _ => pq_ret f0_9)) (pq_ite (pq_ck (pq_ret f0_9)) (pq_ite (pq_ck (pq_ret f0_9)) (pq_ite (pq_ck (pq_ret f0_9)) (pq_ite (pq_s9 s9_unlike (fun _ => pq_ret f0_9)) (pq_ite (pq_s9 s9_allWords (fun _ => pq_ret f0_9)) (pq_ite (pq_ck (pq_ret f0_9)) (pq_ite (pq_s9 s9_longest (fun _ => pq_ret f0_9)) (pq_ite (pq_ret f0_9) (pq_ret f0_9)))))))))))))))
  refine pq_call (r_builtMany (RM_BV h0.2.1) pcs_ord (by have := RR_4 h; omega) hS.1) (fun y hy => ?_)
  obtain ⟨σ', rfl, -, g⟩ := hy
  exact pq_ret (frx_tr f0_9 (frx_mono g (fun k hk => by omega) (fun k hk => Or.inr hk)))
theorem r_would {a : Int32} (h : RR9 σ V) : PQ (mX9_would a σ) (RAN (sWould V a) wc_L_would) := by
  have h400 := h.1.2.1
  unfold mX9_would
  refine pq_call (r_tookTold h) (fun y hy => ?_)
  obtain ⟨σ1, rfl, h1, h53, -⟩ := hy
  obtain ⟨h33, h40⟩ := RM_33 h1.2.1
  unfold mX9_would_b29 mX9_would_b49
  refine pq_isr (r_isPieceThere (n := (pcF V.2.1).length) h33 h40) (if_01 (fun q => ?_) (fun q => ?_))
  · have es : sWould V a = (.inr eI, noT V) := if_neg (of_decide_eq_false q)
    rw [es]
    exact pq_f (show ¬ (1 : Int32) ≤ 0 by decide) (pq_ret ⟨RR_f0 h1, sf_eq⟩)
  · have hin : inP V.2.1 a := of_decide_eq_true q
    have es : sWould V a = if V.1.length ≤ 60 then (.inl (tdN (escFor V.2.1.2.1 (pOf V.2.1 a.toInt.toNat) V.1)), noT V) else (.inr eA, noT V) := if_pos hin
    rw [es]
    obtain ⟨e1, e2⟩ := v_nI hin (by have : (pcF V.2.1).length ≤ 40 := h40; omega)
    generalize a.toInt.toNat = p at e1 e2 ⊢
    subst e1
    refine pq_le (nI_toInt (by omega)) kt_60 (fun q1 => ?_) (fun q1 => ?_)
    · rw [if_pos (show V.1.length ≤ 60 by omega)]
      have h2 := RR_f0 (x := 0) h1
      have h53' : RLs (rSf σ1 0 0) 53 V.1 := h53 (by omega)
      refine pq_t (show (0 : Int32) ≤ 0 by decide) (pq_call (r_escFor (p := p) h2.2.1.1.2.1 h2.2.1.2 e2 h53' (by omega)) (fun y hy => ?_))
      obtain ⟨σ2, rfl, -, g⟩ := hy
      exact pq_ret ⟨RR_frx h2 g (fun k hk q => by omega) (fun k hk q => by omega), rfl, (g.2 0 (fun q => by omega)).trans sf_eq⟩
    · rw [if_neg (show ¬ V.1.length ≤ 60 by omega)]
      exact pq_f (show ¬ (2 : Int32) ≤ 0 by decide) (pq_ret ⟨RR_f0 h1, sf_eq⟩)
theorem r_foundF (h : RR9 σ V) : PQ (mX9_found σ) (fun y => RR9 y.2 (noT V)) := by
  have h1 := RR_tape0 h
  unfold mX9_found
  refine pq_isr (r_took h) (pq_isr (r_isWord (T := V.1) h.1.2.2 h.1.2.1) ?_)
  have key : ∀ (x : Int32) (d : Nat) (v1 : Int32) (v2 : Int64) (v4 : Int32), PQ (mX9_found_l36 d v1 v2 v4 (rSf (rSf σ 9 0) 0 x)) (S9 (rSf (rSf σ 9 0) 0 x)) := by
    intro x d
    induction d with
    | zero => intro _ _ _; exact pq_none
    | succ d ih =>
      intro v1 v2 v4
      unfold mX9_found_l36 mX9_found_b64
      exact pq_ite (pq_ret rfl) (pq_s9 s9_hasWord (fun _ => pq_ite (ih _ _ _) (ih _ _ _)))
  have b19 : ∀ v1 s1 : Int32, PQ (mX9_found_b19 v1 s1 (rSf σ 9 0)) (fun y => RR9 y.2 (noT V)) := fun v1 s1 => by
    unfold mX9_found_b19
    refine pq_ite (pq_tail (key s1 rFU _ _ _) (fun y hy => ?_)) (pq_ret (RR_f0 h1))
    have hy : y.2 = rSf (rSf σ 9 0) 0 s1 := hy
    rw [hy]; exact RR_f0 h1
  exact pq_ite (b19 _ _) (b19 _ _)
theorem RR_recut {σ1 : RS9} (h : RR9 σ V) (hX : FRX RA8 FA8 σ σ1) : PQ (mX9_cutsFile σ1) (fun y => RR9 y.2 V) := by
  obtain ⟨⟨a1, a2, a3⟩, b, c, d, e, f⟩ := h
  have e1 : σ1.2 1 = σ.2 1 := hX.1 1 (fun q => by omega)
  refine pq_tail (r_reread (S := V.2.1) (σ1 := σ1) (by rw [e1]; exact b.1)) (fun y hy => ?_)
  obtain ⟨σ2, rfl, g1, g2⟩ := hy
  have hXX : FRX RA8 FA8 σ σ2 := frx_tr hX (frx_mono g2 (fun k hk => by omega) (fun k hk => by omega))
  exact ⟨⟨(hXX.2 9 (fun q => by omega)).trans a1, a2, RL_frx a3 hXX (fun q => by omega)⟩, g1, PA_frx c hXX (fun q => by omega) (fun q => by omega), IM_frx d hXX (fun q => by omega) (fun q => by omega), (hXX.2 7 (fun q => by omega)).trans e, (hXX.2 12 (fun q => by omega)).trans f⟩
theorem r_cutsBuiltF (h : RR9 σ V) (hS : SV V.2.1) : PQ (mX9_cutsBuilt σ) (fun y => FRX RA8 FA8 σ y.2) := by
  have hbl : (bltS V.2.1).length ≤ 600 := hS.2.1
  unfold mX9_cutsBuilt
  refine pq_call (r_builds (RM_BV h.2.1) pcs_ord (by have := RR_4 h; omega) hS.1) (fun y hy => ?_)
  obtain ⟨σ1, rfl, hU, hF⟩ := hy
  have h49 : RLs σ1 49 (bltS V.2.1) := hU.1
  show PQ (mX9_cutsBuilt_l20 rFU (nI (bltS V.2.1).length) (σ1.1 33) (0 : Int32) (0 : Int32) (rSf σ1 59 (σ1.1 33))) _
  have hF1 : FRX RA8 FA8 σ (rSf σ1 59 (σ1.1 33)) := ⟨fun k hk => hF.1 k (fun q => hk (by omega)), fun k hk => (sf_ne (fun q => hk (by omega))).trans (hF.2 k (fun q => hk (by omega)))⟩
  have h49' : RLs (rSf σ1 59 (σ1.1 33)) 49 (bltS V.2.1) := h49
  generalize rSf σ1 59 (σ1.1 33) = s0 at hF1 h49' ⊢
  -- the row is read over
  have k99 : ∀ (d i : Nat) (s : RS9), i ≤ (bltS V.2.1).length → FRX RA8 FA8 σ s → s.1 16 = nI (bltS V.2.1).length → RLs s 49 (bltS V.2.1) → RLs s 13 ((bltS V.2.1).take i) → PQ (mX9_cutsBuilt_l99 d (nI (bltS V.2.1).length) (nI i) s) (fun y => FRX RA8 FA8 σ y.2) := by
    intro d
    induction d with
    | zero => intro i s _ _ _ _ _; exact pq_none
    | succ d ih =>
      intro i s hi hX h16 k49 k13
      unfold mX9_cutsBuilt_l99
      refine pq_le (nI_toInt (by omega)) (nI_toInt (by omega)) (fun q => ?_) (fun q => ?_)
      · have e : i = (bltS V.2.1).length := by omega
        rw [e, List.take_length] at k13
        refine pq_call (r_cutsAll (cf := V.2.1.2.1) (by rw [hX.1 1 (fun q => by omega)]; exact h.2.1.1.2.1) k13 h16 hbl) (fun y hy => ?_)
        obtain ⟨s2, rfl, -, g⟩ := hy
        exact pq_ret (frx_tr hX (frx_mono g (fun k hk => by omega) (fun k hk => by omega)))
      · have hi' : i < (bltS V.2.1).length := by omega
        rw [rd_nI (by omega), k49 i hi', nI_1]
        have fr : FRX (fun k => k = 13) NF9 s (rSa s 13 (nI i) ((bltS V.2.1).getD i 0)) := ⟨fun k hk => sa_ne hk, fun k hk => rfl⟩
        exact pq_ck (pq_ck (ih (i + 1) _ (by omega) (frx_tr hX (frx_mono fr (fun k hk => by omega) (fun k hk => absurd hk id))) h16 (RL_frx k49 fr (fun q => by omega)) (RL_53 k13 hi' rfl (by omega))))
  have k37 : ∀ (rec20 : Int32 → Int32 → Int32 → Int32 → RS9 → Option (Int32 × RS9)) (v1 v2 : Int32), (∀ (v3 v4 : Int32) (s : RS9), FRX (fun k => k = 50 ∨ k = 51) NF9 s0 s → PQ (rec20 v1 v2 v3 v4 s) (fun y => FRX RA8 FA8 σ y.2)) → ∀ (d : Nat) (v3 v4 v5 : Int32) (s : RS9), FRX (fun k => k = 50 ∨ k = 51) NF9 s0 s → PQ (mX9_cutsBuilt_l37 rec20 d v1 v2 v3 v4 v5 s) (fun y => FRX RA8 FA8 σ y.2) := by
    intro rec20 v1 v2 hr d
    induction d with
    | zero => intro _ _ _ _ _; exact pq_none
    | succ d ih =>
      intro v3 v4 v5 s hX
      unfold mX9_cutsBuilt_l37 mX9_cutsBuilt_b78
      exact pq_s9 s9_nowMany (fun _ => pq_ite (hr _ _ _ hX) (pq_ite (hr _ _ _ hX) (pq_s9 s9_nowByte (fun _ => pq_ck (ih _ _ _ _ (frx_tr hX ⟨fun k hk => sa_ne (fun q => hk (Or.inl q)), fun k hk => rfl⟩))))))
  have k20 : ∀ (d : Nat) (v2 v3 v4 : Int32) (s : RS9), FRX (fun k => k = 50 ∨ k = 51) NF9 s0 s → PQ (mX9_cutsBuilt_l20 d (nI (bltS V.2.1).length) v2 v3 v4 s) (fun y => FRX RA8 FA8 σ y.2) := by
    intro d
    induction d with
    | zero => intro _ _ _ _ _; exact pq_none
    | succ d ih =>
      intro v2 v3 v4 s hX
      have fr : ∀ x : Int32, FRX (fun k => k = 50 ∨ k = 51) NF9 s (rSa s 51 x v3) := fun x => ⟨fun k hk => sa_ne (fun q => hk (Or.inr q)), fun k hk => rfl⟩
      unfold mX9_cutsBuilt_l20
      refine pq_ite (pq_ck ?_) (pq_ck (k37 (fun v1 v2 v3 v4 σ => mX9_cutsBuilt_l20 d v1 v2 v3 v4 σ) _ _ (fun v3 v4 s2 g => ih _ _ _ _ g) rFU _ _ _ _ (frx_tr hX (fr _))))
      have hX2 := frx_tr hX (fr v2)
      have fr2 : FRX NO9 (fun k => k = 16) (rSa s 51 v2 v3) (rSf (rSa s 51 v2 v3) 16 (nI (bltS V.2.1).length)) := ⟨fun _ _ => rfl, fun k hk => sf_ne hk⟩
      exact k99 rFU 0 _ (Nat.zero_le _) (frx_tr hF1 (frx_tr (frx_mono hX2 (fun k hk => by omega) (fun k hk => absurd hk id)) (frx_mono fr2 (fun k hk => absurd hk id) (fun k hk => by omega)))) sf_eq (RL_frx (RL_frx h49' hX2 (fun q => by omega)) fr2 (fun q => q)) (fun i hi => absurd hi (by rw [List.take_zero]; exact Nat.not_lt_zero _))
  exact k20 rFU _ _ _ s0 frx_rfl
theorem r_twiceF (h : RR9 σ V) (hS : SV V.2.1) : PQ (mX9_twice σ) (fun y => RR9 y.2 V) := by
  have h0 := RR_f0 (x := 0) h
  unfold mX9_twice
  refine pq_call (r_cutsBuiltF h0 hS) (fun y hX => ?_)
  obtain ⟨v, σ1⟩ := y
  have hX : FRX RA8 FA8 (rSf σ 0 0) σ1 := hX
  have b53 : ∀ v1 : Int32, PQ (mX9_twice_b53 v1 σ1) (fun y => RR9 y.2 V) := fun v1 => by
    unfold mX9_twice_b53
    exact pq_call (RR_recut h0 hX) (fun y hy => pq_ck (pq_ret hy))
  have key : ∀ (d : Nat) (v1 v2 : Int32), PQ (mX9_twice_l28 d v1 v2 σ1) (fun y => RR9 y.2 V) := by
    intro d
    induction d with
    | zero => intro _ _; exact pq_none
    | succ d ih =>
      intro v1 v2
      unfold mX9_twice_l28
      exact pq_ite (b53 _) (pq_ite (b53 _) (pq_s9 s9_isNow (fun _ => ih _ _)))
  unfold mX9_twice_b25
  exact pq_ite (key rFU _ _) (key rFU _ _)
theorem r_keptF {a : Int32} (h : RR9 σ V) (hS : SV V.2.1) : PQ (mX9_kept a σ) (fun y => RR9 y.2 V) := by
  have b14 : ∀ s1 : Int32, PQ (mX9_kept_b14 a s1 σ) (fun y => RR9 y.2 V) := fun s1 => by
    have h0 := RR_f0 (x := s1) h
    unfold mX9_kept_b14
    refine pq_ite ?_ (pq_ck (pq_ret h0))
    refine pq_call (r_cutsBuiltF h0 hS) (fun y hX => ?_)
    obtain ⟨v, σ1⟩ := y
    have hX : FRX RA8 FA8 (rSf σ 0 s1) σ1 := hX
    have key : ∀ (d : Nat) (v2 v3 v4 : Int32), PQ (mX9_kept_l66 d a v2 v3 v4 σ1) (fun y => RR9 y.2 V) := by
      intro d
      induction d with
      | zero => intro _ _ _; exact pq_none
      | succ d ih =>
        intro v2 v3 v4
        unfold mX9_kept_l66 mX9_kept_b117 mX9_kept_b131 mX9_kept_b127 mX9_kept_b132
        have e117 := pq_s9 (Q := fun y => RR9 y.2 V) (s9_isNow (σ := σ1) (a := v4) (b := a)) (k := fun r1 => if r1.1 = (0 : Int32) then mX9_kept_l66 d a v2 0 (v4 + 1) r1.2 else mX9_kept_l66 d a v2 1 (v4 + 1) r1.2) (fun _ => pq_ite (ih _ _ _) (ih _ _ _))
        exact pq_ite (pq_call (RR_recut h0 hX) (fun y hy => pq_ck (pq_ret hy))) (pq_ite (pq_ck (pq_ck (pq_ite e117 (pq_ite (ih _ _ _) (pq_ck (pq_ck (pq_ite e117 (ih _ _ _)))))))) (ih _ _ _))
    unfold mX9_kept_b59 mX9_kept_b60
    exact pq_s9 s9_toldOf (fun _ => pq_ite (key rFU _ _ _) (pq_ck (pq_ck (pq_ite (key rFU _ _ _) (key rFU _ _ _)))))
  unfold mX9_kept
  exact pq_s9 s9_isPT (fun _ => pq_ite (b14 _) (b14 _))
end RQR
end
/-! part 65e.glue -/
section
/-! between two calls of the law -/
def INV (F : AH) (n : Nat) (σ : RS9) : Prop := ∃ G : TE, WT G F (σ.1 9) F n ∧ RI σ ∧ F = rHm F σ ∧ ∃ g0, F 223 = oCell g0
theorem g_ix {i k : Nat} (h : rIx i = some k) : 182 ≤ i ∧ i ≤ 222 := by
  unfold rIx at h
  split at h <;> first | omega | cases h
theorem hm_off {f : AH} {σ : RS9} {i : Nat} (h : i < 181 ∨ 222 < i) : rHm f σ i = f i := by
  unfold rHm
  rw [if_neg (by omega)]
  cases e : rIx i with
  | none => rfl
  | some k =>
    have := g_ix e
    omega
theorem hm_eq {f f' : AH} {σ : RS9} (h : ∀ i, 181 ≤ i → i ≤ 222 → f' i = f i) (e : f = rHm f σ) : f' = rHm f' σ := by
  funext i
  by_cases hi : i < 181 ∨ 222 < i
  · exact (hm_off hi).symm
  · rw [h i (by omega) (by omega), congrFun e i]
    unfold rHm
    by_cases h1 : i = 181
    · rw [if_pos h1, if_pos h1]
    · rw [if_neg h1, if_neg h1]
      cases e2 : rIx i with
      | some k => rfl
      | none =>
        show f i = f' i
        exact (h i (by omega) (by omega)).symm
theorem hm_id (f : AH) (σ : RS9) : rHm f σ = rHm (rHm f σ) σ := by
  funext i
  by_cases hi : i < 181 ∨ 222 < i
  · exact (hm_off hi).symm
  · unfold rHm
    by_cases h1 : i = 181
    · rw [if_pos h1, if_pos h1]
    · rw [if_neg h1, if_neg h1]
      cases e2 : rIx i <;> rfl
theorem wt_tr {G : TE} {F f F2 : AH} {S : Int32} {n n' : Nat} (hW : WT G F S f n) (hn : n ≤ n') (h : ∀ i, i < 181 ∨ 223 < i → F2 i = f i) : WT G F2 S F2 n' := by
  refine ⟨fun j => ?_, fun j hj => Nat.lt_of_lt_of_le (hW.2.1 j hj) hn, fun j a b => ⟨(hW.2.2.1 j a b).1, rfl⟩, Nat.le_trans hW.2.2.2.1 hn, hW.2.2.2.2⟩
  by_cases hj : G.1 j = 99
  · exact ⟨fun q => by omega, fun q => by omega, fun q => by omega, fun q => by omega⟩
  · have hr : j < 181 ∨ 223 < j := by
      by_cases hh : j < 181 ∨ 223 < j
      · exact hh
      · exact absurd (hW.2.2.1 j (by omega) (by omega)).1 hj
    have e := h j hr
    have h2 := hW.1 j
    unfold okC at h2 ⊢
    rw [e]; exact h2
theorem up_ne {f : AH} {i j : Nat} {v : Option AE} (h : i ≠ j) : va_up f j v i = f i := if_neg h
theorem gk {G' : TE} {F f' : AH} {n n' : Nat} {S' : Int32} {σ σ' : RS9} (hI : INV F n σ) (hW : WT G' F S' f' n') (hR : RI σ') (hS : σ'.1 9 = S') : (∃ g0, f' 223 = oCell g0) ∧ f' = rHm f' σ ∧ INV (rHm f' σ') n' σ' ∧ ∀ g : Nat → Int64, va_up f' 223 (oCell g) = rHm (va_up f' 223 (oCell g)) σ ∧ ∀ n2, n' ≤ n2 → INV (rHm (va_up f' 223 (oCell g)) σ') n2 σ' := by
  obtain ⟨G, -, -, e, g0, hg⟩ := hI
  have fr : ∀ i, 181 ≤ i → i ≤ 223 → f' i = F i := fun i a b => (hW.2.2.1 i a b).2
  have h1 : f' = rHm f' σ := hm_eq (fun i a b => fr i a (by omega)) e
  have h223 : f' 223 = oCell g0 := (fr 223 (by omega) (by omega)).trans hg
  subst hS
  refine ⟨⟨g0, h223⟩, h1, ⟨G', wt_tr hW (Nat.le_refl _) (fun i hi => hm_off (by omega)), hR, hm_id _ _, g0, (hm_off (by omega)).trans h223⟩, fun g => ⟨hm_eq (fun i a b => up_ne (by omega)) h1, fun n2 hn => ⟨G', wt_tr hW hn (fun i hi => (hm_off (by omega)).trans (up_ne (by omega))), hR, hm_id _ _, g, (hm_off (by omega)).trans (if_pos rfl)⟩⟩⟩
theorem op_p {α β : Type} {F : AH} {n : Nat} {σ : RS9} {S' : Int32} (hI : INV F n σ) {o : Option (α × HpN)} {o' : Option (β × RS9)} (hc : PO o (fun v f' n' => ∃ G', WT G' F S' f' n')) (hr : P1 o' (RP S')) : ∃ r r', o = some r ∧ o' = some r' ∧ r.2.1 = rHm r.2.1 σ ∧ INV (rHm r.2.1 r'.2) r.2.2 r'.2 := by
  obtain ⟨v, f', n', e, G', hW⟩ := hc
  obtain ⟨w, σ', e', hR, h9⟩ := hr
  have k := gk hI hW hR h9
  exact ⟨_, _, e, e', k.2.1, k.2.2.1⟩
theorem op_t {α β : Type} {F : AH} {n : Nat} {σ : RS9} {S' : Int32} {xs : String → Prop} (hI : INV F n σ) {o : Option ((α ⊕ String) × HpN)} {o' : Option (β × RS9)} (hc : PO o (fun v f' n' => ∃ G', WT G' F S' f' n' ∧ ∀ E : String, v = .inr E → xs E)) (hr : P1 o' (RP S')) : ∃ r r' g0, o = some r ∧ (∀ E : String, r.1 = .inr E → xs E) ∧ r.2.1 223 = oCell g0 ∧ o' = some r' ∧ ∀ g : Nat → Int64, va_up r.2.1 223 (oCell g) = rHm (va_up r.2.1 223 (oCell g)) σ ∧ ∀ n', r.2.2 ≤ n' → INV (rHm (va_up r.2.1 223 (oCell g)) r'.2) n' r'.2 := by
  obtain ⟨v, f', n', e, G', hW, hE⟩ := hc
  obtain ⟨w, σ', e', hR, h9⟩ := hr
  have k := gk hI hW hR h9
  obtain ⟨g0, hg⟩ := k.1
  exact ⟨_, _, g0, e, hE, hg, e', k.2.2.2⟩
theorem po_wk {α : Type} {o : Option (α × HpN)} {Q Q' : α → AH → Nat → Prop} (h : PO o Q) (hq : ∀ v f n, Q v f n → Q' v f n) : PO o Q' := by
  obtain ⟨v, f, n, e, q⟩ := h
  exact ⟨v, f, n, e, hq v f n q⟩
theorem inv_x : HXp INV := fun F n σ h => by
  obtain ⟨G, hW, -, e, -⟩ := h
  obtain ⟨fs, hf, -⟩ := wt_ob hW hW.2.2.2.2.1 (by omega) (by omega)
  exact ⟨⟨fs, hf⟩, e⟩
theorem oo_0 : ∀ (F : AH) (n : Nat) (σ : RS9) (a1 a2 a3 a4 a5 : Int32), INV F n σ → ∃ r r', mX8_feed 0 a1 a2 a3 a4 a5 F n = some r ∧ mX9_feed a1 a2 a3 a4 a5 σ = some r' ∧ r.2.1 = rHm r.2.1 σ ∧ INV (rHm r.2.1 r'.2) r.2.2 r'.2 := fun F n σ a1 a2 a3 a4 a5 hI => by
  obtain ⟨G, hW, hR, -⟩ := id hI
  have h0 := hW.2.2.2.2.1
  obtain ⟨v, f', n', e, rfl, S', hW', hv⟩ := tX8_feed (v1 := a1) (v2 := a2) (v3 := a3) (v4 := a4) (v5 := a5) hW h0
  obtain ⟨w, σ', e', hR', hw⟩ := ur_feed hR (a := a1) (b := a2) (c := a3) (d := a4) (e := a5)
  have hS : σ'.1 9 = S' ∧ v = w := by
    rcases hv with ⟨p1, p2, p3⟩ | ⟨p1, p2, p3⟩
    · rcases hw with ⟨q1, q2, q3⟩ | ⟨q1, q2, q3⟩
      · have e9 : σ'.1 9 = S' := Int32.toInt_inj.mp (by omega)
        exact ⟨e9, by rw [p3, q3, e9]⟩
      · omega
    · rcases hw with ⟨q1, q2, q3⟩ | ⟨q1, q2, q3⟩
      · omega
      · exact ⟨q2.trans p2.symm, p3.trans q3.symm⟩
  have k := gk hI hW' hR' hS.1
  exact ⟨_, _, e, e', k.2.1, k.2.2.1⟩
theorem oo_1 : ∀ (F : AH) (n : Nat) (σ : RS9) (a1 : Int32), INV F n σ → ∃ r r', mX8_end 0 a1 F n = some r ∧ mX9_end a1 σ = some r' ∧ r.2.1 = rHm r.2.1 σ ∧ INV (rHm r.2.1 r'.2) r.2.2 r'.2 := fun F n σ a1 hI => by
  obtain ⟨G, hW, hR, -⟩ := id hI
  have h0 := hW.2.2.2.2.1
  obtain ⟨v, f', n', e, rfl, S', hW', hv⟩ := tX8_end (v1 := a1) hW h0
  obtain ⟨w, σ', e', hR', hw⟩ := ur_end hR (a := a1)
  have hS : σ'.1 9 = S' ∧ v = w := by
    rcases hv with ⟨p1, p2, p3, p4⟩ | ⟨p1, p2, p3⟩
    · rcases hw with ⟨q1, q2, q3, q4⟩ | ⟨q1, q2, q3⟩
      · exact ⟨q3.trans p3.symm, p4.trans q4.symm⟩
      · omega
    · rcases hw with ⟨q1, q2, q3, q4⟩ | ⟨q1, q2, q3⟩
      · omega
      · exact ⟨q2.trans p2.symm, p3.trans q3.symm⟩
  have k := gk hI hW' hR' hS.1
  exact ⟨_, _, e, e', k.2.1, k.2.2.1⟩
theorem oo_2 : ∀ (F : AH) (n : Nat) (σ : RS9), INV F n σ → ∃ r r' g0, mX8_acts 0 F n = some r ∧ (∀ E : String, r.1 = .inr E → E = eA) ∧ r.2.1 223 = oCell g0 ∧ mX9_acts σ = some r' ∧ ∀ g : Nat → Int64, va_up r.2.1 223 (oCell g) = rHm (va_up r.2.1 223 (oCell g)) σ ∧ ∀ n', r.2.2 ≤ n' → INV (rHm (va_up r.2.1 223 (oCell g)) r'.2) n' r'.2 := fun F n σ hI => by
  obtain ⟨G, hW, hR, -⟩ := id hI
  have h0 := hW.2.2.2.2.1
  exact op_t (S' := 0) hI (po_wk (tX8_acts hW h0) (fun v f n hq => by obtain ⟨G2, -, h1, h2, -⟩ := hq; exact ⟨G2, h1, h2⟩)) (ur_acts hR)
theorem oo_3 : ∀ (F : AH) (n : Nat) (σ : RS9), INV F n σ → ∃ r r', mX8_fault 0 F n = some r ∧ mX9_fault σ = some r' ∧ r.2.1 = rHm r.2.1 σ ∧ INV (rHm r.2.1 r'.2) r.2.2 r'.2 := fun F n σ hI => by
  obtain ⟨G, hW, hR, -⟩ := id hI
  have h0 := hW.2.2.2.2.1
  exact op_p (S' := σ.1 9) hI (po_wk (tX8_fault hW h0) (fun v f n hq => ⟨G, by rw [hq.1, hq.2.1]; exact hW⟩)) (ur_fault hR)
theorem oo_4 : ∀ (F : AH) (n : Nat) (σ : RS9), INV F n σ → ∃ r r', mX8_why 0 F n = some r ∧ mX9_why σ = some r' ∧ r.2.1 = rHm r.2.1 σ ∧ INV (rHm r.2.1 r'.2) r.2.2 r'.2 := fun F n σ hI => by
  obtain ⟨G, hW, hR, -⟩ := id hI
  have h0 := hW.2.2.2.2.1
  exact op_p (S' := σ.1 9) hI (po_wk (tX8_why hW h0) (fun v f n hq => ⟨G, by rw [hq.1, hq.2.1]; exact hW⟩)) (ur_why hR)
theorem oo_5 : ∀ (F : AH) (n : Nat) (σ : RS9), INV F n σ → ∃ r r', mX8_file 0 F n = some r ∧ mX9_file σ = some r' ∧ r.2.1 = rHm r.2.1 σ ∧ INV (rHm r.2.1 r'.2) r.2.2 r'.2 := fun F n σ hI => by
  obtain ⟨G, hW, hR, -⟩ := id hI
  have h0 := hW.2.2.2.2.1
  exact op_p (S' := 0) hI (po_wk (tX8_file hW h0) (fun v f n hq => by obtain ⟨G2, -, h1, -⟩ := hq; exact ⟨G2, h1⟩)) (ur_file hR)
theorem oo_6 : ∀ (F : AH) (n : Nat) (σ : RS9) (a1 a2 : Int32), (a2 = 0 ∨ a2 = 1) → INV F n σ → ∃ r r' g0, mX8_kind 0 a1 a2 F n = some r ∧ (∀ E : String, r.1 = .inr E → E = eA) ∧ r.2.1 223 = oCell g0 ∧ mX9_kind a1 a2 σ = some r' ∧ ∀ g : Nat → Int64, va_up r.2.1 223 (oCell g) = rHm (va_up r.2.1 223 (oCell g)) σ ∧ ∀ n', r.2.2 ≤ n' → INV (rHm (va_up r.2.1 223 (oCell g)) r'.2) n' r'.2 := fun F n σ a1 a2 _ hI => by
  obtain ⟨G, hW, hR, -⟩ := id hI
  have h0 := hW.2.2.2.2.1
  exact op_t (S' := σ.1 9) hI (po_wk (tX8_kind (v1 := a1) (v2 := a2) hW h0) (fun v f n hq => by obtain ⟨G2, -, h1, h2, -⟩ := hq; exact ⟨G2, h1, h2⟩)) (ur_kind hR)
theorem oo_7 : ∀ (F : AH) (n : Nat) (σ : RS9) (a1 a2 : Int32), INV F n σ → ∃ r r' g0, mX8_rule 0 a1 a2 F n = some r ∧ (∀ E : String, r.1 = .inr E → E = eN ∨ E = eA) ∧ r.2.1 223 = oCell g0 ∧ mX9_rule a1 a2 σ = some r' ∧ ∀ g : Nat → Int64, va_up r.2.1 223 (oCell g) = rHm (va_up r.2.1 223 (oCell g)) σ ∧ ∀ n', r.2.2 ≤ n' → INV (rHm (va_up r.2.1 223 (oCell g)) r'.2) n' r'.2 := fun F n σ a1 a2 hI => by
  obtain ⟨G, hW, hR, -⟩ := id hI
  have h0 := hW.2.2.2.2.1
  exact op_t (S' := σ.1 9) hI (po_wk (tX8_rule (v1 := a1) (v2 := a2) hW h0) (fun v f n hq => by obtain ⟨G2, -, h1, h2, -⟩ := hq; exact ⟨G2, h1, h2⟩)) (ur_rule hR)
theorem oo_8 : ∀ (F : AH) (n : Nat) (σ : RS9), INV F n σ → ∃ r r' g0, mX8_lock 0 F n = some r ∧ (∀ E : String, r.1 = .inr E → E = eA ∨ E = eS) ∧ r.2.1 223 = oCell g0 ∧ mX9_lock σ = some r' ∧ ∀ g : Nat → Int64, va_up r.2.1 223 (oCell g) = rHm (va_up r.2.1 223 (oCell g)) σ ∧ ∀ n', r.2.2 ≤ n' → INV (rHm (va_up r.2.1 223 (oCell g)) r'.2) n' r'.2 := fun F n σ hI => by
  obtain ⟨G, hW, hR, -⟩ := id hI
  have h0 := hW.2.2.2.2.1
  exact op_t (S' := 0) hI (po_wk (tX8_lock hW h0) (fun v f n hq => by obtain ⟨G2, -, h1, h2, -⟩ := hq; exact ⟨G2, h1, h2⟩)) (ur_lock hR)
theorem oo_9 : ∀ (F : AH) (n : Nat) (σ : RS9), INV F n σ → ∃ r r', mX8_unlock 0 F n = some r ∧ mX9_unlock σ = some r' ∧ (∃ v, r.1 = .inl v) ∧ r.2.1 = rHm r.2.1 σ ∧ INV (rHm r.2.1 r'.2) r.2.2 r'.2 := fun F n σ hI => by
  obtain ⟨G, hW, hR, -⟩ := id hI
  have h0 := hW.2.2.2.2.1
  obtain ⟨v, f', n', e, G', -, hW', hE, -⟩ := tX8_unlock hW h0
  obtain ⟨w, σ', e', hR', h9⟩ := ur_unlock hR
  have k := gk hI hW' hR' h9
  refine ⟨_, _, e, e', ?_, k.2.1, k.2.2.1⟩
  cases v with
  | inl y => exact ⟨y, rfl⟩
  | inr E => exact (hE E rfl).elim
theorem oo_10 : ∀ (F : AH) (n : Nat) (σ : RS9) (a1 : Int32), INV F n σ → ∃ r r' g0, mX8_tell 0 a1 F n = some r ∧ (∀ E : String, r.1 = .inr E → E = eA ∨ E = eS) ∧ r.2.1 223 = oCell g0 ∧ mX9_tell a1 σ = some r' ∧ ∀ g : Nat → Int64, va_up r.2.1 223 (oCell g) = rHm (va_up r.2.1 223 (oCell g)) σ ∧ ∀ n', r.2.2 ≤ n' → INV (rHm (va_up r.2.1 223 (oCell g)) r'.2) n' r'.2 := fun F n σ a1 hI => by
  obtain ⟨G, hW, hR, -⟩ := id hI
  have h0 := hW.2.2.2.2.1
  exact op_t (S' := 0) hI (po_wk (tX8_tell (v1 := a1) hW h0) (fun v f n hq => by obtain ⟨G2, -, h1, h2, -⟩ := hq; exact ⟨G2, h1, h2⟩)) (ur_tell hR)
theorem oo_11 : ∀ (F : AH) (n : Nat) (σ : RS9) (a1 : Int32), INV F n σ → ∃ r r' g0, mX8_free 0 a1 F n = some r ∧ (∀ E : String, r.1 = .inr E → E = eS) ∧ r.2.1 223 = oCell g0 ∧ mX9_free a1 σ = some r' ∧ ∀ g : Nat → Int64, va_up r.2.1 223 (oCell g) = rHm (va_up r.2.1 223 (oCell g)) σ ∧ ∀ n', r.2.2 ≤ n' → INV (rHm (va_up r.2.1 223 (oCell g)) r'.2) n' r'.2 := fun F n σ a1 hI => by
  obtain ⟨G, hW, hR, -⟩ := id hI
  have h0 := hW.2.2.2.2.1
  exact op_t (S' := σ.1 9) hI (po_wk (tX8_free (v1 := a1) hW h0) (fun v f n hq => by obtain ⟨G2, -, h1, h2, -⟩ := hq; exact ⟨G2, h1, h2⟩)) (ur_free hR)
theorem oo_12 : ∀ (F : AH) (n : Nat) (σ : RS9) (a1 : Int32), INV F n σ → ∃ r r' g0, mX8_spread 0 a1 F n = some r ∧ (∀ E : String, r.1 = .inr E → E = eS) ∧ r.2.1 223 = oCell g0 ∧ mX9_spread a1 σ = some r' ∧ ∀ g : Nat → Int64, va_up r.2.1 223 (oCell g) = rHm (va_up r.2.1 223 (oCell g)) σ ∧ ∀ n', r.2.2 ≤ n' → INV (rHm (va_up r.2.1 223 (oCell g)) r'.2) n' r'.2 := fun F n σ a1 hI => by
  obtain ⟨G, hW, hR, -⟩ := id hI
  have h0 := hW.2.2.2.2.1
  exact op_t (S' := σ.1 9) hI (po_wk (tX8_spread (v1 := a1) hW h0) (fun v f n hq => by obtain ⟨G2, -, h1, h2, -⟩ := hq; exact ⟨G2, h1, h2⟩)) (ur_spread hR)
theorem oo_13 : ∀ (F : AH) (n : Nat) (σ : RS9) (a1 a2 : Int32), INV F n σ → ∃ r r' g0, mX8_swap 0 a1 a2 F n = some r ∧ (∀ E : String, r.1 = .inr E → E = eS) ∧ r.2.1 223 = oCell g0 ∧ mX9_swap a1 a2 σ = some r' ∧ ∀ g : Nat → Int64, va_up r.2.1 223 (oCell g) = rHm (va_up r.2.1 223 (oCell g)) σ ∧ ∀ n', r.2.2 ≤ n' → INV (rHm (va_up r.2.1 223 (oCell g)) r'.2) n' r'.2 := fun F n σ a1 a2 hI => by
  obtain ⟨G, hW, hR, -⟩ := id hI
  have h0 := hW.2.2.2.2.1
  exact op_t (S' := σ.1 9) hI (po_wk (tX8_swap (v1 := a1) (v2 := a2) hW h0) (fun v f n hq => by obtain ⟨G2, -, h1, h2, -⟩ := hq; exact ⟨G2, h1, h2⟩)) (ur_swap hR)
theorem oo_14 : ∀ (F : AH) (n : Nat) (σ : RS9), INV F n σ → ∃ r r' g0, mX8_wipe 0 F n = some r ∧ (∀ E : String, r.1 = .inr E → E = eS) ∧ r.2.1 223 = oCell g0 ∧ mX9_wipe σ = some r' ∧ ∀ g : Nat → Int64, va_up r.2.1 223 (oCell g) = rHm (va_up r.2.1 223 (oCell g)) σ ∧ ∀ n', r.2.2 ≤ n' → INV (rHm (va_up r.2.1 223 (oCell g)) r'.2) n' r'.2 := fun F n σ hI => by
  obtain ⟨G, hW, hR, -⟩ := id hI
  have h0 := hW.2.2.2.2.1
  exact op_t (S' := σ.1 9) hI (po_wk (tX8_wipe hW h0) (fun v f n hq => by obtain ⟨G2, -, h1, h2, -⟩ := hq; exact ⟨G2, h1, h2⟩)) (ur_wipe hR)
theorem oo_15 : ∀ (F : AH) (n : Nat) (σ : RS9), INV F n σ → ∃ r r' g0, mX8_undo 0 F n = some r ∧ (∀ E : String, r.1 = .inr E → E = eS) ∧ r.2.1 223 = oCell g0 ∧ mX9_undo σ = some r' ∧ ∀ g : Nat → Int64, va_up r.2.1 223 (oCell g) = rHm (va_up r.2.1 223 (oCell g)) σ ∧ ∀ n', r.2.2 ≤ n' → INV (rHm (va_up r.2.1 223 (oCell g)) r'.2) n' r'.2 := fun F n σ hI => by
  obtain ⟨G, hW, hR, -⟩ := id hI
  have h0 := hW.2.2.2.2.1
  exact op_t (S' := σ.1 9) hI (po_wk (tX8_undo hW h0) (fun v f n hq => ⟨G, by rw [hq.1]; exact hq.2.1, hq.2.2.1⟩)) (ur_undo hR)
theorem oo_16 : ∀ (F : AH) (n : Nat) (σ : RS9) (a1 a2 : Int32), INV F n σ → ∃ r r' g0, mX8_piece 0 a1 a2 F n = some r ∧ (∀ E : String, r.1 = .inr E → E = eI ∨ E = eN) ∧ r.2.1 223 = oCell g0 ∧ mX9_piece a1 a2 σ = some r' ∧ ∀ g : Nat → Int64, va_up r.2.1 223 (oCell g) = rHm (va_up r.2.1 223 (oCell g)) σ ∧ ∀ n', r.2.2 ≤ n' → INV (rHm (va_up r.2.1 223 (oCell g)) r'.2) n' r'.2 := fun F n σ a1 a2 hI => by
  obtain ⟨G, hW, hR, -⟩ := id hI
  have h0 := hW.2.2.2.2.1
  exact op_t (S' := σ.1 9) hI (po_wk (tX8_piece (v1 := a1) (v2 := a2) hW h0) (fun v f n hq => ⟨G, by rw [hq.1, hq.2.1]; exact hW, hq.2.2.1⟩)) (ur_piece hR)
theorem oo_17 : ∀ (F : AH) (n : Nat) (σ : RS9) (a1 a2 a3 : Int32), (a3 = 0 ∨ a3 = 1) → INV F n σ → ∃ r r' g0, mX8_octet 0 a1 a2 a3 F n = some r ∧ (∀ E : String, r.1 = .inr E → E = eI) ∧ r.2.1 223 = oCell g0 ∧ mX9_octet a1 a2 a3 σ = some r' ∧ ∀ g : Nat → Int64, va_up r.2.1 223 (oCell g) = rHm (va_up r.2.1 223 (oCell g)) σ ∧ ∀ n', r.2.2 ≤ n' → INV (rHm (va_up r.2.1 223 (oCell g)) r'.2) n' r'.2 := fun F n σ a1 a2 a3 _ hI => by
  obtain ⟨G, hW, hR, -⟩ := id hI
  have h0 := hW.2.2.2.2.1
  exact op_t (S' := σ.1 9) hI (po_wk (tX8_octet (v1 := a1) (v2 := a2) (v3 := a3) hW h0) (fun v f n hq => ⟨G, by rw [hq.1, hq.2.1]; exact hW, hq.2.2.1⟩)) (ur_octet hR)
theorem oo_18 : ∀ (F : AH) (n : Nat) (σ : RS9) (a1 a2 : Int32), INV F n σ → ∃ r r' g0, mX8_origin 0 a1 a2 F n = some r ∧ (∀ E : String, r.1 = .inr E → E = eI) ∧ r.2.1 223 = oCell g0 ∧ mX9_origin a1 a2 σ = some r' ∧ ∀ g : Nat → Int64, va_up r.2.1 223 (oCell g) = rHm (va_up r.2.1 223 (oCell g)) σ ∧ ∀ n', r.2.2 ≤ n' → INV (rHm (va_up r.2.1 223 (oCell g)) r'.2) n' r'.2 := fun F n σ a1 a2 hI => by
  obtain ⟨G, hW, hR, -⟩ := id hI
  have h0 := hW.2.2.2.2.1
  exact op_t (S' := σ.1 9) hI (po_wk (tX8_origin (v1 := a1) (v2 := a2) hW h0) (fun v f n hq => ⟨G, by rw [hq.1, hq.2.1]; exact hW, hq.2.2.1⟩)) (ur_origin hR)
theorem oo_19 : ∀ (F : AH) (n : Nat) (σ : RS9) (a1 a2 : Int32), INV F n σ → ∃ r r' g0, mX8_key 0 a1 a2 F n = some r ∧ (∀ E : String, r.1 = .inr E → E = eI ∨ E = eN) ∧ r.2.1 223 = oCell g0 ∧ mX9_key a1 a2 σ = some r' ∧ ∀ g : Nat → Int64, va_up r.2.1 223 (oCell g) = rHm (va_up r.2.1 223 (oCell g)) σ ∧ ∀ n', r.2.2 ≤ n' → INV (rHm (va_up r.2.1 223 (oCell g)) r'.2) n' r'.2 := fun F n σ a1 a2 hI => by
  obtain ⟨G, hW, hR, -⟩ := id hI
  have h0 := hW.2.2.2.2.1
  exact op_t (S' := σ.1 9) hI (po_wk (tX8_key (v1 := a1) (v2 := a2) hW h0) (fun v f n hq => ⟨G, by rw [hq.1, hq.2.1]; exact hW, hq.2.2.1⟩)) (ur_key hR)
theorem oo_20 : ∀ (F : AH) (n : Nat) (σ : RS9) (a1 : Int32), INV F n σ → ∃ r r', mX8_holder 0 a1 F n = some r ∧ mX9_holder a1 σ = some r' ∧ r.2.1 = rHm r.2.1 σ ∧ INV (rHm r.2.1 r'.2) r.2.2 r'.2 := fun F n σ a1 hI => by
  obtain ⟨G, hW, hR, -⟩ := id hI
  have h0 := hW.2.2.2.2.1
  exact op_p (S' := σ.1 9) hI (po_wk (tX8_holder (v1 := a1) hW h0) (fun v f n hq => ⟨G, by rw [hq.1, hq.2.1]; exact hW⟩)) (ur_holder hR)
theorem oo_21 : ∀ (F : AH) (n : Nat) (σ : RS9) (a1 a2 : Int32), (a2 = 0 ∨ a2 = 1) → INV F n σ → ∃ r r', mX8_at 0 a1 a2 F n = some r ∧ mX9_at a1 a2 σ = some r' ∧ r.2.1 = rHm r.2.1 σ ∧ INV (rHm r.2.1 r'.2) r.2.2 r'.2 := fun F n σ a1 a2 _ hI => by
  obtain ⟨G, hW, hR, -⟩ := id hI
  have h0 := hW.2.2.2.2.1
  exact op_p (S' := σ.1 9) hI (po_wk (tX8_at (v1 := a1) (v2 := a2) hW h0) (fun v f n hq => ⟨G, by rw [hq.1, hq.2.1]; exact hW⟩)) (ur_at hR)
theorem oo_22 : ∀ (F : AH) (n : Nat) (σ : RS9) (a1 a2 : Int32), INV F n σ → ∃ r r' g0, mX8_like 0 a1 a2 F n = some r ∧ (∀ E : String, r.1 = .inr E → E = eI) ∧ r.2.1 223 = oCell g0 ∧ mX9_like a1 a2 σ = some r' ∧ ∀ g : Nat → Int64, va_up r.2.1 223 (oCell g) = rHm (va_up r.2.1 223 (oCell g)) σ ∧ ∀ n', r.2.2 ≤ n' → INV (rHm (va_up r.2.1 223 (oCell g)) r'.2) n' r'.2 := fun F n σ a1 a2 hI => by
  obtain ⟨G, hW, hR, -⟩ := id hI
  have h0 := hW.2.2.2.2.1
  exact op_t (S' := σ.1 9) hI (po_wk (tX8_like (v1 := a1) (v2 := a2) hW h0) (fun v f n hq => ⟨G, by rw [hq.1, hq.2.1]; exact hW, hq.2.2.1⟩)) (ur_like hR)
theorem oo_23 : ∀ (F : AH) (n : Nat) (σ : RS9) (a1 : Int32), INV F n σ → ∃ r r' g0, mX8_would 0 a1 F n = some r ∧ (∀ E : String, r.1 = .inr E → E = eI ∨ E = eA) ∧ r.2.1 223 = oCell g0 ∧ mX9_would a1 σ = some r' ∧ ∀ g : Nat → Int64, va_up r.2.1 223 (oCell g) = rHm (va_up r.2.1 223 (oCell g)) σ ∧ ∀ n', r.2.2 ≤ n' → INV (rHm (va_up r.2.1 223 (oCell g)) r'.2) n' r'.2 := fun F n σ a1 hI => by
  obtain ⟨G, hW, hR, -⟩ := id hI
  have h0 := hW.2.2.2.2.1
  exact op_t (S' := 0) hI (po_wk (tX8_would (v1 := a1) hW h0) (fun v f n hq => by obtain ⟨G2, -, h1, h2, -⟩ := hq; exact ⟨G2, h1, h2⟩)) (ur_would hR)
theorem oo_24 : ∀ (F : AH) (n : Nat) (σ : RS9), INV F n σ → ∃ r r' g0, mX8_found 0 F n = some r ∧ (∀ E : String, r.1 = .inr E → E = eA) ∧ r.2.1 223 = oCell g0 ∧ mX9_found σ = some r' ∧ ∀ g : Nat → Int64, va_up r.2.1 223 (oCell g) = rHm (va_up r.2.1 223 (oCell g)) σ ∧ ∀ n', r.2.2 ≤ n' → INV (rHm (va_up r.2.1 223 (oCell g)) r'.2) n' r'.2 := fun F n σ hI => by
  obtain ⟨G, hW, hR, -⟩ := id hI
  have h0 := hW.2.2.2.2.1
  exact op_t (S' := 0) hI (po_wk (tX8_found hW h0) (fun v f n hq => by obtain ⟨G2, -, h1, h2, -⟩ := hq; exact ⟨G2, h1, h2⟩)) (ur_found hR)
theorem oo_25 : ∀ (F : AH) (n : Nat) (σ : RS9) (a1 a2 a3 : Int32), (a2 = 0 ∨ a2 = 1) → INV F n σ → ∃ r r', mX8_memory 0 a1 a2 a3 F n = some r ∧ mX9_memory a1 a2 a3 σ = some r' ∧ r.2.1 = rHm r.2.1 σ ∧ INV (rHm r.2.1 r'.2) r.2.2 r'.2 := fun F n σ a1 a2 a3 _ hI => by
  obtain ⟨G, hW, hR, -⟩ := id hI
  have h0 := hW.2.2.2.2.1
  exact op_p (S' := σ.1 9) hI (po_wk (tX8_memory (v1 := a1) (v2 := a2) (v3 := a3) hW h0) (fun v f n hq => ⟨G, by rw [hq.1, hq.2.1]; exact hW⟩)) (ur_memory hR)
theorem oo_26 : ∀ (F : AH) (n : Nat) (σ : RS9) (a1 : Int32), INV F n σ → ∃ r r' g0, mX8_kept 0 a1 F n = some r ∧ (∀ E : String, r.1 = .inr E → E = eI) ∧ r.2.1 223 = oCell g0 ∧ mX9_kept a1 σ = some r' ∧ ∀ g : Nat → Int64, va_up r.2.1 223 (oCell g) = rHm (va_up r.2.1 223 (oCell g)) σ ∧ ∀ n', r.2.2 ≤ n' → INV (rHm (va_up r.2.1 223 (oCell g)) r'.2) n' r'.2 := fun F n σ a1 hI => by
  obtain ⟨G, hW, hR, -⟩ := id hI
  have h0 := hW.2.2.2.2.1
  exact op_t (S' := σ.1 9) hI (po_wk (tX8_kept (v1 := a1) hW h0) (fun v f n hq => ⟨G, by rw [hq.1]; exact hq.2.1, hq.2.2.1⟩)) (ur_kept hR)
theorem oo_27 : ∀ (F : AH) (n : Nat) (σ : RS9), INV F n σ → ∃ r r', mX8_twice 0 F n = some r ∧ mX9_twice σ = some r' ∧ r.2.1 = rHm r.2.1 σ ∧ INV (rHm r.2.1 r'.2) r.2.2 r'.2 := fun F n σ hI => by
  obtain ⟨G, hW, hR, -⟩ := id hI
  have h0 := hW.2.2.2.2.1
  exact op_p (S' := σ.1 9) hI (po_wk (tX8_twice hW h0) (fun v f n hq => ⟨G, by rw [hq.1]; exact hq.2.1⟩)) (ur_twice hR)
theorem oo_28 : ∀ (F : AH) (n : Nat) (σ : RS9), INV F n σ → ∃ r r', mX8_image 0 F n = some r ∧ mX9_image σ = some r' ∧ r.2.1 = rHm r.2.1 σ ∧ INV (rHm r.2.1 r'.2) r.2.2 r'.2 := fun F n σ hI => by
  obtain ⟨G, hW, hR, -⟩ := id hI
  have h0 := hW.2.2.2.2.1
  exact op_p (S' := σ.1 9) hI (po_wk (tX8_image hW h0) (fun v f n hq => ⟨G, by rw [hq.1]; exact hq.2.1⟩)) (ur_image hR)
theorem oo_29 : ∀ (F : AH) (n : Nat) (σ : RS9), INV F n σ → ∃ r r', mX8_back 0 F n = some r ∧ mX9_back σ = some r' ∧ r.2.1 = rHm r.2.1 σ ∧ INV (rHm r.2.1 r'.2) r.2.2 r'.2 := fun F n σ hI => by
  obtain ⟨G, hW, hR, -⟩ := id hI
  have h0 := hW.2.2.2.2.1
  exact op_p (S' := σ.1 9) hI (po_wk (tX8_back hW h0) (fun v f n hq => ⟨G, by rw [hq.1]; exact hq.2.1⟩)) (ur_back hR)
theorem oo_30 : ∀ (F : AH) (n : Nat) (σ : RS9) (a1 : Int32), INV F n σ → ∃ r r', mX8_count 0 a1 F n = some r ∧ mX9_count a1 σ = some r' ∧ r.2.1 = rHm r.2.1 σ ∧ INV (rHm r.2.1 r'.2) r.2.2 r'.2 := fun F n σ a1 hI => by
  obtain ⟨G, hW, hR, -⟩ := id hI
  have h0 := hW.2.2.2.2.1
  exact op_p (S' := σ.1 9) hI (po_wk (tX8_count (v1 := a1) hW h0) (fun v f n hq => ⟨G, by rw [hq.1, hq.2.1]; exact hW⟩)) (ur_count hR)
end
/-! part 65f.first -/
section
/-! the first heap: typed -/
def vId : (c : Nat) → (x : Int32) → Decidable (vI c x)
  | 0, _ => inferInstanceAs (Decidable True)
  | 1, x => inferInstanceAs (Decidable (x = 0 ∨ x = 1))
  | 2, x => inferInstanceAs (Decidable (0 ≤ x.toInt ∧ x.toInt ≤ 700))
  | 3, x => inferInstanceAs (Decidable (0 ≤ x.toInt ∧ x.toInt ≤ 40))
  | 4, x => inferInstanceAs (Decidable (0 ≤ x.toInt ∧ x.toInt ≤ 12))
  | 5, x => inferInstanceAs (Decidable (0 ≤ x.toInt ∧ x.toInt ≤ 600))
  | 6, x => inferInstanceAs (Decidable (-700 ≤ x.toInt ∧ x.toInt ≤ 700))
  | 7, x => inferInstanceAs (Decidable (0 ≤ x.toInt ∧ x.toInt ≤ 5))
  | 8, x => inferInstanceAs (Decidable (0 ≤ x.toInt ∧ x.toInt ≤ 2000))
  | 9, x => inferInstanceAs (Decidable (-1 ≤ x.toInt ∧ x.toInt ≤ 702))
  | 10, x => inferInstanceAs (Decidable (0 ≤ x.toInt ∧ x.toInt ≤ 702))
  | _ + 11, _ => inferInstanceAs (Decidable True)
def cR (Γ : Nat → Nat) (c : Nat) (w : Option Nat) : Bool := if c = 301 then decide (w = some 1) else if c = 306 then (match w with
  | none => false
  | some j => decide (Γ j = 5 ∧ j ≠ 1)) else if c < 200 then (match w with
  | none => false
  | some j => decide (Γ j = c - 100)) else (match w with
  | none => true
  | some j => decide (Γ j = c - 200))
theorem cR_ok {Γ : Nat → Nat} {c : Nat} {w : Option Nat} (h : cR Γ c w = true) : vR Γ c w := by
  unfold cR at h
  unfold vR
  by_cases h1 : c = 301
  · rw [if_pos h1] at h ⊢; exact of_decide_eq_true h
  · rw [if_neg h1] at h ⊢
    by_cases h2 : c = 306
    · rw [if_pos h2] at h ⊢
      cases w with
      | none => cases h
      | some j => exact ⟨j, rfl, of_decide_eq_true h⟩
    · rw [if_neg h2] at h ⊢
      by_cases h3 : c < 200
      · rw [if_pos h3] at h ⊢
        cases w with
        | none => cases h
        | some j => exact ⟨j, rfl, of_decide_eq_true h⟩
      · rw [if_neg h3] at h ⊢
        cases w with
        | none => exact fun j e => by cases e
        | some j => exact fun i e => by cases e; exact of_decide_eq_true h
def cV (Γ : Nat → Nat) (c : Nat) : Value → Bool
  | .int x => decide (c < 100) && @decide (vI c x) (vId c x)
  | .ref j => decide (100 ≤ c) && cR Γ c (some j)
  | .null => decide (100 ≤ c) && cR Γ c none
  | _ => false
theorem cV_ok {Γ : Nat → Nat} {c : Nat} {v : Value} (h : cV Γ c v = true) : vV Γ c v := by
  cases v with
  | int x =>
    have h2 : (decide (c < 100) && @decide (vI c x) (vId c x)) = true := h
    rw [Bool.and_eq_true] at h2
    exact Or.inl ⟨of_decide_eq_true h2.1, x, rfl, @of_decide_eq_true _ (vId c x) h2.2⟩
  | ref j =>
    have h2 : (decide (100 ≤ c) && cR Γ c (some j)) = true := h
    rw [Bool.and_eq_true] at h2
    exact Or.inr ⟨of_decide_eq_true h2.1, some j, rfl, cR_ok h2.2⟩
  | null =>
    have h2 : (decide (100 ≤ c) && cR Γ c none) = true := h
    rw [Bool.and_eq_true] at h2
    exact Or.inr ⟨of_decide_eq_true h2.1, none, rfl, cR_ok h2.2⟩
  | _ => cases h
def cRow (G : TE) (j : Nat) : List Value → Bool
  | [.ref r, .int s] => decide (r = G.2 j ∧ s = 0 ∧ 1000 ≤ G.1 r ∧ G.1 r ≤ 1600 ∧ (j = 1 → G.1 r = 1400))
  | _ => false
theorem cRow_ok {G : TE} {j : Nat} {fs : List Value} (h : cRow G j fs = true) : fs = [.ref (G.2 j), .int 0] ∧ 1000 ≤ G.1 (G.2 j) ∧ G.1 (G.2 j) ≤ 1600 ∧ (j = 1 → G.1 (G.2 j) = 1400) := by
  unfold cRow at h
  split at h
  · rename_i r s
    obtain ⟨e, e0, h1, h2, h3⟩ := of_decide_eq_true h
    subst e e0
    exact ⟨rfl, h1, h2, h3⟩
  · cases h
def cE (G : TE) (j : Nat) : Option AE → Bool
  | some (.inl (t, n, .inl _)) => decide (G.1 j = n + 1000 ∧ t = 0)
  | some (.inl (t, n, .inr (.inr g))) => decide (10 ≤ G.1 j ∧ G.1 j ≤ 13 ∧ (aT (G.1 j)).1 = t ∧ (aT (G.1 j)).2.1 = n) && (List.range n).all (fun i => cR G.1 (aT (G.1 j)).2.2 (g i))
  | some (.inl (_, _, .inr (.inl _))) => false
  | some (.inr (c, fs)) => if c = 5 then decide (G.1 j = 5) && cRow G j fs else decide (G.1 j = c ∧ c < 9 ∧ fs.length = (fT c).length) && (List.range (fT c).length).all (fun k => match fs[k]? with
    | some v => cV G.1 ((fT c).getD k 0) v
    | none => false)
  | none => false
theorem cE_ok {G : TE} {f : AH} {j : Nat} (h : cE G j (f j) = true) : okC G 0 f j := by
  unfold okC
  cases e : f j with
  | none => rw [e] at h; cases h
  | some a =>
    rw [e] at h
    cases a with
    | inl q =>
      obtain ⟨t, n, a⟩ := q
      cases a with
      | inl g =>
        obtain ⟨h1, h2⟩ := of_decide_eq_true (show decide (G.1 j = n + 1000 ∧ t = 0) = true from h)
        subst h2
        refine ⟨fun q => by omega, fun q => by omega, fun q => by omega, fun q => ⟨g, ?_⟩⟩
        rw [h1, Nat.add_sub_cancel]
      | inr a =>
        cases a with
        | inl g => cases h
        | inr g =>
          have h2 : (decide (10 ≤ G.1 j ∧ G.1 j ≤ 13 ∧ (aT (G.1 j)).1 = t ∧ (aT (G.1 j)).2.1 = n) && (List.range n).all (fun i => cR G.1 (aT (G.1 j)).2.2 (g i))) = true := h
          rw [Bool.and_eq_true] at h2
          obtain ⟨h3, h4, h5, h6⟩ := of_decide_eq_true h2.1
          refine ⟨fun q => by omega, fun q => by omega, fun _ _ => ⟨g, by rw [h5, h6], fun i hi => ?_⟩, fun q => by omega⟩
          rw [h6] at hi
          exact cR_ok (List.all_eq_true.mp h2.2 i (List.mem_range.mpr hi))
    | inr q =>
      obtain ⟨c, fs⟩ := q
      by_cases hc : c = 5
      · have h2 : (if c = 5 then decide (G.1 j = 5) && cRow G j fs else _) = true := h
        rw [if_pos hc, Bool.and_eq_true] at h2
        have h3 : G.1 j = 5 := of_decide_eq_true h2.1
        obtain ⟨h4, h5, h6, h7⟩ := cRow_ok h2.2
        refine ⟨fun _ => ⟨0, by rw [hc, h4], h5, h6, by decide, by rw [kt_0]; omega, fun q => ⟨rfl, h7 q⟩⟩, fun q q2 => absurd h3 q2, fun q => by omega, fun q => by omega⟩
      · have h2 : (if c = 5 then _ else (decide (G.1 j = c ∧ c < 9 ∧ fs.length = (fT c).length) && (List.range (fT c).length).all (fun k => match fs[k]? with
    | some v => cV G.1 ((fT c).getD k 0) v
    | none => false))) = true := h
        rw [if_neg hc, Bool.and_eq_true] at h2
        obtain ⟨h3, h4, h5⟩ := of_decide_eq_true h2.1
        refine ⟨fun q => by omega, fun _ _ => ⟨fs, by rw [h3], by rw [h3]; exact h5, fun k hk => ?_⟩, fun q => by omega, fun q => by omega⟩
        rw [h3] at hk ⊢
        have h6 := List.all_eq_true.mp h2.2 k (List.mem_range.mpr hk)
        cases e2 : fs[k]? with
        | none => simp only [e2] at h6; cases h6
        | some v => simp only [e2] at h6; exact ⟨v, rfl, cV_ok h6⟩
def LL : List (Nat × AE) := [(0, .inr (8, [.ref 1, .ref 3, .ref 8, .ref 13, .ref 18, .ref 59, .ref 115, .ref 171, .ref 178, .int 0, .int 0, .int 0, .int 0, .int (-1)])), (179, .inr (5, [.ref 180, .int 0])), (180, .inl (0, 0, .inl (fun _ => 0))), (178, .inr (4, [.int 0, .int 0, .int 0, .int 0, .int 0, .null, .int 0, .ref 179])), (172, .inr (5, [.ref 173, .int 0])), (173, .inl (0, 600, .inl (fun _ => 0))), (174, .inr (5, [.ref 175, .int 0])), (175, .inl (0, 540, .inl (fun _ => 0))), (176, .inr (5, [.ref 177, .int 0])), (177, .inl (0, 540, .inl (fun _ => 0))), (171, .inr (0, [.ref 172, .ref 174, .ref 176, .int 0])), (116, .inr (5, [.ref 117, .int 0])), (117, .inl (0, 600, .inl (fun _ => 0))), (118, .inr (5, [.ref 119, .int 0])), (119, .inl (0, 600, .inl (fun _ => 0))), (120, .inr (5, [.ref 121, .int 0])), (121, .inl (0, 600, .inl (fun _ => 0))), (122, .inr (5, [.ref 123, .int 0])), (123, .inl (0, 600, .inl (fun _ => 0))), (124, .inr (6, [.ref 125, .int 0, .int 0, .int 0, .int 0, .int 0, .int 0, .int 0, .int 0, .int 0])), (126, .inl (0, 0, .inl (fun _ => 0))), (125, .inr (5, [.ref 126, .int 0])), (127, .inr (6, [.ref 128, .int 0, .int 0, .int 0, .int 0, .int 0, .int 0, .int 0, .int 0, .int 0])), (129, .inl (0, 0, .inl (fun _ => 0))), (128, .inr (5, [.ref 129, .int 0])), (130, .inl (1, 40, .inr (.inr (va_up (va_up (va_up (va_up (va_up (va_up (va_up (va_up (va_up (va_up (va_up (va_up (va_up (va_up (va_up (va_up (va_up (va_up (va_up (va_up (va_up (va_up (va_up (va_up (va_up (va_up (va_up (va_up (va_up (va_up (va_up (va_up (va_up (va_up (va_up (va_up (va_up (va_up (va_up (va_up (fun _ => none) 0 (some 131)) 1 (some 132)) 2 (some 133)) 3 (some 134)) 4 (some 135)) 5 (some 136)) 6 (some 137)) 7 (some 138)) 8 (some 139)) 9 (some 140)) 10 (some 141)) 11 (some 142)) 12 (some 143)) 13 (some 144)) 14 (some 145)) 15 (some 146)) 16 (some 147)) 17 (some 148)) 18 (some 149)) 19 (some 150)) 20 (some 151)) 21 (some 152)) 22 (some 153)) 23 (some 154)) 24 (some 155)) 25 (some 156)) 26 (some 157)) 27 (some 158)) 28 (some 159)) 29 (some 160)) 30 (some 161)) 31 (some 162)) 32 (some 163)) 33 (some 164)) 34 (some 165)) 35 (some 166)) 36 (some 167)) 37 (some 168)) 38 (some 169)) 39 (some 170))))), (131, .inr (3, [.int 0, .int 0, .int 0, .int 0, .int 0, .int 0, .int 0, .int 0, .int 0, .int 0, .int 0, .int 0])), (132, .inr (3, [.int 0, .int 0, .int 0, .int 0, .int 0, .int 0, .int 0, .int 0, .int 0, .int 0, .int 0, .int 0])), (133, .inr (3, [.int 0, .int 0, .int 0, .int 0, .int 0, .int 0, .int 0, .int 0, .int 0, .int 0, .int 0, .int 0])), (134, .inr (3, [.int 0, .int 0, .int 0, .int 0, .int 0, .int 0, .int 0, .int 0, .int 0, .int 0, .int 0, .int 0])), (135, .inr (3, [.int 0, .int 0, .int 0, .int 0, .int 0, .int 0, .int 0, .int 0, .int 0, .int 0, .int 0, .int 0])), (136, .inr (3, [.int 0, .int 0, .int 0, .int 0, .int 0, .int 0, .int 0, .int 0, .int 0, .int 0, .int 0, .int 0])), (137, .inr (3, [.int 0, .int 0, .int 0, .int 0, .int 0, .int 0, .int 0, .int 0, .int 0, .int 0, .int 0, .int 0])), (138, .inr (3, [.int 0, .int 0, .int 0, .int 0, .int 0, .int 0, .int 0, .int 0, .int 0, .int 0, .int 0, .int 0])), (139, .inr (3, [.int 0, .int 0, .int 0, .int 0, .int 0, .int 0, .int 0, .int 0, .int 0, .int 0, .int 0, .int 0])), (140, .inr (3, [.int 0, .int 0, .int 0, .int 0, .int 0, .int 0, .int 0, .int 0, .int 0, .int 0, .int 0, .int 0])), (141, .inr (3, [.int 0, .int 0, .int 0, .int 0, .int 0, .int 0, .int 0, .int 0, .int 0, .int 0, .int 0, .int 0])), (142, .inr (3, [.int 0, .int 0, .int 0, .int 0, .int 0, .int 0, .int 0, .int 0, .int 0, .int 0, .int 0, .int 0])), (143, .inr (3, [.int 0, .int 0, .int 0, .int 0, .int 0, .int 0, .int 0, .int 0, .int 0, .int 0, .int 0, .int 0])), (144, .inr (3, [.int 0, .int 0, .int 0, .int 0, .int 0, .int 0, .int 0, .int 0, .int 0, .int 0, .int 0, .int 0])), (145, .inr (3, [.int 0, .int 0, .int 0, .int 0, .int 0, .int 0, .int 0, .int 0, .int 0, .int 0, .int 0, .int 0])), (146, .inr (3, [.int 0, .int 0, .int 0, .int 0, .int 0, .int 0, .int 0, .int 0, .int 0, .int 0, .int 0, .int 0])), (147, .inr (3, [.int 0, .int 0, .int 0, .int 0, .int 0, .int 0, .int 0, .int 0, .int 0, .int 0, .int 0, .int 0])), (148, .inr (3, [.int 0, .int 0, .int 0, .int 0, .int 0, .int 0, .int 0, .int 0, .int 0, .int 0, .int 0, .int 0])), (149, .inr (3, [.int 0, .int 0, .int 0, .int 0, .int 0, .int 0, .int 0, .int 0, .int 0, .int 0, .int 0, .int 0])), (150, .inr (3, [.int 0, .int 0, .int 0, .int 0, .int 0, .int 0, .int 0, .int 0, .int 0, .int 0, .int 0, .int 0])), (151, .inr (3, [.int 0, .int 0, .int 0, .int 0, .int 0, .int 0, .int 0, .int 0, .int 0, .int 0, .int 0, .int 0])), (152, .inr (3, [.int 0, .int 0, .int 0, .int 0, .int 0, .int 0, .int 0, .int 0, .int 0, .int 0, .int 0, .int 0])), (153, .inr (3, [.int 0, .int 0, .int 0, .int 0, .int 0, .int 0, .int 0, .int 0, .int 0, .int 0, .int 0, .int 0])), (154, .inr (3, [.int 0, .int 0, .int 0, .int 0, .int 0, .int 0, .int 0, .int 0, .int 0, .int 0, .int 0, .int 0])), (155, .inr (3, [.int 0, .int 0, .int 0, .int 0, .int 0, .int 0, .int 0, .int 0, .int 0, .int 0, .int 0, .int 0])), (156, .inr (3, [.int 0, .int 0, .int 0, .int 0, .int 0, .int 0, .int 0, .int 0, .int 0, .int 0, .int 0, .int 0])), (157, .inr (3, [.int 0, .int 0, .int 0, .int 0, .int 0, .int 0, .int 0, .int 0, .int 0, .int 0, .int 0, .int 0])), (158, .inr (3, [.int 0, .int 0, .int 0, .int 0, .int 0, .int 0, .int 0, .int 0, .int 0, .int 0, .int 0, .int 0])), (159, .inr (3, [.int 0, .int 0, .int 0, .int 0, .int 0, .int 0, .int 0, .int 0, .int 0, .int 0, .int 0, .int 0])), (160, .inr (3, [.int 0, .int 0, .int 0, .int 0, .int 0, .int 0, .int 0, .int 0, .int 0, .int 0, .int 0, .int 0])), (161, .inr (3, [.int 0, .int 0, .int 0, .int 0, .int 0, .int 0, .int 0, .int 0, .int 0, .int 0, .int 0, .int 0])), (162, .inr (3, [.int 0, .int 0, .int 0, .int 0, .int 0, .int 0, .int 0, .int 0, .int 0, .int 0, .int 0, .int 0])), (163, .inr (3, [.int 0, .int 0, .int 0, .int 0, .int 0, .int 0, .int 0, .int 0, .int 0, .int 0, .int 0, .int 0])), (164, .inr (3, [.int 0, .int 0, .int 0, .int 0, .int 0, .int 0, .int 0, .int 0, .int 0, .int 0, .int 0, .int 0])), (165, .inr (3, [.int 0, .int 0, .int 0, .int 0, .int 0, .int 0, .int 0, .int 0, .int 0, .int 0, .int 0, .int 0])), (166, .inr (3, [.int 0, .int 0, .int 0, .int 0, .int 0, .int 0, .int 0, .int 0, .int 0, .int 0, .int 0, .int 0])), (167, .inr (3, [.int 0, .int 0, .int 0, .int 0, .int 0, .int 0, .int 0, .int 0, .int 0, .int 0, .int 0, .int 0])), (168, .inr (3, [.int 0, .int 0, .int 0, .int 0, .int 0, .int 0, .int 0, .int 0, .int 0, .int 0, .int 0, .int 0])), (169, .inr (3, [.int 0, .int 0, .int 0, .int 0, .int 0, .int 0, .int 0, .int 0, .int 0, .int 0, .int 0, .int 0])), (170, .inr (3, [.int 0, .int 0, .int 0, .int 0, .int 0, .int 0, .int 0, .int 0, .int 0, .int 0, .int 0, .int 0])), (115, .inr (1, [.ref 116, .ref 118, .ref 130, .int 0, .ref 124, .ref 127, .ref 120, .ref 122])), (60, .inr (5, [.ref 61, .int 0])), (61, .inl (0, 600, .inl (fun _ => 0))), (62, .inr (5, [.ref 63, .int 0])), (63, .inl (0, 600, .inl (fun _ => 0))), (64, .inr (5, [.ref 65, .int 0])), (65, .inl (0, 600, .inl (fun _ => 0))), (66, .inr (5, [.ref 67, .int 0])), (67, .inl (0, 600, .inl (fun _ => 0))), (68, .inr (6, [.ref 69, .int 0, .int 0, .int 0, .int 0, .int 0, .int 0, .int 0, .int 0, .int 0])), (70, .inl (0, 0, .inl (fun _ => 0))), (69, .inr (5, [.ref 70, .int 0])), (71, .inr (6, [.ref 72, .int 0, .int 0, .int 0, .int 0, .int 0, .int 0, .int 0, .int 0, .int 0])), (73, .inl (0, 0, .inl (fun _ => 0))), (72, .inr (5, [.ref 73, .int 0])), (74, .inl (1, 40, .inr (.inr (va_up (va_up (va_up (va_up (va_up (va_up (va_up (va_up (va_up (va_up (va_up (va_up (va_up (va_up (va_up (va_up (va_up (va_up (va_up (va_up (va_up (va_up (va_up (va_up (va_up (va_up (va_up (va_up (va_up (va_up (va_up (va_up (va_up (va_up (va_up (va_up (va_up (va_up (va_up (va_up (fun _ => none) 0 (some 75)) 1 (some 76)) 2 (some 77)) 3 (some 78)) 4 (some 79)) 5 (some 80)) 6 (some 81)) 7 (some 82)) 8 (some 83)) 9 (some 84)) 10 (some 85)) 11 (some 86)) 12 (some 87)) 13 (some 88)) 14 (some 89)) 15 (some 90)) 16 (some 91)) 17 (some 92)) 18 (some 93)) 19 (some 94)) 20 (some 95)) 21 (some 96)) 22 (some 97)) 23 (some 98)) 24 (some 99)) 25 (some 100)) 26 (some 101)) 27 (some 102)) 28 (some 103)) 29 (some 104)) 30 (some 105)) 31 (some 106)) 32 (some 107)) 33 (some 108)) 34 (some 109)) 35 (some 110)) 36 (some 111)) 37 (some 112)) 38 (some 113)) 39 (some 114))))), (75, .inr (3, [.int 0, .int 0, .int 0, .int 0, .int 0, .int 0, .int 0, .int 0, .int 0, .int 0, .int 0, .int 0])), (76, .inr (3, [.int 0, .int 0, .int 0, .int 0, .int 0, .int 0, .int 0, .int 0, .int 0, .int 0, .int 0, .int 0])), (77, .inr (3, [.int 0, .int 0, .int 0, .int 0, .int 0, .int 0, .int 0, .int 0, .int 0, .int 0, .int 0, .int 0])), (78, .inr (3, [.int 0, .int 0, .int 0, .int 0, .int 0, .int 0, .int 0, .int 0, .int 0, .int 0, .int 0, .int 0])), (79, .inr (3, [.int 0, .int 0, .int 0, .int 0, .int 0, .int 0, .int 0, .int 0, .int 0, .int 0, .int 0, .int 0])), (80, .inr (3, [.int 0, .int 0, .int 0, .int 0, .int 0, .int 0, .int 0, .int 0, .int 0, .int 0, .int 0, .int 0])), (81, .inr (3, [.int 0, .int 0, .int 0, .int 0, .int 0, .int 0, .int 0, .int 0, .int 0, .int 0, .int 0, .int 0])), (82, .inr (3, [.int 0, .int 0, .int 0, .int 0, .int 0, .int 0, .int 0, .int 0, .int 0, .int 0, .int 0, .int 0])), (83, .inr (3, [.int 0, .int 0, .int 0, .int 0, .int 0, .int 0, .int 0, .int 0, .int 0, .int 0, .int 0, .int 0])), (84, .inr (3, [.int 0, .int 0, .int 0, .int 0, .int 0, .int 0, .int 0, .int 0, .int 0, .int 0, .int 0, .int 0])), (85, .inr (3, [.int 0, .int 0, .int 0, .int 0, .int 0, .int 0, .int 0, .int 0, .int 0, .int 0, .int 0, .int 0])), (86, .inr (3, [.int 0, .int 0, .int 0, .int 0, .int 0, .int 0, .int 0, .int 0, .int 0, .int 0, .int 0, .int 0])), (87, .inr (3, [.int 0, .int 0, .int 0, .int 0, .int 0, .int 0, .int 0, .int 0, .int 0, .int 0, .int 0, .int 0])), (88, .inr (3, [.int 0, .int 0, .int 0, .int 0, .int 0, .int 0, .int 0, .int 0, .int 0, .int 0, .int 0, .int 0])), (89, .inr (3, [.int 0, .int 0, .int 0, .int 0, .int 0, .int 0, .int 0, .int 0, .int 0, .int 0, .int 0, .int 0])), (90, .inr (3, [.int 0, .int 0, .int 0, .int 0, .int 0, .int 0, .int 0, .int 0, .int 0, .int 0, .int 0, .int 0])), (91, .inr (3, [.int 0, .int 0, .int 0, .int 0, .int 0, .int 0, .int 0, .int 0, .int 0, .int 0, .int 0, .int 0])), (92, .inr (3, [.int 0, .int 0, .int 0, .int 0, .int 0, .int 0, .int 0, .int 0, .int 0, .int 0, .int 0, .int 0])), (93, .inr (3, [.int 0, .int 0, .int 0, .int 0, .int 0, .int 0, .int 0, .int 0, .int 0, .int 0, .int 0, .int 0])), (94, .inr (3, [.int 0, .int 0, .int 0, .int 0, .int 0, .int 0, .int 0, .int 0, .int 0, .int 0, .int 0, .int 0])), (95, .inr (3, [.int 0, .int 0, .int 0, .int 0, .int 0, .int 0, .int 0, .int 0, .int 0, .int 0, .int 0, .int 0])), (96, .inr (3, [.int 0, .int 0, .int 0, .int 0, .int 0, .int 0, .int 0, .int 0, .int 0, .int 0, .int 0, .int 0])), (97, .inr (3, [.int 0, .int 0, .int 0, .int 0, .int 0, .int 0, .int 0, .int 0, .int 0, .int 0, .int 0, .int 0])), (98, .inr (3, [.int 0, .int 0, .int 0, .int 0, .int 0, .int 0, .int 0, .int 0, .int 0, .int 0, .int 0, .int 0])), (99, .inr (3, [.int 0, .int 0, .int 0, .int 0, .int 0, .int 0, .int 0, .int 0, .int 0, .int 0, .int 0, .int 0])), (100, .inr (3, [.int 0, .int 0, .int 0, .int 0, .int 0, .int 0, .int 0, .int 0, .int 0, .int 0, .int 0, .int 0])), (101, .inr (3, [.int 0, .int 0, .int 0, .int 0, .int 0, .int 0, .int 0, .int 0, .int 0, .int 0, .int 0, .int 0])), (102, .inr (3, [.int 0, .int 0, .int 0, .int 0, .int 0, .int 0, .int 0, .int 0, .int 0, .int 0, .int 0, .int 0])), (103, .inr (3, [.int 0, .int 0, .int 0, .int 0, .int 0, .int 0, .int 0, .int 0, .int 0, .int 0, .int 0, .int 0])), (104, .inr (3, [.int 0, .int 0, .int 0, .int 0, .int 0, .int 0, .int 0, .int 0, .int 0, .int 0, .int 0, .int 0])), (105, .inr (3, [.int 0, .int 0, .int 0, .int 0, .int 0, .int 0, .int 0, .int 0, .int 0, .int 0, .int 0, .int 0])), (106, .inr (3, [.int 0, .int 0, .int 0, .int 0, .int 0, .int 0, .int 0, .int 0, .int 0, .int 0, .int 0, .int 0])), (107, .inr (3, [.int 0, .int 0, .int 0, .int 0, .int 0, .int 0, .int 0, .int 0, .int 0, .int 0, .int 0, .int 0])), (108, .inr (3, [.int 0, .int 0, .int 0, .int 0, .int 0, .int 0, .int 0, .int 0, .int 0, .int 0, .int 0, .int 0])), (109, .inr (3, [.int 0, .int 0, .int 0, .int 0, .int 0, .int 0, .int 0, .int 0, .int 0, .int 0, .int 0, .int 0])), (110, .inr (3, [.int 0, .int 0, .int 0, .int 0, .int 0, .int 0, .int 0, .int 0, .int 0, .int 0, .int 0, .int 0])), (111, .inr (3, [.int 0, .int 0, .int 0, .int 0, .int 0, .int 0, .int 0, .int 0, .int 0, .int 0, .int 0, .int 0])), (112, .inr (3, [.int 0, .int 0, .int 0, .int 0, .int 0, .int 0, .int 0, .int 0, .int 0, .int 0, .int 0, .int 0])), (113, .inr (3, [.int 0, .int 0, .int 0, .int 0, .int 0, .int 0, .int 0, .int 0, .int 0, .int 0, .int 0, .int 0])), (114, .inr (3, [.int 0, .int 0, .int 0, .int 0, .int 0, .int 0, .int 0, .int 0, .int 0, .int 0, .int 0, .int 0])), (59, .inr (1, [.ref 60, .ref 62, .ref 74, .int 0, .ref 68, .ref 71, .ref 64, .ref 66])), (55, .inr (5, [.ref 56, .int 0])), (56, .inl (0, 0, .inl (fun _ => 0))), (57, .inl (2, 4, .inr (.inr (fun _ => none)))), (58, .inl (2, 40, .inr (.inr (fun _ => none)))), (54, .inr (7, [.ref 55, .int 0, .int (-1), .int 0, .int 1, .int 0, .null, .int 0, .ref 57, .ref 58])), (50, .inr (5, [.ref 51, .int 0])), (51, .inl (0, 0, .inl (fun _ => 0))), (52, .inl (2, 4, .inr (.inr (fun _ => none)))), (53, .inl (2, 40, .inr (.inr (fun _ => none)))), (49, .inr (7, [.ref 50, .int 0, .int (-1), .int 0, .int 1, .int 0, .null, .int 0, .ref 52, .ref 53])), (45, .inr (5, [.ref 46, .int 0])), (46, .inl (0, 0, .inl (fun _ => 0))), (47, .inl (2, 4, .inr (.inr (fun _ => none)))), (48, .inl (2, 40, .inr (.inr (fun _ => none)))), (44, .inr (7, [.ref 45, .int 0, .int (-1), .int 0, .int 1, .int 0, .null, .int 0, .ref 47, .ref 48])), (40, .inr (5, [.ref 41, .int 0])), (41, .inl (0, 0, .inl (fun _ => 0))), (42, .inl (2, 4, .inr (.inr (fun _ => none)))), (43, .inl (2, 40, .inr (.inr (fun _ => none)))), (39, .inr (7, [.ref 40, .int 0, .int (-1), .int 0, .int 1, .int 0, .null, .int 0, .ref 42, .ref 43])), (35, .inr (5, [.ref 36, .int 0])), (36, .inl (0, 0, .inl (fun _ => 0))), (37, .inl (2, 4, .inr (.inr (fun _ => none)))), (38, .inl (2, 40, .inr (.inr (fun _ => none)))), (34, .inr (7, [.ref 35, .int 0, .int (-1), .int 0, .int 1, .int 0, .null, .int 0, .ref 37, .ref 38])), (30, .inr (5, [.ref 31, .int 0])), (31, .inl (0, 0, .inl (fun _ => 0))), (32, .inl (2, 4, .inr (.inr (fun _ => none)))), (33, .inl (2, 40, .inr (.inr (fun _ => none)))), (29, .inr (7, [.ref 30, .int 0, .int (-1), .int 0, .int 1, .int 0, .null, .int 0, .ref 32, .ref 33])), (25, .inr (5, [.ref 26, .int 0])), (26, .inl (0, 0, .inl (fun _ => 0))), (27, .inl (2, 4, .inr (.inr (fun _ => none)))), (28, .inl (2, 40, .inr (.inr (fun _ => none)))), (24, .inr (7, [.ref 25, .int 0, .int (-1), .int 0, .int 1, .int 0, .null, .int 0, .ref 27, .ref 28])), (20, .inr (5, [.ref 21, .int 0])), (21, .inl (0, 0, .inl (fun _ => 0))), (22, .inl (2, 4, .inr (.inr (fun _ => none)))), (23, .inl (2, 40, .inr (.inr (fun _ => none)))), (19, .inr (7, [.ref 20, .int 0, .int (-1), .int 0, .int 1, .int 0, .null, .int 0, .ref 22, .ref 23])), (18, .inl (3, 8, .inr (.inr (va_up (va_up (va_up (va_up (va_up (va_up (va_up (va_up (fun _ => none) 0 (some 19)) 1 (some 24)) 2 (some 29)) 3 (some 34)) 4 (some 39)) 5 (some 44)) 6 (some 49)) 7 (some 54))))), (14, .inr (5, [.ref 15, .int 0])), (15, .inl (0, 0, .inl (fun _ => 0))), (16, .inl (2, 4, .inr (.inr (fun _ => none)))), (17, .inl (2, 40, .inr (.inr (fun _ => none)))), (13, .inr (7, [.ref 14, .int 0, .int (-1), .int 0, .int 1, .int 0, .null, .int 0, .ref 16, .ref 17])), (9, .inr (5, [.ref 10, .int 0])), (10, .inl (0, 0, .inl (fun _ => 0))), (11, .inl (2, 4, .inr (.inr (fun _ => none)))), (12, .inl (2, 40, .inr (.inr (fun _ => none)))), (8, .inr (7, [.ref 9, .int 0, .int (-1), .int 0, .int 1, .int 0, .null, .int 0, .ref 11, .ref 12])), (4, .inr (5, [.ref 5, .int 0])), (5, .inl (0, 0, .inl (fun _ => 0))), (6, .inl (2, 4, .inr (.inr (fun _ => none)))), (7, .inl (2, 40, .inr (.inr (fun _ => none)))), (3, .inr (7, [.ref 4, .int 0, .int (-1), .int 0, .int 1, .int 0, .null, .int 0, .ref 6, .ref 7])), (2, .inl (0, 400, .inl (fun _ => 0))), (1, .inr (5, [.ref 2, .int 0])), (181, .inr (9, (.int 0 :: .ref 182 :: .ref 183 :: .ref 184 :: .ref 185 :: .int 0 :: .int 0 :: .int 0 :: .ref 186 :: .int 0 :: .int 0 :: .int 0 :: .int (-1) :: .ref 187 :: .ref 188 :: .ref 189 :: .int 0 :: .ref 190 :: .ref 191 :: .ref 192 :: .ref 193 :: .ref 194 :: .int 0 :: .ref 195 :: .ref 196 :: .ref 197 :: .int 0 :: .ref 198 :: .ref 199 :: .ref 200 :: .ref 201 :: .ref 202 :: .ref 203 :: .int 0 :: .ref 204 :: .ref 205 :: .ref 206 :: .ref 207 :: .ref 208 :: .ref 209 :: .ref 210 :: .ref 211 :: .ref 212 :: .ref 213 :: .ref 214 :: .int 0 :: .ref 215 :: .ref 216 :: .int 0 :: .ref 217 :: .ref 218 :: .ref 219 :: .ref 220 :: .ref 221 :: .int 0 :: .int 0 :: .int 0 :: .int 0 :: .ref 222 :: .int 0 :: []))), (222, .inl (0, 60, .inl (fun _ => 0))), (221, .inl (0, 60, .inl (fun _ => 0))), (220, .inl (0, 40, .inl (fun _ => 0))), (219, .inl (0, 41, .inl (fun _ => 0))), (218, .inl (0, 700, .inl (fun _ => 0))), (217, .inl (0, 700, .inl (fun _ => 0))), (216, .inl (0, 1400, .inl (fun _ => 0))), (215, .inl (0, 1400, .inl (fun _ => 0))), (214, .inl (0, 600, .inl (fun _ => 0))), (213, .inl (0, 600, .inl (fun _ => 0))), (212, .inl (0, 40, .inl (fun _ => 0))), (211, .inl (0, 40, .inl (fun _ => 0))), (210, .inl (0, 40, .inl (fun _ => 0))), (209, .inl (0, 40, .inl (fun _ => 0))), (208, .inl (0, 40, .inl (fun _ => 0))), (207, .inl (0, 40, .inl (fun _ => 0))), (206, .inl (0, 40, .inl (fun _ => 0))), (205, .inl (0, 40, .inl (fun _ => 0))), (204, .inl (0, 40, .inl (fun _ => 0))), (203, .inl (0, 600, .inl (fun _ => 0))), (202, .inl (0, 600, .inl (fun _ => 0))), (201, .inl (0, 600, .inl (fun _ => 0))), (200, .inl (0, 600, .inl (fun _ => 0))), (199, .inl (0, 600, .inl (fun _ => 0))), (198, .inl (0, 600, .inl (fun _ => 0))), (197, .inl (0, 600, .inl (fun _ => 0))), (196, .inl (0, 600, .inl (fun _ => 0))), (195, .inl (0, 600, .inl (fun _ => 0))), (194, .inl (0, 600, .inl (fun _ => 0))), (193, .inl (0, 600, .inl (fun _ => 0))), (192, .inl (0, 600, .inl (fun _ => 0))), (191, .inl (0, 600, .inl (fun _ => 0))), (190, .inl (0, 600, .inl (fun _ => 0))), (189, .inl (0, 600, .inl (fun _ => 0))), (188, .inl (0, 600, .inl (fun _ => 0))), (187, .inl (0, 600, .inl (fun _ => 0))), (186, .inl (0, 400, .inl (fun _ => 0))), (185, .inl (0, 34776, .inl (fun _ => 0))), (184, .inl (0, 4347, .inl (fun _ => 0))), (183, .inl (0, 4347, .inl (fun _ => 0))), (182, .inl (0, 4347, .inl (tl (upd (upd (fun _ => 0) 2 (-1)) 4 1) 40))), (223, .inl (4, 1, .inr (.inl (fun _ => 0))))]
def FF : AH := ovl (fun _ => none) LL
def gt0 : List Nat := [8, 5, 1400, 7, 5, 1000, 10, 11, 7, 5, 1000, 10, 11, 7, 5, 1000, 10, 11, 12, 7, 5, 1000, 10, 11, 7, 5, 1000, 10, 11, 7, 5, 1000, 10, 11, 7, 5, 1000, 10, 11, 7, 5, 1000, 10, 11, 7, 5, 1000, 10, 11, 7, 5, 1000, 10, 11, 7, 5, 1000, 10, 11, 1, 5, 1600, 5, 1600, 5, 1600, 5, 1600, 6, 5, 1000, 6, 5, 1000, 13, 3, 3, 3, 3, 3, 3, 3, 3, 3, 3, 3, 3, 3, 3, 3, 3, 3, 3, 3, 3, 3, 3, 3, 3, 3, 3, 3, 3, 3, 3, 3, 3, 3, 3, 3, 3, 3, 3, 3, 3, 1, 5, 1600, 5, 1600, 5, 1600, 5, 1600, 6, 5, 1000, 6, 5, 1000, 13, 3, 3, 3, 3, 3, 3, 3, 3, 3, 3, 3, 3, 3, 3, 3, 3, 3, 3, 3, 3, 3, 3, 3, 3, 3, 3, 3, 3, 3, 3, 3, 3, 3, 3, 3, 3, 3, 3, 3, 3, 0, 5, 1600, 5, 1540, 5, 1540, 4, 5, 1000]
def bt0 : List Nat := [0, 2, 0, 0, 5, 0, 0, 0, 0, 10, 0, 0, 0, 0, 15, 0, 0, 0, 0, 0, 21, 0, 0, 0, 0, 26, 0, 0, 0, 0, 31, 0, 0, 0, 0, 36, 0, 0, 0, 0, 41, 0, 0, 0, 0, 46, 0, 0, 0, 0, 51, 0, 0, 0, 0, 56, 0, 0, 0, 0, 61, 0, 63, 0, 65, 0, 67, 0, 0, 70, 0, 0, 73, 0, 0, 0, 0, 0, 0, 0, 0, 0, 0, 0, 0, 0, 0, 0, 0, 0, 0, 0, 0, 0, 0, 0, 0, 0, 0, 0, 0, 0, 0, 0, 0, 0, 0, 0, 0, 0, 0, 0, 0, 0, 0, 0, 117, 0, 119, 0, 121, 0, 123, 0, 0, 126, 0, 0, 129, 0, 0, 0, 0, 0, 0, 0, 0, 0, 0, 0, 0, 0, 0, 0, 0, 0, 0, 0, 0, 0, 0, 0, 0, 0, 0, 0, 0, 0, 0, 0, 0, 0, 0, 0, 0, 0, 0, 0, 0, 0, 0, 0, 173, 0, 175, 0, 177, 0, 0, 180, 0]
def G0 : TE := (fun j => gt0.getD j 99, fun j => bt0.getD j 0)
theorem G0_hi {j : Nat} (h : 181 ≤ j) : G0.1 j = 99 := by
  show gt0.getD j 99 = 99
  rw [List.getD_eq_getElem?_getD, List.getElem?_eq_none (by show 181 ≤ j; exact h)]; rfl
set_option maxRecDepth 100000 in
theorem ff_chk : (List.range 181).all (fun j => cE G0 j (FF j)) = true := by decide +kernel
theorem ff_wt : WT G0 FF 0 FF 224 := by
  refine ⟨fun j => ?_, fun j hj => ?_, fun j a b => ⟨G0_hi a, rfl⟩, by omega, rfl, rfl⟩
  · by_cases hj : j < 181
    · exact cE_ok (List.all_eq_true.mp ff_chk j (List.mem_range.mpr hj))
    · have := G0_hi (j := j) (by omega)
      exact ⟨fun q => by omega, fun q => by omega, fun q => by omega, fun q => by omega⟩
  · by_cases h : 181 ≤ j
    · exact absurd (G0_hi h) hj
    · omega
def μ0 : Nat → Int32 := tl (upd (upd (fun _ => 0) 2 (-1)) 4 1) 40
def σ0 : RS9 := (fun k => if k = 12 then -1 else 0, fun k => if k = 1 then μ0 else fun _ => 0)
theorem μ0_v {i : Nat} (h : ¬ (443 ≤ i ∧ (i - 443) % 61 = 0 ∧ (i - 443) / 61 < 40)) : μ0 i = if i = 4 then 1 else if i = 2 then -1 else 0 := by
  unfold μ0 tl
  rw [if_neg h]; rfl
theorem μ0_t {p : Nat} (h : p < 40) : μ0 (443 + 61 * p) = -1 := by
  unfold μ0 tl
  exact if_pos ⟨by omega, by omega, by omega⟩
theorem μ0_0 {i : Nat} (h : ¬ (443 ≤ i ∧ (i - 443) % 61 = 0 ∧ (i - 443) / 61 < 40)) (h4 : i ≠ 4) (h2 : i ≠ 2) : μ0 i = 0 := by rw [μ0_v h, if_neg h4, if_neg h2]
theorem μ0_vm : VM9 μ0 := by
  refine ⟨by rw [μ0_0 (by omega) (by omega) (by omega)]; decide, by rw [μ0_v (by omega), if_pos rfl]; decide, by rw [μ0_0 (by omega) (by omega) (by omega)]; decide, by rw [μ0_0 (by omega) (by omega) (by omega)]; decide, fun p hp => by rw [μ0_t hp]; decide, fun k hk => by rw [μ0_0 (by omega) (by omega) (by omega)]; decide, fun l hl => by rw [μ0_0 (by omega) (by omega) (by omega)]; decide⟩
theorem σ0_ri : RI σ0 := by
  have hV : VM9 (σ0.2 1) := μ0_vm
  have hT : TAB σ0 := by
    obtain ⟨p, R, h1, h2, h3, -, -⟩ := ct_two (ν := μ0) μ0_vm (fun _ _ _ => rfl)
    have e0 : μ0 0 = nI 0 := μ0_0 (by omega) (by omega) (by omega)
    have eR : R = 0 := nI_inj (by omega) (by omega) (h1.symm.trans e0)
    subst eR
    have ep : p = 0 := by
      by_cases hp : p = 0
      · exact hp
      · have h8 := h3.2.2.2.2.2.2.2 0 (by omega)
        have a1 := h8.2.1
        have a2 := h8.2.2.1
        have a3 := h8.2.2.2.1
        omega
    subst ep
    obtain ⟨b1, b2, b3, b4, b5, b6, b7, b8⟩ := h3
    have e45 : (CT μ0).1 45 = 0 := Int32.toInt_inj.mp (by rw [kt_0]; omega)
    exact ⟨0, 0, e0, by omega, rfl, b2, by omega, e45, by decide, by decide, by omega, fun i hi => absurd hi (by omega)⟩
  refine ⟨⟨hV, hT, bui_none ⟨hV, hT⟩ (fun i hi => μ0_t hi)⟩, by decide, ⟨0, rfl, by omega, fun s hs => absurd hs (by omega)⟩, Or.inl rfl, fun h => absurd rfl h⟩
set_option maxRecDepth 100000 in
theorem ff_hm : FF = rHm FF σ0 := by
  funext i
  by_cases hi : i < 181 ∨ 222 < i
  · exact (hm_off hi).symm
  · rcases (show i = 181 ∨ i = 182 ∨ i = 183 ∨ i = 184 ∨ i = 185 ∨ i = 186 ∨ i = 187 ∨ i = 188 ∨ i = 189 ∨ i = 190 ∨ i = 191 ∨ i = 192 ∨ i = 193 ∨ i = 194 ∨ i = 195 ∨ i = 196 ∨ i = 197 ∨ i = 198 ∨ i = 199 ∨ i = 200 ∨ i = 201 ∨ i = 202 ∨ i = 203 ∨ i = 204 ∨ i = 205 ∨ i = 206 ∨ i = 207 ∨ i = 208 ∨ i = 209 ∨ i = 210 ∨ i = 211 ∨ i = 212 ∨ i = 213 ∨ i = 214 ∨ i = 215 ∨ i = 216 ∨ i = 217 ∨ i = 218 ∨ i = 219 ∨ i = 220 ∨ i = 221 ∨ i = 222 by omega) with rfl | rfl | rfl | rfl | rfl | rfl | rfl | rfl | rfl | rfl | rfl | rfl | rfl | rfl | rfl | rfl | rfl | rfl | rfl | rfl | rfl | rfl | rfl | rfl | rfl | rfl | rfl | rfl | rfl | rfl | rfl | rfl | rfl | rfl | rfl | rfl | rfl | rfl | rfl | rfl | rfl | rfl
    · rfl
    · rfl
    · rfl
    · rfl
    · rfl
    · rfl
    · rfl
    · rfl
    · rfl
    · rfl
    · rfl
    · rfl
    · rfl
    · rfl
    · rfl
    · rfl
    · rfl
    · rfl
    · rfl
    · rfl
    · rfl
    · rfl
    · rfl
    · rfl
    · rfl
    · rfl
    · rfl
    · rfl
    · rfl
    · rfl
    · rfl
    · rfl
    · rfl
    · rfl
    · rfl
    · rfl
    · rfl
    · rfl
    · rfl
    · rfl
    · rfl
    · rfl
set_option maxRecDepth 100000 in
theorem ff_inv : INV FF 224 σ0 := ⟨G0, ff_wt, σ0_ri, ff_hm, fun _ => 0, rfl⟩
end
/-! part 65g.start -/
section
theorem st_known {s : State} {args : Array Value} (hts : ∀ w ∈ lw_tbl, w.before args s = true) : ∃ D : va_G, ∀ (k : Nat) (q : vw_C), vwCl[k]? = some q → u_Kn s q.1 q.2.1 q.2.2 (D.1 k) (D.2 k) := by
  have hall : ∀ w ∈ ALLW, w.before args s = true := fun w hw => hts w (List.mem_filter.mp hw).1
  have h1 : ∀ k : Nat, ∃ r : ClassId × (Nat → Nat), ∀ q : vw_C, vwCl[k]? = some q → u_Kn s q.1 q.2.1 q.2.2 r.1 r.2 := by
    intro k
    match k with
    | 0 =>
      obtain ⟨c9, i9, h9⟩ := u_known (ws := ALLW) (C := RX0) (T := TX0) (N := 4) (n := 4) hall uw0 (hts _ (List.mem_append_right _ (List.mem_of_getElem? (i := 245) (by decide +kernel))))
      exact ⟨(c9, i9), fun q hq => by cases hq; exact h9⟩
    | 1 =>
      obtain ⟨c9, i9, h9⟩ := u_known (ws := ALLW) (C := RX1) (T := TX1) (N := 8) (n := 8) hall uw1 (hts _ (List.mem_append_right _ (List.mem_of_getElem? (i := 102) (by decide +kernel))))
      exact ⟨(c9, i9), fun q hq => by cases hq; exact h9⟩
    | 2 =>
      obtain ⟨c9, i9, h9⟩ := u_known (ws := ALLW) (C := RX2) (T := TX2) (N := 3) (n := 3) hall uw2 (hts _ (List.mem_append_right _ (List.mem_of_getElem? (i := 620) (by decide +kernel))))
      exact ⟨(c9, i9), fun q hq => by cases hq; exact h9⟩
    | 3 =>
      obtain ⟨c9, i9, h9⟩ := u_known (ws := ALLW) (C := RX3) (T := TX3) (N := 12) (n := 12) hall uw3 (hts _ (List.mem_append_right _ (List.mem_of_getElem? (i := 160) (by decide +kernel))))
      exact ⟨(c9, i9), fun q hq => by cases hq; exact h9⟩
    | 4 =>
      obtain ⟨c9, i9, h9⟩ := u_known (ws := ALLW) (C := RX4) (T := TX4) (N := 8) (n := 8) hall uw4 (hts _ (List.mem_append_right _ (List.mem_of_getElem? (i := 268) (by decide +kernel))))
      exact ⟨(c9, i9), fun q hq => by cases hq; exact h9⟩
    | 5 =>
      obtain ⟨c9, i9, h9⟩ := u_known (ws := ALLW) (C := RX5) (T := TX5) (N := 2) (n := 2) hall uw5 (hts _ (List.mem_append_right _ (List.mem_of_getElem? (i := 32) (by decide +kernel))))
      exact ⟨(c9, i9), fun q hq => by cases hq; exact h9⟩
    | 6 =>
      obtain ⟨c9, i9, h9⟩ := u_known (ws := ALLW) (C := RX6) (T := TX6) (N := 10) (n := 10) hall uw6 (hts _ (List.mem_append_right _ (List.mem_of_getElem? (i := 110) (by decide +kernel))))
      exact ⟨(c9, i9), fun q hq => by cases hq; exact h9⟩
    | 7 =>
      obtain ⟨c9, i9, h9⟩ := u_known (ws := ALLW) (C := RX7) (T := TX7) (N := 10) (n := 10) hall uw7 (hts _ (List.mem_append_right _ (List.mem_of_getElem? (i := 46) (by decide +kernel))))
      exact ⟨(c9, i9), fun q hq => by cases hq; exact h9⟩
    | 8 =>
      obtain ⟨c9, i9, h9⟩ := u_known (ws := ALLW) (C := RX8) (T := TX8) (N := 14) (n := 14) hall uw8 (hts _ (List.mem_append_right _ (List.mem_of_getElem? (i := 24) (by decide +kernel))))
      exact ⟨(c9, i9), fun q hq => by cases hq; exact h9⟩
    | 9 =>
      obtain ⟨c9, i9, h9⟩ := u_known (ws := ALLW) (C := RX9) (T := TX9) (N := 60) (n := 60) hall uw9 (hts _ (List.mem_append_right _ (List.mem_of_getElem? (i := 1138) (by decide +kernel))))
      exact ⟨(c9, i9), fun q hq => by cases hq; exact h9⟩
    | k + 10 => exact ⟨(0, fun _ => 0), fun q hq => by simp [vwCl] at hq⟩
  refine ⟨(fun k => (Classical.choose (h1 k)).1, fun k => (Classical.choose (h1 k)).2), fun k q hq => Classical.choose_spec (h1 k) q hq⟩
theorem st_arr {s : State} {args : Array Value} (hts : ∀ w ∈ lw_tbl, w.before args s = true) (b : Nat) (D : va_G) : ∃ a : Nat → ClassId, ∀ (k : Nat) (q : ClassId × FieldType), (tysX (b, D, a))[k]? = some q → ArrOfT s q.1 q.2 ∧ va_RA s q.1 q.2 := by
  obtain ⟨c0, k0, m0, f01, f02, f03⟩ := Cond.arrayClass_spec (hts (.arrayClass .int) (List.mem_append_right _ (List.mem_of_getElem? (i := 44) (by decide +kernel))))
  obtain ⟨c4, k4, m4, f41, f42, f43⟩ := Cond.arrayClass_spec (hts (.arrayClass .long) (List.mem_append_right _ (List.mem_of_getElem? (i := 1771) (by decide +kernel))))
  obtain ⟨m1, c1, k1, g11, -, g12, g13, g14⟩ := Cond.arrayOver_spec (hts (.arrayOver (.object "PieceFiles$Piece")) (List.mem_append_right _ (List.mem_of_getElem? (i := 159) (by decide +kernel))))
  obtain ⟨m2, c2, k2, g21, -, g22, g23, g24⟩ := Cond.arrayOver_spec (hts (.arrayOver (.object "PieceFiles$Row")) (List.mem_append_right _ (List.mem_of_getElem? (i := 53) (by decide +kernel))))
  obtain ⟨m3, c3, k3, g31, -, g32, g33, g34⟩ := Cond.arrayOver_spec (hts (.arrayOver (.object "PieceFiles$State")) (List.mem_append_right _ (List.mem_of_getElem? (i := 100) (by decide +kernel))))
  refine ⟨fun k => match k with
    | 0 => c0
    | 1 => c1
    | 2 => c2
    | 3 => c3
    | _ => c4, ?_⟩
  intro k q hq
  match k, hq with
  | 0, hq => cases hq; exact ⟨fun n z => ⟨(fun k h => by cases h), k0, f02, m0, f03⟩, f01⟩
  | 1, hq => cases hq; exact ⟨fun n z => ⟨(fun k h => by cases h), k1, g12, m1, g13⟩, k1, m1, g12, g13, g11, g14⟩
  | 2, hq => cases hq; exact ⟨fun n z => ⟨(fun k h => by cases h), k2, g22, m2, g23⟩, k2, m2, g22, g23, g21, g24⟩
  | 3, hq => cases hq; exact ⟨fun n z => ⟨(fun k h => by cases h), k3, g32, m3, g33⟩, k3, m3, g32, g33, g31, g34⟩
  | 4, hq => cases hq; exact ⟨fun n z => ⟨(fun k h => by cases h), k4, f42, m4, f43⟩, f41⟩
  | k + 5, hq => simp [tysX] at hq
theorem st_str {s : State} {args : Array Value} {own tx : String} {k : Nat} (h1 : (Cond.stringRef own k tx).before args s = true) (h2 : (Cond.exactly (.string own k) "java/lang/String").before args s = true) : ∃ sa, vk_R own k tx sa s := by
  obtain ⟨a, -, -, -, h3, -⟩ := Cond.exactly_spec h2
  exact ⟨a, vk_R.of h1 h3⟩
theorem st_xw {s : State} {args : Array Value} (hts : ∀ w ∈ lw_tbl, w.before args s = true) : ∀ w ∈ xW, va_Nw w s := by
  intro w hw
  simp only [xW, List.mem_cons, List.not_mem_nil, or_false] at hw
  rcases hw with rfl | rfl | rfl | rfl | rfl | rfl | rfl | rfl | rfl | rfl
  · exact va_Nw.of rfl (hts _ (List.mem_append_right _ (List.mem_of_getElem? (i := 161) (by decide +kernel))))
  · exact va_Nw.of rfl (hts _ (List.mem_append_right _ (List.mem_of_getElem? (i := 501) (by decide +kernel))))
  · exact va_Nw.of rfl (hts _ (List.mem_append_right _ (List.mem_of_getElem? (i := 1123) (by decide +kernel))))
  · exact va_Nw.of rfl (hts _ (List.mem_append_right _ (List.mem_of_getElem? (i := 910) (by decide +kernel))))
  · exact va_Nw.of rfl (hts _ (List.mem_append_right _ (List.mem_of_getElem? (i := 651) (by decide +kernel))))
  · exact va_Nw.of rfl (hts _ (List.mem_append_right _ (List.mem_of_getElem? (i := 1040) (by decide +kernel))))
  · exact va_Nw.of rfl (hts _ (List.mem_append_right _ (List.mem_of_getElem? (i := 942) (by decide +kernel))))
  · exact va_Nw.of rfl (hts _ (List.mem_append_right _ (List.mem_of_getElem? (i := 653) (by decide +kernel))))
  · exact va_Nw.of rfl (hts _ (List.mem_append_right _ (List.mem_of_getElem? (i := 655) (by decide +kernel))))
  · exact va_Nw.of rfl (hts _ (List.mem_append_right _ (List.mem_of_getElem? (i := 657) (by decide +kernel))))
set_option maxRecDepth 100000 in
theorem st_strs {s : State} {args : Array Value} (hts : ∀ w ∈ lw_tbl, w.before args s = true) (hgv : (Jvm.Cond.and given_1 narrow_1).before args s = true) : ∀ q ∈ strsX, ∃ sa, vk_R q.1 q.2.1 q.2.2 sa s := by
  have hs := flat_of_before _ hgv
  intro q hq
  simp only [strsX, List.mem_cons, List.not_mem_nil, or_false] at hq
  rcases hq with rfl | rfl | rfl | rfl | rfl | rfl | rfl | rfl | rfl | rfl | rfl
  · exact st_str (own := "PieceFiles") (k := 118) (tx := "the text is wrong") (hts _ (List.mem_append_right _ (List.mem_of_getElem? (i := 917) (by decide +kernel)))) (hs (.exactly (.string "PieceFiles" 118) "java/lang/String") (by decide +kernel))
  · exact st_str (own := "PieceFiles") (k := 137) (tx := "there is no such kind") (hts _ (List.mem_append_right _ (List.mem_of_getElem? (i := 931) (by decide +kernel)))) (hs (.exactly (.string "PieceFiles" 137) "java/lang/String") (by decide +kernel))
  · exact st_str (own := "PieceFiles") (k := 144) (tx := "there is no such rule") (hts _ (List.mem_append_right _ (List.mem_of_getElem? (i := 949) (by decide +kernel)))) (hs (.exactly (.string "PieceFiles" 144) "java/lang/String") (by decide +kernel))
  · exact st_str (own := "PieceFiles") (k := 147) (tx := "the rule has no such number") (hts _ (List.mem_append_right _ (List.mem_of_getElem? (i := 956) (by decide +kernel)))) (hs (.exactly (.string "PieceFiles" 147) "java/lang/String") (by decide +kernel))
  · exact st_str (own := "PieceFiles") (k := 153) (tx := "it is no word") (hts _ (List.mem_append_right _ (List.mem_of_getElem? (i := 973) (by decide +kernel)))) (hs (.exactly (.string "PieceFiles" 153) "java/lang/String") (by decide +kernel))
  · exact st_str (own := "PieceFiles") (k := 158) (tx := "more than 60 bytes") (hts _ (List.mem_append_right _ (List.mem_of_getElem? (i := 985) (by decide +kernel)))) (hs (.exactly (.string "PieceFiles" 158) "java/lang/String") (by decide +kernel))
  · exact st_str (own := "PieceFiles") (k := 172) (tx := "there is none to take back") (hts _ (List.mem_append_right _ (List.mem_of_getElem? (i := 1025) (by decide +kernel)))) (hs (.exactly (.string "PieceFiles" 172) "java/lang/String") (by decide +kernel))
  · exact st_str (own := "PieceFiles") (k := 211) (tx := "nothing such is told of a piece") (hts _ (List.mem_append_right _ (List.mem_of_getElem? (i := 1058) (by decide +kernel)))) (hs (.exactly (.string "PieceFiles" 211) "java/lang/String") (by decide +kernel))
  · exact st_str (own := "PieceFiles") (k := 230) (tx := "nothing such is told of a key") (hts _ (List.mem_append_right _ (List.mem_of_getElem? (i := 1088) (by decide +kernel)))) (hs (.exactly (.string "PieceFiles" 230) "java/lang/String") (by decide +kernel))
  · exact st_str (own := "PieceFiles") (k := 323) (tx := "there is no such piece") (hts _ (List.mem_append_right _ (List.mem_of_getElem? (i := 1047) (by decide +kernel)))) (hs (.exactly (.string "PieceFiles" 323) "java/lang/String") (by decide +kernel))
  · exact st_str (own := "PieceFiles") (k := 326) (tx := "the act is refused") (hts _ (List.mem_append_right _ (List.mem_of_getElem? (i := 691) (by decide +kernel)))) (hs (.exactly (.string "PieceFiles" 326) "java/lang/String") (by decide +kernel))
set_option maxRecDepth 100000 in
theorem st_nc {s : State} {args : Array Value} (hgv : (Jvm.Cond.and given_1 narrow_1).before args s = true) : ∀ q ∈ ncX, va_Nc q.1 q.2 s := by
  have hs := flat_of_before _ hgv
  intro q hq
  simp only [ncX, List.mem_cons, List.not_mem_nil, or_false] at hq
  rcases hq with rfl | rfl | rfl | rfl
  · exact va_Nc.of (hs (.not (.castable eA eN)) (by decide +kernel))
  · exact va_Nc.of (hs (.not (.castable eS eA)) (by decide +kernel))
  · exact va_Nc.of (hs (.not (.castable eN eI)) (by decide +kernel))
  · exact va_Nc.of (hs (.not (.castable eA eI)) (by decide +kernel))
theorem te9_0 {s : State} {args : Array Value} (hs : ∀ w ∈ flatC (Jvm.Cond.and given_1 narrow_1), w.before args s = true) : ∀ j : Nat, j < 4 → (Cond.eq (.elem (.field (.string "PieceFilesModel" 186) "java/lang/String" "value" "[B") (.int (Int32.ofNat j))) (.int (([38, 108, 116, 59] : List Int32).getD j 0))).before args s = true
  | 0, _ => hs _ tw9_0_4
  | 1, _ => hs _ tw9_0_5
  | 2, _ => hs _ tw9_0_6
  | 3, _ => hs _ tw9_0_7
  | k + 4, h => absurd h (by omega)
theorem te9_1 {s : State} {args : Array Value} (hs : ∀ w ∈ flatC (Jvm.Cond.and given_1 narrow_1), w.before args s = true) : ∀ j : Nat, j < 4 → (Cond.eq (.elem (.field (.string "PieceFilesModel" 192) "java/lang/String" "value" "[B") (.int (Int32.ofNat j))) (.int (([38, 103, 116, 59] : List Int32).getD j 0))).before args s = true
  | 0, _ => hs _ tw9_1_4
  | 1, _ => hs _ tw9_1_5
  | 2, _ => hs _ tw9_1_6
  | 3, _ => hs _ tw9_1_7
  | k + 4, h => absurd h (by omega)
theorem te9_2 {s : State} {args : Array Value} (hs : ∀ w ∈ flatC (Jvm.Cond.and given_1 narrow_1), w.before args s = true) : ∀ j : Nat, j < 5 → (Cond.eq (.elem (.field (.string "PieceFilesModel" 194) "java/lang/String" "value" "[B") (.int (Int32.ofNat j))) (.int (([38, 97, 109, 112, 59] : List Int32).getD j 0))).before args s = true
  | 0, _ => hs _ tw9_2_4
  | 1, _ => hs _ tw9_2_5
  | 2, _ => hs _ tw9_2_6
  | 3, _ => hs _ tw9_2_7
  | 4, _ => hs _ tw9_2_8
  | k + 5, h => absurd h (by omega)
theorem te9_3 {s : State} {args : Array Value} (hs : ∀ w ∈ flatC (Jvm.Cond.and given_1 narrow_1), w.before args s = true) : ∀ j : Nat, j < 4 → (Cond.eq (.elem (.field (.string "PieceFilesModel" 373) "java/lang/String" "value" "[B") (.int (Int32.ofNat j))) (.int (([107, 105, 110, 100] : List Int32).getD j 0))).before args s = true
  | 0, _ => hs _ tw9_3_4
  | 1, _ => hs _ tw9_3_5
  | 2, _ => hs _ tw9_3_6
  | 3, _ => hs _ tw9_3_7
  | k + 4, h => absurd h (by omega)
theorem te9_4 {s : State} {args : Array Value} (hs : ∀ w ∈ flatC (Jvm.Cond.and given_1 narrow_1), w.before args s = true) : ∀ j : Nat, j < 5 → (Cond.eq (.elem (.field (.string "PieceFilesModel" 383) "java/lang/String" "value" "[B") (.int (Int32.ofNat j))) (.int (([105, 110, 110, 101, 114] : List Int32).getD j 0))).before args s = true
  | 0, _ => hs _ tw9_4_4
  | 1, _ => hs _ tw9_4_5
  | 2, _ => hs _ tw9_4_6
  | 3, _ => hs _ tw9_4_7
  | 4, _ => hs _ tw9_4_8
  | k + 5, h => absurd h (by omega)
theorem te9_5 {s : State} {args : Array Value} (hs : ∀ w ∈ flatC (Jvm.Cond.and given_1 narrow_1), w.before args s = true) : ∀ j : Nat, j < 5 → (Cond.eq (.elem (.field (.string "PieceFilesModel" 385) "java/lang/String" "value" "[B") (.int (Int32.ofNat j))) (.int (([112, 108, 97, 105, 110] : List Int32).getD j 0))).before args s = true
  | 0, _ => hs _ tw9_5_4
  | 1, _ => hs _ tw9_5_5
  | 2, _ => hs _ tw9_5_6
  | 3, _ => hs _ tw9_5_7
  | 4, _ => hs _ tw9_5_8
  | k + 5, h => absurd h (by omega)
theorem te9_6 {s : State} {args : Array Value} (hs : ∀ w ∈ flatC (Jvm.Cond.and given_1 narrow_1), w.before args s = true) : ∀ j : Nat, j < 7 → (Cond.eq (.elem (.field (.string "PieceFilesModel" 386) "java/lang/String" "value" "[B") (.int (Int32.ofNat j))) (.int (([108, 101, 116, 116, 101, 114, 115] : List Int32).getD j 0))).before args s = true
  | 0, _ => hs _ tw9_6_4
  | 1, _ => hs _ tw9_6_5
  | 2, _ => hs _ tw9_6_6
  | 3, _ => hs _ tw9_6_7
  | 4, _ => hs _ tw9_6_8
  | 5, _ => hs _ tw9_6_9
  | 6, _ => hs _ tw9_6_10
  | k + 7, h => absurd h (by omega)
theorem te9_7 {s : State} {args : Array Value} (hs : ∀ w ∈ flatC (Jvm.Cond.and given_1 narrow_1), w.before args s = true) : ∀ j : Nat, j < 3 → (Cond.eq (.elem (.field (.string "PieceFilesModel" 388) "java/lang/String" "value" "[B") (.int (Int32.ofNat j))) (.int (([97, 110, 121] : List Int32).getD j 0))).before args s = true
  | 0, _ => hs _ tw9_7_4
  | 1, _ => hs _ tw9_7_5
  | 2, _ => hs _ tw9_7_6
  | k + 3, h => absurd h (by omega)
theorem te9_8 {s : State} {args : Array Value} (hs : ∀ w ∈ flatC (Jvm.Cond.and given_1 narrow_1), w.before args s = true) : ∀ j : Nat, j < 5 → (Cond.eq (.elem (.field (.string "PieceFilesModel" 390) "java/lang/String" "value" "[B") (.int (Int32.ofNat j))) (.int (([108, 101, 97, 115, 116] : List Int32).getD j 0))).before args s = true
  | 0, _ => hs _ tw9_8_4
  | 1, _ => hs _ tw9_8_5
  | 2, _ => hs _ tw9_8_6
  | 3, _ => hs _ tw9_8_7
  | 4, _ => hs _ tw9_8_8
  | k + 5, h => absurd h (by omega)
theorem te9_9 {s : State} {args : Array Value} (hs : ∀ w ∈ flatC (Jvm.Cond.and given_1 narrow_1), w.before args s = true) : ∀ j : Nat, j < 4 → (Cond.eq (.elem (.field (.string "PieceFilesModel" 392) "java/lang/String" "value" "[B") (.int (Int32.ofNat j))) (.int (([108, 111, 99, 107] : List Int32).getD j 0))).before args s = true
  | 0, _ => hs _ tw9_9_4
  | 1, _ => hs _ tw9_9_5
  | 2, _ => hs _ tw9_9_6
  | 3, _ => hs _ tw9_9_7
  | k + 4, h => absurd h (by omega)
theorem te9_10 {s : State} {args : Array Value} (hs : ∀ w ∈ flatC (Jvm.Cond.and given_1 narrow_1), w.before args s = true) : ∀ j : Nat, j < 6 → (Cond.eq (.elem (.field (.string "PieceFilesModel" 397) "java/lang/String" "value" "[B") (.int (Int32.ofNat j))) (.int (([117, 110, 108, 111, 99, 107] : List Int32).getD j 0))).before args s = true
  | 0, _ => hs _ tw9_10_4
  | 1, _ => hs _ tw9_10_5
  | 2, _ => hs _ tw9_10_6
  | 3, _ => hs _ tw9_10_7
  | 4, _ => hs _ tw9_10_8
  | 5, _ => hs _ tw9_10_9
  | k + 6, h => absurd h (by omega)
theorem te9_11 {s : State} {args : Array Value} (hs : ∀ w ∈ flatC (Jvm.Cond.and given_1 narrow_1), w.before args s = true) : ∀ j : Nat, j < 4 → (Cond.eq (.elem (.field (.string "PieceFilesModel" 402) "java/lang/String" "value" "[B") (.int (Int32.ofNat j))) (.int (([102, 114, 101, 101] : List Int32).getD j 0))).before args s = true
  | 0, _ => hs _ tw9_11_4
  | 1, _ => hs _ tw9_11_5
  | 2, _ => hs _ tw9_11_6
  | 3, _ => hs _ tw9_11_7
  | k + 4, h => absurd h (by omega)
theorem te9_12 {s : State} {args : Array Value} (hs : ∀ w ∈ flatC (Jvm.Cond.and given_1 narrow_1), w.before args s = true) : ∀ j : Nat, j < 6 → (Cond.eq (.elem (.field (.string "PieceFilesModel" 408) "java/lang/String" "value" "[B") (.int (Int32.ofNat j))) (.int (([115, 112, 114, 101, 97, 100] : List Int32).getD j 0))).before args s = true
  | 0, _ => hs _ tw9_12_4
  | 1, _ => hs _ tw9_12_5
  | 2, _ => hs _ tw9_12_6
  | 3, _ => hs _ tw9_12_7
  | 4, _ => hs _ tw9_12_8
  | 5, _ => hs _ tw9_12_9
  | k + 6, h => absurd h (by omega)
theorem te9_13 {s : State} {args : Array Value} (hs : ∀ w ∈ flatC (Jvm.Cond.and given_1 narrow_1), w.before args s = true) : ∀ j : Nat, j < 4 → (Cond.eq (.elem (.field (.string "PieceFilesModel" 410) "java/lang/String" "value" "[B") (.int (Int32.ofNat j))) (.int (([115, 119, 97, 112] : List Int32).getD j 0))).before args s = true
  | 0, _ => hs _ tw9_13_4
  | 1, _ => hs _ tw9_13_5
  | 2, _ => hs _ tw9_13_6
  | 3, _ => hs _ tw9_13_7
  | k + 4, h => absurd h (by omega)
theorem te9_14 {s : State} {args : Array Value} (hs : ∀ w ∈ flatC (Jvm.Cond.and given_1 narrow_1), w.before args s = true) : ∀ j : Nat, j < 4 → (Cond.eq (.elem (.field (.string "PieceFilesModel" 415) "java/lang/String" "value" "[B") (.int (Int32.ofNat j))) (.int (([119, 105, 112, 101] : List Int32).getD j 0))).before args s = true
  | 0, _ => hs _ tw9_14_4
  | 1, _ => hs _ tw9_14_5
  | 2, _ => hs _ tw9_14_6
  | 3, _ => hs _ tw9_14_7
  | k + 4, h => absurd h (by omega)
theorem st_s9 {s : State} {args : Array Value} (hs : ∀ w ∈ flatC (Jvm.Cond.and given_1 narrow_1), w.before args s = true) {A : Nat → Prop} (hA : ∀ a : Nat, a < s.heap.size → ¬ A a) : ∃ adK adV : Nat → Nat, vk_S 15 sL9 sB9 adK adV A s s.heap ∧ ∀ i : Nat, i < 15 → (Term.string "PieceFilesModel" (sI9.getD i 0)).eval args s none [] s = some (.ref (adK i)) := by
  refine vs_of (tm := fun i => Term.string "PieceFilesModel" (sI9.getD i 0)) ?_ ?_ ?_ ?_ ?_ ?_ sD9 hA
  · have h : ∀ i : Fin 15, sL9.getD (i : Nat) 0 < 2 ^ 31 := by decide
    exact fun i hi => h ⟨i, hi⟩
  · intro i hi
    match i, hi with
    | 0, _ => exact hs _ tw9_0_0
    | 1, _ => exact hs _ tw9_1_0
    | 2, _ => exact hs _ tw9_2_0
    | 3, _ => exact hs _ tw9_3_0
    | 4, _ => exact hs _ tw9_4_0
    | 5, _ => exact hs _ tw9_5_0
    | 6, _ => exact hs _ tw9_6_0
    | 7, _ => exact hs _ tw9_7_0
    | 8, _ => exact hs _ tw9_8_0
    | 9, _ => exact hs _ tw9_9_0
    | 10, _ => exact hs _ tw9_10_0
    | 11, _ => exact hs _ tw9_11_0
    | 12, _ => exact hs _ tw9_12_0
    | 13, _ => exact hs _ tw9_13_0
    | 14, _ => exact hs _ tw9_14_0
    | k + 15, h => exact absurd h (by omega)
  · intro i hi
    match i, hi with
    | 0, _ => exact hs _ tw9_0_1
    | 1, _ => exact hs _ tw9_1_1
    | 2, _ => exact hs _ tw9_2_1
    | 3, _ => exact hs _ tw9_3_1
    | 4, _ => exact hs _ tw9_4_1
    | 5, _ => exact hs _ tw9_5_1
    | 6, _ => exact hs _ tw9_6_1
    | 7, _ => exact hs _ tw9_7_1
    | 8, _ => exact hs _ tw9_8_1
    | 9, _ => exact hs _ tw9_9_1
    | 10, _ => exact hs _ tw9_10_1
    | 11, _ => exact hs _ tw9_11_1
    | 12, _ => exact hs _ tw9_12_1
    | 13, _ => exact hs _ tw9_13_1
    | 14, _ => exact hs _ tw9_14_1
    | k + 15, h => exact absurd h (by omega)
  · intro i hi
    match i, hi with
    | 0, _ => exact hs _ tw9_0_2
    | 1, _ => exact hs _ tw9_1_2
    | 2, _ => exact hs _ tw9_2_2
    | 3, _ => exact hs _ tw9_3_2
    | 4, _ => exact hs _ tw9_4_2
    | 5, _ => exact hs _ tw9_5_2
    | 6, _ => exact hs _ tw9_6_2
    | 7, _ => exact hs _ tw9_7_2
    | 8, _ => exact hs _ tw9_8_2
    | 9, _ => exact hs _ tw9_9_2
    | 10, _ => exact hs _ tw9_10_2
    | 11, _ => exact hs _ tw9_11_2
    | 12, _ => exact hs _ tw9_12_2
    | 13, _ => exact hs _ tw9_13_2
    | 14, _ => exact hs _ tw9_14_2
    | k + 15, h => exact absurd h (by omega)
  · intro i hi
    match i, hi with
    | 0, _ => exact hs _ tw9_0_3
    | 1, _ => exact hs _ tw9_1_3
    | 2, _ => exact hs _ tw9_2_3
    | 3, _ => exact hs _ tw9_3_3
    | 4, _ => exact hs _ tw9_4_3
    | 5, _ => exact hs _ tw9_5_3
    | 6, _ => exact hs _ tw9_6_3
    | 7, _ => exact hs _ tw9_7_3
    | 8, _ => exact hs _ tw9_8_3
    | 9, _ => exact hs _ tw9_9_3
    | 10, _ => exact hs _ tw9_10_3
    | 11, _ => exact hs _ tw9_11_3
    | 12, _ => exact hs _ tw9_12_3
    | 13, _ => exact hs _ tw9_13_3
    | 14, _ => exact hs _ tw9_14_3
    | k + 15, h => exact absurd h (by omega)
  · intro i hi
    match i, hi with
    | 0, _ => exact te9_0 hs
    | 1, _ => exact te9_1 hs
    | 2, _ => exact te9_2 hs
    | 3, _ => exact te9_3 hs
    | 4, _ => exact te9_4 hs
    | 5, _ => exact te9_5 hs
    | 6, _ => exact te9_6 hs
    | 7, _ => exact te9_7 hs
    | 8, _ => exact te9_8 hs
    | 9, _ => exact te9_9 hs
    | 10, _ => exact te9_10 hs
    | 11, _ => exact te9_11 hs
    | 12, _ => exact te9_12 hs
    | 13, _ => exact te9_13 hs
    | 14, _ => exact te9_14 hs
    | k + 15, h => exact absurd h (by omega)
theorem st_r9 {s : State} {args : Array Value} (hts : ∀ w ∈ lw_tbl, w.before args s = true) : ∀ i : Nat, i < 15 → (Cond.stringRef "PieceFilesModel" (sI9.getD i 0) (sT9.getD i "")).before args s = true := by
  intro i hi
  match i, hi with
  | 0, _ => exact (hts _ (List.mem_append_right _ (List.mem_of_getElem? (i := 1432) (by decide +kernel))))
  | 1, _ => exact (hts _ (List.mem_append_right _ (List.mem_of_getElem? (i := 1436) (by decide +kernel))))
  | 2, _ => exact (hts _ (List.mem_append_right _ (List.mem_of_getElem? (i := 1437) (by decide +kernel))))
  | 3, _ => exact (hts _ (List.mem_append_right _ (List.mem_of_getElem? (i := 1359) (by decide +kernel))))
  | 4, _ => exact (hts _ (List.mem_append_right _ (List.mem_of_getElem? (i := 1457) (by decide +kernel))))
  | 5, _ => exact (hts _ (List.mem_append_right _ (List.mem_of_getElem? (i := 1458) (by decide +kernel))))
  | 6, _ => exact (hts _ (List.mem_append_right _ (List.mem_of_getElem? (i := 1459) (by decide +kernel))))
  | 7, _ => exact (hts _ (List.mem_append_right _ (List.mem_of_getElem? (i := 1460) (by decide +kernel))))
  | 8, _ => exact (hts _ (List.mem_append_right _ (List.mem_of_getElem? (i := 1461) (by decide +kernel))))
  | 9, _ => exact (hts _ (List.mem_append_right _ (List.mem_of_getElem? (i := 1462) (by decide +kernel))))
  | 10, _ => exact (hts _ (List.mem_append_right _ (List.mem_of_getElem? (i := 1471) (by decide +kernel))))
  | 11, _ => exact (hts _ (List.mem_append_right _ (List.mem_of_getElem? (i := 1476) (by decide +kernel))))
  | 12, _ => exact (hts _ (List.mem_append_right _ (List.mem_of_getElem? (i := 1552) (by decide +kernel))))
  | 13, _ => exact (hts _ (List.mem_append_right _ (List.mem_of_getElem? (i := 1553) (by decide +kernel))))
  | 14, _ => exact (hts _ (List.mem_append_right _ (List.mem_of_getElem? (i := 1570) (by decide +kernel))))
  | k + 15, h => exact absurd h (by omega)
theorem te4_0 {s : State} {args : Array Value} (hs : ∀ w ∈ flatC (Jvm.Cond.and given_1 narrow_1), w.before args s = true) : ∀ j : Nat, j < 4 → (Cond.eq (.elem (.field (.string "PieceFiles$Reader" 66) "java/lang/String" "value" "[B") (.int (Int32.ofNat j))) (.int (([107, 105, 110, 100] : List Int32).getD j 0))).before args s = true
  | 0, _ => hs _ tw4_0_4
  | 1, _ => hs _ tw4_0_5
  | 2, _ => hs _ tw4_0_6
  | 3, _ => hs _ tw4_0_7
  | k + 4, h => absurd h (by omega)
theorem te4_1 {s : State} {args : Array Value} (hs : ∀ w ∈ flatC (Jvm.Cond.and given_1 narrow_1), w.before args s = true) : ∀ j : Nat, j < 5 → (Cond.eq (.elem (.field (.string "PieceFiles$Reader" 68) "java/lang/String" "value" "[B") (.int (Int32.ofNat j))) (.int (([105, 110, 110, 101, 114] : List Int32).getD j 0))).before args s = true
  | 0, _ => hs _ tw4_1_4
  | 1, _ => hs _ tw4_1_5
  | 2, _ => hs _ tw4_1_6
  | 3, _ => hs _ tw4_1_7
  | 4, _ => hs _ tw4_1_8
  | k + 5, h => absurd h (by omega)
theorem te4_2 {s : State} {args : Array Value} (hs : ∀ w ∈ flatC (Jvm.Cond.and given_1 narrow_1), w.before args s = true) : ∀ j : Nat, j < 5 → (Cond.eq (.elem (.field (.string "PieceFiles$Reader" 70) "java/lang/String" "value" "[B") (.int (Int32.ofNat j))) (.int (([112, 108, 97, 105, 110] : List Int32).getD j 0))).before args s = true
  | 0, _ => hs _ tw4_2_4
  | 1, _ => hs _ tw4_2_5
  | 2, _ => hs _ tw4_2_6
  | 3, _ => hs _ tw4_2_7
  | 4, _ => hs _ tw4_2_8
  | k + 5, h => absurd h (by omega)
theorem te4_3 {s : State} {args : Array Value} (hs : ∀ w ∈ flatC (Jvm.Cond.and given_1 narrow_1), w.before args s = true) : ∀ j : Nat, j < 7 → (Cond.eq (.elem (.field (.string "PieceFiles$Reader" 72) "java/lang/String" "value" "[B") (.int (Int32.ofNat j))) (.int (([108, 101, 116, 116, 101, 114, 115] : List Int32).getD j 0))).before args s = true
  | 0, _ => hs _ tw4_3_4
  | 1, _ => hs _ tw4_3_5
  | 2, _ => hs _ tw4_3_6
  | 3, _ => hs _ tw4_3_7
  | 4, _ => hs _ tw4_3_8
  | 5, _ => hs _ tw4_3_9
  | 6, _ => hs _ tw4_3_10
  | k + 7, h => absurd h (by omega)
theorem te4_4 {s : State} {args : Array Value} (hs : ∀ w ∈ flatC (Jvm.Cond.and given_1 narrow_1), w.before args s = true) : ∀ j : Nat, j < 3 → (Cond.eq (.elem (.field (.string "PieceFiles$Reader" 74) "java/lang/String" "value" "[B") (.int (Int32.ofNat j))) (.int (([97, 110, 121] : List Int32).getD j 0))).before args s = true
  | 0, _ => hs _ tw4_4_4
  | 1, _ => hs _ tw4_4_5
  | 2, _ => hs _ tw4_4_6
  | k + 3, h => absurd h (by omega)
theorem te4_5 {s : State} {args : Array Value} (hs : ∀ w ∈ flatC (Jvm.Cond.and given_1 narrow_1), w.before args s = true) : ∀ j : Nat, j < 5 → (Cond.eq (.elem (.field (.string "PieceFiles$Reader" 76) "java/lang/String" "value" "[B") (.int (Int32.ofNat j))) (.int (([108, 101, 97, 115, 116] : List Int32).getD j 0))).before args s = true
  | 0, _ => hs _ tw4_5_4
  | 1, _ => hs _ tw4_5_5
  | 2, _ => hs _ tw4_5_6
  | 3, _ => hs _ tw4_5_7
  | 4, _ => hs _ tw4_5_8
  | k + 5, h => absurd h (by omega)
theorem te4_6 {s : State} {args : Array Value} (hs : ∀ w ∈ flatC (Jvm.Cond.and given_1 narrow_1), w.before args s = true) : ∀ j : Nat, j < 4 → (Cond.eq (.elem (.field (.string "PieceFiles$Reader" 78) "java/lang/String" "value" "[B") (.int (Int32.ofNat j))) (.int (([108, 111, 99, 107] : List Int32).getD j 0))).before args s = true
  | 0, _ => hs _ tw4_6_4
  | 1, _ => hs _ tw4_6_5
  | 2, _ => hs _ tw4_6_6
  | 3, _ => hs _ tw4_6_7
  | k + 4, h => absurd h (by omega)
theorem te4_7 {s : State} {args : Array Value} (hs : ∀ w ∈ flatC (Jvm.Cond.and given_1 narrow_1), w.before args s = true) : ∀ j : Nat, j < 6 → (Cond.eq (.elem (.field (.string "PieceFiles$Reader" 80) "java/lang/String" "value" "[B") (.int (Int32.ofNat j))) (.int (([117, 110, 108, 111, 99, 107] : List Int32).getD j 0))).before args s = true
  | 0, _ => hs _ tw4_7_4
  | 1, _ => hs _ tw4_7_5
  | 2, _ => hs _ tw4_7_6
  | 3, _ => hs _ tw4_7_7
  | 4, _ => hs _ tw4_7_8
  | 5, _ => hs _ tw4_7_9
  | k + 6, h => absurd h (by omega)
theorem te4_8 {s : State} {args : Array Value} (hs : ∀ w ∈ flatC (Jvm.Cond.and given_1 narrow_1), w.before args s = true) : ∀ j : Nat, j < 4 → (Cond.eq (.elem (.field (.string "PieceFiles$Reader" 82) "java/lang/String" "value" "[B") (.int (Int32.ofNat j))) (.int (([102, 114, 101, 101] : List Int32).getD j 0))).before args s = true
  | 0, _ => hs _ tw4_8_4
  | 1, _ => hs _ tw4_8_5
  | 2, _ => hs _ tw4_8_6
  | 3, _ => hs _ tw4_8_7
  | k + 4, h => absurd h (by omega)
theorem te4_9 {s : State} {args : Array Value} (hs : ∀ w ∈ flatC (Jvm.Cond.and given_1 narrow_1), w.before args s = true) : ∀ j : Nat, j < 6 → (Cond.eq (.elem (.field (.string "PieceFiles$Reader" 84) "java/lang/String" "value" "[B") (.int (Int32.ofNat j))) (.int (([115, 112, 114, 101, 97, 100] : List Int32).getD j 0))).before args s = true
  | 0, _ => hs _ tw4_9_4
  | 1, _ => hs _ tw4_9_5
  | 2, _ => hs _ tw4_9_6
  | 3, _ => hs _ tw4_9_7
  | 4, _ => hs _ tw4_9_8
  | 5, _ => hs _ tw4_9_9
  | k + 6, h => absurd h (by omega)
theorem te4_10 {s : State} {args : Array Value} (hs : ∀ w ∈ flatC (Jvm.Cond.and given_1 narrow_1), w.before args s = true) : ∀ j : Nat, j < 4 → (Cond.eq (.elem (.field (.string "PieceFiles$Reader" 86) "java/lang/String" "value" "[B") (.int (Int32.ofNat j))) (.int (([115, 119, 97, 112] : List Int32).getD j 0))).before args s = true
  | 0, _ => hs _ tw4_10_4
  | 1, _ => hs _ tw4_10_5
  | 2, _ => hs _ tw4_10_6
  | 3, _ => hs _ tw4_10_7
  | k + 4, h => absurd h (by omega)
theorem te4_11 {s : State} {args : Array Value} (hs : ∀ w ∈ flatC (Jvm.Cond.and given_1 narrow_1), w.before args s = true) : ∀ j : Nat, j < 4 → (Cond.eq (.elem (.field (.string "PieceFiles$Reader" 88) "java/lang/String" "value" "[B") (.int (Int32.ofNat j))) (.int (([119, 105, 112, 101] : List Int32).getD j 0))).before args s = true
  | 0, _ => hs _ tw4_11_4
  | 1, _ => hs _ tw4_11_5
  | 2, _ => hs _ tw4_11_6
  | 3, _ => hs _ tw4_11_7
  | k + 4, h => absurd h (by omega)
theorem st_s4 {s : State} {args : Array Value} (hs : ∀ w ∈ flatC (Jvm.Cond.and given_1 narrow_1), w.before args s = true) {A : Nat → Prop} (hA : ∀ a : Nat, a < s.heap.size → ¬ A a) : ∃ adK adV : Nat → Nat, vk_S 12 sL4 sB4 adK adV A s s.heap ∧ ∀ i : Nat, i < 12 → (Term.string "PieceFiles$Reader" (sI4.getD i 0)).eval args s none [] s = some (.ref (adK i)) := by
  refine vs_of (tm := fun i => Term.string "PieceFiles$Reader" (sI4.getD i 0)) ?_ ?_ ?_ ?_ ?_ ?_ sD4 hA
  · have h : ∀ i : Fin 12, sL4.getD (i : Nat) 0 < 2 ^ 31 := by decide
    exact fun i hi => h ⟨i, hi⟩
  · intro i hi
    match i, hi with
    | 0, _ => exact hs _ tw4_0_0
    | 1, _ => exact hs _ tw4_1_0
    | 2, _ => exact hs _ tw4_2_0
    | 3, _ => exact hs _ tw4_3_0
    | 4, _ => exact hs _ tw4_4_0
    | 5, _ => exact hs _ tw4_5_0
    | 6, _ => exact hs _ tw4_6_0
    | 7, _ => exact hs _ tw4_7_0
    | 8, _ => exact hs _ tw4_8_0
    | 9, _ => exact hs _ tw4_9_0
    | 10, _ => exact hs _ tw4_10_0
    | 11, _ => exact hs _ tw4_11_0
    | k + 12, h => exact absurd h (by omega)
  · intro i hi
    match i, hi with
    | 0, _ => exact hs _ tw4_0_1
    | 1, _ => exact hs _ tw4_1_1
    | 2, _ => exact hs _ tw4_2_1
    | 3, _ => exact hs _ tw4_3_1
    | 4, _ => exact hs _ tw4_4_1
    | 5, _ => exact hs _ tw4_5_1
    | 6, _ => exact hs _ tw4_6_1
    | 7, _ => exact hs _ tw4_7_1
    | 8, _ => exact hs _ tw4_8_1
    | 9, _ => exact hs _ tw4_9_1
    | 10, _ => exact hs _ tw4_10_1
    | 11, _ => exact hs _ tw4_11_1
    | k + 12, h => exact absurd h (by omega)
  · intro i hi
    match i, hi with
    | 0, _ => exact hs _ tw4_0_2
    | 1, _ => exact hs _ tw4_1_2
    | 2, _ => exact hs _ tw4_2_2
    | 3, _ => exact hs _ tw4_3_2
    | 4, _ => exact hs _ tw4_4_2
    | 5, _ => exact hs _ tw4_5_2
    | 6, _ => exact hs _ tw4_6_2
    | 7, _ => exact hs _ tw4_7_2
    | 8, _ => exact hs _ tw4_8_2
    | 9, _ => exact hs _ tw4_9_2
    | 10, _ => exact hs _ tw4_10_2
    | 11, _ => exact hs _ tw4_11_2
    | k + 12, h => exact absurd h (by omega)
  · intro i hi
    match i, hi with
    | 0, _ => exact hs _ tw4_0_3
    | 1, _ => exact hs _ tw4_1_3
    | 2, _ => exact hs _ tw4_2_3
    | 3, _ => exact hs _ tw4_3_3
    | 4, _ => exact hs _ tw4_4_3
    | 5, _ => exact hs _ tw4_5_3
    | 6, _ => exact hs _ tw4_6_3
    | 7, _ => exact hs _ tw4_7_3
    | 8, _ => exact hs _ tw4_8_3
    | 9, _ => exact hs _ tw4_9_3
    | 10, _ => exact hs _ tw4_10_3
    | 11, _ => exact hs _ tw4_11_3
    | k + 12, h => exact absurd h (by omega)
  · intro i hi
    match i, hi with
    | 0, _ => exact te4_0 hs
    | 1, _ => exact te4_1 hs
    | 2, _ => exact te4_2 hs
    | 3, _ => exact te4_3 hs
    | 4, _ => exact te4_4 hs
    | 5, _ => exact te4_5 hs
    | 6, _ => exact te4_6 hs
    | 7, _ => exact te4_7 hs
    | 8, _ => exact te4_8 hs
    | 9, _ => exact te4_9 hs
    | 10, _ => exact te4_10 hs
    | 11, _ => exact te4_11 hs
    | k + 12, h => exact absurd h (by omega)
theorem st_r4 {s : State} {args : Array Value} (hts : ∀ w ∈ lw_tbl, w.before args s = true) : ∀ i : Nat, i < 12 → (Cond.stringRef "PieceFiles$Reader" (sI4.getD i 0) (sT4.getD i "")).before args s = true := by
  intro i hi
  match i, hi with
  | 0, _ => exact (hts _ (List.mem_append_right _ (List.mem_of_getElem? (i := 823) (by decide +kernel))))
  | 1, _ => exact (hts _ (List.mem_append_right _ (List.mem_of_getElem? (i := 824) (by decide +kernel))))
  | 2, _ => exact (hts _ (List.mem_append_right _ (List.mem_of_getElem? (i := 825) (by decide +kernel))))
  | 3, _ => exact (hts _ (List.mem_append_right _ (List.mem_of_getElem? (i := 826) (by decide +kernel))))
  | 4, _ => exact (hts _ (List.mem_append_right _ (List.mem_of_getElem? (i := 827) (by decide +kernel))))
  | 5, _ => exact (hts _ (List.mem_append_right _ (List.mem_of_getElem? (i := 828) (by decide +kernel))))
  | 6, _ => exact (hts _ (List.mem_append_right _ (List.mem_of_getElem? (i := 829) (by decide +kernel))))
  | 7, _ => exact (hts _ (List.mem_append_right _ (List.mem_of_getElem? (i := 830) (by decide +kernel))))
  | 8, _ => exact (hts _ (List.mem_append_right _ (List.mem_of_getElem? (i := 831) (by decide +kernel))))
  | 9, _ => exact (hts _ (List.mem_append_right _ (List.mem_of_getElem? (i := 832) (by decide +kernel))))
  | 10, _ => exact (hts _ (List.mem_append_right _ (List.mem_of_getElem? (i := 833) (by decide +kernel))))
  | 11, _ => exact (hts _ (List.mem_append_right _ (List.mem_of_getElem? (i := 834) (by decide +kernel))))
  | k + 12, h => exact absurd h (by omega)
theorem st_rw {own : String} {N : Nat} {len : List Nat} {byt : List (List Int32)} {ix : List Nat} {tx : List String} {oK oV : Nat} {X : GX} {s : State} {args : Array Value} {adK adV : Nat → Nat} (h : vk_S N len byt adK adV (fun q => X.1 ≤ q) s s.heap) (hK : ∀ i, i < N → X.2.2 (oK + i) = adK i) (hV : ∀ i, i < N → X.2.2 (oV + i) = adV i) (he : ∀ i : Nat, i < N → (Term.string own (ix.getD i 0)).eval args s none [] s = some (.ref (adK i))) (hr : ∀ i : Nat, i < N → (Cond.stringRef own (ix.getD i 0) (tx.getD i "")).before args s = true) : STRW own N len byt ix tx oK oV X s := by
  refine ⟨⟨fun i hi => ?_, fun i j hi hj e => ?_⟩, fun i hi => ?_⟩
  · show va_O "java/lang/String" (X.2.2 (oK + i)) _ _ _ ∧ va_OF "java/lang/String" "coder" "B" (.int 0) (X.2.2 (oK + i)) _ _ _ ∧ va_OF "java/lang/String" "value" "[B" (.ref (X.2.2 (oV + i))) (X.2.2 (oK + i)) _ _ _ ∧ va_T .byte (X.2.2 (oV + i)) _ _ _ _ _
    rw [hK i hi, hV i hi]
    exact h.1 i hi
  · have e2 : X.2.2 (oK + i) = X.2.2 (oK + j) := e
    rw [hK i hi, hK j hj] at e2
    exact h.2 i j hi hj e2
  · rw [hK i hi]
    exact vk_R.of (hr i hi) (he i hi)
def aAll (a : Nat → ClassId) (k9 v9 k4 v4 : Nat → Nat) : Nat → ClassId := fun k => if k < 1000 then a k else if k < 2000 then k9 (k - 1000) else if k < 3000 then v9 (k - 2000) else if k < 4000 then k4 (k - 3000) else v4 (k - 4000)
set_option maxRecDepth 100000 in
theorem st_GG {s : State} {args : Array Value} (hts : ∀ w ∈ lw_tbl, w.before args s = true) (hgv : (Jvm.Cond.and given_1 narrow_1).before args s = true) : ∃ X : GX, X.1 = s.heap.size ∧ GG X s := by
  obtain ⟨D, hD⟩ := st_known hts
  obtain ⟨a, ha⟩ := st_arr hts s.heap.size D
  have hs := flat_of_before _ hgv
  obtain ⟨k9, v9, h9, e9⟩ := st_s9 (s := s) (args := args) hs (A := fun q => s.heap.size ≤ q) (fun q h => Nat.not_le.mpr h)
  obtain ⟨k4, v4, h4, e4⟩ := st_s4 (s := s) (args := args) hs (A := fun q => s.heap.size ≤ q) (fun q h => Nat.not_le.mpr h)
  have i0 : ∀ k, k < 1000 → aAll a k9 v9 k4 v4 k = a k := fun k h => if_pos h
  have i1 : ∀ i, i < 1000 → aAll a k9 v9 k4 v4 (1000 + i) = k9 i := fun i h => by
    unfold aAll
    rw [if_neg (by omega), if_pos (by omega), Nat.add_sub_cancel_left]
  have i2 : ∀ i, i < 1000 → aAll a k9 v9 k4 v4 (2000 + i) = v9 i := fun i h => by
    unfold aAll
    rw [if_neg (by omega), if_neg (by omega), if_pos (by omega), Nat.add_sub_cancel_left]
  have i3 : ∀ i, i < 1000 → aAll a k9 v9 k4 v4 (3000 + i) = k4 i := fun i h => by
    unfold aAll
    rw [if_neg (by omega), if_neg (by omega), if_neg (by omega), if_pos (by omega), Nat.add_sub_cancel_left]
  have i4 : ∀ i, i < 1000 → aAll a k9 v9 k4 v4 (4000 + i) = v4 i := fun i h => by
    unfold aAll
    rw [if_neg (by omega), if_neg (by omega), if_neg (by omega), if_neg (by omega), Nat.add_sub_cancel_left]
  have ety : tysX (s.heap.size, D, aAll a k9 v9 k4 v4) = tysX (s.heap.size, D, a) := by
    show [(aAll a k9 v9 k4 v4 0, _), (aAll a k9 v9 k4 v4 1, _), (aAll a k9 v9 k4 v4 2, _), (aAll a k9 v9 k4 v4 3, _), (aAll a k9 v9 k4 v4 4, _)] = _
    rw [i0 0 (by omega), i0 1 (by omega), i0 2 (by omega), i0 3 (by omega), i0 4 (by omega)]
    rfl
  refine ⟨(s.heap.size, D, aAll a k9 v9 k4 v4), rfl, ⟨hD, by rw [ety]; exact ha⟩, ?_, ?_, Nat.le_refl _, ⟨va_AO.of (hts (.arrayOver (.object "PieceFiles$Piece")) (List.mem_append_right _ (List.mem_of_getElem? (i := 159) (by decide +kernel)))), va_AO.of (hts (.arrayOver (.object "PieceFiles$Row")) (List.mem_append_right _ (List.mem_of_getElem? (i := 53) (by decide +kernel)))), va_AO.of (hts (.arrayOver (.object "PieceFiles$State")) (List.mem_append_right _ (List.mem_of_getElem? (i := 100) (by decide +kernel))))⟩, st_strs hts hgv, st_xw hts, st_nc hgv, ?_, ?_, ?_, ?_⟩
  · exact vx_Zqof (hts _ (List.mem_append_right _ (List.mem_of_getElem? (i := 676) (by decide +kernel)))) (hts _ (List.mem_append_right _ (List.mem_of_getElem? (i := 16) (by decide +kernel)))) (hs (.isRef (.static Bundle.tN "UNASSIGNED_STACK" Bundle.steD)) (by decide +kernel)) (fun q h => Nat.not_le.mpr h)
  · exact vx_Zqof (hts _ (List.mem_append_right _ (List.mem_of_getElem? (i := 678) (by decide +kernel)))) (hts _ (List.mem_append_right _ (List.mem_of_getElem? (i := 16) (by decide +kernel)))) (hs (.isRef (.static Bundle.tN "SUPPRESSED_SENTINEL" Bundle.listD)) (by decide +kernel)) (fun q h => Nat.not_le.mpr h)
  · exact st_rw h9 (fun i hi => i1 i (by omega)) (fun i hi => i2 i (by omega)) e9 (st_r9 hts)
  · exact st_rw h4 (fun i hi => i3 i (by omega)) (fun i hi => i4 i (by omega)) e4 (st_r4 hts)
  · exact va_Zof (hts _ (List.mem_append_right _ (List.mem_of_getElem? (i := 848) (by decide +kernel)))) (hts _ (List.mem_append_right _ (List.mem_of_getElem? (i := 10) (by decide +kernel)))) (va_eqt (hs _ (List.mem_of_getElem? (i := 6) (by decide +kernel)))) (fun q h => Nat.not_le.mpr h)
  · exact va_Zqof (hts _ (List.mem_append_right _ (List.mem_of_getElem? (i := 864) (by decide +kernel)))) (hts _ (List.mem_append_right _ (List.mem_of_getElem? (i := 12) (by decide +kernel)))) (hs _ (List.mem_of_getElem? (i := 7) (by decide +kernel))) (fun q h => Nat.not_le.mpr h)
end
