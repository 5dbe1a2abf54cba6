/-! the reference: spread, wipe -/
section RSP
variable {σ : RS9} {S : SST}
theorem spT_s {p o : Nat} {t : BL} : spT S p t (o + 1) = if lkB S p o = true then tset (spT S p t o) o (some t) else spT S p t o := by
  funext j
  show (if j < o + 1 ∧ lkB S p j = true then some t else S.2.2.1 j) = _
  by_cases hl : lkB S p o = true
  · rw [if_pos hl]
    by_cases e : j = o
    · subst e
      rw [tset_eq, if_pos ⟨by omega, hl⟩]
    · rw [tset_ne e]
      show _ = (if j < o ∧ lkB S p j = true then some t else S.2.2.1 j)
      by_cases h : j < o ∧ lkB S p j = true
      · rw [if_pos h, if_pos ⟨by omega, h.2⟩]
      · rw [if_neg h, if_neg (fun q => h ⟨by omega, q.2⟩)]
  · rw [if_neg hl]
    show _ = (if j < o ∧ lkB S p j = true then some t else S.2.2.1 j)
    by_cases h : j < o ∧ lkB S p j = true
    · rw [if_pos h, if_pos ⟨by omega, h.2⟩]
    · rw [if_neg h, if_neg (fun q => by
        by_cases e : j = o
        · rw [e] at q; exact hl q.2
        · exact h ⟨by omega, q.2⟩)]
theorem tset_same {told : Nat → Option BL} {p : Nat} {o : Option BL} (h : told p = o) : tset told p o = told := by
  funext j
  by_cases e : j = p
  · rw [e, tset_eq, h]
  · exact tset_ne e
theorem VE_sp {p o : Nat} {t : BL} (hS : SV S) (h : ∀ j, j < o → lkB S p j = true → (escFor S.2.1 (pOf S j) t).isSome = true) : VE S.2.1 (spT S p t o) (pcF S) := fun j u hj he => by
  have he : (if j < o ∧ lkB S p j = true then some t else S.2.2.1 j) = some u := he
  split at he
  · rename_i hc
    cases he
    exact h j hc.1 hc.2
  · exact hS.1 j u hj he
/-- what spread answers -/
def DSP (σ : RS9) (p : Int32) (r : Int32 × SST) (S : SST) (y : Int32 × RS9) : Prop := ∃ σ', y = (r.1, σ') ∧ (r.1 = 0 → RM9 σ' r.2 ∧ σ'.1 57 = nI (lkN S p.toInt.toNat (pcF S).length) - 1) ∧ FRX RA9 FA9 σ σ'
theorem i_e1 {x y : Int32} (h : x + 1 = y) : x = y - 1 := by rw [← h]; exact (Int32.add_sub_cancel x 1).symm
theorem r_spread0 {v : Int32} (h : RM9 σ S) (hS : SV S) : PQ (mX9_spread0 v σ) (DSP σ v (spA S v) S) := by
  obtain ⟨h33, h40⟩ := RM_33 h
  have hX0 : FRX NO9 (fun k => k = 57) σ (rSf σ 57 0) := ⟨fun k hk => rfl, fun k hk => sf_ne hk⟩
  have hX0' : FRX RA9 FA9 σ (rSf σ 57 0) := frx_mono hX0 (fun k hk => absurd hk id) (fun k hk => by omega)
  have bad : ∀ {c : Int32} {T : SST} {σ' : RS9}, c ≠ 0 → FRX RA9 FA9 σ σ' → DSP σ v (c, T) S (c, σ') := fun hc hF => ⟨_, rfl, fun q => absurd q hc, hF⟩
  unfold mX9_spread0
  refine pq_isr (r_isPieceThere (n := (pcF S).length) ((sf_ne (by decide)).trans h33) h40) ?_
  by_cases hin : inP S v
  · have ed : decide (0 ≤ v.toInt ∧ v.toInt < ((pcF S).length : Int)) = true := decide_eq_true hin
    rw [ed]
    refine pq_f (show ¬ (1 : Int32) = 0 by decide) ?_
    obtain ⟨e1, e2⟩ := v_nI hin (by omega)
    have ef : spA S v = (match S.2.2.1 v.toInt.toNat with
      | none => (4, S)
      | some t => if spN S v.toInt.toNat t = true then (2, S) else finA S (setT S (spT S v.toInt.toNat t (pcF S).length))) := if_pos hin
    rw [ef]
    unfold DSP
    clear ef
    generalize v.toInt.toNat = p at e1 e2 ⊢
    subst e1
    have hT := h.1.2.2.1
    have h0 : RM9 (rSf σ 57 0) S := RM_frx h hX0 (fun q => q) (fun k _ _ q => q) ⟨fun q => by omega, fun q => by omega⟩
    refine pq_isr (r_toldOf h0.1.2.2.1 (by omega)) ?_
    cases ht : S.2.2.1 p with
    | none =>
      exact pq_t rfl (pq_ret ⟨_, rfl, fun q => absurd q (show ¬ (4 : Int32) = 0 by decide), hX0'⟩)
    | some t =>
      have h60 := ((hT p (by omega)).2 t ht).1
      refine pq_f (nI_ne (by omega)) (pq_isr (r_toldOf h0.1.2.2.1 (by omega)) ?_)
      rw [ht]
      refine pq_call (r_holdsTold h0.1.2.2.1 (by omega) ht) (fun y hy => ?_)
      obtain ⟨σ1, rfl, h53, hF1⟩ := hy
      have key : ∀ (d o : Nat) (σ2 : RS9), o ≤ (pcF S).length → (∀ j, j < o → lkB S p j = true → (escFor S.2.1 (pOf S j) t).isSome = true) → RM9 σ2 (setT S (spT S p t o)) → RLs σ2 53 t → σ2.1 57 + (if p < o then 1 else 0) = nI (lkN S p o) → FRX RA9 FA9 σ σ2 → PQ (mX9_spread0_l39 d (nI p) (nI t.length) (nI o) σ2) (fun y => ∃ σ', y = ((if spN S p t = true then (2, S) else finA S (setT S (spT S p t (pcF S).length))).1, σ') ∧ ((if spN S p t = true then (2, S) else finA S (setT S (spT S p t (pcF S).length))).1 = 0 → RM9 σ' (if spN S p t = true then (2, S) else finA S (setT S (spT S p t (pcF S).length))).2 ∧ σ'.1 57 = nI (lkN S p (pcF S).length) - 1) ∧ FRX RA9 FA9 σ σ') := by
        intro d
        induction d with
        | zero => intro o σ2 _ _ _ _ _ _; exact pq_none
        | succ d ih =>
          intro o σ2 ho hes hM h53 h57 hF
          unfold mX9_spread0_l39
          rw [(RM_33 hM).1]
          show PQ (if nI (pcF S).length ≤ nI o then _ else _) _
          refine pq_le (nI_toInt (by omega)) (nI_toInt (by omega)) (fun q => ?_) (fun q => ?_)
          · have e : o = (pcF S).length := by omega
            subst e
            have hno : spN S p t ≠ true := fun hs => by
              obtain ⟨j, hj1, hj2⟩ := List.any_eq_true.mp hs
              rw [Bool.and_eq_true] at hj2
              have := hes j (List.mem_range.mp hj1) hj2.1
              cases hx : escFor S.2.1 (pOf S j) t with
              | none => rw [hx] at this; cases this
              | some z => rw [hx] at hj2; cases hj2.2
            rw [if_neg hno]
            unfold mX9_spread0_b113
            refine pq_tail (r_fin (S := S) hM (VE_sp hS hes)) (fun y hy => ?_)
            obtain ⟨σ3, k1, k2, k3⟩ := hy
            have hlt : p < (pcF S).length := e2
            rw [if_pos hlt] at h57
            exact ⟨σ3, k1, fun q => ⟨k2 q, by rw [k3.2 57 (fun q => by omega)]; exact i_e1 h57⟩, frx_tr hF (frx_mono k3 (fun k hk => by omega) (fun k hk => by omega))⟩
          have hop : o < (pcF S).length := by omega
          refine pq_isr (r_areLike (P := pcF S) hM.2 e2 hop) ?_
          have eL : decide (pX ((pcF S).getD p pc0) = pX ((pcF S).getD o pc0)) = lkB S p o := rfl
          have eS : ∀ x : Int32, nI (lkN S p (o + 1)) = nI (lkN S p o) + (if lkB S p o = true then 1 else 0) := fun _ => by
            show nI (lkN S p o + (if lkB S p o = true then 1 else 0)) = _
            split
            · exact (nI_1 _).symm
            · exact (Int32.add_zero _).symm
          rw [eL]
          refine if_01 (fun hl => ?_) (fun hl => ?_)
          · unfold mX9_spread0_b92
            rw [nI_1]
            have e5 : spT S p t (o + 1) = spT S p t o := by
              rw [spT_s, if_neg (by rw [hl]; decide)]
            have hne : o ≠ p := fun q => by
              rw [q] at hl
              have : lkB S p p = true := decide_eq_true rfl
              rw [this] at hl; cases hl
            refine ih (o + 1) σ2 (by omega) (fun j hj hj2 => ?_) (by rw [e5]; exact hM) h53 ?_ hF
            · by_cases e : j = o
              · rw [e, hl] at hj2; cases hj2
              · exact hes j (by omega) hj2
            · rw [eS 0, hl, ← h57]
              have : (if p < o + 1 then (1 : Int32) else 0) = if p < o then 1 else 0 := by
                by_cases h1 : p < o
                · rw [if_pos h1, if_pos (by omega)]
                · rw [if_neg h1, if_neg (by omega)]
              rw [this]; exact (Int32.add_zero _).symm
          · refine pq_eqi (nI_toInt (by omega)) (nI_toInt (by omega)) (fun q2 => ?_) (fun q2 => ?_)
            · have e : o = p := by omega
              unfold mX9_spread0_b92
              rw [nI_1]
              have et : spT S p t o o = some t := by
                show (if o < o ∧ lkB S p o = true then some t else S.2.2.1 o) = some t
                rw [if_neg (fun q => absurd q.1 (Nat.lt_irrefl _)), e, ht]
              have e5 : spT S p t (o + 1) = spT S p t o := by
                rw [spT_s, if_pos hl]
                exact tset_same et
              refine ih (o + 1) σ2 (by omega) (fun j hj hj2 => ?_) (by rw [e5]; exact hM) h53 ?_ hF
              · by_cases e9 : j = o
                · rw [e9, e]
                  exact hS.1 p t e2 ht
                · exact hes j (by omega) hj2
              · rw [eS 0, hl, ← h57, if_pos (by omega), if_neg (by omega), if_pos rfl, Int32.add_zero]
            · have hne : o ≠ p := fun q => q2 (by rw [q])
              refine pq_call (r_escFor (p := o) hM.1.2.1 hM.2 hop h53 h60) (fun y hy => ?_)
              obtain ⟨σ3, rfl, g1, g2⟩ := hy
              have g2' : FRX RA9 FA9 σ2 σ3 := frx_mono g2 (fun k hk => by omega) (fun k hk => by omega)
              cases he : escFor S.2.1 (pOf S o) t with
              | none =>
                have hs : spN S p t = true := List.any_eq_true.mpr ⟨o, List.mem_range.mpr hop, by rw [hl, he]; rfl⟩
                rw [if_pos hs]
                have he' : escFor (setT S (spT S p t o)).2.1 ((pcF (setT S (spT S p t o))).getD o pc0) t = none := he
                show PQ (if tdN (escFor (setT S (spT S p t o)).2.1 ((pcF (setT S (spT S p t o))).getD o pc0) t) = -1 then _ else _) _
                rw [he']
                exact pq_t rfl (pq_ret ⟨σ3, rfl, fun q => absurd q (show ¬ (2 : Int32) = 0 by decide), frx_tr hF g2'⟩)
              | some e =>
                have he' : escFor (setT S (spT S p t o)).2.1 ((pcF (setT S (spT S p t o))).getD o pc0) t = some e := he
                have hel := (g1 e he').2
                show PQ (if tdN (escFor (setT S (spT S p t o)).2.1 ((pcF (setT S (spT S p t o))).getD o pc0) t) = -1 then _ else _) _
                rw [he']
                refine pq_f (nI_ne (by omega)) ?_
                have hM3 : RM9 σ3 (setT S (spT S p t o)) := RM_frx hM g2 (fun q => by omega) (fun k h1 h2 q => by omega) ⟨fun q => by omega, fun q => by omega⟩
                refine pq_call (r_tells (p := o) (by omega) (RL_frx h53 g2 (fun q => by omega)) h60) (fun y hy => ?_)
                obtain ⟨σ4, rfl, hTL⟩ := hy
                have hM4 := TL_RM hM3 (by omega) h60 hTL
                unfold mX9_spread0_b92
                rw [nI_1]
                have e5 : spT S p t (o + 1) = tset (spT S p t o) o (some t) := by rw [spT_s, if_pos hl]
                have fr5 : FRX NO9 (fun k => k = 57) σ4 (rSf σ4 57 (σ4.1 57 + 1)) := ⟨fun k hk => rfl, fun k hk => sf_ne hk⟩
                refine ih (o + 1) _ (by omega) (fun j hj hj2 => ?_) (by rw [e5]; exact RM_frx hM4 fr5 (fun q => q) (fun k _ _ q => q) ⟨fun q => by omega, fun q => by omega⟩) ?_ ?_ (frx_tr hF (frx_tr g2' (frx_tr (TL_fr hTL) (frx_mono fr5 (fun k hk => absurd hk id) (fun k hk => by omega)))))
                · by_cases e9 : j = o
                  · rw [e9, he]; rfl
                  · exact hes j (by omega) hj2
                · exact RL_frx (RL_frx (RL_frx h53 g2 (fun q => by omega)) hTL.2.2.2 (fun q => by omega)) fr5 (fun q => q)
                · rw [sf_eq, eS 0, hl, ← h57, if_pos rfl, hTL.2.2.2.2 57 (fun q => q), g2.2 57 (fun q => by omega)]
                  have : (if p < o + 1 then (1 : Int32) else 0) = if p < o then 1 else 0 := by
                    by_cases h1 : p < o
                    · rw [if_pos h1, if_pos (by omega)]
                    · rw [if_neg h1, if_neg (by omega)]
                  rw [this, Int32.add_assoc, Int32.add_comm 1, ← Int32.add_assoc]
      have hM1 : RM9 σ1 (setT S (spT S p t 0)) := by
        rw [spT_0]
        exact RM_frx h0 hF1 (fun q => by omega) (fun k h1 h2 q => by omega) ⟨fun q => q, fun q => q⟩
      exact key rFU 0 σ1 (Nat.zero_le _) (fun j hj => absurd hj (Nat.not_lt_zero _)) hM1 h53 (by
        rw [if_neg (Nat.not_lt_zero _), Int32.add_zero, hF1.2 57 (fun q => q)]; exact sf_eq) (frx_tr hX0' (frx_mono hF1 (fun k hk => by omega) (fun k hk => absurd hk id)))
  · have ed : decide (0 ≤ v.toInt ∧ v.toInt < ((pcF S).length : Int)) = false := decide_eq_false hin
    rw [ed]
    have ef : spA S v = (1, S) := if_neg hin
    rw [ef]
    exact pq_t rfl (pq_ret (bad (by decide) hX0'))
theorem r_toldMany (h : RM9 σ S) : PQ (mX9_toldMany σ) (fun y => y = (nI (tcnt S.2.2.1 (pcF S).length), σ)) := by
  obtain ⟨h33, h40⟩ := RM_33 h
  have key : ∀ (d i : Nat), i ≤ (pcF S).length → PQ (mX9_toldMany_l4 d (nI (tcnt S.2.2.1 i)) (nI i) σ) (fun y => y = (nI (tcnt S.2.2.1 (pcF S).length), σ)) := by
    intro d
    induction d with
    | zero => intro i _; exact pq_none
    | succ d ih =>
      intro i hi
      unfold mX9_toldMany_l4
      rw [h33]
      refine pq_le (nI_toInt (by omega)) (nI_toInt (by omega)) (fun q => ?_) (fun q => ?_)
      · have e : i = (pcF S).length := by omega
        rw [e]
        exact pq_ret rfl
      · refine pq_isr (r_toldOf h.1.2.2.1 (by omega)) ?_
        have e : tcnt S.2.2.1 (i + 1) = tcnt S.2.2.1 i + (match S.2.2.1 i with
          | none => 0
          | some _ => 1) := rfl
        cases ht : S.2.2.1 i with
        | none =>
          rw [ht] at e
          unfold mX9_toldMany_b27
          rw [Int32.add_zero, nI_1]
          refine pq_t rfl ?_
          have := ih (i + 1) (by omega)
          rw [e] at this
          exact this
        | some t =>
          rw [ht] at e
          unfold mX9_toldMany_b27
          rw [nI_1, nI_1]
          refine pq_f (nI_ne (by have := ((h.1.2.2.1 i (by omega)).2 t ht).1; omega)) ?_
          have := ih (i + 1) (by omega)
          rw [e] at this
          exact this
  exact key rFU 0 (Nat.zero_le _)
theorem tcnt_40 (h : RM9 σ S) (hS : SV S) : tcnt S.2.2.1 40 = tcnt S.2.2.1 (pcF S).length := by
  have h40 := (RM_33 h).2
  obtain ⟨d, hd⟩ : ∃ d, 40 = (pcF S).length + d := ⟨40 - (pcF S).length, by omega⟩
  rw [hd]
  clear hd
  induction d with
  | zero => rfl
  | succ d ih =>
    rw [← ih]
    show tcnt S.2.2.1 ((pcF S).length + d) + (match S.2.2.1 ((pcF S).length + d) with
      | none => 0
      | some _ => 1) = _
    rw [hS.2.2.2 _ (by omega)]
    rfl
theorem r_wipe0 (h : RM9 σ S) (hS : SV S) : PQ (mX9_wipe0 σ) (DOA σ (wpA S)) := by
  have h40 := (RM_33 h).2
  have hle := tcnt_le (told := S.2.2.1) (pcF S).length
  have ew : wpA S = if tcnt S.2.2.1 (pcF S).length = 0 then (4, S) else (0, setT S (fun _ => none)) := by
    unfold wpA
    rw [tcnt_40 h hS]
  unfold mX9_wipe0
  rw [ew]
  refine pq_isr (r_toldMany h) (pq_eqi (nI_toInt (by omega)) kt_0 (fun q => ?_) (fun q => ?_))
  · rw [if_pos (show tcnt S.2.2.1 (pcF S).length = 0 by have := q; omega)]
    exact pq_ret (bad_a (by decide) frx_rfl)
  · rw [if_neg (show ¬ tcnt S.2.2.1 (pcF S).length = 0 from fun z => q (by rw [z]; rfl))]
    have key : ∀ (d i : Nat) (σ2 : RS9), i ≤ 40 → NT9 σ σ2 i → PQ (mX9_wipe0_l11 d (nI i) σ2) (DOA σ (0, setT S (fun _ => none))) := by
      intro d
      induction d with
      | zero => intro i σ2 _ _; exact pq_none
      | succ d ih =>
        intro i σ2 hi hN
        unfold mX9_wipe0_l11
        refine pq_le kt_40 (nI_toInt (by omega)) (fun q => ?_) (fun q => ?_)
        · have e : i = 40 := by omega
          subst e
          refine pq_ret ⟨σ2, rfl, fun _ => ⟨NT9_MR (S := setT S (fun _ => none)) hN h.1.1 h.1.2.1 h.1.2.2.2 (fun _ => rfl), PT_frx h.2 hN.2.2 (fun k h1 h2 q => by omega) ⟨fun q => q, fun q => q⟩⟩, frx_mono hN.2.2 (fun k hk => Or.inl hk) (fun k hk => absurd hk id)⟩
        · rw [nI_61, nI_1]
          exact pq_ck (ih (i + 1) _ (by omega) (NT9_s hN (by omega)))
    exact key rFU 0 σ (Nat.zero_le _) ⟨fun q hq => absurd hq (Nat.not_lt_zero _), fun i hi => rfl, frx_rfl⟩
end RSP
