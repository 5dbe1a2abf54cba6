/-! the reference: swap, lock, rules -/
section RSW
variable {σ : RS9} {S : SST}
theorem nw_now {i : Nat} : nwP S.2.2.1 (pcF S) i = nowOf S i := by
  unfold nwP nowOf
  cases S.2.2.1 i <;> rfl
theorem r_swap0 {v u : Int32} (h : RM9 σ S) (hS : SV S) : PQ (mX9_swap0 v u σ) (DOA σ (swA S v u)) := by
  obtain ⟨h33, h40⟩ := RM_33 h
  have no : ¬ (inP S v ∧ inP S u) → PQ (mX9_swap0_b16 σ) (DOA σ (swA S v u)) := fun hn => by
    have ef : swA S v u = (1, S) := if_neg hn
    rw [ef]
    exact pq_ret (bad_a (by decide) frx_rfl)
  unfold mX9_swap0
  refine pq_isr (r_isPieceThere h33 h40) ?_
  by_cases hin : inP S v
  · have ed : decide (0 ≤ v.toInt ∧ v.toInt < ((pcF S).length : Int)) = true := decide_eq_true hin
    rw [ed]
    refine pq_f (show ¬ (1 : Int32) = 0 by decide) (pq_isr (r_isPieceThere h33 h40) ?_)
    by_cases hiu : inP S u
    · have ed : decide (0 ≤ u.toInt ∧ u.toInt < ((pcF S).length : Int)) = true := decide_eq_true hiu
      rw [ed]
      refine pq_f (show ¬ (1 : Int32) = 0 by decide) ?_
      have ef : swA S v u = if v = u then (5, S) else if 60 < (nowOf S v.toInt.toNat).length ∨ 60 < (nowOf S u.toInt.toNat).length then (8, S) else if escFor S.2.1 (pOf S v.toInt.toNat) (nowOf S u.toInt.toNat) = none ∨ escFor S.2.1 (pOf S u.toInt.toNat) (nowOf S v.toInt.toNat) = none then (2, S) else finA S (setT S (swT S v.toInt.toNat u.toInt.toNat)) := if_pos ⟨hin, hiu⟩
      rw [ef]
      clear ef no
      obtain ⟨e1, e2⟩ := v_nI hin (by omega)
      obtain ⟨e3, e4⟩ := v_nI hiu (by omega)
      generalize v.toInt.toNat = p at e1 e2 ⊢
      generalize u.toInt.toNat = o at e3 e4 ⊢
      subst e1 e3
      refine pq_eq (fun q => ?_) (fun q => ?_)
      · rw [if_pos q]
        exact pq_ret (bad_a (by decide) frx_rfl)
      have hpo : p ≠ o := fun z => q (by rw [z])
      rw [if_neg q]
      have hT := h.1.2.2.1
      have hnl : ∀ i, i < (pcF S).length → (nowOf S i).length ≤ 600 := fun i hi => by
        have hle := tx_le hi
        have h6 := h.2.2.1.2.1
        cases ht : S.2.2.1 i with
        | none => rw [now_n ht]; show (pX ((pcF S).getD i pc0)).length ≤ 600; omega
        | some t => rw [now_s ht]; have := ((hT i (by omega)).2 t ht).1; omega
      have n1 := hnl p e2
      have n2 := hnl o e4
      refine pq_isr (r_nowMany (p := p) hT h.2 e2) (pq_isr (r_nowMany (p := o) hT h.2 e4) ?_)
      show PQ (if (60 : Int32) < nI (nwP S.2.2.1 (pcF S) p).length then mX9_swap0_b51 σ else (if nI (nwP S.2.2.1 (pcF S) o).length ≤ (60 : Int32) then mX9_swap0_l57 rFU (nI p) (nI o) (nI (nwP S.2.2.1 (pcF S) p).length) (nI (nwP S.2.2.1 (pcF S) o).length) (0 : Int32) σ else mX9_swap0_b51 σ)) _
      rw [nw_now, nw_now]
      have b51 : (60 < (nowOf S p).length ∨ 60 < (nowOf S o).length) → PQ (mX9_swap0_b51 σ) (DOA σ (if 60 < (nowOf S p).length ∨ 60 < (nowOf S o).length then (8, S) else if escFor S.2.1 (pOf S p) (nowOf S o) = none ∨ escFor S.2.1 (pOf S o) (nowOf S p) = none then (2, S) else finA S (setT S (swT S p o)))) := fun hc => by
        rw [if_pos hc]
        exact pq_ret (bad_a (by decide) frx_rfl)
      refine pq_lt kt_60 (nI_toInt (by omega)) (fun q1 => b51 (Or.inl (by omega))) (fun q1 => pq_le (nI_toInt (by omega)) kt_60 (fun q2 => ?_) (fun q2 => b51 (Or.inr (by omega))))
      clear b51
      rw [if_neg (show ¬ (60 < (nowOf S p).length ∨ 60 < (nowOf S o).length) by omega)]
      have a60 : (nowOf S p).length ≤ 60 := by omega
      have b60 : (nowOf S o).length ≤ 60 := by omega
      generalize hR : (if escFor S.2.1 (pOf S p) (nowOf S o) = none ∨ escFor S.2.1 (pOf S o) (nowOf S p) = none then ((2 : Int32), S) else finA S (setT S (swT S p o))) = R
      -- behind the first: the other is told
      have k136 : ∀ (d i : Nat) (σ1 : RS9), escFor S.2.1 (pOf S p) (nowOf S o) ≠ none → i ≤ (nowOf S p).length → RM9 σ1 (setT S (tset S.2.2.1 p (some (nowOf S o)))) → RLs σ1 58 (nowOf S p) → RLs σ1 53 ((nowOf S p).take i) → FRX RA9 FA9 σ σ1 → PQ (mX9_swap0_l136 d (nI o) (nI (nowOf S p).length) (nI i) σ1) (DOA σ R) := by
        intro d
        induction d with
        | zero => intro i σ1 _ _ _ _ _ _; exact pq_none
        | succ d ih =>
          intro i σ1 he1 hi hM h58 h53 hF
          unfold mX9_swap0_l136
          refine pq_le (nI_toInt (by omega)) (nI_toInt (by omega)) (fun q3 => ?_) (fun q3 => ?_)
          · have e : i = (nowOf S p).length := by omega
            rw [e, List.take_length] at h53
            refine pq_call (r_escFor (p := o) hM.1.2.1 hM.2 e4 h53 a60) (fun y hy => ?_)
            obtain ⟨σ2, rfl, g1, g2⟩ := hy
            have g2' : FRX RA9 FA9 σ1 σ2 := frx_mono g2 (fun k hk => by omega) (fun k hk => by omega)
            cases he : escFor S.2.1 (pOf S o) (nowOf S p) with
            | none =>
              have eR : R = (2, S) := by rw [← hR, if_pos (Or.inr he)]
              have he' : escFor (setT S (tset S.2.2.1 p (some (nowOf S o)))).2.1 ((pcF (setT S (tset S.2.2.1 p (some (nowOf S o))))).getD o pc0) (nowOf S p) = none := he
              show PQ (if tdN (escFor (setT S (tset S.2.2.1 p (some (nowOf S o)))).2.1 ((pcF (setT S (tset S.2.2.1 p (some (nowOf S o))))).getD o pc0) (nowOf S p)) = -1 then _ else _) _
              rw [he', eR]
              exact pq_t rfl (pq_ret (bad_a (by decide) (frx_tr hF g2')))
            | some e =>
              have he' : escFor (setT S (tset S.2.2.1 p (some (nowOf S o)))).2.1 ((pcF (setT S (tset S.2.2.1 p (some (nowOf S o))))).getD o pc0) (nowOf S p) = some e := he
              have hel := (g1 e he').2
              have eR : R = finA S (setT S (swT S p o)) := by
                rw [← hR, if_neg (fun z => by
                  rcases z with z | z
                  · exact he1 z
                  · rw [he] at z; cases z)]
              show PQ (if tdN (escFor (setT S (tset S.2.2.1 p (some (nowOf S o)))).2.1 ((pcF (setT S (tset S.2.2.1 p (some (nowOf S o))))).getD o pc0) (nowOf S p)) = -1 then _ else _) _
              rw [he', eR]
              refine pq_f (nI_ne (by omega)) ?_
              have hM2 := RM_frx hM g2 (fun q => by omega) (fun k h1 h2 q => by omega) ⟨fun q => by omega, fun q => by omega⟩
              refine pq_call (r_tells (p := o) (by omega) (RL_frx h53 g2 (fun q => by omega)) a60) (fun y hy => ?_)
              obtain ⟨σ3, rfl, hTL⟩ := hy
              have hM3 : RM9 σ3 (setT S (swT S p o)) := TL_RM hM2 (by omega) a60 hTL
              unfold mX9_swap0_b195
              have hV : VE S.2.1 (swT S p o) (pcF S) := VE_tset (VE_tset hS.1 (fun t e9 => by cases e9; exact he1)) (fun t e9 => by cases e9; exact fun q => by rw [show escFor S.2.1 ((pcF S).getD o pc0) (nowOf S p) = some e from he] at q; cases q)
              refine pq_tail (r_fin (S := S) hM3 hV) (fun y hy => ?_)
              obtain ⟨σ4, k1, k2, k3⟩ := hy
              exact ⟨σ4, k1, k2, frx_tr hF (frx_tr g2' (frx_tr (TL_fr hTL) (frx_mono k3 (fun k hk => by omega) (fun k hk => by omega))))⟩
          · have hi' : i < (nowOf S p).length := by omega
            rw [rd_nI (by omega), h58 i hi', nI_1]
            have fr : FRX (fun k => k = 53) NF9 σ1 (rSa σ1 53 (nI i) ((nowOf S p).getD i 0)) := ⟨fun k hk => sa_ne hk, fun k hk => rfl⟩
            exact pq_ck (pq_ck (ih (i + 1) _ he1 (by omega) (RM_frx hM fr (fun q => by omega) (fun k h1 h2 q => by omega) ⟨fun q => q, fun q => q⟩) (RL_frx h58 fr (fun q => by omega)) (RL_53 h53 hi' rfl (by omega)) (frx_tr hF (frx_mono fr (fun k hk => by omega) (fun k hk => absurd hk id)))))
      -- what the other is now
      have k86 : ∀ (d i : Nat) (σ1 : RS9), i ≤ (nowOf S o).length → RM9 σ1 S → RLs σ1 58 (nowOf S p) → RLs σ1 53 ((nowOf S o).take i) → FRX RA9 FA9 σ σ1 → PQ (mX9_swap0_l86 d (nI p) (nI o) (nI (nowOf S p).length) (nI (nowOf S o).length) (nI i) σ1) (DOA σ R) := by
        intro d
        induction d with
        | zero => intro i σ1 _ _ _ _ _; exact pq_none
        | succ d ih =>
          intro i σ1 hi hM h58 h53 hF
          unfold mX9_swap0_l86
          refine pq_le (nI_toInt (by omega)) (nI_toInt (by omega)) (fun q3 => ?_) (fun q3 => ?_)
          · have e : i = (nowOf S o).length := by omega
            rw [e, List.take_length] at h53
            refine pq_call (r_escFor (p := p) hM.1.2.1 hM.2 e2 h53 b60) (fun y hy => ?_)
            obtain ⟨σ2, rfl, g1, g2⟩ := hy
            have g2' : FRX RA9 FA9 σ1 σ2 := frx_mono g2 (fun k hk => by omega) (fun k hk => by omega)
            cases he : escFor S.2.1 (pOf S p) (nowOf S o) with
            | none =>
              have eR : R = (2, S) := by rw [← hR, if_pos (Or.inl he)]
              have he' : escFor S.2.1 ((pcF S).getD p pc0) (nowOf S o) = none := he
              show PQ (if tdN (escFor S.2.1 ((pcF S).getD p pc0) (nowOf S o)) = -1 then _ else _) _
              rw [he', eR]
              exact pq_t rfl (pq_ret (bad_a (by decide) (frx_tr hF g2')))
            | some e =>
              have he' : escFor S.2.1 ((pcF S).getD p pc0) (nowOf S o) = some e := he
              have hel := (g1 e he').2
              show PQ (if tdN (escFor S.2.1 ((pcF S).getD p pc0) (nowOf S o)) = -1 then _ else _) _
              rw [he']
              refine pq_f (nI_ne (by omega)) ?_
              have hM2 := RM_frx hM g2 (fun q => by omega) (fun k h1 h2 q => by omega) ⟨fun q => by omega, fun q => by omega⟩
              refine pq_call (r_tells (p := p) (by omega) (RL_frx h53 g2 (fun q => by omega)) b60) (fun y hy => ?_)
              obtain ⟨σ3, rfl, hTL⟩ := hy
              have hM3 := TL_RM hM2 (by omega) b60 hTL
              refine k136 rFU 0 σ3 (by rw [he]; exact fun q => by cases q) (Nat.zero_le _) hM3 (RL_frx (RL_frx h58 g2 (fun q => by omega)) hTL.2.2.2 (fun q => by omega)) (fun j hj => absurd hj (by rw [List.take_zero]; exact Nat.not_lt_zero _)) (frx_tr hF (frx_tr g2' (TL_fr hTL)))
          · have hi' : i < (nowOf S o).length := by omega
            have hb := r_nowByte (p := o) (k := i) hM.1.2.2.1 hM.2 e4 (by rw [nw_now]; exact hi')
            rw [nw_now] at hb
            refine pq_isr hb (pq_ck ?_)
            have fr : FRX (fun k => k = 53) NF9 σ1 (rSa σ1 53 (nI i) ((nowOf S o).getD i 0)) := ⟨fun k hk => sa_ne hk, fun k hk => rfl⟩
            rw [nI_1]
            exact ih (i + 1) _ (by omega) (RM_frx hM fr (fun q => by omega) (fun k h1 h2 q => by omega) ⟨fun q => q, fun q => q⟩) (RL_frx h58 fr (fun q => by omega)) (RL_53 h53 hi' rfl (by omega)) (frx_tr hF (frx_mono fr (fun k hk => by omega) (fun k hk => absurd hk id)))
      have k57 : ∀ (d i : Nat) (σ1 : RS9), i ≤ (nowOf S p).length → RM9 σ1 S → RLs σ1 58 ((nowOf S p).take i) → FRX RA9 FA9 σ σ1 → PQ (mX9_swap0_l57 d (nI p) (nI o) (nI (nowOf S p).length) (nI (nowOf S o).length) (nI i) σ1) (DOA σ R) := by
        intro d
        induction d with
        | zero => intro i σ1 _ _ _ _; exact pq_none
        | succ d ih =>
          intro i σ1 hi hM h58 hF
          unfold mX9_swap0_l57
          refine pq_le (nI_toInt (by omega)) (nI_toInt (by omega)) (fun q3 => ?_) (fun q3 => ?_)
          · have e : i = (nowOf S p).length := by omega
            rw [e, List.take_length] at h58
            exact k86 rFU 0 σ1 (Nat.zero_le _) hM h58 (fun j hj => absurd hj (by rw [List.take_zero]; exact Nat.not_lt_zero _)) hF
          · have hi' : i < (nowOf S p).length := by omega
            have hb := r_nowByte (p := p) (k := i) hM.1.2.2.1 hM.2 e2 (by rw [nw_now]; exact hi')
            rw [nw_now] at hb
            refine pq_isr hb (pq_ck ?_)
            have fr : FRX (fun k => k = 58) NF9 σ1 (rSa σ1 58 (nI i) ((nowOf S p).getD i 0)) := ⟨fun k hk => sa_ne hk, fun k hk => rfl⟩
            rw [nI_1]
            exact ih (i + 1) _ (by omega) (RM_frx hM fr (fun q => by omega) (fun k h1 h2 q => by omega) ⟨fun q => q, fun q => q⟩) (RL_53 h58 hi' rfl (by omega)) (frx_tr hF (frx_mono fr (fun k hk => by omega) (fun k hk => absurd hk id)))
      exact k57 rFU 0 σ (Nat.zero_le _) h (fun j hj => absurd hj (by rw [List.take_zero]; exact Nat.not_lt_zero _)) frx_rfl
    · have ed : decide (0 ≤ u.toInt ∧ u.toInt < ((pcF S).length : Int)) = false := decide_eq_false hiu
      rw [ed]
      exact pq_t rfl (no (fun q => hiu q.2))
  · have ed : decide (0 ≤ v.toInt ∧ v.toInt < ((pcF S).length : Int)) = false := decide_eq_false hin
    rw [ed]
    exact pq_t rfl (no (fun q => hin q.1))
/-- a number of the rules is set, and all is cut anew -/
theorem r_setAnew {σ1 : RS9} {cf : CFG} (h : RM9 σ S) (hX : FRX (fun k => k = 1) NF9 σ σ1) (hlo : ∀ i, (i = 0 ∨ 42 ≤ i) → σ1.2 1 i = σ.2 1 i) (hM : MC (σ1.2 1) cf) : PQ ((mX9_cutsAnew σ1).bind fun r2 => some ((0 : Int32), r2.2)) (DOA σ (0, setC S cf)) := by
  refine pq_call (r_cutsAnew (F := S.1) (mem := S.2.2.2) ⟨⟨(hlo 0 (Or.inl rfl)).trans h.1.1.1.1, h.1.1.1.2⟩, fun i hi => (hlo _ (Or.inr (by omega))).trans (h.1.1.2 i hi)⟩ hM (PR9_ext h.1.2.2.2 (hlo 42 (Or.inr (by omega))) (fun i h1 _ => hlo i (Or.inr (by omega))))) (fun y hy => ?_)
  obtain ⟨σ2, rfl, h1, h2⟩ := hy
  exact pq_ret ⟨σ2, rfl, fun _ => h1, frx_tr (frx_mono hX (fun k hk => Or.inl hk) (fun k hk => absurd hk id)) h2⟩
theorem r_rules {a : Nat} {x : Int32} {cf : CFG} (h : RM9 σ S) (ha : 1 ≤ a ∧ a ≤ 4) (hM : MC (fun i => if i = a then x else σ.2 1 i) cf) : PQ (mX9_rules (nI a) x σ) (DOA σ (0, setC S cf)) := by
  unfold mX9_rules
  have off : ∀ i, i ≠ a → (rSa σ 1 (nI a) x).2 1 i = σ.2 1 i := fun i hi => by rw [up_nI (by omega), if_neg hi]
  refine pq_ck (r_setAnew h ⟨fun k hk => sa_ne hk, fun k hk => rfl⟩ (fun i hi => off i (by omega)) (MC_ext hM (fun i hi => up_nI (by omega) i)))
theorem MC_0 {μ : Nat → Int32} {cf : CFG} {x : Int32} (h : MC μ cf) (hx : x = 0 ∨ x = 1 ∨ x = 2 ∨ x = 3) : MC (fun i => if i = 1 then x else μ i) (x, cf.2) := by
  obtain ⟨h1, h2, h3, h4, h5, h6, h7⟩ := h
  exact ⟨rfl, h2, h3, h4, h5, fun l hl => ⟨(if_neg (by omega)).trans (h6 l hl).1, fun k hk => (if_neg (by omega)).trans ((h6 l hl).2 k hk)⟩, hx, h7.2⟩
theorem MC_1 {μ : Nat → Int32} {cf : CFG} {x : Int32} (h : MC μ cf) (hx : x = -1 ∨ x = 0 ∨ x = 1 ∨ x = 2 ∨ x = 3) : MC (fun i => if i = 2 then x else μ i) (cf.1, x, cf.2.2) := by
  obtain ⟨h1, h2, h3, h4, h5, h6, h7⟩ := h
  exact ⟨h1, rfl, h3, h4, h5, fun l hl => ⟨(if_neg (by omega)).trans (h6 l hl).1, fun k hk => (if_neg (by omega)).trans ((h6 l hl).2 k hk)⟩, h7.1, hx, h7.2.2⟩
theorem MC_2 {μ : Nat → Int32} {cf : CFG} {x : Int32} (h : MC μ cf) (hx : x = 0 ∨ x = 1) : MC (fun i => if i = 3 then x else μ i) (cf.1, cf.2.1, x, cf.2.2.2) := by
  obtain ⟨h1, h2, h3, h4, h5, h6, h7⟩ := h
  exact ⟨h1, h2, rfl, h4, h5, fun l hl => ⟨(if_neg (by omega)).trans (h6 l hl).1, fun k hk => (if_neg (by omega)).trans ((h6 l hl).2 k hk)⟩, h7.1, h7.2.1, hx, h7.2.2.2⟩
theorem MC_3 {μ : Nat → Int32} {cf : CFG} {n : Nat} (h : MC μ cf) (hx : 1 ≤ n ∧ n ≤ 40) : MC (fun i => if i = 4 then nI n else μ i) (cf.1, cf.2.1, cf.2.2.1, n, cf.2.2.2.2) := by
  obtain ⟨h1, h2, h3, h4, h5, h6, h7⟩ := h
  exact ⟨h1, h2, h3, rfl, h5, fun l hl => ⟨(if_neg (by omega)).trans (h6 l hl).1, fun k hk => (if_neg (by omega)).trans ((h6 l hl).2 k hk)⟩, h7.1, h7.2.1, h7.2.2.1, hx, h7.2.2.2.2⟩
theorem MC_nl {μ μ' : Nat → Int32} {cf : CFG} (h : MC μ cf) (h5 : μ' 5 = 0) (e : ∀ i, 1 ≤ i → i < 5 → μ' i = μ i) : MC μ' (cf.1, cf.2.1, cf.2.2.1, cf.2.2.2.1, []) := by
  obtain ⟨h1, h2, h3, h4, -, -, h7⟩ := h
  exact ⟨(e 1 (by omega) (by omega)).trans h1, (e 2 (by omega) (by omega)).trans h2, (e 3 (by omega) (by omega)).trans h3, (e 4 (by omega) (by omega)).trans h4, h5, fun l hl => absurd hl (Nat.not_lt_zero _), h7.1, h7.2.1, h7.2.2.1, h7.2.2.2.1, Nat.zero_le _, fun w hw => by cases hw⟩
theorem r_unlocks (h : RM9 σ S) : PQ (mX9_unlocks σ) (DOA σ (0, setC S (S.2.1.1, S.2.1.2.1, S.2.1.2.2.1, S.2.1.2.2.2.1, []))) := by
  unfold mX9_unlocks
  have e5 : (5 : Int32) = nI 5 := rfl
  have off : ∀ i, i ≠ 5 → (rSa σ 1 (5 : Int32) (0 : Int32)).2 1 i = σ.2 1 i := fun i hi => by rw [e5, up_nI (by omega), if_neg hi]
  exact pq_ck (r_setAnew h ⟨fun k hk => sa_ne hk, fun k hk => rfl⟩ (fun i hi => off i (by omega)) (MC_nl h.1.2.1 (by rw [e5, up_nI (by omega), if_pos rfl]) (fun i h1 h2 => off i (by omega))))
end RSW
