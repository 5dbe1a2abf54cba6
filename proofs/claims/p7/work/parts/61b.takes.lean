/-! the reference undoes escapes, takes pieces -/
def UT (σ0 σ : RS9) (bg fi o1 o2 o3 : Nat) (U : List UI) : Prop := ∀ j, j < U.length → σ.2 o1 j = (U.getD j u0).1 ∧ σ.2 o2 j = σ0.2 bg (U.getD j u0).2.1 ∧ σ.2 o3 j = σ0.2 fi ((U.getD j u0).2.2 - 1)
abbrev R3 (o1 o2 o3 : Nat) : Nat → Prop := fun k => k = o1 ∨ k = o2 ∨ k = o3
theorem ugd_l {U W : List UI} {i : Nat} (h : i < U.length) : (U ++ W).getD i u0 = U.getD i u0 := by
  rw [List.getD_eq_getElem?_getD, List.getD_eq_getElem?_getD, List.getElem?_append_left h]
theorem ugd_n {U : List UI} {x : UI} : (U ++ [x]).getD U.length u0 = x := by
  rw [List.getD_eq_getElem?_getD, List.getElem?_append_right (Nat.le_refl _), Nat.sub_self]; rfl
def U6 (r bg fi o1 o2 o3 : Nat) : Prop := (r = 13 ∧ bg = 14 ∧ fi = 15 ∧ o1 = 23 ∧ o2 = 24 ∧ o3 = 25) ∨ (r = 23 ∧ bg = 24 ∧ fi = 25 ∧ o1 = 30 ∧ o2 = 31 ∧ o3 = 32)
section RTK
variable {σ : RS9} {L : BL}
theorem r_undoes {r bg fi o1 o2 o3 : Nat} {k : Int32} {q : Bool} {a b : Nat} (hU : U6 r bg fi o1 o2 o3) (hL : RLs σ r L) (h6 : L.length ≤ 600) (ha : a ≤ 2000) (hb : b ≤ L.length) (hk : k = 0 ∨ k = 1 ∨ k = 2 ∨ k = 3) : PQ (mX9_undoes k (bI q) r bg fi (nI a) (nI b) o1 o2 o3 σ) (fun y => ∃ σ', y = (nI (und k q L a b).length, σ') ∧ UT σ σ' bg fi o1 o2 o3 (und k q L a b) ∧ FRX (R3 o1 o2 o3) F55 σ σ') := by
  have hne : r ≠ o1 ∧ r ≠ o2 ∧ r ≠ o3 ∧ bg ≠ o1 ∧ bg ≠ o2 ∧ bg ≠ o3 ∧ fi ≠ o1 ∧ fi ≠ o2 ∧ fi ≠ o3 ∧ o1 ≠ o2 ∧ o1 ≠ o3 ∧ o2 ≠ o3 := by unfold U6 at hU; omega
  have hlen : rLen o1 = 600 := by rcases hU with ⟨-, -, -, rfl, -⟩ | ⟨-, -, -, rfl, -⟩ <;> rfl
  have key : ∀ (d i : Nat) (U0 : List UI) (σ1 : RS9), U0 ++ und k q L i b = und k q L a b → FRX (R3 o1 o2 o3) F55 σ σ1 → UT σ σ1 bg fi o1 o2 o3 U0 → i ≤ 2000 → U0.length ≤ 600 → PQ (mX9_undoes_l7 d k (bI q) r bg fi (nI b) o1 o2 o3 (nI U0.length) (nI i) σ1) (fun y => ∃ σ', y = (nI (und k q L a b).length, σ') ∧ UT σ σ' bg fi o1 o2 o3 (und k q L a b) ∧ FRX (R3 o1 o2 o3) F55 σ σ') := by
    intro d
    induction d with
    | zero => intro i U0 σ1 _ _ _ _ _; exact pq_none
    | succ d ih =>
      intro i U0 σ1 hs hX hT hi2 hU6
      unfold mX9_undoes_l7
      refine pq_le (nI_toInt (by omega)) (nI_toInt (by omega)) (fun q1 => ?_) (fun q1 => ?_)
      · rw [und_end (by omega), List.append_nil] at hs
        rw [← hs]
        exact pq_ret ⟨σ1, rfl, hT, hX⟩
      · have hib : i < b := by omega
        have hL1 : RLs σ1 r L := RL_frx hL hX (fun h => by omega)
        have hm := mw_b (k := k) (q := q) (L := L) hib
        refine pq_call (r_means (q := q) hL1 h6 hib hb hk) (fun y hy => ?_)
        obtain ⟨σ2, rfl, h55, hX2⟩ := hy
        refine pq_ckb (fun hin => pq_ck (pq_ck (pq_ck (pq_ck ?_))))
        rw [hlen] at hin
        have hn6 := in_nI (by omega) hin
        show PQ (mX9_undoes_l7 d k (bI q) r bg fi (nI b) o1 o2 o3 (nI U0.length + 1) (nI i + nI (mw k q L i b).2) (rSa (rSa (rSa σ2 o1 (nI U0.length) (σ2.1 55)) o2 (nI U0.length) (rGa (rSa σ2 o1 (nI U0.length) (σ2.1 55)) bg (nI i))) o3 (nI U0.length) (rGa (rSa (rSa σ2 o1 (nI U0.length) (σ2.1 55)) o2 (nI U0.length) (rGa (rSa σ2 o1 (nI U0.length) (σ2.1 55)) bg (nI i))) fi ((nI i + nI (mw k q L i b).2) - (1 : Int32))))) _
        rw [nI_1, nI_add, h55]
        rw [show nI (i + (mw k q L i b).2) - (1 : Int32) = nI (i + (mw k q L i b).2 - 1) from nI_sb (b := 1) (by omega) (by omega)]
        have hbg : rGa (rSa σ2 o1 (nI U0.length) (mw k q L i b).1) bg (nI i) = σ.2 bg i := by
          rw [rd_nI (by omega), sa_ne (by omega), hX2.1 bg (fun h => h), hX.1 bg (fun h => by omega)]
        rw [hbg]
        have hfi : rGa (rSa (rSa σ2 o1 (nI U0.length) (mw k q L i b).1) o2 (nI U0.length) (σ.2 bg i)) fi (nI (i + (mw k q L i b).2 - 1)) = σ.2 fi (i + (mw k q L i b).2 - 1) := by
          rw [rd_nI (by omega), sa_ne (by omega), sa_ne (by omega), hX2.1 fi (fun h => h), hX.1 fi (fun h => by omega)]
        rw [hfi]
        have hst := und_st (k := k) (q := q) (L := L) hib
        have hX3 : FRX (R3 o1 o2 o3) F55 σ (rSa (rSa (rSa σ2 o1 (nI U0.length) (mw k q L i b).1) o2 (nI U0.length) (σ.2 bg i)) o3 (nI U0.length) (σ.2 fi (i + (mw k q L i b).2 - 1))) := by
          refine frx_tr hX ⟨fun z hz => ?_, fun z hz => hX2.2 z hz⟩
          rw [sa_ne (fun h => hz (by omega)), sa_ne (fun h => hz (by omega)), sa_ne (fun h => hz (by omega)), hX2.1 z (fun h => h)]
        have hl : (U0 ++ [((mw k q L i b).1, i, i + (mw k q L i b).2)]).length = U0.length + 1 := by rw [List.length_append]; rfl
        rw [← hl]
        refine ih (i + (mw k q L i b).2) (U0 ++ [((mw k q L i b).1, i, i + (mw k q L i b).2)]) _ ?_ hX3 (fun j hj => ?_) (by omega) (by omega)
        · rw [List.append_assoc, ← hs, hst]; rfl
        · rw [hl] at hj
          by_cases e : j = U0.length
          · rw [e, ugd_n]
            refine ⟨?_, ?_, ?_⟩
            · rw [sa_ne (by omega), sa_ne (by omega), sa_nI (by omega), if_pos rfl]
            · rw [sa_ne (by omega), sa_nI (by omega), if_pos rfl]
            · rw [sa_nI (by omega), if_pos rfl]
          · have hj2 : j < U0.length := by omega
            obtain ⟨t1, t2, t3⟩ := hT j hj2
            rw [ugd_l hj2]
            refine ⟨?_, ?_, ?_⟩
            · rw [sa_ne (by omega), sa_ne (by omega), sa_nI (by omega), if_neg e, hX2.1 o1 (fun h => h)]; exact t1
            · rw [sa_ne (by omega), sa_nI (by omega), if_neg e, sa_ne (by omega), hX2.1 o2 (fun h => h)]; exact t2
            · rw [sa_nI (by omega), if_neg e, sa_ne (by omega), sa_ne (by omega), hX2.1 o3 (fun h => h)]; exact t3
  unfold mX9_undoes
  exact key rFU a [] σ rfl frx_rfl (fun j hj => absurd hj (Nat.not_lt_zero _)) ha (by show 0 ≤ 600; omega)
/-! kinds and rules in a row of numbers -/
def MC (μ : Nat → Int32) (cf : CFG) : Prop := μ 1 = cf.1 ∧ μ 2 = cf.2.1 ∧ μ 3 = cf.2.2.1 ∧ μ 4 = nI cf.2.2.2.1 ∧ μ 5 = nI cf.2.2.2.2.length ∧ (∀ l, l < cf.2.2.2.2.length → μ (6 + 9 * l) = nI (cf.2.2.2.2.getD l []).length ∧ ∀ k, k < (cf.2.2.2.2.getD l []).length → μ (6 + 9 * l + 1 + k) = (cf.2.2.2.2.getD l []).getD k 0) ∧ CFok cf
def ciD : CI := (0, 0, false, 0, 0)
theorem cf_lk {cf : CFG} (h : CFok cf) {l : Nat} (hl : l < cf.2.2.2.2.length) : (cf.2.2.2.2.getD l []).length ≤ 8 := by
  refine h.2.2.2.2.2 _ ?_
  rw [List.getD_eq_getElem?_getD, List.getElem?_eq_getElem hl]
  exact List.getElem_mem hl
theorem r_isLocked {cf : CFG} {c : Nat} {ci : CI} (hM : MC (σ.2 1) cf) (hL : RLs σ 13 L) (h6 : L.length ≤ 600) (hc : c ≤ 600) (hk : cf.1 = 0 → σ.2 20 c = nI ci.2.2.2.1 ∧ σ.2 21 c = nI ci.2.2.2.2 ∧ ci.2.2.2.1 + ci.2.2.2.2 ≤ L.length) : PQ (mX9_isLocked (nI c) σ) (fun y => y = (bI (lkd cf L ci), σ)) := by
  obtain ⟨m1, m2, m3, m4, m5, m6, m7⟩ := hM
  have hl4 := m7.2.2.2.2.1
  unfold mX9_isLocked
  refine pq_ck ?_
  have e1 : rGa σ 1 (1 : Int32) = cf.1 := m1
  rw [e1]
  refine pq_eq (fun q => ?_) (fun q => ?_)
  · obtain ⟨k1, k2, k3⟩ := hk q
    have el : lkd cf L ci = cf.2.2.2.2.any (fun w => decide (w.length ≤ ci.2.2.2.2) && smF w 0 L ci.2.2.2.1 w.length) := by
      unfold lkd
      rw [decide_eq_true q, Bool.true_and]
    rw [el]
    have key : ∀ (d t : Nat), t ≤ cf.2.2.2.2.length → PQ (mX9_isLocked_l13 d (nI c) (nI t) σ) (fun y => y = (bI ((cf.2.2.2.2.drop t).any (fun w => decide (w.length ≤ ci.2.2.2.2) && smF w 0 L ci.2.2.2.1 w.length)), σ)) := by
      intro d
      induction d with
      | zero => intro t _; exact pq_none
      | succ d ih =>
        intro t ht
        unfold mX9_isLocked_l13
        have e5 : rGa σ 1 (5 : Int32) = nI cf.2.2.2.2.length := m5
        rw [e5]
        refine pq_ck (pq_le (nI_toInt (by omega)) (nI_toInt (by omega)) (fun q1 => ?_) (fun q1 => ?_))
        · rw [List.drop_eq_nil_of_le (by omega)]
          exact pq_ck (pq_ret rfl)
        · have htl : t < cf.2.2.2.2.length := by omega
          obtain ⟨a1, a2⟩ := m6 t htl
          have w8 := cf_lk m7 htl
          rw [show (6 : Int32) + (9 : Int32) * nI t = nI (6 + 9 * t) by rw [show (9 : Int32) * nI t = nI (9 * t) from nI_mulc 9 t]; exact nI_add 6 (9 * t)]
          rw [rd_nI (by omega), rd_nI (by omega), a1, k2, bdr_st htl, List.any_cons]
          refine pq_ck (pq_ck ?_)
          have b114 : ∀ is : Bool, is = (decide ((cf.2.2.2.2.getD t []).length ≤ ci.2.2.2.2) && smF (cf.2.2.2.2.getD t []) 0 L ci.2.2.2.1 (cf.2.2.2.2.getD t []).length) → PQ (mX9_isLocked_b114 (fun v1 v2 σ => mX9_isLocked_l13 d v1 v2 σ) (nI c) (nI t) (bI is) σ) (fun y => y = (bI ((decide ((cf.2.2.2.2.getD t []).length ≤ ci.2.2.2.2) && smF (cf.2.2.2.2.getD t []) 0 L ci.2.2.2.1 (cf.2.2.2.2.getD t []).length) || (cf.2.2.2.2.drop (t + 1)).any (fun w => decide (w.length ≤ ci.2.2.2.2) && smF w 0 L ci.2.2.2.1 w.length)), σ)) := fun is his => by
            rw [← his]
            unfold mX9_isLocked_b114
            cases is with
            | false =>
              refine pq_t rfl ?_
              rw [nI_1, Bool.false_or]
              exact ih (t + 1) (by omega)
            | true =>
              refine pq_f (show ¬ (1 : Int32) = 0 by decide) ?_
              rw [Bool.true_or]
              exact pq_ck (pq_ret rfl)
          generalize hw : cf.2.2.2.2.getD t [] = w at a1 a2 w8 b114 ⊢
          refine pq_lt (nI_toInt (by omega)) (nI_toInt (by omega)) (fun q2 => ?_) (fun q2 => ?_)
          · unfold mX9_isLocked_b51
            have hf : (decide (w.length ≤ ci.2.2.2.2) && smF w 0 L ci.2.2.2.1 w.length) = false := by rw [decide_eq_false (by omega), Bool.false_and]
            have k0 : ∀ d2, PQ (mX9_isLocked_l56 (fun v1 v2 σ => mX9_isLocked_l13 d v1 v2 σ) d2 (nI c) (nI t) (nI w.length) 0 0 σ) (fun y => y = (bI ((decide (w.length ≤ ci.2.2.2.2) && smF w 0 L ci.2.2.2.1 w.length) || (cf.2.2.2.2.drop (t + 1)).any (fun w => decide (w.length ≤ ci.2.2.2.2) && smF w 0 L ci.2.2.2.1 w.length)), σ)) := by
              intro d2
              cases d2 with
              | zero => exact pq_none
              | succ d2 =>
                unfold mX9_isLocked_l56
                exact pq_le rfl rfl (fun _ => b114 false hf.symm) (fun _ => pq_t rfl (b114 false hf.symm))
            exact k0 rFU
          · unfold mX9_isLocked_b51
            have ht' : decide (w.length ≤ ci.2.2.2.2) = true := decide_eq_true (by omega)
            have k1' : ∀ (d2 i : Nat) (is : Bool), i ≤ w.length → is = smF w 0 L ci.2.2.2.1 i → PQ (mX9_isLocked_l56 (fun v1 v2 σ => mX9_isLocked_l13 d v1 v2 σ) d2 (nI c) (nI t) (nI w.length) (bI is) (nI i) σ) (fun y => y = (bI ((decide (w.length ≤ ci.2.2.2.2) && smF w 0 L ci.2.2.2.1 w.length) || (cf.2.2.2.2.drop (t + 1)).any (fun w => decide (w.length ≤ ci.2.2.2.2) && smF w 0 L ci.2.2.2.1 w.length)), σ)) := by
              intro d2
              induction d2 with
              | zero => intro i is _ _; exact pq_none
              | succ d2 ih2 =>
                intro i is hi his
                unfold mX9_isLocked_l56
                refine pq_le (nI_toInt (by omega)) (nI_toInt (by omega)) (fun q3 => ?_) (fun q3 => ?_)
                · have : i = w.length := by omega
                  subst this
                  exact b114 is (by rw [ht', Bool.true_and]; exact his)
                · cases is with
                  | false =>
                    refine pq_t rfl (b114 false ?_)
                    rw [ht', Bool.true_and]
                    cases hx : smF w 0 L ci.2.2.2.1 w.length with
                    | false => rfl
                    | true =>
                      have := (smF_all i 0 ci.2.2.2.1).mpr (fun z hz => (smF_all _ _ _).mp hx z (by omega))
                      rw [this] at his; cases his
                  | true =>
                    refine pq_f (show ¬ (1 : Int32) = 0 by decide) (pq_ck (pq_ck (pq_ck ?_)))
                    have hall := (smF_all i 0 ci.2.2.2.1).mp his.symm
                    rw [show (((6 : Int32) + (9 : Int32) * nI t) + (1 : Int32)) + nI i = nI (6 + 9 * t + 1 + i) by rw [show (9 : Int32) * nI t = nI (9 * t) from nI_mulc 9 t, show (6 : Int32) + nI (9 * t) = nI (6 + 9 * t) from nI_add 6 (9 * t), nI_1, nI_add]]
                    rw [rd_nI (k := c) (by omega), k1, nI_add, rd_nI (by omega), rd_nI (by omega), hL _ (by omega), a2 i (by omega)]
                    have step : ∀ v : Bool, v = decide (w.getD i 0 = L.getD (ci.2.2.2.1 + i) 0) → v = smF w 0 L ci.2.2.2.1 (i + 1) := fun v hv => by
                      rw [hv]
                      cases hx : smF w 0 L ci.2.2.2.1 (i + 1) with
                      | true =>
                        have := (smF_all _ _ _).mp hx i (by omega)
                        rw [Nat.zero_add] at this
                        exact decide_eq_true this
                      | false =>
                        refine decide_eq_false (fun h => ?_)
                        have : smF w 0 L ci.2.2.2.1 (i + 1) = true := (smF_all _ _ _).mpr (fun z hz => by
                          by_cases e : z = i
                          · rw [e, Nat.zero_add]; exact h
                          · exact hall z (by omega))
                        rw [this] at hx; cases hx
                    refine pq_eq (fun q4 => ?_) (fun q4 => ?_)
                    · unfold mX9_isLocked_b106
                      rw [nI_1]
                      exact ih2 (i + 1) true (by omega) (step true (decide_eq_true q4.symm).symm)
                    · unfold mX9_isLocked_b106
                      rw [nI_1]
                      exact ih2 (i + 1) false (by omega) (step false (decide_eq_false (fun h => q4 h.symm)).symm)
            exact k1' rFU 0 true (Nat.zero_le _) rfl
    exact key rFU 0 (Nat.zero_le _)
  · have el : lkd cf L ci = false := by
      unfold lkd
      rw [decide_eq_false q, Bool.false_and]
    rw [el]
    exact pq_ck (pq_ret rfl)
end RTK
