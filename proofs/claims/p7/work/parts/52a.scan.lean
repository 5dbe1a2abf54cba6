/-! a scan of the class goes along a row -/
abbrev scL (r : Nat) (b e q kb ks m w k p : Int32) : List Value := [.ref r, .int b, .int e, .int q, .int kb, .int ks, .int m, .int w, .int k, .int p]
abbrev scE (r : Nat) (b e q kb ks m w k p : Int32) : Option AE := some (.inr (6, scL r b e q kb ks m w k p))
def SI (k q kb ks : Int32) : Prop := (k ≠ 1 → q = 0) ∧ (k ≠ 0 → kb = 0 ∧ ks = 0)
def SO (o : Option CI) (b e q kb ks : Int32) : Prop := match o with
  | none => e.toInt ≤ b.toInt
  | some c => b = nI c.1 ∧ e = nI c.2.1 ∧ q = bI c.2.2.1 ∧ kb = nI c.2.2.2.1 ∧ ks = nI c.2.2.2.2
theorem pq_pU {β : Type} {Q : β → Prop} {f : AH} {j c k : Nat} {v : Value} {fs : List Value} {kk : AH → Option β} (fs' : List Value) (hk : decide (k < fs.length) = true) (hs : fs.set k v = fs') (hh : PQ (kk (va_up f j (some (.inr (c, fs'))))) Q) : PQ ((pO (va_up f j (some (.inr (c, fs)))) j c k v).bind kk) Q := by
  subst hs
  refine pq_pO u_eq hk ?_
  rw [u_uu]; exact hh
theorem rw_up {f : AH} {j b c s : Nat} {L : BL} {X : Option AE} (hr : isRw f j b c L) (h1 : j ≠ s) (h2 : b ≠ s) : isRw (va_up f s X) j b c L := rw_tr hr (u_ne h1) (u_ne h2)
section SCS
variable {f : AH} {s r rb c n : Nat} {L : BL} {b e q kb ks m w k p : Int32}
theorem f_tryLine_l (hr : isRw f r rb c L) (h1 : r ≠ s) (h2 : rb ≠ s) {K S E : Nat} (hKS : K ≤ S) (hSE : S < E) (hE : E ≤ L.length) : ∀ (d h : Nat) (x : Int32), K ≤ h → h ≤ S → x.toInt = (h : Int) - 1 → PQ (mX6_tryLine_l102 d s (nI E) (nI S) x (va_up f s (scE r b e q (nI K) (nI (h - K)) m w k p)) n) (fun y => y = (0, va_up f s (scE r (nI (nx (bNe 32) L (S + 1) E)) e q (nI K) (nI (bkn (bEq 32) L K h - K)) m w k p), n)) := by
  have h6 := rw_6 hr
  intro d
  induction d with
  | zero => intro h x _ _ _; exact pq_none
  | succ d ih =>
    intro h x hK hS hx
    have fin : ∀ z : Nat, bkn (bEq 32) L K h = z → PQ (mX6_tryLine_b141 s (nI E) (nI S) (va_up f s (scE r b e q (nI K) (nI (z - K)) m w k p)) n) (fun y => y = (0, va_up f s (scE r (nI (nx (bNe 32) L (S + 1) E)) e q (nI K) (nI (bkn (bEq 32) L K h - K)) m w k p), n)) := by
      intro z hz
      unfold mX6_tryLine_b141
      refine pq_gR u_eq rfl (pq_sb (pq_ck ?_))
      rw [nI_1]
      refine pq_is (f_blanks (rw_up hr h1 h2) (by omega) hE) ?_
      refine pq_pU (scL r (nI (nx (bNe 32) L (S + 1) E)) e q (nI K) (nI (z - K)) m w k p) rfl rfl (pq_ret ?_)
      rw [hz]
    unfold mX6_tryLine_l102
    refine pq_gI u_eq rfl ?_
    refine pq_lt hx (nI_toInt (by omega)) (fun q1 => fin h (bkn_st (by omega))) (fun q1 => ?_)
    refine pq_gR u_eq rfl (pq_sb (pq_ck ?_))
    have ex : x = nI (h - 1) := Int32.toInt_inj.mp (by rw [nI_toInt (by omega), hx]; omega)
    rw [ex]
    refine pq_is (f_getN (rw_up hr h1 h2) (by omega)) ?_
    refine pq_eq (fun q2 => ?_) (fun q2 => ?_)
    · refine pq_gI u_eq rfl ?_
      have e1 : nI (h - K) - 1 = nI (h - 1 - K) := by
        obtain ⟨z, hz⟩ : ∃ z, h - K = z + 1 := ⟨h - K - 1, by omega⟩
        rw [hz, nI_pred, show h - 1 - K = z by omega]
      refine pq_pU (scL r b e q (nI K) (nI (h - 1 - K)) m w k p) rfl (by rw [e1]; rfl) ?_
      rw [bkn_go (by omega) (decide_eq_true q2)]
      exact ih (h - 1) _ (by omega) (by omega) (by rw [i_add (nI_toInt (by omega)) kt_m1 (by omega)]; omega)
    · exact fin h (bkn_st (fun y => q2 (of_decide_eq_true y.2)))
theorem f_tryLine (hr : isRw f r rb c L) (h1 : r ≠ s) (h2 : rb ≠ s) {a : Nat} (ha : a < L.length) (hq : q = 0) : PQ (mX6_tryLine s (va_up f s (scE r b e q kb ks m w k (nI a))) n) (fun y => ∃ b' e' kb' ks', y = (0, va_up f s (scE r b' e' q kb' ks' m w k (nI (stL L a).2)), n) ∧ SO (stL L a).1 b' e' q kb' ks') := by
  have h6 := rw_6 hr
  have hE : lnE L a ≤ L.length := nx_le (by omega)
  have haE : a ≤ lnE L a := nx_ge
  have hSE : lnS L a ≤ lnE L a := nx_le haE
  have haS : a ≤ lnS L a := nx_ge
  have hKE : lnK L a ≤ lnE L a := nx_le haE
  have haK : a ≤ lnK L a := nx_ge
  have gE : ∀ X, PQ (mX5_next r 10 (nI a) (nI L.length) (va_up f s X) n) (fun y => y = (nI (lnE L a), va_up f s X, n)) := fun X => f_next (rw_up hr h1 h2) (by omega) (Nat.le_refl _)
  have gS : ∀ X, PQ (mX5_next r 61 (nI a) (nI (lnE L a)) (va_up f s X) n) (fun y => y = (nI (lnS L a), va_up f s X, n)) := fun X => f_next (rw_up hr h1 h2) haE hE
  have gK : ∀ X, PQ (mX5_behindBlanks r (nI a) (nI (lnE L a)) (va_up f s X) n) (fun y => y = (nI (lnK L a), va_up f s X, n)) := fun X => f_blanks (rw_up hr h1 h2) haE hE
  unfold mX6_tryLine
  refine pq_gI u_eq rfl (pq_gR u_eq rfl (pq_gR u_eq rfl (pq_sb (pq_ck (pq_is (f_size (rw_up hr h1 h2)) (pq_sb (pq_ck ?_)))))))
  refine pq_is (gE _) ?_
  rw [nI_1]
  refine pq_pU (scL r b e q kb ks m w k (nI (lnE L a + 1))) rfl rfl ?_
  refine pq_gR u_eq rfl (pq_sb (pq_ck (pq_is (gS _) (pq_gR u_eq rfl (pq_sb (pq_ck (pq_is (gK _) ?_)))))))
  refine pq_pU (scL r b e q (nI (lnK L a)) ks m w k (nI (lnE L a + 1))) rfl rfl (pq_pU (scL r (nI (lnE L a)) e q (nI (lnK L a)) ks m w k (nI (lnE L a + 1))) rfl rfl (pq_pU (scL r (nI (lnE L a)) (nI (lnE L a)) q (nI (lnK L a)) ks m w k (nI (lnE L a + 1))) rfl rfl ?_))
  have none_ : (lnS L a = lnE L a ∨ L.getD (lnK L a) 0 = 35) → PQ (mX6_tryLine_b86 (va_up f s (some (.inr (6, scL r (nI (lnE L a)) (nI (lnE L a)) q (nI (lnK L a)) ks m w k (nI (lnE L a + 1)))))) n) (fun y => ∃ b' e' kb' ks', y = (0, va_up f s (scE r b' e' q kb' ks' m w k (nI (stL L a).2)), n) ∧ SO (stL L a).1 b' e' q kb' ks') := by
    intro h
    refine pq_ret ⟨_, _, _, _, rfl, ?_⟩
    have e1 : (stL L a).1 = none := if_pos (h.elim Or.inl (fun x => Or.inr (Or.inl x)))
    rw [e1]
    exact Int.le_refl _
  refine pq_eqi (nI_toInt (by omega)) (nI_toInt (by omega)) (fun h => none_ (Or.inl (by omega))) (fun h => ?_)
  have hne : lnS L a ≠ lnE L a := by omega
  have hKS : lnK L a ≤ lnS L a := by
    rcases Nat.lt_or_ge (lnS L a) (lnK L a) with q1 | q1
    · have h3 := nx_no (p := bNe 32) (L := L) (a := a) (b := lnE L a) haS q1
      have h4 := nx_at (p := bEq 61) (L := L) (a := a) (b := lnE L a) (show lnS L a < lnE L a by omega)
      have h5 : L.getD (lnS L a) 0 = 61 := of_decide_eq_true h4
      unfold bNe at h3
      rw [h5] at h3
      exact absurd h3 (by decide)
    · exact q1
  refine pq_gR u_eq rfl (pq_gI u_eq rfl (pq_sb (pq_ck (pq_is (f_getN (rw_up hr h1 h2) (by omega)) ?_))))
  refine pq_eq (fun h => none_ (Or.inr h)) (fun h35 => ?_)
  refine pq_gI u_eq rfl ?_
  have e2 : nI (lnS L a) - nI (lnK L a) = nI (lnS L a - lnK L a) := Int32.toInt_inj.mp (by
    rw [i_sub (nI_toInt (by omega)) (nI_toInt (by omega)) (by omega), nI_toInt (by omega)]; omega)
  refine pq_pU (scL r (nI (lnE L a)) (nI (lnE L a)) q (nI (lnK L a)) (nI (lnS L a - lnK L a)) m w k (nI (lnE L a + 1))) rfl (by rw [← e2]; rfl) ?_
  refine pq_tail (f_tryLine_l hr h1 h2 hKS (by omega) hE rFU (lnS L a) _ hKS (Nat.le_refl _) (by rw [i_sub (nI_toInt (by omega)) kt_1 (by omega)])) (fun y hy => ?_)
  refine ⟨_, _, _, _, hy, ?_⟩
  have hV : lnV L a ≤ lnE L a := nx_le (by omega)
  show SO (if lnS L a = lnE L a ∨ L.getD (lnK L a) 0 = 35 ∨ lnE L a ≤ lnV L a then none else some (lnV L a, lnE L a, false, lnK L a, lnM L a)) _ _ _ _ _
  by_cases hv : lnE L a ≤ lnV L a
  · rw [if_pos (Or.inr (Or.inr hv))]
    show (nI (lnE L a)).toInt ≤ (nI (lnV L a)).toInt
    rw [nI_toInt (by omega), nI_toInt (by omega)]; omega
  · rw [if_neg (fun x => x.elim hne (fun x => x.elim h35 hv))]
    exact ⟨rfl, rfl, hq, rfl, rfl⟩
theorem f_tryCell (hr : isRw f r rb c L) (h1 : r ≠ s) (h2 : rb ≠ s) {a : Nat} (ha : a < L.length) (hkb : kb = 0) (hks : ks = 0) : PQ (mX6_tryCell s (va_up f s (scE r b e q kb ks m w k (nI a))) n) (fun y => ∃ b' e' q', y = (0, va_up f s (scE r b' e' q' kb ks m w k (nI (stT L a).2)), n) ∧ SO (stT L a).1 b' e' q' kb ks) := by
  have h6 := rw_6 hr
  unfold mX6_tryCell
  refine pq_gR u_eq rfl (pq_gI u_eq rfl (pq_sb (pq_ck (pq_is (f_getN (rw_up hr h1 h2) ha) ?_))))
  unfold stT
  refine pq_eq (fun q1 => ?_) (fun q1 => ?_)
  · rw [if_pos q1]
    have hq1 : a + 1 ≤ qe L (a + 1) := qe_ge
    have hq2 : qe L (a + 1) ≤ L.length := qe_le (by omega)
    unfold mX6_tryCell_b22
    refine pq_ck (pq_pU (scL r b e 1 kb ks m w k (nI a)) rfl rfl (pq_gI u_eq rfl (pq_f (by decide) (pq_gI u_eq rfl ?_))))
    rw [nI_1]
    unfold mX6_tryCell_b46
    refine pq_pU (scL r (nI (a + 1)) e 1 kb ks m w k (nI a)) rfl rfl (pq_gI u_eq rfl (pq_f (by decide) (pq_gR u_eq rfl (pq_gI u_eq rfl (pq_sb (pq_ck (pq_is (f_cqe (rw_up hr h1 h2) (by omega)) ?_)))))))
    unfold mX6_tryCell_b82
    refine pq_pU (scL r (nI (a + 1)) (nI (qe L (a + 1))) 1 kb ks m w k (nI a)) rfl rfl (pq_gI u_eq rfl (pq_f (by decide) (pq_gR u_eq rfl (pq_gI u_eq rfl (pq_sb (pq_ck ?_))))))
    rw [nI_1]
    have so : SO (if a + 1 < qe L (a + 1) then some (a + 1, qe L (a + 1), true, 0, 0) else none) (nI (a + 1)) (nI (qe L (a + 1))) 1 kb ks := by
      split
      · exact ⟨rfl, rfl, rfl, hkb, hks⟩
      · show (nI (qe L (a + 1))).toInt ≤ (nI (a + 1)).toInt
        rw [nI_toInt (by omega), nI_toInt (by omega)]; omega
    by_cases hl : qe L (a + 1) < L.length
    · refine pq_is (f_cellEnd (rw_up hr h1 h2) (by omega)) ?_
      unfold mX6_tryCell_b117
      refine pq_pU (scL r (nI (a + 1)) (nI (qe L (a + 1))) 1 kb ks m w k (nI (nx bSep L (qe L (a + 1) + 1) L.length + 1))) rfl (by rw [← nI_1 (nx bSep L (qe L (a + 1) + 1) L.length)]; rfl) (pq_ret ⟨_, _, _, ?_, so⟩)
      show _ = (0, va_up f s (scE r _ _ _ kb ks m w k (nI ((if qe L (a + 1) < L.length then nx bSep L (qe L (a + 1) + 1) L.length else L.length) + 1))), n)
      rw [if_pos hl]
    · refine pq_is (f_cellEndO (rw_up hr h1 h2) (by omega) (by omega)) ?_
      unfold mX6_tryCell_b117
      refine pq_pU (scL r (nI (a + 1)) (nI (qe L (a + 1))) 1 kb ks m w k (nI (L.length + 1))) rfl (by rw [← nI_1 L.length]; rfl) (pq_ret ⟨_, _, _, ?_, so⟩)
      show _ = (0, va_up f s (scE r _ _ _ kb ks m w k (nI ((if qe L (a + 1) < L.length then nx bSep L (qe L (a + 1) + 1) L.length else L.length) + 1))), n)
      rw [if_neg hl]
  · rw [if_neg q1]
    unfold mX6_tryCell_b22
    have hq1 : a ≤ nx bSep L a L.length := nx_ge
    have hq2 : nx bSep L a L.length ≤ L.length := nx_le (by omega)
    refine pq_ck (pq_pU (scL r b e 0 kb ks m w k (nI a)) rfl rfl (pq_gI u_eq rfl (pq_t rfl (pq_gI u_eq rfl ?_))))
    unfold mX6_tryCell_b46
    refine pq_pU (scL r (nI a) e 0 kb ks m w k (nI a)) rfl rfl (pq_gI u_eq rfl (pq_t rfl (pq_gR u_eq rfl (pq_gI u_eq rfl (pq_sb (pq_ck (pq_is (f_cellEnd (rw_up hr h1 h2) (by omega)) ?_)))))))
    unfold mX6_tryCell_b82
    refine pq_pU (scL r (nI a) (nI (nx bSep L a L.length)) 0 kb ks m w k (nI a)) rfl rfl (pq_gI u_eq rfl (pq_t rfl (pq_gI u_eq rfl ?_)))
    unfold mX6_tryCell_b117
    refine pq_pU (scL r (nI a) (nI (nx bSep L a L.length)) 0 kb ks m w k (nI (nx bSep L a L.length + 1))) rfl (by rw [← nI_1]; rfl) (pq_ret ⟨_, _, _, rfl, ?_⟩)
    show SO (if a < nx bSep L a L.length then some (a, nx bSep L a L.length, false, 0, 0) else none) _ _ _ _ _
    split
    · exact ⟨rfl, rfl, rfl, hkb, hks⟩
    · show (nI (nx bSep L a L.length)).toInt ≤ (nI a).toInt
      rw [nI_toInt (by omega), nI_toInt (by omega)]; omega
theorem f_tryMarkup_l (hr : isRw f r rb c L) (h1 : r ≠ s) (h2 : rb ≠ s) {X S : Nat} (hXS : X ≤ S) (hS : S ≤ L.length) (hX : X < S → bBare (L.getD X 0) = false) : ∀ (d h : Nat) (x : Int32), X ≤ h → h ≤ S → x.toInt = (h : Int) - 1 → PQ (mX6_tryMarkup_l105 d s (nI S) x (va_up f s (scE r (nI X) (nI h) q kb ks m w k p)) n) (fun y => y = (0, va_up f s (scE r (nI X) (nI (bkn bBare L X h)) q kb ks m w k (nI S)), n)) := by
  have h6 := rw_6 hr
  intro d
  induction d with
  | zero => intro h x _ _ _; exact pq_none
  | succ d ih =>
    intro h x hK hH hx
    have fin : bkn bBare L X h = h → PQ (mX6_tryMarkup_b150 s (nI S) (va_up f s (scE r (nI X) (nI h) q kb ks m w k p)) n) (fun y => y = (0, va_up f s (scE r (nI X) (nI (bkn bBare L X h)) q kb ks m w k (nI S)), n)) := by
      intro hz
      unfold mX6_tryMarkup_b150
      refine pq_pU (scL r (nI X) (nI h) q kb ks m w k (nI S)) rfl rfl (pq_ret ?_)
      rw [hz]
    unfold mX6_tryMarkup_l105
    refine pq_gI u_eq rfl ?_
    refine pq_le hx (nI_toInt (by omega)) (fun q1 => fin (bkn_st (fun y => ?_))) (fun q1 => ?_)
    · have e1 : h - 1 = X := by omega
      have := hX (by omega)
      rw [e1, this] at y
      exact absurd y.2 (by decide)
    refine pq_gR u_eq rfl (pq_sb (pq_ck ?_))
    have ex : x = nI (h - 1) := Int32.toInt_inj.mp (by rw [nI_toInt (by omega), hx]; omega)
    rw [ex]
    have go : bBare (L.getD (h - 1) 0) = true → PQ (mX6_tryMarkup_b139 (fun v0 v1 v2 f n => mX6_tryMarkup_l105 d v0 v1 v2 f n) s (nI S) (nI (h - 1)) (va_up f s (scE r (nI X) (nI h) q kb ks m w k p)) n) (fun y => y = (0, va_up f s (scE r (nI X) (nI (bkn bBare L X h)) q kb ks m w k (nI S)), n)) := by
      intro hb
      unfold mX6_tryMarkup_b139
      refine pq_pU (scL r (nI X) (nI (h - 1)) q kb ks m w k p) rfl rfl ?_
      rw [bkn_go (by omega) hb]
      exact ih (h - 1) _ (by omega) (by omega) (by rw [i_add (nI_toInt (by omega)) kt_m1 (by omega)]; omega)
    refine pq_is (f_getN (rw_up hr h1 h2) (by omega)) ?_
    refine pq_eq (fun q2 => go (by unfold bBare; rw [decide_eq_true q2]; rfl)) (fun q2 => ?_)
    refine pq_gR u_eq rfl (pq_sb (pq_ck (pq_is (f_getN (rw_up hr h1 h2) (by omega)) ?_)))
    refine pq_eq (fun q3 => go (by unfold bBare; rw [decide_eq_true q3, Bool.or_true])) (fun q3 => fin (bkn_st (fun y => ?_)))
    have e2 : bBare (L.getD (h - 1) 0) = false := by unfold bBare; rw [decide_eq_false q2, decide_eq_false q3]; rfl
    rw [e2] at y
    exact absurd y.2 (by decide)
theorem f_tryMarkup (hr : isRw f r rb c L) (h1 : r ≠ s) (h2 : rb ≠ s) {a : Nat} (ha : a < L.length) (hq : q = 0) (hkb : kb = 0) (hks : ks = 0) : PQ (mX6_tryMarkup s (va_up f s (scE r b e q kb ks m w k (nI a))) n) (fun y => ∃ b' e', y = (0, va_up f s (scE r b' e' q kb ks m w k (nI (stM L a).2)), n) ∧ SO (stM L a).1 b' e' q kb ks) := by
  have h6 := rw_6 hr
  have hS : mkS L a ≤ L.length := nx_le (by omega)
  have haS : a ≤ mkS L a := nx_ge
  have hXS : mkX L a ≤ mkS L a := nx_le haS
  have haX : a ≤ mkX L a := nx_ge
  have hG : nx (bEq 62) L a L.length ≤ L.length := nx_le (by omega)
  have gS : ∀ X, PQ (mX5_next r 60 (nI a) (nI L.length) (va_up f s X) n) (fun y => y = (nI (mkS L a), va_up f s X, n)) := fun X => f_next (rw_up hr h1 h2) (by omega) (Nat.le_refl _)
  have gX : ∀ X, PQ (mX5_behindSpace r (nI a) (nI (mkS L a)) (va_up f s X) n) (fun y => y = (nI (mkX L a), va_up f s X, n)) := fun X => f_space (rw_up hr h1 h2) haS hS
  unfold mX6_tryMarkup
  refine pq_gI u_eq rfl (pq_pU (scL r (nI a) e q kb ks m w k (nI a)) rfl rfl (pq_gI u_eq rfl (pq_pU (scL r (nI a) (nI a) q kb ks m w k (nI a)) rfl rfl (pq_gR u_eq rfl (pq_gI u_eq rfl (pq_sb (pq_ck (pq_is (f_getN (rw_up hr h1 h2) ha) ?_))))))))
  unfold stM
  refine pq_eq (fun q1 => ?_) (fun q1 => ?_)
  · rw [if_pos q1]
    refine pq_gR u_eq rfl (pq_gI u_eq rfl (pq_gR u_eq rfl (pq_sb (pq_ck (pq_is (f_size (rw_up hr h1 h2)) (pq_sb (pq_ck (pq_is (f_next (rw_up hr h1 h2) (by omega) (Nat.le_refl _)) ?_))))))))
    refine pq_pU (scL r (nI a) (nI a) q kb ks m w k (nI (nx (bEq 62) L a L.length + 1))) rfl (by rw [← nI_1]; rfl) (pq_ret ⟨_, _, rfl, ?_⟩)
    exact Int.le_refl _
  · rw [if_neg q1]
    refine pq_gR u_eq rfl (pq_gI u_eq rfl (pq_gR u_eq rfl (pq_sb (pq_ck (pq_is (f_size (rw_up hr h1 h2)) (pq_sb (pq_ck (pq_is (gS _) ?_))))))))
    refine pq_gR u_eq rfl (pq_gI u_eq rfl (pq_sb (pq_ck (pq_is (gX _) ?_))))
    refine pq_pU (scL r (nI (mkX L a)) (nI a) q kb ks m w k (nI a)) rfl rfl (pq_pU (scL r (nI (mkX L a)) (nI (mkS L a)) q kb ks m w k (nI a)) rfl rfl ?_)
    refine pq_tail (f_tryMarkup_l hr h1 h2 hXS hS (fun hx => ?_) rFU (mkS L a) _ hXS (Nat.le_refl _) (by rw [i_sub (nI_toInt (by omega)) kt_1 (by omega)])) (fun y hy => ⟨_, _, hy, ?_⟩)
    · have h3 := nx_at (p := bNb) (L := L) (a := a) (b := mkS L a) hx
      have h4 : bNb (L.getD (mkX L a) 0) = true := h3
      unfold bNb at h4
      unfold bBare
      cases h5 : (decide (L.getD (mkX L a) 0 = 32) || decide (L.getD (mkX L a) 0 = 10)) with
      | false => rfl
      | true => rw [h5] at h4; cases h4
    · have hY : mkY L a ≤ mkS L a := bkn_le _
      show SO (if mkX L a < mkY L a then some (mkX L a, mkY L a, false, 0, 0) else none) _ _ _ _ _
      split
      · exact ⟨rfl, rfl, hq, hkb, hks⟩
      · show (nI (mkY L a)).toInt ≤ (nI (mkX L a)).toInt
        rw [nI_toInt (by omega), nI_toInt (by omega)]; omega
theorem f_tryQuotes (hr : isRw f r rb c L) (h1 : r ≠ s) (h2 : rb ≠ s) {a : Nat} (ha : a < L.length) (hq : q = 0) (hkb : kb = 0) (hks : ks = 0) : PQ (mX6_tryQuotes s (va_up f s (scE r b e q kb ks m w k (nI a))) n) (fun y => ∃ b' e', y = (0, va_up f s (scE r b' e' q kb ks m w k (nI (stQ L a).2)), n) ∧ SO (stQ L a).1 b' e' q kb ks) := by
  have h6 := rw_6 hr
  have hA : quA L a ≤ L.length := nx_le (by omega)
  have haA : a ≤ quA L a := nx_ge
  have gA : ∀ X, PQ (mX5_next r 34 (nI a) (nI L.length) (va_up f s X) n) (fun y => y = (nI (quA L a), va_up f s X, n)) := fun X => f_next (rw_up hr h1 h2) (by omega) (Nat.le_refl _)
  have main : ∀ E : Nat, quA L a + 1 ≤ 601 → E ≤ L.length → (∀ X, PQ (mX5_quoteEnd r (nI (quA L a + 1)) (va_up f s X) n) (fun y => y = (nI E, va_up f s X, n))) → ∀ col : Prop, (∀ X, PQ (mX5_behindSpace r (nI (E + 1)) (nI L.length) (va_up f s X) n) (fun y => ∃ W : Int32, y = (W, va_up f s X, n) ∧ (gt1 L W = 58 ↔ col))) → PQ (mX6_tryQuotes s (va_up f s (scE r b e q kb ks m w k (nI a))) n) (fun y => ∃ e', y = (0, va_up f s (scE r (nI (quA L a + 1)) e' q kb ks m w k (nI (E + 1))), n) ∧ ((col ∧ e' = nI (quA L a + 1)) ∨ (¬ col ∧ e' = nI E))) := by
    intro E hA1 hE gE col gW
    unfold mX6_tryQuotes
    refine pq_gR u_eq rfl (pq_gI u_eq rfl (pq_gR u_eq rfl (pq_sb (pq_ck (pq_is (f_size (rw_up hr h1 h2)) (pq_sb (pq_ck (pq_is (gA _) ?_))))))))
    rw [nI_1]
    refine pq_pU (scL r (nI (quA L a + 1)) e q kb ks m w k (nI a)) rfl rfl (pq_gR u_eq rfl (pq_gI u_eq rfl (pq_sb (pq_ck (pq_is (gE _) ?_)))))
    refine pq_pU (scL r (nI (quA L a + 1)) (nI E) q kb ks m w k (nI a)) rfl rfl (pq_gI u_eq rfl ?_)
    rw [nI_1]
    refine pq_pU (scL r (nI (quA L a + 1)) (nI E) q kb ks m w k (nI (E + 1))) rfl rfl (pq_gR u_eq rfl (pq_gR u_eq rfl (pq_gI u_eq rfl (pq_gR u_eq rfl (pq_sb (pq_ck (pq_is (f_size (rw_up hr h1 h2)) (pq_sb (pq_ck ?_)))))))))
    refine pq_call (gW _) (fun y hy => ?_)
    obtain ⟨W, rfl, hW⟩ := hy
    refine pq_sb (pq_ck (pq_is (f_get (rw_up hr h1 h2)) ?_))
    refine pq_eq (fun q1 => ?_) (fun q1 => ?_)
    · refine pq_gI u_eq rfl (pq_pU (scL r (nI (quA L a + 1)) (nI (quA L a + 1)) q kb ks m w k (nI (E + 1))) rfl rfl (pq_ret ⟨_, rfl, Or.inl ⟨hW.mp q1, rfl⟩⟩))
    · exact pq_ret ⟨_, rfl, Or.inr ⟨fun x => q1 (hW.mpr x), rfl⟩⟩
  unfold stQ
  by_cases hl : quA L a < L.length
  · rw [if_pos hl]
    have hE : quE L a ≤ L.length := qq_le (by omega)
    have hAE : quA L a + 1 ≤ quE L a := qq_ge
    refine pq_tail (main (quE L a) (by omega) hE (fun X => f_qq (rw_up hr h1 h2) (by omega)) (quW L a < L.length ∧ L.getD (quW L a) 0 = 58) (fun X => ?_)) (fun y hy => ?_)
    · by_cases hE2 : quE L a < L.length
      · have hW : quW L a ≤ L.length := nx_le (by omega)
        refine pq_tail (f_space (rw_up hr h1 h2) (by omega) (Nat.le_refl _)) (fun y hy => ⟨_, hy, ?_⟩)
        show gt1 L (nI (quW L a)) = 58 ↔ _
        by_cases hw : quW L a < L.length
        · rw [gt1_N hw (by omega)]
          exact ⟨fun x => ⟨hw, x⟩, fun x => x.2⟩
        · rw [gt1_O (by omega) (by omega)]
          exact ⟨fun x => absurd x (by decide), fun x => absurd x.1 hw⟩
      · refine pq_tail (f_spaceO (rw_up hr h1 h2) (by omega) (by omega)) (fun y hy => ⟨_, hy, ?_⟩)
        rw [gt1_O (by omega) (by omega)]
        have hW : quE L a + 1 ≤ quW L a := nx_ge
        exact ⟨fun x => absurd x (by decide), fun x => absurd x.1 (by omega)⟩
    · obtain ⟨e', rfl, he⟩ := hy
      refine ⟨_, _, rfl, ?_⟩
      show SO (if quA L a + 1 < quE L a ∧ ¬ (quW L a < L.length ∧ L.getD (quW L a) 0 = 58) then some (quA L a + 1, quE L a, false, 0, 0) else none) _ _ _ _ _
      rcases he with ⟨h3, rfl⟩ | ⟨h3, rfl⟩
      · rw [if_neg (fun x => x.2 h3)]
        exact Int.le_refl _
      · by_cases h4 : quA L a + 1 < quE L a
        · rw [if_pos ⟨h4, h3⟩]
          exact ⟨rfl, rfl, hq, hkb, hks⟩
        · rw [if_neg (fun x => h4 x.1)]
          show (nI (quE L a)).toInt ≤ (nI (quA L a + 1)).toInt
          rw [nI_toInt (by omega), nI_toInt (by omega)]; omega
  · rw [if_neg hl]
    refine pq_tail (main L.length (by omega) (Nat.le_refl _) (fun X => f_qqO (rw_up hr h1 h2) (by omega) (by omega)) False (fun X => ?_)) (fun y hy => ?_)
    · refine pq_tail (f_spaceO (rw_up hr h1 h2) (by omega) (by omega)) (fun y hy => ⟨_, hy, ?_⟩)
      rw [gt1_O (by omega) (by omega)]
      exact ⟨fun x => absurd x (by decide), fun x => x.elim⟩
    · obtain ⟨e', rfl, he⟩ := hy
      refine ⟨_, _, rfl, ?_⟩
      show SO none _ _ _ _ _
      rcases he with ⟨h3, -⟩ | ⟨-, rfl⟩
      · exact h3.elim
      · show (nI L.length).toInt ≤ (nI (quA L a + 1)).toInt
        rw [nI_toInt (by omega), nI_toInt (by omega)]; omega
end SCS
