theorem stepK_le {k : Int32} {L : BL} {a : Nat} (h : a < L.length) : (stepK k L a).2 ≤ L.length + 1 := by
  unfold stepK
  split
  · have : lnE L a ≤ L.length := nx_le (by omega)
    show lnE L a + 1 ≤ _; omega
  · split
    · unfold stT
      split
      · have h1 : qe L (a + 1) ≤ L.length := qe_le (by omega)
        show (if qe L (a + 1) < L.length then nx bSep L (qe L (a + 1) + 1) L.length else L.length) + 1 ≤ _
        split
        · have := nx_le (p := bSep) (L := L) (a := qe L (a + 1) + 1) (b := L.length) (by omega)
          omega
        · omega
      · have := nx_le (p := bSep) (L := L) (a := a) (b := L.length) (by omega)
        show nx bSep L a L.length + 1 ≤ _; omega
    · split
      · unfold stM
        split
        · have := nx_le (p := bEq 62) (L := L) (a := a) (b := L.length) (by omega)
          show nx (bEq 62) L a L.length + 1 ≤ _; omega
        · have : mkS L a ≤ L.length := nx_le (by omega)
          show mkS L a ≤ _; omega
      · unfold stQ
        split
        · have : quE L a ≤ L.length := qq_le (by omega)
          show quE L a + 1 ≤ _; omega
        · exact Nat.le_refl _
section SC2
variable {f : AH} {s r rb c n : Nat} {L : BL} {m w k : Int32}
theorem f_scstart {b e q kb ks p : Int32} {r' : Nat} {k' : Int32} : PQ (mX6_start s (some r') k' (va_up f s (scE r b e q kb ks m w k p)) n) (fun y => y = (0, va_up f s (scE r' b e 0 0 0 m w k' 0), n)) := by
  unfold mX6_start
  exact pq_pU (scL r' b e q kb ks m w k p) rfl rfl (pq_pU (scL r' b e q kb ks m w k' p) rfl rfl (pq_pU (scL r' b e q kb ks m w k' 0) rfl rfl (pq_ck (pq_pU (scL r' b e 0 kb ks m w k' 0) rfl rfl (pq_pU (scL r' b e 0 0 ks m w k' 0) rfl rfl (pq_pU (scL r' b e 0 0 0 m w k' 0) rfl rfl (pq_ret rfl)))))))
theorem f_try (hr : isRw f r rb c L) (h1 : r ≠ s) (h2 : rb ≠ s) (hk : k = 0 ∨ k = 1 ∨ k = 2 ∨ k = 3) {b e q kb ks : Int32} {a : Nat} (ha : a < L.length) (hS : SI k q kb ks) : ∀ {o : Option (Int32 × HpN)}, o = (if k = 0 then mX6_tryLine s (va_up f s (scE r b e q kb ks m w k (nI a))) n else if k = 1 then mX6_tryCell s (va_up f s (scE r b e q kb ks m w k (nI a))) n else if k = 2 then mX6_tryMarkup s (va_up f s (scE r b e q kb ks m w k (nI a))) n else mX6_tryQuotes s (va_up f s (scE r b e q kb ks m w k (nI a))) n) → PQ o (fun y => ∃ b' e' q' kb' ks', y = (0, va_up f s (scE r b' e' q' kb' ks' m w k (nI (stepK k L a).2)), n) ∧ SI k q' kb' ks' ∧ SO (stepK k L a).1 b' e' q' kb' ks') := by
  intro o ho
  subst ho
  unfold stepK
  rcases hk with rfl | rfl | rfl | rfl
  · rw [if_pos rfl, if_pos rfl]
    refine pq_tail (f_tryLine hr h1 h2 ha (hS.1 (by decide))) (fun y hy => ?_)
    obtain ⟨b', e', kb', ks', rfl, h⟩ := hy
    exact ⟨_, _, _, _, _, rfl, ⟨fun _ => hS.1 (by decide), fun x => absurd rfl x⟩, h⟩
  · rw [if_neg (by decide), if_pos rfl, if_neg (by decide), if_pos rfl]
    have h3 := hS.2 (by decide)
    refine pq_tail (f_tryCell hr h1 h2 ha h3.1 h3.2) (fun y hy => ?_)
    obtain ⟨b', e', q', rfl, h⟩ := hy
    exact ⟨_, _, _, _, _, rfl, ⟨fun x => absurd rfl x, fun _ => h3⟩, h⟩
  · rw [if_neg (by decide), if_neg (by decide), if_pos rfl, if_neg (by decide), if_neg (by decide), if_pos rfl]
    have h3 := hS.2 (by decide)
    refine pq_tail (f_tryMarkup hr h1 h2 ha (hS.1 (by decide)) h3.1 h3.2) (fun y hy => ?_)
    obtain ⟨b', e', rfl, h⟩ := hy
    exact ⟨_, _, _, _, _, rfl, hS, h⟩
  · rw [if_neg (by decide), if_neg (by decide), if_neg (by decide), if_neg (by decide), if_neg (by decide), if_neg (by decide)]
    have h3 := hS.2 (by decide)
    refine pq_tail (f_tryQuotes hr h1 h2 ha (hS.1 (by decide)) h3.1 h3.2) (fun y hy => ?_)
    obtain ⟨b', e', rfl, h⟩ := hy
    exact ⟨_, _, _, _, _, rfl, hS, h⟩
def SN (f : AH) (s r n : Nat) (L : BL) (m w k : Int32) (a : Nat) (y : Int32 × HpN) : Prop := ∃ b' e' q' kb' ks' a', a' ≤ 601 ∧ a ≤ a' ∧ SI k q' kb' ks' ∧ ((y = (1, va_up f s (scE r b' e' q' kb' ks' m w k (nI a')), n) ∧ ∃ c, cutL k L a = c :: cutL k L a' ∧ SO (some c) b' e' q' kb' ks' ∧ c.2.1 ≤ a') ∨ (y = (0, va_up f s (scE r b' e' q' kb' ks' m w k (nI a')), n) ∧ cutL k L a = []))
theorem f_scnext_l (hr : isRw f r rb c L) (h1 : r ≠ s) (h2 : rb ≠ s) (hk : k = 0 ∨ k = 1 ∨ k = 2 ∨ k = 3) : ∀ (d t a : Nat) (b e q kb ks : Int32), t ≤ a → a ≤ 601 → SI k q kb ks → PQ (mX6_next_l2 d s (nI t) (va_up f s (scE r b e q kb ks m w k (nI a))) n) (SN f s r n L m w k a) := by
  have h6 := rw_6 hr
  intro d
  induction d with
  | zero => intro t a b e q kb ks _ _ _; exact pq_none
  | succ d ih =>
    intro t a b e q kb ks hta ha6 hS
    have fin : L.length ≤ a → PQ (mX6_next_b96 (va_up f s (scE r b e q kb ks m w k (nI a))) n) (SN f s r n L m w k a) := fun h => pq_ck (pq_ret ⟨b, e, q, kb, ks, a, ha6, Nat.le_refl _, hS, Or.inr ⟨rfl, cutL_end h⟩⟩)
    unfold mX6_next_l2
    refine pq_lt kt_600 (nI_toInt (by omega)) (fun h => fin (by omega)) (fun h => ?_)
    refine pq_gI u_eq rfl (pq_gR u_eq rfl (pq_sb (pq_ck (pq_is (f_size (rw_up hr h1 h2)) ?_))))
    refine pq_le (nI_toInt (by omega)) (nI_toInt (by omega)) (fun h3 => fin (by omega)) (fun h3 => ?_)
    have ha : a < L.length := by omega
    refine pq_gI u_eq rfl ?_
    have key : ∀ o : Option (Int32 × HpN), o = (if k = 0 then mX6_tryLine s (va_up f s (scE r b e q kb ks m w k (nI a))) n else if k = 1 then mX6_tryCell s (va_up f s (scE r b e q kb ks m w k (nI a))) n else if k = 2 then mX6_tryMarkup s (va_up f s (scE r b e q kb ks m w k (nI a))) n else mX6_tryQuotes s (va_up f s (scE r b e q kb ks m w k (nI a))) n) → PQ (o.bind fun r9 => mX6_next_b77 (fun v0 v1 f n => mX6_next_l2 d v0 v1 f n) s (nI t) r9.2.1 r9.2.2) (SN f s r n L m w k a) := by
      intro o ho
      refine pq_call (f_try hr h1 h2 hk ha hS ho) (fun y hy => ?_)
      obtain ⟨b', e', q', kb', ks', rfl, hS', hO⟩ := hy
      unfold mX6_next_b77
      have hg := stepK_gt (k := k) ha
      have hle := stepK_le (k := k) ha
      refine pq_gI u_eq rfl (pq_gI u_eq rfl ?_)
      cases e1 : (stepK k L a).1 with
      | none =>
        rw [e1] at hO
        have hO2 : e'.toInt ≤ b'.toInt := hO
        refine pq_t (c_le hO2) ?_
        rw [nI_1]
        refine pq_tail (ih (t + 1) (stepK k L a).2 b' e' q' kb' ks' (by omega) (by omega) hS') (fun y hy => ?_)
        obtain ⟨b2, e2, q2, kb2, ks2, a2, g1, g2, g3, g4⟩ := hy
        have e9 : cutL k L a = cutL k L (stepK k L a).2 := by rw [cutL_st ha, e1]; rfl
        rw [← e9] at g4
        exact ⟨b2, e2, q2, kb2, ks2, a2, g1, by omega, g3, g4⟩
      | some c0 =>
        have hb := stepK_b ha e1
        rw [e1] at hO
        obtain ⟨o1, o2, o3⟩ := hO
        refine pq_f (c_nle (by rw [o1, o2, nI_toInt (by omega), nI_toInt (by omega)]; omega)) (pq_ck (pq_ret ?_))
        refine ⟨b', e', q', kb', ks', (stepK k L a).2, by omega, by omega, hS', Or.inl ⟨rfl, c0, ?_, ⟨o1, o2, o3⟩, hb.2.2.2⟩⟩
        rw [cutL_st ha, e1]; rfl
    rcases hk with rfl | rfl | rfl | rfl
    · exact pq_t rfl (pq_ck (key _ (by rw [if_pos rfl])))
    · exact pq_f (by decide) (pq_t rfl (pq_ck (key _ (by rw [if_neg (by decide), if_pos rfl]))))
    · exact pq_f (by decide) (pq_f (by decide) (pq_t rfl (pq_ck (key _ (by rw [if_neg (by decide), if_neg (by decide), if_pos rfl])))))
    · exact pq_f (by decide) (pq_f (by decide) (pq_f (by decide) (pq_ck (key _ (by rw [if_neg (by decide), if_neg (by decide), if_neg (by decide)])))))
theorem f_scnext (hr : isRw f r rb c L) (h1 : r ≠ s) (h2 : rb ≠ s) (hk : k = 0 ∨ k = 1 ∨ k = 2 ∨ k = 3) {a : Nat} {b e q kb ks : Int32} (ha : a ≤ 601) (hS : SI k q kb ks) : PQ (mX6_next s (va_up f s (scE r b e q kb ks m w k (nI a))) n) (SN f s r n L m w k a) := f_scnext_l hr h1 h2 hk rFU 0 a b e q kb ks (Nat.zero_le _) ha hS
/-! what a scan reads -/
theorem f_readMarkup (hr : isRw f r rb c L) (h1 : r ≠ s) (h2 : rb ≠ s) {b q kb ks p : Int32} {i E : Nat} (hi : i < E) (hE : E ≤ L.length) (h38 : L.getD i 0 = 38) : PQ (mX6_readMarkup s (nI i) (va_up f s (scE r b (nI E) q kb ks 38 1 k p)) n) (fun y => y = (0, va_up f s (scE r b (nI E) q kb ks (mkM L i E).1 (nI (mkM L i E).2) k p), n)) := by
  have h6 := rw_6 hr
  have e1 : nI i + 1 = nI (i + 1) := nI_1 i
  have e2 : nI i + 2 = nI (i + 2) := nI_add i 2
  have e3 : nI i + 3 = nI (i + 3) := nI_add i 3
  have e4 : nI i + 4 = nI (i + 4) := nI_add i 4
  have no : (mkM L i E) = (38, 1) → PQ (mX6_readMarkup_b154 (va_up f s (scE r b (nI E) q kb ks 38 1 k p)) n) (fun y => y = (0, va_up f s (scE r b (nI E) q kb ks (mkM L i E).1 (nI (mkM L i E).2) k p), n)) := fun h => pq_ret (by rw [h]; rfl)
  have un : mkM L i E = if i + 4 ≤ E ∧ L.getD (i + 1) 0 = 108 ∧ L.getD (i + 2) 0 = 116 ∧ L.getD (i + 3) 0 = 59 then (60, 4) else if i + 4 ≤ E ∧ L.getD (i + 1) 0 = 103 ∧ L.getD (i + 2) 0 = 116 ∧ L.getD (i + 3) 0 = 59 then (62, 4) else if i + 5 ≤ E ∧ L.getD (i + 1) 0 = 97 ∧ L.getD (i + 2) 0 = 109 ∧ L.getD (i + 3) 0 = 112 ∧ L.getD (i + 4) 0 = 59 then (38, 5) else (38, 1) := by unfold mkM; rw [if_pos h38]
  have b92 : ∀ x : Int32, L.getD (i + 1) 0 = x → (x = 108 ∨ x = 103) → i + 1 < L.length → PQ (mX6_readMarkup_b92 s (nI i) x (va_up f s (scE r b (nI E) q kb ks 38 1 k p)) n) (fun y => y = (0, va_up f s (scE r b (nI E) q kb ks (mkM L i E).1 (nI (mkM L i E).2) k p), n)) := by
    intro x hx hx2 hl
    unfold mX6_readMarkup_b92
    rw [e3, e2]
    have n97 : L.getD (i + 1) 0 ≠ 97 := by rw [hx]; rcases hx2 with h | h <;> rw [h] <;> decide
    refine pq_gI u_eq rfl ?_
    refine pq_le (nI_toInt (by omega)) (nI_toInt (by omega)) (fun h => no ?_) (fun h => ?_)
    · rw [un, if_neg (fun y => absurd y.1 (by omega)), if_neg (fun y => absurd y.1 (by omega)), if_neg (fun y => n97 y.2.1)]
    refine pq_gR u_eq rfl (pq_sb (pq_ck (pq_is (f_getN (rw_up hr h1 h2) (by omega)) ?_)))
    refine pq_eq (fun q2 => ?_) (fun q2 => no ?_)
    · refine pq_gR u_eq rfl (pq_sb (pq_ck (pq_is (f_getN (rw_up hr h1 h2) (by omega)) ?_)))
      refine pq_eq (fun q3 => ?_) (fun q3 => no ?_)
      · refine pq_eq (fun q4 => ?_) (fun q4 => ?_)
        · unfold mX6_readMarkup_b146
          refine pq_pU (scL r b (nI E) q kb ks 60 1 k p) rfl rfl (pq_pU (scL r b (nI E) q kb ks 60 4 k p) rfl rfl (pq_ret ?_))
          rw [un, if_pos ⟨by omega, by rw [hx]; exact q4, q2, q3⟩]; rfl
        · unfold mX6_readMarkup_b146
          refine pq_pU (scL r b (nI E) q kb ks 62 1 k p) rfl rfl (pq_pU (scL r b (nI E) q kb ks 62 4 k p) rfl rfl (pq_ret ?_))
          have h103 : x = 103 := hx2.elim (fun h => absurd h q4) id
          rw [un, if_neg (fun y => q4 (hx.symm.trans y.2.1)), if_pos ⟨by omega, by rw [hx]; exact h103, q2, q3⟩]; rfl
      · rw [un, if_neg (fun y => q3 y.2.2.2), if_neg (fun y => q3 y.2.2.2), if_neg (fun y => n97 y.2.1)]
    · rw [un, if_neg (fun y => q2 y.2.2.1), if_neg (fun y => q2 y.2.2.1), if_neg (fun y => n97 y.2.1)]
  unfold mX6_readMarkup
  rw [e1, e2, e3, e4]
  refine pq_gR u_eq rfl (pq_sb (pq_ck (pq_is (f_get (rw_up hr h1 h2)) ?_)))
  by_cases hl : i + 1 < L.length
  · rw [gt1_N hl (by omega)]
    refine pq_eq (fun q1 => ?_) (fun q1 => ?_)
    · have n1 : L.getD (i + 1) 0 ≠ 108 := by rw [show L.getD (i + 1) 0 = 97 from q1]; decide
      have n2 : L.getD (i + 1) 0 ≠ 103 := by rw [show L.getD (i + 1) 0 = 97 from q1]; decide
      refine pq_gI u_eq rfl ?_
      refine pq_le (nI_toInt (by omega)) (nI_toInt (by omega)) (fun h => no ?_) (fun h => ?_)
      · rw [un, if_neg (fun y => n1 y.2.1), if_neg (fun y => n2 y.2.1), if_neg (fun y => absurd y.1 (by omega))]
      refine pq_gR u_eq rfl (pq_sb (pq_ck (pq_is (f_getN (rw_up hr h1 h2) (by omega)) ?_)))
      refine pq_eq (fun q2 => ?_) (fun q2 => no ?_)
      · refine pq_gR u_eq rfl (pq_sb (pq_ck (pq_is (f_getN (rw_up hr h1 h2) (by omega)) ?_)))
        refine pq_eq (fun q3 => ?_) (fun q3 => no ?_)
        · refine pq_gR u_eq rfl (pq_sb (pq_ck (pq_is (f_getN (rw_up hr h1 h2) (by omega)) ?_)))
          refine pq_eq (fun q4 => ?_) (fun q4 => no ?_)
          · refine pq_pU (scL r b (nI E) q kb ks 38 5 k p) rfl rfl (pq_ret ?_)
            rw [un, if_neg (fun y => n1 y.2.1), if_neg (fun y => n2 y.2.1), if_pos ⟨by omega, q1, q2, q3, q4⟩]; rfl
          · rw [un, if_neg (fun y => n1 y.2.1), if_neg (fun y => n2 y.2.1), if_neg (fun y => q4 y.2.2.2.2)]
        · rw [un, if_neg (fun y => n1 y.2.1), if_neg (fun y => n2 y.2.1), if_neg (fun y => q3 y.2.2.2.1)]
      · rw [un, if_neg (fun y => n1 y.2.1), if_neg (fun y => n2 y.2.1), if_neg (fun y => q2 y.2.2.1)]
    · refine pq_eq (fun q2 => b92 _ rfl (Or.inl q2) hl) (fun q2 => ?_)
      refine pq_eq (fun q3 => b92 _ rfl (Or.inr q3) hl) (fun q3 => no ?_)
      rw [un, if_neg (fun y => q2 y.2.1), if_neg (fun y => q3 y.2.1), if_neg (fun y => q1 y.2.1)]
  · rw [gt1_O (by omega) (by omega)]
    refine pq_f (show ¬ (-1 : Int32) = 97 by decide) (pq_f (show ¬ (-1 : Int32) = 108 by decide) (pq_f (show ¬ (-1 : Int32) = 103 by decide) (no ?_)))
    rw [un, if_neg (fun y => absurd y.1 (by omega)), if_neg (fun y => absurd y.1 (by omega)), if_neg (fun y => absurd y.1 (by omega))]
theorem f_readBack {b e q kb ks p x : Int32} (hk : k = 0 ∨ k = 3) : PQ (mX6_readBack s x (va_up f s (scE r b e q kb ks 92 1 k p)) n) (fun y => y = (0, va_up f s (scE r b e q kb ks (bkM k x).1 (nI (bkM k x).2) k p), n)) := by
  have no : (bkM k x) = (92, 1) → PQ (mX6_readBack_b70 (va_up f s (scE r b e q kb ks 92 1 k p)) n) (fun y => y = (0, va_up f s (scE r b e q kb ks (bkM k x).1 (nI (bkM k x).2) k p), n)) := fun h => pq_ret (by rw [h]; rfl)
  have ye : ∀ z : Int32, bkM k x = (z, 2) → PQ (mX6_readBack_b62 s s z (va_up f s (scE r b e q kb ks 92 1 k p)) n) (fun y => y = (0, va_up f s (scE r b e q kb ks (bkM k x).1 (nI (bkM k x).2) k p), n)) := by
    intro z h
    unfold mX6_readBack_b62
    refine pq_pU (scL r b e q kb ks z 1 k p) rfl rfl (pq_pU (scL r b e q kb ks z 2 k p) rfl rfl (pq_ret ?_))
    rw [h]; rfl
  have b38 : (x = 110 ∨ x = 116 ∨ bkM k x = (x, 2)) → PQ (mX6_readBack_b38 s x (va_up f s (scE r b e q kb ks 92 1 k p)) n) (fun y => y = (0, va_up f s (scE r b e q kb ks (bkM k x).1 (nI (bkM k x).2) k p), n)) := by
    intro h
    unfold mX6_readBack_b38
    refine pq_eq (fun q1 => ye 10 (by rw [q1]; rfl)) (fun q1 => ?_)
    refine pq_eq (fun q2 => ye 9 (by rw [q2]; rfl)) (fun q2 => ye x ?_)
    exact h.elim (fun h => absurd h q1) (fun h => h.elim (fun h => absurd h q2) id)
  unfold mX6_readBack
  refine pq_gI u_eq rfl ?_
  rcases hk with rfl | rfl
  · refine pq_t rfl ?_
    unfold mX6_readBack_b14
    refine pq_eq (fun q1 => b38 (Or.inl q1)) (fun q1 => ?_)
    refine pq_eq (fun q2 => b38 (Or.inr (Or.inl q2))) (fun q2 => ?_)
    refine pq_eq (fun q3 => b38 (Or.inr (Or.inr (by rw [q3]; rfl)))) (fun q3 => ?_)
    refine pq_eq (fun q4 => b38 (Or.inr (Or.inr (by rw [q4]; rfl)))) (fun q4 => no ?_)
    unfold bkM
    rw [if_neg q1, if_neg q2, if_neg q3, if_neg (fun y => q4 y.1), if_neg (fun y => absurd y.2 (by decide))]
  · refine pq_f (by decide) ?_
    unfold mX6_readBack_b14
    refine pq_eq (fun q1 => b38 (Or.inl q1)) (fun q1 => ?_)
    refine pq_eq (fun q2 => b38 (Or.inr (Or.inl q2))) (fun q2 => ?_)
    refine pq_eq (fun q3 => b38 (Or.inr (Or.inr (by rw [q3]; rfl)))) (fun q3 => ?_)
    refine pq_eq (fun q4 => b38 (Or.inr (Or.inr (by rw [q4]; rfl)))) (fun q4 => no ?_)
    unfold bkM
    rw [if_neg q1, if_neg q2, if_neg q3, if_neg (fun y => absurd y.2 (by decide)), if_neg (fun y => q4 y.1)]
theorem f_read (hr : isRw f r rb c L) (h1 : r ≠ s) (h2 : rb ≠ s) (hk : k = 0 ∨ k = 1 ∨ k = 2 ∨ k = 3) {b kb ks p : Int32} {i E : Nat} {q : Bool} (hi : i < E) (hE : E ≤ L.length) (hT : k = 1 → q = true → L.getD i 0 = 34 → i + 1 < E ∧ L.getD (i + 1) 0 = 34) : PQ (mX6_read s (nI i) (va_up f s (scE r b (nI E) (bI q) kb ks m w k p)) n) (fun y => y = (0, va_up f s (scE r b (nI E) (bI q) kb ks (mw k q L i E).1 (nI (mw k q L i E).2) k p), n)) := by
  have h6 := rw_6 hr
  have e1 : nI i + 1 = nI (i + 1) := nI_1 i
  unfold mX6_read
  refine pq_gR u_eq rfl (pq_sb (pq_ck (pq_is (f_getN (rw_up hr h1 h2) (by omega)) ?_)))
  refine pq_pU (scL r b (nI E) (bI q) kb ks (L.getD i 0) w k p) rfl rfl (pq_pU (scL r b (nI E) (bI q) kb ks (L.getD i 0) 1 k p) rfl rfl (pq_gI u_eq rfl ?_))
  have same : mw k q L i E = (L.getD i 0, 1) → PQ (mX6_read_b111 (va_up f s (scE r b (nI E) (bI q) kb ks (L.getD i 0) 1 k p)) n) (fun y => y = (0, va_up f s (scE r b (nI E) (bI q) kb ks (mw k q L i E).1 (nI (mw k q L i E).2) k p), n)) := fun h => pq_ret (by rw [h]; rfl)
  by_cases k2 : k = 2
  · refine pq_t k2 (pq_gI u_eq rfl ?_)
    have um : mw k q L i E = mkM L i E := by unfold mw; rw [if_neg (by rw [k2]; decide), if_pos k2]
    refine pq_eq (fun q1 => ?_) (fun q1 => same ?_)
    · refine pq_ck ?_
      rw [um]
      have q1' : L.getD i 0 = 38 := q1
      rw [q1']
      exact pq_is (f_readMarkup hr h1 h2 hi hE q1') (pq_ret rfl)
    · rw [um]; unfold mkM; rw [if_neg q1]
  · refine pq_f k2 (pq_gI u_eq rfl ?_)
    by_cases k1 : k = 1
    · refine pq_t k1 (pq_gI u_eq rfl ?_)
      have um : mw k q L i E = (L.getD i 0, if q = true ∧ L.getD i 0 = 34 ∧ i + 1 < E ∧ L.getD (i + 1) 0 = 34 then 2 else 1) := by unfold mw; rw [if_pos k1]
      have one : (¬ (q = true ∧ L.getD i 0 = 34 ∧ i + 1 < E ∧ L.getD (i + 1) 0 = 34)) → PQ (mX6_read_b71 s (va_up f s (scE r b (nI E) (bI q) kb ks (L.getD i 0) 1 k p)) n) (fun y => y = (0, va_up f s (scE r b (nI E) (bI q) kb ks (mw k q L i E).1 (nI (mw k q L i E).2) k p), n)) := by
        intro h
        unfold mX6_read_b71 mX6_read_b72
        refine pq_pU (scL r b (nI E) (bI q) kb ks (L.getD i 0) 1 k p) rfl rfl (pq_ret ?_)
        rw [um, if_neg h]; rfl
      refine pq_eq (fun q1 => one (fun x => ?_)) (fun q1 => ?_)
      · rw [x.1] at q1; exact absurd q1 (by decide)
      · have hqt : q = true := by
          cases q with
          | true => rfl
          | false => exact absurd rfl q1
        refine pq_gI u_eq rfl ?_
        refine pq_eq (fun q2 => ?_) (fun q2 => one (fun x => q2 x.2.1))
        unfold mX6_read_b72
        refine pq_pU (scL r b (nI E) (bI q) kb ks (L.getD i 0) 2 k p) rfl rfl (pq_ret ?_)
        have h3 := hT k1 hqt q2
        rw [um, if_pos ⟨hqt, q2, h3.1, h3.2⟩]; rfl
    · refine pq_f k1 (pq_gI u_eq rfl ?_)
      have um : mw k q L i E = if L.getD i 0 = 92 ∧ i + 1 < E then bkM k (L.getD (i + 1) 0) else (L.getD i 0, 1) := by unfold mw; rw [if_neg k1, if_neg k2]
      have hk' : k = 0 ∨ k = 3 := by
        rcases hk with h | h | h | h
        · exact Or.inl h
        · exact absurd h k1
        · exact absurd h k2
        · exact Or.inr h
      refine pq_eq (fun q1 => ?_) (fun q1 => same (by rw [um, if_neg (fun x => q1 x.1)]))
      refine pq_gI u_eq rfl ?_
      rw [e1]
      refine pq_le (nI_toInt (by omega)) (nI_toInt (by omega)) (fun h => same (by rw [um, if_neg (fun x => absurd x.2 (by omega))])) (fun h => ?_)
      refine pq_gR u_eq rfl (pq_sb (pq_ck (pq_is (f_getN (rw_up hr h1 h2) (by omega)) (pq_ck ?_))))
      have q1' : L.getD i 0 = 92 := q1
      rw [um, if_pos ⟨q1', by omega⟩, q1']
      exact pq_is (f_readBack hk') (pq_ret rfl)
end SC2
