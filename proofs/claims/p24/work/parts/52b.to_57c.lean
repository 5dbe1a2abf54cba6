/-! part 52b.scan -/
section
theorem stepK_le {k : Int32} {L : BL} {a : Nat} (h : a < L.length) : (stepK k L a).2 ≤ L.length + 1 := by
  unfold stepK
  split
  · have : lnE L a ≤ L.length := nx_le (by omega)
    show lnE L a + 1 ≤ _; omega
  · split
    · unfold stT
      split
      · have h1 : qe L (a + 1) ≤ L.length := qe_le (by omega)
        show (if qe L (a + 1) < L.length then nx bSep L (qe L (a + 1) + 1) L.length else L.length) + 1 ≤ _
        split
        · have := nx_le (p := bSep) (L := L) (a := qe L (a + 1) + 1) (b := L.length) (by omega)
          omega
        · omega
      · have := nx_le (p := bSep) (L := L) (a := a) (b := L.length) (by omega)
        show nx bSep L a L.length + 1 ≤ _; omega
    · split
      · unfold stM
        split
        · have := nx_le (p := bEq 62) (L := L) (a := a) (b := L.length) (by omega)
          show nx (bEq 62) L a L.length + 1 ≤ _; omega
        · have : mkS L a ≤ L.length := nx_le (by omega)
          show mkS L a ≤ _; omega
      · unfold stQ
        split
        · have : quE L a ≤ L.length := qq_le (by omega)
          show quE L a + 1 ≤ _; omega
        · exact Nat.le_refl _
section SC2
variable {f : AH} {s r rb c n : Nat} {L : BL} {m w k : Int32}
theorem f_scstart {b e q kb ks p : Int32} {r' : Nat} {k' : Int32} : PQ (mX6_start s (some r') k' (va_up f s (scE r b e q kb ks m w k p)) n) (fun y => y = (0, va_up f s (scE r' b e 0 0 0 m w k' 0), n)) := by
  unfold mX6_start
  exact pq_pU (scL r' b e q kb ks m w k p) rfl rfl (pq_pU (scL r' b e q kb ks m w k' p) rfl rfl (pq_pU (scL r' b e q kb ks m w k' 0) rfl rfl (pq_ck (pq_pU (scL r' b e 0 kb ks m w k' 0) rfl rfl (pq_pU (scL r' b e 0 0 ks m w k' 0) rfl rfl (pq_pU (scL r' b e 0 0 0 m w k' 0) rfl rfl (pq_ret rfl)))))))
theorem f_try (hr : isRw f r rb c L) (h1 : r ≠ s) (h2 : rb ≠ s) (hk : k = 0 ∨ k = 1 ∨ k = 2 ∨ k = 3) {b e q kb ks : Int32} {a : Nat} (ha : a < L.length) (hS : SI k q kb ks) : ∀ {o : Option (Int32 × HpN)}, o = (if k = 0 then mX6_tryLine s (va_up f s (scE r b e q kb ks m w k (nI a))) n else if k = 1 then mX6_tryCell s (va_up f s (scE r b e q kb ks m w k (nI a))) n else if k = 2 then mX6_tryMarkup s (va_up f s (scE r b e q kb ks m w k (nI a))) n else mX6_tryQuotes s (va_up f s (scE r b e q kb ks m w k (nI a))) n) → PQ o (fun y => ∃ b' e' q' kb' ks', y = (0, va_up f s (scE r b' e' q' kb' ks' m w k (nI (stepK k L a).2)), n) ∧ SI k q' kb' ks' ∧ SO (stepK k L a).1 b' e' q' kb' ks') := by
  intro o ho
  subst ho
  unfold stepK
  rcases hk with rfl | rfl | rfl | rfl
  · rw [if_pos rfl, if_pos rfl]
    refine pq_tail (f_tryLine hr h1 h2 ha (hS.1 (by decide))) (fun y hy => ?_)
    obtain ⟨b', e', kb', ks', rfl, h⟩ := hy
    exact ⟨_, _, _, _, _, rfl, ⟨fun _ => hS.1 (by decide), fun x => absurd rfl x⟩, h⟩
  · rw [if_neg (by decide), if_pos rfl, if_neg (by decide), if_pos rfl]
    have h3 := hS.2 (by decide)
    refine pq_tail (f_tryCell hr h1 h2 ha h3.1 h3.2) (fun y hy => ?_)
    obtain ⟨b', e', q', rfl, h⟩ := hy
    exact ⟨_, _, _, _, _, rfl, ⟨fun x => absurd rfl x, fun _ => h3⟩, h⟩
  · rw [if_neg (by decide), if_neg (by decide), if_pos rfl, if_neg (by decide), if_neg (by decide), if_pos rfl]
    have h3 := hS.2 (by decide)
    refine pq_tail (f_tryMarkup hr h1 h2 ha (hS.1 (by decide)) h3.1 h3.2) (fun y hy => ?_)
    obtain ⟨b', e', rfl, h⟩ := hy
    exact ⟨_, _, _, _, _, rfl, hS, h⟩
  · rw [if_neg (by decide), if_neg (by decide), if_neg (by decide), if_neg (by decide), if_neg (by decide), if_neg (by decide)]
    have h3 := hS.2 (by decide)
    refine pq_tail (f_tryQuotes hr h1 h2 ha (hS.1 (by decide)) h3.1 h3.2) (fun y hy => ?_)
    obtain ⟨b', e', rfl, h⟩ := hy
    exact ⟨_, _, _, _, _, rfl, hS, h⟩
def SN (f : AH) (s r n : Nat) (L : BL) (m w k : Int32) (a : Nat) (y : Int32 × HpN) : Prop := ∃ b' e' q' kb' ks' a', a' ≤ 601 ∧ a ≤ a' ∧ SI k q' kb' ks' ∧ ((y = (1, va_up f s (scE r b' e' q' kb' ks' m w k (nI a')), n) ∧ ∃ c, cutL k L a = c :: cutL k L a' ∧ SO (some c) b' e' q' kb' ks' ∧ c.2.1 ≤ a') ∨ (y = (0, va_up f s (scE r b' e' q' kb' ks' m w k (nI a')), n) ∧ cutL k L a = []))
theorem f_scnext_l (hr : isRw f r rb c L) (h1 : r ≠ s) (h2 : rb ≠ s) (hk : k = 0 ∨ k = 1 ∨ k = 2 ∨ k = 3) : ∀ (d t a : Nat) (b e q kb ks : Int32), t ≤ a → a ≤ 601 → SI k q kb ks → PQ (mX6_next_l2 d s (nI t) (va_up f s (scE r b e q kb ks m w k (nI a))) n) (SN f s r n L m w k a) := by
  have h6 := rw_6 hr
  intro d
  induction d with
  | zero => intro t a b e q kb ks _ _ _; exact pq_none
  | succ d ih =>
    intro t a b e q kb ks hta ha6 hS
    have fin : L.length ≤ a → PQ (mX6_next_b96 (va_up f s (scE r b e q kb ks m w k (nI a))) n) (SN f s r n L m w k a) := fun h => pq_ck (pq_ret ⟨b, e, q, kb, ks, a, ha6, Nat.le_refl _, hS, Or.inr ⟨rfl, cutL_end h⟩⟩)
    unfold mX6_next_l2
    refine pq_lt kt_600 (nI_toInt (by omega)) (fun h => fin (by omega)) (fun h => ?_)
    refine pq_gI u_eq rfl (pq_gR u_eq rfl (pq_sb (pq_ck (pq_is (f_size (rw_up hr h1 h2)) ?_))))
    refine pq_le (nI_toInt (by omega)) (nI_toInt (by omega)) (fun h3 => fin (by omega)) (fun h3 => ?_)
    have ha : a < L.length := by omega
    refine pq_gI u_eq rfl ?_
    have key : ∀ o : Option (Int32 × HpN), o = (if k = 0 then mX6_tryLine s (va_up f s (scE r b e q kb ks m w k (nI a))) n else if k = 1 then mX6_tryCell s (va_up f s (scE r b e q kb ks m w k (nI a))) n else if k = 2 then mX6_tryMarkup s (va_up f s (scE r b e q kb ks m w k (nI a))) n else mX6_tryQuotes s (va_up f s (scE r b e q kb ks m w k (nI a))) n) → PQ (o.bind fun r9 => mX6_next_b77 (fun v0 v1 f n => mX6_next_l2 d v0 v1 f n) s (nI t) r9.2.1 r9.2.2) (SN f s r n L m w k a) := by
      intro o ho
      refine pq_call (f_try hr h1 h2 hk ha hS ho) (fun y hy => ?_)
      obtain ⟨b', e', q', kb', ks', rfl, hS', hO⟩ := hy
      unfold mX6_next_b77
      have hg := stepK_gt (k := k) ha
      have hle := stepK_le (k := k) ha
      refine pq_gI u_eq rfl (pq_gI u_eq rfl ?_)
      cases e1 : (stepK k L a).1 with
      | none =>
        rw [e1] at hO
        have hO2 : e'.toInt ≤ b'.toInt := hO
        refine pq_t (c_le hO2) ?_
        rw [nI_1]
        refine pq_tail (ih (t + 1) (stepK k L a).2 b' e' q' kb' ks' (by omega) (by omega) hS') (fun y hy => ?_)
        obtain ⟨b2, e2, q2, kb2, ks2, a2, g1, g2, g3, g4⟩ := hy
        have e9 : cutL k L a = cutL k L (stepK k L a).2 := by rw [cutL_st ha, e1]; rfl
        rw [← e9] at g4
        exact ⟨b2, e2, q2, kb2, ks2, a2, g1, by omega, g3, g4⟩
      | some c0 =>
        have hb := stepK_b ha e1
        rw [e1] at hO
        obtain ⟨o1, o2, o3⟩ := hO
        refine pq_f (c_nle (by rw [o1, o2, nI_toInt (by omega), nI_toInt (by omega)]; omega)) (pq_ck (pq_ret ?_))
        refine ⟨b', e', q', kb', ks', (stepK k L a).2, by omega, by omega, hS', Or.inl ⟨rfl, c0, ?_, ⟨o1, o2, o3⟩, hb.2.2.2⟩⟩
        rw [cutL_st ha, e1]; rfl
    rcases hk with rfl | rfl | rfl | rfl
    · exact pq_t rfl (pq_ck (key _ (by rw [if_pos rfl])))
    · exact pq_f (by decide) (pq_t rfl (pq_ck (key _ (by rw [if_neg (by decide), if_pos rfl]))))
    · exact pq_f (by decide) (pq_f (by decide) (pq_t rfl (pq_ck (key _ (by rw [if_neg (by decide), if_neg (by decide), if_pos rfl])))))
    · exact pq_f (by decide) (pq_f (by decide) (pq_f (by decide) (pq_ck (key _ (by rw [if_neg (by decide), if_neg (by decide), if_neg (by decide)])))))
theorem f_scnext (hr : isRw f r rb c L) (h1 : r ≠ s) (h2 : rb ≠ s) (hk : k = 0 ∨ k = 1 ∨ k = 2 ∨ k = 3) {a : Nat} {b e q kb ks : Int32} (ha : a ≤ 601) (hS : SI k q kb ks) : PQ (mX6_next s (va_up f s (scE r b e q kb ks m w k (nI a))) n) (SN f s r n L m w k a) := f_scnext_l hr h1 h2 hk rFU 0 a b e q kb ks (Nat.zero_le _) ha hS
/-! what a scan reads -/
theorem f_readMarkup (hr : isRw f r rb c L) (h1 : r ≠ s) (h2 : rb ≠ s) {b q kb ks p : Int32} {i E : Nat} (hi : i < E) (hE : E ≤ L.length) (h38 : L.getD i 0 = 38) : PQ (mX6_readMarkup s (nI i) (va_up f s (scE r b (nI E) q kb ks 38 1 k p)) n) (fun y => y = (0, va_up f s (scE r b (nI E) q kb ks (mkM L i E).1 (nI (mkM L i E).2) k p), n)) := by
  have h6 := rw_6 hr
  have e1 : nI i + 1 = nI (i + 1) := nI_1 i
  have e2 : nI i + 2 = nI (i + 2) := nI_add i 2
  have e3 : nI i + 3 = nI (i + 3) := nI_add i 3
  have e4 : nI i + 4 = nI (i + 4) := nI_add i 4
  have no : (mkM L i E) = (38, 1) → PQ (mX6_readMarkup_b154 (va_up f s (scE r b (nI E) q kb ks 38 1 k p)) n) (fun y => y = (0, va_up f s (scE r b (nI E) q kb ks (mkM L i E).1 (nI (mkM L i E).2) k p), n)) := fun h => pq_ret (by rw [h]; rfl)
  have un : mkM L i E = if i + 4 ≤ E ∧ L.getD (i + 1) 0 = 108 ∧ L.getD (i + 2) 0 = 116 ∧ L.getD (i + 3) 0 = 59 then (60, 4) else if i + 4 ≤ E ∧ L.getD (i + 1) 0 = 103 ∧ L.getD (i + 2) 0 = 116 ∧ L.getD (i + 3) 0 = 59 then (62, 4) else if i + 5 ≤ E ∧ L.getD (i + 1) 0 = 97 ∧ L.getD (i + 2) 0 = 109 ∧ L.getD (i + 3) 0 = 112 ∧ L.getD (i + 4) 0 = 59 then (38, 5) else (38, 1) := by unfold mkM; rw [if_pos h38]
  have b92 : ∀ x : Int32, L.getD (i + 1) 0 = x → (x = 108 ∨ x = 103) → i + 1 < L.length → PQ (mX6_readMarkup_b92 s (nI i) x (va_up f s (scE r b (nI E) q kb ks 38 1 k p)) n) (fun y => y = (0, va_up f s (scE r b (nI E) q kb ks (mkM L i E).1 (nI (mkM L i E).2) k p), n)) := by
    intro x hx hx2 hl
    unfold mX6_readMarkup_b92
    rw [e3, e2]
    have n97 : L.getD (i + 1) 0 ≠ 97 := by rw [hx]; rcases hx2 with h | h <;> rw [h] <;> decide
    refine pq_gI u_eq rfl ?_
    refine pq_le (nI_toInt (by omega)) (nI_toInt (by omega)) (fun h => no ?_) (fun h => ?_)
    · rw [un, if_neg (fun y => absurd y.1 (by omega)), if_neg (fun y => absurd y.1 (by omega)), if_neg (fun y => n97 y.2.1)]
    refine pq_gR u_eq rfl (pq_sb (pq_ck (pq_is (f_getN (rw_up hr h1 h2) (by omega)) ?_)))
    refine pq_eq (fun q2 => ?_) (fun q2 => no ?_)
    · refine pq_gR u_eq rfl (pq_sb (pq_ck (pq_is (f_getN (rw_up hr h1 h2) (by omega)) ?_)))
      refine pq_eq (fun q3 => ?_) (fun q3 => no ?_)
      · refine pq_eq (fun q4 => ?_) (fun q4 => ?_)
        · unfold mX6_readMarkup_b146
          refine pq_pU (scL r b (nI E) q kb ks 60 1 k p) rfl rfl (pq_pU (scL r b (nI E) q kb ks 60 4 k p) rfl rfl (pq_ret ?_))
          rw [un, if_pos ⟨by omega, by rw [hx]; exact q4, q2, q3⟩]; rfl
        · unfold mX6_readMarkup_b146
          refine pq_pU (scL r b (nI E) q kb ks 62 1 k p) rfl rfl (pq_pU (scL r b (nI E) q kb ks 62 4 k p) rfl rfl (pq_ret ?_))
          have h103 : x = 103 := hx2.elim (fun h => absurd h q4) id
          rw [un, if_neg (fun y => q4 (hx.symm.trans y.2.1)), if_pos ⟨by omega, by rw [hx]; exact h103, q2, q3⟩]; rfl
      · rw [un, if_neg (fun y => q3 y.2.2.2), if_neg (fun y => q3 y.2.2.2), if_neg (fun y => n97 y.2.1)]
    · rw [un, if_neg (fun y => q2 y.2.2.1), if_neg (fun y => q2 y.2.2.1), if_neg (fun y => n97 y.2.1)]
  unfold mX6_readMarkup
  rw [e1, e2, e3, e4]
  refine pq_gR u_eq rfl (pq_sb (pq_ck (pq_is (f_get (rw_up hr h1 h2)) ?_)))
  by_cases hl : i + 1 < L.length
  · rw [gt1_N hl (by omega)]
    refine pq_eq (fun q1 => ?_) (fun q1 => ?_)
    · have n1 : L.getD (i + 1) 0 ≠ 108 := by rw [show L.getD (i + 1) 0 = 97 from q1]; decide
      have n2 : L.getD (i + 1) 0 ≠ 103 := by rw [show L.getD (i + 1) 0 = 97 from q1]; decide
      refine pq_gI u_eq rfl ?_
      refine pq_le (nI_toInt (by omega)) (nI_toInt (by omega)) (fun h => no ?_) (fun h => ?_)
      · rw [un, if_neg (fun y => n1 y.2.1), if_neg (fun y => n2 y.2.1), if_neg (fun y => absurd y.1 (by omega))]
      refine pq_gR u_eq rfl (pq_sb (pq_ck (pq_is (f_getN (rw_up hr h1 h2) (by omega)) ?_)))
      refine pq_eq (fun q2 => ?_) (fun q2 => no ?_)
      · refine pq_gR u_eq rfl (pq_sb (pq_ck (pq_is (f_getN (rw_up hr h1 h2) (by omega)) ?_)))
        refine pq_eq (fun q3 => ?_) (fun q3 => no ?_)
        · refine pq_gR u_eq rfl (pq_sb (pq_ck (pq_is (f_getN (rw_up hr h1 h2) (by omega)) ?_)))
          refine pq_eq (fun q4 => ?_) (fun q4 => no ?_)
          · refine pq_pU (scL r b (nI E) q kb ks 38 5 k p) rfl rfl (pq_ret ?_)
            rw [un, if_neg (fun y => n1 y.2.1), if_neg (fun y => n2 y.2.1), if_pos ⟨by omega, q1, q2, q3, q4⟩]; rfl
          · rw [un, if_neg (fun y => n1 y.2.1), if_neg (fun y => n2 y.2.1), if_neg (fun y => q4 y.2.2.2.2)]
        · rw [un, if_neg (fun y => n1 y.2.1), if_neg (fun y => n2 y.2.1), if_neg (fun y => q3 y.2.2.2.1)]
      · rw [un, if_neg (fun y => n1 y.2.1), if_neg (fun y => n2 y.2.1), if_neg (fun y => q2 y.2.2.1)]
    · refine pq_eq (fun q2 => b92 _ rfl (Or.inl q2) hl) (fun q2 => ?_)
      refine pq_eq (fun q3 => b92 _ rfl (Or.inr q3) hl) (fun q3 => no ?_)
      rw [un, if_neg (fun y => q2 y.2.1), if_neg (fun y => q3 y.2.1), if_neg (fun y => q1 y.2.1)]
  · rw [gt1_O (by omega) (by omega)]
    refine pq_f (show ¬ (-1 : Int32) = 97 by decide) (pq_f (show ¬ (-1 : Int32) = 108 by decide) (pq_f (show ¬ (-1 : Int32) = 103 by decide) (no ?_)))
    rw [un, if_neg (fun y => absurd y.1 (by omega)), if_neg (fun y => absurd y.1 (by omega)), if_neg (fun y => absurd y.1 (by omega))]
theorem f_readBack {b e q kb ks p x : Int32} (hk : k = 0 ∨ k = 3) : PQ (mX6_readBack s x (va_up f s (scE r b e q kb ks 92 1 k p)) n) (fun y => y = (0, va_up f s (scE r b e q kb ks (bkM k x).1 (nI (bkM k x).2) k p), n)) := by
  have no : (bkM k x) = (92, 1) → PQ (mX6_readBack_b70 (va_up f s (scE r b e q kb ks 92 1 k p)) n) (fun y => y = (0, va_up f s (scE r b e q kb ks (bkM k x).1 (nI (bkM k x).2) k p), n)) := fun h => pq_ret (by rw [h]; rfl)
  have ye : ∀ z : Int32, bkM k x = (z, 2) → PQ (mX6_readBack_b62 s s z (va_up f s (scE r b e q kb ks 92 1 k p)) n) (fun y => y = (0, va_up f s (scE r b e q kb ks (bkM k x).1 (nI (bkM k x).2) k p), n)) := by
    intro z h
    unfold mX6_readBack_b62
    refine pq_pU (scL r b e q kb ks z 1 k p) rfl rfl (pq_pU (scL r b e q kb ks z 2 k p) rfl rfl (pq_ret ?_))
    rw [h]; rfl
  have b38 : (x = 110 ∨ x = 116 ∨ bkM k x = (x, 2)) → PQ (mX6_readBack_b38 s x (va_up f s (scE r b e q kb ks 92 1 k p)) n) (fun y => y = (0, va_up f s (scE r b e q kb ks (bkM k x).1 (nI (bkM k x).2) k p), n)) := by
    intro h
    unfold mX6_readBack_b38
    refine pq_eq (fun q1 => ye 10 (by rw [q1]; rfl)) (fun q1 => ?_)
    refine pq_eq (fun q2 => ye 9 (by rw [q2]; rfl)) (fun q2 => ye x ?_)
    exact h.elim (fun h => absurd h q1) (fun h => h.elim (fun h => absurd h q2) id)
  unfold mX6_readBack
  refine pq_gI u_eq rfl ?_
  rcases hk with rfl | rfl
  · refine pq_t rfl ?_
    unfold mX6_readBack_b14
    refine pq_eq (fun q1 => b38 (Or.inl q1)) (fun q1 => ?_)
    refine pq_eq (fun q2 => b38 (Or.inr (Or.inl q2))) (fun q2 => ?_)
    refine pq_eq (fun q3 => b38 (Or.inr (Or.inr (by rw [q3]; rfl)))) (fun q3 => ?_)
    refine pq_eq (fun q4 => b38 (Or.inr (Or.inr (by rw [q4]; rfl)))) (fun q4 => no ?_)
    unfold bkM
    rw [if_neg q1, if_neg q2, if_neg q3, if_neg (fun y => q4 y.1), if_neg (fun y => absurd y.2 (by decide))]
  · refine pq_f (by decide) ?_
    unfold mX6_readBack_b14
    refine pq_eq (fun q1 => b38 (Or.inl q1)) (fun q1 => ?_)
    refine pq_eq (fun q2 => b38 (Or.inr (Or.inl q2))) (fun q2 => ?_)
    refine pq_eq (fun q3 => b38 (Or.inr (Or.inr (by rw [q3]; rfl)))) (fun q3 => ?_)
    refine pq_eq (fun q4 => b38 (Or.inr (Or.inr (by rw [q4]; rfl)))) (fun q4 => no ?_)
    unfold bkM
    rw [if_neg q1, if_neg q2, if_neg q3, if_neg (fun y => absurd y.2 (by decide)), if_neg (fun y => q4 y.1)]
theorem f_read (hr : isRw f r rb c L) (h1 : r ≠ s) (h2 : rb ≠ s) (hk : k = 0 ∨ k = 1 ∨ k = 2 ∨ k = 3) {b kb ks p : Int32} {i E : Nat} {q : Bool} (hi : i < E) (hE : E ≤ L.length) (hT : k = 1 → q = true → L.getD i 0 = 34 → i + 1 < E ∧ L.getD (i + 1) 0 = 34) : PQ (mX6_read s (nI i) (va_up f s (scE r b (nI E) (bI q) kb ks m w k p)) n) (fun y => y = (0, va_up f s (scE r b (nI E) (bI q) kb ks (mw k q L i E).1 (nI (mw k q L i E).2) k p), n)) := by
  have h6 := rw_6 hr
  have e1 : nI i + 1 = nI (i + 1) := nI_1 i
  unfold mX6_read
  refine pq_gR u_eq rfl (pq_sb (pq_ck (pq_is (f_getN (rw_up hr h1 h2) (by omega)) ?_)))
  refine pq_pU (scL r b (nI E) (bI q) kb ks (L.getD i 0) w k p) rfl rfl (pq_pU (scL r b (nI E) (bI q) kb ks (L.getD i 0) 1 k p) rfl rfl (pq_gI u_eq rfl ?_))
  have same : mw k q L i E = (L.getD i 0, 1) → PQ (mX6_read_b111 (va_up f s (scE r b (nI E) (bI q) kb ks (L.getD i 0) 1 k p)) n) (fun y => y = (0, va_up f s (scE r b (nI E) (bI q) kb ks (mw k q L i E).1 (nI (mw k q L i E).2) k p), n)) := fun h => pq_ret (by rw [h]; rfl)
  by_cases k2 : k = 2
  · refine pq_t k2 (pq_gI u_eq rfl ?_)
    have um : mw k q L i E = mkM L i E := by unfold mw; rw [if_neg (by rw [k2]; decide), if_pos k2]
    refine pq_eq (fun q1 => ?_) (fun q1 => same ?_)
    · refine pq_ck ?_
      rw [um]
      have q1' : L.getD i 0 = 38 := q1
      rw [q1']
      exact pq_is (f_readMarkup hr h1 h2 hi hE q1') (pq_ret rfl)
    · rw [um]; unfold mkM; rw [if_neg q1]
  · refine pq_f k2 (pq_gI u_eq rfl ?_)
    by_cases k1 : k = 1
    · refine pq_t k1 (pq_gI u_eq rfl ?_)
      have um : mw k q L i E = (L.getD i 0, if q = true ∧ L.getD i 0 = 34 ∧ i + 1 < E ∧ L.getD (i + 1) 0 = 34 then 2 else 1) := by unfold mw; rw [if_pos k1]
      have one : (¬ (q = true ∧ L.getD i 0 = 34 ∧ i + 1 < E ∧ L.getD (i + 1) 0 = 34)) → PQ (mX6_read_b71 s (va_up f s (scE r b (nI E) (bI q) kb ks (L.getD i 0) 1 k p)) n) (fun y => y = (0, va_up f s (scE r b (nI E) (bI q) kb ks (mw k q L i E).1 (nI (mw k q L i E).2) k p), n)) := by
        intro h
        unfold mX6_read_b71 mX6_read_b72
        refine pq_pU (scL r b (nI E) (bI q) kb ks (L.getD i 0) 1 k p) rfl rfl (pq_ret ?_)
        rw [um, if_neg h]; rfl
      refine pq_eq (fun q1 => one (fun x => ?_)) (fun q1 => ?_)
      · rw [x.1] at q1; exact absurd q1 (by decide)
      · have hqt : q = true := by
          cases q with
          | true => rfl
          | false => exact absurd rfl q1
        refine pq_gI u_eq rfl ?_
        refine pq_eq (fun q2 => ?_) (fun q2 => one (fun x => q2 x.2.1))
        unfold mX6_read_b72
        refine pq_pU (scL r b (nI E) (bI q) kb ks (L.getD i 0) 2 k p) rfl rfl (pq_ret ?_)
        have h3 := hT k1 hqt q2
        rw [um, if_pos ⟨hqt, q2, h3.1, h3.2⟩]; rfl
    · refine pq_f k1 (pq_gI u_eq rfl ?_)
      have um : mw k q L i E = if L.getD i 0 = 92 ∧ i + 1 < E then bkM k (L.getD (i + 1) 0) else (L.getD i 0, 1) := by unfold mw; rw [if_neg k1, if_neg k2]
      have hk' : k = 0 ∨ k = 3 := by
        rcases hk with h | h | h | h
        · exact Or.inl h
        · exact absurd h k1
        · exact absurd h k2
        · exact Or.inr h
      refine pq_eq (fun q1 => ?_) (fun q1 => same (by rw [um, if_neg (fun x => q1 x.1)]))
      refine pq_gI u_eq rfl ?_
      rw [e1]
      refine pq_le (nI_toInt (by omega)) (nI_toInt (by omega)) (fun h => same (by rw [um, if_neg (fun x => absurd x.2 (by omega))])) (fun h => ?_)
      refine pq_gR u_eq rfl (pq_sb (pq_ck (pq_is (f_getN (rw_up hr h1 h2) (by omega)) (pq_ck ?_))))
      have q1' : L.getD i 0 = 92 := q1
      rw [um, if_pos ⟨q1', by omega⟩, q1']
      exact pq_is (f_readBack hk') (pq_ret rfl)
end SC2
end
/-! part 52c.pcs -/
section
/-! pieces of a row, by kinds and rules -/
abbrev CFG : Type := Int32 × Int32 × Int32 × Nat × List BL
abbrev Pc : Type := Nat × Nat × Bool × Bool × Bool × Nat × Nat × BL × List Nat
def pX (x : Pc) : BL := x.2.2.2.2.2.2.2.1
def pG (x : Pc) : List Nat := x.2.2.2.2.2.2.2.2
def u0 : UI := (0, 0, 0)
theorem und_ch {k : Int32} {q : Bool} {L : BL} {b : Nat} : ∀ d a, b - a ≤ d → ∀ i, i < (und k q L a b).length → a + i ≤ ((und k q L a b).getD i u0).2.1 ∧ ((und k q L a b).getD i u0).2.1 < ((und k q L a b).getD i u0).2.2 ∧ ((und k q L a b).getD i u0).2.2 ≤ b ∧ (i = 0 → ((und k q L a b).getD i u0).2.1 = a) ∧ (i + 1 < (und k q L a b).length → ((und k q L a b).getD i u0).2.2 = ((und k q L a b).getD (i + 1) u0).2.1) ∧ (i + 1 = (und k q L a b).length → ((und k q L a b).getD i u0).2.2 = b) := by
  intro d
  induction d with
  | zero => intro a h i hi; rw [und_end (by omega)] at hi; exact absurd hi (Nat.not_lt_zero _)
  | succ d ih =>
    intro a h i hi
    by_cases ha : a < b
    · have h1 := mw_b (k := k) (q := q) (L := L) ha
      have h2 := ih (a + (mw k q L a b).2) (by omega)
      rw [und_st ha] at hi ⊢
      rw [List.length_cons] at hi ⊢
      cases i with
      | zero =>
        show a + 0 ≤ a ∧ a < a + (mw k q L a b).2 ∧ a + (mw k q L a b).2 ≤ b ∧ (0 = 0 → a = a) ∧ (0 + 1 < (und k q L (a + (mw k q L a b).2) b).length + 1 → a + (mw k q L a b).2 = ((und k q L (a + (mw k q L a b).2) b).getD 0 u0).2.1) ∧ (0 + 1 = (und k q L (a + (mw k q L a b).2) b).length + 1 → a + (mw k q L a b).2 = b)
        refine ⟨by omega, by omega, by omega, fun _ => rfl, fun h3 => ?_, fun h3 => ?_⟩
        · exact ((h2 0 (by omega)).2.2.2.1 rfl).symm
        · have h4 := (und_len (k := k) (q := q) (L := L) (b := b) _ (a + (mw k q L a b).2) (Nat.le_refl _)).2
          rcases Nat.lt_or_ge (a + (mw k q L a b).2) b with h5 | h5
          · have := h4 h5; omega
          · omega
      | succ i =>
        have h3 := h2 i (by omega)
        show a + (i + 1) ≤ ((und k q L (a + (mw k q L a b).2) b).getD i u0).2.1 ∧ ((und k q L (a + (mw k q L a b).2) b).getD i u0).2.1 < ((und k q L (a + (mw k q L a b).2) b).getD i u0).2.2 ∧ ((und k q L (a + (mw k q L a b).2) b).getD i u0).2.2 ≤ b ∧ (i + 1 = 0 → ((und k q L (a + (mw k q L a b).2) b).getD i u0).2.1 = a) ∧ (i + 1 + 1 < (und k q L (a + (mw k q L a b).2) b).length + 1 → ((und k q L (a + (mw k q L a b).2) b).getD i u0).2.2 = ((und k q L (a + (mw k q L a b).2) b).getD (i + 1) u0).2.1) ∧ (i + 1 + 1 = (und k q L (a + (mw k q L a b).2) b).length + 1 → ((und k q L (a + (mw k q L a b).2) b).getD i u0).2.2 = b)
        exact ⟨by omega, h3.2.1, h3.2.2.1, fun h => absurd h (by omega), fun h => h3.2.2.2.2.1 (by omega), fun h => h3.2.2.2.2.2 (by omega)⟩
    · rw [und_end (by omega)] at hi; exact absurd hi (Nat.not_lt_zero _)
def lkd (cf : CFG) (L : BL) (c : CI) : Bool := decide (cf.1 = 0) && cf.2.2.2.2.any (fun w => decide (w.length ≤ c.2.2.2.2) && smF w 0 L c.2.2.2.1 w.length)
def okT (cf : CFG) (t : BL) : Bool := decide (cf.2.2.2.1 ≤ t.length) && (decide (cf.2.2.1 = 0) || t.any isLet)
def tk (cf : CFG) (P : List Pc) (x : Pc) : List Pc := if okT cf (pX x) = true ∧ P.length < 40 then P ++ [x] else P
def pcO (cf : CFG) (L : BL) (c : CI) : Pc := (c.1, c.2.1, c.2.2.1, false, true, c.2.2.2.1, c.2.2.2.2, (und cf.1 c.2.2.1 L c.1 c.2.1).map (fun x => x.1), (und cf.1 c.2.2.1 L c.1 c.2.1).map (fun x => x.2.1))
def pcI (cf : CFG) (c : CI) (u : List UI) (d : CI) : Pc := ((u.getD d.1 u0).2.1, (u.getD (d.2.1 - 1) u0).2.2, c.2.2.1, d.2.2.1, decide (d.1 = 0), c.2.2.2.1, c.2.2.2.2, (und cf.2.1 d.2.2.1 (u.map (fun x => x.1)) d.1 d.2.1).map (fun x => x.1), (und cf.2.1 d.2.2.1 (u.map (fun x => x.1)) d.1 d.2.1).map (fun x => (u.getD x.2.1 u0).2.1))
def uOf (cf : CFG) (L : BL) (c : CI) : List UI := und cf.1 c.2.2.1 L c.1 c.2.1
def pcC (cf : CFG) (L : BL) (c : CI) : List Pc := if cf.2.1 = -1 then [pcO cf L c] else (cutL cf.2.1 ((uOf cf L c).map (fun x => x.1)) 0).map (pcI cf c (uOf cf L c))
def tkC (cf : CFG) (L : BL) (P : List Pc) (c : CI) : List Pc := if lkd cf L c = true then P else (pcC cf L c).foldl (tk cf) P
def pcs (cf : CFG) (L : BL) : List Pc := (cutL cf.1 L 0).foldl (tkC cf L) []
theorem tk_full {cf : CFG} {P : List Pc} (h : 40 ≤ P.length) {x : Pc} : tk cf P x = P := if_neg (fun q => absurd q.2 (by omega))
theorem tks_full {cf : CFG} {P : List Pc} (h : 40 ≤ P.length) : ∀ xs : List Pc, xs.foldl (tk cf) P = P := by
  intro xs
  induction xs with
  | nil => rfl
  | cons x xs ih => rw [List.foldl_cons, tk_full h, ih]
theorem tkC_full {cf : CFG} {L : BL} {P : List Pc} (h : 40 ≤ P.length) : ∀ cs : List CI, cs.foldl (tkC cf L) P = P := by
  intro cs
  induction cs with
  | nil => rfl
  | cons c cs ih =>
    have e : tkC cf L P c = P := by
      unfold tkC
      split
      · rfl
      · exact tks_full h _
    rw [List.foldl_cons, e, ih]
theorem tk_40 {cf : CFG} {P : List Pc} (h : P.length ≤ 40) {x : Pc} : (tk cf P x).length ≤ 40 := by
  unfold tk
  split
  · rw [List.length_append]; show P.length + 1 ≤ 40; omega
  · exact h
theorem tks_40 {cf : CFG} : ∀ (xs : List Pc) {P : List Pc}, P.length ≤ 40 → (xs.foldl (tk cf) P).length ≤ 40 := by
  intro xs
  induction xs with
  | nil => intro P h; exact h
  | cons x xs ih => intro P h; exact ih (tk_40 h)
theorem tkC_40 {cf : CFG} {L : BL} : ∀ (cs : List CI) {P : List Pc}, P.length ≤ 40 → (cs.foldl (tkC cf L) P).length ≤ 40 := by
  intro cs
  induction cs with
  | nil => intro P h; exact h
  | cons c cs ih =>
    intro P h
    refine ih ?_
    unfold tkC
    split
    · exact h
    · exact tks_40 _ h
theorem pcs_40 {cf : CFG} {L : BL} : (pcs cf L).length ≤ 40 := tkC_40 _ (by decide)
/-! texts and origins side by side -/
def txs (P : List Pc) : BL := P.flatMap pX
def ogs (P : List Pc) : BL := P.flatMap (fun x => (pG x).map nI)
def tAt (P : List Pc) (i : Nat) : Nat := (txs (P.take i)).length
def pc0 : Pc := (0, 0, false, false, false, 0, 0, [], [])
theorem txs_app {P R : List Pc} : txs (P ++ R) = txs P ++ txs R := List.flatMap_append
theorem ogs_app {P R : List Pc} : ogs (P ++ R) = ogs P ++ ogs R := List.flatMap_append
theorem txs_1 {x : Pc} : txs [x] = pX x := List.append_nil _
theorem ogs_1 {x : Pc} : ogs [x] = (pG x).map nI := List.append_nil _
theorem pgd_l {P R : List Pc} {i : Nat} (h : i < P.length) : (P ++ R).getD i pc0 = P.getD i pc0 := by
  rw [List.getD_eq_getElem?_getD, List.getD_eq_getElem?_getD, List.getElem?_append_left h]
theorem pgd_n {P : List Pc} {x : Pc} : (P ++ [x]).getD P.length pc0 = x := by
  rw [List.getD_eq_getElem?_getD, List.getElem?_append_right (Nat.le_refl _), Nat.sub_self]; rfl
theorem tAt_l {P R : List Pc} {i : Nat} (h : i ≤ P.length) : tAt (P ++ R) i = tAt P i := by
  unfold tAt
  rw [List.take_append_of_le_length h]
theorem tAt_n {P R : List Pc} : tAt (P ++ R) P.length = (txs P).length := by
  rw [tAt_l (Nat.le_refl _)]
  unfold tAt
  rw [List.take_length]
end
/-! part 53a.rdo -/
section
/-! the class's cut: reading what the outer scan found -/
abbrev cuL (c0 : Nat) (mn : Int32) : List Value := [.ref (c0 + 1), .ref (c0 + 3), .ref (c0 + 15), .int mn, .ref (c0 + 9), .ref (c0 + 12), .ref (c0 + 5), .ref (c0 + 7)]
abbrev stV (fr : Nat) (k i l le lc : Int32) (la : Option Nat) (pn : Int32) (lk td : Nat) : List Value := [.ref fr, .int k, .int i, .int l, .int le, .int lc, va_rf la, .int pn, .ref lk, .ref td]
theorem qe_walk {L : BL} {i E : Nat} (h : qe L i = E) (hi : i < E) (hE : E ≤ L.length) : (L.getD i 0 = 34 → i + 1 < E ∧ L.getD (i + 1) 0 = 34 ∧ qe L (i + 2) = E) ∧ (L.getD i 0 ≠ 34 → qe L (i + 1) = E) := by
  rw [qe_st (by omega)] at h
  refine ⟨fun q => ?_, fun q => ?_⟩
  · rw [if_pos q] at h
    by_cases h2 : i + 1 < L.length ∧ L.getD (i + 1) 0 = 34
    · rw [if_pos h2] at h
      have := qe_ge (L := L) (k := i + 2)
      exact ⟨by omega, h2.2, h⟩
    · rw [if_neg h2] at h; omega
  · rw [if_neg q] at h; exact h
theorem stepK_x {k : Int32} {L : BL} {a : Nat} (h : a < L.length) {c : CI} (e : (stepK k L a).1 = some c) : c.2.2.2.1 + c.2.2.2.2 ≤ L.length ∧ (k = 1 → c.2.2.1 = true → qe L c.1 = c.2.1) ∧ (k ≠ 1 → c.2.2.1 = false) := by
  unfold stepK at e
  split at e
  · rename_i hk
    unfold stL at e
    have h1 : lnE L a ≤ L.length := nx_le (by omega)
    have h2 : lnS L a ≤ lnE L a := nx_le nx_ge
    have h3 : bkn (bEq 32) L (lnK L a) (lnS L a) ≤ lnS L a := bkn_le _
    have e2 : (if lnS L a = lnE L a ∨ L.getD (lnK L a) 0 = 35 ∨ lnE L a ≤ lnV L a then none else some (lnV L a, lnE L a, false, lnK L a, lnM L a)) = some c := e
    split at e2
    · cases e2
    · cases e2
      refine ⟨?_, fun h => absurd h (by rw [hk]; decide), fun _ => rfl⟩
      show lnK L a + lnM L a ≤ L.length
      unfold lnM
      have h4 : lnK L a ≤ lnE L a := nx_le nx_ge
      omega
  · split at e
    · rename_i hk
      unfold stT at e
      by_cases hq : L.getD a 0 = 34
      · rw [if_pos hq] at e
        have e2 : (if a + 1 < qe L (a + 1) then some (a + 1, qe L (a + 1), true, 0, 0) else none) = some c := e
        split at e2
        · cases e2
          exact ⟨Nat.zero_le _, fun _ _ => rfl, fun h => absurd hk h⟩
        · cases e2
      · rw [if_neg hq] at e
        have e2 : (if a < nx bSep L a L.length then some (a, nx bSep L a L.length, false, 0, 0) else none) = some c := e
        split at e2
        · cases e2
          exact ⟨Nat.zero_le _, (fun _ h => absurd (show false = true from h) (by decide)), fun _ => rfl⟩
        · cases e2
    · rename_i hk1
      split at e
      · unfold stM at e
        by_cases hq : L.getD a 0 = 60
        · rw [if_pos hq] at e; cases e
        · rw [if_neg hq] at e
          have e2 : (if mkX L a < mkY L a then some (mkX L a, mkY L a, false, 0, 0) else none) = some c := e
          split at e2
          · cases e2
            exact ⟨Nat.zero_le _, fun h => absurd h hk1, fun _ => rfl⟩
          · cases e2
      · unfold stQ at e
        by_cases hq : quA L a < L.length
        · rw [if_pos hq] at e
          have e2 : (if quA L a + 1 < quE L a ∧ ¬ (quW L a < L.length ∧ L.getD (quW L a) 0 = 58) then some (quA L a + 1, quE L a, false, 0, 0) else none) = some c := e
          split at e2
          · cases e2
            exact ⟨Nat.zero_le _, fun h => absurd h hk1, fun _ => rfl⟩
          · cases e2
        · rw [if_neg hq] at e; cases e
theorem cutL_x {k : Int32} {L : BL} : ∀ (d a : Nat), L.length - a ≤ d → ∀ c ∈ cutL k L a, c.2.2.2.1 + c.2.2.2.2 ≤ L.length ∧ (k = 1 → c.2.2.1 = true → qe L c.1 = c.2.1) ∧ (k ≠ 1 → c.2.2.1 = false) := by
  intro d
  induction d with
  | zero => intro a h c hc; rw [cutL_end (by omega)] at hc; cases hc
  | succ d ih =>
    intro a h c hc
    by_cases ha : a < L.length
    · rw [cutL_st ha] at hc
      have hg := stepK_gt (k := k) ha
      rcases List.mem_append.mp hc with hc | hc
      · have e : (stepK k L a).1 = some c := by
          cases e1 : (stepK k L a).1 with
          | none => rw [e1] at hc; cases hc
          | some c' => rw [e1] at hc; rw [List.mem_singleton.mp (show c ∈ [c'] from hc)]
        exact stepK_x ha e
      · exact ih (stepK k L a).2 (by omega) c hc
    · rw [cutL_end (by omega)] at hc; cases hc
theorem jmax1 {w : Nat} (h : 1 ≤ w) (h2 : w ≤ 1000) : jMax 1 (nI w) = nI w := by
  have h3 := jmax_b (a := 1) (b := nI w) kt_1 (nI_toInt (by omega))
  exact Int32.toInt_inj.mp (by rw [nI_toInt (by omega)]; omega)
theorem f_readS {f : AH} {s r rb c n : Nat} {L : BL} {m w k : Int32} (hr : isRw f r rb c L) (h1 : r ≠ s) (h2 : rb ≠ s) (hk : k = 0 ∨ k = 1 ∨ k = 2 ∨ k = 3) {b kb ks p : Int32} {i E : Nat} {q : Bool} (hs : f s = scE r b (nI E) (bI q) kb ks m w k p) (hi : i < E) (hE : E ≤ L.length) (hT : k = 1 → q = true → L.getD i 0 = 34 → i + 1 < E ∧ L.getD (i + 1) 0 = 34) : PQ (mX6_read s (nI i) f n) (fun y => y = (0, va_up f s (scE r b (nI E) (bI q) kb ks (mw k q L i E).1 (nI (mw k q L i E).2) k p), n)) := by
  have h := f_read (n := n) (m := m) (w := w) (b := b) (kb := kb) (ks := ks) (p := p) hr h1 h2 hk hi hE hT
  rw [u_id hs] at h
  exact h
theorem f_rdO_l {n c0 o r rb c : Nat} {L : BL} {k b kb ks p mn : Int32} {q : Bool} (hk : k = 0 ∨ k = 1 ∨ k = 2 ∨ k = 3) (ho : 1 ≤ o ∧ o ≤ 5) (hro : r < c0 ∨ c0 + 56 ≤ r) (hrb : rb < c0 ∨ c0 + 56 ≤ rb) {E : Nat} (hE : E ≤ L.length) : ∀ (d i : Nat) (f : AH) (A Bs : BL) (m w : Int32), f c0 = some (.inr (1, cuL c0 mn)) → f (c0 + 9) = scE r b (nI E) (bI q) kb ks m w k p → isRw f r rb c L → isRw f (c0 + o) (c0 + o + 1) 600 A → isRw f (c0 + o + 2) (c0 + o + 3) 600 Bs → i ≤ E → A.length + (E - i) ≤ 600 → Bs.length + (E - i) ≤ 600 → (k = 1 → q = true → qe L i = E) → PQ (mX1_readOuter_l8 d c0 (some (c0 + o)) (some (c0 + o + 2)) (nI i) f n) (fun y => ∃ f' m' w', y = (0, f', n) ∧ f' (c0 + 9) = scE r b (nI E) (bI q) kb ks m' w' k p ∧ isRw f' (c0 + o) (c0 + o + 1) 600 (A ++ (und k q L i E).map (fun x => x.1)) ∧ isRw f' (c0 + o + 2) (c0 + o + 3) 600 (Bs ++ (und k q L i E).map (fun x => nI x.2.1)) ∧ ∀ i, i ≠ c0 + 9 → (i < c0 + o ∨ c0 + o + 3 < i) → f' i = f i) := by
  intro d
  induction d with
  | zero => intro i f A Bs m w _ _ _ _ _ _ _ _ _; exact pq_none
  | succ d ih =>
    intro i f A Bs m w hc hs hr hA hB hi hlA hlB hq
    have h6 := rw_6 hr
    unfold mX1_readOuter_l8
    refine pq_gR hc rfl (pq_sb (pq_gI hs rfl ?_))
    refine pq_le (nI_toInt (by omega)) (nI_toInt (by omega)) (fun h => ?_) (fun h => ?_)
    · refine pq_ret ⟨f, m, w, rfl, hs, ?_, ?_, fun _ _ _ => rfl⟩
      · rw [und_end (by omega)]; show isRw f _ _ _ (A ++ []); rw [List.append_nil]; exact hA
      · rw [und_end (by omega)]; show isRw f _ _ _ (Bs ++ []); rw [List.append_nil]; exact hB
    · have hiE : i < E := by omega
      have hw := mw_b (k := k) (q := q) (L := L) hiE
      refine pq_gR hc rfl (pq_sb (pq_ck (pq_is (f_readS hr (by omega) (by omega) hk hs hiE hE (fun k1 q1 h34 => ?_)) ?_)))
      · have h3 := (qe_walk (hq k1 q1) hiE hE).1 h34
        exact ⟨h3.1, h3.2.1⟩
      have n9 : c0 ≠ c0 + 9 := by omega
      have hc1 := (u_ne (f := f) (v := scE r b (nI E) (bI q) kb ks (mw k q L i E).1 (nI (mw k q L i E).2) k p) n9).trans hc
      refine pq_gR hc1 rfl (pq_sb (pq_gI u_eq rfl (pq_sb (pq_ck ?_))))
      refine pq_call (f_add (rw_up hA (by omega) (by omega))) (fun y hy => ?_)
      rcases hy with ⟨hl, f1, rfl, hA1, hF1⟩ | ⟨hl, -⟩
      · refine pq_sb (pq_ck ?_)
        have hB1 : isRw f1 (c0 + o + 2) (c0 + o + 3) 600 Bs := rw_tr (rw_up hB (by omega) (by omega)) (hF1 _ (by omega) (by omega)) (hF1 _ (by omega) (by omega))
        refine pq_call (f_add hB1) (fun y hy => ?_)
        rcases hy with ⟨hl2, f2, rfl, hB2, hF2⟩ | ⟨hl2, -⟩
        · have hF : ∀ x, x ≠ c0 + 9 → (x < c0 + o ∨ c0 + o + 3 < x) → f2 x = f x := fun x e1 e2 => ((hF2 x (by omega) (by omega)).trans (hF1 x (by omega) (by omega))).trans (u_ne e1)
          have hs2 : f2 (c0 + 9) = scE r b (nI E) (bI q) kb ks (mw k q L i E).1 (nI (mw k q L i E).2) k p := ((hF2 _ (by omega) (by omega)).trans (hF1 _ (by omega) (by omega))).trans u_eq
          have hc2 : f2 c0 = some (.inr (1, cuL c0 mn)) := (hF c0 (by omega) (by omega)).trans hc
          refine pq_gR hc2 rfl (pq_sb (pq_gI hs2 rfl ?_))
          rw [jmax1 hw.1 (by omega), nI_add]
          have hA2 : isRw f2 (c0 + o) (c0 + o + 1) 600 (A ++ [(mw k q L i E).1]) := rw_tr hA1 (hF2 _ (by omega) (by omega)) (hF2 _ (by omega) (by omega))
          have hr2 : isRw f2 r rb c L := rw_tr hr (hF r (by omega) (by omega)) (hF rb (by omega) (by omega))
          refine pq_tail (ih (i + (mw k q L i E).2) f2 (A ++ [(mw k q L i E).1]) (Bs ++ [nI i]) _ _ hc2 hs2 hr2 hA2 hB2 hw.2.1 (by rw [List.length_append]; show A.length + 1 + _ ≤ 600; omega) (by rw [List.length_append]; show Bs.length + 1 + _ ≤ 600; omega) (fun k1 q1 => ?_)) (fun y hy => ?_)
          · have h3 := qe_walk (hq k1 q1) hiE hE
            by_cases h34 : L.getD i 0 = 34
            · have h4 := h3.1 h34
              have e2 : (mw k q L i E).2 = 2 := by
                unfold mw
                rw [if_pos k1]
                exact if_pos ⟨q1, h34, h4.1, h4.2.1⟩
              rw [e2]; exact h4.2.2
            · have e2 : (mw k q L i E).2 = 1 := by
                unfold mw
                rw [if_pos k1]
                exact if_neg (fun x => h34 x.2.1)
              rw [e2]; exact h3.2 h34
          · obtain ⟨f3, m3, w3, rfl, g1, g2, g3, g4⟩ := hy
            refine ⟨f3, m3, w3, rfl, g1, ?_, ?_, fun x e1 e2 => (g4 x e1 e2).trans (hF x e1 e2)⟩
            · rw [und_st hiE]
              rw [List.append_assoc] at g2
              exact g2
            · rw [und_st hiE]
              rw [List.append_assoc] at g3
              exact g3
        · omega
      · omega
theorem f_rdO {n c0 o r rb c : Nat} {L : BL} {k kb ks p mn m w : Int32} {q : Bool} {f : AH} {A Bs : BL} {i E : Nat} (hk : k = 0 ∨ k = 1 ∨ k = 2 ∨ k = 3) (ho : 1 ≤ o ∧ o ≤ 5) (hro : r < c0 ∨ c0 + 56 ≤ r) (hrb : rb < c0 ∨ c0 + 56 ≤ rb) (hE : E ≤ L.length) (hc : f c0 = some (.inr (1, cuL c0 mn))) (hs : f (c0 + 9) = scE r (nI i) (nI E) (bI q) kb ks m w k p) (hr : isRw f r rb c L) (hA : isRw f (c0 + o) (c0 + o + 1) 600 A) (hB : isRw f (c0 + o + 2) (c0 + o + 3) 600 Bs) (hi : i ≤ E) (hlA : A.length + (E - i) ≤ 600) (hlB : Bs.length + (E - i) ≤ 600) (hq : k = 1 → q = true → qe L i = E) : PQ (mX1_readOuter c0 (some (c0 + o)) (some (c0 + o + 2)) f n) (fun y => ∃ f' m' w', y = (0, f', n) ∧ f' (c0 + 9) = scE r (nI i) (nI E) (bI q) kb ks m' w' k p ∧ isRw f' (c0 + o) (c0 + o + 1) 600 (A ++ (und k q L i E).map (fun x => x.1)) ∧ isRw f' (c0 + o + 2) (c0 + o + 3) 600 (Bs ++ (und k q L i E).map (fun x => nI x.2.1)) ∧ ∀ i, i ≠ c0 + 9 → (i < c0 + o ∨ c0 + o + 3 < i) → f' i = f i) := by
  unfold mX1_readOuter
  refine pq_gR hc rfl (pq_sb (pq_gI hs rfl ?_))
  exact f_rdO_l hk ho hro hrb hE rFU i f A Bs m w hc hs hr hA hB hi hlA hlB hq
end
/-! part 53b.set -/
section
/-! the class's cut: a piece is settled -/
abbrev pcV (b e tf ts kb ks q qi fi x9 x10 x11 : Int32) : List Value := [.int b, .int e, .int tf, .int ts, .int kb, .int ks, .int q, .int qi, .int fi, .int x9, .int x10, .int x11]
def okP (v : Option AE) : Prop := ∃ b e tf ts kb ks q qi fi x9 x10 x11, v = some (.inr (3, pcV b e tf ts kb ks q qi fi x9 x10 x11))
def daP (v : Option AE) (x : Pc) (tf : Nat) : Prop := ∃ x9 x10 x11, v = some (.inr (3, pcV (nI x.1) (nI x.2.1) (nI tf) (nI (pX x).length) (nI x.2.2.2.2.2.1) (nI x.2.2.2.2.2.2.1) (bI x.2.2.1) (bI x.2.2.2.1) (bI x.2.2.2.2.1) x9 x10 x11))
theorem daP_ok {v : Option AE} {x : Pc} {tf : Nat} (h : daP v x tf) : okP v := by
  obtain ⟨x9, x10, x11, e⟩ := h
  exact ⟨_, _, _, _, _, _, _, _, _, x9, x10, x11, e⟩
/-- the cut's pieces -/
def CB (f : AH) (c0 : Nat) (P : List Pc) : Prop := f c0 = some (.inr (1, cuL c0 (nI P.length))) ∧ (∃ g : Nat → Option Nat, f (c0 + 15) = some (.inl (1, 40, .inr (.inr g))) ∧ ∀ i, i < 40 → g i = some (c0 + 16 + i)) ∧ (∀ i, i < 40 → okP (f (c0 + 16 + i))) ∧ (∀ i, i < P.length → daP (f (c0 + 16 + i)) (P.getD i pc0) (tAt P i)) ∧ P.length ≤ 40
theorem CB_tr {f f' : AH} {c0 : Nat} {P : List Pc} (h : CB f c0 P) (h1 : f' c0 = f c0) (h2 : ∀ i, c0 + 15 ≤ i → i < c0 + 56 → f' i = f i) : CB f' c0 P := by
  obtain ⟨a1, a2, a3, a4, a5⟩ := h
  refine ⟨h1.trans a1, ?_, fun i hi => ?_, fun i hi => ?_, a5⟩
  · rw [h2 _ (by omega) (by omega)]; exact a2
  · rw [h2 _ (by omega) (by omega)]; exact a3 i hi
  · rw [h2 _ (by omega) (by omega)]; exact a4 i hi
theorem f_settle_no {f : AH} {c0 n from_ : Nat} {mn : Int32} {T O : BL} (hc : f c0 = some (.inr (1, cuL c0 mn))) (hT : isRw f (c0 + 1) (c0 + 2) 600 T) (hO : isRw f (c0 + 3) (c0 + 4) 600 O) (h6 : from_ ≤ 600) : PQ (mX1_settle_b77 c0 (nI from_) f n) (fun y => ∃ f', y = (0, f', n) ∧ isRw f' (c0 + 1) (c0 + 2) 600 (T.take from_) ∧ isRw f' (c0 + 3) (c0 + 4) 600 (O.take from_) ∧ ∀ i, i ≠ c0 + 1 → i ≠ c0 + 3 → f' i = f i) := by
  unfold mX1_settle_b77
  refine pq_gR hc rfl (pq_sb (pq_ck ?_))
  refine pq_call (f_cutTo hT (by omega)) (fun y hy => ?_)
  obtain ⟨f1, rfl, hT1, hF1⟩ := hy
  have hc1 : f1 c0 = some (.inr (1, cuL c0 mn)) := (hF1 _ (by omega)).trans hc
  refine pq_gR hc1 rfl (pq_sb (pq_ck ?_))
  have hO1 : isRw f1 (c0 + 3) (c0 + 4) 600 O := rw_tr hO (hF1 _ (by omega)) (hF1 _ (by omega))
  refine pq_call (f_cutTo hO1 (by omega)) (fun y hy => ?_)
  obtain ⟨f2, rfl, hO2, hF2⟩ := hy
  exact pq_ret ⟨f2, rfl, rw_tr hT1 (hF2 _ (by omega)) (hF2 _ (by omega)), hO2, fun i e1 e2 => (hF2 i e2).trans (hF1 i e1)⟩
theorem f_settle_yes {f : AH} {c0 n st fr lk td tf ts : Nat} {P : List Pc} {k i l le lc : Int32} {la : Option Nat} {pn : Int32} {r r' : Nat} {ob oe ok_ okn m w kk pp ib ie ik im mm ww kk' pp' : Int32} {oq iq : Bool} {be en : Nat} (hC : CB f c0 P) (hl : P.length < 40) (hst : f st = some (.inr (7, stV fr k i l le lc la pn lk td))) (hsr : st < c0 ∨ c0 + 56 ≤ st) (hs : f (c0 + 9) = scE r ob oe (bI oq) ok_ okn m w kk pp) (hi : i = 1 → f (c0 + 12) = scE r' ib ie (bI iq) ik im mm ww kk' pp') : PQ (mX1_settle_b94 c0 (some st) (nI tf) (nI be) (nI en) (some (c0 + 16 + P.length)) (nI ts) f n) (fun y => ∃ f' x9 x10 x11, y = (0, f', n) ∧ f' c0 = some (.inr (1, cuL c0 (nI (P.length + 1)))) ∧ f' (c0 + 16 + P.length) = some (.inr (3, pcV (nI be) (nI en) (nI tf) (nI ts) ok_ okn (bI oq) (bI (decide (i = 1) && iq)) (bI (decide (nI be = ob))) x9 x10 x11)) ∧ ∀ j, j ≠ c0 → j ≠ c0 + 16 + P.length → f' j = f j) := by
  obtain ⟨a1, a2, a3, a4, a5⟩ := hC
  obtain ⟨y0, y1, y2, y3, y4, y5, y6, y7, y8, y9, y10, y11, hP⟩ := a3 P.length hl
  unfold mX1_settle_b94
  refine pq_gI a1 rfl ?_
  rw [nI_1]
  refine pq_pO a1 rfl (pq_sb ?_)
  have nP : c0 + 16 + P.length ≠ c0 := by omega
  -- the heap behind 'many'
  have key : ∀ g : AH, g c0 = some (.inr (1, cuL c0 (nI (P.length + 1)))) → g (c0 + 16 + P.length) = some (.inr (3, pcV y0 y1 y2 y3 y4 y5 y6 y7 y8 y9 y10 y11)) → (∀ j, j ≠ c0 → g j = f j) → PQ ((pO g (c0 + 16 + P.length) 3 0 (.int (nI be))).bind fun f4 => ((pO f4 (c0 + 16 + P.length) 3 1 (.int (nI en))).bind fun f5 => ((pO f5 (c0 + 16 + P.length) 3 2 (.int (nI tf))).bind fun f6 => ((pO f6 (c0 + 16 + P.length) 3 3 (.int (nI ts))).bind fun f7 => ((gR f7 c0 1 4).bind fun x8 => ((x8).bind fun j9 => ((gI f7 j9 6 4).bind fun x10 => ((pO f7 (c0 + 16 + P.length) 3 4 (.int x10)).bind fun f11 => ((gR f11 c0 1 4).bind fun x12 => ((x12).bind fun j13 => ((gI f11 j13 6 5).bind fun x14 => ((pO f11 (c0 + 16 + P.length) 3 5 (.int x14)).bind fun f15 => ((gR f15 c0 1 4).bind fun x16 => ((x16).bind fun j17 => ((gI f15 j17 6 3).bind fun x18 => rCk (rNb x18) (((pO f15 (c0 + 16 + P.length) 3 6 (.int x18)).bind fun f20 => ((some st).bind fun j21 => ((gI f20 j21 7 2).bind fun x22 => (if x22 = (1 : Int32) then ((gR f20 c0 1 5).bind fun x23 => ((x23).bind fun j24 => ((gI f20 j24 6 3).bind fun x25 => (if x25 = (0 : Int32) then mX1_settle_b190 c0 (nI be) (some (c0 + 16 + P.length)) (some (c0 + 16 + P.length)) f20 n else mX1_settle_b191 c0 (nI be) (some (c0 + 16 + P.length)) (some (c0 + 16 + P.length)) (1 : Int32) f20 n)))) else mX1_settle_b190 c0 (nI be) (some (c0 + 16 + P.length)) (some (c0 + 16 + P.length)) f20 n)))))))))))))))))))) (fun y => ∃ f' x9 x10 x11, y = (0, f', n) ∧ f' c0 = some (.inr (1, cuL c0 (nI (P.length + 1)))) ∧ f' (c0 + 16 + P.length) = some (.inr (3, pcV (nI be) (nI en) (nI tf) (nI ts) ok_ okn (bI oq) (bI (decide (i = 1) && iq)) (bI (decide (nI be = ob))) x9 x10 x11)) ∧ ∀ j, j ≠ c0 → j ≠ c0 + 16 + P.length → f' j = f j) := by
    intro g g1 g2 g3
    have eg : g = va_up g (c0 + 16 + P.length) (some (.inr (3, pcV y0 y1 y2 y3 y4 y5 y6 y7 y8 y9 y10 y11))) := (u_id g2).symm
    rw [eg]
    have c_ : ∀ X, va_up g (c0 + 16 + P.length) X c0 = some (.inr (1, cuL c0 (nI (P.length + 1)))) := fun X => (u_ne (by omega)).trans g1
    have s_ : ∀ X, va_up g (c0 + 16 + P.length) X (c0 + 9) = scE r ob oe (bI oq) ok_ okn m w kk pp := fun X => (u_ne (by omega)).trans ((g3 _ (by omega)).trans hs)
    have i_ : i = 1 → ∀ X, va_up g (c0 + 16 + P.length) X (c0 + 12) = scE r' ib ie (bI iq) ik im mm ww kk' pp' := fun h1 X => (u_ne (by omega)).trans ((g3 _ (by omega)).trans (hi h1))
    have t_ : ∀ X, va_up g (c0 + 16 + P.length) X st = some (.inr (7, stV fr k i l le lc la pn lk td)) := fun X => (u_ne (by omega)).trans ((g3 _ (by omega)).trans hst)
    refine pq_pU (pcV (nI be) y1 y2 y3 y4 y5 y6 y7 y8 y9 y10 y11) rfl rfl (pq_pU (pcV (nI be) (nI en) y2 y3 y4 y5 y6 y7 y8 y9 y10 y11) rfl rfl (pq_pU (pcV (nI be) (nI en) (nI tf) y3 y4 y5 y6 y7 y8 y9 y10 y11) rfl rfl (pq_pU (pcV (nI be) (nI en) (nI tf) (nI ts) y4 y5 y6 y7 y8 y9 y10 y11) rfl rfl ?_)))
    refine pq_gR (c_ _) rfl (pq_sb (pq_gI (s_ _) rfl (pq_pU (pcV (nI be) (nI en) (nI tf) (nI ts) ok_ y5 y6 y7 y8 y9 y10 y11) rfl rfl ?_)))
    refine pq_gR (c_ _) rfl (pq_sb (pq_gI (s_ _) rfl (pq_pU (pcV (nI be) (nI en) (nI tf) (nI ts) ok_ okn y6 y7 y8 y9 y10 y11) rfl rfl ?_)))
    refine pq_gR (c_ _) rfl (pq_sb (pq_gI (s_ _) rfl (pq_ck (pq_pU (pcV (nI be) (nI en) (nI tf) (nI ts) ok_ okn (bI oq) y7 y8 y9 y10 y11) rfl rfl ?_))))
    refine pq_sb (pq_gI (t_ _) rfl ?_)
    have fin : ∀ z : Bool, z = (decide (i = 1) && iq) → PQ (mX1_settle_b191 c0 (nI be) (some (c0 + 16 + P.length)) (some (c0 + 16 + P.length)) (bI z) (va_up g (c0 + 16 + P.length) (some (.inr (3, pcV (nI be) (nI en) (nI tf) (nI ts) ok_ okn (bI oq) y7 y8 y9 y10 y11)))) n) (fun y => ∃ f' x9 x10 x11, y = (0, f', n) ∧ f' c0 = some (.inr (1, cuL c0 (nI (P.length + 1)))) ∧ f' (c0 + 16 + P.length) = some (.inr (3, pcV (nI be) (nI en) (nI tf) (nI ts) ok_ okn (bI oq) (bI (decide (i = 1) && iq)) (bI (decide (nI be = ob))) x9 x10 x11)) ∧ ∀ j, j ≠ c0 → j ≠ c0 + 16 + P.length → f' j = f j) := by
      intro z hz
      unfold mX1_settle_b191
      refine pq_sb (pq_ck (pq_pU (pcV (nI be) (nI en) (nI tf) (nI ts) ok_ okn (bI oq) (bI z) y8 y9 y10 y11) rfl rfl (pq_gR (c_ _) rfl (pq_sb (pq_gI (s_ _) rfl ?_)))))
      refine pq_eq (fun q1 => ?_) (fun q1 => ?_)
      · unfold mX1_settle_b212
        refine pq_sb (pq_ck (pq_pU (pcV (nI be) (nI en) (nI tf) (nI ts) ok_ okn (bI oq) (bI z) 1 y9 y10 y11) rfl rfl (pq_ret ⟨_, y9, y10, y11, rfl, c_ _, ?_, fun j e1 e2 => (u_ne e2).trans (g3 j e1)⟩)))
        rw [u_eq, decide_eq_true q1, ← hz]; rfl
      · unfold mX1_settle_b212
        refine pq_sb (pq_ck (pq_pU (pcV (nI be) (nI en) (nI tf) (nI ts) ok_ okn (bI oq) (bI z) 0 y9 y10 y11) rfl rfl (pq_ret ⟨_, y9, y10, y11, rfl, c_ _, ?_, fun j e1 e2 => (u_ne e2).trans (g3 j e1)⟩)))
        rw [u_eq, decide_eq_false q1, ← hz]; rfl
    refine pq_eq (fun q1 => ?_) (fun q1 => ?_)
    · refine pq_gR (c_ _) rfl (pq_sb (pq_gI (i_ q1 _) rfl ?_))
      refine pq_eq (fun q2 => ?_) (fun q2 => ?_)
      · exact fin false (by rw [bI_0.mp q2, Bool.and_false])
      · refine fin true ?_
        cases iq with
        | true => rw [decide_eq_true q1]; rfl
        | false => exact absurd rfl q2
    · exact fin false (by rw [decide_eq_false q1]; rfl)
  refine key _ u_eq ((u_ne nP).trans hP) (fun j e => u_ne e)
end
/-! part 53c.set -/
section
theorem f_settle {f : AH} {c0 n st fr lk td : Nat} {cf : CFG} {P : List Pc} {lc : Int32} {la : Option Nat} {pn : Int32} {r r' : Nat} {oe m w kk pp ib ie ik im mm ww kk' pp' : Int32} {oq iq : Bool} {be en b0 kf km : Nat} {t : BL} {g : List Nat} (hC : CB f c0 P) (hl : P.length < 40) (hst : f st = some (.inr (7, stV fr cf.1 cf.2.1 cf.2.2.1 (nI cf.2.2.2.1) lc la pn lk td))) (hsr : st < c0 ∨ c0 + 56 ≤ st) (hle : cf.2.2.2.1 ≤ 40) (hs : f (c0 + 9) = scE r (nI b0) oe (bI oq) (nI kf) (nI km) m w kk pp) (hi : cf.2.1 = 1 → f (c0 + 12) = scE r' ib ie (bI iq) ik im mm ww kk' pp') (hT : isRw f (c0 + 1) (c0 + 2) 600 (txs P ++ t)) (hO : isRw f (c0 + 3) (c0 + 4) 600 (ogs P ++ g.map nI)) (hL : (ogs P).length = (txs P).length) : PQ (mX1_settle c0 (some st) (nI (txs P).length) (nI be) (nI en) f n) (fun y => ∃ f', y = (0, f', n) ∧ CB f' c0 (tk cf P (be, en, oq, decide (cf.2.1 = 1) && iq, decide (nI be = nI b0), kf, km, t, g)) ∧ isRw f' (c0 + 1) (c0 + 2) 600 (txs (tk cf P (be, en, oq, decide (cf.2.1 = 1) && iq, decide (nI be = nI b0), kf, km, t, g))) ∧ isRw f' (c0 + 3) (c0 + 4) 600 (ogs (tk cf P (be, en, oq, decide (cf.2.1 = 1) && iq, decide (nI be = nI b0), kf, km, t, g))) ∧ ∀ j, (j < c0 ∨ c0 + 56 ≤ j) ∨ (c0 + 5 ≤ j ∧ j ≤ c0 + 14) → f' j = f j) := by
  have h6 := rw_6 hT
  rw [List.length_append] at h6
  obtain ⟨a1, ⟨gg, a2, a2'⟩, a3, a4, a5⟩ := id hC
  unfold mX1_settle
  refine pq_gI a1 rfl (pq_f (nI_pos (by omega)) (pq_gI a1 rfl (pq_gR a1 rfl (pq_sb (pq_gL a2 (by omega) (pq_f (nI_ge (by omega) (by omega)) (pq_gR a1 rfl (pq_gI a1 rfl (pq_sb ?_)))))))))
  refine pq_gRA a2 (fun _ => ?_)
  rw [nI_clamp (by omega), a2' _ hl]
  unfold mX1_settle_b32
  refine pq_gR a1 rfl (pq_sb (pq_ck (pq_is (f_size hT) (pq_oNs (pq_sb (pq_gI hst rfl ?_))))))
  have es : nI (txs P ++ t).length - nI (txs P).length = nI t.length := Int32.toInt_inj.mp (by
    rw [List.length_append, i_sub (nI_toInt (by omega)) (nI_toInt (by omega)) (by omega), nI_toInt (by omega)]; omega)
  rw [es]
  have no : okT cf t = false → PQ (mX1_settle_b77 c0 (nI (txs P).length) f n) (fun y => ∃ f', y = (0, f', n) ∧ CB f' c0 (tk cf P (be, en, oq, decide (cf.2.1 = 1) && iq, decide (nI be = nI b0), kf, km, t, g)) ∧ isRw f' (c0 + 1) (c0 + 2) 600 (txs (tk cf P (be, en, oq, decide (cf.2.1 = 1) && iq, decide (nI be = nI b0), kf, km, t, g))) ∧ isRw f' (c0 + 3) (c0 + 4) 600 (ogs (tk cf P (be, en, oq, decide (cf.2.1 = 1) && iq, decide (nI be = nI b0), kf, km, t, g))) ∧ ∀ j, (j < c0 ∨ c0 + 56 ≤ j) ∨ (c0 + 5 ≤ j ∧ j ≤ c0 + 14) → f' j = f j) := by
    intro hno
    have e : tk cf P (be, en, oq, decide (cf.2.1 = 1) && iq, decide (nI be = nI b0), kf, km, t, g) = P := if_neg (fun q => by have q1 : okT cf t = true := q.1; rw [hno] at q1; cases q1)
    rw [e]
    refine pq_tail (f_settle_no a1 hT hO (by omega)) (fun y hy => ?_)
    obtain ⟨f', rfl, g1, g2, g3⟩ := hy
    refine ⟨f', rfl, CB_tr hC (g3 _ (by omega) (by omega)) (fun i x1 x2 => g3 i (by omega) (by omega)), ?_, ?_, fun j hj => g3 j (by omega) (by omega)⟩
    · rw [List.take_left] at g1; exact g1
    · rw [← hL, List.take_left] at g2; exact g2
  have yes : okT cf t = true → PQ (mX1_settle_b94 c0 (some st) (nI (txs P).length) (nI be) (nI en) (some (c0 + 16 + P.length)) (nI t.length) f n) (fun y => ∃ f', y = (0, f', n) ∧ CB f' c0 (tk cf P (be, en, oq, decide (cf.2.1 = 1) && iq, decide (nI be = nI b0), kf, km, t, g)) ∧ isRw f' (c0 + 1) (c0 + 2) 600 (txs (tk cf P (be, en, oq, decide (cf.2.1 = 1) && iq, decide (nI be = nI b0), kf, km, t, g))) ∧ isRw f' (c0 + 3) (c0 + 4) 600 (ogs (tk cf P (be, en, oq, decide (cf.2.1 = 1) && iq, decide (nI be = nI b0), kf, km, t, g))) ∧ ∀ j, (j < c0 ∨ c0 + 56 ≤ j) ∨ (c0 + 5 ≤ j ∧ j ≤ c0 + 14) → f' j = f j) := by
    intro hyes
    have e : tk cf P (be, en, oq, decide (cf.2.1 = 1) && iq, decide (nI be = nI b0), kf, km, t, g) = P ++ [(be, en, oq, decide (cf.2.1 = 1) && iq, decide (nI be = nI b0), kf, km, t, g)] := if_pos ⟨hyes, hl⟩
    rw [e]
    refine pq_tail (f_settle_yes hC hl hst hsr hs hi) (fun y hy => ?_)
    obtain ⟨f', x9, x10, x11, rfl, g1, g2, g3⟩ := hy
    refine ⟨f', rfl, ⟨?_, ⟨gg, (g3 _ (by omega) (by omega)).trans a2, a2'⟩, fun i hi => ?_, fun i hi => ?_, ?_⟩, ?_, ?_, fun j hj => g3 j (by omega) (by omega)⟩
    · rw [List.length_append]; exact g1
    · by_cases ei : i = P.length
      · rw [ei]; exact ⟨_, _, _, _, _, _, _, _, _, x9, x10, x11, g2⟩
      · rw [g3 _ (by omega) (by omega)]; exact a3 i hi
    · rw [List.length_append] at hi
      by_cases ei : i = P.length
      · rw [ei, pgd_n, tAt_n]
        exact ⟨x9, x10, x11, g2⟩
      · have hi2 : i < P.length := by have : i < P.length + 1 := hi; omega
        rw [g3 _ (by omega) (by omega), pgd_l hi2, tAt_l (by omega)]
        exact a4 i hi2
    · rw [List.length_append]; show P.length + 1 ≤ 40; omega
    · rw [txs_app, txs_1]
      exact rw_tr hT (g3 _ (by omega) (by omega)) (g3 _ (by omega) (by omega))
    · rw [ogs_app, ogs_1]
      exact rw_tr hO (g3 _ (by omega) (by omega)) (g3 _ (by omega) (by omega))
  refine pq_lt (nI_toInt (by omega)) (nI_toInt (by omega)) (fun q1 => no ?_) (fun q1 => ?_)
  · unfold okT
    rw [decide_eq_false (by omega)]; rfl
  · refine pq_gI hst rfl ?_
    have e1 : decide (cf.2.2.2.1 ≤ t.length) = true := decide_eq_true (by omega)
    refine pq_eq (fun q2 => yes ?_) (fun q2 => ?_)
    · unfold okT
      rw [e1, decide_eq_true q2]; rfl
    · refine pq_gR a1 rfl (pq_sb (pq_ck (pq_is (f_hasLetter hT (by rw [List.length_append]; omega)) ?_)))
      rw [List.drop_left]
      refine pq_eq (fun q3 => no ?_) (fun q3 => yes ?_)
      · unfold okT
        rw [e1, decide_eq_false q2, bI_0.mp q3]; rfl
      · unfold okT
        rw [e1, decide_eq_false q2]
        cases hx : t.any isLet with
        | true => rfl
        | false => exact absurd (by show bI (t.any isLet) = 0; rw [hx]; rfl) q3
end
/-! part 53d.win -/
section
/-! the class's cut: what lies within -/
theorem und_mem {k : Int32} {q : Bool} {L : BL} {b : Nat} : ∀ d a, b - a ≤ d → ∀ x ∈ und k q L a b, a ≤ x.2.1 ∧ x.2.1 < b := by
  intro d
  induction d with
  | zero => intro a h x hx; rw [und_end (by omega)] at hx; cases hx
  | succ d ih =>
    intro a h x hx
    by_cases ha : a < b
    · have h1 := mw_b (k := k) (q := q) (L := L) ha
      rw [und_st ha] at hx
      rcases List.mem_cons.mp hx with rfl | hx
      · exact ⟨Nat.le_refl _, ha⟩
      · have := ih (a + (mw k q L a b).2) (by omega) x hx
        omega
    · rw [und_end (by omega)] at hx; cases hx
theorem f_win_l {n c0 st : Nat} {M B : BL} {k kb ks p mn v2 v3 : Int32} {q : Bool} {d1 d2 r : Nat} {ob oe oq ok_ okn om ow okk op : Int32} {Q : Int32 × HpN → Prop} {rec17 : Nat → (Option Nat) → Int32 → AH → Nat → Option (Int32 × HpN)} (hk : k = 0 ∨ k = 1 ∨ k = 2 ∨ k = 3) (h12 : d1 < d2) (hE : d2 ≤ M.length) (hBM : B.length = M.length) : ∀ (d i : Nat) (f : AH) (T O : BL) (m w : Int32), f c0 = some (.inr (1, cuL c0 mn)) → f (c0 + 9) = scE r ob oe oq ok_ okn om ow okk op → f (c0 + 12) = scE (c0 + 5) (nI d1) (nI d2) (bI q) kb ks m w k p → isRw f (c0 + 5) (c0 + 6) 600 M → isRw f (c0 + 7) (c0 + 8) 600 B → isRw f (c0 + 1) (c0 + 2) 600 T → isRw f (c0 + 3) (c0 + 4) 600 O → i ≤ d2 → T.length + (d2 - i) ≤ 600 → O.length + (d2 - i) ≤ 600 → (k = 1 → q = true → qe M i = d2) → (∀ f' m' w', f' (c0 + 12) = scE (c0 + 5) (nI d1) (nI d2) (bI q) kb ks m' w' k p → isRw f' (c0 + 1) (c0 + 2) 600 (T ++ (und k q M i d2).map (fun x => x.1)) → isRw f' (c0 + 3) (c0 + 4) 600 (O ++ (und k q M i d2).map (fun x => B.getD x.2.1 0)) → (∀ j, j ≠ c0 + 12 → (j < c0 + 1 ∨ c0 + 4 < j) → f' j = f j) → PQ ((mX1_settle c0 (some st) v3 (B.getD d1 0) (if d2 < M.length then B.getD d2 0 else oe) f' n).bind fun r10 => rec17 c0 (some st) (v2 + 1) r10.2.1 r10.2.2) Q) → PQ (mX1_takeWithin_l63 rec17 d c0 (some st) v2 v3 (nI i) f n) Q := by
  intro d
  induction d with
  | zero => intro i f T O m w _ _ _ _ _ _ _ _ _ _ _ _; exact pq_none
  | succ d ih =>
    intro i f T O m w hc ho hs hM hB hT hO hi hlT hlO hq hK
    have h6 := rw_6 hM
    unfold mX1_takeWithin_l63
    refine pq_gR hc rfl (pq_sb (pq_gI hs rfl ?_))
    refine pq_le (nI_toInt (by omega)) (nI_toInt (by omega)) (fun h => ?_) (fun h => ?_)
    · have hu : und k q M i d2 = [] := und_end (by omega)
      have fin : ∀ x : Int32, x = (if d2 < M.length then B.getD d2 0 else oe) → PQ (mX1_takeWithin_b176 rec17 c0 (some st) v2 v3 x f n) Q := by
        intro x hx
        unfold mX1_takeWithin_b176
        refine pq_gR hc rfl (pq_gR hc rfl (pq_sb (pq_gI hs rfl (pq_sb (pq_ck (pq_is (f_getN hB (by omega)) (pq_ck ?_)))))))
        have h9 := hK f m w hs (by rw [hu]; show isRw f _ _ _ (T ++ []); rw [List.append_nil]; exact hT) (by rw [hu]; show isRw f _ _ _ (O ++ []); rw [List.append_nil]; exact hO) (fun _ _ _ => rfl)
        rw [← hx] at h9
        exact h9
      refine pq_gR hc rfl (pq_sb (pq_gI hs rfl (pq_gR hc rfl (pq_sb (pq_ck (pq_is (f_size hM) ?_))))))
      refine pq_le (nI_toInt (by omega)) (nI_toInt (by omega)) (fun h2 => ?_) (fun h2 => ?_)
      · refine pq_gR hc rfl (pq_sb (pq_gI ho rfl (fin _ ?_)))
        rw [if_neg (by omega)]
      · refine pq_gR hc rfl (pq_gR hc rfl (pq_sb (pq_gI hs rfl (pq_sb (pq_ck (pq_is (f_getN hB (by omega)) (fin _ ?_)))))))
        rw [if_pos (by omega)]
    · have hiE : i < d2 := by omega
      have hw := mw_b (k := k) (q := q) (L := M) hiE
      refine pq_gR hc rfl (pq_sb (pq_ck (pq_is (f_readS hM (by omega) (by omega) hk hs hiE hE (fun k1 q1 h34 => ?_)) ?_)))
      · have h3 := (qe_walk (hq k1 q1) hiE hE).1 h34
        exact ⟨h3.1, h3.2.1⟩
      have hc1 : va_up f (c0 + 12) (scE (c0 + 5) (nI d1) (nI d2) (bI q) kb ks (mw k q M i d2).1 (nI (mw k q M i d2).2) k p) c0 = some (.inr (1, cuL c0 mn)) := (u_ne (by omega)).trans hc
      refine pq_gR hc1 rfl (pq_gR hc1 rfl (pq_sb (pq_gI u_eq rfl (pq_sb (pq_ck ?_)))))
      refine pq_call (f_add (rw_up hT (by omega) (by omega))) (fun y hy => ?_)
      rcases hy with ⟨hl, f1, rfl, hT1, hF1⟩ | ⟨hl, -⟩
      · have hc2 : f1 c0 = some (.inr (1, cuL c0 mn)) := (hF1 _ (by omega) (by omega)).trans hc1
        have hB1 : isRw f1 (c0 + 7) (c0 + 8) 600 B := rw_tr (rw_up hB (by omega) (by omega)) (hF1 _ (by omega) (by omega)) (hF1 _ (by omega) (by omega))
        refine pq_gR hc2 rfl (pq_gR hc2 rfl (pq_sb (pq_ck (pq_is (f_getN hB1 (by omega)) (pq_sb (pq_ck ?_))))))
        have hO1 : isRw f1 (c0 + 3) (c0 + 4) 600 O := rw_tr (rw_up hO (by omega) (by omega)) (hF1 _ (by omega) (by omega)) (hF1 _ (by omega) (by omega))
        refine pq_call (f_add hO1) (fun y hy => ?_)
        rcases hy with ⟨hl2, f2, rfl, hO2, hF2⟩ | ⟨hl2, -⟩
        · have hF : ∀ x, x ≠ c0 + 12 → (x < c0 + 1 ∨ c0 + 4 < x) → f2 x = f x := fun x e1 e2 => ((hF2 x (by omega) (by omega)).trans (hF1 x (by omega) (by omega))).trans (u_ne e1)
          have hs2 : f2 (c0 + 12) = scE (c0 + 5) (nI d1) (nI d2) (bI q) kb ks (mw k q M i d2).1 (nI (mw k q M i d2).2) k p := ((hF2 _ (by omega) (by omega)).trans (hF1 _ (by omega) (by omega))).trans u_eq
          have hc3 : f2 c0 = some (.inr (1, cuL c0 mn)) := (hF c0 (by omega) (by omega)).trans hc
          refine pq_gR hc3 rfl (pq_sb (pq_gI hs2 rfl ?_))
          rw [jmax1 hw.1 (by omega), nI_add]
          have hT2 : isRw f2 (c0 + 1) (c0 + 2) 600 (T ++ [(mw k q M i d2).1]) := rw_tr hT1 (hF2 _ (by omega) (by omega)) (hF2 _ (by omega) (by omega))
          have hM2 : isRw f2 (c0 + 5) (c0 + 6) 600 M := rw_tr hM (hF _ (by omega) (by omega)) (hF _ (by omega) (by omega))
          have hB2 : isRw f2 (c0 + 7) (c0 + 8) 600 B := rw_tr hB (hF _ (by omega) (by omega)) (hF _ (by omega) (by omega))
          refine ih (i + (mw k q M i d2).2) f2 (T ++ [(mw k q M i d2).1]) (O ++ [B.getD i 0]) _ _ hc3 ((hF _ (by omega) (by omega)).trans ho) hs2 hM2 hB2 hT2 hO2 hw.2.1 (by rw [List.length_append]; show T.length + 1 + _ ≤ 600; omega) (by rw [List.length_append]; show O.length + 1 + _ ≤ 600; omega) (fun k1 q1 => ?_) (fun f' m' w' g1 g2 g3 g4 => ?_)
          · have h3 := qe_walk (hq k1 q1) hiE hE
            by_cases h34 : M.getD i 0 = 34
            · have h4 := h3.1 h34
              have e2 : (mw k q M i d2).2 = 2 := by
                unfold mw
                rw [if_pos k1]
                exact if_pos ⟨q1, h34, h4.1, h4.2.1⟩
              rw [e2]; exact h4.2.2
            · have e2 : (mw k q M i d2).2 = 1 := by
                unfold mw
                rw [if_pos k1]
                exact if_neg (fun x => h34 x.2.1)
              rw [e2]; exact h3.2 h34
          · refine hK f' m' w' g1 ?_ ?_ (fun j e1 e2 => (g4 j e1 e2).trans (hF j e1 e2))
            · rw [und_st hiE]
              rw [List.append_assoc] at g2
              exact g2
            · rw [und_st hiE]
              rw [List.append_assoc] at g3
              exact g3
        · omega
      · omega
theorem tk_len {cf : CFG} {P : List Pc} {x : Pc} (h : (ogs P).length = (txs P).length) (hx : (pG x).length = (pX x).length) : (ogs (tk cf P x)).length = (txs (tk cf P x)).length := by
  unfold tk
  split
  · rw [ogs_app, txs_app, ogs_1, txs_1, List.length_append, List.length_append, List.length_map, h, hx]
  · exact h
theorem tk_tx {cf : CFG} {P : List Pc} {x : Pc} : (txs (tk cf P x)).length ≤ (txs P).length + (pX x).length := by
  unfold tk
  split
  · rw [txs_app, txs_1, List.length_append]; omega
  · omega
/-- everything of the cut's region but the scan within -/
def WI (f : AH) (c0 : Nat) (P : List Pc) (M B : BL) (so : Option AE) : Prop := CB f c0 P ∧ isRw f (c0 + 1) (c0 + 2) 600 (txs P) ∧ isRw f (c0 + 3) (c0 + 4) 600 (ogs P) ∧ isRw f (c0 + 5) (c0 + 6) 600 M ∧ isRw f (c0 + 7) (c0 + 8) 600 B ∧ f (c0 + 9) = so
theorem f_tkW_l {n c0 st fr lk td : Nat} {cf : CFG} {lc : Int32} {la : Option Nat} {pn : Int32} {L : BL} {c : CI} {r : Nat} {om ow okk op : Int32} {f0 : AH} (hk : cf.2.1 = 0 ∨ cf.2.1 = 1 ∨ cf.2.1 = 2 ∨ cf.2.1 = 3) (hst : f0 st = some (.inr (7, stV fr cf.1 cf.2.1 cf.2.2.1 (nI cf.2.2.2.1) lc la pn lk td))) (hsr : st < c0 ∨ c0 + 56 ≤ st) (hle : cf.2.2.2.1 ≤ 40) (hc12 : c.1 < c.2.1) (hc6 : c.2.1 ≤ 600) : ∀ (d t a : Nat) (f : AH) (P : List Pc) (b e q kb ks m w : Int32), WI f c0 P ((uOf cf L c).map (fun x => x.1)) ((uOf cf L c).map (fun x => nI x.2.1)) (scE r (nI c.1) (nI c.2.1) (bI c.2.2.1) (nI c.2.2.2.1) (nI c.2.2.2.2) om ow okk op) → (∀ j, j < c0 ∨ c0 + 56 ≤ j → f j = f0 j) → f (c0 + 12) = scE (c0 + 5) b e q kb ks m w cf.2.1 (nI a) → SI cf.2.1 q kb ks → t ≤ a → a ≤ 601 → (ogs P).length = (txs P).length → (txs P).length ≤ c.1 + a → (txs P).length ≤ c.2.1 → PQ (mX1_takeWithin_l17 d c0 (some st) (nI t) f n) (fun y => ∃ f' P' b' e' q' kb' ks' m' w' p', y = (0, f', n) ∧ P' = ((cutL cf.2.1 ((uOf cf L c).map (fun x => x.1)) a).map (pcI cf c (uOf cf L c))).foldl (tk cf) P ∧ WI f' c0 P' ((uOf cf L c).map (fun x => x.1)) ((uOf cf L c).map (fun x => nI x.2.1)) (scE r (nI c.1) (nI c.2.1) (bI c.2.2.1) (nI c.2.2.2.1) (nI c.2.2.2.2) om ow okk op) ∧ f' (c0 + 12) = scE (c0 + 5) b' e' q' kb' ks' m' w' cf.2.1 p' ∧ (∀ j, j < c0 ∨ c0 + 56 ≤ j → f' j = f0 j) ∧ (ogs P').length = (txs P').length ∧ (txs P').length ≤ c.2.1) := by
  intro d
  have hul : (uOf cf L c).length ≤ c.2.1 - c.1 := (und_len _ c.1 (Nat.le_refl _)).1
  have hch := fun i hi => und_ch (k := cf.1) (q := c.2.2.1) (L := L) (b := c.2.1) _ c.1 (Nat.le_refl _) i hi
  have hML : ((uOf cf L c).map (fun x => x.1)).length = (uOf cf L c).length := List.length_map _
  have hBL : ((uOf cf L c).map (fun x => nI x.2.1)).length = (uOf cf L c).length := List.length_map _
  have hBg : ∀ i, i < (uOf cf L c).length → ((uOf cf L c).map (fun x => nI x.2.1)).getD i 0 = nI ((uOf cf L c).getD i u0).2.1 := by
    intro i hi
    rw [List.getD_eq_getElem?_getD, List.getElem?_map, List.getElem?_eq_getElem hi, List.getD_eq_getElem?_getD, List.getElem?_eq_getElem hi]
    rfl
  induction d with
  | zero => intro t a f P b e q kb ks m w _ _ _ _ _ _ _ _ _; exact pq_none
  | succ d ih =>
    intro t a f P b e q kb ks m w hW hF0 hs hS hta ha6 hL hX1 hX2
    obtain ⟨hC, hT, hO, hM, hB, ho⟩ := id hW
    obtain ⟨a1, ⟨gg, a2, a2'⟩, a3, a4, a5⟩ := id hC
    have fin : ∀ f' b' e' q' kb' ks' p', f' = va_up f (c0 + 12) (scE (c0 + 5) b' e' q' kb' ks' m w cf.2.1 p') → ((cutL cf.2.1 ((uOf cf L c).map (fun x => x.1)) a).map (pcI cf c (uOf cf L c))).foldl (tk cf) P = P → PQ (mX1_takeWithin_b206 f' n) (fun y => ∃ f' P' b' e' q' kb' ks' m' w' p', y = (0, f', n) ∧ P' = ((cutL cf.2.1 ((uOf cf L c).map (fun x => x.1)) a).map (pcI cf c (uOf cf L c))).foldl (tk cf) P ∧ WI f' c0 P' ((uOf cf L c).map (fun x => x.1)) ((uOf cf L c).map (fun x => nI x.2.1)) (scE r (nI c.1) (nI c.2.1) (bI c.2.2.1) (nI c.2.2.2.1) (nI c.2.2.2.2) om ow okk op) ∧ f' (c0 + 12) = scE (c0 + 5) b' e' q' kb' ks' m' w' cf.2.1 p' ∧ (∀ j, j < c0 ∨ c0 + 56 ≤ j → f' j = f0 j) ∧ (ogs P').length = (txs P').length ∧ (txs P').length ≤ c.2.1) := by
      intro f' b' e' q' kb' ks' p' ef eP
      subst ef
      rw [eP]
      refine pq_ret ⟨_, P, b', e', q', kb', ks', m, w, p', rfl, rfl, ⟨CB_tr hC (u_ne (by omega)) (fun i x1 x2 => u_ne (by omega)), rw_up hT (by omega) (by omega), rw_up hO (by omega) (by omega), rw_up hM (by omega) (by omega), rw_up hB (by omega) (by omega), (u_ne (by omega)).trans ho⟩, u_eq, fun j hj => (u_ne (by omega)).trans (hF0 j hj), hL, hX2⟩
    have hfs : f = va_up f (c0 + 12) (scE (c0 + 5) b e q kb ks m w cf.2.1 (nI a)) := (u_id hs).symm
    unfold mX1_takeWithin_l17
    refine pq_lt kt_600 (nI_toInt (by omega)) (fun h => fin f b e q kb ks _ hfs ?_) (fun h => ?_)
    · rw [cutL_end (by omega)]; rfl
    refine pq_gI a1 rfl (pq_gR a1 rfl (pq_sb (pq_gL a2 (by omega) ?_)))
    refine pq_le (nI_toInt (by omega)) (nI_toInt (by omega)) (fun h2 => fin f b e q kb ks _ hfs (tks_full (by omega) _)) (fun h2 => ?_)
    refine pq_gR a1 rfl (pq_sb (pq_ck ?_))
    have nxt := f_scnext (n := n) (m := m) (w := w) (b := b) (e := e) (s := c0 + 12) hM (by omega) (by omega) hk ha6 hS
    rw [← hfs] at nxt
    refine pq_call nxt (fun y hy => ?_)
    obtain ⟨b', e', q', kb', ks', a', g1, g2, g3, g4⟩ := hy
    rcases g4 with ⟨rfl, dd, g5, g6, g7⟩ | ⟨rfl, g5⟩
    · refine pq_f (show ¬ (1 : Int32) = 0 by decide) ?_
      have hdm : dd ∈ cutL cf.2.1 ((uOf cf L c).map (fun x => x.1)) a := by rw [g5]; exact List.mem_cons_self
      have hdb := cutL_b _ a (Nat.le_refl _) dd hdm
      have hdx := cutL_x _ a (Nat.le_refl _) dd hdm
      obtain ⟨o1, o2, o3, o4, o5⟩ := g6
      rw [hML] at hdb
      have ndd : ∀ X, va_up f (c0 + 12) X c0 = some (.inr (1, cuL c0 (nI P.length))) := fun X => (u_ne (by omega)).trans a1
      refine pq_gR (ndd _) rfl (pq_sb (pq_ck (pq_is (f_size (rw_up hT (by omega) (by omega))) (pq_gR (ndd _) rfl (pq_sb (pq_gI u_eq rfl ?_))))))
      rw [o1, o2, o3]
      refine f_win_l (q := dd.2.2.1) (d1 := dd.1) (d2 := dd.2.1) hk hdb.2.1 (by rw [hML]; exact hdb.2.2) (hBL.trans hML.symm) rFU dd.1 _ (txs P) (ogs P) m w (ndd _) ((u_ne (by omega)).trans ho) u_eq (rw_up hM (by omega) (by omega)) (rw_up hB (by omega) (by omega)) (rw_up hT (by omega) (by omega)) (rw_up hO (by omega) (by omega)) (by omega) (by omega) (by omega) hdx.2.1 (fun f' m' w' k1 k2 k3 k4 => ?_)
      -- settle
      have hF' : ∀ j, j ≠ c0 + 12 → (j < c0 + 1 ∨ c0 + 4 < j) → f' j = f j := fun j e1 e2 => (k4 j e1 e2).trans (u_ne e1)
      have hC' : CB f' c0 P := CB_tr hC (hF' _ (by omega) (by omega)) (fun i x1 x2 => hF' i (by omega) (by omega))
      have hst' : f' st = some (.inr (7, stV fr cf.1 cf.2.1 cf.2.2.1 (nI cf.2.2.2.1) lc la pn lk td)) := ((hF' st (by omega) (by omega)).trans (hF0 st hsr)).trans hst
      have ebe : ((uOf cf L c).map (fun x => nI x.2.1)).getD dd.1 0 = nI ((uOf cf L c).getD dd.1 u0).2.1 := hBg _ (by omega)
      have een : (if dd.2.1 < ((uOf cf L c).map (fun x => x.1)).length then ((uOf cf L c).map (fun x => nI x.2.1)).getD dd.2.1 0 else nI c.2.1) = nI ((uOf cf L c).getD (dd.2.1 - 1) u0).2.2 := by
        have h9 := hch (dd.2.1 - 1) (by show dd.2.1 - 1 < (uOf cf L c).length; omega)
        rw [hML]
        by_cases hlt : dd.2.1 < (uOf cf L c).length
        · rw [if_pos hlt, hBg _ hlt]
          have h10 := h9.2.2.2.2.1 (by show dd.2.1 - 1 + 1 < (uOf cf L c).length; omega)
          rw [show dd.2.1 - 1 + 1 = dd.2.1 by omega] at h10
          exact congrArg nI h10.symm
        · rw [if_neg hlt]
          have h10 := h9.2.2.2.2.2 (by show dd.2.1 - 1 + 1 = (uOf cf L c).length; omega)
          exact congrArg nI h10.symm
      have eg : (und cf.2.1 dd.2.2.1 ((uOf cf L c).map (fun x => x.1)) dd.1 dd.2.1).map (fun x => ((uOf cf L c).map (fun x => nI x.2.1)).getD x.2.1 0) = ((und cf.2.1 dd.2.2.1 ((uOf cf L c).map (fun x => x.1)) dd.1 dd.2.1).map (fun x => ((uOf cf L c).getD x.2.1 u0).2.1)).map nI := by
        rw [List.map_map]
        refine List.map_congr_left (fun x hx => ?_)
        have := und_mem _ dd.1 (Nat.le_refl _) x hx
        exact hBg _ (by omega)
      rw [eg] at k3
      rw [ebe, een]
      have ei12 : f' (c0 + 12) = scE (c0 + 5) (nI dd.1) (nI dd.2.1) (bI dd.2.2.1) kb' ks' m' w' cf.2.1 (nI a') := k1
      refine pq_call (f_settle (iq := dd.2.2.1) (oq := c.2.2.1) (b0 := c.1) (kf := c.2.2.2.1) (km := c.2.2.2.2) hC' (by omega) hst' hsr hle ((hF' _ (by omega) (by omega)).trans ho) (fun _ => ei12) k2 k3 hL) (fun y hy => ?_)
      obtain ⟨f2, rfl, s1, s2, s3, s4⟩ := hy
      have ex : ((((uOf cf L c).getD dd.1 u0).2.1, ((uOf cf L c).getD (dd.2.1 - 1) u0).2.2, c.2.2.1, decide (cf.2.1 = 1) && dd.2.2.1, decide (nI ((uOf cf L c).getD dd.1 u0).2.1 = nI c.1), c.2.2.2.1, c.2.2.2.2, (und cf.2.1 dd.2.2.1 ((uOf cf L c).map (fun x => x.1)) dd.1 dd.2.1).map (fun x => x.1), (und cf.2.1 dd.2.2.1 ((uOf cf L c).map (fun x => x.1)) dd.1 dd.2.1).map (fun x => ((uOf cf L c).getD x.2.1 u0).2.1)) : Pc) = pcI cf c (uOf cf L c) dd := by
        unfold pcI
        have e1 : (decide (cf.2.1 = 1) && dd.2.2.1) = dd.2.2.1 := by
          by_cases h1 : cf.2.1 = 1
          · rw [decide_eq_true h1]; rfl
          · rw [hdx.2.2 h1, Bool.and_false]
        have h9 := hch dd.1 (by show dd.1 < (uOf cf L c).length; omega)
        have h9a : c.1 + dd.1 ≤ ((uOf cf L c).getD dd.1 u0).2.1 := h9.1
        have h9b : ((uOf cf L c).getD dd.1 u0).2.1 < ((uOf cf L c).getD dd.1 u0).2.2 := h9.2.1
        have h9c : ((uOf cf L c).getD dd.1 u0).2.2 ≤ c.2.1 := h9.2.2.1
        have h9d : dd.1 = 0 → ((uOf cf L c).getD dd.1 u0).2.1 = c.1 := h9.2.2.2.1
        have e2 : decide (nI ((uOf cf L c).getD dd.1 u0).2.1 = nI c.1) = decide (dd.1 = 0) := by
          by_cases h0 : dd.1 = 0
          · rw [decide_eq_true h0, h9d h0]; exact decide_eq_true rfl
          · rw [decide_eq_false h0]
            refine decide_eq_false (fun x => ?_)
            have := nI_inj (by omega) (by omega) x
            omega
        rw [e1, e2]
      rw [ex] at s1 s2 s3
      have hul2 := (und_len (k := cf.2.1) (q := dd.2.2.1) (L := (uOf cf L c).map (fun x => x.1)) (b := dd.2.1) _ dd.1 (Nat.le_refl _)).1
      have hpx : (pX (pcI cf c (uOf cf L c) dd)).length ≤ dd.2.1 - dd.1 := by
        show ((und cf.2.1 dd.2.2.1 ((uOf cf L c).map (fun x => x.1)) dd.1 dd.2.1).map (fun x => x.1)).length ≤ _
        rw [List.length_map]; exact hul2
      have hgx : (pG (pcI cf c (uOf cf L c) dd)).length = (pX (pcI cf c (uOf cf L c) dd)).length := by
        show ((und cf.2.1 dd.2.2.1 ((uOf cf L c).map (fun x => x.1)) dd.1 dd.2.1).map (fun x => ((uOf cf L c).getD x.2.1 u0).2.1)).length = ((und cf.2.1 dd.2.2.1 ((uOf cf L c).map (fun x => x.1)) dd.1 dd.2.1).map (fun x => x.1)).length
        rw [List.length_map, List.length_map]
      have htk := tk_tx (cf := cf) (P := P) (x := pcI cf c (uOf cf L c) dd)
      show PQ (mX1_takeWithin_l17 d c0 (some st) (nI t + 1) f2 n) _
      rw [nI_1]
      have hW2 : WI f2 c0 (tk cf P (pcI cf c (uOf cf L c) dd)) ((uOf cf L c).map (fun x => x.1)) ((uOf cf L c).map (fun x => nI x.2.1)) (scE r (nI c.1) (nI c.2.1) (bI c.2.2.1) (nI c.2.2.2.1) (nI c.2.2.2.2) om ow okk op) := ⟨s1, s2, s3, rw_tr hM ((s4 _ (by omega)).trans (hF' _ (by omega) (by omega))) ((s4 _ (by omega)).trans (hF' _ (by omega) (by omega))), rw_tr hB ((s4 _ (by omega)).trans (hF' _ (by omega) (by omega))) ((s4 _ (by omega)).trans (hF' _ (by omega) (by omega))), ((s4 _ (by omega)).trans (hF' _ (by omega) (by omega))).trans ho⟩
      refine pq_tail (ih (t + 1) a' f2 (tk cf P (pcI cf c (uOf cf L c) dd)) _ _ _ _ _ _ _ hW2 (fun j hj => ((s4 j (by omega)).trans (hF' j (by omega) (by omega))).trans (hF0 j hj)) ((s4 _ (by omega)).trans ei12) (by rw [o3] at g3; exact g3) (by omega) g1 (tk_len hL hgx) (by omega) (by omega)) (fun y hy => ?_)
      rw [g5]
      exact hy
    · refine pq_t rfl (fin _ b' e' q' kb' ks' (nI a') rfl ?_)
      rw [g5]; rfl
end
/-! part 53e.find -/
section
/-! locks -/
def LKS (f : AH) (c0 lk : Nat) (locks : List BL) : Prop := (∃ g : Nat → Option Nat, f lk = some (.inl (2, 4, .inr (.inr g))) ∧ ∀ l, l < locks.length → ∃ j b c, g l = some j ∧ isRw f j b c (locks.getD l []) ∧ (j < c0 ∨ c0 + 56 ≤ j) ∧ (b < c0 ∨ c0 + 56 ≤ b)) ∧ locks.length ≤ 4 ∧ (lk < c0 ∨ c0 + 56 ≤ lk)
theorem LKS_tr {f f' : AH} {c0 lk : Nat} {locks : List BL} (h : LKS f c0 lk locks) (hF : ∀ j, j < c0 ∨ c0 + 56 ≤ j → f' j = f j) : LKS f' c0 lk locks := by
  obtain ⟨⟨g, h1, h2⟩, h3, h4⟩ := h
  refine ⟨⟨g, (hF _ h4).trans h1, fun l hl => ?_⟩, h3, h4⟩
  obtain ⟨j, b, c, e1, e2, e3, e4⟩ := h2 l hl
  exact ⟨j, b, c, e1, rw_tr e2 (hF _ e3) (hF _ e4), e3, e4⟩
theorem bdr_st {X : List BL} {i : Nat} (h : i < X.length) : X.drop i = X.getD i [] :: X.drop (i + 1) := by
  rw [List.drop_eq_getElem_cons h, List.getD_eq_getElem?_getD, List.getElem?_eq_getElem h]; rfl
theorem f_isLocked_l {f : AH} {n c0 st fr lk td s r rb c kf km : Nat} {k i l le : Int32} {locks : List BL} {la : Option Nat} {pn : Int32} {b e q m w kk p : Int32} {L : BL} (hst : f st = some (.inr (7, stV fr k i l le (nI locks.length) la pn lk td))) (hL : LKS f c0 lk locks) (hs : f s = scE r b e q (nI kf) (nI km) m w kk p) (hr : isRw f r rb c L) (hkk : kf + km ≤ L.length) : ∀ d t, t ≤ locks.length → PQ (mX7_isLocked_l2 d st (some s) (nI t) f n) (fun y => y = (bI ((locks.drop t).any (fun w => decide (w.length ≤ km) && smF w 0 L kf w.length)), f, n)) := by
  obtain ⟨⟨g, h1, h2⟩, h3, h4⟩ := hL
  have h6 := rw_6 hr
  intro d
  induction d with
  | zero => intro t _; exact pq_none
  | succ d ih =>
    intro t ht
    unfold mX7_isLocked_l2
    refine pq_gI hst rfl ?_
    refine pq_le (nI_toInt (by omega)) (nI_toInt (by omega)) (fun h => ?_) (fun h => ?_)
    · refine pq_ck (pq_ret ?_)
      rw [List.drop_of_length_le (by omega)]; rfl
    · have hlt : t < locks.length := by omega
      obtain ⟨j, b1, c1, e1, e2, -, -⟩ := h2 t hlt
      have h61 := rw_6 e2
      refine pq_gR hst rfl (pq_sb (pq_gL h1 (by omega) (pq_f (nI_ge (by omega) (by omega)) (pq_gR hst rfl (pq_sb ?_)))))
      refine pq_gRA h1 (fun _ => ?_)
      rw [nI_clamp (by omega), e1, bdr_st hlt, List.any_cons]
      refine pq_oNs (pq_ck (pq_is (f_size e2) (pq_sb (pq_gI hs rfl ?_))))
      refine pq_lt (nI_toInt (by omega)) (nI_toInt (by omega)) (fun q1 => ?_) (fun q1 => ?_)
      · unfold mX7_isLocked_b63
        rw [nI_1, decide_eq_false (by omega), Bool.false_and, Bool.false_or]
        exact ih (t + 1) (by omega)
      · rw [decide_eq_true (show (locks.getD t []).length ≤ km by omega), Bool.true_and]
        refine pq_gR hs rfl (pq_gI hs rfl (pq_ck (pq_is (f_size e2) (pq_ck ?_))))
        refine pq_is (f_same (a := 0) e2 hr (by omega) (by omega)) ?_
        refine pq_eq (fun q2 => ?_) (fun q2 => ?_)
        · unfold mX7_isLocked_b63
          rw [nI_1, bI_0.mp q2, Bool.false_or]
          exact ih (t + 1) (by omega)
        · refine pq_ck (pq_ret ?_)
          cases hx : smF (locks.getD t []) 0 L kf (locks.getD t []).length with
          | true => rfl
          | false => exact absurd (by show bI (smF (locks.getD t []) 0 L kf (locks.getD t []).length) = 0; rw [hx]; rfl) q2
theorem f_isLocked {f : AH} {n c0 st fr lk td s r rb c kf km : Nat} {k i l le : Int32} {locks : List BL} {la : Option Nat} {pn : Int32} {b e q m w kk p : Int32} {L : BL} (hst : f st = some (.inr (7, stV fr k i l le (nI locks.length) la pn lk td))) (hL : LKS f c0 lk locks) (hs : f s = scE r b e q (nI kf) (nI km) m w kk p) (hr : isRw f r rb c L) (hkk : kf + km ≤ L.length) : PQ (mX7_isLocked st (some s) f n) (fun y => y = (bI (locks.any (fun w => decide (w.length ≤ km) && smF w 0 L kf w.length)), f, n)) := f_isLocked_l hst hL hs hr hkk rFU 0 (Nat.zero_le _)
/-! the cut as it stands between two finds -/
def scA (v : Option AE) : Prop := ∃ r b e q kb ks m w k p, v = scE r b e q kb ks m w k p
def FI (f : AH) (c0 : Nat) (P : List Pc) : Prop := CB f c0 P ∧ isRw f (c0 + 1) (c0 + 2) 600 (txs P) ∧ isRw f (c0 + 3) (c0 + 4) 600 (ogs P) ∧ (∃ M, isRw f (c0 + 5) (c0 + 6) 600 M) ∧ (∃ B, isRw f (c0 + 7) (c0 + 8) 600 B) ∧ scA (f (c0 + 12))
theorem f_tkW {n c0 st fr lk td : Nat} {cf : CFG} {lc : Int32} {la : Option Nat} {pn : Int32} {L : BL} {c : CI} {r : Nat} {om ow okk op : Int32} {f0 f : AH} {P : List Pc} (hk : cf.2.1 = 0 ∨ cf.2.1 = 1 ∨ cf.2.1 = 2 ∨ cf.2.1 = 3) (hst : f0 st = some (.inr (7, stV fr cf.1 cf.2.1 cf.2.2.1 (nI cf.2.2.2.1) lc la pn lk td))) (hsr : st < c0 ∨ c0 + 56 ≤ st) (hle : cf.2.2.2.1 ≤ 40) (hc12 : c.1 < c.2.1) (hc6 : c.2.1 ≤ 600) (hW : WI f c0 P ((uOf cf L c).map (fun x => x.1)) ((uOf cf L c).map (fun x => nI x.2.1)) (scE r (nI c.1) (nI c.2.1) (bI c.2.2.1) (nI c.2.2.2.1) (nI c.2.2.2.2) om ow okk op)) (hF0 : ∀ j, j < c0 ∨ c0 + 56 ≤ j → f j = f0 j) (hs : scA (f (c0 + 12))) (hL : (ogs P).length = (txs P).length) (hX : (txs P).length ≤ c.1) : PQ (mX1_takeWithin c0 (some st) f n) (fun y => ∃ f' P', y = (0, f', n) ∧ P' = ((cutL cf.2.1 ((uOf cf L c).map (fun x => x.1)) 0).map (pcI cf c (uOf cf L c))).foldl (tk cf) P ∧ FI f' c0 P' ∧ f' (c0 + 9) = scE r (nI c.1) (nI c.2.1) (bI c.2.2.1) (nI c.2.2.2.1) (nI c.2.2.2.2) om ow okk op ∧ (∀ j, j < c0 ∨ c0 + 56 ≤ j → f' j = f0 j) ∧ (ogs P').length = (txs P').length ∧ (txs P').length ≤ c.2.1) := by
  obtain ⟨hC, hT, hO, hM, hB, ho⟩ := id hW
  obtain ⟨r1, b1, e1, q1, kb1, ks1, m1, w1, k1, p1, hs1⟩ := hs
  unfold mX1_takeWithin
  refine pq_gR hC.1 rfl (pq_gR hC.1 rfl (pq_sb (pq_gI ((hF0 st hsr).trans hst) rfl (pq_sb (pq_ck ?_)))))
  have st1 := f_scstart (f := f) (s := c0 + 12) (n := n) (r := r1) (b := b1) (e := e1) (q := q1) (kb := kb1) (ks := ks1) (m := m1) (w := w1) (k := k1) (p := p1) (r' := c0 + 5) (k' := cf.2.1)
  rw [u_id hs1] at st1
  refine pq_is st1 ?_
  have hW2 : WI (va_up f (c0 + 12) (scE (c0 + 5) b1 e1 0 0 0 m1 w1 cf.2.1 0)) c0 P ((uOf cf L c).map (fun x => x.1)) ((uOf cf L c).map (fun x => nI x.2.1)) (scE r (nI c.1) (nI c.2.1) (bI c.2.2.1) (nI c.2.2.2.1) (nI c.2.2.2.2) om ow okk op) := ⟨CB_tr hC (u_ne (by omega)) (fun i x1 x2 => u_ne (by omega)), rw_up hT (by omega) (by omega), rw_up hO (by omega) (by omega), rw_up hM (by omega) (by omega), rw_up hB (by omega) (by omega), (u_ne (by omega)).trans ho⟩
  refine pq_tail (f_tkW_l hk hst hsr hle hc12 hc6 rFU 0 0 _ P b1 e1 0 0 0 m1 w1 hW2 (fun j hj => (u_ne (by omega)).trans (hF0 j hj)) u_eq ⟨fun _ => rfl, fun _ => ⟨rfl, rfl⟩⟩ (Nat.le_refl _) (by omega) hL (by omega) (by omega)) (fun y hy => ?_)
  obtain ⟨f', P', b', e', q', kb', ks', m', w', p', rfl, g1, ⟨g2, g3, g4, g5, g6, g7⟩, g8, g9, g10, g11⟩ := hy
  exact ⟨f', P', rfl, g1, ⟨g2, g3, g4, ⟨_, g5⟩, ⟨_, g6⟩, ⟨_, _, _, _, _, _, _, _, _, _, g8⟩⟩, g7, g9, g10, g11⟩
theorem f_find_b82 {n c0 st fr lk td : Nat} {cf : CFG} {la : Option Nat} {pn : Int32} {L : BL} {c : CI} {r rb cc : Nat} {om ow op v3 lc : Int32} {f0 f : AH} {P : List Pc} {Q : Int32 × HpN → Prop} {rec35 : Nat → (Option Nat) → Int32 → AH → Nat → Option (Int32 × HpN)} (hk : cf.1 = 0 ∨ cf.1 = 1 ∨ cf.1 = 2 ∨ cf.1 = 3) (hki : cf.2.1 = -1 ∨ cf.2.1 = 0 ∨ cf.2.1 = 1 ∨ cf.2.1 = 2 ∨ cf.2.1 = 3) (hst : f0 st = some (.inr (7, stV fr cf.1 cf.2.1 cf.2.2.1 (nI cf.2.2.2.1) lc la pn lk td))) (hsr : st < c0 ∨ c0 + 56 ≤ st) (hle : cf.2.2.2.1 ≤ 40) (hr : isRw f0 r rb cc L) (hro : r < c0 ∨ c0 + 56 ≤ r) (hrb : rb < c0 ∨ c0 + 56 ≤ rb) (hc12 : c.1 < c.2.1) (hc6 : c.2.1 ≤ L.length) (hcq : cf.1 = 1 → c.2.2.1 = true → qe L c.1 = c.2.1) (hP : P.length < 40) (hFI : FI f c0 P) (ho : f (c0 + 9) = scE r (nI c.1) (nI c.2.1) (bI c.2.2.1) (nI c.2.2.2.1) (nI c.2.2.2.2) om ow cf.1 op) (hF0 : ∀ j, j < c0 ∨ c0 + 56 ≤ j → f j = f0 j) (hL : (ogs P).length = (txs P).length) (hX : (txs P).length ≤ c.1) (hK : ∀ f' P' m' w', P' = (pcC cf L c).foldl (tk cf) P → FI f' c0 P' → f' (c0 + 9) = scE r (nI c.1) (nI c.2.1) (bI c.2.2.1) (nI c.2.2.2.1) (nI c.2.2.2.2) m' w' cf.1 op → (∀ j, j < c0 ∨ c0 + 56 ≤ j → f' j = f0 j) → (ogs P').length = (txs P').length → (txs P').length ≤ c.2.1 → PQ (rec35 c0 (some st) (v3 + 1) f' n) Q) : PQ (mX1_find_b82 rec35 c0 (some st) v3 f n) Q := by
  have h6 := rw_6 hr
  obtain ⟨hC, hT, hO, ⟨M0, hM⟩, ⟨B0, hB⟩, hs⟩ := id hFI
  have hst' := (hF0 st hsr).trans hst
  have hr' : isRw f r rb cc L := rw_tr hr (hF0 _ hro) (hF0 _ hrb)
  have hul : (und cf.1 c.2.2.1 L c.1 c.2.1).length ≤ c.2.1 - c.1 := (und_len _ c.1 (Nat.le_refl _)).1
  unfold mX1_find_b82
  refine pq_sb (pq_gI hst' rfl ?_)
  refine pq_eq (fun q1 => ?_) (fun q1 => ?_)
  · have q1' : cf.2.1 = -1 := q1
    refine pq_gR hC.1 rfl (pq_sb (pq_ck (pq_is (f_size hT) (pq_gR hC.1 rfl (pq_gR hC.1 rfl (pq_ck ?_))))))
    refine pq_call (f_rdO (o := 1) hk (by omega) hro hrb hc6 hC.1 ho hr' hT hO (by omega) (by omega) (by omega) hcq) (fun y hy => ?_)
    obtain ⟨f1, m1, w1, rfl, g1, g2, g3, g4⟩ := hy
    have hC1 : CB f1 c0 P := CB_tr hC (g4 _ (by omega) (by omega)) (fun i x1 x2 => g4 i (by omega) (by omega))
    refine pq_gR hC1.1 rfl (pq_sb (pq_gI g1 rfl (pq_gR hC1.1 rfl (pq_sb (pq_gI g1 rfl (pq_ck ?_))))))
    have eg : (und cf.1 c.2.2.1 L c.1 c.2.1).map (fun x => nI x.2.1) = ((und cf.1 c.2.2.1 L c.1 c.2.1).map (fun x => x.2.1)).map nI := by rw [List.map_map]; rfl
    rw [eg] at g3
    refine pq_call (f_settle (iq := false) (r' := 0) (ib := 0) (ie := 0) (ik := 0) (im := 0) (mm := 0) (ww := 0) (kk' := 0) (pp' := 0) hC1 hP ((g4 st (by omega) (by omega)).trans hst') hsr hle g1 (fun x => absurd (q1'.symm.trans x) (by decide)) g2 g3 hL) (fun y hy => ?_)
    obtain ⟨f2, rfl, s1, s2, s3, s4⟩ := hy
    have ex : ((c.1, c.2.1, c.2.2.1, decide (cf.2.1 = 1) && false, decide (nI c.1 = nI c.1), c.2.2.2.1, c.2.2.2.2, (und cf.1 c.2.2.1 L c.1 c.2.1).map (fun x => x.1), (und cf.1 c.2.2.1 L c.1 c.2.1).map (fun x => x.2.1)) : Pc) = pcO cf L c := by
      unfold pcO
      rw [Bool.and_false, decide_eq_true (rfl : nI c.1 = nI c.1)]
    rw [ex] at s1 s2 s3
    have eP : tk cf P (pcO cf L c) = (pcC cf L c).foldl (tk cf) P := by unfold pcC; rw [if_pos q1']; rfl
    have hlx : (pX (pcO cf L c)).length ≤ c.2.1 - c.1 := by
      show ((und cf.1 c.2.2.1 L c.1 c.2.1).map (fun x => x.1)).length ≤ _
      rw [List.length_map]; exact hul
    have hgx : (pG (pcO cf L c)).length = (pX (pcO cf L c)).length := by
      show ((und cf.1 c.2.2.1 L c.1 c.2.1).map (fun x => x.2.1)).length = ((und cf.1 c.2.2.1 L c.1 c.2.1).map (fun x => x.1)).length
      rw [List.length_map, List.length_map]
    have htk := tk_tx (cf := cf) (P := P) (x := pcO cf L c)
    have e5 : ∀ j, c0 + 5 ≤ j → j ≤ c0 + 14 → j ≠ c0 + 9 → f2 j = f j := fun j x1 x2 x3 => (s4 j (by omega)).trans (g4 j x3 (by omega))
    unfold mX1_find_b168
    refine hK f2 _ m1 w1 eP ⟨s1, s2, s3, ⟨M0, rw_tr hM (e5 _ (by omega) (by omega) (by omega)) (e5 _ (by omega) (by omega) (by omega))⟩, ⟨B0, rw_tr hB (e5 _ (by omega) (by omega) (by omega)) (e5 _ (by omega) (by omega) (by omega))⟩, ?_⟩ ((s4 _ (by omega)).trans g1) (fun j hj => ((s4 j (by omega)).trans (g4 j (by omega) (by omega))).trans (hF0 j hj)) (tk_len hL hgx) (by omega)
    rw [e5 _ (by omega) (by omega) (by omega)]; exact hs
  · have hki' : cf.2.1 = 0 ∨ cf.2.1 = 1 ∨ cf.2.1 = 2 ∨ cf.2.1 = 3 := hki.elim (fun h => absurd h q1) id
    refine pq_gR hC.1 rfl (pq_sb (pq_ck ?_))
    refine pq_call (f_cutTo hM (m := 0) (by omega)) (fun y hy => ?_)
    obtain ⟨f1, rfl, hM1, hF1⟩ := hy
    have hC1 : CB f1 c0 P := CB_tr hC (hF1 _ (by omega)) (fun i x1 x2 => hF1 i (by omega))
    refine pq_gR hC1.1 rfl (pq_sb (pq_ck ?_))
    have hB1 : isRw f1 (c0 + 7) (c0 + 8) 600 B0 := rw_tr hB (hF1 _ (by omega)) (hF1 _ (by omega))
    refine pq_call (f_cutTo hB1 (m := 0) (by omega)) (fun y hy => ?_)
    obtain ⟨f2, rfl, hB2, hF2⟩ := hy
    have e12 : ∀ j, j ≠ c0 + 5 → j ≠ c0 + 7 → f2 j = f j := fun j x1 x2 => (hF2 j x2).trans (hF1 j x1)
    have hC2 : CB f2 c0 P := CB_tr hC (e12 _ (by omega) (by omega)) (fun i x1 x2 => e12 i (by omega) (by omega))
    have hM2 : isRw f2 (c0 + 5) (c0 + 6) 600 (M0.take 0) := rw_tr hM1 (hF2 _ (by omega)) (hF2 _ (by omega))
    refine pq_gR hC2.1 rfl (pq_gR hC2.1 rfl (pq_ck ?_))
    refine pq_call (f_rdO (o := 5) (A := M0.take 0) (Bs := B0.take 0) hk (by omega) hro hrb hc6 hC2.1 ((e12 _ (by omega) (by omega)).trans ho) (rw_tr hr' (e12 _ (by omega) (by omega)) (e12 _ (by omega) (by omega))) hM2 hB2 (by omega) (by rw [List.take_zero]; show 0 + _ ≤ 600; omega) (by rw [List.take_zero]; show 0 + _ ≤ 600; omega) hcq) (fun y hy => ?_)
    obtain ⟨f3, m1, w1, rfl, g1, g2, g3, g4⟩ := hy
    rw [List.take_zero, List.nil_append] at g2 g3
    have e3 : ∀ j, j ≠ c0 + 9 → (j < c0 + 5 ∨ c0 + 8 < j) → f3 j = f j := fun j x1 x2 => (g4 j x1 (by omega)).trans (e12 j (by omega) (by omega))
    refine pq_ck ?_
    have hW : WI f3 c0 P ((uOf cf L c).map (fun x => x.1)) ((uOf cf L c).map (fun x => nI x.2.1)) (scE r (nI c.1) (nI c.2.1) (bI c.2.2.1) (nI c.2.2.2.1) (nI c.2.2.2.2) m1 w1 cf.1 op) := ⟨CB_tr hC (e3 _ (by omega) (by omega)) (fun i x1 x2 => e3 i (by omega) (by omega)), rw_tr hT (e3 _ (by omega) (by omega)) (e3 _ (by omega) (by omega)), rw_tr hO (e3 _ (by omega) (by omega)) (e3 _ (by omega) (by omega)), g2, g3, g1⟩
    refine pq_call (f_tkW hki' hst hsr hle hc12 (by omega) hW (fun j hj => (e3 j (by omega) (by omega)).trans (hF0 j hj)) (by show scA (f3 (c0 + 12)); rw [e3 _ (by omega) (by omega)]; exact hs) hL hX) (fun y hy => ?_)
    obtain ⟨f4, P', rfl, s1, s2, s3, s4, s5, s6⟩ := hy
    unfold mX1_find_b168
    exact hK f4 P' m1 w1 (by rw [s1]; unfold pcC; rw [if_neg q1]) s2 s3 s4 s5 s6
end
/-! part 53f.find -/
section
theorem f_find_l {n c0 st fr lk td : Nat} {cf : CFG} {la : Option Nat} {pn : Int32} {L : BL} {r rb cc : Nat} {f0 : AH} (hk : cf.1 = 0 ∨ cf.1 = 1 ∨ cf.1 = 2 ∨ cf.1 = 3) (hki : cf.2.1 = -1 ∨ cf.2.1 = 0 ∨ cf.2.1 = 1 ∨ cf.2.1 = 2 ∨ cf.2.1 = 3) (hst : f0 st = some (.inr (7, stV fr cf.1 cf.2.1 cf.2.2.1 (nI cf.2.2.2.1) (nI cf.2.2.2.2.length) la pn lk td))) (hsr : st < c0 ∨ c0 + 56 ≤ st) (hle : cf.2.2.2.1 ≤ 40) (hLk : LKS f0 c0 lk cf.2.2.2.2) (hr : isRw f0 r rb cc L) (hro : r < c0 ∨ c0 + 56 ≤ r) (hrb : rb < c0 ∨ c0 + 56 ≤ rb) : ∀ (d t a : Nat) (f : AH) (P : List Pc) (b e q kb ks m w : Int32), FI f c0 P → f (c0 + 9) = scE r b e q kb ks m w cf.1 (nI a) → (∀ j, j < c0 ∨ c0 + 56 ≤ j → f j = f0 j) → SI cf.1 q kb ks → t ≤ a → a ≤ 601 → (ogs P).length = (txs P).length → (txs P).length ≤ a → PQ (mX1_find_l35 d c0 (some st) (nI t) f n) (fun y => ∃ f' P', y = (0, f', n) ∧ P' = (cutL cf.1 L a).foldl (tkC cf L) P ∧ FI f' c0 P' ∧ scA (f' (c0 + 9)) ∧ (∀ j, j < c0 ∨ c0 + 56 ≤ j → f' j = f0 j) ∧ (ogs P').length = (txs P').length) := by
  intro d
  induction d with
  | zero => intro t a f P b e q kb ks m w _ _ _ _ _ _ _ _; exact pq_none
  | succ d ih =>
    intro t a f P b e q kb ks m w hFI hs hF0 hS hta ha6 hL hX
    obtain ⟨hC, hT, hO, hM, hB, hi⟩ := id hFI
    obtain ⟨a1, ⟨gg, a2, a2'⟩, a3, a4, a5⟩ := id hC
    have h6 := rw_6 hr
    have hr' : isRw f r rb cc L := rw_tr hr (hF0 _ hro) (hF0 _ hrb)
    have hFu : ∀ X, FI (va_up f (c0 + 9) X) c0 P := fun X => by
      obtain ⟨M0, hM0⟩ := hM
      obtain ⟨B0, hB0⟩ := hB
      exact ⟨CB_tr hC (u_ne (by omega)) (fun i x1 x2 => u_ne (by omega)), rw_up hT (by omega) (by omega), rw_up hO (by omega) (by omega), ⟨M0, rw_up hM0 (by omega) (by omega)⟩, ⟨B0, rw_up hB0 (by omega) (by omega)⟩, by rw [u_ne (by omega)]; exact hi⟩
    have fin : ∀ f' b' e' q' kb' ks' p', f' = va_up f (c0 + 9) (scE r b' e' q' kb' ks' m w cf.1 p') → (cutL cf.1 L a).foldl (tkC cf L) P = P → PQ (mX1_find_b174 f' n) (fun y => ∃ f' P', y = (0, f', n) ∧ P' = (cutL cf.1 L a).foldl (tkC cf L) P ∧ FI f' c0 P' ∧ scA (f' (c0 + 9)) ∧ (∀ j, j < c0 ∨ c0 + 56 ≤ j → f' j = f0 j) ∧ (ogs P').length = (txs P').length) := by
      intro f' b' e' q' kb' ks' p' ef eP
      subst ef
      rw [eP]
      exact pq_ret ⟨_, P, rfl, rfl, hFu _, ⟨_, _, _, _, _, _, _, _, _, _, u_eq⟩, fun j hj => (u_ne (by omega)).trans (hF0 j hj), hL⟩
    have hfs : f = va_up f (c0 + 9) (scE r b e q kb ks m w cf.1 (nI a)) := (u_id hs).symm
    unfold mX1_find_l35
    refine pq_lt kt_600 (nI_toInt (by omega)) (fun h => fin f b e q kb ks _ hfs ?_) (fun h => ?_)
    · rw [cutL_end (by omega)]; rfl
    refine pq_gI a1 rfl (pq_gR a1 rfl (pq_sb (pq_gL a2 (by omega) ?_)))
    refine pq_le (nI_toInt (by omega)) (nI_toInt (by omega)) (fun h2 => fin f b e q kb ks _ hfs (tkC_full (by omega) _)) (fun h2 => ?_)
    refine pq_gR a1 rfl (pq_sb (pq_ck ?_))
    have nxt := f_scnext (n := n) (m := m) (w := w) (b := b) (e := e) (s := c0 + 9) hr' (by omega) (by omega) hk ha6 hS
    rw [← hfs] at nxt
    refine pq_call nxt (fun y hy => ?_)
    obtain ⟨b', e', q', kb', ks', a', g1, g2, g3, g4⟩ := hy
    rcases g4 with ⟨rfl, c, g5, g6, g7⟩ | ⟨rfl, g5⟩
    · refine pq_f (show ¬ (1 : Int32) = 0 by decide) ?_
      have hdm : c ∈ cutL cf.1 L a := by rw [g5]; exact List.mem_cons_self
      have hdb := cutL_b _ a (Nat.le_refl _) c hdm
      have hdx := cutL_x _ a (Nat.le_refl _) c hdm
      obtain ⟨o1, o2, o3, o4, o5⟩ := g6
      rw [o3, o4, o5] at g3
      rw [o1, o2, o3, o4, o5, g5]
      have hF1 : ∀ j, j < c0 ∨ c0 + 56 ≤ j → va_up f (c0 + 9) (scE r (nI c.1) (nI c.2.1) (bI c.2.2.1) (nI c.2.2.2.1) (nI c.2.2.2.2) m w cf.1 (nI a')) j = f0 j := fun j hj => (u_ne (by omega)).trans (hF0 j hj)
      have hst1 := (hF1 st hsr).trans hst
      refine pq_sb (pq_gI hst1 rfl ?_)
      have b82 : lkd cf L c = false → PQ (mX1_find_b82 (fun v0 v2 v3 f n => mX1_find_l35 d v0 v2 v3 f n) c0 (some st) (nI t) (va_up f (c0 + 9) (scE r (nI c.1) (nI c.2.1) (bI c.2.2.1) (nI c.2.2.2.1) (nI c.2.2.2.2) m w cf.1 (nI a'))) n) (fun y => ∃ f' P', y = (0, f', n) ∧ P' = (c :: cutL cf.1 L a').foldl (tkC cf L) P ∧ FI f' c0 P' ∧ scA (f' (c0 + 9)) ∧ (∀ j, j < c0 ∨ c0 + 56 ≤ j → f' j = f0 j) ∧ (ogs P').length = (txs P').length) := by
        intro hlk
        refine f_find_b82 hk hki hst hsr hle hr hro hrb hdb.2.1 hdb.2.2 hdx.2.1 (by omega) (hFu _) u_eq hF1 hL (by omega) (fun f' P' m' w' k1 k2 k3 k4 k5 k6 => ?_)
        show PQ (mX1_find_l35 d c0 (some st) (nI t + 1) f' n) _
        rw [nI_1]
        refine pq_tail (ih (t + 1) a' f' P' _ _ _ _ _ _ _ k2 k3 k4 g3 (by omega) g1 k5 (by omega)) (fun y hy => ?_)
        rw [k1] at hy
        have e9 : (c :: cutL cf.1 L a').foldl (tkC cf L) P = (cutL cf.1 L a').foldl (tkC cf L) ((pcC cf L c).foldl (tk cf) P) := by
          rw [List.foldl_cons]
          unfold tkC
          rw [if_neg (by rw [hlk]; decide)]
        rw [e9]; exact hy
      refine pq_eq (fun q1 => ?_) (fun q1 => ?_)
      · have q1' : cf.1 = 0 := q1
        refine pq_gR ((hFu _).1.1) rfl (pq_ck ?_)
        refine pq_is (f_isLocked hst1 (LKS_tr hLk hF1) u_eq (rw_up hr' (by omega) (by omega)) hdx.1) ?_
        refine pq_eq (fun q2 => b82 ?_) (fun q2 => ?_)
        · unfold lkd
          rw [bI_0.mp q2, Bool.and_false]
        · unfold mX1_find_b168
          have hlk : lkd cf L c = true := by
            unfold lkd
            rw [decide_eq_true q1', Bool.true_and]
            cases hx : cf.2.2.2.2.any (fun w => decide (w.length ≤ c.2.2.2.2) && smF w 0 L c.2.2.2.1 w.length) with
            | true => rfl
            | false => exact absurd (by show bI (cf.2.2.2.2.any (fun w => decide (w.length ≤ c.2.2.2.2) && smF w 0 L c.2.2.2.1 w.length)) = 0; rw [hx]; rfl) q2
          show PQ (mX1_find_l35 d c0 (some st) (nI t + 1) _ n) _
          rw [nI_1]
          refine pq_tail (ih (t + 1) a' _ P _ _ _ _ _ _ _ (hFu _) u_eq hF1 g3 (by omega) g1 hL (by omega)) (fun y hy => ?_)
          have e9 : (c :: cutL cf.1 L a').foldl (tkC cf L) P = (cutL cf.1 L a').foldl (tkC cf L) P := by
            rw [List.foldl_cons]
            have : tkC cf L P c = P := by unfold tkC; rw [if_pos hlk]
            rw [this]
          rw [e9]; exact hy
      · refine b82 ?_
        unfold lkd
        rw [decide_eq_false q1, Bool.false_and]
    · refine pq_t rfl (fin _ b' e' q' kb' ks' (nI a') rfl ?_)
      rw [g5]; rfl
/-- the cut's region has its shape -/
def CSh (f : AH) (c0 : Nat) : Prop := (∃ mn, f c0 = some (.inr (1, cuL c0 mn))) ∧ (∃ T, isRw f (c0 + 1) (c0 + 2) 600 T) ∧ (∃ O, isRw f (c0 + 3) (c0 + 4) 600 O) ∧ (∃ M, isRw f (c0 + 5) (c0 + 6) 600 M) ∧ (∃ B, isRw f (c0 + 7) (c0 + 8) 600 B) ∧ scA (f (c0 + 9)) ∧ scA (f (c0 + 12)) ∧ (∃ g : Nat → Option Nat, f (c0 + 15) = some (.inl (1, 40, .inr (.inr g))) ∧ ∀ i, i < 40 → g i = some (c0 + 16 + i)) ∧ (∀ i, i < 40 → okP (f (c0 + 16 + i)))
/-- the cut holds these pieces -/
def CUT (f : AH) (c0 : Nat) (P : List Pc) : Prop := FI f c0 P ∧ scA (f (c0 + 9)) ∧ (ogs P).length = (txs P).length
theorem CUT_sh {f : AH} {c0 : Nat} {P : List Pc} (h : CUT f c0 P) : CSh f c0 := by
  obtain ⟨⟨⟨a1, a2, a3, a4, a5⟩, h2, h3, h4, h5, h6⟩, h7, -⟩ := h
  exact ⟨⟨_, a1⟩, ⟨_, h2⟩, ⟨_, h3⟩, h4, h5, h7, h6, a2, a3⟩
theorem CUT_tr {f f' : AH} {c0 : Nat} {P : List Pc} (h : CUT f c0 P) (hF : ∀ i, c0 ≤ i → i < c0 + 56 → f' i = f i) : CUT f' c0 P := by
  obtain ⟨⟨h1, h2, h3, ⟨M, h4⟩, ⟨B, h5⟩, h6⟩, h7, h8⟩ := h
  refine ⟨⟨CB_tr h1 (hF _ (by omega) (by omega)) (fun i x1 x2 => hF i (by omega) x2), rw_tr h2 (hF _ (by omega) (by omega)) (hF _ (by omega) (by omega)), rw_tr h3 (hF _ (by omega) (by omega)) (hF _ (by omega) (by omega)), ⟨M, rw_tr h4 (hF _ (by omega) (by omega)) (hF _ (by omega) (by omega))⟩, ⟨B, rw_tr h5 (hF _ (by omega) (by omega)) (hF _ (by omega) (by omega))⟩, ?_⟩, ?_, h8⟩
  · rw [hF _ (by omega) (by omega)]; exact h6
  · rw [hF _ (by omega) (by omega)]; exact h7
theorem CSh_tr {f f' : AH} {c0 : Nat} (h : CSh f c0) (hF : ∀ i, c0 ≤ i → i < c0 + 56 → f' i = f i) : CSh f' c0 := by
  obtain ⟨⟨mn, h1⟩, ⟨T, h2⟩, ⟨O, h3⟩, ⟨M, h4⟩, ⟨B, h5⟩, h6, h7, h8, h9⟩ := h
  refine ⟨⟨mn, (hF _ (by omega) (by omega)).trans h1⟩, ⟨T, rw_tr h2 (hF _ (by omega) (by omega)) (hF _ (by omega) (by omega))⟩, ⟨O, rw_tr h3 (hF _ (by omega) (by omega)) (hF _ (by omega) (by omega))⟩, ⟨M, rw_tr h4 (hF _ (by omega) (by omega)) (hF _ (by omega) (by omega))⟩, ⟨B, rw_tr h5 (hF _ (by omega) (by omega)) (hF _ (by omega) (by omega))⟩, ?_, ?_, ?_, fun i hi => ?_⟩
  · rw [hF _ (by omega) (by omega)]; exact h6
  · rw [hF _ (by omega) (by omega)]; exact h7
  · rw [hF _ (by omega) (by omega)]; exact h8
  · rw [hF _ (by omega) (by omega)]; exact h9 i hi
theorem f_find {n c0 st fr lk td : Nat} {cf : CFG} {la : Option Nat} {pn : Int32} {L : BL} {r rb cc : Nat} {f : AH} (hk : cf.1 = 0 ∨ cf.1 = 1 ∨ cf.1 = 2 ∨ cf.1 = 3) (hki : cf.2.1 = -1 ∨ cf.2.1 = 0 ∨ cf.2.1 = 1 ∨ cf.2.1 = 2 ∨ cf.2.1 = 3) (hst : f st = some (.inr (7, stV fr cf.1 cf.2.1 cf.2.2.1 (nI cf.2.2.2.1) (nI cf.2.2.2.2.length) la pn lk td))) (hsr : st < c0 ∨ c0 + 56 ≤ st) (hle : cf.2.2.2.1 ≤ 40) (hLk : LKS f c0 lk cf.2.2.2.2) (hr : isRw f r rb cc L) (hro : r < c0 ∨ c0 + 56 ≤ r) (hrb : rb < c0 ∨ c0 + 56 ≤ rb) (hS : CSh f c0) : PQ (mX1_find c0 (some r) (some st) f n) (fun y => ∃ f', y = (0, f', n) ∧ CUT f' c0 (pcs cf L) ∧ ∀ j, j < c0 ∨ c0 + 56 ≤ j → f' j = f j) := by
  obtain ⟨⟨mn, h1⟩, ⟨T, h2⟩, ⟨O, h3⟩, ⟨M, h4⟩, ⟨B, h5⟩, h6, h7, h8, h9⟩ := hS
  unfold mX1_find
  refine pq_pO h1 rfl ?_
  have c1 : va_up f c0 (some (.inr (1, (cuL c0 mn).set 3 (.int 0)))) c0 = some (.inr (1, cuL c0 0)) := u_eq
  refine pq_gR c1 rfl (pq_sb (pq_ck ?_))
  refine pq_call (f_cutTo (rw_up h2 (by omega) (by omega)) (m := 0) (by omega)) (fun y hy => ?_)
  obtain ⟨f1, rfl, hT1, hF1⟩ := hy
  have c2 : f1 c0 = some (.inr (1, cuL c0 0)) := (hF1 _ (by omega)).trans c1
  refine pq_gR c2 rfl (pq_sb (pq_ck ?_))
  have hO1 : isRw f1 (c0 + 3) (c0 + 4) 600 O := rw_tr (rw_up h3 (by omega) (by omega)) (hF1 _ (by omega)) (hF1 _ (by omega))
  refine pq_call (f_cutTo hO1 (m := 0) (by omega)) (fun y hy => ?_)
  obtain ⟨f2, rfl, hO2, hF2⟩ := hy
  have e2 : ∀ j, j ≠ c0 → j ≠ c0 + 1 → j ≠ c0 + 3 → f2 j = f j := fun j x0 x1 x2 => ((hF2 j x2).trans (hF1 j x1)).trans (u_ne x0)
  have c3 : f2 c0 = some (.inr (1, cuL c0 0)) := (hF2 _ (by omega)).trans c2
  refine pq_gR c3 rfl (pq_sb (pq_gI ((e2 st (by omega) (by omega) (by omega)).trans hst) rfl (pq_sb (pq_ck ?_))))
  obtain ⟨r1, b1, e1, q1, kb1, ks1, m1, w1, k1, p1, hs1⟩ := h6
  have hs2 : f2 (c0 + 9) = scE r1 b1 e1 q1 kb1 ks1 m1 w1 k1 p1 := (e2 _ (by omega) (by omega) (by omega)).trans hs1
  have st1 := f_scstart (f := f2) (s := c0 + 9) (n := n) (r := r1) (b := b1) (e := e1) (q := q1) (kb := kb1) (ks := ks1) (m := m1) (w := w1) (k := k1) (p := p1) (r' := r) (k' := cf.1)
  rw [u_id hs2] at st1
  refine pq_is st1 ?_
  have hF3 : ∀ j, j < c0 ∨ c0 + 56 ≤ j → va_up f2 (c0 + 9) (scE r b1 e1 0 0 0 m1 w1 cf.1 0) j = f j := fun j hj => (u_ne (by omega)).trans (e2 j (by omega) (by omega) (by omega))
  have e3 : ∀ j, j ≠ c0 → j ≠ c0 + 1 → j ≠ c0 + 3 → j ≠ c0 + 9 → va_up f2 (c0 + 9) (scE r b1 e1 0 0 0 m1 w1 cf.1 0) j = f j := fun j x0 x1 x2 x3 => (u_ne x3).trans (e2 j x0 x1 x2)
  have hFI : FI (va_up f2 (c0 + 9) (scE r b1 e1 0 0 0 m1 w1 cf.1 0)) c0 [] := by
    refine ⟨⟨(u_ne (by omega)).trans c3, ?_, fun i hi => ?_, fun i hi => absurd hi (Nat.not_lt_zero _), by decide⟩, ?_, ?_, ⟨M, ?_⟩, ⟨B, ?_⟩, ?_⟩
    · rw [e3 _ (by omega) (by omega) (by omega) (by omega)]; exact h8
    · rw [e3 _ (by omega) (by omega) (by omega) (by omega)]; exact h9 i hi
    · exact rw_up (rw_tr hT1 (hF2 _ (by omega)) (hF2 _ (by omega))) (by omega) (by omega)
    · exact rw_up hO2 (by omega) (by omega)
    · exact rw_tr h4 (e3 _ (by omega) (by omega) (by omega) (by omega)) (e3 _ (by omega) (by omega) (by omega) (by omega))
    · exact rw_tr h5 (e3 _ (by omega) (by omega) (by omega) (by omega)) (e3 _ (by omega) (by omega) (by omega) (by omega))
    · rw [e3 _ (by omega) (by omega) (by omega) (by omega)]; exact h7
  refine pq_tail (f_find_l hk hki hst hsr hle hLk hr hro hrb rFU 0 0 _ [] b1 e1 0 0 0 m1 w1 hFI u_eq hF3 ⟨fun _ => rfl, fun _ => ⟨rfl, rfl⟩⟩ (Nat.le_refl _) (by omega) rfl (Nat.zero_le _)) (fun y hy => ?_)
  obtain ⟨f', P', rfl, g1, g2, g3, g4, g5⟩ := hy
  have e9 : P' = pcs cf L := g1
  rw [e9] at g2 g5
  exact ⟨f', rfl, ⟨g2, g3, g5⟩, g4⟩
end
/-! part 54a.esc -/
section
/-! escapes -/
def escC (k : Int32) (fi : Bool) (c : Int32) : BL := if k = 0 then (if c = 10 then [92, 110] else if c = 9 then [92, 116] else if c = 92 then [92, 92] else if c = 32 ∧ fi = true then [92, 32] else [c]) else if k = 1 then (if c = 34 then [34, 34] else [c]) else if k = 2 then (if c = 60 then [38, 108, 116, 59] else if c = 62 then [38, 103, 116, 59] else if c = 38 then [38, 97, 109, 112, 59] else [c]) else if k = 3 then (if c = 10 then [92, 110] else if c = 9 then [92, 116] else if c = 92 then [92, 92] else if c = 34 then [92, 34] else [c]) else [c]
def escL (k : Int32) (fi : Bool) : BL → BL
  | [] => []
  | c :: t => escC k fi c ++ escL k false t
def esc (k : Int32) (q fi : Bool) (t : BL) : BL := if k = 1 then (if q = true then escL 1 fi t else if sg t = true then 34 :: (escL 1 fi t ++ [34]) else t) else escL k fi t
def mid (cf : CFG) (iq : Bool) (t : BL) : BL := if cf.2.1 = -1 then t else esc cf.2.1 iq true t
/-- what is told for a piece, in the file; none: it cannot be -/
def escFor (cf : CFG) (x : Pc) (t : BL) : Option BL := if cf.2.1 ≠ -1 ∧ cf.1 = 1 ∧ x.2.2.1 = false ∧ sg (mid cf x.2.2.2.1 t) = true then none else some (esc cf.1 x.2.2.1 x.2.2.2.2.1 (mid cf x.2.2.2.1 t))
/-! how long they get -/
def wc (k c : Int32) : Nat := if k = 0 then (if c = 10 ∨ c = 9 ∨ c = 92 ∨ c = 32 then 2 else 1) else if k = 1 then (if c = 34 then 2 else 1) else if k = 2 then (if c = 60 ∨ c = 62 then 4 else if c = 38 then 5 else 1) else if k = 3 then (if c = 10 ∨ c = 9 ∨ c = 92 ∨ c = 34 then 2 else 1) else 1
def sW (k : Int32) : BL → Nat
  | [] => 0
  | c :: t => wc k c + sW k t
theorem sW_app {k : Int32} {a b : BL} : sW k (a ++ b) = sW k a + sW k b := by
  induction a with
  | nil => show sW k b = 0 + sW k b; omega
  | cons c a ih => show wc k c + sW k (a ++ b) = wc k c + sW k a + sW k b; rw [ih]; omega
theorem escC_len {k c : Int32} {fi : Bool} : (escC k fi c).length ≤ wc k c := by
  unfold escC wc
  by_cases k0 : k = 0
  · rw [if_pos k0, if_pos k0]
    by_cases c1 : c = 10
    · rw [if_pos c1, if_pos (Or.inl c1)]; decide
    · rw [if_neg c1]
      by_cases c2 : c = 9
      · rw [if_pos c2, if_pos (Or.inr (Or.inl c2))]; decide
      · rw [if_neg c2]
        by_cases c3 : c = 92
        · rw [if_pos c3, if_pos (Or.inr (Or.inr (Or.inl c3)))]; decide
        · rw [if_neg c3]
          by_cases c4 : c = 32
          · rw [if_pos (Or.inr (Or.inr (Or.inr c4)))]
            split
            · decide
            · exact Nat.le_succ _
          · rw [if_neg (fun x => c4 x.1)]
            split
            · exact Nat.le_succ _
            · exact Nat.le_refl _
  · rw [if_neg k0, if_neg k0]
    by_cases k1 : k = 1
    · rw [if_pos k1, if_pos k1]
      split
      · decide
      · exact Nat.le_refl _
    · rw [if_neg k1, if_neg k1]
      by_cases k2 : k = 2
      · rw [if_pos k2, if_pos k2]
        by_cases c1 : c = 60
        · rw [if_pos c1, if_pos (Or.inl c1)]; decide
        · rw [if_neg c1]
          by_cases c2 : c = 62
          · rw [if_pos c2, if_pos (Or.inr c2)]; decide
          · rw [if_neg c2, if_neg (show ¬ (c = 60 ∨ c = 62) from fun x => x.elim c1 c2)]
            split
            · decide
            · exact Nat.le_refl _
      · rw [if_neg k2, if_neg k2]
        by_cases k3 : k = 3
        · rw [if_pos k3, if_pos k3]
          by_cases c1 : c = 10
          · rw [if_pos c1, if_pos (Or.inl c1)]; decide
          · rw [if_neg c1]
            by_cases c2 : c = 9
            · rw [if_pos c2, if_pos (Or.inr (Or.inl c2))]; decide
            · rw [if_neg c2]
              by_cases c3 : c = 92
              · rw [if_pos c3, if_pos (Or.inr (Or.inr (Or.inl c3)))]; decide
              · rw [if_neg c3]
                by_cases c4 : c = 34
                · rw [if_pos c4, if_pos (Or.inr (Or.inr (Or.inr c4)))]; decide
                · rw [if_neg c4]
                  split
                  · exact Nat.le_succ _
                  · exact Nat.le_refl _
        · rw [if_neg k3, if_neg k3]; exact Nat.le_refl _
theorem escL_len {k : Int32} : ∀ {fi : Bool} {t : BL}, (escL k fi t).length ≤ sW k t := by
  intro fi t
  induction t generalizing fi with
  | nil => exact Nat.le_refl _
  | cons c t ih =>
    show (escC k fi c ++ escL k false t).length ≤ wc k c + sW k t
    rw [List.length_append]
    have h1 := escC_len (k := k) (c := c) (fi := fi)
    have h2 := ih (fi := false)
    omega
theorem wc_5 {k c : Int32} : wc k c ≤ 5 := by
  unfold wc
  (repeat' split) <;> omega
theorem wc_2 {k c : Int32} (h : k ≠ 2) : wc k c ≤ 2 := by
  unfold wc
  rw [if_neg h]
  (repeat' split) <;> omega
theorem wc_34 {k : Int32} : wc k 34 ≤ 2 := by
  unfold wc
  split
  · split <;> omega
  · split
    · split <;> omega
    · split
      · rw [if_neg (by decide), if_neg (by decide)]; omega
      · split
        · split <;> omega
        · omega
theorem wc_1 {k c : Int32} (h : c ≠ 10 ∧ c ≠ 9 ∧ c ≠ 92 ∧ c ≠ 32 ∧ c ≠ 34 ∧ c ≠ 60 ∧ c ≠ 62 ∧ c ≠ 38) : wc k c = 1 := by
  obtain ⟨h1, h2, h3, h4, h5, h6, h7, h8⟩ := h
  have a : ¬ (c = 10 ∨ c = 9 ∨ c = 92 ∨ c = 32) := fun x => x.elim h1 (fun x => x.elim h2 (fun x => x.elim h3 h4))
  have b : ¬ (c = 60 ∨ c = 62) := fun x => x.elim h6 h7
  have d : ¬ (c = 10 ∨ c = 9 ∨ c = 92 ∨ c = 34) := fun x => x.elim h1 (fun x => x.elim h2 (fun x => x.elim h3 h5))
  unfold wc
  rw [if_neg a, if_neg h5, if_neg b, if_neg h8, if_neg d]
  (repeat' split) <;> rfl
theorem escC_w {k1 k2 c : Int32} {fi : Bool} : sW k2 (escC k1 fi c) ≤ 9 ∧ (k1 ≠ 2 → sW k2 (escC k1 fi c) ≤ 5) ∧ (k2 ≠ 2 → sW k2 (escC k1 fi c) ≤ 6) := by
  have one : sW k2 [c] ≤ 9 ∧ (k1 ≠ 2 → sW k2 [c] ≤ 5) ∧ (k2 ≠ 2 → sW k2 [c] ≤ 6) := by
    have := wc_5 (k := k2) (c := c)
    have e : sW k2 [c] = wc k2 c := Nat.add_zero _
    rw [e]; omega
  have h92 : wc k2 92 ≤ 2 := by
    unfold wc
    split
    · split <;> omega
    · split
      · split <;> omega
      · split
        · rw [if_neg (by decide), if_neg (by decide)]; omega
        · split
          · split <;> omega
          · omega
  have two : ∀ x : Int32, wc k2 x ≤ 2 → sW k2 [92, x] ≤ 9 ∧ (k1 ≠ 2 → sW k2 [92, x] ≤ 5) ∧ (k2 ≠ 2 → sW k2 [92, x] ≤ 6) := by
    intro x hx
    have e : sW k2 [92, x] = wc k2 92 + (wc k2 x + 0) := rfl
    rw [e]; omega
  have h110 : wc k2 110 ≤ 2 := by rw [wc_1 (by decide)]; omega
  have h116 : wc k2 116 ≤ 2 := by rw [wc_1 (by decide)]; omega
  have h32 : wc k2 32 ≤ 2 := by
    unfold wc
    split
    · split <;> omega
    · split
      · split <;> omega
      · split
        · rw [if_neg (by decide), if_neg (by decide)]; omega
        · split
          · split <;> omega
          · omega
  have h38 := wc_5 (k := k2) (c := 38)
  have h38b : k2 ≠ 2 → wc k2 38 ≤ 2 := fun h => wc_2 h
  unfold escC
  split
  · split
    · exact two _ h110
    · split
      · exact two _ h116
      · split
        · exact two _ h92
        · split
          · exact two _ h32
          · exact one
  · split
    · split
      · have e : sW k2 [34, 34] = wc k2 34 + (wc k2 34 + 0) := rfl
        have := wc_34 (k := k2)
        rw [e]; omega
      · exact one
    · split
      · rename_i hk
        have n2 : ∀ p : Prop, (k1 ≠ 2 → p) := fun p h => absurd hk h
        split
        · have e : sW k2 [38, 108, 116, 59] = wc k2 38 + (wc k2 108 + (wc k2 116 + (wc k2 59 + 0))) := rfl
          rw [e, wc_1 (c := 108) (by decide), wc_1 (c := 116) (by decide), wc_1 (c := 59) (by decide)]
          exact ⟨by omega, n2 _, fun h => by have := h38b h; omega⟩
        · split
          · have e : sW k2 [38, 103, 116, 59] = wc k2 38 + (wc k2 103 + (wc k2 116 + (wc k2 59 + 0))) := rfl
            rw [e, wc_1 (c := 103) (by decide), wc_1 (c := 116) (by decide), wc_1 (c := 59) (by decide)]
            exact ⟨by omega, n2 _, fun h => by have := h38b h; omega⟩
          · split
            · have e : sW k2 [38, 97, 109, 112, 59] = wc k2 38 + (wc k2 97 + (wc k2 109 + (wc k2 112 + (wc k2 59 + 0)))) := rfl
              rw [e, wc_1 (c := 97) (by decide), wc_1 (c := 109) (by decide), wc_1 (c := 112) (by decide), wc_1 (c := 59) (by decide)]
              exact ⟨by omega, n2 _, fun h => by have := h38b h; omega⟩
            · exact one
      · split
        · split
          · exact two _ h110
          · split
            · exact two _ h116
            · split
              · exact two _ h92
              · split
                · exact two _ (wc_34)
                · exact one
        · exact one
theorem escL_w {k1 k2 : Int32} : ∀ {fi : Bool} {t : BL}, sW k2 (escL k1 fi t) ≤ 9 * t.length ∧ (k1 ≠ 2 → sW k2 (escL k1 fi t) ≤ 5 * t.length) ∧ (k2 ≠ 2 → sW k2 (escL k1 fi t) ≤ 6 * t.length) := by
  intro fi t
  induction t generalizing fi with
  | nil => exact ⟨Nat.le_refl _, fun _ => Nat.le_refl _, fun _ => Nat.le_refl _⟩
  | cons c t ih =>
    have h1 := escC_w (k1 := k1) (k2 := k2) (c := c) (fi := fi)
    have h2 := ih (fi := false)
    have e : sW k2 (escL k1 fi (c :: t)) = sW k2 (escC k1 fi c) + sW k2 (escL k1 false t) := sW_app
    rw [e, List.length_cons]
    exact ⟨by omega, fun h => by have := h1.2.1 h; have := h2.2.1 h; omega, fun h => by have := h1.2.2 h; have := h2.2.2 h; omega⟩
theorem sW_5 {k : Int32} {t : BL} : sW k t ≤ 5 * t.length ∧ t.length ≤ sW k t := by
  induction t with
  | nil => exact ⟨Nat.le_refl _, Nat.le_refl _⟩
  | cons c t ih =>
    have h1 := wc_5 (k := k) (c := c)
    have h2 : 1 ≤ wc k c := by
      unfold wc
      (repeat' split) <;> omega
    rw [List.length_cons]
    show wc k c + sW k t ≤ _ ∧ _ ≤ wc k c + sW k t
    omega
/-- the row in the middle, and what its escapes weigh -/
theorem mid_w {cf : CFG} {iq : Bool} {t : BL} {k : Int32} (h : t.length ≤ 60) : (mid cf iq t).length ≤ 302 ∧ sW k (mid cf iq t) ≤ 540 ∧ (k ≠ 2 → sW k (mid cf iq t) ≤ 400) := by
  have h5 := sW_5 (k := k) (t := t)
  unfold mid
  split
  · exact ⟨by omega, by omega, fun h => by omega⟩
  · unfold esc
    have hl := escL_len (k := cf.2.1) (fi := true) (t := t)
    have h5b := sW_5 (k := cf.2.1) (t := t)
    have hw := escL_w (k1 := cf.2.1) (k2 := k) (fi := true) (t := t)
    split
    · have hl1 := escL_len (k := 1) (fi := true) (t := t)
      have hw1 := escL_w (k1 := 1) (k2 := k) (fi := true) (t := t)
      have h51 := sW_5 (k := 1) (t := t)
      have hw2 := hw1.2.1 (by decide)
      split
      · exact ⟨by omega, by omega, fun h => by have := hw1.2.2 h; omega⟩
      · split
        · have e : sW k (34 :: (escL 1 true t ++ [34])) = wc k 34 + (sW k (escL 1 true t) + (wc k 34 + 0)) := by
            show wc k 34 + sW k (escL 1 true t ++ [34]) = _
            rw [sW_app]; rfl
          have h34 := wc_34 (k := k)
          rw [e, List.length_cons, List.length_append]
          show (escL 1 true t).length + 1 + 1 ≤ 302 ∧ _
          exact ⟨by omega, by omega, fun h => by have := hw1.2.2 h; omega⟩
        · exact ⟨by omega, by omega, fun h => by omega⟩
    · exact ⟨by omega, by omega, fun h => by have := hw.2.2 h; omega⟩
end
/-! part 54b.esc -/
section
/-! the class escapes -/
section ESC
variable {f : AH} {j b c n : Nat} {L : BL}
theorem f_addR (hr : isRw f j b c L) (h : L.length < c) {x : Int32} : PQ (mX5_add j x f n) (fun r => ∃ f', r = (1, f', n) ∧ isRw f' j b c (L ++ [x]) ∧ ∀ i, i ≠ j → i ≠ b → f' i = f i) := by
  refine pq_tail (f_add hr) (fun r hq => ?_)
  rcases hq with ⟨-, h2⟩ | ⟨h2, -⟩
  · exact h2
  · omega
/-- behind a call: the row has grown -/
def GR (f : AH) (j b c n : Nat) (L : BL) (r : Int32 × HpN) : Prop := ∃ f', r = (0, f', n) ∧ isRw f' j b c L ∧ ∀ i, i ≠ j → i ≠ b → f' i = f i
theorem gr_1 (hr : isRw f j b c L) {x : Int32} (h : L.length < c) : PQ ((mX5_add j x f n).bind fun r3 => some ((0 : Int32), (r3.2.1, r3.2.2))) (GR f j b c n (L ++ [x])) := by
  refine pq_call (f_addR hr h) (fun r hq => ?_)
  obtain ⟨f', rfl, h1, h2⟩ := hq
  exact pq_ret ⟨f', rfl, h1, h2⟩
theorem gr_st (hr : isRw f j b c L) {x : Int32} {M : BL} {kk : Int32 × HpN → Option (Int32 × HpN)} (h : L.length < c) (hk : ∀ f', isRw f' j b c (L ++ [x]) → PQ (kk (1, f', n)) (GR f' j b c n M)) : PQ ((mX5_add j x f n).bind kk) (GR f j b c n M) := by
  refine pq_call (f_addR hr h) (fun r hq => ?_)
  obtain ⟨f', rfl, h1, h2⟩ := hq
  refine pq_tail (hk f' h1) (fun r hq => ?_)
  obtain ⟨f2, rfl, g1, g2⟩ := hq
  exact ⟨f2, rfl, g1, fun i e1 e2 => (g2 i e1 e2).trans (h2 i e1 e2)⟩
theorem ap2 {x y : Int32} : L ++ [x] ++ [y] = L ++ [x, y] := List.append_assoc _ _ _
theorem f_inLine (hr : isRw f j b c L) {x : Int32} {fi : Bool} (h : L.length + (escC 0 fi x).length ≤ c) : PQ (mX0_addInLine x (some j) (bI fi) f n) (GR f j b c n (L ++ escC 0 fi x)) := by
  have e0 : escC 0 fi x = if x = 10 then [92, 110] else if x = 9 then [92, 116] else if x = 92 then [92, 92] else if x = 32 ∧ fi = true then [92, 32] else [x] := rfl
  have b28 : ∀ z : Int32, escC 0 fi x = [92, z] → (if x = 10 then 110 else if x = 9 then 116 else x) = z → PQ (mX0_addInLine_b28 x (some j) f n) (GR f j b c n (L ++ escC 0 fi x)) := by
    intro z hz hx
    rw [hz] at h ⊢
    have h2 : L.length + 2 ≤ c := h
    unfold mX0_addInLine_b28
    refine pq_sb (pq_ck (gr_st hr (by omega) (fun f' hr' => ?_)))
    have h3 : (L ++ [92]).length < c := by rw [List.length_append]; show L.length + 1 < c; omega
    unfold mX0_addInLine_b35
    rw [← ap2]
    refine pq_eq (fun q1 => ?_) (fun q1 => ?_)
    · rw [if_pos q1] at hx; rw [← hx]; exact pq_sb (pq_ck (gr_1 hr' h3))
    · rw [if_neg q1] at hx
      refine pq_eq (fun q2 => ?_) (fun q2 => ?_)
      · rw [if_pos q2] at hx; rw [← hx]; exact pq_sb (pq_ck (gr_1 hr' h3))
      · rw [if_neg q2] at hx; rw [← hx]; exact pq_sb (pq_ck (gr_1 hr' h3))
  have b35 : x ≠ 10 → x ≠ 9 → escC 0 fi x = [x] → PQ (mX0_addInLine_b35 x (some j) f n) (GR f j b c n (L ++ escC 0 fi x)) := by
    intro h1 h2 hz
    rw [hz] at h ⊢
    unfold mX0_addInLine_b35
    exact pq_f h1 (pq_f h2 (pq_sb (pq_ck (gr_1 hr h))))
  unfold mX0_addInLine
  refine pq_eq (fun q1 => b28 92 (by rw [e0, q1]; rfl) (by rw [q1]; rfl)) (fun q1 => ?_)
  refine pq_eq (fun q2 => b28 110 (by rw [e0, q2]; rfl) (by rw [q2]; rfl)) (fun q2 => ?_)
  refine pq_eq (fun q3 => b28 116 (by rw [e0, q3]; rfl) (by rw [q3]; rfl)) (fun q3 => ?_)
  refine pq_eq (fun q4 => ?_) (fun q4 => ?_)
  · refine pq_eq (fun q5 => ?_) (fun q5 => ?_)
    · refine b35 q2 q3 ?_
      rw [e0, if_neg q2, if_neg q3, if_neg q1, if_neg (fun y => by rw [y.2] at q5; exact absurd q5 (by decide))]
    · have hfi : fi = true := by
        cases fi with
        | true => rfl
        | false => exact absurd rfl q5
      exact b28 32 (by rw [e0, if_neg q2, if_neg q3, if_neg q1, if_pos ⟨q4, hfi⟩]) (by rw [q4]; rfl)
  · refine b35 q2 q3 ?_
    rw [e0, if_neg q2, if_neg q3, if_neg q1, if_neg (fun y => q4 y.1)]
theorem f_inQuotes (hr : isRw f j b c L) {x : Int32} {fi : Bool} (h : L.length + (escC 3 fi x).length ≤ c) : PQ (mX0_addInQuotes x (some j) f n) (GR f j b c n (L ++ escC 3 fi x)) := by
  have e0 : escC 3 fi x = if x = 10 then [92, 110] else if x = 9 then [92, 116] else if x = 92 then [92, 92] else if x = 34 then [92, 34] else [x] := rfl
  have b24 : ∀ z : Int32, escC 3 fi x = [92, z] → (if x = 10 then 110 else if x = 9 then 116 else x) = z → PQ (mX0_addInQuotes_b24 x (some j) f n) (GR f j b c n (L ++ escC 3 fi x)) := by
    intro z hz hx
    rw [hz] at h ⊢
    have h2 : L.length + 2 ≤ c := h
    unfold mX0_addInQuotes_b24
    refine pq_sb (pq_ck (gr_st hr (by omega) (fun f' hr' => ?_)))
    have h3 : (L ++ [92]).length < c := by rw [List.length_append]; show L.length + 1 < c; omega
    unfold mX0_addInQuotes_b31
    rw [← ap2]
    refine pq_eq (fun q1 => ?_) (fun q1 => ?_)
    · rw [if_pos q1] at hx; rw [← hx]; exact pq_sb (pq_ck (gr_1 hr' h3))
    · rw [if_neg q1] at hx
      refine pq_eq (fun q2 => ?_) (fun q2 => ?_)
      · rw [if_pos q2] at hx; rw [← hx]; exact pq_sb (pq_ck (gr_1 hr' h3))
      · rw [if_neg q2] at hx; rw [← hx]; exact pq_sb (pq_ck (gr_1 hr' h3))
  unfold mX0_addInQuotes
  refine pq_eq (fun q1 => b24 92 (by rw [e0, q1]; rfl) (by rw [q1]; rfl)) (fun q1 => ?_)
  refine pq_eq (fun q2 => b24 110 (by rw [e0, q2]; rfl) (by rw [q2]; rfl)) (fun q2 => ?_)
  refine pq_eq (fun q3 => b24 116 (by rw [e0, q3]; rfl) (by rw [q3]; rfl)) (fun q3 => ?_)
  refine pq_eq (fun q4 => b24 34 (by rw [e0, q4]; rfl) (by rw [q4]; rfl)) (fun q4 => ?_)
  have hz : escC 3 fi x = [x] := by rw [e0, if_neg q2, if_neg q3, if_neg q1, if_neg q4]
  rw [hz] at h ⊢
  unfold mX0_addInQuotes_b31
  exact pq_f q2 (pq_f q3 (pq_sb (pq_ck (gr_1 hr h))))
theorem f_doubled (hr : isRw f j b c L) {x : Int32} {fi : Bool} (h : L.length + (escC 1 fi x).length ≤ c) : PQ (mX0_addDoubled x (some j) f n) (GR f j b c n (L ++ escC 1 fi x)) := by
  have e0 : escC 1 fi x = if x = 34 then [34, 34] else [x] := rfl
  unfold mX0_addDoubled
  refine pq_eq (fun q1 => ?_) (fun q1 => ?_)
  · rw [e0, if_pos q1] at h ⊢
    have h2 : L.length + 2 ≤ c := h
    refine pq_sb (pq_ck (gr_st hr (by omega) (fun f' hr' => ?_)))
    have h3 : (L ++ [34]).length < c := by rw [List.length_append]; show L.length + 1 < c; omega
    rw [← ap2, q1]
    exact pq_sb (pq_ck (gr_1 hr' h3))
  · rw [e0, if_neg q1] at h ⊢
    exact pq_sb (pq_ck (gr_1 hr h))
theorem f_inMarkup (hr : isRw f j b c L) {x : Int32} {fi : Bool} (h : L.length + (escC 2 fi x).length ≤ c) : PQ (mX0_addInMarkup x (some j) f n) (GR f j b c n (L ++ escC 2 fi x)) := by
  have e0 : escC 2 fi x = if x = 60 then [38, 108, 116, 59] else if x = 62 then [38, 103, 116, 59] else if x = 38 then [38, 97, 109, 112, 59] else [x] := rfl
  have b76 : ∀ (f : AH) (L : BL) (z : Int32), isRw f j b c L → L.length + 3 ≤ c → PQ (mX0_addInMarkup_b76 (some j) (some j) z f n) (GR f j b c n (L ++ [z, 116, 59])) := by
    intro f L z hr h
    unfold mX0_addInMarkup_b76
    refine pq_sb (pq_ck (gr_st hr (by omega) (fun f1 hr1 => ?_)))
    refine pq_sb (pq_ck (gr_st hr1 (by rw [List.length_append]; show L.length + 1 < c; omega) (fun f2 hr2 => ?_)))
    have h3 : (L ++ [z] ++ [116]).length < c := by rw [List.length_append, List.length_append]; show L.length + 1 + 1 < c; omega
    have := gr_1 (n := n) (x := 59) hr2 h3
    rw [ap2, List.append_assoc] at this
    exact pq_sb (pq_ck this)
  unfold mX0_addInMarkup
  refine pq_eq (fun q1 => ?_) (fun q1 => ?_)
  · rw [e0, if_pos q1] at h ⊢
    have h2 : L.length + 4 ≤ c := h
    unfold mX0_addInMarkup_b25
    refine pq_sb (pq_ck (gr_st hr (by omega) (fun f1 hr1 => ?_)))
    refine pq_f (by rw [q1]; decide) (pq_t q1 ?_)
    have := b76 f1 (L ++ [38]) 108 hr1 (by rw [List.length_append]; show L.length + 1 + 3 ≤ c; omega)
    rw [List.append_assoc] at this
    exact this
  · refine pq_eq (fun q2 => ?_) (fun q2 => ?_)
    · rw [e0, if_neg q1, if_pos q2] at h ⊢
      have h2 : L.length + 4 ≤ c := h
      unfold mX0_addInMarkup_b25
      refine pq_sb (pq_ck (gr_st hr (by omega) (fun f1 hr1 => ?_)))
      refine pq_f (by rw [q2]; decide) (pq_f q1 ?_)
      have := b76 f1 (L ++ [38]) 103 hr1 (by rw [List.length_append]; show L.length + 1 + 3 ≤ c; omega)
      rw [List.append_assoc] at this
      exact this
    · refine pq_eq (fun q3 => ?_) (fun q3 => ?_)
      · rw [e0, if_neg q1, if_neg q2, if_pos q3] at h ⊢
        have h2 : L.length + 5 ≤ c := h
        unfold mX0_addInMarkup_b25
        refine pq_sb (pq_ck (gr_st hr (by omega) (fun f1 hr1 => ?_)))
        refine pq_t q3 (pq_ck (gr_st hr1 (by rw [List.length_append]; show L.length + 1 < c; omega) (fun f2 hr2 => ?_)))
        rw [ap2] at hr2
        refine pq_ck (gr_st hr2 (by rw [List.length_append]; show L.length + 2 < c; omega) (fun f3 hr3 => ?_))
        rw [List.append_assoc] at hr3
        refine pq_ck (gr_st hr3 (by rw [List.length_append]; show L.length + 3 < c; omega) (fun f4 hr4 => ?_))
        rw [List.append_assoc] at hr4
        have := gr_1 (n := n) (x := 59) hr4 (by rw [List.length_append]; show L.length + 4 < c; omega)
        rw [List.append_assoc] at this
        exact pq_sb (pq_ck this)
      · rw [e0, if_neg q1, if_neg q2, if_neg q3] at h ⊢
        exact pq_sb (pq_ck (gr_1 hr h))
theorem f_addEsc_l {j1 b1 c1 : Nat} {M : BL} {k : Int32} {fi : Bool} (hk : k = -1 ∨ k = 0 ∨ k = 1 ∨ k = 2 ∨ k = 3) (hj : j1 ≠ j) (hb : b1 ≠ b) : ∀ (d i : Nat) (f : AH) (L : BL), isRw f j b c L → isRw f j1 b1 c1 M → i ≤ M.length → L.length + (escL k (fi && decide (i = 0)) (M.drop i)).length ≤ c → PQ (mX0_addEscaped_l3 d (some j1) (some j) k (bI fi) (nI i) f n) (GR f j b c n (L ++ escL k (fi && decide (i = 0)) (M.drop i))) := by
  intro d
  induction d with
  | zero => intro i f L _ _ _ _; exact pq_none
  | succ d ih =>
    intro i f L hr hm hi hl
    have h6 := rw_6 hm
    unfold mX0_addEscaped_l3
    refine pq_sb (pq_ck (pq_is (f_size hm) ?_))
    refine pq_le (nI_toInt (by omega)) (nI_toInt (by omega)) (fun h => ?_) (fun h => ?_)
    · refine pq_ret ⟨f, rfl, ?_, fun _ _ _ => rfl⟩
      rw [List.drop_of_length_le (by omega)]
      show isRw f j b c (L ++ [])
      rw [List.append_nil]; exact hr
    · have hiM : i < M.length := by omega
      refine pq_ck (pq_is (f_getN hm hiM) ?_)
      have eS : escL k (fi && decide (i = 0)) (M.drop i) = escC k (fi && decide (i = 0)) (M.getD i 0) ++ escL k false (M.drop (i + 1)) := by rw [dr_st hiM]; rfl
      rw [eS, List.length_append] at hl
      rw [eS]
      have hb1 : b1 ≠ j := fun q => by
        obtain ⟨-, ⟨g, h2, -⟩, -⟩ := hm
        have h1 := hr.1
        rw [q, h1] at h2; cases h2
      have hj1 : j1 ≠ b := fun q => by
        obtain ⟨-, ⟨g, h2, -⟩, -⟩ := hr
        have h1 := hm.1
        rw [q, h2] at h1; cases h1
      -- behind one byte
      have nxt : ∀ o : Option (Int32 × HpN), PQ o (GR f j b c n (L ++ escC k (fi && decide (i = 0)) (M.getD i 0))) → PQ (o.bind fun r => mX0_addEscaped_b109 (fun v0 v1 v2 v3 v4 f n => mX0_addEscaped_l3 d v0 v1 v2 v3 v4 f n) (some j1) (some j) k (bI fi) (nI i) r.2.1 r.2.2) (GR f j b c n (L ++ (escC k (fi && decide (i = 0)) (M.getD i 0) ++ escL k false (M.drop (i + 1))))) := by
        intro o ho
        refine pq_call ho (fun r hq => ?_)
        obtain ⟨f1, rfl, g1, g2⟩ := hq
        unfold mX0_addEscaped_b109
        show PQ (mX0_addEscaped_l3 d (some j1) (some j) k (bI fi) (nI i + 1) f1 n) _
        rw [nI_1]
        have hm1 : isRw f1 j1 b1 c1 M := rw_tr hm (g2 _ hj hj1) (g2 _ hb1 hb)
        have e1 : (fi && decide (i + 1 = 0)) = false := by rw [decide_eq_false (by omega), Bool.and_false]
        have h9 := ih (i + 1) f1 _ g1 hm1 hiM (by rw [e1, List.length_append]; omega)
        rw [e1, List.append_assoc] at h9
        refine pq_tail h9 (fun r hq => ?_)
        obtain ⟨f2, rfl, k1, k2⟩ := hq
        exact ⟨f2, rfl, k1, fun x y z => (k2 x y z).trans (g2 x y z)⟩
      rcases hk with rfl | rfl | rfl | rfl | rfl
      · refine pq_f (by decide) (pq_f (by decide) (pq_f (by decide) (pq_f (by decide) (pq_sb (pq_ck ?_)))))
        have eC : ∀ z, escC (-1) (fi && decide (i = 0)) z = [z] := fun z => rfl
        rw [eC] at nxt hl
        have h2 : L.length + (1 + (escL (-1) false (M.drop (i + 1))).length) ≤ c := hl
        have h9 := nxt _ (gr_1 (n := n) (x := M.getD i 0) hr (by omega))
        refine pq_call (f_addR hr (by omega)) (fun r hq => ?_)
        obtain ⟨f', rfl, h1, h3⟩ := hq
        unfold mX0_addEscaped_b109
        show PQ (mX0_addEscaped_l3 d (some j1) (some j) (-1) (bI fi) (nI i + 1) f' n) _
        rw [nI_1]
        have hm1 : isRw f' j1 b1 c1 M := rw_tr hm (h3 _ hj hj1) (h3 _ hb1 hb)
        have e1 : (fi && decide (i + 1 = 0)) = false := by rw [decide_eq_false (by omega), Bool.and_false]
        have h8 := ih (i + 1) f' _ h1 hm1 hiM (by rw [e1, List.length_append]; show L.length + 1 + _ ≤ c; omega)
        rw [e1, List.append_assoc] at h8
        refine pq_tail h8 (fun r hq => ?_)
        obtain ⟨f2, rfl, k1, k2⟩ := hq
        exact ⟨f2, rfl, k1, fun x y z => (k2 x y z).trans (h3 x y z)⟩
      · refine pq_t rfl ?_
        have hl0 : L.length + (escC 0 (fi && decide (i = 0)) (M.getD i 0)).length ≤ c := by omega
        refine pq_eq (fun q1 => ?_) (fun q1 => ?_)
        · unfold mX0_addEscaped_b68 mX0_addEscaped_b69
          have e2 : (fi && decide (i = 0)) = false := by rw [bI_0.mp q1]; rfl
          rw [e2] at hl0 nxt ⊢
          exact nxt _ (f_inLine (fi := false) hr hl0)
        · have hfi : fi = true := by
            cases fi with
            | true => rfl
            | false => exact absurd rfl q1
          refine pq_eqi (nI_toInt (by omega)) kt_0 (fun q2 => ?_) (fun q2 => ?_)
          · unfold mX0_addEscaped_b69
            have e2 : (fi && decide (i = 0)) = true := by rw [hfi, decide_eq_true (by omega)]; rfl
            rw [e2] at hl0 nxt ⊢
            exact nxt _ (f_inLine (fi := true) hr hl0)
          · unfold mX0_addEscaped_b68 mX0_addEscaped_b69
            have e2 : (fi && decide (i = 0)) = false := by rw [decide_eq_false (by omega), Bool.and_false]
            rw [e2] at hl0 nxt ⊢
            exact nxt _ (f_inLine (fi := false) hr hl0)
      · have hl0 : L.length + (escC 1 (fi && decide (i = 0)) (M.getD i 0)).length ≤ c := by omega
        exact pq_f (by decide) (pq_t rfl (nxt _ (f_doubled hr hl0)))
      · have hl0 : L.length + (escC 2 (fi && decide (i = 0)) (M.getD i 0)).length ≤ c := by omega
        exact pq_f (by decide) (pq_f (by decide) (pq_t rfl (nxt _ (f_inMarkup hr hl0))))
      · have hl0 : L.length + (escC 3 (fi && decide (i = 0)) (M.getD i 0)).length ≤ c := by omega
        exact pq_f (by decide) (pq_f (by decide) (pq_f (by decide) (pq_t rfl (nxt _ (f_inQuotes hr hl0)))))
theorem f_addEsc {j1 b1 c1 : Nat} {M : BL} {k : Int32} {fi : Bool} (hk : k = -1 ∨ k = 0 ∨ k = 1 ∨ k = 2 ∨ k = 3) (hj : j1 ≠ j) (hb : b1 ≠ b) (hr : isRw f j b c L) (hm : isRw f j1 b1 c1 M) (hl : L.length + (escL k fi M).length ≤ c) : PQ (mX0_addEscaped (some j1) (some j) k (bI fi) f n) (GR f j b c n (L ++ escL k fi M)) := by
  have e : (fi && decide (0 = 0)) = fi := by rw [decide_eq_true rfl, Bool.and_true]
  have h := f_addEsc_l (n := n) (fi := fi) hk hj hb rFU 0 f L hr hm (Nat.zero_le _) (by rw [e]; exact hl)
  rw [e] at h
  exact h
end ESC
end
/-! part 54c.esc -/
section
abbrev buL (qw : Int32) : List Value := [.ref 172, .ref 174, .ref 176, .int qw]
def BSh (f : AH) : Prop := (∃ qw, f 171 = some (.inr (0, buL qw))) ∧ (∃ R, isRw f 172 173 600 R) ∧ (∃ E, isRw f 174 175 540 E) ∧ (∃ M, isRw f 176 177 540 M)
/-- behind an escape: what the answer is, and what lies in the row of the escaped -/
def EO (f : AH) (n : Nat) (o : Option BL) (y : Int32 × HpN) : Prop := ∃ f', (match o with
  | none => y = (0, f', n)
  | some E => y = (1, f', n) ∧ isRw f' 174 175 540 E) ∧ (∃ qw, f' 171 = some (.inr (0, buL qw))) ∧ (∃ E, isRw f' 174 175 540 E) ∧ (∃ M, isRw f' 176 177 540 M) ∧ ∀ j, j < 171 ∨ 177 < j ∨ j = 172 ∨ j = 173 → f' j = f j
theorem EO_st {f g : AH} {n : Nat} {o : Option BL} {y : Int32 × HpN} (h : EO g n o y) (hF : ∀ j, j < 171 ∨ 177 < j ∨ j = 172 ∨ j = 173 → g j = f j) : EO f n o y := by
  obtain ⟨f', h1, h2, h3, h4, h5⟩ := h
  exact ⟨f', h1, h2, h3, h4, fun j hj => (h5 j hj).trans (hF j hj)⟩
section ESE
variable {f : AH} {n st fr lk td jp : Nat} {cf : CFG} {l le lc : Int32} {la : Option Nat} {pn : Int32} {b e tf ts kb ks x9 x10 x11 : Int32} {q iq fi : Bool}
theorem f_esc_b163 {M : BL} {qw : Int32} {bare : Bool} (hbare : bare = (decide (cf.1 = 1) && !q)) (hk : cf.1 = 0 ∨ cf.1 = 1 ∨ cf.1 = 2 ∨ cf.1 = 3) (hp : f jp = some (.inr (3, pcV b e tf ts kb ks (bI q) (bI iq) (bI fi) x9 x10 x11))) (hjp : jp < 171 ∨ 177 < jp) (hst : f st = some (.inr (7, stV fr cf.1 cf.2.1 l le lc la pn lk td))) (hsr : st < 171 ∨ 177 < st) (hb : f 171 = some (.inr (0, buL qw))) (hE : isRw f 174 175 540 []) (hM : isRw f 176 177 540 M) (hw : M.length ≤ 302 ∧ sW cf.1 M ≤ 540 ∧ sW 1 M ≤ 400) : PQ (mX0_escape_b163 171 (some jp) (some st) (bI bare) f n) (EO f n (if cf.2.1 ≠ -1 ∧ cf.1 = 1 ∧ q = false ∧ sg M = true then none else some (esc cf.1 q fi M))) := by
  have h6 := rw_6 hM
  unfold mX0_escape_b163
  have hkk : cf.1 = -1 ∨ cf.1 = 0 ∨ cf.1 = 1 ∨ cf.1 = 2 ∨ cf.1 = 3 := Or.inr hk
  refine pq_eq (fun q1 => ?_) (fun q1 => ?_)
  · -- not bare
    have hbf : (decide (cf.1 = 1) && !q) = false := by rw [← hbare]; exact bI_0.mp q1
    have hn : ¬ (cf.2.1 ≠ -1 ∧ cf.1 = 1 ∧ q = false ∧ sg M = true) := fun x => by
      rw [x.2.1, x.2.2.1] at hbf; cases hbf
    rw [if_neg hn]
    have eE : esc cf.1 q fi M = escL cf.1 fi M := by
      unfold esc
      by_cases h1 : cf.1 = 1
      · rw [if_pos h1]
        have hq : q = true := by
          cases q with
          | true => rfl
          | false => rw [h1] at hbf; cases hbf
        rw [if_pos hq, h1]
      · rw [if_neg h1]
    rw [eE]
    refine pq_gR hb rfl (pq_gR hb rfl (pq_sb (pq_gI hst rfl (pq_sb (pq_gI hp rfl ?_)))))
    have hl := escL_len (k := cf.1) (fi := fi) (t := M)
    refine pq_call (f_addEsc (j := 174) (b := 175) hkk (by omega) (by omega) hE hM (by show 0 + _ ≤ 540; omega)) (fun y hy => ?_)
    obtain ⟨f', rfl, g1, g2⟩ := hy
    refine pq_ck (pq_ret ⟨f', ⟨rfl, g1⟩, ⟨qw, (g2 _ (by omega) (by omega)).trans hb⟩, ⟨_, g1⟩, ⟨_, rw_tr hM (g2 _ (by omega) (by omega)) (g2 _ (by omega) (by omega))⟩, fun j hj => g2 j (by omega) (by omega)⟩)
  · have hbt : (decide (cf.1 = 1) && !q) = true := by
      rw [← hbare]
      cases bare with
      | true => rfl
      | false => exact absurd rfl q1
    rw [Bool.and_eq_true] at hbt
    have h1 : cf.1 = 1 := of_decide_eq_true hbt.1
    have hq : q = false := by
      cases q with
      | false => rfl
      | true => exact absurd hbt.2 (by decide)
    refine pq_gR hb rfl (pq_sb (pq_ck (pq_is (f_breaks hM) ?_)))
    refine pq_eq (fun q2 => ?_) (fun q2 => ?_)
    · have hsg : sg M = false := bI_0.mp q2
      rw [if_neg (fun x => by rw [hsg] at x; exact absurd x.2.2.2 (by decide))]
      have eE : esc cf.1 q fi M = M := by
        unfold esc
        rw [if_pos h1, if_neg (by rw [hq]; decide), if_neg (by rw [hsg]; decide)]
      rw [eE]
      refine pq_gR hb rfl (pq_gR hb rfl (pq_gR hb rfl (pq_sb (pq_ck (pq_is (f_size hM) (pq_sb (pq_ck ?_)))))))
      refine pq_call (f_addPart (i := 0) (by omega) (by omega) (Nat.le_refl _) (Nat.zero_le _) hE hM) (fun y hy => ?_)
      rcases hy with ⟨-, f', rfl, g1, g2⟩ | ⟨g1, -⟩
      · rw [sl_all] at g1
        refine pq_ck (pq_ret ⟨f', ⟨rfl, g1⟩, ⟨qw, (g2 _ (by omega) (by omega)).trans hb⟩, ⟨_, g1⟩, ⟨_, rw_tr hM (g2 _ (by omega) (by omega)) (g2 _ (by omega) (by omega))⟩, fun j hj => g2 j (by omega) (by omega)⟩)
      · have : 540 < ([] : BL).length + (M.length - 0) := g1
        have e0 : ([] : BL).length = 0 := rfl
        omega
    · have hsg : sg M = true := by
        cases hx : sg M with
        | true => rfl
        | false => exact absurd (by show bI (sg M) = 0; rw [hx]; rfl) q2
      have eE : esc cf.1 q fi M = 34 :: (escL 1 fi M ++ [34]) := by
        unfold esc
        rw [if_pos h1, if_neg (by rw [hq]; decide), if_pos hsg]
      have hfl : escL 1 fi M = escL 1 false M := by cases M <;> rfl
      have hl := escL_len (k := 1) (fi := false) (t := M)
      refine pq_pO hb rfl ?_
      have hb1 : va_up f 171 (some (.inr (0, (buL qw).set 3 (.int 1)))) 171 = some (.inr (0, buL 1)) := u_eq
      refine pq_gR hb1 rfl (pq_sb (pq_ck ?_))
      refine pq_call (f_addR (rw_up hE (by omega) (by omega)) (by decide)) (fun y hy => ?_)
      obtain ⟨f1, rfl, g1, g2⟩ := hy
      have hb2 : f1 171 = some (.inr (0, buL 1)) := (g2 _ (by omega) (by omega)).trans hb1
      refine pq_gR hb2 rfl (pq_gR hb2 rfl ?_)
      have hM1 : isRw f1 176 177 540 M := rw_tr (rw_up hM (by omega) (by omega)) (g2 _ (by omega) (by omega)) (g2 _ (by omega) (by omega))
      refine pq_call (f_addEsc (j := 174) (b := 175) (fi := false) (Or.inr (Or.inr (Or.inl rfl))) (by omega) (by omega) g1 hM1 (by show 1 + _ ≤ 540; omega)) (fun y hy => ?_)
      obtain ⟨f2, rfl, g3, g4⟩ := hy
      have hb3 : f2 171 = some (.inr (0, buL 1)) := (g4 _ (by omega) (by omega)).trans hb2
      refine pq_gR hb3 rfl (pq_sb (pq_ck ?_))
      refine pq_call (f_addR g3 (by rw [List.length_append]; show 1 + _ < 540; omega)) (fun y hy => ?_)
      obtain ⟨f3, rfl, g5, g6⟩ := hy
      have hF : ∀ j, j ≠ 171 → j ≠ 174 → j ≠ 175 → f3 j = f j := fun j x1 x2 x3 => ((g6 j x2 x3).trans ((g4 j x2 x3).trans (g2 j x2 x3))).trans (u_ne x1)
      refine pq_sb (pq_gI ((hF st (by omega) (by omega) (by omega)).trans hst) rfl ?_)
      have e9 : [] ++ [34] ++ escL 1 false M ++ [34] = 34 :: (escL 1 fi M ++ [34]) := by rw [hfl]; rfl
      rw [e9] at g5
      have rest : (∃ qw, f3 171 = some (.inr (0, buL qw))) ∧ (∃ E, isRw f3 174 175 540 E) ∧ (∃ M, isRw f3 176 177 540 M) ∧ ∀ j, j < 171 ∨ 177 < j ∨ j = 172 ∨ j = 173 → f3 j = f j := ⟨⟨1, (g6 _ (by omega) (by omega)).trans hb3⟩, ⟨_, g5⟩, ⟨M, rw_tr hM (hF _ (by omega) (by omega) (by omega)) (hF _ (by omega) (by omega) (by omega))⟩, fun j hj => hF j (by omega) (by omega) (by omega)⟩
      unfold mX0_escape_b270
      refine pq_eq (fun q3 => ?_) (fun q3 => ?_)
      · rw [if_neg (fun x => x.1 q3), eE]
        exact pq_ck (pq_ret ⟨f3, ⟨rfl, g5⟩, rest⟩)
      · rw [if_pos ⟨q3, h1, hq, hsg⟩]
        exact pq_ck (pq_ret ⟨f3, rfl, rest⟩)
theorem f_escape {jt bt ct : Nat} {t : BL} {x : Pc} (hk : cf.1 = 0 ∨ cf.1 = 1 ∨ cf.1 = 2 ∨ cf.1 = 3) (hki : cf.2.1 = -1 ∨ cf.2.1 = 0 ∨ cf.2.1 = 1 ∨ cf.2.1 = 2 ∨ cf.2.1 = 3) (hp : f jp = some (.inr (3, pcV b e tf ts kb ks (bI x.2.2.1) (bI x.2.2.2.1) (bI x.2.2.2.2.1) x9 x10 x11))) (hjp : jp < 171 ∨ 177 < jp) (hst : f st = some (.inr (7, stV fr cf.1 cf.2.1 l le lc la pn lk td))) (hsr : st < 171 ∨ 177 < st) (hS : BSh f) (ht : isRw f jt bt ct t) (hjt : jt < 171 ∨ 177 < jt) (hbt : bt < 171 ∨ 177 < bt) (h60 : t.length ≤ 60) : PQ (mX0_escape 171 (some jt) (some jp) (some st) f n) (EO f n (escFor cf x t)) := by
  obtain ⟨⟨qw, hb⟩, -, ⟨E0, hE⟩, ⟨M0, hM⟩⟩ := hS
  unfold mX0_escape
  refine pq_oNs (pq_pO hb rfl ?_)
  have hb1 : va_up f 171 (some (.inr (0, (buL qw).set 3 (.int 0)))) 171 = some (.inr (0, buL 0)) := u_eq
  refine pq_gR hb1 rfl (pq_sb (pq_ck ?_))
  refine pq_call (f_cutTo (rw_up hM (by omega) (by omega)) (m := 0) (by omega)) (fun y hy => ?_)
  obtain ⟨f1, rfl, g1, g2⟩ := hy
  have hb2 : f1 171 = some (.inr (0, buL 0)) := (g2 _ (by omega)).trans hb1
  refine pq_gR hb2 rfl (pq_sb (pq_ck ?_))
  have hE1 : isRw f1 174 175 540 E0 := rw_tr (rw_up hE (by omega) (by omega)) (g2 _ (by omega)) (g2 _ (by omega))
  refine pq_call (f_cutTo hE1 (m := 0) (by omega)) (fun y hy => ?_)
  obtain ⟨f2, rfl, g3, g4⟩ := hy
  have hF2 : ∀ j, j ≠ 171 → j ≠ 174 → j ≠ 176 → f2 j = f j := fun j x1 x2 x3 => ((g4 j x2).trans (g2 j x3)).trans (u_ne x1)
  have hM2 : isRw f2 176 177 540 [] := rw_tr g1 (g4 _ (by omega)) (g4 _ (by omega))
  have hE2 : isRw f2 174 175 540 [] := g3
  have hb3 : f2 171 = some (.inr (0, buL 0)) := (g4 _ (by omega)).trans hb2
  have hst2 := (hF2 st (by omega) (by omega) (by omega)).trans hst
  have hp2 := (hF2 jp (by omega) (by omega) (by omega)).trans hp
  have ht2 : isRw f2 jt bt ct t := rw_tr ht (hF2 _ (by omega) (by omega) (by omega)) (hF2 _ (by omega) (by omega) (by omega))
  clear g1 g2 g3 g4 hE1 hb1 hb2
  have hmw := mid_w (cf := cf) (iq := x.2.2.2.1) (t := t) (k := cf.1) h60
  have hmw1 := (mid_w (cf := cf) (iq := x.2.2.2.1) (t := t) (k := 1) h60).2.2 (by decide)
  have h5 := (sW_5 (k := 1) (t := t))
  -- the last stage, over any heap with the middle row made
  have last : ∀ (g : AH) (qw : Int32) (bare : Bool), bare = (decide (cf.1 = 1) && !x.2.2.1) → g 171 = some (.inr (0, buL qw)) → isRw g 176 177 540 (mid cf x.2.2.2.1 t) → (∀ j, j ≠ 171 → j ≠ 176 → j ≠ 177 → g j = f2 j) → PQ (mX0_escape_b163 171 (some jp) (some st) (bI bare) g n) (EO f n (escFor cf x t)) := by
    intro g qw bare hba k1 k2 k3
    refine pq_tail (f_esc_b163 hba hk ((k3 jp (by omega) (by omega) (by omega)).trans hp2) hjp ((k3 st (by omega) (by omega) (by omega)).trans hst2) hsr k1 (rw_tr hE2 (k3 _ (by omega) (by omega) (by omega)) (k3 _ (by omega) (by omega) (by omega))) k2 ⟨hmw.1, hmw.2.1, hmw1⟩) (fun y hy => ?_)
    exact EO_st hy (fun j hj => (k3 j (by omega) (by omega) (by omega)).trans (hF2 j (by omega) (by omega) (by omega)))
  -- the stage of the inner kind
  have b141 : ∀ (bare bw : Bool), bare = (decide (cf.1 = 1) && !x.2.2.1) → bw = (decide (cf.2.1 = 1) && !x.2.2.2.1) → (bw = true → sg t = false) → PQ (mX0_escape_b141 171 (some jt) (some jp) (some st) (bI bare) (bI bw) f2 n) (EO f n (escFor cf x t)) := by
    intro bare bw hba hbw hsg
    unfold mX0_escape_b141
    refine pq_gR hb3 rfl ?_
    have go : ∀ k : Int32, (k = -1 ∨ k = 0 ∨ k = 1 ∨ k = 2 ∨ k = 3) → escL k true t = mid cf x.2.2.2.1 t → PQ (mX0_escape_b159 171 (some jp) (some st) (bI bare) (some jt) (some 176) k f2 n) (EO f n (escFor cf x t)) := by
      intro k hk5 hmid
      unfold mX0_escape_b159
      refine pq_call (f_addEsc (j := 176) (b := 177) (fi := true) hk5 (by omega) (by omega) hM2 ht2 (by rw [hmid]; show 0 + _ ≤ 540; omega)) (fun y hy => ?_)
      obtain ⟨f3, rfl, k1, k2⟩ := hy
      rw [hmid] at k1
      exact last f3 0 bare hba ((k2 _ (by omega) (by omega)).trans hb3) k1 (fun j x1 x2 x3 => k2 j x2 x3)
    have plain : escL (-1) true t = t := by
      have : ∀ (u : BL) (fl : Bool), escL (-1) fl u = u := by
        intro u
        induction u with
        | nil => intro fl; rfl
        | cons c u ih => intro fl; show [c] ++ escL (-1) false u = c :: u; rw [ih]; rfl
      exact this t true
    refine pq_eq (fun q1 => ?_) (fun q1 => ?_)
    · refine pq_sb (pq_gI hst2 rfl (go cf.2.1 hki ?_))
      have hbf : (decide (cf.2.1 = 1) && !x.2.2.2.1) = false := by rw [← hbw]; exact bI_0.mp q1
      unfold mid
      by_cases hm1 : cf.2.1 = -1
      · rw [if_pos hm1, hm1]; exact plain
      · rw [if_neg hm1]
        unfold esc
        by_cases h1 : cf.2.1 = 1
        · have hq : x.2.2.2.1 = true := by
            cases hx : x.2.2.2.1 with
            | true => rfl
            | false => rw [h1, hx] at hbf; cases hbf
          rw [if_pos h1, if_pos hq, h1]
        · rw [if_neg h1]
    · have hbt' : bw = true := by
        cases bw with
        | true => rfl
        | false => exact absurd rfl q1
      have hbf : (decide (cf.2.1 = 1) && !x.2.2.2.1) = true := by rw [← hbw]; exact hbt'
      rw [Bool.and_eq_true] at hbf
      have h1 : cf.2.1 = 1 := of_decide_eq_true hbf.1
      have hq : x.2.2.2.1 = false := by
        cases hx : x.2.2.2.1 with
        | false => rfl
        | true => rw [hx] at hbf; exact absurd hbf.2 (by decide)
      refine go (-1) (Or.inl rfl) ?_
      rw [plain]
      unfold mid esc
      rw [if_neg (by rw [h1]; decide), if_pos h1, if_neg (by rw [hq]; decide), if_neg (by rw [hsg hbt']; decide)]
  have b69 : ∀ (bare bw : Bool), bare = (decide (cf.1 = 1) && !x.2.2.1) → bw = (decide (cf.2.1 = 1) && !x.2.2.2.1) → PQ (mX0_escape_b69 171 (some jt) (some jp) (some st) (bI bare) (bI bw) f2 n) (EO f n (escFor cf x t)) := by
    intro bare bw hba hbw
    unfold mX0_escape_b69
    refine pq_eq (fun q1 => b141 bare bw hba hbw (fun h => by rw [h] at q1; exact absurd q1 (by decide))) (fun q1 => ?_)
    have hbt' : bw = true := by
      cases bw with
      | true => rfl
      | false => exact absurd rfl q1
    refine pq_sb (pq_ck (pq_is (f_breaks ht2) ?_))
    refine pq_eq (fun q2 => b141 bare bw hba hbw (fun _ => bI_0.mp q2)) (fun q2 => ?_)
    have hsg : sg t = true := by
      cases hx : sg t with
      | true => rfl
      | false => exact absurd (by show bI (sg t) = 0; rw [hx]; rfl) q2
    have hbf : (decide (cf.2.1 = 1) && !x.2.2.2.1) = true := by rw [← hbw]; exact hbt'
    rw [Bool.and_eq_true] at hbf
    have h1 : cf.2.1 = 1 := of_decide_eq_true hbf.1
    have hq : x.2.2.2.1 = false := by
      cases hx : x.2.2.2.1 with
      | false => rfl
      | true => rw [hx] at hbf; exact absurd hbf.2 (by decide)
    have emid : mid cf x.2.2.2.1 t = 34 :: (escL 1 true t ++ [34]) := by
      unfold mid esc
      rw [if_neg (by rw [h1]; decide), if_pos h1, if_neg (by rw [hq]; decide), if_pos hsg]
    have hfl : escL 1 true t = escL 1 false t := by cases t <;> rfl
    have hl := escL_len (k := 1) (fi := false) (t := t)
    refine pq_gR hb3 rfl (pq_sb (pq_ck ?_))
    refine pq_call (f_addR hM2 (by decide)) (fun y hy => ?_)
    obtain ⟨f3, rfl, k1, k2⟩ := hy
    have hb4 : f3 171 = some (.inr (0, buL 0)) := (k2 _ (by omega) (by omega)).trans hb3
    refine pq_gR hb4 rfl ?_
    have ht3 : isRw f3 jt bt ct t := rw_tr ht2 (k2 _ (by omega) (by omega)) (k2 _ (by omega) (by omega))
    refine pq_call (f_addEsc (j := 176) (b := 177) (fi := false) (Or.inr (Or.inr (Or.inl rfl))) (by omega) (by omega) k1 ht3 (by show 1 + _ ≤ 540; omega)) (fun y hy => ?_)
    obtain ⟨f4, rfl, k3, k4⟩ := hy
    have hb5 : f4 171 = some (.inr (0, buL 0)) := (k4 _ (by omega) (by omega)).trans hb4
    refine pq_gR hb5 rfl (pq_sb (pq_ck ?_))
    refine pq_call (f_addR k3 (by rw [List.length_append]; show 1 + _ < 540; omega)) (fun y hy => ?_)
    obtain ⟨f5, rfl, k5, k6⟩ := hy
    have e9 : [] ++ [34] ++ escL 1 false t ++ [34] = mid cf x.2.2.2.1 t := by rw [emid, hfl]; rfl
    rw [e9] at k5
    have hF5 : ∀ j, j ≠ 176 → j ≠ 177 → f5 j = f2 j := fun j x1 x2 => (k6 j x1 x2).trans ((k4 j x1 x2).trans (k2 j x1 x2))
    have hb6 : f5 171 = some (.inr (0, buL 0)) := (hF5 _ (by omega) (by omega)).trans hb3
    have fin : ∀ w : Int32, PQ (mX0_escape_b135 171 (some jp) (some st) (bI bare) 171 w f5 n) (EO f n (escFor cf x t)) := by
      intro w
      unfold mX0_escape_b135
      refine pq_pO hb6 rfl ?_
      exact last _ w bare hba u_eq (rw_up k5 (by omega) (by omega)) (fun j x1 x2 x3 => (u_ne x1).trans (hF5 j x2 x3))
    have hst5 := (hF5 st (by omega) (by omega)).trans hst2
    refine pq_sb (pq_gI hst5 rfl ?_)
    refine pq_eq (fun _ => fin 2) (fun _ => pq_gI hst5 rfl ?_)
    exact pq_eq (fun _ => fin 2) (fun _ => fin 1)
  have b47 : ∀ bare : Bool, bare = (decide (cf.1 = 1) && !x.2.2.1) → PQ (mX0_escape_b47 171 (some jt) (some jp) (some st) (bI bare) f2 n) (EO f n (escFor cf x t)) := by
    intro bare hba
    unfold mX0_escape_b47
    refine pq_sb (pq_gI hst2 rfl ?_)
    refine pq_eq (fun q1 => ?_) (fun q1 => ?_)
    · refine pq_sb (pq_gI hp2 rfl ?_)
      refine pq_eq (fun q2 => ?_) (fun q2 => ?_)
      · exact b69 bare true hba (by rw [decide_eq_true q1, bI_0.mp q2]; rfl)
      · refine b69 bare false hba ?_
        cases hx : x.2.2.2.1 with
        | true => rw [Bool.not_true, Bool.and_false]
        | false => exact absurd (by show bI x.2.2.2.1 = 0; rw [hx]; rfl) q2
    · exact b69 bare false hba (by rw [decide_eq_false q1]; rfl)
  refine pq_sb (pq_gI hst2 rfl ?_)
  refine pq_eq (fun q1 => ?_) (fun q1 => ?_)
  · refine pq_gI hp2 rfl ?_
    refine pq_eq (fun q2 => ?_) (fun q2 => ?_)
    · exact b47 true (by rw [decide_eq_true q1, bI_0.mp q2]; rfl)
    · refine b47 false ?_
      cases hx : x.2.2.1 with
      | true => rw [Bool.not_true, Bool.and_false]
      | false => exact absurd (by show bI x.2.2.1 = 0; rw [hx]; rfl) q2
  · exact b47 false (by rw [decide_eq_false q1]; rfl)
end ESE
end
/-! part 54d.make -/
section
/-! what is built -/
def OUT (j : Nat) : Prop := j < 59 ∨ 224 ≤ j
def bOf (cf : CFG) (F : BL) (told : Nat → Option BL) (i : Nat) (x : Pc) : BL := match told i with
  | none => sl F x.1 x.2.1
  | some t => (escFor cf x t).getD []
def plc (P : List Pc) : Nat → Nat
  | 0 => 0
  | i + 1 => (P.getD i pc0).2.1
def rowTo (cf : CFG) (F : BL) (told : Nat → Option BL) (P : List Pc) : Nat → BL
  | 0 => []
  | i + 1 => rowTo cf F told P i ++ sl F (plc P i) (P.getD i pc0).1 ++ bOf cf F told i (P.getD i pc0)
def blt (cf : CFG) (F : BL) (told : Nat → Option BL) (P : List Pc) : BL := rowTo cf F told P P.length ++ sl F (plc P P.length) F.length
def bbeg (cf : CFG) (F : BL) (told : Nat → Option BL) (P : List Pc) (i : Nat) : Nat := (rowTo cf F told P i ++ sl F (plc P i) (P.getD i pc0).1).length
def bsz (cf : CFG) (F : BL) (told : Nat → Option BL) (P : List Pc) (i : Nat) : Nat := (bOf cf F told i (P.getD i pc0)).length
/-- pieces lie in order -/
def ORD (P : List Pc) (N : Nat) : Prop := (∀ i, i < P.length → plc P i ≤ (P.getD i pc0).1 ∧ (P.getD i pc0).1 < (P.getD i pc0).2.1 ∧ (P.getD i pc0).2.1 ≤ N) ∧ plc P P.length ≤ N
/-- what is told for pieces can be -/
def VE (cf : CFG) (told : Nat → Option BL) (P : List Pc) : Prop := ∀ i t, i < P.length → told i = some t → (escFor cf (P.getD i pc0) t).isSome = true
def TLDS (f : AH) (td : Nat) (told : Nat → Option BL) : Prop := (∃ g : Nat → Option Nat, f td = some (.inl (2, 40, .inr (.inr g))) ∧ ∀ i, i < 40 → (match told i with
  | none => g i = none
  | some t => ∃ j b c, g i = some j ∧ isRw f j b c t ∧ OUT j ∧ OUT b ∧ t.length ≤ 60))
theorem TLDS_tr {f f' : AH} {td : Nat} {told : Nat → Option BL} (h : TLDS f td told) (h1 : f' td = f td) (hF : ∀ i t j b c, i < 40 → told i = some t → isRw f j b c t → OUT j → OUT b → f' j = f j ∧ f' b = f b) : TLDS f' td told := by
  obtain ⟨g, h2, h3⟩ := h
  refine ⟨g, h1.trans h2, fun i hi => ?_⟩
  have h4 := h3 i hi
  cases e : told i with
  | none => rw [e] at h4; exact h4
  | some t =>
    rw [e] at h4
    obtain ⟨j, b, c, k1, k2, k3, k4, k5⟩ := h4
    have k6 := hF i t j b c hi e k2 k3 k4
    exact ⟨j, b, c, k1, rw_tr k2 k6.1 k6.2, k3, k4, k5⟩
theorem rowTo_mono {cf : CFG} {F : BL} {told : Nat → Option BL} {P : List Pc} {i k : Nat} (h : i ≤ k) : (rowTo cf F told P i).length ≤ (rowTo cf F told P k).length := by
  obtain ⟨d, rfl⟩ : ∃ d, k = i + d := ⟨k - i, by omega⟩
  clear h
  induction d with
  | zero => exact Nat.le_refl _
  | succ d ih =>
    refine Nat.le_trans ih ?_
    show _ ≤ (rowTo cf F told P (i + d) ++ sl F (plc P (i + d)) (P.getD (i + d) pc0).1 ++ bOf cf F told (i + d) (P.getD (i + d) pc0)).length
    rw [List.length_append, List.length_append]; omega
theorem blt_ge {cf : CFG} {F : BL} {told : Nat → Option BL} {P : List Pc} {k : Nat} (h : k ≤ P.length) : (rowTo cf F told P k).length ≤ (blt cf F told P).length := by
  refine Nat.le_trans (rowTo_mono h) ?_
  unfold blt
  rw [List.length_append]; omega
section MAK
variable {f : AH} {n c0 : Nat} {P : List Pc}
theorem f_cget {v : Int32} (hC : CB f c0 P) : PQ (mX1_get c0 v f n) (fun y => y = (if 0 ≤ v.toInt ∧ v.toInt < P.length then some (c0 + 16 + v.toInt.toNat) else none, f, n)) := by
  obtain ⟨a1, ⟨g, a2, a2'⟩, a3, a4, a5⟩ := hC
  unfold mX1_get
  refine pq_lt rfl kt_0 (fun q => pq_ret (by rw [if_neg (by omega)])) (fun q => ?_)
  refine pq_gI a1 rfl ?_
  refine pq_le (nI_toInt (by omega)) rfl (fun q2 => pq_ret (by rw [if_neg (by omega)])) (fun q2 => ?_)
  refine pq_gR a1 rfl (pq_sb (pq_gL a2 (by omega) ?_))
  refine pq_le (nI_toInt (by omega)) rfl (fun q3 => by omega) (fun q3 => ?_)
  refine pq_gR a1 rfl (pq_sb (pq_gRA a2 (fun _ => pq_ret ?_)))
  rw [if_pos (by omega)]
  have e : v.toNatClampNeg = v.toInt.toNat := rfl
  rw [e, a2' _ (by omega)]
theorem f_cgetN {i : Nat} (hC : CB f c0 P) (hi : i < P.length) : PQ (mX1_get c0 (nI i) f n) (fun y => y = (some (c0 + 16 + i), f, n)) := by
  have h5 := hC.2.2.2.2
  refine pq_tail (f_cget hC) (fun y hy => ?_)
  rw [nI_toInt (by omega), if_pos (by omega)] at hy
  exact hy
theorem f_csize (hC : CB f c0 P) : PQ (mX1_size c0 f n) (fun y => y = (nI P.length, f, n)) := by
  unfold mX1_size
  exact pq_gI hC.1 rfl (pq_ret rfl)
/-- what is told for a number -/
def toldV (told : Nat → Option BL) (v : Int32) : Option BL := if 0 ≤ v.toInt ∧ v.toInt < 40 then told v.toInt.toNat else none
def TW (f : AH) (o : Option BL) (w : Option Nat) : Prop := match o with
  | none => w = none
  | some t => ∃ j b c, w = some j ∧ isRw f j b c t ∧ OUT j ∧ OUT b ∧ t.length ≤ 60
theorem f_toldFor {st td : Nat} {fs : List Value} {told : Nat → Option BL} {v : Int32} (hst : f st = some (.inr (7, fs))) (h9 : fs[9]? = some (.ref td)) (hT : TLDS f td told) : PQ (mX7_toldFor st v f n) (fun y => ∃ w, y = (w, f, n) ∧ TW f (toldV told v) w) := by
  obtain ⟨g, h2, h3⟩ := hT
  unfold mX7_toldFor toldV
  refine pq_lt rfl kt_0 (fun q => pq_ret ⟨none, rfl, by rw [if_neg (by omega)]; rfl⟩) (fun q => ?_)
  refine pq_gR hst h9 (pq_sb (pq_gL h2 (by omega) ?_))
  refine pq_le kn_40 rfl (fun q2 => pq_ret ⟨none, rfl, by rw [if_neg (by omega)]; rfl⟩) (fun q2 => ?_)
  refine pq_gR hst h9 (pq_sb (pq_gRA h2 (fun _ => pq_ret ⟨_, rfl, ?_⟩)))
  rw [if_pos (by omega)]
  have h4 := h3 v.toInt.toNat (by omega)
  have e : v.toNatClampNeg = v.toInt.toNat := rfl
  rw [e]
  unfold TW
  cases et : told v.toInt.toNat with
  | none => rw [et] at h4; exact h4
  | some t => rw [et] at h4; exact h4
end MAK
end
/-! part 54e.make -/
section
section MK2
variable {n st fr lk td rb cc : Nat} {cf : CFG} {l le lc : Int32} {la : Option Nat} {pn : Int32} {F : BL} {told : Nat → Option BL} {P : List Pc}
/-- a loop that has given up -/
theorem f_make_0 {f : AH} {v3 v5 : Int32} (hC : CB f 59 P) : ∀ d, PQ (mX0_make_l16 d 171 (some st) (some 59) v3 0 v5 f n) (fun y => y = (0, f, n)) := by
  intro d
  cases d with
  | zero => exact pq_none
  | succ d =>
    have h5 := hC.2.2.2.2
    have fin : PQ (mX0_make_b211 171 (some st) v3 0 f n) (fun y => y = (0, f, n)) := by
      unfold mX0_make_b211 mX0_make_b242 mX0_make_b243
      exact pq_t rfl (pq_ck (pq_ret rfl))
    unfold mX0_make_l16
    refine pq_sb (pq_ck (pq_is (f_csize hC) ?_))
    exact pq_le rfl rfl (fun _ => fin) (fun _ => pq_t rfl fin)
/-- pieces with where they lie in what is built -/
def BD (f : AH) (cf : CFG) (F : BL) (told : Nat → Option BL) (P : List Pc) (k : Nat) : Prop := ∀ i, i < k → ∃ x11, f (75 + i) = some (.inr (3, pcV (nI (P.getD i pc0).1) (nI (P.getD i pc0).2.1) (nI (tAt P i)) (nI (pX (P.getD i pc0)).length) (nI (P.getD i pc0).2.2.2.2.2.1) (nI (P.getD i pc0).2.2.2.2.2.2.1) (bI (P.getD i pc0).2.2.1) (bI (P.getD i pc0).2.2.2.1) (bI (P.getD i pc0).2.2.2.2.1) (nI (bbeg cf F told P i)) (nI (bsz cf F told P i)) x11))
theorem CB_pc {f f' : AH} {c0 i : Nat} (hC : CB f c0 P) (hi : i < 40) (hp : i < P.length → daP (f' (c0 + 16 + i)) (P.getD i pc0) (tAt P i)) (hok : okP (f' (c0 + 16 + i))) (hF : ∀ j, j ≠ c0 + 16 + i → f' j = f j) : CB f' c0 P := by
  obtain ⟨a1, a2, a3, a4, a5⟩ := hC
  refine ⟨(hF _ (by omega)).trans a1, ?_, fun k hk => ?_, fun k hk => ?_, a5⟩
  · rw [hF _ (by omega)]; exact a2
  · by_cases e : k = i
    · rw [e]; exact hok
    · rw [hF _ (by omega)]; exact a3 k hk
  · by_cases e : k = i
    · rw [e]; exact hp (by omega)
    · rw [hF _ (by omega)]; exact a4 k hk
/-- everything that making needs of the heap -/
def MK (f : AH) (st fr lk td rb cc : Nat) (cf : CFG) (l le lc : Int32) (la : Option Nat) (pn : Int32) (F : BL) (told : Nat → Option BL) (P : List Pc) : Prop := CB f 59 P ∧ f st = some (.inr (7, stV fr cf.1 cf.2.1 l le lc la pn lk td)) ∧ isRw f fr rb cc F ∧ TLDS f td told
theorem MK_tr {f f' : AH} (h : MK f st fr lk td rb cc cf l le lc la pn F told P) (hst : st < 59) (htd : td < 59) (hfr : OUT fr) (hrb : OUT rb) (hC : CB f' 59 P) (hF : ∀ j, OUT j → f' j = f j) : MK f' st fr lk td rb cc cf l le lc la pn F told P := by
  obtain ⟨h1, h2, h3, h4⟩ := h
  exact ⟨hC, (hF _ (Or.inl hst)).trans h2, rw_tr h3 (hF _ hfr) (hF _ hrb), TLDS_tr h4 (hF _ (Or.inl htd)) (fun i t j b c _ _ _ k3 k4 => ⟨hF _ k3, hF _ k4⟩)⟩
def MO (f0 f : AH) (n st fr lk td rb cc : Nat) (cf : CFG) (l le lc : Int32) (la : Option Nat) (pn : Int32) (F : BL) (told : Nat → Option BL) (P : List Pc) (y : Int32 × HpN) : Prop := ∃ f', CB f' 59 P ∧ BSh f' ∧ (∀ j, j < 75 ∨ (115 ≤ j ∧ j < 171) ∨ 177 < j → f' j = f0 j) ∧ (((blt cf F told P).length ≤ 600 ∧ y = (1, f', n) ∧ isRw f' 172 173 600 (blt cf F told P) ∧ BD f' cf F told P P.length) ∨ (600 < (blt cf F told P).length ∧ y = (0, f', n)))
theorem f_make_b169 {f : AH} {rec16 : Nat → (Option Nat) → (Option Nat) → Int32 → Int32 → Int32 → AH → Nat → Option (Int32 × HpN)} {v3 v4 v5 : Int32} {i bb : Nat} {w : Option Nat} {x11 x10 : Int32} {L : BL} {b e tf ts kb ks q qi fi : Int32} {Q : Int32 × HpN → Prop} (hb : ∃ qw, f 171 = some (.inr (0, buL qw))) (hr : isRw f 172 173 600 L) (hbb : bb ≤ 600) (hi : i < 40) (hp : f (75 + i) = some (.inr (3, pcV b e tf ts kb ks q qi fi (nI bb) x10 x11))) (hK : ∀ f' y10 z, (bb ≤ L.length → y10 = nI (L.length - bb)) → f' (75 + i) = some (.inr (3, pcV b e tf ts kb ks q qi fi (nI bb) y10 z)) → (∀ j, j ≠ 75 + i → f' j = f j) → PQ (rec16 171 (some st) (some 59) v3 v4 (v5 + 1) f' n) Q) : PQ (mX0_make_b169 rec16 171 (some st) (some 59) v3 v4 v5 (some (75 + i)) w f n) Q := by
  obtain ⟨qw, hb⟩ := hb
  have h6 := rw_6 hr
  unfold mX0_make_b169
  refine pq_gR hb rfl (pq_sb (pq_ck (pq_is (f_size hr) (pq_sb (pq_gI hp rfl ?_)))))
  have e1 : bb ≤ L.length → nI L.length - nI bb = nI (L.length - bb) := fun hbb => Int32.toInt_inj.mp (by rw [i_sub (nI_toInt (by omega)) (nI_toInt (by omega)) (by omega), nI_toInt (by omega)]; omega)
  show PQ ((pO f (75 + i) 3 10 (.int (nI L.length - nI bb))).bind _) _
  generalize nI L.length - nI bb = y10 at e1 ⊢
  refine pq_pO hp rfl ?_
  have fin : ∀ z : Int32, PQ (mX0_make_b202 rec16 171 (some st) (some 59) v3 v4 v5 (some (75 + i)) z (va_up f (75 + i) (some (.inr (3, (pcV b e tf ts kb ks q qi fi (nI bb) x10 x11).set 10 (.int y10))))) n) Q := by
    intro z
    unfold mX0_make_b202
    refine pq_sb (pq_pU (pcV b e tf ts kb ks q qi fi (nI bb) y10 z) rfl rfl ?_)
    exact hK _ y10 z e1 u_eq (fun j hj => u_ne hj)
  cases w with
  | none => exact pq_oNn (fin 0)
  | some j =>
    refine pq_oNs ?_
    have hb2 : va_up f (75 + i) (some (.inr (3, (pcV b e tf ts kb ks q qi fi (nI bb) x10 x11).set 10 (.int y10)))) 171 = some (.inr (0, buL qw)) := (u_ne (by omega)).trans hb
    exact pq_gI hb2 rfl (fin qw)
theorem f_make_l {f0 : AH} (hk : cf.1 = 0 ∨ cf.1 = 1 ∨ cf.1 = 2 ∨ cf.1 = 3) (hki : cf.2.1 = -1 ∨ cf.2.1 = 0 ∨ cf.2.1 = 1 ∨ cf.2.1 = 2 ∨ cf.2.1 = 3) (hst : st < 59) (htd : td < 59) (hfr : OUT fr) (hrb : OUT rb) (hord : ORD P F.length) (hve : VE cf told P) : ∀ (d i : Nat) (f : AH), MK f st fr lk td rb cc cf l le lc la pn F told P → BSh f → isRw f 172 173 600 (rowTo cf F told P i) → i ≤ P.length → BD f cf F told P i → (∀ j, j < 75 ∨ (115 ≤ j ∧ j < 171) ∨ 177 < j → f j = f0 j) → PQ (mX0_make_l16 d 171 (some st) (some 59) (nI (plc P i)) 1 (nI i) f n) (MO f0 f n st fr lk td rb cc cf l le lc la pn F told P) := by
  intro d
  induction d with
  | zero => intro i f _ _ _ _ _ _; exact pq_none
  | succ d ih =>
    intro i f hM hS hR hi hBD hF0
    obtain ⟨hC, hs, hf, hT⟩ := id hM
    have h5 := hC.2.2.2.2
    have hf6 := rw_6 hf
    obtain ⟨⟨qw, hb⟩, -, hSE, hSM⟩ := id hS
    unfold mX0_make_l16
    refine pq_sb (pq_ck (pq_is (f_csize hC) ?_))
    refine pq_le (nI_toInt (by omega)) (nI_toInt (by omega)) (fun h => ?_) (fun h => ?_)
    · -- the end
      have ei : i = P.length := by omega
      subst ei
      unfold mX0_make_b211
      refine pq_f (by decide) (pq_gR hb rfl (pq_sb (pq_gR hs rfl (pq_gR hs rfl (pq_sb (pq_ck (pq_is (f_size hf) (pq_sb (pq_ck ?_)))))))))
      refine pq_call (f_addPart (j := 172) (b := 173) (by rcases hfr with h | h <;> omega) (by rcases hrb with h | h <;> omega) (Nat.le_refl _) hord.2 hR hf) (fun y hy => ?_)
      rcases hy with ⟨g0, f1, rfl, g1, g2⟩ | ⟨g0, f1, L1, rfl, g1, g2⟩
      · refine pq_f (show ¬ (1 : Int32) = 0 by decide) ?_
        unfold mX0_make_b243
        obtain ⟨E0, hE0⟩ := hSE
        obtain ⟨M0, hM0⟩ := hSM
        refine pq_ck (pq_ret ⟨f1, CB_tr hC (g2 _ (by omega) (by omega)) (fun k x1 x2 => g2 k (by omega) (by omega)), ⟨⟨qw, (g2 _ (by omega) (by omega)).trans hb⟩, ⟨_, g1⟩, ⟨E0, rw_tr hE0 (g2 _ (by omega) (by omega)) (g2 _ (by omega) (by omega))⟩, ⟨M0, rw_tr hM0 (g2 _ (by omega) (by omega)) (g2 _ (by omega) (by omega))⟩⟩, fun j hj => (g2 j (by omega) (by omega)).trans (hF0 j hj), Or.inl ⟨?_, rfl, g1, fun k hk2 => ?_⟩⟩)
        · unfold blt
          rw [List.length_append, sl_len (Nat.le_refl _)]; exact g0
        · obtain ⟨x11, e⟩ := hBD k hk2
          exact ⟨x11, (g2 _ (by omega) (by omega)).trans e⟩
      · refine pq_t rfl ?_
        unfold mX0_make_b242 mX0_make_b243
        obtain ⟨E0, hE0⟩ := hSE
        obtain ⟨M0, hM0⟩ := hSM
        refine pq_ck (pq_ret ⟨f1, CB_tr hC (g2 _ (by omega) (by omega)) (fun k x1 x2 => g2 k (by omega) (by omega)), ⟨⟨qw, (g2 _ (by omega) (by omega)).trans hb⟩, ⟨_, g1⟩, ⟨E0, rw_tr hE0 (g2 _ (by omega) (by omega)) (g2 _ (by omega) (by omega))⟩, ⟨M0, rw_tr hM0 (g2 _ (by omega) (by omega)) (g2 _ (by omega) (by omega))⟩⟩, fun j hj => (g2 j (by omega) (by omega)).trans (hF0 j hj), Or.inr ⟨?_, rfl⟩⟩)
        unfold blt
        rw [List.length_append, sl_len (Nat.le_refl _)]; exact g0
    · -- a piece
      have hiP : i < P.length := by omega
      have ho := hord.1 i hiP
      refine pq_f (by decide) (pq_ck (pq_is (f_cgetN hC hiP) (pq_sb (pq_oNs ?_))))
      obtain ⟨y9, y10, y11, hp⟩ := hC.2.2.2.1 i hiP
      have hp : f (75 + i) = some (.inr (3, pcV (nI (P.getD i pc0).1) (nI (P.getD i pc0).2.1) (nI (tAt P i)) (nI (pX (P.getD i pc0)).length) (nI (P.getD i pc0).2.2.2.2.2.1) (nI (P.getD i pc0).2.2.2.2.2.2.1) (bI (P.getD i pc0).2.2.1) (bI (P.getD i pc0).2.2.2.1) (bI (P.getD i pc0).2.2.2.2.1) y9 y10 y11)) := hp
      refine pq_gR hb rfl (pq_sb (pq_gR hs rfl ?_))
      show PQ ((gI f (75 + i) 3 0).bind _) _
      refine pq_gI hp rfl (pq_sb (pq_ck ?_))
      have hfr72 : fr ≠ 172 := by rcases hfr with h | h <;> omega
      have hrb73 : rb ≠ 173 := by rcases hrb with h | h <;> omega
      -- the bytes ahead of it
      have step1 : ∃ Q1 : Int32 × HpN → Prop, PQ (mX5_addPart 172 (some fr) (nI (plc P i)) (nI (P.getD i pc0).1) f n) Q1 ∧ ∀ y, Q1 y → ∃ (ok : Bool) (f1 : AH) (L1 : BL), y = (bI ok, f1, n) ∧ isRw f1 172 173 600 L1 ∧ (∀ j, j ≠ 172 → j ≠ 173 → f1 j = f j) ∧ (ok = true → L1 = rowTo cf F told P i ++ sl F (plc P i) (P.getD i pc0).1) ∧ (ok = false → 600 < (rowTo cf F told P (i + 1)).length) := by
        refine ⟨_, f_addPart (j := 172) (b := 173) hfr72 hrb73 (by omega) ho.1 hR hf, fun y hy => ?_⟩
        rcases hy with ⟨g0, f1, rfl, g1, g2⟩ | ⟨g0, f1, L1, rfl, g1, g2⟩
        · exact ⟨true, f1, _, rfl, g1, g2, fun _ => rfl, (fun h => absurd h (by decide))⟩
        · refine ⟨false, f1, L1, rfl, g1, g2, (fun h => absurd h (by decide)), fun _ => ?_⟩
          show 600 < (rowTo cf F told P i ++ sl F (plc P i) (P.getD i pc0).1 ++ bOf cf F told i (P.getD i pc0)).length
          rw [List.length_append, List.length_append, sl_len (by omega)]; omega
      obtain ⟨Q1, s1, s2⟩ := step1
      refine pq_call s1 (fun y hy => ?_)
      obtain ⟨ok1, f1, L1, rfl, hR1, hF1, hok1, hno1⟩ := s2 y hy
      have hp1 : f1 (75 + i) = _ := (hF1 _ (by omega) (by omega)).trans hp
      have hb1 : f1 171 = some (.inr (0, buL qw)) := (hF1 _ (by omega) (by omega)).trans hb
      show PQ ((gI f1 (75 + i) 3 1).bind _) _
      refine pq_gI hp1 rfl (pq_gR hb1 rfl (pq_sb (pq_ck (pq_is (f_size hR1) ?_))))
      show PQ ((pO f1 (75 + i) 3 9 (.int (nI L1.length))).bind _) _
      refine pq_pO hp1 rfl (pq_ck ?_)
      have hp2 : va_up f1 (75 + i) (some (.inr (3, (pcV (nI (P.getD i pc0).1) (nI (P.getD i pc0).2.1) (nI (tAt P i)) (nI (pX (P.getD i pc0)).length) (nI (P.getD i pc0).2.2.2.2.2.1) (nI (P.getD i pc0).2.2.2.2.2.2.1) (bI (P.getD i pc0).2.2.1) (bI (P.getD i pc0).2.2.2.1) (bI (P.getD i pc0).2.2.2.2.1) y9 y10 y11).set 9 (.int (nI L1.length))))) (75 + i) = some (.inr (3, pcV (nI (P.getD i pc0).1) (nI (P.getD i pc0).2.1) (nI (tAt P i)) (nI (pX (P.getD i pc0)).length) (nI (P.getD i pc0).2.2.2.2.2.1) (nI (P.getD i pc0).2.2.2.2.2.2.1) (bI (P.getD i pc0).2.2.1) (bI (P.getD i pc0).2.2.2.1) (bI (P.getD i pc0).2.2.2.2.1) (nI L1.length) y10 y11)) := u_eq
      generalize ef2 : va_up f1 (75 + i) (some (.inr (3, (pcV (nI (P.getD i pc0).1) (nI (P.getD i pc0).2.1) (nI (tAt P i)) (nI (pX (P.getD i pc0)).length) (nI (P.getD i pc0).2.2.2.2.2.1) (nI (P.getD i pc0).2.2.2.2.2.2.1) (bI (P.getD i pc0).2.2.1) (bI (P.getD i pc0).2.2.2.1) (bI (P.getD i pc0).2.2.2.2.1) y9 y10 y11).set 9 (.int (nI L1.length))))) = f2 at hp2 ⊢
      have hF2 : ∀ j, j ≠ 75 + i → j ≠ 172 → j ≠ 173 → f2 j = f j := fun j x1 x2 x3 => by rw [← ef2]; exact (u_ne x1).trans (hF1 j x2 x3)
      have hR2 : isRw f2 172 173 600 L1 := by rw [← ef2]; exact rw_up hR1 (by omega) (by omega)
      have hC2 : CB f2 59 P := by
        refine CB_pc (c0 := 59) (f := f1) (CB_tr hC (hF1 _ (by omega) (by omega)) (fun k x1 x2 => hF1 k (by omega) (by omega))) (i := i) (by omega) (fun _ => ⟨_, _, _, hp2⟩) ⟨_, _, _, _, _, _, _, _, _, _, _, _, hp2⟩ (fun j hj => by rw [← ef2]; exact u_ne hj)
      have hM2 : MK f2 st fr lk td rb cc cf l le lc la pn F told P := MK_tr hM hst htd hfr hrb hC2 (fun j hj => hF2 j (by rcases hj with h | h <;> omega) (by rcases hj with h | h <;> omega) (by rcases hj with h | h <;> omega))
      obtain ⟨-, hs2, hf2, hT2⟩ := id hM2
      have hS2 : BSh f2 := by
        obtain ⟨E0, hE0⟩ := hSE
        obtain ⟨M0, hM0⟩ := hSM
        exact ⟨⟨qw, (hF2 _ (by omega) (by omega) (by omega)).trans hb⟩, ⟨_, hR2⟩, ⟨E0, rw_tr hE0 (hF2 _ (by omega) (by omega) (by omega)) (hF2 _ (by omega) (by omega) (by omega))⟩, ⟨M0, rw_tr hM0 (hF2 _ (by omega) (by omega) (by omega)) (hF2 _ (by omega) (by omega) (by omega))⟩⟩
      have hR16 := rw_6 hR1
      clear ef2 hp1 hb1
      -- the rest, over any heap in which the piece's bytes came behind
      have rest : ∀ (f3 : AH) (ok : Bool) (L3 : BL) (w : Option Nat), BSh f3 → isRw f3 172 173 600 L3 → (∀ j, j < 171 ∨ 177 < j → f3 j = f2 j) → (ok = true → ok1 = true ∧ L3 = L1 ++ bOf cf F told i (P.getD i pc0)) → (ok = false → 600 < (rowTo cf F told P (i + 1)).length) → PQ (mX0_make_b169 (fun v0 v1 v2 v3 v4 v5 f n => mX0_make_l16 d v0 v1 v2 v3 v4 v5 f n) 171 (some st) (some 59) (nI (P.getD i pc0).2.1) (bI ok) (nI i) (some (75 + i)) w f3 n) (MO f0 f n st fr lk td rb cc cf l le lc la pn F told P) := by
        intro f3 ok L3 w hS3 hR3 hF3 hy3 hn3
        refine f_make_b169 (i := i) (bb := L1.length) hS3.1 hR3 hR16 (by omega) ((hF3 _ (by omega)).trans hp2) (fun f4 y10' z hy10 hp4 hF4 => ?_)
        have hC4 : CB f4 59 P := by
          refine CB_pc (c0 := 59) (f := f3) (CB_tr hC2 (hF3 _ (by omega)) (fun k x1 x2 => hF3 k (by omega))) (i := i) (by omega) (fun _ => ⟨_, _, _, hp4⟩) ⟨_, _, _, _, _, _, _, _, _, _, _, _, hp4⟩ hF4
        have hF40 : ∀ j, j < 75 ∨ (115 ≤ j ∧ j < 171) ∨ 177 < j → f4 j = f0 j := fun j hj => ((hF4 j (by omega)).trans ((hF3 j (by omega)).trans (hF2 j (by omega) (by omega) (by omega)))).trans (hF0 j hj)
        have hS4 : BSh f4 := by
          obtain ⟨⟨q3, k1⟩, ⟨R3, k2⟩, ⟨E3, k3⟩, ⟨M3, k4⟩⟩ := hS3
          exact ⟨⟨q3, (hF4 _ (by omega)).trans k1⟩, ⟨R3, rw_tr k2 (hF4 _ (by omega)) (hF4 _ (by omega))⟩, ⟨E3, rw_tr k3 (hF4 _ (by omega)) (hF4 _ (by omega))⟩, ⟨M3, rw_tr k4 (hF4 _ (by omega)) (hF4 _ (by omega))⟩⟩
        show PQ (mX0_make_l16 d 171 (some st) (some 59) (nI (P.getD i pc0).2.1) (bI ok) (nI i + 1) f4 n) _
        rw [nI_1]
        cases ok with
        | false =>
          refine pq_tail (f_make_0 hC4 d) (fun y hy => ?_)
          refine ⟨f4, hC4, hS4, hF40, Or.inr ⟨?_, hy⟩⟩
          exact Nat.lt_of_lt_of_le (hn3 rfl) (blt_ge (by omega))
        | true =>
          obtain ⟨k1, k2⟩ := hy3 rfl
          have eL1 := hok1 k1
          have hM4 : MK f4 st fr lk td rb cc cf l le lc la pn F told P := MK_tr hM2 hst htd hfr hrb hC4 (fun j hj => (hF4 j (by rcases hj with h | h <;> omega)).trans (hF3 j (by rcases hj with h | h <;> omega)))
          have eR : L3 = rowTo cf F told P (i + 1) := by rw [k2, eL1]; rfl
          have hy10' := hy10 (by rw [k2, List.length_append]; omega)
          rw [hy10'] at hp4
          rw [eR] at hR3 hp4
          refine ih (i + 1) f4 hM4 hS4 (rw_tr hR3 (hF4 _ (by omega)) (hF4 _ (by omega))) (by omega) (fun k hk2 => ?_) hF40
          by_cases ek : k = i
          · subst ek
            refine ⟨z, ?_⟩
            rw [hp4]
            have e1 : L1.length = bbeg cf F told P k := by rw [eL1]; rfl
            have e2 : (rowTo cf F told P (k + 1)).length - L1.length = bsz cf F told P k := by
              have : (rowTo cf F told P (k + 1)).length = L1.length + bsz cf F told P k := by
                rw [eL1]
                show (rowTo cf F told P k ++ sl F (plc P k) (P.getD k pc0).1 ++ bOf cf F told k (P.getD k pc0)).length = _
                rw [List.length_append]; rfl
              omega
            rw [e1] at e2 ⊢
            rw [e2]
          · obtain ⟨x11, e⟩ := hBD k (by omega)
            exact ⟨x11, ((hF4 _ (by omega)).trans ((hF3 _ (by omega)).trans (hF2 _ (by omega) (by omega) (by omega)))).trans e⟩
      refine pq_call (f_toldFor hs2 rfl hT2) (fun y hy => ?_)
      obtain ⟨w, rfl, hw⟩ := hy
      have ev : toldV told (nI i) = told i := by
        unfold toldV
        rw [nI_toInt (by omega), if_pos (by omega)]; rfl
      rw [ev] at hw
      refine pq_sb ?_
      cases et : told i with
      | none =>
        rw [et] at hw
        have hw : w = none := hw
        subst hw
        refine pq_oNn ?_
        obtain ⟨⟨qw2, hb2⟩, -, -, -⟩ := id hS2
        refine pq_gR hb2 rfl (pq_gR hs2 rfl ?_)
        show PQ ((gI f2 (75 + i) 3 0).bind _) _
        refine pq_gI hp2 rfl ?_
        show PQ ((gI f2 (75 + i) 3 1).bind _) _
        refine pq_gI hp2 rfl (pq_sb (pq_ck ?_))
        have eb : bOf cf F told i (P.getD i pc0) = sl F (P.getD i pc0).1 (P.getD i pc0).2.1 := by unfold bOf; rw [et]
        obtain ⟨-, -, ⟨E0, hE0⟩, ⟨M0, hM0⟩⟩ := id hS2
        refine pq_call (f_addPart (j := 172) (b := 173) hfr72 hrb73 ho.2.2 (by omega) hR2 hf2) (fun y hy => ?_)
        rcases hy with ⟨g0, f3, rfl, g1, g2⟩ | ⟨g0, f3, L3, rfl, g1, g2⟩
        · have hS3 : BSh f3 := ⟨⟨qw2, (g2 _ (by omega) (by omega)).trans hb2⟩, ⟨_, g1⟩, ⟨E0, rw_tr hE0 (g2 _ (by omega) (by omega)) (g2 _ (by omega) (by omega))⟩, ⟨M0, rw_tr hM0 (g2 _ (by omega) (by omega)) (g2 _ (by omega) (by omega))⟩⟩
          have h9 := rest f3 ok1 _ none hS3 g1 (fun j hj => g2 j (by omega) (by omega)) (fun h => ⟨h, by rw [eb]⟩) hno1
          have ea : bI ok1 &&& 1 = bI ok1 := by cases ok1 <;> decide
          show PQ (mX0_make_b169 _ 171 (some st) (some 59) _ (bI ok1 &&& 1) (nI i) (some (75 + i)) none f3 n) _
          rw [ea]; exact h9
        · have hS3 : BSh f3 := ⟨⟨qw2, (g2 _ (by omega) (by omega)).trans hb2⟩, ⟨_, g1⟩, ⟨E0, rw_tr hE0 (g2 _ (by omega) (by omega)) (g2 _ (by omega) (by omega))⟩, ⟨M0, rw_tr hM0 (g2 _ (by omega) (by omega)) (g2 _ (by omega) (by omega))⟩⟩
          have h9 := rest f3 false L3 none hS3 g1 (fun j hj => g2 j (by omega) (by omega)) (fun h => absurd h (by decide)) (fun _ => ?_)
          · have ea : bI ok1 &&& 0 = bI false := by cases ok1 <;> decide
            show PQ (mX0_make_b169 _ 171 (some st) (some 59) _ (bI ok1 &&& 0) (nI i) (some (75 + i)) none f3 n) _
            rw [ea]; exact h9
          · cases ek : ok1 with
            | false => exact hno1 ek
            | true =>
              rw [hok1 ek] at g0
              show 600 < (rowTo cf F told P i ++ sl F (plc P i) (P.getD i pc0).1 ++ bOf cf F told i (P.getD i pc0)).length
              rw [List.length_append, eb, sl_len ho.2.2]; exact g0
      | some t =>
        rw [et] at hw
        obtain ⟨j, b1, c1, rfl, k1, k2, k3, k4⟩ := hw
        refine pq_oNs (pq_ck ?_)
        have hve' := hve i t hiP et
        obtain ⟨E, hE⟩ := Option.isSome_iff_exists.mp hve'
        have eb : bOf cf F told i (P.getD i pc0) = E := by unfold bOf; rw [et]; show (escFor cf (P.getD i pc0) t).getD [] = E; rw [hE]; rfl
        refine pq_call (f_escape (x := P.getD i pc0) (jp := 75 + i) hk hki hp2 (by omega) hs2 (by omega) hS2 k1 (by rcases k2 with h | h <;> omega) (by rcases k3 with h | h <;> omega) k4) (fun y hy => ?_)
        rw [hE] at hy
        obtain ⟨f3, ⟨rfl, e1⟩, ⟨q3, e2⟩, -, ⟨M3, e4⟩, e5⟩ := hy
        refine pq_f (show ¬ (1 : Int32) = 0 by decide) ?_
        refine pq_gR e2 rfl (pq_gR e2 rfl (pq_gR e2 rfl (pq_sb (pq_ck (pq_is (f_size e1) (pq_sb (pq_ck ?_)))))))
        have hR3 : isRw f3 172 173 600 L1 := rw_tr hR2 (e5 _ (by omega)) (e5 _ (by omega))
        refine pq_call (f_addPart (j := 172) (b := 173) (i := 0) (by omega) (by omega) (Nat.le_refl _) (Nat.zero_le _) hR3 e1) (fun y hy => ?_)
        rw [sl_all] at hy
        rcases hy with ⟨g0, f4, rfl, g1, g2⟩ | ⟨g0, f4, L3, rfl, g1, g2⟩
        · have hS4 : BSh f4 := ⟨⟨q3, (g2 _ (by omega) (by omega)).trans e2⟩, ⟨_, g1⟩, ⟨E, rw_tr e1 (g2 _ (by omega) (by omega)) (g2 _ (by omega) (by omega))⟩, ⟨M3, rw_tr e4 (g2 _ (by omega) (by omega)) (g2 _ (by omega) (by omega))⟩⟩
          have h9 := rest f4 ok1 _ (some j) hS4 g1 (fun j hj => (g2 j (by omega) (by omega)).trans (e5 j (by omega))) (fun h => ⟨h, by rw [eb]⟩) hno1
          refine pq_f (show ¬ (1 : Int32) = 0 by decide) ?_
          unfold mX0_make_b166
          have ea : bI ok1 &&& 1 = bI ok1 := by cases ok1 <;> decide
          show PQ (mX0_make_b169 _ 171 (some st) (some 59) _ (bI ok1 &&& 1) (nI i) (some (75 + i)) (some j) f4 n) _
          rw [ea]; exact h9
        · have hS4 : BSh f4 := ⟨⟨q3, (g2 _ (by omega) (by omega)).trans e2⟩, ⟨_, g1⟩, ⟨E, rw_tr e1 (g2 _ (by omega) (by omega)) (g2 _ (by omega) (by omega))⟩, ⟨M3, rw_tr e4 (g2 _ (by omega) (by omega)) (g2 _ (by omega) (by omega))⟩⟩
          have h9 := rest f4 false L3 (some j) hS4 g1 (fun j hj => (g2 j (by omega) (by omega)).trans (e5 j (by omega))) (fun h => absurd h (by decide)) (fun _ => ?_)
          · refine pq_t rfl ?_
            unfold mX0_make_b165 mX0_make_b166
            have ea : bI ok1 &&& 0 = bI false := by cases ok1 <;> decide
            show PQ (mX0_make_b169 _ 171 (some st) (some 59) _ (bI ok1 &&& 0) (nI i) (some (75 + i)) (some j) f4 n) _
            rw [ea]; exact h9
          · cases ek : ok1 with
            | false => exact hno1 ek
            | true =>
              rw [hok1 ek] at g0
              show 600 < (rowTo cf F told P i ++ sl F (plc P i) (P.getD i pc0).1 ++ bOf cf F told i (P.getD i pc0)).length
              rw [List.length_append, eb]; exact g0
theorem f_make {f : AH} (hk : cf.1 = 0 ∨ cf.1 = 1 ∨ cf.1 = 2 ∨ cf.1 = 3) (hki : cf.2.1 = -1 ∨ cf.2.1 = 0 ∨ cf.2.1 = 1 ∨ cf.2.1 = 2 ∨ cf.2.1 = 3) (hst : st < 59) (htd : td < 59) (hfr : OUT fr) (hrb : OUT rb) (hord : ORD P F.length) (hve : VE cf told P) (hM : MK f st fr lk td rb cc cf l le lc la pn F told P) (hS : BSh f) : PQ (mX0_make 171 (some st) (some 59) f n) (MO f f n st fr lk td rb cc cf l le lc la pn F told P) := by
  obtain ⟨⟨qw, hb⟩, ⟨R, hR⟩, ⟨E0, hE0⟩, ⟨M0, hM0⟩⟩ := id hS
  unfold mX0_make
  refine pq_gR hb rfl (pq_sb (pq_ck ?_))
  refine pq_call (f_cutTo hR (m := 0) (by omega)) (fun y hy => ?_)
  obtain ⟨f1, rfl, g1, g2⟩ := hy
  have hC1 : CB f1 59 P := CB_tr hM.1 (g2 _ (by omega)) (fun k x1 x2 => g2 k (by omega))
  exact f_make_l (f0 := f) hk hki hst htd hfr hrb hord hve rFU 0 f1 (MK_tr hM hst htd hfr hrb hC1 (fun j hj => g2 j (by rcases hj with h | h <;> omega))) ⟨⟨qw, (g2 _ (by omega)).trans hb⟩, ⟨_, g1⟩, ⟨E0, rw_tr hE0 (g2 _ (by omega)) (g2 _ (by omega))⟩, ⟨M0, rw_tr hM0 (g2 _ (by omega)) (g2 _ (by omega))⟩⟩ g1 (Nat.zero_le _) (fun k hk => absurd hk (Nat.not_lt_zero _)) (fun j hj => g2 j (by omega))
end MK2
end
/-! part 55a.ord -/
section
/-! pieces lie in order -/
def SRTD (N : Nat) : Nat → List CI → Prop
  | _, [] => True
  | e, c :: cs => e ≤ c.1 ∧ c.1 < c.2.1 ∧ c.2.1 ≤ N ∧ SRTD N c.2.1 cs
theorem SRT_mono {N : Nat} {cs : List CI} {e e' : Nat} (h : SRTD N e cs) (he : e' ≤ e) : SRTD N e' cs := by
  cases cs with
  | nil => trivial
  | cons c cs => exact ⟨Nat.le_trans he h.1, h.2⟩
theorem cutL_srt {k : Int32} {L : BL} : ∀ (d a : Nat), L.length - a ≤ d → SRTD L.length a (cutL k L a) := by
  intro d
  induction d with
  | zero => intro a h; rw [cutL_end (by omega)]; trivial
  | succ d ih =>
    intro a h
    by_cases ha : a < L.length
    · rw [cutL_st ha]
      have hg := stepK_gt (k := k) ha
      have h2 := ih (stepK k L a).2 (by omega)
      cases e1 : (stepK k L a).1 with
      | none => exact SRT_mono h2 (by omega)
      | some c =>
        have hb := stepK_b ha e1
        exact ⟨hb.1, hb.2.1, hb.2.2.1, SRT_mono h2 hb.2.2.2⟩
    · rw [cutL_end (by omega)]; trivial
theorem plc_l {P R : List Pc} {i : Nat} (h : i ≤ P.length) : plc (P ++ R) i = plc P i := by
  cases i with
  | zero => rfl
  | succ i => show ((P ++ R).getD i pc0).2.1 = _; rw [pgd_l (by omega)]; rfl
theorem ORD_mono {P : List Pc} {N M : Nat} (h : ORD P N) (hm : N ≤ M) : ORD P M := ⟨fun i hi => ⟨(h.1 i hi).1, (h.1 i hi).2.1, Nat.le_trans (h.1 i hi).2.2 hm⟩, Nat.le_trans h.2 hm⟩
theorem ORD_app {P : List Pc} {N : Nat} {x : Pc} (h : ORD P N) (h1 : N ≤ x.1) (h2 : x.1 < x.2.1) : ORD (P ++ [x]) x.2.1 := by
  refine ⟨fun i hi => ?_, ?_⟩
  · rw [List.length_append] at hi
    by_cases e : i = P.length
    · rw [e, plc_l (Nat.le_refl _), pgd_n]
      exact ⟨Nat.le_trans h.2 h1, h2, Nat.le_refl _⟩
    · have hi2 : i < P.length := by have : i < P.length + 1 := hi; omega
      rw [plc_l (by omega), pgd_l hi2]
      have := h.1 i hi2
      exact ⟨this.1, this.2.1, by omega⟩
  · rw [List.length_append]
    show ((P ++ [x]).getD P.length pc0).2.1 ≤ _
    rw [pgd_n]; exact Nat.le_refl _
theorem ORD_tk {cf : CFG} {P : List Pc} {N : Nat} {x : Pc} (h : ORD P N) (h1 : N ≤ x.1) (h2 : x.1 < x.2.1) : ORD (tk cf P x) x.2.1 := by
  unfold tk
  split
  · exact ORD_app h h1 h2
  · exact ORD_mono h (by omega)
/-- where a byte of what is meant begins, or the end -/
def ueA (u : List UI) (b i : Nat) : Nat := if i < u.length then (u.getD i u0).2.1 else b
theorem ue_st {k : Int32} {q : Bool} {L : BL} {a b i : Nat} (hi : i < (und k q L a b).length) : ueA (und k q L a b) b i < ueA (und k q L a b) b (i + 1) ∧ ((und k q L a b).getD i u0).2.2 = ueA (und k q L a b) b (i + 1) := by
  have h := und_ch (k := k) (q := q) (L := L) (b := b) _ a (Nat.le_refl _) i hi
  unfold ueA
  rw [if_pos hi]
  by_cases h1 : i + 1 < (und k q L a b).length
  · rw [if_pos h1, ← h.2.2.2.2.1 h1]
    exact ⟨h.2.1, rfl⟩
  · rw [if_neg h1]
    have h9 := h.2.2.2.2.2 (by omega)
    exact ⟨by have := h.2.1; omega, h9⟩
theorem ue_mono {k : Int32} {q : Bool} {L : BL} {a b i j : Nat} (h : i ≤ j) : ueA (und k q L a b) b i ≤ ueA (und k q L a b) b j := by
  obtain ⟨d, rfl⟩ : ∃ d, j = i + d := ⟨j - i, by omega⟩
  clear h
  induction d with
  | zero => exact Nat.le_refl _
  | succ d ih =>
    refine Nat.le_trans ih ?_
    by_cases h1 : i + d < (und k q L a b).length
    · exact Nat.le_of_lt (ue_st h1).1
    · show ueA _ b (i + d) ≤ ueA _ b (i + d + 1)
      unfold ueA
      rw [if_neg h1, if_neg (by omega)]; exact Nat.le_refl _
theorem ue_end {u : List UI} {b i : Nat} (h : u.length ≤ i) : ueA u b i = b := if_neg (by omega)
theorem ORD_in {cf : CFG} {L : BL} {c : CI} : ∀ (ds : List CI) (P : List Pc) (a N : Nat), SRTD (uOf cf L c).length a ds → ORD P N → N ≤ ueA (uOf cf L c) c.2.1 a → ∃ M, M ≤ c.2.1 ∧ ORD ((ds.map (pcI cf c (uOf cf L c))).foldl (tk cf) P) (Nat.max N M) := by
  intro ds
  induction ds with
  | nil => intro P a N _ h _; exact ⟨0, Nat.zero_le _, ORD_mono h (Nat.le_max_left _ _)⟩
  | cons d ds ih =>
    intro P a N hs h hN
    obtain ⟨h1, h2, h3, h4⟩ := hs
    have hlt : d.1 < (uOf cf L c).length := by omega
    have e1 : (pcI cf c (uOf cf L c) d).1 = ueA (uOf cf L c) c.2.1 d.1 := by
      unfold ueA
      rw [if_pos hlt]; rfl
    have e2 : (pcI cf c (uOf cf L c) d).2.1 = ueA (uOf cf L c) c.2.1 d.2.1 := by
      have := (ue_st (k := cf.1) (q := c.2.2.1) (L := L) (a := c.1) (b := c.2.1) (i := d.2.1 - 1) (by show d.2.1 - 1 < (uOf cf L c).length; omega)).2
      rw [show d.2.1 - 1 + 1 = d.2.1 by omega] at this
      exact this
    have m1 : ueA (uOf cf L c) c.2.1 a ≤ ueA (uOf cf L c) c.2.1 d.1 := ue_mono h1
    have m2 : ueA (uOf cf L c) c.2.1 d.1 < ueA (uOf cf L c) c.2.1 (d.1 + 1) := (ue_st hlt).1
    have m3 : ueA (uOf cf L c) c.2.1 (d.1 + 1) ≤ ueA (uOf cf L c) c.2.1 d.2.1 := ue_mono h2
    have m4 : ueA (uOf cf L c) c.2.1 d.2.1 ≤ c.2.1 := by
      have : ueA (uOf cf L c) c.2.1 d.2.1 ≤ ueA (uOf cf L c) c.2.1 (uOf cf L c).length := ue_mono h3
      rw [ue_end (Nat.le_refl _)] at this
      exact this
    have hT := ORD_tk (cf := cf) (x := pcI cf c (uOf cf L c) d) h (by rw [e1]; omega) (by rw [e1, e2]; omega)
    rw [e2] at hT
    obtain ⟨M, hM1, hM2⟩ := ih _ d.2.1 _ h4 hT (Nat.le_refl _)
    refine ⟨Nat.max (ueA (uOf cf L c) c.2.1 d.2.1) M, Nat.max_le.mpr ⟨m4, hM1⟩, ?_⟩
    exact ORD_mono hM2 (Nat.le_max_right _ _)
theorem ORD_out {cf : CFG} {L : BL} : ∀ (cs : List CI) (P : List Pc) (e N : Nat), SRTD L.length e cs → ORD P N → N ≤ e → N ≤ L.length → ORD (cs.foldl (tkC cf L) P) L.length := by
  intro cs
  induction cs with
  | nil => intro P e N _ h _ hN; exact ORD_mono h hN
  | cons c cs ih =>
    intro P e N hs h hNe hN
    obtain ⟨h1, h2, h3, h4⟩ := hs
    have key : ORD (tkC cf L P c) c.2.1 := by
      unfold tkC
      split
      · exact ORD_mono h (by omega)
      · unfold pcC
        split
        · exact ORD_tk (x := pcO cf L c) h (by show N ≤ c.1; omega) h2
        · have hul : ((uOf cf L c).map (fun x => x.1)).length = (uOf cf L c).length := List.length_map _
          have hsr := cutL_srt (k := cf.2.1) (L := (uOf cf L c).map (fun x => x.1)) _ 0 (Nat.le_refl _)
          rw [hul] at hsr
          have hne := (und_len (k := cf.1) (q := c.2.2.1) (L := L) (b := c.2.1) _ c.1 (Nat.le_refl _)).2 h2
          have h0 : ueA (uOf cf L c) c.2.1 0 = c.1 := by
            unfold ueA
            rw [if_pos (show 0 < (uOf cf L c).length from hne)]
            exact (und_ch (k := cf.1) (q := c.2.2.1) (L := L) (b := c.2.1) _ c.1 (Nat.le_refl _) 0 hne).2.2.2.1 rfl
          obtain ⟨M, hM1, hM2⟩ := ORD_in _ P 0 N hsr h (by rw [h0]; omega)
          exact ORD_mono hM2 (Nat.max_le.mpr ⟨by omega, hM1⟩)
    exact ih _ c.2.1 c.2.1 h4 key (Nat.le_refl _) h3
theorem pcs_ord {cf : CFG} {L : BL} : ORD (pcs cf L) L.length := ORD_out _ [] 0 0 (cutL_srt _ 0 (Nat.le_refl _)) ⟨fun i hi => absurd hi (Nat.not_lt_zero _), Nat.le_refl _⟩ (Nat.le_refl _) (Nat.zero_le _)
end
/-! part 55b.st -/
section
/-! a state of the class -/
abbrev SST : Type := BL × CFG × (Nat → Option BL) × List (BL × BL)
def IMM (n j : Nat) : Prop := (224 ≤ j ∧ j < n) ∨ (3 ≤ j ∧ j < 18 ∧ ((j - 3) % 5 = 1 ∨ (j - 3) % 5 = 2)) ∨ (19 ≤ j ∧ j < 59 ∧ ((j - 19) % 5 = 1 ∨ (j - 19) % 5 = 2))
def SID (s : Nat) : Prop := (3 ≤ s ∧ s < 18 ∧ (s - 3) % 5 = 0) ∨ (19 ≤ s ∧ s < 59 ∧ (s - 19) % 5 = 0)
theorem IMM_out {n j : Nat} (h : IMM n j) : OUT j := by unfold IMM at h; unfold OUT; omega
theorem IMM_ne {n j s : Nat} (h : IMM n j) (hs : SID s) : j ≠ s ∧ j ≠ s + 3 ∧ j ≠ s + 4 := by unfold IMM at h; unfold SID at hs; omega
theorem IMM_n {n n' j : Nat} (h : IMM n j) (hn : n ≤ n') : IMM n' j := by unfold IMM at h ⊢; omega
theorem IMM_lt {n j : Nat} (h : IMM n j) (hn : 224 ≤ n) : j < n := by unfold IMM at h; omega
theorem IMM_1 {n j : Nat} (h : IMM n j) : j ≠ 0 ∧ j ≠ 1 ∧ j ≠ 2 ∧ j ≠ 18 ∧ (j < 59 ∨ 224 ≤ j) := by unfold IMM at h; omega
theorem SID_lt {s : Nat} (h : SID s) : s + 4 < 59 ∧ 3 ≤ s ∧ s ≠ 18 ∧ s + 3 ≠ 18 ∧ s + 4 ≠ 18 := by unfold SID at h; omega
theorem SID_ne {s s' : Nat} (h : SID s) (h' : SID s') (e : s ≠ s') : s ≠ s' + 3 ∧ s ≠ s' + 4 ∧ s + 3 ≠ s' ∧ s + 3 ≠ s' + 3 ∧ s + 3 ≠ s' + 4 ∧ s + 4 ≠ s' ∧ s + 4 ≠ s' + 3 ∧ s + 4 ≠ s' + 4 := by unfold SID at h h'; omega
/-- a row that is never changed -/
def RI1 (f : AH) (n j : Nat) (L : BL) : Prop := ∃ b c, isRw f j b c L ∧ IMM n j ∧ IMM n b
theorem RI1_tr {f f' : AH} {n n' j : Nat} {L : BL} (h : RI1 f n j L) (hF : ∀ i, IMM n i → f' i = f i) (hn : n ≤ n') : RI1 f' n' j L := by
  obtain ⟨b, c, h1, h2, h3⟩ := h
  exact ⟨b, c, rw_tr h1 (hF _ h2) (hF _ h3), IMM_n h2 hn, IMM_n h3 hn⟩
/-- the chain of pairs -/
def PCH (f : AH) (n : Nat) : List (BL × BL) → Option Nat → Prop
  | [], w => w = none
  | p :: r, w => ∃ j jt jd older, w = some j ∧ IMM n j ∧ f j = some (.inr (2, [.ref jt, .ref jd, va_rf older])) ∧ RI1 f n jt p.1 ∧ RI1 f n jd p.2 ∧ PCH f n r older
theorem PCH_tr {f f' : AH} {n n' : Nat} (hF : ∀ i, IMM n i → f' i = f i) (hn : n ≤ n') : ∀ (r : List (BL × BL)) (w : Option Nat), PCH f n r w → PCH f' n' r w := by
  intro r
  induction r with
  | nil => intro w h; exact h
  | cons p r ih =>
    intro w h
    obtain ⟨j, jt, jd, older, h1, h2, h3, h4, h5, h6⟩ := h
    exact ⟨j, jt, jd, older, h1, IMM_n h2 hn, (hF _ h2).trans h3, RI1_tr h4 hF hn, RI1_tr h5 hF hn, ih older h6⟩
def LKA (f : AH) (n lk : Nat) (locks : List BL) : Prop := ∃ g : Nat → Option Nat, f lk = some (.inl (2, 4, .inr (.inr g))) ∧ ∀ l, l < locks.length → ∃ j, g l = some j ∧ RI1 f n j (locks.getD l [])
def TDA (f : AH) (n td : Nat) (told : Nat → Option BL) : Prop := ∃ g : Nat → Option Nat, f td = some (.inl (2, 40, .inr (.inr g))) ∧ ∀ i, i < 40 → (match told i with
  | none => g i = none
  | some t => ∃ j, g i = some j ∧ RI1 f n j t ∧ t.length ≤ 60)
def CFok (cf : CFG) : Prop := (cf.1 = 0 ∨ cf.1 = 1 ∨ cf.1 = 2 ∨ cf.1 = 3) ∧ (cf.2.1 = -1 ∨ cf.2.1 = 0 ∨ cf.2.1 = 1 ∨ cf.2.1 = 2 ∨ cf.2.1 = 3) ∧ (cf.2.2.1 = 0 ∨ cf.2.2.1 = 1) ∧ (1 ≤ cf.2.2.2.1 ∧ cf.2.2.2.1 ≤ 40) ∧ cf.2.2.2.2.length ≤ 4 ∧ ∀ w ∈ cf.2.2.2.2, w.length ≤ 8
def STT (f : AH) (n s : Nat) (S : SST) : Prop := (∃ fr la, f s = some (.inr (7, stV fr S.2.1.1 S.2.1.2.1 S.2.1.2.2.1 (nI S.2.1.2.2.2.1) (nI S.2.1.2.2.2.2.length) la (nI S.2.2.2.length) (s + 3) (s + 4))) ∧ RI1 f n fr S.1 ∧ ∃ full, PCH f n full la ∧ S.2.2.2 = full.take 12) ∧ LKA f n (s + 3) S.2.1.2.2.2.2 ∧ TDA f n (s + 4) S.2.2.1 ∧ CFok S.2.1 ∧ S.1.length ≤ 400
def SSh (f : AH) (s : Nat) : Prop := (∃ fr k i l le lc la pn, f s = some (.inr (7, stV fr k i l le lc la pn (s + 3) (s + 4)))) ∧ (∃ g : Nat → Option Nat, f (s + 3) = some (.inl (2, 4, .inr (.inr g)))) ∧ (∃ g : Nat → Option Nat, f (s + 4) = some (.inl (2, 40, .inr (.inr g))))
theorem STT_sh {f : AH} {n s : Nat} {S : SST} (h : STT f n s S) : SSh f s := by
  obtain ⟨⟨fr, la, h1, -⟩, ⟨g, h2, -⟩, ⟨g', h3, -⟩, -⟩ := h
  exact ⟨⟨_, _, _, _, _, _, _, _, h1⟩, ⟨g, h2⟩, ⟨g', h3⟩⟩
theorem STT_tr {f f' : AH} {n n' s : Nat} {S : SST} (h : STT f n s S) (h0 : f' s = f s) (h3 : f' (s + 3) = f (s + 3)) (h4 : f' (s + 4) = f (s + 4)) (hF : ∀ i, IMM n i → f' i = f i) (hn : n ≤ n') : STT f' n' s S := by
  obtain ⟨⟨fr, la, a1, a2, full, a3, a4⟩, ⟨g, b1, b2⟩, ⟨g', c1, c2⟩, d1, d2⟩ := h
  refine ⟨⟨fr, la, h0.trans a1, RI1_tr a2 hF hn, full, PCH_tr hF hn full la a3, a4⟩, ⟨g, h3.trans b1, fun l hl => ?_⟩, ⟨g', h4.trans c1, fun i hi => ?_⟩, d1, d2⟩
  · obtain ⟨j, e1, e2⟩ := b2 l hl
    exact ⟨j, e1, RI1_tr e2 hF hn⟩
  · have h5 := c2 i hi
    cases e : S.2.2.1 i with
    | none => rw [e] at h5; exact h5
    | some t =>
      rw [e] at h5
      obtain ⟨j, e1, e2, e3⟩ := h5
      exact ⟨j, e1, RI1_tr e2 hF hn, e3⟩
theorem SSh_tr {f f' : AH} {s : Nat} (h : SSh f s) (h0 : f' s = f s) (h3 : f' (s + 3) = f (s + 3)) (h4 : f' (s + 4) = f (s + 4)) : SSh f' s := by
  unfold SSh at h ⊢
  rw [h0, h3, h4]; exact h
theorem STT_lks {f : AH} {n s c0 : Nat} {S : SST} (h : STT f n s S) (hs : SID s) (hc : c0 = 59 ∨ c0 = 115) : LKS f c0 (s + 3) S.2.1.2.2.2.2 := by
  obtain ⟨-, ⟨g, b1, b2⟩, -, d1, -⟩ := h
  have h1 := SID_lt hs
  refine ⟨⟨g, b1, fun l hl => ?_⟩, d1.2.2.2.2.1, by omega⟩
  obtain ⟨j, e1, b, c, e2, e3, e4⟩ := b2 l hl
  have i1 := IMM_1 e3
  have i2 := IMM_1 e4
  exact ⟨j, b, c, e1, e2, by omega, by omega⟩
theorem STT_tld {f : AH} {n s : Nat} {S : SST} (h : STT f n s S) : TLDS f (s + 4) S.2.2.1 := by
  obtain ⟨-, -, ⟨g, b1, b2⟩, -⟩ := h
  refine ⟨g, b1, fun i hi => ?_⟩
  have h5 := b2 i hi
  cases e : S.2.2.1 i with
  | none => rw [e] at h5; exact h5
  | some t =>
    rw [e] at h5
    obtain ⟨j, e1, ⟨b, c, e2, e3, e4⟩, e5⟩ := h5
    exact ⟨j, b, c, e1, e2, IMM_out e3, IMM_out e4, e5⟩
/-! one state out of another -/
theorem f_copy_l104 {n s s' : Nat} {fs fs' : List Value} {g' : Nat → Option Nat} (hs : fs[9]? = some (.ref (s + 4))) (hs' : fs'[9]? = some (.ref (s' + 4))) (hne : s ≠ s + 4 ∧ s' ≠ s + 4 ∧ s' + 4 ≠ s + 4) : ∀ (d i : Nat) (f : AH) (g : Nat → Option Nat), f s = some (.inr (7, fs)) → f s' = some (.inr (7, fs')) → f (s + 4) = some (.inl (2, 40, .inr (.inr g))) → f (s' + 4) = some (.inl (2, 40, .inr (.inr g'))) → i ≤ 40 → (∀ k, k < i → g k = g' k) → PQ (mX7_copyFrom_l104 d s (some s') (nI i) f n) (fun y => ∃ f' g2, y = (0, f', n) ∧ f' (s + 4) = some (.inl (2, 40, .inr (.inr g2))) ∧ (∀ k, k < 40 → g2 k = g' k) ∧ ∀ j, j ≠ s + 4 → f' j = f j) := by
  intro d
  induction d with
  | zero => intro i f g _ _ _ _ _ _; exact pq_none
  | succ d ih =>
    intro i f g h1 h2 h3 h4 hi hg
    unfold mX7_copyFrom_l104
    refine pq_gR h1 hs (pq_sb (pq_gL h3 (by omega) ?_))
    refine pq_le kn_40 (nI_toInt (by omega)) (fun h => ?_) (fun h => ?_)
    · exact pq_ret ⟨f, g, rfl, h3, fun k hk => hg k (by omega), fun _ _ => rfl⟩
    · refine pq_sb (pq_gR h2 hs' (pq_sb (pq_gL h4 (by omega) (pq_f (nI_ge (by omega) (by omega)) (pq_gR h1 hs (pq_gR h2 hs' (pq_sb ?_)))))))
      refine pq_gRA h4 (fun _ => pq_sb (pq_pRA h3 (fun _ => ?_)))
      rw [nI_1, nI_clamp (by omega)]
      refine pq_tail (ih (i + 1) _ (va_up g i (g' i)) ((u_ne hne.1).trans h1) ((u_ne hne.2.1).trans h2) u_eq ((u_ne hne.2.2).trans h4) (by omega) (fun k hk => ?_)) (fun y hy => ?_)
      · by_cases e : k = i
        · rw [e, u_eq]
        · rw [u_ne e]; exact hg k (by omega)
      · obtain ⟨f', g2, rfl, k1, k2, k3⟩ := hy
        exact ⟨f', g2, rfl, k1, k2, fun j hj => (k3 j hj).trans (u_ne hj)⟩
theorem f_copy_l66 {n s s' : Nat} {fs fs' : List Value} {gl' gt' : Nat → Option Nat} (hs8 : fs[8]? = some (.ref (s + 3))) (hs8' : fs'[8]? = some (.ref (s' + 3))) (hs : fs[9]? = some (.ref (s + 4))) (hs' : fs'[9]? = some (.ref (s' + 4))) (hne : s ≠ s' ∧ s ≠ s' + 3 ∧ s ≠ s' + 4 ∧ s' ≠ s + 3 ∧ s' ≠ s + 4 ∧ s' + 3 ≠ s + 3 ∧ s' + 3 ≠ s + 4 ∧ s' + 4 ≠ s + 3 ∧ s' + 4 ≠ s + 4) : ∀ (d i : Nat) (f : AH) (gl gt : Nat → Option Nat), f s = some (.inr (7, fs)) → f s' = some (.inr (7, fs')) → f (s + 3) = some (.inl (2, 4, .inr (.inr gl))) → f (s' + 3) = some (.inl (2, 4, .inr (.inr gl'))) → f (s + 4) = some (.inl (2, 40, .inr (.inr gt))) → f (s' + 4) = some (.inl (2, 40, .inr (.inr gt'))) → i ≤ 4 → (∀ k, k < i → gl k = gl' k) → PQ (mX7_copyFrom_l66 d s (some s') (nI i) f n) (fun y => ∃ f' g2 g3, y = (0, f', n) ∧ f' (s + 3) = some (.inl (2, 4, .inr (.inr g2))) ∧ f' (s + 4) = some (.inl (2, 40, .inr (.inr g3))) ∧ (∀ k, k < 4 → g2 k = gl' k) ∧ (∀ k, k < 40 → g3 k = gt' k) ∧ ∀ j, j ≠ s + 3 → j ≠ s + 4 → f' j = f j) := by
  intro d
  induction d with
  | zero => intro i f gl gt _ _ _ _ _ _ _ _; exact pq_none
  | succ d ih =>
    intro i f gl gt h1 h2 h3 h4 h5 h6 hi hg
    unfold mX7_copyFrom_l66
    refine pq_gR h1 hs8 (pq_sb (pq_gL h3 (by omega) ?_))
    refine pq_le kn_4 (nI_toInt (by omega)) (fun h => ?_) (fun h => ?_)
    · unfold mX7_copyFrom_b102
      refine pq_tail (f_copy_l104 hs hs' (by omega) rFU 0 f gt h1 h2 h5 h6 (by omega) (fun k hk => absurd hk (Nat.not_lt_zero _))) (fun y hy => ?_)
      obtain ⟨f', g3, rfl, k1, k2, k3⟩ := hy
      exact ⟨f', gl, g3, rfl, (k3 _ (by omega)).trans h3, k1, fun k hk => hg k (by omega), k2, fun j _ hj => k3 j hj⟩
    · refine pq_sb (pq_gR h2 hs8' (pq_sb (pq_gL h4 (by omega) (pq_f (nI_ge (by omega) (by omega)) (pq_gR h1 hs8 (pq_gR h2 hs8' (pq_sb ?_)))))))
      refine pq_gRA h4 (fun _ => pq_sb (pq_pRA h3 (fun _ => ?_)))
      rw [nI_1, nI_clamp (by omega)]
      refine pq_tail (ih (i + 1) _ (va_up gl i (gl' i)) gt ((u_ne (by omega)).trans h1) ((u_ne (by omega)).trans h2) u_eq ((u_ne (by omega)).trans h4) ((u_ne (by omega)).trans h5) ((u_ne (by omega)).trans h6) (by omega) (fun k hk => ?_)) (fun y hy => ?_)
      · by_cases e : k = i
        · rw [e, u_eq]
        · rw [u_ne e]; exact hg k (by omega)
      · obtain ⟨f', g2, g3, rfl, k1, k2, k3, k4, k5⟩ := hy
        exact ⟨f', g2, g3, rfl, k1, k2, k3, k4, fun j x1 x2 => (k5 j x1 x2).trans (u_ne x1)⟩
theorem f_copy {f : AH} {n s s' : Nat} {S : SST} (hs : SID s) (hs' : SID s') (hne : s ≠ s') (hS : SSh f s) (hS' : STT f n s' S) : PQ (mX7_copyFrom s (some s') f n) (fun y => ∃ f', y = (0, f', n) ∧ STT f' n s S ∧ ∀ j, j ≠ s → j ≠ s + 3 → j ≠ s + 4 → f' j = f j) := by
  have hd := SID_ne hs hs' hne
  obtain ⟨⟨fr0, k0, i0, l0, le0, lc0, la0, pn0, h1⟩, ⟨gl, h2⟩, ⟨gt, h3⟩⟩ := hS
  obtain ⟨⟨fr, la, a1, a2, full, a3, a4⟩, ⟨gl', b1, b2⟩, ⟨gt', c1, c2⟩, d1, d2⟩ := id hS'
  have a1' : ∀ X, va_up f s X s' = some (.inr (7, stV fr S.2.1.1 S.2.1.2.1 S.2.1.2.2.1 (nI S.2.1.2.2.2.1) (nI S.2.1.2.2.2.2.length) la (nI S.2.2.2.length) (s' + 3) (s' + 4))) := fun X => (u_ne (Ne.symm hne)).trans a1
  unfold mX7_copyFrom
  refine pq_sb (pq_gR a1 rfl ?_)
  refine pq_pO h1 rfl (pq_gI (a1' _) rfl (pq_pU (stV fr S.2.1.1 i0 l0 le0 lc0 la0 pn0 (s + 3) (s + 4)) rfl rfl (pq_gI (a1' _) rfl (pq_pU (stV fr S.2.1.1 S.2.1.2.1 l0 le0 lc0 la0 pn0 (s + 3) (s + 4)) rfl rfl (pq_gI (a1' _) rfl (pq_ck (pq_pU (stV fr S.2.1.1 S.2.1.2.1 S.2.1.2.2.1 le0 lc0 la0 pn0 (s + 3) (s + 4)) rfl rfl (pq_gI (a1' _) rfl (pq_pU (stV fr S.2.1.1 S.2.1.2.1 S.2.1.2.2.1 (nI S.2.1.2.2.2.1) lc0 la0 pn0 (s + 3) (s + 4)) rfl rfl (pq_gI (a1' _) rfl (pq_pU (stV fr S.2.1.1 S.2.1.2.1 S.2.1.2.2.1 (nI S.2.1.2.2.2.1) (nI S.2.1.2.2.2.2.length) la0 pn0 (s + 3) (s + 4)) rfl rfl (pq_gRw (w := la) (a1' _) rfl (pq_pU (stV fr S.2.1.1 S.2.1.2.1 S.2.1.2.2.1 (nI S.2.1.2.2.2.1) (nI S.2.1.2.2.2.2.length) la pn0 (s + 3) (s + 4)) rfl rfl (pq_gI (a1' _) rfl (pq_pU (stV fr S.2.1.1 S.2.1.2.1 S.2.1.2.2.1 (nI S.2.1.2.2.2.1) (nI S.2.1.2.2.2.2.length) la (nI S.2.2.2.length) (s + 3) (s + 4)) rfl rfl ?_)))))))))))))))
  refine pq_tail (f_copy_l66 (fs' := stV fr S.2.1.1 S.2.1.2.1 S.2.1.2.2.1 (nI S.2.1.2.2.2.1) (nI S.2.1.2.2.2.2.length) la (nI S.2.2.2.length) (s' + 3) (s' + 4)) rfl rfl rfl rfl (by omega) rFU 0 _ gl gt u_eq (a1' _) ((u_ne (by omega)).trans h2) ((u_ne (by omega)).trans b1) ((u_ne (by omega)).trans h3) ((u_ne (by omega)).trans c1) (by omega) (fun k hk => absurd hk (Nat.not_lt_zero _))) (fun y hy => ?_)
  obtain ⟨f', g2, g3, rfl, k1, k2, k3, k4, k5⟩ := hy
  have hF : ∀ j, j ≠ s → j ≠ s + 3 → j ≠ s + 4 → f' j = f j := fun j x0 x1 x2 => (k5 j x1 x2).trans (u_ne x0)
  have hI : ∀ j, IMM n j → f' j = f j := fun j hj => by
    have := IMM_ne hj hs
    exact hF j this.1 this.2.1 this.2.2
  refine ⟨f', rfl, ⟨⟨fr, la, (k5 s (by omega) (by omega)).trans u_eq, RI1_tr a2 hI (Nat.le_refl _), full, PCH_tr hI (Nat.le_refl _) full la a3, a4⟩, ⟨g2, k1, fun l hl => ?_⟩, ⟨g3, k2, fun i hi => ?_⟩, d1, d2⟩, hF⟩
  · obtain ⟨j, e1, e2⟩ := b2 l hl
    have hl4 := d1.2.2.2.2.1
    exact ⟨j, by rw [k3 l (by omega)]; exact e1, RI1_tr e2 hI (Nat.le_refl _)⟩
  · have h5 := c2 i hi
    cases e : S.2.2.1 i with
    | none => rw [e] at h5; show g3 i = none; rw [k4 i hi]; exact h5
    | some t =>
      rw [e] at h5
      obtain ⟨j, e1, e2, e3⟩ := h5
      exact ⟨j, by rw [k4 i hi]; exact e1, RI1_tr e2 hI (Nat.le_refl _), e3⟩
end
/-! part 55c.st -/
section
theorem smF_all {L M : BL} : ∀ (n a b : Nat), smF L a M b n = true ↔ ∀ i, i < n → L.getD (a + i) 0 = M.getD (b + i) 0 := by
  intro n
  induction n with
  | zero => intro a b; exact ⟨fun _ i hi => absurd hi (Nat.not_lt_zero _), fun _ => rfl⟩
  | succ n ih =>
    intro a b
    show (decide (L.getD a 0 = M.getD b 0) && smF L (a + 1) M (b + 1) n) = true ↔ _
    rw [Bool.and_eq_true, ih]
    constructor
    · intro h i hi
      cases i with
      | zero => exact of_decide_eq_true h.1
      | succ i =>
        have := h.2 i (by omega)
        rw [show a + (i + 1) = a + 1 + i by omega, show b + (i + 1) = b + 1 + i by omega]
        exact this
    · intro h
      refine ⟨decide_eq_true (h 0 (by omega)), fun i hi => ?_⟩
      have := h (i + 1) (by omega)
      rw [show a + (i + 1) = a + 1 + i by omega, show b + (i + 1) = b + 1 + i by omega] at this
      exact this
theorem smF_eq {L M : BL} (h : L.length = M.length) : smF L 0 M 0 L.length = decide (L = M) := by
  by_cases e : L = M
  · rw [decide_eq_true e, e]
    exact (smF_all _ 0 0).mpr (fun i _ => rfl)
  · rw [decide_eq_false e]
    cases hx : smF L 0 M 0 L.length with
    | false => rfl
    | true =>
      refine absurd (bl_ext h (fun i hi => ?_)) e
      have := (smF_all _ 0 0).mp hx i hi
      rw [Nat.zero_add] at this
      exact this
def tset (told : Nat → Option BL) (p : Nat) (o : Option BL) : Nat → Option BL := fun i => if i = p then o else told i
def tcnt (told : Nat → Option BL) : Nat → Nat
  | 0 => 0
  | i + 1 => tcnt told i + (match told i with
    | none => 0
    | some _ => 1)
section STS
variable {f : AH} {n s : Nat} {S : SST}
def RO (f : AH) (n : Nat) (o : Option BL) (w : Option Nat) : Prop := match o with
  | none => w = none
  | some t => ∃ j, w = some j ∧ RI1 f n j t ∧ t.length ≤ 60
theorem f_setTold {v : Int32} {w : Option Nat} {o : Option BL} (hs : SID s) (hS : STT f n s S) (hv : 0 ≤ v.toInt ∧ v.toInt < 40) (hw : RO f n o w) : PQ (mX7_setTold s v w f n) (fun y => ∃ f', y = (0, f', n) ∧ STT f' n s (S.1, S.2.1, tset S.2.2.1 v.toInt.toNat o, S.2.2.2) ∧ ∀ j, j ≠ s + 4 → f' j = f j) := by
  obtain ⟨⟨fr, la, a1, a2, full, a3, a4⟩, ⟨gl, b1, b2⟩, ⟨gt, c1, c2⟩, d1, d2⟩ := id hS
  unfold mX7_setTold
  refine pq_lt rfl kt_0 (fun q => by omega) (fun q => ?_)
  refine pq_gR a1 rfl (pq_sb (pq_gL c1 (by omega) ?_))
  refine pq_le kn_40 rfl (fun q2 => by omega) (fun q2 => ?_)
  refine pq_gR a1 rfl (pq_sb (pq_pRA c1 (fun _ => pq_ret ⟨_, rfl, ?_, fun j hj => u_ne hj⟩)))
  have e : v.toNatClampNeg = v.toInt.toNat := rfl
  rw [e]
  have hI : ∀ j, IMM n j → va_up f (s + 4) (some (.inl (2, 40, .inr (.inr (va_up gt v.toInt.toNat w))))) j = f j := fun j hj => u_ne (IMM_ne hj hs).2.2
  refine ⟨⟨fr, la, (u_ne (by omega)).trans a1, RI1_tr a2 hI (Nat.le_refl _), full, PCH_tr hI (Nat.le_refl _) full la a3, a4⟩, ⟨gl, (u_ne (by omega)).trans b1, fun l hl => ?_⟩, ⟨_, u_eq, fun i hi => ?_⟩, d1, d2⟩
  · obtain ⟨j, e1, e2⟩ := b2 l hl
    exact ⟨j, e1, RI1_tr e2 hI (Nat.le_refl _)⟩
  · show match tset S.2.2.1 v.toInt.toNat o i with
      | none => _
      | some t => _
    by_cases ei : i = v.toInt.toNat
    · have e3 : tset S.2.2.1 v.toInt.toNat o i = o := if_pos ei
      rw [e3, ei, u_eq]
      cases o with
      | none => exact hw
      | some t =>
        obtain ⟨j, k1, k2, k3⟩ := hw
        exact ⟨j, k1, RI1_tr k2 hI (Nat.le_refl _), k3⟩
    · have e3 : tset S.2.2.1 v.toInt.toNat o i = S.2.2.1 i := if_neg ei
      rw [e3, u_ne ei]
      have h5 := c2 i hi
      cases et : S.2.2.1 i with
      | none => rw [et] at h5; exact h5
      | some t =>
        rw [et] at h5
        obtain ⟨j, e1, e2, e4⟩ := h5
        exact ⟨j, e1, RI1_tr e2 hI (Nat.le_refl _), e4⟩
theorem f_forget_l {fs : List Value} (h9 : fs[9]? = some (.ref (s + 4))) : ∀ (d i : Nat) (f : AH) (g : Nat → Option Nat), f s = some (.inr (7, fs)) → f (s + 4) = some (.inl (2, 40, .inr (.inr g))) → i ≤ 40 → (∀ k, k < i → g k = none) → PQ (mX7_forgetTold_l2 d s (nI i) f n) (fun y => ∃ f' g2, y = (0, f', n) ∧ f' (s + 4) = some (.inl (2, 40, .inr (.inr g2))) ∧ (∀ k, k < 40 → g2 k = none) ∧ ∀ j, j ≠ s + 4 → f' j = f j) := by
  intro d
  induction d with
  | zero => intro i f g _ _ _ _; exact pq_none
  | succ d ih =>
    intro i f g h1 h3 hi hg
    unfold mX7_forgetTold_l2
    refine pq_gR h1 h9 (pq_sb (pq_gL h3 (by omega) ?_))
    refine pq_le kn_40 (nI_toInt (by omega)) (fun h => ?_) (fun h => ?_)
    · exact pq_ret ⟨f, g, rfl, h3, fun k hk => hg k (by omega), fun _ _ => rfl⟩
    · refine pq_gR h1 h9 (pq_sb (pq_pRA h3 (fun _ => ?_)))
      rw [nI_1, nI_clamp (by omega)]
      refine pq_tail (ih (i + 1) _ (va_up g i none) ((u_ne (by omega)).trans h1) u_eq (by omega) (fun k hk => ?_)) (fun y hy => ?_)
      · by_cases e : k = i
        · rw [e, u_eq]
        · rw [u_ne e]; exact hg k (by omega)
      · obtain ⟨f', g2, rfl, k1, k2, k3⟩ := hy
        exact ⟨f', g2, rfl, k1, k2, fun j hj => (k3 j hj).trans (u_ne hj)⟩
theorem f_forget (hs : SID s) (hS : STT f n s S) : PQ (mX7_forgetTold s f n) (fun y => ∃ f', y = (0, f', n) ∧ STT f' n s (S.1, S.2.1, fun _ => none, S.2.2.2) ∧ ∀ j, j ≠ s + 4 → f' j = f j) := by
  obtain ⟨⟨fr, la, a1, a2, full, a3, a4⟩, ⟨gl, b1, b2⟩, ⟨gt, c1, c2⟩, d1, d2⟩ := id hS
  unfold mX7_forgetTold
  refine pq_tail (f_forget_l (fs := stV fr S.2.1.1 S.2.1.2.1 S.2.1.2.2.1 (nI S.2.1.2.2.2.1) (nI S.2.1.2.2.2.2.length) la (nI S.2.2.2.length) (s + 3) (s + 4)) rfl rFU 0 f gt a1 c1 (by omega) (fun k hk => absurd hk (Nat.not_lt_zero _))) (fun y hy => ?_)
  obtain ⟨f', g2, rfl, k1, k2, k3⟩ := hy
  have hI : ∀ j, IMM n j → f' j = f j := fun j hj => k3 j (IMM_ne hj hs).2.2
  refine ⟨f', rfl, ⟨⟨fr, la, (k3 _ (by omega)).trans a1, RI1_tr a2 hI (Nat.le_refl _), full, PCH_tr hI (Nat.le_refl _) full la a3, a4⟩, ⟨gl, (k3 _ (by omega)).trans b1, fun l hl => ?_⟩, ⟨g2, k1, fun i hi => k2 i hi⟩, d1, d2⟩, k3⟩
  obtain ⟨j, e1, e2⟩ := b2 l hl
  exact ⟨j, e1, RI1_tr e2 hI (Nat.le_refl _)⟩
theorem tcnt_le {told : Nat → Option BL} : ∀ i, tcnt told i ≤ i := by
  intro i
  induction i with
  | zero => exact Nat.le_refl _
  | succ i ih =>
    show tcnt told i + _ ≤ i + 1
    split <;> omega
theorem f_tcount_l {fs : List Value} {told : Nat → Option BL} (h1 : f s = some (.inr (7, fs))) (h9 : fs[9]? = some (.ref (s + 4))) (hT : TDA f n (s + 4) told) : ∀ (d i : Nat), i ≤ 40 → PQ (mX7_toldCount_l4 d s (nI (tcnt told i)) (nI i) f n) (fun y => y = (nI (tcnt told 40), f, n)) := by
  obtain ⟨g, c1, c2⟩ := hT
  intro d
  induction d with
  | zero => intro i _; exact pq_none
  | succ d ih =>
    intro i hi
    unfold mX7_toldCount_l4
    refine pq_gR h1 h9 (pq_sb (pq_gL c1 (by omega) ?_))
    refine pq_le kn_40 (nI_toInt (by omega)) (fun h => ?_) (fun h => ?_)
    · exact pq_ret (by rw [show i = 40 by omega])
    · refine pq_gR h1 h9 (pq_sb (pq_gRA c1 (fun _ => ?_)))
      rw [nI_clamp (by omega)]
      have h5 := c2 i (by omega)
      have h6 := ih (i + 1) (by omega)
      cases et : told i with
      | none =>
        rw [et] at h5
        have h5 : g i = none := h5
        have e1 : tcnt told (i + 1) = tcnt told i := by show tcnt told i + _ = _; rw [et]; rfl
        rw [e1] at h6
        rw [h5]
        refine pq_oNn ?_
        unfold mX7_toldCount_b25
        rw [nI_1]; exact h6
      | some t =>
        rw [et] at h5
        obtain ⟨j, e2, -⟩ := h5
        have e1 : tcnt told (i + 1) = tcnt told i + 1 := by show tcnt told i + _ = _; rw [et]
        rw [e1] at h6
        rw [e2]
        refine pq_oNs ?_
        unfold mX7_toldCount_b25
        rw [nI_1, nI_1]; exact h6
theorem f_tcount (hS : STT f n s S) : PQ (mX7_toldCount s f n) (fun y => y = (nI (tcnt S.2.2.1 40), f, n)) := by
  obtain ⟨⟨fr, la, a1, -⟩, -, c1, -⟩ := hS
  exact f_tcount_l a1 rfl c1 rFU 0 (by omega)
theorem f_addPair {jt jd : Nat} {a b : BL} (hs : SID s) (hn : 224 ≤ n) (hS : STT f n s S) (hm : S.2.2.2.length ≤ 12) (ht : RI1 f n jt a) (hd : RI1 f n jd b) : PQ (mX7_addPair s (some jt) (some jd) f n) (fun y => ∃ f', y = (0, f', n + 1) ∧ STT f' (n + 1) s (S.1, S.2.1, S.2.2.1, ((a, b) :: S.2.2.2).take 12) ∧ ∀ j, j ≠ n → j ≠ s → f' j = f j) := by
  have h1 := SID_lt hs
  obtain ⟨⟨fr, la, a1, a2, full, a3, a4⟩, ⟨gl, b1, b2⟩, ⟨gt, c1, c2⟩, d1, d2⟩ := id hS
  unfold mX7_addPair
  have g1 : ∀ X, va_up f n X s = some (.inr (7, stV fr S.2.1.1 S.2.1.2.1 S.2.1.2.2.1 (nI S.2.1.2.2.2.1) (nI S.2.1.2.2.2.2.length) la (nI S.2.2.2.length) (s + 3) (s + 4))) := fun X => (u_ne (by omega)).trans a1
  refine pq_gRw (w := la) (g1 _) rfl ?_
  have ini : PQ (mX2_init n (some jt) (some jd) la (va_up f n (some (.inr (2, df2)))) (n + 1)) (fun y => y = (0, va_up f n (some (.inr (2, [.ref jt, .ref jd, va_rf la]))), n + 1)) := by
    unfold mX2_init
    exact pq_pU [.ref jt, .null, .null] rfl rfl (pq_pU [.ref jt, .ref jd, .null] rfl rfl (pq_pU [.ref jt, .ref jd, va_rf la] rfl rfl (pq_ret rfl)))
  refine pq_is ini ?_
  refine pq_pO (g1 _) rfl ?_
  refine pq_gI u_eq rfl ?_
  refine pq_pU (stV fr S.2.1.1 S.2.1.2.1 S.2.1.2.2.1 (nI S.2.1.2.2.2.1) (nI S.2.1.2.2.2.2.length) (some n) (jMin (nI S.2.2.2.length + 1) 12) (s + 3) (s + 4)) rfl rfl (pq_ret ⟨_, rfl, ?_, fun j x1 x2 => (u_ne x2).trans (u_ne x1)⟩)
  have hF : ∀ j, j ≠ n → j ≠ s → va_up (va_up f n (some (.inr (2, [.ref jt, .ref jd, va_rf la])))) s (some (.inr (7, stV fr S.2.1.1 S.2.1.2.1 S.2.1.2.2.1 (nI S.2.1.2.2.2.1) (nI S.2.1.2.2.2.2.length) (some n) (jMin (nI S.2.2.2.length + 1) 12) (s + 3) (s + 4)))) j = f j := fun j x1 x2 => (u_ne x2).trans (u_ne x1)
  have hI : ∀ j, IMM n j → va_up (va_up f n (some (.inr (2, [.ref jt, .ref jd, va_rf la])))) s (some (.inr (7, stV fr S.2.1.1 S.2.1.2.1 S.2.1.2.2.1 (nI S.2.1.2.2.2.1) (nI S.2.1.2.2.2.2.length) (some n) (jMin (nI S.2.2.2.length + 1) 12) (s + 3) (s + 4)))) j = f j := fun j hj => hF j (by have := IMM_lt hj hn; omega) (IMM_ne hj hs).1
  have hnn : n ≤ n + 1 := Nat.le_succ _
  have eM : jMin (nI S.2.2.2.length + 1) 12 = nI (((a, b) :: S.2.2.2).take 12).length := by
    rw [nI_1]
    have := jmin_b (a := nI (S.2.2.2.length + 1)) (b := 12) (nI_toInt (by omega)) kt_12
    refine Int32.toInt_inj.mp ?_
    rw [List.length_take, List.length_cons, nI_toInt (by omega)]
    omega
  refine ⟨⟨fr, some n, by rw [u_eq, eM], RI1_tr a2 hI hnn, (a, b) :: full, ⟨n, jt, jd, la, rfl, Or.inl ⟨hn, by omega⟩, (u_ne (by omega)).trans u_eq, RI1_tr ht hI hnn, RI1_tr hd hI hnn, PCH_tr hI hnn full la a3⟩, ?_⟩, ⟨gl, (hF _ (by omega) (by omega)).trans b1, fun l hl => ?_⟩, ⟨gt, (hF _ (by omega) (by omega)).trans c1, fun i hi => ?_⟩, d1, d2⟩
  · show ((a, b) :: S.2.2.2).take 12 = ((a, b) :: full).take 12
    rw [a4]
    show (a, b) :: (full.take 12).take 11 = (a, b) :: full.take 11
    rw [List.take_take]; rfl
  · obtain ⟨j, e1, e2⟩ := b2 l hl
    exact ⟨j, e1, RI1_tr e2 hI hnn⟩
  · have h5 := c2 i hi
    show match S.2.2.1 i with
      | none => _
      | some t => _
    cases et : S.2.2.1 i with
    | none => rw [et] at h5; exact h5
    | some t =>
      rw [et] at h5
      obtain ⟨j, e1, e2, e4⟩ := h5
      exact ⟨j, e1, RI1_tr e2 hI hnn, e4⟩
/-- what a lock more does -/
def lkC (locks : List BL) (w : BL) : Int32 := if locks.length = 4 then 6 else if locks.any (fun x => decide (x = w)) = true then 7 else 0
theorem f_addLock_l {jw : Nat} {w : BL} (hs : SID s) (hS : STT f n s S) (hw : RI1 f n jw w) (hw8 : w.length ≤ 8) (hl4 : S.2.1.2.2.2.2.length < 4) : ∀ (d t : Nat), t ≤ S.2.1.2.2.2.2.length → (∀ l, l < t → S.2.1.2.2.2.2.getD l [] ≠ w) → PQ (mX7_addLock_l24 d s (some jw) (nI t) f n) (fun y => ((S.2.1.2.2.2.2.drop t).any (fun x => decide (x = w)) = true ∧ y = (7, f, n)) ∨ ((S.2.1.2.2.2.2.drop t).any (fun x => decide (x = w)) = false ∧ ∃ f', y = (0, f', n) ∧ STT f' n s (S.1, (S.2.1.1, S.2.1.2.1, S.2.1.2.2.1, S.2.1.2.2.2.1, S.2.1.2.2.2.2 ++ [w]), S.2.2.1, S.2.2.2) ∧ ∀ j, j ≠ s → j ≠ s + 3 → f' j = f j)) := by
  obtain ⟨⟨fr, la, a1, a2, full, a3, a4⟩, ⟨gl, b1, b2⟩, ⟨gt, c1, c2⟩, d1, d2⟩ := id hS
  intro d
  induction d with
  | zero => intro t _ _; exact pq_none
  | succ d ih =>
    intro t ht hno
    unfold mX7_addLock_l24
    refine pq_gI a1 rfl ?_
    refine pq_le (nI_toInt (by omega)) (nI_toInt (by omega)) (fun h => ?_) (fun h => ?_)
    · have et : t = S.2.1.2.2.2.2.length := by omega
      refine pq_gR a1 rfl (pq_gI a1 rfl (pq_sb (pq_pRA b1 (fun _ => ?_))))
      rw [nI_clamp (by omega)]
      have a1' : va_up f (s + 3) (some (.inl (2, 4, .inr (.inr (va_up gl S.2.1.2.2.2.2.length (some jw)))))) s = some (.inr (7, stV fr S.2.1.1 S.2.1.2.1 S.2.1.2.2.1 (nI S.2.1.2.2.2.1) (nI S.2.1.2.2.2.2.length) la (nI S.2.2.2.length) (s + 3) (s + 4))) := (u_ne (by omega)).trans a1
      refine pq_gI a1' rfl (pq_pO a1' rfl (pq_ret (Or.inr ⟨?_, _, rfl, ?_, fun j x1 x2 => (u_ne x1).trans (u_ne x2)⟩)))
      · rw [List.drop_of_length_le (by omega)]; rfl
      · generalize ef : va_up (va_up f (s + 3) (some (.inl (2, 4, .inr (.inr (va_up gl S.2.1.2.2.2.2.length (some jw))))))) s (some (.inr (7, (stV fr S.2.1.1 S.2.1.2.1 S.2.1.2.2.1 (nI S.2.1.2.2.2.1) (nI S.2.1.2.2.2.2.length) la (nI S.2.2.2.length) (s + 3) (s + 4)).set 5 (.int (nI S.2.1.2.2.2.2.length + 1))))) = f'
        have hF : ∀ j, j ≠ s → j ≠ s + 3 → f' j = f j := fun j x1 x2 => by rw [← ef]; exact (u_ne x1).trans (u_ne x2)
        have hI : ∀ j, IMM n j → f' j = f j := fun j hj => hF j (IMM_ne hj hs).1 (IMM_ne hj hs).2.1
        have h3 : f' (s + 3) = some (.inl (2, 4, .inr (.inr (va_up gl S.2.1.2.2.2.2.length (some jw))))) := by rw [← ef]; exact (u_ne (by omega)).trans u_eq
        have hs0 : f' s = some (.inr (7, stV fr S.2.1.1 S.2.1.2.1 S.2.1.2.2.1 (nI S.2.1.2.2.2.1) (nI (S.2.1.2.2.2.2 ++ [w]).length) la (nI S.2.2.2.length) (s + 3) (s + 4))) := by
          rw [← ef, u_eq, List.length_append]
          show _ = some (Sum.inr (7, stV fr S.2.1.1 S.2.1.2.1 S.2.1.2.2.1 (nI S.2.1.2.2.2.1) (nI (S.2.1.2.2.2.2.length + 1)) la (nI S.2.2.2.length) (s + 3) (s + 4)))
          rw [← nI_1]; rfl
        refine ⟨⟨fr, la, hs0, RI1_tr a2 hI (Nat.le_refl _), full, PCH_tr hI (Nat.le_refl _) full la a3, a4⟩, ⟨_, h3, fun l hl => ?_⟩, ⟨gt, (hF _ (by omega) (by omega)).trans c1, fun i hi => ?_⟩, ⟨d1.1, d1.2.1, d1.2.2.1, d1.2.2.2.1, ?_, fun x hx => ?_⟩, d2⟩
        · show ∃ j, _ ∧ RI1 f' n j ((S.2.1.2.2.2.2 ++ [w]).getD l [])
          have hl : l < (S.2.1.2.2.2.2 ++ [w]).length := hl
          rw [List.length_append] at hl
          by_cases el : l = S.2.1.2.2.2.2.length
          · refine ⟨jw, by rw [el, u_eq], ?_⟩
            rw [el, List.getD_eq_getElem?_getD, List.getElem?_append_right (Nat.le_refl _), Nat.sub_self]
            exact RI1_tr hw hI (Nat.le_refl _)
          · have hl2 : l < S.2.1.2.2.2.2.length := by have : l < S.2.1.2.2.2.2.length + 1 := hl; omega
            obtain ⟨j, e1, e2⟩ := b2 l hl2
            refine ⟨j, by rw [u_ne el]; exact e1, ?_⟩
            rw [List.getD_eq_getElem?_getD, List.getElem?_append_left hl2, ← List.getD_eq_getElem?_getD]
            exact RI1_tr e2 hI (Nat.le_refl _)
        · have h5 := c2 i hi
          show match S.2.2.1 i with
            | none => _
            | some t => _
          cases et : S.2.2.1 i with
          | none => rw [et] at h5; exact h5
          | some t =>
            rw [et] at h5
            obtain ⟨j, e1, e2, e4⟩ := h5
            exact ⟨j, e1, RI1_tr e2 hI (Nat.le_refl _), e4⟩
        · show (S.2.1.2.2.2.2 ++ [w]).length ≤ 4
          rw [List.length_append]; show S.2.1.2.2.2.2.length + 1 ≤ 4; omega
        · have hx : x ∈ S.2.1.2.2.2.2 ++ [w] := hx
          rcases List.mem_append.mp hx with h | h
          · exact d1.2.2.2.2.2 x h
          · rw [List.mem_singleton.mp h]; exact hw8
    · have hlt : t < S.2.1.2.2.2.2.length := by omega
      obtain ⟨j, e1, b, c, e2, e3, e4⟩ := b2 t hlt
      obtain ⟨bw, cw, w1, w2, w3⟩ := id hw
      have h6 := rw_6 e2
      refine pq_gR a1 rfl (pq_sb (pq_gRA b1 (fun _ => ?_)))
      rw [nI_clamp (by omega), e1, bdr_st hlt, List.any_cons]
      refine pq_oNs (pq_oNs (pq_ck (pq_is (f_size e2) (pq_ck (pq_is (f_size w1) ?_)))))
      have go : S.2.1.2.2.2.2.getD t [] ≠ w → PQ (mX7_addLock_b75 (fun v0 v1 v2 f n => mX7_addLock_l24 d v0 v1 v2 f n) s (some jw) (nI t) f n) (fun y => ((decide (S.2.1.2.2.2.2.getD t [] = w) || (S.2.1.2.2.2.2.drop (t + 1)).any (fun x => decide (x = w))) = true ∧ y = (7, f, n)) ∨ ((decide (S.2.1.2.2.2.2.getD t [] = w) || (S.2.1.2.2.2.2.drop (t + 1)).any (fun x => decide (x = w))) = false ∧ ∃ f', y = (0, f', n) ∧ STT f' n s (S.1, (S.2.1.1, S.2.1.2.1, S.2.1.2.2.1, S.2.1.2.2.2.1, S.2.1.2.2.2.2 ++ [w]), S.2.2.1, S.2.2.2) ∧ ∀ j, j ≠ s → j ≠ s + 3 → f' j = f j)) := by
        intro hnw
        unfold mX7_addLock_b75
        rw [nI_1, decide_eq_false hnw, Bool.false_or]
        refine ih (t + 1) (by omega) (fun l hl => ?_)
        by_cases el : l = t
        · rw [el]; exact hnw
        · exact hno l (by omega)
      refine pq_eqi (nI_toInt (by omega)) (nI_toInt (by omega)) (fun q1 => ?_) (fun q1 => go (fun x => q1 (by rw [x])))
      have hlen : (S.2.1.2.2.2.2.getD t []).length = w.length := by omega
      refine pq_ck (pq_is (f_size e2) (pq_ck (pq_is (f_same (a := 0) (a1 := 0) e2 w1 (by omega) (by omega)) ?_)))
      rw [smF_eq hlen]
      refine pq_eq (fun q2 => go (of_decide_eq_false (bI_0.mp q2))) (fun q2 => ?_)
      have e9 : decide (S.2.1.2.2.2.2.getD t [] = w) = true := by
        cases hx : decide (S.2.1.2.2.2.2.getD t [] = w) with
        | true => rfl
        | false => exact absurd (by show bI (decide (S.2.1.2.2.2.2.getD t [] = w)) = 0; rw [hx]; rfl) q2
      exact pq_ret (Or.inl ⟨by rw [e9]; rfl, rfl⟩)
theorem f_addLock {jw : Nat} {w : BL} (hs : SID s) (hS : STT f n s S) (hw : RI1 f n jw w) (hw8 : w.length ≤ 8) : PQ (mX7_addLock s (some jw) f n) (fun y => (lkC S.2.1.2.2.2.2 w ≠ 0 ∧ y = (lkC S.2.1.2.2.2.2 w, f, n)) ∨ (lkC S.2.1.2.2.2.2 w = 0 ∧ ∃ f', y = (0, f', n) ∧ STT f' n s (S.1, (S.2.1.1, S.2.1.2.1, S.2.1.2.2.1, S.2.1.2.2.2.1, S.2.1.2.2.2.2 ++ [w]), S.2.2.1, S.2.2.2) ∧ ∀ j, j ≠ s → j ≠ s + 3 → f' j = f j)) := by
  obtain ⟨⟨fr, la, a1, a2, full, a3, a4⟩, ⟨gl, b1, b2⟩, ⟨gt, c1, c2⟩, d1, d2⟩ := id hS
  have hl4 := d1.2.2.2.2.1
  unfold mX7_addLock
  refine pq_gI a1 rfl (pq_f (nI_pos (by omega)) (pq_gI a1 rfl (pq_gR a1 rfl (pq_sb (pq_gL b1 (by omega) ?_)))))
  refine pq_lt (nI_toInt (by omega)) kn_4 (fun q => ?_) (fun q => ?_)
  · have e0 : lkC S.2.1.2.2.2.2 w = if S.2.1.2.2.2.2.any (fun x => decide (x = w)) = true then 7 else 0 := by
      unfold lkC
      rw [if_neg (by omega)]
    rw [e0]
    refine pq_tail (f_addLock_l hs hS hw hw8 (by omega) rFU 0 (Nat.zero_le _) (fun l hl => absurd hl (Nat.not_lt_zero _))) (fun y hy => ?_)
    rcases hy with ⟨k1, k2⟩ | ⟨k1, k2⟩
    · have k1 : S.2.1.2.2.2.2.any (fun x => decide (x = w)) = true := k1
      rw [if_pos k1]
      exact Or.inl ⟨by decide, k2⟩
    · have k1 : S.2.1.2.2.2.2.any (fun x => decide (x = w)) = false := k1
      rw [if_neg (by rw [k1]; decide)]
      exact Or.inr ⟨rfl, k2⟩
  · have e0 : lkC S.2.1.2.2.2.2 w = 6 := by
      unfold lkC
      rw [if_pos (by omega)]
    rw [e0]
    exact pq_ret (Or.inl ⟨by decide, rfl⟩)
end STS
end
/-! part 57a.core -/
section
/-! the class's object -/
abbrev pfL (hi ag pc wn fp : Int32) : List Value := [.ref 1, .ref 3, .ref 8, .ref 13, .ref 18, .ref 59, .ref 115, .ref 171, .ref 178, .int hi, .int ag, .int pc, .int wn, .int fp]
/-- the state's pieces, and what is built of them -/
def pcF (S : SST) : List Pc := pcs S.2.1 S.1
def bltS (S : SST) : BL := blt S.2.1 S.1 S.2.2.1 (pcF S)
def SV (S : SST) : Prop := VE S.2.1 S.2.2.1 (pcF S) ∧ (bltS S).length ≤ 600 ∧ S.2.2.2.length ≤ 12 ∧ ∀ i, (pcF S).length ≤ i → S.2.2.1 i = none
def KO (f : AH) (n : Nat) (S : SST) : Prop := STT f n 3 S ∧ CUT f 59 (pcF S) ∧ BSh f ∧ isRw f 172 173 600 (bltS S) ∧ BD f S.2.1 S.1 S.2.2.1 (pcF S) (pcF S).length
theorem sid3 : SID 3 := by unfold SID; omega
theorem KO_tr {f f' : AH} {n n' : Nat} {S : SST} (h : KO f n S) (h1 : ∀ j, (3 ≤ j ∧ j ≤ 7) ∨ (59 ≤ j ∧ j < 115) ∨ (171 ≤ j ∧ j < 178) ∨ IMM n j → f' j = f j) (hn : n ≤ n') : KO f' n' S := by
  obtain ⟨a1, a2, ⟨⟨qw, b1⟩, ⟨R, b2⟩, ⟨E, b3⟩, ⟨M, b4⟩⟩, a4, a5⟩ := h
  have h40 := pcs_40 (cf := S.2.1) (L := S.1)
  refine ⟨STT_tr a1 (h1 _ (by omega)) (h1 _ (by omega)) (h1 _ (by omega)) (fun i hi => h1 i (by right; right; right; exact hi)) hn, CUT_tr a2 (fun i x1 x2 => h1 i (by omega)), ⟨⟨qw, (h1 _ (by omega)).trans b1⟩, ⟨R, rw_tr b2 (h1 _ (by omega)) (h1 _ (by omega))⟩, ⟨E, rw_tr b3 (h1 _ (by omega)) (h1 _ (by omega))⟩, ⟨M, rw_tr b4 (h1 _ (by omega)) (h1 _ (by omega))⟩⟩, rw_tr a4 (h1 _ (by omega)) (h1 _ (by omega)), fun i hi => ?_⟩
  obtain ⟨x11, e⟩ := a5 i hi
  have hi' : i < (pcs S.2.1 S.1).length := hi
  exact ⟨x11, (h1 _ (by omega)).trans e⟩
/-- cut and built anew -/
theorem f_recut {f : AH} {n : Nat} {S : SST} {fs : List Value} (h1 : fs[1]? = some (.ref 3)) (h5 : fs[5]? = some (.ref 59)) (h7 : fs[7]? = some (.ref 171)) (hp : f 0 = some (.inr (8, fs))) (hS : STT f n 3 S) (hV : SV S) (hC : CSh f 59) (hB : BSh f) : PQ ((gR f 0 8 5).bind fun x8 => ((gR f 0 8 1).bind fun x9 => ((x9).bind fun j10 => ((gR f j10 7 0).bind fun x11 => ((gR f 0 8 1).bind fun x12 => ((x8).bind fun j13 => rCk (isO f j13 1) (((mX1_find j13 x11 x12 f n).bind fun r15 => ((gR r15.2.1 0 8 7).bind fun x17 => ((gR r15.2.1 0 8 1).bind fun x18 => ((gR r15.2.1 0 8 5).bind fun x19 => ((x17).bind fun j20 => rCk (isO r15.2.1 j20 0) (((mX0_make j20 x18 x19 r15.2.1 r15.2.2).bind fun r22 => some ((0 : Int32), (r22.2.1, r22.2.2)))))))))))))))) (fun y => ∃ f', y = (0, f', n) ∧ KO f' n S ∧ ∀ j, j < 59 ∨ (115 ≤ j ∧ j < 171) ∨ 177 < j → f' j = f j) := by
  obtain ⟨⟨fr, la, a1, ⟨rb, cc, a2, a2', a2''⟩, full, a3, a4⟩, a5, a6, a7, a8⟩ := id hS
  have i1 := IMM_1 a2'
  have i2 := IMM_1 a2''
  refine pq_gR hp h5 (pq_gR hp h1 (pq_sb (pq_gR a1 rfl (pq_gR hp h1 (pq_sb (pq_ck ?_))))))
  refine pq_call (f_find (cf := S.2.1) a7.1 a7.2.1 a1 (by omega) a7.2.2.2.1.2 (STT_lks hS sid3 (Or.inl rfl)) a2 (by omega) (by omega) hC) (fun y hy => ?_)
  obtain ⟨f1, rfl, g1, g2⟩ := hy
  have hp1 : f1 0 = some (.inr (8, fs)) := (g2 _ (by omega)).trans hp
  refine pq_gR hp1 h7 (pq_gR hp1 h1 (pq_gR hp1 h5 (pq_sb (pq_ck ?_))))
  have hI1 : ∀ j, IMM n j → f1 j = f j := fun j hj => g2 j (by have := IMM_1 hj; omega)
  have hS1 : STT f1 n 3 S := STT_tr hS (g2 _ (by omega)) (g2 _ (by omega)) (g2 _ (by omega)) hI1 (Nat.le_refl _)
  have hB1 : BSh f1 := by
    obtain ⟨⟨qw, b1⟩, ⟨R, b2⟩, ⟨E, b3⟩, ⟨M, b4⟩⟩ := hB
    exact ⟨⟨qw, (g2 _ (by omega)).trans b1⟩, ⟨R, rw_tr b2 (g2 _ (by omega)) (g2 _ (by omega))⟩, ⟨E, rw_tr b3 (g2 _ (by omega)) (g2 _ (by omega))⟩, ⟨M, rw_tr b4 (g2 _ (by omega)) (g2 _ (by omega))⟩⟩
  have hM1 : MK f1 3 fr 6 7 rb cc S.2.1 S.2.1.2.2.1 (nI S.2.1.2.2.2.1) (nI S.2.1.2.2.2.2.length) la (nI S.2.2.2.length) S.1 S.2.2.1 (pcF S) := ⟨g1.1.1, (g2 _ (by omega)).trans a1, rw_tr a2 (g2 _ (by omega)) (g2 _ (by omega)), STT_tld hS1⟩
  refine pq_call (f_make a7.1 a7.2.1 (by omega) (by omega) (IMM_out a2') (IMM_out a2'') pcs_ord hV.1 hM1 hB1) (fun y hy => ?_)
  obtain ⟨f2, k1, k2, k3, k4⟩ := hy
  have e : ∀ j, j < 59 ∨ (115 ≤ j ∧ j < 171) ∨ 177 < j → f2 j = f j := fun j hj => (k3 j (by omega)).trans (g2 j (by omega))
  have hv2 : (blt S.2.1 S.1 S.2.2.1 (pcF S)).length ≤ 600 := hV.2.1
  rcases k4 with ⟨-, rfl, k6, k7⟩ | ⟨k5, -⟩
  · refine pq_ret ⟨f2, rfl, ⟨STT_tr hS (e _ (by omega)) (e _ (by omega)) (e _ (by omega)) (fun j hj => e j (by have := IMM_1 hj; omega)) (Nat.le_refl _), ⟨⟨k1, ?_, ?_, ?_, ?_, ?_⟩, ?_, g1.2.2⟩, k2, k6, k7⟩, e⟩
    · exact rw_tr g1.1.2.1 (k3 _ (by omega)) (k3 _ (by omega))
    · exact rw_tr g1.1.2.2.1 (k3 _ (by omega)) (k3 _ (by omega))
    · obtain ⟨M, hM⟩ := g1.1.2.2.2.1
      exact ⟨M, rw_tr hM (k3 _ (by omega)) (k3 _ (by omega))⟩
    · obtain ⟨M, hM⟩ := g1.1.2.2.2.2.1
      exact ⟨M, rw_tr hM (k3 _ (by omega)) (k3 _ (by omega))⟩
    · rw [k3 _ (by omega)]; exact g1.1.2.2.2.2.2
    · rw [k3 _ (by omega)]; exact g1.2.1
  · have k5' : 600 < (blt S.2.1 S.1 S.2.2.1 (pcF S)).length := k5
    omega
end
/-! part 57b.act -/
section
/-! what an act does to a state -/
theorem sl_ap3 {L : BL} {a b c : Nat} (h1 : a ≤ b) (h2 : b ≤ c) (h3 : c ≤ L.length) : sl L a b ++ sl L b c = sl L a c := by
  have e1 := sl_len (L := L) (a := a) (b := b) (by omega)
  have e2 := sl_len (L := L) (a := b) (b := c) h3
  have e3 := sl_len (L := L) (a := a) (b := c) h3
  refine bl_ext (by rw [List.length_append]; omega) (fun i hi => ?_)
  rw [List.length_append] at hi
  rw [sl_gd (L := L) (a := a) (b := c) (by omega)]
  by_cases h : i < b - a
  · rw [gd_app_l (by omega), sl_gd h]
  · rw [gd_app_r (by omega), sl_gd (by omega), e1]
    rw [show b + (i - (b - a)) = a + i by omega]
theorem rowTo_none {cf : CFG} {F : BL} {told : Nat → Option BL} {P : List Pc} (h : ∀ i, i < P.length → told i = none) (ho : ORD P F.length) : ∀ k, k ≤ P.length → plc P k ≤ F.length ∧ rowTo cf F told P k = sl F 0 (plc P k) := by
  intro k
  induction k with
  | zero => intro _; exact ⟨Nat.zero_le _, (sl_nil (Nat.le_refl _)).symm⟩
  | succ k ih =>
    intro hk
    obtain ⟨h1, h2⟩ := ih (by omega)
    obtain ⟨o1, o2, o3⟩ := ho.1 k (by omega)
    refine ⟨o3, ?_⟩
    show rowTo cf F told P k ++ sl F (plc P k) (P.getD k pc0).1 ++ bOf cf F told k (P.getD k pc0) = sl F 0 (P.getD k pc0).2.1
    have e : bOf cf F told k (P.getD k pc0) = sl F (P.getD k pc0).1 (P.getD k pc0).2.1 := by
      unfold bOf
      rw [h k (by omega)]
    rw [e, h2, sl_ap3 (Nat.zero_le _) o1 (by omega), sl_ap3 (Nat.zero_le _) (by omega) o3]
theorem blt_none {cf : CFG} {F : BL} {told : Nat → Option BL} {P : List Pc} (h : ∀ i, i < P.length → told i = none) (ho : ORD P F.length) : blt cf F told P = F := by
  obtain ⟨h1, h2⟩ := rowTo_none (cf := cf) h ho P.length (Nat.le_refl _)
  unfold blt
  rw [h2, sl_ap3 (Nat.zero_le _) h1 (Nat.le_refl _), sl_all]
abbrev setT (S : SST) (told : Nat → Option BL) : SST := (S.1, S.2.1, told, S.2.2.2)
abbrev setC (S : SST) (cf : CFG) : SST := (S.1, cf, fun _ => none, S.2.2.2)
abbrev inP (S : SST) (p : Int32) : Prop := 0 ≤ p.toInt ∧ p.toInt < (pcF S).length
def pOf (S : SST) (i : Nat) : Pc := (pcF S).getD i pc0
def nowOf (S : SST) (i : Nat) : BL := match S.2.2.1 i with
  | none => pX (pOf S i)
  | some t => t
def finA (S S1 : SST) : Int32 × SST := if 600 < (bltS S1).length then (3, S) else (0, S1)
def frA (S : SST) (p : Int32) : Int32 × SST := if inP S p then (if S.2.2.1 p.toInt.toNat = none then (4, S) else finA S (setT S (tset S.2.2.1 p.toInt.toNat none))) else (1, S)
def wpA (S : SST) : Int32 × SST := if tcnt S.2.2.1 40 = 0 then (4, S) else (0, setT S (fun _ => none))
def memA (S : SST) (x : Pc) (w : BL) : SST := if (pX x).length ≤ 60 then (S.1, S.2.1, S.2.2.1, ((pX x, w) :: S.2.2.2).take 12) else S
def tlA (S : SST) (p : Int32) (w : BL) : Int32 × SST := if inP S p then (if escFor S.2.1 (pOf S p.toInt.toNat) w = none then (2, S) else if 600 < (bltS (setT S (tset S.2.2.1 p.toInt.toNat (some w)))).length then (3, S) else (0, memA (setT S (tset S.2.2.1 p.toInt.toNat (some w))) (pOf S p.toInt.toNat) w)) else (1, S)
def lkB (S : SST) (p i : Nat) : Bool := decide (pX (pOf S p) = pX (pOf S i))
def spT (S : SST) (p : Nat) (t : BL) (m : Nat) : Nat → Option BL := fun i => if i < m ∧ lkB S p i = true then some t else S.2.2.1 i
def spN (S : SST) (p : Nat) (t : BL) : Bool := (List.range (pcF S).length).any (fun i => lkB S p i && (escFor S.2.1 (pOf S i) t).isNone)
def spA (S : SST) (p : Int32) : Int32 × SST := if inP S p then (match S.2.2.1 p.toInt.toNat with
  | none => (4, S)
  | some t => if spN S p.toInt.toNat t = true then (2, S) else finA S (setT S (spT S p.toInt.toNat t (pcF S).length))) else (1, S)
def swT (S : SST) (p o : Nat) : Nat → Option BL := tset (tset S.2.2.1 p (some (nowOf S o))) o (some (nowOf S p))
def swA (S : SST) (p o : Int32) : Int32 × SST := if inP S p ∧ inP S o then (if p = o then (5, S) else if 60 < (nowOf S p.toInt.toNat).length ∨ 60 < (nowOf S o.toInt.toNat).length then (8, S) else if escFor S.2.1 (pOf S p.toInt.toNat) (nowOf S o.toInt.toNat) = none ∨ escFor S.2.1 (pOf S o.toInt.toNat) (nowOf S p.toInt.toNat) = none then (2, S) else finA S (setT S (swT S p.toInt.toNat o.toInt.toNat))) else (1, S)
def loA (S : SST) (w : BL) : Int32 × SST := if lkC S.2.1.2.2.2.2 w = 0 then (0, setC S (S.2.1.1, S.2.1.2.1, S.2.1.2.2.1, S.2.1.2.2.2.1, S.2.1.2.2.2.2 ++ [w])) else (lkC S.2.1.2.2.2.2 w, S)
/-- the act by its number -/
def dA (S : SST) (a x y : Int32) (w : BL) : Int32 × SST :=
  if a = 0 then (0, setC S (x, S.2.1.2)) else
  if a = 1 then (0, setC S (S.2.1.1, x, S.2.1.2.2)) else
  if a = 2 then (0, setC S (S.2.1.1, -1, S.2.1.2.2)) else
  if a = 3 then (0, setC S (S.2.1.1, S.2.1.2.1, 1, S.2.1.2.2.2)) else
  if a = 4 then (0, setC S (S.2.1.1, S.2.1.2.1, 0, S.2.1.2.2.2)) else
  if a = 5 then (0, setC S (S.2.1.1, S.2.1.2.1, S.2.1.2.2.1, x.toInt.toNat, S.2.1.2.2.2.2)) else
  if a = 6 then loA S w else
  if a = 7 then (0, setC S (S.2.1.1, S.2.1.2.1, S.2.1.2.2.1, S.2.1.2.2.2.1, [])) else
  if a = 8 then frA S x else if a = 9 then spA S x else if a = 10 then swA S x y else if a = 11 then wpA S else tlA S x w
/-! states stay good -/
theorem SV_none {S : SST} (h4 : S.1.length ≤ 400) (h12 : S.2.2.2.length ≤ 12) (hn : ∀ i, S.2.2.1 i = none) : SV S := by
  refine ⟨fun i t hi he => ?_, ?_, h12, fun i _ => hn i⟩
  · rw [hn i] at he; cases he
  · have e : bltS S = S.1 := blt_none (fun i _ => hn i) pcs_ord
    rw [e]; omega
theorem SV_C {S : SST} {cf : CFG} (h4 : S.1.length ≤ 400) (hV : SV S) : SV (setC S cf) := SV_none h4 hV.2.2.1 (fun _ => rfl)
theorem finA_c {S S1 : SST} : (finA S S1).1 = 3 ∨ (finA S S1).1 = 0 := by
  unfold finA
  split
  · exact Or.inl rfl
  · exact Or.inr rfl
theorem finA_SV {S S1 : SST} (hV : SV S) (h1 : VE S1.2.1 S1.2.2.1 (pcF S1)) (h2 : S1.2.2.2.length ≤ 12) (h3 : ∀ i, (pcF S1).length ≤ i → S1.2.2.1 i = none) : SV (finA S S1).2 := by
  unfold finA
  split
  · exact hV
  · exact ⟨h1, by show (bltS S1).length ≤ 600; omega, h2, h3⟩
theorem tset_ne {told : Nat → Option BL} {p i : Nat} {o : Option BL} (h : i ≠ p) : tset told p o i = told i := if_neg h
theorem tset_eq {told : Nat → Option BL} {p : Nat} {o : Option BL} : tset told p o p = o := if_pos rfl
theorem VE_tset {cf : CFG} {told : Nat → Option BL} {P : List Pc} {p : Nat} {o : Option BL} (h : VE cf told P) (ho : ∀ t, o = some t → escFor cf (P.getD p pc0) t ≠ none) : VE cf (tset told p o) P := by
  intro i t hi he
  by_cases e : i = p
  · rw [e, tset_eq] at he
    have := ho t he
    rw [e]
    cases hx : escFor cf (P.getD p pc0) t with
    | none => exact absurd hx this
    | some z => rfl
  · rw [tset_ne e] at he
    exact h i t hi he
theorem frA_SV {S : SST} {p : Int32} (hV : SV S) : SV (frA S p).2 := by
  unfold frA
  split
  · split
    · exact hV
    · refine finA_SV hV (VE_tset hV.1 (fun t e => by cases e)) hV.2.2.1 (fun i hi => ?_)
      by_cases e : i = p.toInt.toNat
      · rw [e]; exact tset_eq
      · exact (tset_ne e).trans (hV.2.2.2 i hi)
  · exact hV
theorem wpA_SV {S : SST} (h4 : S.1.length ≤ 400) (hV : SV S) : SV (wpA S).2 := by
  unfold wpA
  split
  · exact hV
  · exact SV_none h4 hV.2.2.1 (fun _ => rfl)
theorem tn_lt {p : Int32} {m : Nat} (h : 0 ≤ p.toInt ∧ p.toInt < (m : Int)) : p.toInt.toNat < m := by omega
theorem tset_out {S : SST} {p : Nat} {o : Option BL} (hV : SV S) (hp : p < (pcF S).length) : ∀ i, (pcF S).length ≤ i → tset S.2.2.1 p o i = none := fun i hi => (tset_ne (by omega)).trans (hV.2.2.2 i hi)
theorem memA_SV {S : SST} {x : Pc} {w : BL} (hV : SV S) : SV (memA S x w) := by
  unfold memA
  split
  · exact ⟨hV.1, hV.2.1, by show (List.take 12 _).length ≤ 12; rw [List.length_take]; omega, hV.2.2.2⟩
  · exact hV
theorem tlA_SV {S : SST} {p : Int32} {w : BL} (hV : SV S) : SV (tlA S p w).2 := by
  unfold tlA
  split
  · rename_i hp
    split
    · exact hV
    · rename_i he
      split
      · exact hV
      · rename_i hb
        exact memA_SV ⟨VE_tset hV.1 (fun t e => by cases e; exact he), by omega, hV.2.2.1, tset_out hV (tn_lt hp)⟩
  · exact hV
theorem spA_SV {S : SST} {p : Int32} (hV : SV S) : SV (spA S p).2 := by
  unfold spA
  split
  · split
    · exact hV
    · rename_i t ht
      split
      · exact hV
      · rename_i hs
        refine finA_SV hV (fun i u hi he => ?_) hV.2.2.1 (fun i hi => ?_)
        · have he : (if i < (pcF S).length ∧ lkB S p.toInt.toNat i = true then some t else S.2.2.1 i) = some u := he
          split at he
          · rename_i hc
            cases he
            cases hx : escFor S.2.1 ((pcF S).getD i pc0) t with
            | some z => show (escFor S.2.1 ((pcF S).getD i pc0) t).isSome = true; rw [hx]; rfl
            | none =>
              refine absurd ?_ hs
              unfold spN
              refine List.any_eq_true.mpr ⟨i, List.mem_range.mpr hi, ?_⟩
              rw [hc.2, show escFor S.2.1 (pOf S i) t = none from hx]; rfl
          · exact hV.1 i u hi he
        · exact (if_neg (fun q => absurd q.1 (Nat.not_lt.mpr hi))).trans (hV.2.2.2 i hi)
  · exact hV
theorem swA_SV {S : SST} {p o : Int32} (hV : SV S) : SV (swA S p o).2 := by
  unfold swA
  split
  · rename_i hp
    split
    · exact hV
    · split
      · exact hV
      · split
        · exact hV
        · rename_i he
          refine finA_SV hV (VE_tset (VE_tset hV.1 (fun t e => ?_)) (fun t e => ?_)) hV.2.2.1 (fun i hi => ?_)
          · cases e; exact fun q => he (Or.inl q)
          · cases e; exact fun q => he (Or.inr q)
          · have h1 := tn_lt hp.1
            have h2 := tn_lt hp.2
            have hi' : (pcF S).length ≤ i := hi
            exact (tset_ne (by omega)).trans ((tset_ne (by omega)).trans (hV.2.2.2 i hi))
  · exact hV
theorem SV_if {c : Prop} {d : Decidable c} {A B : Int32 × SST} (h1 : SV A.2) (h2 : SV B.2) : SV (@ite _ c d A B).2 := by
  by_cases h : c
  · rw [if_pos h]; exact h1
  · rw [if_neg h]; exact h2
theorem loA_SV {S : SST} {w : BL} (h4 : S.1.length ≤ 400) (hV : SV S) : SV (loA S w).2 := SV_if (SV_C h4 hV) hV
theorem dA_SV {S : SST} {a x y : Int32} {w : BL} (h4 : S.1.length ≤ 400) (hV : SV S) : SV (dA S a x y w).2 := SV_if (SV_C h4 hV) (SV_if (SV_C h4 hV) (SV_if (SV_C h4 hV) (SV_if (SV_C h4 hV) (SV_if (SV_C h4 hV) (SV_if (SV_C h4 hV) (SV_if (loA_SV h4 hV) (SV_if (SV_C h4 hV) (SV_if (frA_SV hV) (SV_if (spA_SV hV) (SV_if (swA_SV hV) (SV_if (wpA_SV h4 hV) (tlA_SV hV))))))))))))
end
/-! part 57c.class -/
section
/-! the class does acts: what stays, what is said of it -/
def FRa (n : Nat) (f f' : AH) : Prop := ∀ j, j < n → j ≠ 0 → j ≠ 3 → j ≠ 6 → j ≠ 7 → (j < 59 ∨ 115 ≤ j) → (j < 171 ∨ 178 ≤ j) → f' j = f j
theorem fra_rfl {n : Nat} {f : AH} : FRa n f f := fun _ _ _ _ _ _ _ _ => rfl
theorem fra_tr {n n' : Nat} {f f' f'' : AH} (h1 : FRa n f f') (h2 : FRa n' f' f'') (hn : n ≤ n') : FRa n f f'' := fun j a b c d e g h => (h2 j (by omega) b c d e g h).trans (h1 j a b c d e g h)
theorem fra_of {n : Nat} {f f' : AH} (h : ∀ j, j < 59 ∨ (115 ≤ j ∧ j < 171) ∨ 177 < j → f' j = f j) : FRa n f f' := fun j _ _ _ _ _ g k => h j (by omega)
theorem fra_imm {n : Nat} {f f' : AH} (h : FRa n f f') (hn : 224 ≤ n) {j : Nat} (hj : IMM n j) : f' j = f j := by
  have h1 := IMM_1 hj
  have h2 := IMM_ne hj sid3
  have h3 := IMM_lt hj hn
  exact h j h3 h1.1 h2.1 h2.2.1 h2.2.2 (by omega) (by omega)
theorem BSh_tr {f f' : AH} (h : BSh f) (hF : ∀ j, 171 ≤ j → j < 178 → f' j = f j) : BSh f' := by
  obtain ⟨⟨qw, b1⟩, ⟨R, b2⟩, ⟨E, b3⟩, ⟨M, b4⟩⟩ := h
  exact ⟨⟨qw, (hF _ (by omega) (by omega)).trans b1⟩, ⟨R, rw_tr b2 (hF _ (by omega) (by omega)) (hF _ (by omega) (by omega))⟩, ⟨E, rw_tr b3 (hF _ (by omega) (by omega)) (hF _ (by omega) (by omega))⟩, ⟨M, rw_tr b4 (hF _ (by omega) (by omega)) (hF _ (by omega) (by omega))⟩⟩
/-- shapes alone: what restore wants -/
def SHP (f : AH) : Prop := SSh f 3 ∧ CSh f 59 ∧ BSh f
def AOK (f : AH) (n : Nat) (hi pc wn fp : Int32) (r : Int32 × SST) (y : Int32 × HpN) : Prop := ∃ f' n', y = (r.1, f', n') ∧ n ≤ n' ∧ f' 0 = some (.inr (8, pfL hi 0 pc wn fp)) ∧ FRa n f f' ∧ (r.1 = 3 → SHP f') ∧ (r.1 ≠ 3 → KO f' n' r.2)
theorem KO_shp {f : AH} {n : Nat} {S : SST} (h : KO f n S) : SHP f := ⟨STT_sh h.1, CUT_sh h.2.1, h.2.2.1⟩
section CAC
variable {f : AH} {n : Nat} {S : SST} {hi ag pc wn fp : Int32}
theorem aok_no {c : Int32} (hp : f 0 = some (.inr (8, pfL hi 0 pc wn fp))) (hK : KO f n S) (hc : c ≠ 3) : AOK f n hi pc wn fp (c, S) (c, f, n) := ⟨f, n, rfl, Nat.le_refl _, hp, fra_rfl, fun q => absurd q hc, fun _ => hK⟩
theorem f_cutAnew (hp : f 0 = some (.inr (8, pfL hi ag pc wn fp))) (hS : STT f n 3 S) (hC : CSh f 59) (hB : BSh f) (hV : SV (setT S (fun _ => none))) : PQ (mX8_cutAnew 0 f n) (fun y => ∃ f', y = (0, f', n) ∧ f' 0 = some (.inr (8, pfL hi 0 pc wn fp)) ∧ KO f' n (setT S (fun _ => none)) ∧ FRa n f f') := by
  unfold mX8_cutAnew
  refine pq_ck (pq_pO hp rfl ?_)
  have hp2 : va_up f 0 (some (.inr (8, (pfL hi ag pc wn fp).set 10 (.int 0)))) 0 = some (.inr (8, pfL hi 0 pc wn fp)) := u_eq
  have hx : ∀ j, j ≠ 0 → va_up f 0 (some (.inr (8, (pfL hi ag pc wn fp).set 10 (.int 0)))) j = f j := fun j hj => u_ne hj
  generalize va_up f 0 (some (.inr (8, (pfL hi ag pc wn fp).set 10 (.int 0)))) = f2 at hp2 hx ⊢
  have hS2 : STT f2 n 3 S := STT_tr hS (hx _ (by omega)) (hx _ (by omega)) (hx _ (by omega)) (fun i hi => hx i (IMM_1 hi).1) (Nat.le_refl _)
  refine pq_gR hp2 rfl (pq_sb (pq_ck (pq_call (f_forget sid3 hS2) (fun y hy => ?_))))
  obtain ⟨f3, rfl, h3, hF3⟩ := hy
  have hx3 : ∀ j, j ≠ 0 → j ≠ 7 → f3 j = f j := fun j a b => (hF3 j b).trans (hx j a)
  refine pq_tail (f_recut (f := f3) (n := n) (S := setT S (fun _ => none)) (fs := pfL hi 0 pc wn fp) rfl rfl rfl ((hF3 0 (by omega)).trans hp2) h3 hV (CSh_tr hC (fun i a b => hx3 i (by omega) (by omega))) (BSh_tr hB (fun i a b => hx3 i (by omega) (by omega)))) (fun y hy => ?_)
  obtain ⟨f', rfl, k1, k2⟩ := hy
  exact ⟨f', rfl, (k2 0 (by omega)).trans ((hF3 0 (by omega)).trans hp2), k1, fun j a b c d e g h => (k2 j (by omega)).trans (hx3 j b e)⟩
theorem f_restore {s : Nat} {S' : SST} (hp : f 0 = some (.inr (8, pfL hi ag pc wn fp))) (hs : SID s) (h3 : s ≠ 3) (hS : STT f n s S') (hH : SHP f) (hV : SV S') : PQ (mX8_restore 0 (some s) f n) (fun y => ∃ f', y = (0, f', n) ∧ f' 0 = some (.inr (8, pfL hi 0 pc wn fp)) ∧ KO f' n S' ∧ FRa n f f') := by
  obtain ⟨hS3, hC, hB⟩ := hH
  have hs4 := SID_lt hs
  unfold mX8_restore
  refine pq_ck (pq_pO hp rfl ?_)
  have hp2 : va_up f 0 (some (.inr (8, (pfL hi ag pc wn fp).set 10 (.int 0)))) 0 = some (.inr (8, pfL hi 0 pc wn fp)) := u_eq
  have hx : ∀ j, j ≠ 0 → va_up f 0 (some (.inr (8, (pfL hi ag pc wn fp).set 10 (.int 0)))) j = f j := fun j hj => u_ne hj
  generalize va_up f 0 (some (.inr (8, (pfL hi ag pc wn fp).set 10 (.int 0)))) = f2 at hp2 hx ⊢
  have hS2 : STT f2 n s S' := STT_tr hS (hx _ (by omega)) (hx _ (by omega)) (hx _ (by omega)) (fun i hi => hx i (IMM_1 hi).1) (Nat.le_refl _)
  have hS32 : SSh f2 3 := SSh_tr hS3 (hx _ (by omega)) (hx _ (by omega)) (hx _ (by omega))
  refine pq_gR hp2 rfl (pq_sb (pq_ck (pq_call (f_copy sid3 hs (fun q => h3 q.symm) hS32 hS2) (fun y hy => ?_))))
  obtain ⟨f3, rfl, h3, hF3⟩ := hy
  have hx3 : ∀ j, j ≠ 0 → j ≠ 3 → j ≠ 6 → j ≠ 7 → f3 j = f j := fun j a b c d => (hF3 j b c d).trans (hx j a)
  refine pq_tail (f_recut (f := f3) (n := n) (S := S') (fs := pfL hi 0 pc wn fp) rfl rfl rfl ((hF3 0 (by omega) (by omega) (by omega)).trans hp2) h3 hV (CSh_tr hC (fun i a b => hx3 i (by omega) (by omega) (by omega) (by omega))) (BSh_tr hB (fun i a b => hx3 i (by omega) (by omega) (by omega) (by omega)))) (fun y hy => ?_)
  obtain ⟨f', rfl, k1, k2⟩ := hy
  exact ⟨f', rfl, (k2 0 (by omega)).trans ((hF3 0 (by omega) (by omega) (by omega)).trans hp2), k1, fun j a b c d e g h => (k2 j (by omega)).trans (hx3 j b c d e)⟩
/-- made anew -/
theorem f_remake (hS : STT f n 3 S) (hC : CUT f 59 (pcF S)) (hB : BSh f) (hV : VE S.2.1 S.2.2.1 (pcF S)) : PQ (mX0_make 171 (some 3) (some 59) f n) (fun y => ∃ f', (∀ j, j < 59 ∨ (115 ≤ j ∧ j < 171) ∨ 177 < j → f' j = f j) ∧ (((bltS S).length ≤ 600 ∧ y = (1, f', n) ∧ KO f' n S) ∨ (600 < (bltS S).length ∧ y = (0, f', n) ∧ SHP f'))) := by
  obtain ⟨⟨fr, la, a1, ⟨rb, cc, a2, a2', a2''⟩, full, a3, a4⟩, a5, a6, a7, a8⟩ := id hS
  have hM1 : MK f 3 fr 6 7 rb cc S.2.1 S.2.1.2.2.1 (nI S.2.1.2.2.2.1) (nI S.2.1.2.2.2.2.length) la (nI S.2.2.2.length) S.1 S.2.2.1 (pcF S) := ⟨hC.1.1, a1, a2, STT_tld hS⟩
  refine pq_tail (f_make a7.1 a7.2.1 (by omega) (by omega) (IMM_out a2') (IMM_out a2'') pcs_ord hV hM1 hB) (fun y hy => ?_)
  obtain ⟨f2, k1, k2, k3, k4⟩ := hy
  have e : ∀ j, j < 59 ∨ (115 ≤ j ∧ j < 171) ∨ 177 < j → f2 j = f j := fun j hj => k3 j (by omega)
  have hS2 : STT f2 n 3 S := STT_tr hS (e _ (by omega)) (e _ (by omega)) (e _ (by omega)) (fun j hj => e j (by have := IMM_1 hj; omega)) (Nat.le_refl _)
  have hC2 : CUT f2 59 (pcF S) := by
    refine ⟨⟨k1, ?_, ?_, ?_, ?_, ?_⟩, ?_, hC.2.2⟩
    · exact rw_tr hC.1.2.1 (k3 _ (by omega)) (k3 _ (by omega))
    · exact rw_tr hC.1.2.2.1 (k3 _ (by omega)) (k3 _ (by omega))
    · obtain ⟨M, hM⟩ := hC.1.2.2.2.1
      exact ⟨M, rw_tr hM (k3 _ (by omega)) (k3 _ (by omega))⟩
    · obtain ⟨M, hM⟩ := hC.1.2.2.2.2.1
      exact ⟨M, rw_tr hM (k3 _ (by omega)) (k3 _ (by omega))⟩
    · rw [k3 _ (by omega)]; exact hC.1.2.2.2.2.2
    · rw [k3 _ (by omega)]; exact hC.2.1
  refine ⟨f2, e, ?_⟩
  rcases k4 with ⟨k5, rfl, k6, k7⟩ | ⟨k5, rfl⟩
  · exact Or.inl ⟨k5, rfl, hS2, hC2, k2, k6, k7⟩
  · exact Or.inr ⟨k5, rfl, STT_sh hS2, CUT_sh hC2, k2⟩
theorem f_fin {g : AH} {n0 : Nat} {S0 : SST} (hn : n0 ≤ n) (hp : g 0 = some (.inr (8, pfL hi 0 pc wn fp))) (hFr : FRa n0 f g) (hS : STT g n 3 S) (hC : CUT g 59 (pcF S)) (hB : BSh g) (hV : VE S.2.1 S.2.2.1 (pcF S)) : PQ ((gR g 0 8 7).bind fun x20 => ((gR g 0 8 1).bind fun x21 => ((gR g 0 8 5).bind fun x22 => ((x20).bind fun j23 => rCk (isO g j23 0) (((mX0_make j23 x21 x22 g n).bind fun r25 => (if r25.1 = (0 : Int32) then some ((3 : Int32), (r25.2.1, r25.2.2)) else some ((0 : Int32), (r25.2.1, r25.2.2))))))))) (AOK f n0 hi pc wn fp (finA S0 S)) := by
  refine pq_gR hp rfl (pq_gR hp rfl (pq_gR hp rfl (pq_sb (pq_ck (pq_call (f_remake hS hC hB hV) (fun y hy => ?_))))))
  obtain ⟨f', e, h | h⟩ := hy
  · obtain ⟨h1, rfl, h2⟩ := h
    refine pq_f (show ¬ (1 : Int32) = 0 by decide) (pq_ret ?_)
    have e2 : finA S0 S = (0, S) := if_neg (by omega)
    rw [e2]
    exact ⟨f', n, rfl, hn, (e 0 (by omega)).trans hp, fra_tr hFr (fra_of (n := n) e) hn, fun q => absurd (show (0 : Int32) = 3 from q) (by decide), fun _ => h2⟩
  · obtain ⟨h1, rfl, h2⟩ := h
    refine pq_t rfl (pq_ret ?_)
    have e2 : finA S0 S = (3, S0) := if_pos h1
    rw [e2]
    exact ⟨f', n, rfl, hn, (e 0 (by omega)).trans hp, fra_tr hFr (fra_of (n := n) e) hn, fun _ => h2, fun q => absurd rfl q⟩
theorem f_cgetI {v : Int32} {P : List Pc} (hC : CB f 59 P) (h : 0 ≤ v.toInt ∧ v.toInt < P.length) : PQ (mX1_get 59 v f n) (fun y => y = (some (75 + v.toInt.toNat), f, n)) := pq_tail (f_cget hC) (fun y hy => by rw [hy, if_pos h])
theorem f_cgetX {v : Int32} {P : List Pc} (hC : CB f 59 P) (h : ¬ (0 ≤ v.toInt ∧ v.toInt < P.length)) : PQ (mX1_get 59 v f n) (fun y => y = (none, f, n)) := pq_tail (f_cget hC) (fun y hy => by rw [hy, if_neg h])
theorem f_toldForS {s : Nat} {v : Int32} (hS : STT f n s S) (hv : 0 ≤ v.toInt ∧ v.toInt < 40) : PQ (mX7_toldFor s v f n) (fun y => ∃ w, y = (w, f, n) ∧ RO f n (S.2.2.1 v.toInt.toNat) w) := by
  obtain ⟨⟨fr, la, a1, -⟩, -, ⟨g, h2, h3⟩, -⟩ := hS
  unfold mX7_toldFor
  refine pq_lt rfl kt_0 (fun q => by omega) (fun q => ?_)
  refine pq_gR a1 rfl (pq_sb (pq_gL h2 (by omega) ?_))
  refine pq_le kn_40 rfl (fun q2 => by omega) (fun q2 => ?_)
  refine pq_gR a1 rfl (pq_sb (pq_gRA h2 (fun _ => pq_ret ⟨_, rfl, ?_⟩)))
  have h4 := h3 v.toInt.toNat (by omega)
  have e : v.toNatClampNeg = v.toInt.toNat := rfl
  rw [e]
  unfold RO
  cases ht : S.2.2.1 v.toInt.toNat with
  | none => rw [ht] at h4; exact h4
  | some t => rw [ht] at h4; exact h4
theorem inP_40 {v : Int32} (h : inP S v) : 0 ≤ v.toInt ∧ v.toInt < 40 := by
  have := pcs_40 (cf := S.2.1) (L := S.1)
  have h2 : v.toInt < ((pcs S.2.1 S.1).length : Int) := h.2
  exact ⟨h.1, by omega⟩
theorem f_free {v : Int32} (hp : f 0 = some (.inr (8, pfL hi 0 pc wn fp))) (hK : KO f n S) (hV : SV S) : PQ (mX8_freePiece 0 v f n) (AOK f n hi pc wn fp (frA S v)) := by
  unfold mX8_freePiece
  refine pq_gR hp rfl (pq_sb (pq_ck ?_))
  by_cases hin : inP S v
  · have e1 : frA S v = if S.2.2.1 v.toInt.toNat = none then (4, S) else finA S (setT S (tset S.2.2.1 v.toInt.toNat none)) := if_pos hin
    rw [e1]
    have h40 := inP_40 hin
    refine pq_is (f_cgetI hK.2.1.1.1 hin) (pq_sb (pq_oNs (pq_gR hp rfl (pq_sb (pq_ck (pq_call (f_toldForS hK.1 h40) (fun y hy => ?_)))))))
    obtain ⟨w, rfl, hw⟩ := hy
    cases ht : S.2.2.1 v.toInt.toNat with
    | none =>
      rw [ht] at hw
      have hw : w = none := hw
      subst hw
      rw [if_pos rfl]
      exact pq_sb (pq_oNn (pq_ret (aok_no hp hK (by decide))))
    | some t =>
      rw [ht] at hw
      obtain ⟨j, rfl, -⟩ := hw
      rw [if_neg (by intro q; cases q)]
      refine pq_sb (pq_oNs (pq_gR hp rfl (pq_sb (pq_ck (pq_call (f_setTold (o := none) sid3 hK.1 h40 rfl) (fun y hy => ?_))))))
      obtain ⟨f2, rfl, hS2, hF2⟩ := hy
      refine f_fin (n0 := n) (S0 := S) (g := f2) (S := setT S (tset S.2.2.1 v.toInt.toNat none)) (Nat.le_refl _) ((hF2 0 (by omega)).trans hp) (fun j a b c d e g h => hF2 j e) hS2 (CUT_tr hK.2.1 (fun i a b => hF2 i (by omega))) (BSh_tr hK.2.2.1 (fun i a b => hF2 i (by omega))) (VE_tset hV.1 (fun t e => by cases e))
  · have e1 : frA S v = (1, S) := if_neg hin
    rw [e1]
    exact pq_is (f_cgetX hK.2.1.1.1 hin) (pq_sb (pq_oNn (pq_ret (aok_no hp hK (by decide)))))
theorem f_wipe (h4 : S.1.length ≤ 400) (hp : f 0 = some (.inr (8, pfL hi 0 pc wn fp))) (hK : KO f n S) (hV : SV S) : PQ (mX8_wipePieces 0 f n) (AOK f n hi pc wn fp (wpA S)) := by
  unfold mX8_wipePieces
  refine pq_gR hp rfl (pq_sb (pq_ck (pq_is (f_tcount hK.1) ?_)))
  have ht := tcnt_le (told := S.2.2.1) 40
  refine pq_eqi (nI_toInt (by omega)) kt_0 (fun q => ?_) (fun q => ?_)
  · have e : wpA S = (4, S) := if_pos (by omega)
    rw [e]
    exact pq_ret (aok_no hp hK (by decide))
  · have e : wpA S = finA S (setT S (fun _ => none)) := by
      unfold wpA finA
      rw [if_neg (by omega), if_neg]
      have := (SV_none (S := setT S (fun _ => none)) h4 hV.2.2.1 (fun _ => rfl)).2.1
      omega
    rw [e]
    refine pq_gR hp rfl (pq_sb (pq_ck (pq_call (f_forget sid3 hK.1) (fun y hy => ?_))))
    obtain ⟨f2, rfl, hS2, hF2⟩ := hy
    exact f_fin (n0 := n) (S0 := S) (g := f2) (S := setT S (fun _ => none)) (Nat.le_refl _) ((hF2 0 (by omega)).trans hp) (fun j a b c d e g h => hF2 j e) hS2 (CUT_tr hK.2.1 (fun i a b => hF2 i (by omega))) (BSh_tr hK.2.2.1 (fun i a b => hF2 i (by omega))) (fun i t hi he => by cases he)
end CAC
end
