/-! the class's cut: reading what the outer scan found -/
abbrev cuL (c0 : Nat) (mn : Int32) : List Value := [.ref (c0 + 1), .ref (c0 + 3), .ref (c0 + 15), .int mn, .ref (c0 + 9), .ref (c0 + 12), .ref (c0 + 5), .ref (c0 + 7)]
abbrev stV (fr : Nat) (k i l le lc : Int32) (la : Option Nat) (pn : Int32) (lk td : Nat) : List Value := [.ref fr, .int k, .int i, .int l, .int le, .int lc, va_rf la, .int pn, .ref lk, .ref td]
theorem qe_walk {L : BL} {i E : Nat} (h : qe L i = E) (hi : i < E) (hE : E ≤ L.length) : (L.getD i 0 = 34 → i + 1 < E ∧ L.getD (i + 1) 0 = 34 ∧ qe L (i + 2) = E) ∧ (L.getD i 0 ≠ 34 → qe L (i + 1) = E) := by
  rw [qe_st (by omega)] at h
  refine ⟨fun q => ?_, fun q => ?_⟩
  · rw [if_pos q] at h
    by_cases h2 : i + 1 < L.length ∧ L.getD (i + 1) 0 = 34
    · rw [if_pos h2] at h
      have := qe_ge (L := L) (k := i + 2)
      exact ⟨by omega, h2.2, h⟩
    · rw [if_neg h2] at h; omega
  · rw [if_neg q] at h; exact h
theorem stepK_x {k : Int32} {L : BL} {a : Nat} (h : a < L.length) {c : CI} (e : (stepK k L a).1 = some c) : c.2.2.2.1 + c.2.2.2.2 ≤ L.length ∧ (k = 1 → c.2.2.1 = true → qe L c.1 = c.2.1) ∧ (k ≠ 1 → c.2.2.1 = false) := by
  unfold stepK at e
  split at e
  · rename_i hk
    unfold stL at e
    have h1 : lnE L a ≤ L.length := nx_le (by omega)
    have h2 : lnS L a ≤ lnE L a := nx_le nx_ge
    have h3 : bkn (bEq 32) L (lnK L a) (lnS L a) ≤ lnS L a := bkn_le _
    have e2 : (if lnS L a = lnE L a ∨ L.getD (lnK L a) 0 = 35 ∨ lnE L a ≤ lnV L a then none else some (lnV L a, lnE L a, false, lnK L a, lnM L a)) = some c := e
    split at e2
    · cases e2
    · cases e2
      refine ⟨?_, fun h => absurd h (by rw [hk]; decide), fun _ => rfl⟩
      show lnK L a + lnM L a ≤ L.length
      unfold lnM
      have h4 : lnK L a ≤ lnE L a := nx_le nx_ge
      omega
  · split at e
    · rename_i hk
      unfold stT at e
      by_cases hq : L.getD a 0 = 34
      · rw [if_pos hq] at e
        have e2 : (if a + 1 < qe L (a + 1) then some (a + 1, qe L (a + 1), true, 0, 0) else none) = some c := e
        split at e2
        · cases e2
          exact ⟨Nat.zero_le _, fun _ _ => rfl, fun h => absurd hk h⟩
        · cases e2
      · rw [if_neg hq] at e
        have e2 : (if a < nx bSep L a L.length then some (a, nx bSep L a L.length, false, 0, 0) else none) = some c := e
        split at e2
        · cases e2
          exact ⟨Nat.zero_le _, (fun _ h => absurd (show false = true from h) (by decide)), fun _ => rfl⟩
        · cases e2
    · rename_i hk1
      split at e
      · unfold stM at e
        by_cases hq : L.getD a 0 = 60
        · rw [if_pos hq] at e; cases e
        · rw [if_neg hq] at e
          have e2 : (if mkX L a < mkY L a then some (mkX L a, mkY L a, false, 0, 0) else none) = some c := e
          split at e2
          · cases e2
            exact ⟨Nat.zero_le _, fun h => absurd h hk1, fun _ => rfl⟩
          · cases e2
      · unfold stQ at e
        by_cases hq : quA L a < L.length
        · rw [if_pos hq] at e
          have e2 : (if quA L a + 1 < quE L a ∧ ¬ (quW L a < L.length ∧ L.getD (quW L a) 0 = 58) then some (quA L a + 1, quE L a, false, 0, 0) else none) = some c := e
          split at e2
          · cases e2
            exact ⟨Nat.zero_le _, fun h => absurd h hk1, fun _ => rfl⟩
          · cases e2
        · rw [if_neg hq] at e; cases e
theorem cutL_x {k : Int32} {L : BL} : ∀ (d a : Nat), L.length - a ≤ d → ∀ c ∈ cutL k L a, c.2.2.2.1 + c.2.2.2.2 ≤ L.length ∧ (k = 1 → c.2.2.1 = true → qe L c.1 = c.2.1) ∧ (k ≠ 1 → c.2.2.1 = false) := by
  intro d
  induction d with
  | zero => intro a h c hc; rw [cutL_end (by omega)] at hc; cases hc
  | succ d ih =>
    intro a h c hc
    by_cases ha : a < L.length
    · rw [cutL_st ha] at hc
      have hg := stepK_gt (k := k) ha
      rcases List.mem_append.mp hc with hc | hc
      · have e : (stepK k L a).1 = some c := by
          cases e1 : (stepK k L a).1 with
          | none => rw [e1] at hc; cases hc
          | some c' => rw [e1] at hc; rw [List.mem_singleton.mp (show c ∈ [c'] from hc)]
        exact stepK_x ha e
      · exact ih (stepK k L a).2 (by omega) c hc
    · rw [cutL_end (by omega)] at hc; cases hc
theorem jmax1 {w : Nat} (h : 1 ≤ w) (h2 : w ≤ 1000) : jMax 1 (nI w) = nI w := by
  have h3 := jmax_b (a := 1) (b := nI w) kt_1 (nI_toInt (by omega))
  exact Int32.toInt_inj.mp (by rw [nI_toInt (by omega)]; omega)
theorem f_readS {f : AH} {s r rb c n : Nat} {L : BL} {m w k : Int32} (hr : isRw f r rb c L) (h1 : r ≠ s) (h2 : rb ≠ s) (hk : k = 0 ∨ k = 1 ∨ k = 2 ∨ k = 3) {b kb ks p : Int32} {i E : Nat} {q : Bool} (hs : f s = scE r b (nI E) (bI q) kb ks m w k p) (hi : i < E) (hE : E ≤ L.length) (hT : k = 1 → q = true → L.getD i 0 = 34 → i + 1 < E ∧ L.getD (i + 1) 0 = 34) : PQ (mX6_read s (nI i) f n) (fun y => y = (0, va_up f s (scE r b (nI E) (bI q) kb ks (mw k q L i E).1 (nI (mw k q L i E).2) k p), n)) := by
  have h := f_read (n := n) (m := m) (w := w) (b := b) (kb := kb) (ks := ks) (p := p) hr h1 h2 hk hi hE hT
  rw [u_id hs] at h
  exact h
theorem f_rdO_l {n c0 o r rb c : Nat} {L : BL} {k b kb ks p mn : Int32} {q : Bool} (hk : k = 0 ∨ k = 1 ∨ k = 2 ∨ k = 3) (ho : 1 ≤ o ∧ o ≤ 5) (hro : r < c0 ∨ c0 + 56 ≤ r) (hrb : rb < c0 ∨ c0 + 56 ≤ rb) {E : Nat} (hE : E ≤ L.length) : ∀ (d i : Nat) (f : AH) (A Bs : BL) (m w : Int32), f c0 = some (.inr (1, cuL c0 mn)) → f (c0 + 9) = scE r b (nI E) (bI q) kb ks m w k p → isRw f r rb c L → isRw f (c0 + o) (c0 + o + 1) 600 A → isRw f (c0 + o + 2) (c0 + o + 3) 600 Bs → i ≤ E → A.length + (E - i) ≤ 600 → Bs.length + (E - i) ≤ 600 → (k = 1 → q = true → qe L i = E) → PQ (mX1_readOuter_l8 d c0 (some (c0 + o)) (some (c0 + o + 2)) (nI i) f n) (fun y => ∃ f' m' w', y = (0, f', n) ∧ f' (c0 + 9) = scE r b (nI E) (bI q) kb ks m' w' k p ∧ isRw f' (c0 + o) (c0 + o + 1) 600 (A ++ (und k q L i E).map (fun x => x.1)) ∧ isRw f' (c0 + o + 2) (c0 + o + 3) 600 (Bs ++ (und k q L i E).map (fun x => nI x.2.1)) ∧ ∀ i, i ≠ c0 + 9 → (i < c0 + o ∨ c0 + o + 3 < i) → f' i = f i) := by
  intro d
  induction d with
  | zero => intro i f A Bs m w _ _ _ _ _ _ _ _ _; exact pq_none
  | succ d ih =>
    intro i f A Bs m w hc hs hr hA hB hi hlA hlB hq
    have h6 := rw_6 hr
    unfold mX1_readOuter_l8
    refine pq_gR hc rfl (pq_sb (pq_gI hs rfl ?_))
    refine pq_le (nI_toInt (by omega)) (nI_toInt (by omega)) (fun h => ?_) (fun h => ?_)
    · refine pq_ret ⟨f, m, w, rfl, hs, ?_, ?_, fun _ _ _ => rfl⟩
      · rw [und_end (by omega)]; show isRw f _ _ _ (A ++ []); rw [List.append_nil]; exact hA
      · rw [und_end (by omega)]; show isRw f _ _ _ (Bs ++ []); rw [List.append_nil]; exact hB
    · have hiE : i < E := by omega
      have hw := mw_b (k := k) (q := q) (L := L) hiE
      refine pq_gR hc rfl (pq_sb (pq_ck (pq_is (f_readS hr (by omega) (by omega) hk hs hiE hE (fun k1 q1 h34 => ?_)) ?_)))
      · have h3 := (qe_walk (hq k1 q1) hiE hE).1 h34
        exact ⟨h3.1, h3.2.1⟩
      have n9 : c0 ≠ c0 + 9 := by omega
      have hc1 := (u_ne (f := f) (v := scE r b (nI E) (bI q) kb ks (mw k q L i E).1 (nI (mw k q L i E).2) k p) n9).trans hc
      refine pq_gR hc1 rfl (pq_sb (pq_gI u_eq rfl (pq_sb (pq_ck ?_))))
      refine pq_call (f_add (rw_up hA (by omega) (by omega))) (fun y hy => ?_)
      rcases hy with ⟨hl, f1, rfl, hA1, hF1⟩ | ⟨hl, -⟩
      · refine pq_sb (pq_ck ?_)
        have hB1 : isRw f1 (c0 + o + 2) (c0 + o + 3) 600 Bs := rw_tr (rw_up hB (by omega) (by omega)) (hF1 _ (by omega) (by omega)) (hF1 _ (by omega) (by omega))
        refine pq_call (f_add hB1) (fun y hy => ?_)
        rcases hy with ⟨hl2, f2, rfl, hB2, hF2⟩ | ⟨hl2, -⟩
        · have hF : ∀ x, x ≠ c0 + 9 → (x < c0 + o ∨ c0 + o + 3 < x) → f2 x = f x := fun x e1 e2 => ((hF2 x (by omega) (by omega)).trans (hF1 x (by omega) (by omega))).trans (u_ne e1)
          have hs2 : f2 (c0 + 9) = scE r b (nI E) (bI q) kb ks (mw k q L i E).1 (nI (mw k q L i E).2) k p := ((hF2 _ (by omega) (by omega)).trans (hF1 _ (by omega) (by omega))).trans u_eq
          have hc2 : f2 c0 = some (.inr (1, cuL c0 mn)) := (hF c0 (by omega) (by omega)).trans hc
          refine pq_gR hc2 rfl (pq_sb (pq_gI hs2 rfl ?_))
          rw [jmax1 hw.1 (by omega), nI_add]
          have hA2 : isRw f2 (c0 + o) (c0 + o + 1) 600 (A ++ [(mw k q L i E).1]) := rw_tr hA1 (hF2 _ (by omega) (by omega)) (hF2 _ (by omega) (by omega))
          have hr2 : isRw f2 r rb c L := rw_tr hr (hF r (by omega) (by omega)) (hF rb (by omega) (by omega))
          refine pq_tail (ih (i + (mw k q L i E).2) f2 (A ++ [(mw k q L i E).1]) (Bs ++ [nI i]) _ _ hc2 hs2 hr2 hA2 hB2 hw.2.1 (by rw [List.length_append]; show A.length + 1 + _ ≤ 600; omega) (by rw [List.length_append]; show Bs.length + 1 + _ ≤ 600; omega) (fun k1 q1 => ?_)) (fun y hy => ?_)
          · have h3 := qe_walk (hq k1 q1) hiE hE
            by_cases h34 : L.getD i 0 = 34
            · have h4 := h3.1 h34
              have e2 : (mw k q L i E).2 = 2 := by
                unfold mw
                rw [if_pos k1]
                exact if_pos ⟨q1, h34, h4.1, h4.2.1⟩
              rw [e2]; exact h4.2.2
            · have e2 : (mw k q L i E).2 = 1 := by
                unfold mw
                rw [if_pos k1]
                exact if_neg (fun x => h34 x.2.1)
              rw [e2]; exact h3.2 h34
          · obtain ⟨f3, m3, w3, rfl, g1, g2, g3, g4⟩ := hy
            refine ⟨f3, m3, w3, rfl, g1, ?_, ?_, fun x e1 e2 => (g4 x e1 e2).trans (hF x e1 e2)⟩
            · rw [und_st hiE]
              rw [List.append_assoc] at g2
              exact g2
            · rw [und_st hiE]
              rw [List.append_assoc] at g3
              exact g3
        · omega
      · omega
theorem f_rdO {n c0 o r rb c : Nat} {L : BL} {k kb ks p mn m w : Int32} {q : Bool} {f : AH} {A Bs : BL} {i E : Nat} (hk : k = 0 ∨ k = 1 ∨ k = 2 ∨ k = 3) (ho : 1 ≤ o ∧ o ≤ 5) (hro : r < c0 ∨ c0 + 56 ≤ r) (hrb : rb < c0 ∨ c0 + 56 ≤ rb) (hE : E ≤ L.length) (hc : f c0 = some (.inr (1, cuL c0 mn))) (hs : f (c0 + 9) = scE r (nI i) (nI E) (bI q) kb ks m w k p) (hr : isRw f r rb c L) (hA : isRw f (c0 + o) (c0 + o + 1) 600 A) (hB : isRw f (c0 + o + 2) (c0 + o + 3) 600 Bs) (hi : i ≤ E) (hlA : A.length + (E - i) ≤ 600) (hlB : Bs.length + (E - i) ≤ 600) (hq : k = 1 → q = true → qe L i = E) : PQ (mX1_readOuter c0 (some (c0 + o)) (some (c0 + o + 2)) f n) (fun y => ∃ f' m' w', y = (0, f', n) ∧ f' (c0 + 9) = scE r (nI i) (nI E) (bI q) kb ks m' w' k p ∧ isRw f' (c0 + o) (c0 + o + 1) 600 (A ++ (und k q L i E).map (fun x => x.1)) ∧ isRw f' (c0 + o + 2) (c0 + o + 3) 600 (Bs ++ (und k q L i E).map (fun x => nI x.2.1)) ∧ ∀ i, i ≠ c0 + 9 → (i < c0 + o ∨ c0 + o + 3 < i) → f' i = f i) := by
  unfold mX1_readOuter
  refine pq_gR hc rfl (pq_sb (pq_gI hs rfl ?_))
  exact f_rdO_l hk ho hro hrb hE rFU i f A Bs m w hc hs hr hA hB hi hlA hlB hq
