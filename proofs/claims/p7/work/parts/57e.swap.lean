/-! the class spreads and swaps -/
theorem spT_0 {S : SST} {p : Nat} {t : BL} : spT S p t 0 = S.2.2.1 := by
  funext i
  exact if_neg (fun q => absurd q.1 (Nat.not_lt_zero _))
theorem spT_no {S : SST} {p m : Nat} {t : BL} (h : lkB S p m = false) : spT S p t (m + 1) = spT S p t m := by
  funext i
  unfold spT
  by_cases e : i = m
  · subst e
    rw [if_neg (by rw [h]; intro q; cases q.2), if_neg (by omega)]
  · by_cases h2 : i < m ∧ lkB S p i = true
    · rw [if_pos h2, if_pos ⟨by omega, h2.2⟩]
    · rw [if_neg h2, if_neg (fun q => h2 ⟨by omega, q.2⟩)]
theorem spT_yes {S : SST} {p m : Nat} {t : BL} (h : lkB S p m = true) : tset (spT S p t m) m (some t) = spT S p t (m + 1) := by
  funext i
  by_cases e : i = m
  · subst e
    rw [tset_eq]
    exact (if_pos ⟨by omega, h⟩).symm
  · rw [tset_ne e]
    unfold spT
    by_cases h2 : i < m ∧ lkB S p i = true
    · rw [if_pos h2, if_pos ⟨by omega, h2.2⟩]
    · rw [if_neg h2, if_neg (fun q => h2 ⟨by omega, q.2⟩)]
section CSP
variable {n : Nat} {S : SST} {hi ag pc wn fp : Int32}
theorem nI_tn {i : Nat} (h : i < 2 ^ 31) : (nI i).toInt.toNat = i := by
  rw [nI_toInt h]; exact Int.toNat_natCast i
theorem f_spread_l86 {f0 : AH} {v : Int32} {jt : Nat} {t : BL} (hn : 224 ≤ n) (hin : inP S v) (h60 : t.length ≤ 60) (hve : VE S.2.1 (spT S v.toInt.toNat t (pcF S).length) (pcF S)) : ∀ (d i : Nat) (f : AH), f 0 = some (.inr (8, pfL hi 0 pc wn fp)) → FRa n f0 f → STT f n 3 (setT S (spT S v.toInt.toNat t i)) → CUT f 59 (pcF S) → BSh f → RI1 f n jt t → i ≤ (pcF S).length → PQ (mX8_spreadPiece_l86 d 0 v (some jt) (nI i) f n) (AOK f0 n hi pc wn fp (finA S (setT S (spT S v.toInt.toNat t (pcF S).length)))) := by
  have h40 : (pcF S).length ≤ 40 := pcs_40
  intro d
  induction d with
  | zero => intro i f _ _ _ _ _ _ _; exact pq_none
  | succ d ih =>
    intro i f hp hFr hS hC hB hw hi
    unfold mX8_spreadPiece_l86
    refine pq_gR hp rfl (pq_sb (pq_ck (pq_is (f_csize hC.1.1) ?_)))
    refine pq_le (nI_toInt (by omega)) (nI_toInt (by omega)) (fun q => ?_) (fun q => ?_)
    · have e : i = (pcF S).length := by omega
      rw [e] at hS
      exact f_fin (n0 := n) (S0 := S) (g := f) (S := setT S (spT S v.toInt.toNat t (pcF S).length)) (Nat.le_refl _) hp hFr hS hC hB hve
    · refine pq_gR hp rfl (pq_sb (pq_ck (pq_is (f_areLike (f := f) (n := n) hC hin (show i < (pcF S).length by omega)) ?_)))
      cases hl : lkB S v.toInt.toNat i with
      | false =>
        refine pq_t rfl ?_
        show PQ (mX8_spreadPiece_l86 d 0 v (some jt) (nI i + 1) f n) _
        rw [nI_1]
        rw [← spT_no hl] at hS
        exact ih (i + 1) f hp hFr hS hC hB hw (by omega)
      | true =>
        refine pq_f (show ¬ (1 : Int32) = 0 by decide) ?_
        refine pq_gR hp rfl (pq_sb (pq_ck (pq_call (f_setTold (f := f) (n := n) (v := nI i) (o := some t) sid3 hS (by rw [nI_toInt (by omega)]; omega) ⟨jt, rfl, hw, h60⟩) (fun y hy => ?_))))
        obtain ⟨f2, rfl, hS2, hF2⟩ := hy
        show PQ (mX8_spreadPiece_l86 d 0 v (some jt) (nI i + 1) f2 n) _
        rw [nI_1]
        rw [nI_tn (by omega)] at hS2
        have hS2 : STT f2 n 3 (setT S (tset (spT S v.toInt.toNat t i) i (some t))) := hS2
        rw [spT_yes hl] at hS2
        exact ih (i + 1) f2 ((hF2 0 (by omega)).trans hp) (fra_tr hFr (fun j a b c d e g h => hF2 j e) (Nat.le_refl _)) hS2 (CUT_tr hC (fun i a b => hF2 i (by omega))) (BSh_tr hB (fun i a b => hF2 i (by omega))) (RI1_tr hw (fun j hj => hF2 j (by have := IMM_ne hj sid3; omega)) (Nat.le_refl _)) (by omega)
theorem f_spread_l30 {f0 : AH} {v : Int32} {jt : Nat} {t : BL} (hn : 224 ≤ n) (hin : inP S v) (hV : SV S) (h60 : t.length ≤ 60) : ∀ (d i : Nat) (f : AH), f 0 = some (.inr (8, pfL hi 0 pc wn fp)) → FRa n f0 f → KO f n S → RI1 f n jt t → i ≤ (pcF S).length → (∀ k, k < i → lkB S v.toInt.toNat k = true → escFor S.2.1 (pOf S k) t ≠ none) → PQ (mX8_spreadPiece_l30 d 0 v (some jt) (nI i) f n) (AOK f0 n hi pc wn fp (if spN S v.toInt.toNat t = true then (2, S) else finA S (setT S (spT S v.toInt.toNat t (pcF S).length)))) := by
  have h40 : (pcF S).length ≤ 40 := pcs_40
  intro d
  induction d with
  | zero => intro i f _ _ _ _ _ _; exact pq_none
  | succ d ih =>
    intro i f hp hFr hK hw hil hno
    have hC := hK.2.1
    unfold mX8_spreadPiece_l30
    refine pq_gR hp rfl (pq_sb (pq_ck (pq_is (f_csize hC.1.1) ?_)))
    refine pq_le (nI_toInt (by omega)) (nI_toInt (by omega)) (fun q => ?_) (fun q => ?_)
    · have e : i = (pcF S).length := by omega
      have en : spN S v.toInt.toNat t = false := by
        cases hx : spN S v.toInt.toNat t with
        | false => rfl
        | true =>
          unfold spN at hx
          obtain ⟨k, hk1, hk2⟩ := List.any_eq_true.mp hx
          rw [Bool.and_eq_true] at hk2
          have := hno k (by have := List.mem_range.mp hk1; omega) hk2.1
          rw [Option.isNone_iff_eq_none] at hk2
          exact absurd hk2.2 this
      rw [if_neg (by rw [en]; decide)]
      refine f_spread_l86 hn hin h60 (fun k u hk he => ?_) rFU 0 f hp hFr (by rw [spT_0]; exact hK.1) hC hK.2.2.1 hw (Nat.zero_le _)
      have he : (if k < (pcF S).length ∧ lkB S v.toInt.toNat k = true then some t else S.2.2.1 k) = some u := he
      split at he
      · rename_i hc
        cases he
        exact isS_ne (hno k (by omega) hc.2)
      · exact hV.1 k u hk he
    · have hi' : i < (pcF S).length := by omega
      refine pq_gR hp rfl (pq_sb (pq_ck (pq_is (f_areLike (f := f) (n := n) hC hin hi') ?_)))
      cases hl : lkB S v.toInt.toNat i with
      | false =>
        refine pq_t rfl ?_
        show PQ (mX8_spreadPiece_l30 d 0 v (some jt) (nI i + 1) f n) _
        rw [nI_1]
        refine ih (i + 1) f hp hFr hK hw (by omega) (fun k hk hlk => ?_)
        by_cases e : k = i
        · rw [e, hl] at hlk; cases hlk
        · exact hno k (by omega) hlk
      | true =>
        refine pq_f (show ¬ (1 : Int32) = 0 by decide) ?_
        refine pq_gR hp rfl (pq_gR hp rfl (pq_sb (pq_ck (pq_is (f_cgetN hC.1.1 hi') (pq_sb (pq_gR hp rfl (pq_sb (pq_ck (pq_call (f_escS (f := f) (n := n) hK hi' hw h60) (fun y hy => ?_)))))))))) 
        obtain ⟨f1, rfl, hK1, -, hF1⟩ := hy
        have hp1 : f1 0 = some (.inr (8, pfL hi 0 pc wn fp)) := (hF1 0 (by omega)).trans hp
        have hFr1 : FRa n f0 f1 := fra_tr hFr (fra_of (n := n) (fun j hj => hF1 j (by omega))) (Nat.le_refl _)
        by_cases he : escFor S.2.1 (pOf S i) t = none
        · have es : spN S v.toInt.toNat t = true := by
            unfold spN
            refine List.any_eq_true.mpr ⟨i, List.mem_range.mpr hi', ?_⟩
            rw [hl, he]; rfl
          rw [if_pos es]
          exact pq_t (show bI (escFor S.2.1 (pOf S i) t).isSome = 0 by rw [he]; rfl) (pq_ret ⟨f1, n, rfl, Nat.le_refl _, hp1, hFr1, fun q => absurd (show (2 : Int32) = 3 from q) (by decide), fun _ => hK1⟩)
        · refine pq_f (show ¬ bI (escFor S.2.1 (pOf S i) t).isSome = 0 by rw [isS_ne he]; decide) ?_
          show PQ (mX8_spreadPiece_l30 d 0 v (some jt) (nI i + 1) f1 n) _
          rw [nI_1]
          refine ih (i + 1) f1 hp1 hFr1 hK1 (RI1_tr hw (fun j hj => hF1 j (by have := IMM_1 hj; omega)) (Nat.le_refl _)) (by omega) (fun k hk hlk => ?_)
          by_cases e : k = i
          · rw [e]; exact he
          · exact hno k (by omega) hlk
theorem f_spread {f : AH} {v : Int32} (hn : 224 ≤ n) (hp : f 0 = some (.inr (8, pfL hi 0 pc wn fp))) (hK : KO f n S) (hV : SV S) : PQ (mX8_spreadPiece 0 v f n) (AOK f n hi pc wn fp (spA S v)) := by
  unfold mX8_spreadPiece
  refine pq_gR hp rfl (pq_sb (pq_ck ?_))
  by_cases hin : inP S v
  · have h40 := inP_40 hin
    refine pq_is (f_cgetI hK.2.1.1.1 hin) (pq_sb (pq_oNs (pq_gR hp rfl (pq_sb (pq_ck (pq_call (f_toldForS (f := f) (n := n) hK.1 h40) (fun y hy => ?_)))))))
    obtain ⟨w, rfl, hw⟩ := hy
    cases ht : S.2.2.1 v.toInt.toNat with
    | none =>
      rw [ht] at hw
      have hw : w = none := hw
      subst hw
      have e1 : spA S v = (4, S) := by
        unfold spA
        rw [if_pos hin, ht]
      rw [e1]
      exact pq_sb (pq_oNn (pq_ret (aok_no hp hK (by decide))))
    | some t =>
      rw [ht] at hw
      obtain ⟨j, rfl, hw, h60⟩ := hw
      have e1 : spA S v = if spN S v.toInt.toNat t = true then (2, S) else finA S (setT S (spT S v.toInt.toNat t (pcF S).length)) := by
        unfold spA
        rw [if_pos hin, ht]
      rw [e1]
      exact pq_sb (pq_oNs (f_spread_l30 hn hin hV h60 rFU 0 f hp fra_rfl hK hw (Nat.zero_le _) (fun k hk => absurd hk (Nat.not_lt_zero _))))
  · have e1 : spA S v = (1, S) := if_neg hin
    rw [e1]
    exact pq_is (f_cgetX hK.2.1.1.1 hin) (pq_sb (pq_oNn (pq_ret (aok_no hp hK (by decide)))))
/-! what a piece is now -/
theorem now_s {i : Nat} {t : BL} (h : S.2.2.1 i = some t) : nowOf S i = t := by
  unfold nowOf; rw [h]
theorem now_n {i : Nat} (h : S.2.2.1 i = none) : nowOf S i = pX (pOf S i) := by
  unfold nowOf; rw [h]
theorem f_nowSize {f : AH} {v : Int32} (hp : f 0 = some (.inr (8, pfL hi ag pc wn fp))) (hK : KO f n S) (hin : inP S v) : PQ (mX8_nowSize 0 v (some (75 + v.toInt.toNat)) f n) (fun y => y = (nI (nowOf S v.toInt.toNat).length, f, n)) := by
  obtain ⟨x11, ep⟩ := KO_BD hK (tn_lt hin)
  unfold mX8_nowSize
  refine pq_gR hp rfl (pq_sb (pq_ck (pq_call (f_toldForS (f := f) (n := n) hK.1 (inP_40 hin)) (fun y hy => ?_))))
  obtain ⟨w, rfl, hw⟩ := hy
  cases ht : S.2.2.1 v.toInt.toNat with
  | none =>
    rw [ht] at hw
    have hw : w = none := hw
    subst hw
    rw [now_n ht]
    exact pq_sb (pq_oNn (pq_sb (pq_gI ep rfl (pq_ret rfl))))
  | some t =>
    rw [ht] at hw
    obtain ⟨j, rfl, ⟨b, c, hr, -⟩, h60⟩ := hw
    rw [now_s ht]
    exact pq_sb (pq_oNs (pq_ck (pq_is (f_size hr) (pq_ret rfl))))
theorem f_copyNow {f : AH} {v : Int32} (hn : 224 ≤ n) (hp : f 0 = some (.inr (8, pfL hi ag pc wn fp))) (hK : KO f n S) (hin : inP S v) : PQ (mX8_copyOfNow 0 v (some (75 + v.toInt.toNat)) f n) (fun y => ∃ f' n' j, y = (some j, f', n') ∧ n ≤ n' ∧ RI1 f' n' j (nowOf S v.toInt.toNat) ∧ ∀ k, k < n → f' k = f k) := by
  have hvN := tn_lt hin
  obtain ⟨x11, ep⟩ := KO_BD hK hvN
  unfold mX8_copyOfNow
  refine pq_gR hp rfl (pq_sb (pq_ck (pq_call (f_toldForS (f := f) (n := n) hK.1 (inP_40 hin)) (fun y hy => ?_))))
  obtain ⟨w, rfl, hw⟩ := hy
  cases ht : S.2.2.1 v.toInt.toNat with
  | none =>
    rw [ht] at hw
    have hw : w = none := hw
    subst hw
    rw [now_n ht]
    have hT := hK.2.1.1.2.1
    refine pq_sb (pq_oNn (pq_gR hp rfl (pq_sb (pq_gR hK.2.1.1.1.1 rfl (pq_sb (pq_gI ep rfl (pq_gI ep rfl (pq_sb (pq_ck (pq_call (f_part (f := f) (n := n) (B := 60) (i := tAt (pcF S) v.toInt.toNat) (k := (pX (pOf S v.toInt.toNat)).length) hT (tx_le hvN) (by omega) (by omega)) (fun y hy => ?_)))))))))))
    obtain ⟨f4, rfl, r4, hF4⟩ := hy
    have er : sl (txs (pcF S)) (tAt (pcF S) v.toInt.toNat) (tAt (pcF S) v.toInt.toNat + (pX (pOf S v.toInt.toNat)).length) = pX (pOf S v.toInt.toNat) := tx_sl hvN
    rw [er] at r4
    exact pq_sb (pq_ret ⟨f4, n + 2, n, rfl, by omega, ⟨n + 1, _, r4, by unfold IMM; omega, by unfold IMM; omega⟩, hF4⟩)
  | some t =>
    rw [ht] at hw
    obtain ⟨j, rfl, hr, h60⟩ := hw
    rw [now_s ht]
    exact pq_sb (pq_oNs (pq_ret ⟨f, n, j, rfl, Nat.le_refl _, hr, fun _ _ => rfl⟩))
end CSP
