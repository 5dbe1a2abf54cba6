/-! swap, and each act by its number -/
section CDO
variable {f : AH} {n : Nat} {S : SST} {hi ag pc wn fp : Int32}
theorem FRa_up {n' : Nat} {f f' : AH} (h : ∀ k, k < n → f' k = f k) (hn : n' ≤ n) : FRa n' f f' := fun j a _ _ _ _ _ _ => h j (by omega)
theorem f_swap {v u : Int32} (hn : 224 ≤ n) (hp : f 0 = some (.inr (8, pfL hi 0 pc wn fp))) (hK : KO f n S) (hV : SV S) : PQ (mX8_swapPieces 0 v u f n) (AOK f n hi pc wn fp (swA S v u)) := by
  have h40' : (pcF S).length ≤ 40 := pcs_40
  have hT6 := rw_6 hK.2.1.1.2.1
  unfold mX8_swapPieces
  refine pq_gR hp rfl (pq_sb (pq_ck ?_))
  by_cases hv : inP S v
  · refine pq_is (f_cgetI hK.2.1.1.1 hv) (pq_sb (pq_gR hp rfl (pq_sb (pq_ck ?_))))
    by_cases hu : inP S u
    · refine pq_is (f_cgetI hK.2.1.1.1 hu) (pq_sb (pq_oNs (pq_oNs ?_)))
      have hvN := tn_lt hv
      have huN := tn_lt hu
      have e1 : swA S v u = if v = u then (5, S) else if 60 < (nowOf S v.toInt.toNat).length ∨ 60 < (nowOf S u.toInt.toNat).length then (8, S) else if escFor S.2.1 (pOf S v.toInt.toNat) (nowOf S u.toInt.toNat) = none ∨ escFor S.2.1 (pOf S u.toInt.toNat) (nowOf S v.toInt.toNat) = none then (2, S) else finA S (setT S (swT S v.toInt.toNat u.toInt.toNat)) := if_pos ⟨hv, hu⟩
      rw [e1]
      refine pq_eq (fun q => ?_) (fun q => ?_)
      · rw [if_pos q]
        exact pq_ret (aok_no hp hK (by decide))
      · rw [if_neg q]
        have lim : ∀ i, i < (pcF S).length → (nowOf S i).length ≤ 600 := by
          intro i hi
          cases ht : S.2.2.1 i with
          | none =>
            rw [now_n ht]
            have := tx_le hi
            show (pX ((pcF S).getD i pc0)).length ≤ 600
            omega
          | some t =>
            rw [now_s ht]
            obtain ⟨-, -, ⟨g, -, h3⟩, -⟩ := hK.1
            have h5 := h3 i (by omega)
            rw [ht] at h5
            obtain ⟨j, -, -, h60⟩ := h5
            omega
        have l1 := lim _ hvN
        have l2 := lim _ huN
        refine pq_ck (pq_is (f_nowSize (f := f) (n := n) hp hK hv) ?_)
        refine pq_lt kt_60 (nI_toInt (by omega)) (fun q1 => ?_) (fun q1 => ?_)
        · rw [if_pos (Or.inl (by omega))]
          exact pq_ret (aok_no hp hK (by decide))
        · refine pq_ck (pq_is (f_nowSize (f := f) (n := n) hp hK hu) ?_)
          refine pq_le (nI_toInt (by omega)) kt_60 (fun q2 => ?_) (fun q2 => ?_)
          · rw [if_neg (by omega)]
            refine pq_ck (pq_call (f_copyNow (f := f) (n := n) hn hp hK hv) (fun y hy => ?_))
            obtain ⟨f1, n1, j1, rfl, hn1, r1, hF1⟩ := hy
            have hp1 : f1 0 = some (.inr (8, pfL hi 0 pc wn fp)) := (hF1 0 (by omega)).trans hp
            have hK1 : KO f1 n1 S := KO_up hK hn hF1 hn1
            refine pq_sb (pq_ck (pq_call (f_copyNow (f := f1) (n := n1) (by omega) hp1 hK1 hu) (fun y hy => ?_)))
            obtain ⟨f2, n2, j2, rfl, hn2, r2, hF2⟩ := hy
            have hp2 : f2 0 = some (.inr (8, pfL hi 0 pc wn fp)) := (hF2 0 (by omega)).trans hp1
            have hK2 : KO f2 n2 S := KO_up hK1 (by omega) hF2 hn2
            have r1' : RI1 f2 n2 j1 (nowOf S v.toInt.toNat) := RI1_tr r1 (fun j hj => hF2 j (IMM_lt hj (by omega))) hn2
            have hFr2 : FRa n f f2 := fra_tr (FRa_up (n := n) hF1 (Nat.le_refl _)) (FRa_up (n := n1) hF2 (Nat.le_refl _)) hn1
            refine pq_sb (pq_gR hp2 rfl (pq_gR hp2 rfl (pq_sb (pq_ck (pq_call (f_escS (f := f2) (n := n2) hK2 hvN r2 (by omega)) (fun y hy => ?_))))))
            obtain ⟨f3, rfl, hK3, -, hF3⟩ := hy
            have hp3 : f3 0 = some (.inr (8, pfL hi 0 pc wn fp)) := (hF3 0 (by omega)).trans hp2
            have hFr3 : FRa n f f3 := fra_tr hFr2 (fra_of (n := n) (fun j hj => hF3 j (by omega))) (Nat.le_refl _)
            by_cases he : escFor S.2.1 (pOf S v.toInt.toNat) (nowOf S u.toInt.toNat) = none
            · rw [if_pos (Or.inl he)]
              exact pq_t (show bI (escFor S.2.1 (pOf S v.toInt.toNat) (nowOf S u.toInt.toNat)).isSome = 0 by rw [he]; rfl) (pq_ret ⟨f3, n2, rfl, by omega, hp3, hFr3, fun q => absurd (show (2 : Int32) = 3 from q) (by decide), fun _ => hK3⟩)
            · refine pq_f (show ¬ bI (escFor S.2.1 (pOf S v.toInt.toNat) (nowOf S u.toInt.toNat)).isSome = 0 by rw [isS_ne he]; decide) ?_
              have im3 : ∀ j, IMM n2 j → f3 j = f2 j := fun j hj => hF3 j (by have := IMM_1 hj; omega)
              have r13 := RI1_tr r1' im3 (Nat.le_refl _)
              have r23 := RI1_tr r2 im3 (Nat.le_refl _)
              refine pq_gR hp3 rfl (pq_gR hp3 rfl (pq_sb (pq_ck (pq_call (f_escS (f := f3) (n := n2) hK3 huN r13 (by omega)) (fun y hy => ?_)))))
              obtain ⟨f4, rfl, hK4, -, hF4⟩ := hy
              have hp4 : f4 0 = some (.inr (8, pfL hi 0 pc wn fp)) := (hF4 0 (by omega)).trans hp3
              have hFr4 : FRa n f f4 := fra_tr hFr3 (fra_of (n := n) (fun j hj => hF4 j (by omega))) (Nat.le_refl _)
              by_cases he2 : escFor S.2.1 (pOf S u.toInt.toNat) (nowOf S v.toInt.toNat) = none
              · rw [if_pos (Or.inr he2)]
                exact pq_t (show bI (escFor S.2.1 (pOf S u.toInt.toNat) (nowOf S v.toInt.toNat)).isSome = 0 by rw [he2]; rfl) (pq_ret ⟨f4, n2, rfl, by omega, hp4, hFr4, fun q => absurd (show (2 : Int32) = 3 from q) (by decide), fun _ => hK4⟩)
              · rw [if_neg (show ¬ (escFor S.2.1 (pOf S v.toInt.toNat) (nowOf S u.toInt.toNat) = none ∨ escFor S.2.1 (pOf S u.toInt.toNat) (nowOf S v.toInt.toNat) = none) from fun q => q.elim he he2)]
                refine pq_f (show ¬ bI (escFor S.2.1 (pOf S u.toInt.toNat) (nowOf S v.toInt.toNat)).isSome = 0 by rw [isS_ne he2]; decide) ?_
                have im4 : ∀ j, IMM n2 j → f4 j = f3 j := fun j hj => hF4 j (by have := IMM_1 hj; omega)
                have r14 := RI1_tr r13 im4 (Nat.le_refl _)
                have r24 := RI1_tr r23 im4 (Nat.le_refl _)
                refine pq_gR hp4 rfl (pq_sb (pq_ck (pq_call (f_setTold (f := f4) (n := n2) (o := some (nowOf S u.toInt.toNat)) sid3 hK4.1 (inP_40 hv) ⟨j2, rfl, r24, by omega⟩) (fun y hy => ?_))))
                obtain ⟨f5, rfl, hS5, hF5⟩ := hy
                have hp5 : f5 0 = some (.inr (8, pfL hi 0 pc wn fp)) := (hF5 0 (by omega)).trans hp4
                have r15 := RI1_tr r14 (f' := f5) (fun j hj => hF5 j (by have := IMM_ne hj sid3; omega)) (Nat.le_refl _)
                refine pq_gR hp5 rfl (pq_sb (pq_ck (pq_call (f_setTold (f := f5) (n := n2) (o := some (nowOf S v.toInt.toNat)) sid3 hS5 (inP_40 hu) ⟨j1, rfl, r15, by omega⟩) (fun y hy => ?_))))
                obtain ⟨f6, rfl, hS6, hF6⟩ := hy
                have hx : ∀ j, j ≠ 7 → f6 j = f4 j := fun j hj => (hF6 j hj).trans (hF5 j hj)
                exact f_fin (f := f) (n0 := n) (n := n2) (S0 := S) (g := f6) (S := setT S (swT S v.toInt.toNat u.toInt.toNat)) (by omega) ((hF6 0 (by omega)).trans hp5) (fra_tr hFr4 (fun j a b c d e g h => hx j e) (Nat.le_refl _)) hS6 (CUT_tr hK4.2.1 (fun i a b => hx i (by omega))) (BSh_tr hK4.2.2.1 (fun i a b => hx i (by omega))) (VE_tset (VE_tset hV.1 (fun t e => by cases e; exact he)) (fun t e => by cases e; exact he2))
          · rw [if_pos (Or.inr (by omega))]
            exact pq_ret (aok_no hp hK (by decide))
    · have e1 : swA S v u = (1, S) := if_neg (fun q => hu q.2)
      rw [e1]
      exact pq_is (f_cgetX hK.2.1.1.1 hu) (pq_sb (pq_oNs (pq_oNn (pq_ret (aok_no hp hK (by decide))))))
  · have e1 : swA S v u = (1, S) := if_neg (fun q => hv q.1)
    rw [e1]
    refine pq_is (f_cgetX hK.2.1.1.1 hv) (pq_sb (pq_gR hp rfl (pq_sb (pq_ck ?_))))
    refine pq_call (f_cget hK.2.1.1.1) (fun y hy => ?_)
    subst hy
    exact pq_sb (pq_oNn (pq_ret (aok_no hp hK (by decide))))
/-- a rule told: the state's cell changed, then cut anew -/
theorem f_rule {k : Nat} {x : Int32} {cf : CFG} {fr : Nat} {la : Option Nat} (h4 : S.1.length ≤ 400) (hp : f 0 = some (.inr (8, pfL hi 0 pc wn fp))) (hK : KO f n S) (hV : SV S) (hk : decide (k < 10) = true) (ha : f 3 = some (.inr (7, stV fr S.2.1.1 S.2.1.2.1 S.2.1.2.2.1 (nI S.2.1.2.2.2.1) (nI S.2.1.2.2.2.2.length) la (nI S.2.2.2.length) 6 7))) (hs : (stV fr S.2.1.1 S.2.1.2.1 S.2.1.2.2.1 (nI S.2.1.2.2.2.1) (nI S.2.1.2.2.2.2.length) la (nI S.2.2.2.length) 6 7).set k (.int x) = stV fr cf.1 cf.2.1 cf.2.2.1 (nI cf.2.2.2.1) (nI cf.2.2.2.2.length) la (nI S.2.2.2.length) 6 7) (hcf : CFok cf) (hlk : ∀ l, l < cf.2.2.2.2.length → l < S.2.1.2.2.2.2.length ∧ cf.2.2.2.2.getD l [] = S.2.1.2.2.2.2.getD l []) : PQ ((pO f 3 7 k (.int x)).bind fun f5 => rCk (isO f5 0 8) (((mX8_cutAnew 0 f5 n).bind fun r7 => some (r7.1, (r7.2.1, r7.2.2))))) (AOK f n hi pc wn fp (0, setC S cf)) := by
  obtain ⟨⟨fr', la', a1, a2, full, a3, a4⟩, ⟨g, b1, b2⟩, a6, a7, a8⟩ := id hK.1
  have e0 := Option.some.inj (ha.symm.trans a1)
  have e1 : fr = fr' ∧ la = la' := by
    injection e0 with e0
    injection e0 with _ e0
    injection e0 with e2 e0
    injection e2 with e2
    injection e0 with _ e0
    injection e0 with _ e0
    injection e0 with _ e0
    injection e0 with _ e0
    injection e0 with _ e0
    injection e0 with e3 _
    refine ⟨e2, ?_⟩
    cases la <;> cases la' <;> first | rfl | (cases e3; rfl) | cases e3
  obtain ⟨rfl, rfl⟩ := e1
  refine pq_pO ha hk (pq_ck ?_)
  rw [hs]
  have hx : ∀ j, j ≠ 3 → va_up f 3 (some (.inr (7, stV fr cf.1 cf.2.1 cf.2.2.1 (nI cf.2.2.2.1) (nI cf.2.2.2.2.length) la (nI S.2.2.2.length) 6 7))) j = f j := fun j hj => u_ne hj
  have hc : va_up f 3 (some (.inr (7, stV fr cf.1 cf.2.1 cf.2.2.1 (nI cf.2.2.2.1) (nI cf.2.2.2.2.length) la (nI S.2.2.2.length) 6 7))) 3 = some (.inr (7, stV fr cf.1 cf.2.1 cf.2.2.1 (nI cf.2.2.2.1) (nI cf.2.2.2.2.length) la (nI S.2.2.2.length) 6 7)) := u_eq
  generalize va_up f 3 (some (.inr (7, stV fr cf.1 cf.2.1 cf.2.2.1 (nI cf.2.2.2.1) (nI cf.2.2.2.2.length) la (nI S.2.2.2.length) 6 7))) = f2 at hx hc ⊢
  have im : ∀ j, IMM n j → f2 j = f j := fun j hj => hx j (IMM_ne hj sid3).1
  have hS2 : STT f2 n 3 (S.1, cf, S.2.2.1, S.2.2.2) := by
    have hS0 : TDA f2 n (3 + 4) S.2.2.1 := by
      obtain ⟨gt, c1, c2⟩ := a6
      refine ⟨gt, (hx _ (by omega)).trans c1, fun i hi => ?_⟩
      have h5 := c2 i hi
      cases e : S.2.2.1 i with
      | none => rw [e] at h5; exact h5
      | some t =>
        rw [e] at h5
        obtain ⟨j, e1, e2, e3⟩ := h5
        exact ⟨j, e1, RI1_tr e2 im (Nat.le_refl _), e3⟩
    refine ⟨⟨fr, la, hc, RI1_tr a2 im (Nat.le_refl _), full, PCH_tr im (Nat.le_refl _) full la a3, a4⟩, ⟨g, (hx _ (by omega)).trans b1, fun l hl => ?_⟩, hS0, hcf, a8⟩
    obtain ⟨hl1, hl2⟩ := hlk l hl
    obtain ⟨j, e1, e2⟩ := b2 l hl1
    exact ⟨j, e1, by show RI1 f2 n j (cf.2.2.2.2.getD l []); rw [hl2]; exact RI1_tr e2 im (Nat.le_refl _)⟩
  refine pq_call (f_cutAnew (f := f2) (n := n) (S := (S.1, cf, S.2.2.1, S.2.2.2)) ((hx 0 (by omega)).trans hp) hS2 (CSh_tr (CUT_sh hK.2.1) (fun i a b => hx i (by omega))) (BSh_tr hK.2.2.1 (fun i a b => hx i (by omega))) (show SV (setC S cf) from SV_C h4 hV)) (fun y hy => ?_)
  obtain ⟨f3, rfl, k1, k2, k3⟩ := hy
  exact pq_ret ⟨f3, n, rfl, Nat.le_refl _, k1, fra_tr (fun j a b c d e g h => hx j c) k3 (Nat.le_refl _), fun q => absurd (show (0 : Int32) = 3 from q) (by decide), fun _ => k2⟩
end CDO
