/-! the class's calls: file, undo, image, back, the tape, a text -/
def sFile (V : SPV) : Int32 × SPV := (nPc ([], (V.1, V.2.1.2.1, fun _ => none, V.2.1.2.2.2), [], V.2.2.2.1, V.2.2.2.2.1, V.2.2.2.2.2), ([], (V.1, V.2.1.2.1, fun _ => none, V.2.1.2.2.2), [], V.2.2.2.1, V.2.2.2.2.1, V.2.2.2.2.2))
def lastS (V : SPV) : SST := V.2.2.1.getD (V.2.2.1.length - 1) V.2.1
def sUndo (V : SPV) : ANS := if V.2.2.1.length = 0 then (.inr eS, V) else (.inl (nI (V.2.2.1.length - 1)), (V.1, lastS V, V.2.2.1.take (V.2.2.1.length - 1), V.2.2.2.1, V.2.2.2.2.1, V.2.2.2.2.2))
def sImage (V : SPV) : Int32 × SPV := (0, (V.1, V.2.1, V.2.2.1, some V.2.1, V.2.2.2.2.1, V.2.2.2.2.2))
def sBack (V : SPV) : Int32 × SPV := match V.2.2.2.1 with
  | none => (0, V)
  | some I => (1, (V.1, I, [], some I, V.2.2.2.2.1, V.2.2.2.2.2))
def by4 (a s : Int32) : Int32 := (a.toUInt32 >>> (s.toUInt32 &&& Int32.toUInt32 31)).toInt32 &&& 255
def f4 (a : Int32) : BL := [by4 a 24, by4 a 16, by4 a 8, by4 a 0]
def sFeed (V : SPV) (a b c d e : Int32) : Int32 × SPV := if V.1.length + 20 ≤ 400 then (nI (V.1.length + 20), (V.1 ++ f4 a ++ f4 b ++ f4 c ++ f4 d ++ f4 e, V.2)) else (-1, V)
def sEnd (V : SPV) (m : Int32) : Int32 × SPV := if 0 ≤ m.toInt ∧ m.toInt ≤ V.1.length then (1, (V.1.take m.toInt.toNat, V.2)) else (0, V)
def sActs (V : SPV) : ANS := match (aTop V.1 V.2.1).1 with
  | none => (.inl (nI (aTop V.1 V.2.1).2.2.1), ([], (aTop V.1 V.2.1).2.2.2, [], V.2.2.2.1, (if 0 < (aTop V.1 V.2.1).2.2.1 then 0 else V.2.2.2.2.1), -1))
  | some w => (.inr eA, ([], V.2.1, V.2.2.1, V.2.2.2.1, (if (aTop V.1 V.2.1).2.1 = 0 then V.2.2.2.2.1 else (aTop V.1 V.2.1).2.1), nI w))
section COE
variable {f : AH} {n : Nat} {V : SPV}
theorem PST_nil {P : List SST} (h : PST f n P) : PST f n [] := by
  obtain ⟨-, g, h2, h3, h4⟩ := h
  refine ⟨by show 0 ≤ 8; omega, g, h2, fun i hi => ?_, h4⟩
  obtain ⟨s, e1, e2, e3, e4, -⟩ := h3 i hi
  exact ⟨s, e1, e2, e3, e4, fun Q hQ => by cases hQ⟩
theorem RS_nil {P : List SST} {I : Option SST} (h : RS f n P I) : RS f n [] I := ⟨h.1, h.2.1, PST_nil h.2.2.1, h.2.2.2⟩
theorem k_file (h : RC f n V) : PQ (mX8_file 0 f n) (COI (sFile V)) := by
  obtain ⟨hn, ⟨ag, hp, -⟩, hT, ⟨hK, hV⟩, hRS, hR⟩ := id h
  have h6 := rw_6 hT
  have h4 := hT.2.2.1
  unfold mX8_file
  refine pq_gR hp rfl (pq_gR hp rfl (pq_gR hp rfl (pq_sb (pq_ck (pq_is (f_size hT) (pq_sb (pq_ck (pq_call (f_take (f := f) (n := n) h) (fun y hy => ?_)))))))))
  obtain ⟨f1, rfl, r1, hF1⟩ := hy
  have hK1 : KO f1 (n + 2) V.2.1 := KO_up hK hn hF1 (by omega)
  obtain ⟨⟨fr, la, a1, a2, full, a3, a4⟩, a5, a6, a7, a8⟩ := id hK1.1
  refine pq_sb (pq_sb (pq_pO a1 rfl ?_))
  have hc2 : va_up f1 3 (some (.inr (7, (stV fr V.2.1.2.1.1 V.2.1.2.1.2.1 V.2.1.2.1.2.2.1 (nI V.2.1.2.1.2.2.2.1) (nI V.2.1.2.1.2.2.2.2.length) la (nI V.2.1.2.2.2.length) (3 + 3) (3 + 4)).set 0 (va_rf (some n))))) 3 = some (.inr (7, stV n V.2.1.2.1.1 V.2.1.2.1.2.1 V.2.1.2.1.2.2.1 (nI V.2.1.2.1.2.2.2.1) (nI V.2.1.2.1.2.2.2.2.length) la (nI V.2.1.2.2.2.length) (3 + 3) (3 + 4))) := u_eq
  have hF2 : ∀ j, j ≠ 3 → va_up f1 3 (some (.inr (7, (stV fr V.2.1.2.1.1 V.2.1.2.1.2.1 V.2.1.2.1.2.2.1 (nI V.2.1.2.1.2.2.2.1) (nI V.2.1.2.1.2.2.2.2.length) la (nI V.2.1.2.2.2.length) (3 + 3) (3 + 4)).set 0 (va_rf (some n))))) j = f1 j := fun j hj => u_ne hj
  generalize va_up f1 3 (some (.inr (7, (stV fr V.2.1.2.1.1 V.2.1.2.1.2.1 V.2.1.2.1.2.2.1 (nI V.2.1.2.1.2.2.2.1) (nI V.2.1.2.1.2.2.2.2.length) la (nI V.2.1.2.2.2.length) (3 + 3) (3 + 4)).set 0 (va_rf (some n))))) = f2 at hc2 hF2 ⊢
  have im2 : ∀ j, IMM (n + 2) j → f2 j = f1 j := fun j hj => hF2 j (IMM_ne hj sid3).1
  have hS2 : STT f2 (n + 2) 3 (V.1, V.2.1.2.1, V.2.1.2.2.1, V.2.1.2.2.2) := by
    have hs := STT_tr (f' := va_up f2 3 (f1 3)) hK1.1 u_eq ((u_ne (by omega)).trans (hF2 _ (by omega))) ((u_ne (by omega)).trans (hF2 _ (by omega))) (fun i hi => (u_ne (IMM_ne hi sid3).1).trans (im2 i hi)) (Nat.le_refl _)
    obtain ⟨⟨fr', la', b1, b2, full', b3, b4⟩, ⟨gl, c1, c2⟩, ⟨gt, d1, d2⟩, e1, e2⟩ := hs
    have R : ∀ {j : Nat} {L : BL}, RI1 (va_up f2 3 (f1 3)) (n + 2) j L → RI1 f2 (n + 2) j L := fun hh => RI1_tr hh (fun i hi => (u_ne (IMM_ne hi sid3).1).symm) (Nat.le_refl _)
    refine ⟨⟨n, la, hc2, RI1_tr (RI1_new hn r1) im2 (Nat.le_refl _), full, PCH_tr im2 (Nat.le_refl _) full la a3, a4⟩, ⟨gl, (u_ne (by omega)).symm.trans c1, fun l hl => ?_⟩, ⟨gt, (u_ne (by omega)).symm.trans d1, fun i hi => ?_⟩, e1, h4⟩
    · obtain ⟨j, q1, q2⟩ := c2 l hl
      exact ⟨j, q1, R q2⟩
    · have h5 := d2 i hi
      cases e : V.2.1.2.2.1 i with
      | none => rw [e] at h5; exact h5
      | some t =>
        rw [e] at h5
        obtain ⟨j, q1, q2, q3⟩ := h5
        exact ⟨j, q1, R q2, q3⟩
  have hp2 : f2 0 = some (.inr (8, pfL (bI V.2.2.2.1.isSome) ag (nI V.2.2.1.length) V.2.2.2.2.1 V.2.2.2.2.2)) := (hF2 0 (by omega)).trans ((hF1 0 (by omega)).trans hp)
  have hT2 : isRw f2 1 2 400 V.1 := rw_tr hT ((hF2 _ (by omega)).trans (hF1 _ (by omega))) ((hF2 _ (by omega)).trans (hF1 _ (by omega)))
  refine pq_gR hp2 rfl (pq_sb (pq_ck (pq_call (f_cutTo (f := f2) (n := n + 2) (m := 0) hT2 (by omega)) (fun y hy => ?_))))
  obtain ⟨f3, rfl, r3, hF3⟩ := hy
  rw [List.take_zero] at r3
  have hp3 : f3 0 = some (.inr (8, pfL (bI V.2.2.2.1.isSome) ag (nI V.2.2.1.length) V.2.2.2.2.1 V.2.2.2.2.2)) := (hF3 0 (by omega)).trans hp2
  refine pq_pO hp3 rfl (pq_ck ?_)
  have hp4 : va_up f3 0 (some (.inr (8, (pfL (bI V.2.2.2.1.isSome) ag (nI V.2.2.1.length) V.2.2.2.2.1 V.2.2.2.2.2).set 11 (.int 0)))) 0 = some (.inr (8, pfL (bI V.2.2.2.1.isSome) ag 0 V.2.2.2.2.1 V.2.2.2.2.2)) := u_eq
  have hF4 : ∀ j, j ≠ 0 → j ≠ 1 → j ≠ 3 → j < n → va_up f3 0 (some (.inr (8, (pfL (bI V.2.2.2.1.isSome) ag (nI V.2.2.1.length) V.2.2.2.2.1 V.2.2.2.2.2).set 11 (.int 0)))) j = f j := fun j a b c d => (u_ne a).trans ((hF3 j b).trans ((hF2 j c).trans (hF1 j d)))
  have hF42 : ∀ j, j ≠ 0 → j ≠ 1 → va_up f3 0 (some (.inr (8, (pfL (bI V.2.2.2.1.isSome) ag (nI V.2.2.1.length) V.2.2.2.2.1 V.2.2.2.2.2).set 11 (.int 0)))) j = f2 j := fun j a b => (u_ne a).trans (hF3 j b)
  have r4 : isRw (va_up f3 0 (some (.inr (8, (pfL (bI V.2.2.2.1.isSome) ag (nI V.2.2.1.length) V.2.2.2.2.1 V.2.2.2.2.2).set 11 (.int 0))))) 1 2 400 [] := rw_tr r3 (u_ne (by omega)) (u_ne (by omega))
  generalize va_up f3 0 (some (.inr (8, (pfL (bI V.2.2.2.1.isSome) ag (nI V.2.2.1.length) V.2.2.2.2.1 V.2.2.2.2.2).set 11 (.int 0)))) = f4 at hp4 hF4 hF42 r4 ⊢
  have hS4 : STT f4 (n + 2) 3 (V.1, V.2.1.2.1, V.2.1.2.2.1, V.2.1.2.2.2) := STT_tr hS2 (hF42 _ (by omega) (by omega)) (hF42 _ (by omega) (by omega)) (hF42 _ (by omega) (by omega)) (fun j hj => hF42 j (IMM_1 hj).1 (IMM_1 hj).2.1) (Nat.le_refl _)
  have hFb4 : FRb n f f4 := fun j a b c d _ _ _ _ _ => hF4 j b c d a
  refine pq_call (f_cutAnew (f := f4) (n := n + 2) (S := (V.1, V.2.1.2.1, V.2.1.2.2.1, V.2.1.2.2.2)) hp4 hS4 (CSh_tr (CUT_sh hK.2.1) (fun i a b => hF4 i (by omega) (by omega) (by omega) (by omega))) (BSh_tr hK.2.2.1 (fun i a b => hF4 i (by omega) (by omega) (by omega) (by omega))) (SV_none h4 hV.2.2.1 (fun _ => rfl))) (fun y hy => ?_)
  obtain ⟨f5, rfl, k1, k2, k3⟩ := hy
  refine pq_gR k1 rfl (pq_sb (pq_ck (pq_is (f_csize k2.2.1.1.1) (pq_ret ⟨f5, n + 2, rfl, by omega, ⟨0, k1, fun q => absurd rfl q⟩, rw_tr r4 (k3 _ (by omega) (by omega) (by omega) (by omega) (by omega) (by omega) (by omega)) (k3 _ (by omega) (by omega) (by omega) (by omega) (by omega) (by omega) (by omega)), ⟨k2, SV_none h4 hV.2.2.1 (fun _ => rfl)⟩, ?_, ?_⟩))))
  · exact RS_frb (RS_frb (RS_nil hRS) hFb4 hn (show n ≤ n + 2 by omega)) (frb_a k3) (by omega) (Nat.le_refl _)
  · show rdG (f5 178)
    rw [k3 178 (by omega) (by omega) (by omega) (by omega) (by omega) (by omega) (by omega), hF4 178 (by omega) (by omega) (by omega) (by omega)]; exact hR
theorem k_undo (h : RC f n V) : PQ (mX8_undo 0 f n) (COK (sUndo V)) := by
  obtain ⟨hn, ⟨ag, hp, -⟩, hT, ⟨hK, hV⟩, hRS, hR⟩ := id h
  obtain ⟨p1, g, p2, p3, p4⟩ := id hRS.2.2.1
  unfold mX8_undo
  refine pq_gI hp rfl (pq_lt (nI_toInt (by omega)) kt_1 (fun q => ?_) (fun q => ?_))
  · have e : sUndo V = (.inr eS, V) := if_pos (by omega)
    rw [e]
    exact pq_ret ⟨f, n, rfl, h⟩
  · have e : sUndo V = (.inl (nI (V.2.2.1.length - 1)), (V.1, lastS V, V.2.2.1.take (V.2.2.1.length - 1), V.2.2.2.1, V.2.2.2.2.1, V.2.2.2.2.2)) := if_neg (by omega)
    rw [e]
    have em : nI V.2.2.1.length - (1 : Int32) = nI (V.2.2.1.length - 1) := nI_sb (b := 1) (by omega) (by omega)
    obtain ⟨s, e1, e2, e3, e4, e5⟩ := p3 (V.2.2.1.length - 1) (by omega)
    have hlast : V.2.2.1[V.2.2.1.length - 1]? = some (lastS V) := by
      unfold lastS
      rw [List.getD_eq_getElem?_getD, List.getElem?_eq_getElem (by omega)]; rfl
    obtain ⟨hSs, hVs⟩ := e5 _ hlast
    refine pq_gI hp rfl (pq_gR hp rfl (pq_sb (pq_gL p2 (by omega) (pq_lt (nI_toInt (by omega)) (nI_toInt (by omega)) (fun q => by omega) (fun _ => ?_)))))
    refine pq_gR hp rfl (pq_gI hp rfl (pq_sb ?_))
    rw [em]
    refine pq_gRA p2 (fun _ => ?_)
    rw [nI_clamp (by omega), e1]
    refine pq_oNs (pq_gI hp rfl ?_)
    rw [em]
    refine pq_pO hp rfl ?_
    have hp2 : va_up f 0 (some (.inr (8, (pfL (bI V.2.2.2.1.isSome) ag (nI V.2.2.1.length) V.2.2.2.2.1 V.2.2.2.2.2).set 11 (.int (nI (V.2.2.1.length - 1)))))) 0 = some (.inr (8, pfL (bI V.2.2.2.1.isSome) ag (nI (V.2.2.1.length - 1)) V.2.2.2.2.1 V.2.2.2.2.2)) := u_eq
    have hF2 : ∀ j, j ≠ 0 → va_up f 0 (some (.inr (8, (pfL (bI V.2.2.2.1.isSome) ag (nI V.2.2.1.length) V.2.2.2.2.1 V.2.2.2.2.2).set 11 (.int (nI (V.2.2.1.length - 1)))))) j = f j := fun j hj => u_ne hj
    generalize va_up f 0 (some (.inr (8, (pfL (bI V.2.2.2.1.isSome) ag (nI V.2.2.1.length) V.2.2.2.2.1 V.2.2.2.2.2).set 11 (.int (nI (V.2.2.1.length - 1)))))) = f2 at hp2 hF2 ⊢
    have hFb2 : FRb n f f2 := fun j _ b _ _ _ _ _ _ _ => hF2 j b
    refine pq_gR hp2 rfl (pq_gI hp2 rfl (pq_sb (pq_gRA ((hF2 _ (by omega)).trans p2) (fun _ => ?_))))
    rw [nI_clamp (by omega), e1]
    have hH2 : SHP f2 := ⟨SSh_tr (STT_sh hK.1) (hF2 _ (by omega)) (hF2 _ (by omega)) (hF2 _ (by omega)), CSh_tr (CUT_sh hK.2.1) (fun i a b => hF2 i (by omega)), BSh_tr hK.2.2.1 (fun i a b => hF2 i (by omega))⟩
    refine pq_ck (pq_call (f_restore (f := f2) (n := n) hp2 e2 (by omega) (STT_frb hSs e2 (by omega) hFb2 hn (Nat.le_refl _)) hH2 hVs) (fun y hy => ?_))
    obtain ⟨f3, rfl, k1, k2, k3⟩ := hy
    have hlt : (V.2.2.1.take (V.2.2.1.length - 1)).length = V.2.2.1.length - 1 := by rw [List.length_take]; omega
    refine pq_gI k1 rfl (pq_ret ⟨f3, n, rfl, hn, ⟨0, by show f3 0 = some (.inr (8, pfL (bI V.2.2.2.1.isSome) 0 (nI (V.2.2.1.take (V.2.2.1.length - 1)).length) V.2.2.2.2.1 V.2.2.2.2.2)); rw [hlt]; exact k1, fun q => absurd rfl q⟩, rw_tr hT ((k3 _ (by omega) (by omega) (by omega) (by omega) (by omega) (by omega) (by omega)).trans (hF2 _ (by omega))) ((k3 _ (by omega) (by omega) (by omega) (by omega) (by omega) (by omega) (by omega)).trans (hF2 _ (by omega))), ⟨k2, hVs⟩, ?_, ?_⟩)
    · have hRS3 := RS_frb (RS_frb hRS hFb2 hn (Nat.le_refl _)) (frb_a k3) hn (Nat.le_refl _)
      refine ⟨hRS3.1, hRS3.2.1, ?_, hRS3.2.2.2⟩
      obtain ⟨c1, gg, c2, c3, c4⟩ := hRS3.2.2.1
      refine ⟨by rw [hlt]; omega, gg, c2, fun i hi => ?_, c4⟩
      obtain ⟨s', q1, q2, q3, q4, q5⟩ := c3 i hi
      refine ⟨s', q1, q2, q3, q4, fun Q hQ => q5 Q ?_⟩
      have hil : i < V.2.2.1.length - 1 := by
        rcases Nat.lt_or_ge i (V.2.2.1.length - 1) with hh | hh
        · exact hh
        · rw [List.getElem?_eq_none (by rw [hlt]; exact hh)] at hQ; cases hQ
      rw [List.getElem?_take_of_lt hil] at hQ
      exact hQ
    · show rdG (f3 178)
      rw [k3 178 (by omega) (by omega) (by omega) (by omega) (by omega) (by omega) (by omega), hF2 178 (by omega)]; exact hR
end COE
