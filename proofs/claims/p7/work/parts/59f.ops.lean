/-! the class's calls: image, back, the tape, a text -/
section COF
variable {f : AH} {n : Nat} {V : SPV}
theorem k_image (h : RC f n V) : PQ (mX8_image 0 f n) (COI (sImage V)) := by
  obtain ⟨hn, ⟨ag, hp, hag⟩, hT, ⟨hK, hV⟩, ⟨h8, ⟨h13, hI⟩, hP, hC⟩, hR⟩ := h
  unfold mX8_image
  refine pq_gR hp rfl (pq_gR hp rfl (pq_sb (pq_ck (pq_call (f_copy (f := f) (n := n) sid13 sid3 (by omega) h13 hK.1) (fun y hy => ?_)))))
  obtain ⟨f1, rfl, k1, k2⟩ := hy
  have hp1 : f1 0 = some (.inr (8, pfL (bI V.2.2.2.1.isSome) ag (nI V.2.2.1.length) V.2.2.2.2.1 V.2.2.2.2.2)) := (k2 0 (by omega) (by omega) (by omega)).trans hp
  refine pq_ck (pq_pO hp1 rfl (pq_ret ?_))
  have hp2 : va_up f1 0 (some (.inr (8, (pfL (bI V.2.2.2.1.isSome) ag (nI V.2.2.1.length) V.2.2.2.2.1 V.2.2.2.2.2).set 9 (.int 1)))) 0 = some (.inr (8, pfL 1 ag (nI V.2.2.1.length) V.2.2.2.2.1 V.2.2.2.2.2)) := u_eq
  have hF2 : ∀ j, j ≠ 0 → va_up f1 0 (some (.inr (8, (pfL (bI V.2.2.2.1.isSome) ag (nI V.2.2.1.length) V.2.2.2.2.1 V.2.2.2.2.2).set 9 (.int 1)))) j = f1 j := fun j hj => u_ne hj
  refine ⟨_, n, rfl, ?_⟩
  show RC (va_up f1 0 (some (.inr (8, (pfL (bI V.2.2.2.1.isSome) ag (nI V.2.2.1.length) V.2.2.2.2.1 V.2.2.2.2.2).set 9 (.int 1))))) n (sImage V).2
  generalize va_up f1 0 (some (.inr (8, (pfL (bI V.2.2.2.1.isSome) ag (nI V.2.2.1.length) V.2.2.2.2.1 V.2.2.2.2.2).set 9 (.int 1)))) = f2 at hp2 hF2 ⊢
  have hF : ∀ j, j ≠ 0 → j ≠ 13 → j ≠ 16 → j ≠ 17 → f2 j = f j := fun j a b c d => (hF2 j a).trans (k2 j b (by omega) (by omega))
  have im : ∀ j, IMM n j → f2 j = f j := fun j hj => by
    have := IMM_ne hj sid13
    exact hF j (IMM_1 hj).1 this.1 this.2.1 this.2.2
  have im2 : ∀ j, IMM n j → f2 j = f1 j := fun j hj => hF2 j (IMM_1 hj).1
  refine ⟨hn, ⟨ag, hp2, fun q => CUT_tr (hag q) (fun i a b => hF i (by omega) (by omega) (by omega) (by omega))⟩, rw_tr hT (hF _ (by omega) (by omega) (by omega) (by omega)) (hF _ (by omega) (by omega) (by omega) (by omega)), ⟨KO_tr hK (fun j hj => ?_) (Nat.le_refl _), hV⟩, ⟨SSh_tr h8 (hF _ (by omega) (by omega) (by omega) (by omega)) (hF _ (by omega) (by omega) (by omega) (by omega)) (hF _ (by omega) (by omega) (by omega) (by omega)), ⟨SSh_tr (STT_sh k1) (hF2 _ (by omega)) (hF2 _ (by omega)) (hF2 _ (by omega)), fun Q hQ => ?_⟩, ?_, CSh_tr hC (fun i a b => hF i (by omega) (by omega) (by omega) (by omega))⟩, ?_⟩
  · rcases hj with q | q | q | q
    · exact hF j (by omega) (by omega) (by omega) (by omega)
    · exact hF j (by omega) (by omega) (by omega) (by omega)
    · exact hF j (by omega) (by omega) (by omega) (by omega)
    · exact im j q
  · have hQ : some V.2.1 = some Q := hQ
    cases hQ
    exact ⟨STT_tr k1 (hF2 _ (by omega)) (hF2 _ (by omega)) (hF2 _ (by omega)) im2 (Nat.le_refl _), hV⟩
  · obtain ⟨p1, g, p2, p3, p4⟩ := hP
    refine ⟨p1, g, (hF _ (by omega) (by omega) (by omega) (by omega)).trans p2, fun i hi => ?_, p4⟩
    obtain ⟨s, e1, e2, e3, e4, e5⟩ := p3 i hi
    exact ⟨s, e1, e2, e3, SSh_tr e4 (hF _ (by omega) (by omega) (by omega) (by omega)) (hF _ (by omega) (by omega) (by omega) (by omega)) (hF _ (by omega) (by omega) (by omega) (by omega)), fun Q hQ => ⟨STT_tr (e5 Q hQ).1 (hF _ (by omega) (by omega) (by omega) (by omega)) (hF _ (by omega) (by omega) (by omega) (by omega)) (hF _ (by omega) (by omega) (by omega) (by omega)) im (Nat.le_refl _), (e5 Q hQ).2⟩⟩
  · show rdG (f2 178)
    rw [hF 178 (by omega) (by omega) (by omega) (by omega)]; exact hR
theorem k_back (h : RC f n V) : PQ (mX8_back 0 f n) (COI (sBack V)) := by
  obtain ⟨hn, ⟨ag, hp, -⟩, hT, ⟨hK, hV⟩, hRS, hR⟩ := id h
  unfold mX8_back
  refine pq_gI hp rfl ?_
  cases hI : V.2.2.2.1 with
  | none =>
    have e : sBack V = (0, V) := by
      unfold sBack
      rw [hI]
    rw [e]
    exact pq_t rfl (pq_ck (pq_ret ⟨f, n, rfl, h⟩))
  | some I =>
    have e : sBack V = (1, (V.1, I, [], some I, V.2.2.2.2.1, V.2.2.2.2.2)) := by
      unfold sBack
      rw [hI]
    rw [e]
    obtain ⟨hSI, hVI⟩ := hRS.2.1.2 I hI
    rw [hI] at hp hRS
    refine pq_f (show ¬ (1 : Int32) = 0 by decide) (pq_gR hp rfl (pq_ck (pq_call (f_restore (f := f) (n := n) hp sid13 (by omega) hSI (KO_shp hK) hVI) (fun y hy => ?_))))
    obtain ⟨f1, rfl, k1, k2, k3⟩ := hy
    refine pq_pO k1 rfl (pq_ck (pq_ret ⟨_, n, rfl, ?_⟩))
    have hp2 : va_up f1 0 (some (.inr (8, (pfL (bI (some I).isSome) 0 (nI V.2.2.1.length) V.2.2.2.2.1 V.2.2.2.2.2).set 11 (.int 0)))) 0 = some (.inr (8, pfL (bI (some I).isSome) 0 0 V.2.2.2.2.1 V.2.2.2.2.2)) := u_eq
    have hF2 : ∀ j, j ≠ 0 → va_up f1 0 (some (.inr (8, (pfL (bI (some I).isSome) 0 (nI V.2.2.1.length) V.2.2.2.2.1 V.2.2.2.2.2).set 11 (.int 0)))) j = f1 j := fun j hj => u_ne hj
    show RC (va_up f1 0 (some (.inr (8, (pfL (bI (some I).isSome) 0 (nI V.2.2.1.length) V.2.2.2.2.1 V.2.2.2.2.2).set 11 (.int 0))))) n (V.1, I, [], some I, V.2.2.2.2.1, V.2.2.2.2.2)
    generalize va_up f1 0 (some (.inr (8, (pfL (bI (some I).isSome) 0 (nI V.2.2.1.length) V.2.2.2.2.1 V.2.2.2.2.2).set 11 (.int 0)))) = f2 at hp2 hF2 ⊢
    refine ⟨hn, ⟨0, hp2, fun q => absurd rfl q⟩, rw_tr hT ((hF2 _ (by omega)).trans (k3 _ (by omega) (by omega) (by omega) (by omega) (by omega) (by omega) (by omega))) ((hF2 _ (by omega)).trans (k3 _ (by omega) (by omega) (by omega) (by omega) (by omega) (by omega) (by omega))), ⟨KO_tr k2 (fun j hj => hF2 j (by rcases hj with q | q | q | q <;> first | omega | exact (IMM_1 q).1)) (Nat.le_refl _), hVI⟩, RS_frb (RS_frb (RS_nil hRS) (frb_a k3) hn (Nat.le_refl _)) (fun j _ b _ _ _ _ _ _ _ => hF2 j b) hn (Nat.le_refl _), ?_⟩
    show rdG (f2 178)
    rw [hF2 178 (by omega), k3 178 (by omega) (by omega) (by omega) (by omega) (by omega) (by omega) (by omega)]; exact hR
theorem f_four {a : Int32} (h : RC f n V) (hl : V.1.length + 4 ≤ 400) : PQ (mX8_addFour 0 a f n) (fun y => ∃ f', y = (0, f', n) ∧ RC f' n (V.1 ++ f4 a, V.2)) := by
  have one : ∀ {f : AH} {V : SPV} {s : Int32} {d : Nat} {Q : Int32 × HpN → Prop}, RC f n V → V.1.length < 400 → ¬ s < 0 → (∀ f', RC f' n (V.1 ++ [by4 a s], V.2) → PQ (mX8_addFour_l3 d 0 a (s + -8) f' n) Q) → PQ (mX8_addFour_l3 (d + 1) 0 a s f n) Q := by
    intro f V s d Q h hl hs hk
    obtain ⟨ag, hp⟩ := RC_p h
    unfold mX8_addFour_l3
    refine pq_f hs (pq_gR hp rfl (pq_sb (pq_ck (pq_call (f_add (x := by4 a s) h.2.2.1) (fun y hy => ?_)))))
    rcases hy with ⟨-, f', rfl, r, hF⟩ | ⟨q, -⟩
    · refine hk f' ?_
      have hn := h.1
      obtain ⟨hn, ⟨ag, hp, hag⟩, -, ⟨hK, hV⟩, hRS, hR⟩ := h
      exact ⟨hn, ⟨ag, (hF 0 (by omega) (by omega)).trans hp, fun q => CUT_tr (hag q) (fun i a b => hF i (by omega) (by omega))⟩, r, ⟨KO_tr hK (fun j hj => hF j (by rcases hj with q | q | q | q <;> first | omega | exact (IMM_1 q).2.1) (by rcases hj with q | q | q | q <;> first | omega | exact (IMM_1 q).2.2.1)) (Nat.le_refl _), hV⟩, by
        obtain ⟨h8, ⟨h13, hI⟩, ⟨p1, g, p2, p3, p4⟩, hC⟩ := hRS
        have im : ∀ j, IMM n j → f' j = f j := fun j hj => hF j (IMM_1 hj).2.1 (IMM_1 hj).2.2.1
        refine ⟨SSh_tr h8 (hF _ (by omega) (by omega)) (hF _ (by omega) (by omega)) (hF _ (by omega) (by omega)), ⟨SSh_tr h13 (hF _ (by omega) (by omega)) (hF _ (by omega) (by omega)) (hF _ (by omega) (by omega)), fun Q hQ => ⟨STT_tr (hI Q hQ).1 (hF _ (by omega) (by omega)) (hF _ (by omega) (by omega)) (hF _ (by omega) (by omega)) im (Nat.le_refl _), (hI Q hQ).2⟩⟩, ⟨p1, g, (hF _ (by omega) (by omega)).trans p2, fun i hi => ?_, p4⟩, CSh_tr hC (fun i a b => hF i (by omega) (by omega))⟩
        obtain ⟨s, e1, e2, e3, e4, e5⟩ := p3 i hi
        exact ⟨s, e1, e2, e3, SSh_tr e4 (hF _ (by omega) (by omega)) (hF _ (by omega) (by omega)) (hF _ (by omega) (by omega)), fun Q hQ => ⟨STT_tr (e5 Q hQ).1 (hF _ (by omega) (by omega)) (hF _ (by omega) (by omega)) (hF _ (by omega) (by omega)) im (Nat.le_refl _), (e5 Q hQ).2⟩⟩, by
        show rdG (f' 178)
        rw [hF 178 (by omega) (by omega)]; exact hR⟩
    · omega
  unfold mX8_addFour
  refine one h (by omega) (by decide) (fun f1 h1 => ?_)
  refine one (V := (V.1 ++ [by4 a 24], V.2)) h1 (by show (V.1 ++ [by4 a 24]).length < 400; rw [List.length_append]; show V.1.length + 1 < 400; omega) (by decide) (fun f2 h2 => ?_)
  refine one (V := (V.1 ++ [by4 a 24] ++ [by4 a 16], V.2)) h2 (by show (V.1 ++ [by4 a 24] ++ [by4 a 16]).length < 400; rw [List.length_append, List.length_append]; show V.1.length + 1 + 1 < 400; omega) (by decide) (fun f3 h3 => ?_)
  refine one (V := (V.1 ++ [by4 a 24] ++ [by4 a 16] ++ [by4 a 8], V.2)) h3 (by show (V.1 ++ [by4 a 24] ++ [by4 a 16] ++ [by4 a 8]).length < 400; rw [List.length_append, List.length_append, List.length_append]; show V.1.length + 1 + 1 + 1 < 400; omega) (by decide) (fun f4' h4 => ?_)
  unfold mX8_addFour_l3
  refine pq_t (by decide) (pq_ret ⟨f4', rfl, ?_⟩)
  have e : V.1 ++ [by4 a 24] ++ [by4 a 16] ++ [by4 a 8] ++ [by4 a 0] = V.1 ++ f4 a := by
    rw [List.append_assoc, List.append_assoc, List.append_assoc]; rfl
  rw [← e]
  exact h4
theorem k_feed (h : RC f n V) {a b c d e : Int32} : PQ (mX8_feed 0 a b c d e f n) (COI (sFeed V a b c d e)) := by
  obtain ⟨ag, hp⟩ := RC_p h
  have h6 := rw_6 h.2.2.1
  have l4 : ∀ x : Int32, (f4 x).length = 4 := fun _ => rfl
  unfold mX8_feed
  refine pq_gR hp rfl (pq_sb (pq_ck (pq_is (f_size h.2.2.1) ?_)))
  refine pq_le (x := nI V.1.length + (20 : Int32)) (i_add (nI_toInt (by omega)) (show (20 : Int32).toInt = 20 by decide) (by omega)) (show (400 : Int32).toInt = 400 by decide) (fun q => ?_) (fun q => ?_)
  · have es : sFeed V a b c d e = (nI (V.1.length + 20), (V.1 ++ f4 a ++ f4 b ++ f4 c ++ f4 d ++ f4 e, V.2)) := if_pos (by omega)
    rw [es]
    refine pq_ck (pq_call (f_four (f := f) (n := n) h (by omega)) (fun y hy => ?_))
    obtain ⟨f1, rfl, h1⟩ := hy
    refine pq_ck (pq_call (f_four (f := f1) (n := n) (V := (V.1 ++ f4 a, V.2)) h1 (by show (V.1 ++ f4 a).length + 4 ≤ 400; rw [List.length_append, l4]; omega)) (fun y hy => ?_))
    obtain ⟨f2, rfl, h2⟩ := hy
    refine pq_ck (pq_call (f_four (f := f2) (n := n) (V := (V.1 ++ f4 a ++ f4 b, V.2)) h2 (by show (V.1 ++ f4 a ++ f4 b).length + 4 ≤ 400; rw [List.length_append, List.length_append, l4, l4]; omega)) (fun y hy => ?_))
    obtain ⟨f3, rfl, h3⟩ := hy
    refine pq_ck (pq_call (f_four (f := f3) (n := n) (V := (V.1 ++ f4 a ++ f4 b ++ f4 c, V.2)) h3 (by show (V.1 ++ f4 a ++ f4 b ++ f4 c).length + 4 ≤ 400; rw [List.length_append, List.length_append, List.length_append, l4, l4, l4]; omega)) (fun y hy => ?_))
    obtain ⟨f4', rfl, h4⟩ := hy
    refine pq_ck (pq_call (f_four (f := f4') (n := n) (V := (V.1 ++ f4 a ++ f4 b ++ f4 c ++ f4 d, V.2)) h4 (by show (V.1 ++ f4 a ++ f4 b ++ f4 c ++ f4 d).length + 4 ≤ 400; rw [List.length_append, List.length_append, List.length_append, List.length_append, l4, l4, l4, l4]; omega)) (fun y hy => ?_))
    obtain ⟨f5, rfl, h5⟩ := hy
    obtain ⟨ag5, hp5⟩ := RC_p h5
    have hl : (V.1 ++ f4 a ++ f4 b ++ f4 c ++ f4 d ++ f4 e).length = V.1.length + 20 := by
      rw [List.length_append, List.length_append, List.length_append, List.length_append, List.length_append, l4, l4, l4, l4, l4]
    refine pq_gR hp5 rfl (pq_sb (pq_ck (pq_is (f_size h5.2.2.1) (pq_ret ⟨f5, n, ?_, h5⟩))))
    show (nI (V.1 ++ f4 a ++ f4 b ++ f4 c ++ f4 d ++ f4 e).length, f5, n) = _
    rw [hl]
  · have es : sFeed V a b c d e = (-1, V) := if_neg (by omega)
    rw [es]
    exact pq_ret ⟨f, n, rfl, h⟩
theorem k_end (h : RC f n V) {m : Int32} : PQ (mX8_end 0 m f n) (COI (sEnd V m)) := by
  obtain ⟨ag, hp⟩ := RC_p h
  have h6 := rw_6 h.2.2.1
  have bad : ¬ (0 ≤ m.toInt ∧ m.toInt ≤ V.1.length) → PQ (mX8_end_b15 f n) (COI (sEnd V m)) := fun q => by
    have e : sEnd V m = (0, V) := if_neg q
    rw [e]
    exact pq_ck (pq_ret ⟨f, n, rfl, h⟩)
  unfold mX8_end
  refine pq_lt rfl kt_0 (fun q => bad (by omega)) (fun q => ?_)
  refine pq_gR hp rfl (pq_sb (pq_ck (pq_is (f_size h.2.2.1) (pq_le rfl (nI_toInt (by omega)) (fun q2 => ?_) (fun q2 => bad (by omega))))))
  have e : sEnd V m = (1, (V.1.take m.toInt.toNat, V.2)) := if_pos ⟨q, q2⟩
  rw [e]
  have em : m = nI m.toInt.toNat := nI_x q (by omega)
  refine pq_gR hp rfl (pq_sb (pq_ck ?_))
  conv => arg 1; rw [em]
  refine pq_call (f_cutTo (f := f) (n := n) (m := m.toInt.toNat) h.2.2.1 (by omega)) (fun y hy => ?_)
  obtain ⟨f', rfl, r, hF⟩ := hy
  exact pq_ck (pq_ret ⟨f', n, rfl, RC_tape h (fun j _ b => hF j b) r (Nat.le_refl _)⟩)
theorem aL_pos {T : BL} : ∀ (d p : Nat) (S : SST), (aL T d p S).1 = none → 0 < (aL T d p S).2.2.1 := by
  intro d
  induction d with
  | zero => intro p S h; cases h
  | succ d ih =>
    intro p S h
    show 0 < (aSt T p S (aL T d) (rdA T p)).2.2.1
    have h : (aSt T p S (aL T d) (rdA T p)).1 = none := h
    revert h
    unfold aSt
    split
    · intro h; cases h
    · split
      · split
        · split
          · intro _; exact Nat.succ_pos _
          · intro h; cases h
        · intro _; exact Nat.one_pos
      · intro h; cases h
theorem k_acts (h : RC f n V) : PQ (mX8_acts 0 f n) (COK (sActs V)) := by
  unfold mX8_acts
  refine f_prep h (fun f1 hP _ => ?_)
  obtain ⟨⟨hn, ⟨ag, hp, hag⟩, hT, ⟨hK, hV⟩, hRS, hR⟩, h8⟩ := hP
  have hT4 := hT.2.2.1
  obtain ⟨du, p, a, x, y, wd, nm, tx, e178⟩ := hR
  refine pq_gR hp rfl (pq_gR hp rfl (pq_sb (pq_ck (pq_call (f_start (f := f1) (n := n) hT e178) (fun y hy => ?_)))))
  obtain ⟨f2, rfl, hd2, hF2⟩ := hy
  have hp2 : f2 0 = some (.inr (8, pfL (bI V.2.2.2.1.isSome) ag (nI V.2.2.1.length) V.2.2.2.2.1 V.2.2.2.2.2)) := (hF2 0 (by omega)).trans hp
  have hT2 : isRw f2 1 2 400 V.1 := rw_tr hT (hF2 _ (by omega)) (hF2 _ (by omega))
  have im2 : ∀ j, IMM n j → f2 j = f1 j := fun j hj => hF2 j (by have := IMM_1 hj; omega)
  have h82 : STT f2 n 8 V.2.1 := STT_tr h8 (hF2 _ (by omega)) (hF2 _ (by omega)) (hF2 _ (by omega)) im2 (Nat.le_refl _)
  have hK2 : KO f2 n V.2.1 := KO_tr hK (fun j hj => hF2 j (by rcases hj with q | q | q | q <;> first | omega | (have := IMM_1 q; omega))) (Nat.le_refl _)
  have hFb2 : FRb n f1 f2 := fun j _ _ _ _ _ _ g _ _ => hF2 j g
  have fin : ∀ z : AR, z = aTop V.1 V.2.1 → (z.1 = none → z.2.2.1 = 0 → z.2.2.2 = V.2.1) → ∀ y, AFN n f2 (bI V.2.2.2.1.isSome) (nI V.2.2.1.length) V.2.2.2.2.1 V.2.1 z y → COK (sActs V) y := by
    intro z hz hz0 y hy
    obtain ⟨f', n', a1, a2, a3, a4, a5⟩ := hy
    have hRS' := RS_frb (RS_frb hRS hFb2 hn (Nat.le_refl _)) a2 hn a1
    unfold sActs
    rw [← hz]
    cases hw : z.1 with
    | none =>
      rw [hw] at a5
      obtain ⟨rfl, ⟨ag', b1, b2, b3⟩, b4, b5⟩ := a5
      refine ⟨f', n', rfl, by omega, ⟨ag', b1, fun q => ?_⟩, a3, ⟨b4, b5⟩, RS_nil hRS', rdG_of a4⟩
      have hc0 : z.2.2.1 = 0 := by
        rcases Nat.eq_zero_or_pos z.2.2.1 with hh | hh
        · exact hh
        · exact absurd (b2 hh) q
      have e9 := b3 hc0 ag ⟨_, _, _, hp2⟩
      rw [e9] at q
      show CUT f' 115 (pcs z.2.2.2.2.1 (bltS z.2.2.2))
      rw [hz0 hw hc0]
      exact CUT_tr (hag q) (fun i x1 x2 => (a2 i (by omega) (by omega) (by omega) (by omega) (by omega) (by omega) (by omega) (by omega) (by omega)).trans (hF2 i (by omega)))
    | some w =>
      rw [hw] at a5
      obtain ⟨rfl, b1, b2⟩ := a5
      exact ⟨f', n', rfl, by omega, ⟨0, b1, fun q => absurd rfl q⟩, a3, ⟨b2, hV⟩, hRS', rdG_of a4⟩
  by_cases hb : nB V.1 0 < V.1.length
  · rw [decide_eq_true hb] at hd2
    have et : aTop V.1 V.2.1 = aL V.1 14 (nB V.1 0) V.2.1 := if_pos hb
    refine pq_tail (f_acts_l (n0 := n) (f0 := f2) (T := V.1) hn hT4 hV 17 0 (nB V.1 0) f2 n V.2.1 ag _ _ _ _ _ _ (by omega) (by omega) (Nat.le_refl _) frb_rfl hp2 (fun q => by omega) (fun _ g hg => ?_) hT2 hd2 h82 hK2 hV) (fun y hy => ?_)
    · obtain ⟨pc', wn', fp', hg⟩ := hg
      rw [hp2] at hg
      cases hg; rfl
    · refine fin (adk 0 (aL V.1 (14 - 0) (nB V.1 0) V.2.1)) ?_ (fun h1 h2 => ?_) y hy
      · rw [et]; rfl
      · exfalso
        have := aL_pos 14 (nB V.1 0) V.2.1 h1
        have h2 : (aL V.1 14 (nB V.1 0) V.2.1).2.2.1 + 0 = 0 := h2
        omega
  · rw [decide_eq_false hb] at hd2
    have et : aTop V.1 V.2.1 = (none, 0, 0, V.2.1) := if_neg hb
    refine pq_tail (f_stopn hp2 hd2 (f_b150n (n0 := n) (f0 := f2) (S0 := V.2.1) (k := 0) (Nat.le_refl _) frb_rfl hp2 hT2 ⟨_, _, _, _, _, _, _, hd2⟩ hK2 hV (by omega) (fun _ => rfl) (fun q => by omega) (fun _ g hg => ?_) (z := (none, 0, 0, V.2.1)) rfl rfl rfl)) (fun y hy => fin _ et.symm (fun _ _ => rfl) y hy)
    obtain ⟨pc', wn', fp', hg⟩ := hg
    rw [hp2] at hg
    cases hg; rfl
theorem k_fault (h : RC f n V) : PQ (mX8_fault 0 f n) (COI (V.2.2.2.2.2, V)) := by
  obtain ⟨ag, hp⟩ := RC_p h
  unfold mX8_fault
  exact pq_gI hp rfl (pq_ret ⟨f, n, rfl, h⟩)
theorem k_why (h : RC f n V) : PQ (mX8_why 0 f n) (COI (V.2.2.2.2.1, V)) := by
  obtain ⟨ag, hp⟩ := RC_p h
  unfold mX8_why
  exact pq_gI hp rfl (pq_ret ⟨f, n, rfl, h⟩)
end COF
