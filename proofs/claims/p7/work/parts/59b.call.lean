/-! the class's calls -/
def PRE (f : AH) (n : Nat) (V : SPV) : Prop := RC f n V ∧ STT f n 8 V.2.1
theorem rf_if {c : Prop} {d : Decidable c} {A B : Int32 × SST} {S : SST} (h1 : A.1 ≠ 0 → A.2 = S) (h2 : B.1 ≠ 0 → B.2 = S) : (@ite _ c d A B).1 ≠ 0 → (@ite _ c d A B).2 = S := by
  by_cases h : c
  · rw [if_pos h]; exact h1
  · rw [if_neg h]; exact h2
theorem rf_0 {S S' : SST} : ((0 : Int32), S').1 ≠ 0 → ((0 : Int32), S').2 = S := fun q => absurd rfl q
theorem rf_S {S : SST} {c : Int32} : (c, S).1 ≠ 0 → (c, S).2 = S := fun _ => rfl
theorem fin_ref {S S1 : SST} : (finA S S1).1 ≠ 0 → (finA S S1).2 = S := rf_if rf_S rf_0
theorem spA_ref {S : SST} {p : Int32} : (spA S p).1 ≠ 0 → (spA S p).2 = S := by
  unfold spA
  refine rf_if ?_ rf_S
  split
  · exact rf_S
  · exact rf_if rf_S fin_ref
theorem dA_ref {S : SST} {a x y : Int32} {w : BL} : (dA S a x y w).1 ≠ 0 → (dA S a x y w).2 = S := rf_if rf_0 (rf_if rf_0 (rf_if rf_0 (rf_if rf_0 (rf_if rf_0 (rf_if rf_0 (rf_if (rf_if rf_0 rf_S) (rf_if rf_0 (rf_if (rf_if (rf_if rf_S fin_ref) rf_S) (rf_if spA_ref (rf_if (rf_if (rf_if rf_S (rf_if rf_S (rf_if rf_S fin_ref))) rf_S) (rf_if (rf_if rf_S rf_0) (rf_if (rf_if rf_S (rf_if rf_S rf_0)) rf_S))))))))))))
section CLL
variable {f : AH} {n : Nat} {V : SPV}
theorem RC_p (h : RC f n V) : ∃ ag, f 0 = some (.inr (8, pfL (bI V.2.2.2.1.isSome) ag (nI V.2.2.1.length) V.2.2.2.2.1 V.2.2.2.2.2)) := by
  obtain ⟨-, ⟨ag, h1, -⟩, -⟩ := h
  exact ⟨ag, h1⟩
/-- what is ahead is put aside -/
theorem f_prep {β : Type} {Q : β → Prop} {k : Int32 × HpN → Option β} (h : RC f n V) (hk : ∀ f', PRE f' n V → (∀ j, IMM n j → f' j = f j) → PQ (k (0, f', n)) Q) : PQ ((gR f 0 8 2).bind fun x1 => ((gR f 0 8 1).bind fun x2 => ((x1).bind fun j3 => rCk (isO f j3 7) (((mX7_copyFrom j3 x2 f n).bind k))))) Q := by
  obtain ⟨hn, ⟨ag, hp, hag⟩, hT, ⟨hK, hV⟩, ⟨h8, ⟨h13, hI⟩, hP, hC⟩, hR⟩ := h
  refine pq_gR hp rfl (pq_gR hp rfl (pq_sb (pq_ck (pq_call (f_copy (f := f) (n := n) sid8 sid3 (by omega) h8 hK.1) (fun y hy => ?_)))))
  obtain ⟨f', rfl, k1, k2⟩ := hy
  have im : ∀ j, IMM n j → f' j = f j := fun j hj => by
    have := IMM_ne hj sid8
    exact k2 j this.1 this.2.1 this.2.2
  refine hk f' ⟨⟨hn, ⟨ag, (k2 _ (by omega) (by omega) (by omega)).trans hp, fun q => CUT_tr (hag q) (fun i a b => k2 i (by omega) (by omega) (by omega))⟩, rw_tr hT (k2 _ (by omega) (by omega) (by omega)) (k2 _ (by omega) (by omega) (by omega)), ⟨KO_tr hK (fun j hj => ?_) (Nat.le_refl _), hV⟩, ⟨STT_sh k1, ⟨SSh_tr h13 (k2 _ (by omega) (by omega) (by omega)) (k2 _ (by omega) (by omega) (by omega)) (k2 _ (by omega) (by omega) (by omega)), fun Q hQ => ⟨STT_tr (hI Q hQ).1 (k2 _ (by omega) (by omega) (by omega)) (k2 _ (by omega) (by omega) (by omega)) (k2 _ (by omega) (by omega) (by omega)) im (Nat.le_refl _), (hI Q hQ).2⟩⟩, ?_, CSh_tr hC (fun i a b => k2 i (by omega) (by omega) (by omega))⟩, ?_⟩, k1⟩ im
  · rcases hj with q | q | q | q
    · exact k2 j (by omega) (by omega) (by omega)
    · exact k2 j (by omega) (by omega) (by omega)
    · exact k2 j (by omega) (by omega) (by omega)
    · exact im j q
  · obtain ⟨p1, g, p2, p3, p4⟩ := hP
    refine ⟨p1, g, (k2 _ (by omega) (by omega) (by omega)).trans p2, fun i hi => ?_, p4⟩
    obtain ⟨s, e1, e2, e3, e4, e5⟩ := p3 i hi
    exact ⟨s, e1, e2, e3, SSh_tr e4 (k2 _ (by omega) (by omega) (by omega)) (k2 _ (by omega) (by omega) (by omega)) (k2 _ (by omega) (by omega) (by omega)), fun Q hQ => ⟨STT_tr (e5 Q hQ).1 (k2 _ (by omega) (by omega) (by omega)) (k2 _ (by omega) (by omega) (by omega)) (k2 _ (by omega) (by omega) (by omega)) im (Nat.le_refl _), (e5 Q hQ).2⟩⟩
  · rw [k2 178 (by omega) (by omega) (by omega)]; exact hR
/-- an act is done, then the call is finished -/
theorem f_dofin {β : Type} {Q : (β ⊕ String) × HpN → Prop} {k : (Int32 ⊕ String) × HpN → Option ((β ⊕ String) × HpN)} {a x y : Int32} {jw : Option Nat} {w : BL} (h : PRE f n V) (hA : ARG f n a x jw w) (hk : ∀ f' n', RC f' n' (sCall V (dA V.2.1 a x y w)) → PQ (k (if (dA V.2.1 a x y w).1 = 0 then .inl 0 else .inr eS, f', n')) Q) : PQ ((mX8_doAct 0 a x y jw f n).bind fun r2 => rCk (isO r2.2.1 0 8) (((mX8_finishCall 0 r2.1 r2.2.1 r2.2.2).bind k))) Q := by
  obtain ⟨⟨hn, ⟨ag, hp, hag⟩, hT, ⟨hK, hV⟩, hRS, hR⟩, h8⟩ := h
  refine pq_call (f_doAct (f := f) (n := n) (w := w) (y := y) hn hp hK hV hA) (fun y0 hy => ?_)
  have hV2 := dA_SV (a := a) (x := x) (y := y) (w := w) hK.1.2.2.2.2 hV
  have hRef := dA_ref (S := V.2.1) (a := a) (x := x) (y := y) (w := w)
  generalize dA V.2.1 a x y w = r at hy hk hV2 hRef ⊢
  obtain ⟨f1, n1, rfl, hn1, hp1, hFr1, hS1, hK1⟩ := hy
  have hRS1 := RS_frb hRS (frb_a hFr1) hn hn1
  have h81 := STT_frb h8 sid8 (by omega) (frb_a hFr1) hn hn1
  have hT1 : isRw f1 1 2 400 V.1 := rw_tr hT (hFr1 _ (by omega) (by omega) (by omega) (by omega) (by omega) (by omega) (by omega)) (hFr1 _ (by omega) (by omega) (by omega) (by omega) (by omega) (by omega) (by omega))
  have hR1 : rdG (f1 178) := by rw [hFr1 _ (by omega) (by omega) (by omega) (by omega) (by omega) (by omega) (by omega)]; exact hR
  refine pq_ck ?_
  unfold mX8_finishCall
  have hn24 : 224 ≤ n1 := by omega
  show PQ ((((pO f1 0 8 12 (.int r.1)).bind fun f1 => (if r.1 = (3 : Int32) then ((gR f1 0 8 2).bind fun x2 => rCk (isO f1 0 8) (((mX8_restore 0 x2 f1 n1).bind fun r4 => mX8_finishCall_b18 0 r.1 r4.2.1 r4.2.2))) else mX8_finishCall_b18 0 r.1 f1 n1))).bind k) Q
  refine pq_call (Q1 := fun y => ∃ f' n', y = (if r.1 = 0 then .inl 0 else .inr eS, f', n') ∧ RC f' n' (sCall V r)) ?_ (fun y hy => ?_)
  · refine pq_pO hp1 rfl ?_
    have hp2 : va_up f1 0 (some (.inr (8, (pfL (bI V.2.2.2.1.isSome) 0 (nI V.2.2.1.length) V.2.2.2.2.1 V.2.2.2.2.2).set 12 (.int r.1)))) 0 = some (.inr (8, pfL (bI V.2.2.2.1.isSome) 0 (nI V.2.2.1.length) r.1 V.2.2.2.2.2)) := u_eq
    have hF2 : ∀ j, j ≠ 0 → va_up f1 0 (some (.inr (8, (pfL (bI V.2.2.2.1.isSome) 0 (nI V.2.2.1.length) V.2.2.2.2.1 V.2.2.2.2.2).set 12 (.int r.1)))) j = f1 j := fun j hj => u_ne hj
    generalize va_up f1 0 (some (.inr (8, (pfL (bI V.2.2.2.1.isSome) 0 (nI V.2.2.1.length) V.2.2.2.2.1 V.2.2.2.2.2).set 12 (.int r.1)))) = f2 at hp2 hF2 ⊢
    have hFb2 : FRb n1 f1 f2 := fun j _ b _ _ _ _ _ _ _ => hF2 j b
    have hRS2 := RS_frb hRS1 hFb2 hn24 (Nat.le_refl _)
    have h82 := STT_frb h81 sid8 (by omega) hFb2 hn24 (Nat.le_refl _)
    have hT2 : isRw f2 1 2 400 V.1 := rw_tr hT1 (hF2 _ (by omega)) (hF2 _ (by omega))
    have hR2 : rdG (f2 178) := by rw [hF2 _ (by omega)]; exact hR1
    refine pq_eq (fun q3 => ?_) (fun q3 => ?_)
    · have hH := hS1 q3
      have hH2 : SHP f2 := ⟨SSh_tr hH.1 (hF2 _ (by omega)) (hF2 _ (by omega)) (hF2 _ (by omega)), CSh_tr hH.2.1 (fun i a b => hF2 i (by omega)), BSh_tr hH.2.2 (fun i a b => hF2 i (by omega))⟩
      refine pq_gR hp2 rfl (pq_ck (pq_call (f_restore (f := f2) (n := n1) hp2 sid8 (by omega) h82 hH2 hV) (fun y hy => ?_)))
      obtain ⟨f3, rfl, k1, k2, k3⟩ := hy
      have hc : ¬ r.1 = 0 := fun q => by rw [q] at q3; cases q3
      refine pq_f hc (pq_ret ⟨f3, n1, by rw [if_neg hc], ?_⟩)
      unfold sCall
      rw [if_neg hc]
      exact ⟨hn24, ⟨0, k1, fun q => absurd rfl q⟩, rw_tr hT2 (k3 _ (by omega) (by omega) (by omega) (by omega) (by omega) (by omega) (by omega)) (k3 _ (by omega) (by omega) (by omega) (by omega) (by omega) (by omega) (by omega)), ⟨k2, hV⟩, RS_frb hRS2 (frb_a k3) hn24 (Nat.le_refl _), by show rdG (f3 178); rw [k3 _ (by omega) (by omega) (by omega) (by omega) (by omega) (by omega) (by omega)]; exact hR2⟩
    · have hKr := hK1 q3
      have hK2 : KO f2 n1 r.2 := KO_tr hKr (fun j hj => hF2 j (by rcases hj with q | q | q | q <;> first | omega | exact (IMM_1 q).1)) (Nat.le_refl _)
      refine pq_eq (fun q0 => ?_) (fun q0 => ?_)
      · refine pq_ck (pq_call (f_remember (f := f2) (n := n1) hn24 hp2 hRS2.2.2.1 h82 hV) (fun y hy => ?_))
        obtain ⟨f3, rfl, k1, k2, k3⟩ := hy
        refine pq_ret ⟨f3, n1, by rw [if_pos q0], ?_⟩
        unfold sCall
        rw [if_pos q0]
        rw [q0] at k1
        have im3 : ∀ j, IMM n1 j → f3 j = f2 j := fun j hj => k3 j (IMM_1 hj).1 (Or.inr (Or.inr hj))
        refine ⟨hn24, ⟨0, k1, fun q => absurd rfl q⟩, rw_tr hT2 (k3 _ (by omega) (by omega)) (k3 _ (by omega) (by omega)), ⟨KO_tr hK2 (fun j hj => ?_) (Nat.le_refl _), hV2⟩, ⟨SSh_tr hRS2.1 (k3 _ (by omega) (by omega)) (k3 _ (by omega) (by omega)) (k3 _ (by omega) (by omega)), ⟨SSh_tr hRS2.2.1.1 (k3 _ (by omega) (by omega)) (k3 _ (by omega) (by omega)) (k3 _ (by omega) (by omega)), fun Q hQ => ⟨STT_tr (hRS2.2.1.2 Q hQ).1 (k3 _ (by omega) (by omega)) (k3 _ (by omega) (by omega)) (k3 _ (by omega) (by omega)) im3 (Nat.le_refl _), (hRS2.2.1.2 Q hQ).2⟩⟩, k2, CSh_tr hRS2.2.2.2 (fun i a b => k3 i (by omega) (by omega))⟩, ?_⟩
        · rcases hj with q | q | q | q
          · exact k3 j (by omega) (by omega)
          · exact k3 j (by omega) (by omega)
          · exact k3 j (by omega) (by omega)
          · exact im3 j q
        · show rdG (f3 178)
          rw [k3 178 (by omega) (by omega)]; exact hR2
      · refine pq_ret ⟨f2, n1, by rw [if_neg q0], ?_⟩
        unfold sCall
        rw [if_neg q0]
        rw [hRef q0] at hK2
        exact ⟨hn24, ⟨0, hp2, fun q => absurd rfl q⟩, hT2, ⟨hK2, hV⟩, hRS2, hR2⟩
  · obtain ⟨f', n', rfl, hh⟩ := hy
    exact hk f' n' hh
end CLL
