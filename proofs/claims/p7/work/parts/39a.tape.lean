/-! the tape -/
section TAPE
variable {G : TE} {F0 : AH} {n : Nat}
theorem tX8_addFour_l3 : ∀ (d k : Nat) (S : Int32) (v0 : Nat) (v1 v2 : Int32) (f : AH), WT G F0 S f n → G.1 v0 = 8 → k < d → v2.toInt = 8 * (k : Int) - 8 → k ≤ 4 → S.toInt + k ≤ 400 → PO (mX8_addFour_l3 d v0 v1 v2 f n) (fun v f' n' => n' = n ∧ ∃ S' : Int32, WT G F0 S' f' n ∧ S'.toInt = S.toInt + k) := by
  intro d
  induction d with
  | zero => intro k S v0 v1 v2 f hW h0 hk; omega
  | succ d ih =>
    intro k S v0 v1 v2 f hW h0 hk hv h4 hS
    unfold mX8_addFour_l3
    refine po_lt rfl kt_0 (fun q => ?_) (fun q => ?_)
    · exact po_ret ⟨rfl, S, hW, by omega⟩
    · refine po_gR1 hW h0 (fun ex => ?_)
      refine po_some ?_
      refine po_ck (wt_isO hW hW.2.2.2.2.2 (by decide)) ?_
      obtain ⟨s, f', hs, hs0, hs1, h | h⟩ := add_x (v1 := ((v1.toUInt32 >>> (v2.toUInt32 &&& Int32.toUInt32 31)).toInt32 &&& (255 : Int32))) hW hW.2.2.2.2.2
      · exfalso
        obtain ⟨s2, hs2, a1, a2, a3, a4, a5⟩ := wt_row hW hW.2.2.2.2.2
        have e : s2 = s := Option.some.inj (hs2.symm.trans hs)
        have e2 := a5 rfl
        rw [e] at e2
        rw [e2.1] at h
        omega
      · refine po_bind h.1 ?_
        dsimp only
        obtain ⟨s2, hs2, a1, a2, a3, a4, a5⟩ := wt_row hW hW.2.2.2.2.2
        have e : s2 = s := Option.some.inj (hs2.symm.trans hs)
        have e2 := (a5 rfl).1
        rw [e] at e2
        subst e2
        have hW2 := h.2.2.1
        rw [if_pos rfl] at hW2
        have e1 : (s + 1).toInt = s.toInt + 1 := i_add rfl (by decide) (by omega)
        have e8 : (v2 + (-8 : Int32)).toInt = v2.toInt + -8 := i_add rfl (by decide) (by omega)
        refine po_tail (ih (k - 1) (s + 1) v0 v1 (v2 + (-8 : Int32)) f' hW2 h0 (by omega) (by rw [e8]; omega) (by omega) (by omega)) (fun v g m q => ⟨q.1, ?_⟩)
        obtain ⟨S', hS', e'⟩ := q.2
        exact ⟨S', hS', by omega⟩
theorem tX8_addFour {S : Int32} {f : AH} {v0 : Nat} {v1 : Int32} (hW : WT G F0 S f n) (h0 : G.1 v0 = 8) (hS : S.toInt + 4 ≤ 400) : PO (mX8_addFour v0 v1 f n) (fun v f' n' => n' = n ∧ ∃ S' : Int32, WT G F0 S' f' n ∧ S'.toInt = S.toInt + 4) := by
  unfold mX8_addFour
  exact tX8_addFour_l3 rFU 4 S v0 v1 24 f hW h0 (by unfold rFU; omega) (by decide) (by omega) (by omega)
theorem po_four {β : Type} {Q : β → AH → Nat → Prop} {S : Int32} {f : AH} {v0 : Nat} {v1 : Int32} {k : Int32 × HpN → Option (β × HpN)} (hW : WT G F0 S f n) (h0 : G.1 v0 = 8) (hS : S.toInt + 4 ≤ 400) (h : ∀ v f' S', WT G F0 S' f' n → S'.toInt = S.toInt + 4 → PO (k (v, (f', n))) Q) : PO ((mX8_addFour v0 v1 f n).bind k) Q := by
  obtain ⟨v, f', n', e, hn, S', hW', hS'⟩ := tX8_addFour (v1 := v1) hW h0 hS
  subst hn
  rw [e]; exact h v f' S' hW' hS'
theorem tX8_feed {S : Int32} {f : AH} {v0 : Nat} {v1 v2 v3 v4 v5 : Int32} (hW : WT G F0 S f n) (h0 : G.1 v0 = 8) : PO (mX8_feed v0 v1 v2 v3 v4 v5 f n) (fun v f' n' => n' = n ∧ ∃ S' : Int32, WT G F0 S' f' n ∧ ((S.toInt + 20 ≤ 400 ∧ S'.toInt = S.toInt + 20 ∧ v = S') ∨ (400 < S.toInt + 20 ∧ S' = S ∧ v = -1))) := by
  have hT : G.1 1 = 5 := hW.2.2.2.2.2
  unfold mX8_feed
  refine po_gR1 hW h0 (fun ex => ?_)
  refine po_some ?_
  refine po_ck (wt_isO hW hT (by decide)) ?_
  refine po_ro (tX5_size hW hT) (fun y ey p => ?_)
  dsimp only
  obtain ⟨rfl, s1, s2⟩ := sz_tape hW ey
  refine po_le (x := y + (20 : Int32)) (y := 400) (i_add rfl (show (20 : Int32).toInt = 20 by decide) (by omega)) (show (400 : Int32).toInt = 400 by decide) (fun q => ?_) (fun q => ?_)
  · refine po_ck (wt_isO hW h0 (by decide)) ?_
    refine po_four hW h0 (by omega) (fun v f1 S1 hW1 e1 => ?_)
    dsimp only
    refine po_ck (wt_isO hW1 h0 (by decide)) ?_
    refine po_four hW1 h0 (by omega) (fun v f2 S2 hW2 e2 => ?_)
    dsimp only
    refine po_ck (wt_isO hW2 h0 (by decide)) ?_
    refine po_four hW2 h0 (by omega) (fun v f3 S3 hW3 e3 => ?_)
    dsimp only
    refine po_ck (wt_isO hW3 h0 (by decide)) ?_
    refine po_four hW3 h0 (by omega) (fun v f4 S4 hW4 e4 => ?_)
    dsimp only
    refine po_ck (wt_isO hW4 h0 (by decide)) ?_
    refine po_four hW4 h0 (by omega) (fun v f5 S5 hW5 e5 => ?_)
    dsimp only
    refine po_gR1 hW5 h0 (fun ex5 => ?_)
    refine po_some ?_
    refine po_ck (wt_isO hW5 hT (by decide)) ?_
    refine po_ro (tX5_size hW5 hT) (fun z ez p => ?_)
    dsimp only
    obtain ⟨rfl, -, -⟩ := sz_tape hW5 ez
    exact po_ret ⟨rfl, z, hW5, Or.inl ⟨by omega, by omega, rfl⟩⟩
  · exact po_ret ⟨rfl, y, hW, Or.inr ⟨by omega, rfl, rfl⟩⟩
theorem tX8_end {S : Int32} {f : AH} {v0 : Nat} {v1 : Int32} (hW : WT G F0 S f n) (h0 : G.1 v0 = 8) : PO (mX8_end v0 v1 f n) (fun v f' n' => n' = n ∧ ∃ S' : Int32, WT G F0 S' f' n ∧ ((0 ≤ v1.toInt ∧ v1.toInt ≤ S.toInt ∧ S' = v1 ∧ v = 1) ∨ (¬ (0 ≤ v1.toInt ∧ v1.toInt ≤ S.toInt) ∧ S' = S ∧ v = 0))) := by
  have hT : G.1 1 = 5 := hW.2.2.2.2.2
  unfold mX8_end
  refine po_lt rfl kt_0 (fun q => ?_) (fun q => ?_)
  · unfold mX8_end_b15
    exact po_ck rfl (po_ret ⟨rfl, S, hW, Or.inr ⟨by omega, rfl, rfl⟩⟩)
  · refine po_gR1 hW h0 (fun ex => ?_)
    refine po_some ?_
    refine po_ck (wt_isO hW hT (by decide)) ?_
    refine po_ro (tX5_size hW hT) (fun y ey p => ?_)
    dsimp only
    obtain ⟨rfl, s1, s2⟩ := sz_tape hW ey
    refine po_le rfl rfl (fun q2 => ?_) (fun q2 => ?_)
    · refine po_gR1 hW h0 (fun ex => ?_)
      refine po_some ?_
      refine po_ck (wt_isO hW hT (by decide)) ?_
      obtain ⟨f', e, h⟩ := cut_x (v1 := v1) hW hT
      rw [if_pos rfl] at h
      refine po_bind e ?_
      dsimp only
      refine po_ck rfl ?_
      refine po_ret ⟨rfl, v1, ?_, Or.inl ⟨q, q2, rfl, rfl⟩⟩
      by_cases hl : v1.toInt < y.toInt
      · rw [if_pos ⟨q, hl⟩] at h; exact h
      · rw [if_neg (fun z => hl z.2)] at h
        have : v1 = y := Int32.toInt_inj.mp (by omega)
        rw [this]; exact h
    · unfold mX8_end_b15
      exact po_ck rfl (po_ret ⟨rfl, y, hW, Or.inr ⟨by omega, rfl, rfl⟩⟩)
end TAPE
