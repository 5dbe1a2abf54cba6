section POR
variable {α β : Type} {Q : β → AH → Nat → Prop} {G : TE} {F0 : AH} {S : Int32} {f : AH} {n : Nat}
theorem po_ro {o : Option (α × HpN)} {P : α → Prop} {k : α × HpN → Option (β × HpN)} (h1 : PO o (fun v f' n' => f' = f ∧ n' = n ∧ P v)) (h : ∀ v, o = some (v, (f, n)) → P v → PO (k (v, (f, n))) Q) : PO (o.bind k) Q := by
  obtain ⟨v, f', n', e, hf, hn, hp⟩ := h1
  subst hf hn
  have h2 := h v e hp
  rw [e]; exact h2
theorem po_w {o : Option (α × HpN)} {P : α → Prop} {k : α × HpN → Option (β × HpN)} (h1 : PO o (fun v f' n' => n' = n ∧ WT G F0 S f' n ∧ P v)) (h : ∀ v f', WT G F0 S f' n → P v → PO (k (v, (f', n))) Q) : PO (o.bind k) Q := by
  obtain ⟨v, f', n', e, hn, hw, hp⟩ := h1
  subst hn
  rw [e]; exact h v f' hw hp
theorem po_a {o : Option (α × HpN)} {P : TE → α → Prop} {k : α × HpN → Option (β × HpN)} (h1 : PO o (fun v f' n' => ∃ G', EXT G G' ∧ WT G' F0 S f' n' ∧ P G' v)) (h : ∀ v f' n' G', EXT G G' → WT G' F0 S f' n' → P G' v → PO (k (v, (f', n'))) Q) : PO (o.bind k) Q := by
  obtain ⟨v, f', n', e, G', hx, hw, hp⟩ := h1
  rw [e]; exact h v f' n' G' hx hw hp
end POR
theorem nb_and {x y : Int32} (h1 : x = 0 ∨ x = 1) (h2 : y = 0 ∨ y = 1) : (x &&& y) = 0 ∨ (x &&& y) = 1 := by
  rcases h1 with rfl | rfl <;> rcases h2 with rfl | rfl <;> decide
theorem st4_b {t : Nat} (h : t < 12) : 0 ≤ (st4L t).toInt ∧ (st4L t).toInt ≤ 20 := by
  have h0 : ∀ k : Fin 12, 0 ≤ (st4L (k : Nat)).toInt ∧ (st4L (k : Nat)).toInt ≤ 20 := by decide +kernel
  exact h0 ⟨t, h⟩
theorem st4_n {t : Nat} (h : t < 12) : (st4L t).toInt = (sL4.getD t 0 : Nat) := nI_toInt (sL4_b h)
theorem in_st4 {t : Nat} {x : Int32} (h : t < 12) (hx : 0 ≤ x.toInt ∧ x.toInt < (st4L t).toInt) : rIn x (sL4.getD t 0) = true := in_of hx.1 (by rw [← st4_n h]; exact hx.2)
section ROWS
variable {G : TE} {F0 : AH} {S : Int32} {f : AH} {n : Nat}
theorem tX5_size {v0 : Nat} (hW : WT G F0 S f n) (h0 : G.1 v0 = 5) : PO (mX5_size v0 f n) (fun v f' n' => f' = f ∧ n' = n ∧ (0 ≤ v.toInt ∧ v.toInt ≤ 600)) := by
  unfold mX5_size
  refine po_rs hW h0 (fun x ex hx _ => ?_)
  exact po_ret ⟨rfl, rfl, by omega⟩
theorem sz_eq {v0 : Nat} {y x : Int32} (h : mX5_size v0 f n = some (y, (f, n))) (hx : gI f v0 5 1 = some x) : y = x := by
  unfold mX5_size at h
  rw [hx] at h
  exact ((Prod.mk.inj (Option.some.inj h)).1).symm
theorem sz_tape {y : Int32} (hW : WT G F0 S f n) (h : mX5_size 1 f n = some (y, (f, n))) : y = S ∧ 0 ≤ y.toInt ∧ y.toInt ≤ 400 := by
  obtain ⟨s, hs, h1, h2, h3, h4, h5⟩ := wt_row hW hW.2.2.2.2.2
  have e := sz_eq h hs
  have h6 := h5 rfl
  rw [e]
  exact ⟨h6.1, by omega, by omega⟩
theorem add_x {v0 : Nat} {v1 : Int32} (hW : WT G F0 S f n) (h0 : G.1 v0 = 5) : ∃ (s : Int32) (f' : AH), gI f v0 5 1 = some s ∧ 0 ≤ s.toInt ∧ s.toInt ≤ 600 ∧ ((mX5_add v0 v1 f n = some (0, (f, n)) ∧ s.toInt + 1000 = G.1 (G.2 v0)) ∨ (mX5_add v0 v1 f n = some (1, (f', n)) ∧ s.toInt + 1000 < G.1 (G.2 v0) ∧ WT G F0 (if v0 = 1 then s + 1 else S) f' n ∧ gI f' v0 5 1 = some (s + 1) ∧ ∀ j, j ≠ v0 → j ≠ G.2 v0 → f' j = f j)) := by
  obtain ⟨s, hs, h1, h2, h3, h4, h5⟩ := wt_row hW h0
  have hn : (nI (G.1 (G.2 v0) - 1000)).toInt = ((G.1 (G.2 v0) - 1000 : Nat) : Int) := nI_toInt (by omega)
  have hs0 : ¬ s < (0 : Int32) := c_nlt (by rw [show (0 : Int32).toInt = 0 by decide]; exact h1)
  by_cases hl : s.toInt + 1000 < G.1 (G.2 v0)
  · have hlt : s < nI (G.1 (G.2 v0) - 1000) := c_lt (by rw [hn]; omega)
    obtain ⟨f1, e1, hW1⟩ := wt_rip hW h0 (x := s) (v := v1) (in_of h1 (by omega))
    obtain ⟨s1, hs1, a1, a2, a3, a4, a5⟩ := wt_row hW1 h0
    have es : s1 = s := by
      obtain ⟨g, hg⟩ := wt_rc hW h0
      obtain ⟨N, g2, q1, q2, q3⟩ := pIA_ex e1
      have hne : v0 ≠ G.2 v0 := fun q => by rw [← q] at h3; omega
      obtain ⟨fs, r1, r2⟩ := gI_ex hs
      obtain ⟨fs2, r3, r4⟩ := gI_ex hs1
      rw [q3] at r3
      have r5 : f v0 = some (.inr (5, fs2)) := (if_neg hne).symm.trans r3
      rw [r1] at r5
      have r6 : fs = fs2 := by simpa using r5
      rw [← r6, r2] at r4
      simpa using r4.symm
    subst es
    have e1i : (s1 + 1).toInt = s1.toInt + 1 := i_add rfl (by decide) (by omega)
    obtain ⟨f2, e2, hW2⟩ := wt_rsp hW1 h0 (v := s1 + 1) (by omega) (by omega)
    refine ⟨s1, f2, hs, h1, by omega, Or.inr ⟨?_, hl, ?_, ?_, fun j a b => ?_⟩⟩
    · unfold mX5_add
      rw [hs]
      show (if s1 < (0 : Int32) then _ else _) = _
      rw [if_neg hs0]
      show ((some s1).bind _) = _
      rw [Option.bind_some, wt_rb hW h0, Option.bind_some, Option.bind_some, wt_rl hW h0, Option.bind_some, if_pos hlt, Option.bind_some, Option.bind_some, Option.bind_some, e1, Option.bind_some, hs1, Option.bind_some, e2]
      rfl
    · by_cases hv : v0 = 1
      · rw [if_pos hv] at hW2 ⊢; exact hW2
      · rw [if_neg hv] at hW2 ⊢; exact hW2
    · obtain ⟨fs, r1, r2, r3⟩ := pO_ex e2
      obtain ⟨t2, ht2, -⟩ := wt_row hW2 h0
      obtain ⟨s3, hs3, -⟩ := (hW1.1 v0).1 h0
      rw [hs3] at r1
      have r6 : [Value.ref (G.2 v0), .int s3] = fs := by simpa using r1
      rw [r3]
      unfold gI
      rw [show va_up f1 v0 (some (.inr (5, fs.set 1 (.int (s1 + 1))))) v0 = some (.inr (5, fs.set 1 (.int (s1 + 1)))) from if_pos rfl, ← r6]
      rfl
    · obtain ⟨fs, r1, r2, r3⟩ := pO_ex e2
      obtain ⟨N, g2, q1, q2, q3⟩ := pIA_ex e1
      rw [r3, q3]
      exact (if_neg a).trans (if_neg b)
  · have hge : ¬ s < nI (G.1 (G.2 v0) - 1000) := c_nlt (by rw [hn]; omega)
    refine ⟨s, f, hs, h1, by omega, Or.inl ⟨?_, by omega⟩⟩
    unfold mX5_add
    rw [hs]
    show (if s < (0 : Int32) then _ else _) = _
    rw [if_neg hs0]
    show ((some s).bind _) = _
    rw [Option.bind_some, wt_rb hW h0, Option.bind_some, Option.bind_some, wt_rl hW h0, Option.bind_some, if_neg hge]
    rfl
theorem tX5_add {v0 : Nat} {v1 : Int32} (hW : WT G F0 S f n) (h0 : G.1 v0 = 5) (h1 : v0 ≠ 1) : PO (mX5_add v0 v1 f n) (fun v f' n' => n' = n ∧ WT G F0 S f' n ∧ (v = 0 ∨ v = 1)) := by
  obtain ⟨s, f', hs, -, -, h | h⟩ := add_x (v1 := v1) hW h0
  · exact ⟨_, _, _, h.1, rfl, hW, Or.inl rfl⟩
  · refine ⟨_, _, _, h.1, rfl, ?_, Or.inr rfl⟩
    have h2 := h.2.2.1
    rw [if_neg h1] at h2
    exact h2
theorem cut_x {v0 : Nat} {v1 : Int32} (hW : WT G F0 S f n) (h0 : G.1 v0 = 5) : ∃ f', mX5_cutTo v0 v1 f n = some (0, (f', n)) ∧ WT G F0 (if v0 = 1 then (if 0 ≤ v1.toInt ∧ v1.toInt < S.toInt then v1 else S) else S) f' n := by
  obtain ⟨s, hs, h1, h2, h3, h4, h5⟩ := wt_row hW h0
  by_cases hn : v1 < (0 : Int32)
  · refine ⟨f, ?_, ?_⟩
    · unfold mX5_cutTo; rw [if_pos hn]; rfl
    · have q := Int32.lt_iff_toInt_lt.mp hn
      rw [show (0 : Int32).toInt = 0 by decide] at q
      rw [if_neg (show ¬ (0 ≤ v1.toInt ∧ v1.toInt < S.toInt) from fun h => by omega)]
      split <;> exact hW
  · have hv0 : 0 ≤ v1.toInt := by
      have q : ¬ v1.toInt < (0 : Int32).toInt := fun q => hn (c_lt q)
      rw [show (0 : Int32).toInt = 0 by decide] at q
      omega
    by_cases hl : s ≤ v1
    · refine ⟨f, ?_, ?_⟩
      · unfold mX5_cutTo; rw [if_neg hn, hs]
        show (if s ≤ v1 then _ else _) = _
        rw [if_pos hl]; rfl
      · have q := Int32.le_iff_toInt_le.mp hl
        by_cases hv : v0 = 1
        · rw [if_pos hv, if_neg (show ¬ (0 ≤ v1.toInt ∧ v1.toInt < S.toInt) from fun h => by rw [← (h5 hv).1] at h; omega)]; exact hW
        · rw [if_neg hv]; exact hW
    · have q : v1.toInt < s.toInt := by
        have q : ¬ s.toInt ≤ v1.toInt := fun q => hl (c_le q)
        omega
      obtain ⟨f2, e2, hW2⟩ := wt_rsp hW h0 (v := v1) hv0 (by omega)
      refine ⟨f2, ?_, ?_⟩
      · unfold mX5_cutTo; rw [if_neg hn, hs]
        show (if s ≤ v1 then _ else _) = _
        rw [if_neg hl, e2]; rfl
      · by_cases hv : v0 = 1
        · rw [if_pos hv] at hW2 ⊢
          rw [if_pos ⟨hv0, by rw [← (h5 hv).1]; exact q⟩]; exact hW2
        · rw [if_neg hv] at hW2 ⊢; exact hW2
theorem tX5_cutTo {v0 : Nat} {v1 : Int32} (hW : WT G F0 S f n) (h0 : G.1 v0 = 5) (h1 : v0 ≠ 1) : PO (mX5_cutTo v0 v1 f n) (fun v f' n' => n' = n ∧ WT G F0 S f' n ∧ True) := by
  obtain ⟨f', e, h⟩ := cut_x (v1 := v1) hW h0
  rw [if_neg h1] at h
  exact ⟨_, _, _, e, rfl, h, trivial⟩
theorem tape0 (hW : WT G F0 S f n) (h0 : G.1 1 = 5) : PO (mX5_cutTo 1 0 f n) (fun v f' n' => n' = n ∧ WT G F0 0 f' n ∧ True) := by
  obtain ⟨f', e, h⟩ := cut_x (v1 := 0) hW h0
  rw [if_pos rfl] at h
  have hS := wt_S hW
  refine ⟨_, _, _, e, rfl, ?_, trivial⟩
  by_cases hz : S = 0
  · subst hz
    rw [if_neg (by rw [show (0 : Int32).toInt = 0 by decide]; omega)] at h; exact h
  · have : S.toInt ≠ 0 := fun q => hz (Int32.toInt_inj.mp (q.trans (by decide)))
    rw [if_pos (by rw [show (0 : Int32).toInt = 0 by decide]; omega)] at h; exact h
theorem tX5_addPart_l6 : ∀ (d : Nat) (v0 : Nat) (i : Nat) (v3 v4 v5 : Int32) (f : AH), WT G F0 S f n → G.1 v0 = 5 → v0 ≠ 1 → G.1 i = 5 → (v4 = 0 ∨ v4 = 1) → (v4 = 0 → 0 < d) → (v4 = 1 → ∀ s : Int32, gI f v0 5 1 = some s → 602 - s.toInt < (d : Int)) → PO (mX5_addPart_l6 d v0 (some i) v3 v4 v5 f n) (fun v f' n' => n' = n ∧ WT G F0 S f' n ∧ (v = 0 ∨ v = 1) ∧ ∀ j, j ≠ v0 → j ≠ G.2 v0 → f' j = f j) := by
  intro d
  induction d with
  | zero =>
    intro v0 i v3 v4 v5 f hW h0 h1 hi hb ha hm
    exfalso
    obtain ⟨s, hs, q1, q2, q3, q4, q5⟩ := wt_row hW h0
    rcases hb with hb | hb
    · exact absurd (ha hb) (by omega)
    · have := hm hb s hs
      omega
  | succ d ih =>
    intro v0 i v3 v4 v5 f hW h0 h1 hi hb ha hm
    unfold mX5_addPart_l6
    refine po_le rfl rfl (fun q => ?_) (fun q => ?_)
    · exact po_ck (nb_of hb) (po_ret ⟨rfl, hW, hb, fun _ _ _ => rfl⟩)
    · refine po_eq (fun q1 => ?_) (fun q1 => ?_)
      · exact po_ck (nb_of hb) (po_ret ⟨rfl, hW, hb, fun _ _ _ => rfl⟩)
      · have hb1 : v4 = 1 := hb.elim (fun e => absurd e q1) id
        refine po_some ?_
        refine po_ck (wt_isO hW hi (by decide)) ?_
        have hget : PO (mX5_get i v5 f n) (fun v f' n' => f' = f ∧ n' = n ∧ True) := by
          unfold mX5_get
          refine po_lt rfl (show (0 : Int32).toInt = 0 by decide) (fun q => ?_) (fun q => ?_)
          · exact po_ret ⟨rfl, rfl, trivial⟩
          · refine po_rs hW hi (fun x ex hx _ => ?_)
            refine po_le rfl rfl (fun q => ?_) (fun q => ?_)
            · exact po_ret ⟨rfl, rfl, trivial⟩
            · refine po_rb hW hi ?_
              refine po_some ?_
              refine po_rl hW hi (fun N a b c => ?_)
              refine po_le c rfl (fun q => ?_) (fun q => ?_)
              · exact po_ret ⟨rfl, rfl, trivial⟩
              · refine po_rb hW hi ?_
                refine po_some ?_
                refine po_ria hW hi (by omega) (fun v => ?_)
                exact po_ret ⟨rfl, rfl, trivial⟩
        refine po_ro hget (fun y ey _ => ?_)
        refine po_ck (wt_isO hW h0 (by decide)) ?_
        obtain ⟨s, f', hs, hs0, hs1, h | h⟩ := add_x (v1 := y) hW h0
        · refine po_bind h.1 ?_
          exact ih v0 i v3 0 (v5 + 1) f hW h0 h1 hi (Or.inl rfl) (fun _ => by have := hm hb1 s hs; omega) (fun e => absurd e (by decide))
        · refine po_bind h.1 ?_
          have h2 := h.2.2.1
          rw [if_neg h1] at h2
          refine po_tail (ih v0 i v3 1 (v5 + 1) f' h2 h0 h1 hi (Or.inr rfl) (fun e => absurd e (by decide)) (fun _ s2 hs2 => ?_)) (fun v g m q => ⟨q.1, q.2.1, q.2.2.1, fun j a b => (q.2.2.2 j a b).trans (h.2.2.2.2 j a b)⟩)
          have e2 : s2 = s + 1 := Option.some.inj (hs2.symm.trans h.2.2.2.1)
          have e3 : (s + 1).toInt = s.toInt + 1 := i_add rfl (by decide) (by omega)
          have := hm hb1 s hs
          rw [e2, e3]
          omega
theorem addPart_x {v0 : Nat} {v1 : Option Nat} {v2 v3 : Int32} (hW : WT G F0 S f n) (h0 : G.1 v0 = 5) (h1 : v0 ≠ 1) (h2 : ∃ i, v1 = some i ∧ G.1 i = 5) : PO (mX5_addPart v0 v1 v2 v3 f n) (fun v f' n' => n' = n ∧ WT G F0 S f' n ∧ (v = 0 ∨ v = 1) ∧ ∀ j, j ≠ v0 → j ≠ G.2 v0 → f' j = f j) := by
  obtain ⟨i, rfl, hi⟩ := h2
  unfold mX5_addPart
  refine tX5_addPart_l6 rFU v0 i v3 1 v2 f hW h0 h1 hi (Or.inr rfl) (fun e => absurd e (by decide)) (fun _ s hs => ?_)
  obtain ⟨s2, hs2, q1, q2, q3, q4, q5⟩ := wt_row hW h0
  have : s2 = s := Option.some.inj (hs2.symm.trans hs)
  subst this
  unfold rFU
  omega
theorem tX5_addPart {v0 : Nat} {v1 : Option Nat} {v2 v3 : Int32} (hW : WT G F0 S f n) (h0 : G.1 v0 = 5) (h1 : v0 ≠ 1) (h2 : ∃ i, v1 = some i ∧ G.1 i = 5) : PO (mX5_addPart v0 v1 v2 v3 f n) (fun v f' n' => n' = n ∧ WT G F0 S f' n ∧ (v = 0 ∨ v = 1)) := po_tail (addPart_x hW h0 h1 h2) (fun _ _ _ q => ⟨q.1, q.2.1, q.2.2.1⟩)
theorem vR_up {Γ Γ' : Nat → Nat} (h : ∀ j, Γ j ≠ 99 → Γ' j = Γ j) {c : Nat} {w : Option Nat} (hc : c ≠ 199 ∧ c ≠ 299) (hv : vR Γ c w) : vR Γ' c w := by
  unfold vR at hv ⊢
  by_cases a : c = 301
  · rw [if_pos a] at hv ⊢; exact hv
  · rw [if_neg a] at hv ⊢
    by_cases b : c = 306
    · rw [if_pos b] at hv ⊢
      obtain ⟨j, e, h5, h1⟩ := hv
      exact ⟨j, e, (h j (by omega)).trans h5, h1⟩
    · rw [if_neg b] at hv ⊢
      by_cases d : c < 200
      · rw [if_pos d] at hv ⊢
        obtain ⟨j, e, h5⟩ := hv
        exact ⟨j, e, (h j (by omega)).trans h5⟩
      · rw [if_neg d] at hv ⊢
        exact fun j e => (h j (by have := hv j e; omega)).trans (hv j e)
theorem vV_up {Γ Γ' : Nat → Nat} (h : ∀ j, Γ j ≠ 99 → Γ' j = Γ j) {c : Nat} {v : Value} (hc : c ≠ 199 ∧ c ≠ 299) (hv : vV Γ c v) : vV Γ' c v := by
  rcases hv with hv | ⟨a, w, e, hw⟩
  · exact Or.inl hv
  · exact Or.inr ⟨a, w, e, vR_up h hc hw⟩
theorem fT_ok : ∀ c : Fin 9, ∀ k : Fin 20, (fT c).getD k 0 ≠ 199 ∧ (fT c).getD k 0 ≠ 299 := by decide +kernel
theorem fT_len : ∀ c : Fin 9, (fT c).length ≤ 20 := by decide +kernel
theorem okC_up {G' : TE} {f' : AH} {j : Nat} (hx : EXT G G') (hG : G'.1 j = G.1 j) (hj : G.1 j ≠ 99) (hf : f' j = f j) (h : okC G S f j) : okC G' S f' j := by
  have hu : ∀ j, G.1 j ≠ 99 → G'.1 j = G.1 j := fun j q => (hx j q).1
  unfold okC at h ⊢
  rw [hG, hf]
  refine ⟨fun q => ?_, fun q q2 => ?_, fun q q2 => ?_, h.2.2.2⟩
  · obtain ⟨s, h1, h2, h3, h4, h5, h6⟩ := h.1 q
    have e2 := (hx j hj).2
    rw [e2, hu _ (by omega)]
    exact ⟨s, h1, h2, h3, h4, h5, h6⟩
  · obtain ⟨fs, h1, h2, h3⟩ := h.2.1 q q2
    refine ⟨fs, h1, h2, fun k hk => ?_⟩
    obtain ⟨v, h4, h5⟩ := h3 k hk
    have hl := fT_len ⟨_, q⟩
    exact ⟨v, h4, vV_up hu (fT_ok ⟨_, q⟩ ⟨k, Nat.lt_of_lt_of_le hk hl⟩) h5⟩
  · obtain ⟨g, h1, h2⟩ := h.2.2.1 q q2
    refine ⟨g, h1, fun i hi => vR_up hu ?_ (h2 i hi)⟩
    have h4 : G.1 j = 10 ∨ G.1 j = 11 ∨ G.1 j = 12 ∨ G.1 j = 13 := by omega
    rcases h4 with e | e | e | e <;> rw [e] <;> decide
theorem okC_row {j b L : Nat} {s : Int32} (h : G.1 j = 5) (hb : G.2 j = b) (hL : G.1 b = 1000 + L) (h6 : L ≤ 600) (hf : f j = some (.inr (5, [.ref b, .int s]))) (h2 : 0 ≤ s.toInt ∧ s.toInt ≤ L) (h3 : j = 1 → s = S ∧ L = 400) : okC G S f j := by
  subst hb
  exact ⟨fun _ => ⟨s, hf, by omega, by omega, h2.1, by omega, fun q => ⟨(h3 q).1, by have := (h3 q).2; omega⟩⟩, fun _ q => absurd h q, fun q => by omega, fun q => by omega⟩
theorem okC_arr {j L : Nat} {g : Nat → Int32} (h : G.1 j = 1000 + L) (hf : f j = some (.inl (0, L, .inl g))) : okC G S f j := ⟨fun q => by omega, fun q => by omega, fun _ q => by omega, fun _ => ⟨g, by rw [h, show 1000 + L - 1000 = L by omega]; exact hf⟩⟩
theorem okC_obj {j c : Nat} {fs : List Value} (h : G.1 j = c) (hc : c < 9) (h5 : c ≠ 5) (hf : f j = some (.inr (c, fs))) (ho : okO G.1 c fs) : okC G S f j := by
  subst h
  exact ⟨fun q => absurd q h5, fun _ _ => ⟨fs, hf, ho⟩, fun q => by omega, fun q => by omega⟩
theorem okC_ref {j t : Nat} {g : Nat → Option Nat} (h : G.1 j = t) (h1 : 10 ≤ t) (h2 : t ≤ 13) (hf : f j = some (.inl ((aT t).1, (aT t).2.1, .inr (.inr g)))) (ho : ∀ i < (aT t).2.1, vR G.1 (aT t).2.2 (g i)) : okC G S f j := by
  subst h
  exact ⟨fun q => by omega, fun q => by omega, fun _ _ => ⟨g, hf, ho⟩, fun q => by omega⟩
theorem wt_grow (hW : WT G F0 S f n) {G' : TE} {f' : AH} {n' : Nat} (hx : EXT G G') (hs : ∀ j, G.1 j ≠ 99 → f' j = f j) (hnew : ∀ j, G'.1 j ≠ 99 → G.1 j = 99 → n ≤ j ∧ j < n' ∧ okC G' S f' j) (hfr : ∀ j, j < 224 → f' j = f j) (hn : n ≤ n') : WT G' F0 S f' n' := by
  refine ⟨fun j => ?_, fun j q => ?_, fun j a b => ?_, ?_, ?_, ?_⟩
  · by_cases h : G.1 j = 99
    · by_cases h2 : G'.1 j = 99
      · unfold okC
        rw [h2]
        exact ⟨fun q => absurd q (by decide), fun q => absurd q (by decide), fun _ q => absurd q (by decide), fun q => absurd q (by decide)⟩
      · exact (hnew j h2 h).2.2
    · exact okC_up hx (hx j h).1 h (hs j h) (hW.1 j)
  · by_cases h : G.1 j = 99
    · exact (hnew j q h).2.1
    · have := hW.2.1 j h; omega
  · have h2 := hW.2.2.1 j a b
    refine ⟨?_, (hfr j (by omega)).trans h2.2⟩
    by_cases h : G'.1 j = 99
    · exact h
    · have := (hnew j h h2.1).1
      have := hW.2.2.2.1
      omega
  · have := hW.2.2.2.1; omega
  · exact hx.ty hW.2.2.2.2.1 (by decide)
  · exact hx.ty hW.2.2.2.2.2 (by decide)
theorem part_x {B v0 : Nat} {v1 v2 : Int32} (hW : WT G F0 S f n) (h0 : G.1 v0 = 5) (hB : v2.toInt ≤ (B : Int) ∧ v2.toInt ≤ 600) : PO (mX5_part B v0 v1 v2 f n) (fun v f' n' => ∃ G', EXT G G' ∧ WT G' F0 S f' n' ∧ (∃ i, v = some i ∧ G'.1 i = 5) ∧ ∀ j, j < n → f' j = f j) := by
  have h224 := hW.2.2.2.1
  have hi : ∃ L : Nat, L ≤ 600 ∧ mX5_init B n v2 (va_up f n (some (.inr (5, df5)))) (n + 1) = some (0, (va_up (va_up (va_up f n (some (.inr (5, df5)))) (n + 1) (some (.inl (0, L, .inl (fun _ => 0))))) n (some (.inr (5, [.ref (n + 1), .int 0]))), n + 1 + 1)) := by
    have hpo : ∀ a : Option AE, pO (va_up (va_up f n (some (.inr (5, df5)))) (n + 1) a) n 5 0 (.ref (n + 1)) = some (va_up (va_up (va_up f n (some (.inr (5, df5)))) (n + 1) a) n (some (.inr (5, [.ref (n + 1), .int 0])))) := by
      intro a
      unfold pO
      rw [show va_up (va_up f n (some (.inr (5, df5)))) (n + 1) a n = some (.inr (5, df5)) from (if_neg (show ¬ n = n + 1 by omega)).trans (if_pos rfl)]
      rfl
    unfold mX5_init
    by_cases hz : v2 ≤ 0
    · rw [if_pos hz]
      refine ⟨0, by omega, ?_⟩
      unfold mX5_init_b14
      have hb : (!(decide ((0 : Int32) < 0)) && (decide ((0 : Int32).toNatClampNeg ≤ B) && decide ((0 : Int32).toNatClampNeg ≤ 600))) = true := by
        rw [show (0 : Int32).toNatClampNeg = 0 by decide]
        simp
      rw [ck_t hb, show (0 : Int32).toNatClampNeg = 0 by decide, hpo]
      rfl
    · rw [if_neg hz]
      have hp : 0 < v2.toInt := by
        have q : ¬ v2.toInt ≤ (0 : Int32).toInt := fun q => hz (c_le q)
        rw [show (0 : Int32).toInt = 0 by decide] at q
        omega
      refine ⟨v2.toNatClampNeg, by show v2.toInt.toNat ≤ 600; omega, ?_⟩
      unfold mX5_init_b14
      have hb : (!(decide (v2 < 0)) && (decide (v2.toNatClampNeg ≤ B) && decide (v2.toNatClampNeg ≤ 600))) = true := by
        have a : ¬ v2 < 0 := c_nlt (by rw [show (0 : Int32).toInt = 0 by decide]; omega)
        have b : v2.toNatClampNeg ≤ B := by show v2.toInt.toNat ≤ B; omega
        have c : v2.toNatClampNeg ≤ 600 := by show v2.toInt.toNat ≤ 600; omega
        simp [a, b, c]
      rw [ck_t hb, hpo]
      rfl
  obtain ⟨L, hL, ei⟩ := hi
  have hG1 : ∀ j, G.1 j ≠ 99 → j ≠ n ∧ j ≠ n + 1 := fun j q => by have := hW.2.1 j q; omega
  have hx : EXT G ((fun j => if j = n then 5 else if j = n + 1 then 1000 + L else G.1 j), (fun j => if j = n then n + 1 else G.2 j)) := fun j q => by
    obtain ⟨a, b⟩ := hG1 j q
    exact ⟨(if_neg a).trans (if_neg b), if_neg a⟩
  have hcell : ∀ j, j ≠ n → j ≠ n + 1 → va_up (va_up (va_up f n (some (.inr (5, df5)))) (n + 1) (some (.inl (0, L, .inl (fun _ => 0))))) n (some (.inr (5, [.ref (n + 1), .int 0]))) j = f j := fun j a b => (if_neg a).trans ((if_neg b).trans (if_neg a))
  have hW2 : WT ((fun j => if j = n then 5 else if j = n + 1 then 1000 + L else G.1 j), (fun j => if j = n then n + 1 else G.2 j)) F0 S (va_up (va_up (va_up f n (some (.inr (5, df5)))) (n + 1) (some (.inl (0, L, .inl (fun _ => 0))))) n (some (.inr (5, [.ref (n + 1), .int 0])))) (n + 1 + 1) := by
    have e5 : (if n = n then 5 else if n = n + 1 then 1000 + L else G.1 n) = 5 := if_pos rfl
    have eL : (if n + 1 = n then 5 else if n + 1 = n + 1 then 1000 + L else G.1 (n + 1)) = 1000 + L := (if_neg (by omega)).trans (if_pos rfl)
    refine wt_grow hW hx (fun j q => hcell j (hG1 j q).1 (hG1 j q).2) (fun j q q2 => ?_) (fun j q => hcell j (by omega) (by omega)) (by omega)
    by_cases a : j = n
    · subst a
      exact ⟨by omega, by omega, okC_row (s := 0) (b := j + 1) (L := L) e5 (if_pos rfl) eL hL (if_pos rfl) (by rw [show (0 : Int32).toInt = 0 by decide]; omega) (fun q => by omega)⟩
    · by_cases b : j = n + 1
      · subst b
        exact ⟨by omega, by omega, okC_arr (L := L) eL ((if_neg (show ¬ n + 1 = n by omega)).trans (if_pos rfl))⟩
      · exact absurd ((if_neg a).trans ((if_neg b).trans q2)) q
  have h0' : (if v0 = n then 5 else if v0 = n + 1 then 1000 + L else G.1 v0) = 5 := hx.ty h0 (by decide)
  unfold mX5_part
  refine po_bind ei ?_
  refine po_ck (wt_isO hW2 (if_pos rfl) (by decide)) ?_
  obtain ⟨v, f', n', e, hn', hW3, -, hfr⟩ := addPart_x (v0 := n) (v1 := some v0) (v2 := v1) (v3 := v1 + v2) hW2 (if_pos rfl) (by omega) ⟨v0, rfl, h0'⟩
  refine po_bind e ?_
  subst hn'
  refine po_ret ⟨_, hx, hW3, ⟨n, rfl, if_pos rfl⟩, fun j hj => ?_⟩
  have q : (if n = n then n + 1 else G.2 n) = n + 1 := if_pos rfl
  refine (hfr j (by omega) ?_).trans (hcell j (by omega) (by omega))
  show j ≠ (if n = n then n + 1 else G.2 n)
  rw [q]; omega
theorem tX5_part {B v0 : Nat} {v1 v2 : Int32} (hW : WT G F0 S f n) (h0 : G.1 v0 = 5) (hB : v2.toInt ≤ (B : Int) ∧ v2.toInt ≤ 600) : PO (mX5_part B v0 v1 v2 f n) (fun v f' n' => ∃ G', EXT G G' ∧ WT G' F0 S f' n' ∧ (∃ i, v = some i ∧ G'.1 i = 5)) := po_tail (part_x hW h0 hB) (fun _ _ _ ⟨G', a, b, c, _⟩ => ⟨G', a, b, c⟩)
theorem tX7_addPair {v0 : Nat} {v1 v2 : Option Nat} (hW : WT G F0 S f n) (h0 : G.1 v0 = 7) (h1 : ∃ i, v1 = some i ∧ G.1 i = 5) (h2 : ∃ i, v2 = some i ∧ G.1 i = 5) : PO (mX7_addPair v0 v1 v2 f n) (fun v f' n' => ∃ G', EXT G G' ∧ WT G' F0 S f' n' ∧ True) := by
  obtain ⟨i1, rfl, hi1⟩ := h1
  obtain ⟨i2, rfl, hi2⟩ := h2
  have h224 := hW.2.2.2.1
  have hG1 : ∀ j, G.1 j ≠ 99 → j ≠ n := fun j q => by have := hW.2.1 j q; omega
  have hv0 := hG1 v0 (by omega)
  obtain ⟨w, ew, hw⟩ := wt_gR (k := 6) (t := 202) hW h0 rfl rfl (by decide)
  have ew2 : ∀ a : AE, gR (va_up f n (some a)) v0 7 6 = some w := fun a => by
    have e : va_up f n (some a) v0 = f v0 := if_neg hv0
    unfold gR at ew ⊢
    rw [e]; exact ew
  have hx : EXT G ((fun j => if j = n then 2 else G.1 j), G.2) := fun j q => ⟨if_neg (hG1 j q), rfl⟩
  have ho : ∀ i, w = some i → G.1 i = 2 := hw
  have hW2 : WT ((fun j => if j = n then 2 else G.1 j), G.2) F0 S (va_up f n (some (.inr (2, [va_rf (some i1), va_rf (some i2), va_rf w])))) (n + 1) := by
    refine wt_grow hW hx (fun j q => if_neg (hG1 j q)) (fun j q q2 => ?_) (fun j q => if_neg (by omega)) (by omega)
    by_cases a : j = n
    · subst a
      refine ⟨by omega, by omega, okC_obj (c := 2) (if_pos rfl) (by decide) (by decide) (if_pos rfl) ⟨rfl, fun k hk => ?_⟩⟩
      have hk3 : k < 3 := hk
      have hk4 : k = 0 ∨ k = 1 ∨ k = 2 := by omega
      rcases hk4 with rfl | rfl | rfl
      · exact ⟨_, rfl, vv_n (t := 5) (by decide) (hx.ty hi1 (by decide))⟩
      · exact ⟨_, rfl, vv_n (t := 5) (by decide) (hx.ty hi2 (by decide))⟩
      · exact ⟨_, rfl, vv_o (t := 2) (by decide) (hx.op ho (by decide))⟩
    · exact absurd ((if_neg a).trans q2) q
  unfold mX7_addPair
  refine po_bind (ew2 _) ?_
  have ei : mX2_init n (some i1) (some i2) w (va_up f n (some (.inr (2, df2)))) (n + 1) = some (0, (va_up f n (some (.inr (2, [va_rf (some i1), va_rf (some i2), va_rf w]))), n + 1)) := by
    have hp : ∀ (l : List Value) (k : Nat) (v : Value), k < l.length → pO (va_up f n (some (.inr (2, l)))) n 2 k v = some (va_up f n (some (.inr (2, l.set k v)))) := fun l k v hk => by
      unfold pO
      rw [show va_up f n (some (.inr (2, l))) n = some (.inr (2, l)) from if_pos rfl]
      show (if 2 = 2 ∧ k < l.length then _ else _) = _
      rw [if_pos ⟨rfl, hk⟩]
      congr 1
      funext j
      show (if j = n then _ else (if j = n then _ else f j)) = (if j = n then _ else f j)
      by_cases hj : j = n
      · rw [if_pos hj, if_pos hj]
      · rw [if_neg hj, if_neg hj, if_neg hj]
    unfold mX2_init
    rw [hp _ _ _ (Nat.le_of_ble_eq_true rfl), Option.bind_some, hp _ _ _ (Nat.le_of_ble_eq_true rfl), Option.bind_some, hp _ _ _ (Nat.le_of_ble_eq_true rfl), Option.bind_some]
    rfl
  refine po_bind ei ?_
  refine po_pO (t := 202) hW2 (hx.ty h0 (by decide)) rfl rfl (vv_o (x := some n) (t := 2) (by decide) (fun i hi => by rw [← Option.some.inj hi]; exact if_pos rfl)) (fun g hg => ?_)
  refine po_gI hg (hx.ty h0 (by decide)) rfl rfl (by decide) (fun x ex (hx4 : 0 ≤ x.toInt ∧ x.toInt ≤ 12) => ?_)
  have e1 : (x + (1 : Int32)).toInt = x.toInt + 1 := i_add rfl (show (1 : Int32).toInt = 1 by decide) (by omega)
  have e2 := jmin_b (a := x + (1 : Int32)) (b := 12) e1 (show (12 : Int32).toInt = 12 by decide)
  refine po_pO hg (hx.ty h0 (by decide)) rfl rfl (vv_i (by decide) (vi4 (by omega))) (fun g2 hg2 => ?_)
  exact po_ret ⟨_, hx, hg2, trivial⟩
end ROWS
