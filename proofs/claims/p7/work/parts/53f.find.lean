theorem f_find_l {n c0 st fr lk td : Nat} {cf : CFG} {la : Option Nat} {pn : Int32} {L : BL} {r rb cc : Nat} {f0 : AH} (hk : cf.1 = 0 ∨ cf.1 = 1 ∨ cf.1 = 2 ∨ cf.1 = 3) (hki : cf.2.1 = -1 ∨ cf.2.1 = 0 ∨ cf.2.1 = 1 ∨ cf.2.1 = 2 ∨ cf.2.1 = 3) (hst : f0 st = some (.inr (7, stV fr cf.1 cf.2.1 cf.2.2.1 (nI cf.2.2.2.1) (nI cf.2.2.2.2.length) la pn lk td))) (hsr : st < c0 ∨ c0 + 56 ≤ st) (hle : cf.2.2.2.1 ≤ 40) (hLk : LKS f0 c0 lk cf.2.2.2.2) (hr : isRw f0 r rb cc L) (hro : r < c0 ∨ c0 + 56 ≤ r) (hrb : rb < c0 ∨ c0 + 56 ≤ rb) : ∀ (d t a : Nat) (f : AH) (P : List Pc) (b e q kb ks m w : Int32), FI f c0 P → f (c0 + 9) = scE r b e q kb ks m w cf.1 (nI a) → (∀ j, j < c0 ∨ c0 + 56 ≤ j → f j = f0 j) → SI cf.1 q kb ks → t ≤ a → a ≤ 601 → (ogs P).length = (txs P).length → (txs P).length ≤ a → PQ (mX1_find_l35 d c0 (some st) (nI t) f n) (fun y => ∃ f' P', y = (0, f', n) ∧ P' = (cutL cf.1 L a).foldl (tkC cf L) P ∧ FI f' c0 P' ∧ scA (f' (c0 + 9)) ∧ (∀ j, j < c0 ∨ c0 + 56 ≤ j → f' j = f0 j) ∧ (ogs P').length = (txs P').length) := by
  intro d
  induction d with
  | zero => intro t a f P b e q kb ks m w _ _ _ _ _ _ _ _; exact pq_none
  | succ d ih =>
    intro t a f P b e q kb ks m w hFI hs hF0 hS hta ha6 hL hX
    obtain ⟨hC, hT, hO, hM, hB, hi⟩ := id hFI
    obtain ⟨a1, ⟨gg, a2, a2'⟩, a3, a4, a5⟩ := id hC
    have h6 := rw_6 hr
    have hr' : isRw f r rb cc L := rw_tr hr (hF0 _ hro) (hF0 _ hrb)
    have hFu : ∀ X, FI (va_up f (c0 + 9) X) c0 P := fun X => by
      obtain ⟨M0, hM0⟩ := hM
      obtain ⟨B0, hB0⟩ := hB
      exact ⟨CB_tr hC (u_ne (by omega)) (fun i x1 x2 => u_ne (by omega)), rw_up hT (by omega) (by omega), rw_up hO (by omega) (by omega), ⟨M0, rw_up hM0 (by omega) (by omega)⟩, ⟨B0, rw_up hB0 (by omega) (by omega)⟩, by rw [u_ne (by omega)]; exact hi⟩
    have fin : ∀ f' b' e' q' kb' ks' p', f' = va_up f (c0 + 9) (scE r b' e' q' kb' ks' m w cf.1 p') → (cutL cf.1 L a).foldl (tkC cf L) P = P → PQ (mX1_find_b174 f' n) (fun y => ∃ f' P', y = (0, f', n) ∧ P' = (cutL cf.1 L a).foldl (tkC cf L) P ∧ FI f' c0 P' ∧ scA (f' (c0 + 9)) ∧ (∀ j, j < c0 ∨ c0 + 56 ≤ j → f' j = f0 j) ∧ (ogs P').length = (txs P').length) := by
      intro f' b' e' q' kb' ks' p' ef eP
      subst ef
      rw [eP]
      exact pq_ret ⟨_, P, rfl, rfl, hFu _, ⟨_, _, _, _, _, _, _, _, _, _, u_eq⟩, fun j hj => (u_ne (by omega)).trans (hF0 j hj), hL⟩
    have hfs : f = va_up f (c0 + 9) (scE r b e q kb ks m w cf.1 (nI a)) := (u_id hs).symm
    unfold mX1_find_l35
    refine pq_lt kt_600 (nI_toInt (by omega)) (fun h => fin f b e q kb ks _ hfs ?_) (fun h => ?_)
    · rw [cutL_end (by omega)]; rfl
    refine pq_gI a1 rfl (pq_gR a1 rfl (pq_sb (pq_gL a2 (by omega) ?_)))
    refine pq_le (nI_toInt (by omega)) (nI_toInt (by omega)) (fun h2 => fin f b e q kb ks _ hfs (tkC_full (by omega) _)) (fun h2 => ?_)
    refine pq_gR a1 rfl (pq_sb (pq_ck ?_))
    have nxt := f_scnext (n := n) (m := m) (w := w) (b := b) (e := e) (s := c0 + 9) hr' (by omega) (by omega) hk ha6 hS
    rw [← hfs] at nxt
    refine pq_call nxt (fun y hy => ?_)
    obtain ⟨b', e', q', kb', ks', a', g1, g2, g3, g4⟩ := hy
    rcases g4 with ⟨rfl, c, g5, g6, g7⟩ | ⟨rfl, g5⟩
    · refine pq_f (show ¬ (1 : Int32) = 0 by decide) ?_
      have hdm : c ∈ cutL cf.1 L a := by rw [g5]; exact List.mem_cons_self
      have hdb := cutL_b _ a (Nat.le_refl _) c hdm
      have hdx := cutL_x _ a (Nat.le_refl _) c hdm
      obtain ⟨o1, o2, o3, o4, o5⟩ := g6
      rw [o3, o4, o5] at g3
      rw [o1, o2, o3, o4, o5, g5]
      have hF1 : ∀ j, j < c0 ∨ c0 + 56 ≤ j → va_up f (c0 + 9) (scE r (nI c.1) (nI c.2.1) (bI c.2.2.1) (nI c.2.2.2.1) (nI c.2.2.2.2) m w cf.1 (nI a')) j = f0 j := fun j hj => (u_ne (by omega)).trans (hF0 j hj)
      have hst1 := (hF1 st hsr).trans hst
      refine pq_sb (pq_gI hst1 rfl ?_)
      have b82 : lkd cf L c = false → PQ (mX1_find_b82 (fun v0 v2 v3 f n => mX1_find_l35 d v0 v2 v3 f n) c0 (some st) (nI t) (va_up f (c0 + 9) (scE r (nI c.1) (nI c.2.1) (bI c.2.2.1) (nI c.2.2.2.1) (nI c.2.2.2.2) m w cf.1 (nI a'))) n) (fun y => ∃ f' P', y = (0, f', n) ∧ P' = (c :: cutL cf.1 L a').foldl (tkC cf L) P ∧ FI f' c0 P' ∧ scA (f' (c0 + 9)) ∧ (∀ j, j < c0 ∨ c0 + 56 ≤ j → f' j = f0 j) ∧ (ogs P').length = (txs P').length) := by
        intro hlk
        refine f_find_b82 hk hki hst hsr hle hr hro hrb hdb.2.1 hdb.2.2 hdx.2.1 (by omega) (hFu _) u_eq hF1 hL (by omega) (fun f' P' m' w' k1 k2 k3 k4 k5 k6 => ?_)
        show PQ (mX1_find_l35 d c0 (some st) (nI t + 1) f' n) _
        rw [nI_1]
        refine pq_tail (ih (t + 1) a' f' P' _ _ _ _ _ _ _ k2 k3 k4 g3 (by omega) g1 k5 (by omega)) (fun y hy => ?_)
        rw [k1] at hy
        have e9 : (c :: cutL cf.1 L a').foldl (tkC cf L) P = (cutL cf.1 L a').foldl (tkC cf L) ((pcC cf L c).foldl (tk cf) P) := by
          rw [List.foldl_cons]
          unfold tkC
          rw [if_neg (by rw [hlk]; decide)]
        rw [e9]; exact hy
      refine pq_eq (fun q1 => ?_) (fun q1 => ?_)
      · have q1' : cf.1 = 0 := q1
        refine pq_gR ((hFu _).1.1) rfl (pq_ck ?_)
        refine pq_is (f_isLocked hst1 (LKS_tr hLk hF1) u_eq (rw_up hr' (by omega) (by omega)) hdx.1) ?_
        refine pq_eq (fun q2 => b82 ?_) (fun q2 => ?_)
        · unfold lkd
          rw [bI_0.mp q2, Bool.and_false]
        · unfold mX1_find_b168
          have hlk : lkd cf L c = true := by
            unfold lkd
            rw [decide_eq_true q1', Bool.true_and]
            cases hx : cf.2.2.2.2.any (fun w => decide (w.length ≤ c.2.2.2.2) && smF w 0 L c.2.2.2.1 w.length) with
            | true => rfl
            | false => exact absurd (by show bI (cf.2.2.2.2.any (fun w => decide (w.length ≤ c.2.2.2.2) && smF w 0 L c.2.2.2.1 w.length)) = 0; rw [hx]; rfl) q2
          show PQ (mX1_find_l35 d c0 (some st) (nI t + 1) _ n) _
          rw [nI_1]
          refine pq_tail (ih (t + 1) a' _ P _ _ _ _ _ _ _ (hFu _) u_eq hF1 g3 (by omega) g1 hL (by omega)) (fun y hy => ?_)
          have e9 : (c :: cutL cf.1 L a').foldl (tkC cf L) P = (cutL cf.1 L a').foldl (tkC cf L) P := by
            rw [List.foldl_cons]
            have : tkC cf L P c = P := by unfold tkC; rw [if_pos hlk]
            rw [this]
          rw [e9]; exact hy
      · refine b82 ?_
        unfold lkd
        rw [decide_eq_false q1, Bool.false_and]
    · refine pq_t rfl (fin _ b' e' q' kb' ks' (nI a') rfl ?_)
      rw [g5]; rfl
/-- the cut's region has its shape -/
def CSh (f : AH) (c0 : Nat) : Prop := (∃ mn, f c0 = some (.inr (1, cuL c0 mn))) ∧ (∃ T, isRw f (c0 + 1) (c0 + 2) 600 T) ∧ (∃ O, isRw f (c0 + 3) (c0 + 4) 600 O) ∧ (∃ M, isRw f (c0 + 5) (c0 + 6) 600 M) ∧ (∃ B, isRw f (c0 + 7) (c0 + 8) 600 B) ∧ scA (f (c0 + 9)) ∧ scA (f (c0 + 12)) ∧ (∃ g : Nat → Option Nat, f (c0 + 15) = some (.inl (1, 40, .inr (.inr g))) ∧ ∀ i, i < 40 → g i = some (c0 + 16 + i)) ∧ (∀ i, i < 40 → okP (f (c0 + 16 + i)))
/-- the cut holds these pieces -/
def CUT (f : AH) (c0 : Nat) (P : List Pc) : Prop := FI f c0 P ∧ scA (f (c0 + 9)) ∧ (ogs P).length = (txs P).length
theorem CUT_sh {f : AH} {c0 : Nat} {P : List Pc} (h : CUT f c0 P) : CSh f c0 := by
  obtain ⟨⟨⟨a1, a2, a3, a4, a5⟩, h2, h3, h4, h5, h6⟩, h7, -⟩ := h
  exact ⟨⟨_, a1⟩, ⟨_, h2⟩, ⟨_, h3⟩, h4, h5, h7, h6, a2, a3⟩
theorem CUT_tr {f f' : AH} {c0 : Nat} {P : List Pc} (h : CUT f c0 P) (hF : ∀ i, c0 ≤ i → i < c0 + 56 → f' i = f i) : CUT f' c0 P := by
  obtain ⟨⟨h1, h2, h3, ⟨M, h4⟩, ⟨B, h5⟩, h6⟩, h7, h8⟩ := h
  refine ⟨⟨CB_tr h1 (hF _ (by omega) (by omega)) (fun i x1 x2 => hF i (by omega) x2), rw_tr h2 (hF _ (by omega) (by omega)) (hF _ (by omega) (by omega)), rw_tr h3 (hF _ (by omega) (by omega)) (hF _ (by omega) (by omega)), ⟨M, rw_tr h4 (hF _ (by omega) (by omega)) (hF _ (by omega) (by omega))⟩, ⟨B, rw_tr h5 (hF _ (by omega) (by omega)) (hF _ (by omega) (by omega))⟩, ?_⟩, ?_, h8⟩
  · rw [hF _ (by omega) (by omega)]; exact h6
  · rw [hF _ (by omega) (by omega)]; exact h7
theorem CSh_tr {f f' : AH} {c0 : Nat} (h : CSh f c0) (hF : ∀ i, c0 ≤ i → i < c0 + 56 → f' i = f i) : CSh f' c0 := by
  obtain ⟨⟨mn, h1⟩, ⟨T, h2⟩, ⟨O, h3⟩, ⟨M, h4⟩, ⟨B, h5⟩, h6, h7, h8, h9⟩ := h
  refine ⟨⟨mn, (hF _ (by omega) (by omega)).trans h1⟩, ⟨T, rw_tr h2 (hF _ (by omega) (by omega)) (hF _ (by omega) (by omega))⟩, ⟨O, rw_tr h3 (hF _ (by omega) (by omega)) (hF _ (by omega) (by omega))⟩, ⟨M, rw_tr h4 (hF _ (by omega) (by omega)) (hF _ (by omega) (by omega))⟩, ⟨B, rw_tr h5 (hF _ (by omega) (by omega)) (hF _ (by omega) (by omega))⟩, ?_, ?_, ?_, fun i hi => ?_⟩
  · rw [hF _ (by omega) (by omega)]; exact h6
  · rw [hF _ (by omega) (by omega)]; exact h7
  · rw [hF _ (by omega) (by omega)]; exact h8
  · rw [hF _ (by omega) (by omega)]; exact h9 i hi
theorem f_find {n c0 st fr lk td : Nat} {cf : CFG} {la : Option Nat} {pn : Int32} {L : BL} {r rb cc : Nat} {f : AH} (hk : cf.1 = 0 ∨ cf.1 = 1 ∨ cf.1 = 2 ∨ cf.1 = 3) (hki : cf.2.1 = -1 ∨ cf.2.1 = 0 ∨ cf.2.1 = 1 ∨ cf.2.1 = 2 ∨ cf.2.1 = 3) (hst : f st = some (.inr (7, stV fr cf.1 cf.2.1 cf.2.2.1 (nI cf.2.2.2.1) (nI cf.2.2.2.2.length) la pn lk td))) (hsr : st < c0 ∨ c0 + 56 ≤ st) (hle : cf.2.2.2.1 ≤ 40) (hLk : LKS f c0 lk cf.2.2.2.2) (hr : isRw f r rb cc L) (hro : r < c0 ∨ c0 + 56 ≤ r) (hrb : rb < c0 ∨ c0 + 56 ≤ rb) (hS : CSh f c0) : PQ (mX1_find c0 (some r) (some st) f n) (fun y => ∃ f', y = (0, f', n) ∧ CUT f' c0 (pcs cf L) ∧ ∀ j, j < c0 ∨ c0 + 56 ≤ j → f' j = f j) := by
  obtain ⟨⟨mn, h1⟩, ⟨T, h2⟩, ⟨O, h3⟩, ⟨M, h4⟩, ⟨B, h5⟩, h6, h7, h8, h9⟩ := hS
  unfold mX1_find
  refine pq_pO h1 rfl ?_
  have c1 : va_up f c0 (some (.inr (1, (cuL c0 mn).set 3 (.int 0)))) c0 = some (.inr (1, cuL c0 0)) := u_eq
  refine pq_gR c1 rfl (pq_sb (pq_ck ?_))
  refine pq_call (f_cutTo (rw_up h2 (by omega) (by omega)) (m := 0) (by omega)) (fun y hy => ?_)
  obtain ⟨f1, rfl, hT1, hF1⟩ := hy
  have c2 : f1 c0 = some (.inr (1, cuL c0 0)) := (hF1 _ (by omega)).trans c1
  refine pq_gR c2 rfl (pq_sb (pq_ck ?_))
  have hO1 : isRw f1 (c0 + 3) (c0 + 4) 600 O := rw_tr (rw_up h3 (by omega) (by omega)) (hF1 _ (by omega)) (hF1 _ (by omega))
  refine pq_call (f_cutTo hO1 (m := 0) (by omega)) (fun y hy => ?_)
  obtain ⟨f2, rfl, hO2, hF2⟩ := hy
  have e2 : ∀ j, j ≠ c0 → j ≠ c0 + 1 → j ≠ c0 + 3 → f2 j = f j := fun j x0 x1 x2 => ((hF2 j x2).trans (hF1 j x1)).trans (u_ne x0)
  have c3 : f2 c0 = some (.inr (1, cuL c0 0)) := (hF2 _ (by omega)).trans c2
  refine pq_gR c3 rfl (pq_sb (pq_gI ((e2 st (by omega) (by omega) (by omega)).trans hst) rfl (pq_sb (pq_ck ?_))))
  obtain ⟨r1, b1, e1, q1, kb1, ks1, m1, w1, k1, p1, hs1⟩ := h6
  have hs2 : f2 (c0 + 9) = scE r1 b1 e1 q1 kb1 ks1 m1 w1 k1 p1 := (e2 _ (by omega) (by omega) (by omega)).trans hs1
  have st1 := f_scstart (f := f2) (s := c0 + 9) (n := n) (r := r1) (b := b1) (e := e1) (q := q1) (kb := kb1) (ks := ks1) (m := m1) (w := w1) (k := k1) (p := p1) (r' := r) (k' := cf.1)
  rw [u_id hs2] at st1
  refine pq_is st1 ?_
  have hF3 : ∀ j, j < c0 ∨ c0 + 56 ≤ j → va_up f2 (c0 + 9) (scE r b1 e1 0 0 0 m1 w1 cf.1 0) j = f j := fun j hj => (u_ne (by omega)).trans (e2 j (by omega) (by omega) (by omega))
  have e3 : ∀ j, j ≠ c0 → j ≠ c0 + 1 → j ≠ c0 + 3 → j ≠ c0 + 9 → va_up f2 (c0 + 9) (scE r b1 e1 0 0 0 m1 w1 cf.1 0) j = f j := fun j x0 x1 x2 x3 => (u_ne x3).trans (e2 j x0 x1 x2)
  have hFI : FI (va_up f2 (c0 + 9) (scE r b1 e1 0 0 0 m1 w1 cf.1 0)) c0 [] := by
    refine ⟨⟨(u_ne (by omega)).trans c3, ?_, fun i hi => ?_, fun i hi => absurd hi (Nat.not_lt_zero _), by decide⟩, ?_, ?_, ⟨M, ?_⟩, ⟨B, ?_⟩, ?_⟩
    · rw [e3 _ (by omega) (by omega) (by omega) (by omega)]; exact h8
    · rw [e3 _ (by omega) (by omega) (by omega) (by omega)]; exact h9 i hi
    · exact rw_up (rw_tr hT1 (hF2 _ (by omega)) (hF2 _ (by omega))) (by omega) (by omega)
    · exact rw_up hO2 (by omega) (by omega)
    · exact rw_tr h4 (e3 _ (by omega) (by omega) (by omega) (by omega)) (e3 _ (by omega) (by omega) (by omega) (by omega))
    · exact rw_tr h5 (e3 _ (by omega) (by omega) (by omega) (by omega)) (e3 _ (by omega) (by omega) (by omega) (by omega))
    · rw [e3 _ (by omega) (by omega) (by omega) (by omega)]; exact h7
  refine pq_tail (f_find_l hk hki hst hsr hle hLk hr hro hrb rFU 0 0 _ [] b1 e1 0 0 0 m1 w1 hFI u_eq hF3 ⟨fun _ => rfl, fun _ => ⟨rfl, rfl⟩⟩ (Nat.le_refl _) (by omega) rfl (Nat.zero_le _)) (fun y hy => ?_)
  obtain ⟨f', P', rfl, g1, g2, g3, g4, g5⟩ := hy
  have e9 : P' = pcs cf L := g1
  rw [e9] at g2 g5
  exact ⟨f', rfl, ⟨g2, g3, g5⟩, g4⟩
