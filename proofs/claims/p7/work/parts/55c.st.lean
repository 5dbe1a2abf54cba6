theorem smF_all {L M : BL} : ∀ (n a b : Nat), smF L a M b n = true ↔ ∀ i, i < n → L.getD (a + i) 0 = M.getD (b + i) 0 := by
  intro n
  induction n with
  | zero => intro a b; exact ⟨fun _ i hi => absurd hi (Nat.not_lt_zero _), fun _ => rfl⟩
  | succ n ih =>
    intro a b
    show (decide (L.getD a 0 = M.getD b 0) && smF L (a + 1) M (b + 1) n) = true ↔ _
    rw [Bool.and_eq_true, ih]
    constructor
    · intro h i hi
      cases i with
      | zero => exact of_decide_eq_true h.1
      | succ i =>
        have := h.2 i (by omega)
        rw [show a + (i + 1) = a + 1 + i by omega, show b + (i + 1) = b + 1 + i by omega]
        exact this
    · intro h
      refine ⟨decide_eq_true (h 0 (by omega)), fun i hi => ?_⟩
      have := h (i + 1) (by omega)
      rw [show a + (i + 1) = a + 1 + i by omega, show b + (i + 1) = b + 1 + i by omega] at this
      exact this
theorem smF_eq {L M : BL} (h : L.length = M.length) : smF L 0 M 0 L.length = decide (L = M) := by
  by_cases e : L = M
  · rw [decide_eq_true e, e]
    exact (smF_all _ 0 0).mpr (fun i _ => rfl)
  · rw [decide_eq_false e]
    cases hx : smF L 0 M 0 L.length with
    | false => rfl
    | true =>
      refine absurd (bl_ext h (fun i hi => ?_)) e
      have := (smF_all _ 0 0).mp hx i hi
      rw [Nat.zero_add] at this
      exact this
def tset (told : Nat → Option BL) (p : Nat) (o : Option BL) : Nat → Option BL := fun i => if i = p then o else told i
def tcnt (told : Nat → Option BL) : Nat → Nat
  | 0 => 0
  | i + 1 => tcnt told i + (match told i with
    | none => 0
    | some _ => 1)
section STS
variable {f : AH} {n s : Nat} {S : SST}
def RO (f : AH) (n : Nat) (o : Option BL) (w : Option Nat) : Prop := match o with
  | none => w = none
  | some t => ∃ j, w = some j ∧ RI1 f n j t ∧ t.length ≤ 60
theorem f_setTold {v : Int32} {w : Option Nat} {o : Option BL} (hs : SID s) (hS : STT f n s S) (hv : 0 ≤ v.toInt ∧ v.toInt < 40) (hw : RO f n o w) : PQ (mX7_setTold s v w f n) (fun y => ∃ f', y = (0, f', n) ∧ STT f' n s (S.1, S.2.1, tset S.2.2.1 v.toInt.toNat o, S.2.2.2) ∧ ∀ j, j ≠ s + 4 → f' j = f j) := by
  obtain ⟨⟨fr, la, a1, a2, full, a3, a4⟩, ⟨gl, b1, b2⟩, ⟨gt, c1, c2⟩, d1, d2⟩ := id hS
  unfold mX7_setTold
  refine pq_lt rfl kt_0 (fun q => by omega) (fun q => ?_)
  refine pq_gR a1 rfl (pq_sb (pq_gL c1 (by omega) ?_))
  refine pq_le kn_40 rfl (fun q2 => by omega) (fun q2 => ?_)
  refine pq_gR a1 rfl (pq_sb (pq_pRA c1 (fun _ => pq_ret ⟨_, rfl, ?_, fun j hj => u_ne hj⟩)))
  have e : v.toNatClampNeg = v.toInt.toNat := rfl
  rw [e]
  have hI : ∀ j, IMM n j → va_up f (s + 4) (some (.inl (2, 40, .inr (.inr (va_up gt v.toInt.toNat w))))) j = f j := fun j hj => u_ne (IMM_ne hj hs).2.2
  refine ⟨⟨fr, la, (u_ne (by omega)).trans a1, RI1_tr a2 hI (Nat.le_refl _), full, PCH_tr hI (Nat.le_refl _) full la a3, a4⟩, ⟨gl, (u_ne (by omega)).trans b1, fun l hl => ?_⟩, ⟨_, u_eq, fun i hi => ?_⟩, d1, d2⟩
  · obtain ⟨j, e1, e2⟩ := b2 l hl
    exact ⟨j, e1, RI1_tr e2 hI (Nat.le_refl _)⟩
  · show match tset S.2.2.1 v.toInt.toNat o i with
      | none => _
      | some t => _
    by_cases ei : i = v.toInt.toNat
    · have e3 : tset S.2.2.1 v.toInt.toNat o i = o := if_pos ei
      rw [e3, ei, u_eq]
      cases o with
      | none => exact hw
      | some t =>
        obtain ⟨j, k1, k2, k3⟩ := hw
        exact ⟨j, k1, RI1_tr k2 hI (Nat.le_refl _), k3⟩
    · have e3 : tset S.2.2.1 v.toInt.toNat o i = S.2.2.1 i := if_neg ei
      rw [e3, u_ne ei]
      have h5 := c2 i hi
      cases et : S.2.2.1 i with
      | none => rw [et] at h5; exact h5
      | some t =>
        rw [et] at h5
        obtain ⟨j, e1, e2, e4⟩ := h5
        exact ⟨j, e1, RI1_tr e2 hI (Nat.le_refl _), e4⟩
theorem f_forget_l {fs : List Value} (h9 : fs[9]? = some (.ref (s + 4))) : ∀ (d i : Nat) (f : AH) (g : Nat → Option Nat), f s = some (.inr (7, fs)) → f (s + 4) = some (.inl (2, 40, .inr (.inr g))) → i ≤ 40 → (∀ k, k < i → g k = none) → PQ (mX7_forgetTold_l2 d s (nI i) f n) (fun y => ∃ f' g2, y = (0, f', n) ∧ f' (s + 4) = some (.inl (2, 40, .inr (.inr g2))) ∧ (∀ k, k < 40 → g2 k = none) ∧ ∀ j, j ≠ s + 4 → f' j = f j) := by
  intro d
  induction d with
  | zero => intro i f g _ _ _ _; exact pq_none
  | succ d ih =>
    intro i f g h1 h3 hi hg
    unfold mX7_forgetTold_l2
    refine pq_gR h1 h9 (pq_sb (pq_gL h3 (by omega) ?_))
    refine pq_le kn_40 (nI_toInt (by omega)) (fun h => ?_) (fun h => ?_)
    · exact pq_ret ⟨f, g, rfl, h3, fun k hk => hg k (by omega), fun _ _ => rfl⟩
    · refine pq_gR h1 h9 (pq_sb (pq_pRA h3 (fun _ => ?_)))
      rw [nI_1, nI_clamp (by omega)]
      refine pq_tail (ih (i + 1) _ (va_up g i none) ((u_ne (by omega)).trans h1) u_eq (by omega) (fun k hk => ?_)) (fun y hy => ?_)
      · by_cases e : k = i
        · rw [e, u_eq]
        · rw [u_ne e]; exact hg k (by omega)
      · obtain ⟨f', g2, rfl, k1, k2, k3⟩ := hy
        exact ⟨f', g2, rfl, k1, k2, fun j hj => (k3 j hj).trans (u_ne hj)⟩
theorem f_forget (hs : SID s) (hS : STT f n s S) : PQ (mX7_forgetTold s f n) (fun y => ∃ f', y = (0, f', n) ∧ STT f' n s (S.1, S.2.1, fun _ => none, S.2.2.2) ∧ ∀ j, j ≠ s + 4 → f' j = f j) := by
  obtain ⟨⟨fr, la, a1, a2, full, a3, a4⟩, ⟨gl, b1, b2⟩, ⟨gt, c1, c2⟩, d1, d2⟩ := id hS
  unfold mX7_forgetTold
  refine pq_tail (f_forget_l (fs := stV fr S.2.1.1 S.2.1.2.1 S.2.1.2.2.1 (nI S.2.1.2.2.2.1) (nI S.2.1.2.2.2.2.length) la (nI S.2.2.2.length) (s + 3) (s + 4)) rfl rFU 0 f gt a1 c1 (by omega) (fun k hk => absurd hk (Nat.not_lt_zero _))) (fun y hy => ?_)
  obtain ⟨f', g2, rfl, k1, k2, k3⟩ := hy
  have hI : ∀ j, IMM n j → f' j = f j := fun j hj => k3 j (IMM_ne hj hs).2.2
  refine ⟨f', rfl, ⟨⟨fr, la, (k3 _ (by omega)).trans a1, RI1_tr a2 hI (Nat.le_refl _), full, PCH_tr hI (Nat.le_refl _) full la a3, a4⟩, ⟨gl, (k3 _ (by omega)).trans b1, fun l hl => ?_⟩, ⟨g2, k1, fun i hi => k2 i hi⟩, d1, d2⟩, k3⟩
  obtain ⟨j, e1, e2⟩ := b2 l hl
  exact ⟨j, e1, RI1_tr e2 hI (Nat.le_refl _)⟩
theorem tcnt_le {told : Nat → Option BL} : ∀ i, tcnt told i ≤ i := by
  intro i
  induction i with
  | zero => exact Nat.le_refl _
  | succ i ih =>
    show tcnt told i + _ ≤ i + 1
    split <;> omega
theorem f_tcount_l {fs : List Value} {told : Nat → Option BL} (h1 : f s = some (.inr (7, fs))) (h9 : fs[9]? = some (.ref (s + 4))) (hT : TDA f n (s + 4) told) : ∀ (d i : Nat), i ≤ 40 → PQ (mX7_toldCount_l4 d s (nI (tcnt told i)) (nI i) f n) (fun y => y = (nI (tcnt told 40), f, n)) := by
  obtain ⟨g, c1, c2⟩ := hT
  intro d
  induction d with
  | zero => intro i _; exact pq_none
  | succ d ih =>
    intro i hi
    unfold mX7_toldCount_l4
    refine pq_gR h1 h9 (pq_sb (pq_gL c1 (by omega) ?_))
    refine pq_le kn_40 (nI_toInt (by omega)) (fun h => ?_) (fun h => ?_)
    · exact pq_ret (by rw [show i = 40 by omega])
    · refine pq_gR h1 h9 (pq_sb (pq_gRA c1 (fun _ => ?_)))
      rw [nI_clamp (by omega)]
      have h5 := c2 i (by omega)
      have h6 := ih (i + 1) (by omega)
      cases et : told i with
      | none =>
        rw [et] at h5
        have h5 : g i = none := h5
        have e1 : tcnt told (i + 1) = tcnt told i := by show tcnt told i + _ = _; rw [et]; rfl
        rw [e1] at h6
        rw [h5]
        refine pq_oNn ?_
        unfold mX7_toldCount_b25
        rw [nI_1]; exact h6
      | some t =>
        rw [et] at h5
        obtain ⟨j, e2, -⟩ := h5
        have e1 : tcnt told (i + 1) = tcnt told i + 1 := by show tcnt told i + _ = _; rw [et]
        rw [e1] at h6
        rw [e2]
        refine pq_oNs ?_
        unfold mX7_toldCount_b25
        rw [nI_1, nI_1]; exact h6
theorem f_tcount (hS : STT f n s S) : PQ (mX7_toldCount s f n) (fun y => y = (nI (tcnt S.2.2.1 40), f, n)) := by
  obtain ⟨⟨fr, la, a1, -⟩, -, c1, -⟩ := hS
  exact f_tcount_l a1 rfl c1 rFU 0 (by omega)
theorem f_addPair {jt jd : Nat} {a b : BL} (hs : SID s) (hn : 224 ≤ n) (hS : STT f n s S) (hm : S.2.2.2.length ≤ 12) (ht : RI1 f n jt a) (hd : RI1 f n jd b) : PQ (mX7_addPair s (some jt) (some jd) f n) (fun y => ∃ f', y = (0, f', n + 1) ∧ STT f' (n + 1) s (S.1, S.2.1, S.2.2.1, ((a, b) :: S.2.2.2).take 12) ∧ ∀ j, j ≠ n → j ≠ s → f' j = f j) := by
  have h1 := SID_lt hs
  obtain ⟨⟨fr, la, a1, a2, full, a3, a4⟩, ⟨gl, b1, b2⟩, ⟨gt, c1, c2⟩, d1, d2⟩ := id hS
  unfold mX7_addPair
  have g1 : ∀ X, va_up f n X s = some (.inr (7, stV fr S.2.1.1 S.2.1.2.1 S.2.1.2.2.1 (nI S.2.1.2.2.2.1) (nI S.2.1.2.2.2.2.length) la (nI S.2.2.2.length) (s + 3) (s + 4))) := fun X => (u_ne (by omega)).trans a1
  refine pq_gRw (w := la) (g1 _) rfl ?_
  have ini : PQ (mX2_init n (some jt) (some jd) la (va_up f n (some (.inr (2, df2)))) (n + 1)) (fun y => y = (0, va_up f n (some (.inr (2, [.ref jt, .ref jd, va_rf la]))), n + 1)) := by
    unfold mX2_init
    exact pq_pU [.ref jt, .null, .null] rfl rfl (pq_pU [.ref jt, .ref jd, .null] rfl rfl (pq_pU [.ref jt, .ref jd, va_rf la] rfl rfl (pq_ret rfl)))
  refine pq_is ini ?_
  refine pq_pO (g1 _) rfl ?_
  refine pq_gI u_eq rfl ?_
  refine pq_pU (stV fr S.2.1.1 S.2.1.2.1 S.2.1.2.2.1 (nI S.2.1.2.2.2.1) (nI S.2.1.2.2.2.2.length) (some n) (jMin (nI S.2.2.2.length + 1) 12) (s + 3) (s + 4)) rfl rfl (pq_ret ⟨_, rfl, ?_, fun j x1 x2 => (u_ne x2).trans (u_ne x1)⟩)
  have hF : ∀ j, j ≠ n → j ≠ s → va_up (va_up f n (some (.inr (2, [.ref jt, .ref jd, va_rf la])))) s (some (.inr (7, stV fr S.2.1.1 S.2.1.2.1 S.2.1.2.2.1 (nI S.2.1.2.2.2.1) (nI S.2.1.2.2.2.2.length) (some n) (jMin (nI S.2.2.2.length + 1) 12) (s + 3) (s + 4)))) j = f j := fun j x1 x2 => (u_ne x2).trans (u_ne x1)
  have hI : ∀ j, IMM n j → va_up (va_up f n (some (.inr (2, [.ref jt, .ref jd, va_rf la])))) s (some (.inr (7, stV fr S.2.1.1 S.2.1.2.1 S.2.1.2.2.1 (nI S.2.1.2.2.2.1) (nI S.2.1.2.2.2.2.length) (some n) (jMin (nI S.2.2.2.length + 1) 12) (s + 3) (s + 4)))) j = f j := fun j hj => hF j (by have := IMM_lt hj hn; omega) (IMM_ne hj hs).1
  have hnn : n ≤ n + 1 := Nat.le_succ _
  have eM : jMin (nI S.2.2.2.length + 1) 12 = nI (((a, b) :: S.2.2.2).take 12).length := by
    rw [nI_1]
    have := jmin_b (a := nI (S.2.2.2.length + 1)) (b := 12) (nI_toInt (by omega)) kt_12
    refine Int32.toInt_inj.mp ?_
    rw [List.length_take, List.length_cons, nI_toInt (by omega)]
    omega
  refine ⟨⟨fr, some n, by rw [u_eq, eM], RI1_tr a2 hI hnn, (a, b) :: full, ⟨n, jt, jd, la, rfl, Or.inl ⟨hn, by omega⟩, (u_ne (by omega)).trans u_eq, RI1_tr ht hI hnn, RI1_tr hd hI hnn, PCH_tr hI hnn full la a3⟩, ?_⟩, ⟨gl, (hF _ (by omega) (by omega)).trans b1, fun l hl => ?_⟩, ⟨gt, (hF _ (by omega) (by omega)).trans c1, fun i hi => ?_⟩, d1, d2⟩
  · show ((a, b) :: S.2.2.2).take 12 = ((a, b) :: full).take 12
    rw [a4]
    show (a, b) :: (full.take 12).take 11 = (a, b) :: full.take 11
    rw [List.take_take]; rfl
  · obtain ⟨j, e1, e2⟩ := b2 l hl
    exact ⟨j, e1, RI1_tr e2 hI hnn⟩
  · have h5 := c2 i hi
    show match S.2.2.1 i with
      | none => _
      | some t => _
    cases et : S.2.2.1 i with
    | none => rw [et] at h5; exact h5
    | some t =>
      rw [et] at h5
      obtain ⟨j, e1, e2, e4⟩ := h5
      exact ⟨j, e1, RI1_tr e2 hI hnn, e4⟩
/-- what a lock more does -/
def lkC (locks : List BL) (w : BL) : Int32 := if locks.length = 4 then 6 else if locks.any (fun x => decide (x = w)) = true then 7 else 0
theorem f_addLock_l {jw : Nat} {w : BL} (hs : SID s) (hS : STT f n s S) (hw : RI1 f n jw w) (hw8 : w.length ≤ 8) (hl4 : S.2.1.2.2.2.2.length < 4) : ∀ (d t : Nat), t ≤ S.2.1.2.2.2.2.length → (∀ l, l < t → S.2.1.2.2.2.2.getD l [] ≠ w) → PQ (mX7_addLock_l24 d s (some jw) (nI t) f n) (fun y => ((S.2.1.2.2.2.2.drop t).any (fun x => decide (x = w)) = true ∧ y = (7, f, n)) ∨ ((S.2.1.2.2.2.2.drop t).any (fun x => decide (x = w)) = false ∧ ∃ f', y = (0, f', n) ∧ STT f' n s (S.1, (S.2.1.1, S.2.1.2.1, S.2.1.2.2.1, S.2.1.2.2.2.1, S.2.1.2.2.2.2 ++ [w]), S.2.2.1, S.2.2.2) ∧ ∀ j, j ≠ s → j ≠ s + 3 → f' j = f j)) := by
  obtain ⟨⟨fr, la, a1, a2, full, a3, a4⟩, ⟨gl, b1, b2⟩, ⟨gt, c1, c2⟩, d1, d2⟩ := id hS
  intro d
  induction d with
  | zero => intro t _ _; exact pq_none
  | succ d ih =>
    intro t ht hno
    unfold mX7_addLock_l24
    refine pq_gI a1 rfl ?_
    refine pq_le (nI_toInt (by omega)) (nI_toInt (by omega)) (fun h => ?_) (fun h => ?_)
    · have et : t = S.2.1.2.2.2.2.length := by omega
      refine pq_gR a1 rfl (pq_gI a1 rfl (pq_sb (pq_pRA b1 (fun _ => ?_))))
      rw [nI_clamp (by omega)]
      have a1' : va_up f (s + 3) (some (.inl (2, 4, .inr (.inr (va_up gl S.2.1.2.2.2.2.length (some jw)))))) s = some (.inr (7, stV fr S.2.1.1 S.2.1.2.1 S.2.1.2.2.1 (nI S.2.1.2.2.2.1) (nI S.2.1.2.2.2.2.length) la (nI S.2.2.2.length) (s + 3) (s + 4))) := (u_ne (by omega)).trans a1
      refine pq_gI a1' rfl (pq_pO a1' rfl (pq_ret (Or.inr ⟨?_, _, rfl, ?_, fun j x1 x2 => (u_ne x1).trans (u_ne x2)⟩)))
      · rw [List.drop_of_length_le (by omega)]; rfl
      · generalize ef : va_up (va_up f (s + 3) (some (.inl (2, 4, .inr (.inr (va_up gl S.2.1.2.2.2.2.length (some jw))))))) s (some (.inr (7, (stV fr S.2.1.1 S.2.1.2.1 S.2.1.2.2.1 (nI S.2.1.2.2.2.1) (nI S.2.1.2.2.2.2.length) la (nI S.2.2.2.length) (s + 3) (s + 4)).set 5 (.int (nI S.2.1.2.2.2.2.length + 1))))) = f'
        have hF : ∀ j, j ≠ s → j ≠ s + 3 → f' j = f j := fun j x1 x2 => by rw [← ef]; exact (u_ne x1).trans (u_ne x2)
        have hI : ∀ j, IMM n j → f' j = f j := fun j hj => hF j (IMM_ne hj hs).1 (IMM_ne hj hs).2.1
        have h3 : f' (s + 3) = some (.inl (2, 4, .inr (.inr (va_up gl S.2.1.2.2.2.2.length (some jw))))) := by rw [← ef]; exact (u_ne (by omega)).trans u_eq
        have hs0 : f' s = some (.inr (7, stV fr S.2.1.1 S.2.1.2.1 S.2.1.2.2.1 (nI S.2.1.2.2.2.1) (nI (S.2.1.2.2.2.2 ++ [w]).length) la (nI S.2.2.2.length) (s + 3) (s + 4))) := by
          rw [← ef, u_eq, List.length_append]
          show _ = some (Sum.inr (7, stV fr S.2.1.1 S.2.1.2.1 S.2.1.2.2.1 (nI S.2.1.2.2.2.1) (nI (S.2.1.2.2.2.2.length + 1)) la (nI S.2.2.2.length) (s + 3) (s + 4)))
          rw [← nI_1]; rfl
        refine ⟨⟨fr, la, hs0, RI1_tr a2 hI (Nat.le_refl _), full, PCH_tr hI (Nat.le_refl _) full la a3, a4⟩, ⟨_, h3, fun l hl => ?_⟩, ⟨gt, (hF _ (by omega) (by omega)).trans c1, fun i hi => ?_⟩, ⟨d1.1, d1.2.1, d1.2.2.1, d1.2.2.2.1, ?_, fun x hx => ?_⟩, d2⟩
        · show ∃ j, _ ∧ RI1 f' n j ((S.2.1.2.2.2.2 ++ [w]).getD l [])
          have hl : l < (S.2.1.2.2.2.2 ++ [w]).length := hl
          rw [List.length_append] at hl
          by_cases el : l = S.2.1.2.2.2.2.length
          · refine ⟨jw, by rw [el, u_eq], ?_⟩
            rw [el, List.getD_eq_getElem?_getD, List.getElem?_append_right (Nat.le_refl _), Nat.sub_self]
            exact RI1_tr hw hI (Nat.le_refl _)
          · have hl2 : l < S.2.1.2.2.2.2.length := by have : l < S.2.1.2.2.2.2.length + 1 := hl; omega
            obtain ⟨j, e1, e2⟩ := b2 l hl2
            refine ⟨j, by rw [u_ne el]; exact e1, ?_⟩
            rw [List.getD_eq_getElem?_getD, List.getElem?_append_left hl2, ← List.getD_eq_getElem?_getD]
            exact RI1_tr e2 hI (Nat.le_refl _)
        · have h5 := c2 i hi
          show match S.2.2.1 i with
            | none => _
            | some t => _
          cases et : S.2.2.1 i with
          | none => rw [et] at h5; exact h5
          | some t =>
            rw [et] at h5
            obtain ⟨j, e1, e2, e4⟩ := h5
            exact ⟨j, e1, RI1_tr e2 hI (Nat.le_refl _), e4⟩
        · show (S.2.1.2.2.2.2 ++ [w]).length ≤ 4
          rw [List.length_append]; show S.2.1.2.2.2.2.length + 1 ≤ 4; omega
        · have hx : x ∈ S.2.1.2.2.2.2 ++ [w] := hx
          rcases List.mem_append.mp hx with h | h
          · exact d1.2.2.2.2.2 x h
          · rw [List.mem_singleton.mp h]; exact hw8
    · have hlt : t < S.2.1.2.2.2.2.length := by omega
      obtain ⟨j, e1, b, c, e2, e3, e4⟩ := b2 t hlt
      obtain ⟨bw, cw, w1, w2, w3⟩ := id hw
      have h6 := rw_6 e2
      refine pq_gR a1 rfl (pq_sb (pq_gRA b1 (fun _ => ?_)))
      rw [nI_clamp (by omega), e1, bdr_st hlt, List.any_cons]
      refine pq_oNs (pq_oNs (pq_ck (pq_is (f_size e2) (pq_ck (pq_is (f_size w1) ?_)))))
      have go : S.2.1.2.2.2.2.getD t [] ≠ w → PQ (mX7_addLock_b75 (fun v0 v1 v2 f n => mX7_addLock_l24 d v0 v1 v2 f n) s (some jw) (nI t) f n) (fun y => ((decide (S.2.1.2.2.2.2.getD t [] = w) || (S.2.1.2.2.2.2.drop (t + 1)).any (fun x => decide (x = w))) = true ∧ y = (7, f, n)) ∨ ((decide (S.2.1.2.2.2.2.getD t [] = w) || (S.2.1.2.2.2.2.drop (t + 1)).any (fun x => decide (x = w))) = false ∧ ∃ f', y = (0, f', n) ∧ STT f' n s (S.1, (S.2.1.1, S.2.1.2.1, S.2.1.2.2.1, S.2.1.2.2.2.1, S.2.1.2.2.2.2 ++ [w]), S.2.2.1, S.2.2.2) ∧ ∀ j, j ≠ s → j ≠ s + 3 → f' j = f j)) := by
        intro hnw
        unfold mX7_addLock_b75
        rw [nI_1, decide_eq_false hnw, Bool.false_or]
        refine ih (t + 1) (by omega) (fun l hl => ?_)
        by_cases el : l = t
        · rw [el]; exact hnw
        · exact hno l (by omega)
      refine pq_eqi (nI_toInt (by omega)) (nI_toInt (by omega)) (fun q1 => ?_) (fun q1 => go (fun x => q1 (by rw [x])))
      have hlen : (S.2.1.2.2.2.2.getD t []).length = w.length := by omega
      refine pq_ck (pq_is (f_size e2) (pq_ck (pq_is (f_same (a := 0) (a1 := 0) e2 w1 (by omega) (by omega)) ?_)))
      rw [smF_eq hlen]
      refine pq_eq (fun q2 => go (of_decide_eq_false (bI_0.mp q2))) (fun q2 => ?_)
      have e9 : decide (S.2.1.2.2.2.2.getD t [] = w) = true := by
        cases hx : decide (S.2.1.2.2.2.2.getD t [] = w) with
        | true => rfl
        | false => exact absurd (by show bI (decide (S.2.1.2.2.2.2.getD t [] = w)) = 0; rw [hx]; rfl) q2
      exact pq_ret (Or.inl ⟨by rw [e9]; rfl, rfl⟩)
theorem f_addLock {jw : Nat} {w : BL} (hs : SID s) (hS : STT f n s S) (hw : RI1 f n jw w) (hw8 : w.length ≤ 8) : PQ (mX7_addLock s (some jw) f n) (fun y => (lkC S.2.1.2.2.2.2 w ≠ 0 ∧ y = (lkC S.2.1.2.2.2.2 w, f, n)) ∨ (lkC S.2.1.2.2.2.2 w = 0 ∧ ∃ f', y = (0, f', n) ∧ STT f' n s (S.1, (S.2.1.1, S.2.1.2.1, S.2.1.2.2.1, S.2.1.2.2.2.1, S.2.1.2.2.2.2 ++ [w]), S.2.2.1, S.2.2.2) ∧ ∀ j, j ≠ s → j ≠ s + 3 → f' j = f j)) := by
  obtain ⟨⟨fr, la, a1, a2, full, a3, a4⟩, ⟨gl, b1, b2⟩, ⟨gt, c1, c2⟩, d1, d2⟩ := id hS
  have hl4 := d1.2.2.2.2.1
  unfold mX7_addLock
  refine pq_gI a1 rfl (pq_f (nI_pos (by omega)) (pq_gI a1 rfl (pq_gR a1 rfl (pq_sb (pq_gL b1 (by omega) ?_)))))
  refine pq_lt (nI_toInt (by omega)) kn_4 (fun q => ?_) (fun q => ?_)
  · have e0 : lkC S.2.1.2.2.2.2 w = if S.2.1.2.2.2.2.any (fun x => decide (x = w)) = true then 7 else 0 := by
      unfold lkC
      rw [if_neg (by omega)]
    rw [e0]
    refine pq_tail (f_addLock_l hs hS hw hw8 (by omega) rFU 0 (Nat.zero_le _) (fun l hl => absurd hl (Nat.not_lt_zero _))) (fun y hy => ?_)
    rcases hy with ⟨k1, k2⟩ | ⟨k1, k2⟩
    · have k1 : S.2.1.2.2.2.2.any (fun x => decide (x = w)) = true := k1
      rw [if_pos k1]
      exact Or.inl ⟨by decide, k2⟩
    · have k1 : S.2.1.2.2.2.2.any (fun x => decide (x = w)) = false := k1
      rw [if_neg (by rw [k1]; decide)]
      exact Or.inr ⟨rfl, k2⟩
  · have e0 : lkC S.2.1.2.2.2.2 w = 6 := by
      unfold lkC
      rw [if_pos (by omega)]
    rw [e0]
    exact pq_ret (Or.inl ⟨by decide, rfl⟩)
end STS
