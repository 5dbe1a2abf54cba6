/-! a state of the class -/
abbrev SST : Type := BL × CFG × (Nat → Option BL) × List (BL × BL)
def IMM (n j : Nat) : Prop := (224 ≤ j ∧ j < n) ∨ (3 ≤ j ∧ j < 18 ∧ ((j - 3) % 5 = 1 ∨ (j - 3) % 5 = 2)) ∨ (19 ≤ j ∧ j < 59 ∧ ((j - 19) % 5 = 1 ∨ (j - 19) % 5 = 2))
def SID (s : Nat) : Prop := (3 ≤ s ∧ s < 18 ∧ (s - 3) % 5 = 0) ∨ (19 ≤ s ∧ s < 59 ∧ (s - 19) % 5 = 0)
theorem IMM_out {n j : Nat} (h : IMM n j) : OUT j := by unfold IMM at h; unfold OUT; omega
theorem IMM_ne {n j s : Nat} (h : IMM n j) (hs : SID s) : j ≠ s ∧ j ≠ s + 3 ∧ j ≠ s + 4 := by unfold IMM at h; unfold SID at hs; omega
theorem IMM_n {n n' j : Nat} (h : IMM n j) (hn : n ≤ n') : IMM n' j := by unfold IMM at h ⊢; omega
theorem IMM_lt {n j : Nat} (h : IMM n j) (hn : 224 ≤ n) : j < n := by unfold IMM at h; omega
theorem IMM_1 {n j : Nat} (h : IMM n j) : j ≠ 0 ∧ j ≠ 1 ∧ j ≠ 2 ∧ j ≠ 18 ∧ (j < 59 ∨ 224 ≤ j) := by unfold IMM at h; omega
theorem SID_lt {s : Nat} (h : SID s) : s + 4 < 59 ∧ 3 ≤ s ∧ s ≠ 18 ∧ s + 3 ≠ 18 ∧ s + 4 ≠ 18 := by unfold SID at h; omega
theorem SID_ne {s s' : Nat} (h : SID s) (h' : SID s') (e : s ≠ s') : s ≠ s' + 3 ∧ s ≠ s' + 4 ∧ s + 3 ≠ s' ∧ s + 3 ≠ s' + 3 ∧ s + 3 ≠ s' + 4 ∧ s + 4 ≠ s' ∧ s + 4 ≠ s' + 3 ∧ s + 4 ≠ s' + 4 := by unfold SID at h h'; omega
/-- a row that is never changed -/
def RI1 (f : AH) (n j : Nat) (L : BL) : Prop := ∃ b c, isRw f j b c L ∧ IMM n j ∧ IMM n b
theorem RI1_tr {f f' : AH} {n n' j : Nat} {L : BL} (h : RI1 f n j L) (hF : ∀ i, IMM n i → f' i = f i) (hn : n ≤ n') : RI1 f' n' j L := by
  obtain ⟨b, c, h1, h2, h3⟩ := h
  exact ⟨b, c, rw_tr h1 (hF _ h2) (hF _ h3), IMM_n h2 hn, IMM_n h3 hn⟩
/-- the chain of pairs -/
def PCH (f : AH) (n : Nat) : List (BL × BL) → Option Nat → Prop
  | [], w => w = none
  | p :: r, w => ∃ j jt jd older, w = some j ∧ IMM n j ∧ f j = some (.inr (2, [.ref jt, .ref jd, va_rf older])) ∧ RI1 f n jt p.1 ∧ RI1 f n jd p.2 ∧ PCH f n r older
theorem PCH_tr {f f' : AH} {n n' : Nat} (hF : ∀ i, IMM n i → f' i = f i) (hn : n ≤ n') : ∀ (r : List (BL × BL)) (w : Option Nat), PCH f n r w → PCH f' n' r w := by
  intro r
  induction r with
  | nil => intro w h; exact h
  | cons p r ih =>
    intro w h
    obtain ⟨j, jt, jd, older, h1, h2, h3, h4, h5, h6⟩ := h
    exact ⟨j, jt, jd, older, h1, IMM_n h2 hn, (hF _ h2).trans h3, RI1_tr h4 hF hn, RI1_tr h5 hF hn, ih older h6⟩
def LKA (f : AH) (n lk : Nat) (locks : List BL) : Prop := ∃ g : Nat → Option Nat, f lk = some (.inl (2, 4, .inr (.inr g))) ∧ ∀ l, l < locks.length → ∃ j, g l = some j ∧ RI1 f n j (locks.getD l [])
def TDA (f : AH) (n td : Nat) (told : Nat → Option BL) : Prop := ∃ g : Nat → Option Nat, f td = some (.inl (2, 40, .inr (.inr g))) ∧ ∀ i, i < 40 → (match told i with
  | none => g i = none
  | some t => ∃ j, g i = some j ∧ RI1 f n j t ∧ t.length ≤ 60)
def CFok (cf : CFG) : Prop := (cf.1 = 0 ∨ cf.1 = 1 ∨ cf.1 = 2 ∨ cf.1 = 3) ∧ (cf.2.1 = -1 ∨ cf.2.1 = 0 ∨ cf.2.1 = 1 ∨ cf.2.1 = 2 ∨ cf.2.1 = 3) ∧ (cf.2.2.1 = 0 ∨ cf.2.2.1 = 1) ∧ (1 ≤ cf.2.2.2.1 ∧ cf.2.2.2.1 ≤ 40) ∧ cf.2.2.2.2.length ≤ 4 ∧ ∀ w ∈ cf.2.2.2.2, w.length ≤ 8
def STT (f : AH) (n s : Nat) (S : SST) : Prop := (∃ fr la, f s = some (.inr (7, stV fr S.2.1.1 S.2.1.2.1 S.2.1.2.2.1 (nI S.2.1.2.2.2.1) (nI S.2.1.2.2.2.2.length) la (nI S.2.2.2.length) (s + 3) (s + 4))) ∧ RI1 f n fr S.1 ∧ ∃ full, PCH f n full la ∧ S.2.2.2 = full.take 12) ∧ LKA f n (s + 3) S.2.1.2.2.2.2 ∧ TDA f n (s + 4) S.2.2.1 ∧ CFok S.2.1 ∧ S.1.length ≤ 400
def SSh (f : AH) (s : Nat) : Prop := (∃ fr k i l le lc la pn, f s = some (.inr (7, stV fr k i l le lc la pn (s + 3) (s + 4)))) ∧ (∃ g : Nat → Option Nat, f (s + 3) = some (.inl (2, 4, .inr (.inr g)))) ∧ (∃ g : Nat → Option Nat, f (s + 4) = some (.inl (2, 40, .inr (.inr g))))
theorem STT_sh {f : AH} {n s : Nat} {S : SST} (h : STT f n s S) : SSh f s := by
  obtain ⟨⟨fr, la, h1, -⟩, ⟨g, h2, -⟩, ⟨g', h3, -⟩, -⟩ := h
  exact ⟨⟨_, _, _, _, _, _, _, _, h1⟩, ⟨g, h2⟩, ⟨g', h3⟩⟩
theorem STT_tr {f f' : AH} {n n' s : Nat} {S : SST} (h : STT f n s S) (h0 : f' s = f s) (h3 : f' (s + 3) = f (s + 3)) (h4 : f' (s + 4) = f (s + 4)) (hF : ∀ i, IMM n i → f' i = f i) (hn : n ≤ n') : STT f' n' s S := by
  obtain ⟨⟨fr, la, a1, a2, full, a3, a4⟩, ⟨g, b1, b2⟩, ⟨g', c1, c2⟩, d1, d2⟩ := h
  refine ⟨⟨fr, la, h0.trans a1, RI1_tr a2 hF hn, full, PCH_tr hF hn full la a3, a4⟩, ⟨g, h3.trans b1, fun l hl => ?_⟩, ⟨g', h4.trans c1, fun i hi => ?_⟩, d1, d2⟩
  · obtain ⟨j, e1, e2⟩ := b2 l hl
    exact ⟨j, e1, RI1_tr e2 hF hn⟩
  · have h5 := c2 i hi
    cases e : S.2.2.1 i with
    | none => rw [e] at h5; exact h5
    | some t =>
      rw [e] at h5
      obtain ⟨j, e1, e2, e3⟩ := h5
      exact ⟨j, e1, RI1_tr e2 hF hn, e3⟩
theorem SSh_tr {f f' : AH} {s : Nat} (h : SSh f s) (h0 : f' s = f s) (h3 : f' (s + 3) = f (s + 3)) (h4 : f' (s + 4) = f (s + 4)) : SSh f' s := by
  unfold SSh at h ⊢
  rw [h0, h3, h4]; exact h
theorem STT_lks {f : AH} {n s c0 : Nat} {S : SST} (h : STT f n s S) (hs : SID s) (hc : c0 = 59 ∨ c0 = 115) : LKS f c0 (s + 3) S.2.1.2.2.2.2 := by
  obtain ⟨-, ⟨g, b1, b2⟩, -, d1, -⟩ := h
  have h1 := SID_lt hs
  refine ⟨⟨g, b1, fun l hl => ?_⟩, d1.2.2.2.2.1, by omega⟩
  obtain ⟨j, e1, b, c, e2, e3, e4⟩ := b2 l hl
  have i1 := IMM_1 e3
  have i2 := IMM_1 e4
  exact ⟨j, b, c, e1, e2, by omega, by omega⟩
theorem STT_tld {f : AH} {n s : Nat} {S : SST} (h : STT f n s S) : TLDS f (s + 4) S.2.2.1 := by
  obtain ⟨-, -, ⟨g, b1, b2⟩, -⟩ := h
  refine ⟨g, b1, fun i hi => ?_⟩
  have h5 := b2 i hi
  cases e : S.2.2.1 i with
  | none => rw [e] at h5; exact h5
  | some t =>
    rw [e] at h5
    obtain ⟨j, e1, ⟨b, c, e2, e3, e4⟩, e5⟩ := h5
    exact ⟨j, b, c, e1, e2, IMM_out e3, IMM_out e4, e5⟩
/-! one state out of another -/
theorem f_copy_l104 {n s s' : Nat} {fs fs' : List Value} {g' : Nat → Option Nat} (hs : fs[9]? = some (.ref (s + 4))) (hs' : fs'[9]? = some (.ref (s' + 4))) (hne : s ≠ s + 4 ∧ s' ≠ s + 4 ∧ s' + 4 ≠ s + 4) : ∀ (d i : Nat) (f : AH) (g : Nat → Option Nat), f s = some (.inr (7, fs)) → f s' = some (.inr (7, fs')) → f (s + 4) = some (.inl (2, 40, .inr (.inr g))) → f (s' + 4) = some (.inl (2, 40, .inr (.inr g'))) → i ≤ 40 → (∀ k, k < i → g k = g' k) → PQ (mX7_copyFrom_l104 d s (some s') (nI i) f n) (fun y => ∃ f' g2, y = (0, f', n) ∧ f' (s + 4) = some (.inl (2, 40, .inr (.inr g2))) ∧ (∀ k, k < 40 → g2 k = g' k) ∧ ∀ j, j ≠ s + 4 → f' j = f j) := by
  intro d
  induction d with
  | zero => intro i f g _ _ _ _ _ _; exact pq_none
  | succ d ih =>
    intro i f g h1 h2 h3 h4 hi hg
    unfold mX7_copyFrom_l104
    refine pq_gR h1 hs (pq_sb (pq_gL h3 (by omega) ?_))
    refine pq_le kn_40 (nI_toInt (by omega)) (fun h => ?_) (fun h => ?_)
    · exact pq_ret ⟨f, g, rfl, h3, fun k hk => hg k (by omega), fun _ _ => rfl⟩
    · refine pq_sb (pq_gR h2 hs' (pq_sb (pq_gL h4 (by omega) (pq_f (nI_ge (by omega) (by omega)) (pq_gR h1 hs (pq_gR h2 hs' (pq_sb ?_)))))))
      refine pq_gRA h4 (fun _ => pq_sb (pq_pRA h3 (fun _ => ?_)))
      rw [nI_1, nI_clamp (by omega)]
      refine pq_tail (ih (i + 1) _ (va_up g i (g' i)) ((u_ne hne.1).trans h1) ((u_ne hne.2.1).trans h2) u_eq ((u_ne hne.2.2).trans h4) (by omega) (fun k hk => ?_)) (fun y hy => ?_)
      · by_cases e : k = i
        · rw [e, u_eq]
        · rw [u_ne e]; exact hg k (by omega)
      · obtain ⟨f', g2, rfl, k1, k2, k3⟩ := hy
        exact ⟨f', g2, rfl, k1, k2, fun j hj => (k3 j hj).trans (u_ne hj)⟩
theorem f_copy_l66 {n s s' : Nat} {fs fs' : List Value} {gl' gt' : Nat → Option Nat} (hs8 : fs[8]? = some (.ref (s + 3))) (hs8' : fs'[8]? = some (.ref (s' + 3))) (hs : fs[9]? = some (.ref (s + 4))) (hs' : fs'[9]? = some (.ref (s' + 4))) (hne : s ≠ s' ∧ s ≠ s' + 3 ∧ s ≠ s' + 4 ∧ s' ≠ s + 3 ∧ s' ≠ s + 4 ∧ s' + 3 ≠ s + 3 ∧ s' + 3 ≠ s + 4 ∧ s' + 4 ≠ s + 3 ∧ s' + 4 ≠ s + 4) : ∀ (d i : Nat) (f : AH) (gl gt : Nat → Option Nat), f s = some (.inr (7, fs)) → f s' = some (.inr (7, fs')) → f (s + 3) = some (.inl (2, 4, .inr (.inr gl))) → f (s' + 3) = some (.inl (2, 4, .inr (.inr gl'))) → f (s + 4) = some (.inl (2, 40, .inr (.inr gt))) → f (s' + 4) = some (.inl (2, 40, .inr (.inr gt'))) → i ≤ 4 → (∀ k, k < i → gl k = gl' k) → PQ (mX7_copyFrom_l66 d s (some s') (nI i) f n) (fun y => ∃ f' g2 g3, y = (0, f', n) ∧ f' (s + 3) = some (.inl (2, 4, .inr (.inr g2))) ∧ f' (s + 4) = some (.inl (2, 40, .inr (.inr g3))) ∧ (∀ k, k < 4 → g2 k = gl' k) ∧ (∀ k, k < 40 → g3 k = gt' k) ∧ ∀ j, j ≠ s + 3 → j ≠ s + 4 → f' j = f j) := by
  intro d
  induction d with
  | zero => intro i f gl gt _ _ _ _ _ _ _ _; exact pq_none
  | succ d ih =>
    intro i f gl gt h1 h2 h3 h4 h5 h6 hi hg
    unfold mX7_copyFrom_l66
    refine pq_gR h1 hs8 (pq_sb (pq_gL h3 (by omega) ?_))
    refine pq_le kn_4 (nI_toInt (by omega)) (fun h => ?_) (fun h => ?_)
    · unfold mX7_copyFrom_b102
      refine pq_tail (f_copy_l104 hs hs' (by omega) rFU 0 f gt h1 h2 h5 h6 (by omega) (fun k hk => absurd hk (Nat.not_lt_zero _))) (fun y hy => ?_)
      obtain ⟨f', g3, rfl, k1, k2, k3⟩ := hy
      exact ⟨f', gl, g3, rfl, (k3 _ (by omega)).trans h3, k1, fun k hk => hg k (by omega), k2, fun j _ hj => k3 j hj⟩
    · refine pq_sb (pq_gR h2 hs8' (pq_sb (pq_gL h4 (by omega) (pq_f (nI_ge (by omega) (by omega)) (pq_gR h1 hs8 (pq_gR h2 hs8' (pq_sb ?_)))))))
      refine pq_gRA h4 (fun _ => pq_sb (pq_pRA h3 (fun _ => ?_)))
      rw [nI_1, nI_clamp (by omega)]
      refine pq_tail (ih (i + 1) _ (va_up gl i (gl' i)) gt ((u_ne (by omega)).trans h1) ((u_ne (by omega)).trans h2) u_eq ((u_ne (by omega)).trans h4) ((u_ne (by omega)).trans h5) ((u_ne (by omega)).trans h6) (by omega) (fun k hk => ?_)) (fun y hy => ?_)
      · by_cases e : k = i
        · rw [e, u_eq]
        · rw [u_ne e]; exact hg k (by omega)
      · obtain ⟨f', g2, g3, rfl, k1, k2, k3, k4, k5⟩ := hy
        exact ⟨f', g2, g3, rfl, k1, k2, k3, k4, fun j x1 x2 => (k5 j x1 x2).trans (u_ne x1)⟩
theorem f_copy {f : AH} {n s s' : Nat} {S : SST} (hs : SID s) (hs' : SID s') (hne : s ≠ s') (hS : SSh f s) (hS' : STT f n s' S) : PQ (mX7_copyFrom s (some s') f n) (fun y => ∃ f', y = (0, f', n) ∧ STT f' n s S ∧ ∀ j, j ≠ s → j ≠ s + 3 → j ≠ s + 4 → f' j = f j) := by
  have hd := SID_ne hs hs' hne
  obtain ⟨⟨fr0, k0, i0, l0, le0, lc0, la0, pn0, h1⟩, ⟨gl, h2⟩, ⟨gt, h3⟩⟩ := hS
  obtain ⟨⟨fr, la, a1, a2, full, a3, a4⟩, ⟨gl', b1, b2⟩, ⟨gt', c1, c2⟩, d1, d2⟩ := id hS'
  have a1' : ∀ X, va_up f s X s' = some (.inr (7, stV fr S.2.1.1 S.2.1.2.1 S.2.1.2.2.1 (nI S.2.1.2.2.2.1) (nI S.2.1.2.2.2.2.length) la (nI S.2.2.2.length) (s' + 3) (s' + 4))) := fun X => (u_ne (Ne.symm hne)).trans a1
  unfold mX7_copyFrom
  refine pq_sb (pq_gR a1 rfl ?_)
  refine pq_pO h1 rfl (pq_gI (a1' _) rfl (pq_pU (stV fr S.2.1.1 i0 l0 le0 lc0 la0 pn0 (s + 3) (s + 4)) rfl rfl (pq_gI (a1' _) rfl (pq_pU (stV fr S.2.1.1 S.2.1.2.1 l0 le0 lc0 la0 pn0 (s + 3) (s + 4)) rfl rfl (pq_gI (a1' _) rfl (pq_ck (pq_pU (stV fr S.2.1.1 S.2.1.2.1 S.2.1.2.2.1 le0 lc0 la0 pn0 (s + 3) (s + 4)) rfl rfl (pq_gI (a1' _) rfl (pq_pU (stV fr S.2.1.1 S.2.1.2.1 S.2.1.2.2.1 (nI S.2.1.2.2.2.1) lc0 la0 pn0 (s + 3) (s + 4)) rfl rfl (pq_gI (a1' _) rfl (pq_pU (stV fr S.2.1.1 S.2.1.2.1 S.2.1.2.2.1 (nI S.2.1.2.2.2.1) (nI S.2.1.2.2.2.2.length) la0 pn0 (s + 3) (s + 4)) rfl rfl (pq_gRw (w := la) (a1' _) rfl (pq_pU (stV fr S.2.1.1 S.2.1.2.1 S.2.1.2.2.1 (nI S.2.1.2.2.2.1) (nI S.2.1.2.2.2.2.length) la pn0 (s + 3) (s + 4)) rfl rfl (pq_gI (a1' _) rfl (pq_pU (stV fr S.2.1.1 S.2.1.2.1 S.2.1.2.2.1 (nI S.2.1.2.2.2.1) (nI S.2.1.2.2.2.2.length) la (nI S.2.2.2.length) (s + 3) (s + 4)) rfl rfl ?_)))))))))))))))
  refine pq_tail (f_copy_l66 (fs' := stV fr S.2.1.1 S.2.1.2.1 S.2.1.2.2.1 (nI S.2.1.2.2.2.1) (nI S.2.1.2.2.2.2.length) la (nI S.2.2.2.length) (s' + 3) (s' + 4)) rfl rfl rfl rfl (by omega) rFU 0 _ gl gt u_eq (a1' _) ((u_ne (by omega)).trans h2) ((u_ne (by omega)).trans b1) ((u_ne (by omega)).trans h3) ((u_ne (by omega)).trans c1) (by omega) (fun k hk => absurd hk (Nat.not_lt_zero _))) (fun y hy => ?_)
  obtain ⟨f', g2, g3, rfl, k1, k2, k3, k4, k5⟩ := hy
  have hF : ∀ j, j ≠ s → j ≠ s + 3 → j ≠ s + 4 → f' j = f j := fun j x0 x1 x2 => (k5 j x1 x2).trans (u_ne x0)
  have hI : ∀ j, IMM n j → f' j = f j := fun j hj => by
    have := IMM_ne hj hs
    exact hF j this.1 this.2.1 this.2.2
  refine ⟨f', rfl, ⟨⟨fr, la, (k5 s (by omega) (by omega)).trans u_eq, RI1_tr a2 hI (Nat.le_refl _), full, PCH_tr hI (Nat.le_refl _) full la a3, a4⟩, ⟨g2, k1, fun l hl => ?_⟩, ⟨g3, k2, fun i hi => ?_⟩, d1, d2⟩, hF⟩
  · obtain ⟨j, e1, e2⟩ := b2 l hl
    have hl4 := d1.2.2.2.2.1
    exact ⟨j, by rw [k3 l (by omega)]; exact e1, RI1_tr e2 hI (Nat.le_refl _)⟩
  · have h5 := c2 i hi
    cases e : S.2.2.1 i with
    | none => rw [e] at h5; show g3 i = none; rw [k4 i hi]; exact h5
    | some t =>
      rw [e] at h5
      obtain ⟨j, e1, e2, e3⟩ := h5
      exact ⟨j, by rw [k4 i hi]; exact e1, RI1_tr e2 hI (Nat.le_refl _), e3⟩
