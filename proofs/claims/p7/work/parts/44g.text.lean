/-! the acts of a text -/
def LK (e : Nat) (σ s : RS9) : Prop := s.2 = σ.2 ∧ (∀ k, k ≠ 11 → s.1 k = σ.1 k) ∧ ∃ a, a ≤ e ∧ s.1 11 = nI a
def LN (e : Nat) (σ s : RS9) : Prop := s.2 = σ.2 ∧ (∀ k, k ≠ 11 → k ≠ 12 → s.1 k = σ.1 k) ∧ ∃ a, a ≤ e ∧ s.1 11 = nI a
theorem lk_ln {e : Nat} {σ s : RS9} (h : LK e σ s) : LN e σ s := ⟨h.1, fun k a _ => h.2.1 k a, h.2.2⟩
theorem lk_tr {e : Nat} {a b c : RS9} (h1 : LK e a b) (h2 : LK e b c) : LK e a c := ⟨h2.1.trans h1.1, fun k hk => (h2.2.1 k hk).trans (h1.2.1 k hk), h2.2.2⟩
theorem ln_tr {e : Nat} {a b c : RS9} (h1 : LN e a b) (h2 : LN e b c) : LN e a c := ⟨h2.1.trans h1.1, fun k a b => (h2.2.1 k a b).trans (h1.2.1 k a b), h2.2.2⟩
theorem m1_nI {b : Nat} (hb : b ≤ 1000) : nI b ≠ (-1 : Int32) := fun e => by
  have : (nI b).toInt = (-1 : Int32).toInt := congrArg _ e
  rw [nI_toInt (by omega), kt_m1] at this
  omega
section TEXT
variable {σ : RS9} {e : Nat}
theorem a_here (he : e ≤ 400) (h10 : σ.1 10 = nI e) (h11 : ∃ a, a ≤ e ∧ σ.1 11 = nI a) : P1 (mX9_here σ) (fun v s => LK e σ s ∧ v = s.1 11) := by
  have ee : (nI e).toInt = (e : Int) := nI_toInt (by omega)
  have key : ∀ (d a : Nat) (s : RS9), s.2 = σ.2 → (∀ k, k ≠ 11 → s.1 k = σ.1 k) → s.1 11 = nI a → a ≤ e → 1000 < a + d → P1 (mX9_here_l0 d s) (fun v s => LK e σ s ∧ v = s.1 11) := by
    intro d
    induction d with
    | zero => intro a s _ _ _ hk hm; exfalso; omega
    | succ d ih =>
      intro a s h1 h2 h3 hk hm
      have ea : (nI a).toInt = (a : Int) := nI_toInt (by omega)
      have fin : P1 (mX9_here_b38 s) (fun v s => LK e σ s ∧ v = s.1 11) := q1_ret ⟨⟨h1, h2, a, hk, h3⟩, rfl⟩
      unfold mX9_here_l0
      refine q1_le (a := (e : Int)) (b := (a : Int)) (by rw [h2 10 (by decide), h10]; exact ee) (by rw [h3]; exact ea) (fun q => fin) (fun q => ?_)
      rw [h3, nI_1]
      refine q1_ck (inb_nI (n := 400) (by omega) (by decide)) (q1_eq (fun _ => ?_) (fun _ => fin))
      exact ih (a + 1) _ h1 (fun k hk => (sf_ne hk).trans (h2 k hk)) sf_eq (by omega) (by omega)
  obtain ⟨a, ha, h3⟩ := h11
  unfold mX9_here
  exact key rFU a σ rfl (fun _ _ => rfl) h3 ha (by unfold rFU; omega)
theorem a_wrong {b : Nat} (hb : b ≤ 400) : P1 (mX9_wrong (nI b) σ) (fun v s => s.2 = σ.2 ∧ (∀ k, k ≠ 12 → s.1 k = σ.1 k) ∧ s.1 12 ≠ -1) := by
  unfold mX9_wrong
  refine q1_eq (fun q => ?_) (fun q => ?_)
  · exact q1_ret ⟨rfl, fun k hk => sf_ne hk, by rw [sf_eq]; exact m1_nI (by omega)⟩
  · exact q1_ret ⟨rfl, fun _ _ => rfl, q⟩
theorem a_wordEnd (he : e ≤ 400) (h10 : σ.1 10 = nI e) (h11 : ∃ a, a ≤ e ∧ σ.1 11 = nI a) : P1 (mX9_wordEnd σ) (fun v s => LK e σ s ∧ ∃ a w, s.1 11 = nI a ∧ v = nI w ∧ a ≤ w ∧ w ≤ e) := by
  have ee : (nI e).toInt = (e : Int) := nI_toInt (by omega)
  unfold mX9_wordEnd
  refine q1_call (a_here he h10 h11) (fun v s hs => ?_)
  obtain ⟨hL, hv⟩ := hs
  obtain ⟨a, ha, h3⟩ := hL.2.2
  dsimp only
  rw [hv, h3]
  have key : ∀ (d w : Nat), a ≤ w → w ≤ e → 1000 < w + d → P1 (mX9_wordEnd_l5 d (nI w) s) (fun v s => LK e σ s ∧ ∃ a w, s.1 11 = nI a ∧ v = nI w ∧ a ≤ w ∧ w ≤ e) := by
    intro d
    induction d with
    | zero => intro w _ hk hm; exfalso; omega
    | succ d ih =>
      intro w haw hk hm
      have ew : (nI w).toInt = (w : Int) := nI_toInt (by omega)
      have fin : P1 (mX9_wordEnd_b35 (nI w) s) (fun v s => LK e σ s ∧ ∃ a w, s.1 11 = nI a ∧ v = nI w ∧ a ≤ w ∧ w ≤ e) := q1_ret ⟨hL, a, w, h3, rfl, haw, hk⟩
      unfold mX9_wordEnd_l5
      refine q1_le (a := (e : Int)) (by rw [hL.2.1 10 (by decide), h10]; exact ee) ew (fun q => fin) (fun q => ?_)
      refine q1_ck (inb_nI (n := 400) (by omega) (by decide)) (q1_ro o_isIn (fun y _ => ?_))
      dsimp only
      refine q1_eq (fun _ => fin) (fun _ => ?_)
      rw [nI_1]
      exact ih (w + 1) (by omega) (by omega) (by omega)
  exact key rFU a (Nat.le_refl _) ha (by unfold rFU; omega)
theorem sL_b (t : Nat) : sL9.getD t 0 ≤ 7 := by
  by_cases h : t < 15
  · revert t; decide
  · rw [List.getD_eq_getElem?_getD, List.getElem?_eq_none (by show 15 ≤ t; omega)]; exact Nat.zero_le _
theorem a_has (t : Nat) (he : e ≤ 400) (h10 : σ.1 10 = nI e) (h11 : ∃ a, a ≤ e ∧ σ.1 11 = nI a) : P1 (mX9_has t σ) (fun v s => LK e σ s) := by
  unfold mX9_has
  refine q1_call (a_wordEnd he h10 h11) (fun v s hs => ?_)
  obtain ⟨hL, a, w, h3, hv, haw, hwe⟩ := hs
  dsimp only
  have hb := sL_b t
  refine q1_eq (fun _ => ?_) (fun _ => q1_ck rfl (q1_ret hL))
  refine q1_eq (fun q => ?_) (fun _ => q1_ck rfl (q1_ret hL))
  have eq : w - a = sL9.getD t 0 := by
    have := congrArg Int32.toInt q
    rw [hv, h3, i_sub (nI_toInt (by omega)) (nI_toInt (by omega)) (by omega), strL, nI_toInt (by omega)] at this
    omega
  rw [hv]
  have key : ∀ (d k : Nat), k ≤ sL9.getD t 0 → 100 < k + d → P1 (mX9_has_l30 d t (nI w) (nI k) s) (fun v s => LK e σ s) := by
    intro d
    induction d with
    | zero => intro k hk hm; exfalso; omega
    | succ d ih =>
      intro k hk hm
      unfold mX9_has_l30
      refine q1_le (show (strL t).toInt = ((sL9.getD t 0 : Nat) : Int) from nI_toInt (by omega)) (nI_toInt (by omega)) (fun q => ?_) (fun q => ?_)
      · exact q1_ck rfl (q1_ret ⟨hL.1, fun z hz => (sf_ne hz).trans (hL.2.1 z hz), w, hwe, sf_eq⟩)
      · rw [h3, nI_add, nI_1]
        refine q1_ck (inb_nI (n := 400) (by omega) (by decide)) (q1_ck (inb_nI (by omega) (by omega)) ?_)
        exact q1_eq (fun _ => ih (k + 1) (by omega) (by omega)) (fun _ => q1_ck rfl (q1_ret hL))
  exact key rFU 0 (by omega) (by unfold rFU; omega)
theorem a_number {lo hi : Int32} (he : e ≤ 400) (h10 : σ.1 10 = nI e) (h11 : ∃ a, a ≤ e ∧ σ.1 11 = nI a) : P1 (mX9_number lo hi σ) (fun v s => LN e σ s ∧ (s.1 12 = -1 → σ.1 12 = -1 ∧ lo.toInt ≤ v.toInt ∧ v.toInt ≤ hi.toInt)) := by
  have ee : (nI e).toInt = (e : Int) := nI_toInt (by omega)
  unfold mX9_number
  refine q1_eq (fun q12 => ?_) (fun q12 => q1_ret ⟨⟨rfl, fun _ _ _ => rfl, h11⟩, fun h => absurd h q12⟩)
  refine q1_call (a_here he h10 h11) (fun v s hs => ?_)
  obtain ⟨hL, hv⟩ := hs
  obtain ⟨b, hb, h3⟩ := hL.2.2
  dsimp only
  rw [hv, h3]
  have b121 : ∀ (v4 : Int32) (u : RS9), LK e σ u → P1 (mX9_number_b121 (nI b) v4 u) (fun v s => LN e σ s ∧ (s.1 12 = -1 → σ.1 12 = -1 ∧ lo.toInt ≤ v.toInt ∧ v.toInt ≤ hi.toInt)) := fun v4 u hu => by
    unfold mX9_number_b121
    refine q1_call (a_wrong (by omega)) (fun w t ht => ?_)
    exact q1_ret ⟨⟨ht.1.trans hu.1, fun k k1 k2 => (ht.2.1 k k2).trans (hu.2.1 k k1), by rw [ht.2.1 11 (by decide)]; exact hu.2.2⟩, fun h => absurd h ht.2.2⟩
  have b91 : ∀ (v4 : Int32) (u : RS9), LK e σ u → P1 (mX9_number_b91 lo hi (nI b) v4 u) (fun v s => LN e σ s ∧ (s.1 12 = -1 → σ.1 12 = -1 ∧ lo.toInt ≤ v.toInt ∧ v.toInt ≤ hi.toInt)) := fun v4 u hu => by
    unfold mX9_number_b91
    refine q1_eq (fun _ => b121 _ _ hu) (fun _ => ?_)
    refine q1_lt rfl rfl (fun _ => b121 _ _ hu) (fun _ => ?_)
    refine q1_lt rfl rfl (fun _ => b121 _ _ hu) (fun q1 => ?_)
    refine q1_le rfl rfl (fun q2 => ?_) (fun _ => b121 _ _ hu)
    exact q1_ret ⟨lk_ln hu, fun _ => ⟨q12, q1, q2⟩⟩
  have key : ∀ (d a : Nat) (v4 : Int32) (u : RS9), LK e σ u → u.1 11 = nI a → a ≤ e → 1000 < a + d → P1 (mX9_number_l18 d lo hi (nI b) v4 u) (fun v s => LN e σ s ∧ (s.1 12 = -1 → σ.1 12 = -1 ∧ lo.toInt ≤ v.toInt ∧ v.toInt ≤ hi.toInt)) := by
    intro d
    induction d with
    | zero => intro a v4 u _ _ hk hm; exfalso; omega
    | succ d ih =>
      intro a v4 u hu h4 hk hm
      have ea : (nI a).toInt = (a : Int) := nI_toInt (by omega)
      unfold mX9_number_l18
      refine q1_le (a := (e : Int)) (b := (a : Int)) (by rw [hu.2.1 10 (by decide), h10]; exact ee) (by rw [h4]; exact ea) (fun q => b91 _ _ hu) (fun q => ?_)
      refine q1_ck (by rw [h4]; exact inb_nI (n := 400) (by omega) (by decide)) (q1_ro o_isIn (fun y _ => ?_))
      dsimp only
      refine q1_eq (fun _ => b91 _ _ hu) (fun _ => ?_)
      refine q1_lt rfl rfl (fun _ => b91 _ _ hu) (fun _ => ?_)
      refine q1_ck (by rw [h4]; exact inb_nI (n := 400) (by omega) (by decide)) ?_
      refine ih (a + 1) _ _ ⟨hu.1, fun k hk => (sf_ne hk).trans (hu.2.1 k hk), a + 1, by omega, ?_⟩ ?_ (by omega) (by omega)
      · rw [sf_eq, h4, nI_1]
      · rw [sf_eq, h4, nI_1]
  exact key rFU b 0 s hL h3 hb (by unfold rFU; omega)
/-! what stands in a text's acts -/
def TJ (e : Nat) (σ0 σ : RS9) : Prop := (∃ a, a ≤ e ∧ σ.1 11 = nI a) ∧ σ.1 10 = nI e ∧ (∀ k, k = 2 ∨ k = 3 ∨ k = 4 ∨ k = 8 → σ.2 k = σ0.2 k) ∧ ∀ k, k = 5 ∨ k = 6 ∨ k = 7 ∨ k = 9 → σ.1 k = σ0.1 k
def TI (e : Nat) (σ0 σ : RS9) : Prop := TJ e σ0 σ ∧ (σ.1 12 = -1 → CORE σ)
def TQ (e : Nat) (σ0 : RS9) (w : Int32) (s : RS9) : Prop := TJ e σ0 s ∧ (s.1 12 = -1 → w ≤ 0 → CORE s)
theorem tj_ln {s σ0 : RS9} (h : TJ e σ0 σ) (hL : LN e σ s) : TJ e σ0 s := ⟨hL.2.2, (hL.2.1 10 (by decide) (by decide)).trans h.2.1, fun k hk => by rw [hL.1]; exact h.2.2.1 k hk, fun k hk => (hL.2.1 k (by omega) (by omega)).trans (h.2.2.2 k hk)⟩
theorem tj_fa {s σ0 : RS9} (h : TJ e σ0 σ) (hL : FA σ s) : TJ e σ0 s := ⟨by rw [hL.2 11 (by omega)]; exact h.1, (hL.2 10 (by omega)).trans h.2.1, fun k hk => (hL.1 k hk).trans (h.2.2.1 k hk), fun k hk => (hL.2 k (by omega)).trans (h.2.2.2 k hk)⟩
theorem core_ln {s : RS9} (h : CORE σ) (hL : LN e σ s) : CORE s := core_fr h (by rw [hL.1]) (fun _ _ _ => by rw [hL.1]) (hL.2.1 33 (by decide) (by decide)) (hL.2.1 45 (by decide) (by decide))
theorem ti_lk {s σ0 : RS9} (h : TI e σ0 σ) (hL : LK e σ s) : TI e σ0 s := ⟨tj_ln h.1 (lk_ln hL), fun q => core_ln (h.2 ((hL.2.1 12 (by decide)).symm.trans q)) (lk_ln hL)⟩
theorem aq_tq {s σ0 : RS9} {w : Int32} (h : TJ e σ0 σ) (hL : AQ σ w s) : TQ e σ0 w s := ⟨tj_fa h hL.2, fun _ q => hL.1 q⟩
theorem tq_0 {s σ0 : RS9} {w : Int32} (h : TJ e σ0 s) (h12 : s.1 12 ≠ -1) : TQ e σ0 w s := ⟨h, fun q => absurd q h12⟩
variable {σ0 : RS9}
theorem a_ruleText {k : Nat} {lo hi : Int32} (he : e ≤ 400) (h : TI e σ0 σ) (hk : 1 ≤ k ∧ k ≤ 4) (h4 : k = 4 → 1 ≤ lo.toInt) : P1 (mX9_ruleText (nI k) lo hi σ) (TQ e σ0) := by
  unfold mX9_ruleText
  refine q1_call (a_number he h.1.2.1 h.1.1) (fun v s hs => ?_)
  dsimp only
  have hJ := tj_ln h.1 hs.1
  refine q1_eq (fun q => ?_) (fun q => q1_ret (tq_0 hJ q))
  obtain ⟨g1, g2, g3⟩ := hs.2 q
  refine q1_call (a_rules (core_ln (h.2 g1) hs.1).1 hk (fun e => by have := h4 e; omega)) (fun w u hu => ?_)
  exact q1_ret ⟨tj_fa hJ hu.2.2, fun _ _ => hu.2.1⟩
theorem a_lockText (he : e ≤ 400) (h : TI e σ0 σ) : P1 (mX9_lockText σ) (TQ e σ0) := by
  unfold mX9_lockText
  refine q1_call (a_wordEnd he h.1.2.1 h.1.1) (fun v s hs => ?_)
  obtain ⟨hL, a, w, h3, hv, haw, hwe⟩ := hs
  dsimp only
  have hT := ti_lk h hL
  have es : v - s.1 11 = nI (w - a) := by
    apply Int32.toInt_inj.mp
    rw [hv, h3, i_sub (nI_toInt (by omega)) (nI_toInt (by omega)) (by omega), nI_toInt (by omega)]
    omega
  rw [es]
  refine q1_ro o_isIn (fun y hy => ?_)
  dsimp only
  refine q1_eq (fun _ => ?_) (fun q => ?_)
  · rw [h3]
    refine q1_call (a_wrong (by omega)) (fun w2 u hu => ?_)
    unfold mX9_lockText_b30
    rw [if_neg hu.2.2]
    refine q1_ret (tq_0 (tj_ln hT.1 ⟨hu.1, fun k _ b => hu.2.1 k b, ?_⟩) hu.2.2)
    rw [hu.2.1 11 (by decide)]; exact hT.1.1
  · have hb := hy.2 q
    rw [nI_toInt (by omega), kt_1, show (8 : Int32).toInt = 8 by decide] at hb
    unfold mX9_lockText_b30
    refine q1_eq (fun q12 => ?_) (fun q12 => q1_ret (tq_0 hT.1 q12))
    rw [h3, hv]
    have hL2 : LK e s (rSf s 11 (nI w)) := ⟨rfl, fun k hk => sf_ne hk, w, hwe, sf_eq⟩
    refine q1_call (a_lock0 (core_ln (hT.2 q12) (lk_ln hL2)) (by omega) (by omega)) (fun w2 u hu => ?_)
    exact q1_ret (aq_tq (ti_lk hT hL2).1 hu)
theorem a_swapText (he : e ≤ 400) (h : TI e σ0 σ) : P1 (mX9_swapText σ) (TQ e σ0) := by
  unfold mX9_swapText
  refine q1_call (a_number he h.1.2.1 h.1.1) (fun v s hs => ?_)
  dsimp only
  have hJ := tj_ln h.1 hs.1
  refine q1_call (a_number he hJ.2.1 hJ.1) (fun v2 s2 hs2 => ?_)
  dsimp only
  have hJ2 := tj_ln hJ hs2.1
  refine q1_eq (fun q => ?_) (fun q => q1_ret (tq_0 hJ2 q))
  refine q1_call (a_swap0 (core_ln (core_ln (h.2 (hs.2 (hs2.2 q).1).1) hs.1) hs2.1)) (fun w u hu => ?_)
  exact q1_ret (aq_tq hJ2 hu)
theorem a_pieceText {x : Int32} (he : e ≤ 400) (h : TI e σ0 σ) : P1 (mX9_pieceText x σ) (TQ e σ0) := by
  unfold mX9_pieceText
  refine q1_call (a_number he h.1.2.1 h.1.1) (fun v s hs => ?_)
  dsimp only
  have hJ := tj_ln h.1 hs.1
  refine q1_eq (fun q => ?_) (fun q => q1_ret (tq_0 hJ q))
  have hC := core_ln (h.2 (hs.2 q).1) hs.1
  refine q1_eq (fun _ => ?_) (fun _ => ?_)
  · exact q1_call (a_spread0 hC) (fun w u hu => q1_ret (aq_tq hJ hu))
  · exact q1_call (a_free0 hC) (fun w u hu => q1_ret (aq_tq hJ hu))
theorem a_b246 {b : Nat} {w : Int32} (hb : b ≤ 400) (h : TQ e σ0 w σ) : P1 (mX9_act_b246 (nI b) w σ) (fun _ s => TI e σ0 s) := by
  unfold mX9_act_b246
  refine q1_eq (fun q => ?_) (fun q => q1_ret ⟨h.1, fun e => absurd e q⟩)
  by_cases hw : w ≤ (0 : Int32)
  · rw [if_pos hw]; exact q1_ret ⟨h.1, fun _ => h.2 q hw⟩
  · rw [if_neg hw]
    refine q1_call (a_wrong hb) (fun w2 u hu => ?_)
    refine q1_ret ⟨tj_ln h.1 ⟨hu.1, fun k _ b => hu.2.1 k b, ?_⟩, fun e => absurd e hu.2.2⟩
    rw [hu.2.1 11 (by decide)]; exact h.1.1
/-- one word of an act: it is read, or it isn't there -/
theorem q1_has {t : Nat} {β : Type} {Q : β → RS9 → Prop} {k : Int32 × RS9 → Option (β × RS9)} (he : e ≤ 400) (h : TI e σ0 σ ∧ σ.1 12 = -1) (hk : ∀ v s, (TI e σ0 s ∧ s.1 12 = -1) → P1 (k (v, s)) Q) : P1 ((mX9_has t σ).bind k) Q :=
  q1_call (a_has t he h.1.1.2.1 h.1.1.1) (fun v s hs => hk v s ⟨ti_lk h.1 hs, (hs.2.1 12 (by decide)).trans h.2⟩)
theorem q1_b246 {b : Nat} (hb : b ≤ 400) {o : Option (Int32 × RS9)} (ho : P1 o (TQ e σ0)) : P1 (o.bind fun r => mX9_act_b246 (nI b) r.1 r.2) (fun _ s => TI e σ0 s) := q1_call ho (fun _ _ hw => a_b246 hb hw)
theorem tq_rules {s : RS9} {k : Nat} {v : Int32} (h : TI e σ0 s ∧ s.1 12 = -1) (hk : 1 ≤ k ∧ k ≤ 3) : P1 (mX9_rules (nI k) v s) (TQ e σ0) := q1_tail (a_rules (h.1.2 h.2).1 (by omega) (fun e => by omega)) (fun w u hu => ⟨tj_fa h.1.1 hu.2.2, fun _ _ => hu.2.1⟩)
theorem a_act (he : e ≤ 400) (h : TI e σ0 σ) (h12 : σ.1 12 = -1) : P1 (mX9_act σ) (fun _ s => TI e σ0 s) := by
  unfold mX9_act
  refine q1_call (a_here he h.1.2.1 h.1.1) (fun v s hs => ?_)
  obtain ⟨hL, hv⟩ := hs
  obtain ⟨b, hb, h3⟩ := hL.2.2
  have hb4 : b ≤ 400 := by omega
  dsimp only
  rw [hv, h3]
  have H : TI e σ0 s ∧ s.1 12 = -1 := ⟨ti_lk h hL, (hL.2.1 12 (by decide)).trans h12⟩
  clear hL h3 hv
  refine q1_has he H (fun _ s3 H3 => ?_)
  dsimp only
  refine q1_eq (fun _ => ?_) (fun _ => q1_b246 hb4 (a_ruleText (k := 1) he H3.1 (by omega) (fun e => by omega)))
  refine q1_has he H3 (fun _ s4 H4 => ?_)
  dsimp only
  refine q1_eq (fun _ => ?_) (fun _ => q1_b246 hb4 (a_ruleText (k := 2) he H4.1 (by omega) (fun e => by omega)))
  refine q1_has he H4 (fun _ s5 H5 => ?_)
  dsimp only
  refine q1_eq (fun _ => ?_) (fun _ => q1_b246 hb4 (tq_rules (k := 2) H5 (by omega)))
  refine q1_has he H5 (fun _ s6 H6 => ?_)
  dsimp only
  refine q1_eq (fun _ => ?_) (fun _ => q1_b246 hb4 (tq_rules (k := 3) H6 (by omega)))
  refine q1_has he H6 (fun _ s7 H7 => ?_)
  dsimp only
  refine q1_eq (fun _ => ?_) (fun _ => q1_b246 hb4 (tq_rules (k := 3) H7 (by omega)))
  refine q1_has he H7 (fun _ s8 H8 => ?_)
  dsimp only
  refine q1_eq (fun _ => ?_) (fun _ => q1_b246 hb4 (a_ruleText (k := 4) he H8.1 (by omega) (fun _ => by decide)))
  refine q1_has he H8 (fun _ s9 H9 => ?_)
  dsimp only
  refine q1_eq (fun _ => ?_) (fun _ => q1_b246 hb4 (a_lockText he H9.1))
  refine q1_has he H9 (fun _ s10 H10 => ?_)
  dsimp only
  refine q1_eq (fun _ => ?_) (fun _ => q1_b246 hb4 (q1_tail (a_unlocks (H10.1.2 H10.2).1) (fun w u hu => ⟨tj_fa H10.1.1 hu.2.2, fun _ _ => hu.2.1⟩)))
  refine q1_has he H10 (fun _ s11 H11 => ?_)
  dsimp only
  refine q1_eq (fun _ => ?_) (fun _ => q1_b246 hb4 (a_pieceText he H11.1))
  refine q1_has he H11 (fun _ s12 H12 => ?_)
  dsimp only
  refine q1_eq (fun _ => ?_) (fun _ => q1_b246 hb4 (a_pieceText he H12.1))
  refine q1_has he H12 (fun _ s13 H13 => ?_)
  dsimp only
  refine q1_eq (fun _ => ?_) (fun _ => q1_b246 hb4 (a_swapText he H13.1))
  refine q1_has he H13 (fun _ s14 H14 => ?_)
  dsimp only
  refine q1_eq (fun _ => ?_) (fun _ => q1_b246 hb4 (q1_tail (a_wipe0 (H14.1.2 H14.2)) (fun w u hu => aq_tq H14.1.1 hu)))
  refine q1_call (a_wrong hb4) (fun w u hu => ?_)
  refine a_b246 hb4 (tq_0 (tj_ln H14.1.1 ⟨hu.1, fun k _ b => hu.2.1 k b, ?_⟩) hu.2.2)
  rw [hu.2.1 11 (by decide)]; exact H14.1.1.1
theorem ur_acts (h : RI σ) : P1 (mX9_acts σ) (RP 0) := by
  obtain ⟨e, he6, hte⟩ := nI_back h.2.1.1 (by have := h.2.1.2; omega)
  have he : e ≤ 400 := by have := h.2.1.2; rw [hte, nI_toInt (by omega)] at this; omega
  have ee : (nI e).toInt = (e : Int) := nI_toInt (by omega)
  unfold mX9_acts
  refine q1_call a_putsAside (fun v s0 hs0 => ?_)
  obtain ⟨r0, f0, g0⟩ := hs0
  dsimp only
  have f : ∀ k, k ≠ 9 → k ≠ 10 → k ≠ 11 → k ≠ 12 → s0.1 k = σ.1 k := fun k k9 k10 k11 k12 => by
    rw [f0, sf_ne k11, sf_ne k9, sf_ne k10, sf_ne k12]
  have hG : GOOD (s0.2 2) := good_eq (good_m h.1) g0
  have hC0 : CORE s0 := core_fr h.1 (r0 1 (by decide)) (fun k a b => r0 k (by omega)) (f 33 (by decide) (by decide) (by decide) (by decide)) (f 45 (by decide) (by decide) (by decide) (by decide))
  have h9 : s0.1 9 = 0 := by rw [f0, sf_ne (by decide), sf_eq]
  have h11 : s0.1 11 = nI 0 := by rw [f0, sf_eq]; rfl
  have h10 : s0.1 10 = nI e := by rw [f0, sf_ne (by decide), sf_ne (by decide), sf_eq]; exact hte
  have h12 : s0.1 12 = -1 := by rw [f0, sf_ne (by decide), sf_ne (by decide), sf_ne (by decide), sf_eq]
  have hU : UN s0 := un_fr h.2.2.1 (r0 4 (by decide)) (f 5 (by decide) (by decide) (by decide) (by decide))
  have hI : IM s0 := im_fr h.2.2.2 (r0 3 (by decide)) (f 6 (by decide) (by decide) (by decide) (by decide))
  have T0 : TI e s0 s0 := ⟨⟨⟨0, by omega, h11⟩, h10, fun _ _ => rfl, fun _ _ => rfl⟩, fun _ => hC0⟩
  -- the end
  have b191 : ∀ (v1 s1 s2 : Int32) (s : RS9), TI e s0 s → s.1 12 = -1 → P1 (mX9_acts_b191 v1 s1 (rSf s 0 s2)) (RP 0) := fun v1 s1 s2 s hT q => by
    have hh : ∀ k, k ≠ 0 → k ≠ 7 → k ≠ 5 → (rSf (rSf (rSf s 0 s2) 7 s1) 5 0).1 k = s.1 k := fun k a b c => (sf_ne c).trans ((sf_ne b).trans (sf_ne a))
    have g9 : (rSf (rSf (rSf s 0 s2) 7 s1) 5 0).1 9 = 0 := (hh 9 (by decide) (by decide) (by decide)).trans ((hT.1.2.2.2 9 (by omega)).trans h9)
    exact q1_ret ⟨⟨core_fr (hT.2 q) rfl (fun _ _ _ => rfl) (hh 33 (by decide) (by decide) (by decide)) (hh 45 (by decide) (by decide) (by decide)), by rw [g9]; decide, ⟨0, sf_eq, by omega, fun s hs => absurd hs (by omega)⟩, im_fr hI (hT.1.2.2.1 3 (by omega)) ((hh 6 (by decide) (by decide) (by decide)).trans (hT.1.2.2.2 6 (by omega)))⟩, g9⟩
  have b214 : ∀ (s1 s2 : Int32) (s : RS9), TI e s0 s → P1 (mX9_acts_b214 s1 (rSf s 0 s2)) (RP 0) := fun s1 s2 s hT => by
    have hh : ∀ k, k ≠ 0 → k ≠ 7 → (rSf (rSf s 0 s2) 7 s1).1 k = s.1 k := fun k a b => (sf_ne b).trans (sf_ne a)
    unfold mX9_acts_b214
    refine q1_call (a_putsBack (by rw [show (rSf (rSf s 0 s2) 7 s1).2 2 = s.2 2 from rfl, hT.1.2.2.1 2 (by omega)]; exact hG)) (fun w u hu => ?_)
    have g9 : u.1 9 = 0 := (hu.2.2 9 (by decide)).trans ((hh 9 (by decide) (by decide)).trans ((hT.1.2.2.2 9 (by omega)).trans h9))
    exact q1_ret ⟨⟨hu.1, by rw [g9]; decide, un_fr hU ((hu.2.1 4 (by decide) (by decide)).trans (hT.1.2.2.1 4 (by omega))) ((hu.2.2 5 (by decide)).trans ((hh 5 (by decide) (by decide)).trans (hT.1.2.2.2 5 (by omega)))), im_fr hI ((hu.2.1 3 (by decide) (by decide)).trans (hT.1.2.2.1 3 (by omega))) ((hu.2.2 6 (by decide)).trans ((hh 6 (by decide) (by decide)).trans (hT.1.2.2.2 6 (by omega))))⟩, g9⟩
  have b154 : ∀ (v1 v2 : Int32) (s : RS9), TI e s0 s → P1 (mX9_acts_b154 v1 v2 s) (RP 0) := fun v1 v2 s hT => by
    unfold mX9_acts_b154
    refine q1_eq (fun q => ?_) (fun q => ?_)
    · unfold mX9_acts_b168
      refine q1_eq (fun _ => ?_) (fun q2 => absurd rfl q2)
      exact le0 (fun _ => b191 _ _ _ _ hT q) (fun _ => b191 _ _ _ _ hT q)
    · unfold mX9_acts_b168
      refine q1_eq (fun q2 => absurd q2 (by decide)) (fun _ => ?_)
      exact le0 (fun _ => b214 _ _ _ hT) (fun _ => b214 _ _ _ hT)
  have wr : ∀ (b : Nat) (s : RS9) {β : Type} {Q : β → RS9 → Prop} {k : Int32 × RS9 → Option (β × RS9)}, b ≤ 400 → TI e s0 s → (∀ v u, TI e s0 u → u.1 12 ≠ -1 → u.1 11 = s.1 11 → P1 (k (v, u)) Q) → P1 ((mX9_wrong (nI b) s).bind k) Q := fun b s β Q k hb hT hk => by
    refine q1_call (a_wrong hb) (fun w u hu => ?_)
    refine hk w u ⟨tj_ln hT.1 ⟨hu.1, fun k _ b => hu.2.1 k b, ?_⟩, fun e => absurd e hu.2.2⟩ hu.2.2 (hu.2.1 11 (by decide))
    rw [hu.2.1 11 (by decide)]; exact hT.1.1
  have key : ∀ (d c : Nat) (v2 v3 : Int32) (s : RS9), TI e s0 s → c ≤ 15 → (c = 15 → s.1 12 ≠ -1) → 100 < c + d → P1 (mX9_acts_l48 d (nI c) v2 v3 s) (RP 0) := by
    intro d
    induction d with
    | zero => intro c v2 v3 s _ hc _ hm; exfalso; omega
    | succ d ih =>
      intro c v2 v3 s hT hc hc15 hm
      have b87 : ∀ (v2 : Int32) (s : RS9), TI e s0 s → (c = 14 → s.1 12 ≠ -1) → c ≤ 14 → P1 (mX9_acts_b87 (fun v1 v2 v3 σ => mX9_acts_l48 d v1 v2 v3 σ) (nI c) v2 s) (RP 0) := fun v2 s hT hc14 hcc => by
        unfold mX9_acts_b87
        refine q1_call (a_here he hT.1.2.1 hT.1.1) (fun v u hu => ?_)
        obtain ⟨hL, hv⟩ := hu
        obtain ⟨a, ha, h3⟩ := hL.2.2
        have ea : (nI a).toInt = (a : Int) := nI_toInt (by omega)
        have hTu := ti_lk hT hL
        have h12u : u.1 12 = s.1 12 := hL.2.1 12 (by decide)
        dsimp only
        rw [hv, h3, nI_1]
        have again : ∀ (s3 : Int32) (u' : RS9), TI e s0 u' → (c = 14 → u'.1 12 ≠ -1) → P1 (mX9_acts_l48 d (nI (c + 1)) v2 s3 u') (RP 0) := fun s3 u' h1 h2 => ih (c + 1) v2 s3 u' h1 (by omega) (fun e => h2 (by omega)) (by omega)
        refine q1_le (a := (e : Int)) (by rw [hTu.1.2.1]; exact ee) ea (fun q => ?_) (fun q => ?_)
        · unfold mX9_acts_b106
          refine q1_eq (fun _ => again _ _ hTu (by rw [h12u]; exact hc14)) (fun q2 => absurd rfl q2)
        · unfold mX9_acts_b106
          refine q1_eq (fun q2 => absurd q2 (by decide)) (fun _ => ?_)
          refine q1_eq (fun q12 => ?_) (fun q12 => again _ _ hTu (fun _ => q12))
          have b141 : ∀ (s3 : Int32) (u' : RS9), TI e s0 u' → u'.1 11 = nI a → (c = 14 → u'.1 12 ≠ -1) → P1 (mX9_acts_b141 (fun v1 v2 v3 σ => mX9_acts_l48 d v1 v2 v3 σ) (nI (c + 1)) v2 s3 u') (RP 0) := fun s3 u' h1 h2 h4 => by
            unfold mX9_acts_b141
            rw [h2, nI_1]
            exact again _ _ (ti_lk h1 ⟨rfl, fun k hk => sf_ne hk, a + 1, by omega, sf_eq⟩) (fun e => by rw [sf_ne (by decide)]; exact h4 e)
          rw [h3]
          refine q1_ck (inb_nI (n := 400) (by omega) (by decide)) ?_
          refine q1_eq (fun _ => b141 _ _ hTu h3 (by rw [h12u]; exact hc14)) (fun _ => ?_)
          exact wr a u (by omega) hTu (fun v u2 h1 h2 h4 => b141 _ _ h1 (h4.trans h3) (fun _ => h2))
      have b74 : ∀ (v2 : Int32) (s : RS9), TI e s0 s → (c = 14 → s.1 12 ≠ -1) → c ≤ 14 → P1 (mX9_acts_b74 (fun v1 v2 v3 σ => mX9_acts_l48 d v1 v2 v3 σ) (nI c) v2 s) (RP 0) := fun v2 s hT hc14 hcc => by
        unfold mX9_acts_b74
        refine q1_eq (fun q12 => ?_) (fun q12 => b87 _ _ hT hc14 hcc)
        refine q1_call (a_act he hT q12) (fun w u hu => ?_)
        exact b87 _ _ hu (fun e => absurd q12 (hc14 e)) hcc
      unfold mX9_acts_l48
      refine q1_eq (fun _ => b154 _ _ _ hT) (fun _ => ?_)
      refine q1_eq (fun q12 => ?_) (fun _ => b154 _ _ _ hT)
      have hc14 : c ≤ 14 := by
        by_cases ec : c = 15
        · exact absurd q12 (hc15 ec)
        · omega
      refine q1_eq (fun q14 => ?_) (fun q14 => b74 _ _ hT (fun e => absurd (by rw [e]; rfl) q14) hc14)
      refine q1_call (a_here he hT.1.2.1 hT.1.1) (fun v u hu => ?_)
      obtain ⟨hL, hv⟩ := hu
      obtain ⟨a, ha, h3⟩ := hL.2.2
      dsimp only
      rw [hv, h3]
      exact wr a u (by omega) (ti_lk hT hL) (fun v u2 h1 h2 h4 => b74 _ _ h1 (fun _ => h2) hc14)
  refine q1_call (a_here he h10 ⟨0, by omega, h11⟩) (fun v u hu => ?_)
  obtain ⟨hL, hv⟩ := hu
  dsimp only
  have fin : ∀ s3 : Int32, P1 (mX9_acts_b47 0 0 s3 u) (RP 0) := fun s3 => by
    unfold mX9_acts_b47
    exact key rFU 0 0 s3 u (ti_lk T0 hL) (by omega) (fun e => by omega) (by unfold rFU; omega)
  exact q1_le rfl rfl (fun _ => fin _) (fun _ => fin _)
end TEXT
