/-! the reference's row of numbers holds a state -/
def PW9 (μ : Nat → Int32) (a : Nat) (t : BL) : Prop := t.length ≤ 60 ∧ μ a = nI t.length ∧ ∀ j, j < t.length → μ (a + 1 + j) = t.getD j 0
def PR9 (μ : Nat → Int32) (mem : List (BL × BL)) : Prop := μ 42 = nI mem.length ∧ mem.length ≤ 12 ∧ ∀ k, k < mem.length → PW9 μ (2883 + 122 * k) (mem.getD k ([], [])).1 ∧ PW9 μ (2944 + 122 * k) (mem.getD k ([], [])).2
def FL9 (μ : Nat → Int32) (F : BL) : Prop := (μ 0 = nI F.length ∧ F.length ≤ 400) ∧ ∀ i, i < F.length → μ (43 + i) = F.getD i 0
def MR9 (μ : Nat → Int32) (S : SST) : Prop := FL9 μ S.1 ∧ MC μ S.2.1 ∧ TD9 μ S.2.2.1 ∧ PR9 μ S.2.2.2
section MRE
variable {μ μ' : Nat → Int32}
theorem PW9_ext {a : Nat} {t : BL} (h : PW9 μ a t) (e : ∀ i, a ≤ i → i < a + 61 → μ' i = μ i) : PW9 μ' a t := ⟨h.1, (e a (Nat.le_refl _) (by omega)).trans h.2.1, fun j hj => (e _ (by omega) (by have := h.1; omega)).trans (h.2.2 j hj)⟩
theorem PR9_ext {mem : List (BL × BL)} (h : PR9 μ mem) (e0 : μ' 42 = μ 42) (e : ∀ i, 2883 ≤ i → i < 4347 → μ' i = μ i) : PR9 μ' mem := ⟨e0.trans h.1, h.2.1, fun k hk => ⟨PW9_ext (h.2.2 k hk).1 (fun i h1 h2 => e i (by omega) (by have := h.2.1; omega)), PW9_ext (h.2.2 k hk).2 (fun i h1 h2 => e i (by omega) (by have := h.2.1; omega))⟩⟩
theorem FL9_ext {F : BL} (h : FL9 μ F) (e : ∀ i, i < 443 → μ' i = μ i) : FL9 μ' F := ⟨⟨(e 0 (by omega)).trans h.1.1, h.1.2⟩, fun i hi => (e _ (by have := h.1.2; omega)).trans (h.2 i hi)⟩
theorem MC_ext {cf : CFG} (h : MC μ cf) (e : ∀ i, i < 42 → μ' i = μ i) : MC μ' cf := by
  obtain ⟨h1, h2, h3, h4, h5, h6, h7⟩ := h
  refine ⟨(e 1 (by omega)).trans h1, (e 2 (by omega)).trans h2, (e 3 (by omega)).trans h3, (e 4 (by omega)).trans h4, (e 5 (by omega)).trans h5, fun l hl => ?_, h7⟩
  have hl4 := h7.2.2.2.2.1
  have h8 := cf_lk h7 hl
  exact ⟨(e _ (by omega)).trans (h6 l hl).1, fun k hk => (e _ (by omega)).trans ((h6 l hl).2 k hk)⟩
theorem TD9_ext {told : Nat → Option BL} (h : TD9 μ told) (e : ∀ i, 443 ≤ i → i < 2883 → μ' i = μ i) : TD9 μ' told := fun p hp => by
  obtain ⟨h1, h2⟩ := h p hp
  refine ⟨(e _ (by omega) (by omega)).trans h1, fun t ht => ⟨(h2 t ht).1, fun k hk => (e _ (by omega) (by have := (h2 t ht).1; omega)).trans ((h2 t ht).2 k hk)⟩⟩
theorem MR9_ext {S : SST} (h : MR9 μ S) (e : ∀ i, i < 4347 → μ' i = μ i) : MR9 μ' S := ⟨FL9_ext h.1 (fun i hi => e i (by omega)), MC_ext h.2.1 (fun i hi => e i (by omega)), TD9_ext h.2.2.1 (fun i _ hi => e i (by omega)), PR9_ext h.2.2.2 (e 42 (by omega)) (fun i _ hi => e i hi)⟩
end MRE
abbrev RA9 : Nat → Prop := fun k => k = 1 ∨ 13 ≤ k
abbrev FA9 : Nat → Prop := fun k => k = 16 ∨ 22 ≤ k
abbrev RK9 : Nat → Prop := fun k => 13 ≤ k ∧ k ≤ 44
abbrev FK9 : Nat → Prop := fun k => k = 16 ∨ k = 22 ∨ k = 26 ∨ k = 33 ∨ k = 45 ∨ k = 54 ∨ k = 55
def RM9 (σ : RS9) (S : SST) : Prop := MR9 (σ.2 1) S ∧ PT σ (decide (S.2.1.1 = 0)) (pcF S)
theorem up_nI {σ : RS9} {a : Nat} {v : Int32} (ha : a < 2 ^ 31) : ∀ i, (rSa σ 1 (nI a) v).2 1 i = if i = a then v else σ.2 1 i := fun i => sa_nI ha
section RMR
variable {σ : RS9} {cf : CFG} {F : BL}
theorem r_cutsFile (hF : FL9 (σ.2 1) F) (hM : MC (σ.2 1) cf) : PQ (mX9_cutsFile σ) (fun y => ∃ σ', y = (0, σ') ∧ PT σ' (decide (cf.1 = 0)) (pcs cf F) ∧ FRX RK9 FK9 σ σ') := by
  have key : ∀ (d i : Nat) (σ1 : RS9), i ≤ F.length → FRX (fun k => k = 13) (fun k => k = 16) σ σ1 → σ1.1 16 = nI F.length → RLs σ1 13 (F.take i) → PQ (mX9_cutsFile_l12 d (nI i) σ1) (fun y => ∃ σ', y = (0, σ') ∧ PT σ' (decide (cf.1 = 0)) (pcs cf F) ∧ FRX RK9 FK9 σ σ') := by
    intro d
    induction d with
    | zero => intro i σ1 _ _ _ _; exact pq_none
    | succ d ih =>
      intro i σ1 hi hX h16 hR
      have h4 := hF.1.2
      unfold mX9_cutsFile_l12
      rw [h16]
      refine pq_le (nI_toInt (by omega)) (nI_toInt (by omega)) (fun q => ?_) (fun q => ?_)
      · have e : i = F.length := by omega
        rw [e, List.take_length] at hR
        refine pq_call (r_cutsAll (cf := cf) (by rw [hX.1 1 (fun q => by omega)]; exact hM) hR h16 (by omega)) (fun y hy => ?_)
        obtain ⟨σ2, rfl, h1, h2⟩ := hy
        exact pq_ret ⟨σ2, rfl, h1, frx_tr (frx_mono hX (fun k hk => by omega) (fun k hk => by omega)) (frx_mono h2 (fun k hk => by omega) (fun k hk => by omega))⟩
      · have hi' : i < F.length := by omega
        rw [show (43 : Int32) + nI i = nI (43 + i) from nI_add 43 i, rd_nI (by omega), hX.1 1 (fun q => by omega), hF.2 i hi', nI_1]
        exact pq_ck (pq_ck (ih (i + 1) _ (by omega) (frx_tr hX ⟨fun k hk => sa_ne hk, fun k hk => rfl⟩) h16 (RL_53 hR hi' rfl (by omega))))
  unfold mX9_cutsFile
  refine pq_ck (key rFU 0 _ (Nat.zero_le _) ⟨fun k hk => rfl, fun k hk => sf_ne hk⟩ (sf_eq.trans hF.1.1) (fun i hi => absurd hi (by rw [List.take_zero]; exact Nat.not_lt_zero _)))
theorem r_putsAside : PQ (mX9_putsAside σ) (fun y => ∃ σ', y = (0, σ') ∧ (∀ i, i < 4347 → σ'.2 2 i = σ.2 1 i) ∧ FRX (fun k => k = 2) NF9 σ σ') := by
  have key : ∀ (d i : Nat) (σ1 : RS9), i ≤ 4347 → FRX (fun k => k = 2) NF9 σ σ1 → (∀ j, j < i → σ1.2 2 j = σ.2 1 j) → PQ (mX9_putsAside_l2 d (nI i) σ1) (fun y => ∃ σ', y = (0, σ') ∧ (∀ i, i < 4347 → σ'.2 2 i = σ.2 1 i) ∧ FRX (fun k => k = 2) NF9 σ σ') := by
    intro d
    induction d with
    | zero => intro i σ1 _ _ _; exact pq_none
    | succ d ih =>
      intro i σ1 hi hX hj
      unfold mX9_putsAside_l2
      refine pq_le (show (4347 : Int32).toInt = 4347 by decide) (nI_toInt (by omega)) (fun q => ?_) (fun q => ?_)
      · have e : i = 4347 := by omega
        subst e
        exact pq_ret ⟨σ1, rfl, hj, hX⟩
      · rw [rd_nI (by omega), hX.1 1 (fun q => by omega), nI_1]
        refine pq_ck (pq_ck (ih (i + 1) _ (by omega) (frx_tr hX ⟨fun k hk => sa_ne hk, fun k hk => rfl⟩) (fun j hj2 => ?_)))
        rw [sa_nI (by omega)]
        by_cases e : j = i
        · rw [if_pos e, e]
        · rw [if_neg e]; exact hj j (by omega)
  exact key rFU 0 σ (Nat.zero_le _) frx_rfl (fun j hj => absurd hj (Nat.not_lt_zero _))
theorem r_putsBack {S : SST} (h : MR9 (σ.2 2) S) : PQ (mX9_putsBack σ) (fun y => ∃ σ', y = (0, σ') ∧ RM9 σ' S ∧ FRX RA9 FA9 σ σ') := by
  have key : ∀ (d i : Nat) (σ1 : RS9), i ≤ 4347 → FRX (fun k => k = 1) NF9 σ σ1 → (∀ j, j < i → σ1.2 1 j = σ.2 2 j) → PQ (mX9_putsBack_l2 d (nI i) σ1) (fun y => ∃ σ', y = (0, σ') ∧ RM9 σ' S ∧ FRX RA9 FA9 σ σ') := by
    intro d
    induction d with
    | zero => intro i σ1 _ _ _; exact pq_none
    | succ d ih =>
      intro i σ1 hi hX hj
      unfold mX9_putsBack_l2
      refine pq_le (show (4347 : Int32).toInt = 4347 by decide) (nI_toInt (by omega)) (fun q => ?_) (fun q => ?_)
      · have e : i = 4347 := by omega
        subst e
        have hm := MR9_ext h hj
        refine pq_call (r_cutsFile hm.1 hm.2.1) (fun y hy => ?_)
        obtain ⟨σ2, rfl, h1, h2⟩ := hy
        exact pq_ret ⟨σ2, rfl, ⟨by rw [h2.1 1 (fun q => by omega)]; exact hm, h1⟩, frx_tr (frx_mono hX (fun k hk => Or.inl hk) (fun k hk => absurd hk id)) (frx_mono h2 (fun k hk => by omega) (fun k hk => by omega))⟩
      · rw [rd_nI (by omega), hX.1 2 (fun q => by omega), nI_1]
        refine pq_ck (pq_ck (ih (i + 1) _ (by omega) (frx_tr hX ⟨fun k hk => sa_ne hk, fun k hk => rfl⟩) (fun j hj2 => ?_)))
        rw [sa_nI (by omega)]
        by_cases e : j = i
        · rw [if_pos e, e]
        · rw [if_neg e]; exact hj j (by omega)
  exact key rFU 0 σ (Nat.zero_le _) frx_rfl (fun j hj => absurd hj (Nat.not_lt_zero _))
/-- nothing is told any more: the row's places of what is told -/
def NT9 (σ σ' : RS9) (n : Nat) : Prop := (∀ q, q < n → σ'.2 1 (443 + 61 * q) = -1) ∧ (∀ i, (i < 443 ∨ 2883 ≤ i) → σ'.2 1 i = σ.2 1 i) ∧ FRX (fun k => k = 1) NF9 σ σ'
theorem NT9_s {σ' : RS9} {n : Nat} (h : NT9 σ σ' n) (hn : n < 40) : NT9 σ (rSa σ' 1 (nI (443 + 61 * n)) (-1)) (n + 1) := by
  refine ⟨fun q hq => ?_, fun i hi => ?_, frx_tr h.2.2 ⟨fun k hk => sa_ne hk, fun k hk => rfl⟩⟩
  · rw [up_nI (by omega)]
    by_cases e : q = n
    · rw [if_pos (by rw [e])]
    · rw [if_neg (by omega)]; exact h.1 q (by omega)
  · rw [up_nI (by omega), if_neg (by omega)]; exact h.2.1 i hi
theorem NT9_MR {σ' : RS9} {S : SST} (h : NT9 σ σ' 40) (h1 : FL9 (σ.2 1) S.1) (h2 : MC (σ.2 1) S.2.1) (h3 : PR9 (σ.2 1) S.2.2.2) (hn : ∀ i, S.2.2.1 i = none) : MR9 (σ'.2 1) S := by
  refine ⟨FL9_ext h1 (fun i hi => h.2.1 i (Or.inl hi)), MC_ext h2 (fun i hi => h.2.1 i (by omega)), fun p hp => ?_, PR9_ext h3 (h.2.1 42 (by omega)) (fun i hi _ => h.2.1 i (Or.inr hi))⟩
  rw [hn p]
  exact ⟨h.1 p hp, fun t ht => by cases ht⟩
theorem r_cutsAnew {mem : List (BL × BL)} (hF : FL9 (σ.2 1) F) (hM : MC (σ.2 1) cf) (hR : PR9 (σ.2 1) mem) : PQ (mX9_cutsAnew σ) (fun y => ∃ σ', y = (0, σ') ∧ RM9 σ' (F, cf, fun _ => none, mem) ∧ FRX RA9 FA9 σ σ') := by
  unfold mX9_cutsAnew
  refine pq_call (r_cutsFile hF hM) (fun y hy => ?_)
  obtain ⟨σ1, rfl, h1, h2⟩ := hy
  have e1 : σ1.2 1 = σ.2 1 := h2.1 1 (fun q => by omega)
  have key : ∀ (d i : Nat) (σ2 : RS9), i ≤ 40 → NT9 σ1 σ2 i → PQ (mX9_cutsAnew_l6 d (nI i) σ2) (fun y => ∃ σ', y = (0, σ') ∧ RM9 σ' (F, cf, fun _ => none, mem) ∧ FRX RA9 FA9 σ σ') := by
    intro d
    induction d with
    | zero => intro i σ2 _ _; exact pq_none
    | succ d ih =>
      intro i σ2 hi hN
      unfold mX9_cutsAnew_l6
      refine pq_le kt_40 (nI_toInt (by omega)) (fun q => ?_) (fun q => ?_)
      · have e : i = 40 := by omega
        subst e
        refine pq_ret ⟨σ2, rfl, ⟨NT9_MR (S := (F, cf, fun _ => none, mem)) hN (by rw [e1]; exact hF) (by rw [e1]; exact hM) (by rw [e1]; exact hR) (fun _ => rfl), PT_frx h1 hN.2.2 (fun k h1 h2 q => by omega) ⟨fun q => q, fun q => q⟩⟩, ?_⟩
        exact frx_tr (frx_mono h2 (fun k hk => by omega) (fun k hk => by omega)) (frx_mono hN.2.2 (fun k hk => Or.inl hk) (fun k hk => absurd hk id))
      · rw [nI_61, nI_1]
        exact pq_ck (ih (i + 1) _ (by omega) (NT9_s hN (by omega)))
  exact key rFU 0 σ1 (Nat.zero_le _) ⟨fun q hq => absurd hq (Nat.not_lt_zero _), fun i hi => rfl, frx_rfl⟩
end RMR
