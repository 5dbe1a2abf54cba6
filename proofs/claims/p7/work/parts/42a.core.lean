/-! one run -/
def P1 {α : Type} (o : Option (α × RS9)) (Q : α → RS9 → Prop) : Prop := ∃ v σ, o = some (v, σ) ∧ Q v σ
section P1S
variable {α β : Type} {Q : β → RS9 → Prop} {σ : RS9}
theorem q1_ret {v : β} (h : Q v σ) : P1 (some (v, σ)) Q := ⟨v, σ, rfl, h⟩
theorem q1_ck {b : Bool} {x : Option (β × RS9)} (hb : b = true) (h : P1 x Q) : P1 (rCk b x) Q := by rw [hb]; exact h
theorem q1_call {o : Option (α × RS9)} {Q1 : α → RS9 → Prop} {k : α × RS9 → Option (β × RS9)} (h1 : P1 o Q1) (h : ∀ v σ, Q1 v σ → P1 (k (v, σ)) Q) : P1 (o.bind k) Q := by
  obtain ⟨v, σ, e, q⟩ := h1
  rw [e]; exact h v σ q
theorem q1_bind {γ : Type} {o : Option γ} {a : γ} {k : γ → Option (β × RS9)} (e : o = some a) (h : P1 (k a) Q) : P1 (o.bind k) Q := by rw [e]; exact h
theorem q1_tail {o : Option (β × RS9)} {Q1 : β → RS9 → Prop} (h1 : P1 o Q1) (h : ∀ v σ, Q1 v σ → Q v σ) : P1 o Q := by
  obtain ⟨v, σ, e, q⟩ := h1
  exact ⟨v, σ, e, h v σ q⟩
theorem q1_lt {x y : Int32} {a b : Int} {A B : Option (β × RS9)} (ex : x.toInt = a) (ey : y.toInt = b) (h1 : a < b → P1 A Q) (h2 : b ≤ a → P1 B Q) : P1 (if x < y then A else B) Q := by
  subst ex ey
  by_cases h : x.toInt < y.toInt
  · rw [if_pos (c_lt h)]; exact h1 h
  · rw [if_neg (c_nlt (by omega))]; exact h2 (by omega)
theorem q1_le {x y : Int32} {a b : Int} {A B : Option (β × RS9)} (ex : x.toInt = a) (ey : y.toInt = b) (h1 : a ≤ b → P1 A Q) (h2 : b < a → P1 B Q) : P1 (if x ≤ y then A else B) Q := by
  subst ex ey
  by_cases h : x.toInt ≤ y.toInt
  · rw [if_pos (c_le h)]; exact h1 h
  · rw [if_neg (c_nle (by omega))]; exact h2 (by omega)
theorem q1_eq {x y : Int32} {A B : Option (β × RS9)} (h1 : x = y → P1 A Q) (h2 : x ≠ y → P1 B Q) : P1 (if x = y then A else B) Q := by
  by_cases h : x = y
  · rw [if_pos h]; exact h1 h
  · rw [if_neg h]; exact h2 h
theorem p1_of {o : Option (β × RS9)} {Q2 : β → RS9 → β → RS9 → Prop} (h : P2 o o Q2) : P1 o (fun v σ => Q2 v σ v σ) := by
  obtain ⟨v, s, v', t, e, e', q⟩ := h
  have e2 := Option.some.inj (e.symm.trans e')
  have a := (Prod.mk.inj e2).1
  have b := (Prod.mk.inj e2).2
  subst a b
  exact ⟨v, s, e, q⟩
end P1S
/-! the tables are those of the file -/
def kap (μ : Nat → Int32) : RS9 := (fun _ => 0, fun k => if k = 1 then μ else fun _ => 0)
def CT (μ : Nat → Int32) : RS9 := match mX9_cutsFile (kap μ) with
  | some r => r.2
  | none => kap μ
def TAB (σ : RS9) : Prop := ∃ p R : Nat, σ.2 1 0 = nI R ∧ R ≤ 400 ∧ PR p R σ (CT (σ.2 1))
def BUI (σ : RS9) : Prop := ∃ p : Nat, σ.1 33 = nI p ∧ p ≤ 40 ∧ (∀ i, i < p → 0 ≤ bo σ i) ∧ sm σ p ≤ 600
def GOOD (μ : Nat → Int32) : Prop := VM9 μ ∧ BUI (CT μ)
def CORE (σ : RS9) : Prop := VM9 (σ.2 1) ∧ TAB σ ∧ BUI σ
theorem kap_1 (μ : Nat → Int32) : (kap μ).2 1 = μ := rfl
theorem nI_inj {a b : Nat} (ha : a < 2 ^ 31) (hb : b < 2 ^ 31) (h : nI a = nI b) : a = b := (nI_eq ha hb).mp h
theorem ct_two {μ ν : Nat → Int32} (hV : VM9 μ) (h : ∀ i, i < 443 → i ≠ 42 → ν i = μ i) : ∃ p R : Nat, μ 0 = nI R ∧ R ≤ 400 ∧ PR p R (CT μ) (CT ν) ∧ (CT μ).2 1 = μ ∧ (CT ν).2 1 = ν := by
  obtain ⟨v, s, v', t, e, e', p, R, h1, h2, h3, h4, h5, h6⟩ := t2_cutsFile (σ := kap μ) (τ := kap ν) (by rw [kap_1, kap_1]; exact h) (by rw [kap_1]; exact hV)
  rw [kap_1] at h1
  have a : CT μ = s := by unfold CT; rw [e]
  have b : CT ν = t := by unfold CT; rw [e']
  rw [a, b]
  exact ⟨p, R, h1, h2, h3, (h4.1 1 (by omega)).trans (kap_1 μ), (h5.1 1 (by omega)).trans (kap_1 ν)⟩
theorem cut_tab {σ : RS9} (hV : VM9 (σ.2 1)) : P1 (mX9_cutsFile σ) (fun v σ' => FRB σ σ' ∧ TAB σ') := by
  obtain ⟨v, s, v', t, e, e', p, R, h1, h2, h3, h4, h5, h6⟩ := t2_cutsFile (σ := σ) (τ := kap (σ.2 1)) (by rw [kap_1]; exact fun _ _ _ => rfl) hV
  refine ⟨v, s, e, h4, p, R, ?_, h2, ?_⟩
  · rw [h4.1 1 (by omega)]; exact h1
  · have b : CT (s.2 1) = t := by rw [h4.1 1 (by omega)]; unfold CT; rw [e']
    rw [b]; exact h3
theorem ba_of {p R : Nat} {σ τ : RS9} (hP : PR p R σ τ) (hV : VM9 (σ.2 1)) (hm : ∀ i, i < 443 → i ≠ 42 → τ.2 1 i = σ.2 1 i) : BA p σ τ := ⟨hm, hV, hP.1, hP.2.1, hP.2.2.1, fun i hi => by
  obtain ⟨b1, b2, b3, b4, -⟩ := hP.2.2.2.2.2.2.2 i hi
  have := hP.2.2.2.2.2.2.1
  exact ⟨b1, b2, b3, by omega⟩⟩
theorem bui_eq {p : Nat} {σ τ : RS9} (hB : BA p σ τ) (hSl : ∀ i, i < p → SLA i σ τ) : BUI σ ↔ BUI τ := by
  have hp := hB.2.2.2.2.1
  constructor
  · intro ⟨p', e, h4, h1, h2⟩
    have ep : p' = p := nI_inj (by omega) (by omega) (e.symm.trans hB.2.2.1)
    subst ep
    exact ⟨p', hB.2.2.2.1, h4, fun i hi => by rw [(bo_eq hB hi (hSl i hi)).1]; exact h1 i hi, by rw [sm_eq hB hSl p' (Nat.le_refl _)]; exact h2⟩
  · intro ⟨p', e, h4, h1, h2⟩
    have ep : p' = p := nI_inj (by omega) (by omega) (e.symm.trans hB.2.2.2.1)
    subst ep
    exact ⟨p', hB.2.2.1, h4, fun i hi => by rw [← (bo_eq hB hi (hSl i hi)).1]; exact h1 i hi, by rw [← sm_eq hB hSl p' (Nat.le_refl _)]; exact h2⟩
theorem tab_good {σ : RS9} (hV : VM9 (σ.2 1)) (hT : TAB σ) : BUI σ ↔ GOOD (σ.2 1) := by
  obtain ⟨p, R, h1, h2, h3⟩ := hT
  obtain ⟨p', R', -, -, -, hc, -⟩ := ct_two hV (fun i _ _ => rfl)
  have hB : BA p σ (CT (σ.2 1)) := ba_of h3 hV (by rw [hc]; exact fun _ _ _ => rfl)
  rw [bui_eq hB (fun i _ j _ _ => by rw [hc])]
  exact ⟨fun h => ⟨hV, h⟩, fun h => h.2⟩
theorem vm_eq {μ ν : Nat → Int32} (hV : VM9 μ) (h : ∀ i, i < 4347 → ν i = μ i) : VM9 ν := by
  obtain ⟨h1, h2, h3, h4, h5, h6, h7⟩ := hV
  refine ⟨by rw [h 0 (by omega)]; exact h1, by rw [h 4 (by omega)]; exact h2, by rw [h 5 (by omega)]; exact h3, by rw [h 42 (by omega)]; exact h4, fun p hp => by rw [h _ (by omega)]; exact h5 p hp, fun k hk => by rw [h _ (by omega)]; exact h6 k hk, fun l hl => by rw [h _ (by omega)]; exact h7 l hl⟩
theorem good_eq {μ ν : Nat → Int32} (hG : GOOD μ) (h : ∀ i, i < 4347 → ν i = μ i) : GOOD ν := by
  obtain ⟨p, R, h1, h2, h3, c1, c2⟩ := ct_two hG.1 (fun i hi _ => h i (by omega))
  refine ⟨vm_eq hG.1 h, ?_⟩
  have hB : BA p (CT μ) (CT ν) := ba_of h3 (by rw [c1]; exact hG.1) (by rw [c1, c2]; exact fun i hi _ => h i (by omega))
  have hp := hB.2.2.2.2.1
  exact (bui_eq hB (fun i hi j _ hj => by rw [c1, c2]; exact h j (by omega))).mp hG.2
/-- the file is cut anew: all stands again -/
theorem cut_core {σ : RS9} (hG : GOOD (σ.2 1)) : P1 (mX9_cutsFile σ) (fun v σ' => FRB σ σ' ∧ CORE σ') := by
  refine q1_tail (cut_tab hG.1) (fun v s h => ?_)
  have e : s.2 1 = σ.2 1 := h.1.1 1 (by omega)
  have hV : VM9 (s.2 1) := by rw [e]; exact hG.1
  exact ⟨h.1, hV, h.2, (tab_good hV h.2).mpr (by rw [e]; exact hG)⟩
/-- tables stay, where the rules and the file do -/
theorem tab_m {σ σ' : RS9} (hV : VM9 (σ.2 1)) (hT : TAB σ) (hm : ∀ i, i < 443 → i ≠ 42 → σ'.2 1 i = σ.2 1 i) (hr : ∀ k, 34 ≤ k → k ≤ 42 → σ'.2 k = σ.2 k) (h33 : σ'.1 33 = σ.1 33) (h45 : σ'.1 45 = σ.1 45) : TAB σ' := by
  obtain ⟨p, R, h1, h2, h3⟩ := hT
  obtain ⟨p', R', g1, g2, g3, -, -⟩ := ct_two (ν := σ'.2 1) hV hm
  have eR : R = R' := nI_inj (by omega) (by omega) (h1.symm.trans g1)
  have ep : p = p' := nI_inj (by have := h3.2.2.1; omega) (by have := g3.2.2.1; omega) (h3.2.1.symm.trans g3.1)
  subst eR ep
  refine ⟨p, R, by rw [hm 0 (by omega) (by omega)]; exact h1, h2, ?_⟩
  have h3' : PR p R σ' (CT (σ.2 1)) := pr_rows h3 hr (fun _ _ _ => rfl) h33 rfl h45 rfl
  obtain ⟨a1, a2, a3, a4, a5, a6, a7, a8⟩ := h3'
  obtain ⟨b1, b2, b3, b4, b5, b6, b7, b8⟩ := g3
  refine ⟨a1, b2, a3, b4.trans a4, a5, a6, a7, fun i hi => ?_⟩
  obtain ⟨⟨c1, c2, c3, c4, c5⟩, c6⟩ := a8 i hi
  obtain ⟨⟨d1, d2, d3, d4, d5⟩, -⟩ := b8 i hi
  exact ⟨⟨d1.trans c1, d2.trans c2, d3.trans c3, d4.trans c4, d5.trans c5⟩, c6⟩
theorem tab_ba {σ : RS9} (hV : VM9 (σ.2 1)) (hT : TAB σ) : ∃ p : Nat, BA p σ σ := by
  obtain ⟨p, R, h1, h2, h3⟩ := hT
  obtain ⟨p', R', -, -, -, hc, -⟩ := ct_two hV (fun i _ _ => rfl)
  have hB : BA p σ (CT (σ.2 1)) := ba_of h3 hV (by rw [hc]; exact fun _ _ _ => rfl)
  exact ⟨p, ba_self hB⟩
/-- what stays where only rows of the work change -/
theorem core_fr {σ σ' : RS9} (hC : CORE σ) (hm : σ'.2 1 = σ.2 1) (hr : ∀ k, 34 ≤ k → k ≤ 42 → σ'.2 k = σ.2 k) (h33 : σ'.1 33 = σ.1 33) (h45 : σ'.1 45 = σ.1 45) : CORE σ' := by
  obtain ⟨hV, hT, hU⟩ := hC
  obtain ⟨p, hB⟩ := tab_ba hV hT
  refine ⟨by rw [hm]; exact hV, tab_m hV hT (fun i _ _ => by rw [hm]) hr h33 h45, ?_⟩
  have hB2 : BA p σ σ' := by
    obtain ⟨b1, b2, b3, b4, b5, b6⟩ := hB
    refine ⟨fun i _ _ => by rw [hm], b2, b3, h33.trans b4, b5, fun i hi => ?_⟩
    rw [hr 34 (by decide) (by decide), hr 35 (by decide) (by decide), hr 36 (by decide) (by decide), hr 37 (by decide) (by decide), hr 38 (by decide) (by decide)]
    exact b6 i hi
  exact (bui_eq hB2 (fun i _ j _ _ => by rw [hm])).mp hU
