/-! escaping: how much it may become -/
def wt9 (c : Int32) : Nat := if c = 38 then 5 else if c = 60 then 4 else if c = 62 then 4 else if c = 10 then 2 else if c = 9 then 2 else if c = 92 then 2 else if c = 34 then 2 else if c = 32 then 2 else 1
def wS (g : Nat → Int32) : Nat → Nat
  | 0 => 0
  | n + 1 => wS g n + wt9 (g n)
theorem wt_1 (c : Int32) : 1 ≤ wt9 c := by unfold wt9; (repeat' split) <;> omega
theorem wt_5 (c : Int32) : wt9 c ≤ 5 := by unfold wt9; (repeat' split) <;> omega
theorem wS_5 (g : Nat → Int32) (n : Nat) : wS g n ≤ 5 * n := by
  induction n with
  | zero => exact Nat.le_refl _
  | succ n ih => have := wt_5 (g n); show wS g n + wt9 (g n) ≤ _; omega
theorem wS_eq {g h : Nat → Int32} {n : Nat} (e : ∀ i, i < n → h i = g i) : wS h n = wS g n := by
  induction n with
  | zero => rfl
  | succ n ih => show wS h n + wt9 (h n) = wS g n + wt9 (g n); rw [ih (fun i hi => e i (by omega)), e n (by omega)]
theorem wS_mono {g : Nat → Int32} {k n : Nat} (h : k ≤ n) : wS g k ≤ wS g n := by
  induction n with
  | zero => have : k = 0 := by omega
            rw [this]; exact Nat.le_refl _
  | succ n ih =>
    by_cases e : k = n + 1
    · rw [e]; exact Nat.le_refl _
    · have := ih (by omega)
      show wS g k ≤ wS g n + wt9 (g n)
      omega
def FE (o : Nat) (σ0 σ : RS9) : Prop := (∀ k, k ≠ o → σ.2 k = σ0.2 k) ∧ ∀ k, k ≠ 56 → σ.1 k = σ0.1 k
def ES (o q W : Nat) (σ0 τ0 σ τ : RS9) : Prop := σ.1 56 = nI q ∧ τ.1 56 = nI q ∧ (∀ i, i < q → τ.2 o i = σ.2 o i) ∧ wS (σ.2 o) q ≤ W ∧ FE o σ0 σ ∧ FE o τ0 τ
section ESS
variable {o q W : Nat} {σ0 τ0 σ τ : RS9}
theorem es_put (hE : ES o q W σ0 τ0 σ τ) (hq : q < 1400) {x : Int32} : ES o (q + 1) (W + wt9 x) σ0 τ0 (rSf (rSa σ o (nI q) x) 56 (nI (q + 1))) (rSf (rSa τ o (nI q) x) 56 (nI (q + 1))) := by
  obtain ⟨h1, h2, h3, h4, h5, h6⟩ := hE
  have r : ∀ (u : RS9) (i : Nat), (rSf (rSa u o (nI q) x) 56 (nI (q + 1))).2 o i = if i = q then x else u.2 o i := fun u i => sa_nI (by omega)
  refine ⟨sf_eq, sf_eq, fun i hi => ?_, ?_, ⟨fun k e => (sa_ne e).trans (h5.1 k e), fun k e => (sf_ne e).trans (h5.2 k e)⟩, ⟨fun k e => (sa_ne e).trans (h6.1 k e), fun k e => (sf_ne e).trans (h6.2 k e)⟩⟩
  · rw [r, r]
    by_cases e : i = q
    · rw [if_pos e, if_pos e]
    · rw [if_neg e, if_neg e]; exact h3 i (by omega)
  · show wS _ q + wt9 _ ≤ _
    rw [r, if_pos rfl, wS_eq (g := σ.2 o) (fun i hi => by rw [r, if_neg (by omega)])]
    omega
theorem t2_plain (ho : rLen o = 1400) (hE : ES o q W σ0 τ0 σ τ) (hq : q < 1400) {x x' : Int32} (hx : x' = x) : P2 (mX9_plain o x σ) (mX9_plain o x' τ) (fun v σ' v' τ' => ES o (q + 1) (W + wt9 x) σ0 τ0 σ' τ') := by
  subst hx
  unfold mX9_plain
  rw [hE.1, hE.2.1, nI_1]
  exact p2_ck (by rw [ho]; exact inb_nI hq (by decide)) (by rw [ho]; exact inb_nI hq (by decide)) (p2_ret (es_put hE hq))
theorem t2_puts (ho : rLen o = 1400) (hE : ES o q W σ0 τ0 σ τ) (hq : q + 1 < 1400) {x y y' : Int32} (hy : y' = y) : P2 (mX9_puts o x y σ) (mX9_puts o x y' τ) (fun v σ' v' τ' => ES o (q + 2) (W + wt9 x + wt9 y) σ0 τ0 σ' τ') := by
  subst hy
  unfold mX9_puts
  rw [hE.1, hE.2.1, nI_1]
  refine p2_ck (by rw [ho]; exact inb_nI (by omega) (by decide)) (by rw [ho]; exact inb_nI (by omega) (by decide)) ?_
  refine p2_ck (by rw [ho]; exact inb_nI hq (by decide)) (by rw [ho]; exact inb_nI hq (by decide)) ?_
  have e2 : nI q + (2 : Int32) = nI (q + 2) := nI_add q 2
  rw [e2]
  have h1 := es_put (x := y') (es_put (x := x) hE (by omega)) hq
  obtain ⟨a1, a2, a3, a4, a5, a6⟩ := h1
  refine p2_ret ⟨sf_eq, sf_eq, a3, a4, ⟨a5.1, fun k e => (sf_ne e).trans (hE.2.2.2.2.1.2 k e)⟩, ⟨a6.1, fun k e => (sf_ne e).trans (hE.2.2.2.2.2.2 k e)⟩⟩
def wT (t : Nat) : Nat → Nat
  | 0 => 0
  | n + 1 => wT t n + wt9 (strC t (nI n))
/-- a word is laid -/
theorem t2_word_l2 {t len : Nat} (ho : rLen o = 1400) (ht : t < 15) (hl : strL t = nI len) (hlen : len ≤ 20) (hq : q + len ≤ 1400) : ∀ (d k : Nat) (σ τ : RS9), σ.1 56 = nI q → τ.1 56 = nI q → (∀ i, i < q + k → τ.2 o i = σ.2 o i) → wS (σ.2 o) (q + k) ≤ W + wT t k → FE o σ0 σ → FE o τ0 τ → k ≤ len → 100 < k + d → P2 (mX9_word_l2 d o t (nI k) σ) (mX9_word_l2 d o t (nI k) τ) (fun v σ' v' τ' => ES o (q + len) (W + wT t len) σ0 τ0 σ' τ') := by
  intro d
  induction d with
  | zero => intro k σ τ _ _ _ _ _ _ _ hm; exfalso; omega
  | succ d ih =>
    intro k σ τ h1 h2 h3 h4 h5 h6 hk hm
    have ek : (nI k).toInt = (k : Int) := nI_toInt (by omega)
    have el : (strL t).toInt = (len : Int) := by rw [hl]; exact nI_toInt (by omega)
    unfold mX9_word_l2
    refine p2_le el ek rfl rfl (fun qq => ?_) (fun qq => ?_)
    · have e : k = len := by omega
      subst e
      rw [h1, h2, hl, nI_add]
      exact p2_ret ⟨sf_eq, sf_eq, h3, h4, ⟨h5.1, fun z e => (sf_ne e).trans (h5.2 z e)⟩, ⟨h6.1, fun z e => (sf_ne e).trans (h6.2 z e)⟩⟩
    · refine p2_ck (in_st9 ht (by omega)) (in_st9 ht (by omega)) ?_
      rw [h1, h2, nI_add, nI_1]
      refine p2_ck (by rw [ho]; exact inb_nI (by omega) (by decide)) (by rw [ho]; exact inb_nI (by omega) (by decide)) ?_
      have r : ∀ (u : RS9) (i : Nat), (rSa u o (nI (q + k)) (strC t (nI k))).2 o i = if i = q + k then strC t (nI k) else u.2 o i := fun u i => sa_nI (by omega)
      refine ih (k + 1) _ _ h1 h2 (fun i hi => ?_) ?_ ⟨fun z e => (sa_ne e).trans (h5.1 z e), h5.2⟩ ⟨fun z e => (sa_ne e).trans (h6.1 z e), h6.2⟩ (by omega) (by omega)
      · rw [r, r]
        by_cases e : i = q + k
        · rw [if_pos e, if_pos e]
        · rw [if_neg e, if_neg e]; exact h3 i (by omega)
      · show wS _ (q + k) + wt9 ((rSa σ o (nI (q + k)) (strC t (nI k))).2 o (q + k)) ≤ W + (wT t k + wt9 (strC t (nI k)))
        rw [r, if_pos rfl, wS_eq (g := σ.2 o) (fun i hi => by rw [r, if_neg (by omega)])]
        omega
theorem t2_word {t len : Nat} (ho : rLen o = 1400) (ht : t < 15) (hl : strL t = nI len) (hlen : len ≤ 20) (hE : ES o q W σ0 τ0 σ τ) (hq : q + len ≤ 1400) : P2 (mX9_word o t σ) (mX9_word o t τ) (fun v σ' v' τ' => ES o (q + len) (W + wT t len) σ0 τ0 σ' τ') := by
  unfold mX9_word
  obtain ⟨h1, h2, h3, h4, h5, h6⟩ := hE
  exact t2_word_l2 ho ht hl hlen hq rFU 0 σ τ h1 h2 h3 h4 h5 h6 (by omega) (by unfold rFU; omega)
/-- one byte escaped: it becomes at most its weight, and weighs at most nine then -/
def E1 (o q W : Nat) (c : Int32) (σ0 τ0 σ' τ' : RS9) : Prop := ∃ q' W', q' ≤ q + wt9 c ∧ W' ≤ W + 9 ∧ ES o q' W' σ0 τ0 σ' τ'
theorem t2_escapesMarkup (ho : rLen o = 1400) (hE : ES o q W σ0 τ0 σ τ) {c c' : Int32} (hc : c' = c) (hq : q + wt9 c ≤ 1400) : P2 (mX9_escapesMarkup o c σ) (mX9_escapesMarkup o c' τ) (fun v σ' v' τ' => E1 o q W c σ0 τ0 σ' τ') := by
  subst hc
  have hw0 : wT 0 4 = 8 := by decide +kernel
  have hw1 : wT 1 4 = 8 := by decide +kernel
  have hw2 : wT 2 5 = 9 := by decide +kernel
  unfold mX9_escapesMarkup
  refine p2_eq rfl rfl (fun e => ?_) (fun e => ?_)
  · subst e
    have h9 : wt9 60 = 4 := by decide
    refine p2_call (t2_word (len := 4) ho (by decide) (by decide +kernel) (by decide) hE (by omega)) (fun v s v' t h => ?_)
    exact p2_ret ⟨_, _, by omega, by omega, h⟩
  · refine p2_eq rfl rfl (fun e => ?_) (fun e2 => ?_)
    · subst e
      have h9 : wt9 62 = 4 := by decide
      refine p2_call (t2_word (len := 4) ho (by decide) (by decide +kernel) (by decide) hE (by omega)) (fun v s v' t h => ?_)
      exact p2_ret ⟨_, _, by omega, by omega, h⟩
    · refine p2_eq rfl rfl (fun e => ?_) (fun e3 => ?_)
      · subst e
        have h9 : wt9 38 = 5 := by decide
        refine p2_call (t2_word (len := 5) ho (by decide) (by decide +kernel) (by decide) hE (by omega)) (fun v s v' t h => ?_)
        exact p2_ret ⟨_, _, by omega, by omega, h⟩
      · have h1 := wt_1 c'
        have h5 := wt_5 c'
        refine p2_call (t2_plain ho hE (by omega) rfl) (fun v s v' t h => ?_)
        exact p2_ret ⟨_, _, by omega, by omega, h⟩
theorem t2_escapesBack (ho : rLen o = 1400) (hE : ES o q W σ0 τ0 σ τ) {k c c' f : Int32} (hc : c' = c) (hq : q + wt9 c ≤ 1400) : P2 (mX9_escapesBack k o c f σ) (mX9_escapesBack k o c' f τ) (fun v σ' v' τ' => E1 o q W c σ0 τ0 σ' τ') := by
  subst hc
  have h92 : wt9 92 = 2 := by decide
  have two : ∀ x : Int32, 2 ≤ wt9 c' → wt9 x ≤ 5 → P2 ((mX9_puts o (92 : Int32) x σ).bind fun r1 => mX9_escapesBack_b85 r1.2) ((mX9_puts o (92 : Int32) x τ).bind fun r1 => mX9_escapesBack_b85 r1.2) (fun v σ' v' τ' => E1 o q W c' σ0 τ0 σ' τ') := fun x h2 h5 => by
    refine p2_call (t2_puts ho hE (by omega) rfl) (fun v s v' t h => ?_)
    exact p2_ret ⟨_, _, by omega, by omega, h⟩
  have one : P2 (mX9_escapesBack_b79 o c' σ) (mX9_escapesBack_b79 o c' τ) (fun v σ' v' τ' => E1 o q W c' σ0 τ0 σ' τ') := by
    have h1 := wt_1 c'
    have h5 := wt_5 c'
    unfold mX9_escapesBack_b79
    refine p2_call (t2_plain ho hE (by omega) rfl) (fun v s v' t h => ?_)
    exact p2_ret ⟨_, _, by omega, by omega, h⟩
  have b53 : P2 (mX9_escapesBack_b53 k o c' f σ) (mX9_escapesBack_b53 k o c' f τ) (fun v σ' v' τ' => E1 o q W c' σ0 τ0 σ' τ') := by
    unfold mX9_escapesBack_b53
    refine p2_eq rfl rfl (fun e => ?_) (fun e => one)
    refine p2_eq rfl rfl (fun e2 => ?_) (fun e2 => one)
    refine p2_eq rfl rfl (fun e3 => one) (fun e3 => ?_)
    exact two c' (by rw [e]; decide) (wt_5 _)
  unfold mX9_escapesBack
  refine p2_eq rfl rfl (fun e => two 110 (by rw [e]; decide) (wt_5 _)) (fun e => ?_)
  refine p2_eq rfl rfl (fun e => two 116 (by rw [e]; decide) (wt_5 _)) (fun e => ?_)
  refine p2_eq rfl rfl (fun e => two c' (by rw [e]; decide) (wt_5 _)) (fun e => ?_)
  refine p2_eq rfl rfl (fun e => ?_) (fun e => b53)
  exact p2_eq rfl rfl (fun e2 => two c' (by rw [e]; decide) (wt_5 _)) (fun e2 => b53)
end ESS
theorem t2_hasSign_l2 {r n : Nat} {σ τ : RS9} (hn : n ≤ rLen r ∧ n ≤ 1400) (hrd : ∀ i, i < n → τ.2 r i = σ.2 r i) : ∀ (d k : Nat), k ≤ n → 2000 < k + d → P2 (mX9_hasSign_l2 d r (nI n) (nI k) σ) (mX9_hasSign_l2 d r (nI n) (nI k) τ) (fun v σ' v' τ' => σ' = σ ∧ τ' = τ ∧ v' = v ∧ True) := by
  intro d
  induction d with
  | zero => intro k hk hm; exfalso; omega
  | succ d ih =>
    intro k hk hm
    have ek : (nI k).toInt = (k : Int) := nI_toInt (by omega)
    have en : (nI n).toInt = (n : Int) := nI_toInt (by omega)
    have b31 : P2 (mX9_hasSign_b31 σ) (mX9_hasSign_b31 τ) (fun v σ' v' τ' => σ' = σ ∧ τ' = τ ∧ v' = v ∧ True) := p2_ck rfl rfl (p2_ret ⟨rfl, rfl, rfl, trivial⟩)
    unfold mX9_hasSign_l2
    refine p2_le en ek rfl rfl (fun q => ?_) (fun q => ?_)
    · exact p2_ck rfl rfl (p2_ret ⟨rfl, rfl, rfl, trivial⟩)
    · have hl : rLen r < 2 ^ 31 ∨ True := Or.inr trivial
      have ck : rIn (nI k) (rLen r) = true := by
        unfold rIn
        rw [nI_clamp (by omega)]
        simp only [Bool.and_eq_true, Bool.not_eq_true', decide_eq_false_iff_not, decide_eq_true_eq]
        exact ⟨nI_pos (by omega), by omega⟩
      have h0 : rGa τ r (nI k) = rGa σ r (nI k) := by rw [rd_nI (by omega), rd_nI (by omega)]; exact hrd k (by omega)
      refine p2_ck ck ck (p2_eq h0 rfl (fun _ => b31) (fun _ => ?_))
      refine p2_ck ck ck (p2_eq h0 rfl (fun _ => b31) (fun _ => ?_))
      refine p2_ck ck ck (p2_eq h0 rfl (fun _ => b31) (fun _ => ?_))
      rw [nI_1]
      exact ih (k + 1) (by omega) (by omega)
theorem t2_hasSign {r n : Nat} {σ τ : RS9} (hn : n ≤ rLen r ∧ n ≤ 1400) (hrd : ∀ i, i < n → τ.2 r i = σ.2 r i) : P2 (mX9_hasSign r (nI n) σ) (mX9_hasSign r (nI n) τ) (fun v σ' v' τ' => σ' = σ ∧ τ' = τ ∧ v' = v ∧ True) := by
  unfold mX9_hasSign
  exact t2_hasSign_l2 hn hrd rFU 0 (by omega) (by unfold rFU; omega)
