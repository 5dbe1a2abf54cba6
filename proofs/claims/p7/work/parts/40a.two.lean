/-! the reference: two runs side by side -/
def P2 {α : Type} (o o' : Option (α × RS9)) (Q : α → RS9 → α → RS9 → Prop) : Prop := ∃ v σ v' τ, o = some (v, σ) ∧ o' = some (v', τ) ∧ Q v σ v' τ
section P2S
variable {α β : Type} {Q : β → RS9 → β → RS9 → Prop} {σ τ : RS9}
theorem p2_ret {v v' : β} (h : Q v σ v' τ) : P2 (some (v, σ)) (some (v', τ)) Q := ⟨v, σ, v', τ, rfl, rfl, h⟩
theorem p2_ck {b b' : Bool} {x x' : Option (β × RS9)} (hb : b = true) (hb' : b' = true) (h : P2 x x' Q) : P2 (rCk b x) (rCk b' x') Q := by rw [hb, hb']; exact h
theorem p2_call {o o' : Option (α × RS9)} {Q1 : α → RS9 → α → RS9 → Prop} {k k' : α × RS9 → Option (β × RS9)} (h1 : P2 o o' Q1) (h : ∀ v σ v' τ, Q1 v σ v' τ → P2 (k (v, σ)) (k' (v', τ)) Q) : P2 (o.bind k) (o'.bind k') Q := by
  obtain ⟨v, σ, v', τ, e, e', q⟩ := h1
  rw [e, e']; exact h v σ v' τ q
theorem p2_ro {o o' : Option (α × RS9)} {P : α → Prop} {k k' : α × RS9 → Option (β × RS9)} (h1 : P2 o o' (fun v σ' v' τ' => σ' = σ ∧ τ' = τ ∧ v' = v ∧ P v)) (h : ∀ v, P v → P2 (k (v, σ)) (k' (v, τ)) Q) : P2 (o.bind k) (o'.bind k') Q := by
  obtain ⟨v, σ', v', τ', e, e', a, b, c, q⟩ := h1
  subst a b c
  rw [e, e']; exact h v' q
theorem p2_tail {o o' : Option (β × RS9)} {Q1 : β → RS9 → β → RS9 → Prop} (h1 : P2 o o' Q1) (h : ∀ v σ v' τ, Q1 v σ v' τ → Q v σ v' τ) : P2 o o' Q := by
  obtain ⟨v, σ, v', τ, e, e', q⟩ := h1
  exact ⟨v, σ, v', τ, e, e', h v σ v' τ q⟩
theorem p2_lt {x y x' y' : Int32} {a b : Int} {A B A' B' : Option (β × RS9)} (ex : x.toInt = a) (ey : y.toInt = b) (hx : x' = x) (hy : y' = y) (h1 : a < b → P2 A A' Q) (h2 : b ≤ a → P2 B B' Q) : P2 (if x < y then A else B) (if x' < y' then A' else B') Q := by
  subst ex ey hx hy
  by_cases h : x'.toInt < y'.toInt
  · rw [if_pos (c_lt h), if_pos (c_lt h)]; exact h1 h
  · rw [if_neg (c_nlt (by omega)), if_neg (c_nlt (by omega))]; exact h2 (by omega)
theorem p2_le {x y x' y' : Int32} {a b : Int} {A B A' B' : Option (β × RS9)} (ex : x.toInt = a) (ey : y.toInt = b) (hx : x' = x) (hy : y' = y) (h1 : a ≤ b → P2 A A' Q) (h2 : b < a → P2 B B' Q) : P2 (if x ≤ y then A else B) (if x' ≤ y' then A' else B') Q := by
  subst ex ey hx hy
  by_cases h : x'.toInt ≤ y'.toInt
  · rw [if_pos (c_le h), if_pos (c_le h)]; exact h1 h
  · rw [if_neg (c_nle (by omega)), if_neg (c_nle (by omega))]; exact h2 (by omega)
theorem p2_eq {x y x' y' : Int32} {A B A' B' : Option (β × RS9)} (hx : x' = x) (hy : y' = y) (h1 : x = y → P2 A A' Q) (h2 : x ≠ y → P2 B B' Q) : P2 (if x = y then A else B) (if x' = y' then A' else B') Q := by
  subst hx hy
  by_cases h : x' = y'
  · rw [if_pos h, if_pos h]; exact h1 h
  · rw [if_neg h, if_neg h]; exact h2 h
theorem p2_eqN {x y : Nat} {A B A' B' : Option (β × RS9)} (h1 : x = y → P2 A A' Q) (h2 : x ≠ y → P2 B B' Q) : P2 (if x = y then A else B) (if x = y then A' else B') Q := by
  by_cases h : x = y
  · rw [if_pos h, if_pos h]; exact h1 h
  · rw [if_neg h, if_neg h]; exact h2 h
end P2S
theorem sa_ne {σ : RS9} {k r : Nat} {x v : Int32} (h : r ≠ k) : (rSa σ k x v).2 r = σ.2 r := if_neg h
theorem sa_eq {σ : RS9} {k : Nat} {x v : Int32} {i : Nat} : (rSa σ k x v).2 k i = if i = x.toNatClampNeg then v else σ.2 k i := by
  show (if k = k then upd (σ.2 k) x.toNatClampNeg v else σ.2 k) i = _
  rw [if_pos rfl]; rfl
theorem sa_nI {σ : RS9} {k : Nat} {v : Int32} {c i : Nat} (hc : c < 2 ^ 31) : (rSa σ k (nI c) v).2 k i = if i = c then v else σ.2 k i := by rw [sa_eq, nI_clamp hc]
theorem sf_eq {σ : RS9} {k : Nat} {v : Int32} : (rSf σ k v).1 k = v := if_pos rfl
theorem sf_ne {σ : RS9} {k j : Nat} {v : Int32} (h : j ≠ k) : (rSf σ k v).1 j = σ.1 j := if_neg h
theorem tn {x : Int32} : x.toNatClampNeg = x.toInt.toNat := rfl
/-! cutting one row: what stands while it is cut -/
def FRc (of ti wh : Nat) (σ0 σ : RS9) : Prop := (∀ k, k ≠ of → k ≠ ti → k ≠ wh → (of = 17 → k ≠ 20 ∧ k ≠ 21) → σ.2 k = σ0.2 k) ∧ ∀ k, k ≠ 54 → σ.1 k = σ0.1 k
def CE (N : Int) (of ti wh : Nat) (a : Int) (σ τ : RS9) (i : Nat) : Prop := τ.2 of i = σ.2 of i ∧ τ.2 ti i = σ.2 ti i ∧ τ.2 wh i = σ.2 wh i ∧ (i : Int) ≤ (σ.2 of i).toInt ∧ (σ.2 of i).toInt < (σ.2 ti i).toInt ∧ ((σ.2 ti i).toInt ≤ a ∧ (σ.2 ti i).toInt ≤ N) ∧ (∀ j, j < i → (σ.2 ti j).toInt ≤ (σ.2 of i).toInt) ∧ (σ.2 wh i = 0 ∨ σ.2 wh i = 1)
def CK (N : Int) (σ τ : RS9) (i : Nat) : Prop := τ.2 20 i = σ.2 20 i ∧ τ.2 21 i = σ.2 21 i ∧ 0 ≤ (σ.2 20 i).toInt ∧ (σ.2 20 i).toInt + (σ.2 21 i).toInt ≤ N
def CU (r : Nat) (N : Int) (of ti wh : Nat) (σ0 τ0 : RS9) (a : Int) (c kx : Nat) (σ τ : RS9) : Prop := (∀ i : Nat, (i : Int) < N → τ.2 r i = σ.2 r i) ∧ FRc of ti wh σ0 σ ∧ FRc of ti wh τ0 τ ∧ σ.1 54 = nI c ∧ τ.1 54 = nI c ∧ (c : Int) ≤ a ∧ (∀ i, i < c → CE N of ti wh a σ τ i) ∧ (of = 17 → ∀ i, i < kx → CK N σ τ i)
def RW (r of ti wh : Nat) : Prop := rLen r = 600 ∧ rLen of = 600 ∧ rLen ti = 600 ∧ rLen wh = 600 ∧ r ≠ of ∧ r ≠ ti ∧ r ≠ wh ∧ r ≠ 20 ∧ r ≠ 21 ∧ of ≠ ti ∧ of ≠ wh ∧ ti ≠ wh ∧ of ≠ 20 ∧ of ≠ 21 ∧ ti ≠ 20 ∧ ti ≠ 21 ∧ wh ≠ 20 ∧ wh ≠ 21
section CUS
variable {r of ti wh c kx : Nat} {N a : Int} {σ0 τ0 σ τ : RS9}
theorem cu_rd (h : CU r N of ti wh σ0 τ0 a c kx σ τ) {x : Int32} (hx : 0 ≤ x.toInt ∧ x.toInt < N) : rGa τ r x = rGa σ r x := h.1 x.toNatClampNeg (by rw [tn]; omega)
theorem cu_mono (h : CU r N of ti wh σ0 τ0 a c kx σ τ) {a' : Int} (ha : a ≤ a') : CU r N of ti wh σ0 τ0 a' c kx σ τ := by
  obtain ⟨h1, h2, h3, h4, h5, h6, h7, h8⟩ := h
  refine ⟨h1, h2, h3, h4, h5, by omega, fun i hi => ?_, h8⟩
  obtain ⟨b1, b2, b3, b4, b5, b6, b7⟩ := h7 i hi
  exact ⟨b1, b2, b3, b4, b5, by omega, b7⟩
theorem cu_c (h : CU r N of ti wh σ0 τ0 a c kx σ τ) (hN : 0 ≤ N) : (c : Int) ≤ N := by
  by_cases hc : c = 0
  · rw [hc]; exact hN
  · have := h.2.2.2.2.2.2.1 (c - 1) (by omega)
    unfold CE at this
    omega
theorem cu_54 (h : CU r N of ti wh σ0 τ0 a c kx σ τ) : τ.1 54 = σ.1 54 := h.2.2.2.2.1.trans h.2.2.2.1.symm
theorem cu_fx (h : CU r N of ti wh σ0 τ0 a c kx σ τ) (ha : a ≤ 700) : (σ.1 54).toInt = (c : Int) := by
  have := h.2.2.2.2.2.1
  rw [h.2.2.2.1]; exact nI_toInt (by omega)
theorem cu_put (hR : RW r of ti wh) (hN6 : N ≤ 600) (h : CU r N of ti wh σ0 τ0 a c kx σ τ) {x y w : Int32} {a' : Int} (hx : a ≤ x.toInt) (hxy : x.toInt < y.toInt) (hy : y.toInt ≤ a') (h6 : y.toInt ≤ N) (hk : kx ≤ c) (hw : w = 0 ∨ w = 1) : CU r N of ti wh σ0 τ0 a' (c + 1) kx (rSf (rSa (rSa (rSa σ of (σ.1 54) x) ti (σ.1 54) y) wh (σ.1 54) w) 54 (σ.1 54 + 1)) (rSf (rSa (rSa (rSa τ of (τ.1 54) x) ti (τ.1 54) y) wh (τ.1 54) w) 54 (τ.1 54 + 1)) := by
  obtain ⟨h1, h2, h3, h4, h5, h6', h7, h8⟩ := h
  obtain ⟨-, -, -, -, d1, d2, d3, d4, d5, d6, d7, d8, d9, d10, d11, d12, d13, d14⟩ := hR
  have hc : c < 2 ^ 31 := by omega
  have row : ∀ (ρ : RS9) (f : Int32) (k i : Nat), (rSf (rSa (rSa (rSa ρ of f x) ti f y) wh f w) 54 (f + 1)).2 k i = (rSa (rSa (rSa ρ of f x) ti f y) wh f w).2 k i := fun _ _ _ _ => rfl
  have rof : ∀ (ρ : RS9) (i : Nat), (rSf (rSa (rSa (rSa ρ of (nI c) x) ti (nI c) y) wh (nI c) w) 54 (nI c + 1)).2 of i = if i = c then x else ρ.2 of i := fun ρ i => by rw [row, sa_ne d7, sa_ne d6, sa_nI hc]
  have rti : ∀ (ρ : RS9) (i : Nat), (rSf (rSa (rSa (rSa ρ of (nI c) x) ti (nI c) y) wh (nI c) w) 54 (nI c + 1)).2 ti i = if i = c then y else ρ.2 ti i := fun ρ i => by rw [row, sa_ne d8, sa_nI hc, sa_ne d6.symm]
  have rwh : ∀ (ρ : RS9) (i : Nat), (rSf (rSa (rSa (rSa ρ of (nI c) x) ti (nI c) y) wh (nI c) w) 54 (nI c + 1)).2 wh i = if i = c then w else ρ.2 wh i := fun ρ i => by rw [row, sa_nI hc, sa_ne d8.symm, sa_ne d7.symm]
  have rot : ∀ (ρ : RS9) (k : Nat), k ≠ of → k ≠ ti → k ≠ wh → (rSf (rSa (rSa (rSa ρ of (nI c) x) ti (nI c) y) wh (nI c) w) 54 (nI c + 1)).2 k = ρ.2 k := fun ρ k e1 e2 e3 => by
    show (rSa (rSa (rSa ρ of (nI c) x) ti (nI c) y) wh (nI c) w).2 k = ρ.2 k
    rw [sa_ne e3, sa_ne e2, sa_ne e1]
  rw [h4, h5]
  refine ⟨fun i hi => ?_, ⟨fun k e1 e2 e3 e4 => ?_, fun k e => ?_⟩, ⟨fun k e1 e2 e3 e4 => ?_, fun k e => ?_⟩, ?_, ?_, by omega, fun i hi => ?_, fun e i hi => ?_⟩
  · rw [rot τ r d1 d2 d3, rot σ r d1 d2 d3]; exact h1 i hi
  · rw [rot σ k e1 e2 e3]; exact h2.1 k e1 e2 e3 e4
  · exact (if_neg e).trans (h2.2 k e)
  · rw [rot τ k e1 e2 e3]; exact h3.1 k e1 e2 e3 e4
  · exact (if_neg e).trans (h3.2 k e)
  · rw [sf_eq, nI_1]
  · rw [sf_eq, nI_1]
  · unfold CE
    rw [rof, rof, rti, rti, rwh, rwh]
    by_cases hic : i = c
    · simp only [if_pos hic]
      refine ⟨trivial, trivial, trivial, by omega, hxy, ⟨hy, h6⟩, fun j hj => ?_, hw⟩
      rw [rti, if_neg (by omega)]
      have := (h7 j (by omega)).2.2.2.2.2.1.1
      omega
    · simp only [if_neg hic]
      obtain ⟨b1, b2, b3, b4, b5, b6, b7, b8⟩ := h7 i (by omega)
      refine ⟨b1, b2, b3, b4, b5, by omega, fun j hj => ?_, b8⟩
      rw [rti, if_neg (by omega)]
      exact b7 j hj
  · unfold CK
    rw [rot σ 20 d9.symm d11.symm d13.symm, rot σ 21 d10.symm d12.symm d14.symm, rot τ 20 d9.symm d11.symm d13.symm, rot τ 21 d10.symm d12.symm d14.symm]
    exact h8 e i hi
theorem cu_finds (hR : RW r of ti wh) (hN6 : N ≤ 600) (h : CU r N of ti wh σ0 τ0 a c kx σ τ) {x y w : Int32} (a' : Int) (hx : a ≤ x.toInt) (hy : y.toInt ≤ a') (ha : a ≤ a') (h6 : y.toInt ≤ N) (hk : kx ≤ c) : P2 (mX9_finds of ti wh x y w σ) (mX9_finds of ti wh x y w τ) (fun v σ' v' τ' => ∃ c', (c' = c ∨ c' = c + 1) ∧ CU r N of ti wh σ0 τ0 a' c' kx σ' τ') := by
  unfold mX9_finds
  refine p2_lt rfl rfl rfl rfl (fun q => ?_) (fun q => ?_)
  · have hc := h.2.2.2.2.2.1
    have hi : rIn (σ.1 54) 600 = true := by rw [h.2.2.2.1]; exact inb_nI (by omega) (by omega)
    have hi' : rIn (τ.1 54) 600 = true := by rw [cu_54 h]; exact hi
    refine p2_ck (by rw [hR.2.1]; exact hi) (by rw [hR.2.1]; exact hi') ?_
    refine p2_ck (by rw [hR.2.2.1]; exact hi) (by rw [hR.2.2.1]; exact hi') ?_
    refine p2_eq rfl rfl (fun qw => ?_) (fun qw => ?_)
    · unfold mX9_finds_b39
      refine p2_ck (by rw [hR.2.2.2.1]; exact hi) (by rw [hR.2.2.2.1]; exact hi') ?_
      exact p2_ret ⟨c + 1, Or.inr rfl, cu_put hR hN6 h hx q hy h6 hk (Or.inl rfl)⟩
    · unfold mX9_finds_b39
      refine p2_ck (by rw [hR.2.2.2.1]; exact hi) (by rw [hR.2.2.2.1]; exact hi') ?_
      exact p2_ret ⟨c + 1, Or.inr rfl, cu_put hR hN6 h hx q hy h6 hk (Or.inr rfl)⟩
  · exact p2_ret ⟨c, Or.inl rfl, cu_mono h ha⟩
theorem cu_key (hR : RW r of ti wh) (h : CU r N of ti wh σ0 τ0 a (kx + 1) kx σ τ) (ho : of = 17) {x u w : Int32} (hx : x = nI kx) (hk : kx < 600) (hu : 0 ≤ u.toInt ∧ u.toInt + w.toInt ≤ N) : CU r N of ti wh σ0 τ0 a (kx + 1) (kx + 1) (rSa (rSa σ 20 x u) 21 x w) (rSa (rSa τ 20 x u) 21 x w) := by
  obtain ⟨h1, h2, h3, h4, h5, h6', h7, h8⟩ := h
  obtain ⟨-, -, -, -, d1, d2, d3, d4, d5, d6, d7, d8, d9, d10, d11, d12, d13, d14⟩ := hR
  subst hx
  have hc : kx < 2 ^ 31 := by omega
  have rot : ∀ (ρ : RS9) (k : Nat), k ≠ 20 → k ≠ 21 → (rSa (rSa ρ 20 (nI kx) u) 21 (nI kx) w).2 k = ρ.2 k := fun ρ k e1 e2 => by rw [sa_ne e2, sa_ne e1]
  have r20 : ∀ (ρ : RS9) (i : Nat), (rSa (rSa ρ 20 (nI kx) u) 21 (nI kx) w).2 20 i = if i = kx then u else ρ.2 20 i := fun ρ i => by rw [sa_ne (by decide), sa_nI hc]
  have r21 : ∀ (ρ : RS9) (i : Nat), (rSa (rSa ρ 20 (nI kx) u) 21 (nI kx) w).2 21 i = if i = kx then w else ρ.2 21 i := fun ρ i => by rw [sa_nI hc, sa_ne (by decide)]
  refine ⟨fun i hi => ?_, ⟨fun k e1 e2 e3 e4 => ?_, h2.2⟩, ⟨fun k e1 e2 e3 e4 => ?_, h3.2⟩, h4, h5, h6', fun i hi => ?_, fun e i hi => ?_⟩
  · rw [rot τ r d4 d5, rot σ r d4 d5]; exact h1 i hi
  · rw [rot σ k (e4 ho).1 (e4 ho).2]; exact h2.1 k e1 e2 e3 e4
  · rw [rot τ k (e4 ho).1 (e4 ho).2]; exact h3.1 k e1 e2 e3 e4
  · have q := h7 i hi
    unfold CE at q ⊢
    rw [rot σ of d9 d10, rot τ of d9 d10, rot σ ti d11 d12, rot τ ti d11 d12, rot σ wh d13 d14, rot τ wh d13 d14]
    exact q
  · unfold CK
    rw [r20, r20, r21, r21]
    by_cases hik : i = kx
    · simp only [if_pos hik]
      exact ⟨trivial, trivial, hu⟩
    · simp only [if_neg hik]
      exact h8 e i (by omega)
theorem cu_nokey (h : CU r N of ti wh σ0 τ0 a c kx σ τ) (ho : of ≠ 17) {k' : Nat} : CU r N of ti wh σ0 τ0 a c k' σ τ := by
  obtain ⟨h1, h2, h3, h4, h5, h6', h7, h8⟩ := h
  exact ⟨h1, h2, h3, h4, h5, h6', h7, fun e => absurd e ho⟩
end CUS
