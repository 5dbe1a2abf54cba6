/-! what stands between two calls -/
def UN (σ : RS9) : Prop := ∃ u : Nat, σ.1 5 = nI u ∧ u ≤ 8 ∧ ∀ s, s < u → GOOD (fun i => σ.2 4 (4347 * s + i))
def IM (σ : RS9) : Prop := (σ.1 6 = 0 ∨ σ.1 6 = 1) ∧ (σ.1 6 ≠ 0 → GOOD (σ.2 3))
def RI (σ : RS9) : Prop := CORE σ ∧ (0 ≤ (σ.1 9).toInt ∧ (σ.1 9).toInt ≤ 400) ∧ UN σ ∧ IM σ
def RP {α : Type} (t : Int32) (_ : α) (σ' : RS9) : Prop := RI σ' ∧ σ'.1 9 = t
theorem un_fr {σ σ' : RS9} (h : UN σ) (h4 : σ'.2 4 = σ.2 4) (h5 : σ'.1 5 = σ.1 5) : UN σ' := by
  unfold UN at h ⊢
  rw [h4, h5]; exact h
theorem im_fr {σ σ' : RS9} (h : IM σ) (h3 : σ'.2 3 = σ.2 3) (h6 : σ'.1 6 = σ.1 6) : IM σ' := by
  unfold IM at h ⊢
  rw [h3, h6]; exact h
theorem ri_fr {σ σ' : RS9} (h : RI σ) (hr : ∀ k, k = 1 ∨ k = 3 ∨ k = 4 ∨ (34 ≤ k ∧ k ≤ 42) → σ'.2 k = σ.2 k) (hf : ∀ k, k = 5 ∨ k = 6 ∨ k = 33 ∨ k = 45 → σ'.1 k = σ.1 k) (h9 : 0 ≤ (σ'.1 9).toInt ∧ (σ'.1 9).toInt ≤ 400) : RI σ' := ⟨core_fr h.1 (hr 1 (by omega)) (fun k a b => hr k (by omega)) (hf 33 (by omega)) (hf 45 (by omega)), h9, un_fr h.2.2.1 (hr 4 (by omega)) (hf 5 (by omega)), im_fr h.2.2.2 (hr 3 (by omega)) (hf 6 (by omega))⟩
theorem core_x {σ : RS9} (hC : CORE σ) : ∃ p M : Nat, CP p σ ∧ BA p σ σ ∧ SRT p M σ ∧ (∀ i, i < p → 0 ≤ bo σ i) ∧ sm σ p ≤ 600 := by
  obtain ⟨hV, ⟨p, R, h1, h2, h3⟩, p', e, h4, h5, h6⟩ := hC
  obtain ⟨p2, R2, -, -, -, hc, -⟩ := ct_two hV (fun i _ _ => rfl)
  have hB : BA p σ (CT (σ.2 1)) := ba_of h3 hV (by rw [hc]; exact fun _ _ _ => rfl)
  have ep : p' = p := nI_inj (by omega) (by have := h3.2.2.1; omega) (e.symm.trans h3.1)
  subst ep
  refine ⟨p', R, ⟨h3.1, h4, hV, fun i hi => ?_⟩, ba_self hB, ⟨h1, h2, fun i hi => ?_⟩, h5, h6⟩
  · obtain ⟨b1, b2, b3, b4, b5, b6, b7, b8⟩ := h3.2.2.2.2.2.2.2 i hi
    have := h3.2.2.2.2.2.1
    exact ⟨b2, b3, by omega, b6, b7, by omega⟩
  · obtain ⟨b1, b2, b3, b4, b5, -⟩ := h3.2.2.2.2.2.2.2 i hi
    exact ⟨b4, b5⟩
section QRY
variable {σ : RS9}
theorem ri_0 (h : RI σ) {v : Int32} : RI (rSf σ 0 v) := ri_fr h (fun _ _ => rfl) (fun k hk => sf_ne (by omega)) h.2.1
theorem ri_90 (h : RI σ) : RI (rSf σ 9 0) := ri_fr h (fun _ _ => rfl) (fun k hk => sf_ne (by omega)) (by rw [sf_eq]; decide)
theorem rp_0 (h : RI σ) {α : Type} {v : Int32} {w : α} : RP (σ.1 9) w (rSf σ 0 v) := ⟨ri_0 h, sf_ne (by decide)⟩
theorem ur_fault (h : RI σ) : P1 (mX9_fault σ) (RP (σ.1 9)) := q1_ret (rp_0 h)
theorem ur_why (h : RI σ) : P1 (mX9_why σ) (RP (σ.1 9)) := q1_ret (rp_0 h)
/-- what only looks, behind thrown = .. -/
theorem ro_rp (h : RI σ) {α : Type} {o : Option (α × RS9)} {P : α → Prop} {v : Int32} (ho : P1 o (fun w σ' => σ' = rSf σ 0 v ∧ P w)) : P1 o (RP (σ.1 9)) := q1_tail ho (fun w s hs => by rw [hs.1]; exact rp_0 h)
theorem o_holder_l7 {p : Nat} (hC : CP p σ) {x : Int32} : ∀ (d : Nat) (v2 : Int32), (0 ≤ v2.toInt ∧ v2.toInt ≤ 100) → 1000 - v2.toInt < (d : Int) → P1 (mX9_holder_l7 d x v2 σ) (fun v σ' => σ' = σ ∧ True) := by
  have hp := hC.2.1
  intro d
  induction d with
  | zero => intro v2 _ hm; exfalso; omega
  | succ d ih =>
    intro v2 h2 hm
    unfold mX9_holder_l7
    refine q1_le (cp_33 hC) rfl (fun q => q1_ret ⟨rfl, trivial⟩) (fun q => ?_)
    have e2 : (v2 + (1 : Int32)).toInt = v2.toInt + 1 := i_add rfl kt_1 (by omega)
    refine q1_ck (cp_ck hC (by omega) rfl) (q1_ck (cp_ck hC (by omega) rfl) ?_)
    refine q1_ro o_isIn (fun y _ => ?_)
    dsimp only
    exact q1_eq (fun _ => ih _ (by omega) (by omega)) (fun _ => q1_ret ⟨rfl, trivial⟩)
theorem ur_holder (h : RI σ) {x : Int32} : P1 (mX9_holder x σ) (RP (σ.1 9)) := by
  obtain ⟨p, M, hC, -⟩ := core_x h.1
  exact ro_rp h (o_holder_l7 (cp_sf (v := 0) hC (by decide)) rFU 0 (by decide) (by unfold rFU; rw [kt_0]; omega))
theorem o_like_l31 {p : Nat} (hC : CP p σ) {x k : Int32} (hx : 0 ≤ x.toInt ∧ x.toInt < (p : Int)) : ∀ (d : Nat) (v3 v4 : Int32), (0 ≤ v4.toInt ∧ v4.toInt ≤ 100) → 1000 - v4.toInt < (d : Int) → P1 (mX9_like_l31 d x k v3 v4 σ) (fun v σ' => σ' = σ ∧ True) := by
  have hp := hC.2.1
  intro d
  induction d with
  | zero => intro v3 v4 _ hm; exfalso; omega
  | succ d ih =>
    intro v3 v4 h4 hm
    unfold mX9_like_l31
    refine q1_le (cp_33 hC) rfl (fun q => q1_ret ⟨rfl, trivial⟩) (fun q => ?_)
    have e4 : (v4 + (1 : Int32)).toInt = v4.toInt + 1 := i_add rfl kt_1 (by omega)
    refine q1_ro (o_areLike hC hx (by omega)) (fun y _ => ?_)
    dsimp only
    refine q1_eq (fun _ => ih _ _ (by omega) (by omega)) (fun _ => ?_)
    exact q1_eq (fun _ => q1_ret ⟨rfl, trivial⟩) (fun _ => ih _ _ (by omega) (by omega))
theorem le0 {s : Int32} {β : Type} {Q : β → RS9 → Prop} {A B : Option (β × RS9)} (h1 : s.toInt ≤ 0 → P1 A Q) (h2 : 0 < s.toInt → P1 B Q) : P1 (if s ≤ (0 : Int32) then A else B) Q := q1_le rfl kt_0 h1 h2
theorem ur_like (h : RI σ) {x k : Int32} : P1 (mX9_like x k σ) (RP (σ.1 9)) := by
  obtain ⟨p, M, hC, -⟩ := core_x h.1
  unfold mX9_like
  refine q1_ro (o_isPieceThere hC) (fun y hy => ?_)
  dsimp only
  refine q1_eq (fun q => ?_) (fun q => ?_)
  · unfold mX9_like_b14
    exact le0 (fun e => absurd e (by decide)) (fun _ => q1_ret (rp_0 h))
  · unfold mX9_like_b14
    exact le0 (fun _ => ro_rp h (o_like_l31 (cp_sf (v := 0) hC (by decide)) (hy.2 q) rFU _ 0 (by decide) (by unfold rFU; rw [kt_0]; omega))) (fun e => absurd e (by decide))
theorem ur_octet (h : RI σ) {x k w : Int32} : P1 (mX9_octet x k w σ) (RP (σ.1 9)) := by
  obtain ⟨p, M, hC, -⟩ := core_x h.1
  unfold mX9_octet
  refine q1_ro (o_isPieceThere hC) (fun y hy => ?_)
  dsimp only
  refine q1_eq (fun q => ?_) (fun q => ?_)
  · unfold mX9_octet_b14
    exact le0 (fun e => absurd e (by decide)) (fun _ => q1_ret (rp_0 h))
  · have hx := hy.2 q
    have hC0 : CP p (rSf σ 0 0) := cp_sf hC (by decide)
    have h1 := cp_rd hC hx
    have hn := nm_b hC0 hx
    have b46 : ∀ s2 : Int32, (w = 0 → s2 = rGa σ 42 x) → (w ≠ 0 → s2.toInt = nm9 (rSf σ 0 0) x) → P1 (mX9_octet_b46 x k w k 0 s2 (rSf σ 0 0)) (RP (σ.1 9)) := fun s2 g1 g2 => by
      unfold mX9_octet_b46
      have es : 0 ≤ s2.toInt ∧ s2.toInt ≤ 600 := by
        by_cases e : w = 0
        · rw [g1 e]; omega
        · rw [g2 e]; omega
      have e1 : (s2 - (1 : Int32)).toInt = s2.toInt - 1 := i_sub rfl kt_1 (by omega)
      refine q1_ro o_isIn (fun z hz => ?_)
      dsimp only
      refine q1_eq (fun q2 => q1_ret (rp_0 h)) (fun q2 => ?_)
      have hk := hz.2 q2
      rw [e1, kt_0] at hk
      refine q1_eq (fun q3 => ?_) (fun q3 => ?_)
      · have e2 : ((rGa (rSf σ 0 0) 41 x) + k).toInt = (rGa σ 41 x).toInt + k.toInt := i_add rfl rfl (by have := g1 q3; rw [this] at hk; omega)
        have := g1 q3
        rw [this] at hk
        exact q1_ck (cp_ck hC hx rfl) (q1_ck (in_of (N := 600) (by omega) (by omega)) (q1_ret (rp_0 h)))
      · refine q1_ro (o_nowByte hC0 hx (by have := g2 q3; omega)) (fun z2 _ => ?_)
        exact q1_ret (rp_0 h)
    unfold mX9_octet_b14
    refine le0 (fun _ => ?_) (fun e => absurd e (by decide))
    refine q1_eq (fun q2 => ?_) (fun q2 => ?_)
    · exact q1_ck (cp_ck hC hx rfl) (b46 _ (fun _ => rfl) (fun e => absurd q2 e))
    · refine q1_ro (o_nowMany hC0 hx) (fun z hz => ?_)
      exact b46 _ (fun e => absurd e q2) (fun _ => hz)
theorem ur_origin (h : RI σ) {x k : Int32} : P1 (mX9_origin x k σ) (RP (σ.1 9)) := by
  obtain ⟨p, M, hC, -⟩ := core_x h.1
  unfold mX9_origin
  refine q1_ro (o_isPieceThere hC) (fun y hy => ?_)
  dsimp only
  refine q1_eq (fun q => ?_) (fun q => ?_)
  · unfold mX9_origin_b14
    exact le0 (fun e => absurd e (by decide)) (fun _ => q1_ret (rp_0 h))
  · have hx := hy.2 q
    have h1 := cp_rd hC hx
    have e1 : ((rGa σ 42 x) - (1 : Int32)).toInt = (rGa σ 42 x).toInt - 1 := i_sub rfl kt_1 (by omega)
    unfold mX9_origin_b14
    refine le0 (fun _ => ?_) (fun e => absurd e (by decide))
    refine q1_ck (cp_ck hC hx rfl) ?_
    refine q1_ro o_isIn (fun z hz => ?_)
    dsimp only
    refine q1_eq (fun q2 => q1_ret (rp_0 h)) (fun q2 => ?_)
    have hk := hz.2 q2
    rw [e1, kt_0] at hk
    have e2 : ((rGa (rSf σ 0 0) 41 x) + k).toInt = (rGa σ 41 x).toInt + k.toInt := i_add rfl rfl (by omega)
    exact q1_ck (cp_ck hC hx rfl) (q1_ck (in_of (N := 600) (by omega) (by omega)) (q1_ret (rp_0 h)))
theorem ur_key (h : RI σ) {x w : Int32} : P1 (mX9_key x w σ) (RP (σ.1 9)) := by
  obtain ⟨p, M, hC, -⟩ := core_x h.1
  have b27 : ∀ s : Int32, 0 < s.toInt → P1 (mX9_key_b27 x w s σ) (RP (σ.1 9)) := fun s hs => by
    unfold mX9_key_b27
    exact le0 (fun e => by omega) (fun _ => q1_ret (rp_0 h))
  unfold mX9_key
  refine q1_ro (o_isPieceThere hC) (fun y hy => ?_)
  dsimp only
  refine q1_eq (fun q => b27 1 (by decide)) (fun q => ?_)
  have hx := hy.2 q
  refine q1_ro o_isIn (fun z hz => ?_)
  dsimp only
  refine q1_eq (fun q2 => b27 2 (by decide)) (fun q2 => ?_)
  unfold mX9_key_b27
  refine le0 (fun _ => ?_) (fun e => absurd e (by decide))
  refine q1_ck rfl (q1_eq (fun _ => ?_) (fun _ => q1_ret (rp_0 h)))
  exact q1_eq (fun _ => q1_ck (cp_ck hC hx rfl) (q1_ret (rp_0 h))) (fun _ => q1_ck (cp_ck hC hx rfl) (q1_ret (rp_0 h)))
theorem ur_memory (h : RI σ) {a b c : Int32} : P1 (mX9_memory a b c σ) (RP (σ.1 9)) := by
  have hv := h.1.1
  have h42 := hv.2.2.2.1
  have e42 : ((rGa σ 1 (42 : Int32)) - (1 : Int32)).toInt = (σ.2 1 42).toInt - 1 := i_sub (show (rGa σ 1 (42 : Int32)).toInt = (σ.2 1 42).toInt from rfl) kt_1 (by omega)
  unfold mX9_memory
  refine q1_ck rfl ?_
  refine q1_ro o_isIn (fun z hz => ?_)
  dsimp only
  refine q1_eq (fun q2 => q1_ret (rp_0 h)) (fun q2 => ?_)
  have ha := hz.2 q2
  rw [e42, kt_0] at ha
  have e0 : ((122 : Int32) * a).toInt = 122 * a.toInt := i_mul (show (122 : Int32).toInt = 122 by decide) rfl (by omega)
  have e1 : ((2883 : Int32) + ((122 : Int32) * a)).toInt = 2883 + 122 * a.toInt := i_add (show (2883 : Int32).toInt = 2883 by decide) e0 (by omega)
  have b42 : ∀ (w : Int32) (j : Nat), w.toInt = 61 * (j : Int) → j ≤ 1 → P1 (mX9_memory_b42 c ((2883 : Int32) + ((122 : Int32) * a)) w (rSf σ 0 0)) (RP (σ.1 9)) := fun w j hw hj => by
    have e2 : (((2883 : Int32) + ((122 : Int32) * a)) + w).toInt = 2883 + 122 * a.toInt + 61 * (j : Int) := i_add e1 hw (by omega)
    have h60 : 0 ≤ (rGa σ 1 (((2883 : Int32) + ((122 : Int32) * a)) + w)).toInt ∧ (rGa σ 1 (((2883 : Int32) + ((122 : Int32) * a)) + w)).toInt ≤ 60 := by
      have hidx : (((2883 : Int32) + ((122 : Int32) * a)) + w).toNatClampNeg = 2883 + 61 * (2 * a.toInt.toNat + j) := by rw [tn]; omega
      unfold rGa
      rw [hidx]
      exact hv.2.2.2.2.2.1 _ (by omega)
    unfold mX9_memory_b42
    refine q1_ck (in_of (N := 4347) (by omega) (by omega)) ?_
    refine q1_ro o_isIn (fun z2 hz2 => ?_)
    dsimp only
    refine q1_eq (fun q3 => q1_ret (rp_0 h)) (fun q3 => ?_)
    have hc := hz2.2 q3
    rw [kt_0] at hc
    have e9 : ((rGa (rSf σ 0 0) 1 (((2883 : Int32) + ((122 : Int32) * a)) + w)) - (1 : Int32)).toInt = (rGa σ 1 (((2883 : Int32) + ((122 : Int32) * a)) + w)).toInt - 1 := i_sub rfl kt_1 (by omega)
    have hc59 : c.toInt ≤ 59 := by omega
    have e3 : ((((2883 : Int32) + ((122 : Int32) * a)) + w) + (1 : Int32)).toInt = 2883 + 122 * a.toInt + 61 * (j : Int) + 1 := i_add e2 kt_1 (by omega)
    have e4 : (((((2883 : Int32) + ((122 : Int32) * a)) + w) + (1 : Int32)) + c).toInt = 2883 + 122 * a.toInt + 61 * (j : Int) + 1 + c.toInt := i_add e3 rfl (by omega)
    exact q1_ck (in_of (N := 4347) (by omega) (by omega)) (q1_ret (rp_0 h))
  exact q1_eq (fun _ => b42 0 0 (by decide) (by decide)) (fun _ => b42 61 1 (by decide) (by decide))
end QRY
