/-! part 43a.ri -/
section
/-! what stands between two calls -/
def UN (σ : RS9) : Prop := ∃ u : Nat, σ.1 5 = nI u ∧ u ≤ 8 ∧ ∀ s, s < u → GOOD (fun i => σ.2 4 (4347 * s + i))
def IM (σ : RS9) : Prop := (σ.1 6 = 0 ∨ σ.1 6 = 1) ∧ (σ.1 6 ≠ 0 → GOOD (σ.2 3))
def RI (σ : RS9) : Prop := CORE σ ∧ (0 ≤ (σ.1 9).toInt ∧ (σ.1 9).toInt ≤ 400) ∧ UN σ ∧ IM σ
def RP {α : Type} (t : Int32) (_ : α) (σ' : RS9) : Prop := RI σ' ∧ σ'.1 9 = t
theorem un_fr {σ σ' : RS9} (h : UN σ) (h4 : σ'.2 4 = σ.2 4) (h5 : σ'.1 5 = σ.1 5) : UN σ' := by
  unfold UN at h ⊢
  rw [h4, h5]; exact h
theorem im_fr {σ σ' : RS9} (h : IM σ) (h3 : σ'.2 3 = σ.2 3) (h6 : σ'.1 6 = σ.1 6) : IM σ' := by
  unfold IM at h ⊢
  rw [h3, h6]; exact h
theorem ri_fr {σ σ' : RS9} (h : RI σ) (hr : ∀ k, k = 1 ∨ k = 3 ∨ k = 4 ∨ (34 ≤ k ∧ k ≤ 42) → σ'.2 k = σ.2 k) (hf : ∀ k, k = 5 ∨ k = 6 ∨ k = 33 ∨ k = 45 → σ'.1 k = σ.1 k) (h9 : 0 ≤ (σ'.1 9).toInt ∧ (σ'.1 9).toInt ≤ 400) : RI σ' := ⟨core_fr h.1 (hr 1 (by omega)) (fun k a b => hr k (by omega)) (hf 33 (by omega)) (hf 45 (by omega)), h9, un_fr h.2.2.1 (hr 4 (by omega)) (hf 5 (by omega)), im_fr h.2.2.2 (hr 3 (by omega)) (hf 6 (by omega))⟩
theorem core_x {σ : RS9} (hC : CORE σ) : ∃ p M : Nat, CP p σ ∧ BA p σ σ ∧ SRT p M σ ∧ (∀ i, i < p → 0 ≤ bo σ i) ∧ sm σ p ≤ 600 := by
  obtain ⟨hV, ⟨p, R, h1, h2, h3⟩, p', e, h4, h5, h6⟩ := hC
  obtain ⟨p2, R2, -, -, -, hc, -⟩ := ct_two hV (fun i _ _ => rfl)
  have hB : BA p σ (CT (σ.2 1)) := ba_of h3 hV (by rw [hc]; exact fun _ _ _ => rfl)
  have ep : p' = p := nI_inj (by omega) (by have := h3.2.2.1; omega) (e.symm.trans h3.1)
  subst ep
  refine ⟨p', R, ⟨h3.1, h4, hV, fun i hi => ?_⟩, ba_self hB, ⟨h1, h2, fun i hi => ?_⟩, h5, h6⟩
  · obtain ⟨b1, b2, b3, b4, b5, b6, b7, b8⟩ := h3.2.2.2.2.2.2.2 i hi
    have := h3.2.2.2.2.2.1
    exact ⟨b2, b3, by omega, b6, b7, by omega⟩
  · obtain ⟨b1, b2, b3, b4, b5, -⟩ := h3.2.2.2.2.2.2.2 i hi
    exact ⟨b4, b5⟩
section QRY
variable {σ : RS9}
theorem ri_0 (h : RI σ) {v : Int32} : RI (rSf σ 0 v) := ri_fr h (fun _ _ => rfl) (fun k hk => sf_ne (by omega)) h.2.1
theorem ri_90 (h : RI σ) : RI (rSf σ 9 0) := ri_fr h (fun _ _ => rfl) (fun k hk => sf_ne (by omega)) (by rw [sf_eq]; decide)
theorem rp_0 (h : RI σ) {α : Type} {v : Int32} {w : α} : RP (σ.1 9) w (rSf σ 0 v) := ⟨ri_0 h, sf_ne (by decide)⟩
theorem ur_fault (h : RI σ) : P1 (mX9_fault σ) (RP (σ.1 9)) := q1_ret (rp_0 h)
theorem ur_why (h : RI σ) : P1 (mX9_why σ) (RP (σ.1 9)) := q1_ret (rp_0 h)
/-- what only looks, behind thrown = .. -/
theorem ro_rp (h : RI σ) {α : Type} {o : Option (α × RS9)} {P : α → Prop} {v : Int32} (ho : P1 o (fun w σ' => σ' = rSf σ 0 v ∧ P w)) : P1 o (RP (σ.1 9)) := q1_tail ho (fun w s hs => by rw [hs.1]; exact rp_0 h)
theorem o_holder_l7 {p : Nat} (hC : CP p σ) {x : Int32} : ∀ (d : Nat) (v2 : Int32), (0 ≤ v2.toInt ∧ v2.toInt ≤ 100) → 1000 - v2.toInt < (d : Int) → P1 (mX9_holder_l7 d x v2 σ) (fun v σ' => σ' = σ ∧ True) := by
  have hp := hC.2.1
  intro d
  induction d with
  | zero => intro v2 _ hm; exfalso; omega
  | succ d ih =>
    intro v2 h2 hm
    unfold mX9_holder_l7
    refine q1_le (cp_33 hC) rfl (fun q => q1_ret ⟨rfl, trivial⟩) (fun q => ?_)
    have e2 : (v2 + (1 : Int32)).toInt = v2.toInt + 1 := i_add rfl kt_1 (by omega)
    refine q1_ck (cp_ck hC (by omega) rfl) (q1_ck (cp_ck hC (by omega) rfl) ?_)
    refine q1_ro o_isIn (fun y _ => ?_)
    dsimp only
    exact q1_eq (fun _ => ih _ (by omega) (by omega)) (fun _ => q1_ret ⟨rfl, trivial⟩)
theorem ur_holder (h : RI σ) {x : Int32} : P1 (mX9_holder x σ) (RP (σ.1 9)) := by
  obtain ⟨p, M, hC, -⟩ := core_x h.1
  exact ro_rp h (o_holder_l7 (cp_sf (v := 0) hC (by decide)) rFU 0 (by decide) (by unfold rFU; rw [kt_0]; omega))
theorem o_like_l31 {p : Nat} (hC : CP p σ) {x k : Int32} (hx : 0 ≤ x.toInt ∧ x.toInt < (p : Int)) : ∀ (d : Nat) (v3 v4 : Int32), (0 ≤ v4.toInt ∧ v4.toInt ≤ 100) → 1000 - v4.toInt < (d : Int) → P1 (mX9_like_l31 d x k v3 v4 σ) (fun v σ' => σ' = σ ∧ True) := by
  have hp := hC.2.1
  intro d
  induction d with
  | zero => intro v3 v4 _ hm; exfalso; omega
  | succ d ih =>
    intro v3 v4 h4 hm
    unfold mX9_like_l31
    refine q1_le (cp_33 hC) rfl (fun q => q1_ret ⟨rfl, trivial⟩) (fun q => ?_)
    have e4 : (v4 + (1 : Int32)).toInt = v4.toInt + 1 := i_add rfl kt_1 (by omega)
    refine q1_ro (o_areLike hC hx (by omega)) (fun y _ => ?_)
    dsimp only
    refine q1_eq (fun _ => ih _ _ (by omega) (by omega)) (fun _ => ?_)
    exact q1_eq (fun _ => q1_ret ⟨rfl, trivial⟩) (fun _ => ih _ _ (by omega) (by omega))
theorem le0 {s : Int32} {β : Type} {Q : β → RS9 → Prop} {A B : Option (β × RS9)} (h1 : s.toInt ≤ 0 → P1 A Q) (h2 : 0 < s.toInt → P1 B Q) : P1 (if s ≤ (0 : Int32) then A else B) Q := q1_le rfl kt_0 h1 h2
theorem ur_like (h : RI σ) {x k : Int32} : P1 (mX9_like x k σ) (RP (σ.1 9)) := by
  obtain ⟨p, M, hC, -⟩ := core_x h.1
  unfold mX9_like
  refine q1_ro (o_isPieceThere hC) (fun y hy => ?_)
  dsimp only
  refine q1_eq (fun q => ?_) (fun q => ?_)
  · unfold mX9_like_b14
    exact le0 (fun e => absurd e (by decide)) (fun _ => q1_ret (rp_0 h))
  · unfold mX9_like_b14
    exact le0 (fun _ => ro_rp h (o_like_l31 (cp_sf (v := 0) hC (by decide)) (hy.2 q) rFU _ 0 (by decide) (by unfold rFU; rw [kt_0]; omega))) (fun e => absurd e (by decide))
theorem ur_octet (h : RI σ) {x k w : Int32} : P1 (mX9_octet x k w σ) (RP (σ.1 9)) := by
  obtain ⟨p, M, hC, -⟩ := core_x h.1
  unfold mX9_octet
  refine q1_ro (o_isPieceThere hC) (fun y hy => ?_)
  dsimp only
  refine q1_eq (fun q => ?_) (fun q => ?_)
  · unfold mX9_octet_b14
    exact le0 (fun e => absurd e (by decide)) (fun _ => q1_ret (rp_0 h))
  · have hx := hy.2 q
    have hC0 : CP p (rSf σ 0 0) := cp_sf hC (by decide)
    have h1 := cp_rd hC hx
    have hn := nm_b hC0 hx
    have b46 : ∀ s2 : Int32, (w = 0 → s2 = rGa σ 42 x) → (w ≠ 0 → s2.toInt = nm9 (rSf σ 0 0) x) → P1 (mX9_octet_b46 x k w k 0 s2 (rSf σ 0 0)) (RP (σ.1 9)) := fun s2 g1 g2 => by
      unfold mX9_octet_b46
      have es : 0 ≤ s2.toInt ∧ s2.toInt ≤ 600 := by
        by_cases e : w = 0
        · rw [g1 e]; omega
        · rw [g2 e]; omega
      have e1 : (s2 - (1 : Int32)).toInt = s2.toInt - 1 := i_sub rfl kt_1 (by omega)
      refine q1_ro o_isIn (fun z hz => ?_)
      dsimp only
      refine q1_eq (fun q2 => q1_ret (rp_0 h)) (fun q2 => ?_)
      have hk := hz.2 q2
      rw [e1, kt_0] at hk
      refine q1_eq (fun q3 => ?_) (fun q3 => ?_)
      · have e2 : ((rGa (rSf σ 0 0) 41 x) + k).toInt = (rGa σ 41 x).toInt + k.toInt := i_add rfl rfl (by have := g1 q3; rw [this] at hk; omega)
        have := g1 q3
        rw [this] at hk
        exact q1_ck (cp_ck hC hx rfl) (q1_ck (in_of (N := 600) (by omega) (by omega)) (q1_ret (rp_0 h)))
      · refine q1_ro (o_nowByte hC0 hx (by have := g2 q3; omega)) (fun z2 _ => ?_)
        exact q1_ret (rp_0 h)
    unfold mX9_octet_b14
    refine le0 (fun _ => ?_) (fun e => absurd e (by decide))
    refine q1_eq (fun q2 => ?_) (fun q2 => ?_)
    · exact q1_ck (cp_ck hC hx rfl) (b46 _ (fun _ => rfl) (fun e => absurd q2 e))
    · refine q1_ro (o_nowMany hC0 hx) (fun z hz => ?_)
      exact b46 _ (fun e => absurd e q2) (fun _ => hz)
theorem ur_origin (h : RI σ) {x k : Int32} : P1 (mX9_origin x k σ) (RP (σ.1 9)) := by
  obtain ⟨p, M, hC, -⟩ := core_x h.1
  unfold mX9_origin
  refine q1_ro (o_isPieceThere hC) (fun y hy => ?_)
  dsimp only
  refine q1_eq (fun q => ?_) (fun q => ?_)
  · unfold mX9_origin_b14
    exact le0 (fun e => absurd e (by decide)) (fun _ => q1_ret (rp_0 h))
  · have hx := hy.2 q
    have h1 := cp_rd hC hx
    have e1 : ((rGa σ 42 x) - (1 : Int32)).toInt = (rGa σ 42 x).toInt - 1 := i_sub rfl kt_1 (by omega)
    unfold mX9_origin_b14
    refine le0 (fun _ => ?_) (fun e => absurd e (by decide))
    refine q1_ck (cp_ck hC hx rfl) ?_
    refine q1_ro o_isIn (fun z hz => ?_)
    dsimp only
    refine q1_eq (fun q2 => q1_ret (rp_0 h)) (fun q2 => ?_)
    have hk := hz.2 q2
    rw [e1, kt_0] at hk
    have e2 : ((rGa (rSf σ 0 0) 41 x) + k).toInt = (rGa σ 41 x).toInt + k.toInt := i_add rfl rfl (by omega)
    exact q1_ck (cp_ck hC hx rfl) (q1_ck (in_of (N := 600) (by omega) (by omega)) (q1_ret (rp_0 h)))
theorem ur_key (h : RI σ) {x w : Int32} : P1 (mX9_key x w σ) (RP (σ.1 9)) := by
  obtain ⟨p, M, hC, -⟩ := core_x h.1
  have b27 : ∀ s : Int32, 0 < s.toInt → P1 (mX9_key_b27 x w s σ) (RP (σ.1 9)) := fun s hs => by
    unfold mX9_key_b27
    exact le0 (fun e => by omega) (fun _ => q1_ret (rp_0 h))
  unfold mX9_key
  refine q1_ro (o_isPieceThere hC) (fun y hy => ?_)
  dsimp only
  refine q1_eq (fun q => b27 1 (by decide)) (fun q => ?_)
  have hx := hy.2 q
  refine q1_ro o_isIn (fun z hz => ?_)
  dsimp only
  refine q1_eq (fun q2 => b27 2 (by decide)) (fun q2 => ?_)
  unfold mX9_key_b27
  refine le0 (fun _ => ?_) (fun e => absurd e (by decide))
  refine q1_ck rfl (q1_eq (fun _ => ?_) (fun _ => q1_ret (rp_0 h)))
  exact q1_eq (fun _ => q1_ck (cp_ck hC hx rfl) (q1_ret (rp_0 h))) (fun _ => q1_ck (cp_ck hC hx rfl) (q1_ret (rp_0 h)))
theorem ur_memory (h : RI σ) {a b c : Int32} : P1 (mX9_memory a b c σ) (RP (σ.1 9)) := by
  have hv := h.1.1
  have h42 := hv.2.2.2.1
  have e42 : ((rGa σ 1 (42 : Int32)) - (1 : Int32)).toInt = (σ.2 1 42).toInt - 1 := i_sub (show (rGa σ 1 (42 : Int32)).toInt = (σ.2 1 42).toInt from rfl) kt_1 (by omega)
  unfold mX9_memory
  refine q1_ck rfl ?_
  refine q1_ro o_isIn (fun z hz => ?_)
  dsimp only
  refine q1_eq (fun q2 => q1_ret (rp_0 h)) (fun q2 => ?_)
  have ha := hz.2 q2
  rw [e42, kt_0] at ha
  have e0 : ((122 : Int32) * a).toInt = 122 * a.toInt := i_mul (show (122 : Int32).toInt = 122 by decide) rfl (by omega)
  have e1 : ((2883 : Int32) + ((122 : Int32) * a)).toInt = 2883 + 122 * a.toInt := i_add (show (2883 : Int32).toInt = 2883 by decide) e0 (by omega)
  have b42 : ∀ (w : Int32) (j : Nat), w.toInt = 61 * (j : Int) → j ≤ 1 → P1 (mX9_memory_b42 c ((2883 : Int32) + ((122 : Int32) * a)) w (rSf σ 0 0)) (RP (σ.1 9)) := fun w j hw hj => by
    have e2 : (((2883 : Int32) + ((122 : Int32) * a)) + w).toInt = 2883 + 122 * a.toInt + 61 * (j : Int) := i_add e1 hw (by omega)
    have h60 : 0 ≤ (rGa σ 1 (((2883 : Int32) + ((122 : Int32) * a)) + w)).toInt ∧ (rGa σ 1 (((2883 : Int32) + ((122 : Int32) * a)) + w)).toInt ≤ 60 := by
      have hidx : (((2883 : Int32) + ((122 : Int32) * a)) + w).toNatClampNeg = 2883 + 61 * (2 * a.toInt.toNat + j) := by rw [tn]; omega
      unfold rGa
      rw [hidx]
      exact hv.2.2.2.2.2.1 _ (by omega)
    unfold mX9_memory_b42
    refine q1_ck (in_of (N := 4347) (by omega) (by omega)) ?_
    refine q1_ro o_isIn (fun z2 hz2 => ?_)
    dsimp only
    refine q1_eq (fun q3 => q1_ret (rp_0 h)) (fun q3 => ?_)
    have hc := hz2.2 q3
    rw [kt_0] at hc
    have e9 : ((rGa (rSf σ 0 0) 1 (((2883 : Int32) + ((122 : Int32) * a)) + w)) - (1 : Int32)).toInt = (rGa σ 1 (((2883 : Int32) + ((122 : Int32) * a)) + w)).toInt - 1 := i_sub rfl kt_1 (by omega)
    have hc59 : c.toInt ≤ 59 := by omega
    have e3 : ((((2883 : Int32) + ((122 : Int32) * a)) + w) + (1 : Int32)).toInt = 2883 + 122 * a.toInt + 61 * (j : Int) + 1 := i_add e2 kt_1 (by omega)
    have e4 : (((((2883 : Int32) + ((122 : Int32) * a)) + w) + (1 : Int32)) + c).toInt = 2883 + 122 * a.toInt + 61 * (j : Int) + 1 + c.toInt := i_add e3 rfl (by omega)
    exact q1_ck (in_of (N := 4347) (by omega) (by omega)) (q1_ret (rp_0 h))
  exact q1_eq (fun _ => b42 0 0 (by decide) (by decide)) (fun _ => b42 61 1 (by decide) (by decide))
end QRY
end
/-! part 43b.qry -/
section
section QRY2
variable {σ : RS9}
theorem rp_x (h : RI σ) {v : Int32} {s : RS9} (hF : FY (rSf σ 0 v) s) {α : Type} {w : α} : RP (σ.1 9) w s := ⟨ri_fr (ri_0 (v := v) h) (fun k hk => hF.1 k (by omega) (by omega) (by omega) (by omega) (by omega)) (fun k hk => hF.2 k (by omega)) (by rw [hF.2 9 (by decide)]; exact h.2.1), (hF.2 9 (by decide)).trans (sf_ne (by decide))⟩
theorem ur_piece (h : RI σ) {x w : Int32} : P1 (mX9_piece x w σ) (RP (σ.1 9)) := by
  have b28 : ∀ s : Int32, 0 < s.toInt → P1 (mX9_piece_b28 x w s σ) (RP (σ.1 9)) := fun s hs => by
    unfold mX9_piece_b28
    exact le0 (fun e => by omega) (fun _ => q1_ret (rp_0 h))
  obtain ⟨p, M, hC, -⟩ := core_x h.1
  unfold mX9_piece
  refine q1_ro (o_isPieceThere hC) (fun y hy => ?_)
  dsimp only
  refine q1_eq (fun q => b28 1 (by decide)) (fun q => ?_)
  have hx := hy.2 q
  refine q1_ro o_isIn (fun z hz => ?_)
  dsimp only
  refine q1_eq (fun q2 => b28 2 (by decide)) (fun q2 => ?_)
  have hC0 : CP p (rSf σ 0 0) := cp_sf hC (by decide)
  have hp := hC.2.1
  obtain ⟨p2, M2, hC2, hB2, hS2, h02, h62⟩ := core_x (ri_0 (v := 0) h).1
  have ep : p2 = p := nI_inj (by have := hC2.2.1; omega) (by omega) (hC2.1.symm.trans hC0.1)
  subst ep
  have ex : x = nI x.toInt.toNat := nI_x hx.1 (by omega)
  unfold mX9_piece_b28
  refine le0 (fun _ => ?_) (fun e => absurd e (by decide))
  refine q1_eq (fun _ => q1_ck (cp_ck hC hx rfl) (q1_ret (rp_0 h))) (fun _ => ?_)
  refine q1_eq (fun _ => q1_ck (cp_ck hC hx rfl) (q1_ret (rp_0 h))) (fun _ => ?_)
  refine q1_eq (fun _ => q1_ck (cp_ck hC hx rfl) (q1_ret (rp_0 h))) (fun _ => ?_)
  refine q1_eq (fun _ => q1_ro (o_nowMany hC0 hx) (fun z _ => q1_ret (rp_0 h))) (fun _ => ?_)
  refine q1_eq (fun _ => q1_ro (o_toldOf hC0 hx) (fun z _ => q1_eq (fun _ => q1_ret (rp_0 h)) (fun _ => q1_ret (rp_0 h)))) (fun _ => ?_)
  refine q1_eq (fun _ => q1_ro (o_likeMany hC0 hx) (fun z _ => q1_ret (rp_0 h))) (fun _ => ?_)
  refine q1_eq (fun _ => q1_ro (o_wordsOf hC0 hx) (fun z _ => q1_ret (rp_0 h))) (fun _ => ?_)
  refine q1_eq (fun _ => q1_ro (o_knownOf hC0 hx) (fun z _ => q1_ret (rp_0 h))) (fun _ => ?_)
  refine q1_eq (fun _ => ?_) (fun _ => ?_)
  · rw [ex]
    refine q1_call (p1_of (t2_builtOf hB2 (i := x.toInt.toNat) (by omega) (fun _ _ _ => rfl))) (fun v s hs => ?_)
    exact q1_ret (rp_x h (fy_x hs.2.1))
  · unfold mX9_builtBegin
    refine q1_call (Q1 := RP (σ.1 9)) ?_ (fun v s hs => q1_ret hs)
    refine q1_call (o_builds hB2 hS2 h02 h62) (fun v s hs => ?_)
    exact q1_ck (cp_ck hC hx rfl) (q1_ret (rp_x h hs.2.1))
theorem ur_at (h : RI σ) {x b : Int32} : P1 (mX9_at x b σ) (RP (σ.1 9)) := by
  obtain ⟨p, M, hC, hB, hS, h0, h6⟩ := core_x (ri_0 (v := 0) h).1
  have hv := h.1.1
  unfold mX9_at
  refine q1_eq (fun _ => ?_) (fun _ => ?_)
  · have e : ((rGa σ 1 (0 : Int32)) - (1 : Int32)).toInt = (σ.2 1 0).toInt - 1 := i_sub (show (rGa σ 1 (0 : Int32)).toInt = (σ.2 1 0).toInt from rfl) kt_1 (by have := hv.1; omega)
    refine q1_ck rfl ?_
    refine q1_ro o_isIn (fun z hz => ?_)
    dsimp only
    refine q1_eq (fun _ => q1_ret (rp_0 h)) (fun q => ?_)
    have hx := hz.2 q
    rw [e, kt_0] at hx
    have := hv.1
    have e2 : ((43 : Int32) + x).toInt = 43 + x.toInt := i_add (show (43 : Int32).toInt = 43 by decide) rfl (by omega)
    exact q1_ck (in_of (N := 4347) (by omega) (by omega)) (q1_ret (rp_0 h))
  · refine q1_call (o_builds hB hS h0 h6) (fun v s hs => ?_)
    dsimp only
    have hlo := sm_lo hB hS h0 p (Nat.le_refl _)
    have htt : tt (rSf σ 0 0) p ≤ M := by
      cases p with
      | zero => show (0 : Int) ≤ M; omega
      | succ j => exact (hS.2.2 j (by omega)).1
    have e : (v - (1 : Int32)).toInt = v.toInt - 1 := i_sub rfl kt_1 (by have := hs.1; omega)
    refine q1_ro o_isIn (fun z hz => ?_)
    dsimp only
    refine q1_eq (fun _ => q1_ret (rp_x h hs.2.1)) (fun q => ?_)
    have hx := hz.2 q
    rw [e, kt_0] at hx
    have := hs.1
    exact q1_ck (in_of (N := 700) (by omega) (by omega)) (q1_ret (rp_x h hs.2.1))
theorem o_tookTold (h : RI σ) : P1 (mX9_tookTold σ) (fun v σ' => v = σ.1 9 ∧ RI σ' ∧ σ'.1 9 = 0 ∧ (∀ k, k ≠ 53 → σ'.2 k = σ.2 k) ∧ ∀ k, k ≠ 9 → σ'.1 k = σ.1 k) := by
  obtain ⟨t, ht6, ht⟩ := nI_back h.2.1.1 (by have := h.2.1.2; omega)
  have ht4 : t ≤ 400 := by have := h.2.1.2; rw [ht, nI_toInt (by omega)] at this; omega
  have key : ∀ (d k : Nat) (s : RS9), (∀ z, z ≠ 53 → s.2 z = σ.2 z) → (∀ z, z ≠ 9 → s.1 z = σ.1 z) → s.1 9 = 0 → k ≤ t → 1000 < k + d → P1 (mX9_tookTold_l7 d (nI t) (nI k) s) (fun v σ' => v = σ.1 9 ∧ RI σ' ∧ σ'.1 9 = 0 ∧ (∀ k, k ≠ 53 → σ'.2 k = σ.2 k) ∧ ∀ k, k ≠ 9 → σ'.1 k = σ.1 k) := by
    intro d
    induction d with
    | zero => intro k s _ _ _ hk hm; exfalso; omega
    | succ d ih =>
      intro k s h1 h2 h9 hk hm
      have fin : P1 (mX9_tookTold_b36 (nI t) s) (fun v σ' => v = σ.1 9 ∧ RI σ' ∧ σ'.1 9 = 0 ∧ (∀ k, k ≠ 53 → σ'.2 k = σ.2 k) ∧ ∀ k, k ≠ 9 → σ'.1 k = σ.1 k) := q1_ret ⟨ht.symm, ri_fr h (fun z hz => h1 z (by omega)) (fun z hz => h2 z (by omega)) (by rw [h9]; decide), h9, h1, h2⟩
      have ek : (nI k).toInt = (k : Int) := nI_toInt (by omega)
      have et : (nI t).toInt = (t : Int) := nI_toInt (by omega)
      unfold mX9_tookTold_l7
      refine q1_le et ek (fun q => fin) (fun q => ?_)
      refine q1_lt (show (60 : Int32).toInt = 60 by decide) et (fun q2 => fin) (fun q2 => ?_)
      rw [nI_1]
      refine q1_ck (inb_nI (n := 400) (by omega) (by decide)) (q1_ck (inb_nI (n := 60) (by omega) (by decide)) ?_)
      exact ih (k + 1) _ (fun z hz => (sa_ne hz).trans (h1 z hz)) h2 h9 (by omega) (by omega)
  unfold mX9_tookTold
  refine q1_bind (show mX9_took σ = some (σ.1 9, rSf σ 9 0) from rfl) ?_
  dsimp only
  have e : mX9_tookTold_l7 rFU (σ.1 9) 0 (rSf σ 9 0) = mX9_tookTold_l7 rFU (nI t) (nI 0) (rSf σ 9 0) := by rw [ht]; rfl
  rw [e]
  exact key rFU 0 _ (fun _ _ => rfl) (fun z hz => sf_ne hz) sf_eq (by omega) (by unfold rFU; omega)
theorem ur_would (h : RI σ) {x : Int32} : P1 (mX9_would x σ) (RP 0) := by
  unfold mX9_would
  refine q1_call (o_tookTold h) (fun v s hs => ?_)
  obtain ⟨hv, hR, h9, hr, hf⟩ := hs
  dsimp only
  obtain ⟨p, M, hC, hB, -⟩ := core_x hR.1
  have hp := hC.2.1
  have done : ∀ (w u : Int32), P1 (mX9_would_b49 w (rSf s 0 u)) (RP 0) := fun w u => q1_ret ⟨ri_0 hR, (sf_ne (by decide)).trans h9⟩
  have b29 : ∀ u : Int32, 0 < u.toInt → P1 (mX9_would_b29 x v u s) (RP 0) := fun u hu => by
    unfold mX9_would_b29
    exact le0 (fun e => by omega) (fun _ => done _ _)
  refine q1_ro (o_isPieceThere hC) (fun y hy => ?_)
  dsimp only
  refine q1_eq (fun q => b29 1 (by decide)) (fun q => ?_)
  have hx := hy.2 q
  refine q1_le rfl (show (60 : Int32).toInt = 60 by decide) (fun q2 => ?_) (fun q2 => b29 2 (by decide))
  unfold mX9_would_b29
  refine le0 (fun _ => ?_) (fun e => absurd e (by decide))
  have hv0 : 0 ≤ v.toInt := by rw [hv]; exact h.2.1.1
  rw [nI_x hx.1 (by omega), nI_x hv0 (by omega)]
  have hB0 : BA p (rSf s 0 0) (rSf s 0 0) := by
    obtain ⟨b1, b2, b3, b4, b5⟩ := hB
    exact ⟨b1, b2, (sf_ne (by decide)).trans b3, (sf_ne (by decide)).trans b4, b5⟩
  refine q1_call (p1_of (t2_escapedFor hB0 (i := x.toInt.toNat) (n := v.toInt.toNat) (by omega) (by omega) (fun _ _ => rfl))) (fun w s2 hs2 => ?_)
  have r := rp_x hR (fy_x (fx_w hs2.2.1)) (w := w)
  rw [h9] at r
  exact q1_ret r
theorem ur_count (h : RI σ) {x : Int32} : P1 (mX9_count x σ) (RP (σ.1 9)) := by
  obtain ⟨p, M, hC, hB, hS, h0, h6⟩ := core_x (ri_0 (v := 0) h).1
  have r : ∀ w : Int32, P1 (some (w, rSf σ 0 0)) (RP (σ.1 9)) := fun w => q1_ret (rp_0 h)
  unfold mX9_count
  refine q1_eq (fun _ => q1_ck rfl (r _)) (fun _ => ?_)
  refine q1_eq (fun _ => q1_ck rfl (r _)) (fun _ => ?_)
  refine q1_eq (fun _ => q1_ck rfl (r _)) (fun _ => ?_)
  refine q1_eq (fun _ => r _) (fun _ => ?_)
  refine q1_eq (fun _ => q1_ro (o_toldMany hC) (fun z _ => r _)) (fun _ => ?_)
  refine q1_eq (fun _ => ?_) (fun _ => ?_)
  · obtain ⟨v, s, e, e2, e3⟩ := builtMany_x hB
    exact q1_bind e (q1_ret (rp_x h (fy_x e3)))
  refine q1_eq (fun _ => q1_ro (o_skeleton hC) (fun z _ => r _)) (fun _ => ?_)
  refine q1_eq (fun _ => q1_ck rfl (r _)) (fun _ => ?_)
  refine q1_eq (fun _ => q1_ck rfl (r _)) (fun _ => ?_)
  refine q1_eq (fun _ => q1_ck rfl (r _)) (fun _ => ?_)
  refine q1_eq (fun _ => q1_ro (o_unlikeTexts hC) (fun z _ => r _)) (fun _ => ?_)
  refine q1_eq (fun _ => q1_ro (o_allWords hC) (fun z _ => r _)) (fun _ => ?_)
  refine q1_eq (fun _ => q1_ck rfl (r _)) (fun _ => ?_)
  refine q1_eq (fun _ => q1_ro (o_longest hC) (fun z _ => r _)) (fun _ => ?_)
  exact q1_eq (fun _ => r _) (fun _ => r _)
theorem ur_found (h : RI σ) : P1 (mX9_found σ) (RP 0) := by
  have hR := ri_90 h
  obtain ⟨p, M, hC, -⟩ := core_x hR.1
  have hp := hC.2.1
  unfold mX9_found
  refine q1_bind (show mX9_took σ = some (σ.1 9, rSf σ 9 0) from rfl) ?_
  dsimp only
  refine q1_ro (o_isWord h.2.1) (fun y hy => ?_)
  dsimp only
  have done : ∀ (w : Int64) (u : Int32), P1 (some (w, rSf (rSf σ 9 0) 0 u)) (RP 0) := fun w u => q1_ret ⟨ri_0 hR, (sf_ne (by decide)).trans sf_eq⟩
  refine q1_eq (fun q => ?_) (fun q => ?_)
  · unfold mX9_found_b19
    exact le0 (fun e => absurd e (by decide)) (fun _ => done _ _)
  · have hn := hy.2 q
    unfold mX9_found_b19
    refine le0 (fun _ => ?_) (fun e => absurd e (by decide))
    have hC0 : CP p (rSf (rSf σ 9 0) 0 0) := cp_sf hC (by decide)
    have key : ∀ (d : Nat) (v2 : Int64) (v4 : Int32), (0 ≤ v4.toInt ∧ v4.toInt ≤ 100) → 1000 - v4.toInt < (d : Int) → P1 (mX9_found_l36 d (σ.1 9) v2 v4 (rSf (rSf σ 9 0) 0 0)) (RP 0) := by
      intro d
      induction d with
      | zero => intro v2 v4 _ hm; exfalso; omega
      | succ d ih =>
        intro v2 v4 h4 hm
        unfold mX9_found_l36
        refine q1_le (cp_33 hC0) rfl (fun q => done _ _) (fun q => ?_)
        have e4 : (v4 + (1 : Int32)).toInt = v4.toInt + 1 := i_add rfl kt_1 (by omega)
        refine q1_ro (o_hasWord hC0 (by omega) hn) (fun y _ => ?_)
        dsimp only
        exact q1_eq (fun _ => ih _ _ (by omega) (by omega)) (fun _ => ih _ _ (by omega) (by omega))
    exact key rFU _ 0 (by decide) (by unfold rFU; rw [kt_0]; omega)
end QRY2
end
/-! part 43c.st -/
section
section STO
variable {σ : RS9}
theorem good_m (hC : CORE σ) : GOOD (σ.2 1) := (tab_good hC.1 hC.2.1).mp hC.2.2
theorem ur_feed (h : RI σ) {a b c d e : Int32} : P1 (mX9_feed a b c d e σ) (fun v σ' => RI σ' ∧ (((σ.1 9).toInt + 20 ≤ 400 ∧ (σ'.1 9).toInt = (σ.1 9).toInt + 20 ∧ v = σ'.1 9) ∨ (400 < (σ.1 9).toInt + 20 ∧ σ'.1 9 = σ.1 9 ∧ v = -1))) := by
  have h9 := h.2.1
  obtain ⟨t, ht6, ht⟩ := nI_back h.2.1.1 (by omega)
  have et : (nI t).toInt = (t : Int) := nI_toInt (by omega)
  rw [ht, et] at h9
  have key : ∀ (dd k : Nat) (s : RS9), (∀ z, z ≠ 8 → s.2 z = σ.2 z) → (∀ z, z ≠ 0 → z ≠ 9 → s.1 z = σ.1 z) → s.1 9 = nI (t + k) → t + 20 ≤ 400 → k ≤ 20 → 100 < k + dd → P1 (mX9_feed_l23 dd a b c d e (nI k) s) (fun v σ' => RI σ' ∧ (σ'.1 9).toInt = (t : Int) + 20 ∧ v = σ'.1 9) := by
    intro dd
    induction dd with
    | zero => intro k s _ _ _ _ hk hm; exfalso; omega
    | succ dd ih =>
      intro k s h1 h2 h3 h4 hk hm
      have ek : (nI k).toInt = (k : Int) := nI_toInt (by omega)
      have e9 : (nI (t + k)).toInt = ((t + k : Nat) : Int) := nI_toInt (by omega)
      have nx : k < 20 → ∀ w : Int32, P1 (mX9_feed_b76 (fun v1 v2 v3 v4 v5 v6 σ => mX9_feed_l23 dd v1 v2 v3 v4 v5 v6 σ) a b c d e (nI k) w s) (fun v σ' => RI σ' ∧ (σ'.1 9).toInt = (t : Int) + 20 ∧ v = σ'.1 9) := fun hk2 w => by
        unfold mX9_feed_b76
        rw [h3]
        refine q1_ck (inb_nI (n := 400) (by omega) (by decide)) ?_
        rw [nI_1, nI_1]
        exact ih (k + 1) _ (fun z hz => (sa_ne hz).trans (h1 z hz)) (fun z z0 z9 => (sf_ne z9).trans (h2 z z0 z9)) sf_eq h4 (by omega) (by omega)
      unfold mX9_feed_l23
      refine q1_le (show (20 : Int32).toInt = 20 by decide) ek (fun q => ?_) (fun q => ?_)
      · have hk20 : k = 20 := by omega
        subst hk20
        refine q1_ret ⟨ri_fr h (fun z hz => h1 z (by omega)) (fun z hz => h2 z (by omega) (by omega)) (by rw [h3, e9]; omega), by rw [h3, e9]; omega, rfl⟩
      · refine q1_le (show (4 : Int32).toInt = 4 by decide) ek (fun _ => ?_) (fun _ => nx (by omega) _)
        refine q1_le (show (8 : Int32).toInt = 8 by decide) ek (fun _ => ?_) (fun _ => nx (by omega) _)
        refine q1_le (show (12 : Int32).toInt = 12 by decide) ek (fun _ => ?_) (fun _ => nx (by omega) _)
        exact q1_le (show (16 : Int32).toInt = 16 by decide) ek (fun _ => nx (by omega) _) (fun _ => nx (by omega) _)
  unfold mX9_feed
  have e20 : ((σ.1 9) + (20 : Int32)).toInt = (σ.1 9).toInt + 20 := i_add rfl (show (20 : Int32).toInt = 20 by decide) (by rw [ht, et]; omega)
  have et2 : (σ.1 9).toInt = (t : Int) := by rw [ht]; exact et
  refine q1_le e20 (show (400 : Int32).toInt = 400 by decide) (fun q => ?_) (fun q => ?_)
  · refine q1_tail (key rFU 0 (rSf σ 0 0) (fun _ _ => rfl) (fun z z0 _ => sf_ne z0) ((sf_ne (by decide)).trans ht) (by omega) (by omega) (by unfold rFU; omega)) (fun v s hs => ?_)
    exact ⟨hs.1, Or.inl ⟨q, by rw [et2]; exact hs.2.1, hs.2.2⟩⟩
  · exact q1_ret ⟨ri_0 h, Or.inr ⟨q, sf_ne (by decide), rfl⟩⟩
theorem ur_end (h : RI σ) {a : Int32} : P1 (mX9_end a σ) (fun v σ' => RI σ' ∧ ((0 ≤ a.toInt ∧ a.toInt ≤ (σ.1 9).toInt ∧ σ'.1 9 = a ∧ v = 1) ∨ (¬ (0 ≤ a.toInt ∧ a.toInt ≤ (σ.1 9).toInt) ∧ σ'.1 9 = σ.1 9 ∧ v = 0))) := by
  have h9 := h.2.1
  unfold mX9_end mX9_isIn
  refine q1_call (Q1 := fun v s => s = rSf σ 0 0 ∧ ((v = 1 ∧ 0 ≤ a.toInt ∧ a.toInt ≤ (σ.1 9).toInt) ∨ (v = 0 ∧ ¬ (0 ≤ a.toInt ∧ a.toInt ≤ (σ.1 9).toInt)))) ?_ (fun v s hs => ?_)
  · refine q1_lt rfl kt_0 (fun q => ?_) (fun q => ?_)
    · exact q1_ck rfl (q1_ret ⟨rfl, Or.inr ⟨rfl, by omega⟩⟩)
    · refine q1_lt rfl rfl (fun q2 => ?_) (fun q2 => ?_)
      · exact q1_ck rfl (q1_ret ⟨rfl, Or.inr ⟨rfl, by omega⟩⟩)
      · exact q1_ck rfl (q1_ret ⟨rfl, Or.inl ⟨rfl, q, q2⟩⟩)
  · obtain ⟨rfl, hv⟩ := hs
    dsimp only
    refine q1_eq (fun q => ?_) (fun q => ?_)
    · refine q1_ck rfl (q1_ret ⟨ri_0 h, Or.inr ⟨?_, sf_ne (by decide), rfl⟩⟩)
      rcases hv with hv | hv
      · rw [hv.1] at q; exact absurd q (by decide)
      · exact hv.2
    · rcases hv with hv | hv
      · refine q1_ck rfl (q1_ret ⟨?_, Or.inl ⟨hv.2.1, hv.2.2, sf_eq, rfl⟩⟩)
        exact ri_fr h (fun _ _ => rfl) (fun k hk => (sf_ne (by omega)).trans (sf_ne (by omega))) (by rw [sf_eq]; omega)
      · exact absurd hv.1 q
theorem e4347 : (4347 : Int32).toInt = 4347 := by decide
theorem ur_image (h : RI σ) : P1 (mX9_image σ) (RP (σ.1 9)) := by
  have key : ∀ (d k : Nat) (s : RS9), (∀ z, z ≠ 3 → s.2 z = σ.2 z) → (∀ i, i < k → s.2 3 i = σ.2 1 i) → (∀ z, z ≠ 0 → s.1 z = σ.1 z) → k ≤ 4347 → 5000 < k + d → P1 (mX9_image_l7 d (nI k) s) (RP (σ.1 9)) := by
    intro d
    induction d with
    | zero => intro k s _ _ _ hk hm; exfalso; omega
    | succ d ih =>
      intro k s h1 h2 h3 hk hm
      have ek : (nI k).toInt = (k : Int) := nI_toInt (by omega)
      unfold mX9_image_l7
      refine q1_le e4347 ek (fun q => ?_) (fun q => ?_)
      · have e : k = 4347 := by omega
        subst e
        refine q1_ck rfl (q1_ret ⟨⟨core_fr h.1 (h1 1 (by decide)) (fun z a b => h1 z (by omega)) ((sf_ne (by decide)).trans (h3 33 (by decide))) ((sf_ne (by decide)).trans (h3 45 (by decide))), ?_, un_fr h.2.2.1 (h1 4 (by decide)) ((sf_ne (by decide)).trans (h3 5 (by decide))), ⟨Or.inr sf_eq, fun _ => good_eq (good_m h.1) h2⟩⟩, (sf_ne (by decide)).trans (h3 9 (by decide))⟩)
        rw [sf_ne (by decide), h3 9 (by decide)]; exact h.2.1
      · rw [nI_1, rd_nI (by omega)]
        refine q1_ck (cr1 (by omega)) (q1_ck (inb_nI (n := 4347) (by omega) (by decide)) ?_)
        refine ih (k + 1) _ (fun z hz => (sa_ne hz).trans (h1 z hz)) (fun i hi => ?_) h3 (by omega) (by omega)
        rw [sa_nI (by omega)]
        by_cases e : i = k
        · rw [if_pos e, h1 1 (by decide), e]
        · rw [if_neg e]; exact h2 i (by omega)
  unfold mX9_image
  exact key rFU 0 (rSf σ 0 0) (fun _ _ => rfl) (fun i hi => absurd hi (by omega)) (fun z hz => sf_ne hz) (by omega) (by unfold rFU; omega)
/-- behind a cut of the file -/
theorem ri_b {s s' : RS9} (hF : FRB s s') (hC : CORE s') (h9 : 0 ≤ (s.1 9).toInt ∧ (s.1 9).toInt ≤ 400) (hU : UN s) (hI : IM s) : RI s' := ⟨hC, by rw [hF.2 9 (by decide) (by decide) (by decide) (by decide) (by decide) (by decide) (by decide)]; exact h9, un_fr hU (hF.1 4 (by omega)) (hF.2 5 (by decide) (by decide) (by decide) (by decide) (by decide) (by decide) (by decide)), im_fr hI (hF.1 3 (by omega)) (hF.2 6 (by decide) (by decide) (by decide) (by decide) (by decide) (by decide) (by decide))⟩
theorem ur_back (h : RI σ) : P1 (mX9_back σ) (RP (σ.1 9)) := by
  unfold mX9_back
  refine q1_eq (fun q => q1_ck rfl (q1_ret (rp_0 h))) (fun q => ?_)
  have hG := h.2.2.2.2 q
  have key : ∀ (d k : Nat) (s : RS9), (∀ z, z ≠ 1 → s.2 z = σ.2 z) → (∀ i, i < k → s.2 1 i = σ.2 3 i) → (∀ z, z ≠ 0 → s.1 z = σ.1 z) → k ≤ 4347 → 5000 < k + d → P1 (mX9_back_l16 d (nI k) s) (RP (σ.1 9)) := by
    intro d
    induction d with
    | zero => intro k s _ _ _ hk hm; exfalso; omega
    | succ d ih =>
      intro k s h1 h2 h3 hk hm
      have ek : (nI k).toInt = (k : Int) := nI_toInt (by omega)
      unfold mX9_back_l16
      refine q1_le e4347 ek (fun q => ?_) (fun q => ?_)
      · have e : k = 4347 := by omega
        subst e
        refine q1_call (cut_core (good_eq hG h2)) (fun v s2 hs => ?_)
        obtain ⟨hF, hC⟩ := hs
        dsimp only
        have g9 : s2.1 9 = σ.1 9 := (hF.2 9 (by decide) (by decide) (by decide) (by decide) (by decide) (by decide) (by decide)).trans (h3 9 (by decide))
        refine q1_ck rfl (q1_ret ⟨⟨core_fr hC rfl (fun _ _ _ => rfl) (sf_ne (by decide)) (sf_ne (by decide)), ?_, ⟨0, sf_eq, by omega, fun s hs => absurd hs (by omega)⟩, ?_⟩, (sf_ne (by decide)).trans g9⟩)
        · rw [sf_ne (by decide), g9]; exact h.2.1
        · exact im_fr h.2.2.2 ((hF.1 3 (by omega)).trans (h1 3 (by decide))) ((sf_ne (by decide)).trans ((hF.2 6 (by decide) (by decide) (by decide) (by decide) (by decide) (by decide) (by decide)).trans (h3 6 (by decide))))
      · rw [nI_1, rd_nI (by omega)]
        refine q1_ck (inb_nI (n := 4347) (by omega) (by decide)) (q1_ck (cr1 (by omega)) ?_)
        refine ih (k + 1) _ (fun z hz => (sa_ne hz).trans (h1 z hz)) (fun i hi => ?_) h3 (by omega) (by omega)
        rw [sa_nI (by omega)]
        by_cases e : i = k
        · rw [if_pos e, h1 3 (by decide), e]
        · rw [if_neg e]; exact h2 i (by omega)
  exact key rFU 0 (rSf σ 0 0) (fun _ _ => rfl) (fun i hi => absurd hi (by omega)) (fun z hz => sf_ne hz) (by omega) (by unfold rFU; omega)
theorem mul4347 (u : Nat) : (4347 : Int32) * nI u = nI (4347 * u) := nI_mulc 4347 u
theorem ur_undo (h : RI σ) : P1 (mX9_undo σ) (RP (σ.1 9)) := by
  obtain ⟨u, hu, hu8, hg⟩ := h.2.2.1
  unfold mX9_undo
  refine q1_eq (fun q => ?_) (fun q => ?_)
  · unfold mX9_undo_b13
    exact le0 (fun e => absurd e (by decide)) (fun _ => q1_ret (rp_0 h))
  · unfold mX9_undo_b13
    refine le0 (fun _ => ?_) (fun e => absurd e (by decide))
    have hu1 : 1 ≤ u := by
      by_cases e : u = 0
      · exfalso; apply q; rw [hu, e]; rfl
      · omega
    have eu : (σ.1 5) - (1 : Int32) = nI (u - 1) := by
      have e : u = (u - 1) + 1 := by omega
      rw [hu, e, nI_pred]; rfl
    rw [eu]
    have hG := hg (u - 1) (by omega)
    have key : ∀ (d k : Nat) (s : RS9), (∀ z, z ≠ 1 → s.2 z = σ.2 z) → (∀ i, i < k → s.2 1 i = σ.2 4 (4347 * (u - 1) + i)) → (∀ z, z ≠ 0 → z ≠ 5 → s.1 z = σ.1 z) → s.1 5 = nI (u - 1) → k ≤ 4347 → 5000 < k + d → P1 (mX9_undo_l37 d (nI k) s) (RP (σ.1 9)) := by
      intro d
      induction d with
      | zero => intro k s _ _ _ _ hk hm; exfalso; omega
      | succ d ih =>
        intro k s h1 h2 h3 h5 hk hm
        have ek : (nI k).toInt = (k : Int) := nI_toInt (by omega)
        unfold mX9_undo_l37
        refine q1_le e4347 ek (fun q => ?_) (fun q => ?_)
        · have e : k = 4347 := by omega
          subst e
          refine q1_call (cut_core (good_eq hG h2)) (fun v s2 hs => ?_)
          obtain ⟨hF, hC⟩ := hs
          dsimp only
          have g9 : s2.1 9 = σ.1 9 := (hF.2 9 (by decide) (by decide) (by decide) (by decide) (by decide) (by decide) (by decide)).trans (h3 9 (by decide) (by decide))
          refine q1_ret ⟨ri_b hF hC (by rw [h3 9 (by decide) (by decide)]; exact h.2.1) ⟨u - 1, h5, by omega, fun z hz => ?_⟩ (im_fr h.2.2.2 (h1 3 (by decide)) (h3 6 (by decide) (by decide))), g9⟩
          rw [h1 4 (by decide)]; exact hg z (by omega)
        · rw [h5, mul4347, nI_add, nI_1, rd_nI (by omega)]
          refine q1_ck (inb_nI (n := 34776) (by omega) (by decide)) (q1_ck (cr1 (by omega)) ?_)
          refine ih (k + 1) _ (fun z hz => (sa_ne hz).trans (h1 z hz)) (fun i hi => ?_) h3 h5 (by omega) (by omega)
          rw [sa_nI (by omega)]
          by_cases e : i = k
          · rw [if_pos e, h1 4 (by decide), e]
          · rw [if_neg e]; exact h2 i (by omega)
    exact key rFU 0 _ (fun _ _ => rfl) (fun i hi => absurd hi (by omega)) (fun z z0 z5 => (sf_ne z5).trans (sf_ne z0)) sf_eq (by omega) (by unfold rFU; omega)
end STO
end
/-! part 43d.again -/
section
/-! what is built, cut again -/
section AGN
variable {σ : RS9}
/-- while what is built is cut: m and the rest stay -/
def FZ (σ0 σ : RS9) : Prop := (∀ k, k ≤ 12 → σ.2 k = σ0.2 k) ∧ ∀ k, k = 5 ∨ k = 6 ∨ k = 9 → σ.1 k = σ0.1 k
def AG9 (σ0 : RS9) (p : Nat) (σ : RS9) : Prop := FZ σ0 σ ∧ (∃ q, CP q σ) ∧ σ.1 59 = nI p ∧ (∀ i, i ≤ p → 0 ≤ (σ.2 51 i).toInt ∧ (σ.2 51 i).toInt ≤ 700) ∧ ∀ i, i < p → 0 ≤ (σ.2 52 i).toInt ∧ (σ.2 52 i).toInt ≤ 600
theorem o_cutsBuilt (h : RI σ) {p : Nat} (hp : σ.1 33 = nI p) (hp4 : p ≤ 40) : P1 (mX9_cutsBuilt (rSf σ 0 0)) (fun v σ' => AG9 σ p σ') := by
  obtain ⟨p2, M, hC, hB, hS, h0, h6⟩ := core_x (ri_0 (v := 0) h).1
  have ep : p2 = p := nI_inj (by have := hC.2.1; omega) (by omega) (hC.1.symm.trans ((sf_ne (by decide)).trans hp))
  subst ep
  have hV := h.1.1
  unfold mX9_cutsBuilt
  refine q1_call (o_builds hB hS h0 h6) (fun v s hs => ?_)
  obtain ⟨hv, hF, h52⟩ := hs
  dsimp only
  have hlo := sm_lo hB hS h0 p2 (Nat.le_refl _)
  have htt : tt (rSf σ 0 0) p2 ≤ M := by
    cases p2 with
    | zero => show (0 : Int) ≤ M; omega
    | succ j => exact (hS.2.2 j (by omega)).1
  obtain ⟨N, hN6, hN⟩ := nI_back (x := v) (by omega) (by omega)
  have s33 : s.1 33 = nI p2 := (hF.2 33 (by decide)).trans hC.1
  have rows : ∀ k, k ≤ 45 → s.2 k = σ.2 k := fun k hk => hF.1 k (by omega) (by omega) (by omega) (by omega) (by omega)
  have flds : ∀ k, k ≠ 0 → k ≠ 56 → s.1 k = σ.1 k := fun k k0 k56 => (hF.2 k k56).trans (sf_ne k0)
  rw [hN, s33]
  -- the last part: the row is laid and cut
  have last : ∀ (d k : Nat) (u : RS9), (∀ z, z ≤ 12 → u.2 z = σ.2 z) → (∀ z, z = 5 ∨ z = 6 ∨ z = 9 → u.1 z = σ.1 z) → u.1 59 = nI p2 → u.1 16 = nI N → (∀ i, i ≤ p2 → 0 ≤ (u.2 51 i).toInt ∧ (u.2 51 i).toInt ≤ 700) → (∀ i, i < p2 → 0 ≤ (u.2 52 i).toInt ∧ (u.2 52 i).toInt ≤ 600) → k ≤ N → 1000 < k + d → P1 (mX9_cutsBuilt_l99 d (nI N) (nI k) u) (fun v σ' => AG9 σ p2 σ') := by
    intro d
    induction d with
    | zero => intro k u _ _ _ _ _ _ hk hm; exfalso; omega
    | succ d ih =>
      intro k u h1 h2 h59 h16 h51 h52 hk hm
      have ek : (nI k).toInt = (k : Int) := nI_toInt (by omega)
      have eN : (nI N).toInt = (N : Int) := nI_toInt (by omega)
      unfold mX9_cutsBuilt_l99
      refine q1_le eN ek (fun q => ?_) (fun q => ?_)
      · refine q1_call (p1_of (t2_cutsAll (R := N) hN6 (fun _ _ _ => rfl) (by rw [h1 1 (by decide)]; exact hV) (fun _ _ => rfl) ⟨h16, h16⟩)) (fun w s2 hs2 => ?_)
        obtain ⟨q9, hP, hA, -⟩ := hs2
        dsimp only
        refine q1_ret ⟨⟨fun z hz => (hA.1 z (by omega)).trans (h1 z hz), fun z hz => (hA.2 z (by omega) (by omega) (by omega) (by omega) (by omega) (by omega)).trans (h2 z hz)⟩, ⟨q9, hP.1, hP.2.2.1, by rw [hA.1 1 (by omega), h1 1 (by decide)]; exact hV, fun i hi => ?_⟩, (hA.2 59 (by decide) (by decide) (by decide) (by decide) (by decide) (by decide)).trans h59, fun i hi => by rw [hA.1 51 (by omega)]; exact h51 i hi, fun i hi => by rw [hA.1 52 (by omega)]; exact h52 i hi⟩
        obtain ⟨b1, b2, b3, b4, b5, b6, b7, b8⟩ := hP.2.2.2.2.2.2.2 i hi
        have := hP.2.2.2.2.2.1
        exact ⟨b2, b3, by omega, b6, b7, by omega⟩
      · rw [nI_1, rd_nI (by omega)]
        refine q1_ck (inb_nI (n := 700) (by omega) (by decide)) (q1_ck (inb_nI (n := 600) (by omega) (by decide)) ?_)
        exact ih (k + 1) _ (fun z hz => (sa_ne (by omega)).trans (h1 z hz)) h2 h59 h16 (fun i hi => by rw [sa_ne (by decide)]; exact h51 i hi) (fun i hi => by rw [sa_ne (by decide)]; exact h52 i hi) (by omega) (by omega)
  -- what pieces are now is laid aside
  let OK : Nat → RS9 → Prop := fun i u => (∀ z, z ≤ 45 → u.2 z = σ.2 z) ∧ (∀ z, z ≠ 0 → z ≠ 56 → z ≠ 59 → u.1 z = σ.1 z) ∧ u.1 59 = nI p2 ∧ (∀ j, j < i → 0 ≤ (u.2 51 j).toInt ∧ (u.2 51 j).toInt ≤ 700) ∧ (∀ j, j < p2 → 0 ≤ (u.2 52 j).toInt ∧ (u.2 52 j).toInt ≤ 600)
  have hCP : ∀ i u, OK i u → CP p2 u := fun i u hu => by
    obtain ⟨c1, c2, c3, c4⟩ := hC
    refine ⟨(hu.2.1 33 (by decide) (by decide) (by decide)).trans hp, c2, by rw [hu.1 1 (by decide)]; exact hV, fun j hj => ?_⟩
    rw [hu.1 34 (by decide), hu.1 35 (by decide), hu.1 41 (by decide), hu.1 42 (by decide)]
    exact c4 j hj
  have inner : ∀ (i : Nat) (rec20 : Int32 → Int32 → Int32 → Int32 → RS9 → Option (Int32 × RS9)), i < p2 → (∀ (a : Nat) (u : RS9), a ≤ 700 → OK (i + 1) u → P1 (rec20 (nI N) (nI p2) (nI a) (nI (i + 1)) u) (fun v σ' => AG9 σ p2 σ')) → ∀ (d k a : Nat) (u : RS9), a ≤ 700 → OK (i + 1) u → k ≤ 700 → 1000 < k + d → P1 (mX9_cutsBuilt_l37 rec20 d (nI N) (nI p2) (nI a) (nI i) (nI k) u) (fun v σ' => AG9 σ p2 σ') := by
    intro i rec20 hi Hr d
    induction d with
    | zero => intro k a u _ _ hk hm; exfalso; omega
    | succ d ih =>
      intro k a u ha hu hk hm
      have hCu := hCP _ u hu
      have ei : (nI i).toInt = (i : Int) := nI_toInt (by omega)
      have ek : (nI k).toInt = (k : Int) := nI_toInt (by omega)
      have ea : (nI a).toInt = (a : Int) := nI_toInt (by omega)
      have hx : 0 ≤ (nI i).toInt ∧ (nI i).toInt < (p2 : Int) := by rw [ei]; omega
      have hnb := nm_b hCu hx
      have b78 : P1 (mX9_cutsBuilt_b78 rec20 (nI N) (nI p2) (nI a) (nI i) u) (fun v σ' => AG9 σ p2 σ') := by
        unfold mX9_cutsBuilt_b78
        rw [nI_1]
        exact Hr a u ha hu
      unfold mX9_cutsBuilt_l37
      refine q1_ro (o_nowMany hCu hx) (fun y hy => ?_)
      dsimp only
      refine q1_le hy ek (fun q => b78) (fun q => ?_)
      refine q1_le (show (700 : Int32).toInt = 700 by decide) ea (fun q2 => b78) (fun q2 => ?_)
      refine q1_ro (o_nowByte hCu hx (by rw [ek]; omega)) (fun z _ => ?_)
      dsimp only
      rw [nI_1, nI_1]
      refine q1_ck (inb_nI (n := 700) (by omega) (by decide)) ?_
      exact ih (k + 1) (a + 1) _ (by omega) ⟨fun z hz => (sa_ne (by omega)).trans (hu.1 z hz), hu.2.1, hu.2.2.1, fun j hj => by rw [sa_ne (by decide)]; exact hu.2.2.2.1 j hj, fun j hj => by rw [sa_ne (by decide)]; exact hu.2.2.2.2 j hj⟩ (by omega) (by omega)
  have outer : ∀ (d i a : Nat) (u : RS9), a ≤ 700 → OK i u → i ≤ p2 → 100 < i + d → P1 (mX9_cutsBuilt_l20 d (nI N) (nI p2) (nI a) (nI i) u) (fun v σ' => AG9 σ p2 σ') := by
    intro d
    induction d with
    | zero => intro i a u _ _ hi hm; exfalso; omega
    | succ d ih =>
      intro i a u ha hu hi hm
      have ei : (nI i).toInt = (i : Int) := nI_toInt (by omega)
      have epp : (nI p2).toInt = (p2 : Int) := nI_toInt (by omega)
      have ea : (nI a).toInt = (a : Int) := nI_toInt (by omega)
      have row51 : ∀ (w : Nat), w ≤ 40 → ∀ j, (rSa u 51 (nI w) (nI a)).2 51 j = if j = w then nI a else u.2 51 j := fun w hw j => sa_nI (by omega)
      unfold mX9_cutsBuilt_l20
      refine q1_le epp ei (fun q => ?_) (fun q => ?_)
      · refine q1_ck (inb_nI (n := 41) (by omega) (by decide)) ?_
        refine last rFU 0 _ (fun z hz => (sa_ne (by omega)).trans (hu.1 z (by omega))) (fun z hz => (sf_ne (by omega)).trans (hu.2.1 z (by omega) (by omega) (by omega))) ((sf_ne (by decide)).trans hu.2.2.1) sf_eq (fun j hj => ?_) (fun j hj => ?_) (by omega) (by unfold rFU; omega)
        · show 0 ≤ ((rSa u 51 (nI p2) (nI a)).2 51 j).toInt ∧ ((rSa u 51 (nI p2) (nI a)).2 51 j).toInt ≤ 700
          rw [row51 p2 hp4]
          by_cases e : j = p2
          · rw [if_pos e, ea]; omega
          · rw [if_neg e]; exact hu.2.2.2.1 j (by omega)
        · show 0 ≤ ((rSa u 51 (nI p2) (nI a)).2 52 j).toInt ∧ ((rSa u 51 (nI p2) (nI a)).2 52 j).toInt ≤ 600
          rw [sa_ne (by decide)]; exact hu.2.2.2.2 j hj
      · refine q1_ck (inb_nI (n := 41) (by omega) (by decide)) ?_
        refine inner i _ (by omega) (fun a2 u2 h1 h2 => ih (i + 1) a2 u2 h1 h2 (by omega) (by omega)) rFU 0 a _ ha ⟨fun z hz => (sa_ne (by omega)).trans (hu.1 z hz), hu.2.1, hu.2.2.1, fun j hj => ?_, fun j hj => by rw [sa_ne (by decide)]; exact hu.2.2.2.2 j hj⟩ (by omega) (by unfold rFU; omega)
        rw [row51 i (by omega)]
        by_cases e : j = i
        · rw [if_pos e, ea]; omega
        · rw [if_neg e]; exact hu.2.2.2.1 j (by omega)
  refine outer rFU 0 0 _ (by omega) ⟨fun z hz => rows z hz, fun z z0 z56 z59 => (sf_ne z59).trans (flds z z0 z56), sf_eq, fun j hj => absurd hj (by omega), h52⟩ (by omega) (by unfold rFU; omega)
theorem o_isNow {p q : Nat} {s : RS9} (hC : CP q s) (h51 : ∀ i, i ≤ p → 0 ≤ (s.2 51 i).toInt ∧ (s.2 51 i).toInt ≤ 700) (hp : p ≤ 40) {x y : Int32} (hx : 0 ≤ x.toInt ∧ x.toInt < (q : Int)) (hy : 0 ≤ y.toInt ∧ y.toInt < (p : Int)) : P1 (mX9_isNow x y s) (fun v σ' => σ' = s ∧ (v = 0 ∨ v = 1)) := by
  have h1 := cp_rd hC hx
  have ey : (y + (1 : Int32)).toInt = y.toInt + 1 := i_add rfl kt_1 (by omega)
  have n0 : 0 ≤ (rGa s 51 y).toInt ∧ (rGa s 51 y).toInt ≤ 700 := h51 _ (by rw [tn]; omega)
  have n1 : 0 ≤ (rGa s 51 (y + (1 : Int32))).toInt ∧ (rGa s 51 (y + (1 : Int32))).toInt ≤ 700 := h51 _ (by rw [tn]; omega)
  have ed : ((rGa s 51 (y + (1 : Int32))) - (rGa s 51 y)).toInt = (rGa s 51 (y + (1 : Int32))).toInt - (rGa s 51 y).toInt := i_sub rfl rfl (by omega)
  have key : ∀ (d : Nat) (v3 v4 : Int32), (v3 = 0 ∨ v3 = 1) → (v3 ≠ 0 → (rGa s 42 x).toInt = (rGa s 51 (y + (1 : Int32))).toInt - (rGa s 51 y).toInt) → (0 ≤ v4.toInt ∧ v4.toInt ≤ 700) → 1000 - v4.toInt < (d : Int) → P1 (mX9_isNow_l33 d x y v3 v4 s) (fun v σ' => σ' = s ∧ (v = 0 ∨ v = 1)) := by
    intro d
    induction d with
    | zero => intro v3 v4 _ _ _ hm; exfalso; omega
    | succ d ih =>
      intro v3 v4 hb he h4 hm
      unfold mX9_isNow_l33
      refine q1_ck (cp_ck hC hx rfl) ?_
      refine q1_le rfl rfl (fun q => q1_ck (nb_of hb) (q1_ret ⟨rfl, hb⟩)) (fun q => ?_)
      refine q1_eq (fun q2 => q1_ck (nb_of hb) (q1_ret ⟨rfl, hb⟩)) (fun q2 => ?_)
      have h3 := he q2
      have e1 : ((rGa s 41 x) + v4).toInt = (rGa s 41 x).toInt + v4.toInt := i_add rfl rfl (by omega)
      have e2 : ((rGa s 51 y) + v4).toInt = (rGa s 51 y).toInt + v4.toInt := i_add rfl rfl (by omega)
      have e4 : (v4 + (1 : Int32)).toInt = v4.toInt + 1 := i_add rfl kt_1 (by omega)
      refine q1_ck (cp_ck hC hx rfl) (q1_ck (in_of (N := 600) (by omega) (by omega)) (q1_ck (in_of (N := 41) (by omega) (by omega)) (q1_ck (in_of (N := 700) (by omega) (by omega)) ?_)))
      exact q1_eq (fun _ => ih 1 (v4 + (1 : Int32)) (Or.inr rfl) (fun _ => h3) (by omega) (by omega)) (fun _ => ih 0 (v4 + (1 : Int32)) (Or.inl rfl) (fun e => absurd rfl e) (by omega) (by omega))
  unfold mX9_isNow
  refine q1_ck (cp_ck hC hx rfl) (q1_ck (in_of (N := 41) (by omega) (by omega)) (q1_ck (in_of (N := 41) (by omega) (by omega)) ?_))
  refine q1_eq (fun q => ?_) (fun q => ?_)
  · exact key rFU 1 0 (Or.inr rfl) (fun _ => by rw [q]; exact ed) (by decide) (by unfold rFU; rw [kt_0]; omega)
  · exact key rFU 0 0 (Or.inl rfl) (fun e => absurd rfl e) (by decide) (by unfold rFU; rw [kt_0]; omega)
/-- then the file is cut again, and all stands as before -/
theorem ag_end (h : RI σ) {p : Nat} {s : RS9} (hA : AG9 σ p s) {v : Int32} (hv : v = 0 ∨ v = 1) : P1 ((mX9_cutsFile s).bind fun r1 => rCk (rNb v) (some (v, r1.2))) (RP (σ.1 9)) := by
  have hG : GOOD (s.2 1) := by rw [hA.1.1 1 (by decide)]; exact good_m h.1
  refine q1_call (cut_core hG) (fun w s2 hs => ?_)
  refine q1_ck (nb_of hv) (q1_ret ⟨ri_b hs.1 hs.2 (by rw [hA.1.2 9 (by omega)]; exact h.2.1) (un_fr h.2.2.1 (hA.1.1 4 (by decide)) (hA.1.2 5 (by omega))) (im_fr h.2.2.2 (hA.1.1 3 (by decide)) (hA.1.2 6 (by omega))), ?_⟩)
  exact (hs.1.2 9 (by decide) (by decide) (by decide) (by decide) (by decide) (by decide) (by decide)).trans (hA.1.2 9 (by omega))
theorem ur_twice (h : RI σ) : P1 (mX9_twice σ) (RP (σ.1 9)) := by
  obtain ⟨p, M, hC0, -⟩ := core_x h.1
  unfold mX9_twice
  refine q1_call (o_cutsBuilt h hC0.1 hC0.2.1) (fun v s hA => ?_)
  dsimp only
  obtain ⟨hZ, ⟨q, hC⟩, h59, h51, h52⟩ := id hA
  have hp4 := hC0.2.1
  have hq4 := hC.2.1
  have e59 : (s.1 59).toInt = (p : Int) := by rw [h59]; exact nI_toInt (by omega)
  have key : ∀ (d : Nat) (v1 v2 : Int32), (v1 = 0 ∨ v1 = 1) → (v1 ≠ 0 → q = p) → (0 ≤ v2.toInt ∧ v2.toInt ≤ 100) → 1000 - v2.toInt < (d : Int) → P1 (mX9_twice_l28 d v1 v2 s) (RP (σ.1 9)) := by
    intro d
    induction d with
    | zero => intro v1 v2 _ _ _ hm; exfalso; omega
    | succ d ih =>
      intro v1 v2 hb he h2 hm
      unfold mX9_twice_l28
      refine q1_le e59 rfl (fun _ => ag_end h hA hb) (fun qq => ?_)
      refine q1_eq (fun _ => ag_end h hA hb) (fun q2 => ?_)
      have e2 : (v2 + (1 : Int32)).toInt = v2.toInt + 1 := i_add rfl kt_1 (by omega)
      have epq := he q2
      refine q1_ro (o_isNow hC h51 hp4 (by omega) (by omega)) (fun y hy => ?_)
      exact ih _ _ hy (fun _ => epq) (by omega) (by omega)
  refine q1_eq (fun e => ?_) (fun e => ?_)
  · exact key rFU 1 0 (Or.inr rfl) (fun _ => nI_inj (by omega) (by omega) (hC.1.symm.trans (e.trans h59))) (by decide) (by unfold rFU; rw [kt_0]; omega)
  · exact key rFU 0 0 (Or.inl rfl) (fun e => absurd rfl e) (by decide) (by unfold rFU; rw [kt_0]; omega)
theorem ur_kept (h : RI σ) {x : Int32} : P1 (mX9_kept x σ) (RP (σ.1 9)) := by
  obtain ⟨p, M, hC0, -⟩ := core_x h.1
  have hp4 := hC0.2.1
  unfold mX9_kept
  refine q1_ro (o_isPieceThere hC0) (fun y hy => ?_)
  dsimp only
  refine q1_eq (fun q => ?_) (fun q => ?_)
  · unfold mX9_kept_b14
    exact le0 (fun e => absurd e (by decide)) (fun _ => q1_ck rfl (q1_ret (rp_0 h)))
  · have hx := hy.2 q
    unfold mX9_kept_b14
    refine le0 (fun _ => ?_) (fun e => absurd e (by decide))
    refine q1_call (o_cutsBuilt h hC0.1 hp4) (fun v s hA => ?_)
    dsimp only
    obtain ⟨hZ, ⟨q, hC⟩, h59, h51, h52⟩ := id hA
    have hq4 := hC.2.1
    have g52 : 0 ≤ (rGa s 52 x).toInt ∧ (rGa s 52 x).toInt ≤ 600 := h52 _ (by rw [tn]; omega)
    have c52 : rIn x (rLen 52) = true := in_of (N := 40) hx.1 (by omega)
    have key : ∀ (d : Nat) (w v3 v4 : Int32), (v3 = 0 ∨ v3 = 1) → (0 ≤ v4.toInt ∧ v4.toInt ≤ 100) → 1000 - v4.toInt < (d : Int) → P1 (mX9_kept_l66 d x w v3 v4 s) (RP (σ.1 9)) := by
      intro d
      induction d with
      | zero => intro w v3 v4 _ _ hm; exfalso; omega
      | succ d ih =>
        intro w v3 v4 hb h4 hm
        unfold mX9_kept_l66
        refine q1_le (cp_33 hC) rfl (fun _ => ag_end h hA hb) (fun qq => ?_)
        have e4 : (v4 + (1 : Int32)).toInt = v4.toInt + 1 := i_add rfl kt_1 (by omega)
        have nx0 : P1 (mX9_kept_l66 d x w 0 (v4 + (1 : Int32)) s) (RP (σ.1 9)) := ih _ _ _ (Or.inl rfl) (by omega) (by omega)
        have nx1 : P1 (mX9_kept_l66 d x w 1 (v4 + (1 : Int32)) s) (RP (σ.1 9)) := ih _ _ _ (Or.inr rfl) (by omega) (by omega)
        have b117 : P1 (mX9_kept_b117 (fun v1 v2 v3 v4 σ => mX9_kept_l66 d v1 v2 v3 v4 σ) x w v4 s) (RP (σ.1 9)) := by
          unfold mX9_kept_b117
          refine q1_ro (o_isNow hC h51 hp4 (by omega) hx) (fun z _ => ?_)
          exact q1_eq (fun _ => nx0) (fun _ => nx1)
        refine q1_eq (fun q3 => ?_) (fun _ => nx1)
        refine q1_ck (cp_ck hC (by omega) rfl) (q1_ck c52 ?_)
        refine q1_eq (fun _ => b117) (fun _ => ?_)
        refine q1_eq (fun _ => nx0) (fun _ => ?_)
        refine q1_ck (cp_ck hC (by omega) rfl) (q1_ck c52 ?_)
        exact q1_eq (fun _ => b117) (fun _ => nx0)
    have k0 : ∀ w, P1 (mX9_kept_l66 rFU x w 0 0 s) (RP (σ.1 9)) := fun w => key rFU w 0 0 (Or.inl rfl) (by decide) (by unfold rFU; rw [kt_0]; omega)
    rw [nI_x hx.1 (by omega)]
    refine q1_bind (toldOf_eq (i := x.toInt.toNat) (by omega) s) ?_
    dsimp only
    rw [← nI_x hx.1 (by omega)]
    refine q1_eq (fun _ => k0 _) (fun _ => ?_)
    refine q1_ck c52 (q1_ck (in_of (N := 700) (by omega) (by omega)) ?_)
    exact q1_eq (fun _ => k0 _) (fun _ => k0 _)
end AGN
end
/-! part 44a.act -/
section
/-! acts -/
def FA (σ σ' : RS9) : Prop := (∀ k, k = 2 ∨ k = 3 ∨ k = 4 ∨ k = 8 → σ'.2 k = σ.2 k) ∧ ∀ k, k = 5 ∨ k = 6 ∨ k = 7 ∨ k = 9 ∨ k = 10 ∨ k = 11 ∨ k = 12 → σ'.1 k = σ.1 k
theorem fa_r (σ : RS9) : FA σ σ := ⟨fun _ _ => rfl, fun _ _ => rfl⟩
theorem fa_tr {a b c : RS9} (h1 : FA a b) (h2 : FA b c) : FA a c := ⟨fun k hk => (h2.1 k hk).trans (h1.1 k hk), fun k hk => (h2.2 k hk).trans (h1.2 k hk)⟩
theorem fa_b {a b : RS9} (h : FRB a b) : FA a b := ⟨fun k hk => h.1 k (by omega), fun k hk => h.2 k (by omega) (by omega) (by omega) (by omega) (by omega) (by omega) (by omega)⟩
theorem fa_x {a b : RS9} (h : FX a b) : FA a b := ⟨fun k hk => h.1 k (by omega) (by omega) (by omega), fun k hk => h.2 k (by omega)⟩
theorem fa_m {a : RS9} {x v : Int32} : FA a (rSa a 1 x v) := ⟨fun k hk => sa_ne (by omega), fun _ _ => rfl⟩
def TV (σ : RS9) : Prop := VM9 (σ.2 1) ∧ TAB σ
section ACT
variable {σ : RS9}
theorem bui_none (hT : TV σ) (hn : ∀ i, i < 40 → σ.2 1 (443 + 61 * i) = -1) : BUI σ := by
  obtain ⟨p, hB⟩ := tab_ba hT.1 hT.2
  have hp := hB.2.2.2.2.1
  have hb : ∀ i, i < p → bo σ i = (σ.2 35 i).toInt - (σ.2 34 i).toInt := fun i hi => (bo_eq hB hi (fun _ _ _ => rfl)).2.2.2 (hn i (by omega))
  have hs : ∀ i, i ≤ p → sm σ i = (σ.2 1 0).toInt := by
    intro i
    induction i with
    | zero => intro _; rfl
    | succ i ih =>
      intro hi
      show sm σ i + (bo σ i - _) = _
      rw [ih (by omega), hb i (by omega)]
      omega
  refine ⟨p, hB.2.2.1, hp, fun i hi => ?_, ?_⟩
  · rw [hb i hi]
    have := (hB.2.2.2.2.2 i hi).2
    omega
  · rw [hs p (Nat.le_refl _)]
    have := hT.1.1
    omega
/-- m where only told's beginnings change -/
theorem a_clear {s : RS9} (hT : TV s) {u : RS9} (hr : ∀ z, z ≠ 1 → u.2 z = s.2 z) (hf : ∀ z, u.1 z = s.1 z) (hm : ∀ j, (j < 443 ∨ 2883 ≤ j) → u.2 1 j = s.2 1 j) (hn : ∀ i, i < 40 → u.2 1 (443 + 61 * i) = -1) : CORE u := by
  have hV : VM9 (u.2 1) := by
    obtain ⟨h1, h2, h3, h4, h5, h6, h7⟩ := hT.1
    refine ⟨by rw [hm 0 (by omega)]; exact h1, by rw [hm 4 (by omega)]; exact h2, by rw [hm 5 (by omega)]; exact h3, by rw [hm 42 (by omega)]; exact h4, fun p hp => ?_, fun k hk => by rw [hm _ (by omega)]; exact h6 k hk, fun l hl => by rw [hm _ (by omega)]; exact h7 l hl⟩
    rw [hn p hp, kt_m1]; omega
  have hTu : TAB u := tab_m hT.1 hT.2 (fun i hi _ => hm i (by omega)) (fun k a b => hr k (by omega)) (hf 33) (hf 45)
  exact ⟨hV, hTu, bui_none ⟨hV, hTu⟩ hn⟩
theorem clear_loop (L : Nat → Int32 → RS9 → Option (Int32 × RS9)) (hL : ∀ d (k : Nat) u, L (d + 1) (nI k) u = (if (40 : Int32) ≤ nI k then some ((0 : Int32), u) else rCk (rIn ((443 : Int32) + ((61 : Int32) * nI k)) (rLen 1)) (L d (nI k + (1 : Int32)) (rSa u 1 ((443 : Int32) + ((61 : Int32) * nI k)) (-1 : Int32))))) {s : RS9} (hT : TV s) : ∀ (d k : Nat) (u : RS9), (∀ z, z ≠ 1 → u.2 z = s.2 z) → (∀ z, u.1 z = s.1 z) → (∀ j, (j < 443 ∨ 2883 ≤ j) → u.2 1 j = s.2 1 j) → (∀ i, i < k → u.2 1 (443 + 61 * i) = -1) → k ≤ 40 → 100 < k + d → P1 (L d (nI k) u) (fun v σ' => v = 0 ∧ CORE σ' ∧ FA s σ') := by
  intro d
  induction d with
  | zero => intro k u _ _ _ _ hk hm; exfalso; omega
  | succ d ih =>
    intro k u h1 h2 h3 h4 hk hm
    have ek : (nI k).toInt = (k : Int) := nI_toInt (by omega)
    rw [hL]
    refine q1_le (show (40 : Int32).toInt = 40 by decide) ek (fun q => ?_) (fun q => ?_)
    · exact q1_ret ⟨rfl, a_clear hT h1 h2 h3 (fun i hi => h4 i (by omega)), ⟨fun z hz => h1 z (by omega), fun z _ => h2 z⟩⟩
    · rw [told_ix, nI_1]
      refine q1_ck (cr1 (by omega)) ?_
      refine ih (k + 1) _ (fun z hz => (sa_ne hz).trans (h1 z hz)) h2 (fun j hj => ?_) (fun i hi => ?_) (by omega) (by omega)
      · rw [sa_nI (by omega), if_neg (by omega)]; exact h3 j hj
      · rw [sa_nI (by omega)]
        by_cases e : i = k
        · rw [if_pos (by omega)]
        · rw [if_neg (by omega)]; exact h4 i (by omega)
theorem a_cutsAnew (hV : VM9 (σ.2 1)) : P1 (mX9_cutsAnew σ) (fun v σ' => CORE σ' ∧ FA σ σ') := by
  unfold mX9_cutsAnew
  refine q1_call (cut_tab hV) (fun v s hs => ?_)
  obtain ⟨hF, hT⟩ := hs
  dsimp only
  have hV2 : VM9 (s.2 1) := by rw [hF.1 1 (by omega)]; exact hV
  refine q1_tail (clear_loop mX9_cutsAnew_l6 (fun d k u => rfl) ⟨hV2, hT⟩ rFU 0 s (fun _ _ => rfl) (fun _ => rfl) (fun _ _ => rfl) (fun i hi => absurd hi (by omega)) (by omega) (by unfold rFU; omega)) (fun w u hu => ⟨hu.2.1, fa_tr (fa_b hF) hu.2.2⟩)
theorem a_rules {k : Nat} {v : Int32} (hV : VM9 (σ.2 1)) (hk : 1 ≤ k ∧ k ≤ 4) (h4 : k = 4 → 1 ≤ v.toInt) : P1 (mX9_rules (nI k) v σ) (fun w σ' => w = 0 ∧ CORE σ' ∧ FA σ σ') := by
  unfold mX9_rules
  refine q1_ck (cr1 (by omega)) ?_
  have r : ∀ i, (rSa σ 1 (nI k) v).2 1 i = if i = k then v else σ.2 1 i := fun i => sa_nI (by omega)
  have hV2 : VM9 ((rSa σ 1 (nI k) v).2 1) := by
    obtain ⟨h1, h2, h3, h44, h5, h6, h7⟩ := hV
    refine ⟨by rw [r, if_neg (by omega)]; exact h1, ?_, by rw [r, if_neg (by omega)]; exact h3, by rw [r, if_neg (by omega)]; exact h44, fun p hp => by rw [r, if_neg (by omega)]; exact h5 p hp, fun j hj => by rw [r, if_neg (by omega)]; exact h6 j hj, fun l hl => by rw [r, if_neg (by omega)]; exact h7 l hl⟩
    rw [r]
    by_cases e : 4 = k
    · rw [if_pos e]; exact h4 e.symm
    · rw [if_neg e]; exact h2
  refine q1_call (a_cutsAnew hV2) (fun w s hs => ?_)
  exact q1_ret ⟨rfl, hs.1, fa_tr fa_m hs.2⟩
theorem a_unlocks (hV : VM9 (σ.2 1)) : P1 (mX9_unlocks σ) (fun w σ' => w = 0 ∧ CORE σ' ∧ FA σ σ') := by
  unfold mX9_unlocks
  refine q1_ck rfl ?_
  have r : ∀ i, (rSa σ 1 (5 : Int32) (0 : Int32)).2 1 i = if i = 5 then 0 else σ.2 1 i := fun i => sa_nI (c := 5) (by omega)
  have hV2 : VM9 ((rSa σ 1 (5 : Int32) (0 : Int32)).2 1) := by
    obtain ⟨h1, h2, h3, h44, h5, h6, h7⟩ := hV
    exact ⟨by rw [r, if_neg (by omega)]; exact h1, by rw [r, if_neg (by omega)]; exact h2, by rw [r, if_pos rfl]; decide, by rw [r, if_neg (by omega)]; exact h44, fun p hp => by rw [r, if_neg (by omega)]; exact h5 p hp, fun j hj => by rw [r, if_neg (by omega)]; exact h6 j hj, fun l hl => by rw [r, if_neg (by omega)]; exact h7 l hl⟩
  refine q1_call (a_cutsAnew hV2) (fun w s hs => ?_)
  exact q1_ret ⟨rfl, hs.1, fa_tr fa_m hs.2⟩
theorem a_wipe0 (hC : CORE σ) : P1 (mX9_wipe0 σ) (fun w σ' => (w ≤ 0 → CORE σ') ∧ FA σ σ') := by
  obtain ⟨p, M, hP, -⟩ := core_x hC
  unfold mX9_wipe0
  refine q1_ro (o_toldMany hP) (fun y _ => ?_)
  dsimp only
  refine q1_eq (fun _ => q1_ret ⟨fun e => absurd e (by decide), fa_r σ⟩) (fun _ => ?_)
  exact q1_tail (clear_loop mX9_wipe0_l11 (fun d k u => rfl) ⟨hC.1, hC.2.1⟩ rFU 0 σ (fun _ _ => rfl) (fun _ => rfl) (fun _ _ => rfl) (fun i hi => absurd hi (by omega)) (by omega) (by unfold rFU; omega)) (fun w u hu => ⟨fun _ => hu.2.1, hu.2.2⟩)
end ACT
end
/-! part 44b.act -/
section
section ACT2
variable {σ : RS9}
theorem lock_ix (q : Nat) : (6 : Int32) + ((9 : Int32) * nI q) = nI (6 + 9 * q) := by
  have e : (9 : Int32) * nI q = nI (9 * q) := nI_mulc 9 q
  rw [e]; exact nI_add 6 (9 * q)
theorem a_lock0 (hC : CORE σ) {a n : Nat} (hn : 1 ≤ n ∧ n ≤ 8) (ha : a + n ≤ 400) : P1 (mX9_lock0 (nI a) (nI n) σ) (fun w σ' => (w ≤ 0 → CORE σ') ∧ FA σ σ') := by
  have hV := hC.1
  have h5 := hV.2.2.1
  have m5 : rGa σ 1 (5 : Int32) = σ.2 1 5 := rfl
  obtain ⟨q, hq6, hq⟩ := nI_back (x := σ.2 1 5) (by omega) (by omega)
  have hq4 : q ≤ 4 := by have := h5.2; rw [hq, nI_toInt (by omega)] at this; omega
  unfold mX9_lock0
  refine q1_ck rfl ?_
  refine q1_eq (fun _ => q1_ret ⟨fun e => absurd e (by decide), fa_r σ⟩) (fun hne => ?_)
  have hq3 : q ≤ 3 := by
    by_cases e : q = 4
    · exfalso; apply hne; rw [m5, hq, e]; rfl
    · omega
  have fin : ∀ (d k : Nat) (u : RS9), (∀ z, z ≠ 1 → u.2 z = σ.2 z) → (∀ z, u.1 z = σ.1 z) → (∀ j, (j < 6 + 9 * q ∨ 6 + 9 * q + 9 ≤ j) → u.2 1 j = σ.2 1 j) → u.2 1 (6 + 9 * q) = nI n → k ≤ n → 100 < k + d → P1 (mX9_lock0_l141 d (nI a) (nI n) (nI (6 + 9 * q)) (nI k) u) (fun w σ' => (w ≤ 0 → CORE σ') ∧ FA σ σ') := by
    intro d
    induction d with
    | zero => intro k u _ _ _ _ hk hm; exfalso; omega
    | succ d ih =>
      intro k u h1 h2 h3 h4 hk hm
      have ek : (nI k).toInt = (k : Int) := nI_toInt (by omega)
      have en : (nI n).toInt = (n : Int) := nI_toInt (by omega)
      unfold mX9_lock0_l141
      refine q1_le en ek (fun _ => ?_) (fun q2 => ?_)
      · refine q1_ck rfl (q1_ck rfl ?_)
        have e5 : rGa u 1 (5 : Int32) = nI q := (h3 5 (by omega)).trans hq
        rw [e5, nI_1]
        have r : ∀ i, (rSa u 1 (5 : Int32) (nI (q + 1))).2 1 i = if i = 5 then nI (q + 1) else u.2 1 i := fun i => sa_nI (c := 5) (by omega)
        have hV2 : VM9 ((rSa u 1 (5 : Int32) (nI (q + 1))).2 1) := by
          obtain ⟨v1, v2, v3, v4, v5, v6, v7⟩ := hV
          refine ⟨by rw [r, if_neg (by omega), h3 0 (by omega)]; exact v1, by rw [r, if_neg (by omega), h3 4 (by omega)]; exact v2, by rw [r, if_pos rfl, nI_toInt (by omega)]; omega, by rw [r, if_neg (by omega), h3 42 (by omega)]; exact v4, fun p hp => by rw [r, if_neg (by omega), h3 _ (by omega)]; exact v5 p hp, fun j hj => by rw [r, if_neg (by omega), h3 _ (by omega)]; exact v6 j hj, fun l hl => ?_⟩
          rw [r, if_neg (by omega)]
          by_cases e : l = q
          · rw [e, h4, en]; omega
          · rw [h3 _ (by omega)]; exact v7 l hl
        refine q1_call (a_cutsAnew hV2) (fun w s hs => ?_)
        refine q1_ret ⟨fun _ => hs.1, fa_tr ⟨fun z hz => (sa_ne (by omega)).trans (h1 z (by omega)), fun z _ => h2 z⟩ hs.2⟩
      · rw [nI_add, nI_1, nI_1, nI_add]
        refine q1_ck (inb_nI (n := 400) (by omega) (by decide)) (q1_ck (cr1 (by omega)) ?_)
        refine ih (k + 1) _ (fun z hz => (sa_ne hz).trans (h1 z hz)) h2 (fun j hj => ?_) ?_ (by omega) (by omega)
        · rw [sa_nI (by omega), if_neg (by omega)]; exact h3 j hj
        · rw [sa_nI (by omega), if_neg (by omega)]; exact h4
  have key : ∀ (d l : Nat), l ≤ q → 100 < l + d → P1 (mX9_lock0_l15 d (nI a) (nI n) (nI l) σ) (fun w σ' => (w ≤ 0 → CORE σ') ∧ FA σ σ') := by
    intro d
    induction d with
    | zero => intro l hl hm; exfalso; omega
    | succ d ih =>
      intro l hl hm
      have el : (nI l).toInt = (l : Int) := nI_toInt (by omega)
      have eq : (rGa σ 1 (5 : Int32)).toInt = (q : Int) := by rw [m5, hq]; exact nI_toInt (by omega)
      unfold mX9_lock0_l15
      refine q1_ck rfl ?_
      refine q1_le eq el (fun _ => ?_) (fun q2 => ?_)
      · refine q1_ck rfl ?_
        rw [m5, hq, lock_ix]
        refine q1_ck (cr1 (by omega)) ?_
        refine fin rFU 0 _ (fun z hz => sa_ne hz) (fun _ => rfl) (fun j hj => ?_) ?_ (by omega) (by unfold rFU; omega)
        · rw [sa_nI (by omega), if_neg (by omega)]
        · rw [sa_nI (by omega), if_pos rfl]
      · rw [lock_ix]
        refine q1_ck (cr1 (by omega)) ?_
        have nx : P1 (mX9_lock0_l15 d (nI a) (nI n) (nI l + (1 : Int32)) σ) (fun w σ' => (w ≤ 0 → CORE σ') ∧ FA σ σ') := by rw [nI_1]; exact ih (l + 1) (by omega) (by omega)
        have b104 : ∀ v4 : Int32, P1 (mX9_lock0_b104 (fun v1 v2 v3 σ => mX9_lock0_l15 d v1 v2 v3 σ) (nI a) (nI n) (nI l) v4 σ) (fun w σ' => (w ≤ 0 → CORE σ') ∧ FA σ σ') := fun v4 => by
          unfold mX9_lock0_b104
          exact q1_eq (fun _ => nx) (fun _ => q1_ret ⟨fun e => absurd e (by decide), fa_r σ⟩)
        have inner : ∀ (dd k : Nat) (v4 : Int32), k ≤ n → 100 < k + dd → P1 (mX9_lock0_l51 (fun v1 v2 v3 σ => mX9_lock0_l15 d v1 v2 v3 σ) dd (nI a) (nI n) (nI l) v4 (nI k) σ) (fun w σ' => (w ≤ 0 → CORE σ') ∧ FA σ σ') := by
          intro dd
          induction dd with
          | zero => intro k v4 hk hm; exfalso; omega
          | succ dd ih2 =>
            intro k v4 hk hm
            have ek : (nI k).toInt = (k : Int) := nI_toInt (by omega)
            have en : (nI n).toInt = (n : Int) := nI_toInt (by omega)
            unfold mX9_lock0_l51
            refine q1_le en ek (fun _ => b104 _) (fun q3 => ?_)
            refine q1_eq (fun _ => b104 _) (fun _ => ?_)
            rw [lock_ix, nI_1, nI_add, nI_add]
            refine q1_ck (cr1 (by omega)) (q1_ck (inb_nI (n := 400) (by omega) (by decide)) ?_)
            have nx2 : ∀ w : Int32, P1 (mX9_lock0_l51 (fun v1 v2 v3 σ => mX9_lock0_l15 d v1 v2 v3 σ) dd (nI a) (nI n) (nI l) w (nI k + (1 : Int32)) σ) (fun w σ' => (w ≤ 0 → CORE σ') ∧ FA σ σ') := fun w => by rw [nI_1]; exact ih2 (k + 1) w (by omega) (by omega)
            exact q1_eq (fun _ => nx2 1) (fun _ => nx2 0)
        exact q1_eq (fun _ => inner rFU 0 1 (by omega) (by unfold rFU; omega)) (fun _ => inner rFU 0 0 (by omega) (by unfold rFU; omega))
  exact key rFU 0 (by omega) (by unfold rFU; omega)
/-! what is told -/
def TLD (i n : Nat) (σ σ' : RS9) : Prop := (∀ z, z ≠ 1 → σ'.2 z = σ.2 z) ∧ (∀ z, σ'.1 z = σ.1 z) ∧ σ'.2 1 (443 + 61 * i) = nI n ∧ (∀ j, j < n → σ'.2 1 (444 + 61 * i + j) = σ.2 53 j) ∧ ∀ j, (j < 443 + 61 * i ∨ 504 + 61 * i ≤ j) → σ'.2 1 j = σ.2 1 j
theorem a_tells {i n : Nat} (hi : i < 40) (hn : n ≤ 60) : P1 (mX9_tells (nI i) (nI n) σ) (fun w σ' => TLD i n σ σ') := by
  have key : ∀ (d k : Nat) (u : RS9), (∀ z, z ≠ 1 → u.2 z = σ.2 z) → (∀ z, u.1 z = σ.1 z) → u.2 1 (443 + 61 * i) = nI n → (∀ j, j < k → u.2 1 (444 + 61 * i + j) = σ.2 53 j) → (∀ j, (j < 443 + 61 * i ∨ 504 + 61 * i ≤ j) → u.2 1 j = σ.2 1 j) → k ≤ n → 100 < k + d → P1 (mX9_tells_l16 d (nI i) (nI n) (nI k) u) (fun w σ' => TLD i n σ σ') := by
    intro d
    induction d with
    | zero => intro k u _ _ _ _ _ hk hm; exfalso; omega
    | succ d ih =>
      intro k u h1 h2 h3 h4 h5 hk hm
      have ek : (nI k).toInt = (k : Int) := nI_toInt (by omega)
      have en : (nI n).toInt = (n : Int) := nI_toInt (by omega)
      unfold mX9_tells_l16
      refine q1_le en ek (fun _ => ?_) (fun q => ?_)
      · exact q1_ret ⟨h1, h2, h3, fun j hj => h4 j (by omega), h5⟩
      · rw [told_ix, nI_1, nI_add, nI_1, rd_nI (by omega)]
        refine q1_ck (inb_nI (n := 60) (by omega) (by decide)) (q1_ck (cr1 (by omega)) ?_)
        refine ih (k + 1) _ (fun z hz => (sa_ne hz).trans (h1 z hz)) h2 ?_ (fun j hj => ?_) (fun j hj => ?_) (by omega) (by omega)
        · rw [sa_nI (by omega), if_neg (by omega)]; exact h3
        · rw [sa_nI (by omega)]
          by_cases e : j = k
          · rw [if_pos (by omega), h1 53 (by decide), e]
          · rw [if_neg (by omega)]; exact h4 j (by omega)
        · rw [sa_nI (by omega), if_neg (by omega)]; exact h5 j hj
  unfold mX9_tells
  rw [told_ix]
  refine q1_ck (cr1 (by omega)) ?_
  refine key rFU 0 _ (fun z hz => sa_ne hz) (fun _ => rfl) ?_ (fun j hj => absurd hj (by omega)) (fun j hj => ?_) (by omega) (by unfold rFU; omega)
  · rw [sa_nI (by omega), if_pos rfl]
  · rw [sa_nI (by omega), if_neg (by omega)]
theorem tld_tv {i n : Nat} {σ' : RS9} (hT : TV σ) (hi : i < 40) (hn : n ≤ 60) (h : TLD i n σ σ') : TV σ' := by
  obtain ⟨h1, h2, h3, h4, h5⟩ := h
  obtain ⟨v1, v2, v3, v4, v5, v6, v7⟩ := id hT.1
  refine ⟨⟨by rw [h5 0 (by omega)]; exact v1, by rw [h5 4 (by omega)]; exact v2, by rw [h5 5 (by omega)]; exact v3, by rw [h5 42 (by omega)]; exact v4, fun p hp => ?_, fun k hk => by rw [h5 _ (by omega)]; exact v6 k hk, fun l hl => by rw [h5 _ (by omega)]; exact v7 l hl⟩, tab_m hT.1 hT.2 (fun j hj _ => h5 j (by omega)) (fun k a b => h1 k (by omega)) (h2 33) (h2 45)⟩
  by_cases e : p = i
  · rw [e, h3, nI_toInt (by omega)]; omega
  · rw [h5 _ (by omega)]; exact v5 p hp
/-- tables alike -/
theorem tv_ba {p : Nat} {σ' : RS9} (hB : BA p σ σ) (hm : ∀ j, j < 443 → j ≠ 42 → σ'.2 1 j = σ.2 1 j) (hr : ∀ k, 34 ≤ k → k ≤ 42 → σ'.2 k = σ.2 k) (h33 : σ'.1 33 = σ.1 33) : BA p σ σ' := by
  obtain ⟨b1, b2, b3, b4, b5, b6⟩ := hB
  refine ⟨hm, b2, b3, h33.trans b4, b5, fun i hi => ?_⟩
  rw [hr 34 (by decide) (by decide), hr 35 (by decide) (by decide), hr 36 (by decide) (by decide), hr 37 (by decide) (by decide), hr 38 (by decide) (by decide)]
  exact b6 i hi
/-- what can be escaped can be built -/
theorem new_bo {p i n : Nat} {s σ' : RS9} {v : Int32} (hB : BA p σ σ) (hi : i < p) (hn : n ≤ 60) (he : mX9_escapedFor (nI i) (nI n) σ = some (v, s)) (hv : v ≠ -1) (hs : FW σ s) (hT : TLD i n s σ') (hV : VM9 (σ'.2 1)) : 0 ≤ bo σ' i := by
  have hp := hB.2.2.2.2.1
  obtain ⟨h1, h2, h3, h4, h5⟩ := hT
  have hB' : BA p σ σ' := tv_ba hB (fun j hj _ => by rw [h5 j (by omega), hs.1 1 (by decide) (by decide)]) (fun k a b => (h1 k (by omega)).trans (hs.1 k (by omega) (by omega))) ((h2 33).trans (hs.2 33 (by decide)))
  have hBs : BA p σ' σ' := by
    obtain ⟨b1, b2, b3, b4, b5, b6⟩ := hB'
    refine ⟨fun _ _ _ => rfl, hV, b4, b4, b5, fun j hj => ⟨⟨rfl, rfl, rfl, rfl, rfl⟩, ?_⟩⟩
    obtain ⟨⟨c1, c2, -⟩, c3⟩ := b6 j hj
    rw [c1, c2]; exact c3
  have hne : ¬ (nI n = -1) := fun e => by
    have h1 := congrArg Int32.toInt e
    rw [nI_toInt (by omega), kt_m1] at h1
    omega
  have hb : mX9_builtOf (nI i) σ' = (mX9_holdsTold (nI i) σ').bind fun r2 => (mX9_toldOf (nI i) r2.2).bind fun r3 => (mX9_escapedFor (nI i) r3.1 r3.2).bind fun r4 => some (r4.1, r4.2) := by
    unfold mX9_builtOf
    rw [toldOf_eq (by omega), Option.bind_some]
    dsimp only
    rw [h3, if_neg hne]
  obtain ⟨w, u, w', u', e1, e2, g1, g2, g3, gS, g4⟩ := t2_holdsTold_l2 hi hp hn h3 rFU 0 σ' σ' hBs (fun _ _ _ => rfl) ⟨fun _ _ _ _ => rfl, fun _ _ => rfl⟩ ⟨fun _ _ _ _ => rfl, fun _ _ => rfl⟩ (fun j hj => absurd hj (by omega)) (by omega) (by unfold rFU; omega)
  have hBu : BA p σ u := tv_ba hB (fun j hj h42 => by rw [g1.1 1 (by decide) (by decide) (by decide)]; exact hB'.1 j hj h42) (fun k a b => (g1.1 k (by omega) (by omega) (by omega)).trans ((h1 k (by omega)).trans (hs.1 k (by omega) (by omega)))) ((g1.2 33 (by decide)).trans ((h2 33).trans (hs.2 33 (by decide))))
  obtain ⟨x, y, x', y', f1, f2, ⟨k1, k2, k3⟩, -, -⟩ := t2_escapedFor hBu hi hn (fun j hj => by rw [(g4 j hj).2, h4 j hj, hs.1 53 (by decide) (by decide)])
  have ex : x = v := (Prod.mk.inj (Option.some.inj (f1.symm.trans he))).1
  unfold bo
  rw [hb]
  unfold mX9_holdsTold
  rw [show mX9_holdsTold_l2 rFU (nI i) (0 : Int32) σ' = some (w, u) from e1, Option.bind_some]
  dsimp only
  rw [toldOf_eq (by omega), Option.bind_some]
  dsimp only
  rw [g1.1 1 (by decide) (by decide) (by decide), h3, f2, Option.bind_some]
  show 0 ≤ x'.toInt
  rw [k1]
  have : x.toInt ≠ -1 := fun e => hv (ex ▸ Int32.toInt_inj.mp (e.trans kt_m1.symm))
  omega
/-- what was built before, where another was told -/
theorem old_bo {p i k n : Nat} {σ' : RS9} (hB : BA p σ σ) (hk : k < p) (hki : k ≠ i) (h : TLD i n σ σ') : bo σ' k = bo σ k := by
  obtain ⟨h1, h2, h3, h4, h5⟩ := h
  exact (bo_eq (tv_ba hB (fun j hj _ => h5 j (by omega)) (fun k a b => h1 k (by omega)) (h2 33)) hk (fun j a b => h5 j (by omega))).1
end ACT2
end
/-! part 44c.tell -/
section
theorem nI_dec {w : Nat} (h1 : 1 ≤ w) (h2 : w ≤ 5000) : nI w + (-1 : Int32) = nI (w - 1) := Int32.toInt_inj.mp (by rw [i_add (nI_toInt (by omega)) kt_m1 (by omega), nI_toInt (by omega)]; omega)
theorem nI_122 {w : Nat} (h1 : 122 ≤ w) (h2 : w ≤ 5000) : nI w - (122 : Int32) = nI (w - 122) := Int32.toInt_inj.mp (by rw [i_sub (nI_toInt (by omega)) (show (122 : Int32).toInt = 122 by decide) (by omega), nI_toInt (by omega)]; omega)
section TELL
variable {σ : RS9}
def PAIR (σ u : RS9) : Prop := (∀ z, z ≠ 1 → u.2 z = σ.2 z) ∧ (∀ z, u.1 z = σ.1 z) ∧ (∀ j, j < 2883 → u.2 1 j = σ.2 1 j) ∧ ∀ k, k < 24 → 0 ≤ (u.2 1 (2883 + 61 * k)).toInt ∧ (u.2 1 (2883 + 61 * k)).toInt ≤ 60
theorem pair_set {u : RS9} {j : Nat} {v : Int32} (h : PAIR σ u) (hj : 2883 ≤ j ∧ j < 4347) (hv : ∀ k, k < 24 → j = 2883 + 61 * k → 0 ≤ v.toInt ∧ v.toInt ≤ 60) : PAIR σ (rSa u 1 (nI j) v) := by
  obtain ⟨h1, h2, h3, h4⟩ := h
  have r : ∀ i, (rSa u 1 (nI j) v).2 1 i = if i = j then v else u.2 1 i := fun i => sa_nI (by omega)
  refine ⟨fun z hz => (sa_ne hz).trans (h1 z hz), h2, fun i hi => by rw [r, if_neg (by omega)]; exact h3 i hi, fun k hk => ?_⟩
  rw [r]
  by_cases e : 2883 + 61 * k = j
  · rw [if_pos e]; exact hv k hk e.symm
  · rw [if_neg e]; exact h4 k hk
theorem core_pair {u : RS9} (hC : CORE σ) (h1 : ∀ z, z ≠ 1 → u.2 z = σ.2 z) (h2 : ∀ z, u.1 z = σ.1 z) (h3 : ∀ j, j < 2883 → j ≠ 42 → u.2 1 j = σ.2 1 j) (h42 : 0 ≤ (u.2 1 42).toInt ∧ (u.2 1 42).toInt ≤ 12) (h4 : ∀ k, k < 24 → 0 ≤ (u.2 1 (2883 + 61 * k)).toInt ∧ (u.2 1 (2883 + 61 * k)).toInt ≤ 60) : CORE u := by
  obtain ⟨p, hB⟩ := tab_ba hC.1 hC.2.1
  have hp := hB.2.2.2.2.1
  obtain ⟨v1, v2, v3, v4, v5, v6, v7⟩ := id hC.1
  refine ⟨⟨by rw [h3 0 (by omega) (by omega)]; exact v1, by rw [h3 4 (by omega) (by omega)]; exact v2, by rw [h3 5 (by omega) (by omega)]; exact v3, h42, fun p hp => by rw [h3 _ (by omega) (by omega)]; exact v5 p hp, h4, fun l hl => by rw [h3 _ (by omega) (by omega)]; exact v7 l hl⟩, tab_m hC.1 hC.2.1 (fun j hj n42 => h3 j (by omega) n42) (fun k a b => h1 k (by omega)) (h2 33) (h2 45), ?_⟩
  exact (bui_eq (tv_ba hB (fun j hj n42 => h3 j (by omega) n42) (fun k a b => h1 k (by omega)) (h2 33)) (fun i hi j a b => h3 j (by omega) (by omega))).mp hC.2.2
theorem a_remembersPair (hC : CORE σ) {p i n : Nat} (hP : CP p σ) (hi : i < p) (hn : n ≤ 60) : P1 (mX9_remembersPair (nI i) (nI n) σ) (fun w σ' => CORE σ' ∧ FA σ σ') := by
  have hp := hP.2.1
  have en : (nI n).toInt = (n : Int) := nI_toInt (by omega)
  have ei : (nI i).toInt = (i : Int) := nI_toInt (by omega)
  have hx : 0 ≤ (nI i).toInt ∧ (nI i).toInt < (p : Int) := by rw [ei]; omega
  have h1 := cp_rd hP hx
  have hV := hC.1
  have c42 : ∀ z, rLen z = 40 → rIn (nI i) (rLen z) = true := fun z hz => cp_ck hP hx hz
  unfold mX9_remembersPair
  refine q1_ck (c42 42 rfl) ?_
  refine q1_le rfl (show (60 : Int32).toInt = 60 by decide) (fun q60 => ?_) (fun _ => q1_ret ⟨hC, fa_r σ⟩)
  obtain ⟨t, ht6, ht⟩ := nI_back (x := rGa σ 42 (nI i)) h1.2.2.2.2.1 (by omega)
  have et : (nI t).toInt = (t : Int) := nI_toInt (by omega)
  rw [ht, et] at q60
  have l110 : ∀ (d k : Nat) (u : RS9), PAIR σ u → k ≤ n → 100 < k + d → P1 (mX9_remembersPair_l110 d (nI n) (nI k) u) (fun w σ' => CORE σ' ∧ FA σ σ') := by
    intro d
    induction d with
    | zero => intro k u _ hk hm; exfalso; omega
    | succ d ih =>
      intro k u hu hk hm
      have ek : (nI k).toInt = (k : Int) := nI_toInt (by omega)
      have m42 : rGa u 1 (42 : Int32) = σ.2 1 42 := hu.2.2.1 42 (by omega)
      have v42 := hV.2.2.2.1
      have fa : FA σ u := ⟨fun z hz => hu.1 z (by omega), fun z _ => hu.2.1 z⟩
      unfold mX9_remembersPair_l110
      refine q1_le en ek (fun _ => ?_) (fun q => ?_)
      · refine q1_ck rfl ?_
        refine q1_le (show (12 : Int32).toInt = 12 by decide) (congrArg Int32.toInt m42) (fun _ => ?_) (fun q2 => ?_)
        · exact q1_ret ⟨core_pair hC hu.1 hu.2.1 (fun j hj _ => hu.2.2.1 j hj) (by rw [hu.2.2.1 42 (by omega)]; exact v42) hu.2.2.2, fa⟩
        · refine q1_ck rfl (q1_ck rfl ?_)
          rw [m42]
          have e1 : (σ.2 1 42 + (1 : Int32)).toInt = (σ.2 1 42).toInt + 1 := i_add rfl kt_1 (by omega)
          have r : ∀ i, (rSa u 1 (42 : Int32) (σ.2 1 42 + (1 : Int32))).2 1 i = if i = 42 then σ.2 1 42 + (1 : Int32) else u.2 1 i := fun i => sa_nI (c := 42) (by omega)
          exact q1_ret ⟨core_pair hC (fun z hz => (sa_ne hz).trans (hu.1 z hz)) hu.2.1 (fun j hj n42 => by rw [r, if_neg n42]; exact hu.2.2.1 j hj) (by rw [r, if_pos rfl, e1]; omega) (fun k hk => by rw [r, if_neg (by omega)]; exact hu.2.2.2 k hk), fa_tr fa fa_m⟩
      · have e45 : ((2945 : Int32) + nI k) = nI (2945 + k) := nI_add 2945 k
        rw [e45, nI_1]
        refine q1_ck (inb_nI (n := 60) (by omega) (by decide)) (q1_ck (cr1 (by omega)) ?_)
        exact ih (k + 1) _ (pair_set hu (by omega) (fun z hz e => by omega)) (by omega) (by omega)
  have l60 : ∀ (d k : Nat) (u : RS9), PAIR σ u → k ≤ t → 100 < k + d → P1 (mX9_remembersPair_l60 d (nI i) (nI n) (nI k) u) (fun w σ' => CORE σ' ∧ FA σ σ') := by
    intro d
    induction d with
    | zero => intro k u _ hk hm; exfalso; omega
    | succ d ih =>
      intro k u hu hk hm
      have ek : (nI k).toInt = (k : Int) := nI_toInt (by omega)
      have r42 : rGa u 42 (nI i) = nI t := by rw [rd_nI (by omega), hu.1 42 (by decide), ← rd_nI (σ := σ) (r := 42) (k := i) (by omega)]; exact ht
      have r41 : rGa u 41 (nI i) = rGa σ 41 (nI i) := by rw [rd_nI (by omega), rd_nI (by omega), hu.1 41 (by decide)]
      rw [ht, et] at h1
      unfold mX9_remembersPair_l60
      refine q1_ck (c42 42 rfl) ?_
      rw [r42]
      refine q1_le et ek (fun _ => ?_) (fun q => ?_)
      · refine q1_ck rfl ?_
        exact l110 rFU 0 _ (pair_set (j := 2944) hu (by omega) (fun z hz e => by rw [en]; omega)) (by omega) (by unfold rFU; omega)
      · rw [r41]
        have e41 : ((rGa σ 41 (nI i)) + nI k).toInt = (rGa σ 41 (nI i)).toInt + k := i_add rfl ek (by omega)
        have e84 : ((2884 : Int32) + nI k) = nI (2884 + k) := nI_add 2884 k
        rw [e84, nI_1]
        refine q1_ck (c42 41 rfl) (q1_ck (in_of (N := 600) (by omega) (by omega)) (q1_ck (cr1 (by omega)) ?_))
        exact ih (k + 1) _ (pair_set hu (by omega) (fun z hz e => by omega)) (by omega) (by omega)
  have l16 : ∀ (d w : Nat) (u : RS9), PAIR σ u → 3004 ≤ w → w ≤ 4346 → w < 2000 + d → P1 (mX9_remembersPair_l16 d (nI i) (nI n) (nI w) u) (fun w σ' => CORE σ' ∧ FA σ σ') := by
    intro d
    induction d with
    | zero => intro w u _ h1 h2 hm; exfalso; omega
    | succ d ih =>
      intro w u hu hw1 hw2 hm
      have ew : (nI w).toInt = (w : Int) := nI_toInt (by omega)
      unfold mX9_remembersPair_l16
      refine q1_lt ew (show (3005 : Int32).toInt = 3005 by decide) (fun _ => ?_) (fun q => ?_)
      · have r42 : rGa u 42 (nI i) = nI t := by rw [rd_nI (by omega), hu.1 42 (by decide), ← rd_nI (σ := σ) (r := 42) (k := i) (by omega)]; exact ht
        rw [r42]
        refine q1_ck (c42 42 rfl) (q1_ck rfl ?_)
        exact l60 rFU 0 _ (pair_set (j := 2883) hu (by omega) (fun z hz e => by rw [et]; omega)) (by omega) (by unfold rFU; omega)
      · rw [nI_122 (by omega) (by omega), nI_dec (by omega) (by omega), rd_nI (by omega)]
        refine q1_ck (cr1 (by omega)) (q1_ck (cr1 (by omega)) ?_)
        refine ih (w - 1) _ (pair_set hu (by omega) (fun z hz e => ?_)) (by omega) (by omega) (by omega)
        have e2 : w - 122 = 2883 + 61 * (z - 2) := by omega
        rw [e2]
        exact hu.2.2.2 _ (by omega)
  exact l16 rFU 4346 σ ⟨fun _ _ => rfl, fun _ => rfl, fun _ _ => rfl, hV.2.2.2.2.2.1⟩ (by omega) (by omega) (by unfold rFU; omega)
/-! how long it is now decides -/
def NN (σ : RS9) : Prop := ∀ p : Nat, σ.1 33 = nI p → p ≤ 40 → ∀ i, i < p → 0 ≤ bo σ i
theorem core_x9 {a b : RS9} (hC : CORE a) (h : FX a b) : CORE b := core_fr hC (h.1 1 (by decide) (by decide) (by decide)) (fun k x y => h.1 k (by omega) (by omega) (by omega)) (h.2 33 (by decide)) (h.2 45 (by decide))
theorem a_builtMany (hT : TV σ) (hN : NN σ) : P1 (mX9_builtMany σ) (fun v σ' => FX σ σ' ∧ (v.toInt ≤ 600 → CORE σ')) := by
  obtain ⟨p, hB⟩ := tab_ba hT.1 hT.2
  obtain ⟨v, s, e, e2, e3⟩ := builtMany_x hB
  refine ⟨v, s, e, e3, fun h6 => core_x9 ⟨hT.1, hT.2, p, hB.2.2.1, hB.2.2.2.2.1, hN p hB.2.2.1 hB.2.2.2.2.1, by rw [← e2]; exact h6⟩ e3⟩
theorem core_nn (hC : CORE σ) : NN σ := fun p e h4 i hi => by
  obtain ⟨p', e', h4', h1, -⟩ := hC.2.2
  have : p = p' := nI_inj (by omega) (by omega) (e.symm.trans e')
  exact h1 i (by omega)
theorem tv_fw {s : RS9} (hT : TV σ) (h : FW σ s) : TV s := by
  have e : s.2 1 = σ.2 1 := h.1 1 (by decide) (by decide)
  exact ⟨by rw [e]; exact hT.1, tab_m hT.1 hT.2 (fun _ _ _ => by rw [e]) (fun k a b => h.1 k (by omega) (by omega)) (h.2 33 (by decide)) (h.2 45 (by decide))⟩
theorem fa_w {s : RS9} (h : FW σ s) : FA σ s := fa_x (fx_w h)
theorem fa_tld {i n : Nat} {s : RS9} (h : TLD i n σ s) : FA σ s := ⟨fun k hk => h.1 k (by omega), fun k _ => h.2.1 k⟩
/-- one is told, that can be escaped -/
theorem nn_tell {p i n : Nat} {s σ' : RS9} {v : Int32} (hT : TV σ) (hN : NN σ) (hB : BA p σ σ) (hi : i < p) (hn : n ≤ 60) (he : mX9_escapedFor (nI i) (nI n) σ = some (v, s)) (hv : v ≠ -1) (hs : FW σ s) (hT2 : TLD i n s σ') : TV σ' ∧ NN σ' := by
  have hp := hB.2.2.2.2.1
  have hTs := tv_fw hT hs
  have hT' := tld_tv hTs (by omega) hn hT2
  refine ⟨hT', fun p' e h4 k hk => ?_⟩
  have ep : p' = p := nI_inj (by omega) (by omega) (e.symm.trans ((hT2.2.1 33).trans ((hs.2 33 (by decide)).trans hB.2.2.1)))
  subst ep
  by_cases hki : k = i
  · rw [hki]; exact new_bo hB hi hn he hv hs hT2 hT'.1
  · have es : s.2 1 = σ.2 1 := hs.1 1 (by decide) (by decide)
    have hBs : BA p' σ s := tv_ba hB (fun _ _ _ => by rw [es]) (fun k a b => hs.1 k (by omega) (by omega)) (hs.2 33 (by decide))
    have hBss : BA p' s s := by
      obtain ⟨b1, b2, b3, b4, b5, b6⟩ := hBs
      refine ⟨fun _ _ _ => rfl, by rw [es]; exact b2, b4, b4, b5, fun j hj => ⟨⟨rfl, rfl, rfl, rfl, rfl⟩, ?_⟩⟩
      obtain ⟨⟨c1, c2, -⟩, c3⟩ := b6 j hj
      rw [c1, c2]; exact c3
    rw [old_bo hBss hk hki hT2, (bo_eq hBs hk (fun _ _ _ => by rw [es])).1]
    exact hN p' hB.2.2.1 h4 k hk
end TELL
end
/-! part 44d.tell -/
section
section TELL2
variable {σ : RS9}
/-- an act's answer -/
def AQ (σ : RS9) (w : Int32) (σ' : RS9) : Prop := (w ≤ 0 → CORE σ') ∧ FA σ σ'
theorem q1_esc {p i n : Nat} {β : Type} {Q : β → RS9 → Prop} {k : Int32 × RS9 → Option (β × RS9)} (hB : BA p σ σ) (hi : i < p) (hn : n ≤ 60) (h : ∀ v s, mX9_escapedFor (nI i) (nI n) σ = some (v, s) → FW σ s → P1 (k (v, s)) Q) : P1 ((mX9_escapedFor (nI i) (nI n) σ).bind k) Q := by
  obtain ⟨v, s, e, hq⟩ := p1_of (t2_escapedFor hB hi hn (fun _ _ => rfl))
  have h2 := h v s e hq.2.1
  rw [e]; exact h2
theorem a_holdsTold {p i n : Nat} (hB : BA p σ σ) (hi : i < p) (hn : n ≤ 60) (ht : σ.2 1 (443 + 61 * i) = nI n) : P1 (mX9_holdsTold (nI i) σ) (fun w σ' => FX σ σ') := by
  have hp := hB.2.2.2.2.1
  unfold mX9_holdsTold
  exact q1_tail (p1_of (t2_holdsTold_l2 hi hp hn ht rFU 0 σ σ hB (fun _ _ _ => rfl) ⟨fun _ _ _ _ => rfl, fun _ _ => rfl⟩ ⟨fun _ _ _ _ => rfl, fun _ _ => rfl⟩ (fun j hj => absurd hj (by omega)) (by omega) (by unfold rFU; omega))) (fun w s h => h.1)
theorem e600 : (600 : Int32).toInt = 600 := by decide
theorem a_tell0 (hC : CORE σ) {x : Int32} {n : Nat} (hn : n ≤ 60) : P1 (mX9_tell0 x (nI n) σ) (AQ σ) := by
  obtain ⟨p, M, hP, hB, -⟩ := core_x hC
  have hp := hP.2.1
  unfold mX9_tell0
  refine q1_ro (o_isPieceThere hP) (fun y hy => ?_)
  dsimp only
  refine q1_eq (fun _ => q1_ret ⟨fun e => absurd e (by decide), fa_r σ⟩) (fun q => ?_)
  have hx := hy.2 q
  obtain ⟨i, hi, hxi⟩ : ∃ i : Nat, i < p ∧ x = nI i := ⟨x.toInt.toNat, by omega, nI_x hx.1 (by omega)⟩
  subst hxi
  refine q1_esc hB hi hn (fun v s he hs => ?_)
  dsimp only
  refine q1_eq (fun _ => q1_ret ⟨fun e => absurd e (by decide), fa_w hs⟩) (fun hv => ?_)
  refine q1_call (a_tells (σ := s) (by omega) hn) (fun w s2 hT2 => ?_)
  dsimp only
  obtain ⟨hTV, hNN⟩ := nn_tell ⟨hC.1, hC.2.1⟩ (core_nn hC) hB hi hn he hv hs hT2
  have fa2 : FA σ s2 := fa_tr (fa_w hs) (fa_tld hT2)
  refine q1_call (a_builtMany hTV hNN) (fun w3 s3 h3 => ?_)
  dsimp only
  refine q1_le rfl e600 (fun q6 => ?_) (fun _ => q1_ret ⟨fun e => absurd e (by decide), fa_tr fa2 (fa_x h3.1)⟩)
  have hC3 := h3.2 q6
  obtain ⟨p3, M3, hP3, hB3, -⟩ := core_x hC3
  have e33 : s3.1 33 = nI p := (h3.1.2 33 (by decide)).trans ((hT2.2.1 33).trans ((hs.2 33 (by decide)).trans hP.1))
  have ep : p3 = p := nI_inj (by have := hP3.2.1; omega) (by omega) (hP3.1.symm.trans e33)
  subst ep
  have ht3 : s3.2 1 (443 + 61 * i) = nI n := by rw [h3.1.1 1 (by decide) (by decide) (by decide)]; exact hT2.2.2.1
  refine q1_call (a_holdsTold hB3 hi hn ht3) (fun w4 s4 h4 => ?_)
  dsimp only
  have hC4 := core_x9 hC3 h4
  obtain ⟨p4, M4, hP4, -⟩ := core_x hC4
  have ep4 : p4 = p3 := nI_inj (by have := hP4.2.1; omega) (by omega) (hP4.1.symm.trans ((h4.2 33 (by decide)).trans hP3.1))
  subst ep4
  refine q1_call (a_remembersPair hC4 hP4 hi hn) (fun w5 s5 h5 => ?_)
  exact q1_ret ⟨fun _ => h5.1, fa_tr fa2 (fa_tr (fa_x h3.1) (fa_tr (fa_x h4) h5.2))⟩
theorem a_free0 (hC : CORE σ) {x : Int32} : P1 (mX9_free0 x σ) (AQ σ) := by
  obtain ⟨p, M, hP, hB, -⟩ := core_x hC
  have hp := hP.2.1
  unfold mX9_free0
  refine q1_ro (o_isPieceThere hP) (fun y hy => ?_)
  dsimp only
  refine q1_eq (fun _ => q1_ret ⟨fun e => absurd e (by decide), fa_r σ⟩) (fun q => ?_)
  have hx := hy.2 q
  obtain ⟨i, hi, hxi⟩ : ∃ i : Nat, i < p ∧ x = nI i := ⟨x.toInt.toNat, by omega, nI_x hx.1 (by omega)⟩
  subst hxi
  refine q1_ro (o_toldOf hP hx) (fun z _ => ?_)
  dsimp only
  refine q1_eq (fun _ => q1_ret ⟨fun e => absurd e (by decide), fa_r σ⟩) (fun _ => ?_)
  rw [told_ix]
  refine q1_ck (cr1 (by omega)) ?_
  have r : ∀ j, (rSa σ 1 (nI (443 + 61 * i)) (-1)).2 1 j = if j = 443 + 61 * i then -1 else σ.2 1 j := fun j => sa_nI (by omega)
  have hTV : TV (rSa σ 1 (nI (443 + 61 * i)) (-1)) := by
    obtain ⟨v1, v2, v3, v4, v5, v6, v7⟩ := id hC.1
    refine ⟨⟨by rw [r, if_neg (by omega)]; exact v1, by rw [r, if_neg (by omega)]; exact v2, by rw [r, if_neg (by omega)]; exact v3, by rw [r, if_neg (by omega)]; exact v4, fun k hk => ?_, fun k hk => by rw [r, if_neg (by omega)]; exact v6 k hk, fun l hl => by rw [r, if_neg (by omega)]; exact v7 l hl⟩, tab_m hC.1 hC.2.1 (fun j hj _ => by rw [r, if_neg (by omega)]) (fun k a b => sa_ne (by omega)) rfl rfl⟩
    rw [r]
    by_cases e : 443 + 61 * k = 443 + 61 * i
    · rw [if_pos e, kt_m1]; omega
    · rw [if_neg e]; exact v5 k hk
  have hNN : NN (rSa σ 1 (nI (443 + 61 * i)) (-1)) := fun p' e h4 k hk => by
    have ep : p' = p := nI_inj (by omega) (by omega) (e.symm.trans hP.1)
    subst ep
    have hB2 : BA p' σ (rSa σ 1 (nI (443 + 61 * i)) (-1)) := tv_ba hB (fun j hj _ => by rw [r, if_neg (by omega)]) (fun k a b => sa_ne (by omega)) rfl
    by_cases hki : k = i
    · obtain ⟨b1, b2, b3, b4, b5, b6⟩ := hB2
      have hBs : BA p' (rSa σ 1 (nI (443 + 61 * i)) (-1)) (rSa σ 1 (nI (443 + 61 * i)) (-1)) := ⟨fun _ _ _ => rfl, hTV.1, b4, b4, b5, fun j hj => ⟨⟨rfl, rfl, rfl, rfl, rfl⟩, by obtain ⟨⟨c1, c2, -⟩, c3⟩ := b6 j hj; rw [c1, c2]; exact c3⟩⟩
      have h1 := (bo_eq hBs hk (fun _ _ _ => rfl)).2.2.2 (by rw [r, if_pos (by omega)])
      have h2 := (hBs.2.2.2.2.2 k hk).2
      omega
    · rw [(bo_eq hB2 hk (fun j a b => by rw [r, if_neg (by omega)])).1]
      exact core_nn hC p' hP.1 h4 k hk
  refine q1_call (a_builtMany hTV hNN) (fun w3 s3 h3 => ?_)
  have fa3 : FA σ s3 := fa_tr fa_m (fa_x h3.1)
  exact q1_le rfl e600 (fun q6 => q1_ret ⟨fun _ => h3.2 q6, fa3⟩) (fun _ => q1_ret ⟨fun e => absurd e (by decide), fa3⟩)
/-- what stays while several are told -/
theorem cp_tv {p : Nat} {u : RS9} (hP : CP p σ) (hV : VM9 (u.2 1)) (hr : ∀ k, 34 ≤ k → k ≤ 42 → u.2 k = σ.2 k) (h33 : u.1 33 = σ.1 33) : CP p u := by
  obtain ⟨c1, c2, c3, c4⟩ := hP
  refine ⟨h33.trans c1, c2, hV, fun i hi => ?_⟩
  rw [hr 34 (by decide) (by decide), hr 35 (by decide) (by decide), hr 41 (by decide) (by decide), hr 42 (by decide) (by decide)]
  exact c4 i hi
theorem a_spread0 (hC : CORE σ) {x : Int32} : P1 (mX9_spread0 x σ) (AQ σ) := by
  have hC0 : CORE (rSf σ 57 0) := core_fr hC rfl (fun _ _ _ => rfl) (sf_ne (by decide)) (sf_ne (by decide))
  have fa0 : FA σ (rSf σ 57 0) := ⟨fun _ _ => rfl, fun k hk => sf_ne (by omega)⟩
  obtain ⟨p, M, hP, hB, -⟩ := core_x hC0
  have hp := hP.2.1
  unfold mX9_spread0
  refine q1_ro (o_isPieceThere hP) (fun y hy => ?_)
  dsimp only
  refine q1_eq (fun _ => q1_ret ⟨fun e => absurd e (by decide), fa0⟩) (fun q => ?_)
  have hx := hy.2 q
  obtain ⟨i, hi, hxi⟩ : ∃ i : Nat, i < p ∧ x = nI i := ⟨x.toInt.toNat, by omega, nI_x hx.1 (by omega)⟩
  refine q1_ro (o_toldOf hP hx) (fun z hz => ?_)
  dsimp only
  refine q1_eq (fun _ => q1_ret ⟨fun e => absurd e (by decide), fa0⟩) (fun hne => ?_)
  refine q1_ro (o_toldOf hP hx) (fun z2 hz2 => ?_)
  dsimp only
  have ezz : z2 = z := hz2.1.trans hz.1.symm
  subst ezz
  have hz0 : z2.toInt ≠ -1 := fun e => hne (Int32.toInt_inj.mp (e.trans kt_m1.symm))
  obtain ⟨n, hn6, hn⟩ := nI_back (x := z2) (by omega) (by omega)
  have hn60 : n ≤ 60 := by have := hz2.2.2; rw [hn, nI_toInt (by omega)] at this; omega
  have hxt : x.toInt.toNat = i := by rw [hxi, nI_toInt (by omega)]; rfl
  have ht : (rSf σ 57 0).2 1 (443 + 61 * i) = nI n := by
    have := hz2.1
    rw [hxt] at this
    exact this.symm.trans hn
  rw [hxi, hn]
  refine q1_call (a_holdsTold hB hi hn60 ht) (fun w s hs => ?_)
  dsimp only
  let OK : RS9 → Prop := fun u => TV u ∧ NN u ∧ FA σ u ∧ (∀ k, 34 ≤ k → k ≤ 42 → u.2 k = σ.2 k) ∧ u.1 33 = nI p
  have key : ∀ (d k : Nat) (u : RS9), OK u → k ≤ p → 100 < k + d → P1 (mX9_spread0_l39 d (nI i) (nI n) (nI k) u) (AQ σ) := by
    intro d
    induction d with
    | zero => intro k u _ hk hm; exfalso; omega
    | succ d ih =>
      intro k u hu hk hm
      obtain ⟨uT, uN, uF, uR, u33⟩ := hu
      have ek : (nI k).toInt = (k : Int) := nI_toInt (by omega)
      have ei : (nI i).toInt = (i : Int) := nI_toInt (by omega)
      have ep : (u.1 33).toInt = (p : Int) := by rw [u33]; exact nI_toInt (by omega)
      have hPu : CP p u := cp_tv hP uT.1 (fun z a b => uR z a b) (u33.trans hP.1.symm)
      obtain ⟨p', hB'⟩ := tab_ba uT.1 uT.2
      have epp : p' = p := nI_inj (by have := hB'.2.2.2.2.1; omega) (by omega) (hB'.2.2.1.symm.trans u33)
      subst epp
      unfold mX9_spread0_l39
      refine q1_le ep ek (fun _ => ?_) (fun q2 => ?_)
      · refine q1_call (a_builtMany uT uN) (fun w3 s3 h3 => ?_)
        have fa3 : FA σ s3 := fa_tr uF (fa_x h3.1)
        exact q1_le rfl e600 (fun q6 => q1_ret ⟨fun _ => h3.2 q6, fa3⟩) (fun _ => q1_ret ⟨fun e => absurd e (by decide), fa3⟩)
      · refine q1_ro (o_areLike hPu (by rw [ei]; omega) (by rw [ek]; omega)) (fun y _ => ?_)
        dsimp only
        have nx : ∀ s2, OK s2 → P1 (mX9_spread0_b92 (fun v1 v2 v3 σ => mX9_spread0_l39 d v1 v2 v3 σ) (nI i) (nI n) (nI k) s2) (AQ σ) := fun s2 h2 => by
          unfold mX9_spread0_b92
          rw [nI_1]
          exact ih (k + 1) s2 h2 (by omega) (by omega)
        refine q1_eq (fun _ => nx u ⟨uT, uN, uF, uR, u33⟩) (fun _ => ?_)
        refine q1_eq (fun _ => nx u ⟨uT, uN, uF, uR, u33⟩) (fun _ => ?_)
        refine q1_esc hB' (show k < p' by omega) hn60 (fun v s2 he hs2 => ?_)
        dsimp only
        refine q1_eq (fun _ => q1_ret ⟨fun e => absurd e (by decide), fa_tr uF (fa_w hs2)⟩) (fun hv => ?_)
        refine q1_call (a_tells (σ := s2) (by omega) hn60) (fun w s3 hT3 => ?_)
        dsimp only
        obtain ⟨hTV, hNN⟩ := nn_tell uT uN hB' (show k < p' by omega) hn60 he hv hs2 hT3
        have f3 : FA σ s3 := fa_tr uF (fa_tr (fa_w hs2) (fa_tld hT3))
        refine nx _ ⟨⟨hTV.1, tab_m hTV.1 hTV.2 (fun _ _ _ => rfl) (fun _ _ _ => rfl) (sf_ne (by decide)) (sf_ne (by decide))⟩, ?_, fa_tr f3 ⟨fun _ _ => rfl, fun k hk => sf_ne (by omega)⟩, fun z a b => (hT3.1 z (by omega)).trans ((hs2.1 z (by omega) (by omega)).trans (uR z a b)), (sf_ne (by decide)).trans ((hT3.2.1 33).trans ((hs2.2 33 (by decide)).trans u33))⟩
        intro p9 e9 h9 j hj
        obtain ⟨pp, hBB⟩ := tab_ba hTV.1 hTV.2
        have e33 : s3.1 33 = nI p9 := (sf_ne (by decide)).symm.trans e9
        have e99 : pp = p9 := nI_inj (by have := hBB.2.2.2.2.1; omega) (by omega) (hBB.2.2.1.symm.trans e33)
        subst e99
        have hB9 : BA pp s3 (rSf s3 57 (s3.1 57 + 1)) := tv_ba hBB (fun _ _ _ => rfl) (fun _ _ _ => rfl) (sf_ne (by decide))
        rw [(bo_eq hB9 hj (fun _ _ _ => rfl)).1]
        exact hNN pp e33 h9 j hj
  have hCs := core_x9 hC0 hs
  exact key rFU 0 s ⟨⟨hCs.1, hCs.2.1⟩, core_nn hCs, fa_tr fa0 (fa_x hs), fun z a b => hs.1 z (by omega) (by omega) (by omega), (hs.2 33 (by decide)).trans hP.1⟩ (by omega) (by unfold rFU; omega)
end TELL2
end
/-! part 44e.swap -/
section
section SWAP
variable {σ : RS9}
theorem tn_fr {u u' : RS9} (hT : TV u) (hN : NN u) (hm : u'.2 1 = u.2 1) (hr : ∀ k, 34 ≤ k → k ≤ 42 → u'.2 k = u.2 k) (h33 : u'.1 33 = u.1 33) (h45 : u'.1 45 = u.1 45) : TV u' ∧ NN u' := by
  obtain ⟨p, hB⟩ := tab_ba hT.1 hT.2
  have hp := hB.2.2.2.2.1
  refine ⟨⟨by rw [hm]; exact hT.1, tab_m hT.1 hT.2 (fun _ _ _ => by rw [hm]) hr h33 h45⟩, fun p' e h4 i hi => ?_⟩
  have ep : p' = p := nI_inj (by omega) (by omega) (e.symm.trans (h33.trans hB.2.2.1))
  subst ep
  rw [(bo_eq (tv_ba hB (fun _ _ _ => by rw [hm]) hr h33) hi (fun _ _ _ => by rw [hm])).1]
  exact hN p' hB.2.2.1 h4 i hi
theorem a_swap0 (hC : CORE σ) {x y : Int32} : P1 (mX9_swap0 x y σ) (AQ σ) := by
  obtain ⟨p, M, hP, hB, -⟩ := core_x hC
  have hp := hP.2.1
  unfold mX9_swap0
  refine q1_ro (o_isPieceThere hP) (fun z hz => ?_)
  dsimp only
  refine q1_eq (fun _ => q1_ret ⟨fun e => absurd e (by decide), fa_r σ⟩) (fun q => ?_)
  have hx := hz.2 q
  refine q1_ro (o_isPieceThere hP) (fun z2 hz2 => ?_)
  dsimp only
  refine q1_eq (fun _ => q1_ret ⟨fun e => absurd e (by decide), fa_r σ⟩) (fun q2 => ?_)
  have hy := hz2.2 q2
  refine q1_eq (fun _ => q1_ret ⟨fun e => absurd e (by decide), fa_r σ⟩) (fun _ => ?_)
  refine q1_ro (o_nowMany hP hx) (fun va hva => ?_)
  dsimp only
  refine q1_ro (o_nowMany hP hy) (fun vb hvb => ?_)
  dsimp only
  have na := nm_b hP hx
  have nb := nm_b hP hy
  refine q1_lt (show (60 : Int32).toInt = 60 by decide) hva (fun _ => q1_ret ⟨fun e => absurd e (by decide), fa_r σ⟩) (fun qa => ?_)
  refine q1_le hvb (show (60 : Int32).toInt = 60 by decide) (fun qb => ?_) (fun _ => q1_ret ⟨fun e => absurd e (by decide), fa_r σ⟩)
  obtain ⟨a, ha6, ha⟩ := nI_back (x := va) (by omega) (by omega)
  obtain ⟨b, hb6, hb⟩ := nI_back (x := vb) (by omega) (by omega)
  have ea : (nI a).toInt = (a : Int) := nI_toInt (by omega)
  have eb : (nI b).toInt = (b : Int) := nI_toInt (by omega)
  rw [ha, ea] at hva
  rw [hb, eb] at hvb
  rw [ha, hb]
  obtain ⟨i, hi, hxi⟩ : ∃ i : Nat, i < p ∧ x = nI i := ⟨x.toInt.toNat, by omega, nI_x hx.1 (by omega)⟩
  obtain ⟨o, ho, hyo⟩ : ∃ o : Nat, o < p ∧ y = nI o := ⟨y.toInt.toNat, by omega, nI_x hy.1 (by omega)⟩
  subst hxi hyo
  have nmf : ∀ (u : RS9), (∀ z, z ≠ 53 → z ≠ 58 → u.2 z = σ.2 z) → ∀ w : Int32, nm9 u w = nm9 σ w := fun u hu w => by
    unfold nm9 rGa
    rw [hu 1 (by decide) (by decide), hu 42 (by decide) (by decide)]
  have cpf : ∀ (u : RS9), (∀ z, z ≠ 53 → z ≠ 58 → u.2 z = σ.2 z) → u.1 = σ.1 → CP p u := fun u hu h1 => cp_tv hP (by rw [hu 1 (by decide) (by decide)]; exact hC.1) (fun k a b => hu k (by omega) (by omega)) (by rw [h1])
  -- the last third
  have l136 : ∀ (d k : Nat) (u : RS9), TV u → NN u → FA σ u → u.1 33 = nI p → k ≤ a → 100 < k + d → P1 (mX9_swap0_l136 d (nI o) (nI a) (nI k) u) (AQ σ) := by
    intro d
    induction d with
    | zero => intro k u _ _ _ _ hk hm; exfalso; omega
    | succ d ih =>
      intro k u uT uN uF u33 hk hm
      have ek : (nI k).toInt = (k : Int) := nI_toInt (by omega)
      unfold mX9_swap0_l136
      refine q1_le ea ek (fun _ => ?_) (fun q3 => ?_)
      · obtain ⟨p', hB'⟩ := tab_ba uT.1 uT.2
        have epp : p' = p := nI_inj (by have := hB'.2.2.2.2.1; omega) (by omega) (hB'.2.2.1.symm.trans u33)
        subst epp
        refine q1_esc hB' ho (by omega) (fun v s2 he hs2 => ?_)
        dsimp only
        refine q1_eq (fun _ => q1_ret ⟨fun e => absurd e (by decide), fa_tr uF (fa_w hs2)⟩) (fun hv => ?_)
        refine q1_call (a_tells (σ := s2) (by omega) (by omega)) (fun w s3 hT3 => ?_)
        dsimp only
        obtain ⟨hTV, hNN⟩ := nn_tell uT uN hB' ho (by omega) he hv hs2 hT3
        have f3 : FA σ s3 := fa_tr uF (fa_tr (fa_w hs2) (fa_tld hT3))
        refine q1_call (a_builtMany hTV hNN) (fun w3 s4 h4 => ?_)
        have fa3 : FA σ s4 := fa_tr f3 (fa_x h4.1)
        exact q1_le rfl e600 (fun q6 => q1_ret ⟨fun _ => h4.2 q6, fa3⟩) (fun _ => q1_ret ⟨fun e => absurd e (by decide), fa3⟩)
      · rw [nI_1]
        refine q1_ck (inb_nI (n := 60) (by omega) (by decide)) (q1_ck (inb_nI (n := 60) (by omega) (by decide)) ?_)
        obtain ⟨t1, t2⟩ := tn_fr (u' := rSa u 53 (nI k) (rGa u 58 (nI k))) uT uN (sa_ne (by decide)) (fun z a b => sa_ne (by omega)) rfl rfl
        exact ih (k + 1) _ t1 t2 (fa_tr uF ⟨fun z hz => sa_ne (by omega), fun _ _ => rfl⟩) u33 (by omega) (by omega)
  have l86 : ∀ (d k : Nat) (u : RS9), (∀ z, z ≠ 53 → z ≠ 58 → u.2 z = σ.2 z) → u.1 = σ.1 → k ≤ b → 100 < k + d → P1 (mX9_swap0_l86 d (nI i) (nI o) (nI a) (nI b) (nI k) u) (AQ σ) := by
    intro d
    induction d with
    | zero => intro k u _ _ hk hm; exfalso; omega
    | succ d ih =>
      intro k u h1 h2 hk hm
      have ek : (nI k).toInt = (k : Int) := nI_toInt (by omega)
      have hPu := cpf u h1 h2
      unfold mX9_swap0_l86
      refine q1_le eb ek (fun _ => ?_) (fun q3 => ?_)
      · have hCu : CORE u := core_fr hC (h1 1 (by decide) (by decide)) (fun k a b => h1 k (by omega) (by omega)) (by rw [h2]) (by rw [h2])
        have uF : FA σ u := ⟨fun z hz => h1 z (by omega) (by omega), fun _ _ => by rw [h2]⟩
        have u33 : u.1 33 = nI p := by rw [h2]; exact hP.1
        obtain ⟨p', hB'⟩ := tab_ba hCu.1 hCu.2.1
        have epp : p' = p := nI_inj (by have := hB'.2.2.2.2.1; omega) (by omega) (hB'.2.2.1.symm.trans u33)
        subst epp
        refine q1_esc hB' hi (by omega) (fun v s2 he hs2 => ?_)
        dsimp only
        refine q1_eq (fun _ => q1_ret ⟨fun e => absurd e (by decide), fa_tr uF (fa_w hs2)⟩) (fun hv => ?_)
        refine q1_call (a_tells (σ := s2) (by omega) (by omega)) (fun w s3 hT3 => ?_)
        dsimp only
        obtain ⟨hTV, hNN⟩ := nn_tell ⟨hCu.1, hCu.2.1⟩ (core_nn hCu) hB' hi (by omega) he hv hs2 hT3
        exact l136 rFU 0 s3 hTV hNN (fa_tr uF (fa_tr (fa_w hs2) (fa_tld hT3))) ((hT3.2.1 33).trans ((hs2.2 33 (by decide)).trans u33)) (by omega) (by unfold rFU; omega)
      · refine q1_ro (o_nowByte hPu hy (by rw [ek, nmf u h1]; omega)) (fun z _ => ?_)
        dsimp only
        rw [nI_1]
        refine q1_ck (inb_nI (n := 60) (by omega) (by decide)) ?_
        exact ih (k + 1) _ (fun z z53 z58 => (sa_ne z53).trans (h1 z z53 z58)) h2 (by omega) (by omega)
  have l57 : ∀ (d k : Nat) (u : RS9), (∀ z, z ≠ 53 → z ≠ 58 → u.2 z = σ.2 z) → u.1 = σ.1 → k ≤ a → 100 < k + d → P1 (mX9_swap0_l57 d (nI i) (nI o) (nI a) (nI b) (nI k) u) (AQ σ) := by
    intro d
    induction d with
    | zero => intro k u _ _ hk hm; exfalso; omega
    | succ d ih =>
      intro k u h1 h2 hk hm
      have ek : (nI k).toInt = (k : Int) := nI_toInt (by omega)
      have hPu := cpf u h1 h2
      unfold mX9_swap0_l57
      refine q1_le ea ek (fun _ => ?_) (fun q3 => ?_)
      · exact l86 rFU 0 u h1 h2 (by omega) (by unfold rFU; omega)
      · refine q1_ro (o_nowByte hPu hx (by rw [ek, nmf u h1]; omega)) (fun z _ => ?_)
        dsimp only
        rw [nI_1]
        refine q1_ck (inb_nI (n := 60) (by omega) (by decide)) ?_
        exact ih (k + 1) _ (fun z z53 z58 => (sa_ne z58).trans (h1 z z53 z58)) h2 (by omega) (by omega)
  exact l57 rFU 0 σ (fun _ _ _ => rfl) rfl (by omega) (by unfold rFU; omega)
/-! aside, and back -/
theorem a_putsAside : P1 (mX9_putsAside σ) (fun v σ' => (∀ z, z ≠ 2 → σ'.2 z = σ.2 z) ∧ σ'.1 = σ.1 ∧ ∀ i, i < 4347 → σ'.2 2 i = σ.2 1 i) := by
  have key : ∀ (d k : Nat) (u : RS9), (∀ z, z ≠ 2 → u.2 z = σ.2 z) → u.1 = σ.1 → (∀ i, i < k → u.2 2 i = σ.2 1 i) → k ≤ 4347 → 5000 < k + d → P1 (mX9_putsAside_l2 d (nI k) u) (fun v σ' => (∀ z, z ≠ 2 → σ'.2 z = σ.2 z) ∧ σ'.1 = σ.1 ∧ ∀ i, i < 4347 → σ'.2 2 i = σ.2 1 i) := by
    intro d
    induction d with
    | zero => intro k u _ _ _ hk hm; exfalso; omega
    | succ d ih =>
      intro k u h1 h2 h3 hk hm
      have ek : (nI k).toInt = (k : Int) := nI_toInt (by omega)
      unfold mX9_putsAside_l2
      refine q1_le e4347 ek (fun q => ?_) (fun q => ?_)
      · exact q1_ret ⟨h1, h2, fun i hi => h3 i (by omega)⟩
      · rw [nI_1, rd_nI (by omega)]
        refine q1_ck (cr1 (by omega)) (q1_ck (inb_nI (n := 4347) (by omega) (by decide)) ?_)
        refine ih (k + 1) _ (fun z hz => (sa_ne hz).trans (h1 z hz)) h2 (fun i hi => ?_) (by omega) (by omega)
        rw [sa_nI (by omega)]
        by_cases e : i = k
        · rw [if_pos e, h1 1 (by decide), e]
        · rw [if_neg e]; exact h3 i (by omega)
  unfold mX9_putsAside
  exact key rFU 0 σ (fun _ _ => rfl) rfl (fun i hi => absurd hi (by omega)) (by omega) (by unfold rFU; omega)
theorem a_putsBack (hG : GOOD (σ.2 2)) : P1 (mX9_putsBack σ) (fun v σ' => CORE σ' ∧ (∀ k, k ≤ 12 → k ≠ 1 → σ'.2 k = σ.2 k) ∧ ∀ k, k < 16 → σ'.1 k = σ.1 k) := by
  have key : ∀ (d k : Nat) (u : RS9), (∀ z, z ≠ 1 → u.2 z = σ.2 z) → u.1 = σ.1 → (∀ i, i < k → u.2 1 i = σ.2 2 i) → k ≤ 4347 → 5000 < k + d → P1 (mX9_putsBack_l2 d (nI k) u) (fun v σ' => CORE σ' ∧ (∀ k, k ≤ 12 → k ≠ 1 → σ'.2 k = σ.2 k) ∧ ∀ k, k < 16 → σ'.1 k = σ.1 k) := by
    intro d
    induction d with
    | zero => intro k u _ _ _ hk hm; exfalso; omega
    | succ d ih =>
      intro k u h1 h2 h3 hk hm
      have ek : (nI k).toInt = (k : Int) := nI_toInt (by omega)
      unfold mX9_putsBack_l2
      refine q1_le e4347 ek (fun q => ?_) (fun q => ?_)
      · have e : k = 4347 := by omega
        subst e
        refine q1_call (cut_core (good_eq hG h3)) (fun v s hs => ?_)
        refine q1_ret ⟨hs.2, fun z hz z1 => (hs.1.1 z (by omega)).trans (h1 z z1), fun z hz => ?_⟩
        exact (hs.1.2 z (by omega) (by omega) (by omega) (by omega) (by omega) (by omega) (by omega)).trans (by rw [h2])
      · rw [nI_1, rd_nI (by omega)]
        refine q1_ck (inb_nI (n := 4347) (by omega) (by decide)) (q1_ck (cr1 (by omega)) ?_)
        refine ih (k + 1) _ (fun z hz => (sa_ne hz).trans (h1 z hz)) h2 (fun i hi => ?_) (by omega) (by omega)
        rw [sa_nI (by omega)]
        by_cases e : i = k
        · rw [if_pos e, h1 2 (by decide), e]
        · rw [if_neg e]; exact h3 i (by omega)
  unfold mX9_putsBack
  exact key rFU 0 σ (fun _ _ => rfl) rfl (fun i hi => absurd hi (by omega)) (by omega) (by unfold rFU; omega)
end SWAP
end
/-! part 44f.done -/
section
section DONE
variable {σ : RS9}
theorem e30429 : (30429 : Int32).toInt = 30429 := by decide
theorem a_remembers_l52 {u : Nat} (hu : u ≤ 7) (h5 : σ.1 5 = nI u) (hG : GOOD (σ.2 2)) (hs : ∀ s, s < u → GOOD (fun i => σ.2 4 (4347 * s + i))) : P1 (mX9_remembers_b50 σ) (fun v σ' => UN σ' ∧ (∀ z, z ≠ 4 → σ'.2 z = σ.2 z) ∧ ∀ z, z ≠ 5 → σ'.1 z = σ.1 z) := by
  have key : ∀ (d k : Nat) (w : RS9), (∀ z, z ≠ 4 → w.2 z = σ.2 z) → w.1 = σ.1 → (∀ i, i < 4347 * u → w.2 4 i = σ.2 4 i) → (∀ i, i < k → w.2 4 (4347 * u + i) = σ.2 2 i) → k ≤ 4347 → 5000 < k + d → P1 (mX9_remembers_l52 d (nI k) w) (fun v σ' => UN σ' ∧ (∀ z, z ≠ 4 → σ'.2 z = σ.2 z) ∧ ∀ z, z ≠ 5 → σ'.1 z = σ.1 z) := by
    intro d
    induction d with
    | zero => intro k w _ _ _ _ hk hm; exfalso; omega
    | succ d ih =>
      intro k w h1 h2 h3 h4 hk hm
      have ek : (nI k).toInt = (k : Int) := nI_toInt (by omega)
      have w5 : w.1 5 = nI u := by rw [h2]; exact h5
      unfold mX9_remembers_l52
      refine q1_le e4347 ek (fun q => ?_) (fun q => ?_)
      · have e : k = 4347 := by omega
        subst e
        refine q1_ret ⟨⟨u + 1, by rw [sf_eq, w5, nI_1], by omega, fun s hs2 => ?_⟩, h1, fun z hz => (sf_ne hz).trans (by rw [h2])⟩
        by_cases e : s = u
        · subst e
          exact good_eq hG (fun i hi => h4 i hi)
        · refine good_eq (hs s (by omega)) (fun i hi => h3 _ ?_)
          have : 4347 * s + 4347 ≤ 4347 * u := by omega
          omega
      · rw [w5, mul4347, nI_add, nI_1, rd_nI (by omega)]
        refine q1_ck (inb_nI (n := 4347) (by omega) (by decide)) (q1_ck (inb_nI (n := 34776) (by omega) (by decide)) ?_)
        refine ih (k + 1) _ (fun z hz => (sa_ne hz).trans (h1 z hz)) h2 (fun i hi => ?_) (fun i hi => ?_) (by omega) (by omega)
        · rw [sa_nI (by omega), if_neg (by omega)]; exact h3 i hi
        · rw [sa_nI (by omega)]
          by_cases e : i = k
          · rw [if_pos (by omega), h1 2 (by decide), e]
          · rw [if_neg (by omega)]; exact h4 i (by omega)
  unfold mX9_remembers_b50
  exact key rFU 0 σ (fun _ _ => rfl) rfl (fun _ _ => rfl) (fun i hi => absurd hi (by omega)) (by omega) (by unfold rFU; omega)
theorem a_remembers (hU : UN σ) (hG : GOOD (σ.2 2)) : P1 (mX9_remembers σ) (fun v σ' => UN σ' ∧ (∀ z, z ≠ 4 → σ'.2 z = σ.2 z) ∧ ∀ z, z ≠ 5 → σ'.1 z = σ.1 z) := by
  obtain ⟨u, h5, hu, hs⟩ := hU
  unfold mX9_remembers
  refine q1_eq (fun q => ?_) (fun q => ?_)
  · have e8 : u = 8 := nI_inj (by omega) (by omega) (h5.symm.trans q)
    subst e8
    have key : ∀ (d k : Nat) (w : RS9), (∀ z, z ≠ 4 → w.2 z = σ.2 z) → w.1 = σ.1 → (∀ i, i < k → w.2 4 i = σ.2 4 (i + 4347)) → (∀ i, k ≤ i → w.2 4 i = σ.2 4 i) → k ≤ 30429 → 35000 < k + d → P1 (mX9_remembers_l11 d (nI k) w) (fun v σ' => UN σ' ∧ (∀ z, z ≠ 4 → σ'.2 z = σ.2 z) ∧ ∀ z, z ≠ 5 → σ'.1 z = σ.1 z) := by
      intro d
      induction d with
      | zero => intro k w _ _ _ _ hk hm; exfalso; omega
      | succ d ih =>
        intro k w h1 h2 h3 h4 hk hm
        have ek : (nI k).toInt = (k : Int) := nI_toInt (by omega)
        unfold mX9_remembers_l11
        refine q1_le e30429 ek (fun q => ?_) (fun q => ?_)
        · have e : k = 30429 := by omega
          subst e
          have w5 : (w.1 5) - (1 : Int32) = nI 7 := by rw [h2, h5]; decide
          rw [w5]
          refine q1_tail (a_remembers_l52 (σ := rSf w 5 (nI 7)) (u := 7) (by omega) sf_eq (by rw [show (rSf w 5 (nI 7)).2 2 = w.2 2 from rfl, h1 2 (by decide)]; exact hG) (fun s hs2 => ?_)) (fun v t ht => ⟨ht.1, fun z hz => (ht.2.1 z hz).trans (h1 z hz), fun z hz => (ht.2.2 z hz).trans ((sf_ne hz).trans (by rw [h2]))⟩)
          refine good_eq (hs (s + 1) (by omega)) (fun i hi => ?_)
          refine (h3 _ (by omega)).trans ?_
          exact congrArg (σ.2 4) (by omega)
        · rw [show (4347 : Int32) = nI 4347 from rfl, nI_add, nI_1, rd_nI (by omega)]
          refine q1_ck (inb_nI (n := 34776) (by omega) (by decide)) (q1_ck (inb_nI (n := 34776) (by omega) (by decide)) ?_)
          refine ih (k + 1) _ (fun z hz => (sa_ne hz).trans (h1 z hz)) h2 (fun i hi => ?_) (fun i hi => ?_) (by omega) (by omega)
          · rw [sa_nI (by omega)]
            by_cases e : i = k
            · rw [if_pos e, h4 _ (by omega), e]
            · rw [if_neg e]; exact h3 i (by omega)
          · rw [sa_nI (by omega), if_neg (by omega)]; exact h4 i (by omega)
    exact key rFU 0 σ (fun _ _ => rfl) rfl (fun i hi => absurd hi (by omega)) (fun _ _ => rfl) (by omega) (by unfold rFU; omega)
  · have u8 : u ≠ 8 := fun e => q (by rw [h5, e]; rfl)
    exact a_remembers_l52 (u := u) (by omega) h5 hG hs
theorem a_isDone {v c t : Int32} (hC : v = 0 → CORE σ) (h9 : σ.1 9 = t) (ht : 0 ≤ t.toInt ∧ t.toInt ≤ 400) (hU : UN σ) (hI : IM σ) (hG : GOOD (σ.2 2)) : P1 (mX9_isDone v c σ) (RP t) := by
  have b33 : ∀ s : RS9, RI s → s.1 9 = t → P1 (mX9_isDone_b33 v s) (RP t) := fun s hs h => by
    unfold mX9_isDone_b33
    exact q1_eq (fun _ => q1_ck rfl (q1_ret ⟨hs, h⟩)) (fun _ => q1_ck rfl (q1_ret ⟨hs, h⟩))
  have b15 : ∀ s1 : Int32, P1 (mX9_isDone_b15 v s1 (rSf σ 7 v)) (RP t) := fun s1 => by
    have f : ∀ k, k ≠ 0 → k ≠ 7 → (rSf (rSf σ 7 v) 0 s1).1 k = σ.1 k := fun k a b => (sf_ne a).trans (sf_ne b)
    unfold mX9_isDone_b15
    refine q1_eq (fun q => ?_) (fun q => ?_)
    · refine q1_call (a_remembers (σ := rSf (rSf σ 7 v) 0 s1) (un_fr hU rfl (f 5 (by decide) (by decide))) hG) (fun w s hs => ?_)
      have g9 : s.1 9 = t := (hs.2.2 9 (by decide)).trans ((f 9 (by decide) (by decide)).trans h9)
      refine b33 s ⟨core_fr (hC q) (hs.2.1 1 (by decide)) (fun k a b => hs.2.1 k (by omega)) ((hs.2.2 33 (by decide)).trans (f 33 (by decide) (by decide))) ((hs.2.2 45 (by decide)).trans (f 45 (by decide) (by decide))), by rw [g9]; exact ht, hs.1, im_fr hI (hs.2.1 3 (by decide)) ((hs.2.2 6 (by decide)).trans (f 6 (by decide) (by decide)))⟩ g9
    · refine q1_call (a_putsBack (σ := rSf (rSf σ 7 v) 0 s1) hG) (fun w s hs => ?_)
      have g9 : s.1 9 = t := (hs.2.2 9 (by decide)).trans ((f 9 (by decide) (by decide)).trans h9)
      refine b33 s ⟨hs.1, by rw [g9]; exact ht, un_fr hU (hs.2.1 4 (by decide) (by decide)) ((hs.2.2 5 (by decide)).trans (f 5 (by decide) (by decide))), im_fr hI (hs.2.1 3 (by decide) (by decide)) ((hs.2.2 6 (by decide)).trans (f 6 (by decide) (by decide)))⟩ g9
  unfold mX9_isDone
  exact q1_le rfl kt_0 (fun _ => b15 _) (fun _ => b15 _)
/-- aside, an act, done -/
theorem q1_act {β : Type} {Q : β → RS9 → Prop} {t : Int32} (h : RI σ) (ht : σ.1 9 = t) {act : RS9 → Option (Int32 × RS9)} (ha : ∀ u, CORE u → P1 (act u) (AQ u)) {c : Int32} {k : Int32 × RS9 → Option (β × RS9)} (hk : ∀ v s, RI s → s.1 9 = t → P1 (k (v, s)) Q) : P1 ((mX9_putsAside σ).bind fun r1 => ((act r1.2).bind fun r2 => ((mX9_isDone r2.1 c r2.2).bind k))) Q := by
  refine q1_call a_putsAside (fun v s hs => ?_)
  dsimp only
  have hCs : CORE s := core_fr h.1 (hs.1 1 (by decide)) (fun k a b => hs.1 k (by omega)) (by rw [hs.2.1]) (by rw [hs.2.1])
  refine q1_call (ha s hCs) (fun w u hu => ?_)
  dsimp only
  have hG : GOOD (u.2 2) := by
    rw [hu.2.1 2 (by omega)]
    exact good_eq (good_m h.1) hs.2.2
  refine q1_call (a_isDone (t := t) (fun e => hu.1 (by rw [e]; decide)) ((hu.2.2 9 (by omega)).trans ((by rw [hs.2.1] : s.1 9 = σ.1 9).trans ht)) (by rw [← ht]; exact h.2.1) (un_fr h.2.2.1 ((hu.2.1 4 (by omega)).trans (hs.1 4 (by decide))) ((hu.2.2 5 (by omega)).trans (by rw [hs.2.1]))) (im_fr h.2.2.2 ((hu.2.1 3 (by omega)).trans (hs.1 3 (by decide))) ((hu.2.2 6 (by omega)).trans (by rw [hs.2.1]))) hG) (fun w2 s2 h2 => ?_)
  exact hk w2 s2 h2.1 h2.2
theorem rp_i {α : Type} {t : Int32} {v : α} {s : RS9} (h : RI s) (h9 : s.1 9 = t) : RP t v s := ⟨h, h9⟩
theorem ur_unlock (h : RI σ) : P1 (mX9_unlock σ) (RP (σ.1 9)) := by
  unfold mX9_unlock
  exact q1_act h rfl (act := mX9_unlocks) (fun u hu => q1_tail (a_unlocks hu.1) (fun w s hs => ⟨fun _ => hs.2.1, hs.2.2⟩)) (fun v s hs h9 => q1_eq (fun _ => q1_ret (rp_i hs h9)) (fun _ => q1_ret (rp_i hs h9)))
theorem built_rp {t : Int32} {s : RS9} (hs : RI s) (h9 : s.1 9 = t) {k : Int32 × RS9 → Option (Int32 × RS9)} (hk : ∀ r, k r = some r) : P1 ((mX9_builtMany s).bind k) (RP t) := by
  refine q1_call (a_builtMany ⟨hs.1.1, hs.1.2.1⟩ (core_nn hs.1)) (fun v u hu => ?_)
  rw [hk]
  have g9 : u.1 9 = s.1 9 := hu.1.2 9 (by decide)
  exact q1_ret ⟨ri_fr hs (fun k hk => hu.1.1 k (by omega) (by omega) (by omega)) (fun k hk => hu.1.2 k (by omega)) (by rw [g9]; exact hs.2.1), g9.trans h9⟩
theorem ur_free (h : RI σ) {x : Int32} : P1 (mX9_free x σ) (RP (σ.1 9)) := by
  unfold mX9_free
  exact q1_act h rfl (act := fun u => mX9_free0 x u) (fun u hu => a_free0 hu) (fun v s hs h9 => q1_eq (fun _ => q1_ret (rp_i hs h9)) (fun _ => built_rp hs h9 (fun _ => rfl)))
theorem ur_spread (h : RI σ) {x : Int32} : P1 (mX9_spread x σ) (RP (σ.1 9)) := by
  unfold mX9_spread
  exact q1_act h rfl (act := fun u => mX9_spread0 x u) (fun u hu => a_spread0 hu) (fun v s hs h9 => q1_eq (fun _ => q1_ret (rp_i hs h9)) (fun _ => q1_ret (rp_i hs h9)))
theorem ur_swap (h : RI σ) {x y : Int32} : P1 (mX9_swap x y σ) (RP (σ.1 9)) := by
  unfold mX9_swap
  exact q1_act h rfl (act := fun u => mX9_swap0 x y u) (fun u hu => a_swap0 hu) (fun v s hs h9 => q1_eq (fun _ => q1_ret (rp_i hs h9)) (fun _ => built_rp hs h9 (fun _ => rfl)))
theorem ur_wipe (h : RI σ) : P1 (mX9_wipe σ) (RP (σ.1 9)) := by
  unfold mX9_wipe
  refine q1_call a_putsAside (fun v s hs => ?_)
  dsimp only
  have hCs : CORE s := core_fr h.1 (hs.1 1 (by decide)) (fun k a b => hs.1 k (by omega)) (by rw [hs.2.1]) (by rw [hs.2.1])
  obtain ⟨p, M, hP, -⟩ := core_x hCs
  refine q1_ro (o_toldMany hP) (fun y _ => ?_)
  dsimp only
  refine q1_call (a_wipe0 hCs) (fun w u hu => ?_)
  dsimp only
  have hG : GOOD (u.2 2) := by
    rw [hu.2.1 2 (by omega)]
    exact good_eq (good_m h.1) hs.2.2
  refine q1_call (a_isDone (t := σ.1 9) (fun e => hu.1 (by rw [e]; decide)) ((hu.2.2 9 (by omega)).trans (by rw [hs.2.1])) h.2.1 (un_fr h.2.2.1 ((hu.2.1 4 (by omega)).trans (hs.1 4 (by decide))) ((hu.2.2 5 (by omega)).trans (by rw [hs.2.1]))) (im_fr h.2.2.2 ((hu.2.1 3 (by omega)).trans (hs.1 3 (by decide))) ((hu.2.2 6 (by omega)).trans (by rw [hs.2.1]))) hG) (fun w2 s2 h2 => ?_)
  exact q1_eq (fun _ => q1_ret h2) (fun _ => q1_ret h2)
theorem ur_kind (h : RI σ) {x w : Int32} : P1 (mX9_kind x w σ) (RP (σ.1 9)) := by
  have b50 : ∀ (k : Nat) (s1 : Int32), 1 ≤ k ∧ k ≤ 2 → P1 ((mX9_putsAside (rSf σ 0 s1)).bind fun r1 => mX9_kind_b50 x (nI k) r1.2) (RP (σ.1 9)) := fun k s1 hk => by
    unfold mX9_kind_b50
    exact q1_act (ri_0 h) (sf_ne (by decide)) (act := fun u => mX9_rules (nI k) x u) (fun u hu => q1_tail (a_rules hu.1 (by omega) (fun e => by omega)) (fun w s hs => ⟨fun _ => hs.2.1, hs.2.2⟩)) (fun v s hs h9 => q1_eq (fun _ => q1_ret (rp_i hs h9)) (fun _ => q1_ret (rp_i hs h9)))
  have b23 : ∀ s1 : Int32, P1 (mX9_kind_b23 x w s1 σ) (RP (σ.1 9)) := fun s1 => by
    unfold mX9_kind_b23
    refine le0 (fun _ => ?_) (fun _ => q1_ret (rp_0 h))
    by_cases e : w = 0
    · simp only [e, if_true]; exact b50 1 s1 (by omega)
    · simp only [e, if_false]; exact b50 2 s1 (by omega)
  have b11 : ∀ s1 s2 : Int32, P1 (mX9_kind_b11 x w s1 s2 σ) (RP (σ.1 9)) := fun s1 s2 => by
    unfold mX9_kind_b11
    refine q1_ro o_isIn (fun y _ => ?_)
    dsimp only
    exact q1_eq (fun _ => b23 _) (fun _ => b23 _)
  unfold mX9_kind
  exact q1_eq (fun _ => b11 _ _) (fun _ => b11 _ _)
theorem ur_rule (h : RI σ) {x w : Int32} : P1 (mX9_rule x w σ) (RP (σ.1 9)) := by
  have b64 : ∀ (k : Nat) (s1 : Int32), 3 ≤ k ∧ k ≤ 4 → (k = 4 → 1 ≤ w.toInt) → P1 ((mX9_putsAside (rSf σ 0 s1)).bind fun r1 => mX9_rule_b64 w (nI k) r1.2) (RP (σ.1 9)) := fun k s1 hk h4 => by
    unfold mX9_rule_b64
    exact q1_act (ri_0 h) (sf_ne (by decide)) (act := fun u => mX9_rules (nI k) w u) (fun u hu => q1_tail (a_rules hu.1 (by omega) h4) (fun w s hs => ⟨fun _ => hs.2.1, hs.2.2⟩)) (fun v s hs h9 => q1_eq (fun _ => q1_ret (rp_i hs h9)) (fun _ => q1_ret (rp_i hs h9)))
  have b37 : ∀ s1 : Int32, (s1.toInt ≤ 0 → x ≠ 0 → 1 ≤ w.toInt) → P1 (mX9_rule_b37 x w s1 σ) (RP (σ.1 9)) := fun s1 hs => by
    unfold mX9_rule_b37
    refine le0 (fun q => ?_) (fun _ => q1_ret (rp_0 h))
    by_cases e : x = 0
    · simp only [e, if_true]; exact b64 3 s1 (by omega) (fun e => by omega)
    · simp only [e, if_false]; exact b64 4 s1 (by omega) (fun _ => hs q e)
  have b26 : ∀ s3 : Int32, (x ≠ 0 → 1 ≤ x.toInt) → P1 (mX9_rule_b26 x w w x s3 σ) (RP (σ.1 9)) := fun s3 hx => by
    unfold mX9_rule_b26
    refine q1_ro o_isIn (fun y hy => ?_)
    dsimp only
    refine q1_eq (fun _ => b37 _ (fun e => absurd e (by decide))) (fun q => b37 _ (fun _ e => ?_))
    have := hy.2 q
    have := hx e
    omega
  unfold mX9_rule
  refine q1_ro o_isIn (fun y hy => ?_)
  dsimp only
  refine q1_eq (fun _ => b37 _ (fun e => absurd e (by decide))) (fun q => ?_)
  have hx := hy.2 q
  rw [kt_0] at hx
  have hx1 : x ≠ 0 → 1 ≤ x.toInt := fun e => by
    have : x.toInt ≠ 0 := fun e2 => e (Int32.toInt_inj.mp (by rw [e2]; decide))
    omega
  exact q1_eq (fun _ => b26 _ hx1) (fun _ => b26 _ hx1)
theorem ur_lock (h : RI σ) : P1 (mX9_lock σ) (RP 0) := by
  have hR := ri_90 h
  unfold mX9_lock
  refine q1_bind (show mX9_took σ = some (σ.1 9, rSf σ 9 0) from rfl) ?_
  dsimp only
  refine q1_ro (o_isWord h.2.1) (fun y hy => ?_)
  dsimp only
  refine q1_eq (fun q => ?_) (fun q => ?_)
  · unfold mX9_lock_b19
    exact le0 (fun e => absurd e (by decide)) (fun _ => q1_ret ⟨ri_0 hR, (sf_ne (by decide)).trans sf_eq⟩)
  · have hn := hy.2 q
    obtain ⟨n, hn6, hne⟩ := nI_back (x := σ.1 9) (by omega) (by omega)
    have en : (nI n).toInt = (n : Int) := nI_toInt (by omega)
    rw [hne, en] at hn
    unfold mX9_lock_b19
    refine le0 (fun _ => ?_) (fun e => absurd e (by decide))
    rw [hne]
    exact q1_act (ri_0 hR) ((sf_ne (by decide)).trans sf_eq) (act := fun u => mX9_lock0 (nI 0) (nI n) u) (fun u hu => a_lock0 hu (by omega) (by omega)) (fun v s hs h9 => q1_eq (fun _ => q1_ret (rp_i hs h9)) (fun _ => q1_ret (rp_i hs h9)))
theorem ur_tell (h : RI σ) {x : Int32} : P1 (mX9_tell x σ) (RP 0) := by
  unfold mX9_tell
  refine q1_call (o_tookTold h) (fun v s hs => ?_)
  obtain ⟨hv, hR, h9, hr, hf⟩ := hs
  dsimp only
  refine q1_le rfl (show (60 : Int32).toInt = 60 by decide) (fun q2 => ?_) (fun q2 => ?_)
  · have hv0 : 0 ≤ v.toInt := by rw [hv]; exact h.2.1.1
    obtain ⟨n, hn6, hne⟩ := nI_back (x := v) (by omega) (by omega)
    have en : (nI n).toInt = (n : Int) := nI_toInt (by omega)
    rw [hne, en] at q2
    rw [hne]
    unfold mX9_tell_b17
    refine le0 (fun _ => ?_) (fun e => absurd e (by decide))
    exact q1_act (ri_0 hR) ((sf_ne (by decide)).trans h9) (act := fun u => mX9_tell0 x (nI n) u) (fun u hu => a_tell0 hu (by omega)) (fun v s hs h9 => q1_eq (fun _ => q1_ret (rp_i hs h9)) (fun _ => built_rp hs h9 (fun _ => rfl)))
  · unfold mX9_tell_b17
    exact le0 (fun e => absurd e (by decide)) (fun _ => q1_ret ⟨ri_0 hR, (sf_ne (by decide)).trans h9⟩)
theorem ur_file (h : RI σ) : P1 (mX9_file σ) (RP 0) := by
  obtain ⟨t, ht6, ht⟩ := nI_back h.2.1.1 (by have := h.2.1.2; omega)
  have ht4 : t ≤ 400 := by have := h.2.1.2; rw [ht, nI_toInt (by omega)] at this; omega
  have hV := h.1.1
  have key : ∀ (d k : Nat) (s : RS9), (∀ z, z ≠ 1 → s.2 z = σ.2 z) → (∀ z, z ≠ 0 → z ≠ 9 → s.1 z = σ.1 z) → s.1 9 = 0 → s.2 1 0 = nI t → (∀ j, 1 ≤ j → (j < 43 ∨ 443 ≤ j) → s.2 1 j = σ.2 1 j) → k ≤ t → 1000 < k + d → P1 (mX9_file_l19 d (nI t) (nI k) s) (RP 0) := by
    intro d
    induction d with
    | zero => intro k s _ _ _ _ _ hk hm; exfalso; omega
    | succ d ih =>
      intro k s h1 h2 h9 h0 hm2 hk hm
      have ek : (nI k).toInt = (k : Int) := nI_toInt (by omega)
      have et : (nI t).toInt = (t : Int) := nI_toInt (by omega)
      unfold mX9_file_l19
      refine q1_le et ek (fun q => ?_) (fun q => ?_)
      · have hVs : VM9 (s.2 1) := by
          obtain ⟨v1, v2, v3, v4, v5, v6, v7⟩ := hV
          refine ⟨by rw [h0, et]; omega, by rw [hm2 4 (by omega) (by omega)]; exact v2, by rw [hm2 5 (by omega) (by omega)]; exact v3, by rw [hm2 42 (by omega) (by omega)]; exact v4, fun p hp => by rw [hm2 _ (by omega) (by omega)]; exact v5 p hp, fun k hk => by rw [hm2 _ (by omega) (by omega)]; exact v6 k hk, fun l hl => by rw [hm2 _ (by omega) (by omega)]; exact v7 l hl⟩
        refine q1_call (a_cutsAnew hVs) (fun w u hu => ?_)
        dsimp only
        have g9 : (rSf u 5 0).1 9 = 0 := (sf_ne (by decide)).trans ((hu.2.2 9 (by omega)).trans h9)
        refine q1_ret ⟨⟨core_fr hu.1 rfl (fun _ _ _ => rfl) (sf_ne (by decide)) (sf_ne (by decide)), by rw [g9]; decide, ⟨0, sf_eq, by omega, fun s hs => absurd hs (by omega)⟩, im_fr h.2.2.2 ((hu.2.1 3 (by omega)).trans (h1 3 (by decide))) ((sf_ne (by decide)).trans ((hu.2.2 6 (by omega)).trans (h2 6 (by decide) (by decide))))⟩, g9⟩
      · rw [show (43 : Int32) = nI 43 from rfl, nI_add, nI_1]
        refine q1_ck (inb_nI (n := 400) (by omega) (by decide)) (q1_ck (cr1 (by omega)) ?_)
        refine ih (k + 1) _ (fun z hz => (sa_ne hz).trans (h1 z hz)) h2 h9 ?_ (fun j j1 hj => ?_) (by omega) (by omega)
        · rw [sa_nI (by omega), if_neg (by omega)]; exact h0
        · rw [sa_nI (by omega), if_neg (by omega)]; exact hm2 j j1 hj
  unfold mX9_file
  refine q1_bind (show mX9_took (rSf σ 0 0) = some (σ.1 9, rSf (rSf σ 0 0) 9 0) from rfl) ?_
  dsimp only
  refine q1_ck rfl ?_
  rw [ht]
  refine key rFU 0 _ (fun z hz => sa_ne hz) (fun z z0 z9 => (sf_ne z9).trans (sf_ne z0)) (show (rSf (rSf σ 0 0) 9 0).1 9 = 0 from sf_eq) ?_ (fun j j1 hj => ?_) (by omega) (by unfold rFU; omega)
  · exact sa_nI (c := 0) (i := 0) (by omega)
  · refine (sa_nI (c := 0) (by omega)).trans ?_
    rw [if_neg (by omega)]; rfl
end DONE
end
/-! part 44g.text -/
section
/-! the acts of a text -/
def LK (e : Nat) (σ s : RS9) : Prop := s.2 = σ.2 ∧ (∀ k, k ≠ 11 → s.1 k = σ.1 k) ∧ ∃ a, a ≤ e ∧ s.1 11 = nI a
def LN (e : Nat) (σ s : RS9) : Prop := s.2 = σ.2 ∧ (∀ k, k ≠ 11 → k ≠ 12 → s.1 k = σ.1 k) ∧ ∃ a, a ≤ e ∧ s.1 11 = nI a
theorem lk_ln {e : Nat} {σ s : RS9} (h : LK e σ s) : LN e σ s := ⟨h.1, fun k a _ => h.2.1 k a, h.2.2⟩
theorem lk_tr {e : Nat} {a b c : RS9} (h1 : LK e a b) (h2 : LK e b c) : LK e a c := ⟨h2.1.trans h1.1, fun k hk => (h2.2.1 k hk).trans (h1.2.1 k hk), h2.2.2⟩
theorem ln_tr {e : Nat} {a b c : RS9} (h1 : LN e a b) (h2 : LN e b c) : LN e a c := ⟨h2.1.trans h1.1, fun k a b => (h2.2.1 k a b).trans (h1.2.1 k a b), h2.2.2⟩
theorem m1_nI {b : Nat} (hb : b ≤ 1000) : nI b ≠ (-1 : Int32) := fun e => by
  have : (nI b).toInt = (-1 : Int32).toInt := congrArg _ e
  rw [nI_toInt (by omega), kt_m1] at this
  omega
section TEXT
variable {σ : RS9} {e : Nat}
theorem a_here (he : e ≤ 400) (h10 : σ.1 10 = nI e) (h11 : ∃ a, a ≤ e ∧ σ.1 11 = nI a) : P1 (mX9_here σ) (fun v s => LK e σ s ∧ v = s.1 11) := by
  have ee : (nI e).toInt = (e : Int) := nI_toInt (by omega)
  have key : ∀ (d a : Nat) (s : RS9), s.2 = σ.2 → (∀ k, k ≠ 11 → s.1 k = σ.1 k) → s.1 11 = nI a → a ≤ e → 1000 < a + d → P1 (mX9_here_l0 d s) (fun v s => LK e σ s ∧ v = s.1 11) := by
    intro d
    induction d with
    | zero => intro a s _ _ _ hk hm; exfalso; omega
    | succ d ih =>
      intro a s h1 h2 h3 hk hm
      have ea : (nI a).toInt = (a : Int) := nI_toInt (by omega)
      have fin : P1 (mX9_here_b38 s) (fun v s => LK e σ s ∧ v = s.1 11) := q1_ret ⟨⟨h1, h2, a, hk, h3⟩, rfl⟩
      unfold mX9_here_l0
      refine q1_le (a := (e : Int)) (b := (a : Int)) (by rw [h2 10 (by decide), h10]; exact ee) (by rw [h3]; exact ea) (fun q => fin) (fun q => ?_)
      rw [h3, nI_1]
      refine q1_ck (inb_nI (n := 400) (by omega) (by decide)) (q1_eq (fun _ => ?_) (fun _ => fin))
      exact ih (a + 1) _ h1 (fun k hk => (sf_ne hk).trans (h2 k hk)) sf_eq (by omega) (by omega)
  obtain ⟨a, ha, h3⟩ := h11
  unfold mX9_here
  exact key rFU a σ rfl (fun _ _ => rfl) h3 ha (by unfold rFU; omega)
theorem a_wrong {b : Nat} (hb : b ≤ 400) : P1 (mX9_wrong (nI b) σ) (fun v s => s.2 = σ.2 ∧ (∀ k, k ≠ 12 → s.1 k = σ.1 k) ∧ s.1 12 ≠ -1) := by
  unfold mX9_wrong
  refine q1_eq (fun q => ?_) (fun q => ?_)
  · exact q1_ret ⟨rfl, fun k hk => sf_ne hk, by rw [sf_eq]; exact m1_nI (by omega)⟩
  · exact q1_ret ⟨rfl, fun _ _ => rfl, q⟩
theorem a_wordEnd (he : e ≤ 400) (h10 : σ.1 10 = nI e) (h11 : ∃ a, a ≤ e ∧ σ.1 11 = nI a) : P1 (mX9_wordEnd σ) (fun v s => LK e σ s ∧ ∃ a w, s.1 11 = nI a ∧ v = nI w ∧ a ≤ w ∧ w ≤ e) := by
  have ee : (nI e).toInt = (e : Int) := nI_toInt (by omega)
  unfold mX9_wordEnd
  refine q1_call (a_here he h10 h11) (fun v s hs => ?_)
  obtain ⟨hL, hv⟩ := hs
  obtain ⟨a, ha, h3⟩ := hL.2.2
  dsimp only
  rw [hv, h3]
  have key : ∀ (d w : Nat), a ≤ w → w ≤ e → 1000 < w + d → P1 (mX9_wordEnd_l5 d (nI w) s) (fun v s => LK e σ s ∧ ∃ a w, s.1 11 = nI a ∧ v = nI w ∧ a ≤ w ∧ w ≤ e) := by
    intro d
    induction d with
    | zero => intro w _ hk hm; exfalso; omega
    | succ d ih =>
      intro w haw hk hm
      have ew : (nI w).toInt = (w : Int) := nI_toInt (by omega)
      have fin : P1 (mX9_wordEnd_b35 (nI w) s) (fun v s => LK e σ s ∧ ∃ a w, s.1 11 = nI a ∧ v = nI w ∧ a ≤ w ∧ w ≤ e) := q1_ret ⟨hL, a, w, h3, rfl, haw, hk⟩
      unfold mX9_wordEnd_l5
      refine q1_le (a := (e : Int)) (by rw [hL.2.1 10 (by decide), h10]; exact ee) ew (fun q => fin) (fun q => ?_)
      refine q1_ck (inb_nI (n := 400) (by omega) (by decide)) (q1_ro o_isIn (fun y _ => ?_))
      dsimp only
      refine q1_eq (fun _ => fin) (fun _ => ?_)
      rw [nI_1]
      exact ih (w + 1) (by omega) (by omega) (by omega)
  exact key rFU a (Nat.le_refl _) ha (by unfold rFU; omega)
theorem sL_b (t : Nat) : sL9.getD t 0 ≤ 7 := by
  by_cases h : t < 15
  · revert t; decide
  · rw [List.getD_eq_getElem?_getD, List.getElem?_eq_none (by show 15 ≤ t; omega)]; exact Nat.zero_le _
theorem a_has (t : Nat) (he : e ≤ 400) (h10 : σ.1 10 = nI e) (h11 : ∃ a, a ≤ e ∧ σ.1 11 = nI a) : P1 (mX9_has t σ) (fun v s => LK e σ s) := by
  unfold mX9_has
  refine q1_call (a_wordEnd he h10 h11) (fun v s hs => ?_)
  obtain ⟨hL, a, w, h3, hv, haw, hwe⟩ := hs
  dsimp only
  have hb := sL_b t
  refine q1_eq (fun _ => ?_) (fun _ => q1_ck rfl (q1_ret hL))
  refine q1_eq (fun q => ?_) (fun _ => q1_ck rfl (q1_ret hL))
  have eq : w - a = sL9.getD t 0 := by
    have := congrArg Int32.toInt q
    rw [hv, h3, i_sub (nI_toInt (by omega)) (nI_toInt (by omega)) (by omega), strL, nI_toInt (by omega)] at this
    omega
  rw [hv]
  have key : ∀ (d k : Nat), k ≤ sL9.getD t 0 → 100 < k + d → P1 (mX9_has_l30 d t (nI w) (nI k) s) (fun v s => LK e σ s) := by
    intro d
    induction d with
    | zero => intro k hk hm; exfalso; omega
    | succ d ih =>
      intro k hk hm
      unfold mX9_has_l30
      refine q1_le (show (strL t).toInt = ((sL9.getD t 0 : Nat) : Int) from nI_toInt (by omega)) (nI_toInt (by omega)) (fun q => ?_) (fun q => ?_)
      · exact q1_ck rfl (q1_ret ⟨hL.1, fun z hz => (sf_ne hz).trans (hL.2.1 z hz), w, hwe, sf_eq⟩)
      · rw [h3, nI_add, nI_1]
        refine q1_ck (inb_nI (n := 400) (by omega) (by decide)) (q1_ck (inb_nI (by omega) (by omega)) ?_)
        exact q1_eq (fun _ => ih (k + 1) (by omega) (by omega)) (fun _ => q1_ck rfl (q1_ret hL))
  exact key rFU 0 (by omega) (by unfold rFU; omega)
theorem a_number {lo hi : Int32} (he : e ≤ 400) (h10 : σ.1 10 = nI e) (h11 : ∃ a, a ≤ e ∧ σ.1 11 = nI a) : P1 (mX9_number lo hi σ) (fun v s => LN e σ s ∧ (s.1 12 = -1 → σ.1 12 = -1 ∧ lo.toInt ≤ v.toInt ∧ v.toInt ≤ hi.toInt)) := by
  have ee : (nI e).toInt = (e : Int) := nI_toInt (by omega)
  unfold mX9_number
  refine q1_eq (fun q12 => ?_) (fun q12 => q1_ret ⟨⟨rfl, fun _ _ _ => rfl, h11⟩, fun h => absurd h q12⟩)
  refine q1_call (a_here he h10 h11) (fun v s hs => ?_)
  obtain ⟨hL, hv⟩ := hs
  obtain ⟨b, hb, h3⟩ := hL.2.2
  dsimp only
  rw [hv, h3]
  have b121 : ∀ (v4 : Int32) (u : RS9), LK e σ u → P1 (mX9_number_b121 (nI b) v4 u) (fun v s => LN e σ s ∧ (s.1 12 = -1 → σ.1 12 = -1 ∧ lo.toInt ≤ v.toInt ∧ v.toInt ≤ hi.toInt)) := fun v4 u hu => by
    unfold mX9_number_b121
    refine q1_call (a_wrong (by omega)) (fun w t ht => ?_)
    exact q1_ret ⟨⟨ht.1.trans hu.1, fun k k1 k2 => (ht.2.1 k k2).trans (hu.2.1 k k1), by rw [ht.2.1 11 (by decide)]; exact hu.2.2⟩, fun h => absurd h ht.2.2⟩
  have b91 : ∀ (v4 : Int32) (u : RS9), LK e σ u → P1 (mX9_number_b91 lo hi (nI b) v4 u) (fun v s => LN e σ s ∧ (s.1 12 = -1 → σ.1 12 = -1 ∧ lo.toInt ≤ v.toInt ∧ v.toInt ≤ hi.toInt)) := fun v4 u hu => by
    unfold mX9_number_b91
    refine q1_eq (fun _ => b121 _ _ hu) (fun _ => ?_)
    refine q1_lt rfl rfl (fun _ => b121 _ _ hu) (fun _ => ?_)
    refine q1_lt rfl rfl (fun _ => b121 _ _ hu) (fun q1 => ?_)
    refine q1_le rfl rfl (fun q2 => ?_) (fun _ => b121 _ _ hu)
    exact q1_ret ⟨lk_ln hu, fun _ => ⟨q12, q1, q2⟩⟩
  have key : ∀ (d a : Nat) (v4 : Int32) (u : RS9), LK e σ u → u.1 11 = nI a → a ≤ e → 1000 < a + d → P1 (mX9_number_l18 d lo hi (nI b) v4 u) (fun v s => LN e σ s ∧ (s.1 12 = -1 → σ.1 12 = -1 ∧ lo.toInt ≤ v.toInt ∧ v.toInt ≤ hi.toInt)) := by
    intro d
    induction d with
    | zero => intro a v4 u _ _ hk hm; exfalso; omega
    | succ d ih =>
      intro a v4 u hu h4 hk hm
      have ea : (nI a).toInt = (a : Int) := nI_toInt (by omega)
      unfold mX9_number_l18
      refine q1_le (a := (e : Int)) (b := (a : Int)) (by rw [hu.2.1 10 (by decide), h10]; exact ee) (by rw [h4]; exact ea) (fun q => b91 _ _ hu) (fun q => ?_)
      refine q1_ck (by rw [h4]; exact inb_nI (n := 400) (by omega) (by decide)) (q1_ro o_isIn (fun y _ => ?_))
      dsimp only
      refine q1_eq (fun _ => b91 _ _ hu) (fun _ => ?_)
      refine q1_lt rfl rfl (fun _ => b91 _ _ hu) (fun _ => ?_)
      refine q1_ck (by rw [h4]; exact inb_nI (n := 400) (by omega) (by decide)) ?_
      refine ih (a + 1) _ _ ⟨hu.1, fun k hk => (sf_ne hk).trans (hu.2.1 k hk), a + 1, by omega, ?_⟩ ?_ (by omega) (by omega)
      · rw [sf_eq, h4, nI_1]
      · rw [sf_eq, h4, nI_1]
  exact key rFU b 0 s hL h3 hb (by unfold rFU; omega)
/-! what stands in a text's acts -/
def TJ (e : Nat) (σ0 σ : RS9) : Prop := (∃ a, a ≤ e ∧ σ.1 11 = nI a) ∧ σ.1 10 = nI e ∧ (∀ k, k = 2 ∨ k = 3 ∨ k = 4 ∨ k = 8 → σ.2 k = σ0.2 k) ∧ ∀ k, k = 5 ∨ k = 6 ∨ k = 7 ∨ k = 9 → σ.1 k = σ0.1 k
def TI (e : Nat) (σ0 σ : RS9) : Prop := TJ e σ0 σ ∧ (σ.1 12 = -1 → CORE σ)
def TQ (e : Nat) (σ0 : RS9) (w : Int32) (s : RS9) : Prop := TJ e σ0 s ∧ (s.1 12 = -1 → w ≤ 0 → CORE s)
theorem tj_ln {s σ0 : RS9} (h : TJ e σ0 σ) (hL : LN e σ s) : TJ e σ0 s := ⟨hL.2.2, (hL.2.1 10 (by decide) (by decide)).trans h.2.1, fun k hk => by rw [hL.1]; exact h.2.2.1 k hk, fun k hk => (hL.2.1 k (by omega) (by omega)).trans (h.2.2.2 k hk)⟩
theorem tj_fa {s σ0 : RS9} (h : TJ e σ0 σ) (hL : FA σ s) : TJ e σ0 s := ⟨by rw [hL.2 11 (by omega)]; exact h.1, (hL.2 10 (by omega)).trans h.2.1, fun k hk => (hL.1 k hk).trans (h.2.2.1 k hk), fun k hk => (hL.2 k (by omega)).trans (h.2.2.2 k hk)⟩
theorem core_ln {s : RS9} (h : CORE σ) (hL : LN e σ s) : CORE s := core_fr h (by rw [hL.1]) (fun _ _ _ => by rw [hL.1]) (hL.2.1 33 (by decide) (by decide)) (hL.2.1 45 (by decide) (by decide))
theorem ti_lk {s σ0 : RS9} (h : TI e σ0 σ) (hL : LK e σ s) : TI e σ0 s := ⟨tj_ln h.1 (lk_ln hL), fun q => core_ln (h.2 ((hL.2.1 12 (by decide)).symm.trans q)) (lk_ln hL)⟩
theorem aq_tq {s σ0 : RS9} {w : Int32} (h : TJ e σ0 σ) (hL : AQ σ w s) : TQ e σ0 w s := ⟨tj_fa h hL.2, fun _ q => hL.1 q⟩
theorem tq_0 {s σ0 : RS9} {w : Int32} (h : TJ e σ0 s) (h12 : s.1 12 ≠ -1) : TQ e σ0 w s := ⟨h, fun q => absurd q h12⟩
variable {σ0 : RS9}
theorem a_ruleText {k : Nat} {lo hi : Int32} (he : e ≤ 400) (h : TI e σ0 σ) (hk : 1 ≤ k ∧ k ≤ 4) (h4 : k = 4 → 1 ≤ lo.toInt) : P1 (mX9_ruleText (nI k) lo hi σ) (TQ e σ0) := by
  unfold mX9_ruleText
  refine q1_call (a_number he h.1.2.1 h.1.1) (fun v s hs => ?_)
  dsimp only
  have hJ := tj_ln h.1 hs.1
  refine q1_eq (fun q => ?_) (fun q => q1_ret (tq_0 hJ q))
  obtain ⟨g1, g2, g3⟩ := hs.2 q
  refine q1_call (a_rules (core_ln (h.2 g1) hs.1).1 hk (fun e => by have := h4 e; omega)) (fun w u hu => ?_)
  exact q1_ret ⟨tj_fa hJ hu.2.2, fun _ _ => hu.2.1⟩
theorem a_lockText (he : e ≤ 400) (h : TI e σ0 σ) : P1 (mX9_lockText σ) (TQ e σ0) := by
  unfold mX9_lockText
  refine q1_call (a_wordEnd he h.1.2.1 h.1.1) (fun v s hs => ?_)
  obtain ⟨hL, a, w, h3, hv, haw, hwe⟩ := hs
  dsimp only
  have hT := ti_lk h hL
  have es : v - s.1 11 = nI (w - a) := by
    apply Int32.toInt_inj.mp
    rw [hv, h3, i_sub (nI_toInt (by omega)) (nI_toInt (by omega)) (by omega), nI_toInt (by omega)]
    omega
  rw [es]
  refine q1_ro o_isIn (fun y hy => ?_)
  dsimp only
  refine q1_eq (fun _ => ?_) (fun q => ?_)
  · rw [h3]
    refine q1_call (a_wrong (by omega)) (fun w2 u hu => ?_)
    unfold mX9_lockText_b30
    rw [if_neg hu.2.2]
    refine q1_ret (tq_0 (tj_ln hT.1 ⟨hu.1, fun k _ b => hu.2.1 k b, ?_⟩) hu.2.2)
    rw [hu.2.1 11 (by decide)]; exact hT.1.1
  · have hb := hy.2 q
    rw [nI_toInt (by omega), kt_1, show (8 : Int32).toInt = 8 by decide] at hb
    unfold mX9_lockText_b30
    refine q1_eq (fun q12 => ?_) (fun q12 => q1_ret (tq_0 hT.1 q12))
    rw [h3, hv]
    have hL2 : LK e s (rSf s 11 (nI w)) := ⟨rfl, fun k hk => sf_ne hk, w, hwe, sf_eq⟩
    refine q1_call (a_lock0 (core_ln (hT.2 q12) (lk_ln hL2)) (by omega) (by omega)) (fun w2 u hu => ?_)
    exact q1_ret (aq_tq (ti_lk hT hL2).1 hu)
theorem a_swapText (he : e ≤ 400) (h : TI e σ0 σ) : P1 (mX9_swapText σ) (TQ e σ0) := by
  unfold mX9_swapText
  refine q1_call (a_number he h.1.2.1 h.1.1) (fun v s hs => ?_)
  dsimp only
  have hJ := tj_ln h.1 hs.1
  refine q1_call (a_number he hJ.2.1 hJ.1) (fun v2 s2 hs2 => ?_)
  dsimp only
  have hJ2 := tj_ln hJ hs2.1
  refine q1_eq (fun q => ?_) (fun q => q1_ret (tq_0 hJ2 q))
  refine q1_call (a_swap0 (core_ln (core_ln (h.2 (hs.2 (hs2.2 q).1).1) hs.1) hs2.1)) (fun w u hu => ?_)
  exact q1_ret (aq_tq hJ2 hu)
theorem a_pieceText {x : Int32} (he : e ≤ 400) (h : TI e σ0 σ) : P1 (mX9_pieceText x σ) (TQ e σ0) := by
  unfold mX9_pieceText
  refine q1_call (a_number he h.1.2.1 h.1.1) (fun v s hs => ?_)
  dsimp only
  have hJ := tj_ln h.1 hs.1
  refine q1_eq (fun q => ?_) (fun q => q1_ret (tq_0 hJ q))
  have hC := core_ln (h.2 (hs.2 q).1) hs.1
  refine q1_eq (fun _ => ?_) (fun _ => ?_)
  · exact q1_call (a_spread0 hC) (fun w u hu => q1_ret (aq_tq hJ hu))
  · exact q1_call (a_free0 hC) (fun w u hu => q1_ret (aq_tq hJ hu))
theorem a_b246 {b : Nat} {w : Int32} (hb : b ≤ 400) (h : TQ e σ0 w σ) : P1 (mX9_act_b246 (nI b) w σ) (fun _ s => TI e σ0 s) := by
  unfold mX9_act_b246
  refine q1_eq (fun q => ?_) (fun q => q1_ret ⟨h.1, fun e => absurd e q⟩)
  by_cases hw : w ≤ (0 : Int32)
  · rw [if_pos hw]; exact q1_ret ⟨h.1, fun _ => h.2 q hw⟩
  · rw [if_neg hw]
    refine q1_call (a_wrong hb) (fun w2 u hu => ?_)
    refine q1_ret ⟨tj_ln h.1 ⟨hu.1, fun k _ b => hu.2.1 k b, ?_⟩, fun e => absurd e hu.2.2⟩
    rw [hu.2.1 11 (by decide)]; exact h.1.1
/-- one word of an act: it is read, or it isn't there -/
theorem q1_has {t : Nat} {β : Type} {Q : β → RS9 → Prop} {k : Int32 × RS9 → Option (β × RS9)} (he : e ≤ 400) (h : TI e σ0 σ ∧ σ.1 12 = -1) (hk : ∀ v s, (TI e σ0 s ∧ s.1 12 = -1) → P1 (k (v, s)) Q) : P1 ((mX9_has t σ).bind k) Q :=
  q1_call (a_has t he h.1.1.2.1 h.1.1.1) (fun v s hs => hk v s ⟨ti_lk h.1 hs, (hs.2.1 12 (by decide)).trans h.2⟩)
theorem q1_b246 {b : Nat} (hb : b ≤ 400) {o : Option (Int32 × RS9)} (ho : P1 o (TQ e σ0)) : P1 (o.bind fun r => mX9_act_b246 (nI b) r.1 r.2) (fun _ s => TI e σ0 s) := q1_call ho (fun _ _ hw => a_b246 hb hw)
theorem tq_rules {s : RS9} {k : Nat} {v : Int32} (h : TI e σ0 s ∧ s.1 12 = -1) (hk : 1 ≤ k ∧ k ≤ 3) : P1 (mX9_rules (nI k) v s) (TQ e σ0) := q1_tail (a_rules (h.1.2 h.2).1 (by omega) (fun e => by omega)) (fun w u hu => ⟨tj_fa h.1.1 hu.2.2, fun _ _ => hu.2.1⟩)
theorem a_act (he : e ≤ 400) (h : TI e σ0 σ) (h12 : σ.1 12 = -1) : P1 (mX9_act σ) (fun _ s => TI e σ0 s) := by
  unfold mX9_act
  refine q1_call (a_here he h.1.2.1 h.1.1) (fun v s hs => ?_)
  obtain ⟨hL, hv⟩ := hs
  obtain ⟨b, hb, h3⟩ := hL.2.2
  have hb4 : b ≤ 400 := by omega
  dsimp only
  rw [hv, h3]
  have H : TI e σ0 s ∧ s.1 12 = -1 := ⟨ti_lk h hL, (hL.2.1 12 (by decide)).trans h12⟩
  clear hL h3 hv
  refine q1_has he H (fun _ s3 H3 => ?_)
  dsimp only
  refine q1_eq (fun _ => ?_) (fun _ => q1_b246 hb4 (a_ruleText (k := 1) he H3.1 (by omega) (fun e => by omega)))
  refine q1_has he H3 (fun _ s4 H4 => ?_)
  dsimp only
  refine q1_eq (fun _ => ?_) (fun _ => q1_b246 hb4 (a_ruleText (k := 2) he H4.1 (by omega) (fun e => by omega)))
  refine q1_has he H4 (fun _ s5 H5 => ?_)
  dsimp only
  refine q1_eq (fun _ => ?_) (fun _ => q1_b246 hb4 (tq_rules (k := 2) H5 (by omega)))
  refine q1_has he H5 (fun _ s6 H6 => ?_)
  dsimp only
  refine q1_eq (fun _ => ?_) (fun _ => q1_b246 hb4 (tq_rules (k := 3) H6 (by omega)))
  refine q1_has he H6 (fun _ s7 H7 => ?_)
  dsimp only
  refine q1_eq (fun _ => ?_) (fun _ => q1_b246 hb4 (tq_rules (k := 3) H7 (by omega)))
  refine q1_has he H7 (fun _ s8 H8 => ?_)
  dsimp only
  refine q1_eq (fun _ => ?_) (fun _ => q1_b246 hb4 (a_ruleText (k := 4) he H8.1 (by omega) (fun _ => by decide)))
  refine q1_has he H8 (fun _ s9 H9 => ?_)
  dsimp only
  refine q1_eq (fun _ => ?_) (fun _ => q1_b246 hb4 (a_lockText he H9.1))
  refine q1_has he H9 (fun _ s10 H10 => ?_)
  dsimp only
  refine q1_eq (fun _ => ?_) (fun _ => q1_b246 hb4 (q1_tail (a_unlocks (H10.1.2 H10.2).1) (fun w u hu => ⟨tj_fa H10.1.1 hu.2.2, fun _ _ => hu.2.1⟩)))
  refine q1_has he H10 (fun _ s11 H11 => ?_)
  dsimp only
  refine q1_eq (fun _ => ?_) (fun _ => q1_b246 hb4 (a_pieceText he H11.1))
  refine q1_has he H11 (fun _ s12 H12 => ?_)
  dsimp only
  refine q1_eq (fun _ => ?_) (fun _ => q1_b246 hb4 (a_pieceText he H12.1))
  refine q1_has he H12 (fun _ s13 H13 => ?_)
  dsimp only
  refine q1_eq (fun _ => ?_) (fun _ => q1_b246 hb4 (a_swapText he H13.1))
  refine q1_has he H13 (fun _ s14 H14 => ?_)
  dsimp only
  refine q1_eq (fun _ => ?_) (fun _ => q1_b246 hb4 (q1_tail (a_wipe0 (H14.1.2 H14.2)) (fun w u hu => aq_tq H14.1.1 hu)))
  refine q1_call (a_wrong hb4) (fun w u hu => ?_)
  refine a_b246 hb4 (tq_0 (tj_ln H14.1.1 ⟨hu.1, fun k _ b => hu.2.1 k b, ?_⟩) hu.2.2)
  rw [hu.2.1 11 (by decide)]; exact H14.1.1.1
theorem ur_acts (h : RI σ) : P1 (mX9_acts σ) (RP 0) := by
  obtain ⟨e, he6, hte⟩ := nI_back h.2.1.1 (by have := h.2.1.2; omega)
  have he : e ≤ 400 := by have := h.2.1.2; rw [hte, nI_toInt (by omega)] at this; omega
  have ee : (nI e).toInt = (e : Int) := nI_toInt (by omega)
  unfold mX9_acts
  refine q1_call a_putsAside (fun v s0 hs0 => ?_)
  obtain ⟨r0, f0, g0⟩ := hs0
  dsimp only
  have f : ∀ k, k ≠ 9 → k ≠ 10 → k ≠ 11 → k ≠ 12 → s0.1 k = σ.1 k := fun k k9 k10 k11 k12 => by
    rw [f0, sf_ne k11, sf_ne k9, sf_ne k10, sf_ne k12]
  have hG : GOOD (s0.2 2) := good_eq (good_m h.1) g0
  have hC0 : CORE s0 := core_fr h.1 (r0 1 (by decide)) (fun k a b => r0 k (by omega)) (f 33 (by decide) (by decide) (by decide) (by decide)) (f 45 (by decide) (by decide) (by decide) (by decide))
  have h9 : s0.1 9 = 0 := by rw [f0, sf_ne (by decide), sf_eq]
  have h11 : s0.1 11 = nI 0 := by rw [f0, sf_eq]; rfl
  have h10 : s0.1 10 = nI e := by rw [f0, sf_ne (by decide), sf_ne (by decide), sf_eq]; exact hte
  have h12 : s0.1 12 = -1 := by rw [f0, sf_ne (by decide), sf_ne (by decide), sf_ne (by decide), sf_eq]
  have hU : UN s0 := un_fr h.2.2.1 (r0 4 (by decide)) (f 5 (by decide) (by decide) (by decide) (by decide))
  have hI : IM s0 := im_fr h.2.2.2 (r0 3 (by decide)) (f 6 (by decide) (by decide) (by decide) (by decide))
  have T0 : TI e s0 s0 := ⟨⟨⟨0, by omega, h11⟩, h10, fun _ _ => rfl, fun _ _ => rfl⟩, fun _ => hC0⟩
  -- the end
  have b191 : ∀ (v1 s1 s2 : Int32) (s : RS9), TI e s0 s → s.1 12 = -1 → P1 (mX9_acts_b191 v1 s1 (rSf s 0 s2)) (RP 0) := fun v1 s1 s2 s hT q => by
    have hh : ∀ k, k ≠ 0 → k ≠ 7 → k ≠ 5 → (rSf (rSf (rSf s 0 s2) 7 s1) 5 0).1 k = s.1 k := fun k a b c => (sf_ne c).trans ((sf_ne b).trans (sf_ne a))
    have g9 : (rSf (rSf (rSf s 0 s2) 7 s1) 5 0).1 9 = 0 := (hh 9 (by decide) (by decide) (by decide)).trans ((hT.1.2.2.2 9 (by omega)).trans h9)
    exact q1_ret ⟨⟨core_fr (hT.2 q) rfl (fun _ _ _ => rfl) (hh 33 (by decide) (by decide) (by decide)) (hh 45 (by decide) (by decide) (by decide)), by rw [g9]; decide, ⟨0, sf_eq, by omega, fun s hs => absurd hs (by omega)⟩, im_fr hI (hT.1.2.2.1 3 (by omega)) ((hh 6 (by decide) (by decide) (by decide)).trans (hT.1.2.2.2 6 (by omega)))⟩, g9⟩
  have b214 : ∀ (s1 s2 : Int32) (s : RS9), TI e s0 s → P1 (mX9_acts_b214 s1 (rSf s 0 s2)) (RP 0) := fun s1 s2 s hT => by
    have hh : ∀ k, k ≠ 0 → k ≠ 7 → (rSf (rSf s 0 s2) 7 s1).1 k = s.1 k := fun k a b => (sf_ne b).trans (sf_ne a)
    unfold mX9_acts_b214
    refine q1_call (a_putsBack (by rw [show (rSf (rSf s 0 s2) 7 s1).2 2 = s.2 2 from rfl, hT.1.2.2.1 2 (by omega)]; exact hG)) (fun w u hu => ?_)
    have g9 : u.1 9 = 0 := (hu.2.2 9 (by decide)).trans ((hh 9 (by decide) (by decide)).trans ((hT.1.2.2.2 9 (by omega)).trans h9))
    exact q1_ret ⟨⟨hu.1, by rw [g9]; decide, un_fr hU ((hu.2.1 4 (by decide) (by decide)).trans (hT.1.2.2.1 4 (by omega))) ((hu.2.2 5 (by decide)).trans ((hh 5 (by decide) (by decide)).trans (hT.1.2.2.2 5 (by omega)))), im_fr hI ((hu.2.1 3 (by decide) (by decide)).trans (hT.1.2.2.1 3 (by omega))) ((hu.2.2 6 (by decide)).trans ((hh 6 (by decide) (by decide)).trans (hT.1.2.2.2 6 (by omega))))⟩, g9⟩
  have b154 : ∀ (v1 v2 : Int32) (s : RS9), TI e s0 s → P1 (mX9_acts_b154 v1 v2 s) (RP 0) := fun v1 v2 s hT => by
    unfold mX9_acts_b154
    refine q1_eq (fun q => ?_) (fun q => ?_)
    · unfold mX9_acts_b168
      refine q1_eq (fun _ => ?_) (fun q2 => absurd rfl q2)
      exact le0 (fun _ => b191 _ _ _ _ hT q) (fun _ => b191 _ _ _ _ hT q)
    · unfold mX9_acts_b168
      refine q1_eq (fun q2 => absurd q2 (by decide)) (fun _ => ?_)
      exact le0 (fun _ => b214 _ _ _ hT) (fun _ => b214 _ _ _ hT)
  have wr : ∀ (b : Nat) (s : RS9) {β : Type} {Q : β → RS9 → Prop} {k : Int32 × RS9 → Option (β × RS9)}, b ≤ 400 → TI e s0 s → (∀ v u, TI e s0 u → u.1 12 ≠ -1 → u.1 11 = s.1 11 → P1 (k (v, u)) Q) → P1 ((mX9_wrong (nI b) s).bind k) Q := fun b s β Q k hb hT hk => by
    refine q1_call (a_wrong hb) (fun w u hu => ?_)
    refine hk w u ⟨tj_ln hT.1 ⟨hu.1, fun k _ b => hu.2.1 k b, ?_⟩, fun e => absurd e hu.2.2⟩ hu.2.2 (hu.2.1 11 (by decide))
    rw [hu.2.1 11 (by decide)]; exact hT.1.1
  have key : ∀ (d c : Nat) (v2 v3 : Int32) (s : RS9), TI e s0 s → c ≤ 15 → (c = 15 → s.1 12 ≠ -1) → 100 < c + d → P1 (mX9_acts_l48 d (nI c) v2 v3 s) (RP 0) := by
    intro d
    induction d with
    | zero => intro c v2 v3 s _ hc _ hm; exfalso; omega
    | succ d ih =>
      intro c v2 v3 s hT hc hc15 hm
      have b87 : ∀ (v2 : Int32) (s : RS9), TI e s0 s → (c = 14 → s.1 12 ≠ -1) → c ≤ 14 → P1 (mX9_acts_b87 (fun v1 v2 v3 σ => mX9_acts_l48 d v1 v2 v3 σ) (nI c) v2 s) (RP 0) := fun v2 s hT hc14 hcc => by
        unfold mX9_acts_b87
        refine q1_call (a_here he hT.1.2.1 hT.1.1) (fun v u hu => ?_)
        obtain ⟨hL, hv⟩ := hu
        obtain ⟨a, ha, h3⟩ := hL.2.2
        have ea : (nI a).toInt = (a : Int) := nI_toInt (by omega)
        have hTu := ti_lk hT hL
        have h12u : u.1 12 = s.1 12 := hL.2.1 12 (by decide)
        dsimp only
        rw [hv, h3, nI_1]
        have again : ∀ (s3 : Int32) (u' : RS9), TI e s0 u' → (c = 14 → u'.1 12 ≠ -1) → P1 (mX9_acts_l48 d (nI (c + 1)) v2 s3 u') (RP 0) := fun s3 u' h1 h2 => ih (c + 1) v2 s3 u' h1 (by omega) (fun e => h2 (by omega)) (by omega)
        refine q1_le (a := (e : Int)) (by rw [hTu.1.2.1]; exact ee) ea (fun q => ?_) (fun q => ?_)
        · unfold mX9_acts_b106
          refine q1_eq (fun _ => again _ _ hTu (by rw [h12u]; exact hc14)) (fun q2 => absurd rfl q2)
        · unfold mX9_acts_b106
          refine q1_eq (fun q2 => absurd q2 (by decide)) (fun _ => ?_)
          refine q1_eq (fun q12 => ?_) (fun q12 => again _ _ hTu (fun _ => q12))
          have b141 : ∀ (s3 : Int32) (u' : RS9), TI e s0 u' → u'.1 11 = nI a → (c = 14 → u'.1 12 ≠ -1) → P1 (mX9_acts_b141 (fun v1 v2 v3 σ => mX9_acts_l48 d v1 v2 v3 σ) (nI (c + 1)) v2 s3 u') (RP 0) := fun s3 u' h1 h2 h4 => by
            unfold mX9_acts_b141
            rw [h2, nI_1]
            exact again _ _ (ti_lk h1 ⟨rfl, fun k hk => sf_ne hk, a + 1, by omega, sf_eq⟩) (fun e => by rw [sf_ne (by decide)]; exact h4 e)
          rw [h3]
          refine q1_ck (inb_nI (n := 400) (by omega) (by decide)) ?_
          refine q1_eq (fun _ => b141 _ _ hTu h3 (by rw [h12u]; exact hc14)) (fun _ => ?_)
          exact wr a u (by omega) hTu (fun v u2 h1 h2 h4 => b141 _ _ h1 (h4.trans h3) (fun _ => h2))
      have b74 : ∀ (v2 : Int32) (s : RS9), TI e s0 s → (c = 14 → s.1 12 ≠ -1) → c ≤ 14 → P1 (mX9_acts_b74 (fun v1 v2 v3 σ => mX9_acts_l48 d v1 v2 v3 σ) (nI c) v2 s) (RP 0) := fun v2 s hT hc14 hcc => by
        unfold mX9_acts_b74
        refine q1_eq (fun q12 => ?_) (fun q12 => b87 _ _ hT hc14 hcc)
        refine q1_call (a_act he hT q12) (fun w u hu => ?_)
        exact b87 _ _ hu (fun e => absurd q12 (hc14 e)) hcc
      unfold mX9_acts_l48
      refine q1_eq (fun _ => b154 _ _ _ hT) (fun _ => ?_)
      refine q1_eq (fun q12 => ?_) (fun _ => b154 _ _ _ hT)
      have hc14 : c ≤ 14 := by
        by_cases ec : c = 15
        · exact absurd q12 (hc15 ec)
        · omega
      refine q1_eq (fun q14 => ?_) (fun q14 => b74 _ _ hT (fun e => absurd (by rw [e]; rfl) q14) hc14)
      refine q1_call (a_here he hT.1.2.1 hT.1.1) (fun v u hu => ?_)
      obtain ⟨hL, hv⟩ := hu
      obtain ⟨a, ha, h3⟩ := hL.2.2
      dsimp only
      rw [hv, h3]
      exact wr a u (by omega) (ti_lk hT hL) (fun v u2 h1 h2 h4 => b74 _ _ h1 (fun _ => h2) hc14)
  refine q1_call (a_here he h10 ⟨0, by omega, h11⟩) (fun v u hu => ?_)
  obtain ⟨hL, hv⟩ := hu
  dsimp only
  have fin : ∀ s3 : Int32, P1 (mX9_acts_b47 0 0 s3 u) (RP 0) := fun s3 => by
    unfold mX9_acts_b47
    exact key rFU 0 0 s3 u (ti_lk T0 hL) (by omega) (fun e => by omega) (by unfold rFU; omega)
  exact q1_le rfl rfl (fun _ => fin _) (fun _ => fin _)
end TEXT
end
/-! part 50a.pq -/
section
/-! what a function answers, if it answers -/
abbrev BL : Type := List Int32
def PQ {α : Type} (o : Option α) (Q : α → Prop) : Prop := ∀ r, o = some r → Q r
section PQS
variable {α β : Type} {Q : β → Prop}
theorem pq_ret {v : β} (h : Q v) : PQ (some v) Q := fun r e => by cases e; exact h
theorem pq_none : PQ (none : Option β) Q := fun r e => by cases e
theorem pq_bind {o : Option α} {k : α → Option β} (h : ∀ a, o = some a → PQ (k a) Q) : PQ (o.bind k) Q := fun r e => by
  cases ho : o with
  | none => rw [ho] at e; cases e
  | some a => rw [ho] at e; exact h a ho r e
theorem pq_call {o : Option α} {Q1 : α → Prop} {k : α → Option β} (h1 : PQ o Q1) (h : ∀ a, Q1 a → PQ (k a) Q) : PQ (o.bind k) Q := pq_bind (fun a e => h a (h1 a e))
theorem pq_is {o : Option α} {a : α} {k : α → Option β} (h1 : PQ o (fun r => r = a)) (h : PQ (k a) Q) : PQ (o.bind k) Q := pq_call h1 (fun b e => by rw [e]; exact h)
theorem pq_sb {a : α} {k : α → Option β} (h : PQ (k a) Q) : PQ ((some a).bind k) Q := h
theorem pq_eb {o : Option α} {a : α} {k : α → Option β} (e : o = some a) (h : PQ (k a) Q) : PQ (o.bind k) Q := by rw [e]; exact h
theorem pq_tail {o : Option β} {Q1 : β → Prop} (h1 : PQ o Q1) (h : ∀ a, Q1 a → Q a) : PQ o Q := fun r e => h r (h1 r e)
theorem pq_ck {b : Bool} {x : Option β} (h : PQ x Q) : PQ (rCk b x) Q := fun r e => h r (ck_some e).2
theorem pq_ckb {b : Bool} {x : Option β} (h : b = true → PQ x Q) : PQ (rCk b x) Q := fun r e => h (ck_some e).1 r (ck_some e).2
theorem pq_lt {x y : Int32} {a b : Int} {A B : Option β} (ex : x.toInt = a) (ey : y.toInt = b) (h1 : a < b → PQ A Q) (h2 : b ≤ a → PQ B Q) : PQ (if x < y then A else B) Q := by
  subst ex ey
  by_cases h : x.toInt < y.toInt
  · rw [if_pos (c_lt h)]; exact h1 h
  · rw [if_neg (c_nlt (by omega))]; exact h2 (by omega)
theorem pq_le {x y : Int32} {a b : Int} {A B : Option β} (ex : x.toInt = a) (ey : y.toInt = b) (h1 : a ≤ b → PQ A Q) (h2 : b < a → PQ B Q) : PQ (if x ≤ y then A else B) Q := by
  subst ex ey
  by_cases h : x.toInt ≤ y.toInt
  · rw [if_pos (c_le h)]; exact h1 h
  · rw [if_neg (c_nle (by omega))]; exact h2 (by omega)
theorem pq_eq {x y : Int32} {A B : Option β} (h1 : x = y → PQ A Q) (h2 : x ≠ y → PQ B Q) : PQ (if x = y then A else B) Q := by
  by_cases h : x = y
  · rw [if_pos h]; exact h1 h
  · rw [if_neg h]; exact h2 h
theorem pq_eqi {x y : Int32} {a b : Int} {A B : Option β} (ex : x.toInt = a) (ey : y.toInt = b) (h1 : a = b → PQ A Q) (h2 : a ≠ b → PQ B Q) : PQ (if x = y then A else B) Q := by
  subst ex ey
  by_cases h : x = y
  · rw [if_pos h]; exact h1 (by rw [h])
  · rw [if_neg h]; exact h2 (fun q => h (Int32.toInt_inj.mp q))
theorem pq_t {A B : Option β} {c : Prop} {d : Decidable c} (hc : c) (h : PQ A Q) : PQ (@ite _ c d A B) Q := by rw [if_pos hc]; exact h
theorem pq_f {A B : Option β} {c : Prop} {d : Decidable c} (hc : ¬ c) (h : PQ B Q) : PQ (@ite _ c d A B) Q := by rw [if_neg hc]; exact h
theorem pq_oNn {γ : Type} {A : Option β} {k : γ → Option β} (h : PQ A Q) : PQ (oN (none : Option γ) A k) Q := h
theorem pq_oNs {γ : Type} {a : γ} {A : Option β} {k : γ → Option β} (h : PQ (k a) Q) : PQ (oN (some a) A k) Q := h
/-! the class's heap -/
theorem pq_gI {f : AH} {j c k : Nat} {fs : List Value} {x : Int32} {kk : Int32 → Option β} (h : f j = some (.inr (c, fs))) (hk : fs[k]? = some (.int x)) (hh : PQ (kk x) Q) : PQ ((gI f j c k).bind kk) Q := by
  have e : gI f j c k = some x := by
    unfold gI; rw [h]
    show (if c = c then (match fs[k]? with
    | some (.int v) => some v
    | _ => none) else none) = some x
    rw [if_pos rfl, hk]
  rw [e]; exact hh
theorem pq_gR {f : AH} {j c k i : Nat} {fs : List Value} {kk : Option Nat → Option β} (h : f j = some (.inr (c, fs))) (hk : fs[k]? = some (.ref i)) (hh : PQ (kk (some i)) Q) : PQ ((gR f j c k).bind kk) Q := by
  have e : gR f j c k = some (some i) := by
    unfold gR; rw [h]
    show (if c = c then (match fs[k]? with
    | some .null => some none
    | some (.ref j) => some (some j)
    | _ => none) else none) = _
    rw [if_pos rfl, hk]
  rw [e]; exact hh
theorem pq_gRw {f : AH} {j c k : Nat} {w : Option Nat} {fs : List Value} {kk : Option Nat → Option β} (h : f j = some (.inr (c, fs))) (hk : fs[k]? = some (va_rf w)) (hh : PQ (kk w) Q) : PQ ((gR f j c k).bind kk) Q := by
  have e : gR f j c k = some w := by
    unfold gR; rw [h]
    show (if c = c then (match fs[k]? with
    | some .null => some none
    | some (.ref j) => some (some j)
    | _ => none) else none) = _
    rw [if_pos rfl, hk]
    cases w <;> rfl
  rw [e]; exact hh
theorem pq_pO {f : AH} {j c k : Nat} {v : Value} {fs : List Value} {kk : AH → Option β} (h : f j = some (.inr (c, fs))) (hk : decide (k < fs.length) = true) (hh : PQ (kk (va_up f j (some (.inr (c, fs.set k v))))) Q) : PQ ((pO f j c k v).bind kk) Q := by
  have e : pO f j c k v = some (va_up f j (some (.inr (c, fs.set k v)))) := by
    unfold pO; rw [h]
    show (if c = c ∧ k < fs.length then _ else _) = _
    rw [if_pos ⟨rfl, of_decide_eq_true hk⟩]
  rw [e]; exact hh
theorem pq_gL {f : AH} {j t N : Nat} {g : (Nat → Int32) ⊕ (Nat → Int64) ⊕ (Nat → Option Nat)} {kk : Nat → Option β} (h : f j = some (.inl (t, N, g))) (ht : t < 5) (hh : PQ (kk N) Q) : PQ ((gL f j).bind kk) Q := by
  have e : gL f j = some N := by
    unfold gL; rw [h]
    show (if t < 5 then some N else none) = some N
    rw [if_pos ht]
  rw [e]; exact hh
theorem pq_gIA {f : AH} {j N : Nat} {g : Nat → Int32} {x : Int32} {kk : Int32 → Option β} (h : f j = some (.inl (0, N, .inl g))) (hh : rIn x N = true → PQ (kk (g x.toNatClampNeg)) Q) : PQ ((gIA f j x).bind kk) Q := by
  by_cases hx : rIn x N = true
  · have e : gIA f j x = some (g x.toNatClampNeg) := by
      unfold gIA; rw [h]
      exact if_pos ⟨rfl, hx⟩
    rw [e]; exact hh hx
  · have e : gIA f j x = none := by
      unfold gIA; rw [h]
      exact if_neg (fun q => hx q.2)
    rw [e]; exact pq_none
theorem pq_pIA {f : AH} {j N : Nat} {g : Nat → Int32} {x v : Int32} {kk : AH → Option β} (h : f j = some (.inl (0, N, .inl g))) (hh : rIn x N = true → PQ (kk (va_up f j (some (.inl (0, N, .inl (upd g x.toNatClampNeg v)))))) Q) : PQ ((pIA f j x v).bind kk) Q := by
  by_cases hx : rIn x N = true
  · have e : pIA f j x v = some (va_up f j (some (.inl (0, N, .inl (upd g x.toNatClampNeg v))))) := by
      unfold pIA; rw [h]
      exact if_pos ⟨rfl, hx⟩
    rw [e]; exact hh hx
  · have e : pIA f j x v = none := by
      unfold pIA; rw [h]
      exact if_neg (fun q => hx q.2)
    rw [e]; exact pq_none
theorem pq_gRA {f : AH} {j t N : Nat} {g : Nat → Option Nat} {x : Int32} {kk : Option Nat → Option β} (h : f j = some (.inl (t, N, .inr (.inr g)))) (hh : rIn x N = true → PQ (kk (g x.toNatClampNeg)) Q) : PQ ((gRA f j x).bind kk) Q := by
  by_cases hx : (t = 1 ∨ t = 2 ∨ t = 3) ∧ rIn x N = true
  · have e : gRA f j x = some (g x.toNatClampNeg) := by
      unfold gRA; rw [h]
      exact if_pos hx
    rw [e]; exact hh hx.2
  · have e : gRA f j x = none := by
      unfold gRA; rw [h]
      exact if_neg hx
    rw [e]; exact pq_none
theorem pq_pRA {f : AH} {j t N : Nat} {g : Nat → Option Nat} {x : Int32} {w : Option Nat} {kk : AH → Option β} (h : f j = some (.inl (t, N, .inr (.inr g)))) (hh : rIn x N = true → PQ (kk (va_up f j (some (.inl (t, N, .inr (.inr (va_up g x.toNatClampNeg w))))))) Q) : PQ ((pRA f j x w).bind kk) Q := by
  by_cases hx : ((t = 1 ∨ t = 2 ∨ t = 3) ∧ rIn x N = true) ∧ okR f t w = true
  · have e : pRA f j x w = some (va_up f j (some (.inl (t, N, .inr (.inr (va_up g x.toNatClampNeg w)))))) := by
      unfold pRA; rw [h]
      exact if_pos hx
    rw [e]; exact hh hx.1.2
  · have e : pRA f j x w = none := by
      unfold pRA; rw [h]
      exact if_neg hx
    rw [e]; exact pq_none
end PQS
theorem in_nI {k N : Nat} (hk : k < 2 ^ 31) (h : rIn (nI k) N = true) : k < N := by
  simp only [rIn, Bool.and_eq_true, Bool.not_eq_true', decide_eq_false_iff_not, decide_eq_true_eq] at h
  rw [nI_clamp hk] at h
  exact h.2
theorem u_eq {α : Type} {f : Nat → α} {j : Nat} {v : α} : va_up f j v j = v := if_pos rfl
theorem u_ne {α : Type} {f : Nat → α} {i j : Nat} {v : α} (h : i ≠ j) : va_up f j v i = f i := if_neg h
theorem u_uu {α : Type} {f : Nat → α} {j : Nat} {v w : α} : va_up (va_up f j v) j w = va_up f j w := by
  funext i
  by_cases h : i = j
  · subst h; rw [u_eq, u_eq]
  · rw [u_ne h, u_ne h, u_ne h]
theorem u_id {α : Type} {f : Nat → α} {j : Nat} {v : α} (h : f j = v) : va_up f j v = f := by
  funext i
  by_cases hi : i = j
  · subst hi; rw [u_eq, h]
  · rw [u_ne hi]
end
/-! part 50b.nx -/
section
/-! looking along a row of bytes -/
def fnd (p : Int32 → Bool) (L : BL) : Nat → Nat → Nat
  | 0, k => k
  | d + 1, k => if p (L.getD k 0) = true then k else fnd p L d (k + 1)
def nx (p : Int32 → Bool) (L : BL) (a b : Nat) : Nat := fnd p L (b - a) a
theorem nx_end {p : Int32 → Bool} {L : BL} {a b : Nat} (h : b ≤ a) : nx p L a b = a := by
  unfold nx
  rw [show b - a = 0 by omega]; rfl
theorem nx_hit {p : Int32 → Bool} {L : BL} {a b : Nat} (h : a < b) (hp : p (L.getD a 0) = true) : nx p L a b = a := by
  unfold nx
  obtain ⟨d, hd⟩ : ∃ d, b - a = d + 1 := ⟨b - a - 1, by omega⟩
  rw [hd]; exact if_pos hp
theorem nx_go {p : Int32 → Bool} {L : BL} {a b : Nat} (h : a < b) (hp : p (L.getD a 0) = false) : nx p L a b = nx p L (a + 1) b := by
  unfold nx
  obtain ⟨d, hd⟩ : ∃ d, b - a = d + 1 := ⟨b - a - 1, by omega⟩
  rw [hd, show b - (a + 1) = d by omega]
  exact if_neg (by rw [hp]; decide)
theorem nx_all {p : Int32 → Bool} {L : BL} {b : Nat} : ∀ (d a : Nat), b - a = d → a ≤ nx p L a b ∧ (a ≤ b → nx p L a b ≤ b) ∧ (∀ i, a ≤ i → i < nx p L a b → p (L.getD i 0) = false) ∧ (nx p L a b < b → p (L.getD (nx p L a b) 0) = true) := by
  intro d
  induction d with
  | zero => intro a h; rw [nx_end (by omega)]; exact ⟨by omega, by omega, fun i _ _ => by omega, fun _ => by omega⟩
  | succ d ih =>
    intro a h
    cases hp : p (L.getD a 0) with
    | true => rw [nx_hit (by omega) hp]; exact ⟨by omega, by omega, fun i _ _ => by omega, fun _ => hp⟩
    | false =>
      rw [nx_go (by omega) hp]
      obtain ⟨h1, h2, h3, h4⟩ := ih (a + 1) (by omega)
      refine ⟨by omega, fun _ => h2 (by omega), fun i hi hj => ?_, h4⟩
      by_cases e : i = a
      · rw [e]; exact hp
      · exact h3 i (by omega) hj
section NX
variable {p : Int32 → Bool} {L : BL} {a b : Nat}
theorem nx_ge : a ≤ nx p L a b := (nx_all _ a rfl).1
theorem nx_le (h : a ≤ b) : nx p L a b ≤ b := (nx_all _ a rfl).2.1 h
theorem nx_no {i : Nat} (h1 : a ≤ i) (h2 : i < nx p L a b) : p (L.getD i 0) = false := (nx_all _ a rfl).2.2.1 i h1 h2
theorem nx_at (h : nx p L a b < b) : p (L.getD (nx p L a b) 0) = true := (nx_all _ a rfl).2.2.2 h
theorem nx_skip {j : Nat} (h1 : a ≤ j) (h2 : j ≤ b) (h : ∀ i, a ≤ i → i < j → p (L.getD i 0) = false) : nx p L a b = nx p L j b := by
  obtain ⟨d, rfl⟩ : ∃ d, j = a + d := ⟨j - a, by omega⟩
  clear h1
  induction d with
  | zero => rfl
  | succ d ih =>
    rw [ih (by omega) (fun i x y => h i x (by omega)), nx_go (by omega) (h (a + d) (by omega) (by omega))]
    rfl
theorem nx_is {j : Nat} (h1 : a ≤ j) (h2 : j ≤ b) (h : ∀ i, a ≤ i → i < j → p (L.getD i 0) = false) (hj : j < b → p (L.getD j 0) = true) : nx p L a b = j := by
  rw [nx_skip h1 h2 h]
  rcases Nat.lt_or_ge j b with q | q
  · exact nx_hit q (hj q)
  · exact nx_end q
end NX
/-- from behind -/
def bkn (p : Int32 → Bool) (L : BL) (lo : Nat) : Nat → Nat
  | 0 => 0
  | h + 1 => if lo < h + 1 ∧ p (L.getD h 0) = true then bkn p L lo h else h + 1
theorem bkn_le {p : Int32 → Bool} {L : BL} {lo : Nat} : ∀ h, bkn p L lo h ≤ h := by
  intro h
  induction h with
  | zero => exact Nat.le_refl _
  | succ h ih =>
    unfold bkn
    split
    · omega
    · omega
theorem bkn_ge {p : Int32 → Bool} {L : BL} {lo : Nat} : ∀ h, lo ≤ h → lo ≤ bkn p L lo h := by
  intro h
  induction h with
  | zero => intro q; exact q
  | succ h ih =>
    intro q
    unfold bkn
    split
    · exact ih (by omega)
    · omega
theorem bkn_go {p : Int32 → Bool} {L : BL} {lo h : Nat} (h1 : lo < h) (h2 : p (L.getD (h - 1) 0) = true) : bkn p L lo h = bkn p L lo (h - 1) := by
  obtain ⟨k, rfl⟩ : ∃ k, h = k + 1 := ⟨h - 1, by omega⟩
  exact if_pos ⟨h1, h2⟩
theorem bkn_st {p : Int32 → Bool} {L : BL} {lo h : Nat} (h1 : ¬ (lo < h ∧ p (L.getD (h - 1) 0) = true)) : bkn p L lo h = h := by
  cases h with
  | zero => rfl
  | succ k => exact if_neg h1
/-! bytes -/
def bEq (x : Int32) (c : Int32) : Bool := decide (c = x)
def bNe (x : Int32) (c : Int32) : Bool := !decide (c = x)
def bSep (c : Int32) : Bool := decide (c = 44) || decide (c = 10)
def bBare (c : Int32) : Bool := decide (c = 32) || decide (c = 10)
def bNb (c : Int32) : Bool := !(decide (c = 32) || decide (c = 10))
/-- where a quoted cell closes -/
def qeF (L : BL) : Nat → Nat → Nat
  | 0, k => k
  | d + 1, k => if k < L.length then (if L.getD k 0 = 34 then (if k + 1 < L.length ∧ L.getD (k + 1) 0 = 34 then qeF L d (k + 2) else k) else qeF L d (k + 1)) else k
def qe (L : BL) (k : Nat) : Nat := qeF L (L.length - k) k
theorem qeF_ge {L : BL} : ∀ d k, k ≤ qeF L d k := by
  intro d
  induction d with
  | zero => intro k; exact Nat.le_refl _
  | succ d ih =>
    intro k
    unfold qeF
    split
    · split
      · split
        · have := ih (k + 2); omega
        · omega
      · have := ih (k + 1); omega
    · omega
theorem qeF_le {L : BL} : ∀ d k, k ≤ L.length → qeF L d k ≤ L.length := by
  intro d
  induction d with
  | zero => intro k h; exact h
  | succ d ih =>
    intro k h
    unfold qeF
    split
    · split
      · split
        · exact ih (k + 2) (by omega)
        · omega
      · exact ih (k + 1) (by omega)
    · omega
theorem qeF_ir {L : BL} : ∀ d k e, L.length - k ≤ d → L.length - k ≤ e → qeF L d k = qeF L e k := by
  intro d
  induction d with
  | zero =>
    intro k e h1 h2
    cases e with
    | zero => rfl
    | succ e =>
      unfold qeF
      rw [if_neg (by omega)]
  | succ d ih =>
    intro k e h1 h2
    cases e with
    | zero =>
      unfold qeF
      rw [if_neg (by omega)]
    | succ e =>
      unfold qeF
      split
      · split
        · split
          · exact ih (k + 2) e (by omega) (by omega)
          · rfl
        · exact ih (k + 1) e (by omega) (by omega)
      · rfl
theorem qe_ge {L : BL} {k : Nat} : k ≤ qe L k := qeF_ge _ _
theorem qe_le {L : BL} {k : Nat} (h : k ≤ L.length) : qe L k ≤ L.length := qeF_le _ _ h
theorem qe_end {L : BL} {k : Nat} (h : L.length ≤ k) : qe L k = k := by
  unfold qe
  rw [show L.length - k = 0 by omega]; rfl
theorem qe_st {L : BL} {k : Nat} (h : k < L.length) : qe L k = if L.getD k 0 = 34 then (if k + 1 < L.length ∧ L.getD (k + 1) 0 = 34 then qe L (k + 2) else k) else qe L (k + 1) := by
  unfold qe
  obtain ⟨d, hd⟩ : ∃ d, L.length - k = d + 1 := ⟨L.length - k - 1, by omega⟩
  rw [hd]
  conv => lhs; unfold qeF
  rw [if_pos h]
  split
  · split
    · exact qeF_ir d (k + 2) _ (by omega) (by omega)
    · rfl
  · exact qeF_ir d (k + 1) _ (by omega) (by omega)
/-- where quotes close -/
def qqF (L : BL) : Nat → Nat → Nat
  | 0, k => k
  | d + 1, k => if k < L.length then (if L.getD k 0 = 34 then k else if L.getD k 0 = 92 ∧ k + 1 < L.length then qqF L d (k + 2) else qqF L d (k + 1)) else k
def qq (L : BL) (k : Nat) : Nat := qqF L (L.length - k) k
theorem qqF_ge {L : BL} : ∀ d k, k ≤ qqF L d k := by
  intro d
  induction d with
  | zero => intro k; exact Nat.le_refl _
  | succ d ih =>
    intro k
    unfold qqF
    split
    · split
      · omega
      · split
        · have := ih (k + 2); omega
        · have := ih (k + 1); omega
    · omega
theorem qqF_le {L : BL} : ∀ d k, k ≤ L.length → qqF L d k ≤ L.length := by
  intro d
  induction d with
  | zero => intro k h; exact h
  | succ d ih =>
    intro k h
    unfold qqF
    split
    · split
      · omega
      · split
        · exact ih (k + 2) (by omega)
        · exact ih (k + 1) (by omega)
    · omega
theorem qqF_ir {L : BL} : ∀ d k e, L.length - k ≤ d → L.length - k ≤ e → qqF L d k = qqF L e k := by
  intro d
  induction d with
  | zero =>
    intro k e h1 h2
    cases e with
    | zero => rfl
    | succ e =>
      unfold qqF
      rw [if_neg (by omega)]
  | succ d ih =>
    intro k e h1 h2
    cases e with
    | zero =>
      unfold qqF
      rw [if_neg (by omega)]
    | succ e =>
      unfold qqF
      split
      · split
        · rfl
        · split
          · exact ih (k + 2) e (by omega) (by omega)
          · exact ih (k + 1) e (by omega) (by omega)
      · rfl
theorem qq_ge {L : BL} {k : Nat} : k ≤ qq L k := qqF_ge _ _
theorem qq_le {L : BL} {k : Nat} (h : k ≤ L.length) : qq L k ≤ L.length := qqF_le _ _ h
theorem qq_end {L : BL} {k : Nat} (h : L.length ≤ k) : qq L k = k := by
  unfold qq
  rw [show L.length - k = 0 by omega]; rfl
theorem qq_st {L : BL} {k : Nat} (h : k < L.length) : qq L k = if L.getD k 0 = 34 then k else if L.getD k 0 = 92 ∧ k + 1 < L.length then qq L (k + 2) else qq L (k + 1) := by
  unfold qq
  obtain ⟨d, hd⟩ : ∃ d, L.length - k = d + 1 := ⟨L.length - k - 1, by omega⟩
  rw [hd]
  conv => lhs; unfold qqF
  rw [if_pos h]
  split
  · rfl
  · split
    · exact qqF_ir d (k + 2) _ (by omega) (by omega)
    · exact qqF_ir d (k + 1) _ (by omega) (by omega)
end
/-! part 50c.cut -/
section
/-! what a kind finds in a row: from, to, quoted, where its key begins, how long that is -/
abbrev CI : Type := Nat × Nat × Bool × Nat × Nat
def lnE (L : BL) (a : Nat) : Nat := nx (bEq 10) L a L.length
def lnS (L : BL) (a : Nat) : Nat := nx (bEq 61) L a (lnE L a)
def lnK (L : BL) (a : Nat) : Nat := nx (bNe 32) L a (lnE L a)
def lnV (L : BL) (a : Nat) : Nat := nx (bNe 32) L (lnS L a + 1) (lnE L a)
def lnM (L : BL) (a : Nat) : Nat := bkn (bEq 32) L (lnK L a) (lnS L a) - lnK L a
def stL (L : BL) (a : Nat) : Option CI × Nat := (if lnS L a = lnE L a ∨ L.getD (lnK L a) 0 = 35 ∨ lnE L a ≤ lnV L a then none else some (lnV L a, lnE L a, false, lnK L a, lnM L a), lnE L a + 1)
def stT (L : BL) (a : Nat) : Option CI × Nat := if L.getD a 0 = 34 then (if a + 1 < qe L (a + 1) then some (a + 1, qe L (a + 1), true, 0, 0) else none, (if qe L (a + 1) < L.length then nx bSep L (qe L (a + 1) + 1) L.length else L.length) + 1) else (if a < nx bSep L a L.length then some (a, nx bSep L a L.length, false, 0, 0) else none, nx bSep L a L.length + 1)
def mkS (L : BL) (a : Nat) : Nat := nx (bEq 60) L a L.length
def mkX (L : BL) (a : Nat) : Nat := nx bNb L a (mkS L a)
def mkY (L : BL) (a : Nat) : Nat := bkn bBare L (mkX L a) (mkS L a)
def stM (L : BL) (a : Nat) : Option CI × Nat := if L.getD a 0 = 60 then (none, nx (bEq 62) L a L.length + 1) else (if mkX L a < mkY L a then some (mkX L a, mkY L a, false, 0, 0) else none, mkS L a)
def quA (L : BL) (a : Nat) : Nat := nx (bEq 34) L a L.length
def quE (L : BL) (a : Nat) : Nat := qq L (quA L a + 1)
def quW (L : BL) (a : Nat) : Nat := nx bNb L (quE L a + 1) L.length
def stQ (L : BL) (a : Nat) : Option CI × Nat := if quA L a < L.length then (if quA L a + 1 < quE L a ∧ ¬ (quW L a < L.length ∧ L.getD (quW L a) 0 = 58) then some (quA L a + 1, quE L a, false, 0, 0) else none, quE L a + 1) else (none, L.length + 1)
def stepK (k : Int32) (L : BL) (a : Nat) : Option CI × Nat := if k = 0 then stL L a else if k = 1 then stT L a else if k = 2 then stM L a else stQ L a
theorem stepK_gt {k : Int32} {L : BL} {a : Nat} (h : a < L.length) : a < (stepK k L a).2 := by
  unfold stepK
  split
  · have := nx_ge (p := bEq 10) (L := L) (a := a) (b := L.length)
    show a < lnE L a + 1
    unfold lnE; omega
  · split
    · unfold stT
      split
      · show a < (if qe L (a + 1) < L.length then nx bSep L (qe L (a + 1) + 1) L.length else L.length) + 1
        have h1 := qe_ge (L := L) (k := a + 1)
        have h2 := nx_ge (p := bSep) (L := L) (a := qe L (a + 1) + 1) (b := L.length)
        split <;> omega
      · have := nx_ge (p := bSep) (L := L) (a := a) (b := L.length)
        show a < nx bSep L a L.length + 1
        omega
    · split
      · unfold stM
        split
        · have := nx_ge (p := bEq 62) (L := L) (a := a) (b := L.length)
          show a < nx (bEq 62) L a L.length + 1
          omega
        · rename_i hq
          show a < nx (bEq 60) L a L.length
          rw [nx_go h (by unfold bEq; exact decide_eq_false hq)]
          have := nx_ge (p := bEq 60) (L := L) (a := a + 1) (b := L.length)
          omega
      · unfold stQ
        have h1 := nx_ge (p := bEq 34) (L := L) (a := a) (b := L.length)
        have h2 := qq_ge (L := L) (k := quA L a + 1)
        split
        · show a < quE L a + 1
          unfold quE
          unfold quA at h2 ⊢
          omega
        · show a < L.length + 1
          omega
theorem stepK_b {k : Int32} {L : BL} {a : Nat} (h : a < L.length) {c : CI} (e : (stepK k L a).1 = some c) : a ≤ c.1 ∧ c.1 < c.2.1 ∧ c.2.1 ≤ L.length ∧ c.2.1 ≤ (stepK k L a).2 := by
  unfold stepK at e ⊢
  split at e
  · rename_i hk
    rw [if_pos hk]
    unfold stL at e ⊢
    have h1 := nx_le (p := bEq 10) (L := L) (a := a) (b := L.length) (by omega)
    have h2 := nx_ge (p := bEq 61) (L := L) (a := a) (b := lnE L a)
    have h3 := nx_ge (p := bNe 32) (L := L) (a := lnS L a + 1) (b := lnE L a)
    split at e
    · cases e
    · cases e
      rename_i hn
      show a ≤ lnV L a ∧ lnV L a < lnE L a ∧ lnE L a ≤ L.length ∧ lnE L a ≤ lnE L a + 1
      have h4 : ¬ lnE L a ≤ lnV L a := fun q => hn (Or.inr (Or.inr q))
      have h5 : lnS L a + 1 ≤ lnV L a := h3
      have h6 : a ≤ lnS L a := h2
      have h7 : lnE L a ≤ L.length := h1
      omega
  · rename_i hk0
    rw [if_neg hk0]
    split at e
    · rename_i hk
      rw [if_pos hk]
      unfold stT at e ⊢
      have h1 := qe_le (L := L) (k := a + 1) (by omega)
      have h2 := nx_ge (p := bSep) (L := L) (a := qe L (a + 1) + 1) (b := L.length)
      have h3 := nx_le (p := bSep) (L := L) (a := a) (b := L.length) (by omega)
      by_cases hq : L.getD a 0 = 34
      · rw [if_pos hq] at e ⊢
        have e2 : (if a + 1 < qe L (a + 1) then some (a + 1, qe L (a + 1), true, 0, 0) else none) = some c := e
        show _ ∧ _ ∧ _ ∧ c.2.1 ≤ (if qe L (a + 1) < L.length then nx bSep L (qe L (a + 1) + 1) L.length else L.length) + 1
        split at e2
        · cases e2
          show a ≤ a + 1 ∧ a + 1 < qe L (a + 1) ∧ qe L (a + 1) ≤ L.length ∧ qe L (a + 1) ≤ _
          split <;> omega
        · cases e2
      · rw [if_neg hq] at e ⊢
        have e2 : (if a < nx bSep L a L.length then some (a, nx bSep L a L.length, false, 0, 0) else none) = some c := e
        split at e2
        · cases e2
          show a ≤ a ∧ a < nx bSep L a L.length ∧ nx bSep L a L.length ≤ L.length ∧ nx bSep L a L.length ≤ nx bSep L a L.length + 1
          omega
        · cases e2
    · rename_i hk1
      rw [if_neg hk1]
      split at e
      · rename_i hk
        rw [if_pos hk]
        unfold stM at e ⊢
        by_cases hq : L.getD a 0 = 60
        · rw [if_pos hq] at e; cases e
        · rw [if_neg hq] at e ⊢
          have h1 : a ≤ mkX L a := nx_ge
          have h2 : mkY L a ≤ mkS L a := bkn_le _
          have h3 : mkS L a ≤ L.length := nx_le (by omega)
          have e2 : (if mkX L a < mkY L a then some (mkX L a, mkY L a, false, 0, 0) else none) = some c := e
          split at e2
          · cases e2
            show a ≤ mkX L a ∧ mkX L a < mkY L a ∧ mkY L a ≤ L.length ∧ mkY L a ≤ mkS L a
            omega
          · cases e2
      · rename_i hk
        rw [if_neg hk]
        unfold stQ at e ⊢
        by_cases hq : quA L a < L.length
        · rw [if_pos hq] at e ⊢
          have h1 : a ≤ quA L a := nx_ge
          have h2 : quE L a ≤ L.length := qq_le (by omega)
          have e2 : (if quA L a + 1 < quE L a ∧ ¬ (quW L a < L.length ∧ L.getD (quW L a) 0 = 58) then some (quA L a + 1, quE L a, false, 0, 0) else none) = some c := e
          split at e2
          · cases e2
            rename_i hc
            show a ≤ quA L a + 1 ∧ quA L a + 1 < quE L a ∧ quE L a ≤ L.length ∧ quE L a ≤ quE L a + 1
            omega
          · cases e2
        · rw [if_neg hq] at e; cases e
def cutF (k : Int32) (L : BL) : Nat → Nat → List CI
  | 0, _ => []
  | d + 1, a => if a < L.length then (stepK k L a).1.toList ++ cutF k L d (stepK k L a).2 else []
def cutL (k : Int32) (L : BL) (a : Nat) : List CI := cutF k L (L.length - a) a
theorem cutF_ir {k : Int32} {L : BL} : ∀ d a e, L.length - a ≤ d → L.length - a ≤ e → cutF k L d a = cutF k L e a := by
  intro d
  induction d with
  | zero =>
    intro a e h1 h2
    cases e with
    | zero => rfl
    | succ e =>
      unfold cutF
      rw [if_neg (by omega)]
  | succ d ih =>
    intro a e h1 h2
    cases e with
    | zero =>
      unfold cutF
      rw [if_neg (by omega)]
    | succ e =>
      unfold cutF
      split
      · rename_i h
        have := stepK_gt (k := k) h
        rw [ih (stepK k L a).2 e (by omega) (by omega)]
      · rfl
theorem cutL_end {k : Int32} {L : BL} {a : Nat} (h : L.length ≤ a) : cutL k L a = [] := by
  unfold cutL
  rw [show L.length - a = 0 by omega]; rfl
theorem cutL_st {k : Int32} {L : BL} {a : Nat} (h : a < L.length) : cutL k L a = (stepK k L a).1.toList ++ cutL k L (stepK k L a).2 := by
  unfold cutL
  obtain ⟨d, hd⟩ : ∃ d, L.length - a = d + 1 := ⟨L.length - a - 1, by omega⟩
  rw [hd]
  conv => lhs; unfold cutF
  rw [if_pos h]
  have := stepK_gt (k := k) h
  rw [cutF_ir d _ (L.length - (stepK k L a).2) (by omega) (by omega)]
theorem cutL_b {k : Int32} {L : BL} : ∀ (d a : Nat), L.length - a ≤ d → ∀ c ∈ cutL k L a, a ≤ c.1 ∧ c.1 < c.2.1 ∧ c.2.1 ≤ L.length := by
  intro d
  induction d with
  | zero => intro a h c hc; rw [cutL_end (by omega)] at hc; cases hc
  | succ d ih =>
    intro a h c hc
    by_cases ha : a < L.length
    · rw [cutL_st ha] at hc
      have hg := stepK_gt (k := k) ha
      rcases List.mem_append.mp hc with hc | hc
      · have e : (stepK k L a).1 = some c := by
          cases e1 : (stepK k L a).1 with
          | none => rw [e1] at hc; cases hc
          | some c' => rw [e1] at hc; rw [List.mem_singleton.mp (show c ∈ [c'] from hc)]
        have := stepK_b ha e
        omega
      · have := ih (stepK k L a).2 (by omega) c hc
        omega
    · rw [cutL_end (by omega)] at hc; cases hc
/-! what bytes mean, and how many mean it -/
def bkM (k c : Int32) : Int32 × Nat := if c = 110 then (10, 2) else if c = 116 then (9, 2) else if c = 92 then (92, 2) else if c = 32 ∧ k = 0 then (32, 2) else if c = 34 ∧ k = 3 then (34, 2) else (92, 1)
def mkM (L : BL) (i b : Nat) : Int32 × Nat := if L.getD i 0 = 38 then (if i + 4 ≤ b ∧ L.getD (i + 1) 0 = 108 ∧ L.getD (i + 2) 0 = 116 ∧ L.getD (i + 3) 0 = 59 then (60, 4) else if i + 4 ≤ b ∧ L.getD (i + 1) 0 = 103 ∧ L.getD (i + 2) 0 = 116 ∧ L.getD (i + 3) 0 = 59 then (62, 4) else if i + 5 ≤ b ∧ L.getD (i + 1) 0 = 97 ∧ L.getD (i + 2) 0 = 109 ∧ L.getD (i + 3) 0 = 112 ∧ L.getD (i + 4) 0 = 59 then (38, 5) else (38, 1)) else (L.getD i 0, 1)
def mw (k : Int32) (q : Bool) (L : BL) (i b : Nat) : Int32 × Nat := if k = 1 then (L.getD i 0, if q = true ∧ L.getD i 0 = 34 ∧ i + 1 < b ∧ L.getD (i + 1) 0 = 34 then 2 else 1) else if k = 2 then mkM L i b else if L.getD i 0 = 92 ∧ i + 1 < b then bkM k (L.getD (i + 1) 0) else (L.getD i 0, 1)
theorem mw_b {k : Int32} {q : Bool} {L : BL} {i b : Nat} (h : i < b) : 1 ≤ (mw k q L i b).2 ∧ i + (mw k q L i b).2 ≤ b ∧ (mw k q L i b).2 ≤ 5 := by
  unfold mw
  split
  · show 1 ≤ (if _ then 2 else 1) ∧ _
    split <;> omega
  · split
    · unfold mkM
      split
      · split
        · show 1 ≤ 4 ∧ i + 4 ≤ b ∧ 4 ≤ 5; omega
        · split
          · show 1 ≤ 4 ∧ i + 4 ≤ b ∧ 4 ≤ 5; omega
          · split
            · show 1 ≤ 5 ∧ i + 5 ≤ b ∧ 5 ≤ 5; omega
            · show 1 ≤ 1 ∧ i + 1 ≤ b ∧ 1 ≤ 5; omega
      · show 1 ≤ 1 ∧ i + 1 ≤ b ∧ 1 ≤ 5; omega
    · split
      · rename_i h2
        unfold bkM
        split
        · show 1 ≤ 2 ∧ i + 2 ≤ b ∧ 2 ≤ 5; omega
        · split
          · show 1 ≤ 2 ∧ i + 2 ≤ b ∧ 2 ≤ 5; omega
          · split
            · show 1 ≤ 2 ∧ i + 2 ≤ b ∧ 2 ≤ 5; omega
            · split
              · show 1 ≤ 2 ∧ i + 2 ≤ b ∧ 2 ≤ 5; omega
              · split
                · show 1 ≤ 2 ∧ i + 2 ≤ b ∧ 2 ≤ 5; omega
                · show 1 ≤ 1 ∧ i + 1 ≤ b ∧ 1 ≤ 5; omega
      · show 1 ≤ 1 ∧ i + 1 ≤ b ∧ 1 ≤ 5; omega
/-- a meaning, where it begins, where it ends -/
abbrev UI : Type := Int32 × Nat × Nat
def undF (k : Int32) (q : Bool) (L : BL) (b : Nat) : Nat → Nat → List UI
  | 0, _ => []
  | d + 1, i => if i < b then ((mw k q L i b).1, i, i + (mw k q L i b).2) :: undF k q L b d (i + (mw k q L i b).2) else []
def und (k : Int32) (q : Bool) (L : BL) (i b : Nat) : List UI := undF k q L b (b - i) i
theorem undF_ir {k : Int32} {q : Bool} {L : BL} {b : Nat} : ∀ d i e, b - i ≤ d → b - i ≤ e → undF k q L b d i = undF k q L b e i := by
  intro d
  induction d with
  | zero =>
    intro i e h1 h2
    cases e with
    | zero => rfl
    | succ e =>
      unfold undF
      rw [if_neg (by omega)]
  | succ d ih =>
    intro i e h1 h2
    cases e with
    | zero =>
      unfold undF
      rw [if_neg (by omega)]
    | succ e =>
      unfold undF
      split
      · rename_i h
        have := mw_b (k := k) (q := q) (L := L) h
        rw [ih (i + (mw k q L i b).2) e (by omega) (by omega)]
      · rfl
theorem und_end {k : Int32} {q : Bool} {L : BL} {i b : Nat} (h : b ≤ i) : und k q L i b = [] := by
  unfold und
  rw [show b - i = 0 by omega]; rfl
theorem und_st {k : Int32} {q : Bool} {L : BL} {i b : Nat} (h : i < b) : und k q L i b = ((mw k q L i b).1, i, i + (mw k q L i b).2) :: und k q L (i + (mw k q L i b).2) b := by
  unfold und
  obtain ⟨d, hd⟩ : ∃ d, b - i = d + 1 := ⟨b - i - 1, by omega⟩
  rw [hd]
  conv => lhs; unfold undF
  rw [if_pos h]
  have := mw_b (k := k) (q := q) (L := L) h
  rw [undF_ir d _ (b - (i + (mw k q L i b).2)) (by omega) (by omega)]
theorem und_len {k : Int32} {q : Bool} {L : BL} {b : Nat} : ∀ d i, b - i ≤ d → (und k q L i b).length ≤ b - i ∧ (i < b → 0 < (und k q L i b).length) := by
  intro d
  induction d with
  | zero => intro i h; rw [und_end (by omega)]; exact ⟨Nat.zero_le _, fun _ => by omega⟩
  | succ d ih =>
    intro i h
    by_cases hi : i < b
    · rw [und_st hi]
      have h1 := mw_b (k := k) (q := q) (L := L) hi
      have h2 := ih (i + (mw k q L i b).2) (by omega)
      exact ⟨by rw [List.length_cons]; omega, fun _ => by rw [List.length_cons]; omega⟩
    · rw [und_end (by omega)]; exact ⟨Nat.zero_le _, fun _ => by omega⟩
end
/-! part 51a.row -/
section
/-! a row of the class holds a list of bytes -/
def isRw (f : AH) (j b c : Nat) (L : BL) : Prop := f j = some (.inr (5, [.ref b, .int (nI L.length)])) ∧ (∃ g, f b = some (.inl (0, c, .inl g)) ∧ ∀ i, i < L.length → g i = L.getD i 0) ∧ L.length ≤ c ∧ c ≤ 600
def bI (b : Bool) : Int32 := if b = true then 1 else 0
theorem bI_t : bI true = 1 := rfl
theorem bI_f : bI false = 0 := rfl
theorem bI_0 {b : Bool} : bI b = 0 ↔ b = false := by cases b <;> decide
theorem bI_01 {b : Bool} : bI b = 0 ∨ bI b = 1 := by cases b <;> decide
def sl (L : BL) (a b : Nat) : BL := (L.drop a).take (b - a)
theorem gd_app_l {L M : BL} {i : Nat} (h : i < L.length) : (L ++ M).getD i 0 = L.getD i 0 := by
  rw [List.getD_eq_getElem?_getD, List.getD_eq_getElem?_getD, List.getElem?_append_left h]
theorem gd_app_r {L M : BL} {i : Nat} (h : L.length ≤ i) : (L ++ M).getD i 0 = M.getD (i - L.length) 0 := by
  rw [List.getD_eq_getElem?_getD, List.getD_eq_getElem?_getD, List.getElem?_append_right h]
theorem gd_take {L : BL} {i m : Nat} (h : i < m) : (L.take m).getD i 0 = L.getD i 0 := by
  rw [List.getD_eq_getElem?_getD, List.getD_eq_getElem?_getD, List.getElem?_take_of_lt h]
theorem gd_drop {L : BL} {i m : Nat} : (L.drop m).getD i 0 = L.getD (m + i) 0 := by
  rw [List.getD_eq_getElem?_getD, List.getD_eq_getElem?_getD, List.getElem?_drop]
theorem gd_out {L : BL} {i : Nat} (h : L.length ≤ i) : L.getD i 0 = 0 := by
  rw [List.getD_eq_getElem?_getD, List.getElem?_eq_none h]; rfl
theorem dr_st {L : BL} {i : Nat} (h : i < L.length) : L.drop i = L.getD i 0 :: L.drop (i + 1) := by
  rw [List.drop_eq_getElem_cons h, List.getD_eq_getElem?_getD, List.getElem?_eq_getElem h]; rfl
theorem sl_len {L : BL} {a b : Nat} (h : b ≤ L.length) : (sl L a b).length = b - a := by
  unfold sl
  rw [List.length_take, List.length_drop]; omega
theorem sl_nil {L : BL} {a b : Nat} (h : b ≤ a) : sl L a b = [] := by
  unfold sl
  rw [show b - a = 0 by omega]; rfl
theorem sl_st {L : BL} {a b : Nat} (h : a < b) (hb : b ≤ L.length) : sl L a b = L.getD a 0 :: sl L (a + 1) b := by
  unfold sl
  rw [dr_st (by omega)]
  obtain ⟨d, hd⟩ : ∃ d, b - a = d + 1 := ⟨b - a - 1, by omega⟩
  rw [hd, show b - (a + 1) = d by omega]
  rfl
theorem sl_gd {L : BL} {a b i : Nat} (h : i < b - a) : (sl L a b).getD i 0 = L.getD (a + i) 0 := by
  unfold sl
  rw [gd_take h, gd_drop]
theorem sl_all {L : BL} : sl L 0 L.length = L := by
  unfold sl
  show (List.take (L.length - 0) L) = L
  rw [Nat.sub_zero, List.take_length]
theorem bl_ext {L M : BL} (h1 : L.length = M.length) (h2 : ∀ i, i < L.length → L.getD i 0 = M.getD i 0) : L = M := by
  refine List.ext_getElem h1 (fun i a b => ?_)
  have := h2 i a
  rw [List.getD_eq_getElem?_getD, List.getD_eq_getElem?_getD, List.getElem?_eq_getElem a, List.getElem?_eq_getElem b] at this
  exact this
section RWS
variable {β : Type} {Q : β → Prop} {f : AH} {j b c n : Nat} {L : BL}
theorem rw_jb (hr : isRw f j b c L) : j ≠ b := fun e => by
  obtain ⟨h1, ⟨g, h2, -⟩, -⟩ := hr
  rw [e, h2] at h1; cases h1
theorem rw_tr (hr : isRw f j b c L) {f' : AH} (h1 : f' j = f j) (h2 : f' b = f b) : isRw f' j b c L := by
  unfold isRw at hr ⊢
  rw [h1, h2]; exact hr
theorem rw_6 (hr : isRw f j b c L) : L.length ≤ 600 := Nat.le_trans hr.2.2.1 hr.2.2.2
theorem pq_rwB (hr : isRw f j b c L) {kk : Option Nat → Option β} (h : PQ (kk (some b)) Q) : PQ ((gR f j 5 0).bind kk) Q := pq_gR hr.1 rfl h
theorem pq_rwS (hr : isRw f j b c L) {kk : Int32 → Option β} (h : PQ (kk (nI L.length)) Q) : PQ ((gI f j 5 1).bind kk) Q := pq_gI hr.1 rfl h
theorem pq_rwL (hr : isRw f j b c L) {kk : Nat → Option β} (h : PQ (kk c) Q) : PQ ((gL f b).bind kk) Q := by
  obtain ⟨-, ⟨g, h2, -⟩, -⟩ := hr
  exact pq_gL h2 (by omega) h
theorem pq_rwA (hr : isRw f j b c L) {i : Nat} (hi : i < L.length) {kk : Int32 → Option β} (h : PQ (kk (L.getD i 0)) Q) : PQ ((gIA f b (nI i)).bind kk) Q := by
  have h6 := rw_6 hr
  obtain ⟨-, ⟨g, h2, h3⟩, -⟩ := hr
  refine pq_gIA h2 (fun _ => ?_)
  rw [nI_clamp (by omega), h3 i hi]; exact h
theorem f_size (hr : isRw f j b c L) : PQ (mX5_size j f n) (fun r => r = (nI L.length, f, n)) := by
  unfold mX5_size
  exact pq_rwS hr (pq_ret rfl)
theorem f_getN (hr : isRw f j b c L) {i : Nat} (hi : i < L.length) : PQ (mX5_get j (nI i) f n) (fun r => r = (L.getD i 0, f, n)) := by
  have h6 := rw_6 hr
  have hc := hr.2.2.1
  have hc6 := hr.2.2.2
  unfold mX5_get
  refine pq_f (nI_pos (by omega)) (pq_rwS hr ?_)
  refine pq_f (nI_ge (by omega) (by omega)) (pq_rwB hr (pq_sb (pq_rwL hr ?_)))
  refine pq_f (nI_ge (by omega) (by omega)) (pq_rwB hr (pq_sb (pq_rwA hr hi ?_)))
  exact pq_ret rfl
theorem f_getO (hr : isRw f j b c L) {x : Int32} (hx : x.toInt < 0 ∨ (L.length : Int) ≤ x.toInt) : PQ (mX5_get j x f n) (fun r => r = (-1, f, n)) := by
  have h6 := rw_6 hr
  unfold mX5_get
  refine pq_lt rfl kt_0 (fun _ => pq_ret rfl) (fun h0 => pq_rwS hr ?_)
  exact pq_le (nI_toInt (by omega)) rfl (fun _ => pq_ret rfl) (fun h => by omega)
/-- a byte of a list; none: -1 -/
def gt1 (L : BL) (x : Int32) : Int32 := if 0 ≤ x.toInt ∧ x.toInt < L.length then L.getD x.toInt.toNat 0 else -1
theorem f_get (hr : isRw f j b c L) {x : Int32} : PQ (mX5_get j x f n) (fun r => r = (gt1 L x, f, n)) := by
  have h6 := rw_6 hr
  unfold gt1
  by_cases h : 0 ≤ x.toInt ∧ x.toInt < L.length
  · rw [if_pos h]
    have e : x = nI x.toInt.toNat := Int32.toInt_inj.mp (by rw [nI_toInt (by omega)]; omega)
    have := f_getN (n := n) hr (i := x.toInt.toNat) (by omega)
    rw [← e] at this
    exact this
  · rw [if_neg h]
    exact f_getO hr (by omega)
theorem gt1_N {i : Nat} (h : i < L.length) (h6 : L.length ≤ 700) : gt1 L (nI i) = L.getD i 0 := by
  unfold gt1
  rw [nI_toInt (by omega), if_pos (by omega)]; rfl
theorem gt1_O {i : Nat} (h : L.length ≤ i) (h6 : i ≤ 2000) : gt1 L (nI i) = -1 := by
  unfold gt1
  rw [nI_toInt (by omega), if_neg (by omega)]
theorem f_add (hr : isRw f j b c L) {x : Int32} : PQ (mX5_add j x f n) (fun r => (L.length < c ∧ ∃ f', r = (1, f', n) ∧ isRw f' j b c (L ++ [x]) ∧ ∀ i, i ≠ j → i ≠ b → f' i = f i) ∨ (c ≤ L.length ∧ r = (0, f, n))) := by
  have h6 := rw_6 hr
  have hjb := rw_jb hr
  have hc6 := hr.2.2.2
  unfold mX5_add
  refine pq_rwS hr (pq_f (nI_pos (by omega)) (pq_rwS hr (pq_rwB hr (pq_sb (pq_rwL hr ?_)))))
  refine pq_lt (nI_toInt (by omega)) (nI_toInt (by omega)) (fun h => ?_) (fun h => ?_)
  · refine pq_rwB hr (pq_rwS hr (pq_sb ?_))
    obtain ⟨h1, ⟨g, h2, h3⟩, h4⟩ := hr
    refine pq_pIA h2 (fun _ => ?_)
    have h1' : va_up f b (some (.inl (0, c, .inl (upd g (nI L.length).toNatClampNeg x)))) j = some (.inr (5, [.ref b, .int (nI L.length)])) := (u_ne hjb).trans h1
    refine pq_gI h1' rfl (pq_pO h1' rfl (pq_ck (pq_ret (Or.inl ⟨by omega, _, rfl, ⟨?_, ⟨upd g (nI L.length).toNatClampNeg x, ?_, ?_⟩, ?_, h4.2⟩, ?_⟩))))
    · rw [u_eq, nI_1, List.length_append]; rfl
    · rw [u_ne (Ne.symm hjb), u_eq]
    · intro i hi
      rw [List.length_append] at hi
      rw [nI_clamp (by omega)]
      by_cases e : i = L.length
      · rw [e, gd_app_r (Nat.le_refl _), Nat.sub_self]
        show (if L.length = L.length then x else g L.length) = x
        rw [if_pos rfl]
      · have hi2 : i < L.length := by have : i < L.length + 1 := hi; omega
        rw [gd_app_l hi2]
        show (if i = L.length then x else g i) = _
        rw [if_neg e, h3 i hi2]
    · rw [List.length_append]; show L.length + 1 ≤ c; omega
    · intro i e1 e2
      rw [u_ne e1, u_ne e2]
  · exact pq_ck (pq_ret (Or.inr ⟨by omega, rfl⟩))
theorem f_cutTo (hr : isRw f j b c L) {m : Nat} (hm : m ≤ 2000) : PQ (mX5_cutTo j (nI m) f n) (fun r => ∃ f', r = (0, f', n) ∧ isRw f' j b c (L.take m) ∧ ∀ i, i ≠ j → f' i = f i) := by
  have h6 := rw_6 hr
  have hjb := rw_jb hr
  unfold mX5_cutTo
  refine pq_f (nI_pos (by omega)) (pq_rwS hr ?_)
  refine pq_le (nI_toInt (by omega)) (nI_toInt (by omega)) (fun h => ?_) (fun h => ?_)
  · exact pq_ret ⟨f, rfl, by rw [List.take_of_length_le (by omega)]; exact hr, fun _ _ => rfl⟩
  · obtain ⟨h1, ⟨g, h2, h3⟩, h4, h5⟩ := hr
    refine pq_pO h1 rfl (pq_ret ⟨_, rfl, ⟨?_, ⟨g, ?_, ?_⟩, ?_, h5⟩, fun i e => u_ne e⟩)
    · rw [u_eq, List.length_take, Nat.min_eq_left (by omega)]; rfl
    · rw [u_ne (Ne.symm hjb)]; exact h2
    · intro i hi
      rw [List.length_take] at hi
      rw [gd_take (by omega)]
      exact h3 i (by omega)
    · rw [List.length_take]; omega
theorem f_addPart_l {j1 b1 c1 : Nat} {M : BL} (hj : j1 ≠ j) (hb : b1 ≠ b) {e : Nat} (he : e ≤ M.length) : ∀ (d i : Nat) (f : AH) (L : BL), isRw f j b c L → isRw f j1 b1 c1 M → i ≤ e → PQ (mX5_addPart_l6 d j (some j1) (nI e) 1 (nI i) f n) (fun r => (L.length + (e - i) ≤ c ∧ ∃ f', r = (1, f', n) ∧ isRw f' j b c (L ++ sl M i e) ∧ ∀ i, i ≠ j → i ≠ b → f' i = f i) ∨ (c < L.length + (e - i) ∧ ∃ f' L', r = (0, f', n) ∧ isRw f' j b c L' ∧ ∀ i, i ≠ j → i ≠ b → f' i = f i)) := by
  intro d
  induction d with
  | zero => intro i f L _ _ _; exact pq_none
  | succ d ih =>
    intro i f L hr hm hi
    have h6 := rw_6 hm
    unfold mX5_addPart_l6
    refine pq_le (nI_toInt (by omega)) (nI_toInt (by omega)) (fun h => ?_) (fun h => ?_)
    · refine pq_ck (pq_ret (Or.inl ⟨?_, f, rfl, ?_, fun _ _ _ => rfl⟩))
      · have := hr.2.2.1; omega
      · rw [sl_nil (by omega), List.append_nil]; exact hr
    · refine pq_f (by decide) (pq_sb (pq_ck (pq_is (f_getN hm (by omega)) (pq_ck ?_))))
      refine pq_call (f_add hr) (fun r hq => ?_)
      rcases hq with ⟨hl, f', rfl, hr', hF⟩ | ⟨hl, rfl⟩
      · show PQ (mX5_addPart_l6 d j (some j1) (nI e) 1 (nI i + 1) f' n) _
        rw [nI_1]
        have hm' : isRw f' j1 b1 c1 M := by
          have hb1 : b1 ≠ j := fun q => by
            obtain ⟨-, ⟨g, h2, -⟩, -⟩ := hm
            have h1 := hr.1
            rw [q, h1] at h2; cases h2
          have hj1 : j1 ≠ b := fun q => by
            obtain ⟨-, ⟨g, h2, -⟩, -⟩ := hr
            have h1 := hm.1
            rw [q, h2] at h1; cases h1
          exact rw_tr hm (hF _ hj hj1) (hF _ hb1 hb)
        refine pq_tail (ih (i + 1) f' (L ++ [M.getD i 0]) hr' hm' (by omega)) (fun r hq => ?_)
        rw [List.length_append] at hq
        have e1 : L.length + [M.getD i 0].length + (e - (i + 1)) = L.length + (e - i) := by show L.length + 1 + (e - (i + 1)) = _; omega
        rw [e1] at hq
        rcases hq with ⟨a, f2, rfl, a2, a3⟩ | ⟨a, f2, L2, rfl, a2, a3⟩
        · refine Or.inl ⟨a, f2, rfl, ?_, fun x y z => (a3 x y z).trans (hF x y z)⟩
          rw [sl_st (by omega) he]
          rw [List.append_assoc] at a2
          exact a2
        · exact Or.inr ⟨a, f2, L2, rfl, a2, fun x y z => (a3 x y z).trans (hF x y z)⟩
      · show PQ (mX5_addPart_l6 d j (some j1) (nI e) 0 (nI i + 1) f n) _
        cases d with
        | zero => exact pq_none
        | succ d =>
          unfold mX5_addPart_l6
          rw [nI_1]
          have fin : PQ (mX5_addPart_b35 0 f n) (fun r => (L.length + (e - i) ≤ c ∧ ∃ f', r = (1, f', n) ∧ isRw f' j b c (L ++ sl M i e) ∧ ∀ i, i ≠ j → i ≠ b → f' i = f i) ∨ (c < L.length + (e - i) ∧ ∃ f' L', r = (0, f', n) ∧ isRw f' j b c L' ∧ ∀ i, i ≠ j → i ≠ b → f' i = f i)) := pq_ck (pq_ret (Or.inr ⟨by omega, f, L, rfl, hr, fun _ _ _ => rfl⟩))
          exact pq_le (nI_toInt (by omega)) (nI_toInt (by omega)) (fun _ => fin) (fun _ => pq_t rfl fin)
theorem f_addPart {j1 b1 c1 : Nat} {M : BL} (hj : j1 ≠ j) (hb : b1 ≠ b) {i e : Nat} (he : e ≤ M.length) (hi : i ≤ e) (hr : isRw f j b c L) (hm : isRw f j1 b1 c1 M) : PQ (mX5_addPart j (some j1) (nI i) (nI e) f n) (fun r => (L.length + (e - i) ≤ c ∧ ∃ f', r = (1, f', n) ∧ isRw f' j b c (L ++ sl M i e) ∧ ∀ i, i ≠ j → i ≠ b → f' i = f i) ∨ (c < L.length + (e - i) ∧ ∃ f' L', r = (0, f', n) ∧ isRw f' j b c L' ∧ ∀ i, i ≠ j → i ≠ b → f' i = f i)) := by
  unfold mX5_addPart
  exact f_addPart_l hj hb he rFU i f L hr hm hi
theorem f_init {B k : Nat} (hk : k ≤ 600) (hf : f j = some (.inr (5, [.null, .int 0]))) (hj : j ≠ n) : PQ (mX5_init B j (nI k) f n) (fun r => ∃ f', r = (0, f', n + 1) ∧ isRw f' j n k [] ∧ ∀ i, i ≠ j → i ≠ n → f' i = f i) := by
  have key : ∀ x : Int32, x.toNatClampNeg = k → PQ (mX5_init_b14 B j x f n) (fun r => ∃ f', r = (0, f', n + 1) ∧ isRw f' j n k [] ∧ ∀ i, i ≠ j → i ≠ n → f' i = f i) := by
    intro x hx
    unfold mX5_init_b14
    rw [hx]
    have h1 : va_up f n (some (.inl (0, k, .inl (fun _ => 0)))) j = some (.inr (5, [.null, .int 0])) := (u_ne hj).trans hf
    refine pq_ck (pq_pO h1 rfl (pq_ret ⟨_, rfl, ⟨?_, ⟨fun _ => 0, ?_, fun i hi => absurd hi (Nat.not_lt_zero _)⟩, Nat.zero_le _, hk⟩, ?_⟩))
    · rw [u_eq]; rfl
    · rw [u_ne (Ne.symm hj), u_eq]
    · intro i e1 e2
      rw [u_ne e1, u_ne e2]
  unfold mX5_init
  refine pq_le (nI_toInt (by omega)) kt_0 (fun h => ?_) (fun h => ?_)
  · have h0 : k = 0 := by omega
    exact key 0 (by rw [h0]; rfl)
  · exact key (nI k) (nI_clamp (by omega))
theorem f_part {B i k : Nat} (hr : isRw f j b c L) (hik : i + k ≤ L.length) (hj : j < n) (hb : b < n) : PQ (mX5_part B j (nI i) (nI k) f n) (fun r => ∃ f', r = (some n, f', n + 2) ∧ isRw f' n (n + 1) k (sl L i (i + k)) ∧ ∀ i, i < n → f' i = f i) := by
  have h6 := rw_6 hr
  unfold mX5_part
  refine pq_call (f_init (B := B) (k := k) (j := n) (n := n + 1) (by omega) u_eq (by omega)) (fun r hq => ?_)
  obtain ⟨f1, rfl, hn, hF⟩ := hq
  refine pq_ck ?_
  have hF2 : ∀ i, i < n → f1 i = f i := fun i hi => (hF i (by omega) (by omega)).trans (u_ne (by omega))
  have hr1 : isRw f1 j b c L := rw_tr hr (hF2 j hj) (hF2 b hb)
  show PQ ((mX5_addPart n (some j) (nI i) (nI i + nI k) f1 (n + 1 + 1)).bind fun r4 => some ((some n), (r4.2.1, r4.2.2))) _
  rw [nI_add]
  refine pq_call (f_addPart (j := n) (b := n + 1) (by omega) (by omega) hik (by omega) hn hr1) (fun r hq => ?_)
  rcases hq with ⟨a, f2, rfl, a2, a3⟩ | ⟨a, -⟩
  · exact pq_ret ⟨f2, rfl, a2, fun x hx => (a3 x (by omega) (by omega)).trans (hF2 x hx)⟩
  · have : k < ([] : BL).length + (i + k - i) := a
    have e : ([] : BL).length = 0 := rfl
    omega
end RWS
end
/-! part 51b.loop -/
section
def isLet (c : Int32) : Bool := decide ((97 ≤ c.toInt ∧ c.toInt ≤ 122) ∨ (65 ≤ c.toInt ∧ c.toInt ≤ 90))
def low (c : Int32) : Int32 := if 65 ≤ c.toInt ∧ c.toInt ≤ 90 then c + 32 else c
def bSg (c : Int32) : Bool := decide (c = 44) || decide (c = 34) || decide (c = 10)
def sg (t : BL) : Bool := t.any bSg
/-- so many bytes are the same -/
def smF (L : BL) (a : Nat) (M : BL) (b : Nat) : Nat → Bool
  | 0 => true
  | n + 1 => decide (L.getD a 0 = M.getD b 0) && smF L (a + 1) M (b + 1) n
section RW2
variable {f : AH} {j b c n : Nat} {L : BL}
theorem f_next_l {s : Int32} (hr : isRw f j b c L) {e : Nat} (he : e ≤ L.length) : ∀ d i, i ≤ e → PQ (mX5_next_l3 d j s (nI e) (nI i) f n) (fun r => r = (nI (nx (bEq s) L i e), f, n)) := by
  have h6 := rw_6 hr
  have hc := hr.2.2.1
  have hc6 := hr.2.2.2
  intro d
  induction d with
  | zero => intro i _; exact pq_none
  | succ d ih =>
    intro i hi
    unfold mX5_next_l3
    refine pq_f (nI_pos (by omega)) ?_
    refine pq_le (nI_toInt (by omega)) (nI_toInt (by omega)) (fun h => ?_) (fun h => ?_)
    · refine pq_ret ?_
      rw [nx_end (by omega), show i = e by omega]
    · refine pq_rwB hr (pq_sb (pq_rwL hr (pq_f (nI_ge (by omega) (by omega)) (pq_rwB hr (pq_sb (pq_rwA hr (by omega) ?_))))))
      refine pq_eq (fun q => ?_) (fun q => ?_)
      · exact pq_ret (by rw [nx_hit (by omega) (decide_eq_true q)])
      · rw [nI_1, nx_go (by omega) (decide_eq_false q)]
        exact ih (i + 1) (by omega)
theorem f_next {s : Int32} (hr : isRw f j b c L) {i e : Nat} (hi : i ≤ e) (he : e ≤ L.length) : PQ (mX5_next j s (nI i) (nI e) f n) (fun r => r = (nI (nx (bEq s) L i e), f, n)) := f_next_l hr he rFU i hi
theorem f_blanks_l (hr : isRw f j b c L) {e : Nat} (he : e ≤ L.length) : ∀ d i, i ≤ e → PQ (mX5_behindBlanks_l2 d j (nI e) (nI i) f n) (fun r => r = (nI (nx (bNe 32) L i e), f, n)) := by
  have h6 := rw_6 hr
  have hc := hr.2.2.1
  have hc6 := hr.2.2.2
  intro d
  induction d with
  | zero => intro i _; exact pq_none
  | succ d ih =>
    intro i hi
    unfold mX5_behindBlanks_l2
    refine pq_f (nI_pos (by omega)) ?_
    refine pq_le (nI_toInt (by omega)) (nI_toInt (by omega)) (fun h => ?_) (fun h => ?_)
    · refine pq_ret ?_
      rw [nx_end (by omega), show i = e by omega]
    · refine pq_rwB hr (pq_sb (pq_rwL hr (pq_f (nI_ge (by omega) (by omega)) (pq_rwB hr (pq_sb (pq_rwA hr (by omega) ?_))))))
      refine pq_eq (fun q => ?_) (fun q => ?_)
      · rw [nI_1, nx_go (by omega) (by unfold bNe; rw [decide_eq_true q]; rfl)]
        exact ih (i + 1) (by omega)
      · exact pq_ret (by rw [nx_hit (by omega) (by unfold bNe; rw [decide_eq_false q]; rfl)])
theorem f_blanks (hr : isRw f j b c L) {i e : Nat} (hi : i ≤ e) (he : e ≤ L.length) : PQ (mX5_behindBlanks j (nI i) (nI e) f n) (fun r => r = (nI (nx (bNe 32) L i e), f, n)) := f_blanks_l hr he rFU i hi
theorem f_blanksO (hr : isRw f j b c L) {i e : Nat} (hi : e ≤ i) (h2 : i ≤ 2000) : PQ (mX5_behindBlanks j (nI i) (nI e) f n) (fun r => r = (nI e, f, n)) := by
  unfold mX5_behindBlanks
  show PQ (mX5_behindBlanks_l2 (39999 + 1) j (nI e) (nI i) f n) _
  unfold mX5_behindBlanks_l2
  refine pq_f (nI_pos (by omega)) ?_
  exact pq_t (nI_le hi (by omega)) (pq_ret rfl)
theorem f_space_l (hr : isRw f j b c L) {e : Nat} (he : e ≤ L.length) : ∀ d i, i ≤ e → PQ (mX5_behindSpace_l2 d j (nI e) (nI i) f n) (fun r => r = (nI (nx bNb L i e), f, n)) := by
  have h6 := rw_6 hr
  have hc := hr.2.2.1
  have hc6 := hr.2.2.2
  intro d
  induction d with
  | zero => intro i _; exact pq_none
  | succ d ih =>
    intro i hi
    unfold mX5_behindSpace_l2
    refine pq_f (nI_pos (by omega)) ?_
    refine pq_le (nI_toInt (by omega)) (nI_toInt (by omega)) (fun h => ?_) (fun h => ?_)
    · refine pq_ret ?_
      rw [nx_end (by omega), show i = e by omega]
    · refine pq_rwB hr (pq_sb (pq_rwL hr (pq_f (nI_ge (by omega) (by omega)) (pq_rwB hr (pq_sb (pq_rwA hr (by omega) ?_))))))
      refine pq_eq (fun q => ?_) (fun q => ?_)
      · unfold mX5_behindSpace_b44
        rw [nI_1, nx_go (by omega) (by unfold bNb; rw [decide_eq_true q]; rfl)]
        exact ih (i + 1) (by omega)
      · refine pq_rwB hr (pq_sb (pq_rwA hr (by omega) ?_))
        refine pq_eq (fun q2 => ?_) (fun q2 => ?_)
        · unfold mX5_behindSpace_b44
          rw [nI_1, nx_go (by omega) (by unfold bNb; rw [decide_eq_true q2, decide_eq_false q]; rfl)]
          exact ih (i + 1) (by omega)
        · exact pq_ret (by rw [nx_hit (by omega) (by unfold bNb; rw [decide_eq_false q2, decide_eq_false q]; rfl)])
theorem f_space (hr : isRw f j b c L) {i e : Nat} (hi : i ≤ e) (he : e ≤ L.length) : PQ (mX5_behindSpace j (nI i) (nI e) f n) (fun r => r = (nI (nx bNb L i e), f, n)) := f_space_l hr he rFU i hi
theorem f_spaceO (hr : isRw f j b c L) {i e : Nat} (hi : e ≤ i) (h2 : i ≤ 2000) : PQ (mX5_behindSpace j (nI i) (nI e) f n) (fun r => r = (nI e, f, n)) := by
  unfold mX5_behindSpace
  show PQ (mX5_behindSpace_l2 (39999 + 1) j (nI e) (nI i) f n) _
  unfold mX5_behindSpace_l2
  refine pq_f (nI_pos (by omega)) ?_
  exact pq_t (nI_le hi (by omega)) (pq_ret rfl)
theorem f_cellEnd_l (hr : isRw f j b c L) : ∀ d i, i ≤ L.length → PQ (mX5_cellEnd_l2 d j (nI i) f n) (fun r => r = (nI (nx bSep L i L.length), f, n)) := by
  have h6 := rw_6 hr
  have hc := hr.2.2.1
  have hc6 := hr.2.2.2
  intro d
  induction d with
  | zero => intro i _; exact pq_none
  | succ d ih =>
    intro i hi
    unfold mX5_cellEnd_l2
    refine pq_f (nI_pos (by omega)) (pq_rwS hr ?_)
    refine pq_le (nI_toInt (by omega)) (nI_toInt (by omega)) (fun h => ?_) (fun h => ?_)
    · unfold mX5_cellEnd_b53
      refine pq_rwS hr (pq_ret ?_)
      rw [nx_end (by omega), show i = L.length by omega]
    · refine pq_rwB hr (pq_sb (pq_rwL hr (pq_f (nI_ge (by omega) (by omega)) (pq_rwB hr (pq_sb (pq_rwA hr (by omega) ?_))))))
      refine pq_eq (fun q => ?_) (fun q => ?_)
      · exact pq_ret (by rw [nx_hit (by omega) (by unfold bSep; rw [decide_eq_true q]; rfl)])
      · refine pq_rwB hr (pq_sb (pq_rwA hr (by omega) ?_))
        refine pq_eq (fun q2 => ?_) (fun q2 => ?_)
        · exact pq_ret (by rw [nx_hit (by omega) (by unfold bSep; rw [decide_eq_true q2, Bool.or_true])])
        · rw [nI_1, nx_go (by omega) (by unfold bSep; rw [decide_eq_false q2, decide_eq_false q]; rfl)]
          exact ih (i + 1) (by omega)
theorem f_cellEnd (hr : isRw f j b c L) {i : Nat} (hi : i ≤ L.length) : PQ (mX5_cellEnd j (nI i) f n) (fun r => r = (nI (nx bSep L i L.length), f, n)) := f_cellEnd_l hr rFU i hi
theorem f_cellEndO (hr : isRw f j b c L) {i : Nat} (hi : L.length ≤ i) (h2 : i ≤ 2000) : PQ (mX5_cellEnd j (nI i) f n) (fun r => r = (nI L.length, f, n)) := by
  have h6 := rw_6 hr
  unfold mX5_cellEnd
  show PQ (mX5_cellEnd_l2 (39999 + 1) j (nI i) f n) _
  unfold mX5_cellEnd_l2
  refine pq_f (nI_pos (by omega)) (pq_rwS hr ?_)
  refine pq_t (nI_le hi (by omega)) ?_
  unfold mX5_cellEnd_b53
  exact pq_rwS hr (pq_ret rfl)
theorem f_cqe_l (hr : isRw f j b c L) : ∀ d i, i ≤ L.length → PQ (mX5_cellQuoteEnd_l4 d j 0 (nI i) f n) (fun r => r = (nI (qe L i), f, n)) ∧ (0 < i → L.getD (i - 1) 0 = 34 → PQ (mX5_cellQuoteEnd_l4 d j 1 (nI i) f n) (fun r => r = (nI (qe L (i - 1)), f, n))) := by
  have h6 := rw_6 hr
  have hc := hr.2.2.1
  have hc6 := hr.2.2.2
  intro d
  induction d with
  | zero => intro i _; exact ⟨pq_none, fun _ _ => pq_none⟩
  | succ d ih =>
    intro i hi
    refine ⟨?_, fun h0 h34 => ?_⟩
    · unfold mX5_cellQuoteEnd_l4
      refine pq_f (nI_pos (by omega)) (pq_rwS hr ?_)
      refine pq_le (nI_toInt (by omega)) (nI_toInt (by omega)) (fun h => ?_) (fun h => ?_)
      · unfold mX5_cellQuoteEnd_b63
        refine pq_t rfl (pq_rwS hr (pq_ret ?_))
        rw [qe_end (by omega), show i = L.length by omega]
      · refine pq_rwB hr (pq_sb (pq_rwL hr (pq_f (nI_ge (by omega) (by omega)) (pq_rwB hr (pq_sb (pq_rwA hr (by omega) ?_))))))
        refine pq_eq (fun q => ?_) (fun q => ?_)
        · refine pq_t rfl ?_
          unfold mX5_cellQuoteEnd_b45 mX5_cellQuoteEnd_b57
          rw [nI_1]
          exact (ih (i + 1) (by omega)).2 (by omega) q
        · refine pq_t rfl ?_
          unfold mX5_cellQuoteEnd_b57
          rw [nI_1, qe_st (by omega), if_neg q]
          exact (ih (i + 1) (by omega)).1
    · have hst : qe L (i - 1) = if i < L.length ∧ L.getD i 0 = 34 then qe L (i + 1) else i - 1 := by
        rw [qe_st (by omega), if_pos h34, show i - 1 + 1 = i by omega, show i - 1 + 2 = i + 1 by omega]
      unfold mX5_cellQuoteEnd_l4
      refine pq_f (nI_pos (by omega)) (pq_rwS hr ?_)
      refine pq_le (nI_toInt (by omega)) (nI_toInt (by omega)) (fun h => ?_) (fun h => ?_)
      · unfold mX5_cellQuoteEnd_b63
        refine pq_f (by decide) (pq_rwS hr (pq_ret ?_))
        rw [hst, if_neg (by omega), show i = L.length by omega]
        obtain ⟨k, hk⟩ : ∃ k, L.length = k + 1 := ⟨L.length - 1, by omega⟩
        rw [hk, nI_pred]; rfl
      · refine pq_rwB hr (pq_sb (pq_rwL hr (pq_f (nI_ge (by omega) (by omega)) (pq_rwB hr (pq_sb (pq_rwA hr (by omega) ?_))))))
        refine pq_eq (fun q => ?_) (fun q => ?_)
        · refine pq_f (by decide) ?_
          unfold mX5_cellQuoteEnd_b45 mX5_cellQuoteEnd_b57
          rw [nI_1, hst, if_pos ⟨by omega, q⟩]
          exact (ih (i + 1) (by omega)).1
        · refine pq_f (by decide) (pq_ret ?_)
          rw [hst, if_neg (fun x => q x.2)]
          obtain ⟨k, hk⟩ : ∃ k, i = k + 1 := ⟨i - 1, by omega⟩
          rw [hk, nI_pred]; rfl
theorem f_cqe (hr : isRw f j b c L) {i : Nat} (hi : i ≤ L.length) : PQ (mX5_cellQuoteEnd j (nI i) f n) (fun r => r = (nI (qe L i), f, n)) := (f_cqe_l hr rFU i hi).1
theorem f_qq_l (hr : isRw f j b c L) : ∀ d i, i ≤ L.length → PQ (mX5_quoteEnd_l4 d j 0 (nI i) f n) (fun r => r = (nI (qq L i), f, n)) ∧ PQ (mX5_quoteEnd_l4 d j 1 (nI i) f n) (fun r => r = (nI (if i < L.length then qq L (i + 1) else L.length), f, n)) := by
  have h6 := rw_6 hr
  have hc := hr.2.2.1
  have hc6 := hr.2.2.2
  intro d
  induction d with
  | zero => intro i _; exact ⟨pq_none, pq_none⟩
  | succ d ih =>
    intro i hi
    refine ⟨?_, ?_⟩
    · unfold mX5_quoteEnd_l4
      refine pq_f (nI_pos (by omega)) (pq_rwS hr ?_)
      refine pq_le (nI_toInt (by omega)) (nI_toInt (by omega)) (fun h => ?_) (fun h => ?_)
      · unfold mX5_quoteEnd_b69
        refine pq_rwS hr (pq_ret ?_)
        rw [qq_end (by omega), show i = L.length by omega]
      · refine pq_rwB hr (pq_sb (pq_rwL hr (pq_f (nI_ge (by omega) (by omega)) (pq_rwB hr (pq_sb (pq_rwA hr (by omega) ?_))))))
        refine pq_eq (fun q => ?_) (fun q => ?_)
        · exact pq_t rfl (pq_ret (by rw [qq_st (by omega), if_pos q]))
        · unfold mX5_quoteEnd_b42
          refine pq_rwB hr (pq_sb (pq_rwA hr (by omega) ?_))
          refine pq_eq (fun q2 => ?_) (fun q2 => ?_)
          · refine pq_t rfl ?_
            unfold mX5_quoteEnd_b62
            rw [nI_1]
            refine pq_tail (ih (i + 1) (by omega)).2 (fun r e => ?_)
            rw [e, qq_st (k := i) (by omega), if_neg q]
            by_cases hl : i + 1 < L.length
            · rw [if_pos hl, if_pos ⟨q2, hl⟩]
            · rw [if_neg hl, if_neg (fun x => hl x.2), qq_end (by omega), show i + 1 = L.length by omega]
          · unfold mX5_quoteEnd_b61 mX5_quoteEnd_b62
            rw [nI_1, qq_st (k := i) (by omega), if_neg q, if_neg (fun x => q2 x.1)]
            exact (ih (i + 1) (by omega)).1
    · unfold mX5_quoteEnd_l4
      refine pq_f (nI_pos (by omega)) (pq_rwS hr ?_)
      refine pq_le (nI_toInt (by omega)) (nI_toInt (by omega)) (fun h => ?_) (fun h => ?_)
      · unfold mX5_quoteEnd_b69
        refine pq_rwS hr (pq_ret ?_)
        rw [if_neg (by omega)]
      · refine pq_rwB hr (pq_sb (pq_rwL hr (pq_f (nI_ge (by omega) (by omega)) (pq_rwB hr (pq_sb (pq_rwA hr (by omega) ?_))))))
        have fin : PQ (mX5_quoteEnd_b42 (fun v0 v2 v3 f n => mX5_quoteEnd_l4 d v0 v2 v3 f n) j 1 (nI i) f n) (fun r => r = (nI (if i < L.length then qq L (i + 1) else L.length), f, n)) := by
          unfold mX5_quoteEnd_b42
          refine pq_rwB hr (pq_sb (pq_rwA hr (by omega) ?_))
          rw [if_pos (show i < L.length by omega)]
          refine pq_eq (fun q2 => ?_) (fun q2 => ?_)
          · refine pq_f (by decide) ?_
            unfold mX5_quoteEnd_b61 mX5_quoteEnd_b62
            rw [nI_1]
            exact (ih (i + 1) (by omega)).1
          · unfold mX5_quoteEnd_b61 mX5_quoteEnd_b62
            rw [nI_1]
            exact (ih (i + 1) (by omega)).1
        exact pq_eq (fun q => pq_f (by decide) fin) (fun q => fin)
theorem f_qq (hr : isRw f j b c L) {i : Nat} (hi : i ≤ L.length) : PQ (mX5_quoteEnd j (nI i) f n) (fun r => r = (nI (qq L i), f, n)) := (f_qq_l hr rFU i hi).1
theorem f_qqO (hr : isRw f j b c L) {i : Nat} (hi : L.length ≤ i) (h2 : i ≤ 2000) : PQ (mX5_quoteEnd j (nI i) f n) (fun r => r = (nI L.length, f, n)) := by
  have h6 := rw_6 hr
  unfold mX5_quoteEnd
  show PQ (mX5_quoteEnd_l4 (39999 + 1) j 0 (nI i) f n) _
  unfold mX5_quoteEnd_l4
  refine pq_f (nI_pos (by omega)) (pq_rwS hr ?_)
  refine pq_t (nI_le hi (by omega)) ?_
  unfold mX5_quoteEnd_b69
  exact pq_rwS hr (pq_ret rfl)
theorem f_same_l {j1 b1 c1 : Nat} {M : BL} (hr : isRw f j b c L) (hm : isRw f j1 b1 c1 M) {a a1 k : Nat} (ha : a + k ≤ L.length) (ha1 : a1 + k ≤ M.length) : ∀ d i, i ≤ k → PQ (mX5_isSame_l3 d j (nI a) (some j1) (nI a1) (nI k) (nI i) f n) (fun r => r = (bI (smF L (a + i) M (a1 + i) (k - i)), f, n)) := by
  have h6 := rw_6 hr
  have h61 := rw_6 hm
  intro d
  induction d with
  | zero => intro i _; exact pq_none
  | succ d ih =>
    intro i hi
    unfold mX5_isSame_l3
    refine pq_le (nI_toInt (by omega)) (nI_toInt (by omega)) (fun h => ?_) (fun h => ?_)
    · refine pq_ck (pq_ret ?_)
      rw [show k - i = 0 by omega]; rfl
    · refine pq_ck ?_
      rw [nI_add]
      refine pq_is (f_getN hr (by omega)) (pq_sb (pq_ck ?_))
      rw [nI_add]
      refine pq_is (f_getN hm (by omega)) ?_
      obtain ⟨w, hw⟩ : ∃ w, k - i = w + 1 := ⟨k - i - 1, by omega⟩
      refine pq_eq (fun q => ?_) (fun q => ?_)
      · rw [nI_1]
        refine pq_tail (ih (i + 1) (by omega)) (fun r e => ?_)
        rw [e, hw, show k - (i + 1) = w by omega]
        show _ = (bI (decide (L.getD (a + i) 0 = M.getD (a1 + i) 0) && smF L (a + i + 1) M (a1 + i + 1) w), f, n)
        rw [decide_eq_true q]; rfl
      · refine pq_ck (pq_ret ?_)
        rw [hw]
        show _ = (bI (decide (L.getD (a + i) 0 = M.getD (a1 + i) 0) && smF L (a + i + 1) M (a1 + i + 1) w), f, n)
        rw [decide_eq_false q]; rfl
theorem f_same {j1 b1 c1 : Nat} {M : BL} (hr : isRw f j b c L) (hm : isRw f j1 b1 c1 M) {a a1 k : Nat} (ha : a + k ≤ L.length) (ha1 : a1 + k ≤ M.length) : PQ (mX5_isSame j (nI a) (some j1) (nI a1) (nI k) f n) (fun r => r = (bI (smF L a M a1 k), f, n)) := by
  unfold mX5_isSame
  exact f_same_l hr hm ha ha1 rFU 0 (by omega)
theorem f_isLetter {x : Int32} : PQ (mX8_isLetter x f n) (fun r => r = (bI (isLet x), f, n)) := by
  unfold mX8_isLetter isLet
  have yes : ((97 ≤ x.toInt ∧ x.toInt ≤ 122) ∨ (65 ≤ x.toInt ∧ x.toInt ≤ 90)) → PQ (mX8_isLetter_b24 f n) (fun r => r = (bI (decide ((97 ≤ x.toInt ∧ x.toInt ≤ 122) ∨ (65 ≤ x.toInt ∧ x.toInt ≤ 90))), f, n)) := fun h => by
    unfold mX8_isLetter_b24 mX8_isLetter_b29
    exact pq_ck (pq_ret (by rw [decide_eq_true h]; rfl))
  have no : ¬ ((97 ≤ x.toInt ∧ x.toInt ≤ 122) ∨ (65 ≤ x.toInt ∧ x.toInt ≤ 90)) → PQ (mX8_isLetter_b28 f n) (fun r => r = (bI (decide ((97 ≤ x.toInt ∧ x.toInt ≤ 122) ∨ (65 ≤ x.toInt ∧ x.toInt ≤ 90))), f, n)) := fun h => by
    unfold mX8_isLetter_b28 mX8_isLetter_b29
    exact pq_ck (pq_ret (by rw [decide_eq_false h]; rfl))
  have b12 : ¬ (97 ≤ x.toInt ∧ x.toInt ≤ 122) → PQ (mX8_isLetter_b12 x f n) (fun r => r = (bI (decide ((97 ≤ x.toInt ∧ x.toInt ≤ 122) ∨ (65 ≤ x.toInt ∧ x.toInt ≤ 90))), f, n)) := fun h => by
    unfold mX8_isLetter_b12
    refine pq_lt rfl kt_65 (fun q => no (by omega)) (fun q => ?_)
    exact pq_lt kt_90 rfl (fun q2 => no (by omega)) (fun q2 => yes (by omega))
  refine pq_lt rfl kt_97 (fun q => b12 (by omega)) (fun q => ?_)
  exact pq_le rfl kt_122 (fun q2 => yes (by omega)) (fun q2 => b12 (by omega))
theorem f_small {x : Int32} : PQ (mX8_smallLetter x f n) (fun r => r = (low x, f, n)) := by
  unfold mX8_smallLetter low
  refine pq_lt rfl kt_65 (fun q => pq_ret (by rw [if_neg (by omega)])) (fun q => ?_)
  exact pq_lt kt_90 rfl (fun q2 => pq_ret (by rw [if_neg (by omega)])) (fun q2 => pq_ret (by rw [if_pos (by omega)]))
theorem f_hasLetter_l (hr : isRw f j b c L) : ∀ d i, i ≤ L.length → PQ (mX5_hasLetter_l2 d j (nI i) f n) (fun r => r = (bI ((L.drop i).any isLet), f, n)) := by
  have h6 := rw_6 hr
  intro d
  induction d with
  | zero => intro i _; exact pq_none
  | succ d ih =>
    intro i hi
    unfold mX5_hasLetter_l2
    refine pq_rwS hr ?_
    refine pq_le (nI_toInt (by omega)) (nI_toInt (by omega)) (fun h => ?_) (fun h => ?_)
    · refine pq_ck (pq_ret ?_)
      rw [List.drop_of_length_le (by omega)]; rfl
    · refine pq_ck (pq_is (f_getN hr (by omega)) (pq_is f_isLetter ?_))
      rw [dr_st (show i < L.length by omega), List.any_cons]
      refine pq_eq (fun q => ?_) (fun q => ?_)
      · rw [nI_1, bI_0.mp q, Bool.false_or]
        exact ih (i + 1) (by omega)
      · refine pq_ck (pq_ret ?_)
        cases e : isLet (L.getD i 0) with
        | true => rfl
        | false => exact absurd (by show bI (isLet (L.getD i 0)) = 0; rw [e]; rfl) q
theorem f_hasLetter (hr : isRw f j b c L) {i : Nat} (hi : i ≤ L.length) : PQ (mX5_hasLetter j (nI i) f n) (fun r => r = (bI ((L.drop i).any isLet), f, n)) := f_hasLetter_l hr rFU i hi
theorem f_breaks_l (hr : isRw f j b c L) : ∀ d i, i ≤ L.length → PQ (mX5_breaksCell_l2 d j (nI i) f n) (fun r => r = (bI ((L.drop i).any bSg), f, n)) := by
  have h6 := rw_6 hr
  have hc := hr.2.2.1
  have hc6 := hr.2.2.2
  intro d
  induction d with
  | zero => intro i _; exact pq_none
  | succ d ih =>
    intro i hi
    unfold mX5_breaksCell_l2
    refine pq_rwS hr ?_
    refine pq_le (nI_toInt (by omega)) (nI_toInt (by omega)) (fun h => ?_) (fun h => ?_)
    · refine pq_ck (pq_ret ?_)
      rw [List.drop_of_length_le (by omega)]; rfl
    · rw [dr_st (show i < L.length by omega), List.any_cons]
      have yes : bSg (L.getD i 0) = true → PQ (mX5_breaksCell_b52 f n) (fun r => r = (bI (bSg (L.getD i 0) || (L.drop (i + 1)).any bSg), f, n)) := fun h => pq_ck (pq_ret (by rw [h]; rfl))
      refine pq_rwB hr (pq_sb (pq_rwL hr (pq_f (nI_ge (by omega) (by omega)) (pq_rwB hr (pq_sb (pq_rwA hr (by omega) ?_))))))
      refine pq_eq (fun q => yes (by unfold bSg; rw [decide_eq_true q]; rfl)) (fun q => ?_)
      refine pq_rwB hr (pq_sb (pq_rwA hr (by omega) ?_))
      refine pq_eq (fun q2 => yes (by unfold bSg; rw [decide_eq_true q2, Bool.or_true]; rfl)) (fun q2 => ?_)
      refine pq_rwB hr (pq_sb (pq_rwA hr (by omega) ?_))
      refine pq_eq (fun q3 => yes (by unfold bSg; rw [decide_eq_true q3, Bool.or_true])) (fun q3 => ?_)
      have e : bSg (L.getD i 0) = false := by unfold bSg; rw [decide_eq_false q, decide_eq_false q2, decide_eq_false q3]; rfl
      rw [nI_1, e, Bool.false_or]
      exact ih (i + 1) (by omega)
theorem f_breaks (hr : isRw f j b c L) : PQ (mX5_breaksCell j f n) (fun r => r = (bI (sg L), f, n)) := f_breaks_l hr rFU 0 (by omega)
end RW2
end
/-! part 52a.scan -/
section
/-! a scan of the class goes along a row -/
abbrev scL (r : Nat) (b e q kb ks m w k p : Int32) : List Value := [.ref r, .int b, .int e, .int q, .int kb, .int ks, .int m, .int w, .int k, .int p]
abbrev scE (r : Nat) (b e q kb ks m w k p : Int32) : Option AE := some (.inr (6, scL r b e q kb ks m w k p))
def SI (k q kb ks : Int32) : Prop := (k ≠ 1 → q = 0) ∧ (k ≠ 0 → kb = 0 ∧ ks = 0)
def SO (o : Option CI) (b e q kb ks : Int32) : Prop := match o with
  | none => e.toInt ≤ b.toInt
  | some c => b = nI c.1 ∧ e = nI c.2.1 ∧ q = bI c.2.2.1 ∧ kb = nI c.2.2.2.1 ∧ ks = nI c.2.2.2.2
theorem pq_pU {β : Type} {Q : β → Prop} {f : AH} {j c k : Nat} {v : Value} {fs : List Value} {kk : AH → Option β} (fs' : List Value) (hk : decide (k < fs.length) = true) (hs : fs.set k v = fs') (hh : PQ (kk (va_up f j (some (.inr (c, fs'))))) Q) : PQ ((pO (va_up f j (some (.inr (c, fs)))) j c k v).bind kk) Q := by
  subst hs
  refine pq_pO u_eq hk ?_
  rw [u_uu]; exact hh
theorem rw_up {f : AH} {j b c s : Nat} {L : BL} {X : Option AE} (hr : isRw f j b c L) (h1 : j ≠ s) (h2 : b ≠ s) : isRw (va_up f s X) j b c L := rw_tr hr (u_ne h1) (u_ne h2)
section SCS
variable {f : AH} {s r rb c n : Nat} {L : BL} {b e q kb ks m w k p : Int32}
theorem f_tryLine_l (hr : isRw f r rb c L) (h1 : r ≠ s) (h2 : rb ≠ s) {K S E : Nat} (hKS : K ≤ S) (hSE : S < E) (hE : E ≤ L.length) : ∀ (d h : Nat) (x : Int32), K ≤ h → h ≤ S → x.toInt = (h : Int) - 1 → PQ (mX6_tryLine_l102 d s (nI E) (nI S) x (va_up f s (scE r b e q (nI K) (nI (h - K)) m w k p)) n) (fun y => y = (0, va_up f s (scE r (nI (nx (bNe 32) L (S + 1) E)) e q (nI K) (nI (bkn (bEq 32) L K h - K)) m w k p), n)) := by
  have h6 := rw_6 hr
  intro d
  induction d with
  | zero => intro h x _ _ _; exact pq_none
  | succ d ih =>
    intro h x hK hS hx
    have fin : ∀ z : Nat, bkn (bEq 32) L K h = z → PQ (mX6_tryLine_b141 s (nI E) (nI S) (va_up f s (scE r b e q (nI K) (nI (z - K)) m w k p)) n) (fun y => y = (0, va_up f s (scE r (nI (nx (bNe 32) L (S + 1) E)) e q (nI K) (nI (bkn (bEq 32) L K h - K)) m w k p), n)) := by
      intro z hz
      unfold mX6_tryLine_b141
      refine pq_gR u_eq rfl (pq_sb (pq_ck ?_))
      rw [nI_1]
      refine pq_is (f_blanks (rw_up hr h1 h2) (by omega) hE) ?_
      refine pq_pU (scL r (nI (nx (bNe 32) L (S + 1) E)) e q (nI K) (nI (z - K)) m w k p) rfl rfl (pq_ret ?_)
      rw [hz]
    unfold mX6_tryLine_l102
    refine pq_gI u_eq rfl ?_
    refine pq_lt hx (nI_toInt (by omega)) (fun q1 => fin h (bkn_st (by omega))) (fun q1 => ?_)
    refine pq_gR u_eq rfl (pq_sb (pq_ck ?_))
    have ex : x = nI (h - 1) := Int32.toInt_inj.mp (by rw [nI_toInt (by omega), hx]; omega)
    rw [ex]
    refine pq_is (f_getN (rw_up hr h1 h2) (by omega)) ?_
    refine pq_eq (fun q2 => ?_) (fun q2 => ?_)
    · refine pq_gI u_eq rfl ?_
      have e1 : nI (h - K) - 1 = nI (h - 1 - K) := by
        obtain ⟨z, hz⟩ : ∃ z, h - K = z + 1 := ⟨h - K - 1, by omega⟩
        rw [hz, nI_pred, show h - 1 - K = z by omega]
      refine pq_pU (scL r b e q (nI K) (nI (h - 1 - K)) m w k p) rfl (by rw [e1]; rfl) ?_
      rw [bkn_go (by omega) (decide_eq_true q2)]
      exact ih (h - 1) _ (by omega) (by omega) (by rw [i_add (nI_toInt (by omega)) kt_m1 (by omega)]; omega)
    · exact fin h (bkn_st (fun y => q2 (of_decide_eq_true y.2)))
theorem f_tryLine (hr : isRw f r rb c L) (h1 : r ≠ s) (h2 : rb ≠ s) {a : Nat} (ha : a < L.length) (hq : q = 0) : PQ (mX6_tryLine s (va_up f s (scE r b e q kb ks m w k (nI a))) n) (fun y => ∃ b' e' kb' ks', y = (0, va_up f s (scE r b' e' q kb' ks' m w k (nI (stL L a).2)), n) ∧ SO (stL L a).1 b' e' q kb' ks') := by
  have h6 := rw_6 hr
  have hE : lnE L a ≤ L.length := nx_le (by omega)
  have haE : a ≤ lnE L a := nx_ge
  have hSE : lnS L a ≤ lnE L a := nx_le haE
  have haS : a ≤ lnS L a := nx_ge
  have hKE : lnK L a ≤ lnE L a := nx_le haE
  have haK : a ≤ lnK L a := nx_ge
  have gE : ∀ X, PQ (mX5_next r 10 (nI a) (nI L.length) (va_up f s X) n) (fun y => y = (nI (lnE L a), va_up f s X, n)) := fun X => f_next (rw_up hr h1 h2) (by omega) (Nat.le_refl _)
  have gS : ∀ X, PQ (mX5_next r 61 (nI a) (nI (lnE L a)) (va_up f s X) n) (fun y => y = (nI (lnS L a), va_up f s X, n)) := fun X => f_next (rw_up hr h1 h2) haE hE
  have gK : ∀ X, PQ (mX5_behindBlanks r (nI a) (nI (lnE L a)) (va_up f s X) n) (fun y => y = (nI (lnK L a), va_up f s X, n)) := fun X => f_blanks (rw_up hr h1 h2) haE hE
  unfold mX6_tryLine
  refine pq_gI u_eq rfl (pq_gR u_eq rfl (pq_gR u_eq rfl (pq_sb (pq_ck (pq_is (f_size (rw_up hr h1 h2)) (pq_sb (pq_ck ?_)))))))
  refine pq_is (gE _) ?_
  rw [nI_1]
  refine pq_pU (scL r b e q kb ks m w k (nI (lnE L a + 1))) rfl rfl ?_
  refine pq_gR u_eq rfl (pq_sb (pq_ck (pq_is (gS _) (pq_gR u_eq rfl (pq_sb (pq_ck (pq_is (gK _) ?_)))))))
  refine pq_pU (scL r b e q (nI (lnK L a)) ks m w k (nI (lnE L a + 1))) rfl rfl (pq_pU (scL r (nI (lnE L a)) e q (nI (lnK L a)) ks m w k (nI (lnE L a + 1))) rfl rfl (pq_pU (scL r (nI (lnE L a)) (nI (lnE L a)) q (nI (lnK L a)) ks m w k (nI (lnE L a + 1))) rfl rfl ?_))
  have none_ : (lnS L a = lnE L a ∨ L.getD (lnK L a) 0 = 35) → PQ (mX6_tryLine_b86 (va_up f s (some (.inr (6, scL r (nI (lnE L a)) (nI (lnE L a)) q (nI (lnK L a)) ks m w k (nI (lnE L a + 1)))))) n) (fun y => ∃ b' e' kb' ks', y = (0, va_up f s (scE r b' e' q kb' ks' m w k (nI (stL L a).2)), n) ∧ SO (stL L a).1 b' e' q kb' ks') := by
    intro h
    refine pq_ret ⟨_, _, _, _, rfl, ?_⟩
    have e1 : (stL L a).1 = none := if_pos (h.elim Or.inl (fun x => Or.inr (Or.inl x)))
    rw [e1]
    exact Int.le_refl _
  refine pq_eqi (nI_toInt (by omega)) (nI_toInt (by omega)) (fun h => none_ (Or.inl (by omega))) (fun h => ?_)
  have hne : lnS L a ≠ lnE L a := by omega
  have hKS : lnK L a ≤ lnS L a := by
    rcases Nat.lt_or_ge (lnS L a) (lnK L a) with q1 | q1
    · have h3 := nx_no (p := bNe 32) (L := L) (a := a) (b := lnE L a) haS q1
      have h4 := nx_at (p := bEq 61) (L := L) (a := a) (b := lnE L a) (show lnS L a < lnE L a by omega)
      have h5 : L.getD (lnS L a) 0 = 61 := of_decide_eq_true h4
      unfold bNe at h3
      rw [h5] at h3
      exact absurd h3 (by decide)
    · exact q1
  refine pq_gR u_eq rfl (pq_gI u_eq rfl (pq_sb (pq_ck (pq_is (f_getN (rw_up hr h1 h2) (by omega)) ?_))))
  refine pq_eq (fun h => none_ (Or.inr h)) (fun h35 => ?_)
  refine pq_gI u_eq rfl ?_
  have e2 : nI (lnS L a) - nI (lnK L a) = nI (lnS L a - lnK L a) := Int32.toInt_inj.mp (by
    rw [i_sub (nI_toInt (by omega)) (nI_toInt (by omega)) (by omega), nI_toInt (by omega)]; omega)
  refine pq_pU (scL r (nI (lnE L a)) (nI (lnE L a)) q (nI (lnK L a)) (nI (lnS L a - lnK L a)) m w k (nI (lnE L a + 1))) rfl (by rw [← e2]; rfl) ?_
  refine pq_tail (f_tryLine_l hr h1 h2 hKS (by omega) hE rFU (lnS L a) _ hKS (Nat.le_refl _) (by rw [i_sub (nI_toInt (by omega)) kt_1 (by omega)])) (fun y hy => ?_)
  refine ⟨_, _, _, _, hy, ?_⟩
  have hV : lnV L a ≤ lnE L a := nx_le (by omega)
  show SO (if lnS L a = lnE L a ∨ L.getD (lnK L a) 0 = 35 ∨ lnE L a ≤ lnV L a then none else some (lnV L a, lnE L a, false, lnK L a, lnM L a)) _ _ _ _ _
  by_cases hv : lnE L a ≤ lnV L a
  · rw [if_pos (Or.inr (Or.inr hv))]
    show (nI (lnE L a)).toInt ≤ (nI (lnV L a)).toInt
    rw [nI_toInt (by omega), nI_toInt (by omega)]; omega
  · rw [if_neg (fun x => x.elim hne (fun x => x.elim h35 hv))]
    exact ⟨rfl, rfl, hq, rfl, rfl⟩
theorem f_tryCell (hr : isRw f r rb c L) (h1 : r ≠ s) (h2 : rb ≠ s) {a : Nat} (ha : a < L.length) (hkb : kb = 0) (hks : ks = 0) : PQ (mX6_tryCell s (va_up f s (scE r b e q kb ks m w k (nI a))) n) (fun y => ∃ b' e' q', y = (0, va_up f s (scE r b' e' q' kb ks m w k (nI (stT L a).2)), n) ∧ SO (stT L a).1 b' e' q' kb ks) := by
  have h6 := rw_6 hr
  unfold mX6_tryCell
  refine pq_gR u_eq rfl (pq_gI u_eq rfl (pq_sb (pq_ck (pq_is (f_getN (rw_up hr h1 h2) ha) ?_))))
  unfold stT
  refine pq_eq (fun q1 => ?_) (fun q1 => ?_)
  · rw [if_pos q1]
    have hq1 : a + 1 ≤ qe L (a + 1) := qe_ge
    have hq2 : qe L (a + 1) ≤ L.length := qe_le (by omega)
    unfold mX6_tryCell_b22
    refine pq_ck (pq_pU (scL r b e 1 kb ks m w k (nI a)) rfl rfl (pq_gI u_eq rfl (pq_f (by decide) (pq_gI u_eq rfl ?_))))
    rw [nI_1]
    unfold mX6_tryCell_b46
    refine pq_pU (scL r (nI (a + 1)) e 1 kb ks m w k (nI a)) rfl rfl (pq_gI u_eq rfl (pq_f (by decide) (pq_gR u_eq rfl (pq_gI u_eq rfl (pq_sb (pq_ck (pq_is (f_cqe (rw_up hr h1 h2) (by omega)) ?_)))))))
    unfold mX6_tryCell_b82
    refine pq_pU (scL r (nI (a + 1)) (nI (qe L (a + 1))) 1 kb ks m w k (nI a)) rfl rfl (pq_gI u_eq rfl (pq_f (by decide) (pq_gR u_eq rfl (pq_gI u_eq rfl (pq_sb (pq_ck ?_))))))
    rw [nI_1]
    have so : SO (if a + 1 < qe L (a + 1) then some (a + 1, qe L (a + 1), true, 0, 0) else none) (nI (a + 1)) (nI (qe L (a + 1))) 1 kb ks := by
      split
      · exact ⟨rfl, rfl, rfl, hkb, hks⟩
      · show (nI (qe L (a + 1))).toInt ≤ (nI (a + 1)).toInt
        rw [nI_toInt (by omega), nI_toInt (by omega)]; omega
    by_cases hl : qe L (a + 1) < L.length
    · refine pq_is (f_cellEnd (rw_up hr h1 h2) (by omega)) ?_
      unfold mX6_tryCell_b117
      refine pq_pU (scL r (nI (a + 1)) (nI (qe L (a + 1))) 1 kb ks m w k (nI (nx bSep L (qe L (a + 1) + 1) L.length + 1))) rfl (by rw [← nI_1 (nx bSep L (qe L (a + 1) + 1) L.length)]; rfl) (pq_ret ⟨_, _, _, ?_, so⟩)
      show _ = (0, va_up f s (scE r _ _ _ kb ks m w k (nI ((if qe L (a + 1) < L.length then nx bSep L (qe L (a + 1) + 1) L.length else L.length) + 1))), n)
      rw [if_pos hl]
    · refine pq_is (f_cellEndO (rw_up hr h1 h2) (by omega) (by omega)) ?_
      unfold mX6_tryCell_b117
      refine pq_pU (scL r (nI (a + 1)) (nI (qe L (a + 1))) 1 kb ks m w k (nI (L.length + 1))) rfl (by rw [← nI_1 L.length]; rfl) (pq_ret ⟨_, _, _, ?_, so⟩)
      show _ = (0, va_up f s (scE r _ _ _ kb ks m w k (nI ((if qe L (a + 1) < L.length then nx bSep L (qe L (a + 1) + 1) L.length else L.length) + 1))), n)
      rw [if_neg hl]
  · rw [if_neg q1]
    unfold mX6_tryCell_b22
    have hq1 : a ≤ nx bSep L a L.length := nx_ge
    have hq2 : nx bSep L a L.length ≤ L.length := nx_le (by omega)
    refine pq_ck (pq_pU (scL r b e 0 kb ks m w k (nI a)) rfl rfl (pq_gI u_eq rfl (pq_t rfl (pq_gI u_eq rfl ?_))))
    unfold mX6_tryCell_b46
    refine pq_pU (scL r (nI a) e 0 kb ks m w k (nI a)) rfl rfl (pq_gI u_eq rfl (pq_t rfl (pq_gR u_eq rfl (pq_gI u_eq rfl (pq_sb (pq_ck (pq_is (f_cellEnd (rw_up hr h1 h2) (by omega)) ?_)))))))
    unfold mX6_tryCell_b82
    refine pq_pU (scL r (nI a) (nI (nx bSep L a L.length)) 0 kb ks m w k (nI a)) rfl rfl (pq_gI u_eq rfl (pq_t rfl (pq_gI u_eq rfl ?_)))
    unfold mX6_tryCell_b117
    refine pq_pU (scL r (nI a) (nI (nx bSep L a L.length)) 0 kb ks m w k (nI (nx bSep L a L.length + 1))) rfl (by rw [← nI_1]; rfl) (pq_ret ⟨_, _, _, rfl, ?_⟩)
    show SO (if a < nx bSep L a L.length then some (a, nx bSep L a L.length, false, 0, 0) else none) _ _ _ _ _
    split
    · exact ⟨rfl, rfl, rfl, hkb, hks⟩
    · show (nI (nx bSep L a L.length)).toInt ≤ (nI a).toInt
      rw [nI_toInt (by omega), nI_toInt (by omega)]; omega
theorem f_tryMarkup_l (hr : isRw f r rb c L) (h1 : r ≠ s) (h2 : rb ≠ s) {X S : Nat} (hXS : X ≤ S) (hS : S ≤ L.length) (hX : X < S → bBare (L.getD X 0) = false) : ∀ (d h : Nat) (x : Int32), X ≤ h → h ≤ S → x.toInt = (h : Int) - 1 → PQ (mX6_tryMarkup_l105 d s (nI S) x (va_up f s (scE r (nI X) (nI h) q kb ks m w k p)) n) (fun y => y = (0, va_up f s (scE r (nI X) (nI (bkn bBare L X h)) q kb ks m w k (nI S)), n)) := by
  have h6 := rw_6 hr
  intro d
  induction d with
  | zero => intro h x _ _ _; exact pq_none
  | succ d ih =>
    intro h x hK hH hx
    have fin : bkn bBare L X h = h → PQ (mX6_tryMarkup_b150 s (nI S) (va_up f s (scE r (nI X) (nI h) q kb ks m w k p)) n) (fun y => y = (0, va_up f s (scE r (nI X) (nI (bkn bBare L X h)) q kb ks m w k (nI S)), n)) := by
      intro hz
      unfold mX6_tryMarkup_b150
      refine pq_pU (scL r (nI X) (nI h) q kb ks m w k (nI S)) rfl rfl (pq_ret ?_)
      rw [hz]
    unfold mX6_tryMarkup_l105
    refine pq_gI u_eq rfl ?_
    refine pq_le hx (nI_toInt (by omega)) (fun q1 => fin (bkn_st (fun y => ?_))) (fun q1 => ?_)
    · have e1 : h - 1 = X := by omega
      have := hX (by omega)
      rw [e1, this] at y
      exact absurd y.2 (by decide)
    refine pq_gR u_eq rfl (pq_sb (pq_ck ?_))
    have ex : x = nI (h - 1) := Int32.toInt_inj.mp (by rw [nI_toInt (by omega), hx]; omega)
    rw [ex]
    have go : bBare (L.getD (h - 1) 0) = true → PQ (mX6_tryMarkup_b139 (fun v0 v1 v2 f n => mX6_tryMarkup_l105 d v0 v1 v2 f n) s (nI S) (nI (h - 1)) (va_up f s (scE r (nI X) (nI h) q kb ks m w k p)) n) (fun y => y = (0, va_up f s (scE r (nI X) (nI (bkn bBare L X h)) q kb ks m w k (nI S)), n)) := by
      intro hb
      unfold mX6_tryMarkup_b139
      refine pq_pU (scL r (nI X) (nI (h - 1)) q kb ks m w k p) rfl rfl ?_
      rw [bkn_go (by omega) hb]
      exact ih (h - 1) _ (by omega) (by omega) (by rw [i_add (nI_toInt (by omega)) kt_m1 (by omega)]; omega)
    refine pq_is (f_getN (rw_up hr h1 h2) (by omega)) ?_
    refine pq_eq (fun q2 => go (by unfold bBare; rw [decide_eq_true q2]; rfl)) (fun q2 => ?_)
    refine pq_gR u_eq rfl (pq_sb (pq_ck (pq_is (f_getN (rw_up hr h1 h2) (by omega)) ?_)))
    refine pq_eq (fun q3 => go (by unfold bBare; rw [decide_eq_true q3, Bool.or_true])) (fun q3 => fin (bkn_st (fun y => ?_)))
    have e2 : bBare (L.getD (h - 1) 0) = false := by unfold bBare; rw [decide_eq_false q2, decide_eq_false q3]; rfl
    rw [e2] at y
    exact absurd y.2 (by decide)
theorem f_tryMarkup (hr : isRw f r rb c L) (h1 : r ≠ s) (h2 : rb ≠ s) {a : Nat} (ha : a < L.length) (hq : q = 0) (hkb : kb = 0) (hks : ks = 0) : PQ (mX6_tryMarkup s (va_up f s (scE r b e q kb ks m w k (nI a))) n) (fun y => ∃ b' e', y = (0, va_up f s (scE r b' e' q kb ks m w k (nI (stM L a).2)), n) ∧ SO (stM L a).1 b' e' q kb ks) := by
  have h6 := rw_6 hr
  have hS : mkS L a ≤ L.length := nx_le (by omega)
  have haS : a ≤ mkS L a := nx_ge
  have hXS : mkX L a ≤ mkS L a := nx_le haS
  have haX : a ≤ mkX L a := nx_ge
  have hG : nx (bEq 62) L a L.length ≤ L.length := nx_le (by omega)
  have gS : ∀ X, PQ (mX5_next r 60 (nI a) (nI L.length) (va_up f s X) n) (fun y => y = (nI (mkS L a), va_up f s X, n)) := fun X => f_next (rw_up hr h1 h2) (by omega) (Nat.le_refl _)
  have gX : ∀ X, PQ (mX5_behindSpace r (nI a) (nI (mkS L a)) (va_up f s X) n) (fun y => y = (nI (mkX L a), va_up f s X, n)) := fun X => f_space (rw_up hr h1 h2) haS hS
  unfold mX6_tryMarkup
  refine pq_gI u_eq rfl (pq_pU (scL r (nI a) e q kb ks m w k (nI a)) rfl rfl (pq_gI u_eq rfl (pq_pU (scL r (nI a) (nI a) q kb ks m w k (nI a)) rfl rfl (pq_gR u_eq rfl (pq_gI u_eq rfl (pq_sb (pq_ck (pq_is (f_getN (rw_up hr h1 h2) ha) ?_))))))))
  unfold stM
  refine pq_eq (fun q1 => ?_) (fun q1 => ?_)
  · rw [if_pos q1]
    refine pq_gR u_eq rfl (pq_gI u_eq rfl (pq_gR u_eq rfl (pq_sb (pq_ck (pq_is (f_size (rw_up hr h1 h2)) (pq_sb (pq_ck (pq_is (f_next (rw_up hr h1 h2) (by omega) (Nat.le_refl _)) ?_))))))))
    refine pq_pU (scL r (nI a) (nI a) q kb ks m w k (nI (nx (bEq 62) L a L.length + 1))) rfl (by rw [← nI_1]; rfl) (pq_ret ⟨_, _, rfl, ?_⟩)
    exact Int.le_refl _
  · rw [if_neg q1]
    refine pq_gR u_eq rfl (pq_gI u_eq rfl (pq_gR u_eq rfl (pq_sb (pq_ck (pq_is (f_size (rw_up hr h1 h2)) (pq_sb (pq_ck (pq_is (gS _) ?_))))))))
    refine pq_gR u_eq rfl (pq_gI u_eq rfl (pq_sb (pq_ck (pq_is (gX _) ?_))))
    refine pq_pU (scL r (nI (mkX L a)) (nI a) q kb ks m w k (nI a)) rfl rfl (pq_pU (scL r (nI (mkX L a)) (nI (mkS L a)) q kb ks m w k (nI a)) rfl rfl ?_)
    refine pq_tail (f_tryMarkup_l hr h1 h2 hXS hS (fun hx => ?_) rFU (mkS L a) _ hXS (Nat.le_refl _) (by rw [i_sub (nI_toInt (by omega)) kt_1 (by omega)])) (fun y hy => ⟨_, _, hy, ?_⟩)
    · have h3 := nx_at (p := bNb) (L := L) (a := a) (b := mkS L a) hx
      have h4 : bNb (L.getD (mkX L a) 0) = true := h3
      unfold bNb at h4
      unfold bBare
      cases h5 : (decide (L.getD (mkX L a) 0 = 32) || decide (L.getD (mkX L a) 0 = 10)) with
      | false => rfl
      | true => rw [h5] at h4; cases h4
    · have hY : mkY L a ≤ mkS L a := bkn_le _
      show SO (if mkX L a < mkY L a then some (mkX L a, mkY L a, false, 0, 0) else none) _ _ _ _ _
      split
      · exact ⟨rfl, rfl, hq, hkb, hks⟩
      · show (nI (mkY L a)).toInt ≤ (nI (mkX L a)).toInt
        rw [nI_toInt (by omega), nI_toInt (by omega)]; omega
theorem f_tryQuotes (hr : isRw f r rb c L) (h1 : r ≠ s) (h2 : rb ≠ s) {a : Nat} (ha : a < L.length) (hq : q = 0) (hkb : kb = 0) (hks : ks = 0) : PQ (mX6_tryQuotes s (va_up f s (scE r b e q kb ks m w k (nI a))) n) (fun y => ∃ b' e', y = (0, va_up f s (scE r b' e' q kb ks m w k (nI (stQ L a).2)), n) ∧ SO (stQ L a).1 b' e' q kb ks) := by
  have h6 := rw_6 hr
  have hA : quA L a ≤ L.length := nx_le (by omega)
  have haA : a ≤ quA L a := nx_ge
  have gA : ∀ X, PQ (mX5_next r 34 (nI a) (nI L.length) (va_up f s X) n) (fun y => y = (nI (quA L a), va_up f s X, n)) := fun X => f_next (rw_up hr h1 h2) (by omega) (Nat.le_refl _)
  have main : ∀ E : Nat, quA L a + 1 ≤ 601 → E ≤ L.length → (∀ X, PQ (mX5_quoteEnd r (nI (quA L a + 1)) (va_up f s X) n) (fun y => y = (nI E, va_up f s X, n))) → ∀ col : Prop, (∀ X, PQ (mX5_behindSpace r (nI (E + 1)) (nI L.length) (va_up f s X) n) (fun y => ∃ W : Int32, y = (W, va_up f s X, n) ∧ (gt1 L W = 58 ↔ col))) → PQ (mX6_tryQuotes s (va_up f s (scE r b e q kb ks m w k (nI a))) n) (fun y => ∃ e', y = (0, va_up f s (scE r (nI (quA L a + 1)) e' q kb ks m w k (nI (E + 1))), n) ∧ ((col ∧ e' = nI (quA L a + 1)) ∨ (¬ col ∧ e' = nI E))) := by
    intro E hA1 hE gE col gW
    unfold mX6_tryQuotes
    refine pq_gR u_eq rfl (pq_gI u_eq rfl (pq_gR u_eq rfl (pq_sb (pq_ck (pq_is (f_size (rw_up hr h1 h2)) (pq_sb (pq_ck (pq_is (gA _) ?_))))))))
    rw [nI_1]
    refine pq_pU (scL r (nI (quA L a + 1)) e q kb ks m w k (nI a)) rfl rfl (pq_gR u_eq rfl (pq_gI u_eq rfl (pq_sb (pq_ck (pq_is (gE _) ?_)))))
    refine pq_pU (scL r (nI (quA L a + 1)) (nI E) q kb ks m w k (nI a)) rfl rfl (pq_gI u_eq rfl ?_)
    rw [nI_1]
    refine pq_pU (scL r (nI (quA L a + 1)) (nI E) q kb ks m w k (nI (E + 1))) rfl rfl (pq_gR u_eq rfl (pq_gR u_eq rfl (pq_gI u_eq rfl (pq_gR u_eq rfl (pq_sb (pq_ck (pq_is (f_size (rw_up hr h1 h2)) (pq_sb (pq_ck ?_)))))))))
    refine pq_call (gW _) (fun y hy => ?_)
    obtain ⟨W, rfl, hW⟩ := hy
    refine pq_sb (pq_ck (pq_is (f_get (rw_up hr h1 h2)) ?_))
    refine pq_eq (fun q1 => ?_) (fun q1 => ?_)
    · refine pq_gI u_eq rfl (pq_pU (scL r (nI (quA L a + 1)) (nI (quA L a + 1)) q kb ks m w k (nI (E + 1))) rfl rfl (pq_ret ⟨_, rfl, Or.inl ⟨hW.mp q1, rfl⟩⟩))
    · exact pq_ret ⟨_, rfl, Or.inr ⟨fun x => q1 (hW.mpr x), rfl⟩⟩
  unfold stQ
  by_cases hl : quA L a < L.length
  · rw [if_pos hl]
    have hE : quE L a ≤ L.length := qq_le (by omega)
    have hAE : quA L a + 1 ≤ quE L a := qq_ge
    refine pq_tail (main (quE L a) (by omega) hE (fun X => f_qq (rw_up hr h1 h2) (by omega)) (quW L a < L.length ∧ L.getD (quW L a) 0 = 58) (fun X => ?_)) (fun y hy => ?_)
    · by_cases hE2 : quE L a < L.length
      · have hW : quW L a ≤ L.length := nx_le (by omega)
        refine pq_tail (f_space (rw_up hr h1 h2) (by omega) (Nat.le_refl _)) (fun y hy => ⟨_, hy, ?_⟩)
        show gt1 L (nI (quW L a)) = 58 ↔ _
        by_cases hw : quW L a < L.length
        · rw [gt1_N hw (by omega)]
          exact ⟨fun x => ⟨hw, x⟩, fun x => x.2⟩
        · rw [gt1_O (by omega) (by omega)]
          exact ⟨fun x => absurd x (by decide), fun x => absurd x.1 hw⟩
      · refine pq_tail (f_spaceO (rw_up hr h1 h2) (by omega) (by omega)) (fun y hy => ⟨_, hy, ?_⟩)
        rw [gt1_O (by omega) (by omega)]
        have hW : quE L a + 1 ≤ quW L a := nx_ge
        exact ⟨fun x => absurd x (by decide), fun x => absurd x.1 (by omega)⟩
    · obtain ⟨e', rfl, he⟩ := hy
      refine ⟨_, _, rfl, ?_⟩
      show SO (if quA L a + 1 < quE L a ∧ ¬ (quW L a < L.length ∧ L.getD (quW L a) 0 = 58) then some (quA L a + 1, quE L a, false, 0, 0) else none) _ _ _ _ _
      rcases he with ⟨h3, rfl⟩ | ⟨h3, rfl⟩
      · rw [if_neg (fun x => x.2 h3)]
        exact Int.le_refl _
      · by_cases h4 : quA L a + 1 < quE L a
        · rw [if_pos ⟨h4, h3⟩]
          exact ⟨rfl, rfl, hq, hkb, hks⟩
        · rw [if_neg (fun x => h4 x.1)]
          show (nI (quE L a)).toInt ≤ (nI (quA L a + 1)).toInt
          rw [nI_toInt (by omega), nI_toInt (by omega)]; omega
  · rw [if_neg hl]
    refine pq_tail (main L.length (by omega) (Nat.le_refl _) (fun X => f_qqO (rw_up hr h1 h2) (by omega) (by omega)) False (fun X => ?_)) (fun y hy => ?_)
    · refine pq_tail (f_spaceO (rw_up hr h1 h2) (by omega) (by omega)) (fun y hy => ⟨_, hy, ?_⟩)
      rw [gt1_O (by omega) (by omega)]
      exact ⟨fun x => absurd x (by decide), fun x => x.elim⟩
    · obtain ⟨e', rfl, he⟩ := hy
      refine ⟨_, _, rfl, ?_⟩
      show SO none _ _ _ _ _
      rcases he with ⟨h3, -⟩ | ⟨-, rfl⟩
      · exact h3.elim
      · show (nI L.length).toInt ≤ (nI (quA L a + 1)).toInt
        rw [nI_toInt (by omega), nI_toInt (by omega)]; omega
end SCS
end
