/-! the reference: tell, its memory -/
section RTL
variable {σ : RS9} {S : SST}
/-- pairs moved up by one, down to a place -/
def PU9 (μ μ' : Nat → Int32) (lo : Nat) : Prop := (∀ i, lo ≤ i → i < 4347 → μ' i = μ (i - 122)) ∧ ∀ i, i < lo → μ' i = μ i
theorem take_gd {m : List (BL × BL)} {a : BL × BL} {k : Nat} (hk : k < ((a :: m).take 12).length) : ((a :: m).take 12).getD k ([], []) = (a :: m).getD k ([], []) := by
  rw [List.length_take] at hk
  rw [List.getD_eq_getElem?_getD, List.getD_eq_getElem?_getD, List.getElem?_take, if_pos (by omega)]
theorem PR9_up {μ μ' : Nat → Int32} {mem : List (BL × BL)} {x w : BL} (h : PR9 μ mem) (h1 : ∀ i, 3005 ≤ i → i < 4347 → μ' i = μ (i - 122)) (hx : PW9 μ' 2883 x) (hw : PW9 μ' 2944 w) (h42 : μ' 42 = if mem.length < 12 then nI (mem.length + 1) else nI mem.length) : PR9 μ' (((x, w) :: mem).take 12) := by
  obtain ⟨m1, m2, m3⟩ := h
  have hl : (((x, w) :: mem).take 12).length = if mem.length < 12 then mem.length + 1 else mem.length := by
    rw [List.length_take, List.length_cons]
    split <;> omega
  refine ⟨?_, by rw [List.length_take]; omega, fun k hk => ?_⟩
  · rw [h42, hl]
    split <;> rfl
  · rw [take_gd hk]
    cases k with
    | zero => exact ⟨hx, hw⟩
    | succ k =>
      have hk2 : k < mem.length ∧ k < 11 := by
        rw [hl] at hk
        split at hk <;> omega
      obtain ⟨g1, g2⟩ := m3 k hk2.1
      show PW9 μ' (2883 + 122 * (k + 1)) (mem.getD k ([], [])).1 ∧ PW9 μ' (2944 + 122 * (k + 1)) (mem.getD k ([], [])).2
      refine ⟨⟨g1.1, ?_, fun j hj => ?_⟩, ⟨g2.1, ?_, fun j hj => ?_⟩⟩
      · rw [h1 _ (by omega) (by omega), show 2883 + 122 * (k + 1) - 122 = 2883 + 122 * k by omega]; exact g1.2.1
      · have := g1.1
        rw [h1 _ (by omega) (by omega), show 2883 + 122 * (k + 1) + 1 + j - 122 = 2883 + 122 * k + 1 + j by omega]; exact g1.2.2 j hj
      · rw [h1 _ (by omega) (by omega), show 2944 + 122 * (k + 1) - 122 = 2944 + 122 * k by omega]; exact g2.2.1
      · have := g2.1
        rw [h1 _ (by omega) (by omega), show 2944 + 122 * (k + 1) + 1 + j - 122 = 2944 + 122 * k + 1 + j by omega]; exact g2.2.2 j hj
theorem nI_t {a : Nat} {x : Int32} {b : Nat} (hx : x = nI b) : x + nI a = nI (b + a) := by rw [hx]; exact nI_add b a
theorem r_remPair {p : Nat} {w : BL} (h : RM9 σ S) (hp : p < (pcF S).length) (h53 : RLs σ 53 w) (hw : w.length ≤ 60) : PQ (mX9_remembersPair (nI p) (nI w.length) σ) (fun y => ∃ σ', y = (0, σ') ∧ RM9 σ' (memA S (pOf S p) w) ∧ FRX (fun k => k = 1) NF9 σ σ') := by
  have h40 := (RM_33 h).2
  have hle := tx_le hp
  have h6 := h.2.2.1.2.1
  have t43 := h.2.2.1.2.2.2.1
  obtain ⟨-, -, -, -, -, -, i41, i42⟩ := h.2.2.2 p hp
  have e42 : rGa σ 42 (nI p) = nI (pX (pOf S p)).length := by rw [rd_nI (by omega)]; exact i42
  unfold mX9_remembersPair
  rw [e42]
  have hxl : (pX (pOf S p)).length ≤ 600 := by
    have : tAt (pcF S) p + (pX (pOf S p)).length ≤ (txs (pcF S)).length := hle
    omega
  refine pq_ck (pq_le (nI_toInt (by omega)) kt_60 (fun q => ?_) (fun q => ?_))
  · have hx6 : (pX (pOf S p)).length ≤ 60 := by omega
    have em : memA S (pOf S p) w = (S.1, S.2.1, S.2.2.1, ((pX (pOf S p), w) :: S.2.2.2).take 12) := if_pos hx6
    rw [em]
    have hgd : ∀ k, k < (pX (pOf S p)).length → (txs (pcF S)).getD (tAt (pcF S) p + k) 0 = (pX (pOf S p)).getD k 0 := fun k hk => tx_gd hp hk
    have hle' : tAt (pcF S) p + (pX (pOf S p)).length ≤ (txs (pcF S)).length := hle
    have i41' : σ.2 41 p = nI (tAt (pcF S) p) := i41
    generalize hxx : pX (pOf S p) = x at hx6 hgd hle' e42
    have hPR := h.1.2.2.2
    have hm12 := hPR.2.1
    have fr : ∀ {σ1 : RS9}, FRX (fun k => k = 1) NF9 σ σ1 → ∀ r, r ≠ 1 → σ1.2 r = σ.2 r := fun hX r hr => hX.1 r hr
    -- the told of the new pair
    have k110 : ∀ (d i : Nat) (σ1 : RS9), i ≤ w.length → FRX (fun k => k = 1) NF9 σ σ1 → (∀ z, 3005 ≤ z → z < 4347 → σ1.2 1 z = σ.2 1 (z - 122)) → (∀ z, z < 2883 → σ1.2 1 z = σ.2 1 z) → PW9 (σ1.2 1) 2883 x → σ1.2 1 2944 = nI w.length → (∀ k, k < i → σ1.2 1 (2945 + k) = w.getD k 0) → PQ (mX9_remembersPair_l110 d (nI w.length) (nI i) σ1) (fun y => ∃ σ', y = (0, σ') ∧ RM9 σ' (S.1, S.2.1, S.2.2.1, ((x, w) :: S.2.2.2).take 12) ∧ FRX (fun k => k = 1) NF9 σ σ') := by
      intro d
      induction d with
      | zero => intro i σ1 _ _ _ _ _ _ _; exact pq_none
      | succ d ih =>
        intro i σ1 hi hX g1 g2 g3 g4 g5
        unfold mX9_remembersPair_l110
        refine pq_le (nI_toInt (by omega)) (nI_toInt (by omega)) (fun q1 => ?_) (fun q1 => ?_)
        · have e : i = w.length := by omega
          subst e
          have a42 : rGa σ1 1 (42 : Int32) = nI S.2.2.2.length := (g2 42 (by omega)).trans hPR.1
          have fin : ∀ σ2 : RS9, FRX (fun k => k = 1) NF9 σ1 σ2 → (∀ z, z ≠ 42 → σ2.2 1 z = σ1.2 1 z) → σ2.2 1 42 = (if S.2.2.2.length < 12 then nI (S.2.2.2.length + 1) else nI S.2.2.2.length) → PQ (mX9_remembersPair_b160 σ2) (fun y => ∃ σ', y = (0, σ') ∧ RM9 σ' (S.1, S.2.1, S.2.2.1, ((x, w) :: S.2.2.2).take 12) ∧ FRX (fun k => k = 1) NF9 σ σ') := fun σ2 hX2 hz h42 => by
            have lo : ∀ z, z < 2883 → z ≠ 42 → σ2.2 1 z = σ.2 1 z := fun z h1 h2 => (hz z h2).trans (g2 z h1)
            refine pq_ret ⟨σ2, rfl, ⟨⟨?_, MC_ext h.1.2.1 (fun i hi => lo i (by omega) (by omega)), TD9_ext h.1.2.2.1 (fun i h1 h2 => lo i h2 (by omega)), PR9_up hPR (fun z z1 z2 => (hz z (by omega)).trans (g1 z z1 z2)) (PW9_ext g3 (fun z z1 z2 => hz z (by omega))) ⟨hw, (hz 2944 (by omega)).trans g4, fun j hj => ?_⟩ h42⟩, PT_frx h.2 (frx_tr hX hX2) (fun k h1 h2 q => by omega) ⟨fun q => q, fun q => q⟩⟩, frx_tr hX hX2⟩
            · obtain ⟨f1, f2⟩ := h.1.1
              exact ⟨⟨(lo 0 (by omega) (by omega)).trans f1.1, f1.2⟩, fun i hi => (lo _ (by have h9 : i < S.1.length := hi; have := f1.2; omega) (by omega)).trans (f2 i hi)⟩
            · rw [hz _ (by omega)]; exact g5 j hj
          rw [a42]
          refine pq_ck (pq_le kt_12 (nI_toInt (by omega)) (fun q2 => ?_) (fun q2 => ?_))
          · exact fin σ1 frx_rfl (fun _ _ => rfl) (by rw [if_neg (by omega)]; exact a42)
          · rw [nI_1]
            refine pq_ck (pq_ck (fin _ ⟨fun k hk => sa_ne hk, fun k hk => rfl⟩ (fun z hz => ?_) ?_))
            · rw [show (42 : Int32) = nI 42 from rfl, up_nI (by omega), if_neg hz]
            · rw [show (42 : Int32) = nI 42 from rfl, up_nI (by omega), if_pos rfl, if_pos (by omega)]
        · rw [show (2945 : Int32) + nI i = nI (2945 + i) from nI_add 2945 i, rd_nI (by omega), fr hX 53 (by omega), h53 i (by omega), nI_1]
          refine pq_ck (pq_ck (ih (i + 1) _ (by omega) (frx_tr hX ⟨fun k hk => sa_ne hk, fun k hk => rfl⟩) (fun z z1 z2 => ?_) (fun z z1 => ?_) (PW9_ext g3 (fun z z1 z2 => ?_)) ?_ (fun k hk => ?_)))
          · rw [up_nI (by omega), if_neg (by omega)]; exact g1 z z1 z2
          · rw [up_nI (by omega), if_neg (by omega)]; exact g2 z z1
          · rw [up_nI (by omega), if_neg (by omega)]
          · rw [up_nI (by omega), if_neg (by omega)]; exact g4
          · rw [up_nI (by omega)]
            by_cases e : k = i
            · rw [if_pos (by rw [e]), e]
            · rw [if_neg (by omega)]; exact g5 k (by omega)
    -- the text of the new pair
    have k60 : ∀ (d i : Nat) (σ1 : RS9), i ≤ x.length → FRX (fun k => k = 1) NF9 σ σ1 → (∀ z, 3005 ≤ z → z < 4347 → σ1.2 1 z = σ.2 1 (z - 122)) → (∀ z, z < 2883 → σ1.2 1 z = σ.2 1 z) → σ1.2 1 2883 = nI x.length → (∀ k, k < i → σ1.2 1 (2884 + k) = x.getD k 0) → PQ (mX9_remembersPair_l60 d (nI p) (nI w.length) (nI i) σ1) (fun y => ∃ σ', y = (0, σ') ∧ RM9 σ' (S.1, S.2.1, S.2.2.1, ((x, w) :: S.2.2.2).take 12) ∧ FRX (fun k => k = 1) NF9 σ σ') := by
      intro d
      induction d with
      | zero => intro i σ1 _ _ _ _ _ _; exact pq_none
      | succ d ih =>
        intro i σ1 hi hX g1 g2 g3 g4
        unfold mX9_remembersPair_l60
        have a42 : rGa σ1 42 (nI p) = nI x.length := by unfold rGa; rw [fr hX 42 (by omega)]; exact e42
        have a41 : rGa σ1 41 (nI p) = nI (tAt (pcF S) p) := by rw [rd_nI (by omega), fr hX 41 (by omega)]; exact i41'
        rw [a42, a41]
        refine pq_ck (pq_le (nI_toInt (by omega)) (nI_toInt (by omega)) (fun q1 => ?_) (fun q1 => ?_))
        · have e : i = x.length := by omega
          subst e
          refine pq_ck (k110 rFU 0 _ (Nat.zero_le _) (frx_tr hX ⟨fun k hk => sa_ne hk, fun k hk => rfl⟩) (fun z z1 z2 => ?_) (fun z z1 => ?_) ⟨hx6, ?_, fun j hj => ?_⟩ ?_ (fun k hk => absurd hk (Nat.not_lt_zero _)))
          · rw [show (2944 : Int32) = nI 2944 from rfl, up_nI (by omega), if_neg (by omega)]; exact g1 z z1 z2
          · rw [show (2944 : Int32) = nI 2944 from rfl, up_nI (by omega), if_neg (by omega)]; exact g2 z z1
          · rw [show (2944 : Int32) = nI 2944 from rfl, up_nI (by omega), if_neg (by omega)]; exact g3
          · rw [show (2944 : Int32) = nI 2944 from rfl, up_nI (by omega), if_neg (by omega)]; exact g4 j hj
          · rw [show (2944 : Int32) = nI 2944 from rfl, up_nI (by omega), if_pos rfl]
        · rw [nI_add, rd_nI (by omega), fr hX 43 (by omega), t43 _ (by omega), hgd i (by omega), show (2884 : Int32) + nI i = nI (2884 + i) from nI_add 2884 i, nI_1]
          refine pq_ck (pq_ck (pq_ck (ih (i + 1) _ (by omega) (frx_tr hX ⟨fun k hk => sa_ne hk, fun k hk => rfl⟩) (fun z z1 z2 => ?_) (fun z z1 => ?_) ?_ (fun k hk => ?_))))
          · rw [up_nI (by omega), if_neg (by omega)]; exact g1 z z1 z2
          · rw [up_nI (by omega), if_neg (by omega)]; exact g2 z z1
          · rw [up_nI (by omega), if_neg (by omega)]; exact g3
          · rw [up_nI (by omega)]
            by_cases e : k = i
            · rw [if_pos (by rw [e]), e]
            · rw [if_neg (by omega)]; exact g4 k (by omega)
    -- pairs moved up
    have k16 : ∀ (d i : Nat) (σ1 : RS9), 3005 ≤ i + 1 → i < 4347 → FRX (fun k => k = 1) NF9 σ σ1 → (∀ z, i < z → z < 4347 → σ1.2 1 z = σ.2 1 (z - 122)) → (∀ z, z ≤ i → σ1.2 1 z = σ.2 1 z) → PQ (mX9_remembersPair_l16 d (nI p) (nI w.length) (nI i) σ1) (fun y => ∃ σ', y = (0, σ') ∧ RM9 σ' (S.1, S.2.1, S.2.2.1, ((x, w) :: S.2.2.2).take 12) ∧ FRX (fun k => k = 1) NF9 σ σ') := by
      intro d
      induction d with
      | zero => intro i σ1 _ _ _ _ _; exact pq_none
      | succ d ih =>
        intro i σ1 hi1 hi2 hX g1 g2
        unfold mX9_remembersPair_l16
        have a42 : rGa σ1 42 (nI p) = nI x.length := by unfold rGa; rw [fr hX 42 (by omega)]; exact e42
        rw [a42]
        refine pq_lt (nI_toInt (by omega)) (show (3005 : Int32).toInt = 3005 by decide) (fun q1 => ?_) (fun q1 => ?_)
        · have e : i = 3004 := by omega
          subst e
          refine pq_ck (pq_ck (k60 rFU 0 _ (Nat.zero_le _) (frx_tr hX ⟨fun k hk => sa_ne hk, fun k hk => rfl⟩) (fun z z1 z2 => ?_) (fun z z1 => ?_) ?_ (fun k hk => absurd hk (Nat.not_lt_zero _))))
          · rw [show (2883 : Int32) = nI 2883 from rfl, up_nI (by omega), if_neg (by omega)]; exact g1 z (by omega) z2
          · rw [show (2883 : Int32) = nI 2883 from rfl, up_nI (by omega), if_neg (by omega)]; exact g2 z (by omega)
          · rw [show (2883 : Int32) = nI 2883 from rfl, up_nI (by omega), if_pos rfl]
        · rw [nI_122 (by omega) (by omega), rd_nI (by omega), g2 (i - 122) (by omega), nI_dec (by omega) (by omega)]
          refine pq_ck (pq_ck (ih (i - 1) _ (by omega) (by omega) (frx_tr hX ⟨fun k hk => sa_ne hk, fun k hk => rfl⟩) (fun z z1 z2 => ?_) (fun z z1 => ?_)))
          · rw [up_nI (by omega)]
            by_cases e : z = i
            · rw [if_pos e, e]
            · rw [if_neg e]; exact g1 z (by omega) z2
          · rw [up_nI (by omega), if_neg (by omega)]; exact g2 z (by omega)
    exact k16 rFU 4346 σ (by omega) (by omega) frx_rfl (fun z z1 z2 => by omega) (fun z _ => rfl)
  · have em : memA S (pOf S p) w = S := if_neg (by omega)
    rw [em]
    exact pq_ret ⟨σ, rfl, h, frx_rfl⟩
theorem r_tell0 {v : Int32} {w : BL} (h : RM9 σ S) (hS : SV S) (h53 : RLs σ 53 w) (hw : w.length ≤ 60) : PQ (mX9_tell0 v (nI w.length) σ) (DOA σ (tlA S v w)) := by
  obtain ⟨h33, h40⟩ := RM_33 h
  unfold mX9_tell0
  refine pq_isr (r_isPieceThere h33 h40) ?_
  by_cases hin : inP S v
  · have ed : decide (0 ≤ v.toInt ∧ v.toInt < ((pcF S).length : Int)) = true := decide_eq_true hin
    rw [ed]
    refine pq_f (show ¬ (1 : Int32) = 0 by decide) ?_
    obtain ⟨e1, e2⟩ := v_nI hin (by omega)
    have ef : tlA S v w = if escFor S.2.1 (pOf S v.toInt.toNat) w = none then (2, S) else if 600 < (bltS (setT S (tset S.2.2.1 v.toInt.toNat (some w)))).length then (3, S) else (0, memA (setT S (tset S.2.2.1 v.toInt.toNat (some w))) (pOf S v.toInt.toNat) w) := if_pos hin
    rw [ef]
    clear ef
    generalize v.toInt.toNat = p at e1 e2 ⊢
    subst e1
    refine pq_call (r_escFor (p := p) h.1.2.1 h.2 e2 h53 hw) (fun y hy => ?_)
    obtain ⟨σ1, rfl, g1, g2⟩ := hy
    have g2' : FRX RA9 FA9 σ σ1 := frx_mono g2 (fun k hk => by omega) (fun k hk => by omega)
    cases he : escFor S.2.1 (pOf S p) w with
    | none =>
      rw [if_pos (show (none : Option BL) = none from rfl)]
      have he' : escFor S.2.1 ((pcF S).getD p pc0) w = none := he
      show PQ (if tdN (escFor S.2.1 ((pcF S).getD p pc0) w) = -1 then _ else _) _
      rw [he']
      exact pq_t rfl (pq_ret (bad_a (by decide) g2'))
    | some e =>
      have he' : escFor S.2.1 ((pcF S).getD p pc0) w = some e := he
      have hel := (g1 e he').2
      rw [if_neg (show ¬ (some e : Option BL) = none from fun q => by cases q)]
      show PQ (if tdN (escFor S.2.1 ((pcF S).getD p pc0) w) = -1 then _ else _) _
      rw [he']
      refine pq_f (nI_ne (by omega)) ?_
      have hM1 : RM9 σ1 S := RM_frx h g2 (fun q => by omega) (fun k h1 h2 q => by omega) ⟨fun q => by omega, fun q => by omega⟩
      refine pq_call (r_tells (p := p) (by omega) (RL_frx h53 g2 (fun q => by omega)) hw) (fun y hy => ?_)
      obtain ⟨σ2, rfl, hTL⟩ := hy
      have hM2 := TL_RM hM1 (by omega) hw hTL
      have hV2 : VE S.2.1 (tset S.2.2.1 p (some w)) (pcF S) := VE_tset hS.1 (fun t e9 => by cases e9; rw [he']; exact fun q => by cases q)
      refine pq_call (r_builtMany (RM_BV hM2) pcs_ord (by have := hM2.1.1.1.2; omega) hV2) (fun y hy => ?_)
      obtain ⟨σ3, rfl, k1, k2⟩ := hy
      have hF3 : FRX RA9 FA9 σ σ3 := frx_tr g2' (frx_tr (TL_fr hTL) (frx_mono k2 (fun k hk => by omega) (fun k hk => by omega)))
      have hM3 := RM_frx hM2 k2 (fun q => by omega) (fun k h1 h2 q => by omega) ⟨fun q => by omega, fun q => by omega⟩
      refine pq_le (nI_toInt (by omega)) kt_600 (fun q => ?_) (fun q => ?_)
      · rw [if_neg (show ¬ 600 < (bltS (setT S (tset S.2.2.1 p (some w)))).length from fun z => by
          have z : 600 < (blt S.2.1 S.1 (tset S.2.2.1 p (some w)) (pcF S)).length := z
          have q : ((blt S.2.1 S.1 (tset S.2.2.1 p (some w)) (pcF S)).length : Int) ≤ 600 := q
          omega)]
        refine pq_call (r_holdsTold (p := p) (t := w) hM3.1.2.2.1 (by omega) tset_eq) (fun y hy => ?_)
        obtain ⟨σ4, rfl, m1, m2⟩ := hy
        have hM4 := RM_frx hM3 m2 (fun q => by omega) (fun k h1 h2 q => by omega) ⟨fun q => q, fun q => q⟩
        refine pq_call (r_remPair (p := p) hM4 e2 m1 hw) (fun y hy => ?_)
        obtain ⟨σ5, rfl, n1, n2⟩ := hy
        exact pq_ret ⟨σ5, rfl, fun _ => n1, frx_tr hF3 (frx_tr (frx_mono m2 (fun k hk => by omega) (fun k hk => absurd hk id)) (frx_mono n2 (fun k hk => Or.inl hk) (fun k hk => absurd hk id)))⟩
      · rw [if_pos (show 600 < (bltS (setT S (tset S.2.2.1 p (some w)))).length from by
          have q : (600 : Int) < ((blt S.2.1 S.1 (tset S.2.2.1 p (some w)) (pcF S)).length : Int) := q
          show 600 < (blt S.2.1 S.1 (tset S.2.2.1 p (some w)) (pcF S)).length
          omega)]
        exact pq_ret (bad_a (by decide) hF3)
  · have ed : decide (0 ≤ v.toInt ∧ v.toInt < ((pcF S).length : Int)) = false := decide_eq_false hin
    rw [ed]
    have ef : tlA S v w = (1, S) := if_neg hin
    rw [ef]
    exact pq_t rfl (pq_ret (bad_a (by decide) frx_rfl))
end RTL
