/-! the reference's calls: the tape, file, undo, image, back -/
section RCM
variable {σ : RS9} {V : SPV}
theorem RR_tape {σ' : RS9} {T : BL} {R F : Nat → Prop} (h : RR9 σ V) (h1 : σ'.1 9 = nI T.length) (h2 : T.length ≤ 400) (h3 : RLs σ' 8 T) (hX : FRX R F σ σ') (hR : ∀ k, (k = 1 ∨ k = 3 ∨ k = 4 ∨ (34 ≤ k ∧ k ≤ 44)) → ¬ R k) (hF : ∀ k, (k = 5 ∨ k = 6 ∨ k = 7 ∨ k = 12 ∨ k = 33 ∨ k = 45) → ¬ F k) : RR9 σ' (T, V.2) := by
  obtain ⟨-, b, c, d, e, f⟩ := h
  exact ⟨⟨h1, h2, h3⟩, RM_frx b hX (hR _ (by omega)) (fun k h1 h2 => hR k (by omega)) ⟨hF _ (by omega), hF _ (by omega)⟩, PA_frx c hX (hR _ (by omega)) (hF _ (by omega)), IM_frx d hX (hR _ (by omega)) (hF _ (by omega)), (hX.2 7 (hF _ (by omega))).trans e, (hX.2 12 (hF _ (by omega))).trans f⟩
theorem r_fault (h : RR9 σ V) : PQ (mX9_fault σ) (RAI (V.2.2.2.2.2, V)) := by
  unfold mX9_fault
  exact pq_ret ⟨RR_f0 h, h.2.2.2.2.2⟩
theorem r_why (h : RR9 σ V) : PQ (mX9_why σ) (RAI (V.2.2.2.2.1, V)) := by
  unfold mX9_why
  exact pq_ret ⟨RR_f0 h, h.2.2.2.2.1⟩
theorem r_end {m : Int32} (h : RR9 σ V) : PQ (mX9_end m σ) (RAI (sEnd V m)) := by
  have h400 := h.1.2.1
  unfold mX9_end
  refine pq_isr r_isIn ?_
  rw [h.1.1, kt_0, nI_toInt (by omega)]
  unfold sEnd
  refine if_01 (fun q => ?_) (fun q => ?_)
  · rw [if_neg (of_decide_eq_false q)]
    exact pq_ck (pq_ret ⟨RR_f0 h, rfl⟩)
  · have q := of_decide_eq_true q
    rw [if_pos q]
    have hX : FRX NO9 (fun k => k = 0 ∨ k = 9) σ (rSf (rSf σ 0 0) 9 m) := ⟨fun _ _ => rfl, fun k hk => (sf_ne (fun z => hk (Or.inr z))).trans (sf_ne (fun z => hk (Or.inl z)))⟩
    have hl : (V.1.take m.toInt.toNat).length = m.toInt.toNat := by rw [List.length_take]; omega
    refine pq_ck (pq_ret ⟨RR_tape h ?_ (by rw [hl]; omega) (fun i hi => ?_) hX (fun k _ z => z) (fun k hk z => by omega), rfl⟩)
    · rw [hl]
      exact sf_eq.trans (nI_x q.1 (by omega))
    · rw [hl] at hi
      rw [List.getD_eq_getElem?_getD, List.getElem?_take, if_pos hi, ← List.getD_eq_getElem?_getD]
      exact h.1.2.2 i (by omega)
theorem feed_b : ∀ k : Fin 20, (24 : Int32) - (8 : Int32) * (nI (k : Nat) - nI (k : Nat) / (4 : Int32) * (4 : Int32)) = nI (24 - 8 * ((k : Nat) % 4)) := by decide
theorem f20_len {a b c d e : Int32} : (f4 a ++ f4 b ++ f4 c ++ f4 d ++ f4 e).length = 20 := rfl
theorem r_feed {a b c d e : Int32} (h : RR9 σ V) : PQ (mX9_feed a b c d e σ) (RAI (sFeed V a b c d e)) := by
  have h400 := h.1.2.1
  unfold mX9_feed sFeed
  rw [h.1.1]
  refine pq_le (i_add (nI_toInt (by omega)) (show (20 : Int32).toInt = 20 by decide) (by omega)) (show (400 : Int32).toInt = 400 by decide) (fun q => ?_) (fun q => ?_)
  · rw [if_pos (by omega)]
    generalize hB : f4 a ++ f4 b ++ f4 c ++ f4 d ++ f4 e = B
    have hBl : B.length = 20 := by rw [← hB]; rfl
    have eB : V.1 ++ f4 a ++ f4 b ++ f4 c ++ f4 d ++ f4 e = V.1 ++ B := by
      rw [← hB]; simp only [List.append_assoc]
    rw [eB]
    have key : ∀ (n i : Nat) (σ1 : RS9), i ≤ 20 → FRX (fun k => k = 8) (fun k => k = 0 ∨ k = 9) σ σ1 → σ1.1 9 = nI (V.1.length + i) → RLs σ1 8 (V.1 ++ B.take i) → PQ (mX9_feed_l23 n a b c d e (nI i) σ1) (RAI (nI (V.1.length + 20), (V.1 ++ B, V.2))) := by
      intro n
      induction n with
      | zero => intro i σ1 _ _ _ _; exact pq_none
      | succ n ih =>
        intro i σ1 hi hX h9 hR
        unfold mX9_feed_l23
        refine pq_le (show (20 : Int32).toInt = 20 by decide) (nI_toInt (by omega)) (fun q1 => ?_) (fun q1 => ?_)
        · have ei : i = 20 := by omega
          subst ei
          rw [h9]
          have hR2 : RLs σ1 8 (V.1 ++ B) := by
            have : B.take 20 = B := by rw [← hBl, List.take_length]
            rw [this] at hR; exact hR
          exact pq_ret ⟨RR_tape h (by rw [h9, List.length_append, hBl]) (by rw [List.length_append, hBl]; omega) hR2 hX (fun k hk z => by omega) (fun k hk z => by omega), rfl⟩
        · have hi' : i < 20 := by omega
          have b76 : ∀ s0 : Int32, by4 s0 (nI (24 - 8 * (i % 4))) = B.getD i 0 → PQ (mX9_feed_b76 (fun v1 v2 v3 v4 v5 v6 σ => mX9_feed_l23 n v1 v2 v3 v4 v5 v6 σ) a b c d e (nI i) s0 σ1) (RAI (nI (V.1.length + 20), (V.1 ++ B, V.2))) := fun s0 hs => by
            unfold mX9_feed_b76
            have es : (s0.toUInt32 >>> (((24 : Int32) - (8 : Int32) * (nI i - nI i / (4 : Int32) * (4 : Int32))).toUInt32 &&& Int32.toUInt32 31)).toInt32 &&& (255 : Int32) = B.getD i 0 := by
              rw [feed_b ⟨i, hi'⟩]; exact hs
            rw [es, h9, nI_1, nI_1]
            have el : (V.1 ++ B.take i).length = V.1.length + i := by rw [List.length_append, List.length_take]; omega
            have h4 := RL_put (c := B.getD i 0) hR (by omega)
            rw [el, List.append_assoc] at h4
            have e5 : B.take (i + 1) = B.take i ++ [B.getD i 0] := by
              rw [List.take_succ, List.getD_eq_getElem?_getD, List.getElem?_eq_getElem (by omega)]; rfl
            refine pq_ck (ih (i + 1) _ (by omega) (frx_tr hX ⟨fun k hk => sa_ne hk, fun k hk => sf_ne (fun z => hk (Or.inr z))⟩) ?_ ?_)
            · rw [sf_eq]; rfl
            · rw [e5]; exact h4
          have t4 : (4 : Int32).toInt = 4 := by decide
          have t8 : (8 : Int32).toInt = 8 := by decide
          have t12 : (12 : Int32).toInt = 12 := by decide
          have t16 : (16 : Int32).toInt = 16 := by decide
          refine pq_le t4 (nI_toInt (by omega)) (fun q2 => pq_le t8 (nI_toInt (by omega)) (fun q3 => pq_le t12 (nI_toInt (by omega)) (fun q4 => pq_le t16 (nI_toInt (by omega)) (fun q5 => b76 e ?_) (fun q5 => b76 d ?_)) (fun q4 => b76 c ?_)) (fun q3 => b76 b ?_)) (fun q2 => b76 a ?_)
          · rw [← hB]
            rcases (by omega : i = 16 ∨ i = 17 ∨ i = 18 ∨ i = 19) with z | z | z | z <;> subst z <;> rfl
          · rw [← hB]
            rcases (by omega : i = 12 ∨ i = 13 ∨ i = 14 ∨ i = 15) with z | z | z | z <;> subst z <;> rfl
          · rw [← hB]
            rcases (by omega : i = 8 ∨ i = 9 ∨ i = 10 ∨ i = 11) with z | z | z | z <;> subst z <;> rfl
          · rw [← hB]
            rcases (by omega : i = 4 ∨ i = 5 ∨ i = 6 ∨ i = 7) with z | z | z | z <;> subst z <;> rfl
          · rw [← hB]
            rcases (by omega : i = 0 ∨ i = 1 ∨ i = 2 ∨ i = 3) with z | z | z | z <;> subst z <;> rfl
    exact key rFU 0 _ (by omega) ⟨fun _ _ => rfl, fun k hk => sf_ne (fun z => hk (Or.inl z))⟩ ((sf_ne (by decide)).trans h.1.1) (by rw [List.take_zero, List.append_nil]; exact h.1.2.2)
  · rw [if_neg (by omega)]
    exact pq_ret ⟨RR_f0 h, rfl⟩
theorem PA_nil {σ' : RS9} (h : σ'.1 5 = 0) : PA9 σ' [] := ⟨h, Nat.zero_le _, fun i Q hq => by cases hq⟩
theorem r_file (h : RR9 σ V) : PQ (mX9_file σ) (RAI (sFile V)) := by
  have h400 := h.1.2.1
  have hT := h.1.2.2
  have hf0 : RR9 (rSf σ 0 0) V := RR_f0 h
  unfold mX9_file
  refine pq_isr (r_took hf0) (pq_ck ?_)
  have off0 : ∀ z, z ≠ 0 → (rSa (rSf (rSf σ 0 0) 9 0) 1 (0 : Int32) (nI V.1.length)).2 1 z = σ.2 1 z := fun z hz => by
    rw [show (0 : Int32) = nI 0 from rfl, up_nI (by omega), if_neg hz]; rfl
  have key : ∀ (n i : Nat) (σ1 : RS9), i ≤ V.1.length → FRX (fun k => k = 1) (fun k => k = 0 ∨ k = 9) σ σ1 → σ1.1 9 = 0 → σ1.2 1 0 = nI V.1.length → (∀ k, k < i → σ1.2 1 (43 + k) = V.1.getD k 0) → (∀ z, ((1 ≤ z ∧ z < 43) ∨ 443 ≤ z) → σ1.2 1 z = σ.2 1 z) → PQ (mX9_file_l19 n (nI V.1.length) (nI i) σ1) (RAI (sFile V)) := by
    intro n
    induction n with
    | zero => intro i σ1 _ _ _ _ _ _; exact pq_none
    | succ n ih =>
      intro i σ1 hi hX h9 h0 hk hz
      unfold mX9_file_l19
      refine pq_le (nI_toInt (by omega)) (nI_toInt (by omega)) (fun q => ?_) (fun q => ?_)
      · have ei : i = V.1.length := by omega
        subst ei
        have hM := h.2.1.1.2.1
        have hMC : MC (σ1.2 1) V.2.1.2.1 := by
          obtain ⟨h1, h2, h3, h4, h5, h6, h7⟩ := hM
          have hl4 := h7.2.2.2.2.1
          exact ⟨(hz 1 (by omega)).trans h1, (hz 2 (by omega)).trans h2, (hz 3 (by omega)).trans h3, (hz 4 (by omega)).trans h4, (hz 5 (by omega)).trans h5, fun l hl => ⟨(hz _ (by omega)).trans (h6 l hl).1, fun k hk => (hz _ (by have := cf_lk h7 hl; omega)).trans ((h6 l hl).2 k hk)⟩, h7⟩
        refine pq_call (r_cutsAnew (F := V.1) (mem := V.2.1.2.2.2) ⟨⟨h0, h400⟩, hk⟩ hMC (PR9_ext h.2.1.1.2.2.2 (hz 42 (by omega)) (fun i h1 _ => hz i (by omega)))) (fun y hy => ?_)
        obtain ⟨σ2, rfl, m1, m2⟩ := hy
        have hXX : FRX RA9 (fun k => k = 0 ∨ k = 9 ∨ FA9 k) σ σ2 := frx_tr (frx_mono hX (fun k hk => Or.inl hk) (fun k hk => by omega)) (frx_mono m2 (fun k hk => hk) (fun k hk => Or.inr (Or.inr hk)))
        have h5 : FRX NO9 (fun k => k = 5) σ2 (rSf σ2 5 0) := ⟨fun _ _ => rfl, fun k hk => sf_ne hk⟩
        refine pq_ret ⟨⟨⟨(sf_ne (by decide)).trans ((m2.2 9 (fun q => by omega)).trans h9), Nat.zero_le _, fun i hi => absurd hi (Nat.not_lt_zero _)⟩, RM_frx m1 h5 (fun q => q) (fun k _ _ q => q) ⟨fun q => by omega, fun q => by omega⟩, PA_nil sf_eq, IM_frx h.2.2.2.1 (frx_tr (frx_mono hXX (fun k hk => hk) (fun k hk => Or.inr hk)) (frx_mono h5 (fun k hk => absurd hk id) (fun k hk => Or.inl hk))) (fun q => by omega) (fun q => by omega), ?_, ?_⟩, (RM_33 m1).1⟩
        · exact (sf_ne (by decide)).trans ((hXX.2 7 (fun q => by omega)).trans h.2.2.2.2.1)
        · exact (sf_ne (by decide)).trans ((hXX.2 12 (fun q => by omega)).trans h.2.2.2.2.2)
      · have hi' : i < V.1.length := by omega
        have e8 : σ1.2 8 i = V.1.getD i 0 := by rw [hX.1 8 (fun q => by omega)]; exact hT i hi'
        rw [show (43 : Int32) + nI i = nI (43 + i) from nI_add 43 i, rd_nI (by omega), e8, nI_1]
        refine pq_ck (pq_ck (ih (i + 1) _ (by omega) (frx_tr hX ⟨fun k hk => sa_ne hk, fun k hk => rfl⟩) h9 ?_ (fun k hk2 => ?_) (fun z hz2 => ?_)))
        · rw [up_nI (by omega), if_neg (by omega)]; exact h0
        · rw [up_nI (by omega)]
          by_cases e : k = i
          · rw [if_pos (by rw [e]), e]
          · rw [if_neg (by omega)]; exact hk k (by omega)
        · rw [up_nI (by omega), if_neg (by omega)]; exact hz z hz2
  refine key rFU 0 _ (Nat.zero_le _) ⟨fun k hk => sa_ne hk, fun k hk => (sf_ne (fun z => hk (Or.inr z))).trans (sf_ne (fun z => hk (Or.inl z)))⟩ (show (rSf (rSf σ 0 0) 9 0).1 9 = 0 from sf_eq) ?_ (fun k hk => absurd hk (Nat.not_lt_zero _)) (fun z hz => off0 z (by omega))
  rw [show (0 : Int32) = nI 0 from rfl, up_nI (by omega), if_pos rfl]
/-- the row is read back from elsewhere, and the file cut -/
theorem r_reread {S : SST} {σ1 : RS9} (h : MR9 (σ1.2 1) S) : PQ (mX9_cutsFile σ1) (fun y => ∃ σ', y = (0, σ') ∧ RM9 σ' S ∧ FRX RK9 FK9 σ1 σ') := by
  refine pq_tail (r_cutsFile h.1 h.2.1) (fun y hy => ?_)
  obtain ⟨σ2, rfl, h1, h2⟩ := hy
  exact ⟨σ2, rfl, ⟨by rw [h2.1 1 (fun q => by omega)]; exact h, h1⟩, h2⟩
theorem r_undo (h : RR9 σ V) : PQ (mX9_undo σ) (RAN (sUndo V) wc_L_undo) := by
  obtain ⟨p1, p2, p3⟩ := h.2.2.1
  unfold mX9_undo mX9_undo_b13 sUndo
  rw [p1]
  refine pq_eqi (nI_toInt (by omega)) kt_0 (fun q => ?_) (fun q => ?_)
  · rw [if_pos (show V.2.2.1.length = 0 by have := q; omega)]
    exact pq_f (show ¬ (1 : Int32) ≤ 0 by decide) (pq_ret ⟨RR_f0 h, sf_eq⟩)
  · have hn0 : V.2.2.1.length ≠ 0 := fun z => q (by rw [z]; rfl)
    rw [if_neg hn0]
    refine pq_t (show (0 : Int32) ≤ 0 by decide) ?_
    rw [show nI V.2.2.1.length - (1 : Int32) = nI (V.2.2.1.length - 1) from nI_sb (b := 1) (by omega) (by omega)]
    have hlast : V.2.2.1[V.2.2.1.length - 1]? = some (lastS V) := by
      unfold lastS
      rw [List.getD_eq_getElem?_getD, List.getElem?_eq_getElem (by omega)]; rfl
    have hML := p3 _ _ hlast
    generalize hu : V.2.2.1.length - 1 = u at hlast hML
    have key : ∀ (n i : Nat) (σ1 : RS9), i ≤ 4347 → FRX (fun k => k = 1) (fun k => k = 0 ∨ k = 5) σ σ1 → σ1.1 5 = nI u → σ1.1 0 = 0 → (∀ z, z < i → σ1.2 1 z = σ.2 4 (4347 * u + z)) → PQ (mX9_undo_l37 n (nI i) σ1) (RAN (.inl (nI u), (V.1, lastS V, V.2.2.1.take u, V.2.2.2.1, V.2.2.2.2.1, V.2.2.2.2.2)) wc_L_undo) := by
      intro n
      induction n with
      | zero => intro i σ1 _ _ _ _ _; exact pq_none
      | succ n ih =>
        intro i σ1 hi hX h5 h0 hz
        unfold mX9_undo_l37
        refine pq_le (show (4347 : Int32).toInt = 4347 by decide) (nI_toInt (by omega)) (fun q => ?_) (fun q => ?_)
        · have e : i = 4347 := by omega
          subst e
          refine pq_call (r_reread (MR9_ext hML hz)) (fun y hy => ?_)
          obtain ⟨σ2, rfl, m1, m2⟩ := hy
          have hXX : FRX (fun k => k = 1 ∨ RK9 k) (fun k => k = 0 ∨ k = 5 ∨ FK9 k) σ σ2 := frx_tr (frx_mono hX (fun k hk => Or.inl hk) (fun k hk => by omega)) (frx_mono m2 (fun k hk => Or.inr hk) (fun k hk => Or.inr (Or.inr hk)))
          have e5 : σ2.1 5 = nI u := (m2.2 5 (fun q => by omega)).trans h5
          refine pq_ret ⟨⟨⟨(hXX.2 9 (fun q => by omega)).trans h.1.1, h.1.2.1, RL_frx h.1.2.2 hXX (fun q => by omega)⟩, m1, ⟨e5.trans (by rw [List.length_take]; congr 1; omega), by rw [List.length_take]; omega, fun j Q hq => ?_⟩, IM_frx h.2.2.2.1 hXX (fun q => by omega) (fun q => by omega), (hXX.2 7 (fun q => by omega)).trans h.2.2.2.2.1, (hXX.2 12 (fun q => by omega)).trans h.2.2.2.2.2⟩, e5, (m2.2 0 (fun q => by omega)).trans h0⟩
          rw [hXX.1 4 (fun q => by omega)]
          have hj : j < u := by
            have := (List.getElem?_eq_some_iff.mp hq).1
            rw [List.length_take] at this; omega
          rw [List.getElem?_take, if_pos hj] at hq
          exact p3 j Q hq
        · rw [h5, nI_43, rd_nI (by omega), hX.1 4 (fun q => by omega), nI_1]
          refine pq_ck (pq_ck (ih (i + 1) _ (by omega) (frx_tr hX ⟨fun k hk => sa_ne hk, fun k hk => rfl⟩) h5 h0 (fun z hz2 => ?_)))
          rw [up_nI (by omega)]
          by_cases e : z = i
          · rw [if_pos e, e]
          · rw [if_neg e]; exact hz z (by omega)
    exact key rFU 0 _ (by omega) ⟨fun _ _ => rfl, fun k hk => (sf_ne (fun z => hk (Or.inr z))).trans (sf_ne (fun z => hk (Or.inl z)))⟩ sf_eq ((sf_ne (by decide)).trans sf_eq) (fun z hz => absurd hz (Nat.not_lt_zero _))
theorem r_image (h : RR9 σ V) : PQ (mX9_image σ) (RAI (sImage V)) := by
  have hf := RR_f0 (x := 0) h
  unfold mX9_image
  have key : ∀ (n i : Nat) (σ1 : RS9), i ≤ 4347 → FRX (fun k => k = 3) NF9 (rSf σ 0 0) σ1 → (∀ z, z < i → σ1.2 3 z = σ.2 1 z) → PQ (mX9_image_l7 n (nI i) σ1) (RAI (sImage V)) := by
    intro n
    induction n with
    | zero => intro i σ1 _ _ _; exact pq_none
    | succ n ih =>
      intro i σ1 hi hX hz
      unfold mX9_image_l7
      refine pq_le (show (4347 : Int32).toInt = 4347 by decide) (nI_toInt (by omega)) (fun q => ?_) (fun q => ?_)
      · have e : i = 4347 := by omega
        subst e
        have hXX : FRX (fun k => k = 3) (fun k => k = 6) (rSf σ 0 0) (rSf σ1 6 1) := ⟨fun k hk => hX.1 k hk, fun k hk => (sf_ne hk).trans (hX.2 k (fun q => q))⟩
        obtain ⟨⟨a1, a2, a3⟩, b, c, d, e, f⟩ := hf
        refine pq_ck (pq_ret ⟨⟨⟨(hXX.2 9 (fun q => by omega)).trans a1, a2, RL_frx a3 hXX (fun q => by omega)⟩, RM_frx b hXX (fun q => by omega) (fun k h1 h2 q => by omega) ⟨fun q => by omega, fun q => by omega⟩, PA_frx c hXX (fun q => by omega) (fun q => by omega), ⟨sf_eq, fun Q hQ => ?_⟩, (hXX.2 7 (fun q => by omega)).trans e, (hXX.2 12 (fun q => by omega)).trans f⟩, rfl⟩)
        have hQ : some V.2.1 = some Q := hQ
        cases hQ
        exact MR9_ext h.2.1.1 hz
      · rw [rd_nI (by omega), hX.1 1 (fun q => by omega), nI_1]
        refine pq_ck (pq_ck (ih (i + 1) _ (by omega) (frx_tr hX ⟨fun k hk => sa_ne hk, fun k hk => rfl⟩) (fun z hz2 => ?_)))
        rw [sa_nI (by omega)]
        by_cases e : z = i
        · rw [if_pos e, e]; rfl
        · rw [if_neg e]; exact hz z (by omega)
  exact key rFU 0 _ (Nat.zero_le _) frx_rfl (fun z hz => absurd hz (Nat.not_lt_zero _))
theorem r_back (h : RR9 σ V) : PQ (mX9_back σ) (RAI (sBack V)) := by
  obtain ⟨i1, i2⟩ := h.2.2.2.1
  unfold mX9_back
  rw [i1]
  cases hI : V.2.2.2.1 with
  | none =>
    have e : sBack V = (0, V) := by
      unfold sBack
      rw [hI]
    rw [e]
    exact pq_t rfl (pq_ck (pq_ret ⟨RR_f0 h, rfl⟩))
  | some I =>
    have e : sBack V = (1, (V.1, I, [], some I, V.2.2.2.2.1, V.2.2.2.2.2)) := by
      unfold sBack
      rw [hI]
    rw [e]
    have hMI := i2 I hI
    refine pq_f (show ¬ (1 : Int32) = 0 by decide) ?_
    have key : ∀ (n i : Nat) (σ1 : RS9), i ≤ 4347 → FRX (fun k => k = 1) (fun k => k = 0) σ σ1 → (∀ z, z < i → σ1.2 1 z = σ.2 3 z) → PQ (mX9_back_l16 n (nI i) σ1) (RAI (1, (V.1, I, [], some I, V.2.2.2.2.1, V.2.2.2.2.2))) := by
      intro n
      induction n with
      | zero => intro i σ1 _ _ _; exact pq_none
      | succ n ih =>
        intro i σ1 hi hX hz
        unfold mX9_back_l16
        refine pq_le (show (4347 : Int32).toInt = 4347 by decide) (nI_toInt (by omega)) (fun q => ?_) (fun q => ?_)
        · have e : i = 4347 := by omega
          subst e
          refine pq_call (r_reread (MR9_ext hMI hz)) (fun y hy => ?_)
          obtain ⟨σ2, rfl, m1, m2⟩ := hy
          have hXX : FRX (fun k => k = 1 ∨ RK9 k) (fun k => k = 0 ∨ k = 5 ∨ FK9 k) σ (rSf σ2 5 0) := ⟨fun k hk => (m2.1 k (fun q => hk (Or.inr q))).trans (hX.1 k (fun q => hk (Or.inl q))), fun k hk => (sf_ne (fun q => hk (by omega))).trans ((m2.2 k (fun q => hk (Or.inr (Or.inr q)))).trans (hX.2 k (fun q => hk (Or.inl q))))⟩
          have h5 : FRX NO9 (fun k => k = 5) σ2 (rSf σ2 5 0) := ⟨fun _ _ => rfl, fun k hk => sf_ne hk⟩
          have him := IM_frx h.2.2.2.1 hXX (fun q => by omega) (fun q => by omega)
          rw [hI] at him
          exact pq_ck (pq_ret ⟨⟨⟨(hXX.2 9 (fun q => by omega)).trans h.1.1, h.1.2.1, RL_frx h.1.2.2 hXX (fun q => by omega)⟩, RM_frx m1 h5 (fun q => q) (fun k _ _ q => q) ⟨fun q => by omega, fun q => by omega⟩, PA_nil sf_eq, him, (hXX.2 7 (fun q => by omega)).trans h.2.2.2.2.1, (hXX.2 12 (fun q => by omega)).trans h.2.2.2.2.2⟩, rfl⟩)
        · rw [rd_nI (by omega), hX.1 3 (fun q => by omega), nI_1]
          refine pq_ck (pq_ck (ih (i + 1) _ (by omega) (frx_tr hX ⟨fun k hk => sa_ne hk, fun k hk => rfl⟩) (fun z hz2 => ?_)))
          rw [up_nI (by omega)]
          by_cases e : z = i
          · rw [if_pos e, e]
          · rw [if_neg e]; exact hz z (by omega)
    exact key rFU 0 _ (Nat.zero_le _) ⟨fun _ _ => rfl, fun k hk => sf_ne hk⟩ (fun z hz => absurd hz (Nat.not_lt_zero _))
end RCM
