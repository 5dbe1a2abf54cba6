/-! the reference's questions: what is held stays held -/
abbrev RA8 : Nat → Prop := fun k => 13 ≤ k
abbrev FA8 : Nat → Prop := fun k => k = 0 ∨ k = 16 ∨ 22 ≤ k
section RQR
variable {σ : RS9} {V : SPV}
theorem f0_9 {x : Int32} : FRX R49 FQ9 σ (rSf σ 0 x) := ⟨fun _ _ => rfl, fun k hk => sf_ne (fun q => hk (Or.inl q))⟩
theorem RR_q {α : Type} {y : α × RS9} (h : RR9 σ V) (hq : QF9 σ y) : RR9 y.2 V := RR_frx h hq (fun k hk q => by omega) (fun k hk q => by omega)
theorem q_builds (h : RR9 σ V) (hS : SV V.2.1) {Q : Int32 × RS9 → Prop} {k : Int32 × RS9 → Option (Int32 × RS9)} {x : Int32} (hk : ∀ v σ', FRX R49 FQ9 σ σ' → PQ (k (v, σ')) Q) : PQ ((mX9_builds (rSf σ 0 x)).bind k) Q := by
  have h0 := RR_f0 (x := x) h
  refine pq_call (r_builds (RM_BV h0.2.1) pcs_ord (by have := RR_4 h; omega) hS.1) (fun y hy => ?_)
  obtain ⟨σ', rfl, -, g⟩ := hy
  exact hk _ σ' (frx_tr f0_9 (frx_mono g (fun k hk => hk) (fun k hk => Or.inr hk)))
theorem q_piece {a b : Int32} (h : RR9 σ V) (hS : SV V.2.1) : PQ (mX9_piece a b σ) (QF9 σ) := by
  obtain ⟨h33, h40⟩ := RM_33 h.2.1
  have h0 := RR_f0 (x := 0) h
  unfold mX9_piece
  refine pq_isr (r_isPieceThere h33 h40) (if_01 (fun q => ?_) (fun q => ?_))
  · unfold mX9_piece_b28
    exact pq_f (show ¬ (1 : Int32) ≤ 0 by decide) (pq_ret f0_9)
  · have hin : inP V.2.1 a := of_decide_eq_true q
    obtain ⟨e1, e2⟩ := v_nI hin (by omega)
    generalize a.toInt.toNat = p at e1 e2
    subst e1
    refine pq_s9 s9_isIn (fun _ => pq_ite ?_ ?_)
    · unfold mX9_piece_b28
      exact pq_f (show ¬ (2 : Int32) ≤ 0 by decide) (pq_ret f0_9)
    · unfold mX9_piece_b28 mX9_piece_b133
      refine pq_t (show (0 : Int32) ≤ 0 by decide) ?_
      refine pq_ite (pq_ck (pq_ret f0_9)) (pq_ite (pq_ck (pq_ret f0_9)) (pq_ite (pq_ck (pq_ret f0_9)) (pq_ite (pq_s9 s9_nowMany (fun _ => pq_ret f0_9)) (pq_ite (pq_s9 s9_toldOf (fun _ => pq_ite (pq_ret f0_9) (pq_ret f0_9))) (pq_ite (pq_s9 s9_likeMany (fun _ => pq_ret f0_9)) (pq_ite (pq_s9 s9_wordsOf (fun _ => pq_ret f0_9)) (pq_ite (pq_s9 s9_knownOf (fun _ => pq_ret f0_9)) (pq_ite ?_ ?_))))))))
      · refine pq_call (r_builtOf (p := p) h0.2.1.1.2.1 h0.2.1.1.2.2.1 h0.2.1.2 pcs_ord (by have := RR_4 h; omega) hS.1 e2) (fun y hy => ?_)
        obtain ⟨σ', rfl, -, -, g⟩ := hy
        exact pq_ret (frx_tr f0_9 (frx_mono g (fun k hk => by omega) (fun k hk => Or.inr hk)))
      · unfold mX9_builtBegin
        refine pq_call (Q1 := fun y => FRX R49 FQ9 σ y.2) (q_builds h hS (fun v σ' g => pq_ck (pq_ret g))) (fun y hy => pq_ret (show FRX R49 FQ9 σ y.2 from hy))
theorem q_octet {a b c : Int32} : PQ (mX9_octet a b c σ) (QF9 σ) := by
  have b46 : ∀ s2 x : Int32, PQ (mX9_octet_b46 a b c b 0 s2 (rSf σ 0 x)) (QF9 σ) := fun s2 x => by
    unfold mX9_octet_b46 mX9_octet_b82
    exact pq_s9 s9_isIn (fun _ => pq_ite (pq_ret f0_9) (pq_ite (pq_ck (pq_ck (pq_ret f0_9))) (pq_s9 s9_nowByte (fun _ => pq_ret f0_9))))
  have b14 : ∀ s1 : Int32, PQ (mX9_octet_b14 a b c s1 σ) (QF9 σ) := fun s1 => by
    unfold mX9_octet_b14
    exact pq_ite (pq_ite (pq_ck (b46 _ _)) (pq_s9 s9_nowMany (fun _ => b46 _ _))) (pq_ret f0_9)
  unfold mX9_octet
  exact pq_s9 s9_isPT (fun _ => pq_ite (b14 _) (b14 _))
theorem q_origin {a b : Int32} : PQ (mX9_origin a b σ) (QF9 σ) := by
  have b14 : ∀ s1 : Int32, PQ (mX9_origin_b14 a b s1 σ) (QF9 σ) := fun s1 => by
    unfold mX9_origin_b14 mX9_origin_b59
    exact pq_ite (pq_ck (pq_s9 s9_isIn (fun _ => pq_ite (pq_ret f0_9) (pq_ck (pq_ck (pq_ret f0_9)))))) (pq_ret f0_9)
  unfold mX9_origin
  exact pq_s9 s9_isPT (fun _ => pq_ite (b14 _) (b14 _))
theorem q_key {a b : Int32} : PQ (mX9_key a b σ) (QF9 σ) := by
  have b27 : ∀ s1 : Int32, PQ (mX9_key_b27 a b s1 σ) (QF9 σ) := fun s1 => by
    unfold mX9_key_b27 mX9_key_b69
    exact pq_ite (pq_ck (pq_ite (pq_ite (pq_ck (pq_ret f0_9)) (pq_ck (pq_ret f0_9))) (pq_ret f0_9))) (pq_ret f0_9)
  unfold mX9_key
  exact pq_s9 s9_isPT (fun _ => pq_ite (b27 _) (pq_s9 s9_isIn (fun _ => pq_ite (b27 _) (b27 _))))
theorem q_holder {a : Int32} : PQ (mX9_holder a σ) (QF9 σ) := by
  have key : ∀ (d : Nat) (v2 : Int32), PQ (mX9_holder_l7 d a v2 (rSf σ 0 0)) (QF9 σ) := by
    intro d
    induction d with
    | zero => intro _; exact pq_none
    | succ d ih =>
      intro v2
      unfold mX9_holder_l7
      exact pq_ite (pq_ret f0_9) (pq_ck (pq_ck (pq_s9 s9_isIn (fun _ => pq_ite (ih _) (pq_ret f0_9)))))
  unfold mX9_holder
  exact key rFU 0
theorem q_at {a b : Int32} (h : RR9 σ V) (hS : SV V.2.1) : PQ (mX9_at a b σ) (QF9 σ) := by
  unfold mX9_at mX9_at_b38 mX9_at_b65
  refine pq_ite (pq_ck (pq_s9 s9_isIn (fun _ => pq_ite (pq_ret f0_9) (pq_ck (pq_ret f0_9))))) ?_
  refine q_builds h hS (fun v σ' g => pq_s9 s9_isIn (fun _ => pq_ite (pq_ret g) (pq_ck (pq_ret g))))
theorem q_like {a b : Int32} : PQ (mX9_like a b σ) (QF9 σ) := by
  have key : ∀ (x : Int32) (d : Nat) (v3 v4 : Int32), PQ (mX9_like_l31 d a b v3 v4 (rSf σ 0 x)) (QF9 σ) := by
    intro x d
    induction d with
    | zero => intro _ _; exact pq_none
    | succ d ih =>
      intro v3 v4
      unfold mX9_like_l31 mX9_like_b64
      exact pq_ite (pq_ret f0_9) (pq_s9 s9_areLike (fun _ => pq_ite (ih _ _) (pq_ite (pq_ret f0_9) (ih _ _))))
  have b14 : ∀ s1 : Int32, PQ (mX9_like_b14 a b s1 σ) (QF9 σ) := fun s1 => by
    unfold mX9_like_b14
    exact pq_ite (key s1 rFU 0 0) (pq_ret f0_9)
  unfold mX9_like
  exact pq_s9 s9_isPT (fun _ => pq_ite (b14 _) (b14 _))
theorem q_memory {a b c : Int32} : PQ (mX9_memory a b c σ) (QF9 σ) := by
  have b42 : ∀ s0 s1 : Int32, PQ (mX9_memory_b42 c s0 s1 (rSf σ 0 0)) (QF9 σ) := fun s0 s1 => by
    unfold mX9_memory_b42 mX9_memory_b77
    exact pq_ck (pq_s9 s9_isIn (fun _ => pq_ite (pq_ret f0_9) (pq_ck (pq_ret f0_9))))
  unfold mX9_memory
  exact pq_ck (pq_s9 s9_isIn (fun _ => pq_ite (pq_ret f0_9) (pq_ite (b42 _ _) (b42 _ _))))
theorem q_count {a : Int32} (h : RR9 σ V) (hS : SV V.2.1) : PQ (mX9_count a σ) (QF9 σ) := by
  have h0 := RR_f0 (x := 0) h
  unfold mX9_count
  refine pq_ite (pq_ck (pq_ret f0_9)) (pq_ite (pq_ck (pq_ret f0_9)) (pq_ite (pq_ck (pq_ret f0_9)) (pq_ite (pq_ret f0_9) (pq_ite (pq_s9 s9_toldMany (fun _ => pq_ret f0_9)) (pq_ite ?_ (pq_ite (pq_s9 s9_skeleton (fun _ => pq_ret f0_9)) (pq_ite (pq_ck (pq_ret f0_9)) (pq_ite (pq_ck (pq_ret f0_9)) (pq_ite (pq_ck (pq_ret f0_9)) (pq_ite (pq_s9 s9_unlike (fun _ => pq_ret f0_9)) (pq_ite (pq_s9 s9_allWords (fun _ => pq_ret f0_9)) (pq_ite (pq_ck (pq_ret f0_9)) (pq_ite (pq_s9 s9_longest (fun _ => pq_ret f0_9)) (pq_ite (pq_ret f0_9) (pq_ret f0_9)))))))))))))))
  refine pq_call (r_builtMany (RM_BV h0.2.1) pcs_ord (by have := RR_4 h; omega) hS.1) (fun y hy => ?_)
  obtain ⟨σ', rfl, -, g⟩ := hy
  exact pq_ret (frx_tr f0_9 (frx_mono g (fun k hk => by omega) (fun k hk => Or.inr hk)))
theorem r_would {a : Int32} (h : RR9 σ V) : PQ (mX9_would a σ) (RAN (sWould V a) wc_L_would) := by
  have h400 := h.1.2.1
  unfold mX9_would
  refine pq_call (r_tookTold h) (fun y hy => ?_)
  obtain ⟨σ1, rfl, h1, h53, -⟩ := hy
  obtain ⟨h33, h40⟩ := RM_33 h1.2.1
  unfold mX9_would_b29 mX9_would_b49
  refine pq_isr (r_isPieceThere (n := (pcF V.2.1).length) h33 h40) (if_01 (fun q => ?_) (fun q => ?_))
  · have es : sWould V a = (.inr eI, noT V) := if_neg (of_decide_eq_false q)
    rw [es]
    exact pq_f (show ¬ (1 : Int32) ≤ 0 by decide) (pq_ret ⟨RR_f0 h1, sf_eq⟩)
  · have hin : inP V.2.1 a := of_decide_eq_true q
    have es : sWould V a = if V.1.length ≤ 60 then (.inl (tdN (escFor V.2.1.2.1 (pOf V.2.1 a.toInt.toNat) V.1)), noT V) else (.inr eA, noT V) := if_pos hin
    rw [es]
    obtain ⟨e1, e2⟩ := v_nI hin (by have : (pcF V.2.1).length ≤ 40 := h40; omega)
    generalize a.toInt.toNat = p at e1 e2 ⊢
    subst e1
    refine pq_le (nI_toInt (by omega)) kt_60 (fun q1 => ?_) (fun q1 => ?_)
    · rw [if_pos (show V.1.length ≤ 60 by omega)]
      have h2 := RR_f0 (x := 0) h1
      have h53' : RLs (rSf σ1 0 0) 53 V.1 := h53 (by omega)
      refine pq_t (show (0 : Int32) ≤ 0 by decide) (pq_call (r_escFor (p := p) h2.2.1.1.2.1 h2.2.1.2 e2 h53' (by omega)) (fun y hy => ?_))
      obtain ⟨σ2, rfl, -, g⟩ := hy
      exact pq_ret ⟨RR_frx h2 g (fun k hk q => by omega) (fun k hk q => by omega), rfl, (g.2 0 (fun q => by omega)).trans sf_eq⟩
    · rw [if_neg (show ¬ V.1.length ≤ 60 by omega)]
      exact pq_f (show ¬ (2 : Int32) ≤ 0 by decide) (pq_ret ⟨RR_f0 h1, sf_eq⟩)
theorem r_foundF (h : RR9 σ V) : PQ (mX9_found σ) (fun y => RR9 y.2 (noT V)) := by
  have h1 := RR_tape0 h
  unfold mX9_found
  refine pq_isr (r_took h) (pq_isr (r_isWord (T := V.1) h.1.2.2 h.1.2.1) ?_)
  have key : ∀ (x : Int32) (d : Nat) (v1 : Int32) (v2 : Int64) (v4 : Int32), PQ (mX9_found_l36 d v1 v2 v4 (rSf (rSf σ 9 0) 0 x)) (S9 (rSf (rSf σ 9 0) 0 x)) := by
    intro x d
    induction d with
    | zero => intro _ _ _; exact pq_none
    | succ d ih =>
      intro v1 v2 v4
      unfold mX9_found_l36 mX9_found_b64
      exact pq_ite (pq_ret rfl) (pq_s9 s9_hasWord (fun _ => pq_ite (ih _ _ _) (ih _ _ _)))
  have b19 : ∀ v1 s1 : Int32, PQ (mX9_found_b19 v1 s1 (rSf σ 9 0)) (fun y => RR9 y.2 (noT V)) := fun v1 s1 => by
    unfold mX9_found_b19
    refine pq_ite (pq_tail (key s1 rFU _ _ _) (fun y hy => ?_)) (pq_ret (RR_f0 h1))
    have hy : y.2 = rSf (rSf σ 9 0) 0 s1 := hy
    rw [hy]; exact RR_f0 h1
  exact pq_ite (b19 _ _) (b19 _ _)
theorem RR_recut {σ1 : RS9} (h : RR9 σ V) (hX : FRX RA8 FA8 σ σ1) : PQ (mX9_cutsFile σ1) (fun y => RR9 y.2 V) := by
  obtain ⟨⟨a1, a2, a3⟩, b, c, d, e, f⟩ := h
  have e1 : σ1.2 1 = σ.2 1 := hX.1 1 (fun q => by omega)
  refine pq_tail (r_reread (S := V.2.1) (σ1 := σ1) (by rw [e1]; exact b.1)) (fun y hy => ?_)
  obtain ⟨σ2, rfl, g1, g2⟩ := hy
  have hXX : FRX RA8 FA8 σ σ2 := frx_tr hX (frx_mono g2 (fun k hk => by omega) (fun k hk => by omega))
  exact ⟨⟨(hXX.2 9 (fun q => by omega)).trans a1, a2, RL_frx a3 hXX (fun q => by omega)⟩, g1, PA_frx c hXX (fun q => by omega) (fun q => by omega), IM_frx d hXX (fun q => by omega) (fun q => by omega), (hXX.2 7 (fun q => by omega)).trans e, (hXX.2 12 (fun q => by omega)).trans f⟩
theorem r_cutsBuiltF (h : RR9 σ V) (hS : SV V.2.1) : PQ (mX9_cutsBuilt σ) (fun y => FRX RA8 FA8 σ y.2) := by
  have hbl : (bltS V.2.1).length ≤ 600 := hS.2.1
  unfold mX9_cutsBuilt
  refine pq_call (r_builds (RM_BV h.2.1) pcs_ord (by have := RR_4 h; omega) hS.1) (fun y hy => ?_)
  obtain ⟨σ1, rfl, hU, hF⟩ := hy
  have h49 : RLs σ1 49 (bltS V.2.1) := hU.1
  show PQ (mX9_cutsBuilt_l20 rFU (nI (bltS V.2.1).length) (σ1.1 33) (0 : Int32) (0 : Int32) (rSf σ1 59 (σ1.1 33))) _
  have hF1 : FRX RA8 FA8 σ (rSf σ1 59 (σ1.1 33)) := ⟨fun k hk => hF.1 k (fun q => hk (by omega)), fun k hk => (sf_ne (fun q => hk (by omega))).trans (hF.2 k (fun q => hk (by omega)))⟩
  have h49' : RLs (rSf σ1 59 (σ1.1 33)) 49 (bltS V.2.1) := h49
  generalize rSf σ1 59 (σ1.1 33) = s0 at hF1 h49' ⊢
  -- the row is read over
  have k99 : ∀ (d i : Nat) (s : RS9), i ≤ (bltS V.2.1).length → FRX RA8 FA8 σ s → s.1 16 = nI (bltS V.2.1).length → RLs s 49 (bltS V.2.1) → RLs s 13 ((bltS V.2.1).take i) → PQ (mX9_cutsBuilt_l99 d (nI (bltS V.2.1).length) (nI i) s) (fun y => FRX RA8 FA8 σ y.2) := by
    intro d
    induction d with
    | zero => intro i s _ _ _ _ _; exact pq_none
    | succ d ih =>
      intro i s hi hX h16 k49 k13
      unfold mX9_cutsBuilt_l99
      refine pq_le (nI_toInt (by omega)) (nI_toInt (by omega)) (fun q => ?_) (fun q => ?_)
      · have e : i = (bltS V.2.1).length := by omega
        rw [e, List.take_length] at k13
        refine pq_call (r_cutsAll (cf := V.2.1.2.1) (by rw [hX.1 1 (fun q => by omega)]; exact h.2.1.1.2.1) k13 h16 hbl) (fun y hy => ?_)
        obtain ⟨s2, rfl, -, g⟩ := hy
        exact pq_ret (frx_tr hX (frx_mono g (fun k hk => by omega) (fun k hk => by omega)))
      · have hi' : i < (bltS V.2.1).length := by omega
        rw [rd_nI (by omega), k49 i hi', nI_1]
        have fr : FRX (fun k => k = 13) NF9 s (rSa s 13 (nI i) ((bltS V.2.1).getD i 0)) := ⟨fun k hk => sa_ne hk, fun k hk => rfl⟩
        exact pq_ck (pq_ck (ih (i + 1) _ (by omega) (frx_tr hX (frx_mono fr (fun k hk => by omega) (fun k hk => absurd hk id))) h16 (RL_frx k49 fr (fun q => by omega)) (RL_53 k13 hi' rfl (by omega))))
  have k37 : ∀ (rec20 : Int32 → Int32 → Int32 → Int32 → RS9 → Option (Int32 × RS9)) (v1 v2 : Int32), (∀ (v3 v4 : Int32) (s : RS9), FRX (fun k => k = 50 ∨ k = 51) NF9 s0 s → PQ (rec20 v1 v2 v3 v4 s) (fun y => FRX RA8 FA8 σ y.2)) → ∀ (d : Nat) (v3 v4 v5 : Int32) (s : RS9), FRX (fun k => k = 50 ∨ k = 51) NF9 s0 s → PQ (mX9_cutsBuilt_l37 rec20 d v1 v2 v3 v4 v5 s) (fun y => FRX RA8 FA8 σ y.2) := by
    intro rec20 v1 v2 hr d
    induction d with
    | zero => intro _ _ _ _ _; exact pq_none
    | succ d ih =>
      intro v3 v4 v5 s hX
      unfold mX9_cutsBuilt_l37 mX9_cutsBuilt_b78
      exact pq_s9 s9_nowMany (fun _ => pq_ite (hr _ _ _ hX) (pq_ite (hr _ _ _ hX) (pq_s9 s9_nowByte (fun _ => pq_ck (ih _ _ _ _ (frx_tr hX ⟨fun k hk => sa_ne (fun q => hk (Or.inl q)), fun k hk => rfl⟩))))))
  have k20 : ∀ (d : Nat) (v2 v3 v4 : Int32) (s : RS9), FRX (fun k => k = 50 ∨ k = 51) NF9 s0 s → PQ (mX9_cutsBuilt_l20 d (nI (bltS V.2.1).length) v2 v3 v4 s) (fun y => FRX RA8 FA8 σ y.2) := by
    intro d
    induction d with
    | zero => intro _ _ _ _ _; exact pq_none
    | succ d ih =>
      intro v2 v3 v4 s hX
      have fr : ∀ x : Int32, FRX (fun k => k = 50 ∨ k = 51) NF9 s (rSa s 51 x v3) := fun x => ⟨fun k hk => sa_ne (fun q => hk (Or.inr q)), fun k hk => rfl⟩
      unfold mX9_cutsBuilt_l20
      refine pq_ite (pq_ck ?_) (pq_ck (k37 (fun v1 v2 v3 v4 σ => mX9_cutsBuilt_l20 d v1 v2 v3 v4 σ) _ _ (fun v3 v4 s2 g => ih _ _ _ _ g) rFU _ _ _ _ (frx_tr hX (fr _))))
      have hX2 := frx_tr hX (fr v2)
      have fr2 : FRX NO9 (fun k => k = 16) (rSa s 51 v2 v3) (rSf (rSa s 51 v2 v3) 16 (nI (bltS V.2.1).length)) := ⟨fun _ _ => rfl, fun k hk => sf_ne hk⟩
      exact k99 rFU 0 _ (Nat.zero_le _) (frx_tr hF1 (frx_tr (frx_mono hX2 (fun k hk => by omega) (fun k hk => absurd hk id)) (frx_mono fr2 (fun k hk => absurd hk id) (fun k hk => by omega)))) sf_eq (RL_frx (RL_frx h49' hX2 (fun q => by omega)) fr2 (fun q => q)) (fun i hi => absurd hi (by rw [List.take_zero]; exact Nat.not_lt_zero _))
  exact k20 rFU _ _ _ s0 frx_rfl
theorem r_twiceF (h : RR9 σ V) (hS : SV V.2.1) : PQ (mX9_twice σ) (fun y => RR9 y.2 V) := by
  have h0 := RR_f0 (x := 0) h
  unfold mX9_twice
  refine pq_call (r_cutsBuiltF h0 hS) (fun y hX => ?_)
  obtain ⟨v, σ1⟩ := y
  have hX : FRX RA8 FA8 (rSf σ 0 0) σ1 := hX
  have b53 : ∀ v1 : Int32, PQ (mX9_twice_b53 v1 σ1) (fun y => RR9 y.2 V) := fun v1 => by
    unfold mX9_twice_b53
    exact pq_call (RR_recut h0 hX) (fun y hy => pq_ck (pq_ret hy))
  have key : ∀ (d : Nat) (v1 v2 : Int32), PQ (mX9_twice_l28 d v1 v2 σ1) (fun y => RR9 y.2 V) := by
    intro d
    induction d with
    | zero => intro _ _; exact pq_none
    | succ d ih =>
      intro v1 v2
      unfold mX9_twice_l28
      exact pq_ite (b53 _) (pq_ite (b53 _) (pq_s9 s9_isNow (fun _ => ih _ _)))
  unfold mX9_twice_b25
  exact pq_ite (key rFU _ _) (key rFU _ _)
theorem r_keptF {a : Int32} (h : RR9 σ V) (hS : SV V.2.1) : PQ (mX9_kept a σ) (fun y => RR9 y.2 V) := by
  have b14 : ∀ s1 : Int32, PQ (mX9_kept_b14 a s1 σ) (fun y => RR9 y.2 V) := fun s1 => by
    have h0 := RR_f0 (x := s1) h
    unfold mX9_kept_b14
    refine pq_ite ?_ (pq_ck (pq_ret h0))
    refine pq_call (r_cutsBuiltF h0 hS) (fun y hX => ?_)
    obtain ⟨v, σ1⟩ := y
    have hX : FRX RA8 FA8 (rSf σ 0 s1) σ1 := hX
    have key : ∀ (d : Nat) (v2 v3 v4 : Int32), PQ (mX9_kept_l66 d a v2 v3 v4 σ1) (fun y => RR9 y.2 V) := by
      intro d
      induction d with
      | zero => intro _ _ _; exact pq_none
      | succ d ih =>
        intro v2 v3 v4
        unfold mX9_kept_l66 mX9_kept_b117 mX9_kept_b131 mX9_kept_b127 mX9_kept_b132
        have e117 := pq_s9 (Q := fun y => RR9 y.2 V) (s9_isNow (σ := σ1) (a := v4) (b := a)) (k := fun r1 => if r1.1 = (0 : Int32) then mX9_kept_l66 d a v2 0 (v4 + 1) r1.2 else mX9_kept_l66 d a v2 1 (v4 + 1) r1.2) (fun _ => pq_ite (ih _ _ _) (ih _ _ _))
        exact pq_ite (pq_call (RR_recut h0 hX) (fun y hy => pq_ck (pq_ret hy))) (pq_ite (pq_ck (pq_ck (pq_ite e117 (pq_ite (ih _ _ _) (pq_ck (pq_ck (pq_ite e117 (ih _ _ _)))))))) (ih _ _ _))
    unfold mX9_kept_b59 mX9_kept_b60
    exact pq_s9 s9_toldOf (fun _ => pq_ite (key rFU _ _ _) (pq_ck (pq_ck (pq_ite (key rFU _ _ _) (key rFU _ _ _)))))
  unfold mX9_kept
  exact pq_s9 s9_isPT (fun _ => pq_ite (b14 _) (b14 _))
end RQR
