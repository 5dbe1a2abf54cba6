/-! the class's cut: a piece is settled -/
abbrev pcV (b e tf ts kb ks q qi fi x9 x10 x11 : Int32) : List Value := [.int b, .int e, .int tf, .int ts, .int kb, .int ks, .int q, .int qi, .int fi, .int x9, .int x10, .int x11]
def okP (v : Option AE) : Prop := ∃ b e tf ts kb ks q qi fi x9 x10 x11, v = some (.inr (3, pcV b e tf ts kb ks q qi fi x9 x10 x11))
def daP (v : Option AE) (x : Pc) (tf : Nat) : Prop := ∃ x9 x10 x11, v = some (.inr (3, pcV (nI x.1) (nI x.2.1) (nI tf) (nI (pX x).length) (nI x.2.2.2.2.2.1) (nI x.2.2.2.2.2.2.1) (bI x.2.2.1) (bI x.2.2.2.1) (bI x.2.2.2.2.1) x9 x10 x11))
theorem daP_ok {v : Option AE} {x : Pc} {tf : Nat} (h : daP v x tf) : okP v := by
  obtain ⟨x9, x10, x11, e⟩ := h
  exact ⟨_, _, _, _, _, _, _, _, _, x9, x10, x11, e⟩
/-- the cut's pieces -/
def CB (f : AH) (c0 : Nat) (P : List Pc) : Prop := f c0 = some (.inr (1, cuL c0 (nI P.length))) ∧ (∃ g : Nat → Option Nat, f (c0 + 15) = some (.inl (1, 40, .inr (.inr g))) ∧ ∀ i, i < 40 → g i = some (c0 + 16 + i)) ∧ (∀ i, i < 40 → okP (f (c0 + 16 + i))) ∧ (∀ i, i < P.length → daP (f (c0 + 16 + i)) (P.getD i pc0) (tAt P i)) ∧ P.length ≤ 40
theorem CB_tr {f f' : AH} {c0 : Nat} {P : List Pc} (h : CB f c0 P) (h1 : f' c0 = f c0) (h2 : ∀ i, c0 + 15 ≤ i → i < c0 + 56 → f' i = f i) : CB f' c0 P := by
  obtain ⟨a1, a2, a3, a4, a5⟩ := h
  refine ⟨h1.trans a1, ?_, fun i hi => ?_, fun i hi => ?_, a5⟩
  · rw [h2 _ (by omega) (by omega)]; exact a2
  · rw [h2 _ (by omega) (by omega)]; exact a3 i hi
  · rw [h2 _ (by omega) (by omega)]; exact a4 i hi
theorem f_settle_no {f : AH} {c0 n from_ : Nat} {mn : Int32} {T O : BL} (hc : f c0 = some (.inr (1, cuL c0 mn))) (hT : isRw f (c0 + 1) (c0 + 2) 600 T) (hO : isRw f (c0 + 3) (c0 + 4) 600 O) (h6 : from_ ≤ 600) : PQ (mX1_settle_b77 c0 (nI from_) f n) (fun y => ∃ f', y = (0, f', n) ∧ isRw f' (c0 + 1) (c0 + 2) 600 (T.take from_) ∧ isRw f' (c0 + 3) (c0 + 4) 600 (O.take from_) ∧ ∀ i, i ≠ c0 + 1 → i ≠ c0 + 3 → f' i = f i) := by
  unfold mX1_settle_b77
  refine pq_gR hc rfl (pq_sb (pq_ck ?_))
  refine pq_call (f_cutTo hT (by omega)) (fun y hy => ?_)
  obtain ⟨f1, rfl, hT1, hF1⟩ := hy
  have hc1 : f1 c0 = some (.inr (1, cuL c0 mn)) := (hF1 _ (by omega)).trans hc
  refine pq_gR hc1 rfl (pq_sb (pq_ck ?_))
  have hO1 : isRw f1 (c0 + 3) (c0 + 4) 600 O := rw_tr hO (hF1 _ (by omega)) (hF1 _ (by omega))
  refine pq_call (f_cutTo hO1 (by omega)) (fun y hy => ?_)
  obtain ⟨f2, rfl, hO2, hF2⟩ := hy
  exact pq_ret ⟨f2, rfl, rw_tr hT1 (hF2 _ (by omega)) (hF2 _ (by omega)), hO2, fun i e1 e2 => (hF2 i e2).trans (hF1 i e1)⟩
theorem f_settle_yes {f : AH} {c0 n st fr lk td tf ts : Nat} {P : List Pc} {k i l le lc : Int32} {la : Option Nat} {pn : Int32} {r r' : Nat} {ob oe ok_ okn m w kk pp ib ie ik im mm ww kk' pp' : Int32} {oq iq : Bool} {be en : Nat} (hC : CB f c0 P) (hl : P.length < 40) (hst : f st = some (.inr (7, stV fr k i l le lc la pn lk td))) (hsr : st < c0 ∨ c0 + 56 ≤ st) (hs : f (c0 + 9) = scE r ob oe (bI oq) ok_ okn m w kk pp) (hi : i = 1 → f (c0 + 12) = scE r' ib ie (bI iq) ik im mm ww kk' pp') : PQ (mX1_settle_b94 c0 (some st) (nI tf) (nI be) (nI en) (some (c0 + 16 + P.length)) (nI ts) f n) (fun y => ∃ f' x9 x10 x11, y = (0, f', n) ∧ f' c0 = some (.inr (1, cuL c0 (nI (P.length + 1)))) ∧ f' (c0 + 16 + P.length) = some (.inr (3, pcV (nI be) (nI en) (nI tf) (nI ts) ok_ okn (bI oq) (bI (decide (i = 1) && iq)) (bI (decide (nI be = ob))) x9 x10 x11)) ∧ ∀ j, j ≠ c0 → j ≠ c0 + 16 + P.length → f' j = f j) := by
  obtain ⟨a1, a2, a3, a4, a5⟩ := hC
  obtain ⟨y0, y1, y2, y3, y4, y5, y6, y7, y8, y9, y10, y11, hP⟩ := a3 P.length hl
  unfold mX1_settle_b94
  refine pq_gI a1 rfl ?_
  rw [nI_1]
  refine pq_pO a1 rfl (pq_sb ?_)
  have nP : c0 + 16 + P.length ≠ c0 := by omega
  -- the heap behind 'many'
  have key : ∀ g : AH, g c0 = some (.inr (1, cuL c0 (nI (P.length + 1)))) → g (c0 + 16 + P.length) = some (.inr (3, pcV y0 y1 y2 y3 y4 y5 y6 y7 y8 y9 y10 y11)) → (∀ j, j ≠ c0 → g j = f j) → PQ ((pO g (c0 + 16 + P.length) 3 0 (.int (nI be))).bind fun f4 => ((pO f4 (c0 + 16 + P.length) 3 1 (.int (nI en))).bind fun f5 => ((pO f5 (c0 + 16 + P.length) 3 2 (.int (nI tf))).bind fun f6 => ((pO f6 (c0 + 16 + P.length) 3 3 (.int (nI ts))).bind fun f7 => ((gR f7 c0 1 4).bind fun x8 => ((x8).bind fun j9 => ((gI f7 j9 6 4).bind fun x10 => ((pO f7 (c0 + 16 + P.length) 3 4 (.int x10)).bind fun f11 => ((gR f11 c0 1 4).bind fun x12 => ((x12).bind fun j13 => ((gI f11 j13 6 5).bind fun x14 => ((pO f11 (c0 + 16 + P.length) 3 5 (.int x14)).bind fun f15 => ((gR f15 c0 1 4).bind fun x16 => ((x16).bind fun j17 => ((gI f15 j17 6 3).bind fun x18 => rCk (rNb x18) (((pO f15 (c0 + 16 + P.length) 3 6 (.int x18)).bind fun f20 => ((some st).bind fun j21 => ((gI f20 j21 7 2).bind fun x22 => (if x22 = (1 : Int32) then ((gR f20 c0 1 5).bind fun x23 => ((x23).bind fun j24 => ((gI f20 j24 6 3).bind fun x25 => (if x25 = (0 : Int32) then mX1_settle_b190 c0 (nI be) (some (c0 + 16 + P.length)) (some (c0 + 16 + P.length)) f20 n else mX1_settle_b191 c0 (nI be) (some (c0 + 16 + P.length)) (some (c0 + 16 + P.length)) (1 : Int32) f20 n)))) else mX1_settle_b190 c0 (nI be) (some (c0 + 16 + P.length)) (some (c0 + 16 + P.length)) f20 n)))))))))))))))))))) (fun y => ∃ f' x9 x10 x11, y = (0, f', n) ∧ f' c0 = some (.inr (1, cuL c0 (nI (P.length + 1)))) ∧ f' (c0 + 16 + P.length) = some (.inr (3, pcV (nI be) (nI en) (nI tf) (nI ts) ok_ okn (bI oq) (bI (decide (i = 1) && iq)) (bI (decide (nI be = ob))) x9 x10 x11)) ∧ ∀ j, j ≠ c0 → j ≠ c0 + 16 + P.length → f' j = f j) := by
    intro g g1 g2 g3
    have eg : g = va_up g (c0 + 16 + P.length) (some (.inr (3, pcV y0 y1 y2 y3 y4 y5 y6 y7 y8 y9 y10 y11))) := (u_id g2).symm
    rw [eg]
    have c_ : ∀ X, va_up g (c0 + 16 + P.length) X c0 = some (.inr (1, cuL c0 (nI (P.length + 1)))) := fun X => (u_ne (by omega)).trans g1
    have s_ : ∀ X, va_up g (c0 + 16 + P.length) X (c0 + 9) = scE r ob oe (bI oq) ok_ okn m w kk pp := fun X => (u_ne (by omega)).trans ((g3 _ (by omega)).trans hs)
    have i_ : i = 1 → ∀ X, va_up g (c0 + 16 + P.length) X (c0 + 12) = scE r' ib ie (bI iq) ik im mm ww kk' pp' := fun h1 X => (u_ne (by omega)).trans ((g3 _ (by omega)).trans (hi h1))
    have t_ : ∀ X, va_up g (c0 + 16 + P.length) X st = some (.inr (7, stV fr k i l le lc la pn lk td)) := fun X => (u_ne (by omega)).trans ((g3 _ (by omega)).trans hst)
    refine pq_pU (pcV (nI be) y1 y2 y3 y4 y5 y6 y7 y8 y9 y10 y11) rfl rfl (pq_pU (pcV (nI be) (nI en) y2 y3 y4 y5 y6 y7 y8 y9 y10 y11) rfl rfl (pq_pU (pcV (nI be) (nI en) (nI tf) y3 y4 y5 y6 y7 y8 y9 y10 y11) rfl rfl (pq_pU (pcV (nI be) (nI en) (nI tf) (nI ts) y4 y5 y6 y7 y8 y9 y10 y11) rfl rfl ?_)))
    refine pq_gR (c_ _) rfl (pq_sb (pq_gI (s_ _) rfl (pq_pU (pcV (nI be) (nI en) (nI tf) (nI ts) ok_ y5 y6 y7 y8 y9 y10 y11) rfl rfl ?_)))
    refine pq_gR (c_ _) rfl (pq_sb (pq_gI (s_ _) rfl (pq_pU (pcV (nI be) (nI en) (nI tf) (nI ts) ok_ okn y6 y7 y8 y9 y10 y11) rfl rfl ?_)))
    refine pq_gR (c_ _) rfl (pq_sb (pq_gI (s_ _) rfl (pq_ck (pq_pU (pcV (nI be) (nI en) (nI tf) (nI ts) ok_ okn (bI oq) y7 y8 y9 y10 y11) rfl rfl ?_))))
    refine pq_sb (pq_gI (t_ _) rfl ?_)
    have fin : ∀ z : Bool, z = (decide (i = 1) && iq) → PQ (mX1_settle_b191 c0 (nI be) (some (c0 + 16 + P.length)) (some (c0 + 16 + P.length)) (bI z) (va_up g (c0 + 16 + P.length) (some (.inr (3, pcV (nI be) (nI en) (nI tf) (nI ts) ok_ okn (bI oq) y7 y8 y9 y10 y11)))) n) (fun y => ∃ f' x9 x10 x11, y = (0, f', n) ∧ f' c0 = some (.inr (1, cuL c0 (nI (P.length + 1)))) ∧ f' (c0 + 16 + P.length) = some (.inr (3, pcV (nI be) (nI en) (nI tf) (nI ts) ok_ okn (bI oq) (bI (decide (i = 1) && iq)) (bI (decide (nI be = ob))) x9 x10 x11)) ∧ ∀ j, j ≠ c0 → j ≠ c0 + 16 + P.length → f' j = f j) := by
      intro z hz
      unfold mX1_settle_b191
      refine pq_sb (pq_ck (pq_pU (pcV (nI be) (nI en) (nI tf) (nI ts) ok_ okn (bI oq) (bI z) y8 y9 y10 y11) rfl rfl (pq_gR (c_ _) rfl (pq_sb (pq_gI (s_ _) rfl ?_)))))
      refine pq_eq (fun q1 => ?_) (fun q1 => ?_)
      · unfold mX1_settle_b212
        refine pq_sb (pq_ck (pq_pU (pcV (nI be) (nI en) (nI tf) (nI ts) ok_ okn (bI oq) (bI z) 1 y9 y10 y11) rfl rfl (pq_ret ⟨_, y9, y10, y11, rfl, c_ _, ?_, fun j e1 e2 => (u_ne e2).trans (g3 j e1)⟩)))
        rw [u_eq, decide_eq_true q1, ← hz]; rfl
      · unfold mX1_settle_b212
        refine pq_sb (pq_ck (pq_pU (pcV (nI be) (nI en) (nI tf) (nI ts) ok_ okn (bI oq) (bI z) 0 y9 y10 y11) rfl rfl (pq_ret ⟨_, y9, y10, y11, rfl, c_ _, ?_, fun j e1 e2 => (u_ne e2).trans (g3 j e1)⟩)))
        rw [u_eq, decide_eq_false q1, ← hz]; rfl
    refine pq_eq (fun q1 => ?_) (fun q1 => ?_)
    · refine pq_gR (c_ _) rfl (pq_sb (pq_gI (i_ q1 _) rfl ?_))
      refine pq_eq (fun q2 => ?_) (fun q2 => ?_)
      · exact fin false (by rw [bI_0.mp q2, Bool.and_false])
      · refine fin true ?_
        cases iq with
        | true => rw [decide_eq_true q1]; rfl
        | false => exact absurd rfl q2
    · exact fin false (by rw [decide_eq_false q1]; rfl)
  refine key _ u_eq ((u_ne nP).trans hP) (fun j e => u_ne e)
