section MK2
variable {n st fr lk td rb cc : Nat} {cf : CFG} {l le lc : Int32} {la : Option Nat} {pn : Int32} {F : BL} {told : Nat → Option BL} {P : List Pc}
/-- a loop that has given up -/
theorem f_make_0 {f : AH} {v3 v5 : Int32} (hC : CB f 59 P) : ∀ d, PQ (mX0_make_l16 d 171 (some st) (some 59) v3 0 v5 f n) (fun y => y = (0, f, n)) := by
  intro d
  cases d with
  | zero => exact pq_none
  | succ d =>
    have h5 := hC.2.2.2.2
    have fin : PQ (mX0_make_b211 171 (some st) v3 0 f n) (fun y => y = (0, f, n)) := by
      unfold mX0_make_b211 mX0_make_b242 mX0_make_b243
      exact pq_t rfl (pq_ck (pq_ret rfl))
    unfold mX0_make_l16
    refine pq_sb (pq_ck (pq_is (f_csize hC) ?_))
    exact pq_le rfl rfl (fun _ => fin) (fun _ => pq_t rfl fin)
/-- pieces with where they lie in what is built -/
def BD (f : AH) (cf : CFG) (F : BL) (told : Nat → Option BL) (P : List Pc) (k : Nat) : Prop := ∀ i, i < k → ∃ x11, f (75 + i) = some (.inr (3, pcV (nI (P.getD i pc0).1) (nI (P.getD i pc0).2.1) (nI (tAt P i)) (nI (pX (P.getD i pc0)).length) (nI (P.getD i pc0).2.2.2.2.2.1) (nI (P.getD i pc0).2.2.2.2.2.2.1) (bI (P.getD i pc0).2.2.1) (bI (P.getD i pc0).2.2.2.1) (bI (P.getD i pc0).2.2.2.2.1) (nI (bbeg cf F told P i)) (nI (bsz cf F told P i)) x11))
theorem CB_pc {f f' : AH} {c0 i : Nat} (hC : CB f c0 P) (hi : i < 40) (hp : i < P.length → daP (f' (c0 + 16 + i)) (P.getD i pc0) (tAt P i)) (hok : okP (f' (c0 + 16 + i))) (hF : ∀ j, j ≠ c0 + 16 + i → f' j = f j) : CB f' c0 P := by
  obtain ⟨a1, a2, a3, a4, a5⟩ := hC
  refine ⟨(hF _ (by omega)).trans a1, ?_, fun k hk => ?_, fun k hk => ?_, a5⟩
  · rw [hF _ (by omega)]; exact a2
  · by_cases e : k = i
    · rw [e]; exact hok
    · rw [hF _ (by omega)]; exact a3 k hk
  · by_cases e : k = i
    · rw [e]; exact hp (by omega)
    · rw [hF _ (by omega)]; exact a4 k hk
/-- everything that making needs of the heap -/
def MK (f : AH) (st fr lk td rb cc : Nat) (cf : CFG) (l le lc : Int32) (la : Option Nat) (pn : Int32) (F : BL) (told : Nat → Option BL) (P : List Pc) : Prop := CB f 59 P ∧ f st = some (.inr (7, stV fr cf.1 cf.2.1 l le lc la pn lk td)) ∧ isRw f fr rb cc F ∧ TLDS f td told
theorem MK_tr {f f' : AH} (h : MK f st fr lk td rb cc cf l le lc la pn F told P) (hst : st < 59) (htd : td < 59) (hfr : OUT fr) (hrb : OUT rb) (hC : CB f' 59 P) (hF : ∀ j, OUT j → f' j = f j) : MK f' st fr lk td rb cc cf l le lc la pn F told P := by
  obtain ⟨h1, h2, h3, h4⟩ := h
  exact ⟨hC, (hF _ (Or.inl hst)).trans h2, rw_tr h3 (hF _ hfr) (hF _ hrb), TLDS_tr h4 (hF _ (Or.inl htd)) (fun i t j b c _ _ _ k3 k4 => ⟨hF _ k3, hF _ k4⟩)⟩
def MO (f0 f : AH) (n st fr lk td rb cc : Nat) (cf : CFG) (l le lc : Int32) (la : Option Nat) (pn : Int32) (F : BL) (told : Nat → Option BL) (P : List Pc) (y : Int32 × HpN) : Prop := ∃ f', CB f' 59 P ∧ BSh f' ∧ (∀ j, j < 75 ∨ (115 ≤ j ∧ j < 171) ∨ 177 < j → f' j = f0 j) ∧ (((blt cf F told P).length ≤ 600 ∧ y = (1, f', n) ∧ isRw f' 172 173 600 (blt cf F told P) ∧ BD f' cf F told P P.length) ∨ (600 < (blt cf F told P).length ∧ y = (0, f', n)))
theorem f_make_b169 {f : AH} {rec16 : Nat → (Option Nat) → (Option Nat) → Int32 → Int32 → Int32 → AH → Nat → Option (Int32 × HpN)} {v3 v4 v5 : Int32} {i bb : Nat} {w : Option Nat} {x11 x10 : Int32} {L : BL} {b e tf ts kb ks q qi fi : Int32} {Q : Int32 × HpN → Prop} (hb : ∃ qw, f 171 = some (.inr (0, buL qw))) (hr : isRw f 172 173 600 L) (hbb : bb ≤ 600) (hi : i < 40) (hp : f (75 + i) = some (.inr (3, pcV b e tf ts kb ks q qi fi (nI bb) x10 x11))) (hK : ∀ f' y10 z, (bb ≤ L.length → y10 = nI (L.length - bb)) → f' (75 + i) = some (.inr (3, pcV b e tf ts kb ks q qi fi (nI bb) y10 z)) → (∀ j, j ≠ 75 + i → f' j = f j) → PQ (rec16 171 (some st) (some 59) v3 v4 (v5 + 1) f' n) Q) : PQ (mX0_make_b169 rec16 171 (some st) (some 59) v3 v4 v5 (some (75 + i)) w f n) Q := by
  obtain ⟨qw, hb⟩ := hb
  have h6 := rw_6 hr
  unfold mX0_make_b169
  refine pq_gR hb rfl (pq_sb (pq_ck (pq_is (f_size hr) (pq_sb (pq_gI hp rfl ?_)))))
  have e1 : bb ≤ L.length → nI L.length - nI bb = nI (L.length - bb) := fun hbb => Int32.toInt_inj.mp (by rw [i_sub (nI_toInt (by omega)) (nI_toInt (by omega)) (by omega), nI_toInt (by omega)]; omega)
  show PQ ((pO f (75 + i) 3 10 (.int (nI L.length - nI bb))).bind _) _
  generalize nI L.length - nI bb = y10 at e1 ⊢
  refine pq_pO hp rfl ?_
  have fin : ∀ z : Int32, PQ (mX0_make_b202 rec16 171 (some st) (some 59) v3 v4 v5 (some (75 + i)) z (va_up f (75 + i) (some (.inr (3, (pcV b e tf ts kb ks q qi fi (nI bb) x10 x11).set 10 (.int y10))))) n) Q := by
    intro z
    unfold mX0_make_b202
    refine pq_sb (pq_pU (pcV b e tf ts kb ks q qi fi (nI bb) y10 z) rfl rfl ?_)
    exact hK _ y10 z e1 u_eq (fun j hj => u_ne hj)
  cases w with
  | none => exact pq_oNn (fin 0)
  | some j =>
    refine pq_oNs ?_
    have hb2 : va_up f (75 + i) (some (.inr (3, (pcV b e tf ts kb ks q qi fi (nI bb) x10 x11).set 10 (.int y10)))) 171 = some (.inr (0, buL qw)) := (u_ne (by omega)).trans hb
    exact pq_gI hb2 rfl (fin qw)
theorem f_make_l {f0 : AH} (hk : cf.1 = 0 ∨ cf.1 = 1 ∨ cf.1 = 2 ∨ cf.1 = 3) (hki : cf.2.1 = -1 ∨ cf.2.1 = 0 ∨ cf.2.1 = 1 ∨ cf.2.1 = 2 ∨ cf.2.1 = 3) (hst : st < 59) (htd : td < 59) (hfr : OUT fr) (hrb : OUT rb) (hord : ORD P F.length) (hve : VE cf told P) : ∀ (d i : Nat) (f : AH), MK f st fr lk td rb cc cf l le lc la pn F told P → BSh f → isRw f 172 173 600 (rowTo cf F told P i) → i ≤ P.length → BD f cf F told P i → (∀ j, j < 75 ∨ (115 ≤ j ∧ j < 171) ∨ 177 < j → f j = f0 j) → PQ (mX0_make_l16 d 171 (some st) (some 59) (nI (plc P i)) 1 (nI i) f n) (MO f0 f n st fr lk td rb cc cf l le lc la pn F told P) := by
  intro d
  induction d with
  | zero => intro i f _ _ _ _ _ _; exact pq_none
  | succ d ih =>
    intro i f hM hS hR hi hBD hF0
    obtain ⟨hC, hs, hf, hT⟩ := id hM
    have h5 := hC.2.2.2.2
    have hf6 := rw_6 hf
    obtain ⟨⟨qw, hb⟩, -, hSE, hSM⟩ := id hS
    unfold mX0_make_l16
    refine pq_sb (pq_ck (pq_is (f_csize hC) ?_))
    refine pq_le (nI_toInt (by omega)) (nI_toInt (by omega)) (fun h => ?_) (fun h => ?_)
    · -- the end
      have ei : i = P.length := by omega
      subst ei
      unfold mX0_make_b211
      refine pq_f (by decide) (pq_gR hb rfl (pq_sb (pq_gR hs rfl (pq_gR hs rfl (pq_sb (pq_ck (pq_is (f_size hf) (pq_sb (pq_ck ?_)))))))))
      refine pq_call (f_addPart (j := 172) (b := 173) (by rcases hfr with h | h <;> omega) (by rcases hrb with h | h <;> omega) (Nat.le_refl _) hord.2 hR hf) (fun y hy => ?_)
      rcases hy with ⟨g0, f1, rfl, g1, g2⟩ | ⟨g0, f1, L1, rfl, g1, g2⟩
      · refine pq_f (show ¬ (1 : Int32) = 0 by decide) ?_
        unfold mX0_make_b243
        obtain ⟨E0, hE0⟩ := hSE
        obtain ⟨M0, hM0⟩ := hSM
        refine pq_ck (pq_ret ⟨f1, CB_tr hC (g2 _ (by omega) (by omega)) (fun k x1 x2 => g2 k (by omega) (by omega)), ⟨⟨qw, (g2 _ (by omega) (by omega)).trans hb⟩, ⟨_, g1⟩, ⟨E0, rw_tr hE0 (g2 _ (by omega) (by omega)) (g2 _ (by omega) (by omega))⟩, ⟨M0, rw_tr hM0 (g2 _ (by omega) (by omega)) (g2 _ (by omega) (by omega))⟩⟩, fun j hj => (g2 j (by omega) (by omega)).trans (hF0 j hj), Or.inl ⟨?_, rfl, g1, fun k hk2 => ?_⟩⟩)
        · unfold blt
          rw [List.length_append, sl_len (Nat.le_refl _)]; exact g0
        · obtain ⟨x11, e⟩ := hBD k hk2
          exact ⟨x11, (g2 _ (by omega) (by omega)).trans e⟩
      · refine pq_t rfl ?_
        unfold mX0_make_b242 mX0_make_b243
        obtain ⟨E0, hE0⟩ := hSE
        obtain ⟨M0, hM0⟩ := hSM
        refine pq_ck (pq_ret ⟨f1, CB_tr hC (g2 _ (by omega) (by omega)) (fun k x1 x2 => g2 k (by omega) (by omega)), ⟨⟨qw, (g2 _ (by omega) (by omega)).trans hb⟩, ⟨_, g1⟩, ⟨E0, rw_tr hE0 (g2 _ (by omega) (by omega)) (g2 _ (by omega) (by omega))⟩, ⟨M0, rw_tr hM0 (g2 _ (by omega) (by omega)) (g2 _ (by omega) (by omega))⟩⟩, fun j hj => (g2 j (by omega) (by omega)).trans (hF0 j hj), Or.inr ⟨?_, rfl⟩⟩)
        unfold blt
        rw [List.length_append, sl_len (Nat.le_refl _)]; exact g0
    · -- a piece
      have hiP : i < P.length := by omega
      have ho := hord.1 i hiP
      refine pq_f (by decide) (pq_ck (pq_is (f_cgetN hC hiP) (pq_sb (pq_oNs ?_))))
      obtain ⟨y9, y10, y11, hp⟩ := hC.2.2.2.1 i hiP
      have hp : f (75 + i) = some (.inr (3, pcV (nI (P.getD i pc0).1) (nI (P.getD i pc0).2.1) (nI (tAt P i)) (nI (pX (P.getD i pc0)).length) (nI (P.getD i pc0).2.2.2.2.2.1) (nI (P.getD i pc0).2.2.2.2.2.2.1) (bI (P.getD i pc0).2.2.1) (bI (P.getD i pc0).2.2.2.1) (bI (P.getD i pc0).2.2.2.2.1) y9 y10 y11)) := hp
      refine pq_gR hb rfl (pq_sb (pq_gR hs rfl ?_))
      show PQ ((gI f (75 + i) 3 0).bind _) _
      refine pq_gI hp rfl (pq_sb (pq_ck ?_))
      have hfr72 : fr ≠ 172 := by rcases hfr with h | h <;> omega
      have hrb73 : rb ≠ 173 := by rcases hrb with h | h <;> omega
      -- the bytes ahead of it
      have step1 : ∃ Q1 : Int32 × HpN → Prop, PQ (mX5_addPart 172 (some fr) (nI (plc P i)) (nI (P.getD i pc0).1) f n) Q1 ∧ ∀ y, Q1 y → ∃ (ok : Bool) (f1 : AH) (L1 : BL), y = (bI ok, f1, n) ∧ isRw f1 172 173 600 L1 ∧ (∀ j, j ≠ 172 → j ≠ 173 → f1 j = f j) ∧ (ok = true → L1 = rowTo cf F told P i ++ sl F (plc P i) (P.getD i pc0).1) ∧ (ok = false → 600 < (rowTo cf F told P (i + 1)).length) := by
        refine ⟨_, f_addPart (j := 172) (b := 173) hfr72 hrb73 (by omega) ho.1 hR hf, fun y hy => ?_⟩
        rcases hy with ⟨g0, f1, rfl, g1, g2⟩ | ⟨g0, f1, L1, rfl, g1, g2⟩
        · exact ⟨true, f1, _, rfl, g1, g2, fun _ => rfl, (fun h => absurd h (by decide))⟩
        · refine ⟨false, f1, L1, rfl, g1, g2, (fun h => absurd h (by decide)), fun _ => ?_⟩
          show 600 < (rowTo cf F told P i ++ sl F (plc P i) (P.getD i pc0).1 ++ bOf cf F told i (P.getD i pc0)).length
          rw [List.length_append, List.length_append, sl_len (by omega)]; omega
      obtain ⟨Q1, s1, s2⟩ := step1
      refine pq_call s1 (fun y hy => ?_)
      obtain ⟨ok1, f1, L1, rfl, hR1, hF1, hok1, hno1⟩ := s2 y hy
      have hp1 : f1 (75 + i) = _ := (hF1 _ (by omega) (by omega)).trans hp
      have hb1 : f1 171 = some (.inr (0, buL qw)) := (hF1 _ (by omega) (by omega)).trans hb
      show PQ ((gI f1 (75 + i) 3 1).bind _) _
      refine pq_gI hp1 rfl (pq_gR hb1 rfl (pq_sb (pq_ck (pq_is (f_size hR1) ?_))))
      show PQ ((pO f1 (75 + i) 3 9 (.int (nI L1.length))).bind _) _
      refine pq_pO hp1 rfl (pq_ck ?_)
      have hp2 : va_up f1 (75 + i) (some (.inr (3, (pcV (nI (P.getD i pc0).1) (nI (P.getD i pc0).2.1) (nI (tAt P i)) (nI (pX (P.getD i pc0)).length) (nI (P.getD i pc0).2.2.2.2.2.1) (nI (P.getD i pc0).2.2.2.2.2.2.1) (bI (P.getD i pc0).2.2.1) (bI (P.getD i pc0).2.2.2.1) (bI (P.getD i pc0).2.2.2.2.1) y9 y10 y11).set 9 (.int (nI L1.length))))) (75 + i) = some (.inr (3, pcV (nI (P.getD i pc0).1) (nI (P.getD i pc0).2.1) (nI (tAt P i)) (nI (pX (P.getD i pc0)).length) (nI (P.getD i pc0).2.2.2.2.2.1) (nI (P.getD i pc0).2.2.2.2.2.2.1) (bI (P.getD i pc0).2.2.1) (bI (P.getD i pc0).2.2.2.1) (bI (P.getD i pc0).2.2.2.2.1) (nI L1.length) y10 y11)) := u_eq
      generalize ef2 : va_up f1 (75 + i) (some (.inr (3, (pcV (nI (P.getD i pc0).1) (nI (P.getD i pc0).2.1) (nI (tAt P i)) (nI (pX (P.getD i pc0)).length) (nI (P.getD i pc0).2.2.2.2.2.1) (nI (P.getD i pc0).2.2.2.2.2.2.1) (bI (P.getD i pc0).2.2.1) (bI (P.getD i pc0).2.2.2.1) (bI (P.getD i pc0).2.2.2.2.1) y9 y10 y11).set 9 (.int (nI L1.length))))) = f2 at hp2 ⊢
      have hF2 : ∀ j, j ≠ 75 + i → j ≠ 172 → j ≠ 173 → f2 j = f j := fun j x1 x2 x3 => by rw [← ef2]; exact (u_ne x1).trans (hF1 j x2 x3)
      have hR2 : isRw f2 172 173 600 L1 := by rw [← ef2]; exact rw_up hR1 (by omega) (by omega)
      have hC2 : CB f2 59 P := by
        refine CB_pc (c0 := 59) (f := f1) (CB_tr hC (hF1 _ (by omega) (by omega)) (fun k x1 x2 => hF1 k (by omega) (by omega))) (i := i) (by omega) (fun _ => ⟨_, _, _, hp2⟩) ⟨_, _, _, _, _, _, _, _, _, _, _, _, hp2⟩ (fun j hj => by rw [← ef2]; exact u_ne hj)
      have hM2 : MK f2 st fr lk td rb cc cf l le lc la pn F told P := MK_tr hM hst htd hfr hrb hC2 (fun j hj => hF2 j (by rcases hj with h | h <;> omega) (by rcases hj with h | h <;> omega) (by rcases hj with h | h <;> omega))
      obtain ⟨-, hs2, hf2, hT2⟩ := id hM2
      have hS2 : BSh f2 := by
        obtain ⟨E0, hE0⟩ := hSE
        obtain ⟨M0, hM0⟩ := hSM
        exact ⟨⟨qw, (hF2 _ (by omega) (by omega) (by omega)).trans hb⟩, ⟨_, hR2⟩, ⟨E0, rw_tr hE0 (hF2 _ (by omega) (by omega) (by omega)) (hF2 _ (by omega) (by omega) (by omega))⟩, ⟨M0, rw_tr hM0 (hF2 _ (by omega) (by omega) (by omega)) (hF2 _ (by omega) (by omega) (by omega))⟩⟩
      have hR16 := rw_6 hR1
      clear ef2 hp1 hb1
      -- the rest, over any heap in which the piece's bytes came behind
      have rest : ∀ (f3 : AH) (ok : Bool) (L3 : BL) (w : Option Nat), BSh f3 → isRw f3 172 173 600 L3 → (∀ j, j < 171 ∨ 177 < j → f3 j = f2 j) → (ok = true → ok1 = true ∧ L3 = L1 ++ bOf cf F told i (P.getD i pc0)) → (ok = false → 600 < (rowTo cf F told P (i + 1)).length) → PQ (mX0_make_b169 (fun v0 v1 v2 v3 v4 v5 f n => mX0_make_l16 d v0 v1 v2 v3 v4 v5 f n) 171 (some st) (some 59) (nI (P.getD i pc0).2.1) (bI ok) (nI i) (some (75 + i)) w f3 n) (MO f0 f n st fr lk td rb cc cf l le lc la pn F told P) := by
        intro f3 ok L3 w hS3 hR3 hF3 hy3 hn3
        refine f_make_b169 (i := i) (bb := L1.length) hS3.1 hR3 hR16 (by omega) ((hF3 _ (by omega)).trans hp2) (fun f4 y10' z hy10 hp4 hF4 => ?_)
        have hC4 : CB f4 59 P := by
          refine CB_pc (c0 := 59) (f := f3) (CB_tr hC2 (hF3 _ (by omega)) (fun k x1 x2 => hF3 k (by omega))) (i := i) (by omega) (fun _ => ⟨_, _, _, hp4⟩) ⟨_, _, _, _, _, _, _, _, _, _, _, _, hp4⟩ hF4
        have hF40 : ∀ j, j < 75 ∨ (115 ≤ j ∧ j < 171) ∨ 177 < j → f4 j = f0 j := fun j hj => ((hF4 j (by omega)).trans ((hF3 j (by omega)).trans (hF2 j (by omega) (by omega) (by omega)))).trans (hF0 j hj)
        have hS4 : BSh f4 := by
          obtain ⟨⟨q3, k1⟩, ⟨R3, k2⟩, ⟨E3, k3⟩, ⟨M3, k4⟩⟩ := hS3
          exact ⟨⟨q3, (hF4 _ (by omega)).trans k1⟩, ⟨R3, rw_tr k2 (hF4 _ (by omega)) (hF4 _ (by omega))⟩, ⟨E3, rw_tr k3 (hF4 _ (by omega)) (hF4 _ (by omega))⟩, ⟨M3, rw_tr k4 (hF4 _ (by omega)) (hF4 _ (by omega))⟩⟩
        show PQ (mX0_make_l16 d 171 (some st) (some 59) (nI (P.getD i pc0).2.1) (bI ok) (nI i + 1) f4 n) _
        rw [nI_1]
        cases ok with
        | false =>
          refine pq_tail (f_make_0 hC4 d) (fun y hy => ?_)
          refine ⟨f4, hC4, hS4, hF40, Or.inr ⟨?_, hy⟩⟩
          exact Nat.lt_of_lt_of_le (hn3 rfl) (blt_ge (by omega))
        | true =>
          obtain ⟨k1, k2⟩ := hy3 rfl
          have eL1 := hok1 k1
          have hM4 : MK f4 st fr lk td rb cc cf l le lc la pn F told P := MK_tr hM2 hst htd hfr hrb hC4 (fun j hj => (hF4 j (by rcases hj with h | h <;> omega)).trans (hF3 j (by rcases hj with h | h <;> omega)))
          have eR : L3 = rowTo cf F told P (i + 1) := by rw [k2, eL1]; rfl
          have hy10' := hy10 (by rw [k2, List.length_append]; omega)
          rw [hy10'] at hp4
          rw [eR] at hR3 hp4
          refine ih (i + 1) f4 hM4 hS4 (rw_tr hR3 (hF4 _ (by omega)) (hF4 _ (by omega))) (by omega) (fun k hk2 => ?_) hF40
          by_cases ek : k = i
          · subst ek
            refine ⟨z, ?_⟩
            rw [hp4]
            have e1 : L1.length = bbeg cf F told P k := by rw [eL1]; rfl
            have e2 : (rowTo cf F told P (k + 1)).length - L1.length = bsz cf F told P k := by
              have : (rowTo cf F told P (k + 1)).length = L1.length + bsz cf F told P k := by
                rw [eL1]
                show (rowTo cf F told P k ++ sl F (plc P k) (P.getD k pc0).1 ++ bOf cf F told k (P.getD k pc0)).length = _
                rw [List.length_append]; rfl
              omega
            rw [e1] at e2 ⊢
            rw [e2]
          · obtain ⟨x11, e⟩ := hBD k (by omega)
            exact ⟨x11, ((hF4 _ (by omega)).trans ((hF3 _ (by omega)).trans (hF2 _ (by omega) (by omega) (by omega)))).trans e⟩
      refine pq_call (f_toldFor hs2 rfl hT2) (fun y hy => ?_)
      obtain ⟨w, rfl, hw⟩ := hy
      have ev : toldV told (nI i) = told i := by
        unfold toldV
        rw [nI_toInt (by omega), if_pos (by omega)]; rfl
      rw [ev] at hw
      refine pq_sb ?_
      cases et : told i with
      | none =>
        rw [et] at hw
        have hw : w = none := hw
        subst hw
        refine pq_oNn ?_
        obtain ⟨⟨qw2, hb2⟩, -, -, -⟩ := id hS2
        refine pq_gR hb2 rfl (pq_gR hs2 rfl ?_)
        show PQ ((gI f2 (75 + i) 3 0).bind _) _
        refine pq_gI hp2 rfl ?_
        show PQ ((gI f2 (75 + i) 3 1).bind _) _
        refine pq_gI hp2 rfl (pq_sb (pq_ck ?_))
        have eb : bOf cf F told i (P.getD i pc0) = sl F (P.getD i pc0).1 (P.getD i pc0).2.1 := by unfold bOf; rw [et]
        obtain ⟨-, -, ⟨E0, hE0⟩, ⟨M0, hM0⟩⟩ := id hS2
        refine pq_call (f_addPart (j := 172) (b := 173) hfr72 hrb73 ho.2.2 (by omega) hR2 hf2) (fun y hy => ?_)
        rcases hy with ⟨g0, f3, rfl, g1, g2⟩ | ⟨g0, f3, L3, rfl, g1, g2⟩
        · have hS3 : BSh f3 := ⟨⟨qw2, (g2 _ (by omega) (by omega)).trans hb2⟩, ⟨_, g1⟩, ⟨E0, rw_tr hE0 (g2 _ (by omega) (by omega)) (g2 _ (by omega) (by omega))⟩, ⟨M0, rw_tr hM0 (g2 _ (by omega) (by omega)) (g2 _ (by omega) (by omega))⟩⟩
          have h9 := rest f3 ok1 _ none hS3 g1 (fun j hj => g2 j (by omega) (by omega)) (fun h => ⟨h, by rw [eb]⟩) hno1
          have ea : bI ok1 &&& 1 = bI ok1 := by cases ok1 <;> decide
          show PQ (mX0_make_b169 _ 171 (some st) (some 59) _ (bI ok1 &&& 1) (nI i) (some (75 + i)) none f3 n) _
          rw [ea]; exact h9
        · have hS3 : BSh f3 := ⟨⟨qw2, (g2 _ (by omega) (by omega)).trans hb2⟩, ⟨_, g1⟩, ⟨E0, rw_tr hE0 (g2 _ (by omega) (by omega)) (g2 _ (by omega) (by omega))⟩, ⟨M0, rw_tr hM0 (g2 _ (by omega) (by omega)) (g2 _ (by omega) (by omega))⟩⟩
          have h9 := rest f3 false L3 none hS3 g1 (fun j hj => g2 j (by omega) (by omega)) (fun h => absurd h (by decide)) (fun _ => ?_)
          · have ea : bI ok1 &&& 0 = bI false := by cases ok1 <;> decide
            show PQ (mX0_make_b169 _ 171 (some st) (some 59) _ (bI ok1 &&& 0) (nI i) (some (75 + i)) none f3 n) _
            rw [ea]; exact h9
          · cases ek : ok1 with
            | false => exact hno1 ek
            | true =>
              rw [hok1 ek] at g0
              show 600 < (rowTo cf F told P i ++ sl F (plc P i) (P.getD i pc0).1 ++ bOf cf F told i (P.getD i pc0)).length
              rw [List.length_append, eb, sl_len ho.2.2]; exact g0
      | some t =>
        rw [et] at hw
        obtain ⟨j, b1, c1, rfl, k1, k2, k3, k4⟩ := hw
        refine pq_oNs (pq_ck ?_)
        have hve' := hve i t hiP et
        obtain ⟨E, hE⟩ := Option.isSome_iff_exists.mp hve'
        have eb : bOf cf F told i (P.getD i pc0) = E := by unfold bOf; rw [et]; show (escFor cf (P.getD i pc0) t).getD [] = E; rw [hE]; rfl
        refine pq_call (f_escape (x := P.getD i pc0) (jp := 75 + i) hk hki hp2 (by omega) hs2 (by omega) hS2 k1 (by rcases k2 with h | h <;> omega) (by rcases k3 with h | h <;> omega) k4) (fun y hy => ?_)
        rw [hE] at hy
        obtain ⟨f3, ⟨rfl, e1⟩, ⟨q3, e2⟩, -, ⟨M3, e4⟩, e5⟩ := hy
        refine pq_f (show ¬ (1 : Int32) = 0 by decide) ?_
        refine pq_gR e2 rfl (pq_gR e2 rfl (pq_gR e2 rfl (pq_sb (pq_ck (pq_is (f_size e1) (pq_sb (pq_ck ?_)))))))
        have hR3 : isRw f3 172 173 600 L1 := rw_tr hR2 (e5 _ (by omega)) (e5 _ (by omega))
        refine pq_call (f_addPart (j := 172) (b := 173) (i := 0) (by omega) (by omega) (Nat.le_refl _) (Nat.zero_le _) hR3 e1) (fun y hy => ?_)
        rw [sl_all] at hy
        rcases hy with ⟨g0, f4, rfl, g1, g2⟩ | ⟨g0, f4, L3, rfl, g1, g2⟩
        · have hS4 : BSh f4 := ⟨⟨q3, (g2 _ (by omega) (by omega)).trans e2⟩, ⟨_, g1⟩, ⟨E, rw_tr e1 (g2 _ (by omega) (by omega)) (g2 _ (by omega) (by omega))⟩, ⟨M3, rw_tr e4 (g2 _ (by omega) (by omega)) (g2 _ (by omega) (by omega))⟩⟩
          have h9 := rest f4 ok1 _ (some j) hS4 g1 (fun j hj => (g2 j (by omega) (by omega)).trans (e5 j (by omega))) (fun h => ⟨h, by rw [eb]⟩) hno1
          refine pq_f (show ¬ (1 : Int32) = 0 by decide) ?_
          unfold mX0_make_b166
          have ea : bI ok1 &&& 1 = bI ok1 := by cases ok1 <;> decide
          show PQ (mX0_make_b169 _ 171 (some st) (some 59) _ (bI ok1 &&& 1) (nI i) (some (75 + i)) (some j) f4 n) _
          rw [ea]; exact h9
        · have hS4 : BSh f4 := ⟨⟨q3, (g2 _ (by omega) (by omega)).trans e2⟩, ⟨_, g1⟩, ⟨E, rw_tr e1 (g2 _ (by omega) (by omega)) (g2 _ (by omega) (by omega))⟩, ⟨M3, rw_tr e4 (g2 _ (by omega) (by omega)) (g2 _ (by omega) (by omega))⟩⟩
          have h9 := rest f4 false L3 (some j) hS4 g1 (fun j hj => (g2 j (by omega) (by omega)).trans (e5 j (by omega))) (fun h => absurd h (by decide)) (fun _ => ?_)
          · refine pq_t rfl ?_
            unfold mX0_make_b165 mX0_make_b166
            have ea : bI ok1 &&& 0 = bI false := by cases ok1 <;> decide
            show PQ (mX0_make_b169 _ 171 (some st) (some 59) _ (bI ok1 &&& 0) (nI i) (some (75 + i)) (some j) f4 n) _
            rw [ea]; exact h9
          · cases ek : ok1 with
            | false => exact hno1 ek
            | true =>
              rw [hok1 ek] at g0
              show 600 < (rowTo cf F told P i ++ sl F (plc P i) (P.getD i pc0).1 ++ bOf cf F told i (P.getD i pc0)).length
              rw [List.length_append, eb]; exact g0
theorem f_make {f : AH} (hk : cf.1 = 0 ∨ cf.1 = 1 ∨ cf.1 = 2 ∨ cf.1 = 3) (hki : cf.2.1 = -1 ∨ cf.2.1 = 0 ∨ cf.2.1 = 1 ∨ cf.2.1 = 2 ∨ cf.2.1 = 3) (hst : st < 59) (htd : td < 59) (hfr : OUT fr) (hrb : OUT rb) (hord : ORD P F.length) (hve : VE cf told P) (hM : MK f st fr lk td rb cc cf l le lc la pn F told P) (hS : BSh f) : PQ (mX0_make 171 (some st) (some 59) f n) (MO f f n st fr lk td rb cc cf l le lc la pn F told P) := by
  obtain ⟨⟨qw, hb⟩, ⟨R, hR⟩, ⟨E0, hE0⟩, ⟨M0, hM0⟩⟩ := id hS
  unfold mX0_make
  refine pq_gR hb rfl (pq_sb (pq_ck ?_))
  refine pq_call (f_cutTo hR (m := 0) (by omega)) (fun y hy => ?_)
  obtain ⟨f1, rfl, g1, g2⟩ := hy
  have hC1 : CB f1 59 P := CB_tr hM.1 (g2 _ (by omega)) (fun k x1 x2 => g2 k (by omega))
  exact f_make_l (f0 := f) hk hki hst htd hfr hrb hord hve rFU 0 f1 (MK_tr hM hst htd hfr hrb hC1 (fun j hj => g2 j (by rcases hj with h | h <;> omega))) ⟨⟨qw, (g2 _ (by omega)).trans hb⟩, ⟨_, g1⟩, ⟨E0, rw_tr hE0 (g2 _ (by omega)) (g2 _ (by omega))⟩, ⟨M0, rw_tr hM0 (g2 _ (by omega)) (g2 _ (by omega))⟩⟩ g1 (Nat.zero_le _) (fun k hk => absurd hk (Nat.not_lt_zero _)) (fun j hj => g2 j (by omega))
end MK2
