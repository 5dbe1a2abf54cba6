/-! the class's object -/
abbrev pfL (hi ag pc wn fp : Int32) : List Value := [.ref 1, .ref 3, .ref 8, .ref 13, .ref 18, .ref 59, .ref 115, .ref 171, .ref 178, .int hi, .int ag, .int pc, .int wn, .int fp]
/-- the state's pieces, and what is built of them -/
def pcF (S : SST) : List Pc := pcs S.2.1 S.1
def bltS (S : SST) : BL := blt S.2.1 S.1 S.2.2.1 (pcF S)
def SV (S : SST) : Prop := VE S.2.1 S.2.2.1 (pcF S) ∧ (bltS S).length ≤ 600 ∧ S.2.2.2.length ≤ 12 ∧ ∀ i, (pcF S).length ≤ i → S.2.2.1 i = none
def KO (f : AH) (n : Nat) (S : SST) : Prop := STT f n 3 S ∧ CUT f 59 (pcF S) ∧ BSh f ∧ isRw f 172 173 600 (bltS S) ∧ BD f S.2.1 S.1 S.2.2.1 (pcF S) (pcF S).length
theorem sid3 : SID 3 := by unfold SID; omega
theorem KO_tr {f f' : AH} {n n' : Nat} {S : SST} (h : KO f n S) (h1 : ∀ j, (3 ≤ j ∧ j ≤ 7) ∨ (59 ≤ j ∧ j < 115) ∨ (171 ≤ j ∧ j < 178) ∨ IMM n j → f' j = f j) (hn : n ≤ n') : KO f' n' S := by
  obtain ⟨a1, a2, ⟨⟨qw, b1⟩, ⟨R, b2⟩, ⟨E, b3⟩, ⟨M, b4⟩⟩, a4, a5⟩ := h
  have h40 := pcs_40 (cf := S.2.1) (L := S.1)
  refine ⟨STT_tr a1 (h1 _ (by omega)) (h1 _ (by omega)) (h1 _ (by omega)) (fun i hi => h1 i (by right; right; right; exact hi)) hn, CUT_tr a2 (fun i x1 x2 => h1 i (by omega)), ⟨⟨qw, (h1 _ (by omega)).trans b1⟩, ⟨R, rw_tr b2 (h1 _ (by omega)) (h1 _ (by omega))⟩, ⟨E, rw_tr b3 (h1 _ (by omega)) (h1 _ (by omega))⟩, ⟨M, rw_tr b4 (h1 _ (by omega)) (h1 _ (by omega))⟩⟩, rw_tr a4 (h1 _ (by omega)) (h1 _ (by omega)), fun i hi => ?_⟩
  obtain ⟨x11, e⟩ := a5 i hi
  have hi' : i < (pcs S.2.1 S.1).length := hi
  exact ⟨x11, (h1 _ (by omega)).trans e⟩
/-- cut and built anew -/
theorem f_recut {f : AH} {n : Nat} {S : SST} {fs : List Value} (h1 : fs[1]? = some (.ref 3)) (h5 : fs[5]? = some (.ref 59)) (h7 : fs[7]? = some (.ref 171)) (hp : f 0 = some (.inr (8, fs))) (hS : STT f n 3 S) (hV : SV S) (hC : CSh f 59) (hB : BSh f) : PQ ((gR f 0 8 5).bind fun x8 => ((gR f 0 8 1).bind fun x9 => ((x9).bind fun j10 => ((gR f j10 7 0).bind fun x11 => ((gR f 0 8 1).bind fun x12 => ((x8).bind fun j13 => rCk (isO f j13 1) (((mX1_find j13 x11 x12 f n).bind fun r15 => ((gR r15.2.1 0 8 7).bind fun x17 => ((gR r15.2.1 0 8 1).bind fun x18 => ((gR r15.2.1 0 8 5).bind fun x19 => ((x17).bind fun j20 => rCk (isO r15.2.1 j20 0) (((mX0_make j20 x18 x19 r15.2.1 r15.2.2).bind fun r22 => some ((0 : Int32), (r22.2.1, r22.2.2)))))))))))))))) (fun y => ∃ f', y = (0, f', n) ∧ KO f' n S ∧ ∀ j, j < 59 ∨ (115 ≤ j ∧ j < 171) ∨ 177 < j → f' j = f j) := by
  obtain ⟨⟨fr, la, a1, ⟨rb, cc, a2, a2', a2''⟩, full, a3, a4⟩, a5, a6, a7, a8⟩ := id hS
  have i1 := IMM_1 a2'
  have i2 := IMM_1 a2''
  refine pq_gR hp h5 (pq_gR hp h1 (pq_sb (pq_gR a1 rfl (pq_gR hp h1 (pq_sb (pq_ck ?_))))))
  refine pq_call (f_find (cf := S.2.1) a7.1 a7.2.1 a1 (by omega) a7.2.2.2.1.2 (STT_lks hS sid3 (Or.inl rfl)) a2 (by omega) (by omega) hC) (fun y hy => ?_)
  obtain ⟨f1, rfl, g1, g2⟩ := hy
  have hp1 : f1 0 = some (.inr (8, fs)) := (g2 _ (by omega)).trans hp
  refine pq_gR hp1 h7 (pq_gR hp1 h1 (pq_gR hp1 h5 (pq_sb (pq_ck ?_))))
  have hI1 : ∀ j, IMM n j → f1 j = f j := fun j hj => g2 j (by have := IMM_1 hj; omega)
  have hS1 : STT f1 n 3 S := STT_tr hS (g2 _ (by omega)) (g2 _ (by omega)) (g2 _ (by omega)) hI1 (Nat.le_refl _)
  have hB1 : BSh f1 := by
    obtain ⟨⟨qw, b1⟩, ⟨R, b2⟩, ⟨E, b3⟩, ⟨M, b4⟩⟩ := hB
    exact ⟨⟨qw, (g2 _ (by omega)).trans b1⟩, ⟨R, rw_tr b2 (g2 _ (by omega)) (g2 _ (by omega))⟩, ⟨E, rw_tr b3 (g2 _ (by omega)) (g2 _ (by omega))⟩, ⟨M, rw_tr b4 (g2 _ (by omega)) (g2 _ (by omega))⟩⟩
  have hM1 : MK f1 3 fr 6 7 rb cc S.2.1 S.2.1.2.2.1 (nI S.2.1.2.2.2.1) (nI S.2.1.2.2.2.2.length) la (nI S.2.2.2.length) S.1 S.2.2.1 (pcF S) := ⟨g1.1.1, (g2 _ (by omega)).trans a1, rw_tr a2 (g2 _ (by omega)) (g2 _ (by omega)), STT_tld hS1⟩
  refine pq_call (f_make a7.1 a7.2.1 (by omega) (by omega) (IMM_out a2') (IMM_out a2'') pcs_ord hV.1 hM1 hB1) (fun y hy => ?_)
  obtain ⟨f2, k1, k2, k3, k4⟩ := hy
  have e : ∀ j, j < 59 ∨ (115 ≤ j ∧ j < 171) ∨ 177 < j → f2 j = f j := fun j hj => (k3 j (by omega)).trans (g2 j (by omega))
  have hv2 : (blt S.2.1 S.1 S.2.2.1 (pcF S)).length ≤ 600 := hV.2.1
  rcases k4 with ⟨-, rfl, k6, k7⟩ | ⟨k5, -⟩
  · refine pq_ret ⟨f2, rfl, ⟨STT_tr hS (e _ (by omega)) (e _ (by omega)) (e _ (by omega)) (fun j hj => e j (by have := IMM_1 hj; omega)) (Nat.le_refl _), ⟨⟨k1, ?_, ?_, ?_, ?_, ?_⟩, ?_, g1.2.2⟩, k2, k6, k7⟩, e⟩
    · exact rw_tr g1.1.2.1 (k3 _ (by omega)) (k3 _ (by omega))
    · exact rw_tr g1.1.2.2.1 (k3 _ (by omega)) (k3 _ (by omega))
    · obtain ⟨M, hM⟩ := g1.1.2.2.2.1
      exact ⟨M, rw_tr hM (k3 _ (by omega)) (k3 _ (by omega))⟩
    · obtain ⟨M, hM⟩ := g1.1.2.2.2.2.1
      exact ⟨M, rw_tr hM (k3 _ (by omega)) (k3 _ (by omega))⟩
    · rw [k3 _ (by omega)]; exact g1.1.2.2.2.2.2
    · rw [k3 _ (by omega)]; exact g1.2.1
  · have k5' : 600 < (blt S.2.1 S.1 S.2.2.1 (pcF S)).length := k5
    omega
