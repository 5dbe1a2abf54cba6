section PIC
variable {f : AH} {n : Nat} {V : SPV}
theorem f_ahead {S : SST} {i : Nat} (hC : CUT f 59 (pcF S)) (hi : i < (pcF S).length) : PQ (mX1_hasLikeAhead 59 (nI i) f n) (fun y => y = (bI (erF S i i 0), f, n)) := by
  have h40 : (pcF S).length ≤ 40 := pcs_40
  have hv : inP S (nI i) := by show 0 ≤ (nI i).toInt ∧ (nI i).toInt < ((pcF S).length : Int); rw [nI_toInt (by omega)]; omega
  have key : ∀ (d e k : Nat), k + e = i → PQ (mX1_hasLikeAhead_l2 d 59 (nI i) (nI k) f n) (fun y => y = (bI (erF S i e k), f, n)) := by
    intro d
    induction d with
    | zero => intro _ _ _; exact pq_none
    | succ d ih =>
      intro e k hk
      unfold mX1_hasLikeAhead_l2
      refine pq_le (nI_toInt (by omega)) (nI_toInt (by omega)) (fun q => ?_) (fun q => ?_)
      · obtain rfl : e = 0 := by omega
        exact pq_ck (pq_ret rfl)
      · obtain ⟨e, rfl⟩ : ∃ e', e = e' + 1 := ⟨e - 1, by omega⟩
        have es : erF S i (e + 1) k = (lkB S i k || erF S i e (k + 1)) := rfl
        refine pq_ck (pq_is (f_areLike (f := f) (n := n) hC hv (i := k) (by omega)) ?_)
        rw [nI_tn (by omega), es]
        cases hb : lkB S i k with
        | false =>
          rw [Bool.false_or]
          refine pq_t rfl ?_
          rw [nI_1]; exact ih e (k + 1) (by omega)
        | true => exact pq_f (show ¬ (1 : Int32) = 0 by decide) (pq_ck (pq_ret rfl))
  unfold mX1_hasLikeAhead
  exact key rFU i 0 (Nat.zero_add _)
theorem f_unlike {S : SST} (hC : CUT f 59 (pcF S)) : PQ (mX1_unlikeCount 59 f n) (fun y => y = (ulF S (pcF S).length 0 0, f, n)) := by
  have h40 : (pcF S).length ≤ 40 := pcs_40
  have key : ∀ (d e i : Nat) (a : Int32), i + e = (pcF S).length → PQ (mX1_unlikeCount_l4 d 59 a (nI i) f n) (fun y => y = (ulF S e i a, f, n)) := by
    intro d
    induction d with
    | zero => intro _ _ _ _; exact pq_none
    | succ d ih =>
      intro e i a hi
      unfold mX1_unlikeCount_l4 mX1_unlikeCount_b23
      refine pq_gI hC.1.1.1 rfl (pq_le (nI_toInt (by omega)) (nI_toInt (by omega)) (fun q => ?_) (fun q => ?_))
      · obtain rfl : e = 0 := by omega
        exact pq_ret rfl
      · obtain ⟨e, rfl⟩ : ∃ e', e = e' + 1 := ⟨e - 1, by omega⟩
        refine pq_ck (pq_is (f_ahead (f := f) (n := n) hC (show i < (pcF S).length by omega)) ?_)
        unfold ulF
        cases hb : erF S i i 0 with
        | false =>
          rw [if_neg Bool.false_ne_true]
          refine pq_t rfl ?_
          rw [nI_1]; exact ih e (i + 1) _ (by omega)
        | true =>
          rw [if_pos rfl]
          refine pq_f (show ¬ (1 : Int32) = 0 by decide) ?_
          rw [nI_1]; exact ih e (i + 1) _ (by omega)
  unfold mX1_unlikeCount
  exact key rFU _ 0 0 (Nat.zero_add _)
theorem f_longest {S : SST} (hK : KO f n S) : PQ (mX1_longestText 59 f n) (fun y => y = (lgF S (pcF S).length 0 0, f, n)) := by
  have h40 : (pcF S).length ≤ 40 := pcs_40
  have key : ∀ (d e i : Nat) (a : Int32), i + e = (pcF S).length → PQ (mX1_longestText_l4 d 59 a (nI i) f n) (fun y => y = (lgF S e i a, f, n)) := by
    intro d
    induction d with
    | zero => intro _ _ _ _; exact pq_none
    | succ d ih =>
      intro e i a hi
      unfold mX1_longestText_l4 mX1_longestText_b34
      refine pq_gI hK.2.1.1.1.1 rfl (pq_le (nI_toInt (by omega)) (nI_toInt (by omega)) (fun q => ?_) (fun q => ?_))
      · obtain rfl : e = 0 := by omega
        exact pq_ret rfl
      · obtain ⟨e, rfl⟩ : ∃ e', e = e' + 1 := ⟨e - 1, by omega⟩
        have hi' : i < (pcF S).length := by omega
        obtain ⟨x11, ep⟩ := KO_BD hK hi'
        unfold lgF
        refine pq_ck (pq_is (f_cg75 hK hi') (pq_sb (pq_oNs (pq_gI ep rfl ?_))))
        rw [nI_1]; exact ih e (i + 1) _ (by omega)
  unfold mX1_longestText
  exact key rFU _ 0 0 (Nat.zero_add _)
theorem f_bytes {S : SST} (hK : KO f n S) : PQ (mX1_bytesInPieces 59 f n) (fun y => y = (biF S (pcF S).length 0 0, f, n)) := by
  have h40 : (pcF S).length ≤ 40 := pcs_40
  have key : ∀ (d e i : Nat) (a : Int32), i + e = (pcF S).length → PQ (mX1_bytesInPieces_l4 d 59 a (nI i) f n) (fun y => y = (biF S e i a, f, n)) := by
    intro d
    induction d with
    | zero => intro _ _ _ _; exact pq_none
    | succ d ih =>
      intro e i a hi
      unfold mX1_bytesInPieces_l4 mX1_bytesInPieces_b36
      refine pq_gI hK.2.1.1.1.1 rfl (pq_le (nI_toInt (by omega)) (nI_toInt (by omega)) (fun q => ?_) (fun q => ?_))
      · obtain rfl : e = 0 := by omega
        exact pq_ret rfl
      · obtain ⟨e, rfl⟩ : ∃ e', e = e' + 1 := ⟨e - 1, by omega⟩
        have hi' : i < (pcF S).length := by omega
        obtain ⟨x11, ep⟩ := KO_BD hK hi'
        unfold biF
        refine pq_ck (pq_is (f_cg75 hK hi') (pq_sb (pq_oNs (pq_gI ep rfl (pq_gI ep rfl ?_)))))
        rw [nI_1]; exact ih e (i + 1) _ (by omega)
  unfold mX1_bytesInPieces
  exact key rFU _ 0 0 (Nat.zero_add _)
theorem f_allW {S : SST} {hi ag pc wn fp : Int32} (hp : f 0 = some (.inr (8, pfL hi ag pc wn fp))) (hK : KO f n S) : PQ (mX8_countAllWords 0 f n) (fun y => y = (awF S (pcF S).length 0 0, f, n)) := by
  have h40 : (pcF S).length ≤ 40 := pcs_40
  have key : ∀ (d e i : Nat) (a : Int32), i + e = (pcF S).length → PQ (mX8_countAllWords_l4 d 0 a (nI i) f n) (fun y => y = (awF S e i a, f, n)) := by
    intro d
    induction d with
    | zero => intro _ _ _ _; exact pq_none
    | succ d ih =>
      intro e i a hi
      unfold mX8_countAllWords_l4 mX8_countAllWords_b37
      refine pq_gR hp rfl (pq_sb (pq_ck (pq_is (f_csize hK.2.1.1.1) (pq_le (nI_toInt (by omega)) (nI_toInt (by omega)) (fun q => ?_) (fun q => ?_)))))
      · obtain rfl : e = 0 := by omega
        exact pq_ret rfl
      · obtain ⟨e, rfl⟩ : ∃ e', e = e' + 1 := ⟨e - 1, by omega⟩
        have hi' : i < (pcF S).length := by omega
        unfold awF
        refine pq_gR hp rfl (pq_sb (pq_ck (pq_is (f_cg75 hK hi') (pq_sb (pq_oNs (pq_ck (pq_is (f_wds8 (f := f) (n := n) hp hK hi') ?_)))))))
        rw [nI_1]; exact ih e (i + 1) _ (by omega)
  unfold mX8_countAllWords
  exact key rFU _ 0 0 (Nat.zero_add _)
theorem ne_ti {w k : Int32} {x : Int} (h : w ≠ k) (hk : k.toInt = x) : w.toInt ≠ x := fun q => h (Int32.toInt_inj.mp (q.trans hk.symm))
theorem in_09 {w : Int32} : (0 ≤ w.toInt ∧ w.toInt ≤ 9) ↔ (w = 0 ∨ w = 1 ∨ w = 2 ∨ w = 3 ∨ w = 4 ∨ w = 5 ∨ w = 6 ∨ w = 7 ∨ w = 8 ∨ w = 9) := by
  constructor
  · intro h
    have hx : w.toInt = 0 ∨ w.toInt = 1 ∨ w.toInt = 2 ∨ w.toInt = 3 ∨ w.toInt = 4 ∨ w.toInt = 5 ∨ w.toInt = 6 ∨ w.toInt = 7 ∨ w.toInt = 8 ∨ w.toInt = 9 := by omega
    have k4 : (4 : Int32).toInt = 4 := by decide
    have k5 : (5 : Int32).toInt = 5 := by decide
    have k6 : (6 : Int32).toInt = 6 := by decide
    have m : ∀ {k : Int32} {x : Int}, k.toInt = x → w.toInt = x → w = k := fun hk q => Int32.toInt_inj.mp (q.trans hk.symm)
    rcases hx with q | q | q | q | q | q | q | q | q | q
    · exact Or.inl (m kt_0 q)
    · exact Or.inr (Or.inl (m kt_1 q))
    · exact Or.inr (Or.inr (Or.inl (m kt_2 q)))
    · exact Or.inr (Or.inr (Or.inr (Or.inl (m kt_3 q))))
    · exact Or.inr (Or.inr (Or.inr (Or.inr (Or.inl (m k4 q)))))
    · exact Or.inr (Or.inr (Or.inr (Or.inr (Or.inr (Or.inl (m k5 q))))))
    · exact Or.inr (Or.inr (Or.inr (Or.inr (Or.inr (Or.inr (Or.inl (m k6 q)))))))
    · exact Or.inr (Or.inr (Or.inr (Or.inr (Or.inr (Or.inr (Or.inr (Or.inl (m kt_7 q))))))))
    · exact Or.inr (Or.inr (Or.inr (Or.inr (Or.inr (Or.inr (Or.inr (Or.inr (Or.inl (m kt_8 q)))))))))
    · exact Or.inr (Or.inr (Or.inr (Or.inr (Or.inr (Or.inr (Or.inr (Or.inr (Or.inr (m kt_9 q)))))))))
  · rintro (rfl | rfl | rfl | rfl | rfl | rfl | rfl | rfl | rfl | rfl) <;> decide
theorem k_pie {p w : Int32} (h : RC f n V) : PQ (mX8_piece 0 p w f n) (COK (sPie V p w)) := by
  obtain ⟨ag, hp⟩ := RC_p h
  have hK := h.2.2.2.1.1
  have hS := h.2.2.2.1.2
  have h40 : (pcF V.2.1).length ≤ 40 := pcs_40
  obtain ⟨⟨fr, la, e3, -⟩, -⟩ := id hK.1
  unfold mX8_piece sPie
  refine pq_ck (pq_pot h (fun hin => ?_) (fun hin => ?_))
  · rw [if_pos hin, tS_l (v := some (75 + p.toInt.toNat)) rfl]
    obtain ⟨x11, ep⟩ := KO_BD hK (tn_lt hin)
    by_cases hw : 0 ≤ w.toInt ∧ w.toInt ≤ 9
    · rw [if_pos hw]
      have ok : ∀ {z : Int32}, z = pieA V.2.1 p.toInt.toNat w → COK (.inl (pieA V.2.1 p.toInt.toNat w), V) (.inl z, f, n) := fun hz => ⟨f, n, by rw [hz], h⟩
      refine pq_sb ?_
      rcases in_09.mp hw with rfl | rfl | rfl | rfl | rfl | rfl | rfl | rfl | rfl | rfl
      · exact pq_t rfl (pq_sb (pq_gI ep rfl (pq_ret (ok rfl))))
      · exact pq_f (by decide) (pq_t rfl (pq_sb (pq_gI ep rfl (pq_ret (ok rfl)))))
      · exact pq_f (by decide) (pq_f (by decide) (pq_t rfl (pq_sb (pq_gI ep rfl (pq_ret (ok rfl))))))
      · exact pq_f (by decide) (pq_f (by decide) (pq_f (by decide) (pq_t rfl (pq_ck (pq_is (f_nowSize hp hK hin) (pq_ret (ok rfl)))))))
      · refine pq_f (by decide) (pq_f (by decide) (pq_f (by decide) (pq_f (by decide) (pq_t rfl (pq_gR hp rfl (pq_sb (pq_ck (pq_call (f_toldForS (f := f) (n := n) hK.1 (inP_40 hin)) (fun y hy => ?_)))))))))
        obtain ⟨u, rfl, hu⟩ := hy
        unfold mX8_piece_b98
        cases ht : V.2.1.2.2.1 p.toInt.toNat with
        | none =>
          rw [ht] at hu
          have hu : u = none := hu
          subst hu
          exact pq_sb (pq_oNn (pq_ret (ok (show (0 : Int32) = bI (V.2.1.2.2.1 p.toInt.toNat).isSome by rw [ht]; rfl))))
        | some t =>
          rw [ht] at hu
          obtain ⟨j, rfl, -⟩ := hu
          exact pq_sb (pq_oNs (pq_ret (ok (show (1 : Int32) = bI (V.2.1.2.2.1 p.toInt.toNat).isSome by rw [ht]; rfl))))
      · exact pq_f (by decide) (pq_f (by decide) (pq_f (by decide) (pq_f (by decide) (pq_f (by decide) (pq_t rfl (pq_gR hp rfl (pq_sb (pq_ck (pq_is (f_likeN hK.2.1 hin) (pq_ret (ok rfl)))))))))))
      · have ew : PQ (mX8_countWords 0 p (some (75 + p.toInt.toNat)) f n) (fun y => y = (wds (nowOf V.2.1 p.toInt.toNat), f, n)) := by
          have e1 := (v_nI hin (by omega)).1
          have := f_wds8 (f := f) (n := n) hp hK (tn_lt hin)
          rw [← e1] at this; exact this
        exact pq_f (by decide) (pq_f (by decide) (pq_f (by decide) (pq_f (by decide) (pq_f (by decide) (pq_f (by decide) (pq_t rfl (pq_ck (pq_is ew (pq_ret (ok rfl))))))))))
      · exact pq_f (by decide) (pq_f (by decide) (pq_f (by decide) (pq_f (by decide) (pq_f (by decide) (pq_f (by decide) (pq_f (by decide) (pq_t rfl (pq_ck (pq_is (f_known hp hK hS (tn_lt hin)) (pq_ret (ok rfl)))))))))))
      · exact pq_f (by decide) (pq_f (by decide) (pq_f (by decide) (pq_f (by decide) (pq_f (by decide) (pq_f (by decide) (pq_f (by decide) (pq_f (by decide) (pq_t rfl (pq_sb (pq_gI ep rfl (pq_ret (ok rfl))))))))))))
      · exact pq_f (by decide) (pq_f (by decide) (pq_f (by decide) (pq_f (by decide) (pq_f (by decide) (pq_f (by decide) (pq_f (by decide) (pq_f (by decide) (pq_f (by decide) (pq_t rfl (pq_sb (pq_gI ep rfl (pq_ret (ok rfl)))))))))))))
    · rw [if_neg hw]
      have ne : ∀ k : Int32, (0 ≤ k.toInt ∧ k.toInt ≤ 9) → ¬ w = k := fun k hk q => hw (by rw [q]; exact hk)
      exact pq_sb (pq_f (ne 0 (by decide)) (pq_f (ne 1 (by decide)) (pq_f (ne 2 (by decide)) (pq_f (ne 3 (by decide)) (pq_f (ne 4 (by decide)) (pq_f (ne 5 (by decide)) (pq_f (ne 6 (by decide)) (pq_f (ne 7 (by decide)) (pq_f (ne 8 (by decide)) (pq_f (ne 9 (by decide)) (pq_ret ⟨f, n, rfl, h⟩)))))))))))
  · rw [if_neg hin]; exact pq_ret ⟨f, n, rfl, h⟩
theorem k_cnt {w : Int32} (h : RC f n V) : PQ (mX8_count 0 w f n) (COI (sCnt V w)) := by
  obtain ⟨ag, hp⟩ := RC_p h
  have hK := h.2.2.2.1.1
  have hS := h.2.2.2.1.2
  obtain ⟨⟨fr, la, e3, ⟨b, c, hr, -⟩, -⟩, -⟩ := id hK.1
  obtain ⟨qw, hb⟩ := hK.2.2.1.1
  have h7 : V.2.1.2.1.2.2.1 = 0 ∨ V.2.1.2.1.2.2.1 = 1 := hK.1.2.2.2.1.2.2.1
  unfold mX8_count sCnt cntA
  refine pq_eq (fun q => ?_) (fun q => ?_)
  · rw [if_pos q]; exact pq_gR hp rfl (pq_sb (pq_gR e3 rfl (pq_sb (pq_ck (pq_is (f_size hr) (pq_ret ⟨f, n, rfl, h⟩))))))
  rw [if_neg q]
  refine pq_eq (fun q => ?_) (fun q => ?_)
  · rw [if_pos q]; exact pq_gR hp rfl (pq_sb (pq_gI e3 rfl (pq_ret ⟨f, n, rfl, h⟩)))
  rw [if_neg q]
  refine pq_eq (fun q => ?_) (fun q => ?_)
  · rw [if_pos q]; exact pq_gR hp rfl (pq_sb (pq_gI e3 rfl (pq_ret ⟨f, n, rfl, h⟩)))
  rw [if_neg q]
  refine pq_eq (fun q => ?_) (fun q => ?_)
  · rw [if_pos q]; exact pq_gR hp rfl (pq_sb (pq_ck (pq_is (f_csize hK.2.1.1.1) (pq_ret ⟨f, n, rfl, h⟩))))
  rw [if_neg q]
  refine pq_eq (fun q => ?_) (fun q => ?_)
  · rw [if_pos q]; exact pq_gR hp rfl (pq_sb (pq_ck (pq_is (f_tcount hK.1) (pq_ret ⟨f, n, rfl, h⟩))))
  rw [if_neg q]
  refine pq_eq (fun q => ?_) (fun q => ?_)
  · rw [if_pos q]; exact pq_gR hp rfl (pq_sb (pq_gR hb rfl (pq_sb (pq_ck (pq_is (f_size hK.2.2.2.1) (pq_ret ⟨f, n, rfl, h⟩))))))
  rw [if_neg q]
  refine pq_eq (fun q => ?_) (fun q => ?_)
  · rw [if_pos q]; exact pq_gR hp rfl (pq_sb (pq_gR e3 rfl (pq_sb (pq_ck (pq_is (f_size hr) (pq_gR hp rfl (pq_sb (pq_ck (pq_is (f_bytes hK) (pq_ret ⟨f, n, rfl, h⟩))))))))))
  rw [if_neg q]
  refine pq_eq (fun q => ?_) (fun q => ?_)
  · rw [if_pos q]
    unfold mX8_count_b164
    refine pq_gR hp rfl (pq_sb (pq_gI e3 rfl ?_))
    rcases h7 with h7 | h7
    · rw [h7]; exact pq_t rfl (pq_ret ⟨f, n, rfl, h⟩)
    · rw [h7]; exact pq_f (by decide) (pq_ret ⟨f, n, rfl, h⟩)
  rw [if_neg q]
  refine pq_eq (fun q => ?_) (fun q => ?_)
  · rw [if_pos q]; exact pq_gR hp rfl (pq_sb (pq_gI e3 rfl (pq_ret ⟨f, n, rfl, h⟩)))
  rw [if_neg q]
  refine pq_eq (fun q => ?_) (fun q => ?_)
  · rw [if_pos q]; exact pq_gR hp rfl (pq_sb (pq_gI e3 rfl (pq_ret ⟨f, n, rfl, h⟩)))
  rw [if_neg q]
  refine pq_eq (fun q => ?_) (fun q => ?_)
  · rw [if_pos q]; exact pq_gR hp rfl (pq_sb (pq_ck (pq_is (f_unlike hK.2.1) (pq_ret ⟨f, n, rfl, h⟩))))
  rw [if_neg q]
  refine pq_eq (fun q => ?_) (fun q => ?_)
  · rw [if_pos q]; exact pq_ck (pq_is (f_allW hp hK) (pq_ret ⟨f, n, rfl, h⟩))
  rw [if_neg q]
  refine pq_eq (fun q => ?_) (fun q => ?_)
  · rw [if_pos q]; exact pq_gR hp rfl (pq_sb (pq_gI e3 rfl (pq_ret ⟨f, n, rfl, h⟩)))
  rw [if_neg q]
  refine pq_eq (fun q => ?_) (fun q => ?_)
  · rw [if_pos q]; exact pq_gR hp rfl (pq_sb (pq_ck (pq_is (f_longest hK) (pq_ret ⟨f, n, rfl, h⟩))))
  rw [if_neg q]
  refine pq_eq (fun q => ?_) (fun q => ?_)
  · rw [if_pos q]; exact pq_gI hp rfl (pq_ret ⟨f, n, rfl, h⟩)
  · rw [if_neg q]; exact pq_ret ⟨f, n, rfl, h⟩
end PIC
