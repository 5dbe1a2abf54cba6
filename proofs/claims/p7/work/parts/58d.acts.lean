/-! the class's text of acts, one behind another -/
def FRb (n : Nat) (f f' : AH) : Prop := ∀ j, j < n → j ≠ 0 → j ≠ 1 → j ≠ 3 → j ≠ 6 → j ≠ 7 → j ≠ 178 → (j < 59 ∨ 115 ≤ j) → (j < 171 ∨ 178 ≤ j) → f' j = f j
theorem frb_a {n : Nat} {f f' : AH} (h : FRa n f f') : FRb n f f' := fun j a b _ c d e _ g k => h j a b c d e g k
theorem frb_tr {n n' : Nat} {f f' f'' : AH} (h1 : FRb n f f') (h2 : FRb n' f' f'') (hn : n ≤ n') : FRb n f f'' := fun j a b c d e g h i k => (h2 j (by omega) b c d e g h i k).trans (h1 j a b c d e g h i k)
theorem frb_rfl {n : Nat} {f : AH} : FRb n f f := fun _ _ _ _ _ _ _ _ _ _ => rfl
theorem frb_imm {n : Nat} {f f' : AH} (h : FRb n f f') (hn : 224 ≤ n) {j : Nat} (hj : IMM n j) : f' j = f j := by
  have h1 := IMM_1 hj
  have h2 := IMM_ne hj sid3
  have h3 := IMM_lt hj hn
  exact h j h3 h1.1 h1.2.1 h2.1 h2.2.1 h2.2.2 (by omega) (by omega) (by omega)
theorem sid8 : SID 8 := by unfold SID; omega
theorem STT_frb {n n' s : Nat} {f f' : AH} {S : SST} (h : STT f n s S) (hs : SID s) (h3 : s ≠ 3) (hF : FRb n f f') (hn : 224 ≤ n) (hn' : n ≤ n') : STT f' n' s S := by
  have h1 := SID_lt hs
  have h2 : 8 ≤ s := by unfold SID at hs; omega
  exact STT_tr h (hF _ (by omega) (by omega) (by omega) (by omega) (by omega) (by omega) (by omega) (by omega) (by omega)) (hF _ (by omega) (by omega) (by omega) (by omega) (by omega) (by omega) (by omega) (by omega) (by omega)) (hF _ (by omega) (by omega) (by omega) (by omega) (by omega) (by omega) (by omega) (by omega) (by omega)) (fun i hi => frb_imm hF hn hi) hn'
section RBH
variable {f : AH} {n : Nat} {T : BL} {du a0 x0 y0 nm : Int32} {wd : Option Nat}
theorem f_behind_b73 {q : Nat} (hr : isRw f 1 2 400 T) (hd : f 178 = some (.inr (4, rdV du (nI q) a0 x0 y0 wd nm))) (hq : q ≤ T.length) : PQ (mX4_readBehindAct_b73 178 f n) (fun y => ∃ f', y = (-1, f', n) ∧ f' 178 = some (.inr (4, rdV du (nI (if q < T.length then nB T (q + 1) else T.length)) a0 x0 y0 wd nm)) ∧ ∀ j, j ≠ 178 → f' j = f j) := by
  have h6 := rw_6 hr
  unfold mX4_readBehindAct_b73
  refine pq_gR hd rfl (pq_gI hd rfl (pq_gR hd rfl (pq_sb (pq_ck (pq_is (f_size hr) (pq_sb (pq_ck ?_)))))))
  rw [nI_1]
  by_cases h : q < T.length
  · rw [if_pos h]
    exact pq_is (f_blanks hr (show q + 1 ≤ T.length by omega) (Nat.le_refl _)) (pq_pO hd rfl (pq_ret ⟨_, rfl, u_eq, fun j hj => u_ne hj⟩))
  · rw [if_neg h]
    exact pq_is (f_blanksO hr (show T.length ≤ q + 1 by omega) (by omega)) (pq_pO hd rfl (pq_ret ⟨_, rfl, u_eq, fun j hj => u_ne hj⟩))
theorem f_behind {p : Nat} (hr : isRw f 1 2 400 T) (hd : f 178 = some (.inr (4, rdV du (nI p) a0 x0 y0 wd nm))) (hp : p ≤ T.length) : PQ (mX4_readBehindAct 178 f n) (fun y => ∃ f', (∀ j, j ≠ 178 → f' j = f j) ∧ ((T.length ≤ nB T p ∧ y = (-1, f', n) ∧ f' 178 = some (.inr (4, rdV 0 (nI T.length) a0 x0 y0 wd nm))) ∨ (nB T p < T.length ∧ T.getD (nB T p) 0 = 59 ∧ y = (-1, f', n) ∧ f' 178 = some (.inr (4, rdV 1 (nI (nB T (nB T p + 1))) a0 x0 y0 wd nm))) ∨ (nB T p < T.length ∧ T.getD (nB T p) 0 ≠ 59 ∧ y = (nI (nB T p), f', n) ∧ rdAny (f' 178)))) := by
  have h6 := rw_6 hr
  have hb := nE_b hp
  have hb2 : nB T p ≤ T.length := by omega
  unfold mX4_readBehindAct
  refine pq_gR hd rfl (pq_gI hd rfl (pq_gR hd rfl (pq_sb (pq_ck (pq_is (f_size hr) (pq_sb (pq_ck (pq_is (f_blanks hr hp (Nat.le_refl _)) (pq_pO hd rfl ?_)))))))))
  have hd2 : va_up f 178 (some (.inr (4, (rdV du (nI p) a0 x0 y0 wd nm).set 1 (.int (nI (nx (bNe 32) T p T.length)))))) 178 = some (.inr (4, rdV du (nI (nB T p)) a0 x0 y0 wd nm)) := u_eq
  have hF2 : ∀ j, j ≠ 178 → va_up f 178 (some (.inr (4, (rdV du (nI p) a0 x0 y0 wd nm).set 1 (.int (nI (nx (bNe 32) T p T.length)))))) j = f j := fun j hj => u_ne hj
  generalize va_up f 178 (some (.inr (4, (rdV du (nI p) a0 x0 y0 wd nm).set 1 (.int (nI (nx (bNe 32) T p T.length)))))) = f2 at hd2 hF2 ⊢
  have hr2 : isRw f2 1 2 400 T := rw_tr hr (hF2 _ (by omega)) (hF2 _ (by omega))
  refine pq_gI hd2 rfl (pq_gR hd2 rfl (pq_sb (pq_ck (pq_is (f_size hr2) ?_))))
  refine pq_le (nI_toInt (by omega)) (nI_toInt (by omega)) (fun q => ?_) (fun q => ?_)
  · unfold mX4_readBehindAct_b42
    refine pq_ck (pq_pO hd2 rfl ?_)
    have hd3 : va_up f2 178 (some (.inr (4, (rdV du (nI (nB T p)) a0 x0 y0 wd nm).set 0 (.int 0)))) 178 = some (.inr (4, rdV 0 (nI (nB T p)) a0 x0 y0 wd nm)) := u_eq
    have hF3 : ∀ j, j ≠ 178 → va_up f2 178 (some (.inr (4, (rdV du (nI (nB T p)) a0 x0 y0 wd nm).set 0 (.int 0)))) j = f j := fun j hj => (u_ne hj).trans (hF2 j hj)
    generalize va_up f2 178 (some (.inr (4, (rdV du (nI (nB T p)) a0 x0 y0 wd nm).set 0 (.int 0)))) = f3 at hd3 hF3 ⊢
    have hr3 : isRw f3 1 2 400 T := rw_tr hr (hF3 _ (by omega)) (hF3 _ (by omega))
    refine pq_gI hd3 rfl (pq_t rfl (pq_tail (f_behind_b73 (f := f3) (n := n) hr3 hd3 hb2) (fun y hy => ?_)))
    obtain ⟨f4, rfl, k1, k2⟩ := hy
    rw [if_neg (by omega)] at k1
    exact ⟨f4, fun j hj => (k2 j hj).trans (hF3 j hj), Or.inl ⟨by omega, rfl, k1⟩⟩
  · unfold mX4_readBehindAct_b42
    refine pq_ck (pq_pO hd2 rfl ?_)
    have hd3 : va_up f2 178 (some (.inr (4, (rdV du (nI (nB T p)) a0 x0 y0 wd nm).set 0 (.int 1)))) 178 = some (.inr (4, rdV 1 (nI (nB T p)) a0 x0 y0 wd nm)) := u_eq
    have hF3 : ∀ j, j ≠ 178 → va_up f2 178 (some (.inr (4, (rdV du (nI (nB T p)) a0 x0 y0 wd nm).set 0 (.int 1)))) j = f j := fun j hj => (u_ne hj).trans (hF2 j hj)
    generalize va_up f2 178 (some (.inr (4, (rdV du (nI (nB T p)) a0 x0 y0 wd nm).set 0 (.int 1)))) = f3 at hd3 hF3 ⊢
    have hr3 : isRw f3 1 2 400 T := rw_tr hr (hF3 _ (by omega)) (hF3 _ (by omega))
    have hlt : nB T p < T.length := by omega
    refine pq_gI hd3 rfl (pq_f (by decide) (pq_gR hd3 rfl (pq_gI hd3 rfl (pq_sb (pq_ck (pq_is (f_getN hr3 hlt) ?_))))))
    refine pq_eq (fun q2 => ?_) (fun q2 => ?_)
    · refine pq_tail (f_behind_b73 (f := f3) (n := n) hr3 hd3 hb2) (fun y hy => ?_)
      obtain ⟨f4, rfl, k1, k2⟩ := hy
      rw [if_pos hlt] at k1
      exact ⟨f4, fun j hj => (k2 j hj).trans (hF3 j hj), Or.inr (Or.inl ⟨hlt, q2, rfl, k1⟩)⟩
    · exact pq_gI hd3 rfl (pq_ret ⟨f3, hF3, Or.inr (Or.inr ⟨hlt, q2, rfl, _, _, _, _, _, _, _, hd3⟩)⟩)
theorem f_start {du0 p0 : Int32} {tx : Nat} (hr : isRw f 1 2 400 T) (hd : f 178 = some (.inr (4, [.int du0, .int p0, .int a0, .int x0, .int y0, va_rf wd, .int nm, .ref tx]))) : PQ (mX4_start 178 (some 1) f n) (fun y => ∃ f', y = (0, f', n) ∧ f' 178 = some (.inr (4, rdV (bI (decide (nB T 0 < T.length))) (nI (nB T 0)) a0 x0 y0 wd nm)) ∧ ∀ j, j ≠ 178 → f' j = f j) := by
  have h6 := rw_6 hr
  have hb := nE_b (T := T) (p := 0) (Nat.zero_le _)
  unfold mX4_start
  refine pq_pO hd rfl ?_
  have hd2 : va_up f 178 (some (.inr (4, ([.int du0, .int p0, .int a0, .int x0, .int y0, va_rf wd, .int nm, .ref tx] : List Value).set 7 (va_rf (some 1))))) 178 = some (.inr (4, rdV du0 p0 a0 x0 y0 wd nm)) := u_eq
  have hF2 : ∀ j, j ≠ 178 → va_up f 178 (some (.inr (4, ([.int du0, .int p0, .int a0, .int x0, .int y0, va_rf wd, .int nm, .ref tx] : List Value).set 7 (va_rf (some 1))))) j = f j := fun j hj => u_ne hj
  generalize va_up f 178 (some (.inr (4, ([.int du0, .int p0, .int a0, .int x0, .int y0, va_rf wd, .int nm, .ref tx] : List Value).set 7 (va_rf (some 1))))) = f2 at hd2 hF2 ⊢
  have hr2 : isRw f2 1 2 400 T := rw_tr hr (hF2 _ (by omega)) (hF2 _ (by omega))
  refine pq_gR hd2 rfl (pq_gR hd2 rfl (pq_sb (pq_ck (pq_is (f_size hr2) (pq_sb (pq_ck (pq_is (f_blanks hr2 (i := 0) (Nat.zero_le _) (Nat.le_refl _)) (pq_pO hd2 rfl ?_))))))))
  have hd3 : va_up f2 178 (some (.inr (4, (rdV du0 p0 a0 x0 y0 wd nm).set 1 (.int (nI (nx (bNe 32) T 0 T.length)))))) 178 = some (.inr (4, rdV du0 (nI (nB T 0)) a0 x0 y0 wd nm)) := u_eq
  have hF3 : ∀ j, j ≠ 178 → va_up f2 178 (some (.inr (4, (rdV du0 p0 a0 x0 y0 wd nm).set 1 (.int (nI (nx (bNe 32) T 0 T.length)))))) j = f j := fun j hj => (u_ne hj).trans (hF2 j hj)
  generalize va_up f2 178 (some (.inr (4, (rdV du0 p0 a0 x0 y0 wd nm).set 1 (.int (nI (nx (bNe 32) T 0 T.length)))))) = f3 at hd3 hF3 ⊢
  have hr3 : isRw f3 1 2 400 T := rw_tr hr (hF3 _ (by omega)) (hF3 _ (by omega))
  refine pq_gI hd3 rfl (pq_gR hd3 rfl (pq_sb (pq_ck (pq_is (f_size hr3) ?_))))
  refine pq_le (nI_toInt (by omega)) (nI_toInt (by omega)) (fun q => ?_) (fun q => ?_)
  · rw [decide_eq_false (show ¬ nB T 0 < T.length by omega)]
    exact pq_ck (pq_pO hd3 rfl (pq_ret ⟨_, rfl, u_eq, fun j hj => (u_ne hj).trans (hF3 j hj)⟩))
  · rw [decide_eq_true (show nB T 0 < T.length by omega)]
    exact pq_ck (pq_pO hd3 rfl (pq_ret ⟨_, rfl, u_eq, fun j hj => (u_ne hj).trans (hF3 j hj)⟩))
end RBH
