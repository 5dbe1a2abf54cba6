/-! the class reads a text of acts -/
abbrev rdV (du p a x y : Int32) (wd : Option Nat) (nm : Int32) : List Value := [.int du, .int p, .int a, .int x, .int y, va_rf wd, .int nm, .ref 1]
theorem nm4_ok : ∀ t : Fin 12, sL4.getD (t : Nat) 0 = (nmL.getD (t : Nat) []).length ∧ ∀ k : Fin 8, (k : Nat) < sL4.getD (t : Nat) 0 → (sB4.getD (t : Nat) []).getD (k : Nat) 0 &&& 255 = (nmL.getD (t : Nat) []).getD (k : Nat) 0 := by decide +kernel
theorem nm4_8 : ∀ t : Fin 12, sL4.getD (t : Nat) 0 ≤ 8 := by decide +kernel
theorem nm4_l {t : Nat} (h : t < 12) : sL4.getD t 0 = (nmL.getD t []).length := (nm4_ok ⟨t, h⟩).1
theorem nm4_c {t k : Nat} (h : t < 12) (hk : k < (nmL.getD t []).length) : st4C t (nI k) = (nmL.getD t []).getD k 0 := by
  have h8 := nm4_8 ⟨t, h⟩
  have hl := nm4_l h
  have h8' : sL4.getD t 0 ≤ 8 := h8
  have := (nm4_ok ⟨t, h⟩).2 ⟨k, by omega⟩ (by show k < sL4.getD t 0; omega)
  unfold st4C
  rw [nI_clamp (by omega)]
  exact this
section RDR
variable {f : AH} {n : Nat} {T : BL} {j b c : Nat}
theorem f_isText {a m t : Nat} (hr : isRw f j b c T) (ha : a + m ≤ T.length) (ht : t < 12) : PQ (mX5_isText j (nI a) (nI m) t f n) (fun y => y = (bI (decide (sl T a (a + m) = nmL.getD t [])), f, n)) := by
  have h6 := rw_6 hr
  have hl := nm4_l ht
  have h8 : sL4.getD t 0 ≤ 8 := nm4_8 ⟨t, ht⟩
  have hsl := sl_len (L := T) (a := a) (b := a + m) ha
  unfold mX5_isText
  refine pq_eqi (nI_toInt (show m < 2 ^ 31 by omega)) (show (st4L t).toInt = _ from st4_n ht) (fun q => ?_) (fun q => ?_)
  · have hm : m = (nmL.getD t []).length := by omega
    have key : ∀ (d i : Nat), i ≤ m → (∀ k, k < i → T.getD (a + k) 0 = (nmL.getD t []).getD k 0) → PQ (mX5_isText_l13 d j (nI a) (nI m) t (nI i) f n) (fun y => y = (bI (decide (sl T a (a + m) = nmL.getD t [])), f, n)) := by
      intro d
      induction d with
      | zero => intro i _ _; exact pq_none
      | succ d ih =>
        intro i hi hk
        have fin : i = m → PQ (mX5_isText_b53 f n) (fun y => y = (bI (decide (sl T a (a + m) = nmL.getD t [])), f, n)) := fun e => by
          have e2 : sl T a (a + m) = nmL.getD t [] := bl_ext (by omega) (fun k hk2 => by
            rw [sl_gd (by omega)]
            exact hk k (by omega))
          rw [decide_eq_true e2]
          exact pq_ck (pq_ret rfl)
        unfold mX5_isText_l13
        refine pq_le (nI_toInt (by omega)) (nI_toInt (by omega)) (fun q1 => fin (by omega)) (fun q1 => ?_)
        refine pq_le (show (st4L t).toInt = _ from st4_n ht) (nI_toInt (by omega)) (fun q2 => fin (by omega)) (fun q2 => ?_)
        rw [nI_add]
        refine pq_ck (pq_is (f_getN hr (show a + i < T.length by omega)) (pq_ck ?_))
        rw [nm4_c ht (by omega), nI_1]
        refine pq_eq (fun q3 => ?_) (fun q3 => ?_)
        · refine ih (i + 1) (by omega) (fun k hk2 => ?_)
          by_cases e : k = i
          · rw [e]; exact q3
          · exact hk k (by omega)
        · have e2 : sl T a (a + m) ≠ nmL.getD t [] := fun h => q3 (by
            show T.getD (a + i) 0 = _
            rw [← h, sl_gd (by omega)])
          rw [decide_eq_false e2]
          exact pq_ck (pq_ret rfl)
    exact key rFU 0 (Nat.zero_le _) (fun k hk => absurd hk (Nat.not_lt_zero _))
  · have e2 : sl T a (a + m) ≠ nmL.getD t [] := fun h => by
      have := congrArg List.length h
      omega
    rw [decide_eq_false e2]
    exact pq_ck (pq_ret rfl)
variable {du p0 a0 x0 y0 nm : Int32} {wd : Option Nat}
theorem f_lettersEnd {p : Nat} (hr : isRw f 1 2 400 T) (hd : f 178 = some (.inr (4, rdV du (nI p) a0 x0 y0 wd nm))) (hp : p ≤ T.length) : PQ (mX4_lettersEnd 178 f n) (fun y => y = (nI (wE T p), f, n)) := by
  have h6 := rw_6 hr
  have key : ∀ (d i : Nat), p ≤ i → i ≤ T.length → (∀ k, p ≤ k → k < i → bNl (T.getD k 0) = false) → PQ (mX4_lettersEnd_l5 d 178 (nI i) f n) (fun y => y = (nI (wE T p), f, n)) := by
    intro d
    induction d with
    | zero => intro i _ _ _; exact pq_none
    | succ d ih =>
      intro i hpi hi hk
      have fin : bNl (T.getD i 0) = true → PQ (mX4_lettersEnd_b42 (nI i) f n) (fun y => y = (nI (wE T p), f, n)) := fun e => pq_ret (by rw [show wE T p = i from nx_is hpi hi hk (fun _ => e)])
      unfold mX4_lettersEnd_l5
      refine pq_gR hd rfl (pq_sb (pq_ck (pq_is (f_size hr) ?_)))
      refine pq_le (nI_toInt (by omega)) (nI_toInt (by omega)) (fun q => ?_) (fun q => ?_)
      · refine pq_gR hd rfl (pq_sb (pq_ck (pq_is (f_size hr) (pq_ret ?_))))
        have e : i = T.length := by omega
        rw [show wE T p = i from nx_is hpi hi hk (fun h => by omega), e]
      · have hi' : i < T.length := by omega
        refine pq_gR hd rfl (pq_sb (pq_ck (pq_is (f_getN hr hi') ?_)))
        refine pq_lt rfl kt_97 (fun q1 => fin (low_n (Or.inl q1))) (fun q1 => ?_)
        refine pq_gR hd rfl (pq_sb (pq_ck (pq_is (f_getN hr hi') ?_)))
        refine pq_le rfl kt_122 (fun q2 => ?_) (fun q2 => fin (low_n (Or.inr q2)))
        rw [nI_1]
        refine ih (i + 1) (by omega) (by omega) (fun k h1 h2 => ?_)
        by_cases e : k = i
        · rw [e]; exact low_t q1 q2
        · exact hk k h1 (by omega)
  unfold mX4_lettersEnd
  exact pq_gI hd rfl (key rFU p (Nat.le_refl _) hp (fun k h1 h2 => by omega))
theorem f_nameOf {t : Nat} (ht : t < 12) : PQ (mX4_nameOf (nI t) f n) (fun y => y = (t, f, n)) := by
  have h : t = 0 ∨ t = 1 ∨ t = 2 ∨ t = 3 ∨ t = 4 ∨ t = 5 ∨ t = 6 ∨ t = 7 ∨ t = 8 ∨ t = 9 ∨ t = 10 ∨ t = 11 := by omega
  rcases h with rfl | rfl | rfl | rfl | rfl | rfl | rfl | rfl | rfl | rfl | rfl | rfl <;> exact pq_ret rfl
theorem f_actNamed {p e : Nat} (hr : isRw f 1 2 400 T) (hd : f 178 = some (.inr (4, rdV du p0 a0 x0 y0 wd nm))) (hpe : p ≤ e) (he : e ≤ T.length) : PQ (mX4_actNamed 178 (nI p) (nI (e - p)) f n) (fun y => y = (actOf (sl T p e), f, n)) := by
  have key : ∀ (d t k : Nat), t + k = 12 → PQ (mX4_actNamed_l2 d 178 (nI p) (nI (e - p)) (nI t) f n) (fun y => y = (aNm (sl T p e) k t, f, n)) := by
    intro d
    induction d with
    | zero => intro t k _; exact pq_none
    | succ d ih =>
      intro t k hk
      unfold mX4_actNamed_l2
      refine pq_lt kt_11 (nI_toInt (by omega)) (fun q => ?_) (fun q => ?_)
      · have : k = 0 := by omega
        subst this
        exact pq_ret rfl
      · obtain ⟨k', rfl⟩ : ∃ k', k = k' + 1 := ⟨k - 1, by omega⟩
        refine pq_gR hd rfl (pq_is (f_nameOf (show t < 12 by omega)) (pq_sb (pq_ck (pq_ck (pq_is (f_isText hr (show p + (e - p) ≤ T.length by omega) (show t < 12 by omega)) ?_)))))
        rw [show p + (e - p) = e by omega]
        show PQ _ (fun y => y = (if sl T p e = nmL.getD t [] then nI t else aNm (sl T p e) k' (t + 1), f, n))
        by_cases h : sl T p e = nmL.getD t []
        · rw [if_pos h, decide_eq_true h]
          exact pq_f (show ¬ (1 : Int32) = 0 by decide) (pq_ret rfl)
        · rw [if_neg h, decide_eq_false h]
          refine pq_t rfl ?_
          rw [nI_1]
          exact ih (t + 1) k' (by omega)
  unfold mX4_actNamed
  exact key rFU 0 12 rfl
theorem f_readNumber {p : Nat} {lo hi : Int32} (hr : isRw f 1 2 400 T) (hd : f 178 = some (.inr (4, rdV du (nI p) a0 x0 y0 wd nm))) (hp : p ≤ T.length) : PQ (mX4_readNumber 178 lo hi f n) (fun y => ∃ f' nm', y = (if nOk T p lo.toInt hi.toInt then -1 else nI (nB T p), f', n) ∧ f' 178 = some (.inr (4, rdV du (nI (nE T p)) a0 x0 y0 wd nm')) ∧ (nE T p ≤ nB T p + 2 → nm'.toInt = nVi T p) ∧ ∀ j, j ≠ 178 → f' j = f j) := by
  have h6 := rw_6 hr
  have hb := nE_b hp
  have b116 : ∀ (k : Nat) (g : AH) (nm' : Int32), nB T p + k = nE T p → g 178 = some (.inr (4, rdV du (nI p) a0 x0 y0 wd nm')) → nm'.toInt = nmv T (nB T p) k → (∀ j, j ≠ 178 → g j = f j) → PQ (mX4_readNumber_b116 178 lo hi (nI (nB T p)) (nI k) g n) (fun y => ∃ f' nm', y = (if nOk T p lo.toInt hi.toInt then -1 else nI (nB T p), f', n) ∧ f' 178 = some (.inr (4, rdV du (nI (nE T p)) a0 x0 y0 wd nm')) ∧ (nE T p ≤ nB T p + 2 → nm'.toInt = nVi T p) ∧ ∀ j, j ≠ 178 → f' j = f j) := by
    intro k g nm' hk hg hnm hF
    have ev : nVi T p = nmv T (nB T p) k := by
      unfold nVi
      rw [show nE T p - nB T p = k by omega]
    unfold mX4_readNumber_b116
    rw [nI_add, hk]
    refine pq_pO hg rfl ?_
    have hg2 : va_up g 178 (some (.inr (4, (rdV du (nI p) a0 x0 y0 wd nm').set 1 (.int (nI (nE T p)))))) 178 = some (.inr (4, rdV du (nI (nE T p)) a0 x0 y0 wd nm')) := u_eq
    have hF2 : ∀ j, j ≠ 178 → va_up g 178 (some (.inr (4, (rdV du (nI p) a0 x0 y0 wd nm').set 1 (.int (nI (nE T p)))))) j = f j := fun j hj => (u_ne hj).trans (hF j hj)
    generalize va_up g 178 (some (.inr (4, (rdV du (nI p) a0 x0 y0 wd nm').set 1 (.int (nI (nE T p)))))) = g2 at hg2 hF2 ⊢
    have no : ¬ nOk T p lo.toInt hi.toInt → PQ (mX4_readNumber_b156 (nI (nB T p)) g2 n) (fun y => ∃ f' nm', y = (if nOk T p lo.toInt hi.toInt then -1 else nI (nB T p), f', n) ∧ f' 178 = some (.inr (4, rdV du (nI (nE T p)) a0 x0 y0 wd nm')) ∧ (nE T p ≤ nB T p + 2 → nm'.toInt = nVi T p) ∧ ∀ j, j ≠ 178 → f' j = f j) := fun h => pq_ret ⟨g2, nm', by rw [if_neg h], hg2, fun _ => by rw [ev]; exact hnm, hF2⟩
    refine pq_lt (nI_toInt (by omega)) kt_1 (fun q => no (fun h => by have := h.1; omega)) (fun q => ?_)
    refine pq_lt kt_2 (nI_toInt (by omega)) (fun q2 => no (fun h => by have := h.2.1; omega)) (fun q2 => ?_)
    refine pq_gI hg2 rfl (pq_lt hnm rfl (fun q3 => no (fun h => by have := h.2.2.1; omega)) (fun q3 => ?_))
    refine pq_gI hg2 rfl (pq_lt rfl hnm (fun q4 => no (fun h => by have := h.2.2.2; omega)) (fun q4 => ?_))
    exact pq_ret ⟨g2, nm', by rw [if_pos ⟨by omega, by omega, by omega, by omega⟩], hg2, fun _ => by rw [ev]; exact hnm, hF2⟩
  have key : ∀ (d k : Nat) (g : AH) (nm' : Int32), nB T p + k ≤ T.length → (∀ i, nB T p ≤ i → i < nB T p + k → bNd (T.getD i 0) = false) → g 178 = some (.inr (4, rdV du (nI p) a0 x0 y0 wd nm')) → nm'.toInt = nmv T (nB T p) k → (∀ j, j ≠ 178 → g j = f j) → PQ (mX4_readNumber_l30 d 178 lo hi (nI (nB T p)) (nI k) (nI (nB T p + k)) g n) (fun y => ∃ f' nm', y = (if nOk T p lo.toInt hi.toInt then -1 else nI (nB T p), f', n) ∧ f' 178 = some (.inr (4, rdV du (nI (nE T p)) a0 x0 y0 wd nm')) ∧ (nE T p ≤ nB T p + 2 → nm'.toInt = nVi T p) ∧ ∀ j, j ≠ 178 → f' j = f j) := by
    intro d
    induction d with
    | zero => intro k g nm' _ _ _ _ _; exact pq_none
    | succ d ih =>
      intro k g nm' hk hdg hg hnm hF
      have hrg : isRw g 1 2 400 T := rw_tr hr (hF _ (by omega)) (hF _ (by omega))
      have fin : (nB T p + k < T.length → bNd (T.getD (nB T p + k) 0) = true) → PQ (mX4_readNumber_b116 178 lo hi (nI (nB T p)) (nI k) g n) _ := fun h => b116 k g nm' (nx_is (by omega) hk hdg h).symm hg hnm hF
      unfold mX4_readNumber_l30
      refine pq_gR hg rfl (pq_sb (pq_ck (pq_is (f_size hrg) ?_)))
      refine pq_le (nI_toInt (by omega)) (nI_toInt (by omega)) (fun q => fin (fun h => by omega)) (fun q => ?_)
      have hi' : nB T p + k < T.length := by omega
      refine pq_gR hg rfl (pq_sb (pq_ck (pq_is (f_getN hrg hi') ?_)))
      refine pq_lt rfl kt_48 (fun q1 => fin (fun _ => dig_n (Or.inl q1))) (fun q1 => ?_)
      refine pq_gR hg rfl (pq_sb (pq_ck (pq_is (f_getN hrg hi') ?_)))
      refine pq_lt kt_57 rfl (fun q2 => fin (fun _ => dig_n (Or.inr q2))) (fun q2 => ?_)
      have hdg2 : ∀ i, nB T p ≤ i → i < nB T p + (k + 1) → bNd (T.getD i 0) = false := fun i h1 h2 => by
        by_cases e : i = nB T p + k
        · rw [e]; exact dig_t q1 q2
        · exact hdg i h1 (by omega)
      have go : ∀ nm2 : Int32, nm2.toInt = nmv T (nB T p) (k + 1) → PQ (mX4_readNumber_b107 (fun v0 v1 v2 v3 v4 v5 f n => mX4_readNumber_l30 d v0 v1 v2 v3 v4 v5 f n) 178 lo hi (nI (nB T p)) (nI (k + 1)) (nI (nB T p + k)) 178 nm2 g n) (fun y => ∃ f' nm', y = (if nOk T p lo.toInt hi.toInt then -1 else nI (nB T p), f', n) ∧ f' 178 = some (.inr (4, rdV du (nI (nE T p)) a0 x0 y0 wd nm')) ∧ (nE T p ≤ nB T p + 2 → nm'.toInt = nVi T p) ∧ ∀ j, j ≠ 178 → f' j = f j) := fun nm2 h2 => by
        unfold mX4_readNumber_b107
        refine pq_pO hg rfl ?_
        rw [nI_1]
        exact ih (k + 1) _ nm2 (by omega) hdg2 u_eq h2 (fun j hj => (u_ne hj).trans (hF j hj))
      rw [nI_1]
      refine pq_le (nI_toInt (by omega)) kt_2 (fun q3 => ?_) (fun q3 => ?_)
      · refine pq_gI hg rfl (pq_gR hg rfl (pq_sb (pq_ck (pq_is (f_getN hrg hi') (go _ ?_)))))
        have hd2 := dig_of (hdg2 (nB T p + k) (by omega) (by omega))
        have hnb := nmv_b hdg
        have hk2 : k = 0 ∨ k = 1 := by omega
        have em : (nm' * 10).toInt = nm'.toInt * 10 := by
          rw [Int32.toInt_mul, show (10 : Int32).toInt = 10 by decide]
          exact Int.bmod_eq_of_le (by omega) (by omega)
        have ea : (nm' * 10 + T.getD (nB T p + k) 0).toInt = nm'.toInt * 10 + (T.getD (nB T p + k) 0).toInt := i_add em rfl (by omega)
        have es : ((nm' * 10 + T.getD (nB T p + k) 0) - 48).toInt = nm'.toInt * 10 + (T.getD (nB T p + k) 0).toInt - 48 := i_sub ea kt_48 (by omega)
        rw [es, hnm]
        rcases hk2 with rfl | rfl
        · show (0 : Int) * 10 + (T.getD (nB T p + 0) 0).toInt - 48 = (T.getD (nB T p) 0).toInt - 48
          rw [Nat.add_zero]; omega
        · show dv T (nB T p) * 10 + (T.getD (nB T p + 1) 0).toInt - 48 = dv T (nB T p) * 10 + dv T (nB T p + 1)
          unfold dv; omega
      · refine pq_gI hg rfl (go nm' ?_)
        rw [hnm]
        obtain ⟨k2, rfl⟩ : ∃ k2, k = k2 + 2 := ⟨k - 2, by omega⟩
        unfold nmv
        rw [if_neg (by omega), if_neg (by omega), if_neg (by omega), if_neg (by omega)]
  unfold mX4_readNumber
  refine pq_gR hd rfl (pq_gI hd rfl (pq_gR hd rfl (pq_sb (pq_ck (pq_is (f_size hr) (pq_sb (pq_ck (pq_is (f_blanks hr hp (Nat.le_refl _)) (pq_pO hd rfl ?_)))))))))
  exact key rFU 0 _ 0 (by have := hb.2.1; omega) (fun i h1 h2 => by omega) u_eq rfl (fun j hj => u_ne hj)
end RDR
