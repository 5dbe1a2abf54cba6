/-! the class reads an act -/
theorem nI_sb {a b : Nat} (h : b ≤ a) (ha : a ≤ 5000) : nI a - nI b = nI (a - b) := Int32.toInt_inj.mp (by rw [i_sub (nI_toInt (by omega)) (nI_toInt (by omega)) (by omega), nI_toInt (by omega)]; omega)
def rdAny (v : Option AE) : Prop := ∃ du p a x y wd nm, v = some (.inr (4, rdV du p a x y wd nm))
def xUsed (a : Int32) : Prop := a = 0 ∨ a = 1 ∨ a = 5 ∨ a = 8 ∨ a = 9 ∨ a = 10
def RAR (f : AH) (n : Nat) (du : Int32) (r : RA) (y : Int32 × HpN) : Prop := ∃ f' n', n ≤ n' ∧ (∀ j, j < n → j ≠ 178 → f' j = f j) ∧ (match r with
  | .inl w => y = (nI w, f', n') ∧ rdAny (f' 178)
  | .inr z => y = (-1, f', n') ∧ ∃ x1 y1 wd1 nm1, f' 178 = some (.inr (4, rdV du (nI z.2.2.2.2) z.1 x1 y1 wd1 nm1)) ∧ (xUsed z.1 → x1 = z.2.1) ∧ (z.1 = 10 → y1 = z.2.2.1) ∧ (z.1 = 6 → ∃ j, wd1 = some j ∧ RI1 f' n' j z.2.2.2.1 ∧ z.2.2.2.1.length ≤ 8))
section RDS
variable {f : AH} {n : Nat} {T : BL} {du p0 a0 x0 y0 nm : Int32} {wd : Option Nat}
theorem RAR_tr {f2 : AH} {r : RA} {y : Int32 × HpN} (h : RAR f2 n du r y) (hF : ∀ j, j ≠ 178 → f2 j = f j) : RAR f n du r y := by
  obtain ⟨f', n', h1, h2, h3⟩ := h
  exact ⟨f', n', h1, fun j a b => (h2 j a b).trans (hF j b), h3⟩
theorem f_readFirst {p : Nat} {lo hi : Int32} (hr : isRw f 1 2 400 T) (hd : f 178 = some (.inr (4, rdV du (nI p) a0 x0 y0 wd nm))) (hp : p ≤ T.length) : PQ (mX4_readFirst 178 lo hi f n) (fun y => ∃ f' nm', y = (if nOk T p lo.toInt hi.toInt then -1 else nI (nB T p), f', n) ∧ f' 178 = some (.inr (4, rdV du (nI (nE T p)) a0 nm' y0 wd nm')) ∧ (nE T p ≤ nB T p + 2 → nm'.toInt = nVi T p) ∧ ∀ j, j ≠ 178 → f' j = f j) := by
  unfold mX4_readFirst
  refine pq_ck (pq_call (f_readNumber hr hd hp) (fun y hy => ?_))
  obtain ⟨f1, nm1, rfl, h1, h2, h3⟩ := hy
  exact pq_gI h1 rfl (pq_pO h1 rfl (pq_ret ⟨_, nm1, rfl, u_eq, h2, fun j hj => (u_ne hj).trans (h3 j hj)⟩))
theorem f_readSecond {p : Nat} (hr : isRw f 1 2 400 T) (hd : f 178 = some (.inr (4, rdV du (nI p) a0 x0 y0 wd nm))) (hp : p ≤ T.length) : PQ (mX4_readSecond 178 f n) (fun y => ∃ f' nm', y = (if nOk T p 0 39 then -1 else nI (nB T p), f', n) ∧ f' 178 = some (.inr (4, rdV du (nI (nE T p)) a0 x0 nm' wd nm')) ∧ (nE T p ≤ nB T p + 2 → nm'.toInt = nVi T p) ∧ ∀ j, j ≠ 178 → f' j = f j) := by
  unfold mX4_readSecond
  refine pq_ck (pq_call (f_readNumber hr hd hp) (fun y hy => ?_))
  obtain ⟨f1, nm1, rfl, h1, h2, h3⟩ := hy
  exact pq_gI h1 rfl (pq_pO h1 rfl (pq_ret ⟨_, nm1, rfl, u_eq, h2, fun j hj => (u_ne hj).trans (h3 j hj)⟩))
theorem nm_V {p : Nat} {x : Int32} (h : x.toInt = nVi T p) : x = nV T p := Int32.toInt_inj.mp (by rw [h, nV_t])
theorem f_rd1 {e : Nat} {lo hi : Int32} {l h : Int} (hl : lo.toInt = l) (hh : hi.toInt = h) (hr : isRw f 1 2 400 T) (hd : f 178 = some (.inr (4, rdV du (nI e) a0 x0 y0 wd nm))) (he : e ≤ T.length) (h6 : a0 ≠ 6) (h10 : a0 ≠ 10) : PQ (mX4_readFirst 178 lo hi f n) (RAR f n du (rd1 T e a0 l h)) := by
  refine pq_tail (f_readFirst hr hd he) (fun y hy => ?_)
  subst hl hh
  obtain ⟨f1, nm1, rfl, k1, k2, k3⟩ := hy
  refine ⟨f1, n, Nat.le_refl _, fun j _ b => k3 j b, ?_⟩
  unfold rd1
  by_cases ok : nOk T e lo.toInt hi.toInt
  · rw [if_pos ok, if_pos ok]
    exact ⟨rfl, nm1, y0, wd, nm1, k1, fun _ => nm_V (k2 ok.2.1), fun q => absurd q h10, fun q => absurd q h6⟩
  · rw [if_neg ok, if_neg ok]
    exact ⟨rfl, _, _, _, _, _, _, _, k1⟩
theorem f_readWord {e : Nat} (hn : 224 ≤ n) (hr : isRw f 1 2 400 T) (hd : f 178 = some (.inr (4, rdV du (nI e) 6 x0 y0 wd nm))) (he : e ≤ T.length) : PQ (mX4_readWord 178 f n) (RAR f n du (rdW T e)) := by
  have h6 := rw_6 hr
  have hb := nE_b he
  have hb2 : nB T e ≤ T.length := by omega
  have hw := wE_b hb2
  unfold mX4_readWord
  refine pq_gR hd rfl (pq_gI hd rfl (pq_gR hd rfl (pq_sb (pq_ck (pq_is (f_size hr) (pq_sb (pq_ck (pq_is (f_blanks hr he (Nat.le_refl _)) (pq_pO hd rfl (pq_ck ?_))))))))))
  have hd2 : va_up f 178 (some (.inr (4, (rdV du (nI e) 6 x0 y0 wd nm).set 1 (.int (nI (nx (bNe 32) T e T.length)))))) 178 = some (.inr (4, rdV du (nI (nB T e)) 6 x0 y0 wd nm)) := u_eq
  have hF2 : ∀ j, j ≠ 178 → va_up f 178 (some (.inr (4, (rdV du (nI e) 6 x0 y0 wd nm).set 1 (.int (nI (nx (bNe 32) T e T.length)))))) j = f j := fun j hj => u_ne hj
  generalize va_up f 178 (some (.inr (4, (rdV du (nI e) 6 x0 y0 wd nm).set 1 (.int (nI (nx (bNe 32) T e T.length)))))) = f2 at hd2 hF2 ⊢
  have hr2 : isRw f2 1 2 400 T := rw_tr hr (hF2 _ (by omega)) (hF2 _ (by omega))
  refine pq_is (f_lettersEnd (f := f2) (n := n) hr2 hd2 hb2) (pq_pO hd2 rfl ?_)
  have hd3 : va_up f2 178 (some (.inr (4, (rdV du (nI (nB T e)) 6 x0 y0 wd nm).set 1 (.int (nI (wE T (nB T e))))))) 178 = some (.inr (4, rdV du (nI (wE T (nB T e))) 6 x0 y0 wd nm)) := u_eq
  have hF3 : ∀ j, j ≠ 178 → va_up f2 178 (some (.inr (4, (rdV du (nI (nB T e)) 6 x0 y0 wd nm).set 1 (.int (nI (wE T (nB T e))))))) j = f j := fun j hj => (u_ne hj).trans (hF2 j hj)
  generalize va_up f2 178 (some (.inr (4, (rdV du (nI (nB T e)) 6 x0 y0 wd nm).set 1 (.int (nI (wE T (nB T e))))))) = f3 at hd3 hF3 ⊢
  have hr3 : isRw f3 1 2 400 T := rw_tr hr (hF3 _ (by omega)) (hF3 _ (by omega))
  refine pq_gI hd3 rfl ?_
  have es : nI (wE T (nB T e)) - nI (nx (bNe 32) T e T.length) = nI (wE T (nB T e) - nB T e) := nI_sb hw.1 (by omega)
  rw [es]
  have no : ¬ (nB T e + 1 ≤ wE T (nB T e) ∧ wE T (nB T e) ≤ nB T e + 8) → PQ (mX4_readWord_b50 (nI (nB T e)) f3 n) (RAR f n du (rdW T e)) := fun h => by
    have e1 : rdW T e = .inl (nB T e) := if_neg h
    rw [e1]
    exact pq_ret ⟨f3, n, Nat.le_refl _, fun j _ b => hF3 j b, rfl, _, _, _, _, _, _, _, hd3⟩
  refine pq_lt (nI_toInt (by omega)) kt_1 (fun q => no (by omega)) (fun q => ?_)
  refine pq_le (nI_toInt (by omega)) kt_8 (fun q2 => ?_) (fun q2 => no (by omega))
  have e1 : rdW T e = .inr (6, 0, 0, sl T (nB T e) (wE T (nB T e)), wE T (nB T e)) := if_pos (by omega)
  rw [e1]
  refine pq_gR hd3 rfl (pq_sb (pq_ck (pq_call (f_part (f := f3) (n := n) (B := 8) (i := nB T e) (k := wE T (nB T e) - nB T e) hr3 (by omega) (by omega) (by omega)) (fun y hy => ?_))))
  obtain ⟨f4, rfl, r4, hF4⟩ := hy
  rw [show nB T e + (wE T (nB T e) - nB T e) = wE T (nB T e) by omega] at r4
  have hd4 : f4 178 = some (.inr (4, rdV du (nI (wE T (nB T e))) 6 x0 y0 wd nm)) := (hF4 178 (by omega)).trans hd3
  refine pq_sb (pq_pO hd4 rfl (pq_ret ⟨_, n + 2, by omega, fun j a b => (u_ne b).trans ((hF4 j a).trans (hF3 j b)), rfl, x0, y0, some n, nm, u_eq, fun q => ?_, fun q => absurd (show (6 : Int32) = 10 from q) (by decide), fun _ => ⟨n, rfl, ⟨n + 1, _, rw_tr r4 (u_ne (by omega)) (u_ne (by omega)), by unfold IMM; omega, by unfold IMM; omega⟩, ?_⟩⟩))
  · have q : xUsed 6 := q
    unfold xUsed at q
    exact absurd q (by decide)
  · show (sl T (nB T e) (wE T (nB T e))).length ≤ 8
    rw [sl_len (by omega)]; omega
theorem f_readAct {p : Nat} (hn : 224 ≤ n) (hr : isRw f 1 2 400 T) (hd : f 178 = some (.inr (4, rdV du (nI p) a0 x0 y0 wd nm))) (hp : p ≤ T.length) : PQ (mX4_readAct 178 f n) (RAR f n du (rdA T p)) := by
  have h6 := rw_6 hr
  have hw := wE_b hp
  unfold mX4_readAct
  refine pq_gI hd rfl (pq_ck (pq_is (f_lettersEnd (f := f) (n := n) hr hd hp) (pq_pO hd rfl ?_)))
  have hd2 : va_up f 178 (some (.inr (4, (rdV du (nI p) a0 x0 y0 wd nm).set 1 (.int (nI (wE T p)))))) 178 = some (.inr (4, rdV du (nI (wE T p)) a0 x0 y0 wd nm)) := u_eq
  have hF2 : ∀ j, j ≠ 178 → va_up f 178 (some (.inr (4, (rdV du (nI p) a0 x0 y0 wd nm).set 1 (.int (nI (wE T p)))))) j = f j := fun j hj => u_ne hj
  generalize va_up f 178 (some (.inr (4, (rdV du (nI p) a0 x0 y0 wd nm).set 1 (.int (nI (wE T p)))))) = f2 at hd2 hF2 ⊢
  have hr2 : isRw f2 1 2 400 T := rw_tr hr (hF2 _ (by omega)) (hF2 _ (by omega))
  refine pq_gI hd2 rfl (pq_ck ?_)
  rw [nI_sb hw.1 (by omega)]
  refine pq_is (f_actNamed (f := f2) (n := n) hr2 hd2 hw.1 hw.2) (pq_pO hd2 rfl ?_)
  have hd3 : va_up f2 178 (some (.inr (4, (rdV du (nI (wE T p)) a0 x0 y0 wd nm).set 2 (.int (actOf (sl T p (wE T p))))))) 178 = some (.inr (4, rdV du (nI (wE T p)) (actOf (sl T p (wE T p))) x0 y0 wd nm)) := u_eq
  have hF3 : ∀ j, j ≠ 178 → va_up f2 178 (some (.inr (4, (rdV du (nI (wE T p)) a0 x0 y0 wd nm).set 2 (.int (actOf (sl T p (wE T p))))))) j = f j := fun j hj => (u_ne hj).trans (hF2 j hj)
  generalize va_up f2 178 (some (.inr (4, (rdV du (nI (wE T p)) a0 x0 y0 wd nm).set 2 (.int (actOf (sl T p (wE T p))))))) = f3 at hd3 hF3 ⊢
  have hr3 : isRw f3 1 2 400 T := rw_tr hr (hF3 _ (by omega)) (hF3 _ (by omega))
  unfold rdA
  generalize actOf (sl T p (wE T p)) = a at hd3 ⊢
  refine pq_tail (Q1 := RAR f3 n du (rdK T p (wE T p) a)) ?_ (fun y hy => RAR_tr hy hF3)
  refine pq_gI hd3 rfl ?_
  have pl : xUsed a → False → True := fun _ _ => trivial
  clear pl
  have plain : ¬ xUsed a → a ≠ 10 → a ≠ 6 → PQ (mX4_readAct_b148 f3 n) (RAR f3 n du (.inr (a, 0, 0, [], wE T p))) := fun g1 g2 g3 => pq_ret ⟨f3, n, Nat.le_refl _, fun _ _ _ => rfl, rfl, x0, y0, wd, nm, hd3, fun q => absurd q g1, fun q => absurd q g2, fun q => absurd q g3⟩
  unfold rdK
  refine pq_eq (fun q => ?_) (fun qm => ?_)
  · rw [if_pos q]
    exact pq_ret ⟨f3, n, Nat.le_refl _, fun _ _ _ => rfl, rfl, _, _, _, _, _, _, _, hd3⟩
  rw [if_neg qm]
  refine pq_eq (fun q => ?_) (fun q0 => ?_)
  · rw [if_pos q]
    exact pq_ck (pq_call (f_rd1 kt_0 kt_3 hr3 hd3 hw.2 (by rw [q]; decide) (by rw [q]; decide)) (fun y hy => pq_ret hy))
  rw [if_neg q0]
  refine pq_eq (fun q => ?_) (fun q1 => ?_)
  · rw [if_pos q]
    exact pq_ck (pq_call (f_rd1 kt_0 kt_3 hr3 hd3 hw.2 (by rw [q]; decide) (by rw [q]; decide)) (fun y hy => pq_ret hy))
  rw [if_neg q1]
  refine pq_eq (fun q => ?_) (fun q2 => ?_)
  · subst q
    rw [if_neg (by decide), if_neg (by decide), if_neg (by decide), if_neg (by decide), if_neg (by decide)]
    exact plain (by unfold xUsed; decide) (by decide) (by decide)
  refine pq_eq (fun q => ?_) (fun q3 => ?_)
  · subst q
    rw [if_neg (by decide), if_neg (by decide), if_neg (by decide), if_neg (by decide), if_neg (by decide)]
    exact plain (by unfold xUsed; decide) (by decide) (by decide)
  refine pq_eq (fun q => ?_) (fun q4 => ?_)
  · subst q
    rw [if_neg (by decide), if_neg (by decide), if_neg (by decide), if_neg (by decide), if_neg (by decide)]
    exact plain (by unfold xUsed; decide) (by decide) (by decide)
  refine pq_eq (fun q => ?_) (fun q5 => ?_)
  · rw [if_pos q]
    exact pq_ck (pq_call (f_rd1 kt_1 kt_40 hr3 hd3 hw.2 (by rw [q]; decide) (by rw [q]; decide)) (fun y hy => pq_ret hy))
  rw [if_neg q5]
  refine pq_eq (fun q => ?_) (fun q6 => ?_)
  · rw [if_pos q]
    subst q
    exact pq_ck (pq_call (f_readWord hn hr3 hd3 hw.2) (fun y hy => pq_ret hy))
  rw [if_neg q6]
  refine pq_eq (fun q => ?_) (fun q7 => ?_)
  · subst q
    rw [if_neg (by decide), if_neg (by decide), if_neg (by decide)]
    exact plain (by unfold xUsed; decide) (by decide) (by decide)
  refine pq_eq (fun q => ?_) (fun q8 => ?_)
  · rw [if_pos q]
    exact pq_ck (pq_call (f_rd1 kt_0 kt_39 hr3 hd3 hw.2 (by rw [q]; decide) (by rw [q]; decide)) (fun y hy => pq_ret hy))
  rw [if_neg q8]
  refine pq_eq (fun q => ?_) (fun q9 => ?_)
  · rw [if_pos q]
    exact pq_ck (pq_call (f_rd1 kt_0 kt_39 hr3 hd3 hw.2 (by rw [q]; decide) (by rw [q]; decide)) (fun y hy => pq_ret hy))
  rw [if_neg q9]
  refine pq_eq (fun q => ?_) (fun q10 => ?_)
  · rw [if_pos q]
    subst q
    have hE := nE_b hw.2
    refine pq_ck (pq_call (f_readFirst hr3 hd3 hw.2) (fun y hy => ?_))
    obtain ⟨f4, nm4, rfl, k1, k2, k3⟩ := hy
    rw [kt_0, kt_39] at *
    unfold rd2
    by_cases ok : nOk T (wE T p) 0 39
    · rw [if_pos ok, if_pos ok]
      have hr4 : isRw f4 1 2 400 T := rw_tr hr3 (k3 _ (by omega)) (k3 _ (by omega))
      refine pq_t rfl (pq_ck (pq_call (f_readSecond (f := f4) (n := n) hr4 k1 hE.2.2) (fun y hy => ?_)))
      obtain ⟨f5, nm5, rfl, l1, l2, l3⟩ := hy
      by_cases ok2 : nOk T (nE T (wE T p)) 0 39
      · rw [if_pos ok2, if_pos ok2]
        exact pq_ret ⟨f5, n, Nat.le_refl _, fun j _ b => (l3 j b).trans (k3 j b), rfl, nm4, nm5, wd, nm5, l1, fun _ => nm_V (k2 ok.2.1), fun _ => nm_V (l2 ok2.2.1), fun q => absurd (show (10 : Int32) = 6 from q) (by decide)⟩
      · rw [if_neg ok2, if_neg ok2]
        exact pq_ret ⟨f5, n, Nat.le_refl _, fun j _ b => (l3 j b).trans (k3 j b), rfl, _, _, _, _, _, _, _, l1⟩
    · rw [if_neg ok, if_neg ok]
      refine pq_f (fun h => ?_) (pq_ret ⟨f4, n, Nat.le_refl _, fun j _ b => k3 j b, rfl, _, _, _, _, _, _, _, k1⟩)
      have h := congrArg Int32.toInt (show nI (nB T (wE T p)) = -1 from h)
      rw [nI_toInt (by omega), kt_m1] at h
      omega
  · rw [if_neg q10]
    refine plain (fun q => ?_) q10 q6
    unfold xUsed at q
    rcases q with q | q | q | q | q | q
    · exact q0 q
    · exact q1 q
    · exact q5 q
    · exact q8 q
    · exact q9 q
    · exact q10 q
end RDS
