/-! acts of a text: the class's loop -/
theorem aNm_r {X : BL} : ∀ (d t : Nat), aNm X d t = -1 ∨ ∃ k, t ≤ k ∧ k < t + d ∧ aNm X d t = nI k := by
  intro d
  induction d with
  | zero => intro t; exact Or.inl rfl
  | succ d ih =>
    intro t
    show (if X = nmL.getD t [] then nI t else aNm X d (t + 1)) = -1 ∨ _
    by_cases h : X = nmL.getD t []
    · exact Or.inr ⟨t, Nat.le_refl _, by omega, by show (if X = nmL.getD t [] then nI t else aNm X d (t + 1)) = nI t; rw [if_pos h]⟩
    · rw [if_neg h]
      rcases ih (t + 1) with e | ⟨k, h1, h2, h3⟩
      · exact Or.inl e
      · exact Or.inr ⟨k, by omega, by omega, by show (if X = nmL.getD t [] then nI t else aNm X d (t + 1)) = nI k; rw [if_neg h]; exact h3⟩
theorem actOf_r {X : BL} : actOf X = -1 ∨ ∃ k, k < 12 ∧ actOf X = nI k := by
  rcases aNm_r (X := X) 12 0 with h | ⟨k, -, h1, h2⟩
  · exact Or.inl h
  · exact Or.inr ⟨k, by omega, h2⟩
/-- what is read is right -/
def zOk (T : BL) (z : Int32 × Int32 × Int32 × BL × Nat) : Prop := (∃ k, k < 12 ∧ z.1 = nI k) ∧ (z.1 = 0 → 0 ≤ z.2.1.toInt ∧ z.2.1.toInt ≤ 3) ∧ (z.1 = 1 → 0 ≤ z.2.1.toInt ∧ z.2.1.toInt ≤ 3) ∧ (z.1 = 5 → 1 ≤ z.2.1.toInt ∧ z.2.1.toInt ≤ 40) ∧ z.2.2.2.2 ≤ T.length
theorem rd1_ok {T : BL} {e : Nat} {a : Int32} {lo hi : Int} {z : Int32 × Int32 × Int32 × BL × Nat} (he : e ≤ T.length) (h : rd1 T e a lo hi = .inr z) : z.1 = a ∧ lo ≤ z.2.1.toInt ∧ z.2.1.toInt ≤ hi ∧ z.2.2.2.2 ≤ T.length := by
  unfold rd1 at h
  split at h
  · rename_i ok
    cases h
    exact ⟨rfl, by show lo ≤ (nV T e).toInt; rw [nV_t]; exact ok.2.2.1, by show (nV T e).toInt ≤ hi; rw [nV_t]; exact ok.2.2.2, (nE_b he).2.2⟩
  · cases h
theorem rdA_ok {T : BL} {p : Nat} {z : Int32 × Int32 × Int32 × BL × Nat} (hp : p ≤ T.length) (h : rdA T p = .inr z) : zOk T z := by
  have hw := wE_b hp
  unfold rdA rdK at h
  rcases actOf_r (X := sl T p (wE T p)) with e | ⟨k, hk, e⟩
  · rw [e, if_pos rfl] at h; cases h
  · rw [e] at h
    have hr : ∃ k', k' < 12 ∧ nI k = nI k' := ⟨k, hk, rfl⟩
    rw [if_neg (fun q => by have := congrArg Int32.toInt q; rw [nI_toInt (by omega), kt_m1] at this; omega)] at h
    have one : ∀ (lo hi : Int), (nI k = 0 → lo = 0 ∧ hi = 3) → (nI k = 1 → lo = 0 ∧ hi = 3) → (nI k = 5 → lo = 1 ∧ hi = 40) → rd1 T (wE T p) (nI k) lo hi = .inr z → zOk T z := fun lo hi h0 h1 h5 hh => by
      obtain ⟨z1, z2, z3, z4⟩ := rd1_ok hw.2 hh
      refine ⟨by rw [z1]; exact hr, fun q => ?_, fun q => ?_, fun q => ?_, z4⟩
      · have := h0 (z1.symm.trans q); omega
      · have := h1 (z1.symm.trans q); omega
      · have := h5 (z1.symm.trans q); omega
    by_cases q0 : nI k = 0
    · rw [if_pos q0] at h
      exact one 0 3 (fun _ => ⟨rfl, rfl⟩) (fun _ => ⟨rfl, rfl⟩) (fun q => by rw [q0] at q; cases q) h
    rw [if_neg q0] at h
    by_cases q1 : nI k = 1
    · rw [if_pos q1] at h
      exact one 0 3 (fun _ => ⟨rfl, rfl⟩) (fun _ => ⟨rfl, rfl⟩) (fun q => by rw [q1] at q; cases q) h
    rw [if_neg q1] at h
    by_cases q5 : nI k = 5
    · rw [if_pos q5] at h
      exact one 1 40 (fun q => absurd q q0) (fun q => absurd q q1) (fun _ => ⟨rfl, rfl⟩) h
    rw [if_neg q5] at h
    by_cases q6 : nI k = 6
    · rw [if_pos q6] at h
      unfold rdW at h
      split at h
      · cases h
        have hb := nE_b hw.2
        have hb2 : nB T (wE T p) ≤ T.length := by omega
        exact ⟨⟨6, by omega, rfl⟩, fun q => absurd (show (6 : Int32) = 0 from q) (by decide), fun q => absurd (show (6 : Int32) = 1 from q) (by decide), fun q => absurd (show (6 : Int32) = 5 from q) (by decide), (wE_b hb2).2⟩
      · cases h
    rw [if_neg q6] at h
    by_cases q8 : nI k = 8
    · rw [if_pos q8] at h
      exact one 0 39 (fun q => absurd q q0) (fun q => absurd q q1) (fun q => absurd q q5) h
    rw [if_neg q8] at h
    by_cases q9 : nI k = 9
    · rw [if_pos q9] at h
      exact one 0 39 (fun q => absurd q q0) (fun q => absurd q q1) (fun q => absurd q q5) h
    rw [if_neg q9] at h
    by_cases q10 : nI k = 10
    · rw [if_pos q10] at h
      unfold rd2 at h
      split at h
      · split at h
        · cases h
          have h1 := nE_b hw.2
          exact ⟨⟨10, by omega, rfl⟩, fun q => absurd (show (10 : Int32) = 0 from q) (by decide), fun q => absurd (show (10 : Int32) = 1 from q) (by decide), fun q => absurd (show (10 : Int32) = 5 from q) (by decide), (nE_b h1.2.2).2.2⟩
        · cases h
      · cases h
    rw [if_neg q10] at h
    cases h
    exact ⟨hr, fun q => absurd q q0, fun q => absurd q q1, fun q => absurd q q5, hw.2⟩
theorem dA_ir {S : SST} {a x x' y y' : Int32} {w : BL} (ha : ∃ k, k < 12 ∧ a = nI k) (hx : xUsed a → x' = x) (hy : a = 10 → y' = y) : dA S a x' y' w = dA S a x y w := by
  unfold xUsed at hx
  unfold dA
  by_cases q0 : a = 0
  · rw [if_pos q0, if_pos q0, hx (by rw [q0]; decide)]
  rw [if_neg q0, if_neg q0]
  by_cases q1 : a = 1
  · rw [if_pos q1, if_pos q1, hx (by rw [q1]; decide)]
  rw [if_neg q1, if_neg q1]
  by_cases q2 : a = 2
  · rw [if_pos q2, if_pos q2]
  rw [if_neg q2, if_neg q2]
  by_cases q3 : a = 3
  · rw [if_pos q3, if_pos q3]
  rw [if_neg q3, if_neg q3]
  by_cases q4 : a = 4
  · rw [if_pos q4, if_pos q4]
  rw [if_neg q4, if_neg q4]
  by_cases q5 : a = 5
  · rw [if_pos q5, if_pos q5, hx (by rw [q5]; decide)]
  rw [if_neg q5, if_neg q5]
  by_cases q6 : a = 6
  · rw [if_pos q6, if_pos q6]
  rw [if_neg q6, if_neg q6]
  by_cases q7 : a = 7
  · rw [if_pos q7, if_pos q7]
  rw [if_neg q7, if_neg q7]
  by_cases q8 : a = 8
  · rw [if_pos q8, if_pos q8, hx (by rw [q8]; decide)]
  rw [if_neg q8, if_neg q8]
  by_cases q9 : a = 9
  · rw [if_pos q9, if_pos q9, hx (by rw [q9]; decide)]
  rw [if_neg q9, if_neg q9]
  by_cases q10 : a = 10
  · rw [if_pos q10, if_pos q10, hx (by rw [q10]; decide), hy q10]
  rw [if_neg q10, if_neg q10]
  by_cases q11 : a = 11
  · rw [if_pos q11, if_pos q11]
  rw [if_neg q11, if_neg q11]
  exfalso
  obtain ⟨k, hk, e⟩ := ha
  have h : k = 0 ∨ k = 1 ∨ k = 2 ∨ k = 3 ∨ k = 4 ∨ k = 5 ∨ k = 6 ∨ k = 7 ∨ k = 8 ∨ k = 9 ∨ k = 10 ∨ k = 11 := by omega
  rcases h with rfl | rfl | rfl | rfl | rfl | rfl | rfl | rfl | rfl | rfl | rfl | rfl
  · exact q0 e
  · exact q1 e
  · exact q2 e
  · exact q3 e
  · exact q4 e
  · exact q5 e
  · exact q6 e
  · exact q7 e
  · exact q8 e
  · exact q9 e
  · exact q10 e
  · exact q11 e
theorem i32_03 {x : Int32} (h : 0 ≤ x.toInt ∧ x.toInt ≤ 3) : x = 0 ∨ x = 1 ∨ x = 2 ∨ x = 3 := by
  have h1 : x.toInt = 0 ∨ x.toInt = 1 ∨ x.toInt = 2 ∨ x.toInt = 3 := by omega
  rcases h1 with e | e | e | e
  · exact Or.inl (Int32.toInt_inj.mp (by rw [e]; rfl))
  · exact Or.inr (Or.inl (Int32.toInt_inj.mp (by rw [e]; rfl)))
  · exact Or.inr (Or.inr (Or.inl (Int32.toInt_inj.mp (by rw [e]; rfl))))
  · exact Or.inr (Or.inr (Or.inr (Int32.toInt_inj.mp (by rw [e]; rfl))))
def adk (k : Nat) (z : AR) : AR := (z.1, z.2.1, z.2.2.1 + k, z.2.2.2)
def AFN (n0 : Nat) (f0 : AH) (hi pc wn : Int32) (S0 : SST) (z : AR) (y : (Int32 ⊕ String) × HpN) : Prop := ∃ f' n', n0 ≤ n' ∧ FRb n0 f0 f' ∧ isRw f' 1 2 400 [] ∧ rdAny (f' 178) ∧ (match z.1 with
  | none => y = (.inl (nI z.2.2.1), f', n') ∧ (∃ ag, f' 0 = some (.inr (8, pfL hi ag 0 (if 0 < z.2.2.1 then 0 else wn) (-1))) ∧ (0 < z.2.2.1 → ag = 0) ∧ (z.2.2.1 = 0 → ∀ g : Int32, (∃ pc' wn' fp', f0 0 = some (.inr (8, pfL hi g pc' wn' fp'))) → ag = g)) ∧ KO f' n' z.2.2.2 ∧ SV z.2.2.2
  | some w => y = (.inr eA, f', n') ∧ f' 0 = some (.inr (8, pfL hi 0 pc (if z.2.1 = 0 then wn else z.2.1) (nI w))) ∧ KO f' n' S0)
section ALP
variable {n0 : Nat} {f0 : AH} {T : BL} {hi pc wn : Int32} {S0 : SST}
theorem f_b150w {f : AH} {n w : Nat} {v1 ag wn' fp : Int32} (hn0 : n0 ≤ n) (hn : 224 ≤ n) (hFr : FRb n0 f0 f) (hp : f 0 = some (.inr (8, pfL hi ag pc wn' fp))) (hr : isRw f 1 2 400 T) (hd : rdAny (f 178)) (h8 : STT f n 8 S0) (hV0 : SV S0) (hH : SHP f) (hw : w ≤ 400) {z : AR} (hz : z.1 = some w) (hz2 : wn' = if z.2.1 = 0 then wn else z.2.1) : PQ (mX8_acts_b150 0 v1 (nI w) f n) (AFN n0 f0 hi pc wn S0 z) := by
  unfold mX8_acts_b150
  refine pq_gR hp rfl (pq_sb (pq_ck (pq_call (f_cutTo (m := 0) hr (by omega)) (fun y hy => ?_))))
  obtain ⟨f1, rfl, hr1, hF1⟩ := hy
  rw [List.take_zero] at hr1
  have hp1 : f1 0 = some (.inr (8, pfL hi ag pc wn' fp)) := (hF1 0 (by omega)).trans hp
  refine pq_pO hp1 rfl (pq_f (fun q => ?_) ?_)
  · have q := congrArg Int32.toInt q
    rw [nI_toInt (by omega), kt_m1] at q
    omega
  have hp2 : va_up f1 0 (some (.inr (8, (pfL hi ag pc wn' fp).set 13 (.int (nI w))))) 0 = some (.inr (8, pfL hi ag pc wn' (nI w))) := u_eq
  have hF2 : ∀ j, j ≠ 0 → j ≠ 1 → va_up f1 0 (some (.inr (8, (pfL hi ag pc wn' fp).set 13 (.int (nI w))))) j = f j := fun j a b => (u_ne a).trans (hF1 j b)
  have hr2 : isRw (va_up f1 0 (some (.inr (8, (pfL hi ag pc wn' fp).set 13 (.int (nI w)))))) 1 2 400 [] := rw_tr hr1 (u_ne (by omega)) (u_ne (by omega))
  generalize va_up f1 0 (some (.inr (8, (pfL hi ag pc wn' fp).set 13 (.int (nI w))))) = f2 at hp2 hF2 hr2 ⊢
  have im : ∀ j, IMM n j → f2 j = f j := fun j hj => hF2 j (IMM_1 hj).1 (IMM_1 hj).2.1
  have h82 : STT f2 n 8 S0 := STT_tr h8 (hF2 _ (by omega) (by omega)) (hF2 _ (by omega) (by omega)) (hF2 _ (by omega) (by omega)) im (Nat.le_refl _)
  have hH2 : SHP f2 := ⟨SSh_tr hH.1 (hF2 _ (by omega) (by omega)) (hF2 _ (by omega) (by omega)) (hF2 _ (by omega) (by omega)), CSh_tr hH.2.1 (fun i a b => hF2 i (by omega) (by omega)), BSh_tr hH.2.2 (fun i a b => hF2 i (by omega) (by omega))⟩
  refine pq_gR hp2 rfl (pq_ck (pq_call (f_restore (f := f2) (n := n) hp2 sid8 (by omega) h82 hH2 hV0) (fun y hy => ?_)))
  obtain ⟨f3, rfl, k1, k2, k3⟩ := hy
  refine pq_ret ⟨f3, n, hn0, frb_tr hFr (frb_tr (n' := n) (fun j a b c d e g h i k => hF2 j b c) (frb_a k3) (Nat.le_refl _)) hn0, rw_tr hr2 (k3 _ (by omega) (by omega) (by omega) (by omega) (by omega) (by omega) (by omega)) (k3 _ (by omega) (by omega) (by omega) (by omega) (by omega) (by omega) (by omega)), ?_, ?_⟩
  · rw [k3 178 (by omega) (by omega) (by omega) (by omega) (by omega) (by omega) (by omega), hF2 178 (by omega) (by omega)]; exact hd
  · rw [hz]
    exact ⟨rfl, by rw [k1, hz2], k2⟩
theorem f_b150n {f : AH} {n k : Nat} {ag wn' fp : Int32} {S : SST} (hn0 : n0 ≤ n) (hFr : FRb n0 f0 f) (hp : f 0 = some (.inr (8, pfL hi ag pc wn' fp))) (hr : isRw f 1 2 400 T) (hd : rdAny (f 178)) (hK : KO f n S) (hV : SV S) (hk : k ≤ 20) (hwn : k = 0 → wn' = wn) (hag : 0 < k → ag = 0) (hag0 : k = 0 → ∀ g : Int32, (∃ pc' wn' fp', f0 0 = some (.inr (8, pfL hi g pc' wn' fp'))) → ag = g) {z : AR} (hz : z.1 = none) (hz2 : z.2.2.1 = k) (hz3 : z.2.2.2 = S) : PQ (mX8_acts_b150 0 (nI k) (-1) f n) (AFN n0 f0 hi pc wn S0 z) := by
  unfold mX8_acts_b150
  refine pq_gR hp rfl (pq_sb (pq_ck (pq_call (f_cutTo (m := 0) hr (by omega)) (fun y hy => ?_))))
  obtain ⟨f1, rfl, hr1, hF1⟩ := hy
  rw [List.take_zero] at hr1
  have hp1 : f1 0 = some (.inr (8, pfL hi ag pc wn' fp)) := (hF1 0 (by omega)).trans hp
  refine pq_pO hp1 rfl (pq_t rfl ?_)
  have hp2 : va_up f1 0 (some (.inr (8, (pfL hi ag pc wn' fp).set 13 (.int (-1))))) 0 = some (.inr (8, pfL hi ag pc wn' (-1))) := u_eq
  have hF2 : ∀ j, j ≠ 0 → j ≠ 1 → va_up f1 0 (some (.inr (8, (pfL hi ag pc wn' fp).set 13 (.int (-1))))) j = f j := fun j a b => (u_ne a).trans (hF1 j b)
  have hr2 : isRw (va_up f1 0 (some (.inr (8, (pfL hi ag pc wn' fp).set 13 (.int (-1)))))) 1 2 400 [] := rw_tr hr1 (u_ne (by omega)) (u_ne (by omega))
  generalize va_up f1 0 (some (.inr (8, (pfL hi ag pc wn' fp).set 13 (.int (-1))))) = f2 at hp2 hF2 hr2 ⊢
  have b199 : ∀ s1 : Int32, s1 = (if 0 < k then 0 else wn) → PQ (mX8_acts_b199 0 (nI k) 0 s1 f2 n) (AFN n0 f0 hi pc wn S0 z) := by
    intro s1 hs
    unfold mX8_acts_b199
    refine pq_pO hp2 rfl (pq_pU (pfL hi ag 0 s1 (-1)) rfl rfl (pq_ret ?_))
    have hF3 : ∀ j, j ≠ 0 → j ≠ 1 → va_up f2 0 (some (.inr (8, pfL hi ag 0 s1 (-1)))) j = f j := fun j a b => (u_ne a).trans (hF2 j a b)
    refine ⟨_, n, hn0, frb_tr hFr (fun j a b c d e g h i k => hF3 j b c) hn0, rw_tr hr2 (u_ne (by omega)) (u_ne (by omega)), ?_, ?_⟩
    · rw [hF3 178 (by omega) (by omega)]; exact hd
    · rw [hz]
      refine ⟨by rw [hz2], ⟨ag, ?_, fun h => hag (by omega), fun h => hag0 (by omega)⟩, ?_, by rw [hz3]; exact hV⟩
      · rw [hz2, ← hs]; exact u_eq
      · rw [hz3]
        exact KO_tr hK (fun j hj => hF3 j (by rcases hj with q | q | q | q <;> first | omega | exact (IMM_1 q).1) (by rcases hj with q | q | q | q <;> first | omega | exact (IMM_1 q).2.1)) (Nat.le_refl _)
  refine pq_le (nI_toInt (by omega)) kt_0 (fun q => ?_) (fun q => ?_)
  · exact pq_gI hp2 rfl (b199 _ (by rw [if_neg (by omega)]; exact hwn (by omega)))
  · exact b199 _ (by rw [if_pos (by omega)])
/-- where one is wrong the loop ends -/
theorem f_stopw {d : Nat} {f : AH} {n w : Nat} {v1 v3 : Int32} {ag pc' wn' fp : Int32} {Q : (Int32 ⊕ String) × HpN → Prop} (hp : f 0 = some (.inr (8, pfL hi ag pc' wn' fp))) (hd : rdAny (f 178)) (hw : w ≤ 400) (h : PQ (mX8_acts_b150 0 v1 (nI w) f n) Q) : PQ (mX8_acts_l28 d 0 v1 (nI w) v3 f n) Q := by
  cases d with
  | zero => exact pq_none
  | succ d =>
    obtain ⟨du, p, a, x, y, wd, nm, e⟩ := hd
    unfold mX8_acts_l28
    refine pq_lt rfl rfl (fun _ => h) (fun _ => ?_)
    refine pq_gR hp rfl (pq_sb (pq_gI e rfl (pq_eq (fun _ => h) (fun _ => pq_f (fun q => ?_) h))))
    have q := congrArg Int32.toInt q
    rw [nI_toInt (by omega), kt_m1] at q
    omega
end ALP
