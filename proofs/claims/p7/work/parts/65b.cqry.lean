/-! the class's questions: words, cut again -/
section CQY
variable {f : AH} {n : Nat} {V : SPV}
theorem sm_small {x : Int32} : PQ (mX8_smallLetter x f n) (SM f n) := pq_tail f_small (fun y hy => by rw [hy]; rfl)
theorem sm_hasSmall {a : Nat} {v1 : Int32} {v2 : Option Nat} : PQ (mX5_hasSmall a v1 v2 f n) (SM f n) := by
  have key : ∀ (d : Nat) (v2 : Option Nat) (v5 : Int32), PQ (mX5_hasSmall_l2 d a v1 v2 v5 f n) (SM f n) := by
    intro d
    induction d with
    | zero => intro _ _; exact pq_none
    | succ d ih =>
      intro v2 v5
      unfold mX5_hasSmall_l2
      repeat' (first | exact pq_ret rfl | exact pq_none | exact ih _ _ | refine pq_ck ?_ | refine pq_ite ?_ ?_ | refine pq_sm sm_get5 (fun _ => ?_) | refine pq_sm sm_size5 (fun _ => ?_) | refine pq_sm sm_small (fun _ => ?_) | refine pq_any (fun _ => ?_))
  unfold mX5_hasSmall
  exact key rFU v2 0
theorem sm_hasWord5 {a : Nat} {v1 v2 : Int32} {v3 : Option Nat} : PQ (mX5_hasWord a v1 v2 v3 f n) (SM f n) := by
  have key : ∀ (d : Nat) (v3 : Option Nat) (v5 : Int32), PQ (mX5_hasWord_l3 d a v1 v2 v3 v5 f n) (SM f n) := by
    intro d
    induction d with
    | zero => intro _ _; exact pq_none
    | succ d ih =>
      intro v3 v5
      unfold mX5_hasWord_l3
      repeat' (first | exact pq_ret rfl | exact pq_none | exact ih _ _ | refine pq_ck ?_ | refine pq_ite ?_ ?_ | refine pq_sm sm_hasSmall (fun _ => ?_) | refine pq_sm sm_size5 (fun _ => ?_) | refine pq_any (fun _ => ?_))
  unfold mX5_hasWord
  exact key rFU v3 v1
theorem sm_hasWord8 {a : Nat} {v1 : Int32} {v2 : Option Nat} : PQ (mX8_hasWord a v1 v2 f n) (SM f n) := by
  unfold mX8_hasWord mX8_hasWord_b64
  repeat' (first | exact pq_ret rfl | exact pq_none | refine pq_ck ?_ | refine pq_ite ?_ ?_ | refine pq_oNa ?_ (fun _ => ?_) | refine pq_sm sm_toldFor (fun _ => ?_) | refine pq_sm sm_size5 (fun _ => ?_) | refine pq_sm sm_hasWord5 (fun _ => ?_) | refine pq_sm sm_get1 (fun _ => ?_) | refine pq_any (fun _ => ?_))
theorem k_foundF (h : RC f n V) : PQ (mX8_found 0 f n) (fun y => RC y.2.1 y.2.2 (noT V)) := by
  unfold mX8_found
  refine pq_ck (pq_call (f_takeWord h) (fun y hy => ?_))
  obtain ⟨f1, n1, h1, hc⟩ := hy
  have key : ∀ (d : Nat) (w : Option Nat) (v2 : Int64) (v4 : Int32), PQ (mX8_found_l24 d 0 w v2 v4 f1 n1) (SM f1 n1) := by
    intro d
    induction d with
    | zero => intro _ _ _; exact pq_none
    | succ d ih =>
      intro w v2 v4
      unfold mX8_found_l24 mX8_found_b53
      repeat' (first | exact pq_ret rfl | exact pq_none | exact ih _ _ _ | refine pq_ck ?_ | refine pq_ite ?_ ?_ | refine pq_sm sm_size1 (fun _ => ?_) | refine pq_sm sm_hasWord8 (fun _ => ?_) | refine pq_any (fun _ => ?_))
  rcases hc with ⟨hw, j, rfl, r⟩ | ⟨hw, rfl⟩
  · refine pq_sb (pq_oNs (pq_tail (key rFU _ _ _) (fun y hy => ?_)))
    have hy : y.2 = (f1, n1) := hy
    rw [hy]; exact h1
  · exact pq_sb (pq_oNn (pq_ret h1))
theorem f_again (h : RC f n V) : PQ (mX8_cutAgain 0 f n) (fun y => ∃ f', y = (0, f', n) ∧ RC f' n V ∧ CUT f' 115 (pcs V.2.1.2.1 (bltS V.2.1))) := by
  obtain ⟨hn, ⟨ag, hp, hag⟩, hT, ⟨hK, hV⟩, ⟨h8, ⟨h13, hI⟩, hP, hC⟩, hR⟩ := id h
  unfold mX8_cutAgain mX8_cutAgain_b30
  refine pq_gI hp rfl (pq_eq (fun q => ?_) (fun q => pq_ret ⟨f, rfl, h, hag q⟩))
  obtain ⟨⟨fr, la, a1, a2, full, a3, a4⟩, a5, a6, a7, a8⟩ := id hK.1
  obtain ⟨qw, hb⟩ := hK.2.2.1.1
  refine pq_gR hp rfl (pq_gR hp rfl (pq_sb (pq_gR hb rfl (pq_gR hp rfl (pq_sb (pq_ck ?_))))))
  refine pq_call (f_find (cf := V.2.1.2.1) (c0 := 115) a7.1 a7.2.1 a1 (by omega) a7.2.2.2.1.2 (STT_lks hK.1 sid3 (Or.inr rfl)) hK.2.2.2.1 (by omega) (by omega) hC) (fun y hy => ?_)
  obtain ⟨f1, rfl, g1, g2⟩ := hy
  have hp1 : f1 0 = some (.inr (8, pfL (bI V.2.2.2.1.isSome) ag (nI V.2.2.1.length) V.2.2.2.2.1 V.2.2.2.2.2)) := (g2 0 (by omega)).trans hp
  refine pq_ck (pq_pO hp1 rfl (pq_ret ?_))
  have hp2 : va_up f1 0 (some (.inr (8, (pfL (bI V.2.2.2.1.isSome) ag (nI V.2.2.1.length) V.2.2.2.2.1 V.2.2.2.2.2).set 10 (.int 1)))) 0 = some (.inr (8, pfL (bI V.2.2.2.1.isSome) 1 (nI V.2.2.1.length) V.2.2.2.2.1 V.2.2.2.2.2)) := u_eq
  have hF2 : ∀ j, j ≠ 0 → va_up f1 0 (some (.inr (8, (pfL (bI V.2.2.2.1.isSome) ag (nI V.2.2.1.length) V.2.2.2.2.1 V.2.2.2.2.2).set 10 (.int 1)))) j = f1 j := fun j hj => u_ne hj
  generalize va_up f1 0 (some (.inr (8, (pfL (bI V.2.2.2.1.isSome) ag (nI V.2.2.1.length) V.2.2.2.2.1 V.2.2.2.2.2).set 10 (.int 1)))) = f2 at hp2 hF2 ⊢
  have hF : ∀ j, j ≠ 0 → (j < 115 ∨ 171 ≤ j) → f2 j = f j := fun j a b => (hF2 j a).trans (g2 j (by omega))
  have im : ∀ j, IMM n j → f2 j = f j := fun j hj => hF j (IMM_1 hj).1 (by have := IMM_1 hj; omega)
  have hC2 : CUT f2 115 (pcs V.2.1.2.1 (bltS V.2.1)) := CUT_tr g1 (fun i a b => hF2 i (by omega))
  refine ⟨f2, rfl, ⟨hn, ⟨1, hp2, fun _ => hC2⟩, rw_tr hT (hF _ (by omega) (by omega)) (hF _ (by omega) (by omega)), ⟨KO_tr hK (fun j hj => ?_) (Nat.le_refl _), hV⟩, ⟨SSh_tr h8 (hF _ (by omega) (by omega)) (hF _ (by omega) (by omega)) (hF _ (by omega) (by omega)), ⟨SSh_tr h13 (hF _ (by omega) (by omega)) (hF _ (by omega) (by omega)) (hF _ (by omega) (by omega)), fun Q hQ => ⟨STT_tr (hI Q hQ).1 (hF _ (by omega) (by omega)) (hF _ (by omega) (by omega)) (hF _ (by omega) (by omega)) im (Nat.le_refl _), (hI Q hQ).2⟩⟩, ?_, CUT_sh hC2⟩, ?_⟩, hC2⟩
  · rcases hj with q | q | q | q
    · exact hF j (by omega) (by omega)
    · exact hF j (by omega) (by omega)
    · exact hF j (by omega) (by omega)
    · exact im j q
  · obtain ⟨p1, g, p2, p3, p4⟩ := hP
    refine ⟨p1, g, (hF _ (by omega) (by omega)).trans p2, fun i hi => ?_, p4⟩
    obtain ⟨s, e1, e2, e3, e4, e5⟩ := p3 i hi
    have hs := SID_lt e2
    exact ⟨s, e1, e2, e3, SSh_tr e4 (hF _ (by omega) (by omega)) (hF _ (by omega) (by omega)) (hF _ (by omega) (by omega)), fun Q hQ => ⟨STT_tr (e5 Q hQ).1 (hF _ (by omega) (by omega)) (hF _ (by omega) (by omega)) (hF _ (by omega) (by omega)) im (Nat.le_refl _), (e5 Q hQ).2⟩⟩
  · show rdG (f2 178)
    rw [hF 178 (by omega) (by omega)]; exact hR
theorem k_twiceF (h : RC f n V) : PQ (mX8_twice 0 f n) (fun y => RC y.2.1 y.2.2 V) := by
  unfold mX8_twice
  refine pq_ck (pq_call (f_again h) (fun y hy => ?_))
  obtain ⟨f1, rfl, h1, -⟩ := hy
  have key : ∀ (d : Nat) (v1 : Int32), PQ (mX8_twice_l25 d 0 v1 f1 n) (SM f1 n) := by
    intro d
    induction d with
    | zero => intro _; exact pq_none
    | succ d ih =>
      intro v1
      unfold mX8_twice_l25 mX8_twice_b72
      repeat' (first | exact pq_ret rfl | exact pq_none | exact ih _ | refine pq_ck ?_ | refine pq_ite ?_ ?_ | refine pq_oNa ?_ (fun _ => ?_) | refine pq_sm sm_size1 (fun _ => ?_) | refine pq_sm sm_get1 (fun _ => ?_) | refine pq_sm sm_isNow (fun _ => ?_) | refine pq_any (fun _ => ?_))
  refine pq_tail (Q1 := SM f1 n) ?_ (fun y hy => by
    have hy : y.2 = (f1, n) := hy
    rw [hy]; exact h1)
  repeat' (first | exact pq_ret rfl | exact pq_none | exact key rFU 0 | refine pq_ck ?_ | refine pq_ite ?_ ?_ | refine pq_sm sm_size1 (fun _ => ?_) | refine pq_any (fun _ => ?_))
theorem k_keptF {v : Int32} (h : RC f n V) : PQ (mX8_kept 0 v f n) (fun y => RC y.2.1 y.2.2 V) := by
  unfold mX8_kept
  refine pq_ck (pq_sm sm_pot (fun w => pq_tSa (fun a => ?_) (fun E => h)))
  refine pq_sb (pq_ck (pq_call (f_again h) (fun y hy => ?_)))
  obtain ⟨f1, rfl, h1, -⟩ := hy
  have key : ∀ (d : Nat) (w : Option Nat) (v1 : Int32), PQ (mX8_kept_l12 d 0 v w v1 f1 n) (SM f1 n) := by
    intro d
    induction d with
    | zero => intro _ _; exact pq_none
    | succ d ih =>
      intro w v1
      unfold mX8_kept_l12 mX8_kept_b63
      repeat' (first | exact pq_ret rfl | exact pq_none | exact ih _ _ | refine pq_ck ?_ | refine pq_ite ?_ ?_ | refine pq_oNa ?_ (fun _ => ?_) | refine pq_sm sm_size1 (fun _ => ?_) | refine pq_sm sm_get1 (fun _ => ?_) | refine pq_sm sm_mayB (fun _ => ?_) | refine pq_sm sm_isNow (fun _ => ?_) | refine pq_any (fun _ => ?_))
  refine pq_tail (key rFU _ 0) (fun y hy => by
    have hy : y.2 = (f1, n) := hy
    rw [hy]; exact h1)
def sWould (V : SPV) (p : Int32) : ANS := if inP V.2.1 p then (if V.1.length ≤ 60 then (.inl (tdN (escFor V.2.1.2.1 (pOf V.2.1 p.toInt.toNat) V.1)), noT V) else (.inr eA, noT V)) else (.inr eI, noT V)
theorem k_would {p : Int32} (h : RC f n V) : PQ (mX8_would 0 p f n) (COK (sWould V p)) := by
  unfold mX8_would
  refine pq_ck (pq_call (f_takeTold h) (fun y hy => ?_))
  obtain ⟨f1, n1, h1, hc⟩ := hy
  obtain ⟨ag, hp⟩ := RC_p h1
  have hK := h1.2.2.2.1.1
  have hy2 : ∃ o, y = (o, f1, n1) := by
    rcases hc with ⟨-, j, e, -⟩ | ⟨-, e⟩
    · exact ⟨_, e⟩
    · exact ⟨_, e⟩
  obtain ⟨o, rfl⟩ := hy2
  refine pq_sb (pq_ck ?_)
  unfold mX8_pieceOrThrow
  by_cases hin : inP V.2.1 p
  · have es : sWould V p = if V.1.length ≤ 60 then (.inl (tdN (escFor V.2.1.2.1 (pOf V.2.1 p.toInt.toNat) V.1)), noT V) else (.inr eA, noT V) := if_pos hin
    rw [es]
    have hvN := tn_lt hin
    refine pq_call (Q1 := fun y => y = (.inl (some (75 + p.toInt.toNat)), f1, n1)) (pq_gR hp rfl (pq_sb (pq_ck (pq_is (f_cgetI hK.2.1.1.1 hin) (pq_sb (pq_oNs (pq_ret rfl))))))) (fun y hy => ?_)
    subst hy
    rw [tS_l (v := some (75 + p.toInt.toNat)) rfl]
    refine pq_sb ?_
    rcases hc with ⟨hw, j, e, r⟩ | ⟨hw, e⟩
    · have e : o = some j := congrArg Prod.fst e
      subst e
      rw [if_pos hw]
      refine pq_oNs (pq_gR hp rfl (pq_gR hp rfl (pq_sb (pq_ck (pq_call (f_escS (f := f1) (n := n1) hK hvN r hw) (fun y hy => ?_))))))
      obtain ⟨f2, rfl, hK2, hE, hF2⟩ := hy
      have h2 : RC f2 n1 (noT V) := by
        obtain ⟨hn, ⟨ag, hp, hag⟩, hT, ⟨-, hV⟩, hRS, hR⟩ := h1
        refine ⟨hn, ⟨ag, (hF2 0 (by omega)).trans hp, fun q => CUT_tr (hag q) (fun i a b => hF2 i (by omega))⟩, rw_tr hT (hF2 _ (by omega)) (hF2 _ (by omega)), ⟨hK2, hV⟩, RS_frb hRS (fun j a b c d e g i k l => hF2 j (by omega)) hn (Nat.le_refl _), ?_⟩
        show rdG (f2 178)
        rw [hF2 178 (by omega)]; exact hR
      obtain ⟨ag2, hp2⟩ := RC_p h2
      obtain ⟨qw, hb2⟩ := hK2.2.2.1.1
      unfold mX8_would_b55
      cases he : escFor V.2.1.2.1 (pOf V.2.1 p.toInt.toNat) V.1 with
      | none =>
        have he' : escFor (noT V).2.1.2.1 (pOf (noT V).2.1 p.toInt.toNat) V.1 = none := he
        show PQ (if bI (escFor (noT V).2.1.2.1 (pOf (noT V).2.1 p.toInt.toNat) V.1).isSome = 0 then _ else _) _
        rw [he']
        exact pq_t rfl (pq_ret ⟨f2, n1, rfl, h2⟩)
      | some E =>
        have he' : escFor (noT V).2.1.2.1 (pOf (noT V).2.1 p.toInt.toNat) V.1 = some E := he
        show PQ (if bI (escFor (noT V).2.1.2.1 (pOf (noT V).2.1 p.toInt.toNat) V.1).isSome = 0 then _ else _) _
        rw [he']
        refine pq_f (show ¬ (1 : Int32) = 0 by decide) (pq_gR hp2 rfl (pq_sb (pq_gR hb2 rfl (pq_sb (pq_ck (pq_is (f_size (hE E he')) (pq_ret ⟨f2, n1, rfl, h2⟩)))))))
    · have e : o = none := congrArg Prod.fst e
      subst e
      rw [if_neg (by omega)]
      exact pq_oNn (pq_ret ⟨f1, n1, rfl, h1⟩)
  · have es : sWould V p = (.inr eI, noT V) := if_neg hin
    rw [es]
    refine pq_call (Q1 := fun y => y = (.inr eI, f1, n1)) (pq_gR hp rfl (pq_sb (pq_ck (pq_is (f_cgetX hK.2.1.1.1 hin) (pq_sb (pq_oNn (pq_ret rfl))))))) (fun y hy => ?_)
    subst hy
    exact pq_ret ⟨f1, n1, rfl, h1⟩
end CQY
