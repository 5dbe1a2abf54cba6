abbrev buL (qw : Int32) : List Value := [.ref 172, .ref 174, .ref 176, .int qw]
def BSh (f : AH) : Prop := (∃ qw, f 171 = some (.inr (0, buL qw))) ∧ (∃ R, isRw f 172 173 600 R) ∧ (∃ E, isRw f 174 175 540 E) ∧ (∃ M, isRw f 176 177 540 M)
/-- behind an escape: what the answer is, and what lies in the row of the escaped -/
def EO (f : AH) (n : Nat) (o : Option BL) (y : Int32 × HpN) : Prop := ∃ f', (match o with
  | none => y = (0, f', n)
  | some E => y = (1, f', n) ∧ isRw f' 174 175 540 E) ∧ (∃ qw, f' 171 = some (.inr (0, buL qw))) ∧ (∃ E, isRw f' 174 175 540 E) ∧ (∃ M, isRw f' 176 177 540 M) ∧ ∀ j, j < 171 ∨ 177 < j ∨ j = 172 ∨ j = 173 → f' j = f j
theorem EO_st {f g : AH} {n : Nat} {o : Option BL} {y : Int32 × HpN} (h : EO g n o y) (hF : ∀ j, j < 171 ∨ 177 < j ∨ j = 172 ∨ j = 173 → g j = f j) : EO f n o y := by
  obtain ⟨f', h1, h2, h3, h4, h5⟩ := h
  exact ⟨f', h1, h2, h3, h4, fun j hj => (h5 j hj).trans (hF j hj)⟩
section ESE
variable {f : AH} {n st fr lk td jp : Nat} {cf : CFG} {l le lc : Int32} {la : Option Nat} {pn : Int32} {b e tf ts kb ks x9 x10 x11 : Int32} {q iq fi : Bool}
theorem f_esc_b163 {M : BL} {qw : Int32} {bare : Bool} (hbare : bare = (decide (cf.1 = 1) && !q)) (hk : cf.1 = 0 ∨ cf.1 = 1 ∨ cf.1 = 2 ∨ cf.1 = 3) (hp : f jp = some (.inr (3, pcV b e tf ts kb ks (bI q) (bI iq) (bI fi) x9 x10 x11))) (hjp : jp < 171 ∨ 177 < jp) (hst : f st = some (.inr (7, stV fr cf.1 cf.2.1 l le lc la pn lk td))) (hsr : st < 171 ∨ 177 < st) (hb : f 171 = some (.inr (0, buL qw))) (hE : isRw f 174 175 540 []) (hM : isRw f 176 177 540 M) (hw : M.length ≤ 302 ∧ sW cf.1 M ≤ 540 ∧ sW 1 M ≤ 400) : PQ (mX0_escape_b163 171 (some jp) (some st) (bI bare) f n) (EO f n (if cf.2.1 ≠ -1 ∧ cf.1 = 1 ∧ q = false ∧ sg M = true then none else some (esc cf.1 q fi M))) := by
  have h6 := rw_6 hM
  unfold mX0_escape_b163
  have hkk : cf.1 = -1 ∨ cf.1 = 0 ∨ cf.1 = 1 ∨ cf.1 = 2 ∨ cf.1 = 3 := Or.inr hk
  refine pq_eq (fun q1 => ?_) (fun q1 => ?_)
  · -- not bare
    have hbf : (decide (cf.1 = 1) && !q) = false := by rw [← hbare]; exact bI_0.mp q1
    have hn : ¬ (cf.2.1 ≠ -1 ∧ cf.1 = 1 ∧ q = false ∧ sg M = true) := fun x => by
      rw [x.2.1, x.2.2.1] at hbf; cases hbf
    rw [if_neg hn]
    have eE : esc cf.1 q fi M = escL cf.1 fi M := by
      unfold esc
      by_cases h1 : cf.1 = 1
      · rw [if_pos h1]
        have hq : q = true := by
          cases q with
          | true => rfl
          | false => rw [h1] at hbf; cases hbf
        rw [if_pos hq, h1]
      · rw [if_neg h1]
    rw [eE]
    refine pq_gR hb rfl (pq_gR hb rfl (pq_sb (pq_gI hst rfl (pq_sb (pq_gI hp rfl ?_)))))
    have hl := escL_len (k := cf.1) (fi := fi) (t := M)
    refine pq_call (f_addEsc (j := 174) (b := 175) hkk (by omega) (by omega) hE hM (by show 0 + _ ≤ 540; omega)) (fun y hy => ?_)
    obtain ⟨f', rfl, g1, g2⟩ := hy
    refine pq_ck (pq_ret ⟨f', ⟨rfl, g1⟩, ⟨qw, (g2 _ (by omega) (by omega)).trans hb⟩, ⟨_, g1⟩, ⟨_, rw_tr hM (g2 _ (by omega) (by omega)) (g2 _ (by omega) (by omega))⟩, fun j hj => g2 j (by omega) (by omega)⟩)
  · have hbt : (decide (cf.1 = 1) && !q) = true := by
      rw [← hbare]
      cases bare with
      | true => rfl
      | false => exact absurd rfl q1
    rw [Bool.and_eq_true] at hbt
    have h1 : cf.1 = 1 := of_decide_eq_true hbt.1
    have hq : q = false := by
      cases q with
      | false => rfl
      | true => exact absurd hbt.2 (by decide)
    refine pq_gR hb rfl (pq_sb (pq_ck (pq_is (f_breaks hM) ?_)))
    refine pq_eq (fun q2 => ?_) (fun q2 => ?_)
    · have hsg : sg M = false := bI_0.mp q2
      rw [if_neg (fun x => by rw [hsg] at x; exact absurd x.2.2.2 (by decide))]
      have eE : esc cf.1 q fi M = M := by
        unfold esc
        rw [if_pos h1, if_neg (by rw [hq]; decide), if_neg (by rw [hsg]; decide)]
      rw [eE]
      refine pq_gR hb rfl (pq_gR hb rfl (pq_gR hb rfl (pq_sb (pq_ck (pq_is (f_size hM) (pq_sb (pq_ck ?_)))))))
      refine pq_call (f_addPart (i := 0) (by omega) (by omega) (Nat.le_refl _) (Nat.zero_le _) hE hM) (fun y hy => ?_)
      rcases hy with ⟨-, f', rfl, g1, g2⟩ | ⟨g1, -⟩
      · rw [sl_all] at g1
        refine pq_ck (pq_ret ⟨f', ⟨rfl, g1⟩, ⟨qw, (g2 _ (by omega) (by omega)).trans hb⟩, ⟨_, g1⟩, ⟨_, rw_tr hM (g2 _ (by omega) (by omega)) (g2 _ (by omega) (by omega))⟩, fun j hj => g2 j (by omega) (by omega)⟩)
      · have : 540 < ([] : BL).length + (M.length - 0) := g1
        have e0 : ([] : BL).length = 0 := rfl
        omega
    · have hsg : sg M = true := by
        cases hx : sg M with
        | true => rfl
        | false => exact absurd (by show bI (sg M) = 0; rw [hx]; rfl) q2
      have eE : esc cf.1 q fi M = 34 :: (escL 1 fi M ++ [34]) := by
        unfold esc
        rw [if_pos h1, if_neg (by rw [hq]; decide), if_pos hsg]
      have hfl : escL 1 fi M = escL 1 false M := by cases M <;> rfl
      have hl := escL_len (k := 1) (fi := false) (t := M)
      refine pq_pO hb rfl ?_
      have hb1 : va_up f 171 (some (.inr (0, (buL qw).set 3 (.int 1)))) 171 = some (.inr (0, buL 1)) := u_eq
      refine pq_gR hb1 rfl (pq_sb (pq_ck ?_))
      refine pq_call (f_addR (rw_up hE (by omega) (by omega)) (by decide)) (fun y hy => ?_)
      obtain ⟨f1, rfl, g1, g2⟩ := hy
      have hb2 : f1 171 = some (.inr (0, buL 1)) := (g2 _ (by omega) (by omega)).trans hb1
      refine pq_gR hb2 rfl (pq_gR hb2 rfl ?_)
      have hM1 : isRw f1 176 177 540 M := rw_tr (rw_up hM (by omega) (by omega)) (g2 _ (by omega) (by omega)) (g2 _ (by omega) (by omega))
      refine pq_call (f_addEsc (j := 174) (b := 175) (fi := false) (Or.inr (Or.inr (Or.inl rfl))) (by omega) (by omega) g1 hM1 (by show 1 + _ ≤ 540; omega)) (fun y hy => ?_)
      obtain ⟨f2, rfl, g3, g4⟩ := hy
      have hb3 : f2 171 = some (.inr (0, buL 1)) := (g4 _ (by omega) (by omega)).trans hb2
      refine pq_gR hb3 rfl (pq_sb (pq_ck ?_))
      refine pq_call (f_addR g3 (by rw [List.length_append]; show 1 + _ < 540; omega)) (fun y hy => ?_)
      obtain ⟨f3, rfl, g5, g6⟩ := hy
      have hF : ∀ j, j ≠ 171 → j ≠ 174 → j ≠ 175 → f3 j = f j := fun j x1 x2 x3 => ((g6 j x2 x3).trans ((g4 j x2 x3).trans (g2 j x2 x3))).trans (u_ne x1)
      refine pq_sb (pq_gI ((hF st (by omega) (by omega) (by omega)).trans hst) rfl ?_)
      have e9 : [] ++ [34] ++ escL 1 false M ++ [34] = 34 :: (escL 1 fi M ++ [34]) := by rw [hfl]; rfl
      rw [e9] at g5
      have rest : (∃ qw, f3 171 = some (.inr (0, buL qw))) ∧ (∃ E, isRw f3 174 175 540 E) ∧ (∃ M, isRw f3 176 177 540 M) ∧ ∀ j, j < 171 ∨ 177 < j ∨ j = 172 ∨ j = 173 → f3 j = f j := ⟨⟨1, (g6 _ (by omega) (by omega)).trans hb3⟩, ⟨_, g5⟩, ⟨M, rw_tr hM (hF _ (by omega) (by omega) (by omega)) (hF _ (by omega) (by omega) (by omega))⟩, fun j hj => hF j (by omega) (by omega) (by omega)⟩
      unfold mX0_escape_b270
      refine pq_eq (fun q3 => ?_) (fun q3 => ?_)
      · rw [if_neg (fun x => x.1 q3), eE]
        exact pq_ck (pq_ret ⟨f3, ⟨rfl, g5⟩, rest⟩)
      · rw [if_pos ⟨q3, h1, hq, hsg⟩]
        exact pq_ck (pq_ret ⟨f3, rfl, rest⟩)
theorem f_escape {jt bt ct : Nat} {t : BL} {x : Pc} (hk : cf.1 = 0 ∨ cf.1 = 1 ∨ cf.1 = 2 ∨ cf.1 = 3) (hki : cf.2.1 = -1 ∨ cf.2.1 = 0 ∨ cf.2.1 = 1 ∨ cf.2.1 = 2 ∨ cf.2.1 = 3) (hp : f jp = some (.inr (3, pcV b e tf ts kb ks (bI x.2.2.1) (bI x.2.2.2.1) (bI x.2.2.2.2.1) x9 x10 x11))) (hjp : jp < 171 ∨ 177 < jp) (hst : f st = some (.inr (7, stV fr cf.1 cf.2.1 l le lc la pn lk td))) (hsr : st < 171 ∨ 177 < st) (hS : BSh f) (ht : isRw f jt bt ct t) (hjt : jt < 171 ∨ 177 < jt) (hbt : bt < 171 ∨ 177 < bt) (h60 : t.length ≤ 60) : PQ (mX0_escape 171 (some jt) (some jp) (some st) f n) (EO f n (escFor cf x t)) := by
  obtain ⟨⟨qw, hb⟩, -, ⟨E0, hE⟩, ⟨M0, hM⟩⟩ := hS
  unfold mX0_escape
  refine pq_oNs (pq_pO hb rfl ?_)
  have hb1 : va_up f 171 (some (.inr (0, (buL qw).set 3 (.int 0)))) 171 = some (.inr (0, buL 0)) := u_eq
  refine pq_gR hb1 rfl (pq_sb (pq_ck ?_))
  refine pq_call (f_cutTo (rw_up hM (by omega) (by omega)) (m := 0) (by omega)) (fun y hy => ?_)
  obtain ⟨f1, rfl, g1, g2⟩ := hy
  have hb2 : f1 171 = some (.inr (0, buL 0)) := (g2 _ (by omega)).trans hb1
  refine pq_gR hb2 rfl (pq_sb (pq_ck ?_))
  have hE1 : isRw f1 174 175 540 E0 := rw_tr (rw_up hE (by omega) (by omega)) (g2 _ (by omega)) (g2 _ (by omega))
  refine pq_call (f_cutTo hE1 (m := 0) (by omega)) (fun y hy => ?_)
  obtain ⟨f2, rfl, g3, g4⟩ := hy
  have hF2 : ∀ j, j ≠ 171 → j ≠ 174 → j ≠ 176 → f2 j = f j := fun j x1 x2 x3 => ((g4 j x2).trans (g2 j x3)).trans (u_ne x1)
  have hM2 : isRw f2 176 177 540 [] := rw_tr g1 (g4 _ (by omega)) (g4 _ (by omega))
  have hE2 : isRw f2 174 175 540 [] := g3
  have hb3 : f2 171 = some (.inr (0, buL 0)) := (g4 _ (by omega)).trans hb2
  have hst2 := (hF2 st (by omega) (by omega) (by omega)).trans hst
  have hp2 := (hF2 jp (by omega) (by omega) (by omega)).trans hp
  have ht2 : isRw f2 jt bt ct t := rw_tr ht (hF2 _ (by omega) (by omega) (by omega)) (hF2 _ (by omega) (by omega) (by omega))
  clear g1 g2 g3 g4 hE1 hb1 hb2
  have hmw := mid_w (cf := cf) (iq := x.2.2.2.1) (t := t) (k := cf.1) h60
  have hmw1 := (mid_w (cf := cf) (iq := x.2.2.2.1) (t := t) (k := 1) h60).2.2 (by decide)
  have h5 := (sW_5 (k := 1) (t := t))
  -- the last stage, over any heap with the middle row made
  have last : ∀ (g : AH) (qw : Int32) (bare : Bool), bare = (decide (cf.1 = 1) && !x.2.2.1) → g 171 = some (.inr (0, buL qw)) → isRw g 176 177 540 (mid cf x.2.2.2.1 t) → (∀ j, j ≠ 171 → j ≠ 176 → j ≠ 177 → g j = f2 j) → PQ (mX0_escape_b163 171 (some jp) (some st) (bI bare) g n) (EO f n (escFor cf x t)) := by
    intro g qw bare hba k1 k2 k3
    refine pq_tail (f_esc_b163 hba hk ((k3 jp (by omega) (by omega) (by omega)).trans hp2) hjp ((k3 st (by omega) (by omega) (by omega)).trans hst2) hsr k1 (rw_tr hE2 (k3 _ (by omega) (by omega) (by omega)) (k3 _ (by omega) (by omega) (by omega))) k2 ⟨hmw.1, hmw.2.1, hmw1⟩) (fun y hy => ?_)
    exact EO_st hy (fun j hj => (k3 j (by omega) (by omega) (by omega)).trans (hF2 j (by omega) (by omega) (by omega)))
  -- the stage of the inner kind
  have b141 : ∀ (bare bw : Bool), bare = (decide (cf.1 = 1) && !x.2.2.1) → bw = (decide (cf.2.1 = 1) && !x.2.2.2.1) → (bw = true → sg t = false) → PQ (mX0_escape_b141 171 (some jt) (some jp) (some st) (bI bare) (bI bw) f2 n) (EO f n (escFor cf x t)) := by
    intro bare bw hba hbw hsg
    unfold mX0_escape_b141
    refine pq_gR hb3 rfl ?_
    have go : ∀ k : Int32, (k = -1 ∨ k = 0 ∨ k = 1 ∨ k = 2 ∨ k = 3) → escL k true t = mid cf x.2.2.2.1 t → PQ (mX0_escape_b159 171 (some jp) (some st) (bI bare) (some jt) (some 176) k f2 n) (EO f n (escFor cf x t)) := by
      intro k hk5 hmid
      unfold mX0_escape_b159
      refine pq_call (f_addEsc (j := 176) (b := 177) (fi := true) hk5 (by omega) (by omega) hM2 ht2 (by rw [hmid]; show 0 + _ ≤ 540; omega)) (fun y hy => ?_)
      obtain ⟨f3, rfl, k1, k2⟩ := hy
      rw [hmid] at k1
      exact last f3 0 bare hba ((k2 _ (by omega) (by omega)).trans hb3) k1 (fun j x1 x2 x3 => k2 j x2 x3)
    have plain : escL (-1) true t = t := by
      have : ∀ (u : BL) (fl : Bool), escL (-1) fl u = u := by
        intro u
        induction u with
        | nil => intro fl; rfl
        | cons c u ih => intro fl; show [c] ++ escL (-1) false u = c :: u; rw [ih]; rfl
      exact this t true
    refine pq_eq (fun q1 => ?_) (fun q1 => ?_)
    · refine pq_sb (pq_gI hst2 rfl (go cf.2.1 hki ?_))
      have hbf : (decide (cf.2.1 = 1) && !x.2.2.2.1) = false := by rw [← hbw]; exact bI_0.mp q1
      unfold mid
      by_cases hm1 : cf.2.1 = -1
      · rw [if_pos hm1, hm1]; exact plain
      · rw [if_neg hm1]
        unfold esc
        by_cases h1 : cf.2.1 = 1
        · have hq : x.2.2.2.1 = true := by
            cases hx : x.2.2.2.1 with
            | true => rfl
            | false => rw [h1, hx] at hbf; cases hbf
          rw [if_pos h1, if_pos hq, h1]
        · rw [if_neg h1]
    · have hbt' : bw = true := by
        cases bw with
        | true => rfl
        | false => exact absurd rfl q1
      have hbf : (decide (cf.2.1 = 1) && !x.2.2.2.1) = true := by rw [← hbw]; exact hbt'
      rw [Bool.and_eq_true] at hbf
      have h1 : cf.2.1 = 1 := of_decide_eq_true hbf.1
      have hq : x.2.2.2.1 = false := by
        cases hx : x.2.2.2.1 with
        | false => rfl
        | true => rw [hx] at hbf; exact absurd hbf.2 (by decide)
      refine go (-1) (Or.inl rfl) ?_
      rw [plain]
      unfold mid esc
      rw [if_neg (by rw [h1]; decide), if_pos h1, if_neg (by rw [hq]; decide), if_neg (by rw [hsg hbt']; decide)]
  have b69 : ∀ (bare bw : Bool), bare = (decide (cf.1 = 1) && !x.2.2.1) → bw = (decide (cf.2.1 = 1) && !x.2.2.2.1) → PQ (mX0_escape_b69 171 (some jt) (some jp) (some st) (bI bare) (bI bw) f2 n) (EO f n (escFor cf x t)) := by
    intro bare bw hba hbw
    unfold mX0_escape_b69
    refine pq_eq (fun q1 => b141 bare bw hba hbw (fun h => by rw [h] at q1; exact absurd q1 (by decide))) (fun q1 => ?_)
    have hbt' : bw = true := by
      cases bw with
      | true => rfl
      | false => exact absurd rfl q1
    refine pq_sb (pq_ck (pq_is (f_breaks ht2) ?_))
    refine pq_eq (fun q2 => b141 bare bw hba hbw (fun _ => bI_0.mp q2)) (fun q2 => ?_)
    have hsg : sg t = true := by
      cases hx : sg t with
      | true => rfl
      | false => exact absurd (by show bI (sg t) = 0; rw [hx]; rfl) q2
    have hbf : (decide (cf.2.1 = 1) && !x.2.2.2.1) = true := by rw [← hbw]; exact hbt'
    rw [Bool.and_eq_true] at hbf
    have h1 : cf.2.1 = 1 := of_decide_eq_true hbf.1
    have hq : x.2.2.2.1 = false := by
      cases hx : x.2.2.2.1 with
      | false => rfl
      | true => rw [hx] at hbf; exact absurd hbf.2 (by decide)
    have emid : mid cf x.2.2.2.1 t = 34 :: (escL 1 true t ++ [34]) := by
      unfold mid esc
      rw [if_neg (by rw [h1]; decide), if_pos h1, if_neg (by rw [hq]; decide), if_pos hsg]
    have hfl : escL 1 true t = escL 1 false t := by cases t <;> rfl
    have hl := escL_len (k := 1) (fi := false) (t := t)
    refine pq_gR hb3 rfl (pq_sb (pq_ck ?_))
    refine pq_call (f_addR hM2 (by decide)) (fun y hy => ?_)
    obtain ⟨f3, rfl, k1, k2⟩ := hy
    have hb4 : f3 171 = some (.inr (0, buL 0)) := (k2 _ (by omega) (by omega)).trans hb3
    refine pq_gR hb4 rfl ?_
    have ht3 : isRw f3 jt bt ct t := rw_tr ht2 (k2 _ (by omega) (by omega)) (k2 _ (by omega) (by omega))
    refine pq_call (f_addEsc (j := 176) (b := 177) (fi := false) (Or.inr (Or.inr (Or.inl rfl))) (by omega) (by omega) k1 ht3 (by show 1 + _ ≤ 540; omega)) (fun y hy => ?_)
    obtain ⟨f4, rfl, k3, k4⟩ := hy
    have hb5 : f4 171 = some (.inr (0, buL 0)) := (k4 _ (by omega) (by omega)).trans hb4
    refine pq_gR hb5 rfl (pq_sb (pq_ck ?_))
    refine pq_call (f_addR k3 (by rw [List.length_append]; show 1 + _ < 540; omega)) (fun y hy => ?_)
    obtain ⟨f5, rfl, k5, k6⟩ := hy
    have e9 : [] ++ [34] ++ escL 1 false t ++ [34] = mid cf x.2.2.2.1 t := by rw [emid, hfl]; rfl
    rw [e9] at k5
    have hF5 : ∀ j, j ≠ 176 → j ≠ 177 → f5 j = f2 j := fun j x1 x2 => (k6 j x1 x2).trans ((k4 j x1 x2).trans (k2 j x1 x2))
    have hb6 : f5 171 = some (.inr (0, buL 0)) := (hF5 _ (by omega) (by omega)).trans hb3
    have fin : ∀ w : Int32, PQ (mX0_escape_b135 171 (some jp) (some st) (bI bare) 171 w f5 n) (EO f n (escFor cf x t)) := by
      intro w
      unfold mX0_escape_b135
      refine pq_pO hb6 rfl ?_
      exact last _ w bare hba u_eq (rw_up k5 (by omega) (by omega)) (fun j x1 x2 x3 => (u_ne x1).trans (hF5 j x2 x3))
    have hst5 := (hF5 st (by omega) (by omega)).trans hst2
    refine pq_sb (pq_gI hst5 rfl ?_)
    refine pq_eq (fun _ => fin 2) (fun _ => pq_gI hst5 rfl ?_)
    exact pq_eq (fun _ => fin 2) (fun _ => fin 1)
  have b47 : ∀ bare : Bool, bare = (decide (cf.1 = 1) && !x.2.2.1) → PQ (mX0_escape_b47 171 (some jt) (some jp) (some st) (bI bare) f2 n) (EO f n (escFor cf x t)) := by
    intro bare hba
    unfold mX0_escape_b47
    refine pq_sb (pq_gI hst2 rfl ?_)
    refine pq_eq (fun q1 => ?_) (fun q1 => ?_)
    · refine pq_sb (pq_gI hp2 rfl ?_)
      refine pq_eq (fun q2 => ?_) (fun q2 => ?_)
      · exact b69 bare true hba (by rw [decide_eq_true q1, bI_0.mp q2]; rfl)
      · refine b69 bare false hba ?_
        cases hx : x.2.2.2.1 with
        | true => rw [Bool.not_true, Bool.and_false]
        | false => exact absurd (by show bI x.2.2.2.1 = 0; rw [hx]; rfl) q2
    · exact b69 bare false hba (by rw [decide_eq_false q1]; rfl)
  refine pq_sb (pq_gI hst2 rfl ?_)
  refine pq_eq (fun q1 => ?_) (fun q1 => ?_)
  · refine pq_gI hp2 rfl ?_
    refine pq_eq (fun q2 => ?_) (fun q2 => ?_)
    · exact b47 true (by rw [decide_eq_true q1, bI_0.mp q2]; rfl)
    · refine b47 false ?_
      cases hx : x.2.2.1 with
      | true => rw [Bool.not_true, Bool.and_false]
      | false => exact absurd (by show bI x.2.2.1 = 0; rw [hx]; rfl) q2
  · exact b47 false (by rw [decide_eq_false q1]; rfl)
end ESE
