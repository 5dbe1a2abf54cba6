/-! the class does acts: what stays, what is said of it -/
def FRa (n : Nat) (f f' : AH) : Prop := ∀ j, j < n → j ≠ 0 → j ≠ 3 → j ≠ 6 → j ≠ 7 → (j < 59 ∨ 115 ≤ j) → (j < 171 ∨ 178 ≤ j) → f' j = f j
theorem fra_rfl {n : Nat} {f : AH} : FRa n f f := fun _ _ _ _ _ _ _ _ => rfl
theorem fra_tr {n n' : Nat} {f f' f'' : AH} (h1 : FRa n f f') (h2 : FRa n' f' f'') (hn : n ≤ n') : FRa n f f'' := fun j a b c d e g h => (h2 j (by omega) b c d e g h).trans (h1 j a b c d e g h)
theorem fra_of {n : Nat} {f f' : AH} (h : ∀ j, j < 59 ∨ (115 ≤ j ∧ j < 171) ∨ 177 < j → f' j = f j) : FRa n f f' := fun j _ _ _ _ _ g k => h j (by omega)
theorem fra_imm {n : Nat} {f f' : AH} (h : FRa n f f') (hn : 224 ≤ n) {j : Nat} (hj : IMM n j) : f' j = f j := by
  have h1 := IMM_1 hj
  have h2 := IMM_ne hj sid3
  have h3 := IMM_lt hj hn
  exact h j h3 h1.1 h2.1 h2.2.1 h2.2.2 (by omega) (by omega)
theorem BSh_tr {f f' : AH} (h : BSh f) (hF : ∀ j, 171 ≤ j → j < 178 → f' j = f j) : BSh f' := by
  obtain ⟨⟨qw, b1⟩, ⟨R, b2⟩, ⟨E, b3⟩, ⟨M, b4⟩⟩ := h
  exact ⟨⟨qw, (hF _ (by omega) (by omega)).trans b1⟩, ⟨R, rw_tr b2 (hF _ (by omega) (by omega)) (hF _ (by omega) (by omega))⟩, ⟨E, rw_tr b3 (hF _ (by omega) (by omega)) (hF _ (by omega) (by omega))⟩, ⟨M, rw_tr b4 (hF _ (by omega) (by omega)) (hF _ (by omega) (by omega))⟩⟩
/-- shapes alone: what restore wants -/
def SHP (f : AH) : Prop := SSh f 3 ∧ CSh f 59 ∧ BSh f
def AOK (f : AH) (n : Nat) (hi pc wn fp : Int32) (r : Int32 × SST) (y : Int32 × HpN) : Prop := ∃ f' n', y = (r.1, f', n') ∧ n ≤ n' ∧ f' 0 = some (.inr (8, pfL hi 0 pc wn fp)) ∧ FRa n f f' ∧ (r.1 = 3 → SHP f') ∧ (r.1 ≠ 3 → KO f' n' r.2)
theorem KO_shp {f : AH} {n : Nat} {S : SST} (h : KO f n S) : SHP f := ⟨STT_sh h.1, CUT_sh h.2.1, h.2.2.1⟩
section CAC
variable {f : AH} {n : Nat} {S : SST} {hi ag pc wn fp : Int32}
theorem aok_no {c : Int32} (hp : f 0 = some (.inr (8, pfL hi 0 pc wn fp))) (hK : KO f n S) (hc : c ≠ 3) : AOK f n hi pc wn fp (c, S) (c, f, n) := ⟨f, n, rfl, Nat.le_refl _, hp, fra_rfl, fun q => absurd q hc, fun _ => hK⟩
theorem f_cutAnew (hp : f 0 = some (.inr (8, pfL hi ag pc wn fp))) (hS : STT f n 3 S) (hC : CSh f 59) (hB : BSh f) (hV : SV (setT S (fun _ => none))) : PQ (mX8_cutAnew 0 f n) (fun y => ∃ f', y = (0, f', n) ∧ f' 0 = some (.inr (8, pfL hi 0 pc wn fp)) ∧ KO f' n (setT S (fun _ => none)) ∧ FRa n f f') := by
  unfold mX8_cutAnew
  refine pq_ck (pq_pO hp rfl ?_)
  have hp2 : va_up f 0 (some (.inr (8, (pfL hi ag pc wn fp).set 10 (.int 0)))) 0 = some (.inr (8, pfL hi 0 pc wn fp)) := u_eq
  have hx : ∀ j, j ≠ 0 → va_up f 0 (some (.inr (8, (pfL hi ag pc wn fp).set 10 (.int 0)))) j = f j := fun j hj => u_ne hj
  generalize va_up f 0 (some (.inr (8, (pfL hi ag pc wn fp).set 10 (.int 0)))) = f2 at hp2 hx ⊢
  have hS2 : STT f2 n 3 S := STT_tr hS (hx _ (by omega)) (hx _ (by omega)) (hx _ (by omega)) (fun i hi => hx i (IMM_1 hi).1) (Nat.le_refl _)
  refine pq_gR hp2 rfl (pq_sb (pq_ck (pq_call (f_forget sid3 hS2) (fun y hy => ?_))))
  obtain ⟨f3, rfl, h3, hF3⟩ := hy
  have hx3 : ∀ j, j ≠ 0 → j ≠ 7 → f3 j = f j := fun j a b => (hF3 j b).trans (hx j a)
  refine pq_tail (f_recut (f := f3) (n := n) (S := setT S (fun _ => none)) (fs := pfL hi 0 pc wn fp) rfl rfl rfl ((hF3 0 (by omega)).trans hp2) h3 hV (CSh_tr hC (fun i a b => hx3 i (by omega) (by omega))) (BSh_tr hB (fun i a b => hx3 i (by omega) (by omega)))) (fun y hy => ?_)
  obtain ⟨f', rfl, k1, k2⟩ := hy
  exact ⟨f', rfl, (k2 0 (by omega)).trans ((hF3 0 (by omega)).trans hp2), k1, fun j a b c d e g h => (k2 j (by omega)).trans (hx3 j b e)⟩
theorem f_restore {s : Nat} {S' : SST} (hp : f 0 = some (.inr (8, pfL hi ag pc wn fp))) (hs : SID s) (h3 : s ≠ 3) (hS : STT f n s S') (hH : SHP f) (hV : SV S') : PQ (mX8_restore 0 (some s) f n) (fun y => ∃ f', y = (0, f', n) ∧ f' 0 = some (.inr (8, pfL hi 0 pc wn fp)) ∧ KO f' n S' ∧ FRa n f f') := by
  obtain ⟨hS3, hC, hB⟩ := hH
  have hs4 := SID_lt hs
  unfold mX8_restore
  refine pq_ck (pq_pO hp rfl ?_)
  have hp2 : va_up f 0 (some (.inr (8, (pfL hi ag pc wn fp).set 10 (.int 0)))) 0 = some (.inr (8, pfL hi 0 pc wn fp)) := u_eq
  have hx : ∀ j, j ≠ 0 → va_up f 0 (some (.inr (8, (pfL hi ag pc wn fp).set 10 (.int 0)))) j = f j := fun j hj => u_ne hj
  generalize va_up f 0 (some (.inr (8, (pfL hi ag pc wn fp).set 10 (.int 0)))) = f2 at hp2 hx ⊢
  have hS2 : STT f2 n s S' := STT_tr hS (hx _ (by omega)) (hx _ (by omega)) (hx _ (by omega)) (fun i hi => hx i (IMM_1 hi).1) (Nat.le_refl _)
  have hS32 : SSh f2 3 := SSh_tr hS3 (hx _ (by omega)) (hx _ (by omega)) (hx _ (by omega))
  refine pq_gR hp2 rfl (pq_sb (pq_ck (pq_call (f_copy sid3 hs (fun q => h3 q.symm) hS32 hS2) (fun y hy => ?_))))
  obtain ⟨f3, rfl, h3, hF3⟩ := hy
  have hx3 : ∀ j, j ≠ 0 → j ≠ 3 → j ≠ 6 → j ≠ 7 → f3 j = f j := fun j a b c d => (hF3 j b c d).trans (hx j a)
  refine pq_tail (f_recut (f := f3) (n := n) (S := S') (fs := pfL hi 0 pc wn fp) rfl rfl rfl ((hF3 0 (by omega) (by omega) (by omega)).trans hp2) h3 hV (CSh_tr hC (fun i a b => hx3 i (by omega) (by omega) (by omega) (by omega))) (BSh_tr hB (fun i a b => hx3 i (by omega) (by omega) (by omega) (by omega)))) (fun y hy => ?_)
  obtain ⟨f', rfl, k1, k2⟩ := hy
  exact ⟨f', rfl, (k2 0 (by omega)).trans ((hF3 0 (by omega) (by omega) (by omega)).trans hp2), k1, fun j a b c d e g h => (k2 j (by omega)).trans (hx3 j b c d e)⟩
/-- made anew -/
theorem f_remake (hS : STT f n 3 S) (hC : CUT f 59 (pcF S)) (hB : BSh f) (hV : VE S.2.1 S.2.2.1 (pcF S)) : PQ (mX0_make 171 (some 3) (some 59) f n) (fun y => ∃ f', (∀ j, j < 59 ∨ (115 ≤ j ∧ j < 171) ∨ 177 < j → f' j = f j) ∧ (((bltS S).length ≤ 600 ∧ y = (1, f', n) ∧ KO f' n S) ∨ (600 < (bltS S).length ∧ y = (0, f', n) ∧ SHP f'))) := by
  obtain ⟨⟨fr, la, a1, ⟨rb, cc, a2, a2', a2''⟩, full, a3, a4⟩, a5, a6, a7, a8⟩ := id hS
  have hM1 : MK f 3 fr 6 7 rb cc S.2.1 S.2.1.2.2.1 (nI S.2.1.2.2.2.1) (nI S.2.1.2.2.2.2.length) la (nI S.2.2.2.length) S.1 S.2.2.1 (pcF S) := ⟨hC.1.1, a1, a2, STT_tld hS⟩
  refine pq_tail (f_make a7.1 a7.2.1 (by omega) (by omega) (IMM_out a2') (IMM_out a2'') pcs_ord hV hM1 hB) (fun y hy => ?_)
  obtain ⟨f2, k1, k2, k3, k4⟩ := hy
  have e : ∀ j, j < 59 ∨ (115 ≤ j ∧ j < 171) ∨ 177 < j → f2 j = f j := fun j hj => k3 j (by omega)
  have hS2 : STT f2 n 3 S := STT_tr hS (e _ (by omega)) (e _ (by omega)) (e _ (by omega)) (fun j hj => e j (by have := IMM_1 hj; omega)) (Nat.le_refl _)
  have hC2 : CUT f2 59 (pcF S) := by
    refine ⟨⟨k1, ?_, ?_, ?_, ?_, ?_⟩, ?_, hC.2.2⟩
    · exact rw_tr hC.1.2.1 (k3 _ (by omega)) (k3 _ (by omega))
    · exact rw_tr hC.1.2.2.1 (k3 _ (by omega)) (k3 _ (by omega))
    · obtain ⟨M, hM⟩ := hC.1.2.2.2.1
      exact ⟨M, rw_tr hM (k3 _ (by omega)) (k3 _ (by omega))⟩
    · obtain ⟨M, hM⟩ := hC.1.2.2.2.2.1
      exact ⟨M, rw_tr hM (k3 _ (by omega)) (k3 _ (by omega))⟩
    · rw [k3 _ (by omega)]; exact hC.1.2.2.2.2.2
    · rw [k3 _ (by omega)]; exact hC.2.1
  refine ⟨f2, e, ?_⟩
  rcases k4 with ⟨k5, rfl, k6, k7⟩ | ⟨k5, rfl⟩
  · exact Or.inl ⟨k5, rfl, hS2, hC2, k2, k6, k7⟩
  · exact Or.inr ⟨k5, rfl, STT_sh hS2, CUT_sh hC2, k2⟩
theorem f_fin {g : AH} {n0 : Nat} {S0 : SST} (hn : n0 ≤ n) (hp : g 0 = some (.inr (8, pfL hi 0 pc wn fp))) (hFr : FRa n0 f g) (hS : STT g n 3 S) (hC : CUT g 59 (pcF S)) (hB : BSh g) (hV : VE S.2.1 S.2.2.1 (pcF S)) : PQ ((gR g 0 8 7).bind fun x20 => ((gR g 0 8 1).bind fun x21 => ((gR g 0 8 5).bind fun x22 => ((x20).bind fun j23 => rCk (isO g j23 0) (((mX0_make j23 x21 x22 g n).bind fun r25 => (if r25.1 = (0 : Int32) then some ((3 : Int32), (r25.2.1, r25.2.2)) else some ((0 : Int32), (r25.2.1, r25.2.2))))))))) (AOK f n0 hi pc wn fp (finA S0 S)) := by
  refine pq_gR hp rfl (pq_gR hp rfl (pq_gR hp rfl (pq_sb (pq_ck (pq_call (f_remake hS hC hB hV) (fun y hy => ?_))))))
  obtain ⟨f', e, h | h⟩ := hy
  · obtain ⟨h1, rfl, h2⟩ := h
    refine pq_f (show ¬ (1 : Int32) = 0 by decide) (pq_ret ?_)
    have e2 : finA S0 S = (0, S) := if_neg (by omega)
    rw [e2]
    exact ⟨f', n, rfl, hn, (e 0 (by omega)).trans hp, fra_tr hFr (fra_of (n := n) e) hn, fun q => absurd (show (0 : Int32) = 3 from q) (by decide), fun _ => h2⟩
  · obtain ⟨h1, rfl, h2⟩ := h
    refine pq_t rfl (pq_ret ?_)
    have e2 : finA S0 S = (3, S0) := if_pos h1
    rw [e2]
    exact ⟨f', n, rfl, hn, (e 0 (by omega)).trans hp, fra_tr hFr (fra_of (n := n) e) hn, fun _ => h2, fun q => absurd rfl q⟩
theorem f_cgetI {v : Int32} {P : List Pc} (hC : CB f 59 P) (h : 0 ≤ v.toInt ∧ v.toInt < P.length) : PQ (mX1_get 59 v f n) (fun y => y = (some (75 + v.toInt.toNat), f, n)) := pq_tail (f_cget hC) (fun y hy => by rw [hy, if_pos h])
theorem f_cgetX {v : Int32} {P : List Pc} (hC : CB f 59 P) (h : ¬ (0 ≤ v.toInt ∧ v.toInt < P.length)) : PQ (mX1_get 59 v f n) (fun y => y = (none, f, n)) := pq_tail (f_cget hC) (fun y hy => by rw [hy, if_neg h])
theorem f_toldForS {s : Nat} {v : Int32} (hS : STT f n s S) (hv : 0 ≤ v.toInt ∧ v.toInt < 40) : PQ (mX7_toldFor s v f n) (fun y => ∃ w, y = (w, f, n) ∧ RO f n (S.2.2.1 v.toInt.toNat) w) := by
  obtain ⟨⟨fr, la, a1, -⟩, -, ⟨g, h2, h3⟩, -⟩ := hS
  unfold mX7_toldFor
  refine pq_lt rfl kt_0 (fun q => by omega) (fun q => ?_)
  refine pq_gR a1 rfl (pq_sb (pq_gL h2 (by omega) ?_))
  refine pq_le kn_40 rfl (fun q2 => by omega) (fun q2 => ?_)
  refine pq_gR a1 rfl (pq_sb (pq_gRA h2 (fun _ => pq_ret ⟨_, rfl, ?_⟩)))
  have h4 := h3 v.toInt.toNat (by omega)
  have e : v.toNatClampNeg = v.toInt.toNat := rfl
  rw [e]
  unfold RO
  cases ht : S.2.2.1 v.toInt.toNat with
  | none => rw [ht] at h4; exact h4
  | some t => rw [ht] at h4; exact h4
theorem inP_40 {v : Int32} (h : inP S v) : 0 ≤ v.toInt ∧ v.toInt < 40 := by
  have := pcs_40 (cf := S.2.1) (L := S.1)
  have h2 : v.toInt < ((pcs S.2.1 S.1).length : Int) := h.2
  exact ⟨h.1, by omega⟩
theorem f_free {v : Int32} (hp : f 0 = some (.inr (8, pfL hi 0 pc wn fp))) (hK : KO f n S) (hV : SV S) : PQ (mX8_freePiece 0 v f n) (AOK f n hi pc wn fp (frA S v)) := by
  unfold mX8_freePiece
  refine pq_gR hp rfl (pq_sb (pq_ck ?_))
  by_cases hin : inP S v
  · have e1 : frA S v = if S.2.2.1 v.toInt.toNat = none then (4, S) else finA S (setT S (tset S.2.2.1 v.toInt.toNat none)) := if_pos hin
    rw [e1]
    have h40 := inP_40 hin
    refine pq_is (f_cgetI hK.2.1.1.1 hin) (pq_sb (pq_oNs (pq_gR hp rfl (pq_sb (pq_ck (pq_call (f_toldForS hK.1 h40) (fun y hy => ?_)))))))
    obtain ⟨w, rfl, hw⟩ := hy
    cases ht : S.2.2.1 v.toInt.toNat with
    | none =>
      rw [ht] at hw
      have hw : w = none := hw
      subst hw
      rw [if_pos rfl]
      exact pq_sb (pq_oNn (pq_ret (aok_no hp hK (by decide))))
    | some t =>
      rw [ht] at hw
      obtain ⟨j, rfl, -⟩ := hw
      rw [if_neg (by intro q; cases q)]
      refine pq_sb (pq_oNs (pq_gR hp rfl (pq_sb (pq_ck (pq_call (f_setTold (o := none) sid3 hK.1 h40 rfl) (fun y hy => ?_))))))
      obtain ⟨f2, rfl, hS2, hF2⟩ := hy
      refine f_fin (n0 := n) (S0 := S) (g := f2) (S := setT S (tset S.2.2.1 v.toInt.toNat none)) (Nat.le_refl _) ((hF2 0 (by omega)).trans hp) (fun j a b c d e g h => hF2 j e) hS2 (CUT_tr hK.2.1 (fun i a b => hF2 i (by omega))) (BSh_tr hK.2.2.1 (fun i a b => hF2 i (by omega))) (VE_tset hV.1 (fun t e => by cases e))
  · have e1 : frA S v = (1, S) := if_neg hin
    rw [e1]
    exact pq_is (f_cgetX hK.2.1.1.1 hin) (pq_sb (pq_oNn (pq_ret (aok_no hp hK (by decide)))))
theorem f_wipe (h4 : S.1.length ≤ 400) (hp : f 0 = some (.inr (8, pfL hi 0 pc wn fp))) (hK : KO f n S) (hV : SV S) : PQ (mX8_wipePieces 0 f n) (AOK f n hi pc wn fp (wpA S)) := by
  unfold mX8_wipePieces
  refine pq_gR hp rfl (pq_sb (pq_ck (pq_is (f_tcount hK.1) ?_)))
  have ht := tcnt_le (told := S.2.2.1) 40
  refine pq_eqi (nI_toInt (by omega)) kt_0 (fun q => ?_) (fun q => ?_)
  · have e : wpA S = (4, S) := if_pos (by omega)
    rw [e]
    exact pq_ret (aok_no hp hK (by decide))
  · have e : wpA S = finA S (setT S (fun _ => none)) := by
      unfold wpA finA
      rw [if_neg (by omega), if_neg]
      have := (SV_none (S := setT S (fun _ => none)) h4 hV.2.2.1 (fun _ => rfl)).2.1
      omega
    rw [e]
    refine pq_gR hp rfl (pq_sb (pq_ck (pq_call (f_forget sid3 hK.1) (fun y hy => ?_))))
    obtain ⟨f2, rfl, hS2, hF2⟩ := hy
    exact f_fin (n0 := n) (S0 := S) (g := f2) (S := setT S (fun _ => none)) (Nat.le_refl _) ((hF2 0 (by omega)).trans hp) (fun j a b c d e g h => hF2 j e) hS2 (CUT_tr hK.2.1 (fun i a b => hF2 i (by omega))) (BSh_tr hK.2.2.1 (fun i a b => hF2 i (by omega))) (fun i t hi he => by cases he)
end CAC
