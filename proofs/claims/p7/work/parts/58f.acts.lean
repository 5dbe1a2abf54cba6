/-! acts of a text: the whole -/
theorem nB_le {T : BL} {p : Nat} (h : p ≤ T.length) : nB T p ≤ T.length := nx_le h
theorem rd1_w {T : BL} {e w : Nat} {a : Int32} {lo hi : Int} (he : e ≤ T.length) (h : rd1 T e a lo hi = .inl w) : w ≤ T.length := by
  unfold rd1 at h
  split at h
  · cases h
  · cases h; exact nB_le he
theorem rd2_w {T : BL} {e w : Nat} (he : e ≤ T.length) (h : rd2 T e = .inl w) : w ≤ T.length := by
  unfold rd2 at h
  split at h
  · split at h
    · cases h
    · cases h; exact nB_le (nE_b he).2.2
  · cases h; exact nB_le he
theorem rdW_w {T : BL} {e w : Nat} (he : e ≤ T.length) (h : rdW T e = .inl w) : w ≤ T.length := by
  unfold rdW at h
  split at h
  · cases h
  · cases h; exact nB_le he
theorem ite_w {c : Prop} {d : Decidable c} {A B : RA} {w N : Nat} (h1 : A = .inl w → w ≤ N) (h2 : B = .inl w → w ≤ N) (h : @ite _ c d A B = .inl w) : w ≤ N := by
  by_cases q : c
  · rw [if_pos q] at h; exact h1 h
  · rw [if_neg q] at h; exact h2 h
theorem rdA_w {T : BL} {p w : Nat} (hp : p ≤ T.length) (h : rdA T p = .inl w) : w ≤ T.length := by
  have he := (wE_b hp).2
  exact ite_w (fun h => by cases h; exact hp) (ite_w (rd1_w he) (ite_w (rd1_w he) (ite_w (rd1_w he) (ite_w (rdW_w he) (ite_w (rd1_w he) (ite_w (rd1_w he) (ite_w (rd2_w he) (fun h => by cases h)))))))) h
section ALQ
variable {n0 : Nat} {f0 : AH} {T : BL} {hi pc wn : Int32} {S0 : SST}
theorem f_stopn {d : Nat} {f : AH} {n : Nat} {v1 v3 : Int32} {ag pc' wn' fp p a x y nm : Int32} {wd : Option Nat} {Q : (Int32 ⊕ String) × HpN → Prop} (hp : f 0 = some (.inr (8, pfL hi ag pc' wn' fp))) (hd : f 178 = some (.inr (4, rdV 0 p a x y wd nm))) (h : PQ (mX8_acts_b150 0 v1 (-1) f n) Q) : PQ (mX8_acts_l28 d 0 v1 (-1) v3 f n) Q := by
  cases d with
  | zero => exact pq_none
  | succ d =>
    unfold mX8_acts_l28
    refine pq_lt rfl rfl (fun _ => h) (fun _ => ?_)
    exact pq_gR hp rfl (pq_sb (pq_gI hd rfl (pq_t rfl h)))
theorem f_acts_l (h00 : 224 ≤ n0) (hT : T.length ≤ 400) (hV0 : SV S0) : ∀ (d t p : Nat) (f : AH) (n : Nat) (S : SST) (ag fp a0 x0 y0 nm : Int32) (wd : Option Nat), t ≤ 14 → p ≤ T.length → n0 ≤ n → FRb n0 f0 f → f 0 = some (.inr (8, pfL hi ag pc wn fp)) → (0 < t → ag = 0) → (t = 0 → ∀ g : Int32, (∃ pc' wn' fp', f0 0 = some (.inr (8, pfL hi g pc' wn' fp'))) → ag = g) → isRw f 1 2 400 T → f 178 = some (.inr (4, rdV 1 (nI p) a0 x0 y0 wd nm)) → STT f n 8 S0 → KO f n S → SV S → PQ (mX8_acts_l28 d 0 (nI t) (-1) (nI t) f n) (AFN n0 f0 hi pc wn S0 (adk t (aL T (14 - t) p S))) := by
  intro d
  induction d with
  | zero => intro t p f n S ag fp a0 x0 y0 nm wd _ _ _ _ _ _ _ _ _ _ _ _; exact pq_none
  | succ d ih =>
    intro t p f n S ag fp a0 x0 y0 nm wd ht hp hn hFr h0 hag hag0 hr hd h8 hK hV
    have hn24 : 224 ≤ n := by omega
    unfold mX8_acts_l28
    refine pq_lt kt_14 (nI_toInt (by omega)) (fun q => by omega) (fun _ => ?_)
    refine pq_gR h0 rfl (pq_sb (pq_gI hd rfl (pq_f (by decide) (pq_t rfl (pq_gR h0 rfl (pq_sb (pq_gI hd rfl ?_)))))))
    have nw : ∀ w : Nat, w ≤ 400 → ¬ nI w = -1 := fun w hw q => by
      have q := congrArg Int32.toInt q
      rw [nI_toInt (by omega), kt_m1] at q
      omega
    refine pq_le kt_14 (nI_toInt (by omega)) (fun q => ?_) (fun q => ?_)
    · have e14 : t = 14 := by omega
      subst e14
      refine pq_f (nw p (by omega)) ?_
      exact f_stopw h0 ⟨_, _, _, _, _, _, _, hd⟩ (by omega) (f_b150w hn hn24 hFr h0 hr ⟨_, _, _, _, _, _, _, hd⟩ h8 hV0 (KO_shp hK) (by omega) (z := adk 14 (aL T (14 - 14) p S)) rfl rfl)
    · refine pq_gR h0 rfl (pq_sb (pq_ck (pq_call (f_readAct (f := f) (n := n) hn24 hr hd hp) (fun y hy => ?_))))
      obtain ⟨f1, n1, hn1, hF1, hm⟩ := hy
      have eA : aL T (14 - t) p S = aSt T p S (aL T (13 - t)) (rdA T p) := by rw [show 14 - t = (13 - t) + 1 by omega]; rfl
      have h01 : f1 0 = some (.inr (8, pfL hi ag pc wn fp)) := (hF1 0 (by omega) (by omega)).trans h0
      have hFr1 : FRb n0 f0 f1 := frb_tr hFr (fun j a b c d e g h i k => hF1 j a h) hn
      have hr1 : isRw f1 1 2 400 T := rw_tr hr (hF1 _ (by omega) (by omega)) (hF1 _ (by omega) (by omega))
      have im1 : ∀ j, IMM n j → f1 j = f j := fun j hj => hF1 j (IMM_lt hj hn24) (by have := IMM_1 hj; omega)
      have h81 : STT f1 n1 8 S0 := STT_tr h8 (hF1 _ (by omega) (by omega)) (hF1 _ (by omega) (by omega)) (hF1 _ (by omega) (by omega)) im1 hn1
      have hK1 : KO f1 n1 S := KO_tr hK (fun j hj => hF1 j (by rcases hj with q | q | q | q <;> first | omega | exact IMM_lt q hn24) (by rcases hj with q | q | q | q <;> first | omega | (have := IMM_1 q; omega))) hn1
      cases hA : rdA T p with
      | inl w =>
        rw [hA] at hm eA
        obtain ⟨rfl, hd1⟩ := hm
        have hw := rdA_w hp hA
        refine pq_f (nw w (by omega)) ?_
        refine f_stopw h01 hd1 (by omega) (f_b150w (by omega) (by omega) hFr1 h01 hr1 hd1 h81 hV0 (KO_shp hK1) (by omega) (z := adk t (aL T (14 - t) p S)) ?_ ?_)
        · rw [eA]; rfl
        · rw [eA]; rfl
      | inr z =>
        rw [hA] at hm eA
        obtain ⟨rfl, x1, y1, wd1, nm1, hd1, hx1, hy1, hw1⟩ := hm
        obtain ⟨zr, z0, z1, z5, zp⟩ := rdA_ok hp hA
        refine pq_t rfl ?_
        refine pq_gR h01 rfl (pq_sb (pq_gI hd1 rfl (pq_gR h01 rfl (pq_sb (pq_gI hd1 rfl (pq_gR h01 rfl (pq_sb (pq_gI hd1 rfl (pq_gR h01 rfl (pq_sb (pq_gRw hd1 rfl (pq_ck ?_))))))))))))
        have zlt : ∀ c : Nat, c < 12 → ¬ z.1 = nI c → True := fun _ _ _ => trivial
        clear zlt
        have hARG : ARG f1 n1 z.1 x1 wd1 z.2.2.2.1 := by
          refine ⟨fun q => ?_, fun q => ?_, fun q => ?_, fun q => hw1 q, fun q => ?_⟩
          · rw [hx1 (Or.inl q)]; exact i32_03 (z0 q)
          · rw [hx1 (Or.inr (Or.inl q))]; exact Or.inr (i32_03 (z1 q))
          · rw [hx1 (Or.inr (Or.inr (Or.inl q)))]; exact z5 q
          · exfalso
            obtain ⟨k, hk, e⟩ := zr
            have h : k = 0 ∨ k = 1 ∨ k = 2 ∨ k = 3 ∨ k = 4 ∨ k = 5 ∨ k = 6 ∨ k = 7 ∨ k = 8 ∨ k = 9 ∨ k = 10 ∨ k = 11 := by omega
            obtain ⟨g0, g1, g2, g3, g4, g5, g6, g7, g8, g9, g10, g11⟩ := q
            rcases h with rfl | rfl | rfl | rfl | rfl | rfl | rfl | rfl | rfl | rfl | rfl | rfl
            · exact g0 e
            · exact g1 e
            · exact g2 e
            · exact g3 e
            · exact g4 e
            · exact g5 e
            · exact g6 e
            · exact g7 e
            · exact g8 e
            · exact g9 e
            · exact g10 e
            · exact g11 e
        refine pq_call (f_doAct (f := f1) (n := n1) (S := S) (y := y1) (w := z.2.2.2.1) (by omega) h01 hK1 hV hARG) (fun y hy => ?_)
        rw [dA_ir zr hx1 hy1] at hy
        obtain ⟨f2, n2, rfl, hn2, h02, hFr2, hS2, hK2⟩ := hy
        have hFr02 : FRb n0 f0 f2 := frb_tr hFr1 (frb_a hFr2) (by omega)
        have hr2 : isRw f2 1 2 400 T := rw_tr hr1 (hFr2 _ (by omega) (by omega) (by omega) (by omega) (by omega) (by omega) (by omega)) (hFr2 _ (by omega) (by omega) (by omega) (by omega) (by omega) (by omega) (by omega))
        have hd2 : f2 178 = some (.inr (4, rdV 1 (nI z.2.2.2.2) z.1 x1 y1 wd1 nm1)) := (hFr2 _ (by omega) (by omega) (by omega) (by omega) (by omega) (by omega) (by omega)).trans hd1
        have h82 : STT f2 n2 8 S0 := STT_frb h81 sid8 (by omega) (frb_a hFr2) (by omega) hn2
        by_cases hc : (dA S z.1 z.2.1 z.2.2.1 z.2.2.2.1).1 = 0
        · have hK2' := hK2 (by rw [hc]; decide)
          have hV2 : SV (dA S z.1 z.2.1 z.2.2.1 z.2.2.2.1).2 := dA_SV hK.1.2.2.2.2 hV
          refine pq_t hc (pq_gR h02 rfl (pq_sb (pq_ck (pq_call (f_behind (f := f2) (n := n2) hr2 hd2 zp) (fun y hy => ?_)))))
          obtain ⟨f3, hF3, hcase⟩ := hy
          have h03 : f3 0 = some (.inr (8, pfL hi 0 pc wn fp)) := (hF3 0 (by omega)).trans h02
          have hFr3 : FRb n0 f0 f3 := frb_tr hFr02 (n' := n2) (fun j a b c d e g h i k => hF3 j h) (by omega)
          have hr3 : isRw f3 1 2 400 T := rw_tr hr2 (hF3 _ (by omega)) (hF3 _ (by omega))
          have im3 : ∀ j, IMM n2 j → f3 j = f2 j := fun j hj => hF3 j (by have := IMM_1 hj; omega)
          have h83 : STT f3 n2 8 S0 := STT_tr h82 (hF3 _ (by omega)) (hF3 _ (by omega)) (hF3 _ (by omega)) im3 (Nat.le_refl _)
          have hK3 : KO f3 n2 (dA S z.1 z.2.1 z.2.2.1 z.2.2.2.1).2 := KO_tr hK2' (fun j hj => hF3 j (by rcases hj with q | q | q | q <;> first | omega | (have := IMM_1 q; omega))) (Nat.le_refl _)
          have eA2 : aL T (14 - t) p S = if nB T z.2.2.2.2 < T.length then (if T.getD (nB T z.2.2.2.2) 0 = 59 then (fun q : AR => (q.1, q.2.1, q.2.2.1 + 1, q.2.2.2)) (aL T (13 - t) (nB T (nB T z.2.2.2.2 + 1)) (dA S z.1 z.2.1 z.2.2.1 z.2.2.2.1).2) else (some (nB T z.2.2.2.2), 0, 0, S)) else (none, 0, 1, (dA S z.1 z.2.1 z.2.2.1 z.2.2.2.1).2) := eA.trans (if_pos hc)
          rcases hcase with ⟨c1, rfl, hd3⟩ | ⟨c1, c2, rfl, hd3⟩ | ⟨c1, c2, rfl, hd3⟩
          · show PQ (mX8_acts_l28 d 0 (nI t + 1) (-1) (nI t + 1) f3 n2) _
            rw [nI_1]
            rw [if_neg (by omega)] at eA2
            refine f_stopn h03 hd3 (f_b150n (by omega) hFr3 h03 hr3 ⟨_, _, _, _, _, _, _, hd3⟩ hK3 hV2 (k := t + 1) (by omega) (fun q => by omega) (fun _ => rfl) (fun q => by omega) (z := adk t (aL T (14 - t) p S)) ?_ ?_ ?_)
            · rw [eA2]; rfl
            · rw [eA2]; show 1 + t = t + 1; omega
            · rw [eA2]; rfl
          · show PQ (mX8_acts_l28 d 0 (nI t + 1) (-1) (nI t + 1) f3 n2) _
            rw [nI_1]
            rw [if_pos c1, if_pos c2] at eA2
            have e9 : adk t (aL T (14 - t) p S) = adk (t + 1) (aL T (14 - (t + 1)) (nB T (nB T z.2.2.2.2 + 1)) (dA S z.1 z.2.1 z.2.2.1 z.2.2.2.1).2) := by
              rw [eA2, show 14 - (t + 1) = 13 - t by omega]
              unfold adk
              dsimp only
              rw [Nat.add_assoc, Nat.add_comm 1 t]
            rw [e9]
            exact ih (t + 1) _ f3 n2 _ 0 fp _ _ _ _ _ (by omega) (nB_le (by omega)) (by omega) hFr3 h03 (fun _ => rfl) (fun q => by omega) hr3 hd3 h83 hK3 hV2
          · show PQ (mX8_acts_l28 d 0 (nI t + 1) (nI (nB T z.2.2.2.2)) (nI t + 1) f3 n2) _
            rw [if_pos c1, if_neg c2] at eA2
            refine f_stopw h03 hd3 (by omega) (f_b150w (by omega) (by omega) hFr3 h03 hr3 hd3 h83 hV0 (KO_shp hK3) (by omega) (z := adk t (aL T (14 - t) p S)) ?_ ?_)
            · rw [eA2]; rfl
            · rw [eA2]; rfl
        · have eA2 : aL T (14 - t) p S = (some p, (dA S z.1 z.2.1 z.2.2.1 z.2.2.2.1).1, 0, S) := eA.trans (if_neg hc)
          refine pq_f hc (pq_pO h02 rfl ?_)
          have h03 : va_up f2 0 (some (.inr (8, (pfL hi 0 pc wn fp).set 12 (.int (dA S z.1 z.2.1 z.2.2.1 z.2.2.2.1).1)))) 0 = some (.inr (8, pfL hi 0 pc (dA S z.1 z.2.1 z.2.2.1 z.2.2.2.1).1 fp)) := u_eq
          have hF3 : ∀ j, j ≠ 0 → va_up f2 0 (some (.inr (8, (pfL hi 0 pc wn fp).set 12 (.int (dA S z.1 z.2.1 z.2.2.1 z.2.2.2.1).1)))) j = f2 j := fun j hj => u_ne hj
          show PQ (mX8_acts_l28 d 0 (nI t) (nI p) (nI t + 1) (va_up f2 0 (some (.inr (8, (pfL hi 0 pc wn fp).set 12 (.int (dA S z.1 z.2.1 z.2.2.1 z.2.2.2.1).1))))) n2) _
          generalize va_up f2 0 (some (.inr (8, (pfL hi 0 pc wn fp).set 12 (.int (dA S z.1 z.2.1 z.2.2.1 z.2.2.2.1).1)))) = f3 at h03 hF3 ⊢
          have hFr3 : FRb n0 f0 f3 := frb_tr hFr02 (n' := n2) (fun j a b c d e g h i k => hF3 j b) (by omega)
          have hr3 : isRw f3 1 2 400 T := rw_tr hr2 (hF3 _ (by omega)) (hF3 _ (by omega))
          have im3 : ∀ j, IMM n2 j → f3 j = f2 j := fun j hj => hF3 j (IMM_1 hj).1
          have h83 : STT f3 n2 8 S0 := STT_tr h82 (hF3 _ (by omega)) (hF3 _ (by omega)) (hF3 _ (by omega)) im3 (Nat.le_refl _)
          have hH2 : SHP f2 := by
            by_cases h3 : (dA S z.1 z.2.1 z.2.2.1 z.2.2.2.1).1 = 3
            · exact hS2 h3
            · exact KO_shp (hK2 h3)
          have hH3 : SHP f3 := ⟨SSh_tr hH2.1 (hF3 _ (by omega)) (hF3 _ (by omega)) (hF3 _ (by omega)), CSh_tr hH2.2.1 (fun i a b => hF3 i (by omega)), BSh_tr hH2.2.2 (fun i a b => hF3 i (by omega))⟩
          have hd3 : rdAny (f3 178) := by rw [hF3 178 (by omega)]; exact ⟨_, _, _, _, _, _, _, hd2⟩
          refine f_stopw h03 hd3 (by omega) (f_b150w (by omega) (by omega) hFr3 h03 hr3 hd3 h83 hV0 hH3 (by omega) (z := adk t (aL T (14 - t) p S)) ?_ ?_)
          · rw [eA2]; rfl
          · rw [eA2]; exact (if_neg hc).symm
end ALQ
