/-! the reference reads a text -/
def TP9 (σ : RS9) (T : BL) (p : Nat) : Prop := (RLs σ 8 T ∧ T.length ≤ 400 ∧ σ.1 10 = nI T.length) ∧ σ.1 11 = nI p ∧ p ≤ T.length
abbrev K11 : Nat → Prop := fun k => k = 11
abbrev K12 : Nat → Prop := fun k => k = 11 ∨ k = 12
theorem nB_id {T : BL} {p : Nat} : nB T (nB T p) = nB T p := by
  have h1 : nB T p ≤ nB T (nB T p) := nx_ge
  rcases Nat.lt_or_ge (nB T p) T.length with h | h
  · exact nx_hit h (nx_at h)
  · exact nx_end h
section RTX
variable {σ : RS9} {T : BL} {p : Nat}
theorem TX_up {σ' : RS9} {q : Nat} {R F : Nat → Prop} (h : TP9 σ T p) (hX : FRX R F σ σ') (hR : ¬ R 8) (hF : ¬ F 10) (h11 : σ'.1 11 = nI q) (hq : q ≤ T.length) : TP9 σ' T q := ⟨⟨RL_frx h.1.1 hX hR, h.1.2.1, (hX.2 10 hF).trans h.1.2.2⟩, h11, hq⟩
theorem r_here (h : TP9 σ T p) : PQ (mX9_here σ) (fun y => ∃ σ', y = (nI (nB T p), σ') ∧ TP9 σ' T (nB T p) ∧ FRX NO9 K11 σ σ') := by
  have h4 := h.1.2.1
  have key : ∀ (d i : Nat) (σ1 : RS9), p ≤ i → i ≤ T.length → (∀ z, p ≤ z → z < i → bNe 32 (T.getD z 0) = false) → TP9 σ1 T i → FRX NO9 K11 σ σ1 → PQ (mX9_here_l0 d σ1) (fun y => ∃ σ', y = (nI (nB T p), σ') ∧ TP9 σ' T (nB T p) ∧ FRX NO9 K11 σ σ') := by
    intro d
    induction d with
    | zero => intro i σ1 _ _ _ _ _; exact pq_none
    | succ d ih =>
      intro i σ1 h1 h2 h3 hT hX
      have fin : (i < T.length → bNe 32 (T.getD i 0) = true) → PQ (mX9_here_b38 σ1) (fun y => ∃ σ', y = (nI (nB T p), σ') ∧ TP9 σ' T (nB T p) ∧ FRX NO9 K11 σ σ') := fun hb => by
        have e : nB T p = i := nx_is h1 h2 h3 hb
        unfold mX9_here_b38
        rw [e]
        exact pq_ret ⟨σ1, by rw [hT.2.1], hT, hX⟩
      unfold mX9_here_l0
      rw [hT.2.1, hT.1.2.2]
      refine pq_le (nI_toInt (by omega)) (nI_toInt (by omega)) (fun q => fin (fun z => by omega)) (fun q => ?_)
      rw [rd_nI (by omega), hT.1.1 i (by omega), nI_1]
      refine pq_ck (pq_eq (fun q1 => ?_) (fun q1 => fin (fun _ => bNe_t q1)))
      have fr : FRX NO9 K11 σ1 (rSf σ1 11 (nI (i + 1))) := ⟨fun _ _ => rfl, fun k hk => sf_ne hk⟩
      refine ih (i + 1) _ (by omega) (by omega) (fun z z1 z2 => ?_) (TX_up hT fr (fun q => q) (fun q => by omega) sf_eq (by omega)) (frx_tr hX fr)
      by_cases e : z = i
      · rw [e]; exact bNe_f q1
      · exact h3 z z1 (by omega)
  unfold mX9_here
  exact key rFU p σ (Nat.le_refl _) h.2.2 (fun z z1 z2 => by omega) h frx_rfl
theorem r_wordEnd (h : TP9 σ T p) : PQ (mX9_wordEnd σ) (fun y => ∃ σ', y = (nI (wE T (nB T p)), σ') ∧ TP9 σ' T (nB T p) ∧ FRX NO9 K11 σ σ') := by
  have h4 := h.1.2.1
  unfold mX9_wordEnd
  refine pq_call (r_here h) (fun y hy => ?_)
  obtain ⟨σ1, rfl, hT, hX⟩ := hy
  have hb := hT.2.2
  have key : ∀ (d i : Nat), nB T p ≤ i → i ≤ T.length → (∀ z, nB T p ≤ z → z < i → bNl (T.getD z 0) = false) → PQ (mX9_wordEnd_l5 d (nI i) σ1) (fun y => ∃ σ', y = (nI (wE T (nB T p)), σ') ∧ TP9 σ' T (nB T p) ∧ FRX NO9 K11 σ σ') := by
    intro d
    induction d with
    | zero => intro i _ _ _; exact pq_none
    | succ d ih =>
      intro i h1 h2 h3
      have fin : (i < T.length → bNl (T.getD i 0) = true) → PQ (mX9_wordEnd_b35 (nI i) σ1) (fun y => ∃ σ', y = (nI (wE T (nB T p)), σ') ∧ TP9 σ' T (nB T p) ∧ FRX NO9 K11 σ σ') := fun hb => by
        have e : wE T (nB T p) = i := nx_is h1 h2 h3 hb
        unfold mX9_wordEnd_b35
        rw [e]
        exact pq_ret ⟨σ1, rfl, hT, hX⟩
      unfold mX9_wordEnd_l5
      rw [hT.1.2.2]
      refine pq_le (nI_toInt (by omega)) (nI_toInt (by omega)) (fun q => fin (fun z => by omega)) (fun q => ?_)
      rw [rd_nI (by omega), hT.1.1 i (by omega)]
      refine pq_ck (pq_isr r_isIn ?_)
      rw [kt_97, kt_122]
      refine if_01 (fun q1 => fin (fun _ => low_n (by have := of_decide_eq_false q1; omega))) (fun q1 => ?_)
      have q1 := of_decide_eq_true q1
      rw [nI_1]
      refine ih (i + 1) (by omega) (by omega) (fun z z1 z2 => ?_)
      by_cases e : z = i
      · rw [e]; exact low_t q1.1 q1.2
      · exact h3 z z1 (by omega)
  exact key rFU (nB T p) (Nat.le_refl _) hb (fun z z1 z2 => by omega)
theorem r_has {t : Nat} (ht : t < 15) (h : TP9 σ T p) (h12 : σ.1 12 = -1) : PQ (mX9_has t σ) (fun y => ∃ σ', y = (bI (decide (sl T (nB T p) (wE T (nB T p)) = wd9 t)), σ') ∧ TP9 σ' T (if sl T (nB T p) (wE T (nB T p)) = wd9 t then wE T (nB T p) else nB T p) ∧ σ'.1 12 = -1 ∧ FRX NO9 K11 σ σ') := by
  have h4 := h.1.2.1
  unfold mX9_has
  refine pq_call (r_wordEnd h) (fun y hy => ?_)
  obtain ⟨σ1, rfl, hT, hX⟩ := hy
  have h12' : σ1.1 12 = -1 := (hX.2 12 (fun q => by omega)).trans h12
  have hb := hT.2.2
  obtain ⟨w1, w2⟩ := wE_b hb
  generalize nB T p = b at hT hb w1 w2 ⊢
  generalize wE T b = e at w1 w2 ⊢
  have hlen := sl_len (L := T) (a := b) (b := e) w2
  have h8 := wd9_8 ht
  have no : sl T b e ≠ wd9 t → PQ (mX9_has_b26 σ1) (fun y => ∃ σ', y = (bI (decide (sl T b e = wd9 t)), σ') ∧ TP9 σ' T (if sl T b e = wd9 t then e else b) ∧ σ'.1 12 = -1 ∧ FRX NO9 K11 σ σ') := fun hn => by
    unfold mX9_has_b26
    rw [decide_eq_false hn, if_neg hn]
    exact pq_ck (pq_ret ⟨σ1, rfl, hT, h12', hX⟩)
  show PQ (if σ1.1 12 = -1 then (if nI e - σ1.1 11 = strL t then mX9_has_l30 rFU t (nI e) (0 : Int32) σ1 else mX9_has_b26 σ1) else mX9_has_b26 σ1) _
  rw [h12', hT.2.1, nI_sb w1 (by omega), wd9_l ht]
  refine pq_t rfl (pq_eqi (nI_toInt (by omega)) (nI_toInt (by omega)) (fun q => ?_) (fun q => no (fun z => q (by rw [← z, hlen]))))
  have key : ∀ (d i : Nat), i ≤ (wd9 t).length → (∀ z, z < i → (sl T b e).getD z 0 = (wd9 t).getD z 0) → PQ (mX9_has_l30 d t (nI e) (nI i) σ1) (fun y => ∃ σ', y = (bI (decide (sl T b e = wd9 t)), σ') ∧ TP9 σ' T (if sl T b e = wd9 t then e else b) ∧ σ'.1 12 = -1 ∧ FRX NO9 K11 σ σ') := by
    intro d
    induction d with
    | zero => intro i _ _; exact pq_none
    | succ d ih =>
      intro i hi hz
      unfold mX9_has_l30
      rw [wd9_l ht, hT.2.1]
      refine pq_le (nI_toInt (by omega)) (nI_toInt (by omega)) (fun q1 => ?_) (fun q1 => ?_)
      · have eq : sl T b e = wd9 t := bl_ext (by rw [hlen]; omega) (fun z z1 => hz z (by omega))
        rw [decide_eq_true eq, if_pos eq]
        have fr : FRX NO9 K11 σ1 (rSf σ1 11 (nI e)) := ⟨fun _ _ => rfl, fun k hk => sf_ne hk⟩
        exact pq_ck (pq_ret ⟨_, rfl, TX_up hT fr (fun q => q) (fun q => by omega) sf_eq w2, (sf_ne (by decide)).trans h12', frx_tr hX fr⟩)
      · have hi' : i < (wd9 t).length := by omega
        rw [nI_add, rd_nI (by omega), hT.1.1 _ (by omega), wd9_c ht hi', ← sl_gd (L := T) (a := b) (b := e) (by omega)]
        refine pq_ck (pq_ck (pq_eq (fun q2 => ?_) (fun q2 => ?_)))
        · rw [nI_1]
          refine ih (i + 1) (by omega) (fun z z1 => ?_)
          by_cases ez : z = i
          · rw [ez]; exact q2
          · exact hz z (by omega)
        · have := no (fun z => q2 (by rw [z]))
          unfold mX9_has_b26 at this
          exact this
  exact key rFU 0 (Nat.zero_le _) (fun z z1 => absurd z1 (Nat.not_lt_zero _))
theorem r_wrong {w : Nat} (h12 : σ.1 12 = -1) : PQ (mX9_wrong (nI w) σ) (fun y => y = (0, rSf σ 12 (nI w))) := by
  unfold mX9_wrong mX9_wrong_b13
  rw [h12]
  exact pq_t rfl (pq_ret rfl)
/-- a number is read, or it is wrong -/
def NU9 (σ : RS9) (T : BL) (p : Nat) (lo hi : Int) (y : Int32 × RS9) : Prop := FRX NO9 K12 σ y.2 ∧ ((nOk T p lo hi ∧ y.1 = nV T p ∧ y.2.1 12 = -1 ∧ TP9 y.2 T (nE T p)) ∨ (¬ nOk T p lo hi ∧ y.2.1 12 = nI (nB T p)))
theorem r_number {lo hi : Int32} {l u : Int} (h : TP9 σ T p) (h12 : σ.1 12 = -1) (hlo : lo.toInt = l) (hhi : hi.toInt = u) (hb : 0 ≤ l ∧ l ≤ 40 ∧ u ≤ 40) : PQ (mX9_number lo hi σ) (NU9 σ T p l u) := by
  have h4 := h.1.2.1
  unfold mX9_number
  rw [h12]
  refine pq_t rfl (pq_call (r_here h) (fun y hy => ?_))
  obtain ⟨σ1, rfl, hT, hX⟩ := hy
  have h12' : σ1.1 12 = -1 := (hX.2 12 (fun q => by omega)).trans h12
  have hbT := hT.2.2
  have up : ∀ {s1 s2 : RS9}, FRX NO9 K11 s1 s2 → FRX NO9 K12 s1 s2 := fun hq => frx_mono hq (fun k hk => hk) (fun k hk => Or.inl hk)
  -- behind the digits
  have b91 : ∀ (j : Nat) (v : Int32) (σ2 : RS9), TP9 σ2 T (nB T p + j) → σ2.1 12 = -1 → FRX NO9 K12 σ σ2 → ((j ≤ 2 ∧ nE T p = nB T p + j ∧ v.toInt = nVi T p) ∨ (j = 3 ∧ nB T p + 3 ≤ nE T p)) → PQ (mX9_number_b91 lo hi (nI (nB T p)) v σ2) (NU9 σ T p l u) := fun j v σ2 hT2 h122 hX2 hj => by
    have bad : ¬ nOk T p l u → PQ (mX9_number_b121 (nI (nB T p)) v σ2) (NU9 σ T p l u) := fun hn => by
      unfold mX9_number_b121 mX9_number_b126
      refine pq_isr (r_wrong h122) (pq_ret ⟨frx_tr hX2 ⟨fun _ _ => rfl, fun k hk => sf_ne (fun q => hk (Or.inr q))⟩, Or.inr ⟨hn, sf_eq⟩⟩)
    unfold mX9_number_b91
    have hbj := hT2.2.2
    rw [hT2.2.1]
    rcases hj with ⟨j2, jE, jv⟩ | ⟨j3, jE⟩
    · refine pq_eqi (nI_toInt (by omega)) (nI_toInt (by omega)) (fun q => bad (fun z => by have := z.1; omega)) (fun q => ?_)
      rw [nI_sb (by omega) (by omega)]
      refine pq_lt (show (2 : Int32).toInt = 2 by decide) (nI_toInt (by omega)) (fun q1 => bad (fun z => by have := z.2.1; omega)) (fun q1 => ?_)
      refine pq_lt jv hlo (fun q2 => bad (fun z => by have := z.2.2.1; omega)) (fun q2 => pq_le jv hhi (fun q3 => ?_) (fun q3 => bad (fun z => by have := z.2.2.2; omega)))
      unfold mX9_number_b126
      refine pq_ret ⟨hX2, Or.inl ⟨⟨by omega, by omega, q2, q3⟩, Int32.toInt_inj.mp (jv.trans nV_t.symm), h122, by rw [jE]; exact hT2⟩⟩
    · refine pq_eqi (nI_toInt (by omega)) (nI_toInt (by omega)) (fun q => by omega) (fun q => ?_)
      rw [nI_sb (by omega) (by omega)]
      exact pq_lt (show (2 : Int32).toInt = 2 by decide) (nI_toInt (by omega)) (fun q1 => bad (fun z => by have := z.2.1; omega)) (fun q1 => by omega)
  have key : ∀ (d j : Nat) (v : Int32) (σ2 : RS9), j ≤ 3 → TP9 σ2 T (nB T p + j) → σ2.1 12 = -1 → FRX NO9 K12 σ σ2 → (∀ z, nB T p ≤ z → z < nB T p + j → bNd (T.getD z 0) = false) → (j ≤ 2 → v.toInt = nmv T (nB T p) j) → PQ (mX9_number_l18 d lo hi (nI (nB T p)) v σ2) (NU9 σ T p l u) := by
    intro d
    induction d with
    | zero => intro j v σ2 _ _ _ _ _ _; exact pq_none
    | succ d ih =>
      intro j v σ2 hj hT2 h122 hX2 hz hv
      have hbj := hT2.2.2
      have out : (nB T p + j < T.length → bNd (T.getD (nB T p + j) 0) = true) → PQ (mX9_number_b91 lo hi (nI (nB T p)) v σ2) (NU9 σ T p l u) := fun hs => by
        have eE : nE T p = nB T p + j := nx_is (by omega) hbj hz hs
        rcases Nat.lt_or_ge j 3 with q | q
        · refine b91 j v σ2 hT2 h122 hX2 (Or.inl ⟨by omega, eE, ?_⟩)
          rw [hv (by omega)]
          unfold nVi
          rw [eE, Nat.add_sub_cancel_left]
        · exact b91 j v σ2 hT2 h122 hX2 (Or.inr ⟨by omega, by omega⟩)
      unfold mX9_number_l18
      rw [hT2.2.1, hT2.1.2.2]
      refine pq_le (nI_toInt (by omega)) (nI_toInt (by omega)) (fun q => out (fun z => by omega)) (fun q => ?_)
      have hlt : nB T p + j < T.length := by omega
      rw [rd_nI (by omega), hT2.1.1 _ hlt]
      refine pq_ck (pq_isr r_isIn ?_)
      rw [show (48 : Int32).toInt = 48 from kt_48, kt_57]
      refine if_01 (fun q1 => out (fun _ => dig_n (by have := of_decide_eq_false q1; omega))) (fun q1 => ?_)
      have q1 := of_decide_eq_true q1
      show PQ (if (2 : Int32) < σ2.1 11 - nI (nB T p) then mX9_number_b91 lo hi (nI (nB T p)) v σ2 else rCk _ (mX9_number_l18 d lo hi (nI (nB T p)) ((((10 : Int32) * v) + (rGa σ2 8 (σ2.1 11))) - (48 : Int32)) (rSf σ2 11 (σ2.1 11 + (1 : Int32))))) _
      rw [hT2.2.1, nI_sb (by omega) (by omega), rd_nI (by omega), hT2.1.1 _ hlt, nI_1]
      have hdig : bNd (T.getD (nB T p + j) 0) = false := dig_t q1.1 q1.2
      refine pq_lt (show (2 : Int32).toInt = 2 by decide) (nI_toInt (by omega)) (fun q2 => ?_) (fun q2 => pq_ck ?_)
      · have e3 : j = 3 := by omega
        subst e3
        refine b91 3 v σ2 hT2 h122 hX2 (Or.inr ⟨rfl, ?_⟩)
        have : nE T p = nx bNd T (nB T p + 3) T.length := nx_skip (by omega) hbj hz
        rw [this]; exact nx_ge
      · have fr : FRX NO9 K11 σ2 (rSf σ2 11 (nI (nB T p + j + 1))) := ⟨fun _ _ => rfl, fun k hk => sf_ne hk⟩
        refine ih (j + 1) _ _ (by omega) (TX_up hT2 fr (fun q => q) (fun q => by omega) sf_eq (by omega)) ((sf_ne (by decide)).trans h122) (frx_tr hX2 (up fr)) (fun z z1 z2 => ?_) (fun j2 => ?_)
        · by_cases e : z = nB T p + j
          · rw [e]; exact hdig
          · exact hz z z1 (by omega)
        · have hvv := hv (by omega)
          have hvb := nmv_b (T := T) (b := nB T p) (k := j) hz
          have t10 : ((10 : Int32) * v).toInt = 10 * nmv T (nB T p) j := i_mul (show (10 : Int32).toInt = 10 by decide) hvv (by omega)
          have tA : (((10 : Int32) * v) + T.getD (nB T p + j) 0).toInt = 10 * nmv T (nB T p) j + (T.getD (nB T p + j) 0).toInt := i_add t10 rfl (by omega)
          have tB : ((((10 : Int32) * v) + T.getD (nB T p + j) 0) - (48 : Int32)).toInt = 10 * nmv T (nB T p) j + (T.getD (nB T p + j) 0).toInt - 48 := i_sub tA kt_48 (by omega)
          rw [tB]
          rcases (by omega : j = 0 ∨ j = 1) with e | e
          · subst e
            show 10 * nmv T (nB T p) 0 + (T.getD (nB T p + 0) 0).toInt - 48 = nmv T (nB T p) 1
            have e1 : nmv T (nB T p) 1 = dv T (nB T p) := rfl
            have e0 : nmv T (nB T p) 0 = 0 := rfl
            rw [e1, e0]
            unfold dv
            rw [Nat.add_zero]; omega
          · subst e
            have e2 : nmv T (nB T p) 2 = dv T (nB T p) * 10 + dv T (nB T p + 1) := rfl
            have e1 : nmv T (nB T p) 1 = dv T (nB T p) := rfl
            show 10 * nmv T (nB T p) 1 + (T.getD (nB T p + 1) 0).toInt - 48 = nmv T (nB T p) 2
            rw [e1, e2]
            unfold dv
            omega
  exact key rFU 0 0 σ1 (by omega) hT h12' (up hX) (fun z z1 z2 => by omega) (fun _ => rfl)
end RTX
