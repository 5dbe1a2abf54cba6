/-! the reference locks -/
section RLK
variable {σ : RS9} {S : SST}
theorem lk_app {X : List BL} {w : BL} {l : Nat} (h : l < X.length) : (X ++ [w]).getD l [] = X.getD l [] := by
  rw [List.getD_eq_getElem?_getD, List.getD_eq_getElem?_getD, List.getElem?_append_left h]
theorem lk_new {X : List BL} {w : BL} : (X ++ [w]).getD X.length [] = w := by
  rw [List.getD_eq_getElem?_getD, List.getElem?_append_right (Nat.le_refl _), Nat.sub_self]; rfl
theorem MC_lk {μ μ' : Nat → Int32} {cf : CFG} {w : BL} (h : MC μ cf) (hl : cf.2.2.2.2.length < 4) (hw : w.length ≤ 8) (h5 : μ' 5 = nI (cf.2.2.2.2.length + 1)) (hn : μ' (6 + 9 * cf.2.2.2.2.length) = nI w.length) (hk : ∀ k, k < w.length → μ' (6 + 9 * cf.2.2.2.2.length + 1 + k) = w.getD k 0) (e : ∀ i, i ≠ 5 → i < 6 + 9 * cf.2.2.2.2.length → μ' i = μ i) : MC μ' (cf.1, cf.2.1, cf.2.2.1, cf.2.2.2.1, cf.2.2.2.2 ++ [w]) := by
  obtain ⟨h1, h2, h3, h4, -, h6, h7⟩ := h
  have hlen : (cf.2.2.2.2 ++ [w]).length = cf.2.2.2.2.length + 1 := by rw [List.length_append]; rfl
  refine ⟨(e 1 (by omega) (by omega)).trans h1, (e 2 (by omega) (by omega)).trans h2, (e 3 (by omega) (by omega)).trans h3, (e 4 (by omega) (by omega)).trans h4, by rw [hlen]; exact h5, fun l hl2 => ?_, h7.1, h7.2.1, h7.2.2.1, h7.2.2.2.1, by rw [hlen]; show cf.2.2.2.2.length + 1 ≤ 4; omega, fun u hu => ?_⟩
  · have hl3 : l < cf.2.2.2.2.length + 1 := by rw [← hlen]; exact hl2
    show μ' (6 + 9 * l) = nI ((cf.2.2.2.2 ++ [w]).getD l []).length ∧ ∀ k, k < ((cf.2.2.2.2 ++ [w]).getD l []).length → μ' (6 + 9 * l + 1 + k) = ((cf.2.2.2.2 ++ [w]).getD l []).getD k 0
    by_cases el : l = cf.2.2.2.2.length
    · subst el
      rw [lk_new]
      exact ⟨hn, hk⟩
    · have hl4 : l < cf.2.2.2.2.length := by omega
      have h8 := cf_lk h7 hl4
      rw [lk_app hl4]
      exact ⟨(e _ (by omega) (by omega)).trans (h6 l hl4).1, fun k hk2 => (e _ (by omega) (by omega)).trans ((h6 l hl4).2 k hk2)⟩
  · rcases List.mem_append.mp hu with q | q
    · exact h7.2.2.2.2.2 u q
    · rw [List.mem_singleton.mp q]; exact hw
theorem nI_9 {l : Nat} : (6 : Int32) + (9 : Int32) * nI l = nI (6 + 9 * l) := by
  rw [show (9 : Int32) * nI l = nI (9 * l) from nI_mulc 9 l]; exact nI_add 6 (9 * l)
theorem r_lock0 {a : Nat} {T w : BL} (h : RM9 σ S) (h8 : RLs σ 8 T) (hT : T.length ≤ 400) (haw : a + w.length ≤ T.length) (hw : ∀ k, k < w.length → T.getD (a + k) 0 = w.getD k 0) (hw8 : w.length ≤ 8) : PQ (mX9_lock0 (nI a) (nI w.length) σ) (DOA σ (loA S w)) := by
  have hM := h.1.2.1
  obtain ⟨m1, m2, m3, m4, m5, m6, m7⟩ := id hM
  have hl4 := m7.2.2.2.2.1
  have e5 : rGa σ 1 (5 : Int32) = nI S.2.1.2.2.2.2.length := m5
  unfold mX9_lock0
  rw [e5]
  refine pq_ck (pq_eqi (nI_toInt (by omega)) kt_4 (fun q => ?_) (fun q => ?_))
  · have el : loA S w = (6, S) := by
      have e6 : lkC S.2.1.2.2.2.2 w = 6 := if_pos (by omega)
      unfold loA
      rw [e6, if_neg (by decide)]
    rw [el]
    exact pq_ret (bad_a (by decide) frx_rfl)
  have hlt : S.2.1.2.2.2.2.length < 4 := by omega
  have key : ∀ (d t : Nat), t ≤ S.2.1.2.2.2.2.length → (∀ l, l < t → S.2.1.2.2.2.2.getD l [] ≠ w) → PQ (mX9_lock0_l15 d (nI a) (nI w.length) (nI t) σ) (DOA σ (loA S w)) := by
    intro d
    induction d with
    | zero => intro t _ _; exact pq_none
    | succ d ih =>
      intro t ht hno
      unfold mX9_lock0_l15
      rw [e5]
      refine pq_ck (pq_le (nI_toInt (by omega)) (nI_toInt (by omega)) (fun q1 => ?_) (fun q1 => ?_))
      · -- none such: it is put behind
        have et : t = S.2.1.2.2.2.2.length := by omega
        have hany : S.2.1.2.2.2.2.any (fun x => decide (x = w)) ≠ true := fun hc => by
          obtain ⟨x, hx1, hx2⟩ := List.any_eq_true.mp hc
          obtain ⟨l, hl, hl2⟩ := List.mem_iff_getElem.mp hx1
          refine hno l (by omega) ?_
          rw [List.getD_eq_getElem?_getD, List.getElem?_eq_getElem hl]
          exact hl2.trans (of_decide_eq_true hx2)
        have el : loA S w = (0, setC S (S.2.1.1, S.2.1.2.1, S.2.1.2.2.1, S.2.1.2.2.2.1, S.2.1.2.2.2.2 ++ [w])) := by
          have e0 : lkC S.2.1.2.2.2.2 w = 0 := (if_neg (by omega)).trans (if_neg hany)
          unfold loA
          rw [e0, if_pos rfl]
        rw [el, nI_9]
        have k141 : ∀ (d2 i : Nat) (σ1 : RS9), i ≤ w.length → FRX (fun k => k = 1) NF9 σ σ1 → (∀ z, (z < 6 + 9 * S.2.1.2.2.2.2.length ∨ 42 ≤ z) → σ1.2 1 z = σ.2 1 z) → σ1.2 1 (6 + 9 * S.2.1.2.2.2.2.length) = nI w.length → (∀ k, k < i → σ1.2 1 (6 + 9 * S.2.1.2.2.2.2.length + 1 + k) = w.getD k 0) → PQ (mX9_lock0_l141 d2 (nI a) (nI w.length) (nI (6 + 9 * S.2.1.2.2.2.2.length)) (nI i) σ1) (DOA σ (0, setC S (S.2.1.1, S.2.1.2.1, S.2.1.2.2.1, S.2.1.2.2.2.1, S.2.1.2.2.2.2 ++ [w]))) := by
          intro d2
          induction d2 with
          | zero => intro i σ1 _ _ _ _ _; exact pq_none
          | succ d2 ih2 =>
            intro i σ1 hi hX g1 g2 g3
            unfold mX9_lock0_l141
            refine pq_le (nI_toInt (by omega)) (nI_toInt (by omega)) (fun q2 => ?_) (fun q2 => ?_)
            · have e : i = w.length := by omega
              subst e
              have e5' : rGa σ1 1 (5 : Int32) = nI S.2.1.2.2.2.2.length := (g1 5 (by omega)).trans m5
              rw [e5', nI_1]
              have off : ∀ z, z ≠ 5 → (rSa σ1 1 (5 : Int32) (nI (S.2.1.2.2.2.2.length + 1))).2 1 z = σ1.2 1 z := fun z hz => by rw [show (5 : Int32) = nI 5 from rfl, up_nI (by omega), if_neg hz]
              refine pq_ck (pq_ck (r_setAnew h (frx_tr hX ⟨fun k hk => sa_ne hk, fun k hk => rfl⟩) (fun z hz => (off z (by omega)).trans (g1 z (by omega))) (MC_lk hM hlt hw8 ?_ ((off _ (by omega)).trans g2) (fun k hk => (off _ (by omega)).trans (g3 k hk)) (fun z z1 z2 => (off z z1).trans (g1 z (Or.inl z2))))))
              rw [show (5 : Int32) = nI 5 from rfl, up_nI (by omega), if_pos rfl]
            · rw [nI_add, nI_1, nI_add, rd_nI (by omega), hX.1 8 (fun q => by omega), h8 _ (by omega), hw i (by omega), nI_1]
              refine pq_ck (pq_ck (ih2 (i + 1) _ (by omega) (frx_tr hX ⟨fun k hk => sa_ne hk, fun k hk => rfl⟩) (fun z hz => ?_) ?_ (fun k hk => ?_)))
              · rw [up_nI (by omega), if_neg (by omega)]; exact g1 z hz
              · rw [up_nI (by omega), if_neg (by omega)]; exact g2
              · rw [up_nI (by omega)]
                by_cases e : k = i
                · rw [if_pos (by rw [e]), e]
                · rw [if_neg (by omega)]; exact g3 k (by omega)
        refine pq_ck (pq_ck (k141 rFU 0 _ (Nat.zero_le _) ⟨fun k hk => sa_ne hk, fun k hk => rfl⟩ (fun z hz => ?_) ?_ (fun k hk => absurd hk (Nat.not_lt_zero _))))
        · rw [up_nI (by omega), if_neg (by omega)]
        · rw [up_nI (by omega), if_pos rfl]
      · have htl : t < S.2.1.2.2.2.2.length := by omega
        obtain ⟨a1, a2⟩ := m6 t htl
        have w8 := cf_lk m7 htl
        rw [nI_9, rd_nI (by omega), a1]
        -- decided
        have b104 : ∀ is : Bool, (is = true ↔ S.2.1.2.2.2.2.getD t [] = w) → PQ (mX9_lock0_b104 (fun v1 v2 v3 σ => mX9_lock0_l15 d v1 v2 v3 σ) (nI a) (nI w.length) (nI t) (bI is) σ) (DOA σ (loA S w)) := fun is his => by
          unfold mX9_lock0_b104
          refine if_01 (fun q2 => ?_) (fun q2 => ?_)
          · rw [nI_1]
            refine ih (t + 1) (by omega) (fun l hl => ?_)
            by_cases e : l = t
            · rw [e]; exact fun hc => by rw [his.mpr hc] at q2; cases q2
            · exact hno l (by omega)
          · have hm : S.2.1.2.2.2.2.any (fun x => decide (x = w)) = true := by
              refine List.any_eq_true.mpr ⟨S.2.1.2.2.2.2.getD t [], ?_, decide_eq_true (his.mp q2)⟩
              rw [List.getD_eq_getElem?_getD, List.getElem?_eq_getElem htl]
              exact List.getElem_mem htl
            have el : loA S w = (7, S) := by
              have e7 : lkC S.2.1.2.2.2.2 w = 7 := (if_neg (by omega)).trans (if_pos hm)
              unfold loA
              rw [e7, if_neg (by decide)]
            rw [el]
            exact pq_ret (bad_a (by decide) frx_rfl)
        generalize hu : S.2.1.2.2.2.2.getD t [] = u at a1 a2 w8 b104 ⊢
        refine pq_ck (pq_eqi (nI_toInt (by omega)) (nI_toInt (by omega)) (fun q2 => ?_) (fun q2 => ?_))
        · have hul : u.length = w.length := by omega
          have k51 : ∀ (d2 i : Nat) (is : Bool), i ≤ w.length → (is = true ↔ ∀ z, z < i → u.getD z 0 = w.getD z 0) → PQ (mX9_lock0_l51 (fun v1 v2 v3 σ => mX9_lock0_l15 d v1 v2 v3 σ) d2 (nI a) (nI w.length) (nI t) (bI is) (nI i) σ) (DOA σ (loA S w)) := by
            intro d2
            induction d2 with
            | zero => intro i is _ _; exact pq_none
            | succ d2 ih2 =>
              intro i is hi his
              unfold mX9_lock0_l51
              refine pq_le (nI_toInt (by omega)) (nI_toInt (by omega)) (fun q3 => b104 is ?_) (fun q3 => if_01 (fun q4 => ?_) (fun q4 => ?_))
              · exact ⟨fun hb => bl_ext hul (fun z hz => his.mp hb z (by omega)), fun hb => his.mpr (fun z _ => by rw [hb])⟩
              · have := b104 is ⟨(fun hb => by rw [hb] at q4; cases q4), fun hb => his.mpr (fun z _ => by rw [hb])⟩
                rw [q4] at this ⊢
                exact this
              · rw [nI_9, nI_1, nI_add, nI_add, rd_nI (by omega), rd_nI (by omega), a2 i (by omega), h8 _ (by omega), hw i (by omega)]
                have nxt : ∀ b2 : Bool, b2 = decide (u.getD i 0 = w.getD i 0) → PQ (mX9_lock0_b96 (fun v1 v2 v3 σ => mX9_lock0_l15 d v1 v2 v3 σ) (fun v1 v2 v3 v4 v5 σ => mX9_lock0_l51 (fun v1 v2 v3 σ => mX9_lock0_l15 d v1 v2 v3 σ) d2 v1 v2 v3 v4 v5 σ) (nI a) (nI w.length) (nI t) (nI i) (bI b2) σ) (DOA σ (loA S w)) := fun b2 hb2 => by
                  unfold mX9_lock0_b96
                  rw [nI_1]
                  refine ih2 (i + 1) b2 (by omega) ?_
                  rw [hb2, decide_eq_true_iff]
                  refine ⟨fun hq z hz => ?_, fun hq => hq i (by omega)⟩
                  by_cases e : z = i
                  · rw [e]; exact hq
                  · exact his.mp q4 z (by omega)
                exact pq_ck (pq_ck (pq_eq (fun q5 => nxt true (decide_eq_true q5).symm) (fun q5 => nxt false (decide_eq_false q5).symm)))
          unfold mX9_lock0_b46
          exact k51 rFU 0 true (Nat.zero_le _) ⟨fun _ z hz => absurd hz (Nat.not_lt_zero _), fun _ => rfl⟩
        · have hb := b104 false ⟨(fun hb => by cases hb), fun hb => absurd (show ((u.length : Nat) : Int) = w.length by rw [hb]) q2⟩
          unfold mX9_lock0_b46
          have k0 : ∀ d2, PQ (mX9_lock0_l51 (fun v1 v2 v3 σ => mX9_lock0_l15 d v1 v2 v3 σ) d2 (nI a) (nI w.length) (nI t) 0 0 σ) (DOA σ (loA S w)) := fun d2 => by
            cases d2 with
            | zero => exact pq_none
            | succ d2 =>
              unfold mX9_lock0_l51
              exact pq_le (nI_toInt (by omega)) rfl (fun _ => hb) (fun _ => pq_t rfl hb)
          exact k0 rFU
  exact key rFU 0 (Nat.zero_le _) (fun l hl => absurd hl (Nat.not_lt_zero _))
end RLK
