/-! the reference: rows hold lists; what a kind finds -/
def RLs (σ : RS9) (r : Nat) (L : BL) : Prop := ∀ i, i < L.length → σ.2 r i = L.getD i 0
def FRX (R F : Nat → Prop) (σ σ' : RS9) : Prop := (∀ k, ¬ R k → σ'.2 k = σ.2 k) ∧ ∀ k, ¬ F k → σ'.1 k = σ.1 k
theorem frx_rfl {R F : Nat → Prop} {σ : RS9} : FRX R F σ σ := ⟨fun _ _ => rfl, fun _ _ => rfl⟩
theorem frx_tr {R F : Nat → Prop} {σ σ' σ'' : RS9} (h1 : FRX R F σ σ') (h2 : FRX R F σ' σ'') : FRX R F σ σ'' := ⟨fun k hk => (h2.1 k hk).trans (h1.1 k hk), fun k hk => (h2.2 k hk).trans (h1.2 k hk)⟩
theorem frx_mono {R F R' F' : Nat → Prop} {σ σ' : RS9} (h : FRX R F σ σ') (hR : ∀ k, R k → R' k) (hF : ∀ k, F k → F' k) : FRX R' F' σ σ' := ⟨fun k hk => h.1 k (fun q => hk (hR k q)), fun k hk => h.2 k (fun q => hk (hF k q))⟩
theorem RL_frx {R F : Nat → Prop} {σ σ' : RS9} {r : Nat} {L : BL} (h : RLs σ r L) (hF : FRX R F σ σ') (hr : ¬ R r) : RLs σ' r L := fun i hi => by rw [hF.1 r hr]; exact h i hi
theorem pq_isr {α β : Type} {Q : β → Prop} {o : Option (α × RS9)} {a : α} {σ : RS9} {k : α × RS9 → Option β} (h1 : PQ o (fun r => r = (a, σ))) (h : PQ (k (a, σ)) Q) : PQ (o.bind k) Q := pq_is h1 h
section RFC
variable {σ : RS9} {r : Nat} {L : BL}
theorem r_endOf {e a : Nat} {s1 s2 : Int32} {p : Int32 → Bool} (hL : RLs σ r L) (h6 : L.length ≤ 700) (hp : ∀ c, p c = (decide (c = s1) || decide (c = s2))) (he : e ≤ L.length) (ha : a ≤ 800) : PQ (mX9_endOf r (nI e) (nI a) s1 s2 σ) (fun y => y = (nI (nx p L a e), σ)) := by
  unfold mX9_endOf
  by_cases hae : a ≤ e
  · have key : ∀ (d i : Nat), a ≤ i → i ≤ e → (∀ k, a ≤ k → k < i → p (L.getD k 0) = false) → PQ (mX9_endOf_l3 d r (nI e) s1 s2 (nI i) σ) (fun y => y = (nI (nx p L a e), σ)) := by
      intro d
      induction d with
      | zero => intro i _ _ _; exact pq_none
      | succ d ih =>
        intro i h1 h2 h3
        unfold mX9_endOf_l3
        refine pq_le (nI_toInt (by omega)) (nI_toInt (by omega)) (fun q => ?_) (fun q => ?_)
        · rw [nx_is h1 h2 h3 (fun h => by omega)]
          exact pq_ret rfl
        · rw [rd_nI (by omega), hL i (by omega)]
          have fin : p (L.getD i 0) = true → PQ (mX9_endOf_b32 (nI i) σ) (fun y => y = (nI (nx p L a e), σ)) := fun h => by
            rw [nx_is h1 h2 h3 (fun _ => h)]
            exact pq_ret rfl
          refine pq_ck (pq_eq (fun q1 => fin (by rw [hp, q1, decide_eq_true rfl]; rfl)) (fun q1 => pq_ck (pq_eq (fun q2 => fin (by rw [hp, q2, decide_eq_true rfl, Bool.or_true])) (fun q2 => ?_))))
          rw [nI_1]
          refine ih (i + 1) (by omega) (by omega) (fun k k1 k2 => ?_)
          by_cases e9 : k = i
          · rw [e9, hp, decide_eq_false q1, decide_eq_false q2]; rfl
          · exact h3 k k1 (by omega)
    exact key rFU a (Nat.le_refl _) hae (fun k h1 h2 => by omega)
  · rw [nx_end (by omega)]
    have key : ∀ d, PQ (mX9_endOf_l3 d r (nI e) s1 s2 (nI a) σ) (fun y => y = (nI a, σ)) := by
      intro d
      cases d with
      | zero => exact pq_none
      | succ d =>
        unfold mX9_endOf_l3
        exact pq_le (nI_toInt (by omega)) (nI_toInt (by omega)) (fun _ => pq_ret rfl) (fun q => by omega)
    exact key rFU
theorem bEq_o {s : Int32} : ∀ c, bEq s c = (decide (c = s) || decide (c = s)) := fun c => by
  unfold bEq
  rw [Bool.or_self]
theorem bSep_o : ∀ c, bSep c = (decide (c = 44) || decide (c = 10)) := fun _ => rfl
/-- what is found so far -/
def FO (σ : RS9) (of ti wh : Nat) (kf : Bool) (C : List CI) : Prop := σ.1 54 = nI C.length ∧ C.length ≤ 600 ∧ ∀ i, i < C.length → σ.2 of i = nI (C.getD i (0, 0, false, 0, 0)).1 ∧ σ.2 ti i = nI (C.getD i (0, 0, false, 0, 0)).2.1 ∧ σ.2 wh i = bI (C.getD i (0, 0, false, 0, 0)).2.2.1 ∧ (kf = true → σ.2 20 i = nI (C.getD i (0, 0, false, 0, 0)).2.2.2.1 ∧ σ.2 21 i = nI (C.getD i (0, 0, false, 0, 0)).2.2.2.2)
abbrev RO5 (of ti wh : Nat) : Nat → Prop := fun k => k = of ∨ k = ti ∨ k = wh ∨ k = 20 ∨ k = 21
abbrev FO1 : Nat → Prop := fun k => k = 54
def OFS (of ti wh : Nat) : Prop := (of = 17 ∧ ti = 18 ∧ wh = 19) ∨ (of = 27 ∧ ti = 28 ∧ wh = 29)
theorem cgd_l {C D : List CI} {i : Nat} (h : i < C.length) : (C ++ D).getD i (0, 0, false, 0, 0) = C.getD i (0, 0, false, 0, 0) := by
  rw [List.getD_eq_getElem?_getD, List.getD_eq_getElem?_getD, List.getElem?_append_left h]
theorem cgd_n {C : List CI} {c : CI} : (C ++ [c]).getD C.length (0, 0, false, 0, 0) = c := by
  rw [List.getD_eq_getElem?_getD, List.getElem?_append_right (Nat.le_refl _), Nat.sub_self]; rfl
theorem ofs_len {of ti wh : Nat} (h : OFS of ti wh) : rLen of = 600 ∧ rLen ti = 600 ∧ rLen wh = 600 := by
  rcases h with ⟨rfl, rfl, rfl⟩ | ⟨rfl, rfl, rfl⟩ <;> exact ⟨rfl, rfl, rfl⟩
theorem r_finds {of ti wh a b : Nat} {w : Bool} {kf : Bool} {C : List CI} (hO : OFS of ti wh) (hF : FO σ of ti wh kf C) (ha : a ≤ 700) (hb : b ≤ 700) : PQ (mX9_finds of ti wh (nI a) (nI b) (bI w) σ) (fun y => (b ≤ a ∧ y = (0, σ)) ∨ (a < b ∧ ∃ σ', y = (0, σ') ∧ FRX (RO5 of ti wh) FO1 σ σ' ∧ σ'.2 20 = σ.2 20 ∧ σ'.2 21 = σ.2 21 ∧ C.length < 600 ∧ σ'.1 54 = nI (C.length + 1) ∧ (∀ i, i < C.length → σ'.2 of i = σ.2 of i ∧ σ'.2 ti i = σ.2 ti i ∧ σ'.2 wh i = σ.2 wh i) ∧ σ'.2 of C.length = nI a ∧ σ'.2 ti C.length = nI b ∧ σ'.2 wh C.length = bI w)) := by
  obtain ⟨h1, h2, h3⟩ := hF
  have hne : of ≠ ti ∧ of ≠ wh ∧ ti ≠ wh ∧ of ≠ 20 ∧ of ≠ 21 ∧ ti ≠ 20 ∧ ti ≠ 21 ∧ wh ≠ 20 ∧ wh ≠ 21 := by unfold OFS at hO; omega
  obtain ⟨l1, l2, l3⟩ := ofs_len hO
  have fin : C.length < 600 → a < b → PQ (mX9_finds_b39 wh (σ.1 54) (bI w) (rSa (rSa σ of (σ.1 54) (nI a)) ti (σ.1 54) (nI b))) (fun y => (b ≤ a ∧ y = (0, σ)) ∨ (a < b ∧ ∃ σ', y = (0, σ') ∧ FRX (RO5 of ti wh) FO1 σ σ' ∧ σ'.2 20 = σ.2 20 ∧ σ'.2 21 = σ.2 21 ∧ C.length < 600 ∧ σ'.1 54 = nI (C.length + 1) ∧ (∀ i, i < C.length → σ'.2 of i = σ.2 of i ∧ σ'.2 ti i = σ.2 ti i ∧ σ'.2 wh i = σ.2 wh i) ∧ σ'.2 of C.length = nI a ∧ σ'.2 ti C.length = nI b ∧ σ'.2 wh C.length = bI w)) := fun hc hab => by
    unfold mX9_finds_b39
    rw [h1]
    have e54 : (rSa (rSa σ of (nI C.length) (nI a)) ti (nI C.length) (nI b)).1 54 + 1 = nI (C.length + 1) := by
      show σ.1 54 + 1 = _
      rw [h1, nI_1]
    rw [e54]
    refine pq_ck (pq_ret (Or.inr ⟨hab, _, rfl, ⟨fun k hk => ?_, fun k hk => ?_⟩, ?_, ?_, hc, sf_eq, fun i hi => ⟨?_, ?_, ?_⟩, ?_, ?_, ?_⟩))
    · show (rSa (rSa (rSa σ of (nI C.length) (nI a)) ti (nI C.length) (nI b)) wh (nI C.length) (bI w)).2 k = σ.2 k
      rw [sa_ne (by omega), sa_ne (by omega), sa_ne (by omega)]
    · exact sf_ne hk
    · show (rSa (rSa (rSa σ of (nI C.length) (nI a)) ti (nI C.length) (nI b)) wh (nI C.length) (bI w)).2 20 = σ.2 20
      rw [sa_ne (by omega), sa_ne (by omega), sa_ne (by omega)]
    · show (rSa (rSa (rSa σ of (nI C.length) (nI a)) ti (nI C.length) (nI b)) wh (nI C.length) (bI w)).2 21 = σ.2 21
      rw [sa_ne (by omega), sa_ne (by omega), sa_ne (by omega)]
    · show (rSa (rSa (rSa σ of (nI C.length) (nI a)) ti (nI C.length) (nI b)) wh (nI C.length) (bI w)).2 of i = σ.2 of i
      rw [sa_ne (by omega), sa_ne (by omega), sa_nI (by omega), if_neg (by omega)]
    · show (rSa (rSa (rSa σ of (nI C.length) (nI a)) ti (nI C.length) (nI b)) wh (nI C.length) (bI w)).2 ti i = σ.2 ti i
      rw [sa_ne (by omega), sa_nI (by omega), if_neg (by omega), sa_ne (by omega)]
    · show (rSa (rSa (rSa σ of (nI C.length) (nI a)) ti (nI C.length) (nI b)) wh (nI C.length) (bI w)).2 wh i = σ.2 wh i
      rw [sa_nI (by omega), if_neg (by omega), sa_ne (by omega), sa_ne (by omega)]
    · show (rSa (rSa (rSa σ of (nI C.length) (nI a)) ti (nI C.length) (nI b)) wh (nI C.length) (bI w)).2 of C.length = nI a
      rw [sa_ne (by omega), sa_ne (by omega), sa_nI (by omega), if_pos rfl]
    · show (rSa (rSa (rSa σ of (nI C.length) (nI a)) ti (nI C.length) (nI b)) wh (nI C.length) (bI w)).2 ti C.length = nI b
      rw [sa_ne (by omega), sa_nI (by omega), if_pos rfl]
    · show (rSa (rSa (rSa σ of (nI C.length) (nI a)) ti (nI C.length) (nI b)) wh (nI C.length) (bI w)).2 wh C.length = bI w
      rw [sa_nI (by omega), if_pos rfl]
  unfold mX9_finds
  refine pq_lt (nI_toInt (by omega)) (nI_toInt (by omega)) (fun q => ?_) (fun q => pq_ret (Or.inl ⟨by omega, rfl⟩))
  refine pq_ckb (fun hb => pq_ck ?_)
  rw [h1, l1] at hb
  have hc := in_nI (by omega) hb
  cases w with
  | false => exact pq_t rfl (fin hc (by omega))
  | true => exact pq_f (show ¬ (1 : Int32) = 0 by decide) (fin hc (by omega))
/-- found, kept as a list -/
theorem FO_ext {σ' : RS9} {of ti wh : Nat} {C : List CI} {c : CI} {kf : Bool} (hF : FO σ of ti wh kf C) (hc : C.length < 600) (h54 : σ'.1 54 = nI (C.length + 1)) (hi : ∀ i, i < C.length → σ'.2 of i = σ.2 of i ∧ σ'.2 ti i = σ.2 ti i ∧ σ'.2 wh i = σ.2 wh i) (h1 : σ'.2 of C.length = nI c.1) (h2 : σ'.2 ti C.length = nI c.2.1) (h3 : σ'.2 wh C.length = bI c.2.2.1) (hk : kf = true → (∀ i, i < C.length → σ'.2 20 i = σ.2 20 i ∧ σ'.2 21 i = σ.2 21 i) ∧ σ'.2 20 C.length = nI c.2.2.2.1 ∧ σ'.2 21 C.length = nI c.2.2.2.2) : FO σ' of ti wh kf (C ++ [c]) := by
  refine ⟨by rw [h54, List.length_append]; rfl, by rw [List.length_append]; show C.length + 1 ≤ 600; omega, fun i hi2 => ?_⟩
  rw [List.length_append] at hi2
  by_cases e : i = C.length
  · rw [e, cgd_n]
    exact ⟨h1, h2, h3, fun q => (hk q).2⟩
  · have hil : i < C.length := by have : i < C.length + 1 := hi2; omega
    rw [cgd_l hil]
    obtain ⟨g1, g2, g3, g4⟩ := hF.2.2 i hil
    obtain ⟨k1, k2, k3⟩ := hi i hil
    refine ⟨k1.trans g1, k2.trans g2, k3.trans g3, fun q => ?_⟩
    obtain ⟨m1, m2⟩ := (hk q).1 i hil
    exact ⟨m1.trans (g4 q).1, m2.trans (g4 q).2⟩
theorem r_isBare {c : Int32} : PQ (mX9_isBare c σ) (fun y => y = (bI (bBare c), σ)) := by
  unfold mX9_isBare bBare
  refine pq_eq (fun q => ?_) (fun q => pq_eq (fun q2 => ?_) (fun q2 => ?_))
  · rw [decide_eq_true q]
    unfold mX9_isBare_b12 mX9_isBare_b17
    exact pq_ck (pq_ret rfl)
  · rw [decide_eq_false q, decide_eq_true q2]
    unfold mX9_isBare_b12 mX9_isBare_b17
    exact pq_ck (pq_ret rfl)
  · rw [decide_eq_false q, decide_eq_false q2]
    exact pq_ck (pq_ret rfl)
end RFC
