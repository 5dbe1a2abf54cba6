section DONE
variable {σ : RS9}
theorem e30429 : (30429 : Int32).toInt = 30429 := by decide
theorem a_remembers_l52 {u : Nat} (hu : u ≤ 7) (h5 : σ.1 5 = nI u) (hG : GOOD (σ.2 2)) (hs : ∀ s, s < u → GOOD (fun i => σ.2 4 (4347 * s + i))) : P1 (mX9_remembers_b50 σ) (fun v σ' => UN σ' ∧ (∀ z, z ≠ 4 → σ'.2 z = σ.2 z) ∧ ∀ z, z ≠ 5 → σ'.1 z = σ.1 z) := by
  have key : ∀ (d k : Nat) (w : RS9), (∀ z, z ≠ 4 → w.2 z = σ.2 z) → w.1 = σ.1 → (∀ i, i < 4347 * u → w.2 4 i = σ.2 4 i) → (∀ i, i < k → w.2 4 (4347 * u + i) = σ.2 2 i) → k ≤ 4347 → 5000 < k + d → P1 (mX9_remembers_l52 d (nI k) w) (fun v σ' => UN σ' ∧ (∀ z, z ≠ 4 → σ'.2 z = σ.2 z) ∧ ∀ z, z ≠ 5 → σ'.1 z = σ.1 z) := by
    intro d
    induction d with
    | zero => intro k w _ _ _ _ hk hm; exfalso; omega
    | succ d ih =>
      intro k w h1 h2 h3 h4 hk hm
      have ek : (nI k).toInt = (k : Int) := nI_toInt (by omega)
      have w5 : w.1 5 = nI u := by rw [h2]; exact h5
      unfold mX9_remembers_l52
      refine q1_le e4347 ek (fun q => ?_) (fun q => ?_)
      · have e : k = 4347 := by omega
        subst e
        refine q1_ret ⟨⟨u + 1, by rw [sf_eq, w5, nI_1], by omega, fun s hs2 => ?_⟩, h1, fun z hz => (sf_ne hz).trans (by rw [h2])⟩
        by_cases e : s = u
        · subst e
          exact good_eq hG (fun i hi => h4 i hi)
        · refine good_eq (hs s (by omega)) (fun i hi => h3 _ ?_)
          have : 4347 * s + 4347 ≤ 4347 * u := by omega
          omega
      · rw [w5, mul4347, nI_add, nI_1, rd_nI (by omega)]
        refine q1_ck (inb_nI (n := 4347) (by omega) (by decide)) (q1_ck (inb_nI (n := 34776) (by omega) (by decide)) ?_)
        refine ih (k + 1) _ (fun z hz => (sa_ne hz).trans (h1 z hz)) h2 (fun i hi => ?_) (fun i hi => ?_) (by omega) (by omega)
        · rw [sa_nI (by omega), if_neg (by omega)]; exact h3 i hi
        · rw [sa_nI (by omega)]
          by_cases e : i = k
          · rw [if_pos (by omega), h1 2 (by decide), e]
          · rw [if_neg (by omega)]; exact h4 i (by omega)
  unfold mX9_remembers_b50
  exact key rFU 0 σ (fun _ _ => rfl) rfl (fun _ _ => rfl) (fun i hi => absurd hi (by omega)) (by omega) (by unfold rFU; omega)
theorem a_remembers (hU : UN σ) (hG : GOOD (σ.2 2)) : P1 (mX9_remembers σ) (fun v σ' => UN σ' ∧ (∀ z, z ≠ 4 → σ'.2 z = σ.2 z) ∧ ∀ z, z ≠ 5 → σ'.1 z = σ.1 z) := by
  obtain ⟨u, h5, hu, hs⟩ := hU
  unfold mX9_remembers
  refine q1_eq (fun q => ?_) (fun q => ?_)
  · have e8 : u = 8 := nI_inj (by omega) (by omega) (h5.symm.trans q)
    subst e8
    have key : ∀ (d k : Nat) (w : RS9), (∀ z, z ≠ 4 → w.2 z = σ.2 z) → w.1 = σ.1 → (∀ i, i < k → w.2 4 i = σ.2 4 (i + 4347)) → (∀ i, k ≤ i → w.2 4 i = σ.2 4 i) → k ≤ 30429 → 35000 < k + d → P1 (mX9_remembers_l11 d (nI k) w) (fun v σ' => UN σ' ∧ (∀ z, z ≠ 4 → σ'.2 z = σ.2 z) ∧ ∀ z, z ≠ 5 → σ'.1 z = σ.1 z) := by
      intro d
      induction d with
      | zero => intro k w _ _ _ _ hk hm; exfalso; omega
      | succ d ih =>
        intro k w h1 h2 h3 h4 hk hm
        have ek : (nI k).toInt = (k : Int) := nI_toInt (by omega)
        unfold mX9_remembers_l11
        refine q1_le e30429 ek (fun q => ?_) (fun q => ?_)
        · have e : k = 30429 := by omega
          subst e
          have w5 : (w.1 5) - (1 : Int32) = nI 7 := by rw [h2, h5]; decide
          rw [w5]
          refine q1_tail (a_remembers_l52 (σ := rSf w 5 (nI 7)) (u := 7) (by omega) sf_eq (by rw [show (rSf w 5 (nI 7)).2 2 = w.2 2 from rfl, h1 2 (by decide)]; exact hG) (fun s hs2 => ?_)) (fun v t ht => ⟨ht.1, fun z hz => (ht.2.1 z hz).trans (h1 z hz), fun z hz => (ht.2.2 z hz).trans ((sf_ne hz).trans (by rw [h2]))⟩)
          refine good_eq (hs (s + 1) (by omega)) (fun i hi => ?_)
          refine (h3 _ (by omega)).trans ?_
          exact congrArg (σ.2 4) (by omega)
        · rw [show (4347 : Int32) = nI 4347 from rfl, nI_add, nI_1, rd_nI (by omega)]
          refine q1_ck (inb_nI (n := 34776) (by omega) (by decide)) (q1_ck (inb_nI (n := 34776) (by omega) (by decide)) ?_)
          refine ih (k + 1) _ (fun z hz => (sa_ne hz).trans (h1 z hz)) h2 (fun i hi => ?_) (fun i hi => ?_) (by omega) (by omega)
          · rw [sa_nI (by omega)]
            by_cases e : i = k
            · rw [if_pos e, h4 _ (by omega), e]
            · rw [if_neg e]; exact h3 i (by omega)
          · rw [sa_nI (by omega), if_neg (by omega)]; exact h4 i (by omega)
    exact key rFU 0 σ (fun _ _ => rfl) rfl (fun i hi => absurd hi (by omega)) (fun _ _ => rfl) (by omega) (by unfold rFU; omega)
  · have u8 : u ≠ 8 := fun e => q (by rw [h5, e]; rfl)
    exact a_remembers_l52 (u := u) (by omega) h5 hG hs
theorem a_isDone {v c t : Int32} (hC : v = 0 → CORE σ) (h9 : σ.1 9 = t) (ht : 0 ≤ t.toInt ∧ t.toInt ≤ 400) (hU : UN σ) (hI : IM σ) (hG : GOOD (σ.2 2)) : P1 (mX9_isDone v c σ) (RP t) := by
  have b33 : ∀ s : RS9, RI s → s.1 9 = t → P1 (mX9_isDone_b33 v s) (RP t) := fun s hs h => by
    unfold mX9_isDone_b33
    exact q1_eq (fun _ => q1_ck rfl (q1_ret ⟨hs, h⟩)) (fun _ => q1_ck rfl (q1_ret ⟨hs, h⟩))
  have b15 : ∀ s1 : Int32, P1 (mX9_isDone_b15 v s1 (rSf σ 7 v)) (RP t) := fun s1 => by
    have f : ∀ k, k ≠ 0 → k ≠ 7 → (rSf (rSf σ 7 v) 0 s1).1 k = σ.1 k := fun k a b => (sf_ne a).trans (sf_ne b)
    unfold mX9_isDone_b15
    refine q1_eq (fun q => ?_) (fun q => ?_)
    · refine q1_call (a_remembers (σ := rSf (rSf σ 7 v) 0 s1) (un_fr hU rfl (f 5 (by decide) (by decide))) hG) (fun w s hs => ?_)
      have g9 : s.1 9 = t := (hs.2.2 9 (by decide)).trans ((f 9 (by decide) (by decide)).trans h9)
      refine b33 s ⟨core_fr (hC q) (hs.2.1 1 (by decide)) (fun k a b => hs.2.1 k (by omega)) ((hs.2.2 33 (by decide)).trans (f 33 (by decide) (by decide))) ((hs.2.2 45 (by decide)).trans (f 45 (by decide) (by decide))), by rw [g9]; exact ht, hs.1, im_fr hI (hs.2.1 3 (by decide)) ((hs.2.2 6 (by decide)).trans (f 6 (by decide) (by decide)))⟩ g9
    · refine q1_call (a_putsBack (σ := rSf (rSf σ 7 v) 0 s1) hG) (fun w s hs => ?_)
      have g9 : s.1 9 = t := (hs.2.2 9 (by decide)).trans ((f 9 (by decide) (by decide)).trans h9)
      refine b33 s ⟨hs.1, by rw [g9]; exact ht, un_fr hU (hs.2.1 4 (by decide) (by decide)) ((hs.2.2 5 (by decide)).trans (f 5 (by decide) (by decide))), im_fr hI (hs.2.1 3 (by decide) (by decide)) ((hs.2.2 6 (by decide)).trans (f 6 (by decide) (by decide)))⟩ g9
  unfold mX9_isDone
  exact q1_le rfl kt_0 (fun _ => b15 _) (fun _ => b15 _)
/-- aside, an act, done -/
theorem q1_act {β : Type} {Q : β → RS9 → Prop} {t : Int32} (h : RI σ) (ht : σ.1 9 = t) {act : RS9 → Option (Int32 × RS9)} (ha : ∀ u, CORE u → P1 (act u) (AQ u)) {c : Int32} {k : Int32 × RS9 → Option (β × RS9)} (hk : ∀ v s, RI s → s.1 9 = t → P1 (k (v, s)) Q) : P1 ((mX9_putsAside σ).bind fun r1 => ((act r1.2).bind fun r2 => ((mX9_isDone r2.1 c r2.2).bind k))) Q := by
  refine q1_call a_putsAside (fun v s hs => ?_)
  dsimp only
  have hCs : CORE s := core_fr h.1 (hs.1 1 (by decide)) (fun k a b => hs.1 k (by omega)) (by rw [hs.2.1]) (by rw [hs.2.1])
  refine q1_call (ha s hCs) (fun w u hu => ?_)
  dsimp only
  have hG : GOOD (u.2 2) := by
    rw [hu.2.1 2 (by omega)]
    exact good_eq (good_m h.1) hs.2.2
  refine q1_call (a_isDone (t := t) (fun e => hu.1 (by rw [e]; decide)) ((hu.2.2 9 (by omega)).trans ((by rw [hs.2.1] : s.1 9 = σ.1 9).trans ht)) (by rw [← ht]; exact h.2.1) (un_fr h.2.2.1 ((hu.2.1 4 (by omega)).trans (hs.1 4 (by decide))) ((hu.2.2 5 (by omega)).trans (by rw [hs.2.1]))) (im_fr h.2.2.2 ((hu.2.1 3 (by omega)).trans (hs.1 3 (by decide))) ((hu.2.2 6 (by omega)).trans (by rw [hs.2.1]))) hG) (fun w2 s2 h2 => ?_)
  exact hk w2 s2 h2.1 h2.2
theorem rp_i {α : Type} {t : Int32} {v : α} {s : RS9} (h : RI s) (h9 : s.1 9 = t) : RP t v s := ⟨h, h9⟩
theorem ur_unlock (h : RI σ) : P1 (mX9_unlock σ) (RP (σ.1 9)) := by
  unfold mX9_unlock
  exact q1_act h rfl (act := mX9_unlocks) (fun u hu => q1_tail (a_unlocks hu.1) (fun w s hs => ⟨fun _ => hs.2.1, hs.2.2⟩)) (fun v s hs h9 => q1_eq (fun _ => q1_ret (rp_i hs h9)) (fun _ => q1_ret (rp_i hs h9)))
theorem built_rp {t : Int32} {s : RS9} (hs : RI s) (h9 : s.1 9 = t) {k : Int32 × RS9 → Option (Int32 × RS9)} (hk : ∀ r, k r = some r) : P1 ((mX9_builtMany s).bind k) (RP t) := by
  refine q1_call (a_builtMany ⟨hs.1.1, hs.1.2.1⟩ (core_nn hs.1)) (fun v u hu => ?_)
  rw [hk]
  have g9 : u.1 9 = s.1 9 := hu.1.2 9 (by decide)
  exact q1_ret ⟨ri_fr hs (fun k hk => hu.1.1 k (by omega) (by omega) (by omega)) (fun k hk => hu.1.2 k (by omega)) (by rw [g9]; exact hs.2.1), g9.trans h9⟩
theorem ur_free (h : RI σ) {x : Int32} : P1 (mX9_free x σ) (RP (σ.1 9)) := by
  unfold mX9_free
  exact q1_act h rfl (act := fun u => mX9_free0 x u) (fun u hu => a_free0 hu) (fun v s hs h9 => q1_eq (fun _ => q1_ret (rp_i hs h9)) (fun _ => built_rp hs h9 (fun _ => rfl)))
theorem ur_spread (h : RI σ) {x : Int32} : P1 (mX9_spread x σ) (RP (σ.1 9)) := by
  unfold mX9_spread
  exact q1_act h rfl (act := fun u => mX9_spread0 x u) (fun u hu => a_spread0 hu) (fun v s hs h9 => q1_eq (fun _ => q1_ret (rp_i hs h9)) (fun _ => q1_ret (rp_i hs h9)))
theorem ur_swap (h : RI σ) {x y : Int32} : P1 (mX9_swap x y σ) (RP (σ.1 9)) := by
  unfold mX9_swap
  exact q1_act h rfl (act := fun u => mX9_swap0 x y u) (fun u hu => a_swap0 hu) (fun v s hs h9 => q1_eq (fun _ => q1_ret (rp_i hs h9)) (fun _ => built_rp hs h9 (fun _ => rfl)))
theorem ur_wipe (h : RI σ) : P1 (mX9_wipe σ) (RP (σ.1 9)) := by
  unfold mX9_wipe
  refine q1_call a_putsAside (fun v s hs => ?_)
  dsimp only
  have hCs : CORE s := core_fr h.1 (hs.1 1 (by decide)) (fun k a b => hs.1 k (by omega)) (by rw [hs.2.1]) (by rw [hs.2.1])
  obtain ⟨p, M, hP, -⟩ := core_x hCs
  refine q1_ro (o_toldMany hP) (fun y _ => ?_)
  dsimp only
  refine q1_call (a_wipe0 hCs) (fun w u hu => ?_)
  dsimp only
  have hG : GOOD (u.2 2) := by
    rw [hu.2.1 2 (by omega)]
    exact good_eq (good_m h.1) hs.2.2
  refine q1_call (a_isDone (t := σ.1 9) (fun e => hu.1 (by rw [e]; decide)) ((hu.2.2 9 (by omega)).trans (by rw [hs.2.1])) h.2.1 (un_fr h.2.2.1 ((hu.2.1 4 (by omega)).trans (hs.1 4 (by decide))) ((hu.2.2 5 (by omega)).trans (by rw [hs.2.1]))) (im_fr h.2.2.2 ((hu.2.1 3 (by omega)).trans (hs.1 3 (by decide))) ((hu.2.2 6 (by omega)).trans (by rw [hs.2.1]))) hG) (fun w2 s2 h2 => ?_)
  exact q1_eq (fun _ => q1_ret h2) (fun _ => q1_ret h2)
theorem ur_kind (h : RI σ) {x w : Int32} : P1 (mX9_kind x w σ) (RP (σ.1 9)) := by
  have b50 : ∀ (k : Nat) (s1 : Int32), 1 ≤ k ∧ k ≤ 2 → P1 ((mX9_putsAside (rSf σ 0 s1)).bind fun r1 => mX9_kind_b50 x (nI k) r1.2) (RP (σ.1 9)) := fun k s1 hk => by
    unfold mX9_kind_b50
    exact q1_act (ri_0 h) (sf_ne (by decide)) (act := fun u => mX9_rules (nI k) x u) (fun u hu => q1_tail (a_rules hu.1 (by omega) (fun e => by omega)) (fun w s hs => ⟨fun _ => hs.2.1, hs.2.2⟩)) (fun v s hs h9 => q1_eq (fun _ => q1_ret (rp_i hs h9)) (fun _ => q1_ret (rp_i hs h9)))
  have b23 : ∀ s1 : Int32, P1 (mX9_kind_b23 x w s1 σ) (RP (σ.1 9)) := fun s1 => by
    unfold mX9_kind_b23
    refine le0 (fun _ => ?_) (fun _ => q1_ret (rp_0 h))
    by_cases e : w = 0
    · simp only [e, if_true]; exact b50 1 s1 (by omega)
    · simp only [e, if_false]; exact b50 2 s1 (by omega)
  have b11 : ∀ s1 s2 : Int32, P1 (mX9_kind_b11 x w s1 s2 σ) (RP (σ.1 9)) := fun s1 s2 => by
    unfold mX9_kind_b11
    refine q1_ro o_isIn (fun y _ => ?_)
    dsimp only
    exact q1_eq (fun _ => b23 _) (fun _ => b23 _)
  unfold mX9_kind
  exact q1_eq (fun _ => b11 _ _) (fun _ => b11 _ _)
theorem ur_rule (h : RI σ) {x w : Int32} : P1 (mX9_rule x w σ) (RP (σ.1 9)) := by
  have b64 : ∀ (k : Nat) (s1 : Int32), 3 ≤ k ∧ k ≤ 4 → (k = 4 → 1 ≤ w.toInt) → P1 ((mX9_putsAside (rSf σ 0 s1)).bind fun r1 => mX9_rule_b64 w (nI k) r1.2) (RP (σ.1 9)) := fun k s1 hk h4 => by
    unfold mX9_rule_b64
    exact q1_act (ri_0 h) (sf_ne (by decide)) (act := fun u => mX9_rules (nI k) w u) (fun u hu => q1_tail (a_rules hu.1 (by omega) h4) (fun w s hs => ⟨fun _ => hs.2.1, hs.2.2⟩)) (fun v s hs h9 => q1_eq (fun _ => q1_ret (rp_i hs h9)) (fun _ => q1_ret (rp_i hs h9)))
  have b37 : ∀ s1 : Int32, (s1.toInt ≤ 0 → x ≠ 0 → 1 ≤ w.toInt) → P1 (mX9_rule_b37 x w s1 σ) (RP (σ.1 9)) := fun s1 hs => by
    unfold mX9_rule_b37
    refine le0 (fun q => ?_) (fun _ => q1_ret (rp_0 h))
    by_cases e : x = 0
    · simp only [e, if_true]; exact b64 3 s1 (by omega) (fun e => by omega)
    · simp only [e, if_false]; exact b64 4 s1 (by omega) (fun _ => hs q e)
  have b26 : ∀ s3 : Int32, (x ≠ 0 → 1 ≤ x.toInt) → P1 (mX9_rule_b26 x w w x s3 σ) (RP (σ.1 9)) := fun s3 hx => by
    unfold mX9_rule_b26
    refine q1_ro o_isIn (fun y hy => ?_)
    dsimp only
    refine q1_eq (fun _ => b37 _ (fun e => absurd e (by decide))) (fun q => b37 _ (fun _ e => ?_))
    have := hy.2 q
    have := hx e
    omega
  unfold mX9_rule
  refine q1_ro o_isIn (fun y hy => ?_)
  dsimp only
  refine q1_eq (fun _ => b37 _ (fun e => absurd e (by decide))) (fun q => ?_)
  have hx := hy.2 q
  rw [kt_0] at hx
  have hx1 : x ≠ 0 → 1 ≤ x.toInt := fun e => by
    have : x.toInt ≠ 0 := fun e2 => e (Int32.toInt_inj.mp (by rw [e2]; decide))
    omega
  exact q1_eq (fun _ => b26 _ hx1) (fun _ => b26 _ hx1)
theorem ur_lock (h : RI σ) : P1 (mX9_lock σ) (RP 0) := by
  have hR := ri_90 h
  unfold mX9_lock
  refine q1_bind (show mX9_took σ = some (σ.1 9, rSf σ 9 0) from rfl) ?_
  dsimp only
  refine q1_ro (o_isWord h.2.1) (fun y hy => ?_)
  dsimp only
  refine q1_eq (fun q => ?_) (fun q => ?_)
  · unfold mX9_lock_b19
    exact le0 (fun e => absurd e (by decide)) (fun _ => q1_ret ⟨ri_0 hR, (sf_ne (by decide)).trans sf_eq⟩)
  · have hn := hy.2 q
    obtain ⟨n, hn6, hne⟩ := nI_back (x := σ.1 9) (by omega) (by omega)
    have en : (nI n).toInt = (n : Int) := nI_toInt (by omega)
    rw [hne, en] at hn
    unfold mX9_lock_b19
    refine le0 (fun _ => ?_) (fun e => absurd e (by decide))
    rw [hne]
    exact q1_act (ri_0 hR) ((sf_ne (by decide)).trans sf_eq) (act := fun u => mX9_lock0 (nI 0) (nI n) u) (fun u hu => a_lock0 hu (by omega) (by omega)) (fun v s hs h9 => q1_eq (fun _ => q1_ret (rp_i hs h9)) (fun _ => q1_ret (rp_i hs h9)))
theorem ur_tell (h : RI σ) {x : Int32} : P1 (mX9_tell x σ) (RP 0) := by
  unfold mX9_tell
  refine q1_call (o_tookTold h) (fun v s hs => ?_)
  obtain ⟨hv, hR, h9, hr, hf⟩ := hs
  dsimp only
  refine q1_le rfl (show (60 : Int32).toInt = 60 by decide) (fun q2 => ?_) (fun q2 => ?_)
  · have hv0 : 0 ≤ v.toInt := by rw [hv]; exact h.2.1.1
    obtain ⟨n, hn6, hne⟩ := nI_back (x := v) (by omega) (by omega)
    have en : (nI n).toInt = (n : Int) := nI_toInt (by omega)
    rw [hne, en] at q2
    rw [hne]
    unfold mX9_tell_b17
    refine le0 (fun _ => ?_) (fun e => absurd e (by decide))
    exact q1_act (ri_0 hR) ((sf_ne (by decide)).trans h9) (act := fun u => mX9_tell0 x (nI n) u) (fun u hu => a_tell0 hu (by omega)) (fun v s hs h9 => q1_eq (fun _ => q1_ret (rp_i hs h9)) (fun _ => built_rp hs h9 (fun _ => rfl)))
  · unfold mX9_tell_b17
    exact le0 (fun e => absurd e (by decide)) (fun _ => q1_ret ⟨ri_0 hR, (sf_ne (by decide)).trans h9⟩)
theorem ur_file (h : RI σ) : P1 (mX9_file σ) (RP 0) := by
  obtain ⟨t, ht6, ht⟩ := nI_back h.2.1.1 (by have := h.2.1.2; omega)
  have ht4 : t ≤ 400 := by have := h.2.1.2; rw [ht, nI_toInt (by omega)] at this; omega
  have hV := h.1.1
  have key : ∀ (d k : Nat) (s : RS9), (∀ z, z ≠ 1 → s.2 z = σ.2 z) → (∀ z, z ≠ 0 → z ≠ 9 → s.1 z = σ.1 z) → s.1 9 = 0 → s.2 1 0 = nI t → (∀ j, 1 ≤ j → (j < 43 ∨ 443 ≤ j) → s.2 1 j = σ.2 1 j) → k ≤ t → 1000 < k + d → P1 (mX9_file_l19 d (nI t) (nI k) s) (RP 0) := by
    intro d
    induction d with
    | zero => intro k s _ _ _ _ _ hk hm; exfalso; omega
    | succ d ih =>
      intro k s h1 h2 h9 h0 hm2 hk hm
      have ek : (nI k).toInt = (k : Int) := nI_toInt (by omega)
      have et : (nI t).toInt = (t : Int) := nI_toInt (by omega)
      unfold mX9_file_l19
      refine q1_le et ek (fun q => ?_) (fun q => ?_)
      · have hVs : VM9 (s.2 1) := by
          obtain ⟨v1, v2, v3, v4, v5, v6, v7⟩ := hV
          refine ⟨by rw [h0, et]; omega, by rw [hm2 4 (by omega) (by omega)]; exact v2, by rw [hm2 5 (by omega) (by omega)]; exact v3, by rw [hm2 42 (by omega) (by omega)]; exact v4, fun p hp => by rw [hm2 _ (by omega) (by omega)]; exact v5 p hp, fun k hk => by rw [hm2 _ (by omega) (by omega)]; exact v6 k hk, fun l hl => by rw [hm2 _ (by omega) (by omega)]; exact v7 l hl⟩
        refine q1_call (a_cutsAnew hVs) (fun w u hu => ?_)
        dsimp only
        have g9 : (rSf u 5 0).1 9 = 0 := (sf_ne (by decide)).trans ((hu.2.2 9 (by omega)).trans h9)
        refine q1_ret ⟨⟨core_fr hu.1 rfl (fun _ _ _ => rfl) (sf_ne (by decide)) (sf_ne (by decide)), by rw [g9]; decide, ⟨0, sf_eq, by omega, fun s hs => absurd hs (by omega)⟩, im_fr h.2.2.2 ((hu.2.1 3 (by omega)).trans (h1 3 (by decide))) ((sf_ne (by decide)).trans ((hu.2.2 6 (by omega)).trans (h2 6 (by decide) (by decide))))⟩, g9⟩
      · rw [show (43 : Int32) = nI 43 from rfl, nI_add, nI_1]
        refine q1_ck (inb_nI (n := 400) (by omega) (by decide)) (q1_ck (cr1 (by omega)) ?_)
        refine ih (k + 1) _ (fun z hz => (sa_ne hz).trans (h1 z hz)) h2 h9 ?_ (fun j j1 hj => ?_) (by omega) (by omega)
        · rw [sa_nI (by omega), if_neg (by omega)]; exact h0
        · rw [sa_nI (by omega), if_neg (by omega)]; exact hm2 j j1 hj
  unfold mX9_file
  refine q1_bind (show mX9_took (rSf σ 0 0) = some (σ.1 9, rSf (rSf σ 0 0) 9 0) from rfl) ?_
  dsimp only
  refine q1_ck rfl ?_
  rw [ht]
  refine key rFU 0 _ (fun z hz => sa_ne hz) (fun z z0 z9 => (sf_ne z9).trans (sf_ne z0)) (show (rSf (rSf σ 0 0) 9 0).1 9 = 0 from sf_eq) ?_ (fun j j1 hj => ?_) (by omega) (by unfold rFU; omega)
  · exact sa_nI (c := 0) (i := 0) (by omega)
  · refine (sa_nI (c := 0) (by omega)).trans ?_
    rw [if_neg (by omega)]; rfl
end DONE
