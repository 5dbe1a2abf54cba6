/-! between two calls of the law -/
def INV (F : AH) (n : Nat) (σ : RS9) : Prop := ∃ G : TE, WT G F (σ.1 9) F n ∧ RI (fl G) σ ∧ F = rHm F σ ∧ ∃ g0, F 223 = oCell g0
theorem g_ix {i k : Nat} (h : rIx i = some k) : 182 ≤ i ∧ i ≤ 222 := by
  unfold rIx at h
  split at h <;> first | omega | cases h
theorem hm_off {f : AH} {σ : RS9} {i : Nat} (h : i < 181 ∨ 222 < i) : rHm f σ i = f i := by
  unfold rHm
  rw [if_neg (by omega)]
  cases e : rIx i with
  | none => rfl
  | some k =>
    have := g_ix e
    omega
theorem hm_eq {f f' : AH} {σ : RS9} (h : ∀ i, 181 ≤ i → i ≤ 222 → f' i = f i) (e : f = rHm f σ) : f' = rHm f' σ := by
  funext i
  by_cases hi : i < 181 ∨ 222 < i
  · exact (hm_off hi).symm
  · rw [h i (by omega) (by omega), congrFun e i]
    unfold rHm
    by_cases h1 : i = 181
    · rw [if_pos h1, if_pos h1]
    · rw [if_neg h1, if_neg h1]
      cases e2 : rIx i with
      | some k => rfl
      | none =>
        show f i = f' i
        exact (h i (by omega) (by omega)).symm
theorem hm_id (f : AH) (σ : RS9) : rHm f σ = rHm (rHm f σ) σ := by
  funext i
  by_cases hi : i < 181 ∨ 222 < i
  · exact (hm_off hi).symm
  · unfold rHm
    by_cases h1 : i = 181
    · rw [if_pos h1, if_pos h1]
    · rw [if_neg h1, if_neg h1]
      cases e2 : rIx i <;> rfl
theorem wt_tr {G : TE} {F f F2 : AH} {S : Int32} {n n' : Nat} (hW : WT G F S f n) (hn : n ≤ n') (h : ∀ i, i < 181 ∨ 223 < i → F2 i = f i) : WT G F2 S F2 n' := by
  refine ⟨fun j => ?_, fun j hj => Nat.lt_of_lt_of_le (hW.2.1 j hj) hn, fun j a b => ⟨(hW.2.2.1 j a b).1, rfl⟩, Nat.le_trans hW.2.2.2.1 hn, hW.2.2.2.2.1, hW.2.2.2.2.2.1, ?_⟩
  rotate_left
  · rw [← hW.2.2.2.2.2.2]
    unfold gI
    rw [h 0 (by omega)]
  by_cases hj : G.1 j = 99
  · exact ⟨fun q => by omega, fun q => by omega, fun q => by omega, fun q => by omega⟩
  · have hr : j < 181 ∨ 223 < j := by
      by_cases hh : j < 181 ∨ 223 < j
      · exact hh
      · exact absurd (hW.2.2.1 j (by omega) (by omega)).1 hj
    have e := h j hr
    have h2 := hW.1 j
    unfold okC at h2 ⊢
    rw [e]; exact h2
theorem fl_ext {G G' : TE} (hx : EXT G G') (h0 : G.1 0 = 8) : fl G' = fl G := by
  unfold fl
  rw [(hx 0 (by rw [h0]; decide)).2]
theorem up_ne {f : AH} {i j : Nat} {v : Option AE} (h : i ≠ j) : va_up f j v i = f i := if_neg h
theorem gk {G' : TE} {F f' : AH} {n n' : Nat} {S' : Int32} {σ σ' : RS9} (hI : INV F n σ) (hW : WT G' F S' f' n') (hR : RI (fl G') σ') (hS : σ'.1 9 = S') : (∃ g0, f' 223 = oCell g0) ∧ f' = rHm f' σ ∧ INV (rHm f' σ') n' σ' ∧ ∀ g : Nat → Int64, va_up f' 223 (oCell g) = rHm (va_up f' 223 (oCell g)) σ ∧ ∀ n2, n' ≤ n2 → INV (rHm (va_up f' 223 (oCell g)) σ') n2 σ' := by
  obtain ⟨G, -, -, e, g0, hg⟩ := hI
  have fr : ∀ i, 181 ≤ i → i ≤ 223 → f' i = F i := fun i a b => (hW.2.2.1 i a b).2
  have h1 : f' = rHm f' σ := hm_eq (fun i a b => fr i a (by omega)) e
  have h223 : f' 223 = oCell g0 := (fr 223 (by omega) (by omega)).trans hg
  subst hS
  refine ⟨⟨g0, h223⟩, h1, ⟨G', wt_tr hW (Nat.le_refl _) (fun i hi => hm_off (by omega)), hR, hm_id _ _, g0, (hm_off (by omega)).trans h223⟩, fun g => ⟨hm_eq (fun i a b => up_ne (by omega)) h1, fun n2 hn => ⟨G', wt_tr hW hn (fun i hi => (hm_off (by omega)).trans (up_ne (by omega))), hR, hm_id _ _, g, (hm_off (by omega)).trans (if_pos rfl)⟩⟩⟩
theorem op_p {bI : Int32} {α β : Type} {F : AH} {n : Nat} {σ : RS9} {S' : Int32} (hI : INV F n σ) {o : Option (α × HpN)} {o' : Option (β × RS9)} (hc : PO o (fun v f' n' => ∃ G', WT G' F S' f' n' ∧ fl G' = bI)) (hr : P1 o' (RP bI S')) : ∃ r r', o = some r ∧ o' = some r' ∧ r.2.1 = rHm r.2.1 σ ∧ INV (rHm r.2.1 r'.2) r.2.2 r'.2 := by
  obtain ⟨v, f', n', e, G', hW, rfl⟩ := hc
  obtain ⟨w, σ', e', hR, h9⟩ := hr
  have k := gk hI hW hR h9
  exact ⟨_, _, e, e', k.2.1, k.2.2.1⟩
theorem op_t {bI : Int32} {α β : Type} {F : AH} {n : Nat} {σ : RS9} {S' : Int32} {xs : String → Prop} (hI : INV F n σ) {o : Option ((α ⊕ String) × HpN)} {o' : Option (β × RS9)} (hc : PO o (fun v f' n' => ∃ G', WT G' F S' f' n' ∧ fl G' = bI ∧ ∀ E : String, v = .inr E → xs E)) (hr : P1 o' (RP bI S')) : ∃ r r' g0, o = some r ∧ (∀ E : String, r.1 = .inr E → xs E) ∧ r.2.1 223 = oCell g0 ∧ o' = some r' ∧ ∀ g : Nat → Int64, va_up r.2.1 223 (oCell g) = rHm (va_up r.2.1 223 (oCell g)) σ ∧ ∀ n', r.2.2 ≤ n' → INV (rHm (va_up r.2.1 223 (oCell g)) r'.2) n' r'.2 := by
  obtain ⟨v, f', n', e, G', hW, rfl, hE⟩ := hc
  obtain ⟨w, σ', e', hR, h9⟩ := hr
  have k := gk hI hW hR h9
  obtain ⟨g0, hg⟩ := k.1
  exact ⟨_, _, g0, e, hE, hg, e', k.2.2.2⟩
theorem po_wk {α : Type} {o : Option (α × HpN)} {Q Q' : α → AH → Nat → Prop} (h : PO o Q) (hq : ∀ v f n, Q v f n → Q' v f n) : PO o Q' := by
  obtain ⟨v, f, n, e, q⟩ := h
  exact ⟨v, f, n, e, hq v f n q⟩
theorem inv_x : HXp INV := fun F n σ h => by
  obtain ⟨G, hW, -, e, -⟩ := h
  obtain ⟨fs, hf, -⟩ := wt_ob hW hW.2.2.2.2.1 (by omega) (by omega)
  exact ⟨⟨fs, hf⟩, e⟩
theorem op_0 : OP0 INV := fun F n σ a1 a2 a3 a4 a5 hI => by
  obtain ⟨G, hW, hR, -⟩ := id hI
  have h0 := hW.2.2.2.2.1
  obtain ⟨v, f', n', e, rfl, S', hW', hv⟩ := tX8_feed (v1 := a1) (v2 := a2) (v3 := a3) (v4 := a4) (v5 := a5) hW h0
  obtain ⟨w, σ', e', hR', hw⟩ := ur_feed hR (a := a1) (b := a2) (c := a3) (d := a4) (e := a5)
  have hS : σ'.1 9 = S' ∧ v = w := by
    rcases hv with ⟨p1, p2, p3⟩ | ⟨p1, p2, p3⟩
    · rcases hw with ⟨q1, q2, q3⟩ | ⟨q1, q2, q3⟩
      · have e9 : σ'.1 9 = S' := Int32.toInt_inj.mp (by omega)
        exact ⟨e9, by rw [p3, q3, e9]⟩
      · omega
    · rcases hw with ⟨q1, q2, q3⟩ | ⟨q1, q2, q3⟩
      · omega
      · exact ⟨q2.trans p2.symm, p3.trans q3.symm⟩
  have k := gk hI hW' hR' hS.1
  exact ⟨_, _, e, e', k.2.1, k.2.2.1⟩
theorem op_1 : OP1 INV := fun F n σ a1 hI => by
  obtain ⟨G, hW, hR, -⟩ := id hI
  have h0 := hW.2.2.2.2.1
  obtain ⟨v, f', n', e, rfl, S', hW', hv⟩ := tX8_end (v1 := a1) hW h0
  obtain ⟨w, σ', e', hR', hw⟩ := ur_end hR (a := a1)
  have hS : σ'.1 9 = S' ∧ v = w := by
    rcases hv with ⟨p1, p2, p3, p4⟩ | ⟨p1, p2, p3⟩
    · rcases hw with ⟨q1, q2, q3, q4⟩ | ⟨q1, q2, q3⟩
      · exact ⟨q3.trans p3.symm, p4.trans q4.symm⟩
      · omega
    · rcases hw with ⟨q1, q2, q3, q4⟩ | ⟨q1, q2, q3⟩
      · omega
      · exact ⟨q2.trans p2.symm, p3.trans q3.symm⟩
  have k := gk hI hW' hR' hS.1
  exact ⟨_, _, e, e', k.2.1, k.2.2.1⟩
theorem op_2 : OP2 INV := fun F n σ hI => by
  obtain ⟨G, hW, hR, -⟩ := id hI
  have h0 := hW.2.2.2.2.1
  exact op_t (S' := 0) hI (po_wk (tX8_acts hW h0) (fun v f n hq => by obtain ⟨G2, hx, h1, h2, -⟩ := hq; exact ⟨G2, h1, fl_ext hx h0, h2⟩)) (ur_acts hR)
theorem op_3 : OP3 INV := fun F n σ hI => by
  obtain ⟨G, hW, hR, -⟩ := id hI
  have h0 := hW.2.2.2.2.1
  exact op_p (S' := σ.1 9) hI (po_wk (tX8_fault hW h0) (fun v f n hq => ⟨G, by rw [hq.1, hq.2.1]; exact hW, rfl⟩)) (ur_fault hR)
theorem op_4 : OP4 INV := fun F n σ hI => by
  obtain ⟨G, hW, hR, -⟩ := id hI
  have h0 := hW.2.2.2.2.1
  exact op_p (S' := σ.1 9) hI (po_wk (tX8_why hW h0) (fun v f n hq => ⟨G, by rw [hq.1, hq.2.1]; exact hW, rfl⟩)) (ur_why hR)
theorem op_5 : OP5 INV := fun F n σ hI => by
  obtain ⟨G, hW, hR, -⟩ := id hI
  have h0 := hW.2.2.2.2.1
  exact op_p (S' := 0) hI (po_wk (tX8_file hW h0) (fun v f n hq => by obtain ⟨G2, hx, h1, -⟩ := hq; exact ⟨G2, h1, fl_ext hx h0⟩)) (ur_file hR)
theorem op_6 : OP6 INV := fun F n σ a1 a2 _ hI => by
  obtain ⟨G, hW, hR, -⟩ := id hI
  have h0 := hW.2.2.2.2.1
  exact op_t (S' := σ.1 9) hI (po_wk (tX8_kind (v1 := a1) (v2 := a2) hW h0) (fun v f n hq => by obtain ⟨G2, hx, h1, h2, -⟩ := hq; exact ⟨G2, h1, fl_ext hx h0, h2⟩)) (ur_kind hR)
theorem op_7 : OP7 INV := fun F n σ a1 a2 hI => by
  obtain ⟨G, hW, hR, -⟩ := id hI
  have h0 := hW.2.2.2.2.1
  exact op_t (S' := σ.1 9) hI (po_wk (tX8_rule (v1 := a1) (v2 := a2) hW h0) (fun v f n hq => by obtain ⟨G2, hx, h1, h2, -⟩ := hq; exact ⟨G2, h1, fl_ext hx h0, h2⟩)) (ur_rule hR)
theorem op_8 : OP8 INV := fun F n σ hI => by
  obtain ⟨G, hW, hR, -⟩ := id hI
  have h0 := hW.2.2.2.2.1
  exact op_t (S' := 0) hI (po_wk (tX8_lock hW h0) (fun v f n hq => by obtain ⟨G2, hx, h1, h2, -⟩ := hq; exact ⟨G2, h1, fl_ext hx h0, h2⟩)) (ur_lock hR)
theorem op_9 : OP9 INV := fun F n σ hI => by
  obtain ⟨G, hW, hR, -⟩ := id hI
  have h0 := hW.2.2.2.2.1
  obtain ⟨v, f', n', e, G', hx, hW', hE, -⟩ := tX8_unlock hW h0
  obtain ⟨w, σ', e', hR', h9⟩ := ur_unlock hR
  rw [← fl_ext hx h0] at hR'
  have k := gk hI hW' hR' h9
  refine ⟨_, _, e, e', ?_, k.2.1, k.2.2.1⟩
  cases v with
  | inl y => exact ⟨y, rfl⟩
  | inr E => exact (hE E rfl).elim
theorem op_10 : OP10 INV := fun F n σ a1 hI => by
  obtain ⟨G, hW, hR, -⟩ := id hI
  have h0 := hW.2.2.2.2.1
  exact op_t (S' := 0) hI (po_wk (tX8_tell (v1 := a1) hW h0) (fun v f n hq => by obtain ⟨G2, hx, h1, h2, -⟩ := hq; exact ⟨G2, h1, fl_ext hx h0, h2⟩)) (ur_tell hR)
theorem op_11 : OP11 INV := fun F n σ a1 hI => by
  obtain ⟨G, hW, hR, -⟩ := id hI
  have h0 := hW.2.2.2.2.1
  exact op_t (S' := σ.1 9) hI (po_wk (tX8_free (v1 := a1) hW h0) (fun v f n hq => by obtain ⟨G2, hx, h1, h2, -⟩ := hq; exact ⟨G2, h1, fl_ext hx h0, h2⟩)) (ur_free hR)
theorem op_12 : OP12 INV := fun F n σ a1 hI => by
  obtain ⟨G, hW, hR, -⟩ := id hI
  have h0 := hW.2.2.2.2.1
  exact op_t (S' := σ.1 9) hI (po_wk (tX8_spread (v1 := a1) hW h0) (fun v f n hq => by obtain ⟨G2, hx, h1, h2, -⟩ := hq; exact ⟨G2, h1, fl_ext hx h0, h2⟩)) (ur_spread hR)
theorem op_13 : OP13 INV := fun F n σ a1 a2 hI => by
  obtain ⟨G, hW, hR, -⟩ := id hI
  have h0 := hW.2.2.2.2.1
  exact op_t (S' := σ.1 9) hI (po_wk (tX8_swap (v1 := a1) (v2 := a2) hW h0) (fun v f n hq => by obtain ⟨G2, hx, h1, h2, -⟩ := hq; exact ⟨G2, h1, fl_ext hx h0, h2⟩)) (ur_swap hR)
theorem op_14 : OP14 INV := fun F n σ hI => by
  obtain ⟨G, hW, hR, -⟩ := id hI
  have h0 := hW.2.2.2.2.1
  exact op_t (S' := σ.1 9) hI (po_wk (tX8_wipe hW h0) (fun v f n hq => by obtain ⟨G2, hx, h1, h2, -⟩ := hq; exact ⟨G2, h1, fl_ext hx h0, h2⟩)) (ur_wipe hR)
theorem op_15 : OP15 INV := fun F n σ hI => by
  obtain ⟨G, hW, hR, -⟩ := id hI
  have h0 := hW.2.2.2.2.1
  exact op_t (S' := σ.1 9) hI (po_wk (tX8_undo hW h0) (fun v f n hq => ⟨G, by rw [hq.1]; exact hq.2.1, rfl, hq.2.2.1⟩)) (ur_undo hR)
theorem op_16 : OP16 INV := fun F n σ a1 a2 hI => by
  obtain ⟨G, hW, hR, -⟩ := id hI
  have h0 := hW.2.2.2.2.1
  exact op_t (S' := σ.1 9) hI (po_wk (tX8_piece (v1 := a1) (v2 := a2) hW h0) (fun v f n hq => ⟨G, by rw [hq.1, hq.2.1]; exact hW, rfl, hq.2.2.1⟩)) (ur_piece hR)
theorem op_17 : OP17 INV := fun F n σ a1 a2 a3 _ hI => by
  obtain ⟨G, hW, hR, -⟩ := id hI
  have h0 := hW.2.2.2.2.1
  exact op_t (S' := σ.1 9) hI (po_wk (tX8_octet (v1 := a1) (v2 := a2) (v3 := a3) hW h0) (fun v f n hq => ⟨G, by rw [hq.1, hq.2.1]; exact hW, rfl, hq.2.2.1⟩)) (ur_octet hR)
theorem op_18 : OP18 INV := fun F n σ a1 a2 hI => by
  obtain ⟨G, hW, hR, -⟩ := id hI
  have h0 := hW.2.2.2.2.1
  exact op_t (S' := σ.1 9) hI (po_wk (tX8_origin (v1 := a1) (v2 := a2) hW h0) (fun v f n hq => ⟨G, by rw [hq.1, hq.2.1]; exact hW, rfl, hq.2.2.1⟩)) (ur_origin hR)
theorem op_19 : OP19 INV := fun F n σ a1 a2 hI => by
  obtain ⟨G, hW, hR, -⟩ := id hI
  have h0 := hW.2.2.2.2.1
  exact op_t (S' := σ.1 9) hI (po_wk (tX8_key (v1 := a1) (v2 := a2) hW h0) (fun v f n hq => ⟨G, by rw [hq.1, hq.2.1]; exact hW, rfl, hq.2.2.1⟩)) (ur_key hR)
theorem op_20 : OP20 INV := fun F n σ a1 hI => by
  obtain ⟨G, hW, hR, -⟩ := id hI
  have h0 := hW.2.2.2.2.1
  exact op_p (S' := σ.1 9) hI (po_wk (tX8_holder (v1 := a1) hW h0) (fun v f n hq => ⟨G, by rw [hq.1, hq.2.1]; exact hW, rfl⟩)) (ur_holder hR)
theorem op_21 : OP21 INV := fun F n σ a1 a2 _ hI => by
  obtain ⟨G, hW, hR, -⟩ := id hI
  have h0 := hW.2.2.2.2.1
  exact op_p (S' := σ.1 9) hI (po_wk (tX8_at (v1 := a1) (v2 := a2) hW h0) (fun v f n hq => ⟨G, by rw [hq.1, hq.2.1]; exact hW, rfl⟩)) (ur_at hR)
theorem op_22 : OP22 INV := fun F n σ a1 a2 hI => by
  obtain ⟨G, hW, hR, -⟩ := id hI
  have h0 := hW.2.2.2.2.1
  exact op_t (S' := σ.1 9) hI (po_wk (tX8_like (v1 := a1) (v2 := a2) hW h0) (fun v f n hq => ⟨G, by rw [hq.1, hq.2.1]; exact hW, rfl, hq.2.2.1⟩)) (ur_like hR)
theorem op_23 : OP23 INV := fun F n σ a1 hI => by
  obtain ⟨G, hW, hR, -⟩ := id hI
  have h0 := hW.2.2.2.2.1
  exact op_t (S' := 0) hI (po_wk (tX8_would (v1 := a1) hW h0) (fun v f n hq => by obtain ⟨G2, hx, h1, h2, -⟩ := hq; exact ⟨G2, h1, fl_ext hx h0, h2⟩)) (ur_would hR)
theorem op_24 : OP24 INV := fun F n σ hI => by
  obtain ⟨G, hW, hR, -⟩ := id hI
  have h0 := hW.2.2.2.2.1
  exact op_t (S' := 0) hI (po_wk (tX8_found hW h0) (fun v f n hq => by obtain ⟨G2, hx, h1, h2, -⟩ := hq; exact ⟨G2, h1, fl_ext hx h0, h2⟩)) (ur_found hR)
theorem op_25 : OP25 INV := fun F n σ a1 a2 a3 _ hI => by
  obtain ⟨G, hW, hR, -⟩ := id hI
  have h0 := hW.2.2.2.2.1
  exact op_p (S' := σ.1 9) hI (po_wk (tX8_memory (v1 := a1) (v2 := a2) (v3 := a3) hW h0) (fun v f n hq => ⟨G, by rw [hq.1, hq.2.1]; exact hW, rfl⟩)) (ur_memory hR)
theorem op_26 : OP26 INV := fun F n σ a1 hI => by
  obtain ⟨G, hW, hR, -⟩ := id hI
  have h0 := hW.2.2.2.2.1
  exact op_t (S' := σ.1 9) hI (po_wk (tX8_kept (v1 := a1) hW h0) (fun v f n hq => ⟨G, by rw [hq.1]; exact hq.2.1, rfl, hq.2.2.1⟩)) (ur_kept hR)
theorem op_27 : OP27 INV := fun F n σ hI => by
  obtain ⟨G, hW, hR, -⟩ := id hI
  have h0 := hW.2.2.2.2.1
  exact op_p (S' := σ.1 9) hI (po_wk (tX8_twice hW h0) (fun v f n hq => ⟨G, by rw [hq.1]; exact hq.2.1, rfl⟩)) (ur_twice hR)
theorem op_28 : OP28 INV := fun F n σ hI => by
  obtain ⟨G, hW, hR, -⟩ := id hI
  have h0 := hW.2.2.2.2.1
  exact op_p (bI := 1) (S' := σ.1 9) hI (po_wk (tX8_image rfl hW h0) (fun v f n hq => ⟨(G.1, fun j => if j = 0 then 1 else G.2 j), by rw [hq.1]; exact hq.2.1, rfl⟩)) (ur_image hR)
theorem op_29 : OP29 INV := fun F n σ hI => by
  obtain ⟨G, hW, hR, -⟩ := id hI
  have h0 := hW.2.2.2.2.1
  obtain ⟨v, f', n', e, rfl, hW', hv⟩ := tX8_back rfl hW h0
  obtain ⟨w, σ', e', ⟨hR', h9⟩, hw⟩ := ur_back hR
  have k := gk hI hW' hR' h9
  have hb : v = w := by
    rw [hv, hw, hR.2.2.2.1]
    unfold fl
    by_cases hz : G.2 0 = 0
    · rw [if_pos hz]; rfl
    · rw [if_neg hz]; rfl
  exact ⟨_, _, e, e', hb, k.2.1, k.2.2.1⟩
theorem op_30 : OP30 INV := fun F n σ a1 hI => by
  obtain ⟨G, hW, hR, -⟩ := id hI
  have h0 := hW.2.2.2.2.1
  exact op_p (S' := σ.1 9) hI (po_wk (tX8_count (v1 := a1) hW h0) (fun v f n hq => ⟨G, by rw [hq.1, hq.2.1]; exact hW, rfl⟩)) (ur_count hR)
