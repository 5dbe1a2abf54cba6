/-! between two calls of the law -/
def INV (F : AH) (n : Nat) (σ : RS9) : Prop := ∃ G : TE, WT G F (σ.1 9) F n ∧ RI σ ∧ F = rHm F σ ∧ ∃ g0, F 223 = oCell g0
theorem g_ix {i k : Nat} (h : rIx i = some k) : 182 ≤ i ∧ i ≤ 222 := by
  unfold rIx at h
  split at h <;> first | omega | cases h
theorem hm_off {f : AH} {σ : RS9} {i : Nat} (h : i < 181 ∨ 222 < i) : rHm f σ i = f i := by
  unfold rHm
  rw [if_neg (by omega)]
  cases e : rIx i with
  | none => rfl
  | some k =>
    have := g_ix e
    omega
theorem hm_eq {f f' : AH} {σ : RS9} (h : ∀ i, 181 ≤ i → i ≤ 222 → f' i = f i) (e : f = rHm f σ) : f' = rHm f' σ := by
  funext i
  by_cases hi : i < 181 ∨ 222 < i
  · exact (hm_off hi).symm
  · rw [h i (by omega) (by omega), congrFun e i]
    unfold rHm
    by_cases h1 : i = 181
    · rw [if_pos h1, if_pos h1]
    · rw [if_neg h1, if_neg h1]
      cases e2 : rIx i with
      | some k => rfl
      | none =>
        show f i = f' i
        exact (h i (by omega) (by omega)).symm
theorem hm_id (f : AH) (σ : RS9) : rHm f σ = rHm (rHm f σ) σ := by
  funext i
  by_cases hi : i < 181 ∨ 222 < i
  · exact (hm_off hi).symm
  · unfold rHm
    by_cases h1 : i = 181
    · rw [if_pos h1, if_pos h1]
    · rw [if_neg h1, if_neg h1]
      cases e2 : rIx i <;> rfl
theorem wt_tr {G : TE} {F f F2 : AH} {S : Int32} {n n' : Nat} (hW : WT G F S f n) (hn : n ≤ n') (h : ∀ i, i < 181 ∨ 223 < i → F2 i = f i) : WT G F2 S F2 n' := by
  refine ⟨fun j => ?_, fun j hj => Nat.lt_of_lt_of_le (hW.2.1 j hj) hn, fun j a b => ⟨(hW.2.2.1 j a b).1, rfl⟩, Nat.le_trans hW.2.2.2.1 hn, hW.2.2.2.2⟩
  by_cases hj : G.1 j = 99
  · exact ⟨fun q => by omega, fun q => by omega, fun q => by omega, fun q => by omega⟩
  · have hr : j < 181 ∨ 223 < j := by
      by_cases hh : j < 181 ∨ 223 < j
      · exact hh
      · exact absurd (hW.2.2.1 j (by omega) (by omega)).1 hj
    have e := h j hr
    have h2 := hW.1 j
    unfold okC at h2 ⊢
    rw [e]; exact h2
theorem up_ne {f : AH} {i j : Nat} {v : Option AE} (h : i ≠ j) : va_up f j v i = f i := if_neg h
theorem gk {G' : TE} {F f' : AH} {n n' : Nat} {S' : Int32} {σ σ' : RS9} (hI : INV F n σ) (hW : WT G' F S' f' n') (hR : RI σ') (hS : σ'.1 9 = S') : (∃ g0, f' 223 = oCell g0) ∧ f' = rHm f' σ ∧ INV (rHm f' σ') n' σ' ∧ ∀ g : Nat → Int64, va_up f' 223 (oCell g) = rHm (va_up f' 223 (oCell g)) σ ∧ ∀ n2, n' ≤ n2 → INV (rHm (va_up f' 223 (oCell g)) σ') n2 σ' := by
  obtain ⟨G, -, -, e, g0, hg⟩ := hI
  have fr : ∀ i, 181 ≤ i → i ≤ 223 → f' i = F i := fun i a b => (hW.2.2.1 i a b).2
  have h1 : f' = rHm f' σ := hm_eq (fun i a b => fr i a (by omega)) e
  have h223 : f' 223 = oCell g0 := (fr 223 (by omega) (by omega)).trans hg
  subst hS
  refine ⟨⟨g0, h223⟩, h1, ⟨G', wt_tr hW (Nat.le_refl _) (fun i hi => hm_off (by omega)), hR, hm_id _ _, g0, (hm_off (by omega)).trans h223⟩, fun g => ⟨hm_eq (fun i a b => up_ne (by omega)) h1, fun n2 hn => ⟨G', wt_tr hW hn (fun i hi => (hm_off (by omega)).trans (up_ne (by omega))), hR, hm_id _ _, g, (hm_off (by omega)).trans (if_pos rfl)⟩⟩⟩
theorem op_p {α β : Type} {F : AH} {n : Nat} {σ : RS9} {S' : Int32} (hI : INV F n σ) {o : Option (α × HpN)} {o' : Option (β × RS9)} (hc : PO o (fun v f' n' => ∃ G', WT G' F S' f' n')) (hr : P1 o' (RP S')) : ∃ r r', o = some r ∧ o' = some r' ∧ r.2.1 = rHm r.2.1 σ ∧ INV (rHm r.2.1 r'.2) r.2.2 r'.2 := by
  obtain ⟨v, f', n', e, G', hW⟩ := hc
  obtain ⟨w, σ', e', hR, h9⟩ := hr
  have k := gk hI hW hR h9
  exact ⟨_, _, e, e', k.2.1, k.2.2.1⟩
theorem op_t {α β : Type} {F : AH} {n : Nat} {σ : RS9} {S' : Int32} {xs : String → Prop} (hI : INV F n σ) {o : Option ((α ⊕ String) × HpN)} {o' : Option (β × RS9)} (hc : PO o (fun v f' n' => ∃ G', WT G' F S' f' n' ∧ ∀ E : String, v = .inr E → xs E)) (hr : P1 o' (RP S')) : ∃ r r' g0, o = some r ∧ (∀ E : String, r.1 = .inr E → xs E) ∧ r.2.1 223 = oCell g0 ∧ o' = some r' ∧ ∀ g : Nat → Int64, va_up r.2.1 223 (oCell g) = rHm (va_up r.2.1 223 (oCell g)) σ ∧ ∀ n', r.2.2 ≤ n' → INV (rHm (va_up r.2.1 223 (oCell g)) r'.2) n' r'.2 := by
  obtain ⟨v, f', n', e, G', hW, hE⟩ := hc
  obtain ⟨w, σ', e', hR, h9⟩ := hr
  have k := gk hI hW hR h9
  obtain ⟨g0, hg⟩ := k.1
  exact ⟨_, _, g0, e, hE, hg, e', k.2.2.2⟩
theorem po_wk {α : Type} {o : Option (α × HpN)} {Q Q' : α → AH → Nat → Prop} (h : PO o Q) (hq : ∀ v f n, Q v f n → Q' v f n) : PO o Q' := by
  obtain ⟨v, f, n, e, q⟩ := h
  exact ⟨v, f, n, e, hq v f n q⟩
theorem inv_x : HXp INV := fun F n σ h => by
  obtain ⟨G, hW, -, e, -⟩ := h
  obtain ⟨fs, hf, -⟩ := wt_ob hW hW.2.2.2.2.1 (by omega) (by omega)
  exact ⟨⟨fs, hf⟩, e⟩
theorem oo_0 : ∀ (F : AH) (n : Nat) (σ : RS9) (a1 a2 a3 a4 a5 : Int32), INV F n σ → ∃ r r', mX8_feed 0 a1 a2 a3 a4 a5 F n = some r ∧ mX9_feed a1 a2 a3 a4 a5 σ = some r' ∧ r.2.1 = rHm r.2.1 σ ∧ INV (rHm r.2.1 r'.2) r.2.2 r'.2 := fun F n σ a1 a2 a3 a4 a5 hI => by
  obtain ⟨G, hW, hR, -⟩ := id hI
  have h0 := hW.2.2.2.2.1
  obtain ⟨v, f', n', e, rfl, S', hW', hv⟩ := tX8_feed (v1 := a1) (v2 := a2) (v3 := a3) (v4 := a4) (v5 := a5) hW h0
  obtain ⟨w, σ', e', hR', hw⟩ := ur_feed hR (a := a1) (b := a2) (c := a3) (d := a4) (e := a5)
  have hS : σ'.1 9 = S' ∧ v = w := by
    rcases hv with ⟨p1, p2, p3⟩ | ⟨p1, p2, p3⟩
    · rcases hw with ⟨q1, q2, q3⟩ | ⟨q1, q2, q3⟩
      · have e9 : σ'.1 9 = S' := Int32.toInt_inj.mp (by omega)
        exact ⟨e9, by rw [p3, q3, e9]⟩
      · omega
    · rcases hw with ⟨q1, q2, q3⟩ | ⟨q1, q2, q3⟩
      · omega
      · exact ⟨q2.trans p2.symm, p3.trans q3.symm⟩
  have k := gk hI hW' hR' hS.1
  exact ⟨_, _, e, e', k.2.1, k.2.2.1⟩
theorem oo_1 : ∀ (F : AH) (n : Nat) (σ : RS9) (a1 : Int32), INV F n σ → ∃ r r', mX8_end 0 a1 F n = some r ∧ mX9_end a1 σ = some r' ∧ r.2.1 = rHm r.2.1 σ ∧ INV (rHm r.2.1 r'.2) r.2.2 r'.2 := fun F n σ a1 hI => by
  obtain ⟨G, hW, hR, -⟩ := id hI
  have h0 := hW.2.2.2.2.1
  obtain ⟨v, f', n', e, rfl, S', hW', hv⟩ := tX8_end (v1 := a1) hW h0
  obtain ⟨w, σ', e', hR', hw⟩ := ur_end hR (a := a1)
  have hS : σ'.1 9 = S' ∧ v = w := by
    rcases hv with ⟨p1, p2, p3, p4⟩ | ⟨p1, p2, p3⟩
    · rcases hw with ⟨q1, q2, q3, q4⟩ | ⟨q1, q2, q3⟩
      · exact ⟨q3.trans p3.symm, p4.trans q4.symm⟩
      · omega
    · rcases hw with ⟨q1, q2, q3, q4⟩ | ⟨q1, q2, q3⟩
      · omega
      · exact ⟨q2.trans p2.symm, p3.trans q3.symm⟩
  have k := gk hI hW' hR' hS.1
  exact ⟨_, _, e, e', k.2.1, k.2.2.1⟩
theorem oo_2 : ∀ (F : AH) (n : Nat) (σ : RS9), INV F n σ → ∃ r r' g0, mX8_acts 0 F n = some r ∧ (∀ E : String, r.1 = .inr E → E = eA) ∧ r.2.1 223 = oCell g0 ∧ mX9_acts σ = some r' ∧ ∀ g : Nat → Int64, va_up r.2.1 223 (oCell g) = rHm (va_up r.2.1 223 (oCell g)) σ ∧ ∀ n', r.2.2 ≤ n' → INV (rHm (va_up r.2.1 223 (oCell g)) r'.2) n' r'.2 := fun F n σ hI => by
  obtain ⟨G, hW, hR, -⟩ := id hI
  have h0 := hW.2.2.2.2.1
  exact op_t (S' := 0) hI (po_wk (tX8_acts hW h0) (fun v f n hq => by obtain ⟨G2, -, h1, h2, -⟩ := hq; exact ⟨G2, h1, h2⟩)) (ur_acts hR)
theorem oo_3 : ∀ (F : AH) (n : Nat) (σ : RS9), INV F n σ → ∃ r r', mX8_fault 0 F n = some r ∧ mX9_fault σ = some r' ∧ r.2.1 = rHm r.2.1 σ ∧ INV (rHm r.2.1 r'.2) r.2.2 r'.2 := fun F n σ hI => by
  obtain ⟨G, hW, hR, -⟩ := id hI
  have h0 := hW.2.2.2.2.1
  exact op_p (S' := σ.1 9) hI (po_wk (tX8_fault hW h0) (fun v f n hq => ⟨G, by rw [hq.1, hq.2.1]; exact hW⟩)) (ur_fault hR)
theorem oo_4 : ∀ (F : AH) (n : Nat) (σ : RS9), INV F n σ → ∃ r r', mX8_why 0 F n = some r ∧ mX9_why σ = some r' ∧ r.2.1 = rHm r.2.1 σ ∧ INV (rHm r.2.1 r'.2) r.2.2 r'.2 := fun F n σ hI => by
  obtain ⟨G, hW, hR, -⟩ := id hI
  have h0 := hW.2.2.2.2.1
  exact op_p (S' := σ.1 9) hI (po_wk (tX8_why hW h0) (fun v f n hq => ⟨G, by rw [hq.1, hq.2.1]; exact hW⟩)) (ur_why hR)
theorem oo_5 : ∀ (F : AH) (n : Nat) (σ : RS9), INV F n σ → ∃ r r', mX8_file 0 F n = some r ∧ mX9_file σ = some r' ∧ r.2.1 = rHm r.2.1 σ ∧ INV (rHm r.2.1 r'.2) r.2.2 r'.2 := fun F n σ hI => by
  obtain ⟨G, hW, hR, -⟩ := id hI
  have h0 := hW.2.2.2.2.1
  exact op_p (S' := 0) hI (po_wk (tX8_file hW h0) (fun v f n hq => by obtain ⟨G2, -, h1, -⟩ := hq; exact ⟨G2, h1⟩)) (ur_file hR)
theorem oo_6 : ∀ (F : AH) (n : Nat) (σ : RS9) (a1 a2 : Int32), (a2 = 0 ∨ a2 = 1) → INV F n σ → ∃ r r' g0, mX8_kind 0 a1 a2 F n = some r ∧ (∀ E : String, r.1 = .inr E → E = eA) ∧ r.2.1 223 = oCell g0 ∧ mX9_kind a1 a2 σ = some r' ∧ ∀ g : Nat → Int64, va_up r.2.1 223 (oCell g) = rHm (va_up r.2.1 223 (oCell g)) σ ∧ ∀ n', r.2.2 ≤ n' → INV (rHm (va_up r.2.1 223 (oCell g)) r'.2) n' r'.2 := fun F n σ a1 a2 _ hI => by
  obtain ⟨G, hW, hR, -⟩ := id hI
  have h0 := hW.2.2.2.2.1
  exact op_t (S' := σ.1 9) hI (po_wk (tX8_kind (v1 := a1) (v2 := a2) hW h0) (fun v f n hq => by obtain ⟨G2, -, h1, h2, -⟩ := hq; exact ⟨G2, h1, h2⟩)) (ur_kind hR)
theorem oo_7 : ∀ (F : AH) (n : Nat) (σ : RS9) (a1 a2 : Int32), INV F n σ → ∃ r r' g0, mX8_rule 0 a1 a2 F n = some r ∧ (∀ E : String, r.1 = .inr E → E = eN ∨ E = eA) ∧ r.2.1 223 = oCell g0 ∧ mX9_rule a1 a2 σ = some r' ∧ ∀ g : Nat → Int64, va_up r.2.1 223 (oCell g) = rHm (va_up r.2.1 223 (oCell g)) σ ∧ ∀ n', r.2.2 ≤ n' → INV (rHm (va_up r.2.1 223 (oCell g)) r'.2) n' r'.2 := fun F n σ a1 a2 hI => by
  obtain ⟨G, hW, hR, -⟩ := id hI
  have h0 := hW.2.2.2.2.1
  exact op_t (S' := σ.1 9) hI (po_wk (tX8_rule (v1 := a1) (v2 := a2) hW h0) (fun v f n hq => by obtain ⟨G2, -, h1, h2, -⟩ := hq; exact ⟨G2, h1, h2⟩)) (ur_rule hR)
theorem oo_8 : ∀ (F : AH) (n : Nat) (σ : RS9), INV F n σ → ∃ r r' g0, mX8_lock 0 F n = some r ∧ (∀ E : String, r.1 = .inr E → E = eA ∨ E = eS) ∧ r.2.1 223 = oCell g0 ∧ mX9_lock σ = some r' ∧ ∀ g : Nat → Int64, va_up r.2.1 223 (oCell g) = rHm (va_up r.2.1 223 (oCell g)) σ ∧ ∀ n', r.2.2 ≤ n' → INV (rHm (va_up r.2.1 223 (oCell g)) r'.2) n' r'.2 := fun F n σ hI => by
  obtain ⟨G, hW, hR, -⟩ := id hI
  have h0 := hW.2.2.2.2.1
  exact op_t (S' := 0) hI (po_wk (tX8_lock hW h0) (fun v f n hq => by obtain ⟨G2, -, h1, h2, -⟩ := hq; exact ⟨G2, h1, h2⟩)) (ur_lock hR)
theorem oo_9 : ∀ (F : AH) (n : Nat) (σ : RS9), INV F n σ → ∃ r r', mX8_unlock 0 F n = some r ∧ mX9_unlock σ = some r' ∧ (∃ v, r.1 = .inl v) ∧ r.2.1 = rHm r.2.1 σ ∧ INV (rHm r.2.1 r'.2) r.2.2 r'.2 := fun F n σ hI => by
  obtain ⟨G, hW, hR, -⟩ := id hI
  have h0 := hW.2.2.2.2.1
  obtain ⟨v, f', n', e, G', -, hW', hE, -⟩ := tX8_unlock hW h0
  obtain ⟨w, σ', e', hR', h9⟩ := ur_unlock hR
  have k := gk hI hW' hR' h9
  refine ⟨_, _, e, e', ?_, k.2.1, k.2.2.1⟩
  cases v with
  | inl y => exact ⟨y, rfl⟩
  | inr E => exact (hE E rfl).elim
theorem oo_10 : ∀ (F : AH) (n : Nat) (σ : RS9) (a1 : Int32), INV F n σ → ∃ r r' g0, mX8_tell 0 a1 F n = some r ∧ (∀ E : String, r.1 = .inr E → E = eA ∨ E = eS) ∧ r.2.1 223 = oCell g0 ∧ mX9_tell a1 σ = some r' ∧ ∀ g : Nat → Int64, va_up r.2.1 223 (oCell g) = rHm (va_up r.2.1 223 (oCell g)) σ ∧ ∀ n', r.2.2 ≤ n' → INV (rHm (va_up r.2.1 223 (oCell g)) r'.2) n' r'.2 := fun F n σ a1 hI => by
  obtain ⟨G, hW, hR, -⟩ := id hI
  have h0 := hW.2.2.2.2.1
  exact op_t (S' := 0) hI (po_wk (tX8_tell (v1 := a1) hW h0) (fun v f n hq => by obtain ⟨G2, -, h1, h2, -⟩ := hq; exact ⟨G2, h1, h2⟩)) (ur_tell hR)
theorem oo_11 : ∀ (F : AH) (n : Nat) (σ : RS9) (a1 : Int32), INV F n σ → ∃ r r' g0, mX8_free 0 a1 F n = some r ∧ (∀ E : String, r.1 = .inr E → E = eS) ∧ r.2.1 223 = oCell g0 ∧ mX9_free a1 σ = some r' ∧ ∀ g : Nat → Int64, va_up r.2.1 223 (oCell g) = rHm (va_up r.2.1 223 (oCell g)) σ ∧ ∀ n', r.2.2 ≤ n' → INV (rHm (va_up r.2.1 223 (oCell g)) r'.2) n' r'.2 := fun F n σ a1 hI => by
  obtain ⟨G, hW, hR, -⟩ := id hI
  have h0 := hW.2.2.2.2.1
  exact op_t (S' := σ.1 9) hI (po_wk (tX8_free (v1 := a1) hW h0) (fun v f n hq => by obtain ⟨G2, -, h1, h2, -⟩ := hq; exact ⟨G2, h1, h2⟩)) (ur_free hR)
theorem oo_12 : ∀ (F : AH) (n : Nat) (σ : RS9) (a1 : Int32), INV F n σ → ∃ r r' g0, mX8_spread 0 a1 F n = some r ∧ (∀ E : String, r.1 = .inr E → E = eS) ∧ r.2.1 223 = oCell g0 ∧ mX9_spread a1 σ = some r' ∧ ∀ g : Nat → Int64, va_up r.2.1 223 (oCell g) = rHm (va_up r.2.1 223 (oCell g)) σ ∧ ∀ n', r.2.2 ≤ n' → INV (rHm (va_up r.2.1 223 (oCell g)) r'.2) n' r'.2 := fun F n σ a1 hI => by
  obtain ⟨G, hW, hR, -⟩ := id hI
  have h0 := hW.2.2.2.2.1
  exact op_t (S' := σ.1 9) hI (po_wk (tX8_spread (v1 := a1) hW h0) (fun v f n hq => by obtain ⟨G2, -, h1, h2, -⟩ := hq; exact ⟨G2, h1, h2⟩)) (ur_spread hR)
theorem oo_13 : ∀ (F : AH) (n : Nat) (σ : RS9) (a1 a2 : Int32), INV F n σ → ∃ r r' g0, mX8_swap 0 a1 a2 F n = some r ∧ (∀ E : String, r.1 = .inr E → E = eS) ∧ r.2.1 223 = oCell g0 ∧ mX9_swap a1 a2 σ = some r' ∧ ∀ g : Nat → Int64, va_up r.2.1 223 (oCell g) = rHm (va_up r.2.1 223 (oCell g)) σ ∧ ∀ n', r.2.2 ≤ n' → INV (rHm (va_up r.2.1 223 (oCell g)) r'.2) n' r'.2 := fun F n σ a1 a2 hI => by
  obtain ⟨G, hW, hR, -⟩ := id hI
  have h0 := hW.2.2.2.2.1
  exact op_t (S' := σ.1 9) hI (po_wk (tX8_swap (v1 := a1) (v2 := a2) hW h0) (fun v f n hq => by obtain ⟨G2, -, h1, h2, -⟩ := hq; exact ⟨G2, h1, h2⟩)) (ur_swap hR)
theorem oo_14 : ∀ (F : AH) (n : Nat) (σ : RS9), INV F n σ → ∃ r r' g0, mX8_wipe 0 F n = some r ∧ (∀ E : String, r.1 = .inr E → E = eS) ∧ r.2.1 223 = oCell g0 ∧ mX9_wipe σ = some r' ∧ ∀ g : Nat → Int64, va_up r.2.1 223 (oCell g) = rHm (va_up r.2.1 223 (oCell g)) σ ∧ ∀ n', r.2.2 ≤ n' → INV (rHm (va_up r.2.1 223 (oCell g)) r'.2) n' r'.2 := fun F n σ hI => by
  obtain ⟨G, hW, hR, -⟩ := id hI
  have h0 := hW.2.2.2.2.1
  exact op_t (S' := σ.1 9) hI (po_wk (tX8_wipe hW h0) (fun v f n hq => by obtain ⟨G2, -, h1, h2, -⟩ := hq; exact ⟨G2, h1, h2⟩)) (ur_wipe hR)
theorem oo_15 : ∀ (F : AH) (n : Nat) (σ : RS9), INV F n σ → ∃ r r' g0, mX8_undo 0 F n = some r ∧ (∀ E : String, r.1 = .inr E → E = eS) ∧ r.2.1 223 = oCell g0 ∧ mX9_undo σ = some r' ∧ ∀ g : Nat → Int64, va_up r.2.1 223 (oCell g) = rHm (va_up r.2.1 223 (oCell g)) σ ∧ ∀ n', r.2.2 ≤ n' → INV (rHm (va_up r.2.1 223 (oCell g)) r'.2) n' r'.2 := fun F n σ hI => by
  obtain ⟨G, hW, hR, -⟩ := id hI
  have h0 := hW.2.2.2.2.1
  exact op_t (S' := σ.1 9) hI (po_wk (tX8_undo hW h0) (fun v f n hq => ⟨G, by rw [hq.1]; exact hq.2.1, hq.2.2.1⟩)) (ur_undo hR)
theorem oo_16 : ∀ (F : AH) (n : Nat) (σ : RS9) (a1 a2 : Int32), INV F n σ → ∃ r r' g0, mX8_piece 0 a1 a2 F n = some r ∧ (∀ E : String, r.1 = .inr E → E = eI ∨ E = eN) ∧ r.2.1 223 = oCell g0 ∧ mX9_piece a1 a2 σ = some r' ∧ ∀ g : Nat → Int64, va_up r.2.1 223 (oCell g) = rHm (va_up r.2.1 223 (oCell g)) σ ∧ ∀ n', r.2.2 ≤ n' → INV (rHm (va_up r.2.1 223 (oCell g)) r'.2) n' r'.2 := fun F n σ a1 a2 hI => by
  obtain ⟨G, hW, hR, -⟩ := id hI
  have h0 := hW.2.2.2.2.1
  exact op_t (S' := σ.1 9) hI (po_wk (tX8_piece (v1 := a1) (v2 := a2) hW h0) (fun v f n hq => ⟨G, by rw [hq.1, hq.2.1]; exact hW, hq.2.2.1⟩)) (ur_piece hR)
theorem oo_17 : ∀ (F : AH) (n : Nat) (σ : RS9) (a1 a2 a3 : Int32), (a3 = 0 ∨ a3 = 1) → INV F n σ → ∃ r r' g0, mX8_octet 0 a1 a2 a3 F n = some r ∧ (∀ E : String, r.1 = .inr E → E = eI) ∧ r.2.1 223 = oCell g0 ∧ mX9_octet a1 a2 a3 σ = some r' ∧ ∀ g : Nat → Int64, va_up r.2.1 223 (oCell g) = rHm (va_up r.2.1 223 (oCell g)) σ ∧ ∀ n', r.2.2 ≤ n' → INV (rHm (va_up r.2.1 223 (oCell g)) r'.2) n' r'.2 := fun F n σ a1 a2 a3 _ hI => by
  obtain ⟨G, hW, hR, -⟩ := id hI
  have h0 := hW.2.2.2.2.1
  exact op_t (S' := σ.1 9) hI (po_wk (tX8_octet (v1 := a1) (v2 := a2) (v3 := a3) hW h0) (fun v f n hq => ⟨G, by rw [hq.1, hq.2.1]; exact hW, hq.2.2.1⟩)) (ur_octet hR)
theorem oo_18 : ∀ (F : AH) (n : Nat) (σ : RS9) (a1 a2 : Int32), INV F n σ → ∃ r r' g0, mX8_origin 0 a1 a2 F n = some r ∧ (∀ E : String, r.1 = .inr E → E = eI) ∧ r.2.1 223 = oCell g0 ∧ mX9_origin a1 a2 σ = some r' ∧ ∀ g : Nat → Int64, va_up r.2.1 223 (oCell g) = rHm (va_up r.2.1 223 (oCell g)) σ ∧ ∀ n', r.2.2 ≤ n' → INV (rHm (va_up r.2.1 223 (oCell g)) r'.2) n' r'.2 := fun F n σ a1 a2 hI => by
  obtain ⟨G, hW, hR, -⟩ := id hI
  have h0 := hW.2.2.2.2.1
  exact op_t (S' := σ.1 9) hI (po_wk (tX8_origin (v1 := a1) (v2 := a2) hW h0) (fun v f n hq => ⟨G, by rw [hq.1, hq.2.1]; exact hW, hq.2.2.1⟩)) (ur_origin hR)
theorem oo_19 : ∀ (F : AH) (n : Nat) (σ : RS9) (a1 a2 : Int32), INV F n σ → ∃ r r' g0, mX8_key 0 a1 a2 F n = some r ∧ (∀ E : String, r.1 = .inr E → E = eI ∨ E = eN) ∧ r.2.1 223 = oCell g0 ∧ mX9_key a1 a2 σ = some r' ∧ ∀ g : Nat → Int64, va_up r.2.1 223 (oCell g) = rHm (va_up r.2.1 223 (oCell g)) σ ∧ ∀ n', r.2.2 ≤ n' → INV (rHm (va_up r.2.1 223 (oCell g)) r'.2) n' r'.2 := fun F n σ a1 a2 hI => by
  obtain ⟨G, hW, hR, -⟩ := id hI
  have h0 := hW.2.2.2.2.1
  exact op_t (S' := σ.1 9) hI (po_wk (tX8_key (v1 := a1) (v2 := a2) hW h0) (fun v f n hq => ⟨G, by rw [hq.1, hq.2.1]; exact hW, hq.2.2.1⟩)) (ur_key hR)
theorem oo_20 : ∀ (F : AH) (n : Nat) (σ : RS9) (a1 : Int32), INV F n σ → ∃ r r', mX8_holder 0 a1 F n = some r ∧ mX9_holder a1 σ = some r' ∧ r.2.1 = rHm r.2.1 σ ∧ INV (rHm r.2.1 r'.2) r.2.2 r'.2 := fun F n σ a1 hI => by
  obtain ⟨G, hW, hR, -⟩ := id hI
  have h0 := hW.2.2.2.2.1
  exact op_p (S' := σ.1 9) hI (po_wk (tX8_holder (v1 := a1) hW h0) (fun v f n hq => ⟨G, by rw [hq.1, hq.2.1]; exact hW⟩)) (ur_holder hR)
theorem oo_21 : ∀ (F : AH) (n : Nat) (σ : RS9) (a1 a2 : Int32), (a2 = 0 ∨ a2 = 1) → INV F n σ → ∃ r r', mX8_at 0 a1 a2 F n = some r ∧ mX9_at a1 a2 σ = some r' ∧ r.2.1 = rHm r.2.1 σ ∧ INV (rHm r.2.1 r'.2) r.2.2 r'.2 := fun F n σ a1 a2 _ hI => by
  obtain ⟨G, hW, hR, -⟩ := id hI
  have h0 := hW.2.2.2.2.1
  exact op_p (S' := σ.1 9) hI (po_wk (tX8_at (v1 := a1) (v2 := a2) hW h0) (fun v f n hq => ⟨G, by rw [hq.1, hq.2.1]; exact hW⟩)) (ur_at hR)
theorem oo_22 : ∀ (F : AH) (n : Nat) (σ : RS9) (a1 a2 : Int32), INV F n σ → ∃ r r' g0, mX8_like 0 a1 a2 F n = some r ∧ (∀ E : String, r.1 = .inr E → E = eI) ∧ r.2.1 223 = oCell g0 ∧ mX9_like a1 a2 σ = some r' ∧ ∀ g : Nat → Int64, va_up r.2.1 223 (oCell g) = rHm (va_up r.2.1 223 (oCell g)) σ ∧ ∀ n', r.2.2 ≤ n' → INV (rHm (va_up r.2.1 223 (oCell g)) r'.2) n' r'.2 := fun F n σ a1 a2 hI => by
  obtain ⟨G, hW, hR, -⟩ := id hI
  have h0 := hW.2.2.2.2.1
  exact op_t (S' := σ.1 9) hI (po_wk (tX8_like (v1 := a1) (v2 := a2) hW h0) (fun v f n hq => ⟨G, by rw [hq.1, hq.2.1]; exact hW, hq.2.2.1⟩)) (ur_like hR)
theorem oo_23 : ∀ (F : AH) (n : Nat) (σ : RS9) (a1 : Int32), INV F n σ → ∃ r r' g0, mX8_would 0 a1 F n = some r ∧ (∀ E : String, r.1 = .inr E → E = eI ∨ E = eA) ∧ r.2.1 223 = oCell g0 ∧ mX9_would a1 σ = some r' ∧ ∀ g : Nat → Int64, va_up r.2.1 223 (oCell g) = rHm (va_up r.2.1 223 (oCell g)) σ ∧ ∀ n', r.2.2 ≤ n' → INV (rHm (va_up r.2.1 223 (oCell g)) r'.2) n' r'.2 := fun F n σ a1 hI => by
  obtain ⟨G, hW, hR, -⟩ := id hI
  have h0 := hW.2.2.2.2.1
  exact op_t (S' := 0) hI (po_wk (tX8_would (v1 := a1) hW h0) (fun v f n hq => by obtain ⟨G2, -, h1, h2, -⟩ := hq; exact ⟨G2, h1, h2⟩)) (ur_would hR)
theorem oo_24 : ∀ (F : AH) (n : Nat) (σ : RS9), INV F n σ → ∃ r r' g0, mX8_found 0 F n = some r ∧ (∀ E : String, r.1 = .inr E → E = eA) ∧ r.2.1 223 = oCell g0 ∧ mX9_found σ = some r' ∧ ∀ g : Nat → Int64, va_up r.2.1 223 (oCell g) = rHm (va_up r.2.1 223 (oCell g)) σ ∧ ∀ n', r.2.2 ≤ n' → INV (rHm (va_up r.2.1 223 (oCell g)) r'.2) n' r'.2 := fun F n σ hI => by
  obtain ⟨G, hW, hR, -⟩ := id hI
  have h0 := hW.2.2.2.2.1
  exact op_t (S' := 0) hI (po_wk (tX8_found hW h0) (fun v f n hq => by obtain ⟨G2, -, h1, h2, -⟩ := hq; exact ⟨G2, h1, h2⟩)) (ur_found hR)
theorem oo_25 : ∀ (F : AH) (n : Nat) (σ : RS9) (a1 a2 a3 : Int32), (a2 = 0 ∨ a2 = 1) → INV F n σ → ∃ r r', mX8_memory 0 a1 a2 a3 F n = some r ∧ mX9_memory a1 a2 a3 σ = some r' ∧ r.2.1 = rHm r.2.1 σ ∧ INV (rHm r.2.1 r'.2) r.2.2 r'.2 := fun F n σ a1 a2 a3 _ hI => by
  obtain ⟨G, hW, hR, -⟩ := id hI
  have h0 := hW.2.2.2.2.1
  exact op_p (S' := σ.1 9) hI (po_wk (tX8_memory (v1 := a1) (v2 := a2) (v3 := a3) hW h0) (fun v f n hq => ⟨G, by rw [hq.1, hq.2.1]; exact hW⟩)) (ur_memory hR)
theorem oo_26 : ∀ (F : AH) (n : Nat) (σ : RS9) (a1 : Int32), INV F n σ → ∃ r r' g0, mX8_kept 0 a1 F n = some r ∧ (∀ E : String, r.1 = .inr E → E = eI) ∧ r.2.1 223 = oCell g0 ∧ mX9_kept a1 σ = some r' ∧ ∀ g : Nat → Int64, va_up r.2.1 223 (oCell g) = rHm (va_up r.2.1 223 (oCell g)) σ ∧ ∀ n', r.2.2 ≤ n' → INV (rHm (va_up r.2.1 223 (oCell g)) r'.2) n' r'.2 := fun F n σ a1 hI => by
  obtain ⟨G, hW, hR, -⟩ := id hI
  have h0 := hW.2.2.2.2.1
  exact op_t (S' := σ.1 9) hI (po_wk (tX8_kept (v1 := a1) hW h0) (fun v f n hq => ⟨G, by rw [hq.1]; exact hq.2.1, hq.2.2.1⟩)) (ur_kept hR)
theorem oo_27 : ∀ (F : AH) (n : Nat) (σ : RS9), INV F n σ → ∃ r r', mX8_twice 0 F n = some r ∧ mX9_twice σ = some r' ∧ r.2.1 = rHm r.2.1 σ ∧ INV (rHm r.2.1 r'.2) r.2.2 r'.2 := fun F n σ hI => by
  obtain ⟨G, hW, hR, -⟩ := id hI
  have h0 := hW.2.2.2.2.1
  exact op_p (S' := σ.1 9) hI (po_wk (tX8_twice hW h0) (fun v f n hq => ⟨G, by rw [hq.1]; exact hq.2.1⟩)) (ur_twice hR)
theorem oo_28 : ∀ (F : AH) (n : Nat) (σ : RS9), INV F n σ → ∃ r r', mX8_image 0 F n = some r ∧ mX9_image σ = some r' ∧ r.2.1 = rHm r.2.1 σ ∧ INV (rHm r.2.1 r'.2) r.2.2 r'.2 := fun F n σ hI => by
  obtain ⟨G, hW, hR, -⟩ := id hI
  have h0 := hW.2.2.2.2.1
  exact op_p (S' := σ.1 9) hI (po_wk (tX8_image hW h0) (fun v f n hq => ⟨G, by rw [hq.1]; exact hq.2.1⟩)) (ur_image hR)
theorem oo_29 : ∀ (F : AH) (n : Nat) (σ : RS9), INV F n σ → ∃ r r', mX8_back 0 F n = some r ∧ mX9_back σ = some r' ∧ r.2.1 = rHm r.2.1 σ ∧ INV (rHm r.2.1 r'.2) r.2.2 r'.2 := fun F n σ hI => by
  obtain ⟨G, hW, hR, -⟩ := id hI
  have h0 := hW.2.2.2.2.1
  exact op_p (S' := σ.1 9) hI (po_wk (tX8_back hW h0) (fun v f n hq => ⟨G, by rw [hq.1]; exact hq.2.1⟩)) (ur_back hR)
theorem oo_30 : ∀ (F : AH) (n : Nat) (σ : RS9) (a1 : Int32), INV F n σ → ∃ r r', mX8_count 0 a1 F n = some r ∧ mX9_count a1 σ = some r' ∧ r.2.1 = rHm r.2.1 σ ∧ INV (rHm r.2.1 r'.2) r.2.2 r'.2 := fun F n σ a1 hI => by
  obtain ⟨G, hW, hR, -⟩ := id hI
  have h0 := hW.2.2.2.2.1
  exact op_p (S' := σ.1 9) hI (po_wk (tX8_count (v1 := a1) hW h0) (fun v f n hq => ⟨G, by rw [hq.1, hq.2.1]; exact hW⟩)) (ur_count hR)
