/-! part 31.ch -/
section
/-! the class: what its functions rest on -/
abbrev HpN : Type := AH × Nat
def gI (f : AH) (i ci k : Nat) : Option Int32 := match f i with
  | some (.inr (c, fs)) => if c = ci then (match fs[k]? with
    | some (.int v) => some v
    | _ => none) else none
  | _ => none
def gR (f : AH) (i ci k : Nat) : Option (Option Nat) := match f i with
  | some (.inr (c, fs)) => if c = ci then (match fs[k]? with
    | some .null => some none
    | some (.ref j) => some (some j)
    | _ => none) else none
  | _ => none
def pO (f : AH) (i ci k : Nat) (v : Value) : Option AH := match f i with
  | some (.inr (c, fs)) => if c = ci ∧ k < fs.length then some (va_up f i (some (.inr (ci, fs.set k v)))) else none
  | _ => none
def gL (f : AH) (i : Nat) : Option Nat := match f i with
  | some (.inl (t, n, _)) => if t < 5 then some n else none
  | _ => none
def gIA (f : AH) (i : Nat) (x : Int32) : Option Int32 := match f i with
  | some (.inl (t, n, .inl g)) => if t = 0 ∧ rIn x n = true then some (g x.toNatClampNeg) else none
  | _ => none
def gRA (f : AH) (i : Nat) (x : Int32) : Option (Option Nat) := match f i with
  | some (.inl (t, n, .inr (.inr g))) => if (t = 1 ∨ t = 2 ∨ t = 3) ∧ rIn x n = true then some (g x.toNatClampNeg) else none
  | _ => none
def isO (f : AH) (i ci : Nat) : Bool := match f i with
  | some (.inr (c, _)) => decide (c = ci)
  | _ => false
/-- the class of what an array of kind t holds -/
def tcl : Nat → Nat
  | 1 => 3
  | 2 => 5
  | _ => 7
def pIA (f : AH) (i : Nat) (x v : Int32) : Option AH := match f i with
  | some (.inl (t, n, .inl g)) => if t = 0 ∧ rIn x n = true then some (va_up f i (some (.inl (0, n, .inl (upd g x.toNatClampNeg v))))) else none
  | _ => none
def okR (f : AH) (t : Nat) : Option Nat → Bool
  | none => true
  | some v => isO f v (tcl t)
def pRA (f : AH) (i : Nat) (x : Int32) (w : Option Nat) : Option AH := match f i with
  | some (.inl (t, n, .inr (.inr g))) => if ((t = 1 ∨ t = 2 ∨ t = 3) ∧ rIn x n = true) ∧ okR f t w = true then some (va_up f i (some (.inl (t, n, .inr (.inr (va_up g x.toNatClampNeg w)))))) else none
  | _ => none
def oN {α β : Type} (w : Option α) (a : β) (k : α → β) : β := match w with
  | none => a
  | some j => k j
def tS {α β : Type} (w : α ⊕ String) (hn : HpN) (k : α → Option ((β ⊕ String) × HpN)) : Option ((β ⊕ String) × HpN) := match w with
  | .inr E => some (.inr E, hn)
  | .inl v => k v
theorem tS_l {α β : Type} {w : α ⊕ String} {hn : HpN} {k : α → Option ((β ⊕ String) × HpN)} {v : α} (h : w = .inl v) : tS w hn k = k v := by rw [h]; rfl
theorem tS_r {α β : Type} {w : α ⊕ String} {hn : HpN} {k : α → Option ((β ⊕ String) × HpN)} {E : String} (h : w = .inr E) : tS w hn k = some (.inr E, hn) := by rw [h]; rfl
def QHi (r : Int32 × HpN) : Option Value → AH → Nat → Prop := fun v' f' n' => v' = some (.int r.1) ∧ f' = r.2.1 ∧ n' = r.2.2
def QHv (r : Int32 × HpN) : Option Value → AH → Nat → Prop := fun v' f' n' => v' = none ∧ f' = r.2.1 ∧ n' = r.2.2
def QHl (r : Int64 × HpN) : Option Value → AH → Nat → Prop := fun v' f' n' => v' = some (.long r.1) ∧ f' = r.2.1 ∧ n' = r.2.2
def QHr (r : Option Nat × HpN) : Option Value → AH → Nat → Prop := fun v' f' n' => v' = some (va_rf r.1) ∧ f' = r.2.1 ∧ n' = r.2.2
def QHs (X : GX) (r : Nat × HpN) : Option Value → AH → Nat → Prop := fun v' f' n' => v' = some (.retAddr (X.2.2 (3000 + r.1))) ∧ f' = r.2.1 ∧ n' = r.2.2
def QTr {α : Type} (Q : α × HpN → Option Value → AH → Nat → Prop) (r : (α ⊕ String) × HpN) : Option Value → AH → Nat → Prop := fun v' f' n' => ∃ v : α, r.1 = .inl v ∧ Q (v, r.2) v' f' n'
def QTx {α : Type} (r : (α ⊕ String) × HpN) : String → AH → Nat → Prop := fun E f' n' => r.1 = .inr E ∧ f' = r.2.1 ∧ r.2.2 ≤ n'
theorem rf_or (w : Option Nat) : va_rf w = .null ∨ ∃ a, va_rf w = .ref a := by
  cases w
  · exact Or.inl rfl
  · exact Or.inr ⟨_, rfl⟩
theorem rf_cat (w : Option Nat) : (va_rf w).category = 1 := by cases w <;> rfl
theorem rf_nar (ty : FieldType) (w : Option Nat) : narrow ty (va_rf w) = va_rf w := by cases w <;> cases ty <;> rfl
theorem rf_fit (C : String) (w : Option Nat) : fits (.object C) (va_rf w) = true := by cases w <;> rfl
theorem all1 {a : Value} {l : List Value} (h : a.category = 1) (t : l.all (fun w => w.category == 1) = true) : (a :: l).all (fun w => w.category == 1) = true := by
  show (a.category == 1 && l.all (fun w => w.category == 1)) = true
  rw [h, t]; rfl
theorem ok_rf {lo : List (Option Value)} (k : Nat) {w : Option Nat} (h : lo[k]? = some (some (va_rf w))) : okS lo (k + 1) = true := by
  simp only [okS, h, rf_cat]
  rfl
theorem cs_0 {k : Nat} : (([] : List Value).map fun v => v.category).sum ≤ k := Nat.zero_le _
theorem cs_1 {k : Nat} {v : Value} {l : List Value} (h : v.category = 1) (t : (l.map fun v => v.category).sum ≤ k) : ((v :: l).map fun v => v.category).sum ≤ k + 1 := by
  simp only [List.map_cons, List.sum_cons, h]
  omega
theorem cs_2 {k : Nat} {v : Value} {l : List Value} (h : v.category = 2) (t : (l.map fun v => v.category).sum ≤ k) : ((v :: l).map fun v => v.category).sum ≤ k + 2 := by
  simp only [List.map_cons, List.sum_cons, h]
  omega
theorem gI_ex {f : AH} {i ci k : Nat} {x : Int32} (h : gI f i ci k = some x) : ∃ fs : List Value, f i = some (.inr (ci, fs)) ∧ fs[k]? = some (.int x) := by
  unfold gI at h
  split at h
  · rename_i c fs hf
    split at h
    · rename_i hc
      subst hc
      split at h
      · rename_i v hv
        cases h
        exact ⟨fs, hf, hv⟩
      · cases h
    · cases h
  · cases h
theorem gR_ex {f : AH} {i ci k : Nat} {x : Option Nat} (h : gR f i ci k = some x) : ∃ fs : List Value, f i = some (.inr (ci, fs)) ∧ fs[k]? = some (va_rf x) := by
  unfold gR at h
  split at h
  · rename_i c fs hf
    split at h
    · rename_i hc
      subst hc
      split at h
      · rename_i hv
        cases h
        exact ⟨fs, hf, hv⟩
      · rename_i v hv
        cases h
        exact ⟨fs, hf, hv⟩
      · cases h
    · cases h
  · cases h
theorem pO_ex {f f2 : AH} {i ci k : Nat} {v : Value} (h : pO f i ci k v = some f2) : ∃ fs : List Value, f i = some (.inr (ci, fs)) ∧ k < fs.length ∧ f2 = va_up f i (some (.inr (ci, fs.set k v))) := by
  unfold pO at h
  split at h
  · rename_i c fs hf
    split at h
    · rename_i hc
      obtain ⟨rfl, hk⟩ := hc
      cases h
      exact ⟨fs, hf, hk, rfl⟩
    · cases h
  · cases h
theorem gL_ex {f : AH} {i N : Nat} (h : gL f i = some N) : ∃ (t : Nat) (a : AA), t < 5 ∧ f i = some (.inl (t, N, a)) := by
  unfold gL at h
  split at h
  · rename_i t n a hf
    split at h
    · rename_i ht
      cases h
      exact ⟨t, a, ht, hf⟩
    · cases h
  · cases h
theorem gIA_ex {f : AH} {i : Nat} {x v : Int32} (h : gIA f i x = some v) : ∃ (N : Nat) (g : Nat → Int32), f i = some (.inl (0, N, .inl g)) ∧ rIn x N = true ∧ v = g x.toNatClampNeg := by
  unfold gIA at h
  split at h
  · rename_i t n g hf
    split at h
    · rename_i ht
      obtain ⟨rfl, hb⟩ := ht
      cases h
      exact ⟨n, g, hf, hb, rfl⟩
    · cases h
  · cases h
theorem gRA_ex {f : AH} {i : Nat} {x : Int32} {v : Option Nat} (h : gRA f i x = some v) : ∃ (t N : Nat) (g : Nat → Option Nat), (t = 1 ∨ t = 2 ∨ t = 3) ∧ f i = some (.inl (t, N, .inr (.inr g))) ∧ rIn x N = true ∧ v = g x.toNatClampNeg := by
  unfold gRA at h
  split at h
  · rename_i t n g hf
    split at h
    · rename_i ht
      cases h
      exact ⟨t, n, g, ht.1, hf, ht.2, rfl⟩
    · cases h
  · cases h
theorem pIA_ex {f f2 : AH} {i : Nat} {x v : Int32} (h : pIA f i x v = some f2) : ∃ (N : Nat) (g : Nat → Int32), f i = some (.inl (0, N, .inl g)) ∧ rIn x N = true ∧ f2 = va_up f i (some (.inl (0, N, .inl (upd g x.toNatClampNeg v)))) := by
  unfold pIA at h
  split at h
  · rename_i t n g hf
    split at h
    · rename_i ht
      obtain ⟨rfl, hb⟩ := ht
      cases h
      exact ⟨n, g, hf, hb, rfl⟩
    · cases h
  · cases h
theorem pRA_ex {f f2 : AH} {i : Nat} {x : Int32} {w : Option Nat} (h : pRA f i x w = some f2) : ∃ (t N : Nat) (g : Nat → Option Nat), (t = 1 ∨ t = 2 ∨ t = 3) ∧ f i = some (.inl (t, N, .inr (.inr g))) ∧ rIn x N = true ∧ okR f t w = true ∧ f2 = va_up f i (some (.inl (t, N, .inr (.inr (va_up g x.toNatClampNeg w))))) := by
  unfold pRA at h
  split at h
  · rename_i t n g hf
    split at h
    · rename_i ht
      cases h
      exact ⟨t, n, g, ht.1.1, hf, ht.1.2, ht.2, rfl⟩
    · cases h
  · cases h
theorem isO_ex {f : AH} {i ci : Nat} (h : isO f i ci = true) : ∃ fs : List Value, f i = some (.inr (ci, fs)) := by
  unfold isO at h
  split at h
  · rename_i c fs hf
    have hc : c = ci := of_decide_eq_true h
    subst hc
    exact ⟨fs, hf⟩
  · cases h
theorem tyN_ob {t : Nat} (h : t = 1 ∨ t = 2 ∨ t = 3) : ∃ Cn : String, tyN t = .object Cn := by
  rcases h with rfl | rfl | rfl
  · exact ⟨_, rfl⟩
  · exact ⟨_, rfl⟩
  · exact ⟨_, rfl⟩
theorem tcl_q {t : Nat} (h : t = 1 ∨ t = 2 ∨ t = 3) : ∃ q : vw_C, vwCl[tcl t]? = some q ∧ tyN t = .object q.1 := by
  rcases h with rfl | rfl | rfl
  · exact ⟨_, rfl, rfl⟩
  · exact ⟨_, rfl, rfl⟩
  · exact ⟨_, rfl, rfl⟩
section AHR
variable {X : GX} {p : Program} {l : Launch} {e : Env} {R : Room} {s : State} {m : MethodId} {args : Array Value} {below : List Frame} {meth : Method} {c : Code} {own : String} {cc : ByteArray} {nL : Nat} {ret : Option FieldType} {Z : State → Prop} {f f2 : AH} {n cells slots pc : Nat} {lo : List (Option Value)} {st : List Value}
variable {mc ms : Nat} {Q : Option Value → AH → Nat → Prop}
theorem ah_getI (C : CC X p l R s m args meth c own cc nL ret) {idx ci k i : Nat} {x : Int32} (g : GF own idx ci k) (h : gI f i ci k = some x) (hd : decode cc pc = .ok (.getfield idx, 3)) (kk : AW X p l e R s m args below meth c nL Z f n cells slots (pc + 3) lo (.int x :: st)) : AW X p l e R s m args below meth c nL Z f n cells slots pc lo (.ref i :: st) := by
  obtain ⟨fs, h1, h2⟩ := gI_ex h
  exact aw_get C g h1 h2 hd kk
theorem ah_getR (C : CC X p l R s m args meth c own cc nL ret) {idx ci k i : Nat} {x : Option Nat} (g : GF own idx ci k) (h : gR f i ci k = some x) (hd : decode cc pc = .ok (.getfield idx, 3)) (kk : AW X p l e R s m args below meth c nL Z f n cells slots (pc + 3) lo (va_rf x :: st)) : AW X p l e R s m args below meth c nL Z f n cells slots pc lo (.ref i :: st) := by
  obtain ⟨fs, h1, h2⟩ := gR_ex h
  exact aw_get C g h1 h2 hd kk
theorem ah_put (C : CC X p l R s m args meth c own cc nL ret) {idx ci k i : Nat} {v : Value} {ty0 : Nat → FieldType} (g : GF own idx ci k) (cf : CF ci ty0) (nf : noFin ci k) (hn' : narrow (ty0 k) v = v) (hfit : fits (ty0 k) v = true) (h : pO f i ci k v = some f2) (hd : decode cc pc = .ok (.putfield idx, 3)) (kk : AW X p l e R s m args below meth c nL Z f2 n cells slots (pc + 3) lo st) : AW X p l e R s m args below meth c nL Z f n cells slots pc lo (v :: .ref i :: st) := by
  obtain ⟨fs, h1, h2, h3⟩ := pO_ex h
  subst h3
  exact aw_put C g cf nf h1 h2 hn' hfit hd kk
theorem ah_putF (C : CC X p l R s m args meth c own cc nL ret) {idx ci k i : Nat} {v : Value} {ty0 : Nat → FieldType} (g : GF own idx ci k) (cf : CF ci ty0) (nf : isFin own ci k) (hin2 : meth.name = "<init>") (hn' : narrow (ty0 k) v = v) (hfit : fits (ty0 k) v = true) (h : pO f i ci k v = some f2) (hd : decode cc pc = .ok (.putfield idx, 3)) (kk : AW X p l e R s m args below meth c nL Z f2 n cells slots (pc + 3) lo st) : AW X p l e R s m args below meth c nL Z f n cells slots pc lo (v :: .ref i :: st) := by
  obtain ⟨fs, h1, h2, h3⟩ := pO_ex h
  subst h3
  exact aw_putF C g cf nf hin2 h1 h2 hn' hfit hd kk
theorem ah_len (C : CC X p l R s m args meth c own cc nL ret) {i N : Nat} (h : gL f i = some N) (hd : decode cc pc = .ok (.arraylength, 1)) (kk : AW X p l e R s m args below meth c nL Z f n cells slots (pc + 1) lo (.int (nI N) :: st)) : AW X p l e R s m args below meth c nL Z f n cells slots pc lo (.ref i :: st) := by
  obtain ⟨t, a, h1, h2⟩ := gL_ex h
  exact aw_alen C h1 h2 hd kk
theorem ah_iald (C : CC X p l R s m args meth c own cc nL ret) {i : Nat} {x v : Int32} (h : gIA f i x = some v) (hd : decode cc pc = .ok (.iaload, 1)) (kk : AW X p l e R s m args below meth c nL Z f n cells slots (pc + 1) lo (.int v :: st)) : AW X p l e R s m args below meth c nL Z f n cells slots pc lo (.int x :: .ref i :: st) := by
  obtain ⟨N, g, h1, h2, rfl⟩ := gIA_ex h
  exact aw_iald C h1 (inb_vp h2) hd kk
theorem ah_aald (C : CC X p l R s m args meth c own cc nL ret) {i : Nat} {x : Int32} {v : Option Nat} (h : gRA f i x = some v) (hd : decode cc pc = .ok (.aaload, 1)) (kk : AW X p l e R s m args below meth c nL Z f n cells slots (pc + 1) lo (va_rf v :: st)) : AW X p l e R s m args below meth c nL Z f n cells slots pc lo (.int x :: .ref i :: st) := by
  obtain ⟨t, N, g, h0, h1, h2, rfl⟩ := gRA_ex h
  obtain ⟨Cn, hC⟩ := tyN_ob h0
  exact aw_aald C (by omega) hC h1 (inb_vp h2) hd kk
theorem ah_iast (C : CC X p l R s m args meth c own cc nL ret) {i : Nat} {x v : Int32} (h : pIA f i x v = some f2) (hd : decode cc pc = .ok (.iastore, 1)) (kk : AW X p l e R s m args below meth c nL Z f2 n cells slots (pc + 1) lo st) : AW X p l e R s m args below meth c nL Z f n cells slots pc lo (.int v :: .int x :: .ref i :: st) := by
  obtain ⟨N, g, h1, h2, rfl⟩ := pIA_ex h
  exact aw_iast C h1 (inb_vp h2) hd kk
theorem ah_aast (C : CC X p l R s m args meth c own cc nL ret) {i : Nat} {x : Int32} {w : Option Nat} (h : pRA f i x w = some f2) (hd : decode cc pc = .ok (.aastore, 1)) (kk : AW X p l e R s m args below meth c nL Z f2 n cells slots (pc + 1) lo st) : AW X p l e R s m args below meth c nL Z f n cells slots pc lo (va_rf w :: .int x :: .ref i :: st) := by
  obtain ⟨t, N, g, h0, h1, h2, h3, rfl⟩ := pRA_ex h
  cases w with
  | none =>
    obtain ⟨Cn, hC⟩ := tyN_ob h0
    exact aw_aastN C (by omega) hC h1 (inb_vp h2) hd kk
  | some v =>
    obtain ⟨q, hq1, hq2⟩ := tcl_q h0
    obtain ⟨fs, hv⟩ := isO_ex (show isO f v (tcl t) = true from h3)
    exact aw_aast C (by omega) hq1 hq2 h1 hv (inb_vp h2) hd kk
theorem ah_newi (C : CC X p l R s m args meth c own cc nL ret) {x : Int32} {B : Nat} (hb : (!(decide (x < 0)) && (decide (x.toNatClampNeg ≤ B) && decide (x.toNatClampNeg ≤ 600))) = true) (hc : cells + 1 ≤ R.cells) (hs : slots + B ≤ R.slots) (hd : decode cc pc = .ok (.newarray .int, 2))
    (kk : AW X p l e R s m args below meth c nL Z (va_up f n (some (.inl (0, x.toNatClampNeg, .inl (fun _ => 0))))) (n + 1) (cells + 1) (slots + B) (pc + 2) lo (.ref n :: st)) : AW X p l e R s m args below meth c nL Z f n cells slots pc lo (.int x :: st) := by
  simp only [Bool.and_eq_true, Bool.not_eq_true', decide_eq_false_iff_not, decide_eq_true_eq] at hb
  obtain ⟨h1, h2, h3⟩ := hb
  exact aw_newi C ac_int h1 rfl (by omega) hc (by omega) hd (aw_wide (Nat.le_refl _) (by omega) kk)
theorem aw_sret (C : CC X p l R s m args meth c own cc nL ret) {a : Nat} {Cn : String} (hrt : ret = some (.object Cn)) (hd : decode cc pc = .ok (.areturn, 1)) (hc : cells ≤ mc) (hs : slots ≤ ms) (hQ : Q (some (.retAddr a)) f n) : AW X p l e R s m args below meth c nL (ZM X below args s mc ms Q) f n cells slots pc lo [.retAddr a] := by
  intro H locs ls hR hn hS hl
  refine W.widen hc hs ?_
  exact W.aret C.1 C.2.1 (C.2.2.2.2.2.2.2.trans hrt) (Or.inl ⟨_, rfl⟩) (Or.inr ⟨_, rfl⟩) (fun t ht hW => ⟨some (.retAddr a), f, n, rfl, hQ, by rw [ht]; exact hn, by rw [ht]; exact hR, hS.F ht⟩) hS.2.2 hd C.2.2.2.2.2.1
def st4L (t : Nat) : Int32 := nI (sL4.getD t 0)
def st4C (t : Nat) (x : Int32) : Int32 := (sB4.getD t []).getD x.toNatClampNeg 0 &&& 255
theorem sL4_b {t : Nat} (h : t < 12) : sL4.getD t 0 < 2 ^ 31 := by
  have h0 : ∀ k : Fin 12, sL4.getD (k : Nat) 0 < 2 ^ 31 := by decide
  exact h0 ⟨t, h⟩
theorem ah_slen (C : CC X p l R s m args meth c RX5 cc nL ret) {t : Nat} (ht : t < 12) (hd : decode cc pc = .ok (.invokevirtual 47, 3)) (hfr : 2 ≤ R.frames) (hlo : 56 ≤ R.locals) (hstk : (st.map fun v => v.category).sum ≤ 8) (hc : cells + 0 ≤ R.cells) (hs : slots + 0 ≤ R.slots) (kk : AW X p l e R s m args below meth c nL Z f n cells slots (pc + 3) lo (.int (st4L t) :: st)) : AW X p l e R s m args below meth c nL Z f n cells slots pc lo (.retAddr (X.2.2 (3000 + t)) :: st) := by
  refine aw_callK C [] mv_X5_47 (fun H locs hS => vk_recv (STA4 X s C.2.2.2.2.2.2.1) ht hS) (sk_len (STA4 X) ht (sL4_b ht)) rfl hd hfr hlo rfl hstk hc hs (fun v9 f9 n9 hh => ?_)
  obtain ⟨rfl, rfl, rfl⟩ := hh
  exact kk
theorem ah_schr (C : CC X p l R s m args meth c RX5 cc nL ret) {t : Nat} {x : Int32} (ht : t < 12) (hb : rIn x (sL4.getD t 0) = true) (hd : decode cc pc = .ok (.invokevirtual 52, 3)) (hfr : 4 ≤ R.frames) (hlo : 129 ≤ R.locals) (hstk : (st.map fun v => v.category).sum ≤ 8) (hc : cells + 0 ≤ R.cells) (hs : slots + 0 ≤ R.slots) (kk : AW X p l e R s m args below meth c nL Z f n cells slots (pc + 3) lo (.int (st4C t x) :: st)) : AW X p l e R s m args below meth c nL Z f n cells slots pc lo (.int x :: .retAddr (X.2.2 (3000 + t)) :: st) := by
  have hb2 := sL4_b ht
  obtain ⟨k, hk, hx⟩ := vp_in_of (inb_vp hb) hb2
  subst hx
  refine aw_callK C [.int (nI k)] mv_X5_52 (fun H locs hS => vk_recv (STA4 X s C.2.2.2.2.2.2.1) ht hS) (sk_chr (STA4 X) ht hk hb2) rfl hd hfr hlo rfl hstk hc hs (fun v9 f9 n9 hh => ?_)
  obtain ⟨rfl, rfl, rfl⟩ := hh
  have h9 : st4C t (nI k) = (sB4.getD t []).getD k 0 &&& 255 := by unfold st4C; rw [nI_clamp (by omega)]
  rw [h9] at kk
  exact kk
end AHR
def jMax (a b : Int32) : Int32 := if a < b then b else a
theorem ah_jMax {X : GX} {p : Program} {l : Launch} {e : Env} {R : Room} {s : State} {m : MethodId} {args : Array Value} {below : List Frame} {meth : Method} {c : Code} {own : String} {cc : ByteArray} {nL : Nat} {ret : Option FieldType} {Z : State → Prop} {f : AH} {n cells slots pc : Nat} {lo : List (Option Value)} {st : List Value} (C : CC X p l R s m args meth c own cc nL ret) {idx : Nat} {a b : Int32} (g : MS own idx yJ9_max_7cf53 cJ9_max_7cf53 2 (some .int) 2) (hd : decode cc pc = .ok (.invokestatic idx, 3)) (hfr : 1 ≤ R.frames) (hlo : 21 ≤ R.locals) (hstk : (st.map fun v => v.category).sum ≤ 8) (hc : cells + 0 ≤ R.cells) (hs : slots + 0 ≤ R.slots) (kk : AW X p l e R s m args below meth c nL Z f n cells slots (pc + 3) lo (.int (jMax a b) :: st)) : AW X p l e R s m args below meth c nL Z f n cells slots pc lo (.int b :: .int a :: st) := by
  intro H locs ls hR hn hS hl
  have hts := C.2.2.2.2.1
  exact va_mmax C.1 C.2.1 (by rw [C.2.2.1]; exact hl.1.symm) C.2.2.2.1 (hts _ g.1) (hts _ g.2.1) (hts _ g.2.2.1) (hts _ g.2.2.2.1) hfr (by rw [cat_rn]; omega) hc hs hd (kk H locs ls hR hn hS hl)
def jMin (a b : Int32) : Int32 := if b < a then b else a
theorem ah_jMin {X : GX} {p : Program} {l : Launch} {e : Env} {R : Room} {s : State} {m : MethodId} {args : Array Value} {below : List Frame} {meth : Method} {c : Code} {own : String} {cc : ByteArray} {nL : Nat} {ret : Option FieldType} {Z : State → Prop} {f : AH} {n cells slots pc : Nat} {lo : List (Option Value)} {st : List Value} (C : CC X p l R s m args meth c own cc nL ret) {idx : Nat} {a b : Int32} (g : MS own idx yJ9_min_7cf53 cJ9_min_7cf53 2 (some .int) 2) (hd : decode cc pc = .ok (.invokestatic idx, 3)) (hfr : 1 ≤ R.frames) (hlo : 21 ≤ R.locals) (hstk : (st.map fun v => v.category).sum ≤ 8) (hc : cells + 0 ≤ R.cells) (hs : slots + 0 ≤ R.slots) (kk : AW X p l e R s m args below meth c nL Z f n cells slots (pc + 3) lo (.int (jMin a b) :: st)) : AW X p l e R s m args below meth c nL Z f n cells slots pc lo (.int b :: .int a :: st) := by
  intro H locs ls hR hn hS hl
  have hts := C.2.2.2.2.1
  exact va_mmin C.1 C.2.1 (by rw [C.2.2.1]; exact hl.1.symm) C.2.2.2.1 (hts _ g.1) (hts _ g.2.1) (hts _ g.2.2.1) (hts _ g.2.2.2.1) hfr (by rw [cat_rn]; omega) hc hs hd (kk H locs ls hR hn hS hl)
theorem sx_outm1_12 {x : Int32} (q0 : ¬ x = (-1)) (q1 : ¬ x = 0) (q2 : ¬ x = 1) (q3 : ¬ x = 2) (q4 : ¬ x = 3) (q5 : ¬ x = 4) (q6 : ¬ x = 5) (q7 : ¬ x = 6) (q8 : ¬ x = 7) (q9 : ¬ x = 8) (q10 : ¬ x = 9) (q11 : ¬ x = 10) : x.toInt < (-1) ∨ 10 < x.toInt := by
  have h0 := i32_ne (k := (-1)) (-1) (by decide) q0
  have h1 := i32_ne (k := 0) 0 (by decide) q1
  have h2 := i32_ne (k := 1) 1 (by decide) q2
  have h3 := i32_ne (k := 2) 2 (by decide) q3
  have h4 := i32_ne (k := 3) 3 (by decide) q4
  have h5 := i32_ne (k := 4) 4 (by decide) q5
  have h6 := i32_ne (k := 5) 5 (by decide) q6
  have h7 := i32_ne (k := 6) 6 (by decide) q7
  have h8 := i32_ne (k := 7) 7 (by decide) q8
  have h9 := i32_ne (k := 8) 8 (by decide) q9
  have h10 := i32_ne (k := 9) 9 (by decide) q10
  have h11 := i32_ne (k := 10) 10 (by decide) q11
  omega
theorem sx_out0_3 {x : Int32} (q0 : ¬ x = 0) (q1 : ¬ x = 1) (q2 : ¬ x = 2) : x.toInt < 0 ∨ 2 < x.toInt := by
  have h0 := i32_ne (k := 0) 0 (by decide) q0
  have h1 := i32_ne (k := 1) 1 (by decide) q1
  have h2 := i32_ne (k := 2) 2 (by decide) q2
  omega
theorem sx_out0_4 {x : Int32} (q0 : ¬ x = 0) (q1 : ¬ x = 1) (q2 : ¬ x = 2) (q3 : ¬ x = 3) : x.toInt < 0 ∨ 3 < x.toInt := by
  have h0 := i32_ne (k := 0) 0 (by decide) q0
  have h1 := i32_ne (k := 1) 1 (by decide) q1
  have h2 := i32_ne (k := 2) 2 (by decide) q2
  have h3 := i32_ne (k := 3) 3 (by decide) q3
  omega
theorem sx_out0_10 {x : Int32} (q0 : ¬ x = 0) (q1 : ¬ x = 1) (q2 : ¬ x = 2) (q3 : ¬ x = 3) (q4 : ¬ x = 4) (q5 : ¬ x = 5) (q6 : ¬ x = 6) (q7 : ¬ x = 7) (q8 : ¬ x = 8) (q9 : ¬ x = 9) : x.toInt < 0 ∨ 9 < x.toInt := by
  have h0 := i32_ne (k := 0) 0 (by decide) q0
  have h1 := i32_ne (k := 1) 1 (by decide) q1
  have h2 := i32_ne (k := 2) 2 (by decide) q2
  have h3 := i32_ne (k := 3) 3 (by decide) q3
  have h4 := i32_ne (k := 4) 4 (by decide) q4
  have h5 := i32_ne (k := 5) 5 (by decide) q5
  have h6 := i32_ne (k := 6) 6 (by decide) q6
  have h7 := i32_ne (k := 7) 7 (by decide) q7
  have h8 := i32_ne (k := 8) 8 (by decide) q8
  have h9 := i32_ne (k := 9) 9 (by decide) q9
  omega
theorem sx_out0_11 {x : Int32} (q0 : ¬ x = 0) (q1 : ¬ x = 1) (q2 : ¬ x = 2) (q3 : ¬ x = 3) (q4 : ¬ x = 4) (q5 : ¬ x = 5) (q6 : ¬ x = 6) (q7 : ¬ x = 7) (q8 : ¬ x = 8) (q9 : ¬ x = 9) (q10 : ¬ x = 10) : x.toInt < 0 ∨ 10 < x.toInt := by
  have h0 := i32_ne (k := 0) 0 (by decide) q0
  have h1 := i32_ne (k := 1) 1 (by decide) q1
  have h2 := i32_ne (k := 2) 2 (by decide) q2
  have h3 := i32_ne (k := 3) 3 (by decide) q3
  have h4 := i32_ne (k := 4) 4 (by decide) q4
  have h5 := i32_ne (k := 5) 5 (by decide) q5
  have h6 := i32_ne (k := 6) 6 (by decide) q6
  have h7 := i32_ne (k := 7) 7 (by decide) q7
  have h8 := i32_ne (k := 8) 8 (by decide) q8
  have h9 := i32_ne (k := 9) 9 (by decide) q9
  have h10 := i32_ne (k := 10) 10 (by decide) q10
  omega
theorem sx_out0_12 {x : Int32} (q0 : ¬ x = 0) (q1 : ¬ x = 1) (q2 : ¬ x = 2) (q3 : ¬ x = 3) (q4 : ¬ x = 4) (q5 : ¬ x = 5) (q6 : ¬ x = 6) (q7 : ¬ x = 7) (q8 : ¬ x = 8) (q9 : ¬ x = 9) (q10 : ¬ x = 10) (q11 : ¬ x = 11) : x.toInt < 0 ∨ 11 < x.toInt := by
  have h0 := i32_ne (k := 0) 0 (by decide) q0
  have h1 := i32_ne (k := 1) 1 (by decide) q1
  have h2 := i32_ne (k := 2) 2 (by decide) q2
  have h3 := i32_ne (k := 3) 3 (by decide) q3
  have h4 := i32_ne (k := 4) 4 (by decide) q4
  have h5 := i32_ne (k := 5) 5 (by decide) q5
  have h6 := i32_ne (k := 6) 6 (by decide) q6
  have h7 := i32_ne (k := 7) 7 (by decide) q7
  have h8 := i32_ne (k := 8) 8 (by decide) q8
  have h9 := i32_ne (k := 9) 9 (by decide) q9
  have h10 := i32_ne (k := 10) 10 (by decide) q10
  have h11 := i32_ne (k := 11) 11 (by decide) q11
  omega
theorem sx_out0_15 {x : Int32} (q0 : ¬ x = 0) (q1 : ¬ x = 1) (q2 : ¬ x = 2) (q3 : ¬ x = 3) (q4 : ¬ x = 4) (q5 : ¬ x = 5) (q6 : ¬ x = 6) (q7 : ¬ x = 7) (q8 : ¬ x = 8) (q9 : ¬ x = 9) (q10 : ¬ x = 10) (q11 : ¬ x = 11) (q12 : ¬ x = 12) (q13 : ¬ x = 13) (q14 : ¬ x = 14) : x.toInt < 0 ∨ 14 < x.toInt := by
  have h0 := i32_ne (k := 0) 0 (by decide) q0
  have h1 := i32_ne (k := 1) 1 (by decide) q1
  have h2 := i32_ne (k := 2) 2 (by decide) q2
  have h3 := i32_ne (k := 3) 3 (by decide) q3
  have h4 := i32_ne (k := 4) 4 (by decide) q4
  have h5 := i32_ne (k := 5) 5 (by decide) q5
  have h6 := i32_ne (k := 6) 6 (by decide) q6
  have h7 := i32_ne (k := 7) 7 (by decide) q7
  have h8 := i32_ne (k := 8) 8 (by decide) q8
  have h9 := i32_ne (k := 9) 9 (by decide) q9
  have h10 := i32_ne (k := 10) 10 (by decide) q10
  have h11 := i32_ne (k := 11) 11 (by decide) q11
  have h12 := i32_ne (k := 12) 12 (by decide) q12
  have h13 := i32_ne (k := 13) 13 (by decide) q13
  have h14 := i32_ne (k := 14) 14 (by decide) q14
  omega
theorem sx_118 : ("PieceFiles", 118, "the text is wrong") ∈ strsX := by decide +kernel
theorem sx_137 : ("PieceFiles", 137, "there is no such kind") ∈ strsX := by decide +kernel
theorem sx_144 : ("PieceFiles", 144, "there is no such rule") ∈ strsX := by decide +kernel
theorem sx_147 : ("PieceFiles", 147, "the rule has no such number") ∈ strsX := by decide +kernel
theorem sx_153 : ("PieceFiles", 153, "it is no word") ∈ strsX := by decide +kernel
theorem sx_158 : ("PieceFiles", 158, "more than 60 bytes") ∈ strsX := by decide +kernel
theorem sx_172 : ("PieceFiles", 172, "there is none to take back") ∈ strsX := by decide +kernel
theorem sx_211 : ("PieceFiles", 211, "nothing such is told of a piece") ∈ strsX := by decide +kernel
theorem sx_230 : ("PieceFiles", 230, "nothing such is told of a key") ∈ strsX := by decide +kernel
theorem sx_323 : ("PieceFiles", 323, "there is no such piece") ∈ strsX := by decide +kernel
theorem sx_326 : ("PieceFiles", 326, "the act is refused") ∈ strsX := by decide +kernel
end
/-! part 32aa.cls -/
section
def mX5_init_b14 (B : Nat) (s0 : Nat) (s1 : Int32) (f : AH) (n : Nat) : Option (Int32 × HpN) := rCk (!(decide (s1 < 0)) && (decide (s1.toNatClampNeg ≤ B) && decide (s1.toNatClampNeg ≤ 600))) (((pO (va_up f n (some (.inl (0, s1.toNatClampNeg, .inl (fun _ => 0))))) s0 5 0 (.ref n)).bind fun f2 => some ((0 : Int32), (f2, (n + 1)))))
set_option maxHeartbeats 1000000 in
theorem rmX5_init_b14 {X : GX} {p : Program} {l : Launch} {e : Env} {s : State} {m : MethodId} {args : Array Value} {below : List Frame} {meth : Method} {c : Code} {r : Int32 × HpN} {B : Nat} {s0 : Nat} {s1 : Int32} {f : AH} {n cells slots : Nat} (C : CC X p l (RM 1 1 (0 + B)) s m args meth c RX5 cX5_init 2 none) (hnm : meth.name = "<init>") (hc : cells + 1 ≤ 1) (hs : slots + 0 + B ≤ (0 + B)) (h : mX5_init_b14 B s0 s1 f n = some r) : AW X p l e (RM 1 1 (0 + B)) s m args below meth c 2 (ZM X below args s 1 (0 + B) (QHv r)) f n cells slots 14 [none, none] [.int s1, .ref s0] := by
  have h : rCk (!(decide (s1 < 0)) && (decide (s1.toNatClampNeg ≤ B) && decide (s1.toNatClampNeg ≤ 600))) (((pO (va_up f n (some (.inl (0, s1.toNatClampNeg, .inl (fun _ => 0))))) s0 5 0 (.ref n)).bind fun f2 => some ((0 : Int32), (f2, (n + 1))))) = some r := h
  obtain ⟨hb1, h⟩ := ck_some h
  refine ah_newi C (B := B) hb1 (show cells + 1 ≤ 1 by omega) (show slots + B ≤ (0 + B) by omega) dX5_init_14 ?_
  obtain ⟨f2, hf2, h⟩ := Option.bind_eq_some_iff.mp h
  refine ah_putF C gf_X5_9 cf5 fi5_0 hnm rfl rfl hf2 dX5_init_16 ?_
  cases h
  exact aw_vret C rfl dX5_init_19 (by omega) (by omega) ⟨rfl, rfl, rfl⟩
def mX5_init (B : Nat) (v0 : Nat) (v1 : Int32) (f : AH) (n : Nat) : Option (Int32 × HpN) := (if v1 ≤ (0 : Int32) then mX5_init_b14 B v0 (0 : Int32) f n else mX5_init_b14 B v0 v1 f n)
set_option maxHeartbeats 1000000 in
theorem rmX5_init {X : GX} {l : Launch} {r : Int32 × HpN} {B : Nat} {v0 : Nat} {v1 : Int32} {f : AH} {n : Nat} (h : mX5_init B v0 v1 f n = some r) : AM X l yX5_init cX5_init 2 none 1 1 (0 + B) [.ref v0, .int v1] f n (QHv r) := by
  have h : (if v1 ≤ (0 : Int32) then mX5_init_b14 B v0 (0 : Int32) f n else mX5_init_b14 B v0 v1 f n) = some r := h
  refine AM.of (by decide +kernel) rfl (Nat.le_of_ble_eq_true rfl) (fun p e s m args below meth c C hnm => ?_)
  refine aw_nl [some (.ref v0), some (.int v1)] rfl ?_
  refine aw_ald_n C dX5_init_0 rfl ?_
  refine aw_oinit C oi_X5_3 oi2 oi3 dX5_init_1 (Nat.le_of_ble_eq_true rfl) (Nat.le_of_ble_eq_true rfl) ?_
  refine aw_ald_n C dX5_init_4 rfl ?_
  refine aw_iload_n C dX5_init_5 rfl ?_
  refine aw_if_le C 13 dX5_init_6 (by decide) (fun q => ?_) (fun q => ?_)
  · rw [if_pos q] at h
    refine aw_iconst C 0 dX5_init_13 ki_0 ?_
    refine aw_fl [none, none] trivial ?_
    exact rmX5_init_b14 C hnm (by omega) (by omega) h
  · rw [if_neg q] at h
    refine aw_iload_n C dX5_init_9 rfl ?_
    refine aw_goto C 14 dX5_init_10 (by decide) ?_
    refine aw_fl [none, none] trivial ?_
    exact rmX5_init_b14 C hnm (by omega) (by omega) h
def mX5_size (v0 : Nat) (f : AH) (n : Nat) : Option (Int32 × HpN) := ((gI f v0 5 1).bind fun x1 => some (x1, (f, n)))
set_option maxHeartbeats 1000000 in
theorem rmX5_size {X : GX} {l : Launch} {r : Int32 × HpN} {v0 : Nat} {f : AH} {n : Nat} (h : mX5_size v0 f n = some r) : AM X l yX5_size cX5_size 1 (some .int) 0 0 0 [.ref v0] f n (QHi r) := by
  have h : ((gI f v0 5 1).bind fun x1 => some (x1, (f, n))) = some r := h
  refine AM.of (by decide +kernel) rfl (Nat.le_of_ble_eq_true rfl) (fun p e s m args below meth c C hnm => ?_)
  refine aw_nl [some (.ref v0)] rfl ?_
  refine aw_ald_n C dX5_size_0 rfl ?_
  obtain ⟨x1, hx1, h⟩ := Option.bind_eq_some_iff.mp h
  refine ah_getI C gf_X5_15 hx1 dX5_size_1 ?_
  cases h
  exact aw_iret C rfl rfl dX5_size_4 (by omega) (by omega) ⟨rfl, rfl, rfl⟩
def mX5_add_b19 (f : AH) (n : Nat) : Option (Int32 × HpN) := rCk (rNb (0 : Int32)) (some ((0 : Int32), (f, n)))
set_option maxHeartbeats 1000000 in
theorem rmX5_add_b19 {X : GX} {p : Program} {l : Launch} {e : Env} {s : State} {m : MethodId} {args : Array Value} {below : List Frame} {meth : Method} {c : Code} {r : Int32 × HpN} {f : AH} {n cells slots : Nat} (C : CC X p l (RM 0 0 0) s m args meth c RX5 cX5_add 2 (some .boolean)) (hc : cells + 0 ≤ 0) (hs : slots + 0 ≤ 0) (h : mX5_add_b19 f n = some r) : AW X p l e (RM 0 0 0) s m args below meth c 2 (ZM X below args s 0 0 (QHi r)) f n cells slots 19 [none, none] [] := by
  have h : rCk (rNb (0 : Int32)) (some ((0 : Int32), (f, n))) = some r := h
  refine aw_iconst C 0 dX5_add_19 ki_0 ?_
  obtain ⟨hb1, h⟩ := ck_some h
  cases h
  exact aw_iret C rfl (nb_nar hb1) dX5_add_20 (by omega) (by omega) ⟨rfl, rfl, rfl⟩
def mX5_add (v0 : Nat) (v1 : Int32) (f : AH) (n : Nat) : Option (Int32 × HpN) := ((gI f v0 5 1).bind fun x1 => (if x1 < (0 : Int32) then mX5_add_b19 f n else ((gI f v0 5 1).bind fun x2 => ((gR f v0 5 0).bind fun x3 => ((x3).bind fun j4 => ((gL f j4).bind fun x5 => (if x2 < (nI x5) then ((gR f v0 5 0).bind fun x6 => ((gI f v0 5 1).bind fun x7 => ((x6).bind fun j8 => ((pIA f j8 x7 v1).bind fun f9 => ((gI f9 v0 5 1).bind fun x10 => ((pO f9 v0 5 1 (.int (x10 + (1 : Int32)))).bind fun f11 => rCk (rNb (1 : Int32)) (some ((1 : Int32), (f11, n))))))))) else mX5_add_b19 f n)))))))
set_option maxHeartbeats 1000000 in
theorem rmX5_add {X : GX} {l : Launch} {r : Int32 × HpN} {v0 : Nat} {v1 : Int32} {f : AH} {n : Nat} (h : mX5_add v0 v1 f n = some r) : AM X l yX5_add cX5_add 2 (some .boolean) 0 0 0 [.ref v0, .int v1] f n (QHi r) := by
  have h : ((gI f v0 5 1).bind fun x1 => (if x1 < (0 : Int32) then mX5_add_b19 f n else ((gI f v0 5 1).bind fun x2 => ((gR f v0 5 0).bind fun x3 => ((x3).bind fun j4 => ((gL f j4).bind fun x5 => (if x2 < (nI x5) then ((gR f v0 5 0).bind fun x6 => ((gI f v0 5 1).bind fun x7 => ((x6).bind fun j8 => ((pIA f j8 x7 v1).bind fun f9 => ((gI f9 v0 5 1).bind fun x10 => ((pO f9 v0 5 1 (.int (x10 + (1 : Int32)))).bind fun f11 => rCk (rNb (1 : Int32)) (some ((1 : Int32), (f11, n))))))))) else mX5_add_b19 f n))))))) = some r := h
  refine AM.of (by decide +kernel) rfl (Nat.le_of_ble_eq_true rfl) (fun p e s m args below meth c C hnm => ?_)
  refine aw_nl [some (.ref v0), some (.int v1)] rfl ?_
  refine aw_ald_n C dX5_add_0 rfl ?_
  obtain ⟨x1, hx1, h⟩ := Option.bind_eq_some_iff.mp h
  refine ah_getI C gf_X5_15 hx1 dX5_add_1 ?_
  refine aw_if_lt C 19 dX5_add_4 (by decide) (fun q => ?_) (fun q => ?_)
  · rw [if_pos q] at h
    refine aw_fl [none, none] trivial ?_
    exact rmX5_add_b19 C (by omega) (by omega) h
  · rw [if_neg q] at h
    refine aw_ald_n C dX5_add_7 rfl ?_
    obtain ⟨x2, hx2, h⟩ := Option.bind_eq_some_iff.mp h
    refine ah_getI C gf_X5_15 hx2 dX5_add_8 ?_
    refine aw_ald_n C dX5_add_11 rfl ?_
    obtain ⟨x3, hx3, h⟩ := Option.bind_eq_some_iff.mp h
    refine ah_getR C gf_X5_9 hx3 dX5_add_12 ?_
    obtain ⟨j4, hj4, h⟩ := Option.bind_eq_some_iff.mp h
    rw [hj4]
    obtain ⟨x5, hx5, h⟩ := Option.bind_eq_some_iff.mp h
    refine ah_len C hx5 dX5_add_15 ?_
    refine aw_icmp_lt C 21 dX5_add_16 (by decide) (fun q => ?_) (fun q => ?_)
    · rw [if_pos q] at h
      refine aw_ald_n C dX5_add_21 rfl ?_
      obtain ⟨x6, hx6, h⟩ := Option.bind_eq_some_iff.mp h
      refine ah_getR C gf_X5_9 hx6 dX5_add_22 ?_
      refine aw_ald_n C dX5_add_25 rfl ?_
      obtain ⟨x7, hx7, h⟩ := Option.bind_eq_some_iff.mp h
      refine ah_getI C gf_X5_15 hx7 dX5_add_26 ?_
      refine aw_iload_n C dX5_add_29 rfl ?_
      obtain ⟨j8, hj8, h⟩ := Option.bind_eq_some_iff.mp h
      rw [hj8]
      obtain ⟨f9, hf9, h⟩ := Option.bind_eq_some_iff.mp h
      refine ah_iast C hf9 dX5_add_30 ?_
      refine aw_ald_n C dX5_add_31 rfl ?_
      refine aw_dup C dX5_add_32 rfl ?_
      obtain ⟨x10, hx10, h⟩ := Option.bind_eq_some_iff.mp h
      refine ah_getI C gf_X5_15 hx10 dX5_add_33 ?_
      refine aw_iconst C 1 dX5_add_36 ki_1 ?_
      refine aw_iadd C dX5_add_37 ?_
      obtain ⟨f11, hf11, h⟩ := Option.bind_eq_some_iff.mp h
      refine ah_put C gf_X5_15 cf5 nf5_1 rfl rfl hf11 dX5_add_38 ?_
      refine aw_iconst C 1 dX5_add_41 ki_1 ?_
      obtain ⟨hb12, h⟩ := ck_some h
      cases h
      exact aw_iret C rfl (nb_nar hb12) dX5_add_42 (by omega) (by omega) ⟨rfl, rfl, rfl⟩
    · rw [if_neg q] at h
      refine aw_fl [none, none] trivial ?_
      exact rmX5_add_b19 C (by omega) (by omega) h
def mX8_addFour_l3 : Nat → Nat → Int32 → Int32 → AH → Nat → Option (Int32 × HpN)
  | 0, _, _, _, _, _ => none
  | d + 1, v0, v1, v2, f, n => (if v2 < (0 : Int32) then some ((0 : Int32), (f, n)) else ((gR f v0 8 0).bind fun x1 => ((x1).bind fun j2 => rCk (isO f j2 5) (((mX5_add j2 ((v1.toUInt32 >>> (v2.toUInt32 &&& Int32.toUInt32 31)).toInt32 &&& (255 : Int32)) f n).bind fun r4 => mX8_addFour_l3 d v0 v1 (v2 + (-8 : Int32)) r4.2.1 r4.2.2)))))
set_option maxHeartbeats 1000000 in
theorem rmX8_addFour_l3 {X : GX} {p : Program} {l : Launch} {e : Env} {s : State} {m : MethodId} {args : Array Value} {below : List Frame} {meth : Method} {c : Code} {r : Int32 × HpN} (C : CC X p l (RM 1 0 0) s m args meth c RX8 cX8_addFour 3 none) : ∀ (d : Nat) (v0 : Nat) (v1 : Int32) (v2 : Int32) (f : AH) (n cells slots : Nat) (_ : cells + 0 ≤ 0) (_ : slots + 0 ≤ 0) (_ : mX8_addFour_l3 d v0 v1 v2 f n = some r), AW X p l e (RM 1 0 0) s m args below meth c 3 (ZM X below args s 0 0 (QHv r)) f n cells slots 3 [some (.ref v0), some (.int v1), some (.int v2)] [] := by
  intro d
  induction d with
  | zero =>
    intro v0 v1 v2 f n cells slots hc hs h
    exact nomatch (show (none : Option (Int32 × HpN)) = some r from h)
  | succ d ih =>
    intro v0 v1 v2 f n cells slots hc hs h
    have h : (if v2 < (0 : Int32) then some ((0 : Int32), (f, n)) else ((gR f v0 8 0).bind fun x1 => ((x1).bind fun j2 => rCk (isO f j2 5) (((mX5_add j2 ((v1.toUInt32 >>> (v2.toUInt32 &&& Int32.toUInt32 31)).toInt32 &&& (255 : Int32)) f n).bind fun r4 => mX8_addFour_l3 d v0 v1 (v2 + (-8 : Int32)) r4.2.1 r4.2.2))))) = some r := h
    refine aw_iload_n C dX8_addFour_3 rfl ?_
    refine aw_if_lt C 28 dX8_addFour_4 (by decide) (fun q => ?_) (fun q => ?_)
    · rw [if_pos q] at h
      cases h
      exact aw_vret C rfl dX8_addFour_28 (by omega) (by omega) ⟨rfl, rfl, rfl⟩
    · rw [if_neg q] at h
      refine aw_ald_n C dX8_addFour_7 rfl ?_
      obtain ⟨x1, hx1, h⟩ := Option.bind_eq_some_iff.mp h
      refine ah_getR C gf_X8_14 hx1 dX8_addFour_8 ?_
      refine aw_iload_n C dX8_addFour_11 rfl ?_
      refine aw_iload_n C dX8_addFour_12 rfl ?_
      refine aw_iushr C dX8_addFour_13 ?_
      refine aw_sipush C 255 dX8_addFour_14 ks_255 ?_
      refine aw_iand C dX8_addFour_17 ?_
      obtain ⟨j2, hj2, h⟩ := Option.bind_eq_some_iff.mp h
      rw [hj2]
      obtain ⟨hb3, h⟩ := ck_some h
      obtain ⟨r4, hr4, h⟩ := Option.bind_eq_some_iff.mp h
      obtain ⟨fs5, hf5⟩ := isO_ex hb3
      refine aw_callV C (ci := 5) (b := j2) [.int ((v1.toUInt32 >>> (v2.toUInt32 &&& Int32.toUInt32 31)).toInt32 &&& (255 : Int32))] mv_X8_314 rfl rfl hf5 (rmX5_add hr4) rfl dX8_addFour_18 (Nat.le_of_ble_eq_true rfl) (Nat.le_of_ble_eq_true rfl) rfl (Nat.le_of_ble_eq_true rfl) (show cells + 0 ≤ 0 by omega) (show slots + 0 ≤ 0 by omega) (fun v9 f9 n9 hh => ?_)
      obtain ⟨rfl, rfl, rfl⟩ := hh
      refine aw_pop C dX8_addFour_21 rfl ?_
      refine aw_iinc C (v2 + (-8 : Int32)) dX8_addFour_22 rfl (by rw [ki_m8]) (by decide) rfl ?_
      refine aw_nl [some (.ref v0), some (.int v1), some (.int (v2 + (-8 : Int32)))] rfl ?_
      refine aw_goto C 3 dX8_addFour_25 (by decide) ?_
      refine aw_fl [some (.ref v0), some (.int v1), some (.int (v2 + (-8 : Int32)))] ⟨rfl, ⟨rfl, ⟨rfl, trivial⟩⟩⟩ ?_
      exact ih v0 v1 (v2 + (-8 : Int32)) r4.2.1 r4.2.2 _ _ (by omega) (by omega) h
def mX8_addFour (v0 : Nat) (v1 : Int32) (f : AH) (n : Nat) : Option (Int32 × HpN) := mX8_addFour_l3 rFU v0 v1 (24 : Int32) f n
set_option maxHeartbeats 1000000 in
theorem rmX8_addFour {X : GX} {l : Launch} {r : Int32 × HpN} {v0 : Nat} {v1 : Int32} {f : AH} {n : Nat} (h : mX8_addFour v0 v1 f n = some r) : AM X l yX8_addFour cX8_addFour 3 none 1 0 0 [.ref v0, .int v1] f n (QHv r) := by
  have h : mX8_addFour_l3 rFU v0 v1 (24 : Int32) f n = some r := h
  refine AM.of (by decide +kernel) rfl (Nat.le_of_ble_eq_true rfl) (fun p e s m args below meth c C hnm => ?_)
  refine aw_nl [some (.ref v0), some (.int v1), none] rfl ?_
  refine aw_bipush C 24 dX8_addFour_0 kb_24 ?_
  refine aw_istore_n C dX8_addFour_2 (by decide) rfl ?_
  refine aw_nl [some (.ref v0), some (.int v1), some (.int (24 : Int32))] rfl ?_
  refine aw_fl [some (.ref v0), some (.int v1), some (.int (24 : Int32))] ⟨rfl, ⟨rfl, ⟨rfl, trivial⟩⟩⟩ ?_
  exact rmX8_addFour_l3 C rFU v0 v1 (24 : Int32) f n _ _ (by omega) (by omega) h
def mX8_feed (v0 : Nat) (v1 : Int32) (v2 : Int32) (v3 : Int32) (v4 : Int32) (v5 : Int32) (f : AH) (n : Nat) : Option (Int32 × HpN) := ((gR f v0 8 0).bind fun x1 => ((x1).bind fun j2 => rCk (isO f j2 5) (((mX5_size j2 f n).bind fun r4 => (if (r4.1 + (20 : Int32)) ≤ (400 : Int32) then rCk (isO r4.2.1 v0 8) (((mX8_addFour v0 v1 r4.2.1 r4.2.2).bind fun r7 => rCk (isO r7.2.1 v0 8) (((mX8_addFour v0 v2 r7.2.1 r7.2.2).bind fun r10 => rCk (isO r10.2.1 v0 8) (((mX8_addFour v0 v3 r10.2.1 r10.2.2).bind fun r13 => rCk (isO r13.2.1 v0 8) (((mX8_addFour v0 v4 r13.2.1 r13.2.2).bind fun r16 => rCk (isO r16.2.1 v0 8) (((mX8_addFour v0 v5 r16.2.1 r16.2.2).bind fun r19 => ((gR r19.2.1 v0 8 0).bind fun x21 => ((x21).bind fun j22 => rCk (isO r19.2.1 j22 5) (((mX5_size j22 r19.2.1 r19.2.2).bind fun r24 => some (r24.1, (r24.2.1, r24.2.2)))))))))))))))) else some ((-1 : Int32), (r4.2.1, r4.2.2)))))))
set_option maxHeartbeats 1000000 in
theorem rmX8_feed {X : GX} {l : Launch} {r : Int32 × HpN} {v0 : Nat} {v1 : Int32} {v2 : Int32} {v3 : Int32} {v4 : Int32} {v5 : Int32} {f : AH} {n : Nat} (h : mX8_feed v0 v1 v2 v3 v4 v5 f n = some r) : AM X l yX8_feed cX8_feed 6 (some .int) 2 0 0 [.ref v0, .int v1, .int v2, .int v3, .int v4, .int v5] f n (QHi r) := by
  have h : ((gR f v0 8 0).bind fun x1 => ((x1).bind fun j2 => rCk (isO f j2 5) (((mX5_size j2 f n).bind fun r4 => (if (r4.1 + (20 : Int32)) ≤ (400 : Int32) then rCk (isO r4.2.1 v0 8) (((mX8_addFour v0 v1 r4.2.1 r4.2.2).bind fun r7 => rCk (isO r7.2.1 v0 8) (((mX8_addFour v0 v2 r7.2.1 r7.2.2).bind fun r10 => rCk (isO r10.2.1 v0 8) (((mX8_addFour v0 v3 r10.2.1 r10.2.2).bind fun r13 => rCk (isO r13.2.1 v0 8) (((mX8_addFour v0 v4 r13.2.1 r13.2.2).bind fun r16 => rCk (isO r16.2.1 v0 8) (((mX8_addFour v0 v5 r16.2.1 r16.2.2).bind fun r19 => ((gR r19.2.1 v0 8 0).bind fun x21 => ((x21).bind fun j22 => rCk (isO r19.2.1 j22 5) (((mX5_size j22 r19.2.1 r19.2.2).bind fun r24 => some (r24.1, (r24.2.1, r24.2.2)))))))))))))))) else some ((-1 : Int32), (r4.2.1, r4.2.2))))))) = some r := h
  refine AM.of (by decide +kernel) rfl (Nat.le_of_ble_eq_true rfl) (fun p e s m args below meth c C hnm => ?_)
  refine aw_nl [some (.ref v0), some (.int v1), some (.int v2), some (.int v3), some (.int v4), some (.int v5)] rfl ?_
  refine aw_ald_n C dX8_feed_0 rfl ?_
  obtain ⟨x1, hx1, h⟩ := Option.bind_eq_some_iff.mp h
  refine ah_getR C gf_X8_14 hx1 dX8_feed_1 ?_
  obtain ⟨j2, hj2, h⟩ := Option.bind_eq_some_iff.mp h
  rw [hj2]
  obtain ⟨hb3, h⟩ := ck_some h
  obtain ⟨r4, hr4, h⟩ := Option.bind_eq_some_iff.mp h
  obtain ⟨fs5, hf5⟩ := isO_ex hb3
  refine aw_callV C (ci := 5) (b := j2) [] mv_X8_63 rfl rfl hf5 (rmX5_size hr4) rfl dX8_feed_4 (Nat.le_of_ble_eq_true rfl) (Nat.le_of_ble_eq_true rfl) rfl (Nat.le_of_ble_eq_true rfl) (show 0 + 0 ≤ 0 by omega) (show 0 + 0 ≤ 0 by omega) (fun v9 f9 n9 hh => ?_)
  obtain ⟨rfl, rfl, rfl⟩ := hh
  refine aw_bipush C 20 dX8_feed_7 kb_20 ?_
  refine aw_iadd C dX8_feed_9 ?_
  refine aw_sipush C 400 dX8_feed_10 ks_400 ?_
  refine aw_icmp_le C 18 dX8_feed_13 (by decide) (fun q => ?_) (fun q => ?_)
  · rw [if_pos q] at h
    refine aw_ald_n C dX8_feed_18 rfl ?_
    refine aw_iload_n C dX8_feed_19 rfl ?_
    obtain ⟨hb6, h⟩ := ck_some h
    obtain ⟨r7, hr7, h⟩ := Option.bind_eq_some_iff.mp h
    obtain ⟨fs8, hf8⟩ := isO_ex hb6
    refine aw_callV C (ci := 8) (b := v0) [.int v1] mv_X8_67 rfl rfl hf8 (rmX8_addFour hr7) rfl dX8_feed_20 (Nat.le_of_ble_eq_true rfl) (Nat.le_of_ble_eq_true rfl) rfl (Nat.le_of_ble_eq_true rfl) (show (0 + 0) + 0 ≤ 0 by omega) (show (0 + 0) + 0 ≤ 0 by omega) (fun v9 f9 n9 hh => ?_)
    obtain ⟨rfl, rfl, rfl⟩ := hh
    refine aw_ald_n C dX8_feed_23 rfl ?_
    refine aw_iload_n C dX8_feed_24 rfl ?_
    obtain ⟨hb9, h⟩ := ck_some h
    obtain ⟨r10, hr10, h⟩ := Option.bind_eq_some_iff.mp h
    obtain ⟨fs11, hf11⟩ := isO_ex hb9
    refine aw_callV C (ci := 8) (b := v0) [.int v2] mv_X8_67 rfl rfl hf11 (rmX8_addFour hr10) rfl dX8_feed_25 (Nat.le_of_ble_eq_true rfl) (Nat.le_of_ble_eq_true rfl) rfl (Nat.le_of_ble_eq_true rfl) (show ((0 + 0) + 0) + 0 ≤ 0 by omega) (show ((0 + 0) + 0) + 0 ≤ 0 by omega) (fun v9 f9 n9 hh => ?_)
    obtain ⟨rfl, rfl, rfl⟩ := hh
    refine aw_ald_n C dX8_feed_28 rfl ?_
    refine aw_iload_n C dX8_feed_29 rfl ?_
    obtain ⟨hb12, h⟩ := ck_some h
    obtain ⟨r13, hr13, h⟩ := Option.bind_eq_some_iff.mp h
    obtain ⟨fs14, hf14⟩ := isO_ex hb12
    refine aw_callV C (ci := 8) (b := v0) [.int v3] mv_X8_67 rfl rfl hf14 (rmX8_addFour hr13) rfl dX8_feed_30 (Nat.le_of_ble_eq_true rfl) (Nat.le_of_ble_eq_true rfl) rfl (Nat.le_of_ble_eq_true rfl) (show (((0 + 0) + 0) + 0) + 0 ≤ 0 by omega) (show (((0 + 0) + 0) + 0) + 0 ≤ 0 by omega) (fun v9 f9 n9 hh => ?_)
    obtain ⟨rfl, rfl, rfl⟩ := hh
    refine aw_ald_n C dX8_feed_33 rfl ?_
    refine aw_iload C dX8_feed_34 rfl ?_
    obtain ⟨hb15, h⟩ := ck_some h
    obtain ⟨r16, hr16, h⟩ := Option.bind_eq_some_iff.mp h
    obtain ⟨fs17, hf17⟩ := isO_ex hb15
    refine aw_callV C (ci := 8) (b := v0) [.int v4] mv_X8_67 rfl rfl hf17 (rmX8_addFour hr16) rfl dX8_feed_36 (Nat.le_of_ble_eq_true rfl) (Nat.le_of_ble_eq_true rfl) rfl (Nat.le_of_ble_eq_true rfl) (show ((((0 + 0) + 0) + 0) + 0) + 0 ≤ 0 by omega) (show ((((0 + 0) + 0) + 0) + 0) + 0 ≤ 0 by omega) (fun v9 f9 n9 hh => ?_)
    obtain ⟨rfl, rfl, rfl⟩ := hh
    refine aw_ald_n C dX8_feed_39 rfl ?_
    refine aw_iload C dX8_feed_40 rfl ?_
    obtain ⟨hb18, h⟩ := ck_some h
    obtain ⟨r19, hr19, h⟩ := Option.bind_eq_some_iff.mp h
    obtain ⟨fs20, hf20⟩ := isO_ex hb18
    refine aw_callV C (ci := 8) (b := v0) [.int v5] mv_X8_67 rfl rfl hf20 (rmX8_addFour hr19) rfl dX8_feed_42 (Nat.le_of_ble_eq_true rfl) (Nat.le_of_ble_eq_true rfl) rfl (Nat.le_of_ble_eq_true rfl) (show (((((0 + 0) + 0) + 0) + 0) + 0) + 0 ≤ 0 by omega) (show (((((0 + 0) + 0) + 0) + 0) + 0) + 0 ≤ 0 by omega) (fun v9 f9 n9 hh => ?_)
    obtain ⟨rfl, rfl, rfl⟩ := hh
    refine aw_ald_n C dX8_feed_45 rfl ?_
    obtain ⟨x21, hx21, h⟩ := Option.bind_eq_some_iff.mp h
    refine ah_getR C gf_X8_14 hx21 dX8_feed_46 ?_
    obtain ⟨j22, hj22, h⟩ := Option.bind_eq_some_iff.mp h
    rw [hj22]
    obtain ⟨hb23, h⟩ := ck_some h
    obtain ⟨r24, hr24, h⟩ := Option.bind_eq_some_iff.mp h
    obtain ⟨fs25, hf25⟩ := isO_ex hb23
    refine aw_callV C (ci := 5) (b := j22) [] mv_X8_63 rfl rfl hf25 (rmX5_size hr24) rfl dX8_feed_49 (Nat.le_of_ble_eq_true rfl) (Nat.le_of_ble_eq_true rfl) rfl (Nat.le_of_ble_eq_true rfl) (show ((((((0 + 0) + 0) + 0) + 0) + 0) + 0) + 0 ≤ 0 by omega) (show ((((((0 + 0) + 0) + 0) + 0) + 0) + 0) + 0 ≤ 0 by omega) (fun v9 f9 n9 hh => ?_)
    obtain ⟨rfl, rfl, rfl⟩ := hh
    cases h
    exact aw_iret C rfl rfl dX8_feed_52 (by omega) (by omega) ⟨rfl, rfl, rfl⟩
  · rw [if_neg q] at h
    refine aw_iconst C (-1) dX8_feed_16 ki_m1 ?_
    cases h
    exact aw_iret C rfl rfl dX8_feed_17 (by omega) (by omega) ⟨rfl, rfl, rfl⟩
def mX5_cutTo_b17 (f : AH) (n : Nat) : Option (Int32 × HpN) := some ((0 : Int32), (f, n))
set_option maxHeartbeats 1000000 in
theorem rmX5_cutTo_b17 {X : GX} {p : Program} {l : Launch} {e : Env} {s : State} {m : MethodId} {args : Array Value} {below : List Frame} {meth : Method} {c : Code} {r : Int32 × HpN} {f : AH} {n cells slots : Nat} (C : CC X p l (RM 0 0 0) s m args meth c RX5 cX5_cutTo 2 none) (hc : cells + 0 ≤ 0) (hs : slots + 0 ≤ 0) (h : mX5_cutTo_b17 f n = some r) : AW X p l e (RM 0 0 0) s m args below meth c 2 (ZM X below args s 0 0 (QHv r)) f n cells slots 17 [none, none] [] := by
  have h : some ((0 : Int32), (f, n)) = some r := h
  cases h
  exact aw_vret C rfl dX5_cutTo_17 (by omega) (by omega) ⟨rfl, rfl, rfl⟩
def mX5_cutTo (v0 : Nat) (v1 : Int32) (f : AH) (n : Nat) : Option (Int32 × HpN) := (if v1 < (0 : Int32) then mX5_cutTo_b17 f n else ((gI f v0 5 1).bind fun x1 => (if x1 ≤ v1 then mX5_cutTo_b17 f n else ((pO f v0 5 1 (.int v1)).bind fun f2 => mX5_cutTo_b17 f2 n))))
set_option maxHeartbeats 1000000 in
theorem rmX5_cutTo {X : GX} {l : Launch} {r : Int32 × HpN} {v0 : Nat} {v1 : Int32} {f : AH} {n : Nat} (h : mX5_cutTo v0 v1 f n = some r) : AM X l yX5_cutTo cX5_cutTo 2 none 0 0 0 [.ref v0, .int v1] f n (QHv r) := by
  have h : (if v1 < (0 : Int32) then mX5_cutTo_b17 f n else ((gI f v0 5 1).bind fun x1 => (if x1 ≤ v1 then mX5_cutTo_b17 f n else ((pO f v0 5 1 (.int v1)).bind fun f2 => mX5_cutTo_b17 f2 n)))) = some r := h
  refine AM.of (by decide +kernel) rfl (Nat.le_of_ble_eq_true rfl) (fun p e s m args below meth c C hnm => ?_)
  refine aw_nl [some (.ref v0), some (.int v1)] rfl ?_
  refine aw_iload_n C dX5_cutTo_0 rfl ?_
  refine aw_if_lt C 17 dX5_cutTo_1 (by decide) (fun q => ?_) (fun q => ?_)
  · rw [if_pos q] at h
    refine aw_fl [none, none] trivial ?_
    exact rmX5_cutTo_b17 C (by omega) (by omega) h
  · rw [if_neg q] at h
    refine aw_iload_n C dX5_cutTo_4 rfl ?_
    refine aw_ald_n C dX5_cutTo_5 rfl ?_
    obtain ⟨x1, hx1, h⟩ := Option.bind_eq_some_iff.mp h
    refine ah_getI C gf_X5_15 hx1 dX5_cutTo_6 ?_
    refine aw_icmp_ge C 17 dX5_cutTo_9 (by decide) (fun q => ?_) (fun q => ?_)
    · rw [if_pos q] at h
      refine aw_fl [none, none] trivial ?_
      exact rmX5_cutTo_b17 C (by omega) (by omega) h
    · rw [if_neg q] at h
      refine aw_ald_n C dX5_cutTo_12 rfl ?_
      refine aw_iload_n C dX5_cutTo_13 rfl ?_
      obtain ⟨f2, hf2, h⟩ := Option.bind_eq_some_iff.mp h
      refine ah_put C gf_X5_15 cf5 nf5_1 rfl rfl hf2 dX5_cutTo_14 ?_
      refine aw_fl [none, none] trivial ?_
      exact rmX5_cutTo_b17 C (by omega) (by omega) h
def mX8_end_b15 (f : AH) (n : Nat) : Option (Int32 × HpN) := rCk (rNb (0 : Int32)) (some ((0 : Int32), (f, n)))
set_option maxHeartbeats 1000000 in
theorem rmX8_end_b15 {X : GX} {p : Program} {l : Launch} {e : Env} {s : State} {m : MethodId} {args : Array Value} {below : List Frame} {meth : Method} {c : Code} {r : Int32 × HpN} {f : AH} {n cells slots : Nat} (C : CC X p l (RM 1 0 0) s m args meth c RX8 cX8_end 2 (some .boolean)) (hc : cells + 0 ≤ 0) (hs : slots + 0 ≤ 0) (h : mX8_end_b15 f n = some r) : AW X p l e (RM 1 0 0) s m args below meth c 2 (ZM X below args s 0 0 (QHi r)) f n cells slots 15 [none, none] [] := by
  have h : rCk (rNb (0 : Int32)) (some ((0 : Int32), (f, n))) = some r := h
  refine aw_iconst C 0 dX8_end_15 ki_0 ?_
  obtain ⟨hb1, h⟩ := ck_some h
  cases h
  exact aw_iret C rfl (nb_nar hb1) dX8_end_16 (by omega) (by omega) ⟨rfl, rfl, rfl⟩
def mX8_end (v0 : Nat) (v1 : Int32) (f : AH) (n : Nat) : Option (Int32 × HpN) := (if v1 < (0 : Int32) then mX8_end_b15 f n else ((gR f v0 8 0).bind fun x1 => ((x1).bind fun j2 => rCk (isO f j2 5) (((mX5_size j2 f n).bind fun r4 => (if v1 ≤ r4.1 then ((gR r4.2.1 v0 8 0).bind fun x6 => ((x6).bind fun j7 => rCk (isO r4.2.1 j7 5) (((mX5_cutTo j7 v1 r4.2.1 r4.2.2).bind fun r9 => rCk (rNb (1 : Int32)) (some ((1 : Int32), (r9.2.1, r9.2.2))))))) else mX8_end_b15 r4.2.1 r4.2.2))))))
set_option maxHeartbeats 1000000 in
theorem rmX8_end {X : GX} {l : Launch} {r : Int32 × HpN} {v0 : Nat} {v1 : Int32} {f : AH} {n : Nat} (h : mX8_end v0 v1 f n = some r) : AM X l yX8_end cX8_end 2 (some .boolean) 1 0 0 [.ref v0, .int v1] f n (QHi r) := by
  have h : (if v1 < (0 : Int32) then mX8_end_b15 f n else ((gR f v0 8 0).bind fun x1 => ((x1).bind fun j2 => rCk (isO f j2 5) (((mX5_size j2 f n).bind fun r4 => (if v1 ≤ r4.1 then ((gR r4.2.1 v0 8 0).bind fun x6 => ((x6).bind fun j7 => rCk (isO r4.2.1 j7 5) (((mX5_cutTo j7 v1 r4.2.1 r4.2.2).bind fun r9 => rCk (rNb (1 : Int32)) (some ((1 : Int32), (r9.2.1, r9.2.2))))))) else mX8_end_b15 r4.2.1 r4.2.2)))))) = some r := h
  refine AM.of (by decide +kernel) rfl (Nat.le_of_ble_eq_true rfl) (fun p e s m args below meth c C hnm => ?_)
  refine aw_nl [some (.ref v0), some (.int v1)] rfl ?_
  refine aw_iload_n C dX8_end_0 rfl ?_
  refine aw_if_lt C 15 dX8_end_1 (by decide) (fun q => ?_) (fun q => ?_)
  · rw [if_pos q] at h
    refine aw_fl [none, none] trivial ?_
    exact rmX8_end_b15 C (by omega) (by omega) h
  · rw [if_neg q] at h
    refine aw_iload_n C dX8_end_4 rfl ?_
    refine aw_ald_n C dX8_end_5 rfl ?_
    obtain ⟨x1, hx1, h⟩ := Option.bind_eq_some_iff.mp h
    refine ah_getR C gf_X8_14 hx1 dX8_end_6 ?_
    obtain ⟨j2, hj2, h⟩ := Option.bind_eq_some_iff.mp h
    rw [hj2]
    obtain ⟨hb3, h⟩ := ck_some h
    obtain ⟨r4, hr4, h⟩ := Option.bind_eq_some_iff.mp h
    obtain ⟨fs5, hf5⟩ := isO_ex hb3
    refine aw_callV C (ci := 5) (b := j2) [] mv_X8_63 rfl rfl hf5 (rmX5_size hr4) rfl dX8_end_9 (Nat.le_of_ble_eq_true rfl) (Nat.le_of_ble_eq_true rfl) rfl (Nat.le_of_ble_eq_true rfl) (show 0 + 0 ≤ 0 by omega) (show 0 + 0 ≤ 0 by omega) (fun v9 f9 n9 hh => ?_)
    obtain ⟨rfl, rfl, rfl⟩ := hh
    refine aw_icmp_le C 17 dX8_end_12 (by decide) (fun q => ?_) (fun q => ?_)
    · rw [if_pos q] at h
      refine aw_ald_n C dX8_end_17 rfl ?_
      obtain ⟨x6, hx6, h⟩ := Option.bind_eq_some_iff.mp h
      refine ah_getR C gf_X8_14 hx6 dX8_end_18 ?_
      refine aw_iload_n C dX8_end_21 rfl ?_
      obtain ⟨j7, hj7, h⟩ := Option.bind_eq_some_iff.mp h
      rw [hj7]
      obtain ⟨hb8, h⟩ := ck_some h
      obtain ⟨r9, hr9, h⟩ := Option.bind_eq_some_iff.mp h
      obtain ⟨fs10, hf10⟩ := isO_ex hb8
      refine aw_callV C (ci := 5) (b := j7) [.int v1] mv_X8_70 rfl rfl hf10 (rmX5_cutTo hr9) rfl dX8_end_22 (Nat.le_of_ble_eq_true rfl) (Nat.le_of_ble_eq_true rfl) rfl (Nat.le_of_ble_eq_true rfl) (show (0 + 0) + 0 ≤ 0 by omega) (show (0 + 0) + 0 ≤ 0 by omega) (fun v9 f9 n9 hh => ?_)
      obtain ⟨rfl, rfl, rfl⟩ := hh
      refine aw_iconst C 1 dX8_end_25 ki_1 ?_
      obtain ⟨hb11, h⟩ := ck_some h
      cases h
      exact aw_iret C rfl (nb_nar hb11) dX8_end_26 (by omega) (by omega) ⟨rfl, rfl, rfl⟩
    · rw [if_neg q] at h
      refine aw_fl [none, none] trivial ?_
      exact rmX8_end_b15 C (by omega) (by omega) h
def mX8_fault (v0 : Nat) (f : AH) (n : Nat) : Option (Int32 × HpN) := ((gI f v0 8 13).bind fun x1 => some (x1, (f, n)))
set_option maxHeartbeats 1000000 in
theorem rmX8_fault {X : GX} {l : Launch} {r : Int32 × HpN} {v0 : Nat} {f : AH} {n : Nat} (h : mX8_fault v0 f n = some r) : AM X l yX8_fault cX8_fault 1 (some .int) 0 0 0 [.ref v0] f n (QHi r) := by
  have h : ((gI f v0 8 13).bind fun x1 => some (x1, (f, n))) = some r := h
  refine AM.of (by decide +kernel) rfl (Nat.le_of_ble_eq_true rfl) (fun p e s m args below meth c C hnm => ?_)
  refine aw_nl [some (.ref v0)] rfl ?_
  refine aw_ald_n C dX8_fault_0 rfl ?_
  obtain ⟨x1, hx1, h⟩ := Option.bind_eq_some_iff.mp h
  refine ah_getI C gf_X8_59 hx1 dX8_fault_1 ?_
  cases h
  exact aw_iret C rfl rfl dX8_fault_4 (by omega) (by omega) ⟨rfl, rfl, rfl⟩
def mX8_why (v0 : Nat) (f : AH) (n : Nat) : Option (Int32 × HpN) := ((gI f v0 8 12).bind fun x1 => some (x1, (f, n)))
set_option maxHeartbeats 1000000 in
theorem rmX8_why {X : GX} {l : Launch} {r : Int32 × HpN} {v0 : Nat} {f : AH} {n : Nat} (h : mX8_why v0 f n = some r) : AM X l yX8_why cX8_why 1 (some .int) 0 0 0 [.ref v0] f n (QHi r) := by
  have h : ((gI f v0 8 12).bind fun x1 => some (x1, (f, n))) = some r := h
  refine AM.of (by decide +kernel) rfl (Nat.le_of_ble_eq_true rfl) (fun p e s m args below meth c C hnm => ?_)
  refine aw_nl [some (.ref v0)] rfl ?_
  refine aw_ald_n C dX8_why_0 rfl ?_
  obtain ⟨x1, hx1, h⟩ := Option.bind_eq_some_iff.mp h
  refine ah_getI C gf_X8_110 hx1 dX8_why_1 ?_
  cases h
  exact aw_iret C rfl rfl dX8_why_4 (by omega) (by omega) ⟨rfl, rfl, rfl⟩
def mX5_get_b31 (s0 : Int32) (f : AH) (n : Nat) : Option (Int32 × HpN) := some (s0, (f, n))
set_option maxHeartbeats 1000000 in
theorem rmX5_get_b31 {X : GX} {p : Program} {l : Launch} {e : Env} {s : State} {m : MethodId} {args : Array Value} {below : List Frame} {meth : Method} {c : Code} {r : Int32 × HpN} {s0 : Int32} {f : AH} {n cells slots : Nat} (C : CC X p l (RM 0 0 0) s m args meth c RX5 cX5_get 2 (some .int)) (hc : cells + 0 ≤ 0) (hs : slots + 0 ≤ 0) (h : mX5_get_b31 s0 f n = some r) : AW X p l e (RM 0 0 0) s m args below meth c 2 (ZM X below args s 0 0 (QHi r)) f n cells slots 31 [none, none] [.int s0] := by
  have h : some (s0, (f, n)) = some r := h
  cases h
  exact aw_iret C rfl rfl dX5_get_31 (by omega) (by omega) ⟨rfl, rfl, rfl⟩
def mX5_get_b30 (f : AH) (n : Nat) : Option (Int32 × HpN) := mX5_get_b31 (-1 : Int32) f n
set_option maxHeartbeats 1000000 in
theorem rmX5_get_b30 {X : GX} {p : Program} {l : Launch} {e : Env} {s : State} {m : MethodId} {args : Array Value} {below : List Frame} {meth : Method} {c : Code} {r : Int32 × HpN} {f : AH} {n cells slots : Nat} (C : CC X p l (RM 0 0 0) s m args meth c RX5 cX5_get 2 (some .int)) (hc : cells + 0 ≤ 0) (hs : slots + 0 ≤ 0) (h : mX5_get_b30 f n = some r) : AW X p l e (RM 0 0 0) s m args below meth c 2 (ZM X below args s 0 0 (QHi r)) f n cells slots 30 [none, none] [] := by
  have h : mX5_get_b31 (-1 : Int32) f n = some r := h
  refine aw_iconst C (-1) dX5_get_30 ki_m1 ?_
  refine aw_fl [none, none] trivial ?_
  exact rmX5_get_b31 C (by omega) (by omega) h
def mX5_get (v0 : Nat) (v1 : Int32) (f : AH) (n : Nat) : Option (Int32 × HpN) := (if v1 < (0 : Int32) then mX5_get_b30 f n else ((gI f v0 5 1).bind fun x1 => (if x1 ≤ v1 then mX5_get_b30 f n else ((gR f v0 5 0).bind fun x2 => ((x2).bind fun j3 => ((gL f j3).bind fun x4 => (if (nI x4) ≤ v1 then mX5_get_b30 f n else ((gR f v0 5 0).bind fun x5 => ((x5).bind fun j6 => ((gIA f j6 v1).bind fun x7 => mX5_get_b31 x7 f n))))))))))
set_option maxHeartbeats 1000000 in
theorem rmX5_get {X : GX} {l : Launch} {r : Int32 × HpN} {v0 : Nat} {v1 : Int32} {f : AH} {n : Nat} (h : mX5_get v0 v1 f n = some r) : AM X l yX5_get cX5_get 2 (some .int) 0 0 0 [.ref v0, .int v1] f n (QHi r) := by
  have h : (if v1 < (0 : Int32) then mX5_get_b30 f n else ((gI f v0 5 1).bind fun x1 => (if x1 ≤ v1 then mX5_get_b30 f n else ((gR f v0 5 0).bind fun x2 => ((x2).bind fun j3 => ((gL f j3).bind fun x4 => (if (nI x4) ≤ v1 then mX5_get_b30 f n else ((gR f v0 5 0).bind fun x5 => ((x5).bind fun j6 => ((gIA f j6 v1).bind fun x7 => mX5_get_b31 x7 f n)))))))))) = some r := h
  refine AM.of (by decide +kernel) rfl (Nat.le_of_ble_eq_true rfl) (fun p e s m args below meth c C hnm => ?_)
  refine aw_nl [some (.ref v0), some (.int v1)] rfl ?_
  refine aw_iload_n C dX5_get_0 rfl ?_
  refine aw_if_lt C 30 dX5_get_1 (by decide) (fun q => ?_) (fun q => ?_)
  · rw [if_pos q] at h
    refine aw_fl [none, none] trivial ?_
    exact rmX5_get_b30 C (by omega) (by omega) h
  · rw [if_neg q] at h
    refine aw_iload_n C dX5_get_4 rfl ?_
    refine aw_ald_n C dX5_get_5 rfl ?_
    obtain ⟨x1, hx1, h⟩ := Option.bind_eq_some_iff.mp h
    refine ah_getI C gf_X5_15 hx1 dX5_get_6 ?_
    refine aw_icmp_ge C 30 dX5_get_9 (by decide) (fun q => ?_) (fun q => ?_)
    · rw [if_pos q] at h
      refine aw_fl [none, none] trivial ?_
      exact rmX5_get_b30 C (by omega) (by omega) h
    · rw [if_neg q] at h
      refine aw_iload_n C dX5_get_12 rfl ?_
      refine aw_ald_n C dX5_get_13 rfl ?_
      obtain ⟨x2, hx2, h⟩ := Option.bind_eq_some_iff.mp h
      refine ah_getR C gf_X5_9 hx2 dX5_get_14 ?_
      obtain ⟨j3, hj3, h⟩ := Option.bind_eq_some_iff.mp h
      rw [hj3]
      obtain ⟨x4, hx4, h⟩ := Option.bind_eq_some_iff.mp h
      refine ah_len C hx4 dX5_get_17 ?_
      refine aw_icmp_ge C 30 dX5_get_18 (by decide) (fun q => ?_) (fun q => ?_)
      · rw [if_pos q] at h
        refine aw_fl [none, none] trivial ?_
        exact rmX5_get_b30 C (by omega) (by omega) h
      · rw [if_neg q] at h
        refine aw_ald_n C dX5_get_21 rfl ?_
        obtain ⟨x5, hx5, h⟩ := Option.bind_eq_some_iff.mp h
        refine ah_getR C gf_X5_9 hx5 dX5_get_22 ?_
        refine aw_iload_n C dX5_get_25 rfl ?_
        obtain ⟨j6, hj6, h⟩ := Option.bind_eq_some_iff.mp h
        rw [hj6]
        obtain ⟨x7, hx7, h⟩ := Option.bind_eq_some_iff.mp h
        refine ah_iald C hx7 dX5_get_26 ?_
        refine aw_goto C 31 dX5_get_27 (by decide) ?_
        refine aw_fl [none, none] trivial ?_
        exact rmX5_get_b31 C (by omega) (by omega) h
def mX5_addPart_b35 (v4 : Int32) (f : AH) (n : Nat) : Option (Int32 × HpN) := rCk (rNb v4) (some (v4, (f, n)))
set_option maxHeartbeats 1000000 in
theorem rmX5_addPart_b35 {X : GX} {p : Program} {l : Launch} {e : Env} {s : State} {m : MethodId} {args : Array Value} {below : List Frame} {meth : Method} {c : Code} {r : Int32 × HpN} {v4 : Int32} {f : AH} {n cells slots : Nat} (C : CC X p l (RM 1 0 0) s m args meth c RX5 cX5_addPart 6 (some .boolean)) (hc : cells + 0 ≤ 0) (hs : slots + 0 ≤ 0) (h : mX5_addPart_b35 v4 f n = some r) : AW X p l e (RM 1 0 0) s m args below meth c 6 (ZM X below args s 0 0 (QHi r)) f n cells slots 35 [none, none, none, none, some (.int v4), none] [] := by
  have h : rCk (rNb v4) (some (v4, (f, n))) = some r := h
  refine aw_iload C dX5_addPart_35 rfl ?_
  obtain ⟨hb1, h⟩ := ck_some h
  cases h
  exact aw_iret C rfl (nb_nar hb1) dX5_addPart_37 (by omega) (by omega) ⟨rfl, rfl, rfl⟩
def mX5_addPart_l6 : Nat → Nat → (Option Nat) → Int32 → Int32 → Int32 → AH → Nat → Option (Int32 × HpN)
  | 0, _, _, _, _, _, _, _ => none
  | d + 1, v0, v1, v3, v4, v5, f, n => (if v3 ≤ v5 then mX5_addPart_b35 v4 f n else (if v4 = (0 : Int32) then mX5_addPart_b35 v4 f n else ((v1).bind fun j1 => rCk (isO f j1 5) (((mX5_get j1 v5 f n).bind fun r3 => rCk (isO r3.2.1 v0 5) (((mX5_add v0 r3.1 r3.2.1 r3.2.2).bind fun r6 => mX5_addPart_l6 d v0 (some j1) v3 r6.1 (v5 + (1 : Int32)) r6.2.1 r6.2.2)))))))
set_option maxHeartbeats 1000000 in
theorem rmX5_addPart_l6 {X : GX} {p : Program} {l : Launch} {e : Env} {s : State} {m : MethodId} {args : Array Value} {below : List Frame} {meth : Method} {c : Code} {r : Int32 × HpN} (C : CC X p l (RM 1 0 0) s m args meth c RX5 cX5_addPart 6 (some .boolean)) : ∀ (d : Nat) (v0 : Nat) (v1 : Option Nat) (v3 : Int32) (v4 : Int32) (v5 : Int32) (f : AH) (n cells slots : Nat) (_ : cells + 0 ≤ 0) (_ : slots + 0 ≤ 0) (_ : mX5_addPart_l6 d v0 v1 v3 v4 v5 f n = some r), AW X p l e (RM 1 0 0) s m args below meth c 6 (ZM X below args s 0 0 (QHi r)) f n cells slots 6 [some (.ref v0), some (va_rf v1), none, some (.int v3), some (.int v4), some (.int v5)] [] := by
  intro d
  induction d with
  | zero =>
    intro v0 v1 v3 v4 v5 f n cells slots hc hs h
    exact nomatch (show (none : Option (Int32 × HpN)) = some r from h)
  | succ d ih =>
    intro v0 v1 v3 v4 v5 f n cells slots hc hs h
    have h : (if v3 ≤ v5 then mX5_addPart_b35 v4 f n else (if v4 = (0 : Int32) then mX5_addPart_b35 v4 f n else ((v1).bind fun j1 => rCk (isO f j1 5) (((mX5_get j1 v5 f n).bind fun r3 => rCk (isO r3.2.1 v0 5) (((mX5_add v0 r3.1 r3.2.1 r3.2.2).bind fun r6 => mX5_addPart_l6 d v0 (some j1) v3 r6.1 (v5 + (1 : Int32)) r6.2.1 r6.2.2))))))) = some r := h
    refine aw_iload C dX5_addPart_6 rfl ?_
    refine aw_iload_n C dX5_addPart_8 rfl ?_
    refine aw_icmp_ge C 35 dX5_addPart_9 (by decide) (fun q => ?_) (fun q => ?_)
    · rw [if_pos q] at h
      refine aw_fl [none, none, none, none, some (.int v4), none] ⟨rfl, trivial⟩ ?_
      exact rmX5_addPart_b35 C (by omega) (by omega) h
    · rw [if_neg q] at h
      refine aw_iload C dX5_addPart_12 rfl ?_
      refine aw_if_eq C 35 dX5_addPart_14 (by decide) (fun q => ?_) (fun q => ?_)
      · rw [if_pos q] at h
        refine aw_fl [none, none, none, none, some (.int v4), none] ⟨rfl, trivial⟩ ?_
        exact rmX5_addPart_b35 C (by omega) (by omega) h
      · rw [if_neg q] at h
        refine aw_ald_n C dX5_addPart_17 rfl ?_
        refine aw_aload_n C dX5_addPart_18 rfl (rf_or v1) ?_
        refine aw_iload C dX5_addPart_19 rfl ?_
        obtain ⟨j1, hj1, h⟩ := Option.bind_eq_some_iff.mp h
        rw [hj1]
        obtain ⟨hb2, h⟩ := ck_some h
        obtain ⟨r3, hr3, h⟩ := Option.bind_eq_some_iff.mp h
        obtain ⟨fs4, hf4⟩ := isO_ex hb2
        refine aw_callV C (ci := 5) (b := j1) [.int v5] mv_X5_19 rfl rfl hf4 (rmX5_get hr3) rfl dX5_addPart_21 (Nat.le_of_ble_eq_true rfl) (Nat.le_of_ble_eq_true rfl) rfl (Nat.le_of_ble_eq_true rfl) (show cells + 0 ≤ 0 by omega) (show slots + 0 ≤ 0 by omega) (fun v9 f9 n9 hh => ?_)
        obtain ⟨rfl, rfl, rfl⟩ := hh
        obtain ⟨hb5, h⟩ := ck_some h
        obtain ⟨r6, hr6, h⟩ := Option.bind_eq_some_iff.mp h
        obtain ⟨fs7, hf7⟩ := isO_ex hb5
        refine aw_callV C (ci := 5) (b := v0) [.int r3.1] mv_X5_23 rfl rfl hf7 (rmX5_add hr6) rfl dX5_addPart_24 (Nat.le_of_ble_eq_true rfl) (Nat.le_of_ble_eq_true rfl) rfl (Nat.le_of_ble_eq_true rfl) (show (cells + 0) + 0 ≤ 0 by omega) (show (slots + 0) + 0 ≤ 0 by omega) (fun v9 f9 n9 hh => ?_)
        obtain ⟨rfl, rfl, rfl⟩ := hh
        refine aw_istore C dX5_addPart_27 (by decide) rfl ?_
        refine aw_nl [some (.ref v0), some (.ref j1), none, some (.int v3), some (.int r6.1), some (.int v5)] rfl ?_
        refine aw_iinc C (v5 + (1 : Int32)) dX5_addPart_29 rfl (by rw [ki_1]) (by decide) rfl ?_
        refine aw_nl [some (.ref v0), some (.ref j1), none, some (.int v3), some (.int r6.1), some (.int (v5 + (1 : Int32)))] rfl ?_
        refine aw_goto C 6 dX5_addPart_32 (by decide) ?_
        refine aw_fl [some (.ref v0), some (va_rf (some j1)), none, some (.int v3), some (.int r6.1), some (.int (v5 + (1 : Int32)))] ⟨rfl, ⟨rfl, ⟨rfl, ⟨rfl, ⟨rfl, trivial⟩⟩⟩⟩⟩ ?_
        exact ih v0 (some j1) v3 r6.1 (v5 + (1 : Int32)) r6.2.1 r6.2.2 _ _ (by omega) (by omega) h
def mX5_addPart (v0 : Nat) (v1 : Option Nat) (v2 : Int32) (v3 : Int32) (f : AH) (n : Nat) : Option (Int32 × HpN) := mX5_addPart_l6 rFU v0 v1 v3 (1 : Int32) v2 f n
set_option maxHeartbeats 1000000 in
theorem rmX5_addPart {X : GX} {l : Launch} {r : Int32 × HpN} {v0 : Nat} {v1 : Option Nat} {v2 : Int32} {v3 : Int32} {f : AH} {n : Nat} (h : mX5_addPart v0 v1 v2 v3 f n = some r) : AM X l yX5_addPart cX5_addPart 6 (some .boolean) 1 0 0 [.ref v0, va_rf v1, .int v2, .int v3] f n (QHi r) := by
  have h : mX5_addPart_l6 rFU v0 v1 v3 (1 : Int32) v2 f n = some r := h
  refine AM.of (by decide +kernel) (all1 rfl (all1 (rf_cat _) (all1 rfl (all1 rfl rfl)))) (Nat.le_of_ble_eq_true rfl) (fun p e s m args below meth c C hnm => ?_)
  refine aw_nl [some (.ref v0), some (va_rf v1), some (.int v2), some (.int v3), none, none] rfl ?_
  refine aw_iconst C 1 dX5_addPart_0 ki_1 ?_
  refine aw_istore C dX5_addPart_1 (by decide) rfl ?_
  refine aw_nl [some (.ref v0), some (va_rf v1), some (.int v2), some (.int v3), some (.int (1 : Int32)), none] rfl ?_
  refine aw_iload_n C dX5_addPart_3 rfl ?_
  refine aw_istore C dX5_addPart_4 (by decide) rfl ?_
  refine aw_nl [some (.ref v0), some (va_rf v1), some (.int v2), some (.int v3), some (.int (1 : Int32)), some (.int v2)] rfl ?_
  refine aw_fl [some (.ref v0), some (va_rf v1), none, some (.int v3), some (.int (1 : Int32)), some (.int v2)] ⟨rfl, ⟨rfl, ⟨rfl, ⟨rfl, ⟨rfl, trivial⟩⟩⟩⟩⟩ ?_
  exact rmX5_addPart_l6 C rFU v0 v1 v3 (1 : Int32) v2 f n _ _ (by omega) (by omega) h
def mX5_part (B : Nat) (v0 : Nat) (v1 : Int32) (v2 : Int32) (f : AH) (n : Nat) : Option (Option Nat × HpN) := ((mX5_init B n v2 (va_up f n (some (.inr (5, df5)))) (n + 1)).bind fun r2 => rCk (isO r2.2.1 n 5) (((mX5_addPart n (some v0) v1 (v1 + v2) r2.2.1 r2.2.2).bind fun r4 => some ((some n), (r4.2.1, r4.2.2)))))
set_option maxHeartbeats 1000000 in
theorem rmX5_part {X : GX} {l : Launch} {r : Option Nat × HpN} {B : Nat} {v0 : Nat} {v1 : Int32} {v2 : Int32} {f : AH} {n : Nat} (h : mX5_part B v0 v1 v2 f n = some r) : AM X l yX5_part cX5_part 4 (some (.object "PieceFiles$Row")) 2 2 (2 + B) [.ref v0, .int v1, .int v2] f n (QHr r) := by
  have h : ((mX5_init B n v2 (va_up f n (some (.inr (5, df5)))) (n + 1)).bind fun r2 => rCk (isO r2.2.1 n 5) (((mX5_addPart n (some v0) v1 (v1 + v2) r2.2.1 r2.2.2).bind fun r4 => some ((some n), (r4.2.1, r4.2.2))))) = some r := h
  refine AM.of (by decide +kernel) rfl (Nat.le_of_ble_eq_true rfl) (fun p e s m args below meth c C hnm => ?_)
  refine aw_nl [some (.ref v0), some (.int v1), some (.int v2), none] rfl ?_
  refine aw_new C nw_X5_10 (show 0 + 1 ≤ 2 by omega) (show 0 + 2 ≤ (2 + B) by omega) dX5_part_0 ?_
  refine aw_wide (k := (0 + 1)) (j := (0 + 2)) (Nat.le_refl _) (Nat.le_refl _) ?_
  refine aw_dup C dX5_part_3 rfl ?_
  refine aw_iload_n C dX5_part_4 rfl ?_
  obtain ⟨r2, hr2, h⟩ := Option.bind_eq_some_iff.mp h
  refine aw_callI C (b := n) [.int v2] mi_X5_27 (rmX5_init hr2) rfl dX5_part_5 (Nat.le_of_ble_eq_true rfl) (Nat.le_of_ble_eq_true rfl) rfl (Nat.le_of_ble_eq_true rfl) (show (0 + 1) + 1 ≤ 2 by omega) (show (0 + 2) + (0 + B) ≤ (2 + B) by omega) (fun v9 f9 n9 hh => ?_)
  obtain ⟨rfl, rfl, rfl⟩ := hh
  refine aw_astore_n C dX5_part_8 (by decide) rfl (Or.inr ⟨_, rfl⟩) ?_
  refine aw_nl [some (.ref v0), some (.int v1), some (.int v2), some (.ref n)] rfl ?_
  refine aw_ald_n C dX5_part_9 rfl ?_
  refine aw_ald_n C dX5_part_10 rfl ?_
  refine aw_iload_n C dX5_part_11 rfl ?_
  refine aw_iload_n C dX5_part_12 rfl ?_
  refine aw_iload_n C dX5_part_13 rfl ?_
  refine aw_iadd C dX5_part_14 ?_
  obtain ⟨hb3, h⟩ := ck_some h
  obtain ⟨r4, hr4, h⟩ := Option.bind_eq_some_iff.mp h
  obtain ⟨fs5, hf5⟩ := isO_ex hb3
  refine aw_callV C (ci := 5) (b := n) [.ref v0, .int v1, .int (v1 + v2)] mv_X5_30 rfl rfl hf5 (rmX5_addPart hr4) rfl dX5_part_15 (Nat.le_of_ble_eq_true rfl) (Nat.le_of_ble_eq_true rfl) rfl (Nat.le_of_ble_eq_true rfl) (show ((0 + 1) + 1) + 0 ≤ 2 by omega) (show ((0 + 2) + (0 + B)) + 0 ≤ (2 + B) by omega) (fun v9 f9 n9 hh => ?_)
  obtain ⟨rfl, rfl, rfl⟩ := hh
  refine aw_pop C dX5_part_18 rfl ?_
  refine aw_ald_n C dX5_part_19 rfl ?_
  cases h
  exact aw_aret C rfl (Or.inr ⟨_, rfl⟩) dX5_part_20 (by omega) (by omega) ⟨rfl, rfl, rfl⟩
def mX7_forgetTold_l2 : Nat → Nat → Int32 → AH → Nat → Option (Int32 × HpN)
  | 0, _, _, _, _ => none
  | d + 1, v0, v1, f, n => ((gR f v0 7 9).bind fun x1 => ((x1).bind fun j2 => ((gL f j2).bind fun x3 => (if (nI x3) ≤ v1 then some ((0 : Int32), (f, n)) else ((gR f v0 7 9).bind fun x4 => ((x4).bind fun j5 => ((pRA f j5 v1 (none : Option Nat)).bind fun f6 => mX7_forgetTold_l2 d v0 (v1 + (1 : Int32)) f6 n)))))))
set_option maxHeartbeats 1000000 in
theorem rmX7_forgetTold_l2 {X : GX} {p : Program} {l : Launch} {e : Env} {s : State} {m : MethodId} {args : Array Value} {below : List Frame} {meth : Method} {c : Code} {r : Int32 × HpN} (C : CC X p l (RM 0 0 0) s m args meth c RX7 cX7_forgetTold 2 none) : ∀ (d : Nat) (v0 : Nat) (v1 : Int32) (f : AH) (n cells slots : Nat) (_ : cells + 0 ≤ 0) (_ : slots + 0 ≤ 0) (_ : mX7_forgetTold_l2 d v0 v1 f n = some r), AW X p l e (RM 0 0 0) s m args below meth c 2 (ZM X below args s 0 0 (QHv r)) f n cells slots 2 [some (.ref v0), some (.int v1)] [] := by
  intro d
  induction d with
  | zero =>
    intro v0 v1 f n cells slots hc hs h
    exact nomatch (show (none : Option (Int32 × HpN)) = some r from h)
  | succ d ih =>
    intro v0 v1 f n cells slots hc hs h
    have h : ((gR f v0 7 9).bind fun x1 => ((x1).bind fun j2 => ((gL f j2).bind fun x3 => (if (nI x3) ≤ v1 then some ((0 : Int32), (f, n)) else ((gR f v0 7 9).bind fun x4 => ((x4).bind fun j5 => ((pRA f j5 v1 (none : Option Nat)).bind fun f6 => mX7_forgetTold_l2 d v0 (v1 + (1 : Int32)) f6 n))))))) = some r := h
    refine aw_iload_n C dX7_forgetTold_2 rfl ?_
    refine aw_ald_n C dX7_forgetTold_3 rfl ?_
    obtain ⟨x1, hx1, h⟩ := Option.bind_eq_some_iff.mp h
    refine ah_getR C gf_X7_34 hx1 dX7_forgetTold_4 ?_
    obtain ⟨j2, hj2, h⟩ := Option.bind_eq_some_iff.mp h
    rw [hj2]
    obtain ⟨x3, hx3, h⟩ := Option.bind_eq_some_iff.mp h
    refine ah_len C hx3 dX7_forgetTold_7 ?_
    refine aw_icmp_ge C 24 dX7_forgetTold_8 (by decide) (fun q => ?_) (fun q => ?_)
    · rw [if_pos q] at h
      cases h
      exact aw_vret C rfl dX7_forgetTold_24 (by omega) (by omega) ⟨rfl, rfl, rfl⟩
    · rw [if_neg q] at h
      refine aw_ald_n C dX7_forgetTold_11 rfl ?_
      obtain ⟨x4, hx4, h⟩ := Option.bind_eq_some_iff.mp h
      refine ah_getR C gf_X7_34 hx4 dX7_forgetTold_12 ?_
      refine aw_iload_n C dX7_forgetTold_15 rfl ?_
      refine aw_null C dX7_forgetTold_16 ?_
      obtain ⟨j5, hj5, h⟩ := Option.bind_eq_some_iff.mp h
      rw [hj5]
      obtain ⟨f6, hf6, h⟩ := Option.bind_eq_some_iff.mp h
      refine ah_aast C hf6 dX7_forgetTold_17 ?_
      refine aw_iinc C (v1 + (1 : Int32)) dX7_forgetTold_18 rfl (by rw [ki_1]) (by decide) rfl ?_
      refine aw_nl [some (.ref v0), some (.int (v1 + (1 : Int32)))] rfl ?_
      refine aw_goto C 2 dX7_forgetTold_21 (by decide) ?_
      refine aw_fl [some (.ref v0), some (.int (v1 + (1 : Int32)))] ⟨rfl, ⟨rfl, trivial⟩⟩ ?_
      exact ih v0 (v1 + (1 : Int32)) f6 n _ _ (by omega) (by omega) h
def mX7_forgetTold (v0 : Nat) (f : AH) (n : Nat) : Option (Int32 × HpN) := mX7_forgetTold_l2 rFU v0 (0 : Int32) f n
set_option maxHeartbeats 1000000 in
theorem rmX7_forgetTold {X : GX} {l : Launch} {r : Int32 × HpN} {v0 : Nat} {f : AH} {n : Nat} (h : mX7_forgetTold v0 f n = some r) : AM X l yX7_forgetTold cX7_forgetTold 2 none 0 0 0 [.ref v0] f n (QHv r) := by
  have h : mX7_forgetTold_l2 rFU v0 (0 : Int32) f n = some r := h
  refine AM.of (by decide +kernel) rfl (Nat.le_of_ble_eq_true rfl) (fun p e s m args below meth c C hnm => ?_)
  refine aw_nl [some (.ref v0), none] rfl ?_
  refine aw_iconst C 0 dX7_forgetTold_0 ki_0 ?_
  refine aw_istore_n C dX7_forgetTold_1 (by decide) rfl ?_
  refine aw_nl [some (.ref v0), some (.int (0 : Int32))] rfl ?_
  refine aw_fl [some (.ref v0), some (.int (0 : Int32))] ⟨rfl, ⟨rfl, trivial⟩⟩ ?_
  exact rmX7_forgetTold_l2 C rFU v0 (0 : Int32) f n _ _ (by omega) (by omega) h
def mX6_start (v0 : Nat) (v1 : Option Nat) (v2 : Int32) (f : AH) (n : Nat) : Option (Int32 × HpN) := ((pO f v0 6 0 (va_rf v1)).bind fun f1 => ((pO f1 v0 6 8 (.int v2)).bind fun f2 => ((pO f2 v0 6 9 (.int (0 : Int32))).bind fun f3 => rCk (rNb (0 : Int32)) (((pO f3 v0 6 3 (.int (0 : Int32))).bind fun f5 => ((pO f5 v0 6 4 (.int (0 : Int32))).bind fun f6 => ((pO f6 v0 6 5 (.int (0 : Int32))).bind fun f7 => some ((0 : Int32), (f7, n)))))))))
set_option maxHeartbeats 1000000 in
theorem rmX6_start {X : GX} {l : Launch} {r : Int32 × HpN} {v0 : Nat} {v1 : Option Nat} {v2 : Int32} {f : AH} {n : Nat} (h : mX6_start v0 v1 v2 f n = some r) : AM X l yX6_start cX6_start 3 none 0 0 0 [.ref v0, va_rf v1, .int v2] f n (QHv r) := by
  have h : ((pO f v0 6 0 (va_rf v1)).bind fun f1 => ((pO f1 v0 6 8 (.int v2)).bind fun f2 => ((pO f2 v0 6 9 (.int (0 : Int32))).bind fun f3 => rCk (rNb (0 : Int32)) (((pO f3 v0 6 3 (.int (0 : Int32))).bind fun f5 => ((pO f5 v0 6 4 (.int (0 : Int32))).bind fun f6 => ((pO f6 v0 6 5 (.int (0 : Int32))).bind fun f7 => some ((0 : Int32), (f7, n))))))))) = some r := h
  refine AM.of (by decide +kernel) (all1 rfl (all1 (rf_cat _) (all1 rfl rfl))) (Nat.le_of_ble_eq_true rfl) (fun p e s m args below meth c C hnm => ?_)
  refine aw_nl [some (.ref v0), some (va_rf v1), some (.int v2)] rfl ?_
  refine aw_ald_n C dX6_start_0 rfl ?_
  refine aw_aload_n C dX6_start_1 rfl (rf_or v1) ?_
  obtain ⟨f1, hf1, h⟩ := Option.bind_eq_some_iff.mp h
  refine ah_put C gf_X6_14 cf6 nf6_0 (rf_nar _ v1) (rf_fit _ v1) hf1 dX6_start_2 ?_
  refine aw_ald_n C dX6_start_5 rfl ?_
  refine aw_iload_n C dX6_start_6 rfl ?_
  obtain ⟨f2, hf2, h⟩ := Option.bind_eq_some_iff.mp h
  refine ah_put C gf_X6_20 cf6 nf6_8 rfl rfl hf2 dX6_start_7 ?_
  refine aw_ald_n C dX6_start_10 rfl ?_
  refine aw_iconst C 0 dX6_start_11 ki_0 ?_
  obtain ⟨f3, hf3, h⟩ := Option.bind_eq_some_iff.mp h
  refine ah_put C gf_X6_24 cf6 nf6_9 rfl rfl hf3 dX6_start_12 ?_
  refine aw_ald_n C dX6_start_15 rfl ?_
  refine aw_iconst C 0 dX6_start_16 ki_0 ?_
  obtain ⟨hb4, h⟩ := ck_some h
  obtain ⟨f5, hf5, h⟩ := Option.bind_eq_some_iff.mp h
  refine ah_put C gf_X6_27 cf6 nf6_3 (nb_nar hb4) (nb_fit hb4) hf5 dX6_start_17 ?_
  refine aw_ald_n C dX6_start_20 rfl ?_
  refine aw_iconst C 0 dX6_start_21 ki_0 ?_
  obtain ⟨f6, hf6, h⟩ := Option.bind_eq_some_iff.mp h
  refine ah_put C gf_X6_31 cf6 nf6_4 rfl rfl hf6 dX6_start_22 ?_
  refine aw_ald_n C dX6_start_25 rfl ?_
  refine aw_iconst C 0 dX6_start_26 ki_0 ?_
  obtain ⟨f7, hf7, h⟩ := Option.bind_eq_some_iff.mp h
  refine ah_put C gf_X6_34 cf6 nf6_5 rfl rfl hf7 dX6_start_27 ?_
  cases h
  exact aw_vret C rfl dX6_start_30 (by omega) (by omega) ⟨rfl, rfl, rfl⟩
def mX5_next_b44 (v3 : Int32) (f : AH) (n : Nat) : Option (Int32 × HpN) := some (v3, (f, n))
set_option maxHeartbeats 1000000 in
theorem rmX5_next_b44 {X : GX} {p : Program} {l : Launch} {e : Env} {s : State} {m : MethodId} {args : Array Value} {below : List Frame} {meth : Method} {c : Code} {r : Int32 × HpN} {v3 : Int32} {f : AH} {n cells slots : Nat} (C : CC X p l (RM 0 0 0) s m args meth c RX5 cX5_next 5 (some .int)) (hc : cells + 0 ≤ 0) (hs : slots + 0 ≤ 0) (h : mX5_next_b44 v3 f n = some r) : AW X p l e (RM 0 0 0) s m args below meth c 5 (ZM X below args s 0 0 (QHi r)) f n cells slots 44 [none, none, none, some (.int v3), none] [] := by
  have h : some (v3, (f, n)) = some r := h
  refine aw_iload_n C dX5_next_44 rfl ?_
  cases h
  exact aw_iret C rfl rfl dX5_next_45 (by omega) (by omega) ⟨rfl, rfl, rfl⟩
def mX5_next_l3 : Nat → Nat → Int32 → Int32 → Int32 → AH → Nat → Option (Int32 × HpN)
  | 0, _, _, _, _, _, _ => none
  | d + 1, v0, v1, v3, v4, f, n => (if v4 < (0 : Int32) then mX5_next_b44 v3 f n else (if v3 ≤ v4 then mX5_next_b44 v3 f n else ((gR f v0 5 0).bind fun x1 => ((x1).bind fun j2 => ((gL f j2).bind fun x3 => (if (nI x3) ≤ v4 then mX5_next_b44 v3 f n else ((gR f v0 5 0).bind fun x4 => ((x4).bind fun j5 => ((gIA f j5 v4).bind fun x6 => (if x6 = v1 then some (v4, (f, n)) else mX5_next_l3 d v0 v1 v3 (v4 + (1 : Int32)) f n))))))))))
set_option maxHeartbeats 1000000 in
theorem rmX5_next_l3 {X : GX} {p : Program} {l : Launch} {e : Env} {s : State} {m : MethodId} {args : Array Value} {below : List Frame} {meth : Method} {c : Code} {r : Int32 × HpN} (C : CC X p l (RM 0 0 0) s m args meth c RX5 cX5_next 5 (some .int)) : ∀ (d : Nat) (v0 : Nat) (v1 : Int32) (v3 : Int32) (v4 : Int32) (f : AH) (n cells slots : Nat) (_ : cells + 0 ≤ 0) (_ : slots + 0 ≤ 0) (_ : mX5_next_l3 d v0 v1 v3 v4 f n = some r), AW X p l e (RM 0 0 0) s m args below meth c 5 (ZM X below args s 0 0 (QHi r)) f n cells slots 3 [some (.ref v0), some (.int v1), none, some (.int v3), some (.int v4)] [] := by
  intro d
  induction d with
  | zero =>
    intro v0 v1 v3 v4 f n cells slots hc hs h
    exact nomatch (show (none : Option (Int32 × HpN)) = some r from h)
  | succ d ih =>
    intro v0 v1 v3 v4 f n cells slots hc hs h
    have h : (if v4 < (0 : Int32) then mX5_next_b44 v3 f n else (if v3 ≤ v4 then mX5_next_b44 v3 f n else ((gR f v0 5 0).bind fun x1 => ((x1).bind fun j2 => ((gL f j2).bind fun x3 => (if (nI x3) ≤ v4 then mX5_next_b44 v3 f n else ((gR f v0 5 0).bind fun x4 => ((x4).bind fun j5 => ((gIA f j5 v4).bind fun x6 => (if x6 = v1 then some (v4, (f, n)) else mX5_next_l3 d v0 v1 v3 (v4 + (1 : Int32)) f n)))))))))) = some r := h
    refine aw_iload C dX5_next_3 rfl ?_
    refine aw_if_lt C 44 dX5_next_5 (by decide) (fun q => ?_) (fun q => ?_)
    · rw [if_pos q] at h
      refine aw_fl [none, none, none, some (.int v3), none] ⟨rfl, trivial⟩ ?_
      exact rmX5_next_b44 C (by omega) (by omega) h
    · rw [if_neg q] at h
      refine aw_iload C dX5_next_8 rfl ?_
      refine aw_iload_n C dX5_next_10 rfl ?_
      refine aw_icmp_ge C 44 dX5_next_11 (by decide) (fun q => ?_) (fun q => ?_)
      · rw [if_pos q] at h
        refine aw_fl [none, none, none, some (.int v3), none] ⟨rfl, trivial⟩ ?_
        exact rmX5_next_b44 C (by omega) (by omega) h
      · rw [if_neg q] at h
        refine aw_iload C dX5_next_14 rfl ?_
        refine aw_ald_n C dX5_next_16 rfl ?_
        obtain ⟨x1, hx1, h⟩ := Option.bind_eq_some_iff.mp h
        refine ah_getR C gf_X5_9 hx1 dX5_next_17 ?_
        obtain ⟨j2, hj2, h⟩ := Option.bind_eq_some_iff.mp h
        rw [hj2]
        obtain ⟨x3, hx3, h⟩ := Option.bind_eq_some_iff.mp h
        refine ah_len C hx3 dX5_next_20 ?_
        refine aw_icmp_ge C 44 dX5_next_21 (by decide) (fun q => ?_) (fun q => ?_)
        · rw [if_pos q] at h
          refine aw_fl [none, none, none, some (.int v3), none] ⟨rfl, trivial⟩ ?_
          exact rmX5_next_b44 C (by omega) (by omega) h
        · rw [if_neg q] at h
          refine aw_ald_n C dX5_next_24 rfl ?_
          obtain ⟨x4, hx4, h⟩ := Option.bind_eq_some_iff.mp h
          refine ah_getR C gf_X5_9 hx4 dX5_next_25 ?_
          refine aw_iload C dX5_next_28 rfl ?_
          obtain ⟨j5, hj5, h⟩ := Option.bind_eq_some_iff.mp h
          rw [hj5]
          obtain ⟨x6, hx6, h⟩ := Option.bind_eq_some_iff.mp h
          refine ah_iald C hx6 dX5_next_30 ?_
          refine aw_iload_n C dX5_next_31 rfl ?_
          refine aw_icmp_ne C 38 dX5_next_32 (by decide) (fun q => ?_) (fun q => ?_)
          · rw [if_neg q] at h
            refine aw_iinc C (v4 + (1 : Int32)) dX5_next_38 rfl (by rw [ki_1]) (by decide) rfl ?_
            refine aw_nl [some (.ref v0), some (.int v1), none, some (.int v3), some (.int (v4 + (1 : Int32)))] rfl ?_
            refine aw_goto C 3 dX5_next_41 (by decide) ?_
            refine aw_fl [some (.ref v0), some (.int v1), none, some (.int v3), some (.int (v4 + (1 : Int32)))] ⟨rfl, ⟨rfl, ⟨rfl, ⟨rfl, trivial⟩⟩⟩⟩ ?_
            exact ih v0 v1 v3 (v4 + (1 : Int32)) f n _ _ (by omega) (by omega) h
          · rw [if_pos q] at h
            refine aw_iload C dX5_next_35 rfl ?_
            cases h
            exact aw_iret C rfl rfl dX5_next_37 (by omega) (by omega) ⟨rfl, rfl, rfl⟩
def mX5_next (v0 : Nat) (v1 : Int32) (v2 : Int32) (v3 : Int32) (f : AH) (n : Nat) : Option (Int32 × HpN) := mX5_next_l3 rFU v0 v1 v3 v2 f n
set_option maxHeartbeats 1000000 in
theorem rmX5_next {X : GX} {l : Launch} {r : Int32 × HpN} {v0 : Nat} {v1 : Int32} {v2 : Int32} {v3 : Int32} {f : AH} {n : Nat} (h : mX5_next v0 v1 v2 v3 f n = some r) : AM X l yX5_next cX5_next 5 (some .int) 0 0 0 [.ref v0, .int v1, .int v2, .int v3] f n (QHi r) := by
  have h : mX5_next_l3 rFU v0 v1 v3 v2 f n = some r := h
  refine AM.of (by decide +kernel) rfl (Nat.le_of_ble_eq_true rfl) (fun p e s m args below meth c C hnm => ?_)
  refine aw_nl [some (.ref v0), some (.int v1), some (.int v2), some (.int v3), none] rfl ?_
  refine aw_iload_n C dX5_next_0 rfl ?_
  refine aw_istore C dX5_next_1 (by decide) rfl ?_
  refine aw_nl [some (.ref v0), some (.int v1), some (.int v2), some (.int v3), some (.int v2)] rfl ?_
  refine aw_fl [some (.ref v0), some (.int v1), none, some (.int v3), some (.int v2)] ⟨rfl, ⟨rfl, ⟨rfl, ⟨rfl, trivial⟩⟩⟩⟩ ?_
  exact rmX5_next_l3 C rFU v0 v1 v3 v2 f n _ _ (by omega) (by omega) h
def mX5_behindBlanks_b39 (v2 : Int32) (f : AH) (n : Nat) : Option (Int32 × HpN) := some (v2, (f, n))
set_option maxHeartbeats 1000000 in
theorem rmX5_behindBlanks_b39 {X : GX} {p : Program} {l : Launch} {e : Env} {s : State} {m : MethodId} {args : Array Value} {below : List Frame} {meth : Method} {c : Code} {r : Int32 × HpN} {v2 : Int32} {f : AH} {n cells slots : Nat} (C : CC X p l (RM 0 0 0) s m args meth c RX5 cX5_behindBlanks 4 (some .int)) (hc : cells + 0 ≤ 0) (hs : slots + 0 ≤ 0) (h : mX5_behindBlanks_b39 v2 f n = some r) : AW X p l e (RM 0 0 0) s m args below meth c 4 (ZM X below args s 0 0 (QHi r)) f n cells slots 39 [none, none, some (.int v2), none] [] := by
  have h : some (v2, (f, n)) = some r := h
  refine aw_iload_n C dX5_behindBlanks_39 rfl ?_
  cases h
  exact aw_iret C rfl rfl dX5_behindBlanks_40 (by omega) (by omega) ⟨rfl, rfl, rfl⟩
def mX5_behindBlanks_l2 : Nat → Nat → Int32 → Int32 → AH → Nat → Option (Int32 × HpN)
  | 0, _, _, _, _, _ => none
  | d + 1, v0, v2, v3, f, n => (if v3 < (0 : Int32) then mX5_behindBlanks_b39 v2 f n else (if v2 ≤ v3 then mX5_behindBlanks_b39 v2 f n else ((gR f v0 5 0).bind fun x1 => ((x1).bind fun j2 => ((gL f j2).bind fun x3 => (if (nI x3) ≤ v3 then mX5_behindBlanks_b39 v2 f n else ((gR f v0 5 0).bind fun x4 => ((x4).bind fun j5 => ((gIA f j5 v3).bind fun x6 => (if x6 = (32 : Int32) then mX5_behindBlanks_l2 d v0 v2 (v3 + (1 : Int32)) f n else some (v3, (f, n))))))))))))
set_option maxHeartbeats 1000000 in
theorem rmX5_behindBlanks_l2 {X : GX} {p : Program} {l : Launch} {e : Env} {s : State} {m : MethodId} {args : Array Value} {below : List Frame} {meth : Method} {c : Code} {r : Int32 × HpN} (C : CC X p l (RM 0 0 0) s m args meth c RX5 cX5_behindBlanks 4 (some .int)) : ∀ (d : Nat) (v0 : Nat) (v2 : Int32) (v3 : Int32) (f : AH) (n cells slots : Nat) (_ : cells + 0 ≤ 0) (_ : slots + 0 ≤ 0) (_ : mX5_behindBlanks_l2 d v0 v2 v3 f n = some r), AW X p l e (RM 0 0 0) s m args below meth c 4 (ZM X below args s 0 0 (QHi r)) f n cells slots 2 [some (.ref v0), none, some (.int v2), some (.int v3)] [] := by
  intro d
  induction d with
  | zero =>
    intro v0 v2 v3 f n cells slots hc hs h
    exact nomatch (show (none : Option (Int32 × HpN)) = some r from h)
  | succ d ih =>
    intro v0 v2 v3 f n cells slots hc hs h
    have h : (if v3 < (0 : Int32) then mX5_behindBlanks_b39 v2 f n else (if v2 ≤ v3 then mX5_behindBlanks_b39 v2 f n else ((gR f v0 5 0).bind fun x1 => ((x1).bind fun j2 => ((gL f j2).bind fun x3 => (if (nI x3) ≤ v3 then mX5_behindBlanks_b39 v2 f n else ((gR f v0 5 0).bind fun x4 => ((x4).bind fun j5 => ((gIA f j5 v3).bind fun x6 => (if x6 = (32 : Int32) then mX5_behindBlanks_l2 d v0 v2 (v3 + (1 : Int32)) f n else some (v3, (f, n)))))))))))) = some r := h
    refine aw_iload_n C dX5_behindBlanks_2 rfl ?_
    refine aw_if_lt C 39 dX5_behindBlanks_3 (by decide) (fun q => ?_) (fun q => ?_)
    · rw [if_pos q] at h
      refine aw_fl [none, none, some (.int v2), none] ⟨rfl, trivial⟩ ?_
      exact rmX5_behindBlanks_b39 C (by omega) (by omega) h
    · rw [if_neg q] at h
      refine aw_iload_n C dX5_behindBlanks_6 rfl ?_
      refine aw_iload_n C dX5_behindBlanks_7 rfl ?_
      refine aw_icmp_ge C 39 dX5_behindBlanks_8 (by decide) (fun q => ?_) (fun q => ?_)
      · rw [if_pos q] at h
        refine aw_fl [none, none, some (.int v2), none] ⟨rfl, trivial⟩ ?_
        exact rmX5_behindBlanks_b39 C (by omega) (by omega) h
      · rw [if_neg q] at h
        refine aw_iload_n C dX5_behindBlanks_11 rfl ?_
        refine aw_ald_n C dX5_behindBlanks_12 rfl ?_
        obtain ⟨x1, hx1, h⟩ := Option.bind_eq_some_iff.mp h
        refine ah_getR C gf_X5_9 hx1 dX5_behindBlanks_13 ?_
        obtain ⟨j2, hj2, h⟩ := Option.bind_eq_some_iff.mp h
        rw [hj2]
        obtain ⟨x3, hx3, h⟩ := Option.bind_eq_some_iff.mp h
        refine ah_len C hx3 dX5_behindBlanks_16 ?_
        refine aw_icmp_ge C 39 dX5_behindBlanks_17 (by decide) (fun q => ?_) (fun q => ?_)
        · rw [if_pos q] at h
          refine aw_fl [none, none, some (.int v2), none] ⟨rfl, trivial⟩ ?_
          exact rmX5_behindBlanks_b39 C (by omega) (by omega) h
        · rw [if_neg q] at h
          refine aw_ald_n C dX5_behindBlanks_20 rfl ?_
          obtain ⟨x4, hx4, h⟩ := Option.bind_eq_some_iff.mp h
          refine ah_getR C gf_X5_9 hx4 dX5_behindBlanks_21 ?_
          refine aw_iload_n C dX5_behindBlanks_24 rfl ?_
          obtain ⟨j5, hj5, h⟩ := Option.bind_eq_some_iff.mp h
          rw [hj5]
          obtain ⟨x6, hx6, h⟩ := Option.bind_eq_some_iff.mp h
          refine ah_iald C hx6 dX5_behindBlanks_25 ?_
          refine aw_bipush C 32 dX5_behindBlanks_26 kb_32 ?_
          refine aw_icmp_eq C 33 dX5_behindBlanks_28 (by decide) (fun q => ?_) (fun q => ?_)
          · rw [if_pos q] at h
            refine aw_iinc C (v3 + (1 : Int32)) dX5_behindBlanks_33 rfl (by rw [ki_1]) (by decide) rfl ?_
            refine aw_nl [some (.ref v0), none, some (.int v2), some (.int (v3 + (1 : Int32)))] rfl ?_
            refine aw_goto C 2 dX5_behindBlanks_36 (by decide) ?_
            refine aw_fl [some (.ref v0), none, some (.int v2), some (.int (v3 + (1 : Int32)))] ⟨rfl, ⟨rfl, ⟨rfl, trivial⟩⟩⟩ ?_
            exact ih v0 v2 (v3 + (1 : Int32)) f n _ _ (by omega) (by omega) h
          · rw [if_neg q] at h
            refine aw_iload_n C dX5_behindBlanks_31 rfl ?_
            cases h
            exact aw_iret C rfl rfl dX5_behindBlanks_32 (by omega) (by omega) ⟨rfl, rfl, rfl⟩
def mX5_behindBlanks (v0 : Nat) (v1 : Int32) (v2 : Int32) (f : AH) (n : Nat) : Option (Int32 × HpN) := mX5_behindBlanks_l2 rFU v0 v2 v1 f n
set_option maxHeartbeats 1000000 in
theorem rmX5_behindBlanks {X : GX} {l : Launch} {r : Int32 × HpN} {v0 : Nat} {v1 : Int32} {v2 : Int32} {f : AH} {n : Nat} (h : mX5_behindBlanks v0 v1 v2 f n = some r) : AM X l yX5_behindBlanks cX5_behindBlanks 4 (some .int) 0 0 0 [.ref v0, .int v1, .int v2] f n (QHi r) := by
  have h : mX5_behindBlanks_l2 rFU v0 v2 v1 f n = some r := h
  refine AM.of (by decide +kernel) rfl (Nat.le_of_ble_eq_true rfl) (fun p e s m args below meth c C hnm => ?_)
  refine aw_nl [some (.ref v0), some (.int v1), some (.int v2), none] rfl ?_
  refine aw_iload_n C dX5_behindBlanks_0 rfl ?_
  refine aw_istore_n C dX5_behindBlanks_1 (by decide) rfl ?_
  refine aw_nl [some (.ref v0), some (.int v1), some (.int v2), some (.int v1)] rfl ?_
  refine aw_fl [some (.ref v0), none, some (.int v2), some (.int v1)] ⟨rfl, ⟨rfl, ⟨rfl, trivial⟩⟩⟩ ?_
  exact rmX5_behindBlanks_l2 C rFU v0 v2 v1 f n _ _ (by omega) (by omega) h
end
/-! part 32ab.cls -/
section
def mX6_tryLine_b141 (v0 : Nat) (v2 : Int32) (v3 : Int32) (f : AH) (n : Nat) : Option (Int32 × HpN) := ((gR f v0 6 0).bind fun x1 => ((x1).bind fun j2 => rCk (isO f j2 5) (((mX5_behindBlanks j2 (v3 + (1 : Int32)) v2 f n).bind fun r4 => ((pO r4.2.1 v0 6 1 (.int r4.1)).bind fun f6 => some ((0 : Int32), (f6, r4.2.2)))))))
set_option maxHeartbeats 1000000 in
theorem rmX6_tryLine_b141 {X : GX} {p : Program} {l : Launch} {e : Env} {s : State} {m : MethodId} {args : Array Value} {below : List Frame} {meth : Method} {c : Code} {r : Int32 × HpN} {v0 : Nat} {v2 : Int32} {v3 : Int32} {f : AH} {n cells slots : Nat} (C : CC X p l (RM 1 0 0) s m args meth c RX6 cX6_tryLine 5 none) (hc : cells + 0 ≤ 0) (hs : slots + 0 ≤ 0) (h : mX6_tryLine_b141 v0 v2 v3 f n = some r) : AW X p l e (RM 1 0 0) s m args below meth c 5 (ZM X below args s 0 0 (QHv r)) f n cells slots 141 [some (.ref v0), none, some (.int v2), some (.int v3), none] [] := by
  have h : ((gR f v0 6 0).bind fun x1 => ((x1).bind fun j2 => rCk (isO f j2 5) (((mX5_behindBlanks j2 (v3 + (1 : Int32)) v2 f n).bind fun r4 => ((pO r4.2.1 v0 6 1 (.int r4.1)).bind fun f6 => some ((0 : Int32), (f6, r4.2.2))))))) = some r := h
  refine aw_ald_n C dX6_tryLine_141 rfl ?_
  refine aw_ald_n C dX6_tryLine_142 rfl ?_
  obtain ⟨x1, hx1, h⟩ := Option.bind_eq_some_iff.mp h
  refine ah_getR C gf_X6_14 hx1 dX6_tryLine_143 ?_
  refine aw_iload_n C dX6_tryLine_146 rfl ?_
  refine aw_iconst C 1 dX6_tryLine_147 ki_1 ?_
  refine aw_iadd C dX6_tryLine_148 ?_
  refine aw_iload_n C dX6_tryLine_149 rfl ?_
  obtain ⟨j2, hj2, h⟩ := Option.bind_eq_some_iff.mp h
  rw [hj2]
  obtain ⟨hb3, h⟩ := ck_some h
  obtain ⟨r4, hr4, h⟩ := Option.bind_eq_some_iff.mp h
  obtain ⟨fs5, hf5⟩ := isO_ex hb3
  refine aw_callV C (ci := 5) (b := j2) [.int (v3 + (1 : Int32)), .int v2] mv_X6_63 rfl rfl hf5 (rmX5_behindBlanks hr4) rfl dX6_tryLine_150 (Nat.le_of_ble_eq_true rfl) (Nat.le_of_ble_eq_true rfl) rfl (Nat.le_of_ble_eq_true rfl) (show cells + 0 ≤ 0 by omega) (show slots + 0 ≤ 0 by omega) (fun v9 f9 n9 hh => ?_)
  obtain ⟨rfl, rfl, rfl⟩ := hh
  obtain ⟨f6, hf6, h⟩ := Option.bind_eq_some_iff.mp h
  refine ah_put C gf_X6_53 cf6 nf6_1 rfl rfl hf6 dX6_tryLine_153 ?_
  cases h
  exact aw_vret C rfl dX6_tryLine_156 (by omega) (by omega) ⟨rfl, rfl, rfl⟩
def mX6_tryLine_l102 : Nat → Nat → Int32 → Int32 → Int32 → AH → Nat → Option (Int32 × HpN)
  | 0, _, _, _, _, _, _ => none
  | d + 1, v0, v2, v3, v4, f, n => ((gI f v0 6 4).bind fun x1 => (if v4 < x1 then mX6_tryLine_b141 v0 v2 v3 f n else ((gR f v0 6 0).bind fun x2 => ((x2).bind fun j3 => rCk (isO f j3 5) (((mX5_get j3 v4 f n).bind fun r5 => (if r5.1 = (32 : Int32) then ((gI r5.2.1 v0 6 5).bind fun x7 => ((pO r5.2.1 v0 6 5 (.int (x7 - (1 : Int32)))).bind fun f8 => mX6_tryLine_l102 d v0 v2 v3 (v4 + (-1 : Int32)) f8 r5.2.2)) else mX6_tryLine_b141 v0 v2 v3 r5.2.1 r5.2.2)))))))
set_option maxHeartbeats 1000000 in
theorem rmX6_tryLine_l102 {X : GX} {p : Program} {l : Launch} {e : Env} {s : State} {m : MethodId} {args : Array Value} {below : List Frame} {meth : Method} {c : Code} {r : Int32 × HpN} (C : CC X p l (RM 1 0 0) s m args meth c RX6 cX6_tryLine 5 none) : ∀ (d : Nat) (v0 : Nat) (v2 : Int32) (v3 : Int32) (v4 : Int32) (f : AH) (n cells slots : Nat) (_ : cells + 0 ≤ 0) (_ : slots + 0 ≤ 0) (_ : mX6_tryLine_l102 d v0 v2 v3 v4 f n = some r), AW X p l e (RM 1 0 0) s m args below meth c 5 (ZM X below args s 0 0 (QHv r)) f n cells slots 102 [some (.ref v0), none, some (.int v2), some (.int v3), some (.int v4)] [] := by
  intro d
  induction d with
  | zero =>
    intro v0 v2 v3 v4 f n cells slots hc hs h
    exact nomatch (show (none : Option (Int32 × HpN)) = some r from h)
  | succ d ih =>
    intro v0 v2 v3 v4 f n cells slots hc hs h
    have h : ((gI f v0 6 4).bind fun x1 => (if v4 < x1 then mX6_tryLine_b141 v0 v2 v3 f n else ((gR f v0 6 0).bind fun x2 => ((x2).bind fun j3 => rCk (isO f j3 5) (((mX5_get j3 v4 f n).bind fun r5 => (if r5.1 = (32 : Int32) then ((gI r5.2.1 v0 6 5).bind fun x7 => ((pO r5.2.1 v0 6 5 (.int (x7 - (1 : Int32)))).bind fun f8 => mX6_tryLine_l102 d v0 v2 v3 (v4 + (-1 : Int32)) f8 r5.2.2)) else mX6_tryLine_b141 v0 v2 v3 r5.2.1 r5.2.2))))))) = some r := h
    refine aw_iload C dX6_tryLine_102 rfl ?_
    refine aw_ald_n C dX6_tryLine_104 rfl ?_
    obtain ⟨x1, hx1, h⟩ := Option.bind_eq_some_iff.mp h
    refine ah_getI C gf_X6_31 hx1 dX6_tryLine_105 ?_
    refine aw_icmp_lt C 141 dX6_tryLine_108 (by decide) (fun q => ?_) (fun q => ?_)
    · rw [if_pos q] at h
      refine aw_fl [some (.ref v0), none, some (.int v2), some (.int v3), none] ⟨rfl, ⟨rfl, ⟨rfl, trivial⟩⟩⟩ ?_
      exact rmX6_tryLine_b141 C (by omega) (by omega) h
    · rw [if_neg q] at h
      refine aw_ald_n C dX6_tryLine_111 rfl ?_
      obtain ⟨x2, hx2, h⟩ := Option.bind_eq_some_iff.mp h
      refine ah_getR C gf_X6_14 hx2 dX6_tryLine_112 ?_
      refine aw_iload C dX6_tryLine_115 rfl ?_
      obtain ⟨j3, hj3, h⟩ := Option.bind_eq_some_iff.mp h
      rw [hj3]
      obtain ⟨hb4, h⟩ := ck_some h
      obtain ⟨r5, hr5, h⟩ := Option.bind_eq_some_iff.mp h
      obtain ⟨fs6, hf6⟩ := isO_ex hb4
      refine aw_callV C (ci := 5) (b := j3) [.int v4] mv_X6_67 rfl rfl hf6 (rmX5_get hr5) rfl dX6_tryLine_117 (Nat.le_of_ble_eq_true rfl) (Nat.le_of_ble_eq_true rfl) rfl (Nat.le_of_ble_eq_true rfl) (show cells + 0 ≤ 0 by omega) (show slots + 0 ≤ 0 by omega) (fun v9 f9 n9 hh => ?_)
      obtain ⟨rfl, rfl, rfl⟩ := hh
      refine aw_bipush C 32 dX6_tryLine_120 kb_32 ?_
      refine aw_icmp_ne C 141 dX6_tryLine_122 (by decide) (fun q => ?_) (fun q => ?_)
      · rw [if_neg q] at h
        refine aw_fl [some (.ref v0), none, some (.int v2), some (.int v3), none] ⟨rfl, ⟨rfl, ⟨rfl, trivial⟩⟩⟩ ?_
        exact rmX6_tryLine_b141 C (by omega) (by omega) h
      · rw [if_pos q] at h
        refine aw_ald_n C dX6_tryLine_125 rfl ?_
        refine aw_dup C dX6_tryLine_126 rfl ?_
        obtain ⟨x7, hx7, h⟩ := Option.bind_eq_some_iff.mp h
        refine ah_getI C gf_X6_34 hx7 dX6_tryLine_127 ?_
        refine aw_iconst C 1 dX6_tryLine_130 ki_1 ?_
        refine aw_isub C dX6_tryLine_131 ?_
        obtain ⟨f8, hf8, h⟩ := Option.bind_eq_some_iff.mp h
        refine ah_put C gf_X6_34 cf6 nf6_5 rfl rfl hf8 dX6_tryLine_132 ?_
        refine aw_iinc C (v4 + (-1 : Int32)) dX6_tryLine_135 rfl (by rw [ki_m1]) (by decide) rfl ?_
        refine aw_nl [some (.ref v0), none, some (.int v2), some (.int v3), some (.int (v4 + (-1 : Int32)))] rfl ?_
        refine aw_goto C 102 dX6_tryLine_138 (by decide) ?_
        refine aw_fl [some (.ref v0), none, some (.int v2), some (.int v3), some (.int (v4 + (-1 : Int32)))] ⟨rfl, ⟨rfl, ⟨rfl, ⟨rfl, trivial⟩⟩⟩⟩ ?_
        exact ih v0 v2 v3 (v4 + (-1 : Int32)) f8 r5.2.2 _ _ (by omega) (by omega) h
def mX6_tryLine_b86 (f : AH) (n : Nat) : Option (Int32 × HpN) := some ((0 : Int32), (f, n))
set_option maxHeartbeats 1000000 in
theorem rmX6_tryLine_b86 {X : GX} {p : Program} {l : Launch} {e : Env} {s : State} {m : MethodId} {args : Array Value} {below : List Frame} {meth : Method} {c : Code} {r : Int32 × HpN} {f : AH} {n cells slots : Nat} (C : CC X p l (RM 1 0 0) s m args meth c RX6 cX6_tryLine 5 none) (hc : cells + 0 ≤ 0) (hs : slots + 0 ≤ 0) (h : mX6_tryLine_b86 f n = some r) : AW X p l e (RM 1 0 0) s m args below meth c 5 (ZM X below args s 0 0 (QHv r)) f n cells slots 86 [none, none, none, none, none] [] := by
  have h : some ((0 : Int32), (f, n)) = some r := h
  cases h
  exact aw_vret C rfl dX6_tryLine_86 (by omega) (by omega) ⟨rfl, rfl, rfl⟩
def mX6_tryLine (v0 : Nat) (f : AH) (n : Nat) : Option (Int32 × HpN) := ((gI f v0 6 9).bind fun x1 => ((gR f v0 6 0).bind fun x2 => ((gR f v0 6 0).bind fun x3 => ((x3).bind fun j4 => rCk (isO f j4 5) (((mX5_size j4 f n).bind fun r6 => ((x2).bind fun j8 => rCk (isO r6.2.1 j8 5) (((mX5_next j8 (10 : Int32) x1 r6.1 r6.2.1 r6.2.2).bind fun r10 => ((pO r10.2.1 v0 6 9 (.int (r10.1 + (1 : Int32)))).bind fun f12 => ((gR f12 v0 6 0).bind fun x13 => ((x13).bind fun j14 => rCk (isO f12 j14 5) (((mX5_next j14 (61 : Int32) x1 r10.1 f12 r10.2.2).bind fun r16 => ((gR r16.2.1 v0 6 0).bind fun x18 => ((x18).bind fun j19 => rCk (isO r16.2.1 j19 5) (((mX5_behindBlanks j19 x1 r10.1 r16.2.1 r16.2.2).bind fun r21 => ((pO r21.2.1 v0 6 4 (.int r21.1)).bind fun f23 => ((pO f23 v0 6 1 (.int r10.1)).bind fun f24 => ((pO f24 v0 6 2 (.int r10.1)).bind fun f25 => (if r16.1 = r10.1 then mX6_tryLine_b86 f25 r21.2.2 else ((gR f25 v0 6 0).bind fun x26 => ((gI f25 v0 6 4).bind fun x27 => ((x26).bind fun j28 => rCk (isO f25 j28 5) (((mX5_get j28 x27 f25 r21.2.2).bind fun r30 => (if r30.1 = (35 : Int32) then mX6_tryLine_b86 r30.2.1 r30.2.2 else ((gI r30.2.1 v0 6 4).bind fun x32 => ((pO r30.2.1 v0 6 5 (.int (r16.1 - x32))).bind fun f33 => mX6_tryLine_l102 rFU v0 r10.1 r16.1 (r16.1 - (1 : Int32)) f33 r30.2.2))))))))))))))))))))))))))))))
set_option maxHeartbeats 1000000 in
theorem rmX6_tryLine {X : GX} {l : Launch} {r : Int32 × HpN} {v0 : Nat} {f : AH} {n : Nat} (h : mX6_tryLine v0 f n = some r) : AM X l yX6_tryLine cX6_tryLine 5 none 1 0 0 [.ref v0] f n (QHv r) := by
  have h : ((gI f v0 6 9).bind fun x1 => ((gR f v0 6 0).bind fun x2 => ((gR f v0 6 0).bind fun x3 => ((x3).bind fun j4 => rCk (isO f j4 5) (((mX5_size j4 f n).bind fun r6 => ((x2).bind fun j8 => rCk (isO r6.2.1 j8 5) (((mX5_next j8 (10 : Int32) x1 r6.1 r6.2.1 r6.2.2).bind fun r10 => ((pO r10.2.1 v0 6 9 (.int (r10.1 + (1 : Int32)))).bind fun f12 => ((gR f12 v0 6 0).bind fun x13 => ((x13).bind fun j14 => rCk (isO f12 j14 5) (((mX5_next j14 (61 : Int32) x1 r10.1 f12 r10.2.2).bind fun r16 => ((gR r16.2.1 v0 6 0).bind fun x18 => ((x18).bind fun j19 => rCk (isO r16.2.1 j19 5) (((mX5_behindBlanks j19 x1 r10.1 r16.2.1 r16.2.2).bind fun r21 => ((pO r21.2.1 v0 6 4 (.int r21.1)).bind fun f23 => ((pO f23 v0 6 1 (.int r10.1)).bind fun f24 => ((pO f24 v0 6 2 (.int r10.1)).bind fun f25 => (if r16.1 = r10.1 then mX6_tryLine_b86 f25 r21.2.2 else ((gR f25 v0 6 0).bind fun x26 => ((gI f25 v0 6 4).bind fun x27 => ((x26).bind fun j28 => rCk (isO f25 j28 5) (((mX5_get j28 x27 f25 r21.2.2).bind fun r30 => (if r30.1 = (35 : Int32) then mX6_tryLine_b86 r30.2.1 r30.2.2 else ((gI r30.2.1 v0 6 4).bind fun x32 => ((pO r30.2.1 v0 6 5 (.int (r16.1 - x32))).bind fun f33 => mX6_tryLine_l102 rFU v0 r10.1 r16.1 (r16.1 - (1 : Int32)) f33 r30.2.2)))))))))))))))))))))))))))))) = some r := h
  refine AM.of (by decide +kernel) rfl (Nat.le_of_ble_eq_true rfl) (fun p e s m args below meth c C hnm => ?_)
  refine aw_nl [some (.ref v0), none, none, none, none] rfl ?_
  refine aw_ald_n C dX6_tryLine_0 rfl ?_
  obtain ⟨x1, hx1, h⟩ := Option.bind_eq_some_iff.mp h
  refine ah_getI C gf_X6_24 hx1 dX6_tryLine_1 ?_
  refine aw_istore_n C dX6_tryLine_4 (by decide) rfl ?_
  refine aw_nl [some (.ref v0), some (.int x1), none, none, none] rfl ?_
  refine aw_ald_n C dX6_tryLine_5 rfl ?_
  obtain ⟨x2, hx2, h⟩ := Option.bind_eq_some_iff.mp h
  refine ah_getR C gf_X6_14 hx2 dX6_tryLine_6 ?_
  refine aw_bipush C 10 dX6_tryLine_9 kb_10 ?_
  refine aw_iload_n C dX6_tryLine_11 rfl ?_
  refine aw_ald_n C dX6_tryLine_12 rfl ?_
  obtain ⟨x3, hx3, h⟩ := Option.bind_eq_some_iff.mp h
  refine ah_getR C gf_X6_14 hx3 dX6_tryLine_13 ?_
  obtain ⟨j4, hj4, h⟩ := Option.bind_eq_some_iff.mp h
  rw [hj4]
  obtain ⟨hb5, h⟩ := ck_some h
  obtain ⟨r6, hr6, h⟩ := Option.bind_eq_some_iff.mp h
  obtain ⟨fs7, hf7⟩ := isO_ex hb5
  refine aw_callV C (ci := 5) (b := j4) [] mv_X6_37 rfl rfl hf7 (rmX5_size hr6) rfl dX6_tryLine_16 (Nat.le_of_ble_eq_true rfl) (Nat.le_of_ble_eq_true rfl) rfl (cs_1 rfl (cs_1 rfl (cs_1 (rf_cat _) cs_0))) (show 0 + 0 ≤ 0 by omega) (show 0 + 0 ≤ 0 by omega) (fun v9 f9 n9 hh => ?_)
  obtain ⟨rfl, rfl, rfl⟩ := hh
  obtain ⟨j8, hj8, h⟩ := Option.bind_eq_some_iff.mp h
  rw [hj8]
  obtain ⟨hb9, h⟩ := ck_some h
  obtain ⟨r10, hr10, h⟩ := Option.bind_eq_some_iff.mp h
  obtain ⟨fs11, hf11⟩ := isO_ex hb9
  refine aw_callV C (ci := 5) (b := j8) [.int (10 : Int32), .int x1, .int r6.1] mv_X6_59 rfl rfl hf11 (rmX5_next hr10) rfl dX6_tryLine_19 (Nat.le_of_ble_eq_true rfl) (Nat.le_of_ble_eq_true rfl) rfl (Nat.le_of_ble_eq_true rfl) (show (0 + 0) + 0 ≤ 0 by omega) (show (0 + 0) + 0 ≤ 0 by omega) (fun v9 f9 n9 hh => ?_)
  obtain ⟨rfl, rfl, rfl⟩ := hh
  refine aw_istore_n C dX6_tryLine_22 (by decide) rfl ?_
  refine aw_nl [some (.ref v0), some (.int x1), some (.int r10.1), none, none] rfl ?_
  refine aw_ald_n C dX6_tryLine_23 rfl ?_
  refine aw_iload_n C dX6_tryLine_24 rfl ?_
  refine aw_iconst C 1 dX6_tryLine_25 ki_1 ?_
  refine aw_iadd C dX6_tryLine_26 ?_
  obtain ⟨f12, hf12, h⟩ := Option.bind_eq_some_iff.mp h
  refine ah_put C gf_X6_24 cf6 nf6_9 rfl rfl hf12 dX6_tryLine_27 ?_
  refine aw_ald_n C dX6_tryLine_30 rfl ?_
  obtain ⟨x13, hx13, h⟩ := Option.bind_eq_some_iff.mp h
  refine ah_getR C gf_X6_14 hx13 dX6_tryLine_31 ?_
  refine aw_bipush C 61 dX6_tryLine_34 kb_61 ?_
  refine aw_iload_n C dX6_tryLine_36 rfl ?_
  refine aw_iload_n C dX6_tryLine_37 rfl ?_
  obtain ⟨j14, hj14, h⟩ := Option.bind_eq_some_iff.mp h
  rw [hj14]
  obtain ⟨hb15, h⟩ := ck_some h
  obtain ⟨r16, hr16, h⟩ := Option.bind_eq_some_iff.mp h
  obtain ⟨fs17, hf17⟩ := isO_ex hb15
  refine aw_callV C (ci := 5) (b := j14) [.int (61 : Int32), .int x1, .int r10.1] mv_X6_59 rfl rfl hf17 (rmX5_next hr16) rfl dX6_tryLine_38 (Nat.le_of_ble_eq_true rfl) (Nat.le_of_ble_eq_true rfl) rfl (Nat.le_of_ble_eq_true rfl) (show ((0 + 0) + 0) + 0 ≤ 0 by omega) (show ((0 + 0) + 0) + 0 ≤ 0 by omega) (fun v9 f9 n9 hh => ?_)
  obtain ⟨rfl, rfl, rfl⟩ := hh
  refine aw_istore_n C dX6_tryLine_41 (by decide) rfl ?_
  refine aw_nl [some (.ref v0), some (.int x1), some (.int r10.1), some (.int r16.1), none] rfl ?_
  refine aw_ald_n C dX6_tryLine_42 rfl ?_
  refine aw_ald_n C dX6_tryLine_43 rfl ?_
  obtain ⟨x18, hx18, h⟩ := Option.bind_eq_some_iff.mp h
  refine ah_getR C gf_X6_14 hx18 dX6_tryLine_44 ?_
  refine aw_iload_n C dX6_tryLine_47 rfl ?_
  refine aw_iload_n C dX6_tryLine_48 rfl ?_
  obtain ⟨j19, hj19, h⟩ := Option.bind_eq_some_iff.mp h
  rw [hj19]
  obtain ⟨hb20, h⟩ := ck_some h
  obtain ⟨r21, hr21, h⟩ := Option.bind_eq_some_iff.mp h
  obtain ⟨fs22, hf22⟩ := isO_ex hb20
  refine aw_callV C (ci := 5) (b := j19) [.int x1, .int r10.1] mv_X6_63 rfl rfl hf22 (rmX5_behindBlanks hr21) rfl dX6_tryLine_49 (Nat.le_of_ble_eq_true rfl) (Nat.le_of_ble_eq_true rfl) rfl (Nat.le_of_ble_eq_true rfl) (show (((0 + 0) + 0) + 0) + 0 ≤ 0 by omega) (show (((0 + 0) + 0) + 0) + 0 ≤ 0 by omega) (fun v9 f9 n9 hh => ?_)
  obtain ⟨rfl, rfl, rfl⟩ := hh
  obtain ⟨f23, hf23, h⟩ := Option.bind_eq_some_iff.mp h
  refine ah_put C gf_X6_31 cf6 nf6_4 rfl rfl hf23 dX6_tryLine_52 ?_
  refine aw_ald_n C dX6_tryLine_55 rfl ?_
  refine aw_iload_n C dX6_tryLine_56 rfl ?_
  obtain ⟨f24, hf24, h⟩ := Option.bind_eq_some_iff.mp h
  refine ah_put C gf_X6_53 cf6 nf6_1 rfl rfl hf24 dX6_tryLine_57 ?_
  refine aw_ald_n C dX6_tryLine_60 rfl ?_
  refine aw_iload_n C dX6_tryLine_61 rfl ?_
  obtain ⟨f25, hf25, h⟩ := Option.bind_eq_some_iff.mp h
  refine ah_put C gf_X6_56 cf6 nf6_2 rfl rfl hf25 dX6_tryLine_62 ?_
  refine aw_iload_n C dX6_tryLine_65 rfl ?_
  refine aw_iload_n C dX6_tryLine_66 rfl ?_
  refine aw_icmp_eq C 86 dX6_tryLine_67 (by decide) (fun q => ?_) (fun q => ?_)
  · rw [if_pos q] at h
    refine aw_fl [none, none, none, none, none] trivial ?_
    exact rmX6_tryLine_b86 C (by omega) (by omega) h
  · rw [if_neg q] at h
    refine aw_ald_n C dX6_tryLine_70 rfl ?_
    obtain ⟨x26, hx26, h⟩ := Option.bind_eq_some_iff.mp h
    refine ah_getR C gf_X6_14 hx26 dX6_tryLine_71 ?_
    refine aw_ald_n C dX6_tryLine_74 rfl ?_
    obtain ⟨x27, hx27, h⟩ := Option.bind_eq_some_iff.mp h
    refine ah_getI C gf_X6_31 hx27 dX6_tryLine_75 ?_
    obtain ⟨j28, hj28, h⟩ := Option.bind_eq_some_iff.mp h
    rw [hj28]
    obtain ⟨hb29, h⟩ := ck_some h
    obtain ⟨r30, hr30, h⟩ := Option.bind_eq_some_iff.mp h
    obtain ⟨fs31, hf31⟩ := isO_ex hb29
    refine aw_callV C (ci := 5) (b := j28) [.int x27] mv_X6_67 rfl rfl hf31 (rmX5_get hr30) rfl dX6_tryLine_78 (Nat.le_of_ble_eq_true rfl) (Nat.le_of_ble_eq_true rfl) rfl (Nat.le_of_ble_eq_true rfl) (show ((((0 + 0) + 0) + 0) + 0) + 0 ≤ 0 by omega) (show ((((0 + 0) + 0) + 0) + 0) + 0 ≤ 0 by omega) (fun v9 f9 n9 hh => ?_)
    obtain ⟨rfl, rfl, rfl⟩ := hh
    refine aw_bipush C 35 dX6_tryLine_81 kb_35 ?_
    refine aw_icmp_ne C 87 dX6_tryLine_83 (by decide) (fun q => ?_) (fun q => ?_)
    · rw [if_neg q] at h
      refine aw_ald_n C dX6_tryLine_87 rfl ?_
      refine aw_iload_n C dX6_tryLine_88 rfl ?_
      refine aw_ald_n C dX6_tryLine_89 rfl ?_
      obtain ⟨x32, hx32, h⟩ := Option.bind_eq_some_iff.mp h
      refine ah_getI C gf_X6_31 hx32 dX6_tryLine_90 ?_
      refine aw_isub C dX6_tryLine_93 ?_
      obtain ⟨f33, hf33, h⟩ := Option.bind_eq_some_iff.mp h
      refine ah_put C gf_X6_34 cf6 nf6_5 rfl rfl hf33 dX6_tryLine_94 ?_
      refine aw_iload_n C dX6_tryLine_97 rfl ?_
      refine aw_iconst C 1 dX6_tryLine_98 ki_1 ?_
      refine aw_isub C dX6_tryLine_99 ?_
      refine aw_istore C dX6_tryLine_100 (by decide) rfl ?_
      refine aw_nl [some (.ref v0), some (.int x1), some (.int r10.1), some (.int r16.1), some (.int (r16.1 - (1 : Int32)))] rfl ?_
      refine aw_fl [some (.ref v0), none, some (.int r10.1), some (.int r16.1), some (.int (r16.1 - (1 : Int32)))] ⟨rfl, ⟨rfl, ⟨rfl, ⟨rfl, trivial⟩⟩⟩⟩ ?_
      exact rmX6_tryLine_l102 C rFU v0 r10.1 r16.1 (r16.1 - (1 : Int32)) f33 r30.2.2 _ _ (by omega) (by omega) h
    · rw [if_pos q] at h
      refine aw_fl [none, none, none, none, none] trivial ?_
      exact rmX6_tryLine_b86 C (by omega) (by omega) h
def mX5_cellQuoteEnd_b80 (s0 : Int32) (f : AH) (n : Nat) : Option (Int32 × HpN) := some (s0, (f, n))
set_option maxHeartbeats 1000000 in
theorem rmX5_cellQuoteEnd_b80 {X : GX} {p : Program} {l : Launch} {e : Env} {s : State} {m : MethodId} {args : Array Value} {below : List Frame} {meth : Method} {c : Code} {r : Int32 × HpN} {s0 : Int32} {f : AH} {n cells slots : Nat} (C : CC X p l (RM 0 0 0) s m args meth c RX5 cX5_cellQuoteEnd 4 (some .int)) (hc : cells + 0 ≤ 0) (hs : slots + 0 ≤ 0) (h : mX5_cellQuoteEnd_b80 s0 f n = some r) : AW X p l e (RM 0 0 0) s m args below meth c 4 (ZM X below args s 0 0 (QHi r)) f n cells slots 80 [none, none, none, none] [.int s0] := by
  have h : some (s0, (f, n)) = some r := h
  cases h
  exact aw_iret C rfl rfl dX5_cellQuoteEnd_80 (by omega) (by omega) ⟨rfl, rfl, rfl⟩
def mX5_cellQuoteEnd_b63 (v0 : Nat) (v2 : Int32) (f : AH) (n : Nat) : Option (Int32 × HpN) := (if v2 = (0 : Int32) then ((gI f v0 5 1).bind fun x1 => mX5_cellQuoteEnd_b80 x1 f n) else ((gI f v0 5 1).bind fun x2 => mX5_cellQuoteEnd_b80 (x2 - (1 : Int32)) f n))
set_option maxHeartbeats 1000000 in
theorem rmX5_cellQuoteEnd_b63 {X : GX} {p : Program} {l : Launch} {e : Env} {s : State} {m : MethodId} {args : Array Value} {below : List Frame} {meth : Method} {c : Code} {r : Int32 × HpN} {v0 : Nat} {v2 : Int32} {f : AH} {n cells slots : Nat} (C : CC X p l (RM 0 0 0) s m args meth c RX5 cX5_cellQuoteEnd 4 (some .int)) (hc : cells + 0 ≤ 0) (hs : slots + 0 ≤ 0) (h : mX5_cellQuoteEnd_b63 v0 v2 f n = some r) : AW X p l e (RM 0 0 0) s m args below meth c 4 (ZM X below args s 0 0 (QHi r)) f n cells slots 63 [some (.ref v0), none, some (.int v2), none] [] := by
  have h : (if v2 = (0 : Int32) then ((gI f v0 5 1).bind fun x1 => mX5_cellQuoteEnd_b80 x1 f n) else ((gI f v0 5 1).bind fun x2 => mX5_cellQuoteEnd_b80 (x2 - (1 : Int32)) f n)) = some r := h
  refine aw_iload_n C dX5_cellQuoteEnd_63 rfl ?_
  refine aw_if_eq C 76 dX5_cellQuoteEnd_64 (by decide) (fun q => ?_) (fun q => ?_)
  · rw [if_pos q] at h
    refine aw_ald_n C dX5_cellQuoteEnd_76 rfl ?_
    obtain ⟨x1, hx1, h⟩ := Option.bind_eq_some_iff.mp h
    refine ah_getI C gf_X5_15 hx1 dX5_cellQuoteEnd_77 ?_
    refine aw_fl [none, none, none, none] trivial ?_
    exact rmX5_cellQuoteEnd_b80 C (by omega) (by omega) h
  · rw [if_neg q] at h
    refine aw_ald_n C dX5_cellQuoteEnd_67 rfl ?_
    obtain ⟨x2, hx2, h⟩ := Option.bind_eq_some_iff.mp h
    refine ah_getI C gf_X5_15 hx2 dX5_cellQuoteEnd_68 ?_
    refine aw_iconst C 1 dX5_cellQuoteEnd_71 ki_1 ?_
    refine aw_isub C dX5_cellQuoteEnd_72 ?_
    refine aw_goto C 80 dX5_cellQuoteEnd_73 (by decide) ?_
    refine aw_fl [none, none, none, none] trivial ?_
    exact rmX5_cellQuoteEnd_b80 C (by omega) (by omega) h
def mX5_cellQuoteEnd_b57 (rec4 : Nat → Int32 → Int32 → AH → Nat → Option (Int32 × HpN)) (v0 : Nat) (v2 : Int32) (v3 : Int32) (f : AH) (n : Nat) : Option (Int32 × HpN) := rec4 v0 v2 (v3 + (1 : Int32)) f n
set_option maxHeartbeats 1000000 in
theorem rmX5_cellQuoteEnd_b57 {X : GX} {p : Program} {l : Launch} {e : Env} {s : State} {m : MethodId} {args : Array Value} {below : List Frame} {meth : Method} {c : Code} {r : Int32 × HpN} {rec4 : Nat → Int32 → Int32 → AH → Nat → Option (Int32 × HpN)} {v0 : Nat} {v2 : Int32} {v3 : Int32} {f : AH} {n cells slots : Nat} (C : CC X p l (RM 0 0 0) s m args meth c RX5 cX5_cellQuoteEnd 4 (some .int)) (Hr4 : ∀ (v0 : Nat) (v2 : Int32) (v3 : Int32) (f : AH) (n cells slots : Nat), cells + 0 ≤ 0 → slots + 0 ≤ 0 → rec4 v0 v2 v3 f n = some r → AW X p l e (RM 0 0 0) s m args below meth c 4 (ZM X below args s 0 0 (QHi r)) f n cells slots 4 [some (.ref v0), none, some (.int v2), some (.int v3)] []) (hc : cells + 0 ≤ 0) (hs : slots + 0 ≤ 0) (h : mX5_cellQuoteEnd_b57 rec4 v0 v2 v3 f n = some r) : AW X p l e (RM 0 0 0) s m args below meth c 4 (ZM X below args s 0 0 (QHi r)) f n cells slots 57 [some (.ref v0), none, some (.int v2), some (.int v3)] [] := by
  have h : rec4 v0 v2 (v3 + (1 : Int32)) f n = some r := h
  refine aw_iinc C (v3 + (1 : Int32)) dX5_cellQuoteEnd_57 rfl (by rw [ki_1]) (by decide) rfl ?_
  refine aw_nl [some (.ref v0), none, some (.int v2), some (.int (v3 + (1 : Int32)))] rfl ?_
  refine aw_goto C 4 dX5_cellQuoteEnd_60 (by decide) ?_
  refine aw_fl [some (.ref v0), none, some (.int v2), some (.int (v3 + (1 : Int32)))] ⟨rfl, ⟨rfl, ⟨rfl, trivial⟩⟩⟩ ?_
  exact Hr4 v0 v2 (v3 + (1 : Int32)) f n _ _ (by omega) (by omega) h
def mX5_cellQuoteEnd_b45 (rec4 : Nat → Int32 → Int32 → AH → Nat → Option (Int32 × HpN)) (v0 : Nat) (v3 : Int32) (s0 : Int32) (f : AH) (n : Nat) : Option (Int32 × HpN) := mX5_cellQuoteEnd_b57 rec4 v0 s0 v3 f n
set_option maxHeartbeats 1000000 in
theorem rmX5_cellQuoteEnd_b45 {X : GX} {p : Program} {l : Launch} {e : Env} {s : State} {m : MethodId} {args : Array Value} {below : List Frame} {meth : Method} {c : Code} {r : Int32 × HpN} {rec4 : Nat → Int32 → Int32 → AH → Nat → Option (Int32 × HpN)} {v0 : Nat} {v3 : Int32} {s0 : Int32} {f : AH} {n cells slots : Nat} (C : CC X p l (RM 0 0 0) s m args meth c RX5 cX5_cellQuoteEnd 4 (some .int)) (Hr4 : ∀ (v0 : Nat) (v2 : Int32) (v3 : Int32) (f : AH) (n cells slots : Nat), cells + 0 ≤ 0 → slots + 0 ≤ 0 → rec4 v0 v2 v3 f n = some r → AW X p l e (RM 0 0 0) s m args below meth c 4 (ZM X below args s 0 0 (QHi r)) f n cells slots 4 [some (.ref v0), none, some (.int v2), some (.int v3)] []) (hc : cells + 0 ≤ 0) (hs : slots + 0 ≤ 0) (h : mX5_cellQuoteEnd_b45 rec4 v0 v3 s0 f n = some r) : AW X p l e (RM 0 0 0) s m args below meth c 4 (ZM X below args s 0 0 (QHi r)) f n cells slots 45 [some (.ref v0), none, none, some (.int v3)] [.int s0] := by
  have h : mX5_cellQuoteEnd_b57 rec4 v0 s0 v3 f n = some r := h
  refine aw_istore_n C dX5_cellQuoteEnd_45 (by decide) rfl ?_
  refine aw_nl [some (.ref v0), none, some (.int s0), some (.int v3)] rfl ?_
  refine aw_goto C 57 dX5_cellQuoteEnd_46 (by decide) ?_
  refine aw_fl [some (.ref v0), none, some (.int s0), some (.int v3)] ⟨rfl, ⟨rfl, ⟨rfl, trivial⟩⟩⟩ ?_
  exact rmX5_cellQuoteEnd_b57 C Hr4 (by omega) (by omega) h
def mX5_cellQuoteEnd_l4 : Nat → Nat → Int32 → Int32 → AH → Nat → Option (Int32 × HpN)
  | 0, _, _, _, _, _ => none
  | d + 1, v0, v2, v3, f, n => (if v3 < (0 : Int32) then mX5_cellQuoteEnd_b63 v0 v2 f n else ((gI f v0 5 1).bind fun x1 => (if x1 ≤ v3 then mX5_cellQuoteEnd_b63 v0 v2 f n else ((gR f v0 5 0).bind fun x2 => ((x2).bind fun j3 => ((gL f j3).bind fun x4 => (if (nI x4) ≤ v3 then mX5_cellQuoteEnd_b63 v0 v2 f n else ((gR f v0 5 0).bind fun x5 => ((x5).bind fun j6 => ((gIA f j6 v3).bind fun x7 => (if x7 = (34 : Int32) then (if v2 = (0 : Int32) then mX5_cellQuoteEnd_b45 (fun v0 v2 v3 f n => mX5_cellQuoteEnd_l4 d v0 v2 v3 f n) v0 v3 (1 : Int32) f n else mX5_cellQuoteEnd_b45 (fun v0 v2 v3 f n => mX5_cellQuoteEnd_l4 d v0 v2 v3 f n) v0 v3 (0 : Int32) f n) else (if v2 = (0 : Int32) then mX5_cellQuoteEnd_b57 (fun v0 v2 v3 f n => mX5_cellQuoteEnd_l4 d v0 v2 v3 f n) v0 v2 v3 f n else some ((v3 - (1 : Int32)), (f, n))))))))))))))
set_option maxHeartbeats 1000000 in
theorem rmX5_cellQuoteEnd_l4 {X : GX} {p : Program} {l : Launch} {e : Env} {s : State} {m : MethodId} {args : Array Value} {below : List Frame} {meth : Method} {c : Code} {r : Int32 × HpN} (C : CC X p l (RM 0 0 0) s m args meth c RX5 cX5_cellQuoteEnd 4 (some .int)) : ∀ (d : Nat) (v0 : Nat) (v2 : Int32) (v3 : Int32) (f : AH) (n cells slots : Nat) (_ : cells + 0 ≤ 0) (_ : slots + 0 ≤ 0) (_ : mX5_cellQuoteEnd_l4 d v0 v2 v3 f n = some r), AW X p l e (RM 0 0 0) s m args below meth c 4 (ZM X below args s 0 0 (QHi r)) f n cells slots 4 [some (.ref v0), none, some (.int v2), some (.int v3)] [] := by
  intro d
  induction d with
  | zero =>
    intro v0 v2 v3 f n cells slots hc hs h
    exact nomatch (show (none : Option (Int32 × HpN)) = some r from h)
  | succ d ih =>
    intro v0 v2 v3 f n cells slots hc hs h
    have h : (if v3 < (0 : Int32) then mX5_cellQuoteEnd_b63 v0 v2 f n else ((gI f v0 5 1).bind fun x1 => (if x1 ≤ v3 then mX5_cellQuoteEnd_b63 v0 v2 f n else ((gR f v0 5 0).bind fun x2 => ((x2).bind fun j3 => ((gL f j3).bind fun x4 => (if (nI x4) ≤ v3 then mX5_cellQuoteEnd_b63 v0 v2 f n else ((gR f v0 5 0).bind fun x5 => ((x5).bind fun j6 => ((gIA f j6 v3).bind fun x7 => (if x7 = (34 : Int32) then (if v2 = (0 : Int32) then mX5_cellQuoteEnd_b45 (fun v0 v2 v3 f n => mX5_cellQuoteEnd_l4 d v0 v2 v3 f n) v0 v3 (1 : Int32) f n else mX5_cellQuoteEnd_b45 (fun v0 v2 v3 f n => mX5_cellQuoteEnd_l4 d v0 v2 v3 f n) v0 v3 (0 : Int32) f n) else (if v2 = (0 : Int32) then mX5_cellQuoteEnd_b57 (fun v0 v2 v3 f n => mX5_cellQuoteEnd_l4 d v0 v2 v3 f n) v0 v2 v3 f n else some ((v3 - (1 : Int32)), (f, n)))))))))))))) = some r := h
    refine aw_iload_n C dX5_cellQuoteEnd_4 rfl ?_
    refine aw_if_lt C 63 dX5_cellQuoteEnd_5 (by decide) (fun q => ?_) (fun q => ?_)
    · rw [if_pos q] at h
      refine aw_fl [some (.ref v0), none, some (.int v2), none] ⟨rfl, ⟨rfl, trivial⟩⟩ ?_
      exact rmX5_cellQuoteEnd_b63 C (by omega) (by omega) h
    · rw [if_neg q] at h
      refine aw_iload_n C dX5_cellQuoteEnd_8 rfl ?_
      refine aw_ald_n C dX5_cellQuoteEnd_9 rfl ?_
      obtain ⟨x1, hx1, h⟩ := Option.bind_eq_some_iff.mp h
      refine ah_getI C gf_X5_15 hx1 dX5_cellQuoteEnd_10 ?_
      refine aw_icmp_ge C 63 dX5_cellQuoteEnd_13 (by decide) (fun q => ?_) (fun q => ?_)
      · rw [if_pos q] at h
        refine aw_fl [some (.ref v0), none, some (.int v2), none] ⟨rfl, ⟨rfl, trivial⟩⟩ ?_
        exact rmX5_cellQuoteEnd_b63 C (by omega) (by omega) h
      · rw [if_neg q] at h
        refine aw_iload_n C dX5_cellQuoteEnd_16 rfl ?_
        refine aw_ald_n C dX5_cellQuoteEnd_17 rfl ?_
        obtain ⟨x2, hx2, h⟩ := Option.bind_eq_some_iff.mp h
        refine ah_getR C gf_X5_9 hx2 dX5_cellQuoteEnd_18 ?_
        obtain ⟨j3, hj3, h⟩ := Option.bind_eq_some_iff.mp h
        rw [hj3]
        obtain ⟨x4, hx4, h⟩ := Option.bind_eq_some_iff.mp h
        refine ah_len C hx4 dX5_cellQuoteEnd_21 ?_
        refine aw_icmp_ge C 63 dX5_cellQuoteEnd_22 (by decide) (fun q => ?_) (fun q => ?_)
        · rw [if_pos q] at h
          refine aw_fl [some (.ref v0), none, some (.int v2), none] ⟨rfl, ⟨rfl, trivial⟩⟩ ?_
          exact rmX5_cellQuoteEnd_b63 C (by omega) (by omega) h
        · rw [if_neg q] at h
          refine aw_ald_n C dX5_cellQuoteEnd_25 rfl ?_
          obtain ⟨x5, hx5, h⟩ := Option.bind_eq_some_iff.mp h
          refine ah_getR C gf_X5_9 hx5 dX5_cellQuoteEnd_26 ?_
          refine aw_iload_n C dX5_cellQuoteEnd_29 rfl ?_
          obtain ⟨j6, hj6, h⟩ := Option.bind_eq_some_iff.mp h
          rw [hj6]
          obtain ⟨x7, hx7, h⟩ := Option.bind_eq_some_iff.mp h
          refine ah_iald C hx7 dX5_cellQuoteEnd_30 ?_
          refine aw_bipush C 34 dX5_cellQuoteEnd_31 kb_34 ?_
          refine aw_icmp_ne C 49 dX5_cellQuoteEnd_33 (by decide) (fun q => ?_) (fun q => ?_)
          · rw [if_neg q] at h
            refine aw_iload_n C dX5_cellQuoteEnd_49 rfl ?_
            refine aw_if_eq C 57 dX5_cellQuoteEnd_50 (by decide) (fun q => ?_) (fun q => ?_)
            · rw [if_pos q] at h
              refine aw_fl [some (.ref v0), none, some (.int v2), some (.int v3)] ⟨rfl, ⟨rfl, ⟨rfl, trivial⟩⟩⟩ ?_
              exact rmX5_cellQuoteEnd_b57 C (fun v0 v2 v3 f n cells slots hc hs h => ih v0 v2 v3 f n cells slots hc hs h) (by omega) (by omega) h
            · rw [if_neg q] at h
              refine aw_iload_n C dX5_cellQuoteEnd_53 rfl ?_
              refine aw_iconst C 1 dX5_cellQuoteEnd_54 ki_1 ?_
              refine aw_isub C dX5_cellQuoteEnd_55 ?_
              cases h
              exact aw_iret C rfl rfl dX5_cellQuoteEnd_56 (by omega) (by omega) ⟨rfl, rfl, rfl⟩
          · rw [if_pos q] at h
            refine aw_iload_n C dX5_cellQuoteEnd_36 rfl ?_
            refine aw_if_ne C 44 dX5_cellQuoteEnd_37 (by decide) (fun q => ?_) (fun q => ?_)
            · rw [if_neg q] at h
              refine aw_iconst C 0 dX5_cellQuoteEnd_44 ki_0 ?_
              refine aw_fl [some (.ref v0), none, none, some (.int v3)] ⟨rfl, ⟨rfl, trivial⟩⟩ ?_
              exact rmX5_cellQuoteEnd_b45 C (fun v0 v2 v3 f n cells slots hc hs h => ih v0 v2 v3 f n cells slots hc hs h) (by omega) (by omega) h
            · rw [if_pos q] at h
              refine aw_iconst C 1 dX5_cellQuoteEnd_40 ki_1 ?_
              refine aw_goto C 45 dX5_cellQuoteEnd_41 (by decide) ?_
              refine aw_fl [some (.ref v0), none, none, some (.int v3)] ⟨rfl, ⟨rfl, trivial⟩⟩ ?_
              exact rmX5_cellQuoteEnd_b45 C (fun v0 v2 v3 f n cells slots hc hs h => ih v0 v2 v3 f n cells slots hc hs h) (by omega) (by omega) h
def mX5_cellQuoteEnd (v0 : Nat) (v1 : Int32) (f : AH) (n : Nat) : Option (Int32 × HpN) := mX5_cellQuoteEnd_l4 rFU v0 (0 : Int32) v1 f n
set_option maxHeartbeats 1000000 in
theorem rmX5_cellQuoteEnd {X : GX} {l : Launch} {r : Int32 × HpN} {v0 : Nat} {v1 : Int32} {f : AH} {n : Nat} (h : mX5_cellQuoteEnd v0 v1 f n = some r) : AM X l yX5_cellQuoteEnd cX5_cellQuoteEnd 4 (some .int) 0 0 0 [.ref v0, .int v1] f n (QHi r) := by
  have h : mX5_cellQuoteEnd_l4 rFU v0 (0 : Int32) v1 f n = some r := h
  refine AM.of (by decide +kernel) rfl (Nat.le_of_ble_eq_true rfl) (fun p e s m args below meth c C hnm => ?_)
  refine aw_nl [some (.ref v0), some (.int v1), none, none] rfl ?_
  refine aw_iconst C 0 dX5_cellQuoteEnd_0 ki_0 ?_
  refine aw_istore_n C dX5_cellQuoteEnd_1 (by decide) rfl ?_
  refine aw_nl [some (.ref v0), some (.int v1), some (.int (0 : Int32)), none] rfl ?_
  refine aw_iload_n C dX5_cellQuoteEnd_2 rfl ?_
  refine aw_istore_n C dX5_cellQuoteEnd_3 (by decide) rfl ?_
  refine aw_nl [some (.ref v0), some (.int v1), some (.int (0 : Int32)), some (.int v1)] rfl ?_
  refine aw_fl [some (.ref v0), none, some (.int (0 : Int32)), some (.int v1)] ⟨rfl, ⟨rfl, ⟨rfl, trivial⟩⟩⟩ ?_
  exact rmX5_cellQuoteEnd_l4 C rFU v0 (0 : Int32) v1 f n _ _ (by omega) (by omega) h
def mX5_cellEnd_b53 (v0 : Nat) (f : AH) (n : Nat) : Option (Int32 × HpN) := ((gI f v0 5 1).bind fun x1 => some (x1, (f, n)))
set_option maxHeartbeats 1000000 in
theorem rmX5_cellEnd_b53 {X : GX} {p : Program} {l : Launch} {e : Env} {s : State} {m : MethodId} {args : Array Value} {below : List Frame} {meth : Method} {c : Code} {r : Int32 × HpN} {v0 : Nat} {f : AH} {n cells slots : Nat} (C : CC X p l (RM 0 0 0) s m args meth c RX5 cX5_cellEnd 3 (some .int)) (hc : cells + 0 ≤ 0) (hs : slots + 0 ≤ 0) (h : mX5_cellEnd_b53 v0 f n = some r) : AW X p l e (RM 0 0 0) s m args below meth c 3 (ZM X below args s 0 0 (QHi r)) f n cells slots 53 [some (.ref v0), none, none] [] := by
  have h : ((gI f v0 5 1).bind fun x1 => some (x1, (f, n))) = some r := h
  refine aw_ald_n C dX5_cellEnd_53 rfl ?_
  obtain ⟨x1, hx1, h⟩ := Option.bind_eq_some_iff.mp h
  refine ah_getI C gf_X5_15 hx1 dX5_cellEnd_54 ?_
  cases h
  exact aw_iret C rfl rfl dX5_cellEnd_57 (by omega) (by omega) ⟨rfl, rfl, rfl⟩
def mX5_cellEnd_b45 (v2 : Int32) (f : AH) (n : Nat) : Option (Int32 × HpN) := some (v2, (f, n))
set_option maxHeartbeats 1000000 in
theorem rmX5_cellEnd_b45 {X : GX} {p : Program} {l : Launch} {e : Env} {s : State} {m : MethodId} {args : Array Value} {below : List Frame} {meth : Method} {c : Code} {r : Int32 × HpN} {v2 : Int32} {f : AH} {n cells slots : Nat} (C : CC X p l (RM 0 0 0) s m args meth c RX5 cX5_cellEnd 3 (some .int)) (hc : cells + 0 ≤ 0) (hs : slots + 0 ≤ 0) (h : mX5_cellEnd_b45 v2 f n = some r) : AW X p l e (RM 0 0 0) s m args below meth c 3 (ZM X below args s 0 0 (QHi r)) f n cells slots 45 [none, none, some (.int v2)] [] := by
  have h : some (v2, (f, n)) = some r := h
  refine aw_iload_n C dX5_cellEnd_45 rfl ?_
  cases h
  exact aw_iret C rfl rfl dX5_cellEnd_46 (by omega) (by omega) ⟨rfl, rfl, rfl⟩
def mX5_cellEnd_l2 : Nat → Nat → Int32 → AH → Nat → Option (Int32 × HpN)
  | 0, _, _, _, _ => none
  | d + 1, v0, v2, f, n => (if v2 < (0 : Int32) then mX5_cellEnd_b53 v0 f n else ((gI f v0 5 1).bind fun x1 => (if x1 ≤ v2 then mX5_cellEnd_b53 v0 f n else ((gR f v0 5 0).bind fun x2 => ((x2).bind fun j3 => ((gL f j3).bind fun x4 => (if (nI x4) ≤ v2 then mX5_cellEnd_b53 v0 f n else ((gR f v0 5 0).bind fun x5 => ((x5).bind fun j6 => ((gIA f j6 v2).bind fun x7 => (if x7 = (44 : Int32) then mX5_cellEnd_b45 v2 f n else ((gR f v0 5 0).bind fun x8 => ((x8).bind fun j9 => ((gIA f j9 v2).bind fun x10 => (if x10 = (10 : Int32) then mX5_cellEnd_b45 v2 f n else mX5_cellEnd_l2 d v0 (v2 + (1 : Int32)) f n)))))))))))))))
set_option maxHeartbeats 1000000 in
theorem rmX5_cellEnd_l2 {X : GX} {p : Program} {l : Launch} {e : Env} {s : State} {m : MethodId} {args : Array Value} {below : List Frame} {meth : Method} {c : Code} {r : Int32 × HpN} (C : CC X p l (RM 0 0 0) s m args meth c RX5 cX5_cellEnd 3 (some .int)) : ∀ (d : Nat) (v0 : Nat) (v2 : Int32) (f : AH) (n cells slots : Nat) (_ : cells + 0 ≤ 0) (_ : slots + 0 ≤ 0) (_ : mX5_cellEnd_l2 d v0 v2 f n = some r), AW X p l e (RM 0 0 0) s m args below meth c 3 (ZM X below args s 0 0 (QHi r)) f n cells slots 2 [some (.ref v0), none, some (.int v2)] [] := by
  intro d
  induction d with
  | zero =>
    intro v0 v2 f n cells slots hc hs h
    exact nomatch (show (none : Option (Int32 × HpN)) = some r from h)
  | succ d ih =>
    intro v0 v2 f n cells slots hc hs h
    have h : (if v2 < (0 : Int32) then mX5_cellEnd_b53 v0 f n else ((gI f v0 5 1).bind fun x1 => (if x1 ≤ v2 then mX5_cellEnd_b53 v0 f n else ((gR f v0 5 0).bind fun x2 => ((x2).bind fun j3 => ((gL f j3).bind fun x4 => (if (nI x4) ≤ v2 then mX5_cellEnd_b53 v0 f n else ((gR f v0 5 0).bind fun x5 => ((x5).bind fun j6 => ((gIA f j6 v2).bind fun x7 => (if x7 = (44 : Int32) then mX5_cellEnd_b45 v2 f n else ((gR f v0 5 0).bind fun x8 => ((x8).bind fun j9 => ((gIA f j9 v2).bind fun x10 => (if x10 = (10 : Int32) then mX5_cellEnd_b45 v2 f n else mX5_cellEnd_l2 d v0 (v2 + (1 : Int32)) f n))))))))))))))) = some r := h
    refine aw_iload_n C dX5_cellEnd_2 rfl ?_
    refine aw_if_lt C 53 dX5_cellEnd_3 (by decide) (fun q => ?_) (fun q => ?_)
    · rw [if_pos q] at h
      refine aw_fl [some (.ref v0), none, none] ⟨rfl, trivial⟩ ?_
      exact rmX5_cellEnd_b53 C (by omega) (by omega) h
    · rw [if_neg q] at h
      refine aw_iload_n C dX5_cellEnd_6 rfl ?_
      refine aw_ald_n C dX5_cellEnd_7 rfl ?_
      obtain ⟨x1, hx1, h⟩ := Option.bind_eq_some_iff.mp h
      refine ah_getI C gf_X5_15 hx1 dX5_cellEnd_8 ?_
      refine aw_icmp_ge C 53 dX5_cellEnd_11 (by decide) (fun q => ?_) (fun q => ?_)
      · rw [if_pos q] at h
        refine aw_fl [some (.ref v0), none, none] ⟨rfl, trivial⟩ ?_
        exact rmX5_cellEnd_b53 C (by omega) (by omega) h
      · rw [if_neg q] at h
        refine aw_iload_n C dX5_cellEnd_14 rfl ?_
        refine aw_ald_n C dX5_cellEnd_15 rfl ?_
        obtain ⟨x2, hx2, h⟩ := Option.bind_eq_some_iff.mp h
        refine ah_getR C gf_X5_9 hx2 dX5_cellEnd_16 ?_
        obtain ⟨j3, hj3, h⟩ := Option.bind_eq_some_iff.mp h
        rw [hj3]
        obtain ⟨x4, hx4, h⟩ := Option.bind_eq_some_iff.mp h
        refine ah_len C hx4 dX5_cellEnd_19 ?_
        refine aw_icmp_ge C 53 dX5_cellEnd_20 (by decide) (fun q => ?_) (fun q => ?_)
        · rw [if_pos q] at h
          refine aw_fl [some (.ref v0), none, none] ⟨rfl, trivial⟩ ?_
          exact rmX5_cellEnd_b53 C (by omega) (by omega) h
        · rw [if_neg q] at h
          refine aw_ald_n C dX5_cellEnd_23 rfl ?_
          obtain ⟨x5, hx5, h⟩ := Option.bind_eq_some_iff.mp h
          refine ah_getR C gf_X5_9 hx5 dX5_cellEnd_24 ?_
          refine aw_iload_n C dX5_cellEnd_27 rfl ?_
          obtain ⟨j6, hj6, h⟩ := Option.bind_eq_some_iff.mp h
          rw [hj6]
          obtain ⟨x7, hx7, h⟩ := Option.bind_eq_some_iff.mp h
          refine ah_iald C hx7 dX5_cellEnd_28 ?_
          refine aw_bipush C 44 dX5_cellEnd_29 kb_44 ?_
          refine aw_icmp_eq C 45 dX5_cellEnd_31 (by decide) (fun q => ?_) (fun q => ?_)
          · rw [if_pos q] at h
            refine aw_fl [none, none, some (.int v2)] ⟨rfl, trivial⟩ ?_
            exact rmX5_cellEnd_b45 C (by omega) (by omega) h
          · rw [if_neg q] at h
            refine aw_ald_n C dX5_cellEnd_34 rfl ?_
            obtain ⟨x8, hx8, h⟩ := Option.bind_eq_some_iff.mp h
            refine ah_getR C gf_X5_9 hx8 dX5_cellEnd_35 ?_
            refine aw_iload_n C dX5_cellEnd_38 rfl ?_
            obtain ⟨j9, hj9, h⟩ := Option.bind_eq_some_iff.mp h
            rw [hj9]
            obtain ⟨x10, hx10, h⟩ := Option.bind_eq_some_iff.mp h
            refine ah_iald C hx10 dX5_cellEnd_39 ?_
            refine aw_bipush C 10 dX5_cellEnd_40 kb_10 ?_
            refine aw_icmp_ne C 47 dX5_cellEnd_42 (by decide) (fun q => ?_) (fun q => ?_)
            · rw [if_neg q] at h
              refine aw_iinc C (v2 + (1 : Int32)) dX5_cellEnd_47 rfl (by rw [ki_1]) (by decide) rfl ?_
              refine aw_nl [some (.ref v0), none, some (.int (v2 + (1 : Int32)))] rfl ?_
              refine aw_goto C 2 dX5_cellEnd_50 (by decide) ?_
              refine aw_fl [some (.ref v0), none, some (.int (v2 + (1 : Int32)))] ⟨rfl, ⟨rfl, trivial⟩⟩ ?_
              exact ih v0 (v2 + (1 : Int32)) f n _ _ (by omega) (by omega) h
            · rw [if_pos q] at h
              refine aw_fl [none, none, some (.int v2)] ⟨rfl, trivial⟩ ?_
              exact rmX5_cellEnd_b45 C (by omega) (by omega) h
def mX5_cellEnd (v0 : Nat) (v1 : Int32) (f : AH) (n : Nat) : Option (Int32 × HpN) := mX5_cellEnd_l2 rFU v0 v1 f n
set_option maxHeartbeats 1000000 in
theorem rmX5_cellEnd {X : GX} {l : Launch} {r : Int32 × HpN} {v0 : Nat} {v1 : Int32} {f : AH} {n : Nat} (h : mX5_cellEnd v0 v1 f n = some r) : AM X l yX5_cellEnd cX5_cellEnd 3 (some .int) 0 0 0 [.ref v0, .int v1] f n (QHi r) := by
  have h : mX5_cellEnd_l2 rFU v0 v1 f n = some r := h
  refine AM.of (by decide +kernel) rfl (Nat.le_of_ble_eq_true rfl) (fun p e s m args below meth c C hnm => ?_)
  refine aw_nl [some (.ref v0), some (.int v1), none] rfl ?_
  refine aw_iload_n C dX5_cellEnd_0 rfl ?_
  refine aw_istore_n C dX5_cellEnd_1 (by decide) rfl ?_
  refine aw_nl [some (.ref v0), some (.int v1), some (.int v1)] rfl ?_
  refine aw_fl [some (.ref v0), none, some (.int v1)] ⟨rfl, ⟨rfl, trivial⟩⟩ ?_
  exact rmX5_cellEnd_l2 C rFU v0 v1 f n _ _ (by omega) (by omega) h
def mX6_tryCell_b117 (s0 : Nat) (s1 : Int32) (f : AH) (n : Nat) : Option (Int32 × HpN) := ((pO f s0 6 9 (.int s1)).bind fun f1 => some ((0 : Int32), (f1, n)))
set_option maxHeartbeats 1000000 in
theorem rmX6_tryCell_b117 {X : GX} {p : Program} {l : Launch} {e : Env} {s : State} {m : MethodId} {args : Array Value} {below : List Frame} {meth : Method} {c : Code} {r : Int32 × HpN} {s0 : Nat} {s1 : Int32} {f : AH} {n cells slots : Nat} (C : CC X p l (RM 1 0 0) s m args meth c RX6 cX6_tryCell 1 none) (hc : cells + 0 ≤ 0) (hs : slots + 0 ≤ 0) (h : mX6_tryCell_b117 s0 s1 f n = some r) : AW X p l e (RM 1 0 0) s m args below meth c 1 (ZM X below args s 0 0 (QHv r)) f n cells slots 117 [none] [.int s1, .ref s0] := by
  have h : ((pO f s0 6 9 (.int s1)).bind fun f1 => some ((0 : Int32), (f1, n))) = some r := h
  obtain ⟨f1, hf1, h⟩ := Option.bind_eq_some_iff.mp h
  refine ah_put C gf_X6_24 cf6 nf6_9 rfl rfl hf1 dX6_tryCell_117 ?_
  cases h
  exact aw_vret C rfl dX6_tryCell_120 (by omega) (by omega) ⟨rfl, rfl, rfl⟩
def mX6_tryCell_b82 (v0 : Nat) (s0 : Nat) (s1 : Int32) (f : AH) (n : Nat) : Option (Int32 × HpN) := ((pO f s0 6 2 (.int s1)).bind fun f1 => ((gI f1 v0 6 3).bind fun x2 => (if x2 = (0 : Int32) then ((gI f1 v0 6 2).bind fun x3 => mX6_tryCell_b117 v0 (x3 + (1 : Int32)) f1 n) else ((gR f1 v0 6 0).bind fun x4 => ((gI f1 v0 6 2).bind fun x5 => ((x4).bind fun j6 => rCk (isO f1 j6 5) (((mX5_cellEnd j6 (x5 + (1 : Int32)) f1 n).bind fun r8 => mX6_tryCell_b117 v0 (r8.1 + (1 : Int32)) r8.2.1 r8.2.2))))))))
set_option maxHeartbeats 1000000 in
theorem rmX6_tryCell_b82 {X : GX} {p : Program} {l : Launch} {e : Env} {s : State} {m : MethodId} {args : Array Value} {below : List Frame} {meth : Method} {c : Code} {r : Int32 × HpN} {v0 : Nat} {s0 : Nat} {s1 : Int32} {f : AH} {n cells slots : Nat} (C : CC X p l (RM 1 0 0) s m args meth c RX6 cX6_tryCell 1 none) (hc : cells + 0 ≤ 0) (hs : slots + 0 ≤ 0) (h : mX6_tryCell_b82 v0 s0 s1 f n = some r) : AW X p l e (RM 1 0 0) s m args below meth c 1 (ZM X below args s 0 0 (QHv r)) f n cells slots 82 [some (.ref v0)] [.int s1, .ref s0] := by
  have h : ((pO f s0 6 2 (.int s1)).bind fun f1 => ((gI f1 v0 6 3).bind fun x2 => (if x2 = (0 : Int32) then ((gI f1 v0 6 2).bind fun x3 => mX6_tryCell_b117 v0 (x3 + (1 : Int32)) f1 n) else ((gR f1 v0 6 0).bind fun x4 => ((gI f1 v0 6 2).bind fun x5 => ((x4).bind fun j6 => rCk (isO f1 j6 5) (((mX5_cellEnd j6 (x5 + (1 : Int32)) f1 n).bind fun r8 => mX6_tryCell_b117 v0 (r8.1 + (1 : Int32)) r8.2.1 r8.2.2)))))))) = some r := h
  obtain ⟨f1, hf1, h⟩ := Option.bind_eq_some_iff.mp h
  refine ah_put C gf_X6_56 cf6 nf6_2 rfl rfl hf1 dX6_tryCell_82 ?_
  refine aw_ald_n C dX6_tryCell_85 rfl ?_
  refine aw_ald_n C dX6_tryCell_86 rfl ?_
  obtain ⟨x2, hx2, h⟩ := Option.bind_eq_some_iff.mp h
  refine ah_getI C gf_X6_27 hx2 dX6_tryCell_87 ?_
  refine aw_if_eq C 111 dX6_tryCell_90 (by decide) (fun q => ?_) (fun q => ?_)
  · rw [if_pos q] at h
    refine aw_ald_n C dX6_tryCell_111 rfl ?_
    obtain ⟨x3, hx3, h⟩ := Option.bind_eq_some_iff.mp h
    refine ah_getI C gf_X6_56 hx3 dX6_tryCell_112 ?_
    refine aw_iconst C 1 dX6_tryCell_115 ki_1 ?_
    refine aw_iadd C dX6_tryCell_116 ?_
    refine aw_fl [none] trivial ?_
    exact rmX6_tryCell_b117 C (by omega) (by omega) h
  · rw [if_neg q] at h
    refine aw_ald_n C dX6_tryCell_93 rfl ?_
    obtain ⟨x4, hx4, h⟩ := Option.bind_eq_some_iff.mp h
    refine ah_getR C gf_X6_14 hx4 dX6_tryCell_94 ?_
    refine aw_ald_n C dX6_tryCell_97 rfl ?_
    obtain ⟨x5, hx5, h⟩ := Option.bind_eq_some_iff.mp h
    refine ah_getI C gf_X6_56 hx5 dX6_tryCell_98 ?_
    refine aw_iconst C 1 dX6_tryCell_101 ki_1 ?_
    refine aw_iadd C dX6_tryCell_102 ?_
    obtain ⟨j6, hj6, h⟩ := Option.bind_eq_some_iff.mp h
    rw [hj6]
    obtain ⟨hb7, h⟩ := ck_some h
    obtain ⟨r8, hr8, h⟩ := Option.bind_eq_some_iff.mp h
    obtain ⟨fs9, hf9⟩ := isO_ex hb7
    refine aw_callV C (ci := 5) (b := j6) [.int (x5 + (1 : Int32))] mv_X6_74 rfl rfl hf9 (rmX5_cellEnd hr8) rfl dX6_tryCell_103 (Nat.le_of_ble_eq_true rfl) (Nat.le_of_ble_eq_true rfl) rfl (Nat.le_of_ble_eq_true rfl) (show cells + 0 ≤ 0 by omega) (show slots + 0 ≤ 0 by omega) (fun v9 f9 n9 hh => ?_)
    obtain ⟨rfl, rfl, rfl⟩ := hh
    refine aw_iconst C 1 dX6_tryCell_106 ki_1 ?_
    refine aw_iadd C dX6_tryCell_107 ?_
    refine aw_goto C 117 dX6_tryCell_108 (by decide) ?_
    refine aw_fl [none] trivial ?_
    exact rmX6_tryCell_b117 C (by omega) (by omega) h
def mX6_tryCell_b46 (v0 : Nat) (s0 : Nat) (s1 : Int32) (f : AH) (n : Nat) : Option (Int32 × HpN) := ((pO f s0 6 1 (.int s1)).bind fun f1 => ((gI f1 v0 6 3).bind fun x2 => (if x2 = (0 : Int32) then ((gR f1 v0 6 0).bind fun x3 => ((gI f1 v0 6 1).bind fun x4 => ((x3).bind fun j5 => rCk (isO f1 j5 5) (((mX5_cellEnd j5 x4 f1 n).bind fun r7 => mX6_tryCell_b82 v0 v0 r7.1 r7.2.1 r7.2.2))))) else ((gR f1 v0 6 0).bind fun x9 => ((gI f1 v0 6 1).bind fun x10 => ((x9).bind fun j11 => rCk (isO f1 j11 5) (((mX5_cellQuoteEnd j11 x10 f1 n).bind fun r13 => mX6_tryCell_b82 v0 v0 r13.1 r13.2.1 r13.2.2))))))))
set_option maxHeartbeats 1000000 in
theorem rmX6_tryCell_b46 {X : GX} {p : Program} {l : Launch} {e : Env} {s : State} {m : MethodId} {args : Array Value} {below : List Frame} {meth : Method} {c : Code} {r : Int32 × HpN} {v0 : Nat} {s0 : Nat} {s1 : Int32} {f : AH} {n cells slots : Nat} (C : CC X p l (RM 1 0 0) s m args meth c RX6 cX6_tryCell 1 none) (hc : cells + 0 ≤ 0) (hs : slots + 0 ≤ 0) (h : mX6_tryCell_b46 v0 s0 s1 f n = some r) : AW X p l e (RM 1 0 0) s m args below meth c 1 (ZM X below args s 0 0 (QHv r)) f n cells slots 46 [some (.ref v0)] [.int s1, .ref s0] := by
  have h : ((pO f s0 6 1 (.int s1)).bind fun f1 => ((gI f1 v0 6 3).bind fun x2 => (if x2 = (0 : Int32) then ((gR f1 v0 6 0).bind fun x3 => ((gI f1 v0 6 1).bind fun x4 => ((x3).bind fun j5 => rCk (isO f1 j5 5) (((mX5_cellEnd j5 x4 f1 n).bind fun r7 => mX6_tryCell_b82 v0 v0 r7.1 r7.2.1 r7.2.2))))) else ((gR f1 v0 6 0).bind fun x9 => ((gI f1 v0 6 1).bind fun x10 => ((x9).bind fun j11 => rCk (isO f1 j11 5) (((mX5_cellQuoteEnd j11 x10 f1 n).bind fun r13 => mX6_tryCell_b82 v0 v0 r13.1 r13.2.1 r13.2.2)))))))) = some r := h
  obtain ⟨f1, hf1, h⟩ := Option.bind_eq_some_iff.mp h
  refine ah_put C gf_X6_53 cf6 nf6_1 rfl rfl hf1 dX6_tryCell_46 ?_
  refine aw_ald_n C dX6_tryCell_49 rfl ?_
  refine aw_ald_n C dX6_tryCell_50 rfl ?_
  obtain ⟨x2, hx2, h⟩ := Option.bind_eq_some_iff.mp h
  refine ah_getI C gf_X6_27 hx2 dX6_tryCell_51 ?_
  refine aw_if_eq C 71 dX6_tryCell_54 (by decide) (fun q => ?_) (fun q => ?_)
  · rw [if_pos q] at h
    refine aw_ald_n C dX6_tryCell_71 rfl ?_
    obtain ⟨x3, hx3, h⟩ := Option.bind_eq_some_iff.mp h
    refine ah_getR C gf_X6_14 hx3 dX6_tryCell_72 ?_
    refine aw_ald_n C dX6_tryCell_75 rfl ?_
    obtain ⟨x4, hx4, h⟩ := Option.bind_eq_some_iff.mp h
    refine ah_getI C gf_X6_53 hx4 dX6_tryCell_76 ?_
    obtain ⟨j5, hj5, h⟩ := Option.bind_eq_some_iff.mp h
    rw [hj5]
    obtain ⟨hb6, h⟩ := ck_some h
    obtain ⟨r7, hr7, h⟩ := Option.bind_eq_some_iff.mp h
    obtain ⟨fs8, hf8⟩ := isO_ex hb6
    refine aw_callV C (ci := 5) (b := j5) [.int x4] mv_X6_74 rfl rfl hf8 (rmX5_cellEnd hr7) rfl dX6_tryCell_79 (Nat.le_of_ble_eq_true rfl) (Nat.le_of_ble_eq_true rfl) rfl (Nat.le_of_ble_eq_true rfl) (show cells + 0 ≤ 0 by omega) (show slots + 0 ≤ 0 by omega) (fun v9 f9 n9 hh => ?_)
    obtain ⟨rfl, rfl, rfl⟩ := hh
    refine aw_fl [some (.ref v0)] ⟨rfl, trivial⟩ ?_
    exact rmX6_tryCell_b82 C (by omega) (by omega) h
  · rw [if_neg q] at h
    refine aw_ald_n C dX6_tryCell_57 rfl ?_
    obtain ⟨x9, hx9, h⟩ := Option.bind_eq_some_iff.mp h
    refine ah_getR C gf_X6_14 hx9 dX6_tryCell_58 ?_
    refine aw_ald_n C dX6_tryCell_61 rfl ?_
    obtain ⟨x10, hx10, h⟩ := Option.bind_eq_some_iff.mp h
    refine ah_getI C gf_X6_53 hx10 dX6_tryCell_62 ?_
    obtain ⟨j11, hj11, h⟩ := Option.bind_eq_some_iff.mp h
    rw [hj11]
    obtain ⟨hb12, h⟩ := ck_some h
    obtain ⟨r13, hr13, h⟩ := Option.bind_eq_some_iff.mp h
    obtain ⟨fs14, hf14⟩ := isO_ex hb12
    refine aw_callV C (ci := 5) (b := j11) [.int x10] mv_X6_71 rfl rfl hf14 (rmX5_cellQuoteEnd hr13) rfl dX6_tryCell_65 (Nat.le_of_ble_eq_true rfl) (Nat.le_of_ble_eq_true rfl) rfl (Nat.le_of_ble_eq_true rfl) (show cells + 0 ≤ 0 by omega) (show slots + 0 ≤ 0 by omega) (fun v9 f9 n9 hh => ?_)
    obtain ⟨rfl, rfl, rfl⟩ := hh
    refine aw_goto C 82 dX6_tryCell_68 (by decide) ?_
    refine aw_fl [some (.ref v0)] ⟨rfl, trivial⟩ ?_
    exact rmX6_tryCell_b82 C (by omega) (by omega) h
def mX6_tryCell_b22 (v0 : Nat) (s0 : Nat) (s1 : Int32) (f : AH) (n : Nat) : Option (Int32 × HpN) := rCk (rNb s1) (((pO f s0 6 3 (.int s1)).bind fun f2 => ((gI f2 v0 6 3).bind fun x3 => (if x3 = (0 : Int32) then ((gI f2 v0 6 9).bind fun x4 => mX6_tryCell_b46 v0 v0 x4 f2 n) else ((gI f2 v0 6 9).bind fun x5 => mX6_tryCell_b46 v0 v0 (x5 + (1 : Int32)) f2 n)))))
set_option maxHeartbeats 1000000 in
theorem rmX6_tryCell_b22 {X : GX} {p : Program} {l : Launch} {e : Env} {s : State} {m : MethodId} {args : Array Value} {below : List Frame} {meth : Method} {c : Code} {r : Int32 × HpN} {v0 : Nat} {s0 : Nat} {s1 : Int32} {f : AH} {n cells slots : Nat} (C : CC X p l (RM 1 0 0) s m args meth c RX6 cX6_tryCell 1 none) (hc : cells + 0 ≤ 0) (hs : slots + 0 ≤ 0) (h : mX6_tryCell_b22 v0 s0 s1 f n = some r) : AW X p l e (RM 1 0 0) s m args below meth c 1 (ZM X below args s 0 0 (QHv r)) f n cells slots 22 [some (.ref v0)] [.int s1, .ref s0] := by
  have h : rCk (rNb s1) (((pO f s0 6 3 (.int s1)).bind fun f2 => ((gI f2 v0 6 3).bind fun x3 => (if x3 = (0 : Int32) then ((gI f2 v0 6 9).bind fun x4 => mX6_tryCell_b46 v0 v0 x4 f2 n) else ((gI f2 v0 6 9).bind fun x5 => mX6_tryCell_b46 v0 v0 (x5 + (1 : Int32)) f2 n))))) = some r := h
  obtain ⟨hb1, h⟩ := ck_some h
  obtain ⟨f2, hf2, h⟩ := Option.bind_eq_some_iff.mp h
  refine ah_put C gf_X6_27 cf6 nf6_3 (nb_nar hb1) (nb_fit hb1) hf2 dX6_tryCell_22 ?_
  refine aw_ald_n C dX6_tryCell_25 rfl ?_
  refine aw_ald_n C dX6_tryCell_26 rfl ?_
  obtain ⟨x3, hx3, h⟩ := Option.bind_eq_some_iff.mp h
  refine ah_getI C gf_X6_27 hx3 dX6_tryCell_27 ?_
  refine aw_if_eq C 42 dX6_tryCell_30 (by decide) (fun q => ?_) (fun q => ?_)
  · rw [if_pos q] at h
    refine aw_ald_n C dX6_tryCell_42 rfl ?_
    obtain ⟨x4, hx4, h⟩ := Option.bind_eq_some_iff.mp h
    refine ah_getI C gf_X6_24 hx4 dX6_tryCell_43 ?_
    refine aw_fl [some (.ref v0)] ⟨rfl, trivial⟩ ?_
    exact rmX6_tryCell_b46 C (by omega) (by omega) h
  · rw [if_neg q] at h
    refine aw_ald_n C dX6_tryCell_33 rfl ?_
    obtain ⟨x5, hx5, h⟩ := Option.bind_eq_some_iff.mp h
    refine ah_getI C gf_X6_24 hx5 dX6_tryCell_34 ?_
    refine aw_iconst C 1 dX6_tryCell_37 ki_1 ?_
    refine aw_iadd C dX6_tryCell_38 ?_
    refine aw_goto C 46 dX6_tryCell_39 (by decide) ?_
    refine aw_fl [some (.ref v0)] ⟨rfl, trivial⟩ ?_
    exact rmX6_tryCell_b46 C (by omega) (by omega) h
def mX6_tryCell (v0 : Nat) (f : AH) (n : Nat) : Option (Int32 × HpN) := ((gR f v0 6 0).bind fun x1 => ((gI f v0 6 9).bind fun x2 => ((x1).bind fun j3 => rCk (isO f j3 5) (((mX5_get j3 x2 f n).bind fun r5 => (if r5.1 = (34 : Int32) then mX6_tryCell_b22 v0 v0 (1 : Int32) r5.2.1 r5.2.2 else mX6_tryCell_b22 v0 v0 (0 : Int32) r5.2.1 r5.2.2))))))
set_option maxHeartbeats 1000000 in
theorem rmX6_tryCell {X : GX} {l : Launch} {r : Int32 × HpN} {v0 : Nat} {f : AH} {n : Nat} (h : mX6_tryCell v0 f n = some r) : AM X l yX6_tryCell cX6_tryCell 1 none 1 0 0 [.ref v0] f n (QHv r) := by
  have h : ((gR f v0 6 0).bind fun x1 => ((gI f v0 6 9).bind fun x2 => ((x1).bind fun j3 => rCk (isO f j3 5) (((mX5_get j3 x2 f n).bind fun r5 => (if r5.1 = (34 : Int32) then mX6_tryCell_b22 v0 v0 (1 : Int32) r5.2.1 r5.2.2 else mX6_tryCell_b22 v0 v0 (0 : Int32) r5.2.1 r5.2.2)))))) = some r := h
  refine AM.of (by decide +kernel) rfl (Nat.le_of_ble_eq_true rfl) (fun p e s m args below meth c C hnm => ?_)
  refine aw_nl [some (.ref v0)] rfl ?_
  refine aw_ald_n C dX6_tryCell_0 rfl ?_
  refine aw_ald_n C dX6_tryCell_1 rfl ?_
  obtain ⟨x1, hx1, h⟩ := Option.bind_eq_some_iff.mp h
  refine ah_getR C gf_X6_14 hx1 dX6_tryCell_2 ?_
  refine aw_ald_n C dX6_tryCell_5 rfl ?_
  obtain ⟨x2, hx2, h⟩ := Option.bind_eq_some_iff.mp h
  refine ah_getI C gf_X6_24 hx2 dX6_tryCell_6 ?_
  obtain ⟨j3, hj3, h⟩ := Option.bind_eq_some_iff.mp h
  rw [hj3]
  obtain ⟨hb4, h⟩ := ck_some h
  obtain ⟨r5, hr5, h⟩ := Option.bind_eq_some_iff.mp h
  obtain ⟨fs6, hf6⟩ := isO_ex hb4
  refine aw_callV C (ci := 5) (b := j3) [.int x2] mv_X6_67 rfl rfl hf6 (rmX5_get hr5) rfl dX6_tryCell_9 (Nat.le_of_ble_eq_true rfl) (Nat.le_of_ble_eq_true rfl) rfl (Nat.le_of_ble_eq_true rfl) (show 0 + 0 ≤ 0 by omega) (show 0 + 0 ≤ 0 by omega) (fun v9 f9 n9 hh => ?_)
  obtain ⟨rfl, rfl, rfl⟩ := hh
  refine aw_bipush C 34 dX6_tryCell_12 kb_34 ?_
  refine aw_icmp_ne C 21 dX6_tryCell_14 (by decide) (fun q => ?_) (fun q => ?_)
  · rw [if_neg q] at h
    refine aw_iconst C 0 dX6_tryCell_21 ki_0 ?_
    refine aw_fl [some (.ref v0)] ⟨rfl, trivial⟩ ?_
    exact rmX6_tryCell_b22 C (by omega) (by omega) h
  · rw [if_pos q] at h
    refine aw_iconst C 1 dX6_tryCell_17 ki_1 ?_
    refine aw_goto C 22 dX6_tryCell_18 (by decide) ?_
    refine aw_fl [some (.ref v0)] ⟨rfl, trivial⟩ ?_
    exact rmX6_tryCell_b22 C (by omega) (by omega) h
def mX5_behindSpace_b50 (v2 : Int32) (f : AH) (n : Nat) : Option (Int32 × HpN) := some (v2, (f, n))
set_option maxHeartbeats 1000000 in
theorem rmX5_behindSpace_b50 {X : GX} {p : Program} {l : Launch} {e : Env} {s : State} {m : MethodId} {args : Array Value} {below : List Frame} {meth : Method} {c : Code} {r : Int32 × HpN} {v2 : Int32} {f : AH} {n cells slots : Nat} (C : CC X p l (RM 0 0 0) s m args meth c RX5 cX5_behindSpace 4 (some .int)) (hc : cells + 0 ≤ 0) (hs : slots + 0 ≤ 0) (h : mX5_behindSpace_b50 v2 f n = some r) : AW X p l e (RM 0 0 0) s m args below meth c 4 (ZM X below args s 0 0 (QHi r)) f n cells slots 50 [none, none, some (.int v2), none] [] := by
  have h : some (v2, (f, n)) = some r := h
  refine aw_iload_n C dX5_behindSpace_50 rfl ?_
  cases h
  exact aw_iret C rfl rfl dX5_behindSpace_51 (by omega) (by omega) ⟨rfl, rfl, rfl⟩
def mX5_behindSpace_b44 (rec2 : Nat → Int32 → Int32 → AH → Nat → Option (Int32 × HpN)) (v0 : Nat) (v2 : Int32) (v3 : Int32) (f : AH) (n : Nat) : Option (Int32 × HpN) := rec2 v0 v2 (v3 + (1 : Int32)) f n
set_option maxHeartbeats 1000000 in
theorem rmX5_behindSpace_b44 {X : GX} {p : Program} {l : Launch} {e : Env} {s : State} {m : MethodId} {args : Array Value} {below : List Frame} {meth : Method} {c : Code} {r : Int32 × HpN} {rec2 : Nat → Int32 → Int32 → AH → Nat → Option (Int32 × HpN)} {v0 : Nat} {v2 : Int32} {v3 : Int32} {f : AH} {n cells slots : Nat} (C : CC X p l (RM 0 0 0) s m args meth c RX5 cX5_behindSpace 4 (some .int)) (Hr2 : ∀ (v0 : Nat) (v2 : Int32) (v3 : Int32) (f : AH) (n cells slots : Nat), cells + 0 ≤ 0 → slots + 0 ≤ 0 → rec2 v0 v2 v3 f n = some r → AW X p l e (RM 0 0 0) s m args below meth c 4 (ZM X below args s 0 0 (QHi r)) f n cells slots 2 [some (.ref v0), none, some (.int v2), some (.int v3)] []) (hc : cells + 0 ≤ 0) (hs : slots + 0 ≤ 0) (h : mX5_behindSpace_b44 rec2 v0 v2 v3 f n = some r) : AW X p l e (RM 0 0 0) s m args below meth c 4 (ZM X below args s 0 0 (QHi r)) f n cells slots 44 [some (.ref v0), none, some (.int v2), some (.int v3)] [] := by
  have h : rec2 v0 v2 (v3 + (1 : Int32)) f n = some r := h
  refine aw_iinc C (v3 + (1 : Int32)) dX5_behindSpace_44 rfl (by rw [ki_1]) (by decide) rfl ?_
  refine aw_nl [some (.ref v0), none, some (.int v2), some (.int (v3 + (1 : Int32)))] rfl ?_
  refine aw_goto C 2 dX5_behindSpace_47 (by decide) ?_
  refine aw_fl [some (.ref v0), none, some (.int v2), some (.int (v3 + (1 : Int32)))] ⟨rfl, ⟨rfl, ⟨rfl, trivial⟩⟩⟩ ?_
  exact Hr2 v0 v2 (v3 + (1 : Int32)) f n _ _ (by omega) (by omega) h
def mX5_behindSpace_l2 : Nat → Nat → Int32 → Int32 → AH → Nat → Option (Int32 × HpN)
  | 0, _, _, _, _, _ => none
  | d + 1, v0, v2, v3, f, n => (if v3 < (0 : Int32) then mX5_behindSpace_b50 v2 f n else (if v2 ≤ v3 then mX5_behindSpace_b50 v2 f n else ((gR f v0 5 0).bind fun x1 => ((x1).bind fun j2 => ((gL f j2).bind fun x3 => (if (nI x3) ≤ v3 then mX5_behindSpace_b50 v2 f n else ((gR f v0 5 0).bind fun x4 => ((x4).bind fun j5 => ((gIA f j5 v3).bind fun x6 => (if x6 = (32 : Int32) then mX5_behindSpace_b44 (fun v0 v2 v3 f n => mX5_behindSpace_l2 d v0 v2 v3 f n) v0 v2 v3 f n else ((gR f v0 5 0).bind fun x7 => ((x7).bind fun j8 => ((gIA f j8 v3).bind fun x9 => (if x9 = (10 : Int32) then mX5_behindSpace_b44 (fun v0 v2 v3 f n => mX5_behindSpace_l2 d v0 v2 v3 f n) v0 v2 v3 f n else some (v3, (f, n))))))))))))))))
set_option maxHeartbeats 1000000 in
theorem rmX5_behindSpace_l2 {X : GX} {p : Program} {l : Launch} {e : Env} {s : State} {m : MethodId} {args : Array Value} {below : List Frame} {meth : Method} {c : Code} {r : Int32 × HpN} (C : CC X p l (RM 0 0 0) s m args meth c RX5 cX5_behindSpace 4 (some .int)) : ∀ (d : Nat) (v0 : Nat) (v2 : Int32) (v3 : Int32) (f : AH) (n cells slots : Nat) (_ : cells + 0 ≤ 0) (_ : slots + 0 ≤ 0) (_ : mX5_behindSpace_l2 d v0 v2 v3 f n = some r), AW X p l e (RM 0 0 0) s m args below meth c 4 (ZM X below args s 0 0 (QHi r)) f n cells slots 2 [some (.ref v0), none, some (.int v2), some (.int v3)] [] := by
  intro d
  induction d with
  | zero =>
    intro v0 v2 v3 f n cells slots hc hs h
    exact nomatch (show (none : Option (Int32 × HpN)) = some r from h)
  | succ d ih =>
    intro v0 v2 v3 f n cells slots hc hs h
    have h : (if v3 < (0 : Int32) then mX5_behindSpace_b50 v2 f n else (if v2 ≤ v3 then mX5_behindSpace_b50 v2 f n else ((gR f v0 5 0).bind fun x1 => ((x1).bind fun j2 => ((gL f j2).bind fun x3 => (if (nI x3) ≤ v3 then mX5_behindSpace_b50 v2 f n else ((gR f v0 5 0).bind fun x4 => ((x4).bind fun j5 => ((gIA f j5 v3).bind fun x6 => (if x6 = (32 : Int32) then mX5_behindSpace_b44 (fun v0 v2 v3 f n => mX5_behindSpace_l2 d v0 v2 v3 f n) v0 v2 v3 f n else ((gR f v0 5 0).bind fun x7 => ((x7).bind fun j8 => ((gIA f j8 v3).bind fun x9 => (if x9 = (10 : Int32) then mX5_behindSpace_b44 (fun v0 v2 v3 f n => mX5_behindSpace_l2 d v0 v2 v3 f n) v0 v2 v3 f n else some (v3, (f, n)))))))))))))))) = some r := h
    refine aw_iload_n C dX5_behindSpace_2 rfl ?_
    refine aw_if_lt C 50 dX5_behindSpace_3 (by decide) (fun q => ?_) (fun q => ?_)
    · rw [if_pos q] at h
      refine aw_fl [none, none, some (.int v2), none] ⟨rfl, trivial⟩ ?_
      exact rmX5_behindSpace_b50 C (by omega) (by omega) h
    · rw [if_neg q] at h
      refine aw_iload_n C dX5_behindSpace_6 rfl ?_
      refine aw_iload_n C dX5_behindSpace_7 rfl ?_
      refine aw_icmp_ge C 50 dX5_behindSpace_8 (by decide) (fun q => ?_) (fun q => ?_)
      · rw [if_pos q] at h
        refine aw_fl [none, none, some (.int v2), none] ⟨rfl, trivial⟩ ?_
        exact rmX5_behindSpace_b50 C (by omega) (by omega) h
      · rw [if_neg q] at h
        refine aw_iload_n C dX5_behindSpace_11 rfl ?_
        refine aw_ald_n C dX5_behindSpace_12 rfl ?_
        obtain ⟨x1, hx1, h⟩ := Option.bind_eq_some_iff.mp h
        refine ah_getR C gf_X5_9 hx1 dX5_behindSpace_13 ?_
        obtain ⟨j2, hj2, h⟩ := Option.bind_eq_some_iff.mp h
        rw [hj2]
        obtain ⟨x3, hx3, h⟩ := Option.bind_eq_some_iff.mp h
        refine ah_len C hx3 dX5_behindSpace_16 ?_
        refine aw_icmp_ge C 50 dX5_behindSpace_17 (by decide) (fun q => ?_) (fun q => ?_)
        · rw [if_pos q] at h
          refine aw_fl [none, none, some (.int v2), none] ⟨rfl, trivial⟩ ?_
          exact rmX5_behindSpace_b50 C (by omega) (by omega) h
        · rw [if_neg q] at h
          refine aw_ald_n C dX5_behindSpace_20 rfl ?_
          obtain ⟨x4, hx4, h⟩ := Option.bind_eq_some_iff.mp h
          refine ah_getR C gf_X5_9 hx4 dX5_behindSpace_21 ?_
          refine aw_iload_n C dX5_behindSpace_24 rfl ?_
          obtain ⟨j5, hj5, h⟩ := Option.bind_eq_some_iff.mp h
          rw [hj5]
          obtain ⟨x6, hx6, h⟩ := Option.bind_eq_some_iff.mp h
          refine ah_iald C hx6 dX5_behindSpace_25 ?_
          refine aw_bipush C 32 dX5_behindSpace_26 kb_32 ?_
          refine aw_icmp_eq C 44 dX5_behindSpace_28 (by decide) (fun q => ?_) (fun q => ?_)
          · rw [if_pos q] at h
            refine aw_fl [some (.ref v0), none, some (.int v2), some (.int v3)] ⟨rfl, ⟨rfl, ⟨rfl, trivial⟩⟩⟩ ?_
            exact rmX5_behindSpace_b44 C (fun v0 v2 v3 f n cells slots hc hs h => ih v0 v2 v3 f n cells slots hc hs h) (by omega) (by omega) h
          · rw [if_neg q] at h
            refine aw_ald_n C dX5_behindSpace_31 rfl ?_
            obtain ⟨x7, hx7, h⟩ := Option.bind_eq_some_iff.mp h
            refine ah_getR C gf_X5_9 hx7 dX5_behindSpace_32 ?_
            refine aw_iload_n C dX5_behindSpace_35 rfl ?_
            obtain ⟨j8, hj8, h⟩ := Option.bind_eq_some_iff.mp h
            rw [hj8]
            obtain ⟨x9, hx9, h⟩ := Option.bind_eq_some_iff.mp h
            refine ah_iald C hx9 dX5_behindSpace_36 ?_
            refine aw_bipush C 10 dX5_behindSpace_37 kb_10 ?_
            refine aw_icmp_eq C 44 dX5_behindSpace_39 (by decide) (fun q => ?_) (fun q => ?_)
            · rw [if_pos q] at h
              refine aw_fl [some (.ref v0), none, some (.int v2), some (.int v3)] ⟨rfl, ⟨rfl, ⟨rfl, trivial⟩⟩⟩ ?_
              exact rmX5_behindSpace_b44 C (fun v0 v2 v3 f n cells slots hc hs h => ih v0 v2 v3 f n cells slots hc hs h) (by omega) (by omega) h
            · rw [if_neg q] at h
              refine aw_iload_n C dX5_behindSpace_42 rfl ?_
              cases h
              exact aw_iret C rfl rfl dX5_behindSpace_43 (by omega) (by omega) ⟨rfl, rfl, rfl⟩
def mX5_behindSpace (v0 : Nat) (v1 : Int32) (v2 : Int32) (f : AH) (n : Nat) : Option (Int32 × HpN) := mX5_behindSpace_l2 rFU v0 v2 v1 f n
set_option maxHeartbeats 1000000 in
theorem rmX5_behindSpace {X : GX} {l : Launch} {r : Int32 × HpN} {v0 : Nat} {v1 : Int32} {v2 : Int32} {f : AH} {n : Nat} (h : mX5_behindSpace v0 v1 v2 f n = some r) : AM X l yX5_behindSpace cX5_behindSpace 4 (some .int) 0 0 0 [.ref v0, .int v1, .int v2] f n (QHi r) := by
  have h : mX5_behindSpace_l2 rFU v0 v2 v1 f n = some r := h
  refine AM.of (by decide +kernel) rfl (Nat.le_of_ble_eq_true rfl) (fun p e s m args below meth c C hnm => ?_)
  refine aw_nl [some (.ref v0), some (.int v1), some (.int v2), none] rfl ?_
  refine aw_iload_n C dX5_behindSpace_0 rfl ?_
  refine aw_istore_n C dX5_behindSpace_1 (by decide) rfl ?_
  refine aw_nl [some (.ref v0), some (.int v1), some (.int v2), some (.int v1)] rfl ?_
  refine aw_fl [some (.ref v0), none, some (.int v2), some (.int v1)] ⟨rfl, ⟨rfl, ⟨rfl, trivial⟩⟩⟩ ?_
  exact rmX5_behindSpace_l2 C rFU v0 v2 v1 f n _ _ (by omega) (by omega) h
end
/-! part 32ac.cls -/
section
def mX6_tryMarkup_b150 (v0 : Nat) (v1 : Int32) (f : AH) (n : Nat) : Option (Int32 × HpN) := ((pO f v0 6 9 (.int v1)).bind fun f1 => some ((0 : Int32), (f1, n)))
set_option maxHeartbeats 1000000 in
theorem rmX6_tryMarkup_b150 {X : GX} {p : Program} {l : Launch} {e : Env} {s : State} {m : MethodId} {args : Array Value} {below : List Frame} {meth : Method} {c : Code} {r : Int32 × HpN} {v0 : Nat} {v1 : Int32} {f : AH} {n cells slots : Nat} (C : CC X p l (RM 1 0 0) s m args meth c RX6 cX6_tryMarkup 3 none) (hc : cells + 0 ≤ 0) (hs : slots + 0 ≤ 0) (h : mX6_tryMarkup_b150 v0 v1 f n = some r) : AW X p l e (RM 1 0 0) s m args below meth c 3 (ZM X below args s 0 0 (QHv r)) f n cells slots 150 [some (.ref v0), some (.int v1), none] [] := by
  have h : ((pO f v0 6 9 (.int v1)).bind fun f1 => some ((0 : Int32), (f1, n))) = some r := h
  refine aw_ald_n C dX6_tryMarkup_150 rfl ?_
  refine aw_iload_n C dX6_tryMarkup_151 rfl ?_
  obtain ⟨f1, hf1, h⟩ := Option.bind_eq_some_iff.mp h
  refine ah_put C gf_X6_24 cf6 nf6_9 rfl rfl hf1 dX6_tryMarkup_152 ?_
  cases h
  exact aw_vret C rfl dX6_tryMarkup_155 (by omega) (by omega) ⟨rfl, rfl, rfl⟩
def mX6_tryMarkup_b139 (rec105 : Nat → Int32 → Int32 → AH → Nat → Option (Int32 × HpN)) (v0 : Nat) (v1 : Int32) (v2 : Int32) (f : AH) (n : Nat) : Option (Int32 × HpN) := ((pO f v0 6 2 (.int v2)).bind fun f1 => rec105 v0 v1 (v2 + (-1 : Int32)) f1 n)
set_option maxHeartbeats 1000000 in
theorem rmX6_tryMarkup_b139 {X : GX} {p : Program} {l : Launch} {e : Env} {s : State} {m : MethodId} {args : Array Value} {below : List Frame} {meth : Method} {c : Code} {r : Int32 × HpN} {rec105 : Nat → Int32 → Int32 → AH → Nat → Option (Int32 × HpN)} {v0 : Nat} {v1 : Int32} {v2 : Int32} {f : AH} {n cells slots : Nat} (C : CC X p l (RM 1 0 0) s m args meth c RX6 cX6_tryMarkup 3 none) (Hr105 : ∀ (v0 : Nat) (v1 : Int32) (v2 : Int32) (f : AH) (n cells slots : Nat), cells + 0 ≤ 0 → slots + 0 ≤ 0 → rec105 v0 v1 v2 f n = some r → AW X p l e (RM 1 0 0) s m args below meth c 3 (ZM X below args s 0 0 (QHv r)) f n cells slots 105 [some (.ref v0), some (.int v1), some (.int v2)] []) (hc : cells + 0 ≤ 0) (hs : slots + 0 ≤ 0) (h : mX6_tryMarkup_b139 rec105 v0 v1 v2 f n = some r) : AW X p l e (RM 1 0 0) s m args below meth c 3 (ZM X below args s 0 0 (QHv r)) f n cells slots 139 [some (.ref v0), some (.int v1), some (.int v2)] [] := by
  have h : ((pO f v0 6 2 (.int v2)).bind fun f1 => rec105 v0 v1 (v2 + (-1 : Int32)) f1 n) = some r := h
  refine aw_ald_n C dX6_tryMarkup_139 rfl ?_
  refine aw_iload_n C dX6_tryMarkup_140 rfl ?_
  obtain ⟨f1, hf1, h⟩ := Option.bind_eq_some_iff.mp h
  refine ah_put C gf_X6_56 cf6 nf6_2 rfl rfl hf1 dX6_tryMarkup_141 ?_
  refine aw_iinc C (v2 + (-1 : Int32)) dX6_tryMarkup_144 rfl (by rw [ki_m1]) (by decide) rfl ?_
  refine aw_nl [some (.ref v0), some (.int v1), some (.int (v2 + (-1 : Int32)))] rfl ?_
  refine aw_goto C 105 dX6_tryMarkup_147 (by decide) ?_
  refine aw_fl [some (.ref v0), some (.int v1), some (.int (v2 + (-1 : Int32)))] ⟨rfl, ⟨rfl, ⟨rfl, trivial⟩⟩⟩ ?_
  exact Hr105 v0 v1 (v2 + (-1 : Int32)) f1 n _ _ (by omega) (by omega) h
def mX6_tryMarkup_l105 : Nat → Nat → Int32 → Int32 → AH → Nat → Option (Int32 × HpN)
  | 0, _, _, _, _, _ => none
  | d + 1, v0, v1, v2, f, n => ((gI f v0 6 1).bind fun x1 => (if v2 ≤ x1 then mX6_tryMarkup_b150 v0 v1 f n else ((gR f v0 6 0).bind fun x2 => ((x2).bind fun j3 => rCk (isO f j3 5) (((mX5_get j3 v2 f n).bind fun r5 => (if r5.1 = (32 : Int32) then mX6_tryMarkup_b139 (fun v0 v1 v2 f n => mX6_tryMarkup_l105 d v0 v1 v2 f n) v0 v1 v2 r5.2.1 r5.2.2 else ((gR r5.2.1 v0 6 0).bind fun x7 => ((x7).bind fun j8 => rCk (isO r5.2.1 j8 5) (((mX5_get j8 v2 r5.2.1 r5.2.2).bind fun r10 => (if r10.1 = (10 : Int32) then mX6_tryMarkup_b139 (fun v0 v1 v2 f n => mX6_tryMarkup_l105 d v0 v1 v2 f n) v0 v1 v2 r10.2.1 r10.2.2 else mX6_tryMarkup_b150 v0 v1 r10.2.1 r10.2.2))))))))))))
set_option maxHeartbeats 1000000 in
theorem rmX6_tryMarkup_l105 {X : GX} {p : Program} {l : Launch} {e : Env} {s : State} {m : MethodId} {args : Array Value} {below : List Frame} {meth : Method} {c : Code} {r : Int32 × HpN} (C : CC X p l (RM 1 0 0) s m args meth c RX6 cX6_tryMarkup 3 none) : ∀ (d : Nat) (v0 : Nat) (v1 : Int32) (v2 : Int32) (f : AH) (n cells slots : Nat) (_ : cells + 0 ≤ 0) (_ : slots + 0 ≤ 0) (_ : mX6_tryMarkup_l105 d v0 v1 v2 f n = some r), AW X p l e (RM 1 0 0) s m args below meth c 3 (ZM X below args s 0 0 (QHv r)) f n cells slots 105 [some (.ref v0), some (.int v1), some (.int v2)] [] := by
  intro d
  induction d with
  | zero =>
    intro v0 v1 v2 f n cells slots hc hs h
    exact nomatch (show (none : Option (Int32 × HpN)) = some r from h)
  | succ d ih =>
    intro v0 v1 v2 f n cells slots hc hs h
    have h : ((gI f v0 6 1).bind fun x1 => (if v2 ≤ x1 then mX6_tryMarkup_b150 v0 v1 f n else ((gR f v0 6 0).bind fun x2 => ((x2).bind fun j3 => rCk (isO f j3 5) (((mX5_get j3 v2 f n).bind fun r5 => (if r5.1 = (32 : Int32) then mX6_tryMarkup_b139 (fun v0 v1 v2 f n => mX6_tryMarkup_l105 d v0 v1 v2 f n) v0 v1 v2 r5.2.1 r5.2.2 else ((gR r5.2.1 v0 6 0).bind fun x7 => ((x7).bind fun j8 => rCk (isO r5.2.1 j8 5) (((mX5_get j8 v2 r5.2.1 r5.2.2).bind fun r10 => (if r10.1 = (10 : Int32) then mX6_tryMarkup_b139 (fun v0 v1 v2 f n => mX6_tryMarkup_l105 d v0 v1 v2 f n) v0 v1 v2 r10.2.1 r10.2.2 else mX6_tryMarkup_b150 v0 v1 r10.2.1 r10.2.2)))))))))))) = some r := h
    refine aw_iload_n C dX6_tryMarkup_105 rfl ?_
    refine aw_ald_n C dX6_tryMarkup_106 rfl ?_
    obtain ⟨x1, hx1, h⟩ := Option.bind_eq_some_iff.mp h
    refine ah_getI C gf_X6_53 hx1 dX6_tryMarkup_107 ?_
    refine aw_icmp_le C 150 dX6_tryMarkup_110 (by decide) (fun q => ?_) (fun q => ?_)
    · rw [if_pos q] at h
      refine aw_fl [some (.ref v0), some (.int v1), none] ⟨rfl, ⟨rfl, trivial⟩⟩ ?_
      exact rmX6_tryMarkup_b150 C (by omega) (by omega) h
    · rw [if_neg q] at h
      refine aw_ald_n C dX6_tryMarkup_113 rfl ?_
      obtain ⟨x2, hx2, h⟩ := Option.bind_eq_some_iff.mp h
      refine ah_getR C gf_X6_14 hx2 dX6_tryMarkup_114 ?_
      refine aw_iload_n C dX6_tryMarkup_117 rfl ?_
      obtain ⟨j3, hj3, h⟩ := Option.bind_eq_some_iff.mp h
      rw [hj3]
      obtain ⟨hb4, h⟩ := ck_some h
      obtain ⟨r5, hr5, h⟩ := Option.bind_eq_some_iff.mp h
      obtain ⟨fs6, hf6⟩ := isO_ex hb4
      refine aw_callV C (ci := 5) (b := j3) [.int v2] mv_X6_67 rfl rfl hf6 (rmX5_get hr5) rfl dX6_tryMarkup_118 (Nat.le_of_ble_eq_true rfl) (Nat.le_of_ble_eq_true rfl) rfl (Nat.le_of_ble_eq_true rfl) (show cells + 0 ≤ 0 by omega) (show slots + 0 ≤ 0 by omega) (fun v9 f9 n9 hh => ?_)
      obtain ⟨rfl, rfl, rfl⟩ := hh
      refine aw_bipush C 32 dX6_tryMarkup_121 kb_32 ?_
      refine aw_icmp_eq C 139 dX6_tryMarkup_123 (by decide) (fun q => ?_) (fun q => ?_)
      · rw [if_pos q] at h
        refine aw_fl [some (.ref v0), some (.int v1), some (.int v2)] ⟨rfl, ⟨rfl, ⟨rfl, trivial⟩⟩⟩ ?_
        exact rmX6_tryMarkup_b139 C (fun v0 v1 v2 f n cells slots hc hs h => ih v0 v1 v2 f n cells slots hc hs h) (by omega) (by omega) h
      · rw [if_neg q] at h
        refine aw_ald_n C dX6_tryMarkup_126 rfl ?_
        obtain ⟨x7, hx7, h⟩ := Option.bind_eq_some_iff.mp h
        refine ah_getR C gf_X6_14 hx7 dX6_tryMarkup_127 ?_
        refine aw_iload_n C dX6_tryMarkup_130 rfl ?_
        obtain ⟨j8, hj8, h⟩ := Option.bind_eq_some_iff.mp h
        rw [hj8]
        obtain ⟨hb9, h⟩ := ck_some h
        obtain ⟨r10, hr10, h⟩ := Option.bind_eq_some_iff.mp h
        obtain ⟨fs11, hf11⟩ := isO_ex hb9
        refine aw_callV C (ci := 5) (b := j8) [.int v2] mv_X6_67 rfl rfl hf11 (rmX5_get hr10) rfl dX6_tryMarkup_131 (Nat.le_of_ble_eq_true rfl) (Nat.le_of_ble_eq_true rfl) rfl (Nat.le_of_ble_eq_true rfl) (show (cells + 0) + 0 ≤ 0 by omega) (show (slots + 0) + 0 ≤ 0 by omega) (fun v9 f9 n9 hh => ?_)
        obtain ⟨rfl, rfl, rfl⟩ := hh
        refine aw_bipush C 10 dX6_tryMarkup_134 kb_10 ?_
        refine aw_icmp_ne C 150 dX6_tryMarkup_136 (by decide) (fun q => ?_) (fun q => ?_)
        · rw [if_neg q] at h
          refine aw_fl [some (.ref v0), some (.int v1), none] ⟨rfl, ⟨rfl, trivial⟩⟩ ?_
          exact rmX6_tryMarkup_b150 C (by omega) (by omega) h
        · rw [if_pos q] at h
          refine aw_fl [some (.ref v0), some (.int v1), some (.int v2)] ⟨rfl, ⟨rfl, ⟨rfl, trivial⟩⟩⟩ ?_
          exact rmX6_tryMarkup_b139 C (fun v0 v1 v2 f n cells slots hc hs h => ih v0 v1 v2 f n cells slots hc hs h) (by omega) (by omega) h
def mX6_tryMarkup (v0 : Nat) (f : AH) (n : Nat) : Option (Int32 × HpN) := ((gI f v0 6 9).bind fun x1 => ((pO f v0 6 1 (.int x1)).bind fun f2 => ((gI f2 v0 6 9).bind fun x3 => ((pO f2 v0 6 2 (.int x3)).bind fun f4 => ((gR f4 v0 6 0).bind fun x5 => ((gI f4 v0 6 9).bind fun x6 => ((x5).bind fun j7 => rCk (isO f4 j7 5) (((mX5_get j7 x6 f4 n).bind fun r9 => (if r9.1 = (60 : Int32) then ((gR r9.2.1 v0 6 0).bind fun x30 => ((gI r9.2.1 v0 6 9).bind fun x31 => ((gR r9.2.1 v0 6 0).bind fun x32 => ((x32).bind fun j33 => rCk (isO r9.2.1 j33 5) (((mX5_size j33 r9.2.1 r9.2.2).bind fun r35 => ((x30).bind fun j37 => rCk (isO r35.2.1 j37 5) (((mX5_next j37 (62 : Int32) x31 r35.1 r35.2.1 r35.2.2).bind fun r39 => ((pO r39.2.1 v0 6 9 (.int (r39.1 + (1 : Int32)))).bind fun f41 => some ((0 : Int32), (f41, r39.2.2)))))))))))) else ((gR r9.2.1 v0 6 0).bind fun x11 => ((gI r9.2.1 v0 6 9).bind fun x12 => ((gR r9.2.1 v0 6 0).bind fun x13 => ((x13).bind fun j14 => rCk (isO r9.2.1 j14 5) (((mX5_size j14 r9.2.1 r9.2.2).bind fun r16 => ((x11).bind fun j18 => rCk (isO r16.2.1 j18 5) (((mX5_next j18 (60 : Int32) x12 r16.1 r16.2.1 r16.2.2).bind fun r20 => ((gR r20.2.1 v0 6 0).bind fun x22 => ((gI r20.2.1 v0 6 9).bind fun x23 => ((x22).bind fun j24 => rCk (isO r20.2.1 j24 5) (((mX5_behindSpace j24 x23 r20.1 r20.2.1 r20.2.2).bind fun r26 => ((pO r26.2.1 v0 6 1 (.int r26.1)).bind fun f28 => ((pO f28 v0 6 2 (.int r20.1)).bind fun f29 => mX6_tryMarkup_l105 rFU v0 r20.1 (r20.1 - (1 : Int32)) f29 r26.2.2))))))))))))))))))))))))))
set_option maxHeartbeats 1000000 in
theorem rmX6_tryMarkup {X : GX} {l : Launch} {r : Int32 × HpN} {v0 : Nat} {f : AH} {n : Nat} (h : mX6_tryMarkup v0 f n = some r) : AM X l yX6_tryMarkup cX6_tryMarkup 3 none 1 0 0 [.ref v0] f n (QHv r) := by
  have h : ((gI f v0 6 9).bind fun x1 => ((pO f v0 6 1 (.int x1)).bind fun f2 => ((gI f2 v0 6 9).bind fun x3 => ((pO f2 v0 6 2 (.int x3)).bind fun f4 => ((gR f4 v0 6 0).bind fun x5 => ((gI f4 v0 6 9).bind fun x6 => ((x5).bind fun j7 => rCk (isO f4 j7 5) (((mX5_get j7 x6 f4 n).bind fun r9 => (if r9.1 = (60 : Int32) then ((gR r9.2.1 v0 6 0).bind fun x30 => ((gI r9.2.1 v0 6 9).bind fun x31 => ((gR r9.2.1 v0 6 0).bind fun x32 => ((x32).bind fun j33 => rCk (isO r9.2.1 j33 5) (((mX5_size j33 r9.2.1 r9.2.2).bind fun r35 => ((x30).bind fun j37 => rCk (isO r35.2.1 j37 5) (((mX5_next j37 (62 : Int32) x31 r35.1 r35.2.1 r35.2.2).bind fun r39 => ((pO r39.2.1 v0 6 9 (.int (r39.1 + (1 : Int32)))).bind fun f41 => some ((0 : Int32), (f41, r39.2.2)))))))))))) else ((gR r9.2.1 v0 6 0).bind fun x11 => ((gI r9.2.1 v0 6 9).bind fun x12 => ((gR r9.2.1 v0 6 0).bind fun x13 => ((x13).bind fun j14 => rCk (isO r9.2.1 j14 5) (((mX5_size j14 r9.2.1 r9.2.2).bind fun r16 => ((x11).bind fun j18 => rCk (isO r16.2.1 j18 5) (((mX5_next j18 (60 : Int32) x12 r16.1 r16.2.1 r16.2.2).bind fun r20 => ((gR r20.2.1 v0 6 0).bind fun x22 => ((gI r20.2.1 v0 6 9).bind fun x23 => ((x22).bind fun j24 => rCk (isO r20.2.1 j24 5) (((mX5_behindSpace j24 x23 r20.1 r20.2.1 r20.2.2).bind fun r26 => ((pO r26.2.1 v0 6 1 (.int r26.1)).bind fun f28 => ((pO f28 v0 6 2 (.int r20.1)).bind fun f29 => mX6_tryMarkup_l105 rFU v0 r20.1 (r20.1 - (1 : Int32)) f29 r26.2.2)))))))))))))))))))))))))) = some r := h
  refine AM.of (by decide +kernel) rfl (Nat.le_of_ble_eq_true rfl) (fun p e s m args below meth c C hnm => ?_)
  refine aw_nl [some (.ref v0), none, none] rfl ?_
  refine aw_ald_n C dX6_tryMarkup_0 rfl ?_
  refine aw_ald_n C dX6_tryMarkup_1 rfl ?_
  obtain ⟨x1, hx1, h⟩ := Option.bind_eq_some_iff.mp h
  refine ah_getI C gf_X6_24 hx1 dX6_tryMarkup_2 ?_
  obtain ⟨f2, hf2, h⟩ := Option.bind_eq_some_iff.mp h
  refine ah_put C gf_X6_53 cf6 nf6_1 rfl rfl hf2 dX6_tryMarkup_5 ?_
  refine aw_ald_n C dX6_tryMarkup_8 rfl ?_
  refine aw_ald_n C dX6_tryMarkup_9 rfl ?_
  obtain ⟨x3, hx3, h⟩ := Option.bind_eq_some_iff.mp h
  refine ah_getI C gf_X6_24 hx3 dX6_tryMarkup_10 ?_
  obtain ⟨f4, hf4, h⟩ := Option.bind_eq_some_iff.mp h
  refine ah_put C gf_X6_56 cf6 nf6_2 rfl rfl hf4 dX6_tryMarkup_13 ?_
  refine aw_ald_n C dX6_tryMarkup_16 rfl ?_
  obtain ⟨x5, hx5, h⟩ := Option.bind_eq_some_iff.mp h
  refine ah_getR C gf_X6_14 hx5 dX6_tryMarkup_17 ?_
  refine aw_ald_n C dX6_tryMarkup_20 rfl ?_
  obtain ⟨x6, hx6, h⟩ := Option.bind_eq_some_iff.mp h
  refine ah_getI C gf_X6_24 hx6 dX6_tryMarkup_21 ?_
  obtain ⟨j7, hj7, h⟩ := Option.bind_eq_some_iff.mp h
  rw [hj7]
  obtain ⟨hb8, h⟩ := ck_some h
  obtain ⟨r9, hr9, h⟩ := Option.bind_eq_some_iff.mp h
  obtain ⟨fs10, hf10⟩ := isO_ex hb8
  refine aw_callV C (ci := 5) (b := j7) [.int x6] mv_X6_67 rfl rfl hf10 (rmX5_get hr9) rfl dX6_tryMarkup_24 (Nat.le_of_ble_eq_true rfl) (Nat.le_of_ble_eq_true rfl) rfl (Nat.le_of_ble_eq_true rfl) (show 0 + 0 ≤ 0 by omega) (show 0 + 0 ≤ 0 by omega) (fun v9 f9 n9 hh => ?_)
  obtain ⟨rfl, rfl, rfl⟩ := hh
  refine aw_bipush C 60 dX6_tryMarkup_27 kb_60 ?_
  refine aw_icmp_ne C 59 dX6_tryMarkup_29 (by decide) (fun q => ?_) (fun q => ?_)
  · rw [if_neg q] at h
    refine aw_ald_n C dX6_tryMarkup_59 rfl ?_
    obtain ⟨x11, hx11, h⟩ := Option.bind_eq_some_iff.mp h
    refine ah_getR C gf_X6_14 hx11 dX6_tryMarkup_60 ?_
    refine aw_bipush C 60 dX6_tryMarkup_63 kb_60 ?_
    refine aw_ald_n C dX6_tryMarkup_65 rfl ?_
    obtain ⟨x12, hx12, h⟩ := Option.bind_eq_some_iff.mp h
    refine ah_getI C gf_X6_24 hx12 dX6_tryMarkup_66 ?_
    refine aw_ald_n C dX6_tryMarkup_69 rfl ?_
    obtain ⟨x13, hx13, h⟩ := Option.bind_eq_some_iff.mp h
    refine ah_getR C gf_X6_14 hx13 dX6_tryMarkup_70 ?_
    obtain ⟨j14, hj14, h⟩ := Option.bind_eq_some_iff.mp h
    rw [hj14]
    obtain ⟨hb15, h⟩ := ck_some h
    obtain ⟨r16, hr16, h⟩ := Option.bind_eq_some_iff.mp h
    obtain ⟨fs17, hf17⟩ := isO_ex hb15
    refine aw_callV C (ci := 5) (b := j14) [] mv_X6_37 rfl rfl hf17 (rmX5_size hr16) rfl dX6_tryMarkup_73 (Nat.le_of_ble_eq_true rfl) (Nat.le_of_ble_eq_true rfl) rfl (cs_1 rfl (cs_1 rfl (cs_1 (rf_cat _) cs_0))) (show (0 + 0) + 0 ≤ 0 by omega) (show (0 + 0) + 0 ≤ 0 by omega) (fun v9 f9 n9 hh => ?_)
    obtain ⟨rfl, rfl, rfl⟩ := hh
    obtain ⟨j18, hj18, h⟩ := Option.bind_eq_some_iff.mp h
    rw [hj18]
    obtain ⟨hb19, h⟩ := ck_some h
    obtain ⟨r20, hr20, h⟩ := Option.bind_eq_some_iff.mp h
    obtain ⟨fs21, hf21⟩ := isO_ex hb19
    refine aw_callV C (ci := 5) (b := j18) [.int (60 : Int32), .int x12, .int r16.1] mv_X6_59 rfl rfl hf21 (rmX5_next hr20) rfl dX6_tryMarkup_76 (Nat.le_of_ble_eq_true rfl) (Nat.le_of_ble_eq_true rfl) rfl (Nat.le_of_ble_eq_true rfl) (show ((0 + 0) + 0) + 0 ≤ 0 by omega) (show ((0 + 0) + 0) + 0 ≤ 0 by omega) (fun v9 f9 n9 hh => ?_)
    obtain ⟨rfl, rfl, rfl⟩ := hh
    refine aw_istore_n C dX6_tryMarkup_79 (by decide) rfl ?_
    refine aw_nl [some (.ref v0), some (.int r20.1), none] rfl ?_
    refine aw_ald_n C dX6_tryMarkup_80 rfl ?_
    refine aw_ald_n C dX6_tryMarkup_81 rfl ?_
    obtain ⟨x22, hx22, h⟩ := Option.bind_eq_some_iff.mp h
    refine ah_getR C gf_X6_14 hx22 dX6_tryMarkup_82 ?_
    refine aw_ald_n C dX6_tryMarkup_85 rfl ?_
    obtain ⟨x23, hx23, h⟩ := Option.bind_eq_some_iff.mp h
    refine ah_getI C gf_X6_24 hx23 dX6_tryMarkup_86 ?_
    refine aw_iload_n C dX6_tryMarkup_89 rfl ?_
    obtain ⟨j24, hj24, h⟩ := Option.bind_eq_some_iff.mp h
    rw [hj24]
    obtain ⟨hb25, h⟩ := ck_some h
    obtain ⟨r26, hr26, h⟩ := Option.bind_eq_some_iff.mp h
    obtain ⟨fs27, hf27⟩ := isO_ex hb25
    refine aw_callV C (ci := 5) (b := j24) [.int x23, .int r20.1] mv_X6_77 rfl rfl hf27 (rmX5_behindSpace hr26) rfl dX6_tryMarkup_90 (Nat.le_of_ble_eq_true rfl) (Nat.le_of_ble_eq_true rfl) rfl (Nat.le_of_ble_eq_true rfl) (show (((0 + 0) + 0) + 0) + 0 ≤ 0 by omega) (show (((0 + 0) + 0) + 0) + 0 ≤ 0 by omega) (fun v9 f9 n9 hh => ?_)
    obtain ⟨rfl, rfl, rfl⟩ := hh
    obtain ⟨f28, hf28, h⟩ := Option.bind_eq_some_iff.mp h
    refine ah_put C gf_X6_53 cf6 nf6_1 rfl rfl hf28 dX6_tryMarkup_93 ?_
    refine aw_ald_n C dX6_tryMarkup_96 rfl ?_
    refine aw_iload_n C dX6_tryMarkup_97 rfl ?_
    obtain ⟨f29, hf29, h⟩ := Option.bind_eq_some_iff.mp h
    refine ah_put C gf_X6_56 cf6 nf6_2 rfl rfl hf29 dX6_tryMarkup_98 ?_
    refine aw_iload_n C dX6_tryMarkup_101 rfl ?_
    refine aw_iconst C 1 dX6_tryMarkup_102 ki_1 ?_
    refine aw_isub C dX6_tryMarkup_103 ?_
    refine aw_istore_n C dX6_tryMarkup_104 (by decide) rfl ?_
    refine aw_nl [some (.ref v0), some (.int r20.1), some (.int (r20.1 - (1 : Int32)))] rfl ?_
    refine aw_fl [some (.ref v0), some (.int r20.1), some (.int (r20.1 - (1 : Int32)))] ⟨rfl, ⟨rfl, ⟨rfl, trivial⟩⟩⟩ ?_
    exact rmX6_tryMarkup_l105 C rFU v0 r20.1 (r20.1 - (1 : Int32)) f29 r26.2.2 _ _ (by omega) (by omega) h
  · rw [if_pos q] at h
    refine aw_ald_n C dX6_tryMarkup_32 rfl ?_
    refine aw_ald_n C dX6_tryMarkup_33 rfl ?_
    obtain ⟨x30, hx30, h⟩ := Option.bind_eq_some_iff.mp h
    refine ah_getR C gf_X6_14 hx30 dX6_tryMarkup_34 ?_
    refine aw_bipush C 62 dX6_tryMarkup_37 kb_62 ?_
    refine aw_ald_n C dX6_tryMarkup_39 rfl ?_
    obtain ⟨x31, hx31, h⟩ := Option.bind_eq_some_iff.mp h
    refine ah_getI C gf_X6_24 hx31 dX6_tryMarkup_40 ?_
    refine aw_ald_n C dX6_tryMarkup_43 rfl ?_
    obtain ⟨x32, hx32, h⟩ := Option.bind_eq_some_iff.mp h
    refine ah_getR C gf_X6_14 hx32 dX6_tryMarkup_44 ?_
    obtain ⟨j33, hj33, h⟩ := Option.bind_eq_some_iff.mp h
    rw [hj33]
    obtain ⟨hb34, h⟩ := ck_some h
    obtain ⟨r35, hr35, h⟩ := Option.bind_eq_some_iff.mp h
    obtain ⟨fs36, hf36⟩ := isO_ex hb34
    refine aw_callV C (ci := 5) (b := j33) [] mv_X6_37 rfl rfl hf36 (rmX5_size hr35) rfl dX6_tryMarkup_47 (Nat.le_of_ble_eq_true rfl) (Nat.le_of_ble_eq_true rfl) rfl (cs_1 rfl (cs_1 rfl (cs_1 (rf_cat _) (cs_1 rfl cs_0)))) (show (0 + 0) + 0 ≤ 0 by omega) (show (0 + 0) + 0 ≤ 0 by omega) (fun v9 f9 n9 hh => ?_)
    obtain ⟨rfl, rfl, rfl⟩ := hh
    obtain ⟨j37, hj37, h⟩ := Option.bind_eq_some_iff.mp h
    rw [hj37]
    obtain ⟨hb38, h⟩ := ck_some h
    obtain ⟨r39, hr39, h⟩ := Option.bind_eq_some_iff.mp h
    obtain ⟨fs40, hf40⟩ := isO_ex hb38
    refine aw_callV C (ci := 5) (b := j37) [.int (62 : Int32), .int x31, .int r35.1] mv_X6_59 rfl rfl hf40 (rmX5_next hr39) rfl dX6_tryMarkup_50 (Nat.le_of_ble_eq_true rfl) (Nat.le_of_ble_eq_true rfl) rfl (Nat.le_of_ble_eq_true rfl) (show ((0 + 0) + 0) + 0 ≤ 0 by omega) (show ((0 + 0) + 0) + 0 ≤ 0 by omega) (fun v9 f9 n9 hh => ?_)
    obtain ⟨rfl, rfl, rfl⟩ := hh
    refine aw_iconst C 1 dX6_tryMarkup_53 ki_1 ?_
    refine aw_iadd C dX6_tryMarkup_54 ?_
    obtain ⟨f41, hf41, h⟩ := Option.bind_eq_some_iff.mp h
    refine ah_put C gf_X6_24 cf6 nf6_9 rfl rfl hf41 dX6_tryMarkup_55 ?_
    cases h
    exact aw_vret C rfl dX6_tryMarkup_58 (by omega) (by omega) ⟨rfl, rfl, rfl⟩
def mX5_quoteEnd_b69 (v0 : Nat) (f : AH) (n : Nat) : Option (Int32 × HpN) := ((gI f v0 5 1).bind fun x1 => some (x1, (f, n)))
set_option maxHeartbeats 1000000 in
theorem rmX5_quoteEnd_b69 {X : GX} {p : Program} {l : Launch} {e : Env} {s : State} {m : MethodId} {args : Array Value} {below : List Frame} {meth : Method} {c : Code} {r : Int32 × HpN} {v0 : Nat} {f : AH} {n cells slots : Nat} (C : CC X p l (RM 0 0 0) s m args meth c RX5 cX5_quoteEnd 4 (some .int)) (hc : cells + 0 ≤ 0) (hs : slots + 0 ≤ 0) (h : mX5_quoteEnd_b69 v0 f n = some r) : AW X p l e (RM 0 0 0) s m args below meth c 4 (ZM X below args s 0 0 (QHi r)) f n cells slots 69 [some (.ref v0), none, none, none] [] := by
  have h : ((gI f v0 5 1).bind fun x1 => some (x1, (f, n))) = some r := h
  refine aw_ald_n C dX5_quoteEnd_69 rfl ?_
  obtain ⟨x1, hx1, h⟩ := Option.bind_eq_some_iff.mp h
  refine ah_getI C gf_X5_15 hx1 dX5_quoteEnd_70 ?_
  cases h
  exact aw_iret C rfl rfl dX5_quoteEnd_73 (by omega) (by omega) ⟨rfl, rfl, rfl⟩
def mX5_quoteEnd_b62 (rec4 : Nat → Int32 → Int32 → AH → Nat → Option (Int32 × HpN)) (v0 : Nat) (v3 : Int32) (s0 : Int32) (f : AH) (n : Nat) : Option (Int32 × HpN) := rec4 v0 s0 (v3 + (1 : Int32)) f n
set_option maxHeartbeats 1000000 in
theorem rmX5_quoteEnd_b62 {X : GX} {p : Program} {l : Launch} {e : Env} {s : State} {m : MethodId} {args : Array Value} {below : List Frame} {meth : Method} {c : Code} {r : Int32 × HpN} {rec4 : Nat → Int32 → Int32 → AH → Nat → Option (Int32 × HpN)} {v0 : Nat} {v3 : Int32} {s0 : Int32} {f : AH} {n cells slots : Nat} (C : CC X p l (RM 0 0 0) s m args meth c RX5 cX5_quoteEnd 4 (some .int)) (Hr4 : ∀ (v0 : Nat) (v2 : Int32) (v3 : Int32) (f : AH) (n cells slots : Nat), cells + 0 ≤ 0 → slots + 0 ≤ 0 → rec4 v0 v2 v3 f n = some r → AW X p l e (RM 0 0 0) s m args below meth c 4 (ZM X below args s 0 0 (QHi r)) f n cells slots 4 [some (.ref v0), none, some (.int v2), some (.int v3)] []) (hc : cells + 0 ≤ 0) (hs : slots + 0 ≤ 0) (h : mX5_quoteEnd_b62 rec4 v0 v3 s0 f n = some r) : AW X p l e (RM 0 0 0) s m args below meth c 4 (ZM X below args s 0 0 (QHi r)) f n cells slots 62 [some (.ref v0), none, none, some (.int v3)] [.int s0] := by
  have h : rec4 v0 s0 (v3 + (1 : Int32)) f n = some r := h
  refine aw_istore_n C dX5_quoteEnd_62 (by decide) rfl ?_
  refine aw_nl [some (.ref v0), none, some (.int s0), some (.int v3)] rfl ?_
  refine aw_iinc C (v3 + (1 : Int32)) dX5_quoteEnd_63 rfl (by rw [ki_1]) (by decide) rfl ?_
  refine aw_nl [some (.ref v0), none, some (.int s0), some (.int (v3 + (1 : Int32)))] rfl ?_
  refine aw_goto C 4 dX5_quoteEnd_66 (by decide) ?_
  refine aw_fl [some (.ref v0), none, some (.int s0), some (.int (v3 + (1 : Int32)))] ⟨rfl, ⟨rfl, ⟨rfl, trivial⟩⟩⟩ ?_
  exact Hr4 v0 s0 (v3 + (1 : Int32)) f n _ _ (by omega) (by omega) h
def mX5_quoteEnd_b61 (rec4 : Nat → Int32 → Int32 → AH → Nat → Option (Int32 × HpN)) (v0 : Nat) (v3 : Int32) (f : AH) (n : Nat) : Option (Int32 × HpN) := mX5_quoteEnd_b62 rec4 v0 v3 (0 : Int32) f n
set_option maxHeartbeats 1000000 in
theorem rmX5_quoteEnd_b61 {X : GX} {p : Program} {l : Launch} {e : Env} {s : State} {m : MethodId} {args : Array Value} {below : List Frame} {meth : Method} {c : Code} {r : Int32 × HpN} {rec4 : Nat → Int32 → Int32 → AH → Nat → Option (Int32 × HpN)} {v0 : Nat} {v3 : Int32} {f : AH} {n cells slots : Nat} (C : CC X p l (RM 0 0 0) s m args meth c RX5 cX5_quoteEnd 4 (some .int)) (Hr4 : ∀ (v0 : Nat) (v2 : Int32) (v3 : Int32) (f : AH) (n cells slots : Nat), cells + 0 ≤ 0 → slots + 0 ≤ 0 → rec4 v0 v2 v3 f n = some r → AW X p l e (RM 0 0 0) s m args below meth c 4 (ZM X below args s 0 0 (QHi r)) f n cells slots 4 [some (.ref v0), none, some (.int v2), some (.int v3)] []) (hc : cells + 0 ≤ 0) (hs : slots + 0 ≤ 0) (h : mX5_quoteEnd_b61 rec4 v0 v3 f n = some r) : AW X p l e (RM 0 0 0) s m args below meth c 4 (ZM X below args s 0 0 (QHi r)) f n cells slots 61 [some (.ref v0), none, none, some (.int v3)] [] := by
  have h : mX5_quoteEnd_b62 rec4 v0 v3 (0 : Int32) f n = some r := h
  refine aw_iconst C 0 dX5_quoteEnd_61 ki_0 ?_
  refine aw_fl [some (.ref v0), none, none, some (.int v3)] ⟨rfl, ⟨rfl, trivial⟩⟩ ?_
  exact rmX5_quoteEnd_b62 C Hr4 (by omega) (by omega) h
def mX5_quoteEnd_b42 (rec4 : Nat → Int32 → Int32 → AH → Nat → Option (Int32 × HpN)) (v0 : Nat) (v2 : Int32) (v3 : Int32) (f : AH) (n : Nat) : Option (Int32 × HpN) := ((gR f v0 5 0).bind fun x1 => ((x1).bind fun j2 => ((gIA f j2 v3).bind fun x3 => (if x3 = (92 : Int32) then (if v2 = (0 : Int32) then mX5_quoteEnd_b62 rec4 v0 v3 (1 : Int32) f n else mX5_quoteEnd_b61 rec4 v0 v3 f n) else mX5_quoteEnd_b61 rec4 v0 v3 f n))))
set_option maxHeartbeats 1000000 in
theorem rmX5_quoteEnd_b42 {X : GX} {p : Program} {l : Launch} {e : Env} {s : State} {m : MethodId} {args : Array Value} {below : List Frame} {meth : Method} {c : Code} {r : Int32 × HpN} {rec4 : Nat → Int32 → Int32 → AH → Nat → Option (Int32 × HpN)} {v0 : Nat} {v2 : Int32} {v3 : Int32} {f : AH} {n cells slots : Nat} (C : CC X p l (RM 0 0 0) s m args meth c RX5 cX5_quoteEnd 4 (some .int)) (Hr4 : ∀ (v0 : Nat) (v2 : Int32) (v3 : Int32) (f : AH) (n cells slots : Nat), cells + 0 ≤ 0 → slots + 0 ≤ 0 → rec4 v0 v2 v3 f n = some r → AW X p l e (RM 0 0 0) s m args below meth c 4 (ZM X below args s 0 0 (QHi r)) f n cells slots 4 [some (.ref v0), none, some (.int v2), some (.int v3)] []) (hc : cells + 0 ≤ 0) (hs : slots + 0 ≤ 0) (h : mX5_quoteEnd_b42 rec4 v0 v2 v3 f n = some r) : AW X p l e (RM 0 0 0) s m args below meth c 4 (ZM X below args s 0 0 (QHi r)) f n cells slots 42 [some (.ref v0), none, some (.int v2), some (.int v3)] [] := by
  have h : ((gR f v0 5 0).bind fun x1 => ((x1).bind fun j2 => ((gIA f j2 v3).bind fun x3 => (if x3 = (92 : Int32) then (if v2 = (0 : Int32) then mX5_quoteEnd_b62 rec4 v0 v3 (1 : Int32) f n else mX5_quoteEnd_b61 rec4 v0 v3 f n) else mX5_quoteEnd_b61 rec4 v0 v3 f n)))) = some r := h
  refine aw_ald_n C dX5_quoteEnd_42 rfl ?_
  obtain ⟨x1, hx1, h⟩ := Option.bind_eq_some_iff.mp h
  refine ah_getR C gf_X5_9 hx1 dX5_quoteEnd_43 ?_
  refine aw_iload_n C dX5_quoteEnd_46 rfl ?_
  obtain ⟨j2, hj2, h⟩ := Option.bind_eq_some_iff.mp h
  rw [hj2]
  obtain ⟨x3, hx3, h⟩ := Option.bind_eq_some_iff.mp h
  refine ah_iald C hx3 dX5_quoteEnd_47 ?_
  refine aw_bipush C 92 dX5_quoteEnd_48 kb_92 ?_
  refine aw_icmp_ne C 61 dX5_quoteEnd_50 (by decide) (fun q => ?_) (fun q => ?_)
  · rw [if_neg q] at h
    refine aw_fl [some (.ref v0), none, none, some (.int v3)] ⟨rfl, ⟨rfl, trivial⟩⟩ ?_
    exact rmX5_quoteEnd_b61 C Hr4 (by omega) (by omega) h
  · rw [if_pos q] at h
    refine aw_iload_n C dX5_quoteEnd_53 rfl ?_
    refine aw_if_ne C 61 dX5_quoteEnd_54 (by decide) (fun q => ?_) (fun q => ?_)
    · rw [if_neg q] at h
      refine aw_fl [some (.ref v0), none, none, some (.int v3)] ⟨rfl, ⟨rfl, trivial⟩⟩ ?_
      exact rmX5_quoteEnd_b61 C Hr4 (by omega) (by omega) h
    · rw [if_pos q] at h
      refine aw_iconst C 1 dX5_quoteEnd_57 ki_1 ?_
      refine aw_goto C 62 dX5_quoteEnd_58 (by decide) ?_
      refine aw_fl [some (.ref v0), none, none, some (.int v3)] ⟨rfl, ⟨rfl, trivial⟩⟩ ?_
      exact rmX5_quoteEnd_b62 C Hr4 (by omega) (by omega) h
def mX5_quoteEnd_l4 : Nat → Nat → Int32 → Int32 → AH → Nat → Option (Int32 × HpN)
  | 0, _, _, _, _, _ => none
  | d + 1, v0, v2, v3, f, n => (if v3 < (0 : Int32) then mX5_quoteEnd_b69 v0 f n else ((gI f v0 5 1).bind fun x1 => (if x1 ≤ v3 then mX5_quoteEnd_b69 v0 f n else ((gR f v0 5 0).bind fun x2 => ((x2).bind fun j3 => ((gL f j3).bind fun x4 => (if (nI x4) ≤ v3 then mX5_quoteEnd_b69 v0 f n else ((gR f v0 5 0).bind fun x5 => ((x5).bind fun j6 => ((gIA f j6 v3).bind fun x7 => (if x7 = (34 : Int32) then (if v2 = (0 : Int32) then some (v3, (f, n)) else mX5_quoteEnd_b42 (fun v0 v2 v3 f n => mX5_quoteEnd_l4 d v0 v2 v3 f n) v0 v2 v3 f n) else mX5_quoteEnd_b42 (fun v0 v2 v3 f n => mX5_quoteEnd_l4 d v0 v2 v3 f n) v0 v2 v3 f n)))))))))))
set_option maxHeartbeats 1000000 in
theorem rmX5_quoteEnd_l4 {X : GX} {p : Program} {l : Launch} {e : Env} {s : State} {m : MethodId} {args : Array Value} {below : List Frame} {meth : Method} {c : Code} {r : Int32 × HpN} (C : CC X p l (RM 0 0 0) s m args meth c RX5 cX5_quoteEnd 4 (some .int)) : ∀ (d : Nat) (v0 : Nat) (v2 : Int32) (v3 : Int32) (f : AH) (n cells slots : Nat) (_ : cells + 0 ≤ 0) (_ : slots + 0 ≤ 0) (_ : mX5_quoteEnd_l4 d v0 v2 v3 f n = some r), AW X p l e (RM 0 0 0) s m args below meth c 4 (ZM X below args s 0 0 (QHi r)) f n cells slots 4 [some (.ref v0), none, some (.int v2), some (.int v3)] [] := by
  intro d
  induction d with
  | zero =>
    intro v0 v2 v3 f n cells slots hc hs h
    exact nomatch (show (none : Option (Int32 × HpN)) = some r from h)
  | succ d ih =>
    intro v0 v2 v3 f n cells slots hc hs h
    have h : (if v3 < (0 : Int32) then mX5_quoteEnd_b69 v0 f n else ((gI f v0 5 1).bind fun x1 => (if x1 ≤ v3 then mX5_quoteEnd_b69 v0 f n else ((gR f v0 5 0).bind fun x2 => ((x2).bind fun j3 => ((gL f j3).bind fun x4 => (if (nI x4) ≤ v3 then mX5_quoteEnd_b69 v0 f n else ((gR f v0 5 0).bind fun x5 => ((x5).bind fun j6 => ((gIA f j6 v3).bind fun x7 => (if x7 = (34 : Int32) then (if v2 = (0 : Int32) then some (v3, (f, n)) else mX5_quoteEnd_b42 (fun v0 v2 v3 f n => mX5_quoteEnd_l4 d v0 v2 v3 f n) v0 v2 v3 f n) else mX5_quoteEnd_b42 (fun v0 v2 v3 f n => mX5_quoteEnd_l4 d v0 v2 v3 f n) v0 v2 v3 f n))))))))))) = some r := h
    refine aw_iload_n C dX5_quoteEnd_4 rfl ?_
    refine aw_if_lt C 69 dX5_quoteEnd_5 (by decide) (fun q => ?_) (fun q => ?_)
    · rw [if_pos q] at h
      refine aw_fl [some (.ref v0), none, none, none] ⟨rfl, trivial⟩ ?_
      exact rmX5_quoteEnd_b69 C (by omega) (by omega) h
    · rw [if_neg q] at h
      refine aw_iload_n C dX5_quoteEnd_8 rfl ?_
      refine aw_ald_n C dX5_quoteEnd_9 rfl ?_
      obtain ⟨x1, hx1, h⟩ := Option.bind_eq_some_iff.mp h
      refine ah_getI C gf_X5_15 hx1 dX5_quoteEnd_10 ?_
      refine aw_icmp_ge C 69 dX5_quoteEnd_13 (by decide) (fun q => ?_) (fun q => ?_)
      · rw [if_pos q] at h
        refine aw_fl [some (.ref v0), none, none, none] ⟨rfl, trivial⟩ ?_
        exact rmX5_quoteEnd_b69 C (by omega) (by omega) h
      · rw [if_neg q] at h
        refine aw_iload_n C dX5_quoteEnd_16 rfl ?_
        refine aw_ald_n C dX5_quoteEnd_17 rfl ?_
        obtain ⟨x2, hx2, h⟩ := Option.bind_eq_some_iff.mp h
        refine ah_getR C gf_X5_9 hx2 dX5_quoteEnd_18 ?_
        obtain ⟨j3, hj3, h⟩ := Option.bind_eq_some_iff.mp h
        rw [hj3]
        obtain ⟨x4, hx4, h⟩ := Option.bind_eq_some_iff.mp h
        refine ah_len C hx4 dX5_quoteEnd_21 ?_
        refine aw_icmp_ge C 69 dX5_quoteEnd_22 (by decide) (fun q => ?_) (fun q => ?_)
        · rw [if_pos q] at h
          refine aw_fl [some (.ref v0), none, none, none] ⟨rfl, trivial⟩ ?_
          exact rmX5_quoteEnd_b69 C (by omega) (by omega) h
        · rw [if_neg q] at h
          refine aw_ald_n C dX5_quoteEnd_25 rfl ?_
          obtain ⟨x5, hx5, h⟩ := Option.bind_eq_some_iff.mp h
          refine ah_getR C gf_X5_9 hx5 dX5_quoteEnd_26 ?_
          refine aw_iload_n C dX5_quoteEnd_29 rfl ?_
          obtain ⟨j6, hj6, h⟩ := Option.bind_eq_some_iff.mp h
          rw [hj6]
          obtain ⟨x7, hx7, h⟩ := Option.bind_eq_some_iff.mp h
          refine ah_iald C hx7 dX5_quoteEnd_30 ?_
          refine aw_bipush C 34 dX5_quoteEnd_31 kb_34 ?_
          refine aw_icmp_ne C 42 dX5_quoteEnd_33 (by decide) (fun q => ?_) (fun q => ?_)
          · rw [if_neg q] at h
            refine aw_fl [some (.ref v0), none, some (.int v2), some (.int v3)] ⟨rfl, ⟨rfl, ⟨rfl, trivial⟩⟩⟩ ?_
            exact rmX5_quoteEnd_b42 C (fun v0 v2 v3 f n cells slots hc hs h => ih v0 v2 v3 f n cells slots hc hs h) (by omega) (by omega) h
          · rw [if_pos q] at h
            refine aw_iload_n C dX5_quoteEnd_36 rfl ?_
            refine aw_if_ne C 42 dX5_quoteEnd_37 (by decide) (fun q => ?_) (fun q => ?_)
            · rw [if_neg q] at h
              refine aw_fl [some (.ref v0), none, some (.int v2), some (.int v3)] ⟨rfl, ⟨rfl, ⟨rfl, trivial⟩⟩⟩ ?_
              exact rmX5_quoteEnd_b42 C (fun v0 v2 v3 f n cells slots hc hs h => ih v0 v2 v3 f n cells slots hc hs h) (by omega) (by omega) h
            · rw [if_pos q] at h
              refine aw_iload_n C dX5_quoteEnd_40 rfl ?_
              cases h
              exact aw_iret C rfl rfl dX5_quoteEnd_41 (by omega) (by omega) ⟨rfl, rfl, rfl⟩
def mX5_quoteEnd (v0 : Nat) (v1 : Int32) (f : AH) (n : Nat) : Option (Int32 × HpN) := mX5_quoteEnd_l4 rFU v0 (0 : Int32) v1 f n
set_option maxHeartbeats 1000000 in
theorem rmX5_quoteEnd {X : GX} {l : Launch} {r : Int32 × HpN} {v0 : Nat} {v1 : Int32} {f : AH} {n : Nat} (h : mX5_quoteEnd v0 v1 f n = some r) : AM X l yX5_quoteEnd cX5_quoteEnd 4 (some .int) 0 0 0 [.ref v0, .int v1] f n (QHi r) := by
  have h : mX5_quoteEnd_l4 rFU v0 (0 : Int32) v1 f n = some r := h
  refine AM.of (by decide +kernel) rfl (Nat.le_of_ble_eq_true rfl) (fun p e s m args below meth c C hnm => ?_)
  refine aw_nl [some (.ref v0), some (.int v1), none, none] rfl ?_
  refine aw_iconst C 0 dX5_quoteEnd_0 ki_0 ?_
  refine aw_istore_n C dX5_quoteEnd_1 (by decide) rfl ?_
  refine aw_nl [some (.ref v0), some (.int v1), some (.int (0 : Int32)), none] rfl ?_
  refine aw_iload_n C dX5_quoteEnd_2 rfl ?_
  refine aw_istore_n C dX5_quoteEnd_3 (by decide) rfl ?_
  refine aw_nl [some (.ref v0), some (.int v1), some (.int (0 : Int32)), some (.int v1)] rfl ?_
  refine aw_fl [some (.ref v0), none, some (.int (0 : Int32)), some (.int v1)] ⟨rfl, ⟨rfl, ⟨rfl, trivial⟩⟩⟩ ?_
  exact rmX5_quoteEnd_l4 C rFU v0 (0 : Int32) v1 f n _ _ (by omega) (by omega) h
def mX6_tryQuotes_b89 (f : AH) (n : Nat) : Option (Int32 × HpN) := some ((0 : Int32), (f, n))
set_option maxHeartbeats 1000000 in
theorem rmX6_tryQuotes_b89 {X : GX} {p : Program} {l : Launch} {e : Env} {s : State} {m : MethodId} {args : Array Value} {below : List Frame} {meth : Method} {c : Code} {r : Int32 × HpN} {f : AH} {n cells slots : Nat} (C : CC X p l (RM 1 0 0) s m args meth c RX6 cX6_tryQuotes 1 none) (hc : cells + 0 ≤ 0) (hs : slots + 0 ≤ 0) (h : mX6_tryQuotes_b89 f n = some r) : AW X p l e (RM 1 0 0) s m args below meth c 1 (ZM X below args s 0 0 (QHv r)) f n cells slots 89 [none] [] := by
  have h : some ((0 : Int32), (f, n)) = some r := h
  cases h
  exact aw_vret C rfl dX6_tryQuotes_89 (by omega) (by omega) ⟨rfl, rfl, rfl⟩
def mX6_tryQuotes (v0 : Nat) (f : AH) (n : Nat) : Option (Int32 × HpN) := ((gR f v0 6 0).bind fun x1 => ((gI f v0 6 9).bind fun x2 => ((gR f v0 6 0).bind fun x3 => ((x3).bind fun j4 => rCk (isO f j4 5) (((mX5_size j4 f n).bind fun r6 => ((x1).bind fun j8 => rCk (isO r6.2.1 j8 5) (((mX5_next j8 (34 : Int32) x2 r6.1 r6.2.1 r6.2.2).bind fun r10 => ((pO r10.2.1 v0 6 1 (.int (r10.1 + (1 : Int32)))).bind fun f12 => ((gR f12 v0 6 0).bind fun x13 => ((gI f12 v0 6 1).bind fun x14 => ((x13).bind fun j15 => rCk (isO f12 j15 5) (((mX5_quoteEnd j15 x14 f12 r10.2.2).bind fun r17 => ((pO r17.2.1 v0 6 2 (.int r17.1)).bind fun f19 => ((gI f19 v0 6 2).bind fun x20 => ((pO f19 v0 6 9 (.int (x20 + (1 : Int32)))).bind fun f21 => ((gR f21 v0 6 0).bind fun x22 => ((gR f21 v0 6 0).bind fun x23 => ((gI f21 v0 6 9).bind fun x24 => ((gR f21 v0 6 0).bind fun x25 => ((x25).bind fun j26 => rCk (isO f21 j26 5) (((mX5_size j26 f21 r17.2.2).bind fun r28 => ((x23).bind fun j30 => rCk (isO r28.2.1 j30 5) (((mX5_behindSpace j30 x24 r28.1 r28.2.1 r28.2.2).bind fun r32 => ((x22).bind fun j34 => rCk (isO r32.2.1 j34 5) (((mX5_get j34 r32.1 r32.2.1 r32.2.2).bind fun r36 => (if r36.1 = (58 : Int32) then ((gI r36.2.1 v0 6 1).bind fun x38 => ((pO r36.2.1 v0 6 2 (.int x38)).bind fun f39 => mX6_tryQuotes_b89 f39 r36.2.2)) else mX6_tryQuotes_b89 r36.2.1 r36.2.2))))))))))))))))))))))))))))))))
set_option maxHeartbeats 1000000 in
theorem rmX6_tryQuotes {X : GX} {l : Launch} {r : Int32 × HpN} {v0 : Nat} {f : AH} {n : Nat} (h : mX6_tryQuotes v0 f n = some r) : AM X l yX6_tryQuotes cX6_tryQuotes 1 none 1 0 0 [.ref v0] f n (QHv r) := by
  have h : ((gR f v0 6 0).bind fun x1 => ((gI f v0 6 9).bind fun x2 => ((gR f v0 6 0).bind fun x3 => ((x3).bind fun j4 => rCk (isO f j4 5) (((mX5_size j4 f n).bind fun r6 => ((x1).bind fun j8 => rCk (isO r6.2.1 j8 5) (((mX5_next j8 (34 : Int32) x2 r6.1 r6.2.1 r6.2.2).bind fun r10 => ((pO r10.2.1 v0 6 1 (.int (r10.1 + (1 : Int32)))).bind fun f12 => ((gR f12 v0 6 0).bind fun x13 => ((gI f12 v0 6 1).bind fun x14 => ((x13).bind fun j15 => rCk (isO f12 j15 5) (((mX5_quoteEnd j15 x14 f12 r10.2.2).bind fun r17 => ((pO r17.2.1 v0 6 2 (.int r17.1)).bind fun f19 => ((gI f19 v0 6 2).bind fun x20 => ((pO f19 v0 6 9 (.int (x20 + (1 : Int32)))).bind fun f21 => ((gR f21 v0 6 0).bind fun x22 => ((gR f21 v0 6 0).bind fun x23 => ((gI f21 v0 6 9).bind fun x24 => ((gR f21 v0 6 0).bind fun x25 => ((x25).bind fun j26 => rCk (isO f21 j26 5) (((mX5_size j26 f21 r17.2.2).bind fun r28 => ((x23).bind fun j30 => rCk (isO r28.2.1 j30 5) (((mX5_behindSpace j30 x24 r28.1 r28.2.1 r28.2.2).bind fun r32 => ((x22).bind fun j34 => rCk (isO r32.2.1 j34 5) (((mX5_get j34 r32.1 r32.2.1 r32.2.2).bind fun r36 => (if r36.1 = (58 : Int32) then ((gI r36.2.1 v0 6 1).bind fun x38 => ((pO r36.2.1 v0 6 2 (.int x38)).bind fun f39 => mX6_tryQuotes_b89 f39 r36.2.2)) else mX6_tryQuotes_b89 r36.2.1 r36.2.2)))))))))))))))))))))))))))))))) = some r := h
  refine AM.of (by decide +kernel) rfl (Nat.le_of_ble_eq_true rfl) (fun p e s m args below meth c C hnm => ?_)
  refine aw_nl [some (.ref v0)] rfl ?_
  refine aw_ald_n C dX6_tryQuotes_0 rfl ?_
  refine aw_ald_n C dX6_tryQuotes_1 rfl ?_
  obtain ⟨x1, hx1, h⟩ := Option.bind_eq_some_iff.mp h
  refine ah_getR C gf_X6_14 hx1 dX6_tryQuotes_2 ?_
  refine aw_bipush C 34 dX6_tryQuotes_5 kb_34 ?_
  refine aw_ald_n C dX6_tryQuotes_7 rfl ?_
  obtain ⟨x2, hx2, h⟩ := Option.bind_eq_some_iff.mp h
  refine ah_getI C gf_X6_24 hx2 dX6_tryQuotes_8 ?_
  refine aw_ald_n C dX6_tryQuotes_11 rfl ?_
  obtain ⟨x3, hx3, h⟩ := Option.bind_eq_some_iff.mp h
  refine ah_getR C gf_X6_14 hx3 dX6_tryQuotes_12 ?_
  obtain ⟨j4, hj4, h⟩ := Option.bind_eq_some_iff.mp h
  rw [hj4]
  obtain ⟨hb5, h⟩ := ck_some h
  obtain ⟨r6, hr6, h⟩ := Option.bind_eq_some_iff.mp h
  obtain ⟨fs7, hf7⟩ := isO_ex hb5
  refine aw_callV C (ci := 5) (b := j4) [] mv_X6_37 rfl rfl hf7 (rmX5_size hr6) rfl dX6_tryQuotes_15 (Nat.le_of_ble_eq_true rfl) (Nat.le_of_ble_eq_true rfl) rfl (cs_1 rfl (cs_1 rfl (cs_1 (rf_cat _) (cs_1 rfl cs_0)))) (show 0 + 0 ≤ 0 by omega) (show 0 + 0 ≤ 0 by omega) (fun v9 f9 n9 hh => ?_)
  obtain ⟨rfl, rfl, rfl⟩ := hh
  obtain ⟨j8, hj8, h⟩ := Option.bind_eq_some_iff.mp h
  rw [hj8]
  obtain ⟨hb9, h⟩ := ck_some h
  obtain ⟨r10, hr10, h⟩ := Option.bind_eq_some_iff.mp h
  obtain ⟨fs11, hf11⟩ := isO_ex hb9
  refine aw_callV C (ci := 5) (b := j8) [.int (34 : Int32), .int x2, .int r6.1] mv_X6_59 rfl rfl hf11 (rmX5_next hr10) rfl dX6_tryQuotes_18 (Nat.le_of_ble_eq_true rfl) (Nat.le_of_ble_eq_true rfl) rfl (Nat.le_of_ble_eq_true rfl) (show (0 + 0) + 0 ≤ 0 by omega) (show (0 + 0) + 0 ≤ 0 by omega) (fun v9 f9 n9 hh => ?_)
  obtain ⟨rfl, rfl, rfl⟩ := hh
  refine aw_iconst C 1 dX6_tryQuotes_21 ki_1 ?_
  refine aw_iadd C dX6_tryQuotes_22 ?_
  obtain ⟨f12, hf12, h⟩ := Option.bind_eq_some_iff.mp h
  refine ah_put C gf_X6_53 cf6 nf6_1 rfl rfl hf12 dX6_tryQuotes_23 ?_
  refine aw_ald_n C dX6_tryQuotes_26 rfl ?_
  refine aw_ald_n C dX6_tryQuotes_27 rfl ?_
  obtain ⟨x13, hx13, h⟩ := Option.bind_eq_some_iff.mp h
  refine ah_getR C gf_X6_14 hx13 dX6_tryQuotes_28 ?_
  refine aw_ald_n C dX6_tryQuotes_31 rfl ?_
  obtain ⟨x14, hx14, h⟩ := Option.bind_eq_some_iff.mp h
  refine ah_getI C gf_X6_53 hx14 dX6_tryQuotes_32 ?_
  obtain ⟨j15, hj15, h⟩ := Option.bind_eq_some_iff.mp h
  rw [hj15]
  obtain ⟨hb16, h⟩ := ck_some h
  obtain ⟨r17, hr17, h⟩ := Option.bind_eq_some_iff.mp h
  obtain ⟨fs18, hf18⟩ := isO_ex hb16
  refine aw_callV C (ci := 5) (b := j15) [.int x14] mv_X6_80 rfl rfl hf18 (rmX5_quoteEnd hr17) rfl dX6_tryQuotes_35 (Nat.le_of_ble_eq_true rfl) (Nat.le_of_ble_eq_true rfl) rfl (Nat.le_of_ble_eq_true rfl) (show ((0 + 0) + 0) + 0 ≤ 0 by omega) (show ((0 + 0) + 0) + 0 ≤ 0 by omega) (fun v9 f9 n9 hh => ?_)
  obtain ⟨rfl, rfl, rfl⟩ := hh
  obtain ⟨f19, hf19, h⟩ := Option.bind_eq_some_iff.mp h
  refine ah_put C gf_X6_56 cf6 nf6_2 rfl rfl hf19 dX6_tryQuotes_38 ?_
  refine aw_ald_n C dX6_tryQuotes_41 rfl ?_
  refine aw_ald_n C dX6_tryQuotes_42 rfl ?_
  obtain ⟨x20, hx20, h⟩ := Option.bind_eq_some_iff.mp h
  refine ah_getI C gf_X6_56 hx20 dX6_tryQuotes_43 ?_
  refine aw_iconst C 1 dX6_tryQuotes_46 ki_1 ?_
  refine aw_iadd C dX6_tryQuotes_47 ?_
  obtain ⟨f21, hf21, h⟩ := Option.bind_eq_some_iff.mp h
  refine ah_put C gf_X6_24 cf6 nf6_9 rfl rfl hf21 dX6_tryQuotes_48 ?_
  refine aw_ald_n C dX6_tryQuotes_51 rfl ?_
  obtain ⟨x22, hx22, h⟩ := Option.bind_eq_some_iff.mp h
  refine ah_getR C gf_X6_14 hx22 dX6_tryQuotes_52 ?_
  refine aw_ald_n C dX6_tryQuotes_55 rfl ?_
  obtain ⟨x23, hx23, h⟩ := Option.bind_eq_some_iff.mp h
  refine ah_getR C gf_X6_14 hx23 dX6_tryQuotes_56 ?_
  refine aw_ald_n C dX6_tryQuotes_59 rfl ?_
  obtain ⟨x24, hx24, h⟩ := Option.bind_eq_some_iff.mp h
  refine ah_getI C gf_X6_24 hx24 dX6_tryQuotes_60 ?_
  refine aw_ald_n C dX6_tryQuotes_63 rfl ?_
  obtain ⟨x25, hx25, h⟩ := Option.bind_eq_some_iff.mp h
  refine ah_getR C gf_X6_14 hx25 dX6_tryQuotes_64 ?_
  obtain ⟨j26, hj26, h⟩ := Option.bind_eq_some_iff.mp h
  rw [hj26]
  obtain ⟨hb27, h⟩ := ck_some h
  obtain ⟨r28, hr28, h⟩ := Option.bind_eq_some_iff.mp h
  obtain ⟨fs29, hf29⟩ := isO_ex hb27
  refine aw_callV C (ci := 5) (b := j26) [] mv_X6_37 rfl rfl hf29 (rmX5_size hr28) rfl dX6_tryQuotes_67 (Nat.le_of_ble_eq_true rfl) (Nat.le_of_ble_eq_true rfl) rfl (cs_1 rfl (cs_1 (rf_cat _) (cs_1 (rf_cat _) cs_0))) (show (((0 + 0) + 0) + 0) + 0 ≤ 0 by omega) (show (((0 + 0) + 0) + 0) + 0 ≤ 0 by omega) (fun v9 f9 n9 hh => ?_)
  obtain ⟨rfl, rfl, rfl⟩ := hh
  obtain ⟨j30, hj30, h⟩ := Option.bind_eq_some_iff.mp h
  rw [hj30]
  obtain ⟨hb31, h⟩ := ck_some h
  obtain ⟨r32, hr32, h⟩ := Option.bind_eq_some_iff.mp h
  obtain ⟨fs33, hf33⟩ := isO_ex hb31
  refine aw_callV C (ci := 5) (b := j30) [.int x24, .int r28.1] mv_X6_77 rfl rfl hf33 (rmX5_behindSpace hr32) rfl dX6_tryQuotes_70 (Nat.le_of_ble_eq_true rfl) (Nat.le_of_ble_eq_true rfl) rfl (cs_1 (rf_cat _) cs_0) (show ((((0 + 0) + 0) + 0) + 0) + 0 ≤ 0 by omega) (show ((((0 + 0) + 0) + 0) + 0) + 0 ≤ 0 by omega) (fun v9 f9 n9 hh => ?_)
  obtain ⟨rfl, rfl, rfl⟩ := hh
  obtain ⟨j34, hj34, h⟩ := Option.bind_eq_some_iff.mp h
  rw [hj34]
  obtain ⟨hb35, h⟩ := ck_some h
  obtain ⟨r36, hr36, h⟩ := Option.bind_eq_some_iff.mp h
  obtain ⟨fs37, hf37⟩ := isO_ex hb35
  refine aw_callV C (ci := 5) (b := j34) [.int r32.1] mv_X6_67 rfl rfl hf37 (rmX5_get hr36) rfl dX6_tryQuotes_73 (Nat.le_of_ble_eq_true rfl) (Nat.le_of_ble_eq_true rfl) rfl (Nat.le_of_ble_eq_true rfl) (show (((((0 + 0) + 0) + 0) + 0) + 0) + 0 ≤ 0 by omega) (show (((((0 + 0) + 0) + 0) + 0) + 0) + 0 ≤ 0 by omega) (fun v9 f9 n9 hh => ?_)
  obtain ⟨rfl, rfl, rfl⟩ := hh
  refine aw_bipush C 58 dX6_tryQuotes_76 kb_58 ?_
  refine aw_icmp_ne C 89 dX6_tryQuotes_78 (by decide) (fun q => ?_) (fun q => ?_)
  · rw [if_neg q] at h
    refine aw_fl [none] trivial ?_
    exact rmX6_tryQuotes_b89 C (by omega) (by omega) h
  · rw [if_pos q] at h
    refine aw_ald_n C dX6_tryQuotes_81 rfl ?_
    refine aw_ald_n C dX6_tryQuotes_82 rfl ?_
    obtain ⟨x38, hx38, h⟩ := Option.bind_eq_some_iff.mp h
    refine ah_getI C gf_X6_53 hx38 dX6_tryQuotes_83 ?_
    obtain ⟨f39, hf39, h⟩ := Option.bind_eq_some_iff.mp h
    refine ah_put C gf_X6_56 cf6 nf6_2 rfl rfl hf39 dX6_tryQuotes_86 ?_
    refine aw_fl [none] trivial ?_
    exact rmX6_tryQuotes_b89 C (by omega) (by omega) h
def mX6_next_b96 (f : AH) (n : Nat) : Option (Int32 × HpN) := rCk (rNb (0 : Int32)) (some ((0 : Int32), (f, n)))
set_option maxHeartbeats 1000000 in
theorem rmX6_next_b96 {X : GX} {p : Program} {l : Launch} {e : Env} {s : State} {m : MethodId} {args : Array Value} {below : List Frame} {meth : Method} {c : Code} {r : Int32 × HpN} {f : AH} {n cells slots : Nat} (C : CC X p l (RM 2 0 0) s m args meth c RX6 cX6_next 2 (some .boolean)) (hc : cells + 0 ≤ 0) (hs : slots + 0 ≤ 0) (h : mX6_next_b96 f n = some r) : AW X p l e (RM 2 0 0) s m args below meth c 2 (ZM X below args s 0 0 (QHi r)) f n cells slots 96 [none, none] [] := by
  have h : rCk (rNb (0 : Int32)) (some ((0 : Int32), (f, n))) = some r := h
  refine aw_iconst C 0 dX6_next_96 ki_0 ?_
  obtain ⟨hb1, h⟩ := ck_some h
  cases h
  exact aw_iret C rfl (nb_nar hb1) dX6_next_97 (by omega) (by omega) ⟨rfl, rfl, rfl⟩
def mX6_next_b77 (rec2 : Nat → Int32 → AH → Nat → Option (Int32 × HpN)) (v0 : Nat) (v1 : Int32) (f : AH) (n : Nat) : Option (Int32 × HpN) := ((gI f v0 6 1).bind fun x1 => ((gI f v0 6 2).bind fun x2 => (if x2 ≤ x1 then rec2 v0 (v1 + (1 : Int32)) f n else rCk (rNb (1 : Int32)) (some ((1 : Int32), (f, n))))))
set_option maxHeartbeats 1000000 in
theorem rmX6_next_b77 {X : GX} {p : Program} {l : Launch} {e : Env} {s : State} {m : MethodId} {args : Array Value} {below : List Frame} {meth : Method} {c : Code} {r : Int32 × HpN} {rec2 : Nat → Int32 → AH → Nat → Option (Int32 × HpN)} {v0 : Nat} {v1 : Int32} {f : AH} {n cells slots : Nat} (C : CC X p l (RM 2 0 0) s m args meth c RX6 cX6_next 2 (some .boolean)) (Hr2 : ∀ (v0 : Nat) (v1 : Int32) (f : AH) (n cells slots : Nat), cells + 0 ≤ 0 → slots + 0 ≤ 0 → rec2 v0 v1 f n = some r → AW X p l e (RM 2 0 0) s m args below meth c 2 (ZM X below args s 0 0 (QHi r)) f n cells slots 2 [some (.ref v0), some (.int v1)] []) (hc : cells + 0 ≤ 0) (hs : slots + 0 ≤ 0) (h : mX6_next_b77 rec2 v0 v1 f n = some r) : AW X p l e (RM 2 0 0) s m args below meth c 2 (ZM X below args s 0 0 (QHi r)) f n cells slots 77 [some (.ref v0), some (.int v1)] [] := by
  have h : ((gI f v0 6 1).bind fun x1 => ((gI f v0 6 2).bind fun x2 => (if x2 ≤ x1 then rec2 v0 (v1 + (1 : Int32)) f n else rCk (rNb (1 : Int32)) (some ((1 : Int32), (f, n)))))) = some r := h
  refine aw_ald_n C dX6_next_77 rfl ?_
  obtain ⟨x1, hx1, h⟩ := Option.bind_eq_some_iff.mp h
  refine ah_getI C gf_X6_53 hx1 dX6_next_78 ?_
  refine aw_ald_n C dX6_next_81 rfl ?_
  obtain ⟨x2, hx2, h⟩ := Option.bind_eq_some_iff.mp h
  refine ah_getI C gf_X6_56 hx2 dX6_next_82 ?_
  refine aw_icmp_ge C 90 dX6_next_85 (by decide) (fun q => ?_) (fun q => ?_)
  · rw [if_pos q] at h
    refine aw_iinc C (v1 + (1 : Int32)) dX6_next_90 rfl (by rw [ki_1]) (by decide) rfl ?_
    refine aw_nl [some (.ref v0), some (.int (v1 + (1 : Int32)))] rfl ?_
    refine aw_goto C 2 dX6_next_93 (by decide) ?_
    refine aw_fl [some (.ref v0), some (.int (v1 + (1 : Int32)))] ⟨rfl, ⟨rfl, trivial⟩⟩ ?_
    exact Hr2 v0 (v1 + (1 : Int32)) f n _ _ (by omega) (by omega) h
  · rw [if_neg q] at h
    refine aw_iconst C 1 dX6_next_88 ki_1 ?_
    obtain ⟨hb3, h⟩ := ck_some h
    cases h
    exact aw_iret C rfl (nb_nar hb3) dX6_next_89 (by omega) (by omega) ⟨rfl, rfl, rfl⟩
def mX6_next_l2 : Nat → Nat → Int32 → AH → Nat → Option (Int32 × HpN)
  | 0, _, _, _, _ => none
  | d + 1, v0, v1, f, n => (if (600 : Int32) < v1 then mX6_next_b96 f n else ((gI f v0 6 9).bind fun x1 => ((gR f v0 6 0).bind fun x2 => ((x2).bind fun j3 => rCk (isO f j3 5) (((mX5_size j3 f n).bind fun r5 => (if r5.1 ≤ x1 then mX6_next_b96 r5.2.1 r5.2.2 else ((gI r5.2.1 v0 6 8).bind fun x7 => (if x7 = (0 : Int32) then rCk (isO r5.2.1 v0 6) (((mX6_tryLine v0 r5.2.1 r5.2.2).bind fun r9 => mX6_next_b77 (fun v0 v1 f n => mX6_next_l2 d v0 v1 f n) v0 v1 r9.2.1 r9.2.2)) else if x7 = (1 : Int32) then rCk (isO r5.2.1 v0 6) (((mX6_tryCell v0 r5.2.1 r5.2.2).bind fun r12 => mX6_next_b77 (fun v0 v1 f n => mX6_next_l2 d v0 v1 f n) v0 v1 r12.2.1 r12.2.2)) else if x7 = (2 : Int32) then rCk (isO r5.2.1 v0 6) (((mX6_tryMarkup v0 r5.2.1 r5.2.2).bind fun r15 => mX6_next_b77 (fun v0 v1 f n => mX6_next_l2 d v0 v1 f n) v0 v1 r15.2.1 r15.2.2)) else rCk (isO r5.2.1 v0 6) (((mX6_tryQuotes v0 r5.2.1 r5.2.2).bind fun r18 => mX6_next_b77 (fun v0 v1 f n => mX6_next_l2 d v0 v1 f n) v0 v1 r18.2.1 r18.2.2)))))))))))
set_option maxHeartbeats 1000000 in
theorem rmX6_next_l2 {X : GX} {p : Program} {l : Launch} {e : Env} {s : State} {m : MethodId} {args : Array Value} {below : List Frame} {meth : Method} {c : Code} {r : Int32 × HpN} (C : CC X p l (RM 2 0 0) s m args meth c RX6 cX6_next 2 (some .boolean)) : ∀ (d : Nat) (v0 : Nat) (v1 : Int32) (f : AH) (n cells slots : Nat) (_ : cells + 0 ≤ 0) (_ : slots + 0 ≤ 0) (_ : mX6_next_l2 d v0 v1 f n = some r), AW X p l e (RM 2 0 0) s m args below meth c 2 (ZM X below args s 0 0 (QHi r)) f n cells slots 2 [some (.ref v0), some (.int v1)] [] := by
  intro d
  induction d with
  | zero =>
    intro v0 v1 f n cells slots hc hs h
    exact nomatch (show (none : Option (Int32 × HpN)) = some r from h)
  | succ d ih =>
    intro v0 v1 f n cells slots hc hs h
    have h : (if (600 : Int32) < v1 then mX6_next_b96 f n else ((gI f v0 6 9).bind fun x1 => ((gR f v0 6 0).bind fun x2 => ((x2).bind fun j3 => rCk (isO f j3 5) (((mX5_size j3 f n).bind fun r5 => (if r5.1 ≤ x1 then mX6_next_b96 r5.2.1 r5.2.2 else ((gI r5.2.1 v0 6 8).bind fun x7 => (if x7 = (0 : Int32) then rCk (isO r5.2.1 v0 6) (((mX6_tryLine v0 r5.2.1 r5.2.2).bind fun r9 => mX6_next_b77 (fun v0 v1 f n => mX6_next_l2 d v0 v1 f n) v0 v1 r9.2.1 r9.2.2)) else if x7 = (1 : Int32) then rCk (isO r5.2.1 v0 6) (((mX6_tryCell v0 r5.2.1 r5.2.2).bind fun r12 => mX6_next_b77 (fun v0 v1 f n => mX6_next_l2 d v0 v1 f n) v0 v1 r12.2.1 r12.2.2)) else if x7 = (2 : Int32) then rCk (isO r5.2.1 v0 6) (((mX6_tryMarkup v0 r5.2.1 r5.2.2).bind fun r15 => mX6_next_b77 (fun v0 v1 f n => mX6_next_l2 d v0 v1 f n) v0 v1 r15.2.1 r15.2.2)) else rCk (isO r5.2.1 v0 6) (((mX6_tryQuotes v0 r5.2.1 r5.2.2).bind fun r18 => mX6_next_b77 (fun v0 v1 f n => mX6_next_l2 d v0 v1 f n) v0 v1 r18.2.1 r18.2.2))))))))))) = some r := h
    refine aw_iload_n C dX6_next_2 rfl ?_
    refine aw_sipush C 600 dX6_next_3 ks_600 ?_
    refine aw_icmp_gt C 96 dX6_next_6 (by decide) (fun q => ?_) (fun q => ?_)
    · rw [if_pos q] at h
      refine aw_fl [none, none] trivial ?_
      exact rmX6_next_b96 C (by omega) (by omega) h
    · rw [if_neg q] at h
      refine aw_ald_n C dX6_next_9 rfl ?_
      obtain ⟨x1, hx1, h⟩ := Option.bind_eq_some_iff.mp h
      refine ah_getI C gf_X6_24 hx1 dX6_next_10 ?_
      refine aw_ald_n C dX6_next_13 rfl ?_
      obtain ⟨x2, hx2, h⟩ := Option.bind_eq_some_iff.mp h
      refine ah_getR C gf_X6_14 hx2 dX6_next_14 ?_
      obtain ⟨j3, hj3, h⟩ := Option.bind_eq_some_iff.mp h
      rw [hj3]
      obtain ⟨hb4, h⟩ := ck_some h
      obtain ⟨r5, hr5, h⟩ := Option.bind_eq_some_iff.mp h
      obtain ⟨fs6, hf6⟩ := isO_ex hb4
      refine aw_callV C (ci := 5) (b := j3) [] mv_X6_37 rfl rfl hf6 (rmX5_size hr5) rfl dX6_next_17 (Nat.le_of_ble_eq_true rfl) (Nat.le_of_ble_eq_true rfl) rfl (Nat.le_of_ble_eq_true rfl) (show cells + 0 ≤ 0 by omega) (show slots + 0 ≤ 0 by omega) (fun v9 f9 n9 hh => ?_)
      obtain ⟨rfl, rfl, rfl⟩ := hh
      refine aw_icmp_ge C 96 dX6_next_20 (by decide) (fun q => ?_) (fun q => ?_)
      · rw [if_pos q] at h
        refine aw_fl [none, none] trivial ?_
        exact rmX6_next_b96 C (by omega) (by omega) h
      · rw [if_neg q] at h
        refine aw_ald_n C dX6_next_23 rfl ?_
        obtain ⟨x7, hx7, h⟩ := Option.bind_eq_some_iff.mp h
        refine ah_getI C gf_X6_20 hx7 dX6_next_24 ?_
        by_cases q : x7 = (0 : Int32)
        · rw [if_pos q] at h
          refine aw_top (0 : Int32) q ?_
          refine aw_tabIn C (off := 25) 52 dX6_next_27 (by decide) (by decide) (by decide) (by decide) ?_
          refine aw_ald_n C dX6_next_52 rfl ?_
          obtain ⟨hb8, h⟩ := ck_some h
          obtain ⟨r9, hr9, h⟩ := Option.bind_eq_some_iff.mp h
          obtain ⟨fs10, hf10⟩ := isO_ex hb8
          refine aw_callV C (ci := 6) (b := v0) [] mv_X6_41 rfl rfl hf10 (rmX6_tryLine hr9) rfl dX6_next_53 (Nat.le_of_ble_eq_true rfl) (Nat.le_of_ble_eq_true rfl) rfl (Nat.le_of_ble_eq_true rfl) (show (cells + 0) + 0 ≤ 0 by omega) (show (slots + 0) + 0 ≤ 0 by omega) (fun v9 f9 n9 hh => ?_)
          obtain ⟨rfl, rfl, rfl⟩ := hh
          refine aw_goto C 77 dX6_next_56 (by decide) ?_
          refine aw_fl [some (.ref v0), some (.int v1)] ⟨rfl, ⟨rfl, trivial⟩⟩ ?_
          exact rmX6_next_b77 C (fun v0 v1 f n cells slots hc hs h => ih v0 v1 f n cells slots hc hs h) (by omega) (by omega) h
        · rw [if_neg q] at h
          have q0 := q
          by_cases q : x7 = (1 : Int32)
          · rw [if_pos q] at h
            refine aw_top (1 : Int32) q ?_
            refine aw_tabIn C (off := 32) 59 dX6_next_27 (by decide) (by decide) (by decide) (by decide) ?_
            refine aw_ald_n C dX6_next_59 rfl ?_
            obtain ⟨hb11, h⟩ := ck_some h
            obtain ⟨r12, hr12, h⟩ := Option.bind_eq_some_iff.mp h
            obtain ⟨fs13, hf13⟩ := isO_ex hb11
            refine aw_callV C (ci := 6) (b := v0) [] mv_X6_44 rfl rfl hf13 (rmX6_tryCell hr12) rfl dX6_next_60 (Nat.le_of_ble_eq_true rfl) (Nat.le_of_ble_eq_true rfl) rfl (Nat.le_of_ble_eq_true rfl) (show (cells + 0) + 0 ≤ 0 by omega) (show (slots + 0) + 0 ≤ 0 by omega) (fun v9 f9 n9 hh => ?_)
            obtain ⟨rfl, rfl, rfl⟩ := hh
            refine aw_goto C 77 dX6_next_63 (by decide) ?_
            refine aw_fl [some (.ref v0), some (.int v1)] ⟨rfl, ⟨rfl, trivial⟩⟩ ?_
            exact rmX6_next_b77 C (fun v0 v1 f n cells slots hc hs h => ih v0 v1 f n cells slots hc hs h) (by omega) (by omega) h
          · rw [if_neg q] at h
            have q1 := q
            by_cases q : x7 = (2 : Int32)
            · rw [if_pos q] at h
              refine aw_top (2 : Int32) q ?_
              refine aw_tabIn C (off := 39) 66 dX6_next_27 (by decide) (by decide) (by decide) (by decide) ?_
              refine aw_ald_n C dX6_next_66 rfl ?_
              obtain ⟨hb14, h⟩ := ck_some h
              obtain ⟨r15, hr15, h⟩ := Option.bind_eq_some_iff.mp h
              obtain ⟨fs16, hf16⟩ := isO_ex hb14
              refine aw_callV C (ci := 6) (b := v0) [] mv_X6_47 rfl rfl hf16 (rmX6_tryMarkup hr15) rfl dX6_next_67 (Nat.le_of_ble_eq_true rfl) (Nat.le_of_ble_eq_true rfl) rfl (Nat.le_of_ble_eq_true rfl) (show (cells + 0) + 0 ≤ 0 by omega) (show (slots + 0) + 0 ≤ 0 by omega) (fun v9 f9 n9 hh => ?_)
              obtain ⟨rfl, rfl, rfl⟩ := hh
              refine aw_goto C 77 dX6_next_70 (by decide) ?_
              refine aw_fl [some (.ref v0), some (.int v1)] ⟨rfl, ⟨rfl, trivial⟩⟩ ?_
              exact rmX6_next_b77 C (fun v0 v1 f n cells slots hc hs h => ih v0 v1 f n cells slots hc hs h) (by omega) (by omega) h
            · rw [if_neg q] at h
              have q2 := q
              refine aw_tabOut C 73 dX6_next_27 (sx_out0_3 q0 q1 q2) (by decide) ?_
              refine aw_ald_n C dX6_next_73 rfl ?_
              obtain ⟨hb17, h⟩ := ck_some h
              obtain ⟨r18, hr18, h⟩ := Option.bind_eq_some_iff.mp h
              obtain ⟨fs19, hf19⟩ := isO_ex hb17
              refine aw_callV C (ci := 6) (b := v0) [] mv_X6_50 rfl rfl hf19 (rmX6_tryQuotes hr18) rfl dX6_next_74 (Nat.le_of_ble_eq_true rfl) (Nat.le_of_ble_eq_true rfl) rfl (Nat.le_of_ble_eq_true rfl) (show (cells + 0) + 0 ≤ 0 by omega) (show (slots + 0) + 0 ≤ 0 by omega) (fun v9 f9 n9 hh => ?_)
              obtain ⟨rfl, rfl, rfl⟩ := hh
              refine aw_fl [some (.ref v0), some (.int v1)] ⟨rfl, ⟨rfl, trivial⟩⟩ ?_
              exact rmX6_next_b77 C (fun v0 v1 f n cells slots hc hs h => ih v0 v1 f n cells slots hc hs h) (by omega) (by omega) h
def mX6_next (v0 : Nat) (f : AH) (n : Nat) : Option (Int32 × HpN) := mX6_next_l2 rFU v0 (0 : Int32) f n
set_option maxHeartbeats 1000000 in
theorem rmX6_next {X : GX} {l : Launch} {r : Int32 × HpN} {v0 : Nat} {f : AH} {n : Nat} (h : mX6_next v0 f n = some r) : AM X l yX6_next cX6_next 2 (some .boolean) 2 0 0 [.ref v0] f n (QHi r) := by
  have h : mX6_next_l2 rFU v0 (0 : Int32) f n = some r := h
  refine AM.of (by decide +kernel) rfl (Nat.le_of_ble_eq_true rfl) (fun p e s m args below meth c C hnm => ?_)
  refine aw_nl [some (.ref v0), none] rfl ?_
  refine aw_iconst C 0 dX6_next_0 ki_0 ?_
  refine aw_istore_n C dX6_next_1 (by decide) rfl ?_
  refine aw_nl [some (.ref v0), some (.int (0 : Int32))] rfl ?_
  refine aw_fl [some (.ref v0), some (.int (0 : Int32))] ⟨rfl, ⟨rfl, trivial⟩⟩ ?_
  exact rmX6_next_l2 C rFU v0 (0 : Int32) f n _ _ (by omega) (by omega) h
def mX5_isSame_l3 : Nat → Nat → Int32 → (Option Nat) → Int32 → Int32 → Int32 → AH → Nat → Option (Int32 × HpN)
  | 0, _, _, _, _, _, _, _, _ => none
  | d + 1, v0, v1, v2, v3, v4, v5, f, n => (if v4 ≤ v5 then rCk (rNb (1 : Int32)) (some ((1 : Int32), (f, n))) else rCk (isO f v0 5) (((mX5_get v0 (v1 + v5) f n).bind fun r3 => ((v2).bind fun j5 => rCk (isO r3.2.1 j5 5) (((mX5_get j5 (v3 + v5) r3.2.1 r3.2.2).bind fun r7 => (if r3.1 = r7.1 then mX5_isSame_l3 d v0 v1 (some j5) v3 v4 (v5 + (1 : Int32)) r7.2.1 r7.2.2 else rCk (rNb (0 : Int32)) (some ((0 : Int32), (r7.2.1, r7.2.2))))))))))
set_option maxHeartbeats 1000000 in
theorem rmX5_isSame_l3 {X : GX} {p : Program} {l : Launch} {e : Env} {s : State} {m : MethodId} {args : Array Value} {below : List Frame} {meth : Method} {c : Code} {r : Int32 × HpN} (C : CC X p l (RM 1 0 0) s m args meth c RX5 cX5_isSame 6 (some .boolean)) : ∀ (d : Nat) (v0 : Nat) (v1 : Int32) (v2 : Option Nat) (v3 : Int32) (v4 : Int32) (v5 : Int32) (f : AH) (n cells slots : Nat) (_ : cells + 0 ≤ 0) (_ : slots + 0 ≤ 0) (_ : mX5_isSame_l3 d v0 v1 v2 v3 v4 v5 f n = some r), AW X p l e (RM 1 0 0) s m args below meth c 6 (ZM X below args s 0 0 (QHi r)) f n cells slots 3 [some (.ref v0), some (.int v1), some (va_rf v2), some (.int v3), some (.int v4), some (.int v5)] [] := by
  intro d
  induction d with
  | zero =>
    intro v0 v1 v2 v3 v4 v5 f n cells slots hc hs h
    exact nomatch (show (none : Option (Int32 × HpN)) = some r from h)
  | succ d ih =>
    intro v0 v1 v2 v3 v4 v5 f n cells slots hc hs h
    have h : (if v4 ≤ v5 then rCk (rNb (1 : Int32)) (some ((1 : Int32), (f, n))) else rCk (isO f v0 5) (((mX5_get v0 (v1 + v5) f n).bind fun r3 => ((v2).bind fun j5 => rCk (isO r3.2.1 j5 5) (((mX5_get j5 (v3 + v5) r3.2.1 r3.2.2).bind fun r7 => (if r3.1 = r7.1 then mX5_isSame_l3 d v0 v1 (some j5) v3 v4 (v5 + (1 : Int32)) r7.2.1 r7.2.2 else rCk (rNb (0 : Int32)) (some ((0 : Int32), (r7.2.1, r7.2.2)))))))))) = some r := h
    refine aw_iload C dX5_isSame_3 rfl ?_
    refine aw_iload C dX5_isSame_5 rfl ?_
    refine aw_icmp_ge C 37 dX5_isSame_7 (by decide) (fun q => ?_) (fun q => ?_)
    · rw [if_pos q] at h
      refine aw_iconst C 1 dX5_isSame_37 ki_1 ?_
      obtain ⟨hb1, h⟩ := ck_some h
      cases h
      exact aw_iret C rfl (nb_nar hb1) dX5_isSame_38 (by omega) (by omega) ⟨rfl, rfl, rfl⟩
    · rw [if_neg q] at h
      refine aw_ald_n C dX5_isSame_10 rfl ?_
      refine aw_iload_n C dX5_isSame_11 rfl ?_
      refine aw_iload C dX5_isSame_12 rfl ?_
      refine aw_iadd C dX5_isSame_14 ?_
      obtain ⟨hb2, h⟩ := ck_some h
      obtain ⟨r3, hr3, h⟩ := Option.bind_eq_some_iff.mp h
      obtain ⟨fs4, hf4⟩ := isO_ex hb2
      refine aw_callV C (ci := 5) (b := v0) [.int (v1 + v5)] mv_X5_19 rfl rfl hf4 (rmX5_get hr3) rfl dX5_isSame_15 (Nat.le_of_ble_eq_true rfl) (Nat.le_of_ble_eq_true rfl) rfl (Nat.le_of_ble_eq_true rfl) (show cells + 0 ≤ 0 by omega) (show slots + 0 ≤ 0 by omega) (fun v9 f9 n9 hh => ?_)
      obtain ⟨rfl, rfl, rfl⟩ := hh
      refine aw_aload_n C dX5_isSame_18 rfl (rf_or v2) ?_
      refine aw_iload_n C dX5_isSame_19 rfl ?_
      refine aw_iload C dX5_isSame_20 rfl ?_
      refine aw_iadd C dX5_isSame_22 ?_
      obtain ⟨j5, hj5, h⟩ := Option.bind_eq_some_iff.mp h
      rw [hj5]
      obtain ⟨hb6, h⟩ := ck_some h
      obtain ⟨r7, hr7, h⟩ := Option.bind_eq_some_iff.mp h
      obtain ⟨fs8, hf8⟩ := isO_ex hb6
      refine aw_callV C (ci := 5) (b := j5) [.int (v3 + v5)] mv_X5_19 rfl rfl hf8 (rmX5_get hr7) rfl dX5_isSame_23 (Nat.le_of_ble_eq_true rfl) (Nat.le_of_ble_eq_true rfl) rfl (Nat.le_of_ble_eq_true rfl) (show (cells + 0) + 0 ≤ 0 by omega) (show (slots + 0) + 0 ≤ 0 by omega) (fun v9 f9 n9 hh => ?_)
      obtain ⟨rfl, rfl, rfl⟩ := hh
      refine aw_icmp_eq C 31 dX5_isSame_26 (by decide) (fun q => ?_) (fun q => ?_)
      · rw [if_pos q] at h
        refine aw_iinc C (v5 + (1 : Int32)) dX5_isSame_31 rfl (by rw [ki_1]) (by decide) rfl ?_
        refine aw_nl [some (.ref v0), some (.int v1), some (.ref j5), some (.int v3), some (.int v4), some (.int (v5 + (1 : Int32)))] rfl ?_
        refine aw_goto C 3 dX5_isSame_34 (by decide) ?_
        refine aw_fl [some (.ref v0), some (.int v1), some (va_rf (some j5)), some (.int v3), some (.int v4), some (.int (v5 + (1 : Int32)))] ⟨rfl, ⟨rfl, ⟨rfl, ⟨rfl, ⟨rfl, ⟨rfl, trivial⟩⟩⟩⟩⟩⟩ ?_
        exact ih v0 v1 (some j5) v3 v4 (v5 + (1 : Int32)) r7.2.1 r7.2.2 _ _ (by omega) (by omega) h
      · rw [if_neg q] at h
        refine aw_iconst C 0 dX5_isSame_29 ki_0 ?_
        obtain ⟨hb9, h⟩ := ck_some h
        cases h
        exact aw_iret C rfl (nb_nar hb9) dX5_isSame_30 (by omega) (by omega) ⟨rfl, rfl, rfl⟩
def mX5_isSame (v0 : Nat) (v1 : Int32) (v2 : Option Nat) (v3 : Int32) (v4 : Int32) (f : AH) (n : Nat) : Option (Int32 × HpN) := mX5_isSame_l3 rFU v0 v1 v2 v3 v4 (0 : Int32) f n
set_option maxHeartbeats 1000000 in
theorem rmX5_isSame {X : GX} {l : Launch} {r : Int32 × HpN} {v0 : Nat} {v1 : Int32} {v2 : Option Nat} {v3 : Int32} {v4 : Int32} {f : AH} {n : Nat} (h : mX5_isSame v0 v1 v2 v3 v4 f n = some r) : AM X l yX5_isSame cX5_isSame 6 (some .boolean) 1 0 0 [.ref v0, .int v1, va_rf v2, .int v3, .int v4] f n (QHi r) := by
  have h : mX5_isSame_l3 rFU v0 v1 v2 v3 v4 (0 : Int32) f n = some r := h
  refine AM.of (by decide +kernel) (all1 rfl (all1 rfl (all1 (rf_cat _) (all1 rfl (all1 rfl rfl))))) (Nat.le_of_ble_eq_true rfl) (fun p e s m args below meth c C hnm => ?_)
  refine aw_nl [some (.ref v0), some (.int v1), some (va_rf v2), some (.int v3), some (.int v4), none] rfl ?_
  refine aw_iconst C 0 dX5_isSame_0 ki_0 ?_
  refine aw_istore C dX5_isSame_1 (by decide) rfl ?_
  refine aw_nl [some (.ref v0), some (.int v1), some (va_rf v2), some (.int v3), some (.int v4), some (.int (0 : Int32))] rfl ?_
  refine aw_fl [some (.ref v0), some (.int v1), some (va_rf v2), some (.int v3), some (.int v4), some (.int (0 : Int32))] ⟨rfl, ⟨rfl, ⟨rfl, ⟨rfl, ⟨rfl, ⟨rfl, trivial⟩⟩⟩⟩⟩⟩ ?_
  exact rmX5_isSame_l3 C rFU v0 v1 v2 v3 v4 (0 : Int32) f n _ _ (by omega) (by omega) h
end
