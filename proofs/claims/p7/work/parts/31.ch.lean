/-! the class: what its functions rest on -/
abbrev HpN : Type := AH × Nat
def gI (f : AH) (i ci k : Nat) : Option Int32 := match f i with
  | some (.inr (c, fs)) => if c = ci then (match fs[k]? with
    | some (.int v) => some v
    | _ => none) else none
  | _ => none
def gR (f : AH) (i ci k : Nat) : Option (Option Nat) := match f i with
  | some (.inr (c, fs)) => if c = ci then (match fs[k]? with
    | some .null => some none
    | some (.ref j) => some (some j)
    | _ => none) else none
  | _ => none
def pO (f : AH) (i ci k : Nat) (v : Value) : Option AH := match f i with
  | some (.inr (c, fs)) => if c = ci ∧ k < fs.length then some (va_up f i (some (.inr (ci, fs.set k v)))) else none
  | _ => none
def gL (f : AH) (i : Nat) : Option Nat := match f i with
  | some (.inl (t, n, _)) => if t < 5 then some n else none
  | _ => none
def gIA (f : AH) (i : Nat) (x : Int32) : Option Int32 := match f i with
  | some (.inl (t, n, .inl g)) => if t = 0 ∧ rIn x n = true then some (g x.toNatClampNeg) else none
  | _ => none
def gRA (f : AH) (i : Nat) (x : Int32) : Option (Option Nat) := match f i with
  | some (.inl (t, n, .inr (.inr g))) => if (t = 1 ∨ t = 2 ∨ t = 3) ∧ rIn x n = true then some (g x.toNatClampNeg) else none
  | _ => none
def isO (f : AH) (i ci : Nat) : Bool := match f i with
  | some (.inr (c, _)) => decide (c = ci)
  | _ => false
/-- the class of what an array of kind t holds -/
def tcl : Nat → Nat
  | 1 => 3
  | 2 => 5
  | _ => 7
def pIA (f : AH) (i : Nat) (x v : Int32) : Option AH := match f i with
  | some (.inl (t, n, .inl g)) => if t = 0 ∧ rIn x n = true then some (va_up f i (some (.inl (0, n, .inl (upd g x.toNatClampNeg v))))) else none
  | _ => none
def okR (f : AH) (t : Nat) : Option Nat → Bool
  | none => true
  | some v => isO f v (tcl t)
def pRA (f : AH) (i : Nat) (x : Int32) (w : Option Nat) : Option AH := match f i with
  | some (.inl (t, n, .inr (.inr g))) => if ((t = 1 ∨ t = 2 ∨ t = 3) ∧ rIn x n = true) ∧ okR f t w = true then some (va_up f i (some (.inl (t, n, .inr (.inr (va_up g x.toNatClampNeg w)))))) else none
  | _ => none
def oN {α β : Type} (w : Option α) (a : β) (k : α → β) : β := match w with
  | none => a
  | some j => k j
def tS {α β : Type} (w : α ⊕ String) (hn : HpN) (k : α → Option ((β ⊕ String) × HpN)) : Option ((β ⊕ String) × HpN) := match w with
  | .inr E => some (.inr E, hn)
  | .inl v => k v
theorem tS_l {α β : Type} {w : α ⊕ String} {hn : HpN} {k : α → Option ((β ⊕ String) × HpN)} {v : α} (h : w = .inl v) : tS w hn k = k v := by rw [h]; rfl
theorem tS_r {α β : Type} {w : α ⊕ String} {hn : HpN} {k : α → Option ((β ⊕ String) × HpN)} {E : String} (h : w = .inr E) : tS w hn k = some (.inr E, hn) := by rw [h]; rfl
def QHi (r : Int32 × HpN) : Option Value → AH → Nat → Prop := fun v' f' n' => v' = some (.int r.1) ∧ f' = r.2.1 ∧ n' = r.2.2
def QHv (r : Int32 × HpN) : Option Value → AH → Nat → Prop := fun v' f' n' => v' = none ∧ f' = r.2.1 ∧ n' = r.2.2
def QHl (r : Int64 × HpN) : Option Value → AH → Nat → Prop := fun v' f' n' => v' = some (.long r.1) ∧ f' = r.2.1 ∧ n' = r.2.2
def QHr (r : Option Nat × HpN) : Option Value → AH → Nat → Prop := fun v' f' n' => v' = some (va_rf r.1) ∧ f' = r.2.1 ∧ n' = r.2.2
def QHs (X : GX) (r : Nat × HpN) : Option Value → AH → Nat → Prop := fun v' f' n' => v' = some (.retAddr (X.2.2 (3000 + r.1))) ∧ f' = r.2.1 ∧ n' = r.2.2
def QTr {α : Type} (Q : α × HpN → Option Value → AH → Nat → Prop) (r : (α ⊕ String) × HpN) : Option Value → AH → Nat → Prop := fun v' f' n' => ∃ v : α, r.1 = .inl v ∧ Q (v, r.2) v' f' n'
def QTx {α : Type} (r : (α ⊕ String) × HpN) : String → AH → Nat → Prop := fun E f' n' => r.1 = .inr E ∧ f' = r.2.1 ∧ r.2.2 ≤ n'
theorem rf_or (w : Option Nat) : va_rf w = .null ∨ ∃ a, va_rf w = .ref a := by
  cases w
  · exact Or.inl rfl
  · exact Or.inr ⟨_, rfl⟩
theorem rf_cat (w : Option Nat) : (va_rf w).category = 1 := by cases w <;> rfl
theorem rf_nar (ty : FieldType) (w : Option Nat) : narrow ty (va_rf w) = va_rf w := by cases w <;> cases ty <;> rfl
theorem rf_fit (C : String) (w : Option Nat) : fits (.object C) (va_rf w) = true := by cases w <;> rfl
theorem all1 {a : Value} {l : List Value} (h : a.category = 1) (t : l.all (fun w => w.category == 1) = true) : (a :: l).all (fun w => w.category == 1) = true := by
  show (a.category == 1 && l.all (fun w => w.category == 1)) = true
  rw [h, t]; rfl
theorem ok_rf {lo : List (Option Value)} (k : Nat) {w : Option Nat} (h : lo[k]? = some (some (va_rf w))) : okS lo (k + 1) = true := by
  simp only [okS, h, rf_cat]
  rfl
theorem cs_0 {k : Nat} : (([] : List Value).map fun v => v.category).sum ≤ k := Nat.zero_le _
theorem cs_1 {k : Nat} {v : Value} {l : List Value} (h : v.category = 1) (t : (l.map fun v => v.category).sum ≤ k) : ((v :: l).map fun v => v.category).sum ≤ k + 1 := by
  simp only [List.map_cons, List.sum_cons, h]
  omega
theorem cs_2 {k : Nat} {v : Value} {l : List Value} (h : v.category = 2) (t : (l.map fun v => v.category).sum ≤ k) : ((v :: l).map fun v => v.category).sum ≤ k + 2 := by
  simp only [List.map_cons, List.sum_cons, h]
  omega
theorem gI_ex {f : AH} {i ci k : Nat} {x : Int32} (h : gI f i ci k = some x) : ∃ fs : List Value, f i = some (.inr (ci, fs)) ∧ fs[k]? = some (.int x) := by
  unfold gI at h
  split at h
  · rename_i c fs hf
    split at h
    · rename_i hc
      subst hc
      split at h
      · rename_i v hv
        cases h
        exact ⟨fs, hf, hv⟩
      · cases h
    · cases h
  · cases h
theorem gR_ex {f : AH} {i ci k : Nat} {x : Option Nat} (h : gR f i ci k = some x) : ∃ fs : List Value, f i = some (.inr (ci, fs)) ∧ fs[k]? = some (va_rf x) := by
  unfold gR at h
  split at h
  · rename_i c fs hf
    split at h
    · rename_i hc
      subst hc
      split at h
      · rename_i hv
        cases h
        exact ⟨fs, hf, hv⟩
      · rename_i v hv
        cases h
        exact ⟨fs, hf, hv⟩
      · cases h
    · cases h
  · cases h
theorem pO_ex {f f2 : AH} {i ci k : Nat} {v : Value} (h : pO f i ci k v = some f2) : ∃ fs : List Value, f i = some (.inr (ci, fs)) ∧ k < fs.length ∧ f2 = va_up f i (some (.inr (ci, fs.set k v))) := by
  unfold pO at h
  split at h
  · rename_i c fs hf
    split at h
    · rename_i hc
      obtain ⟨rfl, hk⟩ := hc
      cases h
      exact ⟨fs, hf, hk, rfl⟩
    · cases h
  · cases h
theorem gL_ex {f : AH} {i N : Nat} (h : gL f i = some N) : ∃ (t : Nat) (a : AA), t < 5 ∧ f i = some (.inl (t, N, a)) := by
  unfold gL at h
  split at h
  · rename_i t n a hf
    split at h
    · rename_i ht
      cases h
      exact ⟨t, a, ht, hf⟩
    · cases h
  · cases h
theorem gIA_ex {f : AH} {i : Nat} {x v : Int32} (h : gIA f i x = some v) : ∃ (N : Nat) (g : Nat → Int32), f i = some (.inl (0, N, .inl g)) ∧ rIn x N = true ∧ v = g x.toNatClampNeg := by
  unfold gIA at h
  split at h
  · rename_i t n g hf
    split at h
    · rename_i ht
      obtain ⟨rfl, hb⟩ := ht
      cases h
      exact ⟨n, g, hf, hb, rfl⟩
    · cases h
  · cases h
theorem gRA_ex {f : AH} {i : Nat} {x : Int32} {v : Option Nat} (h : gRA f i x = some v) : ∃ (t N : Nat) (g : Nat → Option Nat), (t = 1 ∨ t = 2 ∨ t = 3) ∧ f i = some (.inl (t, N, .inr (.inr g))) ∧ rIn x N = true ∧ v = g x.toNatClampNeg := by
  unfold gRA at h
  split at h
  · rename_i t n g hf
    split at h
    · rename_i ht
      cases h
      exact ⟨t, n, g, ht.1, hf, ht.2, rfl⟩
    · cases h
  · cases h
theorem pIA_ex {f f2 : AH} {i : Nat} {x v : Int32} (h : pIA f i x v = some f2) : ∃ (N : Nat) (g : Nat → Int32), f i = some (.inl (0, N, .inl g)) ∧ rIn x N = true ∧ f2 = va_up f i (some (.inl (0, N, .inl (upd g x.toNatClampNeg v)))) := by
  unfold pIA at h
  split at h
  · rename_i t n g hf
    split at h
    · rename_i ht
      obtain ⟨rfl, hb⟩ := ht
      cases h
      exact ⟨n, g, hf, hb, rfl⟩
    · cases h
  · cases h
theorem pRA_ex {f f2 : AH} {i : Nat} {x : Int32} {w : Option Nat} (h : pRA f i x w = some f2) : ∃ (t N : Nat) (g : Nat → Option Nat), (t = 1 ∨ t = 2 ∨ t = 3) ∧ f i = some (.inl (t, N, .inr (.inr g))) ∧ rIn x N = true ∧ okR f t w = true ∧ f2 = va_up f i (some (.inl (t, N, .inr (.inr (va_up g x.toNatClampNeg w))))) := by
  unfold pRA at h
  split at h
  · rename_i t n g hf
    split at h
    · rename_i ht
      cases h
      exact ⟨t, n, g, ht.1.1, hf, ht.1.2, ht.2, rfl⟩
    · cases h
  · cases h
theorem isO_ex {f : AH} {i ci : Nat} (h : isO f i ci = true) : ∃ fs : List Value, f i = some (.inr (ci, fs)) := by
  unfold isO at h
  split at h
  · rename_i c fs hf
    have hc : c = ci := of_decide_eq_true h
    subst hc
    exact ⟨fs, hf⟩
  · cases h
theorem tyN_ob {t : Nat} (h : t = 1 ∨ t = 2 ∨ t = 3) : ∃ Cn : String, tyN t = .object Cn := by
  rcases h with rfl | rfl | rfl
  · exact ⟨_, rfl⟩
  · exact ⟨_, rfl⟩
  · exact ⟨_, rfl⟩
theorem tcl_q {t : Nat} (h : t = 1 ∨ t = 2 ∨ t = 3) : ∃ q : vw_C, vwCl[tcl t]? = some q ∧ tyN t = .object q.1 := by
  rcases h with rfl | rfl | rfl
  · exact ⟨_, rfl, rfl⟩
  · exact ⟨_, rfl, rfl⟩
  · exact ⟨_, rfl, rfl⟩
section AHR
variable {X : GX} {p : Program} {l : Launch} {e : Env} {R : Room} {s : State} {m : MethodId} {args : Array Value} {below : List Frame} {meth : Method} {c : Code} {own : String} {cc : ByteArray} {nL : Nat} {ret : Option FieldType} {Z : State → Prop} {f f2 : AH} {n cells slots pc : Nat} {lo : List (Option Value)} {st : List Value}
variable {mc ms : Nat} {Q : Option Value → AH → Nat → Prop}
theorem ah_getI (C : CC X p l R s m args meth c own cc nL ret) {idx ci k i : Nat} {x : Int32} (g : GF own idx ci k) (h : gI f i ci k = some x) (hd : decode cc pc = .ok (.getfield idx, 3)) (kk : AW X p l e R s m args below meth c nL Z f n cells slots (pc + 3) lo (.int x :: st)) : AW X p l e R s m args below meth c nL Z f n cells slots pc lo (.ref i :: st) := by
  obtain ⟨fs, h1, h2⟩ := gI_ex h
  exact aw_get C g h1 h2 hd kk
theorem ah_getR (C : CC X p l R s m args meth c own cc nL ret) {idx ci k i : Nat} {x : Option Nat} (g : GF own idx ci k) (h : gR f i ci k = some x) (hd : decode cc pc = .ok (.getfield idx, 3)) (kk : AW X p l e R s m args below meth c nL Z f n cells slots (pc + 3) lo (va_rf x :: st)) : AW X p l e R s m args below meth c nL Z f n cells slots pc lo (.ref i :: st) := by
  obtain ⟨fs, h1, h2⟩ := gR_ex h
  exact aw_get C g h1 h2 hd kk
theorem ah_put (C : CC X p l R s m args meth c own cc nL ret) {idx ci k i : Nat} {v : Value} {ty0 : Nat → FieldType} (g : GF own idx ci k) (cf : CF ci ty0) (nf : noFin ci k) (hn' : narrow (ty0 k) v = v) (hfit : fits (ty0 k) v = true) (h : pO f i ci k v = some f2) (hd : decode cc pc = .ok (.putfield idx, 3)) (kk : AW X p l e R s m args below meth c nL Z f2 n cells slots (pc + 3) lo st) : AW X p l e R s m args below meth c nL Z f n cells slots pc lo (v :: .ref i :: st) := by
  obtain ⟨fs, h1, h2, h3⟩ := pO_ex h
  subst h3
  exact aw_put C g cf nf h1 h2 hn' hfit hd kk
theorem ah_putF (C : CC X p l R s m args meth c own cc nL ret) {idx ci k i : Nat} {v : Value} {ty0 : Nat → FieldType} (g : GF own idx ci k) (cf : CF ci ty0) (nf : isFin own ci k) (hin2 : meth.name = "<init>") (hn' : narrow (ty0 k) v = v) (hfit : fits (ty0 k) v = true) (h : pO f i ci k v = some f2) (hd : decode cc pc = .ok (.putfield idx, 3)) (kk : AW X p l e R s m args below meth c nL Z f2 n cells slots (pc + 3) lo st) : AW X p l e R s m args below meth c nL Z f n cells slots pc lo (v :: .ref i :: st) := by
  obtain ⟨fs, h1, h2, h3⟩ := pO_ex h
  subst h3
  exact aw_putF C g cf nf hin2 h1 h2 hn' hfit hd kk
theorem ah_len (C : CC X p l R s m args meth c own cc nL ret) {i N : Nat} (h : gL f i = some N) (hd : decode cc pc = .ok (.arraylength, 1)) (kk : AW X p l e R s m args below meth c nL Z f n cells slots (pc + 1) lo (.int (nI N) :: st)) : AW X p l e R s m args below meth c nL Z f n cells slots pc lo (.ref i :: st) := by
  obtain ⟨t, a, h1, h2⟩ := gL_ex h
  exact aw_alen C h1 h2 hd kk
theorem ah_iald (C : CC X p l R s m args meth c own cc nL ret) {i : Nat} {x v : Int32} (h : gIA f i x = some v) (hd : decode cc pc = .ok (.iaload, 1)) (kk : AW X p l e R s m args below meth c nL Z f n cells slots (pc + 1) lo (.int v :: st)) : AW X p l e R s m args below meth c nL Z f n cells slots pc lo (.int x :: .ref i :: st) := by
  obtain ⟨N, g, h1, h2, rfl⟩ := gIA_ex h
  exact aw_iald C h1 (inb_vp h2) hd kk
theorem ah_aald (C : CC X p l R s m args meth c own cc nL ret) {i : Nat} {x : Int32} {v : Option Nat} (h : gRA f i x = some v) (hd : decode cc pc = .ok (.aaload, 1)) (kk : AW X p l e R s m args below meth c nL Z f n cells slots (pc + 1) lo (va_rf v :: st)) : AW X p l e R s m args below meth c nL Z f n cells slots pc lo (.int x :: .ref i :: st) := by
  obtain ⟨t, N, g, h0, h1, h2, rfl⟩ := gRA_ex h
  obtain ⟨Cn, hC⟩ := tyN_ob h0
  exact aw_aald C (by omega) hC h1 (inb_vp h2) hd kk
theorem ah_iast (C : CC X p l R s m args meth c own cc nL ret) {i : Nat} {x v : Int32} (h : pIA f i x v = some f2) (hd : decode cc pc = .ok (.iastore, 1)) (kk : AW X p l e R s m args below meth c nL Z f2 n cells slots (pc + 1) lo st) : AW X p l e R s m args below meth c nL Z f n cells slots pc lo (.int v :: .int x :: .ref i :: st) := by
  obtain ⟨N, g, h1, h2, rfl⟩ := pIA_ex h
  exact aw_iast C h1 (inb_vp h2) hd kk
theorem ah_aast (C : CC X p l R s m args meth c own cc nL ret) {i : Nat} {x : Int32} {w : Option Nat} (h : pRA f i x w = some f2) (hd : decode cc pc = .ok (.aastore, 1)) (kk : AW X p l e R s m args below meth c nL Z f2 n cells slots (pc + 1) lo st) : AW X p l e R s m args below meth c nL Z f n cells slots pc lo (va_rf w :: .int x :: .ref i :: st) := by
  obtain ⟨t, N, g, h0, h1, h2, h3, rfl⟩ := pRA_ex h
  cases w with
  | none =>
    obtain ⟨Cn, hC⟩ := tyN_ob h0
    exact aw_aastN C (by omega) hC h1 (inb_vp h2) hd kk
  | some v =>
    obtain ⟨q, hq1, hq2⟩ := tcl_q h0
    obtain ⟨fs, hv⟩ := isO_ex (show isO f v (tcl t) = true from h3)
    exact aw_aast C (by omega) hq1 hq2 h1 hv (inb_vp h2) hd kk
theorem ah_newi (C : CC X p l R s m args meth c own cc nL ret) {x : Int32} {B : Nat} (hb : (!(decide (x < 0)) && (decide (x.toNatClampNeg ≤ B) && decide (x.toNatClampNeg ≤ 600))) = true) (hc : cells + 1 ≤ R.cells) (hs : slots + B ≤ R.slots) (hd : decode cc pc = .ok (.newarray .int, 2))
    (kk : AW X p l e R s m args below meth c nL Z (va_up f n (some (.inl (0, x.toNatClampNeg, .inl (fun _ => 0))))) (n + 1) (cells + 1) (slots + B) (pc + 2) lo (.ref n :: st)) : AW X p l e R s m args below meth c nL Z f n cells slots pc lo (.int x :: st) := by
  simp only [Bool.and_eq_true, Bool.not_eq_true', decide_eq_false_iff_not, decide_eq_true_eq] at hb
  obtain ⟨h1, h2, h3⟩ := hb
  exact aw_newi C ac_int h1 rfl (by omega) hc (by omega) hd (aw_wide (Nat.le_refl _) (by omega) kk)
theorem aw_sret (C : CC X p l R s m args meth c own cc nL ret) {a : Nat} {Cn : String} (hrt : ret = some (.object Cn)) (hd : decode cc pc = .ok (.areturn, 1)) (hc : cells ≤ mc) (hs : slots ≤ ms) (hQ : Q (some (.retAddr a)) f n) : AW X p l e R s m args below meth c nL (ZM X below args s mc ms Q) f n cells slots pc lo [.retAddr a] := by
  intro H locs ls hR hn hS hl
  refine W.widen hc hs ?_
  exact W.aret C.1 C.2.1 (C.2.2.2.2.2.2.2.trans hrt) (Or.inl ⟨_, rfl⟩) (Or.inr ⟨_, rfl⟩) (fun t ht hW => ⟨some (.retAddr a), f, n, rfl, hQ, by rw [ht]; exact hn, by rw [ht]; exact hR, hS.F ht⟩) hS.2.2 hd C.2.2.2.2.2.1
def st4L (t : Nat) : Int32 := nI (sL4.getD t 0)
def st4C (t : Nat) (x : Int32) : Int32 := (sB4.getD t []).getD x.toNatClampNeg 0 &&& 255
theorem sL4_b {t : Nat} (h : t < 12) : sL4.getD t 0 < 2 ^ 31 := by
  have h0 : ∀ k : Fin 12, sL4.getD (k : Nat) 0 < 2 ^ 31 := by decide
  exact h0 ⟨t, h⟩
theorem ah_slen (C : CC X p l R s m args meth c RX5 cc nL ret) {t : Nat} (ht : t < 12) (hd : decode cc pc = .ok (.invokevirtual 47, 3)) (hfr : 2 ≤ R.frames) (hlo : 56 ≤ R.locals) (hstk : (st.map fun v => v.category).sum ≤ 8) (hc : cells + 0 ≤ R.cells) (hs : slots + 0 ≤ R.slots) (kk : AW X p l e R s m args below meth c nL Z f n cells slots (pc + 3) lo (.int (st4L t) :: st)) : AW X p l e R s m args below meth c nL Z f n cells slots pc lo (.retAddr (X.2.2 (3000 + t)) :: st) := by
  refine aw_callK C [] mv_X5_47 (fun H locs hS => vk_recv (STA4 X s C.2.2.2.2.2.2.1) ht hS) (sk_len (STA4 X) ht (sL4_b ht)) rfl hd hfr hlo rfl hstk hc hs (fun v9 f9 n9 hh => ?_)
  obtain ⟨rfl, rfl, rfl⟩ := hh
  exact kk
theorem ah_schr (C : CC X p l R s m args meth c RX5 cc nL ret) {t : Nat} {x : Int32} (ht : t < 12) (hb : rIn x (sL4.getD t 0) = true) (hd : decode cc pc = .ok (.invokevirtual 52, 3)) (hfr : 4 ≤ R.frames) (hlo : 129 ≤ R.locals) (hstk : (st.map fun v => v.category).sum ≤ 8) (hc : cells + 0 ≤ R.cells) (hs : slots + 0 ≤ R.slots) (kk : AW X p l e R s m args below meth c nL Z f n cells slots (pc + 3) lo (.int (st4C t x) :: st)) : AW X p l e R s m args below meth c nL Z f n cells slots pc lo (.int x :: .retAddr (X.2.2 (3000 + t)) :: st) := by
  have hb2 := sL4_b ht
  obtain ⟨k, hk, hx⟩ := vp_in_of (inb_vp hb) hb2
  subst hx
  refine aw_callK C [.int (nI k)] mv_X5_52 (fun H locs hS => vk_recv (STA4 X s C.2.2.2.2.2.2.1) ht hS) (sk_chr (STA4 X) ht hk hb2) rfl hd hfr hlo rfl hstk hc hs (fun v9 f9 n9 hh => ?_)
  obtain ⟨rfl, rfl, rfl⟩ := hh
  have h9 : st4C t (nI k) = (sB4.getD t []).getD k 0 &&& 255 := by unfold st4C; rw [nI_clamp (by omega)]
  rw [h9] at kk
  exact kk
end AHR
def jMax (a b : Int32) : Int32 := if a < b then b else a
theorem ah_jMax {X : GX} {p : Program} {l : Launch} {e : Env} {R : Room} {s : State} {m : MethodId} {args : Array Value} {below : List Frame} {meth : Method} {c : Code} {own : String} {cc : ByteArray} {nL : Nat} {ret : Option FieldType} {Z : State → Prop} {f : AH} {n cells slots pc : Nat} {lo : List (Option Value)} {st : List Value} (C : CC X p l R s m args meth c own cc nL ret) {idx : Nat} {a b : Int32} (g : MS own idx yJ9_max_7cf53 cJ9_max_7cf53 2 (some .int) 2) (hd : decode cc pc = .ok (.invokestatic idx, 3)) (hfr : 1 ≤ R.frames) (hlo : 21 ≤ R.locals) (hstk : (st.map fun v => v.category).sum ≤ 8) (hc : cells + 0 ≤ R.cells) (hs : slots + 0 ≤ R.slots) (kk : AW X p l e R s m args below meth c nL Z f n cells slots (pc + 3) lo (.int (jMax a b) :: st)) : AW X p l e R s m args below meth c nL Z f n cells slots pc lo (.int b :: .int a :: st) := by
  intro H locs ls hR hn hS hl
  have hts := C.2.2.2.2.1
  exact va_mmax C.1 C.2.1 (by rw [C.2.2.1]; exact hl.1.symm) C.2.2.2.1 (hts _ g.1) (hts _ g.2.1) (hts _ g.2.2.1) (hts _ g.2.2.2.1) hfr (by rw [cat_rn]; omega) hc hs hd (kk H locs ls hR hn hS hl)
def jMin (a b : Int32) : Int32 := if b < a then b else a
theorem ah_jMin {X : GX} {p : Program} {l : Launch} {e : Env} {R : Room} {s : State} {m : MethodId} {args : Array Value} {below : List Frame} {meth : Method} {c : Code} {own : String} {cc : ByteArray} {nL : Nat} {ret : Option FieldType} {Z : State → Prop} {f : AH} {n cells slots pc : Nat} {lo : List (Option Value)} {st : List Value} (C : CC X p l R s m args meth c own cc nL ret) {idx : Nat} {a b : Int32} (g : MS own idx yJ9_min_7cf53 cJ9_min_7cf53 2 (some .int) 2) (hd : decode cc pc = .ok (.invokestatic idx, 3)) (hfr : 1 ≤ R.frames) (hlo : 21 ≤ R.locals) (hstk : (st.map fun v => v.category).sum ≤ 8) (hc : cells + 0 ≤ R.cells) (hs : slots + 0 ≤ R.slots) (kk : AW X p l e R s m args below meth c nL Z f n cells slots (pc + 3) lo (.int (jMin a b) :: st)) : AW X p l e R s m args below meth c nL Z f n cells slots pc lo (.int b :: .int a :: st) := by
  intro H locs ls hR hn hS hl
  have hts := C.2.2.2.2.1
  exact va_mmin C.1 C.2.1 (by rw [C.2.2.1]; exact hl.1.symm) C.2.2.2.1 (hts _ g.1) (hts _ g.2.1) (hts _ g.2.2.1) (hts _ g.2.2.2.1) hfr (by rw [cat_rn]; omega) hc hs hd (kk H locs ls hR hn hS hl)
theorem sx_outm1_12 {x : Int32} (q0 : ¬ x = (-1)) (q1 : ¬ x = 0) (q2 : ¬ x = 1) (q3 : ¬ x = 2) (q4 : ¬ x = 3) (q5 : ¬ x = 4) (q6 : ¬ x = 5) (q7 : ¬ x = 6) (q8 : ¬ x = 7) (q9 : ¬ x = 8) (q10 : ¬ x = 9) (q11 : ¬ x = 10) : x.toInt < (-1) ∨ 10 < x.toInt := by
  have h0 := i32_ne (k := (-1)) (-1) (by decide) q0
  have h1 := i32_ne (k := 0) 0 (by decide) q1
  have h2 := i32_ne (k := 1) 1 (by decide) q2
  have h3 := i32_ne (k := 2) 2 (by decide) q3
  have h4 := i32_ne (k := 3) 3 (by decide) q4
  have h5 := i32_ne (k := 4) 4 (by decide) q5
  have h6 := i32_ne (k := 5) 5 (by decide) q6
  have h7 := i32_ne (k := 6) 6 (by decide) q7
  have h8 := i32_ne (k := 7) 7 (by decide) q8
  have h9 := i32_ne (k := 8) 8 (by decide) q9
  have h10 := i32_ne (k := 9) 9 (by decide) q10
  have h11 := i32_ne (k := 10) 10 (by decide) q11
  omega
theorem sx_out0_3 {x : Int32} (q0 : ¬ x = 0) (q1 : ¬ x = 1) (q2 : ¬ x = 2) : x.toInt < 0 ∨ 2 < x.toInt := by
  have h0 := i32_ne (k := 0) 0 (by decide) q0
  have h1 := i32_ne (k := 1) 1 (by decide) q1
  have h2 := i32_ne (k := 2) 2 (by decide) q2
  omega
theorem sx_out0_4 {x : Int32} (q0 : ¬ x = 0) (q1 : ¬ x = 1) (q2 : ¬ x = 2) (q3 : ¬ x = 3) : x.toInt < 0 ∨ 3 < x.toInt := by
  have h0 := i32_ne (k := 0) 0 (by decide) q0
  have h1 := i32_ne (k := 1) 1 (by decide) q1
  have h2 := i32_ne (k := 2) 2 (by decide) q2
  have h3 := i32_ne (k := 3) 3 (by decide) q3
  omega
theorem sx_out0_10 {x : Int32} (q0 : ¬ x = 0) (q1 : ¬ x = 1) (q2 : ¬ x = 2) (q3 : ¬ x = 3) (q4 : ¬ x = 4) (q5 : ¬ x = 5) (q6 : ¬ x = 6) (q7 : ¬ x = 7) (q8 : ¬ x = 8) (q9 : ¬ x = 9) : x.toInt < 0 ∨ 9 < x.toInt := by
  have h0 := i32_ne (k := 0) 0 (by decide) q0
  have h1 := i32_ne (k := 1) 1 (by decide) q1
  have h2 := i32_ne (k := 2) 2 (by decide) q2
  have h3 := i32_ne (k := 3) 3 (by decide) q3
  have h4 := i32_ne (k := 4) 4 (by decide) q4
  have h5 := i32_ne (k := 5) 5 (by decide) q5
  have h6 := i32_ne (k := 6) 6 (by decide) q6
  have h7 := i32_ne (k := 7) 7 (by decide) q7
  have h8 := i32_ne (k := 8) 8 (by decide) q8
  have h9 := i32_ne (k := 9) 9 (by decide) q9
  omega
theorem sx_out0_11 {x : Int32} (q0 : ¬ x = 0) (q1 : ¬ x = 1) (q2 : ¬ x = 2) (q3 : ¬ x = 3) (q4 : ¬ x = 4) (q5 : ¬ x = 5) (q6 : ¬ x = 6) (q7 : ¬ x = 7) (q8 : ¬ x = 8) (q9 : ¬ x = 9) (q10 : ¬ x = 10) : x.toInt < 0 ∨ 10 < x.toInt := by
  have h0 := i32_ne (k := 0) 0 (by decide) q0
  have h1 := i32_ne (k := 1) 1 (by decide) q1
  have h2 := i32_ne (k := 2) 2 (by decide) q2
  have h3 := i32_ne (k := 3) 3 (by decide) q3
  have h4 := i32_ne (k := 4) 4 (by decide) q4
  have h5 := i32_ne (k := 5) 5 (by decide) q5
  have h6 := i32_ne (k := 6) 6 (by decide) q6
  have h7 := i32_ne (k := 7) 7 (by decide) q7
  have h8 := i32_ne (k := 8) 8 (by decide) q8
  have h9 := i32_ne (k := 9) 9 (by decide) q9
  have h10 := i32_ne (k := 10) 10 (by decide) q10
  omega
theorem sx_out0_12 {x : Int32} (q0 : ¬ x = 0) (q1 : ¬ x = 1) (q2 : ¬ x = 2) (q3 : ¬ x = 3) (q4 : ¬ x = 4) (q5 : ¬ x = 5) (q6 : ¬ x = 6) (q7 : ¬ x = 7) (q8 : ¬ x = 8) (q9 : ¬ x = 9) (q10 : ¬ x = 10) (q11 : ¬ x = 11) : x.toInt < 0 ∨ 11 < x.toInt := by
  have h0 := i32_ne (k := 0) 0 (by decide) q0
  have h1 := i32_ne (k := 1) 1 (by decide) q1
  have h2 := i32_ne (k := 2) 2 (by decide) q2
  have h3 := i32_ne (k := 3) 3 (by decide) q3
  have h4 := i32_ne (k := 4) 4 (by decide) q4
  have h5 := i32_ne (k := 5) 5 (by decide) q5
  have h6 := i32_ne (k := 6) 6 (by decide) q6
  have h7 := i32_ne (k := 7) 7 (by decide) q7
  have h8 := i32_ne (k := 8) 8 (by decide) q8
  have h9 := i32_ne (k := 9) 9 (by decide) q9
  have h10 := i32_ne (k := 10) 10 (by decide) q10
  have h11 := i32_ne (k := 11) 11 (by decide) q11
  omega
theorem sx_out0_15 {x : Int32} (q0 : ¬ x = 0) (q1 : ¬ x = 1) (q2 : ¬ x = 2) (q3 : ¬ x = 3) (q4 : ¬ x = 4) (q5 : ¬ x = 5) (q6 : ¬ x = 6) (q7 : ¬ x = 7) (q8 : ¬ x = 8) (q9 : ¬ x = 9) (q10 : ¬ x = 10) (q11 : ¬ x = 11) (q12 : ¬ x = 12) (q13 : ¬ x = 13) (q14 : ¬ x = 14) : x.toInt < 0 ∨ 14 < x.toInt := by
  have h0 := i32_ne (k := 0) 0 (by decide) q0
  have h1 := i32_ne (k := 1) 1 (by decide) q1
  have h2 := i32_ne (k := 2) 2 (by decide) q2
  have h3 := i32_ne (k := 3) 3 (by decide) q3
  have h4 := i32_ne (k := 4) 4 (by decide) q4
  have h5 := i32_ne (k := 5) 5 (by decide) q5
  have h6 := i32_ne (k := 6) 6 (by decide) q6
  have h7 := i32_ne (k := 7) 7 (by decide) q7
  have h8 := i32_ne (k := 8) 8 (by decide) q8
  have h9 := i32_ne (k := 9) 9 (by decide) q9
  have h10 := i32_ne (k := 10) 10 (by decide) q10
  have h11 := i32_ne (k := 11) 11 (by decide) q11
  have h12 := i32_ne (k := 12) 12 (by decide) q12
  have h13 := i32_ne (k := 13) 13 (by decide) q13
  have h14 := i32_ne (k := 14) 14 (by decide) q14
  omega
theorem sx_118 : ("PieceFiles", 118, "the text is wrong") ∈ strsX := by decide +kernel
theorem sx_137 : ("PieceFiles", 137, "there is no such kind") ∈ strsX := by decide +kernel
theorem sx_144 : ("PieceFiles", 144, "there is no such rule") ∈ strsX := by decide +kernel
theorem sx_147 : ("PieceFiles", 147, "the rule has no such number") ∈ strsX := by decide +kernel
theorem sx_153 : ("PieceFiles", 153, "it is no word") ∈ strsX := by decide +kernel
theorem sx_158 : ("PieceFiles", 158, "more than 60 bytes") ∈ strsX := by decide +kernel
theorem sx_172 : ("PieceFiles", 172, "there is none to take back") ∈ strsX := by decide +kernel
theorem sx_211 : ("PieceFiles", 211, "nothing such is told of a piece") ∈ strsX := by decide +kernel
theorem sx_230 : ("PieceFiles", 230, "nothing such is told of a key") ∈ strsX := by decide +kernel
theorem sx_323 : ("PieceFiles", 323, "there is no such piece") ∈ strsX := by decide +kernel
theorem sx_326 : ("PieceFiles", 326, "the act is refused") ∈ strsX := by decide +kernel
