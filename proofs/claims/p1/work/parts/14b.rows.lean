/-! more rows: known longs, arrays of nothing, heaps behind a throw, the script -/
theorem c_eq {x y : Int32} (h : x.toInt = y.toInt) : x = y := Int32.toInt_inj.mp h
theorem vu_up {α : Type} (f : Nat → α) (k : Nat) (v w : α) : va_up (va_up f k v) k w = va_up f k w := by
  funext j; unfold va_up; by_cases h : j = k <;> simp [h]
theorem vu_ne {α : Type} {f : Nat → α} {k j : Nat} {v : α} (h : j ≠ k) : va_up f k v j = f j := if_neg h
theorem vu_eq {α : Type} {f : Nat → α} {k : Nat} {v : α} : va_up f k v k = v := if_pos rfl
theorem vu_id {α : Type} {f : Nat → α} {k : Nat} {v : α} (h : f k = v) : va_up f k v = f := by
  funext j; unfold va_up; by_cases hj : j = k
  · rw [if_pos hj, hj, h]
  · rw [if_neg hj]
/-- the post of a method whose heap may have grown by what was thrown -/
def EXN (f : AH) (l2 : List (Nat × AE)) (v : Option Value) : Option Value → AH → Nat → Prop := fun v' f' _ => v' = v ∧ f' = ovl f l2
section AWB
variable {X : GX} {p : Program} {l : Launch} {e : Env} {R : Room} {s : State} {m : MethodId} {args : Array Value} {below : List Frame} {meth : Method} {c : Code} {own : String} {cc : ByteArray} {nL : Nat} {ret : Option FieldType} {Z : State → Prop} {f : AH} {n cells slots pc : Nat} {lo : List (Option Value)} {st : List Value} {L : List (Nat × AE)}
theorem ae_i2l (C : CC X p l R s m args meth c own cc nL ret) {x : Int32} (w : Int64) (hd : decode cc pc = .ok (.i2l, 1)) (hw : x.toInt64 = w) (kk : AW X p l e R s m args below meth c nL Z f n cells slots (pc + 1) lo (.long w :: st)) : AW X p l e R s m args below meth c nL Z f n cells slots pc lo (.int x :: st) := by
  subst hw
  exact aw_i2l C hd kk
theorem ae_lcmp (C : CC X p l R s m args meth c own cc nL ret) {x y : Int64} (w : Int32) (hd : decode cc pc = .ok (.lcmp, 1)) (hw : lg_cmp x y = w) (kk : AW X p l e R s m args below meth c nL Z f n cells slots (pc + 1) lo (.int w :: st)) : AW X p l e R s m args below meth c nL Z f n cells slots pc lo (.long y :: .long x :: st) := by
  subst hw
  exact aw_lcmp C hd kk
theorem ao_aastZ (C : CC X p l R s m args meth c own cc nL ret) {t i len : Nat} {x : Int32} {Cn : String} (l' : List (Nat × AE)) (ht : t < 5) (hty : tyN t = .object Cn) (hf : ovl f L i = some (.inl (t, len, .inr (.inr (fun _ => none))))) (hin : vp_in x len) (hd : decode cc pc = .ok (.aastore, 1)) (hL : ins L i (.inl (t, len, .inr (.inr (fun _ => none)))) = l')
    (kk : AW X p l e R s m args below meth c nL Z (ovl f l') n cells slots (pc + 1) lo st) : AW X p l e R s m args below meth c nL Z (ovl f L) n cells slots pc lo (.null :: .int x :: .ref i :: st) := by
  refine aw_aastN C ht hty hf hin hd ?_
  have h : va_up (fun _ : Nat => (none : Option Nat)) x.toNatClampNeg none = fun _ => none := vu_id rfl
  rw [h, ovl_ins, hL]; exact kk
theorem at_flat {E : String} {L2 : List (Nat × AE)} (l' : List (Nat × AE)) (hL : insA L L2 = l') (kk : AT X p l e R s m args below meth c nL Z E (ovl f l') n cells slots pc lo) : AT X p l e R s m args below meth c nL Z E (ovl (ovl f L) L2) n cells slots pc lo := by
  rw [ovl_ovl, hL]; exact kk
/-- the script: L ints at the cell b, that nothing here writes -/
def SC (X : GX) (b L : Nat) (xs : Nat → Int32) (s : State) : Prop := va_X b L xs s s.heap ∧ b < s.heap.size ∧ ¬ X.1 ≤ b ∧ X.1 = s.heap.size
theorem aw_sld (C : CC X p l R s m args meth c own cc nL ret) {b L k : Nat} {xs : Nat → Int32} (S0 : SC X b L xs s) {x : Int32} (w : Int32) (hin : vp_in x L) (hk : x.toNatClampNeg = k) (hw : xs k = w) (hd : decode cc pc = .ok (.iaload, 1))
    (kk : AW X p l e R s m args below meth c nL Z f n cells slots (pc + 1) lo (.int w :: st)) : AW X p l e R s m args below meth c nL Z f n cells slots pc lo (.int x :: .retAddr b :: st) := by
  intro H locs ls hR hn hS hl
  subst hw; subst hk
  exact va_sld C.1 C.2.1 S0.1 S0.2.1 S0.2.2.1 hS hin hd (kk H locs ls hR hn hS hl)
theorem aw_slen (C : CC X p l R s m args meth c own cc nL ret) {b L : Nat} {xs : Nat → Int32} (S0 : SC X b L xs s) (hd : decode cc pc = .ok (.arraylength, 1))
    (kk : AW X p l e R s m args below meth c nL Z f n cells slots (pc + 1) lo (.int (nI L) :: st)) : AW X p l e R s m args below meth c nL Z f n cells slots pc lo (.retAddr b :: st) := by
  intro H locs ls hR hn hS hl
  exact va_slen C.1 C.2.1 S0.1 S0.2.1 S0.2.2.1 hS hd (kk H locs ls hR hn hS hl)
/-- fewer locals -/
def SubL : List (Option Value) → List (Option Value) → Prop
  | [], _ => True
  | _ :: _, [] => False
  | none :: a, _ :: b => SubL a b
  | some v :: a, w :: b => w = some v ∧ SubL a b
theorem SubL.get : ∀ {a b : List (Option Value)}, SubL a b → ∀ (i : Nat) (v : Value), a[i]? = some (some v) → b[i]? = some (some v)
  | [], _, _, i, v, h => by simp at h
  | _ :: _, [], hs, _, _, _ => hs.elim
  | none :: a, _ :: b, hs, 0, v, h => by simp at h
  | none :: a, _ :: b, hs, i + 1, v, h => by
    have := SubL.get (a := a) (b := b) hs i v (by simpa using h)
    simpa using this
  | some w :: a, _ :: b, hs, 0, v, h => by
    have h2 : w = v := by simpa using h
    rw [hs.1, h2]; rfl
  | some w :: a, _ :: b, hs, i + 1, v, h => by
    have := SubL.get (a := a) (b := b) hs.2 i v (by simpa using h)
    simpa using this
theorem aw_fl (lo' : List (Option Value)) (h : SubL lo' lo) (kk : AW X p l e R s m args below meth c nL Z f n cells slots pc lo' st) : AW X p l e R s m args below meth c nL Z f n cells slots pc lo st := aw_lo h.get kk
end AWB
/-! rows copied, told ones forgotten: what the loops of the reference leave -/
def cpy (src dst : Nat → Int32) (k : Nat) : Nat → Int32 := fun j => if j < k then src j else dst j
theorem cpy_0 (src dst : Nat → Int32) : cpy src dst 0 = dst := by funext j; simp [cpy]
theorem cpy_s (src dst : Nat → Int32) (k : Nat) : upd (cpy src dst k) k (src k) = cpy src dst (k + 1) := by
  funext j
  unfold upd cpy
  by_cases h : j = k
  · subst h; simp
  · rw [if_neg h]
    by_cases h2 : j < k
    · rw [if_pos h2, if_pos (by omega)]
    · rw [if_neg h2, if_neg (by omega)]
def tl (g : Nat → Int32) (k : Nat) : Nat → Int32 := fun j => if 443 ≤ j ∧ (j - 443) % 61 = 0 ∧ (j - 443) / 61 < k then -1 else g j
theorem tl_0 (g : Nat → Int32) : tl g 0 = g := by funext j; simp [tl]
theorem tl_s (g : Nat → Int32) (k : Nat) : upd (tl g k) (443 + 61 * k) (-1) = tl g (k + 1) := by
  funext j
  unfold upd tl
  by_cases h : j = 443 + 61 * k
  · subst h
    rw [if_pos rfl, if_pos ⟨by omega, by omega, by omega⟩]
  · rw [if_neg h]
    by_cases h2 : 443 ≤ j ∧ (j - 443) % 61 = 0 ∧ (j - 443) / 61 < k
    · rw [if_pos h2, if_pos ⟨h2.1, h2.2.1, by omega⟩]
    · rw [if_neg h2, if_neg (fun h3 => h2 ⟨h3.1, h3.2.1, by omega⟩)]
theorem ki1' : Int32.ofInt 1 = 1 := by decide
theorem nI_inc (k : Nat) : nI k + Int32.ofInt 1 = nI (k + 1) := by rw [ki1']; exact nI_1 k
theorem tl_ix (k : Nat) : (443 : Int32) + 61 * nI k = nI (443 + 61 * k) := by
  rw [← nI_add, ← pk_mul]; rfl
