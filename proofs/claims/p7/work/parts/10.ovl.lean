/-! heaps as a base and a list of what was written since -/
def lk : List (Nat × AE) → Nat → Option AE
  | [], _ => none
  | q :: l, i => bif Nat.beq i q.1 then some q.2 else lk l i
def ovl (f : AH) (l : List (Nat × AE)) : AH := fun i => match lk l i with
  | some a => some a
  | none => f i
def ins : List (Nat × AE) → Nat → AE → List (Nat × AE)
  | [], i, a => [(i, a)]
  | q :: l, i, a => bif Nat.beq i q.1 then (i, a) :: l else q :: ins l i a
def insA (l : List (Nat × AE)) : List (Nat × AE) → List (Nat × AE)
  | [] => l
  | q :: l2 => ins (insA l l2) q.1 q.2
theorem lk_ins (l : List (Nat × AE)) (i : Nat) (a : AE) (j : Nat) : lk (ins l i a) j = if j = i then some a else lk l j := by
  induction l with
  | nil =>
    by_cases h : j = i
    · subst h; simp [ins, lk, Nat.beq_refl]
    · have h2 : Nat.beq j i = false := by rw [← Bool.not_eq_true, Nat.beq_eq]; exact h
      simp [ins, lk, h2, h]
  | cons q l ih =>
    by_cases hq : i = q.1
    · have h1 : Nat.beq i q.1 = true := by rw [Nat.beq_eq]; exact hq
      simp only [ins, h1, cond_true]
      by_cases h : j = i
      · subst h; simp [lk, Nat.beq_refl]
      · have h2 : Nat.beq j i = false := by rw [← Bool.not_eq_true, Nat.beq_eq]; exact h
        have h3 : Nat.beq j q.1 = false := by rw [← hq]; exact h2
        simp [lk, h2, h3, h]
    · have h1 : Nat.beq i q.1 = false := by rw [← Bool.not_eq_true, Nat.beq_eq]; exact hq
      simp only [ins, h1, cond_false]
      by_cases h : j = q.1
      · have h2 : Nat.beq j q.1 = true := by rw [Nat.beq_eq]; exact h
        have h3 : ¬ j = i := fun e => hq (e.symm.trans h)
        simp [lk, h2, h3]
      · have h2 : Nat.beq j q.1 = false := by rw [← Bool.not_eq_true, Nat.beq_eq]; exact h
        simp only [lk, h2, cond_false]
        exact ih
theorem ovl_ins (f : AH) (l : List (Nat × AE)) (i : Nat) (a : AE) : va_up (ovl f l) i (some a) = ovl f (ins l i a) := by
  funext j
  show (if j = i then some a else ovl f l j) = _
  unfold ovl
  rw [lk_ins]
  by_cases h : j = i
  · simp [h]
  · simp [h]
theorem ovl_nil (f : AH) : ovl f [] = f := rfl
theorem ovl_cons (f : AH) (q : Nat × AE) (l : List (Nat × AE)) : ovl f (q :: l) = va_up (ovl f l) q.1 (some q.2) := by
  funext j
  show _ = (if j = q.1 then some q.2 else ovl f l j)
  unfold ovl
  by_cases h : j = q.1
  · have h2 : Nat.beq j q.1 = true := by rw [Nat.beq_eq]; exact h
    simp [lk, h2, h]
  · have h2 : Nat.beq j q.1 = false := by rw [← Bool.not_eq_true, Nat.beq_eq]; exact h
    simp [lk, h2, h]
theorem ovl_ovl (f : AH) (l : List (Nat × AE)) : ∀ l2 : List (Nat × AE), ovl (ovl f l) l2 = ovl f (insA l l2)
  | [] => rfl
  | q :: l2 => by rw [ovl_cons, ovl_ovl f l l2, ovl_ins]; rfl
/-- the post of a method that comes to one end -/
def EXO (f : AH) (l2 : List (Nat × AE)) (v : Option Value) (n : Nat) : Option Value → AH → Nat → Prop := fun v' f' n' => v' = v ∧ f' = ovl f l2 ∧ n' = n
def TXO (E : String) (f : AH) (l2 : List (Nat × AE)) (n : Nat) : String → AH → Nat → Prop := fun E' f' n' => E' = E ∧ f' = ovl f l2 ∧ n ≤ n'
section AWO
variable {X : GX} {p : Program} {l : Launch} {e : Env} {R : Room} {s : State} {m : MethodId} {args : Array Value} {below : List Frame} {meth : Method} {c : Code} {own : String} {cc : ByteArray} {nL : Nat} {ret : Option FieldType} {Z : State → Prop} {f : AH} {n cells slots pc : Nat} {lo : List (Option Value)} {st : List Value} {L : List (Nat × AE)}
variable {mc ms : Nat}
theorem ao_start (kk : AW X p l e R s m args below meth c nL Z (ovl f []) n cells slots pc lo st) : AW X p l e R s m args below meth c nL Z f n cells slots pc lo st := kk
theorem ao_flat {L2 : List (Nat × AE)} (l' : List (Nat × AE)) (hL : insA L L2 = l') (kk : AW X p l e R s m args below meth c nL Z (ovl f l') n cells slots pc lo st) : AW X p l e R s m args below meth c nL Z (ovl (ovl f L) L2) n cells slots pc lo st := by
  rw [ovl_ovl, hL]; exact kk
theorem ao_put (C : CC X p l R s m args meth c own cc nL ret) {idx ci k i : Nat} {fs : List Value} {v : Value} {ty0 : Nat → FieldType} (l' : List (Nat × AE)) (g : GF own idx ci k) (cf : CF ci ty0) (nf : noFin ci k) (hf : ovl f L i = some (.inr (ci, fs))) (hl' : k < fs.length) (hn' : narrow (ty0 k) v = v) (hfit : fits (ty0 k) v = true) (hd : decode cc pc = .ok (.putfield idx, 3)) (hL : ins L i (.inr (ci, fs.set k v)) = l')
    (kk : AW X p l e R s m args below meth c nL Z (ovl f l') n cells slots (pc + 3) lo st) : AW X p l e R s m args below meth c nL Z (ovl f L) n cells slots pc lo (v :: .ref i :: st) := by
  refine aw_put C g cf nf hf hl' hn' hfit hd ?_
  rw [ovl_ins, hL]; exact kk
theorem ao_putF (C : CC X p l R s m args meth c own cc nL ret) {idx ci k i : Nat} {fs : List Value} {v : Value} {ty0 : Nat → FieldType} (l' : List (Nat × AE)) (g : GF own idx ci k) (cf : CF ci ty0) (nf : isFin own ci k) (hin2 : meth.name = "<init>") (hf : ovl f L i = some (.inr (ci, fs))) (hl' : k < fs.length) (hn' : narrow (ty0 k) v = v) (hfit : fits (ty0 k) v = true) (hd : decode cc pc = .ok (.putfield idx, 3)) (hL : ins L i (.inr (ci, fs.set k v)) = l')
    (kk : AW X p l e R s m args below meth c nL Z (ovl f l') n cells slots (pc + 3) lo st) : AW X p l e R s m args below meth c nL Z (ovl f L) n cells slots pc lo (v :: .ref i :: st) := by
  refine aw_putF C g cf nf hin2 hf hl' hn' hfit hd ?_
  rw [ovl_ins, hL]; exact kk
theorem ao_iald (C : CC X p l R s m args meth c own cc nL ret) {i len k : Nat} {g : Nat → Int32} {x : Int32} (w : Int32) (hf : ovl f L i = some (.inl (0, len, .inl g))) (hin : vp_in x len) (hk : x.toNatClampNeg = k) (hw : g k = w) (hd : decode cc pc = .ok (.iaload, 1))
    (kk : AW X p l e R s m args below meth c nL Z (ovl f L) n cells slots (pc + 1) lo (.int w :: st)) : AW X p l e R s m args below meth c nL Z (ovl f L) n cells slots pc lo (.int x :: .ref i :: st) := by
  refine aw_iald C hf hin hd ?_
  rw [hk, hw]; exact kk
theorem ao_lald (C : CC X p l R s m args meth c own cc nL ret) {i len k : Nat} {g : Nat → Int64} {x : Int32} (w : Int64) (hf : ovl f L i = some (.inl (4, len, .inr (.inl g)))) (hin : vp_in x len) (hk : x.toNatClampNeg = k) (hw : g k = w) (hd : decode cc pc = .ok (.laload, 1))
    (kk : AW X p l e R s m args below meth c nL Z (ovl f L) n cells slots (pc + 1) lo (.long w :: st)) : AW X p l e R s m args below meth c nL Z (ovl f L) n cells slots pc lo (.int x :: .ref i :: st) := by
  refine aw_lald C hf hin hd ?_
  rw [hk, hw]; exact kk
theorem ao_aald (C : CC X p l R s m args meth c own cc nL ret) {t i len k : Nat} {g : Nat → Option Nat} {x : Int32} {Cn : String} (w : Value) (ht : t < 5) (hty : tyN t = .object Cn) (hf : ovl f L i = some (.inl (t, len, .inr (.inr g)))) (hin : vp_in x len) (hk : x.toNatClampNeg = k) (hw : va_rf (g k) = w) (hd : decode cc pc = .ok (.aaload, 1))
    (kk : AW X p l e R s m args below meth c nL Z (ovl f L) n cells slots (pc + 1) lo (w :: st)) : AW X p l e R s m args below meth c nL Z (ovl f L) n cells slots pc lo (.int x :: .ref i :: st) := by
  refine aw_aald C ht hty hf hin hd ?_
  rw [hk, hw]; exact kk
theorem ao_iast (C : CC X p l R s m args meth c own cc nL ret) {i len k : Nat} {g : Nat → Int32} {x v : Int32} (l' : List (Nat × AE)) (hf : ovl f L i = some (.inl (0, len, .inl g))) (hin : vp_in x len) (hk : x.toNatClampNeg = k) (hd : decode cc pc = .ok (.iastore, 1)) (hL : ins L i (.inl (0, len, .inl (upd g k v))) = l')
    (kk : AW X p l e R s m args below meth c nL Z (ovl f l') n cells slots (pc + 1) lo st) : AW X p l e R s m args below meth c nL Z (ovl f L) n cells slots pc lo (.int v :: .int x :: .ref i :: st) := by
  refine aw_iast C hf hin hd ?_
  rw [hk, ovl_ins, hL]; exact kk
theorem ao_last (C : CC X p l R s m args meth c own cc nL ret) {i len k : Nat} {g : Nat → Int64} {x : Int32} {v : Int64} (l' : List (Nat × AE)) (hf : ovl f L i = some (.inl (4, len, .inr (.inl g)))) (hin : vp_in x len) (hk : x.toNatClampNeg = k) (hd : decode cc pc = .ok (.lastore, 1)) (hL : ins L i (.inl (4, len, .inr (.inl (vp_updL g k v)))) = l')
    (kk : AW X p l e R s m args below meth c nL Z (ovl f l') n cells slots (pc + 1) lo st) : AW X p l e R s m args below meth c nL Z (ovl f L) n cells slots pc lo (.long v :: .int x :: .ref i :: st) := by
  refine aw_last C hf hin hd ?_
  rw [hk, ovl_ins, hL]; exact kk
theorem ao_aast (C : CC X p l R s m args meth c own cc nL ret) {t i len v ci k : Nat} {g : Nat → Option Nat} {x : Int32} {q : vw_C} {vs : List Value} (l' : List (Nat × AE)) (ht : t < 5) (hc : vwCl[ci]? = some q) (hty : tyN t = .object q.1) (hf : ovl f L i = some (.inl (t, len, .inr (.inr g)))) (hv : ovl f L v = some (.inr (ci, vs))) (hin : vp_in x len) (hk : x.toNatClampNeg = k) (hd : decode cc pc = .ok (.aastore, 1)) (hL : ins L i (.inl (t, len, .inr (.inr (va_up g k (some v))))) = l')
    (kk : AW X p l e R s m args below meth c nL Z (ovl f l') n cells slots (pc + 1) lo st) : AW X p l e R s m args below meth c nL Z (ovl f L) n cells slots pc lo (.ref v :: .int x :: .ref i :: st) := by
  refine aw_aast C ht hc hty hf hv hin hd ?_
  rw [hk, ovl_ins, hL]; exact kk
theorem ao_aastN (C : CC X p l R s m args meth c own cc nL ret) {t i len k : Nat} {g : Nat → Option Nat} {x : Int32} {Cn : String} (l' : List (Nat × AE)) (ht : t < 5) (hty : tyN t = .object Cn) (hf : ovl f L i = some (.inl (t, len, .inr (.inr g)))) (hin : vp_in x len) (hk : x.toNatClampNeg = k) (hd : decode cc pc = .ok (.aastore, 1)) (hL : ins L i (.inl (t, len, .inr (.inr (va_up g k none)))) = l')
    (kk : AW X p l e R s m args below meth c nL Z (ovl f l') n cells slots (pc + 1) lo st) : AW X p l e R s m args below meth c nL Z (ovl f L) n cells slots pc lo (.null :: .int x :: .ref i :: st) := by
  refine aw_aastN C ht hty hf hin hd ?_
  rw [hk, ovl_ins, hL]; exact kk
theorem ao_new (C : CC X p l R s m args meth c own cc nL ret) {idx ci : Nat} {fs : List Value} (l' : List (Nat × AE)) (g : NW own idx ci fs) (hcells : cells + 1 ≤ R.cells) (hslots : slots + fs.length ≤ R.slots) (hd : decode cc pc = .ok (.new idx, 3)) (hL : ins L n (.inr (ci, fs)) = l')
    (kk : AW X p l e R s m args below meth c nL Z (ovl f l') (n + 1) (cells + 1) (slots + fs.length) (pc + 3) lo (.ref n :: st)) : AW X p l e R s m args below meth c nL Z (ovl f L) n cells slots pc lo st := by
  refine aw_new C g hcells hslots hd ?_
  rw [ovl_ins, hL]; exact kk
theorem ao_newi (C : CC X p l R s m args meth c own cc nL ret) {x : Int32} (N : Nat) (l' : List (Nat × AE)) (h0 : ¬ x < 0) (hN : x.toNatClampNeg = N) (hbytes : N * 4 ≤ 536870912) (hcells : cells + 1 ≤ R.cells) (hslots : slots + N ≤ R.slots) (hd : decode cc pc = .ok (.newarray .int, 2)) (hL : ins L n (.inl (0, N, .inl (fun _ => 0))) = l')
    (kk : AW X p l e R s m args below meth c nL Z (ovl f l') (n + 1) (cells + 1) (slots + N) (pc + 2) lo (.ref n :: st)) : AW X p l e R s m args below meth c nL Z (ovl f L) n cells slots pc lo (.int x :: st) := by
  refine aw_newi C ac_int h0 hN hbytes hcells hslots hd ?_
  rw [ovl_ins, hL]; exact kk
theorem ao_newl (C : CC X p l R s m args meth c own cc nL ret) {x : Int32} (N : Nat) (l' : List (Nat × AE)) (h0 : ¬ x < 0) (hN : x.toNatClampNeg = N) (hbytes : N * 8 ≤ 536870912) (hcells : cells + 1 ≤ R.cells) (hslots : slots + N ≤ R.slots) (hd : decode cc pc = .ok (.newarray .long, 2)) (hL : ins L n (.inl (4, N, .inr (.inl (fun _ => 0)))) = l')
    (kk : AW X p l e R s m args below meth c nL Z (ovl f l') (n + 1) (cells + 1) (slots + N) (pc + 2) lo (.ref n :: st)) : AW X p l e R s m args below meth c nL Z (ovl f L) n cells slots pc lo (.int x :: st) := by
  refine aw_newl C ac_long h0 hN hbytes hcells hslots hd ?_
  rw [ovl_ins, hL]; exact kk
theorem ao_newq (C : CC X p l R s m args meth c own cc nL ret) (t : Nat) {idx : Nat} {x : Int32} (N : Nat) {Cn : String} (l' : List (Nat × AE)) (ht : t < 5) (hty : tyN t = .object Cn) (hcl : Cond.classLink own idx Cn ∈ ALLW) (hao : va_AO Cn s) (h0 : ¬ x < 0) (hN : x.toNatClampNeg = N) (hbytes : N * 4 ≤ 536870912) (hcells : cells + 1 ≤ R.cells) (hslots : slots + N ≤ R.slots) (hd : decode cc pc = .ok (.anewarray idx, 3)) (hL : ins L n (.inl (t, N, .inr (.inr (fun _ => none)))) = l')
    (kk : AW X p l e R s m args below meth c nL Z (ovl f l') (n + 1) (cells + 1) (slots + N) (pc + 3) lo (.ref n :: st)) : AW X p l e R s m args below meth c nL Z (ovl f L) n cells slots pc lo (.int x :: st) := by
  refine aw_newq C ht hty hcl hao h0 hN hbytes hcells hslots hd ?_
  rw [ovl_ins, hL]; exact kk
theorem ao_callV (C : CC X p l R s m args meth c own cc nL ret) {idx : Nat} {y : MethodName} {bytes : ByteArray} {maxL : Nat} {ret' : Option FieldType} {np fr b ci n2 : Nat} {fs : List Value} {q : vw_C} {st0 : List Value} {L2 : List (Nat × AE)} {v : Option Value} (as : List Value) (l' : List (Nat × AE)) (g : MV own idx y bytes maxL ret' np) (hci : vwCl[ci]? = some q) (hq : y.cls = q.1) (hb : ovl f L b = some (.inr (ci, fs)))
    (hM : AM X l y bytes maxL ret' fr mc ms (.ref b :: as) (ovl f L) n (EXO (ovl f L) L2 v n2)) (he : st0 = as.reverse ++ .ref b :: st) (hd : decode cc pc = .ok (.invokevirtual idx, 3)) (hfr : fr + 1 ≤ R.frames) (hlo : 8 + (maxL + 11) + 36 * fr ≤ R.locals) (hnp : as.length = np) (hstk : (st.map fun v => v.category).sum ≤ 8) (hc : cells + mc ≤ R.cells) (hs : slots + ms ≤ R.slots) (hL : insA L L2 = l')
    (kk : AW X p l e R s m args below meth c nL Z (ovl f l') n2 (cells + mc) (slots + ms) (pc + 3) lo (v.toList ++ st)) : AW X p l e R s m args below meth c nL Z (ovl f L) n cells slots pc lo st0 :=
  aw_callV C as g hci hq hb hM he hd hfr hlo hnp hstk hc hs (fun v' f' n' hh => by
    obtain ⟨rfl, rfl, rfl⟩ := hh
    exact ao_flat l' hL kk)
theorem ao_callI (C : CC X p l R s m args meth c own cc nL ret) {idx : Nat} {y : MethodName} {bytes : ByteArray} {maxL : Nat} {np fr b n2 : Nat} {st0 : List Value} {L2 : List (Nat × AE)} {v : Option Value} (as : List Value) (l' : List (Nat × AE)) (g : MI own idx y bytes maxL np)
    (hM : AM X l y bytes maxL none fr mc ms (.ref b :: as) (ovl f L) n (EXO (ovl f L) L2 v n2)) (he : st0 = as.reverse ++ .ref b :: st) (hd : decode cc pc = .ok (.invokespecial idx, 3)) (hfr : fr + 1 ≤ R.frames) (hlo : 8 + (maxL + 11) + 36 * fr ≤ R.locals) (hnp : as.length = np) (hstk : (st.map fun v => v.category).sum ≤ 8) (hc : cells + mc ≤ R.cells) (hs : slots + ms ≤ R.slots) (hL : insA L L2 = l')
    (kk : AW X p l e R s m args below meth c nL Z (ovl f l') n2 (cells + mc) (slots + ms) (pc + 3) lo (v.toList ++ st)) : AW X p l e R s m args below meth c nL Z (ovl f L) n cells slots pc lo st0 :=
  aw_callI C as g hM he hd hfr hlo hnp hstk hc hs (fun v' f' n' hh => by
    obtain ⟨rfl, rfl, rfl⟩ := hh
    exact ao_flat l' hL kk)
theorem ao_callS (C : CC X p l R s m args meth c own cc nL ret) {idx : Nat} {y : MethodName} {bytes : ByteArray} {maxL : Nat} {ret' : Option FieldType} {np fr n2 : Nat} {st0 : List Value} {L2 : List (Nat × AE)} {v : Option Value} (as : List Value) (l' : List (Nat × AE)) (g : MS own idx y bytes maxL ret' np)
    (hM : AM X l y bytes maxL ret' fr mc ms as (ovl f L) n (EXO (ovl f L) L2 v n2)) (he : st0 = as.reverse ++ st) (hd : decode cc pc = .ok (.invokestatic idx, 3)) (hfr : fr + 1 ≤ R.frames) (hlo : 8 + (maxL + 11) + 36 * fr ≤ R.locals) (hnp : as.length = np) (hstk : (st.map fun v => v.category).sum ≤ 8) (hc : cells + mc ≤ R.cells) (hs : slots + ms ≤ R.slots) (hL : insA L L2 = l')
    (kk : AW X p l e R s m args below meth c nL Z (ovl f l') n2 (cells + mc) (slots + ms) (pc + 3) lo (v.toList ++ st)) : AW X p l e R s m args below meth c nL Z (ovl f L) n cells slots pc lo st0 :=
  aw_callS C as g hM he hd hfr hlo hnp hstk hc hs (fun v' f' n' hh => by
    obtain ⟨rfl, rfl, rfl⟩ := hh
    exact ao_flat l' hL kk)
theorem ao_callIN (C : CC X p l R s m args meth c own cc nL ret) {idx : Nat} {y : MethodName} {bytes : ByteArray} {maxL : Nat} {np fr b n2 : Nat} {st0 : List Value} {L2 : List (Nat × AE)} {v : Option Value} (as : List Value) (l' : List (Nat × AE)) (g : MN own idx y bytes maxL none np) (gi : y.name = "<init>") (gi2 : Cond.instanceMethod y ∈ ALLW)
    (hM : AM X l y bytes maxL none fr mc ms (.ref b :: as) (ovl f L) n (EXO (ovl f L) L2 v n2)) (he : st0 = as.reverse ++ .ref b :: st) (hd : decode cc pc = .ok (.invokespecial idx, 3)) (hfr : fr + 1 ≤ R.frames) (hlo : 8 + (maxL + 11) + 36 * fr ≤ R.locals) (hnp : as.length = np) (hstk : (st.map fun v => v.category).sum ≤ 8) (hc : cells + mc ≤ R.cells) (hs : slots + ms ≤ R.slots) (hL : insA L L2 = l')
    (kk : AW X p l e R s m args below meth c nL Z (ovl f l') n2 (cells + mc) (slots + ms) (pc + 3) lo (v.toList ++ st)) : AW X p l e R s m args below meth c nL Z (ovl f L) n cells slots pc lo st0 :=
  aw_callIN C as g gi gi2 hM he hd hfr hlo hnp hstk hc hs (fun v' f' n' hh => by
    obtain ⟨rfl, rfl, rfl⟩ := hh
    exact ao_flat l' hL kk)
end AWO
