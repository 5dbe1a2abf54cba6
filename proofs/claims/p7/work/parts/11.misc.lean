section AWM
variable {X : GX} {p : Program} {l : Launch} {e : Env} {R : Room} {s : State} {m : MethodId} {args : Array Value} {below : List Frame} {meth : Method} {c : Code} {nL : Nat} {Z : State → Prop} {f : AH} {n cells slots pc : Nat} {lo : List (Option Value)} {st : List Value}
theorem aw_nl (lo' : List (Option Value)) (h : lo = lo') (k : AW X p l e R s m args below meth c nL Z f n cells slots pc lo' st) : AW X p l e R s m args below meth c nL Z f n cells slots pc lo st := h ▸ k
theorem aw_top {x : Int32} (w : Int32) (h : x = w) (k : AW X p l e R s m args below meth c nL Z f n cells slots pc lo (.int w :: st)) : AW X p l e R s m args below meth c nL Z f n cells slots pc lo (.int x :: st) := h ▸ k
end AWM
theorem c_lt {x y : Int32} (h : x.toInt < y.toInt) : x < y := Int32.lt_iff_toInt_lt.mpr h
theorem c_nlt {x y : Int32} (h : y.toInt ≤ x.toInt) : ¬ x < y := fun q => by have := Int32.lt_iff_toInt_lt.mp q; omega
theorem c_le {x y : Int32} (h : x.toInt ≤ y.toInt) : x ≤ y := Int32.le_iff_toInt_le.mpr h
theorem c_nle {x y : Int32} (h : y.toInt < x.toInt) : ¬ x ≤ y := fun q => by have := Int32.le_iff_toInt_le.mp q; omega
theorem c_ne {x y : Int32} (h : x.toInt ≠ y.toInt) : ¬ x = y := fun q => h (by rw [q])
theorem kc_X9_19 : Cond.constant RX9 19 34776 ∈ ALLW := ALLW_t 1143 (by decide +kernel) (by decide +kernel)
theorem aw_ldc {X : GX} {p : Program} {l : Launch} {e : Env} {R : Room} {s : State} {m : MethodId} {args : Array Value} {below : List Frame} {meth : Method} {c : Code} {own : String} {cc : ByteArray} {nL : Nat} {ret : Option FieldType} {Z : State → Prop} {f : AH} {n cells slots pc : Nat} {lo : List (Option Value)} {st : List Value} (C : CC X p l R s m args meth c own cc nL ret) {idx : Nat} (w : Int32) (hd : decode cc pc = .ok (.ldc idx, 2)) (hw : Cond.constant own idx w ∈ ALLW) (k0 : AW X p l e R s m args below meth c nL Z f n cells slots (pc + 2) lo (.int w :: st)) : AW X p l e R s m args below meth c nL Z f n cells slots pc lo st := by
  intro H locs ls hR hn hS hl
  exact lv_ldc C.1 C.2.1 C.2.2.2.1 (C.2.2.2.2.1 _ hw) hd (k0 H locs ls hR hn hS hl)
