/-! part 07.heap -/
section
/-! rows that read and write the heap of ids -/
theorem map_get {b k : Nat} {fs : List Value} {v : Value} (h : fs[k]? = some v) : (fs.map (rn b))[k]? = some (rn b v) := by simp [h]
theorem rn_narrow {b : Nat} {ty : FieldType} {v : Value} (h : narrow ty v = v) : narrow ty (rn b v) = rn b v := by
  cases v <;> first | exact h | (cases ty <;> simp_all [rn, narrow])
theorem rn_fits {b : Nat} {ty : FieldType} {v : Value} (h : fits ty v = true) : fits ty (rn b v) = true := by
  cases v <;> first | exact h | (cases ty <;> simp_all [rn, fits])
section AWH
variable {X : GX} {p : Program} {l : Launch} {e : Env} {R : Room} {s : State} {m : MethodId} {args : Array Value} {below : List Frame} {meth : Method} {c : Code} {own : String} {cc : ByteArray} {nL : Nat} {ret : Option FieldType} {Z : State → Prop} {f : AH} {n cells slots pc : Nat} {lo : List (Option Value)} {st : List Value}
theorem aw_get (C : CC X p l R s m args meth c own cc nL ret) {idx ci k i : Nat} {fs : List Value} {v : Value} (g : GF own idx ci k) (hf : f i = some (.inr (ci, fs))) (hv : fs[k]? = some v) (hd : decode cc pc = .ok (.getfield idx, 3))
    (kk : AW X p l e R s m args below meth c nL Z f n cells slots (pc + 3) lo (v :: st)) : AW X p l e R s m args below meth c nL Z f n cells slots pc lo (.ref i :: st) := by
  intro H locs ls hR hn hS hl
  obtain ⟨q, hc, hin, hk, hlk⟩ := g
  have hP : va_P X.2.1 vwCl [(X.1 + i, .inr (ci, fs.map (rn X.1)))] H := fun k9 q9 h9 => by
    have hz : k9 < 1 := (List.getElem?_eq_some_iff.mp h9).1
    rw [show k9 = 0 by omega] at h9
    cases h9
    exact hR i _ hf
  exact va_get (D := X.2.1) (v := rn X.1 v) C.1 C.2.1 C.2.2.2.2.1 hin C.2.2.2.1 C.2.2.2.2.2.2.1.1 hP 0 rfl hc k hk (C.2.2.2.2.1 _ hlk) (fun _ h9 => h9) (map_get hv) hd (kk H locs ls hR hn hS hl)
theorem aw_put (C : CC X p l R s m args meth c own cc nL ret) {idx ci k i : Nat} {fs : List Value} {v : Value} {ty0 : Nat → FieldType} (g : GF own idx ci k) (cf : CF ci ty0) (nf : noFin ci k) (hf : f i = some (.inr (ci, fs))) (hl' : k < fs.length) (hn' : narrow (ty0 k) v = v) (hfit : fits (ty0 k) v = true) (hd : decode cc pc = .ok (.putfield idx, 3))
    (kk : AW X p l e R s m args below meth c nL Z (va_up f i (some (.inr (ci, fs.set k v)))) n cells slots (pc + 3) lo st) : AW X p l e R s m args below meth c nL Z f n cells slots pc lo (v :: .ref i :: st) := by
  intro H locs ls hR hn hS hl
  obtain ⟨q, hc, hin, hk, hlk⟩ := g
  obtain ⟨q2, hc2, -, hty, hnm⟩ := cf
  cases Option.some.inj (hc2.symm.trans hc)
  obtain ⟨q2, hc2, hfin⟩ := nf
  cases Option.some.inj (hc2.symm.trans hc)
  have hts := C.2.2.2.2.1
  have hK := C.2.2.2.2.2.2.1.1
  have hap := va_apart (own := own) hts hin ty0 hty hnm hK hc
  obtain ⟨r, h1, cell, q1, q2, q3, q4⟩ := hR i _ hf
  have hr : r = q := Option.some.inj (h1.symm.trans hc)
  subst hr
  obtain ⟨hSl, hfc, kC, hkC, hkind⟩ := hK.1 ci _ hc
  obtain ⟨cf, kf, fi, fd, hi, hsl⟩ := hSl k hk
  have hlay := hts _ (hin _ (u_in_lay hk))
  unfold u_lay at hlay
  rw [if_neg (by rw [hfin]; decide)] at hlay
  have hst := (u_facts hfc hkC (u_lays hts hin hk) hi).1
  have h6 := u_store hfc hkC hkind hlay hi (hty k hk) (rn_narrow (b := X.1) hn') (rn_fits hfit)
  refine W.putK C.1 C.2.1 (f := fd) ⟨C.2.2.2.1, hts _ hlk, ⟨_, _, _, hi⟩, hst⟩ (by rw [q2]; exact h6) q1 q3 (by rw [hsl]; exact k2_hasslot (q4 k hk)) rfl rfl hd fun H' e1 e2 e3 => ?_
  rw [hsl] at e1 ⊢
  refine kk H' _ ls (hR.set ?_ e3) (by rw [e2]; exact hn) (hS.put e2 e3 (Nat.le_add_right _ _)) hl
  refine ⟨_, hc, t_OB.to (V := updV (vp_V (fs.map (rn X.1))) k (rn X.1 v)) ⟨_, e1, q2, q3, t_set q4 hap hk _⟩ (fun j _ => ?_)⟩
  have := vp_updV_set (fs := fs.map (rn X.1)) (k := k) (by simpa using hl') (rn X.1 v) j
  rw [this, List.map_set]
theorem aw_putF (C : CC X p l R s m args meth c own cc nL ret) {idx ci k i : Nat} {fs : List Value} {v : Value} {ty0 : Nat → FieldType} (g : GF own idx ci k) (cf : CF ci ty0) (nf : isFin own ci k) (hin2 : meth.name = "<init>") (hf : f i = some (.inr (ci, fs))) (hl' : k < fs.length) (hn' : narrow (ty0 k) v = v) (hfit : fits (ty0 k) v = true) (hd : decode cc pc = .ok (.putfield idx, 3))
    (kk : AW X p l e R s m args below meth c nL Z (va_up f i (some (.inr (ci, fs.set k v)))) n cells slots (pc + 3) lo st) : AW X p l e R s m args below meth c nL Z f n cells slots pc lo (v :: .ref i :: st) := by
  intro H locs ls hR hn hS hl
  obtain ⟨q, hc, hin, hk, hlk⟩ := g
  obtain ⟨q2, hc2, -, hty, hnm⟩ := cf
  cases Option.some.inj (hc2.symm.trans hc)
  obtain ⟨q2, hc2, hfin, hdecl⟩ := nf
  cases Option.some.inj (hc2.symm.trans hc)
  have hts := C.2.2.2.2.1
  have hown := C.2.2.2.1
  have hK := C.2.2.2.2.2.2.1.1
  have hap := va_apart (own := own) hts hin ty0 hty hnm hK hc
  obtain ⟨r, h1, cell, q1, q2, q3, q4⟩ := hR i _ hf
  have hr : r = q := Option.some.inj (h1.symm.trans hc)
  subst hr
  obtain ⟨hSl, hfc, kC, hkC, hkind⟩ := hK.1 ci _ hc
  obtain ⟨cf, kf, fi, fd, hi, hsl⟩ := hSl k hk
  have hlay := hts _ (hin _ (u_in_lay hk))
  unfold u_lay at hlay
  rw [if_pos hfin] at hlay
  have hst := (u_facts hfc hkC (u_lays hts hin hk) hi).1
  have hcf : m.cls = cf := by
    obtain ⟨_, _, c', _, _, _, -, -, hf', -, -, -, hown2, -⟩ := Cond.laysFinal_spec hlay
    have e1 : c' = cf := by have := hi.symm.trans hf'; simp at this; exact this.1.symm
    rw [hdecl] at hown2
    rw [← e1]; exact Option.some.inj (hown.symm.trans hown2)
  have h6 := u_fits hfc hkC hkind (Or.inr hlay) hi (hty k hk) (rn_narrow (b := X.1) hn') (rn_fits hfit)
  refine W.putFinK C.1 C.2.1 hown (hts _ hlk) hi hst hcf hin2 (by rw [q2]; exact h6) q1 q3 (by rw [hsl]; exact k2_hasslot (q4 k hk)) rfl rfl hd fun H' e1 e2 e3 => ?_
  rw [hsl] at e1 ⊢
  refine kk H' _ ls (hR.set ?_ e3) (by rw [e2]; exact hn) (hS.put e2 e3 (Nat.le_add_right _ _)) hl
  refine ⟨_, hc, t_OB.to (V := updV (vp_V (fs.map (rn X.1))) k (rn X.1 v)) ⟨_, e1, q2, q3, t_set q4 hap hk _⟩ (fun j _ => ?_)⟩
  have := vp_updV_set (fs := fs.map (rn X.1)) (k := k) (by simpa using hl') (rn X.1 v) j
  rw [this, List.map_set]
theorem aw_iald (C : CC X p l R s m args meth c own cc nL ret) {i len : Nat} {g : Nat → Int32} {x : Int32} (hf : f i = some (.inl (0, len, .inl g))) (hin : vp_in x len) (hd : decode cc pc = .ok (.iaload, 1))
    (kk : AW X p l e R s m args below meth c nL Z f n cells slots (pc + 1) lo (.int (g x.toNatClampNeg) :: st)) : AW X p l e R s m args below meth c nL Z f n cells slots pc lo (.int x :: .ref i :: st) := by
  intro H locs ls hR hn hS hl
  have hP : va_P X.2.1 vwCl [(X.1 + i, .inl (X.2.2 0, len, .inl g))] H := fun k9 q9 h9 => by
    have hz : k9 < 1 := (List.getElem?_eq_some_iff.mp h9).1
    rw [show k9 = 0 by omega] at h9
    cases h9
    exact hR i _ hf
  exact va_iald C.1 C.2.1 C.2.2.2.2.2.2.1.1 hP 0 0 rfl (tyN_at X (by decide)) hin hd (kk H locs ls hR hn hS hl)
theorem aw_lald (C : CC X p l R s m args meth c own cc nL ret) {i len : Nat} {g : Nat → Int64} {x : Int32} (hf : f i = some (.inl (4, len, .inr (.inl g)))) (hin : vp_in x len) (hd : decode cc pc = .ok (.laload, 1))
    (kk : AW X p l e R s m args below meth c nL Z f n cells slots (pc + 1) lo (.long (g x.toNatClampNeg) :: st)) : AW X p l e R s m args below meth c nL Z f n cells slots pc lo (.int x :: .ref i :: st) := by
  intro H locs ls hR hn hS hl
  have hP : va_P X.2.1 vwCl [(X.1 + i, .inl (X.2.2 4, len, .inr (.inl g)))] H := fun k9 q9 h9 => by
    have hz : k9 < 1 := (List.getElem?_eq_some_iff.mp h9).1
    rw [show k9 = 0 by omega] at h9
    cases h9
    exact hR i _ hf
  exact va_lald C.1 C.2.1 C.2.2.2.2.2.2.1.1 hP 0 4 rfl (tyN_at X (by decide)) hin hd (kk H locs ls hR hn hS hl)
theorem rn_rf (b : Nat) (r : Option Nat) : va_rf (r.map (fun k => b + k)) = rn b (va_rf r) := by cases r <;> rfl
theorem aw_aald (C : CC X p l R s m args meth c own cc nL ret) {t i len : Nat} {g : Nat → Option Nat} {x : Int32} {Cn : String} (ht : t < 5) (hty : tyN t = .object Cn) (hf : f i = some (.inl (t, len, .inr (.inr g)))) (hin : vp_in x len) (hd : decode cc pc = .ok (.aaload, 1))
    (kk : AW X p l e R s m args below meth c nL Z f n cells slots (pc + 1) lo (va_rf (g x.toNatClampNeg) :: st)) : AW X p l e R s m args below meth c nL Z f n cells slots pc lo (.int x :: .ref i :: st) := by
  intro H locs ls hR hn hS hl
  have hP : va_P X.2.1 vwCl [(X.1 + i, .inl (X.2.2 t, len, .inr (.inr (.inr (.inr fun j => (g j).map (fun k => X.1 + k))))))] H := fun k9 q9 h9 => by
    have hz : k9 < 1 := (List.getElem?_eq_some_iff.mp h9).1
    rw [show k9 = 0 by omega] at h9
    cases h9
    exact hR i _ hf
  have ht2 := tyN_at X ht
  rw [hty] at ht2
  refine va_aldq C.1 C.2.1 C.2.2.2.2.2.2.1.1 hP 0 t rfl ht2 hin hd ?_
  rw [rn_rf]
  exact kk H locs ls hR hn hS hl
theorem aw_alen (C : CC X p l R s m args meth c own cc nL ret) {t i len : Nat} {a : AA} (ht : t < 5) (hf : f i = some (.inl (t, len, a))) (hd : decode cc pc = .ok (.arraylength, 1))
    (kk : AW X p l e R s m args below meth c nL Z f n cells slots (pc + 1) lo (.int (nI len) :: st)) : AW X p l e R s m args below meth c nL Z f n cells slots pc lo (.ref i :: st) := by
  intro H locs ls hR hn hS hl
  have hP : va_P X.2.1 vwCl [(X.1 + i, .inl (X.2.2 t, cvA X.1 len a))] H := fun k9 q9 h9 => by
    have hz : k9 < 1 := (List.getElem?_eq_some_iff.mp h9).1
    rw [show k9 = 0 by omega] at h9
    cases h9
    exact hR i _ hf
  refine va_alen (v := nI len) C.1 C.2.1 C.2.2.2.2.2.2.1.1 hP 0 t rfl (tyN_at X ht) ?_ hd (kk H locs ls hR hn hS hl)
  rcases a with a | a | a <;> rfl
theorem aw_iast (C : CC X p l R s m args meth c own cc nL ret) {i len : Nat} {g : Nat → Int32} {x v : Int32} (hf : f i = some (.inl (0, len, .inl g))) (hin : vp_in x len) (hd : decode cc pc = .ok (.iastore, 1))
    (kk : AW X p l e R s m args below meth c nL Z (va_up f i (some (.inl (0, len, .inl (upd g x.toNatClampNeg v))))) n cells slots (pc + 1) lo st) : AW X p l e R s m args below meth c nL Z f n cells slots pc lo (.int v :: .int x :: .ref i :: st) := by
  intro H locs ls hR hn hS hl
  have hK := C.2.2.2.2.2.2.1.1
  have ht := tyN_at X (t := 0) (by decide)
  refine W.iast C.1 C.2.1 (hR i _ hf) ((hK.2 0 _ ht).1 len (fun j => .int (g j))) (fun q => by cases q) (by show ¬ (x < 0 ∨ (arrV _ _ _).slots.size ≤ _); rw [arrV_size]; exact hin) rfl rfl hd fun H1 e1 z oq => ?_
  refine kk H1 _ ls (hR.set ?_ oq) (by rw [z]; exact hn) (hS.put z oq (Nat.le_add_right _ _)) hl
  show H1[X.1 + i]? = some (vp_cell _ _)
  rw [e1]
  show some (Cell.setSlot (vp_cell (X.2.2 0) (len, .inl g)) _ _) = some (vp_cell (X.2.2 0) (len, .inl (upd g x.toNatClampNeg v)))
  rw [vp_cell_i, vp_cell_i, arrV_store]
  congr 2
  funext q
  by_cases hq : q = x.toNatClampNeg
  · subst hq
    simp [updV, upd]
  · simp [updV, upd, hq]
theorem aw_last (C : CC X p l R s m args meth c own cc nL ret) {i len : Nat} {g : Nat → Int64} {x : Int32} {v : Int64} (hf : f i = some (.inl (4, len, .inr (.inl g)))) (hin : vp_in x len) (hd : decode cc pc = .ok (.lastore, 1))
    (kk : AW X p l e R s m args below meth c nL Z (va_up f i (some (.inl (4, len, .inr (.inl (vp_updL g x.toNatClampNeg v)))))) n cells slots (pc + 1) lo st) : AW X p l e R s m args below meth c nL Z f n cells slots pc lo (.long v :: .int x :: .ref i :: st) := by
  intro H locs ls hR hn hS hl
  have hK := C.2.2.2.2.2.2.1.1
  have ht := tyN_at X (t := 4) (by decide)
  refine W.last C.1 C.2.1 (hR i _ hf) ((hK.2 4 _ ht).1 len (fun j => .long (g j))) (fun q => by cases q) (by show ¬ (x < 0 ∨ (arrV _ _ _).slots.size ≤ _); rw [arrV_size]; exact hin) rfl rfl hd fun H1 e1 z oq => ?_
  refine kk H1 _ ls (hR.set ?_ oq) (by rw [z]; exact hn) (hS.put z oq (Nat.le_add_right _ _)) hl
  show H1[X.1 + i]? = some (vp_cell _ _)
  rw [e1]
  show some (Cell.setSlot (vp_cell (X.2.2 4) (len, .inr (.inl g))) _ _) = some (vp_cell (X.2.2 4) (len, .inr (.inl (vp_updL g x.toNatClampNeg v))))
  rw [vp_cell_l, vp_cell_l, arrV_store]
  congr 2
  funext q
  by_cases hq : q = x.toNatClampNeg
  · subst hq
    simp [updV, vp_updL]
  · simp [updV, vp_updL, hq]
theorem aw_aast (C : CC X p l R s m args meth c own cc nL ret) {t i len v ci : Nat} {g : Nat → Option Nat} {x : Int32} {q : vw_C} {vs : List Value} (ht : t < 5) (hc : vwCl[ci]? = some q) (hty : tyN t = .object q.1) (hf : f i = some (.inl (t, len, .inr (.inr g)))) (hv : f v = some (.inr (ci, vs))) (hin : vp_in x len) (hd : decode cc pc = .ok (.aastore, 1))
    (kk : AW X p l e R s m args below meth c nL Z (va_up f i (some (.inl (t, len, .inr (.inr (va_up g x.toNatClampNeg (some v))))))) n cells slots (pc + 1) lo st) : AW X p l e R s m args below meth c nL Z f n cells slots pc lo (.ref v :: .int x :: .ref i :: st) := by
  intro H locs ls hR hn hS hl
  have hK := C.2.2.2.2.2.2.1.1
  have ht2 := tyN_at X ht
  rw [hty] at ht2
  have hlt : x.toNatClampNeg < len := Nat.not_le.mp fun q => hin (Or.inr q)
  have h0 : ¬ x < 0 := fun q => hin (Or.inl q)
  obtain ⟨r', hr', cellV, g1, g2, g3, -⟩ := hR v _ hv
  have hcls := (hK.1 ci q hc).2
  obtain ⟨kA, comp, k1, k2, k3, -⟩ := (hK.2 t _ ht2).2
  have hcomp : comp = X.2.1.1 ci := Option.some.inj (k3.symm.trans hcls.1)
  subst hcomp
  obtain ⟨kC, hkC, -⟩ := hcls.2
  refine W.aast C.1 C.2.1 (hR i _ hf) (fun q h => by cases h) (fun h => by cases h) k1 k2 rfl hkC ⟨h0, by show _ < (arrV _ _ _).slots.size; rw [arrV_size]; exact hlt⟩ g1 (fun q h => by rw [g3] at h; cases h) (by rw [g2]; exact hkC) (by rw [g2]; exact va_assign hcls) rfl rfl hd fun H1 e1 z oq => ?_
  refine kk H1 _ ls (hR.set ?_ oq) (by rw [z]; exact hn) (hS.put z oq (Nat.le_add_right _ _)) hl
  show H1[X.1 + i]? = some (vp_cell _ _)
  rw [e1]
  show some (Cell.setSlot (vp_cell (X.2.2 t) (len, .inr (.inr (.inr (.inr fun j => (g j).map (fun k => X.1 + k)))))) _ _) = some (vp_cell (X.2.2 t) (len, .inr (.inr (.inr (.inr fun j => ((va_up g x.toNatClampNeg (some v)) j).map (fun k => X.1 + k))))))
  rw [vp_cell_q, vp_cell_q, arrV_store]
  congr 2
  funext q
  by_cases hq : q = x.toNatClampNeg
  · subst hq
    simp [updV, va_up, va_rf]
  · simp [updV, va_up, hq]
theorem aw_aastN (C : CC X p l R s m args meth c own cc nL ret) {t i len : Nat} {g : Nat → Option Nat} {x : Int32} {Cn : String} (ht : t < 5) (hty : tyN t = .object Cn) (hf : f i = some (.inl (t, len, .inr (.inr g)))) (hin : vp_in x len) (hd : decode cc pc = .ok (.aastore, 1))
    (kk : AW X p l e R s m args below meth c nL Z (va_up f i (some (.inl (t, len, .inr (.inr (va_up g x.toNatClampNeg none)))))) n cells slots (pc + 1) lo st) : AW X p l e R s m args below meth c nL Z f n cells slots pc lo (.null :: .int x :: .ref i :: st) := by
  intro H locs ls hR hn hS hl
  have hK := C.2.2.2.2.2.2.1.1
  have ht2 := tyN_at X ht
  rw [hty] at ht2
  refine va_WaastN (C := Cn) C.1 C.2.1 (hR i _ hf) ((hK.2 t _ ht2).1 len (fun j => va_rf ((g j).map (fun k => X.1 + k)))) (fun h => by cases h) (by show ¬ (x < 0 ∨ (arrV _ _ _).slots.size ≤ _); rw [arrV_size]; exact hin) rfl rfl hd fun H1 e1 z oq => ?_
  refine kk H1 _ ls (hR.set ?_ oq) (by rw [z]; exact hn) (hS.put z oq (Nat.le_add_right _ _)) hl
  show H1[X.1 + i]? = some (vp_cell _ _)
  rw [e1]
  show some (Cell.setSlot (vp_cell (X.2.2 t) (len, .inr (.inr (.inr (.inr fun j => (g j).map (fun k => X.1 + k)))))) _ _) = some (vp_cell (X.2.2 t) (len, .inr (.inr (.inr (.inr fun j => ((va_up g x.toNatClampNeg none) j).map (fun k => X.1 + k))))))
  rw [vp_cell_q, vp_cell_q, arrV_store]
  congr 2
  funext q
  by_cases hq : q = x.toNatClampNeg
  · subst hq
    simp [updV, va_up, va_rf]
  · simp [updV, va_up, hq]
theorem va_S.grow {A : Nat → Prop} {H0 H H1 : Heap} {locs : List Loc} (hS : va_S A H0 H locs) (z : H1.size = H.size + 1) (o1 : ∀ q : Nat, q < H.size → H1[q]? = H[q]?) : va_S A H0 H1 locs :=
  ⟨Nat.le_trans hS.1 (by omega), fun x h1 h2 => (o1 x (Nat.lt_of_lt_of_le h1 hS.1)).trans (hS.2.1 x h1 h2), hS.2.2⟩
theorem aw_new (C : CC X p l R s m args meth c own cc nL ret) {idx ci : Nat} {fs : List Value} (g : NW own idx ci fs) (hcells : cells + 1 ≤ R.cells) (hslots : slots + fs.length ≤ R.slots) (hd : decode cc pc = .ok (.new idx, 3))
    (kk : AW X p l e R s m args below meth c nL Z (va_up f n (some (.inr (ci, fs)))) (n + 1) (cells + 1) (slots + fs.length) (pc + 3) lo (.ref n :: st)) : AW X p l e R s m args below meth c nL Z f n cells slots pc lo st := by
  intro H locs ls hR hn hS hl
  obtain ⟨q, ty, hc, hin, hty, hcl, hinst, hini, hfs, hrn, hlen⟩ := g
  have hts := C.2.2.2.2.1
  have hKn := C.2.2.2.2.2.2.1.1.1 ci _ hc
  rw [hlen] at hslots
  refine W.newcK C.1 C.2.1 C.2.2.2.1 (hts _ hcl) (hts _ hinst) (hts _ hini) rfl hd hcells hslots hKn.2.1 hn fun H1 kC hkC e1 z1 o1 => ?_
  have k9 := kk H1 locs ls (hR.push hn ?_ (by rw [hn]; exact o1)) (by omega) (hS.grow (by omega) (by rw [hn]; exact o1)) hl
  · rw [hlen] at k9
    exact k9
  · show ∃ r : vw_C, vwCl[ci]? = some r ∧ t_OB (X.1 + n) (X.2.1.1 ci) r.2.2 (X.2.1.2 ci) H1 (vp_V (fs.map (rn X.1)))
    rw [hrn]
    exact ⟨_, hc, (u_born ty hts hin hKn hkC e1 hty).to hfs⟩
theorem aw_newi (C : CC X p l R s m args meth c own cc nL ret) {x : Int32} {N : Nat} (hw : Cond.arrayClass .int ∈ ALLW) (h0 : ¬ x < 0) (hN : x.toNatClampNeg = N) (hbytes : N * 4 ≤ 536870912) (hcells : cells + 1 ≤ R.cells) (hslots : slots + N ≤ R.slots) (hd : decode cc pc = .ok (.newarray .int, 2))
    (kk : AW X p l e R s m args below meth c nL Z (va_up f n (some (.inl (0, N, .inl (fun _ => 0))))) (n + 1) (cells + 1) (slots + N) (pc + 2) lo (.ref n :: st)) : AW X p l e R s m args below meth c nL Z f n cells slots pc lo (.int x :: st) := by
  intro H locs ls hR hn hS hl
  have hts := C.2.2.2.2.1
  refine va_newaK (atype := .int) C.1 C.2.1 (hts _ hw) rfl hd rfl h0 hN hbytes hcells hslots hn fun H1 cA e1 z1 o1 hAr hNm => ?_
  have hcA : cA = X.2.2 0 := Option.some.inj (hNm.symm.trans (C.2.2.2.2.2.2.1.1.2 0 _ (tyN_at X (t := 0) (by decide))).2)
  subst hcA
  exact kk H1 locs ls (hR.push hn e1 (by rw [hn]; exact o1)) (by omega) (hS.grow (by omega) (by rw [hn]; exact o1)) hl
theorem aw_newl (C : CC X p l R s m args meth c own cc nL ret) {x : Int32} {N : Nat} (hw : Cond.arrayClass .long ∈ ALLW) (h0 : ¬ x < 0) (hN : x.toNatClampNeg = N) (hbytes : N * 8 ≤ 536870912) (hcells : cells + 1 ≤ R.cells) (hslots : slots + N ≤ R.slots) (hd : decode cc pc = .ok (.newarray .long, 2))
    (kk : AW X p l e R s m args below meth c nL Z (va_up f n (some (.inl (4, N, .inr (.inl (fun _ => 0)))))) (n + 1) (cells + 1) (slots + N) (pc + 2) lo (.ref n :: st)) : AW X p l e R s m args below meth c nL Z f n cells slots pc lo (.int x :: st) := by
  intro H locs ls hR hn hS hl
  have hts := C.2.2.2.2.1
  refine va_newaK (atype := .long) C.1 C.2.1 (hts _ hw) rfl hd rfl h0 hN hbytes hcells hslots hn fun H1 cA e1 z1 o1 hAr hNm => ?_
  have hcA : cA = X.2.2 4 := Option.some.inj (hNm.symm.trans (C.2.2.2.2.2.2.1.1.2 4 _ (tyN_at X (t := 4) (by decide))).2)
  subst hcA
  exact kk H1 locs ls (hR.push hn e1 (by rw [hn]; exact o1)) (by omega) (hS.grow (by omega) (by rw [hn]; exact o1)) hl
theorem aw_newq (C : CC X p l R s m args meth c own cc nL ret) {t idx : Nat} {x : Int32} {N : Nat} {Cn : String} (ht : t < 5) (hty : tyN t = .object Cn) (hcl : Cond.classLink own idx Cn ∈ ALLW) (hao : va_AO Cn s) (h0 : ¬ x < 0) (hN : x.toNatClampNeg = N) (hbytes : N * 4 ≤ 536870912) (hcells : cells + 1 ≤ R.cells) (hslots : slots + N ≤ R.slots) (hd : decode cc pc = .ok (.anewarray idx, 3))
    (kk : AW X p l e R s m args below meth c nL Z (va_up f n (some (.inl (t, N, .inr (.inr (fun _ => none)))))) (n + 1) (cells + 1) (slots + N) (pc + 3) lo (.ref n :: st)) : AW X p l e R s m args below meth c nL Z f n cells slots pc lo (.int x :: st) := by
  intro H locs ls hR hn hS hl
  have hts := C.2.2.2.2.1
  subst hN
  refine W.anew C.1 C.2.1 C.2.2.2.1 (hts _ hcl) (va_AO.use hao) rfl hd rfl h0 hbytes hcells hslots fun cA kA comp f1 f2 f3 f4 => ?_
  have ht2 := tyN_at X ht
  rw [hty] at ht2
  obtain ⟨kA2, comp2, k1, k2, k3, k4⟩ := (C.2.2.2.2.2.2.1.1.2 t _ ht2).2
  have hcA : cA = X.2.2 t := Option.some.inj (f1.symm.trans k4)
  subst hcA
  generalize hH1 : H.push ({ cls := X.2.2 t, slots := Array.replicate x.toNatClampNeg .null, vm := .none } : Cell) = H1
  have z1 : H1.size = H.size + 1 := by rw [← hH1, Array.size_push]
  have e1 : H1[H.size]? = some (arrV (X.2.2 t) x.toNatClampNeg (fun _ => .null)) := by rw [← hH1, Array.getElem?_push_size, ← arrV_new]
  have o1 : ∀ q : Nat, q < H.size → H1[q]? = H[q]? := fun q hq => by rw [← hH1, Array.getElem?_push, if_neg (Nat.ne_of_lt hq)]
  have k9 := kk H1 locs ls (hR.push hn (by show H1[X.1 + n]? = some (vp_cell _ _); rw [← hn]; exact e1) o1) (by omega) (hS.grow z1 o1) hl
  rw [hn]
  exact k9
theorem aw_oinit (C : CC X p l R s m args meth c own cc nL ret) {idx i : Nat} (hlk : Cond.methodLink own idx Lib.objectInit ∈ ALLW) (h2 : Cond.instanceMethod Lib.objectInit ∈ ALLW) (h3 : Cond.code Lib.objectInit ⟨#[0xb1]⟩ 1 none ∈ ALLW) (hd : decode cc pc = .ok (.invokespecial idx, 3)) (hfr : 1 ≤ R.frames) (hst : (st.map fun v => v.category).sum + 12 ≤ R.locals)
    (kk : AW X p l e R s m args below meth c nL Z f n cells slots (pc + 3) lo st) : AW X p l e R s m args below meth c nL Z f n cells slots pc lo (.ref i :: st) := by
  intro H locs ls hR hn hS hl
  have hts := C.2.2.2.2.1
  refine W.objInit C.1 C.2.1 C.2.2.2.1 (hts _ hlk) (hts _ h2) (hts _ h3) rfl (by rw [C.2.2.1]; exact hl.1) rfl hd hfr ?_ (kk H locs ls hR hn hS hl)
  have : ((st.map (rn X.1)).map fun v => v.category).sum = (st.map fun v => v.category).sum := by
    rw [List.map_map]; congr 1; apply List.map_congr_left; intro v _; exact rn_cat _ _
  rw [this]
  simpa [JFrame.monitorRoom] using hst
end AWH
end
/-! part 08.call -/
section
/-! contracts by ids, returns, calls -/
def PreM (X : GX) (as : List Value) (f : AH) (n : Nat) : Array Value → State → Prop := va_Pc (as.map (rn X.1)) (fun U => GG X U ∧ U.heap.size = X.1 + n ∧ Rel X f U.heap)
def PostM (X : GX) (Q : Option Value → AH → Nat → Prop) : Array Value → State → Outcome → State → Prop := fun _ st oc t =>
  ∃ (v : Option Value) (f' : AH) (n' : Nat), oc = .returned (v.map (rn X.1)) ∧ Q v f' n' ∧ t.heap.size = X.1 + n' ∧ Rel X f' t.heap ∧ va_F (fun q => X.1 ≤ q) st t
def PostX (X : GX) (QX : String → AH → Nat → Prop) : String → State → State → Prop := fun E st t =>
  ∃ (f' : AH) (n' : Nat), QX E f' n' ∧ t.heap.size = X.1 + n' ∧ Rel X f' t.heap ∧ va_F (fun q => X.1 ≤ q) st t
abbrev RM (fr mc ms : Nat) : Room := { frames := fr, cells := mc, slots := ms, locals := 36 * fr }
def AM (X : GX) (l : Launch) (y : MethodName) (bytes : ByteArray) (maxL : Nat) (ret : Option FieldType) (fr mc ms : Nat) (as : List Value) (f : AH) (n : Nat) (Q : Option Value → AH → Nat → Prop) : Prop :=
  Met l y (Cond.code y bytes maxL ret :: ALLW) (RM fr mc ms) (PreM X as f n) (PostM X Q) mc ms (fun q => X.1 ≤ q)
def AX (X : GX) (l : Launch) (y : MethodName) (bytes : ByteArray) (maxL : Nat) (ret : Option FieldType) (fr mc ms : Nat) (as : List Value) (f : AH) (n : Nat) (Q : Option Value → AH → Nat → Prop) (QX : String → AH → Nat → Prop) : Prop :=
  vx_Met l y (Cond.code y bytes maxL ret :: ALLW) (RM fr mc ms) (PreM X as f n) (PostM X Q) (PostX X QX) mc ms (fun q => X.1 ≤ q)
abbrev ZM (X : GX) (below : List Frame) (args : Array Value) (s : State) (mc ms : Nat) (Q : Option Value → AH → Nat → Prop) : State → Prop := MQ below (PostM X Q) args s mc ms (fun q => X.1 ≤ q)
abbrev ZX (X : GX) (below : List Frame) (args : Array Value) (s : State) (mc ms : Nat) (Q : Option Value → AH → Nat → Prop) (QX : String → AH → Nat → Prop) : State → Prop := vx_MQ below (PostM X Q) (PostX X QX) args s mc ms (fun q => X.1 ≤ q)
/-- locals at the entry -/
def enL (as : List Value) (maxL : Nat) : List (Option Value) := as.map some ++ List.replicate (maxL - as.length) none
theorem enL_args (b : Nat) : ∀ (as : List Value) (k i : Nat) (v : Value), (∀ w ∈ as, w.category = 1) → as[i]? = some v → (k + i, rn b v) ∈ lv_args k (as.map (rn b))
  | [], k, i, v, _, h => by simp at h
  | w :: as, k, i, v, hc, h => by
    have h1 : (rn b w).category = 1 := by rw [rn_cat]; exact hc w List.mem_cons_self
    show _ ∈ (k, rn b w) :: lv_args (if (rn b w).category = 2 then k + 2 else k + 1) (as.map (rn b))
    rw [h1, if_neg (by decide)]
    cases i with
    | zero =>
      simp at h
      subst h
      exact List.mem_cons_self
    | succ i =>
      have h2 : as[i]? = some v := by simpa using h
      have := enL_args b as (k + 1) i v (fun w hw => hc w (List.mem_cons_of_mem _ hw)) h2
      rw [show k + (i + 1) = k + 1 + i by omega]
      exact List.mem_cons_of_mem _ this
theorem lg_sl_len : ∀ (as : List Value), (∀ w ∈ as, w.category = 1) → (lg_sl as).length = as.length
  | [], _ => rfl
  | w :: as, hc => by
    have h := lg_sl_len as (fun w hw => hc w (List.mem_cons_of_mem _ hw))
    have h1 := hc w List.mem_cons_self
    simp only [lg_sl, List.flatMap_cons, h1] at h ⊢
    simp at h ⊢
    omega
theorem enL_LH {b maxL : Nat} {ls : Array Slot} {as : List Value} (hc : ∀ w ∈ as, w.category = 1) (h : lv_has ls maxL (lv_args 0 (as.map (rn b)))) : LH b ls maxL (enL as maxL) := by
  refine ⟨h.1, h.2.1, fun i v hi => ?_⟩
  unfold enL at hi
  by_cases hl : i < as.length
  · rw [List.getElem?_append_left (by simpa using hl)] at hi
    have h2 : as[i]? = some v := by
      rw [List.getElem?_map] at hi
      cases h3 : as[i]? with
      | none => rw [h3] at hi; cases hi
      | some w => rw [h3] at hi; cases hi; rfl
    have := h.2.2 _ (enL_args b as 0 i v hc h2)
    simpa using this
  · rw [List.getElem?_append_right (by simpa using Nat.not_lt.mp hl), List.getElem?_replicate] at hi
    split at hi <;> cases hi
theorem cat_rn (b : Nat) (st : List Value) : ((st.map (rn b)).map fun v => v.category).sum = (st.map fun v => v.category).sum := by
  rw [List.map_map]; congr 1; apply List.map_congr_left; intro v _; exact rn_cat _ _
theorem AM.of {X : GX} {l : Launch} {y : MethodName} {bytes : ByteArray} {maxL : Nat} {ret : Option FieldType} {fr mc ms : Nat} {as : List Value} {f : AH} {n : Nat} {Q : Option Value → AH → Nat → Prop} (hy : plainName y.cls = true) (has : as.all (fun w => w.category == 1) = true) (hle : as.length ≤ maxL)
    (body : ∀ (p : Program) (e : Env) (s : State) (m : MethodId) (args : Array Value) (below : List Frame) (meth : Method) (c : Code), CC X p l (RM fr mc ms) s m args meth c y.cls bytes maxL ret → meth.name = y.name → AW X p l e (RM fr mc ms) s m args below meth c maxL (ZM X below args s mc ms Q) f n 0 0 0 (enL as maxL) []) :
    AM X l y bytes maxL ret fr mc ms as f n Q := by
  refine Met.ofW (cc := bytes) (maxL := maxL) (ret := ret) hy rfl ?_
  intro p e s m args below meth c s₁ B hml hv
  obtain ⟨rfl, hG, hsz, hR⟩ := hv
  have hts := atoms_spec (ws := Cond.code y bytes maxL ret :: ALLW) B.pre
  have hown : s.vm.findClass y.cls = some m.cls := findClass_of_methodNamed B.named
  have hC : CC X p l (RM fr mc ms) s m (as.map (rn X.1)).toArray meth c y.cls bytes maxL ret := ⟨B.exec, B.bytes, hml, hown, fun w hw => hts w (List.mem_cons_of_mem _ hw), B.notSynchronized, hG, B.returns⟩
  have hc : ∀ w ∈ as, w.category = 1 := fun w hw => by simpa using List.all_eq_true.mp has w hw
  have hc2 : ∀ w ∈ as.map (rn X.1), w.category = 1 := fun w hw => by
    obtain ⟨v, hv, rfl⟩ := List.mem_map.mp hw
    rw [rn_cat]; exact hc v hv
  have hl := lv_entry (as.map (rn X.1)) (n := maxL) (by rw [lg_sl_len _ hc2]; simpa using hle)
  rw [lg_entry_eq]
  exact body p e s m _ below meth c hC (name_of_methodNamed B.named B.method).1 s.heap [] _ hR hsz va_S.rf (enL_LH hc hl)
theorem AX.of {X : GX} {l : Launch} {y : MethodName} {bytes : ByteArray} {maxL : Nat} {ret : Option FieldType} {fr mc ms : Nat} {as : List Value} {f : AH} {n : Nat} {Q : Option Value → AH → Nat → Prop} {QX : String → AH → Nat → Prop} (hy : plainName y.cls = true) (has : as.all (fun w => w.category == 1) = true) (hle : as.length ≤ maxL)
    (body : ∀ (p : Program) (e : Env) (s : State) (m : MethodId) (args : Array Value) (below : List Frame) (meth : Method) (c : Code), CC X p l (RM fr mc ms) s m args meth c y.cls bytes maxL ret → (∀ x ∈ c.exceptionTable.toList, False) → AW X p l e (RM fr mc ms) s m args below meth c maxL (ZX X below args s mc ms Q QX) f n 0 0 0 (enL as maxL) []) :
    AX X l y bytes maxL ret fr mc ms as f n Q QX := by
  refine vx_ofW (cc := bytes) (maxL := maxL) (ret := ret) hy rfl ?_
  intro p e s m args below meth c s₁ B hml htab hv
  obtain ⟨rfl, hG, hsz, hR⟩ := hv
  have hts := atoms_spec (ws := Cond.code y bytes maxL ret :: ALLW) B.pre
  have hown : s.vm.findClass y.cls = some m.cls := findClass_of_methodNamed B.named
  have hC : CC X p l (RM fr mc ms) s m (as.map (rn X.1)).toArray meth c y.cls bytes maxL ret := ⟨B.exec, B.bytes, hml, hown, fun w hw => hts w (List.mem_cons_of_mem _ hw), B.notSynchronized, hG, B.returns⟩
  have hc : ∀ w ∈ as, w.category = 1 := fun w hw => by simpa using List.all_eq_true.mp has w hw
  have hc2 : ∀ w ∈ as.map (rn X.1), w.category = 1 := fun w hw => by
    obtain ⟨v, hv, rfl⟩ := List.mem_map.mp hw
    rw [rn_cat]; exact hc v hv
  have hl := lv_entry (as.map (rn X.1)) (n := maxL) (by rw [lg_sl_len _ hc2]; simpa using hle)
  rw [lg_entry_eq]
  exact body p e s m _ below meth c hC htab s.heap [] _ hR hsz va_S.rf (enL_LH hc hl)
theorem AM.mono {X : GX} {l : Launch} {y : MethodName} {bytes : ByteArray} {maxL : Nat} {ret : Option FieldType} {fr mc ms : Nat} {as : List Value} {f : AH} {n : Nat} {Q Q' : Option Value → AH → Nat → Prop} (h : AM X l y bytes maxL ret fr mc ms as f n Q) (hq : ∀ v f' n', Q v f' n' → Q' v f' n') : AM X l y bytes maxL ret fr mc ms as f n Q' := by
  unfold AM Met at h ⊢
  exact MetFree.mono h (fun _ _ h => h) (fun _ _ _ _ _ h => h) (fun a s o t _ ⟨⟨v, f', n', h1, h2, h3⟩, h4⟩ => ⟨⟨v, f', n', h1, hq _ _ _ h2, h3⟩, h4⟩)
theorem AM.heap {X : GX} {l : Launch} {y : MethodName} {bytes : ByteArray} {maxL : Nat} {ret : Option FieldType} {fr mc ms : Nat} {as : List Value} {f f0 : AH} {n : Nat} {Q : Option Value → AH → Nat → Prop} (h : AM X l y bytes maxL ret fr mc ms as f0 n Q) (hf : ∀ i e, f0 i = some e → f i = some e) : AM X l y bytes maxL ret fr mc ms as f n Q := by
  unfold AM Met at h ⊢
  exact MetFree.mono h (fun a s ⟨h1, h2, h3, h4⟩ => ⟨h1, h2, h3, h4.sub hf⟩) (fun _ _ _ _ _ h => h) (fun a s o t _ h => h)
section AWC
variable {X : GX} {p : Program} {l : Launch} {e : Env} {R : Room} {s : State} {m : MethodId} {args : Array Value} {below : List Frame} {meth : Method} {c : Code} {own : String} {cc : ByteArray} {nL : Nat} {ret : Option FieldType} {Z : State → Prop} {f : AH} {n cells slots pc : Nat} {lo : List (Option Value)} {st : List Value}
variable {mc ms : Nat} {Q : Option Value → AH → Nat → Prop} {QX : String → AH → Nat → Prop}
theorem aw_iret (C : CC X p l R s m args meth c own cc nL ret) {ty : FieldType} {v : Int32} (hrt : ret = some ty) (hnr : narrow ty (.int v) = .int v) (hd : decode cc pc = .ok (.ireturn, 1)) (hc : cells ≤ mc) (hs : slots ≤ ms) (hQ : Q (some (.int v)) f n) : AW X p l e R s m args below meth c nL (ZM X below args s mc ms Q) f n cells slots pc lo [.int v] := by
  intro H locs ls hR hn hS hl
  refine W.widen hc hs ?_
  exact W.zret C.1 C.2.1 (C.2.2.2.2.2.2.2.trans hrt) hnr (fun t ht hW => ⟨some (.int v), f, n, rfl, hQ, by rw [ht]; exact hn, by rw [ht]; exact hR, hS.F ht⟩) hS.2.2 hd C.2.2.2.2.2.1
theorem aw_lret (C : CC X p l R s m args meth c own cc nL ret) {v : Int64} (hrt : ret = some .long) (hd : decode cc pc = .ok (.lreturn, 1)) (hc : cells ≤ mc) (hs : slots ≤ ms) (hQ : Q (some (.long v)) f n) : AW X p l e R s m args below meth c nL (ZM X below args s mc ms Q) f n cells slots pc lo [.long v] := by
  intro H locs ls hR hn hS hl
  refine W.widen hc hs ?_
  exact W.lret C.1 C.2.1 (C.2.2.2.2.2.2.2.trans hrt) (fun t ht hW => ⟨some (.long v), f, n, rfl, hQ, by rw [ht]; exact hn, by rw [ht]; exact hR, hS.F ht⟩) hS.2.2 hd C.2.2.2.2.2.1
theorem aw_vret (C : CC X p l R s m args meth c own cc nL ret) (hrt : ret = none) (hd : decode cc pc = .ok (.return_, 1)) (hc : cells ≤ mc) (hs : slots ≤ ms) (hQ : Q none f n) : AW X p l e R s m args below meth c nL (ZM X below args s mc ms Q) f n cells slots pc lo [] := by
  intro H locs ls hR hn hS hl
  refine W.widen hc hs ?_
  exact W.vret C.1 C.2.1 (C.2.2.2.2.2.2.2.trans hrt) (fun t ht hW => ⟨none, f, n, rfl, hQ, by rw [ht]; exact hn, by rw [ht]; exact hR, hS.F ht⟩) hS.2.2 hd C.2.2.2.2.2.1
theorem aw_aret (C : CC X p l R s m args meth c own cc nL ret) {v : Value} {Cn : String} (hrt : ret = some (.object Cn)) (hv : v = .null ∨ ∃ a, v = .ref a) (hd : decode cc pc = .ok (.areturn, 1)) (hc : cells ≤ mc) (hs : slots ≤ ms) (hQ : Q (some v) f n) : AW X p l e R s m args below meth c nL (ZM X below args s mc ms Q) f n cells slots pc lo [v] := by
  intro H locs ls hR hn hS hl
  refine W.widen hc hs ?_
  refine W.aret C.1 C.2.1 (C.2.2.2.2.2.2.2.trans hrt) (Or.inl ⟨_, rfl⟩) ?_ (fun t ht hW => ⟨some v, f, n, rfl, hQ, by rw [ht]; exact hn, by rw [ht]; exact hR, hS.F ht⟩) hS.2.2 hd C.2.2.2.2.2.1
  rcases hv with rfl | ⟨a, rfl⟩
  · exact Or.inl rfl
  · exact Or.inr ⟨_, rfl⟩
theorem ax_of (kk : AW X p l e R s m args below meth c nL (ZM X below args s mc ms Q) f n cells slots pc lo st) : AW X p l e R s m args below meth c nL (ZX X below args s mc ms Q QX) f n cells slots pc lo st :=
  fun H locs ls hR hn hS hl => vx_ret (kk H locs ls hR hn hS hl)
theorem aw_ofRun {a : Array Value} {st0 : List Value} (hr : ∀ (H : Heap) (locs : List Loc) (ls : Array Slot), Rel X f H → H.size = X.1 + n → va_S (fun q => X.1 ≤ q) s.heap H locs → LH X.1 ls nL lo → va_Run p l e R s m args below meth c H locs cells slots mc ms (F0 m pc ls (st0.map (rn X.1))) (st.map (rn X.1)) (PostM X Q a) (fun q => X.1 ≤ q))
    (kk : ∀ (v : Option Value) (f' : AH) (n' : Nat), Q v f' n' → AW X p l e R s m args below meth c nL Z f' n' (cells + mc) (slots + ms) (pc + 3) lo (v.toList ++ st)) : AW X p l e R s m args below meth c nL Z f n cells slots pc lo st0 := by
  intro H locs ls hR hn hS hl T hT XX
  obtain ⟨v, st₀, t, T', L, h0, X', hL, e1, e2, ⟨v', f', n', hv, hQ, hz', hR', hF⟩, stp⟩ := hr H locs ls hR hn hS hl T hT XX
  cases hv
  obtain ⟨k1, k2, k3⟩ := vx_keep (A0 := fun q => X.1 ≤ q) h0 e1 hS (fun q _ h => h) (fun q h => h) hL hF
  obtain ⟨t2, a1, b1⟩ := kk v' f' n' hQ T'.heap (locs ++ L) ls (by rw [e1]; exact hR') (by rw [e1]; exact hz') k3 hl T' rfl X'
  refine ⟨t2, stp t2 ?_, b1⟩
  have hst : (v'.toList ++ st).map (rn X.1) = (v'.map (rn X.1)).toList ++ st.map (rn X.1) := by cases v' <;> simp
  rw [hst] at a1
  exact a1
theorem PreM.blind (X : GX) (as : List Value) (f : AH) (n : Nat) : FrameBlind (PreM X as f n) := fun a U g mk q => by
  obtain ⟨q0, qG, qz, qR⟩ := q
  exact ⟨q0, qG.moved (State.WarmedH.refl U) (Nat.le_refl _) (fun _ _ _ => rfl), qz, qR⟩
theorem CC.pre (C : CC X p l R s m args meth c own cc nL ret) {H : Heap} {locs : List Loc} (hR : Rel X f H) (hn : H.size = X.1 + n) (hS : va_S (fun q => X.1 ≤ q) s.heap H locs) (as : List Value) : ∀ U : State, U.heap = H → s.WarmedH U.vm → PreM X as f n (as.map (rn X.1)).toArray U :=
  fun U hU hW => ⟨rfl, C.2.2.2.2.2.2.1.S hW hS hU, by rw [hU]; exact hn, by rw [hU]; exact hR⟩
theorem aw_callV (C : CC X p l R s m args meth c own cc nL ret) {idx : Nat} {y : MethodName} {bytes : ByteArray} {maxL : Nat} {ret' : Option FieldType} {np fr b ci : Nat} {fs : List Value} {q : vw_C} {st0 : List Value} (as : List Value) (g : MV own idx y bytes maxL ret' np) (hci : vwCl[ci]? = some q) (hq : y.cls = q.1) (hb : f b = some (.inr (ci, fs)))
    (hM : AM X l y bytes maxL ret' fr mc ms (.ref b :: as) f n Q) (he : st0 = as.reverse ++ .ref b :: st) (hd : decode cc pc = .ok (.invokevirtual idx, 3)) (hfr : fr + 1 ≤ R.frames) (hlo : 8 + (maxL + 11) + 36 * fr ≤ R.locals) (hnp : as.length = np) (hstk : (st.map fun v => v.category).sum ≤ 8) (hc : cells + mc ≤ R.cells) (hs : slots + ms ≤ R.slots)
    (kk : ∀ (v : Option Value) (f' : AH) (n' : Nat), Q v f' n' → AW X p l e R s m args below meth c nL Z f' n' (cells + mc) (slots + ms) (pc + 3) lo (v.toList ++ st)) : AW X p l e R s m args below meth c nL Z f n cells slots pc lo st0 := by
  subst he
  refine aw_ofRun (a := ((.ref b :: as).map (rn X.1)).toArray) (fun H locs ls hR hn hS hl => ?_) kk
  obtain ⟨g1, g2, g3, g4, g5, g6⟩ := g
  have hts := C.2.2.2.2.1
  have hG : GoodIn ALLW (wsV own idx y.cls y (Cond.code y bytes maxL ret' :: ALLW)) := ALLW_good (fun w hw => by
    simp only [wsV, List.cons_append, List.nil_append, List.mem_cons] at hw
    rcases hw with rfl | rfl | rfl | rfl | rfl | h
    · exact g1
    · exact g2
    · exact g3
    · exact g4
    · exact g5
    · exact h)
  have hrecv : ∃ cellB : Cell, H[X.1 + b]? = some cellB ∧ cellB.vm.isStatics = false ∧ s.vm.findClass y.cls = some cellB.cls := by
    obtain ⟨r, h1, cell, q1, q2, q3, -⟩ := hR b _ hb
    refine ⟨cell, q1, by rw [q3]; rfl, ?_⟩
    rw [q2, hq]
    exact (C.2.2.2.2.2.2.1.1.1 ci _ hci).2.1
  have := va_runV (C := y.cls) (b := X.1 + b) (As := as.map (rn X.1)) (rest := st.map (rn X.1)) (g := F0 m pc ls ((as.reverse ++ .ref b :: st).map (rn X.1))) (locs := locs) (cells := cells) (slots := slots) (e := e) (below := below) (meth := meth) ⟨C.1, C.2.1, C.2.2.1, C.2.2.2.1, hts⟩ hM (cwV np hts hG rfl rfl rfl ⟨rfl, g6⟩ ⟨hfr, hlo⟩) ⟨PreM.blind X _ f n, hrecv, C.pre hR hn hS (.ref b :: as)⟩ rfl (by rw [List.length_map]; exact hnp) hl.1 (by simp [rn]) (lv_room (by rw [cat_rn]; exact hstk)) hd ⟨hc, hs⟩
  exact this
theorem aw_callI (C : CC X p l R s m args meth c own cc nL ret) {idx : Nat} {y : MethodName} {bytes : ByteArray} {maxL : Nat} {np fr b : Nat} {st0 : List Value} (as : List Value) (g : MI own idx y bytes maxL np)
    (hM : AM X l y bytes maxL none fr mc ms (.ref b :: as) f n Q) (he : st0 = as.reverse ++ .ref b :: st) (hd : decode cc pc = .ok (.invokespecial idx, 3)) (hfr : fr + 1 ≤ R.frames) (hlo : 8 + (maxL + 11) + 36 * fr ≤ R.locals) (hnp : as.length = np) (hstk : (st.map fun v => v.category).sum ≤ 8) (hc : cells + mc ≤ R.cells) (hs : slots + ms ≤ R.slots)
    (kk : ∀ (v : Option Value) (f' : AH) (n' : Nat), Q v f' n' → AW X p l e R s m args below meth c nL Z f' n' (cells + mc) (slots + ms) (pc + 3) lo (v.toList ++ st)) : AW X p l e R s m args below meth c nL Z f n cells slots pc lo st0 := by
  subst he
  refine aw_ofRun (a := ((.ref b :: as).map (rn X.1)).toArray) (fun H locs ls hR hn hS hl => ?_) kk
  obtain ⟨g1, g2, g4, g5, g7, g6⟩ := g
  have hts := C.2.2.2.2.1
  have := va_runI (b := X.1 + b) (As := as.map (rn X.1)) (rest := st.map (rn X.1)) (g := F0 m pc ls ((as.reverse ++ .ref b :: st).map (rn X.1))) (locs := locs) (cells := cells) (slots := slots) (e := e) (below := below) (meth := meth) ⟨C.1, C.2.1, C.2.2.1, C.2.2.2.1, hts⟩ hM (cwI np hts (ALLW_all (fun _ h => h) g5) rfl rfl rfl (hts _ g4) (hts _ g1) (hts _ g2) g7 g6 ⟨hfr, hlo⟩) ⟨PreM.blind X _ f n, C.pre hR hn hS (.ref b :: as)⟩ rfl (by rw [List.length_map]; exact hnp) hl.1 (by simp [rn]) (lv_room (by rw [cat_rn]; exact hstk)) hd ⟨hc, hs⟩
  exact this
theorem aw_callS (C : CC X p l R s m args meth c own cc nL ret) {idx : Nat} {y : MethodName} {bytes : ByteArray} {maxL : Nat} {ret' : Option FieldType} {np fr : Nat} {st0 : List Value} (as : List Value) (g : MS own idx y bytes maxL ret' np)
    (hM : AM X l y bytes maxL ret' fr mc ms as f n Q) (he : st0 = as.reverse ++ st) (hd : decode cc pc = .ok (.invokestatic idx, 3)) (hfr : fr + 1 ≤ R.frames) (hlo : 8 + (maxL + 11) + 36 * fr ≤ R.locals) (hnp : as.length = np) (hstk : (st.map fun v => v.category).sum ≤ 8) (hc : cells + mc ≤ R.cells) (hs : slots + ms ≤ R.slots)
    (kk : ∀ (v : Option Value) (f' : AH) (n' : Nat), Q v f' n' → AW X p l e R s m args below meth c nL Z f' n' (cells + mc) (slots + ms) (pc + 3) lo (v.toList ++ st)) : AW X p l e R s m args below meth c nL Z f n cells slots pc lo st0 := by
  subst he
  refine aw_ofRun (a := (as.map (rn X.1)).toArray) (fun H locs ls hR hn hS hl => ?_) kk
  obtain ⟨g1, g2, g4, g5, g6⟩ := g
  have hts := C.2.2.2.2.1
  have := va_runS (As := as.map (rn X.1)) (rest := st.map (rn X.1)) (g := F0 m pc ls ((as.reverse ++ st).map (rn X.1))) (locs := locs) (cells := cells) (slots := slots) (e := e) (below := below) (meth := meth) ⟨C.1, C.2.1, C.2.2.1, C.2.2.2.1, hts⟩ hM ⟨callB_of np hts (ALLW_all (fun _ h => h) g5) rfl rfl rfl (hts _ g4) (hts _ g1) g6 ⟨hfr, hlo⟩, hts _ g2⟩ ⟨PreM.blind X _ f n, C.pre hR hn hS as⟩ rfl (by rw [List.length_map]; exact hnp) hl.1 (by simp) (lv_room (by rw [cat_rn]; exact hstk)) hd ⟨hc, hs⟩
  exact this
end AWC
end
/-! part 09.exc -/
section
/-! what throws, what catches -/
def AT (X : GX) (p : Program) (l : Launch) (e : Env) (R : Room) (s : State) (m : MethodId) (args : Array Value) (below : List Frame) (meth : Method) (c : Code) (nL : Nat) (Z : State → Prop) (E : String) (f : AH) (n cells slots pc : Nat) (lo : List (Option Value)) : Prop :=
  ∀ (H : Heap) (locs : List Loc) (ls : Array Slot) (rest : List Value) (q : Addr) (ce : Cell), Rel X f H → H.size = X.1 + n → va_S (fun q => X.1 ≤ q) s.heap H locs → LH X.1 ls nL lo → H[q]? = some ce → ce.vm = .none → s.vm.findClass E = some ce.cls → vx_W p l e R s m args below meth c H locs cells slots Z (F0 m pc ls rest) q
def AMW (X : GX) (l : Launch) (y : MethodName) (bytes : ByteArray) (maxL : Nat) (ret : Option FieldType) (hh : List (Nat × Nat × Nat × Nat)) (fr mc ms : Nat) (as : List Value) (f : AH) (n : Nat) (Q : Option Value → AH → Nat → Prop) : Prop :=
  Met l y (Cond.codeWith y bytes maxL ret hh :: ALLW) (RM fr mc ms) (PreM X as f n) (PostM X Q) mc ms (fun q => X.1 ≤ q)
theorem AMW.of {X : GX} {l : Launch} {y : MethodName} {bytes : ByteArray} {maxL : Nat} {ret : Option FieldType} {hh : List (Nat × Nat × Nat × Nat)} {fr mc ms : Nat} {as : List Value} {f : AH} {n : Nat} {Q : Option Value → AH → Nat → Prop} (hy : plainName y.cls = true) (has : as.all (fun w => w.category == 1) = true) (hle : as.length ≤ maxL)
    (body : ∀ (p : Program) (e : Env) (s : State) (m : MethodId) (args : Array Value) (below : List Frame) (meth : Method) (c : Code), CC X p l (RM fr mc ms) s m args meth c y.cls bytes maxL ret → c.exceptionTable.toList = tableOf hh → AW X p l e (RM fr mc ms) s m args below meth c maxL (ZM X below args s mc ms Q) f n 0 0 0 (enL as maxL) []) :
    AMW X l y bytes maxL ret hh fr mc ms as f n Q := by
  unfold AMW Met
  refine MetFree.of_bodyS (code := bytes) (maxLocals := maxL) (ret := ret) hy ?_ ?_
  · intro args s m h hn
    obtain ⟨m9, meth, c, hn9, h1, h2, h3, h4, -, h5, h6, -⟩ := Cond.codeWith_spec (atoms_spec (ws := Cond.codeWith y bytes maxL ret hh :: ALLW) h _ List.mem_cons_self)
    cases hn.symm.trans hn9
    exact ⟨meth, c, h1, h2, h3, h4, h5, h6⟩
  · intro p e s m args below meth c s₁ B hml hP _
    obtain ⟨rfl, hG, hsz, hR⟩ := hP
    have hh0 : s₁.heap = s.heap := by rw [B.state]; rfl
    have hts := atoms_spec (ws := Cond.codeWith y bytes maxL ret hh :: ALLW) B.pre
    have htab := vx_table (x := y) B (hts _ List.mem_cons_self)
    have hown : s.vm.findClass y.cls = some m.cls := findClass_of_methodNamed B.named
    have hC : CC X p l (RM fr mc ms) s m (as.map (rn X.1)).toArray meth c y.cls bytes maxL ret := ⟨B.exec, B.bytes, hml, hown, fun w hw => hts w (List.mem_cons_of_mem _ hw), B.notSynchronized, hG, B.returns⟩
    have hc : ∀ w ∈ as, w.category = 1 := fun w hw => by simpa using List.all_eq_true.mp has w hw
    have hc2 : ∀ w ∈ as.map (rn X.1), w.category = 1 := fun w hw => by
      obtain ⟨v, hv, rfl⟩ := List.mem_map.mp hw
      rw [rn_cat]; exact hc v hv
    have hl := lv_entry (as.map (rn X.1)) (n := maxL) (by rw [lg_sl_len _ hc2]; simpa using hle)
    have K : W p l e (RM fr mc ms) s m (as.map (rn X.1)).toArray below meth c s.heap [] 0 0 (ZM X below (as.map (rn X.1)).toArray s mc ms Q) (entryFrame m (as.map (rn X.1)).toArray maxL) := by
      rw [lg_entry_eq]
      exact body p e s m _ below meth c hC htab s.heap [] _ hR hsz va_S.rf (enL_LH hc hl)
    obtain ⟨t, a1, o, b1, b2, b3⟩ := K s₁ hh0 (Stand.of_body B)
    exact ⟨t, o, a1, b1, b2, ⟨b3.1, b3.2⟩⟩
section AWE
variable {X : GX} {p : Program} {l : Launch} {e : Env} {R : Room} {s : State} {m : MethodId} {args : Array Value} {below : List Frame} {meth : Method} {c : Code} {own : String} {cc : ByteArray} {nL : Nat} {ret : Option FieldType} {Z : State → Prop} {f : AH} {n cells slots pc : Nat} {lo : List (Option Value)} {st : List Value}
variable {mc ms : Nat} {Q : Option Value → AH → Nat → Prop} {QX : String → AH → Nat → Prop}
theorem at_out {E : String} (C : CC X p l R s m args meth c own cc nL ret) (htab : ∀ x ∈ c.exceptionTable.toList, False) (hQ : QX E f n) (hc : cells ≤ mc) (hs : slots ≤ ms) : AT X p l e R s m args below meth c nL (ZX X below args s mc ms Q QX) E f n cells slots pc lo := by
  intro H locs ls rest q ce hR hn hS hl h1 h2 h3
  exact vx_out (fun x hx => (htab x hx).elim) C.2.2.2.2.2.1 h1 h2 h3 (fun t ht hW => ⟨f, n, hQ, by rw [ht]; exact hn, by rw [ht]; exact hR, hS.F ht⟩) hS.2.2 hc hs
theorem ax_throw (C : CC X p l R s m args meth c "PieceFiles" cc nL ret) (htab : ∀ x ∈ c.exceptionTable.toList, False) (hl0 : l.stackTraces = false) {ik is ic : Nat} {cls text : String} (g : TH ik ic cls) (hstr : ("PieceFiles", is, text) ∈ strsX)
    (d0 : decode cc pc = .ok (.new ik, 3)) (d3 : decode cc (pc + 3) = .ok (.dup, 1)) (d4 : decode cc (pc + 4) = .ok (.ldc is, 2)) (d6 : decode cc (pc + 6) = .ok (.invokespecial ic, 3)) (d9 : decode cc (pc + 9) = .ok (.athrow, 1))
    (hfr : 6 ≤ R.frames) (hlo : (st.map fun v => v.category).sum + 82 ≤ R.locals) (hc1 : cells + 1 ≤ R.cells) (hs1 : slots + 6 ≤ R.slots) (hc : cells + 1 ≤ mc) (hs : slots + 6 ≤ ms) (hQ : ∀ n', n ≤ n' → QX cls f n') : AW X p l e R s m args below meth c nL (ZX X below args s mc ms Q QX) f n cells slots pc lo st := by
  intro H locs ls hR hn hS hl
  obtain ⟨g1, g2, g3, g4, g5, g6⟩ := g
  have hts := C.2.2.2.2.1
  have hG := C.2.2.2.2.2.2.1
  obtain ⟨sa, hsa⟩ := hG.2.2.2.2.2.1 _ hstr
  have hat : ∀ w ∈ vx_atS "PieceFiles" ic cls nmX, w.before args s = true := vx_hat (B := xW) (fun w hw => hts w (ALLW_mem (g3 w hw) (List.mem_filter.mp hw).2)) g4 (fun w hw => va_Nw.use (by
    simp only [xW, List.mem_cons, List.not_mem_nil, or_false] at hw
    rcases hw with rfl | rfl | rfl | rfl | rfl | rfl | rfl | rfl | rfl | rfl <;> rfl) (hG.2.2.2.2.2.2.1 w hw))
  refine vx_throwS (A := fun q => X.1 ≤ q) C.1 C.2.1 hl0 C.2.2.2.1 g6 (by decide +kernel) (hts _ g1) (hts _ g2) hsa hat g5 hG.2.1 hG.2.2.1 hS (by rw [C.2.2.1]; exact hl.1) d0 d3 d4 d6 d9 (fun x hx => (htab x hx).elim) hfr (by rw [cat_rn]; simpa using hlo) hc1 hs1 C.2.2.2.2.2.1 (fun t ht hz hk => ?_) hS.2.2 hc hs
  have hb : X.1 ≤ t.heap.size := by omega
  refine ⟨f, t.heap.size - X.1, hQ _ (by omega), by omega, fun i e he => (hR i e he).kept (hk _ (hR.lt he)), Nat.le_trans hS.1 hz, fun q h1 h2 => ?_⟩
  rw [hk q (Nat.lt_of_lt_of_le h1 hS.1)]
  exact hS.2.1 q h1 h2
theorem ax_throwW (C : CC X p l R s m args meth c "PieceFiles" cc nL ret) (htab : ∀ x ∈ c.exceptionTable.toList, False) (hl0 : l.stackTraces = false) {ik is ic : Nat} {cls text : String} (g : TH ik ic cls) (hstr : ("PieceFiles", is, text) ∈ strsX)
    (d0 : decode cc pc = .ok (.new ik, 3)) (d3 : decode cc (pc + 3) = .ok (.dup, 1)) (d4 : decode cc (pc + 4) = .ok (.ldc_w is, 3)) (d6 : decode cc (pc + 7) = .ok (.invokespecial ic, 3)) (d9 : decode cc (pc + 10) = .ok (.athrow, 1))
    (hfr : 6 ≤ R.frames) (hlo : (st.map fun v => v.category).sum + 82 ≤ R.locals) (hc1 : cells + 1 ≤ R.cells) (hs1 : slots + 6 ≤ R.slots) (hc : cells + 1 ≤ mc) (hs : slots + 6 ≤ ms) (hQ : ∀ n', n ≤ n' → QX cls f n') : AW X p l e R s m args below meth c nL (ZX X below args s mc ms Q QX) f n cells slots pc lo st := by
  intro H locs ls hR hn hS hl
  obtain ⟨g1, g2, g3, g4, g5, g6⟩ := g
  have hts := C.2.2.2.2.1
  have hG := C.2.2.2.2.2.2.1
  obtain ⟨sa, hsa⟩ := hG.2.2.2.2.2.1 _ hstr
  have hat : ∀ w ∈ vx_atS "PieceFiles" ic cls nmX, w.before args s = true := vx_hat (B := xW) (fun w hw => hts w (ALLW_mem (g3 w hw) (List.mem_filter.mp hw).2)) g4 (fun w hw => va_Nw.use (by
    simp only [xW, List.mem_cons, List.not_mem_nil, or_false] at hw
    rcases hw with rfl | rfl | rfl | rfl | rfl | rfl | rfl | rfl | rfl | rfl <;> rfl) (hG.2.2.2.2.2.2.1 w hw))
  refine vx_throwSW (A := fun q => X.1 ≤ q) C.1 C.2.1 hl0 C.2.2.2.1 g6 (by decide +kernel) (hts _ g1) (hts _ g2) hsa hat g5 hG.2.1 hG.2.2.1 hS (by rw [C.2.2.1]; exact hl.1) d0 d3 d4 d6 d9 (fun x hx => (htab x hx).elim) hfr (by rw [cat_rn]; simpa using hlo) hc1 hs1 C.2.2.2.2.2.1 (fun t ht hz hk => ?_) hS.2.2 hc hs
  have hb : X.1 ≤ t.heap.size := by omega
  refine ⟨f, t.heap.size - X.1, hQ _ (by omega), by omega, fun i e he => (hR i e he).kept (hk _ (hR.lt he)), Nat.le_trans hS.1 hz, fun q h1 h2 => ?_⟩
  rw [hk q (Nat.lt_of_lt_of_le h1 hS.1)]
  exact hS.2.1 q h1 h2
/-- a call that may throw -/
theorem ax_callV {mc1 ms1 : Nat} {Q1 : Option Value → AH → Nat → Prop} {QX1 : String → AH → Nat → Prop} (C : CC X p l R s m args meth c own cc nL ret) {idx : Nat} {y : MethodName} {bytes : ByteArray} {maxL : Nat} {ret' : Option FieldType} {np fr b ci : Nat} {fs : List Value} {q : vw_C} {st0 : List Value} (as : List Value) (g : MV own idx y bytes maxL ret' np) (hci : vwCl[ci]? = some q) (hq : y.cls = q.1) (hb : f b = some (.inr (ci, fs)))
    (hM : AX X l y bytes maxL ret' fr mc1 ms1 (.ref b :: as) f n Q1 QX1) (he : st0 = as.reverse ++ .ref b :: st) (hd : decode cc pc = .ok (.invokevirtual idx, 3)) (hfr : fr + 1 ≤ R.frames) (hlo : 8 + (maxL + 11) + 36 * fr ≤ R.locals) (hnp : as.length = np) (hstk : (st.map fun v => v.category).sum ≤ 8) (hc : cells + mc1 ≤ R.cells) (hs : slots + ms1 ≤ R.slots)
    (kx : ∀ (E : String) (f' : AH) (n' : Nat), QX1 E f' n' → AT X p l e R s m args below meth c nL Z E f' n' (cells + mc1) (slots + ms1) pc lo)
    (kk : ∀ (v : Option Value) (f' : AH) (n' : Nat), Q1 v f' n' → AW X p l e R s m args below meth c nL Z f' n' (cells + mc1) (slots + ms1) (pc + 3) lo (v.toList ++ st)) : AW X p l e R s m args below meth c nL Z f n cells slots pc lo st0 := by
  subst he
  intro H locs ls hR hn hS hl T hT XX
  obtain ⟨g1, g2, g3, g4, g5, g6⟩ := g
  have hts := C.2.2.2.2.1
  have hG : GoodIn ALLW (wsV own idx y.cls y (Cond.code y bytes maxL ret' :: ALLW)) := ALLW_good (fun w hw => by
    simp only [wsV, List.cons_append, List.nil_append, List.mem_cons] at hw
    rcases hw with rfl | rfl | rfl | rfl | rfl | h
    · exact g1
    · exact g2
    · exact g3
    · exact g4
    · exact g5
    · exact h)
  have hrecv : ∃ cellB : Cell, H[X.1 + b]? = some cellB ∧ cellB.vm.isStatics = false ∧ s.vm.findClass y.cls = some cellB.cls := by
    obtain ⟨r, h1, cell, q1, q2, q3, -⟩ := hR b _ hb
    refine ⟨cell, q1, by rw [q3]; rfl, ?_⟩
    rw [q2, hq]
    exact (C.2.2.2.2.2.2.1.1.1 ci _ hci).2.1
  have hr := vx_runV (C := y.cls) (b := X.1 + b) (As := as.map (rn X.1)) (rest := st.map (rn X.1)) (g := F0 m pc ls ((as.reverse ++ .ref b :: st).map (rn X.1))) (locs := locs) (cells := cells) (slots := slots) (e := e) (below := below) (meth := meth) ⟨C.1, C.2.1, C.2.2.1, C.2.2.2.1, hts⟩ hM (cwV np hts hG rfl rfl rfl ⟨rfl, g6⟩ ⟨hfr, hlo⟩) ⟨PreM.blind X _ f n, hrecv, C.pre hR hn hS (.ref b :: as)⟩ rfl (by rw [List.length_map]; exact hnp) hl.1 (by simp [rn]) (lv_room (by rw [cat_rn]; exact hstk)) hd ⟨hc, hs⟩
  rcases hr T hT XX with ⟨v, st₀, t, T', L, h0, X', hL, e1, e2, ⟨v', f', n', hv, hQ, hz', hR', hF⟩, stp⟩ | ⟨q9, st₀, t, T', L, E, ce, h0, X', hL, e1, e2, ⟨f', n', hQ, hz', hR', hF⟩, hce, hcv, hcl, stp⟩
  · cases hv
    obtain ⟨k1, k2, k3⟩ := vx_keep (A0 := fun q => X.1 ≤ q) h0 e1 hS (fun q _ h => h) (fun q h => h) hL hF
    obtain ⟨t2, a1, b1⟩ := kk v' f' n' hQ T'.heap (locs ++ L) ls (by rw [e1]; exact hR') (by rw [e1]; exact hz') k3 hl T' rfl X'
    refine ⟨t2, stp t2 ?_, b1⟩
    have hst : (v'.toList ++ st).map (rn X.1) = (v'.map (rn X.1)).toList ++ st.map (rn X.1) := by cases v' <;> simp
    rw [hst] at a1
    exact a1
  · obtain ⟨k1, k2, k3⟩ := vx_keep (A0 := fun q => X.1 ≤ q) h0 e1 hS (fun q _ h => h) (fun q h => h) hL hF
    obtain ⟨t2, a1, b1⟩ := kx E f' n' hQ T'.heap (locs ++ L) ls _ q9 ce (by rw [e1]; exact hR') (by rw [e1]; exact hz') k3 hl (by rw [e1]; exact hce) hcv hcl T' rfl X'
    exact ⟨t2, stp.trans a1, b1⟩
/-- caught here: the handler puts it away first -/
theorem at_catch {E : String} (C : CC X p l R s m args meth c own cc nL ret) {hh : List (Nat × Nat × Nat × Nat)} (htab : c.exceptionTable.toList = tableOf hh) (pre : List ExceptionTableEntry) (x : ExceptionTableEntry) (suf : List ExceptionTableEntry) (hsplit : tableOf hh = pre ++ x :: suf) {nm : String}
    (hpass : ∀ z ∈ pre, covers z pc = false ∨ (z.catchType ≠ 0 ∧ ∃ nm : String, Cond.classLink own z.catchType nm ∈ ALLW ∧ (E, nm) ∈ ncX)) (hx : covers x pc = true) (h0 : x.catchType ≠ 0) (hlk : Cond.classLink own x.catchType nm ∈ ALLW) (hcast : Cond.castable E nm ∈ xW)
    (kk : ∀ (H : Heap) (locs : List Loc) (ls : Array Slot) (q : Addr), Rel X f H → H.size = X.1 + n → va_S (fun q => X.1 ≤ q) s.heap H locs → LH X.1 ls nL lo → W p l e R s m args below meth c H locs cells slots Z (F0 m x.handlerPc ls [.ref q])) : AT X p l e R s m args below meth c nL Z E f n cells slots pc lo := by
  intro H locs ls rest q ce hR hn hS hl h1 h2 h3
  have hts := C.2.2.2.2.1
  have hG := C.2.2.2.2.2.2.1
  refine vx_catch C.2.2.2.1 pre x suf (htab.trans hsplit) (fun z hz => ?_) hx h0 (hts _ hlk) (va_Nw.use rfl (hG.2.2.2.2.2.2.1 _ hcast)) h1 h2 h3 (kk H locs ls q hR hn hS hl)
  rcases hpass z hz with h | ⟨h4, nm2, h5, h6⟩
  · exact Or.inl h
  · exact Or.inr ⟨h4, nm2, hts _ h5, hG.2.2.2.2.2.2.2.1 _ h6⟩
theorem LH.put {b : Nat} {ls' : Array Slot} {nL i : Nat} {lo : List (Option Value)} {w : Value} (hok : okS lo i = true) (h : lv_has ls' nL ((i, w) :: (prs b lo).filter (fun q => !(q.1 == i) && !(q.1 + 1 == i && q.2.category == 2)))) : LH b ls' nL (lo.set i none) := by
  refine ⟨h.1, h.2.1, fun j v hj => ?_⟩
  by_cases hji : j = i
  · subst hji
    rw [List.getElem?_set] at hj
    simp at hj
  · rw [List.getElem?_set_ne (Ne.symm hji)] at hj
    refine h.2.2 (j, rn b v) (List.mem_cons_of_mem _ (List.mem_filter.mpr ⟨prs_mem hj, ?_⟩))
    have h1 : (j == i) = false := by simpa using hji
    by_cases h2 : j + 1 = i
    · subst h2
      simp only [okS, hj] at hok
      have h3 : v.category = 1 := by simpa using hok
      simp [h1, rn_cat, h3]
    · have h4 : (j + 1 == i) = false := by simpa using h2
      simp [h1, h4]
theorem ah_astore_n (C : CC X p l R s m args meth c own cc nL ret) {k : Fin 4} (hd : decode cc pc = .ok (.astore_n k, 1)) (hn' : (k : Nat) < nL) (hok : okS lo k = true) (kk : AW X p l e R s m args below meth c nL Z f n cells slots (pc + 1) (lo.set k none) []) :
    ∀ (H : Heap) (locs : List Loc) (ls : Array Slot) (q : Addr), Rel X f H → H.size = X.1 + n → va_S (fun q => X.1 ≤ q) s.heap H locs → LH X.1 ls nL lo → W p l e R s m args below meth c H locs cells slots Z (F0 m pc ls [.ref q]) := by
  intro H locs ls q hR hn hS hl
  exact lv_astore_n C.1 C.2.1 hd rfl hl.has hn' rfl (fun ls' h' => kk H locs ls' hR hn hS (LH.put hok h'))
theorem ah_astore (C : CC X p l R s m args meth c own cc nL ret) {i : Nat} (hd : decode cc pc = .ok (.astore i, 2)) (hn' : i < nL) (hok : okS lo i = true) (kk : AW X p l e R s m args below meth c nL Z f n cells slots (pc + 2) (lo.set i none) []) :
    ∀ (H : Heap) (locs : List Loc) (ls : Array Slot) (q : Addr), Rel X f H → H.size = X.1 + n → va_S (fun q => X.1 ≤ q) s.heap H locs → LH X.1 ls nL lo → W p l e R s m args below meth c H locs cells slots Z (F0 m pc ls [.ref q]) := by
  intro H locs ls q hR hn hS hl
  exact lv_astore C.1 C.2.1 hd hl.has hn' rfl (fun ls' h' => kk H locs ls' hR hn hS (LH.put hok h'))
theorem aw_callSW (C : CC X p l R s m args meth c own cc nL ret) {idx : Nat} {y : MethodName} {bytes : ByteArray} {maxL : Nat} {ret' : Option FieldType} {hh : List (Nat × Nat × Nat × Nat)} {np fr : Nat} {st0 : List Value} (as : List Value) (g : MSW own idx y bytes maxL ret' hh np)
    (hM : AMW X l y bytes maxL ret' hh fr mc ms as f n Q) (he : st0 = as.reverse ++ st) (hd : decode cc pc = .ok (.invokestatic idx, 3)) (hfr : fr + 1 ≤ R.frames) (hlo : 8 + (maxL + 11) + 36 * fr ≤ R.locals) (hnp : as.length = np) (hstk : (st.map fun v => v.category).sum ≤ 8) (hc : cells + mc ≤ R.cells) (hs : slots + ms ≤ R.slots)
    (kk : ∀ (v : Option Value) (f' : AH) (n' : Nat), Q v f' n' → AW X p l e R s m args below meth c nL Z f' n' (cells + mc) (slots + ms) (pc + 3) lo (v.toList ++ st)) : AW X p l e R s m args below meth c nL Z f n cells slots pc lo st0 := by
  subst he
  refine aw_ofRun (a := (as.map (rn X.1)).toArray) (fun H locs ls hR hn hS hl => ?_) kk
  obtain ⟨g1, g2, g4, g5, g6⟩ := g
  have hts := C.2.2.2.2.1
  have hG : GoodIn ALLW (va_wsS own idx y (Cond.codeWith y bytes maxL ret' hh :: ALLW)) := ALLW_good (fun w hw => by
    simp only [va_wsS, List.cons_append, List.nil_append, List.mem_cons] at hw
    rcases hw with rfl | rfl | rfl | rfl | h
    · exact g1
    · exact g2
    · exact g4
    · exact g5
    · exact h)
  have := vx_runSW (hh := hh) (As := as.map (rn X.1)) (rest := st.map (rn X.1)) (g := F0 m pc ls ((as.reverse ++ st).map (rn X.1))) (locs := locs) (cells := cells) (slots := slots) (e := e) (below := below) (meth := meth) ⟨C.1, C.2.1, C.2.2.1, C.2.2.2.1, hts⟩ hM (vx_cwSW np hts hG rfl rfl rfl g6 ⟨hfr, hlo⟩) ⟨PreM.blind X _ f n, C.pre hR hn hS as⟩ rfl (by rw [List.length_map]; exact hnp) hl.1 (by simp) (lv_room (by rw [cat_rn]; exact hstk)) hd ⟨hc, hs⟩
  exact this
theorem aw_callIN (C : CC X p l R s m args meth c own cc nL ret) {idx : Nat} {y : MethodName} {bytes : ByteArray} {maxL : Nat} {np fr b : Nat} {st0 : List Value} (as : List Value) (g : MN own idx y bytes maxL none np) (gi : y.name = "<init>") (gi2 : Cond.instanceMethod y ∈ ALLW)
    (hM : AM X l y bytes maxL none fr mc ms (.ref b :: as) f n Q) (he : st0 = as.reverse ++ .ref b :: st) (hd : decode cc pc = .ok (.invokespecial idx, 3)) (hfr : fr + 1 ≤ R.frames) (hlo : 8 + (maxL + 11) + 36 * fr ≤ R.locals) (hnp : as.length = np) (hstk : (st.map fun v => v.category).sum ≤ 8) (hc : cells + mc ≤ R.cells) (hs : slots + ms ≤ R.slots)
    (kk : ∀ (v : Option Value) (f' : AH) (n' : Nat), Q v f' n' → AW X p l e R s m args below meth c nL Z f' n' (cells + mc) (slots + ms) (pc + 3) lo (v.toList ++ st)) : AW X p l e R s m args below meth c nL Z f n cells slots pc lo st0 := by
  subst he
  refine aw_ofRun (a := ((.ref b :: as).map (rn X.1)).toArray) (fun H locs ls hR hn hS hl => ?_) kk
  obtain ⟨g1, g4, g5, g6⟩ := g
  have hts := C.2.2.2.2.1
  have := va_runIN (b := X.1 + b) (As := as.map (rn X.1)) (rest := st.map (rn X.1)) (g := F0 m pc ls ((as.reverse ++ .ref b :: st).map (rn X.1))) (locs := locs) (cells := cells) (slots := slots) (e := e) (below := below) (meth := meth) ⟨C.1, C.2.1, C.2.2.1, C.2.2.2.1, hts⟩ hM ⟨va_cnB np hts (ALLW_all (fun _ h => h) g5) rfl rfl rfl (C.2.2.2.2.2.2.1.2.2.2.2.2.2.1 _ g1) (hts _ g4) g6 ⟨hfr, hlo⟩, gi, hts _ gi2⟩ ⟨PreM.blind X _ f n, C.pre hR hn hS (.ref b :: as)⟩ rfl (by rw [List.length_map]; exact hnp) hl.1 (by simp [rn]) (lv_room (by rw [cat_rn]; exact hstk)) hd ⟨hc, hs⟩
  exact this
theorem aw_callSN (C : CC X p l R s m args meth c own cc nL ret) {idx : Nat} {y : MethodName} {bytes : ByteArray} {maxL : Nat} {ret' : Option FieldType} {np fr : Nat} {st0 : List Value} (as : List Value) (g : MN own idx y bytes maxL ret' np) (gi2 : Cond.static y ∈ ALLW)
    (hM : AM X l y bytes maxL ret' fr mc ms as f n Q) (he : st0 = as.reverse ++ st) (hd : decode cc pc = .ok (.invokestatic idx, 3)) (hfr : fr + 1 ≤ R.frames) (hlo : 8 + (maxL + 11) + 36 * fr ≤ R.locals) (hnp : as.length = np) (hstk : (st.map fun v => v.category).sum ≤ 8) (hc : cells + mc ≤ R.cells) (hs : slots + ms ≤ R.slots)
    (kk : ∀ (v : Option Value) (f' : AH) (n' : Nat), Q v f' n' → AW X p l e R s m args below meth c nL Z f' n' (cells + mc) (slots + ms) (pc + 3) lo (v.toList ++ st)) : AW X p l e R s m args below meth c nL Z f n cells slots pc lo st0 := by
  subst he
  refine aw_ofRun (a := (as.map (rn X.1)).toArray) (fun H locs ls hR hn hS hl => ?_) kk
  obtain ⟨g1, g4, g5, g6⟩ := g
  have hts := C.2.2.2.2.1
  have := va_runSN (As := as.map (rn X.1)) (rest := st.map (rn X.1)) (g := F0 m pc ls ((as.reverse ++ st).map (rn X.1))) (locs := locs) (cells := cells) (slots := slots) (e := e) (below := below) (meth := meth) ⟨C.1, C.2.1, C.2.2.1, C.2.2.2.1, hts⟩ hM ⟨va_cnB np hts (ALLW_all (fun _ h => h) g5) rfl rfl rfl (C.2.2.2.2.2.2.1.2.2.2.2.2.2.1 _ g1) (hts _ g4) g6 ⟨hfr, hlo⟩, hts _ gi2, trivial⟩ ⟨PreM.blind X _ f n, C.pre hR hn hS as⟩ rfl (by rw [List.length_map]; exact hnp) hl.1 (by simp) (lv_room (by rw [cat_rn]; exact hstk)) hd ⟨hc, hs⟩
  exact this
end AWE
end
/-! part 10.ovl -/
section
/-! heaps as a base and a list of what was written since -/
def lk : List (Nat × AE) → Nat → Option AE
  | [], _ => none
  | q :: l, i => bif Nat.beq i q.1 then some q.2 else lk l i
def ovl (f : AH) (l : List (Nat × AE)) : AH := fun i => match lk l i with
  | some a => some a
  | none => f i
def ins : List (Nat × AE) → Nat → AE → List (Nat × AE)
  | [], i, a => [(i, a)]
  | q :: l, i, a => bif Nat.beq i q.1 then (i, a) :: l else q :: ins l i a
def insA (l : List (Nat × AE)) : List (Nat × AE) → List (Nat × AE)
  | [] => l
  | q :: l2 => ins (insA l l2) q.1 q.2
theorem lk_ins (l : List (Nat × AE)) (i : Nat) (a : AE) (j : Nat) : lk (ins l i a) j = if j = i then some a else lk l j := by
  induction l with
  | nil =>
    by_cases h : j = i
    · subst h; simp [ins, lk, Nat.beq_refl]
    · have h2 : Nat.beq j i = false := by rw [← Bool.not_eq_true, Nat.beq_eq]; exact h
      simp [ins, lk, h2, h]
  | cons q l ih =>
    by_cases hq : i = q.1
    · have h1 : Nat.beq i q.1 = true := by rw [Nat.beq_eq]; exact hq
      simp only [ins, h1, cond_true]
      by_cases h : j = i
      · subst h; simp [lk, Nat.beq_refl]
      · have h2 : Nat.beq j i = false := by rw [← Bool.not_eq_true, Nat.beq_eq]; exact h
        have h3 : Nat.beq j q.1 = false := by rw [← hq]; exact h2
        simp [lk, h2, h3, h]
    · have h1 : Nat.beq i q.1 = false := by rw [← Bool.not_eq_true, Nat.beq_eq]; exact hq
      simp only [ins, h1, cond_false]
      by_cases h : j = q.1
      · have h2 : Nat.beq j q.1 = true := by rw [Nat.beq_eq]; exact h
        have h3 : ¬ j = i := fun e => hq (e.symm.trans h)
        simp [lk, h2, h3]
      · have h2 : Nat.beq j q.1 = false := by rw [← Bool.not_eq_true, Nat.beq_eq]; exact h
        simp only [lk, h2, cond_false]
        exact ih
theorem ovl_ins (f : AH) (l : List (Nat × AE)) (i : Nat) (a : AE) : va_up (ovl f l) i (some a) = ovl f (ins l i a) := by
  funext j
  show (if j = i then some a else ovl f l j) = _
  unfold ovl
  rw [lk_ins]
  by_cases h : j = i
  · simp [h]
  · simp [h]
theorem ovl_nil (f : AH) : ovl f [] = f := rfl
theorem ovl_cons (f : AH) (q : Nat × AE) (l : List (Nat × AE)) : ovl f (q :: l) = va_up (ovl f l) q.1 (some q.2) := by
  funext j
  show _ = (if j = q.1 then some q.2 else ovl f l j)
  unfold ovl
  by_cases h : j = q.1
  · have h2 : Nat.beq j q.1 = true := by rw [Nat.beq_eq]; exact h
    simp [lk, h2, h]
  · have h2 : Nat.beq j q.1 = false := by rw [← Bool.not_eq_true, Nat.beq_eq]; exact h
    simp [lk, h2, h]
theorem ovl_ovl (f : AH) (l : List (Nat × AE)) : ∀ l2 : List (Nat × AE), ovl (ovl f l) l2 = ovl f (insA l l2)
  | [] => rfl
  | q :: l2 => by rw [ovl_cons, ovl_ovl f l l2, ovl_ins]; rfl
/-- the post of a method that comes to one end -/
def EXO (f : AH) (l2 : List (Nat × AE)) (v : Option Value) (n : Nat) : Option Value → AH → Nat → Prop := fun v' f' n' => v' = v ∧ f' = ovl f l2 ∧ n' = n
def TXO (E : String) (f : AH) (l2 : List (Nat × AE)) (n : Nat) : String → AH → Nat → Prop := fun E' f' n' => E' = E ∧ f' = ovl f l2 ∧ n ≤ n'
section AWO
variable {X : GX} {p : Program} {l : Launch} {e : Env} {R : Room} {s : State} {m : MethodId} {args : Array Value} {below : List Frame} {meth : Method} {c : Code} {own : String} {cc : ByteArray} {nL : Nat} {ret : Option FieldType} {Z : State → Prop} {f : AH} {n cells slots pc : Nat} {lo : List (Option Value)} {st : List Value} {L : List (Nat × AE)}
variable {mc ms : Nat}
theorem ao_start (kk : AW X p l e R s m args below meth c nL Z (ovl f []) n cells slots pc lo st) : AW X p l e R s m args below meth c nL Z f n cells slots pc lo st := kk
theorem ao_flat {L2 : List (Nat × AE)} (l' : List (Nat × AE)) (hL : insA L L2 = l') (kk : AW X p l e R s m args below meth c nL Z (ovl f l') n cells slots pc lo st) : AW X p l e R s m args below meth c nL Z (ovl (ovl f L) L2) n cells slots pc lo st := by
  rw [ovl_ovl, hL]; exact kk
theorem ao_put (C : CC X p l R s m args meth c own cc nL ret) {idx ci k i : Nat} {fs : List Value} {v : Value} {ty0 : Nat → FieldType} (l' : List (Nat × AE)) (g : GF own idx ci k) (cf : CF ci ty0) (nf : noFin ci k) (hf : ovl f L i = some (.inr (ci, fs))) (hl' : k < fs.length) (hn' : narrow (ty0 k) v = v) (hfit : fits (ty0 k) v = true) (hd : decode cc pc = .ok (.putfield idx, 3)) (hL : ins L i (.inr (ci, fs.set k v)) = l')
    (kk : AW X p l e R s m args below meth c nL Z (ovl f l') n cells slots (pc + 3) lo st) : AW X p l e R s m args below meth c nL Z (ovl f L) n cells slots pc lo (v :: .ref i :: st) := by
  refine aw_put C g cf nf hf hl' hn' hfit hd ?_
  rw [ovl_ins, hL]; exact kk
theorem ao_putF (C : CC X p l R s m args meth c own cc nL ret) {idx ci k i : Nat} {fs : List Value} {v : Value} {ty0 : Nat → FieldType} (l' : List (Nat × AE)) (g : GF own idx ci k) (cf : CF ci ty0) (nf : isFin own ci k) (hin2 : meth.name = "<init>") (hf : ovl f L i = some (.inr (ci, fs))) (hl' : k < fs.length) (hn' : narrow (ty0 k) v = v) (hfit : fits (ty0 k) v = true) (hd : decode cc pc = .ok (.putfield idx, 3)) (hL : ins L i (.inr (ci, fs.set k v)) = l')
    (kk : AW X p l e R s m args below meth c nL Z (ovl f l') n cells slots (pc + 3) lo st) : AW X p l e R s m args below meth c nL Z (ovl f L) n cells slots pc lo (v :: .ref i :: st) := by
  refine aw_putF C g cf nf hin2 hf hl' hn' hfit hd ?_
  rw [ovl_ins, hL]; exact kk
theorem ao_iald (C : CC X p l R s m args meth c own cc nL ret) {i len k : Nat} {g : Nat → Int32} {x : Int32} (w : Int32) (hf : ovl f L i = some (.inl (0, len, .inl g))) (hin : vp_in x len) (hk : x.toNatClampNeg = k) (hw : g k = w) (hd : decode cc pc = .ok (.iaload, 1))
    (kk : AW X p l e R s m args below meth c nL Z (ovl f L) n cells slots (pc + 1) lo (.int w :: st)) : AW X p l e R s m args below meth c nL Z (ovl f L) n cells slots pc lo (.int x :: .ref i :: st) := by
  refine aw_iald C hf hin hd ?_
  rw [hk, hw]; exact kk
theorem ao_lald (C : CC X p l R s m args meth c own cc nL ret) {i len k : Nat} {g : Nat → Int64} {x : Int32} (w : Int64) (hf : ovl f L i = some (.inl (4, len, .inr (.inl g)))) (hin : vp_in x len) (hk : x.toNatClampNeg = k) (hw : g k = w) (hd : decode cc pc = .ok (.laload, 1))
    (kk : AW X p l e R s m args below meth c nL Z (ovl f L) n cells slots (pc + 1) lo (.long w :: st)) : AW X p l e R s m args below meth c nL Z (ovl f L) n cells slots pc lo (.int x :: .ref i :: st) := by
  refine aw_lald C hf hin hd ?_
  rw [hk, hw]; exact kk
theorem ao_aald (C : CC X p l R s m args meth c own cc nL ret) {t i len k : Nat} {g : Nat → Option Nat} {x : Int32} {Cn : String} (w : Value) (ht : t < 5) (hty : tyN t = .object Cn) (hf : ovl f L i = some (.inl (t, len, .inr (.inr g)))) (hin : vp_in x len) (hk : x.toNatClampNeg = k) (hw : va_rf (g k) = w) (hd : decode cc pc = .ok (.aaload, 1))
    (kk : AW X p l e R s m args below meth c nL Z (ovl f L) n cells slots (pc + 1) lo (w :: st)) : AW X p l e R s m args below meth c nL Z (ovl f L) n cells slots pc lo (.int x :: .ref i :: st) := by
  refine aw_aald C ht hty hf hin hd ?_
  rw [hk, hw]; exact kk
theorem ao_iast (C : CC X p l R s m args meth c own cc nL ret) {i len k : Nat} {g : Nat → Int32} {x v : Int32} (l' : List (Nat × AE)) (hf : ovl f L i = some (.inl (0, len, .inl g))) (hin : vp_in x len) (hk : x.toNatClampNeg = k) (hd : decode cc pc = .ok (.iastore, 1)) (hL : ins L i (.inl (0, len, .inl (upd g k v))) = l')
    (kk : AW X p l e R s m args below meth c nL Z (ovl f l') n cells slots (pc + 1) lo st) : AW X p l e R s m args below meth c nL Z (ovl f L) n cells slots pc lo (.int v :: .int x :: .ref i :: st) := by
  refine aw_iast C hf hin hd ?_
  rw [hk, ovl_ins, hL]; exact kk
theorem ao_last (C : CC X p l R s m args meth c own cc nL ret) {i len k : Nat} {g : Nat → Int64} {x : Int32} {v : Int64} (l' : List (Nat × AE)) (hf : ovl f L i = some (.inl (4, len, .inr (.inl g)))) (hin : vp_in x len) (hk : x.toNatClampNeg = k) (hd : decode cc pc = .ok (.lastore, 1)) (hL : ins L i (.inl (4, len, .inr (.inl (vp_updL g k v)))) = l')
    (kk : AW X p l e R s m args below meth c nL Z (ovl f l') n cells slots (pc + 1) lo st) : AW X p l e R s m args below meth c nL Z (ovl f L) n cells slots pc lo (.long v :: .int x :: .ref i :: st) := by
  refine aw_last C hf hin hd ?_
  rw [hk, ovl_ins, hL]; exact kk
theorem ao_aast (C : CC X p l R s m args meth c own cc nL ret) {t i len v ci k : Nat} {g : Nat → Option Nat} {x : Int32} {q : vw_C} {vs : List Value} (l' : List (Nat × AE)) (ht : t < 5) (hc : vwCl[ci]? = some q) (hty : tyN t = .object q.1) (hf : ovl f L i = some (.inl (t, len, .inr (.inr g)))) (hv : ovl f L v = some (.inr (ci, vs))) (hin : vp_in x len) (hk : x.toNatClampNeg = k) (hd : decode cc pc = .ok (.aastore, 1)) (hL : ins L i (.inl (t, len, .inr (.inr (va_up g k (some v))))) = l')
    (kk : AW X p l e R s m args below meth c nL Z (ovl f l') n cells slots (pc + 1) lo st) : AW X p l e R s m args below meth c nL Z (ovl f L) n cells slots pc lo (.ref v :: .int x :: .ref i :: st) := by
  refine aw_aast C ht hc hty hf hv hin hd ?_
  rw [hk, ovl_ins, hL]; exact kk
theorem ao_aastN (C : CC X p l R s m args meth c own cc nL ret) {t i len k : Nat} {g : Nat → Option Nat} {x : Int32} {Cn : String} (l' : List (Nat × AE)) (ht : t < 5) (hty : tyN t = .object Cn) (hf : ovl f L i = some (.inl (t, len, .inr (.inr g)))) (hin : vp_in x len) (hk : x.toNatClampNeg = k) (hd : decode cc pc = .ok (.aastore, 1)) (hL : ins L i (.inl (t, len, .inr (.inr (va_up g k none)))) = l')
    (kk : AW X p l e R s m args below meth c nL Z (ovl f l') n cells slots (pc + 1) lo st) : AW X p l e R s m args below meth c nL Z (ovl f L) n cells slots pc lo (.null :: .int x :: .ref i :: st) := by
  refine aw_aastN C ht hty hf hin hd ?_
  rw [hk, ovl_ins, hL]; exact kk
theorem ao_new (C : CC X p l R s m args meth c own cc nL ret) {idx ci : Nat} {fs : List Value} (l' : List (Nat × AE)) (g : NW own idx ci fs) (hcells : cells + 1 ≤ R.cells) (hslots : slots + fs.length ≤ R.slots) (hd : decode cc pc = .ok (.new idx, 3)) (hL : ins L n (.inr (ci, fs)) = l')
    (kk : AW X p l e R s m args below meth c nL Z (ovl f l') (n + 1) (cells + 1) (slots + fs.length) (pc + 3) lo (.ref n :: st)) : AW X p l e R s m args below meth c nL Z (ovl f L) n cells slots pc lo st := by
  refine aw_new C g hcells hslots hd ?_
  rw [ovl_ins, hL]; exact kk
theorem ao_newi (C : CC X p l R s m args meth c own cc nL ret) {x : Int32} (N : Nat) (l' : List (Nat × AE)) (h0 : ¬ x < 0) (hN : x.toNatClampNeg = N) (hbytes : N * 4 ≤ 536870912) (hcells : cells + 1 ≤ R.cells) (hslots : slots + N ≤ R.slots) (hd : decode cc pc = .ok (.newarray .int, 2)) (hL : ins L n (.inl (0, N, .inl (fun _ => 0))) = l')
    (kk : AW X p l e R s m args below meth c nL Z (ovl f l') (n + 1) (cells + 1) (slots + N) (pc + 2) lo (.ref n :: st)) : AW X p l e R s m args below meth c nL Z (ovl f L) n cells slots pc lo (.int x :: st) := by
  refine aw_newi C ac_int h0 hN hbytes hcells hslots hd ?_
  rw [ovl_ins, hL]; exact kk
theorem ao_newl (C : CC X p l R s m args meth c own cc nL ret) {x : Int32} (N : Nat) (l' : List (Nat × AE)) (h0 : ¬ x < 0) (hN : x.toNatClampNeg = N) (hbytes : N * 8 ≤ 536870912) (hcells : cells + 1 ≤ R.cells) (hslots : slots + N ≤ R.slots) (hd : decode cc pc = .ok (.newarray .long, 2)) (hL : ins L n (.inl (4, N, .inr (.inl (fun _ => 0)))) = l')
    (kk : AW X p l e R s m args below meth c nL Z (ovl f l') (n + 1) (cells + 1) (slots + N) (pc + 2) lo (.ref n :: st)) : AW X p l e R s m args below meth c nL Z (ovl f L) n cells slots pc lo (.int x :: st) := by
  refine aw_newl C ac_long h0 hN hbytes hcells hslots hd ?_
  rw [ovl_ins, hL]; exact kk
theorem ao_newq (C : CC X p l R s m args meth c own cc nL ret) (t : Nat) {idx : Nat} {x : Int32} (N : Nat) {Cn : String} (l' : List (Nat × AE)) (ht : t < 5) (hty : tyN t = .object Cn) (hcl : Cond.classLink own idx Cn ∈ ALLW) (hao : va_AO Cn s) (h0 : ¬ x < 0) (hN : x.toNatClampNeg = N) (hbytes : N * 4 ≤ 536870912) (hcells : cells + 1 ≤ R.cells) (hslots : slots + N ≤ R.slots) (hd : decode cc pc = .ok (.anewarray idx, 3)) (hL : ins L n (.inl (t, N, .inr (.inr (fun _ => none)))) = l')
    (kk : AW X p l e R s m args below meth c nL Z (ovl f l') (n + 1) (cells + 1) (slots + N) (pc + 3) lo (.ref n :: st)) : AW X p l e R s m args below meth c nL Z (ovl f L) n cells slots pc lo (.int x :: st) := by
  refine aw_newq C ht hty hcl hao h0 hN hbytes hcells hslots hd ?_
  rw [ovl_ins, hL]; exact kk
theorem ao_callV (C : CC X p l R s m args meth c own cc nL ret) {idx : Nat} {y : MethodName} {bytes : ByteArray} {maxL : Nat} {ret' : Option FieldType} {np fr b ci n2 : Nat} {fs : List Value} {q : vw_C} {st0 : List Value} {L2 : List (Nat × AE)} {v : Option Value} (as : List Value) (l' : List (Nat × AE)) (g : MV own idx y bytes maxL ret' np) (hci : vwCl[ci]? = some q) (hq : y.cls = q.1) (hb : ovl f L b = some (.inr (ci, fs)))
    (hM : AM X l y bytes maxL ret' fr mc ms (.ref b :: as) (ovl f L) n (EXO (ovl f L) L2 v n2)) (he : st0 = as.reverse ++ .ref b :: st) (hd : decode cc pc = .ok (.invokevirtual idx, 3)) (hfr : fr + 1 ≤ R.frames) (hlo : 8 + (maxL + 11) + 36 * fr ≤ R.locals) (hnp : as.length = np) (hstk : (st.map fun v => v.category).sum ≤ 8) (hc : cells + mc ≤ R.cells) (hs : slots + ms ≤ R.slots) (hL : insA L L2 = l')
    (kk : AW X p l e R s m args below meth c nL Z (ovl f l') n2 (cells + mc) (slots + ms) (pc + 3) lo (v.toList ++ st)) : AW X p l e R s m args below meth c nL Z (ovl f L) n cells slots pc lo st0 :=
  aw_callV C as g hci hq hb hM he hd hfr hlo hnp hstk hc hs (fun v' f' n' hh => by
    obtain ⟨rfl, rfl, rfl⟩ := hh
    exact ao_flat l' hL kk)
theorem ao_callI (C : CC X p l R s m args meth c own cc nL ret) {idx : Nat} {y : MethodName} {bytes : ByteArray} {maxL : Nat} {np fr b n2 : Nat} {st0 : List Value} {L2 : List (Nat × AE)} {v : Option Value} (as : List Value) (l' : List (Nat × AE)) (g : MI own idx y bytes maxL np)
    (hM : AM X l y bytes maxL none fr mc ms (.ref b :: as) (ovl f L) n (EXO (ovl f L) L2 v n2)) (he : st0 = as.reverse ++ .ref b :: st) (hd : decode cc pc = .ok (.invokespecial idx, 3)) (hfr : fr + 1 ≤ R.frames) (hlo : 8 + (maxL + 11) + 36 * fr ≤ R.locals) (hnp : as.length = np) (hstk : (st.map fun v => v.category).sum ≤ 8) (hc : cells + mc ≤ R.cells) (hs : slots + ms ≤ R.slots) (hL : insA L L2 = l')
    (kk : AW X p l e R s m args below meth c nL Z (ovl f l') n2 (cells + mc) (slots + ms) (pc + 3) lo (v.toList ++ st)) : AW X p l e R s m args below meth c nL Z (ovl f L) n cells slots pc lo st0 :=
  aw_callI C as g hM he hd hfr hlo hnp hstk hc hs (fun v' f' n' hh => by
    obtain ⟨rfl, rfl, rfl⟩ := hh
    exact ao_flat l' hL kk)
theorem ao_callS (C : CC X p l R s m args meth c own cc nL ret) {idx : Nat} {y : MethodName} {bytes : ByteArray} {maxL : Nat} {ret' : Option FieldType} {np fr n2 : Nat} {st0 : List Value} {L2 : List (Nat × AE)} {v : Option Value} (as : List Value) (l' : List (Nat × AE)) (g : MS own idx y bytes maxL ret' np)
    (hM : AM X l y bytes maxL ret' fr mc ms as (ovl f L) n (EXO (ovl f L) L2 v n2)) (he : st0 = as.reverse ++ st) (hd : decode cc pc = .ok (.invokestatic idx, 3)) (hfr : fr + 1 ≤ R.frames) (hlo : 8 + (maxL + 11) + 36 * fr ≤ R.locals) (hnp : as.length = np) (hstk : (st.map fun v => v.category).sum ≤ 8) (hc : cells + mc ≤ R.cells) (hs : slots + ms ≤ R.slots) (hL : insA L L2 = l')
    (kk : AW X p l e R s m args below meth c nL Z (ovl f l') n2 (cells + mc) (slots + ms) (pc + 3) lo (v.toList ++ st)) : AW X p l e R s m args below meth c nL Z (ovl f L) n cells slots pc lo st0 :=
  aw_callS C as g hM he hd hfr hlo hnp hstk hc hs (fun v' f' n' hh => by
    obtain ⟨rfl, rfl, rfl⟩ := hh
    exact ao_flat l' hL kk)
theorem ao_callIN (C : CC X p l R s m args meth c own cc nL ret) {idx : Nat} {y : MethodName} {bytes : ByteArray} {maxL : Nat} {np fr b n2 : Nat} {st0 : List Value} {L2 : List (Nat × AE)} {v : Option Value} (as : List Value) (l' : List (Nat × AE)) (g : MN own idx y bytes maxL none np) (gi : y.name = "<init>") (gi2 : Cond.instanceMethod y ∈ ALLW)
    (hM : AM X l y bytes maxL none fr mc ms (.ref b :: as) (ovl f L) n (EXO (ovl f L) L2 v n2)) (he : st0 = as.reverse ++ .ref b :: st) (hd : decode cc pc = .ok (.invokespecial idx, 3)) (hfr : fr + 1 ≤ R.frames) (hlo : 8 + (maxL + 11) + 36 * fr ≤ R.locals) (hnp : as.length = np) (hstk : (st.map fun v => v.category).sum ≤ 8) (hc : cells + mc ≤ R.cells) (hs : slots + ms ≤ R.slots) (hL : insA L L2 = l')
    (kk : AW X p l e R s m args below meth c nL Z (ovl f l') n2 (cells + mc) (slots + ms) (pc + 3) lo (v.toList ++ st)) : AW X p l e R s m args below meth c nL Z (ovl f L) n cells slots pc lo st0 :=
  aw_callIN C as g gi gi2 hM he hd hfr hlo hnp hstk hc hs (fun v' f' n' hh => by
    obtain ⟨rfl, rfl, rfl⟩ := hh
    exact ao_flat l' hL kk)
end AWO
end
/-! part 11.misc -/
section
section AWM
variable {X : GX} {p : Program} {l : Launch} {e : Env} {R : Room} {s : State} {m : MethodId} {args : Array Value} {below : List Frame} {meth : Method} {c : Code} {nL : Nat} {Z : State → Prop} {f : AH} {n cells slots pc : Nat} {lo : List (Option Value)} {st : List Value}
theorem aw_nl (lo' : List (Option Value)) (h : lo = lo') (k : AW X p l e R s m args below meth c nL Z f n cells slots pc lo' st) : AW X p l e R s m args below meth c nL Z f n cells slots pc lo st := h ▸ k
theorem aw_top {x : Int32} (w : Int32) (h : x = w) (k : AW X p l e R s m args below meth c nL Z f n cells slots pc lo (.int w :: st)) : AW X p l e R s m args below meth c nL Z f n cells slots pc lo (.int x :: st) := h ▸ k
end AWM
theorem c_lt {x y : Int32} (h : x.toInt < y.toInt) : x < y := Int32.lt_iff_toInt_lt.mpr h
theorem c_nlt {x y : Int32} (h : y.toInt ≤ x.toInt) : ¬ x < y := fun q => by have := Int32.lt_iff_toInt_lt.mp q; omega
theorem c_le {x y : Int32} (h : x.toInt ≤ y.toInt) : x ≤ y := Int32.le_iff_toInt_le.mpr h
theorem c_nle {x y : Int32} (h : y.toInt < x.toInt) : ¬ x ≤ y := fun q => by have := Int32.le_iff_toInt_le.mp q; omega
theorem c_ne {x y : Int32} (h : x.toInt ≠ y.toInt) : ¬ x = y := fun q => h (by rw [q])
theorem kc_X9_19 : Cond.constant RX9 19 34776 ∈ ALLW := ALLW_t 1143 (by decide +kernel) (by decide +kernel)
theorem aw_ldc {X : GX} {p : Program} {l : Launch} {e : Env} {R : Room} {s : State} {m : MethodId} {args : Array Value} {below : List Frame} {meth : Method} {c : Code} {own : String} {cc : ByteArray} {nL : Nat} {ret : Option FieldType} {Z : State → Prop} {f : AH} {n cells slots pc : Nat} {lo : List (Option Value)} {st : List Value} (C : CC X p l R s m args meth c own cc nL ret) {idx : Nat} (w : Int32) (hd : decode cc pc = .ok (.ldc idx, 2)) (hw : Cond.constant own idx w ∈ ALLW) (k0 : AW X p l e R s m args below meth c nL Z f n cells slots (pc + 2) lo (.int w :: st)) : AW X p l e R s m args below meth c nL Z f n cells slots pc lo st := by
  intro H locs ls hR hn hS hl
  exact lv_ldc C.1 C.2.1 C.2.2.2.1 (C.2.2.2.2.1 _ hw) hd (k0 H locs ls hR hn hS hl)
end
/-! part 12s.str -/
section
theorem dJ0_coder_7d493_0 : decode cJ0_coder_7d493 0 = .ok (.getstatic 38, 3) := by decide +kernel
theorem dJ0_coder_7d493_3 : decode cJ0_coder_7d493 3 = .ok (.ifCond .eq 10, 3) := by decide +kernel
theorem dJ0_coder_7d493_6 : decode cJ0_coder_7d493 6 = .ok (.aload_n 0, 1) := by decide +kernel
theorem dJ0_coder_7d493_7 : decode cJ0_coder_7d493 7 = .ok (.getfield 15, 3) := by decide +kernel
theorem dJ0_coder_7d493_10 : decode cJ0_coder_7d493 10 = .ok (.goto 4, 3) := by decide +kernel
theorem dJ0_coder_7d493_14 : decode cJ0_coder_7d493 14 = .ok (.ireturn, 1) := by decide +kernel
theorem dJ0_length_8abf5_0 : decode cJ0_length_8abf5 0 = .ok (.aload_n 0, 1) := by decide +kernel
theorem dJ0_length_8abf5_1 : decode cJ0_length_8abf5 1 = .ok (.getfield 9, 3) := by decide +kernel
theorem dJ0_length_8abf5_4 : decode cJ0_length_8abf5 4 = .ok (.arraylength, 1) := by decide +kernel
theorem dJ0_length_8abf5_5 : decode cJ0_length_8abf5 5 = .ok (.aload_n 0, 1) := by decide +kernel
theorem dJ0_length_8abf5_6 : decode cJ0_length_8abf5 6 = .ok (.invokevirtual 335, 3) := by decide +kernel
theorem dJ0_length_8abf5_9 : decode cJ0_length_8abf5 9 = .ok (.ishr, 1) := by decide +kernel
theorem dJ0_length_8abf5_10 : decode cJ0_length_8abf5 10 = .ok (.ireturn, 1) := by decide +kernel
theorem dJ0_isLatin1_aae02_0 : decode cJ0_isLatin1_aae02 0 = .ok (.getstatic 38, 3) := by decide +kernel
theorem dJ0_isLatin1_aae02_3 : decode cJ0_isLatin1_aae02 3 = .ok (.ifCond .eq 14, 3) := by decide +kernel
theorem dJ0_isLatin1_aae02_6 : decode cJ0_isLatin1_aae02 6 = .ok (.aload_n 0, 1) := by decide +kernel
theorem dJ0_isLatin1_aae02_7 : decode cJ0_isLatin1_aae02 7 = .ok (.getfield 15, 3) := by decide +kernel
theorem dJ0_isLatin1_aae02_10 : decode cJ0_isLatin1_aae02 10 = .ok (.ifCond .ne 7, 3) := by decide +kernel
theorem dJ0_isLatin1_aae02_13 : decode cJ0_isLatin1_aae02 13 = .ok (.iconst 1, 1) := by decide +kernel
theorem dJ0_isLatin1_aae02_14 : decode cJ0_isLatin1_aae02 14 = .ok (.goto 4, 3) := by decide +kernel
theorem dJ0_isLatin1_aae02_18 : decode cJ0_isLatin1_aae02 18 = .ok (.ireturn, 1) := by decide +kernel
theorem dJ3_checkIndex_8e157_0 : decode cJ3_checkIndex_8e157 0 = .ok (.iload_n 0, 1) := by decide +kernel
theorem dJ3_checkIndex_8e157_1 : decode cJ3_checkIndex_8e157 1 = .ok (.ifCond .lt 8, 3) := by decide +kernel
theorem dJ3_checkIndex_8e157_4 : decode cJ3_checkIndex_8e157 4 = .ok (.iload_n 0, 1) := by decide +kernel
theorem dJ3_checkIndex_8e157_5 : decode cJ3_checkIndex_8e157 5 = .ok (.iload_n 1, 1) := by decide +kernel
theorem dJ3_checkIndex_8e157_6 : decode cJ3_checkIndex_8e157 6 = .ok (.if_icmp .lt 10, 3) := by decide +kernel
theorem dJ3_checkIndex_8e157_16 : decode cJ3_checkIndex_8e157 16 = .ok (.iload_n 0, 1) := by decide +kernel
theorem dJ3_checkIndex_8e157_17 : decode cJ3_checkIndex_8e157 17 = .ok (.ireturn, 1) := by decide +kernel
theorem dJ0_checkIndex_df160_0 : decode cJ0_checkIndex_df160 0 = .ok (.iload_n 0, 1) := by decide +kernel
theorem dJ0_checkIndex_df160_1 : decode cJ0_checkIndex_df160 1 = .ok (.iload_n 1, 1) := by decide +kernel
theorem dJ0_checkIndex_df160_5 : decode cJ0_checkIndex_df160 5 = .ok (.invokestatic 1059, 3) := by decide +kernel
theorem dJ0_checkIndex_df160_8 : decode cJ0_checkIndex_df160 8 = .ok (.pop, 1) := by decide +kernel
theorem dJ0_checkIndex_df160_9 : decode cJ0_checkIndex_df160 9 = .ok (.return_, 1) := by decide +kernel
theorem dJ0_checkIndex_df160_2 : decode cJ0_checkIndex_df160 2 = .ok (.getstatic 1053, 3) := by decide +kernel
theorem dJ1_charAt_3b067_0 : decode cJ1_charAt_3b067 0 = .ok (.iload_n 1, 1) := by decide +kernel
theorem dJ1_charAt_3b067_1 : decode cJ1_charAt_3b067 1 = .ok (.aload_n 0, 1) := by decide +kernel
theorem dJ1_charAt_3b067_2 : decode cJ1_charAt_3b067 2 = .ok (.arraylength, 1) := by decide +kernel
theorem dJ1_charAt_3b067_3 : decode cJ1_charAt_3b067 3 = .ok (.invokestatic 9, 3) := by decide +kernel
theorem dJ1_charAt_3b067_6 : decode cJ1_charAt_3b067 6 = .ok (.aload_n 0, 1) := by decide +kernel
theorem dJ1_charAt_3b067_7 : decode cJ1_charAt_3b067 7 = .ok (.iload_n 1, 1) := by decide +kernel
theorem dJ1_charAt_3b067_8 : decode cJ1_charAt_3b067 8 = .ok (.baload, 1) := by decide +kernel
theorem dJ1_charAt_3b067_9 : decode cJ1_charAt_3b067 9 = .ok (.sipush 255, 3) := by decide +kernel
theorem dJ1_charAt_3b067_12 : decode cJ1_charAt_3b067 12 = .ok (.iand, 1) := by decide +kernel
theorem dJ1_charAt_3b067_13 : decode cJ1_charAt_3b067 13 = .ok (.i2c, 1) := by decide +kernel
theorem dJ1_charAt_3b067_14 : decode cJ1_charAt_3b067 14 = .ok (.ireturn, 1) := by decide +kernel
theorem dJ0_charAt_5068e_0 : decode cJ0_charAt_5068e 0 = .ok (.aload_n 0, 1) := by decide +kernel
theorem dJ0_charAt_5068e_1 : decode cJ0_charAt_5068e 1 = .ok (.invokevirtual 492, 3) := by decide +kernel
theorem dJ0_charAt_5068e_4 : decode cJ0_charAt_5068e 4 = .ok (.ifCond .eq 12, 3) := by decide +kernel
theorem dJ0_charAt_5068e_7 : decode cJ0_charAt_5068e 7 = .ok (.aload_n 0, 1) := by decide +kernel
theorem dJ0_charAt_5068e_8 : decode cJ0_charAt_5068e 8 = .ok (.getfield 9, 3) := by decide +kernel
theorem dJ0_charAt_5068e_11 : decode cJ0_charAt_5068e 11 = .ok (.iload_n 1, 1) := by decide +kernel
theorem dJ0_charAt_5068e_12 : decode cJ0_charAt_5068e 12 = .ok (.invokestatic 495, 3) := by decide +kernel
theorem dJ0_charAt_5068e_15 : decode cJ0_charAt_5068e 15 = .ok (.ireturn, 1) := by decide +kernel
section AWK
variable {X : GX} {p : Program} {l : Launch} {e : Env} {R : Room} {s : State} {m : MethodId} {args : Array Value} {below : List Frame} {meth : Method} {c : Code} {own : String} {cc : ByteArray} {nL : Nat} {ret : Option FieldType} {Z : State → Prop} {f : AH} {n cells slots pc : Nat} {lo : List (Option Value)} {st : List Value}
variable {mc ms : Nat} {Q : Option Value → AH → Nat → Prop}
abbrev oldA (X : GX) : Nat → Prop := fun q => X.1 ≤ q
theorem aw_getK (C : CC X p l R s m args meth c own cc nL ret) {idx a : Nat} {o nm d : String} (v : Value) (hE : va_OF o nm d (rn X.1 v) a (fun q => X.1 ≤ q) s s.heap) (hlk : Cond.fieldLink own idx o nm d ∈ ALLW) (hd : decode cc pc = .ok (.getfield idx, 3)) (kk : AW X p l e R s m args below meth c nL Z f n cells slots (pc + 3) lo (v :: st)) : AW X p l e R s m args below meth c nL Z f n cells slots pc lo (.retAddr a :: st) := by
  intro H locs ls hR hn hS hl
  exact vk_getf C.1 C.2.1 hE hS C.2.2.2.1 (C.2.2.2.2.1 _ hlk) (fun _ h => h) hd (kk H locs ls hR hn hS hl)
theorem aw_getsK (C : CC X p l R s m args meth c own cc nL ret) {idx : Nat} {o nm d : String} (v : Value) (hZ : va_Z o nm d (rn X.1 v) (fun q => X.1 ≤ q) s s.heap) (hlk : Cond.fieldLink own idx o nm d ∈ ALLW) (hd : decode cc pc = .ok (.getstatic idx, 3)) (kk : AW X p l e R s m args below meth c nL Z f n cells slots (pc + 3) lo (v :: st)) : AW X p l e R s m args below meth c nL Z f n cells slots pc lo st := by
  intro H locs ls hR hn hS hl
  exact va_gets C.1 C.2.1 hZ hS C.2.2.2.1 (C.2.2.2.2.1 _ hlk) (fun _ h => h) hd (kk H locs ls hR hn hS hl)
theorem aw_lenK (C : CC X p l R s m args meth c own cc nL ret) {a N : Nat} {ty : FieldType} {g : Nat → Value} (hT : va_T ty a N g (fun q => X.1 ≤ q) s s.heap) (hd : decode cc pc = .ok (.arraylength, 1)) (kk : AW X p l e R s m args below meth c nL Z f n cells slots (pc + 1) lo (.int (nI N) :: st)) : AW X p l e R s m args below meth c nL Z f n cells slots pc lo (.retAddr a :: st) := by
  intro H locs ls hR hn hS hl
  exact va_tlen C.1 C.2.1 hT hS rfl hd (kk H locs ls hR hn hS hl)
theorem aw_baldK (C : CC X p l R s m args meth c own cc nL ret) {a N : Nat} {g : Nat → Int32} {x : Int32} (hT : va_T .byte a N (fun j => .int (g j)) (fun q => X.1 ≤ q) s s.heap) (hin : vp_in x N) (hd : decode cc pc = .ok (.baload, 1)) (kk : AW X p l e R s m args below meth c nL Z f n cells slots (pc + 1) lo (.int (g x.toNatClampNeg) :: st)) : AW X p l e R s m args below meth c nL Z f n cells slots pc lo (.int x :: .retAddr a :: st) := by
  intro H locs ls hR hn hS hl
  exact va_tb C.1 C.2.1 hT hS hin rfl hd (kk H locs ls hR hn hS hl)
theorem aw_i2cK (C : CC X p l R s m args meth c own cc nL ret) {b : Int32} (hd : decode cc pc = .ok (.i2c, 1)) (kk : AW X p l e R s m args below meth c nL Z f n cells slots (pc + 1) lo (.int (b &&& 255) :: st)) : AW X p l e R s m args below meth c nL Z f n cells slots pc lo (.int (b &&& 255) :: st) := by
  intro H locs ls hR hn hS hl
  exact lv_i2c C.1 C.2.1 hd (sc_c2 b) (kk H locs ls hR hn hS hl)
theorem aw_ldcK (C : CC X p l R s m args meth c own cc nL ret) {idx a : Nat} {tx : String} (hZ : vk_R own idx tx a s) (hd : decode cc pc = .ok (.ldc idx, 2)) (kk : AW X p l e R s m args below meth c nL Z f n cells slots (pc + 2) lo (.retAddr a :: st)) : AW X p l e R s m args below meth c nL Z f n cells slots pc lo st := by
  intro H locs ls hR hn hS hl
  exact va_ldcS C.1 C.2.1 C.2.2.2.1 hZ hd (kk H locs ls hR hn hS hl)
theorem aw_ldcwK (C : CC X p l R s m args meth c own cc nL ret) {idx a : Nat} {tx : String} (hZ : vk_R own idx tx a s) (hd : decode cc pc = .ok (.ldc_w idx, 3)) (kk : AW X p l e R s m args below meth c nL Z f n cells slots (pc + 3) lo (.retAddr a :: st)) : AW X p l e R s m args below meth c nL Z f n cells slots pc lo st := by
  intro H locs ls hR hn hS hl T hT XX
  obtain ⟨t, a1, b1⟩ := kk H locs ls hR hn hS hl T hT XX
  exact ⟨t, XX.ldcStringW C.1 C.2.2.2.1 (text := tx) (a := a) hZ.1 hZ.2 (g := F0 m pc ls (st.map (rn X.1))) rfl (by rw [C.2.1]; exact hd) t a1, b1⟩
theorem aw_raw (C : CC X p l R s m args meth c own cc nL ret) {i a : Nat} (hd : decode cc pc = .ok (.aload i, 2)) (hl' : lo[i]? = some (some (.retAddr a))) (kk : AW X p l e R s m args below meth c nL Z f n cells slots (pc + 2) lo (.retAddr a :: st)) : AW X p l e R s m args below meth c nL Z f n cells slots pc lo st := by
  intro H locs ls hR hn hS hl
  exact lv_aload C.1 C.2.1 hd (hl.2.2 _ _ hl') (kk H locs ls hR hn hS hl)
theorem aw_callK (C : CC X p l R s m args meth c own cc nL ret) {idx : Nat} {y : MethodName} {bytes : ByteArray} {maxL : Nat} {ret' : Option FieldType} {np fr b : Nat} {st0 : List Value} (as : List Value) (g : MV own idx y bytes maxL ret' np) (hb : ∀ (H : Heap) (locs : List Loc), va_S (fun q => X.1 ≤ q) s.heap H locs → ∃ cellB : Cell, H[b]? = some cellB ∧ cellB.vm.isStatics = false ∧ s.vm.findClass y.cls = some cellB.cls)
    (hM : AM X l y bytes maxL ret' fr mc ms (.retAddr b :: as) f n Q) (he : st0 = as.reverse ++ .retAddr b :: st) (hd : decode cc pc = .ok (.invokevirtual idx, 3)) (hfr : fr + 1 ≤ R.frames) (hlo : 8 + (maxL + 11) + 36 * fr ≤ R.locals) (hnp : as.length = np) (hstk : (st.map fun v => v.category).sum ≤ 8) (hc : cells + mc ≤ R.cells) (hs : slots + ms ≤ R.slots)
    (kk : ∀ (v : Option Value) (f' : AH) (n' : Nat), Q v f' n' → AW X p l e R s m args below meth c nL Z f' n' (cells + mc) (slots + ms) (pc + 3) lo (v.toList ++ st)) : AW X p l e R s m args below meth c nL Z f n cells slots pc lo st0 := by
  subst he
  refine aw_ofRun (a := ((.retAddr b :: as).map (rn X.1)).toArray) (fun H locs ls hR hn hS hl => ?_) kk
  obtain ⟨g1, g2, g3, g4, g5, g6⟩ := g
  have hts := C.2.2.2.2.1
  have hG : GoodIn ALLW (wsV own idx y.cls y (Cond.code y bytes maxL ret' :: ALLW)) := ALLW_good (fun w hw => by
    simp only [wsV, List.cons_append, List.nil_append, List.mem_cons] at hw
    rcases hw with rfl | rfl | rfl | rfl | rfl | h
    · exact g1
    · exact g2
    · exact g3
    · exact g4
    · exact g5
    · exact h)
  have := va_runV (C := y.cls) (b := b) (As := as.map (rn X.1)) (rest := st.map (rn X.1)) (g := F0 m pc ls ((as.reverse ++ .retAddr b :: st).map (rn X.1))) (locs := locs) (cells := cells) (slots := slots) (e := e) (below := below) (meth := meth) ⟨C.1, C.2.1, C.2.2.1, C.2.2.2.1, hts⟩ hM (cwV np hts hG rfl rfl rfl ⟨rfl, g6⟩ ⟨hfr, hlo⟩) ⟨PreM.blind X _ f n, hb H locs hS, C.pre hR hn hS (.retAddr b :: as)⟩ rfl (by rw [List.length_map]; exact hnp) hl.1 (by simp [rn]) (lv_room (by rw [cat_rn]; exact hstk)) hd ⟨hc, hs⟩
  exact this
end AWK
/-- the post of a call that changes nothing -/
def QS (f : AH) (n : Nat) (v : Option Value) : Option Value → AH → Nat → Prop := fun v' f' n' => v' = v ∧ f' = f ∧ n' = n
/-- text i of a table that GG holds: where, its bytes' place, how many, which -/
def STA (X : GX) (N : Nat) (len : List Nat) (byt : List (List Int32)) (oK oV : Nat) : Prop := ∀ U : State, GG X U → vk_S N len byt (fun i => X.2.2 (oK + i)) (fun i => X.2.2 (oV + i)) (fun q => X.1 ≤ q) U U.heap
theorem STA9 (X : GX) : STA X 15 sL9 sB9 1000 2000 := fun U h => h.2.2.2.2.2.2.2.2.1.1
theorem STA4 (X : GX) : STA X 12 sL4 sB4 3000 4000 := fun U h => h.2.2.2.2.2.2.2.2.2.1.1
theorem fk_val : Cond.fieldLink RJ0 9 zS "value" "[B" ∈ ALLW := (ALLW_t 1789 (by decide +kernel) (by decide +kernel))
theorem fk_cod : Cond.fieldLink RJ0 15 zS "coder" "B" ∈ ALLW := (ALLW_t 1790 (by decide +kernel) (by decide +kernel))
theorem fk_cmp : Cond.fieldLink RJ0 38 zS zC "Z" ∈ ALLW := (ALLW_t 847 (by decide +kernel) (by decide +kernel))
theorem fk_fmt : Cond.fieldLink RJ0 1053 zP zF zD ∈ ALLW := (ALLW_t 863 (by decide +kernel) (by decide +kernel))
theorem zk_1 : Int32.ofInt 1 = 1 := by decide
theorem zk_0 : Int32.ofInt 0 = 0 := by decide
theorem zk_255 : (Int16.ofInt 255).toInt32 = 255 := by decide
theorem sk_coder {X : GX} {l : Launch} {f : AH} {n N i oK oV : Nat} {len : List Nat} {byt : List (List Int32)} (hs : STA X N len byt oK oV) (hi : i < N) : AM X l yJ0_coder_7d493 cJ0_coder_7d493 1 (some .byte) 0 0 0 [.retAddr (X.2.2 (oK + i))] f n (QS f n (some (.int 0))) := by
  refine AM.of (by decide +kernel) rfl (Nat.le_of_ble_eq_true rfl) (fun p e s m args below meth c C _ => ?_)
  have hE := (hs s C.2.2.2.2.2.2.1).1 i hi
  have hZ := C.2.2.2.2.2.2.1.2.2.2.2.2.2.2.2.2.2.1
  refine aw_nl [some (.retAddr (X.2.2 (oK + i)))] rfl ?_
  refine aw_getsK C (.int 1) hZ fk_cmp dJ0_coder_7d493_0 ?_
  refine aw_if_eq C 13 dJ0_coder_7d493_3 (by decide) (fun q => absurd q (by decide)) (fun _ => ?_)
  refine aw_raw_n C dJ0_coder_7d493_6 rfl ?_
  refine aw_getK C (.int 0) hE.2.1 fk_cod dJ0_coder_7d493_7 ?_
  refine aw_goto C 14 dJ0_coder_7d493_10 (by decide) ?_
  exact aw_iret C rfl rfl dJ0_coder_7d493_14 (Nat.le_of_ble_eq_true rfl) (Nat.le_of_ble_eq_true rfl) ⟨rfl, rfl, rfl⟩
theorem sk_len {X : GX} {l : Launch} {f : AH} {n N i oK oV : Nat} {len : List Nat} {byt : List (List Int32)} (hs : STA X N len byt oK oV) (hi : i < N) (hb : len.getD i 0 < 2 ^ 31) : AM X l yJ0_length_8abf5 cJ0_length_8abf5 1 (some .int) 1 0 0 [.retAddr (X.2.2 (oK + i))] f n (QS f n (some (.int (nI (len.getD i 0))))) := by
  refine AM.of (by decide +kernel) rfl (Nat.le_of_ble_eq_true rfl) (fun p e s m args below meth c C _ => ?_)
  have hE := (hs s C.2.2.2.2.2.2.1).1 i hi
  have hZ := C.2.2.2.2.2.2.1.2.2.2.2.2.2.2.2.2.2.1
  refine aw_nl [some (.retAddr (X.2.2 (oK + i)))] rfl ?_
  refine aw_raw_n C dJ0_length_8abf5_0 rfl ?_
  refine aw_getK C (.retAddr (X.2.2 (oV + i))) hE.2.2.1 fk_val dJ0_length_8abf5_1 ?_
  refine aw_lenK C hE.2.2.2 dJ0_length_8abf5_4 ?_
  refine aw_raw_n C dJ0_length_8abf5_5 rfl ?_
  refine aw_callK C [] mv_J0_335 (fun H locs hS => vk_recv (hs s C.2.2.2.2.2.2.1) hi hS) (sk_coder hs hi) rfl dJ0_length_8abf5_6 (Nat.le_of_ble_eq_true rfl) (Nat.le_of_ble_eq_true rfl) rfl (Nat.le_of_ble_eq_true rfl) (Nat.le_of_ble_eq_true rfl) (Nat.le_of_ble_eq_true rfl) (fun v9 f9 n9 hh => ?_)
  obtain ⟨rfl, rfl, rfl⟩ := hh
  refine ae_ishr C (nI (len.getD i 0)) dJ0_length_8abf5_9 (sc_shr0 hb) ?_
  exact aw_iret C rfl rfl dJ0_length_8abf5_10 (Nat.le_of_ble_eq_true rfl) (Nat.le_of_ble_eq_true rfl) ⟨rfl, rfl, rfl⟩
theorem sk_lat {X : GX} {l : Launch} {f : AH} {n N i oK oV : Nat} {len : List Nat} {byt : List (List Int32)} (hs : STA X N len byt oK oV) (hi : i < N) : AM X l yJ0_isLatin1_aae02 cJ0_isLatin1_aae02 1 (some .boolean) 0 0 0 [.retAddr (X.2.2 (oK + i))] f n (QS f n (some (.int 1))) := by
  refine AM.of (by decide +kernel) rfl (Nat.le_of_ble_eq_true rfl) (fun p e s m args below meth c C _ => ?_)
  have hE := (hs s C.2.2.2.2.2.2.1).1 i hi
  have hZ := C.2.2.2.2.2.2.1.2.2.2.2.2.2.2.2.2.2.1
  refine aw_nl [some (.retAddr (X.2.2 (oK + i)))] rfl ?_
  refine aw_getsK C (.int 1) hZ fk_cmp dJ0_isLatin1_aae02_0 ?_
  refine aw_if_eq C 17 dJ0_isLatin1_aae02_3 (by decide) (fun q => absurd q (by decide)) (fun _ => ?_)
  refine aw_raw_n C dJ0_isLatin1_aae02_6 rfl ?_
  refine aw_getK C (.int 0) hE.2.1 fk_cod dJ0_isLatin1_aae02_7 ?_
  refine aw_if_ne C 17 dJ0_isLatin1_aae02_10 (by decide) (fun q => absurd rfl q) (fun _ => ?_)
  refine aw_iconst C 1 dJ0_isLatin1_aae02_13 zk_1 ?_
  refine aw_goto C 18 dJ0_isLatin1_aae02_14 (by decide) ?_
  exact aw_iret C rfl (by decide) dJ0_isLatin1_aae02_18 (Nat.le_of_ble_eq_true rfl) (Nat.le_of_ble_eq_true rfl) ⟨rfl, rfl, rfl⟩
theorem sk_ci3 {X : GX} {l : Launch} {f : AH} {n k N : Nat} {w : Value} (hw : w.category = 1) (hk : k < N) (hN : N < 2 ^ 31) : AM X l yJ3_checkIndex_8e157 cJ3_checkIndex_8e157 3 (some .int) 0 0 0 [.int (nI k), .int (nI N), w] f n (QS f n (some (.int (nI k)))) := by
  refine AM.of (by decide +kernel) (by simp [hw]; exact ⟨rfl, rfl⟩) (Nat.le_of_ble_eq_true rfl) (fun p e s m args below meth c C _ => ?_)
  refine aw_nl [some (.int (nI k)), some (.int (nI N)), some w] rfl ?_
  refine aw_iload_n C dJ3_checkIndex_8e157_0 rfl ?_
  refine aw_if_lt C 9 dJ3_checkIndex_8e157_1 (by decide) (fun q => absurd q (nI_pos (by omega))) (fun _ => ?_)
  refine aw_iload_n C dJ3_checkIndex_8e157_4 rfl ?_
  refine aw_iload_n C dJ3_checkIndex_8e157_5 rfl ?_
  refine aw_icmp_lt C 16 dJ3_checkIndex_8e157_6 (by decide) (fun _ => ?_) (fun q => absurd (nI_lt hk hN) q)
  refine aw_iload_n C dJ3_checkIndex_8e157_16 rfl ?_
  exact aw_iret C rfl rfl dJ3_checkIndex_8e157_17 (Nat.le_of_ble_eq_true rfl) (Nat.le_of_ble_eq_true rfl) ⟨rfl, rfl, rfl⟩
theorem sk_ci0 {X : GX} {l : Launch} {f : AH} {n k N : Nat} (hk : k < N) (hN : N < 2 ^ 31) : AM X l yJ0_checkIndex_df160 cJ0_checkIndex_df160 2 none 1 0 0 [.int (nI k), .int (nI N)] f n (QS f n none) := by
  refine AM.of (by decide +kernel) rfl (Nat.le_of_ble_eq_true rfl) (fun p e s m args below meth c C _ => ?_)
  have hq := C.2.2.2.2.2.2.1.2.2.2.2.2.2.2.2.2.2.2
  refine aw_nl [some (.int (nI k)), some (.int (nI N))] rfl ?_
  refine aw_iload_n C dJ0_checkIndex_df160_0 rfl ?_
  refine aw_iload_n C dJ0_checkIndex_df160_1 rfl ?_
  have go : ∀ w : Value, w.category = 1 → AW X p l e (RM 1 0 0) s m args below meth c 2 (ZM X below args s 0 0 (QS f n none)) f n 0 0 5 [some (.int (nI k)), some (.int (nI N))] [w, .int (nI N), .int (nI k)] := by
    intro w hw
    refine aw_callS C [.int (nI k), .int (nI N), w] ms_J0_1059 (sk_ci3 hw hk hN) rfl dJ0_checkIndex_df160_5 (Nat.le_of_ble_eq_true rfl) (Nat.le_of_ble_eq_true rfl) rfl (Nat.le_of_ble_eq_true rfl) (Nat.le_of_ble_eq_true rfl) (Nat.le_of_ble_eq_true rfl) (fun v9 f9 n9 hh => ?_)
    obtain ⟨rfl, rfl, rfl⟩ := hh
    refine aw_pop C dJ0_checkIndex_df160_8 rfl ?_
    exact aw_vret C rfl dJ0_checkIndex_df160_9 (Nat.le_of_ble_eq_true rfl) (Nat.le_of_ble_eq_true rfl) ⟨rfl, rfl, rfl⟩
  rcases hq with hq | ⟨t, hq⟩
  · exact aw_getsK C .null hq fk_fmt dJ0_checkIndex_df160_2 (go .null rfl)
  · exact aw_getsK C (.retAddr t) hq fk_fmt dJ0_checkIndex_df160_2 (go (.retAddr t) rfl)
theorem sk_chr1 {X : GX} {l : Launch} {f : AH} {n N i oK oV : Nat} {len : List Nat} {byt : List (List Int32)} (hs : STA X N len byt oK oV) (hi : i < N) {k : Nat} (hk : k < len.getD i 0) (hb : len.getD i 0 < 2 ^ 31) : AM X l yJ1_charAt_3b067 cJ1_charAt_3b067 2 (some .char) 2 0 0 [.retAddr (X.2.2 (oV + i)), .int (nI k)] f n (QS f n (some (.int ((byt.getD i []).getD k 0 &&& 255)))) := by
  refine AM.of (by decide +kernel) rfl (Nat.le_of_ble_eq_true rfl) (fun p e s m args below meth c C _ => ?_)
  have hE := (hs s C.2.2.2.2.2.2.1).1 i hi
  have hZ := C.2.2.2.2.2.2.1.2.2.2.2.2.2.2.2.2.2.1
  refine aw_nl [some (.retAddr (X.2.2 (oV + i))), some (.int (nI k))] rfl ?_
  refine aw_iload_n C dJ1_charAt_3b067_0 rfl ?_
  refine aw_raw_n C dJ1_charAt_3b067_1 rfl ?_
  refine aw_lenK C hE.2.2.2 dJ1_charAt_3b067_2 ?_
  refine aw_callS C [.int (nI k), .int (nI (len.getD i 0))] ms_J1_9 (sk_ci0 hk hb) rfl dJ1_charAt_3b067_3 (Nat.le_of_ble_eq_true rfl) (Nat.le_of_ble_eq_true rfl) rfl (Nat.le_of_ble_eq_true rfl) (Nat.le_of_ble_eq_true rfl) (Nat.le_of_ble_eq_true rfl) (fun v9 f9 n9 hh => ?_)
  obtain ⟨rfl, rfl, rfl⟩ := hh
  refine aw_raw_n C dJ1_charAt_3b067_6 rfl ?_
  refine aw_iload_n C dJ1_charAt_3b067_7 rfl ?_
  refine aw_baldK C (g := fun j => (byt.getD i []).getD j 0) hE.2.2.2 (vp_in_nI hk hb) dJ1_charAt_3b067_8 ?_
  refine aw_sipush C 255 dJ1_charAt_3b067_9 zk_255 ?_
  refine ae_iand C ((byt.getD i []).getD k 0 &&& 255) dJ1_charAt_3b067_12 (by rw [nI_clamp (by omega)]) ?_
  refine aw_i2cK C dJ1_charAt_3b067_13 ?_
  exact aw_iret C rfl (sc_nar _) dJ1_charAt_3b067_14 (Nat.le_of_ble_eq_true rfl) (Nat.le_of_ble_eq_true rfl) ⟨rfl, rfl, rfl⟩
theorem sk_chr {X : GX} {l : Launch} {f : AH} {n N i oK oV : Nat} {len : List Nat} {byt : List (List Int32)} (hs : STA X N len byt oK oV) (hi : i < N) {k : Nat} (hk : k < len.getD i 0) (hb : len.getD i 0 < 2 ^ 31) : AM X l yJ0_charAt_5068e cJ0_charAt_5068e 2 (some .char) 3 0 0 [.retAddr (X.2.2 (oK + i)), .int (nI k)] f n (QS f n (some (.int ((byt.getD i []).getD k 0 &&& 255)))) := by
  refine AM.of (by decide +kernel) rfl (Nat.le_of_ble_eq_true rfl) (fun p e s m args below meth c C _ => ?_)
  have hE := (hs s C.2.2.2.2.2.2.1).1 i hi
  have hZ := C.2.2.2.2.2.2.1.2.2.2.2.2.2.2.2.2.2.1
  refine aw_nl [some (.retAddr (X.2.2 (oK + i))), some (.int (nI k))] rfl ?_
  refine aw_raw_n C dJ0_charAt_5068e_0 rfl ?_
  refine aw_callK C [] mv_J0_492 (fun H locs hS => vk_recv (hs s C.2.2.2.2.2.2.1) hi hS) (sk_lat hs hi) rfl dJ0_charAt_5068e_1 (Nat.le_of_ble_eq_true rfl) (Nat.le_of_ble_eq_true rfl) rfl (Nat.le_of_ble_eq_true rfl) (Nat.le_of_ble_eq_true rfl) (Nat.le_of_ble_eq_true rfl) (fun v9 f9 n9 hh => ?_)
  obtain ⟨rfl, rfl, rfl⟩ := hh
  refine aw_if_eq C 16 dJ0_charAt_5068e_4 (by decide) (fun q => absurd q (by decide)) (fun _ => ?_)
  refine aw_raw_n C dJ0_charAt_5068e_7 rfl ?_
  refine aw_getK C (.retAddr (X.2.2 (oV + i))) hE.2.2.1 fk_val dJ0_charAt_5068e_8 ?_
  refine aw_iload_n C dJ0_charAt_5068e_11 rfl ?_
  refine aw_callS C [.retAddr (X.2.2 (oV + i)), .int (nI k)] ms_J0_495 (sk_chr1 hs hi hk hb) rfl dJ0_charAt_5068e_12 (Nat.le_of_ble_eq_true rfl) (Nat.le_of_ble_eq_true rfl) rfl (Nat.le_of_ble_eq_true rfl) (Nat.le_of_ble_eq_true rfl) (Nat.le_of_ble_eq_true rfl) (fun v9 f9 n9 hh => ?_)
  obtain ⟨rfl, rfl, rfl⟩ := hh
  exact aw_iret C rfl (sc_nar _) dJ0_charAt_5068e_15 (Nat.le_of_ble_eq_true rfl) (Nat.le_of_ble_eq_true rfl) ⟨rfl, rfl, rfl⟩
end
/-! part 12t.nse -/
section
/-! 'throw new NoSuchElementException("text")': its constructor passes on by entry 13, not 7 as the others' do; so the chain's first link is laid by hand -/
def nz_six : ByteArray := ⟨#[0x2a, 0x2b, 0xb7, 0x00, 0x0d, 0xb1]⟩
theorem nz_six0 : decode nz_six 0 = .ok (.aload_n 0, 1) := by decide +kernel
theorem nz_six1 : decode nz_six 1 = .ok (.aload_n 1, 1) := by decide +kernel
theorem nz_six2 : decode nz_six 2 = .ok (.invokespecial 13, 3) := by decide +kernel
theorem nz_six5 : decode nz_six 5 = .ok (.return_, 1) := by decide +kernel
abbrev nzR : String := "java/lang/RuntimeException"
abbrev nzE : String := "java/lang/Exception"
def nz_own (own : String) (ic : Nat) (Z : String) : List Cond :=
  Bundle.throwableAtoms ++ Bundle.throwableSAtoms ++ (Bundle.passSAtoms Z nzR 13 nz_six ++ Bundle.chainSAtoms nzR [nzE]) ++
  [.methodLink own ic (Bundle.initS Z), .instantiable Z 6, .castable Z Z, .selects Z Bundle.tFill0 Bundle.tFill0, .selects Z Bundle.tFill Bundle.tFill,
   .lays Z Bundle.tN "cause" "Ljava/lang/Throwable;", .lays Z Bundle.tN "stackTrace" Bundle.steD, .lays Z Bundle.tN "suppressedExceptions" Bundle.listD, .lays Z Bundle.tN "detailMessage" "Ljava/lang/String;",
   .isRef (.static Bundle.tN "UNASSIGNED_STACK" Bundle.steD), .isRef (.static Bundle.tN "SUPPRESSED_SENTINEL" Bundle.listD),
   .fieldLink Bundle.tN 198 Bundle.tN "backtrace" "Ljava/lang/Object;", .lays Bundle.tN Bundle.tN "backtrace" "Ljava/lang/Object;", .lays Z Bundle.tN "backtrace" "Ljava/lang/Object;"]
def nz_at (own : String) (ic : Nat) (Z : String) : List Cond := (nz_own own ic Z).filter vx_no
section NZ
variable {p : Program} {l : Launch} {e : Env} {R : Room} {s : State} {m : MethodId} {args : Array Value} {below : List Frame} {meth : Method} {c : Code} {H : Heap} {locs : List Loc} {cells slots : Nat}
set_option maxHeartbeats 2000000 in
theorem nz_ctor {U₀ : State} (X : Stand p l e R s m args below meth c U₀ locs cells slots) (hexec : p.tables.exec = Jvm.exec) (htr : e.platform.stackTraces = false) {own cls : String} {ic : Nat}
    (hown : s.vm.findClass own = some m.cls) (hcls : Bundle.fit cls = true) (h : ∀ a ∈ nz_own own ic cls, a.before args s = true)
    (hlocs : ∀ x ∈ locs, ∀ cell, s.heap[x.base]? = some cell → cell.vm.isStatics = false)
    {a : Addr} {cX : ClassId} {kX : Class} (hfX : s.vm.findClass cls = some cX) (hkX : s.vm.classes[cX]? = some kX) (hcell : U₀.heap[a]? = some (freshCell cX kX)) (hnew : s.heap.size ≤ a)
    {msg : Value} (hmsg : msg.isRef = true) {g : JFrame} (hg : g.method = m) (hsize : g.locals.size = c.maxLocals) (hlocked : g.locked = none) (hent : g.entered = []) {rest : List Value} (hstack : g.stack = msg :: .ref a :: .ref a :: rest)
    (hd6 : decode c.code g.pc = .ok (.invokespecial ic, 3)) (hd9 : decode c.code (g.pc + 3) = .ok (.athrow, 1)) (hout : ∀ x ∈ c.exceptionTable.toList, covers x (g.pc + 3) = false)
    (hRf : 5 < R.frames) (hRl : 2 * g.monitorRoom + ((Value.ref a :: rest).map fun v => v.category).sum + 81 ≤ R.locals) (hlocks : meth.locks = false) :
    ∃ U : State, Steps p.tables e below (U₀.setTop g) U ∧ U.status = .running ∧ Ended U below (.threw a) ∧ s.WarmedH U.vm ∧ s.sameButNew ({ U with vm := s.vm } : State) locs cells slots ∧
      ∃ ce : Cell, U.heap[a]? = some ce ∧ ce.vm = .none ∧ s.vm.findClass cls = some ce.cls := by
  have howns : e.platform.frameOwnsMonitors = true := by rw [X.admits.platform]
  have hfin : e.platform.finalization = false := by rw [X.admits.platform]
  have hpl : e.platform.magicAccessors = ({} : Platform).magicAccessors := by rw [X.admits.platform]
  have hat : ∀ w, w ∈ nz_own own ic cls → w.holds args s none s [] = true := fun w hw => h w hw
  have hmem : ∀ w, w ∈ [Cond.methodLink own ic (Bundle.initS cls), .instantiable cls 6, .castable cls cls, .selects cls Bundle.tFill0 Bundle.tFill0, .selects cls Bundle.tFill Bundle.tFill,
   .lays cls Bundle.tN "cause" "Ljava/lang/Throwable;", .lays cls Bundle.tN "stackTrace" Bundle.steD, .lays cls Bundle.tN "suppressedExceptions" Bundle.listD, .lays cls Bundle.tN "detailMessage" "Ljava/lang/String;",
   .isRef (.static Bundle.tN "UNASSIGNED_STACK" Bundle.steD), .isRef (.static Bundle.tN "SUPPRESSED_SENTINEL" Bundle.listD),
   .fieldLink Bundle.tN 198 Bundle.tN "backtrace" "Ljava/lang/Object;", .lays Bundle.tN Bundle.tN "backtrace" "Ljava/lang/Object;", .lays cls Bundle.tN "backtrace" "Ljava/lang/Object;"] → w.holds args s none s [] = true := fun w hw => hat w (List.mem_append_right _ hw)
  have hpass : ∀ w, w ∈ Bundle.passSAtoms cls nzR 13 nz_six → w.before args s = true := fun w hw => h w (List.mem_append_left _ (List.mem_append_right _ (List.mem_append_left _ hw)))
  have hchain : ∀ w, w ∈ Bundle.chainSAtoms nzR [nzE] → w.before args s = true := fun w hw => h w (List.mem_append_left _ (List.mem_append_right _ (List.mem_append_right _ hw)))
  obtain ⟨T, Z0, L, -, Y⟩ := ThrowableC.of_atoms (args := args) howns hfin hpl (fun w hw => h w (List.mem_append_left _ (List.mem_append_left _ (List.mem_append_left _ hw))))
  obtain ⟨Z, M, LZ, LM, hnZ⟩ := Init0T.ofS_atoms (args := args) hpl L Y (fun w hw => h w (List.mem_append_left _ (List.mem_append_left _ (List.mem_append_right _ hw))))
  obtain ⟨P0, L0, hP0m, hP0s⟩ := PassC.ofS_atoms (args := args) (s := s) hpl (X := cls) (Y := nzR) (Bundle.fit_spec hcls).1 (by decide) nz_six0 nz_six1 nz_six2 nz_six5 hpass
  obtain ⟨P1, Ps, hlen, L1, hL, hP1m, hlink1, hlink⟩ := Bundle.chainS (args := args) hpl hnZ [nzE] nzR (by decide +kernel) (by decide +kernel) hchain
  have hsup0 : P0.sup = P1.m := Option.some.inj (hP0s.symm.trans hP1m)
  have hfound : s.vm.findClass cls = some P0.m.cls := findClass_of_methodNamed hP0m
  cases Option.some.inj (hfX.symm.trans hfound)
  obtain ⟨c1, kX', hc1, hk, hord, -, -, hn6⟩ := Cond.instantiable_spec (hmem (.instantiable cls 6) (by simp))
  cases Option.some.inj (hc1.symm.trans hfound)
  cases Option.some.inj (hkX.symm.trans hk)
  have hsel0 : selectMethod e.platform s.vm P0.m.cls T.fill0 = .method T.fill0 := by
    obtain ⟨c2, r2, m2, q1, q2, q3, q4, -⟩ := Cond.selects_spec (hmem (.selects cls Bundle.tFill0 Bundle.tFill0) (by simp))
    cases Option.some.inj (q1.symm.trans hfound)
    cases Option.some.inj (q2.symm.trans (State.methodFound?_of_named Y.fill0 (by decide)))
    cases Option.some.inj (q3.symm.trans Y.fill0)
    rw [Launch.admits_selectMethod X.admits]; exact q4
  have hselF : selectMethod e.platform s.vm P0.m.cls T.fill = .method T.fill := by
    obtain ⟨c2, r2, m2, q1, q2, q3, q4, -⟩ := Cond.selects_spec (hmem (.selects cls Bundle.tFill Bundle.tFill) (by simp))
    cases Option.some.inj (q1.symm.trans hfound)
    cases Option.some.inj (q2.symm.trans (State.methodFound?_of_named Y.fill (by decide)))
    cases Option.some.inj (q3.symm.trans Y.fill)
    rw [Launch.admits_selectMethod X.admits]; exact q4
  obtain ⟨cellS0, hcS0, hiss⟩ := Y.statics
  obtain ⟨u0, hu0⟩ := Cond.staticRefV Y.unassigned L.unassignedStatic L.statics hcS0 hiss (hmem (.isRef (.static Bundle.tN "UNASSIGNED_STACK" Bundle.steD)) (by simp))
  obtain ⟨sen, hsen⟩ := Cond.staticRefV Y.sentinel L.sentinelStatic L.statics hcS0 hiss (hmem (.isRef (.static Bundle.tN "SUPPRESSED_SENTINEL" Bundle.listD)) (by simp))
  obtain ⟨ci198, i198, fB, hk198, hg198, ha198, hsB, -, hnB, htB, hffB⟩ := Cond.ownField (t := .object "java/lang/Object") Y.found L.cls (by decide +kernel) (hmem (.fieldLink Bundle.tN 198 Bundle.tN "backtrace" "Ljava/lang/Object;") (by simp)) (hmem (.lays Bundle.tN Bundle.tN "backtrace" "Ljava/lang/Object;") (by simp)) e.platform hpl
  obtain ⟨cellS, hcS', heS, -, hkeep⟩ := X.same.2.2.2.2.2 T.aS cellS0 hcS0
  have hcellS : U₀.heap[T.aS]? = some cellS := hcS'
  have hout' : ∀ i, (⟨T.aS, i⟩ : Loc) ∉ locs := fun i hm => by
    have := hlocs _ hm cellS0 hcS0
    rw [hiss] at this; cases this
  have hknownS : cellS.vm ≠ .unknown := by
    rw [heS]; intro hu
    rw [show cellS0.vm = .unknown from hu] at hiss
    cases hiss
  have hneS : T.aS ≠ a := Nat.ne_of_lt (Nat.lt_of_lt_of_le (Array.getElem?_eq_some_iff.mp hcS0).1 hnew)
  obtain ⟨iM, hffM⟩ := Y.msg
  obtain ⟨tyC, dC, hdC, hdnC⟩ := Cond.laysAt hfound hk Y.cause (hmem (.lays cls Bundle.tN "cause" "Ljava/lang/Throwable;") (by simp))
  obtain ⟨tyS, dS, hdS, hdnS⟩ := Cond.laysAt hfound hk Y.stack (hmem (.lays cls Bundle.tN "stackTrace" Bundle.steD) (by simp))
  obtain ⟨tyP, dP, hdP, hdnP⟩ := Cond.laysAt hfound hk Y.supp (hmem (.lays cls Bundle.tN "suppressedExceptions" Bundle.listD) (by simp))
  obtain ⟨tyM, dM, hdM, hdnM⟩ := Cond.laysAt hfound hk hffM (hmem (.lays cls Bundle.tN "detailMessage" "Ljava/lang/String;") (by simp))
  obtain ⟨tyB, dB, hdB, hdnB⟩ := Cond.laysAt hfound hk hffB (hmem (.lays cls Bundle.tN "backtrace" "Ljava/lang/Object;") (by simp))
  have bC := Cond.laysApart hdB hdC hdnB hdnC (by rw [hnB, Y.causeName]; decide)
  have bS := Cond.laysApart hdB hdS hdnB hdnS (by rw [hnB, Y.stackName]; decide)
  have bP := Cond.laysApart hdB hdP hdnB hdnP (by rw [hnB, Y.suppName]; decide)
  have hskip : SkipFacts T e.platform s (fun u => u) u0 ((preparedCellV T.toThrowableT (freshCell P0.m.cls kX) a u0 sen).withEntry U₀.cur) :=
    ⟨{ ci198 := ci198, i198 := i198, fBack := fB }, ⟨hk198, hg198, ha198, hsB⟩, by
      have := fresh_default (c := P0.m.cls) tyB
      rw [htB] at this
      simpa [preparedCellV, Cell.setSlot, Cell.withEntry, Array.getElem?_setIfInBounds, bC, bS, bP, bC.symm, bS.symm, bP.symm, defaultValue] using this, fun _ _ => rfl⟩
  obtain ⟨tm, methC, cdC, kC, vm₁, hnC, -, -, -, -, -, -, -, hW₁, st1⟩ := Steps.initColdS (tb := p.tables) (e := e) (below := below) (s := s) (U := U₀) X.here hexec X.warmed hpl hown (t := Bundle.initS cls) rfl rfl (Bundle.fit_spec hcls).2
    (hmem (.methodLink own ic (Bundle.initS cls)) (by simp)) (hpass (.instanceMethod (Bundle.initS cls)) (by simp [Bundle.passSAtoms])) (bytes := nz_six) (maxL := 2) (hpass (.code (Bundle.initS cls) nz_six 2 none) (by simp [Bundle.passSAtoms]))
    (f := g) hg (a := a) (msg := msg) (rest := .ref a :: rest) hstack hd6
  cases Option.some.inj (hnC.symm.trans hP0m)
  have X₁ := X.noted hW₁
  obtain ⟨vm₂, X₂, st2⟩ := X₁.ctorMessageOffV hexec (g := { g with stack := .ref a :: rest }) hg hsize T L Z LZ M LM (P0 :: P1 :: Ps)
    (fun P hP => by
      rcases List.mem_cons.mp hP with rfl | hP
      · exact L0
      · rcases List.mem_cons.mp hP with rfl | hP
        · exact L1
        · exact hL P hP) ⟨hsup0, hlink1, hlink⟩ (u0 := u0) (sen := sen) (self := a) hmsg (cell := freshCell P0.m.cls kX) (cellS := cellS)
    hcell (fun _ => by simp) (by simp) rfl rfl hsel0 hselF hcellS hneS hknownS (by rw [hkeep _ (hout' _)]; exact hu0) (by rw [hkeep _ (hout' _)]; exact hsen)
    (Takes.of_laid hk hord tyC (by rw [Y.causeType]; rfl)) (Takes.of_laid hk hord tyS (by rw [Y.stackType]; exact fits_refV_array _ u0)) (Takes.of_laid hk hord tyP (by rw [Y.suppType]; exact fits_refV_object _ sen))
    (Takes.of_laid hk hord tyM (by rw [Y.msgType]; exact fits_refV_object _ ⟨msg, hmsg⟩)) Y.objLocals hskip htr [] hd6
    (by simp only [List.length_cons, hlen, List.length_nil]; omega) (by simp only [List.length_cons, hlen, List.length_nil]; omega)
  obtain ⟨hwalk, hrun, hended, hWU, hsame⟩ := X₂.athrowLeaves hexec (g := { g with stack := .ref a :: rest, pc := g.pc + 3 }) hg hlocked hent hout (a := a) (rest := rest) rfl hd9
  have hlt : a < ((U₀.setVm vm₁).setVm vm₂).heap.size := (Array.getElem?_eq_some_iff.mp hcell).1
  have hU := heapAt_setCell_self (s := (U₀.setVm vm₁).setVm vm₂) (plainBareV T.toThrowableT (freshCell P0.m.cls kX) a u0 sen msg) hlt
  refine ⟨_, st1 _ (fun acts => ?_), hrun, hended, hWU, hsame.weaken (fun y hy hlt' => ?_) (Nat.le_refl _) (Nat.le_refl _), _, hU, rfl, hfound⟩
  · rw [doInvoke_state]
    exact st2 _ hwalk
  · rcases List.mem_append.mp hy with h1 | h1
    · exact h1
    · exfalso
      have hb : y.base = a := by
        simp only [List.mem_cons, List.not_mem_nil, or_false] at h1
        rcases h1 with rfl | rfl | rfl | rfl | rfl <;> rfl
      rw [hb] at hlt'
      exact Nat.not_lt.mpr hnew hlt'
end NZ
/-- the words of a throw of a class whose constructor passes on by entry 13 -/
def THN (ik ic : Nat) (cls : String) : Prop := Cond.classLink "PieceFiles" ik cls ∈ ALLW ∧ Cond.initialized cls ∈ ALLW ∧ (∀ w ∈ (nz_at "PieceFiles" ic cls).filter goodWord, w ∈ lw_tbl) ∧ (∀ w ∈ (nz_at "PieceFiles" ic cls).filter (fun w => !goodWord w), w ∈ xW) ∧ (∀ w ∈ Cond.classLink "PieceFiles" ik cls :: Cond.initialized cls :: nz_at "PieceFiles" ic cls, vx_ot w = true) ∧ Bundle.fit cls = true
section NZW
variable {p : Program} {l : Launch} {e : Env} {R : Room} {s : State} {m : MethodId} {args : Array Value} {below : List Frame} {meth : Method} {c : Code} {H : Heap} {locs : List Loc} {cells slots : Nat}
variable {mc ms : Nat} {free : Addr → Prop} {ls : Array Slot} {rest : List Value}
variable {Qc : Array Value → State → Outcome → State → Prop} {XC : String → State → State → Prop}
theorem nz_throw {cc : ByteArray} {pc : Nat} (hexec : p.tables.exec = Jvm.exec) (hb : c.code = cc) (hl : l.stackTraces = false) {own cls text : String} {ik is ic sa : Nat} {A : Nat → Prop}
    (hown : s.vm.findClass own = some m.cls) (hcls : Bundle.fit cls = true)
    (hk : (Cond.classLink own ik cls).before args s = true) (hini : (Cond.initialized cls).before args s = true) (hstr : vk_R own is text sa s) (hat : ∀ w ∈ nz_at own ic cls, w.before args s = true)
    (hgood : ∀ w ∈ Cond.classLink own ik cls :: Cond.initialized cls :: nz_at own ic cls, vx_ot w = true)
    (hU : vx_Zq Bundle.tN "UNASSIGNED_STACK" Bundle.steD A s s.heap) (hN : vx_Zq Bundle.tN "SUPPRESSED_SENTINEL" Bundle.listD A s s.heap) (hS : va_S A s.heap H locs) (hsize : ls.size = c.maxLocals)
    (d0 : decode cc pc = .ok (.new ik, 3)) (d3 : decode cc (pc + 3) = .ok (.dup, 1)) (d4 : decode cc (pc + 4) = .ok (.ldc is, 2)) (d6 : decode cc (pc + 6) = .ok (.invokespecial ic, 3)) (d9 : decode cc (pc + 9) = .ok (.athrow, 1))
    (hout : ∀ x ∈ c.exceptionTable.toList, covers x (pc + 9) = false)
    (hRf : 5 < R.frames) (hRl : (rest.map fun v => v.category).sum + 82 ≤ R.locals) (hRc : cells + 1 ≤ R.cells) (hRs : slots + 6 ≤ R.slots) (hlocks : meth.locks = false)
    (hx : ∀ t : State, s.vm.Alike t.vm → H.size ≤ t.heap.size → (∀ q : Nat, q < H.size → t.heap[q]? = H[q]?) → XC cls s t)
    (hf : ∀ z ∈ locs, free z.base) (hc : cells + 1 ≤ mc) (hs : slots + 6 ≤ ms) :
    W p l e R s m args below meth c H locs cells slots (vx_MQ below Qc XC args s mc ms free) (F0 m pc ls rest) := by
  intro T hT X
  have htr : e.platform.stackTraces = false := (show e.platform.stackTraces = l.stackTraces by rw [X.admits.platform]).trans hl
  have Y := vx_rebase X (R' := { frames := R.frames, locals := R.locals, cells := 1, slots := 6 }) (Nat.le_refl _) (Nat.le_refl _) hRc hRs
  obtain ⟨s', hA⟩ : ∃ z, z = (T.setVm s.vm).setFrames (.invoking m args :: below) := ⟨_, rfl⟩
  rw [← hA] at Y
  have hvm : s'.vm = s.vm := by rw [hA]; rfl
  have hhp : s'.heap = H := by rw [hA]; exact hT
  have hW0 : s.WarmedH s'.vm := by rw [hvm]; exact State.WarmedH.refl s
  have hat' : ∀ w ∈ nz_at own ic cls, w.before args s' = true := fun w hw => vx_ot_at hW0 hvm.symm (hgood w (List.mem_cons_of_mem _ (List.mem_cons_of_mem _ hw))) (hat w hw)
  have hk' : (Cond.classLink own ik cls).before args s' = true := vx_ot_at hW0 hvm.symm (hgood _ List.mem_cons_self) hk
  have hini' : (Cond.initialized cls).before args s' = true := vx_ot_at hW0 hvm.symm (hgood _ (List.mem_cons_of_mem _ List.mem_cons_self)) hini
  have hU' : vx_Zq Bundle.tN "UNASSIGNED_STACK" Bundle.steD A s' s'.heap := by rw [hhp]; exact vx_Zq.moved hW0.alike (hU.kept hS.2.1)
  have hN' : vx_Zq Bundle.tN "SUPPRESSED_SENTINEL" Bundle.listD A s' s'.heap := by rw [hhp]; exact vx_Zq.moved hW0.alike (hN.kept hS.2.1)
  have h : ∀ w ∈ nz_own own ic cls, w.before args s' = true := vx_own hat' (vx_isRefq hU'.1) (vx_isRefq hN'.1) hU'.2.word hN'.2.word
  have hown' : s'.vm.findClass own = some m.cls := by rw [hvm]; exact hown
  have hins : (Cond.instantiable cls 6).before args s' = true := h _ (List.mem_append_right _ (by simp))
  obtain ⟨vm₁, cX, kX, hfX, hkX, -, -, X₁, st1⟩ := Y.newCold hexec (own := own) (C := cls) (index := ik) (n := 6) hown' hk' hins hini'
    (g := F0 m pc ls rest) rfl (by rw [hb]; exact d0) (Nat.le_refl _) (Nat.le_refl _)
  generalize hT1 : (T.setVm vm₁).pushCell { cls := cX, slots := kX.instanceTypes.map defaultValue, vm := .none } = T1 at X₁ st1
  have hcat : (Value.ref T.heap.size).category = 1 := rfl
  have hcellA : T1.heap[T.heap.size]? = some (freshCell cX kX) := by rw [← hT1]; exact State.heap_pushCell_size _ _
  have d3' : decode c.code (pc + 3) = .ok (.dup, 1) := by rw [hb]; exact d3
  have d4' : decode c.code (pc + 4) = .ok (.ldc is, 2) := by rw [hb]; exact d4
  have hstr' : vk_R own is text sa s' := vk_R.warm hW0 hstr
  obtain ⟨U, hsteps, hrun, hend, hW, hsame, ce, hce, hcv, hcl0⟩ := nz_ctor X₁ hexec htr (own := own) (cls := cls) (ic := ic) hown' hcls h (fun x hx => nomatch hx) hfX hkX hcellA (by rw [hhp, hT]; exact Nat.le_refl _) (msg := .ref sa) rfl
    (g := { method := m, pc := pc + 6, locals := ls, stack := .ref sa :: .ref T.heap.size :: .ref T.heap.size :: rest, locked := none }) rfl hsize rfl rfl (rest := rest) rfl
    (by rw [hb]; exact d6) (by rw [hb]; exact d9) hout hRf (by simp only [List.map_cons, List.sum_cons, hcat, JFrame.monitorRoom]; simp; omega) hlocks
  obtain ⟨f1, f2⟩ := vx_frame hsame
  rw [hhp] at f1 f2
  have hWs : s.WarmedH U.vm := State.WarmedH.trans hW0 hW
  have hcl : s.vm.findClass cls = some ce.cls := by
    rw [hvm] at hcl0
    exact hcl0
  have hall : s.sameButNew ({ U with vm := s.vm } : State) locs mc ms := by
    subst hA
    obtain ⟨e1, e2⟩ := hsame
    rw [State.setFrames_setFrames] at e1
    have h2 : (T.setVm s.vm).sameButNew ({ U with vm := s.vm } : State) [] (0 + 1) (0 + 6) := ⟨e1, e2⟩
    have h3 := X.same.trans h2
    rw [List.append_nil] at h3
    exact h3.mono hc hs
  refine ⟨U, ?_, .threw T.heap.size, hrun, hend, Or.inr ⟨T.heap.size, rfl, cls, ce, locs, hx U hWs.alike f1 (fun q hq => f2 q hq (fun z hz => nomatch hz)), hce, hcv, hcl, hWs, hall, hf⟩⟩
  refine st1 _ ?_
  show Steps p.tables e below (T1.setTop { method := m, pc := pc + 3, locals := ls, stack := .ref T.heap.size :: rest, locked := none }) _
  jvm_step X₁.here [X₁.here.top, hexec, d3', Value.category]
  exact X₁.ldcString hexec (own := own) (text := text) (index := is) (a := sa) hown' hstr'.1 hstr'.2
    (g := { method := m, pc := pc + 4, locals := ls, stack := .ref T.heap.size :: .ref T.heap.size :: rest, locked := none }) rfl d4' _ hsteps
end NZW
section NZA
variable {X : GX} {p : Program} {l : Launch} {e : Env} {R : Room} {s : State} {m : MethodId} {args : Array Value} {below : List Frame} {meth : Method} {c : Code} {cc : ByteArray} {nL : Nat} {ret : Option FieldType} {f : AH} {n cells slots pc : Nat} {lo : List (Option Value)} {st : List Value}
variable {mc ms : Nat} {Q : Option Value → AH → Nat → Prop} {QX : String → AH → Nat → Prop}
theorem ax_throwN (C : CC X p l R s m args meth c "PieceFiles" cc nL ret) (htab : ∀ x ∈ c.exceptionTable.toList, False) (hl0 : l.stackTraces = false) {ik is ic : Nat} {cls text : String} (g : THN ik ic cls) (hstr : ("PieceFiles", is, text) ∈ strsX)
    (d0 : decode cc pc = .ok (.new ik, 3)) (d3 : decode cc (pc + 3) = .ok (.dup, 1)) (d4 : decode cc (pc + 4) = .ok (.ldc is, 2)) (d6 : decode cc (pc + 6) = .ok (.invokespecial ic, 3)) (d9 : decode cc (pc + 9) = .ok (.athrow, 1))
    (hfr : 6 ≤ R.frames) (hlo : (st.map fun v => v.category).sum + 82 ≤ R.locals) (hc1 : cells + 1 ≤ R.cells) (hs1 : slots + 6 ≤ R.slots) (hc : cells + 1 ≤ mc) (hs : slots + 6 ≤ ms) (hQ : ∀ n', n ≤ n' → QX cls f n') : AW X p l e R s m args below meth c nL (ZX X below args s mc ms Q QX) f n cells slots pc lo st := by
  intro H locs ls hR hn hS hl
  obtain ⟨g1, g2, g3, g4, g5, g6⟩ := g
  have hts := C.2.2.2.2.1
  have hG := C.2.2.2.2.2.2.1
  obtain ⟨sa, hsa⟩ := hG.2.2.2.2.2.1 _ hstr
  have hat : ∀ w ∈ nz_at "PieceFiles" ic cls, w.before args s = true := vx_hat (B := xW) (fun w hw => hts w (ALLW_mem (g3 w hw) (List.mem_filter.mp hw).2)) g4 (fun w hw => va_Nw.use (by
    simp only [xW, List.mem_cons, List.not_mem_nil, or_false] at hw
    rcases hw with rfl | rfl | rfl | rfl | rfl | rfl | rfl | rfl | rfl | rfl <;> rfl) (hG.2.2.2.2.2.2.1 w hw))
  refine nz_throw (A := fun q => X.1 ≤ q) C.1 C.2.1 hl0 C.2.2.2.1 g6 (hts _ g1) (hts _ g2) hsa hat g5 hG.2.1 hG.2.2.1 hS (by rw [C.2.2.1]; exact hl.1) d0 d3 d4 d6 d9 (fun x hx => (htab x hx).elim) hfr (by rw [cat_rn]; simpa using hlo) hc1 hs1 C.2.2.2.2.2.1 (fun t ht hz hk => ?_) hS.2.2 hc hs
  have hb : X.1 ≤ t.heap.size := by omega
  refine ⟨f, t.heap.size - X.1, hQ _ (by omega), by omega, fun i e he => (hR i e he).kept (hk _ (hR.lt he)), Nat.le_trans hS.1 hz, fun q h1 h2 => ?_⟩
  rw [hk q (Nat.lt_of_lt_of_le h1 hS.1)]
  exact hS.2.1 q h1 h2
end NZA
set_option maxRecDepth 100000 in
theorem th_eN : THN 142 146 eN := ⟨cl_X8_142, (ALLW_t 21 (by decide +kernel) (by decide +kernel)), by decide +kernel, by decide +kernel, by decide +kernel, by decide +kernel⟩
end
/-! part 20.ms -/
section
/-! the reference: its numbers by field, its rows by field -/
abbrev RS9 : Type := (Nat → Int32) × (Nat → Nat → Int32)
def rIsA : Nat → Bool
  | 1 => true
  | 2 => true
  | 3 => true
  | 4 => true
  | 8 => true
  | 13 => true
  | 14 => true
  | 15 => true
  | 17 => true
  | 18 => true
  | 19 => true
  | 20 => true
  | 21 => true
  | 23 => true
  | 24 => true
  | 25 => true
  | 27 => true
  | 28 => true
  | 29 => true
  | 30 => true
  | 31 => true
  | 32 => true
  | 34 => true
  | 35 => true
  | 36 => true
  | 37 => true
  | 38 => true
  | 39 => true
  | 40 => true
  | 41 => true
  | 42 => true
  | 43 => true
  | 44 => true
  | 46 => true
  | 47 => true
  | 49 => true
  | 50 => true
  | 51 => true
  | 52 => true
  | 53 => true
  | 58 => true
  | _ => false
def rIsI : Nat → Bool
  | 0 => true
  | 5 => true
  | 6 => true
  | 7 => true
  | 9 => true
  | 10 => true
  | 11 => true
  | 12 => true
  | 16 => true
  | 22 => true
  | 26 => true
  | 33 => true
  | 45 => true
  | 48 => true
  | 54 => true
  | 55 => true
  | 56 => true
  | 57 => true
  | 59 => true
  | _ => false
def rAid : Nat → Nat
  | 1 => 182
  | 2 => 183
  | 3 => 184
  | 4 => 185
  | 8 => 186
  | 13 => 187
  | 14 => 188
  | 15 => 189
  | 17 => 190
  | 18 => 191
  | 19 => 192
  | 20 => 193
  | 21 => 194
  | 23 => 195
  | 24 => 196
  | 25 => 197
  | 27 => 198
  | 28 => 199
  | 29 => 200
  | 30 => 201
  | 31 => 202
  | 32 => 203
  | 34 => 204
  | 35 => 205
  | 36 => 206
  | 37 => 207
  | 38 => 208
  | 39 => 209
  | 40 => 210
  | 41 => 211
  | 42 => 212
  | 43 => 213
  | 44 => 214
  | 46 => 215
  | 47 => 216
  | 49 => 217
  | 50 => 218
  | 51 => 219
  | 52 => 220
  | 53 => 221
  | 58 => 222
  | _ => 0
def rLen : Nat → Nat
  | 1 => 4347
  | 2 => 4347
  | 3 => 4347
  | 4 => 34776
  | 8 => 400
  | 13 => 600
  | 14 => 600
  | 15 => 600
  | 17 => 600
  | 18 => 600
  | 19 => 600
  | 20 => 600
  | 21 => 600
  | 23 => 600
  | 24 => 600
  | 25 => 600
  | 27 => 600
  | 28 => 600
  | 29 => 600
  | 30 => 600
  | 31 => 600
  | 32 => 600
  | 34 => 40
  | 35 => 40
  | 36 => 40
  | 37 => 40
  | 38 => 40
  | 39 => 40
  | 40 => 40
  | 41 => 40
  | 42 => 40
  | 43 => 600
  | 44 => 600
  | 46 => 1400
  | 47 => 1400
  | 49 => 700
  | 50 => 700
  | 51 => 41
  | 52 => 40
  | 53 => 60
  | 58 => 60
  | _ => 0
def rIx : Nat → Option Nat
  | 182 => some 1
  | 183 => some 2
  | 184 => some 3
  | 185 => some 4
  | 186 => some 8
  | 187 => some 13
  | 188 => some 14
  | 189 => some 15
  | 190 => some 17
  | 191 => some 18
  | 192 => some 19
  | 193 => some 20
  | 194 => some 21
  | 195 => some 23
  | 196 => some 24
  | 197 => some 25
  | 198 => some 27
  | 199 => some 28
  | 200 => some 29
  | 201 => some 30
  | 202 => some 31
  | 203 => some 32
  | 204 => some 34
  | 205 => some 35
  | 206 => some 36
  | 207 => some 37
  | 208 => some 38
  | 209 => some 39
  | 210 => some 40
  | 211 => some 41
  | 212 => some 42
  | 213 => some 43
  | 214 => some 44
  | 215 => some 46
  | 216 => some 47
  | 217 => some 49
  | 218 => some 50
  | 219 => some 51
  | 220 => some 52
  | 221 => some 53
  | 222 => some 58
  | _ => none
def rMf (F : Nat → Int32) : List Value := .int (F 0) :: .ref 182 :: .ref 183 :: .ref 184 :: .ref 185 :: .int (F 5) :: .int (F 6) :: .int (F 7) :: .ref 186 :: .int (F 9) :: .int (F 10) :: .int (F 11) :: .int (F 12) :: .ref 187 :: .ref 188 :: .ref 189 :: .int (F 16) :: .ref 190 :: .ref 191 :: .ref 192 :: .ref 193 :: .ref 194 :: .int (F 22) :: .ref 195 :: .ref 196 :: .ref 197 :: .int (F 26) :: .ref 198 :: .ref 199 :: .ref 200 :: .ref 201 :: .ref 202 :: .ref 203 :: .int (F 33) :: .ref 204 :: .ref 205 :: .ref 206 :: .ref 207 :: .ref 208 :: .ref 209 :: .ref 210 :: .ref 211 :: .ref 212 :: .ref 213 :: .ref 214 :: .int (F 45) :: .ref 215 :: .ref 216 :: .int (F 48) :: .ref 217 :: .ref 218 :: .ref 219 :: .ref 220 :: .ref 221 :: .int (F 54) :: .int (F 55) :: .int (F 56) :: .int (F 57) :: .ref 222 :: .int (F 59) :: []
def rHm (f : AH) (σ : RS9) : AH := fun i => if i = 181 then some (.inr (9, rMf σ.1)) else match rIx i with
  | some k => some (.inl (0, rLen k, .inl (σ.2 k)))
  | none => f i
def rSf (σ : RS9) (k : Nat) (v : Int32) : RS9 := (fun j => if j = k then v else σ.1 j, σ.2)
def rSa (σ : RS9) (κ : Nat) (x v : Int32) : RS9 := (σ.1, fun j => if j = κ then upd (σ.2 j) x.toNatClampNeg v else σ.2 j)
def rGa (σ : RS9) (κ : Nat) (x : Int32) : Int32 := σ.2 κ x.toNatClampNeg
def rIn (x : Int32) (n : Nat) : Bool := !(decide (x < 0)) && decide (x.toNatClampNeg < n)
def rNb (x : Int32) : Bool := decide (x &&& 1 = x)
def rCk {α : Type} (b : Bool) (x : Option α) : Option α := bif b then x else none
def rFU : Nat := 40000
theorem ck_some {α : Type} {b : Bool} {x : Option α} {r : α} (h : rCk b x = some r) : b = true ∧ x = some r := by
  cases b
  · cases h
  · exact ⟨rfl, h⟩
theorem ck_t {α : Type} {b : Bool} {x : Option α} (h : b = true) : rCk b x = x := by rw [h]; rfl
theorem inb_vp {x : Int32} {n : Nat} (h : rIn x n = true) : vp_in x n := by
  simp only [rIn, Bool.and_eq_true, Bool.not_eq_true', decide_eq_false_iff_not, decide_eq_true_eq] at h
  exact fun q => q.elim h.1 (fun q => by omega)
theorem inb_nI {k n : Nat} (h : k < n) (hn : n < 2 ^ 31) : rIn (nI k) n = true := by
  simp only [rIn, Bool.and_eq_true, Bool.not_eq_true', decide_eq_false_iff_not, decide_eq_true_eq]
  exact ⟨nI_pos (by omega), by rw [nI_clamp (by omega)]; exact h⟩
theorem nb_nar {x : Int32} (h : rNb x = true) : narrow .boolean (.int x) = .int x := by
  have h2 : x &&& 1 = x := by simpa [rNb] using h
  show Value.int (x &&& 1) = .int x
  rw [h2]
theorem nb_01 {x : Int32} (h : rNb x = true) : x = 0 ∨ x = 1 := by
  have h2 : x &&& 1 = x := by simpa [rNb] using h
  obtain ⟨j, hj, hx⟩ := pk_andE x (m := 1) 1 (by decide)
  rw [h2] at hx
  have h3 : j = 0 ∨ j = 1 := by omega
  rcases h3 with rfl | rfl
  · exact Or.inl hx
  · exact Or.inr hx
theorem nb_fit {x : Int32} (h : rNb x = true) : fits .boolean (.int x) = true := by
  rcases nb_01 h with rfl | rfl <;> decide
theorem hm_M (f : AH) (σ : RS9) : rHm f σ 181 = some (.inr (9, rMf σ.1)) := rfl
theorem isA_lt {k : Nat} (h : rIsA k = true) : k < 60 := by
  by_cases hk : k < 60
  · exact hk
  · exfalso
    unfold rIsA at h
    split at h <;> first | omega | cases h
theorem isA_ai : ∀ k : Nat, rIsA k = true → rAid k ≠ 181 ∧ rIx (rAid k) = some k := by
  have h0 : ∀ k : Fin 60, rIsA k = true → rAid k ≠ 181 ∧ rIx (rAid k) = some (k : Nat) := by decide +kernel
  intro k h
  exact h0 ⟨k, isA_lt h⟩ h
theorem aid_inj {j k : Nat} (hj : rIsA j = true) (hk : rIsA k = true) (h : rAid j = rAid k) : j = k := by
  have a := (isA_ai j hj).2
  have b := (isA_ai k hk).2
  rw [h, b] at a
  exact (Option.some.inj a).symm
theorem ai_aid {i k : Nat} (h : rIx i = some k) : rAid k = i ∧ rIsA k = true := by
  unfold rIx at h
  split at h <;> first | (cases h; exact ⟨rfl, rfl⟩) | cases h
theorem hm_A (f : AH) (σ : RS9) {k : Nat} (h : rIsA k = true) : rHm f σ (rAid k) = some (.inl (0, rLen k, .inl (σ.2 k))) := by
  obtain ⟨h1, h2⟩ := isA_ai k h
  unfold rHm
  rw [if_neg h1, h2]
theorem hm_sa (f : AH) (σ : RS9) {k : Nat} (h : rIsA k = true) (x v : Int32) : va_up (rHm f σ) (rAid k) (some (.inl (0, rLen k, .inl (upd (σ.2 k) x.toNatClampNeg v)))) = rHm f (rSa σ k x v) := by
  obtain ⟨h1, h2⟩ := isA_ai k h
  funext i
  by_cases hi : i = rAid k
  · subst hi
    show (if rAid k = rAid k then _ else _) = _
    rw [if_pos rfl, hm_A f _ h]
    show _ = some (Sum.inl (0, rLen k, Sum.inl (if k = k then upd (σ.2 k) x.toNatClampNeg v else σ.2 k)))
    rw [if_pos rfl]
  · show (if i = rAid k then _ else rHm f σ i) = _
    rw [if_neg hi]
    unfold rHm
    by_cases hM : i = 181
    · rw [if_pos hM, if_pos hM]; rfl
    · rw [if_neg hM, if_neg hM]
      cases ha : rIx i with
      | none => rfl
      | some j =>
        have hj : j ≠ k := fun e => hi (by rw [← (ai_aid ha).1, e])
        show _ = some (Sum.inl (0, rLen j, Sum.inl (if j = k then upd (σ.2 j) x.toNatClampNeg v else σ.2 j)))
        rw [if_neg hj]
theorem mf_set (F : Nat → Int32) (k : Nat) (h : rIsI k = true) (v : Int32) : (rMf F).set k (.int v) = rMf (fun j => if j = k then v else F j) := by
  unfold rIsI at h
  split at h <;> first | rfl | cases h
theorem isI_lt {k : Nat} (h : rIsI k = true) : k < 60 := by
  unfold rIsI at h
  split at h <;> first | decide | cases h
theorem hm_sf (f : AH) (σ : RS9) {k : Nat} (h : rIsI k = true) (v : Int32) : va_up (rHm f σ) 181 (some (.inr (9, (rMf σ.1).set k (.int v)))) = rHm f (rSf σ k v) := by
  funext i
  by_cases hi : i = 181
  · subst hi
    show (if 181 = 181 then _ else _) = _
    rw [if_pos rfl, hm_M, mf_set _ _ h]
    rfl
  · show (if i = 181 then _ else rHm f σ i) = _
    rw [if_neg hi]
    unfold rHm
    rw [if_neg hi, if_neg hi]
    rfl
def QMi (f : AH) (n : Nat) (r : Int32 × RS9) : Option Value → AH → Nat → Prop := fun v' f' n' => v' = some (.int r.1) ∧ f' = rHm f r.2 ∧ n' = n
def QMv (f : AH) (n : Nat) (r : Int32 × RS9) : Option Value → AH → Nat → Prop := fun v' f' n' => v' = none ∧ f' = rHm f r.2 ∧ n' = n
def QMl (f : AH) (n : Nat) (r : Int64 × RS9) : Option Value → AH → Nat → Prop := fun v' f' n' => v' = some (.long r.1) ∧ f' = rHm f r.2 ∧ n' = n
/-- fewer locals -/
def SubL : List (Option Value) → List (Option Value) → Prop
  | [], _ => True
  | _ :: _, [] => False
  | none :: a, _ :: b => SubL a b
  | some v :: a, w :: b => w = some v ∧ SubL a b
theorem SubL.get : ∀ {a b : List (Option Value)}, SubL a b → ∀ (i : Nat) (v : Value), a[i]? = some (some v) → b[i]? = some (some v)
  | [], _, _, i, v, h => by simp at h
  | _ :: _, [], hs, _, _, _ => hs.elim
  | none :: a, _ :: b, hs, 0, v, h => by simp at h
  | none :: a, _ :: b, hs, i + 1, v, h => by
    have := SubL.get (a := a) (b := b) hs i v (by simpa using h)
    simpa using this
  | some w :: a, _ :: b, hs, 0, v, h => by
    have h2 : w = v := by simpa using h
    rw [hs.1, h2]; rfl
  | some w :: a, _ :: b, hs, i + 1, v, h => by
    have := SubL.get (a := a) (b := b) hs.2 i v (by simpa using h)
    simpa using this
section AMR
variable {X : GX} {p : Program} {l : Launch} {e : Env} {R : Room} {s : State} {m : MethodId} {args : Array Value} {below : List Frame} {meth : Method} {c : Code} {own : String} {cc : ByteArray} {nL : Nat} {ret : Option FieldType} {Z : State → Prop} {f : AH} {n cells slots pc : Nat} {lo : List (Option Value)} {st : List Value} {σ : RS9}
theorem aw_fl (lo' : List (Option Value)) (h : SubL lo' lo) (kk : AW X p l e R s m args below meth c nL Z f n cells slots pc lo' st) : AW X p l e R s m args below meth c nL Z f n cells slots pc lo st := aw_lo h.get kk
theorem am_put (C : CC X p l R s m args meth c own cc nL ret) {idx k : Nat} {v : Int32} (g : GF own idx 9 k) (nf : noFin 9 k) (hk : rIsI k = true) (ht : tyX9 k = .int) (hd : decode cc pc = .ok (.putfield idx, 3)) (kk : AW X p l e R s m args below meth c nL Z (rHm f (rSf σ k v)) n cells slots (pc + 3) lo st) : AW X p l e R s m args below meth c nL Z (rHm f σ) n cells slots pc lo (.int v :: .ref 181 :: st) := by
  refine aw_put C g cf9 nf (hm_M f σ) (isI_lt hk) (by rw [ht]; rfl) (by rw [ht]; rfl) hd ?_
  rw [hm_sf f σ hk]; exact kk
theorem am_putZ (C : CC X p l R s m args meth c own cc nL ret) {idx k : Nat} {v : Int32} (g : GF own idx 9 k) (nf : noFin 9 k) (hk : rIsI k = true) (ht : tyX9 k = .boolean) (hb : rNb v = true) (hd : decode cc pc = .ok (.putfield idx, 3)) (kk : AW X p l e R s m args below meth c nL Z (rHm f (rSf σ k v)) n cells slots (pc + 3) lo st) : AW X p l e R s m args below meth c nL Z (rHm f σ) n cells slots pc lo (.int v :: .ref 181 :: st) := by
  refine aw_put C g cf9 nf (hm_M f σ) (isI_lt hk) (by rw [ht]; exact nb_nar hb) (by rw [ht]; exact nb_fit hb) hd ?_
  rw [hm_sf f σ hk]; exact kk
theorem am_iald (C : CC X p l R s m args meth c own cc nL ret) {κ : Nat} {x : Int32} (w : Int32) (hk : rIsA κ = true) (hin : vp_in x (rLen κ)) (hw : rGa σ κ x = w) (hd : decode cc pc = .ok (.iaload, 1)) (kk : AW X p l e R s m args below meth c nL Z (rHm f σ) n cells slots (pc + 1) lo (.int w :: st)) : AW X p l e R s m args below meth c nL Z (rHm f σ) n cells slots pc lo (.int x :: .ref (rAid κ) :: st) := by
  subst hw
  exact aw_iald C (hm_A f σ hk) hin hd kk
theorem am_iast (C : CC X p l R s m args meth c own cc nL ret) {κ : Nat} {x v : Int32} (hk : rIsA κ = true) (hin : vp_in x (rLen κ)) (hd : decode cc pc = .ok (.iastore, 1)) (kk : AW X p l e R s m args below meth c nL Z (rHm f (rSa σ κ x v)) n cells slots (pc + 1) lo st) : AW X p l e R s m args below meth c nL Z (rHm f σ) n cells slots pc lo (.int v :: .int x :: .ref (rAid κ) :: st) := by
  refine aw_iast C (hm_A f σ hk) hin hd ?_
  rw [hm_sa f σ hk]; exact kk
theorem aw_dup2 (C : CC X p l R s m args meth c own cc nL ret) {va vb : Value} (hd : decode cc pc = .ok (.dup2, 1)) (ha : va.category = 1) (hb : vb.category = 1) (kk : AW X p l e R s m args below meth c nL Z f n cells slots (pc + 1) lo (va :: vb :: va :: vb :: st)) : AW X p l e R s m args below meth c nL Z f n cells slots pc lo (va :: vb :: st) := by
  intro H locs ls hR hn hS hl
  exact lv_dup2_11 C.1 C.2.1 hd (by rw [rn_cat]; exact ha) (by rw [rn_cat]; exact hb) (kk H locs ls hR hn hS hl)
theorem aw_acmp_ne (C : CC X p l R s m args meth c own cc nL ret) {x y : Nat} {off : Int} (tgt : Nat) (hd : decode cc pc = .ok (.if_acmp .ne off, 3)) (ht : (pc : Int) + off = (tgt : Int)) (hx : rIsA x = true) (hy : rIsA y = true) (k0 : ¬ x = y → AW X p l e R s m args below meth c nL Z f n cells slots tgt lo st) (k1 : x = y → AW X p l e R s m args below meth c nL Z f n cells slots (pc + 3) lo st) : AW X p l e R s m args below meth c nL Z f n cells slots pc lo (.ref (rAid y) :: .ref (rAid x) :: st) := by
  intro H locs ls hR hn hS hl
  refine lv_acmp_ne (rx := some (X.1 + rAid x)) (ry := some (X.1 + rAid y)) C.1 C.2.1 hd ht (fun q => k0 (fun e => q (by rw [e])) H locs ls hR hn hS hl) (fun q => k1 (aid_inj hx hy (by have := Option.some.inj q; omega)) H locs ls hR hn hS hl)
def strL (t : Nat) : Int32 := nI (sL9.getD t 0)
def strC (t : Nat) (x : Int32) : Int32 := (sB9.getD t []).getD x.toNatClampNeg 0 &&& 255
theorem sL9_b {t : Nat} (h : t < 15) : sL9.getD t 0 < 2 ^ 31 := by
  have h0 : ∀ k : Fin 15, sL9.getD (k : Nat) 0 < 2 ^ 31 := by decide
  exact h0 ⟨t, h⟩
theorem am_slen (C : CC X p l R s m args meth c RX9 cc nL ret) {t : Nat} (ht : t < 15) (hd : decode cc pc = .ok (.invokevirtual 173, 3)) (hfr : 2 ≤ R.frames) (hlo : 56 ≤ R.locals) (hstk : (st.map fun v => v.category).sum ≤ 8) (hc : cells + 0 ≤ R.cells) (hs : slots + 0 ≤ R.slots) (kk : AW X p l e R s m args below meth c nL Z f n cells slots (pc + 3) lo (.int (strL t) :: st)) : AW X p l e R s m args below meth c nL Z f n cells slots pc lo (.retAddr (X.2.2 (1000 + t)) :: st) := by
  refine aw_callK C [] mv_X9_173 (fun H locs hS => vk_recv (STA9 X s C.2.2.2.2.2.2.1) ht hS) (sk_len (STA9 X) ht (sL9_b ht)) rfl hd hfr hlo rfl hstk hc hs (fun v9 f9 n9 hh => ?_)
  obtain ⟨rfl, rfl, rfl⟩ := hh
  exact kk
theorem am_schr (C : CC X p l R s m args meth c RX9 cc nL ret) {t : Nat} {x : Int32} (ht : t < 15) (hb : rIn x (sL9.getD t 0) = true) (hd : decode cc pc = .ok (.invokevirtual 179, 3)) (hfr : 4 ≤ R.frames) (hlo : 129 ≤ R.locals) (hstk : (st.map fun v => v.category).sum ≤ 8) (hc : cells + 0 ≤ R.cells) (hs : slots + 0 ≤ R.slots) (kk : AW X p l e R s m args below meth c nL Z f n cells slots (pc + 3) lo (.int (strC t x) :: st)) : AW X p l e R s m args below meth c nL Z f n cells slots pc lo (.int x :: .retAddr (X.2.2 (1000 + t)) :: st) := by
  have hb2 := sL9_b ht
  obtain ⟨k, hk, hx⟩ := vp_in_of (inb_vp hb) hb2
  subst hx
  refine aw_callK C [.int (nI k)] mv_X9_179 (fun H locs hS => vk_recv (STA9 X s C.2.2.2.2.2.2.1) ht hS) (sk_chr (STA9 X) ht hk hb2) rfl hd hfr hlo rfl hstk hc hs (fun v9 f9 n9 hh => ?_)
  obtain ⟨rfl, rfl, rfl⟩ := hh
  have h9 : strC t (nI k) = (sB9.getD t []).getD k 0 &&& 255 := by unfold strC; rw [nI_clamp (by omega)]
  rw [h9] at kk
  exact kk
end AMR
theorem i32_ne {x : Int32} {k : Int} (c : Int32) (hc : c.toInt = k) (h : ¬ x = c) : x.toInt ≠ k := fun q => h (Int32.toInt_inj.mp (q.trans hc.symm))
theorem sw_out9 {x : Int32} (q0 : ¬ x = 0) (q1 : ¬ x = 1) (q2 : ¬ x = 2) (q3 : ¬ x = 3) (q4 : ¬ x = 4) (q5 : ¬ x = 5) (q6 : ¬ x = 6) (q7 : ¬ x = 7) (q8 : ¬ x = 8) : x.toInt < 0 ∨ 8 < x.toInt := by
  have h0 := i32_ne (k := 0) 0 (by decide) q0
  have h1 := i32_ne (k := 1) 1 (by decide) q1
  have h2 := i32_ne (k := 2) 2 (by decide) q2
  have h3 := i32_ne (k := 3) 3 (by decide) q3
  have h4 := i32_ne (k := 4) 4 (by decide) q4
  have h5 := i32_ne (k := 5) 5 (by decide) q5
  have h6 := i32_ne (k := 6) 6 (by decide) q6
  have h7 := i32_ne (k := 7) 7 (by decide) q7
  have h8 := i32_ne (k := 8) 8 (by decide) q8
  omega
theorem sw_out15 {x : Int32} (q0 : ¬ x = 0) (q1 : ¬ x = 1) (q2 : ¬ x = 2) (q3 : ¬ x = 3) (q4 : ¬ x = 4) (q5 : ¬ x = 5) (q6 : ¬ x = 6) (q7 : ¬ x = 7) (q8 : ¬ x = 8) (q9 : ¬ x = 9) (q10 : ¬ x = 10) (q11 : ¬ x = 11) (q12 : ¬ x = 12) (q13 : ¬ x = 13) (q14 : ¬ x = 14) : x.toInt < 0 ∨ 14 < x.toInt := by
  have h0 := i32_ne (k := 0) 0 (by decide) q0
  have h1 := i32_ne (k := 1) 1 (by decide) q1
  have h2 := i32_ne (k := 2) 2 (by decide) q2
  have h3 := i32_ne (k := 3) 3 (by decide) q3
  have h4 := i32_ne (k := 4) 4 (by decide) q4
  have h5 := i32_ne (k := 5) 5 (by decide) q5
  have h6 := i32_ne (k := 6) 6 (by decide) q6
  have h7 := i32_ne (k := 7) 7 (by decide) q7
  have h8 := i32_ne (k := 8) 8 (by decide) q8
  have h9 := i32_ne (k := 9) 9 (by decide) q9
  have h10 := i32_ne (k := 10) 10 (by decide) q10
  have h11 := i32_ne (k := 11) 11 (by decide) q11
  have h12 := i32_ne (k := 12) 12 (by decide) q12
  have h13 := i32_ne (k := 13) 13 (by decide) q13
  have h14 := i32_ne (k := 14) 14 (by decide) q14
  omega
end
/-! part 21a.dec -/
section
theorem kb_6 : (Int8.ofInt 6).toInt32 = 6 := by decide
theorem kb_7 : (Int8.ofInt 7).toInt32 = 7 := by decide
theorem kb_8 : (Int8.ofInt 8).toInt32 = 8 := by decide
theorem kb_9 : (Int8.ofInt 9).toInt32 = 9 := by decide
theorem kb_10 : (Int8.ofInt 10).toInt32 = 10 := by decide
theorem kb_12 : (Int8.ofInt 12).toInt32 = 12 := by decide
theorem kb_14 : (Int8.ofInt 14).toInt32 = 14 := by decide
theorem kb_16 : (Int8.ofInt 16).toInt32 = 16 := by decide
theorem kb_20 : (Int8.ofInt 20).toInt32 = 20 := by decide
theorem kb_24 : (Int8.ofInt 24).toInt32 = 24 := by decide
theorem kb_32 : (Int8.ofInt 32).toInt32 = 32 := by decide
theorem kb_34 : (Int8.ofInt 34).toInt32 = 34 := by decide
theorem kb_35 : (Int8.ofInt 35).toInt32 = 35 := by decide
theorem kb_38 : (Int8.ofInt 38).toInt32 = 38 := by decide
theorem kb_39 : (Int8.ofInt 39).toInt32 = 39 := by decide
theorem kb_40 : (Int8.ofInt 40).toInt32 = 40 := by decide
theorem kb_42 : (Int8.ofInt 42).toInt32 = 42 := by decide
theorem kb_43 : (Int8.ofInt 43).toInt32 = 43 := by decide
theorem kb_44 : (Int8.ofInt 44).toInt32 = 44 := by decide
theorem kb_48 : (Int8.ofInt 48).toInt32 = 48 := by decide
theorem kb_57 : (Int8.ofInt 57).toInt32 = 57 := by decide
theorem kb_58 : (Int8.ofInt 58).toInt32 = 58 := by decide
theorem kb_59 : (Int8.ofInt 59).toInt32 = 59 := by decide
theorem kb_60 : (Int8.ofInt 60).toInt32 = 60 := by decide
theorem kb_61 : (Int8.ofInt 61).toInt32 = 61 := by decide
theorem kb_62 : (Int8.ofInt 62).toInt32 = 62 := by decide
theorem kb_65 : (Int8.ofInt 65).toInt32 = 65 := by decide
theorem kb_90 : (Int8.ofInt 90).toInt32 = 90 := by decide
theorem kb_92 : (Int8.ofInt 92).toInt32 = 92 := by decide
theorem kb_97 : (Int8.ofInt 97).toInt32 = 97 := by decide
theorem kb_110 : (Int8.ofInt 110).toInt32 = 110 := by decide
theorem kb_116 : (Int8.ofInt 116).toInt32 = 116 := by decide
theorem kb_122 : (Int8.ofInt 122).toInt32 = 122 := by decide
theorem ki_m1 : Int32.ofInt (-1) = (-1) := by decide
theorem ki_0 : Int32.ofInt 0 = 0 := by decide
theorem ki_1 : Int32.ofInt 1 = 1 := by decide
theorem ki_2 : Int32.ofInt 2 = 2 := by decide
theorem ki_3 : Int32.ofInt 3 = 3 := by decide
theorem ki_4 : Int32.ofInt 4 = 4 := by decide
theorem ki_5 : Int32.ofInt 5 = 5 := by decide
theorem ks_255 : (Int16.ofInt 255).toInt32 = 255 := by decide
theorem ks_400 : (Int16.ofInt 400).toInt32 = 400 := by decide
theorem ks_443 : (Int16.ofInt 443).toInt32 = 443 := by decide
theorem ks_600 : (Int16.ofInt 600).toInt32 = 600 := by decide
theorem ks_700 : (Int16.ofInt 700).toInt32 = 700 := by decide
theorem ks_2883 : (Int16.ofInt 2883).toInt32 = 2883 := by decide
theorem ks_2884 : (Int16.ofInt 2884).toInt32 = 2884 := by decide
theorem ks_2944 : (Int16.ofInt 2944).toInt32 = 2944 := by decide
theorem ks_2945 : (Int16.ofInt 2945).toInt32 = 2945 := by decide
theorem ks_3005 : (Int16.ofInt 3005).toInt32 = 3005 := by decide
theorem ks_4346 : (Int16.ofInt 4346).toInt32 = 4346 := by decide
theorem ks_4347 : (Int16.ofInt 4347).toInt32 = 4347 := by decide
theorem ks_30429 : (Int16.ofInt 30429).toInt32 = 30429 := by decide
theorem dX9_act_0 : decode cX9_act 0 = .ok (.aload_n 0, 1) := by decide +kernel
theorem dX9_act_1 : decode cX9_act 1 = .ok (.invokevirtual 346, 3) := by decide +kernel
theorem dX9_act_4 : decode cX9_act 4 = .ok (.istore_n 1, 1) := by decide +kernel
theorem dX9_act_5 : decode cX9_act 5 = .ok (.iconst 0, 1) := by decide +kernel
theorem dX9_act_6 : decode cX9_act 6 = .ok (.istore_n 2, 1) := by decide +kernel
theorem dX9_act_7 : decode cX9_act 7 = .ok (.aload_n 0, 1) := by decide +kernel
theorem dX9_act_8 : decode cX9_act 8 = .ok (.ldc_w 373, 3) := by decide +kernel
theorem dX9_act_11 : decode cX9_act 11 = .ok (.invokevirtual 375, 3) := by decide +kernel
theorem dX9_act_14 : decode cX9_act 14 = .ok (.ifCond .eq 14, 3) := by decide +kernel
theorem dX9_act_17 : decode cX9_act 17 = .ok (.aload_n 0, 1) := by decide +kernel
theorem dX9_act_18 : decode cX9_act 18 = .ok (.iconst 1, 1) := by decide +kernel
theorem dX9_act_19 : decode cX9_act 19 = .ok (.iconst 0, 1) := by decide +kernel
theorem dX9_act_20 : decode cX9_act 20 = .ok (.iconst 3, 1) := by decide +kernel
theorem dX9_act_21 : decode cX9_act 21 = .ok (.invokevirtual 379, 3) := by decide +kernel
theorem dX9_act_24 : decode cX9_act 24 = .ok (.istore_n 2, 1) := by decide +kernel
theorem dX9_act_25 : decode cX9_act 25 = .ok (.goto 221, 3) := by decide +kernel
theorem dX9_act_28 : decode cX9_act 28 = .ok (.aload_n 0, 1) := by decide +kernel
theorem dX9_act_29 : decode cX9_act 29 = .ok (.ldc_w 383, 3) := by decide +kernel
theorem dX9_act_32 : decode cX9_act 32 = .ok (.invokevirtual 375, 3) := by decide +kernel
theorem dX9_act_35 : decode cX9_act 35 = .ok (.ifCond .eq 14, 3) := by decide +kernel
theorem dX9_act_38 : decode cX9_act 38 = .ok (.aload_n 0, 1) := by decide +kernel
theorem dX9_act_39 : decode cX9_act 39 = .ok (.iconst 2, 1) := by decide +kernel
theorem dX9_act_40 : decode cX9_act 40 = .ok (.iconst 0, 1) := by decide +kernel
theorem dX9_act_41 : decode cX9_act 41 = .ok (.iconst 3, 1) := by decide +kernel
theorem dX9_act_42 : decode cX9_act 42 = .ok (.invokevirtual 379, 3) := by decide +kernel
theorem dX9_act_45 : decode cX9_act 45 = .ok (.istore_n 2, 1) := by decide +kernel
theorem dX9_act_46 : decode cX9_act 46 = .ok (.goto 200, 3) := by decide +kernel
theorem dX9_act_49 : decode cX9_act 49 = .ok (.aload_n 0, 1) := by decide +kernel
theorem dX9_act_50 : decode cX9_act 50 = .ok (.ldc_w 385, 3) := by decide +kernel
theorem dX9_act_53 : decode cX9_act 53 = .ok (.invokevirtual 375, 3) := by decide +kernel
theorem dX9_act_56 : decode cX9_act 56 = .ok (.ifCond .eq 13, 3) := by decide +kernel
theorem dX9_act_59 : decode cX9_act 59 = .ok (.aload_n 0, 1) := by decide +kernel
theorem dX9_act_60 : decode cX9_act 60 = .ok (.iconst 2, 1) := by decide +kernel
theorem dX9_act_61 : decode cX9_act 61 = .ok (.iconst (-1), 1) := by decide +kernel
theorem dX9_act_62 : decode cX9_act 62 = .ok (.invokevirtual 361, 3) := by decide +kernel
theorem dX9_act_65 : decode cX9_act 65 = .ok (.istore_n 2, 1) := by decide +kernel
theorem dX9_act_66 : decode cX9_act 66 = .ok (.goto 180, 3) := by decide +kernel
theorem dX9_act_69 : decode cX9_act 69 = .ok (.aload_n 0, 1) := by decide +kernel
theorem dX9_act_70 : decode cX9_act 70 = .ok (.ldc_w 386, 3) := by decide +kernel
theorem dX9_act_73 : decode cX9_act 73 = .ok (.invokevirtual 375, 3) := by decide +kernel
theorem dX9_act_76 : decode cX9_act 76 = .ok (.ifCond .eq 13, 3) := by decide +kernel
theorem dX9_act_79 : decode cX9_act 79 = .ok (.aload_n 0, 1) := by decide +kernel
theorem dX9_act_80 : decode cX9_act 80 = .ok (.iconst 3, 1) := by decide +kernel
theorem dX9_act_81 : decode cX9_act 81 = .ok (.iconst 1, 1) := by decide +kernel
theorem dX9_act_82 : decode cX9_act 82 = .ok (.invokevirtual 361, 3) := by decide +kernel
theorem dX9_act_85 : decode cX9_act 85 = .ok (.istore_n 2, 1) := by decide +kernel
theorem dX9_act_86 : decode cX9_act 86 = .ok (.goto 160, 3) := by decide +kernel
theorem dX9_act_89 : decode cX9_act 89 = .ok (.aload_n 0, 1) := by decide +kernel
theorem dX9_act_90 : decode cX9_act 90 = .ok (.ldc_w 388, 3) := by decide +kernel
theorem dX9_act_93 : decode cX9_act 93 = .ok (.invokevirtual 375, 3) := by decide +kernel
theorem dX9_act_96 : decode cX9_act 96 = .ok (.ifCond .eq 13, 3) := by decide +kernel
theorem dX9_act_99 : decode cX9_act 99 = .ok (.aload_n 0, 1) := by decide +kernel
theorem dX9_act_100 : decode cX9_act 100 = .ok (.iconst 3, 1) := by decide +kernel
theorem dX9_act_101 : decode cX9_act 101 = .ok (.iconst 0, 1) := by decide +kernel
theorem dX9_act_102 : decode cX9_act 102 = .ok (.invokevirtual 361, 3) := by decide +kernel
theorem dX9_act_105 : decode cX9_act 105 = .ok (.istore_n 2, 1) := by decide +kernel
theorem dX9_act_106 : decode cX9_act 106 = .ok (.goto 140, 3) := by decide +kernel
theorem dX9_act_109 : decode cX9_act 109 = .ok (.aload_n 0, 1) := by decide +kernel
theorem dX9_act_110 : decode cX9_act 110 = .ok (.ldc_w 390, 3) := by decide +kernel
theorem dX9_act_113 : decode cX9_act 113 = .ok (.invokevirtual 375, 3) := by decide +kernel
theorem dX9_act_116 : decode cX9_act 116 = .ok (.ifCond .eq 15, 3) := by decide +kernel
theorem dX9_act_119 : decode cX9_act 119 = .ok (.aload_n 0, 1) := by decide +kernel
theorem dX9_act_120 : decode cX9_act 120 = .ok (.iconst 4, 1) := by decide +kernel
theorem dX9_act_121 : decode cX9_act 121 = .ok (.iconst 1, 1) := by decide +kernel
theorem dX9_act_122 : decode cX9_act 122 = .ok (.bipush 40, 2) := by decide +kernel
theorem dX9_act_124 : decode cX9_act 124 = .ok (.invokevirtual 379, 3) := by decide +kernel
theorem dX9_act_127 : decode cX9_act 127 = .ok (.istore_n 2, 1) := by decide +kernel
theorem dX9_act_128 : decode cX9_act 128 = .ok (.goto 118, 3) := by decide +kernel
theorem dX9_act_131 : decode cX9_act 131 = .ok (.aload_n 0, 1) := by decide +kernel
theorem dX9_act_132 : decode cX9_act 132 = .ok (.ldc_w 392, 3) := by decide +kernel
theorem dX9_act_135 : decode cX9_act 135 = .ok (.invokevirtual 375, 3) := by decide +kernel
theorem dX9_act_138 : decode cX9_act 138 = .ok (.ifCond .eq 11, 3) := by decide +kernel
theorem dX9_act_141 : decode cX9_act 141 = .ok (.aload_n 0, 1) := by decide +kernel
theorem dX9_act_142 : decode cX9_act 142 = .ok (.invokevirtual 394, 3) := by decide +kernel
theorem dX9_act_145 : decode cX9_act 145 = .ok (.istore_n 2, 1) := by decide +kernel
theorem dX9_act_146 : decode cX9_act 146 = .ok (.goto 100, 3) := by decide +kernel
theorem dX9_act_149 : decode cX9_act 149 = .ok (.aload_n 0, 1) := by decide +kernel
theorem dX9_act_150 : decode cX9_act 150 = .ok (.ldc_w 397, 3) := by decide +kernel
theorem dX9_act_153 : decode cX9_act 153 = .ok (.invokevirtual 375, 3) := by decide +kernel
theorem dX9_act_156 : decode cX9_act 156 = .ok (.ifCond .eq 11, 3) := by decide +kernel
theorem dX9_act_159 : decode cX9_act 159 = .ok (.aload_n 0, 1) := by decide +kernel
theorem dX9_act_160 : decode cX9_act 160 = .ok (.invokevirtual 399, 3) := by decide +kernel
theorem dX9_act_163 : decode cX9_act 163 = .ok (.istore_n 2, 1) := by decide +kernel
theorem dX9_act_164 : decode cX9_act 164 = .ok (.goto 82, 3) := by decide +kernel
theorem dX9_act_167 : decode cX9_act 167 = .ok (.aload_n 0, 1) := by decide +kernel
theorem dX9_act_168 : decode cX9_act 168 = .ok (.ldc_w 402, 3) := by decide +kernel
theorem dX9_act_171 : decode cX9_act 171 = .ok (.invokevirtual 375, 3) := by decide +kernel
theorem dX9_act_174 : decode cX9_act 174 = .ok (.ifCond .eq 12, 3) := by decide +kernel
theorem dX9_act_177 : decode cX9_act 177 = .ok (.aload_n 0, 1) := by decide +kernel
theorem dX9_act_178 : decode cX9_act 178 = .ok (.iconst 1, 1) := by decide +kernel
theorem dX9_act_179 : decode cX9_act 179 = .ok (.invokevirtual 404, 3) := by decide +kernel
theorem dX9_act_182 : decode cX9_act 182 = .ok (.istore_n 2, 1) := by decide +kernel
theorem dX9_act_183 : decode cX9_act 183 = .ok (.goto 63, 3) := by decide +kernel
theorem dX9_act_186 : decode cX9_act 186 = .ok (.aload_n 0, 1) := by decide +kernel
theorem dX9_act_187 : decode cX9_act 187 = .ok (.ldc_w 408, 3) := by decide +kernel
theorem dX9_act_190 : decode cX9_act 190 = .ok (.invokevirtual 375, 3) := by decide +kernel
theorem dX9_act_193 : decode cX9_act 193 = .ok (.ifCond .eq 12, 3) := by decide +kernel
theorem dX9_act_196 : decode cX9_act 196 = .ok (.aload_n 0, 1) := by decide +kernel
theorem dX9_act_197 : decode cX9_act 197 = .ok (.iconst 0, 1) := by decide +kernel
theorem dX9_act_198 : decode cX9_act 198 = .ok (.invokevirtual 404, 3) := by decide +kernel
theorem dX9_act_201 : decode cX9_act 201 = .ok (.istore_n 2, 1) := by decide +kernel
theorem dX9_act_202 : decode cX9_act 202 = .ok (.goto 44, 3) := by decide +kernel
theorem dX9_act_205 : decode cX9_act 205 = .ok (.aload_n 0, 1) := by decide +kernel
theorem dX9_act_206 : decode cX9_act 206 = .ok (.ldc_w 410, 3) := by decide +kernel
theorem dX9_act_209 : decode cX9_act 209 = .ok (.invokevirtual 375, 3) := by decide +kernel
theorem dX9_act_212 : decode cX9_act 212 = .ok (.ifCond .eq 11, 3) := by decide +kernel
theorem dX9_act_215 : decode cX9_act 215 = .ok (.aload_n 0, 1) := by decide +kernel
theorem dX9_act_216 : decode cX9_act 216 = .ok (.invokevirtual 412, 3) := by decide +kernel
theorem dX9_act_219 : decode cX9_act 219 = .ok (.istore_n 2, 1) := by decide +kernel
theorem dX9_act_220 : decode cX9_act 220 = .ok (.goto 26, 3) := by decide +kernel
theorem dX9_act_223 : decode cX9_act 223 = .ok (.aload_n 0, 1) := by decide +kernel
theorem dX9_act_224 : decode cX9_act 224 = .ok (.ldc_w 415, 3) := by decide +kernel
theorem dX9_act_227 : decode cX9_act 227 = .ok (.invokevirtual 375, 3) := by decide +kernel
theorem dX9_act_230 : decode cX9_act 230 = .ok (.ifCond .eq 11, 3) := by decide +kernel
theorem dX9_act_233 : decode cX9_act 233 = .ok (.aload_n 0, 1) := by decide +kernel
theorem dX9_act_234 : decode cX9_act 234 = .ok (.invokevirtual 417, 3) := by decide +kernel
theorem dX9_act_237 : decode cX9_act 237 = .ok (.istore_n 2, 1) := by decide +kernel
theorem dX9_act_238 : decode cX9_act 238 = .ok (.goto 8, 3) := by decide +kernel
theorem dX9_act_241 : decode cX9_act 241 = .ok (.aload_n 0, 1) := by decide +kernel
theorem dX9_act_242 : decode cX9_act 242 = .ok (.iload_n 1, 1) := by decide +kernel
theorem dX9_act_243 : decode cX9_act 243 = .ok (.invokevirtual 352, 3) := by decide +kernel
theorem dX9_act_246 : decode cX9_act 246 = .ok (.aload_n 0, 1) := by decide +kernel
theorem dX9_act_247 : decode cX9_act 247 = .ok (.getfield 26, 3) := by decide +kernel
theorem dX9_act_250 : decode cX9_act 250 = .ok (.iconst (-1), 1) := by decide +kernel
theorem dX9_act_251 : decode cX9_act 251 = .ok (.if_icmp .eq 5, 3) := by decide +kernel
theorem dX9_act_254 : decode cX9_act 254 = .ok (.iconst 0, 1) := by decide +kernel
theorem dX9_act_255 : decode cX9_act 255 = .ok (.ireturn, 1) := by decide +kernel
theorem dX9_act_256 : decode cX9_act 256 = .ok (.iload_n 2, 1) := by decide +kernel
theorem dX9_act_257 : decode cX9_act 257 = .ok (.ifCond .le 8, 3) := by decide +kernel
theorem dX9_act_260 : decode cX9_act 260 = .ok (.aload_n 0, 1) := by decide +kernel
theorem dX9_act_261 : decode cX9_act 261 = .ok (.iload_n 1, 1) := by decide +kernel
theorem dX9_act_262 : decode cX9_act 262 = .ok (.invokevirtual 352, 3) := by decide +kernel
theorem dX9_act_265 : decode cX9_act 265 = .ok (.iload_n 2, 1) := by decide +kernel
theorem dX9_act_266 : decode cX9_act 266 = .ok (.ireturn, 1) := by decide +kernel
theorem dX9_acts_0 : decode cX9_acts 0 = .ok (.aload_n 0, 1) := by decide +kernel
theorem dX9_acts_1 : decode cX9_acts 1 = .ok (.iconst (-1), 1) := by decide +kernel
theorem dX9_acts_2 : decode cX9_acts 2 = .ok (.putfield 26, 3) := by decide +kernel
theorem dX9_acts_5 : decode cX9_acts 5 = .ok (.aload_n 0, 1) := by decide +kernel
theorem dX9_acts_6 : decode cX9_acts 6 = .ok (.aload_n 0, 1) := by decide +kernel
theorem dX9_acts_7 : decode cX9_acts 7 = .ok (.getfield 337, 3) := by decide +kernel
theorem dX9_acts_10 : decode cX9_acts 10 = .ok (.putfield 343, 3) := by decide +kernel
theorem dX9_acts_13 : decode cX9_acts 13 = .ok (.aload_n 0, 1) := by decide +kernel
theorem dX9_acts_14 : decode cX9_acts 14 = .ok (.iconst 0, 1) := by decide +kernel
theorem dX9_acts_15 : decode cX9_acts 15 = .ok (.putfield 337, 3) := by decide +kernel
theorem dX9_acts_18 : decode cX9_acts 18 = .ok (.aload_n 0, 1) := by decide +kernel
theorem dX9_acts_19 : decode cX9_acts 19 = .ok (.iconst 0, 1) := by decide +kernel
theorem dX9_acts_20 : decode cX9_acts 20 = .ok (.putfield 340, 3) := by decide +kernel
theorem dX9_acts_23 : decode cX9_acts 23 = .ok (.aload_n 0, 1) := by decide +kernel
theorem dX9_acts_24 : decode cX9_acts 24 = .ok (.invokevirtual 420, 3) := by decide +kernel
theorem dX9_acts_27 : decode cX9_acts 27 = .ok (.iconst 0, 1) := by decide +kernel
theorem dX9_acts_28 : decode cX9_acts 28 = .ok (.istore_n 1, 1) := by decide +kernel
theorem dX9_acts_29 : decode cX9_acts 29 = .ok (.iconst 0, 1) := by decide +kernel
theorem dX9_acts_30 : decode cX9_acts 30 = .ok (.istore_n 2, 1) := by decide +kernel
theorem dX9_acts_31 : decode cX9_acts 31 = .ok (.aload_n 0, 1) := by decide +kernel
theorem dX9_acts_32 : decode cX9_acts 32 = .ok (.invokevirtual 346, 3) := by decide +kernel
theorem dX9_acts_35 : decode cX9_acts 35 = .ok (.aload_n 0, 1) := by decide +kernel
theorem dX9_acts_36 : decode cX9_acts 36 = .ok (.getfield 343, 3) := by decide +kernel
theorem dX9_acts_39 : decode cX9_acts 39 = .ok (.if_icmp .ge 7, 3) := by decide +kernel
theorem dX9_acts_42 : decode cX9_acts 42 = .ok (.iconst 1, 1) := by decide +kernel
theorem dX9_acts_43 : decode cX9_acts 43 = .ok (.goto 4, 3) := by decide +kernel
theorem dX9_acts_46 : decode cX9_acts 46 = .ok (.iconst 0, 1) := by decide +kernel
theorem dX9_acts_47 : decode cX9_acts 47 = .ok (.istore_n 3, 1) := by decide +kernel
theorem dX9_acts_48 : decode cX9_acts 48 = .ok (.iload_n 3, 1) := by decide +kernel
theorem dX9_acts_49 : decode cX9_acts 49 = .ok (.ifCond .eq 105, 3) := by decide +kernel
theorem dX9_acts_52 : decode cX9_acts 52 = .ok (.aload_n 0, 1) := by decide +kernel
theorem dX9_acts_53 : decode cX9_acts 53 = .ok (.getfield 26, 3) := by decide +kernel
theorem dX9_acts_56 : decode cX9_acts 56 = .ok (.iconst (-1), 1) := by decide +kernel
theorem dX9_acts_57 : decode cX9_acts 57 = .ok (.if_icmp .ne 97, 3) := by decide +kernel
theorem dX9_acts_60 : decode cX9_acts 60 = .ok (.iload_n 1, 1) := by decide +kernel
theorem dX9_acts_61 : decode cX9_acts 61 = .ok (.bipush 14, 2) := by decide +kernel
theorem dX9_acts_63 : decode cX9_acts 63 = .ok (.if_icmp .ne 11, 3) := by decide +kernel
theorem dX9_acts_66 : decode cX9_acts 66 = .ok (.aload_n 0, 1) := by decide +kernel
theorem dX9_acts_67 : decode cX9_acts 67 = .ok (.aload_n 0, 1) := by decide +kernel
theorem dX9_acts_68 : decode cX9_acts 68 = .ok (.invokevirtual 346, 3) := by decide +kernel
theorem dX9_acts_71 : decode cX9_acts 71 = .ok (.invokevirtual 352, 3) := by decide +kernel
theorem dX9_acts_74 : decode cX9_acts 74 = .ok (.aload_n 0, 1) := by decide +kernel
theorem dX9_acts_75 : decode cX9_acts 75 = .ok (.getfield 26, 3) := by decide +kernel
theorem dX9_acts_78 : decode cX9_acts 78 = .ok (.iconst (-1), 1) := by decide +kernel
theorem dX9_acts_79 : decode cX9_acts 79 = .ok (.if_icmp .ne 8, 3) := by decide +kernel
theorem dX9_acts_82 : decode cX9_acts 82 = .ok (.aload_n 0, 1) := by decide +kernel
theorem dX9_acts_83 : decode cX9_acts 83 = .ok (.invokevirtual 423, 3) := by decide +kernel
theorem dX9_acts_86 : decode cX9_acts 86 = .ok (.istore_n 2, 1) := by decide +kernel
theorem dX9_acts_87 : decode cX9_acts 87 = .ok (.iinc 1 1, 3) := by decide +kernel
theorem dX9_acts_90 : decode cX9_acts 90 = .ok (.aload_n 0, 1) := by decide +kernel
theorem dX9_acts_91 : decode cX9_acts 91 = .ok (.invokevirtual 346, 3) := by decide +kernel
theorem dX9_acts_94 : decode cX9_acts 94 = .ok (.aload_n 0, 1) := by decide +kernel
theorem dX9_acts_95 : decode cX9_acts 95 = .ok (.getfield 343, 3) := by decide +kernel
theorem dX9_acts_98 : decode cX9_acts 98 = .ok (.if_icmp .ge 7, 3) := by decide +kernel
theorem dX9_acts_101 : decode cX9_acts 101 = .ok (.iconst 1, 1) := by decide +kernel
theorem dX9_acts_102 : decode cX9_acts 102 = .ok (.goto 4, 3) := by decide +kernel
theorem dX9_acts_105 : decode cX9_acts 105 = .ok (.iconst 0, 1) := by decide +kernel
theorem dX9_acts_106 : decode cX9_acts 106 = .ok (.istore_n 3, 1) := by decide +kernel
theorem dX9_acts_107 : decode cX9_acts 107 = .ok (.iload_n 3, 1) := by decide +kernel
theorem dX9_acts_108 : decode cX9_acts 108 = .ok (.ifCond .eq (-60), 3) := by decide +kernel
theorem dX9_acts_111 : decode cX9_acts 111 = .ok (.aload_n 0, 1) := by decide +kernel
theorem dX9_acts_112 : decode cX9_acts 112 = .ok (.getfield 26, 3) := by decide +kernel
theorem dX9_acts_115 : decode cX9_acts 115 = .ok (.iconst (-1), 1) := by decide +kernel
theorem dX9_acts_116 : decode cX9_acts 116 = .ok (.if_icmp .ne (-68), 3) := by decide +kernel
theorem dX9_acts_119 : decode cX9_acts 119 = .ok (.aload_n 0, 1) := by decide +kernel
theorem dX9_acts_120 : decode cX9_acts 120 = .ok (.getfield 23, 3) := by decide +kernel
theorem dX9_acts_123 : decode cX9_acts 123 = .ok (.aload_n 0, 1) := by decide +kernel
theorem dX9_acts_124 : decode cX9_acts 124 = .ok (.getfield 340, 3) := by decide +kernel
theorem dX9_acts_127 : decode cX9_acts 127 = .ok (.iaload, 1) := by decide +kernel
theorem dX9_acts_128 : decode cX9_acts 128 = .ok (.bipush 59, 2) := by decide +kernel
theorem dX9_acts_130 : decode cX9_acts 130 = .ok (.if_icmp .eq 11, 3) := by decide +kernel
theorem dX9_acts_133 : decode cX9_acts 133 = .ok (.aload_n 0, 1) := by decide +kernel
theorem dX9_acts_134 : decode cX9_acts 134 = .ok (.aload_n 0, 1) := by decide +kernel
theorem dX9_acts_135 : decode cX9_acts 135 = .ok (.getfield 340, 3) := by decide +kernel
theorem dX9_acts_138 : decode cX9_acts 138 = .ok (.invokevirtual 352, 3) := by decide +kernel
theorem dX9_acts_141 : decode cX9_acts 141 = .ok (.aload_n 0, 1) := by decide +kernel
theorem dX9_acts_142 : decode cX9_acts 142 = .ok (.dup, 1) := by decide +kernel
theorem dX9_acts_143 : decode cX9_acts 143 = .ok (.getfield 340, 3) := by decide +kernel
theorem dX9_acts_146 : decode cX9_acts 146 = .ok (.iconst 1, 1) := by decide +kernel
theorem dX9_acts_147 : decode cX9_acts 147 = .ok (.iadd, 1) := by decide +kernel
theorem dX9_acts_148 : decode cX9_acts 148 = .ok (.putfield 340, 3) := by decide +kernel
theorem dX9_acts_151 : decode cX9_acts 151 = .ok (.goto (-103), 3) := by decide +kernel
theorem dX9_acts_154 : decode cX9_acts 154 = .ok (.aload_n 0, 1) := by decide +kernel
theorem dX9_acts_155 : decode cX9_acts 155 = .ok (.aload_n 0, 1) := by decide +kernel
theorem dX9_acts_156 : decode cX9_acts 156 = .ok (.getfield 26, 3) := by decide +kernel
theorem dX9_acts_159 : decode cX9_acts 159 = .ok (.iconst (-1), 1) := by decide +kernel
theorem dX9_acts_160 : decode cX9_acts 160 = .ok (.if_icmp .ne 7, 3) := by decide +kernel
theorem dX9_acts_163 : decode cX9_acts 163 = .ok (.iconst 0, 1) := by decide +kernel
theorem dX9_acts_164 : decode cX9_acts 164 = .ok (.goto 4, 3) := by decide +kernel
theorem dX9_acts_167 : decode cX9_acts 167 = .ok (.iconst 1, 1) := by decide +kernel
theorem dX9_acts_168 : decode cX9_acts 168 = .ok (.putfield 138, 3) := by decide +kernel
theorem dX9_acts_171 : decode cX9_acts 171 = .ok (.aload_n 0, 1) := by decide +kernel
theorem dX9_acts_172 : decode cX9_acts 172 = .ok (.getfield 138, 3) := by decide +kernel
theorem dX9_acts_175 : decode cX9_acts 175 = .ok (.ifCond .ne 26, 3) := by decide +kernel
theorem dX9_acts_178 : decode cX9_acts 178 = .ok (.aload_n 0, 1) := by decide +kernel
theorem dX9_acts_179 : decode cX9_acts 179 = .ok (.iload_n 1, 1) := by decide +kernel
theorem dX9_acts_180 : decode cX9_acts 180 = .ok (.ifCond .le 7, 3) := by decide +kernel
theorem dX9_acts_183 : decode cX9_acts 183 = .ok (.iconst 0, 1) := by decide +kernel
theorem dX9_acts_184 : decode cX9_acts 184 = .ok (.goto 7, 3) := by decide +kernel
theorem dX9_acts_187 : decode cX9_acts 187 = .ok (.aload_n 0, 1) := by decide +kernel
theorem dX9_acts_188 : decode cX9_acts 188 = .ok (.getfield 328, 3) := by decide +kernel
theorem dX9_acts_191 : decode cX9_acts 191 = .ok (.putfield 328, 3) := by decide +kernel
theorem dX9_acts_194 : decode cX9_acts 194 = .ok (.aload_n 0, 1) := by decide +kernel
theorem dX9_acts_195 : decode cX9_acts 195 = .ok (.iconst 0, 1) := by decide +kernel
theorem dX9_acts_196 : decode cX9_acts 196 = .ok (.putfield 325, 3) := by decide +kernel
theorem dX9_acts_199 : decode cX9_acts 199 = .ok (.iload_n 1, 1) := by decide +kernel
theorem dX9_acts_200 : decode cX9_acts 200 = .ok (.ireturn, 1) := by decide +kernel
theorem dX9_acts_201 : decode cX9_acts 201 = .ok (.aload_n 0, 1) := by decide +kernel
theorem dX9_acts_202 : decode cX9_acts 202 = .ok (.iload_n 2, 1) := by decide +kernel
theorem dX9_acts_203 : decode cX9_acts 203 = .ok (.ifCond .le 7, 3) := by decide +kernel
theorem dX9_acts_206 : decode cX9_acts 206 = .ok (.iload_n 2, 1) := by decide +kernel
theorem dX9_acts_207 : decode cX9_acts 207 = .ok (.goto 7, 3) := by decide +kernel
theorem dX9_acts_210 : decode cX9_acts 210 = .ok (.aload_n 0, 1) := by decide +kernel
theorem dX9_acts_211 : decode cX9_acts 211 = .ok (.getfield 328, 3) := by decide +kernel
theorem dX9_acts_214 : decode cX9_acts 214 = .ok (.putfield 328, 3) := by decide +kernel
theorem dX9_acts_217 : decode cX9_acts 217 = .ok (.aload_n 0, 1) := by decide +kernel
theorem dX9_acts_218 : decode cX9_acts 218 = .ok (.invokevirtual 334, 3) := by decide +kernel
theorem dX9_acts_221 : decode cX9_acts 221 = .ok (.iconst 0, 1) := by decide +kernel
theorem dX9_acts_222 : decode cX9_acts 222 = .ok (.ireturn, 1) := by decide +kernel
theorem dX9_allWords_0 : decode cX9_allWords 0 = .ok (.iconst 0, 1) := by decide +kernel
theorem dX9_allWords_1 : decode cX9_allWords 1 = .ok (.istore_n 1, 1) := by decide +kernel
theorem dX9_allWords_2 : decode cX9_allWords 2 = .ok (.iconst 0, 1) := by decide +kernel
theorem dX9_allWords_3 : decode cX9_allWords 3 = .ok (.istore_n 2, 1) := by decide +kernel
theorem dX9_allWords_4 : decode cX9_allWords 4 = .ok (.iload_n 2, 1) := by decide +kernel
theorem dX9_allWords_5 : decode cX9_allWords 5 = .ok (.aload_n 0, 1) := by decide +kernel
theorem dX9_allWords_6 : decode cX9_allWords 6 = .ok (.getfield 204, 3) := by decide +kernel
theorem dX9_allWords_9 : decode cX9_allWords 9 = .ok (.if_icmp .ge 17, 3) := by decide +kernel
theorem dX9_allWords_12 : decode cX9_allWords 12 = .ok (.iload_n 1, 1) := by decide +kernel
theorem dX9_allWords_13 : decode cX9_allWords 13 = .ok (.aload_n 0, 1) := by decide +kernel
theorem dX9_allWords_14 : decode cX9_allWords 14 = .ok (.iload_n 2, 1) := by decide +kernel
theorem dX9_allWords_15 : decode cX9_allWords 15 = .ok (.invokevirtual 447, 3) := by decide +kernel
theorem dX9_allWords_18 : decode cX9_allWords 18 = .ok (.iadd, 1) := by decide +kernel
theorem dX9_allWords_19 : decode cX9_allWords 19 = .ok (.istore_n 1, 1) := by decide +kernel
theorem dX9_allWords_20 : decode cX9_allWords 20 = .ok (.iinc 2 1, 3) := by decide +kernel
theorem dX9_allWords_23 : decode cX9_allWords 23 = .ok (.goto (-19), 3) := by decide +kernel
theorem dX9_allWords_26 : decode cX9_allWords 26 = .ok (.iload_n 1, 1) := by decide +kernel
theorem dX9_allWords_27 : decode cX9_allWords 27 = .ok (.ireturn, 1) := by decide +kernel
theorem dX9_areLike_0 : decode cX9_areLike 0 = .ok (.aload_n 0, 1) := by decide +kernel
theorem dX9_areLike_1 : decode cX9_areLike 1 = .ok (.getfield 105, 3) := by decide +kernel
theorem dX9_areLike_4 : decode cX9_areLike 4 = .ok (.iload_n 1, 1) := by decide +kernel
theorem dX9_areLike_5 : decode cX9_areLike 5 = .ok (.iaload, 1) := by decide +kernel
theorem dX9_areLike_6 : decode cX9_areLike 6 = .ok (.aload_n 0, 1) := by decide +kernel
theorem dX9_areLike_7 : decode cX9_areLike 7 = .ok (.getfield 105, 3) := by decide +kernel
theorem dX9_areLike_10 : decode cX9_areLike 10 = .ok (.iload_n 2, 1) := by decide +kernel
theorem dX9_areLike_11 : decode cX9_areLike 11 = .ok (.iaload, 1) := by decide +kernel
theorem dX9_areLike_12 : decode cX9_areLike 12 = .ok (.if_icmp .ne 7, 3) := by decide +kernel
theorem dX9_areLike_15 : decode cX9_areLike 15 = .ok (.iconst 1, 1) := by decide +kernel
theorem dX9_areLike_16 : decode cX9_areLike 16 = .ok (.goto 4, 3) := by decide +kernel
theorem dX9_areLike_19 : decode cX9_areLike 19 = .ok (.iconst 0, 1) := by decide +kernel
theorem dX9_areLike_20 : decode cX9_areLike 20 = .ok (.istore_n 3, 1) := by decide +kernel
theorem dX9_areLike_21 : decode cX9_areLike 21 = .ok (.iconst 0, 1) := by decide +kernel
theorem dX9_areLike_22 : decode cX9_areLike 22 = .ok (.istore 4, 2) := by decide +kernel
theorem dX9_areLike_24 : decode cX9_areLike 24 = .ok (.iload 4, 2) := by decide +kernel
theorem dX9_areLike_26 : decode cX9_areLike 26 = .ok (.aload_n 0, 1) := by decide +kernel
theorem dX9_areLike_27 : decode cX9_areLike 27 = .ok (.getfield 105, 3) := by decide +kernel
theorem dX9_areLike_30 : decode cX9_areLike 30 = .ok (.iload_n 1, 1) := by decide +kernel
theorem dX9_areLike_31 : decode cX9_areLike 31 = .ok (.iaload, 1) := by decide +kernel
theorem dX9_areLike_32 : decode cX9_areLike 32 = .ok (.if_icmp .ge 50, 3) := by decide +kernel
theorem dX9_areLike_35 : decode cX9_areLike 35 = .ok (.iload_n 3, 1) := by decide +kernel
theorem dX9_areLike_36 : decode cX9_areLike 36 = .ok (.ifCond .eq 46, 3) := by decide +kernel
theorem dX9_areLike_39 : decode cX9_areLike 39 = .ok (.aload_n 0, 1) := by decide +kernel
theorem dX9_areLike_40 : decode cX9_areLike 40 = .ok (.getfield 108, 3) := by decide +kernel
theorem dX9_areLike_43 : decode cX9_areLike 43 = .ok (.aload_n 0, 1) := by decide +kernel
theorem dX9_areLike_44 : decode cX9_areLike 44 = .ok (.getfield 102, 3) := by decide +kernel
theorem dX9_areLike_47 : decode cX9_areLike 47 = .ok (.iload_n 1, 1) := by decide +kernel
theorem dX9_areLike_48 : decode cX9_areLike 48 = .ok (.iaload, 1) := by decide +kernel
theorem dX9_areLike_49 : decode cX9_areLike 49 = .ok (.iload 4, 2) := by decide +kernel
theorem dX9_areLike_51 : decode cX9_areLike 51 = .ok (.iadd, 1) := by decide +kernel
theorem dX9_areLike_52 : decode cX9_areLike 52 = .ok (.iaload, 1) := by decide +kernel
theorem dX9_areLike_53 : decode cX9_areLike 53 = .ok (.aload_n 0, 1) := by decide +kernel
theorem dX9_areLike_54 : decode cX9_areLike 54 = .ok (.getfield 108, 3) := by decide +kernel
theorem dX9_areLike_57 : decode cX9_areLike 57 = .ok (.aload_n 0, 1) := by decide +kernel
theorem dX9_areLike_58 : decode cX9_areLike 58 = .ok (.getfield 102, 3) := by decide +kernel
theorem dX9_areLike_61 : decode cX9_areLike 61 = .ok (.iload_n 2, 1) := by decide +kernel
theorem dX9_areLike_62 : decode cX9_areLike 62 = .ok (.iaload, 1) := by decide +kernel
theorem dX9_areLike_63 : decode cX9_areLike 63 = .ok (.iload 4, 2) := by decide +kernel
theorem dX9_areLike_65 : decode cX9_areLike 65 = .ok (.iadd, 1) := by decide +kernel
theorem dX9_areLike_66 : decode cX9_areLike 66 = .ok (.iaload, 1) := by decide +kernel
theorem dX9_areLike_67 : decode cX9_areLike 67 = .ok (.if_icmp .ne 7, 3) := by decide +kernel
theorem dX9_areLike_70 : decode cX9_areLike 70 = .ok (.iconst 1, 1) := by decide +kernel
theorem dX9_areLike_71 : decode cX9_areLike 71 = .ok (.goto 4, 3) := by decide +kernel
theorem dX9_areLike_74 : decode cX9_areLike 74 = .ok (.iconst 0, 1) := by decide +kernel
theorem dX9_areLike_75 : decode cX9_areLike 75 = .ok (.istore_n 3, 1) := by decide +kernel
theorem dX9_areLike_76 : decode cX9_areLike 76 = .ok (.iinc 4 1, 3) := by decide +kernel
theorem dX9_areLike_79 : decode cX9_areLike 79 = .ok (.goto (-55), 3) := by decide +kernel
theorem dX9_areLike_82 : decode cX9_areLike 82 = .ok (.iload_n 3, 1) := by decide +kernel
theorem dX9_areLike_83 : decode cX9_areLike 83 = .ok (.ireturn, 1) := by decide +kernel
theorem dX9_at_0 : decode cX9_at 0 = .ok (.aload_n 0, 1) := by decide +kernel
theorem dX9_at_1 : decode cX9_at 1 = .ok (.iconst 0, 1) := by decide +kernel
theorem dX9_at_2 : decode cX9_at 2 = .ok (.putfield 138, 3) := by decide +kernel
theorem dX9_at_5 : decode cX9_at 5 = .ok (.iload_n 2, 1) := by decide +kernel
theorem dX9_at_6 : decode cX9_at 6 = .ok (.ifCond .ne 33, 3) := by decide +kernel
theorem dX9_at_9 : decode cX9_at 9 = .ok (.iload_n 1, 1) := by decide +kernel
theorem dX9_at_10 : decode cX9_at 10 = .ok (.iconst 0, 1) := by decide +kernel
theorem dX9_at_11 : decode cX9_at 11 = .ok (.aload_n 0, 1) := by decide +kernel
theorem dX9_at_12 : decode cX9_at 12 = .ok (.getfield 7, 3) := by decide +kernel
theorem dX9_at_15 : decode cX9_at 15 = .ok (.iconst 0, 1) := by decide +kernel
theorem dX9_at_16 : decode cX9_at 16 = .ok (.iaload, 1) := by decide +kernel
theorem dX9_at_17 : decode cX9_at 17 = .ok (.iconst 1, 1) := by decide +kernel
theorem dX9_at_18 : decode cX9_at 18 = .ok (.isub, 1) := by decide +kernel
theorem dX9_at_19 : decode cX9_at 19 = .ok (.invokestatic 141, 3) := by decide +kernel
theorem dX9_at_22 : decode cX9_at 22 = .ok (.ifCond .eq 15, 3) := by decide +kernel
theorem dX9_at_25 : decode cX9_at 25 = .ok (.aload_n 0, 1) := by decide +kernel
theorem dX9_at_26 : decode cX9_at 26 = .ok (.getfield 7, 3) := by decide +kernel
theorem dX9_at_29 : decode cX9_at 29 = .ok (.bipush 43, 2) := by decide +kernel
theorem dX9_at_31 : decode cX9_at 31 = .ok (.iload_n 1, 1) := by decide +kernel
theorem dX9_at_32 : decode cX9_at 32 = .ok (.iadd, 1) := by decide +kernel
theorem dX9_at_33 : decode cX9_at 33 = .ok (.iaload, 1) := by decide +kernel
theorem dX9_at_34 : decode cX9_at 34 = .ok (.goto 4, 3) := by decide +kernel
theorem dX9_at_37 : decode cX9_at 37 = .ok (.iconst (-1), 1) := by decide +kernel
theorem dX9_at_38 : decode cX9_at 38 = .ok (.ireturn, 1) := by decide +kernel
theorem dX9_at_39 : decode cX9_at 39 = .ok (.aload_n 0, 1) := by decide +kernel
theorem dX9_at_40 : decode cX9_at 40 = .ok (.invokevirtual 441, 3) := by decide +kernel
theorem dX9_at_43 : decode cX9_at 43 = .ok (.istore_n 3, 1) := by decide +kernel
theorem dX9_at_44 : decode cX9_at 44 = .ok (.iload_n 1, 1) := by decide +kernel
theorem dX9_at_45 : decode cX9_at 45 = .ok (.iconst 0, 1) := by decide +kernel
theorem dX9_at_46 : decode cX9_at 46 = .ok (.iload_n 3, 1) := by decide +kernel
theorem dX9_at_47 : decode cX9_at 47 = .ok (.iconst 1, 1) := by decide +kernel
theorem dX9_at_48 : decode cX9_at 48 = .ok (.isub, 1) := by decide +kernel
theorem dX9_at_49 : decode cX9_at 49 = .ok (.invokestatic 141, 3) := by decide +kernel
theorem dX9_at_52 : decode cX9_at 52 = .ok (.ifCond .eq 12, 3) := by decide +kernel
theorem dX9_at_55 : decode cX9_at 55 = .ok (.aload_n 0, 1) := by decide +kernel
theorem dX9_at_56 : decode cX9_at 56 = .ok (.getfield 120, 3) := by decide +kernel
theorem dX9_at_59 : decode cX9_at 59 = .ok (.iload_n 1, 1) := by decide +kernel
theorem dX9_at_60 : decode cX9_at 60 = .ok (.iaload, 1) := by decide +kernel
theorem dX9_at_61 : decode cX9_at 61 = .ok (.goto 4, 3) := by decide +kernel
theorem dX9_at_64 : decode cX9_at 64 = .ok (.iconst (-1), 1) := by decide +kernel
theorem dX9_at_65 : decode cX9_at 65 = .ok (.ireturn, 1) := by decide +kernel
theorem dX9_back_0 : decode cX9_back 0 = .ok (.aload_n 0, 1) := by decide +kernel
theorem dX9_back_1 : decode cX9_back 1 = .ok (.iconst 0, 1) := by decide +kernel
theorem dX9_back_2 : decode cX9_back 2 = .ok (.putfield 138, 3) := by decide +kernel
theorem dX9_back_5 : decode cX9_back 5 = .ok (.aload_n 0, 1) := by decide +kernel
theorem dX9_back_6 : decode cX9_back 6 = .ok (.getfield 468, 3) := by decide +kernel
theorem dX9_back_9 : decode cX9_back 9 = .ok (.ifCond .ne 5, 3) := by decide +kernel
theorem dX9_back_12 : decode cX9_back 12 = .ok (.iconst 0, 1) := by decide +kernel
theorem dX9_back_13 : decode cX9_back 13 = .ok (.ireturn, 1) := by decide +kernel
theorem dX9_back_14 : decode cX9_back 14 = .ok (.iconst 0, 1) := by decide +kernel
theorem dX9_back_15 : decode cX9_back 15 = .ok (.istore_n 1, 1) := by decide +kernel
theorem dX9_back_16 : decode cX9_back 16 = .ok (.iload_n 1, 1) := by decide +kernel
theorem dX9_back_17 : decode cX9_back 17 = .ok (.sipush 4347, 3) := by decide +kernel
theorem dX9_back_20 : decode cX9_back 20 = .ok (.if_icmp .ge 21, 3) := by decide +kernel
theorem dX9_back_23 : decode cX9_back 23 = .ok (.aload_n 0, 1) := by decide +kernel
theorem dX9_back_24 : decode cX9_back 24 = .ok (.getfield 7, 3) := by decide +kernel
theorem dX9_back_27 : decode cX9_back 27 = .ok (.iload_n 1, 1) := by decide +kernel
theorem dX9_back_28 : decode cX9_back 28 = .ok (.aload_n 0, 1) := by decide +kernel
theorem dX9_back_29 : decode cX9_back 29 = .ok (.getfield 16, 3) := by decide +kernel
theorem dX9_back_32 : decode cX9_back 32 = .ok (.iload_n 1, 1) := by decide +kernel
theorem dX9_back_33 : decode cX9_back 33 = .ok (.iaload, 1) := by decide +kernel
theorem dX9_back_34 : decode cX9_back 34 = .ok (.iastore, 1) := by decide +kernel
theorem dX9_back_35 : decode cX9_back 35 = .ok (.iinc 1 1, 3) := by decide +kernel
theorem dX9_back_38 : decode cX9_back 38 = .ok (.goto (-22), 3) := by decide +kernel
theorem dX9_back_41 : decode cX9_back 41 = .ok (.aload_n 0, 1) := by decide +kernel
theorem dX9_back_42 : decode cX9_back 42 = .ok (.invokevirtual 244, 3) := by decide +kernel
theorem dX9_back_45 : decode cX9_back 45 = .ok (.aload_n 0, 1) := by decide +kernel
theorem dX9_back_46 : decode cX9_back 46 = .ok (.iconst 0, 1) := by decide +kernel
theorem dX9_back_47 : decode cX9_back 47 = .ok (.putfield 325, 3) := by decide +kernel
theorem dX9_back_50 : decode cX9_back 50 = .ok (.iconst 1, 1) := by decide +kernel
theorem dX9_back_51 : decode cX9_back 51 = .ok (.ireturn, 1) := by decide +kernel
theorem dX9_backMeaning_0 : decode cX9_backMeaning 0 = .ok (.iload_n 2, 1) := by decide +kernel
theorem dX9_backMeaning_1 : decode cX9_backMeaning 1 = .ok (.bipush 110, 2) := by decide +kernel
theorem dX9_backMeaning_3 : decode cX9_backMeaning 3 = .ok (.if_icmp .ne 6, 3) := by decide +kernel
theorem dX9_backMeaning_6 : decode cX9_backMeaning 6 = .ok (.bipush 10, 2) := by decide +kernel
theorem dX9_backMeaning_8 : decode cX9_backMeaning 8 = .ok (.ireturn, 1) := by decide +kernel
theorem dX9_backMeaning_9 : decode cX9_backMeaning 9 = .ok (.iload_n 2, 1) := by decide +kernel
theorem dX9_backMeaning_10 : decode cX9_backMeaning 10 = .ok (.bipush 116, 2) := by decide +kernel
theorem dX9_backMeaning_12 : decode cX9_backMeaning 12 = .ok (.if_icmp .ne 6, 3) := by decide +kernel
theorem dX9_backMeaning_15 : decode cX9_backMeaning 15 = .ok (.bipush 9, 2) := by decide +kernel
theorem dX9_backMeaning_17 : decode cX9_backMeaning 17 = .ok (.ireturn, 1) := by decide +kernel
theorem dX9_backMeaning_18 : decode cX9_backMeaning 18 = .ok (.iload_n 2, 1) := by decide +kernel
theorem dX9_backMeaning_19 : decode cX9_backMeaning 19 = .ok (.bipush 92, 2) := by decide +kernel
theorem dX9_backMeaning_21 : decode cX9_backMeaning 21 = .ok (.if_icmp .ne 6, 3) := by decide +kernel
theorem dX9_backMeaning_24 : decode cX9_backMeaning 24 = .ok (.bipush 92, 2) := by decide +kernel
theorem dX9_backMeaning_26 : decode cX9_backMeaning 26 = .ok (.ireturn, 1) := by decide +kernel
theorem dX9_backMeaning_27 : decode cX9_backMeaning 27 = .ok (.iload_n 2, 1) := by decide +kernel
theorem dX9_backMeaning_28 : decode cX9_backMeaning 28 = .ok (.bipush 32, 2) := by decide +kernel
theorem dX9_backMeaning_30 : decode cX9_backMeaning 30 = .ok (.if_icmp .ne 10, 3) := by decide +kernel
theorem dX9_backMeaning_33 : decode cX9_backMeaning 33 = .ok (.iload_n 1, 1) := by decide +kernel
theorem dX9_backMeaning_34 : decode cX9_backMeaning 34 = .ok (.ifCond .ne 6, 3) := by decide +kernel
theorem dX9_backMeaning_37 : decode cX9_backMeaning 37 = .ok (.bipush 32, 2) := by decide +kernel
theorem dX9_backMeaning_39 : decode cX9_backMeaning 39 = .ok (.ireturn, 1) := by decide +kernel
theorem dX9_backMeaning_40 : decode cX9_backMeaning 40 = .ok (.iload_n 2, 1) := by decide +kernel
theorem dX9_backMeaning_41 : decode cX9_backMeaning 41 = .ok (.bipush 34, 2) := by decide +kernel
theorem dX9_backMeaning_43 : decode cX9_backMeaning 43 = .ok (.if_icmp .ne 13, 3) := by decide +kernel
theorem dX9_backMeaning_46 : decode cX9_backMeaning 46 = .ok (.iload_n 1, 1) := by decide +kernel
theorem dX9_backMeaning_47 : decode cX9_backMeaning 47 = .ok (.iconst 3, 1) := by decide +kernel
theorem dX9_backMeaning_48 : decode cX9_backMeaning 48 = .ok (.if_icmp .ne 8, 3) := by decide +kernel
theorem dX9_backMeaning_51 : decode cX9_backMeaning 51 = .ok (.bipush 34, 2) := by decide +kernel
theorem dX9_backMeaning_53 : decode cX9_backMeaning 53 = .ok (.goto 4, 3) := by decide +kernel
theorem dX9_backMeaning_56 : decode cX9_backMeaning 56 = .ok (.iconst (-1), 1) := by decide +kernel
theorem dX9_backMeaning_57 : decode cX9_backMeaning 57 = .ok (.ireturn, 1) := by decide +kernel
theorem dX9_builds_0 : decode cX9_builds 0 = .ok (.iconst 0, 1) := by decide +kernel
theorem dX9_builds_1 : decode cX9_builds 1 = .ok (.istore_n 1, 1) := by decide +kernel
theorem dX9_builds_2 : decode cX9_builds 2 = .ok (.iconst 0, 1) := by decide +kernel
theorem dX9_builds_3 : decode cX9_builds 3 = .ok (.istore_n 2, 1) := by decide +kernel
theorem dX9_builds_4 : decode cX9_builds 4 = .ok (.iconst 0, 1) := by decide +kernel
theorem dX9_builds_5 : decode cX9_builds 5 = .ok (.istore_n 3, 1) := by decide +kernel
theorem dX9_builds_6 : decode cX9_builds 6 = .ok (.iload_n 3, 1) := by decide +kernel
theorem dX9_builds_7 : decode cX9_builds 7 = .ok (.aload_n 0, 1) := by decide +kernel
theorem dX9_builds_8 : decode cX9_builds 8 = .ok (.getfield 204, 3) := by decide +kernel
theorem dX9_builds_11 : decode cX9_builds 11 = .ok (.if_icmp .ge 125, 3) := by decide +kernel
theorem dX9_builds_14 : decode cX9_builds 14 = .ok (.iload_n 2, 1) := by decide +kernel
theorem dX9_builds_15 : decode cX9_builds 15 = .ok (.aload_n 0, 1) := by decide +kernel
theorem dX9_builds_16 : decode cX9_builds 16 = .ok (.getfield 81, 3) := by decide +kernel
theorem dX9_builds_19 : decode cX9_builds 19 = .ok (.iload_n 3, 1) := by decide +kernel
theorem dX9_builds_20 : decode cX9_builds 20 = .ok (.iaload, 1) := by decide +kernel
theorem dX9_builds_21 : decode cX9_builds 21 = .ok (.if_icmp .ge 27, 3) := by decide +kernel
theorem dX9_builds_24 : decode cX9_builds 24 = .ok (.aload_n 0, 1) := by decide +kernel
theorem dX9_builds_25 : decode cX9_builds 25 = .ok (.getfield 120, 3) := by decide +kernel
theorem dX9_builds_28 : decode cX9_builds 28 = .ok (.iload_n 1, 1) := by decide +kernel
theorem dX9_builds_29 : decode cX9_builds 29 = .ok (.aload_n 0, 1) := by decide +kernel
theorem dX9_builds_30 : decode cX9_builds 30 = .ok (.getfield 7, 3) := by decide +kernel
theorem dX9_builds_33 : decode cX9_builds 33 = .ok (.bipush 43, 2) := by decide +kernel
theorem dX9_builds_35 : decode cX9_builds 35 = .ok (.iload_n 2, 1) := by decide +kernel
theorem dX9_builds_36 : decode cX9_builds 36 = .ok (.iadd, 1) := by decide +kernel
theorem dX9_builds_37 : decode cX9_builds 37 = .ok (.iaload, 1) := by decide +kernel
theorem dX9_builds_38 : decode cX9_builds 38 = .ok (.iastore, 1) := by decide +kernel
theorem dX9_builds_39 : decode cX9_builds 39 = .ok (.iinc 1 1, 3) := by decide +kernel
theorem dX9_builds_42 : decode cX9_builds 42 = .ok (.iinc 2 1, 3) := by decide +kernel
theorem dX9_builds_45 : decode cX9_builds 45 = .ok (.goto (-31), 3) := by decide +kernel
theorem dX9_builds_48 : decode cX9_builds 48 = .ok (.aload_n 0, 1) := by decide +kernel
theorem dX9_builds_49 : decode cX9_builds 49 = .ok (.getfield 129, 3) := by decide +kernel
theorem dX9_builds_52 : decode cX9_builds 52 = .ok (.iload_n 3, 1) := by decide +kernel
theorem dX9_builds_53 : decode cX9_builds 53 = .ok (.iload_n 1, 1) := by decide +kernel
theorem dX9_builds_54 : decode cX9_builds 54 = .ok (.iastore, 1) := by decide +kernel
theorem dX9_builds_55 : decode cX9_builds 55 = .ok (.aload_n 0, 1) := by decide +kernel
theorem dX9_builds_56 : decode cX9_builds 56 = .ok (.iload_n 3, 1) := by decide +kernel
theorem dX9_builds_57 : decode cX9_builds 57 = .ok (.invokevirtual 290, 3) := by decide +kernel
theorem dX9_builds_60 : decode cX9_builds 60 = .ok (.istore 4, 2) := by decide +kernel
theorem dX9_builds_62 : decode cX9_builds 62 = .ok (.iconst 0, 1) := by decide +kernel
theorem dX9_builds_63 : decode cX9_builds 63 = .ok (.istore 5, 2) := by decide +kernel
theorem dX9_builds_65 : decode cX9_builds 65 = .ok (.iload 5, 2) := by decide +kernel
theorem dX9_builds_67 : decode cX9_builds 67 = .ok (.iload 4, 2) := by decide +kernel
theorem dX9_builds_69 : decode cX9_builds 69 = .ok (.if_icmp .ge 49, 3) := by decide +kernel
theorem dX9_builds_72 : decode cX9_builds 72 = .ok (.aload_n 0, 1) := by decide +kernel
theorem dX9_builds_73 : decode cX9_builds 73 = .ok (.getfield 120, 3) := by decide +kernel
theorem dX9_builds_76 : decode cX9_builds 76 = .ok (.iload_n 1, 1) := by decide +kernel
theorem dX9_builds_77 : decode cX9_builds 77 = .ok (.iload 5, 2) := by decide +kernel
theorem dX9_builds_79 : decode cX9_builds 79 = .ok (.iadd, 1) := by decide +kernel
theorem dX9_builds_80 : decode cX9_builds 80 = .ok (.aload_n 0, 1) := by decide +kernel
theorem dX9_builds_81 : decode cX9_builds 81 = .ok (.iload_n 3, 1) := by decide +kernel
theorem dX9_builds_82 : decode cX9_builds 82 = .ok (.invokevirtual 247, 3) := by decide +kernel
theorem dX9_builds_85 : decode cX9_builds 85 = .ok (.iconst (-1), 1) := by decide +kernel
theorem dX9_builds_86 : decode cX9_builds 86 = .ok (.if_icmp .ne 18, 3) := by decide +kernel
theorem dX9_builds_89 : decode cX9_builds 89 = .ok (.aload_n 0, 1) := by decide +kernel
theorem dX9_builds_90 : decode cX9_builds 90 = .ok (.getfield 7, 3) := by decide +kernel
theorem dX9_builds_93 : decode cX9_builds 93 = .ok (.bipush 43, 2) := by decide +kernel
theorem dX9_builds_95 : decode cX9_builds 95 = .ok (.iload_n 2, 1) := by decide +kernel
theorem dX9_builds_96 : decode cX9_builds 96 = .ok (.iadd, 1) := by decide +kernel
theorem dX9_builds_97 : decode cX9_builds 97 = .ok (.iload 5, 2) := by decide +kernel
theorem dX9_builds_99 : decode cX9_builds 99 = .ok (.iadd, 1) := by decide +kernel
theorem dX9_builds_100 : decode cX9_builds 100 = .ok (.iaload, 1) := by decide +kernel
theorem dX9_builds_101 : decode cX9_builds 101 = .ok (.goto 10, 3) := by decide +kernel
theorem dX9_builds_104 : decode cX9_builds 104 = .ok (.aload_n 0, 1) := by decide +kernel
theorem dX9_builds_105 : decode cX9_builds 105 = .ok (.getfield 117, 3) := by decide +kernel
theorem dX9_builds_108 : decode cX9_builds 108 = .ok (.iload 5, 2) := by decide +kernel
theorem dX9_builds_110 : decode cX9_builds 110 = .ok (.iaload, 1) := by decide +kernel
theorem dX9_builds_111 : decode cX9_builds 111 = .ok (.iastore, 1) := by decide +kernel
theorem dX9_builds_112 : decode cX9_builds 112 = .ok (.iinc 5 1, 3) := by decide +kernel
theorem dX9_builds_115 : decode cX9_builds 115 = .ok (.goto (-50), 3) := by decide +kernel
theorem dX9_builds_118 : decode cX9_builds 118 = .ok (.iload_n 1, 1) := by decide +kernel
theorem dX9_builds_119 : decode cX9_builds 119 = .ok (.iload 4, 2) := by decide +kernel
theorem dX9_builds_121 : decode cX9_builds 121 = .ok (.iadd, 1) := by decide +kernel
theorem dX9_builds_122 : decode cX9_builds 122 = .ok (.istore_n 1, 1) := by decide +kernel
theorem dX9_builds_123 : decode cX9_builds 123 = .ok (.aload_n 0, 1) := by decide +kernel
theorem dX9_builds_124 : decode cX9_builds 124 = .ok (.getfield 84, 3) := by decide +kernel
theorem dX9_builds_127 : decode cX9_builds 127 = .ok (.iload_n 3, 1) := by decide +kernel
theorem dX9_builds_128 : decode cX9_builds 128 = .ok (.iaload, 1) := by decide +kernel
theorem dX9_builds_129 : decode cX9_builds 129 = .ok (.istore_n 2, 1) := by decide +kernel
theorem dX9_builds_130 : decode cX9_builds 130 = .ok (.iinc 3 1, 3) := by decide +kernel
theorem dX9_builds_133 : decode cX9_builds 133 = .ok (.goto (-127), 3) := by decide +kernel
theorem dX9_builds_136 : decode cX9_builds 136 = .ok (.iload_n 2, 1) := by decide +kernel
theorem dX9_builds_137 : decode cX9_builds 137 = .ok (.aload_n 0, 1) := by decide +kernel
theorem dX9_builds_138 : decode cX9_builds 138 = .ok (.getfield 7, 3) := by decide +kernel
theorem dX9_builds_141 : decode cX9_builds 141 = .ok (.iconst 0, 1) := by decide +kernel
theorem dX9_builds_142 : decode cX9_builds 142 = .ok (.iaload, 1) := by decide +kernel
theorem dX9_builds_143 : decode cX9_builds 143 = .ok (.if_icmp .ge 27, 3) := by decide +kernel
theorem dX9_builds_146 : decode cX9_builds 146 = .ok (.aload_n 0, 1) := by decide +kernel
theorem dX9_builds_147 : decode cX9_builds 147 = .ok (.getfield 120, 3) := by decide +kernel
theorem dX9_builds_150 : decode cX9_builds 150 = .ok (.iload_n 1, 1) := by decide +kernel
theorem dX9_builds_151 : decode cX9_builds 151 = .ok (.aload_n 0, 1) := by decide +kernel
theorem dX9_builds_152 : decode cX9_builds 152 = .ok (.getfield 7, 3) := by decide +kernel
theorem dX9_builds_155 : decode cX9_builds 155 = .ok (.bipush 43, 2) := by decide +kernel
theorem dX9_builds_157 : decode cX9_builds 157 = .ok (.iload_n 2, 1) := by decide +kernel
theorem dX9_builds_158 : decode cX9_builds 158 = .ok (.iadd, 1) := by decide +kernel
theorem dX9_builds_159 : decode cX9_builds 159 = .ok (.iaload, 1) := by decide +kernel
theorem dX9_builds_160 : decode cX9_builds 160 = .ok (.iastore, 1) := by decide +kernel
theorem dX9_builds_161 : decode cX9_builds 161 = .ok (.iinc 1 1, 3) := by decide +kernel
theorem dX9_builds_164 : decode cX9_builds 164 = .ok (.iinc 2 1, 3) := by decide +kernel
theorem dX9_builds_167 : decode cX9_builds 167 = .ok (.goto (-31), 3) := by decide +kernel
theorem dX9_builds_170 : decode cX9_builds 170 = .ok (.iload_n 1, 1) := by decide +kernel
theorem dX9_builds_171 : decode cX9_builds 171 = .ok (.ireturn, 1) := by decide +kernel
theorem dX9_builtBegin_0 : decode cX9_builtBegin 0 = .ok (.aload_n 0, 1) := by decide +kernel
theorem dX9_builtBegin_1 : decode cX9_builtBegin 1 = .ok (.invokevirtual 441, 3) := by decide +kernel
theorem dX9_builtBegin_4 : decode cX9_builtBegin 4 = .ok (.istore_n 2, 1) := by decide +kernel
theorem dX9_builtBegin_5 : decode cX9_builtBegin 5 = .ok (.aload_n 0, 1) := by decide +kernel
theorem dX9_builtBegin_6 : decode cX9_builtBegin 6 = .ok (.getfield 129, 3) := by decide +kernel
theorem dX9_builtBegin_9 : decode cX9_builtBegin 9 = .ok (.iload_n 1, 1) := by decide +kernel
theorem dX9_builtBegin_10 : decode cX9_builtBegin 10 = .ok (.iaload, 1) := by decide +kernel
theorem dX9_builtBegin_11 : decode cX9_builtBegin 11 = .ok (.ireturn, 1) := by decide +kernel
theorem dX9_builtMany_0 : decode cX9_builtMany 0 = .ok (.aload_n 0, 1) := by decide +kernel
theorem dX9_builtMany_1 : decode cX9_builtMany 1 = .ok (.getfield 7, 3) := by decide +kernel
theorem dX9_builtMany_4 : decode cX9_builtMany 4 = .ok (.iconst 0, 1) := by decide +kernel
theorem dX9_builtMany_5 : decode cX9_builtMany 5 = .ok (.iaload, 1) := by decide +kernel
theorem dX9_builtMany_6 : decode cX9_builtMany 6 = .ok (.istore_n 1, 1) := by decide +kernel
theorem dX9_builtMany_7 : decode cX9_builtMany 7 = .ok (.iconst 0, 1) := by decide +kernel
theorem dX9_builtMany_8 : decode cX9_builtMany 8 = .ok (.istore_n 2, 1) := by decide +kernel
theorem dX9_builtMany_9 : decode cX9_builtMany 9 = .ok (.iload_n 2, 1) := by decide +kernel
theorem dX9_builtMany_10 : decode cX9_builtMany 10 = .ok (.aload_n 0, 1) := by decide +kernel
theorem dX9_builtMany_11 : decode cX9_builtMany 11 = .ok (.getfield 204, 3) := by decide +kernel
theorem dX9_builtMany_14 : decode cX9_builtMany 14 = .ok (.if_icmp .ge 31, 3) := by decide +kernel
theorem dX9_builtMany_17 : decode cX9_builtMany 17 = .ok (.iload_n 1, 1) := by decide +kernel
theorem dX9_builtMany_18 : decode cX9_builtMany 18 = .ok (.aload_n 0, 1) := by decide +kernel
theorem dX9_builtMany_19 : decode cX9_builtMany 19 = .ok (.iload_n 2, 1) := by decide +kernel
end
