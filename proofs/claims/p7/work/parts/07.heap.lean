/-! rows that read and write the heap of ids -/
theorem map_get {b k : Nat} {fs : List Value} {v : Value} (h : fs[k]? = some v) : (fs.map (rn b))[k]? = some (rn b v) := by simp [h]
theorem rn_narrow {b : Nat} {ty : FieldType} {v : Value} (h : narrow ty v = v) : narrow ty (rn b v) = rn b v := by
  cases v <;> first | exact h | (cases ty <;> simp_all [rn, narrow])
theorem rn_fits {b : Nat} {ty : FieldType} {v : Value} (h : fits ty v = true) : fits ty (rn b v) = true := by
  cases v <;> first | exact h | (cases ty <;> simp_all [rn, fits])
section AWH
variable {X : GX} {p : Program} {l : Launch} {e : Env} {R : Room} {s : State} {m : MethodId} {args : Array Value} {below : List Frame} {meth : Method} {c : Code} {own : String} {cc : ByteArray} {nL : Nat} {ret : Option FieldType} {Z : State → Prop} {f : AH} {n cells slots pc : Nat} {lo : List (Option Value)} {st : List Value}
theorem aw_get (C : CC X p l R s m args meth c own cc nL ret) {idx ci k i : Nat} {fs : List Value} {v : Value} (g : GF own idx ci k) (hf : f i = some (.inr (ci, fs))) (hv : fs[k]? = some v) (hd : decode cc pc = .ok (.getfield idx, 3))
    (kk : AW X p l e R s m args below meth c nL Z f n cells slots (pc + 3) lo (v :: st)) : AW X p l e R s m args below meth c nL Z f n cells slots pc lo (.ref i :: st) := by
  intro H locs ls hR hn hS hl
  obtain ⟨q, hc, hin, hk, hlk⟩ := g
  have hP : va_P X.2.1 vwCl [(X.1 + i, .inr (ci, fs.map (rn X.1)))] H := fun k9 q9 h9 => by
    have hz : k9 < 1 := (List.getElem?_eq_some_iff.mp h9).1
    rw [show k9 = 0 by omega] at h9
    cases h9
    exact hR i _ hf
  exact va_get (D := X.2.1) (v := rn X.1 v) C.1 C.2.1 C.2.2.2.2.1 hin C.2.2.2.1 C.2.2.2.2.2.2.1.1 hP 0 rfl hc k hk (C.2.2.2.2.1 _ hlk) (fun _ h9 => h9) (map_get hv) hd (kk H locs ls hR hn hS hl)
theorem aw_put (C : CC X p l R s m args meth c own cc nL ret) {idx ci k i : Nat} {fs : List Value} {v : Value} {ty0 : Nat → FieldType} (g : GF own idx ci k) (cf : CF ci ty0) (nf : noFin ci k) (hf : f i = some (.inr (ci, fs))) (hl' : k < fs.length) (hn' : narrow (ty0 k) v = v) (hfit : fits (ty0 k) v = true) (hd : decode cc pc = .ok (.putfield idx, 3))
    (kk : AW X p l e R s m args below meth c nL Z (va_up f i (some (.inr (ci, fs.set k v)))) n cells slots (pc + 3) lo st) : AW X p l e R s m args below meth c nL Z f n cells slots pc lo (v :: .ref i :: st) := by
  intro H locs ls hR hn hS hl
  obtain ⟨q, hc, hin, hk, hlk⟩ := g
  obtain ⟨q2, hc2, -, hty, hnm⟩ := cf
  cases Option.some.inj (hc2.symm.trans hc)
  obtain ⟨q2, hc2, hfin⟩ := nf
  cases Option.some.inj (hc2.symm.trans hc)
  have hts := C.2.2.2.2.1
  have hK := C.2.2.2.2.2.2.1.1
  have hap := va_apart (own := own) hts hin ty0 hty hnm hK hc
  obtain ⟨r, h1, cell, q1, q2, q3, q4⟩ := hR i _ hf
  have hr : r = q := Option.some.inj (h1.symm.trans hc)
  subst hr
  obtain ⟨hSl, hfc, kC, hkC, hkind⟩ := hK.1 ci _ hc
  obtain ⟨cf, kf, fi, fd, hi, hsl⟩ := hSl k hk
  have hlay := hts _ (hin _ (u_in_lay hk))
  unfold u_lay at hlay
  rw [if_neg (by rw [hfin]; decide)] at hlay
  have hst := (u_facts hfc hkC (u_lays hts hin hk) hi).1
  have h6 := u_store hfc hkC hkind hlay hi (hty k hk) (rn_narrow (b := X.1) hn') (rn_fits hfit)
  refine W.putK C.1 C.2.1 (f := fd) ⟨C.2.2.2.1, hts _ hlk, ⟨_, _, _, hi⟩, hst⟩ (by rw [q2]; exact h6) q1 q3 (by rw [hsl]; exact k2_hasslot (q4 k hk)) rfl rfl hd fun H' e1 e2 e3 => ?_
  rw [hsl] at e1 ⊢
  refine kk H' _ ls (hR.set ?_ e3) (by rw [e2]; exact hn) (hS.put e2 e3 (Nat.le_add_right _ _)) hl
  refine ⟨_, hc, t_OB.to (V := updV (vp_V (fs.map (rn X.1))) k (rn X.1 v)) ⟨_, e1, q2, q3, t_set q4 hap hk _⟩ (fun j _ => ?_)⟩
  have := vp_updV_set (fs := fs.map (rn X.1)) (k := k) (by simpa using hl') (rn X.1 v) j
  rw [this, List.map_set]
theorem aw_putF (C : CC X p l R s m args meth c own cc nL ret) {idx ci k i : Nat} {fs : List Value} {v : Value} {ty0 : Nat → FieldType} (g : GF own idx ci k) (cf : CF ci ty0) (nf : isFin own ci k) (hin2 : meth.name = "<init>") (hf : f i = some (.inr (ci, fs))) (hl' : k < fs.length) (hn' : narrow (ty0 k) v = v) (hfit : fits (ty0 k) v = true) (hd : decode cc pc = .ok (.putfield idx, 3))
    (kk : AW X p l e R s m args below meth c nL Z (va_up f i (some (.inr (ci, fs.set k v)))) n cells slots (pc + 3) lo st) : AW X p l e R s m args below meth c nL Z f n cells slots pc lo (v :: .ref i :: st) := by
  intro H locs ls hR hn hS hl
  obtain ⟨q, hc, hin, hk, hlk⟩ := g
  obtain ⟨q2, hc2, -, hty, hnm⟩ := cf
  cases Option.some.inj (hc2.symm.trans hc)
  obtain ⟨q2, hc2, hfin, hdecl⟩ := nf
  cases Option.some.inj (hc2.symm.trans hc)
  have hts := C.2.2.2.2.1
  have hown := C.2.2.2.1
  have hK := C.2.2.2.2.2.2.1.1
  have hap := va_apart (own := own) hts hin ty0 hty hnm hK hc
  obtain ⟨r, h1, cell, q1, q2, q3, q4⟩ := hR i _ hf
  have hr : r = q := Option.some.inj (h1.symm.trans hc)
  subst hr
  obtain ⟨hSl, hfc, kC, hkC, hkind⟩ := hK.1 ci _ hc
  obtain ⟨cf, kf, fi, fd, hi, hsl⟩ := hSl k hk
  have hlay := hts _ (hin _ (u_in_lay hk))
  unfold u_lay at hlay
  rw [if_pos hfin] at hlay
  have hst := (u_facts hfc hkC (u_lays hts hin hk) hi).1
  have hcf : m.cls = cf := by
    obtain ⟨_, _, c', _, _, _, -, -, hf', -, -, -, hown2, -⟩ := Cond.laysFinal_spec hlay
    have e1 : c' = cf := by have := hi.symm.trans hf'; simp at this; exact this.1.symm
    rw [hdecl] at hown2
    rw [← e1]; exact Option.some.inj (hown.symm.trans hown2)
  have h6 := u_fits hfc hkC hkind (Or.inr hlay) hi (hty k hk) (rn_narrow (b := X.1) hn') (rn_fits hfit)
  refine W.putFinK C.1 C.2.1 hown (hts _ hlk) hi hst hcf hin2 (by rw [q2]; exact h6) q1 q3 (by rw [hsl]; exact k2_hasslot (q4 k hk)) rfl rfl hd fun H' e1 e2 e3 => ?_
  rw [hsl] at e1 ⊢
  refine kk H' _ ls (hR.set ?_ e3) (by rw [e2]; exact hn) (hS.put e2 e3 (Nat.le_add_right _ _)) hl
  refine ⟨_, hc, t_OB.to (V := updV (vp_V (fs.map (rn X.1))) k (rn X.1 v)) ⟨_, e1, q2, q3, t_set q4 hap hk _⟩ (fun j _ => ?_)⟩
  have := vp_updV_set (fs := fs.map (rn X.1)) (k := k) (by simpa using hl') (rn X.1 v) j
  rw [this, List.map_set]
theorem aw_iald (C : CC X p l R s m args meth c own cc nL ret) {i len : Nat} {g : Nat → Int32} {x : Int32} (hf : f i = some (.inl (0, len, .inl g))) (hin : vp_in x len) (hd : decode cc pc = .ok (.iaload, 1))
    (kk : AW X p l e R s m args below meth c nL Z f n cells slots (pc + 1) lo (.int (g x.toNatClampNeg) :: st)) : AW X p l e R s m args below meth c nL Z f n cells slots pc lo (.int x :: .ref i :: st) := by
  intro H locs ls hR hn hS hl
  have hP : va_P X.2.1 vwCl [(X.1 + i, .inl (X.2.2 0, len, .inl g))] H := fun k9 q9 h9 => by
    have hz : k9 < 1 := (List.getElem?_eq_some_iff.mp h9).1
    rw [show k9 = 0 by omega] at h9
    cases h9
    exact hR i _ hf
  exact va_iald C.1 C.2.1 C.2.2.2.2.2.2.1.1 hP 0 0 rfl (tyN_at X (by decide)) hin hd (kk H locs ls hR hn hS hl)
theorem aw_lald (C : CC X p l R s m args meth c own cc nL ret) {i len : Nat} {g : Nat → Int64} {x : Int32} (hf : f i = some (.inl (4, len, .inr (.inl g)))) (hin : vp_in x len) (hd : decode cc pc = .ok (.laload, 1))
    (kk : AW X p l e R s m args below meth c nL Z f n cells slots (pc + 1) lo (.long (g x.toNatClampNeg) :: st)) : AW X p l e R s m args below meth c nL Z f n cells slots pc lo (.int x :: .ref i :: st) := by
  intro H locs ls hR hn hS hl
  have hP : va_P X.2.1 vwCl [(X.1 + i, .inl (X.2.2 4, len, .inr (.inl g)))] H := fun k9 q9 h9 => by
    have hz : k9 < 1 := (List.getElem?_eq_some_iff.mp h9).1
    rw [show k9 = 0 by omega] at h9
    cases h9
    exact hR i _ hf
  exact va_lald C.1 C.2.1 C.2.2.2.2.2.2.1.1 hP 0 4 rfl (tyN_at X (by decide)) hin hd (kk H locs ls hR hn hS hl)
theorem rn_rf (b : Nat) (r : Option Nat) : va_rf (r.map (fun k => b + k)) = rn b (va_rf r) := by cases r <;> rfl
theorem aw_aald (C : CC X p l R s m args meth c own cc nL ret) {t i len : Nat} {g : Nat → Option Nat} {x : Int32} {Cn : String} (ht : t < 5) (hty : tyN t = .object Cn) (hf : f i = some (.inl (t, len, .inr (.inr g)))) (hin : vp_in x len) (hd : decode cc pc = .ok (.aaload, 1))
    (kk : AW X p l e R s m args below meth c nL Z f n cells slots (pc + 1) lo (va_rf (g x.toNatClampNeg) :: st)) : AW X p l e R s m args below meth c nL Z f n cells slots pc lo (.int x :: .ref i :: st) := by
  intro H locs ls hR hn hS hl
  have hP : va_P X.2.1 vwCl [(X.1 + i, .inl (X.2.2 t, len, .inr (.inr (.inr (.inr fun j => (g j).map (fun k => X.1 + k))))))] H := fun k9 q9 h9 => by
    have hz : k9 < 1 := (List.getElem?_eq_some_iff.mp h9).1
    rw [show k9 = 0 by omega] at h9
    cases h9
    exact hR i _ hf
  have ht2 := tyN_at X ht
  rw [hty] at ht2
  refine va_aldq C.1 C.2.1 C.2.2.2.2.2.2.1.1 hP 0 t rfl ht2 hin hd ?_
  rw [rn_rf]
  exact kk H locs ls hR hn hS hl
theorem aw_alen (C : CC X p l R s m args meth c own cc nL ret) {t i len : Nat} {a : AA} (ht : t < 5) (hf : f i = some (.inl (t, len, a))) (hd : decode cc pc = .ok (.arraylength, 1))
    (kk : AW X p l e R s m args below meth c nL Z f n cells slots (pc + 1) lo (.int (nI len) :: st)) : AW X p l e R s m args below meth c nL Z f n cells slots pc lo (.ref i :: st) := by
  intro H locs ls hR hn hS hl
  have hP : va_P X.2.1 vwCl [(X.1 + i, .inl (X.2.2 t, cvA X.1 len a))] H := fun k9 q9 h9 => by
    have hz : k9 < 1 := (List.getElem?_eq_some_iff.mp h9).1
    rw [show k9 = 0 by omega] at h9
    cases h9
    exact hR i _ hf
  refine va_alen (v := nI len) C.1 C.2.1 C.2.2.2.2.2.2.1.1 hP 0 t rfl (tyN_at X ht) ?_ hd (kk H locs ls hR hn hS hl)
  rcases a with a | a | a <;> rfl
theorem aw_iast (C : CC X p l R s m args meth c own cc nL ret) {i len : Nat} {g : Nat → Int32} {x v : Int32} (hf : f i = some (.inl (0, len, .inl g))) (hin : vp_in x len) (hd : decode cc pc = .ok (.iastore, 1))
    (kk : AW X p l e R s m args below meth c nL Z (va_up f i (some (.inl (0, len, .inl (upd g x.toNatClampNeg v))))) n cells slots (pc + 1) lo st) : AW X p l e R s m args below meth c nL Z f n cells slots pc lo (.int v :: .int x :: .ref i :: st) := by
  intro H locs ls hR hn hS hl
  have hK := C.2.2.2.2.2.2.1.1
  have ht := tyN_at X (t := 0) (by decide)
  refine W.iast C.1 C.2.1 (hR i _ hf) ((hK.2 0 _ ht).1 len (fun j => .int (g j))) (fun q => by cases q) (by show ¬ (x < 0 ∨ (arrV _ _ _).slots.size ≤ _); rw [arrV_size]; exact hin) rfl rfl hd fun H1 e1 z oq => ?_
  refine kk H1 _ ls (hR.set ?_ oq) (by rw [z]; exact hn) (hS.put z oq (Nat.le_add_right _ _)) hl
  show H1[X.1 + i]? = some (vp_cell _ _)
  rw [e1]
  show some (Cell.setSlot (vp_cell (X.2.2 0) (len, .inl g)) _ _) = some (vp_cell (X.2.2 0) (len, .inl (upd g x.toNatClampNeg v)))
  rw [vp_cell_i, vp_cell_i, arrV_store]
  congr 2
  funext q
  by_cases hq : q = x.toNatClampNeg
  · subst hq
    simp [updV, upd]
  · simp [updV, upd, hq]
theorem aw_last (C : CC X p l R s m args meth c own cc nL ret) {i len : Nat} {g : Nat → Int64} {x : Int32} {v : Int64} (hf : f i = some (.inl (4, len, .inr (.inl g)))) (hin : vp_in x len) (hd : decode cc pc = .ok (.lastore, 1))
    (kk : AW X p l e R s m args below meth c nL Z (va_up f i (some (.inl (4, len, .inr (.inl (vp_updL g x.toNatClampNeg v)))))) n cells slots (pc + 1) lo st) : AW X p l e R s m args below meth c nL Z f n cells slots pc lo (.long v :: .int x :: .ref i :: st) := by
  intro H locs ls hR hn hS hl
  have hK := C.2.2.2.2.2.2.1.1
  have ht := tyN_at X (t := 4) (by decide)
  refine W.last C.1 C.2.1 (hR i _ hf) ((hK.2 4 _ ht).1 len (fun j => .long (g j))) (fun q => by cases q) (by show ¬ (x < 0 ∨ (arrV _ _ _).slots.size ≤ _); rw [arrV_size]; exact hin) rfl rfl hd fun H1 e1 z oq => ?_
  refine kk H1 _ ls (hR.set ?_ oq) (by rw [z]; exact hn) (hS.put z oq (Nat.le_add_right _ _)) hl
  show H1[X.1 + i]? = some (vp_cell _ _)
  rw [e1]
  show some (Cell.setSlot (vp_cell (X.2.2 4) (len, .inr (.inl g))) _ _) = some (vp_cell (X.2.2 4) (len, .inr (.inl (vp_updL g x.toNatClampNeg v))))
  rw [vp_cell_l, vp_cell_l, arrV_store]
  congr 2
  funext q
  by_cases hq : q = x.toNatClampNeg
  · subst hq
    simp [updV, vp_updL]
  · simp [updV, vp_updL, hq]
theorem aw_aast (C : CC X p l R s m args meth c own cc nL ret) {t i len v ci : Nat} {g : Nat → Option Nat} {x : Int32} {q : vw_C} {vs : List Value} (ht : t < 5) (hc : vwCl[ci]? = some q) (hty : tyN t = .object q.1) (hf : f i = some (.inl (t, len, .inr (.inr g)))) (hv : f v = some (.inr (ci, vs))) (hin : vp_in x len) (hd : decode cc pc = .ok (.aastore, 1))
    (kk : AW X p l e R s m args below meth c nL Z (va_up f i (some (.inl (t, len, .inr (.inr (va_up g x.toNatClampNeg (some v))))))) n cells slots (pc + 1) lo st) : AW X p l e R s m args below meth c nL Z f n cells slots pc lo (.ref v :: .int x :: .ref i :: st) := by
  intro H locs ls hR hn hS hl
  have hK := C.2.2.2.2.2.2.1.1
  have ht2 := tyN_at X ht
  rw [hty] at ht2
  have hlt : x.toNatClampNeg < len := Nat.not_le.mp fun q => hin (Or.inr q)
  have h0 : ¬ x < 0 := fun q => hin (Or.inl q)
  obtain ⟨r', hr', cellV, g1, g2, g3, -⟩ := hR v _ hv
  have hcls := (hK.1 ci q hc).2
  obtain ⟨kA, comp, k1, k2, k3, -⟩ := (hK.2 t _ ht2).2
  have hcomp : comp = X.2.1.1 ci := Option.some.inj (k3.symm.trans hcls.1)
  subst hcomp
  obtain ⟨kC, hkC, -⟩ := hcls.2
  refine W.aast C.1 C.2.1 (hR i _ hf) (fun q h => by cases h) (fun h => by cases h) k1 k2 rfl hkC ⟨h0, by show _ < (arrV _ _ _).slots.size; rw [arrV_size]; exact hlt⟩ g1 (fun q h => by rw [g3] at h; cases h) (by rw [g2]; exact hkC) (by rw [g2]; exact va_assign hcls) rfl rfl hd fun H1 e1 z oq => ?_
  refine kk H1 _ ls (hR.set ?_ oq) (by rw [z]; exact hn) (hS.put z oq (Nat.le_add_right _ _)) hl
  show H1[X.1 + i]? = some (vp_cell _ _)
  rw [e1]
  show some (Cell.setSlot (vp_cell (X.2.2 t) (len, .inr (.inr (.inr (.inr fun j => (g j).map (fun k => X.1 + k)))))) _ _) = some (vp_cell (X.2.2 t) (len, .inr (.inr (.inr (.inr fun j => ((va_up g x.toNatClampNeg (some v)) j).map (fun k => X.1 + k))))))
  rw [vp_cell_q, vp_cell_q, arrV_store]
  congr 2
  funext q
  by_cases hq : q = x.toNatClampNeg
  · subst hq
    simp [updV, va_up, va_rf]
  · simp [updV, va_up, hq]
theorem aw_aastN (C : CC X p l R s m args meth c own cc nL ret) {t i len : Nat} {g : Nat → Option Nat} {x : Int32} {Cn : String} (ht : t < 5) (hty : tyN t = .object Cn) (hf : f i = some (.inl (t, len, .inr (.inr g)))) (hin : vp_in x len) (hd : decode cc pc = .ok (.aastore, 1))
    (kk : AW X p l e R s m args below meth c nL Z (va_up f i (some (.inl (t, len, .inr (.inr (va_up g x.toNatClampNeg none)))))) n cells slots (pc + 1) lo st) : AW X p l e R s m args below meth c nL Z f n cells slots pc lo (.null :: .int x :: .ref i :: st) := by
  intro H locs ls hR hn hS hl
  have hK := C.2.2.2.2.2.2.1.1
  have ht2 := tyN_at X ht
  rw [hty] at ht2
  refine va_WaastN (C := Cn) C.1 C.2.1 (hR i _ hf) ((hK.2 t _ ht2).1 len (fun j => va_rf ((g j).map (fun k => X.1 + k)))) (fun h => by cases h) (by show ¬ (x < 0 ∨ (arrV _ _ _).slots.size ≤ _); rw [arrV_size]; exact hin) rfl rfl hd fun H1 e1 z oq => ?_
  refine kk H1 _ ls (hR.set ?_ oq) (by rw [z]; exact hn) (hS.put z oq (Nat.le_add_right _ _)) hl
  show H1[X.1 + i]? = some (vp_cell _ _)
  rw [e1]
  show some (Cell.setSlot (vp_cell (X.2.2 t) (len, .inr (.inr (.inr (.inr fun j => (g j).map (fun k => X.1 + k)))))) _ _) = some (vp_cell (X.2.2 t) (len, .inr (.inr (.inr (.inr fun j => ((va_up g x.toNatClampNeg none) j).map (fun k => X.1 + k))))))
  rw [vp_cell_q, vp_cell_q, arrV_store]
  congr 2
  funext q
  by_cases hq : q = x.toNatClampNeg
  · subst hq
    simp [updV, va_up, va_rf]
  · simp [updV, va_up, hq]
theorem va_S.grow {A : Nat → Prop} {H0 H H1 : Heap} {locs : List Loc} (hS : va_S A H0 H locs) (z : H1.size = H.size + 1) (o1 : ∀ q : Nat, q < H.size → H1[q]? = H[q]?) : va_S A H0 H1 locs :=
  ⟨Nat.le_trans hS.1 (by omega), fun x h1 h2 => (o1 x (Nat.lt_of_lt_of_le h1 hS.1)).trans (hS.2.1 x h1 h2), hS.2.2⟩
theorem aw_new (C : CC X p l R s m args meth c own cc nL ret) {idx ci : Nat} {fs : List Value} (g : NW own idx ci fs) (hcells : cells + 1 ≤ R.cells) (hslots : slots + fs.length ≤ R.slots) (hd : decode cc pc = .ok (.new idx, 3))
    (kk : AW X p l e R s m args below meth c nL Z (va_up f n (some (.inr (ci, fs)))) (n + 1) (cells + 1) (slots + fs.length) (pc + 3) lo (.ref n :: st)) : AW X p l e R s m args below meth c nL Z f n cells slots pc lo st := by
  intro H locs ls hR hn hS hl
  obtain ⟨q, ty, hc, hin, hty, hcl, hinst, hini, hfs, hrn, hlen⟩ := g
  have hts := C.2.2.2.2.1
  have hKn := C.2.2.2.2.2.2.1.1.1 ci _ hc
  rw [hlen] at hslots
  refine W.newcK C.1 C.2.1 C.2.2.2.1 (hts _ hcl) (hts _ hinst) (hts _ hini) rfl hd hcells hslots hKn.2.1 hn fun H1 kC hkC e1 z1 o1 => ?_
  have k9 := kk H1 locs ls (hR.push hn ?_ (by rw [hn]; exact o1)) (by omega) (hS.grow (by omega) (by rw [hn]; exact o1)) hl
  · rw [hlen] at k9
    exact k9
  · show ∃ r : vw_C, vwCl[ci]? = some r ∧ t_OB (X.1 + n) (X.2.1.1 ci) r.2.2 (X.2.1.2 ci) H1 (vp_V (fs.map (rn X.1)))
    rw [hrn]
    exact ⟨_, hc, (u_born ty hts hin hKn hkC e1 hty).to hfs⟩
theorem aw_newi (C : CC X p l R s m args meth c own cc nL ret) {x : Int32} {N : Nat} (hw : Cond.arrayClass .int ∈ ALLW) (h0 : ¬ x < 0) (hN : x.toNatClampNeg = N) (hbytes : N * 4 ≤ 536870912) (hcells : cells + 1 ≤ R.cells) (hslots : slots + N ≤ R.slots) (hd : decode cc pc = .ok (.newarray .int, 2))
    (kk : AW X p l e R s m args below meth c nL Z (va_up f n (some (.inl (0, N, .inl (fun _ => 0))))) (n + 1) (cells + 1) (slots + N) (pc + 2) lo (.ref n :: st)) : AW X p l e R s m args below meth c nL Z f n cells slots pc lo (.int x :: st) := by
  intro H locs ls hR hn hS hl
  have hts := C.2.2.2.2.1
  refine va_newaK (atype := .int) C.1 C.2.1 (hts _ hw) rfl hd rfl h0 hN hbytes hcells hslots hn fun H1 cA e1 z1 o1 hAr hNm => ?_
  have hcA : cA = X.2.2 0 := Option.some.inj (hNm.symm.trans (C.2.2.2.2.2.2.1.1.2 0 _ (tyN_at X (t := 0) (by decide))).2)
  subst hcA
  exact kk H1 locs ls (hR.push hn e1 (by rw [hn]; exact o1)) (by omega) (hS.grow (by omega) (by rw [hn]; exact o1)) hl
theorem aw_newl (C : CC X p l R s m args meth c own cc nL ret) {x : Int32} {N : Nat} (hw : Cond.arrayClass .long ∈ ALLW) (h0 : ¬ x < 0) (hN : x.toNatClampNeg = N) (hbytes : N * 8 ≤ 536870912) (hcells : cells + 1 ≤ R.cells) (hslots : slots + N ≤ R.slots) (hd : decode cc pc = .ok (.newarray .long, 2))
    (kk : AW X p l e R s m args below meth c nL Z (va_up f n (some (.inl (4, N, .inr (.inl (fun _ => 0)))))) (n + 1) (cells + 1) (slots + N) (pc + 2) lo (.ref n :: st)) : AW X p l e R s m args below meth c nL Z f n cells slots pc lo (.int x :: st) := by
  intro H locs ls hR hn hS hl
  have hts := C.2.2.2.2.1
  refine va_newaK (atype := .long) C.1 C.2.1 (hts _ hw) rfl hd rfl h0 hN hbytes hcells hslots hn fun H1 cA e1 z1 o1 hAr hNm => ?_
  have hcA : cA = X.2.2 4 := Option.some.inj (hNm.symm.trans (C.2.2.2.2.2.2.1.1.2 4 _ (tyN_at X (t := 4) (by decide))).2)
  subst hcA
  exact kk H1 locs ls (hR.push hn e1 (by rw [hn]; exact o1)) (by omega) (hS.grow (by omega) (by rw [hn]; exact o1)) hl
theorem aw_newq (C : CC X p l R s m args meth c own cc nL ret) {t idx : Nat} {x : Int32} {N : Nat} {Cn : String} (ht : t < 5) (hty : tyN t = .object Cn) (hcl : Cond.classLink own idx Cn ∈ ALLW) (hao : va_AO Cn s) (h0 : ¬ x < 0) (hN : x.toNatClampNeg = N) (hbytes : N * 4 ≤ 536870912) (hcells : cells + 1 ≤ R.cells) (hslots : slots + N ≤ R.slots) (hd : decode cc pc = .ok (.anewarray idx, 3))
    (kk : AW X p l e R s m args below meth c nL Z (va_up f n (some (.inl (t, N, .inr (.inr (fun _ => none)))))) (n + 1) (cells + 1) (slots + N) (pc + 3) lo (.ref n :: st)) : AW X p l e R s m args below meth c nL Z f n cells slots pc lo (.int x :: st) := by
  intro H locs ls hR hn hS hl
  have hts := C.2.2.2.2.1
  subst hN
  refine W.anew C.1 C.2.1 C.2.2.2.1 (hts _ hcl) (va_AO.use hao) rfl hd rfl h0 hbytes hcells hslots fun cA kA comp f1 f2 f3 f4 => ?_
  have ht2 := tyN_at X ht
  rw [hty] at ht2
  obtain ⟨kA2, comp2, k1, k2, k3, k4⟩ := (C.2.2.2.2.2.2.1.1.2 t _ ht2).2
  have hcA : cA = X.2.2 t := Option.some.inj (f1.symm.trans k4)
  subst hcA
  generalize hH1 : H.push ({ cls := X.2.2 t, slots := Array.replicate x.toNatClampNeg .null, vm := .none } : Cell) = H1
  have z1 : H1.size = H.size + 1 := by rw [← hH1, Array.size_push]
  have e1 : H1[H.size]? = some (arrV (X.2.2 t) x.toNatClampNeg (fun _ => .null)) := by rw [← hH1, Array.getElem?_push_size, ← arrV_new]
  have o1 : ∀ q : Nat, q < H.size → H1[q]? = H[q]? := fun q hq => by rw [← hH1, Array.getElem?_push, if_neg (Nat.ne_of_lt hq)]
  have k9 := kk H1 locs ls (hR.push hn (by show H1[X.1 + n]? = some (vp_cell _ _); rw [← hn]; exact e1) o1) (by omega) (hS.grow z1 o1) hl
  rw [hn]
  exact k9
theorem aw_oinit (C : CC X p l R s m args meth c own cc nL ret) {idx i : Nat} (hlk : Cond.methodLink own idx Lib.objectInit ∈ ALLW) (h2 : Cond.instanceMethod Lib.objectInit ∈ ALLW) (h3 : Cond.code Lib.objectInit ⟨#[0xb1]⟩ 1 none ∈ ALLW) (hd : decode cc pc = .ok (.invokespecial idx, 3)) (hfr : 1 ≤ R.frames) (hst : (st.map fun v => v.category).sum + 12 ≤ R.locals)
    (kk : AW X p l e R s m args below meth c nL Z f n cells slots (pc + 3) lo st) : AW X p l e R s m args below meth c nL Z f n cells slots pc lo (.ref i :: st) := by
  intro H locs ls hR hn hS hl
  have hts := C.2.2.2.2.1
  refine W.objInit C.1 C.2.1 C.2.2.2.1 (hts _ hlk) (hts _ h2) (hts _ h3) rfl (by rw [C.2.2.1]; exact hl.1) rfl hd hfr ?_ (kk H locs ls hR hn hS hl)
  have : ((st.map (rn X.1)).map fun v => v.category).sum = (st.map fun v => v.category).sum := by
    rw [List.map_map]; congr 1; apply List.map_congr_left; intro v _; exact rn_cat _ _
  rw [this]
  simpa [JFrame.monitorRoom] using hst
end AWH
