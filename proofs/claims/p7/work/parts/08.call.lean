/-! contracts by ids, returns, calls -/
def PreM (X : GX) (as : List Value) (f : AH) (n : Nat) : Array Value → State → Prop := va_Pc (as.map (rn X.1)) (fun U => GG X U ∧ U.heap.size = X.1 + n ∧ Rel X f U.heap)
def PostM (X : GX) (Q : Option Value → AH → Nat → Prop) : Array Value → State → Outcome → State → Prop := fun _ st oc t =>
  ∃ (v : Option Value) (f' : AH) (n' : Nat), oc = .returned (v.map (rn X.1)) ∧ Q v f' n' ∧ t.heap.size = X.1 + n' ∧ Rel X f' t.heap ∧ va_F (fun q => X.1 ≤ q) st t
def PostX (X : GX) (QX : String → AH → Nat → Prop) : String → State → State → Prop := fun E st t =>
  ∃ (f' : AH) (n' : Nat), QX E f' n' ∧ t.heap.size = X.1 + n' ∧ Rel X f' t.heap ∧ va_F (fun q => X.1 ≤ q) st t
abbrev RM (fr mc ms : Nat) : Room := { frames := fr, cells := mc, slots := ms, locals := 36 * fr }
def AM (X : GX) (l : Launch) (y : MethodName) (bytes : ByteArray) (maxL : Nat) (ret : Option FieldType) (fr mc ms : Nat) (as : List Value) (f : AH) (n : Nat) (Q : Option Value → AH → Nat → Prop) : Prop :=
  Met l y (Cond.code y bytes maxL ret :: ALLW) (RM fr mc ms) (PreM X as f n) (PostM X Q) mc ms (fun q => X.1 ≤ q)
def AX (X : GX) (l : Launch) (y : MethodName) (bytes : ByteArray) (maxL : Nat) (ret : Option FieldType) (fr mc ms : Nat) (as : List Value) (f : AH) (n : Nat) (Q : Option Value → AH → Nat → Prop) (QX : String → AH → Nat → Prop) : Prop :=
  vx_Met l y (Cond.code y bytes maxL ret :: ALLW) (RM fr mc ms) (PreM X as f n) (PostM X Q) (PostX X QX) mc ms (fun q => X.1 ≤ q)
abbrev ZM (X : GX) (below : List Frame) (args : Array Value) (s : State) (mc ms : Nat) (Q : Option Value → AH → Nat → Prop) : State → Prop := MQ below (PostM X Q) args s mc ms (fun q => X.1 ≤ q)
abbrev ZX (X : GX) (below : List Frame) (args : Array Value) (s : State) (mc ms : Nat) (Q : Option Value → AH → Nat → Prop) (QX : String → AH → Nat → Prop) : State → Prop := vx_MQ below (PostM X Q) (PostX X QX) args s mc ms (fun q => X.1 ≤ q)
/-- locals at the entry -/
def enL (as : List Value) (maxL : Nat) : List (Option Value) := as.map some ++ List.replicate (maxL - as.length) none
theorem enL_args (b : Nat) : ∀ (as : List Value) (k i : Nat) (v : Value), (∀ w ∈ as, w.category = 1) → as[i]? = some v → (k + i, rn b v) ∈ lv_args k (as.map (rn b))
  | [], k, i, v, _, h => by simp at h
  | w :: as, k, i, v, hc, h => by
    have h1 : (rn b w).category = 1 := by rw [rn_cat]; exact hc w List.mem_cons_self
    show _ ∈ (k, rn b w) :: lv_args (if (rn b w).category = 2 then k + 2 else k + 1) (as.map (rn b))
    rw [h1, if_neg (by decide)]
    cases i with
    | zero =>
      simp at h
      subst h
      exact List.mem_cons_self
    | succ i =>
      have h2 : as[i]? = some v := by simpa using h
      have := enL_args b as (k + 1) i v (fun w hw => hc w (List.mem_cons_of_mem _ hw)) h2
      rw [show k + (i + 1) = k + 1 + i by omega]
      exact List.mem_cons_of_mem _ this
theorem lg_sl_len : ∀ (as : List Value), (∀ w ∈ as, w.category = 1) → (lg_sl as).length = as.length
  | [], _ => rfl
  | w :: as, hc => by
    have h := lg_sl_len as (fun w hw => hc w (List.mem_cons_of_mem _ hw))
    have h1 := hc w List.mem_cons_self
    simp only [lg_sl, List.flatMap_cons, h1] at h ⊢
    simp at h ⊢
    omega
theorem enL_LH {b maxL : Nat} {ls : Array Slot} {as : List Value} (hc : ∀ w ∈ as, w.category = 1) (h : lv_has ls maxL (lv_args 0 (as.map (rn b)))) : LH b ls maxL (enL as maxL) := by
  refine ⟨h.1, h.2.1, fun i v hi => ?_⟩
  unfold enL at hi
  by_cases hl : i < as.length
  · rw [List.getElem?_append_left (by simpa using hl)] at hi
    have h2 : as[i]? = some v := by
      rw [List.getElem?_map] at hi
      cases h3 : as[i]? with
      | none => rw [h3] at hi; cases hi
      | some w => rw [h3] at hi; cases hi; rfl
    have := h.2.2 _ (enL_args b as 0 i v hc h2)
    simpa using this
  · rw [List.getElem?_append_right (by simpa using Nat.not_lt.mp hl), List.getElem?_replicate] at hi
    split at hi <;> cases hi
theorem cat_rn (b : Nat) (st : List Value) : ((st.map (rn b)).map fun v => v.category).sum = (st.map fun v => v.category).sum := by
  rw [List.map_map]; congr 1; apply List.map_congr_left; intro v _; exact rn_cat _ _
theorem AM.of {X : GX} {l : Launch} {y : MethodName} {bytes : ByteArray} {maxL : Nat} {ret : Option FieldType} {fr mc ms : Nat} {as : List Value} {f : AH} {n : Nat} {Q : Option Value → AH → Nat → Prop} (hy : plainName y.cls = true) (has : as.all (fun w => w.category == 1) = true) (hle : as.length ≤ maxL)
    (body : ∀ (p : Program) (e : Env) (s : State) (m : MethodId) (args : Array Value) (below : List Frame) (meth : Method) (c : Code), CC X p l (RM fr mc ms) s m args meth c y.cls bytes maxL ret → meth.name = y.name → AW X p l e (RM fr mc ms) s m args below meth c maxL (ZM X below args s mc ms Q) f n 0 0 0 (enL as maxL) []) :
    AM X l y bytes maxL ret fr mc ms as f n Q := by
  refine Met.ofW (cc := bytes) (maxL := maxL) (ret := ret) hy rfl ?_
  intro p e s m args below meth c s₁ B hml hv
  obtain ⟨rfl, hG, hsz, hR⟩ := hv
  have hts := atoms_spec (ws := Cond.code y bytes maxL ret :: ALLW) B.pre
  have hown : s.vm.findClass y.cls = some m.cls := findClass_of_methodNamed B.named
  have hC : CC X p l (RM fr mc ms) s m (as.map (rn X.1)).toArray meth c y.cls bytes maxL ret := ⟨B.exec, B.bytes, hml, hown, fun w hw => hts w (List.mem_cons_of_mem _ hw), B.notSynchronized, hG, B.returns⟩
  have hc : ∀ w ∈ as, w.category = 1 := fun w hw => by simpa using List.all_eq_true.mp has w hw
  have hc2 : ∀ w ∈ as.map (rn X.1), w.category = 1 := fun w hw => by
    obtain ⟨v, hv, rfl⟩ := List.mem_map.mp hw
    rw [rn_cat]; exact hc v hv
  have hl := lv_entry (as.map (rn X.1)) (n := maxL) (by rw [lg_sl_len _ hc2]; simpa using hle)
  rw [lg_entry_eq]
  exact body p e s m _ below meth c hC (name_of_methodNamed B.named B.method).1 s.heap [] _ hR hsz va_S.rf (enL_LH hc hl)
theorem AX.of {X : GX} {l : Launch} {y : MethodName} {bytes : ByteArray} {maxL : Nat} {ret : Option FieldType} {fr mc ms : Nat} {as : List Value} {f : AH} {n : Nat} {Q : Option Value → AH → Nat → Prop} {QX : String → AH → Nat → Prop} (hy : plainName y.cls = true) (has : as.all (fun w => w.category == 1) = true) (hle : as.length ≤ maxL)
    (body : ∀ (p : Program) (e : Env) (s : State) (m : MethodId) (args : Array Value) (below : List Frame) (meth : Method) (c : Code), CC X p l (RM fr mc ms) s m args meth c y.cls bytes maxL ret → (∀ x ∈ c.exceptionTable.toList, False) → AW X p l e (RM fr mc ms) s m args below meth c maxL (ZX X below args s mc ms Q QX) f n 0 0 0 (enL as maxL) []) :
    AX X l y bytes maxL ret fr mc ms as f n Q QX := by
  refine vx_ofW (cc := bytes) (maxL := maxL) (ret := ret) hy rfl ?_
  intro p e s m args below meth c s₁ B hml htab hv
  obtain ⟨rfl, hG, hsz, hR⟩ := hv
  have hts := atoms_spec (ws := Cond.code y bytes maxL ret :: ALLW) B.pre
  have hown : s.vm.findClass y.cls = some m.cls := findClass_of_methodNamed B.named
  have hC : CC X p l (RM fr mc ms) s m (as.map (rn X.1)).toArray meth c y.cls bytes maxL ret := ⟨B.exec, B.bytes, hml, hown, fun w hw => hts w (List.mem_cons_of_mem _ hw), B.notSynchronized, hG, B.returns⟩
  have hc : ∀ w ∈ as, w.category = 1 := fun w hw => by simpa using List.all_eq_true.mp has w hw
  have hc2 : ∀ w ∈ as.map (rn X.1), w.category = 1 := fun w hw => by
    obtain ⟨v, hv, rfl⟩ := List.mem_map.mp hw
    rw [rn_cat]; exact hc v hv
  have hl := lv_entry (as.map (rn X.1)) (n := maxL) (by rw [lg_sl_len _ hc2]; simpa using hle)
  rw [lg_entry_eq]
  exact body p e s m _ below meth c hC htab s.heap [] _ hR hsz va_S.rf (enL_LH hc hl)
theorem AM.mono {X : GX} {l : Launch} {y : MethodName} {bytes : ByteArray} {maxL : Nat} {ret : Option FieldType} {fr mc ms : Nat} {as : List Value} {f : AH} {n : Nat} {Q Q' : Option Value → AH → Nat → Prop} (h : AM X l y bytes maxL ret fr mc ms as f n Q) (hq : ∀ v f' n', Q v f' n' → Q' v f' n') : AM X l y bytes maxL ret fr mc ms as f n Q' := by
  unfold AM Met at h ⊢
  exact MetFree.mono h (fun _ _ h => h) (fun _ _ _ _ _ h => h) (fun a s o t _ ⟨⟨v, f', n', h1, h2, h3⟩, h4⟩ => ⟨⟨v, f', n', h1, hq _ _ _ h2, h3⟩, h4⟩)
theorem AM.heap {X : GX} {l : Launch} {y : MethodName} {bytes : ByteArray} {maxL : Nat} {ret : Option FieldType} {fr mc ms : Nat} {as : List Value} {f f0 : AH} {n : Nat} {Q : Option Value → AH → Nat → Prop} (h : AM X l y bytes maxL ret fr mc ms as f0 n Q) (hf : ∀ i e, f0 i = some e → f i = some e) : AM X l y bytes maxL ret fr mc ms as f n Q := by
  unfold AM Met at h ⊢
  exact MetFree.mono h (fun a s ⟨h1, h2, h3, h4⟩ => ⟨h1, h2, h3, h4.sub hf⟩) (fun _ _ _ _ _ h => h) (fun a s o t _ h => h)
section AWC
variable {X : GX} {p : Program} {l : Launch} {e : Env} {R : Room} {s : State} {m : MethodId} {args : Array Value} {below : List Frame} {meth : Method} {c : Code} {own : String} {cc : ByteArray} {nL : Nat} {ret : Option FieldType} {Z : State → Prop} {f : AH} {n cells slots pc : Nat} {lo : List (Option Value)} {st : List Value}
variable {mc ms : Nat} {Q : Option Value → AH → Nat → Prop} {QX : String → AH → Nat → Prop}
theorem aw_iret (C : CC X p l R s m args meth c own cc nL ret) {ty : FieldType} {v : Int32} (hrt : ret = some ty) (hnr : narrow ty (.int v) = .int v) (hd : decode cc pc = .ok (.ireturn, 1)) (hc : cells ≤ mc) (hs : slots ≤ ms) (hQ : Q (some (.int v)) f n) : AW X p l e R s m args below meth c nL (ZM X below args s mc ms Q) f n cells slots pc lo [.int v] := by
  intro H locs ls hR hn hS hl
  refine W.widen hc hs ?_
  exact W.zret C.1 C.2.1 (C.2.2.2.2.2.2.2.trans hrt) hnr (fun t ht hW => ⟨some (.int v), f, n, rfl, hQ, by rw [ht]; exact hn, by rw [ht]; exact hR, hS.F ht⟩) hS.2.2 hd C.2.2.2.2.2.1
theorem aw_lret (C : CC X p l R s m args meth c own cc nL ret) {v : Int64} (hrt : ret = some .long) (hd : decode cc pc = .ok (.lreturn, 1)) (hc : cells ≤ mc) (hs : slots ≤ ms) (hQ : Q (some (.long v)) f n) : AW X p l e R s m args below meth c nL (ZM X below args s mc ms Q) f n cells slots pc lo [.long v] := by
  intro H locs ls hR hn hS hl
  refine W.widen hc hs ?_
  exact W.lret C.1 C.2.1 (C.2.2.2.2.2.2.2.trans hrt) (fun t ht hW => ⟨some (.long v), f, n, rfl, hQ, by rw [ht]; exact hn, by rw [ht]; exact hR, hS.F ht⟩) hS.2.2 hd C.2.2.2.2.2.1
theorem aw_vret (C : CC X p l R s m args meth c own cc nL ret) (hrt : ret = none) (hd : decode cc pc = .ok (.return_, 1)) (hc : cells ≤ mc) (hs : slots ≤ ms) (hQ : Q none f n) : AW X p l e R s m args below meth c nL (ZM X below args s mc ms Q) f n cells slots pc lo [] := by
  intro H locs ls hR hn hS hl
  refine W.widen hc hs ?_
  exact W.vret C.1 C.2.1 (C.2.2.2.2.2.2.2.trans hrt) (fun t ht hW => ⟨none, f, n, rfl, hQ, by rw [ht]; exact hn, by rw [ht]; exact hR, hS.F ht⟩) hS.2.2 hd C.2.2.2.2.2.1
theorem aw_aret (C : CC X p l R s m args meth c own cc nL ret) {v : Value} {Cn : String} (hrt : ret = some (.object Cn)) (hv : v = .null ∨ ∃ a, v = .ref a) (hd : decode cc pc = .ok (.areturn, 1)) (hc : cells ≤ mc) (hs : slots ≤ ms) (hQ : Q (some v) f n) : AW X p l e R s m args below meth c nL (ZM X below args s mc ms Q) f n cells slots pc lo [v] := by
  intro H locs ls hR hn hS hl
  refine W.widen hc hs ?_
  refine W.aret C.1 C.2.1 (C.2.2.2.2.2.2.2.trans hrt) (Or.inl ⟨_, rfl⟩) ?_ (fun t ht hW => ⟨some v, f, n, rfl, hQ, by rw [ht]; exact hn, by rw [ht]; exact hR, hS.F ht⟩) hS.2.2 hd C.2.2.2.2.2.1
  rcases hv with rfl | ⟨a, rfl⟩
  · exact Or.inl rfl
  · exact Or.inr ⟨_, rfl⟩
theorem ax_of (kk : AW X p l e R s m args below meth c nL (ZM X below args s mc ms Q) f n cells slots pc lo st) : AW X p l e R s m args below meth c nL (ZX X below args s mc ms Q QX) f n cells slots pc lo st :=
  fun H locs ls hR hn hS hl => vx_ret (kk H locs ls hR hn hS hl)
theorem aw_ofRun {a : Array Value} {st0 : List Value} (hr : ∀ (H : Heap) (locs : List Loc) (ls : Array Slot), Rel X f H → H.size = X.1 + n → va_S (fun q => X.1 ≤ q) s.heap H locs → LH X.1 ls nL lo → va_Run p l e R s m args below meth c H locs cells slots mc ms (F0 m pc ls (st0.map (rn X.1))) (st.map (rn X.1)) (PostM X Q a) (fun q => X.1 ≤ q))
    (kk : ∀ (v : Option Value) (f' : AH) (n' : Nat), Q v f' n' → AW X p l e R s m args below meth c nL Z f' n' (cells + mc) (slots + ms) (pc + 3) lo (v.toList ++ st)) : AW X p l e R s m args below meth c nL Z f n cells slots pc lo st0 := by
  intro H locs ls hR hn hS hl T hT XX
  obtain ⟨v, st₀, t, T', L, h0, X', hL, e1, e2, ⟨v', f', n', hv, hQ, hz', hR', hF⟩, stp⟩ := hr H locs ls hR hn hS hl T hT XX
  cases hv
  obtain ⟨k1, k2, k3⟩ := vx_keep (A0 := fun q => X.1 ≤ q) h0 e1 hS (fun q _ h => h) (fun q h => h) hL hF
  obtain ⟨t2, a1, b1⟩ := kk v' f' n' hQ T'.heap (locs ++ L) ls (by rw [e1]; exact hR') (by rw [e1]; exact hz') k3 hl T' rfl X'
  refine ⟨t2, stp t2 ?_, b1⟩
  have hst : (v'.toList ++ st).map (rn X.1) = (v'.map (rn X.1)).toList ++ st.map (rn X.1) := by cases v' <;> simp
  rw [hst] at a1
  exact a1
theorem PreM.blind (X : GX) (as : List Value) (f : AH) (n : Nat) : FrameBlind (PreM X as f n) := fun a U g mk q => by
  obtain ⟨q0, qG, qz, qR⟩ := q
  exact ⟨q0, qG.moved (State.WarmedH.refl U) (Nat.le_refl _) (fun _ _ _ => rfl), qz, qR⟩
theorem CC.pre (C : CC X p l R s m args meth c own cc nL ret) {H : Heap} {locs : List Loc} (hR : Rel X f H) (hn : H.size = X.1 + n) (hS : va_S (fun q => X.1 ≤ q) s.heap H locs) (as : List Value) : ∀ U : State, U.heap = H → s.WarmedH U.vm → PreM X as f n (as.map (rn X.1)).toArray U :=
  fun U hU hW => ⟨rfl, C.2.2.2.2.2.2.1.S hW hS hU, by rw [hU]; exact hn, by rw [hU]; exact hR⟩
theorem aw_callV (C : CC X p l R s m args meth c own cc nL ret) {idx : Nat} {y : MethodName} {bytes : ByteArray} {maxL : Nat} {ret' : Option FieldType} {np fr b ci : Nat} {fs : List Value} {q : vw_C} {st0 : List Value} (as : List Value) (g : MV own idx y bytes maxL ret' np) (hci : vwCl[ci]? = some q) (hq : y.cls = q.1) (hb : f b = some (.inr (ci, fs)))
    (hM : AM X l y bytes maxL ret' fr mc ms (.ref b :: as) f n Q) (he : st0 = as.reverse ++ .ref b :: st) (hd : decode cc pc = .ok (.invokevirtual idx, 3)) (hfr : fr + 1 ≤ R.frames) (hlo : 8 + (maxL + 11) + 36 * fr ≤ R.locals) (hnp : as.length = np) (hstk : (st.map fun v => v.category).sum ≤ 8) (hc : cells + mc ≤ R.cells) (hs : slots + ms ≤ R.slots)
    (kk : ∀ (v : Option Value) (f' : AH) (n' : Nat), Q v f' n' → AW X p l e R s m args below meth c nL Z f' n' (cells + mc) (slots + ms) (pc + 3) lo (v.toList ++ st)) : AW X p l e R s m args below meth c nL Z f n cells slots pc lo st0 := by
  subst he
  refine aw_ofRun (a := ((.ref b :: as).map (rn X.1)).toArray) (fun H locs ls hR hn hS hl => ?_) kk
  obtain ⟨g1, g2, g3, g4, g5, g6⟩ := g
  have hts := C.2.2.2.2.1
  have hG : GoodIn ALLW (wsV own idx y.cls y (Cond.code y bytes maxL ret' :: ALLW)) := ALLW_good (fun w hw => by
    simp only [wsV, List.cons_append, List.nil_append, List.mem_cons] at hw
    rcases hw with rfl | rfl | rfl | rfl | rfl | h
    · exact g1
    · exact g2
    · exact g3
    · exact g4
    · exact g5
    · exact h)
  have hrecv : ∃ cellB : Cell, H[X.1 + b]? = some cellB ∧ cellB.vm.isStatics = false ∧ s.vm.findClass y.cls = some cellB.cls := by
    obtain ⟨r, h1, cell, q1, q2, q3, -⟩ := hR b _ hb
    refine ⟨cell, q1, by rw [q3]; rfl, ?_⟩
    rw [q2, hq]
    exact (C.2.2.2.2.2.2.1.1.1 ci _ hci).2.1
  have := va_runV (C := y.cls) (b := X.1 + b) (As := as.map (rn X.1)) (rest := st.map (rn X.1)) (g := F0 m pc ls ((as.reverse ++ .ref b :: st).map (rn X.1))) (locs := locs) (cells := cells) (slots := slots) (e := e) (below := below) (meth := meth) ⟨C.1, C.2.1, C.2.2.1, C.2.2.2.1, hts⟩ hM (cwV np hts hG rfl rfl rfl ⟨rfl, g6⟩ ⟨hfr, hlo⟩) ⟨PreM.blind X _ f n, hrecv, C.pre hR hn hS (.ref b :: as)⟩ rfl (by rw [List.length_map]; exact hnp) hl.1 (by simp [rn]) (lv_room (by rw [cat_rn]; exact hstk)) hd ⟨hc, hs⟩
  exact this
theorem aw_callI (C : CC X p l R s m args meth c own cc nL ret) {idx : Nat} {y : MethodName} {bytes : ByteArray} {maxL : Nat} {np fr b : Nat} {st0 : List Value} (as : List Value) (g : MI own idx y bytes maxL np)
    (hM : AM X l y bytes maxL none fr mc ms (.ref b :: as) f n Q) (he : st0 = as.reverse ++ .ref b :: st) (hd : decode cc pc = .ok (.invokespecial idx, 3)) (hfr : fr + 1 ≤ R.frames) (hlo : 8 + (maxL + 11) + 36 * fr ≤ R.locals) (hnp : as.length = np) (hstk : (st.map fun v => v.category).sum ≤ 8) (hc : cells + mc ≤ R.cells) (hs : slots + ms ≤ R.slots)
    (kk : ∀ (v : Option Value) (f' : AH) (n' : Nat), Q v f' n' → AW X p l e R s m args below meth c nL Z f' n' (cells + mc) (slots + ms) (pc + 3) lo (v.toList ++ st)) : AW X p l e R s m args below meth c nL Z f n cells slots pc lo st0 := by
  subst he
  refine aw_ofRun (a := ((.ref b :: as).map (rn X.1)).toArray) (fun H locs ls hR hn hS hl => ?_) kk
  obtain ⟨g1, g2, g4, g5, g7, g6⟩ := g
  have hts := C.2.2.2.2.1
  have := va_runI (b := X.1 + b) (As := as.map (rn X.1)) (rest := st.map (rn X.1)) (g := F0 m pc ls ((as.reverse ++ .ref b :: st).map (rn X.1))) (locs := locs) (cells := cells) (slots := slots) (e := e) (below := below) (meth := meth) ⟨C.1, C.2.1, C.2.2.1, C.2.2.2.1, hts⟩ hM (cwI np hts (ALLW_all (fun _ h => h) g5) rfl rfl rfl (hts _ g4) (hts _ g1) (hts _ g2) g7 g6 ⟨hfr, hlo⟩) ⟨PreM.blind X _ f n, C.pre hR hn hS (.ref b :: as)⟩ rfl (by rw [List.length_map]; exact hnp) hl.1 (by simp [rn]) (lv_room (by rw [cat_rn]; exact hstk)) hd ⟨hc, hs⟩
  exact this
theorem aw_callS (C : CC X p l R s m args meth c own cc nL ret) {idx : Nat} {y : MethodName} {bytes : ByteArray} {maxL : Nat} {ret' : Option FieldType} {np fr : Nat} {st0 : List Value} (as : List Value) (g : MS own idx y bytes maxL ret' np)
    (hM : AM X l y bytes maxL ret' fr mc ms as f n Q) (he : st0 = as.reverse ++ st) (hd : decode cc pc = .ok (.invokestatic idx, 3)) (hfr : fr + 1 ≤ R.frames) (hlo : 8 + (maxL + 11) + 36 * fr ≤ R.locals) (hnp : as.length = np) (hstk : (st.map fun v => v.category).sum ≤ 8) (hc : cells + mc ≤ R.cells) (hs : slots + ms ≤ R.slots)
    (kk : ∀ (v : Option Value) (f' : AH) (n' : Nat), Q v f' n' → AW X p l e R s m args below meth c nL Z f' n' (cells + mc) (slots + ms) (pc + 3) lo (v.toList ++ st)) : AW X p l e R s m args below meth c nL Z f n cells slots pc lo st0 := by
  subst he
  refine aw_ofRun (a := (as.map (rn X.1)).toArray) (fun H locs ls hR hn hS hl => ?_) kk
  obtain ⟨g1, g2, g4, g5, g6⟩ := g
  have hts := C.2.2.2.2.1
  have := va_runS (As := as.map (rn X.1)) (rest := st.map (rn X.1)) (g := F0 m pc ls ((as.reverse ++ st).map (rn X.1))) (locs := locs) (cells := cells) (slots := slots) (e := e) (below := below) (meth := meth) ⟨C.1, C.2.1, C.2.2.1, C.2.2.2.1, hts⟩ hM ⟨callB_of np hts (ALLW_all (fun _ h => h) g5) rfl rfl rfl (hts _ g4) (hts _ g1) g6 ⟨hfr, hlo⟩, hts _ g2⟩ ⟨PreM.blind X _ f n, C.pre hR hn hS as⟩ rfl (by rw [List.length_map]; exact hnp) hl.1 (by simp) (lv_room (by rw [cat_rn]; exact hstk)) hd ⟨hc, hs⟩
  exact this
end AWC
