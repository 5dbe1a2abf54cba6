/-! what throws, what catches -/
def AT (X : GX) (p : Program) (l : Launch) (e : Env) (R : Room) (s : State) (m : MethodId) (args : Array Value) (below : List Frame) (meth : Method) (c : Code) (nL : Nat) (Z : State → Prop) (E : String) (f : AH) (n cells slots pc : Nat) (lo : List (Option Value)) : Prop :=
  ∀ (H : Heap) (locs : List Loc) (ls : Array Slot) (rest : List Value) (q : Addr) (ce : Cell), Rel X f H → H.size = X.1 + n → va_S (fun q => X.1 ≤ q) s.heap H locs → LH X.1 ls nL lo → H[q]? = some ce → ce.vm = .none → s.vm.findClass E = some ce.cls → vx_W p l e R s m args below meth c H locs cells slots Z (F0 m pc ls rest) q
def AMW (X : GX) (l : Launch) (y : MethodName) (bytes : ByteArray) (maxL : Nat) (ret : Option FieldType) (hh : List (Nat × Nat × Nat × Nat)) (fr mc ms : Nat) (as : List Value) (f : AH) (n : Nat) (Q : Option Value → AH → Nat → Prop) : Prop :=
  Met l y (Cond.codeWith y bytes maxL ret hh :: ALLW) (RM fr mc ms) (PreM X as f n) (PostM X Q) mc ms (fun q => X.1 ≤ q)
theorem AMW.of {X : GX} {l : Launch} {y : MethodName} {bytes : ByteArray} {maxL : Nat} {ret : Option FieldType} {hh : List (Nat × Nat × Nat × Nat)} {fr mc ms : Nat} {as : List Value} {f : AH} {n : Nat} {Q : Option Value → AH → Nat → Prop} (hy : plainName y.cls = true) (has : as.all (fun w => w.category == 1) = true) (hle : as.length ≤ maxL)
    (body : ∀ (p : Program) (e : Env) (s : State) (m : MethodId) (args : Array Value) (below : List Frame) (meth : Method) (c : Code), CC X p l (RM fr mc ms) s m args meth c y.cls bytes maxL ret → c.exceptionTable.toList = tableOf hh → AW X p l e (RM fr mc ms) s m args below meth c maxL (ZM X below args s mc ms Q) f n 0 0 0 (enL as maxL) []) :
    AMW X l y bytes maxL ret hh fr mc ms as f n Q := by
  unfold AMW Met
  refine MetFree.of_bodyS (code := bytes) (maxLocals := maxL) (ret := ret) hy ?_ ?_
  · intro args s m h hn
    obtain ⟨m9, meth, c, hn9, h1, h2, h3, h4, -, h5, h6, -⟩ := Cond.codeWith_spec (atoms_spec (ws := Cond.codeWith y bytes maxL ret hh :: ALLW) h _ List.mem_cons_self)
    cases hn.symm.trans hn9
    exact ⟨meth, c, h1, h2, h3, h4, h5, h6⟩
  · intro p e s m args below meth c s₁ B hml hP _
    obtain ⟨rfl, hG, hsz, hR⟩ := hP
    have hh0 : s₁.heap = s.heap := by rw [B.state]; rfl
    have hts := atoms_spec (ws := Cond.codeWith y bytes maxL ret hh :: ALLW) B.pre
    have htab := vx_table (x := y) B (hts _ List.mem_cons_self)
    have hown : s.vm.findClass y.cls = some m.cls := findClass_of_methodNamed B.named
    have hC : CC X p l (RM fr mc ms) s m (as.map (rn X.1)).toArray meth c y.cls bytes maxL ret := ⟨B.exec, B.bytes, hml, hown, fun w hw => hts w (List.mem_cons_of_mem _ hw), B.notSynchronized, hG, B.returns⟩
    have hc : ∀ w ∈ as, w.category = 1 := fun w hw => by simpa using List.all_eq_true.mp has w hw
    have hc2 : ∀ w ∈ as.map (rn X.1), w.category = 1 := fun w hw => by
      obtain ⟨v, hv, rfl⟩ := List.mem_map.mp hw
      rw [rn_cat]; exact hc v hv
    have hl := lv_entry (as.map (rn X.1)) (n := maxL) (by rw [lg_sl_len _ hc2]; simpa using hle)
    have K : W p l e (RM fr mc ms) s m (as.map (rn X.1)).toArray below meth c s.heap [] 0 0 (ZM X below (as.map (rn X.1)).toArray s mc ms Q) (entryFrame m (as.map (rn X.1)).toArray maxL) := by
      rw [lg_entry_eq]
      exact body p e s m _ below meth c hC htab s.heap [] _ hR hsz va_S.rf (enL_LH hc hl)
    obtain ⟨t, a1, o, b1, b2, b3⟩ := K s₁ hh0 (Stand.of_body B)
    exact ⟨t, o, a1, b1, b2, ⟨b3.1, b3.2⟩⟩
section AWE
variable {X : GX} {p : Program} {l : Launch} {e : Env} {R : Room} {s : State} {m : MethodId} {args : Array Value} {below : List Frame} {meth : Method} {c : Code} {own : String} {cc : ByteArray} {nL : Nat} {ret : Option FieldType} {Z : State → Prop} {f : AH} {n cells slots pc : Nat} {lo : List (Option Value)} {st : List Value}
variable {mc ms : Nat} {Q : Option Value → AH → Nat → Prop} {QX : String → AH → Nat → Prop}
theorem at_out {E : String} (C : CC X p l R s m args meth c own cc nL ret) (htab : ∀ x ∈ c.exceptionTable.toList, False) (hQ : QX E f n) (hc : cells ≤ mc) (hs : slots ≤ ms) : AT X p l e R s m args below meth c nL (ZX X below args s mc ms Q QX) E f n cells slots pc lo := by
  intro H locs ls rest q ce hR hn hS hl h1 h2 h3
  exact vx_out (fun x hx => (htab x hx).elim) C.2.2.2.2.2.1 h1 h2 h3 (fun t ht hW => ⟨f, n, hQ, by rw [ht]; exact hn, by rw [ht]; exact hR, hS.F ht⟩) hS.2.2 hc hs
theorem ax_throw (C : CC X p l R s m args meth c "PieceFiles" cc nL ret) (htab : ∀ x ∈ c.exceptionTable.toList, False) (hl0 : l.stackTraces = false) {ik is ic : Nat} {cls text : String} (g : TH ik ic cls) (hstr : ("PieceFiles", is, text) ∈ strsX)
    (d0 : decode cc pc = .ok (.new ik, 3)) (d3 : decode cc (pc + 3) = .ok (.dup, 1)) (d4 : decode cc (pc + 4) = .ok (.ldc is, 2)) (d6 : decode cc (pc + 6) = .ok (.invokespecial ic, 3)) (d9 : decode cc (pc + 9) = .ok (.athrow, 1))
    (hfr : 6 ≤ R.frames) (hlo : (st.map fun v => v.category).sum + 82 ≤ R.locals) (hc1 : cells + 1 ≤ R.cells) (hs1 : slots + 6 ≤ R.slots) (hc : cells + 1 ≤ mc) (hs : slots + 6 ≤ ms) (hQ : ∀ n', n ≤ n' → QX cls f n') : AW X p l e R s m args below meth c nL (ZX X below args s mc ms Q QX) f n cells slots pc lo st := by
  intro H locs ls hR hn hS hl
  obtain ⟨g1, g2, g3, g4, g5, g6⟩ := g
  have hts := C.2.2.2.2.1
  have hG := C.2.2.2.2.2.2.1
  obtain ⟨sa, hsa⟩ := hG.2.2.2.2.2.1 _ hstr
  have hat : ∀ w ∈ vx_atS "PieceFiles" ic cls nmX, w.before args s = true := vx_hat (B := xW) (fun w hw => hts w (ALLW_mem (g3 w hw) (List.mem_filter.mp hw).2)) g4 (fun w hw => va_Nw.use (by
    simp only [xW, List.mem_cons, List.not_mem_nil, or_false] at hw
    rcases hw with rfl | rfl | rfl | rfl | rfl | rfl | rfl | rfl | rfl | rfl <;> rfl) (hG.2.2.2.2.2.2.1 w hw))
  refine vx_throwS (A := fun q => X.1 ≤ q) C.1 C.2.1 hl0 C.2.2.2.1 g6 (by decide +kernel) (hts _ g1) (hts _ g2) hsa hat g5 hG.2.1 hG.2.2.1 hS (by rw [C.2.2.1]; exact hl.1) d0 d3 d4 d6 d9 (fun x hx => (htab x hx).elim) hfr (by rw [cat_rn]; simpa using hlo) hc1 hs1 C.2.2.2.2.2.1 (fun t ht hz hk => ?_) hS.2.2 hc hs
  have hb : X.1 ≤ t.heap.size := by omega
  refine ⟨f, t.heap.size - X.1, hQ _ (by omega), by omega, fun i e he => (hR i e he).kept (hk _ (hR.lt he)), Nat.le_trans hS.1 hz, fun q h1 h2 => ?_⟩
  rw [hk q (Nat.lt_of_lt_of_le h1 hS.1)]
  exact hS.2.1 q h1 h2
theorem ax_throwW (C : CC X p l R s m args meth c "PieceFiles" cc nL ret) (htab : ∀ x ∈ c.exceptionTable.toList, False) (hl0 : l.stackTraces = false) {ik is ic : Nat} {cls text : String} (g : TH ik ic cls) (hstr : ("PieceFiles", is, text) ∈ strsX)
    (d0 : decode cc pc = .ok (.new ik, 3)) (d3 : decode cc (pc + 3) = .ok (.dup, 1)) (d4 : decode cc (pc + 4) = .ok (.ldc_w is, 3)) (d6 : decode cc (pc + 7) = .ok (.invokespecial ic, 3)) (d9 : decode cc (pc + 10) = .ok (.athrow, 1))
    (hfr : 6 ≤ R.frames) (hlo : (st.map fun v => v.category).sum + 82 ≤ R.locals) (hc1 : cells + 1 ≤ R.cells) (hs1 : slots + 6 ≤ R.slots) (hc : cells + 1 ≤ mc) (hs : slots + 6 ≤ ms) (hQ : ∀ n', n ≤ n' → QX cls f n') : AW X p l e R s m args below meth c nL (ZX X below args s mc ms Q QX) f n cells slots pc lo st := by
  intro H locs ls hR hn hS hl
  obtain ⟨g1, g2, g3, g4, g5, g6⟩ := g
  have hts := C.2.2.2.2.1
  have hG := C.2.2.2.2.2.2.1
  obtain ⟨sa, hsa⟩ := hG.2.2.2.2.2.1 _ hstr
  have hat : ∀ w ∈ vx_atS "PieceFiles" ic cls nmX, w.before args s = true := vx_hat (B := xW) (fun w hw => hts w (ALLW_mem (g3 w hw) (List.mem_filter.mp hw).2)) g4 (fun w hw => va_Nw.use (by
    simp only [xW, List.mem_cons, List.not_mem_nil, or_false] at hw
    rcases hw with rfl | rfl | rfl | rfl | rfl | rfl | rfl | rfl | rfl | rfl <;> rfl) (hG.2.2.2.2.2.2.1 w hw))
  refine vx_throwSW (A := fun q => X.1 ≤ q) C.1 C.2.1 hl0 C.2.2.2.1 g6 (by decide +kernel) (hts _ g1) (hts _ g2) hsa hat g5 hG.2.1 hG.2.2.1 hS (by rw [C.2.2.1]; exact hl.1) d0 d3 d4 d6 d9 (fun x hx => (htab x hx).elim) hfr (by rw [cat_rn]; simpa using hlo) hc1 hs1 C.2.2.2.2.2.1 (fun t ht hz hk => ?_) hS.2.2 hc hs
  have hb : X.1 ≤ t.heap.size := by omega
  refine ⟨f, t.heap.size - X.1, hQ _ (by omega), by omega, fun i e he => (hR i e he).kept (hk _ (hR.lt he)), Nat.le_trans hS.1 hz, fun q h1 h2 => ?_⟩
  rw [hk q (Nat.lt_of_lt_of_le h1 hS.1)]
  exact hS.2.1 q h1 h2
/-- a call that may throw -/
theorem ax_callV {mc1 ms1 : Nat} {Q1 : Option Value → AH → Nat → Prop} {QX1 : String → AH → Nat → Prop} (C : CC X p l R s m args meth c own cc nL ret) {idx : Nat} {y : MethodName} {bytes : ByteArray} {maxL : Nat} {ret' : Option FieldType} {np fr b ci : Nat} {fs : List Value} {q : vw_C} {st0 : List Value} (as : List Value) (g : MV own idx y bytes maxL ret' np) (hci : vwCl[ci]? = some q) (hq : y.cls = q.1) (hb : f b = some (.inr (ci, fs)))
    (hM : AX X l y bytes maxL ret' fr mc1 ms1 (.ref b :: as) f n Q1 QX1) (he : st0 = as.reverse ++ .ref b :: st) (hd : decode cc pc = .ok (.invokevirtual idx, 3)) (hfr : fr + 1 ≤ R.frames) (hlo : 8 + (maxL + 11) + 36 * fr ≤ R.locals) (hnp : as.length = np) (hstk : (st.map fun v => v.category).sum ≤ 8) (hc : cells + mc1 ≤ R.cells) (hs : slots + ms1 ≤ R.slots)
    (kx : ∀ (E : String) (f' : AH) (n' : Nat), QX1 E f' n' → AT X p l e R s m args below meth c nL Z E f' n' (cells + mc1) (slots + ms1) pc lo)
    (kk : ∀ (v : Option Value) (f' : AH) (n' : Nat), Q1 v f' n' → AW X p l e R s m args below meth c nL Z f' n' (cells + mc1) (slots + ms1) (pc + 3) lo (v.toList ++ st)) : AW X p l e R s m args below meth c nL Z f n cells slots pc lo st0 := by
  subst he
  intro H locs ls hR hn hS hl T hT XX
  obtain ⟨g1, g2, g3, g4, g5, g6⟩ := g
  have hts := C.2.2.2.2.1
  have hG : GoodIn ALLW (wsV own idx y.cls y (Cond.code y bytes maxL ret' :: ALLW)) := ALLW_good (fun w hw => by
    simp only [wsV, List.cons_append, List.nil_append, List.mem_cons] at hw
    rcases hw with rfl | rfl | rfl | rfl | rfl | h
    · exact g1
    · exact g2
    · exact g3
    · exact g4
    · exact g5
    · exact h)
  have hrecv : ∃ cellB : Cell, H[X.1 + b]? = some cellB ∧ cellB.vm.isStatics = false ∧ s.vm.findClass y.cls = some cellB.cls := by
    obtain ⟨r, h1, cell, q1, q2, q3, -⟩ := hR b _ hb
    refine ⟨cell, q1, by rw [q3]; rfl, ?_⟩
    rw [q2, hq]
    exact (C.2.2.2.2.2.2.1.1.1 ci _ hci).2.1
  have hr := vx_runV (C := y.cls) (b := X.1 + b) (As := as.map (rn X.1)) (rest := st.map (rn X.1)) (g := F0 m pc ls ((as.reverse ++ .ref b :: st).map (rn X.1))) (locs := locs) (cells := cells) (slots := slots) (e := e) (below := below) (meth := meth) ⟨C.1, C.2.1, C.2.2.1, C.2.2.2.1, hts⟩ hM (cwV np hts hG rfl rfl rfl ⟨rfl, g6⟩ ⟨hfr, hlo⟩) ⟨PreM.blind X _ f n, hrecv, C.pre hR hn hS (.ref b :: as)⟩ rfl (by rw [List.length_map]; exact hnp) hl.1 (by simp [rn]) (lv_room (by rw [cat_rn]; exact hstk)) hd ⟨hc, hs⟩
  rcases hr T hT XX with ⟨v, st₀, t, T', L, h0, X', hL, e1, e2, ⟨v', f', n', hv, hQ, hz', hR', hF⟩, stp⟩ | ⟨q9, st₀, t, T', L, E, ce, h0, X', hL, e1, e2, ⟨f', n', hQ, hz', hR', hF⟩, hce, hcv, hcl, stp⟩
  · cases hv
    obtain ⟨k1, k2, k3⟩ := vx_keep (A0 := fun q => X.1 ≤ q) h0 e1 hS (fun q _ h => h) (fun q h => h) hL hF
    obtain ⟨t2, a1, b1⟩ := kk v' f' n' hQ T'.heap (locs ++ L) ls (by rw [e1]; exact hR') (by rw [e1]; exact hz') k3 hl T' rfl X'
    refine ⟨t2, stp t2 ?_, b1⟩
    have hst : (v'.toList ++ st).map (rn X.1) = (v'.map (rn X.1)).toList ++ st.map (rn X.1) := by cases v' <;> simp
    rw [hst] at a1
    exact a1
  · obtain ⟨k1, k2, k3⟩ := vx_keep (A0 := fun q => X.1 ≤ q) h0 e1 hS (fun q _ h => h) (fun q h => h) hL hF
    obtain ⟨t2, a1, b1⟩ := kx E f' n' hQ T'.heap (locs ++ L) ls _ q9 ce (by rw [e1]; exact hR') (by rw [e1]; exact hz') k3 hl (by rw [e1]; exact hce) hcv hcl T' rfl X'
    exact ⟨t2, stp.trans a1, b1⟩
/-- caught here: the handler puts it away first -/
theorem at_catch {E : String} (C : CC X p l R s m args meth c own cc nL ret) {hh : List (Nat × Nat × Nat × Nat)} (htab : c.exceptionTable.toList = tableOf hh) (pre : List ExceptionTableEntry) (x : ExceptionTableEntry) (suf : List ExceptionTableEntry) (hsplit : tableOf hh = pre ++ x :: suf) {nm : String}
    (hpass : ∀ z ∈ pre, covers z pc = false ∨ (z.catchType ≠ 0 ∧ ∃ nm : String, Cond.classLink own z.catchType nm ∈ ALLW ∧ (E, nm) ∈ ncX)) (hx : covers x pc = true) (h0 : x.catchType ≠ 0) (hlk : Cond.classLink own x.catchType nm ∈ ALLW) (hcast : Cond.castable E nm ∈ xW)
    (kk : ∀ (H : Heap) (locs : List Loc) (ls : Array Slot) (q : Addr), Rel X f H → H.size = X.1 + n → va_S (fun q => X.1 ≤ q) s.heap H locs → LH X.1 ls nL lo → W p l e R s m args below meth c H locs cells slots Z (F0 m x.handlerPc ls [.ref q])) : AT X p l e R s m args below meth c nL Z E f n cells slots pc lo := by
  intro H locs ls rest q ce hR hn hS hl h1 h2 h3
  have hts := C.2.2.2.2.1
  have hG := C.2.2.2.2.2.2.1
  refine vx_catch C.2.2.2.1 pre x suf (htab.trans hsplit) (fun z hz => ?_) hx h0 (hts _ hlk) (va_Nw.use rfl (hG.2.2.2.2.2.2.1 _ hcast)) h1 h2 h3 (kk H locs ls q hR hn hS hl)
  rcases hpass z hz with h | ⟨h4, nm2, h5, h6⟩
  · exact Or.inl h
  · exact Or.inr ⟨h4, nm2, hts _ h5, hG.2.2.2.2.2.2.2.1 _ h6⟩
theorem LH.put {b : Nat} {ls' : Array Slot} {nL i : Nat} {lo : List (Option Value)} {w : Value} (hok : okS lo i = true) (h : lv_has ls' nL ((i, w) :: (prs b lo).filter (fun q => !(q.1 == i) && !(q.1 + 1 == i && q.2.category == 2)))) : LH b ls' nL (lo.set i none) := by
  refine ⟨h.1, h.2.1, fun j v hj => ?_⟩
  by_cases hji : j = i
  · subst hji
    rw [List.getElem?_set] at hj
    simp at hj
  · rw [List.getElem?_set_ne (Ne.symm hji)] at hj
    refine h.2.2 (j, rn b v) (List.mem_cons_of_mem _ (List.mem_filter.mpr ⟨prs_mem hj, ?_⟩))
    have h1 : (j == i) = false := by simpa using hji
    by_cases h2 : j + 1 = i
    · subst h2
      simp only [okS, hj] at hok
      have h3 : v.category = 1 := by simpa using hok
      simp [h1, rn_cat, h3]
    · have h4 : (j + 1 == i) = false := by simpa using h2
      simp [h1, h4]
theorem ah_astore_n (C : CC X p l R s m args meth c own cc nL ret) {k : Fin 4} (hd : decode cc pc = .ok (.astore_n k, 1)) (hn' : (k : Nat) < nL) (hok : okS lo k = true) (kk : AW X p l e R s m args below meth c nL Z f n cells slots (pc + 1) (lo.set k none) []) :
    ∀ (H : Heap) (locs : List Loc) (ls : Array Slot) (q : Addr), Rel X f H → H.size = X.1 + n → va_S (fun q => X.1 ≤ q) s.heap H locs → LH X.1 ls nL lo → W p l e R s m args below meth c H locs cells slots Z (F0 m pc ls [.ref q]) := by
  intro H locs ls q hR hn hS hl
  exact lv_astore_n C.1 C.2.1 hd rfl hl.has hn' rfl (fun ls' h' => kk H locs ls' hR hn hS (LH.put hok h'))
theorem ah_astore (C : CC X p l R s m args meth c own cc nL ret) {i : Nat} (hd : decode cc pc = .ok (.astore i, 2)) (hn' : i < nL) (hok : okS lo i = true) (kk : AW X p l e R s m args below meth c nL Z f n cells slots (pc + 2) (lo.set i none) []) :
    ∀ (H : Heap) (locs : List Loc) (ls : Array Slot) (q : Addr), Rel X f H → H.size = X.1 + n → va_S (fun q => X.1 ≤ q) s.heap H locs → LH X.1 ls nL lo → W p l e R s m args below meth c H locs cells slots Z (F0 m pc ls [.ref q]) := by
  intro H locs ls q hR hn hS hl
  exact lv_astore C.1 C.2.1 hd hl.has hn' rfl (fun ls' h' => kk H locs ls' hR hn hS (LH.put hok h'))
theorem aw_callSW (C : CC X p l R s m args meth c own cc nL ret) {idx : Nat} {y : MethodName} {bytes : ByteArray} {maxL : Nat} {ret' : Option FieldType} {hh : List (Nat × Nat × Nat × Nat)} {np fr : Nat} {st0 : List Value} (as : List Value) (g : MSW own idx y bytes maxL ret' hh np)
    (hM : AMW X l y bytes maxL ret' hh fr mc ms as f n Q) (he : st0 = as.reverse ++ st) (hd : decode cc pc = .ok (.invokestatic idx, 3)) (hfr : fr + 1 ≤ R.frames) (hlo : 8 + (maxL + 11) + 36 * fr ≤ R.locals) (hnp : as.length = np) (hstk : (st.map fun v => v.category).sum ≤ 8) (hc : cells + mc ≤ R.cells) (hs : slots + ms ≤ R.slots)
    (kk : ∀ (v : Option Value) (f' : AH) (n' : Nat), Q v f' n' → AW X p l e R s m args below meth c nL Z f' n' (cells + mc) (slots + ms) (pc + 3) lo (v.toList ++ st)) : AW X p l e R s m args below meth c nL Z f n cells slots pc lo st0 := by
  subst he
  refine aw_ofRun (a := (as.map (rn X.1)).toArray) (fun H locs ls hR hn hS hl => ?_) kk
  obtain ⟨g1, g2, g4, g5, g6⟩ := g
  have hts := C.2.2.2.2.1
  have hG : GoodIn ALLW (va_wsS own idx y (Cond.codeWith y bytes maxL ret' hh :: ALLW)) := ALLW_good (fun w hw => by
    simp only [va_wsS, List.cons_append, List.nil_append, List.mem_cons] at hw
    rcases hw with rfl | rfl | rfl | rfl | h
    · exact g1
    · exact g2
    · exact g4
    · exact g5
    · exact h)
  have := vx_runSW (hh := hh) (As := as.map (rn X.1)) (rest := st.map (rn X.1)) (g := F0 m pc ls ((as.reverse ++ st).map (rn X.1))) (locs := locs) (cells := cells) (slots := slots) (e := e) (below := below) (meth := meth) ⟨C.1, C.2.1, C.2.2.1, C.2.2.2.1, hts⟩ hM (vx_cwSW np hts hG rfl rfl rfl g6 ⟨hfr, hlo⟩) ⟨PreM.blind X _ f n, C.pre hR hn hS as⟩ rfl (by rw [List.length_map]; exact hnp) hl.1 (by simp) (lv_room (by rw [cat_rn]; exact hstk)) hd ⟨hc, hs⟩
  exact this
theorem aw_callIN (C : CC X p l R s m args meth c own cc nL ret) {idx : Nat} {y : MethodName} {bytes : ByteArray} {maxL : Nat} {np fr b : Nat} {st0 : List Value} (as : List Value) (g : MN own idx y bytes maxL none np) (gi : y.name = "<init>") (gi2 : Cond.instanceMethod y ∈ ALLW)
    (hM : AM X l y bytes maxL none fr mc ms (.ref b :: as) f n Q) (he : st0 = as.reverse ++ .ref b :: st) (hd : decode cc pc = .ok (.invokespecial idx, 3)) (hfr : fr + 1 ≤ R.frames) (hlo : 8 + (maxL + 11) + 36 * fr ≤ R.locals) (hnp : as.length = np) (hstk : (st.map fun v => v.category).sum ≤ 8) (hc : cells + mc ≤ R.cells) (hs : slots + ms ≤ R.slots)
    (kk : ∀ (v : Option Value) (f' : AH) (n' : Nat), Q v f' n' → AW X p l e R s m args below meth c nL Z f' n' (cells + mc) (slots + ms) (pc + 3) lo (v.toList ++ st)) : AW X p l e R s m args below meth c nL Z f n cells slots pc lo st0 := by
  subst he
  refine aw_ofRun (a := ((.ref b :: as).map (rn X.1)).toArray) (fun H locs ls hR hn hS hl => ?_) kk
  obtain ⟨g1, g4, g5, g6⟩ := g
  have hts := C.2.2.2.2.1
  have := va_runIN (b := X.1 + b) (As := as.map (rn X.1)) (rest := st.map (rn X.1)) (g := F0 m pc ls ((as.reverse ++ .ref b :: st).map (rn X.1))) (locs := locs) (cells := cells) (slots := slots) (e := e) (below := below) (meth := meth) ⟨C.1, C.2.1, C.2.2.1, C.2.2.2.1, hts⟩ hM ⟨va_cnB np hts (ALLW_all (fun _ h => h) g5) rfl rfl rfl (C.2.2.2.2.2.2.1.2.2.2.2.2.2.1 _ g1) (hts _ g4) g6 ⟨hfr, hlo⟩, gi, hts _ gi2⟩ ⟨PreM.blind X _ f n, C.pre hR hn hS (.ref b :: as)⟩ rfl (by rw [List.length_map]; exact hnp) hl.1 (by simp [rn]) (lv_room (by rw [cat_rn]; exact hstk)) hd ⟨hc, hs⟩
  exact this
theorem aw_callSN (C : CC X p l R s m args meth c own cc nL ret) {idx : Nat} {y : MethodName} {bytes : ByteArray} {maxL : Nat} {ret' : Option FieldType} {np fr : Nat} {st0 : List Value} (as : List Value) (g : MN own idx y bytes maxL ret' np) (gi2 : Cond.static y ∈ ALLW)
    (hM : AM X l y bytes maxL ret' fr mc ms as f n Q) (he : st0 = as.reverse ++ st) (hd : decode cc pc = .ok (.invokestatic idx, 3)) (hfr : fr + 1 ≤ R.frames) (hlo : 8 + (maxL + 11) + 36 * fr ≤ R.locals) (hnp : as.length = np) (hstk : (st.map fun v => v.category).sum ≤ 8) (hc : cells + mc ≤ R.cells) (hs : slots + ms ≤ R.slots)
    (kk : ∀ (v : Option Value) (f' : AH) (n' : Nat), Q v f' n' → AW X p l e R s m args below meth c nL Z f' n' (cells + mc) (slots + ms) (pc + 3) lo (v.toList ++ st)) : AW X p l e R s m args below meth c nL Z f n cells slots pc lo st0 := by
  subst he
  refine aw_ofRun (a := (as.map (rn X.1)).toArray) (fun H locs ls hR hn hS hl => ?_) kk
  obtain ⟨g1, g4, g5, g6⟩ := g
  have hts := C.2.2.2.2.1
  have := va_runSN (As := as.map (rn X.1)) (rest := st.map (rn X.1)) (g := F0 m pc ls ((as.reverse ++ st).map (rn X.1))) (locs := locs) (cells := cells) (slots := slots) (e := e) (below := below) (meth := meth) ⟨C.1, C.2.1, C.2.2.1, C.2.2.2.1, hts⟩ hM ⟨va_cnB np hts (ALLW_all (fun _ h => h) g5) rfl rfl rfl (C.2.2.2.2.2.2.1.2.2.2.2.2.2.1 _ g1) (hts _ g4) g6 ⟨hfr, hlo⟩, hts _ gi2, trivial⟩ ⟨PreM.blind X _ f n, C.pre hR hn hS as⟩ rfl (by rw [List.length_map]; exact hnp) hl.1 (by simp) (lv_room (by rw [cat_rn]; exact hstk)) hd ⟨hc, hs⟩
  exact this
end AWE
