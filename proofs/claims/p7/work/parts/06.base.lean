/-! The heap by ids: an id k is the cell at b + k, b the heap's size when the law begins. A cell is an array (kind of its class, length, contents) or an object (number of its class, fields). -/
def cvA (b n : Nat) : AA → vp_A
  | .inl g => (n, .inl g)
  | .inr (.inl g) => (n, .inr (.inl g))
  | .inr (.inr g) => (n, .inr (.inr (.inr (.inr fun j => (g j).map (fun k => b + k)))))
def cvE (X : GX) : AE → va_E
  | .inl (t, n, a) => .inl (X.2.2 t, cvA X.1 n a)
  | .inr (ci, fs) => .inr (ci, fs.map (rn X.1))
def Rel (X : GX) (f : AH) (H : Heap) : Prop := ∀ (i : Nat) (e : AE), f i = some e → va_at X.2.1 vwCl (X.1 + i, cvE X e) H
theorem Rel.lt {X : GX} {f : AH} {H : Heap} (h : Rel X f H) {i : Nat} {e : AE} (he : f i = some e) : X.1 + i < H.size := (h i e he).lt
theorem Rel.set {X : GX} {f : AH} {H H1 : Heap} (h : Rel X f H) {i : Nat} {e : AE} (ha : va_at X.2.1 vwCl (X.1 + i, cvE X e) H1) (hq : ∀ q, q ≠ X.1 + i → H1[q]? = H[q]?) : Rel X (va_up f i (some e)) H1 := by
  intro j e' hj
  by_cases hji : j = i
  · subst hji
    simp [va_up] at hj
    rw [← hj]; exact ha
  · simp only [va_up, if_neg hji] at hj
    exact (h j e' hj).kept (hq _ (by show X.1 + j ≠ _; omega))
theorem Rel.push {X : GX} {f : AH} {H H1 : Heap} (h : Rel X f H) {n : Nat} {e : AE} (hz : H.size = X.1 + n) (ha : va_at X.2.1 vwCl (X.1 + n, cvE X e) H1) (hq : ∀ q, q < H.size → H1[q]? = H[q]?) : Rel X (va_up f n (some e)) H1 := by
  intro j e' hj
  by_cases hji : j = n
  · subst hji
    simp [va_up] at hj
    rw [← hj]; exact ha
  · simp only [va_up, if_neg hji] at hj
    exact (h j e' hj).kept (hq _ (h.lt hj))
theorem Rel.sub {X : GX} {f f' : AH} {H : Heap} (h : Rel X f H) (hf : ∀ i e, f' i = some e → f i = some e) : Rel X f' H := fun i e he => h i e (hf i e he)
/-- the kinds of arrays -/
def tysX (X : GX) : List (ClassId × FieldType) := [(X.2.2 0, .int), (X.2.2 1, .object "PieceFiles$Piece"), (X.2.2 2, .object "PieceFiles$Row"), (X.2.2 3, .object "PieceFiles$State"), (X.2.2 4, .long)]
def tyN : Nat → FieldType
  | 0 => .int
  | 1 => .object "PieceFiles$Piece"
  | 2 => .object "PieceFiles$Row"
  | 3 => .object "PieceFiles$State"
  | _ => .long
abbrev ZU : String := "UNASSIGNED_STACK"
abbrev ZN : String := "SUPPRESSED_SENTINEL"
/-! texts -/
def sI9 : List Nat := [186, 192, 194, 373, 383, 385, 386, 388, 390, 392, 397, 402, 408, 410, 415]
def sT9 : List String := ["&lt;", "&gt;", "&amp;", "kind", "inner", "plain", "letters", "any", "least", "lock", "unlock", "free", "spread", "swap", "wipe"]
def sL9 : List Nat := [4, 4, 5, 4, 5, 5, 7, 3, 5, 4, 6, 4, 6, 4, 4]
def sB9 : List (List Int32) := [[38, 108, 116, 59], [38, 103, 116, 59], [38, 97, 109, 112, 59], [107, 105, 110, 100], [105, 110, 110, 101, 114], [112, 108, 97, 105, 110], [108, 101, 116, 116, 101, 114, 115], [97, 110, 121], [108, 101, 97, 115, 116], [108, 111, 99, 107], [117, 110, 108, 111, 99, 107], [102, 114, 101, 101], [115, 112, 114, 101, 97, 100], [115, 119, 97, 112], [119, 105, 112, 101]]
def sI4 : List Nat := [66, 68, 70, 72, 74, 76, 78, 80, 82, 84, 86, 88]
def sT4 : List String := ["kind", "inner", "plain", "letters", "any", "least", "lock", "unlock", "free", "spread", "swap", "wipe"]
def sL4 : List Nat := [4, 5, 5, 7, 3, 5, 4, 6, 4, 6, 4, 4]
def sB4 : List (List Int32) := [[107, 105, 110, 100], [105, 110, 110, 101, 114], [112, 108, 97, 105, 110], [108, 101, 116, 116, 101, 114, 115], [97, 110, 121], [108, 101, 97, 115, 116], [108, 111, 99, 107], [117, 110, 108, 111, 99, 107], [102, 114, 101, 101], [115, 112, 114, 101, 97, 100], [115, 119, 97, 112], [119, 105, 112, 101]]
/-- the texts of a class: N of them, lengths and bytes; their addresses stand in X from oK on, those of their bytes from oV on -/
def STRW (own : String) (N : Nat) (len : List Nat) (byt : List (List Int32)) (ix : List Nat) (tx : List String) (oK oV : Nat) (X : GX) (U : State) : Prop := vk_S N len byt (fun i => X.2.2 (oK + i)) (fun i => X.2.2 (oV + i)) (fun q => X.1 ≤ q) U U.heap ∧ ∀ i, i < N → vk_R own (ix.getD i 0) (tx.getD i "") (X.2.2 (oK + i)) U
theorem STRW.moved {own : String} {N : Nat} {len : List Nat} {byt : List (List Int32)} {ix : List Nat} {tx : List String} {oK oV : Nat} {X : GX} {s U : State} (h : STRW own N len byt ix tx oK oV X s) (hW : s.WarmedH U.vm) (hk : ∀ q : Nat, q < s.heap.size → ¬ X.1 ≤ q → U.heap[q]? = s.heap[q]?) : STRW own N len byt ix tx oK oV X U := ⟨vk_S.kept (vk_S.moved hW.alike h.1) hk, fun i hi => vk_R.warm hW (h.2 i hi)⟩
abbrev zC : String := "COMPACT_STRINGS"
abbrev zF : String := "SIOOBE_FORMATTER"
abbrev zP : String := "jdk/internal/util/Preconditions"
abbrev zD : String := "Ljava/util/function/BiFunction;"
abbrev zS : String := "java/lang/String"
def STRX (X : GX) (U : State) : Prop := STRW "PieceFilesModel" 15 sL9 sB9 sI9 sT9 1000 2000 X U ∧ STRW "PieceFiles$Reader" 12 sL4 sB4 sI4 sT4 3000 4000 X U ∧ va_Z zS zC "Z" (.int 1) (fun q => X.1 ≤ q) U U.heap ∧ va_Zq zP zF zD (fun q => X.1 ≤ q) U U.heap
theorem STRX.moved {X : GX} {s U : State} (h : STRX X s) (hW : s.WarmedH U.vm) (hk : ∀ q : Nat, q < s.heap.size → ¬ X.1 ≤ q → U.heap[q]? = s.heap[q]?) : STRX X U := ⟨h.1.moved hW hk, h.2.1.moved hW hk, va_Z.kept (va_Z.moved hW.alike h.2.2.1) hk, va_Zq.kept (va_Zq.moved hW.alike h.2.2.2) hk⟩
/-- what holds of the machine at the entry of every method -/
def GG (X : GX) (U : State) : Prop := va_K X.2.1 vwCl (tysX X) U ∧ vx_Zq Bundle.tN ZU Bundle.steD (fun q => X.1 ≤ q) U U.heap ∧ vx_Zq Bundle.tN ZN Bundle.listD (fun q => X.1 ≤ q) U U.heap ∧ X.1 ≤ U.heap.size ∧ (va_AO "PieceFiles$Piece" U ∧ va_AO "PieceFiles$Row" U ∧ va_AO "PieceFiles$State" U) ∧ (∀ q ∈ strsX, ∃ sa, vk_R q.1 q.2.1 q.2.2 sa U) ∧ (∀ w ∈ xW, va_Nw w U) ∧ ((∀ q ∈ ncX, va_Nc q.1 q.2 U) ∧ STRX X U)
theorem GG.moved {X : GX} {s U : State} (h : GG X s) (hW : s.WarmedH U.vm) (hz : s.heap.size ≤ U.heap.size) (hk : ∀ q : Nat, q < s.heap.size → ¬ X.1 ≤ q → U.heap[q]? = s.heap[q]?) : GG X U :=
  ⟨va_K.moved hW.alike h.1, vx_Zq.kept (vx_Zq.moved hW.alike h.2.1) hk, vx_Zq.kept (vx_Zq.moved hW.alike h.2.2.1) hk, Nat.le_trans h.2.2.2.1 hz, ⟨va_AO.moved hW.alike h.2.2.2.2.1.1, va_AO.moved hW.alike h.2.2.2.2.1.2.1, va_AO.moved hW.alike h.2.2.2.2.1.2.2⟩, fun q hq => (h.2.2.2.2.2.1 q hq).elim fun sa hs => ⟨sa, vk_R.warm hW hs⟩, fun w hw => xW_warm hW hw (h.2.2.2.2.2.2.1 w hw), ⟨fun q hq => va_Nc.moved hW.alike (h.2.2.2.2.2.2.2.1 q hq), h.2.2.2.2.2.2.2.2.moved hW hk⟩⟩
theorem GG.S {X : GX} {s U : State} {H : Heap} {locs : List Loc} (h : GG X s) (hW : s.WarmedH U.vm) (hS : va_S (fun q => X.1 ≤ q) s.heap H locs) (hU : U.heap = H) : GG X U :=
  h.moved hW (by rw [hU]; exact hS.1) (fun q h1 h2 => by rw [hU]; exact hS.2.1 q h1 h2)
theorem tyN_at (X : GX) {t : Nat} (h : t < 5) : (tysX X)[t]? = some (X.2.2 t, tyN t) := by
  match t, h with
  | 0, _ => rfl
  | 1, _ => rfl
  | 2, _ => rfl
  | 3, _ => rfl
  | 4, _ => rfl
/-- locals by their places -/
def LH (b : Nat) (ls : Array Slot) (nL : Nat) (lo : List (Option Value)) : Prop := ls.size = nL ∧ lv_wf ls ∧ ∀ (i : Nat) (v : Value), lo[i]? = some (some v) → ls[i]? = some (.val (rn b v))
def prs (b : Nat) (lo : List (Option Value)) : List (Nat × Value) := (List.range lo.length).filterMap fun i => match lo[i]? with
  | some (some v) => some (i, rn b v)
  | _ => none
theorem prs_mem {b : Nat} {lo : List (Option Value)} {i : Nat} {v : Value} (h : lo[i]? = some (some v)) : (i, rn b v) ∈ prs b lo := by
  have hl : i < lo.length := (List.getElem?_eq_some_iff.mp h).1
  exact List.mem_filterMap.mpr ⟨i, List.mem_range.mpr hl, by simp only [h]⟩
theorem prs_of {b : Nat} {lo : List (Option Value)} {q : Nat × Value} (h : q ∈ prs b lo) : ∃ v, lo[q.1]? = some (some v) ∧ q.2 = rn b v := by
  obtain ⟨i, -, hi⟩ := List.mem_filterMap.mp h
  split at hi
  · rename_i v hv
    cases hi
    exact ⟨v, hv, rfl⟩
  · cases hi
theorem LH.has {b : Nat} {ls : Array Slot} {nL : Nat} {lo : List (Option Value)} (h : LH b ls nL lo) : lv_has ls nL (prs b lo) := ⟨h.1, h.2.1, fun q hq => by
  obtain ⟨v, h1, h2⟩ := prs_of hq
  rw [h2]; exact h.2.2 _ _ h1⟩
/-- a store at i hurts no long ahead of it -/
def okS (lo : List (Option Value)) : Nat → Bool
  | 0 => true
  | k + 1 => match lo[k]? with
    | some (some v) => v.category == 1
    | _ => true
theorem LH.st1 {b : Nat} {ls' : Array Slot} {nL i : Nat} {lo : List (Option Value)} {v : Value} (hok : okS lo i = true) (h : lv_has ls' nL ((i, rn b v) :: (prs b lo).filter (fun q => !(q.1 == i) && !(q.1 + 1 == i && q.2.category == 2)))) : LH b ls' nL (lo.set i (some v)) := by
  refine ⟨h.1, h.2.1, fun j w hj => ?_⟩
  by_cases hji : j = i
  · subst hji
    have hl : j < lo.length := by
      have := (List.getElem?_eq_some_iff.mp hj).1
      simpa using this
    rw [List.getElem?_set_self hl] at hj
    cases hj
    exact h.2.2 (j, rn b v) List.mem_cons_self
  · rw [List.getElem?_set_ne (Ne.symm hji)] at hj
    refine h.2.2 (j, rn b w) (List.mem_cons_of_mem _ (List.mem_filter.mpr ⟨prs_mem hj, ?_⟩))
    have h1 : (j == i) = false := by simpa using hji
    by_cases h2 : j + 1 = i
    · subst h2
      simp only [okS, hj] at hok
      have h3 : w.category = 1 := by simpa using hok
      simp [h1, rn_cat, h3]
    · have h4 : (j + 1 == i) = false := by simpa using h2
      simp [h1, h4]
theorem LH.st2 {b : Nat} {ls' : Array Slot} {nL i : Nat} {lo : List (Option Value)} {v : Value} (hok : okS lo i = true) (h : lv_has ls' nL ((i, rn b v) :: (prs b lo).filter (fun q => !(q.1 == i) && (!(q.1 == i + 1) && !(q.1 + 1 == i && q.2.category == 2))))) : LH b ls' nL ((lo.set i (some v)).set (i + 1) none) := by
  refine ⟨h.1, h.2.1, fun j w hj => ?_⟩
  by_cases hj1 : j = i + 1
  · subst hj1
    rw [List.getElem?_set] at hj
    simp at hj
  · rw [List.getElem?_set_ne (Ne.symm hj1)] at hj
    by_cases hji : j = i
    · subst hji
      have hl : j < lo.length := by
        have := (List.getElem?_eq_some_iff.mp hj).1
        simpa using this
      rw [List.getElem?_set_self hl] at hj
      cases hj
      exact h.2.2 (j, rn b v) List.mem_cons_self
    · rw [List.getElem?_set_ne (Ne.symm hji)] at hj
      refine h.2.2 (j, rn b w) (List.mem_cons_of_mem _ (List.mem_filter.mpr ⟨prs_mem hj, ?_⟩))
      have h1 : (j == i) = false := by simpa using hji
      have h5 : (j == i + 1) = false := by simpa using hj1
      by_cases h2 : j + 1 = i
      · subst h2
        simp only [okS, hj] at hok
        have h3 : w.category = 1 := by simpa using hok
        simp [h1, h5, rn_cat, h3]
      · have h4 : (j + 1 == i) = false := by simpa using h2
        simp [h1, h4, h5]
/-- the machine and the method, in one word -/
def CC (X : GX) (p : Program) (l : Launch) (R : Room) (s : State) (m : MethodId) (args : Array Value) (meth : Method) (c : Code) (own : String) (cc : ByteArray) (nL : Nat) (ret : Option FieldType) : Prop :=
  p.tables.exec = Jvm.exec ∧ c.code = cc ∧ c.maxLocals = nL ∧ s.vm.findClass own = some m.cls ∧ (∀ w ∈ ALLW, w.before args s = true) ∧ meth.locks = false ∧ GG X s ∧ meth.sig.returnType = ret
/-- the walk, seen by ids -/
def AW (X : GX) (p : Program) (l : Launch) (e : Env) (R : Room) (s : State) (m : MethodId) (args : Array Value) (below : List Frame) (meth : Method) (c : Code) (nL : Nat) (Z : State → Prop) (f : AH) (n cells slots pc : Nat) (lo : List (Option Value)) (st : List Value) : Prop :=
  ∀ (H : Heap) (locs : List Loc) (ls : Array Slot), Rel X f H → H.size = X.1 + n → va_S (fun q => X.1 ≤ q) s.heap H locs → LH X.1 ls nL lo → W p l e R s m args below meth c H locs cells slots Z (F0 m pc ls (st.map (rn X.1)))
section AWS
variable {X : GX} {p : Program} {l : Launch} {e : Env} {R : Room} {s : State} {m : MethodId} {args : Array Value} {below : List Frame} {meth : Method} {c : Code} {own : String} {cc : ByteArray} {nL : Nat} {ret : Option FieldType} {Z : State → Prop} {f : AH} {n cells slots pc : Nat} {lo : List (Option Value)} {st : List Value}
theorem aw_wide {k j : Nat} (h1 : cells ≤ k) (h2 : slots ≤ j) (kk : AW X p l e R s m args below meth c nL Z f n k j pc lo st) : AW X p l e R s m args below meth c nL Z f n cells slots pc lo st :=
  fun H locs ls hR hn hS hl => W.widen h1 h2 (kk H locs ls hR hn hS hl)
theorem aw_heap {f' : AH} (hf : ∀ i a, f' i = some a → f i = some a) (kk : AW X p l e R s m args below meth c nL Z f' n cells slots pc lo st) : AW X p l e R s m args below meth c nL Z f n cells slots pc lo st :=
  fun H locs ls hR hn hS hl => kk H locs ls (hR.sub hf) hn hS hl
theorem aw_lo {lo' : List (Option Value)} (hlo : ∀ (i : Nat) (v : Value), lo'[i]? = some (some v) → lo[i]? = some (some v)) (kk : AW X p l e R s m args below meth c nL Z f n cells slots pc lo' st) : AW X p l e R s m args below meth c nL Z f n cells slots pc lo st :=
  fun H locs ls hR hn hS hl => kk H locs ls hR hn hS ⟨hl.1, hl.2.1, fun i v h => hl.2.2 i v (hlo i v h)⟩
theorem aw_iconst (C : CC X p l R s m args meth c own cc nL ret) {a : Int} (w : Int32) (hd : decode cc pc = .ok (.iconst a, 1)) (hv : Int32.ofInt a = w) (k0 : AW X p l e R s m args below meth c nL Z f n cells slots (pc + 1) lo (.int w :: st)) : AW X p l e R s m args below meth c nL Z f n cells slots pc lo st := by
  intro H locs ls hR hn hS hl
  exact lv_iconst C.1 C.2.1 hd hv (k0 H locs ls hR hn hS hl)
theorem aw_bipush (C : CC X p l R s m args meth c own cc nL ret) {a : Int} (w : Int32) (hd : decode cc pc = .ok (.bipush a, 2)) (hv : (Int8.ofInt a).toInt32 = w) (k0 : AW X p l e R s m args below meth c nL Z f n cells slots (pc + 2) lo (.int w :: st)) : AW X p l e R s m args below meth c nL Z f n cells slots pc lo st := by
  intro H locs ls hR hn hS hl
  exact lv_bipush C.1 C.2.1 hd hv (k0 H locs ls hR hn hS hl)
theorem aw_sipush (C : CC X p l R s m args meth c own cc nL ret) {a : Int} (w : Int32) (hd : decode cc pc = .ok (.sipush a, 3)) (hv : (Int16.ofInt a).toInt32 = w) (k0 : AW X p l e R s m args below meth c nL Z f n cells slots (pc + 3) lo (.int w :: st)) : AW X p l e R s m args below meth c nL Z f n cells slots pc lo st := by
  intro H locs ls hR hn hS hl
  exact lv_sipush C.1 C.2.1 hd hv (k0 H locs ls hR hn hS hl)
theorem aw_lconst (C : CC X p l R s m args meth c own cc nL ret) {a : Fin 2} (w : Int64) (hd : decode cc pc = .ok (.lconst a, 1)) (hv : Int64.ofNat (a : Nat) = w) (k0 : AW X p l e R s m args below meth c nL Z f n cells slots (pc + 1) lo (.long w :: st)) : AW X p l e R s m args below meth c nL Z f n cells slots pc lo st := by
  intro H locs ls hR hn hS hl
  exact lv_lconst C.1 C.2.1 hd hv (k0 H locs ls hR hn hS hl)
theorem aw_null (C : CC X p l R s m args meth c own cc nL ret) (hd : decode cc pc = .ok (.aconst_null, 1)) (k0 : AW X p l e R s m args below meth c nL Z f n cells slots (pc + 1) lo (.null :: st)) : AW X p l e R s m args below meth c nL Z f n cells slots pc lo st := by
  intro H locs ls hR hn hS hl
  exact lv_null C.1 C.2.1 hd (k0 H locs ls hR hn hS hl)
theorem aw_iload_n (C : CC X p l R s m args meth c own cc nL ret) {k : Fin 4} {x : Int32} (hd : decode cc pc = .ok (.iload_n k, 1)) (hl' : lo[(k : Nat)]? = some (some (.int x))) (k0 : AW X p l e R s m args below meth c nL Z f n cells slots (pc + 1) lo (.int x :: st)) : AW X p l e R s m args below meth c nL Z f n cells slots pc lo st := by
  intro H locs ls hR hn hS hl
  exact lv_iload_n C.1 C.2.1 hd rfl (hl.2.2 _ _ hl') (k0 H locs ls hR hn hS hl)
theorem aw_iload (C : CC X p l R s m args meth c own cc nL ret) {i : Nat} {x : Int32} (hd : decode cc pc = .ok (.iload i, 2)) (hl' : lo[i]? = some (some (.int x))) (k0 : AW X p l e R s m args below meth c nL Z f n cells slots (pc + 2) lo (.int x :: st)) : AW X p l e R s m args below meth c nL Z f n cells slots pc lo st := by
  intro H locs ls hR hn hS hl
  exact lv_iload C.1 C.2.1 hd (hl.2.2 _ _ hl') (k0 H locs ls hR hn hS hl)
theorem aw_lload_n (C : CC X p l R s m args meth c own cc nL ret) {k : Fin 4} {x : Int64} (hd : decode cc pc = .ok (.lload_n k, 1)) (hl' : lo[(k : Nat)]? = some (some (.long x))) (k0 : AW X p l e R s m args below meth c nL Z f n cells slots (pc + 1) lo (.long x :: st)) : AW X p l e R s m args below meth c nL Z f n cells slots pc lo st := by
  intro H locs ls hR hn hS hl
  exact lv_lload_n C.1 C.2.1 hd rfl (hl.2.2 _ _ hl') (k0 H locs ls hR hn hS hl)
theorem aw_lload (C : CC X p l R s m args meth c own cc nL ret) {i : Nat} {x : Int64} (hd : decode cc pc = .ok (.lload i, 2)) (hl' : lo[i]? = some (some (.long x))) (k0 : AW X p l e R s m args below meth c nL Z f n cells slots (pc + 2) lo (.long x :: st)) : AW X p l e R s m args below meth c nL Z f n cells slots pc lo st := by
  intro H locs ls hR hn hS hl
  exact lv_lload C.1 C.2.1 hd (hl.2.2 _ _ hl') (k0 H locs ls hR hn hS hl)
theorem aw_aload_n (C : CC X p l R s m args meth c own cc nL ret) {k : Fin 4} {v : Value} (hd : decode cc pc = .ok (.aload_n k, 1)) (hl' : lo[(k : Nat)]? = some (some v)) (hv : v = .null ∨ ∃ a, v = .ref a) (k0 : AW X p l e R s m args below meth c nL Z f n cells slots (pc + 1) lo (v :: st)) : AW X p l e R s m args below meth c nL Z f n cells slots pc lo st := by
  intro H locs ls hR hn hS hl
  rcases hv with rfl | ⟨a, rfl⟩
  · exact lv_aload_nN C.1 C.2.1 hd rfl (hl.2.2 _ _ hl') (k0 H locs ls hR hn hS hl)
  · exact lv_aload_n C.1 C.2.1 hd rfl (hl.2.2 _ _ hl') (k0 H locs ls hR hn hS hl)
theorem aw_aload (C : CC X p l R s m args meth c own cc nL ret) {i : Nat} {v : Value} (hd : decode cc pc = .ok (.aload i, 2)) (hl' : lo[i]? = some (some v)) (hv : v = .null ∨ ∃ a, v = .ref a) (k0 : AW X p l e R s m args below meth c nL Z f n cells slots (pc + 2) lo (v :: st)) : AW X p l e R s m args below meth c nL Z f n cells slots pc lo st := by
  intro H locs ls hR hn hS hl
  rcases hv with rfl | ⟨a, rfl⟩
  · exact lv_aloadN C.1 C.2.1 hd (hl.2.2 _ _ hl') (k0 H locs ls hR hn hS hl)
  · exact lv_aload C.1 C.2.1 hd (hl.2.2 _ _ hl') (k0 H locs ls hR hn hS hl)
theorem aw_ald_n (C : CC X p l R s m args meth c own cc nL ret) {k : Fin 4} {a : Nat} (hd : decode cc pc = .ok (.aload_n k, 1)) (hl' : lo[(k : Nat)]? = some (some (.ref a))) (k0 : AW X p l e R s m args below meth c nL Z f n cells slots (pc + 1) lo (.ref a :: st)) : AW X p l e R s m args below meth c nL Z f n cells slots pc lo st := by
  intro H locs ls hR hn hS hl
  exact lv_aload_n C.1 C.2.1 hd rfl (hl.2.2 _ _ hl') (k0 H locs ls hR hn hS hl)
theorem aw_ald (C : CC X p l R s m args meth c own cc nL ret) {i : Nat} {a : Nat} (hd : decode cc pc = .ok (.aload i, 2)) (hl' : lo[i]? = some (some (.ref a))) (k0 : AW X p l e R s m args below meth c nL Z f n cells slots (pc + 2) lo (.ref a :: st)) : AW X p l e R s m args below meth c nL Z f n cells slots pc lo st := by
  intro H locs ls hR hn hS hl
  exact lv_aload C.1 C.2.1 hd (hl.2.2 _ _ hl') (k0 H locs ls hR hn hS hl)
theorem aw_raw_n (C : CC X p l R s m args meth c own cc nL ret) {k : Fin 4} {a : Nat} (hd : decode cc pc = .ok (.aload_n k, 1)) (hl' : lo[(k : Nat)]? = some (some (.retAddr a))) (k0 : AW X p l e R s m args below meth c nL Z f n cells slots (pc + 1) lo (.retAddr a :: st)) : AW X p l e R s m args below meth c nL Z f n cells slots pc lo st := by
  intro H locs ls hR hn hS hl
  exact lv_aload_n C.1 C.2.1 hd rfl (hl.2.2 _ _ hl') (k0 H locs ls hR hn hS hl)
theorem ae_iadd (C : CC X p l R s m args meth c own cc nL ret) {x y : Int32} (w : Int32) (hd : decode cc pc = .ok (.iadd, 1)) (hw : x + y = w) (k0 : AW X p l e R s m args below meth c nL Z f n cells slots (pc + 1) lo (.int w :: st)) : AW X p l e R s m args below meth c nL Z f n cells slots pc lo (.int y :: .int x :: st) := by
  intro H locs ls hR hn hS hl
  subst hw
  exact lv_iadd C.1 C.2.1 hd (k0 H locs ls hR hn hS hl)
theorem ae_isub (C : CC X p l R s m args meth c own cc nL ret) {x y : Int32} (w : Int32) (hd : decode cc pc = .ok (.isub, 1)) (hw : x - y = w) (k0 : AW X p l e R s m args below meth c nL Z f n cells slots (pc + 1) lo (.int w :: st)) : AW X p l e R s m args below meth c nL Z f n cells slots pc lo (.int y :: .int x :: st) := by
  intro H locs ls hR hn hS hl
  subst hw
  exact lv_isub C.1 C.2.1 hd (k0 H locs ls hR hn hS hl)
theorem ae_imul (C : CC X p l R s m args meth c own cc nL ret) {x y : Int32} (w : Int32) (hd : decode cc pc = .ok (.imul, 1)) (hw : x * y = w) (k0 : AW X p l e R s m args below meth c nL Z f n cells slots (pc + 1) lo (.int w :: st)) : AW X p l e R s m args below meth c nL Z f n cells slots pc lo (.int y :: .int x :: st) := by
  intro H locs ls hR hn hS hl
  subst hw
  exact lv_imul C.1 C.2.1 hd (k0 H locs ls hR hn hS hl)
theorem ae_iand (C : CC X p l R s m args meth c own cc nL ret) {x y : Int32} (w : Int32) (hd : decode cc pc = .ok (.iand, 1)) (hw : x &&& y = w) (k0 : AW X p l e R s m args below meth c nL Z f n cells slots (pc + 1) lo (.int w :: st)) : AW X p l e R s m args below meth c nL Z f n cells slots pc lo (.int y :: .int x :: st) := by
  intro H locs ls hR hn hS hl
  subst hw
  exact lv_iand C.1 C.2.1 hd (k0 H locs ls hR hn hS hl)
theorem ae_ior (C : CC X p l R s m args meth c own cc nL ret) {x y : Int32} (w : Int32) (hd : decode cc pc = .ok (.ior, 1)) (hw : x ||| y = w) (k0 : AW X p l e R s m args below meth c nL Z f n cells slots (pc + 1) lo (.int w :: st)) : AW X p l e R s m args below meth c nL Z f n cells slots pc lo (.int y :: .int x :: st) := by
  intro H locs ls hR hn hS hl
  subst hw
  exact lv_ior C.1 C.2.1 hd (k0 H locs ls hR hn hS hl)
theorem ae_ishl (C : CC X p l R s m args meth c own cc nL ret) {x y : Int32} (w : Int32) (hd : decode cc pc = .ok (.ishl, 1)) (hw : x <<< (y &&& 31) = w) (k0 : AW X p l e R s m args below meth c nL Z f n cells slots (pc + 1) lo (.int w :: st)) : AW X p l e R s m args below meth c nL Z f n cells slots pc lo (.int y :: .int x :: st) := by
  intro H locs ls hR hn hS hl
  subst hw
  exact lv_ishl C.1 C.2.1 hd (k0 H locs ls hR hn hS hl)
theorem ae_ishr (C : CC X p l R s m args meth c own cc nL ret) {x y : Int32} (w : Int32) (hd : decode cc pc = .ok (.ishr, 1)) (hw : x >>> (y &&& 31) = w) (k0 : AW X p l e R s m args below meth c nL Z f n cells slots (pc + 1) lo (.int w :: st)) : AW X p l e R s m args below meth c nL Z f n cells slots pc lo (.int y :: .int x :: st) := by
  intro H locs ls hR hn hS hl
  subst hw
  exact lv_ishr C.1 C.2.1 hd (k0 H locs ls hR hn hS hl)
theorem ae_iushr (C : CC X p l R s m args meth c own cc nL ret) {x y : Int32} (w : Int32) (hd : decode cc pc = .ok (.iushr, 1)) (hw : (x.toUInt32 >>> (y.toUInt32 &&& Int32.toUInt32 31)).toInt32 = w) (k0 : AW X p l e R s m args below meth c nL Z f n cells slots (pc + 1) lo (.int w :: st)) : AW X p l e R s m args below meth c nL Z f n cells slots pc lo (.int y :: .int x :: st) := by
  intro H locs ls hR hn hS hl
  exact lv_iushr C.1 C.2.1 hd hw (k0 H locs ls hR hn hS hl)
theorem ae_irem (C : CC X p l R s m args meth c own cc nL ret) {x y : Int32} (w : Int32) (hd : decode cc pc = .ok (.irem, 1)) (hne : ¬ y = 0) (hw : x - x / y * y = w) (k0 : AW X p l e R s m args below meth c nL Z f n cells slots (pc + 1) lo (.int w :: st)) : AW X p l e R s m args below meth c nL Z f n cells slots pc lo (.int y :: .int x :: st) := by
  intro H locs ls hR hn hS hl
  subst hw
  exact lv_irem C.1 C.2.1 hd hne (k0 H locs ls hR hn hS hl)
theorem aw_istore_n (C : CC X p l R s m args meth c own cc nL ret) {k : Fin 4} {x : Int32} (hd : decode cc pc = .ok (.istore_n k, 1)) (hn' : (k : Nat) < nL) (hok : okS lo k = true) (k0 : AW X p l e R s m args below meth c nL Z f n cells slots (pc + 1) (lo.set k (some (.int x))) st) : AW X p l e R s m args below meth c nL Z f n cells slots pc lo (.int x :: st) := by
  intro H locs ls hR hn hS hl
  exact lv_istore_n C.1 C.2.1 hd rfl hl.has hn' rfl (fun ls' h' => (k0 H locs ls' hR hn hS (LH.st1 hok h')))
theorem aw_istore (C : CC X p l R s m args meth c own cc nL ret) {i : Nat} {x : Int32} (hd : decode cc pc = .ok (.istore i, 2)) (hn' : i < nL) (hok : okS lo i = true) (k0 : AW X p l e R s m args below meth c nL Z f n cells slots (pc + 2) (lo.set i (some (.int x))) st) : AW X p l e R s m args below meth c nL Z f n cells slots pc lo (.int x :: st) := by
  intro H locs ls hR hn hS hl
  exact lv_istore C.1 C.2.1 hd hl.has hn' rfl (fun ls' h' => (k0 H locs ls' hR hn hS (LH.st1 hok h')))
theorem aw_astore_n (C : CC X p l R s m args meth c own cc nL ret) {k : Fin 4} {v : Value} (hd : decode cc pc = .ok (.astore_n k, 1)) (hn' : (k : Nat) < nL) (hok : okS lo k = true) (hv : v = .null ∨ ∃ a, v = .ref a) (k0 : AW X p l e R s m args below meth c nL Z f n cells slots (pc + 1) (lo.set k (some v)) st) : AW X p l e R s m args below meth c nL Z f n cells slots pc lo (v :: st) := by
  intro H locs ls hR hn hS hl
  rcases hv with rfl | ⟨a, rfl⟩
  · exact lv_astore_nN C.1 C.2.1 hd rfl hl.has hn' rfl (fun ls' h' => (k0 H locs ls' hR hn hS (LH.st1 hok h')))
  · exact lv_astore_n C.1 C.2.1 hd rfl hl.has hn' rfl (fun ls' h' => (k0 H locs ls' hR hn hS (LH.st1 hok h')))
theorem aw_astore (C : CC X p l R s m args meth c own cc nL ret) {i : Nat} {v : Value} (hd : decode cc pc = .ok (.astore i, 2)) (hn' : i < nL) (hok : okS lo i = true) (hv : v = .null ∨ ∃ a, v = .ref a) (k0 : AW X p l e R s m args below meth c nL Z f n cells slots (pc + 2) (lo.set i (some v)) st) : AW X p l e R s m args below meth c nL Z f n cells slots pc lo (v :: st) := by
  intro H locs ls hR hn hS hl
  rcases hv with rfl | ⟨a, rfl⟩
  · exact lv_astoreN C.1 C.2.1 hd hl.has hn' rfl (fun ls' h' => (k0 H locs ls' hR hn hS (LH.st1 hok h')))
  · exact lv_astore C.1 C.2.1 hd hl.has hn' rfl (fun ls' h' => (k0 H locs ls' hR hn hS (LH.st1 hok h')))
theorem aw_lstore_n (C : CC X p l R s m args meth c own cc nL ret) {k : Fin 4} {x : Int64} (hd : decode cc pc = .ok (.lstore_n k, 1)) (hn' : (k : Nat) + 1 < nL) (hok : okS lo k = true) (k0 : AW X p l e R s m args below meth c nL Z f n cells slots (pc + 1) ((lo.set k (some (.long x))).set (k + 1) none) st) : AW X p l e R s m args below meth c nL Z f n cells slots pc lo (.long x :: st) := by
  intro H locs ls hR hn hS hl
  exact lv_lstore_n C.1 C.2.1 hd rfl hl.has hn' rfl (fun ls' h' => (k0 H locs ls' hR hn hS (LH.st2 hok h')))
theorem aw_lstore (C : CC X p l R s m args meth c own cc nL ret) {i : Nat} {x : Int64} (hd : decode cc pc = .ok (.lstore i, 2)) (hn' : i + 1 < nL) (hok : okS lo i = true) (k0 : AW X p l e R s m args below meth c nL Z f n cells slots (pc + 2) ((lo.set i (some (.long x))).set (i + 1) none) st) : AW X p l e R s m args below meth c nL Z f n cells slots pc lo (.long x :: st) := by
  intro H locs ls hR hn hS hl
  exact lv_lstore C.1 C.2.1 hd hl.has hn' rfl (fun ls' h' => (k0 H locs ls' hR hn hS (LH.st2 hok h')))
theorem prs_at {b : Nat} {lo : List (Option Value)} {i : Nat} {v : Value} (h : lo[i]? = some (some v)) : ∃ k : Nat, (prs b lo)[k]? = some (i, rn b v) := List.getElem?_of_mem (prs_mem h)
theorem aw_iinc (C : CC X p l R s m args meth c own cc nL ret) {i : Nat} {a : Int} {x : Int32} (w : Int32) (hd : decode cc pc = .ok (.iinc i a, 3)) (hl' : lo[i]? = some (some (.int x))) (hv : x + Int32.ofInt a = w) (hn' : i < nL) (hok : okS lo i = true) (k0 : AW X p l e R s m args below meth c nL Z f n cells slots (pc + 3) (lo.set i (some (.int w))) st) : AW X p l e R s m args below meth c nL Z f n cells slots pc lo st := by
  intro H locs ls hR hn hS hl
  obtain ⟨k9, hk9⟩ := prs_at (b := X.1) hl'
  exact lv_iinc C.1 C.2.1 hd hl.has hk9 hv hn' rfl (fun ls' h' => (k0 H locs ls' hR hn hS (LH.st1 (v := .int w) hok h')))
theorem aw_iadd (C : CC X p l R s m args meth c own cc nL ret) {x y : Int32} (hd : decode cc pc = .ok (.iadd, 1)) (k0 : AW X p l e R s m args below meth c nL Z f n cells slots (pc + 1) lo (.int (x + y) :: st)) : AW X p l e R s m args below meth c nL Z f n cells slots pc lo (.int y :: .int x :: st) := by
  intro H locs ls hR hn hS hl
  exact lv_iadd C.1 C.2.1 hd (k0 H locs ls hR hn hS hl)
theorem aw_isub (C : CC X p l R s m args meth c own cc nL ret) {x y : Int32} (hd : decode cc pc = .ok (.isub, 1)) (k0 : AW X p l e R s m args below meth c nL Z f n cells slots (pc + 1) lo (.int (x - y) :: st)) : AW X p l e R s m args below meth c nL Z f n cells slots pc lo (.int y :: .int x :: st) := by
  intro H locs ls hR hn hS hl
  exact lv_isub C.1 C.2.1 hd (k0 H locs ls hR hn hS hl)
theorem aw_imul (C : CC X p l R s m args meth c own cc nL ret) {x y : Int32} (hd : decode cc pc = .ok (.imul, 1)) (k0 : AW X p l e R s m args below meth c nL Z f n cells slots (pc + 1) lo (.int (x * y) :: st)) : AW X p l e R s m args below meth c nL Z f n cells slots pc lo (.int y :: .int x :: st) := by
  intro H locs ls hR hn hS hl
  exact lv_imul C.1 C.2.1 hd (k0 H locs ls hR hn hS hl)
theorem aw_iand (C : CC X p l R s m args meth c own cc nL ret) {x y : Int32} (hd : decode cc pc = .ok (.iand, 1)) (k0 : AW X p l e R s m args below meth c nL Z f n cells slots (pc + 1) lo (.int (x &&& y) :: st)) : AW X p l e R s m args below meth c nL Z f n cells slots pc lo (.int y :: .int x :: st) := by
  intro H locs ls hR hn hS hl
  exact lv_iand C.1 C.2.1 hd (k0 H locs ls hR hn hS hl)
theorem aw_ior (C : CC X p l R s m args meth c own cc nL ret) {x y : Int32} (hd : decode cc pc = .ok (.ior, 1)) (k0 : AW X p l e R s m args below meth c nL Z f n cells slots (pc + 1) lo (.int (x ||| y) :: st)) : AW X p l e R s m args below meth c nL Z f n cells slots pc lo (.int y :: .int x :: st) := by
  intro H locs ls hR hn hS hl
  exact lv_ior C.1 C.2.1 hd (k0 H locs ls hR hn hS hl)
theorem aw_ishl (C : CC X p l R s m args meth c own cc nL ret) {x y : Int32} (hd : decode cc pc = .ok (.ishl, 1)) (k0 : AW X p l e R s m args below meth c nL Z f n cells slots (pc + 1) lo (.int (x <<< (y &&& 31)) :: st)) : AW X p l e R s m args below meth c nL Z f n cells slots pc lo (.int y :: .int x :: st) := by
  intro H locs ls hR hn hS hl
  exact lv_ishl C.1 C.2.1 hd (k0 H locs ls hR hn hS hl)
theorem aw_ishr (C : CC X p l R s m args meth c own cc nL ret) {x y : Int32} (hd : decode cc pc = .ok (.ishr, 1)) (k0 : AW X p l e R s m args below meth c nL Z f n cells slots (pc + 1) lo (.int (x >>> (y &&& 31)) :: st)) : AW X p l e R s m args below meth c nL Z f n cells slots pc lo (.int y :: .int x :: st) := by
  intro H locs ls hR hn hS hl
  exact lv_ishr C.1 C.2.1 hd (k0 H locs ls hR hn hS hl)
theorem aw_iushr (C : CC X p l R s m args meth c own cc nL ret) {x y : Int32} (hd : decode cc pc = .ok (.iushr, 1)) (k0 : AW X p l e R s m args below meth c nL Z f n cells slots (pc + 1) lo (.int (x.toUInt32 >>> (y.toUInt32 &&& Int32.toUInt32 31)).toInt32 :: st)) : AW X p l e R s m args below meth c nL Z f n cells slots pc lo (.int y :: .int x :: st) := by
  intro H locs ls hR hn hS hl
  exact lv_iushr C.1 C.2.1 hd rfl (k0 H locs ls hR hn hS hl)
theorem aw_irem (C : CC X p l R s m args meth c own cc nL ret) {x y : Int32} (hd : decode cc pc = .ok (.irem, 1)) (hne : ¬ y = 0) (k0 : AW X p l e R s m args below meth c nL Z f n cells slots (pc + 1) lo (.int (x - x / y * y) :: st)) : AW X p l e R s m args below meth c nL Z f n cells slots pc lo (.int y :: .int x :: st) := by
  intro H locs ls hR hn hS hl
  exact lv_irem C.1 C.2.1 hd hne (k0 H locs ls hR hn hS hl)
theorem aw_i2l (C : CC X p l R s m args meth c own cc nL ret) {x : Int32} (hd : decode cc pc = .ok (.i2l, 1)) (k0 : AW X p l e R s m args below meth c nL Z f n cells slots (pc + 1) lo (.long x.toInt64 :: st)) : AW X p l e R s m args below meth c nL Z f n cells slots pc lo (.int x :: st) := by
  intro H locs ls hR hn hS hl
  exact lv_i2l C.1 C.2.1 hd rfl (k0 H locs ls hR hn hS hl)
theorem aw_lor (C : CC X p l R s m args meth c own cc nL ret) {x y : Int64} (hd : decode cc pc = .ok (.lor, 1)) (k0 : AW X p l e R s m args below meth c nL Z f n cells slots (pc + 1) lo (.long (x ||| y) :: st)) : AW X p l e R s m args below meth c nL Z f n cells slots pc lo (.long y :: .long x :: st) := by
  intro H locs ls hR hn hS hl
  exact lv_lor C.1 C.2.1 hd (k0 H locs ls hR hn hS hl)
theorem aw_lshl (C : CC X p l R s m args meth c own cc nL ret) {x : Int64} {y : Int32} (hd : decode cc pc = .ok (.lshl, 1)) (k0 : AW X p l e R s m args below meth c nL Z f n cells slots (pc + 1) lo (.long (x <<< (y.toInt64 &&& 63)) :: st)) : AW X p l e R s m args below meth c nL Z f n cells slots pc lo (.int y :: .long x :: st) := by
  intro H locs ls hR hn hS hl
  exact lv_lshl C.1 C.2.1 hd rfl (k0 H locs ls hR hn hS hl)
theorem aw_lcmp (C : CC X p l R s m args meth c own cc nL ret) {x y : Int64} (hd : decode cc pc = .ok (.lcmp, 1)) (k0 : AW X p l e R s m args below meth c nL Z f n cells slots (pc + 1) lo (.int (lg_cmp x y) :: st)) : AW X p l e R s m args below meth c nL Z f n cells slots pc lo (.long y :: .long x :: st) := by
  intro H locs ls hR hn hS hl
  exact W.lcmp C.1 C.2.1 hd (k0 H locs ls hR hn hS hl)
theorem aw_dup (C : CC X p l R s m args meth c own cc nL ret) {v : Value} (hd : decode cc pc = .ok (.dup, 1)) (hv : v.category = 1) (k0 : AW X p l e R s m args below meth c nL Z f n cells slots (pc + 1) lo (v :: v :: st)) : AW X p l e R s m args below meth c nL Z f n cells slots pc lo (v :: st) := by
  intro H locs ls hR hn hS hl
  exact lv_dup C.1 C.2.1 hd (by rw [rn_cat]; exact hv) (k0 H locs ls hR hn hS hl)
theorem aw_pop (C : CC X p l R s m args meth c own cc nL ret) {v : Value} (hd : decode cc pc = .ok (.pop, 1)) (hv : v.category = 1) (k0 : AW X p l e R s m args below meth c nL Z f n cells slots (pc + 1) lo st) : AW X p l e R s m args below meth c nL Z f n cells slots pc lo (v :: st) := by
  intro H locs ls hR hn hS hl
  exact lv_pop C.1 C.2.1 hd (by rw [rn_cat]; exact hv) (k0 H locs ls hR hn hS hl)
theorem aw_goto (C : CC X p l R s m args meth c own cc nL ret) {off : Int} (tgt : Nat) (hd : decode cc pc = .ok (.goto off, 3)) (ht : (pc : Int) + off = (tgt : Int)) (k0 : AW X p l e R s m args below meth c nL Z f n cells slots tgt lo st) : AW X p l e R s m args below meth c nL Z f n cells slots pc lo st := by
  intro H locs ls hR hn hS hl
  exact lv_goto C.1 C.2.1 hd ht (k0 H locs ls hR hn hS hl)
theorem aw_if_eq (C : CC X p l R s m args meth c own cc nL ret) {x : Int32} {off : Int} (tgt : Nat) (hd : decode cc pc = .ok (.ifCond .eq off, 3)) (ht : (pc : Int) + off = (tgt : Int)) (k0 : x = 0 → AW X p l e R s m args below meth c nL Z f n cells slots tgt lo st) (k1 : ¬ x = 0 → AW X p l e R s m args below meth c nL Z f n cells slots (pc + 3) lo st) : AW X p l e R s m args below meth c nL Z f n cells slots pc lo (.int x :: st) := by
  intro H locs ls hR hn hS hl
  exact lv_if_eq C.1 C.2.1 hd ht (fun q => k0 q H locs ls hR hn hS hl) (fun q => k1 q H locs ls hR hn hS hl)
theorem aw_if_ne (C : CC X p l R s m args meth c own cc nL ret) {x : Int32} {off : Int} (tgt : Nat) (hd : decode cc pc = .ok (.ifCond .ne off, 3)) (ht : (pc : Int) + off = (tgt : Int)) (k0 : ¬ x = 0 → AW X p l e R s m args below meth c nL Z f n cells slots tgt lo st) (k1 : x = 0 → AW X p l e R s m args below meth c nL Z f n cells slots (pc + 3) lo st) : AW X p l e R s m args below meth c nL Z f n cells slots pc lo (.int x :: st) := by
  intro H locs ls hR hn hS hl
  exact lv_if_ne C.1 C.2.1 hd ht (fun q => k0 q H locs ls hR hn hS hl) (fun q => k1 q H locs ls hR hn hS hl)
theorem aw_if_lt (C : CC X p l R s m args meth c own cc nL ret) {x : Int32} {off : Int} (tgt : Nat) (hd : decode cc pc = .ok (.ifCond .lt off, 3)) (ht : (pc : Int) + off = (tgt : Int)) (k0 : x < 0 → AW X p l e R s m args below meth c nL Z f n cells slots tgt lo st) (k1 : ¬ x < 0 → AW X p l e R s m args below meth c nL Z f n cells slots (pc + 3) lo st) : AW X p l e R s m args below meth c nL Z f n cells slots pc lo (.int x :: st) := by
  intro H locs ls hR hn hS hl
  exact lv_if_lt C.1 C.2.1 hd ht (fun q => k0 q H locs ls hR hn hS hl) (fun q => k1 q H locs ls hR hn hS hl)
theorem aw_if_ge (C : CC X p l R s m args meth c own cc nL ret) {x : Int32} {off : Int} (tgt : Nat) (hd : decode cc pc = .ok (.ifCond .ge off, 3)) (ht : (pc : Int) + off = (tgt : Int)) (k0 : 0 ≤ x → AW X p l e R s m args below meth c nL Z f n cells slots tgt lo st) (k1 : ¬ 0 ≤ x → AW X p l e R s m args below meth c nL Z f n cells slots (pc + 3) lo st) : AW X p l e R s m args below meth c nL Z f n cells slots pc lo (.int x :: st) := by
  intro H locs ls hR hn hS hl
  exact lv_if_ge C.1 C.2.1 hd ht (fun q => k0 q H locs ls hR hn hS hl) (fun q => k1 q H locs ls hR hn hS hl)
theorem aw_if_gt (C : CC X p l R s m args meth c own cc nL ret) {x : Int32} {off : Int} (tgt : Nat) (hd : decode cc pc = .ok (.ifCond .gt off, 3)) (ht : (pc : Int) + off = (tgt : Int)) (k0 : 0 < x → AW X p l e R s m args below meth c nL Z f n cells slots tgt lo st) (k1 : ¬ 0 < x → AW X p l e R s m args below meth c nL Z f n cells slots (pc + 3) lo st) : AW X p l e R s m args below meth c nL Z f n cells slots pc lo (.int x :: st) := by
  intro H locs ls hR hn hS hl
  exact lv_if_gt C.1 C.2.1 hd ht (fun q => k0 q H locs ls hR hn hS hl) (fun q => k1 q H locs ls hR hn hS hl)
theorem aw_if_le (C : CC X p l R s m args meth c own cc nL ret) {x : Int32} {off : Int} (tgt : Nat) (hd : decode cc pc = .ok (.ifCond .le off, 3)) (ht : (pc : Int) + off = (tgt : Int)) (k0 : x ≤ 0 → AW X p l e R s m args below meth c nL Z f n cells slots tgt lo st) (k1 : ¬ x ≤ 0 → AW X p l e R s m args below meth c nL Z f n cells slots (pc + 3) lo st) : AW X p l e R s m args below meth c nL Z f n cells slots pc lo (.int x :: st) := by
  intro H locs ls hR hn hS hl
  exact lv_if_le C.1 C.2.1 hd ht (fun q => k0 q H locs ls hR hn hS hl) (fun q => k1 q H locs ls hR hn hS hl)
theorem aw_icmp_eq (C : CC X p l R s m args meth c own cc nL ret) {x y : Int32} {off : Int} (tgt : Nat) (hd : decode cc pc = .ok (.if_icmp .eq off, 3)) (ht : (pc : Int) + off = (tgt : Int)) (k0 : x = y → AW X p l e R s m args below meth c nL Z f n cells slots tgt lo st) (k1 : ¬ x = y → AW X p l e R s m args below meth c nL Z f n cells slots (pc + 3) lo st) : AW X p l e R s m args below meth c nL Z f n cells slots pc lo (.int y :: .int x :: st) := by
  intro H locs ls hR hn hS hl
  exact lv_icmp_eq C.1 C.2.1 hd ht (fun q => k0 q H locs ls hR hn hS hl) (fun q => k1 q H locs ls hR hn hS hl)
theorem aw_icmp_ne (C : CC X p l R s m args meth c own cc nL ret) {x y : Int32} {off : Int} (tgt : Nat) (hd : decode cc pc = .ok (.if_icmp .ne off, 3)) (ht : (pc : Int) + off = (tgt : Int)) (k0 : ¬ x = y → AW X p l e R s m args below meth c nL Z f n cells slots tgt lo st) (k1 : x = y → AW X p l e R s m args below meth c nL Z f n cells slots (pc + 3) lo st) : AW X p l e R s m args below meth c nL Z f n cells slots pc lo (.int y :: .int x :: st) := by
  intro H locs ls hR hn hS hl
  exact lv_icmp_ne C.1 C.2.1 hd ht (fun q => k0 q H locs ls hR hn hS hl) (fun q => k1 q H locs ls hR hn hS hl)
theorem aw_icmp_lt (C : CC X p l R s m args meth c own cc nL ret) {x y : Int32} {off : Int} (tgt : Nat) (hd : decode cc pc = .ok (.if_icmp .lt off, 3)) (ht : (pc : Int) + off = (tgt : Int)) (k0 : x < y → AW X p l e R s m args below meth c nL Z f n cells slots tgt lo st) (k1 : ¬ x < y → AW X p l e R s m args below meth c nL Z f n cells slots (pc + 3) lo st) : AW X p l e R s m args below meth c nL Z f n cells slots pc lo (.int y :: .int x :: st) := by
  intro H locs ls hR hn hS hl
  exact lv_icmp_lt C.1 C.2.1 hd ht (fun q => k0 q H locs ls hR hn hS hl) (fun q => k1 q H locs ls hR hn hS hl)
theorem aw_icmp_ge (C : CC X p l R s m args meth c own cc nL ret) {x y : Int32} {off : Int} (tgt : Nat) (hd : decode cc pc = .ok (.if_icmp .ge off, 3)) (ht : (pc : Int) + off = (tgt : Int)) (k0 : y ≤ x → AW X p l e R s m args below meth c nL Z f n cells slots tgt lo st) (k1 : ¬ y ≤ x → AW X p l e R s m args below meth c nL Z f n cells slots (pc + 3) lo st) : AW X p l e R s m args below meth c nL Z f n cells slots pc lo (.int y :: .int x :: st) := by
  intro H locs ls hR hn hS hl
  exact lv_icmp_ge C.1 C.2.1 hd ht (fun q => k0 q H locs ls hR hn hS hl) (fun q => k1 q H locs ls hR hn hS hl)
theorem aw_icmp_gt (C : CC X p l R s m args meth c own cc nL ret) {x y : Int32} {off : Int} (tgt : Nat) (hd : decode cc pc = .ok (.if_icmp .gt off, 3)) (ht : (pc : Int) + off = (tgt : Int)) (k0 : y < x → AW X p l e R s m args below meth c nL Z f n cells slots tgt lo st) (k1 : ¬ y < x → AW X p l e R s m args below meth c nL Z f n cells slots (pc + 3) lo st) : AW X p l e R s m args below meth c nL Z f n cells slots pc lo (.int y :: .int x :: st) := by
  intro H locs ls hR hn hS hl
  exact lv_icmp_gt C.1 C.2.1 hd ht (fun q => k0 q H locs ls hR hn hS hl) (fun q => k1 q H locs ls hR hn hS hl)
theorem aw_icmp_le (C : CC X p l R s m args meth c own cc nL ret) {x y : Int32} {off : Int} (tgt : Nat) (hd : decode cc pc = .ok (.if_icmp .le off, 3)) (ht : (pc : Int) + off = (tgt : Int)) (k0 : x ≤ y → AW X p l e R s m args below meth c nL Z f n cells slots tgt lo st) (k1 : ¬ x ≤ y → AW X p l e R s m args below meth c nL Z f n cells slots (pc + 3) lo st) : AW X p l e R s m args below meth c nL Z f n cells slots pc lo (.int y :: .int x :: st) := by
  intro H locs ls hR hn hS hl
  exact lv_icmp_le C.1 C.2.1 hd ht (fun q => k0 q H locs ls hR hn hS hl) (fun q => k1 q H locs ls hR hn hS hl)
theorem aw_ifnull_r (C : CC X p l R s m args meth c own cc nL ret) {a : Nat} {off : Int} (tgt : Nat) (hd : decode cc pc = .ok (.ifnull off, 3)) (ht : (pc : Int) + off = (tgt : Int)) (k0 : AW X p l e R s m args below meth c nL Z f n cells slots (pc + 3) lo st) : AW X p l e R s m args below meth c nL Z f n cells slots pc lo (.ref a :: st) := by
  intro H locs ls hR hn hS hl
  exact lv_ifnull C.1 C.2.1 hd (k0 H locs ls hR hn hS hl)
theorem aw_ifnull_n (C : CC X p l R s m args meth c own cc nL ret) {off : Int} (tgt : Nat) (hd : decode cc pc = .ok (.ifnull off, 3)) (ht : (pc : Int) + off = (tgt : Int)) (k0 : AW X p l e R s m args below meth c nL Z f n cells slots tgt lo st) : AW X p l e R s m args below meth c nL Z f n cells slots pc lo (.null :: st) := by
  intro H locs ls hR hn hS hl
  exact lv_ifnullN C.1 C.2.1 hd ht (k0 H locs ls hR hn hS hl)
theorem aw_ifnonnull_r (C : CC X p l R s m args meth c own cc nL ret) {a : Nat} {off : Int} (tgt : Nat) (hd : decode cc pc = .ok (.ifnonnull off, 3)) (ht : (pc : Int) + off = (tgt : Int)) (k0 : AW X p l e R s m args below meth c nL Z f n cells slots tgt lo st) : AW X p l e R s m args below meth c nL Z f n cells slots pc lo (.ref a :: st) := by
  intro H locs ls hR hn hS hl
  exact lv_ifnonnull C.1 C.2.1 hd ht (k0 H locs ls hR hn hS hl)
theorem aw_ifnonnull_n (C : CC X p l R s m args meth c own cc nL ret) {off : Int} (tgt : Nat) (hd : decode cc pc = .ok (.ifnonnull off, 3)) (ht : (pc : Int) + off = (tgt : Int)) (k0 : AW X p l e R s m args below meth c nL Z f n cells slots (pc + 3) lo st) : AW X p l e R s m args below meth c nL Z f n cells slots pc lo (.null :: st) := by
  intro H locs ls hR hn hS hl
  exact lv_ifnonnullN C.1 C.2.1 hd (k0 H locs ls hR hn hS hl)
theorem aw_tabIn (C : CC X p l R s m args meth c own cc nL ret) {d lw hg : Int} {os : Array Int} {len : Nat} {x : Int32} {off : Int} (tgt : Nat) (hd : decode cc pc = .ok (.tableswitch d lw hg os, len)) (h1 : ¬ x.toInt < lw) (h2 : ¬ hg < x.toInt) (ho : os[(x.toInt - lw).toNat]? = some off) (ht : (pc : Int) + off = (tgt : Int)) (k0 : AW X p l e R s m args below meth c nL Z f n cells slots tgt lo st) : AW X p l e R s m args below meth c nL Z f n cells slots pc lo (.int x :: st) := by
  intro H locs ls hR hn hS hl
  exact lv_tableIn C.1 C.2.1 hd h1 h2 ho ht (k0 H locs ls hR hn hS hl)
theorem aw_tabOut (C : CC X p l R s m args meth c own cc nL ret) {d lw hg : Int} {os : Array Int} {len : Nat} {x : Int32} (tgt : Nat) (hd : decode cc pc = .ok (.tableswitch d lw hg os, len)) (h : x.toInt < lw ∨ hg < x.toInt) (ht : (pc : Int) + d = (tgt : Int)) (k0 : AW X p l e R s m args below meth c nL Z f n cells slots tgt lo st) : AW X p l e R s m args below meth c nL Z f n cells slots pc lo (.int x :: st) := by
  intro H locs ls hR hn hS hl
  exact lv_tableOut C.1 C.2.1 hd h ht (k0 H locs ls hR hn hS hl)
end AWS
