/-! types, words: what the printed words rest on -/
abbrev AA : Type := (Nat → Int32) ⊕ (Nat → Int64) ⊕ (Nat → Option Nat)
abbrev AE : Type := (Nat × Nat × AA) ⊕ (Nat × List Value)
abbrev AH : Type := Nat → Option AE
abbrev GX : Type := Nat × va_G × (Nat → ClassId)
def rn (b : Nat) : Value → Value
  | .ref k => .ref (b + k)
  | .retAddr a => .ref a
  | v => v
theorem rn_int (b : Nat) (x : Int32) : rn b (.int x) = .int x := rfl
theorem rn_long (b : Nat) (x : Int64) : rn b (.long x) = .long x := rfl
theorem rn_ref (b k : Nat) : rn b (.ref k) = .ref (b + k) := rfl
theorem rn_null (b : Nat) : rn b .null = .null := rfl
theorem rn_cat (b : Nat) (v : Value) : (rn b v).category = v.category := by cases v <;> rfl
/-- all words that any method uses -/
def ALLW : List Cond := lw_tbl.filter goodWord
theorem ALLW_mem {w : Cond} (h : w ∈ lw_tbl) (hg : goodWord w = true) : w ∈ ALLW := List.mem_filter.mpr ⟨h, hg⟩
theorem ALLW_t {w : Cond} (i : Nat) (h : tables_1[i]? = some w) (hg : goodWord w = true) : w ∈ ALLW := ALLW_mem (List.mem_append_right _ (List.mem_of_getElem? h)) hg
theorem ALLW_s {w : Cond} (i : Nat) (h : (k2_sels lw_privs)[i]? = some w) (hg : goodWord w = true) : w ∈ ALLW := ALLW_mem (List.mem_append_left _ (List.mem_of_getElem? h)) hg
theorem ALLW_good {ws : List Cond} (h : ∀ w ∈ ws, w ∈ ALLW) : GoodIn ALLW ws := fun w hw => ⟨h w hw, good_of_word (List.mem_filter.mp (h w hw)).2⟩
theorem ALLW_all {Ts : List Cond} (h : ∀ w ∈ ALLW, w ∈ Ts) {y : MethodName} {bytes : ByteArray} {maxL : Nat} {ret : Option FieldType} (hc : Cond.code y bytes maxL ret ∈ ALLW) : GoodIn Ts (Cond.code y bytes maxL ret :: ALLW) := fun w hw => by
  have hm : w ∈ ALLW := (List.mem_cons.mp hw).elim (fun e => by rw [e]; exact hc) id
  exact ⟨h w hm, good_of_word (List.mem_filter.mp hm).2⟩
/-- the strings that are thrown with, by class, entry, text -/
def strsX : List (String × Nat × String) := [("PieceFiles", 118, "the text is wrong"), ("PieceFiles", 137, "there is no such kind"), ("PieceFiles", 144, "there is no such rule"), ("PieceFiles", 147, "the rule has no such number"), ("PieceFiles", 153, "it is no word"), ("PieceFiles", 158, "more than 60 bytes"), ("PieceFiles", 172, "there is none to take back"), ("PieceFiles", 211, "nothing such is told of a piece"), ("PieceFiles", 230, "nothing such is told of a key"), ("PieceFiles", 323, "there is no such piece"), ("PieceFiles", 326, "the act is refused")]
abbrev eA : String := "java/lang/IllegalArgumentException"
abbrev eS : String := "java/lang/IllegalStateException"
abbrev eI : String := "java/lang/IndexOutOfBoundsException"
abbrev eN : String := "java/util/NoSuchElementException"
/-- words that are carried by hand -/
def xW : List Cond := [.methodLinkNest "PieceFiles$Cut" 45 yX3_init "PieceFiles", .methodLinkNest "PieceFiles$Row" 34 yX8_isLetter "PieceFiles", .methodLinkNest "PieceFiles$Row" 44 yX8_smallLetter "PieceFiles", .castable eA eA, .castable eS eS, .castable eI eI, .castable eN eN, .declares (Bundle.initS "java/lang/RuntimeException"), .declares (Bundle.initS "java/lang/Exception"), .declares (Bundle.initS Bundle.tN)]
theorem xW_warm {s U : State} (hW : s.WarmedH U.vm) {w : Cond} (hw : w ∈ xW) (h : va_Nw w s) : va_Nw w U := by
  simp only [xW, List.mem_cons, List.not_mem_nil, or_false] at hw
  rcases hw with rfl | rfl | rfl | rfl | rfl | rfl | rfl | rfl | rfl | rfl
  · exact va_Nw.warmM hW h
  · exact va_Nw.warmM hW h
  · exact va_Nw.warmM hW h
  · exact va_Nw.warmC hW h
  · exact va_Nw.warmC hW h
  · exact va_Nw.warmC hW h
  · exact va_Nw.warmC hW h
  · exact va_Nw.warmD hW h
  · exact va_Nw.warmD hW h
  · exact va_Nw.warmD hW h
/-- classes that aren't the other's -/
def ncX : List (String × String) := [(eA, eN), (eS, eA), (eN, eI), (eA, eI)]
/-- a getfield or putfield of entry idx in class own reaches field k of class number ci -/
def GF (own : String) (idx ci k : Nat) : Prop := ∃ (q : vw_C), vwCl[ci]? = some q ∧ (∀ w ∈ u_ws q.1 q.2.1 q.2.2, w ∈ ALLW) ∧ k < q.2.2 ∧ Cond.fieldLink own idx (q.2.1 k).1 (q.2.1 k).2.1 (q.2.1 k).2.2.1 ∈ ALLW
/-- a class: its number, its words, its types -/
def CF (ci : Nat) (ty : Nat → FieldType) : Prop := ∃ (q : vw_C), vwCl[ci]? = some q ∧ (∀ w ∈ u_ws q.1 q.2.1 q.2.2, w ∈ ALLW) ∧ (∀ k, k < q.2.2 → parseFieldDescriptor (q.2.1 k).2.2.1 = some (ty k)) ∧ (∀ a, a < q.2.2 → ∀ b, b < q.2.2 → a ≠ b → (q.2.1 a).2.1 ≠ (q.2.1 b).2.1)
def isFin (own : String) (ci k : Nat) : Prop := ∃ q : vw_C, vwCl[ci]? = some q ∧ (q.2.1 k).2.2.2 = true ∧ (q.2.1 k).1 = own
def noFin (ci k : Nat) : Prop := ∃ q : vw_C, vwCl[ci]? = some q ∧ (q.2.1 k).2.2.2 = false
/-- a new object of class ci: its fields' first values -/
def NW (own : String) (idx ci : Nat) (fs : List Value) : Prop := ∃ (q : vw_C) (ty : Nat → FieldType), vwCl[ci]? = some q ∧ (∀ w ∈ u_ws q.1 q.2.1 q.2.2, w ∈ ALLW) ∧ (∀ k, k < q.2.2 → parseFieldDescriptor (q.2.1 k).2.2.1 = some (ty k)) ∧ Cond.classLink own idx q.1 ∈ ALLW ∧ Cond.instantiable q.1 q.2.2 ∈ ALLW ∧ Cond.initialized q.1 ∈ ALLW ∧ (∀ j, j < q.2.2 → defaultValue (ty j) = vp_V fs j) ∧ (∀ b : Nat, fs.map (rn b) = fs) ∧ fs.length = q.2.2
/-- a call of an instance method: the words -/
def MV (own : String) (idx : Nat) (y : MethodName) (bytes : ByteArray) (maxL : Nat) (ret : Option FieldType) (np : Nat) : Prop :=
  Cond.methodLink own idx y ∈ ALLW ∧ Cond.instanceMethod y ∈ ALLW ∧ Cond.selects y.cls y y ∈ ALLW ∧ Cond.initialized y.cls ∈ ALLW ∧ Cond.code y bytes maxL ret ∈ ALLW ∧ (y.cls ≠ "java/lang/invoke/MethodHandle" ∧ y.cls ≠ "java/lang/invoke/VarHandle" ∧ (parseMethodDescriptor y.desc).map (fun d => d.parameters.length) = some np)
def MI (own : String) (idx : Nat) (y : MethodName) (bytes : ByteArray) (maxL : Nat) (np : Nat) : Prop :=
  Cond.methodLink own idx y ∈ ALLW ∧ Cond.instanceMethod y ∈ ALLW ∧ Cond.initialized y.cls ∈ ALLW ∧ Cond.code y bytes maxL none ∈ ALLW ∧ y.name = "<init>" ∧ (y.cls ≠ "java/lang/invoke/MethodHandle" ∧ y.cls ≠ "java/lang/invoke/VarHandle" ∧ (parseMethodDescriptor y.desc).map (fun d => d.parameters.length) = some np)
def MS (own : String) (idx : Nat) (y : MethodName) (bytes : ByteArray) (maxL : Nat) (ret : Option FieldType) (np : Nat) : Prop :=
  Cond.methodLink own idx y ∈ ALLW ∧ Cond.static y ∈ ALLW ∧ Cond.initialized y.cls ∈ ALLW ∧ Cond.code y bytes maxL ret ∈ ALLW ∧ (y.cls ≠ "java/lang/invoke/MethodHandle" ∧ y.cls ≠ "java/lang/invoke/VarHandle" ∧ (parseMethodDescriptor y.desc).map (fun d => d.parameters.length) = some np)
abbrev nmX : List String := ["java/lang/RuntimeException", "java/lang/Exception"]
/-- the words of a throw of cls in PieceFiles -/
def TH (ik ic : Nat) (cls : String) : Prop := Cond.classLink "PieceFiles" ik cls ∈ ALLW ∧ Cond.initialized cls ∈ ALLW ∧ (∀ w ∈ (vx_atS "PieceFiles" ic cls nmX).filter goodWord, w ∈ lw_tbl) ∧ (∀ w ∈ (vx_atS "PieceFiles" ic cls nmX).filter (fun w => !goodWord w), w ∈ xW) ∧ (∀ w ∈ Cond.classLink "PieceFiles" ik cls :: Cond.initialized cls :: vx_atS "PieceFiles" ic cls nmX, vx_ot w = true) ∧ Bundle.fit cls = true
def MSW (own : String) (idx : Nat) (y : MethodName) (bytes : ByteArray) (maxL : Nat) (ret : Option FieldType) (hh : List (Nat × Nat × Nat × Nat)) (np : Nat) : Prop :=
  Cond.methodLink own idx y ∈ ALLW ∧ Cond.static y ∈ ALLW ∧ Cond.initialized y.cls ∈ ALLW ∧ Cond.codeWith y bytes maxL ret hh ∈ ALLW ∧ (y.cls ≠ "java/lang/invoke/MethodHandle" ∧ y.cls ≠ "java/lang/invoke/VarHandle" ∧ (parseMethodDescriptor y.desc).map (fun d => d.parameters.length) = some np)
/-- nest mates: private ones of another class of the file -/
def MN (own : String) (idx : Nat) (y : MethodName) (bytes : ByteArray) (maxL : Nat) (ret : Option FieldType) (np : Nat) : Prop :=
  Cond.methodLinkNest own idx y "PieceFiles" ∈ xW ∧ Cond.initialized y.cls ∈ ALLW ∧ Cond.code y bytes maxL ret ∈ ALLW ∧ (y.cls ≠ "java/lang/invoke/MethodHandle" ∧ y.cls ≠ "java/lang/invoke/VarHandle" ∧ (parseMethodDescriptor y.desc).map (fun d => d.parameters.length) = some np)
