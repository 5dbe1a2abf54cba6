def mX9_escapes_b169 (σ : RS9) : Option (Int32 × RS9) := some ((σ.1 56), σ)
set_option maxHeartbeats 1000000 in
theorem rmX9_escapes_b169 {X : GX} {p : Program} {l : Launch} {e : Env} {s : State} {m : MethodId} {args : Array Value} {below : List Frame} {meth : Method} {c : Code} {f : AH} {n : Nat} {r : Int32 × RS9} {σ : RS9} (C : CC X p l (RM 6 0 0) s m args meth c RX9 cX9_escapes 9 (some .int)) (h : mX9_escapes_b169 σ = some r) : AW X p l e (RM 6 0 0) s m args below meth c 9 (ZM X below args s 0 0 (QMi f n r)) (rHm f σ) n 0 0 169 [some (.ref 181), none, none, none, none, none, none, none, none] [] := by
  have h : some ((σ.1 56), σ) = some r := h
  refine aw_ald_n C dX9_escapes_169 rfl ?_
  refine aw_get C (v := .int (σ.1 56)) gf_X9_254 (hm_M f σ) rfl dX9_escapes_170 ?_
  cases h
  exact aw_iret C rfl rfl dX9_escapes_173 (Nat.le_refl _) (Nat.le_refl _) ⟨rfl, rfl, rfl⟩
def mX9_escapes_b150 (rec47 : Int32 → Int32 → Int32 → Nat → Int32 → Nat → Int32 → Int32 → RS9 → Option (Int32 × RS9)) (v1 : Int32) (v2 : Int32) (v3 : Int32) (v4 : Nat) (v5 : Int32) (v6 : Nat) (v7 : Int32) (v8 : Int32) (σ : RS9) : Option (Int32 × RS9) := rec47 v1 v2 v3 v4 v5 v6 v7 (v8 + (1 : Int32)) σ
set_option maxHeartbeats 1000000 in
theorem rmX9_escapes_b150 {X : GX} {p : Program} {l : Launch} {e : Env} {s : State} {m : MethodId} {args : Array Value} {below : List Frame} {meth : Method} {c : Code} {f : AH} {n : Nat} {r : Int32 × RS9} {rec47 : Int32 → Int32 → Int32 → Nat → Int32 → Nat → Int32 → Int32 → RS9 → Option (Int32 × RS9)} {v1 : Int32} {v2 : Int32} {v3 : Int32} {v4 : Nat} {v5 : Int32} {v6 : Nat} {v7 : Int32} {v8 : Int32} {σ : RS9} (C : CC X p l (RM 6 0 0) s m args meth c RX9 cX9_escapes 9 (some .int)) (Hr47 : ∀ (v1 : Int32) (v2 : Int32) (v3 : Int32) (v4 : Nat) (v5 : Int32) (v6 : Nat) (v7 : Int32) (v8 : Int32) (σ : RS9), rIsA v4 = true → rIsA v6 = true → rec47 v1 v2 v3 v4 v5 v6 v7 v8 σ = some r → AW X p l e (RM 6 0 0) s m args below meth c 9 (ZM X below args s 0 0 (QMi f n r)) (rHm f σ) n 0 0 47 [some (.ref 181), some (.int v1), some (.int v2), some (.int v3), some (.ref (rAid v4)), some (.int v5), some (.ref (rAid v6)), some (.int v7), some (.int v8)] []) (ia4 : rIsA v4 = true) (ia6 : rIsA v6 = true) (h : mX9_escapes_b150 rec47 v1 v2 v3 v4 v5 v6 v7 v8 σ = some r) : AW X p l e (RM 6 0 0) s m args below meth c 9 (ZM X below args s 0 0 (QMi f n r)) (rHm f σ) n 0 0 150 [some (.ref 181), some (.int v1), some (.int v2), some (.int v3), some (.ref (rAid v4)), some (.int v5), some (.ref (rAid v6)), some (.int v7), some (.int v8)] [] := by
  have h : rec47 v1 v2 v3 v4 v5 v6 v7 (v8 + (1 : Int32)) σ = some r := h
  refine aw_iinc C (v8 + (1 : Int32)) dX9_escapes_150 rfl (by rw [ki_1]) (by decide) rfl ?_
  refine aw_nl [some (.ref 181), some (.int v1), some (.int v2), some (.int v3), some (.ref (rAid v4)), some (.int v5), some (.ref (rAid v6)), some (.int v7), some (.int (v8 + (1 : Int32)))] rfl ?_
  refine aw_goto C 47 dX9_escapes_153 (by decide) ?_
  refine aw_fl [some (.ref 181), some (.int v1), some (.int v2), some (.int v3), some (.ref (rAid v4)), some (.int v5), some (.ref (rAid v6)), some (.int v7), some (.int (v8 + (1 : Int32)))] ⟨rfl, ⟨rfl, ⟨rfl, ⟨rfl, ⟨rfl, ⟨rfl, ⟨rfl, ⟨rfl, ⟨rfl, trivial⟩⟩⟩⟩⟩⟩⟩⟩⟩ ?_
  exact Hr47 v1 v2 v3 v4 v5 v6 v7 (v8 + (1 : Int32)) σ ia4 ia6 h
def mX9_escapes_b139 (rec47 : Int32 → Int32 → Int32 → Nat → Int32 → Nat → Int32 → Int32 → RS9 → Option (Int32 × RS9)) (v1 : Int32) (v2 : Int32) (v3 : Int32) (v4 : Nat) (v5 : Int32) (v6 : Nat) (v7 : Int32) (v8 : Int32) (σ : RS9) : Option (Int32 × RS9) := rCk (rIn v8 (rLen v4)) (((mX9_plain v6 (rGa σ v4 v8) σ).bind fun r2 => mX9_escapes_b150 rec47 v1 v2 v3 v4 v5 v6 v7 v8 r2.2))
set_option maxHeartbeats 1000000 in
theorem rmX9_escapes_b139 {X : GX} {p : Program} {l : Launch} {e : Env} {s : State} {m : MethodId} {args : Array Value} {below : List Frame} {meth : Method} {c : Code} {f : AH} {n : Nat} {r : Int32 × RS9} {rec47 : Int32 → Int32 → Int32 → Nat → Int32 → Nat → Int32 → Int32 → RS9 → Option (Int32 × RS9)} {v1 : Int32} {v2 : Int32} {v3 : Int32} {v4 : Nat} {v5 : Int32} {v6 : Nat} {v7 : Int32} {v8 : Int32} {σ : RS9} (C : CC X p l (RM 6 0 0) s m args meth c RX9 cX9_escapes 9 (some .int)) (Hr47 : ∀ (v1 : Int32) (v2 : Int32) (v3 : Int32) (v4 : Nat) (v5 : Int32) (v6 : Nat) (v7 : Int32) (v8 : Int32) (σ : RS9), rIsA v4 = true → rIsA v6 = true → rec47 v1 v2 v3 v4 v5 v6 v7 v8 σ = some r → AW X p l e (RM 6 0 0) s m args below meth c 9 (ZM X below args s 0 0 (QMi f n r)) (rHm f σ) n 0 0 47 [some (.ref 181), some (.int v1), some (.int v2), some (.int v3), some (.ref (rAid v4)), some (.int v5), some (.ref (rAid v6)), some (.int v7), some (.int v8)] []) (ia4 : rIsA v4 = true) (ia6 : rIsA v6 = true) (h : mX9_escapes_b139 rec47 v1 v2 v3 v4 v5 v6 v7 v8 σ = some r) : AW X p l e (RM 6 0 0) s m args below meth c 9 (ZM X below args s 0 0 (QMi f n r)) (rHm f σ) n 0 0 139 [some (.ref 181), some (.int v1), some (.int v2), some (.int v3), some (.ref (rAid v4)), some (.int v5), some (.ref (rAid v6)), some (.int v7), some (.int v8)] [] := by
  have h : rCk (rIn v8 (rLen v4)) (((mX9_plain v6 (rGa σ v4 v8) σ).bind fun r2 => mX9_escapes_b150 rec47 v1 v2 v3 v4 v5 v6 v7 v8 r2.2)) = some r := h
  refine aw_ald_n C dX9_escapes_139 rfl ?_
  refine aw_ald C dX9_escapes_140 rfl ?_
  refine aw_ald C dX9_escapes_142 rfl ?_
  refine aw_iload C dX9_escapes_144 rfl ?_
  obtain ⟨hb1, h⟩ := ck_some h
  refine am_iald C (rGa σ v4 v8) ia4 (inb_vp hb1) rfl dX9_escapes_146 ?_
  obtain ⟨r2, h2, h⟩ := Option.bind_eq_some_iff.mp h
  refine aw_callV C (ci := 9) (b := 181) [.ref (rAid v6), .int (rGa σ v4 v8)] mv_X9_261 rfl rfl (hm_M f σ) (rmX9_plain ia6 h2) rfl dX9_escapes_147 (Nat.le_of_ble_eq_true rfl) (Nat.le_of_ble_eq_true rfl) rfl (Nat.le_of_ble_eq_true rfl) (Nat.le_of_ble_eq_true rfl) (Nat.le_of_ble_eq_true rfl) (fun v9 f9 n9 hh => ?_)
  obtain ⟨rfl, rfl, rfl⟩ := hh
  refine aw_fl [some (.ref 181), some (.int v1), some (.int v2), some (.int v3), some (.ref (rAid v4)), some (.int v5), some (.ref (rAid v6)), some (.int v7), some (.int v8)] ⟨rfl, ⟨rfl, ⟨rfl, ⟨rfl, ⟨rfl, ⟨rfl, ⟨rfl, ⟨rfl, ⟨rfl, trivial⟩⟩⟩⟩⟩⟩⟩⟩⟩ ?_
  exact rmX9_escapes_b150 C Hr47 ia4 ia6 h
def mX9_escapes_b116 (rec47 : Int32 → Int32 → Int32 → Nat → Int32 → Nat → Int32 → Int32 → RS9 → Option (Int32 × RS9)) (v1 : Int32) (v2 : Int32) (v3 : Int32) (v4 : Nat) (v5 : Int32) (v6 : Nat) (v7 : Int32) (v8 : Int32) (σ : RS9) : Option (Int32 × RS9) := rCk (rIn v8 (rLen v4)) ((if (rGa σ v4 v8) = (34 : Int32) then ((mX9_puts v6 (34 : Int32) (34 : Int32) σ).bind fun r2 => mX9_escapes_b150 rec47 v1 v2 v3 v4 v5 v6 v7 v8 r2.2) else mX9_escapes_b139 rec47 v1 v2 v3 v4 v5 v6 v7 v8 σ))
set_option maxHeartbeats 1000000 in
theorem rmX9_escapes_b116 {X : GX} {p : Program} {l : Launch} {e : Env} {s : State} {m : MethodId} {args : Array Value} {below : List Frame} {meth : Method} {c : Code} {f : AH} {n : Nat} {r : Int32 × RS9} {rec47 : Int32 → Int32 → Int32 → Nat → Int32 → Nat → Int32 → Int32 → RS9 → Option (Int32 × RS9)} {v1 : Int32} {v2 : Int32} {v3 : Int32} {v4 : Nat} {v5 : Int32} {v6 : Nat} {v7 : Int32} {v8 : Int32} {σ : RS9} (C : CC X p l (RM 6 0 0) s m args meth c RX9 cX9_escapes 9 (some .int)) (Hr47 : ∀ (v1 : Int32) (v2 : Int32) (v3 : Int32) (v4 : Nat) (v5 : Int32) (v6 : Nat) (v7 : Int32) (v8 : Int32) (σ : RS9), rIsA v4 = true → rIsA v6 = true → rec47 v1 v2 v3 v4 v5 v6 v7 v8 σ = some r → AW X p l e (RM 6 0 0) s m args below meth c 9 (ZM X below args s 0 0 (QMi f n r)) (rHm f σ) n 0 0 47 [some (.ref 181), some (.int v1), some (.int v2), some (.int v3), some (.ref (rAid v4)), some (.int v5), some (.ref (rAid v6)), some (.int v7), some (.int v8)] []) (ia4 : rIsA v4 = true) (ia6 : rIsA v6 = true) (h : mX9_escapes_b116 rec47 v1 v2 v3 v4 v5 v6 v7 v8 σ = some r) : AW X p l e (RM 6 0 0) s m args below meth c 9 (ZM X below args s 0 0 (QMi f n r)) (rHm f σ) n 0 0 116 [some (.ref 181), some (.int v1), some (.int v2), some (.int v3), some (.ref (rAid v4)), some (.int v5), some (.ref (rAid v6)), some (.int v7), some (.int v8)] [] := by
  have h : rCk (rIn v8 (rLen v4)) ((if (rGa σ v4 v8) = (34 : Int32) then ((mX9_puts v6 (34 : Int32) (34 : Int32) σ).bind fun r2 => mX9_escapes_b150 rec47 v1 v2 v3 v4 v5 v6 v7 v8 r2.2) else mX9_escapes_b139 rec47 v1 v2 v3 v4 v5 v6 v7 v8 σ)) = some r := h
  refine aw_ald C dX9_escapes_116 rfl ?_
  refine aw_iload C dX9_escapes_118 rfl ?_
  obtain ⟨hb1, h⟩ := ck_some h
  refine am_iald C (rGa σ v4 v8) ia4 (inb_vp hb1) rfl dX9_escapes_120 ?_
  refine aw_bipush C 34 dX9_escapes_121 kb_34 ?_
  refine aw_icmp_ne C 139 dX9_escapes_123 (by decide) (fun q => ?_) (fun q => ?_)
  · rw [if_neg q] at h
    refine aw_fl [some (.ref 181), some (.int v1), some (.int v2), some (.int v3), some (.ref (rAid v4)), some (.int v5), some (.ref (rAid v6)), some (.int v7), some (.int v8)] ⟨rfl, ⟨rfl, ⟨rfl, ⟨rfl, ⟨rfl, ⟨rfl, ⟨rfl, ⟨rfl, ⟨rfl, trivial⟩⟩⟩⟩⟩⟩⟩⟩⟩ ?_
    exact rmX9_escapes_b139 C Hr47 ia4 ia6 h
  · rw [if_pos q] at h
    refine aw_ald_n C dX9_escapes_126 rfl ?_
    refine aw_ald C dX9_escapes_127 rfl ?_
    refine aw_bipush C 34 dX9_escapes_129 kb_34 ?_
    refine aw_bipush C 34 dX9_escapes_131 kb_34 ?_
    obtain ⟨r2, h2, h⟩ := Option.bind_eq_some_iff.mp h
    refine aw_callV C (ci := 9) (b := 181) [.ref (rAid v6), .int (34 : Int32), .int (34 : Int32)] mv_X9_265 rfl rfl (hm_M f σ) (rmX9_puts ia6 h2) rfl dX9_escapes_133 (Nat.le_of_ble_eq_true rfl) (Nat.le_of_ble_eq_true rfl) rfl (Nat.le_of_ble_eq_true rfl) (Nat.le_of_ble_eq_true rfl) (Nat.le_of_ble_eq_true rfl) (fun v9 f9 n9 hh => ?_)
    obtain ⟨rfl, rfl, rfl⟩ := hh
    refine aw_goto C 150 dX9_escapes_136 (by decide) ?_
    refine aw_fl [some (.ref 181), some (.int v1), some (.int v2), some (.int v3), some (.ref (rAid v4)), some (.int v5), some (.ref (rAid v6)), some (.int v7), some (.int v8)] ⟨rfl, ⟨rfl, ⟨rfl, ⟨rfl, ⟨rfl, ⟨rfl, ⟨rfl, ⟨rfl, ⟨rfl, trivial⟩⟩⟩⟩⟩⟩⟩⟩⟩ ?_
    exact rmX9_escapes_b150 C Hr47 ia4 ia6 h
def mX9_escapes_b101 (rec47 : Int32 → Int32 → Int32 → Nat → Int32 → Nat → Int32 → Int32 → RS9 → Option (Int32 × RS9)) (v1 : Int32) (v2 : Int32) (v3 : Int32) (v4 : Nat) (v5 : Int32) (v6 : Nat) (v7 : Int32) (v8 : Int32) (s1 : Int32) (s2 : Nat) (s3 : Int32) (s4 : Int32) (σ : RS9) : Option (Int32 × RS9) := ((mX9_escapesBack s1 s2 s3 s4 σ).bind fun r1 => mX9_escapes_b150 rec47 v1 v2 v3 v4 v5 v6 v7 v8 r1.2)
set_option maxHeartbeats 1000000 in
theorem rmX9_escapes_b101 {X : GX} {p : Program} {l : Launch} {e : Env} {s : State} {m : MethodId} {args : Array Value} {below : List Frame} {meth : Method} {c : Code} {f : AH} {n : Nat} {r : Int32 × RS9} {rec47 : Int32 → Int32 → Int32 → Nat → Int32 → Nat → Int32 → Int32 → RS9 → Option (Int32 × RS9)} {v1 : Int32} {v2 : Int32} {v3 : Int32} {v4 : Nat} {v5 : Int32} {v6 : Nat} {v7 : Int32} {v8 : Int32} {s1 : Int32} {s2 : Nat} {s3 : Int32} {s4 : Int32} {σ : RS9} (C : CC X p l (RM 6 0 0) s m args meth c RX9 cX9_escapes 9 (some .int)) (Hr47 : ∀ (v1 : Int32) (v2 : Int32) (v3 : Int32) (v4 : Nat) (v5 : Int32) (v6 : Nat) (v7 : Int32) (v8 : Int32) (σ : RS9), rIsA v4 = true → rIsA v6 = true → rec47 v1 v2 v3 v4 v5 v6 v7 v8 σ = some r → AW X p l e (RM 6 0 0) s m args below meth c 9 (ZM X below args s 0 0 (QMi f n r)) (rHm f σ) n 0 0 47 [some (.ref 181), some (.int v1), some (.int v2), some (.int v3), some (.ref (rAid v4)), some (.int v5), some (.ref (rAid v6)), some (.int v7), some (.int v8)] []) (ia4 : rIsA v4 = true) (ia6 : rIsA v6 = true) (ias2 : rIsA s2 = true) (h : mX9_escapes_b101 rec47 v1 v2 v3 v4 v5 v6 v7 v8 s1 s2 s3 s4 σ = some r) : AW X p l e (RM 6 0 0) s m args below meth c 9 (ZM X below args s 0 0 (QMi f n r)) (rHm f σ) n 0 0 101 [some (.ref 181), some (.int v1), some (.int v2), some (.int v3), some (.ref (rAid v4)), some (.int v5), some (.ref (rAid v6)), some (.int v7), some (.int v8)] [.int s4, .int s3, .ref (rAid s2), .int s1, .ref 181] := by
  have h : ((mX9_escapesBack s1 s2 s3 s4 σ).bind fun r1 => mX9_escapes_b150 rec47 v1 v2 v3 v4 v5 v6 v7 v8 r1.2) = some r := h
  obtain ⟨r1, h1, h⟩ := Option.bind_eq_some_iff.mp h
  refine aw_callV C (ci := 9) (b := 181) [.int s1, .ref (rAid s2), .int s3, .int s4] mv_X9_275 rfl rfl (hm_M f σ) (rmX9_escapesBack ias2 h1) rfl dX9_escapes_101 (Nat.le_of_ble_eq_true rfl) (Nat.le_of_ble_eq_true rfl) rfl (Nat.le_of_ble_eq_true rfl) (Nat.le_of_ble_eq_true rfl) (Nat.le_of_ble_eq_true rfl) (fun v9 f9 n9 hh => ?_)
  obtain ⟨rfl, rfl, rfl⟩ := hh
  refine aw_goto C 150 dX9_escapes_104 (by decide) ?_
  refine aw_fl [some (.ref 181), some (.int v1), some (.int v2), some (.int v3), some (.ref (rAid v4)), some (.int v5), some (.ref (rAid v6)), some (.int v7), some (.int v8)] ⟨rfl, ⟨rfl, ⟨rfl, ⟨rfl, ⟨rfl, ⟨rfl, ⟨rfl, ⟨rfl, ⟨rfl, trivial⟩⟩⟩⟩⟩⟩⟩⟩⟩ ?_
  exact rmX9_escapes_b150 C Hr47 ia4 ia6 h
def mX9_escapes_b100 (rec47 : Int32 → Int32 → Int32 → Nat → Int32 → Nat → Int32 → Int32 → RS9 → Option (Int32 × RS9)) (v1 : Int32) (v2 : Int32) (v3 : Int32) (v4 : Nat) (v5 : Int32) (v6 : Nat) (v7 : Int32) (v8 : Int32) (s1 : Int32) (s2 : Nat) (s3 : Int32) (σ : RS9) : Option (Int32 × RS9) := mX9_escapes_b101 rec47 v1 v2 v3 v4 v5 v6 v7 v8 s1 s2 s3 (0 : Int32) σ
set_option maxHeartbeats 1000000 in
theorem rmX9_escapes_b100 {X : GX} {p : Program} {l : Launch} {e : Env} {s : State} {m : MethodId} {args : Array Value} {below : List Frame} {meth : Method} {c : Code} {f : AH} {n : Nat} {r : Int32 × RS9} {rec47 : Int32 → Int32 → Int32 → Nat → Int32 → Nat → Int32 → Int32 → RS9 → Option (Int32 × RS9)} {v1 : Int32} {v2 : Int32} {v3 : Int32} {v4 : Nat} {v5 : Int32} {v6 : Nat} {v7 : Int32} {v8 : Int32} {s1 : Int32} {s2 : Nat} {s3 : Int32} {σ : RS9} (C : CC X p l (RM 6 0 0) s m args meth c RX9 cX9_escapes 9 (some .int)) (Hr47 : ∀ (v1 : Int32) (v2 : Int32) (v3 : Int32) (v4 : Nat) (v5 : Int32) (v6 : Nat) (v7 : Int32) (v8 : Int32) (σ : RS9), rIsA v4 = true → rIsA v6 = true → rec47 v1 v2 v3 v4 v5 v6 v7 v8 σ = some r → AW X p l e (RM 6 0 0) s m args below meth c 9 (ZM X below args s 0 0 (QMi f n r)) (rHm f σ) n 0 0 47 [some (.ref 181), some (.int v1), some (.int v2), some (.int v3), some (.ref (rAid v4)), some (.int v5), some (.ref (rAid v6)), some (.int v7), some (.int v8)] []) (ia4 : rIsA v4 = true) (ia6 : rIsA v6 = true) (ias2 : rIsA s2 = true) (h : mX9_escapes_b100 rec47 v1 v2 v3 v4 v5 v6 v7 v8 s1 s2 s3 σ = some r) : AW X p l e (RM 6 0 0) s m args below meth c 9 (ZM X below args s 0 0 (QMi f n r)) (rHm f σ) n 0 0 100 [some (.ref 181), some (.int v1), some (.int v2), some (.int v3), some (.ref (rAid v4)), some (.int v5), some (.ref (rAid v6)), some (.int v7), some (.int v8)] [.int s3, .ref (rAid s2), .int s1, .ref 181] := by
  have h : mX9_escapes_b101 rec47 v1 v2 v3 v4 v5 v6 v7 v8 s1 s2 s3 (0 : Int32) σ = some r := h
  refine aw_iconst C 0 dX9_escapes_100 ki_0 ?_
  refine aw_fl [some (.ref 181), some (.int v1), some (.int v2), some (.int v3), some (.ref (rAid v4)), some (.int v5), some (.ref (rAid v6)), some (.int v7), some (.int v8)] ⟨rfl, ⟨rfl, ⟨rfl, ⟨rfl, ⟨rfl, ⟨rfl, ⟨rfl, ⟨rfl, ⟨rfl, trivial⟩⟩⟩⟩⟩⟩⟩⟩⟩ ?_
  exact rmX9_escapes_b101 C Hr47 ia4 ia6 ias2 h
def mX9_escapes_l47 : Nat → Int32 → Int32 → Int32 → Nat → Int32 → Nat → Int32 → Int32 → RS9 → Option (Int32 × RS9)
  | 0, _, _, _, _, _, _, _, _, _ => none
  | d + 1, v1, v2, v3, v4, v5, v6, v7, v8, σ => (if v5 ≤ v8 then (if v7 = (0 : Int32) then mX9_escapes_b169 σ else ((mX9_plain v6 (34 : Int32) σ).bind fun r1 => mX9_escapes_b169 r1.2)) else (if v1 = (2 : Int32) then rCk (rIn v8 (rLen v4)) (((mX9_escapesMarkup v6 (rGa σ v4 v8) σ).bind fun r4 => mX9_escapes_b150 (fun v1 v2 v3 v4 v5 v6 v7 v8 σ => mX9_escapes_l47 d v1 v2 v3 v4 v5 v6 v7 v8 σ) v1 v2 v3 v4 v5 v6 v7 v8 r4.2)) else (if v1 = (1 : Int32) then (if v2 = (0 : Int32) then (if v7 = (0 : Int32) then mX9_escapes_b139 (fun v1 v2 v3 v4 v5 v6 v7 v8 σ => mX9_escapes_l47 d v1 v2 v3 v4 v5 v6 v7 v8 σ) v1 v2 v3 v4 v5 v6 v7 v8 σ else mX9_escapes_b116 (fun v1 v2 v3 v4 v5 v6 v7 v8 σ => mX9_escapes_l47 d v1 v2 v3 v4 v5 v6 v7 v8 σ) v1 v2 v3 v4 v5 v6 v7 v8 σ) else mX9_escapes_b116 (fun v1 v2 v3 v4 v5 v6 v7 v8 σ => mX9_escapes_l47 d v1 v2 v3 v4 v5 v6 v7 v8 σ) v1 v2 v3 v4 v5 v6 v7 v8 σ) else rCk (rIn v8 (rLen v4)) ((if v3 = (0 : Int32) then mX9_escapes_b100 (fun v1 v2 v3 v4 v5 v6 v7 v8 σ => mX9_escapes_l47 d v1 v2 v3 v4 v5 v6 v7 v8 σ) v1 v2 v3 v4 v5 v6 v7 v8 v1 v6 (rGa σ v4 v8) σ else (if v8 = (0 : Int32) then mX9_escapes_b101 (fun v1 v2 v3 v4 v5 v6 v7 v8 σ => mX9_escapes_l47 d v1 v2 v3 v4 v5 v6 v7 v8 σ) v1 v2 v3 v4 v5 v6 v7 v8 v1 v6 (rGa σ v4 v8) (1 : Int32) σ else mX9_escapes_b100 (fun v1 v2 v3 v4 v5 v6 v7 v8 σ => mX9_escapes_l47 d v1 v2 v3 v4 v5 v6 v7 v8 σ) v1 v2 v3 v4 v5 v6 v7 v8 v1 v6 (rGa σ v4 v8) σ))))))
set_option maxHeartbeats 1000000 in
theorem rmX9_escapes_l47 {X : GX} {p : Program} {l : Launch} {e : Env} {s : State} {m : MethodId} {args : Array Value} {below : List Frame} {meth : Method} {c : Code} {f : AH} {n : Nat} {r : Int32 × RS9} (C : CC X p l (RM 6 0 0) s m args meth c RX9 cX9_escapes 9 (some .int)) : ∀ (d : Nat) (v1 : Int32) (v2 : Int32) (v3 : Int32) (v4 : Nat) (v5 : Int32) (v6 : Nat) (v7 : Int32) (v8 : Int32) (σ : RS9) (_ : rIsA v4 = true) (_ : rIsA v6 = true) (_ : mX9_escapes_l47 d v1 v2 v3 v4 v5 v6 v7 v8 σ = some r), AW X p l e (RM 6 0 0) s m args below meth c 9 (ZM X below args s 0 0 (QMi f n r)) (rHm f σ) n 0 0 47 [some (.ref 181), some (.int v1), some (.int v2), some (.int v3), some (.ref (rAid v4)), some (.int v5), some (.ref (rAid v6)), some (.int v7), some (.int v8)] [] := by
  intro d
  induction d with
  | zero =>
    intro v1 v2 v3 v4 v5 v6 v7 v8 σ ia4 ia6 h
    exact nomatch (show (none : Option (Int32 × RS9)) = some r from h)
  | succ d ih =>
    intro v1 v2 v3 v4 v5 v6 v7 v8 σ ia4 ia6 h
    have h : (if v5 ≤ v8 then (if v7 = (0 : Int32) then mX9_escapes_b169 σ else ((mX9_plain v6 (34 : Int32) σ).bind fun r1 => mX9_escapes_b169 r1.2)) else (if v1 = (2 : Int32) then rCk (rIn v8 (rLen v4)) (((mX9_escapesMarkup v6 (rGa σ v4 v8) σ).bind fun r4 => mX9_escapes_b150 (fun v1 v2 v3 v4 v5 v6 v7 v8 σ => mX9_escapes_l47 d v1 v2 v3 v4 v5 v6 v7 v8 σ) v1 v2 v3 v4 v5 v6 v7 v8 r4.2)) else (if v1 = (1 : Int32) then (if v2 = (0 : Int32) then (if v7 = (0 : Int32) then mX9_escapes_b139 (fun v1 v2 v3 v4 v5 v6 v7 v8 σ => mX9_escapes_l47 d v1 v2 v3 v4 v5 v6 v7 v8 σ) v1 v2 v3 v4 v5 v6 v7 v8 σ else mX9_escapes_b116 (fun v1 v2 v3 v4 v5 v6 v7 v8 σ => mX9_escapes_l47 d v1 v2 v3 v4 v5 v6 v7 v8 σ) v1 v2 v3 v4 v5 v6 v7 v8 σ) else mX9_escapes_b116 (fun v1 v2 v3 v4 v5 v6 v7 v8 σ => mX9_escapes_l47 d v1 v2 v3 v4 v5 v6 v7 v8 σ) v1 v2 v3 v4 v5 v6 v7 v8 σ) else rCk (rIn v8 (rLen v4)) ((if v3 = (0 : Int32) then mX9_escapes_b100 (fun v1 v2 v3 v4 v5 v6 v7 v8 σ => mX9_escapes_l47 d v1 v2 v3 v4 v5 v6 v7 v8 σ) v1 v2 v3 v4 v5 v6 v7 v8 v1 v6 (rGa σ v4 v8) σ else (if v8 = (0 : Int32) then mX9_escapes_b101 (fun v1 v2 v3 v4 v5 v6 v7 v8 σ => mX9_escapes_l47 d v1 v2 v3 v4 v5 v6 v7 v8 σ) v1 v2 v3 v4 v5 v6 v7 v8 v1 v6 (rGa σ v4 v8) (1 : Int32) σ else mX9_escapes_b100 (fun v1 v2 v3 v4 v5 v6 v7 v8 σ => mX9_escapes_l47 d v1 v2 v3 v4 v5 v6 v7 v8 σ) v1 v2 v3 v4 v5 v6 v7 v8 v1 v6 (rGa σ v4 v8) σ)))))) = some r := h
    refine aw_iload C dX9_escapes_47 rfl ?_
    refine aw_iload C dX9_escapes_49 rfl ?_
    refine aw_icmp_ge C 156 dX9_escapes_51 (by decide) (fun q => ?_) (fun q => ?_)
    · rw [if_pos q] at h
      refine aw_iload C dX9_escapes_156 rfl ?_
      refine aw_if_eq C 169 dX9_escapes_158 (by decide) (fun q => ?_) (fun q => ?_)
      · rw [if_pos q] at h
        refine aw_fl [some (.ref 181), none, none, none, none, none, none, none, none] ⟨rfl, trivial⟩ ?_
        exact rmX9_escapes_b169 C h
      · rw [if_neg q] at h
        refine aw_ald_n C dX9_escapes_161 rfl ?_
        refine aw_ald C dX9_escapes_162 rfl ?_
        refine aw_bipush C 34 dX9_escapes_164 kb_34 ?_
        obtain ⟨r1, h1, h⟩ := Option.bind_eq_some_iff.mp h
        refine aw_callV C (ci := 9) (b := 181) [.ref (rAid v6), .int (34 : Int32)] mv_X9_261 rfl rfl (hm_M f σ) (rmX9_plain ia6 h1) rfl dX9_escapes_166 (Nat.le_of_ble_eq_true rfl) (Nat.le_of_ble_eq_true rfl) rfl (Nat.le_of_ble_eq_true rfl) (Nat.le_of_ble_eq_true rfl) (Nat.le_of_ble_eq_true rfl) (fun v9 f9 n9 hh => ?_)
        obtain ⟨rfl, rfl, rfl⟩ := hh
        refine aw_fl [some (.ref 181), none, none, none, none, none, none, none, none] ⟨rfl, trivial⟩ ?_
        exact rmX9_escapes_b169 C h
    · rw [if_neg q] at h
      refine aw_iload_n C dX9_escapes_54 rfl ?_
      refine aw_iconst C 2 dX9_escapes_55 ki_2 ?_
      refine aw_icmp_ne C 73 dX9_escapes_56 (by decide) (fun q => ?_) (fun q => ?_)
      · rw [if_neg q] at h
        refine aw_iload_n C dX9_escapes_73 rfl ?_
        refine aw_iconst C 1 dX9_escapes_74 ki_1 ?_
        refine aw_icmp_eq C 107 dX9_escapes_75 (by decide) (fun q => ?_) (fun q => ?_)
        · rw [if_pos q] at h
          refine aw_iload_n C dX9_escapes_107 rfl ?_
          refine aw_if_ne C 116 dX9_escapes_108 (by decide) (fun q => ?_) (fun q => ?_)
          · rw [if_neg q] at h
            refine aw_fl [some (.ref 181), some (.int v1), some (.int v2), some (.int v3), some (.ref (rAid v4)), some (.int v5), some (.ref (rAid v6)), some (.int v7), some (.int v8)] ⟨rfl, ⟨rfl, ⟨rfl, ⟨rfl, ⟨rfl, ⟨rfl, ⟨rfl, ⟨rfl, ⟨rfl, trivial⟩⟩⟩⟩⟩⟩⟩⟩⟩ ?_
            exact rmX9_escapes_b116 C (fun v1 v2 v3 v4 v5 v6 v7 v8 σ ia4 ia6 h => ih v1 v2 v3 v4 v5 v6 v7 v8 σ ia4 ia6 h) ia4 ia6 h
          · rw [if_pos q] at h
            refine aw_iload C dX9_escapes_111 rfl ?_
            refine aw_if_eq C 139 dX9_escapes_113 (by decide) (fun q => ?_) (fun q => ?_)
            · rw [if_pos q] at h
              refine aw_fl [some (.ref 181), some (.int v1), some (.int v2), some (.int v3), some (.ref (rAid v4)), some (.int v5), some (.ref (rAid v6)), some (.int v7), some (.int v8)] ⟨rfl, ⟨rfl, ⟨rfl, ⟨rfl, ⟨rfl, ⟨rfl, ⟨rfl, ⟨rfl, ⟨rfl, trivial⟩⟩⟩⟩⟩⟩⟩⟩⟩ ?_
              exact rmX9_escapes_b139 C (fun v1 v2 v3 v4 v5 v6 v7 v8 σ ia4 ia6 h => ih v1 v2 v3 v4 v5 v6 v7 v8 σ ia4 ia6 h) ia4 ia6 h
            · rw [if_neg q] at h
              refine aw_fl [some (.ref 181), some (.int v1), some (.int v2), some (.int v3), some (.ref (rAid v4)), some (.int v5), some (.ref (rAid v6)), some (.int v7), some (.int v8)] ⟨rfl, ⟨rfl, ⟨rfl, ⟨rfl, ⟨rfl, ⟨rfl, ⟨rfl, ⟨rfl, ⟨rfl, trivial⟩⟩⟩⟩⟩⟩⟩⟩⟩ ?_
              exact rmX9_escapes_b116 C (fun v1 v2 v3 v4 v5 v6 v7 v8 σ ia4 ia6 h => ih v1 v2 v3 v4 v5 v6 v7 v8 σ ia4 ia6 h) ia4 ia6 h
        · rw [if_neg q] at h
          refine aw_ald_n C dX9_escapes_78 rfl ?_
          refine aw_iload_n C dX9_escapes_79 rfl ?_
          refine aw_ald C dX9_escapes_80 rfl ?_
          refine aw_ald C dX9_escapes_82 rfl ?_
          refine aw_iload C dX9_escapes_84 rfl ?_
          obtain ⟨hb2, h⟩ := ck_some h
          refine am_iald C (rGa σ v4 v8) ia4 (inb_vp hb2) rfl dX9_escapes_86 ?_
          refine aw_iload_n C dX9_escapes_87 rfl ?_
          refine aw_if_eq C 100 dX9_escapes_88 (by decide) (fun q => ?_) (fun q => ?_)
          · rw [if_pos q] at h
            refine aw_fl [some (.ref 181), some (.int v1), some (.int v2), some (.int v3), some (.ref (rAid v4)), some (.int v5), some (.ref (rAid v6)), some (.int v7), some (.int v8)] ⟨rfl, ⟨rfl, ⟨rfl, ⟨rfl, ⟨rfl, ⟨rfl, ⟨rfl, ⟨rfl, ⟨rfl, trivial⟩⟩⟩⟩⟩⟩⟩⟩⟩ ?_
            exact rmX9_escapes_b100 C (fun v1 v2 v3 v4 v5 v6 v7 v8 σ ia4 ia6 h => ih v1 v2 v3 v4 v5 v6 v7 v8 σ ia4 ia6 h) ia4 ia6 ia6 h
          · rw [if_neg q] at h
            refine aw_iload C dX9_escapes_91 rfl ?_
            refine aw_if_ne C 100 dX9_escapes_93 (by decide) (fun q => ?_) (fun q => ?_)
            · rw [if_neg q] at h
              refine aw_fl [some (.ref 181), some (.int v1), some (.int v2), some (.int v3), some (.ref (rAid v4)), some (.int v5), some (.ref (rAid v6)), some (.int v7), some (.int v8)] ⟨rfl, ⟨rfl, ⟨rfl, ⟨rfl, ⟨rfl, ⟨rfl, ⟨rfl, ⟨rfl, ⟨rfl, trivial⟩⟩⟩⟩⟩⟩⟩⟩⟩ ?_
              exact rmX9_escapes_b100 C (fun v1 v2 v3 v4 v5 v6 v7 v8 σ ia4 ia6 h => ih v1 v2 v3 v4 v5 v6 v7 v8 σ ia4 ia6 h) ia4 ia6 ia6 h
            · rw [if_pos q] at h
              refine aw_iconst C 1 dX9_escapes_96 ki_1 ?_
              refine aw_goto C 101 dX9_escapes_97 (by decide) ?_
              refine aw_fl [some (.ref 181), some (.int v1), some (.int v2), some (.int v3), some (.ref (rAid v4)), some (.int v5), some (.ref (rAid v6)), some (.int v7), some (.int v8)] ⟨rfl, ⟨rfl, ⟨rfl, ⟨rfl, ⟨rfl, ⟨rfl, ⟨rfl, ⟨rfl, ⟨rfl, trivial⟩⟩⟩⟩⟩⟩⟩⟩⟩ ?_
              exact rmX9_escapes_b101 C (fun v1 v2 v3 v4 v5 v6 v7 v8 σ ia4 ia6 h => ih v1 v2 v3 v4 v5 v6 v7 v8 σ ia4 ia6 h) ia4 ia6 ia6 h
      · rw [if_pos q] at h
        refine aw_ald_n C dX9_escapes_59 rfl ?_
        refine aw_ald C dX9_escapes_60 rfl ?_
        refine aw_ald C dX9_escapes_62 rfl ?_
        refine aw_iload C dX9_escapes_64 rfl ?_
        obtain ⟨hb3, h⟩ := ck_some h
        refine am_iald C (rGa σ v4 v8) ia4 (inb_vp hb3) rfl dX9_escapes_66 ?_
        obtain ⟨r4, h4, h⟩ := Option.bind_eq_some_iff.mp h
        refine aw_callV C (ci := 9) (b := 181) [.ref (rAid v6), .int (rGa σ v4 v8)] mv_X9_272 rfl rfl (hm_M f σ) (rmX9_escapesMarkup ia6 h4) rfl dX9_escapes_67 (Nat.le_of_ble_eq_true rfl) (Nat.le_of_ble_eq_true rfl) rfl (Nat.le_of_ble_eq_true rfl) (Nat.le_of_ble_eq_true rfl) (Nat.le_of_ble_eq_true rfl) (fun v9 f9 n9 hh => ?_)
        obtain ⟨rfl, rfl, rfl⟩ := hh
        refine aw_goto C 150 dX9_escapes_70 (by decide) ?_
        refine aw_fl [some (.ref 181), some (.int v1), some (.int v2), some (.int v3), some (.ref (rAid v4)), some (.int v5), some (.ref (rAid v6)), some (.int v7), some (.int v8)] ⟨rfl, ⟨rfl, ⟨rfl, ⟨rfl, ⟨rfl, ⟨rfl, ⟨rfl, ⟨rfl, ⟨rfl, trivial⟩⟩⟩⟩⟩⟩⟩⟩⟩ ?_
        exact rmX9_escapes_b150 C (fun v1 v2 v3 v4 v5 v6 v7 v8 σ ia4 ia6 h => ih v1 v2 v3 v4 v5 v6 v7 v8 σ ia4 ia6 h) ia4 ia6 h
def mX9_escapes_b44 (v1 : Int32) (v2 : Int32) (v3 : Int32) (v4 : Nat) (v5 : Int32) (v6 : Nat) (v7 : Int32) (σ : RS9) : Option (Int32 × RS9) := mX9_escapes_l47 rFU v1 v2 v3 v4 v5 v6 v7 (0 : Int32) σ
set_option maxHeartbeats 1000000 in
theorem rmX9_escapes_b44 {X : GX} {p : Program} {l : Launch} {e : Env} {s : State} {m : MethodId} {args : Array Value} {below : List Frame} {meth : Method} {c : Code} {f : AH} {n : Nat} {r : Int32 × RS9} {v1 : Int32} {v2 : Int32} {v3 : Int32} {v4 : Nat} {v5 : Int32} {v6 : Nat} {v7 : Int32} {σ : RS9} (C : CC X p l (RM 6 0 0) s m args meth c RX9 cX9_escapes 9 (some .int)) (ia4 : rIsA v4 = true) (ia6 : rIsA v6 = true) (h : mX9_escapes_b44 v1 v2 v3 v4 v5 v6 v7 σ = some r) : AW X p l e (RM 6 0 0) s m args below meth c 9 (ZM X below args s 0 0 (QMi f n r)) (rHm f σ) n 0 0 44 [some (.ref 181), some (.int v1), some (.int v2), some (.int v3), some (.ref (rAid v4)), some (.int v5), some (.ref (rAid v6)), some (.int v7), none] [] := by
  have h : mX9_escapes_l47 rFU v1 v2 v3 v4 v5 v6 v7 (0 : Int32) σ = some r := h
  refine aw_iconst C 0 dX9_escapes_44 ki_0 ?_
  refine aw_istore C dX9_escapes_45 (by decide) rfl ?_
  refine aw_nl [some (.ref 181), some (.int v1), some (.int v2), some (.int v3), some (.ref (rAid v4)), some (.int v5), some (.ref (rAid v6)), some (.int v7), some (.int (0 : Int32))] rfl ?_
  refine aw_fl [some (.ref 181), some (.int v1), some (.int v2), some (.int v3), some (.ref (rAid v4)), some (.int v5), some (.ref (rAid v6)), some (.int v7), some (.int (0 : Int32))] ⟨rfl, ⟨rfl, ⟨rfl, ⟨rfl, ⟨rfl, ⟨rfl, ⟨rfl, ⟨rfl, ⟨rfl, trivial⟩⟩⟩⟩⟩⟩⟩⟩⟩ ?_
  exact rmX9_escapes_l47 C rFU v1 v2 v3 v4 v5 v6 v7 (0 : Int32) σ ia4 ia6 h
def mX9_escapes_b29 (v1 : Int32) (v2 : Int32) (v3 : Int32) (v4 : Nat) (v5 : Int32) (v6 : Nat) (s0 : Int32) (σ : RS9) : Option (Int32 × RS9) := (if s0 = (0 : Int32) then mX9_escapes_b44 v1 v2 v3 v4 v5 v6 s0 σ else ((mX9_plain v6 (34 : Int32) σ).bind fun r1 => mX9_escapes_b44 v1 v2 v3 v4 v5 v6 s0 r1.2))
set_option maxHeartbeats 1000000 in
theorem rmX9_escapes_b29 {X : GX} {p : Program} {l : Launch} {e : Env} {s : State} {m : MethodId} {args : Array Value} {below : List Frame} {meth : Method} {c : Code} {f : AH} {n : Nat} {r : Int32 × RS9} {v1 : Int32} {v2 : Int32} {v3 : Int32} {v4 : Nat} {v5 : Int32} {v6 : Nat} {s0 : Int32} {σ : RS9} (C : CC X p l (RM 6 0 0) s m args meth c RX9 cX9_escapes 9 (some .int)) (ia4 : rIsA v4 = true) (ia6 : rIsA v6 = true) (h : mX9_escapes_b29 v1 v2 v3 v4 v5 v6 s0 σ = some r) : AW X p l e (RM 6 0 0) s m args below meth c 9 (ZM X below args s 0 0 (QMi f n r)) (rHm f σ) n 0 0 29 [some (.ref 181), some (.int v1), some (.int v2), some (.int v3), some (.ref (rAid v4)), some (.int v5), some (.ref (rAid v6)), none, none] [.int s0] := by
  have h : (if s0 = (0 : Int32) then mX9_escapes_b44 v1 v2 v3 v4 v5 v6 s0 σ else ((mX9_plain v6 (34 : Int32) σ).bind fun r1 => mX9_escapes_b44 v1 v2 v3 v4 v5 v6 s0 r1.2)) = some r := h
  refine aw_istore C dX9_escapes_29 (by decide) rfl ?_
  refine aw_nl [some (.ref 181), some (.int v1), some (.int v2), some (.int v3), some (.ref (rAid v4)), some (.int v5), some (.ref (rAid v6)), some (.int s0), none] rfl ?_
  refine aw_iload C dX9_escapes_31 rfl ?_
  refine aw_if_eq C 44 dX9_escapes_33 (by decide) (fun q => ?_) (fun q => ?_)
  · rw [if_pos q] at h
    refine aw_fl [some (.ref 181), some (.int v1), some (.int v2), some (.int v3), some (.ref (rAid v4)), some (.int v5), some (.ref (rAid v6)), some (.int s0), none] ⟨rfl, ⟨rfl, ⟨rfl, ⟨rfl, ⟨rfl, ⟨rfl, ⟨rfl, ⟨rfl, trivial⟩⟩⟩⟩⟩⟩⟩⟩ ?_
    exact rmX9_escapes_b44 C ia4 ia6 h
  · rw [if_neg q] at h
    refine aw_ald_n C dX9_escapes_36 rfl ?_
    refine aw_ald C dX9_escapes_37 rfl ?_
    refine aw_bipush C 34 dX9_escapes_39 kb_34 ?_
    obtain ⟨r1, h1, h⟩ := Option.bind_eq_some_iff.mp h
    refine aw_callV C (ci := 9) (b := 181) [.ref (rAid v6), .int (34 : Int32)] mv_X9_261 rfl rfl (hm_M f σ) (rmX9_plain ia6 h1) rfl dX9_escapes_41 (Nat.le_of_ble_eq_true rfl) (Nat.le_of_ble_eq_true rfl) rfl (Nat.le_of_ble_eq_true rfl) (Nat.le_of_ble_eq_true rfl) (Nat.le_of_ble_eq_true rfl) (fun v9 f9 n9 hh => ?_)
    obtain ⟨rfl, rfl, rfl⟩ := hh
    refine aw_fl [some (.ref 181), some (.int v1), some (.int v2), some (.int v3), some (.ref (rAid v4)), some (.int v5), some (.ref (rAid v6)), some (.int s0), none] ⟨rfl, ⟨rfl, ⟨rfl, ⟨rfl, ⟨rfl, ⟨rfl, ⟨rfl, ⟨rfl, trivial⟩⟩⟩⟩⟩⟩⟩⟩ ?_
    exact rmX9_escapes_b44 C ia4 ia6 h
def mX9_escapes_b28 (v1 : Int32) (v2 : Int32) (v3 : Int32) (v4 : Nat) (v5 : Int32) (v6 : Nat) (σ : RS9) : Option (Int32 × RS9) := mX9_escapes_b29 v1 v2 v3 v4 v5 v6 (0 : Int32) σ
set_option maxHeartbeats 1000000 in
theorem rmX9_escapes_b28 {X : GX} {p : Program} {l : Launch} {e : Env} {s : State} {m : MethodId} {args : Array Value} {below : List Frame} {meth : Method} {c : Code} {f : AH} {n : Nat} {r : Int32 × RS9} {v1 : Int32} {v2 : Int32} {v3 : Int32} {v4 : Nat} {v5 : Int32} {v6 : Nat} {σ : RS9} (C : CC X p l (RM 6 0 0) s m args meth c RX9 cX9_escapes 9 (some .int)) (ia4 : rIsA v4 = true) (ia6 : rIsA v6 = true) (h : mX9_escapes_b28 v1 v2 v3 v4 v5 v6 σ = some r) : AW X p l e (RM 6 0 0) s m args below meth c 9 (ZM X below args s 0 0 (QMi f n r)) (rHm f σ) n 0 0 28 [some (.ref 181), some (.int v1), some (.int v2), some (.int v3), some (.ref (rAid v4)), some (.int v5), some (.ref (rAid v6)), none, none] [] := by
  have h : mX9_escapes_b29 v1 v2 v3 v4 v5 v6 (0 : Int32) σ = some r := h
  refine aw_iconst C 0 dX9_escapes_28 ki_0 ?_
  refine aw_fl [some (.ref 181), some (.int v1), some (.int v2), some (.int v3), some (.ref (rAid v4)), some (.int v5), some (.ref (rAid v6)), none, none] ⟨rfl, ⟨rfl, ⟨rfl, ⟨rfl, ⟨rfl, ⟨rfl, ⟨rfl, trivial⟩⟩⟩⟩⟩⟩⟩ ?_
  exact rmX9_escapes_b29 C ia4 ia6 h
def mX9_escapes (v1 : Int32) (v2 : Int32) (v3 : Int32) (v4 : Nat) (v5 : Int32) (v6 : Nat) (σ : RS9) : Option (Int32 × RS9) := (if v1 = (1 : Int32) then (if v2 = (0 : Int32) then ((mX9_hasSign v4 v5 (rSf σ 56 (0 : Int32))).bind fun r1 => (if r1.1 = (0 : Int32) then mX9_escapes_b28 v1 v2 v3 v4 v5 v6 r1.2 else mX9_escapes_b29 v1 v2 v3 v4 v5 v6 (1 : Int32) r1.2)) else mX9_escapes_b28 v1 v2 v3 v4 v5 v6 (rSf σ 56 (0 : Int32))) else mX9_escapes_b28 v1 v2 v3 v4 v5 v6 (rSf σ 56 (0 : Int32)))
set_option maxHeartbeats 1000000 in
theorem rmX9_escapes {X : GX} {l : Launch} {f : AH} {n : Nat} {r : Int32 × RS9} {v1 : Int32} {v2 : Int32} {v3 : Int32} {v4 : Nat} {v5 : Int32} {v6 : Nat} {σ : RS9} (ia4 : rIsA v4 = true) (ia6 : rIsA v6 = true) (h : mX9_escapes v1 v2 v3 v4 v5 v6 σ = some r) : AM X l yX9_escapes cX9_escapes 9 (some .int) 6 0 0 [.ref 181, .int v1, .int v2, .int v3, .ref (rAid v4), .int v5, .ref (rAid v6)] (rHm f σ) n (QMi f n r) := by
  have h : (if v1 = (1 : Int32) then (if v2 = (0 : Int32) then ((mX9_hasSign v4 v5 (rSf σ 56 (0 : Int32))).bind fun r1 => (if r1.1 = (0 : Int32) then mX9_escapes_b28 v1 v2 v3 v4 v5 v6 r1.2 else mX9_escapes_b29 v1 v2 v3 v4 v5 v6 (1 : Int32) r1.2)) else mX9_escapes_b28 v1 v2 v3 v4 v5 v6 (rSf σ 56 (0 : Int32))) else mX9_escapes_b28 v1 v2 v3 v4 v5 v6 (rSf σ 56 (0 : Int32))) = some r := h
  refine AM.of (by decide +kernel) rfl (Nat.le_of_ble_eq_true rfl) (fun p e s m args below meth c C _ => ?_)
  refine aw_nl [some (.ref 181), some (.int v1), some (.int v2), some (.int v3), some (.ref (rAid v4)), some (.int v5), some (.ref (rAid v6)), none, none] rfl ?_
  refine aw_ald_n C dX9_escapes_0 rfl ?_
  refine aw_iconst C 0 dX9_escapes_1 ki_0 ?_
  refine am_put C gf_X9_254 nf9_56 rfl rfl dX9_escapes_2 ?_
  refine aw_iload_n C dX9_escapes_5 rfl ?_
  refine aw_iconst C 1 dX9_escapes_6 ki_1 ?_
  refine aw_icmp_ne C 28 dX9_escapes_7 (by decide) (fun q => ?_) (fun q => ?_)
  · rw [if_neg q] at h
    refine aw_fl [some (.ref 181), some (.int v1), some (.int v2), some (.int v3), some (.ref (rAid v4)), some (.int v5), some (.ref (rAid v6)), none, none] ⟨rfl, ⟨rfl, ⟨rfl, ⟨rfl, ⟨rfl, ⟨rfl, ⟨rfl, trivial⟩⟩⟩⟩⟩⟩⟩ ?_
    exact rmX9_escapes_b28 C ia4 ia6 h
  · rw [if_pos q] at h
    refine aw_iload_n C dX9_escapes_10 rfl ?_
    refine aw_if_ne C 28 dX9_escapes_11 (by decide) (fun q => ?_) (fun q => ?_)
    · rw [if_neg q] at h
      refine aw_fl [some (.ref 181), some (.int v1), some (.int v2), some (.int v3), some (.ref (rAid v4)), some (.int v5), some (.ref (rAid v6)), none, none] ⟨rfl, ⟨rfl, ⟨rfl, ⟨rfl, ⟨rfl, ⟨rfl, ⟨rfl, trivial⟩⟩⟩⟩⟩⟩⟩ ?_
      exact rmX9_escapes_b28 C ia4 ia6 h
    · rw [if_pos q] at h
      refine aw_ald C dX9_escapes_14 rfl ?_
      refine aw_iload C dX9_escapes_16 rfl ?_
      obtain ⟨r1, h1, h⟩ := Option.bind_eq_some_iff.mp h
      refine aw_callS C [.ref (rAid v4), .int v5] ms_X9_269 (rmX9_hasSign ia4 h1) rfl dX9_escapes_18 (Nat.le_of_ble_eq_true rfl) (Nat.le_of_ble_eq_true rfl) rfl (Nat.le_of_ble_eq_true rfl) (Nat.le_of_ble_eq_true rfl) (Nat.le_of_ble_eq_true rfl) (fun v9 f9 n9 hh => ?_)
      obtain ⟨rfl, rfl, rfl⟩ := hh
      refine aw_if_eq C 28 dX9_escapes_21 (by decide) (fun q => ?_) (fun q => ?_)
      · rw [if_pos q] at h
        refine aw_fl [some (.ref 181), some (.int v1), some (.int v2), some (.int v3), some (.ref (rAid v4)), some (.int v5), some (.ref (rAid v6)), none, none] ⟨rfl, ⟨rfl, ⟨rfl, ⟨rfl, ⟨rfl, ⟨rfl, ⟨rfl, trivial⟩⟩⟩⟩⟩⟩⟩ ?_
        exact rmX9_escapes_b28 C ia4 ia6 h
      · rw [if_neg q] at h
        refine aw_iconst C 1 dX9_escapes_24 ki_1 ?_
        refine aw_goto C 29 dX9_escapes_25 (by decide) ?_
        refine aw_fl [some (.ref 181), some (.int v1), some (.int v2), some (.int v3), some (.ref (rAid v4)), some (.int v5), some (.ref (rAid v6)), none, none] ⟨rfl, ⟨rfl, ⟨rfl, ⟨rfl, ⟨rfl, ⟨rfl, ⟨rfl, trivial⟩⟩⟩⟩⟩⟩⟩ ?_
        exact rmX9_escapes_b29 C ia4 ia6 h
def mX9_escapedFor_b165 (v3 : Int32) (s1 : Int32) (s2 : Int32) (s3 : Int32) (σ : RS9) : Option (Int32 × RS9) := ((mX9_escapes s1 s2 s3 46 v3 47 σ).bind fun r1 => some (r1.1, r1.2))
set_option maxHeartbeats 1000000 in
theorem rmX9_escapedFor_b165 {X : GX} {p : Program} {l : Launch} {e : Env} {s : State} {m : MethodId} {args : Array Value} {below : List Frame} {meth : Method} {c : Code} {f : AH} {n : Nat} {r : Int32 × RS9} {v3 : Int32} {s1 : Int32} {s2 : Int32} {s3 : Int32} {σ : RS9} (C : CC X p l (RM 7 0 0) s m args meth c RX9 cX9_escapedFor 4 (some .int)) (h : mX9_escapedFor_b165 v3 s1 s2 s3 σ = some r) : AW X p l e (RM 7 0 0) s m args below meth c 4 (ZM X below args s 0 0 (QMi f n r)) (rHm f σ) n 0 0 165 [some (.ref 181), none, none, some (.int v3)] [.int s3, .int s2, .int s1, .ref 181] := by
  have h : ((mX9_escapes s1 s2 s3 46 v3 47 σ).bind fun r1 => some (r1.1, r1.2)) = some r := h
  refine aw_ald_n C dX9_escapedFor_165 rfl ?_
  refine aw_get C (v := .ref (rAid 46)) gf_X9_114 (hm_M f σ) rfl dX9_escapedFor_166 ?_
  refine aw_iload_n C dX9_escapedFor_169 rfl ?_
  refine aw_ald_n C dX9_escapedFor_170 rfl ?_
  refine aw_get C (v := .ref (rAid 47)) gf_X9_117 (hm_M f σ) rfl dX9_escapedFor_171 ?_
  obtain ⟨r1, h1, h⟩ := Option.bind_eq_some_iff.mp h
  refine aw_callV C (ci := 9) (b := 181) [.int s1, .int s2, .int s3, .ref (rAid 46), .int v3, .ref (rAid 47)] mv_X9_279 rfl rfl (hm_M f σ) (rmX9_escapes rfl rfl h1) rfl dX9_escapedFor_174 (Nat.le_of_ble_eq_true rfl) (Nat.le_of_ble_eq_true rfl) rfl (Nat.le_of_ble_eq_true rfl) (Nat.le_of_ble_eq_true rfl) (Nat.le_of_ble_eq_true rfl) (fun v9 f9 n9 hh => ?_)
  obtain ⟨rfl, rfl, rfl⟩ := hh
  cases h
  exact aw_iret C rfl rfl dX9_escapedFor_177 (Nat.le_refl _) (Nat.le_refl _) ⟨rfl, rfl, rfl⟩
def mX9_escapedFor_b150 (v1 : Int32) (v3 : Int32) (s1 : Int32) (s2 : Int32) (σ : RS9) : Option (Int32 × RS9) := rCk (rIn v1 (rLen 38)) ((if (rGa σ 38 v1) = (1 : Int32) then mX9_escapedFor_b165 v3 s1 s2 (1 : Int32) σ else mX9_escapedFor_b165 v3 s1 s2 (0 : Int32) σ))
set_option maxHeartbeats 1000000 in
theorem rmX9_escapedFor_b150 {X : GX} {p : Program} {l : Launch} {e : Env} {s : State} {m : MethodId} {args : Array Value} {below : List Frame} {meth : Method} {c : Code} {f : AH} {n : Nat} {r : Int32 × RS9} {v1 : Int32} {v3 : Int32} {s1 : Int32} {s2 : Int32} {σ : RS9} (C : CC X p l (RM 7 0 0) s m args meth c RX9 cX9_escapedFor 4 (some .int)) (h : mX9_escapedFor_b150 v1 v3 s1 s2 σ = some r) : AW X p l e (RM 7 0 0) s m args below meth c 4 (ZM X below args s 0 0 (QMi f n r)) (rHm f σ) n 0 0 150 [some (.ref 181), some (.int v1), none, some (.int v3)] [.int s2, .int s1, .ref 181] := by
  have h : rCk (rIn v1 (rLen 38)) ((if (rGa σ 38 v1) = (1 : Int32) then mX9_escapedFor_b165 v3 s1 s2 (1 : Int32) σ else mX9_escapedFor_b165 v3 s1 s2 (0 : Int32) σ)) = some r := h
  refine aw_ald_n C dX9_escapedFor_150 rfl ?_
  refine aw_get C (v := .ref (rAid 38)) gf_X9_93 (hm_M f σ) rfl dX9_escapedFor_151 ?_
  refine aw_iload_n C dX9_escapedFor_154 rfl ?_
  obtain ⟨hb1, h⟩ := ck_some h
  refine am_iald C (rGa σ 38 v1) rfl (inb_vp hb1) rfl dX9_escapedFor_155 ?_
  refine aw_iconst C 1 dX9_escapedFor_156 ki_1 ?_
  refine aw_icmp_ne C 164 dX9_escapedFor_157 (by decide) (fun q => ?_) (fun q => ?_)
  · rw [if_neg q] at h
    refine aw_iconst C 0 dX9_escapedFor_164 ki_0 ?_
    refine aw_fl [some (.ref 181), none, none, some (.int v3)] ⟨rfl, ⟨rfl, trivial⟩⟩ ?_
    exact rmX9_escapedFor_b165 C h
  · rw [if_pos q] at h
    refine aw_iconst C 1 dX9_escapedFor_160 ki_1 ?_
    refine aw_goto C 165 dX9_escapedFor_161 (by decide) ?_
    refine aw_fl [some (.ref 181), none, none, some (.int v3)] ⟨rfl, ⟨rfl, trivial⟩⟩ ?_
    exact rmX9_escapedFor_b165 C h
def mX9_escapedFor_b128 (v1 : Int32) (v3 : Int32) (σ : RS9) : Option (Int32 × RS9) := rCk (rIn (1 : Int32) (rLen 1)) (rCk (rIn v1 (rLen 36)) ((if (rGa σ 36 v1) = (1 : Int32) then mX9_escapedFor_b150 v1 v3 (rGa σ 1 (1 : Int32)) (1 : Int32) σ else mX9_escapedFor_b150 v1 v3 (rGa σ 1 (1 : Int32)) (0 : Int32) σ)))
set_option maxHeartbeats 1000000 in
theorem rmX9_escapedFor_b128 {X : GX} {p : Program} {l : Launch} {e : Env} {s : State} {m : MethodId} {args : Array Value} {below : List Frame} {meth : Method} {c : Code} {f : AH} {n : Nat} {r : Int32 × RS9} {v1 : Int32} {v3 : Int32} {σ : RS9} (C : CC X p l (RM 7 0 0) s m args meth c RX9 cX9_escapedFor 4 (some .int)) (h : mX9_escapedFor_b128 v1 v3 σ = some r) : AW X p l e (RM 7 0 0) s m args below meth c 4 (ZM X below args s 0 0 (QMi f n r)) (rHm f σ) n 0 0 128 [some (.ref 181), some (.int v1), none, some (.int v3)] [] := by
  have h : rCk (rIn (1 : Int32) (rLen 1)) (rCk (rIn v1 (rLen 36)) ((if (rGa σ 36 v1) = (1 : Int32) then mX9_escapedFor_b150 v1 v3 (rGa σ 1 (1 : Int32)) (1 : Int32) σ else mX9_escapedFor_b150 v1 v3 (rGa σ 1 (1 : Int32)) (0 : Int32) σ))) = some r := h
  refine aw_ald_n C dX9_escapedFor_128 rfl ?_
  refine aw_ald_n C dX9_escapedFor_129 rfl ?_
  refine aw_get C (v := .ref (rAid 1)) gf_X9_7 (hm_M f σ) rfl dX9_escapedFor_130 ?_
  refine aw_iconst C 1 dX9_escapedFor_133 ki_1 ?_
  obtain ⟨hb1, h⟩ := ck_some h
  refine am_iald C (rGa σ 1 (1 : Int32)) rfl (inb_vp hb1) rfl dX9_escapedFor_134 ?_
  refine aw_ald_n C dX9_escapedFor_135 rfl ?_
  refine aw_get C (v := .ref (rAid 36)) gf_X9_87 (hm_M f σ) rfl dX9_escapedFor_136 ?_
  refine aw_iload_n C dX9_escapedFor_139 rfl ?_
  obtain ⟨hb2, h⟩ := ck_some h
  refine am_iald C (rGa σ 36 v1) rfl (inb_vp hb2) rfl dX9_escapedFor_140 ?_
  refine aw_iconst C 1 dX9_escapedFor_141 ki_1 ?_
  refine aw_icmp_ne C 149 dX9_escapedFor_142 (by decide) (fun q => ?_) (fun q => ?_)
  · rw [if_neg q] at h
    refine aw_iconst C 0 dX9_escapedFor_149 ki_0 ?_
    refine aw_fl [some (.ref 181), some (.int v1), none, some (.int v3)] ⟨rfl, ⟨rfl, ⟨rfl, trivial⟩⟩⟩ ?_
    exact rmX9_escapedFor_b150 C h
  · rw [if_pos q] at h
    refine aw_iconst C 1 dX9_escapedFor_145 ki_1 ?_
    refine aw_goto C 150 dX9_escapedFor_146 (by decide) ?_
    refine aw_fl [some (.ref 181), some (.int v1), none, some (.int v3)] ⟨rfl, ⟨rfl, ⟨rfl, trivial⟩⟩⟩ ?_
    exact rmX9_escapedFor_b150 C h
def mX9_escapedFor_b82 (v1 : Int32) (v2 : Int32) (s1 : Int32) (s2 : Int32) (σ : RS9) : Option (Int32 × RS9) := ((mX9_escapes s1 s2 (1 : Int32) 53 v2 46 σ).bind fun r1 => rCk (rIn (1 : Int32) (rLen 1)) ((if (rGa r1.2 1 (1 : Int32)) = (1 : Int32) then rCk (rIn v1 (rLen 36)) ((if (rGa r1.2 36 v1) = (0 : Int32) then ((mX9_hasSign 46 r1.1 r1.2).bind fun r4 => (if r4.1 = (0 : Int32) then mX9_escapedFor_b128 v1 r1.1 r4.2 else some ((-1 : Int32), r4.2))) else mX9_escapedFor_b128 v1 r1.1 r1.2)) else mX9_escapedFor_b128 v1 r1.1 r1.2)))
set_option maxHeartbeats 1000000 in
theorem rmX9_escapedFor_b82 {X : GX} {p : Program} {l : Launch} {e : Env} {s : State} {m : MethodId} {args : Array Value} {below : List Frame} {meth : Method} {c : Code} {f : AH} {n : Nat} {r : Int32 × RS9} {v1 : Int32} {v2 : Int32} {s1 : Int32} {s2 : Int32} {σ : RS9} (C : CC X p l (RM 7 0 0) s m args meth c RX9 cX9_escapedFor 4 (some .int)) (h : mX9_escapedFor_b82 v1 v2 s1 s2 σ = some r) : AW X p l e (RM 7 0 0) s m args below meth c 4 (ZM X below args s 0 0 (QMi f n r)) (rHm f σ) n 0 0 82 [some (.ref 181), some (.int v1), some (.int v2), none] [.int s2, .int s1, .ref 181] := by
  have h : ((mX9_escapes s1 s2 (1 : Int32) 53 v2 46 σ).bind fun r1 => rCk (rIn (1 : Int32) (rLen 1)) ((if (rGa r1.2 1 (1 : Int32)) = (1 : Int32) then rCk (rIn v1 (rLen 36)) ((if (rGa r1.2 36 v1) = (0 : Int32) then ((mX9_hasSign 46 r1.1 r1.2).bind fun r4 => (if r4.1 = (0 : Int32) then mX9_escapedFor_b128 v1 r1.1 r4.2 else some ((-1 : Int32), r4.2))) else mX9_escapedFor_b128 v1 r1.1 r1.2)) else mX9_escapedFor_b128 v1 r1.1 r1.2))) = some r := h
  refine aw_iconst C 1 dX9_escapedFor_82 ki_1 ?_
  refine aw_ald_n C dX9_escapedFor_83 rfl ?_
  refine aw_get C (v := .ref (rAid 53)) gf_X9_132 (hm_M f σ) rfl dX9_escapedFor_84 ?_
  refine aw_iload_n C dX9_escapedFor_87 rfl ?_
  refine aw_ald_n C dX9_escapedFor_88 rfl ?_
  refine aw_get C (v := .ref (rAid 46)) gf_X9_114 (hm_M f σ) rfl dX9_escapedFor_89 ?_
  obtain ⟨r1, h1, h⟩ := Option.bind_eq_some_iff.mp h
  refine aw_callV C (ci := 9) (b := 181) [.int s1, .int s2, .int (1 : Int32), .ref (rAid 53), .int v2, .ref (rAid 46)] mv_X9_279 rfl rfl (hm_M f σ) (rmX9_escapes rfl rfl h1) rfl dX9_escapedFor_92 (Nat.le_of_ble_eq_true rfl) (Nat.le_of_ble_eq_true rfl) rfl (Nat.le_of_ble_eq_true rfl) (Nat.le_of_ble_eq_true rfl) (Nat.le_of_ble_eq_true rfl) (fun v9 f9 n9 hh => ?_)
  obtain ⟨rfl, rfl, rfl⟩ := hh
  refine aw_istore_n C dX9_escapedFor_95 (by decide) rfl ?_
  refine aw_nl [some (.ref 181), some (.int v1), some (.int v2), some (.int r1.1)] rfl ?_
  refine aw_ald_n C dX9_escapedFor_96 rfl ?_
  refine aw_get C (v := .ref (rAid 1)) gf_X9_7 (hm_M f r1.2) rfl dX9_escapedFor_97 ?_
  refine aw_iconst C 1 dX9_escapedFor_100 ki_1 ?_
  obtain ⟨hb2, h⟩ := ck_some h
  refine am_iald C (rGa r1.2 1 (1 : Int32)) rfl (inb_vp hb2) rfl dX9_escapedFor_101 ?_
  refine aw_iconst C 1 dX9_escapedFor_102 ki_1 ?_
  refine aw_icmp_ne C 128 dX9_escapedFor_103 (by decide) (fun q => ?_) (fun q => ?_)
  · rw [if_neg q] at h
    refine aw_fl [some (.ref 181), some (.int v1), none, some (.int r1.1)] ⟨rfl, ⟨rfl, ⟨rfl, trivial⟩⟩⟩ ?_
    exact rmX9_escapedFor_b128 C h
  · rw [if_pos q] at h
    refine aw_ald_n C dX9_escapedFor_106 rfl ?_
    refine aw_get C (v := .ref (rAid 36)) gf_X9_87 (hm_M f r1.2) rfl dX9_escapedFor_107 ?_
    refine aw_iload_n C dX9_escapedFor_110 rfl ?_
    obtain ⟨hb3, h⟩ := ck_some h
    refine am_iald C (rGa r1.2 36 v1) rfl (inb_vp hb3) rfl dX9_escapedFor_111 ?_
    refine aw_if_ne C 128 dX9_escapedFor_112 (by decide) (fun q => ?_) (fun q => ?_)
    · rw [if_neg q] at h
      refine aw_fl [some (.ref 181), some (.int v1), none, some (.int r1.1)] ⟨rfl, ⟨rfl, ⟨rfl, trivial⟩⟩⟩ ?_
      exact rmX9_escapedFor_b128 C h
    · rw [if_pos q] at h
      refine aw_ald_n C dX9_escapedFor_115 rfl ?_
      refine aw_get C (v := .ref (rAid 46)) gf_X9_114 (hm_M f r1.2) rfl dX9_escapedFor_116 ?_
      refine aw_iload_n C dX9_escapedFor_119 rfl ?_
      obtain ⟨r4, h4, h⟩ := Option.bind_eq_some_iff.mp h
      refine aw_callS C [.ref (rAid 46), .int r1.1] ms_X9_269 (rmX9_hasSign rfl h4) rfl dX9_escapedFor_120 (Nat.le_of_ble_eq_true rfl) (Nat.le_of_ble_eq_true rfl) rfl (Nat.le_of_ble_eq_true rfl) (Nat.le_of_ble_eq_true rfl) (Nat.le_of_ble_eq_true rfl) (fun v9 f9 n9 hh => ?_)
      obtain ⟨rfl, rfl, rfl⟩ := hh
      refine aw_if_eq C 128 dX9_escapedFor_123 (by decide) (fun q => ?_) (fun q => ?_)
      · rw [if_pos q] at h
        refine aw_fl [some (.ref 181), some (.int v1), none, some (.int r1.1)] ⟨rfl, ⟨rfl, ⟨rfl, trivial⟩⟩⟩ ?_
        exact rmX9_escapedFor_b128 C h
      · rw [if_neg q] at h
        refine aw_iconst C (-1) dX9_escapedFor_126 ki_m1 ?_
        cases h
        exact aw_iret C rfl rfl dX9_escapedFor_127 (Nat.le_refl _) (Nat.le_refl _) ⟨rfl, rfl, rfl⟩
def mX9_escapedFor_b47 (v2 : Int32) (s1 : Int32) (s2 : Int32) (s3 : Int32) (σ : RS9) : Option (Int32 × RS9) := ((mX9_escapes s1 s2 s3 53 v2 47 σ).bind fun r1 => some (r1.1, r1.2))
set_option maxHeartbeats 1000000 in
theorem rmX9_escapedFor_b47 {X : GX} {p : Program} {l : Launch} {e : Env} {s : State} {m : MethodId} {args : Array Value} {below : List Frame} {meth : Method} {c : Code} {f : AH} {n : Nat} {r : Int32 × RS9} {v2 : Int32} {s1 : Int32} {s2 : Int32} {s3 : Int32} {σ : RS9} (C : CC X p l (RM 7 0 0) s m args meth c RX9 cX9_escapedFor 4 (some .int)) (h : mX9_escapedFor_b47 v2 s1 s2 s3 σ = some r) : AW X p l e (RM 7 0 0) s m args below meth c 4 (ZM X below args s 0 0 (QMi f n r)) (rHm f σ) n 0 0 47 [some (.ref 181), none, some (.int v2), none] [.int s3, .int s2, .int s1, .ref 181] := by
  have h : ((mX9_escapes s1 s2 s3 53 v2 47 σ).bind fun r1 => some (r1.1, r1.2)) = some r := h
  refine aw_ald_n C dX9_escapedFor_47 rfl ?_
  refine aw_get C (v := .ref (rAid 53)) gf_X9_132 (hm_M f σ) rfl dX9_escapedFor_48 ?_
  refine aw_iload_n C dX9_escapedFor_51 rfl ?_
  refine aw_ald_n C dX9_escapedFor_52 rfl ?_
  refine aw_get C (v := .ref (rAid 47)) gf_X9_117 (hm_M f σ) rfl dX9_escapedFor_53 ?_
  obtain ⟨r1, h1, h⟩ := Option.bind_eq_some_iff.mp h
  refine aw_callV C (ci := 9) (b := 181) [.int s1, .int s2, .int s3, .ref (rAid 53), .int v2, .ref (rAid 47)] mv_X9_279 rfl rfl (hm_M f σ) (rmX9_escapes rfl rfl h1) rfl dX9_escapedFor_56 (Nat.le_of_ble_eq_true rfl) (Nat.le_of_ble_eq_true rfl) rfl (Nat.le_of_ble_eq_true rfl) (Nat.le_of_ble_eq_true rfl) (Nat.le_of_ble_eq_true rfl) (fun v9 f9 n9 hh => ?_)
  obtain ⟨rfl, rfl, rfl⟩ := hh
  cases h
  exact aw_iret C rfl rfl dX9_escapedFor_59 (Nat.le_refl _) (Nat.le_refl _) ⟨rfl, rfl, rfl⟩
def mX9_escapedFor_b32 (v1 : Int32) (v2 : Int32) (s1 : Int32) (s2 : Int32) (σ : RS9) : Option (Int32 × RS9) := rCk (rIn v1 (rLen 38)) ((if (rGa σ 38 v1) = (1 : Int32) then mX9_escapedFor_b47 v2 s1 s2 (1 : Int32) σ else mX9_escapedFor_b47 v2 s1 s2 (0 : Int32) σ))
set_option maxHeartbeats 1000000 in
theorem rmX9_escapedFor_b32 {X : GX} {p : Program} {l : Launch} {e : Env} {s : State} {m : MethodId} {args : Array Value} {below : List Frame} {meth : Method} {c : Code} {f : AH} {n : Nat} {r : Int32 × RS9} {v1 : Int32} {v2 : Int32} {s1 : Int32} {s2 : Int32} {σ : RS9} (C : CC X p l (RM 7 0 0) s m args meth c RX9 cX9_escapedFor 4 (some .int)) (h : mX9_escapedFor_b32 v1 v2 s1 s2 σ = some r) : AW X p l e (RM 7 0 0) s m args below meth c 4 (ZM X below args s 0 0 (QMi f n r)) (rHm f σ) n 0 0 32 [some (.ref 181), some (.int v1), some (.int v2), none] [.int s2, .int s1, .ref 181] := by
  have h : rCk (rIn v1 (rLen 38)) ((if (rGa σ 38 v1) = (1 : Int32) then mX9_escapedFor_b47 v2 s1 s2 (1 : Int32) σ else mX9_escapedFor_b47 v2 s1 s2 (0 : Int32) σ)) = some r := h
  refine aw_ald_n C dX9_escapedFor_32 rfl ?_
  refine aw_get C (v := .ref (rAid 38)) gf_X9_93 (hm_M f σ) rfl dX9_escapedFor_33 ?_
  refine aw_iload_n C dX9_escapedFor_36 rfl ?_
  obtain ⟨hb1, h⟩ := ck_some h
  refine am_iald C (rGa σ 38 v1) rfl (inb_vp hb1) rfl dX9_escapedFor_37 ?_
  refine aw_iconst C 1 dX9_escapedFor_38 ki_1 ?_
  refine aw_icmp_ne C 46 dX9_escapedFor_39 (by decide) (fun q => ?_) (fun q => ?_)
  · rw [if_neg q] at h
    refine aw_iconst C 0 dX9_escapedFor_46 ki_0 ?_
    refine aw_fl [some (.ref 181), none, some (.int v2), none] ⟨rfl, ⟨rfl, trivial⟩⟩ ?_
    exact rmX9_escapedFor_b47 C h
  · rw [if_pos q] at h
    refine aw_iconst C 1 dX9_escapedFor_42 ki_1 ?_
    refine aw_goto C 47 dX9_escapedFor_43 (by decide) ?_
    refine aw_fl [some (.ref 181), none, some (.int v2), none] ⟨rfl, ⟨rfl, trivial⟩⟩ ?_
    exact rmX9_escapedFor_b47 C h
def mX9_escapedFor (v1 : Int32) (v2 : Int32) (σ : RS9) : Option (Int32 × RS9) := rCk (rIn (2 : Int32) (rLen 1)) ((if (rGa σ 1 (2 : Int32)) = (-1 : Int32) then rCk (rIn (1 : Int32) (rLen 1)) (rCk (rIn v1 (rLen 36)) ((if (rGa σ 36 v1) = (1 : Int32) then mX9_escapedFor_b32 v1 v2 (rGa σ 1 (1 : Int32)) (1 : Int32) σ else mX9_escapedFor_b32 v1 v2 (rGa σ 1 (1 : Int32)) (0 : Int32) σ))) else rCk (rIn (2 : Int32) (rLen 1)) (rCk (rIn v1 (rLen 37)) ((if (rGa σ 37 v1) = (1 : Int32) then mX9_escapedFor_b82 v1 v2 (rGa σ 1 (2 : Int32)) (1 : Int32) σ else mX9_escapedFor_b82 v1 v2 (rGa σ 1 (2 : Int32)) (0 : Int32) σ)))))
set_option maxHeartbeats 1000000 in
theorem rmX9_escapedFor {X : GX} {l : Launch} {f : AH} {n : Nat} {r : Int32 × RS9} {v1 : Int32} {v2 : Int32} {σ : RS9} (h : mX9_escapedFor v1 v2 σ = some r) : AM X l yX9_escapedFor cX9_escapedFor 4 (some .int) 7 0 0 [.ref 181, .int v1, .int v2] (rHm f σ) n (QMi f n r) := by
  have h : rCk (rIn (2 : Int32) (rLen 1)) ((if (rGa σ 1 (2 : Int32)) = (-1 : Int32) then rCk (rIn (1 : Int32) (rLen 1)) (rCk (rIn v1 (rLen 36)) ((if (rGa σ 36 v1) = (1 : Int32) then mX9_escapedFor_b32 v1 v2 (rGa σ 1 (1 : Int32)) (1 : Int32) σ else mX9_escapedFor_b32 v1 v2 (rGa σ 1 (1 : Int32)) (0 : Int32) σ))) else rCk (rIn (2 : Int32) (rLen 1)) (rCk (rIn v1 (rLen 37)) ((if (rGa σ 37 v1) = (1 : Int32) then mX9_escapedFor_b82 v1 v2 (rGa σ 1 (2 : Int32)) (1 : Int32) σ else mX9_escapedFor_b82 v1 v2 (rGa σ 1 (2 : Int32)) (0 : Int32) σ))))) = some r := h
  refine AM.of (by decide +kernel) rfl (Nat.le_of_ble_eq_true rfl) (fun p e s m args below meth c C _ => ?_)
  refine aw_nl [some (.ref 181), some (.int v1), some (.int v2), none] rfl ?_
  refine aw_ald_n C dX9_escapedFor_0 rfl ?_
  refine aw_get C (v := .ref (rAid 1)) gf_X9_7 (hm_M f σ) rfl dX9_escapedFor_1 ?_
  refine aw_iconst C 2 dX9_escapedFor_4 ki_2 ?_
  obtain ⟨hb1, h⟩ := ck_some h
  refine am_iald C (rGa σ 1 (2 : Int32)) rfl (inb_vp hb1) rfl dX9_escapedFor_5 ?_
  refine aw_iconst C (-1) dX9_escapedFor_6 ki_m1 ?_
  refine aw_icmp_ne C 60 dX9_escapedFor_7 (by decide) (fun q => ?_) (fun q => ?_)
  · rw [if_neg q] at h
    refine aw_ald_n C dX9_escapedFor_60 rfl ?_
    refine aw_ald_n C dX9_escapedFor_61 rfl ?_
    refine aw_get C (v := .ref (rAid 1)) gf_X9_7 (hm_M f σ) rfl dX9_escapedFor_62 ?_
    refine aw_iconst C 2 dX9_escapedFor_65 ki_2 ?_
    obtain ⟨hb2, h⟩ := ck_some h
    refine am_iald C (rGa σ 1 (2 : Int32)) rfl (inb_vp hb2) rfl dX9_escapedFor_66 ?_
    refine aw_ald_n C dX9_escapedFor_67 rfl ?_
    refine aw_get C (v := .ref (rAid 37)) gf_X9_90 (hm_M f σ) rfl dX9_escapedFor_68 ?_
    refine aw_iload_n C dX9_escapedFor_71 rfl ?_
    obtain ⟨hb3, h⟩ := ck_some h
    refine am_iald C (rGa σ 37 v1) rfl (inb_vp hb3) rfl dX9_escapedFor_72 ?_
    refine aw_iconst C 1 dX9_escapedFor_73 ki_1 ?_
    refine aw_icmp_ne C 81 dX9_escapedFor_74 (by decide) (fun q => ?_) (fun q => ?_)
    · rw [if_neg q] at h
      refine aw_iconst C 0 dX9_escapedFor_81 ki_0 ?_
      refine aw_fl [some (.ref 181), some (.int v1), some (.int v2), none] ⟨rfl, ⟨rfl, ⟨rfl, trivial⟩⟩⟩ ?_
      exact rmX9_escapedFor_b82 C h
    · rw [if_pos q] at h
      refine aw_iconst C 1 dX9_escapedFor_77 ki_1 ?_
      refine aw_goto C 82 dX9_escapedFor_78 (by decide) ?_
      refine aw_fl [some (.ref 181), some (.int v1), some (.int v2), none] ⟨rfl, ⟨rfl, ⟨rfl, trivial⟩⟩⟩ ?_
      exact rmX9_escapedFor_b82 C h
  · rw [if_pos q] at h
    refine aw_ald_n C dX9_escapedFor_10 rfl ?_
    refine aw_ald_n C dX9_escapedFor_11 rfl ?_
    refine aw_get C (v := .ref (rAid 1)) gf_X9_7 (hm_M f σ) rfl dX9_escapedFor_12 ?_
    refine aw_iconst C 1 dX9_escapedFor_15 ki_1 ?_
    obtain ⟨hb4, h⟩ := ck_some h
    refine am_iald C (rGa σ 1 (1 : Int32)) rfl (inb_vp hb4) rfl dX9_escapedFor_16 ?_
    refine aw_ald_n C dX9_escapedFor_17 rfl ?_
    refine aw_get C (v := .ref (rAid 36)) gf_X9_87 (hm_M f σ) rfl dX9_escapedFor_18 ?_
    refine aw_iload_n C dX9_escapedFor_21 rfl ?_
    obtain ⟨hb5, h⟩ := ck_some h
    refine am_iald C (rGa σ 36 v1) rfl (inb_vp hb5) rfl dX9_escapedFor_22 ?_
    refine aw_iconst C 1 dX9_escapedFor_23 ki_1 ?_
    refine aw_icmp_ne C 31 dX9_escapedFor_24 (by decide) (fun q => ?_) (fun q => ?_)
    · rw [if_neg q] at h
      refine aw_iconst C 0 dX9_escapedFor_31 ki_0 ?_
      refine aw_fl [some (.ref 181), some (.int v1), some (.int v2), none] ⟨rfl, ⟨rfl, ⟨rfl, trivial⟩⟩⟩ ?_
      exact rmX9_escapedFor_b32 C h
    · rw [if_pos q] at h
      refine aw_iconst C 1 dX9_escapedFor_27 ki_1 ?_
      refine aw_goto C 32 dX9_escapedFor_28 (by decide) ?_
      refine aw_fl [some (.ref 181), some (.int v1), some (.int v2), none] ⟨rfl, ⟨rfl, ⟨rfl, trivial⟩⟩⟩ ?_
      exact rmX9_escapedFor_b32 C h
def mX9_builtOf (v1 : Int32) (σ : RS9) : Option (Int32 × RS9) := ((mX9_toldOf v1 σ).bind fun r1 => (if r1.1 = (-1 : Int32) then rCk (rIn v1 (rLen 35)) (rCk (rIn v1 (rLen 34)) (some (((rGa r1.2 35 v1) - (rGa r1.2 34 v1)), r1.2))) else ((mX9_holdsTold v1 r1.2).bind fun r2 => ((mX9_toldOf v1 r2.2).bind fun r3 => ((mX9_escapedFor v1 r3.1 r3.2).bind fun r4 => some (r4.1, r4.2))))))
set_option maxHeartbeats 1000000 in
theorem rmX9_builtOf {X : GX} {l : Launch} {f : AH} {n : Nat} {r : Int32 × RS9} {v1 : Int32} {σ : RS9} (h : mX9_builtOf v1 σ = some r) : AM X l yX9_builtOf cX9_builtOf 2 (some .int) 8 0 0 [.ref 181, .int v1] (rHm f σ) n (QMi f n r) := by
  have h : ((mX9_toldOf v1 σ).bind fun r1 => (if r1.1 = (-1 : Int32) then rCk (rIn v1 (rLen 35)) (rCk (rIn v1 (rLen 34)) (some (((rGa r1.2 35 v1) - (rGa r1.2 34 v1)), r1.2))) else ((mX9_holdsTold v1 r1.2).bind fun r2 => ((mX9_toldOf v1 r2.2).bind fun r3 => ((mX9_escapedFor v1 r3.1 r3.2).bind fun r4 => some (r4.1, r4.2)))))) = some r := h
  refine AM.of (by decide +kernel) rfl (Nat.le_of_ble_eq_true rfl) (fun p e s m args below meth c C _ => ?_)
  refine aw_nl [some (.ref 181), some (.int v1)] rfl ?_
  refine aw_ald_n C dX9_builtOf_0 rfl ?_
  refine aw_iload_n C dX9_builtOf_1 rfl ?_
  obtain ⟨r1, h1, h⟩ := Option.bind_eq_some_iff.mp h
  refine aw_callV C (ci := 9) (b := 181) [.int v1] mv_X9_247 rfl rfl (hm_M f σ) (rmX9_toldOf h1) rfl dX9_builtOf_2 (Nat.le_of_ble_eq_true rfl) (Nat.le_of_ble_eq_true rfl) rfl (Nat.le_of_ble_eq_true rfl) (Nat.le_of_ble_eq_true rfl) (Nat.le_of_ble_eq_true rfl) (fun v9 f9 n9 hh => ?_)
  obtain ⟨rfl, rfl, rfl⟩ := hh
  refine aw_iconst C (-1) dX9_builtOf_5 ki_m1 ?_
  refine aw_icmp_ne C 23 dX9_builtOf_6 (by decide) (fun q => ?_) (fun q => ?_)
  · rw [if_neg q] at h
    refine aw_ald_n C dX9_builtOf_23 rfl ?_
    refine aw_iload_n C dX9_builtOf_24 rfl ?_
    obtain ⟨r2, h2, h⟩ := Option.bind_eq_some_iff.mp h
    refine aw_callV C (ci := 9) (b := 181) [.int v1] mv_X9_283 rfl rfl (hm_M f r1.2) (rmX9_holdsTold h2) rfl dX9_builtOf_25 (Nat.le_of_ble_eq_true rfl) (Nat.le_of_ble_eq_true rfl) rfl (Nat.le_of_ble_eq_true rfl) (Nat.le_of_ble_eq_true rfl) (Nat.le_of_ble_eq_true rfl) (fun v9 f9 n9 hh => ?_)
    obtain ⟨rfl, rfl, rfl⟩ := hh
    refine aw_ald_n C dX9_builtOf_28 rfl ?_
    refine aw_iload_n C dX9_builtOf_29 rfl ?_
    refine aw_ald_n C dX9_builtOf_30 rfl ?_
    refine aw_iload_n C dX9_builtOf_31 rfl ?_
    obtain ⟨r3, h3, h⟩ := Option.bind_eq_some_iff.mp h
    refine aw_callV C (ci := 9) (b := 181) [.int v1] mv_X9_247 rfl rfl (hm_M f r2.2) (rmX9_toldOf h3) rfl dX9_builtOf_32 (Nat.le_of_ble_eq_true rfl) (Nat.le_of_ble_eq_true rfl) rfl (Nat.le_of_ble_eq_true rfl) (Nat.le_of_ble_eq_true rfl) (Nat.le_of_ble_eq_true rfl) (fun v9 f9 n9 hh => ?_)
    obtain ⟨rfl, rfl, rfl⟩ := hh
    obtain ⟨r4, h4, h⟩ := Option.bind_eq_some_iff.mp h
    refine aw_callV C (ci := 9) (b := 181) [.int v1, .int r3.1] mv_X9_287 rfl rfl (hm_M f r3.2) (rmX9_escapedFor h4) rfl dX9_builtOf_35 (Nat.le_of_ble_eq_true rfl) (Nat.le_of_ble_eq_true rfl) rfl (Nat.le_of_ble_eq_true rfl) (Nat.le_of_ble_eq_true rfl) (Nat.le_of_ble_eq_true rfl) (fun v9 f9 n9 hh => ?_)
    obtain ⟨rfl, rfl, rfl⟩ := hh
    cases h
    exact aw_iret C rfl rfl dX9_builtOf_38 (Nat.le_refl _) (Nat.le_refl _) ⟨rfl, rfl, rfl⟩
  · rw [if_pos q] at h
    refine aw_ald_n C dX9_builtOf_9 rfl ?_
    refine aw_get C (v := .ref (rAid 35)) gf_X9_84 (hm_M f r1.2) rfl dX9_builtOf_10 ?_
    refine aw_iload_n C dX9_builtOf_13 rfl ?_
    obtain ⟨hb5, h⟩ := ck_some h
    refine am_iald C (rGa r1.2 35 v1) rfl (inb_vp hb5) rfl dX9_builtOf_14 ?_
    refine aw_ald_n C dX9_builtOf_15 rfl ?_
    refine aw_get C (v := .ref (rAid 34)) gf_X9_81 (hm_M f r1.2) rfl dX9_builtOf_16 ?_
    refine aw_iload_n C dX9_builtOf_19 rfl ?_
    obtain ⟨hb6, h⟩ := ck_some h
    refine am_iald C (rGa r1.2 34 v1) rfl (inb_vp hb6) rfl dX9_builtOf_20 ?_
    refine aw_isub C dX9_builtOf_21 ?_
    cases h
    exact aw_iret C rfl rfl dX9_builtOf_22 (Nat.le_refl _) (Nat.le_refl _) ⟨rfl, rfl, rfl⟩
