/-! part 22ac.ref -/
section
def mX9_cutsTable_b151 (rec3 : Nat → Int32 → Nat → Nat → Nat → Int32 → RS9 → Option (Int32 × RS9)) (v1 : Nat) (v2 : Int32) (v3 : Nat) (v4 : Nat) (v5 : Nat) (v7 : Int32) (σ : RS9) : Option (Int32 × RS9) := rec3 v1 v2 v3 v4 v5 (v7 + (1 : Int32)) σ
set_option maxHeartbeats 1000000 in
theorem rmX9_cutsTable_b151 {X : GX} {p : Program} {l : Launch} {e : Env} {s : State} {m : MethodId} {args : Array Value} {below : List Frame} {meth : Method} {c : Code} {f : AH} {n : Nat} {r : Int32 × RS9} {rec3 : Nat → Int32 → Nat → Nat → Nat → Int32 → RS9 → Option (Int32 × RS9)} {v1 : Nat} {v2 : Int32} {v3 : Nat} {v4 : Nat} {v5 : Nat} {v7 : Int32} {σ : RS9} (C : CC X p l (RM 1 0 0) s m args meth c RX9 cX9_cutsTable 9 none) (Hr3 : ∀ (v1 : Nat) (v2 : Int32) (v3 : Nat) (v4 : Nat) (v5 : Nat) (v6 : Int32) (σ : RS9), rIsA v1 = true → rIsA v3 = true → rIsA v4 = true → rIsA v5 = true → rec3 v1 v2 v3 v4 v5 v6 σ = some r → AW X p l e (RM 1 0 0) s m args below meth c 9 (ZM X below args s 0 0 (QMv f n r)) (rHm f σ) n 0 0 3 [some (.ref 181), some (.ref (rAid v1)), some (.int v2), some (.ref (rAid v3)), some (.ref (rAid v4)), some (.ref (rAid v5)), some (.int v6), none, none] []) (ia1 : rIsA v1 = true) (ia3 : rIsA v3 = true) (ia4 : rIsA v4 = true) (ia5 : rIsA v5 = true) (h : mX9_cutsTable_b151 rec3 v1 v2 v3 v4 v5 v7 σ = some r) : AW X p l e (RM 1 0 0) s m args below meth c 9 (ZM X below args s 0 0 (QMv f n r)) (rHm f σ) n 0 0 151 [some (.ref 181), some (.ref (rAid v1)), some (.int v2), some (.ref (rAid v3)), some (.ref (rAid v4)), some (.ref (rAid v5)), none, some (.int v7), none] [] := by
  have h : rec3 v1 v2 v3 v4 v5 (v7 + (1 : Int32)) σ = some r := h
  refine aw_iload C dX9_cutsTable_151 rfl ?_
  refine aw_iconst C 1 dX9_cutsTable_153 ki_1 ?_
  refine aw_iadd C dX9_cutsTable_154 ?_
  refine aw_istore C dX9_cutsTable_155 (by decide) rfl ?_
  refine aw_nl [some (.ref 181), some (.ref (rAid v1)), some (.int v2), some (.ref (rAid v3)), some (.ref (rAid v4)), some (.ref (rAid v5)), some (.int (v7 + (1 : Int32))), some (.int v7), none] rfl ?_
  refine aw_goto C 3 dX9_cutsTable_157 (by decide) ?_
  refine aw_fl [some (.ref 181), some (.ref (rAid v1)), some (.int v2), some (.ref (rAid v3)), some (.ref (rAid v4)), some (.ref (rAid v5)), some (.int (v7 + (1 : Int32))), none, none] ⟨rfl, ⟨rfl, ⟨rfl, ⟨rfl, ⟨rfl, ⟨rfl, ⟨rfl, trivial⟩⟩⟩⟩⟩⟩⟩ ?_
  exact Hr3 v1 v2 v3 v4 v5 (v7 + (1 : Int32)) σ ia1 ia3 ia4 ia5 h
def mX9_cutsTable_b132 (rec3 : Nat → Int32 → Nat → Nat → Nat → Int32 → RS9 → Option (Int32 × RS9)) (v1 : Nat) (v2 : Int32) (v3 : Nat) (v4 : Nat) (v5 : Nat) (s0 : Int32) (σ : RS9) : Option (Int32 × RS9) := mX9_cutsTable_b151 rec3 v1 v2 v3 v4 v5 s0 σ
set_option maxHeartbeats 1000000 in
theorem rmX9_cutsTable_b132 {X : GX} {p : Program} {l : Launch} {e : Env} {s : State} {m : MethodId} {args : Array Value} {below : List Frame} {meth : Method} {c : Code} {f : AH} {n : Nat} {r : Int32 × RS9} {rec3 : Nat → Int32 → Nat → Nat → Nat → Int32 → RS9 → Option (Int32 × RS9)} {v1 : Nat} {v2 : Int32} {v3 : Nat} {v4 : Nat} {v5 : Nat} {s0 : Int32} {σ : RS9} (C : CC X p l (RM 1 0 0) s m args meth c RX9 cX9_cutsTable 9 none) (Hr3 : ∀ (v1 : Nat) (v2 : Int32) (v3 : Nat) (v4 : Nat) (v5 : Nat) (v6 : Int32) (σ : RS9), rIsA v1 = true → rIsA v3 = true → rIsA v4 = true → rIsA v5 = true → rec3 v1 v2 v3 v4 v5 v6 σ = some r → AW X p l e (RM 1 0 0) s m args below meth c 9 (ZM X below args s 0 0 (QMv f n r)) (rHm f σ) n 0 0 3 [some (.ref 181), some (.ref (rAid v1)), some (.int v2), some (.ref (rAid v3)), some (.ref (rAid v4)), some (.ref (rAid v5)), some (.int v6), none, none] []) (ia1 : rIsA v1 = true) (ia3 : rIsA v3 = true) (ia4 : rIsA v4 = true) (ia5 : rIsA v5 = true) (h : mX9_cutsTable_b132 rec3 v1 v2 v3 v4 v5 s0 σ = some r) : AW X p l e (RM 1 0 0) s m args below meth c 9 (ZM X below args s 0 0 (QMv f n r)) (rHm f σ) n 0 0 132 [some (.ref 181), some (.ref (rAid v1)), some (.int v2), some (.ref (rAid v3)), some (.ref (rAid v4)), some (.ref (rAid v5)), none, none, none] [.int s0] := by
  have h : mX9_cutsTable_b151 rec3 v1 v2 v3 v4 v5 s0 σ = some r := h
  refine aw_istore C dX9_cutsTable_132 (by decide) rfl ?_
  refine aw_nl [some (.ref 181), some (.ref (rAid v1)), some (.int v2), some (.ref (rAid v3)), some (.ref (rAid v4)), some (.ref (rAid v5)), none, some (.int s0), none] rfl ?_
  refine aw_goto C 151 dX9_cutsTable_134 (by decide) ?_
  refine aw_fl [some (.ref 181), some (.ref (rAid v1)), some (.int v2), some (.ref (rAid v3)), some (.ref (rAid v4)), some (.ref (rAid v5)), none, some (.int s0), none] ⟨rfl, ⟨rfl, ⟨rfl, ⟨rfl, ⟨rfl, ⟨rfl, ⟨rfl, trivial⟩⟩⟩⟩⟩⟩⟩ ?_
  exact rmX9_cutsTable_b151 C Hr3 ia1 ia3 ia4 ia5 h
def mX9_cutsTable_b93 (rec3 : Nat → Int32 → Nat → Nat → Nat → Int32 → RS9 → Option (Int32 × RS9)) (v1 : Nat) (v2 : Int32) (v3 : Nat) (v4 : Nat) (v5 : Nat) (v6 : Int32) (v8 : Int32) (σ : RS9) : Option (Int32 × RS9) := ((mX9_finds v3 v4 v5 (v6 + (1 : Int32)) v8 (1 : Int32) σ).bind fun r1 => (if v2 ≤ v8 then mX9_cutsTable_b132 rec3 v1 v2 v3 v4 v5 v2 r1.2 else ((mX9_endOf v1 v2 (v8 + (1 : Int32)) (44 : Int32) (10 : Int32) r1.2).bind fun r2 => mX9_cutsTable_b132 rec3 v1 v2 v3 v4 v5 r2.1 r2.2)))
set_option maxHeartbeats 1000000 in
theorem rmX9_cutsTable_b93 {X : GX} {p : Program} {l : Launch} {e : Env} {s : State} {m : MethodId} {args : Array Value} {below : List Frame} {meth : Method} {c : Code} {f : AH} {n : Nat} {r : Int32 × RS9} {rec3 : Nat → Int32 → Nat → Nat → Nat → Int32 → RS9 → Option (Int32 × RS9)} {v1 : Nat} {v2 : Int32} {v3 : Nat} {v4 : Nat} {v5 : Nat} {v6 : Int32} {v8 : Int32} {σ : RS9} (C : CC X p l (RM 1 0 0) s m args meth c RX9 cX9_cutsTable 9 none) (Hr3 : ∀ (v1 : Nat) (v2 : Int32) (v3 : Nat) (v4 : Nat) (v5 : Nat) (v6 : Int32) (σ : RS9), rIsA v1 = true → rIsA v3 = true → rIsA v4 = true → rIsA v5 = true → rec3 v1 v2 v3 v4 v5 v6 σ = some r → AW X p l e (RM 1 0 0) s m args below meth c 9 (ZM X below args s 0 0 (QMv f n r)) (rHm f σ) n 0 0 3 [some (.ref 181), some (.ref (rAid v1)), some (.int v2), some (.ref (rAid v3)), some (.ref (rAid v4)), some (.ref (rAid v5)), some (.int v6), none, none] []) (ia1 : rIsA v1 = true) (ia3 : rIsA v3 = true) (ia4 : rIsA v4 = true) (ia5 : rIsA v5 = true) (h : mX9_cutsTable_b93 rec3 v1 v2 v3 v4 v5 v6 v8 σ = some r) : AW X p l e (RM 1 0 0) s m args below meth c 9 (ZM X below args s 0 0 (QMv f n r)) (rHm f σ) n 0 0 93 [some (.ref 181), some (.ref (rAid v1)), some (.int v2), some (.ref (rAid v3)), some (.ref (rAid v4)), some (.ref (rAid v5)), some (.int v6), none, some (.int v8)] [] := by
  have h : ((mX9_finds v3 v4 v5 (v6 + (1 : Int32)) v8 (1 : Int32) σ).bind fun r1 => (if v2 ≤ v8 then mX9_cutsTable_b132 rec3 v1 v2 v3 v4 v5 v2 r1.2 else ((mX9_endOf v1 v2 (v8 + (1 : Int32)) (44 : Int32) (10 : Int32) r1.2).bind fun r2 => mX9_cutsTable_b132 rec3 v1 v2 v3 v4 v5 r2.1 r2.2))) = some r := h
  refine aw_ald_n C dX9_cutsTable_93 rfl ?_
  refine aw_ald_n C dX9_cutsTable_94 rfl ?_
  refine aw_ald C dX9_cutsTable_95 rfl ?_
  refine aw_ald C dX9_cutsTable_97 rfl ?_
  refine aw_iload C dX9_cutsTable_99 rfl ?_
  refine aw_iconst C 1 dX9_cutsTable_101 ki_1 ?_
  refine aw_iadd C dX9_cutsTable_102 ?_
  refine aw_iload C dX9_cutsTable_103 rfl ?_
  refine aw_iconst C 1 dX9_cutsTable_105 ki_1 ?_
  obtain ⟨r1, h1, h⟩ := Option.bind_eq_some_iff.mp h
  refine aw_callV C (ci := 9) (b := 181) [.ref (rAid v3), .ref (rAid v4), .ref (rAid v5), .int (v6 + (1 : Int32)), .int v8, .int (1 : Int32)] mv_X9_152 rfl rfl (hm_M f σ) (rmX9_finds ia3 ia4 ia5 h1) rfl dX9_cutsTable_106 (Nat.le_of_ble_eq_true rfl) (Nat.le_of_ble_eq_true rfl) rfl (Nat.le_of_ble_eq_true rfl) (Nat.le_of_ble_eq_true rfl) (Nat.le_of_ble_eq_true rfl) (fun v9 f9 n9 hh => ?_)
  obtain ⟨rfl, rfl, rfl⟩ := hh
  refine aw_iload C dX9_cutsTable_109 rfl ?_
  refine aw_iload_n C dX9_cutsTable_111 rfl ?_
  refine aw_icmp_ge C 131 dX9_cutsTable_112 (by decide) (fun q => ?_) (fun q => ?_)
  · rw [if_pos q] at h
    refine aw_iload_n C dX9_cutsTable_131 rfl ?_
    refine aw_fl [some (.ref 181), some (.ref (rAid v1)), some (.int v2), some (.ref (rAid v3)), some (.ref (rAid v4)), some (.ref (rAid v5)), none, none, none] ⟨rfl, ⟨rfl, ⟨rfl, ⟨rfl, ⟨rfl, ⟨rfl, trivial⟩⟩⟩⟩⟩⟩ ?_
    exact rmX9_cutsTable_b132 C Hr3 ia1 ia3 ia4 ia5 h
  · rw [if_neg q] at h
    refine aw_ald_n C dX9_cutsTable_115 rfl ?_
    refine aw_iload_n C dX9_cutsTable_116 rfl ?_
    refine aw_iload C dX9_cutsTable_117 rfl ?_
    refine aw_iconst C 1 dX9_cutsTable_119 ki_1 ?_
    refine aw_iadd C dX9_cutsTable_120 ?_
    refine aw_bipush C 44 dX9_cutsTable_121 kb_44 ?_
    refine aw_bipush C 10 dX9_cutsTable_123 kb_10 ?_
    obtain ⟨r2, h2, h⟩ := Option.bind_eq_some_iff.mp h
    refine aw_callS C [.ref (rAid v1), .int v2, .int (v8 + (1 : Int32)), .int (44 : Int32), .int (10 : Int32)] ms_X9_148 (rmX9_endOf ia1 h2) rfl dX9_cutsTable_125 (Nat.le_of_ble_eq_true rfl) (Nat.le_of_ble_eq_true rfl) rfl (Nat.le_of_ble_eq_true rfl) (Nat.le_of_ble_eq_true rfl) (Nat.le_of_ble_eq_true rfl) (fun v9 f9 n9 hh => ?_)
    obtain ⟨rfl, rfl, rfl⟩ := hh
    refine aw_goto C 132 dX9_cutsTable_128 (by decide) ?_
    refine aw_fl [some (.ref 181), some (.ref (rAid v1)), some (.int v2), some (.ref (rAid v3)), some (.ref (rAid v4)), some (.ref (rAid v5)), none, none, none] ⟨rfl, ⟨rfl, ⟨rfl, ⟨rfl, ⟨rfl, ⟨rfl, trivial⟩⟩⟩⟩⟩⟩ ?_
    exact rmX9_cutsTable_b132 C Hr3 ia1 ia3 ia4 ia5 h
def mX9_cutsTable_b87 (rec3 : Nat → Int32 → Nat → Nat → Nat → Int32 → RS9 → Option (Int32 × RS9)) (rec37 : Nat → Int32 → Nat → Nat → Nat → Int32 → Int32 → RS9 → Option (Int32 × RS9)) (v1 : Nat) (v2 : Int32) (v3 : Nat) (v4 : Nat) (v5 : Nat) (v6 : Int32) (s0 : Int32) (s1 : Int32) (σ : RS9) : Option (Int32 × RS9) := rec37 v1 v2 v3 v4 v5 v6 (s0 + s1) σ
set_option maxHeartbeats 1000000 in
theorem rmX9_cutsTable_b87 {X : GX} {p : Program} {l : Launch} {e : Env} {s : State} {m : MethodId} {args : Array Value} {below : List Frame} {meth : Method} {c : Code} {f : AH} {n : Nat} {r : Int32 × RS9} {rec3 : Nat → Int32 → Nat → Nat → Nat → Int32 → RS9 → Option (Int32 × RS9)} {rec37 : Nat → Int32 → Nat → Nat → Nat → Int32 → Int32 → RS9 → Option (Int32 × RS9)} {v1 : Nat} {v2 : Int32} {v3 : Nat} {v4 : Nat} {v5 : Nat} {v6 : Int32} {s0 : Int32} {s1 : Int32} {σ : RS9} (C : CC X p l (RM 1 0 0) s m args meth c RX9 cX9_cutsTable 9 none) (Hr3 : ∀ (v1 : Nat) (v2 : Int32) (v3 : Nat) (v4 : Nat) (v5 : Nat) (v6 : Int32) (σ : RS9), rIsA v1 = true → rIsA v3 = true → rIsA v4 = true → rIsA v5 = true → rec3 v1 v2 v3 v4 v5 v6 σ = some r → AW X p l e (RM 1 0 0) s m args below meth c 9 (ZM X below args s 0 0 (QMv f n r)) (rHm f σ) n 0 0 3 [some (.ref 181), some (.ref (rAid v1)), some (.int v2), some (.ref (rAid v3)), some (.ref (rAid v4)), some (.ref (rAid v5)), some (.int v6), none, none] []) (Hr37 : ∀ (v1 : Nat) (v2 : Int32) (v3 : Nat) (v4 : Nat) (v5 : Nat) (v6 : Int32) (v8 : Int32) (σ : RS9), rIsA v1 = true → rIsA v3 = true → rIsA v4 = true → rIsA v5 = true → rec37 v1 v2 v3 v4 v5 v6 v8 σ = some r → AW X p l e (RM 1 0 0) s m args below meth c 9 (ZM X below args s 0 0 (QMv f n r)) (rHm f σ) n 0 0 37 [some (.ref 181), some (.ref (rAid v1)), some (.int v2), some (.ref (rAid v3)), some (.ref (rAid v4)), some (.ref (rAid v5)), some (.int v6), none, some (.int v8)] []) (ia1 : rIsA v1 = true) (ia3 : rIsA v3 = true) (ia4 : rIsA v4 = true) (ia5 : rIsA v5 = true) (h : mX9_cutsTable_b87 rec3 rec37 v1 v2 v3 v4 v5 v6 s0 s1 σ = some r) : AW X p l e (RM 1 0 0) s m args below meth c 9 (ZM X below args s 0 0 (QMv f n r)) (rHm f σ) n 0 0 87 [some (.ref 181), some (.ref (rAid v1)), some (.int v2), some (.ref (rAid v3)), some (.ref (rAid v4)), some (.ref (rAid v5)), some (.int v6), none, none] [.int s1, .int s0] := by
  have h : rec37 v1 v2 v3 v4 v5 v6 (s0 + s1) σ = some r := h
  refine aw_iadd C dX9_cutsTable_87 ?_
  refine aw_istore C dX9_cutsTable_88 (by decide) rfl ?_
  refine aw_nl [some (.ref 181), some (.ref (rAid v1)), some (.int v2), some (.ref (rAid v3)), some (.ref (rAid v4)), some (.ref (rAid v5)), some (.int v6), none, some (.int (s0 + s1))] rfl ?_
  refine aw_goto C 37 dX9_cutsTable_90 (by decide) ?_
  refine aw_fl [some (.ref 181), some (.ref (rAid v1)), some (.int v2), some (.ref (rAid v3)), some (.ref (rAid v4)), some (.ref (rAid v5)), some (.int v6), none, some (.int (s0 + s1))] ⟨rfl, ⟨rfl, ⟨rfl, ⟨rfl, ⟨rfl, ⟨rfl, ⟨rfl, ⟨rfl, trivial⟩⟩⟩⟩⟩⟩⟩⟩ ?_
  exact Hr37 v1 v2 v3 v4 v5 v6 (s0 + s1) σ ia1 ia3 ia4 ia5 h
def mX9_cutsTable_b71 (rec3 : Nat → Int32 → Nat → Nat → Nat → Int32 → RS9 → Option (Int32 × RS9)) (rec37 : Nat → Int32 → Nat → Nat → Nat → Int32 → Int32 → RS9 → Option (Int32 × RS9)) (v1 : Nat) (v2 : Int32) (v3 : Nat) (v4 : Nat) (v5 : Nat) (v6 : Int32) (v8 : Int32) (σ : RS9) : Option (Int32 × RS9) := rCk (rIn v8 (rLen v1)) ((if (rGa σ v1 v8) = (34 : Int32) then mX9_cutsTable_b87 rec3 rec37 v1 v2 v3 v4 v5 v6 v8 (2 : Int32) σ else mX9_cutsTable_b87 rec3 rec37 v1 v2 v3 v4 v5 v6 v8 (1 : Int32) σ))
set_option maxHeartbeats 1000000 in
theorem rmX9_cutsTable_b71 {X : GX} {p : Program} {l : Launch} {e : Env} {s : State} {m : MethodId} {args : Array Value} {below : List Frame} {meth : Method} {c : Code} {f : AH} {n : Nat} {r : Int32 × RS9} {rec3 : Nat → Int32 → Nat → Nat → Nat → Int32 → RS9 → Option (Int32 × RS9)} {rec37 : Nat → Int32 → Nat → Nat → Nat → Int32 → Int32 → RS9 → Option (Int32 × RS9)} {v1 : Nat} {v2 : Int32} {v3 : Nat} {v4 : Nat} {v5 : Nat} {v6 : Int32} {v8 : Int32} {σ : RS9} (C : CC X p l (RM 1 0 0) s m args meth c RX9 cX9_cutsTable 9 none) (Hr3 : ∀ (v1 : Nat) (v2 : Int32) (v3 : Nat) (v4 : Nat) (v5 : Nat) (v6 : Int32) (σ : RS9), rIsA v1 = true → rIsA v3 = true → rIsA v4 = true → rIsA v5 = true → rec3 v1 v2 v3 v4 v5 v6 σ = some r → AW X p l e (RM 1 0 0) s m args below meth c 9 (ZM X below args s 0 0 (QMv f n r)) (rHm f σ) n 0 0 3 [some (.ref 181), some (.ref (rAid v1)), some (.int v2), some (.ref (rAid v3)), some (.ref (rAid v4)), some (.ref (rAid v5)), some (.int v6), none, none] []) (Hr37 : ∀ (v1 : Nat) (v2 : Int32) (v3 : Nat) (v4 : Nat) (v5 : Nat) (v6 : Int32) (v8 : Int32) (σ : RS9), rIsA v1 = true → rIsA v3 = true → rIsA v4 = true → rIsA v5 = true → rec37 v1 v2 v3 v4 v5 v6 v8 σ = some r → AW X p l e (RM 1 0 0) s m args below meth c 9 (ZM X below args s 0 0 (QMv f n r)) (rHm f σ) n 0 0 37 [some (.ref 181), some (.ref (rAid v1)), some (.int v2), some (.ref (rAid v3)), some (.ref (rAid v4)), some (.ref (rAid v5)), some (.int v6), none, some (.int v8)] []) (ia1 : rIsA v1 = true) (ia3 : rIsA v3 = true) (ia4 : rIsA v4 = true) (ia5 : rIsA v5 = true) (h : mX9_cutsTable_b71 rec3 rec37 v1 v2 v3 v4 v5 v6 v8 σ = some r) : AW X p l e (RM 1 0 0) s m args below meth c 9 (ZM X below args s 0 0 (QMv f n r)) (rHm f σ) n 0 0 71 [some (.ref 181), some (.ref (rAid v1)), some (.int v2), some (.ref (rAid v3)), some (.ref (rAid v4)), some (.ref (rAid v5)), some (.int v6), none, some (.int v8)] [] := by
  have h : rCk (rIn v8 (rLen v1)) ((if (rGa σ v1 v8) = (34 : Int32) then mX9_cutsTable_b87 rec3 rec37 v1 v2 v3 v4 v5 v6 v8 (2 : Int32) σ else mX9_cutsTable_b87 rec3 rec37 v1 v2 v3 v4 v5 v6 v8 (1 : Int32) σ)) = some r := h
  refine aw_iload C dX9_cutsTable_71 rfl ?_
  refine aw_ald_n C dX9_cutsTable_73 rfl ?_
  refine aw_iload C dX9_cutsTable_74 rfl ?_
  obtain ⟨hb1, h⟩ := ck_some h
  refine am_iald C (rGa σ v1 v8) ia1 (inb_vp hb1) rfl dX9_cutsTable_76 ?_
  refine aw_bipush C 34 dX9_cutsTable_77 kb_34 ?_
  refine aw_icmp_ne C 86 dX9_cutsTable_79 (by decide) (fun q => ?_) (fun q => ?_)
  · rw [if_neg q] at h
    refine aw_iconst C 1 dX9_cutsTable_86 ki_1 ?_
    refine aw_fl [some (.ref 181), some (.ref (rAid v1)), some (.int v2), some (.ref (rAid v3)), some (.ref (rAid v4)), some (.ref (rAid v5)), some (.int v6), none, none] ⟨rfl, ⟨rfl, ⟨rfl, ⟨rfl, ⟨rfl, ⟨rfl, ⟨rfl, trivial⟩⟩⟩⟩⟩⟩⟩ ?_
    exact rmX9_cutsTable_b87 C Hr3 Hr37 ia1 ia3 ia4 ia5 h
  · rw [if_pos q] at h
    refine aw_iconst C 2 dX9_cutsTable_82 ki_2 ?_
    refine aw_goto C 87 dX9_cutsTable_83 (by decide) ?_
    refine aw_fl [some (.ref 181), some (.ref (rAid v1)), some (.int v2), some (.ref (rAid v3)), some (.ref (rAid v4)), some (.ref (rAid v5)), some (.int v6), none, none] ⟨rfl, ⟨rfl, ⟨rfl, ⟨rfl, ⟨rfl, ⟨rfl, ⟨rfl, trivial⟩⟩⟩⟩⟩⟩⟩ ?_
    exact rmX9_cutsTable_b87 C Hr3 Hr37 ia1 ia3 ia4 ia5 h
def mX9_cutsTable_l37 (rec3 : Nat → Int32 → Nat → Nat → Nat → Int32 → RS9 → Option (Int32 × RS9)) : Nat → Nat → Int32 → Nat → Nat → Nat → Int32 → Int32 → RS9 → Option (Int32 × RS9)
  | 0, _, _, _, _, _, _, _, _ => none
  | d + 1, v1, v2, v3, v4, v5, v6, v8, σ => (if v2 ≤ v8 then mX9_cutsTable_b93 rec3 v1 v2 v3 v4 v5 v6 v8 σ else rCk (rIn v8 (rLen v1)) ((if (rGa σ v1 v8) = (34 : Int32) then (if v2 ≤ (v8 + (1 : Int32)) then mX9_cutsTable_b93 rec3 v1 v2 v3 v4 v5 v6 v8 σ else rCk (rIn (v8 + (1 : Int32)) (rLen v1)) ((if (rGa σ v1 (v8 + (1 : Int32))) = (34 : Int32) then mX9_cutsTable_b71 rec3 (fun v1 v2 v3 v4 v5 v6 v8 σ => mX9_cutsTable_l37 rec3 d v1 v2 v3 v4 v5 v6 v8 σ) v1 v2 v3 v4 v5 v6 v8 σ else mX9_cutsTable_b93 rec3 v1 v2 v3 v4 v5 v6 v8 σ))) else mX9_cutsTable_b71 rec3 (fun v1 v2 v3 v4 v5 v6 v8 σ => mX9_cutsTable_l37 rec3 d v1 v2 v3 v4 v5 v6 v8 σ) v1 v2 v3 v4 v5 v6 v8 σ)))
set_option maxHeartbeats 1000000 in
theorem rmX9_cutsTable_l37 {X : GX} {p : Program} {l : Launch} {e : Env} {s : State} {m : MethodId} {args : Array Value} {below : List Frame} {meth : Method} {c : Code} {f : AH} {n : Nat} {r : Int32 × RS9} {rec3 : Nat → Int32 → Nat → Nat → Nat → Int32 → RS9 → Option (Int32 × RS9)} (C : CC X p l (RM 1 0 0) s m args meth c RX9 cX9_cutsTable 9 none) (Hr3 : ∀ (v1 : Nat) (v2 : Int32) (v3 : Nat) (v4 : Nat) (v5 : Nat) (v6 : Int32) (σ : RS9), rIsA v1 = true → rIsA v3 = true → rIsA v4 = true → rIsA v5 = true → rec3 v1 v2 v3 v4 v5 v6 σ = some r → AW X p l e (RM 1 0 0) s m args below meth c 9 (ZM X below args s 0 0 (QMv f n r)) (rHm f σ) n 0 0 3 [some (.ref 181), some (.ref (rAid v1)), some (.int v2), some (.ref (rAid v3)), some (.ref (rAid v4)), some (.ref (rAid v5)), some (.int v6), none, none] []) : ∀ (d : Nat) (v1 : Nat) (v2 : Int32) (v3 : Nat) (v4 : Nat) (v5 : Nat) (v6 : Int32) (v8 : Int32) (σ : RS9) (_ : rIsA v1 = true) (_ : rIsA v3 = true) (_ : rIsA v4 = true) (_ : rIsA v5 = true) (_ : mX9_cutsTable_l37 rec3 d v1 v2 v3 v4 v5 v6 v8 σ = some r), AW X p l e (RM 1 0 0) s m args below meth c 9 (ZM X below args s 0 0 (QMv f n r)) (rHm f σ) n 0 0 37 [some (.ref 181), some (.ref (rAid v1)), some (.int v2), some (.ref (rAid v3)), some (.ref (rAid v4)), some (.ref (rAid v5)), some (.int v6), none, some (.int v8)] [] := by
  intro d
  induction d with
  | zero =>
    intro v1 v2 v3 v4 v5 v6 v8 σ ia1 ia3 ia4 ia5 h
    exact nomatch (show (none : Option (Int32 × RS9)) = some r from h)
  | succ d ih =>
    intro v1 v2 v3 v4 v5 v6 v8 σ ia1 ia3 ia4 ia5 h
    have h : (if v2 ≤ v8 then mX9_cutsTable_b93 rec3 v1 v2 v3 v4 v5 v6 v8 σ else rCk (rIn v8 (rLen v1)) ((if (rGa σ v1 v8) = (34 : Int32) then (if v2 ≤ (v8 + (1 : Int32)) then mX9_cutsTable_b93 rec3 v1 v2 v3 v4 v5 v6 v8 σ else rCk (rIn (v8 + (1 : Int32)) (rLen v1)) ((if (rGa σ v1 (v8 + (1 : Int32))) = (34 : Int32) then mX9_cutsTable_b71 rec3 (fun v1 v2 v3 v4 v5 v6 v8 σ => mX9_cutsTable_l37 rec3 d v1 v2 v3 v4 v5 v6 v8 σ) v1 v2 v3 v4 v5 v6 v8 σ else mX9_cutsTable_b93 rec3 v1 v2 v3 v4 v5 v6 v8 σ))) else mX9_cutsTable_b71 rec3 (fun v1 v2 v3 v4 v5 v6 v8 σ => mX9_cutsTable_l37 rec3 d v1 v2 v3 v4 v5 v6 v8 σ) v1 v2 v3 v4 v5 v6 v8 σ))) = some r := h
    refine aw_iload C dX9_cutsTable_37 rfl ?_
    refine aw_iload_n C dX9_cutsTable_39 rfl ?_
    refine aw_icmp_ge C 93 dX9_cutsTable_40 (by decide) (fun q => ?_) (fun q => ?_)
    · rw [if_pos q] at h
      refine aw_fl [some (.ref 181), some (.ref (rAid v1)), some (.int v2), some (.ref (rAid v3)), some (.ref (rAid v4)), some (.ref (rAid v5)), some (.int v6), none, some (.int v8)] ⟨rfl, ⟨rfl, ⟨rfl, ⟨rfl, ⟨rfl, ⟨rfl, ⟨rfl, ⟨rfl, trivial⟩⟩⟩⟩⟩⟩⟩⟩ ?_
      exact rmX9_cutsTable_b93 C Hr3 ia1 ia3 ia4 ia5 h
    · rw [if_neg q] at h
      refine aw_ald_n C dX9_cutsTable_43 rfl ?_
      refine aw_iload C dX9_cutsTable_44 rfl ?_
      obtain ⟨hb1, h⟩ := ck_some h
      refine am_iald C (rGa σ v1 v8) ia1 (inb_vp hb1) rfl dX9_cutsTable_46 ?_
      refine aw_bipush C 34 dX9_cutsTable_47 kb_34 ?_
      refine aw_icmp_ne C 71 dX9_cutsTable_49 (by decide) (fun q => ?_) (fun q => ?_)
      · rw [if_neg q] at h
        refine aw_fl [some (.ref 181), some (.ref (rAid v1)), some (.int v2), some (.ref (rAid v3)), some (.ref (rAid v4)), some (.ref (rAid v5)), some (.int v6), none, some (.int v8)] ⟨rfl, ⟨rfl, ⟨rfl, ⟨rfl, ⟨rfl, ⟨rfl, ⟨rfl, ⟨rfl, trivial⟩⟩⟩⟩⟩⟩⟩⟩ ?_
        exact rmX9_cutsTable_b71 C Hr3 (fun v1 v2 v3 v4 v5 v6 v8 σ ia1 ia3 ia4 ia5 h => ih v1 v2 v3 v4 v5 v6 v8 σ ia1 ia3 ia4 ia5 h) ia1 ia3 ia4 ia5 h
      · rw [if_pos q] at h
        refine aw_iload C dX9_cutsTable_52 rfl ?_
        refine aw_iconst C 1 dX9_cutsTable_54 ki_1 ?_
        refine aw_iadd C dX9_cutsTable_55 ?_
        refine aw_iload_n C dX9_cutsTable_56 rfl ?_
        refine aw_icmp_ge C 93 dX9_cutsTable_57 (by decide) (fun q => ?_) (fun q => ?_)
        · rw [if_pos q] at h
          refine aw_fl [some (.ref 181), some (.ref (rAid v1)), some (.int v2), some (.ref (rAid v3)), some (.ref (rAid v4)), some (.ref (rAid v5)), some (.int v6), none, some (.int v8)] ⟨rfl, ⟨rfl, ⟨rfl, ⟨rfl, ⟨rfl, ⟨rfl, ⟨rfl, ⟨rfl, trivial⟩⟩⟩⟩⟩⟩⟩⟩ ?_
          exact rmX9_cutsTable_b93 C Hr3 ia1 ia3 ia4 ia5 h
        · rw [if_neg q] at h
          refine aw_ald_n C dX9_cutsTable_60 rfl ?_
          refine aw_iload C dX9_cutsTable_61 rfl ?_
          refine aw_iconst C 1 dX9_cutsTable_63 ki_1 ?_
          refine aw_iadd C dX9_cutsTable_64 ?_
          obtain ⟨hb2, h⟩ := ck_some h
          refine am_iald C (rGa σ v1 (v8 + (1 : Int32))) ia1 (inb_vp hb2) rfl dX9_cutsTable_65 ?_
          refine aw_bipush C 34 dX9_cutsTable_66 kb_34 ?_
          refine aw_icmp_ne C 93 dX9_cutsTable_68 (by decide) (fun q => ?_) (fun q => ?_)
          · rw [if_neg q] at h
            refine aw_fl [some (.ref 181), some (.ref (rAid v1)), some (.int v2), some (.ref (rAid v3)), some (.ref (rAid v4)), some (.ref (rAid v5)), some (.int v6), none, some (.int v8)] ⟨rfl, ⟨rfl, ⟨rfl, ⟨rfl, ⟨rfl, ⟨rfl, ⟨rfl, ⟨rfl, trivial⟩⟩⟩⟩⟩⟩⟩⟩ ?_
            exact rmX9_cutsTable_b93 C Hr3 ia1 ia3 ia4 ia5 h
          · rw [if_pos q] at h
            refine aw_fl [some (.ref 181), some (.ref (rAid v1)), some (.int v2), some (.ref (rAid v3)), some (.ref (rAid v4)), some (.ref (rAid v5)), some (.int v6), none, some (.int v8)] ⟨rfl, ⟨rfl, ⟨rfl, ⟨rfl, ⟨rfl, ⟨rfl, ⟨rfl, ⟨rfl, trivial⟩⟩⟩⟩⟩⟩⟩⟩ ?_
            exact rmX9_cutsTable_b71 C Hr3 (fun v1 v2 v3 v4 v5 v6 v8 σ ia1 ia3 ia4 ia5 h => ih v1 v2 v3 v4 v5 v6 v8 σ ia1 ia3 ia4 ia5 h) ia1 ia3 ia4 ia5 h
def mX9_cutsTable_l3 : Nat → Nat → Int32 → Nat → Nat → Nat → Int32 → RS9 → Option (Int32 × RS9)
  | 0, _, _, _, _, _, _, _ => none
  | d + 1, v1, v2, v3, v4, v5, v6, σ => (if v2 ≤ v6 then some ((0 : Int32), σ) else ((mX9_endOf v1 v2 v6 (44 : Int32) (10 : Int32) σ).bind fun r1 => rCk (rIn v6 (rLen v1)) ((if (rGa r1.2 v1 v6) = (34 : Int32) then mX9_cutsTable_l37 (fun v1 v2 v3 v4 v5 v6 σ => mX9_cutsTable_l3 d v1 v2 v3 v4 v5 v6 σ) rFU v1 v2 v3 v4 v5 v6 (v6 + (1 : Int32)) r1.2 else ((mX9_finds v3 v4 v5 v6 r1.1 (0 : Int32) r1.2).bind fun r3 => mX9_cutsTable_b151 (fun v1 v2 v3 v4 v5 v6 σ => mX9_cutsTable_l3 d v1 v2 v3 v4 v5 v6 σ) v1 v2 v3 v4 v5 r1.1 r3.2)))))
set_option maxHeartbeats 1000000 in
theorem rmX9_cutsTable_l3 {X : GX} {p : Program} {l : Launch} {e : Env} {s : State} {m : MethodId} {args : Array Value} {below : List Frame} {meth : Method} {c : Code} {f : AH} {n : Nat} {r : Int32 × RS9} (C : CC X p l (RM 1 0 0) s m args meth c RX9 cX9_cutsTable 9 none) : ∀ (d : Nat) (v1 : Nat) (v2 : Int32) (v3 : Nat) (v4 : Nat) (v5 : Nat) (v6 : Int32) (σ : RS9) (_ : rIsA v1 = true) (_ : rIsA v3 = true) (_ : rIsA v4 = true) (_ : rIsA v5 = true) (_ : mX9_cutsTable_l3 d v1 v2 v3 v4 v5 v6 σ = some r), AW X p l e (RM 1 0 0) s m args below meth c 9 (ZM X below args s 0 0 (QMv f n r)) (rHm f σ) n 0 0 3 [some (.ref 181), some (.ref (rAid v1)), some (.int v2), some (.ref (rAid v3)), some (.ref (rAid v4)), some (.ref (rAid v5)), some (.int v6), none, none] [] := by
  intro d
  induction d with
  | zero =>
    intro v1 v2 v3 v4 v5 v6 σ ia1 ia3 ia4 ia5 h
    exact nomatch (show (none : Option (Int32 × RS9)) = some r from h)
  | succ d ih =>
    intro v1 v2 v3 v4 v5 v6 σ ia1 ia3 ia4 ia5 h
    have h : (if v2 ≤ v6 then some ((0 : Int32), σ) else ((mX9_endOf v1 v2 v6 (44 : Int32) (10 : Int32) σ).bind fun r1 => rCk (rIn v6 (rLen v1)) ((if (rGa r1.2 v1 v6) = (34 : Int32) then mX9_cutsTable_l37 (fun v1 v2 v3 v4 v5 v6 σ => mX9_cutsTable_l3 d v1 v2 v3 v4 v5 v6 σ) rFU v1 v2 v3 v4 v5 v6 (v6 + (1 : Int32)) r1.2 else ((mX9_finds v3 v4 v5 v6 r1.1 (0 : Int32) r1.2).bind fun r3 => mX9_cutsTable_b151 (fun v1 v2 v3 v4 v5 v6 σ => mX9_cutsTable_l3 d v1 v2 v3 v4 v5 v6 σ) v1 v2 v3 v4 v5 r1.1 r3.2))))) = some r := h
    refine aw_iload C dX9_cutsTable_3 rfl ?_
    refine aw_iload_n C dX9_cutsTable_5 rfl ?_
    refine aw_icmp_ge C 160 dX9_cutsTable_6 (by decide) (fun q => ?_) (fun q => ?_)
    · rw [if_pos q] at h
      cases h
      exact aw_vret C rfl dX9_cutsTable_160 (Nat.le_refl _) (Nat.le_refl _) ⟨rfl, rfl, rfl⟩
    · rw [if_neg q] at h
      refine aw_ald_n C dX9_cutsTable_9 rfl ?_
      refine aw_iload_n C dX9_cutsTable_10 rfl ?_
      refine aw_iload C dX9_cutsTable_11 rfl ?_
      refine aw_bipush C 44 dX9_cutsTable_13 kb_44 ?_
      refine aw_bipush C 10 dX9_cutsTable_15 kb_10 ?_
      obtain ⟨r1, h1, h⟩ := Option.bind_eq_some_iff.mp h
      refine aw_callS C [.ref (rAid v1), .int v2, .int v6, .int (44 : Int32), .int (10 : Int32)] ms_X9_148 (rmX9_endOf ia1 h1) rfl dX9_cutsTable_17 (Nat.le_of_ble_eq_true rfl) (Nat.le_of_ble_eq_true rfl) rfl (Nat.le_of_ble_eq_true rfl) (Nat.le_of_ble_eq_true rfl) (Nat.le_of_ble_eq_true rfl) (fun v9 f9 n9 hh => ?_)
      obtain ⟨rfl, rfl, rfl⟩ := hh
      refine aw_istore C dX9_cutsTable_20 (by decide) rfl ?_
      refine aw_nl [some (.ref 181), some (.ref (rAid v1)), some (.int v2), some (.ref (rAid v3)), some (.ref (rAid v4)), some (.ref (rAid v5)), some (.int v6), some (.int r1.1), none] rfl ?_
      refine aw_ald_n C dX9_cutsTable_22 rfl ?_
      refine aw_iload C dX9_cutsTable_23 rfl ?_
      obtain ⟨hb2, h⟩ := ck_some h
      refine am_iald C (rGa r1.2 v1 v6) ia1 (inb_vp hb2) rfl dX9_cutsTable_25 ?_
      refine aw_bipush C 34 dX9_cutsTable_26 kb_34 ?_
      refine aw_icmp_ne C 137 dX9_cutsTable_28 (by decide) (fun q => ?_) (fun q => ?_)
      · rw [if_neg q] at h
        refine aw_ald_n C dX9_cutsTable_137 rfl ?_
        refine aw_ald_n C dX9_cutsTable_138 rfl ?_
        refine aw_ald C dX9_cutsTable_139 rfl ?_
        refine aw_ald C dX9_cutsTable_141 rfl ?_
        refine aw_iload C dX9_cutsTable_143 rfl ?_
        refine aw_iload C dX9_cutsTable_145 rfl ?_
        refine aw_iconst C 0 dX9_cutsTable_147 ki_0 ?_
        obtain ⟨r3, h3, h⟩ := Option.bind_eq_some_iff.mp h
        refine aw_callV C (ci := 9) (b := 181) [.ref (rAid v3), .ref (rAid v4), .ref (rAid v5), .int v6, .int r1.1, .int (0 : Int32)] mv_X9_152 rfl rfl (hm_M f r1.2) (rmX9_finds ia3 ia4 ia5 h3) rfl dX9_cutsTable_148 (Nat.le_of_ble_eq_true rfl) (Nat.le_of_ble_eq_true rfl) rfl (Nat.le_of_ble_eq_true rfl) (Nat.le_of_ble_eq_true rfl) (Nat.le_of_ble_eq_true rfl) (fun v9 f9 n9 hh => ?_)
        obtain ⟨rfl, rfl, rfl⟩ := hh
        refine aw_fl [some (.ref 181), some (.ref (rAid v1)), some (.int v2), some (.ref (rAid v3)), some (.ref (rAid v4)), some (.ref (rAid v5)), none, some (.int r1.1), none] ⟨rfl, ⟨rfl, ⟨rfl, ⟨rfl, ⟨rfl, ⟨rfl, ⟨rfl, trivial⟩⟩⟩⟩⟩⟩⟩ ?_
        exact rmX9_cutsTable_b151 C (fun v1 v2 v3 v4 v5 v6 σ ia1 ia3 ia4 ia5 h => ih v1 v2 v3 v4 v5 v6 σ ia1 ia3 ia4 ia5 h) ia1 ia3 ia4 ia5 h
      · rw [if_pos q] at h
        refine aw_iload C dX9_cutsTable_31 rfl ?_
        refine aw_iconst C 1 dX9_cutsTable_33 ki_1 ?_
        refine aw_iadd C dX9_cutsTable_34 ?_
        refine aw_istore C dX9_cutsTable_35 (by decide) rfl ?_
        refine aw_nl [some (.ref 181), some (.ref (rAid v1)), some (.int v2), some (.ref (rAid v3)), some (.ref (rAid v4)), some (.ref (rAid v5)), some (.int v6), some (.int r1.1), some (.int (v6 + (1 : Int32)))] rfl ?_
        refine aw_fl [some (.ref 181), some (.ref (rAid v1)), some (.int v2), some (.ref (rAid v3)), some (.ref (rAid v4)), some (.ref (rAid v5)), some (.int v6), none, some (.int (v6 + (1 : Int32)))] ⟨rfl, ⟨rfl, ⟨rfl, ⟨rfl, ⟨rfl, ⟨rfl, ⟨rfl, ⟨rfl, trivial⟩⟩⟩⟩⟩⟩⟩⟩ ?_
        exact rmX9_cutsTable_l37 C (fun v1 v2 v3 v4 v5 v6 σ ia1 ia3 ia4 ia5 h => ih v1 v2 v3 v4 v5 v6 σ ia1 ia3 ia4 ia5 h) rFU v1 v2 v3 v4 v5 v6 (v6 + (1 : Int32)) r1.2 ia1 ia3 ia4 ia5 h
def mX9_cutsTable (v1 : Nat) (v2 : Int32) (v3 : Nat) (v4 : Nat) (v5 : Nat) (σ : RS9) : Option (Int32 × RS9) := mX9_cutsTable_l3 rFU v1 v2 v3 v4 v5 (0 : Int32) σ
set_option maxHeartbeats 1000000 in
theorem rmX9_cutsTable {X : GX} {l : Launch} {f : AH} {n : Nat} {r : Int32 × RS9} {v1 : Nat} {v2 : Int32} {v3 : Nat} {v4 : Nat} {v5 : Nat} {σ : RS9} (ia1 : rIsA v1 = true) (ia3 : rIsA v3 = true) (ia4 : rIsA v4 = true) (ia5 : rIsA v5 = true) (h : mX9_cutsTable v1 v2 v3 v4 v5 σ = some r) : AM X l yX9_cutsTable cX9_cutsTable 9 none 1 0 0 [.ref 181, .ref (rAid v1), .int v2, .ref (rAid v3), .ref (rAid v4), .ref (rAid v5)] (rHm f σ) n (QMv f n r) := by
  have h : mX9_cutsTable_l3 rFU v1 v2 v3 v4 v5 (0 : Int32) σ = some r := h
  refine AM.of (by decide +kernel) rfl (Nat.le_of_ble_eq_true rfl) (fun p e s m args below meth c C _ => ?_)
  refine aw_nl [some (.ref 181), some (.ref (rAid v1)), some (.int v2), some (.ref (rAid v3)), some (.ref (rAid v4)), some (.ref (rAid v5)), none, none, none] rfl ?_
  refine aw_iconst C 0 dX9_cutsTable_0 ki_0 ?_
  refine aw_istore C dX9_cutsTable_1 (by decide) rfl ?_
  refine aw_nl [some (.ref 181), some (.ref (rAid v1)), some (.int v2), some (.ref (rAid v3)), some (.ref (rAid v4)), some (.ref (rAid v5)), some (.int (0 : Int32)), none, none] rfl ?_
  refine aw_fl [some (.ref 181), some (.ref (rAid v1)), some (.int v2), some (.ref (rAid v3)), some (.ref (rAid v4)), some (.ref (rAid v5)), some (.int (0 : Int32)), none, none] ⟨rfl, ⟨rfl, ⟨rfl, ⟨rfl, ⟨rfl, ⟨rfl, ⟨rfl, trivial⟩⟩⟩⟩⟩⟩⟩ ?_
  exact rmX9_cutsTable_l3 C rFU v1 v2 v3 v4 v5 (0 : Int32) σ ia1 ia3 ia4 ia5 h
def mX9_isBare_b17 (s0 : Int32) (σ : RS9) : Option (Int32 × RS9) := rCk (rNb s0) (some (s0, σ))
set_option maxHeartbeats 1000000 in
theorem rmX9_isBare_b17 {X : GX} {p : Program} {l : Launch} {e : Env} {s : State} {m : MethodId} {args : Array Value} {below : List Frame} {meth : Method} {c : Code} {f : AH} {n : Nat} {r : Int32 × RS9} {s0 : Int32} {σ : RS9} (C : CC X p l (RM 0 0 0) s m args meth c RX9 cX9_isBare 1 (some .boolean)) (h : mX9_isBare_b17 s0 σ = some r) : AW X p l e (RM 0 0 0) s m args below meth c 1 (ZM X below args s 0 0 (QMi f n r)) (rHm f σ) n 0 0 17 [none] [.int s0] := by
  have h : rCk (rNb s0) (some (s0, σ)) = some r := h
  obtain ⟨hb1, h⟩ := ck_some h
  cases h
  exact aw_iret C rfl (nb_nar hb1) dX9_isBare_17 (Nat.le_refl _) (Nat.le_refl _) ⟨rfl, rfl, rfl⟩
def mX9_isBare_b12 (σ : RS9) : Option (Int32 × RS9) := mX9_isBare_b17 (1 : Int32) σ
set_option maxHeartbeats 1000000 in
theorem rmX9_isBare_b12 {X : GX} {p : Program} {l : Launch} {e : Env} {s : State} {m : MethodId} {args : Array Value} {below : List Frame} {meth : Method} {c : Code} {f : AH} {n : Nat} {r : Int32 × RS9} {σ : RS9} (C : CC X p l (RM 0 0 0) s m args meth c RX9 cX9_isBare 1 (some .boolean)) (h : mX9_isBare_b12 σ = some r) : AW X p l e (RM 0 0 0) s m args below meth c 1 (ZM X below args s 0 0 (QMi f n r)) (rHm f σ) n 0 0 12 [none] [] := by
  have h : mX9_isBare_b17 (1 : Int32) σ = some r := h
  refine aw_iconst C 1 dX9_isBare_12 ki_1 ?_
  refine aw_goto C 17 dX9_isBare_13 (by decide) ?_
  refine aw_fl [none] trivial ?_
  exact rmX9_isBare_b17 C h
def mX9_isBare (v0 : Int32) (σ : RS9) : Option (Int32 × RS9) := (if v0 = (32 : Int32) then mX9_isBare_b12 σ else (if v0 = (10 : Int32) then mX9_isBare_b12 σ else mX9_isBare_b17 (0 : Int32) σ))
set_option maxHeartbeats 1000000 in
theorem rmX9_isBare {X : GX} {l : Launch} {f : AH} {n : Nat} {r : Int32 × RS9} {v0 : Int32} {σ : RS9} (h : mX9_isBare v0 σ = some r) : AM X l yX9_isBare cX9_isBare 1 (some .boolean) 0 0 0 [.int v0] (rHm f σ) n (QMi f n r) := by
  have h : (if v0 = (32 : Int32) then mX9_isBare_b12 σ else (if v0 = (10 : Int32) then mX9_isBare_b12 σ else mX9_isBare_b17 (0 : Int32) σ)) = some r := h
  refine AM.of (by decide +kernel) rfl (Nat.le_of_ble_eq_true rfl) (fun p e s m args below meth c C _ => ?_)
  refine aw_nl [some (.int v0)] rfl ?_
  refine aw_iload_n C dX9_isBare_0 rfl ?_
  refine aw_bipush C 32 dX9_isBare_1 kb_32 ?_
  refine aw_icmp_eq C 12 dX9_isBare_3 (by decide) (fun q => ?_) (fun q => ?_)
  · rw [if_pos q] at h
    refine aw_fl [none] trivial ?_
    exact rmX9_isBare_b12 C h
  · rw [if_neg q] at h
    refine aw_iload_n C dX9_isBare_6 rfl ?_
    refine aw_bipush C 10 dX9_isBare_7 kb_10 ?_
    refine aw_icmp_ne C 16 dX9_isBare_9 (by decide) (fun q => ?_) (fun q => ?_)
    · rw [if_neg q] at h
      refine aw_iconst C 0 dX9_isBare_16 ki_0 ?_
      refine aw_fl [none] trivial ?_
      exact rmX9_isBare_b17 C h
    · rw [if_pos q] at h
      refine aw_fl [none] trivial ?_
      exact rmX9_isBare_b12 C h
def mX9_cutsMarkup_b78 (rec3 : Nat → Int32 → Nat → Nat → Nat → Int32 → RS9 → Option (Int32 × RS9)) (v1 : Nat) (v2 : Int32) (v3 : Nat) (v4 : Nat) (v5 : Nat) (v7 : Int32) (v8 : Int32) (v9 : Int32) (σ : RS9) : Option (Int32 × RS9) := ((mX9_finds v3 v4 v5 v8 v9 (0 : Int32) σ).bind fun r1 => ((mX9_endOf v1 v2 v7 (62 : Int32) (62 : Int32) r1.2).bind fun r2 => rec3 v1 v2 v3 v4 v5 (r2.1 + (1 : Int32)) r2.2))
set_option maxHeartbeats 1000000 in
theorem rmX9_cutsMarkup_b78 {X : GX} {p : Program} {l : Launch} {e : Env} {s : State} {m : MethodId} {args : Array Value} {below : List Frame} {meth : Method} {c : Code} {f : AH} {n : Nat} {r : Int32 × RS9} {rec3 : Nat → Int32 → Nat → Nat → Nat → Int32 → RS9 → Option (Int32 × RS9)} {v1 : Nat} {v2 : Int32} {v3 : Nat} {v4 : Nat} {v5 : Nat} {v7 : Int32} {v8 : Int32} {v9 : Int32} {σ : RS9} (C : CC X p l (RM 1 0 0) s m args meth c RX9 cX9_cutsMarkup 10 none) (Hr3 : ∀ (v1 : Nat) (v2 : Int32) (v3 : Nat) (v4 : Nat) (v5 : Nat) (v6 : Int32) (σ : RS9), rIsA v1 = true → rIsA v3 = true → rIsA v4 = true → rIsA v5 = true → rec3 v1 v2 v3 v4 v5 v6 σ = some r → AW X p l e (RM 1 0 0) s m args below meth c 10 (ZM X below args s 0 0 (QMv f n r)) (rHm f σ) n 0 0 3 [some (.ref 181), some (.ref (rAid v1)), some (.int v2), some (.ref (rAid v3)), some (.ref (rAid v4)), some (.ref (rAid v5)), some (.int v6), none, none, none] []) (ia1 : rIsA v1 = true) (ia3 : rIsA v3 = true) (ia4 : rIsA v4 = true) (ia5 : rIsA v5 = true) (h : mX9_cutsMarkup_b78 rec3 v1 v2 v3 v4 v5 v7 v8 v9 σ = some r) : AW X p l e (RM 1 0 0) s m args below meth c 10 (ZM X below args s 0 0 (QMv f n r)) (rHm f σ) n 0 0 78 [some (.ref 181), some (.ref (rAid v1)), some (.int v2), some (.ref (rAid v3)), some (.ref (rAid v4)), some (.ref (rAid v5)), none, some (.int v7), some (.int v8), some (.int v9)] [] := by
  have h : ((mX9_finds v3 v4 v5 v8 v9 (0 : Int32) σ).bind fun r1 => ((mX9_endOf v1 v2 v7 (62 : Int32) (62 : Int32) r1.2).bind fun r2 => rec3 v1 v2 v3 v4 v5 (r2.1 + (1 : Int32)) r2.2)) = some r := h
  refine aw_ald_n C dX9_cutsMarkup_78 rfl ?_
  refine aw_ald_n C dX9_cutsMarkup_79 rfl ?_
  refine aw_ald C dX9_cutsMarkup_80 rfl ?_
  refine aw_ald C dX9_cutsMarkup_82 rfl ?_
  refine aw_iload C dX9_cutsMarkup_84 rfl ?_
  refine aw_iload C dX9_cutsMarkup_86 rfl ?_
  refine aw_iconst C 0 dX9_cutsMarkup_88 ki_0 ?_
  obtain ⟨r1, h1, h⟩ := Option.bind_eq_some_iff.mp h
  refine aw_callV C (ci := 9) (b := 181) [.ref (rAid v3), .ref (rAid v4), .ref (rAid v5), .int v8, .int v9, .int (0 : Int32)] mv_X9_152 rfl rfl (hm_M f σ) (rmX9_finds ia3 ia4 ia5 h1) rfl dX9_cutsMarkup_89 (Nat.le_of_ble_eq_true rfl) (Nat.le_of_ble_eq_true rfl) rfl (Nat.le_of_ble_eq_true rfl) (Nat.le_of_ble_eq_true rfl) (Nat.le_of_ble_eq_true rfl) (fun v9 f9 n9 hh => ?_)
  obtain ⟨rfl, rfl, rfl⟩ := hh
  refine aw_ald_n C dX9_cutsMarkup_92 rfl ?_
  refine aw_iload_n C dX9_cutsMarkup_93 rfl ?_
  refine aw_iload C dX9_cutsMarkup_94 rfl ?_
  refine aw_bipush C 62 dX9_cutsMarkup_96 kb_62 ?_
  refine aw_bipush C 62 dX9_cutsMarkup_98 kb_62 ?_
  obtain ⟨r2, h2, h⟩ := Option.bind_eq_some_iff.mp h
  refine aw_callS C [.ref (rAid v1), .int v2, .int v7, .int (62 : Int32), .int (62 : Int32)] ms_X9_148 (rmX9_endOf ia1 h2) rfl dX9_cutsMarkup_100 (Nat.le_of_ble_eq_true rfl) (Nat.le_of_ble_eq_true rfl) rfl (Nat.le_of_ble_eq_true rfl) (Nat.le_of_ble_eq_true rfl) (Nat.le_of_ble_eq_true rfl) (fun v9 f9 n9 hh => ?_)
  obtain ⟨rfl, rfl, rfl⟩ := hh
  refine aw_iconst C 1 dX9_cutsMarkup_103 ki_1 ?_
  refine aw_iadd C dX9_cutsMarkup_104 ?_
  refine aw_istore C dX9_cutsMarkup_105 (by decide) rfl ?_
  refine aw_nl [some (.ref 181), some (.ref (rAid v1)), some (.int v2), some (.ref (rAid v3)), some (.ref (rAid v4)), some (.ref (rAid v5)), some (.int (r2.1 + (1 : Int32))), some (.int v7), some (.int v8), some (.int v9)] rfl ?_
  refine aw_goto C 3 dX9_cutsMarkup_107 (by decide) ?_
  refine aw_fl [some (.ref 181), some (.ref (rAid v1)), some (.int v2), some (.ref (rAid v3)), some (.ref (rAid v4)), some (.ref (rAid v5)), some (.int (r2.1 + (1 : Int32))), none, none, none] ⟨rfl, ⟨rfl, ⟨rfl, ⟨rfl, ⟨rfl, ⟨rfl, ⟨rfl, trivial⟩⟩⟩⟩⟩⟩⟩ ?_
  exact Hr3 v1 v2 v3 v4 v5 (r2.1 + (1 : Int32)) r2.2 ia1 ia3 ia4 ia5 h
def mX9_cutsMarkup_l53 (rec3 : Nat → Int32 → Nat → Nat → Nat → Int32 → RS9 → Option (Int32 × RS9)) : Nat → Nat → Int32 → Nat → Nat → Nat → Int32 → Int32 → Int32 → RS9 → Option (Int32 × RS9)
  | 0, _, _, _, _, _, _, _, _, _ => none
  | d + 1, v1, v2, v3, v4, v5, v7, v8, v9, σ => (if v9 ≤ v8 then mX9_cutsMarkup_b78 rec3 v1 v2 v3 v4 v5 v7 v8 v9 σ else rCk (rIn (v9 - (1 : Int32)) (rLen v1)) (((mX9_isBare (rGa σ v1 (v9 - (1 : Int32))) σ).bind fun r2 => (if r2.1 = (0 : Int32) then mX9_cutsMarkup_b78 rec3 v1 v2 v3 v4 v5 v7 v8 v9 r2.2 else mX9_cutsMarkup_l53 rec3 d v1 v2 v3 v4 v5 v7 v8 (v9 + (-1 : Int32)) r2.2))))
set_option maxHeartbeats 1000000 in
theorem rmX9_cutsMarkup_l53 {X : GX} {p : Program} {l : Launch} {e : Env} {s : State} {m : MethodId} {args : Array Value} {below : List Frame} {meth : Method} {c : Code} {f : AH} {n : Nat} {r : Int32 × RS9} {rec3 : Nat → Int32 → Nat → Nat → Nat → Int32 → RS9 → Option (Int32 × RS9)} (C : CC X p l (RM 1 0 0) s m args meth c RX9 cX9_cutsMarkup 10 none) (Hr3 : ∀ (v1 : Nat) (v2 : Int32) (v3 : Nat) (v4 : Nat) (v5 : Nat) (v6 : Int32) (σ : RS9), rIsA v1 = true → rIsA v3 = true → rIsA v4 = true → rIsA v5 = true → rec3 v1 v2 v3 v4 v5 v6 σ = some r → AW X p l e (RM 1 0 0) s m args below meth c 10 (ZM X below args s 0 0 (QMv f n r)) (rHm f σ) n 0 0 3 [some (.ref 181), some (.ref (rAid v1)), some (.int v2), some (.ref (rAid v3)), some (.ref (rAid v4)), some (.ref (rAid v5)), some (.int v6), none, none, none] []) : ∀ (d : Nat) (v1 : Nat) (v2 : Int32) (v3 : Nat) (v4 : Nat) (v5 : Nat) (v7 : Int32) (v8 : Int32) (v9 : Int32) (σ : RS9) (_ : rIsA v1 = true) (_ : rIsA v3 = true) (_ : rIsA v4 = true) (_ : rIsA v5 = true) (_ : mX9_cutsMarkup_l53 rec3 d v1 v2 v3 v4 v5 v7 v8 v9 σ = some r), AW X p l e (RM 1 0 0) s m args below meth c 10 (ZM X below args s 0 0 (QMv f n r)) (rHm f σ) n 0 0 53 [some (.ref 181), some (.ref (rAid v1)), some (.int v2), some (.ref (rAid v3)), some (.ref (rAid v4)), some (.ref (rAid v5)), none, some (.int v7), some (.int v8), some (.int v9)] [] := by
  intro d
  induction d with
  | zero =>
    intro v1 v2 v3 v4 v5 v7 v8 v9 σ ia1 ia3 ia4 ia5 h
    exact nomatch (show (none : Option (Int32 × RS9)) = some r from h)
  | succ d ih =>
    intro v1 v2 v3 v4 v5 v7 v8 v9 σ ia1 ia3 ia4 ia5 h
    have h : (if v9 ≤ v8 then mX9_cutsMarkup_b78 rec3 v1 v2 v3 v4 v5 v7 v8 v9 σ else rCk (rIn (v9 - (1 : Int32)) (rLen v1)) (((mX9_isBare (rGa σ v1 (v9 - (1 : Int32))) σ).bind fun r2 => (if r2.1 = (0 : Int32) then mX9_cutsMarkup_b78 rec3 v1 v2 v3 v4 v5 v7 v8 v9 r2.2 else mX9_cutsMarkup_l53 rec3 d v1 v2 v3 v4 v5 v7 v8 (v9 + (-1 : Int32)) r2.2)))) = some r := h
    refine aw_iload C dX9_cutsMarkup_53 rfl ?_
    refine aw_iload C dX9_cutsMarkup_55 rfl ?_
    refine aw_icmp_le C 78 dX9_cutsMarkup_57 (by decide) (fun q => ?_) (fun q => ?_)
    · rw [if_pos q] at h
      refine aw_fl [some (.ref 181), some (.ref (rAid v1)), some (.int v2), some (.ref (rAid v3)), some (.ref (rAid v4)), some (.ref (rAid v5)), none, some (.int v7), some (.int v8), some (.int v9)] ⟨rfl, ⟨rfl, ⟨rfl, ⟨rfl, ⟨rfl, ⟨rfl, ⟨rfl, ⟨rfl, ⟨rfl, trivial⟩⟩⟩⟩⟩⟩⟩⟩⟩ ?_
      exact rmX9_cutsMarkup_b78 C Hr3 ia1 ia3 ia4 ia5 h
    · rw [if_neg q] at h
      refine aw_ald_n C dX9_cutsMarkup_60 rfl ?_
      refine aw_iload C dX9_cutsMarkup_61 rfl ?_
      refine aw_iconst C 1 dX9_cutsMarkup_63 ki_1 ?_
      refine aw_isub C dX9_cutsMarkup_64 ?_
      obtain ⟨hb1, h⟩ := ck_some h
      refine am_iald C (rGa σ v1 (v9 - (1 : Int32))) ia1 (inb_vp hb1) rfl dX9_cutsMarkup_65 ?_
      obtain ⟨r2, h2, h⟩ := Option.bind_eq_some_iff.mp h
      refine aw_callS C [.int (rGa σ v1 (v9 - (1 : Int32)))] ms_X9_156 (rmX9_isBare h2) rfl dX9_cutsMarkup_66 (Nat.le_of_ble_eq_true rfl) (Nat.le_of_ble_eq_true rfl) rfl (Nat.le_of_ble_eq_true rfl) (Nat.le_of_ble_eq_true rfl) (Nat.le_of_ble_eq_true rfl) (fun v9 f9 n9 hh => ?_)
      obtain ⟨rfl, rfl, rfl⟩ := hh
      refine aw_if_eq C 78 dX9_cutsMarkup_69 (by decide) (fun q => ?_) (fun q => ?_)
      · rw [if_pos q] at h
        refine aw_fl [some (.ref 181), some (.ref (rAid v1)), some (.int v2), some (.ref (rAid v3)), some (.ref (rAid v4)), some (.ref (rAid v5)), none, some (.int v7), some (.int v8), some (.int v9)] ⟨rfl, ⟨rfl, ⟨rfl, ⟨rfl, ⟨rfl, ⟨rfl, ⟨rfl, ⟨rfl, ⟨rfl, trivial⟩⟩⟩⟩⟩⟩⟩⟩⟩ ?_
        exact rmX9_cutsMarkup_b78 C Hr3 ia1 ia3 ia4 ia5 h
      · rw [if_neg q] at h
        refine aw_iinc C (v9 + (-1 : Int32)) dX9_cutsMarkup_72 rfl (by rw [ki_m1]) (by decide) rfl ?_
        refine aw_nl [some (.ref 181), some (.ref (rAid v1)), some (.int v2), some (.ref (rAid v3)), some (.ref (rAid v4)), some (.ref (rAid v5)), none, some (.int v7), some (.int v8), some (.int (v9 + (-1 : Int32)))] rfl ?_
        refine aw_goto C 53 dX9_cutsMarkup_75 (by decide) ?_
        refine aw_fl [some (.ref 181), some (.ref (rAid v1)), some (.int v2), some (.ref (rAid v3)), some (.ref (rAid v4)), some (.ref (rAid v5)), none, some (.int v7), some (.int v8), some (.int (v9 + (-1 : Int32)))] ⟨rfl, ⟨rfl, ⟨rfl, ⟨rfl, ⟨rfl, ⟨rfl, ⟨rfl, ⟨rfl, ⟨rfl, trivial⟩⟩⟩⟩⟩⟩⟩⟩⟩ ?_
        exact ih v1 v2 v3 v4 v5 v7 v8 (v9 + (-1 : Int32)) r2.2 ia1 ia3 ia4 ia5 h
def mX9_cutsMarkup_l30 (rec3 : Nat → Int32 → Nat → Nat → Nat → Int32 → RS9 → Option (Int32 × RS9)) : Nat → Nat → Int32 → Nat → Nat → Nat → Int32 → Int32 → Int32 → RS9 → Option (Int32 × RS9)
  | 0, _, _, _, _, _, _, _, _, _ => none
  | d + 1, v1, v2, v3, v4, v5, v7, v8, v9, σ => (if v9 ≤ v8 then mX9_cutsMarkup_l53 rec3 rFU v1 v2 v3 v4 v5 v7 v8 v9 σ else rCk (rIn v8 (rLen v1)) (((mX9_isBare (rGa σ v1 v8) σ).bind fun r2 => (if r2.1 = (0 : Int32) then mX9_cutsMarkup_l53 rec3 rFU v1 v2 v3 v4 v5 v7 v8 v9 r2.2 else mX9_cutsMarkup_l30 rec3 d v1 v2 v3 v4 v5 v7 (v8 + (1 : Int32)) v9 r2.2))))
set_option maxHeartbeats 1000000 in
theorem rmX9_cutsMarkup_l30 {X : GX} {p : Program} {l : Launch} {e : Env} {s : State} {m : MethodId} {args : Array Value} {below : List Frame} {meth : Method} {c : Code} {f : AH} {n : Nat} {r : Int32 × RS9} {rec3 : Nat → Int32 → Nat → Nat → Nat → Int32 → RS9 → Option (Int32 × RS9)} (C : CC X p l (RM 1 0 0) s m args meth c RX9 cX9_cutsMarkup 10 none) (Hr3 : ∀ (v1 : Nat) (v2 : Int32) (v3 : Nat) (v4 : Nat) (v5 : Nat) (v6 : Int32) (σ : RS9), rIsA v1 = true → rIsA v3 = true → rIsA v4 = true → rIsA v5 = true → rec3 v1 v2 v3 v4 v5 v6 σ = some r → AW X p l e (RM 1 0 0) s m args below meth c 10 (ZM X below args s 0 0 (QMv f n r)) (rHm f σ) n 0 0 3 [some (.ref 181), some (.ref (rAid v1)), some (.int v2), some (.ref (rAid v3)), some (.ref (rAid v4)), some (.ref (rAid v5)), some (.int v6), none, none, none] []) : ∀ (d : Nat) (v1 : Nat) (v2 : Int32) (v3 : Nat) (v4 : Nat) (v5 : Nat) (v7 : Int32) (v8 : Int32) (v9 : Int32) (σ : RS9) (_ : rIsA v1 = true) (_ : rIsA v3 = true) (_ : rIsA v4 = true) (_ : rIsA v5 = true) (_ : mX9_cutsMarkup_l30 rec3 d v1 v2 v3 v4 v5 v7 v8 v9 σ = some r), AW X p l e (RM 1 0 0) s m args below meth c 10 (ZM X below args s 0 0 (QMv f n r)) (rHm f σ) n 0 0 30 [some (.ref 181), some (.ref (rAid v1)), some (.int v2), some (.ref (rAid v3)), some (.ref (rAid v4)), some (.ref (rAid v5)), none, some (.int v7), some (.int v8), some (.int v9)] [] := by
  intro d
  induction d with
  | zero =>
    intro v1 v2 v3 v4 v5 v7 v8 v9 σ ia1 ia3 ia4 ia5 h
    exact nomatch (show (none : Option (Int32 × RS9)) = some r from h)
  | succ d ih =>
    intro v1 v2 v3 v4 v5 v7 v8 v9 σ ia1 ia3 ia4 ia5 h
    have h : (if v9 ≤ v8 then mX9_cutsMarkup_l53 rec3 rFU v1 v2 v3 v4 v5 v7 v8 v9 σ else rCk (rIn v8 (rLen v1)) (((mX9_isBare (rGa σ v1 v8) σ).bind fun r2 => (if r2.1 = (0 : Int32) then mX9_cutsMarkup_l53 rec3 rFU v1 v2 v3 v4 v5 v7 v8 v9 r2.2 else mX9_cutsMarkup_l30 rec3 d v1 v2 v3 v4 v5 v7 (v8 + (1 : Int32)) v9 r2.2)))) = some r := h
    refine aw_iload C dX9_cutsMarkup_30 rfl ?_
    refine aw_iload C dX9_cutsMarkup_32 rfl ?_
    refine aw_icmp_ge C 53 dX9_cutsMarkup_34 (by decide) (fun q => ?_) (fun q => ?_)
    · rw [if_pos q] at h
      refine aw_fl [some (.ref 181), some (.ref (rAid v1)), some (.int v2), some (.ref (rAid v3)), some (.ref (rAid v4)), some (.ref (rAid v5)), none, some (.int v7), some (.int v8), some (.int v9)] ⟨rfl, ⟨rfl, ⟨rfl, ⟨rfl, ⟨rfl, ⟨rfl, ⟨rfl, ⟨rfl, ⟨rfl, trivial⟩⟩⟩⟩⟩⟩⟩⟩⟩ ?_
      exact rmX9_cutsMarkup_l53 C Hr3 rFU v1 v2 v3 v4 v5 v7 v8 v9 σ ia1 ia3 ia4 ia5 h
    · rw [if_neg q] at h
      refine aw_ald_n C dX9_cutsMarkup_37 rfl ?_
      refine aw_iload C dX9_cutsMarkup_38 rfl ?_
      obtain ⟨hb1, h⟩ := ck_some h
      refine am_iald C (rGa σ v1 v8) ia1 (inb_vp hb1) rfl dX9_cutsMarkup_40 ?_
      obtain ⟨r2, h2, h⟩ := Option.bind_eq_some_iff.mp h
      refine aw_callS C [.int (rGa σ v1 v8)] ms_X9_156 (rmX9_isBare h2) rfl dX9_cutsMarkup_41 (Nat.le_of_ble_eq_true rfl) (Nat.le_of_ble_eq_true rfl) rfl (Nat.le_of_ble_eq_true rfl) (Nat.le_of_ble_eq_true rfl) (Nat.le_of_ble_eq_true rfl) (fun v9 f9 n9 hh => ?_)
      obtain ⟨rfl, rfl, rfl⟩ := hh
      refine aw_if_eq C 53 dX9_cutsMarkup_44 (by decide) (fun q => ?_) (fun q => ?_)
      · rw [if_pos q] at h
        refine aw_fl [some (.ref 181), some (.ref (rAid v1)), some (.int v2), some (.ref (rAid v3)), some (.ref (rAid v4)), some (.ref (rAid v5)), none, some (.int v7), some (.int v8), some (.int v9)] ⟨rfl, ⟨rfl, ⟨rfl, ⟨rfl, ⟨rfl, ⟨rfl, ⟨rfl, ⟨rfl, ⟨rfl, trivial⟩⟩⟩⟩⟩⟩⟩⟩⟩ ?_
        exact rmX9_cutsMarkup_l53 C Hr3 rFU v1 v2 v3 v4 v5 v7 v8 v9 r2.2 ia1 ia3 ia4 ia5 h
      · rw [if_neg q] at h
        refine aw_iinc C (v8 + (1 : Int32)) dX9_cutsMarkup_47 rfl (by rw [ki_1]) (by decide) rfl ?_
        refine aw_nl [some (.ref 181), some (.ref (rAid v1)), some (.int v2), some (.ref (rAid v3)), some (.ref (rAid v4)), some (.ref (rAid v5)), none, some (.int v7), some (.int (v8 + (1 : Int32))), some (.int v9)] rfl ?_
        refine aw_goto C 30 dX9_cutsMarkup_50 (by decide) ?_
        refine aw_fl [some (.ref 181), some (.ref (rAid v1)), some (.int v2), some (.ref (rAid v3)), some (.ref (rAid v4)), some (.ref (rAid v5)), none, some (.int v7), some (.int (v8 + (1 : Int32))), some (.int v9)] ⟨rfl, ⟨rfl, ⟨rfl, ⟨rfl, ⟨rfl, ⟨rfl, ⟨rfl, ⟨rfl, ⟨rfl, trivial⟩⟩⟩⟩⟩⟩⟩⟩⟩ ?_
        exact ih v1 v2 v3 v4 v5 v7 (v8 + (1 : Int32)) v9 r2.2 ia1 ia3 ia4 ia5 h
def mX9_cutsMarkup_l3 : Nat → Nat → Int32 → Nat → Nat → Nat → Int32 → RS9 → Option (Int32 × RS9)
  | 0, _, _, _, _, _, _, _ => none
  | d + 1, v1, v2, v3, v4, v5, v6, σ => (if v2 ≤ v6 then some ((0 : Int32), σ) else ((mX9_endOf v1 v2 v6 (60 : Int32) (60 : Int32) σ).bind fun r1 => mX9_cutsMarkup_l30 (fun v1 v2 v3 v4 v5 v6 σ => mX9_cutsMarkup_l3 d v1 v2 v3 v4 v5 v6 σ) rFU v1 v2 v3 v4 v5 r1.1 v6 r1.1 r1.2))
set_option maxHeartbeats 1000000 in
theorem rmX9_cutsMarkup_l3 {X : GX} {p : Program} {l : Launch} {e : Env} {s : State} {m : MethodId} {args : Array Value} {below : List Frame} {meth : Method} {c : Code} {f : AH} {n : Nat} {r : Int32 × RS9} (C : CC X p l (RM 1 0 0) s m args meth c RX9 cX9_cutsMarkup 10 none) : ∀ (d : Nat) (v1 : Nat) (v2 : Int32) (v3 : Nat) (v4 : Nat) (v5 : Nat) (v6 : Int32) (σ : RS9) (_ : rIsA v1 = true) (_ : rIsA v3 = true) (_ : rIsA v4 = true) (_ : rIsA v5 = true) (_ : mX9_cutsMarkup_l3 d v1 v2 v3 v4 v5 v6 σ = some r), AW X p l e (RM 1 0 0) s m args below meth c 10 (ZM X below args s 0 0 (QMv f n r)) (rHm f σ) n 0 0 3 [some (.ref 181), some (.ref (rAid v1)), some (.int v2), some (.ref (rAid v3)), some (.ref (rAid v4)), some (.ref (rAid v5)), some (.int v6), none, none, none] [] := by
  intro d
  induction d with
  | zero =>
    intro v1 v2 v3 v4 v5 v6 σ ia1 ia3 ia4 ia5 h
    exact nomatch (show (none : Option (Int32 × RS9)) = some r from h)
  | succ d ih =>
    intro v1 v2 v3 v4 v5 v6 σ ia1 ia3 ia4 ia5 h
    have h : (if v2 ≤ v6 then some ((0 : Int32), σ) else ((mX9_endOf v1 v2 v6 (60 : Int32) (60 : Int32) σ).bind fun r1 => mX9_cutsMarkup_l30 (fun v1 v2 v3 v4 v5 v6 σ => mX9_cutsMarkup_l3 d v1 v2 v3 v4 v5 v6 σ) rFU v1 v2 v3 v4 v5 r1.1 v6 r1.1 r1.2)) = some r := h
    refine aw_iload C dX9_cutsMarkup_3 rfl ?_
    refine aw_iload_n C dX9_cutsMarkup_5 rfl ?_
    refine aw_icmp_ge C 110 dX9_cutsMarkup_6 (by decide) (fun q => ?_) (fun q => ?_)
    · rw [if_pos q] at h
      cases h
      exact aw_vret C rfl dX9_cutsMarkup_110 (Nat.le_refl _) (Nat.le_refl _) ⟨rfl, rfl, rfl⟩
    · rw [if_neg q] at h
      refine aw_ald_n C dX9_cutsMarkup_9 rfl ?_
      refine aw_iload_n C dX9_cutsMarkup_10 rfl ?_
      refine aw_iload C dX9_cutsMarkup_11 rfl ?_
      refine aw_bipush C 60 dX9_cutsMarkup_13 kb_60 ?_
      refine aw_bipush C 60 dX9_cutsMarkup_15 kb_60 ?_
      obtain ⟨r1, h1, h⟩ := Option.bind_eq_some_iff.mp h
      refine aw_callS C [.ref (rAid v1), .int v2, .int v6, .int (60 : Int32), .int (60 : Int32)] ms_X9_148 (rmX9_endOf ia1 h1) rfl dX9_cutsMarkup_17 (Nat.le_of_ble_eq_true rfl) (Nat.le_of_ble_eq_true rfl) rfl (Nat.le_of_ble_eq_true rfl) (Nat.le_of_ble_eq_true rfl) (Nat.le_of_ble_eq_true rfl) (fun v9 f9 n9 hh => ?_)
      obtain ⟨rfl, rfl, rfl⟩ := hh
      refine aw_istore C dX9_cutsMarkup_20 (by decide) rfl ?_
      refine aw_nl [some (.ref 181), some (.ref (rAid v1)), some (.int v2), some (.ref (rAid v3)), some (.ref (rAid v4)), some (.ref (rAid v5)), some (.int v6), some (.int r1.1), none, none] rfl ?_
      refine aw_iload C dX9_cutsMarkup_22 rfl ?_
      refine aw_istore C dX9_cutsMarkup_24 (by decide) rfl ?_
      refine aw_nl [some (.ref 181), some (.ref (rAid v1)), some (.int v2), some (.ref (rAid v3)), some (.ref (rAid v4)), some (.ref (rAid v5)), some (.int v6), some (.int r1.1), some (.int v6), none] rfl ?_
      refine aw_iload C dX9_cutsMarkup_26 rfl ?_
      refine aw_istore C dX9_cutsMarkup_28 (by decide) rfl ?_
      refine aw_nl [some (.ref 181), some (.ref (rAid v1)), some (.int v2), some (.ref (rAid v3)), some (.ref (rAid v4)), some (.ref (rAid v5)), some (.int v6), some (.int r1.1), some (.int v6), some (.int r1.1)] rfl ?_
      refine aw_fl [some (.ref 181), some (.ref (rAid v1)), some (.int v2), some (.ref (rAid v3)), some (.ref (rAid v4)), some (.ref (rAid v5)), none, some (.int r1.1), some (.int v6), some (.int r1.1)] ⟨rfl, ⟨rfl, ⟨rfl, ⟨rfl, ⟨rfl, ⟨rfl, ⟨rfl, ⟨rfl, ⟨rfl, trivial⟩⟩⟩⟩⟩⟩⟩⟩⟩ ?_
      exact rmX9_cutsMarkup_l30 C (fun v1 v2 v3 v4 v5 v6 σ ia1 ia3 ia4 ia5 h => ih v1 v2 v3 v4 v5 v6 σ ia1 ia3 ia4 ia5 h) rFU v1 v2 v3 v4 v5 r1.1 v6 r1.1 r1.2 ia1 ia3 ia4 ia5 h
def mX9_cutsMarkup (v1 : Nat) (v2 : Int32) (v3 : Nat) (v4 : Nat) (v5 : Nat) (σ : RS9) : Option (Int32 × RS9) := mX9_cutsMarkup_l3 rFU v1 v2 v3 v4 v5 (0 : Int32) σ
set_option maxHeartbeats 1000000 in
theorem rmX9_cutsMarkup {X : GX} {l : Launch} {f : AH} {n : Nat} {r : Int32 × RS9} {v1 : Nat} {v2 : Int32} {v3 : Nat} {v4 : Nat} {v5 : Nat} {σ : RS9} (ia1 : rIsA v1 = true) (ia3 : rIsA v3 = true) (ia4 : rIsA v4 = true) (ia5 : rIsA v5 = true) (h : mX9_cutsMarkup v1 v2 v3 v4 v5 σ = some r) : AM X l yX9_cutsMarkup cX9_cutsMarkup 10 none 1 0 0 [.ref 181, .ref (rAid v1), .int v2, .ref (rAid v3), .ref (rAid v4), .ref (rAid v5)] (rHm f σ) n (QMv f n r) := by
  have h : mX9_cutsMarkup_l3 rFU v1 v2 v3 v4 v5 (0 : Int32) σ = some r := h
  refine AM.of (by decide +kernel) rfl (Nat.le_of_ble_eq_true rfl) (fun p e s m args below meth c C _ => ?_)
  refine aw_nl [some (.ref 181), some (.ref (rAid v1)), some (.int v2), some (.ref (rAid v3)), some (.ref (rAid v4)), some (.ref (rAid v5)), none, none, none, none] rfl ?_
  refine aw_iconst C 0 dX9_cutsMarkup_0 ki_0 ?_
  refine aw_istore C dX9_cutsMarkup_1 (by decide) rfl ?_
  refine aw_nl [some (.ref 181), some (.ref (rAid v1)), some (.int v2), some (.ref (rAid v3)), some (.ref (rAid v4)), some (.ref (rAid v5)), some (.int (0 : Int32)), none, none, none] rfl ?_
  refine aw_fl [some (.ref 181), some (.ref (rAid v1)), some (.int v2), some (.ref (rAid v3)), some (.ref (rAid v4)), some (.ref (rAid v5)), some (.int (0 : Int32)), none, none, none] ⟨rfl, ⟨rfl, ⟨rfl, ⟨rfl, ⟨rfl, ⟨rfl, ⟨rfl, trivial⟩⟩⟩⟩⟩⟩⟩ ?_
  exact rmX9_cutsMarkup_l3 C rFU v1 v2 v3 v4 v5 (0 : Int32) σ ia1 ia3 ia4 ia5 h
end
/-! part 22ad.ref -/
section
def mX9_cutsQuotes_b161 (rec12 : Nat → Int32 → Nat → Nat → Nat → Int32 → RS9 → Option (Int32 × RS9)) (v1 : Nat) (v2 : Int32) (v3 : Nat) (v4 : Nat) (v5 : Nat) (s0 : Int32) (σ : RS9) : Option (Int32 × RS9) := rec12 v1 v2 v3 v4 v5 s0 σ
set_option maxHeartbeats 1000000 in
theorem rmX9_cutsQuotes_b161 {X : GX} {p : Program} {l : Launch} {e : Env} {s : State} {m : MethodId} {args : Array Value} {below : List Frame} {meth : Method} {c : Code} {f : AH} {n : Nat} {r : Int32 × RS9} {rec12 : Nat → Int32 → Nat → Nat → Nat → Int32 → RS9 → Option (Int32 × RS9)} {v1 : Nat} {v2 : Int32} {v3 : Nat} {v4 : Nat} {v5 : Nat} {s0 : Int32} {σ : RS9} (C : CC X p l (RM 1 0 0) s m args meth c RX9 cX9_cutsQuotes 9 none) (Hr12 : ∀ (v1 : Nat) (v2 : Int32) (v3 : Nat) (v4 : Nat) (v5 : Nat) (v6 : Int32) (σ : RS9), rIsA v1 = true → rIsA v3 = true → rIsA v4 = true → rIsA v5 = true → rec12 v1 v2 v3 v4 v5 v6 σ = some r → AW X p l e (RM 1 0 0) s m args below meth c 9 (ZM X below args s 0 0 (QMv f n r)) (rHm f σ) n 0 0 12 [some (.ref 181), some (.ref (rAid v1)), some (.int v2), some (.ref (rAid v3)), some (.ref (rAid v4)), some (.ref (rAid v5)), some (.int v6), none, none] []) (ia1 : rIsA v1 = true) (ia3 : rIsA v3 = true) (ia4 : rIsA v4 = true) (ia5 : rIsA v5 = true) (h : mX9_cutsQuotes_b161 rec12 v1 v2 v3 v4 v5 s0 σ = some r) : AW X p l e (RM 1 0 0) s m args below meth c 9 (ZM X below args s 0 0 (QMv f n r)) (rHm f σ) n 0 0 161 [some (.ref 181), some (.ref (rAid v1)), some (.int v2), some (.ref (rAid v3)), some (.ref (rAid v4)), some (.ref (rAid v5)), none, none, none] [.int s0] := by
  have h : rec12 v1 v2 v3 v4 v5 s0 σ = some r := h
  refine aw_istore C dX9_cutsQuotes_161 (by decide) rfl ?_
  refine aw_nl [some (.ref 181), some (.ref (rAid v1)), some (.int v2), some (.ref (rAid v3)), some (.ref (rAid v4)), some (.ref (rAid v5)), some (.int s0), none, none] rfl ?_
  refine aw_goto C 12 dX9_cutsQuotes_163 (by decide) ?_
  refine aw_fl [some (.ref 181), some (.ref (rAid v1)), some (.int v2), some (.ref (rAid v3)), some (.ref (rAid v4)), some (.ref (rAid v5)), some (.int s0), none, none] ⟨rfl, ⟨rfl, ⟨rfl, ⟨rfl, ⟨rfl, ⟨rfl, ⟨rfl, trivial⟩⟩⟩⟩⟩⟩⟩ ?_
  exact Hr12 v1 v2 v3 v4 v5 s0 σ ia1 ia3 ia4 ia5 h
def mX9_cutsQuotes_b138 (rec12 : Nat → Int32 → Nat → Nat → Nat → Int32 → RS9 → Option (Int32 × RS9)) (v1 : Nat) (v2 : Int32) (v3 : Nat) (v4 : Nat) (v5 : Nat) (v7 : Int32) (σ : RS9) : Option (Int32 × RS9) := (if v2 ≤ v7 then mX9_cutsQuotes_b161 rec12 v1 v2 v3 v4 v5 v2 σ else ((mX9_endOf v1 v2 (v7 + (1 : Int32)) (34 : Int32) (34 : Int32) σ).bind fun r1 => mX9_cutsQuotes_b161 rec12 v1 v2 v3 v4 v5 r1.1 r1.2))
set_option maxHeartbeats 1000000 in
theorem rmX9_cutsQuotes_b138 {X : GX} {p : Program} {l : Launch} {e : Env} {s : State} {m : MethodId} {args : Array Value} {below : List Frame} {meth : Method} {c : Code} {f : AH} {n : Nat} {r : Int32 × RS9} {rec12 : Nat → Int32 → Nat → Nat → Nat → Int32 → RS9 → Option (Int32 × RS9)} {v1 : Nat} {v2 : Int32} {v3 : Nat} {v4 : Nat} {v5 : Nat} {v7 : Int32} {σ : RS9} (C : CC X p l (RM 1 0 0) s m args meth c RX9 cX9_cutsQuotes 9 none) (Hr12 : ∀ (v1 : Nat) (v2 : Int32) (v3 : Nat) (v4 : Nat) (v5 : Nat) (v6 : Int32) (σ : RS9), rIsA v1 = true → rIsA v3 = true → rIsA v4 = true → rIsA v5 = true → rec12 v1 v2 v3 v4 v5 v6 σ = some r → AW X p l e (RM 1 0 0) s m args below meth c 9 (ZM X below args s 0 0 (QMv f n r)) (rHm f σ) n 0 0 12 [some (.ref 181), some (.ref (rAid v1)), some (.int v2), some (.ref (rAid v3)), some (.ref (rAid v4)), some (.ref (rAid v5)), some (.int v6), none, none] []) (ia1 : rIsA v1 = true) (ia3 : rIsA v3 = true) (ia4 : rIsA v4 = true) (ia5 : rIsA v5 = true) (h : mX9_cutsQuotes_b138 rec12 v1 v2 v3 v4 v5 v7 σ = some r) : AW X p l e (RM 1 0 0) s m args below meth c 9 (ZM X below args s 0 0 (QMv f n r)) (rHm f σ) n 0 0 138 [some (.ref 181), some (.ref (rAid v1)), some (.int v2), some (.ref (rAid v3)), some (.ref (rAid v4)), some (.ref (rAid v5)), none, some (.int v7), none] [] := by
  have h : (if v2 ≤ v7 then mX9_cutsQuotes_b161 rec12 v1 v2 v3 v4 v5 v2 σ else ((mX9_endOf v1 v2 (v7 + (1 : Int32)) (34 : Int32) (34 : Int32) σ).bind fun r1 => mX9_cutsQuotes_b161 rec12 v1 v2 v3 v4 v5 r1.1 r1.2)) = some r := h
  refine aw_iload C dX9_cutsQuotes_138 rfl ?_
  refine aw_iload_n C dX9_cutsQuotes_140 rfl ?_
  refine aw_icmp_ge C 160 dX9_cutsQuotes_141 (by decide) (fun q => ?_) (fun q => ?_)
  · rw [if_pos q] at h
    refine aw_iload_n C dX9_cutsQuotes_160 rfl ?_
    refine aw_fl [some (.ref 181), some (.ref (rAid v1)), some (.int v2), some (.ref (rAid v3)), some (.ref (rAid v4)), some (.ref (rAid v5)), none, none, none] ⟨rfl, ⟨rfl, ⟨rfl, ⟨rfl, ⟨rfl, ⟨rfl, trivial⟩⟩⟩⟩⟩⟩ ?_
    exact rmX9_cutsQuotes_b161 C Hr12 ia1 ia3 ia4 ia5 h
  · rw [if_neg q] at h
    refine aw_ald_n C dX9_cutsQuotes_144 rfl ?_
    refine aw_iload_n C dX9_cutsQuotes_145 rfl ?_
    refine aw_iload C dX9_cutsQuotes_146 rfl ?_
    refine aw_iconst C 1 dX9_cutsQuotes_148 ki_1 ?_
    refine aw_iadd C dX9_cutsQuotes_149 ?_
    refine aw_bipush C 34 dX9_cutsQuotes_150 kb_34 ?_
    refine aw_bipush C 34 dX9_cutsQuotes_152 kb_34 ?_
    obtain ⟨r1, h1, h⟩ := Option.bind_eq_some_iff.mp h
    refine aw_callS C [.ref (rAid v1), .int v2, .int (v7 + (1 : Int32)), .int (34 : Int32), .int (34 : Int32)] ms_X9_148 (rmX9_endOf ia1 h1) rfl dX9_cutsQuotes_154 (Nat.le_of_ble_eq_true rfl) (Nat.le_of_ble_eq_true rfl) rfl (Nat.le_of_ble_eq_true rfl) (Nat.le_of_ble_eq_true rfl) (Nat.le_of_ble_eq_true rfl) (fun v9 f9 n9 hh => ?_)
    obtain ⟨rfl, rfl, rfl⟩ := hh
    refine aw_goto C 161 dX9_cutsQuotes_157 (by decide) ?_
    refine aw_fl [some (.ref 181), some (.ref (rAid v1)), some (.int v2), some (.ref (rAid v3)), some (.ref (rAid v4)), some (.ref (rAid v5)), none, none, none] ⟨rfl, ⟨rfl, ⟨rfl, ⟨rfl, ⟨rfl, ⟨rfl, trivial⟩⟩⟩⟩⟩⟩ ?_
    exact rmX9_cutsQuotes_b161 C Hr12 ia1 ia3 ia4 ia5 h
def mX9_cutsQuotes_b134 (rec12 : Nat → Int32 → Nat → Nat → Nat → Int32 → RS9 → Option (Int32 × RS9)) (v1 : Nat) (v2 : Int32) (v3 : Nat) (v4 : Nat) (v5 : Nat) (v7 : Int32) (s1 : Nat) (s2 : Nat) (s3 : Nat) (s4 : Int32) (s5 : Int32) (σ : RS9) : Option (Int32 × RS9) := ((mX9_finds s1 s2 s3 s4 s5 (0 : Int32) σ).bind fun r1 => mX9_cutsQuotes_b138 rec12 v1 v2 v3 v4 v5 v7 r1.2)
set_option maxHeartbeats 1000000 in
theorem rmX9_cutsQuotes_b134 {X : GX} {p : Program} {l : Launch} {e : Env} {s : State} {m : MethodId} {args : Array Value} {below : List Frame} {meth : Method} {c : Code} {f : AH} {n : Nat} {r : Int32 × RS9} {rec12 : Nat → Int32 → Nat → Nat → Nat → Int32 → RS9 → Option (Int32 × RS9)} {v1 : Nat} {v2 : Int32} {v3 : Nat} {v4 : Nat} {v5 : Nat} {v7 : Int32} {s1 : Nat} {s2 : Nat} {s3 : Nat} {s4 : Int32} {s5 : Int32} {σ : RS9} (C : CC X p l (RM 1 0 0) s m args meth c RX9 cX9_cutsQuotes 9 none) (Hr12 : ∀ (v1 : Nat) (v2 : Int32) (v3 : Nat) (v4 : Nat) (v5 : Nat) (v6 : Int32) (σ : RS9), rIsA v1 = true → rIsA v3 = true → rIsA v4 = true → rIsA v5 = true → rec12 v1 v2 v3 v4 v5 v6 σ = some r → AW X p l e (RM 1 0 0) s m args below meth c 9 (ZM X below args s 0 0 (QMv f n r)) (rHm f σ) n 0 0 12 [some (.ref 181), some (.ref (rAid v1)), some (.int v2), some (.ref (rAid v3)), some (.ref (rAid v4)), some (.ref (rAid v5)), some (.int v6), none, none] []) (ia1 : rIsA v1 = true) (ia3 : rIsA v3 = true) (ia4 : rIsA v4 = true) (ia5 : rIsA v5 = true) (ias1 : rIsA s1 = true) (ias2 : rIsA s2 = true) (ias3 : rIsA s3 = true) (h : mX9_cutsQuotes_b134 rec12 v1 v2 v3 v4 v5 v7 s1 s2 s3 s4 s5 σ = some r) : AW X p l e (RM 1 0 0) s m args below meth c 9 (ZM X below args s 0 0 (QMv f n r)) (rHm f σ) n 0 0 134 [some (.ref 181), some (.ref (rAid v1)), some (.int v2), some (.ref (rAid v3)), some (.ref (rAid v4)), some (.ref (rAid v5)), none, some (.int v7), none] [.int s5, .int s4, .ref (rAid s3), .ref (rAid s2), .ref (rAid s1), .ref 181] := by
  have h : ((mX9_finds s1 s2 s3 s4 s5 (0 : Int32) σ).bind fun r1 => mX9_cutsQuotes_b138 rec12 v1 v2 v3 v4 v5 v7 r1.2) = some r := h
  refine aw_iconst C 0 dX9_cutsQuotes_134 ki_0 ?_
  obtain ⟨r1, h1, h⟩ := Option.bind_eq_some_iff.mp h
  refine aw_callV C (ci := 9) (b := 181) [.ref (rAid s1), .ref (rAid s2), .ref (rAid s3), .int s4, .int s5, .int (0 : Int32)] mv_X9_152 rfl rfl (hm_M f σ) (rmX9_finds ias1 ias2 ias3 h1) rfl dX9_cutsQuotes_135 (Nat.le_of_ble_eq_true rfl) (Nat.le_of_ble_eq_true rfl) rfl (Nat.le_of_ble_eq_true rfl) (Nat.le_of_ble_eq_true rfl) (Nat.le_of_ble_eq_true rfl) (fun v9 f9 n9 hh => ?_)
  obtain ⟨rfl, rfl, rfl⟩ := hh
  refine aw_fl [some (.ref 181), some (.ref (rAid v1)), some (.int v2), some (.ref (rAid v3)), some (.ref (rAid v4)), some (.ref (rAid v5)), none, some (.int v7), none] ⟨rfl, ⟨rfl, ⟨rfl, ⟨rfl, ⟨rfl, ⟨rfl, ⟨rfl, trivial⟩⟩⟩⟩⟩⟩⟩ ?_
  exact rmX9_cutsQuotes_b138 C Hr12 ia1 ia3 ia4 ia5 h
def mX9_cutsQuotes_b112 (rec12 : Nat → Int32 → Nat → Nat → Nat → Int32 → RS9 → Option (Int32 × RS9)) (v1 : Nat) (v2 : Int32) (v3 : Nat) (v4 : Nat) (v5 : Nat) (v6 : Int32) (v7 : Int32) (σ : RS9) : Option (Int32 × RS9) := (if v2 ≤ v7 then mX9_cutsQuotes_b134 rec12 v1 v2 v3 v4 v5 v7 v3 v4 v5 (v6 + (1 : Int32)) v2 σ else mX9_cutsQuotes_b134 rec12 v1 v2 v3 v4 v5 v7 v3 v4 v5 (v6 + (1 : Int32)) v7 σ)
set_option maxHeartbeats 1000000 in
theorem rmX9_cutsQuotes_b112 {X : GX} {p : Program} {l : Launch} {e : Env} {s : State} {m : MethodId} {args : Array Value} {below : List Frame} {meth : Method} {c : Code} {f : AH} {n : Nat} {r : Int32 × RS9} {rec12 : Nat → Int32 → Nat → Nat → Nat → Int32 → RS9 → Option (Int32 × RS9)} {v1 : Nat} {v2 : Int32} {v3 : Nat} {v4 : Nat} {v5 : Nat} {v6 : Int32} {v7 : Int32} {σ : RS9} (C : CC X p l (RM 1 0 0) s m args meth c RX9 cX9_cutsQuotes 9 none) (Hr12 : ∀ (v1 : Nat) (v2 : Int32) (v3 : Nat) (v4 : Nat) (v5 : Nat) (v6 : Int32) (σ : RS9), rIsA v1 = true → rIsA v3 = true → rIsA v4 = true → rIsA v5 = true → rec12 v1 v2 v3 v4 v5 v6 σ = some r → AW X p l e (RM 1 0 0) s m args below meth c 9 (ZM X below args s 0 0 (QMv f n r)) (rHm f σ) n 0 0 12 [some (.ref 181), some (.ref (rAid v1)), some (.int v2), some (.ref (rAid v3)), some (.ref (rAid v4)), some (.ref (rAid v5)), some (.int v6), none, none] []) (ia1 : rIsA v1 = true) (ia3 : rIsA v3 = true) (ia4 : rIsA v4 = true) (ia5 : rIsA v5 = true) (h : mX9_cutsQuotes_b112 rec12 v1 v2 v3 v4 v5 v6 v7 σ = some r) : AW X p l e (RM 1 0 0) s m args below meth c 9 (ZM X below args s 0 0 (QMv f n r)) (rHm f σ) n 0 0 112 [some (.ref 181), some (.ref (rAid v1)), some (.int v2), some (.ref (rAid v3)), some (.ref (rAid v4)), some (.ref (rAid v5)), some (.int v6), some (.int v7), none] [] := by
  have h : (if v2 ≤ v7 then mX9_cutsQuotes_b134 rec12 v1 v2 v3 v4 v5 v7 v3 v4 v5 (v6 + (1 : Int32)) v2 σ else mX9_cutsQuotes_b134 rec12 v1 v2 v3 v4 v5 v7 v3 v4 v5 (v6 + (1 : Int32)) v7 σ) = some r := h
  refine aw_ald_n C dX9_cutsQuotes_112 rfl ?_
  refine aw_ald_n C dX9_cutsQuotes_113 rfl ?_
  refine aw_ald C dX9_cutsQuotes_114 rfl ?_
  refine aw_ald C dX9_cutsQuotes_116 rfl ?_
  refine aw_iload C dX9_cutsQuotes_118 rfl ?_
  refine aw_iconst C 1 dX9_cutsQuotes_120 ki_1 ?_
  refine aw_iadd C dX9_cutsQuotes_121 ?_
  refine aw_iload C dX9_cutsQuotes_122 rfl ?_
  refine aw_iload_n C dX9_cutsQuotes_124 rfl ?_
  refine aw_icmp_ge C 133 dX9_cutsQuotes_125 (by decide) (fun q => ?_) (fun q => ?_)
  · rw [if_pos q] at h
    refine aw_iload_n C dX9_cutsQuotes_133 rfl ?_
    refine aw_fl [some (.ref 181), some (.ref (rAid v1)), some (.int v2), some (.ref (rAid v3)), some (.ref (rAid v4)), some (.ref (rAid v5)), none, some (.int v7), none] ⟨rfl, ⟨rfl, ⟨rfl, ⟨rfl, ⟨rfl, ⟨rfl, ⟨rfl, trivial⟩⟩⟩⟩⟩⟩⟩ ?_
    exact rmX9_cutsQuotes_b134 C Hr12 ia1 ia3 ia4 ia5 ia3 ia4 ia5 h
  · rw [if_neg q] at h
    refine aw_iload C dX9_cutsQuotes_128 rfl ?_
    refine aw_goto C 134 dX9_cutsQuotes_130 (by decide) ?_
    refine aw_fl [some (.ref 181), some (.ref (rAid v1)), some (.int v2), some (.ref (rAid v3)), some (.ref (rAid v4)), some (.ref (rAid v5)), none, some (.int v7), none] ⟨rfl, ⟨rfl, ⟨rfl, ⟨rfl, ⟨rfl, ⟨rfl, ⟨rfl, trivial⟩⟩⟩⟩⟩⟩⟩ ?_
    exact rmX9_cutsQuotes_b134 C Hr12 ia1 ia3 ia4 ia5 ia3 ia4 ia5 h
def mX9_cutsQuotes_b97 (rec12 : Nat → Int32 → Nat → Nat → Nat → Int32 → RS9 → Option (Int32 × RS9)) (v1 : Nat) (v2 : Int32) (v3 : Nat) (v4 : Nat) (v5 : Nat) (v6 : Int32) (v7 : Int32) (v8 : Int32) (σ : RS9) : Option (Int32 × RS9) := (if v2 ≤ v8 then mX9_cutsQuotes_b112 rec12 v1 v2 v3 v4 v5 v6 v7 σ else rCk (rIn v8 (rLen v1)) ((if (rGa σ v1 v8) = (58 : Int32) then mX9_cutsQuotes_b138 rec12 v1 v2 v3 v4 v5 v7 σ else mX9_cutsQuotes_b112 rec12 v1 v2 v3 v4 v5 v6 v7 σ)))
set_option maxHeartbeats 1000000 in
theorem rmX9_cutsQuotes_b97 {X : GX} {p : Program} {l : Launch} {e : Env} {s : State} {m : MethodId} {args : Array Value} {below : List Frame} {meth : Method} {c : Code} {f : AH} {n : Nat} {r : Int32 × RS9} {rec12 : Nat → Int32 → Nat → Nat → Nat → Int32 → RS9 → Option (Int32 × RS9)} {v1 : Nat} {v2 : Int32} {v3 : Nat} {v4 : Nat} {v5 : Nat} {v6 : Int32} {v7 : Int32} {v8 : Int32} {σ : RS9} (C : CC X p l (RM 1 0 0) s m args meth c RX9 cX9_cutsQuotes 9 none) (Hr12 : ∀ (v1 : Nat) (v2 : Int32) (v3 : Nat) (v4 : Nat) (v5 : Nat) (v6 : Int32) (σ : RS9), rIsA v1 = true → rIsA v3 = true → rIsA v4 = true → rIsA v5 = true → rec12 v1 v2 v3 v4 v5 v6 σ = some r → AW X p l e (RM 1 0 0) s m args below meth c 9 (ZM X below args s 0 0 (QMv f n r)) (rHm f σ) n 0 0 12 [some (.ref 181), some (.ref (rAid v1)), some (.int v2), some (.ref (rAid v3)), some (.ref (rAid v4)), some (.ref (rAid v5)), some (.int v6), none, none] []) (ia1 : rIsA v1 = true) (ia3 : rIsA v3 = true) (ia4 : rIsA v4 = true) (ia5 : rIsA v5 = true) (h : mX9_cutsQuotes_b97 rec12 v1 v2 v3 v4 v5 v6 v7 v8 σ = some r) : AW X p l e (RM 1 0 0) s m args below meth c 9 (ZM X below args s 0 0 (QMv f n r)) (rHm f σ) n 0 0 97 [some (.ref 181), some (.ref (rAid v1)), some (.int v2), some (.ref (rAid v3)), some (.ref (rAid v4)), some (.ref (rAid v5)), some (.int v6), some (.int v7), some (.int v8)] [] := by
  have h : (if v2 ≤ v8 then mX9_cutsQuotes_b112 rec12 v1 v2 v3 v4 v5 v6 v7 σ else rCk (rIn v8 (rLen v1)) ((if (rGa σ v1 v8) = (58 : Int32) then mX9_cutsQuotes_b138 rec12 v1 v2 v3 v4 v5 v7 σ else mX9_cutsQuotes_b112 rec12 v1 v2 v3 v4 v5 v6 v7 σ))) = some r := h
  refine aw_iload C dX9_cutsQuotes_97 rfl ?_
  refine aw_iload_n C dX9_cutsQuotes_99 rfl ?_
  refine aw_icmp_ge C 112 dX9_cutsQuotes_100 (by decide) (fun q => ?_) (fun q => ?_)
  · rw [if_pos q] at h
    refine aw_fl [some (.ref 181), some (.ref (rAid v1)), some (.int v2), some (.ref (rAid v3)), some (.ref (rAid v4)), some (.ref (rAid v5)), some (.int v6), some (.int v7), none] ⟨rfl, ⟨rfl, ⟨rfl, ⟨rfl, ⟨rfl, ⟨rfl, ⟨rfl, ⟨rfl, trivial⟩⟩⟩⟩⟩⟩⟩⟩ ?_
    exact rmX9_cutsQuotes_b112 C Hr12 ia1 ia3 ia4 ia5 h
  · rw [if_neg q] at h
    refine aw_ald_n C dX9_cutsQuotes_103 rfl ?_
    refine aw_iload C dX9_cutsQuotes_104 rfl ?_
    obtain ⟨hb1, h⟩ := ck_some h
    refine am_iald C (rGa σ v1 v8) ia1 (inb_vp hb1) rfl dX9_cutsQuotes_106 ?_
    refine aw_bipush C 58 dX9_cutsQuotes_107 kb_58 ?_
    refine aw_icmp_eq C 138 dX9_cutsQuotes_109 (by decide) (fun q => ?_) (fun q => ?_)
    · rw [if_pos q] at h
      refine aw_fl [some (.ref 181), some (.ref (rAid v1)), some (.int v2), some (.ref (rAid v3)), some (.ref (rAid v4)), some (.ref (rAid v5)), none, some (.int v7), none] ⟨rfl, ⟨rfl, ⟨rfl, ⟨rfl, ⟨rfl, ⟨rfl, ⟨rfl, trivial⟩⟩⟩⟩⟩⟩⟩ ?_
      exact rmX9_cutsQuotes_b138 C Hr12 ia1 ia3 ia4 ia5 h
    · rw [if_neg q] at h
      refine aw_fl [some (.ref 181), some (.ref (rAid v1)), some (.int v2), some (.ref (rAid v3)), some (.ref (rAid v4)), some (.ref (rAid v5)), some (.int v6), some (.int v7), none] ⟨rfl, ⟨rfl, ⟨rfl, ⟨rfl, ⟨rfl, ⟨rfl, ⟨rfl, ⟨rfl, trivial⟩⟩⟩⟩⟩⟩⟩⟩ ?_
      exact rmX9_cutsQuotes_b112 C Hr12 ia1 ia3 ia4 ia5 h
def mX9_cutsQuotes_l75 (rec12 : Nat → Int32 → Nat → Nat → Nat → Int32 → RS9 → Option (Int32 × RS9)) : Nat → Nat → Int32 → Nat → Nat → Nat → Int32 → Int32 → Int32 → RS9 → Option (Int32 × RS9)
  | 0, _, _, _, _, _, _, _, _, _ => none
  | d + 1, v1, v2, v3, v4, v5, v6, v7, v8, σ => (if v2 ≤ v8 then mX9_cutsQuotes_b97 rec12 v1 v2 v3 v4 v5 v6 v7 v8 σ else rCk (rIn v8 (rLen v1)) (((mX9_isBare (rGa σ v1 v8) σ).bind fun r2 => (if r2.1 = (0 : Int32) then mX9_cutsQuotes_b97 rec12 v1 v2 v3 v4 v5 v6 v7 v8 r2.2 else mX9_cutsQuotes_l75 rec12 d v1 v2 v3 v4 v5 v6 v7 (v8 + (1 : Int32)) r2.2))))
set_option maxHeartbeats 1000000 in
theorem rmX9_cutsQuotes_l75 {X : GX} {p : Program} {l : Launch} {e : Env} {s : State} {m : MethodId} {args : Array Value} {below : List Frame} {meth : Method} {c : Code} {f : AH} {n : Nat} {r : Int32 × RS9} {rec12 : Nat → Int32 → Nat → Nat → Nat → Int32 → RS9 → Option (Int32 × RS9)} (C : CC X p l (RM 1 0 0) s m args meth c RX9 cX9_cutsQuotes 9 none) (Hr12 : ∀ (v1 : Nat) (v2 : Int32) (v3 : Nat) (v4 : Nat) (v5 : Nat) (v6 : Int32) (σ : RS9), rIsA v1 = true → rIsA v3 = true → rIsA v4 = true → rIsA v5 = true → rec12 v1 v2 v3 v4 v5 v6 σ = some r → AW X p l e (RM 1 0 0) s m args below meth c 9 (ZM X below args s 0 0 (QMv f n r)) (rHm f σ) n 0 0 12 [some (.ref 181), some (.ref (rAid v1)), some (.int v2), some (.ref (rAid v3)), some (.ref (rAid v4)), some (.ref (rAid v5)), some (.int v6), none, none] []) : ∀ (d : Nat) (v1 : Nat) (v2 : Int32) (v3 : Nat) (v4 : Nat) (v5 : Nat) (v6 : Int32) (v7 : Int32) (v8 : Int32) (σ : RS9) (_ : rIsA v1 = true) (_ : rIsA v3 = true) (_ : rIsA v4 = true) (_ : rIsA v5 = true) (_ : mX9_cutsQuotes_l75 rec12 d v1 v2 v3 v4 v5 v6 v7 v8 σ = some r), AW X p l e (RM 1 0 0) s m args below meth c 9 (ZM X below args s 0 0 (QMv f n r)) (rHm f σ) n 0 0 75 [some (.ref 181), some (.ref (rAid v1)), some (.int v2), some (.ref (rAid v3)), some (.ref (rAid v4)), some (.ref (rAid v5)), some (.int v6), some (.int v7), some (.int v8)] [] := by
  intro d
  induction d with
  | zero =>
    intro v1 v2 v3 v4 v5 v6 v7 v8 σ ia1 ia3 ia4 ia5 h
    exact nomatch (show (none : Option (Int32 × RS9)) = some r from h)
  | succ d ih =>
    intro v1 v2 v3 v4 v5 v6 v7 v8 σ ia1 ia3 ia4 ia5 h
    have h : (if v2 ≤ v8 then mX9_cutsQuotes_b97 rec12 v1 v2 v3 v4 v5 v6 v7 v8 σ else rCk (rIn v8 (rLen v1)) (((mX9_isBare (rGa σ v1 v8) σ).bind fun r2 => (if r2.1 = (0 : Int32) then mX9_cutsQuotes_b97 rec12 v1 v2 v3 v4 v5 v6 v7 v8 r2.2 else mX9_cutsQuotes_l75 rec12 d v1 v2 v3 v4 v5 v6 v7 (v8 + (1 : Int32)) r2.2)))) = some r := h
    refine aw_iload C dX9_cutsQuotes_75 rfl ?_
    refine aw_iload_n C dX9_cutsQuotes_77 rfl ?_
    refine aw_icmp_ge C 97 dX9_cutsQuotes_78 (by decide) (fun q => ?_) (fun q => ?_)
    · rw [if_pos q] at h
      refine aw_fl [some (.ref 181), some (.ref (rAid v1)), some (.int v2), some (.ref (rAid v3)), some (.ref (rAid v4)), some (.ref (rAid v5)), some (.int v6), some (.int v7), some (.int v8)] ⟨rfl, ⟨rfl, ⟨rfl, ⟨rfl, ⟨rfl, ⟨rfl, ⟨rfl, ⟨rfl, ⟨rfl, trivial⟩⟩⟩⟩⟩⟩⟩⟩⟩ ?_
      exact rmX9_cutsQuotes_b97 C Hr12 ia1 ia3 ia4 ia5 h
    · rw [if_neg q] at h
      refine aw_ald_n C dX9_cutsQuotes_81 rfl ?_
      refine aw_iload C dX9_cutsQuotes_82 rfl ?_
      obtain ⟨hb1, h⟩ := ck_some h
      refine am_iald C (rGa σ v1 v8) ia1 (inb_vp hb1) rfl dX9_cutsQuotes_84 ?_
      obtain ⟨r2, h2, h⟩ := Option.bind_eq_some_iff.mp h
      refine aw_callS C [.int (rGa σ v1 v8)] ms_X9_156 (rmX9_isBare h2) rfl dX9_cutsQuotes_85 (Nat.le_of_ble_eq_true rfl) (Nat.le_of_ble_eq_true rfl) rfl (Nat.le_of_ble_eq_true rfl) (Nat.le_of_ble_eq_true rfl) (Nat.le_of_ble_eq_true rfl) (fun v9 f9 n9 hh => ?_)
      obtain ⟨rfl, rfl, rfl⟩ := hh
      refine aw_if_eq C 97 dX9_cutsQuotes_88 (by decide) (fun q => ?_) (fun q => ?_)
      · rw [if_pos q] at h
        refine aw_fl [some (.ref 181), some (.ref (rAid v1)), some (.int v2), some (.ref (rAid v3)), some (.ref (rAid v4)), some (.ref (rAid v5)), some (.int v6), some (.int v7), some (.int v8)] ⟨rfl, ⟨rfl, ⟨rfl, ⟨rfl, ⟨rfl, ⟨rfl, ⟨rfl, ⟨rfl, ⟨rfl, trivial⟩⟩⟩⟩⟩⟩⟩⟩⟩ ?_
        exact rmX9_cutsQuotes_b97 C Hr12 ia1 ia3 ia4 ia5 h
      · rw [if_neg q] at h
        refine aw_iinc C (v8 + (1 : Int32)) dX9_cutsQuotes_91 rfl (by rw [ki_1]) (by decide) rfl ?_
        refine aw_nl [some (.ref 181), some (.ref (rAid v1)), some (.int v2), some (.ref (rAid v3)), some (.ref (rAid v4)), some (.ref (rAid v5)), some (.int v6), some (.int v7), some (.int (v8 + (1 : Int32)))] rfl ?_
        refine aw_goto C 75 dX9_cutsQuotes_94 (by decide) ?_
        refine aw_fl [some (.ref 181), some (.ref (rAid v1)), some (.int v2), some (.ref (rAid v3)), some (.ref (rAid v4)), some (.ref (rAid v5)), some (.int v6), some (.int v7), some (.int (v8 + (1 : Int32)))] ⟨rfl, ⟨rfl, ⟨rfl, ⟨rfl, ⟨rfl, ⟨rfl, ⟨rfl, ⟨rfl, ⟨rfl, trivial⟩⟩⟩⟩⟩⟩⟩⟩⟩ ?_
        exact ih v1 v2 v3 v4 v5 v6 v7 (v8 + (1 : Int32)) r2.2 ia1 ia3 ia4 ia5 h
def mX9_cutsQuotes_b69 (rec12 : Nat → Int32 → Nat → Nat → Nat → Int32 → RS9 → Option (Int32 × RS9)) (v1 : Nat) (v2 : Int32) (v3 : Nat) (v4 : Nat) (v5 : Nat) (v6 : Int32) (v7 : Int32) (σ : RS9) : Option (Int32 × RS9) := mX9_cutsQuotes_l75 rec12 rFU v1 v2 v3 v4 v5 v6 v7 (v7 + (1 : Int32)) σ
set_option maxHeartbeats 1000000 in
theorem rmX9_cutsQuotes_b69 {X : GX} {p : Program} {l : Launch} {e : Env} {s : State} {m : MethodId} {args : Array Value} {below : List Frame} {meth : Method} {c : Code} {f : AH} {n : Nat} {r : Int32 × RS9} {rec12 : Nat → Int32 → Nat → Nat → Nat → Int32 → RS9 → Option (Int32 × RS9)} {v1 : Nat} {v2 : Int32} {v3 : Nat} {v4 : Nat} {v5 : Nat} {v6 : Int32} {v7 : Int32} {σ : RS9} (C : CC X p l (RM 1 0 0) s m args meth c RX9 cX9_cutsQuotes 9 none) (Hr12 : ∀ (v1 : Nat) (v2 : Int32) (v3 : Nat) (v4 : Nat) (v5 : Nat) (v6 : Int32) (σ : RS9), rIsA v1 = true → rIsA v3 = true → rIsA v4 = true → rIsA v5 = true → rec12 v1 v2 v3 v4 v5 v6 σ = some r → AW X p l e (RM 1 0 0) s m args below meth c 9 (ZM X below args s 0 0 (QMv f n r)) (rHm f σ) n 0 0 12 [some (.ref 181), some (.ref (rAid v1)), some (.int v2), some (.ref (rAid v3)), some (.ref (rAid v4)), some (.ref (rAid v5)), some (.int v6), none, none] []) (ia1 : rIsA v1 = true) (ia3 : rIsA v3 = true) (ia4 : rIsA v4 = true) (ia5 : rIsA v5 = true) (h : mX9_cutsQuotes_b69 rec12 v1 v2 v3 v4 v5 v6 v7 σ = some r) : AW X p l e (RM 1 0 0) s m args below meth c 9 (ZM X below args s 0 0 (QMv f n r)) (rHm f σ) n 0 0 69 [some (.ref 181), some (.ref (rAid v1)), some (.int v2), some (.ref (rAid v3)), some (.ref (rAid v4)), some (.ref (rAid v5)), some (.int v6), some (.int v7), none] [] := by
  have h : mX9_cutsQuotes_l75 rec12 rFU v1 v2 v3 v4 v5 v6 v7 (v7 + (1 : Int32)) σ = some r := h
  refine aw_iload C dX9_cutsQuotes_69 rfl ?_
  refine aw_iconst C 1 dX9_cutsQuotes_71 ki_1 ?_
  refine aw_iadd C dX9_cutsQuotes_72 ?_
  refine aw_istore C dX9_cutsQuotes_73 (by decide) rfl ?_
  refine aw_nl [some (.ref 181), some (.ref (rAid v1)), some (.int v2), some (.ref (rAid v3)), some (.ref (rAid v4)), some (.ref (rAid v5)), some (.int v6), some (.int v7), some (.int (v7 + (1 : Int32)))] rfl ?_
  refine aw_fl [some (.ref 181), some (.ref (rAid v1)), some (.int v2), some (.ref (rAid v3)), some (.ref (rAid v4)), some (.ref (rAid v5)), some (.int v6), some (.int v7), some (.int (v7 + (1 : Int32)))] ⟨rfl, ⟨rfl, ⟨rfl, ⟨rfl, ⟨rfl, ⟨rfl, ⟨rfl, ⟨rfl, ⟨rfl, trivial⟩⟩⟩⟩⟩⟩⟩⟩⟩ ?_
  exact rmX9_cutsQuotes_l75 C Hr12 rFU v1 v2 v3 v4 v5 v6 v7 (v7 + (1 : Int32)) σ ia1 ia3 ia4 ia5 h
def mX9_cutsQuotes_b63 (rec12 : Nat → Int32 → Nat → Nat → Nat → Int32 → RS9 → Option (Int32 × RS9)) (rec24 : Nat → Int32 → Nat → Nat → Nat → Int32 → Int32 → RS9 → Option (Int32 × RS9)) (v1 : Nat) (v2 : Int32) (v3 : Nat) (v4 : Nat) (v5 : Nat) (v6 : Int32) (s0 : Int32) (s1 : Int32) (σ : RS9) : Option (Int32 × RS9) := rec24 v1 v2 v3 v4 v5 v6 (s0 + s1) σ
set_option maxHeartbeats 1000000 in
theorem rmX9_cutsQuotes_b63 {X : GX} {p : Program} {l : Launch} {e : Env} {s : State} {m : MethodId} {args : Array Value} {below : List Frame} {meth : Method} {c : Code} {f : AH} {n : Nat} {r : Int32 × RS9} {rec12 : Nat → Int32 → Nat → Nat → Nat → Int32 → RS9 → Option (Int32 × RS9)} {rec24 : Nat → Int32 → Nat → Nat → Nat → Int32 → Int32 → RS9 → Option (Int32 × RS9)} {v1 : Nat} {v2 : Int32} {v3 : Nat} {v4 : Nat} {v5 : Nat} {v6 : Int32} {s0 : Int32} {s1 : Int32} {σ : RS9} (C : CC X p l (RM 1 0 0) s m args meth c RX9 cX9_cutsQuotes 9 none) (Hr12 : ∀ (v1 : Nat) (v2 : Int32) (v3 : Nat) (v4 : Nat) (v5 : Nat) (v6 : Int32) (σ : RS9), rIsA v1 = true → rIsA v3 = true → rIsA v4 = true → rIsA v5 = true → rec12 v1 v2 v3 v4 v5 v6 σ = some r → AW X p l e (RM 1 0 0) s m args below meth c 9 (ZM X below args s 0 0 (QMv f n r)) (rHm f σ) n 0 0 12 [some (.ref 181), some (.ref (rAid v1)), some (.int v2), some (.ref (rAid v3)), some (.ref (rAid v4)), some (.ref (rAid v5)), some (.int v6), none, none] []) (Hr24 : ∀ (v1 : Nat) (v2 : Int32) (v3 : Nat) (v4 : Nat) (v5 : Nat) (v6 : Int32) (v7 : Int32) (σ : RS9), rIsA v1 = true → rIsA v3 = true → rIsA v4 = true → rIsA v5 = true → rec24 v1 v2 v3 v4 v5 v6 v7 σ = some r → AW X p l e (RM 1 0 0) s m args below meth c 9 (ZM X below args s 0 0 (QMv f n r)) (rHm f σ) n 0 0 24 [some (.ref 181), some (.ref (rAid v1)), some (.int v2), some (.ref (rAid v3)), some (.ref (rAid v4)), some (.ref (rAid v5)), some (.int v6), some (.int v7), none] []) (ia1 : rIsA v1 = true) (ia3 : rIsA v3 = true) (ia4 : rIsA v4 = true) (ia5 : rIsA v5 = true) (h : mX9_cutsQuotes_b63 rec12 rec24 v1 v2 v3 v4 v5 v6 s0 s1 σ = some r) : AW X p l e (RM 1 0 0) s m args below meth c 9 (ZM X below args s 0 0 (QMv f n r)) (rHm f σ) n 0 0 63 [some (.ref 181), some (.ref (rAid v1)), some (.int v2), some (.ref (rAid v3)), some (.ref (rAid v4)), some (.ref (rAid v5)), some (.int v6), none, none] [.int s1, .int s0] := by
  have h : rec24 v1 v2 v3 v4 v5 v6 (s0 + s1) σ = some r := h
  refine aw_iadd C dX9_cutsQuotes_63 ?_
  refine aw_istore C dX9_cutsQuotes_64 (by decide) rfl ?_
  refine aw_nl [some (.ref 181), some (.ref (rAid v1)), some (.int v2), some (.ref (rAid v3)), some (.ref (rAid v4)), some (.ref (rAid v5)), some (.int v6), some (.int (s0 + s1)), none] rfl ?_
  refine aw_goto C 24 dX9_cutsQuotes_66 (by decide) ?_
  refine aw_fl [some (.ref 181), some (.ref (rAid v1)), some (.int v2), some (.ref (rAid v3)), some (.ref (rAid v4)), some (.ref (rAid v5)), some (.int v6), some (.int (s0 + s1)), none] ⟨rfl, ⟨rfl, ⟨rfl, ⟨rfl, ⟨rfl, ⟨rfl, ⟨rfl, ⟨rfl, trivial⟩⟩⟩⟩⟩⟩⟩⟩ ?_
  exact Hr24 v1 v2 v3 v4 v5 v6 (s0 + s1) σ ia1 ia3 ia4 ia5 h
def mX9_cutsQuotes_b62 (rec12 : Nat → Int32 → Nat → Nat → Nat → Int32 → RS9 → Option (Int32 × RS9)) (rec24 : Nat → Int32 → Nat → Nat → Nat → Int32 → Int32 → RS9 → Option (Int32 × RS9)) (v1 : Nat) (v2 : Int32) (v3 : Nat) (v4 : Nat) (v5 : Nat) (v6 : Int32) (s0 : Int32) (σ : RS9) : Option (Int32 × RS9) := mX9_cutsQuotes_b63 rec12 rec24 v1 v2 v3 v4 v5 v6 s0 (1 : Int32) σ
set_option maxHeartbeats 1000000 in
theorem rmX9_cutsQuotes_b62 {X : GX} {p : Program} {l : Launch} {e : Env} {s : State} {m : MethodId} {args : Array Value} {below : List Frame} {meth : Method} {c : Code} {f : AH} {n : Nat} {r : Int32 × RS9} {rec12 : Nat → Int32 → Nat → Nat → Nat → Int32 → RS9 → Option (Int32 × RS9)} {rec24 : Nat → Int32 → Nat → Nat → Nat → Int32 → Int32 → RS9 → Option (Int32 × RS9)} {v1 : Nat} {v2 : Int32} {v3 : Nat} {v4 : Nat} {v5 : Nat} {v6 : Int32} {s0 : Int32} {σ : RS9} (C : CC X p l (RM 1 0 0) s m args meth c RX9 cX9_cutsQuotes 9 none) (Hr12 : ∀ (v1 : Nat) (v2 : Int32) (v3 : Nat) (v4 : Nat) (v5 : Nat) (v6 : Int32) (σ : RS9), rIsA v1 = true → rIsA v3 = true → rIsA v4 = true → rIsA v5 = true → rec12 v1 v2 v3 v4 v5 v6 σ = some r → AW X p l e (RM 1 0 0) s m args below meth c 9 (ZM X below args s 0 0 (QMv f n r)) (rHm f σ) n 0 0 12 [some (.ref 181), some (.ref (rAid v1)), some (.int v2), some (.ref (rAid v3)), some (.ref (rAid v4)), some (.ref (rAid v5)), some (.int v6), none, none] []) (Hr24 : ∀ (v1 : Nat) (v2 : Int32) (v3 : Nat) (v4 : Nat) (v5 : Nat) (v6 : Int32) (v7 : Int32) (σ : RS9), rIsA v1 = true → rIsA v3 = true → rIsA v4 = true → rIsA v5 = true → rec24 v1 v2 v3 v4 v5 v6 v7 σ = some r → AW X p l e (RM 1 0 0) s m args below meth c 9 (ZM X below args s 0 0 (QMv f n r)) (rHm f σ) n 0 0 24 [some (.ref 181), some (.ref (rAid v1)), some (.int v2), some (.ref (rAid v3)), some (.ref (rAid v4)), some (.ref (rAid v5)), some (.int v6), some (.int v7), none] []) (ia1 : rIsA v1 = true) (ia3 : rIsA v3 = true) (ia4 : rIsA v4 = true) (ia5 : rIsA v5 = true) (h : mX9_cutsQuotes_b62 rec12 rec24 v1 v2 v3 v4 v5 v6 s0 σ = some r) : AW X p l e (RM 1 0 0) s m args below meth c 9 (ZM X below args s 0 0 (QMv f n r)) (rHm f σ) n 0 0 62 [some (.ref 181), some (.ref (rAid v1)), some (.int v2), some (.ref (rAid v3)), some (.ref (rAid v4)), some (.ref (rAid v5)), some (.int v6), none, none] [.int s0] := by
  have h : mX9_cutsQuotes_b63 rec12 rec24 v1 v2 v3 v4 v5 v6 s0 (1 : Int32) σ = some r := h
  refine aw_iconst C 1 dX9_cutsQuotes_62 ki_1 ?_
  refine aw_fl [some (.ref 181), some (.ref (rAid v1)), some (.int v2), some (.ref (rAid v3)), some (.ref (rAid v4)), some (.ref (rAid v5)), some (.int v6), none, none] ⟨rfl, ⟨rfl, ⟨rfl, ⟨rfl, ⟨rfl, ⟨rfl, ⟨rfl, trivial⟩⟩⟩⟩⟩⟩⟩ ?_
  exact rmX9_cutsQuotes_b63 C Hr12 Hr24 ia1 ia3 ia4 ia5 h
def mX9_cutsQuotes_l24 (rec12 : Nat → Int32 → Nat → Nat → Nat → Int32 → RS9 → Option (Int32 × RS9)) : Nat → Nat → Int32 → Nat → Nat → Nat → Int32 → Int32 → RS9 → Option (Int32 × RS9)
  | 0, _, _, _, _, _, _, _, _ => none
  | d + 1, v1, v2, v3, v4, v5, v6, v7, σ => (if v2 ≤ v7 then mX9_cutsQuotes_b69 rec12 v1 v2 v3 v4 v5 v6 v7 σ else rCk (rIn v7 (rLen v1)) ((if (rGa σ v1 v7) = (34 : Int32) then mX9_cutsQuotes_b69 rec12 v1 v2 v3 v4 v5 v6 v7 σ else rCk (rIn v7 (rLen v1)) ((if (rGa σ v1 v7) = (92 : Int32) then (if v2 ≤ (v7 + (1 : Int32)) then mX9_cutsQuotes_b62 rec12 (fun v1 v2 v3 v4 v5 v6 v7 σ => mX9_cutsQuotes_l24 rec12 d v1 v2 v3 v4 v5 v6 v7 σ) v1 v2 v3 v4 v5 v6 v7 σ else mX9_cutsQuotes_b63 rec12 (fun v1 v2 v3 v4 v5 v6 v7 σ => mX9_cutsQuotes_l24 rec12 d v1 v2 v3 v4 v5 v6 v7 σ) v1 v2 v3 v4 v5 v6 v7 (2 : Int32) σ) else mX9_cutsQuotes_b62 rec12 (fun v1 v2 v3 v4 v5 v6 v7 σ => mX9_cutsQuotes_l24 rec12 d v1 v2 v3 v4 v5 v6 v7 σ) v1 v2 v3 v4 v5 v6 v7 σ)))))
set_option maxHeartbeats 1000000 in
theorem rmX9_cutsQuotes_l24 {X : GX} {p : Program} {l : Launch} {e : Env} {s : State} {m : MethodId} {args : Array Value} {below : List Frame} {meth : Method} {c : Code} {f : AH} {n : Nat} {r : Int32 × RS9} {rec12 : Nat → Int32 → Nat → Nat → Nat → Int32 → RS9 → Option (Int32 × RS9)} (C : CC X p l (RM 1 0 0) s m args meth c RX9 cX9_cutsQuotes 9 none) (Hr12 : ∀ (v1 : Nat) (v2 : Int32) (v3 : Nat) (v4 : Nat) (v5 : Nat) (v6 : Int32) (σ : RS9), rIsA v1 = true → rIsA v3 = true → rIsA v4 = true → rIsA v5 = true → rec12 v1 v2 v3 v4 v5 v6 σ = some r → AW X p l e (RM 1 0 0) s m args below meth c 9 (ZM X below args s 0 0 (QMv f n r)) (rHm f σ) n 0 0 12 [some (.ref 181), some (.ref (rAid v1)), some (.int v2), some (.ref (rAid v3)), some (.ref (rAid v4)), some (.ref (rAid v5)), some (.int v6), none, none] []) : ∀ (d : Nat) (v1 : Nat) (v2 : Int32) (v3 : Nat) (v4 : Nat) (v5 : Nat) (v6 : Int32) (v7 : Int32) (σ : RS9) (_ : rIsA v1 = true) (_ : rIsA v3 = true) (_ : rIsA v4 = true) (_ : rIsA v5 = true) (_ : mX9_cutsQuotes_l24 rec12 d v1 v2 v3 v4 v5 v6 v7 σ = some r), AW X p l e (RM 1 0 0) s m args below meth c 9 (ZM X below args s 0 0 (QMv f n r)) (rHm f σ) n 0 0 24 [some (.ref 181), some (.ref (rAid v1)), some (.int v2), some (.ref (rAid v3)), some (.ref (rAid v4)), some (.ref (rAid v5)), some (.int v6), some (.int v7), none] [] := by
  intro d
  induction d with
  | zero =>
    intro v1 v2 v3 v4 v5 v6 v7 σ ia1 ia3 ia4 ia5 h
    exact nomatch (show (none : Option (Int32 × RS9)) = some r from h)
  | succ d ih =>
    intro v1 v2 v3 v4 v5 v6 v7 σ ia1 ia3 ia4 ia5 h
    have h : (if v2 ≤ v7 then mX9_cutsQuotes_b69 rec12 v1 v2 v3 v4 v5 v6 v7 σ else rCk (rIn v7 (rLen v1)) ((if (rGa σ v1 v7) = (34 : Int32) then mX9_cutsQuotes_b69 rec12 v1 v2 v3 v4 v5 v6 v7 σ else rCk (rIn v7 (rLen v1)) ((if (rGa σ v1 v7) = (92 : Int32) then (if v2 ≤ (v7 + (1 : Int32)) then mX9_cutsQuotes_b62 rec12 (fun v1 v2 v3 v4 v5 v6 v7 σ => mX9_cutsQuotes_l24 rec12 d v1 v2 v3 v4 v5 v6 v7 σ) v1 v2 v3 v4 v5 v6 v7 σ else mX9_cutsQuotes_b63 rec12 (fun v1 v2 v3 v4 v5 v6 v7 σ => mX9_cutsQuotes_l24 rec12 d v1 v2 v3 v4 v5 v6 v7 σ) v1 v2 v3 v4 v5 v6 v7 (2 : Int32) σ) else mX9_cutsQuotes_b62 rec12 (fun v1 v2 v3 v4 v5 v6 v7 σ => mX9_cutsQuotes_l24 rec12 d v1 v2 v3 v4 v5 v6 v7 σ) v1 v2 v3 v4 v5 v6 v7 σ))))) = some r := h
    refine aw_iload C dX9_cutsQuotes_24 rfl ?_
    refine aw_iload_n C dX9_cutsQuotes_26 rfl ?_
    refine aw_icmp_ge C 69 dX9_cutsQuotes_27 (by decide) (fun q => ?_) (fun q => ?_)
    · rw [if_pos q] at h
      refine aw_fl [some (.ref 181), some (.ref (rAid v1)), some (.int v2), some (.ref (rAid v3)), some (.ref (rAid v4)), some (.ref (rAid v5)), some (.int v6), some (.int v7), none] ⟨rfl, ⟨rfl, ⟨rfl, ⟨rfl, ⟨rfl, ⟨rfl, ⟨rfl, ⟨rfl, trivial⟩⟩⟩⟩⟩⟩⟩⟩ ?_
      exact rmX9_cutsQuotes_b69 C Hr12 ia1 ia3 ia4 ia5 h
    · rw [if_neg q] at h
      refine aw_ald_n C dX9_cutsQuotes_30 rfl ?_
      refine aw_iload C dX9_cutsQuotes_31 rfl ?_
      obtain ⟨hb1, h⟩ := ck_some h
      refine am_iald C (rGa σ v1 v7) ia1 (inb_vp hb1) rfl dX9_cutsQuotes_33 ?_
      refine aw_bipush C 34 dX9_cutsQuotes_34 kb_34 ?_
      refine aw_icmp_eq C 69 dX9_cutsQuotes_36 (by decide) (fun q => ?_) (fun q => ?_)
      · rw [if_pos q] at h
        refine aw_fl [some (.ref 181), some (.ref (rAid v1)), some (.int v2), some (.ref (rAid v3)), some (.ref (rAid v4)), some (.ref (rAid v5)), some (.int v6), some (.int v7), none] ⟨rfl, ⟨rfl, ⟨rfl, ⟨rfl, ⟨rfl, ⟨rfl, ⟨rfl, ⟨rfl, trivial⟩⟩⟩⟩⟩⟩⟩⟩ ?_
        exact rmX9_cutsQuotes_b69 C Hr12 ia1 ia3 ia4 ia5 h
      · rw [if_neg q] at h
        refine aw_iload C dX9_cutsQuotes_39 rfl ?_
        refine aw_ald_n C dX9_cutsQuotes_41 rfl ?_
        refine aw_iload C dX9_cutsQuotes_42 rfl ?_
        obtain ⟨hb2, h⟩ := ck_some h
        refine am_iald C (rGa σ v1 v7) ia1 (inb_vp hb2) rfl dX9_cutsQuotes_44 ?_
        refine aw_bipush C 92 dX9_cutsQuotes_45 kb_92 ?_
        refine aw_icmp_ne C 62 dX9_cutsQuotes_47 (by decide) (fun q => ?_) (fun q => ?_)
        · rw [if_neg q] at h
          refine aw_fl [some (.ref 181), some (.ref (rAid v1)), some (.int v2), some (.ref (rAid v3)), some (.ref (rAid v4)), some (.ref (rAid v5)), some (.int v6), none, none] ⟨rfl, ⟨rfl, ⟨rfl, ⟨rfl, ⟨rfl, ⟨rfl, ⟨rfl, trivial⟩⟩⟩⟩⟩⟩⟩ ?_
          exact rmX9_cutsQuotes_b62 C Hr12 (fun v1 v2 v3 v4 v5 v6 v7 σ ia1 ia3 ia4 ia5 h => ih v1 v2 v3 v4 v5 v6 v7 σ ia1 ia3 ia4 ia5 h) ia1 ia3 ia4 ia5 h
        · rw [if_pos q] at h
          refine aw_iload C dX9_cutsQuotes_50 rfl ?_
          refine aw_iconst C 1 dX9_cutsQuotes_52 ki_1 ?_
          refine aw_iadd C dX9_cutsQuotes_53 ?_
          refine aw_iload_n C dX9_cutsQuotes_54 rfl ?_
          refine aw_icmp_ge C 62 dX9_cutsQuotes_55 (by decide) (fun q => ?_) (fun q => ?_)
          · rw [if_pos q] at h
            refine aw_fl [some (.ref 181), some (.ref (rAid v1)), some (.int v2), some (.ref (rAid v3)), some (.ref (rAid v4)), some (.ref (rAid v5)), some (.int v6), none, none] ⟨rfl, ⟨rfl, ⟨rfl, ⟨rfl, ⟨rfl, ⟨rfl, ⟨rfl, trivial⟩⟩⟩⟩⟩⟩⟩ ?_
            exact rmX9_cutsQuotes_b62 C Hr12 (fun v1 v2 v3 v4 v5 v6 v7 σ ia1 ia3 ia4 ia5 h => ih v1 v2 v3 v4 v5 v6 v7 σ ia1 ia3 ia4 ia5 h) ia1 ia3 ia4 ia5 h
          · rw [if_neg q] at h
            refine aw_iconst C 2 dX9_cutsQuotes_58 ki_2 ?_
            refine aw_goto C 63 dX9_cutsQuotes_59 (by decide) ?_
            refine aw_fl [some (.ref 181), some (.ref (rAid v1)), some (.int v2), some (.ref (rAid v3)), some (.ref (rAid v4)), some (.ref (rAid v5)), some (.int v6), none, none] ⟨rfl, ⟨rfl, ⟨rfl, ⟨rfl, ⟨rfl, ⟨rfl, ⟨rfl, trivial⟩⟩⟩⟩⟩⟩⟩ ?_
            exact rmX9_cutsQuotes_b63 C Hr12 (fun v1 v2 v3 v4 v5 v6 v7 σ ia1 ia3 ia4 ia5 h => ih v1 v2 v3 v4 v5 v6 v7 σ ia1 ia3 ia4 ia5 h) ia1 ia3 ia4 ia5 h
def mX9_cutsQuotes_l12 : Nat → Nat → Int32 → Nat → Nat → Nat → Int32 → RS9 → Option (Int32 × RS9)
  | 0, _, _, _, _, _, _, _ => none
  | d + 1, v1, v2, v3, v4, v5, v6, σ => (if v2 ≤ v6 then some ((0 : Int32), σ) else mX9_cutsQuotes_l24 (fun v1 v2 v3 v4 v5 v6 σ => mX9_cutsQuotes_l12 d v1 v2 v3 v4 v5 v6 σ) rFU v1 v2 v3 v4 v5 v6 (v6 + (1 : Int32)) σ)
set_option maxHeartbeats 1000000 in
theorem rmX9_cutsQuotes_l12 {X : GX} {p : Program} {l : Launch} {e : Env} {s : State} {m : MethodId} {args : Array Value} {below : List Frame} {meth : Method} {c : Code} {f : AH} {n : Nat} {r : Int32 × RS9} (C : CC X p l (RM 1 0 0) s m args meth c RX9 cX9_cutsQuotes 9 none) : ∀ (d : Nat) (v1 : Nat) (v2 : Int32) (v3 : Nat) (v4 : Nat) (v5 : Nat) (v6 : Int32) (σ : RS9) (_ : rIsA v1 = true) (_ : rIsA v3 = true) (_ : rIsA v4 = true) (_ : rIsA v5 = true) (_ : mX9_cutsQuotes_l12 d v1 v2 v3 v4 v5 v6 σ = some r), AW X p l e (RM 1 0 0) s m args below meth c 9 (ZM X below args s 0 0 (QMv f n r)) (rHm f σ) n 0 0 12 [some (.ref 181), some (.ref (rAid v1)), some (.int v2), some (.ref (rAid v3)), some (.ref (rAid v4)), some (.ref (rAid v5)), some (.int v6), none, none] [] := by
  intro d
  induction d with
  | zero =>
    intro v1 v2 v3 v4 v5 v6 σ ia1 ia3 ia4 ia5 h
    exact nomatch (show (none : Option (Int32 × RS9)) = some r from h)
  | succ d ih =>
    intro v1 v2 v3 v4 v5 v6 σ ia1 ia3 ia4 ia5 h
    have h : (if v2 ≤ v6 then some ((0 : Int32), σ) else mX9_cutsQuotes_l24 (fun v1 v2 v3 v4 v5 v6 σ => mX9_cutsQuotes_l12 d v1 v2 v3 v4 v5 v6 σ) rFU v1 v2 v3 v4 v5 v6 (v6 + (1 : Int32)) σ) = some r := h
    refine aw_iload C dX9_cutsQuotes_12 rfl ?_
    refine aw_iload_n C dX9_cutsQuotes_14 rfl ?_
    refine aw_icmp_ge C 166 dX9_cutsQuotes_15 (by decide) (fun q => ?_) (fun q => ?_)
    · rw [if_pos q] at h
      cases h
      exact aw_vret C rfl dX9_cutsQuotes_166 (Nat.le_refl _) (Nat.le_refl _) ⟨rfl, rfl, rfl⟩
    · rw [if_neg q] at h
      refine aw_iload C dX9_cutsQuotes_18 rfl ?_
      refine aw_iconst C 1 dX9_cutsQuotes_20 ki_1 ?_
      refine aw_iadd C dX9_cutsQuotes_21 ?_
      refine aw_istore C dX9_cutsQuotes_22 (by decide) rfl ?_
      refine aw_nl [some (.ref 181), some (.ref (rAid v1)), some (.int v2), some (.ref (rAid v3)), some (.ref (rAid v4)), some (.ref (rAid v5)), some (.int v6), some (.int (v6 + (1 : Int32))), none] rfl ?_
      refine aw_fl [some (.ref 181), some (.ref (rAid v1)), some (.int v2), some (.ref (rAid v3)), some (.ref (rAid v4)), some (.ref (rAid v5)), some (.int v6), some (.int (v6 + (1 : Int32))), none] ⟨rfl, ⟨rfl, ⟨rfl, ⟨rfl, ⟨rfl, ⟨rfl, ⟨rfl, ⟨rfl, trivial⟩⟩⟩⟩⟩⟩⟩⟩ ?_
      exact rmX9_cutsQuotes_l24 C (fun v1 v2 v3 v4 v5 v6 σ ia1 ia3 ia4 ia5 h => ih v1 v2 v3 v4 v5 v6 σ ia1 ia3 ia4 ia5 h) rFU v1 v2 v3 v4 v5 v6 (v6 + (1 : Int32)) σ ia1 ia3 ia4 ia5 h
def mX9_cutsQuotes (v1 : Nat) (v2 : Int32) (v3 : Nat) (v4 : Nat) (v5 : Nat) (σ : RS9) : Option (Int32 × RS9) := ((mX9_endOf v1 v2 (0 : Int32) (34 : Int32) (34 : Int32) σ).bind fun r1 => mX9_cutsQuotes_l12 rFU v1 v2 v3 v4 v5 r1.1 r1.2)
set_option maxHeartbeats 1000000 in
theorem rmX9_cutsQuotes {X : GX} {l : Launch} {f : AH} {n : Nat} {r : Int32 × RS9} {v1 : Nat} {v2 : Int32} {v3 : Nat} {v4 : Nat} {v5 : Nat} {σ : RS9} (ia1 : rIsA v1 = true) (ia3 : rIsA v3 = true) (ia4 : rIsA v4 = true) (ia5 : rIsA v5 = true) (h : mX9_cutsQuotes v1 v2 v3 v4 v5 σ = some r) : AM X l yX9_cutsQuotes cX9_cutsQuotes 9 none 1 0 0 [.ref 181, .ref (rAid v1), .int v2, .ref (rAid v3), .ref (rAid v4), .ref (rAid v5)] (rHm f σ) n (QMv f n r) := by
  have h : ((mX9_endOf v1 v2 (0 : Int32) (34 : Int32) (34 : Int32) σ).bind fun r1 => mX9_cutsQuotes_l12 rFU v1 v2 v3 v4 v5 r1.1 r1.2) = some r := h
  refine AM.of (by decide +kernel) rfl (Nat.le_of_ble_eq_true rfl) (fun p e s m args below meth c C _ => ?_)
  refine aw_nl [some (.ref 181), some (.ref (rAid v1)), some (.int v2), some (.ref (rAid v3)), some (.ref (rAid v4)), some (.ref (rAid v5)), none, none, none] rfl ?_
  refine aw_ald_n C dX9_cutsQuotes_0 rfl ?_
  refine aw_iload_n C dX9_cutsQuotes_1 rfl ?_
  refine aw_iconst C 0 dX9_cutsQuotes_2 ki_0 ?_
  refine aw_bipush C 34 dX9_cutsQuotes_3 kb_34 ?_
  refine aw_bipush C 34 dX9_cutsQuotes_5 kb_34 ?_
  obtain ⟨r1, h1, h⟩ := Option.bind_eq_some_iff.mp h
  refine aw_callS C [.ref (rAid v1), .int v2, .int (0 : Int32), .int (34 : Int32), .int (34 : Int32)] ms_X9_148 (rmX9_endOf ia1 h1) rfl dX9_cutsQuotes_7 (Nat.le_of_ble_eq_true rfl) (Nat.le_of_ble_eq_true rfl) rfl (Nat.le_of_ble_eq_true rfl) (Nat.le_of_ble_eq_true rfl) (Nat.le_of_ble_eq_true rfl) (fun v9 f9 n9 hh => ?_)
  obtain ⟨rfl, rfl, rfl⟩ := hh
  refine aw_istore C dX9_cutsQuotes_10 (by decide) rfl ?_
  refine aw_nl [some (.ref 181), some (.ref (rAid v1)), some (.int v2), some (.ref (rAid v3)), some (.ref (rAid v4)), some (.ref (rAid v5)), some (.int r1.1), none, none] rfl ?_
  refine aw_fl [some (.ref 181), some (.ref (rAid v1)), some (.int v2), some (.ref (rAid v3)), some (.ref (rAid v4)), some (.ref (rAid v5)), some (.int r1.1), none, none] ⟨rfl, ⟨rfl, ⟨rfl, ⟨rfl, ⟨rfl, ⟨rfl, ⟨rfl, trivial⟩⟩⟩⟩⟩⟩⟩ ?_
  exact rmX9_cutsQuotes_l12 C rFU v1 v2 v3 v4 v5 r1.1 r1.2 ia1 ia3 ia4 ia5 h
def mX9_cuts_b76 (σ : RS9) : Option (Int32 × RS9) := some ((σ.1 54), σ)
set_option maxHeartbeats 1000000 in
theorem rmX9_cuts_b76 {X : GX} {p : Program} {l : Launch} {e : Env} {s : State} {m : MethodId} {args : Array Value} {below : List Frame} {meth : Method} {c : Code} {f : AH} {n : Nat} {r : Int32 × RS9} {σ : RS9} (C : CC X p l (RM 2 0 0) s m args meth c RX9 cX9_cuts 7 (some .int)) (h : mX9_cuts_b76 σ = some r) : AW X p l e (RM 2 0 0) s m args below meth c 7 (ZM X below args s 0 0 (QMi f n r)) (rHm f σ) n 0 0 76 [some (.ref 181), none, none, none, none, none, none] [] := by
  have h : some ((σ.1 54), σ) = some r := h
  refine aw_ald_n C dX9_cuts_76 rfl ?_
  refine aw_get C (v := .int (σ.1 54)) gf_X9_145 (hm_M f σ) rfl dX9_cuts_77 ?_
  cases h
  exact aw_iret C rfl rfl dX9_cuts_80 (Nat.le_refl _) (Nat.le_refl _) ⟨rfl, rfl, rfl⟩
def mX9_cuts (v1 : Int32) (v2 : Nat) (v3 : Int32) (v4 : Nat) (v5 : Nat) (v6 : Nat) (σ : RS9) : Option (Int32 × RS9) := (if v1 = (0 : Int32) then ((mX9_cutsLines v2 v3 v4 v5 v6 (rSf σ 54 (0 : Int32))).bind fun r4 => mX9_cuts_b76 r4.2) else (if v1 = (1 : Int32) then ((mX9_cutsTable v2 v3 v4 v5 v6 (rSf σ 54 (0 : Int32))).bind fun r3 => mX9_cuts_b76 r3.2) else (if v1 = (2 : Int32) then ((mX9_cutsMarkup v2 v3 v4 v5 v6 (rSf σ 54 (0 : Int32))).bind fun r2 => mX9_cuts_b76 r2.2) else ((mX9_cutsQuotes v2 v3 v4 v5 v6 (rSf σ 54 (0 : Int32))).bind fun r1 => mX9_cuts_b76 r1.2))))
set_option maxHeartbeats 1000000 in
theorem rmX9_cuts {X : GX} {l : Launch} {f : AH} {n : Nat} {r : Int32 × RS9} {v1 : Int32} {v2 : Nat} {v3 : Int32} {v4 : Nat} {v5 : Nat} {v6 : Nat} {σ : RS9} (ia2 : rIsA v2 = true) (ia4 : rIsA v4 = true) (ia5 : rIsA v5 = true) (ia6 : rIsA v6 = true) (h : mX9_cuts v1 v2 v3 v4 v5 v6 σ = some r) : AM X l yX9_cuts cX9_cuts 7 (some .int) 2 0 0 [.ref 181, .int v1, .ref (rAid v2), .int v3, .ref (rAid v4), .ref (rAid v5), .ref (rAid v6)] (rHm f σ) n (QMi f n r) := by
  have h : (if v1 = (0 : Int32) then ((mX9_cutsLines v2 v3 v4 v5 v6 (rSf σ 54 (0 : Int32))).bind fun r4 => mX9_cuts_b76 r4.2) else (if v1 = (1 : Int32) then ((mX9_cutsTable v2 v3 v4 v5 v6 (rSf σ 54 (0 : Int32))).bind fun r3 => mX9_cuts_b76 r3.2) else (if v1 = (2 : Int32) then ((mX9_cutsMarkup v2 v3 v4 v5 v6 (rSf σ 54 (0 : Int32))).bind fun r2 => mX9_cuts_b76 r2.2) else ((mX9_cutsQuotes v2 v3 v4 v5 v6 (rSf σ 54 (0 : Int32))).bind fun r1 => mX9_cuts_b76 r1.2)))) = some r := h
  refine AM.of (by decide +kernel) rfl (Nat.le_of_ble_eq_true rfl) (fun p e s m args below meth c C _ => ?_)
  refine aw_nl [some (.ref 181), some (.int v1), some (.ref (rAid v2)), some (.int v3), some (.ref (rAid v4)), some (.ref (rAid v5)), some (.ref (rAid v6))] rfl ?_
  refine aw_ald_n C dX9_cuts_0 rfl ?_
  refine aw_iconst C 0 dX9_cuts_1 ki_0 ?_
  refine am_put C gf_X9_145 nf9_54 rfl rfl dX9_cuts_2 ?_
  refine aw_iload_n C dX9_cuts_5 rfl ?_
  refine aw_if_ne C 24 dX9_cuts_6 (by decide) (fun q => ?_) (fun q => ?_)
  · rw [if_neg q] at h
    refine aw_iload_n C dX9_cuts_24 rfl ?_
    refine aw_iconst C 1 dX9_cuts_25 ki_1 ?_
    refine aw_icmp_ne C 44 dX9_cuts_26 (by decide) (fun q => ?_) (fun q => ?_)
    · rw [if_neg q] at h
      refine aw_iload_n C dX9_cuts_44 rfl ?_
      refine aw_iconst C 2 dX9_cuts_45 ki_2 ?_
      refine aw_icmp_ne C 64 dX9_cuts_46 (by decide) (fun q => ?_) (fun q => ?_)
      · rw [if_neg q] at h
        refine aw_ald_n C dX9_cuts_64 rfl ?_
        refine aw_ald_n C dX9_cuts_65 rfl ?_
        refine aw_iload_n C dX9_cuts_66 rfl ?_
        refine aw_ald C dX9_cuts_67 rfl ?_
        refine aw_ald C dX9_cuts_69 rfl ?_
        refine aw_ald C dX9_cuts_71 rfl ?_
        obtain ⟨r1, h1, h⟩ := Option.bind_eq_some_iff.mp h
        refine aw_callV C (ci := 9) (b := 181) [.ref (rAid v2), .int v3, .ref (rAid v4), .ref (rAid v5), .ref (rAid v6)] mv_X9_170 rfl rfl (hm_M f (rSf σ 54 (0 : Int32))) (rmX9_cutsQuotes ia2 ia4 ia5 ia6 h1) rfl dX9_cuts_73 (Nat.le_of_ble_eq_true rfl) (Nat.le_of_ble_eq_true rfl) rfl (Nat.le_of_ble_eq_true rfl) (Nat.le_of_ble_eq_true rfl) (Nat.le_of_ble_eq_true rfl) (fun v9 f9 n9 hh => ?_)
        obtain ⟨rfl, rfl, rfl⟩ := hh
        refine aw_fl [some (.ref 181), none, none, none, none, none, none] ⟨rfl, trivial⟩ ?_
        exact rmX9_cuts_b76 C h
      · rw [if_pos q] at h
        refine aw_ald_n C dX9_cuts_49 rfl ?_
        refine aw_ald_n C dX9_cuts_50 rfl ?_
        refine aw_iload_n C dX9_cuts_51 rfl ?_
        refine aw_ald C dX9_cuts_52 rfl ?_
        refine aw_ald C dX9_cuts_54 rfl ?_
        refine aw_ald C dX9_cuts_56 rfl ?_
        obtain ⟨r2, h2, h⟩ := Option.bind_eq_some_iff.mp h
        refine aw_callV C (ci := 9) (b := 181) [.ref (rAid v2), .int v3, .ref (rAid v4), .ref (rAid v5), .ref (rAid v6)] mv_X9_167 rfl rfl (hm_M f (rSf σ 54 (0 : Int32))) (rmX9_cutsMarkup ia2 ia4 ia5 ia6 h2) rfl dX9_cuts_58 (Nat.le_of_ble_eq_true rfl) (Nat.le_of_ble_eq_true rfl) rfl (Nat.le_of_ble_eq_true rfl) (Nat.le_of_ble_eq_true rfl) (Nat.le_of_ble_eq_true rfl) (fun v9 f9 n9 hh => ?_)
        obtain ⟨rfl, rfl, rfl⟩ := hh
        refine aw_goto C 76 dX9_cuts_61 (by decide) ?_
        refine aw_fl [some (.ref 181), none, none, none, none, none, none] ⟨rfl, trivial⟩ ?_
        exact rmX9_cuts_b76 C h
    · rw [if_pos q] at h
      refine aw_ald_n C dX9_cuts_29 rfl ?_
      refine aw_ald_n C dX9_cuts_30 rfl ?_
      refine aw_iload_n C dX9_cuts_31 rfl ?_
      refine aw_ald C dX9_cuts_32 rfl ?_
      refine aw_ald C dX9_cuts_34 rfl ?_
      refine aw_ald C dX9_cuts_36 rfl ?_
      obtain ⟨r3, h3, h⟩ := Option.bind_eq_some_iff.mp h
      refine aw_callV C (ci := 9) (b := 181) [.ref (rAid v2), .int v3, .ref (rAid v4), .ref (rAid v5), .ref (rAid v6)] mv_X9_164 rfl rfl (hm_M f (rSf σ 54 (0 : Int32))) (rmX9_cutsTable ia2 ia4 ia5 ia6 h3) rfl dX9_cuts_38 (Nat.le_of_ble_eq_true rfl) (Nat.le_of_ble_eq_true rfl) rfl (Nat.le_of_ble_eq_true rfl) (Nat.le_of_ble_eq_true rfl) (Nat.le_of_ble_eq_true rfl) (fun v9 f9 n9 hh => ?_)
      obtain ⟨rfl, rfl, rfl⟩ := hh
      refine aw_goto C 76 dX9_cuts_41 (by decide) ?_
      refine aw_fl [some (.ref 181), none, none, none, none, none, none] ⟨rfl, trivial⟩ ?_
      exact rmX9_cuts_b76 C h
  · rw [if_pos q] at h
    refine aw_ald_n C dX9_cuts_9 rfl ?_
    refine aw_ald_n C dX9_cuts_10 rfl ?_
    refine aw_iload_n C dX9_cuts_11 rfl ?_
    refine aw_ald C dX9_cuts_12 rfl ?_
    refine aw_ald C dX9_cuts_14 rfl ?_
    refine aw_ald C dX9_cuts_16 rfl ?_
    obtain ⟨r4, h4, h⟩ := Option.bind_eq_some_iff.mp h
    refine aw_callV C (ci := 9) (b := 181) [.ref (rAid v2), .int v3, .ref (rAid v4), .ref (rAid v5), .ref (rAid v6)] mv_X9_160 rfl rfl (hm_M f (rSf σ 54 (0 : Int32))) (rmX9_cutsLines ia2 ia4 ia5 ia6 h4) rfl dX9_cuts_18 (Nat.le_of_ble_eq_true rfl) (Nat.le_of_ble_eq_true rfl) rfl (Nat.le_of_ble_eq_true rfl) (Nat.le_of_ble_eq_true rfl) (Nat.le_of_ble_eq_true rfl) (fun v9 f9 n9 hh => ?_)
    obtain ⟨rfl, rfl, rfl⟩ := hh
    refine aw_goto C 76 dX9_cuts_21 (by decide) ?_
    refine aw_fl [some (.ref 181), none, none, none, none, none, none] ⟨rfl, trivial⟩ ?_
    exact rmX9_cuts_b76 C h
def mX9_backMeaning_b57 (s0 : Int32) (σ : RS9) : Option (Int32 × RS9) := some (s0, σ)
set_option maxHeartbeats 1000000 in
theorem rmX9_backMeaning_b57 {X : GX} {p : Program} {l : Launch} {e : Env} {s : State} {m : MethodId} {args : Array Value} {below : List Frame} {meth : Method} {c : Code} {f : AH} {n : Nat} {r : Int32 × RS9} {s0 : Int32} {σ : RS9} (C : CC X p l (RM 0 0 0) s m args meth c RX9 cX9_backMeaning 3 (some .int)) (h : mX9_backMeaning_b57 s0 σ = some r) : AW X p l e (RM 0 0 0) s m args below meth c 3 (ZM X below args s 0 0 (QMi f n r)) (rHm f σ) n 0 0 57 [none, none, none] [.int s0] := by
  have h : some (s0, σ) = some r := h
  cases h
  exact aw_iret C rfl rfl dX9_backMeaning_57 (Nat.le_refl _) (Nat.le_refl _) ⟨rfl, rfl, rfl⟩
def mX9_backMeaning_b56 (σ : RS9) : Option (Int32 × RS9) := mX9_backMeaning_b57 (-1 : Int32) σ
set_option maxHeartbeats 1000000 in
theorem rmX9_backMeaning_b56 {X : GX} {p : Program} {l : Launch} {e : Env} {s : State} {m : MethodId} {args : Array Value} {below : List Frame} {meth : Method} {c : Code} {f : AH} {n : Nat} {r : Int32 × RS9} {σ : RS9} (C : CC X p l (RM 0 0 0) s m args meth c RX9 cX9_backMeaning 3 (some .int)) (h : mX9_backMeaning_b56 σ = some r) : AW X p l e (RM 0 0 0) s m args below meth c 3 (ZM X below args s 0 0 (QMi f n r)) (rHm f σ) n 0 0 56 [none, none, none] [] := by
  have h : mX9_backMeaning_b57 (-1 : Int32) σ = some r := h
  refine aw_iconst C (-1) dX9_backMeaning_56 ki_m1 ?_
  refine aw_fl [none, none, none] trivial ?_
  exact rmX9_backMeaning_b57 C h
def mX9_backMeaning_b40 (v1 : Int32) (v2 : Int32) (σ : RS9) : Option (Int32 × RS9) := (if v2 = (34 : Int32) then (if v1 = (3 : Int32) then mX9_backMeaning_b57 (34 : Int32) σ else mX9_backMeaning_b56 σ) else mX9_backMeaning_b56 σ)
set_option maxHeartbeats 1000000 in
theorem rmX9_backMeaning_b40 {X : GX} {p : Program} {l : Launch} {e : Env} {s : State} {m : MethodId} {args : Array Value} {below : List Frame} {meth : Method} {c : Code} {f : AH} {n : Nat} {r : Int32 × RS9} {v1 : Int32} {v2 : Int32} {σ : RS9} (C : CC X p l (RM 0 0 0) s m args meth c RX9 cX9_backMeaning 3 (some .int)) (h : mX9_backMeaning_b40 v1 v2 σ = some r) : AW X p l e (RM 0 0 0) s m args below meth c 3 (ZM X below args s 0 0 (QMi f n r)) (rHm f σ) n 0 0 40 [none, some (.int v1), some (.int v2)] [] := by
  have h : (if v2 = (34 : Int32) then (if v1 = (3 : Int32) then mX9_backMeaning_b57 (34 : Int32) σ else mX9_backMeaning_b56 σ) else mX9_backMeaning_b56 σ) = some r := h
  refine aw_iload_n C dX9_backMeaning_40 rfl ?_
  refine aw_bipush C 34 dX9_backMeaning_41 kb_34 ?_
  refine aw_icmp_ne C 56 dX9_backMeaning_43 (by decide) (fun q => ?_) (fun q => ?_)
  · rw [if_neg q] at h
    refine aw_fl [none, none, none] trivial ?_
    exact rmX9_backMeaning_b56 C h
  · rw [if_pos q] at h
    refine aw_iload_n C dX9_backMeaning_46 rfl ?_
    refine aw_iconst C 3 dX9_backMeaning_47 ki_3 ?_
    refine aw_icmp_ne C 56 dX9_backMeaning_48 (by decide) (fun q => ?_) (fun q => ?_)
    · rw [if_neg q] at h
      refine aw_fl [none, none, none] trivial ?_
      exact rmX9_backMeaning_b56 C h
    · rw [if_pos q] at h
      refine aw_bipush C 34 dX9_backMeaning_51 kb_34 ?_
      refine aw_goto C 57 dX9_backMeaning_53 (by decide) ?_
      refine aw_fl [none, none, none] trivial ?_
      exact rmX9_backMeaning_b57 C h
def mX9_backMeaning (v1 : Int32) (v2 : Int32) (σ : RS9) : Option (Int32 × RS9) := (if v2 = (110 : Int32) then some ((10 : Int32), σ) else (if v2 = (116 : Int32) then some ((9 : Int32), σ) else (if v2 = (92 : Int32) then some ((92 : Int32), σ) else (if v2 = (32 : Int32) then (if v1 = (0 : Int32) then some ((32 : Int32), σ) else mX9_backMeaning_b40 v1 v2 σ) else mX9_backMeaning_b40 v1 v2 σ))))
set_option maxHeartbeats 1000000 in
theorem rmX9_backMeaning {X : GX} {l : Launch} {f : AH} {n : Nat} {r : Int32 × RS9} {v1 : Int32} {v2 : Int32} {σ : RS9} (h : mX9_backMeaning v1 v2 σ = some r) : AM X l yX9_backMeaning cX9_backMeaning 3 (some .int) 0 0 0 [.ref 181, .int v1, .int v2] (rHm f σ) n (QMi f n r) := by
  have h : (if v2 = (110 : Int32) then some ((10 : Int32), σ) else (if v2 = (116 : Int32) then some ((9 : Int32), σ) else (if v2 = (92 : Int32) then some ((92 : Int32), σ) else (if v2 = (32 : Int32) then (if v1 = (0 : Int32) then some ((32 : Int32), σ) else mX9_backMeaning_b40 v1 v2 σ) else mX9_backMeaning_b40 v1 v2 σ)))) = some r := h
  refine AM.of (by decide +kernel) rfl (Nat.le_of_ble_eq_true rfl) (fun p e s m args below meth c C _ => ?_)
  refine aw_nl [some (.ref 181), some (.int v1), some (.int v2)] rfl ?_
  refine aw_iload_n C dX9_backMeaning_0 rfl ?_
  refine aw_bipush C 110 dX9_backMeaning_1 kb_110 ?_
  refine aw_icmp_ne C 9 dX9_backMeaning_3 (by decide) (fun q => ?_) (fun q => ?_)
  · rw [if_neg q] at h
    refine aw_iload_n C dX9_backMeaning_9 rfl ?_
    refine aw_bipush C 116 dX9_backMeaning_10 kb_116 ?_
    refine aw_icmp_ne C 18 dX9_backMeaning_12 (by decide) (fun q => ?_) (fun q => ?_)
    · rw [if_neg q] at h
      refine aw_iload_n C dX9_backMeaning_18 rfl ?_
      refine aw_bipush C 92 dX9_backMeaning_19 kb_92 ?_
      refine aw_icmp_ne C 27 dX9_backMeaning_21 (by decide) (fun q => ?_) (fun q => ?_)
      · rw [if_neg q] at h
        refine aw_iload_n C dX9_backMeaning_27 rfl ?_
        refine aw_bipush C 32 dX9_backMeaning_28 kb_32 ?_
        refine aw_icmp_ne C 40 dX9_backMeaning_30 (by decide) (fun q => ?_) (fun q => ?_)
        · rw [if_neg q] at h
          refine aw_fl [none, some (.int v1), some (.int v2)] ⟨rfl, ⟨rfl, trivial⟩⟩ ?_
          exact rmX9_backMeaning_b40 C h
        · rw [if_pos q] at h
          refine aw_iload_n C dX9_backMeaning_33 rfl ?_
          refine aw_if_ne C 40 dX9_backMeaning_34 (by decide) (fun q => ?_) (fun q => ?_)
          · rw [if_neg q] at h
            refine aw_fl [none, some (.int v1), some (.int v2)] ⟨rfl, ⟨rfl, trivial⟩⟩ ?_
            exact rmX9_backMeaning_b40 C h
          · rw [if_pos q] at h
            refine aw_bipush C 32 dX9_backMeaning_37 kb_32 ?_
            cases h
            exact aw_iret C rfl rfl dX9_backMeaning_39 (Nat.le_refl _) (Nat.le_refl _) ⟨rfl, rfl, rfl⟩
      · rw [if_pos q] at h
        refine aw_bipush C 92 dX9_backMeaning_24 kb_92 ?_
        cases h
        exact aw_iret C rfl rfl dX9_backMeaning_26 (Nat.le_refl _) (Nat.le_refl _) ⟨rfl, rfl, rfl⟩
    · rw [if_pos q] at h
      refine aw_bipush C 9 dX9_backMeaning_15 kb_9 ?_
      cases h
      exact aw_iret C rfl rfl dX9_backMeaning_17 (Nat.le_refl _) (Nat.le_refl _) ⟨rfl, rfl, rfl⟩
  · rw [if_pos q] at h
    refine aw_bipush C 10 dX9_backMeaning_6 kb_10 ?_
    cases h
    exact aw_iret C rfl rfl dX9_backMeaning_8 (Nat.le_refl _) (Nat.le_refl _) ⟨rfl, rfl, rfl⟩
end
/-! part 22ae.ref -/
section
def mX9_isLocked_b114 (rec13 : Int32 → Int32 → RS9 → Option (Int32 × RS9)) (v1 : Int32) (v2 : Int32) (v4 : Int32) (σ : RS9) : Option (Int32 × RS9) := (if v4 = (0 : Int32) then rec13 v1 (v2 + (1 : Int32)) σ else rCk (rNb (1 : Int32)) (some ((1 : Int32), σ)))
set_option maxHeartbeats 1000000 in
theorem rmX9_isLocked_b114 {X : GX} {p : Program} {l : Launch} {e : Env} {s : State} {m : MethodId} {args : Array Value} {below : List Frame} {meth : Method} {c : Code} {f : AH} {n : Nat} {r : Int32 × RS9} {rec13 : Int32 → Int32 → RS9 → Option (Int32 × RS9)} {v1 : Int32} {v2 : Int32} {v4 : Int32} {σ : RS9} (C : CC X p l (RM 0 0 0) s m args meth c RX9 cX9_isLocked 6 (some .boolean)) (Hr13 : ∀ (v1 : Int32) (v2 : Int32) (σ : RS9), rec13 v1 v2 σ = some r → AW X p l e (RM 0 0 0) s m args below meth c 6 (ZM X below args s 0 0 (QMi f n r)) (rHm f σ) n 0 0 13 [some (.ref 181), some (.int v1), some (.int v2), none, none, none] []) (h : mX9_isLocked_b114 rec13 v1 v2 v4 σ = some r) : AW X p l e (RM 0 0 0) s m args below meth c 6 (ZM X below args s 0 0 (QMi f n r)) (rHm f σ) n 0 0 114 [some (.ref 181), some (.int v1), some (.int v2), none, some (.int v4), none] [] := by
  have h : (if v4 = (0 : Int32) then rec13 v1 (v2 + (1 : Int32)) σ else rCk (rNb (1 : Int32)) (some ((1 : Int32), σ))) = some r := h
  refine aw_iload C dX9_isLocked_114 rfl ?_
  refine aw_if_eq C 121 dX9_isLocked_116 (by decide) (fun q => ?_) (fun q => ?_)
  · rw [if_pos q] at h
    refine aw_iinc C (v2 + (1 : Int32)) dX9_isLocked_121 rfl (by rw [ki_1]) (by decide) rfl ?_
    refine aw_nl [some (.ref 181), some (.int v1), some (.int (v2 + (1 : Int32))), none, some (.int v4), none] rfl ?_
    refine aw_goto C 13 dX9_isLocked_124 (by decide) ?_
    refine aw_fl [some (.ref 181), some (.int v1), some (.int (v2 + (1 : Int32))), none, none, none] ⟨rfl, ⟨rfl, ⟨rfl, trivial⟩⟩⟩ ?_
    exact Hr13 v1 (v2 + (1 : Int32)) σ h
  · rw [if_neg q] at h
    refine aw_iconst C 1 dX9_isLocked_119 ki_1 ?_
    obtain ⟨hb1, h⟩ := ck_some h
    cases h
    exact aw_iret C rfl (nb_nar hb1) dX9_isLocked_120 (Nat.le_refl _) (Nat.le_refl _) ⟨rfl, rfl, rfl⟩
def mX9_isLocked_b106 (rec13 : Int32 → Int32 → RS9 → Option (Int32 × RS9)) (rec56 : Int32 → Int32 → Int32 → Int32 → Int32 → RS9 → Option (Int32 × RS9)) (v1 : Int32) (v2 : Int32) (v3 : Int32) (v5 : Int32) (s0 : Int32) (σ : RS9) : Option (Int32 × RS9) := rec56 v1 v2 v3 s0 (v5 + (1 : Int32)) σ
set_option maxHeartbeats 1000000 in
theorem rmX9_isLocked_b106 {X : GX} {p : Program} {l : Launch} {e : Env} {s : State} {m : MethodId} {args : Array Value} {below : List Frame} {meth : Method} {c : Code} {f : AH} {n : Nat} {r : Int32 × RS9} {rec13 : Int32 → Int32 → RS9 → Option (Int32 × RS9)} {rec56 : Int32 → Int32 → Int32 → Int32 → Int32 → RS9 → Option (Int32 × RS9)} {v1 : Int32} {v2 : Int32} {v3 : Int32} {v5 : Int32} {s0 : Int32} {σ : RS9} (C : CC X p l (RM 0 0 0) s m args meth c RX9 cX9_isLocked 6 (some .boolean)) (Hr13 : ∀ (v1 : Int32) (v2 : Int32) (σ : RS9), rec13 v1 v2 σ = some r → AW X p l e (RM 0 0 0) s m args below meth c 6 (ZM X below args s 0 0 (QMi f n r)) (rHm f σ) n 0 0 13 [some (.ref 181), some (.int v1), some (.int v2), none, none, none] []) (Hr56 : ∀ (v1 : Int32) (v2 : Int32) (v3 : Int32) (v4 : Int32) (v5 : Int32) (σ : RS9), rec56 v1 v2 v3 v4 v5 σ = some r → AW X p l e (RM 0 0 0) s m args below meth c 6 (ZM X below args s 0 0 (QMi f n r)) (rHm f σ) n 0 0 56 [some (.ref 181), some (.int v1), some (.int v2), some (.int v3), some (.int v4), some (.int v5)] []) (h : mX9_isLocked_b106 rec13 rec56 v1 v2 v3 v5 s0 σ = some r) : AW X p l e (RM 0 0 0) s m args below meth c 6 (ZM X below args s 0 0 (QMi f n r)) (rHm f σ) n 0 0 106 [some (.ref 181), some (.int v1), some (.int v2), some (.int v3), none, some (.int v5)] [.int s0] := by
  have h : rec56 v1 v2 v3 s0 (v5 + (1 : Int32)) σ = some r := h
  refine aw_istore C dX9_isLocked_106 (by decide) rfl ?_
  refine aw_nl [some (.ref 181), some (.int v1), some (.int v2), some (.int v3), some (.int s0), some (.int v5)] rfl ?_
  refine aw_iinc C (v5 + (1 : Int32)) dX9_isLocked_108 rfl (by rw [ki_1]) (by decide) rfl ?_
  refine aw_nl [some (.ref 181), some (.int v1), some (.int v2), some (.int v3), some (.int s0), some (.int (v5 + (1 : Int32)))] rfl ?_
  refine aw_goto C 56 dX9_isLocked_111 (by decide) ?_
  refine aw_fl [some (.ref 181), some (.int v1), some (.int v2), some (.int v3), some (.int s0), some (.int (v5 + (1 : Int32)))] ⟨rfl, ⟨rfl, ⟨rfl, ⟨rfl, ⟨rfl, ⟨rfl, trivial⟩⟩⟩⟩⟩⟩ ?_
  exact Hr56 v1 v2 v3 s0 (v5 + (1 : Int32)) σ h
def mX9_isLocked_l56 (rec13 : Int32 → Int32 → RS9 → Option (Int32 × RS9)) : Nat → Int32 → Int32 → Int32 → Int32 → Int32 → RS9 → Option (Int32 × RS9)
  | 0, _, _, _, _, _, _ => none
  | d + 1, v1, v2, v3, v4, v5, σ => (if v3 ≤ v5 then mX9_isLocked_b114 rec13 v1 v2 v4 σ else (if v4 = (0 : Int32) then mX9_isLocked_b114 rec13 v1 v2 v4 σ else rCk (rIn v1 (rLen 20)) (rCk (rIn ((rGa σ 20 v1) + v5) (rLen 13)) (rCk (rIn ((((6 : Int32) + ((9 : Int32) * v2)) + (1 : Int32)) + v5) (rLen 1)) ((if (rGa σ 13 ((rGa σ 20 v1) + v5)) = (rGa σ 1 ((((6 : Int32) + ((9 : Int32) * v2)) + (1 : Int32)) + v5)) then mX9_isLocked_b106 rec13 (fun v1 v2 v3 v4 v5 σ => mX9_isLocked_l56 rec13 d v1 v2 v3 v4 v5 σ) v1 v2 v3 v5 (1 : Int32) σ else mX9_isLocked_b106 rec13 (fun v1 v2 v3 v4 v5 σ => mX9_isLocked_l56 rec13 d v1 v2 v3 v4 v5 σ) v1 v2 v3 v5 (0 : Int32) σ))))))
set_option maxHeartbeats 1000000 in
theorem rmX9_isLocked_l56 {X : GX} {p : Program} {l : Launch} {e : Env} {s : State} {m : MethodId} {args : Array Value} {below : List Frame} {meth : Method} {c : Code} {f : AH} {n : Nat} {r : Int32 × RS9} {rec13 : Int32 → Int32 → RS9 → Option (Int32 × RS9)} (C : CC X p l (RM 0 0 0) s m args meth c RX9 cX9_isLocked 6 (some .boolean)) (Hr13 : ∀ (v1 : Int32) (v2 : Int32) (σ : RS9), rec13 v1 v2 σ = some r → AW X p l e (RM 0 0 0) s m args below meth c 6 (ZM X below args s 0 0 (QMi f n r)) (rHm f σ) n 0 0 13 [some (.ref 181), some (.int v1), some (.int v2), none, none, none] []) : ∀ (d : Nat) (v1 : Int32) (v2 : Int32) (v3 : Int32) (v4 : Int32) (v5 : Int32) (σ : RS9) (_ : mX9_isLocked_l56 rec13 d v1 v2 v3 v4 v5 σ = some r), AW X p l e (RM 0 0 0) s m args below meth c 6 (ZM X below args s 0 0 (QMi f n r)) (rHm f σ) n 0 0 56 [some (.ref 181), some (.int v1), some (.int v2), some (.int v3), some (.int v4), some (.int v5)] [] := by
  intro d
  induction d with
  | zero =>
    intro v1 v2 v3 v4 v5 σ h
    exact nomatch (show (none : Option (Int32 × RS9)) = some r from h)
  | succ d ih =>
    intro v1 v2 v3 v4 v5 σ h
    have h : (if v3 ≤ v5 then mX9_isLocked_b114 rec13 v1 v2 v4 σ else (if v4 = (0 : Int32) then mX9_isLocked_b114 rec13 v1 v2 v4 σ else rCk (rIn v1 (rLen 20)) (rCk (rIn ((rGa σ 20 v1) + v5) (rLen 13)) (rCk (rIn ((((6 : Int32) + ((9 : Int32) * v2)) + (1 : Int32)) + v5) (rLen 1)) ((if (rGa σ 13 ((rGa σ 20 v1) + v5)) = (rGa σ 1 ((((6 : Int32) + ((9 : Int32) * v2)) + (1 : Int32)) + v5)) then mX9_isLocked_b106 rec13 (fun v1 v2 v3 v4 v5 σ => mX9_isLocked_l56 rec13 d v1 v2 v3 v4 v5 σ) v1 v2 v3 v5 (1 : Int32) σ else mX9_isLocked_b106 rec13 (fun v1 v2 v3 v4 v5 σ => mX9_isLocked_l56 rec13 d v1 v2 v3 v4 v5 σ) v1 v2 v3 v5 (0 : Int32) σ)))))) = some r := h
    refine aw_iload C dX9_isLocked_56 rfl ?_
    refine aw_iload_n C dX9_isLocked_58 rfl ?_
    refine aw_icmp_ge C 114 dX9_isLocked_59 (by decide) (fun q => ?_) (fun q => ?_)
    · rw [if_pos q] at h
      refine aw_fl [some (.ref 181), some (.int v1), some (.int v2), none, some (.int v4), none] ⟨rfl, ⟨rfl, ⟨rfl, ⟨rfl, trivial⟩⟩⟩⟩ ?_
      exact rmX9_isLocked_b114 C Hr13 h
    · rw [if_neg q] at h
      refine aw_iload C dX9_isLocked_62 rfl ?_
      refine aw_if_eq C 114 dX9_isLocked_64 (by decide) (fun q => ?_) (fun q => ?_)
      · rw [if_pos q] at h
        refine aw_fl [some (.ref 181), some (.int v1), some (.int v2), none, some (.int v4), none] ⟨rfl, ⟨rfl, ⟨rfl, ⟨rfl, trivial⟩⟩⟩⟩ ?_
        exact rmX9_isLocked_b114 C Hr13 h
      · rw [if_neg q] at h
        refine aw_ald_n C dX9_isLocked_67 rfl ?_
        refine aw_get C (v := .ref (rAid 13)) gf_X9_30 (hm_M f σ) rfl dX9_isLocked_68 ?_
        refine aw_ald_n C dX9_isLocked_71 rfl ?_
        refine aw_get C (v := .ref (rAid 20)) gf_X9_48 (hm_M f σ) rfl dX9_isLocked_72 ?_
        refine aw_iload_n C dX9_isLocked_75 rfl ?_
        obtain ⟨hb1, h⟩ := ck_some h
        refine am_iald C (rGa σ 20 v1) rfl (inb_vp hb1) rfl dX9_isLocked_76 ?_
        refine aw_iload C dX9_isLocked_77 rfl ?_
        refine aw_iadd C dX9_isLocked_79 ?_
        obtain ⟨hb2, h⟩ := ck_some h
        refine am_iald C (rGa σ 13 ((rGa σ 20 v1) + v5)) rfl (inb_vp hb2) rfl dX9_isLocked_80 ?_
        refine aw_ald_n C dX9_isLocked_81 rfl ?_
        refine aw_get C (v := .ref (rAid 1)) gf_X9_7 (hm_M f σ) rfl dX9_isLocked_82 ?_
        refine aw_bipush C 6 dX9_isLocked_85 kb_6 ?_
        refine aw_bipush C 9 dX9_isLocked_87 kb_9 ?_
        refine aw_iload_n C dX9_isLocked_89 rfl ?_
        refine aw_imul C dX9_isLocked_90 ?_
        refine aw_iadd C dX9_isLocked_91 ?_
        refine aw_iconst C 1 dX9_isLocked_92 ki_1 ?_
        refine aw_iadd C dX9_isLocked_93 ?_
        refine aw_iload C dX9_isLocked_94 rfl ?_
        refine aw_iadd C dX9_isLocked_96 ?_
        obtain ⟨hb3, h⟩ := ck_some h
        refine am_iald C (rGa σ 1 ((((6 : Int32) + ((9 : Int32) * v2)) + (1 : Int32)) + v5)) rfl (inb_vp hb3) rfl dX9_isLocked_97 ?_
        refine aw_icmp_ne C 105 dX9_isLocked_98 (by decide) (fun q => ?_) (fun q => ?_)
        · rw [if_neg q] at h
          refine aw_iconst C 0 dX9_isLocked_105 ki_0 ?_
          refine aw_fl [some (.ref 181), some (.int v1), some (.int v2), some (.int v3), none, some (.int v5)] ⟨rfl, ⟨rfl, ⟨rfl, ⟨rfl, ⟨rfl, trivial⟩⟩⟩⟩⟩ ?_
          exact rmX9_isLocked_b106 C Hr13 (fun v1 v2 v3 v4 v5 σ h => ih v1 v2 v3 v4 v5 σ h) h
        · rw [if_pos q] at h
          refine aw_iconst C 1 dX9_isLocked_101 ki_1 ?_
          refine aw_goto C 106 dX9_isLocked_102 (by decide) ?_
          refine aw_fl [some (.ref 181), some (.int v1), some (.int v2), some (.int v3), none, some (.int v5)] ⟨rfl, ⟨rfl, ⟨rfl, ⟨rfl, ⟨rfl, trivial⟩⟩⟩⟩⟩ ?_
          exact rmX9_isLocked_b106 C Hr13 (fun v1 v2 v3 v4 v5 σ h => ih v1 v2 v3 v4 v5 σ h) h
def mX9_isLocked_b51 (rec13 : Int32 → Int32 → RS9 → Option (Int32 × RS9)) (v1 : Int32) (v2 : Int32) (v3 : Int32) (s0 : Int32) (σ : RS9) : Option (Int32 × RS9) := mX9_isLocked_l56 rec13 rFU v1 v2 v3 s0 (0 : Int32) σ
set_option maxHeartbeats 1000000 in
theorem rmX9_isLocked_b51 {X : GX} {p : Program} {l : Launch} {e : Env} {s : State} {m : MethodId} {args : Array Value} {below : List Frame} {meth : Method} {c : Code} {f : AH} {n : Nat} {r : Int32 × RS9} {rec13 : Int32 → Int32 → RS9 → Option (Int32 × RS9)} {v1 : Int32} {v2 : Int32} {v3 : Int32} {s0 : Int32} {σ : RS9} (C : CC X p l (RM 0 0 0) s m args meth c RX9 cX9_isLocked 6 (some .boolean)) (Hr13 : ∀ (v1 : Int32) (v2 : Int32) (σ : RS9), rec13 v1 v2 σ = some r → AW X p l e (RM 0 0 0) s m args below meth c 6 (ZM X below args s 0 0 (QMi f n r)) (rHm f σ) n 0 0 13 [some (.ref 181), some (.int v1), some (.int v2), none, none, none] []) (h : mX9_isLocked_b51 rec13 v1 v2 v3 s0 σ = some r) : AW X p l e (RM 0 0 0) s m args below meth c 6 (ZM X below args s 0 0 (QMi f n r)) (rHm f σ) n 0 0 51 [some (.ref 181), some (.int v1), some (.int v2), some (.int v3), none, none] [.int s0] := by
  have h : mX9_isLocked_l56 rec13 rFU v1 v2 v3 s0 (0 : Int32) σ = some r := h
  refine aw_istore C dX9_isLocked_51 (by decide) rfl ?_
  refine aw_nl [some (.ref 181), some (.int v1), some (.int v2), some (.int v3), some (.int s0), none] rfl ?_
  refine aw_iconst C 0 dX9_isLocked_53 ki_0 ?_
  refine aw_istore C dX9_isLocked_54 (by decide) rfl ?_
  refine aw_nl [some (.ref 181), some (.int v1), some (.int v2), some (.int v3), some (.int s0), some (.int (0 : Int32))] rfl ?_
  refine aw_fl [some (.ref 181), some (.int v1), some (.int v2), some (.int v3), some (.int s0), some (.int (0 : Int32))] ⟨rfl, ⟨rfl, ⟨rfl, ⟨rfl, ⟨rfl, ⟨rfl, trivial⟩⟩⟩⟩⟩⟩ ?_
  exact rmX9_isLocked_l56 C Hr13 rFU v1 v2 v3 s0 (0 : Int32) σ h
def mX9_isLocked_l13 : Nat → Int32 → Int32 → RS9 → Option (Int32 × RS9)
  | 0, _, _, _ => none
  | d + 1, v1, v2, σ => rCk (rIn (5 : Int32) (rLen 1)) ((if (rGa σ 1 (5 : Int32)) ≤ v2 then rCk (rNb (0 : Int32)) (some ((0 : Int32), σ)) else rCk (rIn ((6 : Int32) + ((9 : Int32) * v2)) (rLen 1)) (rCk (rIn v1 (rLen 21)) ((if (rGa σ 21 v1) < (rGa σ 1 ((6 : Int32) + ((9 : Int32) * v2))) then mX9_isLocked_b51 (fun v1 v2 σ => mX9_isLocked_l13 d v1 v2 σ) v1 v2 (rGa σ 1 ((6 : Int32) + ((9 : Int32) * v2))) (0 : Int32) σ else mX9_isLocked_b51 (fun v1 v2 σ => mX9_isLocked_l13 d v1 v2 σ) v1 v2 (rGa σ 1 ((6 : Int32) + ((9 : Int32) * v2))) (1 : Int32) σ)))))
set_option maxHeartbeats 1000000 in
theorem rmX9_isLocked_l13 {X : GX} {p : Program} {l : Launch} {e : Env} {s : State} {m : MethodId} {args : Array Value} {below : List Frame} {meth : Method} {c : Code} {f : AH} {n : Nat} {r : Int32 × RS9} (C : CC X p l (RM 0 0 0) s m args meth c RX9 cX9_isLocked 6 (some .boolean)) : ∀ (d : Nat) (v1 : Int32) (v2 : Int32) (σ : RS9) (_ : mX9_isLocked_l13 d v1 v2 σ = some r), AW X p l e (RM 0 0 0) s m args below meth c 6 (ZM X below args s 0 0 (QMi f n r)) (rHm f σ) n 0 0 13 [some (.ref 181), some (.int v1), some (.int v2), none, none, none] [] := by
  intro d
  induction d with
  | zero =>
    intro v1 v2 σ h
    exact nomatch (show (none : Option (Int32 × RS9)) = some r from h)
  | succ d ih =>
    intro v1 v2 σ h
    have h : rCk (rIn (5 : Int32) (rLen 1)) ((if (rGa σ 1 (5 : Int32)) ≤ v2 then rCk (rNb (0 : Int32)) (some ((0 : Int32), σ)) else rCk (rIn ((6 : Int32) + ((9 : Int32) * v2)) (rLen 1)) (rCk (rIn v1 (rLen 21)) ((if (rGa σ 21 v1) < (rGa σ 1 ((6 : Int32) + ((9 : Int32) * v2))) then mX9_isLocked_b51 (fun v1 v2 σ => mX9_isLocked_l13 d v1 v2 σ) v1 v2 (rGa σ 1 ((6 : Int32) + ((9 : Int32) * v2))) (0 : Int32) σ else mX9_isLocked_b51 (fun v1 v2 σ => mX9_isLocked_l13 d v1 v2 σ) v1 v2 (rGa σ 1 ((6 : Int32) + ((9 : Int32) * v2))) (1 : Int32) σ))))) = some r := h
    refine aw_iload_n C dX9_isLocked_13 rfl ?_
    refine aw_ald_n C dX9_isLocked_14 rfl ?_
    refine aw_get C (v := .ref (rAid 1)) gf_X9_7 (hm_M f σ) rfl dX9_isLocked_15 ?_
    refine aw_iconst C 5 dX9_isLocked_18 ki_5 ?_
    obtain ⟨hb1, h⟩ := ck_some h
    refine am_iald C (rGa σ 1 (5 : Int32)) rfl (inb_vp hb1) rfl dX9_isLocked_19 ?_
    refine aw_icmp_ge C 127 dX9_isLocked_20 (by decide) (fun q => ?_) (fun q => ?_)
    · rw [if_pos q] at h
      refine aw_iconst C 0 dX9_isLocked_127 ki_0 ?_
      obtain ⟨hb2, h⟩ := ck_some h
      cases h
      exact aw_iret C rfl (nb_nar hb2) dX9_isLocked_128 (Nat.le_refl _) (Nat.le_refl _) ⟨rfl, rfl, rfl⟩
    · rw [if_neg q] at h
      refine aw_ald_n C dX9_isLocked_23 rfl ?_
      refine aw_get C (v := .ref (rAid 1)) gf_X9_7 (hm_M f σ) rfl dX9_isLocked_24 ?_
      refine aw_bipush C 6 dX9_isLocked_27 kb_6 ?_
      refine aw_bipush C 9 dX9_isLocked_29 kb_9 ?_
      refine aw_iload_n C dX9_isLocked_31 rfl ?_
      refine aw_imul C dX9_isLocked_32 ?_
      refine aw_iadd C dX9_isLocked_33 ?_
      obtain ⟨hb3, h⟩ := ck_some h
      refine am_iald C (rGa σ 1 ((6 : Int32) + ((9 : Int32) * v2))) rfl (inb_vp hb3) rfl dX9_isLocked_34 ?_
      refine aw_istore_n C dX9_isLocked_35 (by decide) rfl ?_
      refine aw_nl [some (.ref 181), some (.int v1), some (.int v2), some (.int (rGa σ 1 ((6 : Int32) + ((9 : Int32) * v2)))), none, none] rfl ?_
      refine aw_iload_n C dX9_isLocked_36 rfl ?_
      refine aw_ald_n C dX9_isLocked_37 rfl ?_
      refine aw_get C (v := .ref (rAid 21)) gf_X9_51 (hm_M f σ) rfl dX9_isLocked_38 ?_
      refine aw_iload_n C dX9_isLocked_41 rfl ?_
      obtain ⟨hb4, h⟩ := ck_some h
      refine am_iald C (rGa σ 21 v1) rfl (inb_vp hb4) rfl dX9_isLocked_42 ?_
      refine aw_icmp_gt C 50 dX9_isLocked_43 (by decide) (fun q => ?_) (fun q => ?_)
      · rw [if_pos q] at h
        refine aw_iconst C 0 dX9_isLocked_50 ki_0 ?_
        refine aw_fl [some (.ref 181), some (.int v1), some (.int v2), some (.int (rGa σ 1 ((6 : Int32) + ((9 : Int32) * v2)))), none, none] ⟨rfl, ⟨rfl, ⟨rfl, ⟨rfl, trivial⟩⟩⟩⟩ ?_
        exact rmX9_isLocked_b51 C (fun v1 v2 σ h => ih v1 v2 σ h) h
      · rw [if_neg q] at h
        refine aw_iconst C 1 dX9_isLocked_46 ki_1 ?_
        refine aw_goto C 51 dX9_isLocked_47 (by decide) ?_
        refine aw_fl [some (.ref 181), some (.int v1), some (.int v2), some (.int (rGa σ 1 ((6 : Int32) + ((9 : Int32) * v2)))), none, none] ⟨rfl, ⟨rfl, ⟨rfl, ⟨rfl, trivial⟩⟩⟩⟩ ?_
        exact rmX9_isLocked_b51 C (fun v1 v2 σ h => ih v1 v2 σ h) h
def mX9_isLocked (v1 : Int32) (σ : RS9) : Option (Int32 × RS9) := rCk (rIn (1 : Int32) (rLen 1)) ((if (rGa σ 1 (1 : Int32)) = (0 : Int32) then mX9_isLocked_l13 rFU v1 (0 : Int32) σ else rCk (rNb (0 : Int32)) (some ((0 : Int32), σ))))
set_option maxHeartbeats 1000000 in
theorem rmX9_isLocked {X : GX} {l : Launch} {f : AH} {n : Nat} {r : Int32 × RS9} {v1 : Int32} {σ : RS9} (h : mX9_isLocked v1 σ = some r) : AM X l yX9_isLocked cX9_isLocked 6 (some .boolean) 0 0 0 [.ref 181, .int v1] (rHm f σ) n (QMi f n r) := by
  have h : rCk (rIn (1 : Int32) (rLen 1)) ((if (rGa σ 1 (1 : Int32)) = (0 : Int32) then mX9_isLocked_l13 rFU v1 (0 : Int32) σ else rCk (rNb (0 : Int32)) (some ((0 : Int32), σ)))) = some r := h
  refine AM.of (by decide +kernel) rfl (Nat.le_of_ble_eq_true rfl) (fun p e s m args below meth c C _ => ?_)
  refine aw_nl [some (.ref 181), some (.int v1), none, none, none, none] rfl ?_
  refine aw_ald_n C dX9_isLocked_0 rfl ?_
  refine aw_get C (v := .ref (rAid 1)) gf_X9_7 (hm_M f σ) rfl dX9_isLocked_1 ?_
  refine aw_iconst C 1 dX9_isLocked_4 ki_1 ?_
  obtain ⟨hb1, h⟩ := ck_some h
  refine am_iald C (rGa σ 1 (1 : Int32)) rfl (inb_vp hb1) rfl dX9_isLocked_5 ?_
  refine aw_if_eq C 11 dX9_isLocked_6 (by decide) (fun q => ?_) (fun q => ?_)
  · rw [if_pos q] at h
    refine aw_iconst C 0 dX9_isLocked_11 ki_0 ?_
    refine aw_istore_n C dX9_isLocked_12 (by decide) rfl ?_
    refine aw_nl [some (.ref 181), some (.int v1), some (.int (0 : Int32)), none, none, none] rfl ?_
    refine aw_fl [some (.ref 181), some (.int v1), some (.int (0 : Int32)), none, none, none] ⟨rfl, ⟨rfl, ⟨rfl, trivial⟩⟩⟩ ?_
    exact rmX9_isLocked_l13 C rFU v1 (0 : Int32) σ h
  · rw [if_neg q] at h
    refine aw_iconst C 0 dX9_isLocked_9 ki_0 ?_
    obtain ⟨hb2, h⟩ := ck_some h
    cases h
    exact aw_iret C rfl (nb_nar hb2) dX9_isLocked_10 (Nat.le_refl _) (Nat.le_refl _) ⟨rfl, rfl, rfl⟩
def mX9_isLetter_b27 (s0 : Int32) (σ : RS9) : Option (Int32 × RS9) := rCk (rNb s0) (some (s0, σ))
set_option maxHeartbeats 1000000 in
theorem rmX9_isLetter_b27 {X : GX} {p : Program} {l : Launch} {e : Env} {s : State} {m : MethodId} {args : Array Value} {below : List Frame} {meth : Method} {c : Code} {f : AH} {n : Nat} {r : Int32 × RS9} {s0 : Int32} {σ : RS9} (C : CC X p l (RM 1 0 0) s m args meth c RX9 cX9_isLetter 1 (some .boolean)) (h : mX9_isLetter_b27 s0 σ = some r) : AW X p l e (RM 1 0 0) s m args below meth c 1 (ZM X below args s 0 0 (QMi f n r)) (rHm f σ) n 0 0 27 [none] [.int s0] := by
  have h : rCk (rNb s0) (some (s0, σ)) = some r := h
  obtain ⟨hb1, h⟩ := ck_some h
  cases h
  exact aw_iret C rfl (nb_nar hb1) dX9_isLetter_27 (Nat.le_refl _) (Nat.le_refl _) ⟨rfl, rfl, rfl⟩
def mX9_isLetter_b22 (σ : RS9) : Option (Int32 × RS9) := mX9_isLetter_b27 (1 : Int32) σ
set_option maxHeartbeats 1000000 in
theorem rmX9_isLetter_b22 {X : GX} {p : Program} {l : Launch} {e : Env} {s : State} {m : MethodId} {args : Array Value} {below : List Frame} {meth : Method} {c : Code} {f : AH} {n : Nat} {r : Int32 × RS9} {σ : RS9} (C : CC X p l (RM 1 0 0) s m args meth c RX9 cX9_isLetter 1 (some .boolean)) (h : mX9_isLetter_b22 σ = some r) : AW X p l e (RM 1 0 0) s m args below meth c 1 (ZM X below args s 0 0 (QMi f n r)) (rHm f σ) n 0 0 22 [none] [] := by
  have h : mX9_isLetter_b27 (1 : Int32) σ = some r := h
  refine aw_iconst C 1 dX9_isLetter_22 ki_1 ?_
  refine aw_goto C 27 dX9_isLetter_23 (by decide) ?_
  refine aw_fl [none] trivial ?_
  exact rmX9_isLetter_b27 C h
def mX9_isLetter (v0 : Int32) (σ : RS9) : Option (Int32 × RS9) := ((mX9_isIn v0 (97 : Int32) (122 : Int32) σ).bind fun r1 => (if r1.1 = (0 : Int32) then ((mX9_isIn v0 (65 : Int32) (90 : Int32) r1.2).bind fun r2 => (if r2.1 = (0 : Int32) then mX9_isLetter_b27 (0 : Int32) r2.2 else mX9_isLetter_b22 r2.2)) else mX9_isLetter_b22 r1.2))
set_option maxHeartbeats 1000000 in
theorem rmX9_isLetter {X : GX} {l : Launch} {f : AH} {n : Nat} {r : Int32 × RS9} {v0 : Int32} {σ : RS9} (h : mX9_isLetter v0 σ = some r) : AM X l yX9_isLetter cX9_isLetter 1 (some .boolean) 1 0 0 [.int v0] (rHm f σ) n (QMi f n r) := by
  have h : ((mX9_isIn v0 (97 : Int32) (122 : Int32) σ).bind fun r1 => (if r1.1 = (0 : Int32) then ((mX9_isIn v0 (65 : Int32) (90 : Int32) r1.2).bind fun r2 => (if r2.1 = (0 : Int32) then mX9_isLetter_b27 (0 : Int32) r2.2 else mX9_isLetter_b22 r2.2)) else mX9_isLetter_b22 r1.2)) = some r := h
  refine AM.of (by decide +kernel) rfl (Nat.le_of_ble_eq_true rfl) (fun p e s m args below meth c C _ => ?_)
  refine aw_nl [some (.int v0)] rfl ?_
  refine aw_iload_n C dX9_isLetter_0 rfl ?_
  refine aw_bipush C 97 dX9_isLetter_1 kb_97 ?_
  refine aw_bipush C 122 dX9_isLetter_3 kb_122 ?_
  obtain ⟨r1, h1, h⟩ := Option.bind_eq_some_iff.mp h
  refine aw_callS C [.int v0, .int (97 : Int32), .int (122 : Int32)] ms_X9_141 (rmX9_isIn h1) rfl dX9_isLetter_5 (Nat.le_of_ble_eq_true rfl) (Nat.le_of_ble_eq_true rfl) rfl (Nat.le_of_ble_eq_true rfl) (Nat.le_of_ble_eq_true rfl) (Nat.le_of_ble_eq_true rfl) (fun v9 f9 n9 hh => ?_)
  obtain ⟨rfl, rfl, rfl⟩ := hh
  refine aw_if_ne C 22 dX9_isLetter_8 (by decide) (fun q => ?_) (fun q => ?_)
  · rw [if_neg q] at h
    refine aw_fl [none] trivial ?_
    exact rmX9_isLetter_b22 C h
  · rw [if_pos q] at h
    refine aw_iload_n C dX9_isLetter_11 rfl ?_
    refine aw_bipush C 65 dX9_isLetter_12 kb_65 ?_
    refine aw_bipush C 90 dX9_isLetter_14 kb_90 ?_
    obtain ⟨r2, h2, h⟩ := Option.bind_eq_some_iff.mp h
    refine aw_callS C [.int v0, .int (65 : Int32), .int (90 : Int32)] ms_X9_141 (rmX9_isIn h2) rfl dX9_isLetter_16 (Nat.le_of_ble_eq_true rfl) (Nat.le_of_ble_eq_true rfl) rfl (Nat.le_of_ble_eq_true rfl) (Nat.le_of_ble_eq_true rfl) (Nat.le_of_ble_eq_true rfl) (fun v9 f9 n9 hh => ?_)
    obtain ⟨rfl, rfl, rfl⟩ := hh
    refine aw_if_eq C 26 dX9_isLetter_19 (by decide) (fun q => ?_) (fun q => ?_)
    · rw [if_pos q] at h
      refine aw_iconst C 0 dX9_isLetter_26 ki_0 ?_
      refine aw_fl [none] trivial ?_
      exact rmX9_isLetter_b27 C h
    · rw [if_neg q] at h
      refine aw_fl [none] trivial ?_
      exact rmX9_isLetter_b22 C h
def mX9_isPiece_l34 : Nat → Nat → Int32 → Int32 → RS9 → Option (Int32 × RS9)
  | 0, _, _, _, _ => none
  | d + 1, v1, v2, v3, σ => (if v2 ≤ v3 then rCk (rNb (0 : Int32)) (some ((0 : Int32), σ)) else rCk (rIn v3 (rLen v1)) (((mX9_isLetter (rGa σ v1 v3) σ).bind fun r3 => (if r3.1 = (0 : Int32) then mX9_isPiece_l34 d v1 v2 (v3 + (1 : Int32)) r3.2 else rCk (rNb (1 : Int32)) (some ((1 : Int32), r3.2))))))
set_option maxHeartbeats 1000000 in
theorem rmX9_isPiece_l34 {X : GX} {p : Program} {l : Launch} {e : Env} {s : State} {m : MethodId} {args : Array Value} {below : List Frame} {meth : Method} {c : Code} {f : AH} {n : Nat} {r : Int32 × RS9} (C : CC X p l (RM 2 0 0) s m args meth c RX9 cX9_isPiece 4 (some .boolean)) : ∀ (d : Nat) (v1 : Nat) (v2 : Int32) (v3 : Int32) (σ : RS9) (_ : rIsA v1 = true) (_ : mX9_isPiece_l34 d v1 v2 v3 σ = some r), AW X p l e (RM 2 0 0) s m args below meth c 4 (ZM X below args s 0 0 (QMi f n r)) (rHm f σ) n 0 0 34 [none, some (.ref (rAid v1)), some (.int v2), some (.int v3)] [] := by
  intro d
  induction d with
  | zero =>
    intro v1 v2 v3 σ ia1 h
    exact nomatch (show (none : Option (Int32 × RS9)) = some r from h)
  | succ d ih =>
    intro v1 v2 v3 σ ia1 h
    have h : (if v2 ≤ v3 then rCk (rNb (0 : Int32)) (some ((0 : Int32), σ)) else rCk (rIn v3 (rLen v1)) (((mX9_isLetter (rGa σ v1 v3) σ).bind fun r3 => (if r3.1 = (0 : Int32) then mX9_isPiece_l34 d v1 v2 (v3 + (1 : Int32)) r3.2 else rCk (rNb (1 : Int32)) (some ((1 : Int32), r3.2)))))) = some r := h
    refine aw_iload_n C dX9_isPiece_34 rfl ?_
    refine aw_iload_n C dX9_isPiece_35 rfl ?_
    refine aw_icmp_ge C 56 dX9_isPiece_36 (by decide) (fun q => ?_) (fun q => ?_)
    · rw [if_pos q] at h
      refine aw_iconst C 0 dX9_isPiece_56 ki_0 ?_
      obtain ⟨hb1, h⟩ := ck_some h
      cases h
      exact aw_iret C rfl (nb_nar hb1) dX9_isPiece_57 (Nat.le_refl _) (Nat.le_refl _) ⟨rfl, rfl, rfl⟩
    · rw [if_neg q] at h
      refine aw_ald_n C dX9_isPiece_39 rfl ?_
      refine aw_iload_n C dX9_isPiece_40 rfl ?_
      obtain ⟨hb2, h⟩ := ck_some h
      refine am_iald C (rGa σ v1 v3) ia1 (inb_vp hb2) rfl dX9_isPiece_41 ?_
      obtain ⟨r3, h3, h⟩ := Option.bind_eq_some_iff.mp h
      refine aw_callS C [.int (rGa σ v1 v3)] ms_X9_207 (rmX9_isLetter h3) rfl dX9_isPiece_42 (Nat.le_of_ble_eq_true rfl) (Nat.le_of_ble_eq_true rfl) rfl (Nat.le_of_ble_eq_true rfl) (Nat.le_of_ble_eq_true rfl) (Nat.le_of_ble_eq_true rfl) (fun v9 f9 n9 hh => ?_)
      obtain ⟨rfl, rfl, rfl⟩ := hh
      refine aw_if_eq C 50 dX9_isPiece_45 (by decide) (fun q => ?_) (fun q => ?_)
      · rw [if_pos q] at h
        refine aw_iinc C (v3 + (1 : Int32)) dX9_isPiece_50 rfl (by rw [ki_1]) (by decide) rfl ?_
        refine aw_nl [none, some (.ref (rAid v1)), some (.int v2), some (.int (v3 + (1 : Int32)))] rfl ?_
        refine aw_goto C 34 dX9_isPiece_53 (by decide) ?_
        refine aw_fl [none, some (.ref (rAid v1)), some (.int v2), some (.int (v3 + (1 : Int32)))] ⟨rfl, ⟨rfl, ⟨rfl, trivial⟩⟩⟩ ?_
        exact ih v1 v2 (v3 + (1 : Int32)) r3.2 ia1 h
      · rw [if_neg q] at h
        refine aw_iconst C 1 dX9_isPiece_48 ki_1 ?_
        obtain ⟨hb4, h⟩ := ck_some h
        cases h
        exact aw_iret C rfl (nb_nar hb4) dX9_isPiece_49 (Nat.le_refl _) (Nat.le_refl _) ⟨rfl, rfl, rfl⟩
def mX9_isPiece_b19 (σ : RS9) : Option (Int32 × RS9) := rCk (rNb (0 : Int32)) (some ((0 : Int32), σ))
set_option maxHeartbeats 1000000 in
theorem rmX9_isPiece_b19 {X : GX} {p : Program} {l : Launch} {e : Env} {s : State} {m : MethodId} {args : Array Value} {below : List Frame} {meth : Method} {c : Code} {f : AH} {n : Nat} {r : Int32 × RS9} {σ : RS9} (C : CC X p l (RM 2 0 0) s m args meth c RX9 cX9_isPiece 4 (some .boolean)) (h : mX9_isPiece_b19 σ = some r) : AW X p l e (RM 2 0 0) s m args below meth c 4 (ZM X below args s 0 0 (QMi f n r)) (rHm f σ) n 0 0 19 [none, none, none, none] [] := by
  have h : rCk (rNb (0 : Int32)) (some ((0 : Int32), σ)) = some r := h
  refine aw_iconst C 0 dX9_isPiece_19 ki_0 ?_
  obtain ⟨hb1, h⟩ := ck_some h
  cases h
  exact aw_iret C rfl (nb_nar hb1) dX9_isPiece_20 (Nat.le_refl _) (Nat.le_refl _) ⟨rfl, rfl, rfl⟩
def mX9_isPiece (v1 : Nat) (v2 : Int32) (σ : RS9) : Option (Int32 × RS9) := rCk (rIn (4 : Int32) (rLen 1)) ((if v2 < (rGa σ 1 (4 : Int32)) then mX9_isPiece_b19 σ else (if (σ.1 33) = (40 : Int32) then mX9_isPiece_b19 σ else rCk (rIn (3 : Int32) (rLen 1)) ((if (rGa σ 1 (3 : Int32)) = (0 : Int32) then rCk (rNb (1 : Int32)) (some ((1 : Int32), σ)) else mX9_isPiece_l34 rFU v1 v2 (0 : Int32) σ)))))
set_option maxHeartbeats 1000000 in
theorem rmX9_isPiece {X : GX} {l : Launch} {f : AH} {n : Nat} {r : Int32 × RS9} {v1 : Nat} {v2 : Int32} {σ : RS9} (ia1 : rIsA v1 = true) (h : mX9_isPiece v1 v2 σ = some r) : AM X l yX9_isPiece cX9_isPiece 4 (some .boolean) 2 0 0 [.ref 181, .ref (rAid v1), .int v2] (rHm f σ) n (QMi f n r) := by
  have h : rCk (rIn (4 : Int32) (rLen 1)) ((if v2 < (rGa σ 1 (4 : Int32)) then mX9_isPiece_b19 σ else (if (σ.1 33) = (40 : Int32) then mX9_isPiece_b19 σ else rCk (rIn (3 : Int32) (rLen 1)) ((if (rGa σ 1 (3 : Int32)) = (0 : Int32) then rCk (rNb (1 : Int32)) (some ((1 : Int32), σ)) else mX9_isPiece_l34 rFU v1 v2 (0 : Int32) σ))))) = some r := h
  refine AM.of (by decide +kernel) rfl (Nat.le_of_ble_eq_true rfl) (fun p e s m args below meth c C _ => ?_)
  refine aw_nl [some (.ref 181), some (.ref (rAid v1)), some (.int v2), none] rfl ?_
  refine aw_iload_n C dX9_isPiece_0 rfl ?_
  refine aw_ald_n C dX9_isPiece_1 rfl ?_
  refine aw_get C (v := .ref (rAid 1)) gf_X9_7 (hm_M f σ) rfl dX9_isPiece_2 ?_
  refine aw_iconst C 4 dX9_isPiece_5 ki_4 ?_
  obtain ⟨hb1, h⟩ := ck_some h
  refine am_iald C (rGa σ 1 (4 : Int32)) rfl (inb_vp hb1) rfl dX9_isPiece_6 ?_
  refine aw_icmp_lt C 19 dX9_isPiece_7 (by decide) (fun q => ?_) (fun q => ?_)
  · rw [if_pos q] at h
    refine aw_fl [none, none, none, none] trivial ?_
    exact rmX9_isPiece_b19 C h
  · rw [if_neg q] at h
    refine aw_ald_n C dX9_isPiece_10 rfl ?_
    refine aw_get C (v := .int (σ.1 33)) gf_X9_204 (hm_M f σ) rfl dX9_isPiece_11 ?_
    refine aw_bipush C 40 dX9_isPiece_14 kb_40 ?_
    refine aw_icmp_ne C 21 dX9_isPiece_16 (by decide) (fun q => ?_) (fun q => ?_)
    · rw [if_neg q] at h
      refine aw_ald_n C dX9_isPiece_21 rfl ?_
      refine aw_get C (v := .ref (rAid 1)) gf_X9_7 (hm_M f σ) rfl dX9_isPiece_22 ?_
      refine aw_iconst C 3 dX9_isPiece_25 ki_3 ?_
      obtain ⟨hb2, h⟩ := ck_some h
      refine am_iald C (rGa σ 1 (3 : Int32)) rfl (inb_vp hb2) rfl dX9_isPiece_26 ?_
      refine aw_if_ne C 32 dX9_isPiece_27 (by decide) (fun q => ?_) (fun q => ?_)
      · rw [if_neg q] at h
        refine aw_iconst C 0 dX9_isPiece_32 ki_0 ?_
        refine aw_istore_n C dX9_isPiece_33 (by decide) rfl ?_
        refine aw_nl [some (.ref 181), some (.ref (rAid v1)), some (.int v2), some (.int (0 : Int32))] rfl ?_
        refine aw_fl [none, some (.ref (rAid v1)), some (.int v2), some (.int (0 : Int32))] ⟨rfl, ⟨rfl, ⟨rfl, trivial⟩⟩⟩ ?_
        exact rmX9_isPiece_l34 C rFU v1 v2 (0 : Int32) σ ia1 h
      · rw [if_pos q] at h
        refine aw_iconst C 1 dX9_isPiece_30 ki_1 ?_
        obtain ⟨hb3, h⟩ := ck_some h
        cases h
        exact aw_iret C rfl (nb_nar hb3) dX9_isPiece_31 (Nat.le_refl _) (Nat.le_refl _) ⟨rfl, rfl, rfl⟩
    · rw [if_pos q] at h
      refine aw_fl [none, none, none, none] trivial ?_
      exact rmX9_isPiece_b19 C h
def mX9_takes_l137 : Nat → Nat → Nat → Int32 → Int32 → RS9 → Option (Int32 × RS9)
  | 0, _, _, _, _, _ => none
  | d + 1, v2, v3, v5, v9, σ => (if v5 ≤ v9 then some ((0 : Int32), (rSf σ 33 ((σ.1 33) + (1 : Int32)))) else rCk (rIn v9 (rLen v2)) (rCk (rIn (σ.1 45) (rLen 43)) (rCk (rIn v9 (rLen v3)) (rCk (rIn (σ.1 45) (rLen 44)) (mX9_takes_l137 d v2 v3 v5 (v9 + (1 : Int32)) (rSf (rSa (rSa σ 43 (σ.1 45) (rGa σ v2 v9)) 44 (σ.1 45) (rGa (rSa σ 43 (σ.1 45) (rGa σ v2 v9)) v3 v9)) 45 ((σ.1 45) + (1 : Int32))))))))
set_option maxHeartbeats 1000000 in
theorem rmX9_takes_l137 {X : GX} {p : Program} {l : Launch} {e : Env} {s : State} {m : MethodId} {args : Array Value} {below : List Frame} {meth : Method} {c : Code} {f : AH} {n : Nat} {r : Int32 × RS9} (C : CC X p l (RM 3 0 0) s m args meth c RX9 cX9_takes 10 none) : ∀ (d : Nat) (v2 : Nat) (v3 : Nat) (v5 : Int32) (v9 : Int32) (σ : RS9) (_ : rIsA v2 = true) (_ : rIsA v3 = true) (_ : mX9_takes_l137 d v2 v3 v5 v9 σ = some r), AW X p l e (RM 3 0 0) s m args below meth c 10 (ZM X below args s 0 0 (QMv f n r)) (rHm f σ) n 0 0 137 [some (.ref 181), none, some (.ref (rAid v2)), some (.ref (rAid v3)), none, some (.int v5), none, none, none, some (.int v9)] [] := by
  intro d
  induction d with
  | zero =>
    intro v2 v3 v5 v9 σ ia2 ia3 h
    exact nomatch (show (none : Option (Int32 × RS9)) = some r from h)
  | succ d ih =>
    intro v2 v3 v5 v9 σ ia2 ia3 h
    have h : (if v5 ≤ v9 then some ((0 : Int32), (rSf σ 33 ((σ.1 33) + (1 : Int32)))) else rCk (rIn v9 (rLen v2)) (rCk (rIn (σ.1 45) (rLen 43)) (rCk (rIn v9 (rLen v3)) (rCk (rIn (σ.1 45) (rLen 44)) (mX9_takes_l137 d v2 v3 v5 (v9 + (1 : Int32)) (rSf (rSa (rSa σ 43 (σ.1 45) (rGa σ v2 v9)) 44 (σ.1 45) (rGa (rSa σ 43 (σ.1 45) (rGa σ v2 v9)) v3 v9)) 45 ((σ.1 45) + (1 : Int32)))))))) = some r := h
    refine aw_iload C dX9_takes_137 rfl ?_
    refine aw_iload C dX9_takes_139 rfl ?_
    refine aw_icmp_ge C 186 dX9_takes_141 (by decide) (fun q => ?_) (fun q => ?_)
    · rw [if_pos q] at h
      refine aw_ald_n C dX9_takes_186 rfl ?_
      refine aw_dup C dX9_takes_187 rfl ?_
      refine aw_get C (v := .int (σ.1 33)) gf_X9_204 (hm_M f σ) rfl dX9_takes_188 ?_
      refine aw_iconst C 1 dX9_takes_191 ki_1 ?_
      refine aw_iadd C dX9_takes_192 ?_
      refine am_put C gf_X9_204 nf9_33 rfl rfl dX9_takes_193 ?_
      cases h
      exact aw_vret C rfl dX9_takes_196 (Nat.le_refl _) (Nat.le_refl _) ⟨rfl, rfl, rfl⟩
    · rw [if_neg q] at h
      refine aw_ald_n C dX9_takes_144 rfl ?_
      refine aw_get C (v := .ref (rAid 43)) gf_X9_108 (hm_M f σ) rfl dX9_takes_145 ?_
      refine aw_ald_n C dX9_takes_148 rfl ?_
      refine aw_get C (v := .int (σ.1 45)) gf_X9_217 (hm_M f σ) rfl dX9_takes_149 ?_
      refine aw_ald_n C dX9_takes_152 rfl ?_
      refine aw_iload C dX9_takes_153 rfl ?_
      obtain ⟨hb1, h⟩ := ck_some h
      refine am_iald C (rGa σ v2 v9) ia2 (inb_vp hb1) rfl dX9_takes_155 ?_
      obtain ⟨hb2, h⟩ := ck_some h
      refine am_iast C rfl (inb_vp hb2) dX9_takes_156 ?_
      refine aw_ald_n C dX9_takes_157 rfl ?_
      refine aw_get C (v := .ref (rAid 44)) gf_X9_111 (hm_M f (rSa σ 43 (σ.1 45) (rGa σ v2 v9))) rfl dX9_takes_158 ?_
      refine aw_ald_n C dX9_takes_161 rfl ?_
      refine aw_get C (v := .int (σ.1 45)) gf_X9_217 (hm_M f (rSa σ 43 (σ.1 45) (rGa σ v2 v9))) rfl dX9_takes_162 ?_
      refine aw_ald_n C dX9_takes_165 rfl ?_
      refine aw_iload C dX9_takes_166 rfl ?_
      obtain ⟨hb3, h⟩ := ck_some h
      refine am_iald C (rGa (rSa σ 43 (σ.1 45) (rGa σ v2 v9)) v3 v9) ia3 (inb_vp hb3) rfl dX9_takes_168 ?_
      obtain ⟨hb4, h⟩ := ck_some h
      refine am_iast C rfl (inb_vp hb4) dX9_takes_169 ?_
      refine aw_ald_n C dX9_takes_170 rfl ?_
      refine aw_dup C dX9_takes_171 rfl ?_
      refine aw_get C (v := .int (σ.1 45)) gf_X9_217 (hm_M f (rSa (rSa σ 43 (σ.1 45) (rGa σ v2 v9)) 44 (σ.1 45) (rGa (rSa σ 43 (σ.1 45) (rGa σ v2 v9)) v3 v9))) rfl dX9_takes_172 ?_
      refine aw_iconst C 1 dX9_takes_175 ki_1 ?_
      refine aw_iadd C dX9_takes_176 ?_
      refine am_put C gf_X9_217 nf9_45 rfl rfl dX9_takes_177 ?_
      refine aw_iinc C (v9 + (1 : Int32)) dX9_takes_180 rfl (by rw [ki_1]) (by decide) rfl ?_
      refine aw_nl [some (.ref 181), none, some (.ref (rAid v2)), some (.ref (rAid v3)), none, some (.int v5), none, none, none, some (.int (v9 + (1 : Int32)))] rfl ?_
      refine aw_goto C 137 dX9_takes_183 (by decide) ?_
      refine aw_fl [some (.ref 181), none, some (.ref (rAid v2)), some (.ref (rAid v3)), none, some (.int v5), none, none, none, some (.int (v9 + (1 : Int32)))] ⟨rfl, ⟨rfl, ⟨rfl, ⟨rfl, ⟨rfl, trivial⟩⟩⟩⟩⟩ ?_
      exact ih v2 v3 v5 (v9 + (1 : Int32)) (rSf (rSa (rSa σ 43 (σ.1 45) (rGa σ v2 v9)) 44 (σ.1 45) (rGa (rSa σ 43 (σ.1 45) (rGa σ v2 v9)) v3 v9)) 45 ((σ.1 45) + (1 : Int32))) ia2 ia3 h
def mX9_takes_b87 (v1 : Int32) (v2 : Nat) (v3 : Nat) (v5 : Int32) (v8 : Int32) (s0 : Nat) (s1 : Int32) (s2 : Int32) (σ : RS9) : Option (Int32 × RS9) := rCk (rIn s1 (rLen s0)) (rCk (rIn v1 (rLen 20)) (rCk (rIn v8 (rLen 39)) (rCk (rIn v1 (rLen 21)) (rCk (rIn v8 (rLen 40)) (rCk (rIn v8 (rLen 41)) (rCk (rIn v8 (rLen 42)) (mX9_takes_l137 rFU v2 v3 v5 (0 : Int32) (rSa (rSa (rSa (rSa (rSa σ s0 s1 s2) 39 v8 (rGa (rSa σ s0 s1 s2) 20 v1)) 40 v8 (rGa (rSa σ s0 s1 s2) 21 v1)) 41 v8 (σ.1 45)) 42 v8 v5))))))))
set_option maxHeartbeats 1000000 in
theorem rmX9_takes_b87 {X : GX} {p : Program} {l : Launch} {e : Env} {s : State} {m : MethodId} {args : Array Value} {below : List Frame} {meth : Method} {c : Code} {f : AH} {n : Nat} {r : Int32 × RS9} {v1 : Int32} {v2 : Nat} {v3 : Nat} {v5 : Int32} {v8 : Int32} {s0 : Nat} {s1 : Int32} {s2 : Int32} {σ : RS9} (C : CC X p l (RM 3 0 0) s m args meth c RX9 cX9_takes 10 none) (ia2 : rIsA v2 = true) (ia3 : rIsA v3 = true) (ias0 : rIsA s0 = true) (h : mX9_takes_b87 v1 v2 v3 v5 v8 s0 s1 s2 σ = some r) : AW X p l e (RM 3 0 0) s m args below meth c 10 (ZM X below args s 0 0 (QMv f n r)) (rHm f σ) n 0 0 87 [some (.ref 181), some (.int v1), some (.ref (rAid v2)), some (.ref (rAid v3)), none, some (.int v5), none, none, some (.int v8), none] [.int s2, .int s1, .ref (rAid s0)] := by
  have h : rCk (rIn s1 (rLen s0)) (rCk (rIn v1 (rLen 20)) (rCk (rIn v8 (rLen 39)) (rCk (rIn v1 (rLen 21)) (rCk (rIn v8 (rLen 40)) (rCk (rIn v8 (rLen 41)) (rCk (rIn v8 (rLen 42)) (mX9_takes_l137 rFU v2 v3 v5 (0 : Int32) (rSa (rSa (rSa (rSa (rSa σ s0 s1 s2) 39 v8 (rGa (rSa σ s0 s1 s2) 20 v1)) 40 v8 (rGa (rSa σ s0 s1 s2) 21 v1)) 41 v8 (σ.1 45)) 42 v8 v5)))))))) = some r := h
  obtain ⟨hb1, h⟩ := ck_some h
  refine am_iast C ias0 (inb_vp hb1) dX9_takes_87 ?_
  refine aw_ald_n C dX9_takes_88 rfl ?_
  refine aw_get C (v := .ref (rAid 39)) gf_X9_96 (hm_M f (rSa σ s0 s1 s2)) rfl dX9_takes_89 ?_
  refine aw_iload C dX9_takes_92 rfl ?_
  refine aw_ald_n C dX9_takes_94 rfl ?_
  refine aw_get C (v := .ref (rAid 20)) gf_X9_48 (hm_M f (rSa σ s0 s1 s2)) rfl dX9_takes_95 ?_
  refine aw_iload_n C dX9_takes_98 rfl ?_
  obtain ⟨hb2, h⟩ := ck_some h
  refine am_iald C (rGa (rSa σ s0 s1 s2) 20 v1) rfl (inb_vp hb2) rfl dX9_takes_99 ?_
  obtain ⟨hb3, h⟩ := ck_some h
  refine am_iast C rfl (inb_vp hb3) dX9_takes_100 ?_
  refine aw_ald_n C dX9_takes_101 rfl ?_
  refine aw_get C (v := .ref (rAid 40)) gf_X9_99 (hm_M f (rSa (rSa σ s0 s1 s2) 39 v8 (rGa (rSa σ s0 s1 s2) 20 v1))) rfl dX9_takes_102 ?_
  refine aw_iload C dX9_takes_105 rfl ?_
  refine aw_ald_n C dX9_takes_107 rfl ?_
  refine aw_get C (v := .ref (rAid 21)) gf_X9_51 (hm_M f (rSa (rSa σ s0 s1 s2) 39 v8 (rGa (rSa σ s0 s1 s2) 20 v1))) rfl dX9_takes_108 ?_
  refine aw_iload_n C dX9_takes_111 rfl ?_
  obtain ⟨hb4, h⟩ := ck_some h
  refine am_iald C (rGa (rSa σ s0 s1 s2) 21 v1) rfl (inb_vp hb4) rfl dX9_takes_112 ?_
  obtain ⟨hb5, h⟩ := ck_some h
  refine am_iast C rfl (inb_vp hb5) dX9_takes_113 ?_
  refine aw_ald_n C dX9_takes_114 rfl ?_
  refine aw_get C (v := .ref (rAid 41)) gf_X9_102 (hm_M f (rSa (rSa (rSa σ s0 s1 s2) 39 v8 (rGa (rSa σ s0 s1 s2) 20 v1)) 40 v8 (rGa (rSa σ s0 s1 s2) 21 v1))) rfl dX9_takes_115 ?_
  refine aw_iload C dX9_takes_118 rfl ?_
  refine aw_ald_n C dX9_takes_120 rfl ?_
  refine aw_get C (v := .int (σ.1 45)) gf_X9_217 (hm_M f (rSa (rSa (rSa σ s0 s1 s2) 39 v8 (rGa (rSa σ s0 s1 s2) 20 v1)) 40 v8 (rGa (rSa σ s0 s1 s2) 21 v1))) rfl dX9_takes_121 ?_
  obtain ⟨hb6, h⟩ := ck_some h
  refine am_iast C rfl (inb_vp hb6) dX9_takes_124 ?_
  refine aw_ald_n C dX9_takes_125 rfl ?_
  refine aw_get C (v := .ref (rAid 42)) gf_X9_105 (hm_M f (rSa (rSa (rSa (rSa σ s0 s1 s2) 39 v8 (rGa (rSa σ s0 s1 s2) 20 v1)) 40 v8 (rGa (rSa σ s0 s1 s2) 21 v1)) 41 v8 (σ.1 45))) rfl dX9_takes_126 ?_
  refine aw_iload C dX9_takes_129 rfl ?_
  refine aw_iload C dX9_takes_131 rfl ?_
  obtain ⟨hb7, h⟩ := ck_some h
  refine am_iast C rfl (inb_vp hb7) dX9_takes_133 ?_
  refine aw_iconst C 0 dX9_takes_134 ki_0 ?_
  refine aw_istore C dX9_takes_135 (by decide) rfl ?_
  refine aw_nl [some (.ref 181), some (.int v1), some (.ref (rAid v2)), some (.ref (rAid v3)), none, some (.int v5), none, none, some (.int v8), some (.int (0 : Int32))] rfl ?_
  refine aw_fl [some (.ref 181), none, some (.ref (rAid v2)), some (.ref (rAid v3)), none, some (.int v5), none, none, none, some (.int (0 : Int32))] ⟨rfl, ⟨rfl, ⟨rfl, ⟨rfl, ⟨rfl, trivial⟩⟩⟩⟩⟩ ?_
  exact rmX9_takes_l137 C rFU v2 v3 v5 (0 : Int32) (rSa (rSa (rSa (rSa (rSa σ s0 s1 s2) 39 v8 (rGa (rSa σ s0 s1 s2) 20 v1)) 40 v8 (rGa (rSa σ s0 s1 s2) 21 v1)) 41 v8 (σ.1 45)) 42 v8 v5) ia2 ia3 h
def mX9_takes_b18 (σ : RS9) : Option (Int32 × RS9) := some ((0 : Int32), σ)
set_option maxHeartbeats 1000000 in
theorem rmX9_takes_b18 {X : GX} {p : Program} {l : Launch} {e : Env} {s : State} {m : MethodId} {args : Array Value} {below : List Frame} {meth : Method} {c : Code} {f : AH} {n : Nat} {r : Int32 × RS9} {σ : RS9} (C : CC X p l (RM 3 0 0) s m args meth c RX9 cX9_takes 10 none) (h : mX9_takes_b18 σ = some r) : AW X p l e (RM 3 0 0) s m args below meth c 10 (ZM X below args s 0 0 (QMv f n r)) (rHm f σ) n 0 0 18 [none, none, none, none, none, none, none, none, none, none] [] := by
  have h : some ((0 : Int32), σ) = some r := h
  cases h
  exact aw_vret C rfl dX9_takes_18 (Nat.le_refl _) (Nat.le_refl _) ⟨rfl, rfl, rfl⟩
def mX9_takes (v1 : Int32) (v2 : Nat) (v3 : Nat) (v4 : Nat) (v5 : Int32) (v6 : Int32) (v7 : Int32) (σ : RS9) : Option (Int32 × RS9) := ((mX9_isLocked v1 σ).bind fun r1 => (if r1.1 = (0 : Int32) then ((mX9_isPiece v2 v5 r1.2).bind fun r2 => (if r2.1 = (0 : Int32) then mX9_takes_b18 r2.2 else rCk (rIn (0 : Int32) (rLen v3)) (rCk (rIn (r2.2.1 33) (rLen 34)) (rCk (rIn (v5 - (1 : Int32)) (rLen v4)) (rCk (rIn (r2.2.1 33) (rLen 35)) (rCk (rIn v1 (rLen 19)) (rCk (rIn (r2.2.1 33) (rLen 36)) (rCk (rIn (r2.2.1 33) (rLen 37)) ((if v6 = (0 : Int32) then mX9_takes_b87 v1 v2 v3 v5 (r2.2.1 33) 38 (r2.2.1 33) (0 : Int32) (rSa (rSa (rSa (rSa r2.2 34 (r2.2.1 33) (rGa r2.2 v3 (0 : Int32))) 35 (r2.2.1 33) (rGa (rSa r2.2 34 (r2.2.1 33) (rGa r2.2 v3 (0 : Int32))) v4 (v5 - (1 : Int32)))) 36 (r2.2.1 33) (rGa r2.2 19 v1)) 37 (r2.2.1 33) v7) else mX9_takes_b87 v1 v2 v3 v5 (r2.2.1 33) 38 (r2.2.1 33) (1 : Int32) (rSa (rSa (rSa (rSa r2.2 34 (r2.2.1 33) (rGa r2.2 v3 (0 : Int32))) 35 (r2.2.1 33) (rGa (rSa r2.2 34 (r2.2.1 33) (rGa r2.2 v3 (0 : Int32))) v4 (v5 - (1 : Int32)))) 36 (r2.2.1 33) (rGa r2.2 19 v1)) 37 (r2.2.1 33) v7))))))))))) else mX9_takes_b18 r1.2))
set_option maxHeartbeats 1000000 in
theorem rmX9_takes {X : GX} {l : Launch} {f : AH} {n : Nat} {r : Int32 × RS9} {v1 : Int32} {v2 : Nat} {v3 : Nat} {v4 : Nat} {v5 : Int32} {v6 : Int32} {v7 : Int32} {σ : RS9} (ia2 : rIsA v2 = true) (ia3 : rIsA v3 = true) (ia4 : rIsA v4 = true) (h : mX9_takes v1 v2 v3 v4 v5 v6 v7 σ = some r) : AM X l yX9_takes cX9_takes 10 none 3 0 0 [.ref 181, .int v1, .ref (rAid v2), .ref (rAid v3), .ref (rAid v4), .int v5, .int v6, .int v7] (rHm f σ) n (QMv f n r) := by
  have h : ((mX9_isLocked v1 σ).bind fun r1 => (if r1.1 = (0 : Int32) then ((mX9_isPiece v2 v5 r1.2).bind fun r2 => (if r2.1 = (0 : Int32) then mX9_takes_b18 r2.2 else rCk (rIn (0 : Int32) (rLen v3)) (rCk (rIn (r2.2.1 33) (rLen 34)) (rCk (rIn (v5 - (1 : Int32)) (rLen v4)) (rCk (rIn (r2.2.1 33) (rLen 35)) (rCk (rIn v1 (rLen 19)) (rCk (rIn (r2.2.1 33) (rLen 36)) (rCk (rIn (r2.2.1 33) (rLen 37)) ((if v6 = (0 : Int32) then mX9_takes_b87 v1 v2 v3 v5 (r2.2.1 33) 38 (r2.2.1 33) (0 : Int32) (rSa (rSa (rSa (rSa r2.2 34 (r2.2.1 33) (rGa r2.2 v3 (0 : Int32))) 35 (r2.2.1 33) (rGa (rSa r2.2 34 (r2.2.1 33) (rGa r2.2 v3 (0 : Int32))) v4 (v5 - (1 : Int32)))) 36 (r2.2.1 33) (rGa r2.2 19 v1)) 37 (r2.2.1 33) v7) else mX9_takes_b87 v1 v2 v3 v5 (r2.2.1 33) 38 (r2.2.1 33) (1 : Int32) (rSa (rSa (rSa (rSa r2.2 34 (r2.2.1 33) (rGa r2.2 v3 (0 : Int32))) 35 (r2.2.1 33) (rGa (rSa r2.2 34 (r2.2.1 33) (rGa r2.2 v3 (0 : Int32))) v4 (v5 - (1 : Int32)))) 36 (r2.2.1 33) (rGa r2.2 19 v1)) 37 (r2.2.1 33) v7))))))))))) else mX9_takes_b18 r1.2)) = some r := h
  refine AM.of (by decide +kernel) rfl (Nat.le_of_ble_eq_true rfl) (fun p e s m args below meth c C _ => ?_)
  refine aw_nl [some (.ref 181), some (.int v1), some (.ref (rAid v2)), some (.ref (rAid v3)), some (.ref (rAid v4)), some (.int v5), some (.int v6), some (.int v7), none, none] rfl ?_
  refine aw_ald_n C dX9_takes_0 rfl ?_
  refine aw_iload_n C dX9_takes_1 rfl ?_
  obtain ⟨r1, h1, h⟩ := Option.bind_eq_some_iff.mp h
  refine aw_callV C (ci := 9) (b := 181) [.int v1] mv_X9_210 rfl rfl (hm_M f σ) (rmX9_isLocked h1) rfl dX9_takes_2 (Nat.le_of_ble_eq_true rfl) (Nat.le_of_ble_eq_true rfl) rfl (Nat.le_of_ble_eq_true rfl) (Nat.le_of_ble_eq_true rfl) (Nat.le_of_ble_eq_true rfl) (fun v9 f9 n9 hh => ?_)
  obtain ⟨rfl, rfl, rfl⟩ := hh
  refine aw_if_ne C 18 dX9_takes_5 (by decide) (fun q => ?_) (fun q => ?_)
  · rw [if_neg q] at h
    refine aw_fl [none, none, none, none, none, none, none, none, none, none] trivial ?_
    exact rmX9_takes_b18 C h
  · rw [if_pos q] at h
    refine aw_ald_n C dX9_takes_8 rfl ?_
    refine aw_ald_n C dX9_takes_9 rfl ?_
    refine aw_iload C dX9_takes_10 rfl ?_
    obtain ⟨r2, h2, h⟩ := Option.bind_eq_some_iff.mp h
    refine aw_callV C (ci := 9) (b := 181) [.ref (rAid v2), .int v5] mv_X9_213 rfl rfl (hm_M f r1.2) (rmX9_isPiece ia2 h2) rfl dX9_takes_12 (Nat.le_of_ble_eq_true rfl) (Nat.le_of_ble_eq_true rfl) rfl (Nat.le_of_ble_eq_true rfl) (Nat.le_of_ble_eq_true rfl) (Nat.le_of_ble_eq_true rfl) (fun v9 f9 n9 hh => ?_)
    obtain ⟨rfl, rfl, rfl⟩ := hh
    refine aw_if_ne C 19 dX9_takes_15 (by decide) (fun q => ?_) (fun q => ?_)
    · rw [if_neg q] at h
      refine aw_ald_n C dX9_takes_19 rfl ?_
      refine aw_get C (v := .int (r2.2.1 33)) gf_X9_204 (hm_M f r2.2) rfl dX9_takes_20 ?_
      refine aw_istore C dX9_takes_23 (by decide) rfl ?_
      refine aw_nl [some (.ref 181), some (.int v1), some (.ref (rAid v2)), some (.ref (rAid v3)), some (.ref (rAid v4)), some (.int v5), some (.int v6), some (.int v7), some (.int (r2.2.1 33)), none] rfl ?_
      refine aw_ald_n C dX9_takes_25 rfl ?_
      refine aw_get C (v := .ref (rAid 34)) gf_X9_81 (hm_M f r2.2) rfl dX9_takes_26 ?_
      refine aw_iload C dX9_takes_29 rfl ?_
      refine aw_ald_n C dX9_takes_31 rfl ?_
      refine aw_iconst C 0 dX9_takes_32 ki_0 ?_
      obtain ⟨hb3, h⟩ := ck_some h
      refine am_iald C (rGa r2.2 v3 (0 : Int32)) ia3 (inb_vp hb3) rfl dX9_takes_33 ?_
      obtain ⟨hb4, h⟩ := ck_some h
      refine am_iast C rfl (inb_vp hb4) dX9_takes_34 ?_
      refine aw_ald_n C dX9_takes_35 rfl ?_
      refine aw_get C (v := .ref (rAid 35)) gf_X9_84 (hm_M f (rSa r2.2 34 (r2.2.1 33) (rGa r2.2 v3 (0 : Int32)))) rfl dX9_takes_36 ?_
      refine aw_iload C dX9_takes_39 rfl ?_
      refine aw_ald C dX9_takes_41 rfl ?_
      refine aw_iload C dX9_takes_43 rfl ?_
      refine aw_iconst C 1 dX9_takes_45 ki_1 ?_
      refine aw_isub C dX9_takes_46 ?_
      obtain ⟨hb5, h⟩ := ck_some h
      refine am_iald C (rGa (rSa r2.2 34 (r2.2.1 33) (rGa r2.2 v3 (0 : Int32))) v4 (v5 - (1 : Int32))) ia4 (inb_vp hb5) rfl dX9_takes_47 ?_
      obtain ⟨hb6, h⟩ := ck_some h
      refine am_iast C rfl (inb_vp hb6) dX9_takes_48 ?_
      refine aw_ald_n C dX9_takes_49 rfl ?_
      refine aw_get C (v := .ref (rAid 36)) gf_X9_87 (hm_M f (rSa (rSa r2.2 34 (r2.2.1 33) (rGa r2.2 v3 (0 : Int32))) 35 (r2.2.1 33) (rGa (rSa r2.2 34 (r2.2.1 33) (rGa r2.2 v3 (0 : Int32))) v4 (v5 - (1 : Int32))))) rfl dX9_takes_50 ?_
      refine aw_iload C dX9_takes_53 rfl ?_
      refine aw_ald_n C dX9_takes_55 rfl ?_
      refine aw_get C (v := .ref (rAid 19)) gf_X9_45 (hm_M f (rSa (rSa r2.2 34 (r2.2.1 33) (rGa r2.2 v3 (0 : Int32))) 35 (r2.2.1 33) (rGa (rSa r2.2 34 (r2.2.1 33) (rGa r2.2 v3 (0 : Int32))) v4 (v5 - (1 : Int32))))) rfl dX9_takes_56 ?_
      refine aw_iload_n C dX9_takes_59 rfl ?_
      obtain ⟨hb7, h⟩ := ck_some h
      refine am_iald C (rGa r2.2 19 v1) rfl (inb_vp hb7) rfl dX9_takes_60 ?_
      obtain ⟨hb8, h⟩ := ck_some h
      refine am_iast C rfl (inb_vp hb8) dX9_takes_61 ?_
      refine aw_ald_n C dX9_takes_62 rfl ?_
      refine aw_get C (v := .ref (rAid 37)) gf_X9_90 (hm_M f (rSa (rSa (rSa r2.2 34 (r2.2.1 33) (rGa r2.2 v3 (0 : Int32))) 35 (r2.2.1 33) (rGa (rSa r2.2 34 (r2.2.1 33) (rGa r2.2 v3 (0 : Int32))) v4 (v5 - (1 : Int32)))) 36 (r2.2.1 33) (rGa r2.2 19 v1))) rfl dX9_takes_63 ?_
      refine aw_iload C dX9_takes_66 rfl ?_
      refine aw_iload C dX9_takes_68 rfl ?_
      obtain ⟨hb9, h⟩ := ck_some h
      refine am_iast C rfl (inb_vp hb9) dX9_takes_70 ?_
      refine aw_ald_n C dX9_takes_71 rfl ?_
      refine aw_get C (v := .ref (rAid 38)) gf_X9_93 (hm_M f (rSa (rSa (rSa (rSa r2.2 34 (r2.2.1 33) (rGa r2.2 v3 (0 : Int32))) 35 (r2.2.1 33) (rGa (rSa r2.2 34 (r2.2.1 33) (rGa r2.2 v3 (0 : Int32))) v4 (v5 - (1 : Int32)))) 36 (r2.2.1 33) (rGa r2.2 19 v1)) 37 (r2.2.1 33) v7)) rfl dX9_takes_72 ?_
      refine aw_iload C dX9_takes_75 rfl ?_
      refine aw_iload C dX9_takes_77 rfl ?_
      refine aw_if_eq C 86 dX9_takes_79 (by decide) (fun q => ?_) (fun q => ?_)
      · rw [if_pos q] at h
        refine aw_iconst C 0 dX9_takes_86 ki_0 ?_
        refine aw_fl [some (.ref 181), some (.int v1), some (.ref (rAid v2)), some (.ref (rAid v3)), none, some (.int v5), none, none, some (.int (r2.2.1 33)), none] ⟨rfl, ⟨rfl, ⟨rfl, ⟨rfl, ⟨rfl, ⟨rfl, trivial⟩⟩⟩⟩⟩⟩ ?_
        exact rmX9_takes_b87 C ia2 ia3 rfl h
      · rw [if_neg q] at h
        refine aw_iconst C 1 dX9_takes_82 ki_1 ?_
        refine aw_goto C 87 dX9_takes_83 (by decide) ?_
        refine aw_fl [some (.ref 181), some (.int v1), some (.ref (rAid v2)), some (.ref (rAid v3)), none, some (.int v5), none, none, some (.int (r2.2.1 33)), none] ⟨rfl, ⟨rfl, ⟨rfl, ⟨rfl, ⟨rfl, ⟨rfl, trivial⟩⟩⟩⟩⟩⟩ ?_
        exact rmX9_takes_b87 C ia2 ia3 rfl h
    · rw [if_pos q] at h
      refine aw_fl [none, none, none, none, none, none, none, none, none, none] trivial ?_
      exact rmX9_takes_b18 C h
def mX9_isPieceThere (v1 : Int32) (σ : RS9) : Option (Int32 × RS9) := ((mX9_isIn v1 (0 : Int32) ((σ.1 33) - (1 : Int32)) σ).bind fun r1 => rCk (rNb r1.1) (some (r1.1, r1.2)))
set_option maxHeartbeats 1000000 in
theorem rmX9_isPieceThere {X : GX} {l : Launch} {f : AH} {n : Nat} {r : Int32 × RS9} {v1 : Int32} {σ : RS9} (h : mX9_isPieceThere v1 σ = some r) : AM X l yX9_isPieceThere cX9_isPieceThere 2 (some .boolean) 1 0 0 [.ref 181, .int v1] (rHm f σ) n (QMi f n r) := by
  have h : ((mX9_isIn v1 (0 : Int32) ((σ.1 33) - (1 : Int32)) σ).bind fun r1 => rCk (rNb r1.1) (some (r1.1, r1.2))) = some r := h
  refine AM.of (by decide +kernel) rfl (Nat.le_of_ble_eq_true rfl) (fun p e s m args below meth c C _ => ?_)
  refine aw_nl [some (.ref 181), some (.int v1)] rfl ?_
  refine aw_iload_n C dX9_isPieceThere_0 rfl ?_
  refine aw_iconst C 0 dX9_isPieceThere_1 ki_0 ?_
  refine aw_ald_n C dX9_isPieceThere_2 rfl ?_
  refine aw_get C (v := .int (σ.1 33)) gf_X9_204 (hm_M f σ) rfl dX9_isPieceThere_3 ?_
  refine aw_iconst C 1 dX9_isPieceThere_6 ki_1 ?_
  refine aw_isub C dX9_isPieceThere_7 ?_
  obtain ⟨r1, h1, h⟩ := Option.bind_eq_some_iff.mp h
  refine aw_callS C [.int v1, .int (0 : Int32), .int ((σ.1 33) - (1 : Int32))] ms_X9_141 (rmX9_isIn h1) rfl dX9_isPieceThere_8 (Nat.le_of_ble_eq_true rfl) (Nat.le_of_ble_eq_true rfl) rfl (Nat.le_of_ble_eq_true rfl) (Nat.le_of_ble_eq_true rfl) (Nat.le_of_ble_eq_true rfl) (fun v9 f9 n9 hh => ?_)
  obtain ⟨rfl, rfl, rfl⟩ := hh
  obtain ⟨hb2, h⟩ := ck_some h
  cases h
  exact aw_iret C rfl (nb_nar hb2) dX9_isPieceThere_11 (Nat.le_refl _) (Nat.le_refl _) ⟨rfl, rfl, rfl⟩
def mX9_toldOf (v1 : Int32) (σ : RS9) : Option (Int32 × RS9) := rCk (rIn ((443 : Int32) + ((61 : Int32) * v1)) (rLen 1)) (some ((rGa σ 1 ((443 : Int32) + ((61 : Int32) * v1))), σ))
set_option maxHeartbeats 1000000 in
theorem rmX9_toldOf {X : GX} {l : Launch} {f : AH} {n : Nat} {r : Int32 × RS9} {v1 : Int32} {σ : RS9} (h : mX9_toldOf v1 σ = some r) : AM X l yX9_toldOf cX9_toldOf 2 (some .int) 0 0 0 [.ref 181, .int v1] (rHm f σ) n (QMi f n r) := by
  have h : rCk (rIn ((443 : Int32) + ((61 : Int32) * v1)) (rLen 1)) (some ((rGa σ 1 ((443 : Int32) + ((61 : Int32) * v1))), σ)) = some r := h
  refine AM.of (by decide +kernel) rfl (Nat.le_of_ble_eq_true rfl) (fun p e s m args below meth c C _ => ?_)
  refine aw_nl [some (.ref 181), some (.int v1)] rfl ?_
  refine aw_ald_n C dX9_toldOf_0 rfl ?_
  refine aw_get C (v := .ref (rAid 1)) gf_X9_7 (hm_M f σ) rfl dX9_toldOf_1 ?_
  refine aw_sipush C 443 dX9_toldOf_4 ks_443 ?_
  refine aw_bipush C 61 dX9_toldOf_7 kb_61 ?_
  refine aw_iload_n C dX9_toldOf_9 rfl ?_
  refine aw_imul C dX9_toldOf_10 ?_
  refine aw_iadd C dX9_toldOf_11 ?_
  obtain ⟨hb1, h⟩ := ck_some h
  refine am_iald C (rGa σ 1 ((443 : Int32) + ((61 : Int32) * v1))) rfl (inb_vp hb1) rfl dX9_toldOf_12 ?_
  cases h
  exact aw_iret C rfl rfl dX9_toldOf_13 (Nat.le_refl _) (Nat.le_refl _) ⟨rfl, rfl, rfl⟩
def mX9_toldAt (v1 : Int32) (v2 : Int32) (σ : RS9) : Option (Int32 × RS9) := rCk (rIn ((((443 : Int32) + ((61 : Int32) * v1)) + (1 : Int32)) + v2) (rLen 1)) (some ((rGa σ 1 ((((443 : Int32) + ((61 : Int32) * v1)) + (1 : Int32)) + v2)), σ))
set_option maxHeartbeats 1000000 in
theorem rmX9_toldAt {X : GX} {l : Launch} {f : AH} {n : Nat} {r : Int32 × RS9} {v1 : Int32} {v2 : Int32} {σ : RS9} (h : mX9_toldAt v1 v2 σ = some r) : AM X l yX9_toldAt cX9_toldAt 3 (some .int) 0 0 0 [.ref 181, .int v1, .int v2] (rHm f σ) n (QMi f n r) := by
  have h : rCk (rIn ((((443 : Int32) + ((61 : Int32) * v1)) + (1 : Int32)) + v2) (rLen 1)) (some ((rGa σ 1 ((((443 : Int32) + ((61 : Int32) * v1)) + (1 : Int32)) + v2)), σ)) = some r := h
  refine AM.of (by decide +kernel) rfl (Nat.le_of_ble_eq_true rfl) (fun p e s m args below meth c C _ => ?_)
  refine aw_nl [some (.ref 181), some (.int v1), some (.int v2)] rfl ?_
  refine aw_ald_n C dX9_toldAt_0 rfl ?_
  refine aw_get C (v := .ref (rAid 1)) gf_X9_7 (hm_M f σ) rfl dX9_toldAt_1 ?_
  refine aw_sipush C 443 dX9_toldAt_4 ks_443 ?_
  refine aw_bipush C 61 dX9_toldAt_7 kb_61 ?_
  refine aw_iload_n C dX9_toldAt_9 rfl ?_
  refine aw_imul C dX9_toldAt_10 ?_
  refine aw_iadd C dX9_toldAt_11 ?_
  refine aw_iconst C 1 dX9_toldAt_12 ki_1 ?_
  refine aw_iadd C dX9_toldAt_13 ?_
  refine aw_iload_n C dX9_toldAt_14 rfl ?_
  refine aw_iadd C dX9_toldAt_15 ?_
  obtain ⟨hb1, h⟩ := ck_some h
  refine am_iald C (rGa σ 1 ((((443 : Int32) + ((61 : Int32) * v1)) + (1 : Int32)) + v2)) rfl (inb_vp hb1) rfl dX9_toldAt_16 ?_
  cases h
  exact aw_iret C rfl rfl dX9_toldAt_17 (Nat.le_refl _) (Nat.le_refl _) ⟨rfl, rfl, rfl⟩
def mX9_holdsTold_l2 : Nat → Int32 → Int32 → RS9 → Option (Int32 × RS9)
  | 0, _, _, _ => none
  | d + 1, v1, v2, σ => ((mX9_toldOf v1 σ).bind fun r1 => (if r1.1 ≤ v2 then some ((0 : Int32), r1.2) else ((mX9_toldAt v1 v2 r1.2).bind fun r2 => rCk (rIn v2 (rLen 53)) (mX9_holdsTold_l2 d v1 (v2 + (1 : Int32)) (rSa r2.2 53 v2 r2.1)))))
set_option maxHeartbeats 1000000 in
theorem rmX9_holdsTold_l2 {X : GX} {p : Program} {l : Launch} {e : Env} {s : State} {m : MethodId} {args : Array Value} {below : List Frame} {meth : Method} {c : Code} {f : AH} {n : Nat} {r : Int32 × RS9} (C : CC X p l (RM 1 0 0) s m args meth c RX9 cX9_holdsTold 3 none) : ∀ (d : Nat) (v1 : Int32) (v2 : Int32) (σ : RS9) (_ : mX9_holdsTold_l2 d v1 v2 σ = some r), AW X p l e (RM 1 0 0) s m args below meth c 3 (ZM X below args s 0 0 (QMv f n r)) (rHm f σ) n 0 0 2 [some (.ref 181), some (.int v1), some (.int v2)] [] := by
  intro d
  induction d with
  | zero =>
    intro v1 v2 σ h
    exact nomatch (show (none : Option (Int32 × RS9)) = some r from h)
  | succ d ih =>
    intro v1 v2 σ h
    have h : ((mX9_toldOf v1 σ).bind fun r1 => (if r1.1 ≤ v2 then some ((0 : Int32), r1.2) else ((mX9_toldAt v1 v2 r1.2).bind fun r2 => rCk (rIn v2 (rLen 53)) (mX9_holdsTold_l2 d v1 (v2 + (1 : Int32)) (rSa r2.2 53 v2 r2.1))))) = some r := h
    refine aw_iload_n C dX9_holdsTold_2 rfl ?_
    refine aw_ald_n C dX9_holdsTold_3 rfl ?_
    refine aw_iload_n C dX9_holdsTold_4 rfl ?_
    obtain ⟨r1, h1, h⟩ := Option.bind_eq_some_iff.mp h
    refine aw_callV C (ci := 9) (b := 181) [.int v1] mv_X9_247 rfl rfl (hm_M f σ) (rmX9_toldOf h1) rfl dX9_holdsTold_5 (Nat.le_of_ble_eq_true rfl) (Nat.le_of_ble_eq_true rfl) rfl (Nat.le_of_ble_eq_true rfl) (Nat.le_of_ble_eq_true rfl) (Nat.le_of_ble_eq_true rfl) (fun v9 f9 n9 hh => ?_)
    obtain ⟨rfl, rfl, rfl⟩ := hh
    refine aw_icmp_ge C 29 dX9_holdsTold_8 (by decide) (fun q => ?_) (fun q => ?_)
    · rw [if_pos q] at h
      cases h
      exact aw_vret C rfl dX9_holdsTold_29 (Nat.le_refl _) (Nat.le_refl _) ⟨rfl, rfl, rfl⟩
    · rw [if_neg q] at h
      refine aw_ald_n C dX9_holdsTold_11 rfl ?_
      refine aw_get C (v := .ref (rAid 53)) gf_X9_132 (hm_M f r1.2) rfl dX9_holdsTold_12 ?_
      refine aw_iload_n C dX9_holdsTold_15 rfl ?_
      refine aw_ald_n C dX9_holdsTold_16 rfl ?_
      refine aw_iload_n C dX9_holdsTold_17 rfl ?_
      refine aw_iload_n C dX9_holdsTold_18 rfl ?_
      obtain ⟨r2, h2, h⟩ := Option.bind_eq_some_iff.mp h
      refine aw_callV C (ci := 9) (b := 181) [.int v1, .int v2] mv_X9_251 rfl rfl (hm_M f r1.2) (rmX9_toldAt h2) rfl dX9_holdsTold_19 (Nat.le_of_ble_eq_true rfl) (Nat.le_of_ble_eq_true rfl) rfl (Nat.le_of_ble_eq_true rfl) (Nat.le_of_ble_eq_true rfl) (Nat.le_of_ble_eq_true rfl) (fun v9 f9 n9 hh => ?_)
      obtain ⟨rfl, rfl, rfl⟩ := hh
      obtain ⟨hb3, h⟩ := ck_some h
      refine am_iast C rfl (inb_vp hb3) dX9_holdsTold_22 ?_
      refine aw_iinc C (v2 + (1 : Int32)) dX9_holdsTold_23 rfl (by rw [ki_1]) (by decide) rfl ?_
      refine aw_nl [some (.ref 181), some (.int v1), some (.int (v2 + (1 : Int32)))] rfl ?_
      refine aw_goto C 2 dX9_holdsTold_26 (by decide) ?_
      refine aw_fl [some (.ref 181), some (.int v1), some (.int (v2 + (1 : Int32)))] ⟨rfl, ⟨rfl, ⟨rfl, trivial⟩⟩⟩ ?_
      exact ih v1 (v2 + (1 : Int32)) (rSa r2.2 53 v2 r2.1) h
def mX9_holdsTold (v1 : Int32) (σ : RS9) : Option (Int32 × RS9) := mX9_holdsTold_l2 rFU v1 (0 : Int32) σ
set_option maxHeartbeats 1000000 in
theorem rmX9_holdsTold {X : GX} {l : Launch} {f : AH} {n : Nat} {r : Int32 × RS9} {v1 : Int32} {σ : RS9} (h : mX9_holdsTold v1 σ = some r) : AM X l yX9_holdsTold cX9_holdsTold 3 none 1 0 0 [.ref 181, .int v1] (rHm f σ) n (QMv f n r) := by
  have h : mX9_holdsTold_l2 rFU v1 (0 : Int32) σ = some r := h
  refine AM.of (by decide +kernel) rfl (Nat.le_of_ble_eq_true rfl) (fun p e s m args below meth c C _ => ?_)
  refine aw_nl [some (.ref 181), some (.int v1), none] rfl ?_
  refine aw_iconst C 0 dX9_holdsTold_0 ki_0 ?_
  refine aw_istore_n C dX9_holdsTold_1 (by decide) rfl ?_
  refine aw_nl [some (.ref 181), some (.int v1), some (.int (0 : Int32))] rfl ?_
  refine aw_fl [some (.ref 181), some (.int v1), some (.int (0 : Int32))] ⟨rfl, ⟨rfl, ⟨rfl, trivial⟩⟩⟩ ?_
  exact rmX9_holdsTold_l2 C rFU v1 (0 : Int32) σ h
end
/-! part 22af.ref -/
section
def mX9_hasSign_b31 (σ : RS9) : Option (Int32 × RS9) := rCk (rNb (1 : Int32)) (some ((1 : Int32), σ))
set_option maxHeartbeats 1000000 in
theorem rmX9_hasSign_b31 {X : GX} {p : Program} {l : Launch} {e : Env} {s : State} {m : MethodId} {args : Array Value} {below : List Frame} {meth : Method} {c : Code} {f : AH} {n : Nat} {r : Int32 × RS9} {σ : RS9} (C : CC X p l (RM 0 0 0) s m args meth c RX9 cX9_hasSign 3 (some .boolean)) (h : mX9_hasSign_b31 σ = some r) : AW X p l e (RM 0 0 0) s m args below meth c 3 (ZM X below args s 0 0 (QMi f n r)) (rHm f σ) n 0 0 31 [none, none, none] [] := by
  have h : rCk (rNb (1 : Int32)) (some ((1 : Int32), σ)) = some r := h
  refine aw_iconst C 1 dX9_hasSign_31 ki_1 ?_
  obtain ⟨hb1, h⟩ := ck_some h
  cases h
  exact aw_iret C rfl (nb_nar hb1) dX9_hasSign_32 (Nat.le_refl _) (Nat.le_refl _) ⟨rfl, rfl, rfl⟩
def mX9_hasSign_l2 : Nat → Nat → Int32 → Int32 → RS9 → Option (Int32 × RS9)
  | 0, _, _, _, _ => none
  | d + 1, v0, v1, v2, σ => (if v1 ≤ v2 then rCk (rNb (0 : Int32)) (some ((0 : Int32), σ)) else rCk (rIn v2 (rLen v0)) ((if (rGa σ v0 v2) = (44 : Int32) then mX9_hasSign_b31 σ else rCk (rIn v2 (rLen v0)) ((if (rGa σ v0 v2) = (34 : Int32) then mX9_hasSign_b31 σ else rCk (rIn v2 (rLen v0)) ((if (rGa σ v0 v2) = (10 : Int32) then mX9_hasSign_b31 σ else mX9_hasSign_l2 d v0 v1 (v2 + (1 : Int32)) σ)))))))
set_option maxHeartbeats 1000000 in
theorem rmX9_hasSign_l2 {X : GX} {p : Program} {l : Launch} {e : Env} {s : State} {m : MethodId} {args : Array Value} {below : List Frame} {meth : Method} {c : Code} {f : AH} {n : Nat} {r : Int32 × RS9} (C : CC X p l (RM 0 0 0) s m args meth c RX9 cX9_hasSign 3 (some .boolean)) : ∀ (d : Nat) (v0 : Nat) (v1 : Int32) (v2 : Int32) (σ : RS9) (_ : rIsA v0 = true) (_ : mX9_hasSign_l2 d v0 v1 v2 σ = some r), AW X p l e (RM 0 0 0) s m args below meth c 3 (ZM X below args s 0 0 (QMi f n r)) (rHm f σ) n 0 0 2 [some (.ref (rAid v0)), some (.int v1), some (.int v2)] [] := by
  intro d
  induction d with
  | zero =>
    intro v0 v1 v2 σ ia0 h
    exact nomatch (show (none : Option (Int32 × RS9)) = some r from h)
  | succ d ih =>
    intro v0 v1 v2 σ ia0 h
    have h : (if v1 ≤ v2 then rCk (rNb (0 : Int32)) (some ((0 : Int32), σ)) else rCk (rIn v2 (rLen v0)) ((if (rGa σ v0 v2) = (44 : Int32) then mX9_hasSign_b31 σ else rCk (rIn v2 (rLen v0)) ((if (rGa σ v0 v2) = (34 : Int32) then mX9_hasSign_b31 σ else rCk (rIn v2 (rLen v0)) ((if (rGa σ v0 v2) = (10 : Int32) then mX9_hasSign_b31 σ else mX9_hasSign_l2 d v0 v1 (v2 + (1 : Int32)) σ))))))) = some r := h
    refine aw_iload_n C dX9_hasSign_2 rfl ?_
    refine aw_iload_n C dX9_hasSign_3 rfl ?_
    refine aw_icmp_ge C 39 dX9_hasSign_4 (by decide) (fun q => ?_) (fun q => ?_)
    · rw [if_pos q] at h
      refine aw_iconst C 0 dX9_hasSign_39 ki_0 ?_
      obtain ⟨hb1, h⟩ := ck_some h
      cases h
      exact aw_iret C rfl (nb_nar hb1) dX9_hasSign_40 (Nat.le_refl _) (Nat.le_refl _) ⟨rfl, rfl, rfl⟩
    · rw [if_neg q] at h
      refine aw_ald_n C dX9_hasSign_7 rfl ?_
      refine aw_iload_n C dX9_hasSign_8 rfl ?_
      obtain ⟨hb2, h⟩ := ck_some h
      refine am_iald C (rGa σ v0 v2) ia0 (inb_vp hb2) rfl dX9_hasSign_9 ?_
      refine aw_bipush C 44 dX9_hasSign_10 kb_44 ?_
      refine aw_icmp_eq C 31 dX9_hasSign_12 (by decide) (fun q => ?_) (fun q => ?_)
      · rw [if_pos q] at h
        refine aw_fl [none, none, none] trivial ?_
        exact rmX9_hasSign_b31 C h
      · rw [if_neg q] at h
        refine aw_ald_n C dX9_hasSign_15 rfl ?_
        refine aw_iload_n C dX9_hasSign_16 rfl ?_
        obtain ⟨hb3, h⟩ := ck_some h
        refine am_iald C (rGa σ v0 v2) ia0 (inb_vp hb3) rfl dX9_hasSign_17 ?_
        refine aw_bipush C 34 dX9_hasSign_18 kb_34 ?_
        refine aw_icmp_eq C 31 dX9_hasSign_20 (by decide) (fun q => ?_) (fun q => ?_)
        · rw [if_pos q] at h
          refine aw_fl [none, none, none] trivial ?_
          exact rmX9_hasSign_b31 C h
        · rw [if_neg q] at h
          refine aw_ald_n C dX9_hasSign_23 rfl ?_
          refine aw_iload_n C dX9_hasSign_24 rfl ?_
          obtain ⟨hb4, h⟩ := ck_some h
          refine am_iald C (rGa σ v0 v2) ia0 (inb_vp hb4) rfl dX9_hasSign_25 ?_
          refine aw_bipush C 10 dX9_hasSign_26 kb_10 ?_
          refine aw_icmp_ne C 33 dX9_hasSign_28 (by decide) (fun q => ?_) (fun q => ?_)
          · rw [if_neg q] at h
            refine aw_iinc C (v2 + (1 : Int32)) dX9_hasSign_33 rfl (by rw [ki_1]) (by decide) rfl ?_
            refine aw_nl [some (.ref (rAid v0)), some (.int v1), some (.int (v2 + (1 : Int32)))] rfl ?_
            refine aw_goto C 2 dX9_hasSign_36 (by decide) ?_
            refine aw_fl [some (.ref (rAid v0)), some (.int v1), some (.int (v2 + (1 : Int32)))] ⟨rfl, ⟨rfl, ⟨rfl, trivial⟩⟩⟩ ?_
            exact ih v0 v1 (v2 + (1 : Int32)) σ ia0 h
          · rw [if_pos q] at h
            refine aw_fl [none, none, none] trivial ?_
            exact rmX9_hasSign_b31 C h
def mX9_hasSign (v0 : Nat) (v1 : Int32) (σ : RS9) : Option (Int32 × RS9) := mX9_hasSign_l2 rFU v0 v1 (0 : Int32) σ
set_option maxHeartbeats 1000000 in
theorem rmX9_hasSign {X : GX} {l : Launch} {f : AH} {n : Nat} {r : Int32 × RS9} {v0 : Nat} {v1 : Int32} {σ : RS9} (ia0 : rIsA v0 = true) (h : mX9_hasSign v0 v1 σ = some r) : AM X l yX9_hasSign cX9_hasSign 3 (some .boolean) 0 0 0 [.ref (rAid v0), .int v1] (rHm f σ) n (QMi f n r) := by
  have h : mX9_hasSign_l2 rFU v0 v1 (0 : Int32) σ = some r := h
  refine AM.of (by decide +kernel) rfl (Nat.le_of_ble_eq_true rfl) (fun p e s m args below meth c C _ => ?_)
  refine aw_nl [some (.ref (rAid v0)), some (.int v1), none] rfl ?_
  refine aw_iconst C 0 dX9_hasSign_0 ki_0 ?_
  refine aw_istore_n C dX9_hasSign_1 (by decide) rfl ?_
  refine aw_nl [some (.ref (rAid v0)), some (.int v1), some (.int (0 : Int32))] rfl ?_
  refine aw_fl [some (.ref (rAid v0)), some (.int v1), some (.int (0 : Int32))] ⟨rfl, ⟨rfl, ⟨rfl, trivial⟩⟩⟩ ?_
  exact rmX9_hasSign_l2 C rFU v0 v1 (0 : Int32) σ ia0 h
def mX9_plain (v1 : Nat) (v2 : Int32) (σ : RS9) : Option (Int32 × RS9) := rCk (rIn (σ.1 56) (rLen v1)) (some ((0 : Int32), (rSf (rSa σ v1 (σ.1 56) v2) 56 ((σ.1 56) + (1 : Int32)))))
set_option maxHeartbeats 1000000 in
theorem rmX9_plain {X : GX} {l : Launch} {f : AH} {n : Nat} {r : Int32 × RS9} {v1 : Nat} {v2 : Int32} {σ : RS9} (ia1 : rIsA v1 = true) (h : mX9_plain v1 v2 σ = some r) : AM X l yX9_plain cX9_plain 3 none 0 0 0 [.ref 181, .ref (rAid v1), .int v2] (rHm f σ) n (QMv f n r) := by
  have h : rCk (rIn (σ.1 56) (rLen v1)) (some ((0 : Int32), (rSf (rSa σ v1 (σ.1 56) v2) 56 ((σ.1 56) + (1 : Int32))))) = some r := h
  refine AM.of (by decide +kernel) rfl (Nat.le_of_ble_eq_true rfl) (fun p e s m args below meth c C _ => ?_)
  refine aw_nl [some (.ref 181), some (.ref (rAid v1)), some (.int v2)] rfl ?_
  refine aw_ald_n C dX9_plain_0 rfl ?_
  refine aw_ald_n C dX9_plain_1 rfl ?_
  refine aw_get C (v := .int (σ.1 56)) gf_X9_254 (hm_M f σ) rfl dX9_plain_2 ?_
  refine aw_iload_n C dX9_plain_5 rfl ?_
  obtain ⟨hb1, h⟩ := ck_some h
  refine am_iast C ia1 (inb_vp hb1) dX9_plain_6 ?_
  refine aw_ald_n C dX9_plain_7 rfl ?_
  refine aw_dup C dX9_plain_8 rfl ?_
  refine aw_get C (v := .int (σ.1 56)) gf_X9_254 (hm_M f (rSa σ v1 (σ.1 56) v2)) rfl dX9_plain_9 ?_
  refine aw_iconst C 1 dX9_plain_12 ki_1 ?_
  refine aw_iadd C dX9_plain_13 ?_
  refine am_put C gf_X9_254 nf9_56 rfl rfl dX9_plain_14 ?_
  cases h
  exact aw_vret C rfl dX9_plain_17 (Nat.le_refl _) (Nat.le_refl _) ⟨rfl, rfl, rfl⟩
def mX9_puts (v1 : Nat) (v2 : Int32) (v3 : Int32) (σ : RS9) : Option (Int32 × RS9) := rCk (rIn (σ.1 56) (rLen v1)) (rCk (rIn ((σ.1 56) + (1 : Int32)) (rLen v1)) (some ((0 : Int32), (rSf (rSa (rSa σ v1 (σ.1 56) v2) v1 ((σ.1 56) + (1 : Int32)) v3) 56 ((σ.1 56) + (2 : Int32))))))
set_option maxHeartbeats 1000000 in
theorem rmX9_puts {X : GX} {l : Launch} {f : AH} {n : Nat} {r : Int32 × RS9} {v1 : Nat} {v2 : Int32} {v3 : Int32} {σ : RS9} (ia1 : rIsA v1 = true) (h : mX9_puts v1 v2 v3 σ = some r) : AM X l yX9_puts cX9_puts 4 none 0 0 0 [.ref 181, .ref (rAid v1), .int v2, .int v3] (rHm f σ) n (QMv f n r) := by
  have h : rCk (rIn (σ.1 56) (rLen v1)) (rCk (rIn ((σ.1 56) + (1 : Int32)) (rLen v1)) (some ((0 : Int32), (rSf (rSa (rSa σ v1 (σ.1 56) v2) v1 ((σ.1 56) + (1 : Int32)) v3) 56 ((σ.1 56) + (2 : Int32)))))) = some r := h
  refine AM.of (by decide +kernel) rfl (Nat.le_of_ble_eq_true rfl) (fun p e s m args below meth c C _ => ?_)
  refine aw_nl [some (.ref 181), some (.ref (rAid v1)), some (.int v2), some (.int v3)] rfl ?_
  refine aw_ald_n C dX9_puts_0 rfl ?_
  refine aw_ald_n C dX9_puts_1 rfl ?_
  refine aw_get C (v := .int (σ.1 56)) gf_X9_254 (hm_M f σ) rfl dX9_puts_2 ?_
  refine aw_iload_n C dX9_puts_5 rfl ?_
  obtain ⟨hb1, h⟩ := ck_some h
  refine am_iast C ia1 (inb_vp hb1) dX9_puts_6 ?_
  refine aw_ald_n C dX9_puts_7 rfl ?_
  refine aw_ald_n C dX9_puts_8 rfl ?_
  refine aw_get C (v := .int (σ.1 56)) gf_X9_254 (hm_M f (rSa σ v1 (σ.1 56) v2)) rfl dX9_puts_9 ?_
  refine aw_iconst C 1 dX9_puts_12 ki_1 ?_
  refine aw_iadd C dX9_puts_13 ?_
  refine aw_iload_n C dX9_puts_14 rfl ?_
  obtain ⟨hb2, h⟩ := ck_some h
  refine am_iast C ia1 (inb_vp hb2) dX9_puts_15 ?_
  refine aw_ald_n C dX9_puts_16 rfl ?_
  refine aw_dup C dX9_puts_17 rfl ?_
  refine aw_get C (v := .int (σ.1 56)) gf_X9_254 (hm_M f (rSa (rSa σ v1 (σ.1 56) v2) v1 ((σ.1 56) + (1 : Int32)) v3)) rfl dX9_puts_18 ?_
  refine aw_iconst C 2 dX9_puts_21 ki_2 ?_
  refine aw_iadd C dX9_puts_22 ?_
  refine am_put C gf_X9_254 nf9_56 rfl rfl dX9_puts_23 ?_
  cases h
  exact aw_vret C rfl dX9_puts_26 (Nat.le_refl _) (Nat.le_refl _) ⟨rfl, rfl, rfl⟩
def mX9_escapesBack_b85 (σ : RS9) : Option (Int32 × RS9) := some ((0 : Int32), σ)
set_option maxHeartbeats 1000000 in
theorem rmX9_escapesBack_b85 {X : GX} {p : Program} {l : Launch} {e : Env} {s : State} {m : MethodId} {args : Array Value} {below : List Frame} {meth : Method} {c : Code} {f : AH} {n : Nat} {r : Int32 × RS9} {σ : RS9} (C : CC X p l (RM 1 0 0) s m args meth c RX9 cX9_escapesBack 5 none) (h : mX9_escapesBack_b85 σ = some r) : AW X p l e (RM 1 0 0) s m args below meth c 5 (ZM X below args s 0 0 (QMv f n r)) (rHm f σ) n 0 0 85 [none, none, none, none, none] [] := by
  have h : some ((0 : Int32), σ) = some r := h
  cases h
  exact aw_vret C rfl dX9_escapesBack_85 (Nat.le_refl _) (Nat.le_refl _) ⟨rfl, rfl, rfl⟩
def mX9_escapesBack_b79 (v2 : Nat) (v3 : Int32) (σ : RS9) : Option (Int32 × RS9) := ((mX9_plain v2 v3 σ).bind fun r1 => mX9_escapesBack_b85 r1.2)
set_option maxHeartbeats 1000000 in
theorem rmX9_escapesBack_b79 {X : GX} {p : Program} {l : Launch} {e : Env} {s : State} {m : MethodId} {args : Array Value} {below : List Frame} {meth : Method} {c : Code} {f : AH} {n : Nat} {r : Int32 × RS9} {v2 : Nat} {v3 : Int32} {σ : RS9} (C : CC X p l (RM 1 0 0) s m args meth c RX9 cX9_escapesBack 5 none) (ia2 : rIsA v2 = true) (h : mX9_escapesBack_b79 v2 v3 σ = some r) : AW X p l e (RM 1 0 0) s m args below meth c 5 (ZM X below args s 0 0 (QMv f n r)) (rHm f σ) n 0 0 79 [some (.ref 181), none, some (.ref (rAid v2)), some (.int v3), none] [] := by
  have h : ((mX9_plain v2 v3 σ).bind fun r1 => mX9_escapesBack_b85 r1.2) = some r := h
  refine aw_ald_n C dX9_escapesBack_79 rfl ?_
  refine aw_ald_n C dX9_escapesBack_80 rfl ?_
  refine aw_iload_n C dX9_escapesBack_81 rfl ?_
  obtain ⟨r1, h1, h⟩ := Option.bind_eq_some_iff.mp h
  refine aw_callV C (ci := 9) (b := 181) [.ref (rAid v2), .int v3] mv_X9_261 rfl rfl (hm_M f σ) (rmX9_plain ia2 h1) rfl dX9_escapesBack_82 (Nat.le_of_ble_eq_true rfl) (Nat.le_of_ble_eq_true rfl) rfl (Nat.le_of_ble_eq_true rfl) (Nat.le_of_ble_eq_true rfl) (Nat.le_of_ble_eq_true rfl) (fun v9 f9 n9 hh => ?_)
  obtain ⟨rfl, rfl, rfl⟩ := hh
  refine aw_fl [none, none, none, none, none] trivial ?_
  exact rmX9_escapesBack_b85 C h
def mX9_escapesBack_b68 (v2 : Nat) (v3 : Int32) (σ : RS9) : Option (Int32 × RS9) := ((mX9_puts v2 (92 : Int32) v3 σ).bind fun r1 => mX9_escapesBack_b85 r1.2)
set_option maxHeartbeats 1000000 in
theorem rmX9_escapesBack_b68 {X : GX} {p : Program} {l : Launch} {e : Env} {s : State} {m : MethodId} {args : Array Value} {below : List Frame} {meth : Method} {c : Code} {f : AH} {n : Nat} {r : Int32 × RS9} {v2 : Nat} {v3 : Int32} {σ : RS9} (C : CC X p l (RM 1 0 0) s m args meth c RX9 cX9_escapesBack 5 none) (ia2 : rIsA v2 = true) (h : mX9_escapesBack_b68 v2 v3 σ = some r) : AW X p l e (RM 1 0 0) s m args below meth c 5 (ZM X below args s 0 0 (QMv f n r)) (rHm f σ) n 0 0 68 [some (.ref 181), none, some (.ref (rAid v2)), some (.int v3), none] [] := by
  have h : ((mX9_puts v2 (92 : Int32) v3 σ).bind fun r1 => mX9_escapesBack_b85 r1.2) = some r := h
  refine aw_ald_n C dX9_escapesBack_68 rfl ?_
  refine aw_ald_n C dX9_escapesBack_69 rfl ?_
  refine aw_bipush C 92 dX9_escapesBack_70 kb_92 ?_
  refine aw_iload_n C dX9_escapesBack_72 rfl ?_
  obtain ⟨r1, h1, h⟩ := Option.bind_eq_some_iff.mp h
  refine aw_callV C (ci := 9) (b := 181) [.ref (rAid v2), .int (92 : Int32), .int v3] mv_X9_265 rfl rfl (hm_M f σ) (rmX9_puts ia2 h1) rfl dX9_escapesBack_73 (Nat.le_of_ble_eq_true rfl) (Nat.le_of_ble_eq_true rfl) rfl (Nat.le_of_ble_eq_true rfl) (Nat.le_of_ble_eq_true rfl) (Nat.le_of_ble_eq_true rfl) (fun v9 f9 n9 hh => ?_)
  obtain ⟨rfl, rfl, rfl⟩ := hh
  refine aw_goto C 85 dX9_escapesBack_76 (by decide) ?_
  refine aw_fl [none, none, none, none, none] trivial ?_
  exact rmX9_escapesBack_b85 C h
def mX9_escapesBack_b53 (v1 : Int32) (v2 : Nat) (v3 : Int32) (v4 : Int32) (σ : RS9) : Option (Int32 × RS9) := (if v3 = (32 : Int32) then (if v1 = (0 : Int32) then (if v4 = (0 : Int32) then mX9_escapesBack_b79 v2 v3 σ else mX9_escapesBack_b68 v2 v3 σ) else mX9_escapesBack_b79 v2 v3 σ) else mX9_escapesBack_b79 v2 v3 σ)
set_option maxHeartbeats 1000000 in
theorem rmX9_escapesBack_b53 {X : GX} {p : Program} {l : Launch} {e : Env} {s : State} {m : MethodId} {args : Array Value} {below : List Frame} {meth : Method} {c : Code} {f : AH} {n : Nat} {r : Int32 × RS9} {v1 : Int32} {v2 : Nat} {v3 : Int32} {v4 : Int32} {σ : RS9} (C : CC X p l (RM 1 0 0) s m args meth c RX9 cX9_escapesBack 5 none) (ia2 : rIsA v2 = true) (h : mX9_escapesBack_b53 v1 v2 v3 v4 σ = some r) : AW X p l e (RM 1 0 0) s m args below meth c 5 (ZM X below args s 0 0 (QMv f n r)) (rHm f σ) n 0 0 53 [some (.ref 181), some (.int v1), some (.ref (rAid v2)), some (.int v3), some (.int v4)] [] := by
  have h : (if v3 = (32 : Int32) then (if v1 = (0 : Int32) then (if v4 = (0 : Int32) then mX9_escapesBack_b79 v2 v3 σ else mX9_escapesBack_b68 v2 v3 σ) else mX9_escapesBack_b79 v2 v3 σ) else mX9_escapesBack_b79 v2 v3 σ) = some r := h
  refine aw_iload_n C dX9_escapesBack_53 rfl ?_
  refine aw_bipush C 32 dX9_escapesBack_54 kb_32 ?_
  refine aw_icmp_ne C 79 dX9_escapesBack_56 (by decide) (fun q => ?_) (fun q => ?_)
  · rw [if_neg q] at h
    refine aw_fl [some (.ref 181), none, some (.ref (rAid v2)), some (.int v3), none] ⟨rfl, ⟨rfl, ⟨rfl, trivial⟩⟩⟩ ?_
    exact rmX9_escapesBack_b79 C ia2 h
  · rw [if_pos q] at h
    refine aw_iload_n C dX9_escapesBack_59 rfl ?_
    refine aw_if_ne C 79 dX9_escapesBack_60 (by decide) (fun q => ?_) (fun q => ?_)
    · rw [if_neg q] at h
      refine aw_fl [some (.ref 181), none, some (.ref (rAid v2)), some (.int v3), none] ⟨rfl, ⟨rfl, ⟨rfl, trivial⟩⟩⟩ ?_
      exact rmX9_escapesBack_b79 C ia2 h
    · rw [if_pos q] at h
      refine aw_iload C dX9_escapesBack_63 rfl ?_
      refine aw_if_eq C 79 dX9_escapesBack_65 (by decide) (fun q => ?_) (fun q => ?_)
      · rw [if_pos q] at h
        refine aw_fl [some (.ref 181), none, some (.ref (rAid v2)), some (.int v3), none] ⟨rfl, ⟨rfl, ⟨rfl, trivial⟩⟩⟩ ?_
        exact rmX9_escapesBack_b79 C ia2 h
      · rw [if_neg q] at h
        refine aw_fl [some (.ref 181), none, some (.ref (rAid v2)), some (.int v3), none] ⟨rfl, ⟨rfl, ⟨rfl, trivial⟩⟩⟩ ?_
        exact rmX9_escapesBack_b68 C ia2 h
def mX9_escapesBack (v1 : Int32) (v2 : Nat) (v3 : Int32) (v4 : Int32) (σ : RS9) : Option (Int32 × RS9) := (if v3 = (10 : Int32) then ((mX9_puts v2 (92 : Int32) (110 : Int32) σ).bind fun r2 => mX9_escapesBack_b85 r2.2) else (if v3 = (9 : Int32) then ((mX9_puts v2 (92 : Int32) (116 : Int32) σ).bind fun r1 => mX9_escapesBack_b85 r1.2) else (if v3 = (92 : Int32) then mX9_escapesBack_b68 v2 v3 σ else (if v3 = (34 : Int32) then (if v1 = (3 : Int32) then mX9_escapesBack_b68 v2 v3 σ else mX9_escapesBack_b53 v1 v2 v3 v4 σ) else mX9_escapesBack_b53 v1 v2 v3 v4 σ))))
set_option maxHeartbeats 1000000 in
theorem rmX9_escapesBack {X : GX} {l : Launch} {f : AH} {n : Nat} {r : Int32 × RS9} {v1 : Int32} {v2 : Nat} {v3 : Int32} {v4 : Int32} {σ : RS9} (ia2 : rIsA v2 = true) (h : mX9_escapesBack v1 v2 v3 v4 σ = some r) : AM X l yX9_escapesBack cX9_escapesBack 5 none 1 0 0 [.ref 181, .int v1, .ref (rAid v2), .int v3, .int v4] (rHm f σ) n (QMv f n r) := by
  have h : (if v3 = (10 : Int32) then ((mX9_puts v2 (92 : Int32) (110 : Int32) σ).bind fun r2 => mX9_escapesBack_b85 r2.2) else (if v3 = (9 : Int32) then ((mX9_puts v2 (92 : Int32) (116 : Int32) σ).bind fun r1 => mX9_escapesBack_b85 r1.2) else (if v3 = (92 : Int32) then mX9_escapesBack_b68 v2 v3 σ else (if v3 = (34 : Int32) then (if v1 = (3 : Int32) then mX9_escapesBack_b68 v2 v3 σ else mX9_escapesBack_b53 v1 v2 v3 v4 σ) else mX9_escapesBack_b53 v1 v2 v3 v4 σ)))) = some r := h
  refine AM.of (by decide +kernel) rfl (Nat.le_of_ble_eq_true rfl) (fun p e s m args below meth c C _ => ?_)
  refine aw_nl [some (.ref 181), some (.int v1), some (.ref (rAid v2)), some (.int v3), some (.int v4)] rfl ?_
  refine aw_iload_n C dX9_escapesBack_0 rfl ?_
  refine aw_bipush C 10 dX9_escapesBack_1 kb_10 ?_
  refine aw_icmp_ne C 18 dX9_escapesBack_3 (by decide) (fun q => ?_) (fun q => ?_)
  · rw [if_neg q] at h
    refine aw_iload_n C dX9_escapesBack_18 rfl ?_
    refine aw_bipush C 9 dX9_escapesBack_19 kb_9 ?_
    refine aw_icmp_ne C 36 dX9_escapesBack_21 (by decide) (fun q => ?_) (fun q => ?_)
    · rw [if_neg q] at h
      refine aw_iload_n C dX9_escapesBack_36 rfl ?_
      refine aw_bipush C 92 dX9_escapesBack_37 kb_92 ?_
      refine aw_icmp_eq C 68 dX9_escapesBack_39 (by decide) (fun q => ?_) (fun q => ?_)
      · rw [if_pos q] at h
        refine aw_fl [some (.ref 181), none, some (.ref (rAid v2)), some (.int v3), none] ⟨rfl, ⟨rfl, ⟨rfl, trivial⟩⟩⟩ ?_
        exact rmX9_escapesBack_b68 C ia2 h
      · rw [if_neg q] at h
        refine aw_iload_n C dX9_escapesBack_42 rfl ?_
        refine aw_bipush C 34 dX9_escapesBack_43 kb_34 ?_
        refine aw_icmp_ne C 53 dX9_escapesBack_45 (by decide) (fun q => ?_) (fun q => ?_)
        · rw [if_neg q] at h
          refine aw_fl [some (.ref 181), some (.int v1), some (.ref (rAid v2)), some (.int v3), some (.int v4)] ⟨rfl, ⟨rfl, ⟨rfl, ⟨rfl, ⟨rfl, trivial⟩⟩⟩⟩⟩ ?_
          exact rmX9_escapesBack_b53 C ia2 h
        · rw [if_pos q] at h
          refine aw_iload_n C dX9_escapesBack_48 rfl ?_
          refine aw_iconst C 3 dX9_escapesBack_49 ki_3 ?_
          refine aw_icmp_eq C 68 dX9_escapesBack_50 (by decide) (fun q => ?_) (fun q => ?_)
          · rw [if_pos q] at h
            refine aw_fl [some (.ref 181), none, some (.ref (rAid v2)), some (.int v3), none] ⟨rfl, ⟨rfl, ⟨rfl, trivial⟩⟩⟩ ?_
            exact rmX9_escapesBack_b68 C ia2 h
          · rw [if_neg q] at h
            refine aw_fl [some (.ref 181), some (.int v1), some (.ref (rAid v2)), some (.int v3), some (.int v4)] ⟨rfl, ⟨rfl, ⟨rfl, ⟨rfl, ⟨rfl, trivial⟩⟩⟩⟩⟩ ?_
            exact rmX9_escapesBack_b53 C ia2 h
    · rw [if_pos q] at h
      refine aw_ald_n C dX9_escapesBack_24 rfl ?_
      refine aw_ald_n C dX9_escapesBack_25 rfl ?_
      refine aw_bipush C 92 dX9_escapesBack_26 kb_92 ?_
      refine aw_bipush C 116 dX9_escapesBack_28 kb_116 ?_
      obtain ⟨r1, h1, h⟩ := Option.bind_eq_some_iff.mp h
      refine aw_callV C (ci := 9) (b := 181) [.ref (rAid v2), .int (92 : Int32), .int (116 : Int32)] mv_X9_265 rfl rfl (hm_M f σ) (rmX9_puts ia2 h1) rfl dX9_escapesBack_30 (Nat.le_of_ble_eq_true rfl) (Nat.le_of_ble_eq_true rfl) rfl (Nat.le_of_ble_eq_true rfl) (Nat.le_of_ble_eq_true rfl) (Nat.le_of_ble_eq_true rfl) (fun v9 f9 n9 hh => ?_)
      obtain ⟨rfl, rfl, rfl⟩ := hh
      refine aw_goto C 85 dX9_escapesBack_33 (by decide) ?_
      refine aw_fl [none, none, none, none, none] trivial ?_
      exact rmX9_escapesBack_b85 C h
  · rw [if_pos q] at h
    refine aw_ald_n C dX9_escapesBack_6 rfl ?_
    refine aw_ald_n C dX9_escapesBack_7 rfl ?_
    refine aw_bipush C 92 dX9_escapesBack_8 kb_92 ?_
    refine aw_bipush C 110 dX9_escapesBack_10 kb_110 ?_
    obtain ⟨r2, h2, h⟩ := Option.bind_eq_some_iff.mp h
    refine aw_callV C (ci := 9) (b := 181) [.ref (rAid v2), .int (92 : Int32), .int (110 : Int32)] mv_X9_265 rfl rfl (hm_M f σ) (rmX9_puts ia2 h2) rfl dX9_escapesBack_12 (Nat.le_of_ble_eq_true rfl) (Nat.le_of_ble_eq_true rfl) rfl (Nat.le_of_ble_eq_true rfl) (Nat.le_of_ble_eq_true rfl) (Nat.le_of_ble_eq_true rfl) (fun v9 f9 n9 hh => ?_)
    obtain ⟨rfl, rfl, rfl⟩ := hh
    refine aw_goto C 85 dX9_escapesBack_15 (by decide) ?_
    refine aw_fl [none, none, none, none, none] trivial ?_
    exact rmX9_escapesBack_b85 C h
def mX9_areLike_b82 (v3 : Int32) (σ : RS9) : Option (Int32 × RS9) := rCk (rNb v3) (some (v3, σ))
set_option maxHeartbeats 1000000 in
theorem rmX9_areLike_b82 {X : GX} {p : Program} {l : Launch} {e : Env} {s : State} {m : MethodId} {args : Array Value} {below : List Frame} {meth : Method} {c : Code} {f : AH} {n : Nat} {r : Int32 × RS9} {v3 : Int32} {σ : RS9} (C : CC X p l (RM 0 0 0) s m args meth c RX9 cX9_areLike 5 (some .boolean)) (h : mX9_areLike_b82 v3 σ = some r) : AW X p l e (RM 0 0 0) s m args below meth c 5 (ZM X below args s 0 0 (QMi f n r)) (rHm f σ) n 0 0 82 [none, none, none, some (.int v3), none] [] := by
  have h : rCk (rNb v3) (some (v3, σ)) = some r := h
  refine aw_iload_n C dX9_areLike_82 rfl ?_
  obtain ⟨hb1, h⟩ := ck_some h
  cases h
  exact aw_iret C rfl (nb_nar hb1) dX9_areLike_83 (Nat.le_refl _) (Nat.le_refl _) ⟨rfl, rfl, rfl⟩
def mX9_areLike_b75 (rec24 : Int32 → Int32 → Int32 → Int32 → RS9 → Option (Int32 × RS9)) (v1 : Int32) (v2 : Int32) (v4 : Int32) (s0 : Int32) (σ : RS9) : Option (Int32 × RS9) := rec24 v1 v2 s0 (v4 + (1 : Int32)) σ
set_option maxHeartbeats 1000000 in
theorem rmX9_areLike_b75 {X : GX} {p : Program} {l : Launch} {e : Env} {s : State} {m : MethodId} {args : Array Value} {below : List Frame} {meth : Method} {c : Code} {f : AH} {n : Nat} {r : Int32 × RS9} {rec24 : Int32 → Int32 → Int32 → Int32 → RS9 → Option (Int32 × RS9)} {v1 : Int32} {v2 : Int32} {v4 : Int32} {s0 : Int32} {σ : RS9} (C : CC X p l (RM 0 0 0) s m args meth c RX9 cX9_areLike 5 (some .boolean)) (Hr24 : ∀ (v1 : Int32) (v2 : Int32) (v3 : Int32) (v4 : Int32) (σ : RS9), rec24 v1 v2 v3 v4 σ = some r → AW X p l e (RM 0 0 0) s m args below meth c 5 (ZM X below args s 0 0 (QMi f n r)) (rHm f σ) n 0 0 24 [some (.ref 181), some (.int v1), some (.int v2), some (.int v3), some (.int v4)] []) (h : mX9_areLike_b75 rec24 v1 v2 v4 s0 σ = some r) : AW X p l e (RM 0 0 0) s m args below meth c 5 (ZM X below args s 0 0 (QMi f n r)) (rHm f σ) n 0 0 75 [some (.ref 181), some (.int v1), some (.int v2), none, some (.int v4)] [.int s0] := by
  have h : rec24 v1 v2 s0 (v4 + (1 : Int32)) σ = some r := h
  refine aw_istore_n C dX9_areLike_75 (by decide) rfl ?_
  refine aw_nl [some (.ref 181), some (.int v1), some (.int v2), some (.int s0), some (.int v4)] rfl ?_
  refine aw_iinc C (v4 + (1 : Int32)) dX9_areLike_76 rfl (by rw [ki_1]) (by decide) rfl ?_
  refine aw_nl [some (.ref 181), some (.int v1), some (.int v2), some (.int s0), some (.int (v4 + (1 : Int32)))] rfl ?_
  refine aw_goto C 24 dX9_areLike_79 (by decide) ?_
  refine aw_fl [some (.ref 181), some (.int v1), some (.int v2), some (.int s0), some (.int (v4 + (1 : Int32)))] ⟨rfl, ⟨rfl, ⟨rfl, ⟨rfl, ⟨rfl, trivial⟩⟩⟩⟩⟩ ?_
  exact Hr24 v1 v2 s0 (v4 + (1 : Int32)) σ h
def mX9_areLike_l24 : Nat → Int32 → Int32 → Int32 → Int32 → RS9 → Option (Int32 × RS9)
  | 0, _, _, _, _, _ => none
  | d + 1, v1, v2, v3, v4, σ => rCk (rIn v1 (rLen 42)) ((if (rGa σ 42 v1) ≤ v4 then mX9_areLike_b82 v3 σ else (if v3 = (0 : Int32) then mX9_areLike_b82 v3 σ else rCk (rIn v1 (rLen 41)) (rCk (rIn ((rGa σ 41 v1) + v4) (rLen 43)) (rCk (rIn v2 (rLen 41)) (rCk (rIn ((rGa σ 41 v2) + v4) (rLen 43)) ((if (rGa σ 43 ((rGa σ 41 v1) + v4)) = (rGa σ 43 ((rGa σ 41 v2) + v4)) then mX9_areLike_b75 (fun v1 v2 v3 v4 σ => mX9_areLike_l24 d v1 v2 v3 v4 σ) v1 v2 v4 (1 : Int32) σ else mX9_areLike_b75 (fun v1 v2 v3 v4 σ => mX9_areLike_l24 d v1 v2 v3 v4 σ) v1 v2 v4 (0 : Int32) σ))))))))
set_option maxHeartbeats 1000000 in
theorem rmX9_areLike_l24 {X : GX} {p : Program} {l : Launch} {e : Env} {s : State} {m : MethodId} {args : Array Value} {below : List Frame} {meth : Method} {c : Code} {f : AH} {n : Nat} {r : Int32 × RS9} (C : CC X p l (RM 0 0 0) s m args meth c RX9 cX9_areLike 5 (some .boolean)) : ∀ (d : Nat) (v1 : Int32) (v2 : Int32) (v3 : Int32) (v4 : Int32) (σ : RS9) (_ : mX9_areLike_l24 d v1 v2 v3 v4 σ = some r), AW X p l e (RM 0 0 0) s m args below meth c 5 (ZM X below args s 0 0 (QMi f n r)) (rHm f σ) n 0 0 24 [some (.ref 181), some (.int v1), some (.int v2), some (.int v3), some (.int v4)] [] := by
  intro d
  induction d with
  | zero =>
    intro v1 v2 v3 v4 σ h
    exact nomatch (show (none : Option (Int32 × RS9)) = some r from h)
  | succ d ih =>
    intro v1 v2 v3 v4 σ h
    have h : rCk (rIn v1 (rLen 42)) ((if (rGa σ 42 v1) ≤ v4 then mX9_areLike_b82 v3 σ else (if v3 = (0 : Int32) then mX9_areLike_b82 v3 σ else rCk (rIn v1 (rLen 41)) (rCk (rIn ((rGa σ 41 v1) + v4) (rLen 43)) (rCk (rIn v2 (rLen 41)) (rCk (rIn ((rGa σ 41 v2) + v4) (rLen 43)) ((if (rGa σ 43 ((rGa σ 41 v1) + v4)) = (rGa σ 43 ((rGa σ 41 v2) + v4)) then mX9_areLike_b75 (fun v1 v2 v3 v4 σ => mX9_areLike_l24 d v1 v2 v3 v4 σ) v1 v2 v4 (1 : Int32) σ else mX9_areLike_b75 (fun v1 v2 v3 v4 σ => mX9_areLike_l24 d v1 v2 v3 v4 σ) v1 v2 v4 (0 : Int32) σ)))))))) = some r := h
    refine aw_iload C dX9_areLike_24 rfl ?_
    refine aw_ald_n C dX9_areLike_26 rfl ?_
    refine aw_get C (v := .ref (rAid 42)) gf_X9_105 (hm_M f σ) rfl dX9_areLike_27 ?_
    refine aw_iload_n C dX9_areLike_30 rfl ?_
    obtain ⟨hb1, h⟩ := ck_some h
    refine am_iald C (rGa σ 42 v1) rfl (inb_vp hb1) rfl dX9_areLike_31 ?_
    refine aw_icmp_ge C 82 dX9_areLike_32 (by decide) (fun q => ?_) (fun q => ?_)
    · rw [if_pos q] at h
      refine aw_fl [none, none, none, some (.int v3), none] ⟨rfl, trivial⟩ ?_
      exact rmX9_areLike_b82 C h
    · rw [if_neg q] at h
      refine aw_iload_n C dX9_areLike_35 rfl ?_
      refine aw_if_eq C 82 dX9_areLike_36 (by decide) (fun q => ?_) (fun q => ?_)
      · rw [if_pos q] at h
        refine aw_fl [none, none, none, some (.int v3), none] ⟨rfl, trivial⟩ ?_
        exact rmX9_areLike_b82 C h
      · rw [if_neg q] at h
        refine aw_ald_n C dX9_areLike_39 rfl ?_
        refine aw_get C (v := .ref (rAid 43)) gf_X9_108 (hm_M f σ) rfl dX9_areLike_40 ?_
        refine aw_ald_n C dX9_areLike_43 rfl ?_
        refine aw_get C (v := .ref (rAid 41)) gf_X9_102 (hm_M f σ) rfl dX9_areLike_44 ?_
        refine aw_iload_n C dX9_areLike_47 rfl ?_
        obtain ⟨hb2, h⟩ := ck_some h
        refine am_iald C (rGa σ 41 v1) rfl (inb_vp hb2) rfl dX9_areLike_48 ?_
        refine aw_iload C dX9_areLike_49 rfl ?_
        refine aw_iadd C dX9_areLike_51 ?_
        obtain ⟨hb3, h⟩ := ck_some h
        refine am_iald C (rGa σ 43 ((rGa σ 41 v1) + v4)) rfl (inb_vp hb3) rfl dX9_areLike_52 ?_
        refine aw_ald_n C dX9_areLike_53 rfl ?_
        refine aw_get C (v := .ref (rAid 43)) gf_X9_108 (hm_M f σ) rfl dX9_areLike_54 ?_
        refine aw_ald_n C dX9_areLike_57 rfl ?_
        refine aw_get C (v := .ref (rAid 41)) gf_X9_102 (hm_M f σ) rfl dX9_areLike_58 ?_
        refine aw_iload_n C dX9_areLike_61 rfl ?_
        obtain ⟨hb4, h⟩ := ck_some h
        refine am_iald C (rGa σ 41 v2) rfl (inb_vp hb4) rfl dX9_areLike_62 ?_
        refine aw_iload C dX9_areLike_63 rfl ?_
        refine aw_iadd C dX9_areLike_65 ?_
        obtain ⟨hb5, h⟩ := ck_some h
        refine am_iald C (rGa σ 43 ((rGa σ 41 v2) + v4)) rfl (inb_vp hb5) rfl dX9_areLike_66 ?_
        refine aw_icmp_ne C 74 dX9_areLike_67 (by decide) (fun q => ?_) (fun q => ?_)
        · rw [if_neg q] at h
          refine aw_iconst C 0 dX9_areLike_74 ki_0 ?_
          refine aw_fl [some (.ref 181), some (.int v1), some (.int v2), none, some (.int v4)] ⟨rfl, ⟨rfl, ⟨rfl, ⟨rfl, trivial⟩⟩⟩⟩ ?_
          exact rmX9_areLike_b75 C (fun v1 v2 v3 v4 σ h => ih v1 v2 v3 v4 σ h) h
        · rw [if_pos q] at h
          refine aw_iconst C 1 dX9_areLike_70 ki_1 ?_
          refine aw_goto C 75 dX9_areLike_71 (by decide) ?_
          refine aw_fl [some (.ref 181), some (.int v1), some (.int v2), none, some (.int v4)] ⟨rfl, ⟨rfl, ⟨rfl, ⟨rfl, trivial⟩⟩⟩⟩ ?_
          exact rmX9_areLike_b75 C (fun v1 v2 v3 v4 σ h => ih v1 v2 v3 v4 σ h) h
def mX9_areLike_b20 (v1 : Int32) (v2 : Int32) (s0 : Int32) (σ : RS9) : Option (Int32 × RS9) := mX9_areLike_l24 rFU v1 v2 s0 (0 : Int32) σ
set_option maxHeartbeats 1000000 in
theorem rmX9_areLike_b20 {X : GX} {p : Program} {l : Launch} {e : Env} {s : State} {m : MethodId} {args : Array Value} {below : List Frame} {meth : Method} {c : Code} {f : AH} {n : Nat} {r : Int32 × RS9} {v1 : Int32} {v2 : Int32} {s0 : Int32} {σ : RS9} (C : CC X p l (RM 0 0 0) s m args meth c RX9 cX9_areLike 5 (some .boolean)) (h : mX9_areLike_b20 v1 v2 s0 σ = some r) : AW X p l e (RM 0 0 0) s m args below meth c 5 (ZM X below args s 0 0 (QMi f n r)) (rHm f σ) n 0 0 20 [some (.ref 181), some (.int v1), some (.int v2), none, none] [.int s0] := by
  have h : mX9_areLike_l24 rFU v1 v2 s0 (0 : Int32) σ = some r := h
  refine aw_istore_n C dX9_areLike_20 (by decide) rfl ?_
  refine aw_nl [some (.ref 181), some (.int v1), some (.int v2), some (.int s0), none] rfl ?_
  refine aw_iconst C 0 dX9_areLike_21 ki_0 ?_
  refine aw_istore C dX9_areLike_22 (by decide) rfl ?_
  refine aw_nl [some (.ref 181), some (.int v1), some (.int v2), some (.int s0), some (.int (0 : Int32))] rfl ?_
  refine aw_fl [some (.ref 181), some (.int v1), some (.int v2), some (.int s0), some (.int (0 : Int32))] ⟨rfl, ⟨rfl, ⟨rfl, ⟨rfl, ⟨rfl, trivial⟩⟩⟩⟩⟩ ?_
  exact rmX9_areLike_l24 C rFU v1 v2 s0 (0 : Int32) σ h
def mX9_areLike (v1 : Int32) (v2 : Int32) (σ : RS9) : Option (Int32 × RS9) := rCk (rIn v1 (rLen 42)) (rCk (rIn v2 (rLen 42)) ((if (rGa σ 42 v1) = (rGa σ 42 v2) then mX9_areLike_b20 v1 v2 (1 : Int32) σ else mX9_areLike_b20 v1 v2 (0 : Int32) σ)))
set_option maxHeartbeats 1000000 in
theorem rmX9_areLike {X : GX} {l : Launch} {f : AH} {n : Nat} {r : Int32 × RS9} {v1 : Int32} {v2 : Int32} {σ : RS9} (h : mX9_areLike v1 v2 σ = some r) : AM X l yX9_areLike cX9_areLike 5 (some .boolean) 0 0 0 [.ref 181, .int v1, .int v2] (rHm f σ) n (QMi f n r) := by
  have h : rCk (rIn v1 (rLen 42)) (rCk (rIn v2 (rLen 42)) ((if (rGa σ 42 v1) = (rGa σ 42 v2) then mX9_areLike_b20 v1 v2 (1 : Int32) σ else mX9_areLike_b20 v1 v2 (0 : Int32) σ))) = some r := h
  refine AM.of (by decide +kernel) rfl (Nat.le_of_ble_eq_true rfl) (fun p e s m args below meth c C _ => ?_)
  refine aw_nl [some (.ref 181), some (.int v1), some (.int v2), none, none] rfl ?_
  refine aw_ald_n C dX9_areLike_0 rfl ?_
  refine aw_get C (v := .ref (rAid 42)) gf_X9_105 (hm_M f σ) rfl dX9_areLike_1 ?_
  refine aw_iload_n C dX9_areLike_4 rfl ?_
  obtain ⟨hb1, h⟩ := ck_some h
  refine am_iald C (rGa σ 42 v1) rfl (inb_vp hb1) rfl dX9_areLike_5 ?_
  refine aw_ald_n C dX9_areLike_6 rfl ?_
  refine aw_get C (v := .ref (rAid 42)) gf_X9_105 (hm_M f σ) rfl dX9_areLike_7 ?_
  refine aw_iload_n C dX9_areLike_10 rfl ?_
  obtain ⟨hb2, h⟩ := ck_some h
  refine am_iald C (rGa σ 42 v2) rfl (inb_vp hb2) rfl dX9_areLike_11 ?_
  refine aw_icmp_ne C 19 dX9_areLike_12 (by decide) (fun q => ?_) (fun q => ?_)
  · rw [if_neg q] at h
    refine aw_iconst C 0 dX9_areLike_19 ki_0 ?_
    refine aw_fl [some (.ref 181), some (.int v1), some (.int v2), none, none] ⟨rfl, ⟨rfl, ⟨rfl, trivial⟩⟩⟩ ?_
    exact rmX9_areLike_b20 C h
  · rw [if_pos q] at h
    refine aw_iconst C 1 dX9_areLike_15 ki_1 ?_
    refine aw_goto C 20 dX9_areLike_16 (by decide) ?_
    refine aw_fl [some (.ref 181), some (.int v1), some (.int v2), none, none] ⟨rfl, ⟨rfl, ⟨rfl, trivial⟩⟩⟩ ?_
    exact rmX9_areLike_b20 C h
def mX9_tells_l16 : Nat → Int32 → Int32 → Int32 → RS9 → Option (Int32 × RS9)
  | 0, _, _, _, _ => none
  | d + 1, v1, v2, v3, σ => (if v2 ≤ v3 then some ((0 : Int32), σ) else rCk (rIn v3 (rLen 53)) (rCk (rIn ((((443 : Int32) + ((61 : Int32) * v1)) + (1 : Int32)) + v3) (rLen 1)) (mX9_tells_l16 d v1 v2 (v3 + (1 : Int32)) (rSa σ 1 ((((443 : Int32) + ((61 : Int32) * v1)) + (1 : Int32)) + v3) (rGa σ 53 v3)))))
set_option maxHeartbeats 1000000 in
theorem rmX9_tells_l16 {X : GX} {p : Program} {l : Launch} {e : Env} {s : State} {m : MethodId} {args : Array Value} {below : List Frame} {meth : Method} {c : Code} {f : AH} {n : Nat} {r : Int32 × RS9} (C : CC X p l (RM 0 0 0) s m args meth c RX9 cX9_tells 4 none) : ∀ (d : Nat) (v1 : Int32) (v2 : Int32) (v3 : Int32) (σ : RS9) (_ : mX9_tells_l16 d v1 v2 v3 σ = some r), AW X p l e (RM 0 0 0) s m args below meth c 4 (ZM X below args s 0 0 (QMv f n r)) (rHm f σ) n 0 0 16 [some (.ref 181), some (.int v1), some (.int v2), some (.int v3)] [] := by
  intro d
  induction d with
  | zero =>
    intro v1 v2 v3 σ h
    exact nomatch (show (none : Option (Int32 × RS9)) = some r from h)
  | succ d ih =>
    intro v1 v2 v3 σ h
    have h : (if v2 ≤ v3 then some ((0 : Int32), σ) else rCk (rIn v3 (rLen 53)) (rCk (rIn ((((443 : Int32) + ((61 : Int32) * v1)) + (1 : Int32)) + v3) (rLen 1)) (mX9_tells_l16 d v1 v2 (v3 + (1 : Int32)) (rSa σ 1 ((((443 : Int32) + ((61 : Int32) * v1)) + (1 : Int32)) + v3) (rGa σ 53 v3))))) = some r := h
    refine aw_iload_n C dX9_tells_16 rfl ?_
    refine aw_iload_n C dX9_tells_17 rfl ?_
    refine aw_icmp_ge C 50 dX9_tells_18 (by decide) (fun q => ?_) (fun q => ?_)
    · rw [if_pos q] at h
      cases h
      exact aw_vret C rfl dX9_tells_50 (Nat.le_refl _) (Nat.le_refl _) ⟨rfl, rfl, rfl⟩
    · rw [if_neg q] at h
      refine aw_ald_n C dX9_tells_21 rfl ?_
      refine aw_get C (v := .ref (rAid 1)) gf_X9_7 (hm_M f σ) rfl dX9_tells_22 ?_
      refine aw_sipush C 443 dX9_tells_25 ks_443 ?_
      refine aw_bipush C 61 dX9_tells_28 kb_61 ?_
      refine aw_iload_n C dX9_tells_30 rfl ?_
      refine aw_imul C dX9_tells_31 ?_
      refine aw_iadd C dX9_tells_32 ?_
      refine aw_iconst C 1 dX9_tells_33 ki_1 ?_
      refine aw_iadd C dX9_tells_34 ?_
      refine aw_iload_n C dX9_tells_35 rfl ?_
      refine aw_iadd C dX9_tells_36 ?_
      refine aw_ald_n C dX9_tells_37 rfl ?_
      refine aw_get C (v := .ref (rAid 53)) gf_X9_132 (hm_M f σ) rfl dX9_tells_38 ?_
      refine aw_iload_n C dX9_tells_41 rfl ?_
      obtain ⟨hb1, h⟩ := ck_some h
      refine am_iald C (rGa σ 53 v3) rfl (inb_vp hb1) rfl dX9_tells_42 ?_
      obtain ⟨hb2, h⟩ := ck_some h
      refine am_iast C rfl (inb_vp hb2) dX9_tells_43 ?_
      refine aw_iinc C (v3 + (1 : Int32)) dX9_tells_44 rfl (by rw [ki_1]) (by decide) rfl ?_
      refine aw_nl [some (.ref 181), some (.int v1), some (.int v2), some (.int (v3 + (1 : Int32)))] rfl ?_
      refine aw_goto C 16 dX9_tells_47 (by decide) ?_
      refine aw_fl [some (.ref 181), some (.int v1), some (.int v2), some (.int (v3 + (1 : Int32)))] ⟨rfl, ⟨rfl, ⟨rfl, ⟨rfl, trivial⟩⟩⟩⟩ ?_
      exact ih v1 v2 (v3 + (1 : Int32)) (rSa σ 1 ((((443 : Int32) + ((61 : Int32) * v1)) + (1 : Int32)) + v3) (rGa σ 53 v3)) h
def mX9_tells (v1 : Int32) (v2 : Int32) (σ : RS9) : Option (Int32 × RS9) := rCk (rIn ((443 : Int32) + ((61 : Int32) * v1)) (rLen 1)) (mX9_tells_l16 rFU v1 v2 (0 : Int32) (rSa σ 1 ((443 : Int32) + ((61 : Int32) * v1)) v2))
set_option maxHeartbeats 1000000 in
theorem rmX9_tells {X : GX} {l : Launch} {f : AH} {n : Nat} {r : Int32 × RS9} {v1 : Int32} {v2 : Int32} {σ : RS9} (h : mX9_tells v1 v2 σ = some r) : AM X l yX9_tells cX9_tells 4 none 0 0 0 [.ref 181, .int v1, .int v2] (rHm f σ) n (QMv f n r) := by
  have h : rCk (rIn ((443 : Int32) + ((61 : Int32) * v1)) (rLen 1)) (mX9_tells_l16 rFU v1 v2 (0 : Int32) (rSa σ 1 ((443 : Int32) + ((61 : Int32) * v1)) v2)) = some r := h
  refine AM.of (by decide +kernel) rfl (Nat.le_of_ble_eq_true rfl) (fun p e s m args below meth c C _ => ?_)
  refine aw_nl [some (.ref 181), some (.int v1), some (.int v2), none] rfl ?_
  refine aw_ald_n C dX9_tells_0 rfl ?_
  refine aw_get C (v := .ref (rAid 1)) gf_X9_7 (hm_M f σ) rfl dX9_tells_1 ?_
  refine aw_sipush C 443 dX9_tells_4 ks_443 ?_
  refine aw_bipush C 61 dX9_tells_7 kb_61 ?_
  refine aw_iload_n C dX9_tells_9 rfl ?_
  refine aw_imul C dX9_tells_10 ?_
  refine aw_iadd C dX9_tells_11 ?_
  refine aw_iload_n C dX9_tells_12 rfl ?_
  obtain ⟨hb1, h⟩ := ck_some h
  refine am_iast C rfl (inb_vp hb1) dX9_tells_13 ?_
  refine aw_iconst C 0 dX9_tells_14 ki_0 ?_
  refine aw_istore_n C dX9_tells_15 (by decide) rfl ?_
  refine aw_nl [some (.ref 181), some (.int v1), some (.int v2), some (.int (0 : Int32))] rfl ?_
  refine aw_fl [some (.ref 181), some (.int v1), some (.int v2), some (.int (0 : Int32))] ⟨rfl, ⟨rfl, ⟨rfl, ⟨rfl, trivial⟩⟩⟩⟩ ?_
  exact rmX9_tells_l16 C rFU v1 v2 (0 : Int32) (rSa σ 1 ((443 : Int32) + ((61 : Int32) * v1)) v2) h
def mX9_nowMany_b23 (s0 : Int32) (σ : RS9) : Option (Int32 × RS9) := some (s0, σ)
set_option maxHeartbeats 1000000 in
theorem rmX9_nowMany_b23 {X : GX} {p : Program} {l : Launch} {e : Env} {s : State} {m : MethodId} {args : Array Value} {below : List Frame} {meth : Method} {c : Code} {f : AH} {n : Nat} {r : Int32 × RS9} {s0 : Int32} {σ : RS9} (C : CC X p l (RM 1 0 0) s m args meth c RX9 cX9_nowMany 2 (some .int)) (h : mX9_nowMany_b23 s0 σ = some r) : AW X p l e (RM 1 0 0) s m args below meth c 2 (ZM X below args s 0 0 (QMi f n r)) (rHm f σ) n 0 0 23 [none, none] [.int s0] := by
  have h : some (s0, σ) = some r := h
  cases h
  exact aw_iret C rfl rfl dX9_nowMany_23 (Nat.le_refl _) (Nat.le_refl _) ⟨rfl, rfl, rfl⟩
def mX9_nowMany (v1 : Int32) (σ : RS9) : Option (Int32 × RS9) := ((mX9_toldOf v1 σ).bind fun r1 => (if r1.1 = (-1 : Int32) then rCk (rIn v1 (rLen 42)) (mX9_nowMany_b23 (rGa r1.2 42 v1) r1.2) else ((mX9_toldOf v1 r1.2).bind fun r2 => mX9_nowMany_b23 r2.1 r2.2)))
set_option maxHeartbeats 1000000 in
theorem rmX9_nowMany {X : GX} {l : Launch} {f : AH} {n : Nat} {r : Int32 × RS9} {v1 : Int32} {σ : RS9} (h : mX9_nowMany v1 σ = some r) : AM X l yX9_nowMany cX9_nowMany 2 (some .int) 1 0 0 [.ref 181, .int v1] (rHm f σ) n (QMi f n r) := by
  have h : ((mX9_toldOf v1 σ).bind fun r1 => (if r1.1 = (-1 : Int32) then rCk (rIn v1 (rLen 42)) (mX9_nowMany_b23 (rGa r1.2 42 v1) r1.2) else ((mX9_toldOf v1 r1.2).bind fun r2 => mX9_nowMany_b23 r2.1 r2.2))) = some r := h
  refine AM.of (by decide +kernel) rfl (Nat.le_of_ble_eq_true rfl) (fun p e s m args below meth c C _ => ?_)
  refine aw_nl [some (.ref 181), some (.int v1)] rfl ?_
  refine aw_ald_n C dX9_nowMany_0 rfl ?_
  refine aw_iload_n C dX9_nowMany_1 rfl ?_
  obtain ⟨r1, h1, h⟩ := Option.bind_eq_some_iff.mp h
  refine aw_callV C (ci := 9) (b := 181) [.int v1] mv_X9_247 rfl rfl (hm_M f σ) (rmX9_toldOf h1) rfl dX9_nowMany_2 (Nat.le_of_ble_eq_true rfl) (Nat.le_of_ble_eq_true rfl) rfl (Nat.le_of_ble_eq_true rfl) (Nat.le_of_ble_eq_true rfl) (Nat.le_of_ble_eq_true rfl) (fun v9 f9 n9 hh => ?_)
  obtain ⟨rfl, rfl, rfl⟩ := hh
  refine aw_iconst C (-1) dX9_nowMany_5 ki_m1 ?_
  refine aw_icmp_ne C 18 dX9_nowMany_6 (by decide) (fun q => ?_) (fun q => ?_)
  · rw [if_neg q] at h
    refine aw_ald_n C dX9_nowMany_18 rfl ?_
    refine aw_iload_n C dX9_nowMany_19 rfl ?_
    obtain ⟨r2, h2, h⟩ := Option.bind_eq_some_iff.mp h
    refine aw_callV C (ci := 9) (b := 181) [.int v1] mv_X9_247 rfl rfl (hm_M f r1.2) (rmX9_toldOf h2) rfl dX9_nowMany_20 (Nat.le_of_ble_eq_true rfl) (Nat.le_of_ble_eq_true rfl) rfl (Nat.le_of_ble_eq_true rfl) (Nat.le_of_ble_eq_true rfl) (Nat.le_of_ble_eq_true rfl) (fun v9 f9 n9 hh => ?_)
    obtain ⟨rfl, rfl, rfl⟩ := hh
    refine aw_fl [none, none] trivial ?_
    exact rmX9_nowMany_b23 C h
  · rw [if_pos q] at h
    refine aw_ald_n C dX9_nowMany_9 rfl ?_
    refine aw_get C (v := .ref (rAid 42)) gf_X9_105 (hm_M f r1.2) rfl dX9_nowMany_10 ?_
    refine aw_iload_n C dX9_nowMany_13 rfl ?_
    obtain ⟨hb3, h⟩ := ck_some h
    refine am_iald C (rGa r1.2 42 v1) rfl (inb_vp hb3) rfl dX9_nowMany_14 ?_
    refine aw_goto C 23 dX9_nowMany_15 (by decide) ?_
    refine aw_fl [none, none] trivial ?_
    exact rmX9_nowMany_b23 C h
def mX9_nowByte_b31 (s0 : Int32) (σ : RS9) : Option (Int32 × RS9) := some (s0, σ)
set_option maxHeartbeats 1000000 in
theorem rmX9_nowByte_b31 {X : GX} {p : Program} {l : Launch} {e : Env} {s : State} {m : MethodId} {args : Array Value} {below : List Frame} {meth : Method} {c : Code} {f : AH} {n : Nat} {r : Int32 × RS9} {s0 : Int32} {σ : RS9} (C : CC X p l (RM 1 0 0) s m args meth c RX9 cX9_nowByte 3 (some .int)) (h : mX9_nowByte_b31 s0 σ = some r) : AW X p l e (RM 1 0 0) s m args below meth c 3 (ZM X below args s 0 0 (QMi f n r)) (rHm f σ) n 0 0 31 [none, none, none] [.int s0] := by
  have h : some (s0, σ) = some r := h
  cases h
  exact aw_iret C rfl rfl dX9_nowByte_31 (Nat.le_refl _) (Nat.le_refl _) ⟨rfl, rfl, rfl⟩
def mX9_nowByte (v1 : Int32) (v2 : Int32) (σ : RS9) : Option (Int32 × RS9) := ((mX9_toldOf v1 σ).bind fun r1 => (if r1.1 = (-1 : Int32) then rCk (rIn v1 (rLen 41)) (rCk (rIn ((rGa r1.2 41 v1) + v2) (rLen 43)) (mX9_nowByte_b31 (rGa r1.2 43 ((rGa r1.2 41 v1) + v2)) r1.2)) else ((mX9_toldAt v1 v2 r1.2).bind fun r2 => mX9_nowByte_b31 r2.1 r2.2)))
set_option maxHeartbeats 1000000 in
theorem rmX9_nowByte {X : GX} {l : Launch} {f : AH} {n : Nat} {r : Int32 × RS9} {v1 : Int32} {v2 : Int32} {σ : RS9} (h : mX9_nowByte v1 v2 σ = some r) : AM X l yX9_nowByte cX9_nowByte 3 (some .int) 1 0 0 [.ref 181, .int v1, .int v2] (rHm f σ) n (QMi f n r) := by
  have h : ((mX9_toldOf v1 σ).bind fun r1 => (if r1.1 = (-1 : Int32) then rCk (rIn v1 (rLen 41)) (rCk (rIn ((rGa r1.2 41 v1) + v2) (rLen 43)) (mX9_nowByte_b31 (rGa r1.2 43 ((rGa r1.2 41 v1) + v2)) r1.2)) else ((mX9_toldAt v1 v2 r1.2).bind fun r2 => mX9_nowByte_b31 r2.1 r2.2))) = some r := h
  refine AM.of (by decide +kernel) rfl (Nat.le_of_ble_eq_true rfl) (fun p e s m args below meth c C _ => ?_)
  refine aw_nl [some (.ref 181), some (.int v1), some (.int v2)] rfl ?_
  refine aw_ald_n C dX9_nowByte_0 rfl ?_
  refine aw_iload_n C dX9_nowByte_1 rfl ?_
  obtain ⟨r1, h1, h⟩ := Option.bind_eq_some_iff.mp h
  refine aw_callV C (ci := 9) (b := 181) [.int v1] mv_X9_247 rfl rfl (hm_M f σ) (rmX9_toldOf h1) rfl dX9_nowByte_2 (Nat.le_of_ble_eq_true rfl) (Nat.le_of_ble_eq_true rfl) rfl (Nat.le_of_ble_eq_true rfl) (Nat.le_of_ble_eq_true rfl) (Nat.le_of_ble_eq_true rfl) (fun v9 f9 n9 hh => ?_)
  obtain ⟨rfl, rfl, rfl⟩ := hh
  refine aw_iconst C (-1) dX9_nowByte_5 ki_m1 ?_
  refine aw_icmp_ne C 25 dX9_nowByte_6 (by decide) (fun q => ?_) (fun q => ?_)
  · rw [if_neg q] at h
    refine aw_ald_n C dX9_nowByte_25 rfl ?_
    refine aw_iload_n C dX9_nowByte_26 rfl ?_
    refine aw_iload_n C dX9_nowByte_27 rfl ?_
    obtain ⟨r2, h2, h⟩ := Option.bind_eq_some_iff.mp h
    refine aw_callV C (ci := 9) (b := 181) [.int v1, .int v2] mv_X9_251 rfl rfl (hm_M f r1.2) (rmX9_toldAt h2) rfl dX9_nowByte_28 (Nat.le_of_ble_eq_true rfl) (Nat.le_of_ble_eq_true rfl) rfl (Nat.le_of_ble_eq_true rfl) (Nat.le_of_ble_eq_true rfl) (Nat.le_of_ble_eq_true rfl) (fun v9 f9 n9 hh => ?_)
    obtain ⟨rfl, rfl, rfl⟩ := hh
    refine aw_fl [none, none, none] trivial ?_
    exact rmX9_nowByte_b31 C h
  · rw [if_pos q] at h
    refine aw_ald_n C dX9_nowByte_9 rfl ?_
    refine aw_get C (v := .ref (rAid 43)) gf_X9_108 (hm_M f r1.2) rfl dX9_nowByte_10 ?_
    refine aw_ald_n C dX9_nowByte_13 rfl ?_
    refine aw_get C (v := .ref (rAid 41)) gf_X9_102 (hm_M f r1.2) rfl dX9_nowByte_14 ?_
    refine aw_iload_n C dX9_nowByte_17 rfl ?_
    obtain ⟨hb3, h⟩ := ck_some h
    refine am_iald C (rGa r1.2 41 v1) rfl (inb_vp hb3) rfl dX9_nowByte_18 ?_
    refine aw_iload_n C dX9_nowByte_19 rfl ?_
    refine aw_iadd C dX9_nowByte_20 ?_
    obtain ⟨hb4, h⟩ := ck_some h
    refine am_iald C (rGa r1.2 43 ((rGa r1.2 41 v1) + v2)) rfl (inb_vp hb4) rfl dX9_nowByte_21 ?_
    refine aw_goto C 31 dX9_nowByte_22 (by decide) ?_
    refine aw_fl [none, none, none] trivial ?_
    exact rmX9_nowByte_b31 C h
def mX9_toldMany_b27 (rec4 : Int32 → Int32 → RS9 → Option (Int32 × RS9)) (v2 : Int32) (s0 : Int32) (s1 : Int32) (σ : RS9) : Option (Int32 × RS9) := rec4 (s0 + s1) (v2 + (1 : Int32)) σ
set_option maxHeartbeats 1000000 in
theorem rmX9_toldMany_b27 {X : GX} {p : Program} {l : Launch} {e : Env} {s : State} {m : MethodId} {args : Array Value} {below : List Frame} {meth : Method} {c : Code} {f : AH} {n : Nat} {r : Int32 × RS9} {rec4 : Int32 → Int32 → RS9 → Option (Int32 × RS9)} {v2 : Int32} {s0 : Int32} {s1 : Int32} {σ : RS9} (C : CC X p l (RM 1 0 0) s m args meth c RX9 cX9_toldMany 3 (some .int)) (Hr4 : ∀ (v1 : Int32) (v2 : Int32) (σ : RS9), rec4 v1 v2 σ = some r → AW X p l e (RM 1 0 0) s m args below meth c 3 (ZM X below args s 0 0 (QMi f n r)) (rHm f σ) n 0 0 4 [some (.ref 181), some (.int v1), some (.int v2)] []) (h : mX9_toldMany_b27 rec4 v2 s0 s1 σ = some r) : AW X p l e (RM 1 0 0) s m args below meth c 3 (ZM X below args s 0 0 (QMi f n r)) (rHm f σ) n 0 0 27 [some (.ref 181), none, some (.int v2)] [.int s1, .int s0] := by
  have h : rec4 (s0 + s1) (v2 + (1 : Int32)) σ = some r := h
  refine aw_iadd C dX9_toldMany_27 ?_
  refine aw_istore_n C dX9_toldMany_28 (by decide) rfl ?_
  refine aw_nl [some (.ref 181), some (.int (s0 + s1)), some (.int v2)] rfl ?_
  refine aw_iinc C (v2 + (1 : Int32)) dX9_toldMany_29 rfl (by rw [ki_1]) (by decide) rfl ?_
  refine aw_nl [some (.ref 181), some (.int (s0 + s1)), some (.int (v2 + (1 : Int32)))] rfl ?_
  refine aw_goto C 4 dX9_toldMany_32 (by decide) ?_
  refine aw_fl [some (.ref 181), some (.int (s0 + s1)), some (.int (v2 + (1 : Int32)))] ⟨rfl, ⟨rfl, ⟨rfl, trivial⟩⟩⟩ ?_
  exact Hr4 (s0 + s1) (v2 + (1 : Int32)) σ h
def mX9_toldMany_l4 : Nat → Int32 → Int32 → RS9 → Option (Int32 × RS9)
  | 0, _, _, _ => none
  | d + 1, v1, v2, σ => (if (σ.1 33) ≤ v2 then some (v1, σ) else ((mX9_toldOf v2 σ).bind fun r1 => (if r1.1 = (-1 : Int32) then mX9_toldMany_b27 (fun v1 v2 σ => mX9_toldMany_l4 d v1 v2 σ) v2 v1 (0 : Int32) r1.2 else mX9_toldMany_b27 (fun v1 v2 σ => mX9_toldMany_l4 d v1 v2 σ) v2 v1 (1 : Int32) r1.2)))
set_option maxHeartbeats 1000000 in
theorem rmX9_toldMany_l4 {X : GX} {p : Program} {l : Launch} {e : Env} {s : State} {m : MethodId} {args : Array Value} {below : List Frame} {meth : Method} {c : Code} {f : AH} {n : Nat} {r : Int32 × RS9} (C : CC X p l (RM 1 0 0) s m args meth c RX9 cX9_toldMany 3 (some .int)) : ∀ (d : Nat) (v1 : Int32) (v2 : Int32) (σ : RS9) (_ : mX9_toldMany_l4 d v1 v2 σ = some r), AW X p l e (RM 1 0 0) s m args below meth c 3 (ZM X below args s 0 0 (QMi f n r)) (rHm f σ) n 0 0 4 [some (.ref 181), some (.int v1), some (.int v2)] [] := by
  intro d
  induction d with
  | zero =>
    intro v1 v2 σ h
    exact nomatch (show (none : Option (Int32 × RS9)) = some r from h)
  | succ d ih =>
    intro v1 v2 σ h
    have h : (if (σ.1 33) ≤ v2 then some (v1, σ) else ((mX9_toldOf v2 σ).bind fun r1 => (if r1.1 = (-1 : Int32) then mX9_toldMany_b27 (fun v1 v2 σ => mX9_toldMany_l4 d v1 v2 σ) v2 v1 (0 : Int32) r1.2 else mX9_toldMany_b27 (fun v1 v2 σ => mX9_toldMany_l4 d v1 v2 σ) v2 v1 (1 : Int32) r1.2))) = some r := h
    refine aw_iload_n C dX9_toldMany_4 rfl ?_
    refine aw_ald_n C dX9_toldMany_5 rfl ?_
    refine aw_get C (v := .int (σ.1 33)) gf_X9_204 (hm_M f σ) rfl dX9_toldMany_6 ?_
    refine aw_icmp_ge C 35 dX9_toldMany_9 (by decide) (fun q => ?_) (fun q => ?_)
    · rw [if_pos q] at h
      refine aw_iload_n C dX9_toldMany_35 rfl ?_
      cases h
      exact aw_iret C rfl rfl dX9_toldMany_36 (Nat.le_refl _) (Nat.le_refl _) ⟨rfl, rfl, rfl⟩
    · rw [if_neg q] at h
      refine aw_iload_n C dX9_toldMany_12 rfl ?_
      refine aw_ald_n C dX9_toldMany_13 rfl ?_
      refine aw_iload_n C dX9_toldMany_14 rfl ?_
      obtain ⟨r1, h1, h⟩ := Option.bind_eq_some_iff.mp h
      refine aw_callV C (ci := 9) (b := 181) [.int v2] mv_X9_247 rfl rfl (hm_M f σ) (rmX9_toldOf h1) rfl dX9_toldMany_15 (Nat.le_of_ble_eq_true rfl) (Nat.le_of_ble_eq_true rfl) rfl (Nat.le_of_ble_eq_true rfl) (Nat.le_of_ble_eq_true rfl) (Nat.le_of_ble_eq_true rfl) (fun v9 f9 n9 hh => ?_)
      obtain ⟨rfl, rfl, rfl⟩ := hh
      refine aw_iconst C (-1) dX9_toldMany_18 ki_m1 ?_
      refine aw_icmp_ne C 26 dX9_toldMany_19 (by decide) (fun q => ?_) (fun q => ?_)
      · rw [if_neg q] at h
        refine aw_iconst C 1 dX9_toldMany_26 ki_1 ?_
        refine aw_fl [some (.ref 181), none, some (.int v2)] ⟨rfl, ⟨rfl, trivial⟩⟩ ?_
        exact rmX9_toldMany_b27 C (fun v1 v2 σ h => ih v1 v2 σ h) h
      · rw [if_pos q] at h
        refine aw_iconst C 0 dX9_toldMany_22 ki_0 ?_
        refine aw_goto C 27 dX9_toldMany_23 (by decide) ?_
        refine aw_fl [some (.ref 181), none, some (.int v2)] ⟨rfl, ⟨rfl, trivial⟩⟩ ?_
        exact rmX9_toldMany_b27 C (fun v1 v2 σ h => ih v1 v2 σ h) h
def mX9_toldMany (σ : RS9) : Option (Int32 × RS9) := mX9_toldMany_l4 rFU (0 : Int32) (0 : Int32) σ
set_option maxHeartbeats 1000000 in
theorem rmX9_toldMany {X : GX} {l : Launch} {f : AH} {n : Nat} {r : Int32 × RS9} {σ : RS9} (h : mX9_toldMany σ = some r) : AM X l yX9_toldMany cX9_toldMany 3 (some .int) 1 0 0 [.ref 181] (rHm f σ) n (QMi f n r) := by
  have h : mX9_toldMany_l4 rFU (0 : Int32) (0 : Int32) σ = some r := h
  refine AM.of (by decide +kernel) rfl (Nat.le_of_ble_eq_true rfl) (fun p e s m args below meth c C _ => ?_)
  refine aw_nl [some (.ref 181), none, none] rfl ?_
  refine aw_iconst C 0 dX9_toldMany_0 ki_0 ?_
  refine aw_istore_n C dX9_toldMany_1 (by decide) rfl ?_
  refine aw_nl [some (.ref 181), some (.int (0 : Int32)), none] rfl ?_
  refine aw_iconst C 0 dX9_toldMany_2 ki_0 ?_
  refine aw_istore_n C dX9_toldMany_3 (by decide) rfl ?_
  refine aw_nl [some (.ref 181), some (.int (0 : Int32)), some (.int (0 : Int32))] rfl ?_
  refine aw_fl [some (.ref 181), some (.int (0 : Int32)), some (.int (0 : Int32))] ⟨rfl, ⟨rfl, ⟨rfl, trivial⟩⟩⟩ ?_
  exact rmX9_toldMany_l4 C rFU (0 : Int32) (0 : Int32) σ h
def mX9_wipe0_l11 : Nat → Int32 → RS9 → Option (Int32 × RS9)
  | 0, _, _ => none
  | d + 1, v1, σ => (if (40 : Int32) ≤ v1 then some ((0 : Int32), σ) else rCk (rIn ((443 : Int32) + ((61 : Int32) * v1)) (rLen 1)) (mX9_wipe0_l11 d (v1 + (1 : Int32)) (rSa σ 1 ((443 : Int32) + ((61 : Int32) * v1)) (-1 : Int32))))
set_option maxHeartbeats 1000000 in
theorem rmX9_wipe0_l11 {X : GX} {p : Program} {l : Launch} {e : Env} {s : State} {m : MethodId} {args : Array Value} {below : List Frame} {meth : Method} {c : Code} {f : AH} {n : Nat} {r : Int32 × RS9} (C : CC X p l (RM 2 0 0) s m args meth c RX9 cX9_wipe0 2 (some .int)) : ∀ (d : Nat) (v1 : Int32) (σ : RS9) (_ : mX9_wipe0_l11 d v1 σ = some r), AW X p l e (RM 2 0 0) s m args below meth c 2 (ZM X below args s 0 0 (QMi f n r)) (rHm f σ) n 0 0 11 [some (.ref 181), some (.int v1)] [] := by
  intro d
  induction d with
  | zero =>
    intro v1 σ h
    exact nomatch (show (none : Option (Int32 × RS9)) = some r from h)
  | succ d ih =>
    intro v1 σ h
    have h : (if (40 : Int32) ≤ v1 then some ((0 : Int32), σ) else rCk (rIn ((443 : Int32) + ((61 : Int32) * v1)) (rLen 1)) (mX9_wipe0_l11 d (v1 + (1 : Int32)) (rSa σ 1 ((443 : Int32) + ((61 : Int32) * v1)) (-1 : Int32)))) = some r := h
    refine aw_iload_n C dX9_wipe0_11 rfl ?_
    refine aw_bipush C 40 dX9_wipe0_12 kb_40 ?_
    refine aw_icmp_ge C 37 dX9_wipe0_14 (by decide) (fun q => ?_) (fun q => ?_)
    · rw [if_pos q] at h
      refine aw_iconst C 0 dX9_wipe0_37 ki_0 ?_
      cases h
      exact aw_iret C rfl rfl dX9_wipe0_38 (Nat.le_refl _) (Nat.le_refl _) ⟨rfl, rfl, rfl⟩
    · rw [if_neg q] at h
      refine aw_ald_n C dX9_wipe0_17 rfl ?_
      refine aw_get C (v := .ref (rAid 1)) gf_X9_7 (hm_M f σ) rfl dX9_wipe0_18 ?_
      refine aw_sipush C 443 dX9_wipe0_21 ks_443 ?_
      refine aw_bipush C 61 dX9_wipe0_24 kb_61 ?_
      refine aw_iload_n C dX9_wipe0_26 rfl ?_
      refine aw_imul C dX9_wipe0_27 ?_
      refine aw_iadd C dX9_wipe0_28 ?_
      refine aw_iconst C (-1) dX9_wipe0_29 ki_m1 ?_
      obtain ⟨hb1, h⟩ := ck_some h
      refine am_iast C rfl (inb_vp hb1) dX9_wipe0_30 ?_
      refine aw_iinc C (v1 + (1 : Int32)) dX9_wipe0_31 rfl (by rw [ki_1]) (by decide) rfl ?_
      refine aw_nl [some (.ref 181), some (.int (v1 + (1 : Int32)))] rfl ?_
      refine aw_goto C 11 dX9_wipe0_34 (by decide) ?_
      refine aw_fl [some (.ref 181), some (.int (v1 + (1 : Int32)))] ⟨rfl, ⟨rfl, trivial⟩⟩ ?_
      exact ih (v1 + (1 : Int32)) (rSa σ 1 ((443 : Int32) + ((61 : Int32) * v1)) (-1 : Int32)) h
def mX9_wipe0 (σ : RS9) : Option (Int32 × RS9) := ((mX9_toldMany σ).bind fun r1 => (if r1.1 = (0 : Int32) then some ((4 : Int32), r1.2) else mX9_wipe0_l11 rFU (0 : Int32) r1.2))
set_option maxHeartbeats 1000000 in
theorem rmX9_wipe0 {X : GX} {l : Launch} {f : AH} {n : Nat} {r : Int32 × RS9} {σ : RS9} (h : mX9_wipe0 σ = some r) : AM X l yX9_wipe0 cX9_wipe0 2 (some .int) 2 0 0 [.ref 181] (rHm f σ) n (QMi f n r) := by
  have h : ((mX9_toldMany σ).bind fun r1 => (if r1.1 = (0 : Int32) then some ((4 : Int32), r1.2) else mX9_wipe0_l11 rFU (0 : Int32) r1.2)) = some r := h
  refine AM.of (by decide +kernel) rfl (Nat.le_of_ble_eq_true rfl) (fun p e s m args below meth c C _ => ?_)
  refine aw_nl [some (.ref 181), none] rfl ?_
  refine aw_ald_n C dX9_wipe0_0 rfl ?_
  obtain ⟨r1, h1, h⟩ := Option.bind_eq_some_iff.mp h
  refine aw_callV C (ci := 9) (b := 181) [] mv_X9_319 rfl rfl (hm_M f σ) (rmX9_toldMany h1) rfl dX9_wipe0_1 (Nat.le_of_ble_eq_true rfl) (Nat.le_of_ble_eq_true rfl) rfl (Nat.le_of_ble_eq_true rfl) (Nat.le_of_ble_eq_true rfl) (Nat.le_of_ble_eq_true rfl) (fun v9 f9 n9 hh => ?_)
  obtain ⟨rfl, rfl, rfl⟩ := hh
  refine aw_if_ne C 9 dX9_wipe0_4 (by decide) (fun q => ?_) (fun q => ?_)
  · rw [if_neg q] at h
    refine aw_iconst C 0 dX9_wipe0_9 ki_0 ?_
    refine aw_istore_n C dX9_wipe0_10 (by decide) rfl ?_
    refine aw_nl [some (.ref 181), some (.int (0 : Int32))] rfl ?_
    refine aw_fl [some (.ref 181), some (.int (0 : Int32))] ⟨rfl, ⟨rfl, trivial⟩⟩ ?_
    exact rmX9_wipe0_l11 C rFU (0 : Int32) r1.2 h
  · rw [if_pos q] at h
    refine aw_iconst C 4 dX9_wipe0_7 ki_4 ?_
    cases h
    exact aw_iret C rfl rfl dX9_wipe0_8 (Nat.le_refl _) (Nat.le_refl _) ⟨rfl, rfl, rfl⟩
def mX9_fault (σ : RS9) : Option (Int32 × RS9) := some ((σ.1 12), (rSf σ 0 (0 : Int32)))
set_option maxHeartbeats 1000000 in
theorem rmX9_fault {X : GX} {l : Launch} {f : AH} {n : Nat} {r : Int32 × RS9} {σ : RS9} (h : mX9_fault σ = some r) : AM X l yX9_fault cX9_fault 1 (some .int) 0 0 0 [.ref 181] (rHm f σ) n (QMi f n r) := by
  have h : some ((σ.1 12), (rSf σ 0 (0 : Int32))) = some r := h
  refine AM.of (by decide +kernel) rfl (Nat.le_of_ble_eq_true rfl) (fun p e s m args below meth c C _ => ?_)
  refine aw_nl [some (.ref 181)] rfl ?_
  refine aw_ald_n C dX9_fault_0 rfl ?_
  refine aw_iconst C 0 dX9_fault_1 ki_0 ?_
  refine am_put C gf_X9_138 nf9_0 rfl rfl dX9_fault_2 ?_
  refine aw_ald_n C dX9_fault_5 rfl ?_
  refine aw_get C (v := .int (σ.1 12)) gf_X9_26 (hm_M f (rSf σ 0 (0 : Int32))) rfl dX9_fault_6 ?_
  cases h
  exact aw_iret C rfl rfl dX9_fault_9 (Nat.le_refl _) (Nat.le_refl _) ⟨rfl, rfl, rfl⟩
def mX9_why (σ : RS9) : Option (Int32 × RS9) := some ((σ.1 7), (rSf σ 0 (0 : Int32)))
set_option maxHeartbeats 1000000 in
theorem rmX9_why {X : GX} {l : Launch} {f : AH} {n : Nat} {r : Int32 × RS9} {σ : RS9} (h : mX9_why σ = some r) : AM X l yX9_why cX9_why 1 (some .int) 0 0 0 [.ref 181] (rHm f σ) n (QMi f n r) := by
  have h : some ((σ.1 7), (rSf σ 0 (0 : Int32))) = some r := h
  refine AM.of (by decide +kernel) rfl (Nat.le_of_ble_eq_true rfl) (fun p e s m args below meth c C _ => ?_)
  refine aw_nl [some (.ref 181)] rfl ?_
  refine aw_ald_n C dX9_why_0 rfl ?_
  refine aw_iconst C 0 dX9_why_1 ki_0 ?_
  refine am_put C gf_X9_138 nf9_0 rfl rfl dX9_why_2 ?_
  refine aw_ald_n C dX9_why_5 rfl ?_
  refine aw_get C (v := .int (σ.1 7)) gf_X9_328 (hm_M f (rSf σ 0 (0 : Int32))) rfl dX9_why_6 ?_
  cases h
  exact aw_iret C rfl rfl dX9_why_9 (Nat.le_refl _) (Nat.le_refl _) ⟨rfl, rfl, rfl⟩
def mX9_took (σ : RS9) : Option (Int32 × RS9) := some ((σ.1 9), (rSf σ 9 (0 : Int32)))
set_option maxHeartbeats 1000000 in
theorem rmX9_took {X : GX} {l : Launch} {f : AH} {n : Nat} {r : Int32 × RS9} {σ : RS9} (h : mX9_took σ = some r) : AM X l yX9_took cX9_took 2 (some .int) 0 0 0 [.ref 181] (rHm f σ) n (QMi f n r) := by
  have h : some ((σ.1 9), (rSf σ 9 (0 : Int32))) = some r := h
  refine AM.of (by decide +kernel) rfl (Nat.le_of_ble_eq_true rfl) (fun p e s m args below meth c C _ => ?_)
  refine aw_nl [some (.ref 181), none] rfl ?_
  refine aw_ald_n C dX9_took_0 rfl ?_
  refine aw_get C (v := .int (σ.1 9)) gf_X9_337 (hm_M f σ) rfl dX9_took_1 ?_
  refine aw_istore_n C dX9_took_4 (by decide) rfl ?_
  refine aw_nl [some (.ref 181), some (.int (σ.1 9))] rfl ?_
  refine aw_ald_n C dX9_took_5 rfl ?_
  refine aw_iconst C 0 dX9_took_6 ki_0 ?_
  refine am_put C gf_X9_337 nf9_9 rfl rfl dX9_took_7 ?_
  refine aw_iload_n C dX9_took_10 rfl ?_
  cases h
  exact aw_iret C rfl rfl dX9_took_11 (Nat.le_refl _) (Nat.le_refl _) ⟨rfl, rfl, rfl⟩
end
