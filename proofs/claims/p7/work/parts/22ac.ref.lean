def mX9_cutsTable_b151 (rec3 : Nat → Int32 → Nat → Nat → Nat → Int32 → RS9 → Option (Int32 × RS9)) (v1 : Nat) (v2 : Int32) (v3 : Nat) (v4 : Nat) (v5 : Nat) (v7 : Int32) (σ : RS9) : Option (Int32 × RS9) := rec3 v1 v2 v3 v4 v5 (v7 + (1 : Int32)) σ
set_option maxHeartbeats 1000000 in
theorem rmX9_cutsTable_b151 {X : GX} {p : Program} {l : Launch} {e : Env} {s : State} {m : MethodId} {args : Array Value} {below : List Frame} {meth : Method} {c : Code} {f : AH} {n : Nat} {r : Int32 × RS9} {rec3 : Nat → Int32 → Nat → Nat → Nat → Int32 → RS9 → Option (Int32 × RS9)} {v1 : Nat} {v2 : Int32} {v3 : Nat} {v4 : Nat} {v5 : Nat} {v7 : Int32} {σ : RS9} (C : CC X p l (RM 1 0 0) s m args meth c RX9 cX9_cutsTable 9 none) (Hr3 : ∀ (v1 : Nat) (v2 : Int32) (v3 : Nat) (v4 : Nat) (v5 : Nat) (v6 : Int32) (σ : RS9), rIsA v1 = true → rIsA v3 = true → rIsA v4 = true → rIsA v5 = true → rec3 v1 v2 v3 v4 v5 v6 σ = some r → AW X p l e (RM 1 0 0) s m args below meth c 9 (ZM X below args s 0 0 (QMv f n r)) (rHm f σ) n 0 0 3 [some (.ref 181), some (.ref (rAid v1)), some (.int v2), some (.ref (rAid v3)), some (.ref (rAid v4)), some (.ref (rAid v5)), some (.int v6), none, none] []) (ia1 : rIsA v1 = true) (ia3 : rIsA v3 = true) (ia4 : rIsA v4 = true) (ia5 : rIsA v5 = true) (h : mX9_cutsTable_b151 rec3 v1 v2 v3 v4 v5 v7 σ = some r) : AW X p l e (RM 1 0 0) s m args below meth c 9 (ZM X below args s 0 0 (QMv f n r)) (rHm f σ) n 0 0 151 [some (.ref 181), some (.ref (rAid v1)), some (.int v2), some (.ref (rAid v3)), some (.ref (rAid v4)), some (.ref (rAid v5)), none, some (.int v7), none] [] := by
  have h : rec3 v1 v2 v3 v4 v5 (v7 + (1 : Int32)) σ = some r := h
  refine aw_iload C dX9_cutsTable_151 rfl ?_
  refine aw_iconst C 1 dX9_cutsTable_153 ki_1 ?_
  refine aw_iadd C dX9_cutsTable_154 ?_
  refine aw_istore C dX9_cutsTable_155 (by decide) rfl ?_
  refine aw_nl [some (.ref 181), some (.ref (rAid v1)), some (.int v2), some (.ref (rAid v3)), some (.ref (rAid v4)), some (.ref (rAid v5)), some (.int (v7 + (1 : Int32))), some (.int v7), none] rfl ?_
  refine aw_goto C 3 dX9_cutsTable_157 (by decide) ?_
  refine aw_fl [some (.ref 181), some (.ref (rAid v1)), some (.int v2), some (.ref (rAid v3)), some (.ref (rAid v4)), some (.ref (rAid v5)), some (.int (v7 + (1 : Int32))), none, none] ⟨rfl, ⟨rfl, ⟨rfl, ⟨rfl, ⟨rfl, ⟨rfl, ⟨rfl, trivial⟩⟩⟩⟩⟩⟩⟩ ?_
  exact Hr3 v1 v2 v3 v4 v5 (v7 + (1 : Int32)) σ ia1 ia3 ia4 ia5 h
def mX9_cutsTable_b132 (rec3 : Nat → Int32 → Nat → Nat → Nat → Int32 → RS9 → Option (Int32 × RS9)) (v1 : Nat) (v2 : Int32) (v3 : Nat) (v4 : Nat) (v5 : Nat) (s0 : Int32) (σ : RS9) : Option (Int32 × RS9) := mX9_cutsTable_b151 rec3 v1 v2 v3 v4 v5 s0 σ
set_option maxHeartbeats 1000000 in
theorem rmX9_cutsTable_b132 {X : GX} {p : Program} {l : Launch} {e : Env} {s : State} {m : MethodId} {args : Array Value} {below : List Frame} {meth : Method} {c : Code} {f : AH} {n : Nat} {r : Int32 × RS9} {rec3 : Nat → Int32 → Nat → Nat → Nat → Int32 → RS9 → Option (Int32 × RS9)} {v1 : Nat} {v2 : Int32} {v3 : Nat} {v4 : Nat} {v5 : Nat} {s0 : Int32} {σ : RS9} (C : CC X p l (RM 1 0 0) s m args meth c RX9 cX9_cutsTable 9 none) (Hr3 : ∀ (v1 : Nat) (v2 : Int32) (v3 : Nat) (v4 : Nat) (v5 : Nat) (v6 : Int32) (σ : RS9), rIsA v1 = true → rIsA v3 = true → rIsA v4 = true → rIsA v5 = true → rec3 v1 v2 v3 v4 v5 v6 σ = some r → AW X p l e (RM 1 0 0) s m args below meth c 9 (ZM X below args s 0 0 (QMv f n r)) (rHm f σ) n 0 0 3 [some (.ref 181), some (.ref (rAid v1)), some (.int v2), some (.ref (rAid v3)), some (.ref (rAid v4)), some (.ref (rAid v5)), some (.int v6), none, none] []) (ia1 : rIsA v1 = true) (ia3 : rIsA v3 = true) (ia4 : rIsA v4 = true) (ia5 : rIsA v5 = true) (h : mX9_cutsTable_b132 rec3 v1 v2 v3 v4 v5 s0 σ = some r) : AW X p l e (RM 1 0 0) s m args below meth c 9 (ZM X below args s 0 0 (QMv f n r)) (rHm f σ) n 0 0 132 [some (.ref 181), some (.ref (rAid v1)), some (.int v2), some (.ref (rAid v3)), some (.ref (rAid v4)), some (.ref (rAid v5)), none, none, none] [.int s0] := by
  have h : mX9_cutsTable_b151 rec3 v1 v2 v3 v4 v5 s0 σ = some r := h
  refine aw_istore C dX9_cutsTable_132 (by decide) rfl ?_
  refine aw_nl [some (.ref 181), some (.ref (rAid v1)), some (.int v2), some (.ref (rAid v3)), some (.ref (rAid v4)), some (.ref (rAid v5)), none, some (.int s0), none] rfl ?_
  refine aw_goto C 151 dX9_cutsTable_134 (by decide) ?_
  refine aw_fl [some (.ref 181), some (.ref (rAid v1)), some (.int v2), some (.ref (rAid v3)), some (.ref (rAid v4)), some (.ref (rAid v5)), none, some (.int s0), none] ⟨rfl, ⟨rfl, ⟨rfl, ⟨rfl, ⟨rfl, ⟨rfl, ⟨rfl, trivial⟩⟩⟩⟩⟩⟩⟩ ?_
  exact rmX9_cutsTable_b151 C Hr3 ia1 ia3 ia4 ia5 h
def mX9_cutsTable_b93 (rec3 : Nat → Int32 → Nat → Nat → Nat → Int32 → RS9 → Option (Int32 × RS9)) (v1 : Nat) (v2 : Int32) (v3 : Nat) (v4 : Nat) (v5 : Nat) (v6 : Int32) (v8 : Int32) (σ : RS9) : Option (Int32 × RS9) := ((mX9_finds v3 v4 v5 (v6 + (1 : Int32)) v8 (1 : Int32) σ).bind fun r1 => (if v2 ≤ v8 then mX9_cutsTable_b132 rec3 v1 v2 v3 v4 v5 v2 r1.2 else ((mX9_endOf v1 v2 (v8 + (1 : Int32)) (44 : Int32) (10 : Int32) r1.2).bind fun r2 => mX9_cutsTable_b132 rec3 v1 v2 v3 v4 v5 r2.1 r2.2)))
set_option maxHeartbeats 1000000 in
theorem rmX9_cutsTable_b93 {X : GX} {p : Program} {l : Launch} {e : Env} {s : State} {m : MethodId} {args : Array Value} {below : List Frame} {meth : Method} {c : Code} {f : AH} {n : Nat} {r : Int32 × RS9} {rec3 : Nat → Int32 → Nat → Nat → Nat → Int32 → RS9 → Option (Int32 × RS9)} {v1 : Nat} {v2 : Int32} {v3 : Nat} {v4 : Nat} {v5 : Nat} {v6 : Int32} {v8 : Int32} {σ : RS9} (C : CC X p l (RM 1 0 0) s m args meth c RX9 cX9_cutsTable 9 none) (Hr3 : ∀ (v1 : Nat) (v2 : Int32) (v3 : Nat) (v4 : Nat) (v5 : Nat) (v6 : Int32) (σ : RS9), rIsA v1 = true → rIsA v3 = true → rIsA v4 = true → rIsA v5 = true → rec3 v1 v2 v3 v4 v5 v6 σ = some r → AW X p l e (RM 1 0 0) s m args below meth c 9 (ZM X below args s 0 0 (QMv f n r)) (rHm f σ) n 0 0 3 [some (.ref 181), some (.ref (rAid v1)), some (.int v2), some (.ref (rAid v3)), some (.ref (rAid v4)), some (.ref (rAid v5)), some (.int v6), none, none] []) (ia1 : rIsA v1 = true) (ia3 : rIsA v3 = true) (ia4 : rIsA v4 = true) (ia5 : rIsA v5 = true) (h : mX9_cutsTable_b93 rec3 v1 v2 v3 v4 v5 v6 v8 σ = some r) : AW X p l e (RM 1 0 0) s m args below meth c 9 (ZM X below args s 0 0 (QMv f n r)) (rHm f σ) n 0 0 93 [some (.ref 181), some (.ref (rAid v1)), some (.int v2), some (.ref (rAid v3)), some (.ref (rAid v4)), some (.ref (rAid v5)), some (.int v6), none, some (.int v8)] [] := by
  have h : ((mX9_finds v3 v4 v5 (v6 + (1 : Int32)) v8 (1 : Int32) σ).bind fun r1 => (if v2 ≤ v8 then mX9_cutsTable_b132 rec3 v1 v2 v3 v4 v5 v2 r1.2 else ((mX9_endOf v1 v2 (v8 + (1 : Int32)) (44 : Int32) (10 : Int32) r1.2).bind fun r2 => mX9_cutsTable_b132 rec3 v1 v2 v3 v4 v5 r2.1 r2.2))) = some r := h
  refine aw_ald_n C dX9_cutsTable_93 rfl ?_
  refine aw_ald_n C dX9_cutsTable_94 rfl ?_
  refine aw_ald C dX9_cutsTable_95 rfl ?_
  refine aw_ald C dX9_cutsTable_97 rfl ?_
  refine aw_iload C dX9_cutsTable_99 rfl ?_
  refine aw_iconst C 1 dX9_cutsTable_101 ki_1 ?_
  refine aw_iadd C dX9_cutsTable_102 ?_
  refine aw_iload C dX9_cutsTable_103 rfl ?_
  refine aw_iconst C 1 dX9_cutsTable_105 ki_1 ?_
  obtain ⟨r1, h1, h⟩ := Option.bind_eq_some_iff.mp h
  refine aw_callV C (ci := 9) (b := 181) [.ref (rAid v3), .ref (rAid v4), .ref (rAid v5), .int (v6 + (1 : Int32)), .int v8, .int (1 : Int32)] mv_X9_152 rfl rfl (hm_M f σ) (rmX9_finds ia3 ia4 ia5 h1) rfl dX9_cutsTable_106 (Nat.le_of_ble_eq_true rfl) (Nat.le_of_ble_eq_true rfl) rfl (Nat.le_of_ble_eq_true rfl) (Nat.le_of_ble_eq_true rfl) (Nat.le_of_ble_eq_true rfl) (fun v9 f9 n9 hh => ?_)
  obtain ⟨rfl, rfl, rfl⟩ := hh
  refine aw_iload C dX9_cutsTable_109 rfl ?_
  refine aw_iload_n C dX9_cutsTable_111 rfl ?_
  refine aw_icmp_ge C 131 dX9_cutsTable_112 (by decide) (fun q => ?_) (fun q => ?_)
  · rw [if_pos q] at h
    refine aw_iload_n C dX9_cutsTable_131 rfl ?_
    refine aw_fl [some (.ref 181), some (.ref (rAid v1)), some (.int v2), some (.ref (rAid v3)), some (.ref (rAid v4)), some (.ref (rAid v5)), none, none, none] ⟨rfl, ⟨rfl, ⟨rfl, ⟨rfl, ⟨rfl, ⟨rfl, trivial⟩⟩⟩⟩⟩⟩ ?_
    exact rmX9_cutsTable_b132 C Hr3 ia1 ia3 ia4 ia5 h
  · rw [if_neg q] at h
    refine aw_ald_n C dX9_cutsTable_115 rfl ?_
    refine aw_iload_n C dX9_cutsTable_116 rfl ?_
    refine aw_iload C dX9_cutsTable_117 rfl ?_
    refine aw_iconst C 1 dX9_cutsTable_119 ki_1 ?_
    refine aw_iadd C dX9_cutsTable_120 ?_
    refine aw_bipush C 44 dX9_cutsTable_121 kb_44 ?_
    refine aw_bipush C 10 dX9_cutsTable_123 kb_10 ?_
    obtain ⟨r2, h2, h⟩ := Option.bind_eq_some_iff.mp h
    refine aw_callS C [.ref (rAid v1), .int v2, .int (v8 + (1 : Int32)), .int (44 : Int32), .int (10 : Int32)] ms_X9_148 (rmX9_endOf ia1 h2) rfl dX9_cutsTable_125 (Nat.le_of_ble_eq_true rfl) (Nat.le_of_ble_eq_true rfl) rfl (Nat.le_of_ble_eq_true rfl) (Nat.le_of_ble_eq_true rfl) (Nat.le_of_ble_eq_true rfl) (fun v9 f9 n9 hh => ?_)
    obtain ⟨rfl, rfl, rfl⟩ := hh
    refine aw_goto C 132 dX9_cutsTable_128 (by decide) ?_
    refine aw_fl [some (.ref 181), some (.ref (rAid v1)), some (.int v2), some (.ref (rAid v3)), some (.ref (rAid v4)), some (.ref (rAid v5)), none, none, none] ⟨rfl, ⟨rfl, ⟨rfl, ⟨rfl, ⟨rfl, ⟨rfl, trivial⟩⟩⟩⟩⟩⟩ ?_
    exact rmX9_cutsTable_b132 C Hr3 ia1 ia3 ia4 ia5 h
def mX9_cutsTable_b87 (rec3 : Nat → Int32 → Nat → Nat → Nat → Int32 → RS9 → Option (Int32 × RS9)) (rec37 : Nat → Int32 → Nat → Nat → Nat → Int32 → Int32 → RS9 → Option (Int32 × RS9)) (v1 : Nat) (v2 : Int32) (v3 : Nat) (v4 : Nat) (v5 : Nat) (v6 : Int32) (s0 : Int32) (s1 : Int32) (σ : RS9) : Option (Int32 × RS9) := rec37 v1 v2 v3 v4 v5 v6 (s0 + s1) σ
set_option maxHeartbeats 1000000 in
theorem rmX9_cutsTable_b87 {X : GX} {p : Program} {l : Launch} {e : Env} {s : State} {m : MethodId} {args : Array Value} {below : List Frame} {meth : Method} {c : Code} {f : AH} {n : Nat} {r : Int32 × RS9} {rec3 : Nat → Int32 → Nat → Nat → Nat → Int32 → RS9 → Option (Int32 × RS9)} {rec37 : Nat → Int32 → Nat → Nat → Nat → Int32 → Int32 → RS9 → Option (Int32 × RS9)} {v1 : Nat} {v2 : Int32} {v3 : Nat} {v4 : Nat} {v5 : Nat} {v6 : Int32} {s0 : Int32} {s1 : Int32} {σ : RS9} (C : CC X p l (RM 1 0 0) s m args meth c RX9 cX9_cutsTable 9 none) (Hr3 : ∀ (v1 : Nat) (v2 : Int32) (v3 : Nat) (v4 : Nat) (v5 : Nat) (v6 : Int32) (σ : RS9), rIsA v1 = true → rIsA v3 = true → rIsA v4 = true → rIsA v5 = true → rec3 v1 v2 v3 v4 v5 v6 σ = some r → AW X p l e (RM 1 0 0) s m args below meth c 9 (ZM X below args s 0 0 (QMv f n r)) (rHm f σ) n 0 0 3 [some (.ref 181), some (.ref (rAid v1)), some (.int v2), some (.ref (rAid v3)), some (.ref (rAid v4)), some (.ref (rAid v5)), some (.int v6), none, none] []) (Hr37 : ∀ (v1 : Nat) (v2 : Int32) (v3 : Nat) (v4 : Nat) (v5 : Nat) (v6 : Int32) (v8 : Int32) (σ : RS9), rIsA v1 = true → rIsA v3 = true → rIsA v4 = true → rIsA v5 = true → rec37 v1 v2 v3 v4 v5 v6 v8 σ = some r → AW X p l e (RM 1 0 0) s m args below meth c 9 (ZM X below args s 0 0 (QMv f n r)) (rHm f σ) n 0 0 37 [some (.ref 181), some (.ref (rAid v1)), some (.int v2), some (.ref (rAid v3)), some (.ref (rAid v4)), some (.ref (rAid v5)), some (.int v6), none, some (.int v8)] []) (ia1 : rIsA v1 = true) (ia3 : rIsA v3 = true) (ia4 : rIsA v4 = true) (ia5 : rIsA v5 = true) (h : mX9_cutsTable_b87 rec3 rec37 v1 v2 v3 v4 v5 v6 s0 s1 σ = some r) : AW X p l e (RM 1 0 0) s m args below meth c 9 (ZM X below args s 0 0 (QMv f n r)) (rHm f σ) n 0 0 87 [some (.ref 181), some (.ref (rAid v1)), some (.int v2), some (.ref (rAid v3)), some (.ref (rAid v4)), some (.ref (rAid v5)), some (.int v6), none, none] [.int s1, .int s0] := by
  have h : rec37 v1 v2 v3 v4 v5 v6 (s0 + s1) σ = some r := h
  refine aw_iadd C dX9_cutsTable_87 ?_
  refine aw_istore C dX9_cutsTable_88 (by decide) rfl ?_
  refine aw_nl [some (.ref 181), some (.ref (rAid v1)), some (.int v2), some (.ref (rAid v3)), some (.ref (rAid v4)), some (.ref (rAid v5)), some (.int v6), none, some (.int (s0 + s1))] rfl ?_
  refine aw_goto C 37 dX9_cutsTable_90 (by decide) ?_
  refine aw_fl [some (.ref 181), some (.ref (rAid v1)), some (.int v2), some (.ref (rAid v3)), some (.ref (rAid v4)), some (.ref (rAid v5)), some (.int v6), none, some (.int (s0 + s1))] ⟨rfl, ⟨rfl, ⟨rfl, ⟨rfl, ⟨rfl, ⟨rfl, ⟨rfl, ⟨rfl, trivial⟩⟩⟩⟩⟩⟩⟩⟩ ?_
  exact Hr37 v1 v2 v3 v4 v5 v6 (s0 + s1) σ ia1 ia3 ia4 ia5 h
def mX9_cutsTable_b71 (rec3 : Nat → Int32 → Nat → Nat → Nat → Int32 → RS9 → Option (Int32 × RS9)) (rec37 : Nat → Int32 → Nat → Nat → Nat → Int32 → Int32 → RS9 → Option (Int32 × RS9)) (v1 : Nat) (v2 : Int32) (v3 : Nat) (v4 : Nat) (v5 : Nat) (v6 : Int32) (v8 : Int32) (σ : RS9) : Option (Int32 × RS9) := rCk (rIn v8 (rLen v1)) ((if (rGa σ v1 v8) = (34 : Int32) then mX9_cutsTable_b87 rec3 rec37 v1 v2 v3 v4 v5 v6 v8 (2 : Int32) σ else mX9_cutsTable_b87 rec3 rec37 v1 v2 v3 v4 v5 v6 v8 (1 : Int32) σ))
set_option maxHeartbeats 1000000 in
theorem rmX9_cutsTable_b71 {X : GX} {p : Program} {l : Launch} {e : Env} {s : State} {m : MethodId} {args : Array Value} {below : List Frame} {meth : Method} {c : Code} {f : AH} {n : Nat} {r : Int32 × RS9} {rec3 : Nat → Int32 → Nat → Nat → Nat → Int32 → RS9 → Option (Int32 × RS9)} {rec37 : Nat → Int32 → Nat → Nat → Nat → Int32 → Int32 → RS9 → Option (Int32 × RS9)} {v1 : Nat} {v2 : Int32} {v3 : Nat} {v4 : Nat} {v5 : Nat} {v6 : Int32} {v8 : Int32} {σ : RS9} (C : CC X p l (RM 1 0 0) s m args meth c RX9 cX9_cutsTable 9 none) (Hr3 : ∀ (v1 : Nat) (v2 : Int32) (v3 : Nat) (v4 : Nat) (v5 : Nat) (v6 : Int32) (σ : RS9), rIsA v1 = true → rIsA v3 = true → rIsA v4 = true → rIsA v5 = true → rec3 v1 v2 v3 v4 v5 v6 σ = some r → AW X p l e (RM 1 0 0) s m args below meth c 9 (ZM X below args s 0 0 (QMv f n r)) (rHm f σ) n 0 0 3 [some (.ref 181), some (.ref (rAid v1)), some (.int v2), some (.ref (rAid v3)), some (.ref (rAid v4)), some (.ref (rAid v5)), some (.int v6), none, none] []) (Hr37 : ∀ (v1 : Nat) (v2 : Int32) (v3 : Nat) (v4 : Nat) (v5 : Nat) (v6 : Int32) (v8 : Int32) (σ : RS9), rIsA v1 = true → rIsA v3 = true → rIsA v4 = true → rIsA v5 = true → rec37 v1 v2 v3 v4 v5 v6 v8 σ = some r → AW X p l e (RM 1 0 0) s m args below meth c 9 (ZM X below args s 0 0 (QMv f n r)) (rHm f σ) n 0 0 37 [some (.ref 181), some (.ref (rAid v1)), some (.int v2), some (.ref (rAid v3)), some (.ref (rAid v4)), some (.ref (rAid v5)), some (.int v6), none, some (.int v8)] []) (ia1 : rIsA v1 = true) (ia3 : rIsA v3 = true) (ia4 : rIsA v4 = true) (ia5 : rIsA v5 = true) (h : mX9_cutsTable_b71 rec3 rec37 v1 v2 v3 v4 v5 v6 v8 σ = some r) : AW X p l e (RM 1 0 0) s m args below meth c 9 (ZM X below args s 0 0 (QMv f n r)) (rHm f σ) n 0 0 71 [some (.ref 181), some (.ref (rAid v1)), some (.int v2), some (.ref (rAid v3)), some (.ref (rAid v4)), some (.ref (rAid v5)), some (.int v6), none, some (.int v8)] [] := by
  have h : rCk (rIn v8 (rLen v1)) ((if (rGa σ v1 v8) = (34 : Int32) then mX9_cutsTable_b87 rec3 rec37 v1 v2 v3 v4 v5 v6 v8 (2 : Int32) σ else mX9_cutsTable_b87 rec3 rec37 v1 v2 v3 v4 v5 v6 v8 (1 : Int32) σ)) = some r := h
  refine aw_iload C dX9_cutsTable_71 rfl ?_
  refine aw_ald_n C dX9_cutsTable_73 rfl ?_
  refine aw_iload C dX9_cutsTable_74 rfl ?_
  obtain ⟨hb1, h⟩ := ck_some h
  refine am_iald C (rGa σ v1 v8) ia1 (inb_vp hb1) rfl dX9_cutsTable_76 ?_
  refine aw_bipush C 34 dX9_cutsTable_77 kb_34 ?_
  refine aw_icmp_ne C 86 dX9_cutsTable_79 (by decide) (fun q => ?_) (fun q => ?_)
  · rw [if_neg q] at h
    refine aw_iconst C 1 dX9_cutsTable_86 ki_1 ?_
    refine aw_fl [some (.ref 181), some (.ref (rAid v1)), some (.int v2), some (.ref (rAid v3)), some (.ref (rAid v4)), some (.ref (rAid v5)), some (.int v6), none, none] ⟨rfl, ⟨rfl, ⟨rfl, ⟨rfl, ⟨rfl, ⟨rfl, ⟨rfl, trivial⟩⟩⟩⟩⟩⟩⟩ ?_
    exact rmX9_cutsTable_b87 C Hr3 Hr37 ia1 ia3 ia4 ia5 h
  · rw [if_pos q] at h
    refine aw_iconst C 2 dX9_cutsTable_82 ki_2 ?_
    refine aw_goto C 87 dX9_cutsTable_83 (by decide) ?_
    refine aw_fl [some (.ref 181), some (.ref (rAid v1)), some (.int v2), some (.ref (rAid v3)), some (.ref (rAid v4)), some (.ref (rAid v5)), some (.int v6), none, none] ⟨rfl, ⟨rfl, ⟨rfl, ⟨rfl, ⟨rfl, ⟨rfl, ⟨rfl, trivial⟩⟩⟩⟩⟩⟩⟩ ?_
    exact rmX9_cutsTable_b87 C Hr3 Hr37 ia1 ia3 ia4 ia5 h
def mX9_cutsTable_l37 (rec3 : Nat → Int32 → Nat → Nat → Nat → Int32 → RS9 → Option (Int32 × RS9)) : Nat → Nat → Int32 → Nat → Nat → Nat → Int32 → Int32 → RS9 → Option (Int32 × RS9)
  | 0, _, _, _, _, _, _, _, _ => none
  | d + 1, v1, v2, v3, v4, v5, v6, v8, σ => (if v2 ≤ v8 then mX9_cutsTable_b93 rec3 v1 v2 v3 v4 v5 v6 v8 σ else rCk (rIn v8 (rLen v1)) ((if (rGa σ v1 v8) = (34 : Int32) then (if v2 ≤ (v8 + (1 : Int32)) then mX9_cutsTable_b93 rec3 v1 v2 v3 v4 v5 v6 v8 σ else rCk (rIn (v8 + (1 : Int32)) (rLen v1)) ((if (rGa σ v1 (v8 + (1 : Int32))) = (34 : Int32) then mX9_cutsTable_b71 rec3 (fun v1 v2 v3 v4 v5 v6 v8 σ => mX9_cutsTable_l37 rec3 d v1 v2 v3 v4 v5 v6 v8 σ) v1 v2 v3 v4 v5 v6 v8 σ else mX9_cutsTable_b93 rec3 v1 v2 v3 v4 v5 v6 v8 σ))) else mX9_cutsTable_b71 rec3 (fun v1 v2 v3 v4 v5 v6 v8 σ => mX9_cutsTable_l37 rec3 d v1 v2 v3 v4 v5 v6 v8 σ) v1 v2 v3 v4 v5 v6 v8 σ)))
set_option maxHeartbeats 1000000 in
theorem rmX9_cutsTable_l37 {X : GX} {p : Program} {l : Launch} {e : Env} {s : State} {m : MethodId} {args : Array Value} {below : List Frame} {meth : Method} {c : Code} {f : AH} {n : Nat} {r : Int32 × RS9} {rec3 : Nat → Int32 → Nat → Nat → Nat → Int32 → RS9 → Option (Int32 × RS9)} (C : CC X p l (RM 1 0 0) s m args meth c RX9 cX9_cutsTable 9 none) (Hr3 : ∀ (v1 : Nat) (v2 : Int32) (v3 : Nat) (v4 : Nat) (v5 : Nat) (v6 : Int32) (σ : RS9), rIsA v1 = true → rIsA v3 = true → rIsA v4 = true → rIsA v5 = true → rec3 v1 v2 v3 v4 v5 v6 σ = some r → AW X p l e (RM 1 0 0) s m args below meth c 9 (ZM X below args s 0 0 (QMv f n r)) (rHm f σ) n 0 0 3 [some (.ref 181), some (.ref (rAid v1)), some (.int v2), some (.ref (rAid v3)), some (.ref (rAid v4)), some (.ref (rAid v5)), some (.int v6), none, none] []) : ∀ (d : Nat) (v1 : Nat) (v2 : Int32) (v3 : Nat) (v4 : Nat) (v5 : Nat) (v6 : Int32) (v8 : Int32) (σ : RS9) (_ : rIsA v1 = true) (_ : rIsA v3 = true) (_ : rIsA v4 = true) (_ : rIsA v5 = true) (_ : mX9_cutsTable_l37 rec3 d v1 v2 v3 v4 v5 v6 v8 σ = some r), AW X p l e (RM 1 0 0) s m args below meth c 9 (ZM X below args s 0 0 (QMv f n r)) (rHm f σ) n 0 0 37 [some (.ref 181), some (.ref (rAid v1)), some (.int v2), some (.ref (rAid v3)), some (.ref (rAid v4)), some (.ref (rAid v5)), some (.int v6), none, some (.int v8)] [] := by
  intro d
  induction d with
  | zero =>
    intro v1 v2 v3 v4 v5 v6 v8 σ ia1 ia3 ia4 ia5 h
    exact nomatch (show (none : Option (Int32 × RS9)) = some r from h)
  | succ d ih =>
    intro v1 v2 v3 v4 v5 v6 v8 σ ia1 ia3 ia4 ia5 h
    have h : (if v2 ≤ v8 then mX9_cutsTable_b93 rec3 v1 v2 v3 v4 v5 v6 v8 σ else rCk (rIn v8 (rLen v1)) ((if (rGa σ v1 v8) = (34 : Int32) then (if v2 ≤ (v8 + (1 : Int32)) then mX9_cutsTable_b93 rec3 v1 v2 v3 v4 v5 v6 v8 σ else rCk (rIn (v8 + (1 : Int32)) (rLen v1)) ((if (rGa σ v1 (v8 + (1 : Int32))) = (34 : Int32) then mX9_cutsTable_b71 rec3 (fun v1 v2 v3 v4 v5 v6 v8 σ => mX9_cutsTable_l37 rec3 d v1 v2 v3 v4 v5 v6 v8 σ) v1 v2 v3 v4 v5 v6 v8 σ else mX9_cutsTable_b93 rec3 v1 v2 v3 v4 v5 v6 v8 σ))) else mX9_cutsTable_b71 rec3 (fun v1 v2 v3 v4 v5 v6 v8 σ => mX9_cutsTable_l37 rec3 d v1 v2 v3 v4 v5 v6 v8 σ) v1 v2 v3 v4 v5 v6 v8 σ))) = some r := h
    refine aw_iload C dX9_cutsTable_37 rfl ?_
    refine aw_iload_n C dX9_cutsTable_39 rfl ?_
    refine aw_icmp_ge C 93 dX9_cutsTable_40 (by decide) (fun q => ?_) (fun q => ?_)
    · rw [if_pos q] at h
      refine aw_fl [some (.ref 181), some (.ref (rAid v1)), some (.int v2), some (.ref (rAid v3)), some (.ref (rAid v4)), some (.ref (rAid v5)), some (.int v6), none, some (.int v8)] ⟨rfl, ⟨rfl, ⟨rfl, ⟨rfl, ⟨rfl, ⟨rfl, ⟨rfl, ⟨rfl, trivial⟩⟩⟩⟩⟩⟩⟩⟩ ?_
      exact rmX9_cutsTable_b93 C Hr3 ia1 ia3 ia4 ia5 h
    · rw [if_neg q] at h
      refine aw_ald_n C dX9_cutsTable_43 rfl ?_
      refine aw_iload C dX9_cutsTable_44 rfl ?_
      obtain ⟨hb1, h⟩ := ck_some h
      refine am_iald C (rGa σ v1 v8) ia1 (inb_vp hb1) rfl dX9_cutsTable_46 ?_
      refine aw_bipush C 34 dX9_cutsTable_47 kb_34 ?_
      refine aw_icmp_ne C 71 dX9_cutsTable_49 (by decide) (fun q => ?_) (fun q => ?_)
      · rw [if_neg q] at h
        refine aw_fl [some (.ref 181), some (.ref (rAid v1)), some (.int v2), some (.ref (rAid v3)), some (.ref (rAid v4)), some (.ref (rAid v5)), some (.int v6), none, some (.int v8)] ⟨rfl, ⟨rfl, ⟨rfl, ⟨rfl, ⟨rfl, ⟨rfl, ⟨rfl, ⟨rfl, trivial⟩⟩⟩⟩⟩⟩⟩⟩ ?_
        exact rmX9_cutsTable_b71 C Hr3 (fun v1 v2 v3 v4 v5 v6 v8 σ ia1 ia3 ia4 ia5 h => ih v1 v2 v3 v4 v5 v6 v8 σ ia1 ia3 ia4 ia5 h) ia1 ia3 ia4 ia5 h
      · rw [if_pos q] at h
        refine aw_iload C dX9_cutsTable_52 rfl ?_
        refine aw_iconst C 1 dX9_cutsTable_54 ki_1 ?_
        refine aw_iadd C dX9_cutsTable_55 ?_
        refine aw_iload_n C dX9_cutsTable_56 rfl ?_
        refine aw_icmp_ge C 93 dX9_cutsTable_57 (by decide) (fun q => ?_) (fun q => ?_)
        · rw [if_pos q] at h
          refine aw_fl [some (.ref 181), some (.ref (rAid v1)), some (.int v2), some (.ref (rAid v3)), some (.ref (rAid v4)), some (.ref (rAid v5)), some (.int v6), none, some (.int v8)] ⟨rfl, ⟨rfl, ⟨rfl, ⟨rfl, ⟨rfl, ⟨rfl, ⟨rfl, ⟨rfl, trivial⟩⟩⟩⟩⟩⟩⟩⟩ ?_
          exact rmX9_cutsTable_b93 C Hr3 ia1 ia3 ia4 ia5 h
        · rw [if_neg q] at h
          refine aw_ald_n C dX9_cutsTable_60 rfl ?_
          refine aw_iload C dX9_cutsTable_61 rfl ?_
          refine aw_iconst C 1 dX9_cutsTable_63 ki_1 ?_
          refine aw_iadd C dX9_cutsTable_64 ?_
          obtain ⟨hb2, h⟩ := ck_some h
          refine am_iald C (rGa σ v1 (v8 + (1 : Int32))) ia1 (inb_vp hb2) rfl dX9_cutsTable_65 ?_
          refine aw_bipush C 34 dX9_cutsTable_66 kb_34 ?_
          refine aw_icmp_ne C 93 dX9_cutsTable_68 (by decide) (fun q => ?_) (fun q => ?_)
          · rw [if_neg q] at h
            refine aw_fl [some (.ref 181), some (.ref (rAid v1)), some (.int v2), some (.ref (rAid v3)), some (.ref (rAid v4)), some (.ref (rAid v5)), some (.int v6), none, some (.int v8)] ⟨rfl, ⟨rfl, ⟨rfl, ⟨rfl, ⟨rfl, ⟨rfl, ⟨rfl, ⟨rfl, trivial⟩⟩⟩⟩⟩⟩⟩⟩ ?_
            exact rmX9_cutsTable_b93 C Hr3 ia1 ia3 ia4 ia5 h
          · rw [if_pos q] at h
            refine aw_fl [some (.ref 181), some (.ref (rAid v1)), some (.int v2), some (.ref (rAid v3)), some (.ref (rAid v4)), some (.ref (rAid v5)), some (.int v6), none, some (.int v8)] ⟨rfl, ⟨rfl, ⟨rfl, ⟨rfl, ⟨rfl, ⟨rfl, ⟨rfl, ⟨rfl, trivial⟩⟩⟩⟩⟩⟩⟩⟩ ?_
            exact rmX9_cutsTable_b71 C Hr3 (fun v1 v2 v3 v4 v5 v6 v8 σ ia1 ia3 ia4 ia5 h => ih v1 v2 v3 v4 v5 v6 v8 σ ia1 ia3 ia4 ia5 h) ia1 ia3 ia4 ia5 h
def mX9_cutsTable_l3 : Nat → Nat → Int32 → Nat → Nat → Nat → Int32 → RS9 → Option (Int32 × RS9)
  | 0, _, _, _, _, _, _, _ => none
  | d + 1, v1, v2, v3, v4, v5, v6, σ => (if v2 ≤ v6 then some ((0 : Int32), σ) else ((mX9_endOf v1 v2 v6 (44 : Int32) (10 : Int32) σ).bind fun r1 => rCk (rIn v6 (rLen v1)) ((if (rGa r1.2 v1 v6) = (34 : Int32) then mX9_cutsTable_l37 (fun v1 v2 v3 v4 v5 v6 σ => mX9_cutsTable_l3 d v1 v2 v3 v4 v5 v6 σ) rFU v1 v2 v3 v4 v5 v6 (v6 + (1 : Int32)) r1.2 else ((mX9_finds v3 v4 v5 v6 r1.1 (0 : Int32) r1.2).bind fun r3 => mX9_cutsTable_b151 (fun v1 v2 v3 v4 v5 v6 σ => mX9_cutsTable_l3 d v1 v2 v3 v4 v5 v6 σ) v1 v2 v3 v4 v5 r1.1 r3.2)))))
set_option maxHeartbeats 1000000 in
theorem rmX9_cutsTable_l3 {X : GX} {p : Program} {l : Launch} {e : Env} {s : State} {m : MethodId} {args : Array Value} {below : List Frame} {meth : Method} {c : Code} {f : AH} {n : Nat} {r : Int32 × RS9} (C : CC X p l (RM 1 0 0) s m args meth c RX9 cX9_cutsTable 9 none) : ∀ (d : Nat) (v1 : Nat) (v2 : Int32) (v3 : Nat) (v4 : Nat) (v5 : Nat) (v6 : Int32) (σ : RS9) (_ : rIsA v1 = true) (_ : rIsA v3 = true) (_ : rIsA v4 = true) (_ : rIsA v5 = true) (_ : mX9_cutsTable_l3 d v1 v2 v3 v4 v5 v6 σ = some r), AW X p l e (RM 1 0 0) s m args below meth c 9 (ZM X below args s 0 0 (QMv f n r)) (rHm f σ) n 0 0 3 [some (.ref 181), some (.ref (rAid v1)), some (.int v2), some (.ref (rAid v3)), some (.ref (rAid v4)), some (.ref (rAid v5)), some (.int v6), none, none] [] := by
  intro d
  induction d with
  | zero =>
    intro v1 v2 v3 v4 v5 v6 σ ia1 ia3 ia4 ia5 h
    exact nomatch (show (none : Option (Int32 × RS9)) = some r from h)
  | succ d ih =>
    intro v1 v2 v3 v4 v5 v6 σ ia1 ia3 ia4 ia5 h
    have h : (if v2 ≤ v6 then some ((0 : Int32), σ) else ((mX9_endOf v1 v2 v6 (44 : Int32) (10 : Int32) σ).bind fun r1 => rCk (rIn v6 (rLen v1)) ((if (rGa r1.2 v1 v6) = (34 : Int32) then mX9_cutsTable_l37 (fun v1 v2 v3 v4 v5 v6 σ => mX9_cutsTable_l3 d v1 v2 v3 v4 v5 v6 σ) rFU v1 v2 v3 v4 v5 v6 (v6 + (1 : Int32)) r1.2 else ((mX9_finds v3 v4 v5 v6 r1.1 (0 : Int32) r1.2).bind fun r3 => mX9_cutsTable_b151 (fun v1 v2 v3 v4 v5 v6 σ => mX9_cutsTable_l3 d v1 v2 v3 v4 v5 v6 σ) v1 v2 v3 v4 v5 r1.1 r3.2))))) = some r := h
    refine aw_iload C dX9_cutsTable_3 rfl ?_
    refine aw_iload_n C dX9_cutsTable_5 rfl ?_
    refine aw_icmp_ge C 160 dX9_cutsTable_6 (by decide) (fun q => ?_) (fun q => ?_)
    · rw [if_pos q] at h
      cases h
      exact aw_vret C rfl dX9_cutsTable_160 (Nat.le_refl _) (Nat.le_refl _) ⟨rfl, rfl, rfl⟩
    · rw [if_neg q] at h
      refine aw_ald_n C dX9_cutsTable_9 rfl ?_
      refine aw_iload_n C dX9_cutsTable_10 rfl ?_
      refine aw_iload C dX9_cutsTable_11 rfl ?_
      refine aw_bipush C 44 dX9_cutsTable_13 kb_44 ?_
      refine aw_bipush C 10 dX9_cutsTable_15 kb_10 ?_
      obtain ⟨r1, h1, h⟩ := Option.bind_eq_some_iff.mp h
      refine aw_callS C [.ref (rAid v1), .int v2, .int v6, .int (44 : Int32), .int (10 : Int32)] ms_X9_148 (rmX9_endOf ia1 h1) rfl dX9_cutsTable_17 (Nat.le_of_ble_eq_true rfl) (Nat.le_of_ble_eq_true rfl) rfl (Nat.le_of_ble_eq_true rfl) (Nat.le_of_ble_eq_true rfl) (Nat.le_of_ble_eq_true rfl) (fun v9 f9 n9 hh => ?_)
      obtain ⟨rfl, rfl, rfl⟩ := hh
      refine aw_istore C dX9_cutsTable_20 (by decide) rfl ?_
      refine aw_nl [some (.ref 181), some (.ref (rAid v1)), some (.int v2), some (.ref (rAid v3)), some (.ref (rAid v4)), some (.ref (rAid v5)), some (.int v6), some (.int r1.1), none] rfl ?_
      refine aw_ald_n C dX9_cutsTable_22 rfl ?_
      refine aw_iload C dX9_cutsTable_23 rfl ?_
      obtain ⟨hb2, h⟩ := ck_some h
      refine am_iald C (rGa r1.2 v1 v6) ia1 (inb_vp hb2) rfl dX9_cutsTable_25 ?_
      refine aw_bipush C 34 dX9_cutsTable_26 kb_34 ?_
      refine aw_icmp_ne C 137 dX9_cutsTable_28 (by decide) (fun q => ?_) (fun q => ?_)
      · rw [if_neg q] at h
        refine aw_ald_n C dX9_cutsTable_137 rfl ?_
        refine aw_ald_n C dX9_cutsTable_138 rfl ?_
        refine aw_ald C dX9_cutsTable_139 rfl ?_
        refine aw_ald C dX9_cutsTable_141 rfl ?_
        refine aw_iload C dX9_cutsTable_143 rfl ?_
        refine aw_iload C dX9_cutsTable_145 rfl ?_
        refine aw_iconst C 0 dX9_cutsTable_147 ki_0 ?_
        obtain ⟨r3, h3, h⟩ := Option.bind_eq_some_iff.mp h
        refine aw_callV C (ci := 9) (b := 181) [.ref (rAid v3), .ref (rAid v4), .ref (rAid v5), .int v6, .int r1.1, .int (0 : Int32)] mv_X9_152 rfl rfl (hm_M f r1.2) (rmX9_finds ia3 ia4 ia5 h3) rfl dX9_cutsTable_148 (Nat.le_of_ble_eq_true rfl) (Nat.le_of_ble_eq_true rfl) rfl (Nat.le_of_ble_eq_true rfl) (Nat.le_of_ble_eq_true rfl) (Nat.le_of_ble_eq_true rfl) (fun v9 f9 n9 hh => ?_)
        obtain ⟨rfl, rfl, rfl⟩ := hh
        refine aw_fl [some (.ref 181), some (.ref (rAid v1)), some (.int v2), some (.ref (rAid v3)), some (.ref (rAid v4)), some (.ref (rAid v5)), none, some (.int r1.1), none] ⟨rfl, ⟨rfl, ⟨rfl, ⟨rfl, ⟨rfl, ⟨rfl, ⟨rfl, trivial⟩⟩⟩⟩⟩⟩⟩ ?_
        exact rmX9_cutsTable_b151 C (fun v1 v2 v3 v4 v5 v6 σ ia1 ia3 ia4 ia5 h => ih v1 v2 v3 v4 v5 v6 σ ia1 ia3 ia4 ia5 h) ia1 ia3 ia4 ia5 h
      · rw [if_pos q] at h
        refine aw_iload C dX9_cutsTable_31 rfl ?_
        refine aw_iconst C 1 dX9_cutsTable_33 ki_1 ?_
        refine aw_iadd C dX9_cutsTable_34 ?_
        refine aw_istore C dX9_cutsTable_35 (by decide) rfl ?_
        refine aw_nl [some (.ref 181), some (.ref (rAid v1)), some (.int v2), some (.ref (rAid v3)), some (.ref (rAid v4)), some (.ref (rAid v5)), some (.int v6), some (.int r1.1), some (.int (v6 + (1 : Int32)))] rfl ?_
        refine aw_fl [some (.ref 181), some (.ref (rAid v1)), some (.int v2), some (.ref (rAid v3)), some (.ref (rAid v4)), some (.ref (rAid v5)), some (.int v6), none, some (.int (v6 + (1 : Int32)))] ⟨rfl, ⟨rfl, ⟨rfl, ⟨rfl, ⟨rfl, ⟨rfl, ⟨rfl, ⟨rfl, trivial⟩⟩⟩⟩⟩⟩⟩⟩ ?_
        exact rmX9_cutsTable_l37 C (fun v1 v2 v3 v4 v5 v6 σ ia1 ia3 ia4 ia5 h => ih v1 v2 v3 v4 v5 v6 σ ia1 ia3 ia4 ia5 h) rFU v1 v2 v3 v4 v5 v6 (v6 + (1 : Int32)) r1.2 ia1 ia3 ia4 ia5 h
def mX9_cutsTable (v1 : Nat) (v2 : Int32) (v3 : Nat) (v4 : Nat) (v5 : Nat) (σ : RS9) : Option (Int32 × RS9) := mX9_cutsTable_l3 rFU v1 v2 v3 v4 v5 (0 : Int32) σ
set_option maxHeartbeats 1000000 in
theorem rmX9_cutsTable {X : GX} {l : Launch} {f : AH} {n : Nat} {r : Int32 × RS9} {v1 : Nat} {v2 : Int32} {v3 : Nat} {v4 : Nat} {v5 : Nat} {σ : RS9} (ia1 : rIsA v1 = true) (ia3 : rIsA v3 = true) (ia4 : rIsA v4 = true) (ia5 : rIsA v5 = true) (h : mX9_cutsTable v1 v2 v3 v4 v5 σ = some r) : AM X l yX9_cutsTable cX9_cutsTable 9 none 1 0 0 [.ref 181, .ref (rAid v1), .int v2, .ref (rAid v3), .ref (rAid v4), .ref (rAid v5)] (rHm f σ) n (QMv f n r) := by
  have h : mX9_cutsTable_l3 rFU v1 v2 v3 v4 v5 (0 : Int32) σ = some r := h
  refine AM.of (by decide +kernel) rfl (Nat.le_of_ble_eq_true rfl) (fun p e s m args below meth c C _ => ?_)
  refine aw_nl [some (.ref 181), some (.ref (rAid v1)), some (.int v2), some (.ref (rAid v3)), some (.ref (rAid v4)), some (.ref (rAid v5)), none, none, none] rfl ?_
  refine aw_iconst C 0 dX9_cutsTable_0 ki_0 ?_
  refine aw_istore C dX9_cutsTable_1 (by decide) rfl ?_
  refine aw_nl [some (.ref 181), some (.ref (rAid v1)), some (.int v2), some (.ref (rAid v3)), some (.ref (rAid v4)), some (.ref (rAid v5)), some (.int (0 : Int32)), none, none] rfl ?_
  refine aw_fl [some (.ref 181), some (.ref (rAid v1)), some (.int v2), some (.ref (rAid v3)), some (.ref (rAid v4)), some (.ref (rAid v5)), some (.int (0 : Int32)), none, none] ⟨rfl, ⟨rfl, ⟨rfl, ⟨rfl, ⟨rfl, ⟨rfl, ⟨rfl, trivial⟩⟩⟩⟩⟩⟩⟩ ?_
  exact rmX9_cutsTable_l3 C rFU v1 v2 v3 v4 v5 (0 : Int32) σ ia1 ia3 ia4 ia5 h
def mX9_isBare_b17 (s0 : Int32) (σ : RS9) : Option (Int32 × RS9) := rCk (rNb s0) (some (s0, σ))
set_option maxHeartbeats 1000000 in
theorem rmX9_isBare_b17 {X : GX} {p : Program} {l : Launch} {e : Env} {s : State} {m : MethodId} {args : Array Value} {below : List Frame} {meth : Method} {c : Code} {f : AH} {n : Nat} {r : Int32 × RS9} {s0 : Int32} {σ : RS9} (C : CC X p l (RM 0 0 0) s m args meth c RX9 cX9_isBare 1 (some .boolean)) (h : mX9_isBare_b17 s0 σ = some r) : AW X p l e (RM 0 0 0) s m args below meth c 1 (ZM X below args s 0 0 (QMi f n r)) (rHm f σ) n 0 0 17 [none] [.int s0] := by
  have h : rCk (rNb s0) (some (s0, σ)) = some r := h
  obtain ⟨hb1, h⟩ := ck_some h
  cases h
  exact aw_iret C rfl (nb_nar hb1) dX9_isBare_17 (Nat.le_refl _) (Nat.le_refl _) ⟨rfl, rfl, rfl⟩
def mX9_isBare_b12 (σ : RS9) : Option (Int32 × RS9) := mX9_isBare_b17 (1 : Int32) σ
set_option maxHeartbeats 1000000 in
theorem rmX9_isBare_b12 {X : GX} {p : Program} {l : Launch} {e : Env} {s : State} {m : MethodId} {args : Array Value} {below : List Frame} {meth : Method} {c : Code} {f : AH} {n : Nat} {r : Int32 × RS9} {σ : RS9} (C : CC X p l (RM 0 0 0) s m args meth c RX9 cX9_isBare 1 (some .boolean)) (h : mX9_isBare_b12 σ = some r) : AW X p l e (RM 0 0 0) s m args below meth c 1 (ZM X below args s 0 0 (QMi f n r)) (rHm f σ) n 0 0 12 [none] [] := by
  have h : mX9_isBare_b17 (1 : Int32) σ = some r := h
  refine aw_iconst C 1 dX9_isBare_12 ki_1 ?_
  refine aw_goto C 17 dX9_isBare_13 (by decide) ?_
  refine aw_fl [none] trivial ?_
  exact rmX9_isBare_b17 C h
def mX9_isBare (v0 : Int32) (σ : RS9) : Option (Int32 × RS9) := (if v0 = (32 : Int32) then mX9_isBare_b12 σ else (if v0 = (10 : Int32) then mX9_isBare_b12 σ else mX9_isBare_b17 (0 : Int32) σ))
set_option maxHeartbeats 1000000 in
theorem rmX9_isBare {X : GX} {l : Launch} {f : AH} {n : Nat} {r : Int32 × RS9} {v0 : Int32} {σ : RS9} (h : mX9_isBare v0 σ = some r) : AM X l yX9_isBare cX9_isBare 1 (some .boolean) 0 0 0 [.int v0] (rHm f σ) n (QMi f n r) := by
  have h : (if v0 = (32 : Int32) then mX9_isBare_b12 σ else (if v0 = (10 : Int32) then mX9_isBare_b12 σ else mX9_isBare_b17 (0 : Int32) σ)) = some r := h
  refine AM.of (by decide +kernel) rfl (Nat.le_of_ble_eq_true rfl) (fun p e s m args below meth c C _ => ?_)
  refine aw_nl [some (.int v0)] rfl ?_
  refine aw_iload_n C dX9_isBare_0 rfl ?_
  refine aw_bipush C 32 dX9_isBare_1 kb_32 ?_
  refine aw_icmp_eq C 12 dX9_isBare_3 (by decide) (fun q => ?_) (fun q => ?_)
  · rw [if_pos q] at h
    refine aw_fl [none] trivial ?_
    exact rmX9_isBare_b12 C h
  · rw [if_neg q] at h
    refine aw_iload_n C dX9_isBare_6 rfl ?_
    refine aw_bipush C 10 dX9_isBare_7 kb_10 ?_
    refine aw_icmp_ne C 16 dX9_isBare_9 (by decide) (fun q => ?_) (fun q => ?_)
    · rw [if_neg q] at h
      refine aw_iconst C 0 dX9_isBare_16 ki_0 ?_
      refine aw_fl [none] trivial ?_
      exact rmX9_isBare_b17 C h
    · rw [if_pos q] at h
      refine aw_fl [none] trivial ?_
      exact rmX9_isBare_b12 C h
def mX9_cutsMarkup_b78 (rec3 : Nat → Int32 → Nat → Nat → Nat → Int32 → RS9 → Option (Int32 × RS9)) (v1 : Nat) (v2 : Int32) (v3 : Nat) (v4 : Nat) (v5 : Nat) (v7 : Int32) (v8 : Int32) (v9 : Int32) (σ : RS9) : Option (Int32 × RS9) := ((mX9_finds v3 v4 v5 v8 v9 (0 : Int32) σ).bind fun r1 => ((mX9_endOf v1 v2 v7 (62 : Int32) (62 : Int32) r1.2).bind fun r2 => rec3 v1 v2 v3 v4 v5 (r2.1 + (1 : Int32)) r2.2))
set_option maxHeartbeats 1000000 in
theorem rmX9_cutsMarkup_b78 {X : GX} {p : Program} {l : Launch} {e : Env} {s : State} {m : MethodId} {args : Array Value} {below : List Frame} {meth : Method} {c : Code} {f : AH} {n : Nat} {r : Int32 × RS9} {rec3 : Nat → Int32 → Nat → Nat → Nat → Int32 → RS9 → Option (Int32 × RS9)} {v1 : Nat} {v2 : Int32} {v3 : Nat} {v4 : Nat} {v5 : Nat} {v7 : Int32} {v8 : Int32} {v9 : Int32} {σ : RS9} (C : CC X p l (RM 1 0 0) s m args meth c RX9 cX9_cutsMarkup 10 none) (Hr3 : ∀ (v1 : Nat) (v2 : Int32) (v3 : Nat) (v4 : Nat) (v5 : Nat) (v6 : Int32) (σ : RS9), rIsA v1 = true → rIsA v3 = true → rIsA v4 = true → rIsA v5 = true → rec3 v1 v2 v3 v4 v5 v6 σ = some r → AW X p l e (RM 1 0 0) s m args below meth c 10 (ZM X below args s 0 0 (QMv f n r)) (rHm f σ) n 0 0 3 [some (.ref 181), some (.ref (rAid v1)), some (.int v2), some (.ref (rAid v3)), some (.ref (rAid v4)), some (.ref (rAid v5)), some (.int v6), none, none, none] []) (ia1 : rIsA v1 = true) (ia3 : rIsA v3 = true) (ia4 : rIsA v4 = true) (ia5 : rIsA v5 = true) (h : mX9_cutsMarkup_b78 rec3 v1 v2 v3 v4 v5 v7 v8 v9 σ = some r) : AW X p l e (RM 1 0 0) s m args below meth c 10 (ZM X below args s 0 0 (QMv f n r)) (rHm f σ) n 0 0 78 [some (.ref 181), some (.ref (rAid v1)), some (.int v2), some (.ref (rAid v3)), some (.ref (rAid v4)), some (.ref (rAid v5)), none, some (.int v7), some (.int v8), some (.int v9)] [] := by
  have h : ((mX9_finds v3 v4 v5 v8 v9 (0 : Int32) σ).bind fun r1 => ((mX9_endOf v1 v2 v7 (62 : Int32) (62 : Int32) r1.2).bind fun r2 => rec3 v1 v2 v3 v4 v5 (r2.1 + (1 : Int32)) r2.2)) = some r := h
  refine aw_ald_n C dX9_cutsMarkup_78 rfl ?_
  refine aw_ald_n C dX9_cutsMarkup_79 rfl ?_
  refine aw_ald C dX9_cutsMarkup_80 rfl ?_
  refine aw_ald C dX9_cutsMarkup_82 rfl ?_
  refine aw_iload C dX9_cutsMarkup_84 rfl ?_
  refine aw_iload C dX9_cutsMarkup_86 rfl ?_
  refine aw_iconst C 0 dX9_cutsMarkup_88 ki_0 ?_
  obtain ⟨r1, h1, h⟩ := Option.bind_eq_some_iff.mp h
  refine aw_callV C (ci := 9) (b := 181) [.ref (rAid v3), .ref (rAid v4), .ref (rAid v5), .int v8, .int v9, .int (0 : Int32)] mv_X9_152 rfl rfl (hm_M f σ) (rmX9_finds ia3 ia4 ia5 h1) rfl dX9_cutsMarkup_89 (Nat.le_of_ble_eq_true rfl) (Nat.le_of_ble_eq_true rfl) rfl (Nat.le_of_ble_eq_true rfl) (Nat.le_of_ble_eq_true rfl) (Nat.le_of_ble_eq_true rfl) (fun v9 f9 n9 hh => ?_)
  obtain ⟨rfl, rfl, rfl⟩ := hh
  refine aw_ald_n C dX9_cutsMarkup_92 rfl ?_
  refine aw_iload_n C dX9_cutsMarkup_93 rfl ?_
  refine aw_iload C dX9_cutsMarkup_94 rfl ?_
  refine aw_bipush C 62 dX9_cutsMarkup_96 kb_62 ?_
  refine aw_bipush C 62 dX9_cutsMarkup_98 kb_62 ?_
  obtain ⟨r2, h2, h⟩ := Option.bind_eq_some_iff.mp h
  refine aw_callS C [.ref (rAid v1), .int v2, .int v7, .int (62 : Int32), .int (62 : Int32)] ms_X9_148 (rmX9_endOf ia1 h2) rfl dX9_cutsMarkup_100 (Nat.le_of_ble_eq_true rfl) (Nat.le_of_ble_eq_true rfl) rfl (Nat.le_of_ble_eq_true rfl) (Nat.le_of_ble_eq_true rfl) (Nat.le_of_ble_eq_true rfl) (fun v9 f9 n9 hh => ?_)
  obtain ⟨rfl, rfl, rfl⟩ := hh
  refine aw_iconst C 1 dX9_cutsMarkup_103 ki_1 ?_
  refine aw_iadd C dX9_cutsMarkup_104 ?_
  refine aw_istore C dX9_cutsMarkup_105 (by decide) rfl ?_
  refine aw_nl [some (.ref 181), some (.ref (rAid v1)), some (.int v2), some (.ref (rAid v3)), some (.ref (rAid v4)), some (.ref (rAid v5)), some (.int (r2.1 + (1 : Int32))), some (.int v7), some (.int v8), some (.int v9)] rfl ?_
  refine aw_goto C 3 dX9_cutsMarkup_107 (by decide) ?_
  refine aw_fl [some (.ref 181), some (.ref (rAid v1)), some (.int v2), some (.ref (rAid v3)), some (.ref (rAid v4)), some (.ref (rAid v5)), some (.int (r2.1 + (1 : Int32))), none, none, none] ⟨rfl, ⟨rfl, ⟨rfl, ⟨rfl, ⟨rfl, ⟨rfl, ⟨rfl, trivial⟩⟩⟩⟩⟩⟩⟩ ?_
  exact Hr3 v1 v2 v3 v4 v5 (r2.1 + (1 : Int32)) r2.2 ia1 ia3 ia4 ia5 h
def mX9_cutsMarkup_l53 (rec3 : Nat → Int32 → Nat → Nat → Nat → Int32 → RS9 → Option (Int32 × RS9)) : Nat → Nat → Int32 → Nat → Nat → Nat → Int32 → Int32 → Int32 → RS9 → Option (Int32 × RS9)
  | 0, _, _, _, _, _, _, _, _, _ => none
  | d + 1, v1, v2, v3, v4, v5, v7, v8, v9, σ => (if v9 ≤ v8 then mX9_cutsMarkup_b78 rec3 v1 v2 v3 v4 v5 v7 v8 v9 σ else rCk (rIn (v9 - (1 : Int32)) (rLen v1)) (((mX9_isBare (rGa σ v1 (v9 - (1 : Int32))) σ).bind fun r2 => (if r2.1 = (0 : Int32) then mX9_cutsMarkup_b78 rec3 v1 v2 v3 v4 v5 v7 v8 v9 r2.2 else mX9_cutsMarkup_l53 rec3 d v1 v2 v3 v4 v5 v7 v8 (v9 + (-1 : Int32)) r2.2))))
set_option maxHeartbeats 1000000 in
theorem rmX9_cutsMarkup_l53 {X : GX} {p : Program} {l : Launch} {e : Env} {s : State} {m : MethodId} {args : Array Value} {below : List Frame} {meth : Method} {c : Code} {f : AH} {n : Nat} {r : Int32 × RS9} {rec3 : Nat → Int32 → Nat → Nat → Nat → Int32 → RS9 → Option (Int32 × RS9)} (C : CC X p l (RM 1 0 0) s m args meth c RX9 cX9_cutsMarkup 10 none) (Hr3 : ∀ (v1 : Nat) (v2 : Int32) (v3 : Nat) (v4 : Nat) (v5 : Nat) (v6 : Int32) (σ : RS9), rIsA v1 = true → rIsA v3 = true → rIsA v4 = true → rIsA v5 = true → rec3 v1 v2 v3 v4 v5 v6 σ = some r → AW X p l e (RM 1 0 0) s m args below meth c 10 (ZM X below args s 0 0 (QMv f n r)) (rHm f σ) n 0 0 3 [some (.ref 181), some (.ref (rAid v1)), some (.int v2), some (.ref (rAid v3)), some (.ref (rAid v4)), some (.ref (rAid v5)), some (.int v6), none, none, none] []) : ∀ (d : Nat) (v1 : Nat) (v2 : Int32) (v3 : Nat) (v4 : Nat) (v5 : Nat) (v7 : Int32) (v8 : Int32) (v9 : Int32) (σ : RS9) (_ : rIsA v1 = true) (_ : rIsA v3 = true) (_ : rIsA v4 = true) (_ : rIsA v5 = true) (_ : mX9_cutsMarkup_l53 rec3 d v1 v2 v3 v4 v5 v7 v8 v9 σ = some r), AW X p l e (RM 1 0 0) s m args below meth c 10 (ZM X below args s 0 0 (QMv f n r)) (rHm f σ) n 0 0 53 [some (.ref 181), some (.ref (rAid v1)), some (.int v2), some (.ref (rAid v3)), some (.ref (rAid v4)), some (.ref (rAid v5)), none, some (.int v7), some (.int v8), some (.int v9)] [] := by
  intro d
  induction d with
  | zero =>
    intro v1 v2 v3 v4 v5 v7 v8 v9 σ ia1 ia3 ia4 ia5 h
    exact nomatch (show (none : Option (Int32 × RS9)) = some r from h)
  | succ d ih =>
    intro v1 v2 v3 v4 v5 v7 v8 v9 σ ia1 ia3 ia4 ia5 h
    have h : (if v9 ≤ v8 then mX9_cutsMarkup_b78 rec3 v1 v2 v3 v4 v5 v7 v8 v9 σ else rCk (rIn (v9 - (1 : Int32)) (rLen v1)) (((mX9_isBare (rGa σ v1 (v9 - (1 : Int32))) σ).bind fun r2 => (if r2.1 = (0 : Int32) then mX9_cutsMarkup_b78 rec3 v1 v2 v3 v4 v5 v7 v8 v9 r2.2 else mX9_cutsMarkup_l53 rec3 d v1 v2 v3 v4 v5 v7 v8 (v9 + (-1 : Int32)) r2.2)))) = some r := h
    refine aw_iload C dX9_cutsMarkup_53 rfl ?_
    refine aw_iload C dX9_cutsMarkup_55 rfl ?_
    refine aw_icmp_le C 78 dX9_cutsMarkup_57 (by decide) (fun q => ?_) (fun q => ?_)
    · rw [if_pos q] at h
      refine aw_fl [some (.ref 181), some (.ref (rAid v1)), some (.int v2), some (.ref (rAid v3)), some (.ref (rAid v4)), some (.ref (rAid v5)), none, some (.int v7), some (.int v8), some (.int v9)] ⟨rfl, ⟨rfl, ⟨rfl, ⟨rfl, ⟨rfl, ⟨rfl, ⟨rfl, ⟨rfl, ⟨rfl, trivial⟩⟩⟩⟩⟩⟩⟩⟩⟩ ?_
      exact rmX9_cutsMarkup_b78 C Hr3 ia1 ia3 ia4 ia5 h
    · rw [if_neg q] at h
      refine aw_ald_n C dX9_cutsMarkup_60 rfl ?_
      refine aw_iload C dX9_cutsMarkup_61 rfl ?_
      refine aw_iconst C 1 dX9_cutsMarkup_63 ki_1 ?_
      refine aw_isub C dX9_cutsMarkup_64 ?_
      obtain ⟨hb1, h⟩ := ck_some h
      refine am_iald C (rGa σ v1 (v9 - (1 : Int32))) ia1 (inb_vp hb1) rfl dX9_cutsMarkup_65 ?_
      obtain ⟨r2, h2, h⟩ := Option.bind_eq_some_iff.mp h
      refine aw_callS C [.int (rGa σ v1 (v9 - (1 : Int32)))] ms_X9_156 (rmX9_isBare h2) rfl dX9_cutsMarkup_66 (Nat.le_of_ble_eq_true rfl) (Nat.le_of_ble_eq_true rfl) rfl (Nat.le_of_ble_eq_true rfl) (Nat.le_of_ble_eq_true rfl) (Nat.le_of_ble_eq_true rfl) (fun v9 f9 n9 hh => ?_)
      obtain ⟨rfl, rfl, rfl⟩ := hh
      refine aw_if_eq C 78 dX9_cutsMarkup_69 (by decide) (fun q => ?_) (fun q => ?_)
      · rw [if_pos q] at h
        refine aw_fl [some (.ref 181), some (.ref (rAid v1)), some (.int v2), some (.ref (rAid v3)), some (.ref (rAid v4)), some (.ref (rAid v5)), none, some (.int v7), some (.int v8), some (.int v9)] ⟨rfl, ⟨rfl, ⟨rfl, ⟨rfl, ⟨rfl, ⟨rfl, ⟨rfl, ⟨rfl, ⟨rfl, trivial⟩⟩⟩⟩⟩⟩⟩⟩⟩ ?_
        exact rmX9_cutsMarkup_b78 C Hr3 ia1 ia3 ia4 ia5 h
      · rw [if_neg q] at h
        refine aw_iinc C (v9 + (-1 : Int32)) dX9_cutsMarkup_72 rfl (by rw [ki_m1]) (by decide) rfl ?_
        refine aw_nl [some (.ref 181), some (.ref (rAid v1)), some (.int v2), some (.ref (rAid v3)), some (.ref (rAid v4)), some (.ref (rAid v5)), none, some (.int v7), some (.int v8), some (.int (v9 + (-1 : Int32)))] rfl ?_
        refine aw_goto C 53 dX9_cutsMarkup_75 (by decide) ?_
        refine aw_fl [some (.ref 181), some (.ref (rAid v1)), some (.int v2), some (.ref (rAid v3)), some (.ref (rAid v4)), some (.ref (rAid v5)), none, some (.int v7), some (.int v8), some (.int (v9 + (-1 : Int32)))] ⟨rfl, ⟨rfl, ⟨rfl, ⟨rfl, ⟨rfl, ⟨rfl, ⟨rfl, ⟨rfl, ⟨rfl, trivial⟩⟩⟩⟩⟩⟩⟩⟩⟩ ?_
        exact ih v1 v2 v3 v4 v5 v7 v8 (v9 + (-1 : Int32)) r2.2 ia1 ia3 ia4 ia5 h
def mX9_cutsMarkup_l30 (rec3 : Nat → Int32 → Nat → Nat → Nat → Int32 → RS9 → Option (Int32 × RS9)) : Nat → Nat → Int32 → Nat → Nat → Nat → Int32 → Int32 → Int32 → RS9 → Option (Int32 × RS9)
  | 0, _, _, _, _, _, _, _, _, _ => none
  | d + 1, v1, v2, v3, v4, v5, v7, v8, v9, σ => (if v9 ≤ v8 then mX9_cutsMarkup_l53 rec3 rFU v1 v2 v3 v4 v5 v7 v8 v9 σ else rCk (rIn v8 (rLen v1)) (((mX9_isBare (rGa σ v1 v8) σ).bind fun r2 => (if r2.1 = (0 : Int32) then mX9_cutsMarkup_l53 rec3 rFU v1 v2 v3 v4 v5 v7 v8 v9 r2.2 else mX9_cutsMarkup_l30 rec3 d v1 v2 v3 v4 v5 v7 (v8 + (1 : Int32)) v9 r2.2))))
set_option maxHeartbeats 1000000 in
theorem rmX9_cutsMarkup_l30 {X : GX} {p : Program} {l : Launch} {e : Env} {s : State} {m : MethodId} {args : Array Value} {below : List Frame} {meth : Method} {c : Code} {f : AH} {n : Nat} {r : Int32 × RS9} {rec3 : Nat → Int32 → Nat → Nat → Nat → Int32 → RS9 → Option (Int32 × RS9)} (C : CC X p l (RM 1 0 0) s m args meth c RX9 cX9_cutsMarkup 10 none) (Hr3 : ∀ (v1 : Nat) (v2 : Int32) (v3 : Nat) (v4 : Nat) (v5 : Nat) (v6 : Int32) (σ : RS9), rIsA v1 = true → rIsA v3 = true → rIsA v4 = true → rIsA v5 = true → rec3 v1 v2 v3 v4 v5 v6 σ = some r → AW X p l e (RM 1 0 0) s m args below meth c 10 (ZM X below args s 0 0 (QMv f n r)) (rHm f σ) n 0 0 3 [some (.ref 181), some (.ref (rAid v1)), some (.int v2), some (.ref (rAid v3)), some (.ref (rAid v4)), some (.ref (rAid v5)), some (.int v6), none, none, none] []) : ∀ (d : Nat) (v1 : Nat) (v2 : Int32) (v3 : Nat) (v4 : Nat) (v5 : Nat) (v7 : Int32) (v8 : Int32) (v9 : Int32) (σ : RS9) (_ : rIsA v1 = true) (_ : rIsA v3 = true) (_ : rIsA v4 = true) (_ : rIsA v5 = true) (_ : mX9_cutsMarkup_l30 rec3 d v1 v2 v3 v4 v5 v7 v8 v9 σ = some r), AW X p l e (RM 1 0 0) s m args below meth c 10 (ZM X below args s 0 0 (QMv f n r)) (rHm f σ) n 0 0 30 [some (.ref 181), some (.ref (rAid v1)), some (.int v2), some (.ref (rAid v3)), some (.ref (rAid v4)), some (.ref (rAid v5)), none, some (.int v7), some (.int v8), some (.int v9)] [] := by
  intro d
  induction d with
  | zero =>
    intro v1 v2 v3 v4 v5 v7 v8 v9 σ ia1 ia3 ia4 ia5 h
    exact nomatch (show (none : Option (Int32 × RS9)) = some r from h)
  | succ d ih =>
    intro v1 v2 v3 v4 v5 v7 v8 v9 σ ia1 ia3 ia4 ia5 h
    have h : (if v9 ≤ v8 then mX9_cutsMarkup_l53 rec3 rFU v1 v2 v3 v4 v5 v7 v8 v9 σ else rCk (rIn v8 (rLen v1)) (((mX9_isBare (rGa σ v1 v8) σ).bind fun r2 => (if r2.1 = (0 : Int32) then mX9_cutsMarkup_l53 rec3 rFU v1 v2 v3 v4 v5 v7 v8 v9 r2.2 else mX9_cutsMarkup_l30 rec3 d v1 v2 v3 v4 v5 v7 (v8 + (1 : Int32)) v9 r2.2)))) = some r := h
    refine aw_iload C dX9_cutsMarkup_30 rfl ?_
    refine aw_iload C dX9_cutsMarkup_32 rfl ?_
    refine aw_icmp_ge C 53 dX9_cutsMarkup_34 (by decide) (fun q => ?_) (fun q => ?_)
    · rw [if_pos q] at h
      refine aw_fl [some (.ref 181), some (.ref (rAid v1)), some (.int v2), some (.ref (rAid v3)), some (.ref (rAid v4)), some (.ref (rAid v5)), none, some (.int v7), some (.int v8), some (.int v9)] ⟨rfl, ⟨rfl, ⟨rfl, ⟨rfl, ⟨rfl, ⟨rfl, ⟨rfl, ⟨rfl, ⟨rfl, trivial⟩⟩⟩⟩⟩⟩⟩⟩⟩ ?_
      exact rmX9_cutsMarkup_l53 C Hr3 rFU v1 v2 v3 v4 v5 v7 v8 v9 σ ia1 ia3 ia4 ia5 h
    · rw [if_neg q] at h
      refine aw_ald_n C dX9_cutsMarkup_37 rfl ?_
      refine aw_iload C dX9_cutsMarkup_38 rfl ?_
      obtain ⟨hb1, h⟩ := ck_some h
      refine am_iald C (rGa σ v1 v8) ia1 (inb_vp hb1) rfl dX9_cutsMarkup_40 ?_
      obtain ⟨r2, h2, h⟩ := Option.bind_eq_some_iff.mp h
      refine aw_callS C [.int (rGa σ v1 v8)] ms_X9_156 (rmX9_isBare h2) rfl dX9_cutsMarkup_41 (Nat.le_of_ble_eq_true rfl) (Nat.le_of_ble_eq_true rfl) rfl (Nat.le_of_ble_eq_true rfl) (Nat.le_of_ble_eq_true rfl) (Nat.le_of_ble_eq_true rfl) (fun v9 f9 n9 hh => ?_)
      obtain ⟨rfl, rfl, rfl⟩ := hh
      refine aw_if_eq C 53 dX9_cutsMarkup_44 (by decide) (fun q => ?_) (fun q => ?_)
      · rw [if_pos q] at h
        refine aw_fl [some (.ref 181), some (.ref (rAid v1)), some (.int v2), some (.ref (rAid v3)), some (.ref (rAid v4)), some (.ref (rAid v5)), none, some (.int v7), some (.int v8), some (.int v9)] ⟨rfl, ⟨rfl, ⟨rfl, ⟨rfl, ⟨rfl, ⟨rfl, ⟨rfl, ⟨rfl, ⟨rfl, trivial⟩⟩⟩⟩⟩⟩⟩⟩⟩ ?_
        exact rmX9_cutsMarkup_l53 C Hr3 rFU v1 v2 v3 v4 v5 v7 v8 v9 r2.2 ia1 ia3 ia4 ia5 h
      · rw [if_neg q] at h
        refine aw_iinc C (v8 + (1 : Int32)) dX9_cutsMarkup_47 rfl (by rw [ki_1]) (by decide) rfl ?_
        refine aw_nl [some (.ref 181), some (.ref (rAid v1)), some (.int v2), some (.ref (rAid v3)), some (.ref (rAid v4)), some (.ref (rAid v5)), none, some (.int v7), some (.int (v8 + (1 : Int32))), some (.int v9)] rfl ?_
        refine aw_goto C 30 dX9_cutsMarkup_50 (by decide) ?_
        refine aw_fl [some (.ref 181), some (.ref (rAid v1)), some (.int v2), some (.ref (rAid v3)), some (.ref (rAid v4)), some (.ref (rAid v5)), none, some (.int v7), some (.int (v8 + (1 : Int32))), some (.int v9)] ⟨rfl, ⟨rfl, ⟨rfl, ⟨rfl, ⟨rfl, ⟨rfl, ⟨rfl, ⟨rfl, ⟨rfl, trivial⟩⟩⟩⟩⟩⟩⟩⟩⟩ ?_
        exact ih v1 v2 v3 v4 v5 v7 (v8 + (1 : Int32)) v9 r2.2 ia1 ia3 ia4 ia5 h
def mX9_cutsMarkup_l3 : Nat → Nat → Int32 → Nat → Nat → Nat → Int32 → RS9 → Option (Int32 × RS9)
  | 0, _, _, _, _, _, _, _ => none
  | d + 1, v1, v2, v3, v4, v5, v6, σ => (if v2 ≤ v6 then some ((0 : Int32), σ) else ((mX9_endOf v1 v2 v6 (60 : Int32) (60 : Int32) σ).bind fun r1 => mX9_cutsMarkup_l30 (fun v1 v2 v3 v4 v5 v6 σ => mX9_cutsMarkup_l3 d v1 v2 v3 v4 v5 v6 σ) rFU v1 v2 v3 v4 v5 r1.1 v6 r1.1 r1.2))
set_option maxHeartbeats 1000000 in
theorem rmX9_cutsMarkup_l3 {X : GX} {p : Program} {l : Launch} {e : Env} {s : State} {m : MethodId} {args : Array Value} {below : List Frame} {meth : Method} {c : Code} {f : AH} {n : Nat} {r : Int32 × RS9} (C : CC X p l (RM 1 0 0) s m args meth c RX9 cX9_cutsMarkup 10 none) : ∀ (d : Nat) (v1 : Nat) (v2 : Int32) (v3 : Nat) (v4 : Nat) (v5 : Nat) (v6 : Int32) (σ : RS9) (_ : rIsA v1 = true) (_ : rIsA v3 = true) (_ : rIsA v4 = true) (_ : rIsA v5 = true) (_ : mX9_cutsMarkup_l3 d v1 v2 v3 v4 v5 v6 σ = some r), AW X p l e (RM 1 0 0) s m args below meth c 10 (ZM X below args s 0 0 (QMv f n r)) (rHm f σ) n 0 0 3 [some (.ref 181), some (.ref (rAid v1)), some (.int v2), some (.ref (rAid v3)), some (.ref (rAid v4)), some (.ref (rAid v5)), some (.int v6), none, none, none] [] := by
  intro d
  induction d with
  | zero =>
    intro v1 v2 v3 v4 v5 v6 σ ia1 ia3 ia4 ia5 h
    exact nomatch (show (none : Option (Int32 × RS9)) = some r from h)
  | succ d ih =>
    intro v1 v2 v3 v4 v5 v6 σ ia1 ia3 ia4 ia5 h
    have h : (if v2 ≤ v6 then some ((0 : Int32), σ) else ((mX9_endOf v1 v2 v6 (60 : Int32) (60 : Int32) σ).bind fun r1 => mX9_cutsMarkup_l30 (fun v1 v2 v3 v4 v5 v6 σ => mX9_cutsMarkup_l3 d v1 v2 v3 v4 v5 v6 σ) rFU v1 v2 v3 v4 v5 r1.1 v6 r1.1 r1.2)) = some r := h
    refine aw_iload C dX9_cutsMarkup_3 rfl ?_
    refine aw_iload_n C dX9_cutsMarkup_5 rfl ?_
    refine aw_icmp_ge C 110 dX9_cutsMarkup_6 (by decide) (fun q => ?_) (fun q => ?_)
    · rw [if_pos q] at h
      cases h
      exact aw_vret C rfl dX9_cutsMarkup_110 (Nat.le_refl _) (Nat.le_refl _) ⟨rfl, rfl, rfl⟩
    · rw [if_neg q] at h
      refine aw_ald_n C dX9_cutsMarkup_9 rfl ?_
      refine aw_iload_n C dX9_cutsMarkup_10 rfl ?_
      refine aw_iload C dX9_cutsMarkup_11 rfl ?_
      refine aw_bipush C 60 dX9_cutsMarkup_13 kb_60 ?_
      refine aw_bipush C 60 dX9_cutsMarkup_15 kb_60 ?_
      obtain ⟨r1, h1, h⟩ := Option.bind_eq_some_iff.mp h
      refine aw_callS C [.ref (rAid v1), .int v2, .int v6, .int (60 : Int32), .int (60 : Int32)] ms_X9_148 (rmX9_endOf ia1 h1) rfl dX9_cutsMarkup_17 (Nat.le_of_ble_eq_true rfl) (Nat.le_of_ble_eq_true rfl) rfl (Nat.le_of_ble_eq_true rfl) (Nat.le_of_ble_eq_true rfl) (Nat.le_of_ble_eq_true rfl) (fun v9 f9 n9 hh => ?_)
      obtain ⟨rfl, rfl, rfl⟩ := hh
      refine aw_istore C dX9_cutsMarkup_20 (by decide) rfl ?_
      refine aw_nl [some (.ref 181), some (.ref (rAid v1)), some (.int v2), some (.ref (rAid v3)), some (.ref (rAid v4)), some (.ref (rAid v5)), some (.int v6), some (.int r1.1), none, none] rfl ?_
      refine aw_iload C dX9_cutsMarkup_22 rfl ?_
      refine aw_istore C dX9_cutsMarkup_24 (by decide) rfl ?_
      refine aw_nl [some (.ref 181), some (.ref (rAid v1)), some (.int v2), some (.ref (rAid v3)), some (.ref (rAid v4)), some (.ref (rAid v5)), some (.int v6), some (.int r1.1), some (.int v6), none] rfl ?_
      refine aw_iload C dX9_cutsMarkup_26 rfl ?_
      refine aw_istore C dX9_cutsMarkup_28 (by decide) rfl ?_
      refine aw_nl [some (.ref 181), some (.ref (rAid v1)), some (.int v2), some (.ref (rAid v3)), some (.ref (rAid v4)), some (.ref (rAid v5)), some (.int v6), some (.int r1.1), some (.int v6), some (.int r1.1)] rfl ?_
      refine aw_fl [some (.ref 181), some (.ref (rAid v1)), some (.int v2), some (.ref (rAid v3)), some (.ref (rAid v4)), some (.ref (rAid v5)), none, some (.int r1.1), some (.int v6), some (.int r1.1)] ⟨rfl, ⟨rfl, ⟨rfl, ⟨rfl, ⟨rfl, ⟨rfl, ⟨rfl, ⟨rfl, ⟨rfl, trivial⟩⟩⟩⟩⟩⟩⟩⟩⟩ ?_
      exact rmX9_cutsMarkup_l30 C (fun v1 v2 v3 v4 v5 v6 σ ia1 ia3 ia4 ia5 h => ih v1 v2 v3 v4 v5 v6 σ ia1 ia3 ia4 ia5 h) rFU v1 v2 v3 v4 v5 r1.1 v6 r1.1 r1.2 ia1 ia3 ia4 ia5 h
def mX9_cutsMarkup (v1 : Nat) (v2 : Int32) (v3 : Nat) (v4 : Nat) (v5 : Nat) (σ : RS9) : Option (Int32 × RS9) := mX9_cutsMarkup_l3 rFU v1 v2 v3 v4 v5 (0 : Int32) σ
set_option maxHeartbeats 1000000 in
theorem rmX9_cutsMarkup {X : GX} {l : Launch} {f : AH} {n : Nat} {r : Int32 × RS9} {v1 : Nat} {v2 : Int32} {v3 : Nat} {v4 : Nat} {v5 : Nat} {σ : RS9} (ia1 : rIsA v1 = true) (ia3 : rIsA v3 = true) (ia4 : rIsA v4 = true) (ia5 : rIsA v5 = true) (h : mX9_cutsMarkup v1 v2 v3 v4 v5 σ = some r) : AM X l yX9_cutsMarkup cX9_cutsMarkup 10 none 1 0 0 [.ref 181, .ref (rAid v1), .int v2, .ref (rAid v3), .ref (rAid v4), .ref (rAid v5)] (rHm f σ) n (QMv f n r) := by
  have h : mX9_cutsMarkup_l3 rFU v1 v2 v3 v4 v5 (0 : Int32) σ = some r := h
  refine AM.of (by decide +kernel) rfl (Nat.le_of_ble_eq_true rfl) (fun p e s m args below meth c C _ => ?_)
  refine aw_nl [some (.ref 181), some (.ref (rAid v1)), some (.int v2), some (.ref (rAid v3)), some (.ref (rAid v4)), some (.ref (rAid v5)), none, none, none, none] rfl ?_
  refine aw_iconst C 0 dX9_cutsMarkup_0 ki_0 ?_
  refine aw_istore C dX9_cutsMarkup_1 (by decide) rfl ?_
  refine aw_nl [some (.ref 181), some (.ref (rAid v1)), some (.int v2), some (.ref (rAid v3)), some (.ref (rAid v4)), some (.ref (rAid v5)), some (.int (0 : Int32)), none, none, none] rfl ?_
  refine aw_fl [some (.ref 181), some (.ref (rAid v1)), some (.int v2), some (.ref (rAid v3)), some (.ref (rAid v4)), some (.ref (rAid v5)), some (.int (0 : Int32)), none, none, none] ⟨rfl, ⟨rfl, ⟨rfl, ⟨rfl, ⟨rfl, ⟨rfl, ⟨rfl, trivial⟩⟩⟩⟩⟩⟩⟩ ?_
  exact rmX9_cutsMarkup_l3 C rFU v1 v2 v3 v4 v5 (0 : Int32) σ ia1 ia3 ia4 ia5 h
