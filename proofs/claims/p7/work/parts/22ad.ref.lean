def mX9_cutsQuotes_b161 (rec12 : Nat → Int32 → Nat → Nat → Nat → Int32 → RS9 → Option (Int32 × RS9)) (v1 : Nat) (v2 : Int32) (v3 : Nat) (v4 : Nat) (v5 : Nat) (s0 : Int32) (σ : RS9) : Option (Int32 × RS9) := rec12 v1 v2 v3 v4 v5 s0 σ
set_option maxHeartbeats 1000000 in
theorem rmX9_cutsQuotes_b161 {X : GX} {p : Program} {l : Launch} {e : Env} {s : State} {m : MethodId} {args : Array Value} {below : List Frame} {meth : Method} {c : Code} {f : AH} {n : Nat} {r : Int32 × RS9} {rec12 : Nat → Int32 → Nat → Nat → Nat → Int32 → RS9 → Option (Int32 × RS9)} {v1 : Nat} {v2 : Int32} {v3 : Nat} {v4 : Nat} {v5 : Nat} {s0 : Int32} {σ : RS9} (C : CC X p l (RM 1 0 0) s m args meth c RX9 cX9_cutsQuotes 9 none) (Hr12 : ∀ (v1 : Nat) (v2 : Int32) (v3 : Nat) (v4 : Nat) (v5 : Nat) (v6 : Int32) (σ : RS9), rIsA v1 = true → rIsA v3 = true → rIsA v4 = true → rIsA v5 = true → rec12 v1 v2 v3 v4 v5 v6 σ = some r → AW X p l e (RM 1 0 0) s m args below meth c 9 (ZM X below args s 0 0 (QMv f n r)) (rHm f σ) n 0 0 12 [some (.ref 181), some (.ref (rAid v1)), some (.int v2), some (.ref (rAid v3)), some (.ref (rAid v4)), some (.ref (rAid v5)), some (.int v6), none, none] []) (ia1 : rIsA v1 = true) (ia3 : rIsA v3 = true) (ia4 : rIsA v4 = true) (ia5 : rIsA v5 = true) (h : mX9_cutsQuotes_b161 rec12 v1 v2 v3 v4 v5 s0 σ = some r) : AW X p l e (RM 1 0 0) s m args below meth c 9 (ZM X below args s 0 0 (QMv f n r)) (rHm f σ) n 0 0 161 [some (.ref 181), some (.ref (rAid v1)), some (.int v2), some (.ref (rAid v3)), some (.ref (rAid v4)), some (.ref (rAid v5)), none, none, none] [.int s0] := by
  have h : rec12 v1 v2 v3 v4 v5 s0 σ = some r := h
  refine aw_istore C dX9_cutsQuotes_161 (by decide) rfl ?_
  refine aw_nl [some (.ref 181), some (.ref (rAid v1)), some (.int v2), some (.ref (rAid v3)), some (.ref (rAid v4)), some (.ref (rAid v5)), some (.int s0), none, none] rfl ?_
  refine aw_goto C 12 dX9_cutsQuotes_163 (by decide) ?_
  refine aw_fl [some (.ref 181), some (.ref (rAid v1)), some (.int v2), some (.ref (rAid v3)), some (.ref (rAid v4)), some (.ref (rAid v5)), some (.int s0), none, none] ⟨rfl, ⟨rfl, ⟨rfl, ⟨rfl, ⟨rfl, ⟨rfl, ⟨rfl, trivial⟩⟩⟩⟩⟩⟩⟩ ?_
  exact Hr12 v1 v2 v3 v4 v5 s0 σ ia1 ia3 ia4 ia5 h
def mX9_cutsQuotes_b138 (rec12 : Nat → Int32 → Nat → Nat → Nat → Int32 → RS9 → Option (Int32 × RS9)) (v1 : Nat) (v2 : Int32) (v3 : Nat) (v4 : Nat) (v5 : Nat) (v7 : Int32) (σ : RS9) : Option (Int32 × RS9) := (if v2 ≤ v7 then mX9_cutsQuotes_b161 rec12 v1 v2 v3 v4 v5 v2 σ else ((mX9_endOf v1 v2 (v7 + (1 : Int32)) (34 : Int32) (34 : Int32) σ).bind fun r1 => mX9_cutsQuotes_b161 rec12 v1 v2 v3 v4 v5 r1.1 r1.2))
set_option maxHeartbeats 1000000 in
theorem rmX9_cutsQuotes_b138 {X : GX} {p : Program} {l : Launch} {e : Env} {s : State} {m : MethodId} {args : Array Value} {below : List Frame} {meth : Method} {c : Code} {f : AH} {n : Nat} {r : Int32 × RS9} {rec12 : Nat → Int32 → Nat → Nat → Nat → Int32 → RS9 → Option (Int32 × RS9)} {v1 : Nat} {v2 : Int32} {v3 : Nat} {v4 : Nat} {v5 : Nat} {v7 : Int32} {σ : RS9} (C : CC X p l (RM 1 0 0) s m args meth c RX9 cX9_cutsQuotes 9 none) (Hr12 : ∀ (v1 : Nat) (v2 : Int32) (v3 : Nat) (v4 : Nat) (v5 : Nat) (v6 : Int32) (σ : RS9), rIsA v1 = true → rIsA v3 = true → rIsA v4 = true → rIsA v5 = true → rec12 v1 v2 v3 v4 v5 v6 σ = some r → AW X p l e (RM 1 0 0) s m args below meth c 9 (ZM X below args s 0 0 (QMv f n r)) (rHm f σ) n 0 0 12 [some (.ref 181), some (.ref (rAid v1)), some (.int v2), some (.ref (rAid v3)), some (.ref (rAid v4)), some (.ref (rAid v5)), some (.int v6), none, none] []) (ia1 : rIsA v1 = true) (ia3 : rIsA v3 = true) (ia4 : rIsA v4 = true) (ia5 : rIsA v5 = true) (h : mX9_cutsQuotes_b138 rec12 v1 v2 v3 v4 v5 v7 σ = some r) : AW X p l e (RM 1 0 0) s m args below meth c 9 (ZM X below args s 0 0 (QMv f n r)) (rHm f σ) n 0 0 138 [some (.ref 181), some (.ref (rAid v1)), some (.int v2), some (.ref (rAid v3)), some (.ref (rAid v4)), some (.ref (rAid v5)), none, some (.int v7), none] [] := by
  have h : (if v2 ≤ v7 then mX9_cutsQuotes_b161 rec12 v1 v2 v3 v4 v5 v2 σ else ((mX9_endOf v1 v2 (v7 + (1 : Int32)) (34 : Int32) (34 : Int32) σ).bind fun r1 => mX9_cutsQuotes_b161 rec12 v1 v2 v3 v4 v5 r1.1 r1.2)) = some r := h
  refine aw_iload C dX9_cutsQuotes_138 rfl ?_
  refine aw_iload_n C dX9_cutsQuotes_140 rfl ?_
  refine aw_icmp_ge C 160 dX9_cutsQuotes_141 (by decide) (fun q => ?_) (fun q => ?_)
  · rw [if_pos q] at h
    refine aw_iload_n C dX9_cutsQuotes_160 rfl ?_
    refine aw_fl [some (.ref 181), some (.ref (rAid v1)), some (.int v2), some (.ref (rAid v3)), some (.ref (rAid v4)), some (.ref (rAid v5)), none, none, none] ⟨rfl, ⟨rfl, ⟨rfl, ⟨rfl, ⟨rfl, ⟨rfl, trivial⟩⟩⟩⟩⟩⟩ ?_
    exact rmX9_cutsQuotes_b161 C Hr12 ia1 ia3 ia4 ia5 h
  · rw [if_neg q] at h
    refine aw_ald_n C dX9_cutsQuotes_144 rfl ?_
    refine aw_iload_n C dX9_cutsQuotes_145 rfl ?_
    refine aw_iload C dX9_cutsQuotes_146 rfl ?_
    refine aw_iconst C 1 dX9_cutsQuotes_148 ki_1 ?_
    refine aw_iadd C dX9_cutsQuotes_149 ?_
    refine aw_bipush C 34 dX9_cutsQuotes_150 kb_34 ?_
    refine aw_bipush C 34 dX9_cutsQuotes_152 kb_34 ?_
    obtain ⟨r1, h1, h⟩ := Option.bind_eq_some_iff.mp h
    refine aw_callS C [.ref (rAid v1), .int v2, .int (v7 + (1 : Int32)), .int (34 : Int32), .int (34 : Int32)] ms_X9_148 (rmX9_endOf ia1 h1) rfl dX9_cutsQuotes_154 (Nat.le_of_ble_eq_true rfl) (Nat.le_of_ble_eq_true rfl) rfl (Nat.le_of_ble_eq_true rfl) (Nat.le_of_ble_eq_true rfl) (Nat.le_of_ble_eq_true rfl) (fun v9 f9 n9 hh => ?_)
    obtain ⟨rfl, rfl, rfl⟩ := hh
    refine aw_goto C 161 dX9_cutsQuotes_157 (by decide) ?_
    refine aw_fl [some (.ref 181), some (.ref (rAid v1)), some (.int v2), some (.ref (rAid v3)), some (.ref (rAid v4)), some (.ref (rAid v5)), none, none, none] ⟨rfl, ⟨rfl, ⟨rfl, ⟨rfl, ⟨rfl, ⟨rfl, trivial⟩⟩⟩⟩⟩⟩ ?_
    exact rmX9_cutsQuotes_b161 C Hr12 ia1 ia3 ia4 ia5 h
def mX9_cutsQuotes_b134 (rec12 : Nat → Int32 → Nat → Nat → Nat → Int32 → RS9 → Option (Int32 × RS9)) (v1 : Nat) (v2 : Int32) (v3 : Nat) (v4 : Nat) (v5 : Nat) (v7 : Int32) (s1 : Nat) (s2 : Nat) (s3 : Nat) (s4 : Int32) (s5 : Int32) (σ : RS9) : Option (Int32 × RS9) := ((mX9_finds s1 s2 s3 s4 s5 (0 : Int32) σ).bind fun r1 => mX9_cutsQuotes_b138 rec12 v1 v2 v3 v4 v5 v7 r1.2)
set_option maxHeartbeats 1000000 in
theorem rmX9_cutsQuotes_b134 {X : GX} {p : Program} {l : Launch} {e : Env} {s : State} {m : MethodId} {args : Array Value} {below : List Frame} {meth : Method} {c : Code} {f : AH} {n : Nat} {r : Int32 × RS9} {rec12 : Nat → Int32 → Nat → Nat → Nat → Int32 → RS9 → Option (Int32 × RS9)} {v1 : Nat} {v2 : Int32} {v3 : Nat} {v4 : Nat} {v5 : Nat} {v7 : Int32} {s1 : Nat} {s2 : Nat} {s3 : Nat} {s4 : Int32} {s5 : Int32} {σ : RS9} (C : CC X p l (RM 1 0 0) s m args meth c RX9 cX9_cutsQuotes 9 none) (Hr12 : ∀ (v1 : Nat) (v2 : Int32) (v3 : Nat) (v4 : Nat) (v5 : Nat) (v6 : Int32) (σ : RS9), rIsA v1 = true → rIsA v3 = true → rIsA v4 = true → rIsA v5 = true → rec12 v1 v2 v3 v4 v5 v6 σ = some r → AW X p l e (RM 1 0 0) s m args below meth c 9 (ZM X below args s 0 0 (QMv f n r)) (rHm f σ) n 0 0 12 [some (.ref 181), some (.ref (rAid v1)), some (.int v2), some (.ref (rAid v3)), some (.ref (rAid v4)), some (.ref (rAid v5)), some (.int v6), none, none] []) (ia1 : rIsA v1 = true) (ia3 : rIsA v3 = true) (ia4 : rIsA v4 = true) (ia5 : rIsA v5 = true) (ias1 : rIsA s1 = true) (ias2 : rIsA s2 = true) (ias3 : rIsA s3 = true) (h : mX9_cutsQuotes_b134 rec12 v1 v2 v3 v4 v5 v7 s1 s2 s3 s4 s5 σ = some r) : AW X p l e (RM 1 0 0) s m args below meth c 9 (ZM X below args s 0 0 (QMv f n r)) (rHm f σ) n 0 0 134 [some (.ref 181), some (.ref (rAid v1)), some (.int v2), some (.ref (rAid v3)), some (.ref (rAid v4)), some (.ref (rAid v5)), none, some (.int v7), none] [.int s5, .int s4, .ref (rAid s3), .ref (rAid s2), .ref (rAid s1), .ref 181] := by
  have h : ((mX9_finds s1 s2 s3 s4 s5 (0 : Int32) σ).bind fun r1 => mX9_cutsQuotes_b138 rec12 v1 v2 v3 v4 v5 v7 r1.2) = some r := h
  refine aw_iconst C 0 dX9_cutsQuotes_134 ki_0 ?_
  obtain ⟨r1, h1, h⟩ := Option.bind_eq_some_iff.mp h
  refine aw_callV C (ci := 9) (b := 181) [.ref (rAid s1), .ref (rAid s2), .ref (rAid s3), .int s4, .int s5, .int (0 : Int32)] mv_X9_152 rfl rfl (hm_M f σ) (rmX9_finds ias1 ias2 ias3 h1) rfl dX9_cutsQuotes_135 (Nat.le_of_ble_eq_true rfl) (Nat.le_of_ble_eq_true rfl) rfl (Nat.le_of_ble_eq_true rfl) (Nat.le_of_ble_eq_true rfl) (Nat.le_of_ble_eq_true rfl) (fun v9 f9 n9 hh => ?_)
  obtain ⟨rfl, rfl, rfl⟩ := hh
  refine aw_fl [some (.ref 181), some (.ref (rAid v1)), some (.int v2), some (.ref (rAid v3)), some (.ref (rAid v4)), some (.ref (rAid v5)), none, some (.int v7), none] ⟨rfl, ⟨rfl, ⟨rfl, ⟨rfl, ⟨rfl, ⟨rfl, ⟨rfl, trivial⟩⟩⟩⟩⟩⟩⟩ ?_
  exact rmX9_cutsQuotes_b138 C Hr12 ia1 ia3 ia4 ia5 h
def mX9_cutsQuotes_b112 (rec12 : Nat → Int32 → Nat → Nat → Nat → Int32 → RS9 → Option (Int32 × RS9)) (v1 : Nat) (v2 : Int32) (v3 : Nat) (v4 : Nat) (v5 : Nat) (v6 : Int32) (v7 : Int32) (σ : RS9) : Option (Int32 × RS9) := (if v2 ≤ v7 then mX9_cutsQuotes_b134 rec12 v1 v2 v3 v4 v5 v7 v3 v4 v5 (v6 + (1 : Int32)) v2 σ else mX9_cutsQuotes_b134 rec12 v1 v2 v3 v4 v5 v7 v3 v4 v5 (v6 + (1 : Int32)) v7 σ)
set_option maxHeartbeats 1000000 in
theorem rmX9_cutsQuotes_b112 {X : GX} {p : Program} {l : Launch} {e : Env} {s : State} {m : MethodId} {args : Array Value} {below : List Frame} {meth : Method} {c : Code} {f : AH} {n : Nat} {r : Int32 × RS9} {rec12 : Nat → Int32 → Nat → Nat → Nat → Int32 → RS9 → Option (Int32 × RS9)} {v1 : Nat} {v2 : Int32} {v3 : Nat} {v4 : Nat} {v5 : Nat} {v6 : Int32} {v7 : Int32} {σ : RS9} (C : CC X p l (RM 1 0 0) s m args meth c RX9 cX9_cutsQuotes 9 none) (Hr12 : ∀ (v1 : Nat) (v2 : Int32) (v3 : Nat) (v4 : Nat) (v5 : Nat) (v6 : Int32) (σ : RS9), rIsA v1 = true → rIsA v3 = true → rIsA v4 = true → rIsA v5 = true → rec12 v1 v2 v3 v4 v5 v6 σ = some r → AW X p l e (RM 1 0 0) s m args below meth c 9 (ZM X below args s 0 0 (QMv f n r)) (rHm f σ) n 0 0 12 [some (.ref 181), some (.ref (rAid v1)), some (.int v2), some (.ref (rAid v3)), some (.ref (rAid v4)), some (.ref (rAid v5)), some (.int v6), none, none] []) (ia1 : rIsA v1 = true) (ia3 : rIsA v3 = true) (ia4 : rIsA v4 = true) (ia5 : rIsA v5 = true) (h : mX9_cutsQuotes_b112 rec12 v1 v2 v3 v4 v5 v6 v7 σ = some r) : AW X p l e (RM 1 0 0) s m args below meth c 9 (ZM X below args s 0 0 (QMv f n r)) (rHm f σ) n 0 0 112 [some (.ref 181), some (.ref (rAid v1)), some (.int v2), some (.ref (rAid v3)), some (.ref (rAid v4)), some (.ref (rAid v5)), some (.int v6), some (.int v7), none] [] := by
  have h : (if v2 ≤ v7 then mX9_cutsQuotes_b134 rec12 v1 v2 v3 v4 v5 v7 v3 v4 v5 (v6 + (1 : Int32)) v2 σ else mX9_cutsQuotes_b134 rec12 v1 v2 v3 v4 v5 v7 v3 v4 v5 (v6 + (1 : Int32)) v7 σ) = some r := h
  refine aw_ald_n C dX9_cutsQuotes_112 rfl ?_
  refine aw_ald_n C dX9_cutsQuotes_113 rfl ?_
  refine aw_ald C dX9_cutsQuotes_114 rfl ?_
  refine aw_ald C dX9_cutsQuotes_116 rfl ?_
  refine aw_iload C dX9_cutsQuotes_118 rfl ?_
  refine aw_iconst C 1 dX9_cutsQuotes_120 ki_1 ?_
  refine aw_iadd C dX9_cutsQuotes_121 ?_
  refine aw_iload C dX9_cutsQuotes_122 rfl ?_
  refine aw_iload_n C dX9_cutsQuotes_124 rfl ?_
  refine aw_icmp_ge C 133 dX9_cutsQuotes_125 (by decide) (fun q => ?_) (fun q => ?_)
  · rw [if_pos q] at h
    refine aw_iload_n C dX9_cutsQuotes_133 rfl ?_
    refine aw_fl [some (.ref 181), some (.ref (rAid v1)), some (.int v2), some (.ref (rAid v3)), some (.ref (rAid v4)), some (.ref (rAid v5)), none, some (.int v7), none] ⟨rfl, ⟨rfl, ⟨rfl, ⟨rfl, ⟨rfl, ⟨rfl, ⟨rfl, trivial⟩⟩⟩⟩⟩⟩⟩ ?_
    exact rmX9_cutsQuotes_b134 C Hr12 ia1 ia3 ia4 ia5 ia3 ia4 ia5 h
  · rw [if_neg q] at h
    refine aw_iload C dX9_cutsQuotes_128 rfl ?_
    refine aw_goto C 134 dX9_cutsQuotes_130 (by decide) ?_
    refine aw_fl [some (.ref 181), some (.ref (rAid v1)), some (.int v2), some (.ref (rAid v3)), some (.ref (rAid v4)), some (.ref (rAid v5)), none, some (.int v7), none] ⟨rfl, ⟨rfl, ⟨rfl, ⟨rfl, ⟨rfl, ⟨rfl, ⟨rfl, trivial⟩⟩⟩⟩⟩⟩⟩ ?_
    exact rmX9_cutsQuotes_b134 C Hr12 ia1 ia3 ia4 ia5 ia3 ia4 ia5 h
def mX9_cutsQuotes_b97 (rec12 : Nat → Int32 → Nat → Nat → Nat → Int32 → RS9 → Option (Int32 × RS9)) (v1 : Nat) (v2 : Int32) (v3 : Nat) (v4 : Nat) (v5 : Nat) (v6 : Int32) (v7 : Int32) (v8 : Int32) (σ : RS9) : Option (Int32 × RS9) := (if v2 ≤ v8 then mX9_cutsQuotes_b112 rec12 v1 v2 v3 v4 v5 v6 v7 σ else rCk (rIn v8 (rLen v1)) ((if (rGa σ v1 v8) = (58 : Int32) then mX9_cutsQuotes_b138 rec12 v1 v2 v3 v4 v5 v7 σ else mX9_cutsQuotes_b112 rec12 v1 v2 v3 v4 v5 v6 v7 σ)))
set_option maxHeartbeats 1000000 in
theorem rmX9_cutsQuotes_b97 {X : GX} {p : Program} {l : Launch} {e : Env} {s : State} {m : MethodId} {args : Array Value} {below : List Frame} {meth : Method} {c : Code} {f : AH} {n : Nat} {r : Int32 × RS9} {rec12 : Nat → Int32 → Nat → Nat → Nat → Int32 → RS9 → Option (Int32 × RS9)} {v1 : Nat} {v2 : Int32} {v3 : Nat} {v4 : Nat} {v5 : Nat} {v6 : Int32} {v7 : Int32} {v8 : Int32} {σ : RS9} (C : CC X p l (RM 1 0 0) s m args meth c RX9 cX9_cutsQuotes 9 none) (Hr12 : ∀ (v1 : Nat) (v2 : Int32) (v3 : Nat) (v4 : Nat) (v5 : Nat) (v6 : Int32) (σ : RS9), rIsA v1 = true → rIsA v3 = true → rIsA v4 = true → rIsA v5 = true → rec12 v1 v2 v3 v4 v5 v6 σ = some r → AW X p l e (RM 1 0 0) s m args below meth c 9 (ZM X below args s 0 0 (QMv f n r)) (rHm f σ) n 0 0 12 [some (.ref 181), some (.ref (rAid v1)), some (.int v2), some (.ref (rAid v3)), some (.ref (rAid v4)), some (.ref (rAid v5)), some (.int v6), none, none] []) (ia1 : rIsA v1 = true) (ia3 : rIsA v3 = true) (ia4 : rIsA v4 = true) (ia5 : rIsA v5 = true) (h : mX9_cutsQuotes_b97 rec12 v1 v2 v3 v4 v5 v6 v7 v8 σ = some r) : AW X p l e (RM 1 0 0) s m args below meth c 9 (ZM X below args s 0 0 (QMv f n r)) (rHm f σ) n 0 0 97 [some (.ref 181), some (.ref (rAid v1)), some (.int v2), some (.ref (rAid v3)), some (.ref (rAid v4)), some (.ref (rAid v5)), some (.int v6), some (.int v7), some (.int v8)] [] := by
  have h : (if v2 ≤ v8 then mX9_cutsQuotes_b112 rec12 v1 v2 v3 v4 v5 v6 v7 σ else rCk (rIn v8 (rLen v1)) ((if (rGa σ v1 v8) = (58 : Int32) then mX9_cutsQuotes_b138 rec12 v1 v2 v3 v4 v5 v7 σ else mX9_cutsQuotes_b112 rec12 v1 v2 v3 v4 v5 v6 v7 σ))) = some r := h
  refine aw_iload C dX9_cutsQuotes_97 rfl ?_
  refine aw_iload_n C dX9_cutsQuotes_99 rfl ?_
  refine aw_icmp_ge C 112 dX9_cutsQuotes_100 (by decide) (fun q => ?_) (fun q => ?_)
  · rw [if_pos q] at h
    refine aw_fl [some (.ref 181), some (.ref (rAid v1)), some (.int v2), some (.ref (rAid v3)), some (.ref (rAid v4)), some (.ref (rAid v5)), some (.int v6), some (.int v7), none] ⟨rfl, ⟨rfl, ⟨rfl, ⟨rfl, ⟨rfl, ⟨rfl, ⟨rfl, ⟨rfl, trivial⟩⟩⟩⟩⟩⟩⟩⟩ ?_
    exact rmX9_cutsQuotes_b112 C Hr12 ia1 ia3 ia4 ia5 h
  · rw [if_neg q] at h
    refine aw_ald_n C dX9_cutsQuotes_103 rfl ?_
    refine aw_iload C dX9_cutsQuotes_104 rfl ?_
    obtain ⟨hb1, h⟩ := ck_some h
    refine am_iald C (rGa σ v1 v8) ia1 (inb_vp hb1) rfl dX9_cutsQuotes_106 ?_
    refine aw_bipush C 58 dX9_cutsQuotes_107 kb_58 ?_
    refine aw_icmp_eq C 138 dX9_cutsQuotes_109 (by decide) (fun q => ?_) (fun q => ?_)
    · rw [if_pos q] at h
      refine aw_fl [some (.ref 181), some (.ref (rAid v1)), some (.int v2), some (.ref (rAid v3)), some (.ref (rAid v4)), some (.ref (rAid v5)), none, some (.int v7), none] ⟨rfl, ⟨rfl, ⟨rfl, ⟨rfl, ⟨rfl, ⟨rfl, ⟨rfl, trivial⟩⟩⟩⟩⟩⟩⟩ ?_
      exact rmX9_cutsQuotes_b138 C Hr12 ia1 ia3 ia4 ia5 h
    · rw [if_neg q] at h
      refine aw_fl [some (.ref 181), some (.ref (rAid v1)), some (.int v2), some (.ref (rAid v3)), some (.ref (rAid v4)), some (.ref (rAid v5)), some (.int v6), some (.int v7), none] ⟨rfl, ⟨rfl, ⟨rfl, ⟨rfl, ⟨rfl, ⟨rfl, ⟨rfl, ⟨rfl, trivial⟩⟩⟩⟩⟩⟩⟩⟩ ?_
      exact rmX9_cutsQuotes_b112 C Hr12 ia1 ia3 ia4 ia5 h
def mX9_cutsQuotes_l75 (rec12 : Nat → Int32 → Nat → Nat → Nat → Int32 → RS9 → Option (Int32 × RS9)) : Nat → Nat → Int32 → Nat → Nat → Nat → Int32 → Int32 → Int32 → RS9 → Option (Int32 × RS9)
  | 0, _, _, _, _, _, _, _, _, _ => none
  | d + 1, v1, v2, v3, v4, v5, v6, v7, v8, σ => (if v2 ≤ v8 then mX9_cutsQuotes_b97 rec12 v1 v2 v3 v4 v5 v6 v7 v8 σ else rCk (rIn v8 (rLen v1)) (((mX9_isBare (rGa σ v1 v8) σ).bind fun r2 => (if r2.1 = (0 : Int32) then mX9_cutsQuotes_b97 rec12 v1 v2 v3 v4 v5 v6 v7 v8 r2.2 else mX9_cutsQuotes_l75 rec12 d v1 v2 v3 v4 v5 v6 v7 (v8 + (1 : Int32)) r2.2))))
set_option maxHeartbeats 1000000 in
theorem rmX9_cutsQuotes_l75 {X : GX} {p : Program} {l : Launch} {e : Env} {s : State} {m : MethodId} {args : Array Value} {below : List Frame} {meth : Method} {c : Code} {f : AH} {n : Nat} {r : Int32 × RS9} {rec12 : Nat → Int32 → Nat → Nat → Nat → Int32 → RS9 → Option (Int32 × RS9)} (C : CC X p l (RM 1 0 0) s m args meth c RX9 cX9_cutsQuotes 9 none) (Hr12 : ∀ (v1 : Nat) (v2 : Int32) (v3 : Nat) (v4 : Nat) (v5 : Nat) (v6 : Int32) (σ : RS9), rIsA v1 = true → rIsA v3 = true → rIsA v4 = true → rIsA v5 = true → rec12 v1 v2 v3 v4 v5 v6 σ = some r → AW X p l e (RM 1 0 0) s m args below meth c 9 (ZM X below args s 0 0 (QMv f n r)) (rHm f σ) n 0 0 12 [some (.ref 181), some (.ref (rAid v1)), some (.int v2), some (.ref (rAid v3)), some (.ref (rAid v4)), some (.ref (rAid v5)), some (.int v6), none, none] []) : ∀ (d : Nat) (v1 : Nat) (v2 : Int32) (v3 : Nat) (v4 : Nat) (v5 : Nat) (v6 : Int32) (v7 : Int32) (v8 : Int32) (σ : RS9) (_ : rIsA v1 = true) (_ : rIsA v3 = true) (_ : rIsA v4 = true) (_ : rIsA v5 = true) (_ : mX9_cutsQuotes_l75 rec12 d v1 v2 v3 v4 v5 v6 v7 v8 σ = some r), AW X p l e (RM 1 0 0) s m args below meth c 9 (ZM X below args s 0 0 (QMv f n r)) (rHm f σ) n 0 0 75 [some (.ref 181), some (.ref (rAid v1)), some (.int v2), some (.ref (rAid v3)), some (.ref (rAid v4)), some (.ref (rAid v5)), some (.int v6), some (.int v7), some (.int v8)] [] := by
  intro d
  induction d with
  | zero =>
    intro v1 v2 v3 v4 v5 v6 v7 v8 σ ia1 ia3 ia4 ia5 h
    exact nomatch (show (none : Option (Int32 × RS9)) = some r from h)
  | succ d ih =>
    intro v1 v2 v3 v4 v5 v6 v7 v8 σ ia1 ia3 ia4 ia5 h
    have h : (if v2 ≤ v8 then mX9_cutsQuotes_b97 rec12 v1 v2 v3 v4 v5 v6 v7 v8 σ else rCk (rIn v8 (rLen v1)) (((mX9_isBare (rGa σ v1 v8) σ).bind fun r2 => (if r2.1 = (0 : Int32) then mX9_cutsQuotes_b97 rec12 v1 v2 v3 v4 v5 v6 v7 v8 r2.2 else mX9_cutsQuotes_l75 rec12 d v1 v2 v3 v4 v5 v6 v7 (v8 + (1 : Int32)) r2.2)))) = some r := h
    refine aw_iload C dX9_cutsQuotes_75 rfl ?_
    refine aw_iload_n C dX9_cutsQuotes_77 rfl ?_
    refine aw_icmp_ge C 97 dX9_cutsQuotes_78 (by decide) (fun q => ?_) (fun q => ?_)
    · rw [if_pos q] at h
      refine aw_fl [some (.ref 181), some (.ref (rAid v1)), some (.int v2), some (.ref (rAid v3)), some (.ref (rAid v4)), some (.ref (rAid v5)), some (.int v6), some (.int v7), some (.int v8)] ⟨rfl, ⟨rfl, ⟨rfl, ⟨rfl, ⟨rfl, ⟨rfl, ⟨rfl, ⟨rfl, ⟨rfl, trivial⟩⟩⟩⟩⟩⟩⟩⟩⟩ ?_
      exact rmX9_cutsQuotes_b97 C Hr12 ia1 ia3 ia4 ia5 h
    · rw [if_neg q] at h
      refine aw_ald_n C dX9_cutsQuotes_81 rfl ?_
      refine aw_iload C dX9_cutsQuotes_82 rfl ?_
      obtain ⟨hb1, h⟩ := ck_some h
      refine am_iald C (rGa σ v1 v8) ia1 (inb_vp hb1) rfl dX9_cutsQuotes_84 ?_
      obtain ⟨r2, h2, h⟩ := Option.bind_eq_some_iff.mp h
      refine aw_callS C [.int (rGa σ v1 v8)] ms_X9_156 (rmX9_isBare h2) rfl dX9_cutsQuotes_85 (Nat.le_of_ble_eq_true rfl) (Nat.le_of_ble_eq_true rfl) rfl (Nat.le_of_ble_eq_true rfl) (Nat.le_of_ble_eq_true rfl) (Nat.le_of_ble_eq_true rfl) (fun v9 f9 n9 hh => ?_)
      obtain ⟨rfl, rfl, rfl⟩ := hh
      refine aw_if_eq C 97 dX9_cutsQuotes_88 (by decide) (fun q => ?_) (fun q => ?_)
      · rw [if_pos q] at h
        refine aw_fl [some (.ref 181), some (.ref (rAid v1)), some (.int v2), some (.ref (rAid v3)), some (.ref (rAid v4)), some (.ref (rAid v5)), some (.int v6), some (.int v7), some (.int v8)] ⟨rfl, ⟨rfl, ⟨rfl, ⟨rfl, ⟨rfl, ⟨rfl, ⟨rfl, ⟨rfl, ⟨rfl, trivial⟩⟩⟩⟩⟩⟩⟩⟩⟩ ?_
        exact rmX9_cutsQuotes_b97 C Hr12 ia1 ia3 ia4 ia5 h
      · rw [if_neg q] at h
        refine aw_iinc C (v8 + (1 : Int32)) dX9_cutsQuotes_91 rfl (by rw [ki_1]) (by decide) rfl ?_
        refine aw_nl [some (.ref 181), some (.ref (rAid v1)), some (.int v2), some (.ref (rAid v3)), some (.ref (rAid v4)), some (.ref (rAid v5)), some (.int v6), some (.int v7), some (.int (v8 + (1 : Int32)))] rfl ?_
        refine aw_goto C 75 dX9_cutsQuotes_94 (by decide) ?_
        refine aw_fl [some (.ref 181), some (.ref (rAid v1)), some (.int v2), some (.ref (rAid v3)), some (.ref (rAid v4)), some (.ref (rAid v5)), some (.int v6), some (.int v7), some (.int (v8 + (1 : Int32)))] ⟨rfl, ⟨rfl, ⟨rfl, ⟨rfl, ⟨rfl, ⟨rfl, ⟨rfl, ⟨rfl, ⟨rfl, trivial⟩⟩⟩⟩⟩⟩⟩⟩⟩ ?_
        exact ih v1 v2 v3 v4 v5 v6 v7 (v8 + (1 : Int32)) r2.2 ia1 ia3 ia4 ia5 h
def mX9_cutsQuotes_b69 (rec12 : Nat → Int32 → Nat → Nat → Nat → Int32 → RS9 → Option (Int32 × RS9)) (v1 : Nat) (v2 : Int32) (v3 : Nat) (v4 : Nat) (v5 : Nat) (v6 : Int32) (v7 : Int32) (σ : RS9) : Option (Int32 × RS9) := mX9_cutsQuotes_l75 rec12 rFU v1 v2 v3 v4 v5 v6 v7 (v7 + (1 : Int32)) σ
set_option maxHeartbeats 1000000 in
theorem rmX9_cutsQuotes_b69 {X : GX} {p : Program} {l : Launch} {e : Env} {s : State} {m : MethodId} {args : Array Value} {below : List Frame} {meth : Method} {c : Code} {f : AH} {n : Nat} {r : Int32 × RS9} {rec12 : Nat → Int32 → Nat → Nat → Nat → Int32 → RS9 → Option (Int32 × RS9)} {v1 : Nat} {v2 : Int32} {v3 : Nat} {v4 : Nat} {v5 : Nat} {v6 : Int32} {v7 : Int32} {σ : RS9} (C : CC X p l (RM 1 0 0) s m args meth c RX9 cX9_cutsQuotes 9 none) (Hr12 : ∀ (v1 : Nat) (v2 : Int32) (v3 : Nat) (v4 : Nat) (v5 : Nat) (v6 : Int32) (σ : RS9), rIsA v1 = true → rIsA v3 = true → rIsA v4 = true → rIsA v5 = true → rec12 v1 v2 v3 v4 v5 v6 σ = some r → AW X p l e (RM 1 0 0) s m args below meth c 9 (ZM X below args s 0 0 (QMv f n r)) (rHm f σ) n 0 0 12 [some (.ref 181), some (.ref (rAid v1)), some (.int v2), some (.ref (rAid v3)), some (.ref (rAid v4)), some (.ref (rAid v5)), some (.int v6), none, none] []) (ia1 : rIsA v1 = true) (ia3 : rIsA v3 = true) (ia4 : rIsA v4 = true) (ia5 : rIsA v5 = true) (h : mX9_cutsQuotes_b69 rec12 v1 v2 v3 v4 v5 v6 v7 σ = some r) : AW X p l e (RM 1 0 0) s m args below meth c 9 (ZM X below args s 0 0 (QMv f n r)) (rHm f σ) n 0 0 69 [some (.ref 181), some (.ref (rAid v1)), some (.int v2), some (.ref (rAid v3)), some (.ref (rAid v4)), some (.ref (rAid v5)), some (.int v6), some (.int v7), none] [] := by
  have h : mX9_cutsQuotes_l75 rec12 rFU v1 v2 v3 v4 v5 v6 v7 (v7 + (1 : Int32)) σ = some r := h
  refine aw_iload C dX9_cutsQuotes_69 rfl ?_
  refine aw_iconst C 1 dX9_cutsQuotes_71 ki_1 ?_
  refine aw_iadd C dX9_cutsQuotes_72 ?_
  refine aw_istore C dX9_cutsQuotes_73 (by decide) rfl ?_
  refine aw_nl [some (.ref 181), some (.ref (rAid v1)), some (.int v2), some (.ref (rAid v3)), some (.ref (rAid v4)), some (.ref (rAid v5)), some (.int v6), some (.int v7), some (.int (v7 + (1 : Int32)))] rfl ?_
  refine aw_fl [some (.ref 181), some (.ref (rAid v1)), some (.int v2), some (.ref (rAid v3)), some (.ref (rAid v4)), some (.ref (rAid v5)), some (.int v6), some (.int v7), some (.int (v7 + (1 : Int32)))] ⟨rfl, ⟨rfl, ⟨rfl, ⟨rfl, ⟨rfl, ⟨rfl, ⟨rfl, ⟨rfl, ⟨rfl, trivial⟩⟩⟩⟩⟩⟩⟩⟩⟩ ?_
  exact rmX9_cutsQuotes_l75 C Hr12 rFU v1 v2 v3 v4 v5 v6 v7 (v7 + (1 : Int32)) σ ia1 ia3 ia4 ia5 h
def mX9_cutsQuotes_b63 (rec12 : Nat → Int32 → Nat → Nat → Nat → Int32 → RS9 → Option (Int32 × RS9)) (rec24 : Nat → Int32 → Nat → Nat → Nat → Int32 → Int32 → RS9 → Option (Int32 × RS9)) (v1 : Nat) (v2 : Int32) (v3 : Nat) (v4 : Nat) (v5 : Nat) (v6 : Int32) (s0 : Int32) (s1 : Int32) (σ : RS9) : Option (Int32 × RS9) := rec24 v1 v2 v3 v4 v5 v6 (s0 + s1) σ
set_option maxHeartbeats 1000000 in
theorem rmX9_cutsQuotes_b63 {X : GX} {p : Program} {l : Launch} {e : Env} {s : State} {m : MethodId} {args : Array Value} {below : List Frame} {meth : Method} {c : Code} {f : AH} {n : Nat} {r : Int32 × RS9} {rec12 : Nat → Int32 → Nat → Nat → Nat → Int32 → RS9 → Option (Int32 × RS9)} {rec24 : Nat → Int32 → Nat → Nat → Nat → Int32 → Int32 → RS9 → Option (Int32 × RS9)} {v1 : Nat} {v2 : Int32} {v3 : Nat} {v4 : Nat} {v5 : Nat} {v6 : Int32} {s0 : Int32} {s1 : Int32} {σ : RS9} (C : CC X p l (RM 1 0 0) s m args meth c RX9 cX9_cutsQuotes 9 none) (Hr12 : ∀ (v1 : Nat) (v2 : Int32) (v3 : Nat) (v4 : Nat) (v5 : Nat) (v6 : Int32) (σ : RS9), rIsA v1 = true → rIsA v3 = true → rIsA v4 = true → rIsA v5 = true → rec12 v1 v2 v3 v4 v5 v6 σ = some r → AW X p l e (RM 1 0 0) s m args below meth c 9 (ZM X below args s 0 0 (QMv f n r)) (rHm f σ) n 0 0 12 [some (.ref 181), some (.ref (rAid v1)), some (.int v2), some (.ref (rAid v3)), some (.ref (rAid v4)), some (.ref (rAid v5)), some (.int v6), none, none] []) (Hr24 : ∀ (v1 : Nat) (v2 : Int32) (v3 : Nat) (v4 : Nat) (v5 : Nat) (v6 : Int32) (v7 : Int32) (σ : RS9), rIsA v1 = true → rIsA v3 = true → rIsA v4 = true → rIsA v5 = true → rec24 v1 v2 v3 v4 v5 v6 v7 σ = some r → AW X p l e (RM 1 0 0) s m args below meth c 9 (ZM X below args s 0 0 (QMv f n r)) (rHm f σ) n 0 0 24 [some (.ref 181), some (.ref (rAid v1)), some (.int v2), some (.ref (rAid v3)), some (.ref (rAid v4)), some (.ref (rAid v5)), some (.int v6), some (.int v7), none] []) (ia1 : rIsA v1 = true) (ia3 : rIsA v3 = true) (ia4 : rIsA v4 = true) (ia5 : rIsA v5 = true) (h : mX9_cutsQuotes_b63 rec12 rec24 v1 v2 v3 v4 v5 v6 s0 s1 σ = some r) : AW X p l e (RM 1 0 0) s m args below meth c 9 (ZM X below args s 0 0 (QMv f n r)) (rHm f σ) n 0 0 63 [some (.ref 181), some (.ref (rAid v1)), some (.int v2), some (.ref (rAid v3)), some (.ref (rAid v4)), some (.ref (rAid v5)), some (.int v6), none, none] [.int s1, .int s0] := by
  have h : rec24 v1 v2 v3 v4 v5 v6 (s0 + s1) σ = some r := h
  refine aw_iadd C dX9_cutsQuotes_63 ?_
  refine aw_istore C dX9_cutsQuotes_64 (by decide) rfl ?_
  refine aw_nl [some (.ref 181), some (.ref (rAid v1)), some (.int v2), some (.ref (rAid v3)), some (.ref (rAid v4)), some (.ref (rAid v5)), some (.int v6), some (.int (s0 + s1)), none] rfl ?_
  refine aw_goto C 24 dX9_cutsQuotes_66 (by decide) ?_
  refine aw_fl [some (.ref 181), some (.ref (rAid v1)), some (.int v2), some (.ref (rAid v3)), some (.ref (rAid v4)), some (.ref (rAid v5)), some (.int v6), some (.int (s0 + s1)), none] ⟨rfl, ⟨rfl, ⟨rfl, ⟨rfl, ⟨rfl, ⟨rfl, ⟨rfl, ⟨rfl, trivial⟩⟩⟩⟩⟩⟩⟩⟩ ?_
  exact Hr24 v1 v2 v3 v4 v5 v6 (s0 + s1) σ ia1 ia3 ia4 ia5 h
def mX9_cutsQuotes_b62 (rec12 : Nat → Int32 → Nat → Nat → Nat → Int32 → RS9 → Option (Int32 × RS9)) (rec24 : Nat → Int32 → Nat → Nat → Nat → Int32 → Int32 → RS9 → Option (Int32 × RS9)) (v1 : Nat) (v2 : Int32) (v3 : Nat) (v4 : Nat) (v5 : Nat) (v6 : Int32) (s0 : Int32) (σ : RS9) : Option (Int32 × RS9) := mX9_cutsQuotes_b63 rec12 rec24 v1 v2 v3 v4 v5 v6 s0 (1 : Int32) σ
set_option maxHeartbeats 1000000 in
theorem rmX9_cutsQuotes_b62 {X : GX} {p : Program} {l : Launch} {e : Env} {s : State} {m : MethodId} {args : Array Value} {below : List Frame} {meth : Method} {c : Code} {f : AH} {n : Nat} {r : Int32 × RS9} {rec12 : Nat → Int32 → Nat → Nat → Nat → Int32 → RS9 → Option (Int32 × RS9)} {rec24 : Nat → Int32 → Nat → Nat → Nat → Int32 → Int32 → RS9 → Option (Int32 × RS9)} {v1 : Nat} {v2 : Int32} {v3 : Nat} {v4 : Nat} {v5 : Nat} {v6 : Int32} {s0 : Int32} {σ : RS9} (C : CC X p l (RM 1 0 0) s m args meth c RX9 cX9_cutsQuotes 9 none) (Hr12 : ∀ (v1 : Nat) (v2 : Int32) (v3 : Nat) (v4 : Nat) (v5 : Nat) (v6 : Int32) (σ : RS9), rIsA v1 = true → rIsA v3 = true → rIsA v4 = true → rIsA v5 = true → rec12 v1 v2 v3 v4 v5 v6 σ = some r → AW X p l e (RM 1 0 0) s m args below meth c 9 (ZM X below args s 0 0 (QMv f n r)) (rHm f σ) n 0 0 12 [some (.ref 181), some (.ref (rAid v1)), some (.int v2), some (.ref (rAid v3)), some (.ref (rAid v4)), some (.ref (rAid v5)), some (.int v6), none, none] []) (Hr24 : ∀ (v1 : Nat) (v2 : Int32) (v3 : Nat) (v4 : Nat) (v5 : Nat) (v6 : Int32) (v7 : Int32) (σ : RS9), rIsA v1 = true → rIsA v3 = true → rIsA v4 = true → rIsA v5 = true → rec24 v1 v2 v3 v4 v5 v6 v7 σ = some r → AW X p l e (RM 1 0 0) s m args below meth c 9 (ZM X below args s 0 0 (QMv f n r)) (rHm f σ) n 0 0 24 [some (.ref 181), some (.ref (rAid v1)), some (.int v2), some (.ref (rAid v3)), some (.ref (rAid v4)), some (.ref (rAid v5)), some (.int v6), some (.int v7), none] []) (ia1 : rIsA v1 = true) (ia3 : rIsA v3 = true) (ia4 : rIsA v4 = true) (ia5 : rIsA v5 = true) (h : mX9_cutsQuotes_b62 rec12 rec24 v1 v2 v3 v4 v5 v6 s0 σ = some r) : AW X p l e (RM 1 0 0) s m args below meth c 9 (ZM X below args s 0 0 (QMv f n r)) (rHm f σ) n 0 0 62 [some (.ref 181), some (.ref (rAid v1)), some (.int v2), some (.ref (rAid v3)), some (.ref (rAid v4)), some (.ref (rAid v5)), some (.int v6), none, none] [.int s0] := by
  have h : mX9_cutsQuotes_b63 rec12 rec24 v1 v2 v3 v4 v5 v6 s0 (1 : Int32) σ = some r := h
  refine aw_iconst C 1 dX9_cutsQuotes_62 ki_1 ?_
  refine aw_fl [some (.ref 181), some (.ref (rAid v1)), some (.int v2), some (.ref (rAid v3)), some (.ref (rAid v4)), some (.ref (rAid v5)), some (.int v6), none, none] ⟨rfl, ⟨rfl, ⟨rfl, ⟨rfl, ⟨rfl, ⟨rfl, ⟨rfl, trivial⟩⟩⟩⟩⟩⟩⟩ ?_
  exact rmX9_cutsQuotes_b63 C Hr12 Hr24 ia1 ia3 ia4 ia5 h
def mX9_cutsQuotes_l24 (rec12 : Nat → Int32 → Nat → Nat → Nat → Int32 → RS9 → Option (Int32 × RS9)) : Nat → Nat → Int32 → Nat → Nat → Nat → Int32 → Int32 → RS9 → Option (Int32 × RS9)
  | 0, _, _, _, _, _, _, _, _ => none
  | d + 1, v1, v2, v3, v4, v5, v6, v7, σ => (if v2 ≤ v7 then mX9_cutsQuotes_b69 rec12 v1 v2 v3 v4 v5 v6 v7 σ else rCk (rIn v7 (rLen v1)) ((if (rGa σ v1 v7) = (34 : Int32) then mX9_cutsQuotes_b69 rec12 v1 v2 v3 v4 v5 v6 v7 σ else rCk (rIn v7 (rLen v1)) ((if (rGa σ v1 v7) = (92 : Int32) then (if v2 ≤ (v7 + (1 : Int32)) then mX9_cutsQuotes_b62 rec12 (fun v1 v2 v3 v4 v5 v6 v7 σ => mX9_cutsQuotes_l24 rec12 d v1 v2 v3 v4 v5 v6 v7 σ) v1 v2 v3 v4 v5 v6 v7 σ else mX9_cutsQuotes_b63 rec12 (fun v1 v2 v3 v4 v5 v6 v7 σ => mX9_cutsQuotes_l24 rec12 d v1 v2 v3 v4 v5 v6 v7 σ) v1 v2 v3 v4 v5 v6 v7 (2 : Int32) σ) else mX9_cutsQuotes_b62 rec12 (fun v1 v2 v3 v4 v5 v6 v7 σ => mX9_cutsQuotes_l24 rec12 d v1 v2 v3 v4 v5 v6 v7 σ) v1 v2 v3 v4 v5 v6 v7 σ)))))
set_option maxHeartbeats 1000000 in
theorem rmX9_cutsQuotes_l24 {X : GX} {p : Program} {l : Launch} {e : Env} {s : State} {m : MethodId} {args : Array Value} {below : List Frame} {meth : Method} {c : Code} {f : AH} {n : Nat} {r : Int32 × RS9} {rec12 : Nat → Int32 → Nat → Nat → Nat → Int32 → RS9 → Option (Int32 × RS9)} (C : CC X p l (RM 1 0 0) s m args meth c RX9 cX9_cutsQuotes 9 none) (Hr12 : ∀ (v1 : Nat) (v2 : Int32) (v3 : Nat) (v4 : Nat) (v5 : Nat) (v6 : Int32) (σ : RS9), rIsA v1 = true → rIsA v3 = true → rIsA v4 = true → rIsA v5 = true → rec12 v1 v2 v3 v4 v5 v6 σ = some r → AW X p l e (RM 1 0 0) s m args below meth c 9 (ZM X below args s 0 0 (QMv f n r)) (rHm f σ) n 0 0 12 [some (.ref 181), some (.ref (rAid v1)), some (.int v2), some (.ref (rAid v3)), some (.ref (rAid v4)), some (.ref (rAid v5)), some (.int v6), none, none] []) : ∀ (d : Nat) (v1 : Nat) (v2 : Int32) (v3 : Nat) (v4 : Nat) (v5 : Nat) (v6 : Int32) (v7 : Int32) (σ : RS9) (_ : rIsA v1 = true) (_ : rIsA v3 = true) (_ : rIsA v4 = true) (_ : rIsA v5 = true) (_ : mX9_cutsQuotes_l24 rec12 d v1 v2 v3 v4 v5 v6 v7 σ = some r), AW X p l e (RM 1 0 0) s m args below meth c 9 (ZM X below args s 0 0 (QMv f n r)) (rHm f σ) n 0 0 24 [some (.ref 181), some (.ref (rAid v1)), some (.int v2), some (.ref (rAid v3)), some (.ref (rAid v4)), some (.ref (rAid v5)), some (.int v6), some (.int v7), none] [] := by
  intro d
  induction d with
  | zero =>
    intro v1 v2 v3 v4 v5 v6 v7 σ ia1 ia3 ia4 ia5 h
    exact nomatch (show (none : Option (Int32 × RS9)) = some r from h)
  | succ d ih =>
    intro v1 v2 v3 v4 v5 v6 v7 σ ia1 ia3 ia4 ia5 h
    have h : (if v2 ≤ v7 then mX9_cutsQuotes_b69 rec12 v1 v2 v3 v4 v5 v6 v7 σ else rCk (rIn v7 (rLen v1)) ((if (rGa σ v1 v7) = (34 : Int32) then mX9_cutsQuotes_b69 rec12 v1 v2 v3 v4 v5 v6 v7 σ else rCk (rIn v7 (rLen v1)) ((if (rGa σ v1 v7) = (92 : Int32) then (if v2 ≤ (v7 + (1 : Int32)) then mX9_cutsQuotes_b62 rec12 (fun v1 v2 v3 v4 v5 v6 v7 σ => mX9_cutsQuotes_l24 rec12 d v1 v2 v3 v4 v5 v6 v7 σ) v1 v2 v3 v4 v5 v6 v7 σ else mX9_cutsQuotes_b63 rec12 (fun v1 v2 v3 v4 v5 v6 v7 σ => mX9_cutsQuotes_l24 rec12 d v1 v2 v3 v4 v5 v6 v7 σ) v1 v2 v3 v4 v5 v6 v7 (2 : Int32) σ) else mX9_cutsQuotes_b62 rec12 (fun v1 v2 v3 v4 v5 v6 v7 σ => mX9_cutsQuotes_l24 rec12 d v1 v2 v3 v4 v5 v6 v7 σ) v1 v2 v3 v4 v5 v6 v7 σ))))) = some r := h
    refine aw_iload C dX9_cutsQuotes_24 rfl ?_
    refine aw_iload_n C dX9_cutsQuotes_26 rfl ?_
    refine aw_icmp_ge C 69 dX9_cutsQuotes_27 (by decide) (fun q => ?_) (fun q => ?_)
    · rw [if_pos q] at h
      refine aw_fl [some (.ref 181), some (.ref (rAid v1)), some (.int v2), some (.ref (rAid v3)), some (.ref (rAid v4)), some (.ref (rAid v5)), some (.int v6), some (.int v7), none] ⟨rfl, ⟨rfl, ⟨rfl, ⟨rfl, ⟨rfl, ⟨rfl, ⟨rfl, ⟨rfl, trivial⟩⟩⟩⟩⟩⟩⟩⟩ ?_
      exact rmX9_cutsQuotes_b69 C Hr12 ia1 ia3 ia4 ia5 h
    · rw [if_neg q] at h
      refine aw_ald_n C dX9_cutsQuotes_30 rfl ?_
      refine aw_iload C dX9_cutsQuotes_31 rfl ?_
      obtain ⟨hb1, h⟩ := ck_some h
      refine am_iald C (rGa σ v1 v7) ia1 (inb_vp hb1) rfl dX9_cutsQuotes_33 ?_
      refine aw_bipush C 34 dX9_cutsQuotes_34 kb_34 ?_
      refine aw_icmp_eq C 69 dX9_cutsQuotes_36 (by decide) (fun q => ?_) (fun q => ?_)
      · rw [if_pos q] at h
        refine aw_fl [some (.ref 181), some (.ref (rAid v1)), some (.int v2), some (.ref (rAid v3)), some (.ref (rAid v4)), some (.ref (rAid v5)), some (.int v6), some (.int v7), none] ⟨rfl, ⟨rfl, ⟨rfl, ⟨rfl, ⟨rfl, ⟨rfl, ⟨rfl, ⟨rfl, trivial⟩⟩⟩⟩⟩⟩⟩⟩ ?_
        exact rmX9_cutsQuotes_b69 C Hr12 ia1 ia3 ia4 ia5 h
      · rw [if_neg q] at h
        refine aw_iload C dX9_cutsQuotes_39 rfl ?_
        refine aw_ald_n C dX9_cutsQuotes_41 rfl ?_
        refine aw_iload C dX9_cutsQuotes_42 rfl ?_
        obtain ⟨hb2, h⟩ := ck_some h
        refine am_iald C (rGa σ v1 v7) ia1 (inb_vp hb2) rfl dX9_cutsQuotes_44 ?_
        refine aw_bipush C 92 dX9_cutsQuotes_45 kb_92 ?_
        refine aw_icmp_ne C 62 dX9_cutsQuotes_47 (by decide) (fun q => ?_) (fun q => ?_)
        · rw [if_neg q] at h
          refine aw_fl [some (.ref 181), some (.ref (rAid v1)), some (.int v2), some (.ref (rAid v3)), some (.ref (rAid v4)), some (.ref (rAid v5)), some (.int v6), none, none] ⟨rfl, ⟨rfl, ⟨rfl, ⟨rfl, ⟨rfl, ⟨rfl, ⟨rfl, trivial⟩⟩⟩⟩⟩⟩⟩ ?_
          exact rmX9_cutsQuotes_b62 C Hr12 (fun v1 v2 v3 v4 v5 v6 v7 σ ia1 ia3 ia4 ia5 h => ih v1 v2 v3 v4 v5 v6 v7 σ ia1 ia3 ia4 ia5 h) ia1 ia3 ia4 ia5 h
        · rw [if_pos q] at h
          refine aw_iload C dX9_cutsQuotes_50 rfl ?_
          refine aw_iconst C 1 dX9_cutsQuotes_52 ki_1 ?_
          refine aw_iadd C dX9_cutsQuotes_53 ?_
          refine aw_iload_n C dX9_cutsQuotes_54 rfl ?_
          refine aw_icmp_ge C 62 dX9_cutsQuotes_55 (by decide) (fun q => ?_) (fun q => ?_)
          · rw [if_pos q] at h
            refine aw_fl [some (.ref 181), some (.ref (rAid v1)), some (.int v2), some (.ref (rAid v3)), some (.ref (rAid v4)), some (.ref (rAid v5)), some (.int v6), none, none] ⟨rfl, ⟨rfl, ⟨rfl, ⟨rfl, ⟨rfl, ⟨rfl, ⟨rfl, trivial⟩⟩⟩⟩⟩⟩⟩ ?_
            exact rmX9_cutsQuotes_b62 C Hr12 (fun v1 v2 v3 v4 v5 v6 v7 σ ia1 ia3 ia4 ia5 h => ih v1 v2 v3 v4 v5 v6 v7 σ ia1 ia3 ia4 ia5 h) ia1 ia3 ia4 ia5 h
          · rw [if_neg q] at h
            refine aw_iconst C 2 dX9_cutsQuotes_58 ki_2 ?_
            refine aw_goto C 63 dX9_cutsQuotes_59 (by decide) ?_
            refine aw_fl [some (.ref 181), some (.ref (rAid v1)), some (.int v2), some (.ref (rAid v3)), some (.ref (rAid v4)), some (.ref (rAid v5)), some (.int v6), none, none] ⟨rfl, ⟨rfl, ⟨rfl, ⟨rfl, ⟨rfl, ⟨rfl, ⟨rfl, trivial⟩⟩⟩⟩⟩⟩⟩ ?_
            exact rmX9_cutsQuotes_b63 C Hr12 (fun v1 v2 v3 v4 v5 v6 v7 σ ia1 ia3 ia4 ia5 h => ih v1 v2 v3 v4 v5 v6 v7 σ ia1 ia3 ia4 ia5 h) ia1 ia3 ia4 ia5 h
def mX9_cutsQuotes_l12 : Nat → Nat → Int32 → Nat → Nat → Nat → Int32 → RS9 → Option (Int32 × RS9)
  | 0, _, _, _, _, _, _, _ => none
  | d + 1, v1, v2, v3, v4, v5, v6, σ => (if v2 ≤ v6 then some ((0 : Int32), σ) else mX9_cutsQuotes_l24 (fun v1 v2 v3 v4 v5 v6 σ => mX9_cutsQuotes_l12 d v1 v2 v3 v4 v5 v6 σ) rFU v1 v2 v3 v4 v5 v6 (v6 + (1 : Int32)) σ)
set_option maxHeartbeats 1000000 in
theorem rmX9_cutsQuotes_l12 {X : GX} {p : Program} {l : Launch} {e : Env} {s : State} {m : MethodId} {args : Array Value} {below : List Frame} {meth : Method} {c : Code} {f : AH} {n : Nat} {r : Int32 × RS9} (C : CC X p l (RM 1 0 0) s m args meth c RX9 cX9_cutsQuotes 9 none) : ∀ (d : Nat) (v1 : Nat) (v2 : Int32) (v3 : Nat) (v4 : Nat) (v5 : Nat) (v6 : Int32) (σ : RS9) (_ : rIsA v1 = true) (_ : rIsA v3 = true) (_ : rIsA v4 = true) (_ : rIsA v5 = true) (_ : mX9_cutsQuotes_l12 d v1 v2 v3 v4 v5 v6 σ = some r), AW X p l e (RM 1 0 0) s m args below meth c 9 (ZM X below args s 0 0 (QMv f n r)) (rHm f σ) n 0 0 12 [some (.ref 181), some (.ref (rAid v1)), some (.int v2), some (.ref (rAid v3)), some (.ref (rAid v4)), some (.ref (rAid v5)), some (.int v6), none, none] [] := by
  intro d
  induction d with
  | zero =>
    intro v1 v2 v3 v4 v5 v6 σ ia1 ia3 ia4 ia5 h
    exact nomatch (show (none : Option (Int32 × RS9)) = some r from h)
  | succ d ih =>
    intro v1 v2 v3 v4 v5 v6 σ ia1 ia3 ia4 ia5 h
    have h : (if v2 ≤ v6 then some ((0 : Int32), σ) else mX9_cutsQuotes_l24 (fun v1 v2 v3 v4 v5 v6 σ => mX9_cutsQuotes_l12 d v1 v2 v3 v4 v5 v6 σ) rFU v1 v2 v3 v4 v5 v6 (v6 + (1 : Int32)) σ) = some r := h
    refine aw_iload C dX9_cutsQuotes_12 rfl ?_
    refine aw_iload_n C dX9_cutsQuotes_14 rfl ?_
    refine aw_icmp_ge C 166 dX9_cutsQuotes_15 (by decide) (fun q => ?_) (fun q => ?_)
    · rw [if_pos q] at h
      cases h
      exact aw_vret C rfl dX9_cutsQuotes_166 (Nat.le_refl _) (Nat.le_refl _) ⟨rfl, rfl, rfl⟩
    · rw [if_neg q] at h
      refine aw_iload C dX9_cutsQuotes_18 rfl ?_
      refine aw_iconst C 1 dX9_cutsQuotes_20 ki_1 ?_
      refine aw_iadd C dX9_cutsQuotes_21 ?_
      refine aw_istore C dX9_cutsQuotes_22 (by decide) rfl ?_
      refine aw_nl [some (.ref 181), some (.ref (rAid v1)), some (.int v2), some (.ref (rAid v3)), some (.ref (rAid v4)), some (.ref (rAid v5)), some (.int v6), some (.int (v6 + (1 : Int32))), none] rfl ?_
      refine aw_fl [some (.ref 181), some (.ref (rAid v1)), some (.int v2), some (.ref (rAid v3)), some (.ref (rAid v4)), some (.ref (rAid v5)), some (.int v6), some (.int (v6 + (1 : Int32))), none] ⟨rfl, ⟨rfl, ⟨rfl, ⟨rfl, ⟨rfl, ⟨rfl, ⟨rfl, ⟨rfl, trivial⟩⟩⟩⟩⟩⟩⟩⟩ ?_
      exact rmX9_cutsQuotes_l24 C (fun v1 v2 v3 v4 v5 v6 σ ia1 ia3 ia4 ia5 h => ih v1 v2 v3 v4 v5 v6 σ ia1 ia3 ia4 ia5 h) rFU v1 v2 v3 v4 v5 v6 (v6 + (1 : Int32)) σ ia1 ia3 ia4 ia5 h
def mX9_cutsQuotes (v1 : Nat) (v2 : Int32) (v3 : Nat) (v4 : Nat) (v5 : Nat) (σ : RS9) : Option (Int32 × RS9) := ((mX9_endOf v1 v2 (0 : Int32) (34 : Int32) (34 : Int32) σ).bind fun r1 => mX9_cutsQuotes_l12 rFU v1 v2 v3 v4 v5 r1.1 r1.2)
set_option maxHeartbeats 1000000 in
theorem rmX9_cutsQuotes {X : GX} {l : Launch} {f : AH} {n : Nat} {r : Int32 × RS9} {v1 : Nat} {v2 : Int32} {v3 : Nat} {v4 : Nat} {v5 : Nat} {σ : RS9} (ia1 : rIsA v1 = true) (ia3 : rIsA v3 = true) (ia4 : rIsA v4 = true) (ia5 : rIsA v5 = true) (h : mX9_cutsQuotes v1 v2 v3 v4 v5 σ = some r) : AM X l yX9_cutsQuotes cX9_cutsQuotes 9 none 1 0 0 [.ref 181, .ref (rAid v1), .int v2, .ref (rAid v3), .ref (rAid v4), .ref (rAid v5)] (rHm f σ) n (QMv f n r) := by
  have h : ((mX9_endOf v1 v2 (0 : Int32) (34 : Int32) (34 : Int32) σ).bind fun r1 => mX9_cutsQuotes_l12 rFU v1 v2 v3 v4 v5 r1.1 r1.2) = some r := h
  refine AM.of (by decide +kernel) rfl (Nat.le_of_ble_eq_true rfl) (fun p e s m args below meth c C _ => ?_)
  refine aw_nl [some (.ref 181), some (.ref (rAid v1)), some (.int v2), some (.ref (rAid v3)), some (.ref (rAid v4)), some (.ref (rAid v5)), none, none, none] rfl ?_
  refine aw_ald_n C dX9_cutsQuotes_0 rfl ?_
  refine aw_iload_n C dX9_cutsQuotes_1 rfl ?_
  refine aw_iconst C 0 dX9_cutsQuotes_2 ki_0 ?_
  refine aw_bipush C 34 dX9_cutsQuotes_3 kb_34 ?_
  refine aw_bipush C 34 dX9_cutsQuotes_5 kb_34 ?_
  obtain ⟨r1, h1, h⟩ := Option.bind_eq_some_iff.mp h
  refine aw_callS C [.ref (rAid v1), .int v2, .int (0 : Int32), .int (34 : Int32), .int (34 : Int32)] ms_X9_148 (rmX9_endOf ia1 h1) rfl dX9_cutsQuotes_7 (Nat.le_of_ble_eq_true rfl) (Nat.le_of_ble_eq_true rfl) rfl (Nat.le_of_ble_eq_true rfl) (Nat.le_of_ble_eq_true rfl) (Nat.le_of_ble_eq_true rfl) (fun v9 f9 n9 hh => ?_)
  obtain ⟨rfl, rfl, rfl⟩ := hh
  refine aw_istore C dX9_cutsQuotes_10 (by decide) rfl ?_
  refine aw_nl [some (.ref 181), some (.ref (rAid v1)), some (.int v2), some (.ref (rAid v3)), some (.ref (rAid v4)), some (.ref (rAid v5)), some (.int r1.1), none, none] rfl ?_
  refine aw_fl [some (.ref 181), some (.ref (rAid v1)), some (.int v2), some (.ref (rAid v3)), some (.ref (rAid v4)), some (.ref (rAid v5)), some (.int r1.1), none, none] ⟨rfl, ⟨rfl, ⟨rfl, ⟨rfl, ⟨rfl, ⟨rfl, ⟨rfl, trivial⟩⟩⟩⟩⟩⟩⟩ ?_
  exact rmX9_cutsQuotes_l12 C rFU v1 v2 v3 v4 v5 r1.1 r1.2 ia1 ia3 ia4 ia5 h
def mX9_cuts_b76 (σ : RS9) : Option (Int32 × RS9) := some ((σ.1 54), σ)
set_option maxHeartbeats 1000000 in
theorem rmX9_cuts_b76 {X : GX} {p : Program} {l : Launch} {e : Env} {s : State} {m : MethodId} {args : Array Value} {below : List Frame} {meth : Method} {c : Code} {f : AH} {n : Nat} {r : Int32 × RS9} {σ : RS9} (C : CC X p l (RM 2 0 0) s m args meth c RX9 cX9_cuts 7 (some .int)) (h : mX9_cuts_b76 σ = some r) : AW X p l e (RM 2 0 0) s m args below meth c 7 (ZM X below args s 0 0 (QMi f n r)) (rHm f σ) n 0 0 76 [some (.ref 181), none, none, none, none, none, none] [] := by
  have h : some ((σ.1 54), σ) = some r := h
  refine aw_ald_n C dX9_cuts_76 rfl ?_
  refine aw_get C (v := .int (σ.1 54)) gf_X9_145 (hm_M f σ) rfl dX9_cuts_77 ?_
  cases h
  exact aw_iret C rfl rfl dX9_cuts_80 (Nat.le_refl _) (Nat.le_refl _) ⟨rfl, rfl, rfl⟩
def mX9_cuts (v1 : Int32) (v2 : Nat) (v3 : Int32) (v4 : Nat) (v5 : Nat) (v6 : Nat) (σ : RS9) : Option (Int32 × RS9) := (if v1 = (0 : Int32) then ((mX9_cutsLines v2 v3 v4 v5 v6 (rSf σ 54 (0 : Int32))).bind fun r4 => mX9_cuts_b76 r4.2) else (if v1 = (1 : Int32) then ((mX9_cutsTable v2 v3 v4 v5 v6 (rSf σ 54 (0 : Int32))).bind fun r3 => mX9_cuts_b76 r3.2) else (if v1 = (2 : Int32) then ((mX9_cutsMarkup v2 v3 v4 v5 v6 (rSf σ 54 (0 : Int32))).bind fun r2 => mX9_cuts_b76 r2.2) else ((mX9_cutsQuotes v2 v3 v4 v5 v6 (rSf σ 54 (0 : Int32))).bind fun r1 => mX9_cuts_b76 r1.2))))
set_option maxHeartbeats 1000000 in
theorem rmX9_cuts {X : GX} {l : Launch} {f : AH} {n : Nat} {r : Int32 × RS9} {v1 : Int32} {v2 : Nat} {v3 : Int32} {v4 : Nat} {v5 : Nat} {v6 : Nat} {σ : RS9} (ia2 : rIsA v2 = true) (ia4 : rIsA v4 = true) (ia5 : rIsA v5 = true) (ia6 : rIsA v6 = true) (h : mX9_cuts v1 v2 v3 v4 v5 v6 σ = some r) : AM X l yX9_cuts cX9_cuts 7 (some .int) 2 0 0 [.ref 181, .int v1, .ref (rAid v2), .int v3, .ref (rAid v4), .ref (rAid v5), .ref (rAid v6)] (rHm f σ) n (QMi f n r) := by
  have h : (if v1 = (0 : Int32) then ((mX9_cutsLines v2 v3 v4 v5 v6 (rSf σ 54 (0 : Int32))).bind fun r4 => mX9_cuts_b76 r4.2) else (if v1 = (1 : Int32) then ((mX9_cutsTable v2 v3 v4 v5 v6 (rSf σ 54 (0 : Int32))).bind fun r3 => mX9_cuts_b76 r3.2) else (if v1 = (2 : Int32) then ((mX9_cutsMarkup v2 v3 v4 v5 v6 (rSf σ 54 (0 : Int32))).bind fun r2 => mX9_cuts_b76 r2.2) else ((mX9_cutsQuotes v2 v3 v4 v5 v6 (rSf σ 54 (0 : Int32))).bind fun r1 => mX9_cuts_b76 r1.2)))) = some r := h
  refine AM.of (by decide +kernel) rfl (Nat.le_of_ble_eq_true rfl) (fun p e s m args below meth c C _ => ?_)
  refine aw_nl [some (.ref 181), some (.int v1), some (.ref (rAid v2)), some (.int v3), some (.ref (rAid v4)), some (.ref (rAid v5)), some (.ref (rAid v6))] rfl ?_
  refine aw_ald_n C dX9_cuts_0 rfl ?_
  refine aw_iconst C 0 dX9_cuts_1 ki_0 ?_
  refine am_put C gf_X9_145 nf9_54 rfl rfl dX9_cuts_2 ?_
  refine aw_iload_n C dX9_cuts_5 rfl ?_
  refine aw_if_ne C 24 dX9_cuts_6 (by decide) (fun q => ?_) (fun q => ?_)
  · rw [if_neg q] at h
    refine aw_iload_n C dX9_cuts_24 rfl ?_
    refine aw_iconst C 1 dX9_cuts_25 ki_1 ?_
    refine aw_icmp_ne C 44 dX9_cuts_26 (by decide) (fun q => ?_) (fun q => ?_)
    · rw [if_neg q] at h
      refine aw_iload_n C dX9_cuts_44 rfl ?_
      refine aw_iconst C 2 dX9_cuts_45 ki_2 ?_
      refine aw_icmp_ne C 64 dX9_cuts_46 (by decide) (fun q => ?_) (fun q => ?_)
      · rw [if_neg q] at h
        refine aw_ald_n C dX9_cuts_64 rfl ?_
        refine aw_ald_n C dX9_cuts_65 rfl ?_
        refine aw_iload_n C dX9_cuts_66 rfl ?_
        refine aw_ald C dX9_cuts_67 rfl ?_
        refine aw_ald C dX9_cuts_69 rfl ?_
        refine aw_ald C dX9_cuts_71 rfl ?_
        obtain ⟨r1, h1, h⟩ := Option.bind_eq_some_iff.mp h
        refine aw_callV C (ci := 9) (b := 181) [.ref (rAid v2), .int v3, .ref (rAid v4), .ref (rAid v5), .ref (rAid v6)] mv_X9_170 rfl rfl (hm_M f (rSf σ 54 (0 : Int32))) (rmX9_cutsQuotes ia2 ia4 ia5 ia6 h1) rfl dX9_cuts_73 (Nat.le_of_ble_eq_true rfl) (Nat.le_of_ble_eq_true rfl) rfl (Nat.le_of_ble_eq_true rfl) (Nat.le_of_ble_eq_true rfl) (Nat.le_of_ble_eq_true rfl) (fun v9 f9 n9 hh => ?_)
        obtain ⟨rfl, rfl, rfl⟩ := hh
        refine aw_fl [some (.ref 181), none, none, none, none, none, none] ⟨rfl, trivial⟩ ?_
        exact rmX9_cuts_b76 C h
      · rw [if_pos q] at h
        refine aw_ald_n C dX9_cuts_49 rfl ?_
        refine aw_ald_n C dX9_cuts_50 rfl ?_
        refine aw_iload_n C dX9_cuts_51 rfl ?_
        refine aw_ald C dX9_cuts_52 rfl ?_
        refine aw_ald C dX9_cuts_54 rfl ?_
        refine aw_ald C dX9_cuts_56 rfl ?_
        obtain ⟨r2, h2, h⟩ := Option.bind_eq_some_iff.mp h
        refine aw_callV C (ci := 9) (b := 181) [.ref (rAid v2), .int v3, .ref (rAid v4), .ref (rAid v5), .ref (rAid v6)] mv_X9_167 rfl rfl (hm_M f (rSf σ 54 (0 : Int32))) (rmX9_cutsMarkup ia2 ia4 ia5 ia6 h2) rfl dX9_cuts_58 (Nat.le_of_ble_eq_true rfl) (Nat.le_of_ble_eq_true rfl) rfl (Nat.le_of_ble_eq_true rfl) (Nat.le_of_ble_eq_true rfl) (Nat.le_of_ble_eq_true rfl) (fun v9 f9 n9 hh => ?_)
        obtain ⟨rfl, rfl, rfl⟩ := hh
        refine aw_goto C 76 dX9_cuts_61 (by decide) ?_
        refine aw_fl [some (.ref 181), none, none, none, none, none, none] ⟨rfl, trivial⟩ ?_
        exact rmX9_cuts_b76 C h
    · rw [if_pos q] at h
      refine aw_ald_n C dX9_cuts_29 rfl ?_
      refine aw_ald_n C dX9_cuts_30 rfl ?_
      refine aw_iload_n C dX9_cuts_31 rfl ?_
      refine aw_ald C dX9_cuts_32 rfl ?_
      refine aw_ald C dX9_cuts_34 rfl ?_
      refine aw_ald C dX9_cuts_36 rfl ?_
      obtain ⟨r3, h3, h⟩ := Option.bind_eq_some_iff.mp h
      refine aw_callV C (ci := 9) (b := 181) [.ref (rAid v2), .int v3, .ref (rAid v4), .ref (rAid v5), .ref (rAid v6)] mv_X9_164 rfl rfl (hm_M f (rSf σ 54 (0 : Int32))) (rmX9_cutsTable ia2 ia4 ia5 ia6 h3) rfl dX9_cuts_38 (Nat.le_of_ble_eq_true rfl) (Nat.le_of_ble_eq_true rfl) rfl (Nat.le_of_ble_eq_true rfl) (Nat.le_of_ble_eq_true rfl) (Nat.le_of_ble_eq_true rfl) (fun v9 f9 n9 hh => ?_)
      obtain ⟨rfl, rfl, rfl⟩ := hh
      refine aw_goto C 76 dX9_cuts_41 (by decide) ?_
      refine aw_fl [some (.ref 181), none, none, none, none, none, none] ⟨rfl, trivial⟩ ?_
      exact rmX9_cuts_b76 C h
  · rw [if_pos q] at h
    refine aw_ald_n C dX9_cuts_9 rfl ?_
    refine aw_ald_n C dX9_cuts_10 rfl ?_
    refine aw_iload_n C dX9_cuts_11 rfl ?_
    refine aw_ald C dX9_cuts_12 rfl ?_
    refine aw_ald C dX9_cuts_14 rfl ?_
    refine aw_ald C dX9_cuts_16 rfl ?_
    obtain ⟨r4, h4, h⟩ := Option.bind_eq_some_iff.mp h
    refine aw_callV C (ci := 9) (b := 181) [.ref (rAid v2), .int v3, .ref (rAid v4), .ref (rAid v5), .ref (rAid v6)] mv_X9_160 rfl rfl (hm_M f (rSf σ 54 (0 : Int32))) (rmX9_cutsLines ia2 ia4 ia5 ia6 h4) rfl dX9_cuts_18 (Nat.le_of_ble_eq_true rfl) (Nat.le_of_ble_eq_true rfl) rfl (Nat.le_of_ble_eq_true rfl) (Nat.le_of_ble_eq_true rfl) (Nat.le_of_ble_eq_true rfl) (fun v9 f9 n9 hh => ?_)
    obtain ⟨rfl, rfl, rfl⟩ := hh
    refine aw_goto C 76 dX9_cuts_21 (by decide) ?_
    refine aw_fl [some (.ref 181), none, none, none, none, none, none] ⟨rfl, trivial⟩ ?_
    exact rmX9_cuts_b76 C h
def mX9_backMeaning_b57 (s0 : Int32) (σ : RS9) : Option (Int32 × RS9) := some (s0, σ)
set_option maxHeartbeats 1000000 in
theorem rmX9_backMeaning_b57 {X : GX} {p : Program} {l : Launch} {e : Env} {s : State} {m : MethodId} {args : Array Value} {below : List Frame} {meth : Method} {c : Code} {f : AH} {n : Nat} {r : Int32 × RS9} {s0 : Int32} {σ : RS9} (C : CC X p l (RM 0 0 0) s m args meth c RX9 cX9_backMeaning 3 (some .int)) (h : mX9_backMeaning_b57 s0 σ = some r) : AW X p l e (RM 0 0 0) s m args below meth c 3 (ZM X below args s 0 0 (QMi f n r)) (rHm f σ) n 0 0 57 [none, none, none] [.int s0] := by
  have h : some (s0, σ) = some r := h
  cases h
  exact aw_iret C rfl rfl dX9_backMeaning_57 (Nat.le_refl _) (Nat.le_refl _) ⟨rfl, rfl, rfl⟩
def mX9_backMeaning_b56 (σ : RS9) : Option (Int32 × RS9) := mX9_backMeaning_b57 (-1 : Int32) σ
set_option maxHeartbeats 1000000 in
theorem rmX9_backMeaning_b56 {X : GX} {p : Program} {l : Launch} {e : Env} {s : State} {m : MethodId} {args : Array Value} {below : List Frame} {meth : Method} {c : Code} {f : AH} {n : Nat} {r : Int32 × RS9} {σ : RS9} (C : CC X p l (RM 0 0 0) s m args meth c RX9 cX9_backMeaning 3 (some .int)) (h : mX9_backMeaning_b56 σ = some r) : AW X p l e (RM 0 0 0) s m args below meth c 3 (ZM X below args s 0 0 (QMi f n r)) (rHm f σ) n 0 0 56 [none, none, none] [] := by
  have h : mX9_backMeaning_b57 (-1 : Int32) σ = some r := h
  refine aw_iconst C (-1) dX9_backMeaning_56 ki_m1 ?_
  refine aw_fl [none, none, none] trivial ?_
  exact rmX9_backMeaning_b57 C h
def mX9_backMeaning_b40 (v1 : Int32) (v2 : Int32) (σ : RS9) : Option (Int32 × RS9) := (if v2 = (34 : Int32) then (if v1 = (3 : Int32) then mX9_backMeaning_b57 (34 : Int32) σ else mX9_backMeaning_b56 σ) else mX9_backMeaning_b56 σ)
set_option maxHeartbeats 1000000 in
theorem rmX9_backMeaning_b40 {X : GX} {p : Program} {l : Launch} {e : Env} {s : State} {m : MethodId} {args : Array Value} {below : List Frame} {meth : Method} {c : Code} {f : AH} {n : Nat} {r : Int32 × RS9} {v1 : Int32} {v2 : Int32} {σ : RS9} (C : CC X p l (RM 0 0 0) s m args meth c RX9 cX9_backMeaning 3 (some .int)) (h : mX9_backMeaning_b40 v1 v2 σ = some r) : AW X p l e (RM 0 0 0) s m args below meth c 3 (ZM X below args s 0 0 (QMi f n r)) (rHm f σ) n 0 0 40 [none, some (.int v1), some (.int v2)] [] := by
  have h : (if v2 = (34 : Int32) then (if v1 = (3 : Int32) then mX9_backMeaning_b57 (34 : Int32) σ else mX9_backMeaning_b56 σ) else mX9_backMeaning_b56 σ) = some r := h
  refine aw_iload_n C dX9_backMeaning_40 rfl ?_
  refine aw_bipush C 34 dX9_backMeaning_41 kb_34 ?_
  refine aw_icmp_ne C 56 dX9_backMeaning_43 (by decide) (fun q => ?_) (fun q => ?_)
  · rw [if_neg q] at h
    refine aw_fl [none, none, none] trivial ?_
    exact rmX9_backMeaning_b56 C h
  · rw [if_pos q] at h
    refine aw_iload_n C dX9_backMeaning_46 rfl ?_
    refine aw_iconst C 3 dX9_backMeaning_47 ki_3 ?_
    refine aw_icmp_ne C 56 dX9_backMeaning_48 (by decide) (fun q => ?_) (fun q => ?_)
    · rw [if_neg q] at h
      refine aw_fl [none, none, none] trivial ?_
      exact rmX9_backMeaning_b56 C h
    · rw [if_pos q] at h
      refine aw_bipush C 34 dX9_backMeaning_51 kb_34 ?_
      refine aw_goto C 57 dX9_backMeaning_53 (by decide) ?_
      refine aw_fl [none, none, none] trivial ?_
      exact rmX9_backMeaning_b57 C h
def mX9_backMeaning (v1 : Int32) (v2 : Int32) (σ : RS9) : Option (Int32 × RS9) := (if v2 = (110 : Int32) then some ((10 : Int32), σ) else (if v2 = (116 : Int32) then some ((9 : Int32), σ) else (if v2 = (92 : Int32) then some ((92 : Int32), σ) else (if v2 = (32 : Int32) then (if v1 = (0 : Int32) then some ((32 : Int32), σ) else mX9_backMeaning_b40 v1 v2 σ) else mX9_backMeaning_b40 v1 v2 σ))))
set_option maxHeartbeats 1000000 in
theorem rmX9_backMeaning {X : GX} {l : Launch} {f : AH} {n : Nat} {r : Int32 × RS9} {v1 : Int32} {v2 : Int32} {σ : RS9} (h : mX9_backMeaning v1 v2 σ = some r) : AM X l yX9_backMeaning cX9_backMeaning 3 (some .int) 0 0 0 [.ref 181, .int v1, .int v2] (rHm f σ) n (QMi f n r) := by
  have h : (if v2 = (110 : Int32) then some ((10 : Int32), σ) else (if v2 = (116 : Int32) then some ((9 : Int32), σ) else (if v2 = (92 : Int32) then some ((92 : Int32), σ) else (if v2 = (32 : Int32) then (if v1 = (0 : Int32) then some ((32 : Int32), σ) else mX9_backMeaning_b40 v1 v2 σ) else mX9_backMeaning_b40 v1 v2 σ)))) = some r := h
  refine AM.of (by decide +kernel) rfl (Nat.le_of_ble_eq_true rfl) (fun p e s m args below meth c C _ => ?_)
  refine aw_nl [some (.ref 181), some (.int v1), some (.int v2)] rfl ?_
  refine aw_iload_n C dX9_backMeaning_0 rfl ?_
  refine aw_bipush C 110 dX9_backMeaning_1 kb_110 ?_
  refine aw_icmp_ne C 9 dX9_backMeaning_3 (by decide) (fun q => ?_) (fun q => ?_)
  · rw [if_neg q] at h
    refine aw_iload_n C dX9_backMeaning_9 rfl ?_
    refine aw_bipush C 116 dX9_backMeaning_10 kb_116 ?_
    refine aw_icmp_ne C 18 dX9_backMeaning_12 (by decide) (fun q => ?_) (fun q => ?_)
    · rw [if_neg q] at h
      refine aw_iload_n C dX9_backMeaning_18 rfl ?_
      refine aw_bipush C 92 dX9_backMeaning_19 kb_92 ?_
      refine aw_icmp_ne C 27 dX9_backMeaning_21 (by decide) (fun q => ?_) (fun q => ?_)
      · rw [if_neg q] at h
        refine aw_iload_n C dX9_backMeaning_27 rfl ?_
        refine aw_bipush C 32 dX9_backMeaning_28 kb_32 ?_
        refine aw_icmp_ne C 40 dX9_backMeaning_30 (by decide) (fun q => ?_) (fun q => ?_)
        · rw [if_neg q] at h
          refine aw_fl [none, some (.int v1), some (.int v2)] ⟨rfl, ⟨rfl, trivial⟩⟩ ?_
          exact rmX9_backMeaning_b40 C h
        · rw [if_pos q] at h
          refine aw_iload_n C dX9_backMeaning_33 rfl ?_
          refine aw_if_ne C 40 dX9_backMeaning_34 (by decide) (fun q => ?_) (fun q => ?_)
          · rw [if_neg q] at h
            refine aw_fl [none, some (.int v1), some (.int v2)] ⟨rfl, ⟨rfl, trivial⟩⟩ ?_
            exact rmX9_backMeaning_b40 C h
          · rw [if_pos q] at h
            refine aw_bipush C 32 dX9_backMeaning_37 kb_32 ?_
            cases h
            exact aw_iret C rfl rfl dX9_backMeaning_39 (Nat.le_refl _) (Nat.le_refl _) ⟨rfl, rfl, rfl⟩
      · rw [if_pos q] at h
        refine aw_bipush C 92 dX9_backMeaning_24 kb_92 ?_
        cases h
        exact aw_iret C rfl rfl dX9_backMeaning_26 (Nat.le_refl _) (Nat.le_refl _) ⟨rfl, rfl, rfl⟩
    · rw [if_pos q] at h
      refine aw_bipush C 9 dX9_backMeaning_15 kb_9 ?_
      cases h
      exact aw_iret C rfl rfl dX9_backMeaning_17 (Nat.le_refl _) (Nat.le_refl _) ⟨rfl, rfl, rfl⟩
  · rw [if_pos q] at h
    refine aw_bipush C 10 dX9_backMeaning_6 kb_10 ?_
    cases h
    exact aw_iret C rfl rfl dX9_backMeaning_8 (Nat.le_refl _) (Nat.le_refl _) ⟨rfl, rfl, rfl⟩
