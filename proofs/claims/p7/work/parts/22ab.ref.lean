def mX9_cutsLines_b199 (rec3 : Nat → Int32 → Nat → Nat → Nat → Int32 → RS9 → Option (Int32 × RS9)) (v1 : Nat) (v2 : Int32) (v3 : Nat) (v4 : Nat) (v5 : Nat) (v7 : Int32) (σ : RS9) : Option (Int32 × RS9) := rec3 v1 v2 v3 v4 v5 (v7 + (1 : Int32)) σ
set_option maxHeartbeats 1000000 in
theorem rmX9_cutsLines_b199 {X : GX} {p : Program} {l : Launch} {e : Env} {s : State} {m : MethodId} {args : Array Value} {below : List Frame} {meth : Method} {c : Code} {f : AH} {n : Nat} {r : Int32 × RS9} {rec3 : Nat → Int32 → Nat → Nat → Nat → Int32 → RS9 → Option (Int32 × RS9)} {v1 : Nat} {v2 : Int32} {v3 : Nat} {v4 : Nat} {v5 : Nat} {v7 : Int32} {σ : RS9} (C : CC X p l (RM 1 0 0) s m args meth c RX9 cX9_cutsLines 13 none) (Hr3 : ∀ (v1 : Nat) (v2 : Int32) (v3 : Nat) (v4 : Nat) (v5 : Nat) (v6 : Int32) (σ : RS9), rIsA v1 = true → rIsA v3 = true → rIsA v4 = true → rIsA v5 = true → rec3 v1 v2 v3 v4 v5 v6 σ = some r → AW X p l e (RM 1 0 0) s m args below meth c 13 (ZM X below args s 0 0 (QMv f n r)) (rHm f σ) n 0 0 3 [some (.ref 181), some (.ref (rAid v1)), some (.int v2), some (.ref (rAid v3)), some (.ref (rAid v4)), some (.ref (rAid v5)), some (.int v6), none, none, none, none, none, none] []) (ia1 : rIsA v1 = true) (ia3 : rIsA v3 = true) (ia4 : rIsA v4 = true) (ia5 : rIsA v5 = true) (h : mX9_cutsLines_b199 rec3 v1 v2 v3 v4 v5 v7 σ = some r) : AW X p l e (RM 1 0 0) s m args below meth c 13 (ZM X below args s 0 0 (QMv f n r)) (rHm f σ) n 0 0 199 [some (.ref 181), some (.ref (rAid v1)), some (.int v2), some (.ref (rAid v3)), some (.ref (rAid v4)), some (.ref (rAid v5)), none, some (.int v7), none, none, none, none, none] [] := by
  have h : rec3 v1 v2 v3 v4 v5 (v7 + (1 : Int32)) σ = some r := h
  refine aw_iload C dX9_cutsLines_199 rfl ?_
  refine aw_iconst C 1 dX9_cutsLines_201 ki_1 ?_
  refine aw_iadd C dX9_cutsLines_202 ?_
  refine aw_istore C dX9_cutsLines_203 (by decide) rfl ?_
  refine aw_nl [some (.ref 181), some (.ref (rAid v1)), some (.int v2), some (.ref (rAid v3)), some (.ref (rAid v4)), some (.ref (rAid v5)), some (.int (v7 + (1 : Int32))), some (.int v7), none, none, none, none, none] rfl ?_
  refine aw_goto C 3 dX9_cutsLines_205 (by decide) ?_
  refine aw_fl [some (.ref 181), some (.ref (rAid v1)), some (.int v2), some (.ref (rAid v3)), some (.ref (rAid v4)), some (.ref (rAid v5)), some (.int (v7 + (1 : Int32))), none, none, none, none, none, none] ⟨rfl, ⟨rfl, ⟨rfl, ⟨rfl, ⟨rfl, ⟨rfl, ⟨rfl, trivial⟩⟩⟩⟩⟩⟩⟩ ?_
  exact Hr3 v1 v2 v3 v4 v5 (v7 + (1 : Int32)) σ ia1 ia3 ia4 ia5 h
def mX9_cutsLines_b161 (rec3 : Nat → Int32 → Nat → Nat → Nat → Int32 → RS9 → Option (Int32 × RS9)) (v1 : Nat) (v2 : Int32) (v3 : Nat) (v4 : Nat) (v5 : Nat) (v7 : Int32) (v8 : Int32) (v11 : Int32) (v12 : Int32) (σ : RS9) : Option (Int32 × RS9) := (if (σ.1 54) ≤ v11 then mX9_cutsLines_b199 rec3 v1 v2 v3 v4 v5 v7 σ else (if v3 = 17 then rCk (rIn v11 (rLen 20)) (rCk (rIn v11 (rLen 21)) (mX9_cutsLines_b199 rec3 v1 v2 v3 v4 v5 v7 (rSa (rSa σ 20 v11 v8) 21 v11 (v12 - v8)))) else mX9_cutsLines_b199 rec3 v1 v2 v3 v4 v5 v7 σ))
set_option maxHeartbeats 1000000 in
theorem rmX9_cutsLines_b161 {X : GX} {p : Program} {l : Launch} {e : Env} {s : State} {m : MethodId} {args : Array Value} {below : List Frame} {meth : Method} {c : Code} {f : AH} {n : Nat} {r : Int32 × RS9} {rec3 : Nat → Int32 → Nat → Nat → Nat → Int32 → RS9 → Option (Int32 × RS9)} {v1 : Nat} {v2 : Int32} {v3 : Nat} {v4 : Nat} {v5 : Nat} {v7 : Int32} {v8 : Int32} {v11 : Int32} {v12 : Int32} {σ : RS9} (C : CC X p l (RM 1 0 0) s m args meth c RX9 cX9_cutsLines 13 none) (Hr3 : ∀ (v1 : Nat) (v2 : Int32) (v3 : Nat) (v4 : Nat) (v5 : Nat) (v6 : Int32) (σ : RS9), rIsA v1 = true → rIsA v3 = true → rIsA v4 = true → rIsA v5 = true → rec3 v1 v2 v3 v4 v5 v6 σ = some r → AW X p l e (RM 1 0 0) s m args below meth c 13 (ZM X below args s 0 0 (QMv f n r)) (rHm f σ) n 0 0 3 [some (.ref 181), some (.ref (rAid v1)), some (.int v2), some (.ref (rAid v3)), some (.ref (rAid v4)), some (.ref (rAid v5)), some (.int v6), none, none, none, none, none, none] []) (ia1 : rIsA v1 = true) (ia3 : rIsA v3 = true) (ia4 : rIsA v4 = true) (ia5 : rIsA v5 = true) (h : mX9_cutsLines_b161 rec3 v1 v2 v3 v4 v5 v7 v8 v11 v12 σ = some r) : AW X p l e (RM 1 0 0) s m args below meth c 13 (ZM X below args s 0 0 (QMv f n r)) (rHm f σ) n 0 0 161 [some (.ref 181), some (.ref (rAid v1)), some (.int v2), some (.ref (rAid v3)), some (.ref (rAid v4)), some (.ref (rAid v5)), none, some (.int v7), some (.int v8), none, none, some (.int v11), some (.int v12)] [] := by
  have h : (if (σ.1 54) ≤ v11 then mX9_cutsLines_b199 rec3 v1 v2 v3 v4 v5 v7 σ else (if v3 = 17 then rCk (rIn v11 (rLen 20)) (rCk (rIn v11 (rLen 21)) (mX9_cutsLines_b199 rec3 v1 v2 v3 v4 v5 v7 (rSa (rSa σ 20 v11 v8) 21 v11 (v12 - v8)))) else mX9_cutsLines_b199 rec3 v1 v2 v3 v4 v5 v7 σ)) = some r := h
  refine aw_ald_n C dX9_cutsLines_161 rfl ?_
  refine aw_get C (v := .int (σ.1 54)) gf_X9_145 (hm_M f σ) rfl dX9_cutsLines_162 ?_
  refine aw_iload C dX9_cutsLines_165 rfl ?_
  refine aw_icmp_le C 199 dX9_cutsLines_167 (by decide) (fun q => ?_) (fun q => ?_)
  · rw [if_pos q] at h
    refine aw_fl [some (.ref 181), some (.ref (rAid v1)), some (.int v2), some (.ref (rAid v3)), some (.ref (rAid v4)), some (.ref (rAid v5)), none, some (.int v7), none, none, none, none, none] ⟨rfl, ⟨rfl, ⟨rfl, ⟨rfl, ⟨rfl, ⟨rfl, ⟨rfl, trivial⟩⟩⟩⟩⟩⟩⟩ ?_
    exact rmX9_cutsLines_b199 C Hr3 ia1 ia3 ia4 ia5 h
  · rw [if_neg q] at h
    refine aw_ald_n C dX9_cutsLines_170 rfl ?_
    refine aw_ald_n C dX9_cutsLines_171 rfl ?_
    refine aw_get C (v := .ref (rAid 17)) gf_X9_39 (hm_M f σ) rfl dX9_cutsLines_172 ?_
    refine aw_acmp_ne C 199 dX9_cutsLines_175 (by decide) ia3 rfl (fun q => ?_) (fun q => ?_)
    · rw [if_neg q] at h
      refine aw_fl [some (.ref 181), some (.ref (rAid v1)), some (.int v2), some (.ref (rAid v3)), some (.ref (rAid v4)), some (.ref (rAid v5)), none, some (.int v7), none, none, none, none, none] ⟨rfl, ⟨rfl, ⟨rfl, ⟨rfl, ⟨rfl, ⟨rfl, ⟨rfl, trivial⟩⟩⟩⟩⟩⟩⟩ ?_
      exact rmX9_cutsLines_b199 C Hr3 ia1 ia3 ia4 ia5 h
    · rw [if_pos q] at h
      refine aw_ald_n C dX9_cutsLines_178 rfl ?_
      refine aw_get C (v := .ref (rAid 20)) gf_X9_48 (hm_M f σ) rfl dX9_cutsLines_179 ?_
      refine aw_iload C dX9_cutsLines_182 rfl ?_
      refine aw_iload C dX9_cutsLines_184 rfl ?_
      obtain ⟨hb1, h⟩ := ck_some h
      refine am_iast C rfl (inb_vp hb1) dX9_cutsLines_186 ?_
      refine aw_ald_n C dX9_cutsLines_187 rfl ?_
      refine aw_get C (v := .ref (rAid 21)) gf_X9_51 (hm_M f (rSa σ 20 v11 v8)) rfl dX9_cutsLines_188 ?_
      refine aw_iload C dX9_cutsLines_191 rfl ?_
      refine aw_iload C dX9_cutsLines_193 rfl ?_
      refine aw_iload C dX9_cutsLines_195 rfl ?_
      refine aw_isub C dX9_cutsLines_197 ?_
      obtain ⟨hb2, h⟩ := ck_some h
      refine am_iast C rfl (inb_vp hb2) dX9_cutsLines_198 ?_
      refine aw_fl [some (.ref 181), some (.ref (rAid v1)), some (.int v2), some (.ref (rAid v3)), some (.ref (rAid v4)), some (.ref (rAid v5)), none, some (.int v7), none, none, none, none, none] ⟨rfl, ⟨rfl, ⟨rfl, ⟨rfl, ⟨rfl, ⟨rfl, ⟨rfl, trivial⟩⟩⟩⟩⟩⟩⟩ ?_
      exact rmX9_cutsLines_b199 C Hr3 ia1 ia3 ia4 ia5 h
def mX9_cutsLines_l137 (rec3 : Nat → Int32 → Nat → Nat → Nat → Int32 → RS9 → Option (Int32 × RS9)) : Nat → Nat → Int32 → Nat → Nat → Nat → Int32 → Int32 → Int32 → Int32 → RS9 → Option (Int32 × RS9)
  | 0, _, _, _, _, _, _, _, _, _, _ => none
  | d + 1, v1, v2, v3, v4, v5, v7, v8, v11, v12, σ => (if v12 ≤ v8 then mX9_cutsLines_b161 rec3 v1 v2 v3 v4 v5 v7 v8 v11 v12 σ else rCk (rIn (v12 - (1 : Int32)) (rLen v1)) ((if (rGa σ v1 (v12 - (1 : Int32))) = (32 : Int32) then mX9_cutsLines_l137 rec3 d v1 v2 v3 v4 v5 v7 v8 v11 (v12 + (-1 : Int32)) σ else mX9_cutsLines_b161 rec3 v1 v2 v3 v4 v5 v7 v8 v11 v12 σ)))
set_option maxHeartbeats 1000000 in
theorem rmX9_cutsLines_l137 {X : GX} {p : Program} {l : Launch} {e : Env} {s : State} {m : MethodId} {args : Array Value} {below : List Frame} {meth : Method} {c : Code} {f : AH} {n : Nat} {r : Int32 × RS9} {rec3 : Nat → Int32 → Nat → Nat → Nat → Int32 → RS9 → Option (Int32 × RS9)} (C : CC X p l (RM 1 0 0) s m args meth c RX9 cX9_cutsLines 13 none) (Hr3 : ∀ (v1 : Nat) (v2 : Int32) (v3 : Nat) (v4 : Nat) (v5 : Nat) (v6 : Int32) (σ : RS9), rIsA v1 = true → rIsA v3 = true → rIsA v4 = true → rIsA v5 = true → rec3 v1 v2 v3 v4 v5 v6 σ = some r → AW X p l e (RM 1 0 0) s m args below meth c 13 (ZM X below args s 0 0 (QMv f n r)) (rHm f σ) n 0 0 3 [some (.ref 181), some (.ref (rAid v1)), some (.int v2), some (.ref (rAid v3)), some (.ref (rAid v4)), some (.ref (rAid v5)), some (.int v6), none, none, none, none, none, none] []) : ∀ (d : Nat) (v1 : Nat) (v2 : Int32) (v3 : Nat) (v4 : Nat) (v5 : Nat) (v7 : Int32) (v8 : Int32) (v11 : Int32) (v12 : Int32) (σ : RS9) (_ : rIsA v1 = true) (_ : rIsA v3 = true) (_ : rIsA v4 = true) (_ : rIsA v5 = true) (_ : mX9_cutsLines_l137 rec3 d v1 v2 v3 v4 v5 v7 v8 v11 v12 σ = some r), AW X p l e (RM 1 0 0) s m args below meth c 13 (ZM X below args s 0 0 (QMv f n r)) (rHm f σ) n 0 0 137 [some (.ref 181), some (.ref (rAid v1)), some (.int v2), some (.ref (rAid v3)), some (.ref (rAid v4)), some (.ref (rAid v5)), none, some (.int v7), some (.int v8), none, none, some (.int v11), some (.int v12)] [] := by
  intro d
  induction d with
  | zero =>
    intro v1 v2 v3 v4 v5 v7 v8 v11 v12 σ ia1 ia3 ia4 ia5 h
    exact nomatch (show (none : Option (Int32 × RS9)) = some r from h)
  | succ d ih =>
    intro v1 v2 v3 v4 v5 v7 v8 v11 v12 σ ia1 ia3 ia4 ia5 h
    have h : (if v12 ≤ v8 then mX9_cutsLines_b161 rec3 v1 v2 v3 v4 v5 v7 v8 v11 v12 σ else rCk (rIn (v12 - (1 : Int32)) (rLen v1)) ((if (rGa σ v1 (v12 - (1 : Int32))) = (32 : Int32) then mX9_cutsLines_l137 rec3 d v1 v2 v3 v4 v5 v7 v8 v11 (v12 + (-1 : Int32)) σ else mX9_cutsLines_b161 rec3 v1 v2 v3 v4 v5 v7 v8 v11 v12 σ))) = some r := h
    refine aw_iload C dX9_cutsLines_137 rfl ?_
    refine aw_iload C dX9_cutsLines_139 rfl ?_
    refine aw_icmp_le C 161 dX9_cutsLines_141 (by decide) (fun q => ?_) (fun q => ?_)
    · rw [if_pos q] at h
      refine aw_fl [some (.ref 181), some (.ref (rAid v1)), some (.int v2), some (.ref (rAid v3)), some (.ref (rAid v4)), some (.ref (rAid v5)), none, some (.int v7), some (.int v8), none, none, some (.int v11), some (.int v12)] ⟨rfl, ⟨rfl, ⟨rfl, ⟨rfl, ⟨rfl, ⟨rfl, ⟨rfl, ⟨rfl, ⟨rfl, ⟨rfl, trivial⟩⟩⟩⟩⟩⟩⟩⟩⟩⟩ ?_
      exact rmX9_cutsLines_b161 C Hr3 ia1 ia3 ia4 ia5 h
    · rw [if_neg q] at h
      refine aw_ald_n C dX9_cutsLines_144 rfl ?_
      refine aw_iload C dX9_cutsLines_145 rfl ?_
      refine aw_iconst C 1 dX9_cutsLines_147 ki_1 ?_
      refine aw_isub C dX9_cutsLines_148 ?_
      obtain ⟨hb1, h⟩ := ck_some h
      refine am_iald C (rGa σ v1 (v12 - (1 : Int32))) ia1 (inb_vp hb1) rfl dX9_cutsLines_149 ?_
      refine aw_bipush C 32 dX9_cutsLines_150 kb_32 ?_
      refine aw_icmp_ne C 161 dX9_cutsLines_152 (by decide) (fun q => ?_) (fun q => ?_)
      · rw [if_neg q] at h
        refine aw_fl [some (.ref 181), some (.ref (rAid v1)), some (.int v2), some (.ref (rAid v3)), some (.ref (rAid v4)), some (.ref (rAid v5)), none, some (.int v7), some (.int v8), none, none, some (.int v11), some (.int v12)] ⟨rfl, ⟨rfl, ⟨rfl, ⟨rfl, ⟨rfl, ⟨rfl, ⟨rfl, ⟨rfl, ⟨rfl, ⟨rfl, trivial⟩⟩⟩⟩⟩⟩⟩⟩⟩⟩ ?_
        exact rmX9_cutsLines_b161 C Hr3 ia1 ia3 ia4 ia5 h
      · rw [if_pos q] at h
        refine aw_iinc C (v12 + (-1 : Int32)) dX9_cutsLines_155 rfl (by rw [ki_m1]) (by decide) rfl ?_
        refine aw_nl [some (.ref 181), some (.ref (rAid v1)), some (.int v2), some (.ref (rAid v3)), some (.ref (rAid v4)), some (.ref (rAid v5)), none, some (.int v7), some (.int v8), none, none, some (.int v11), some (.int (v12 + (-1 : Int32)))] rfl ?_
        refine aw_goto C 137 dX9_cutsLines_158 (by decide) ?_
        refine aw_fl [some (.ref 181), some (.ref (rAid v1)), some (.int v2), some (.ref (rAid v3)), some (.ref (rAid v4)), some (.ref (rAid v5)), none, some (.int v7), some (.int v8), none, none, some (.int v11), some (.int (v12 + (-1 : Int32)))] ⟨rfl, ⟨rfl, ⟨rfl, ⟨rfl, ⟨rfl, ⟨rfl, ⟨rfl, ⟨rfl, ⟨rfl, ⟨rfl, trivial⟩⟩⟩⟩⟩⟩⟩⟩⟩⟩ ?_
        exact ih v1 v2 v3 v4 v5 v7 v8 v11 (v12 + (-1 : Int32)) σ ia1 ia3 ia4 ia5 h
def mX9_cutsLines_b113 (rec3 : Nat → Int32 → Nat → Nat → Nat → Int32 → RS9 → Option (Int32 × RS9)) (v1 : Nat) (v2 : Int32) (v3 : Nat) (v4 : Nat) (v5 : Nat) (v7 : Int32) (v8 : Int32) (v9 : Int32) (v10 : Int32) (σ : RS9) : Option (Int32 × RS9) := ((mX9_finds v3 v4 v5 v10 v7 (0 : Int32) σ).bind fun r1 => mX9_cutsLines_l137 rec3 rFU v1 v2 v3 v4 v5 v7 v8 (σ.1 54) v9 r1.2)
set_option maxHeartbeats 1000000 in
theorem rmX9_cutsLines_b113 {X : GX} {p : Program} {l : Launch} {e : Env} {s : State} {m : MethodId} {args : Array Value} {below : List Frame} {meth : Method} {c : Code} {f : AH} {n : Nat} {r : Int32 × RS9} {rec3 : Nat → Int32 → Nat → Nat → Nat → Int32 → RS9 → Option (Int32 × RS9)} {v1 : Nat} {v2 : Int32} {v3 : Nat} {v4 : Nat} {v5 : Nat} {v7 : Int32} {v8 : Int32} {v9 : Int32} {v10 : Int32} {σ : RS9} (C : CC X p l (RM 1 0 0) s m args meth c RX9 cX9_cutsLines 13 none) (Hr3 : ∀ (v1 : Nat) (v2 : Int32) (v3 : Nat) (v4 : Nat) (v5 : Nat) (v6 : Int32) (σ : RS9), rIsA v1 = true → rIsA v3 = true → rIsA v4 = true → rIsA v5 = true → rec3 v1 v2 v3 v4 v5 v6 σ = some r → AW X p l e (RM 1 0 0) s m args below meth c 13 (ZM X below args s 0 0 (QMv f n r)) (rHm f σ) n 0 0 3 [some (.ref 181), some (.ref (rAid v1)), some (.int v2), some (.ref (rAid v3)), some (.ref (rAid v4)), some (.ref (rAid v5)), some (.int v6), none, none, none, none, none, none] []) (ia1 : rIsA v1 = true) (ia3 : rIsA v3 = true) (ia4 : rIsA v4 = true) (ia5 : rIsA v5 = true) (h : mX9_cutsLines_b113 rec3 v1 v2 v3 v4 v5 v7 v8 v9 v10 σ = some r) : AW X p l e (RM 1 0 0) s m args below meth c 13 (ZM X below args s 0 0 (QMv f n r)) (rHm f σ) n 0 0 113 [some (.ref 181), some (.ref (rAid v1)), some (.int v2), some (.ref (rAid v3)), some (.ref (rAid v4)), some (.ref (rAid v5)), none, some (.int v7), some (.int v8), some (.int v9), some (.int v10), none, none] [] := by
  have h : ((mX9_finds v3 v4 v5 v10 v7 (0 : Int32) σ).bind fun r1 => mX9_cutsLines_l137 rec3 rFU v1 v2 v3 v4 v5 v7 v8 (σ.1 54) v9 r1.2) = some r := h
  refine aw_ald_n C dX9_cutsLines_113 rfl ?_
  refine aw_get C (v := .int (σ.1 54)) gf_X9_145 (hm_M f σ) rfl dX9_cutsLines_114 ?_
  refine aw_istore C dX9_cutsLines_117 (by decide) rfl ?_
  refine aw_nl [some (.ref 181), some (.ref (rAid v1)), some (.int v2), some (.ref (rAid v3)), some (.ref (rAid v4)), some (.ref (rAid v5)), none, some (.int v7), some (.int v8), some (.int v9), some (.int v10), some (.int (σ.1 54)), none] rfl ?_
  refine aw_ald_n C dX9_cutsLines_119 rfl ?_
  refine aw_ald_n C dX9_cutsLines_120 rfl ?_
  refine aw_ald C dX9_cutsLines_121 rfl ?_
  refine aw_ald C dX9_cutsLines_123 rfl ?_
  refine aw_iload C dX9_cutsLines_125 rfl ?_
  refine aw_iload C dX9_cutsLines_127 rfl ?_
  refine aw_iconst C 0 dX9_cutsLines_129 ki_0 ?_
  obtain ⟨r1, h1, h⟩ := Option.bind_eq_some_iff.mp h
  refine aw_callV C (ci := 9) (b := 181) [.ref (rAid v3), .ref (rAid v4), .ref (rAid v5), .int v10, .int v7, .int (0 : Int32)] mv_X9_152 rfl rfl (hm_M f σ) (rmX9_finds ia3 ia4 ia5 h1) rfl dX9_cutsLines_130 (Nat.le_of_ble_eq_true rfl) (Nat.le_of_ble_eq_true rfl) rfl (Nat.le_of_ble_eq_true rfl) (Nat.le_of_ble_eq_true rfl) (Nat.le_of_ble_eq_true rfl) (fun v9 f9 n9 hh => ?_)
  obtain ⟨rfl, rfl, rfl⟩ := hh
  refine aw_iload C dX9_cutsLines_133 rfl ?_
  refine aw_istore C dX9_cutsLines_135 (by decide) rfl ?_
  refine aw_nl [some (.ref 181), some (.ref (rAid v1)), some (.int v2), some (.ref (rAid v3)), some (.ref (rAid v4)), some (.ref (rAid v5)), none, some (.int v7), some (.int v8), some (.int v9), some (.int v10), some (.int (σ.1 54)), some (.int v9)] rfl ?_
  refine aw_fl [some (.ref 181), some (.ref (rAid v1)), some (.int v2), some (.ref (rAid v3)), some (.ref (rAid v4)), some (.ref (rAid v5)), none, some (.int v7), some (.int v8), none, none, some (.int (σ.1 54)), some (.int v9)] ⟨rfl, ⟨rfl, ⟨rfl, ⟨rfl, ⟨rfl, ⟨rfl, ⟨rfl, ⟨rfl, ⟨rfl, ⟨rfl, trivial⟩⟩⟩⟩⟩⟩⟩⟩⟩⟩ ?_
  exact rmX9_cutsLines_l137 C Hr3 rFU v1 v2 v3 v4 v5 v7 v8 (σ.1 54) v9 r1.2 ia1 ia3 ia4 ia5 h
def mX9_cutsLines_l91 (rec3 : Nat → Int32 → Nat → Nat → Nat → Int32 → RS9 → Option (Int32 × RS9)) : Nat → Nat → Int32 → Nat → Nat → Nat → Int32 → Int32 → Int32 → Int32 → RS9 → Option (Int32 × RS9)
  | 0, _, _, _, _, _, _, _, _, _, _ => none
  | d + 1, v1, v2, v3, v4, v5, v7, v8, v9, v10, σ => (if v7 ≤ v10 then mX9_cutsLines_b113 rec3 v1 v2 v3 v4 v5 v7 v8 v9 v10 σ else rCk (rIn v10 (rLen v1)) ((if (rGa σ v1 v10) = (32 : Int32) then mX9_cutsLines_l91 rec3 d v1 v2 v3 v4 v5 v7 v8 v9 (v10 + (1 : Int32)) σ else mX9_cutsLines_b113 rec3 v1 v2 v3 v4 v5 v7 v8 v9 v10 σ)))
set_option maxHeartbeats 1000000 in
theorem rmX9_cutsLines_l91 {X : GX} {p : Program} {l : Launch} {e : Env} {s : State} {m : MethodId} {args : Array Value} {below : List Frame} {meth : Method} {c : Code} {f : AH} {n : Nat} {r : Int32 × RS9} {rec3 : Nat → Int32 → Nat → Nat → Nat → Int32 → RS9 → Option (Int32 × RS9)} (C : CC X p l (RM 1 0 0) s m args meth c RX9 cX9_cutsLines 13 none) (Hr3 : ∀ (v1 : Nat) (v2 : Int32) (v3 : Nat) (v4 : Nat) (v5 : Nat) (v6 : Int32) (σ : RS9), rIsA v1 = true → rIsA v3 = true → rIsA v4 = true → rIsA v5 = true → rec3 v1 v2 v3 v4 v5 v6 σ = some r → AW X p l e (RM 1 0 0) s m args below meth c 13 (ZM X below args s 0 0 (QMv f n r)) (rHm f σ) n 0 0 3 [some (.ref 181), some (.ref (rAid v1)), some (.int v2), some (.ref (rAid v3)), some (.ref (rAid v4)), some (.ref (rAid v5)), some (.int v6), none, none, none, none, none, none] []) : ∀ (d : Nat) (v1 : Nat) (v2 : Int32) (v3 : Nat) (v4 : Nat) (v5 : Nat) (v7 : Int32) (v8 : Int32) (v9 : Int32) (v10 : Int32) (σ : RS9) (_ : rIsA v1 = true) (_ : rIsA v3 = true) (_ : rIsA v4 = true) (_ : rIsA v5 = true) (_ : mX9_cutsLines_l91 rec3 d v1 v2 v3 v4 v5 v7 v8 v9 v10 σ = some r), AW X p l e (RM 1 0 0) s m args below meth c 13 (ZM X below args s 0 0 (QMv f n r)) (rHm f σ) n 0 0 91 [some (.ref 181), some (.ref (rAid v1)), some (.int v2), some (.ref (rAid v3)), some (.ref (rAid v4)), some (.ref (rAid v5)), none, some (.int v7), some (.int v8), some (.int v9), some (.int v10), none, none] [] := by
  intro d
  induction d with
  | zero =>
    intro v1 v2 v3 v4 v5 v7 v8 v9 v10 σ ia1 ia3 ia4 ia5 h
    exact nomatch (show (none : Option (Int32 × RS9)) = some r from h)
  | succ d ih =>
    intro v1 v2 v3 v4 v5 v7 v8 v9 v10 σ ia1 ia3 ia4 ia5 h
    have h : (if v7 ≤ v10 then mX9_cutsLines_b113 rec3 v1 v2 v3 v4 v5 v7 v8 v9 v10 σ else rCk (rIn v10 (rLen v1)) ((if (rGa σ v1 v10) = (32 : Int32) then mX9_cutsLines_l91 rec3 d v1 v2 v3 v4 v5 v7 v8 v9 (v10 + (1 : Int32)) σ else mX9_cutsLines_b113 rec3 v1 v2 v3 v4 v5 v7 v8 v9 v10 σ))) = some r := h
    refine aw_iload C dX9_cutsLines_91 rfl ?_
    refine aw_iload C dX9_cutsLines_93 rfl ?_
    refine aw_icmp_ge C 113 dX9_cutsLines_95 (by decide) (fun q => ?_) (fun q => ?_)
    · rw [if_pos q] at h
      refine aw_fl [some (.ref 181), some (.ref (rAid v1)), some (.int v2), some (.ref (rAid v3)), some (.ref (rAid v4)), some (.ref (rAid v5)), none, some (.int v7), some (.int v8), some (.int v9), some (.int v10), none, none] ⟨rfl, ⟨rfl, ⟨rfl, ⟨rfl, ⟨rfl, ⟨rfl, ⟨rfl, ⟨rfl, ⟨rfl, ⟨rfl, trivial⟩⟩⟩⟩⟩⟩⟩⟩⟩⟩ ?_
      exact rmX9_cutsLines_b113 C Hr3 ia1 ia3 ia4 ia5 h
    · rw [if_neg q] at h
      refine aw_ald_n C dX9_cutsLines_98 rfl ?_
      refine aw_iload C dX9_cutsLines_99 rfl ?_
      obtain ⟨hb1, h⟩ := ck_some h
      refine am_iald C (rGa σ v1 v10) ia1 (inb_vp hb1) rfl dX9_cutsLines_101 ?_
      refine aw_bipush C 32 dX9_cutsLines_102 kb_32 ?_
      refine aw_icmp_ne C 113 dX9_cutsLines_104 (by decide) (fun q => ?_) (fun q => ?_)
      · rw [if_neg q] at h
        refine aw_fl [some (.ref 181), some (.ref (rAid v1)), some (.int v2), some (.ref (rAid v3)), some (.ref (rAid v4)), some (.ref (rAid v5)), none, some (.int v7), some (.int v8), some (.int v9), some (.int v10), none, none] ⟨rfl, ⟨rfl, ⟨rfl, ⟨rfl, ⟨rfl, ⟨rfl, ⟨rfl, ⟨rfl, ⟨rfl, ⟨rfl, trivial⟩⟩⟩⟩⟩⟩⟩⟩⟩⟩ ?_
        exact rmX9_cutsLines_b113 C Hr3 ia1 ia3 ia4 ia5 h
      · rw [if_pos q] at h
        refine aw_iinc C (v10 + (1 : Int32)) dX9_cutsLines_107 rfl (by rw [ki_1]) (by decide) rfl ?_
        refine aw_nl [some (.ref 181), some (.ref (rAid v1)), some (.int v2), some (.ref (rAid v3)), some (.ref (rAid v4)), some (.ref (rAid v5)), none, some (.int v7), some (.int v8), some (.int v9), some (.int (v10 + (1 : Int32))), none, none] rfl ?_
        refine aw_goto C 91 dX9_cutsLines_110 (by decide) ?_
        refine aw_fl [some (.ref 181), some (.ref (rAid v1)), some (.int v2), some (.ref (rAid v3)), some (.ref (rAid v4)), some (.ref (rAid v5)), none, some (.int v7), some (.int v8), some (.int v9), some (.int (v10 + (1 : Int32))), none, none] ⟨rfl, ⟨rfl, ⟨rfl, ⟨rfl, ⟨rfl, ⟨rfl, ⟨rfl, ⟨rfl, ⟨rfl, ⟨rfl, trivial⟩⟩⟩⟩⟩⟩⟩⟩⟩⟩ ?_
        exact ih v1 v2 v3 v4 v5 v7 v8 v9 (v10 + (1 : Int32)) σ ia1 ia3 ia4 ia5 h
def mX9_cutsLines_b48 (rec3 : Nat → Int32 → Nat → Nat → Nat → Int32 → RS9 → Option (Int32 × RS9)) (v1 : Nat) (v2 : Int32) (v3 : Nat) (v4 : Nat) (v5 : Nat) (v6 : Int32) (v7 : Int32) (v8 : Int32) (σ : RS9) : Option (Int32 × RS9) := ((mX9_endOf v1 v7 v6 (61 : Int32) (61 : Int32) σ).bind fun r1 => (if v7 ≤ v8 then mX9_cutsLines_b199 rec3 v1 v2 v3 v4 v5 v7 r1.2 else rCk (rIn v8 (rLen v1)) ((if (rGa r1.2 v1 v8) = (35 : Int32) then mX9_cutsLines_b199 rec3 v1 v2 v3 v4 v5 v7 r1.2 else (if v7 ≤ r1.1 then mX9_cutsLines_b199 rec3 v1 v2 v3 v4 v5 v7 r1.2 else mX9_cutsLines_l91 rec3 rFU v1 v2 v3 v4 v5 v7 v8 r1.1 (r1.1 + (1 : Int32)) r1.2)))))
set_option maxHeartbeats 1000000 in
theorem rmX9_cutsLines_b48 {X : GX} {p : Program} {l : Launch} {e : Env} {s : State} {m : MethodId} {args : Array Value} {below : List Frame} {meth : Method} {c : Code} {f : AH} {n : Nat} {r : Int32 × RS9} {rec3 : Nat → Int32 → Nat → Nat → Nat → Int32 → RS9 → Option (Int32 × RS9)} {v1 : Nat} {v2 : Int32} {v3 : Nat} {v4 : Nat} {v5 : Nat} {v6 : Int32} {v7 : Int32} {v8 : Int32} {σ : RS9} (C : CC X p l (RM 1 0 0) s m args meth c RX9 cX9_cutsLines 13 none) (Hr3 : ∀ (v1 : Nat) (v2 : Int32) (v3 : Nat) (v4 : Nat) (v5 : Nat) (v6 : Int32) (σ : RS9), rIsA v1 = true → rIsA v3 = true → rIsA v4 = true → rIsA v5 = true → rec3 v1 v2 v3 v4 v5 v6 σ = some r → AW X p l e (RM 1 0 0) s m args below meth c 13 (ZM X below args s 0 0 (QMv f n r)) (rHm f σ) n 0 0 3 [some (.ref 181), some (.ref (rAid v1)), some (.int v2), some (.ref (rAid v3)), some (.ref (rAid v4)), some (.ref (rAid v5)), some (.int v6), none, none, none, none, none, none] []) (ia1 : rIsA v1 = true) (ia3 : rIsA v3 = true) (ia4 : rIsA v4 = true) (ia5 : rIsA v5 = true) (h : mX9_cutsLines_b48 rec3 v1 v2 v3 v4 v5 v6 v7 v8 σ = some r) : AW X p l e (RM 1 0 0) s m args below meth c 13 (ZM X below args s 0 0 (QMv f n r)) (rHm f σ) n 0 0 48 [some (.ref 181), some (.ref (rAid v1)), some (.int v2), some (.ref (rAid v3)), some (.ref (rAid v4)), some (.ref (rAid v5)), some (.int v6), some (.int v7), some (.int v8), none, none, none, none] [] := by
  have h : ((mX9_endOf v1 v7 v6 (61 : Int32) (61 : Int32) σ).bind fun r1 => (if v7 ≤ v8 then mX9_cutsLines_b199 rec3 v1 v2 v3 v4 v5 v7 r1.2 else rCk (rIn v8 (rLen v1)) ((if (rGa r1.2 v1 v8) = (35 : Int32) then mX9_cutsLines_b199 rec3 v1 v2 v3 v4 v5 v7 r1.2 else (if v7 ≤ r1.1 then mX9_cutsLines_b199 rec3 v1 v2 v3 v4 v5 v7 r1.2 else mX9_cutsLines_l91 rec3 rFU v1 v2 v3 v4 v5 v7 v8 r1.1 (r1.1 + (1 : Int32)) r1.2))))) = some r := h
  refine aw_ald_n C dX9_cutsLines_48 rfl ?_
  refine aw_iload C dX9_cutsLines_49 rfl ?_
  refine aw_iload C dX9_cutsLines_51 rfl ?_
  refine aw_bipush C 61 dX9_cutsLines_53 kb_61 ?_
  refine aw_bipush C 61 dX9_cutsLines_55 kb_61 ?_
  obtain ⟨r1, h1, h⟩ := Option.bind_eq_some_iff.mp h
  refine aw_callS C [.ref (rAid v1), .int v7, .int v6, .int (61 : Int32), .int (61 : Int32)] ms_X9_148 (rmX9_endOf ia1 h1) rfl dX9_cutsLines_57 (Nat.le_of_ble_eq_true rfl) (Nat.le_of_ble_eq_true rfl) rfl (Nat.le_of_ble_eq_true rfl) (Nat.le_of_ble_eq_true rfl) (Nat.le_of_ble_eq_true rfl) (fun v9 f9 n9 hh => ?_)
  obtain ⟨rfl, rfl, rfl⟩ := hh
  refine aw_istore C dX9_cutsLines_60 (by decide) rfl ?_
  refine aw_nl [some (.ref 181), some (.ref (rAid v1)), some (.int v2), some (.ref (rAid v3)), some (.ref (rAid v4)), some (.ref (rAid v5)), some (.int v6), some (.int v7), some (.int v8), some (.int r1.1), none, none, none] rfl ?_
  refine aw_iload C dX9_cutsLines_62 rfl ?_
  refine aw_iload C dX9_cutsLines_64 rfl ?_
  refine aw_icmp_ge C 199 dX9_cutsLines_66 (by decide) (fun q => ?_) (fun q => ?_)
  · rw [if_pos q] at h
    refine aw_fl [some (.ref 181), some (.ref (rAid v1)), some (.int v2), some (.ref (rAid v3)), some (.ref (rAid v4)), some (.ref (rAid v5)), none, some (.int v7), none, none, none, none, none] ⟨rfl, ⟨rfl, ⟨rfl, ⟨rfl, ⟨rfl, ⟨rfl, ⟨rfl, trivial⟩⟩⟩⟩⟩⟩⟩ ?_
    exact rmX9_cutsLines_b199 C Hr3 ia1 ia3 ia4 ia5 h
  · rw [if_neg q] at h
    refine aw_ald_n C dX9_cutsLines_69 rfl ?_
    refine aw_iload C dX9_cutsLines_70 rfl ?_
    obtain ⟨hb2, h⟩ := ck_some h
    refine am_iald C (rGa r1.2 v1 v8) ia1 (inb_vp hb2) rfl dX9_cutsLines_72 ?_
    refine aw_bipush C 35 dX9_cutsLines_73 kb_35 ?_
    refine aw_icmp_eq C 199 dX9_cutsLines_75 (by decide) (fun q => ?_) (fun q => ?_)
    · rw [if_pos q] at h
      refine aw_fl [some (.ref 181), some (.ref (rAid v1)), some (.int v2), some (.ref (rAid v3)), some (.ref (rAid v4)), some (.ref (rAid v5)), none, some (.int v7), none, none, none, none, none] ⟨rfl, ⟨rfl, ⟨rfl, ⟨rfl, ⟨rfl, ⟨rfl, ⟨rfl, trivial⟩⟩⟩⟩⟩⟩⟩ ?_
      exact rmX9_cutsLines_b199 C Hr3 ia1 ia3 ia4 ia5 h
    · rw [if_neg q] at h
      refine aw_iload C dX9_cutsLines_78 rfl ?_
      refine aw_iload C dX9_cutsLines_80 rfl ?_
      refine aw_icmp_ge C 199 dX9_cutsLines_82 (by decide) (fun q => ?_) (fun q => ?_)
      · rw [if_pos q] at h
        refine aw_fl [some (.ref 181), some (.ref (rAid v1)), some (.int v2), some (.ref (rAid v3)), some (.ref (rAid v4)), some (.ref (rAid v5)), none, some (.int v7), none, none, none, none, none] ⟨rfl, ⟨rfl, ⟨rfl, ⟨rfl, ⟨rfl, ⟨rfl, ⟨rfl, trivial⟩⟩⟩⟩⟩⟩⟩ ?_
        exact rmX9_cutsLines_b199 C Hr3 ia1 ia3 ia4 ia5 h
      · rw [if_neg q] at h
        refine aw_iload C dX9_cutsLines_85 rfl ?_
        refine aw_iconst C 1 dX9_cutsLines_87 ki_1 ?_
        refine aw_iadd C dX9_cutsLines_88 ?_
        refine aw_istore C dX9_cutsLines_89 (by decide) rfl ?_
        refine aw_nl [some (.ref 181), some (.ref (rAid v1)), some (.int v2), some (.ref (rAid v3)), some (.ref (rAid v4)), some (.ref (rAid v5)), some (.int v6), some (.int v7), some (.int v8), some (.int r1.1), some (.int (r1.1 + (1 : Int32))), none, none] rfl ?_
        refine aw_fl [some (.ref 181), some (.ref (rAid v1)), some (.int v2), some (.ref (rAid v3)), some (.ref (rAid v4)), some (.ref (rAid v5)), none, some (.int v7), some (.int v8), some (.int r1.1), some (.int (r1.1 + (1 : Int32))), none, none] ⟨rfl, ⟨rfl, ⟨rfl, ⟨rfl, ⟨rfl, ⟨rfl, ⟨rfl, ⟨rfl, ⟨rfl, ⟨rfl, trivial⟩⟩⟩⟩⟩⟩⟩⟩⟩⟩ ?_
        exact rmX9_cutsLines_l91 C Hr3 rFU v1 v2 v3 v4 v5 v7 v8 r1.1 (r1.1 + (1 : Int32)) r1.2 ia1 ia3 ia4 ia5 h
def mX9_cutsLines_l26 (rec3 : Nat → Int32 → Nat → Nat → Nat → Int32 → RS9 → Option (Int32 × RS9)) : Nat → Nat → Int32 → Nat → Nat → Nat → Int32 → Int32 → Int32 → RS9 → Option (Int32 × RS9)
  | 0, _, _, _, _, _, _, _, _, _ => none
  | d + 1, v1, v2, v3, v4, v5, v6, v7, v8, σ => (if v7 ≤ v8 then mX9_cutsLines_b48 rec3 v1 v2 v3 v4 v5 v6 v7 v8 σ else rCk (rIn v8 (rLen v1)) ((if (rGa σ v1 v8) = (32 : Int32) then mX9_cutsLines_l26 rec3 d v1 v2 v3 v4 v5 v6 v7 (v8 + (1 : Int32)) σ else mX9_cutsLines_b48 rec3 v1 v2 v3 v4 v5 v6 v7 v8 σ)))
set_option maxHeartbeats 1000000 in
theorem rmX9_cutsLines_l26 {X : GX} {p : Program} {l : Launch} {e : Env} {s : State} {m : MethodId} {args : Array Value} {below : List Frame} {meth : Method} {c : Code} {f : AH} {n : Nat} {r : Int32 × RS9} {rec3 : Nat → Int32 → Nat → Nat → Nat → Int32 → RS9 → Option (Int32 × RS9)} (C : CC X p l (RM 1 0 0) s m args meth c RX9 cX9_cutsLines 13 none) (Hr3 : ∀ (v1 : Nat) (v2 : Int32) (v3 : Nat) (v4 : Nat) (v5 : Nat) (v6 : Int32) (σ : RS9), rIsA v1 = true → rIsA v3 = true → rIsA v4 = true → rIsA v5 = true → rec3 v1 v2 v3 v4 v5 v6 σ = some r → AW X p l e (RM 1 0 0) s m args below meth c 13 (ZM X below args s 0 0 (QMv f n r)) (rHm f σ) n 0 0 3 [some (.ref 181), some (.ref (rAid v1)), some (.int v2), some (.ref (rAid v3)), some (.ref (rAid v4)), some (.ref (rAid v5)), some (.int v6), none, none, none, none, none, none] []) : ∀ (d : Nat) (v1 : Nat) (v2 : Int32) (v3 : Nat) (v4 : Nat) (v5 : Nat) (v6 : Int32) (v7 : Int32) (v8 : Int32) (σ : RS9) (_ : rIsA v1 = true) (_ : rIsA v3 = true) (_ : rIsA v4 = true) (_ : rIsA v5 = true) (_ : mX9_cutsLines_l26 rec3 d v1 v2 v3 v4 v5 v6 v7 v8 σ = some r), AW X p l e (RM 1 0 0) s m args below meth c 13 (ZM X below args s 0 0 (QMv f n r)) (rHm f σ) n 0 0 26 [some (.ref 181), some (.ref (rAid v1)), some (.int v2), some (.ref (rAid v3)), some (.ref (rAid v4)), some (.ref (rAid v5)), some (.int v6), some (.int v7), some (.int v8), none, none, none, none] [] := by
  intro d
  induction d with
  | zero =>
    intro v1 v2 v3 v4 v5 v6 v7 v8 σ ia1 ia3 ia4 ia5 h
    exact nomatch (show (none : Option (Int32 × RS9)) = some r from h)
  | succ d ih =>
    intro v1 v2 v3 v4 v5 v6 v7 v8 σ ia1 ia3 ia4 ia5 h
    have h : (if v7 ≤ v8 then mX9_cutsLines_b48 rec3 v1 v2 v3 v4 v5 v6 v7 v8 σ else rCk (rIn v8 (rLen v1)) ((if (rGa σ v1 v8) = (32 : Int32) then mX9_cutsLines_l26 rec3 d v1 v2 v3 v4 v5 v6 v7 (v8 + (1 : Int32)) σ else mX9_cutsLines_b48 rec3 v1 v2 v3 v4 v5 v6 v7 v8 σ))) = some r := h
    refine aw_iload C dX9_cutsLines_26 rfl ?_
    refine aw_iload C dX9_cutsLines_28 rfl ?_
    refine aw_icmp_ge C 48 dX9_cutsLines_30 (by decide) (fun q => ?_) (fun q => ?_)
    · rw [if_pos q] at h
      refine aw_fl [some (.ref 181), some (.ref (rAid v1)), some (.int v2), some (.ref (rAid v3)), some (.ref (rAid v4)), some (.ref (rAid v5)), some (.int v6), some (.int v7), some (.int v8), none, none, none, none] ⟨rfl, ⟨rfl, ⟨rfl, ⟨rfl, ⟨rfl, ⟨rfl, ⟨rfl, ⟨rfl, ⟨rfl, trivial⟩⟩⟩⟩⟩⟩⟩⟩⟩ ?_
      exact rmX9_cutsLines_b48 C Hr3 ia1 ia3 ia4 ia5 h
    · rw [if_neg q] at h
      refine aw_ald_n C dX9_cutsLines_33 rfl ?_
      refine aw_iload C dX9_cutsLines_34 rfl ?_
      obtain ⟨hb1, h⟩ := ck_some h
      refine am_iald C (rGa σ v1 v8) ia1 (inb_vp hb1) rfl dX9_cutsLines_36 ?_
      refine aw_bipush C 32 dX9_cutsLines_37 kb_32 ?_
      refine aw_icmp_ne C 48 dX9_cutsLines_39 (by decide) (fun q => ?_) (fun q => ?_)
      · rw [if_neg q] at h
        refine aw_fl [some (.ref 181), some (.ref (rAid v1)), some (.int v2), some (.ref (rAid v3)), some (.ref (rAid v4)), some (.ref (rAid v5)), some (.int v6), some (.int v7), some (.int v8), none, none, none, none] ⟨rfl, ⟨rfl, ⟨rfl, ⟨rfl, ⟨rfl, ⟨rfl, ⟨rfl, ⟨rfl, ⟨rfl, trivial⟩⟩⟩⟩⟩⟩⟩⟩⟩ ?_
        exact rmX9_cutsLines_b48 C Hr3 ia1 ia3 ia4 ia5 h
      · rw [if_pos q] at h
        refine aw_iinc C (v8 + (1 : Int32)) dX9_cutsLines_42 rfl (by rw [ki_1]) (by decide) rfl ?_
        refine aw_nl [some (.ref 181), some (.ref (rAid v1)), some (.int v2), some (.ref (rAid v3)), some (.ref (rAid v4)), some (.ref (rAid v5)), some (.int v6), some (.int v7), some (.int (v8 + (1 : Int32))), none, none, none, none] rfl ?_
        refine aw_goto C 26 dX9_cutsLines_45 (by decide) ?_
        refine aw_fl [some (.ref 181), some (.ref (rAid v1)), some (.int v2), some (.ref (rAid v3)), some (.ref (rAid v4)), some (.ref (rAid v5)), some (.int v6), some (.int v7), some (.int (v8 + (1 : Int32))), none, none, none, none] ⟨rfl, ⟨rfl, ⟨rfl, ⟨rfl, ⟨rfl, ⟨rfl, ⟨rfl, ⟨rfl, ⟨rfl, trivial⟩⟩⟩⟩⟩⟩⟩⟩⟩ ?_
        exact ih v1 v2 v3 v4 v5 v6 v7 (v8 + (1 : Int32)) σ ia1 ia3 ia4 ia5 h
def mX9_cutsLines_l3 : Nat → Nat → Int32 → Nat → Nat → Nat → Int32 → RS9 → Option (Int32 × RS9)
  | 0, _, _, _, _, _, _, _ => none
  | d + 1, v1, v2, v3, v4, v5, v6, σ => (if v2 ≤ v6 then some ((0 : Int32), σ) else ((mX9_endOf v1 v2 v6 (10 : Int32) (10 : Int32) σ).bind fun r1 => mX9_cutsLines_l26 (fun v1 v2 v3 v4 v5 v6 σ => mX9_cutsLines_l3 d v1 v2 v3 v4 v5 v6 σ) rFU v1 v2 v3 v4 v5 v6 r1.1 v6 r1.2))
set_option maxHeartbeats 1000000 in
theorem rmX9_cutsLines_l3 {X : GX} {p : Program} {l : Launch} {e : Env} {s : State} {m : MethodId} {args : Array Value} {below : List Frame} {meth : Method} {c : Code} {f : AH} {n : Nat} {r : Int32 × RS9} (C : CC X p l (RM 1 0 0) s m args meth c RX9 cX9_cutsLines 13 none) : ∀ (d : Nat) (v1 : Nat) (v2 : Int32) (v3 : Nat) (v4 : Nat) (v5 : Nat) (v6 : Int32) (σ : RS9) (_ : rIsA v1 = true) (_ : rIsA v3 = true) (_ : rIsA v4 = true) (_ : rIsA v5 = true) (_ : mX9_cutsLines_l3 d v1 v2 v3 v4 v5 v6 σ = some r), AW X p l e (RM 1 0 0) s m args below meth c 13 (ZM X below args s 0 0 (QMv f n r)) (rHm f σ) n 0 0 3 [some (.ref 181), some (.ref (rAid v1)), some (.int v2), some (.ref (rAid v3)), some (.ref (rAid v4)), some (.ref (rAid v5)), some (.int v6), none, none, none, none, none, none] [] := by
  intro d
  induction d with
  | zero =>
    intro v1 v2 v3 v4 v5 v6 σ ia1 ia3 ia4 ia5 h
    exact nomatch (show (none : Option (Int32 × RS9)) = some r from h)
  | succ d ih =>
    intro v1 v2 v3 v4 v5 v6 σ ia1 ia3 ia4 ia5 h
    have h : (if v2 ≤ v6 then some ((0 : Int32), σ) else ((mX9_endOf v1 v2 v6 (10 : Int32) (10 : Int32) σ).bind fun r1 => mX9_cutsLines_l26 (fun v1 v2 v3 v4 v5 v6 σ => mX9_cutsLines_l3 d v1 v2 v3 v4 v5 v6 σ) rFU v1 v2 v3 v4 v5 v6 r1.1 v6 r1.2)) = some r := h
    refine aw_iload C dX9_cutsLines_3 rfl ?_
    refine aw_iload_n C dX9_cutsLines_5 rfl ?_
    refine aw_icmp_ge C 208 dX9_cutsLines_6 (by decide) (fun q => ?_) (fun q => ?_)
    · rw [if_pos q] at h
      cases h
      exact aw_vret C rfl dX9_cutsLines_208 (Nat.le_refl _) (Nat.le_refl _) ⟨rfl, rfl, rfl⟩
    · rw [if_neg q] at h
      refine aw_ald_n C dX9_cutsLines_9 rfl ?_
      refine aw_iload_n C dX9_cutsLines_10 rfl ?_
      refine aw_iload C dX9_cutsLines_11 rfl ?_
      refine aw_bipush C 10 dX9_cutsLines_13 kb_10 ?_
      refine aw_bipush C 10 dX9_cutsLines_15 kb_10 ?_
      obtain ⟨r1, h1, h⟩ := Option.bind_eq_some_iff.mp h
      refine aw_callS C [.ref (rAid v1), .int v2, .int v6, .int (10 : Int32), .int (10 : Int32)] ms_X9_148 (rmX9_endOf ia1 h1) rfl dX9_cutsLines_17 (Nat.le_of_ble_eq_true rfl) (Nat.le_of_ble_eq_true rfl) rfl (Nat.le_of_ble_eq_true rfl) (Nat.le_of_ble_eq_true rfl) (Nat.le_of_ble_eq_true rfl) (fun v9 f9 n9 hh => ?_)
      obtain ⟨rfl, rfl, rfl⟩ := hh
      refine aw_istore C dX9_cutsLines_20 (by decide) rfl ?_
      refine aw_nl [some (.ref 181), some (.ref (rAid v1)), some (.int v2), some (.ref (rAid v3)), some (.ref (rAid v4)), some (.ref (rAid v5)), some (.int v6), some (.int r1.1), none, none, none, none, none] rfl ?_
      refine aw_iload C dX9_cutsLines_22 rfl ?_
      refine aw_istore C dX9_cutsLines_24 (by decide) rfl ?_
      refine aw_nl [some (.ref 181), some (.ref (rAid v1)), some (.int v2), some (.ref (rAid v3)), some (.ref (rAid v4)), some (.ref (rAid v5)), some (.int v6), some (.int r1.1), some (.int v6), none, none, none, none] rfl ?_
      refine aw_fl [some (.ref 181), some (.ref (rAid v1)), some (.int v2), some (.ref (rAid v3)), some (.ref (rAid v4)), some (.ref (rAid v5)), some (.int v6), some (.int r1.1), some (.int v6), none, none, none, none] ⟨rfl, ⟨rfl, ⟨rfl, ⟨rfl, ⟨rfl, ⟨rfl, ⟨rfl, ⟨rfl, ⟨rfl, trivial⟩⟩⟩⟩⟩⟩⟩⟩⟩ ?_
      exact rmX9_cutsLines_l26 C (fun v1 v2 v3 v4 v5 v6 σ ia1 ia3 ia4 ia5 h => ih v1 v2 v3 v4 v5 v6 σ ia1 ia3 ia4 ia5 h) rFU v1 v2 v3 v4 v5 v6 r1.1 v6 r1.2 ia1 ia3 ia4 ia5 h
def mX9_cutsLines (v1 : Nat) (v2 : Int32) (v3 : Nat) (v4 : Nat) (v5 : Nat) (σ : RS9) : Option (Int32 × RS9) := mX9_cutsLines_l3 rFU v1 v2 v3 v4 v5 (0 : Int32) σ
set_option maxHeartbeats 1000000 in
theorem rmX9_cutsLines {X : GX} {l : Launch} {f : AH} {n : Nat} {r : Int32 × RS9} {v1 : Nat} {v2 : Int32} {v3 : Nat} {v4 : Nat} {v5 : Nat} {σ : RS9} (ia1 : rIsA v1 = true) (ia3 : rIsA v3 = true) (ia4 : rIsA v4 = true) (ia5 : rIsA v5 = true) (h : mX9_cutsLines v1 v2 v3 v4 v5 σ = some r) : AM X l yX9_cutsLines cX9_cutsLines 13 none 1 0 0 [.ref 181, .ref (rAid v1), .int v2, .ref (rAid v3), .ref (rAid v4), .ref (rAid v5)] (rHm f σ) n (QMv f n r) := by
  have h : mX9_cutsLines_l3 rFU v1 v2 v3 v4 v5 (0 : Int32) σ = some r := h
  refine AM.of (by decide +kernel) rfl (Nat.le_of_ble_eq_true rfl) (fun p e s m args below meth c C _ => ?_)
  refine aw_nl [some (.ref 181), some (.ref (rAid v1)), some (.int v2), some (.ref (rAid v3)), some (.ref (rAid v4)), some (.ref (rAid v5)), none, none, none, none, none, none, none] rfl ?_
  refine aw_iconst C 0 dX9_cutsLines_0 ki_0 ?_
  refine aw_istore C dX9_cutsLines_1 (by decide) rfl ?_
  refine aw_nl [some (.ref 181), some (.ref (rAid v1)), some (.int v2), some (.ref (rAid v3)), some (.ref (rAid v4)), some (.ref (rAid v5)), some (.int (0 : Int32)), none, none, none, none, none, none] rfl ?_
  refine aw_fl [some (.ref 181), some (.ref (rAid v1)), some (.int v2), some (.ref (rAid v3)), some (.ref (rAid v4)), some (.ref (rAid v5)), some (.int (0 : Int32)), none, none, none, none, none, none] ⟨rfl, ⟨rfl, ⟨rfl, ⟨rfl, ⟨rfl, ⟨rfl, ⟨rfl, trivial⟩⟩⟩⟩⟩⟩⟩ ?_
  exact rmX9_cutsLines_l3 C rFU v1 v2 v3 v4 v5 (0 : Int32) σ ia1 ia3 ia4 ia5 h
