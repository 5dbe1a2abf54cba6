def mX9_lock0_l141 : Nat → Int32 → Int32 → Int32 → Int32 → RS9 → Option (Int32 × RS9)
  | 0, _, _, _, _, _ => none
  | d + 1, v1, v2, v3, v4, σ => (if v2 ≤ v4 then rCk (rIn (5 : Int32) (rLen 1)) (rCk (rIn (5 : Int32) (rLen 1)) (((mX9_cutsAnew (rSa σ 1 (5 : Int32) ((rGa σ 1 (5 : Int32)) + (1 : Int32)))).bind fun r3 => some ((0 : Int32), r3.2)))) else rCk (rIn (v1 + v4) (rLen 8)) (rCk (rIn ((v3 + (1 : Int32)) + v4) (rLen 1)) (mX9_lock0_l141 d v1 v2 v3 (v4 + (1 : Int32)) (rSa σ 1 ((v3 + (1 : Int32)) + v4) (rGa σ 8 (v1 + v4))))))
set_option maxHeartbeats 1000000 in
theorem rmX9_lock0_l141 {X : GX} {p : Program} {l : Launch} {e : Env} {s : State} {m : MethodId} {args : Array Value} {below : List Frame} {meth : Method} {c : Code} {f : AH} {n : Nat} {r : Int32 × RS9} (C : CC X p l (RM 10 0 0) s m args meth c RX9 cX9_lock0 6 (some .int)) : ∀ (d : Nat) (v1 : Int32) (v2 : Int32) (v3 : Int32) (v4 : Int32) (σ : RS9) (_ : mX9_lock0_l141 d v1 v2 v3 v4 σ = some r), AW X p l e (RM 10 0 0) s m args below meth c 6 (ZM X below args s 0 0 (QMi f n r)) (rHm f σ) n 0 0 141 [some (.ref 181), some (.int v1), some (.int v2), some (.int v3), some (.int v4), none] [] := by
  intro d
  induction d with
  | zero =>
    intro v1 v2 v3 v4 σ h
    exact nomatch (show (none : Option (Int32 × RS9)) = some r from h)
  | succ d ih =>
    intro v1 v2 v3 v4 σ h
    have h : (if v2 ≤ v4 then rCk (rIn (5 : Int32) (rLen 1)) (rCk (rIn (5 : Int32) (rLen 1)) (((mX9_cutsAnew (rSa σ 1 (5 : Int32) ((rGa σ 1 (5 : Int32)) + (1 : Int32)))).bind fun r3 => some ((0 : Int32), r3.2)))) else rCk (rIn (v1 + v4) (rLen 8)) (rCk (rIn ((v3 + (1 : Int32)) + v4) (rLen 1)) (mX9_lock0_l141 d v1 v2 v3 (v4 + (1 : Int32)) (rSa σ 1 ((v3 + (1 : Int32)) + v4) (rGa σ 8 (v1 + v4)))))) = some r := h
    refine aw_iload C dX9_lock0_141 rfl ?_
    refine aw_iload_n C dX9_lock0_143 rfl ?_
    refine aw_icmp_ge C 173 dX9_lock0_144 (by decide) (fun q => ?_) (fun q => ?_)
    · rw [if_pos q] at h
      refine aw_ald_n C dX9_lock0_173 rfl ?_
      refine aw_get C (v := .ref (rAid 1)) gf_X9_7 (hm_M f σ) rfl dX9_lock0_174 ?_
      refine aw_iconst C 5 dX9_lock0_177 ki_5 ?_
      refine aw_dup2 C dX9_lock0_178 rfl rfl ?_
      obtain ⟨hb1, h⟩ := ck_some h
      refine am_iald C (rGa σ 1 (5 : Int32)) rfl (inb_vp hb1) rfl dX9_lock0_179 ?_
      refine aw_iconst C 1 dX9_lock0_180 ki_1 ?_
      refine aw_iadd C dX9_lock0_181 ?_
      obtain ⟨hb2, h⟩ := ck_some h
      refine am_iast C rfl (inb_vp hb2) dX9_lock0_182 ?_
      refine aw_ald_n C dX9_lock0_183 rfl ?_
      obtain ⟨r3, h3, h⟩ := Option.bind_eq_some_iff.mp h
      refine aw_callV C (ci := 9) (b := 181) [] mv_X9_322 rfl rfl (hm_M f (rSa σ 1 (5 : Int32) ((rGa σ 1 (5 : Int32)) + (1 : Int32)))) (rmX9_cutsAnew h3) rfl dX9_lock0_184 (Nat.le_of_ble_eq_true rfl) (Nat.le_of_ble_eq_true rfl) rfl (Nat.le_of_ble_eq_true rfl) (Nat.le_of_ble_eq_true rfl) (Nat.le_of_ble_eq_true rfl) (fun v9 f9 n9 hh => ?_)
      obtain ⟨rfl, rfl, rfl⟩ := hh
      refine aw_iconst C 0 dX9_lock0_187 ki_0 ?_
      cases h
      exact aw_iret C rfl rfl dX9_lock0_188 (Nat.le_refl _) (Nat.le_refl _) ⟨rfl, rfl, rfl⟩
    · rw [if_neg q] at h
      refine aw_ald_n C dX9_lock0_147 rfl ?_
      refine aw_get C (v := .ref (rAid 1)) gf_X9_7 (hm_M f σ) rfl dX9_lock0_148 ?_
      refine aw_iload_n C dX9_lock0_151 rfl ?_
      refine aw_iconst C 1 dX9_lock0_152 ki_1 ?_
      refine aw_iadd C dX9_lock0_153 ?_
      refine aw_iload C dX9_lock0_154 rfl ?_
      refine aw_iadd C dX9_lock0_156 ?_
      refine aw_ald_n C dX9_lock0_157 rfl ?_
      refine aw_get C (v := .ref (rAid 8)) gf_X9_23 (hm_M f σ) rfl dX9_lock0_158 ?_
      refine aw_iload_n C dX9_lock0_161 rfl ?_
      refine aw_iload C dX9_lock0_162 rfl ?_
      refine aw_iadd C dX9_lock0_164 ?_
      obtain ⟨hb4, h⟩ := ck_some h
      refine am_iald C (rGa σ 8 (v1 + v4)) rfl (inb_vp hb4) rfl dX9_lock0_165 ?_
      obtain ⟨hb5, h⟩ := ck_some h
      refine am_iast C rfl (inb_vp hb5) dX9_lock0_166 ?_
      refine aw_iinc C (v4 + (1 : Int32)) dX9_lock0_167 rfl (by rw [ki_1]) (by decide) rfl ?_
      refine aw_nl [some (.ref 181), some (.int v1), some (.int v2), some (.int v3), some (.int (v4 + (1 : Int32))), none] rfl ?_
      refine aw_goto C 141 dX9_lock0_170 (by decide) ?_
      refine aw_fl [some (.ref 181), some (.int v1), some (.int v2), some (.int v3), some (.int (v4 + (1 : Int32))), none] ⟨rfl, ⟨rfl, ⟨rfl, ⟨rfl, ⟨rfl, trivial⟩⟩⟩⟩⟩ ?_
      exact ih v1 v2 v3 (v4 + (1 : Int32)) (rSa σ 1 ((v3 + (1 : Int32)) + v4) (rGa σ 8 (v1 + v4))) h
def mX9_lock0_b104 (rec15 : Int32 → Int32 → Int32 → RS9 → Option (Int32 × RS9)) (v1 : Int32) (v2 : Int32) (v3 : Int32) (v4 : Int32) (σ : RS9) : Option (Int32 × RS9) := (if v4 = (0 : Int32) then rec15 v1 v2 (v3 + (1 : Int32)) σ else some ((7 : Int32), σ))
set_option maxHeartbeats 1000000 in
theorem rmX9_lock0_b104 {X : GX} {p : Program} {l : Launch} {e : Env} {s : State} {m : MethodId} {args : Array Value} {below : List Frame} {meth : Method} {c : Code} {f : AH} {n : Nat} {r : Int32 × RS9} {rec15 : Int32 → Int32 → Int32 → RS9 → Option (Int32 × RS9)} {v1 : Int32} {v2 : Int32} {v3 : Int32} {v4 : Int32} {σ : RS9} (C : CC X p l (RM 10 0 0) s m args meth c RX9 cX9_lock0 6 (some .int)) (Hr15 : ∀ (v1 : Int32) (v2 : Int32) (v3 : Int32) (σ : RS9), rec15 v1 v2 v3 σ = some r → AW X p l e (RM 10 0 0) s m args below meth c 6 (ZM X below args s 0 0 (QMi f n r)) (rHm f σ) n 0 0 15 [some (.ref 181), some (.int v1), some (.int v2), some (.int v3), none, none] []) (h : mX9_lock0_b104 rec15 v1 v2 v3 v4 σ = some r) : AW X p l e (RM 10 0 0) s m args below meth c 6 (ZM X below args s 0 0 (QMi f n r)) (rHm f σ) n 0 0 104 [some (.ref 181), some (.int v1), some (.int v2), some (.int v3), some (.int v4), none] [] := by
  have h : (if v4 = (0 : Int32) then rec15 v1 v2 (v3 + (1 : Int32)) σ else some ((7 : Int32), σ)) = some r := h
  refine aw_iload C dX9_lock0_104 rfl ?_
  refine aw_if_eq C 112 dX9_lock0_106 (by decide) (fun q => ?_) (fun q => ?_)
  · rw [if_pos q] at h
    refine aw_iinc C (v3 + (1 : Int32)) dX9_lock0_112 rfl (by rw [ki_1]) (by decide) rfl ?_
    refine aw_nl [some (.ref 181), some (.int v1), some (.int v2), some (.int (v3 + (1 : Int32))), some (.int v4), none] rfl ?_
    refine aw_goto C 15 dX9_lock0_115 (by decide) ?_
    refine aw_fl [some (.ref 181), some (.int v1), some (.int v2), some (.int (v3 + (1 : Int32))), none, none] ⟨rfl, ⟨rfl, ⟨rfl, ⟨rfl, trivial⟩⟩⟩⟩ ?_
    exact Hr15 v1 v2 (v3 + (1 : Int32)) σ h
  · rw [if_neg q] at h
    refine aw_bipush C 7 dX9_lock0_109 kb_7 ?_
    cases h
    exact aw_iret C rfl rfl dX9_lock0_111 (Nat.le_refl _) (Nat.le_refl _) ⟨rfl, rfl, rfl⟩
def mX9_lock0_b96 (rec15 : Int32 → Int32 → Int32 → RS9 → Option (Int32 × RS9)) (rec51 : Int32 → Int32 → Int32 → Int32 → Int32 → RS9 → Option (Int32 × RS9)) (v1 : Int32) (v2 : Int32) (v3 : Int32) (v5 : Int32) (s0 : Int32) (σ : RS9) : Option (Int32 × RS9) := rec51 v1 v2 v3 s0 (v5 + (1 : Int32)) σ
set_option maxHeartbeats 1000000 in
theorem rmX9_lock0_b96 {X : GX} {p : Program} {l : Launch} {e : Env} {s : State} {m : MethodId} {args : Array Value} {below : List Frame} {meth : Method} {c : Code} {f : AH} {n : Nat} {r : Int32 × RS9} {rec15 : Int32 → Int32 → Int32 → RS9 → Option (Int32 × RS9)} {rec51 : Int32 → Int32 → Int32 → Int32 → Int32 → RS9 → Option (Int32 × RS9)} {v1 : Int32} {v2 : Int32} {v3 : Int32} {v5 : Int32} {s0 : Int32} {σ : RS9} (C : CC X p l (RM 10 0 0) s m args meth c RX9 cX9_lock0 6 (some .int)) (Hr15 : ∀ (v1 : Int32) (v2 : Int32) (v3 : Int32) (σ : RS9), rec15 v1 v2 v3 σ = some r → AW X p l e (RM 10 0 0) s m args below meth c 6 (ZM X below args s 0 0 (QMi f n r)) (rHm f σ) n 0 0 15 [some (.ref 181), some (.int v1), some (.int v2), some (.int v3), none, none] []) (Hr51 : ∀ (v1 : Int32) (v2 : Int32) (v3 : Int32) (v4 : Int32) (v5 : Int32) (σ : RS9), rec51 v1 v2 v3 v4 v5 σ = some r → AW X p l e (RM 10 0 0) s m args below meth c 6 (ZM X below args s 0 0 (QMi f n r)) (rHm f σ) n 0 0 51 [some (.ref 181), some (.int v1), some (.int v2), some (.int v3), some (.int v4), some (.int v5)] []) (h : mX9_lock0_b96 rec15 rec51 v1 v2 v3 v5 s0 σ = some r) : AW X p l e (RM 10 0 0) s m args below meth c 6 (ZM X below args s 0 0 (QMi f n r)) (rHm f σ) n 0 0 96 [some (.ref 181), some (.int v1), some (.int v2), some (.int v3), none, some (.int v5)] [.int s0] := by
  have h : rec51 v1 v2 v3 s0 (v5 + (1 : Int32)) σ = some r := h
  refine aw_istore C dX9_lock0_96 (by decide) rfl ?_
  refine aw_nl [some (.ref 181), some (.int v1), some (.int v2), some (.int v3), some (.int s0), some (.int v5)] rfl ?_
  refine aw_iinc C (v5 + (1 : Int32)) dX9_lock0_98 rfl (by rw [ki_1]) (by decide) rfl ?_
  refine aw_nl [some (.ref 181), some (.int v1), some (.int v2), some (.int v3), some (.int s0), some (.int (v5 + (1 : Int32)))] rfl ?_
  refine aw_goto C 51 dX9_lock0_101 (by decide) ?_
  refine aw_fl [some (.ref 181), some (.int v1), some (.int v2), some (.int v3), some (.int s0), some (.int (v5 + (1 : Int32)))] ⟨rfl, ⟨rfl, ⟨rfl, ⟨rfl, ⟨rfl, ⟨rfl, trivial⟩⟩⟩⟩⟩⟩ ?_
  exact Hr51 v1 v2 v3 s0 (v5 + (1 : Int32)) σ h
def mX9_lock0_l51 (rec15 : Int32 → Int32 → Int32 → RS9 → Option (Int32 × RS9)) : Nat → Int32 → Int32 → Int32 → Int32 → Int32 → RS9 → Option (Int32 × RS9)
  | 0, _, _, _, _, _, _ => none
  | d + 1, v1, v2, v3, v4, v5, σ => (if v2 ≤ v5 then mX9_lock0_b104 rec15 v1 v2 v3 v4 σ else (if v4 = (0 : Int32) then mX9_lock0_b104 rec15 v1 v2 v3 v4 σ else rCk (rIn ((((6 : Int32) + ((9 : Int32) * v3)) + (1 : Int32)) + v5) (rLen 1)) (rCk (rIn (v1 + v5) (rLen 8)) ((if (rGa σ 1 ((((6 : Int32) + ((9 : Int32) * v3)) + (1 : Int32)) + v5)) = (rGa σ 8 (v1 + v5)) then mX9_lock0_b96 rec15 (fun v1 v2 v3 v4 v5 σ => mX9_lock0_l51 rec15 d v1 v2 v3 v4 v5 σ) v1 v2 v3 v5 (1 : Int32) σ else mX9_lock0_b96 rec15 (fun v1 v2 v3 v4 v5 σ => mX9_lock0_l51 rec15 d v1 v2 v3 v4 v5 σ) v1 v2 v3 v5 (0 : Int32) σ)))))
set_option maxHeartbeats 1000000 in
theorem rmX9_lock0_l51 {X : GX} {p : Program} {l : Launch} {e : Env} {s : State} {m : MethodId} {args : Array Value} {below : List Frame} {meth : Method} {c : Code} {f : AH} {n : Nat} {r : Int32 × RS9} {rec15 : Int32 → Int32 → Int32 → RS9 → Option (Int32 × RS9)} (C : CC X p l (RM 10 0 0) s m args meth c RX9 cX9_lock0 6 (some .int)) (Hr15 : ∀ (v1 : Int32) (v2 : Int32) (v3 : Int32) (σ : RS9), rec15 v1 v2 v3 σ = some r → AW X p l e (RM 10 0 0) s m args below meth c 6 (ZM X below args s 0 0 (QMi f n r)) (rHm f σ) n 0 0 15 [some (.ref 181), some (.int v1), some (.int v2), some (.int v3), none, none] []) : ∀ (d : Nat) (v1 : Int32) (v2 : Int32) (v3 : Int32) (v4 : Int32) (v5 : Int32) (σ : RS9) (_ : mX9_lock0_l51 rec15 d v1 v2 v3 v4 v5 σ = some r), AW X p l e (RM 10 0 0) s m args below meth c 6 (ZM X below args s 0 0 (QMi f n r)) (rHm f σ) n 0 0 51 [some (.ref 181), some (.int v1), some (.int v2), some (.int v3), some (.int v4), some (.int v5)] [] := by
  intro d
  induction d with
  | zero =>
    intro v1 v2 v3 v4 v5 σ h
    exact nomatch (show (none : Option (Int32 × RS9)) = some r from h)
  | succ d ih =>
    intro v1 v2 v3 v4 v5 σ h
    have h : (if v2 ≤ v5 then mX9_lock0_b104 rec15 v1 v2 v3 v4 σ else (if v4 = (0 : Int32) then mX9_lock0_b104 rec15 v1 v2 v3 v4 σ else rCk (rIn ((((6 : Int32) + ((9 : Int32) * v3)) + (1 : Int32)) + v5) (rLen 1)) (rCk (rIn (v1 + v5) (rLen 8)) ((if (rGa σ 1 ((((6 : Int32) + ((9 : Int32) * v3)) + (1 : Int32)) + v5)) = (rGa σ 8 (v1 + v5)) then mX9_lock0_b96 rec15 (fun v1 v2 v3 v4 v5 σ => mX9_lock0_l51 rec15 d v1 v2 v3 v4 v5 σ) v1 v2 v3 v5 (1 : Int32) σ else mX9_lock0_b96 rec15 (fun v1 v2 v3 v4 v5 σ => mX9_lock0_l51 rec15 d v1 v2 v3 v4 v5 σ) v1 v2 v3 v5 (0 : Int32) σ))))) = some r := h
    refine aw_iload C dX9_lock0_51 rfl ?_
    refine aw_iload_n C dX9_lock0_53 rfl ?_
    refine aw_icmp_ge C 104 dX9_lock0_54 (by decide) (fun q => ?_) (fun q => ?_)
    · rw [if_pos q] at h
      refine aw_fl [some (.ref 181), some (.int v1), some (.int v2), some (.int v3), some (.int v4), none] ⟨rfl, ⟨rfl, ⟨rfl, ⟨rfl, ⟨rfl, trivial⟩⟩⟩⟩⟩ ?_
      exact rmX9_lock0_b104 C Hr15 h
    · rw [if_neg q] at h
      refine aw_iload C dX9_lock0_57 rfl ?_
      refine aw_if_eq C 104 dX9_lock0_59 (by decide) (fun q => ?_) (fun q => ?_)
      · rw [if_pos q] at h
        refine aw_fl [some (.ref 181), some (.int v1), some (.int v2), some (.int v3), some (.int v4), none] ⟨rfl, ⟨rfl, ⟨rfl, ⟨rfl, ⟨rfl, trivial⟩⟩⟩⟩⟩ ?_
        exact rmX9_lock0_b104 C Hr15 h
      · rw [if_neg q] at h
        refine aw_ald_n C dX9_lock0_62 rfl ?_
        refine aw_get C (v := .ref (rAid 1)) gf_X9_7 (hm_M f σ) rfl dX9_lock0_63 ?_
        refine aw_bipush C 6 dX9_lock0_66 kb_6 ?_
        refine aw_bipush C 9 dX9_lock0_68 kb_9 ?_
        refine aw_iload_n C dX9_lock0_70 rfl ?_
        refine aw_imul C dX9_lock0_71 ?_
        refine aw_iadd C dX9_lock0_72 ?_
        refine aw_iconst C 1 dX9_lock0_73 ki_1 ?_
        refine aw_iadd C dX9_lock0_74 ?_
        refine aw_iload C dX9_lock0_75 rfl ?_
        refine aw_iadd C dX9_lock0_77 ?_
        obtain ⟨hb1, h⟩ := ck_some h
        refine am_iald C (rGa σ 1 ((((6 : Int32) + ((9 : Int32) * v3)) + (1 : Int32)) + v5)) rfl (inb_vp hb1) rfl dX9_lock0_78 ?_
        refine aw_ald_n C dX9_lock0_79 rfl ?_
        refine aw_get C (v := .ref (rAid 8)) gf_X9_23 (hm_M f σ) rfl dX9_lock0_80 ?_
        refine aw_iload_n C dX9_lock0_83 rfl ?_
        refine aw_iload C dX9_lock0_84 rfl ?_
        refine aw_iadd C dX9_lock0_86 ?_
        obtain ⟨hb2, h⟩ := ck_some h
        refine am_iald C (rGa σ 8 (v1 + v5)) rfl (inb_vp hb2) rfl dX9_lock0_87 ?_
        refine aw_icmp_ne C 95 dX9_lock0_88 (by decide) (fun q => ?_) (fun q => ?_)
        · rw [if_neg q] at h
          refine aw_iconst C 0 dX9_lock0_95 ki_0 ?_
          refine aw_fl [some (.ref 181), some (.int v1), some (.int v2), some (.int v3), none, some (.int v5)] ⟨rfl, ⟨rfl, ⟨rfl, ⟨rfl, ⟨rfl, trivial⟩⟩⟩⟩⟩ ?_
          exact rmX9_lock0_b96 C Hr15 (fun v1 v2 v3 v4 v5 σ h => ih v1 v2 v3 v4 v5 σ h) h
        · rw [if_pos q] at h
          refine aw_iconst C 1 dX9_lock0_91 ki_1 ?_
          refine aw_goto C 96 dX9_lock0_92 (by decide) ?_
          refine aw_fl [some (.ref 181), some (.int v1), some (.int v2), some (.int v3), none, some (.int v5)] ⟨rfl, ⟨rfl, ⟨rfl, ⟨rfl, ⟨rfl, trivial⟩⟩⟩⟩⟩ ?_
          exact rmX9_lock0_b96 C Hr15 (fun v1 v2 v3 v4 v5 σ h => ih v1 v2 v3 v4 v5 σ h) h
def mX9_lock0_b46 (rec15 : Int32 → Int32 → Int32 → RS9 → Option (Int32 × RS9)) (v1 : Int32) (v2 : Int32) (v3 : Int32) (s0 : Int32) (σ : RS9) : Option (Int32 × RS9) := mX9_lock0_l51 rec15 rFU v1 v2 v3 s0 (0 : Int32) σ
set_option maxHeartbeats 1000000 in
theorem rmX9_lock0_b46 {X : GX} {p : Program} {l : Launch} {e : Env} {s : State} {m : MethodId} {args : Array Value} {below : List Frame} {meth : Method} {c : Code} {f : AH} {n : Nat} {r : Int32 × RS9} {rec15 : Int32 → Int32 → Int32 → RS9 → Option (Int32 × RS9)} {v1 : Int32} {v2 : Int32} {v3 : Int32} {s0 : Int32} {σ : RS9} (C : CC X p l (RM 10 0 0) s m args meth c RX9 cX9_lock0 6 (some .int)) (Hr15 : ∀ (v1 : Int32) (v2 : Int32) (v3 : Int32) (σ : RS9), rec15 v1 v2 v3 σ = some r → AW X p l e (RM 10 0 0) s m args below meth c 6 (ZM X below args s 0 0 (QMi f n r)) (rHm f σ) n 0 0 15 [some (.ref 181), some (.int v1), some (.int v2), some (.int v3), none, none] []) (h : mX9_lock0_b46 rec15 v1 v2 v3 s0 σ = some r) : AW X p l e (RM 10 0 0) s m args below meth c 6 (ZM X below args s 0 0 (QMi f n r)) (rHm f σ) n 0 0 46 [some (.ref 181), some (.int v1), some (.int v2), some (.int v3), none, none] [.int s0] := by
  have h : mX9_lock0_l51 rec15 rFU v1 v2 v3 s0 (0 : Int32) σ = some r := h
  refine aw_istore C dX9_lock0_46 (by decide) rfl ?_
  refine aw_nl [some (.ref 181), some (.int v1), some (.int v2), some (.int v3), some (.int s0), none] rfl ?_
  refine aw_iconst C 0 dX9_lock0_48 ki_0 ?_
  refine aw_istore C dX9_lock0_49 (by decide) rfl ?_
  refine aw_nl [some (.ref 181), some (.int v1), some (.int v2), some (.int v3), some (.int s0), some (.int (0 : Int32))] rfl ?_
  refine aw_fl [some (.ref 181), some (.int v1), some (.int v2), some (.int v3), some (.int s0), some (.int (0 : Int32))] ⟨rfl, ⟨rfl, ⟨rfl, ⟨rfl, ⟨rfl, ⟨rfl, trivial⟩⟩⟩⟩⟩⟩ ?_
  exact rmX9_lock0_l51 C Hr15 rFU v1 v2 v3 s0 (0 : Int32) σ h
def mX9_lock0_l15 : Nat → Int32 → Int32 → Int32 → RS9 → Option (Int32 × RS9)
  | 0, _, _, _, _ => none
  | d + 1, v1, v2, v3, σ => rCk (rIn (5 : Int32) (rLen 1)) ((if (rGa σ 1 (5 : Int32)) ≤ v3 then rCk (rIn (5 : Int32) (rLen 1)) (rCk (rIn ((6 : Int32) + ((9 : Int32) * (rGa σ 1 (5 : Int32)))) (rLen 1)) (mX9_lock0_l141 rFU v1 v2 ((6 : Int32) + ((9 : Int32) * (rGa σ 1 (5 : Int32)))) (0 : Int32) (rSa σ 1 ((6 : Int32) + ((9 : Int32) * (rGa σ 1 (5 : Int32)))) v2))) else rCk (rIn ((6 : Int32) + ((9 : Int32) * v3)) (rLen 1)) ((if (rGa σ 1 ((6 : Int32) + ((9 : Int32) * v3))) = v2 then mX9_lock0_b46 (fun v1 v2 v3 σ => mX9_lock0_l15 d v1 v2 v3 σ) v1 v2 v3 (1 : Int32) σ else mX9_lock0_b46 (fun v1 v2 v3 σ => mX9_lock0_l15 d v1 v2 v3 σ) v1 v2 v3 (0 : Int32) σ))))
set_option maxHeartbeats 1000000 in
theorem rmX9_lock0_l15 {X : GX} {p : Program} {l : Launch} {e : Env} {s : State} {m : MethodId} {args : Array Value} {below : List Frame} {meth : Method} {c : Code} {f : AH} {n : Nat} {r : Int32 × RS9} (C : CC X p l (RM 10 0 0) s m args meth c RX9 cX9_lock0 6 (some .int)) : ∀ (d : Nat) (v1 : Int32) (v2 : Int32) (v3 : Int32) (σ : RS9) (_ : mX9_lock0_l15 d v1 v2 v3 σ = some r), AW X p l e (RM 10 0 0) s m args below meth c 6 (ZM X below args s 0 0 (QMi f n r)) (rHm f σ) n 0 0 15 [some (.ref 181), some (.int v1), some (.int v2), some (.int v3), none, none] [] := by
  intro d
  induction d with
  | zero =>
    intro v1 v2 v3 σ h
    exact nomatch (show (none : Option (Int32 × RS9)) = some r from h)
  | succ d ih =>
    intro v1 v2 v3 σ h
    have h : rCk (rIn (5 : Int32) (rLen 1)) ((if (rGa σ 1 (5 : Int32)) ≤ v3 then rCk (rIn (5 : Int32) (rLen 1)) (rCk (rIn ((6 : Int32) + ((9 : Int32) * (rGa σ 1 (5 : Int32)))) (rLen 1)) (mX9_lock0_l141 rFU v1 v2 ((6 : Int32) + ((9 : Int32) * (rGa σ 1 (5 : Int32)))) (0 : Int32) (rSa σ 1 ((6 : Int32) + ((9 : Int32) * (rGa σ 1 (5 : Int32)))) v2))) else rCk (rIn ((6 : Int32) + ((9 : Int32) * v3)) (rLen 1)) ((if (rGa σ 1 ((6 : Int32) + ((9 : Int32) * v3))) = v2 then mX9_lock0_b46 (fun v1 v2 v3 σ => mX9_lock0_l15 d v1 v2 v3 σ) v1 v2 v3 (1 : Int32) σ else mX9_lock0_b46 (fun v1 v2 v3 σ => mX9_lock0_l15 d v1 v2 v3 σ) v1 v2 v3 (0 : Int32) σ)))) = some r := h
    refine aw_iload_n C dX9_lock0_15 rfl ?_
    refine aw_ald_n C dX9_lock0_16 rfl ?_
    refine aw_get C (v := .ref (rAid 1)) gf_X9_7 (hm_M f σ) rfl dX9_lock0_17 ?_
    refine aw_iconst C 5 dX9_lock0_20 ki_5 ?_
    obtain ⟨hb1, h⟩ := ck_some h
    refine am_iald C (rGa σ 1 (5 : Int32)) rfl (inb_vp hb1) rfl dX9_lock0_21 ?_
    refine aw_icmp_ge C 118 dX9_lock0_22 (by decide) (fun q => ?_) (fun q => ?_)
    · rw [if_pos q] at h
      refine aw_bipush C 6 dX9_lock0_118 kb_6 ?_
      refine aw_bipush C 9 dX9_lock0_120 kb_9 ?_
      refine aw_ald_n C dX9_lock0_122 rfl ?_
      refine aw_get C (v := .ref (rAid 1)) gf_X9_7 (hm_M f σ) rfl dX9_lock0_123 ?_
      refine aw_iconst C 5 dX9_lock0_126 ki_5 ?_
      obtain ⟨hb2, h⟩ := ck_some h
      refine am_iald C (rGa σ 1 (5 : Int32)) rfl (inb_vp hb2) rfl dX9_lock0_127 ?_
      refine aw_imul C dX9_lock0_128 ?_
      refine aw_iadd C dX9_lock0_129 ?_
      refine aw_istore_n C dX9_lock0_130 (by decide) rfl ?_
      refine aw_nl [some (.ref 181), some (.int v1), some (.int v2), some (.int ((6 : Int32) + ((9 : Int32) * (rGa σ 1 (5 : Int32))))), none, none] rfl ?_
      refine aw_ald_n C dX9_lock0_131 rfl ?_
      refine aw_get C (v := .ref (rAid 1)) gf_X9_7 (hm_M f σ) rfl dX9_lock0_132 ?_
      refine aw_iload_n C dX9_lock0_135 rfl ?_
      refine aw_iload_n C dX9_lock0_136 rfl ?_
      obtain ⟨hb3, h⟩ := ck_some h
      refine am_iast C rfl (inb_vp hb3) dX9_lock0_137 ?_
      refine aw_iconst C 0 dX9_lock0_138 ki_0 ?_
      refine aw_istore C dX9_lock0_139 (by decide) rfl ?_
      refine aw_nl [some (.ref 181), some (.int v1), some (.int v2), some (.int ((6 : Int32) + ((9 : Int32) * (rGa σ 1 (5 : Int32))))), some (.int (0 : Int32)), none] rfl ?_
      refine aw_fl [some (.ref 181), some (.int v1), some (.int v2), some (.int ((6 : Int32) + ((9 : Int32) * (rGa σ 1 (5 : Int32))))), some (.int (0 : Int32)), none] ⟨rfl, ⟨rfl, ⟨rfl, ⟨rfl, ⟨rfl, trivial⟩⟩⟩⟩⟩ ?_
      exact rmX9_lock0_l141 C rFU v1 v2 ((6 : Int32) + ((9 : Int32) * (rGa σ 1 (5 : Int32)))) (0 : Int32) (rSa σ 1 ((6 : Int32) + ((9 : Int32) * (rGa σ 1 (5 : Int32)))) v2) h
    · rw [if_neg q] at h
      refine aw_ald_n C dX9_lock0_25 rfl ?_
      refine aw_get C (v := .ref (rAid 1)) gf_X9_7 (hm_M f σ) rfl dX9_lock0_26 ?_
      refine aw_bipush C 6 dX9_lock0_29 kb_6 ?_
      refine aw_bipush C 9 dX9_lock0_31 kb_9 ?_
      refine aw_iload_n C dX9_lock0_33 rfl ?_
      refine aw_imul C dX9_lock0_34 ?_
      refine aw_iadd C dX9_lock0_35 ?_
      obtain ⟨hb4, h⟩ := ck_some h
      refine am_iald C (rGa σ 1 ((6 : Int32) + ((9 : Int32) * v3))) rfl (inb_vp hb4) rfl dX9_lock0_36 ?_
      refine aw_iload_n C dX9_lock0_37 rfl ?_
      refine aw_icmp_ne C 45 dX9_lock0_38 (by decide) (fun q => ?_) (fun q => ?_)
      · rw [if_neg q] at h
        refine aw_iconst C 0 dX9_lock0_45 ki_0 ?_
        refine aw_fl [some (.ref 181), some (.int v1), some (.int v2), some (.int v3), none, none] ⟨rfl, ⟨rfl, ⟨rfl, ⟨rfl, trivial⟩⟩⟩⟩ ?_
        exact rmX9_lock0_b46 C (fun v1 v2 v3 σ h => ih v1 v2 v3 σ h) h
      · rw [if_pos q] at h
        refine aw_iconst C 1 dX9_lock0_41 ki_1 ?_
        refine aw_goto C 46 dX9_lock0_42 (by decide) ?_
        refine aw_fl [some (.ref 181), some (.int v1), some (.int v2), some (.int v3), none, none] ⟨rfl, ⟨rfl, ⟨rfl, ⟨rfl, trivial⟩⟩⟩⟩ ?_
        exact rmX9_lock0_b46 C (fun v1 v2 v3 σ h => ih v1 v2 v3 σ h) h
def mX9_lock0 (v1 : Int32) (v2 : Int32) (σ : RS9) : Option (Int32 × RS9) := rCk (rIn (5 : Int32) (rLen 1)) ((if (rGa σ 1 (5 : Int32)) = (4 : Int32) then some ((6 : Int32), σ) else mX9_lock0_l15 rFU v1 v2 (0 : Int32) σ))
set_option maxHeartbeats 1000000 in
theorem rmX9_lock0 {X : GX} {l : Launch} {f : AH} {n : Nat} {r : Int32 × RS9} {v1 : Int32} {v2 : Int32} {σ : RS9} (h : mX9_lock0 v1 v2 σ = some r) : AM X l yX9_lock0 cX9_lock0 6 (some .int) 10 0 0 [.ref 181, .int v1, .int v2] (rHm f σ) n (QMi f n r) := by
  have h : rCk (rIn (5 : Int32) (rLen 1)) ((if (rGa σ 1 (5 : Int32)) = (4 : Int32) then some ((6 : Int32), σ) else mX9_lock0_l15 rFU v1 v2 (0 : Int32) σ)) = some r := h
  refine AM.of (by decide +kernel) rfl (Nat.le_of_ble_eq_true rfl) (fun p e s m args below meth c C _ => ?_)
  refine aw_nl [some (.ref 181), some (.int v1), some (.int v2), none, none, none] rfl ?_
  refine aw_ald_n C dX9_lock0_0 rfl ?_
  refine aw_get C (v := .ref (rAid 1)) gf_X9_7 (hm_M f σ) rfl dX9_lock0_1 ?_
  refine aw_iconst C 5 dX9_lock0_4 ki_5 ?_
  obtain ⟨hb1, h⟩ := ck_some h
  refine am_iald C (rGa σ 1 (5 : Int32)) rfl (inb_vp hb1) rfl dX9_lock0_5 ?_
  refine aw_iconst C 4 dX9_lock0_6 ki_4 ?_
  refine aw_icmp_ne C 13 dX9_lock0_7 (by decide) (fun q => ?_) (fun q => ?_)
  · rw [if_neg q] at h
    refine aw_iconst C 0 dX9_lock0_13 ki_0 ?_
    refine aw_istore_n C dX9_lock0_14 (by decide) rfl ?_
    refine aw_nl [some (.ref 181), some (.int v1), some (.int v2), some (.int (0 : Int32)), none, none] rfl ?_
    refine aw_fl [some (.ref 181), some (.int v1), some (.int v2), some (.int (0 : Int32)), none, none] ⟨rfl, ⟨rfl, ⟨rfl, ⟨rfl, trivial⟩⟩⟩⟩ ?_
    exact rmX9_lock0_l15 C rFU v1 v2 (0 : Int32) σ h
  · rw [if_pos q] at h
    refine aw_bipush C 6 dX9_lock0_10 kb_6 ?_
    cases h
    exact aw_iret C rfl rfl dX9_lock0_12 (Nat.le_refl _) (Nat.le_refl _) ⟨rfl, rfl, rfl⟩
def mX9_lockText_b30 (v1 : Int32) (v2 : Int32) (σ : RS9) : Option (Int32 × RS9) := (if (σ.1 12) = (-1 : Int32) then ((mX9_lock0 (σ.1 11) v2 (rSf σ 11 v1)).bind fun r1 => some (r1.1, r1.2)) else some ((0 : Int32), σ))
set_option maxHeartbeats 1000000 in
theorem rmX9_lockText_b30 {X : GX} {p : Program} {l : Launch} {e : Env} {s : State} {m : MethodId} {args : Array Value} {below : List Frame} {meth : Method} {c : Code} {f : AH} {n : Nat} {r : Int32 × RS9} {v1 : Int32} {v2 : Int32} {σ : RS9} (C : CC X p l (RM 11 0 0) s m args meth c RX9 cX9_lockText 4 (some .int)) (h : mX9_lockText_b30 v1 v2 σ = some r) : AW X p l e (RM 11 0 0) s m args below meth c 4 (ZM X below args s 0 0 (QMi f n r)) (rHm f σ) n 0 0 30 [some (.ref 181), some (.int v1), some (.int v2), none] [] := by
  have h : (if (σ.1 12) = (-1 : Int32) then ((mX9_lock0 (σ.1 11) v2 (rSf σ 11 v1)).bind fun r1 => some (r1.1, r1.2)) else some ((0 : Int32), σ)) = some r := h
  refine aw_ald_n C dX9_lockText_30 rfl ?_
  refine aw_get C (v := .int (σ.1 12)) gf_X9_26 (hm_M f σ) rfl dX9_lockText_31 ?_
  refine aw_iconst C (-1) dX9_lockText_34 ki_m1 ?_
  refine aw_icmp_eq C 40 dX9_lockText_35 (by decide) (fun q => ?_) (fun q => ?_)
  · rw [if_pos q] at h
    refine aw_ald_n C dX9_lockText_40 rfl ?_
    refine aw_get C (v := .int (σ.1 11)) gf_X9_340 (hm_M f σ) rfl dX9_lockText_41 ?_
    refine aw_istore_n C dX9_lockText_44 (by decide) rfl ?_
    refine aw_nl [some (.ref 181), some (.int v1), some (.int v2), some (.int (σ.1 11))] rfl ?_
    refine aw_ald_n C dX9_lockText_45 rfl ?_
    refine aw_iload_n C dX9_lockText_46 rfl ?_
    refine am_put C gf_X9_340 nf9_11 rfl rfl dX9_lockText_47 ?_
    refine aw_ald_n C dX9_lockText_50 rfl ?_
    refine aw_iload_n C dX9_lockText_51 rfl ?_
    refine aw_iload_n C dX9_lockText_52 rfl ?_
    obtain ⟨r1, h1, h⟩ := Option.bind_eq_some_iff.mp h
    refine aw_callV C (ci := 9) (b := 181) [.int (σ.1 11), .int v2] mv_X9_355 rfl rfl (hm_M f (rSf σ 11 v1)) (rmX9_lock0 h1) rfl dX9_lockText_53 (Nat.le_of_ble_eq_true rfl) (Nat.le_of_ble_eq_true rfl) rfl (Nat.le_of_ble_eq_true rfl) (Nat.le_of_ble_eq_true rfl) (Nat.le_of_ble_eq_true rfl) (fun v9 f9 n9 hh => ?_)
    obtain ⟨rfl, rfl, rfl⟩ := hh
    cases h
    exact aw_iret C rfl rfl dX9_lockText_56 (Nat.le_refl _) (Nat.le_refl _) ⟨rfl, rfl, rfl⟩
  · rw [if_neg q] at h
    refine aw_iconst C 0 dX9_lockText_38 ki_0 ?_
    cases h
    exact aw_iret C rfl rfl dX9_lockText_39 (Nat.le_refl _) (Nat.le_refl _) ⟨rfl, rfl, rfl⟩
def mX9_lockText (σ : RS9) : Option (Int32 × RS9) := ((mX9_wordEnd σ).bind fun r1 => ((mX9_isIn (r1.1 - (r1.2.1 11)) (1 : Int32) (8 : Int32) r1.2).bind fun r2 => (if r2.1 = (0 : Int32) then ((mX9_wrong (r2.2.1 11) r2.2).bind fun r3 => mX9_lockText_b30 r1.1 (r1.1 - (r1.2.1 11)) r3.2) else mX9_lockText_b30 r1.1 (r1.1 - (r1.2.1 11)) r2.2)))
set_option maxHeartbeats 1000000 in
theorem rmX9_lockText {X : GX} {l : Launch} {f : AH} {n : Nat} {r : Int32 × RS9} {σ : RS9} (h : mX9_lockText σ = some r) : AM X l yX9_lockText cX9_lockText 4 (some .int) 11 0 0 [.ref 181] (rHm f σ) n (QMi f n r) := by
  have h : ((mX9_wordEnd σ).bind fun r1 => ((mX9_isIn (r1.1 - (r1.2.1 11)) (1 : Int32) (8 : Int32) r1.2).bind fun r2 => (if r2.1 = (0 : Int32) then ((mX9_wrong (r2.2.1 11) r2.2).bind fun r3 => mX9_lockText_b30 r1.1 (r1.1 - (r1.2.1 11)) r3.2) else mX9_lockText_b30 r1.1 (r1.1 - (r1.2.1 11)) r2.2))) = some r := h
  refine AM.of (by decide +kernel) rfl (Nat.le_of_ble_eq_true rfl) (fun p e s m args below meth c C _ => ?_)
  refine aw_nl [some (.ref 181), none, none, none] rfl ?_
  refine aw_ald_n C dX9_lockText_0 rfl ?_
  obtain ⟨r1, h1, h⟩ := Option.bind_eq_some_iff.mp h
  refine aw_callV C (ci := 9) (b := 181) [] mv_X9_349 rfl rfl (hm_M f σ) (rmX9_wordEnd h1) rfl dX9_lockText_1 (Nat.le_of_ble_eq_true rfl) (Nat.le_of_ble_eq_true rfl) rfl (Nat.le_of_ble_eq_true rfl) (Nat.le_of_ble_eq_true rfl) (Nat.le_of_ble_eq_true rfl) (fun v9 f9 n9 hh => ?_)
  obtain ⟨rfl, rfl, rfl⟩ := hh
  refine aw_istore_n C dX9_lockText_4 (by decide) rfl ?_
  refine aw_nl [some (.ref 181), some (.int r1.1), none, none] rfl ?_
  refine aw_iload_n C dX9_lockText_5 rfl ?_
  refine aw_ald_n C dX9_lockText_6 rfl ?_
  refine aw_get C (v := .int (r1.2.1 11)) gf_X9_340 (hm_M f r1.2) rfl dX9_lockText_7 ?_
  refine aw_isub C dX9_lockText_10 ?_
  refine aw_istore_n C dX9_lockText_11 (by decide) rfl ?_
  refine aw_nl [some (.ref 181), some (.int r1.1), some (.int (r1.1 - (r1.2.1 11))), none] rfl ?_
  refine aw_iload_n C dX9_lockText_12 rfl ?_
  refine aw_iconst C 1 dX9_lockText_13 ki_1 ?_
  refine aw_bipush C 8 dX9_lockText_14 kb_8 ?_
  obtain ⟨r2, h2, h⟩ := Option.bind_eq_some_iff.mp h
  refine aw_callS C [.int (r1.1 - (r1.2.1 11)), .int (1 : Int32), .int (8 : Int32)] ms_X9_141 (rmX9_isIn h2) rfl dX9_lockText_16 (Nat.le_of_ble_eq_true rfl) (Nat.le_of_ble_eq_true rfl) rfl (Nat.le_of_ble_eq_true rfl) (Nat.le_of_ble_eq_true rfl) (Nat.le_of_ble_eq_true rfl) (fun v9 f9 n9 hh => ?_)
  obtain ⟨rfl, rfl, rfl⟩ := hh
  refine aw_if_ne C 30 dX9_lockText_19 (by decide) (fun q => ?_) (fun q => ?_)
  · rw [if_neg q] at h
    refine aw_fl [some (.ref 181), some (.int r1.1), some (.int (r1.1 - (r1.2.1 11))), none] ⟨rfl, ⟨rfl, ⟨rfl, trivial⟩⟩⟩ ?_
    exact rmX9_lockText_b30 C h
  · rw [if_pos q] at h
    refine aw_ald_n C dX9_lockText_22 rfl ?_
    refine aw_ald_n C dX9_lockText_23 rfl ?_
    refine aw_get C (v := .int (r2.2.1 11)) gf_X9_340 (hm_M f r2.2) rfl dX9_lockText_24 ?_
    obtain ⟨r3, h3, h⟩ := Option.bind_eq_some_iff.mp h
    refine aw_callV C (ci := 9) (b := 181) [.int (r2.2.1 11)] mv_X9_352 rfl rfl (hm_M f r2.2) (rmX9_wrong h3) rfl dX9_lockText_27 (Nat.le_of_ble_eq_true rfl) (Nat.le_of_ble_eq_true rfl) rfl (Nat.le_of_ble_eq_true rfl) (Nat.le_of_ble_eq_true rfl) (Nat.le_of_ble_eq_true rfl) (fun v9 f9 n9 hh => ?_)
    obtain ⟨rfl, rfl, rfl⟩ := hh
    refine aw_fl [some (.ref 181), some (.int r1.1), some (.int (r1.1 - (r1.2.1 11))), none] ⟨rfl, ⟨rfl, ⟨rfl, trivial⟩⟩⟩ ?_
    exact rmX9_lockText_b30 C h
def mX9_unlocks (σ : RS9) : Option (Int32 × RS9) := rCk (rIn (5 : Int32) (rLen 1)) (((mX9_cutsAnew (rSa σ 1 (5 : Int32) (0 : Int32))).bind fun r2 => some ((0 : Int32), r2.2)))
set_option maxHeartbeats 1000000 in
theorem rmX9_unlocks {X : GX} {l : Launch} {f : AH} {n : Nat} {r : Int32 × RS9} {σ : RS9} (h : mX9_unlocks σ = some r) : AM X l yX9_unlocks cX9_unlocks 1 (some .int) 10 0 0 [.ref 181] (rHm f σ) n (QMi f n r) := by
  have h : rCk (rIn (5 : Int32) (rLen 1)) (((mX9_cutsAnew (rSa σ 1 (5 : Int32) (0 : Int32))).bind fun r2 => some ((0 : Int32), r2.2))) = some r := h
  refine AM.of (by decide +kernel) rfl (Nat.le_of_ble_eq_true rfl) (fun p e s m args below meth c C _ => ?_)
  refine aw_nl [some (.ref 181)] rfl ?_
  refine aw_ald_n C dX9_unlocks_0 rfl ?_
  refine aw_get C (v := .ref (rAid 1)) gf_X9_7 (hm_M f σ) rfl dX9_unlocks_1 ?_
  refine aw_iconst C 5 dX9_unlocks_4 ki_5 ?_
  refine aw_iconst C 0 dX9_unlocks_5 ki_0 ?_
  obtain ⟨hb1, h⟩ := ck_some h
  refine am_iast C rfl (inb_vp hb1) dX9_unlocks_6 ?_
  refine aw_ald_n C dX9_unlocks_7 rfl ?_
  obtain ⟨r2, h2, h⟩ := Option.bind_eq_some_iff.mp h
  refine aw_callV C (ci := 9) (b := 181) [] mv_X9_322 rfl rfl (hm_M f (rSa σ 1 (5 : Int32) (0 : Int32))) (rmX9_cutsAnew h2) rfl dX9_unlocks_8 (Nat.le_of_ble_eq_true rfl) (Nat.le_of_ble_eq_true rfl) rfl (Nat.le_of_ble_eq_true rfl) (Nat.le_of_ble_eq_true rfl) (Nat.le_of_ble_eq_true rfl) (fun v9 f9 n9 hh => ?_)
  obtain ⟨rfl, rfl, rfl⟩ := hh
  refine aw_iconst C 0 dX9_unlocks_11 ki_0 ?_
  cases h
  exact aw_iret C rfl rfl dX9_unlocks_12 (Nat.le_refl _) (Nat.le_refl _) ⟨rfl, rfl, rfl⟩
def mX9_word_l2 : Nat → Nat → Nat → Int32 → RS9 → Option (Int32 × RS9)
  | 0, _, _, _, _ => none
  | d + 1, v1, v2, v3, σ => (if (strL v2) ≤ v3 then some ((0 : Int32), (rSf σ 56 ((σ.1 56) + (strL v2)))) else rCk (rIn v3 (sL9.getD v2 0)) (rCk (rIn ((σ.1 56) + v3) (rLen v1)) (mX9_word_l2 d v1 v2 (v3 + (1 : Int32)) (rSa σ v1 ((σ.1 56) + v3) (strC v2 v3)))))
set_option maxHeartbeats 1000000 in
theorem rmX9_word_l2 {X : GX} {p : Program} {l : Launch} {e : Env} {s : State} {m : MethodId} {args : Array Value} {below : List Frame} {meth : Method} {c : Code} {f : AH} {n : Nat} {r : Int32 × RS9} (C : CC X p l (RM 4 0 0) s m args meth c RX9 cX9_word 4 none) : ∀ (d : Nat) (v1 : Nat) (v2 : Nat) (v3 : Int32) (σ : RS9) (_ : rIsA v1 = true) (_ : v2 < 15) (_ : mX9_word_l2 d v1 v2 v3 σ = some r), AW X p l e (RM 4 0 0) s m args below meth c 4 (ZM X below args s 0 0 (QMv f n r)) (rHm f σ) n 0 0 2 [some (.ref 181), some (.ref (rAid v1)), some (.retAddr (X.2.2 (1000 + v2))), some (.int v3)] [] := by
  intro d
  induction d with
  | zero =>
    intro v1 v2 v3 σ ia1 is2 h
    exact nomatch (show (none : Option (Int32 × RS9)) = some r from h)
  | succ d ih =>
    intro v1 v2 v3 σ ia1 is2 h
    have h : (if (strL v2) ≤ v3 then some ((0 : Int32), (rSf σ 56 ((σ.1 56) + (strL v2)))) else rCk (rIn v3 (sL9.getD v2 0)) (rCk (rIn ((σ.1 56) + v3) (rLen v1)) (mX9_word_l2 d v1 v2 (v3 + (1 : Int32)) (rSa σ v1 ((σ.1 56) + v3) (strC v2 v3))))) = some r := h
    refine aw_iload_n C dX9_word_2 rfl ?_
    refine aw_raw_n C dX9_word_3 rfl ?_
    refine am_slen C is2 dX9_word_4 (Nat.le_of_ble_eq_true rfl) (Nat.le_of_ble_eq_true rfl) (Nat.le_of_ble_eq_true rfl) (Nat.le_of_ble_eq_true rfl) (Nat.le_of_ble_eq_true rfl) ?_
    refine aw_icmp_ge C 29 dX9_word_7 (by decide) (fun q => ?_) (fun q => ?_)
    · rw [if_pos q] at h
      refine aw_ald_n C dX9_word_29 rfl ?_
      refine aw_dup C dX9_word_30 rfl ?_
      refine aw_get C (v := .int (σ.1 56)) gf_X9_254 (hm_M f σ) rfl dX9_word_31 ?_
      refine aw_raw_n C dX9_word_34 rfl ?_
      refine am_slen C is2 dX9_word_35 (Nat.le_of_ble_eq_true rfl) (Nat.le_of_ble_eq_true rfl) (Nat.le_of_ble_eq_true rfl) (Nat.le_of_ble_eq_true rfl) (Nat.le_of_ble_eq_true rfl) ?_
      refine aw_iadd C dX9_word_38 ?_
      refine am_put C gf_X9_254 nf9_56 rfl rfl dX9_word_39 ?_
      cases h
      exact aw_vret C rfl dX9_word_42 (Nat.le_refl _) (Nat.le_refl _) ⟨rfl, rfl, rfl⟩
    · rw [if_neg q] at h
      refine aw_ald_n C dX9_word_10 rfl ?_
      refine aw_ald_n C dX9_word_11 rfl ?_
      refine aw_get C (v := .int (σ.1 56)) gf_X9_254 (hm_M f σ) rfl dX9_word_12 ?_
      refine aw_iload_n C dX9_word_15 rfl ?_
      refine aw_iadd C dX9_word_16 ?_
      refine aw_raw_n C dX9_word_17 rfl ?_
      refine aw_iload_n C dX9_word_18 rfl ?_
      obtain ⟨hb4, h⟩ := ck_some h
      refine am_schr C is2 hb4 dX9_word_19 (Nat.le_of_ble_eq_true rfl) (Nat.le_of_ble_eq_true rfl) (Nat.le_of_ble_eq_true rfl) (Nat.le_of_ble_eq_true rfl) (Nat.le_of_ble_eq_true rfl) ?_
      obtain ⟨hb5, h⟩ := ck_some h
      refine am_iast C ia1 (inb_vp hb5) dX9_word_22 ?_
      refine aw_iinc C (v3 + (1 : Int32)) dX9_word_23 rfl (by rw [ki_1]) (by decide) rfl ?_
      refine aw_nl [some (.ref 181), some (.ref (rAid v1)), some (.retAddr (X.2.2 (1000 + v2))), some (.int (v3 + (1 : Int32)))] rfl ?_
      refine aw_goto C 2 dX9_word_26 (by decide) ?_
      refine aw_fl [some (.ref 181), some (.ref (rAid v1)), some (.retAddr (X.2.2 (1000 + v2))), some (.int (v3 + (1 : Int32)))] ⟨rfl, ⟨rfl, ⟨rfl, ⟨rfl, trivial⟩⟩⟩⟩ ?_
      exact ih v1 v2 (v3 + (1 : Int32)) (rSa σ v1 ((σ.1 56) + v3) (strC v2 v3)) ia1 is2 h
def mX9_word (v1 : Nat) (v2 : Nat) (σ : RS9) : Option (Int32 × RS9) := mX9_word_l2 rFU v1 v2 (0 : Int32) σ
set_option maxHeartbeats 1000000 in
theorem rmX9_word {X : GX} {l : Launch} {f : AH} {n : Nat} {r : Int32 × RS9} {v1 : Nat} {v2 : Nat} {σ : RS9} (ia1 : rIsA v1 = true) (is2 : v2 < 15) (h : mX9_word v1 v2 σ = some r) : AM X l yX9_word cX9_word 4 none 4 0 0 [.ref 181, .ref (rAid v1), .retAddr (X.2.2 (1000 + v2))] (rHm f σ) n (QMv f n r) := by
  have h : mX9_word_l2 rFU v1 v2 (0 : Int32) σ = some r := h
  refine AM.of (by decide +kernel) rfl (Nat.le_of_ble_eq_true rfl) (fun p e s m args below meth c C _ => ?_)
  refine aw_nl [some (.ref 181), some (.ref (rAid v1)), some (.retAddr (X.2.2 (1000 + v2))), none] rfl ?_
  refine aw_iconst C 0 dX9_word_0 ki_0 ?_
  refine aw_istore_n C dX9_word_1 (by decide) rfl ?_
  refine aw_nl [some (.ref 181), some (.ref (rAid v1)), some (.retAddr (X.2.2 (1000 + v2))), some (.int (0 : Int32))] rfl ?_
  refine aw_fl [some (.ref 181), some (.ref (rAid v1)), some (.retAddr (X.2.2 (1000 + v2))), some (.int (0 : Int32))] ⟨rfl, ⟨rfl, ⟨rfl, ⟨rfl, trivial⟩⟩⟩⟩ ?_
  exact rmX9_word_l2 C rFU v1 v2 (0 : Int32) σ ia1 is2 h
def mX9_escapesMarkup_b54 (σ : RS9) : Option (Int32 × RS9) := some ((0 : Int32), σ)
set_option maxHeartbeats 1000000 in
theorem rmX9_escapesMarkup_b54 {X : GX} {p : Program} {l : Launch} {e : Env} {s : State} {m : MethodId} {args : Array Value} {below : List Frame} {meth : Method} {c : Code} {f : AH} {n : Nat} {r : Int32 × RS9} {σ : RS9} (C : CC X p l (RM 5 0 0) s m args meth c RX9 cX9_escapesMarkup 3 none) (h : mX9_escapesMarkup_b54 σ = some r) : AW X p l e (RM 5 0 0) s m args below meth c 3 (ZM X below args s 0 0 (QMv f n r)) (rHm f σ) n 0 0 54 [none, none, none] [] := by
  have h : some ((0 : Int32), σ) = some r := h
  cases h
  exact aw_vret C rfl dX9_escapesMarkup_54 (Nat.le_refl _) (Nat.le_refl _) ⟨rfl, rfl, rfl⟩
def mX9_escapesMarkup (v1 : Nat) (v2 : Int32) (σ : RS9) : Option (Int32 × RS9) := (if v2 = (60 : Int32) then ((mX9_word v1 0 σ).bind fun r4 => mX9_escapesMarkup_b54 r4.2) else (if v2 = (62 : Int32) then ((mX9_word v1 1 σ).bind fun r3 => mX9_escapesMarkup_b54 r3.2) else (if v2 = (38 : Int32) then ((mX9_word v1 2 σ).bind fun r2 => mX9_escapesMarkup_b54 r2.2) else ((mX9_plain v1 v2 σ).bind fun r1 => mX9_escapesMarkup_b54 r1.2))))
set_option maxHeartbeats 1000000 in
theorem rmX9_escapesMarkup {X : GX} {l : Launch} {f : AH} {n : Nat} {r : Int32 × RS9} {v1 : Nat} {v2 : Int32} {σ : RS9} (ia1 : rIsA v1 = true) (h : mX9_escapesMarkup v1 v2 σ = some r) : AM X l yX9_escapesMarkup cX9_escapesMarkup 3 none 5 0 0 [.ref 181, .ref (rAid v1), .int v2] (rHm f σ) n (QMv f n r) := by
  have h : (if v2 = (60 : Int32) then ((mX9_word v1 0 σ).bind fun r4 => mX9_escapesMarkup_b54 r4.2) else (if v2 = (62 : Int32) then ((mX9_word v1 1 σ).bind fun r3 => mX9_escapesMarkup_b54 r3.2) else (if v2 = (38 : Int32) then ((mX9_word v1 2 σ).bind fun r2 => mX9_escapesMarkup_b54 r2.2) else ((mX9_plain v1 v2 σ).bind fun r1 => mX9_escapesMarkup_b54 r1.2)))) = some r := h
  refine AM.of (by decide +kernel) rfl (Nat.le_of_ble_eq_true rfl) (fun p e s m args below meth c C _ => ?_)
  refine aw_nl [some (.ref 181), some (.ref (rAid v1)), some (.int v2)] rfl ?_
  refine aw_iload_n C dX9_escapesMarkup_0 rfl ?_
  refine aw_bipush C 60 dX9_escapesMarkup_1 kb_60 ?_
  refine aw_icmp_ne C 16 dX9_escapesMarkup_3 (by decide) (fun q => ?_) (fun q => ?_)
  · rw [if_neg q] at h
    refine aw_iload_n C dX9_escapesMarkup_16 rfl ?_
    refine aw_bipush C 62 dX9_escapesMarkup_17 kb_62 ?_
    refine aw_icmp_ne C 32 dX9_escapesMarkup_19 (by decide) (fun q => ?_) (fun q => ?_)
    · rw [if_neg q] at h
      refine aw_iload_n C dX9_escapesMarkup_32 rfl ?_
      refine aw_bipush C 38 dX9_escapesMarkup_33 kb_38 ?_
      refine aw_icmp_ne C 48 dX9_escapesMarkup_35 (by decide) (fun q => ?_) (fun q => ?_)
      · rw [if_neg q] at h
        refine aw_ald_n C dX9_escapesMarkup_48 rfl ?_
        refine aw_ald_n C dX9_escapesMarkup_49 rfl ?_
        refine aw_iload_n C dX9_escapesMarkup_50 rfl ?_
        obtain ⟨r1, h1, h⟩ := Option.bind_eq_some_iff.mp h
        refine aw_callV C (ci := 9) (b := 181) [.ref (rAid v1), .int v2] mv_X9_261 rfl rfl (hm_M f σ) (rmX9_plain ia1 h1) rfl dX9_escapesMarkup_51 (Nat.le_of_ble_eq_true rfl) (Nat.le_of_ble_eq_true rfl) rfl (Nat.le_of_ble_eq_true rfl) (Nat.le_of_ble_eq_true rfl) (Nat.le_of_ble_eq_true rfl) (fun v9 f9 n9 hh => ?_)
        obtain ⟨rfl, rfl, rfl⟩ := hh
        refine aw_fl [none, none, none] trivial ?_
        exact rmX9_escapesMarkup_b54 C h
      · rw [if_pos q] at h
        refine aw_ald_n C dX9_escapesMarkup_38 rfl ?_
        refine aw_ald_n C dX9_escapesMarkup_39 rfl ?_
        refine aw_ldcK C (C.2.2.2.2.2.2.1.2.2.2.2.2.2.2.2.1.2 2 (by decide)) dX9_escapesMarkup_40 ?_
        obtain ⟨r2, h2, h⟩ := Option.bind_eq_some_iff.mp h
        refine aw_callV C (ci := 9) (b := 181) [.ref (rAid v1), .retAddr (X.2.2 (1000 + 2))] mv_X9_257 rfl rfl (hm_M f σ) (rmX9_word ia1 (by decide) h2) rfl dX9_escapesMarkup_42 (Nat.le_of_ble_eq_true rfl) (Nat.le_of_ble_eq_true rfl) rfl (Nat.le_of_ble_eq_true rfl) (Nat.le_of_ble_eq_true rfl) (Nat.le_of_ble_eq_true rfl) (fun v9 f9 n9 hh => ?_)
        obtain ⟨rfl, rfl, rfl⟩ := hh
        refine aw_goto C 54 dX9_escapesMarkup_45 (by decide) ?_
        refine aw_fl [none, none, none] trivial ?_
        exact rmX9_escapesMarkup_b54 C h
    · rw [if_pos q] at h
      refine aw_ald_n C dX9_escapesMarkup_22 rfl ?_
      refine aw_ald_n C dX9_escapesMarkup_23 rfl ?_
      refine aw_ldcK C (C.2.2.2.2.2.2.1.2.2.2.2.2.2.2.2.1.2 1 (by decide)) dX9_escapesMarkup_24 ?_
      obtain ⟨r3, h3, h⟩ := Option.bind_eq_some_iff.mp h
      refine aw_callV C (ci := 9) (b := 181) [.ref (rAid v1), .retAddr (X.2.2 (1000 + 1))] mv_X9_257 rfl rfl (hm_M f σ) (rmX9_word ia1 (by decide) h3) rfl dX9_escapesMarkup_26 (Nat.le_of_ble_eq_true rfl) (Nat.le_of_ble_eq_true rfl) rfl (Nat.le_of_ble_eq_true rfl) (Nat.le_of_ble_eq_true rfl) (Nat.le_of_ble_eq_true rfl) (fun v9 f9 n9 hh => ?_)
      obtain ⟨rfl, rfl, rfl⟩ := hh
      refine aw_goto C 54 dX9_escapesMarkup_29 (by decide) ?_
      refine aw_fl [none, none, none] trivial ?_
      exact rmX9_escapesMarkup_b54 C h
  · rw [if_pos q] at h
    refine aw_ald_n C dX9_escapesMarkup_6 rfl ?_
    refine aw_ald_n C dX9_escapesMarkup_7 rfl ?_
    refine aw_ldcK C (C.2.2.2.2.2.2.1.2.2.2.2.2.2.2.2.1.2 0 (by decide)) dX9_escapesMarkup_8 ?_
    obtain ⟨r4, h4, h⟩ := Option.bind_eq_some_iff.mp h
    refine aw_callV C (ci := 9) (b := 181) [.ref (rAid v1), .retAddr (X.2.2 (1000 + 0))] mv_X9_257 rfl rfl (hm_M f σ) (rmX9_word ia1 (by decide) h4) rfl dX9_escapesMarkup_10 (Nat.le_of_ble_eq_true rfl) (Nat.le_of_ble_eq_true rfl) rfl (Nat.le_of_ble_eq_true rfl) (Nat.le_of_ble_eq_true rfl) (Nat.le_of_ble_eq_true rfl) (fun v9 f9 n9 hh => ?_)
    obtain ⟨rfl, rfl, rfl⟩ := hh
    refine aw_goto C 54 dX9_escapesMarkup_13 (by decide) ?_
    refine aw_fl [none, none, none] trivial ?_
    exact rmX9_escapesMarkup_b54 C h
