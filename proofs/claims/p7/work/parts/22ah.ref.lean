def mX9_knownOf_b104 (rec2 : Int32 → Int32 → RS9 → Option (Int32 × RS9)) (v1 : Int32) (v2 : Int32) (v4 : Int32) (σ : RS9) : Option (Int32 × RS9) := (if v4 = (0 : Int32) then rec2 v1 (v2 + (1 : Int32)) σ else some (v2, σ))
set_option maxHeartbeats 1000000 in
theorem rmX9_knownOf_b104 {X : GX} {p : Program} {l : Launch} {e : Env} {s : State} {m : MethodId} {args : Array Value} {below : List Frame} {meth : Method} {c : Code} {f : AH} {n : Nat} {r : Int32 × RS9} {rec2 : Int32 → Int32 → RS9 → Option (Int32 × RS9)} {v1 : Int32} {v2 : Int32} {v4 : Int32} {σ : RS9} (C : CC X p l (RM 0 0 0) s m args meth c RX9 cX9_knownOf 6 (some .int)) (Hr2 : ∀ (v1 : Int32) (v2 : Int32) (σ : RS9), rec2 v1 v2 σ = some r → AW X p l e (RM 0 0 0) s m args below meth c 6 (ZM X below args s 0 0 (QMi f n r)) (rHm f σ) n 0 0 2 [some (.ref 181), some (.int v1), some (.int v2), none, none, none] []) (h : mX9_knownOf_b104 rec2 v1 v2 v4 σ = some r) : AW X p l e (RM 0 0 0) s m args below meth c 6 (ZM X below args s 0 0 (QMi f n r)) (rHm f σ) n 0 0 104 [some (.ref 181), some (.int v1), some (.int v2), none, some (.int v4), none] [] := by
  have h : (if v4 = (0 : Int32) then rec2 v1 (v2 + (1 : Int32)) σ else some (v2, σ)) = some r := h
  refine aw_iload C dX9_knownOf_104 rfl ?_
  refine aw_if_eq C 111 dX9_knownOf_106 (by decide) (fun q => ?_) (fun q => ?_)
  · rw [if_pos q] at h
    refine aw_iinc C (v2 + (1 : Int32)) dX9_knownOf_111 rfl (by rw [ki_1]) (by decide) rfl ?_
    refine aw_nl [some (.ref 181), some (.int v1), some (.int (v2 + (1 : Int32))), none, some (.int v4), none] rfl ?_
    refine aw_goto C 2 dX9_knownOf_114 (by decide) ?_
    refine aw_fl [some (.ref 181), some (.int v1), some (.int (v2 + (1 : Int32))), none, none, none] ⟨rfl, ⟨rfl, ⟨rfl, trivial⟩⟩⟩ ?_
    exact Hr2 v1 (v2 + (1 : Int32)) σ h
  · rw [if_neg q] at h
    refine aw_iload_n C dX9_knownOf_109 rfl ?_
    cases h
    exact aw_iret C rfl rfl dX9_knownOf_110 (Nat.le_refl _) (Nat.le_refl _) ⟨rfl, rfl, rfl⟩
def mX9_knownOf_b96 (rec2 : Int32 → Int32 → RS9 → Option (Int32 × RS9)) (rec47 : Int32 → Int32 → Int32 → Int32 → Int32 → RS9 → Option (Int32 × RS9)) (v1 : Int32) (v2 : Int32) (v3 : Int32) (v5 : Int32) (s0 : Int32) (σ : RS9) : Option (Int32 × RS9) := rec47 v1 v2 v3 s0 (v5 + (1 : Int32)) σ
set_option maxHeartbeats 1000000 in
theorem rmX9_knownOf_b96 {X : GX} {p : Program} {l : Launch} {e : Env} {s : State} {m : MethodId} {args : Array Value} {below : List Frame} {meth : Method} {c : Code} {f : AH} {n : Nat} {r : Int32 × RS9} {rec2 : Int32 → Int32 → RS9 → Option (Int32 × RS9)} {rec47 : Int32 → Int32 → Int32 → Int32 → Int32 → RS9 → Option (Int32 × RS9)} {v1 : Int32} {v2 : Int32} {v3 : Int32} {v5 : Int32} {s0 : Int32} {σ : RS9} (C : CC X p l (RM 0 0 0) s m args meth c RX9 cX9_knownOf 6 (some .int)) (Hr2 : ∀ (v1 : Int32) (v2 : Int32) (σ : RS9), rec2 v1 v2 σ = some r → AW X p l e (RM 0 0 0) s m args below meth c 6 (ZM X below args s 0 0 (QMi f n r)) (rHm f σ) n 0 0 2 [some (.ref 181), some (.int v1), some (.int v2), none, none, none] []) (Hr47 : ∀ (v1 : Int32) (v2 : Int32) (v3 : Int32) (v4 : Int32) (v5 : Int32) (σ : RS9), rec47 v1 v2 v3 v4 v5 σ = some r → AW X p l e (RM 0 0 0) s m args below meth c 6 (ZM X below args s 0 0 (QMi f n r)) (rHm f σ) n 0 0 47 [some (.ref 181), some (.int v1), some (.int v2), some (.int v3), some (.int v4), some (.int v5)] []) (h : mX9_knownOf_b96 rec2 rec47 v1 v2 v3 v5 s0 σ = some r) : AW X p l e (RM 0 0 0) s m args below meth c 6 (ZM X below args s 0 0 (QMi f n r)) (rHm f σ) n 0 0 96 [some (.ref 181), some (.int v1), some (.int v2), some (.int v3), none, some (.int v5)] [.int s0] := by
  have h : rec47 v1 v2 v3 s0 (v5 + (1 : Int32)) σ = some r := h
  refine aw_istore C dX9_knownOf_96 (by decide) rfl ?_
  refine aw_nl [some (.ref 181), some (.int v1), some (.int v2), some (.int v3), some (.int s0), some (.int v5)] rfl ?_
  refine aw_iinc C (v5 + (1 : Int32)) dX9_knownOf_98 rfl (by rw [ki_1]) (by decide) rfl ?_
  refine aw_nl [some (.ref 181), some (.int v1), some (.int v2), some (.int v3), some (.int s0), some (.int (v5 + (1 : Int32)))] rfl ?_
  refine aw_goto C 47 dX9_knownOf_101 (by decide) ?_
  refine aw_fl [some (.ref 181), some (.int v1), some (.int v2), some (.int v3), some (.int s0), some (.int (v5 + (1 : Int32)))] ⟨rfl, ⟨rfl, ⟨rfl, ⟨rfl, ⟨rfl, ⟨rfl, trivial⟩⟩⟩⟩⟩⟩ ?_
  exact Hr47 v1 v2 v3 s0 (v5 + (1 : Int32)) σ h
def mX9_knownOf_l47 (rec2 : Int32 → Int32 → RS9 → Option (Int32 × RS9)) : Nat → Int32 → Int32 → Int32 → Int32 → Int32 → RS9 → Option (Int32 × RS9)
  | 0, _, _, _, _, _, _ => none
  | d + 1, v1, v2, v3, v4, v5, σ => rCk (rIn v1 (rLen 42)) ((if (rGa σ 42 v1) ≤ v5 then mX9_knownOf_b104 rec2 v1 v2 v4 σ else (if v4 = (0 : Int32) then mX9_knownOf_b104 rec2 v1 v2 v4 σ else rCk (rIn ((v3 + (1 : Int32)) + v5) (rLen 1)) (rCk (rIn v1 (rLen 41)) (rCk (rIn ((rGa σ 41 v1) + v5) (rLen 43)) ((if (rGa σ 1 ((v3 + (1 : Int32)) + v5)) = (rGa σ 43 ((rGa σ 41 v1) + v5)) then mX9_knownOf_b96 rec2 (fun v1 v2 v3 v4 v5 σ => mX9_knownOf_l47 rec2 d v1 v2 v3 v4 v5 σ) v1 v2 v3 v5 (1 : Int32) σ else mX9_knownOf_b96 rec2 (fun v1 v2 v3 v4 v5 σ => mX9_knownOf_l47 rec2 d v1 v2 v3 v4 v5 σ) v1 v2 v3 v5 (0 : Int32) σ)))))))
set_option maxHeartbeats 1000000 in
theorem rmX9_knownOf_l47 {X : GX} {p : Program} {l : Launch} {e : Env} {s : State} {m : MethodId} {args : Array Value} {below : List Frame} {meth : Method} {c : Code} {f : AH} {n : Nat} {r : Int32 × RS9} {rec2 : Int32 → Int32 → RS9 → Option (Int32 × RS9)} (C : CC X p l (RM 0 0 0) s m args meth c RX9 cX9_knownOf 6 (some .int)) (Hr2 : ∀ (v1 : Int32) (v2 : Int32) (σ : RS9), rec2 v1 v2 σ = some r → AW X p l e (RM 0 0 0) s m args below meth c 6 (ZM X below args s 0 0 (QMi f n r)) (rHm f σ) n 0 0 2 [some (.ref 181), some (.int v1), some (.int v2), none, none, none] []) : ∀ (d : Nat) (v1 : Int32) (v2 : Int32) (v3 : Int32) (v4 : Int32) (v5 : Int32) (σ : RS9) (_ : mX9_knownOf_l47 rec2 d v1 v2 v3 v4 v5 σ = some r), AW X p l e (RM 0 0 0) s m args below meth c 6 (ZM X below args s 0 0 (QMi f n r)) (rHm f σ) n 0 0 47 [some (.ref 181), some (.int v1), some (.int v2), some (.int v3), some (.int v4), some (.int v5)] [] := by
  intro d
  induction d with
  | zero =>
    intro v1 v2 v3 v4 v5 σ h
    exact nomatch (show (none : Option (Int32 × RS9)) = some r from h)
  | succ d ih =>
    intro v1 v2 v3 v4 v5 σ h
    have h : rCk (rIn v1 (rLen 42)) ((if (rGa σ 42 v1) ≤ v5 then mX9_knownOf_b104 rec2 v1 v2 v4 σ else (if v4 = (0 : Int32) then mX9_knownOf_b104 rec2 v1 v2 v4 σ else rCk (rIn ((v3 + (1 : Int32)) + v5) (rLen 1)) (rCk (rIn v1 (rLen 41)) (rCk (rIn ((rGa σ 41 v1) + v5) (rLen 43)) ((if (rGa σ 1 ((v3 + (1 : Int32)) + v5)) = (rGa σ 43 ((rGa σ 41 v1) + v5)) then mX9_knownOf_b96 rec2 (fun v1 v2 v3 v4 v5 σ => mX9_knownOf_l47 rec2 d v1 v2 v3 v4 v5 σ) v1 v2 v3 v5 (1 : Int32) σ else mX9_knownOf_b96 rec2 (fun v1 v2 v3 v4 v5 σ => mX9_knownOf_l47 rec2 d v1 v2 v3 v4 v5 σ) v1 v2 v3 v5 (0 : Int32) σ))))))) = some r := h
    refine aw_iload C dX9_knownOf_47 rfl ?_
    refine aw_ald_n C dX9_knownOf_49 rfl ?_
    refine aw_get C (v := .ref (rAid 42)) gf_X9_105 (hm_M f σ) rfl dX9_knownOf_50 ?_
    refine aw_iload_n C dX9_knownOf_53 rfl ?_
    obtain ⟨hb1, h⟩ := ck_some h
    refine am_iald C (rGa σ 42 v1) rfl (inb_vp hb1) rfl dX9_knownOf_54 ?_
    refine aw_icmp_ge C 104 dX9_knownOf_55 (by decide) (fun q => ?_) (fun q => ?_)
    · rw [if_pos q] at h
      refine aw_fl [some (.ref 181), some (.int v1), some (.int v2), none, some (.int v4), none] ⟨rfl, ⟨rfl, ⟨rfl, ⟨rfl, trivial⟩⟩⟩⟩ ?_
      exact rmX9_knownOf_b104 C Hr2 h
    · rw [if_neg q] at h
      refine aw_iload C dX9_knownOf_58 rfl ?_
      refine aw_if_eq C 104 dX9_knownOf_60 (by decide) (fun q => ?_) (fun q => ?_)
      · rw [if_pos q] at h
        refine aw_fl [some (.ref 181), some (.int v1), some (.int v2), none, some (.int v4), none] ⟨rfl, ⟨rfl, ⟨rfl, ⟨rfl, trivial⟩⟩⟩⟩ ?_
        exact rmX9_knownOf_b104 C Hr2 h
      · rw [if_neg q] at h
        refine aw_ald_n C dX9_knownOf_63 rfl ?_
        refine aw_get C (v := .ref (rAid 1)) gf_X9_7 (hm_M f σ) rfl dX9_knownOf_64 ?_
        refine aw_iload_n C dX9_knownOf_67 rfl ?_
        refine aw_iconst C 1 dX9_knownOf_68 ki_1 ?_
        refine aw_iadd C dX9_knownOf_69 ?_
        refine aw_iload C dX9_knownOf_70 rfl ?_
        refine aw_iadd C dX9_knownOf_72 ?_
        obtain ⟨hb2, h⟩ := ck_some h
        refine am_iald C (rGa σ 1 ((v3 + (1 : Int32)) + v5)) rfl (inb_vp hb2) rfl dX9_knownOf_73 ?_
        refine aw_ald_n C dX9_knownOf_74 rfl ?_
        refine aw_get C (v := .ref (rAid 43)) gf_X9_108 (hm_M f σ) rfl dX9_knownOf_75 ?_
        refine aw_ald_n C dX9_knownOf_78 rfl ?_
        refine aw_get C (v := .ref (rAid 41)) gf_X9_102 (hm_M f σ) rfl dX9_knownOf_79 ?_
        refine aw_iload_n C dX9_knownOf_82 rfl ?_
        obtain ⟨hb3, h⟩ := ck_some h
        refine am_iald C (rGa σ 41 v1) rfl (inb_vp hb3) rfl dX9_knownOf_83 ?_
        refine aw_iload C dX9_knownOf_84 rfl ?_
        refine aw_iadd C dX9_knownOf_86 ?_
        obtain ⟨hb4, h⟩ := ck_some h
        refine am_iald C (rGa σ 43 ((rGa σ 41 v1) + v5)) rfl (inb_vp hb4) rfl dX9_knownOf_87 ?_
        refine aw_icmp_ne C 95 dX9_knownOf_88 (by decide) (fun q => ?_) (fun q => ?_)
        · rw [if_neg q] at h
          refine aw_iconst C 0 dX9_knownOf_95 ki_0 ?_
          refine aw_fl [some (.ref 181), some (.int v1), some (.int v2), some (.int v3), none, some (.int v5)] ⟨rfl, ⟨rfl, ⟨rfl, ⟨rfl, ⟨rfl, trivial⟩⟩⟩⟩⟩ ?_
          exact rmX9_knownOf_b96 C Hr2 (fun v1 v2 v3 v4 v5 σ h => ih v1 v2 v3 v4 v5 σ h) h
        · rw [if_pos q] at h
          refine aw_iconst C 1 dX9_knownOf_91 ki_1 ?_
          refine aw_goto C 96 dX9_knownOf_92 (by decide) ?_
          refine aw_fl [some (.ref 181), some (.int v1), some (.int v2), some (.int v3), none, some (.int v5)] ⟨rfl, ⟨rfl, ⟨rfl, ⟨rfl, ⟨rfl, trivial⟩⟩⟩⟩⟩ ?_
          exact rmX9_knownOf_b96 C Hr2 (fun v1 v2 v3 v4 v5 σ h => ih v1 v2 v3 v4 v5 σ h) h
def mX9_knownOf_b42 (rec2 : Int32 → Int32 → RS9 → Option (Int32 × RS9)) (v1 : Int32) (v2 : Int32) (v3 : Int32) (s0 : Int32) (σ : RS9) : Option (Int32 × RS9) := mX9_knownOf_l47 rec2 rFU v1 v2 v3 s0 (0 : Int32) σ
set_option maxHeartbeats 1000000 in
theorem rmX9_knownOf_b42 {X : GX} {p : Program} {l : Launch} {e : Env} {s : State} {m : MethodId} {args : Array Value} {below : List Frame} {meth : Method} {c : Code} {f : AH} {n : Nat} {r : Int32 × RS9} {rec2 : Int32 → Int32 → RS9 → Option (Int32 × RS9)} {v1 : Int32} {v2 : Int32} {v3 : Int32} {s0 : Int32} {σ : RS9} (C : CC X p l (RM 0 0 0) s m args meth c RX9 cX9_knownOf 6 (some .int)) (Hr2 : ∀ (v1 : Int32) (v2 : Int32) (σ : RS9), rec2 v1 v2 σ = some r → AW X p l e (RM 0 0 0) s m args below meth c 6 (ZM X below args s 0 0 (QMi f n r)) (rHm f σ) n 0 0 2 [some (.ref 181), some (.int v1), some (.int v2), none, none, none] []) (h : mX9_knownOf_b42 rec2 v1 v2 v3 s0 σ = some r) : AW X p l e (RM 0 0 0) s m args below meth c 6 (ZM X below args s 0 0 (QMi f n r)) (rHm f σ) n 0 0 42 [some (.ref 181), some (.int v1), some (.int v2), some (.int v3), none, none] [.int s0] := by
  have h : mX9_knownOf_l47 rec2 rFU v1 v2 v3 s0 (0 : Int32) σ = some r := h
  refine aw_istore C dX9_knownOf_42 (by decide) rfl ?_
  refine aw_nl [some (.ref 181), some (.int v1), some (.int v2), some (.int v3), some (.int s0), none] rfl ?_
  refine aw_iconst C 0 dX9_knownOf_44 ki_0 ?_
  refine aw_istore C dX9_knownOf_45 (by decide) rfl ?_
  refine aw_nl [some (.ref 181), some (.int v1), some (.int v2), some (.int v3), some (.int s0), some (.int (0 : Int32))] rfl ?_
  refine aw_fl [some (.ref 181), some (.int v1), some (.int v2), some (.int v3), some (.int s0), some (.int (0 : Int32))] ⟨rfl, ⟨rfl, ⟨rfl, ⟨rfl, ⟨rfl, ⟨rfl, trivial⟩⟩⟩⟩⟩⟩ ?_
  exact rmX9_knownOf_l47 C Hr2 rFU v1 v2 v3 s0 (0 : Int32) σ h
def mX9_knownOf_l2 : Nat → Int32 → Int32 → RS9 → Option (Int32 × RS9)
  | 0, _, _, _ => none
  | d + 1, v1, v2, σ => rCk (rIn (42 : Int32) (rLen 1)) ((if (rGa σ 1 (42 : Int32)) ≤ v2 then some ((-1 : Int32), σ) else rCk (rIn ((2883 : Int32) + ((122 : Int32) * v2)) (rLen 1)) (rCk (rIn v1 (rLen 42)) ((if (rGa σ 1 ((2883 : Int32) + ((122 : Int32) * v2))) = (rGa σ 42 v1) then mX9_knownOf_b42 (fun v1 v2 σ => mX9_knownOf_l2 d v1 v2 σ) v1 v2 ((2883 : Int32) + ((122 : Int32) * v2)) (1 : Int32) σ else mX9_knownOf_b42 (fun v1 v2 σ => mX9_knownOf_l2 d v1 v2 σ) v1 v2 ((2883 : Int32) + ((122 : Int32) * v2)) (0 : Int32) σ)))))
set_option maxHeartbeats 1000000 in
theorem rmX9_knownOf_l2 {X : GX} {p : Program} {l : Launch} {e : Env} {s : State} {m : MethodId} {args : Array Value} {below : List Frame} {meth : Method} {c : Code} {f : AH} {n : Nat} {r : Int32 × RS9} (C : CC X p l (RM 0 0 0) s m args meth c RX9 cX9_knownOf 6 (some .int)) : ∀ (d : Nat) (v1 : Int32) (v2 : Int32) (σ : RS9) (_ : mX9_knownOf_l2 d v1 v2 σ = some r), AW X p l e (RM 0 0 0) s m args below meth c 6 (ZM X below args s 0 0 (QMi f n r)) (rHm f σ) n 0 0 2 [some (.ref 181), some (.int v1), some (.int v2), none, none, none] [] := by
  intro d
  induction d with
  | zero =>
    intro v1 v2 σ h
    exact nomatch (show (none : Option (Int32 × RS9)) = some r from h)
  | succ d ih =>
    intro v1 v2 σ h
    have h : rCk (rIn (42 : Int32) (rLen 1)) ((if (rGa σ 1 (42 : Int32)) ≤ v2 then some ((-1 : Int32), σ) else rCk (rIn ((2883 : Int32) + ((122 : Int32) * v2)) (rLen 1)) (rCk (rIn v1 (rLen 42)) ((if (rGa σ 1 ((2883 : Int32) + ((122 : Int32) * v2))) = (rGa σ 42 v1) then mX9_knownOf_b42 (fun v1 v2 σ => mX9_knownOf_l2 d v1 v2 σ) v1 v2 ((2883 : Int32) + ((122 : Int32) * v2)) (1 : Int32) σ else mX9_knownOf_b42 (fun v1 v2 σ => mX9_knownOf_l2 d v1 v2 σ) v1 v2 ((2883 : Int32) + ((122 : Int32) * v2)) (0 : Int32) σ))))) = some r := h
    refine aw_iload_n C dX9_knownOf_2 rfl ?_
    refine aw_ald_n C dX9_knownOf_3 rfl ?_
    refine aw_get C (v := .ref (rAid 1)) gf_X9_7 (hm_M f σ) rfl dX9_knownOf_4 ?_
    refine aw_bipush C 42 dX9_knownOf_7 kb_42 ?_
    obtain ⟨hb1, h⟩ := ck_some h
    refine am_iald C (rGa σ 1 (42 : Int32)) rfl (inb_vp hb1) rfl dX9_knownOf_9 ?_
    refine aw_icmp_ge C 117 dX9_knownOf_10 (by decide) (fun q => ?_) (fun q => ?_)
    · rw [if_pos q] at h
      refine aw_iconst C (-1) dX9_knownOf_117 ki_m1 ?_
      cases h
      exact aw_iret C rfl rfl dX9_knownOf_118 (Nat.le_refl _) (Nat.le_refl _) ⟨rfl, rfl, rfl⟩
    · rw [if_neg q] at h
      refine aw_sipush C 2883 dX9_knownOf_13 ks_2883 ?_
      refine aw_bipush C 122 dX9_knownOf_16 kb_122 ?_
      refine aw_iload_n C dX9_knownOf_18 rfl ?_
      refine aw_imul C dX9_knownOf_19 ?_
      refine aw_iadd C dX9_knownOf_20 ?_
      refine aw_istore_n C dX9_knownOf_21 (by decide) rfl ?_
      refine aw_nl [some (.ref 181), some (.int v1), some (.int v2), some (.int ((2883 : Int32) + ((122 : Int32) * v2))), none, none] rfl ?_
      refine aw_ald_n C dX9_knownOf_22 rfl ?_
      refine aw_get C (v := .ref (rAid 1)) gf_X9_7 (hm_M f σ) rfl dX9_knownOf_23 ?_
      refine aw_iload_n C dX9_knownOf_26 rfl ?_
      obtain ⟨hb2, h⟩ := ck_some h
      refine am_iald C (rGa σ 1 ((2883 : Int32) + ((122 : Int32) * v2))) rfl (inb_vp hb2) rfl dX9_knownOf_27 ?_
      refine aw_ald_n C dX9_knownOf_28 rfl ?_
      refine aw_get C (v := .ref (rAid 42)) gf_X9_105 (hm_M f σ) rfl dX9_knownOf_29 ?_
      refine aw_iload_n C dX9_knownOf_32 rfl ?_
      obtain ⟨hb3, h⟩ := ck_some h
      refine am_iald C (rGa σ 42 v1) rfl (inb_vp hb3) rfl dX9_knownOf_33 ?_
      refine aw_icmp_ne C 41 dX9_knownOf_34 (by decide) (fun q => ?_) (fun q => ?_)
      · rw [if_neg q] at h
        refine aw_iconst C 0 dX9_knownOf_41 ki_0 ?_
        refine aw_fl [some (.ref 181), some (.int v1), some (.int v2), some (.int ((2883 : Int32) + ((122 : Int32) * v2))), none, none] ⟨rfl, ⟨rfl, ⟨rfl, ⟨rfl, trivial⟩⟩⟩⟩ ?_
        exact rmX9_knownOf_b42 C (fun v1 v2 σ h => ih v1 v2 σ h) h
      · rw [if_pos q] at h
        refine aw_iconst C 1 dX9_knownOf_37 ki_1 ?_
        refine aw_goto C 42 dX9_knownOf_38 (by decide) ?_
        refine aw_fl [some (.ref 181), some (.int v1), some (.int v2), some (.int ((2883 : Int32) + ((122 : Int32) * v2))), none, none] ⟨rfl, ⟨rfl, ⟨rfl, ⟨rfl, trivial⟩⟩⟩⟩ ?_
        exact rmX9_knownOf_b42 C (fun v1 v2 σ h => ih v1 v2 σ h) h
def mX9_knownOf (v1 : Int32) (σ : RS9) : Option (Int32 × RS9) := mX9_knownOf_l2 rFU v1 (0 : Int32) σ
set_option maxHeartbeats 1000000 in
theorem rmX9_knownOf {X : GX} {l : Launch} {f : AH} {n : Nat} {r : Int32 × RS9} {v1 : Int32} {σ : RS9} (h : mX9_knownOf v1 σ = some r) : AM X l yX9_knownOf cX9_knownOf 6 (some .int) 0 0 0 [.ref 181, .int v1] (rHm f σ) n (QMi f n r) := by
  have h : mX9_knownOf_l2 rFU v1 (0 : Int32) σ = some r := h
  refine AM.of (by decide +kernel) rfl (Nat.le_of_ble_eq_true rfl) (fun p e s m args below meth c C _ => ?_)
  refine aw_nl [some (.ref 181), some (.int v1), none, none, none, none] rfl ?_
  refine aw_iconst C 0 dX9_knownOf_0 ki_0 ?_
  refine aw_istore_n C dX9_knownOf_1 (by decide) rfl ?_
  refine aw_nl [some (.ref 181), some (.int v1), some (.int (0 : Int32)), none, none, none] rfl ?_
  refine aw_fl [some (.ref 181), some (.int v1), some (.int (0 : Int32)), none, none, none] ⟨rfl, ⟨rfl, ⟨rfl, trivial⟩⟩⟩ ?_
  exact rmX9_knownOf_l2 C rFU v1 (0 : Int32) σ h
def mX9_octet_b82 (s0 : Int32) (σ : RS9) : Option (Int32 × RS9) := some (s0, σ)
set_option maxHeartbeats 1000000 in
theorem rmX9_octet_b82 {X : GX} {p : Program} {l : Launch} {e : Env} {s : State} {m : MethodId} {args : Array Value} {below : List Frame} {meth : Method} {c : Code} {f : AH} {n : Nat} {r : Int32 × RS9} {s0 : Int32} {σ : RS9} (C : CC X p l (RM 2 0 0) s m args meth c RX9 cX9_octet 4 (some .int)) (h : mX9_octet_b82 s0 σ = some r) : AW X p l e (RM 2 0 0) s m args below meth c 4 (ZM X below args s 0 0 (QMi f n r)) (rHm f σ) n 0 0 82 [none, none, none, none] [.int s0] := by
  have h : some (s0, σ) = some r := h
  cases h
  exact aw_iret C rfl rfl dX9_octet_82 (Nat.le_refl _) (Nat.le_refl _) ⟨rfl, rfl, rfl⟩
def mX9_octet_b46 (v1 : Int32) (v2 : Int32) (v3 : Int32) (s0 : Int32) (s1 : Int32) (s2 : Int32) (σ : RS9) : Option (Int32 × RS9) := ((mX9_isIn s0 s1 (s2 - (1 : Int32)) σ).bind fun r1 => (if r1.1 = (0 : Int32) then some ((-1 : Int32), r1.2) else (if v3 = (0 : Int32) then rCk (rIn v1 (rLen 41)) (rCk (rIn ((rGa r1.2 41 v1) + v2) (rLen 43)) (mX9_octet_b82 (rGa r1.2 43 ((rGa r1.2 41 v1) + v2)) r1.2)) else ((mX9_nowByte v1 v2 r1.2).bind fun r4 => mX9_octet_b82 r4.1 r4.2))))
set_option maxHeartbeats 1000000 in
theorem rmX9_octet_b46 {X : GX} {p : Program} {l : Launch} {e : Env} {s : State} {m : MethodId} {args : Array Value} {below : List Frame} {meth : Method} {c : Code} {f : AH} {n : Nat} {r : Int32 × RS9} {v1 : Int32} {v2 : Int32} {v3 : Int32} {s0 : Int32} {s1 : Int32} {s2 : Int32} {σ : RS9} (C : CC X p l (RM 2 0 0) s m args meth c RX9 cX9_octet 4 (some .int)) (h : mX9_octet_b46 v1 v2 v3 s0 s1 s2 σ = some r) : AW X p l e (RM 2 0 0) s m args below meth c 4 (ZM X below args s 0 0 (QMi f n r)) (rHm f σ) n 0 0 46 [some (.ref 181), some (.int v1), some (.int v2), some (.int v3)] [.int s2, .int s1, .int s0] := by
  have h : ((mX9_isIn s0 s1 (s2 - (1 : Int32)) σ).bind fun r1 => (if r1.1 = (0 : Int32) then some ((-1 : Int32), r1.2) else (if v3 = (0 : Int32) then rCk (rIn v1 (rLen 41)) (rCk (rIn ((rGa r1.2 41 v1) + v2) (rLen 43)) (mX9_octet_b82 (rGa r1.2 43 ((rGa r1.2 41 v1) + v2)) r1.2)) else ((mX9_nowByte v1 v2 r1.2).bind fun r4 => mX9_octet_b82 r4.1 r4.2)))) = some r := h
  refine aw_iconst C 1 dX9_octet_46 ki_1 ?_
  refine aw_isub C dX9_octet_47 ?_
  obtain ⟨r1, h1, h⟩ := Option.bind_eq_some_iff.mp h
  refine aw_callS C [.int s0, .int s1, .int (s2 - (1 : Int32))] ms_X9_141 (rmX9_isIn h1) rfl dX9_octet_48 (Nat.le_of_ble_eq_true rfl) (Nat.le_of_ble_eq_true rfl) rfl (Nat.le_of_ble_eq_true rfl) (Nat.le_of_ble_eq_true rfl) (Nat.le_of_ble_eq_true rfl) (fun v9 f9 n9 hh => ?_)
  obtain ⟨rfl, rfl, rfl⟩ := hh
  refine aw_if_ne C 56 dX9_octet_51 (by decide) (fun q => ?_) (fun q => ?_)
  · rw [if_neg q] at h
    refine aw_iload_n C dX9_octet_56 rfl ?_
    refine aw_if_eq C 69 dX9_octet_57 (by decide) (fun q => ?_) (fun q => ?_)
    · rw [if_pos q] at h
      refine aw_ald_n C dX9_octet_69 rfl ?_
      refine aw_get C (v := .ref (rAid 43)) gf_X9_108 (hm_M f r1.2) rfl dX9_octet_70 ?_
      refine aw_ald_n C dX9_octet_73 rfl ?_
      refine aw_get C (v := .ref (rAid 41)) gf_X9_102 (hm_M f r1.2) rfl dX9_octet_74 ?_
      refine aw_iload_n C dX9_octet_77 rfl ?_
      obtain ⟨hb2, h⟩ := ck_some h
      refine am_iald C (rGa r1.2 41 v1) rfl (inb_vp hb2) rfl dX9_octet_78 ?_
      refine aw_iload_n C dX9_octet_79 rfl ?_
      refine aw_iadd C dX9_octet_80 ?_
      obtain ⟨hb3, h⟩ := ck_some h
      refine am_iald C (rGa r1.2 43 ((rGa r1.2 41 v1) + v2)) rfl (inb_vp hb3) rfl dX9_octet_81 ?_
      refine aw_fl [none, none, none, none] trivial ?_
      exact rmX9_octet_b82 C h
    · rw [if_neg q] at h
      refine aw_ald_n C dX9_octet_60 rfl ?_
      refine aw_iload_n C dX9_octet_61 rfl ?_
      refine aw_iload_n C dX9_octet_62 rfl ?_
      obtain ⟨r4, h4, h⟩ := Option.bind_eq_some_iff.mp h
      refine aw_callV C (ci := 9) (b := 181) [.int v1, .int v2] mv_X9_316 rfl rfl (hm_M f r1.2) (rmX9_nowByte h4) rfl dX9_octet_63 (Nat.le_of_ble_eq_true rfl) (Nat.le_of_ble_eq_true rfl) rfl (Nat.le_of_ble_eq_true rfl) (Nat.le_of_ble_eq_true rfl) (Nat.le_of_ble_eq_true rfl) (fun v9 f9 n9 hh => ?_)
      obtain ⟨rfl, rfl, rfl⟩ := hh
      refine aw_goto C 82 dX9_octet_66 (by decide) ?_
      refine aw_fl [none, none, none, none] trivial ?_
      exact rmX9_octet_b82 C h
  · rw [if_pos q] at h
    refine aw_iconst C (-1) dX9_octet_54 ki_m1 ?_
    cases h
    exact aw_iret C rfl rfl dX9_octet_55 (Nat.le_refl _) (Nat.le_refl _) ⟨rfl, rfl, rfl⟩
def mX9_octet_b14 (v1 : Int32) (v2 : Int32) (v3 : Int32) (s1 : Int32) (σ : RS9) : Option (Int32 × RS9) := (if s1 ≤ (0 : Int32) then (if v3 = (0 : Int32) then rCk (rIn v1 (rLen 42)) (mX9_octet_b46 v1 v2 v3 v2 (0 : Int32) (rGa σ 42 v1) (rSf σ 0 s1)) else ((mX9_nowMany v1 (rSf σ 0 s1)).bind fun r2 => mX9_octet_b46 v1 v2 v3 v2 (0 : Int32) r2.1 r2.2)) else some ((0 : Int32), (rSf σ 0 s1)))
set_option maxHeartbeats 1000000 in
theorem rmX9_octet_b14 {X : GX} {p : Program} {l : Launch} {e : Env} {s : State} {m : MethodId} {args : Array Value} {below : List Frame} {meth : Method} {c : Code} {f : AH} {n : Nat} {r : Int32 × RS9} {v1 : Int32} {v2 : Int32} {v3 : Int32} {s1 : Int32} {σ : RS9} (C : CC X p l (RM 2 0 0) s m args meth c RX9 cX9_octet 4 (some .int)) (h : mX9_octet_b14 v1 v2 v3 s1 σ = some r) : AW X p l e (RM 2 0 0) s m args below meth c 4 (ZM X below args s 0 0 (QMi f n r)) (rHm f σ) n 0 0 14 [some (.ref 181), some (.int v1), some (.int v2), some (.int v3)] [.int s1, .ref 181] := by
  have h : (if s1 ≤ (0 : Int32) then (if v3 = (0 : Int32) then rCk (rIn v1 (rLen 42)) (mX9_octet_b46 v1 v2 v3 v2 (0 : Int32) (rGa σ 42 v1) (rSf σ 0 s1)) else ((mX9_nowMany v1 (rSf σ 0 s1)).bind fun r2 => mX9_octet_b46 v1 v2 v3 v2 (0 : Int32) r2.1 r2.2)) else some ((0 : Int32), (rSf σ 0 s1))) = some r := h
  refine am_put C gf_X9_138 nf9_0 rfl rfl dX9_octet_14 ?_
  refine aw_ald_n C dX9_octet_17 rfl ?_
  refine aw_get C (v := .int s1) gf_X9_138 (hm_M f (rSf σ 0 s1)) rfl dX9_octet_18 ?_
  refine aw_if_le C 26 dX9_octet_21 (by decide) (fun q => ?_) (fun q => ?_)
  · rw [if_pos q] at h
    refine aw_iload_n C dX9_octet_26 rfl ?_
    refine aw_iconst C 0 dX9_octet_27 ki_0 ?_
    refine aw_iload_n C dX9_octet_28 rfl ?_
    refine aw_if_eq C 40 dX9_octet_29 (by decide) (fun q => ?_) (fun q => ?_)
    · rw [if_pos q] at h
      refine aw_ald_n C dX9_octet_40 rfl ?_
      refine aw_get C (v := .ref (rAid 42)) gf_X9_105 (hm_M f (rSf σ 0 s1)) rfl dX9_octet_41 ?_
      refine aw_iload_n C dX9_octet_44 rfl ?_
      obtain ⟨hb1, h⟩ := ck_some h
      refine am_iald C (rGa σ 42 v1) rfl (inb_vp hb1) rfl dX9_octet_45 ?_
      refine aw_fl [some (.ref 181), some (.int v1), some (.int v2), some (.int v3)] ⟨rfl, ⟨rfl, ⟨rfl, ⟨rfl, trivial⟩⟩⟩⟩ ?_
      exact rmX9_octet_b46 C h
    · rw [if_neg q] at h
      refine aw_ald_n C dX9_octet_32 rfl ?_
      refine aw_iload_n C dX9_octet_33 rfl ?_
      obtain ⟨r2, h2, h⟩ := Option.bind_eq_some_iff.mp h
      refine aw_callV C (ci := 9) (b := 181) [.int v1] mv_X9_313 rfl rfl (hm_M f (rSf σ 0 s1)) (rmX9_nowMany h2) rfl dX9_octet_34 (Nat.le_of_ble_eq_true rfl) (Nat.le_of_ble_eq_true rfl) rfl (Nat.le_of_ble_eq_true rfl) (Nat.le_of_ble_eq_true rfl) (Nat.le_of_ble_eq_true rfl) (fun v9 f9 n9 hh => ?_)
      obtain ⟨rfl, rfl, rfl⟩ := hh
      refine aw_goto C 46 dX9_octet_37 (by decide) ?_
      refine aw_fl [some (.ref 181), some (.int v1), some (.int v2), some (.int v3)] ⟨rfl, ⟨rfl, ⟨rfl, ⟨rfl, trivial⟩⟩⟩⟩ ?_
      exact rmX9_octet_b46 C h
  · rw [if_neg q] at h
    refine aw_iconst C 0 dX9_octet_24 ki_0 ?_
    cases h
    exact aw_iret C rfl rfl dX9_octet_25 (Nat.le_refl _) (Nat.le_refl _) ⟨rfl, rfl, rfl⟩
def mX9_octet (v1 : Int32) (v2 : Int32) (v3 : Int32) (σ : RS9) : Option (Int32 × RS9) := ((mX9_isPieceThere v1 σ).bind fun r1 => (if r1.1 = (0 : Int32) then mX9_octet_b14 v1 v2 v3 (1 : Int32) r1.2 else mX9_octet_b14 v1 v2 v3 (0 : Int32) r1.2))
set_option maxHeartbeats 1000000 in
theorem rmX9_octet {X : GX} {l : Launch} {f : AH} {n : Nat} {r : Int32 × RS9} {v1 : Int32} {v2 : Int32} {v3 : Int32} {σ : RS9} (h : mX9_octet v1 v2 v3 σ = some r) : AM X l yX9_octet cX9_octet 4 (some .int) 2 0 0 [.ref 181, .int v1, .int v2, .int v3] (rHm f σ) n (QMi f n r) := by
  have h : ((mX9_isPieceThere v1 σ).bind fun r1 => (if r1.1 = (0 : Int32) then mX9_octet_b14 v1 v2 v3 (1 : Int32) r1.2 else mX9_octet_b14 v1 v2 v3 (0 : Int32) r1.2)) = some r := h
  refine AM.of (by decide +kernel) rfl (Nat.le_of_ble_eq_true rfl) (fun p e s m args below meth c C _ => ?_)
  refine aw_nl [some (.ref 181), some (.int v1), some (.int v2), some (.int v3)] rfl ?_
  refine aw_ald_n C dX9_octet_0 rfl ?_
  refine aw_ald_n C dX9_octet_1 rfl ?_
  refine aw_iload_n C dX9_octet_2 rfl ?_
  obtain ⟨r1, h1, h⟩ := Option.bind_eq_some_iff.mp h
  refine aw_callV C (ci := 9) (b := 181) [.int v1] mv_X9_293 rfl rfl (hm_M f σ) (rmX9_isPieceThere h1) rfl dX9_octet_3 (Nat.le_of_ble_eq_true rfl) (Nat.le_of_ble_eq_true rfl) rfl (Nat.le_of_ble_eq_true rfl) (Nat.le_of_ble_eq_true rfl) (Nat.le_of_ble_eq_true rfl) (fun v9 f9 n9 hh => ?_)
  obtain ⟨rfl, rfl, rfl⟩ := hh
  refine aw_if_eq C 13 dX9_octet_6 (by decide) (fun q => ?_) (fun q => ?_)
  · rw [if_pos q] at h
    refine aw_iconst C 1 dX9_octet_13 ki_1 ?_
    refine aw_fl [some (.ref 181), some (.int v1), some (.int v2), some (.int v3)] ⟨rfl, ⟨rfl, ⟨rfl, ⟨rfl, trivial⟩⟩⟩⟩ ?_
    exact rmX9_octet_b14 C h
  · rw [if_neg q] at h
    refine aw_iconst C 0 dX9_octet_9 ki_0 ?_
    refine aw_goto C 14 dX9_octet_10 (by decide) ?_
    refine aw_fl [some (.ref 181), some (.int v1), some (.int v2), some (.int v3)] ⟨rfl, ⟨rfl, ⟨rfl, ⟨rfl, trivial⟩⟩⟩⟩ ?_
    exact rmX9_octet_b14 C h
def mX9_origin_b59 (s0 : Int32) (σ : RS9) : Option (Int32 × RS9) := some (s0, σ)
set_option maxHeartbeats 1000000 in
theorem rmX9_origin_b59 {X : GX} {p : Program} {l : Launch} {e : Env} {s : State} {m : MethodId} {args : Array Value} {below : List Frame} {meth : Method} {c : Code} {f : AH} {n : Nat} {r : Int32 × RS9} {s0 : Int32} {σ : RS9} (C : CC X p l (RM 2 0 0) s m args meth c RX9 cX9_origin 3 (some .int)) (h : mX9_origin_b59 s0 σ = some r) : AW X p l e (RM 2 0 0) s m args below meth c 3 (ZM X below args s 0 0 (QMi f n r)) (rHm f σ) n 0 0 59 [none, none, none] [.int s0] := by
  have h : some (s0, σ) = some r := h
  cases h
  exact aw_iret C rfl rfl dX9_origin_59 (Nat.le_refl _) (Nat.le_refl _) ⟨rfl, rfl, rfl⟩
def mX9_origin_b14 (v1 : Int32) (v2 : Int32) (s1 : Int32) (σ : RS9) : Option (Int32 × RS9) := (if s1 ≤ (0 : Int32) then rCk (rIn v1 (rLen 42)) (((mX9_isIn v2 (0 : Int32) ((rGa σ 42 v1) - (1 : Int32)) (rSf σ 0 s1)).bind fun r2 => (if r2.1 = (0 : Int32) then mX9_origin_b59 (-1 : Int32) r2.2 else rCk (rIn v1 (rLen 41)) (rCk (rIn ((rGa r2.2 41 v1) + v2) (rLen 44)) (mX9_origin_b59 (rGa r2.2 44 ((rGa r2.2 41 v1) + v2)) r2.2))))) else some ((0 : Int32), (rSf σ 0 s1)))
set_option maxHeartbeats 1000000 in
theorem rmX9_origin_b14 {X : GX} {p : Program} {l : Launch} {e : Env} {s : State} {m : MethodId} {args : Array Value} {below : List Frame} {meth : Method} {c : Code} {f : AH} {n : Nat} {r : Int32 × RS9} {v1 : Int32} {v2 : Int32} {s1 : Int32} {σ : RS9} (C : CC X p l (RM 2 0 0) s m args meth c RX9 cX9_origin 3 (some .int)) (h : mX9_origin_b14 v1 v2 s1 σ = some r) : AW X p l e (RM 2 0 0) s m args below meth c 3 (ZM X below args s 0 0 (QMi f n r)) (rHm f σ) n 0 0 14 [some (.ref 181), some (.int v1), some (.int v2)] [.int s1, .ref 181] := by
  have h : (if s1 ≤ (0 : Int32) then rCk (rIn v1 (rLen 42)) (((mX9_isIn v2 (0 : Int32) ((rGa σ 42 v1) - (1 : Int32)) (rSf σ 0 s1)).bind fun r2 => (if r2.1 = (0 : Int32) then mX9_origin_b59 (-1 : Int32) r2.2 else rCk (rIn v1 (rLen 41)) (rCk (rIn ((rGa r2.2 41 v1) + v2) (rLen 44)) (mX9_origin_b59 (rGa r2.2 44 ((rGa r2.2 41 v1) + v2)) r2.2))))) else some ((0 : Int32), (rSf σ 0 s1))) = some r := h
  refine am_put C gf_X9_138 nf9_0 rfl rfl dX9_origin_14 ?_
  refine aw_ald_n C dX9_origin_17 rfl ?_
  refine aw_get C (v := .int s1) gf_X9_138 (hm_M f (rSf σ 0 s1)) rfl dX9_origin_18 ?_
  refine aw_if_le C 26 dX9_origin_21 (by decide) (fun q => ?_) (fun q => ?_)
  · rw [if_pos q] at h
    refine aw_iload_n C dX9_origin_26 rfl ?_
    refine aw_iconst C 0 dX9_origin_27 ki_0 ?_
    refine aw_ald_n C dX9_origin_28 rfl ?_
    refine aw_get C (v := .ref (rAid 42)) gf_X9_105 (hm_M f (rSf σ 0 s1)) rfl dX9_origin_29 ?_
    refine aw_iload_n C dX9_origin_32 rfl ?_
    obtain ⟨hb1, h⟩ := ck_some h
    refine am_iald C (rGa σ 42 v1) rfl (inb_vp hb1) rfl dX9_origin_33 ?_
    refine aw_iconst C 1 dX9_origin_34 ki_1 ?_
    refine aw_isub C dX9_origin_35 ?_
    obtain ⟨r2, h2, h⟩ := Option.bind_eq_some_iff.mp h
    refine aw_callS C [.int v2, .int (0 : Int32), .int ((rGa σ 42 v1) - (1 : Int32))] ms_X9_141 (rmX9_isIn h2) rfl dX9_origin_36 (Nat.le_of_ble_eq_true rfl) (Nat.le_of_ble_eq_true rfl) rfl (Nat.le_of_ble_eq_true rfl) (Nat.le_of_ble_eq_true rfl) (Nat.le_of_ble_eq_true rfl) (fun v9 f9 n9 hh => ?_)
    obtain ⟨rfl, rfl, rfl⟩ := hh
    refine aw_if_eq C 58 dX9_origin_39 (by decide) (fun q => ?_) (fun q => ?_)
    · rw [if_pos q] at h
      refine aw_iconst C (-1) dX9_origin_58 ki_m1 ?_
      refine aw_fl [none, none, none] trivial ?_
      exact rmX9_origin_b59 C h
    · rw [if_neg q] at h
      refine aw_ald_n C dX9_origin_42 rfl ?_
      refine aw_get C (v := .ref (rAid 44)) gf_X9_111 (hm_M f r2.2) rfl dX9_origin_43 ?_
      refine aw_ald_n C dX9_origin_46 rfl ?_
      refine aw_get C (v := .ref (rAid 41)) gf_X9_102 (hm_M f r2.2) rfl dX9_origin_47 ?_
      refine aw_iload_n C dX9_origin_50 rfl ?_
      obtain ⟨hb3, h⟩ := ck_some h
      refine am_iald C (rGa r2.2 41 v1) rfl (inb_vp hb3) rfl dX9_origin_51 ?_
      refine aw_iload_n C dX9_origin_52 rfl ?_
      refine aw_iadd C dX9_origin_53 ?_
      obtain ⟨hb4, h⟩ := ck_some h
      refine am_iald C (rGa r2.2 44 ((rGa r2.2 41 v1) + v2)) rfl (inb_vp hb4) rfl dX9_origin_54 ?_
      refine aw_goto C 59 dX9_origin_55 (by decide) ?_
      refine aw_fl [none, none, none] trivial ?_
      exact rmX9_origin_b59 C h
  · rw [if_neg q] at h
    refine aw_iconst C 0 dX9_origin_24 ki_0 ?_
    cases h
    exact aw_iret C rfl rfl dX9_origin_25 (Nat.le_refl _) (Nat.le_refl _) ⟨rfl, rfl, rfl⟩
def mX9_origin (v1 : Int32) (v2 : Int32) (σ : RS9) : Option (Int32 × RS9) := ((mX9_isPieceThere v1 σ).bind fun r1 => (if r1.1 = (0 : Int32) then mX9_origin_b14 v1 v2 (1 : Int32) r1.2 else mX9_origin_b14 v1 v2 (0 : Int32) r1.2))
set_option maxHeartbeats 1000000 in
theorem rmX9_origin {X : GX} {l : Launch} {f : AH} {n : Nat} {r : Int32 × RS9} {v1 : Int32} {v2 : Int32} {σ : RS9} (h : mX9_origin v1 v2 σ = some r) : AM X l yX9_origin cX9_origin 3 (some .int) 2 0 0 [.ref 181, .int v1, .int v2] (rHm f σ) n (QMi f n r) := by
  have h : ((mX9_isPieceThere v1 σ).bind fun r1 => (if r1.1 = (0 : Int32) then mX9_origin_b14 v1 v2 (1 : Int32) r1.2 else mX9_origin_b14 v1 v2 (0 : Int32) r1.2)) = some r := h
  refine AM.of (by decide +kernel) rfl (Nat.le_of_ble_eq_true rfl) (fun p e s m args below meth c C _ => ?_)
  refine aw_nl [some (.ref 181), some (.int v1), some (.int v2)] rfl ?_
  refine aw_ald_n C dX9_origin_0 rfl ?_
  refine aw_ald_n C dX9_origin_1 rfl ?_
  refine aw_iload_n C dX9_origin_2 rfl ?_
  obtain ⟨r1, h1, h⟩ := Option.bind_eq_some_iff.mp h
  refine aw_callV C (ci := 9) (b := 181) [.int v1] mv_X9_293 rfl rfl (hm_M f σ) (rmX9_isPieceThere h1) rfl dX9_origin_3 (Nat.le_of_ble_eq_true rfl) (Nat.le_of_ble_eq_true rfl) rfl (Nat.le_of_ble_eq_true rfl) (Nat.le_of_ble_eq_true rfl) (Nat.le_of_ble_eq_true rfl) (fun v9 f9 n9 hh => ?_)
  obtain ⟨rfl, rfl, rfl⟩ := hh
  refine aw_if_eq C 13 dX9_origin_6 (by decide) (fun q => ?_) (fun q => ?_)
  · rw [if_pos q] at h
    refine aw_iconst C 1 dX9_origin_13 ki_1 ?_
    refine aw_fl [some (.ref 181), some (.int v1), some (.int v2)] ⟨rfl, ⟨rfl, ⟨rfl, trivial⟩⟩⟩ ?_
    exact rmX9_origin_b14 C h
  · rw [if_neg q] at h
    refine aw_iconst C 0 dX9_origin_9 ki_0 ?_
    refine aw_goto C 14 dX9_origin_10 (by decide) ?_
    refine aw_fl [some (.ref 181), some (.int v1), some (.int v2)] ⟨rfl, ⟨rfl, ⟨rfl, trivial⟩⟩⟩ ?_
    exact rmX9_origin_b14 C h
def mX9_key_b69 (s0 : Int32) (σ : RS9) : Option (Int32 × RS9) := some (s0, σ)
set_option maxHeartbeats 1000000 in
theorem rmX9_key_b69 {X : GX} {p : Program} {l : Launch} {e : Env} {s : State} {m : MethodId} {args : Array Value} {below : List Frame} {meth : Method} {c : Code} {f : AH} {n : Nat} {r : Int32 × RS9} {s0 : Int32} {σ : RS9} (C : CC X p l (RM 2 0 0) s m args meth c RX9 cX9_key 3 (some .int)) (h : mX9_key_b69 s0 σ = some r) : AW X p l e (RM 2 0 0) s m args below meth c 3 (ZM X below args s 0 0 (QMi f n r)) (rHm f σ) n 0 0 69 [none, none, none] [.int s0] := by
  have h : some (s0, σ) = some r := h
  cases h
  exact aw_iret C rfl rfl dX9_key_69 (Nat.le_refl _) (Nat.le_refl _) ⟨rfl, rfl, rfl⟩
def mX9_key_b27 (v1 : Int32) (v2 : Int32) (s1 : Int32) (σ : RS9) : Option (Int32 × RS9) := (if s1 ≤ (0 : Int32) then rCk (rIn (1 : Int32) (rLen 1)) ((if (rGa σ 1 (1 : Int32)) = (0 : Int32) then (if v2 = (0 : Int32) then rCk (rIn v1 (rLen 39)) (mX9_key_b69 (rGa σ 39 v1) (rSf σ 0 s1)) else rCk (rIn v1 (rLen 40)) (mX9_key_b69 (rGa σ 40 v1) (rSf σ 0 s1))) else some ((-1 : Int32), (rSf σ 0 s1)))) else some ((0 : Int32), (rSf σ 0 s1)))
set_option maxHeartbeats 1000000 in
theorem rmX9_key_b27 {X : GX} {p : Program} {l : Launch} {e : Env} {s : State} {m : MethodId} {args : Array Value} {below : List Frame} {meth : Method} {c : Code} {f : AH} {n : Nat} {r : Int32 × RS9} {v1 : Int32} {v2 : Int32} {s1 : Int32} {σ : RS9} (C : CC X p l (RM 2 0 0) s m args meth c RX9 cX9_key 3 (some .int)) (h : mX9_key_b27 v1 v2 s1 σ = some r) : AW X p l e (RM 2 0 0) s m args below meth c 3 (ZM X below args s 0 0 (QMi f n r)) (rHm f σ) n 0 0 27 [some (.ref 181), some (.int v1), some (.int v2)] [.int s1, .ref 181] := by
  have h : (if s1 ≤ (0 : Int32) then rCk (rIn (1 : Int32) (rLen 1)) ((if (rGa σ 1 (1 : Int32)) = (0 : Int32) then (if v2 = (0 : Int32) then rCk (rIn v1 (rLen 39)) (mX9_key_b69 (rGa σ 39 v1) (rSf σ 0 s1)) else rCk (rIn v1 (rLen 40)) (mX9_key_b69 (rGa σ 40 v1) (rSf σ 0 s1))) else some ((-1 : Int32), (rSf σ 0 s1)))) else some ((0 : Int32), (rSf σ 0 s1))) = some r := h
  refine am_put C gf_X9_138 nf9_0 rfl rfl dX9_key_27 ?_
  refine aw_ald_n C dX9_key_30 rfl ?_
  refine aw_get C (v := .int s1) gf_X9_138 (hm_M f (rSf σ 0 s1)) rfl dX9_key_31 ?_
  refine aw_if_le C 39 dX9_key_34 (by decide) (fun q => ?_) (fun q => ?_)
  · rw [if_pos q] at h
    refine aw_ald_n C dX9_key_39 rfl ?_
    refine aw_get C (v := .ref (rAid 1)) gf_X9_7 (hm_M f (rSf σ 0 s1)) rfl dX9_key_40 ?_
    refine aw_iconst C 1 dX9_key_43 ki_1 ?_
    obtain ⟨hb1, h⟩ := ck_some h
    refine am_iald C (rGa σ 1 (1 : Int32)) rfl (inb_vp hb1) rfl dX9_key_44 ?_
    refine aw_if_eq C 50 dX9_key_45 (by decide) (fun q => ?_) (fun q => ?_)
    · rw [if_pos q] at h
      refine aw_iload_n C dX9_key_50 rfl ?_
      refine aw_if_ne C 63 dX9_key_51 (by decide) (fun q => ?_) (fun q => ?_)
      · rw [if_neg q] at h
        refine aw_ald_n C dX9_key_63 rfl ?_
        refine aw_get C (v := .ref (rAid 40)) gf_X9_99 (hm_M f (rSf σ 0 s1)) rfl dX9_key_64 ?_
        refine aw_iload_n C dX9_key_67 rfl ?_
        obtain ⟨hb2, h⟩ := ck_some h
        refine am_iald C (rGa σ 40 v1) rfl (inb_vp hb2) rfl dX9_key_68 ?_
        refine aw_fl [none, none, none] trivial ?_
        exact rmX9_key_b69 C h
      · rw [if_pos q] at h
        refine aw_ald_n C dX9_key_54 rfl ?_
        refine aw_get C (v := .ref (rAid 39)) gf_X9_96 (hm_M f (rSf σ 0 s1)) rfl dX9_key_55 ?_
        refine aw_iload_n C dX9_key_58 rfl ?_
        obtain ⟨hb3, h⟩ := ck_some h
        refine am_iald C (rGa σ 39 v1) rfl (inb_vp hb3) rfl dX9_key_59 ?_
        refine aw_goto C 69 dX9_key_60 (by decide) ?_
        refine aw_fl [none, none, none] trivial ?_
        exact rmX9_key_b69 C h
    · rw [if_neg q] at h
      refine aw_iconst C (-1) dX9_key_48 ki_m1 ?_
      cases h
      exact aw_iret C rfl rfl dX9_key_49 (Nat.le_refl _) (Nat.le_refl _) ⟨rfl, rfl, rfl⟩
  · rw [if_neg q] at h
    refine aw_iconst C 0 dX9_key_37 ki_0 ?_
    cases h
    exact aw_iret C rfl rfl dX9_key_38 (Nat.le_refl _) (Nat.le_refl _) ⟨rfl, rfl, rfl⟩
def mX9_key (v1 : Int32) (v2 : Int32) (σ : RS9) : Option (Int32 × RS9) := ((mX9_isPieceThere v1 σ).bind fun r1 => (if r1.1 = (0 : Int32) then mX9_key_b27 v1 v2 (1 : Int32) r1.2 else ((mX9_isIn v2 (0 : Int32) (1 : Int32) r1.2).bind fun r2 => (if r2.1 = (0 : Int32) then mX9_key_b27 v1 v2 (2 : Int32) r2.2 else mX9_key_b27 v1 v2 (0 : Int32) r2.2))))
set_option maxHeartbeats 1000000 in
theorem rmX9_key {X : GX} {l : Launch} {f : AH} {n : Nat} {r : Int32 × RS9} {v1 : Int32} {v2 : Int32} {σ : RS9} (h : mX9_key v1 v2 σ = some r) : AM X l yX9_key cX9_key 3 (some .int) 2 0 0 [.ref 181, .int v1, .int v2] (rHm f σ) n (QMi f n r) := by
  have h : ((mX9_isPieceThere v1 σ).bind fun r1 => (if r1.1 = (0 : Int32) then mX9_key_b27 v1 v2 (1 : Int32) r1.2 else ((mX9_isIn v2 (0 : Int32) (1 : Int32) r1.2).bind fun r2 => (if r2.1 = (0 : Int32) then mX9_key_b27 v1 v2 (2 : Int32) r2.2 else mX9_key_b27 v1 v2 (0 : Int32) r2.2)))) = some r := h
  refine AM.of (by decide +kernel) rfl (Nat.le_of_ble_eq_true rfl) (fun p e s m args below meth c C _ => ?_)
  refine aw_nl [some (.ref 181), some (.int v1), some (.int v2)] rfl ?_
  refine aw_ald_n C dX9_key_0 rfl ?_
  refine aw_ald_n C dX9_key_1 rfl ?_
  refine aw_iload_n C dX9_key_2 rfl ?_
  obtain ⟨r1, h1, h⟩ := Option.bind_eq_some_iff.mp h
  refine aw_callV C (ci := 9) (b := 181) [.int v1] mv_X9_293 rfl rfl (hm_M f σ) (rmX9_isPieceThere h1) rfl dX9_key_3 (Nat.le_of_ble_eq_true rfl) (Nat.le_of_ble_eq_true rfl) rfl (Nat.le_of_ble_eq_true rfl) (Nat.le_of_ble_eq_true rfl) (Nat.le_of_ble_eq_true rfl) (fun v9 f9 n9 hh => ?_)
  obtain ⟨rfl, rfl, rfl⟩ := hh
  refine aw_if_ne C 13 dX9_key_6 (by decide) (fun q => ?_) (fun q => ?_)
  · rw [if_neg q] at h
    refine aw_iload_n C dX9_key_13 rfl ?_
    refine aw_iconst C 0 dX9_key_14 ki_0 ?_
    refine aw_iconst C 1 dX9_key_15 ki_1 ?_
    obtain ⟨r2, h2, h⟩ := Option.bind_eq_some_iff.mp h
    refine aw_callS C [.int v2, .int (0 : Int32), .int (1 : Int32)] ms_X9_141 (rmX9_isIn h2) rfl dX9_key_16 (Nat.le_of_ble_eq_true rfl) (Nat.le_of_ble_eq_true rfl) rfl (Nat.le_of_ble_eq_true rfl) (Nat.le_of_ble_eq_true rfl) (Nat.le_of_ble_eq_true rfl) (fun v9 f9 n9 hh => ?_)
    obtain ⟨rfl, rfl, rfl⟩ := hh
    refine aw_if_ne C 26 dX9_key_19 (by decide) (fun q => ?_) (fun q => ?_)
    · rw [if_neg q] at h
      refine aw_iconst C 0 dX9_key_26 ki_0 ?_
      refine aw_fl [some (.ref 181), some (.int v1), some (.int v2)] ⟨rfl, ⟨rfl, ⟨rfl, trivial⟩⟩⟩ ?_
      exact rmX9_key_b27 C h
    · rw [if_pos q] at h
      refine aw_iconst C 2 dX9_key_22 ki_2 ?_
      refine aw_goto C 27 dX9_key_23 (by decide) ?_
      refine aw_fl [some (.ref 181), some (.int v1), some (.int v2)] ⟨rfl, ⟨rfl, ⟨rfl, trivial⟩⟩⟩ ?_
      exact rmX9_key_b27 C h
  · rw [if_pos q] at h
    refine aw_iconst C 1 dX9_key_9 ki_1 ?_
    refine aw_goto C 27 dX9_key_10 (by decide) ?_
    refine aw_fl [some (.ref 181), some (.int v1), some (.int v2)] ⟨rfl, ⟨rfl, ⟨rfl, trivial⟩⟩⟩ ?_
    exact rmX9_key_b27 C h
def mX9_holder_l7 : Nat → Int32 → Int32 → RS9 → Option (Int32 × RS9)
  | 0, _, _, _ => none
  | d + 1, v1, v2, σ => (if (σ.1 33) ≤ v2 then some ((-1 : Int32), σ) else rCk (rIn v2 (rLen 34)) (rCk (rIn v2 (rLen 35)) (((mX9_isIn v1 (rGa σ 34 v2) ((rGa σ 35 v2) - (1 : Int32)) σ).bind fun r3 => (if r3.1 = (0 : Int32) then mX9_holder_l7 d v1 (v2 + (1 : Int32)) r3.2 else some (v2, r3.2))))))
set_option maxHeartbeats 1000000 in
theorem rmX9_holder_l7 {X : GX} {p : Program} {l : Launch} {e : Env} {s : State} {m : MethodId} {args : Array Value} {below : List Frame} {meth : Method} {c : Code} {f : AH} {n : Nat} {r : Int32 × RS9} (C : CC X p l (RM 1 0 0) s m args meth c RX9 cX9_holder 3 (some .int)) : ∀ (d : Nat) (v1 : Int32) (v2 : Int32) (σ : RS9) (_ : mX9_holder_l7 d v1 v2 σ = some r), AW X p l e (RM 1 0 0) s m args below meth c 3 (ZM X below args s 0 0 (QMi f n r)) (rHm f σ) n 0 0 7 [some (.ref 181), some (.int v1), some (.int v2)] [] := by
  intro d
  induction d with
  | zero =>
    intro v1 v2 σ h
    exact nomatch (show (none : Option (Int32 × RS9)) = some r from h)
  | succ d ih =>
    intro v1 v2 σ h
    have h : (if (σ.1 33) ≤ v2 then some ((-1 : Int32), σ) else rCk (rIn v2 (rLen 34)) (rCk (rIn v2 (rLen 35)) (((mX9_isIn v1 (rGa σ 34 v2) ((rGa σ 35 v2) - (1 : Int32)) σ).bind fun r3 => (if r3.1 = (0 : Int32) then mX9_holder_l7 d v1 (v2 + (1 : Int32)) r3.2 else some (v2, r3.2)))))) = some r := h
    refine aw_iload_n C dX9_holder_7 rfl ?_
    refine aw_ald_n C dX9_holder_8 rfl ?_
    refine aw_get C (v := .int (σ.1 33)) gf_X9_204 (hm_M f σ) rfl dX9_holder_9 ?_
    refine aw_icmp_ge C 44 dX9_holder_12 (by decide) (fun q => ?_) (fun q => ?_)
    · rw [if_pos q] at h
      refine aw_iconst C (-1) dX9_holder_44 ki_m1 ?_
      cases h
      exact aw_iret C rfl rfl dX9_holder_45 (Nat.le_refl _) (Nat.le_refl _) ⟨rfl, rfl, rfl⟩
    · rw [if_neg q] at h
      refine aw_iload_n C dX9_holder_15 rfl ?_
      refine aw_ald_n C dX9_holder_16 rfl ?_
      refine aw_get C (v := .ref (rAid 34)) gf_X9_81 (hm_M f σ) rfl dX9_holder_17 ?_
      refine aw_iload_n C dX9_holder_20 rfl ?_
      obtain ⟨hb1, h⟩ := ck_some h
      refine am_iald C (rGa σ 34 v2) rfl (inb_vp hb1) rfl dX9_holder_21 ?_
      refine aw_ald_n C dX9_holder_22 rfl ?_
      refine aw_get C (v := .ref (rAid 35)) gf_X9_84 (hm_M f σ) rfl dX9_holder_23 ?_
      refine aw_iload_n C dX9_holder_26 rfl ?_
      obtain ⟨hb2, h⟩ := ck_some h
      refine am_iald C (rGa σ 35 v2) rfl (inb_vp hb2) rfl dX9_holder_27 ?_
      refine aw_iconst C 1 dX9_holder_28 ki_1 ?_
      refine aw_isub C dX9_holder_29 ?_
      obtain ⟨r3, h3, h⟩ := Option.bind_eq_some_iff.mp h
      refine aw_callS C [.int v1, .int (rGa σ 34 v2), .int ((rGa σ 35 v2) - (1 : Int32))] ms_X9_141 (rmX9_isIn h3) rfl dX9_holder_30 (Nat.le_of_ble_eq_true rfl) (Nat.le_of_ble_eq_true rfl) rfl (Nat.le_of_ble_eq_true rfl) (Nat.le_of_ble_eq_true rfl) (Nat.le_of_ble_eq_true rfl) (fun v9 f9 n9 hh => ?_)
      obtain ⟨rfl, rfl, rfl⟩ := hh
      refine aw_if_eq C 38 dX9_holder_33 (by decide) (fun q => ?_) (fun q => ?_)
      · rw [if_pos q] at h
        refine aw_iinc C (v2 + (1 : Int32)) dX9_holder_38 rfl (by rw [ki_1]) (by decide) rfl ?_
        refine aw_nl [some (.ref 181), some (.int v1), some (.int (v2 + (1 : Int32)))] rfl ?_
        refine aw_goto C 7 dX9_holder_41 (by decide) ?_
        refine aw_fl [some (.ref 181), some (.int v1), some (.int (v2 + (1 : Int32)))] ⟨rfl, ⟨rfl, ⟨rfl, trivial⟩⟩⟩ ?_
        exact ih v1 (v2 + (1 : Int32)) r3.2 h
      · rw [if_neg q] at h
        refine aw_iload_n C dX9_holder_36 rfl ?_
        cases h
        exact aw_iret C rfl rfl dX9_holder_37 (Nat.le_refl _) (Nat.le_refl _) ⟨rfl, rfl, rfl⟩
def mX9_holder (v1 : Int32) (σ : RS9) : Option (Int32 × RS9) := mX9_holder_l7 rFU v1 (0 : Int32) (rSf σ 0 (0 : Int32))
set_option maxHeartbeats 1000000 in
theorem rmX9_holder {X : GX} {l : Launch} {f : AH} {n : Nat} {r : Int32 × RS9} {v1 : Int32} {σ : RS9} (h : mX9_holder v1 σ = some r) : AM X l yX9_holder cX9_holder 3 (some .int) 1 0 0 [.ref 181, .int v1] (rHm f σ) n (QMi f n r) := by
  have h : mX9_holder_l7 rFU v1 (0 : Int32) (rSf σ 0 (0 : Int32)) = some r := h
  refine AM.of (by decide +kernel) rfl (Nat.le_of_ble_eq_true rfl) (fun p e s m args below meth c C _ => ?_)
  refine aw_nl [some (.ref 181), some (.int v1), none] rfl ?_
  refine aw_ald_n C dX9_holder_0 rfl ?_
  refine aw_iconst C 0 dX9_holder_1 ki_0 ?_
  refine am_put C gf_X9_138 nf9_0 rfl rfl dX9_holder_2 ?_
  refine aw_iconst C 0 dX9_holder_5 ki_0 ?_
  refine aw_istore_n C dX9_holder_6 (by decide) rfl ?_
  refine aw_nl [some (.ref 181), some (.int v1), some (.int (0 : Int32))] rfl ?_
  refine aw_fl [some (.ref 181), some (.int v1), some (.int (0 : Int32))] ⟨rfl, ⟨rfl, ⟨rfl, trivial⟩⟩⟩ ?_
  exact rmX9_holder_l7 C rFU v1 (0 : Int32) (rSf σ 0 (0 : Int32)) h
def mX9_like_b64 (rec31 : Int32 → Int32 → Int32 → Int32 → RS9 → Option (Int32 × RS9)) (v1 : Int32) (v2 : Int32) (v3 : Int32) (v4 : Int32) (σ : RS9) : Option (Int32 × RS9) := rec31 v1 v2 v3 (v4 + (1 : Int32)) σ
set_option maxHeartbeats 1000000 in
theorem rmX9_like_b64 {X : GX} {p : Program} {l : Launch} {e : Env} {s : State} {m : MethodId} {args : Array Value} {below : List Frame} {meth : Method} {c : Code} {f : AH} {n : Nat} {r : Int32 × RS9} {rec31 : Int32 → Int32 → Int32 → Int32 → RS9 → Option (Int32 × RS9)} {v1 : Int32} {v2 : Int32} {v3 : Int32} {v4 : Int32} {σ : RS9} (C : CC X p l (RM 2 0 0) s m args meth c RX9 cX9_like 5 (some .int)) (Hr31 : ∀ (v1 : Int32) (v2 : Int32) (v3 : Int32) (v4 : Int32) (σ : RS9), rec31 v1 v2 v3 v4 σ = some r → AW X p l e (RM 2 0 0) s m args below meth c 5 (ZM X below args s 0 0 (QMi f n r)) (rHm f σ) n 0 0 31 [some (.ref 181), some (.int v1), some (.int v2), some (.int v3), some (.int v4)] []) (h : mX9_like_b64 rec31 v1 v2 v3 v4 σ = some r) : AW X p l e (RM 2 0 0) s m args below meth c 5 (ZM X below args s 0 0 (QMi f n r)) (rHm f σ) n 0 0 64 [some (.ref 181), some (.int v1), some (.int v2), some (.int v3), some (.int v4)] [] := by
  have h : rec31 v1 v2 v3 (v4 + (1 : Int32)) σ = some r := h
  refine aw_iinc C (v4 + (1 : Int32)) dX9_like_64 rfl (by rw [ki_1]) (by decide) rfl ?_
  refine aw_nl [some (.ref 181), some (.int v1), some (.int v2), some (.int v3), some (.int (v4 + (1 : Int32)))] rfl ?_
  refine aw_goto C 31 dX9_like_67 (by decide) ?_
  refine aw_fl [some (.ref 181), some (.int v1), some (.int v2), some (.int v3), some (.int (v4 + (1 : Int32)))] ⟨rfl, ⟨rfl, ⟨rfl, ⟨rfl, ⟨rfl, trivial⟩⟩⟩⟩⟩ ?_
  exact Hr31 v1 v2 v3 (v4 + (1 : Int32)) σ h
def mX9_like_l31 : Nat → Int32 → Int32 → Int32 → Int32 → RS9 → Option (Int32 × RS9)
  | 0, _, _, _, _, _ => none
  | d + 1, v1, v2, v3, v4, σ => (if (σ.1 33) ≤ v4 then some ((-1 : Int32), σ) else ((mX9_areLike v1 v4 σ).bind fun r1 => (if r1.1 = (0 : Int32) then mX9_like_b64 (fun v1 v2 v3 v4 σ => mX9_like_l31 d v1 v2 v3 v4 σ) v1 v2 v3 v4 r1.2 else (if v3 = v2 then some (v4, r1.2) else mX9_like_b64 (fun v1 v2 v3 v4 σ => mX9_like_l31 d v1 v2 v3 v4 σ) v1 v2 (v3 + (1 : Int32)) v4 r1.2))))
set_option maxHeartbeats 1000000 in
theorem rmX9_like_l31 {X : GX} {p : Program} {l : Launch} {e : Env} {s : State} {m : MethodId} {args : Array Value} {below : List Frame} {meth : Method} {c : Code} {f : AH} {n : Nat} {r : Int32 × RS9} (C : CC X p l (RM 2 0 0) s m args meth c RX9 cX9_like 5 (some .int)) : ∀ (d : Nat) (v1 : Int32) (v2 : Int32) (v3 : Int32) (v4 : Int32) (σ : RS9) (_ : mX9_like_l31 d v1 v2 v3 v4 σ = some r), AW X p l e (RM 2 0 0) s m args below meth c 5 (ZM X below args s 0 0 (QMi f n r)) (rHm f σ) n 0 0 31 [some (.ref 181), some (.int v1), some (.int v2), some (.int v3), some (.int v4)] [] := by
  intro d
  induction d with
  | zero =>
    intro v1 v2 v3 v4 σ h
    exact nomatch (show (none : Option (Int32 × RS9)) = some r from h)
  | succ d ih =>
    intro v1 v2 v3 v4 σ h
    have h : (if (σ.1 33) ≤ v4 then some ((-1 : Int32), σ) else ((mX9_areLike v1 v4 σ).bind fun r1 => (if r1.1 = (0 : Int32) then mX9_like_b64 (fun v1 v2 v3 v4 σ => mX9_like_l31 d v1 v2 v3 v4 σ) v1 v2 v3 v4 r1.2 else (if v3 = v2 then some (v4, r1.2) else mX9_like_b64 (fun v1 v2 v3 v4 σ => mX9_like_l31 d v1 v2 v3 v4 σ) v1 v2 (v3 + (1 : Int32)) v4 r1.2)))) = some r := h
    refine aw_iload C dX9_like_31 rfl ?_
    refine aw_ald_n C dX9_like_33 rfl ?_
    refine aw_get C (v := .int (σ.1 33)) gf_X9_204 (hm_M f σ) rfl dX9_like_34 ?_
    refine aw_icmp_ge C 70 dX9_like_37 (by decide) (fun q => ?_) (fun q => ?_)
    · rw [if_pos q] at h
      refine aw_iconst C (-1) dX9_like_70 ki_m1 ?_
      cases h
      exact aw_iret C rfl rfl dX9_like_71 (Nat.le_refl _) (Nat.le_refl _) ⟨rfl, rfl, rfl⟩
    · rw [if_neg q] at h
      refine aw_ald_n C dX9_like_40 rfl ?_
      refine aw_iload_n C dX9_like_41 rfl ?_
      refine aw_iload C dX9_like_42 rfl ?_
      obtain ⟨r1, h1, h⟩ := Option.bind_eq_some_iff.mp h
      refine aw_callV C (ci := 9) (b := 181) [.int v1, .int v4] mv_X9_309 rfl rfl (hm_M f σ) (rmX9_areLike h1) rfl dX9_like_44 (Nat.le_of_ble_eq_true rfl) (Nat.le_of_ble_eq_true rfl) rfl (Nat.le_of_ble_eq_true rfl) (Nat.le_of_ble_eq_true rfl) (Nat.le_of_ble_eq_true rfl) (fun v9 f9 n9 hh => ?_)
      obtain ⟨rfl, rfl, rfl⟩ := hh
      refine aw_if_ne C 53 dX9_like_47 (by decide) (fun q => ?_) (fun q => ?_)
      · rw [if_neg q] at h
        refine aw_iload_n C dX9_like_53 rfl ?_
        refine aw_iload_n C dX9_like_54 rfl ?_
        refine aw_icmp_ne C 61 dX9_like_55 (by decide) (fun q => ?_) (fun q => ?_)
        · rw [if_neg q] at h
          refine aw_iinc C (v3 + (1 : Int32)) dX9_like_61 rfl (by rw [ki_1]) (by decide) rfl ?_
          refine aw_nl [some (.ref 181), some (.int v1), some (.int v2), some (.int (v3 + (1 : Int32))), some (.int v4)] rfl ?_
          refine aw_fl [some (.ref 181), some (.int v1), some (.int v2), some (.int (v3 + (1 : Int32))), some (.int v4)] ⟨rfl, ⟨rfl, ⟨rfl, ⟨rfl, ⟨rfl, trivial⟩⟩⟩⟩⟩ ?_
          exact rmX9_like_b64 C (fun v1 v2 v3 v4 σ h => ih v1 v2 v3 v4 σ h) h
        · rw [if_pos q] at h
          refine aw_iload C dX9_like_58 rfl ?_
          cases h
          exact aw_iret C rfl rfl dX9_like_60 (Nat.le_refl _) (Nat.le_refl _) ⟨rfl, rfl, rfl⟩
      · rw [if_pos q] at h
        refine aw_goto C 64 dX9_like_50 (by decide) ?_
        refine aw_fl [some (.ref 181), some (.int v1), some (.int v2), some (.int v3), some (.int v4)] ⟨rfl, ⟨rfl, ⟨rfl, ⟨rfl, ⟨rfl, trivial⟩⟩⟩⟩⟩ ?_
        exact rmX9_like_b64 C (fun v1 v2 v3 v4 σ h => ih v1 v2 v3 v4 σ h) h
def mX9_like_b14 (v1 : Int32) (v2 : Int32) (s1 : Int32) (σ : RS9) : Option (Int32 × RS9) := (if s1 ≤ (0 : Int32) then mX9_like_l31 rFU v1 v2 (0 : Int32) (0 : Int32) (rSf σ 0 s1) else some ((0 : Int32), (rSf σ 0 s1)))
set_option maxHeartbeats 1000000 in
theorem rmX9_like_b14 {X : GX} {p : Program} {l : Launch} {e : Env} {s : State} {m : MethodId} {args : Array Value} {below : List Frame} {meth : Method} {c : Code} {f : AH} {n : Nat} {r : Int32 × RS9} {v1 : Int32} {v2 : Int32} {s1 : Int32} {σ : RS9} (C : CC X p l (RM 2 0 0) s m args meth c RX9 cX9_like 5 (some .int)) (h : mX9_like_b14 v1 v2 s1 σ = some r) : AW X p l e (RM 2 0 0) s m args below meth c 5 (ZM X below args s 0 0 (QMi f n r)) (rHm f σ) n 0 0 14 [some (.ref 181), some (.int v1), some (.int v2), none, none] [.int s1, .ref 181] := by
  have h : (if s1 ≤ (0 : Int32) then mX9_like_l31 rFU v1 v2 (0 : Int32) (0 : Int32) (rSf σ 0 s1) else some ((0 : Int32), (rSf σ 0 s1))) = some r := h
  refine am_put C gf_X9_138 nf9_0 rfl rfl dX9_like_14 ?_
  refine aw_ald_n C dX9_like_17 rfl ?_
  refine aw_get C (v := .int s1) gf_X9_138 (hm_M f (rSf σ 0 s1)) rfl dX9_like_18 ?_
  refine aw_if_le C 26 dX9_like_21 (by decide) (fun q => ?_) (fun q => ?_)
  · rw [if_pos q] at h
    refine aw_iconst C 0 dX9_like_26 ki_0 ?_
    refine aw_istore_n C dX9_like_27 (by decide) rfl ?_
    refine aw_nl [some (.ref 181), some (.int v1), some (.int v2), some (.int (0 : Int32)), none] rfl ?_
    refine aw_iconst C 0 dX9_like_28 ki_0 ?_
    refine aw_istore C dX9_like_29 (by decide) rfl ?_
    refine aw_nl [some (.ref 181), some (.int v1), some (.int v2), some (.int (0 : Int32)), some (.int (0 : Int32))] rfl ?_
    refine aw_fl [some (.ref 181), some (.int v1), some (.int v2), some (.int (0 : Int32)), some (.int (0 : Int32))] ⟨rfl, ⟨rfl, ⟨rfl, ⟨rfl, ⟨rfl, trivial⟩⟩⟩⟩⟩ ?_
    exact rmX9_like_l31 C rFU v1 v2 (0 : Int32) (0 : Int32) (rSf σ 0 s1) h
  · rw [if_neg q] at h
    refine aw_iconst C 0 dX9_like_24 ki_0 ?_
    cases h
    exact aw_iret C rfl rfl dX9_like_25 (Nat.le_refl _) (Nat.le_refl _) ⟨rfl, rfl, rfl⟩
def mX9_like (v1 : Int32) (v2 : Int32) (σ : RS9) : Option (Int32 × RS9) := ((mX9_isPieceThere v1 σ).bind fun r1 => (if r1.1 = (0 : Int32) then mX9_like_b14 v1 v2 (1 : Int32) r1.2 else mX9_like_b14 v1 v2 (0 : Int32) r1.2))
set_option maxHeartbeats 1000000 in
theorem rmX9_like {X : GX} {l : Launch} {f : AH} {n : Nat} {r : Int32 × RS9} {v1 : Int32} {v2 : Int32} {σ : RS9} (h : mX9_like v1 v2 σ = some r) : AM X l yX9_like cX9_like 5 (some .int) 2 0 0 [.ref 181, .int v1, .int v2] (rHm f σ) n (QMi f n r) := by
  have h : ((mX9_isPieceThere v1 σ).bind fun r1 => (if r1.1 = (0 : Int32) then mX9_like_b14 v1 v2 (1 : Int32) r1.2 else mX9_like_b14 v1 v2 (0 : Int32) r1.2)) = some r := h
  refine AM.of (by decide +kernel) rfl (Nat.le_of_ble_eq_true rfl) (fun p e s m args below meth c C _ => ?_)
  refine aw_nl [some (.ref 181), some (.int v1), some (.int v2), none, none] rfl ?_
  refine aw_ald_n C dX9_like_0 rfl ?_
  refine aw_ald_n C dX9_like_1 rfl ?_
  refine aw_iload_n C dX9_like_2 rfl ?_
  obtain ⟨r1, h1, h⟩ := Option.bind_eq_some_iff.mp h
  refine aw_callV C (ci := 9) (b := 181) [.int v1] mv_X9_293 rfl rfl (hm_M f σ) (rmX9_isPieceThere h1) rfl dX9_like_3 (Nat.le_of_ble_eq_true rfl) (Nat.le_of_ble_eq_true rfl) rfl (Nat.le_of_ble_eq_true rfl) (Nat.le_of_ble_eq_true rfl) (Nat.le_of_ble_eq_true rfl) (fun v9 f9 n9 hh => ?_)
  obtain ⟨rfl, rfl, rfl⟩ := hh
  refine aw_if_eq C 13 dX9_like_6 (by decide) (fun q => ?_) (fun q => ?_)
  · rw [if_pos q] at h
    refine aw_iconst C 1 dX9_like_13 ki_1 ?_
    refine aw_fl [some (.ref 181), some (.int v1), some (.int v2), none, none] ⟨rfl, ⟨rfl, ⟨rfl, trivial⟩⟩⟩ ?_
    exact rmX9_like_b14 C h
  · rw [if_neg q] at h
    refine aw_iconst C 0 dX9_like_9 ki_0 ?_
    refine aw_goto C 14 dX9_like_10 (by decide) ?_
    refine aw_fl [some (.ref 181), some (.int v1), some (.int v2), none, none] ⟨rfl, ⟨rfl, ⟨rfl, trivial⟩⟩⟩ ?_
    exact rmX9_like_b14 C h
