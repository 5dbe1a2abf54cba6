def mX9_isLocked_b114 (rec13 : Int32 → Int32 → RS9 → Option (Int32 × RS9)) (v1 : Int32) (v2 : Int32) (v4 : Int32) (σ : RS9) : Option (Int32 × RS9) := (if v4 = (0 : Int32) then rec13 v1 (v2 + (1 : Int32)) σ else rCk (rNb (1 : Int32)) (some ((1 : Int32), σ)))
set_option maxHeartbeats 1000000 in
theorem rmX9_isLocked_b114 {X : GX} {p : Program} {l : Launch} {e : Env} {s : State} {m : MethodId} {args : Array Value} {below : List Frame} {meth : Method} {c : Code} {f : AH} {n : Nat} {r : Int32 × RS9} {rec13 : Int32 → Int32 → RS9 → Option (Int32 × RS9)} {v1 : Int32} {v2 : Int32} {v4 : Int32} {σ : RS9} (C : CC X p l (RM 0 0 0) s m args meth c RX9 cX9_isLocked 6 (some .boolean)) (Hr13 : ∀ (v1 : Int32) (v2 : Int32) (σ : RS9), rec13 v1 v2 σ = some r → AW X p l e (RM 0 0 0) s m args below meth c 6 (ZM X below args s 0 0 (QMi f n r)) (rHm f σ) n 0 0 13 [some (.ref 181), some (.int v1), some (.int v2), none, none, none] []) (h : mX9_isLocked_b114 rec13 v1 v2 v4 σ = some r) : AW X p l e (RM 0 0 0) s m args below meth c 6 (ZM X below args s 0 0 (QMi f n r)) (rHm f σ) n 0 0 114 [some (.ref 181), some (.int v1), some (.int v2), none, some (.int v4), none] [] := by
  have h : (if v4 = (0 : Int32) then rec13 v1 (v2 + (1 : Int32)) σ else rCk (rNb (1 : Int32)) (some ((1 : Int32), σ))) = some r := h
  refine aw_iload C dX9_isLocked_114 rfl ?_
  refine aw_if_eq C 121 dX9_isLocked_116 (by decide) (fun q => ?_) (fun q => ?_)
  · rw [if_pos q] at h
    refine aw_iinc C (v2 + (1 : Int32)) dX9_isLocked_121 rfl (by rw [ki_1]) (by decide) rfl ?_
    refine aw_nl [some (.ref 181), some (.int v1), some (.int (v2 + (1 : Int32))), none, some (.int v4), none] rfl ?_
    refine aw_goto C 13 dX9_isLocked_124 (by decide) ?_
    refine aw_fl [some (.ref 181), some (.int v1), some (.int (v2 + (1 : Int32))), none, none, none] ⟨rfl, ⟨rfl, ⟨rfl, trivial⟩⟩⟩ ?_
    exact Hr13 v1 (v2 + (1 : Int32)) σ h
  · rw [if_neg q] at h
    refine aw_iconst C 1 dX9_isLocked_119 ki_1 ?_
    obtain ⟨hb1, h⟩ := ck_some h
    cases h
    exact aw_iret C rfl (nb_nar hb1) dX9_isLocked_120 (Nat.le_refl _) (Nat.le_refl _) ⟨rfl, rfl, rfl⟩
def mX9_isLocked_b106 (rec13 : Int32 → Int32 → RS9 → Option (Int32 × RS9)) (rec56 : Int32 → Int32 → Int32 → Int32 → Int32 → RS9 → Option (Int32 × RS9)) (v1 : Int32) (v2 : Int32) (v3 : Int32) (v5 : Int32) (s0 : Int32) (σ : RS9) : Option (Int32 × RS9) := rec56 v1 v2 v3 s0 (v5 + (1 : Int32)) σ
set_option maxHeartbeats 1000000 in
theorem rmX9_isLocked_b106 {X : GX} {p : Program} {l : Launch} {e : Env} {s : State} {m : MethodId} {args : Array Value} {below : List Frame} {meth : Method} {c : Code} {f : AH} {n : Nat} {r : Int32 × RS9} {rec13 : Int32 → Int32 → RS9 → Option (Int32 × RS9)} {rec56 : Int32 → Int32 → Int32 → Int32 → Int32 → RS9 → Option (Int32 × RS9)} {v1 : Int32} {v2 : Int32} {v3 : Int32} {v5 : Int32} {s0 : Int32} {σ : RS9} (C : CC X p l (RM 0 0 0) s m args meth c RX9 cX9_isLocked 6 (some .boolean)) (Hr13 : ∀ (v1 : Int32) (v2 : Int32) (σ : RS9), rec13 v1 v2 σ = some r → AW X p l e (RM 0 0 0) s m args below meth c 6 (ZM X below args s 0 0 (QMi f n r)) (rHm f σ) n 0 0 13 [some (.ref 181), some (.int v1), some (.int v2), none, none, none] []) (Hr56 : ∀ (v1 : Int32) (v2 : Int32) (v3 : Int32) (v4 : Int32) (v5 : Int32) (σ : RS9), rec56 v1 v2 v3 v4 v5 σ = some r → AW X p l e (RM 0 0 0) s m args below meth c 6 (ZM X below args s 0 0 (QMi f n r)) (rHm f σ) n 0 0 56 [some (.ref 181), some (.int v1), some (.int v2), some (.int v3), some (.int v4), some (.int v5)] []) (h : mX9_isLocked_b106 rec13 rec56 v1 v2 v3 v5 s0 σ = some r) : AW X p l e (RM 0 0 0) s m args below meth c 6 (ZM X below args s 0 0 (QMi f n r)) (rHm f σ) n 0 0 106 [some (.ref 181), some (.int v1), some (.int v2), some (.int v3), none, some (.int v5)] [.int s0] := by
  have h : rec56 v1 v2 v3 s0 (v5 + (1 : Int32)) σ = some r := h
  refine aw_istore C dX9_isLocked_106 (by decide) rfl ?_
  refine aw_nl [some (.ref 181), some (.int v1), some (.int v2), some (.int v3), some (.int s0), some (.int v5)] rfl ?_
  refine aw_iinc C (v5 + (1 : Int32)) dX9_isLocked_108 rfl (by rw [ki_1]) (by decide) rfl ?_
  refine aw_nl [some (.ref 181), some (.int v1), some (.int v2), some (.int v3), some (.int s0), some (.int (v5 + (1 : Int32)))] rfl ?_
  refine aw_goto C 56 dX9_isLocked_111 (by decide) ?_
  refine aw_fl [some (.ref 181), some (.int v1), some (.int v2), some (.int v3), some (.int s0), some (.int (v5 + (1 : Int32)))] ⟨rfl, ⟨rfl, ⟨rfl, ⟨rfl, ⟨rfl, ⟨rfl, trivial⟩⟩⟩⟩⟩⟩ ?_
  exact Hr56 v1 v2 v3 s0 (v5 + (1 : Int32)) σ h
def mX9_isLocked_l56 (rec13 : Int32 → Int32 → RS9 → Option (Int32 × RS9)) : Nat → Int32 → Int32 → Int32 → Int32 → Int32 → RS9 → Option (Int32 × RS9)
  | 0, _, _, _, _, _, _ => none
  | d + 1, v1, v2, v3, v4, v5, σ => (if v3 ≤ v5 then mX9_isLocked_b114 rec13 v1 v2 v4 σ else (if v4 = (0 : Int32) then mX9_isLocked_b114 rec13 v1 v2 v4 σ else rCk (rIn v1 (rLen 20)) (rCk (rIn ((rGa σ 20 v1) + v5) (rLen 13)) (rCk (rIn ((((6 : Int32) + ((9 : Int32) * v2)) + (1 : Int32)) + v5) (rLen 1)) ((if (rGa σ 13 ((rGa σ 20 v1) + v5)) = (rGa σ 1 ((((6 : Int32) + ((9 : Int32) * v2)) + (1 : Int32)) + v5)) then mX9_isLocked_b106 rec13 (fun v1 v2 v3 v4 v5 σ => mX9_isLocked_l56 rec13 d v1 v2 v3 v4 v5 σ) v1 v2 v3 v5 (1 : Int32) σ else mX9_isLocked_b106 rec13 (fun v1 v2 v3 v4 v5 σ => mX9_isLocked_l56 rec13 d v1 v2 v3 v4 v5 σ) v1 v2 v3 v5 (0 : Int32) σ))))))
set_option maxHeartbeats 1000000 in
theorem rmX9_isLocked_l56 {X : GX} {p : Program} {l : Launch} {e : Env} {s : State} {m : MethodId} {args : Array Value} {below : List Frame} {meth : Method} {c : Code} {f : AH} {n : Nat} {r : Int32 × RS9} {rec13 : Int32 → Int32 → RS9 → Option (Int32 × RS9)} (C : CC X p l (RM 0 0 0) s m args meth c RX9 cX9_isLocked 6 (some .boolean)) (Hr13 : ∀ (v1 : Int32) (v2 : Int32) (σ : RS9), rec13 v1 v2 σ = some r → AW X p l e (RM 0 0 0) s m args below meth c 6 (ZM X below args s 0 0 (QMi f n r)) (rHm f σ) n 0 0 13 [some (.ref 181), some (.int v1), some (.int v2), none, none, none] []) : ∀ (d : Nat) (v1 : Int32) (v2 : Int32) (v3 : Int32) (v4 : Int32) (v5 : Int32) (σ : RS9) (_ : mX9_isLocked_l56 rec13 d v1 v2 v3 v4 v5 σ = some r), AW X p l e (RM 0 0 0) s m args below meth c 6 (ZM X below args s 0 0 (QMi f n r)) (rHm f σ) n 0 0 56 [some (.ref 181), some (.int v1), some (.int v2), some (.int v3), some (.int v4), some (.int v5)] [] := by
  intro d
  induction d with
  | zero =>
    intro v1 v2 v3 v4 v5 σ h
    exact nomatch (show (none : Option (Int32 × RS9)) = some r from h)
  | succ d ih =>
    intro v1 v2 v3 v4 v5 σ h
    have h : (if v3 ≤ v5 then mX9_isLocked_b114 rec13 v1 v2 v4 σ else (if v4 = (0 : Int32) then mX9_isLocked_b114 rec13 v1 v2 v4 σ else rCk (rIn v1 (rLen 20)) (rCk (rIn ((rGa σ 20 v1) + v5) (rLen 13)) (rCk (rIn ((((6 : Int32) + ((9 : Int32) * v2)) + (1 : Int32)) + v5) (rLen 1)) ((if (rGa σ 13 ((rGa σ 20 v1) + v5)) = (rGa σ 1 ((((6 : Int32) + ((9 : Int32) * v2)) + (1 : Int32)) + v5)) then mX9_isLocked_b106 rec13 (fun v1 v2 v3 v4 v5 σ => mX9_isLocked_l56 rec13 d v1 v2 v3 v4 v5 σ) v1 v2 v3 v5 (1 : Int32) σ else mX9_isLocked_b106 rec13 (fun v1 v2 v3 v4 v5 σ => mX9_isLocked_l56 rec13 d v1 v2 v3 v4 v5 σ) v1 v2 v3 v5 (0 : Int32) σ)))))) = some r := h
    refine aw_iload C dX9_isLocked_56 rfl ?_
    refine aw_iload_n C dX9_isLocked_58 rfl ?_
    refine aw_icmp_ge C 114 dX9_isLocked_59 (by decide) (fun q => ?_) (fun q => ?_)
    · rw [if_pos q] at h
      refine aw_fl [some (.ref 181), some (.int v1), some (.int v2), none, some (.int v4), none] ⟨rfl, ⟨rfl, ⟨rfl, ⟨rfl, trivial⟩⟩⟩⟩ ?_
      exact rmX9_isLocked_b114 C Hr13 h
    · rw [if_neg q] at h
      refine aw_iload C dX9_isLocked_62 rfl ?_
      refine aw_if_eq C 114 dX9_isLocked_64 (by decide) (fun q => ?_) (fun q => ?_)
      · rw [if_pos q] at h
        refine aw_fl [some (.ref 181), some (.int v1), some (.int v2), none, some (.int v4), none] ⟨rfl, ⟨rfl, ⟨rfl, ⟨rfl, trivial⟩⟩⟩⟩ ?_
        exact rmX9_isLocked_b114 C Hr13 h
      · rw [if_neg q] at h
        refine aw_ald_n C dX9_isLocked_67 rfl ?_
        refine aw_get C (v := .ref (rAid 13)) gf_X9_30 (hm_M f σ) rfl dX9_isLocked_68 ?_
        refine aw_ald_n C dX9_isLocked_71 rfl ?_
        refine aw_get C (v := .ref (rAid 20)) gf_X9_48 (hm_M f σ) rfl dX9_isLocked_72 ?_
        refine aw_iload_n C dX9_isLocked_75 rfl ?_
        obtain ⟨hb1, h⟩ := ck_some h
        refine am_iald C (rGa σ 20 v1) rfl (inb_vp hb1) rfl dX9_isLocked_76 ?_
        refine aw_iload C dX9_isLocked_77 rfl ?_
        refine aw_iadd C dX9_isLocked_79 ?_
        obtain ⟨hb2, h⟩ := ck_some h
        refine am_iald C (rGa σ 13 ((rGa σ 20 v1) + v5)) rfl (inb_vp hb2) rfl dX9_isLocked_80 ?_
        refine aw_ald_n C dX9_isLocked_81 rfl ?_
        refine aw_get C (v := .ref (rAid 1)) gf_X9_7 (hm_M f σ) rfl dX9_isLocked_82 ?_
        refine aw_bipush C 6 dX9_isLocked_85 kb_6 ?_
        refine aw_bipush C 9 dX9_isLocked_87 kb_9 ?_
        refine aw_iload_n C dX9_isLocked_89 rfl ?_
        refine aw_imul C dX9_isLocked_90 ?_
        refine aw_iadd C dX9_isLocked_91 ?_
        refine aw_iconst C 1 dX9_isLocked_92 ki_1 ?_
        refine aw_iadd C dX9_isLocked_93 ?_
        refine aw_iload C dX9_isLocked_94 rfl ?_
        refine aw_iadd C dX9_isLocked_96 ?_
        obtain ⟨hb3, h⟩ := ck_some h
        refine am_iald C (rGa σ 1 ((((6 : Int32) + ((9 : Int32) * v2)) + (1 : Int32)) + v5)) rfl (inb_vp hb3) rfl dX9_isLocked_97 ?_
        refine aw_icmp_ne C 105 dX9_isLocked_98 (by decide) (fun q => ?_) (fun q => ?_)
        · rw [if_neg q] at h
          refine aw_iconst C 0 dX9_isLocked_105 ki_0 ?_
          refine aw_fl [some (.ref 181), some (.int v1), some (.int v2), some (.int v3), none, some (.int v5)] ⟨rfl, ⟨rfl, ⟨rfl, ⟨rfl, ⟨rfl, trivial⟩⟩⟩⟩⟩ ?_
          exact rmX9_isLocked_b106 C Hr13 (fun v1 v2 v3 v4 v5 σ h => ih v1 v2 v3 v4 v5 σ h) h
        · rw [if_pos q] at h
          refine aw_iconst C 1 dX9_isLocked_101 ki_1 ?_
          refine aw_goto C 106 dX9_isLocked_102 (by decide) ?_
          refine aw_fl [some (.ref 181), some (.int v1), some (.int v2), some (.int v3), none, some (.int v5)] ⟨rfl, ⟨rfl, ⟨rfl, ⟨rfl, ⟨rfl, trivial⟩⟩⟩⟩⟩ ?_
          exact rmX9_isLocked_b106 C Hr13 (fun v1 v2 v3 v4 v5 σ h => ih v1 v2 v3 v4 v5 σ h) h
def mX9_isLocked_b51 (rec13 : Int32 → Int32 → RS9 → Option (Int32 × RS9)) (v1 : Int32) (v2 : Int32) (v3 : Int32) (s0 : Int32) (σ : RS9) : Option (Int32 × RS9) := mX9_isLocked_l56 rec13 rFU v1 v2 v3 s0 (0 : Int32) σ
set_option maxHeartbeats 1000000 in
theorem rmX9_isLocked_b51 {X : GX} {p : Program} {l : Launch} {e : Env} {s : State} {m : MethodId} {args : Array Value} {below : List Frame} {meth : Method} {c : Code} {f : AH} {n : Nat} {r : Int32 × RS9} {rec13 : Int32 → Int32 → RS9 → Option (Int32 × RS9)} {v1 : Int32} {v2 : Int32} {v3 : Int32} {s0 : Int32} {σ : RS9} (C : CC X p l (RM 0 0 0) s m args meth c RX9 cX9_isLocked 6 (some .boolean)) (Hr13 : ∀ (v1 : Int32) (v2 : Int32) (σ : RS9), rec13 v1 v2 σ = some r → AW X p l e (RM 0 0 0) s m args below meth c 6 (ZM X below args s 0 0 (QMi f n r)) (rHm f σ) n 0 0 13 [some (.ref 181), some (.int v1), some (.int v2), none, none, none] []) (h : mX9_isLocked_b51 rec13 v1 v2 v3 s0 σ = some r) : AW X p l e (RM 0 0 0) s m args below meth c 6 (ZM X below args s 0 0 (QMi f n r)) (rHm f σ) n 0 0 51 [some (.ref 181), some (.int v1), some (.int v2), some (.int v3), none, none] [.int s0] := by
  have h : mX9_isLocked_l56 rec13 rFU v1 v2 v3 s0 (0 : Int32) σ = some r := h
  refine aw_istore C dX9_isLocked_51 (by decide) rfl ?_
  refine aw_nl [some (.ref 181), some (.int v1), some (.int v2), some (.int v3), some (.int s0), none] rfl ?_
  refine aw_iconst C 0 dX9_isLocked_53 ki_0 ?_
  refine aw_istore C dX9_isLocked_54 (by decide) rfl ?_
  refine aw_nl [some (.ref 181), some (.int v1), some (.int v2), some (.int v3), some (.int s0), some (.int (0 : Int32))] rfl ?_
  refine aw_fl [some (.ref 181), some (.int v1), some (.int v2), some (.int v3), some (.int s0), some (.int (0 : Int32))] ⟨rfl, ⟨rfl, ⟨rfl, ⟨rfl, ⟨rfl, ⟨rfl, trivial⟩⟩⟩⟩⟩⟩ ?_
  exact rmX9_isLocked_l56 C Hr13 rFU v1 v2 v3 s0 (0 : Int32) σ h
def mX9_isLocked_l13 : Nat → Int32 → Int32 → RS9 → Option (Int32 × RS9)
  | 0, _, _, _ => none
  | d + 1, v1, v2, σ => rCk (rIn (5 : Int32) (rLen 1)) ((if (rGa σ 1 (5 : Int32)) ≤ v2 then rCk (rNb (0 : Int32)) (some ((0 : Int32), σ)) else rCk (rIn ((6 : Int32) + ((9 : Int32) * v2)) (rLen 1)) (rCk (rIn v1 (rLen 21)) ((if (rGa σ 21 v1) < (rGa σ 1 ((6 : Int32) + ((9 : Int32) * v2))) then mX9_isLocked_b51 (fun v1 v2 σ => mX9_isLocked_l13 d v1 v2 σ) v1 v2 (rGa σ 1 ((6 : Int32) + ((9 : Int32) * v2))) (0 : Int32) σ else mX9_isLocked_b51 (fun v1 v2 σ => mX9_isLocked_l13 d v1 v2 σ) v1 v2 (rGa σ 1 ((6 : Int32) + ((9 : Int32) * v2))) (1 : Int32) σ)))))
set_option maxHeartbeats 1000000 in
theorem rmX9_isLocked_l13 {X : GX} {p : Program} {l : Launch} {e : Env} {s : State} {m : MethodId} {args : Array Value} {below : List Frame} {meth : Method} {c : Code} {f : AH} {n : Nat} {r : Int32 × RS9} (C : CC X p l (RM 0 0 0) s m args meth c RX9 cX9_isLocked 6 (some .boolean)) : ∀ (d : Nat) (v1 : Int32) (v2 : Int32) (σ : RS9) (_ : mX9_isLocked_l13 d v1 v2 σ = some r), AW X p l e (RM 0 0 0) s m args below meth c 6 (ZM X below args s 0 0 (QMi f n r)) (rHm f σ) n 0 0 13 [some (.ref 181), some (.int v1), some (.int v2), none, none, none] [] := by
  intro d
  induction d with
  | zero =>
    intro v1 v2 σ h
    exact nomatch (show (none : Option (Int32 × RS9)) = some r from h)
  | succ d ih =>
    intro v1 v2 σ h
    have h : rCk (rIn (5 : Int32) (rLen 1)) ((if (rGa σ 1 (5 : Int32)) ≤ v2 then rCk (rNb (0 : Int32)) (some ((0 : Int32), σ)) else rCk (rIn ((6 : Int32) + ((9 : Int32) * v2)) (rLen 1)) (rCk (rIn v1 (rLen 21)) ((if (rGa σ 21 v1) < (rGa σ 1 ((6 : Int32) + ((9 : Int32) * v2))) then mX9_isLocked_b51 (fun v1 v2 σ => mX9_isLocked_l13 d v1 v2 σ) v1 v2 (rGa σ 1 ((6 : Int32) + ((9 : Int32) * v2))) (0 : Int32) σ else mX9_isLocked_b51 (fun v1 v2 σ => mX9_isLocked_l13 d v1 v2 σ) v1 v2 (rGa σ 1 ((6 : Int32) + ((9 : Int32) * v2))) (1 : Int32) σ))))) = some r := h
    refine aw_iload_n C dX9_isLocked_13 rfl ?_
    refine aw_ald_n C dX9_isLocked_14 rfl ?_
    refine aw_get C (v := .ref (rAid 1)) gf_X9_7 (hm_M f σ) rfl dX9_isLocked_15 ?_
    refine aw_iconst C 5 dX9_isLocked_18 ki_5 ?_
    obtain ⟨hb1, h⟩ := ck_some h
    refine am_iald C (rGa σ 1 (5 : Int32)) rfl (inb_vp hb1) rfl dX9_isLocked_19 ?_
    refine aw_icmp_ge C 127 dX9_isLocked_20 (by decide) (fun q => ?_) (fun q => ?_)
    · rw [if_pos q] at h
      refine aw_iconst C 0 dX9_isLocked_127 ki_0 ?_
      obtain ⟨hb2, h⟩ := ck_some h
      cases h
      exact aw_iret C rfl (nb_nar hb2) dX9_isLocked_128 (Nat.le_refl _) (Nat.le_refl _) ⟨rfl, rfl, rfl⟩
    · rw [if_neg q] at h
      refine aw_ald_n C dX9_isLocked_23 rfl ?_
      refine aw_get C (v := .ref (rAid 1)) gf_X9_7 (hm_M f σ) rfl dX9_isLocked_24 ?_
      refine aw_bipush C 6 dX9_isLocked_27 kb_6 ?_
      refine aw_bipush C 9 dX9_isLocked_29 kb_9 ?_
      refine aw_iload_n C dX9_isLocked_31 rfl ?_
      refine aw_imul C dX9_isLocked_32 ?_
      refine aw_iadd C dX9_isLocked_33 ?_
      obtain ⟨hb3, h⟩ := ck_some h
      refine am_iald C (rGa σ 1 ((6 : Int32) + ((9 : Int32) * v2))) rfl (inb_vp hb3) rfl dX9_isLocked_34 ?_
      refine aw_istore_n C dX9_isLocked_35 (by decide) rfl ?_
      refine aw_nl [some (.ref 181), some (.int v1), some (.int v2), some (.int (rGa σ 1 ((6 : Int32) + ((9 : Int32) * v2)))), none, none] rfl ?_
      refine aw_iload_n C dX9_isLocked_36 rfl ?_
      refine aw_ald_n C dX9_isLocked_37 rfl ?_
      refine aw_get C (v := .ref (rAid 21)) gf_X9_51 (hm_M f σ) rfl dX9_isLocked_38 ?_
      refine aw_iload_n C dX9_isLocked_41 rfl ?_
      obtain ⟨hb4, h⟩ := ck_some h
      refine am_iald C (rGa σ 21 v1) rfl (inb_vp hb4) rfl dX9_isLocked_42 ?_
      refine aw_icmp_gt C 50 dX9_isLocked_43 (by decide) (fun q => ?_) (fun q => ?_)
      · rw [if_pos q] at h
        refine aw_iconst C 0 dX9_isLocked_50 ki_0 ?_
        refine aw_fl [some (.ref 181), some (.int v1), some (.int v2), some (.int (rGa σ 1 ((6 : Int32) + ((9 : Int32) * v2)))), none, none] ⟨rfl, ⟨rfl, ⟨rfl, ⟨rfl, trivial⟩⟩⟩⟩ ?_
        exact rmX9_isLocked_b51 C (fun v1 v2 σ h => ih v1 v2 σ h) h
      · rw [if_neg q] at h
        refine aw_iconst C 1 dX9_isLocked_46 ki_1 ?_
        refine aw_goto C 51 dX9_isLocked_47 (by decide) ?_
        refine aw_fl [some (.ref 181), some (.int v1), some (.int v2), some (.int (rGa σ 1 ((6 : Int32) + ((9 : Int32) * v2)))), none, none] ⟨rfl, ⟨rfl, ⟨rfl, ⟨rfl, trivial⟩⟩⟩⟩ ?_
        exact rmX9_isLocked_b51 C (fun v1 v2 σ h => ih v1 v2 σ h) h
def mX9_isLocked (v1 : Int32) (σ : RS9) : Option (Int32 × RS9) := rCk (rIn (1 : Int32) (rLen 1)) ((if (rGa σ 1 (1 : Int32)) = (0 : Int32) then mX9_isLocked_l13 rFU v1 (0 : Int32) σ else rCk (rNb (0 : Int32)) (some ((0 : Int32), σ))))
set_option maxHeartbeats 1000000 in
theorem rmX9_isLocked {X : GX} {l : Launch} {f : AH} {n : Nat} {r : Int32 × RS9} {v1 : Int32} {σ : RS9} (h : mX9_isLocked v1 σ = some r) : AM X l yX9_isLocked cX9_isLocked 6 (some .boolean) 0 0 0 [.ref 181, .int v1] (rHm f σ) n (QMi f n r) := by
  have h : rCk (rIn (1 : Int32) (rLen 1)) ((if (rGa σ 1 (1 : Int32)) = (0 : Int32) then mX9_isLocked_l13 rFU v1 (0 : Int32) σ else rCk (rNb (0 : Int32)) (some ((0 : Int32), σ)))) = some r := h
  refine AM.of (by decide +kernel) rfl (Nat.le_of_ble_eq_true rfl) (fun p e s m args below meth c C _ => ?_)
  refine aw_nl [some (.ref 181), some (.int v1), none, none, none, none] rfl ?_
  refine aw_ald_n C dX9_isLocked_0 rfl ?_
  refine aw_get C (v := .ref (rAid 1)) gf_X9_7 (hm_M f σ) rfl dX9_isLocked_1 ?_
  refine aw_iconst C 1 dX9_isLocked_4 ki_1 ?_
  obtain ⟨hb1, h⟩ := ck_some h
  refine am_iald C (rGa σ 1 (1 : Int32)) rfl (inb_vp hb1) rfl dX9_isLocked_5 ?_
  refine aw_if_eq C 11 dX9_isLocked_6 (by decide) (fun q => ?_) (fun q => ?_)
  · rw [if_pos q] at h
    refine aw_iconst C 0 dX9_isLocked_11 ki_0 ?_
    refine aw_istore_n C dX9_isLocked_12 (by decide) rfl ?_
    refine aw_nl [some (.ref 181), some (.int v1), some (.int (0 : Int32)), none, none, none] rfl ?_
    refine aw_fl [some (.ref 181), some (.int v1), some (.int (0 : Int32)), none, none, none] ⟨rfl, ⟨rfl, ⟨rfl, trivial⟩⟩⟩ ?_
    exact rmX9_isLocked_l13 C rFU v1 (0 : Int32) σ h
  · rw [if_neg q] at h
    refine aw_iconst C 0 dX9_isLocked_9 ki_0 ?_
    obtain ⟨hb2, h⟩ := ck_some h
    cases h
    exact aw_iret C rfl (nb_nar hb2) dX9_isLocked_10 (Nat.le_refl _) (Nat.le_refl _) ⟨rfl, rfl, rfl⟩
def mX9_isLetter_b27 (s0 : Int32) (σ : RS9) : Option (Int32 × RS9) := rCk (rNb s0) (some (s0, σ))
set_option maxHeartbeats 1000000 in
theorem rmX9_isLetter_b27 {X : GX} {p : Program} {l : Launch} {e : Env} {s : State} {m : MethodId} {args : Array Value} {below : List Frame} {meth : Method} {c : Code} {f : AH} {n : Nat} {r : Int32 × RS9} {s0 : Int32} {σ : RS9} (C : CC X p l (RM 1 0 0) s m args meth c RX9 cX9_isLetter 1 (some .boolean)) (h : mX9_isLetter_b27 s0 σ = some r) : AW X p l e (RM 1 0 0) s m args below meth c 1 (ZM X below args s 0 0 (QMi f n r)) (rHm f σ) n 0 0 27 [none] [.int s0] := by
  have h : rCk (rNb s0) (some (s0, σ)) = some r := h
  obtain ⟨hb1, h⟩ := ck_some h
  cases h
  exact aw_iret C rfl (nb_nar hb1) dX9_isLetter_27 (Nat.le_refl _) (Nat.le_refl _) ⟨rfl, rfl, rfl⟩
def mX9_isLetter_b22 (σ : RS9) : Option (Int32 × RS9) := mX9_isLetter_b27 (1 : Int32) σ
set_option maxHeartbeats 1000000 in
theorem rmX9_isLetter_b22 {X : GX} {p : Program} {l : Launch} {e : Env} {s : State} {m : MethodId} {args : Array Value} {below : List Frame} {meth : Method} {c : Code} {f : AH} {n : Nat} {r : Int32 × RS9} {σ : RS9} (C : CC X p l (RM 1 0 0) s m args meth c RX9 cX9_isLetter 1 (some .boolean)) (h : mX9_isLetter_b22 σ = some r) : AW X p l e (RM 1 0 0) s m args below meth c 1 (ZM X below args s 0 0 (QMi f n r)) (rHm f σ) n 0 0 22 [none] [] := by
  have h : mX9_isLetter_b27 (1 : Int32) σ = some r := h
  refine aw_iconst C 1 dX9_isLetter_22 ki_1 ?_
  refine aw_goto C 27 dX9_isLetter_23 (by decide) ?_
  refine aw_fl [none] trivial ?_
  exact rmX9_isLetter_b27 C h
def mX9_isLetter (v0 : Int32) (σ : RS9) : Option (Int32 × RS9) := ((mX9_isIn v0 (97 : Int32) (122 : Int32) σ).bind fun r1 => (if r1.1 = (0 : Int32) then ((mX9_isIn v0 (65 : Int32) (90 : Int32) r1.2).bind fun r2 => (if r2.1 = (0 : Int32) then mX9_isLetter_b27 (0 : Int32) r2.2 else mX9_isLetter_b22 r2.2)) else mX9_isLetter_b22 r1.2))
set_option maxHeartbeats 1000000 in
theorem rmX9_isLetter {X : GX} {l : Launch} {f : AH} {n : Nat} {r : Int32 × RS9} {v0 : Int32} {σ : RS9} (h : mX9_isLetter v0 σ = some r) : AM X l yX9_isLetter cX9_isLetter 1 (some .boolean) 1 0 0 [.int v0] (rHm f σ) n (QMi f n r) := by
  have h : ((mX9_isIn v0 (97 : Int32) (122 : Int32) σ).bind fun r1 => (if r1.1 = (0 : Int32) then ((mX9_isIn v0 (65 : Int32) (90 : Int32) r1.2).bind fun r2 => (if r2.1 = (0 : Int32) then mX9_isLetter_b27 (0 : Int32) r2.2 else mX9_isLetter_b22 r2.2)) else mX9_isLetter_b22 r1.2)) = some r := h
  refine AM.of (by decide +kernel) rfl (Nat.le_of_ble_eq_true rfl) (fun p e s m args below meth c C _ => ?_)
  refine aw_nl [some (.int v0)] rfl ?_
  refine aw_iload_n C dX9_isLetter_0 rfl ?_
  refine aw_bipush C 97 dX9_isLetter_1 kb_97 ?_
  refine aw_bipush C 122 dX9_isLetter_3 kb_122 ?_
  obtain ⟨r1, h1, h⟩ := Option.bind_eq_some_iff.mp h
  refine aw_callS C [.int v0, .int (97 : Int32), .int (122 : Int32)] ms_X9_141 (rmX9_isIn h1) rfl dX9_isLetter_5 (Nat.le_of_ble_eq_true rfl) (Nat.le_of_ble_eq_true rfl) rfl (Nat.le_of_ble_eq_true rfl) (Nat.le_of_ble_eq_true rfl) (Nat.le_of_ble_eq_true rfl) (fun v9 f9 n9 hh => ?_)
  obtain ⟨rfl, rfl, rfl⟩ := hh
  refine aw_if_ne C 22 dX9_isLetter_8 (by decide) (fun q => ?_) (fun q => ?_)
  · rw [if_neg q] at h
    refine aw_fl [none] trivial ?_
    exact rmX9_isLetter_b22 C h
  · rw [if_pos q] at h
    refine aw_iload_n C dX9_isLetter_11 rfl ?_
    refine aw_bipush C 65 dX9_isLetter_12 kb_65 ?_
    refine aw_bipush C 90 dX9_isLetter_14 kb_90 ?_
    obtain ⟨r2, h2, h⟩ := Option.bind_eq_some_iff.mp h
    refine aw_callS C [.int v0, .int (65 : Int32), .int (90 : Int32)] ms_X9_141 (rmX9_isIn h2) rfl dX9_isLetter_16 (Nat.le_of_ble_eq_true rfl) (Nat.le_of_ble_eq_true rfl) rfl (Nat.le_of_ble_eq_true rfl) (Nat.le_of_ble_eq_true rfl) (Nat.le_of_ble_eq_true rfl) (fun v9 f9 n9 hh => ?_)
    obtain ⟨rfl, rfl, rfl⟩ := hh
    refine aw_if_eq C 26 dX9_isLetter_19 (by decide) (fun q => ?_) (fun q => ?_)
    · rw [if_pos q] at h
      refine aw_iconst C 0 dX9_isLetter_26 ki_0 ?_
      refine aw_fl [none] trivial ?_
      exact rmX9_isLetter_b27 C h
    · rw [if_neg q] at h
      refine aw_fl [none] trivial ?_
      exact rmX9_isLetter_b22 C h
def mX9_isPiece_l34 : Nat → Nat → Int32 → Int32 → RS9 → Option (Int32 × RS9)
  | 0, _, _, _, _ => none
  | d + 1, v1, v2, v3, σ => (if v2 ≤ v3 then rCk (rNb (0 : Int32)) (some ((0 : Int32), σ)) else rCk (rIn v3 (rLen v1)) (((mX9_isLetter (rGa σ v1 v3) σ).bind fun r3 => (if r3.1 = (0 : Int32) then mX9_isPiece_l34 d v1 v2 (v3 + (1 : Int32)) r3.2 else rCk (rNb (1 : Int32)) (some ((1 : Int32), r3.2))))))
set_option maxHeartbeats 1000000 in
theorem rmX9_isPiece_l34 {X : GX} {p : Program} {l : Launch} {e : Env} {s : State} {m : MethodId} {args : Array Value} {below : List Frame} {meth : Method} {c : Code} {f : AH} {n : Nat} {r : Int32 × RS9} (C : CC X p l (RM 2 0 0) s m args meth c RX9 cX9_isPiece 4 (some .boolean)) : ∀ (d : Nat) (v1 : Nat) (v2 : Int32) (v3 : Int32) (σ : RS9) (_ : rIsA v1 = true) (_ : mX9_isPiece_l34 d v1 v2 v3 σ = some r), AW X p l e (RM 2 0 0) s m args below meth c 4 (ZM X below args s 0 0 (QMi f n r)) (rHm f σ) n 0 0 34 [none, some (.ref (rAid v1)), some (.int v2), some (.int v3)] [] := by
  intro d
  induction d with
  | zero =>
    intro v1 v2 v3 σ ia1 h
    exact nomatch (show (none : Option (Int32 × RS9)) = some r from h)
  | succ d ih =>
    intro v1 v2 v3 σ ia1 h
    have h : (if v2 ≤ v3 then rCk (rNb (0 : Int32)) (some ((0 : Int32), σ)) else rCk (rIn v3 (rLen v1)) (((mX9_isLetter (rGa σ v1 v3) σ).bind fun r3 => (if r3.1 = (0 : Int32) then mX9_isPiece_l34 d v1 v2 (v3 + (1 : Int32)) r3.2 else rCk (rNb (1 : Int32)) (some ((1 : Int32), r3.2)))))) = some r := h
    refine aw_iload_n C dX9_isPiece_34 rfl ?_
    refine aw_iload_n C dX9_isPiece_35 rfl ?_
    refine aw_icmp_ge C 56 dX9_isPiece_36 (by decide) (fun q => ?_) (fun q => ?_)
    · rw [if_pos q] at h
      refine aw_iconst C 0 dX9_isPiece_56 ki_0 ?_
      obtain ⟨hb1, h⟩ := ck_some h
      cases h
      exact aw_iret C rfl (nb_nar hb1) dX9_isPiece_57 (Nat.le_refl _) (Nat.le_refl _) ⟨rfl, rfl, rfl⟩
    · rw [if_neg q] at h
      refine aw_ald_n C dX9_isPiece_39 rfl ?_
      refine aw_iload_n C dX9_isPiece_40 rfl ?_
      obtain ⟨hb2, h⟩ := ck_some h
      refine am_iald C (rGa σ v1 v3) ia1 (inb_vp hb2) rfl dX9_isPiece_41 ?_
      obtain ⟨r3, h3, h⟩ := Option.bind_eq_some_iff.mp h
      refine aw_callS C [.int (rGa σ v1 v3)] ms_X9_207 (rmX9_isLetter h3) rfl dX9_isPiece_42 (Nat.le_of_ble_eq_true rfl) (Nat.le_of_ble_eq_true rfl) rfl (Nat.le_of_ble_eq_true rfl) (Nat.le_of_ble_eq_true rfl) (Nat.le_of_ble_eq_true rfl) (fun v9 f9 n9 hh => ?_)
      obtain ⟨rfl, rfl, rfl⟩ := hh
      refine aw_if_eq C 50 dX9_isPiece_45 (by decide) (fun q => ?_) (fun q => ?_)
      · rw [if_pos q] at h
        refine aw_iinc C (v3 + (1 : Int32)) dX9_isPiece_50 rfl (by rw [ki_1]) (by decide) rfl ?_
        refine aw_nl [none, some (.ref (rAid v1)), some (.int v2), some (.int (v3 + (1 : Int32)))] rfl ?_
        refine aw_goto C 34 dX9_isPiece_53 (by decide) ?_
        refine aw_fl [none, some (.ref (rAid v1)), some (.int v2), some (.int (v3 + (1 : Int32)))] ⟨rfl, ⟨rfl, ⟨rfl, trivial⟩⟩⟩ ?_
        exact ih v1 v2 (v3 + (1 : Int32)) r3.2 ia1 h
      · rw [if_neg q] at h
        refine aw_iconst C 1 dX9_isPiece_48 ki_1 ?_
        obtain ⟨hb4, h⟩ := ck_some h
        cases h
        exact aw_iret C rfl (nb_nar hb4) dX9_isPiece_49 (Nat.le_refl _) (Nat.le_refl _) ⟨rfl, rfl, rfl⟩
def mX9_isPiece_b19 (σ : RS9) : Option (Int32 × RS9) := rCk (rNb (0 : Int32)) (some ((0 : Int32), σ))
set_option maxHeartbeats 1000000 in
theorem rmX9_isPiece_b19 {X : GX} {p : Program} {l : Launch} {e : Env} {s : State} {m : MethodId} {args : Array Value} {below : List Frame} {meth : Method} {c : Code} {f : AH} {n : Nat} {r : Int32 × RS9} {σ : RS9} (C : CC X p l (RM 2 0 0) s m args meth c RX9 cX9_isPiece 4 (some .boolean)) (h : mX9_isPiece_b19 σ = some r) : AW X p l e (RM 2 0 0) s m args below meth c 4 (ZM X below args s 0 0 (QMi f n r)) (rHm f σ) n 0 0 19 [none, none, none, none] [] := by
  have h : rCk (rNb (0 : Int32)) (some ((0 : Int32), σ)) = some r := h
  refine aw_iconst C 0 dX9_isPiece_19 ki_0 ?_
  obtain ⟨hb1, h⟩ := ck_some h
  cases h
  exact aw_iret C rfl (nb_nar hb1) dX9_isPiece_20 (Nat.le_refl _) (Nat.le_refl _) ⟨rfl, rfl, rfl⟩
def mX9_isPiece (v1 : Nat) (v2 : Int32) (σ : RS9) : Option (Int32 × RS9) := rCk (rIn (4 : Int32) (rLen 1)) ((if v2 < (rGa σ 1 (4 : Int32)) then mX9_isPiece_b19 σ else (if (σ.1 33) = (40 : Int32) then mX9_isPiece_b19 σ else rCk (rIn (3 : Int32) (rLen 1)) ((if (rGa σ 1 (3 : Int32)) = (0 : Int32) then rCk (rNb (1 : Int32)) (some ((1 : Int32), σ)) else mX9_isPiece_l34 rFU v1 v2 (0 : Int32) σ)))))
set_option maxHeartbeats 1000000 in
theorem rmX9_isPiece {X : GX} {l : Launch} {f : AH} {n : Nat} {r : Int32 × RS9} {v1 : Nat} {v2 : Int32} {σ : RS9} (ia1 : rIsA v1 = true) (h : mX9_isPiece v1 v2 σ = some r) : AM X l yX9_isPiece cX9_isPiece 4 (some .boolean) 2 0 0 [.ref 181, .ref (rAid v1), .int v2] (rHm f σ) n (QMi f n r) := by
  have h : rCk (rIn (4 : Int32) (rLen 1)) ((if v2 < (rGa σ 1 (4 : Int32)) then mX9_isPiece_b19 σ else (if (σ.1 33) = (40 : Int32) then mX9_isPiece_b19 σ else rCk (rIn (3 : Int32) (rLen 1)) ((if (rGa σ 1 (3 : Int32)) = (0 : Int32) then rCk (rNb (1 : Int32)) (some ((1 : Int32), σ)) else mX9_isPiece_l34 rFU v1 v2 (0 : Int32) σ))))) = some r := h
  refine AM.of (by decide +kernel) rfl (Nat.le_of_ble_eq_true rfl) (fun p e s m args below meth c C _ => ?_)
  refine aw_nl [some (.ref 181), some (.ref (rAid v1)), some (.int v2), none] rfl ?_
  refine aw_iload_n C dX9_isPiece_0 rfl ?_
  refine aw_ald_n C dX9_isPiece_1 rfl ?_
  refine aw_get C (v := .ref (rAid 1)) gf_X9_7 (hm_M f σ) rfl dX9_isPiece_2 ?_
  refine aw_iconst C 4 dX9_isPiece_5 ki_4 ?_
  obtain ⟨hb1, h⟩ := ck_some h
  refine am_iald C (rGa σ 1 (4 : Int32)) rfl (inb_vp hb1) rfl dX9_isPiece_6 ?_
  refine aw_icmp_lt C 19 dX9_isPiece_7 (by decide) (fun q => ?_) (fun q => ?_)
  · rw [if_pos q] at h
    refine aw_fl [none, none, none, none] trivial ?_
    exact rmX9_isPiece_b19 C h
  · rw [if_neg q] at h
    refine aw_ald_n C dX9_isPiece_10 rfl ?_
    refine aw_get C (v := .int (σ.1 33)) gf_X9_204 (hm_M f σ) rfl dX9_isPiece_11 ?_
    refine aw_bipush C 40 dX9_isPiece_14 kb_40 ?_
    refine aw_icmp_ne C 21 dX9_isPiece_16 (by decide) (fun q => ?_) (fun q => ?_)
    · rw [if_neg q] at h
      refine aw_ald_n C dX9_isPiece_21 rfl ?_
      refine aw_get C (v := .ref (rAid 1)) gf_X9_7 (hm_M f σ) rfl dX9_isPiece_22 ?_
      refine aw_iconst C 3 dX9_isPiece_25 ki_3 ?_
      obtain ⟨hb2, h⟩ := ck_some h
      refine am_iald C (rGa σ 1 (3 : Int32)) rfl (inb_vp hb2) rfl dX9_isPiece_26 ?_
      refine aw_if_ne C 32 dX9_isPiece_27 (by decide) (fun q => ?_) (fun q => ?_)
      · rw [if_neg q] at h
        refine aw_iconst C 0 dX9_isPiece_32 ki_0 ?_
        refine aw_istore_n C dX9_isPiece_33 (by decide) rfl ?_
        refine aw_nl [some (.ref 181), some (.ref (rAid v1)), some (.int v2), some (.int (0 : Int32))] rfl ?_
        refine aw_fl [none, some (.ref (rAid v1)), some (.int v2), some (.int (0 : Int32))] ⟨rfl, ⟨rfl, ⟨rfl, trivial⟩⟩⟩ ?_
        exact rmX9_isPiece_l34 C rFU v1 v2 (0 : Int32) σ ia1 h
      · rw [if_pos q] at h
        refine aw_iconst C 1 dX9_isPiece_30 ki_1 ?_
        obtain ⟨hb3, h⟩ := ck_some h
        cases h
        exact aw_iret C rfl (nb_nar hb3) dX9_isPiece_31 (Nat.le_refl _) (Nat.le_refl _) ⟨rfl, rfl, rfl⟩
    · rw [if_pos q] at h
      refine aw_fl [none, none, none, none] trivial ?_
      exact rmX9_isPiece_b19 C h
def mX9_takes_l137 : Nat → Nat → Nat → Int32 → Int32 → RS9 → Option (Int32 × RS9)
  | 0, _, _, _, _, _ => none
  | d + 1, v2, v3, v5, v9, σ => (if v5 ≤ v9 then some ((0 : Int32), (rSf σ 33 ((σ.1 33) + (1 : Int32)))) else rCk (rIn v9 (rLen v2)) (rCk (rIn (σ.1 45) (rLen 43)) (rCk (rIn v9 (rLen v3)) (rCk (rIn (σ.1 45) (rLen 44)) (mX9_takes_l137 d v2 v3 v5 (v9 + (1 : Int32)) (rSf (rSa (rSa σ 43 (σ.1 45) (rGa σ v2 v9)) 44 (σ.1 45) (rGa (rSa σ 43 (σ.1 45) (rGa σ v2 v9)) v3 v9)) 45 ((σ.1 45) + (1 : Int32))))))))
set_option maxHeartbeats 1000000 in
theorem rmX9_takes_l137 {X : GX} {p : Program} {l : Launch} {e : Env} {s : State} {m : MethodId} {args : Array Value} {below : List Frame} {meth : Method} {c : Code} {f : AH} {n : Nat} {r : Int32 × RS9} (C : CC X p l (RM 3 0 0) s m args meth c RX9 cX9_takes 10 none) : ∀ (d : Nat) (v2 : Nat) (v3 : Nat) (v5 : Int32) (v9 : Int32) (σ : RS9) (_ : rIsA v2 = true) (_ : rIsA v3 = true) (_ : mX9_takes_l137 d v2 v3 v5 v9 σ = some r), AW X p l e (RM 3 0 0) s m args below meth c 10 (ZM X below args s 0 0 (QMv f n r)) (rHm f σ) n 0 0 137 [some (.ref 181), none, some (.ref (rAid v2)), some (.ref (rAid v3)), none, some (.int v5), none, none, none, some (.int v9)] [] := by
  intro d
  induction d with
  | zero =>
    intro v2 v3 v5 v9 σ ia2 ia3 h
    exact nomatch (show (none : Option (Int32 × RS9)) = some r from h)
  | succ d ih =>
    intro v2 v3 v5 v9 σ ia2 ia3 h
    have h : (if v5 ≤ v9 then some ((0 : Int32), (rSf σ 33 ((σ.1 33) + (1 : Int32)))) else rCk (rIn v9 (rLen v2)) (rCk (rIn (σ.1 45) (rLen 43)) (rCk (rIn v9 (rLen v3)) (rCk (rIn (σ.1 45) (rLen 44)) (mX9_takes_l137 d v2 v3 v5 (v9 + (1 : Int32)) (rSf (rSa (rSa σ 43 (σ.1 45) (rGa σ v2 v9)) 44 (σ.1 45) (rGa (rSa σ 43 (σ.1 45) (rGa σ v2 v9)) v3 v9)) 45 ((σ.1 45) + (1 : Int32)))))))) = some r := h
    refine aw_iload C dX9_takes_137 rfl ?_
    refine aw_iload C dX9_takes_139 rfl ?_
    refine aw_icmp_ge C 186 dX9_takes_141 (by decide) (fun q => ?_) (fun q => ?_)
    · rw [if_pos q] at h
      refine aw_ald_n C dX9_takes_186 rfl ?_
      refine aw_dup C dX9_takes_187 rfl ?_
      refine aw_get C (v := .int (σ.1 33)) gf_X9_204 (hm_M f σ) rfl dX9_takes_188 ?_
      refine aw_iconst C 1 dX9_takes_191 ki_1 ?_
      refine aw_iadd C dX9_takes_192 ?_
      refine am_put C gf_X9_204 nf9_33 rfl rfl dX9_takes_193 ?_
      cases h
      exact aw_vret C rfl dX9_takes_196 (Nat.le_refl _) (Nat.le_refl _) ⟨rfl, rfl, rfl⟩
    · rw [if_neg q] at h
      refine aw_ald_n C dX9_takes_144 rfl ?_
      refine aw_get C (v := .ref (rAid 43)) gf_X9_108 (hm_M f σ) rfl dX9_takes_145 ?_
      refine aw_ald_n C dX9_takes_148 rfl ?_
      refine aw_get C (v := .int (σ.1 45)) gf_X9_217 (hm_M f σ) rfl dX9_takes_149 ?_
      refine aw_ald_n C dX9_takes_152 rfl ?_
      refine aw_iload C dX9_takes_153 rfl ?_
      obtain ⟨hb1, h⟩ := ck_some h
      refine am_iald C (rGa σ v2 v9) ia2 (inb_vp hb1) rfl dX9_takes_155 ?_
      obtain ⟨hb2, h⟩ := ck_some h
      refine am_iast C rfl (inb_vp hb2) dX9_takes_156 ?_
      refine aw_ald_n C dX9_takes_157 rfl ?_
      refine aw_get C (v := .ref (rAid 44)) gf_X9_111 (hm_M f (rSa σ 43 (σ.1 45) (rGa σ v2 v9))) rfl dX9_takes_158 ?_
      refine aw_ald_n C dX9_takes_161 rfl ?_
      refine aw_get C (v := .int (σ.1 45)) gf_X9_217 (hm_M f (rSa σ 43 (σ.1 45) (rGa σ v2 v9))) rfl dX9_takes_162 ?_
      refine aw_ald_n C dX9_takes_165 rfl ?_
      refine aw_iload C dX9_takes_166 rfl ?_
      obtain ⟨hb3, h⟩ := ck_some h
      refine am_iald C (rGa (rSa σ 43 (σ.1 45) (rGa σ v2 v9)) v3 v9) ia3 (inb_vp hb3) rfl dX9_takes_168 ?_
      obtain ⟨hb4, h⟩ := ck_some h
      refine am_iast C rfl (inb_vp hb4) dX9_takes_169 ?_
      refine aw_ald_n C dX9_takes_170 rfl ?_
      refine aw_dup C dX9_takes_171 rfl ?_
      refine aw_get C (v := .int (σ.1 45)) gf_X9_217 (hm_M f (rSa (rSa σ 43 (σ.1 45) (rGa σ v2 v9)) 44 (σ.1 45) (rGa (rSa σ 43 (σ.1 45) (rGa σ v2 v9)) v3 v9))) rfl dX9_takes_172 ?_
      refine aw_iconst C 1 dX9_takes_175 ki_1 ?_
      refine aw_iadd C dX9_takes_176 ?_
      refine am_put C gf_X9_217 nf9_45 rfl rfl dX9_takes_177 ?_
      refine aw_iinc C (v9 + (1 : Int32)) dX9_takes_180 rfl (by rw [ki_1]) (by decide) rfl ?_
      refine aw_nl [some (.ref 181), none, some (.ref (rAid v2)), some (.ref (rAid v3)), none, some (.int v5), none, none, none, some (.int (v9 + (1 : Int32)))] rfl ?_
      refine aw_goto C 137 dX9_takes_183 (by decide) ?_
      refine aw_fl [some (.ref 181), none, some (.ref (rAid v2)), some (.ref (rAid v3)), none, some (.int v5), none, none, none, some (.int (v9 + (1 : Int32)))] ⟨rfl, ⟨rfl, ⟨rfl, ⟨rfl, ⟨rfl, trivial⟩⟩⟩⟩⟩ ?_
      exact ih v2 v3 v5 (v9 + (1 : Int32)) (rSf (rSa (rSa σ 43 (σ.1 45) (rGa σ v2 v9)) 44 (σ.1 45) (rGa (rSa σ 43 (σ.1 45) (rGa σ v2 v9)) v3 v9)) 45 ((σ.1 45) + (1 : Int32))) ia2 ia3 h
def mX9_takes_b87 (v1 : Int32) (v2 : Nat) (v3 : Nat) (v5 : Int32) (v8 : Int32) (s0 : Nat) (s1 : Int32) (s2 : Int32) (σ : RS9) : Option (Int32 × RS9) := rCk (rIn s1 (rLen s0)) (rCk (rIn v1 (rLen 20)) (rCk (rIn v8 (rLen 39)) (rCk (rIn v1 (rLen 21)) (rCk (rIn v8 (rLen 40)) (rCk (rIn v8 (rLen 41)) (rCk (rIn v8 (rLen 42)) (mX9_takes_l137 rFU v2 v3 v5 (0 : Int32) (rSa (rSa (rSa (rSa (rSa σ s0 s1 s2) 39 v8 (rGa (rSa σ s0 s1 s2) 20 v1)) 40 v8 (rGa (rSa σ s0 s1 s2) 21 v1)) 41 v8 (σ.1 45)) 42 v8 v5))))))))
set_option maxHeartbeats 1000000 in
theorem rmX9_takes_b87 {X : GX} {p : Program} {l : Launch} {e : Env} {s : State} {m : MethodId} {args : Array Value} {below : List Frame} {meth : Method} {c : Code} {f : AH} {n : Nat} {r : Int32 × RS9} {v1 : Int32} {v2 : Nat} {v3 : Nat} {v5 : Int32} {v8 : Int32} {s0 : Nat} {s1 : Int32} {s2 : Int32} {σ : RS9} (C : CC X p l (RM 3 0 0) s m args meth c RX9 cX9_takes 10 none) (ia2 : rIsA v2 = true) (ia3 : rIsA v3 = true) (ias0 : rIsA s0 = true) (h : mX9_takes_b87 v1 v2 v3 v5 v8 s0 s1 s2 σ = some r) : AW X p l e (RM 3 0 0) s m args below meth c 10 (ZM X below args s 0 0 (QMv f n r)) (rHm f σ) n 0 0 87 [some (.ref 181), some (.int v1), some (.ref (rAid v2)), some (.ref (rAid v3)), none, some (.int v5), none, none, some (.int v8), none] [.int s2, .int s1, .ref (rAid s0)] := by
  have h : rCk (rIn s1 (rLen s0)) (rCk (rIn v1 (rLen 20)) (rCk (rIn v8 (rLen 39)) (rCk (rIn v1 (rLen 21)) (rCk (rIn v8 (rLen 40)) (rCk (rIn v8 (rLen 41)) (rCk (rIn v8 (rLen 42)) (mX9_takes_l137 rFU v2 v3 v5 (0 : Int32) (rSa (rSa (rSa (rSa (rSa σ s0 s1 s2) 39 v8 (rGa (rSa σ s0 s1 s2) 20 v1)) 40 v8 (rGa (rSa σ s0 s1 s2) 21 v1)) 41 v8 (σ.1 45)) 42 v8 v5)))))))) = some r := h
  obtain ⟨hb1, h⟩ := ck_some h
  refine am_iast C ias0 (inb_vp hb1) dX9_takes_87 ?_
  refine aw_ald_n C dX9_takes_88 rfl ?_
  refine aw_get C (v := .ref (rAid 39)) gf_X9_96 (hm_M f (rSa σ s0 s1 s2)) rfl dX9_takes_89 ?_
  refine aw_iload C dX9_takes_92 rfl ?_
  refine aw_ald_n C dX9_takes_94 rfl ?_
  refine aw_get C (v := .ref (rAid 20)) gf_X9_48 (hm_M f (rSa σ s0 s1 s2)) rfl dX9_takes_95 ?_
  refine aw_iload_n C dX9_takes_98 rfl ?_
  obtain ⟨hb2, h⟩ := ck_some h
  refine am_iald C (rGa (rSa σ s0 s1 s2) 20 v1) rfl (inb_vp hb2) rfl dX9_takes_99 ?_
  obtain ⟨hb3, h⟩ := ck_some h
  refine am_iast C rfl (inb_vp hb3) dX9_takes_100 ?_
  refine aw_ald_n C dX9_takes_101 rfl ?_
  refine aw_get C (v := .ref (rAid 40)) gf_X9_99 (hm_M f (rSa (rSa σ s0 s1 s2) 39 v8 (rGa (rSa σ s0 s1 s2) 20 v1))) rfl dX9_takes_102 ?_
  refine aw_iload C dX9_takes_105 rfl ?_
  refine aw_ald_n C dX9_takes_107 rfl ?_
  refine aw_get C (v := .ref (rAid 21)) gf_X9_51 (hm_M f (rSa (rSa σ s0 s1 s2) 39 v8 (rGa (rSa σ s0 s1 s2) 20 v1))) rfl dX9_takes_108 ?_
  refine aw_iload_n C dX9_takes_111 rfl ?_
  obtain ⟨hb4, h⟩ := ck_some h
  refine am_iald C (rGa (rSa σ s0 s1 s2) 21 v1) rfl (inb_vp hb4) rfl dX9_takes_112 ?_
  obtain ⟨hb5, h⟩ := ck_some h
  refine am_iast C rfl (inb_vp hb5) dX9_takes_113 ?_
  refine aw_ald_n C dX9_takes_114 rfl ?_
  refine aw_get C (v := .ref (rAid 41)) gf_X9_102 (hm_M f (rSa (rSa (rSa σ s0 s1 s2) 39 v8 (rGa (rSa σ s0 s1 s2) 20 v1)) 40 v8 (rGa (rSa σ s0 s1 s2) 21 v1))) rfl dX9_takes_115 ?_
  refine aw_iload C dX9_takes_118 rfl ?_
  refine aw_ald_n C dX9_takes_120 rfl ?_
  refine aw_get C (v := .int (σ.1 45)) gf_X9_217 (hm_M f (rSa (rSa (rSa σ s0 s1 s2) 39 v8 (rGa (rSa σ s0 s1 s2) 20 v1)) 40 v8 (rGa (rSa σ s0 s1 s2) 21 v1))) rfl dX9_takes_121 ?_
  obtain ⟨hb6, h⟩ := ck_some h
  refine am_iast C rfl (inb_vp hb6) dX9_takes_124 ?_
  refine aw_ald_n C dX9_takes_125 rfl ?_
  refine aw_get C (v := .ref (rAid 42)) gf_X9_105 (hm_M f (rSa (rSa (rSa (rSa σ s0 s1 s2) 39 v8 (rGa (rSa σ s0 s1 s2) 20 v1)) 40 v8 (rGa (rSa σ s0 s1 s2) 21 v1)) 41 v8 (σ.1 45))) rfl dX9_takes_126 ?_
  refine aw_iload C dX9_takes_129 rfl ?_
  refine aw_iload C dX9_takes_131 rfl ?_
  obtain ⟨hb7, h⟩ := ck_some h
  refine am_iast C rfl (inb_vp hb7) dX9_takes_133 ?_
  refine aw_iconst C 0 dX9_takes_134 ki_0 ?_
  refine aw_istore C dX9_takes_135 (by decide) rfl ?_
  refine aw_nl [some (.ref 181), some (.int v1), some (.ref (rAid v2)), some (.ref (rAid v3)), none, some (.int v5), none, none, some (.int v8), some (.int (0 : Int32))] rfl ?_
  refine aw_fl [some (.ref 181), none, some (.ref (rAid v2)), some (.ref (rAid v3)), none, some (.int v5), none, none, none, some (.int (0 : Int32))] ⟨rfl, ⟨rfl, ⟨rfl, ⟨rfl, ⟨rfl, trivial⟩⟩⟩⟩⟩ ?_
  exact rmX9_takes_l137 C rFU v2 v3 v5 (0 : Int32) (rSa (rSa (rSa (rSa (rSa σ s0 s1 s2) 39 v8 (rGa (rSa σ s0 s1 s2) 20 v1)) 40 v8 (rGa (rSa σ s0 s1 s2) 21 v1)) 41 v8 (σ.1 45)) 42 v8 v5) ia2 ia3 h
def mX9_takes_b18 (σ : RS9) : Option (Int32 × RS9) := some ((0 : Int32), σ)
set_option maxHeartbeats 1000000 in
theorem rmX9_takes_b18 {X : GX} {p : Program} {l : Launch} {e : Env} {s : State} {m : MethodId} {args : Array Value} {below : List Frame} {meth : Method} {c : Code} {f : AH} {n : Nat} {r : Int32 × RS9} {σ : RS9} (C : CC X p l (RM 3 0 0) s m args meth c RX9 cX9_takes 10 none) (h : mX9_takes_b18 σ = some r) : AW X p l e (RM 3 0 0) s m args below meth c 10 (ZM X below args s 0 0 (QMv f n r)) (rHm f σ) n 0 0 18 [none, none, none, none, none, none, none, none, none, none] [] := by
  have h : some ((0 : Int32), σ) = some r := h
  cases h
  exact aw_vret C rfl dX9_takes_18 (Nat.le_refl _) (Nat.le_refl _) ⟨rfl, rfl, rfl⟩
def mX9_takes (v1 : Int32) (v2 : Nat) (v3 : Nat) (v4 : Nat) (v5 : Int32) (v6 : Int32) (v7 : Int32) (σ : RS9) : Option (Int32 × RS9) := ((mX9_isLocked v1 σ).bind fun r1 => (if r1.1 = (0 : Int32) then ((mX9_isPiece v2 v5 r1.2).bind fun r2 => (if r2.1 = (0 : Int32) then mX9_takes_b18 r2.2 else rCk (rIn (0 : Int32) (rLen v3)) (rCk (rIn (r2.2.1 33) (rLen 34)) (rCk (rIn (v5 - (1 : Int32)) (rLen v4)) (rCk (rIn (r2.2.1 33) (rLen 35)) (rCk (rIn v1 (rLen 19)) (rCk (rIn (r2.2.1 33) (rLen 36)) (rCk (rIn (r2.2.1 33) (rLen 37)) ((if v6 = (0 : Int32) then mX9_takes_b87 v1 v2 v3 v5 (r2.2.1 33) 38 (r2.2.1 33) (0 : Int32) (rSa (rSa (rSa (rSa r2.2 34 (r2.2.1 33) (rGa r2.2 v3 (0 : Int32))) 35 (r2.2.1 33) (rGa (rSa r2.2 34 (r2.2.1 33) (rGa r2.2 v3 (0 : Int32))) v4 (v5 - (1 : Int32)))) 36 (r2.2.1 33) (rGa r2.2 19 v1)) 37 (r2.2.1 33) v7) else mX9_takes_b87 v1 v2 v3 v5 (r2.2.1 33) 38 (r2.2.1 33) (1 : Int32) (rSa (rSa (rSa (rSa r2.2 34 (r2.2.1 33) (rGa r2.2 v3 (0 : Int32))) 35 (r2.2.1 33) (rGa (rSa r2.2 34 (r2.2.1 33) (rGa r2.2 v3 (0 : Int32))) v4 (v5 - (1 : Int32)))) 36 (r2.2.1 33) (rGa r2.2 19 v1)) 37 (r2.2.1 33) v7))))))))))) else mX9_takes_b18 r1.2))
set_option maxHeartbeats 1000000 in
theorem rmX9_takes {X : GX} {l : Launch} {f : AH} {n : Nat} {r : Int32 × RS9} {v1 : Int32} {v2 : Nat} {v3 : Nat} {v4 : Nat} {v5 : Int32} {v6 : Int32} {v7 : Int32} {σ : RS9} (ia2 : rIsA v2 = true) (ia3 : rIsA v3 = true) (ia4 : rIsA v4 = true) (h : mX9_takes v1 v2 v3 v4 v5 v6 v7 σ = some r) : AM X l yX9_takes cX9_takes 10 none 3 0 0 [.ref 181, .int v1, .ref (rAid v2), .ref (rAid v3), .ref (rAid v4), .int v5, .int v6, .int v7] (rHm f σ) n (QMv f n r) := by
  have h : ((mX9_isLocked v1 σ).bind fun r1 => (if r1.1 = (0 : Int32) then ((mX9_isPiece v2 v5 r1.2).bind fun r2 => (if r2.1 = (0 : Int32) then mX9_takes_b18 r2.2 else rCk (rIn (0 : Int32) (rLen v3)) (rCk (rIn (r2.2.1 33) (rLen 34)) (rCk (rIn (v5 - (1 : Int32)) (rLen v4)) (rCk (rIn (r2.2.1 33) (rLen 35)) (rCk (rIn v1 (rLen 19)) (rCk (rIn (r2.2.1 33) (rLen 36)) (rCk (rIn (r2.2.1 33) (rLen 37)) ((if v6 = (0 : Int32) then mX9_takes_b87 v1 v2 v3 v5 (r2.2.1 33) 38 (r2.2.1 33) (0 : Int32) (rSa (rSa (rSa (rSa r2.2 34 (r2.2.1 33) (rGa r2.2 v3 (0 : Int32))) 35 (r2.2.1 33) (rGa (rSa r2.2 34 (r2.2.1 33) (rGa r2.2 v3 (0 : Int32))) v4 (v5 - (1 : Int32)))) 36 (r2.2.1 33) (rGa r2.2 19 v1)) 37 (r2.2.1 33) v7) else mX9_takes_b87 v1 v2 v3 v5 (r2.2.1 33) 38 (r2.2.1 33) (1 : Int32) (rSa (rSa (rSa (rSa r2.2 34 (r2.2.1 33) (rGa r2.2 v3 (0 : Int32))) 35 (r2.2.1 33) (rGa (rSa r2.2 34 (r2.2.1 33) (rGa r2.2 v3 (0 : Int32))) v4 (v5 - (1 : Int32)))) 36 (r2.2.1 33) (rGa r2.2 19 v1)) 37 (r2.2.1 33) v7))))))))))) else mX9_takes_b18 r1.2)) = some r := h
  refine AM.of (by decide +kernel) rfl (Nat.le_of_ble_eq_true rfl) (fun p e s m args below meth c C _ => ?_)
  refine aw_nl [some (.ref 181), some (.int v1), some (.ref (rAid v2)), some (.ref (rAid v3)), some (.ref (rAid v4)), some (.int v5), some (.int v6), some (.int v7), none, none] rfl ?_
  refine aw_ald_n C dX9_takes_0 rfl ?_
  refine aw_iload_n C dX9_takes_1 rfl ?_
  obtain ⟨r1, h1, h⟩ := Option.bind_eq_some_iff.mp h
  refine aw_callV C (ci := 9) (b := 181) [.int v1] mv_X9_210 rfl rfl (hm_M f σ) (rmX9_isLocked h1) rfl dX9_takes_2 (Nat.le_of_ble_eq_true rfl) (Nat.le_of_ble_eq_true rfl) rfl (Nat.le_of_ble_eq_true rfl) (Nat.le_of_ble_eq_true rfl) (Nat.le_of_ble_eq_true rfl) (fun v9 f9 n9 hh => ?_)
  obtain ⟨rfl, rfl, rfl⟩ := hh
  refine aw_if_ne C 18 dX9_takes_5 (by decide) (fun q => ?_) (fun q => ?_)
  · rw [if_neg q] at h
    refine aw_fl [none, none, none, none, none, none, none, none, none, none] trivial ?_
    exact rmX9_takes_b18 C h
  · rw [if_pos q] at h
    refine aw_ald_n C dX9_takes_8 rfl ?_
    refine aw_ald_n C dX9_takes_9 rfl ?_
    refine aw_iload C dX9_takes_10 rfl ?_
    obtain ⟨r2, h2, h⟩ := Option.bind_eq_some_iff.mp h
    refine aw_callV C (ci := 9) (b := 181) [.ref (rAid v2), .int v5] mv_X9_213 rfl rfl (hm_M f r1.2) (rmX9_isPiece ia2 h2) rfl dX9_takes_12 (Nat.le_of_ble_eq_true rfl) (Nat.le_of_ble_eq_true rfl) rfl (Nat.le_of_ble_eq_true rfl) (Nat.le_of_ble_eq_true rfl) (Nat.le_of_ble_eq_true rfl) (fun v9 f9 n9 hh => ?_)
    obtain ⟨rfl, rfl, rfl⟩ := hh
    refine aw_if_ne C 19 dX9_takes_15 (by decide) (fun q => ?_) (fun q => ?_)
    · rw [if_neg q] at h
      refine aw_ald_n C dX9_takes_19 rfl ?_
      refine aw_get C (v := .int (r2.2.1 33)) gf_X9_204 (hm_M f r2.2) rfl dX9_takes_20 ?_
      refine aw_istore C dX9_takes_23 (by decide) rfl ?_
      refine aw_nl [some (.ref 181), some (.int v1), some (.ref (rAid v2)), some (.ref (rAid v3)), some (.ref (rAid v4)), some (.int v5), some (.int v6), some (.int v7), some (.int (r2.2.1 33)), none] rfl ?_
      refine aw_ald_n C dX9_takes_25 rfl ?_
      refine aw_get C (v := .ref (rAid 34)) gf_X9_81 (hm_M f r2.2) rfl dX9_takes_26 ?_
      refine aw_iload C dX9_takes_29 rfl ?_
      refine aw_ald_n C dX9_takes_31 rfl ?_
      refine aw_iconst C 0 dX9_takes_32 ki_0 ?_
      obtain ⟨hb3, h⟩ := ck_some h
      refine am_iald C (rGa r2.2 v3 (0 : Int32)) ia3 (inb_vp hb3) rfl dX9_takes_33 ?_
      obtain ⟨hb4, h⟩ := ck_some h
      refine am_iast C rfl (inb_vp hb4) dX9_takes_34 ?_
      refine aw_ald_n C dX9_takes_35 rfl ?_
      refine aw_get C (v := .ref (rAid 35)) gf_X9_84 (hm_M f (rSa r2.2 34 (r2.2.1 33) (rGa r2.2 v3 (0 : Int32)))) rfl dX9_takes_36 ?_
      refine aw_iload C dX9_takes_39 rfl ?_
      refine aw_ald C dX9_takes_41 rfl ?_
      refine aw_iload C dX9_takes_43 rfl ?_
      refine aw_iconst C 1 dX9_takes_45 ki_1 ?_
      refine aw_isub C dX9_takes_46 ?_
      obtain ⟨hb5, h⟩ := ck_some h
      refine am_iald C (rGa (rSa r2.2 34 (r2.2.1 33) (rGa r2.2 v3 (0 : Int32))) v4 (v5 - (1 : Int32))) ia4 (inb_vp hb5) rfl dX9_takes_47 ?_
      obtain ⟨hb6, h⟩ := ck_some h
      refine am_iast C rfl (inb_vp hb6) dX9_takes_48 ?_
      refine aw_ald_n C dX9_takes_49 rfl ?_
      refine aw_get C (v := .ref (rAid 36)) gf_X9_87 (hm_M f (rSa (rSa r2.2 34 (r2.2.1 33) (rGa r2.2 v3 (0 : Int32))) 35 (r2.2.1 33) (rGa (rSa r2.2 34 (r2.2.1 33) (rGa r2.2 v3 (0 : Int32))) v4 (v5 - (1 : Int32))))) rfl dX9_takes_50 ?_
      refine aw_iload C dX9_takes_53 rfl ?_
      refine aw_ald_n C dX9_takes_55 rfl ?_
      refine aw_get C (v := .ref (rAid 19)) gf_X9_45 (hm_M f (rSa (rSa r2.2 34 (r2.2.1 33) (rGa r2.2 v3 (0 : Int32))) 35 (r2.2.1 33) (rGa (rSa r2.2 34 (r2.2.1 33) (rGa r2.2 v3 (0 : Int32))) v4 (v5 - (1 : Int32))))) rfl dX9_takes_56 ?_
      refine aw_iload_n C dX9_takes_59 rfl ?_
      obtain ⟨hb7, h⟩ := ck_some h
      refine am_iald C (rGa r2.2 19 v1) rfl (inb_vp hb7) rfl dX9_takes_60 ?_
      obtain ⟨hb8, h⟩ := ck_some h
      refine am_iast C rfl (inb_vp hb8) dX9_takes_61 ?_
      refine aw_ald_n C dX9_takes_62 rfl ?_
      refine aw_get C (v := .ref (rAid 37)) gf_X9_90 (hm_M f (rSa (rSa (rSa r2.2 34 (r2.2.1 33) (rGa r2.2 v3 (0 : Int32))) 35 (r2.2.1 33) (rGa (rSa r2.2 34 (r2.2.1 33) (rGa r2.2 v3 (0 : Int32))) v4 (v5 - (1 : Int32)))) 36 (r2.2.1 33) (rGa r2.2 19 v1))) rfl dX9_takes_63 ?_
      refine aw_iload C dX9_takes_66 rfl ?_
      refine aw_iload C dX9_takes_68 rfl ?_
      obtain ⟨hb9, h⟩ := ck_some h
      refine am_iast C rfl (inb_vp hb9) dX9_takes_70 ?_
      refine aw_ald_n C dX9_takes_71 rfl ?_
      refine aw_get C (v := .ref (rAid 38)) gf_X9_93 (hm_M f (rSa (rSa (rSa (rSa r2.2 34 (r2.2.1 33) (rGa r2.2 v3 (0 : Int32))) 35 (r2.2.1 33) (rGa (rSa r2.2 34 (r2.2.1 33) (rGa r2.2 v3 (0 : Int32))) v4 (v5 - (1 : Int32)))) 36 (r2.2.1 33) (rGa r2.2 19 v1)) 37 (r2.2.1 33) v7)) rfl dX9_takes_72 ?_
      refine aw_iload C dX9_takes_75 rfl ?_
      refine aw_iload C dX9_takes_77 rfl ?_
      refine aw_if_eq C 86 dX9_takes_79 (by decide) (fun q => ?_) (fun q => ?_)
      · rw [if_pos q] at h
        refine aw_iconst C 0 dX9_takes_86 ki_0 ?_
        refine aw_fl [some (.ref 181), some (.int v1), some (.ref (rAid v2)), some (.ref (rAid v3)), none, some (.int v5), none, none, some (.int (r2.2.1 33)), none] ⟨rfl, ⟨rfl, ⟨rfl, ⟨rfl, ⟨rfl, ⟨rfl, trivial⟩⟩⟩⟩⟩⟩ ?_
        exact rmX9_takes_b87 C ia2 ia3 rfl h
      · rw [if_neg q] at h
        refine aw_iconst C 1 dX9_takes_82 ki_1 ?_
        refine aw_goto C 87 dX9_takes_83 (by decide) ?_
        refine aw_fl [some (.ref 181), some (.int v1), some (.ref (rAid v2)), some (.ref (rAid v3)), none, some (.int v5), none, none, some (.int (r2.2.1 33)), none] ⟨rfl, ⟨rfl, ⟨rfl, ⟨rfl, ⟨rfl, ⟨rfl, trivial⟩⟩⟩⟩⟩⟩ ?_
        exact rmX9_takes_b87 C ia2 ia3 rfl h
    · rw [if_pos q] at h
      refine aw_fl [none, none, none, none, none, none, none, none, none, none] trivial ?_
      exact rmX9_takes_b18 C h
def mX9_isPieceThere (v1 : Int32) (σ : RS9) : Option (Int32 × RS9) := ((mX9_isIn v1 (0 : Int32) ((σ.1 33) - (1 : Int32)) σ).bind fun r1 => rCk (rNb r1.1) (some (r1.1, r1.2)))
set_option maxHeartbeats 1000000 in
theorem rmX9_isPieceThere {X : GX} {l : Launch} {f : AH} {n : Nat} {r : Int32 × RS9} {v1 : Int32} {σ : RS9} (h : mX9_isPieceThere v1 σ = some r) : AM X l yX9_isPieceThere cX9_isPieceThere 2 (some .boolean) 1 0 0 [.ref 181, .int v1] (rHm f σ) n (QMi f n r) := by
  have h : ((mX9_isIn v1 (0 : Int32) ((σ.1 33) - (1 : Int32)) σ).bind fun r1 => rCk (rNb r1.1) (some (r1.1, r1.2))) = some r := h
  refine AM.of (by decide +kernel) rfl (Nat.le_of_ble_eq_true rfl) (fun p e s m args below meth c C _ => ?_)
  refine aw_nl [some (.ref 181), some (.int v1)] rfl ?_
  refine aw_iload_n C dX9_isPieceThere_0 rfl ?_
  refine aw_iconst C 0 dX9_isPieceThere_1 ki_0 ?_
  refine aw_ald_n C dX9_isPieceThere_2 rfl ?_
  refine aw_get C (v := .int (σ.1 33)) gf_X9_204 (hm_M f σ) rfl dX9_isPieceThere_3 ?_
  refine aw_iconst C 1 dX9_isPieceThere_6 ki_1 ?_
  refine aw_isub C dX9_isPieceThere_7 ?_
  obtain ⟨r1, h1, h⟩ := Option.bind_eq_some_iff.mp h
  refine aw_callS C [.int v1, .int (0 : Int32), .int ((σ.1 33) - (1 : Int32))] ms_X9_141 (rmX9_isIn h1) rfl dX9_isPieceThere_8 (Nat.le_of_ble_eq_true rfl) (Nat.le_of_ble_eq_true rfl) rfl (Nat.le_of_ble_eq_true rfl) (Nat.le_of_ble_eq_true rfl) (Nat.le_of_ble_eq_true rfl) (fun v9 f9 n9 hh => ?_)
  obtain ⟨rfl, rfl, rfl⟩ := hh
  obtain ⟨hb2, h⟩ := ck_some h
  cases h
  exact aw_iret C rfl (nb_nar hb2) dX9_isPieceThere_11 (Nat.le_refl _) (Nat.le_refl _) ⟨rfl, rfl, rfl⟩
def mX9_toldOf (v1 : Int32) (σ : RS9) : Option (Int32 × RS9) := rCk (rIn ((443 : Int32) + ((61 : Int32) * v1)) (rLen 1)) (some ((rGa σ 1 ((443 : Int32) + ((61 : Int32) * v1))), σ))
set_option maxHeartbeats 1000000 in
theorem rmX9_toldOf {X : GX} {l : Launch} {f : AH} {n : Nat} {r : Int32 × RS9} {v1 : Int32} {σ : RS9} (h : mX9_toldOf v1 σ = some r) : AM X l yX9_toldOf cX9_toldOf 2 (some .int) 0 0 0 [.ref 181, .int v1] (rHm f σ) n (QMi f n r) := by
  have h : rCk (rIn ((443 : Int32) + ((61 : Int32) * v1)) (rLen 1)) (some ((rGa σ 1 ((443 : Int32) + ((61 : Int32) * v1))), σ)) = some r := h
  refine AM.of (by decide +kernel) rfl (Nat.le_of_ble_eq_true rfl) (fun p e s m args below meth c C _ => ?_)
  refine aw_nl [some (.ref 181), some (.int v1)] rfl ?_
  refine aw_ald_n C dX9_toldOf_0 rfl ?_
  refine aw_get C (v := .ref (rAid 1)) gf_X9_7 (hm_M f σ) rfl dX9_toldOf_1 ?_
  refine aw_sipush C 443 dX9_toldOf_4 ks_443 ?_
  refine aw_bipush C 61 dX9_toldOf_7 kb_61 ?_
  refine aw_iload_n C dX9_toldOf_9 rfl ?_
  refine aw_imul C dX9_toldOf_10 ?_
  refine aw_iadd C dX9_toldOf_11 ?_
  obtain ⟨hb1, h⟩ := ck_some h
  refine am_iald C (rGa σ 1 ((443 : Int32) + ((61 : Int32) * v1))) rfl (inb_vp hb1) rfl dX9_toldOf_12 ?_
  cases h
  exact aw_iret C rfl rfl dX9_toldOf_13 (Nat.le_refl _) (Nat.le_refl _) ⟨rfl, rfl, rfl⟩
def mX9_toldAt (v1 : Int32) (v2 : Int32) (σ : RS9) : Option (Int32 × RS9) := rCk (rIn ((((443 : Int32) + ((61 : Int32) * v1)) + (1 : Int32)) + v2) (rLen 1)) (some ((rGa σ 1 ((((443 : Int32) + ((61 : Int32) * v1)) + (1 : Int32)) + v2)), σ))
set_option maxHeartbeats 1000000 in
theorem rmX9_toldAt {X : GX} {l : Launch} {f : AH} {n : Nat} {r : Int32 × RS9} {v1 : Int32} {v2 : Int32} {σ : RS9} (h : mX9_toldAt v1 v2 σ = some r) : AM X l yX9_toldAt cX9_toldAt 3 (some .int) 0 0 0 [.ref 181, .int v1, .int v2] (rHm f σ) n (QMi f n r) := by
  have h : rCk (rIn ((((443 : Int32) + ((61 : Int32) * v1)) + (1 : Int32)) + v2) (rLen 1)) (some ((rGa σ 1 ((((443 : Int32) + ((61 : Int32) * v1)) + (1 : Int32)) + v2)), σ)) = some r := h
  refine AM.of (by decide +kernel) rfl (Nat.le_of_ble_eq_true rfl) (fun p e s m args below meth c C _ => ?_)
  refine aw_nl [some (.ref 181), some (.int v1), some (.int v2)] rfl ?_
  refine aw_ald_n C dX9_toldAt_0 rfl ?_
  refine aw_get C (v := .ref (rAid 1)) gf_X9_7 (hm_M f σ) rfl dX9_toldAt_1 ?_
  refine aw_sipush C 443 dX9_toldAt_4 ks_443 ?_
  refine aw_bipush C 61 dX9_toldAt_7 kb_61 ?_
  refine aw_iload_n C dX9_toldAt_9 rfl ?_
  refine aw_imul C dX9_toldAt_10 ?_
  refine aw_iadd C dX9_toldAt_11 ?_
  refine aw_iconst C 1 dX9_toldAt_12 ki_1 ?_
  refine aw_iadd C dX9_toldAt_13 ?_
  refine aw_iload_n C dX9_toldAt_14 rfl ?_
  refine aw_iadd C dX9_toldAt_15 ?_
  obtain ⟨hb1, h⟩ := ck_some h
  refine am_iald C (rGa σ 1 ((((443 : Int32) + ((61 : Int32) * v1)) + (1 : Int32)) + v2)) rfl (inb_vp hb1) rfl dX9_toldAt_16 ?_
  cases h
  exact aw_iret C rfl rfl dX9_toldAt_17 (Nat.le_refl _) (Nat.le_refl _) ⟨rfl, rfl, rfl⟩
def mX9_holdsTold_l2 : Nat → Int32 → Int32 → RS9 → Option (Int32 × RS9)
  | 0, _, _, _ => none
  | d + 1, v1, v2, σ => ((mX9_toldOf v1 σ).bind fun r1 => (if r1.1 ≤ v2 then some ((0 : Int32), r1.2) else ((mX9_toldAt v1 v2 r1.2).bind fun r2 => rCk (rIn v2 (rLen 53)) (mX9_holdsTold_l2 d v1 (v2 + (1 : Int32)) (rSa r2.2 53 v2 r2.1)))))
set_option maxHeartbeats 1000000 in
theorem rmX9_holdsTold_l2 {X : GX} {p : Program} {l : Launch} {e : Env} {s : State} {m : MethodId} {args : Array Value} {below : List Frame} {meth : Method} {c : Code} {f : AH} {n : Nat} {r : Int32 × RS9} (C : CC X p l (RM 1 0 0) s m args meth c RX9 cX9_holdsTold 3 none) : ∀ (d : Nat) (v1 : Int32) (v2 : Int32) (σ : RS9) (_ : mX9_holdsTold_l2 d v1 v2 σ = some r), AW X p l e (RM 1 0 0) s m args below meth c 3 (ZM X below args s 0 0 (QMv f n r)) (rHm f σ) n 0 0 2 [some (.ref 181), some (.int v1), some (.int v2)] [] := by
  intro d
  induction d with
  | zero =>
    intro v1 v2 σ h
    exact nomatch (show (none : Option (Int32 × RS9)) = some r from h)
  | succ d ih =>
    intro v1 v2 σ h
    have h : ((mX9_toldOf v1 σ).bind fun r1 => (if r1.1 ≤ v2 then some ((0 : Int32), r1.2) else ((mX9_toldAt v1 v2 r1.2).bind fun r2 => rCk (rIn v2 (rLen 53)) (mX9_holdsTold_l2 d v1 (v2 + (1 : Int32)) (rSa r2.2 53 v2 r2.1))))) = some r := h
    refine aw_iload_n C dX9_holdsTold_2 rfl ?_
    refine aw_ald_n C dX9_holdsTold_3 rfl ?_
    refine aw_iload_n C dX9_holdsTold_4 rfl ?_
    obtain ⟨r1, h1, h⟩ := Option.bind_eq_some_iff.mp h
    refine aw_callV C (ci := 9) (b := 181) [.int v1] mv_X9_247 rfl rfl (hm_M f σ) (rmX9_toldOf h1) rfl dX9_holdsTold_5 (Nat.le_of_ble_eq_true rfl) (Nat.le_of_ble_eq_true rfl) rfl (Nat.le_of_ble_eq_true rfl) (Nat.le_of_ble_eq_true rfl) (Nat.le_of_ble_eq_true rfl) (fun v9 f9 n9 hh => ?_)
    obtain ⟨rfl, rfl, rfl⟩ := hh
    refine aw_icmp_ge C 29 dX9_holdsTold_8 (by decide) (fun q => ?_) (fun q => ?_)
    · rw [if_pos q] at h
      cases h
      exact aw_vret C rfl dX9_holdsTold_29 (Nat.le_refl _) (Nat.le_refl _) ⟨rfl, rfl, rfl⟩
    · rw [if_neg q] at h
      refine aw_ald_n C dX9_holdsTold_11 rfl ?_
      refine aw_get C (v := .ref (rAid 53)) gf_X9_132 (hm_M f r1.2) rfl dX9_holdsTold_12 ?_
      refine aw_iload_n C dX9_holdsTold_15 rfl ?_
      refine aw_ald_n C dX9_holdsTold_16 rfl ?_
      refine aw_iload_n C dX9_holdsTold_17 rfl ?_
      refine aw_iload_n C dX9_holdsTold_18 rfl ?_
      obtain ⟨r2, h2, h⟩ := Option.bind_eq_some_iff.mp h
      refine aw_callV C (ci := 9) (b := 181) [.int v1, .int v2] mv_X9_251 rfl rfl (hm_M f r1.2) (rmX9_toldAt h2) rfl dX9_holdsTold_19 (Nat.le_of_ble_eq_true rfl) (Nat.le_of_ble_eq_true rfl) rfl (Nat.le_of_ble_eq_true rfl) (Nat.le_of_ble_eq_true rfl) (Nat.le_of_ble_eq_true rfl) (fun v9 f9 n9 hh => ?_)
      obtain ⟨rfl, rfl, rfl⟩ := hh
      obtain ⟨hb3, h⟩ := ck_some h
      refine am_iast C rfl (inb_vp hb3) dX9_holdsTold_22 ?_
      refine aw_iinc C (v2 + (1 : Int32)) dX9_holdsTold_23 rfl (by rw [ki_1]) (by decide) rfl ?_
      refine aw_nl [some (.ref 181), some (.int v1), some (.int (v2 + (1 : Int32)))] rfl ?_
      refine aw_goto C 2 dX9_holdsTold_26 (by decide) ?_
      refine aw_fl [some (.ref 181), some (.int v1), some (.int (v2 + (1 : Int32)))] ⟨rfl, ⟨rfl, ⟨rfl, trivial⟩⟩⟩ ?_
      exact ih v1 (v2 + (1 : Int32)) (rSa r2.2 53 v2 r2.1) h
def mX9_holdsTold (v1 : Int32) (σ : RS9) : Option (Int32 × RS9) := mX9_holdsTold_l2 rFU v1 (0 : Int32) σ
set_option maxHeartbeats 1000000 in
theorem rmX9_holdsTold {X : GX} {l : Launch} {f : AH} {n : Nat} {r : Int32 × RS9} {v1 : Int32} {σ : RS9} (h : mX9_holdsTold v1 σ = some r) : AM X l yX9_holdsTold cX9_holdsTold 3 none 1 0 0 [.ref 181, .int v1] (rHm f σ) n (QMv f n r) := by
  have h : mX9_holdsTold_l2 rFU v1 (0 : Int32) σ = some r := h
  refine AM.of (by decide +kernel) rfl (Nat.le_of_ble_eq_true rfl) (fun p e s m args below meth c C _ => ?_)
  refine aw_nl [some (.ref 181), some (.int v1), none] rfl ?_
  refine aw_iconst C 0 dX9_holdsTold_0 ki_0 ?_
  refine aw_istore_n C dX9_holdsTold_1 (by decide) rfl ?_
  refine aw_nl [some (.ref 181), some (.int v1), some (.int (0 : Int32))] rfl ?_
  refine aw_fl [some (.ref 181), some (.int v1), some (.int (0 : Int32))] ⟨rfl, ⟨rfl, ⟨rfl, trivial⟩⟩⟩ ?_
  exact rmX9_holdsTold_l2 C rFU v1 (0 : Int32) σ h
