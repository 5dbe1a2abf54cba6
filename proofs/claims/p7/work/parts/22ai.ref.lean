def mX9_hasWord_b86 (rec2 : Int32 → Int32 → Int32 → RS9 → Option (Int32 × RS9)) (v1 : Int32) (v2 : Int32) (v3 : Int32) (v4 : Int32) (σ : RS9) : Option (Int32 × RS9) := (if v4 = (0 : Int32) then rec2 v1 v2 (v3 + (1 : Int32)) σ else rCk (rNb (1 : Int32)) (some ((1 : Int32), σ)))
set_option maxHeartbeats 1000000 in
theorem rmX9_hasWord_b86 {X : GX} {p : Program} {l : Launch} {e : Env} {s : State} {m : MethodId} {args : Array Value} {below : List Frame} {meth : Method} {c : Code} {f : AH} {n : Nat} {r : Int32 × RS9} {rec2 : Int32 → Int32 → Int32 → RS9 → Option (Int32 × RS9)} {v1 : Int32} {v2 : Int32} {v3 : Int32} {v4 : Int32} {σ : RS9} (C : CC X p l (RM 2 0 0) s m args meth c RX9 cX9_hasWord 7 (some .boolean)) (Hr2 : ∀ (v1 : Int32) (v2 : Int32) (v3 : Int32) (σ : RS9), rec2 v1 v2 v3 σ = some r → AW X p l e (RM 2 0 0) s m args below meth c 7 (ZM X below args s 0 0 (QMi f n r)) (rHm f σ) n 0 0 2 [some (.ref 181), some (.int v1), some (.int v2), some (.int v3), none, none, none] []) (h : mX9_hasWord_b86 rec2 v1 v2 v3 v4 σ = some r) : AW X p l e (RM 2 0 0) s m args below meth c 7 (ZM X below args s 0 0 (QMi f n r)) (rHm f σ) n 0 0 86 [some (.ref 181), some (.int v1), some (.int v2), some (.int v3), some (.int v4), none, none] [] := by
  have h : (if v4 = (0 : Int32) then rec2 v1 v2 (v3 + (1 : Int32)) σ else rCk (rNb (1 : Int32)) (some ((1 : Int32), σ))) = some r := h
  refine aw_iload C dX9_hasWord_86 rfl ?_
  refine aw_if_eq C 93 dX9_hasWord_88 (by decide) (fun q => ?_) (fun q => ?_)
  · rw [if_pos q] at h
    refine aw_iinc C (v3 + (1 : Int32)) dX9_hasWord_93 rfl (by rw [ki_1]) (by decide) rfl ?_
    refine aw_nl [some (.ref 181), some (.int v1), some (.int v2), some (.int (v3 + (1 : Int32))), some (.int v4), none, none] rfl ?_
    refine aw_goto C 2 dX9_hasWord_96 (by decide) ?_
    refine aw_fl [some (.ref 181), some (.int v1), some (.int v2), some (.int (v3 + (1 : Int32))), none, none, none] ⟨rfl, ⟨rfl, ⟨rfl, ⟨rfl, trivial⟩⟩⟩⟩ ?_
    exact Hr2 v1 v2 (v3 + (1 : Int32)) σ h
  · rw [if_neg q] at h
    refine aw_iconst C 1 dX9_hasWord_91 ki_1 ?_
    obtain ⟨hb1, h⟩ := ck_some h
    cases h
    exact aw_iret C rfl (nb_nar hb1) dX9_hasWord_92 (Nat.le_refl _) (Nat.le_refl _) ⟨rfl, rfl, rfl⟩
def mX9_hasWord_b78 (rec2 : Int32 → Int32 → Int32 → RS9 → Option (Int32 × RS9)) (rec19 : Int32 → Int32 → Int32 → Int32 → Int32 → RS9 → Option (Int32 × RS9)) (v1 : Int32) (v2 : Int32) (v3 : Int32) (v5 : Int32) (s0 : Int32) (σ : RS9) : Option (Int32 × RS9) := rec19 v1 v2 v3 s0 (v5 + (1 : Int32)) σ
set_option maxHeartbeats 1000000 in
theorem rmX9_hasWord_b78 {X : GX} {p : Program} {l : Launch} {e : Env} {s : State} {m : MethodId} {args : Array Value} {below : List Frame} {meth : Method} {c : Code} {f : AH} {n : Nat} {r : Int32 × RS9} {rec2 : Int32 → Int32 → Int32 → RS9 → Option (Int32 × RS9)} {rec19 : Int32 → Int32 → Int32 → Int32 → Int32 → RS9 → Option (Int32 × RS9)} {v1 : Int32} {v2 : Int32} {v3 : Int32} {v5 : Int32} {s0 : Int32} {σ : RS9} (C : CC X p l (RM 2 0 0) s m args meth c RX9 cX9_hasWord 7 (some .boolean)) (Hr2 : ∀ (v1 : Int32) (v2 : Int32) (v3 : Int32) (σ : RS9), rec2 v1 v2 v3 σ = some r → AW X p l e (RM 2 0 0) s m args below meth c 7 (ZM X below args s 0 0 (QMi f n r)) (rHm f σ) n 0 0 2 [some (.ref 181), some (.int v1), some (.int v2), some (.int v3), none, none, none] []) (Hr19 : ∀ (v1 : Int32) (v2 : Int32) (v3 : Int32) (v4 : Int32) (v5 : Int32) (σ : RS9), rec19 v1 v2 v3 v4 v5 σ = some r → AW X p l e (RM 2 0 0) s m args below meth c 7 (ZM X below args s 0 0 (QMi f n r)) (rHm f σ) n 0 0 19 [some (.ref 181), some (.int v1), some (.int v2), some (.int v3), some (.int v4), some (.int v5), none] []) (h : mX9_hasWord_b78 rec2 rec19 v1 v2 v3 v5 s0 σ = some r) : AW X p l e (RM 2 0 0) s m args below meth c 7 (ZM X below args s 0 0 (QMi f n r)) (rHm f σ) n 0 0 78 [some (.ref 181), some (.int v1), some (.int v2), some (.int v3), none, some (.int v5), none] [.int s0] := by
  have h : rec19 v1 v2 v3 s0 (v5 + (1 : Int32)) σ = some r := h
  refine aw_istore C dX9_hasWord_78 (by decide) rfl ?_
  refine aw_nl [some (.ref 181), some (.int v1), some (.int v2), some (.int v3), some (.int s0), some (.int v5), none] rfl ?_
  refine aw_iinc C (v5 + (1 : Int32)) dX9_hasWord_80 rfl (by rw [ki_1]) (by decide) rfl ?_
  refine aw_nl [some (.ref 181), some (.int v1), some (.int v2), some (.int v3), some (.int s0), some (.int (v5 + (1 : Int32))), none] rfl ?_
  refine aw_goto C 19 dX9_hasWord_83 (by decide) ?_
  refine aw_fl [some (.ref 181), some (.int v1), some (.int v2), some (.int v3), some (.int s0), some (.int (v5 + (1 : Int32))), none] ⟨rfl, ⟨rfl, ⟨rfl, ⟨rfl, ⟨rfl, ⟨rfl, trivial⟩⟩⟩⟩⟩⟩ ?_
  exact Hr19 v1 v2 v3 s0 (v5 + (1 : Int32)) σ h
def mX9_hasWord_b70 (rec2 : Int32 → Int32 → Int32 → RS9 → Option (Int32 × RS9)) (rec19 : Int32 → Int32 → Int32 → Int32 → Int32 → RS9 → Option (Int32 × RS9)) (v1 : Int32) (v2 : Int32) (v3 : Int32) (v5 : Int32) (s0 : Int32) (s1 : Int32) (σ : RS9) : Option (Int32 × RS9) := (if s0 = s1 then mX9_hasWord_b78 rec2 rec19 v1 v2 v3 v5 (1 : Int32) σ else mX9_hasWord_b78 rec2 rec19 v1 v2 v3 v5 (0 : Int32) σ)
set_option maxHeartbeats 1000000 in
theorem rmX9_hasWord_b70 {X : GX} {p : Program} {l : Launch} {e : Env} {s : State} {m : MethodId} {args : Array Value} {below : List Frame} {meth : Method} {c : Code} {f : AH} {n : Nat} {r : Int32 × RS9} {rec2 : Int32 → Int32 → Int32 → RS9 → Option (Int32 × RS9)} {rec19 : Int32 → Int32 → Int32 → Int32 → Int32 → RS9 → Option (Int32 × RS9)} {v1 : Int32} {v2 : Int32} {v3 : Int32} {v5 : Int32} {s0 : Int32} {s1 : Int32} {σ : RS9} (C : CC X p l (RM 2 0 0) s m args meth c RX9 cX9_hasWord 7 (some .boolean)) (Hr2 : ∀ (v1 : Int32) (v2 : Int32) (v3 : Int32) (σ : RS9), rec2 v1 v2 v3 σ = some r → AW X p l e (RM 2 0 0) s m args below meth c 7 (ZM X below args s 0 0 (QMi f n r)) (rHm f σ) n 0 0 2 [some (.ref 181), some (.int v1), some (.int v2), some (.int v3), none, none, none] []) (Hr19 : ∀ (v1 : Int32) (v2 : Int32) (v3 : Int32) (v4 : Int32) (v5 : Int32) (σ : RS9), rec19 v1 v2 v3 v4 v5 σ = some r → AW X p l e (RM 2 0 0) s m args below meth c 7 (ZM X below args s 0 0 (QMi f n r)) (rHm f σ) n 0 0 19 [some (.ref 181), some (.int v1), some (.int v2), some (.int v3), some (.int v4), some (.int v5), none] []) (h : mX9_hasWord_b70 rec2 rec19 v1 v2 v3 v5 s0 s1 σ = some r) : AW X p l e (RM 2 0 0) s m args below meth c 7 (ZM X below args s 0 0 (QMi f n r)) (rHm f σ) n 0 0 70 [some (.ref 181), some (.int v1), some (.int v2), some (.int v3), none, some (.int v5), none] [.int s1, .int s0] := by
  have h : (if s0 = s1 then mX9_hasWord_b78 rec2 rec19 v1 v2 v3 v5 (1 : Int32) σ else mX9_hasWord_b78 rec2 rec19 v1 v2 v3 v5 (0 : Int32) σ) = some r := h
  refine aw_icmp_ne C 77 dX9_hasWord_70 (by decide) (fun q => ?_) (fun q => ?_)
  · rw [if_neg q] at h
    refine aw_iconst C 0 dX9_hasWord_77 ki_0 ?_
    refine aw_fl [some (.ref 181), some (.int v1), some (.int v2), some (.int v3), none, some (.int v5), none] ⟨rfl, ⟨rfl, ⟨rfl, ⟨rfl, ⟨rfl, trivial⟩⟩⟩⟩⟩ ?_
    exact rmX9_hasWord_b78 C Hr2 Hr19 h
  · rw [if_pos q] at h
    refine aw_iconst C 1 dX9_hasWord_73 ki_1 ?_
    refine aw_goto C 78 dX9_hasWord_74 (by decide) ?_
    refine aw_fl [some (.ref 181), some (.int v1), some (.int v2), some (.int v3), none, some (.int v5), none] ⟨rfl, ⟨rfl, ⟨rfl, ⟨rfl, ⟨rfl, trivial⟩⟩⟩⟩⟩ ?_
    exact rmX9_hasWord_b78 C Hr2 Hr19 h
def mX9_hasWord_l19 (rec2 : Int32 → Int32 → Int32 → RS9 → Option (Int32 × RS9)) : Nat → Int32 → Int32 → Int32 → Int32 → Int32 → RS9 → Option (Int32 × RS9)
  | 0, _, _, _, _, _, _ => none
  | d + 1, v1, v2, v3, v4, v5, σ => (if v2 ≤ v5 then mX9_hasWord_b86 rec2 v1 v2 v3 v4 σ else (if v4 = (0 : Int32) then mX9_hasWord_b86 rec2 v1 v2 v3 v4 σ else ((mX9_nowByte v1 (v3 + v5) σ).bind fun r1 => rCk (rIn v5 (rLen 8)) (((mX9_isIn r1.1 (65 : Int32) (90 : Int32) r1.2).bind fun r3 => (if r3.1 = (0 : Int32) then mX9_hasWord_b70 rec2 (fun v1 v2 v3 v4 v5 σ => mX9_hasWord_l19 rec2 d v1 v2 v3 v4 v5 σ) v1 v2 v3 v5 (rGa r1.2 8 v5) r1.1 r3.2 else mX9_hasWord_b70 rec2 (fun v1 v2 v3 v4 v5 σ => mX9_hasWord_l19 rec2 d v1 v2 v3 v4 v5 σ) v1 v2 v3 v5 (rGa r1.2 8 v5) (r1.1 + (32 : Int32)) r3.2))))))
set_option maxHeartbeats 1000000 in
theorem rmX9_hasWord_l19 {X : GX} {p : Program} {l : Launch} {e : Env} {s : State} {m : MethodId} {args : Array Value} {below : List Frame} {meth : Method} {c : Code} {f : AH} {n : Nat} {r : Int32 × RS9} {rec2 : Int32 → Int32 → Int32 → RS9 → Option (Int32 × RS9)} (C : CC X p l (RM 2 0 0) s m args meth c RX9 cX9_hasWord 7 (some .boolean)) (Hr2 : ∀ (v1 : Int32) (v2 : Int32) (v3 : Int32) (σ : RS9), rec2 v1 v2 v3 σ = some r → AW X p l e (RM 2 0 0) s m args below meth c 7 (ZM X below args s 0 0 (QMi f n r)) (rHm f σ) n 0 0 2 [some (.ref 181), some (.int v1), some (.int v2), some (.int v3), none, none, none] []) : ∀ (d : Nat) (v1 : Int32) (v2 : Int32) (v3 : Int32) (v4 : Int32) (v5 : Int32) (σ : RS9) (_ : mX9_hasWord_l19 rec2 d v1 v2 v3 v4 v5 σ = some r), AW X p l e (RM 2 0 0) s m args below meth c 7 (ZM X below args s 0 0 (QMi f n r)) (rHm f σ) n 0 0 19 [some (.ref 181), some (.int v1), some (.int v2), some (.int v3), some (.int v4), some (.int v5), none] [] := by
  intro d
  induction d with
  | zero =>
    intro v1 v2 v3 v4 v5 σ h
    exact nomatch (show (none : Option (Int32 × RS9)) = some r from h)
  | succ d ih =>
    intro v1 v2 v3 v4 v5 σ h
    have h : (if v2 ≤ v5 then mX9_hasWord_b86 rec2 v1 v2 v3 v4 σ else (if v4 = (0 : Int32) then mX9_hasWord_b86 rec2 v1 v2 v3 v4 σ else ((mX9_nowByte v1 (v3 + v5) σ).bind fun r1 => rCk (rIn v5 (rLen 8)) (((mX9_isIn r1.1 (65 : Int32) (90 : Int32) r1.2).bind fun r3 => (if r3.1 = (0 : Int32) then mX9_hasWord_b70 rec2 (fun v1 v2 v3 v4 v5 σ => mX9_hasWord_l19 rec2 d v1 v2 v3 v4 v5 σ) v1 v2 v3 v5 (rGa r1.2 8 v5) r1.1 r3.2 else mX9_hasWord_b70 rec2 (fun v1 v2 v3 v4 v5 σ => mX9_hasWord_l19 rec2 d v1 v2 v3 v4 v5 σ) v1 v2 v3 v5 (rGa r1.2 8 v5) (r1.1 + (32 : Int32)) r3.2)))))) = some r := h
    refine aw_iload C dX9_hasWord_19 rfl ?_
    refine aw_iload_n C dX9_hasWord_21 rfl ?_
    refine aw_icmp_ge C 86 dX9_hasWord_22 (by decide) (fun q => ?_) (fun q => ?_)
    · rw [if_pos q] at h
      refine aw_fl [some (.ref 181), some (.int v1), some (.int v2), some (.int v3), some (.int v4), none, none] ⟨rfl, ⟨rfl, ⟨rfl, ⟨rfl, ⟨rfl, trivial⟩⟩⟩⟩⟩ ?_
      exact rmX9_hasWord_b86 C Hr2 h
    · rw [if_neg q] at h
      refine aw_iload C dX9_hasWord_25 rfl ?_
      refine aw_if_eq C 86 dX9_hasWord_27 (by decide) (fun q => ?_) (fun q => ?_)
      · rw [if_pos q] at h
        refine aw_fl [some (.ref 181), some (.int v1), some (.int v2), some (.int v3), some (.int v4), none, none] ⟨rfl, ⟨rfl, ⟨rfl, ⟨rfl, ⟨rfl, trivial⟩⟩⟩⟩⟩ ?_
        exact rmX9_hasWord_b86 C Hr2 h
      · rw [if_neg q] at h
        refine aw_ald_n C dX9_hasWord_30 rfl ?_
        refine aw_iload_n C dX9_hasWord_31 rfl ?_
        refine aw_iload_n C dX9_hasWord_32 rfl ?_
        refine aw_iload C dX9_hasWord_33 rfl ?_
        refine aw_iadd C dX9_hasWord_35 ?_
        obtain ⟨r1, h1, h⟩ := Option.bind_eq_some_iff.mp h
        refine aw_callV C (ci := 9) (b := 181) [.int v1, .int (v3 + v5)] mv_X9_316 rfl rfl (hm_M f σ) (rmX9_nowByte h1) rfl dX9_hasWord_36 (Nat.le_of_ble_eq_true rfl) (Nat.le_of_ble_eq_true rfl) rfl (Nat.le_of_ble_eq_true rfl) (Nat.le_of_ble_eq_true rfl) (Nat.le_of_ble_eq_true rfl) (fun v9 f9 n9 hh => ?_)
        obtain ⟨rfl, rfl, rfl⟩ := hh
        refine aw_istore C dX9_hasWord_39 (by decide) rfl ?_
        refine aw_nl [some (.ref 181), some (.int v1), some (.int v2), some (.int v3), some (.int v4), some (.int v5), some (.int r1.1)] rfl ?_
        refine aw_ald_n C dX9_hasWord_41 rfl ?_
        refine aw_get C (v := .ref (rAid 8)) gf_X9_23 (hm_M f r1.2) rfl dX9_hasWord_42 ?_
        refine aw_iload C dX9_hasWord_45 rfl ?_
        obtain ⟨hb2, h⟩ := ck_some h
        refine am_iald C (rGa r1.2 8 v5) rfl (inb_vp hb2) rfl dX9_hasWord_47 ?_
        refine aw_iload C dX9_hasWord_48 rfl ?_
        refine aw_bipush C 65 dX9_hasWord_50 kb_65 ?_
        refine aw_bipush C 90 dX9_hasWord_52 kb_90 ?_
        obtain ⟨r3, h3, h⟩ := Option.bind_eq_some_iff.mp h
        refine aw_callS C [.int r1.1, .int (65 : Int32), .int (90 : Int32)] ms_X9_141 (rmX9_isIn h3) rfl dX9_hasWord_54 (Nat.le_of_ble_eq_true rfl) (Nat.le_of_ble_eq_true rfl) rfl (Nat.le_of_ble_eq_true rfl) (Nat.le_of_ble_eq_true rfl) (Nat.le_of_ble_eq_true rfl) (fun v9 f9 n9 hh => ?_)
        obtain ⟨rfl, rfl, rfl⟩ := hh
        refine aw_if_eq C 68 dX9_hasWord_57 (by decide) (fun q => ?_) (fun q => ?_)
        · rw [if_pos q] at h
          refine aw_iload C dX9_hasWord_68 rfl ?_
          refine aw_fl [some (.ref 181), some (.int v1), some (.int v2), some (.int v3), none, some (.int v5), none] ⟨rfl, ⟨rfl, ⟨rfl, ⟨rfl, ⟨rfl, trivial⟩⟩⟩⟩⟩ ?_
          exact rmX9_hasWord_b70 C Hr2 (fun v1 v2 v3 v4 v5 σ h => ih v1 v2 v3 v4 v5 σ h) h
        · rw [if_neg q] at h
          refine aw_iload C dX9_hasWord_60 rfl ?_
          refine aw_bipush C 32 dX9_hasWord_62 kb_32 ?_
          refine aw_iadd C dX9_hasWord_64 ?_
          refine aw_goto C 70 dX9_hasWord_65 (by decide) ?_
          refine aw_fl [some (.ref 181), some (.int v1), some (.int v2), some (.int v3), none, some (.int v5), none] ⟨rfl, ⟨rfl, ⟨rfl, ⟨rfl, ⟨rfl, trivial⟩⟩⟩⟩⟩ ?_
          exact rmX9_hasWord_b70 C Hr2 (fun v1 v2 v3 v4 v5 σ h => ih v1 v2 v3 v4 v5 σ h) h
def mX9_hasWord_l2 : Nat → Int32 → Int32 → Int32 → RS9 → Option (Int32 × RS9)
  | 0, _, _, _, _ => none
  | d + 1, v1, v2, v3, σ => ((mX9_nowMany v1 σ).bind fun r1 => (if r1.1 < (v3 + v2) then rCk (rNb (0 : Int32)) (some ((0 : Int32), r1.2)) else mX9_hasWord_l19 (fun v1 v2 v3 σ => mX9_hasWord_l2 d v1 v2 v3 σ) rFU v1 v2 v3 (1 : Int32) (0 : Int32) r1.2))
set_option maxHeartbeats 1000000 in
theorem rmX9_hasWord_l2 {X : GX} {p : Program} {l : Launch} {e : Env} {s : State} {m : MethodId} {args : Array Value} {below : List Frame} {meth : Method} {c : Code} {f : AH} {n : Nat} {r : Int32 × RS9} (C : CC X p l (RM 2 0 0) s m args meth c RX9 cX9_hasWord 7 (some .boolean)) : ∀ (d : Nat) (v1 : Int32) (v2 : Int32) (v3 : Int32) (σ : RS9) (_ : mX9_hasWord_l2 d v1 v2 v3 σ = some r), AW X p l e (RM 2 0 0) s m args below meth c 7 (ZM X below args s 0 0 (QMi f n r)) (rHm f σ) n 0 0 2 [some (.ref 181), some (.int v1), some (.int v2), some (.int v3), none, none, none] [] := by
  intro d
  induction d with
  | zero =>
    intro v1 v2 v3 σ h
    exact nomatch (show (none : Option (Int32 × RS9)) = some r from h)
  | succ d ih =>
    intro v1 v2 v3 σ h
    have h : ((mX9_nowMany v1 σ).bind fun r1 => (if r1.1 < (v3 + v2) then rCk (rNb (0 : Int32)) (some ((0 : Int32), r1.2)) else mX9_hasWord_l19 (fun v1 v2 v3 σ => mX9_hasWord_l2 d v1 v2 v3 σ) rFU v1 v2 v3 (1 : Int32) (0 : Int32) r1.2)) = some r := h
    refine aw_iload_n C dX9_hasWord_2 rfl ?_
    refine aw_iload_n C dX9_hasWord_3 rfl ?_
    refine aw_iadd C dX9_hasWord_4 ?_
    refine aw_ald_n C dX9_hasWord_5 rfl ?_
    refine aw_iload_n C dX9_hasWord_6 rfl ?_
    obtain ⟨r1, h1, h⟩ := Option.bind_eq_some_iff.mp h
    refine aw_callV C (ci := 9) (b := 181) [.int v1] mv_X9_313 rfl rfl (hm_M f σ) (rmX9_nowMany h1) rfl dX9_hasWord_7 (Nat.le_of_ble_eq_true rfl) (Nat.le_of_ble_eq_true rfl) rfl (Nat.le_of_ble_eq_true rfl) (Nat.le_of_ble_eq_true rfl) (Nat.le_of_ble_eq_true rfl) (fun v9 f9 n9 hh => ?_)
    obtain ⟨rfl, rfl, rfl⟩ := hh
    refine aw_icmp_gt C 99 dX9_hasWord_10 (by decide) (fun q => ?_) (fun q => ?_)
    · rw [if_pos q] at h
      refine aw_iconst C 0 dX9_hasWord_99 ki_0 ?_
      obtain ⟨hb2, h⟩ := ck_some h
      cases h
      exact aw_iret C rfl (nb_nar hb2) dX9_hasWord_100 (Nat.le_refl _) (Nat.le_refl _) ⟨rfl, rfl, rfl⟩
    · rw [if_neg q] at h
      refine aw_iconst C 1 dX9_hasWord_13 ki_1 ?_
      refine aw_istore C dX9_hasWord_14 (by decide) rfl ?_
      refine aw_nl [some (.ref 181), some (.int v1), some (.int v2), some (.int v3), some (.int (1 : Int32)), none, none] rfl ?_
      refine aw_iconst C 0 dX9_hasWord_16 ki_0 ?_
      refine aw_istore C dX9_hasWord_17 (by decide) rfl ?_
      refine aw_nl [some (.ref 181), some (.int v1), some (.int v2), some (.int v3), some (.int (1 : Int32)), some (.int (0 : Int32)), none] rfl ?_
      refine aw_fl [some (.ref 181), some (.int v1), some (.int v2), some (.int v3), some (.int (1 : Int32)), some (.int (0 : Int32)), none] ⟨rfl, ⟨rfl, ⟨rfl, ⟨rfl, ⟨rfl, ⟨rfl, trivial⟩⟩⟩⟩⟩⟩ ?_
      exact rmX9_hasWord_l19 C (fun v1 v2 v3 σ h => ih v1 v2 v3 σ h) rFU v1 v2 v3 (1 : Int32) (0 : Int32) r1.2 h
def mX9_hasWord (v1 : Int32) (v2 : Int32) (σ : RS9) : Option (Int32 × RS9) := mX9_hasWord_l2 rFU v1 v2 (0 : Int32) σ
set_option maxHeartbeats 1000000 in
theorem rmX9_hasWord {X : GX} {l : Launch} {f : AH} {n : Nat} {r : Int32 × RS9} {v1 : Int32} {v2 : Int32} {σ : RS9} (h : mX9_hasWord v1 v2 σ = some r) : AM X l yX9_hasWord cX9_hasWord 7 (some .boolean) 2 0 0 [.ref 181, .int v1, .int v2] (rHm f σ) n (QMi f n r) := by
  have h : mX9_hasWord_l2 rFU v1 v2 (0 : Int32) σ = some r := h
  refine AM.of (by decide +kernel) rfl (Nat.le_of_ble_eq_true rfl) (fun p e s m args below meth c C _ => ?_)
  refine aw_nl [some (.ref 181), some (.int v1), some (.int v2), none, none, none, none] rfl ?_
  refine aw_iconst C 0 dX9_hasWord_0 ki_0 ?_
  refine aw_istore_n C dX9_hasWord_1 (by decide) rfl ?_
  refine aw_nl [some (.ref 181), some (.int v1), some (.int v2), some (.int (0 : Int32)), none, none, none] rfl ?_
  refine aw_fl [some (.ref 181), some (.int v1), some (.int v2), some (.int (0 : Int32)), none, none, none] ⟨rfl, ⟨rfl, ⟨rfl, ⟨rfl, trivial⟩⟩⟩⟩ ?_
  exact rmX9_hasWord_l2 C rFU v1 v2 (0 : Int32) σ h
def mX9_found_b64 (rec36 : Int32 → Int64 → Int32 → RS9 → Option (Int64 × RS9)) (v1 : Int32) (v4 : Int32) (s0 : Int64) (s1 : Int64) (σ : RS9) : Option (Int64 × RS9) := rec36 v1 (s0 ||| s1) (v4 + (1 : Int32)) σ
set_option maxHeartbeats 1000000 in
theorem rmX9_found_b64 {X : GX} {p : Program} {l : Launch} {e : Env} {s : State} {m : MethodId} {args : Array Value} {below : List Frame} {meth : Method} {c : Code} {f : AH} {n : Nat} {r : Int64 × RS9} {rec36 : Int32 → Int64 → Int32 → RS9 → Option (Int64 × RS9)} {v1 : Int32} {v4 : Int32} {s0 : Int64} {s1 : Int64} {σ : RS9} (C : CC X p l (RM 3 0 0) s m args meth c RX9 cX9_found 5 (some .long)) (Hr36 : ∀ (v1 : Int32) (v2 : Int64) (v4 : Int32) (σ : RS9), rec36 v1 v2 v4 σ = some r → AW X p l e (RM 3 0 0) s m args below meth c 5 (ZM X below args s 0 0 (QMl f n r)) (rHm f σ) n 0 0 36 [some (.ref 181), some (.int v1), some (.long v2), none, some (.int v4)] []) (h : mX9_found_b64 rec36 v1 v4 s0 s1 σ = some r) : AW X p l e (RM 3 0 0) s m args below meth c 5 (ZM X below args s 0 0 (QMl f n r)) (rHm f σ) n 0 0 64 [some (.ref 181), some (.int v1), none, none, some (.int v4)] [.long s1, .long s0] := by
  have h : rec36 v1 (s0 ||| s1) (v4 + (1 : Int32)) σ = some r := h
  refine aw_lor C dX9_found_64 ?_
  refine aw_lstore_n C dX9_found_65 (by decide) rfl ?_
  refine aw_nl [some (.ref 181), some (.int v1), some (.long (s0 ||| s1)), none, some (.int v4)] rfl ?_
  refine aw_iinc C (v4 + (1 : Int32)) dX9_found_66 rfl (by rw [ki_1]) (by decide) rfl ?_
  refine aw_nl [some (.ref 181), some (.int v1), some (.long (s0 ||| s1)), none, some (.int (v4 + (1 : Int32)))] rfl ?_
  refine aw_goto C 36 dX9_found_69 (by decide) ?_
  refine aw_fl [some (.ref 181), some (.int v1), some (.long (s0 ||| s1)), none, some (.int (v4 + (1 : Int32)))] ⟨rfl, ⟨rfl, ⟨rfl, ⟨rfl, trivial⟩⟩⟩⟩ ?_
  exact Hr36 v1 (s0 ||| s1) (v4 + (1 : Int32)) σ h
def mX9_found_l36 : Nat → Int32 → Int64 → Int32 → RS9 → Option (Int64 × RS9)
  | 0, _, _, _, _ => none
  | d + 1, v1, v2, v4, σ => (if (σ.1 33) ≤ v4 then some (v2, σ) else ((mX9_hasWord v4 v1 σ).bind fun r1 => (if r1.1 = (0 : Int32) then mX9_found_b64 (fun v1 v2 v4 σ => mX9_found_l36 d v1 v2 v4 σ) v1 v4 v2 (0 : Int64) r1.2 else mX9_found_b64 (fun v1 v2 v4 σ => mX9_found_l36 d v1 v2 v4 σ) v1 v4 v2 ((1 : Int64) <<< (v4.toInt64 &&& 63)) r1.2)))
set_option maxHeartbeats 1000000 in
theorem rmX9_found_l36 {X : GX} {p : Program} {l : Launch} {e : Env} {s : State} {m : MethodId} {args : Array Value} {below : List Frame} {meth : Method} {c : Code} {f : AH} {n : Nat} {r : Int64 × RS9} (C : CC X p l (RM 3 0 0) s m args meth c RX9 cX9_found 5 (some .long)) : ∀ (d : Nat) (v1 : Int32) (v2 : Int64) (v4 : Int32) (σ : RS9) (_ : mX9_found_l36 d v1 v2 v4 σ = some r), AW X p l e (RM 3 0 0) s m args below meth c 5 (ZM X below args s 0 0 (QMl f n r)) (rHm f σ) n 0 0 36 [some (.ref 181), some (.int v1), some (.long v2), none, some (.int v4)] [] := by
  intro d
  induction d with
  | zero =>
    intro v1 v2 v4 σ h
    exact nomatch (show (none : Option (Int64 × RS9)) = some r from h)
  | succ d ih =>
    intro v1 v2 v4 σ h
    have h : (if (σ.1 33) ≤ v4 then some (v2, σ) else ((mX9_hasWord v4 v1 σ).bind fun r1 => (if r1.1 = (0 : Int32) then mX9_found_b64 (fun v1 v2 v4 σ => mX9_found_l36 d v1 v2 v4 σ) v1 v4 v2 (0 : Int64) r1.2 else mX9_found_b64 (fun v1 v2 v4 σ => mX9_found_l36 d v1 v2 v4 σ) v1 v4 v2 ((1 : Int64) <<< (v4.toInt64 &&& 63)) r1.2))) = some r := h
    refine aw_iload C dX9_found_36 rfl ?_
    refine aw_ald_n C dX9_found_38 rfl ?_
    refine aw_get C (v := .int (σ.1 33)) gf_X9_204 (hm_M f σ) rfl dX9_found_39 ?_
    refine aw_icmp_ge C 72 dX9_found_42 (by decide) (fun q => ?_) (fun q => ?_)
    · rw [if_pos q] at h
      refine aw_lload_n C dX9_found_72 rfl ?_
      cases h
      exact aw_lret C rfl dX9_found_73 (Nat.le_refl _) (Nat.le_refl _) ⟨rfl, rfl, rfl⟩
    · rw [if_neg q] at h
      refine aw_lload_n C dX9_found_45 rfl ?_
      refine aw_ald_n C dX9_found_46 rfl ?_
      refine aw_iload C dX9_found_47 rfl ?_
      refine aw_iload_n C dX9_found_49 rfl ?_
      obtain ⟨r1, h1, h⟩ := Option.bind_eq_some_iff.mp h
      refine aw_callV C (ci := 9) (b := 181) [.int v4, .int v1] mv_X9_456 rfl rfl (hm_M f σ) (rmX9_hasWord h1) rfl dX9_found_50 (Nat.le_of_ble_eq_true rfl) (Nat.le_of_ble_eq_true rfl) rfl (Nat.le_of_ble_eq_true rfl) (Nat.le_of_ble_eq_true rfl) (Nat.le_of_ble_eq_true rfl) (fun v9 f9 n9 hh => ?_)
      obtain ⟨rfl, rfl, rfl⟩ := hh
      refine aw_if_eq C 63 dX9_found_53 (by decide) (fun q => ?_) (fun q => ?_)
      · rw [if_pos q] at h
        refine aw_lconst C 0 dX9_found_63 rfl ?_
        refine aw_fl [some (.ref 181), some (.int v1), none, none, some (.int v4)] ⟨rfl, ⟨rfl, ⟨rfl, trivial⟩⟩⟩ ?_
        exact rmX9_found_b64 C (fun v1 v2 v4 σ h => ih v1 v2 v4 σ h) h
      · rw [if_neg q] at h
        refine aw_lconst C 1 dX9_found_56 rfl ?_
        refine aw_iload C dX9_found_57 rfl ?_
        refine aw_lshl C dX9_found_59 ?_
        refine aw_goto C 64 dX9_found_60 (by decide) ?_
        refine aw_fl [some (.ref 181), some (.int v1), none, none, some (.int v4)] ⟨rfl, ⟨rfl, ⟨rfl, trivial⟩⟩⟩ ?_
        exact rmX9_found_b64 C (fun v1 v2 v4 σ h => ih v1 v2 v4 σ h) h
def mX9_found_b19 (v1 : Int32) (s1 : Int32) (σ : RS9) : Option (Int64 × RS9) := (if s1 ≤ (0 : Int32) then mX9_found_l36 rFU v1 (0 : Int64) (0 : Int32) (rSf σ 0 s1) else some ((0 : Int64), (rSf σ 0 s1)))
set_option maxHeartbeats 1000000 in
theorem rmX9_found_b19 {X : GX} {p : Program} {l : Launch} {e : Env} {s : State} {m : MethodId} {args : Array Value} {below : List Frame} {meth : Method} {c : Code} {f : AH} {n : Nat} {r : Int64 × RS9} {v1 : Int32} {s1 : Int32} {σ : RS9} (C : CC X p l (RM 3 0 0) s m args meth c RX9 cX9_found 5 (some .long)) (h : mX9_found_b19 v1 s1 σ = some r) : AW X p l e (RM 3 0 0) s m args below meth c 5 (ZM X below args s 0 0 (QMl f n r)) (rHm f σ) n 0 0 19 [some (.ref 181), some (.int v1), none, none, none] [.int s1, .ref 181] := by
  have h : (if s1 ≤ (0 : Int32) then mX9_found_l36 rFU v1 (0 : Int64) (0 : Int32) (rSf σ 0 s1) else some ((0 : Int64), (rSf σ 0 s1))) = some r := h
  refine am_put C gf_X9_138 nf9_0 rfl rfl dX9_found_19 ?_
  refine aw_ald_n C dX9_found_22 rfl ?_
  refine aw_get C (v := .int s1) gf_X9_138 (hm_M f (rSf σ 0 s1)) rfl dX9_found_23 ?_
  refine aw_if_le C 31 dX9_found_26 (by decide) (fun q => ?_) (fun q => ?_)
  · rw [if_pos q] at h
    refine aw_lconst C 0 dX9_found_31 rfl ?_
    refine aw_lstore_n C dX9_found_32 (by decide) rfl ?_
    refine aw_nl [some (.ref 181), some (.int v1), some (.long (0 : Int64)), none, none] rfl ?_
    refine aw_iconst C 0 dX9_found_33 ki_0 ?_
    refine aw_istore C dX9_found_34 (by decide) rfl ?_
    refine aw_nl [some (.ref 181), some (.int v1), some (.long (0 : Int64)), none, some (.int (0 : Int32))] rfl ?_
    refine aw_fl [some (.ref 181), some (.int v1), some (.long (0 : Int64)), none, some (.int (0 : Int32))] ⟨rfl, ⟨rfl, ⟨rfl, ⟨rfl, trivial⟩⟩⟩⟩ ?_
    exact rmX9_found_l36 C rFU v1 (0 : Int64) (0 : Int32) (rSf σ 0 s1) h
  · rw [if_neg q] at h
    refine aw_lconst C 0 dX9_found_29 rfl ?_
    cases h
    exact aw_lret C rfl dX9_found_30 (Nat.le_refl _) (Nat.le_refl _) ⟨rfl, rfl, rfl⟩
def mX9_found (σ : RS9) : Option (Int64 × RS9) := ((mX9_took σ).bind fun r1 => ((mX9_isWord r1.1 r1.2).bind fun r2 => (if r2.1 = (0 : Int32) then mX9_found_b19 r1.1 (1 : Int32) r2.2 else mX9_found_b19 r1.1 (0 : Int32) r2.2)))
set_option maxHeartbeats 1000000 in
theorem rmX9_found {X : GX} {l : Launch} {f : AH} {n : Nat} {r : Int64 × RS9} {σ : RS9} (h : mX9_found σ = some r) : AM X l yX9_found cX9_found 5 (some .long) 3 0 0 [.ref 181] (rHm f σ) n (QMl f n r) := by
  have h : ((mX9_took σ).bind fun r1 => ((mX9_isWord r1.1 r1.2).bind fun r2 => (if r2.1 = (0 : Int32) then mX9_found_b19 r1.1 (1 : Int32) r2.2 else mX9_found_b19 r1.1 (0 : Int32) r2.2))) = some r := h
  refine AM.of (by decide +kernel) rfl (Nat.le_of_ble_eq_true rfl) (fun p e s m args below meth c C _ => ?_)
  refine aw_nl [some (.ref 181), none, none, none, none] rfl ?_
  refine aw_ald_n C dX9_found_0 rfl ?_
  obtain ⟨r1, h1, h⟩ := Option.bind_eq_some_iff.mp h
  refine aw_callV C (ci := 9) (b := 181) [] mv_X9_426 rfl rfl (hm_M f σ) (rmX9_took h1) rfl dX9_found_1 (Nat.le_of_ble_eq_true rfl) (Nat.le_of_ble_eq_true rfl) rfl (Nat.le_of_ble_eq_true rfl) (Nat.le_of_ble_eq_true rfl) (Nat.le_of_ble_eq_true rfl) (fun v9 f9 n9 hh => ?_)
  obtain ⟨rfl, rfl, rfl⟩ := hh
  refine aw_istore_n C dX9_found_4 (by decide) rfl ?_
  refine aw_nl [some (.ref 181), some (.int r1.1), none, none, none] rfl ?_
  refine aw_ald_n C dX9_found_5 rfl ?_
  refine aw_ald_n C dX9_found_6 rfl ?_
  refine aw_iload_n C dX9_found_7 rfl ?_
  obtain ⟨r2, h2, h⟩ := Option.bind_eq_some_iff.mp h
  refine aw_callV C (ci := 9) (b := 181) [.int r1.1] mv_X9_432 rfl rfl (hm_M f r1.2) (rmX9_isWord h2) rfl dX9_found_8 (Nat.le_of_ble_eq_true rfl) (Nat.le_of_ble_eq_true rfl) rfl (Nat.le_of_ble_eq_true rfl) (Nat.le_of_ble_eq_true rfl) (Nat.le_of_ble_eq_true rfl) (fun v9 f9 n9 hh => ?_)
  obtain ⟨rfl, rfl, rfl⟩ := hh
  refine aw_if_eq C 18 dX9_found_11 (by decide) (fun q => ?_) (fun q => ?_)
  · rw [if_pos q] at h
    refine aw_iconst C 1 dX9_found_18 ki_1 ?_
    refine aw_fl [some (.ref 181), some (.int r1.1), none, none, none] ⟨rfl, ⟨rfl, trivial⟩⟩ ?_
    exact rmX9_found_b19 C h
  · rw [if_neg q] at h
    refine aw_iconst C 0 dX9_found_14 ki_0 ?_
    refine aw_goto C 19 dX9_found_15 (by decide) ?_
    refine aw_fl [some (.ref 181), some (.int r1.1), none, none, none] ⟨rfl, ⟨rfl, trivial⟩⟩ ?_
    exact rmX9_found_b19 C h
def mX9_memory_b77 (s0 : Int32) (σ : RS9) : Option (Int32 × RS9) := some (s0, σ)
set_option maxHeartbeats 1000000 in
theorem rmX9_memory_b77 {X : GX} {p : Program} {l : Launch} {e : Env} {s : State} {m : MethodId} {args : Array Value} {below : List Frame} {meth : Method} {c : Code} {f : AH} {n : Nat} {r : Int32 × RS9} {s0 : Int32} {σ : RS9} (C : CC X p l (RM 1 0 0) s m args meth c RX9 cX9_memory 5 (some .int)) (h : mX9_memory_b77 s0 σ = some r) : AW X p l e (RM 1 0 0) s m args below meth c 5 (ZM X below args s 0 0 (QMi f n r)) (rHm f σ) n 0 0 77 [none, none, none, none, none] [.int s0] := by
  have h : some (s0, σ) = some r := h
  cases h
  exact aw_iret C rfl rfl dX9_memory_77 (Nat.le_refl _) (Nat.le_refl _) ⟨rfl, rfl, rfl⟩
def mX9_memory_b42 (v3 : Int32) (s0 : Int32) (s1 : Int32) (σ : RS9) : Option (Int32 × RS9) := rCk (rIn (s0 + s1) (rLen 1)) (((mX9_isIn v3 (0 : Int32) ((rGa σ 1 (s0 + s1)) - (1 : Int32)) σ).bind fun r2 => (if r2.1 = (0 : Int32) then mX9_memory_b77 (-1 : Int32) r2.2 else rCk (rIn (((s0 + s1) + (1 : Int32)) + v3) (rLen 1)) (mX9_memory_b77 (rGa r2.2 1 (((s0 + s1) + (1 : Int32)) + v3)) r2.2))))
set_option maxHeartbeats 1000000 in
theorem rmX9_memory_b42 {X : GX} {p : Program} {l : Launch} {e : Env} {s : State} {m : MethodId} {args : Array Value} {below : List Frame} {meth : Method} {c : Code} {f : AH} {n : Nat} {r : Int32 × RS9} {v3 : Int32} {s0 : Int32} {s1 : Int32} {σ : RS9} (C : CC X p l (RM 1 0 0) s m args meth c RX9 cX9_memory 5 (some .int)) (h : mX9_memory_b42 v3 s0 s1 σ = some r) : AW X p l e (RM 1 0 0) s m args below meth c 5 (ZM X below args s 0 0 (QMi f n r)) (rHm f σ) n 0 0 42 [some (.ref 181), none, none, some (.int v3), none] [.int s1, .int s0] := by
  have h : rCk (rIn (s0 + s1) (rLen 1)) (((mX9_isIn v3 (0 : Int32) ((rGa σ 1 (s0 + s1)) - (1 : Int32)) σ).bind fun r2 => (if r2.1 = (0 : Int32) then mX9_memory_b77 (-1 : Int32) r2.2 else rCk (rIn (((s0 + s1) + (1 : Int32)) + v3) (rLen 1)) (mX9_memory_b77 (rGa r2.2 1 (((s0 + s1) + (1 : Int32)) + v3)) r2.2)))) = some r := h
  refine aw_iadd C dX9_memory_42 ?_
  refine aw_istore C dX9_memory_43 (by decide) rfl ?_
  refine aw_nl [some (.ref 181), none, none, some (.int v3), some (.int (s0 + s1))] rfl ?_
  refine aw_iload_n C dX9_memory_45 rfl ?_
  refine aw_iconst C 0 dX9_memory_46 ki_0 ?_
  refine aw_ald_n C dX9_memory_47 rfl ?_
  refine aw_get C (v := .ref (rAid 1)) gf_X9_7 (hm_M f σ) rfl dX9_memory_48 ?_
  refine aw_iload C dX9_memory_51 rfl ?_
  obtain ⟨hb1, h⟩ := ck_some h
  refine am_iald C (rGa σ 1 (s0 + s1)) rfl (inb_vp hb1) rfl dX9_memory_53 ?_
  refine aw_iconst C 1 dX9_memory_54 ki_1 ?_
  refine aw_isub C dX9_memory_55 ?_
  obtain ⟨r2, h2, h⟩ := Option.bind_eq_some_iff.mp h
  refine aw_callS C [.int v3, .int (0 : Int32), .int ((rGa σ 1 (s0 + s1)) - (1 : Int32))] ms_X9_141 (rmX9_isIn h2) rfl dX9_memory_56 (Nat.le_of_ble_eq_true rfl) (Nat.le_of_ble_eq_true rfl) rfl (Nat.le_of_ble_eq_true rfl) (Nat.le_of_ble_eq_true rfl) (Nat.le_of_ble_eq_true rfl) (fun v9 f9 n9 hh => ?_)
  obtain ⟨rfl, rfl, rfl⟩ := hh
  refine aw_if_eq C 76 dX9_memory_59 (by decide) (fun q => ?_) (fun q => ?_)
  · rw [if_pos q] at h
    refine aw_iconst C (-1) dX9_memory_76 ki_m1 ?_
    refine aw_fl [none, none, none, none, none] trivial ?_
    exact rmX9_memory_b77 C h
  · rw [if_neg q] at h
    refine aw_ald_n C dX9_memory_62 rfl ?_
    refine aw_get C (v := .ref (rAid 1)) gf_X9_7 (hm_M f r2.2) rfl dX9_memory_63 ?_
    refine aw_iload C dX9_memory_66 rfl ?_
    refine aw_iconst C 1 dX9_memory_68 ki_1 ?_
    refine aw_iadd C dX9_memory_69 ?_
    refine aw_iload_n C dX9_memory_70 rfl ?_
    refine aw_iadd C dX9_memory_71 ?_
    obtain ⟨hb3, h⟩ := ck_some h
    refine am_iald C (rGa r2.2 1 (((s0 + s1) + (1 : Int32)) + v3)) rfl (inb_vp hb3) rfl dX9_memory_72 ?_
    refine aw_goto C 77 dX9_memory_73 (by decide) ?_
    refine aw_fl [none, none, none, none, none] trivial ?_
    exact rmX9_memory_b77 C h
def mX9_memory (v1 : Int32) (v2 : Int32) (v3 : Int32) (σ : RS9) : Option (Int32 × RS9) := rCk (rIn (42 : Int32) (rLen 1)) (((mX9_isIn v1 (0 : Int32) ((rGa σ 1 (42 : Int32)) - (1 : Int32)) (rSf σ 0 (0 : Int32))).bind fun r2 => (if r2.1 = (0 : Int32) then some ((-1 : Int32), r2.2) else (if v2 = (0 : Int32) then mX9_memory_b42 v3 ((2883 : Int32) + ((122 : Int32) * v1)) (0 : Int32) r2.2 else mX9_memory_b42 v3 ((2883 : Int32) + ((122 : Int32) * v1)) (61 : Int32) r2.2))))
set_option maxHeartbeats 1000000 in
theorem rmX9_memory {X : GX} {l : Launch} {f : AH} {n : Nat} {r : Int32 × RS9} {v1 : Int32} {v2 : Int32} {v3 : Int32} {σ : RS9} (h : mX9_memory v1 v2 v3 σ = some r) : AM X l yX9_memory cX9_memory 5 (some .int) 1 0 0 [.ref 181, .int v1, .int v2, .int v3] (rHm f σ) n (QMi f n r) := by
  have h : rCk (rIn (42 : Int32) (rLen 1)) (((mX9_isIn v1 (0 : Int32) ((rGa σ 1 (42 : Int32)) - (1 : Int32)) (rSf σ 0 (0 : Int32))).bind fun r2 => (if r2.1 = (0 : Int32) then some ((-1 : Int32), r2.2) else (if v2 = (0 : Int32) then mX9_memory_b42 v3 ((2883 : Int32) + ((122 : Int32) * v1)) (0 : Int32) r2.2 else mX9_memory_b42 v3 ((2883 : Int32) + ((122 : Int32) * v1)) (61 : Int32) r2.2)))) = some r := h
  refine AM.of (by decide +kernel) rfl (Nat.le_of_ble_eq_true rfl) (fun p e s m args below meth c C _ => ?_)
  refine aw_nl [some (.ref 181), some (.int v1), some (.int v2), some (.int v3), none] rfl ?_
  refine aw_ald_n C dX9_memory_0 rfl ?_
  refine aw_iconst C 0 dX9_memory_1 ki_0 ?_
  refine am_put C gf_X9_138 nf9_0 rfl rfl dX9_memory_2 ?_
  refine aw_iload_n C dX9_memory_5 rfl ?_
  refine aw_iconst C 0 dX9_memory_6 ki_0 ?_
  refine aw_ald_n C dX9_memory_7 rfl ?_
  refine aw_get C (v := .ref (rAid 1)) gf_X9_7 (hm_M f (rSf σ 0 (0 : Int32))) rfl dX9_memory_8 ?_
  refine aw_bipush C 42 dX9_memory_11 kb_42 ?_
  obtain ⟨hb1, h⟩ := ck_some h
  refine am_iald C (rGa σ 1 (42 : Int32)) rfl (inb_vp hb1) rfl dX9_memory_13 ?_
  refine aw_iconst C 1 dX9_memory_14 ki_1 ?_
  refine aw_isub C dX9_memory_15 ?_
  obtain ⟨r2, h2, h⟩ := Option.bind_eq_some_iff.mp h
  refine aw_callS C [.int v1, .int (0 : Int32), .int ((rGa σ 1 (42 : Int32)) - (1 : Int32))] ms_X9_141 (rmX9_isIn h2) rfl dX9_memory_16 (Nat.le_of_ble_eq_true rfl) (Nat.le_of_ble_eq_true rfl) rfl (Nat.le_of_ble_eq_true rfl) (Nat.le_of_ble_eq_true rfl) (Nat.le_of_ble_eq_true rfl) (fun v9 f9 n9 hh => ?_)
  obtain ⟨rfl, rfl, rfl⟩ := hh
  refine aw_if_ne C 24 dX9_memory_19 (by decide) (fun q => ?_) (fun q => ?_)
  · rw [if_neg q] at h
    refine aw_sipush C 2883 dX9_memory_24 ks_2883 ?_
    refine aw_bipush C 122 dX9_memory_27 kb_122 ?_
    refine aw_iload_n C dX9_memory_29 rfl ?_
    refine aw_imul C dX9_memory_30 ?_
    refine aw_iadd C dX9_memory_31 ?_
    refine aw_iload_n C dX9_memory_32 rfl ?_
    refine aw_if_eq C 41 dX9_memory_33 (by decide) (fun q => ?_) (fun q => ?_)
    · rw [if_pos q] at h
      refine aw_iconst C 0 dX9_memory_41 ki_0 ?_
      refine aw_fl [some (.ref 181), none, none, some (.int v3), none] ⟨rfl, ⟨rfl, trivial⟩⟩ ?_
      exact rmX9_memory_b42 C h
    · rw [if_neg q] at h
      refine aw_bipush C 61 dX9_memory_36 kb_61 ?_
      refine aw_goto C 42 dX9_memory_38 (by decide) ?_
      refine aw_fl [some (.ref 181), none, none, some (.int v3), none] ⟨rfl, ⟨rfl, trivial⟩⟩ ?_
      exact rmX9_memory_b42 C h
  · rw [if_pos q] at h
    refine aw_iconst C (-1) dX9_memory_22 ki_m1 ?_
    cases h
    exact aw_iret C rfl rfl dX9_memory_23 (Nat.le_refl _) (Nat.le_refl _) ⟨rfl, rfl, rfl⟩
def mX9_isNow_b91 (v3 : Int32) (σ : RS9) : Option (Int32 × RS9) := rCk (rNb v3) (some (v3, σ))
set_option maxHeartbeats 1000000 in
theorem rmX9_isNow_b91 {X : GX} {p : Program} {l : Launch} {e : Env} {s : State} {m : MethodId} {args : Array Value} {below : List Frame} {meth : Method} {c : Code} {f : AH} {n : Nat} {r : Int32 × RS9} {v3 : Int32} {σ : RS9} (C : CC X p l (RM 0 0 0) s m args meth c RX9 cX9_isNow 5 (some .boolean)) (h : mX9_isNow_b91 v3 σ = some r) : AW X p l e (RM 0 0 0) s m args below meth c 5 (ZM X below args s 0 0 (QMi f n r)) (rHm f σ) n 0 0 91 [none, none, none, some (.int v3), none] [] := by
  have h : rCk (rNb v3) (some (v3, σ)) = some r := h
  refine aw_iload_n C dX9_isNow_91 rfl ?_
  obtain ⟨hb1, h⟩ := ck_some h
  cases h
  exact aw_iret C rfl (nb_nar hb1) dX9_isNow_92 (Nat.le_refl _) (Nat.le_refl _) ⟨rfl, rfl, rfl⟩
def mX9_isNow_b84 (rec33 : Int32 → Int32 → Int32 → Int32 → RS9 → Option (Int32 × RS9)) (v1 : Int32) (v2 : Int32) (v4 : Int32) (s0 : Int32) (σ : RS9) : Option (Int32 × RS9) := rec33 v1 v2 s0 (v4 + (1 : Int32)) σ
set_option maxHeartbeats 1000000 in
theorem rmX9_isNow_b84 {X : GX} {p : Program} {l : Launch} {e : Env} {s : State} {m : MethodId} {args : Array Value} {below : List Frame} {meth : Method} {c : Code} {f : AH} {n : Nat} {r : Int32 × RS9} {rec33 : Int32 → Int32 → Int32 → Int32 → RS9 → Option (Int32 × RS9)} {v1 : Int32} {v2 : Int32} {v4 : Int32} {s0 : Int32} {σ : RS9} (C : CC X p l (RM 0 0 0) s m args meth c RX9 cX9_isNow 5 (some .boolean)) (Hr33 : ∀ (v1 : Int32) (v2 : Int32) (v3 : Int32) (v4 : Int32) (σ : RS9), rec33 v1 v2 v3 v4 σ = some r → AW X p l e (RM 0 0 0) s m args below meth c 5 (ZM X below args s 0 0 (QMi f n r)) (rHm f σ) n 0 0 33 [some (.ref 181), some (.int v1), some (.int v2), some (.int v3), some (.int v4)] []) (h : mX9_isNow_b84 rec33 v1 v2 v4 s0 σ = some r) : AW X p l e (RM 0 0 0) s m args below meth c 5 (ZM X below args s 0 0 (QMi f n r)) (rHm f σ) n 0 0 84 [some (.ref 181), some (.int v1), some (.int v2), none, some (.int v4)] [.int s0] := by
  have h : rec33 v1 v2 s0 (v4 + (1 : Int32)) σ = some r := h
  refine aw_istore_n C dX9_isNow_84 (by decide) rfl ?_
  refine aw_nl [some (.ref 181), some (.int v1), some (.int v2), some (.int s0), some (.int v4)] rfl ?_
  refine aw_iinc C (v4 + (1 : Int32)) dX9_isNow_85 rfl (by rw [ki_1]) (by decide) rfl ?_
  refine aw_nl [some (.ref 181), some (.int v1), some (.int v2), some (.int s0), some (.int (v4 + (1 : Int32)))] rfl ?_
  refine aw_goto C 33 dX9_isNow_88 (by decide) ?_
  refine aw_fl [some (.ref 181), some (.int v1), some (.int v2), some (.int s0), some (.int (v4 + (1 : Int32)))] ⟨rfl, ⟨rfl, ⟨rfl, ⟨rfl, ⟨rfl, trivial⟩⟩⟩⟩⟩ ?_
  exact Hr33 v1 v2 s0 (v4 + (1 : Int32)) σ h
def mX9_isNow_l33 : Nat → Int32 → Int32 → Int32 → Int32 → RS9 → Option (Int32 × RS9)
  | 0, _, _, _, _, _ => none
  | d + 1, v1, v2, v3, v4, σ => rCk (rIn v1 (rLen 42)) ((if (rGa σ 42 v1) ≤ v4 then mX9_isNow_b91 v3 σ else (if v3 = (0 : Int32) then mX9_isNow_b91 v3 σ else rCk (rIn v1 (rLen 41)) (rCk (rIn ((rGa σ 41 v1) + v4) (rLen 43)) (rCk (rIn v2 (rLen 51)) (rCk (rIn ((rGa σ 51 v2) + v4) (rLen 50)) ((if (rGa σ 43 ((rGa σ 41 v1) + v4)) = (rGa σ 50 ((rGa σ 51 v2) + v4)) then mX9_isNow_b84 (fun v1 v2 v3 v4 σ => mX9_isNow_l33 d v1 v2 v3 v4 σ) v1 v2 v4 (1 : Int32) σ else mX9_isNow_b84 (fun v1 v2 v3 v4 σ => mX9_isNow_l33 d v1 v2 v3 v4 σ) v1 v2 v4 (0 : Int32) σ))))))))
set_option maxHeartbeats 1000000 in
theorem rmX9_isNow_l33 {X : GX} {p : Program} {l : Launch} {e : Env} {s : State} {m : MethodId} {args : Array Value} {below : List Frame} {meth : Method} {c : Code} {f : AH} {n : Nat} {r : Int32 × RS9} (C : CC X p l (RM 0 0 0) s m args meth c RX9 cX9_isNow 5 (some .boolean)) : ∀ (d : Nat) (v1 : Int32) (v2 : Int32) (v3 : Int32) (v4 : Int32) (σ : RS9) (_ : mX9_isNow_l33 d v1 v2 v3 v4 σ = some r), AW X p l e (RM 0 0 0) s m args below meth c 5 (ZM X below args s 0 0 (QMi f n r)) (rHm f σ) n 0 0 33 [some (.ref 181), some (.int v1), some (.int v2), some (.int v3), some (.int v4)] [] := by
  intro d
  induction d with
  | zero =>
    intro v1 v2 v3 v4 σ h
    exact nomatch (show (none : Option (Int32 × RS9)) = some r from h)
  | succ d ih =>
    intro v1 v2 v3 v4 σ h
    have h : rCk (rIn v1 (rLen 42)) ((if (rGa σ 42 v1) ≤ v4 then mX9_isNow_b91 v3 σ else (if v3 = (0 : Int32) then mX9_isNow_b91 v3 σ else rCk (rIn v1 (rLen 41)) (rCk (rIn ((rGa σ 41 v1) + v4) (rLen 43)) (rCk (rIn v2 (rLen 51)) (rCk (rIn ((rGa σ 51 v2) + v4) (rLen 50)) ((if (rGa σ 43 ((rGa σ 41 v1) + v4)) = (rGa σ 50 ((rGa σ 51 v2) + v4)) then mX9_isNow_b84 (fun v1 v2 v3 v4 σ => mX9_isNow_l33 d v1 v2 v3 v4 σ) v1 v2 v4 (1 : Int32) σ else mX9_isNow_b84 (fun v1 v2 v3 v4 σ => mX9_isNow_l33 d v1 v2 v3 v4 σ) v1 v2 v4 (0 : Int32) σ)))))))) = some r := h
    refine aw_iload C dX9_isNow_33 rfl ?_
    refine aw_ald_n C dX9_isNow_35 rfl ?_
    refine aw_get C (v := .ref (rAid 42)) gf_X9_105 (hm_M f σ) rfl dX9_isNow_36 ?_
    refine aw_iload_n C dX9_isNow_39 rfl ?_
    obtain ⟨hb1, h⟩ := ck_some h
    refine am_iald C (rGa σ 42 v1) rfl (inb_vp hb1) rfl dX9_isNow_40 ?_
    refine aw_icmp_ge C 91 dX9_isNow_41 (by decide) (fun q => ?_) (fun q => ?_)
    · rw [if_pos q] at h
      refine aw_fl [none, none, none, some (.int v3), none] ⟨rfl, trivial⟩ ?_
      exact rmX9_isNow_b91 C h
    · rw [if_neg q] at h
      refine aw_iload_n C dX9_isNow_44 rfl ?_
      refine aw_if_eq C 91 dX9_isNow_45 (by decide) (fun q => ?_) (fun q => ?_)
      · rw [if_pos q] at h
        refine aw_fl [none, none, none, some (.int v3), none] ⟨rfl, trivial⟩ ?_
        exact rmX9_isNow_b91 C h
      · rw [if_neg q] at h
        refine aw_ald_n C dX9_isNow_48 rfl ?_
        refine aw_get C (v := .ref (rAid 43)) gf_X9_108 (hm_M f σ) rfl dX9_isNow_49 ?_
        refine aw_ald_n C dX9_isNow_52 rfl ?_
        refine aw_get C (v := .ref (rAid 41)) gf_X9_102 (hm_M f σ) rfl dX9_isNow_53 ?_
        refine aw_iload_n C dX9_isNow_56 rfl ?_
        obtain ⟨hb2, h⟩ := ck_some h
        refine am_iald C (rGa σ 41 v1) rfl (inb_vp hb2) rfl dX9_isNow_57 ?_
        refine aw_iload C dX9_isNow_58 rfl ?_
        refine aw_iadd C dX9_isNow_60 ?_
        obtain ⟨hb3, h⟩ := ck_some h
        refine am_iald C (rGa σ 43 ((rGa σ 41 v1) + v4)) rfl (inb_vp hb3) rfl dX9_isNow_61 ?_
        refine aw_ald_n C dX9_isNow_62 rfl ?_
        refine aw_get C (v := .ref (rAid 50)) gf_X9_123 (hm_M f σ) rfl dX9_isNow_63 ?_
        refine aw_ald_n C dX9_isNow_66 rfl ?_
        refine aw_get C (v := .ref (rAid 51)) gf_X9_126 (hm_M f σ) rfl dX9_isNow_67 ?_
        refine aw_iload_n C dX9_isNow_70 rfl ?_
        obtain ⟨hb4, h⟩ := ck_some h
        refine am_iald C (rGa σ 51 v2) rfl (inb_vp hb4) rfl dX9_isNow_71 ?_
        refine aw_iload C dX9_isNow_72 rfl ?_
        refine aw_iadd C dX9_isNow_74 ?_
        obtain ⟨hb5, h⟩ := ck_some h
        refine am_iald C (rGa σ 50 ((rGa σ 51 v2) + v4)) rfl (inb_vp hb5) rfl dX9_isNow_75 ?_
        refine aw_icmp_ne C 83 dX9_isNow_76 (by decide) (fun q => ?_) (fun q => ?_)
        · rw [if_neg q] at h
          refine aw_iconst C 0 dX9_isNow_83 ki_0 ?_
          refine aw_fl [some (.ref 181), some (.int v1), some (.int v2), none, some (.int v4)] ⟨rfl, ⟨rfl, ⟨rfl, ⟨rfl, trivial⟩⟩⟩⟩ ?_
          exact rmX9_isNow_b84 C (fun v1 v2 v3 v4 σ h => ih v1 v2 v3 v4 σ h) h
        · rw [if_pos q] at h
          refine aw_iconst C 1 dX9_isNow_79 ki_1 ?_
          refine aw_goto C 84 dX9_isNow_80 (by decide) ?_
          refine aw_fl [some (.ref 181), some (.int v1), some (.int v2), none, some (.int v4)] ⟨rfl, ⟨rfl, ⟨rfl, ⟨rfl, trivial⟩⟩⟩⟩ ?_
          exact rmX9_isNow_b84 C (fun v1 v2 v3 v4 σ h => ih v1 v2 v3 v4 σ h) h
def mX9_isNow_b29 (v1 : Int32) (v2 : Int32) (s0 : Int32) (σ : RS9) : Option (Int32 × RS9) := mX9_isNow_l33 rFU v1 v2 s0 (0 : Int32) σ
set_option maxHeartbeats 1000000 in
theorem rmX9_isNow_b29 {X : GX} {p : Program} {l : Launch} {e : Env} {s : State} {m : MethodId} {args : Array Value} {below : List Frame} {meth : Method} {c : Code} {f : AH} {n : Nat} {r : Int32 × RS9} {v1 : Int32} {v2 : Int32} {s0 : Int32} {σ : RS9} (C : CC X p l (RM 0 0 0) s m args meth c RX9 cX9_isNow 5 (some .boolean)) (h : mX9_isNow_b29 v1 v2 s0 σ = some r) : AW X p l e (RM 0 0 0) s m args below meth c 5 (ZM X below args s 0 0 (QMi f n r)) (rHm f σ) n 0 0 29 [some (.ref 181), some (.int v1), some (.int v2), none, none] [.int s0] := by
  have h : mX9_isNow_l33 rFU v1 v2 s0 (0 : Int32) σ = some r := h
  refine aw_istore_n C dX9_isNow_29 (by decide) rfl ?_
  refine aw_nl [some (.ref 181), some (.int v1), some (.int v2), some (.int s0), none] rfl ?_
  refine aw_iconst C 0 dX9_isNow_30 ki_0 ?_
  refine aw_istore C dX9_isNow_31 (by decide) rfl ?_
  refine aw_nl [some (.ref 181), some (.int v1), some (.int v2), some (.int s0), some (.int (0 : Int32))] rfl ?_
  refine aw_fl [some (.ref 181), some (.int v1), some (.int v2), some (.int s0), some (.int (0 : Int32))] ⟨rfl, ⟨rfl, ⟨rfl, ⟨rfl, ⟨rfl, trivial⟩⟩⟩⟩⟩ ?_
  exact rmX9_isNow_l33 C rFU v1 v2 s0 (0 : Int32) σ h
def mX9_isNow (v1 : Int32) (v2 : Int32) (σ : RS9) : Option (Int32 × RS9) := rCk (rIn v1 (rLen 42)) (rCk (rIn (v2 + (1 : Int32)) (rLen 51)) (rCk (rIn v2 (rLen 51)) ((if (rGa σ 42 v1) = ((rGa σ 51 (v2 + (1 : Int32))) - (rGa σ 51 v2)) then mX9_isNow_b29 v1 v2 (1 : Int32) σ else mX9_isNow_b29 v1 v2 (0 : Int32) σ))))
set_option maxHeartbeats 1000000 in
theorem rmX9_isNow {X : GX} {l : Launch} {f : AH} {n : Nat} {r : Int32 × RS9} {v1 : Int32} {v2 : Int32} {σ : RS9} (h : mX9_isNow v1 v2 σ = some r) : AM X l yX9_isNow cX9_isNow 5 (some .boolean) 0 0 0 [.ref 181, .int v1, .int v2] (rHm f σ) n (QMi f n r) := by
  have h : rCk (rIn v1 (rLen 42)) (rCk (rIn (v2 + (1 : Int32)) (rLen 51)) (rCk (rIn v2 (rLen 51)) ((if (rGa σ 42 v1) = ((rGa σ 51 (v2 + (1 : Int32))) - (rGa σ 51 v2)) then mX9_isNow_b29 v1 v2 (1 : Int32) σ else mX9_isNow_b29 v1 v2 (0 : Int32) σ)))) = some r := h
  refine AM.of (by decide +kernel) rfl (Nat.le_of_ble_eq_true rfl) (fun p e s m args below meth c C _ => ?_)
  refine aw_nl [some (.ref 181), some (.int v1), some (.int v2), none, none] rfl ?_
  refine aw_ald_n C dX9_isNow_0 rfl ?_
  refine aw_get C (v := .ref (rAid 42)) gf_X9_105 (hm_M f σ) rfl dX9_isNow_1 ?_
  refine aw_iload_n C dX9_isNow_4 rfl ?_
  obtain ⟨hb1, h⟩ := ck_some h
  refine am_iald C (rGa σ 42 v1) rfl (inb_vp hb1) rfl dX9_isNow_5 ?_
  refine aw_ald_n C dX9_isNow_6 rfl ?_
  refine aw_get C (v := .ref (rAid 51)) gf_X9_126 (hm_M f σ) rfl dX9_isNow_7 ?_
  refine aw_iload_n C dX9_isNow_10 rfl ?_
  refine aw_iconst C 1 dX9_isNow_11 ki_1 ?_
  refine aw_iadd C dX9_isNow_12 ?_
  obtain ⟨hb2, h⟩ := ck_some h
  refine am_iald C (rGa σ 51 (v2 + (1 : Int32))) rfl (inb_vp hb2) rfl dX9_isNow_13 ?_
  refine aw_ald_n C dX9_isNow_14 rfl ?_
  refine aw_get C (v := .ref (rAid 51)) gf_X9_126 (hm_M f σ) rfl dX9_isNow_15 ?_
  refine aw_iload_n C dX9_isNow_18 rfl ?_
  obtain ⟨hb3, h⟩ := ck_some h
  refine am_iald C (rGa σ 51 v2) rfl (inb_vp hb3) rfl dX9_isNow_19 ?_
  refine aw_isub C dX9_isNow_20 ?_
  refine aw_icmp_ne C 28 dX9_isNow_21 (by decide) (fun q => ?_) (fun q => ?_)
  · rw [if_neg q] at h
    refine aw_iconst C 0 dX9_isNow_28 ki_0 ?_
    refine aw_fl [some (.ref 181), some (.int v1), some (.int v2), none, none] ⟨rfl, ⟨rfl, ⟨rfl, trivial⟩⟩⟩ ?_
    exact rmX9_isNow_b29 C h
  · rw [if_pos q] at h
    refine aw_iconst C 1 dX9_isNow_24 ki_1 ?_
    refine aw_goto C 29 dX9_isNow_25 (by decide) ?_
    refine aw_fl [some (.ref 181), some (.int v1), some (.int v2), none, none] ⟨rfl, ⟨rfl, ⟨rfl, trivial⟩⟩⟩ ?_
    exact rmX9_isNow_b29 C h
def mX9_image_l7 : Nat → Int32 → RS9 → Option (Int32 × RS9)
  | 0, _, _ => none
  | d + 1, v1, σ => (if (4347 : Int32) ≤ v1 then rCk (rNb (1 : Int32)) (some ((0 : Int32), (rSf σ 6 (1 : Int32)))) else rCk (rIn v1 (rLen 1)) (rCk (rIn v1 (rLen 3)) (mX9_image_l7 d (v1 + (1 : Int32)) (rSa σ 3 v1 (rGa σ 1 v1)))))
set_option maxHeartbeats 1000000 in
theorem rmX9_image_l7 {X : GX} {p : Program} {l : Launch} {e : Env} {s : State} {m : MethodId} {args : Array Value} {below : List Frame} {meth : Method} {c : Code} {f : AH} {n : Nat} {r : Int32 × RS9} (C : CC X p l (RM 0 0 0) s m args meth c RX9 cX9_image 2 none) : ∀ (d : Nat) (v1 : Int32) (σ : RS9) (_ : mX9_image_l7 d v1 σ = some r), AW X p l e (RM 0 0 0) s m args below meth c 2 (ZM X below args s 0 0 (QMv f n r)) (rHm f σ) n 0 0 7 [some (.ref 181), some (.int v1)] [] := by
  intro d
  induction d with
  | zero =>
    intro v1 σ h
    exact nomatch (show (none : Option (Int32 × RS9)) = some r from h)
  | succ d ih =>
    intro v1 σ h
    have h : (if (4347 : Int32) ≤ v1 then rCk (rNb (1 : Int32)) (some ((0 : Int32), (rSf σ 6 (1 : Int32)))) else rCk (rIn v1 (rLen 1)) (rCk (rIn v1 (rLen 3)) (mX9_image_l7 d (v1 + (1 : Int32)) (rSa σ 3 v1 (rGa σ 1 v1))))) = some r := h
    refine aw_iload_n C dX9_image_7 rfl ?_
    refine aw_sipush C 4347 dX9_image_8 ks_4347 ?_
    refine aw_icmp_ge C 32 dX9_image_11 (by decide) (fun q => ?_) (fun q => ?_)
    · rw [if_pos q] at h
      refine aw_ald_n C dX9_image_32 rfl ?_
      refine aw_iconst C 1 dX9_image_33 ki_1 ?_
      obtain ⟨hb1, h⟩ := ck_some h
      refine am_putZ C gf_X9_468 nf9_6 rfl rfl hb1 dX9_image_34 ?_
      cases h
      exact aw_vret C rfl dX9_image_37 (Nat.le_refl _) (Nat.le_refl _) ⟨rfl, rfl, rfl⟩
    · rw [if_neg q] at h
      refine aw_ald_n C dX9_image_14 rfl ?_
      refine aw_get C (v := .ref (rAid 3)) gf_X9_16 (hm_M f σ) rfl dX9_image_15 ?_
      refine aw_iload_n C dX9_image_18 rfl ?_
      refine aw_ald_n C dX9_image_19 rfl ?_
      refine aw_get C (v := .ref (rAid 1)) gf_X9_7 (hm_M f σ) rfl dX9_image_20 ?_
      refine aw_iload_n C dX9_image_23 rfl ?_
      obtain ⟨hb2, h⟩ := ck_some h
      refine am_iald C (rGa σ 1 v1) rfl (inb_vp hb2) rfl dX9_image_24 ?_
      obtain ⟨hb3, h⟩ := ck_some h
      refine am_iast C rfl (inb_vp hb3) dX9_image_25 ?_
      refine aw_iinc C (v1 + (1 : Int32)) dX9_image_26 rfl (by rw [ki_1]) (by decide) rfl ?_
      refine aw_nl [some (.ref 181), some (.int (v1 + (1 : Int32)))] rfl ?_
      refine aw_goto C 7 dX9_image_29 (by decide) ?_
      refine aw_fl [some (.ref 181), some (.int (v1 + (1 : Int32)))] ⟨rfl, ⟨rfl, trivial⟩⟩ ?_
      exact ih (v1 + (1 : Int32)) (rSa σ 3 v1 (rGa σ 1 v1)) h
def mX9_image (σ : RS9) : Option (Int32 × RS9) := mX9_image_l7 rFU (0 : Int32) (rSf σ 0 (0 : Int32))
set_option maxHeartbeats 1000000 in
theorem rmX9_image {X : GX} {l : Launch} {f : AH} {n : Nat} {r : Int32 × RS9} {σ : RS9} (h : mX9_image σ = some r) : AM X l yX9_image cX9_image 2 none 0 0 0 [.ref 181] (rHm f σ) n (QMv f n r) := by
  have h : mX9_image_l7 rFU (0 : Int32) (rSf σ 0 (0 : Int32)) = some r := h
  refine AM.of (by decide +kernel) rfl (Nat.le_of_ble_eq_true rfl) (fun p e s m args below meth c C _ => ?_)
  refine aw_nl [some (.ref 181), none] rfl ?_
  refine aw_ald_n C dX9_image_0 rfl ?_
  refine aw_iconst C 0 dX9_image_1 ki_0 ?_
  refine am_put C gf_X9_138 nf9_0 rfl rfl dX9_image_2 ?_
  refine aw_iconst C 0 dX9_image_5 ki_0 ?_
  refine aw_istore_n C dX9_image_6 (by decide) rfl ?_
  refine aw_nl [some (.ref 181), some (.int (0 : Int32))] rfl ?_
  refine aw_fl [some (.ref 181), some (.int (0 : Int32))] ⟨rfl, ⟨rfl, trivial⟩⟩ ?_
  exact rmX9_image_l7 C rFU (0 : Int32) (rSf σ 0 (0 : Int32)) h
def mX9_skeleton_l9 : Nat → Int32 → Int32 → RS9 → Option (Int32 × RS9)
  | 0, _, _, _ => none
  | d + 1, v1, v2, σ => (if (σ.1 33) ≤ v2 then some (v1, σ) else rCk (rIn v2 (rLen 35)) (rCk (rIn v2 (rLen 34)) (mX9_skeleton_l9 d (v1 - ((rGa σ 35 v2) - (rGa σ 34 v2))) (v2 + (1 : Int32)) σ)))
set_option maxHeartbeats 1000000 in
theorem rmX9_skeleton_l9 {X : GX} {p : Program} {l : Launch} {e : Env} {s : State} {m : MethodId} {args : Array Value} {below : List Frame} {meth : Method} {c : Code} {f : AH} {n : Nat} {r : Int32 × RS9} (C : CC X p l (RM 0 0 0) s m args meth c RX9 cX9_skeleton 3 (some .int)) : ∀ (d : Nat) (v1 : Int32) (v2 : Int32) (σ : RS9) (_ : mX9_skeleton_l9 d v1 v2 σ = some r), AW X p l e (RM 0 0 0) s m args below meth c 3 (ZM X below args s 0 0 (QMi f n r)) (rHm f σ) n 0 0 9 [some (.ref 181), some (.int v1), some (.int v2)] [] := by
  intro d
  induction d with
  | zero =>
    intro v1 v2 σ h
    exact nomatch (show (none : Option (Int32 × RS9)) = some r from h)
  | succ d ih =>
    intro v1 v2 σ h
    have h : (if (σ.1 33) ≤ v2 then some (v1, σ) else rCk (rIn v2 (rLen 35)) (rCk (rIn v2 (rLen 34)) (mX9_skeleton_l9 d (v1 - ((rGa σ 35 v2) - (rGa σ 34 v2))) (v2 + (1 : Int32)) σ))) = some r := h
    refine aw_iload_n C dX9_skeleton_9 rfl ?_
    refine aw_ald_n C dX9_skeleton_10 rfl ?_
    refine aw_get C (v := .int (σ.1 33)) gf_X9_204 (hm_M f σ) rfl dX9_skeleton_11 ?_
    refine aw_icmp_ge C 39 dX9_skeleton_14 (by decide) (fun q => ?_) (fun q => ?_)
    · rw [if_pos q] at h
      refine aw_iload_n C dX9_skeleton_39 rfl ?_
      cases h
      exact aw_iret C rfl rfl dX9_skeleton_40 (Nat.le_refl _) (Nat.le_refl _) ⟨rfl, rfl, rfl⟩
    · rw [if_neg q] at h
      refine aw_iload_n C dX9_skeleton_17 rfl ?_
      refine aw_ald_n C dX9_skeleton_18 rfl ?_
      refine aw_get C (v := .ref (rAid 35)) gf_X9_84 (hm_M f σ) rfl dX9_skeleton_19 ?_
      refine aw_iload_n C dX9_skeleton_22 rfl ?_
      obtain ⟨hb1, h⟩ := ck_some h
      refine am_iald C (rGa σ 35 v2) rfl (inb_vp hb1) rfl dX9_skeleton_23 ?_
      refine aw_ald_n C dX9_skeleton_24 rfl ?_
      refine aw_get C (v := .ref (rAid 34)) gf_X9_81 (hm_M f σ) rfl dX9_skeleton_25 ?_
      refine aw_iload_n C dX9_skeleton_28 rfl ?_
      obtain ⟨hb2, h⟩ := ck_some h
      refine am_iald C (rGa σ 34 v2) rfl (inb_vp hb2) rfl dX9_skeleton_29 ?_
      refine aw_isub C dX9_skeleton_30 ?_
      refine aw_isub C dX9_skeleton_31 ?_
      refine aw_istore_n C dX9_skeleton_32 (by decide) rfl ?_
      refine aw_nl [some (.ref 181), some (.int (v1 - ((rGa σ 35 v2) - (rGa σ 34 v2)))), some (.int v2)] rfl ?_
      refine aw_iinc C (v2 + (1 : Int32)) dX9_skeleton_33 rfl (by rw [ki_1]) (by decide) rfl ?_
      refine aw_nl [some (.ref 181), some (.int (v1 - ((rGa σ 35 v2) - (rGa σ 34 v2)))), some (.int (v2 + (1 : Int32)))] rfl ?_
      refine aw_goto C 9 dX9_skeleton_36 (by decide) ?_
      refine aw_fl [some (.ref 181), some (.int (v1 - ((rGa σ 35 v2) - (rGa σ 34 v2)))), some (.int (v2 + (1 : Int32)))] ⟨rfl, ⟨rfl, ⟨rfl, trivial⟩⟩⟩ ?_
      exact ih (v1 - ((rGa σ 35 v2) - (rGa σ 34 v2))) (v2 + (1 : Int32)) σ h
def mX9_skeleton (σ : RS9) : Option (Int32 × RS9) := rCk (rIn (0 : Int32) (rLen 1)) (mX9_skeleton_l9 rFU (rGa σ 1 (0 : Int32)) (0 : Int32) σ)
set_option maxHeartbeats 1000000 in
theorem rmX9_skeleton {X : GX} {l : Launch} {f : AH} {n : Nat} {r : Int32 × RS9} {σ : RS9} (h : mX9_skeleton σ = some r) : AM X l yX9_skeleton cX9_skeleton 3 (some .int) 0 0 0 [.ref 181] (rHm f σ) n (QMi f n r) := by
  have h : rCk (rIn (0 : Int32) (rLen 1)) (mX9_skeleton_l9 rFU (rGa σ 1 (0 : Int32)) (0 : Int32) σ) = some r := h
  refine AM.of (by decide +kernel) rfl (Nat.le_of_ble_eq_true rfl) (fun p e s m args below meth c C _ => ?_)
  refine aw_nl [some (.ref 181), none, none] rfl ?_
  refine aw_ald_n C dX9_skeleton_0 rfl ?_
  refine aw_get C (v := .ref (rAid 1)) gf_X9_7 (hm_M f σ) rfl dX9_skeleton_1 ?_
  refine aw_iconst C 0 dX9_skeleton_4 ki_0 ?_
  obtain ⟨hb1, h⟩ := ck_some h
  refine am_iald C (rGa σ 1 (0 : Int32)) rfl (inb_vp hb1) rfl dX9_skeleton_5 ?_
  refine aw_istore_n C dX9_skeleton_6 (by decide) rfl ?_
  refine aw_nl [some (.ref 181), some (.int (rGa σ 1 (0 : Int32))), none] rfl ?_
  refine aw_iconst C 0 dX9_skeleton_7 ki_0 ?_
  refine aw_istore_n C dX9_skeleton_8 (by decide) rfl ?_
  refine aw_nl [some (.ref 181), some (.int (rGa σ 1 (0 : Int32))), some (.int (0 : Int32))] rfl ?_
  refine aw_fl [some (.ref 181), some (.int (rGa σ 1 (0 : Int32))), some (.int (0 : Int32))] ⟨rfl, ⟨rfl, ⟨rfl, trivial⟩⟩⟩ ?_
  exact rmX9_skeleton_l9 C rFU (rGa σ 1 (0 : Int32)) (0 : Int32) σ h
